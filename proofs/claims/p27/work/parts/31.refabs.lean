section
/-! PART 31: the reference's calls, over states -/
theorem z_pc (v : Int32) : (z_is v 0 5 = 1 ∧ vp_in v 6 ∧ v.toNatClampNeg < 6) ∨ (z_is v 0 5 = 0 ∧ ¬ vp_in v 6) := by
  rcases z_is01 v 0 5 with h | h
  · refine Or.inr ⟨h, fun q => ?_⟩
    have hq := z_inT.mp q
    have := z_is0 (v := v) (a := 0) (b := 5) ⟨by rw [z_le, z_t0]; exact hq.1, by rw [z_le, show (5 : Int32).toInt = 5 from by decide]; omega⟩
    rw [h] at this
    exact absurd this (by decide)
  · have h1 : ¬ z_is v 0 5 = 0 := by rw [h]; decide
    obtain ⟨a, b⟩ := z_is1 h1
    have c := z_cl a
    rw [z_le, z_t0] at a
    rw [z_le, show (5 : Int32).toInt = 5 from by decide] at b
    exact Or.inl ⟨h, z_inT.mpr ⟨a, by omega⟩, by omega⟩
def t_2 (a b : Int32) : Int32 := if z_is a 0 5 = 0 then 0 else z_is b 0 5
def t_and (a b : Int32) : Int32 := if a = 0 then 0 else b
def t_nn (v : Int32) : Int32 := if v < 0 then 0 else 1
theorem z_lr0 {t f : Int32} (h : ¬ z_lr t f = 0) : z_lt t f = 0 := by
  unfold z_lr at h
  split at h
  · assumption
  · exact absurd rfl h
theorem z_lr1 {t f : Int32} (h : z_lr t f = 0) : ¬ z_lt t f = 0 := by
  unfold z_lr at h
  split at h
  · exact absurd h (by decide)
  · assumption
theorem z_lt0 {t f : Int32} (h : t = 0) : ¬ z_lt t f = 0 := by
  unfold z_lt
  rw [if_pos h]
  decide
theorem z_lt2 {t f : Int32} (h : f = 0) : ¬ z_lt t f = 0 := by
  unfold z_lt
  subst h
  split
  · decide
  · decide
theorem z_lt3 {t f : Int32} (h1 : t = 1) (h2 : f = 1) : z_lt t f = 0 := by
  rw [h1, h2]; decide
theorem z_is11 {a b c : Int32} (h : ¬ z_is a b c = 0) : z_is a b c = 1 := (z_is01 a b c).resolve_left h
/-- what a call of the reference leaves: its number of the exception, the state, the answer -/
def RP (G : zG) (m pn td : Nat) (k : Int32) (u : sS) (b : sR) : Int32 → zM → Prop := fun r M' => ∃ (K' : Nat → Nat) (tp' : Nat), RI G (if k = 0 then b.2 else u) m k K' tp' pn td M' ∧ (k = 0 → r = b.1)
theorem RP_ok {G : zG} {m pn td : Nat} {k th' : Int32} {u v : sS} {b : sR} {K' : Nat → Nat} {tp' : Nat} {r : Int32} {M' : zM} (e : b = (r, v)) (hk : k = 0) (h : RI G v m th' K' tp' pn td M') (ht : th' = k := by rfl) : RP G m pn td k u b r M' := by
  subst e
  subst ht
  exact ⟨K', tp', by rw [if_pos hk]; exact h, fun _ => rfl⟩
theorem RP_bad {G : zG} {m pn td : Nat} {k th' : Int32} {u : sS} {b : sR} {K' : Nat → Nat} {tp' : Nat} {r : Int32} {M' : zM} (hk : ¬ k = 0) (h : RI G u m th' K' tp' pn td M') (ht : th' = k := by rfl) : RP G m pn td k u b r M' := by
  subst ht
  exact ⟨K', tp', by rw [if_neg hk]; exact h, fun q => absurd q hk⟩
theorem s_ba_b {t : Nat} {u : sS} (h : s_ok t u) (r : Nat) : s_ba (s_ln u) (r + 1) ≤ 16 + 12 * r := by
  obtain ⟨h1, h2, h3, h4, h5, h6⟩ := h
  induction r with
  | zero => show 0 + s_ln u 0 ≤ _; omega
  | succ r ih => show s_ba (s_ln u) (r + 1) + s_ln u (r + 1) ≤ _; have := h4 (r + 1) (by omega); omega
theorem s_ba_nt {t : Nat} {u : sS} (h : s_ok t u) (ht : t ≤ 64) : 16 ≤ s_ba (s_ln u) (s_nr u) ∧ s_ba (s_ln u) (s_nr u) < 900 := by
  have h9 := s_ba_b h (s_nr u - 1)
  have h8 := s_ba_lt (s_ln u) (r := 0) (s := s_nr u) (by have := h.1; omega)
  have h7 := h.2.2.1
  rw [show s_nr u - 1 + 1 = s_nr u from by have := h.1; omega] at h9
  have h1 := h.1
  have h2 := h.2.1
  refine ⟨?_, by omega⟩
  have e : s_ba (s_ln u) 0 = 0 := rfl
  omega
theorem nI_T {n : Nat} (h : n < 100000) : (nI n).toInt = n := nI_toInt (by omega)
/-- a pane in order, on the tape -/
theorem s_or {t : Nat} {u : sS} (h : s_ok t u) (ht : t ≤ 64) {i : Nat} (hi : i < 6) : z_or (nI (s_ba (s_ln u) (p_ro (s_pn u i)))) (p_sa (s_pn u i)) (p_cp (s_pn u i)) (p_po (s_pn u i)) (p_li (s_pn u i)) (s_ba (s_ln u) (s_nr u)) := by
  obtain ⟨h1, ⟨a1, a2, a3, a4, a5, a6, a7⟩, -⟩ := h.2.2.2.2.1 i hi
  have h3 := s_ba_lt (s_ln u) h1
  have h4 := s_ba_nt h ht
  refine ⟨?_, a1, a2, a3, a4, a5, ?_, by omega⟩ <;> rw [nI_T (by omega)] <;> omega
/-- the tape's place of a row's place -/
theorem s_wh {n L : Nat} {sa x : Int32} (h : vp_in (sa + x) L) (hn : n + L < 100000) : ((nI n + sa) + x).toNatClampNeg = n + (sa + x).toNatClampNeg := by
  obtain ⟨h1, h2⟩ := z_inT.mp h
  have e : (nI n + sa) + x = nI n + (sa + x) := Int32.add_assoc _ _ _
  have e2 : (nI n + (sa + x)).toInt = n + (sa + x).toInt := by rw [fb_addI (by rw [nI_T (by omega)]; omega) (by rw [nI_T (by omega)]; omega), nI_T (by omega)]
  have e3 := z_cl (x := sa + x) (by rw [z_le, z_t0]; exact h1)
  have e4 := z_cl (x := nI n + (sa + x)) (by rw [z_le, z_t0]; omega)
  rw [e]
  omega
section RV
variable {t : Nat} {u : sS} {i : Nat} {x : Int32}
theorem s_row (h : s_ok t u) (hi : i < 6) : p_ro (s_pn u i) < s_nr u := (h.2.2.2.2.1 i hi).1
theorem s_ow (h : s_ok t u) (hi : i < 6) : z_ow (p_sa (s_pn u i)) (p_cp (s_pn u i)) (p_po (s_pn u i)) (p_li (s_pn u i)) (s_ln u (p_ro (s_pn u i))) := (h.2.2.2.2.1 i hi).2.1
theorem s_wh' (h : s_ok t u) (ht : t ≤ 64) (hi : i < 6) (hx : vp_in (p_sa (s_pn u i) + x) (s_ln u (p_ro (s_pn u i)))) : ((nI (s_ba (s_ln u) (p_ro (s_pn u i))) + p_sa (s_pn u i)) + x).toNatClampNeg = s_ba (s_ln u) (p_ro (s_pn u i)) + p_at (s_pn u i) x := s_wh hx (by
  have h1 := s_ba_lt (s_ln u) (s_row h hi)
  have h2 := s_ba_nt h ht
  omega)
theorem s_atlt (hx : vp_in (p_sa (s_pn u i) + x) (s_ln u (p_ro (s_pn u i)))) : p_at (s_pn u i) x < s_ln u (p_ro (s_pn u i)) := by
  obtain ⟨h1, h2⟩ := z_inT.mp hx
  have e3 := z_cl (x := p_sa (s_pn u i) + x) (by rw [z_le, z_t0]; exact h1)
  show (p_sa (s_pn u i) + x).toNatClampNeg < _
  omega
theorem s_rd {ft : Nat → Int32} (h : s_ok t u) (ht : t ≤ 64) (hi : i < 6) (hft : ∀ r, r < s_nr u → ∀ j, j < s_ln u r → ft (s_ba (s_ln u) r + j) = s_vl u r j) (hx : vp_in (p_sa (s_pn u i) + x) (s_ln u (p_ro (s_pn u i)))) : ft ((nI (s_ba (s_ln u) (p_ro (s_pn u i))) + p_sa (s_pn u i)) + x).toNatClampNeg = s_val u (s_pn u i) x := by
  rw [s_wh' h ht hi hx]
  exact hft _ (s_row h hi) _ (s_atlt hx)
theorem s_lo (h : s_ok t u) (hi : i < 6) : 0 ≤ (p_li (s_pn u i)).toInt ∧ (p_li (s_pn u i)).toInt ≤ 16 ∧ 0 ≤ (p_cp (s_pn u i)).toInt ∧ (p_cp (s_pn u i)).toInt ≤ 16 := by
  obtain ⟨a1, a2, a3, a4, a5, a6, a7⟩ := s_ow h hi
  omega
/-- an index tested in the reference's way, and in the class's -/
theorem z_hii {x l : Int32} (h : 0 ≤ l.toInt) : z_hi x l = 0 ↔ z_is x 0 (l - 1) = 0 := by
  have hl := fb_rng l
  have e : (l - 1).toInt = l.toInt - 1 := by rw [fb_subI (by rw [z_t1]; omega) (by rw [z_t1]; omega), z_t1]
  unfold z_hi z_is
  by_cases h1 : x < 0
  · simp [h1]
  · rw [if_neg h1, if_neg h1]
    have : l ≤ x ↔ l - 1 < x := by rw [z_le, z_ltI, e]; omega
    by_cases h2 : l ≤ x
    · rw [if_pos h2, if_pos (this.mp h2)]
    · rw [if_neg h2, if_neg (fun q => h2 (this.mpr q))]
theorem s_hiL (h : s_ok t u) (hi : i < 6) : z_hi x (p_li (s_pn u i)) = 0 ↔ z_is x 0 (p_li (s_pn u i) - 1) = 0 := z_hii (s_lo h hi).1
theorem s_hiC (h : s_ok t u) (hi : i < 6) : z_hi x (p_cp (s_pn u i)) = 0 ↔ z_is x 0 (p_cp (s_pn u i) - 1) = 0 := z_hii (s_lo h hi).2.2.1
theorem s_inL (h : s_ok t u) (hi : i < 6) (hx : ¬ z_hi x (p_li (s_pn u i)) = 0) : vp_in (p_sa (s_pn u i) + x) (s_ln u (p_ro (s_pn u i))) := z_owL (s_ow h hi) hx
theorem s_inC (h : s_ok t u) (hi : i < 6) (hx : ¬ z_hi x (p_cp (s_pn u i)) = 0) : vp_in (p_sa (s_pn u i) + x) (s_ln u (p_ro (s_pn u i))) := z_owC (s_ow h hi) hx
theorem s_pos0 (h : s_ok t u) (hi : i < 6) : 0 ≤ (p_po (s_pn u i)).toInt ∧ (p_po (s_pn u i)).toInt ≤ (p_li (s_pn u i)).toInt ∧ (p_li (s_pn u i) - p_po (s_pn u i)).toInt = (p_li (s_pn u i)).toInt - (p_po (s_pn u i)).toInt := by
  obtain ⟨a1, a2, a3, a4, a5, a6, a7⟩ := s_ow h hi
  exact ⟨a2, a3, z_owB (s_ow h hi)⟩
theorem s_left (h : s_ok t u) (hi : i < 6) : p_li (s_pn u i) - p_po (s_pn u i) = 0 ↔ p_li (s_pn u i) - p_po (s_pn u i) ≤ 0 := by
  obtain ⟨a, b, c⟩ := s_pos0 h hi
  rw [z_eqI, z_le, z_t0]
  omega
theorem s_left' (h : s_ok t u) (hi : i < 6) : p_li (s_pn u i) - p_po (s_pn u i) = 0 ↔ ¬ 0 < p_li (s_pn u i) - p_po (s_pn u i) := by
  rw [s_left h hi, Int32.not_lt]
theorem s_inP (h : s_ok t u) (hi : i < 6) (hx : ¬ p_li (s_pn u i) - p_po (s_pn u i) = 0) : vp_in (p_sa (s_pn u i) + p_po (s_pn u i)) (s_ln u (p_ro (s_pn u i))) := z_owP' (s_ow h hi) (fun q => hx ((s_left h hi).mpr q))
theorem s_po0 (h : s_ok t u) (hi : i < 6) : p_po (s_pn u i) = 0 ↔ p_po (s_pn u i) ≤ 0 := by
  obtain ⟨a, b, c⟩ := s_pos0 h hi
  rw [z_eqI, z_le, z_t0]
  omega
theorem s_inQ (h : s_ok t u) (hi : i < 6) (hx : ¬ p_po (s_pn u i) = 0) : vp_in (p_sa (s_pn u i) + (p_po (s_pn u i) - 1)) (s_ln u (p_ro (s_pn u i))) := z_owQ (s_ow h hi) (fun q => hx ((s_po0 h hi).mpr q))
theorem s_rdn (h : s_ok t u) (hi : i < 6) : p_rd (s_pn u i) = 0 ↔ ¬ p_rd (s_pn u i) = 1 := by
  rcases (h.2.2.2.2.1 i hi).2.2.2 with q | q <;> rw [q] <;> decide
end RV
theorem a_X5_go (l : Launch) {G : zG} {u : sS} {m : Nat} {th : Int32} {K : Nat → Nat} {tp pn td : Nat} {R : zM} (hR : RI G u m th K tp pn td R) {t : Nat} (hok : s_ok t u) (ht : t ≤ 64) (pane pl : Int32) : z_Mi l G qX5_go (z_rm 4 0 0) [.ref m, .int pane, .int pl] R (RP G m pn td (z_lt (z_is pane 0 5) 1) u (s_go u pane.toNatClampNeg pl)) := by
  obtain ⟨hm, ⟨ft, htp, hft⟩, ⟨fp, hpn, hfp⟩, htd, hK, iK, i1, i2, i3⟩ := id hR
  rcases z_pc pane with ⟨h_ok, h_ip, hi⟩ | ⟨h_bad, -⟩
  · refine z_Mi_mono (c_X5_go l G hm htd hpn (hK _ hi) h_ok h_ip rfl (hfp _ hi) (i1 _ hi)) ?_
    rintro r M' (⟨c0_0, c0_1, hr9, rfl⟩ | ⟨c1_0, c1_1, hr9, rfl⟩ | ⟨c2_0, hr9, rfl⟩)
    · rw [hr9]
      exact RP_ok (v := s_ak (s_up (u) pane.toNatClampNeg (p_ro (s_pn u pane.toNatClampNeg), (p_sa (s_pn u pane.toNatClampNeg)), (p_cp (s_pn u pane.toNatClampNeg)), pl, (p_li (s_pn u pane.toNatClampNeg)), (p_mk (s_pn u pane.toNatClampNeg)), (p_rd (s_pn u pane.toNatClampNeg)))) ((s_ac u) + 1) ((s_kn u))) (by simp [s_go, p_mv, c0_0, c0_1] <;> rfl) (z_lt3 h_ok rfl) (RI_ak (RI_pn hR hi (p_ro (s_pn u pane.toNatClampNeg), (p_sa (s_pn u pane.toNatClampNeg)), (p_cp (s_pn u pane.toNatClampNeg)), pl, (p_li (s_pn u pane.toNatClampNeg)), (p_mk (s_pn u pane.toNatClampNeg)), (p_rd (s_pn u pane.toNatClampNeg)))) _ _ _)
    · rw [hr9]
      exact RP_ok (v := s_ak (s_up (u) pane.toNatClampNeg (p_ro (s_pn u pane.toNatClampNeg), (p_sa (s_pn u pane.toNatClampNeg)), (p_cp (s_pn u pane.toNatClampNeg)), pl, (p_li (s_pn u pane.toNatClampNeg)), (-1), (p_rd (s_pn u pane.toNatClampNeg)))) ((s_ac u) + 1) ((s_kn u))) (by simp [s_go, p_mv, c1_0, c1_1] <;> rfl) (z_lt3 h_ok rfl) (RI_ak (RI_pn hR hi (p_ro (s_pn u pane.toNatClampNeg), (p_sa (s_pn u pane.toNatClampNeg)), (p_cp (s_pn u pane.toNatClampNeg)), pl, (p_li (s_pn u pane.toNatClampNeg)), (-1), (p_rd (s_pn u pane.toNatClampNeg)))) _ _ _)
    · rw [hr9]
      exact RP_ok (v := s_tdu (s_ak (u) ((s_ac u)) ((s_kn u))) (upd (s_td u) 5 (((s_td u) 5) + 1))) (by simp [s_go, p_mv, c2_0] <;> rfl) (z_lt3 h_ok rfl) (RI_td (RI_ak hR _ _ _) _)
  · refine z_Mi_mono (c_X5_go_bad l G hm h_bad) ?_
    rintro r M' ⟨hr9, rfl⟩
    · exact RP_bad (z_lt0 h_bad) (RI_ak hR _ _ _) (by first | rfl | (simp [t_nn, t_and]; done) | simp [z_lt, h_bad])
theorem a_X5_end (l : Launch) {G : zG} {u : sS} {m : Nat} {th : Int32} {K : Nat → Nat} {tp pn td : Nat} {R : zM} (hR : RI G u m th K tp pn td R) {t : Nat} (hok : s_ok t u) (ht : t ≤ 64) (pane pl : Int32) : z_Mi l G qX5_end (z_rm 4 0 0) [.ref m, .int pane, .int pl] R (RP G m pn td (z_lt (z_is pane 0 5) 1) u (s_end u pane.toNatClampNeg pl)) := by
  obtain ⟨hm, ⟨ft, htp, hft⟩, ⟨fp, hpn, hfp⟩, htd, hK, iK, i1, i2, i3⟩ := id hR
  rcases z_pc pane with ⟨h_ok, h_ip, hi⟩ | ⟨h_bad, -⟩
  · refine z_Mi_mono (c_X5_end l G hm htd hpn (hK _ hi) h_ok h_ip rfl (hfp _ hi) (i1 _ hi)) ?_
    rintro r M' (⟨c0_0, c0_1, c0_2, hr9, rfl⟩ | ⟨c1_0, c1_1, c1_2, hr9, rfl⟩ | ⟨c2_0, c2_1, c2_2, hr9, rfl⟩ | ⟨c3_0, c3_1, c3_2, hr9, rfl⟩ | ⟨c4_0, hr9, rfl⟩)
    · rw [hr9]
      exact RP_ok (v := s_ak (s_up (u) pane.toNatClampNeg (p_ro (s_pn u pane.toNatClampNeg), (p_sa (s_pn u pane.toNatClampNeg)), (p_cp (s_pn u pane.toNatClampNeg)), (p_po (s_pn u pane.toNatClampNeg)), pl, (p_mk (s_pn u pane.toNatClampNeg)), (p_rd (s_pn u pane.toNatClampNeg)))) ((s_ac u) + 1) ((s_kn u))) (by simp [s_end, p_en, c0_0, c0_1, c0_2] <;> rfl) (z_lt3 h_ok rfl) (RI_ak (RI_pn hR hi (p_ro (s_pn u pane.toNatClampNeg), (p_sa (s_pn u pane.toNatClampNeg)), (p_cp (s_pn u pane.toNatClampNeg)), (p_po (s_pn u pane.toNatClampNeg)), pl, (p_mk (s_pn u pane.toNatClampNeg)), (p_rd (s_pn u pane.toNatClampNeg)))) _ _ _)
    · rw [hr9]
      exact RP_ok (v := s_ak (s_up (u) pane.toNatClampNeg (p_ro (s_pn u pane.toNatClampNeg), (p_sa (s_pn u pane.toNatClampNeg)), (p_cp (s_pn u pane.toNatClampNeg)), (p_po (s_pn u pane.toNatClampNeg)), pl, (-1), (p_rd (s_pn u pane.toNatClampNeg)))) ((s_ac u) + 1) ((s_kn u))) (by simp [s_end, p_en, c1_0, c1_1, c1_2] <;> rfl) (z_lt3 h_ok rfl) (RI_ak (RI_pn hR hi (p_ro (s_pn u pane.toNatClampNeg), (p_sa (s_pn u pane.toNatClampNeg)), (p_cp (s_pn u pane.toNatClampNeg)), (p_po (s_pn u pane.toNatClampNeg)), pl, (-1), (p_rd (s_pn u pane.toNatClampNeg)))) _ _ _)
    · rw [hr9]
      exact RP_ok (v := s_ak (s_up (u) pane.toNatClampNeg (p_ro (s_pn u pane.toNatClampNeg), (p_sa (s_pn u pane.toNatClampNeg)), (p_cp (s_pn u pane.toNatClampNeg)), pl, pl, (p_mk (s_pn u pane.toNatClampNeg)), (p_rd (s_pn u pane.toNatClampNeg)))) ((s_ac u) + 1) ((s_kn u))) (by simp [s_end, p_en, c2_0, c2_1, c2_2] <;> rfl) (z_lt3 h_ok rfl) (RI_ak (RI_pn hR hi (p_ro (s_pn u pane.toNatClampNeg), (p_sa (s_pn u pane.toNatClampNeg)), (p_cp (s_pn u pane.toNatClampNeg)), pl, pl, (p_mk (s_pn u pane.toNatClampNeg)), (p_rd (s_pn u pane.toNatClampNeg)))) _ _ _)
    · rw [hr9]
      exact RP_ok (v := s_ak (s_up (u) pane.toNatClampNeg (p_ro (s_pn u pane.toNatClampNeg), (p_sa (s_pn u pane.toNatClampNeg)), (p_cp (s_pn u pane.toNatClampNeg)), pl, pl, (-1), (p_rd (s_pn u pane.toNatClampNeg)))) ((s_ac u) + 1) ((s_kn u))) (by simp [s_end, p_en, c3_0, c3_1, c3_2] <;> rfl) (z_lt3 h_ok rfl) (RI_ak (RI_pn hR hi (p_ro (s_pn u pane.toNatClampNeg), (p_sa (s_pn u pane.toNatClampNeg)), (p_cp (s_pn u pane.toNatClampNeg)), pl, pl, (-1), (p_rd (s_pn u pane.toNatClampNeg)))) _ _ _)
    · rw [hr9]
      exact RP_ok (v := s_tdu (s_ak (u) ((s_ac u)) ((s_kn u))) (upd (s_td u) 5 (((s_td u) 5) + 1))) (by simp [s_end, p_en, c4_0] <;> rfl) (z_lt3 h_ok rfl) (RI_td (RI_ak hR _ _ _) _)
  · refine z_Mi_mono (c_X5_end_bad l G hm h_bad) ?_
    rintro r M' ⟨hr9, rfl⟩
    · exact RP_bad (z_lt0 h_bad) (RI_ak hR _ _ _) (by first | rfl | (simp [t_nn, t_and]; done) | simp [z_lt, h_bad])
theorem a_X5_mark (l : Launch) {G : zG} {u : sS} {m : Nat} {th : Int32} {K : Nat → Nat} {tp pn td : Nat} {R : zM} (hR : RI G u m th K tp pn td R) {t : Nat} (hok : s_ok t u) (ht : t ≤ 64) (pane : Int32) : z_Mi l G qX5_mark (z_rm 4 0 0) [.ref m, .int pane] R (RP G m pn td (z_lt (z_is pane 0 5) 1) u (s_mark u pane.toNatClampNeg)) := by
  obtain ⟨hm, ⟨ft, htp, hft⟩, ⟨fp, hpn, hfp⟩, htd, hK, iK, i1, i2, i3⟩ := id hR
  rcases z_pc pane with ⟨h_ok, h_ip, hi⟩ | ⟨h_bad, -⟩
  · refine z_Mi_mono (c_X5_mark l G hm htd hpn (hK _ hi) h_ok h_ip rfl (hfp _ hi) (i1 _ hi)) ?_
    rintro r M' ⟨hr9, rfl⟩
    · rw [hr9]
      exact RP_ok (v := s_ak (s_up (u) pane.toNatClampNeg (p_ro (s_pn u pane.toNatClampNeg), (p_sa (s_pn u pane.toNatClampNeg)), (p_cp (s_pn u pane.toNatClampNeg)), (p_po (s_pn u pane.toNatClampNeg)), (p_li (s_pn u pane.toNatClampNeg)), (p_po (s_pn u pane.toNatClampNeg)), (p_rd (s_pn u pane.toNatClampNeg)))) ((s_ac u) + 1) ((s_kn u))) (by simp [s_mark, p_mkd, p_po', p_bg] <;> rfl) (z_lt3 h_ok rfl) (RI_ak (RI_pn hR hi (p_ro (s_pn u pane.toNatClampNeg), (p_sa (s_pn u pane.toNatClampNeg)), (p_cp (s_pn u pane.toNatClampNeg)), (p_po (s_pn u pane.toNatClampNeg)), (p_li (s_pn u pane.toNatClampNeg)), (p_po (s_pn u pane.toNatClampNeg)), (p_rd (s_pn u pane.toNatClampNeg)))) _ _ _)
  · refine z_Mi_mono (c_X5_mark_bad l G hm h_bad) ?_
    rintro r M' ⟨hr9, rfl⟩
    · exact RP_bad (z_lt0 h_bad) (RI_ak hR _ _ _) (by first | rfl | (simp [t_nn, t_and]; done) | simp [z_lt, h_bad])
theorem a_X5_back (l : Launch) {G : zG} {u : sS} {m : Nat} {th : Int32} {K : Nat → Nat} {tp pn td : Nat} {R : zM} (hR : RI G u m th K tp pn td R) {t : Nat} (hok : s_ok t u) (ht : t ≤ 64) (pane : Int32) : z_Mi l G qX5_back (z_rm 4 0 0) [.ref m, .int pane] R (RP G m pn td (z_lt (z_is pane 0 5) 1) u (s_back u pane.toNatClampNeg)) := by
  obtain ⟨hm, ⟨ft, htp, hft⟩, ⟨fp, hpn, hfp⟩, htd, hK, iK, i1, i2, i3⟩ := id hR
  rcases z_pc pane with ⟨h_ok, h_ip, hi⟩ | ⟨h_bad, -⟩
  · refine z_Mi_mono (c_X5_back l G hm htd hpn (hK _ hi) h_ok h_ip rfl (hfp _ hi) (i1 _ hi)) ?_
    rintro r M' (⟨c0_0, hr9, rfl⟩ | ⟨c1_0, hr9, rfl⟩)
    · rw [hr9]
      exact RP_ok (v := s_ak (s_up (u) pane.toNatClampNeg (p_ro (s_pn u pane.toNatClampNeg), (p_sa (s_pn u pane.toNatClampNeg)), (p_cp (s_pn u pane.toNatClampNeg)), (p_mk (s_pn u pane.toNatClampNeg)), (p_li (s_pn u pane.toNatClampNeg)), (p_mk (s_pn u pane.toNatClampNeg)), (p_rd (s_pn u pane.toNatClampNeg)))) ((s_ac u) + 1) ((s_kn u))) (by simp [s_back, p_mkd, p_po', p_bg, c0_0] <;> rfl) (z_lt3 h_ok rfl) (RI_ak (RI_pn hR hi (p_ro (s_pn u pane.toNatClampNeg), (p_sa (s_pn u pane.toNatClampNeg)), (p_cp (s_pn u pane.toNatClampNeg)), (p_mk (s_pn u pane.toNatClampNeg)), (p_li (s_pn u pane.toNatClampNeg)), (p_mk (s_pn u pane.toNatClampNeg)), (p_rd (s_pn u pane.toNatClampNeg)))) _ _ _)
    · rw [hr9]
      exact RP_ok (v := s_tdu (s_ak (u) ((s_ac u)) ((s_kn u))) (upd (s_td u) 3 (((s_td u) 3) + 1))) (by simp [s_back, p_mkd, p_po', p_bg, c1_0] <;> rfl) (z_lt3 h_ok rfl) (RI_td (RI_ak hR _ _ _) _)
  · refine z_Mi_mono (c_X5_back_bad l G hm h_bad) ?_
    rintro r M' ⟨hr9, rfl⟩
    · exact RP_bad (z_lt0 h_bad) (RI_ak hR _ _ _) (by first | rfl | (simp [t_nn, t_and]; done) | simp [z_lt, h_bad])
theorem a_X5_clear (l : Launch) {G : zG} {u : sS} {m : Nat} {th : Int32} {K : Nat → Nat} {tp pn td : Nat} {R : zM} (hR : RI G u m th K tp pn td R) {t : Nat} (hok : s_ok t u) (ht : t ≤ 64) (pane : Int32) : z_Mi l G qX5_clear (z_rm 4 0 0) [.ref m, .int pane] R (RP G m pn td (z_lt (z_is pane 0 5) 1) u (s_clear u pane.toNatClampNeg)) := by
  obtain ⟨hm, ⟨ft, htp, hft⟩, ⟨fp, hpn, hfp⟩, htd, hK, iK, i1, i2, i3⟩ := id hR
  rcases z_pc pane with ⟨h_ok, h_ip, hi⟩ | ⟨h_bad, -⟩
  · refine z_Mi_mono (c_X5_clear l G hm htd hpn (hK _ hi) h_ok h_ip rfl (hfp _ hi) (i1 _ hi)) ?_
    rintro r M' ⟨hr9, rfl⟩
    · rw [hr9]
      exact RP_ok (v := s_ak (s_up (u) pane.toNatClampNeg (p_ro (s_pn u pane.toNatClampNeg), (p_sa (s_pn u pane.toNatClampNeg)), (p_cp (s_pn u pane.toNatClampNeg)), 0, (p_cp (s_pn u pane.toNatClampNeg)), (-1), (p_rd (s_pn u pane.toNatClampNeg)))) ((s_ac u) + 1) ((s_kn u))) (by simp [s_clear, p_mkd, p_po', p_bg] <;> rfl) (z_lt3 h_ok rfl) (RI_ak (RI_pn hR hi (p_ro (s_pn u pane.toNatClampNeg), (p_sa (s_pn u pane.toNatClampNeg)), (p_cp (s_pn u pane.toNatClampNeg)), 0, (p_cp (s_pn u pane.toNatClampNeg)), (-1), (p_rd (s_pn u pane.toNatClampNeg)))) _ _ _)
  · refine z_Mi_mono (c_X5_clear_bad l G hm h_bad) ?_
    rintro r M' ⟨hr9, rfl⟩
    · exact RP_bad (z_lt0 h_bad) (RI_ak hR _ _ _) (by first | rfl | (simp [t_nn, t_and]; done) | simp [z_lt, h_bad])
theorem a_X5_flip (l : Launch) {G : zG} {u : sS} {m : Nat} {th : Int32} {K : Nat → Nat} {tp pn td : Nat} {R : zM} (hR : RI G u m th K tp pn td R) {t : Nat} (hok : s_ok t u) (ht : t ≤ 64) (pane : Int32) : z_Mi l G qX5_flip (z_rm 4 0 0) [.ref m, .int pane] R (RP G m pn td (z_lt (z_is pane 0 5) 1) u (s_flip u pane.toNatClampNeg)) := by
  obtain ⟨hm, ⟨ft, htp, hft⟩, ⟨fp, hpn, hfp⟩, htd, hK, iK, i1, i2, i3⟩ := id hR
  rcases z_pc pane with ⟨h_ok, h_ip, hi⟩ | ⟨h_bad, -⟩
  · refine z_Mi_mono (c_X5_flip l G hm htd hpn (hK _ hi) h_ok h_ip rfl (hfp _ hi) (i1 _ hi)) ?_
    rintro r M' ⟨hr9, rfl⟩
    · rw [hr9]
      exact RP_ok (v := s_ak (s_up (u) pane.toNatClampNeg (p_ro (s_pn u pane.toNatClampNeg), (p_sa (s_pn u pane.toNatClampNeg)), (p_cp (s_pn u pane.toNatClampNeg)), 0, (p_po (s_pn u pane.toNatClampNeg)), (-1), (p_rd (s_pn u pane.toNatClampNeg)))) ((s_ac u) + 1) ((s_kn u))) (by simp [s_flip, p_mkd, p_po', p_bg] <;> rfl) (z_lt3 h_ok rfl) (RI_ak (RI_pn hR hi (p_ro (s_pn u pane.toNatClampNeg), (p_sa (s_pn u pane.toNatClampNeg)), (p_cp (s_pn u pane.toNatClampNeg)), 0, (p_po (s_pn u pane.toNatClampNeg)), (-1), (p_rd (s_pn u pane.toNatClampNeg)))) _ _ _)
  · refine z_Mi_mono (c_X5_flip_bad l G hm h_bad) ?_
    rintro r M' ⟨hr9, rfl⟩
    · exact RP_bad (z_lt0 h_bad) (RI_ak hR _ _ _) (by first | rfl | (simp [t_nn, t_and]; done) | simp [z_lt, h_bad])
theorem a_X5_rewind (l : Launch) {G : zG} {u : sS} {m : Nat} {th : Int32} {K : Nat → Nat} {tp pn td : Nat} {R : zM} (hR : RI G u m th K tp pn td R) {t : Nat} (hok : s_ok t u) (ht : t ≤ 64) (pane : Int32) : z_Mi l G qX5_rewind (z_rm 4 0 0) [.ref m, .int pane] R (RP G m pn td (z_lt (z_is pane 0 5) 1) u (s_rewind u pane.toNatClampNeg)) := by
  obtain ⟨hm, ⟨ft, htp, hft⟩, ⟨fp, hpn, hfp⟩, htd, hK, iK, i1, i2, i3⟩ := id hR
  rcases z_pc pane with ⟨h_ok, h_ip, hi⟩ | ⟨h_bad, -⟩
  · refine z_Mi_mono (c_X5_rewind l G hm htd hpn (hK _ hi) h_ok h_ip rfl (hfp _ hi) (i1 _ hi)) ?_
    rintro r M' ⟨hr9, rfl⟩
    · rw [hr9]
      exact RP_ok (v := s_ak (s_up (u) pane.toNatClampNeg (p_ro (s_pn u pane.toNatClampNeg), (p_sa (s_pn u pane.toNatClampNeg)), (p_cp (s_pn u pane.toNatClampNeg)), 0, (p_li (s_pn u pane.toNatClampNeg)), (-1), (p_rd (s_pn u pane.toNatClampNeg)))) ((s_ac u) + 1) ((s_kn u))) (by simp [s_rewind, p_mkd, p_po', p_bg] <;> rfl) (z_lt3 h_ok rfl) (RI_ak (RI_pn hR hi (p_ro (s_pn u pane.toNatClampNeg), (p_sa (s_pn u pane.toNatClampNeg)), (p_cp (s_pn u pane.toNatClampNeg)), 0, (p_li (s_pn u pane.toNatClampNeg)), (-1), (p_rd (s_pn u pane.toNatClampNeg)))) _ _ _)
  · refine z_Mi_mono (c_X5_rewind_bad l G hm h_bad) ?_
    rintro r M' ⟨hr9, rfl⟩
    · exact RP_bad (z_lt0 h_bad) (RI_ak hR _ _ _) (by first | rfl | (simp [t_nn, t_and]; done) | simp [z_lt, h_bad])
theorem a_X5_move (l : Launch) {G : zG} {u : sS} {m : Nat} {th : Int32} {K : Nat → Nat} {tp pn td : Nat} {R : zM} (hR : RI G u m th K tp pn td R) {t : Nat} (hok : s_ok t u) (ht : t ≤ 64) (pane bb : Int32) : z_Mi l G qX5_move (z_rm 5 0 0) [.ref m, .int pane, .int bb] R (RP G m pn td (z_lt (z_is pane 0 5) (z_is bb (-20) 20)) u (s_move u pane.toNatClampNeg bb)) := by
  obtain ⟨hm, ⟨ft, htp, hft⟩, ⟨fp, hpn, hfp⟩, htd, hK, iK, i1, i2, i3⟩ := id hR
  rcases z_pc pane with ⟨h_ok, h_ip, hi⟩ | ⟨h_bad, -⟩
  · refine z_Mi_mono (c_X5_move l G hm htd hpn (hK _ hi) h_ok h_ip rfl (hfp _ hi) (i1 _ hi)) ?_
    rintro r M' (⟨c0_0, c0_1, c0_2, c0_3, hr9, rfl⟩ | ⟨c1_0, c1_1, c1_2, c1_3, hr9, rfl⟩ | ⟨c2_0, c2_1, c2_2, c2_3, hr9, rfl⟩ | ⟨c3_0, c3_1, c3_2, c3_3, hr9, rfl⟩ | ⟨c4_0, c4_1, hr9, rfl⟩ | ⟨c5_0, hr9, rfl⟩)
    · rw [hr9]
      exact RP_ok (v := s_ak (s_up (u) pane.toNatClampNeg (p_ro (s_pn u pane.toNatClampNeg), (p_sa (s_pn u pane.toNatClampNeg)), (p_cp (s_pn u pane.toNatClampNeg)), ((p_po (s_pn u pane.toNatClampNeg)) + bb), (p_li (s_pn u pane.toNatClampNeg)), (p_mk (s_pn u pane.toNatClampNeg)), (p_rd (s_pn u pane.toNatClampNeg)))) ((s_ac u) + 1) ((s_kn u))) (by simp [s_move, p_mv, c0_1, c0_2, c0_3] <;> rfl) (z_lr0 c0_0) (RI_ak (RI_pn hR hi (p_ro (s_pn u pane.toNatClampNeg), (p_sa (s_pn u pane.toNatClampNeg)), (p_cp (s_pn u pane.toNatClampNeg)), ((p_po (s_pn u pane.toNatClampNeg)) + bb), (p_li (s_pn u pane.toNatClampNeg)), (p_mk (s_pn u pane.toNatClampNeg)), (p_rd (s_pn u pane.toNatClampNeg)))) _ _ _) ((z_lt3 h_ok rfl).trans (z_lr0 c0_0).symm)
    · exact absurd c1_3 (fun q => by have h9 := s_pos0 hok hi; have h8 := s_lo hok hi; have h7 := congrArg Int32.toInt q; rw [show (-9 : Int32).toInt = -9 from by decide] at h7; omega)
    · rw [hr9]
      exact RP_ok (v := s_ak (s_up (u) pane.toNatClampNeg (p_ro (s_pn u pane.toNatClampNeg), (p_sa (s_pn u pane.toNatClampNeg)), (p_cp (s_pn u pane.toNatClampNeg)), ((p_po (s_pn u pane.toNatClampNeg)) + bb), (p_li (s_pn u pane.toNatClampNeg)), (-1), (p_rd (s_pn u pane.toNatClampNeg)))) ((s_ac u) + 1) ((s_kn u))) (by simp [s_move, p_mv, c2_1, c2_2, c2_3] <;> rfl) (z_lr0 c2_0) (RI_ak (RI_pn hR hi (p_ro (s_pn u pane.toNatClampNeg), (p_sa (s_pn u pane.toNatClampNeg)), (p_cp (s_pn u pane.toNatClampNeg)), ((p_po (s_pn u pane.toNatClampNeg)) + bb), (p_li (s_pn u pane.toNatClampNeg)), (-1), (p_rd (s_pn u pane.toNatClampNeg)))) _ _ _) ((z_lt3 h_ok rfl).trans (z_lr0 c2_0).symm)
    · exact absurd c3_3 (fun q => by have h9 := s_pos0 hok hi; have h8 := s_lo hok hi; have h7 := congrArg Int32.toInt q; rw [show (-9 : Int32).toInt = -9 from by decide] at h7; omega)
    · rw [hr9]
      exact RP_ok (v := s_tdu (s_ak (u) ((s_ac u)) ((s_kn u))) (upd (s_td u) 5 (((s_td u) 5) + 1))) (by simp [s_move, p_mv, c4_1] <;> rfl) (z_lr0 c4_0) (RI_td (RI_ak hR _ _ _) _) ((z_lt3 h_ok rfl).trans (z_lr0 c4_0).symm)
    · rw [hr9]
      exact RP_bad (z_lr1 c5_0) (RI_ak hR _ _ _)
  · refine z_Mi_mono (c_X5_move_bad l G hm h_bad) ?_
    rintro r M' ⟨hr9, rfl⟩
    · exact RP_bad (z_lt0 h_bad) (RI_ak hR _ _ _) (by first | rfl | (simp [t_nn, t_and]; done) | simp [z_lt, h_bad])
theorem a_X5_stretch (l : Launch) {G : zG} {u : sS} {m : Nat} {th : Int32} {K : Nat → Nat} {tp pn td : Nat} {R : zM} (hR : RI G u m th K tp pn td R) {t : Nat} (hok : s_ok t u) (ht : t ≤ 64) (pane bb : Int32) : z_Mi l G qX5_stretch (z_rm 5 0 0) [.ref m, .int pane, .int bb] R (RP G m pn td (z_lt (z_is pane 0 5) (z_is bb (-20) 20)) u (s_stretch u pane.toNatClampNeg bb)) := by
  obtain ⟨hm, ⟨ft, htp, hft⟩, ⟨fp, hpn, hfp⟩, htd, hK, iK, i1, i2, i3⟩ := id hR
  rcases z_pc pane with ⟨h_ok, h_ip, hi⟩ | ⟨h_bad, -⟩
  · refine z_Mi_mono (c_X5_stretch l G hm htd hpn (hK _ hi) h_ok h_ip rfl (hfp _ hi) (i1 _ hi)) ?_
    rintro r M' (⟨c0_0, c0_1, c0_2, c0_3, c0_4, hr9, rfl⟩ | ⟨c1_0, c1_1, c1_2, c1_3, c1_4, hr9, rfl⟩ | ⟨c2_0, c2_1, c2_2, c2_3, c2_4, hr9, rfl⟩ | ⟨c3_0, c3_1, c3_2, c3_3, c3_4, hr9, rfl⟩ | ⟨c4_0, c4_1, c4_2, c4_3, c4_4, hr9, rfl⟩ | ⟨c5_0, c5_1, c5_2, c5_3, c5_4, hr9, rfl⟩ | ⟨c6_0, c6_1, c6_2, c6_3, c6_4, hr9, rfl⟩ | ⟨c7_0, c7_1, c7_2, c7_3, c7_4, hr9, rfl⟩ | ⟨c8_0, c8_1, hr9, rfl⟩ | ⟨c9_0, hr9, rfl⟩)
    · rw [hr9]
      exact RP_ok (v := s_ak (s_up (u) pane.toNatClampNeg (p_ro (s_pn u pane.toNatClampNeg), (p_sa (s_pn u pane.toNatClampNeg)), (p_cp (s_pn u pane.toNatClampNeg)), (p_po (s_pn u pane.toNatClampNeg)), ((p_li (s_pn u pane.toNatClampNeg)) + bb), (p_mk (s_pn u pane.toNatClampNeg)), (p_rd (s_pn u pane.toNatClampNeg)))) ((s_ac u) + 1) ((s_kn u))) (by simp [s_stretch, p_en, c0_1, c0_2, c0_3, c0_4] <;> rfl) (z_lr0 c0_0) (RI_ak (RI_pn hR hi (p_ro (s_pn u pane.toNatClampNeg), (p_sa (s_pn u pane.toNatClampNeg)), (p_cp (s_pn u pane.toNatClampNeg)), (p_po (s_pn u pane.toNatClampNeg)), ((p_li (s_pn u pane.toNatClampNeg)) + bb), (p_mk (s_pn u pane.toNatClampNeg)), (p_rd (s_pn u pane.toNatClampNeg)))) _ _ _) ((z_lt3 h_ok rfl).trans (z_lr0 c0_0).symm)
    · exact absurd c1_4 (fun q => by have h9 := s_pos0 hok hi; have h8 := s_lo hok hi; have h7 := congrArg Int32.toInt q; rw [show (-9 : Int32).toInt = -9 from by decide] at h7; omega)
    · rw [hr9]
      exact RP_ok (v := s_ak (s_up (u) pane.toNatClampNeg (p_ro (s_pn u pane.toNatClampNeg), (p_sa (s_pn u pane.toNatClampNeg)), (p_cp (s_pn u pane.toNatClampNeg)), (p_po (s_pn u pane.toNatClampNeg)), ((p_li (s_pn u pane.toNatClampNeg)) + bb), (-1), (p_rd (s_pn u pane.toNatClampNeg)))) ((s_ac u) + 1) ((s_kn u))) (by simp [s_stretch, p_en, c2_1, c2_2, c2_3, c2_4] <;> rfl) (z_lr0 c2_0) (RI_ak (RI_pn hR hi (p_ro (s_pn u pane.toNatClampNeg), (p_sa (s_pn u pane.toNatClampNeg)), (p_cp (s_pn u pane.toNatClampNeg)), (p_po (s_pn u pane.toNatClampNeg)), ((p_li (s_pn u pane.toNatClampNeg)) + bb), (-1), (p_rd (s_pn u pane.toNatClampNeg)))) _ _ _) ((z_lt3 h_ok rfl).trans (z_lr0 c2_0).symm)
    · exact absurd c3_4 (fun q => by have h9 := s_pos0 hok hi; have h8 := s_lo hok hi; have h7 := congrArg Int32.toInt q; rw [show (-9 : Int32).toInt = -9 from by decide] at h7; omega)
    · rw [hr9]
      exact RP_ok (v := s_ak (s_up (u) pane.toNatClampNeg (p_ro (s_pn u pane.toNatClampNeg), (p_sa (s_pn u pane.toNatClampNeg)), (p_cp (s_pn u pane.toNatClampNeg)), ((p_li (s_pn u pane.toNatClampNeg)) + bb), ((p_li (s_pn u pane.toNatClampNeg)) + bb), (p_mk (s_pn u pane.toNatClampNeg)), (p_rd (s_pn u pane.toNatClampNeg)))) ((s_ac u) + 1) ((s_kn u))) (by simp [s_stretch, p_en, c4_1, c4_2, c4_3, c4_4] <;> rfl) (z_lr0 c4_0) (RI_ak (RI_pn hR hi (p_ro (s_pn u pane.toNatClampNeg), (p_sa (s_pn u pane.toNatClampNeg)), (p_cp (s_pn u pane.toNatClampNeg)), ((p_li (s_pn u pane.toNatClampNeg)) + bb), ((p_li (s_pn u pane.toNatClampNeg)) + bb), (p_mk (s_pn u pane.toNatClampNeg)), (p_rd (s_pn u pane.toNatClampNeg)))) _ _ _) ((z_lt3 h_ok rfl).trans (z_lr0 c4_0).symm)
    · exact absurd c5_4 (fun q => by have h9 := s_pos0 hok hi; have h8 := s_lo hok hi; have h7 := congrArg Int32.toInt q; rw [show (-9 : Int32).toInt = -9 from by decide] at h7; omega)
    · rw [hr9]
      exact RP_ok (v := s_ak (s_up (u) pane.toNatClampNeg (p_ro (s_pn u pane.toNatClampNeg), (p_sa (s_pn u pane.toNatClampNeg)), (p_cp (s_pn u pane.toNatClampNeg)), ((p_li (s_pn u pane.toNatClampNeg)) + bb), ((p_li (s_pn u pane.toNatClampNeg)) + bb), (-1), (p_rd (s_pn u pane.toNatClampNeg)))) ((s_ac u) + 1) ((s_kn u))) (by simp [s_stretch, p_en, c6_1, c6_2, c6_3, c6_4] <;> rfl) (z_lr0 c6_0) (RI_ak (RI_pn hR hi (p_ro (s_pn u pane.toNatClampNeg), (p_sa (s_pn u pane.toNatClampNeg)), (p_cp (s_pn u pane.toNatClampNeg)), ((p_li (s_pn u pane.toNatClampNeg)) + bb), ((p_li (s_pn u pane.toNatClampNeg)) + bb), (-1), (p_rd (s_pn u pane.toNatClampNeg)))) _ _ _) ((z_lt3 h_ok rfl).trans (z_lr0 c6_0).symm)
    · exact absurd c7_4 (fun q => by have h9 := s_pos0 hok hi; have h8 := s_lo hok hi; have h7 := congrArg Int32.toInt q; rw [show (-9 : Int32).toInt = -9 from by decide] at h7; omega)
    · rw [hr9]
      exact RP_ok (v := s_tdu (s_ak (u) ((s_ac u)) ((s_kn u))) (upd (s_td u) 5 (((s_td u) 5) + 1))) (by simp [s_stretch, p_en, c8_1] <;> rfl) (z_lr0 c8_0) (RI_td (RI_ak hR _ _ _) _) ((z_lt3 h_ok rfl).trans (z_lr0 c8_0).symm)
    · rw [hr9]
      exact RP_bad (z_lr1 c9_0) (RI_ak hR _ _ _)
  · refine z_Mi_mono (c_X5_stretch_bad l G hm h_bad) ?_
    rintro r M' ⟨hr9, rfl⟩
    · exact RP_bad (z_lt0 h_bad) (RI_ak hR _ _ _) (by first | rfl | (simp [t_nn, t_and]; done) | simp [z_lt, h_bad])
theorem a_X5_drain (l : Launch) {G : zG} {u : sS} {m : Nat} {th : Int32} {K : Nat → Nat} {tp pn td : Nat} {R : zM} (hR : RI G u m th K tp pn td R) {t : Nat} (hok : s_ok t u) (ht : t ≤ 64) (pane mn : Int32) : z_Mi l G qX5_drain (z_rm 4 0 0) [.ref m, .int pane, .int mn] R (RP G m pn td (z_lt (z_is pane 0 5) (z_is mn 0 20)) u (s_drain u pane.toNatClampNeg mn)) := by
  obtain ⟨hm, ⟨ft, htp, hft⟩, ⟨fp, hpn, hfp⟩, htd, hK, iK, i1, i2, i3⟩ := id hR
  rcases z_pc pane with ⟨h_ok, h_ip, hi⟩ | ⟨h_bad, -⟩
  · refine z_Mi_mono (c_X5_drain l G hm htd hpn (hK _ hi) h_ok h_ip rfl (hfp _ hi) (i1 _ hi)) ?_
    rintro r M' (⟨c0_0, c0_1, c0_2, hr9, rfl⟩ | ⟨c1_0, c1_1, c1_2, hr9, rfl⟩ | ⟨c2_0, c2_1, c2_2, hr9, rfl⟩ | ⟨c3_0, c3_1, c3_2, hr9, rfl⟩ | ⟨c4_0, hr9, rfl⟩)
    · exact absurd c0_2 (Int32.not_le.mpr c0_1)
    · rw [hr9]
      exact RP_ok (v := s_ak (s_tdu (s_up (u) pane.toNatClampNeg (p_ro (s_pn u pane.toNatClampNeg), (p_sa (s_pn u pane.toNatClampNeg)), (p_cp (s_pn u pane.toNatClampNeg)), (p_po (s_pn u pane.toNatClampNeg)) + ((p_li (s_pn u pane.toNatClampNeg)) - (p_po (s_pn u pane.toNatClampNeg))), (p_li (s_pn u pane.toNatClampNeg)), (p_mk (s_pn u pane.toNatClampNeg)), (p_rd (s_pn u pane.toNatClampNeg)))) (upd (s_td u) 2 (((s_td u) 2) + 1))) ((s_ac u) + 1) ((s_kn u))) (by simp [s_drain, p_po', c1_1, c1_2, (Int32.not_le.mpr c1_1)] <;> rfl) (z_lr0 c1_0) (RI_ak (RI_td (RI_pn hR hi (p_ro (s_pn u pane.toNatClampNeg), (p_sa (s_pn u pane.toNatClampNeg)), (p_cp (s_pn u pane.toNatClampNeg)), (p_po (s_pn u pane.toNatClampNeg)) + ((p_li (s_pn u pane.toNatClampNeg)) - (p_po (s_pn u pane.toNatClampNeg))), (p_li (s_pn u pane.toNatClampNeg)), (p_mk (s_pn u pane.toNatClampNeg)), (p_rd (s_pn u pane.toNatClampNeg)))) _) _ _ _) 
    · rw [hr9]
      exact RP_ok (v := s_ak (s_up (u) pane.toNatClampNeg (p_ro (s_pn u pane.toNatClampNeg), (p_sa (s_pn u pane.toNatClampNeg)), (p_cp (s_pn u pane.toNatClampNeg)), (p_po (s_pn u pane.toNatClampNeg)) + mn, (p_li (s_pn u pane.toNatClampNeg)), (p_mk (s_pn u pane.toNatClampNeg)), (p_rd (s_pn u pane.toNatClampNeg)))) ((s_ac u) + 1) ((s_kn u))) (by simp [s_drain, p_po', c2_1, c2_2, (Int32.not_lt.mp c2_1)] <;> rfl) (z_lr0 c2_0) (RI_ak (RI_pn hR hi (p_ro (s_pn u pane.toNatClampNeg), (p_sa (s_pn u pane.toNatClampNeg)), (p_cp (s_pn u pane.toNatClampNeg)), (p_po (s_pn u pane.toNatClampNeg)) + mn, (p_li (s_pn u pane.toNatClampNeg)), (p_mk (s_pn u pane.toNatClampNeg)), (p_rd (s_pn u pane.toNatClampNeg)))) _ _ _) 
    · exact absurd (Int32.le_refl mn) c3_2
    · rw [hr9]
      exact RP_bad (z_lr1 c4_0) (RI_ak hR _ _ _)
  · refine z_Mi_mono (c_X5_drain_bad l G hm h_bad) ?_
    rintro r M' ⟨hr9, rfl⟩
    · exact RP_bad (z_lt0 h_bad) (RI_ak hR _ _ _) (by first | rfl | (simp [t_nn, t_and]; done) | simp [z_lt, h_bad])
theorem a_X5_putAt (l : Launch) {G : zG} {u : sS} {m : Nat} {th : Int32} {K : Nat → Nat} {tp pn td : Nat} {R : zM} (hR : RI G u m th K tp pn td R) {t : Nat} (hok : s_ok t u) (ht : t ≤ 64) (pane ix v : Int32) : z_Mi l G qX5_putAt (z_rm 4 0 0) [.ref m, .int pane, .int ix, .int v] R (RP G m pn td (z_lt (z_is pane 0 5) (t_nn v)) u (s_putAt u pane.toNatClampNeg ix v)) := by
  obtain ⟨hm, ⟨ft, htp, hft⟩, ⟨fp, hpn, hfp⟩, htd, hK, iK, i1, i2, i3⟩ := id hR
  rcases z_pc pane with ⟨h_ok, h_ip, hi⟩ | ⟨h_bad, -⟩
  · refine z_Mi_mono (c_X5_putAt l G hm htd htp hpn (hK _ hi) h_ok h_ip rfl (hfp _ hi) (i2 _ hi) (i1 _ hi) i3 (s_or hok ht hi)) ?_
    rintro r M' (⟨c0_0, hr9, rfl⟩ | ⟨c1_0, c1_1, c1_2, hr9, rfl⟩ | ⟨c2_0, c2_1, c2_2, hr9, rfl⟩ | ⟨c3_0, c3_1, hr9, rfl⟩)
    · rw [hr9]
      exact RP_bad (z_lt2 (by simp [t_nn, c0_0])) (RI_ak hR _ _ _) (by simp [t_nn, c0_0])
    · rw [hr9]
      rw [s_rd hok ht hi hft (s_inL hok hi (fun q => c1_1 ((s_hiL hok hi).mp q)))]
      exact RP_ok (v := s_ak (s_wr (u) (p_ro (s_pn u pane.toNatClampNeg)) (p_at (s_pn u pane.toNatClampNeg) ix) v) ((s_ac u) + 1) ((s_kn u))) (by simp [s_putAt, c1_1, c1_2, (show ¬ z_hi ix (p_li (s_pn u pane.toNatClampNeg)) = 0 from fun q => c1_1 ((s_hiL hok hi).mp q))] <;> rfl) (z_lt3 h_ok (by simp [t_nn, c1_0])) (RI_ak (RI_wr hR (s_row hok hi) (s_atlt (s_inL hok hi (fun q => c1_1 ((s_hiL hok hi).mp q)))) (s_wh' hok ht hi (s_inL hok hi (fun q => c1_1 ((s_hiL hok hi).mp q)))) htp _) _ _ _) (by simp [t_nn, c1_0])
    · rw [hr9]
      exact RP_ok (v := s_tdu (s_ak (u) ((s_ac u)) ((s_kn u))) (upd (s_td u) 4 (((s_td u) 4) + 1))) (by simp [s_putAt, c2_1, c2_2, (show ¬ z_hi ix (p_li (s_pn u pane.toNatClampNeg)) = 0 from fun q => c2_1 ((s_hiL hok hi).mp q))] <;> rfl) (z_lt3 h_ok (by simp [t_nn, c2_0])) (RI_td (RI_ak hR _ _ _) _) (by simp [t_nn, c2_0])
    · rw [hr9]
      exact RP_ok (v := s_tdu (s_ak (u) ((s_ac u)) ((s_kn u))) (upd (s_td u) 5 (((s_td u) 5) + 1))) (by simp [s_putAt, c3_1, ((s_hiL hok hi).mpr c3_1)] <;> rfl) (z_lt3 h_ok (by simp [t_nn, c3_0])) (RI_td (RI_ak hR _ _ _) _) (by simp [t_nn, c3_0])
  · refine z_Mi_mono (c_X5_putAt_bad l G hm h_bad) ?_
    rintro r M' (⟨b0_0, hr9, rfl⟩ | ⟨b1_0, hr9, rfl⟩)
    · exact RP_bad (z_lt0 h_bad) (RI_ak hR _ _ _) (by first | rfl | (simp [t_nn, t_and, b0_0]; done) | simp [z_lt, h_bad])
    · exact RP_bad (z_lt0 h_bad) (RI_ak hR _ _ _) (by first | rfl | (simp [t_nn, t_and, b1_0]; done) | simp [z_lt, h_bad])
theorem a_X5_reach (l : Launch) {G : zG} {u : sS} {m : Nat} {th : Int32} {K : Nat → Nat} {tp pn td : Nat} {R : zM} (hR : RI G u m th K tp pn td R) {t : Nat} (hok : s_ok t u) (ht : t ≤ 64) (pane ix v : Int32) : z_Mi l G qX5_reach (z_rm 4 0 0) [.ref m, .int pane, .int ix, .int v] R (RP G m pn td (z_lt (z_is pane 0 5) (t_nn v)) u (s_reach u pane.toNatClampNeg ix v)) := by
  obtain ⟨hm, ⟨ft, htp, hft⟩, ⟨fp, hpn, hfp⟩, htd, hK, iK, i1, i2, i3⟩ := id hR
  rcases z_pc pane with ⟨h_ok, h_ip, hi⟩ | ⟨h_bad, -⟩
  · refine z_Mi_mono (c_X5_reach l G hm htd htp hpn (hK _ hi) h_ok h_ip rfl (hfp _ hi) (i2 _ hi) (i1 _ hi) i3 (s_or hok ht hi)) ?_
    rintro r M' (⟨c0_0, hr9, rfl⟩ | ⟨c1_0, c1_1, c1_2, hr9, rfl⟩ | ⟨c2_0, c2_1, c2_2, hr9, rfl⟩ | ⟨c3_0, c3_1, hr9, rfl⟩)
    · rw [hr9]
      exact RP_bad (z_lt2 (by simp [t_nn, c0_0])) (RI_ak hR _ _ _) (by simp [t_nn, c0_0])
    · rw [hr9]
      rw [s_rd hok ht hi hft (s_inC hok hi (fun q => c1_2 ((s_hiC hok hi).mp q)))]
      exact RP_ok (v := s_ak (s_wr (u) (p_ro (s_pn u pane.toNatClampNeg)) (p_at (s_pn u pane.toNatClampNeg) ix) v) ((s_ac u) + 1) ((s_kn u))) (by simp [s_reach, c1_1, c1_2, (show ¬ z_hi ix (p_cp (s_pn u pane.toNatClampNeg)) = 0 from fun q => c1_2 ((s_hiC hok hi).mp q))] <;> rfl) (z_lt3 h_ok (by simp [t_nn, c1_0])) (RI_ak (RI_wr hR (s_row hok hi) (s_atlt (s_inC hok hi (fun q => c1_2 ((s_hiC hok hi).mp q)))) (s_wh' hok ht hi (s_inC hok hi (fun q => c1_2 ((s_hiC hok hi).mp q)))) htp _) _ _ _) (by simp [t_nn, c1_0])
    · rw [hr9]
      exact RP_ok (v := s_tdu (s_ak (u) ((s_ac u)) ((s_kn u))) (upd (s_td u) 5 (((s_td u) 5) + 1))) (by simp [s_reach, c2_1, c2_2, ((s_hiC hok hi).mpr c2_2)] <;> rfl) (z_lt3 h_ok (by simp [t_nn, c2_0])) (RI_td (RI_ak hR _ _ _) _) (by simp [t_nn, c2_0])
    · rw [hr9]
      exact RP_ok (v := s_tdu (s_ak (u) ((s_ac u)) ((s_kn u))) (upd (s_td u) 4 (((s_td u) 4) + 1))) (by simp [s_reach, c3_1] <;> rfl) (z_lt3 h_ok (by simp [t_nn, c3_0])) (RI_td (RI_ak hR _ _ _) _) (by simp [t_nn, c3_0])
  · refine z_Mi_mono (c_X5_reach_bad l G hm h_bad) ?_
    rintro r M' (⟨b0_0, hr9, rfl⟩ | ⟨b1_0, hr9, rfl⟩)
    · exact RP_bad (z_lt0 h_bad) (RI_ak hR _ _ _) (by first | rfl | (simp [t_nn, t_and, b0_0]; done) | simp [z_lt, h_bad])
    · exact RP_bad (z_lt0 h_bad) (RI_ak hR _ _ _) (by first | rfl | (simp [t_nn, t_and, b1_0]; done) | simp [z_lt, h_bad])
theorem a_X5_put (l : Launch) {G : zG} {u : sS} {m : Nat} {th : Int32} {K : Nat → Nat} {tp pn td : Nat} {R : zM} (hR : RI G u m th K tp pn td R) {t : Nat} (hok : s_ok t u) (ht : t ≤ 64) (pane v : Int32) : z_Mi l G qX5_put (z_rm 4 0 0) [.ref m, .int pane, .int v] R (RP G m pn td (z_lt (z_is pane 0 5) (t_nn v)) u (s_put u pane.toNatClampNeg v)) := by
  obtain ⟨hm, ⟨ft, htp, hft⟩, ⟨fp, hpn, hfp⟩, htd, hK, iK, i1, i2, i3⟩ := id hR
  rcases z_pc pane with ⟨h_ok, h_ip, hi⟩ | ⟨h_bad, -⟩
  · refine z_Mi_mono (c_X5_put l G hm htd htp hpn (hK _ hi) h_ok h_ip rfl (hfp _ hi) (i2 _ hi) (i1 _ hi) i3 (s_or hok ht hi)) ?_
    rintro r M' (⟨c0_0, hr9, rfl⟩ | ⟨c1_0, c1_1, c1_2, hr9, rfl⟩ | ⟨c2_0, c2_1, c2_2, hr9, rfl⟩ | ⟨c3_0, c3_1, hr9, rfl⟩)
    · rw [hr9]
      exact RP_bad (z_lt2 (by simp [t_nn, c0_0])) (RI_ak hR _ _ _) (by simp [t_nn, c0_0])
    · rw [hr9]
      exact RP_ok (v := s_ak (s_up (s_wr (u) (p_ro (s_pn u pane.toNatClampNeg)) (p_at (s_pn u pane.toNatClampNeg) (p_po (s_pn u pane.toNatClampNeg))) v) pane.toNatClampNeg (p_ro (s_pn u pane.toNatClampNeg), (p_sa (s_pn u pane.toNatClampNeg)), (p_cp (s_pn u pane.toNatClampNeg)), (p_po (s_pn u pane.toNatClampNeg)) + 1, (p_li (s_pn u pane.toNatClampNeg)), (p_mk (s_pn u pane.toNatClampNeg)), (p_rd (s_pn u pane.toNatClampNeg)))) ((s_ac u) + 1) ((s_kn u))) (by simp [s_put, s_put1, p_po', c1_1, c1_2] <;> rfl) (z_lt3 h_ok (by simp [t_nn, c1_0])) (RI_ak (RI_pn (RI_wr hR (s_row hok hi) (s_atlt (s_inP hok hi c1_2)) (s_wh' hok ht hi (s_inP hok hi c1_2)) htp _) hi (p_ro (s_pn u pane.toNatClampNeg), (p_sa (s_pn u pane.toNatClampNeg)), (p_cp (s_pn u pane.toNatClampNeg)), (p_po (s_pn u pane.toNatClampNeg)) + 1, (p_li (s_pn u pane.toNatClampNeg)), (p_mk (s_pn u pane.toNatClampNeg)), (p_rd (s_pn u pane.toNatClampNeg)))) _ _ _) (by simp [t_nn, c1_0])
    · rw [hr9]
      exact RP_ok (v := s_tdu (s_ak (u) ((s_ac u)) ((s_kn u))) (upd (s_td u) 1 (((s_td u) 1) + 1))) (by simp [s_put, s_put1, p_po', c2_1, c2_2] <;> rfl) (z_lt3 h_ok (by simp [t_nn, c2_0])) (RI_td (RI_ak hR _ _ _) _) (by simp [t_nn, c2_0])
    · rw [hr9]
      exact RP_ok (v := s_tdu (s_ak (u) ((s_ac u)) ((s_kn u))) (upd (s_td u) 4 (((s_td u) 4) + 1))) (by simp [s_put, s_put1, p_po', c3_1] <;> rfl) (z_lt3 h_ok (by simp [t_nn, c3_0])) (RI_td (RI_ak hR _ _ _) _) (by simp [t_nn, c3_0])
  · refine z_Mi_mono (c_X5_put_bad l G hm h_bad) ?_
    rintro r M' (⟨b0_0, hr9, rfl⟩ | ⟨b1_0, hr9, rfl⟩)
    · exact RP_bad (z_lt0 h_bad) (RI_ak hR _ _ _) (by first | rfl | (simp [t_nn, t_and, b0_0]; done) | simp [z_lt, h_bad])
    · exact RP_bad (z_lt0 h_bad) (RI_ak hR _ _ _) (by first | rfl | (simp [t_nn, t_and, b1_0]; done) | simp [z_lt, h_bad])
theorem a_X5_at (l : Launch) {G : zG} {u : sS} {m : Nat} {th : Int32} {K : Nat → Nat} {tp pn td : Nat} {R : zM} (hR : RI G u m th K tp pn td R) {t : Nat} (hok : s_ok t u) (ht : t ≤ 64) (pane ix : Int32) : z_Mi l G qX5_at (z_rm 4 0 0) [.ref m, .int pane, .int ix] R (RP G m pn td (z_lt (z_is pane 0 5) 1) u ((s_at u pane.toNatClampNeg ix, u))) := by
  obtain ⟨hm, ⟨ft, htp, hft⟩, ⟨fp, hpn, hfp⟩, htd, hK, iK, i1, i2, i3⟩ := id hR
  rcases z_pc pane with ⟨h_ok, h_ip, hi⟩ | ⟨h_bad, -⟩
  · refine z_Mi_mono (c_X5_at l G hm htp hpn (hK _ hi) h_ok h_ip rfl (hfp _ hi) (i2 _ hi) (s_or hok ht hi)) ?_
    rintro r M' (⟨c0_0, hr9, rfl⟩ | ⟨c1_0, hr9, rfl⟩)
    · rw [hr9]
      exact RP_ok (v := s_ak (u) ((s_ac u)) ((s_kn u))) (by simp [s_at, c0_0, ((s_hiL hok hi).mpr c0_0)] <;> rfl) (z_lt3 h_ok rfl) (RI_ak hR _ _ _)
    · rw [hr9]
      rw [s_rd hok ht hi hft (s_inL hok hi (fun q => c1_0 ((s_hiL hok hi).mp q)))]
      exact RP_ok (v := s_ak (u) ((s_ac u)) ((s_kn u))) (by simp [s_at, c1_0, (show ¬ z_hi ix (p_li (s_pn u pane.toNatClampNeg)) = 0 from fun q => c1_0 ((s_hiL hok hi).mp q))] <;> rfl) (z_lt3 h_ok rfl) (RI_ak hR _ _ _)
  · refine z_Mi_mono (c_X5_at_bad l G hm h_bad) ?_
    rintro r M' ⟨hr9, rfl⟩
    · exact RP_bad (z_lt0 h_bad) (RI_ak hR _ _ _) (by first | rfl | (simp [t_nn, t_and]; done) | simp [z_lt, h_bad])
theorem a_X5_peek (l : Launch) {G : zG} {u : sS} {m : Nat} {th : Int32} {K : Nat → Nat} {tp pn td : Nat} {R : zM} (hR : RI G u m th K tp pn td R) {t : Nat} (hok : s_ok t u) (ht : t ≤ 64) (pane : Int32) : z_Mi l G qX5_peek (z_rm 4 0 0) [.ref m, .int pane] R (RP G m pn td (z_lt (z_is pane 0 5) 1) u ((s_peek u pane.toNatClampNeg, u))) := by
  obtain ⟨hm, ⟨ft, htp, hft⟩, ⟨fp, hpn, hfp⟩, htd, hK, iK, i1, i2, i3⟩ := id hR
  rcases z_pc pane with ⟨h_ok, h_ip, hi⟩ | ⟨h_bad, -⟩
  · refine z_Mi_mono (c_X5_peek l G hm htp hpn (hK _ hi) h_ok h_ip rfl (hfp _ hi) (i2 _ hi) (s_or hok ht hi)) ?_
    rintro r M' (⟨c0_0, hr9, rfl⟩ | ⟨c1_0, hr9, rfl⟩)
    · rw [hr9]
      rw [s_rd hok ht hi hft (s_inP hok hi c0_0)]
      exact RP_ok (v := s_ak (u) ((s_ac u)) ((s_kn u))) (by simp [s_peek, c0_0] <;> rfl) (z_lt3 h_ok rfl) (RI_ak hR _ _ _)
    · rw [hr9]
      exact RP_ok (v := s_ak (u) ((s_ac u)) ((s_kn u))) (by simp [s_peek, c1_0] <;> rfl) (z_lt3 h_ok rfl) (RI_ak hR _ _ _)
  · refine z_Mi_mono (c_X5_peek_bad l G hm h_bad) ?_
    rintro r M' ⟨hr9, rfl⟩
    · exact RP_bad (z_lt0 h_bad) (RI_ak hR _ _ _) (by first | rfl | (simp [t_nn, t_and]; done) | simp [z_lt, h_bad])
theorem a_X5_get (l : Launch) {G : zG} {u : sS} {m : Nat} {th : Int32} {K : Nat → Nat} {tp pn td : Nat} {R : zM} (hR : RI G u m th K tp pn td R) {t : Nat} (hok : s_ok t u) (ht : t ≤ 64) (pane : Int32) : z_Mi l G qX5_get (z_rm 4 0 0) [.ref m, .int pane] R (RP G m pn td (z_lt (z_is pane 0 5) 1) u (s_get u pane.toNatClampNeg)) := by
  obtain ⟨hm, ⟨ft, htp, hft⟩, ⟨fp, hpn, hfp⟩, htd, hK, iK, i1, i2, i3⟩ := id hR
  rcases z_pc pane with ⟨h_ok, h_ip, hi⟩ | ⟨h_bad, -⟩
  · refine z_Mi_mono (c_X5_get l G hm htd htp hpn (hK _ hi) h_ok h_ip rfl (hfp _ hi) (i2 _ hi) (i1 _ hi) i3 (s_or hok ht hi)) ?_
    rintro r M' (⟨c0_0, hr9, rfl⟩ | ⟨c1_0, hr9, rfl⟩)
    · rw [hr9]
      rw [Int32.add_sub_cancel, s_rd hok ht hi hft (s_inP hok hi c0_0)]
      exact RP_ok (v := s_ak (s_up (u) pane.toNatClampNeg (p_ro (s_pn u pane.toNatClampNeg), (p_sa (s_pn u pane.toNatClampNeg)), (p_cp (s_pn u pane.toNatClampNeg)), (p_po (s_pn u pane.toNatClampNeg)) + 1, (p_li (s_pn u pane.toNatClampNeg)), (p_mk (s_pn u pane.toNatClampNeg)), (p_rd (s_pn u pane.toNatClampNeg)))) ((s_ac u) + 1) ((s_kn u))) (by simp [s_get, p_po', c0_0] <;> rfl) (z_lt3 h_ok rfl) (RI_ak (RI_pn hR hi (p_ro (s_pn u pane.toNatClampNeg), (p_sa (s_pn u pane.toNatClampNeg)), (p_cp (s_pn u pane.toNatClampNeg)), (p_po (s_pn u pane.toNatClampNeg)) + 1, (p_li (s_pn u pane.toNatClampNeg)), (p_mk (s_pn u pane.toNatClampNeg)), (p_rd (s_pn u pane.toNatClampNeg)))) _ _ _)
    · rw [hr9]
      exact RP_ok (v := s_tdu (s_ak (u) ((s_ac u)) ((s_kn u))) (upd (s_td u) 2 (((s_td u) 2) + 1))) (by simp [s_get, p_po', c1_0] <;> rfl) (z_lt3 h_ok rfl) (RI_td (RI_ak hR _ _ _) _)
  · refine z_Mi_mono (c_X5_get_bad l G hm h_bad) ?_
    rintro r M' ⟨hr9, rfl⟩
    · exact RP_bad (z_lt0 h_bad) (RI_ak hR _ _ _) (by first | rfl | (simp [t_nn, t_and]; done) | simp [z_lt, h_bad])
theorem a_X5_pop (l : Launch) {G : zG} {u : sS} {m : Nat} {th : Int32} {K : Nat → Nat} {tp pn td : Nat} {R : zM} (hR : RI G u m th K tp pn td R) {t : Nat} (hok : s_ok t u) (ht : t ≤ 64) (pane : Int32) : z_Mi l G qX5_pop (z_rm 4 0 0) [.ref m, .int pane] R (RP G m pn td (z_lt (z_is pane 0 5) 1) u (s_pop u pane.toNatClampNeg)) := by
  obtain ⟨hm, ⟨ft, htp, hft⟩, ⟨fp, hpn, hfp⟩, htd, hK, iK, i1, i2, i3⟩ := id hR
  rcases z_pc pane with ⟨h_ok, h_ip, hi⟩ | ⟨h_bad, -⟩
  · refine z_Mi_mono (c_X5_pop l G hm htd htp hpn (hK _ hi) h_ok h_ip rfl (hfp _ hi) (i2 _ hi) (i1 _ hi) i3 (s_or hok ht hi)) ?_
    rintro r M' (⟨c0_0, c0_1, hr9, rfl⟩ | ⟨c1_0, c1_1, hr9, rfl⟩ | ⟨c2_0, hr9, rfl⟩)
    · rw [hr9]
      rw [s_rd hok ht hi hft (s_inQ hok hi c0_0)]
      exact RP_ok (v := s_ak (s_up (u) pane.toNatClampNeg (p_ro (s_pn u pane.toNatClampNeg), (p_sa (s_pn u pane.toNatClampNeg)), (p_cp (s_pn u pane.toNatClampNeg)), ((p_po (s_pn u pane.toNatClampNeg)) - 1), (p_li (s_pn u pane.toNatClampNeg)), (p_mk (s_pn u pane.toNatClampNeg)), (p_rd (s_pn u pane.toNatClampNeg)))) ((s_ac u) + 1) ((s_kn u))) (by simp [s_pop, p_mv, c0_0, c0_1] <;> rfl) (z_lt3 h_ok rfl) (RI_ak (RI_pn hR hi (p_ro (s_pn u pane.toNatClampNeg), (p_sa (s_pn u pane.toNatClampNeg)), (p_cp (s_pn u pane.toNatClampNeg)), ((p_po (s_pn u pane.toNatClampNeg)) - 1), (p_li (s_pn u pane.toNatClampNeg)), (p_mk (s_pn u pane.toNatClampNeg)), (p_rd (s_pn u pane.toNatClampNeg)))) _ _ _)
    · rw [hr9]
      rw [s_rd hok ht hi hft (s_inQ hok hi c1_0)]
      exact RP_ok (v := s_ak (s_up (u) pane.toNatClampNeg (p_ro (s_pn u pane.toNatClampNeg), (p_sa (s_pn u pane.toNatClampNeg)), (p_cp (s_pn u pane.toNatClampNeg)), ((p_po (s_pn u pane.toNatClampNeg)) - 1), (p_li (s_pn u pane.toNatClampNeg)), (-1), (p_rd (s_pn u pane.toNatClampNeg)))) ((s_ac u) + 1) ((s_kn u))) (by simp [s_pop, p_mv, c1_0, c1_1] <;> rfl) (z_lt3 h_ok rfl) (RI_ak (RI_pn hR hi (p_ro (s_pn u pane.toNatClampNeg), (p_sa (s_pn u pane.toNatClampNeg)), (p_cp (s_pn u pane.toNatClampNeg)), ((p_po (s_pn u pane.toNatClampNeg)) - 1), (p_li (s_pn u pane.toNatClampNeg)), (-1), (p_rd (s_pn u pane.toNatClampNeg)))) _ _ _)
    · rw [hr9]
      exact RP_ok (v := s_tdu (s_ak (u) ((s_ac u)) ((s_kn u))) (upd (s_td u) 5 (((s_td u) 5) + 1))) (by simp [s_pop, p_mv, c2_0] <;> rfl) (z_lt3 h_ok rfl) (RI_td (RI_ak hR _ _ _) _)
  · refine z_Mi_mono (c_X5_pop_bad l G hm h_bad) ?_
    rintro r M' ⟨hr9, rfl⟩
    · exact RP_bad (z_lt0 h_bad) (RI_ak hR _ _ _) (by first | rfl | (simp [t_nn, t_and]; done) | simp [z_lt, h_bad])
theorem z_wh2 {x : Int32} (h : ¬ z_is x 0 3 = 0) (h0 : ¬ x = 0) (h1 : ¬ x = 1) (h3 : ¬ x = 3) : x = 2 := by
  obtain ⟨a, b⟩ := z_is1 h
  rw [z_le, z_t0] at a
  rw [z_le, show (3 : Int32).toInt = 3 from by decide] at b
  rw [z_eqI, z_t0] at h0
  rw [z_eqI, z_t1] at h1
  rw [z_eqI, show (3 : Int32).toInt = 3 from by decide] at h3
  rw [z_eqI, show (2 : Int32).toInt = 2 from by decide]
  omega
theorem a_X5_would (l : Launch) {G : zG} {u : sS} {m : Nat} {th : Int32} {K : Nat → Nat} {tp pn td : Nat} {R : zM} (hR : RI G u m th K tp pn td R) {t : Nat} (hok : s_ok t u) (ht : t ≤ 64) (pane wh : Int32) : z_Mi l G qX5_would (z_rm 4 0 0) [.ref m, .int pane, .int wh] R (RP G m pn td (z_lt (z_is pane 0 5) (z_is wh 0 3)) u ((s_would u pane.toNatClampNeg wh, u))) := by
  obtain ⟨hm, ⟨ft, htp, hft⟩, ⟨fp, hpn, hfp⟩, htd, hK, iK, i1, i2, i3⟩ := id hR
  rcases z_pc pane with ⟨h_ok, h_ip, hi⟩ | ⟨h_bad, -⟩
  · refine z_Mi_mono (c_X5_would l G hm hpn (hK _ hi) h_ok h_ip rfl (hfp _ hi)) ?_
    rintro r M' (⟨c0_0, c0_1, c0_2, c0_3, hr9, rfl⟩ | ⟨c1_0, c1_1, c1_2, c1_3, hr9, rfl⟩ | ⟨c2_0, c2_1, c2_2, hr9, rfl⟩ | ⟨c3_0, c3_1, c3_2, hr9, rfl⟩ | ⟨c4_0, c4_1, c4_2, hr9, rfl⟩ | ⟨c5_0, hr9, rfl⟩)
    · rw [hr9]
      exact RP_ok (v := s_ak (u) ((s_ac u)) ((s_kn u))) (by simp [s_would, c0_1, c0_2, c0_3, (z_wh2 (z_lrN c0_0) c0_2 c0_3 c0_1)] <;> rfl) (z_lr0 c0_0) (RI_ak hR _ _ _)
    · rw [hr9]
      exact RP_ok (v := s_ak (u) ((s_ac u)) ((s_kn u))) (by simp [s_would, c1_1, c1_2, c1_3] <;> rfl) (z_lr0 c1_0) (RI_ak hR _ _ _)
    · rw [hr9]
      exact RP_ok (v := s_ak (u) ((s_ac u)) ((s_kn u))) (by simp [s_would, c2_1, c2_2] <;> rfl) (z_lr0 c2_0) (RI_ak hR _ _ _)
    · rw [hr9]
      subst c3_1
      exact RP_ok (v := s_ak (u) ((s_ac u)) ((s_kn u))) (by simp [s_would, c3_2] <;> rfl) (z_lr0 c3_0) (RI_ak hR _ _ _)
    · rw [hr9]
      subst c4_1
      exact RP_ok (v := s_ak (u) ((s_ac u)) ((s_kn u))) (by simp [s_would, c4_2] <;> rfl) (z_lr0 c4_0) (RI_ak hR _ _ _)
    · rw [hr9]
      exact RP_bad (z_lr1 c5_0) (RI_ak hR _ _ _)
  · refine z_Mi_mono (c_X5_would_bad l G hm h_bad) ?_
    rintro r M' ⟨hr9, rfl⟩
    · exact RP_bad (z_lt0 h_bad) (RI_ak hR _ _ _) (by first | rfl | (simp [t_nn, t_and]; done) | simp [z_lt, h_bad])
theorem s_lay9 {t : Nat} {u : sS} {x f : Int32} (h : s_ok t u) (hx : ¬ z_lr (z_is x 0 15) f = 0) : 0 < s_nr u ∧ x.toNatClampNeg < s_ln u 0 := by
  have h1 := z_inT.mp (z_lay (nt := 16) (by decide) hx)
  have h2 := z_cl (x := x) (by rw [z_le, z_t0]; exact h1.1)
  have h3 := h.1
  have h4 := h.2.2.1
  exact ⟨by omega, by omega⟩
theorem a_X5_lay (l : Launch) {G : zG} {u : sS} {m : Nat} {th : Int32} {K : Nat → Nat} {tp pn td : Nat} {R : zM} (hR : RI G u m th K tp pn td R) {t : Nat} (hok : s_ok t u) (ht : t ≤ 64) (pl v : Int32) : z_Mi l G qX5_lay (z_rm 3 0 0) [.ref m, .int pl, .int v] R (RP G m pn td (z_lt (z_is pl 0 15) (t_nn v)) u (s_lay u pl v)) := by
  obtain ⟨hm, ⟨ft, htp, hft⟩, ⟨fp, hpn, hfp⟩, htd, hK, iK, i1, i2, i3⟩ := id hR
  refine z_Mi_mono (c_X5_lay l G hm htp ⟨(s_ba_nt hok ht).1, Nat.lt_trans (s_ba_nt hok ht).2 (by decide)⟩) ?_
  rintro r M' (⟨c0_0, c0_1, hr9, rfl⟩ | ⟨c1_0, c1_1, hr9, rfl⟩ | ⟨c2_0, c2_1, hr9, rfl⟩ | ⟨c3_0, c3_1, hr9, rfl⟩)
  · rw [hr9]
    exact RP_bad (z_lt2 (by simp [t_nn, c0_0])) (RI_ak hR _ _ _) (by simp [t_nn, c0_0])
  · exact absurd (z_lr0 c1_1) (z_lt2 rfl)
  · rw [hr9]
    exact RP_bad (by rw [show t_nn v = 1 from by simp [t_nn, c2_0]]; exact z_lr1 c2_1) (RI_ak hR _ _ _) (by simp [t_nn, c2_0])
  · rw [hr9]
    have h9 := s_lay9 hok c3_1
    have h8 := hft 0 h9.1 _ h9.2
    rw [show s_ba (s_ln u) 0 = 0 from rfl, Nat.zero_add] at h8
    rw [h8]
    exact RP_ok (v := s_ak (s_wr (u) 0 pl.toNatClampNeg v) ((s_ac u) + 1) ((s_kn u))) (by simp [s_lay] <;> rfl) (by rw [show t_nn v = 1 from by simp [t_nn, c3_0]]; exact z_lr0 c3_1) (RI_ak (RI_wr hR h9.1 h9.2 (by rw [show s_ba (s_ln u) 0 = 0 from rfl, Nat.zero_add]) htp _) _ _ _) (by simp [t_nn, c3_0])
theorem a_X5_bring (l : Launch) {G : zG} {u : sS} {m : Nat} {th : Int32} {K : Nat → Nat} {tp pn td : Nat} {R : zM} (hR : RI G u m th K tp pn td R) {t : Nat} (hok : s_ok t u) (ht : t ≤ 64) (pane ix other fr : Int32) : z_Mi l G qX5_bring (z_rm 3 0 0) [.ref m, .int pane, .int ix, .int other, .int fr] R (RP G m pn td (z_lt (t_2 pane other) 1) u (s_bring u pane.toNatClampNeg other.toNatClampNeg ix fr)) := by
  obtain ⟨hm, ⟨ft, htp, hft⟩, ⟨fp, hpn, hfp⟩, htd, hK, iK, i1, i2, i3⟩ := id hR
  rcases z_pc pane with ⟨h_ok, h_ip, hi⟩ | ⟨h_bad, -⟩
  · rcases z_pc other with ⟨h_ok2, h_ip2, hi2⟩ | ⟨h_bad2, -⟩
    · rw [show t_2 pane other = 1 from by unfold t_2; rw [h_ok, h_ok2]; decide]
      refine z_Mi_mono (c_X5_bring l G hm htd htp hpn (hK _ hi) (hK _ hi2) h_ok h_ip rfl (hfp _ hi) h_ok2 h_ip2 rfl (hfp _ hi2) (i2 _ hi) (i1 _ hi) i3 (i2 _ hi2) (i1 _ hi2) (s_or hok ht hi) (s_or hok ht hi2)) ?_
      rintro r M' (⟨c0_0, hr9, rfl⟩ | ⟨c1_0, c1_1, c1_2, hr9, rfl⟩ | ⟨c2_0, c2_1, c2_2, hr9, rfl⟩ | ⟨c3_0, c3_1, hr9, rfl⟩)
      · rw [hr9]
        exact RP_ok (v := s_tdu (s_ak (u) ((s_ac u)) ((s_kn u))) (upd (s_td u) 5 (((s_td u) 5) + 1))) (by simp [s_bring, c0_0, ((s_hiL hok hi2).mpr c0_0)] <;> rfl) (z_lt3 rfl rfl) (RI_td (RI_ak hR _ _ _) _)
      · rw [hr9]
        rw [s_rd hok ht hi hft (s_inL hok hi (fun q => c1_1 ((s_hiL hok hi).mp q))), s_rd hok ht hi2 hft (s_inL hok hi2 (fun q => c1_0 ((s_hiL hok hi2).mp q)))]
        exact RP_ok (v := s_ak (s_wr (u) (p_ro (s_pn u pane.toNatClampNeg)) (p_at (s_pn u pane.toNatClampNeg) ix) (s_val u (s_pn u other.toNatClampNeg) fr)) ((s_ac u) + 1) ((s_kn u))) (by simp [s_bring, c1_0, c1_1, c1_2, (show ¬ z_hi fr (p_li (s_pn u other.toNatClampNeg)) = 0 from fun q => c1_0 ((s_hiL hok hi2).mp q)), (show ¬ z_hi ix (p_li (s_pn u pane.toNatClampNeg)) = 0 from fun q => c1_1 ((s_hiL hok hi).mp q))] <;> rfl) (z_lt3 rfl rfl) (RI_ak (RI_wr hR (s_row hok hi) (s_atlt (s_inL hok hi (fun q => c1_1 ((s_hiL hok hi).mp q)))) (s_wh' hok ht hi (s_inL hok hi (fun q => c1_1 ((s_hiL hok hi).mp q)))) htp _) _ _ _)
      · rw [hr9]
        exact RP_ok (v := s_tdu (s_ak (u) ((s_ac u)) ((s_kn u))) (upd (s_td u) 4 (((s_td u) 4) + 1))) (by simp [s_bring, c2_0, c2_1, c2_2, (show ¬ z_hi fr (p_li (s_pn u other.toNatClampNeg)) = 0 from fun q => c2_0 ((s_hiL hok hi2).mp q)), (show ¬ z_hi ix (p_li (s_pn u pane.toNatClampNeg)) = 0 from fun q => c2_1 ((s_hiL hok hi).mp q))] <;> rfl) (z_lt3 rfl rfl) (RI_td (RI_ak hR _ _ _) _)
      · rw [hr9]
        exact RP_ok (v := s_tdu (s_ak (u) ((s_ac u)) ((s_kn u))) (upd (s_td u) 5 (((s_td u) 5) + 1))) (by simp [s_bring, c3_0, c3_1, (show ¬ z_hi fr (p_li (s_pn u other.toNatClampNeg)) = 0 from fun q => c3_0 ((s_hiL hok hi2).mp q)), ((s_hiL hok hi).mpr c3_1)] <;> rfl) (z_lt3 rfl rfl) (RI_td (RI_ak hR _ _ _) _)
    · rw [show t_2 pane other = 0 from by unfold t_2; rw [h_ok, h_bad2]; decide]
      refine z_Mi_mono (c_X5_bring_bad2 l G hm h_ok h_bad2) ?_
      rintro r M' ⟨hr9, rfl⟩
      · exact RP_bad (z_lt0 rfl) (RI_ak hR _ _ _) (by first | rfl | (simp [t_nn, t_and]; done) | simp [z_lt, h_bad])
  · rw [show t_2 pane other = 0 from by unfold t_2; rw [h_bad]; exact if_pos rfl]
    refine z_Mi_mono (c_X5_bring_bad l G hm h_bad) ?_
    rintro r M' ⟨hr9, rfl⟩
    · exact RP_bad (z_lt0 rfl) (RI_ak hR _ _ _) (by first | rfl | (simp [t_nn, t_and]; done) | simp [z_lt, h_bad])
theorem z_upq {M : zM} {a q : Nat} {e : va_E} (h : z_up M a e q = none) : M q = none := by
  by_cases hq : q = a
  · subst hq; rw [z_up_s] at h; cases h
  · rw [z_up_n _ _ hq] at h; exact h
theorem a_X5_twin (l : Launch) {G : zG} {u : sS} {m : Nat} {th : Int32} {K : Nat → Nat} {tp pn td : Nat} {R : zM} (hR : RI G u m th K tp pn td R) {t : Nat} (hok : s_ok t u) (ht : t ≤ 64) (pane other : Int32) : z_Mi l G qX5_twin (z_rm 3 1 8) [.ref m, .int pane, .int other] R (RP G m pn td (z_lt (t_2 pane other) 1) u (s_twin u pane.toNatClampNeg other.toNatClampNeg)) := by
  obtain ⟨hm, ⟨ft, htp, hft⟩, ⟨fp, hpn, hfp⟩, htd, hK, iK, i1, i2, i3⟩ := id hR
  rcases z_pc pane with ⟨h_ok, h_ip, hi⟩ | ⟨h_bad, -⟩
  · rcases z_pc other with ⟨h_ok2, h_ip2, hi2⟩ | ⟨h_bad2, -⟩
    · rw [show t_2 pane other = 1 from by unfold t_2; rw [h_ok, h_ok2]; decide]
      refine z_Mi_mono (c_X5_twin l G hm hpn (hK _ hi) (hK _ hi2) h_ok h_ip rfl (hfp _ hi) h_ok2 h_ip2 rfl (hfp _ hi2)) ?_
      rintro r M' ⟨q_40, hq_40, hr9, rfl⟩
      · rw [hr9]
        exact RP_ok (v := (s_act (s_up u pane.toNatClampNeg (s_pn u other.toNatClampNeg)))) (by simp [s_twin] <;> rfl) (z_lt3 rfl rfl) (RI_ak (RI_nK hR hi (z_upq hq_40) (s_pn u other.toNatClampNeg) hpn) _ _ _)
    · rw [show t_2 pane other = 0 from by unfold t_2; rw [h_ok, h_bad2]; decide]
      refine z_Mi_mono (c_X5_twin_bad2 l G hm h_ok h_bad2) ?_
      rintro r M' ⟨hr9, rfl⟩
      · exact RP_bad (z_lt0 rfl) (RI_ak hR _ _ _) (by first | rfl | (simp [t_nn, t_and]; done) | simp [z_lt, h_bad])
  · rw [show t_2 pane other = 0 from by unfold t_2; rw [h_bad]; exact if_pos rfl]
    refine z_Mi_mono (c_X5_twin_bad l G hm h_bad) ?_
    rintro r M' ⟨hr9, rfl⟩
    · exact RP_bad (z_lt0 rfl) (RI_ak hR _ _ _) (by first | rfl | (simp [t_nn, t_and]; done) | simp [z_lt, h_bad])
theorem a_X5_reader (l : Launch) {G : zG} {u : sS} {m : Nat} {th : Int32} {K : Nat → Nat} {tp pn td : Nat} {R : zM} (hR : RI G u m th K tp pn td R) {t : Nat} (hok : s_ok t u) (ht : t ≤ 64) (pane other : Int32) : z_Mi l G qX5_reader (z_rm 3 1 8) [.ref m, .int pane, .int other] R (RP G m pn td (z_lt (t_2 pane other) 1) u (s_reader u pane.toNatClampNeg other.toNatClampNeg)) := by
  obtain ⟨hm, ⟨ft, htp, hft⟩, ⟨fp, hpn, hfp⟩, htd, hK, iK, i1, i2, i3⟩ := id hR
  rcases z_pc pane with ⟨h_ok, h_ip, hi⟩ | ⟨h_bad, -⟩
  · rcases z_pc other with ⟨h_ok2, h_ip2, hi2⟩ | ⟨h_bad2, -⟩
    · rw [show t_2 pane other = 1 from by unfold t_2; rw [h_ok, h_ok2]; decide]
      refine z_Mi_mono (c_X5_reader l G hm hpn (hK _ hi) (hK _ hi2) h_ok h_ip rfl (hfp _ hi) h_ok2 h_ip2 rfl (hfp _ hi2)) ?_
      rintro r M' ⟨q_40, hq_40, hr9, rfl⟩
      · rw [hr9]
        rw [z_up_swap _ (z_neN hpn (z_upq hq_40))]
        exact RP_ok (v := (s_act (s_up u pane.toNatClampNeg (p_rdr (s_pn u other.toNatClampNeg))))) (by simp [s_reader] <;> rfl) (z_lt3 rfl rfl) (RI_ak (RI_nK hR hi (z_upq hq_40) (p_rdr (s_pn u other.toNatClampNeg)) hpn) _ _ _)
    · rw [show t_2 pane other = 0 from by unfold t_2; rw [h_ok, h_bad2]; decide]
      refine z_Mi_mono (c_X5_reader_bad2 l G hm h_ok h_bad2) ?_
      rintro r M' ⟨hr9, rfl⟩
      · exact RP_bad (z_lt0 rfl) (RI_ak hR _ _ _) (by first | rfl | (simp [t_nn, t_and]; done) | simp [z_lt, h_bad])
  · rw [show t_2 pane other = 0 from by unfold t_2; rw [h_bad]; exact if_pos rfl]
    refine z_Mi_mono (c_X5_reader_bad l G hm h_bad) ?_
    rintro r M' ⟨hr9, rfl⟩
    · exact RP_bad (z_lt0 rfl) (RI_ak hR _ _ _) (by first | rfl | (simp [t_nn, t_and]; done) | simp [z_lt, h_bad])
theorem a_X5_rest (l : Launch) {G : zG} {u : sS} {m : Nat} {th : Int32} {K : Nat → Nat} {tp pn td : Nat} {R : zM} (hR : RI G u m th K tp pn td R) {t : Nat} (hok : s_ok t u) (ht : t ≤ 64) (pane other : Int32) : z_Mi l G qX5_rest (z_rm 3 1 8) [.ref m, .int pane, .int other] R (RP G m pn td (z_lt (t_2 pane other) 1) u (s_rest u pane.toNatClampNeg other.toNatClampNeg)) := by
  obtain ⟨hm, ⟨ft, htp, hft⟩, ⟨fp, hpn, hfp⟩, htd, hK, iK, i1, i2, i3⟩ := id hR
  rcases z_pc pane with ⟨h_ok, h_ip, hi⟩ | ⟨h_bad, -⟩
  · rcases z_pc other with ⟨h_ok2, h_ip2, hi2⟩ | ⟨h_bad2, -⟩
    · rw [show t_2 pane other = 1 from by unfold t_2; rw [h_ok, h_ok2]; decide]
      refine z_Mi_mono (c_X5_rest l G hm hpn (hK _ hi) (hK _ hi2) h_ok h_ip rfl (hfp _ hi) h_ok2 h_ip2 rfl (hfp _ hi2)) ?_
      rintro r M' ⟨q_13_54, hq_13_54, hr9, rfl⟩
      · rw [hr9]
        exact RP_ok (v := (s_act (s_up u pane.toNatClampNeg (p_pt (s_pn u other.toNatClampNeg) (p_po (s_pn u other.toNatClampNeg)) (p_li (s_pn u other.toNatClampNeg) - p_po (s_pn u other.toNatClampNeg)))))) (by simp [s_rest] <;> rfl) (z_lt3 rfl rfl) (RI_ak (RI_nK hR hi (z_upq hq_13_54) (p_pt (s_pn u other.toNatClampNeg) (p_po (s_pn u other.toNatClampNeg)) (p_li (s_pn u other.toNatClampNeg) - p_po (s_pn u other.toNatClampNeg))) hpn) _ _ _)
    · rw [show t_2 pane other = 0 from by unfold t_2; rw [h_ok, h_bad2]; decide]
      refine z_Mi_mono (c_X5_rest_bad2 l G hm h_ok h_bad2) ?_
      rintro r M' ⟨hr9, rfl⟩
      · exact RP_bad (z_lt0 rfl) (RI_ak hR _ _ _) (by first | rfl | (simp [t_nn, t_and]; done) | simp [z_lt, h_bad])
  · rw [show t_2 pane other = 0 from by unfold t_2; rw [h_bad]; exact if_pos rfl]
    refine z_Mi_mono (c_X5_rest_bad l G hm h_bad) ?_
    rintro r M' ⟨hr9, rfl⟩
    · exact RP_bad (z_lt0 rfl) (RI_ak hR _ _ _) (by first | rfl | (simp [t_nn, t_and]; done) | simp [z_lt, h_bad])
theorem a_X5_part (l : Launch) {G : zG} {u : sS} {m : Nat} {th : Int32} {K : Nat → Nat} {tp pn td : Nat} {R : zM} (hR : RI G u m th K tp pn td R) {t : Nat} (hok : s_ok t u) (ht : t ≤ 64) (pane other ix0 mn : Int32) : z_Mi l G qX5_part (z_rm 3 1 8) [.ref m, .int pane, .int other, .int ix0, .int mn] R (RP G m pn td (z_lt (t_2 pane other) 1) u (s_part u pane.toNatClampNeg other.toNatClampNeg ix0 mn)) := by
  obtain ⟨hm, ⟨ft, htp, hft⟩, ⟨fp, hpn, hfp⟩, htd, hK, iK, i1, i2, i3⟩ := id hR
  rcases z_pc pane with ⟨h_ok, h_ip, hi⟩ | ⟨h_bad, -⟩
  · rcases z_pc other with ⟨h_ok2, h_ip2, hi2⟩ | ⟨h_bad2, -⟩
    · rw [show t_2 pane other = 1 from by unfold t_2; rw [h_ok, h_ok2]; decide]
      refine z_Mi_mono (c_X5_part l G hm htd hpn (hK _ hi) (hK _ hi2) h_ok h_ip rfl (hfp _ hi) h_ok2 h_ip2 rfl (hfp _ hi2) (i1 _ hi) (i1 _ hi2)) ?_
      rintro r M' (⟨c0_0, hr9, rfl⟩ | ⟨q_13_79, hq_13_79, c1_0, c1_1, hr9, rfl⟩ | ⟨c2_0, c2_1, hr9, rfl⟩)
      · rw [hr9]
        exact RP_ok (v := s_tdu (s_ak (u) ((s_ac u)) ((s_kn u))) (upd (s_td u) 5 (((s_td u) 5) + 1))) (by simp [s_part, c0_0] <;> rfl) (z_lt3 rfl rfl) (RI_td (RI_ak hR _ _ _) _)
      · rw [hr9]
        exact RP_ok (v := (s_act (s_up u pane.toNatClampNeg (p_pt (s_pn u other.toNatClampNeg) ix0 mn)))) (by simp [s_part, c1_0, c1_1] <;> rfl) (z_lt3 rfl rfl) (RI_ak (RI_nK hR hi (z_upq hq_13_79) (p_pt (s_pn u other.toNatClampNeg) ix0 mn) hpn) _ _ _)
      · rw [hr9]
        exact RP_ok (v := s_tdu (s_ak (u) ((s_ac u)) ((s_kn u))) (upd (s_td u) 5 (((s_td u) 5) + 1))) (by simp [s_part, c2_0, c2_1] <;> rfl) (z_lt3 rfl rfl) (RI_td (RI_ak hR _ _ _) _)
    · rw [show t_2 pane other = 0 from by unfold t_2; rw [h_ok, h_bad2]; decide]
      refine z_Mi_mono (c_X5_part_bad2 l G hm h_ok h_bad2) ?_
      rintro r M' ⟨hr9, rfl⟩
      · exact RP_bad (z_lt0 rfl) (RI_ak hR _ _ _) (by first | rfl | (simp [t_nn, t_and]; done) | simp [z_lt, h_bad])
  · rw [show t_2 pane other = 0 from by unfold t_2; rw [h_bad]; exact if_pos rfl]
    refine z_Mi_mono (c_X5_part_bad l G hm h_bad) ?_
    rintro r M' ⟨hr9, rfl⟩
    · exact RP_bad (z_lt0 rfl) (RI_ak hR _ _ _) (by first | rfl | (simp [t_nn, t_and]; done) | simp [z_lt, h_bad])
theorem a_X5_exchange (l : Launch) {G : zG} {u : sS} {m : Nat} {th : Int32} {K : Nat → Nat} {tp pn td : Nat} {R : zM} (hR : RI G u m th K tp pn td R) {t : Nat} (hok : s_ok t u) (ht : t ≤ 64) (pane other : Int32) : z_Mi l G qX5_exchange (z_rm 3 0 0) [.ref m, .int pane, .int other] R (RP G m pn td (z_lt (t_2 pane other) 1) u (s_exch u pane.toNatClampNeg other.toNatClampNeg)) := by
  obtain ⟨hm, ⟨ft, htp, hft⟩, ⟨fp, hpn, hfp⟩, htd, hK, iK, i1, i2, i3⟩ := id hR
  rcases z_pc pane with ⟨h_ok, h_ip, hi⟩ | ⟨h_bad, -⟩
  · rcases z_pc other with ⟨h_ok2, h_ip2, hi2⟩ | ⟨h_bad2, -⟩
    · rw [show t_2 pane other = 1 from by unfold t_2; rw [h_ok, h_ok2]; decide]
      refine z_Mi_mono (c_X5_exchange l G hm hpn (hK _ hi) (hK _ hi2) h_ok h_ip rfl (hfp _ hi) h_ok2 h_ip2 rfl (hfp _ hi2)) ?_
      rintro r M' ⟨hr9, rfl⟩
      · rw [hr9]
        exact RP_ok (v := s_act (s_sw u pane.toNatClampNeg other.toNatClampNeg)) rfl (z_lt3 rfl rfl) (RI_ak (RI_sw hR hi hi2 hpn) _ _ _)
    · rw [show t_2 pane other = 0 from by unfold t_2; rw [h_ok, h_bad2]; decide]
      refine z_Mi_mono (c_X5_exchange_bad2 l G hm h_ok h_bad2) ?_
      rintro r M' ⟨hr9, rfl⟩
      · exact RP_bad (z_lt0 rfl) (RI_ak hR _ _ _) (by first | rfl | (simp [t_nn, t_and]; done) | simp [z_lt, h_bad])
  · rw [show t_2 pane other = 0 from by unfold t_2; rw [h_bad]; exact if_pos rfl]
    refine z_Mi_mono (c_X5_exchange_bad l G hm h_bad) ?_
    rintro r M' ⟨hr9, rfl⟩
    · exact RP_bad (z_lt0 rfl) (RI_ak hR _ _ _) (by first | rfl | (simp [t_nn, t_and]; done) | simp [z_lt, h_bad])
theorem z_rr0 {a b : Int32} (ha : a = 0 ∨ a = 1) (hb : b = 0 ∨ b = 1) (h : a + b ≤ 0) : a = 0 ∧ b = 0 := by
  rcases ha with rfl | rfl <;> rcases hb with rfl | rfl <;> revert h <;> decide
theorem z_rr1 {a b : Int32} (ha : a = 0 ∨ a = 1) (hb : b = 0 ∨ b = 1) (h : ¬ a + b ≤ 0) : ¬ (a = 0 ∧ b = 0) := by
  rcases ha with rfl | rfl <;> rcases hb with rfl | rfl <;> revert h <;> decide
theorem s_rd01 {t : Nat} {u : sS} {i : Nat} (h : s_ok t u) (hi : i < 6) : p_rd (s_pn u i) = 0 ∨ p_rd (s_pn u i) = 1 := (h.2.2.2.2.1 i hi).2.2.2
theorem s_roeq {t : Nat} {u : sS} {i j : Nat} (h : s_ok t u) (ht : t ≤ 64) (hi : i < 6) (hj : j < 6) : nI (p_ro (s_pn u i)) = nI (p_ro (s_pn u j)) ↔ p_ro (s_pn u i) = p_ro (s_pn u j) := nI_eq (by have := s_row h hi; have := h.2.1; omega) (by have := s_row h hj; have := h.2.1; omega)
theorem a_X5_isKin (l : Launch) {G : zG} {u : sS} {m : Nat} {th : Int32} {K : Nat → Nat} {tp pn td : Nat} {R : zM} (hR : RI G u m th K tp pn td R) {t : Nat} (hok : s_ok t u) (ht : t ≤ 64) (pane other : Int32) : z_Mi l G qX5_isKin (z_rm 4 0 0) [.ref m, .int pane, .int other] R (RP G m pn td (z_lt (t_2 pane other) 1) u ((s_kin u pane.toNatClampNeg other.toNatClampNeg, u))) := by
  obtain ⟨hm, ⟨ft, htp, hft⟩, ⟨fp, hpn, hfp⟩, htd, hK, iK, i1, i2, i3⟩ := id hR
  rcases z_pc pane with ⟨h_ok, h_ip, hi⟩ | ⟨h_bad, -⟩
  · rcases z_pc other with ⟨h_ok2, h_ip2, hi2⟩ | ⟨h_bad2, -⟩
    · rw [show t_2 pane other = 1 from by unfold t_2; rw [h_ok, h_ok2]; decide]
      refine z_Mi_mono (c_X5_isKin l G hm hpn (hK _ hi) (hK _ hi2) h_ok h_ip rfl (hfp _ hi) h_ok2 h_ip2 rfl (hfp _ hi2)) ?_
      rintro r M' (⟨c0_0, c0_1, hr9, rfl⟩ | ⟨c1_0, c1_1, hr9, rfl⟩ | ⟨c2_0, hr9, rfl⟩)
      · rw [hr9]
        have h9 := z_rr0 (s_rd01 hok hi) (s_rd01 hok hi2) c0_0
        exact RP_ok (v := s_ak (u) ((s_ac u)) ((s_kn u))) (by simp [s_kin, h9.1, h9.2, (show ¬ p_ro (s_pn u pane.toNatClampNeg) = p_ro (s_pn u other.toNatClampNeg) from fun q => c0_1 ((s_roeq hok ht hi hi2).mpr q))] <;> rfl) (z_lt3 rfl rfl) (RI_ak hR _ _ _)
      · rw [hr9]
        have h9 := z_rr0 (s_rd01 hok hi) (s_rd01 hok hi2) c1_0
        exact RP_ok (v := s_ak (u) ((s_ac u)) ((s_kn u))) (by simp [s_kin, h9.1, h9.2, ((s_roeq hok ht hi hi2).mp c1_1)] <;> rfl) (z_lt3 rfl rfl) (RI_ak hR _ _ _)
      · rw [hr9]
        have h9 := z_rr1 (s_rd01 hok hi) (s_rd01 hok hi2) c2_0
        refine RP_ok (v := s_ak (u) ((s_ac u)) ((s_kn u))) ?_ (z_lt3 rfl rfl) (RI_ak hR _ _ _)
        unfold s_kin
        by_cases q1 : p_rd (s_pn u pane.toNatClampNeg) = 0
        · have q2 : ¬ p_rd (s_pn u other.toNatClampNeg) = 0 := fun q => h9 ⟨q1, q⟩
          rw [if_pos q1, if_neg q2]
          rfl
        · rw [if_neg q1]
          rfl
    · rw [show t_2 pane other = 0 from by unfold t_2; rw [h_ok, h_bad2]; decide]
      refine z_Mi_mono (c_X5_isKin_bad2 l G hm h_ok h_bad2) ?_
      rintro r M' ⟨hr9, rfl⟩
      · exact RP_bad (z_lt0 rfl) (RI_ak hR _ _ _) (by first | rfl | (simp [t_nn, t_and]; done) | simp [z_lt, h_bad])
  · rw [show t_2 pane other = 0 from by unfold t_2; rw [h_bad]; exact if_pos rfl]
    refine z_Mi_mono (c_X5_isKin_bad l G hm h_bad) ?_
    rintro r M' ⟨hr9, rfl⟩
    · exact RP_bad (z_lt0 rfl) (RI_ak hR _ _ _) (by first | rfl | (simp [t_nn, t_and]; done) | simp [z_lt, h_bad])
theorem a_X5_sees (l : Launch) {G : zG} {u : sS} {m : Nat} {th : Int32} {K : Nat → Nat} {tp pn td : Nat} {R : zM} (hR : RI G u m th K tp pn td R) {t : Nat} (hok : s_ok t u) (ht : t ≤ 64) (pane ix other : Int32) : z_Mi l G qX5_sees (z_rm 4 0 0) [.ref m, .int pane, .int ix, .int other] R (RP G m pn td (z_lt (t_2 pane other) 1) u ((s_sees u pane.toNatClampNeg ix other.toNatClampNeg, u))) := by
  obtain ⟨hm, ⟨ft, htp, hft⟩, ⟨fp, hpn, hfp⟩, htd, hK, iK, i1, i2, i3⟩ := id hR
  rcases z_pc pane with ⟨h_ok, h_ip, hi⟩ | ⟨h_bad, -⟩
  · rcases z_pc other with ⟨h_ok2, h_ip2, hi2⟩ | ⟨h_bad2, -⟩
    · rw [show t_2 pane other = 1 from by unfold t_2; rw [h_ok, h_ok2]; decide]
      refine z_Mi_mono (c_X5_sees l G hm hpn (hK _ hi) (hK _ hi2) h_ok h_ip rfl (hfp _ hi) h_ok2 h_ip2 rfl (hfp _ hi2)) ?_
      rintro r M' (⟨c0_0, c0_1, hr9, rfl⟩ | ⟨c1_0, c1_1, c1_2, c1_3, hr9, rfl⟩ | ⟨c2_0, c2_1, c2_2, c2_3, hr9, rfl⟩ | ⟨c3_0, c3_1, c3_2, hr9, rfl⟩ | ⟨c4_0, hr9, rfl⟩)
      · rw [hr9]
        have h9 := z_rr0 (s_rd01 hok hi) (s_rd01 hok hi2) c0_0
        exact RP_ok (v := s_ak (u) ((s_ac u)) ((s_kn u))) (by simp [s_sees, h9.1, h9.2, (show ¬ p_ro (s_pn u pane.toNatClampNeg) = p_ro (s_pn u other.toNatClampNeg) from fun q => c0_1 ((s_roeq hok ht hi hi2).mpr q))] <;> rfl) (z_lt3 rfl rfl) (RI_ak hR _ _ _)
      · rw [hr9]
        have h9 := z_rr0 (s_rd01 hok hi) (s_rd01 hok hi2) c1_0
        exact RP_ok (v := s_ak (u) ((s_ac u)) ((s_kn u))) (by simp [s_sees, h9.1, h9.2, ((s_roeq hok ht hi hi2).mp c1_1), (show ¬ z_hi ix (p_cp (s_pn u pane.toNatClampNeg)) = 0 from fun q => c1_2 ((s_hiC hok hi).mp q)), ((s_hiC hok hi2).mpr c1_3)] <;> rfl) (z_lt3 rfl rfl) (RI_ak hR _ _ _)
      · rw [hr9]
        have h9 := z_rr0 (s_rd01 hok hi) (s_rd01 hok hi2) c2_0
        exact RP_ok (v := s_ak (u) ((s_ac u)) ((s_kn u))) (by simp [s_sees, h9.1, h9.2, ((s_roeq hok ht hi hi2).mp c2_1), (show ¬ z_hi ix (p_cp (s_pn u pane.toNatClampNeg)) = 0 from fun q => c2_2 ((s_hiC hok hi).mp q)), (show ¬ z_hi (p_sa (s_pn u pane.toNatClampNeg) + ix - p_sa (s_pn u other.toNatClampNeg)) (p_cp (s_pn u other.toNatClampNeg)) = 0 from fun q => c2_3 ((s_hiC hok hi2).mp q))] <;> rfl) (z_lt3 rfl rfl) (RI_ak hR _ _ _)
      · rw [hr9]
        have h9 := z_rr0 (s_rd01 hok hi) (s_rd01 hok hi2) c3_0
        exact RP_ok (v := s_ak (u) ((s_ac u)) ((s_kn u))) (by simp [s_sees, h9.1, h9.2, ((s_roeq hok ht hi hi2).mp c3_1), ((s_hiC hok hi).mpr c3_2)] <;> rfl) (z_lt3 rfl rfl) (RI_ak hR _ _ _)
      · rw [hr9]
        have h9 := z_rr1 (s_rd01 hok hi) (s_rd01 hok hi2) c4_0
        refine RP_ok (v := s_ak (u) ((s_ac u)) ((s_kn u))) ?_ (z_lt3 rfl rfl) (RI_ak hR _ _ _)
        unfold s_sees
        by_cases q1 : p_rd (s_pn u pane.toNatClampNeg) = 0
        · have q2 : ¬ p_rd (s_pn u other.toNatClampNeg) = 0 := fun q => h9 ⟨q1, q⟩
          rw [if_pos q1, if_neg q2]
          rfl
        · rw [if_neg q1]
          rfl
    · rw [show t_2 pane other = 0 from by unfold t_2; rw [h_ok, h_bad2]; decide]
      refine z_Mi_mono (c_X5_sees_bad2 l G hm h_ok h_bad2) ?_
      rintro r M' ⟨hr9, rfl⟩
      · exact RP_bad (z_lt0 rfl) (RI_ak hR _ _ _) (by first | rfl | (simp [t_nn, t_and]; done) | simp [z_lt, h_bad])
  · rw [show t_2 pane other = 0 from by unfold t_2; rw [h_bad]; exact if_pos rfl]
    refine z_Mi_mono (c_X5_sees_bad l G hm h_bad) ?_
    rintro r M' ⟨hr9, rfl⟩
    · exact RP_bad (z_lt0 rfl) (RI_ak hR _ _ _) (by first | rfl | (simp [t_nn, t_and]; done) | simp [z_lt, h_bad])
theorem a_X5_wrap (l : Launch) {G : zG} {u : sS} {m : Nat} {th : Int32} {K : Nat → Nat} {tp pn td : Nat} {R : zM} (hR : RI G u m th K tp pn td R) {t : Nat} (hok : s_ok t u) (ht : t ≤ 64) (pane fr mn : Int32) : z_Mi l G qX5_wrap (z_rm 3 1 8) [.ref m, .int pane, .int fr, .int mn] R (RP G m pn td (z_lt (z_is pane 0 5) (t_and (z_is fr 0 16) (z_is mn 0 (16 - fr)))) u (s_wrap u pane.toNatClampNeg fr mn)) := by
  obtain ⟨hm, ⟨ft, htp, hft⟩, ⟨fp, hpn, hfp⟩, htd, hK, iK, i1, i2, i3⟩ := id hR
  rcases z_pc pane with ⟨h_ok, h_ip, hi⟩ | ⟨h_bad, -⟩
  · have e16 : cPy G (nI (s_ba (s_ln u) (p_ro ((0, 0, 16, fr, fr + mn, -1, 0) : sP)))) ((0, 0, 16, fr, fr + mn, -1, 0) : sP) = cPm G 0 0 0 16 fr (fr + mn) (-1) 0 := by show cPm G (nI 0) (nI 0) 0 16 fr (fr + mn) (-1) 0 = _; rw [nI_0]
    refine z_Mi_mono (c_X5_wrap l G hm hpn h_ok h_ip rfl) ?_
    rintro r M' (⟨c0_0, hr9, rfl⟩ | ⟨c1_0, c1_1, hr9, rfl⟩ | ⟨q_50, hq_50, c2_0, c2_1, hr9, rfl⟩)
    · rw [hr9]
      exact RP_bad (z_lt2 (by simp [t_and, c0_0])) (RI_ak hR _ _ _) (by simp [t_and, c0_0])
    · rw [hr9]
      exact RP_bad (z_lt2 (by simp [t_and, c1_0, c1_1])) (RI_ak hR _ _ _) (by simp [t_and, c1_0, c1_1])
    · rw [hr9]
      rw [z_up_swap _ (z_neN hpn (z_upq hq_50)), ← e16]
      exact RP_ok (v := s_act (s_up u pane.toNatClampNeg ((0, 0, 16, fr, fr + mn, -1, 0) : sP))) rfl (z_lt3 h_ok (show t_and (z_is fr 0 16) (z_is mn 0 (16 - fr)) = 1 from by simp [t_and, c2_0, z_is11 c2_1])) (RI_ak (RI_nK hR hi (z_upq hq_50) ((0, 0, 16, fr, fr + mn, -1, 0) : sP) hpn) _ _ _) (by rw [(show t_and (z_is fr 0 16) (z_is mn 0 (16 - fr)) = 1 from by simp [t_and, c2_0, z_is11 c2_1])])
  · refine z_Mi_mono (c_X5_wrap_bad l G hm h_bad) ?_
    rintro r M' (⟨b0_0, hr9, rfl⟩ | ⟨b1_0, b1_1, hr9, rfl⟩ | ⟨b2_0, b2_1, hr9, rfl⟩)
    · exact RP_bad (z_lt0 h_bad) (RI_ak hR _ _ _) (by first | rfl | (simp [t_nn, t_and, b0_0]; done) | simp [z_lt, h_bad])
    · exact RP_bad (z_lt0 h_bad) (RI_ak hR _ _ _) (by first | rfl | (simp [t_nn, t_and, b1_0, b1_1]; done) | simp [z_lt, h_bad])
    · exact RP_bad (z_lt0 h_bad) (RI_ak hR _ _ _) (by first | rfl | (simp [t_nn, t_and, b2_0, b2_1]; done) | simp [z_lt, h_bad])
theorem RI_made {G : zG} {u : sS} {m : Nat} {th : Int32} {ft : Nat → Int32} {K : Nat → Nat} {tp pn td : Nat} {R : zM} (h : RI G u m th K tp pn td R) {i q1 q2 n : Nat} (hi : i < 6) {p : sP} (hp : p_ro p = s_nr u) (hq1 : R q1 = none) (hq2 : z_up R q1 (aI G (s_ba (s_ln u) (s_nr u) + n) (z_cp ft (s_ba (s_ln u) (s_nr u)))) q2 = none) {fp : Nat → Option Nat} (hfp : R pn = some (aII G 6 fp)) (htp : R tp = some (aI G (s_ba (s_ln u) (s_nr u)) ft)) (hr : ∀ j, j < 6 → p_ro (s_pn u j) < s_nr u) (th' : Int32) :
    RI G (s_act (s_up (s_new u n) i p)) m th' (s_fu K i q2) q1 pn td (z_up (z_up (z_up (z_up R q1 (aI G (s_ba (s_ln u) (s_nr u) + n) (z_cp ft (s_ba (s_ln u) (s_nr u))))) q2 (cPy G (nI (s_ba (s_ln u) (s_nr u))) p)) pn (aII G 6 (va_up fp i (some q2)))) m (cMd q1 (nI (s_nr u) + 1) pn td (s_ac u + 1) (s_kn u) th')) := by
  obtain ⟨h1, ⟨ft', h2, h3⟩, ⟨fp', h4, h5⟩, h6, h7, iK, i1, i2, i3⟩ := h
  have e : fp' = fp := by
    have := h4.symm.trans hfp
    simpa using this
  subst e
  have e : ft' = ft := by
    have := h2.symm.trans htp
    simpa using this
  subst e
  have hq2' := z_upq hq2
  have n1 : ∀ {b : Nat} {e : va_E}, R b = some e → b ≠ q1 := fun hb => z_neN hb hq1
  have n2 : ∀ {b : Nat} {e : va_E}, R b = some e → b ≠ q2 := fun hb => z_neN hb hq2'
  have n12 : q1 ≠ q2 := fun q => by rw [← q, z_up_s] at hq2; cases hq2
  have npm : m ≠ pn := z_ne h1 h4 (by intro h; cases h)
  have g : ∀ {b : Nat} {e : va_E} {e1 e2 e3 e4 : va_E}, R b = some e → b ≠ pn → b ≠ m → z_up (z_up (z_up (z_up R q1 e1) q2 e2) pn e3) m e4 b = some e := fun hb x1 x2 => by
    rw [z_up_n _ _ x2, z_up_n _ _ x1, z_up_n _ _ (n2 hb), z_up_n _ _ (n1 hb)]; exact hb
  have hb : ∀ r, r ≤ s_nr u → s_ba (s_ln (s_new u n)) r = s_ba (s_ln u) r := fun r hr => by
    induction r with
    | zero => rfl
    | succ r ih =>
      show s_ba (s_ln (s_new u n)) r + (if r = s_nr u then n else s_ln u r) = s_ba (s_ln u) r + s_ln u r
      rw [ih (by omega), if_neg (by omega)]
  have hbn : s_ba (s_ln (s_new u n)) (s_nr u + 1) = s_ba (s_ln u) (s_nr u) + n := by
    show s_ba (s_ln (s_new u n)) (s_nr u) + (if s_nr u = s_nr u then n else s_ln u (s_nr u)) = _
    rw [hb _ (Nat.le_refl _), if_pos rfl]
  have q1pn := (n1 h4).symm
  have q1m := (n1 h1).symm
  have q2pn := (n2 h4).symm
  have q2m := (n2 h1).symm
  refine ⟨?_, ⟨z_cp ft' (s_ba (s_ln u) (s_nr u)), ?_, ?_⟩, ⟨va_up fp' i (some q2), ?_, ?_⟩, g h6 (z_ne h6 h4 (by intro h; simp at h)) (z_ne h6 h1 (by intro h; cases h)), fun j hj => ?_, fun a b ha hb hab => ?_, fun j hj => ?_, fun j hj => ?_, n1 h6⟩
  · rw [z_up_s, nI_1]; rfl
  · rw [z_up_n _ _ q1m, z_up_n _ _ q1pn, z_up_n _ _ n12, z_up_s]
    show some (aI G (s_ba (s_ln u) (s_nr u) + n) _) = some (aI G (s_ba (s_ln (s_new u n)) (s_nr u + 1)) _)
    rw [hbn]
  · intro r hr j hj
    have hr : r < s_nr u + 1 := hr
    have hj : j < (if r = s_nr u then n else s_ln u r) := hj
    show z_cp ft' (s_ba (s_ln u) (s_nr u)) (s_ba (s_ln (s_new u n)) r + j) = (if r = s_nr u then (fun _ => 0) else s_vl u r) j
    rw [hb r (by omega)]
    by_cases hrn : r = s_nr u
    · subst hrn
      rw [if_pos rfl]
      unfold z_cp
      rw [if_neg (by omega)]
    · rw [if_neg hrn] at hj ⊢
      have := s_ba_lt (s_ln u) (r := r) (s := s_nr u) (by omega)
      unfold z_cp
      rw [if_pos (by omega)]
      exact h3 r (by omega) j hj
  · rw [z_up_n _ _ npm.symm, z_up_s]
  · intro j hj
    by_cases hji : j = i
    · subst hji; rw [s_fu_s]; simp [va_up]
    · rw [s_fu_n _ _ hji]; simp [va_up, hji, h5 j hj]
  · show _ = some (cPy G (nI (s_ba (s_ln (s_new u n)) (p_ro (s_pn (s_up (s_new u n) i p) j)))) (s_pn (s_up (s_new u n) i p) j))
    by_cases hji : j = i
    · subst hji
      rw [s_fu_s, s_up_s, hp, hb _ (Nat.le_refl _), z_up_n _ _ q2m, z_up_n _ _ q2pn, z_up_s]
    · rw [s_fu_n _ _ hji, s_up_n _ _ hji, show s_pn (s_new u n) j = s_pn u j from rfl, hb _ (Nat.le_of_lt (hr j hj))]
      exact g (h7 j hj) (z_ne (h7 j hj) h4 (by intro h; simp at h)) (z_ne (h7 j hj) h1 (by intro h; cases h))
  · by_cases h1a : a = i
    · by_cases h1b : b = i
      · exact h1a.trans h1b.symm
      · subst h1a
        rw [s_fu_s, s_fu_n _ _ h1b] at hab
        exact absurd hab.symm (n2 (h7 b hb))
    · by_cases h1b : b = i
      · subst h1b
        rw [s_fu_s, s_fu_n _ _ h1a] at hab
        exact absurd hab (n2 (h7 a ha))
      · rw [s_fu_n _ _ h1a, s_fu_n _ _ h1b] at hab
        exact iK a b ha hb hab
  · by_cases hji : j = i
    · subst hji; rw [s_fu_s]; exact (n2 h6).symm
    · rw [s_fu_n _ _ hji]; exact i1 j hj
  · by_cases hji : j = i
    · subst hji; rw [s_fu_s]; exact n12.symm
    · rw [s_fu_n _ _ hji]; exact n1 (h7 j hj)
theorem z_fr9 {M : zM} {a b c : Nat} {e f : va_E} (h : a ≠ b) (_ : a ≠ c) : z_up (z_up M a e) b f c = z_up (z_up M b f) a e c := by rw [z_up_swap _ h]
theorem z_fr8 {M : zM} {a b q : Nat} {e f : va_E} (h : z_up (z_up M a e) b f q = none) : z_up M a e q = none := z_upq h
theorem a_X5_fresh (l : Launch) {G : zG} {u : sS} {m : Nat} {th : Int32} {K : Nat → Nat} {tp pn td : Nat} {R : zM} (hR : RI G u m th K tp pn td R) {t : Nat} (hok : s_ok t u) (ht : t ≤ 64) (pane ln : Int32) : z_Mi l G qX5_fresh (z_rm 3 2 1000) [.ref m, .int pane, .int ln] R (RP G m pn td (z_lt (z_is pane 0 5) (z_is ln 0 12)) u (s_fresh u pane.toNatClampNeg ln)) := by
  obtain ⟨hm, ⟨ft, htp, hft⟩, ⟨fp, hpn, hfp⟩, htd, hK, iK, i1, i2, i3⟩ := id hR
  rcases z_pc pane with ⟨h_ok, h_ip, hi⟩ | ⟨h_bad, -⟩
  · refine z_Mi_mono (c_X5_fresh l G hm htp hpn h_ok h_ip rfl (s_ba_nt hok ht)) ?_
    rintro r M' (⟨q7_27, hq7_27, q_47_27, hq_47_27, c0_0, hr9, rfl⟩ | ⟨c1_0, hr9, rfl⟩)
    · rw [hr9]
      rw [z_fr9 (z_neN hm (z_upq hq7_27)) (z_neN hm (z_upq (z_fr8 hq_47_27)))] at hq_47_27
      exact RP_ok (v := s_act (s_up (s_new u ln.toNatClampNeg) pane.toNatClampNeg ((s_nr u, 0, ln, 0, ln, -1, 0) : sP))) rfl (z_lr0 c0_0) (RI_made hR hi (p := ((s_nr u, 0, ln, 0, ln, -1, 0) : sP)) rfl (z_upq hq7_27) (z_upq hq_47_27) hpn htp (fun j hj => s_row hok hj) _)
    · rw [hr9]
      exact RP_bad (z_lr1 c1_0) (RI_ak hR _ _ _)
  · refine z_Mi_mono (c_X5_fresh_bad l G hm h_bad) ?_
    rintro r M' ⟨hr9, rfl⟩
    · exact RP_bad (z_lt0 h_bad) (RI_ak hR _ _ _) (by first | rfl | (simp [t_nn, t_and]; done) | simp [z_lt, h_bad])
theorem a_X5_knock (l : Launch) {G : zG} {u : sS} {m : Nat} {th : Int32} {K : Nat → Nat} {tp pn td : Nat} {R : zM} (hR : RI G u m th K tp pn td R) : z_Mi l G qX5_knock (z_rm 1 0 0) [.ref m] R (RP G m pn td 0 u (s_kn u + 1, s_ak u (s_ac u) (s_kn u + 1))) := by
  refine z_Mi_mono (c_X5_knock l G hR.1) ?_
  rintro r M' ⟨rfl, rfl⟩
  exact RP_ok rfl rfl (RI_ak hR _ _ _)
theorem a_X5_isSound (l : Launch) {G : zG} {u : sS} {m : Nat} {th : Int32} {K : Nat → Nat} {tp pn td : Nat} {R : zM} (hR : RI G u m th K tp pn td R) : z_Mi l G qX5_isSound (z_rm 1 0 0) [.ref m] R (RP G m pn td 0 u (1, u)) := by
  refine z_Mi_mono (c_X5_isSound l G hR.1) ?_
  rintro r M' ⟨rfl, rfl⟩
  exact RP_ok rfl rfl (RI_ak hR (s_ac u) (s_kn u) _)
end
section
/-! PART 32: the class's calls, over states -/
/-- what a call of the class leaves: it returns (k is 0), or throws (k tells what) -/
def CP (G : zG) (x pa sp ln rf sb : Nat) (k : Int32) (b : sR) : Int32 → zM → Prop := fun r M' => k = 0 ∧ r = b.1 ∧ ∃ P RA VA, CI G b.2 x P RA VA pa sp ln rf sb M'
def CX (G : zG) (x pa sp ln rf sb : Nat) (k : Int32) (u : sS) : String → zM → Prop := fun E M' => ((k = 1 ∧ E = "java/lang/IndexOutOfBoundsException") ∨ (k = 2 ∧ E = "java/lang/IllegalArgumentException")) ∧ ∃ P RA VA, CI G u x P RA VA pa sp ln rf sb M'
section CPS
variable {G : zG} {x pa sp ln rf sb : Nat} {k : Int32} {b : sR} {u v : sS} {P RA VA : Nat → Nat} {r : Int32} {M' : zM}
theorem CP_ok (e : b = (r, v)) (hk : k = 0) (h : CI G v x P RA VA pa sp ln rf sb M') : CP G x pa sp ln rf sb k b r M' := by
  subst e
  exact ⟨hk, rfl, P, RA, VA, h⟩
theorem CX_1 (hk : k = 1) (h : CI G u x P RA VA pa sp ln rf sb M') : CX G x pa sp ln rf sb k u "java/lang/IndexOutOfBoundsException" M' := ⟨Or.inl ⟨hk, rfl⟩, P, RA, VA, h⟩
theorem CX_2 (hk : k = 2) (h : CI G u x P RA VA pa sp ln rf sb M') : CX G x pa sp ln rf sb k u "java/lang/IllegalArgumentException" M' := ⟨Or.inr ⟨hk, rfl⟩, P, RA, VA, h⟩
end CPS
theorem k_1 {t f : Int32} (h : t = 0) : z_lt t f = 1 := by rw [h]; exact if_pos rfl
theorem k_2 {t f : Int32} (h : t = 1) (h2 : f = 0) : z_lt t f = 2 := by rw [h, h2]; decide
theorem s_rdn' {t : Nat} {u : sS} {i : Nat} (h : s_ok t u) (hi : i < 6) : p_rd (s_pn u i) = 1 ↔ ¬ p_rd (s_pn u i) = 0 := by
  rcases (h.2.2.2.2.1 i hi).2.2.2 with q | q <;> rw [q] <;> decide
theorem s_rdb {t : Nat} {u : sS} {i : Nat} (h : s_ok t u) (hi : i < 6) : narrow .boolean (.int (p_rd (s_pn u i))) = .int (p_rd (s_pn u i)) ∧ fits .boolean (.int (p_rd (s_pn u i))) = true := by
  rcases (h.2.2.2.2.1 i hi).2.2.2 with q | q <;> rw [q] <;> exact ⟨rfl, by decide⟩
theorem z_hm0 {k : Int32} : z_hm k = 0 ↔ k = -1 := by
  unfold z_hm
  split
  · rename_i h; simp [h]
  · rename_i h; simp [h]
theorem s_po0' {t : Nat} {u : sS} {i : Nat} (h : s_ok t u) (hi : i < 6) : p_po (s_pn u i) = 0 ↔ ¬ 0 < p_po (s_pn u i) := by rw [s_po0 h hi, Int32.not_lt]
theorem CI_sw {G : zG} {u : sS} {x : Nat} {P RA VA : Nat → Nat} {pa sp ln rf sb : Nat} {C : zM} (h : CI G u x P RA VA pa sp ln rf sb C) {i j : Nat} (hi : i < 6) (hj : j < 6) {fp : Nat → Option Nat} (hfp : C pa = some (aP G 6 fp)) : CI G (s_sw u i j) x (s_fu (s_fu P i (P j)) j (P i)) RA VA pa sp ln rf sb (z_up C pa (aP G 6 (va_up (va_up fp i (some (P j))) j (some (P i))))) := by
  obtain ⟨hx, ⟨fp', hpa, hp5⟩, hP, ⟨o9, p9, hsp⟩, hRA, hVA, hrf, hln, ⟨vb, ml, ct, n, f, hsb, hvb, hc⟩, iP, iS, iR, iV, iF⟩ := h
  have e : fp' = fp := by
    have := hpa.symm.trans hfp
    simpa using this
  subst e
  refine ⟨zk hpa hx (by intro h; cases h), ⟨_, z_up_s _ _ _, s_fu_fp hp5⟩, fun k hk => ?_, ⟨o9, p9, zk hpa hsp (by intro h; cases h)⟩, fun r hr => zk hpa (hRA r hr) (by intro h; cases h), fun r hr => zk hpa (hVA r hr) (by intro h; simp at h), zk hpa hrf (by intro h; simp at h), zk hpa hln (by intro h; cases h), ⟨vb, ml, ct, n, f, zk hpa hsb (by intro h; cases h), zk hpa hvb (by intro h; simp at h), hc⟩, s_fu_inj hi hj iP, s_fu_in (Q := fun q => q ≠ sp) hi hj iS, iR, iV, iF⟩
  by_cases hkj : k = j
  · subst hkj
    rw [s_fu_s, s_sw, s_up_s]
    exact zk hpa (hP i hi) (by intro h; cases h)
  · rw [s_fu_n _ _ hkj]
    by_cases hki : k = i
    · subst hki
      rw [s_fu_s, s_sw, s_up_n _ _ hkj, s_up_s]
      exact zk hpa (hP j hj) (by intro h; cases h)
    · rw [s_fu_n _ _ hki, s_sw, s_up_n _ _ hkj, s_up_n _ _ hki]
      exact zk hpa (hP k hk) (by intro h; cases h)
theorem a_X3_go (l : Launch) (h_st : l.stackTraces = false) {G : zG} {u : sS} {x : Nat} {P RA VA : Nat → Nat} {pa sp ln rf sb : Nat} {C : zM} (hC : CI G u x P RA VA pa sp ln rf sb C) {t : Nat} (hok : s_ok t u) (pane pl0 : Int32) : z_Xi l G qX3_go (z_rm 12 8 48) [.ref x, .int pane, .int pl0] C (CP G x pa sp ln rf sb (z_lt (z_is pane 0 5) 1) (s_go u pane.toNatClampNeg pl0)) (CX G x pa sp ln rf sb (z_lt (z_is pane 0 5) 1) u) := by
  obtain ⟨hx, ⟨fp, hpa, hfp⟩, hP, ⟨o9, p9, hsp⟩, hRA, hVA, hrf, hln, ⟨vb, ml, ct, n, f, hsb, hvb, hc⟩, iP, iS, iR, iV, iF⟩ := id hC
  rcases z_pc pane with ⟨h_ok, h_ip, hi⟩ | ⟨h_bad, h_nip⟩
  · refine z_Xi_mono (c_X3_go l G h_st hx hrf hpa (hP _ hi) h_ip rfl (hfp _ hi)) ?_ ?_
    · rintro r M' (⟨c0_0, c0_1, hr9, rfl⟩ | ⟨c1_0, c1_1, hr9, rfl⟩ | ⟨c2_0, hr9, rfl⟩)
      · rw [hr9]
        exact CP_ok (v := s_ak (s_up (u) pane.toNatClampNeg (p_ro (s_pn u pane.toNatClampNeg), (p_sa (s_pn u pane.toNatClampNeg)), (p_cp (s_pn u pane.toNatClampNeg)), pl0, (p_li (s_pn u pane.toNatClampNeg)), (p_mk (s_pn u pane.toNatClampNeg)), (p_rd (s_pn u pane.toNatClampNeg)))) ((s_ac u) + 1) ((s_kn u))) (by simp [s_go, p_mv, c0_0, c0_1] <;> rfl) (z_lt3 h_ok rfl) (CI_ak (CI_pn hC hi (p_ro (s_pn u pane.toNatClampNeg), (p_sa (s_pn u pane.toNatClampNeg)), (p_cp (s_pn u pane.toNatClampNeg)), pl0, (p_li (s_pn u pane.toNatClampNeg)), (p_mk (s_pn u pane.toNatClampNeg)), (p_rd (s_pn u pane.toNatClampNeg)))) _ _)
      · rw [hr9]
        exact CP_ok (v := s_ak (s_up (u) pane.toNatClampNeg (p_ro (s_pn u pane.toNatClampNeg), (p_sa (s_pn u pane.toNatClampNeg)), (p_cp (s_pn u pane.toNatClampNeg)), pl0, (p_li (s_pn u pane.toNatClampNeg)), (-1), (p_rd (s_pn u pane.toNatClampNeg)))) ((s_ac u) + 1) ((s_kn u))) (by simp [s_go, p_mv, c1_0, c1_1] <;> rfl) (z_lt3 h_ok rfl) (CI_ak (CI_pn hC hi (p_ro (s_pn u pane.toNatClampNeg), (p_sa (s_pn u pane.toNatClampNeg)), (p_cp (s_pn u pane.toNatClampNeg)), pl0, (p_li (s_pn u pane.toNatClampNeg)), (-1), (p_rd (s_pn u pane.toNatClampNeg)))) _ _)
      · rw [hr9]
        exact CP_ok (v := s_tdu (u) (upd (s_td u) 5 (((s_td u) 5) + 1))) (by simp [s_go, p_mv, c2_0] <;> rfl) (z_lt3 h_ok rfl) (CI_td hC _)
    · exact fun E M' h => h.elim
  · refine z_Xi_mono (c_X3_go_bad l G h_st hx hpa h_nip) (fun r M' h => h.elim) ?_
    rintro E M' (⟨x0_0, rfl, rfl⟩ | ⟨x1_0, rfl, rfl⟩)
    · exact CX_1 (k_1 h_bad) hC
    · exact CX_1 (k_1 h_bad) hC
theorem a_X3_end (l : Launch) (h_st : l.stackTraces = false) {G : zG} {u : sS} {x : Nat} {P RA VA : Nat → Nat} {pa sp ln rf sb : Nat} {C : zM} (hC : CI G u x P RA VA pa sp ln rf sb C) {t : Nat} (hok : s_ok t u) (pane pl0 : Int32) : z_Xi l G qX3_end (z_rm 12 8 48) [.ref x, .int pane, .int pl0] C (CP G x pa sp ln rf sb (z_lt (z_is pane 0 5) 1) (s_end u pane.toNatClampNeg pl0)) (CX G x pa sp ln rf sb (z_lt (z_is pane 0 5) 1) u) := by
  obtain ⟨hx, ⟨fp, hpa, hfp⟩, hP, ⟨o9, p9, hsp⟩, hRA, hVA, hrf, hln, ⟨vb, ml, ct, n, f, hsb, hvb, hc⟩, iP, iS, iR, iV, iF⟩ := id hC
  rcases z_pc pane with ⟨h_ok, h_ip, hi⟩ | ⟨h_bad, h_nip⟩
  · refine z_Xi_mono (c_X3_end l G h_st hx hrf hpa (hP _ hi) h_ip rfl (hfp _ hi)) ?_ ?_
    · rintro r M' (⟨c0_0, c0_1, c0_2, hr9, rfl⟩ | ⟨c1_0, c1_1, c1_2, hr9, rfl⟩ | ⟨c2_0, c2_1, c2_2, hr9, rfl⟩ | ⟨c3_0, c3_1, c3_2, hr9, rfl⟩ | ⟨c4_0, hr9, rfl⟩)
      · rw [hr9]
        exact CP_ok (v := s_ak (s_up (u) pane.toNatClampNeg (p_ro (s_pn u pane.toNatClampNeg), (p_sa (s_pn u pane.toNatClampNeg)), (p_cp (s_pn u pane.toNatClampNeg)), (p_po (s_pn u pane.toNatClampNeg)), pl0, (p_mk (s_pn u pane.toNatClampNeg)), (p_rd (s_pn u pane.toNatClampNeg)))) ((s_ac u) + 1) ((s_kn u))) (by simp [s_end, p_en, c0_0, c0_1, c0_2] <;> rfl) (z_lt3 h_ok rfl) (CI_ak (CI_pn hC hi (p_ro (s_pn u pane.toNatClampNeg), (p_sa (s_pn u pane.toNatClampNeg)), (p_cp (s_pn u pane.toNatClampNeg)), (p_po (s_pn u pane.toNatClampNeg)), pl0, (p_mk (s_pn u pane.toNatClampNeg)), (p_rd (s_pn u pane.toNatClampNeg)))) _ _)
      · rw [hr9]
        exact CP_ok (v := s_ak (s_up (u) pane.toNatClampNeg (p_ro (s_pn u pane.toNatClampNeg), (p_sa (s_pn u pane.toNatClampNeg)), (p_cp (s_pn u pane.toNatClampNeg)), (p_po (s_pn u pane.toNatClampNeg)), pl0, (-1), (p_rd (s_pn u pane.toNatClampNeg)))) ((s_ac u) + 1) ((s_kn u))) (by simp [s_end, p_en, c1_0, c1_1, c1_2] <;> rfl) (z_lt3 h_ok rfl) (CI_ak (CI_pn hC hi (p_ro (s_pn u pane.toNatClampNeg), (p_sa (s_pn u pane.toNatClampNeg)), (p_cp (s_pn u pane.toNatClampNeg)), (p_po (s_pn u pane.toNatClampNeg)), pl0, (-1), (p_rd (s_pn u pane.toNatClampNeg)))) _ _)
      · rw [hr9]
        exact CP_ok (v := s_ak (s_up (u) pane.toNatClampNeg (p_ro (s_pn u pane.toNatClampNeg), (p_sa (s_pn u pane.toNatClampNeg)), (p_cp (s_pn u pane.toNatClampNeg)), pl0, pl0, (p_mk (s_pn u pane.toNatClampNeg)), (p_rd (s_pn u pane.toNatClampNeg)))) ((s_ac u) + 1) ((s_kn u))) (by simp [s_end, p_en, c2_0, c2_1, c2_2] <;> rfl) (z_lt3 h_ok rfl) (CI_ak (CI_pn hC hi (p_ro (s_pn u pane.toNatClampNeg), (p_sa (s_pn u pane.toNatClampNeg)), (p_cp (s_pn u pane.toNatClampNeg)), pl0, pl0, (p_mk (s_pn u pane.toNatClampNeg)), (p_rd (s_pn u pane.toNatClampNeg)))) _ _)
      · rw [hr9]
        exact CP_ok (v := s_ak (s_up (u) pane.toNatClampNeg (p_ro (s_pn u pane.toNatClampNeg), (p_sa (s_pn u pane.toNatClampNeg)), (p_cp (s_pn u pane.toNatClampNeg)), pl0, pl0, (-1), (p_rd (s_pn u pane.toNatClampNeg)))) ((s_ac u) + 1) ((s_kn u))) (by simp [s_end, p_en, c3_0, c3_1, c3_2] <;> rfl) (z_lt3 h_ok rfl) (CI_ak (CI_pn hC hi (p_ro (s_pn u pane.toNatClampNeg), (p_sa (s_pn u pane.toNatClampNeg)), (p_cp (s_pn u pane.toNatClampNeg)), pl0, pl0, (-1), (p_rd (s_pn u pane.toNatClampNeg)))) _ _)
      · rw [hr9]
        exact CP_ok (v := s_tdu (u) (upd (s_td u) 5 (((s_td u) 5) + 1))) (by simp [s_end, p_en, c4_0] <;> rfl) (z_lt3 h_ok rfl) (CI_td hC _)
    · exact fun E M' h => h.elim
  · refine z_Xi_mono (c_X3_end_bad l G h_st hx hpa h_nip) (fun r M' h => h.elim) ?_
    rintro E M' (⟨x0_0, rfl, rfl⟩ | ⟨x1_0, rfl, rfl⟩)
    · exact CX_1 (k_1 h_bad) hC
    · exact CX_1 (k_1 h_bad) hC
theorem a_X3_mark (l : Launch) (h_st : l.stackTraces = false) {G : zG} {u : sS} {x : Nat} {P RA VA : Nat → Nat} {pa sp ln rf sb : Nat} {C : zM} (hC : CI G u x P RA VA pa sp ln rf sb C) {t : Nat} (hok : s_ok t u) (pane : Int32) : z_Xi l G qX3_mark (z_rm 12 8 48) [.ref x, .int pane] C (CP G x pa sp ln rf sb (z_lt (z_is pane 0 5) 1) (s_mark u pane.toNatClampNeg)) (CX G x pa sp ln rf sb (z_lt (z_is pane 0 5) 1) u) := by
  obtain ⟨hx, ⟨fp, hpa, hfp⟩, hP, ⟨o9, p9, hsp⟩, hRA, hVA, hrf, hln, ⟨vb, ml, ct, n, f, hsb, hvb, hc⟩, iP, iS, iR, iV, iF⟩ := id hC
  rcases z_pc pane with ⟨h_ok, h_ip, hi⟩ | ⟨h_bad, h_nip⟩
  · refine z_Xi_mono (c_X3_mark l G h_st hx hrf hpa (hP _ hi) h_ip rfl (hfp _ hi)) ?_ ?_
    · rintro r M' ⟨hr9, rfl⟩
      · rw [hr9]
        exact CP_ok (v := s_ak (s_up (u) pane.toNatClampNeg (p_ro (s_pn u pane.toNatClampNeg), (p_sa (s_pn u pane.toNatClampNeg)), (p_cp (s_pn u pane.toNatClampNeg)), (p_po (s_pn u pane.toNatClampNeg)), (p_li (s_pn u pane.toNatClampNeg)), (p_po (s_pn u pane.toNatClampNeg)), (p_rd (s_pn u pane.toNatClampNeg)))) ((s_ac u) + 1) ((s_kn u))) (by simp [s_mark, p_mkd, p_po', p_bg] <;> rfl) (z_lt3 h_ok rfl) (CI_ak (CI_pn hC hi (p_ro (s_pn u pane.toNatClampNeg), (p_sa (s_pn u pane.toNatClampNeg)), (p_cp (s_pn u pane.toNatClampNeg)), (p_po (s_pn u pane.toNatClampNeg)), (p_li (s_pn u pane.toNatClampNeg)), (p_po (s_pn u pane.toNatClampNeg)), (p_rd (s_pn u pane.toNatClampNeg)))) _ _)
    · exact fun E M' h => h.elim
  · refine z_Xi_mono (c_X3_mark_bad l G h_st hx hpa h_nip) (fun r M' h => h.elim) ?_
    rintro E M' (⟨x0_0, rfl, rfl⟩ | ⟨x1_0, rfl, rfl⟩)
    · exact CX_1 (k_1 h_bad) hC
    · exact CX_1 (k_1 h_bad) hC
theorem a_X3_back (l : Launch) (h_st : l.stackTraces = false) {G : zG} {u : sS} {x : Nat} {P RA VA : Nat → Nat} {pa sp ln rf sb : Nat} {C : zM} (hC : CI G u x P RA VA pa sp ln rf sb C) {t : Nat} (hok : s_ok t u) (pane : Int32) : z_Xi l G qX3_back (z_rm 12 8 48) [.ref x, .int pane] C (CP G x pa sp ln rf sb (z_lt (z_is pane 0 5) 1) (s_back u pane.toNatClampNeg)) (CX G x pa sp ln rf sb (z_lt (z_is pane 0 5) 1) u) := by
  obtain ⟨hx, ⟨fp, hpa, hfp⟩, hP, ⟨o9, p9, hsp⟩, hRA, hVA, hrf, hln, ⟨vb, ml, ct, n, f, hsb, hvb, hc⟩, iP, iS, iR, iV, iF⟩ := id hC
  rcases z_pc pane with ⟨h_ok, h_ip, hi⟩ | ⟨h_bad, h_nip⟩
  · refine z_Xi_mono (c_X3_back l G h_st hx hrf hpa (hP _ hi) h_ip rfl (hfp _ hi)) ?_ ?_
    · rintro r M' (⟨c0_0, c0_1, hr9, rfl⟩ | ⟨c1_0, c1_1, hr9, rfl⟩ | ⟨c2_0, hr9, rfl⟩)
      · rw [hr9]
        exact CP_ok (v := s_ak (s_up (u) pane.toNatClampNeg (p_ro (s_pn u pane.toNatClampNeg), (p_sa (s_pn u pane.toNatClampNeg)), (p_cp (s_pn u pane.toNatClampNeg)), (p_mk (s_pn u pane.toNatClampNeg)), (p_li (s_pn u pane.toNatClampNeg)), (p_mk (s_pn u pane.toNatClampNeg)), (p_rd (s_pn u pane.toNatClampNeg)))) ((s_ac u) + 1) ((s_kn u))) (by simp [s_back, p_mkd, p_po', p_bg, (show ¬ p_mk (s_pn u pane.toNatClampNeg) = -1 from fun q => c0_0 (z_hm0.mpr q))] <;> rfl) (z_lt3 h_ok rfl) (CI_ak (CI_pn hC hi (p_ro (s_pn u pane.toNatClampNeg), (p_sa (s_pn u pane.toNatClampNeg)), (p_cp (s_pn u pane.toNatClampNeg)), (p_mk (s_pn u pane.toNatClampNeg)), (p_li (s_pn u pane.toNatClampNeg)), (p_mk (s_pn u pane.toNatClampNeg)), (p_rd (s_pn u pane.toNatClampNeg)))) _ _)
      · exact absurd (Int32.le_refl _) c1_1
      · rw [hr9]
        exact CP_ok (v := s_tdu (u) (upd (s_td u) 3 (((s_td u) 3) + 1))) (by simp [s_back, p_mkd, p_po', p_bg, (z_hm0.mp c2_0)] <;> rfl) (z_lt3 h_ok rfl) (CI_td hC _)
    · exact fun E M' h => h.elim
  · refine z_Xi_mono (c_X3_back_bad l G h_st hx hpa h_nip) (fun r M' h => h.elim) ?_
    rintro E M' (⟨x0_0, rfl, rfl⟩ | ⟨x1_0, rfl, rfl⟩)
    · exact CX_1 (k_1 h_bad) hC
    · exact CX_1 (k_1 h_bad) hC
theorem a_X3_clear (l : Launch) (h_st : l.stackTraces = false) {G : zG} {u : sS} {x : Nat} {P RA VA : Nat → Nat} {pa sp ln rf sb : Nat} {C : zM} (hC : CI G u x P RA VA pa sp ln rf sb C) {t : Nat} (hok : s_ok t u) (pane : Int32) : z_Xi l G qX3_clear (z_rm 12 8 48) [.ref x, .int pane] C (CP G x pa sp ln rf sb (z_lt (z_is pane 0 5) 1) (s_clear u pane.toNatClampNeg)) (CX G x pa sp ln rf sb (z_lt (z_is pane 0 5) 1) u) := by
  obtain ⟨hx, ⟨fp, hpa, hfp⟩, hP, ⟨o9, p9, hsp⟩, hRA, hVA, hrf, hln, ⟨vb, ml, ct, n, f, hsb, hvb, hc⟩, iP, iS, iR, iV, iF⟩ := id hC
  rcases z_pc pane with ⟨h_ok, h_ip, hi⟩ | ⟨h_bad, h_nip⟩
  · refine z_Xi_mono (c_X3_clear l G h_st hx hrf hpa (hP _ hi) h_ip rfl (hfp _ hi)) ?_ ?_
    · rintro r M' ⟨hr9, rfl⟩
      · rw [hr9]
        exact CP_ok (v := s_ak (s_up (u) pane.toNatClampNeg (p_ro (s_pn u pane.toNatClampNeg), (p_sa (s_pn u pane.toNatClampNeg)), (p_cp (s_pn u pane.toNatClampNeg)), 0, (p_cp (s_pn u pane.toNatClampNeg)), (-1), (p_rd (s_pn u pane.toNatClampNeg)))) ((s_ac u) + 1) ((s_kn u))) (by simp [s_clear, p_mkd, p_po', p_bg] <;> rfl) (z_lt3 h_ok rfl) (CI_ak (CI_pn hC hi (p_ro (s_pn u pane.toNatClampNeg), (p_sa (s_pn u pane.toNatClampNeg)), (p_cp (s_pn u pane.toNatClampNeg)), 0, (p_cp (s_pn u pane.toNatClampNeg)), (-1), (p_rd (s_pn u pane.toNatClampNeg)))) _ _)
    · exact fun E M' h => h.elim
  · refine z_Xi_mono (c_X3_clear_bad l G h_st hx hpa h_nip) (fun r M' h => h.elim) ?_
    rintro E M' (⟨x0_0, rfl, rfl⟩ | ⟨x1_0, rfl, rfl⟩)
    · exact CX_1 (k_1 h_bad) hC
    · exact CX_1 (k_1 h_bad) hC
theorem a_X3_flip (l : Launch) (h_st : l.stackTraces = false) {G : zG} {u : sS} {x : Nat} {P RA VA : Nat → Nat} {pa sp ln rf sb : Nat} {C : zM} (hC : CI G u x P RA VA pa sp ln rf sb C) {t : Nat} (hok : s_ok t u) (pane : Int32) : z_Xi l G qX3_flip (z_rm 12 8 48) [.ref x, .int pane] C (CP G x pa sp ln rf sb (z_lt (z_is pane 0 5) 1) (s_flip u pane.toNatClampNeg)) (CX G x pa sp ln rf sb (z_lt (z_is pane 0 5) 1) u) := by
  obtain ⟨hx, ⟨fp, hpa, hfp⟩, hP, ⟨o9, p9, hsp⟩, hRA, hVA, hrf, hln, ⟨vb, ml, ct, n, f, hsb, hvb, hc⟩, iP, iS, iR, iV, iF⟩ := id hC
  rcases z_pc pane with ⟨h_ok, h_ip, hi⟩ | ⟨h_bad, h_nip⟩
  · refine z_Xi_mono (c_X3_flip l G h_st hx hrf hpa (hP _ hi) h_ip rfl (hfp _ hi)) ?_ ?_
    · rintro r M' ⟨hr9, rfl⟩
      · rw [hr9]
        exact CP_ok (v := s_ak (s_up (u) pane.toNatClampNeg (p_ro (s_pn u pane.toNatClampNeg), (p_sa (s_pn u pane.toNatClampNeg)), (p_cp (s_pn u pane.toNatClampNeg)), 0, (p_po (s_pn u pane.toNatClampNeg)), (-1), (p_rd (s_pn u pane.toNatClampNeg)))) ((s_ac u) + 1) ((s_kn u))) (by simp [s_flip, p_mkd, p_po', p_bg] <;> rfl) (z_lt3 h_ok rfl) (CI_ak (CI_pn hC hi (p_ro (s_pn u pane.toNatClampNeg), (p_sa (s_pn u pane.toNatClampNeg)), (p_cp (s_pn u pane.toNatClampNeg)), 0, (p_po (s_pn u pane.toNatClampNeg)), (-1), (p_rd (s_pn u pane.toNatClampNeg)))) _ _)
    · exact fun E M' h => h.elim
  · refine z_Xi_mono (c_X3_flip_bad l G h_st hx hpa h_nip) (fun r M' h => h.elim) ?_
    rintro E M' (⟨x0_0, rfl, rfl⟩ | ⟨x1_0, rfl, rfl⟩)
    · exact CX_1 (k_1 h_bad) hC
    · exact CX_1 (k_1 h_bad) hC
theorem a_X3_rewind (l : Launch) (h_st : l.stackTraces = false) {G : zG} {u : sS} {x : Nat} {P RA VA : Nat → Nat} {pa sp ln rf sb : Nat} {C : zM} (hC : CI G u x P RA VA pa sp ln rf sb C) {t : Nat} (hok : s_ok t u) (pane : Int32) : z_Xi l G qX3_rewind (z_rm 12 8 48) [.ref x, .int pane] C (CP G x pa sp ln rf sb (z_lt (z_is pane 0 5) 1) (s_rewind u pane.toNatClampNeg)) (CX G x pa sp ln rf sb (z_lt (z_is pane 0 5) 1) u) := by
  obtain ⟨hx, ⟨fp, hpa, hfp⟩, hP, ⟨o9, p9, hsp⟩, hRA, hVA, hrf, hln, ⟨vb, ml, ct, n, f, hsb, hvb, hc⟩, iP, iS, iR, iV, iF⟩ := id hC
  rcases z_pc pane with ⟨h_ok, h_ip, hi⟩ | ⟨h_bad, h_nip⟩
  · refine z_Xi_mono (c_X3_rewind l G h_st hx hrf hpa (hP _ hi) h_ip rfl (hfp _ hi)) ?_ ?_
    · rintro r M' ⟨hr9, rfl⟩
      · rw [hr9]
        exact CP_ok (v := s_ak (s_up (u) pane.toNatClampNeg (p_ro (s_pn u pane.toNatClampNeg), (p_sa (s_pn u pane.toNatClampNeg)), (p_cp (s_pn u pane.toNatClampNeg)), 0, (p_li (s_pn u pane.toNatClampNeg)), (-1), (p_rd (s_pn u pane.toNatClampNeg)))) ((s_ac u) + 1) ((s_kn u))) (by simp [s_rewind, p_mkd, p_po', p_bg] <;> rfl) (z_lt3 h_ok rfl) (CI_ak (CI_pn hC hi (p_ro (s_pn u pane.toNatClampNeg), (p_sa (s_pn u pane.toNatClampNeg)), (p_cp (s_pn u pane.toNatClampNeg)), 0, (p_li (s_pn u pane.toNatClampNeg)), (-1), (p_rd (s_pn u pane.toNatClampNeg)))) _ _)
    · exact fun E M' h => h.elim
  · refine z_Xi_mono (c_X3_rewind_bad l G h_st hx hpa h_nip) (fun r M' h => h.elim) ?_
    rintro E M' (⟨x0_0, rfl, rfl⟩ | ⟨x1_0, rfl, rfl⟩)
    · exact CX_1 (k_1 h_bad) hC
    · exact CX_1 (k_1 h_bad) hC
theorem a_X3_move (l : Launch) (h_st : l.stackTraces = false) {G : zG} {u : sS} {x : Nat} {P RA VA : Nat → Nat} {pa sp ln rf sb : Nat} {C : zM} (hC : CI G u x P RA VA pa sp ln rf sb C) {t : Nat} (hok : s_ok t u) (pane bb : Int32) : z_Xi l G qX3_move (z_rm 12 8 48) [.ref x, .int pane, .int bb] C (CP G x pa sp ln rf sb (z_lt (z_is pane 0 5) (z_is bb (-20) 20)) (s_move u pane.toNatClampNeg bb)) (CX G x pa sp ln rf sb (z_lt (z_is pane 0 5) (z_is bb (-20) 20)) u) := by
  obtain ⟨hx, ⟨fp, hpa, hfp⟩, hP, ⟨o9, p9, hsp⟩, hRA, hVA, hrf, hln, ⟨vb, ml, ct, n, f, hsb, hvb, hc⟩, iP, iS, iR, iV, iF⟩ := id hC
  rcases z_pc pane with ⟨h_ok, h_ip, hi⟩ | ⟨h_bad, h_nip⟩
  · refine z_Xi_mono (c_X3_move l G h_st hx hrf hpa (hP _ hi) h_ip rfl (hfp _ hi)) ?_ ?_
    · rintro r M' (⟨c0_0, c0_1, c0_2, hr9, rfl⟩ | ⟨c1_0, c1_1, c1_2, hr9, rfl⟩ | ⟨c2_0, c2_1, hr9, rfl⟩)
      · rw [hr9]
        exact CP_ok (v := s_ak (s_up (u) pane.toNatClampNeg (p_ro (s_pn u pane.toNatClampNeg), (p_sa (s_pn u pane.toNatClampNeg)), (p_cp (s_pn u pane.toNatClampNeg)), ((p_po (s_pn u pane.toNatClampNeg)) + bb), (p_li (s_pn u pane.toNatClampNeg)), (p_mk (s_pn u pane.toNatClampNeg)), (p_rd (s_pn u pane.toNatClampNeg)))) ((s_ac u) + 1) ((s_kn u))) (by simp [s_move, p_mv, c0_0, c0_1, c0_2] <;> rfl) (z_lt3 h_ok (z_is11 c0_0)) (CI_ak (CI_pn hC hi (p_ro (s_pn u pane.toNatClampNeg), (p_sa (s_pn u pane.toNatClampNeg)), (p_cp (s_pn u pane.toNatClampNeg)), ((p_po (s_pn u pane.toNatClampNeg)) + bb), (p_li (s_pn u pane.toNatClampNeg)), (p_mk (s_pn u pane.toNatClampNeg)), (p_rd (s_pn u pane.toNatClampNeg)))) _ _)
      · rw [hr9]
        exact CP_ok (v := s_ak (s_up (u) pane.toNatClampNeg (p_ro (s_pn u pane.toNatClampNeg), (p_sa (s_pn u pane.toNatClampNeg)), (p_cp (s_pn u pane.toNatClampNeg)), ((p_po (s_pn u pane.toNatClampNeg)) + bb), (p_li (s_pn u pane.toNatClampNeg)), (-1), (p_rd (s_pn u pane.toNatClampNeg)))) ((s_ac u) + 1) ((s_kn u))) (by simp [s_move, p_mv, c1_0, c1_1, c1_2] <;> rfl) (z_lt3 h_ok (z_is11 c1_0)) (CI_ak (CI_pn hC hi (p_ro (s_pn u pane.toNatClampNeg), (p_sa (s_pn u pane.toNatClampNeg)), (p_cp (s_pn u pane.toNatClampNeg)), ((p_po (s_pn u pane.toNatClampNeg)) + bb), (p_li (s_pn u pane.toNatClampNeg)), (-1), (p_rd (s_pn u pane.toNatClampNeg)))) _ _)
      · rw [hr9]
        exact CP_ok (v := s_tdu (u) (upd (s_td u) 5 (((s_td u) 5) + 1))) (by simp [s_move, p_mv, c2_0, c2_1] <;> rfl) (z_lt3 h_ok (z_is11 c2_0)) (CI_td hC _)
    · rintro E M' ⟨x0_0, rfl, rfl⟩
      · exact CX_2 (k_2 h_ok x0_0) hC
  · refine z_Xi_mono (c_X3_move_bad l G h_st hx hpa h_nip) (fun r M' h => h.elim) ?_
    rintro E M' (⟨x0_0, rfl, rfl⟩ | ⟨x1_0, rfl, rfl⟩)
    · exact CX_1 (k_1 h_bad) hC
    · exact CX_1 (k_1 h_bad) hC
theorem a_X3_stretch (l : Launch) (h_st : l.stackTraces = false) {G : zG} {u : sS} {x : Nat} {P RA VA : Nat → Nat} {pa sp ln rf sb : Nat} {C : zM} (hC : CI G u x P RA VA pa sp ln rf sb C) {t : Nat} (hok : s_ok t u) (pane bb : Int32) : z_Xi l G qX3_stretch (z_rm 12 8 48) [.ref x, .int pane, .int bb] C (CP G x pa sp ln rf sb (z_lt (z_is pane 0 5) (z_is bb (-20) 20)) (s_stretch u pane.toNatClampNeg bb)) (CX G x pa sp ln rf sb (z_lt (z_is pane 0 5) (z_is bb (-20) 20)) u) := by
  obtain ⟨hx, ⟨fp, hpa, hfp⟩, hP, ⟨o9, p9, hsp⟩, hRA, hVA, hrf, hln, ⟨vb, ml, ct, n, f, hsb, hvb, hc⟩, iP, iS, iR, iV, iF⟩ := id hC
  rcases z_pc pane with ⟨h_ok, h_ip, hi⟩ | ⟨h_bad, h_nip⟩
  · refine z_Xi_mono (c_X3_stretch l G h_st hx hrf hpa (hP _ hi) h_ip rfl (hfp _ hi)) ?_ ?_
    · rintro r M' (⟨c0_0, c0_1, c0_2, c0_3, hr9, rfl⟩ | ⟨c1_0, c1_1, c1_2, c1_3, hr9, rfl⟩ | ⟨c2_0, c2_1, c2_2, c2_3, hr9, rfl⟩ | ⟨c3_0, c3_1, c3_2, c3_3, hr9, rfl⟩ | ⟨c4_0, c4_1, hr9, rfl⟩)
      · rw [hr9]
        exact CP_ok (v := s_ak (s_up (u) pane.toNatClampNeg (p_ro (s_pn u pane.toNatClampNeg), (p_sa (s_pn u pane.toNatClampNeg)), (p_cp (s_pn u pane.toNatClampNeg)), (p_po (s_pn u pane.toNatClampNeg)), ((p_li (s_pn u pane.toNatClampNeg)) + bb), (p_mk (s_pn u pane.toNatClampNeg)), (p_rd (s_pn u pane.toNatClampNeg)))) ((s_ac u) + 1) ((s_kn u))) (by simp [s_stretch, p_en, c0_0, c0_1, c0_2, c0_3] <;> rfl) (z_lt3 h_ok (z_is11 c0_0)) (CI_ak (CI_pn hC hi (p_ro (s_pn u pane.toNatClampNeg), (p_sa (s_pn u pane.toNatClampNeg)), (p_cp (s_pn u pane.toNatClampNeg)), (p_po (s_pn u pane.toNatClampNeg)), ((p_li (s_pn u pane.toNatClampNeg)) + bb), (p_mk (s_pn u pane.toNatClampNeg)), (p_rd (s_pn u pane.toNatClampNeg)))) _ _)
      · rw [hr9]
        exact CP_ok (v := s_ak (s_up (u) pane.toNatClampNeg (p_ro (s_pn u pane.toNatClampNeg), (p_sa (s_pn u pane.toNatClampNeg)), (p_cp (s_pn u pane.toNatClampNeg)), (p_po (s_pn u pane.toNatClampNeg)), ((p_li (s_pn u pane.toNatClampNeg)) + bb), (-1), (p_rd (s_pn u pane.toNatClampNeg)))) ((s_ac u) + 1) ((s_kn u))) (by simp [s_stretch, p_en, c1_0, c1_1, c1_2, c1_3] <;> rfl) (z_lt3 h_ok (z_is11 c1_0)) (CI_ak (CI_pn hC hi (p_ro (s_pn u pane.toNatClampNeg), (p_sa (s_pn u pane.toNatClampNeg)), (p_cp (s_pn u pane.toNatClampNeg)), (p_po (s_pn u pane.toNatClampNeg)), ((p_li (s_pn u pane.toNatClampNeg)) + bb), (-1), (p_rd (s_pn u pane.toNatClampNeg)))) _ _)
      · rw [hr9]
        exact CP_ok (v := s_ak (s_up (u) pane.toNatClampNeg (p_ro (s_pn u pane.toNatClampNeg), (p_sa (s_pn u pane.toNatClampNeg)), (p_cp (s_pn u pane.toNatClampNeg)), ((p_li (s_pn u pane.toNatClampNeg)) + bb), ((p_li (s_pn u pane.toNatClampNeg)) + bb), (p_mk (s_pn u pane.toNatClampNeg)), (p_rd (s_pn u pane.toNatClampNeg)))) ((s_ac u) + 1) ((s_kn u))) (by simp [s_stretch, p_en, c2_0, c2_1, c2_2, c2_3] <;> rfl) (z_lt3 h_ok (z_is11 c2_0)) (CI_ak (CI_pn hC hi (p_ro (s_pn u pane.toNatClampNeg), (p_sa (s_pn u pane.toNatClampNeg)), (p_cp (s_pn u pane.toNatClampNeg)), ((p_li (s_pn u pane.toNatClampNeg)) + bb), ((p_li (s_pn u pane.toNatClampNeg)) + bb), (p_mk (s_pn u pane.toNatClampNeg)), (p_rd (s_pn u pane.toNatClampNeg)))) _ _)
      · rw [hr9]
        exact CP_ok (v := s_ak (s_up (u) pane.toNatClampNeg (p_ro (s_pn u pane.toNatClampNeg), (p_sa (s_pn u pane.toNatClampNeg)), (p_cp (s_pn u pane.toNatClampNeg)), ((p_li (s_pn u pane.toNatClampNeg)) + bb), ((p_li (s_pn u pane.toNatClampNeg)) + bb), (-1), (p_rd (s_pn u pane.toNatClampNeg)))) ((s_ac u) + 1) ((s_kn u))) (by simp [s_stretch, p_en, c3_0, c3_1, c3_2, c3_3] <;> rfl) (z_lt3 h_ok (z_is11 c3_0)) (CI_ak (CI_pn hC hi (p_ro (s_pn u pane.toNatClampNeg), (p_sa (s_pn u pane.toNatClampNeg)), (p_cp (s_pn u pane.toNatClampNeg)), ((p_li (s_pn u pane.toNatClampNeg)) + bb), ((p_li (s_pn u pane.toNatClampNeg)) + bb), (-1), (p_rd (s_pn u pane.toNatClampNeg)))) _ _)
      · rw [hr9]
        exact CP_ok (v := s_tdu (u) (upd (s_td u) 5 (((s_td u) 5) + 1))) (by simp [s_stretch, p_en, c4_0, c4_1] <;> rfl) (z_lt3 h_ok (z_is11 c4_0)) (CI_td hC _)
    · rintro E M' ⟨x0_0, rfl, rfl⟩
      · exact CX_2 (k_2 h_ok x0_0) hC
  · refine z_Xi_mono (c_X3_stretch_bad l G h_st hx hpa h_nip) (fun r M' h => h.elim) ?_
    rintro E M' (⟨x0_0, rfl, rfl⟩ | ⟨x1_0, rfl, rfl⟩)
    · exact CX_1 (k_1 h_bad) hC
    · exact CX_1 (k_1 h_bad) hC
theorem a_X3_put (l : Launch) (h_st : l.stackTraces = false) {G : zG} {u : sS} {x : Nat} {P RA VA : Nat → Nat} {pa sp ln rf sb : Nat} {C : zM} (hC : CI G u x P RA VA pa sp ln rf sb C) {t : Nat} (hok : s_ok t u) (pane v : Int32) : z_Xi l G qX3_put (z_rm 12 8 48) [.ref x, .int pane, .int v] C (CP G x pa sp ln rf sb (z_lt (z_is pane 0 5) (t_nn v)) (s_put u pane.toNatClampNeg v)) (CX G x pa sp ln rf sb (z_lt (z_is pane 0 5) (t_nn v)) u) := by
  obtain ⟨hx, ⟨fp, hpa, hfp⟩, hP, ⟨o9, p9, hsp⟩, hRA, hVA, hrf, hln, ⟨vb, ml, ct, n, f, hsb, hvb, hc⟩, iP, iS, iR, iV, iF⟩ := id hC
  rcases z_pc pane with ⟨h_ok, h_ip, hi⟩ | ⟨h_bad, h_nip⟩
  · refine z_Xi_mono (c_X3_put l G h_st hx hrf hpa (hP _ hi) (hRA _ (s_row hok hi)) (hVA _ (s_row hok hi)) h_ip rfl (hfp _ hi) (iF _ (s_row hok hi)) (s_ow hok hi)) ?_ ?_
    · rintro r M' (⟨c0_0, c0_1, c0_2, hr9, rfl⟩ | ⟨c1_0, c1_1, c1_2, hr9, rfl⟩ | ⟨c2_0, c2_1, hr9, rfl⟩)
      · rw [hr9]
        exact CP_ok (v := s_ak (s_up (s_wr (u) (p_ro (s_pn u pane.toNatClampNeg)) (p_at (s_pn u pane.toNatClampNeg) ((p_po (s_pn u pane.toNatClampNeg)))) (v)) pane.toNatClampNeg (p_ro (s_pn u pane.toNatClampNeg), (p_sa (s_pn u pane.toNatClampNeg)), (p_cp (s_pn u pane.toNatClampNeg)), (p_po (s_pn u pane.toNatClampNeg)) + 1, (p_li (s_pn u pane.toNatClampNeg)), (p_mk (s_pn u pane.toNatClampNeg)), (p_rd (s_pn u pane.toNatClampNeg)))) ((s_ac u) + 1) ((s_kn u))) (by simp [s_put, s_put1, p_po', c0_0, c0_1, ((s_rdn hok hi).mp c0_1), (show ¬ p_li (s_pn u pane.toNatClampNeg) - p_po (s_pn u pane.toNatClampNeg) = 0 from fun q => ((s_left' hok hi).mp q) c0_2)] <;> rfl) (z_lt3 h_ok (by simp [t_nn, Int32.not_lt.mpr c0_0])) (CI_ak (CI_pn (CI_wr hC (s_row hok hi) _ _) hi (p_ro (s_pn u pane.toNatClampNeg), (p_sa (s_pn u pane.toNatClampNeg)), (p_cp (s_pn u pane.toNatClampNeg)), (p_po (s_pn u pane.toNatClampNeg)) + 1, (p_li (s_pn u pane.toNatClampNeg)), (p_mk (s_pn u pane.toNatClampNeg)), (p_rd (s_pn u pane.toNatClampNeg)))) _ _)
      · rw [hr9]
        exact CP_ok (v := s_tdu (u) (upd (s_td u) 1 (((s_td u) 1) + 1))) (by simp [s_put, s_put1, p_po', c1_0, c1_1, ((s_rdn hok hi).mp c1_1), ((s_left' hok hi).mpr c1_2)] <;> rfl) (z_lt3 h_ok (by simp [t_nn, Int32.not_lt.mpr c1_0])) (CI_td hC _)
      · rw [hr9]
        exact CP_ok (v := s_tdu (u) (upd (s_td u) 4 (((s_td u) 4) + 1))) (by simp [s_put, s_put1, p_po', c2_0, c2_1, ((s_rdn' hok hi).mpr c2_1)] <;> rfl) (z_lt3 h_ok (by simp [t_nn, Int32.not_lt.mpr c2_0])) (CI_td hC _)
    · rintro E M' ⟨x0_0, rfl, rfl⟩
      · exact CX_2 (k_2 h_ok (by simp [t_nn, Int32.not_le.mp x0_0])) hC
  · refine z_Xi_mono (c_X3_put_bad l G h_st hx hpa h_nip) (fun r M' h => h.elim) ?_
    rintro E M' (⟨x0_0, rfl, rfl⟩ | ⟨x1_0, rfl, rfl⟩)
    · exact CX_1 (k_1 h_bad) hC
    · exact CX_1 (k_1 h_bad) hC
theorem a_X3_putAt (l : Launch) (h_st : l.stackTraces = false) {G : zG} {u : sS} {x : Nat} {P RA VA : Nat → Nat} {pa sp ln rf sb : Nat} {C : zM} (hC : CI G u x P RA VA pa sp ln rf sb C) {t : Nat} (hok : s_ok t u) (pane ix v : Int32) : z_Xi l G qX3_putAt (z_rm 12 8 48) [.ref x, .int pane, .int ix, .int v] C (CP G x pa sp ln rf sb (z_lt (z_is pane 0 5) (t_nn v)) (s_putAt u pane.toNatClampNeg ix v)) (CX G x pa sp ln rf sb (z_lt (z_is pane 0 5) (t_nn v)) u) := by
  obtain ⟨hx, ⟨fp, hpa, hfp⟩, hP, ⟨o9, p9, hsp⟩, hRA, hVA, hrf, hln, ⟨vb, ml, ct, n, f, hsb, hvb, hc⟩, iP, iS, iR, iV, iF⟩ := id hC
  rcases z_pc pane with ⟨h_ok, h_ip, hi⟩ | ⟨h_bad, h_nip⟩
  · refine z_Xi_mono (c_X3_putAt l G h_st hx hrf hpa (hP _ hi) (hRA _ (s_row hok hi)) (hVA _ (s_row hok hi)) h_ip rfl (hfp _ hi) (iF _ (s_row hok hi)) (s_ow hok hi)) ?_ ?_
    · rintro r M' (⟨c0_0, c0_1, c0_2, hr9, rfl⟩ | ⟨c1_0, c1_1, c1_2, hr9, rfl⟩ | ⟨c2_0, c2_1, hr9, rfl⟩)
      · rw [hr9]
        exact CP_ok (v := s_ak (s_wr (u) (p_ro (s_pn u pane.toNatClampNeg)) (p_at (s_pn u pane.toNatClampNeg) (ix)) (v)) ((s_ac u) + 1) ((s_kn u))) (by simp [s_putAt, c0_0, c0_1, c0_2, ((s_rdn hok hi).mp c0_2)] <;> rfl) (z_lt3 h_ok (by simp [t_nn, Int32.not_lt.mpr c0_0])) (CI_ak (CI_wr hC (s_row hok hi) _ _) _ _)
      · rw [hr9]
        exact CP_ok (v := s_tdu (u) (upd (s_td u) 4 (((s_td u) 4) + 1))) (by simp [s_putAt, c1_0, c1_1, c1_2, ((s_rdn' hok hi).mpr c1_2)] <;> rfl) (z_lt3 h_ok (by simp [t_nn, Int32.not_lt.mpr c1_0])) (CI_td hC _)
      · rw [hr9]
        exact CP_ok (v := s_tdu (u) (upd (s_td u) 5 (((s_td u) 5) + 1))) (by simp [s_putAt, c2_0, c2_1] <;> rfl) (z_lt3 h_ok (by simp [t_nn, Int32.not_lt.mpr c2_0])) (CI_td hC _)
    · rintro E M' ⟨x0_0, rfl, rfl⟩
      · exact CX_2 (k_2 h_ok (by simp [t_nn, Int32.not_le.mp x0_0])) hC
  · refine z_Xi_mono (c_X3_putAt_bad l G h_st hx hpa h_nip) (fun r M' h => h.elim) ?_
    rintro E M' (⟨x0_0, rfl, rfl⟩ | ⟨x1_0, rfl, rfl⟩)
    · exact CX_1 (k_1 h_bad) hC
    · exact CX_1 (k_1 h_bad) hC
theorem a_X3_reach (l : Launch) (h_st : l.stackTraces = false) {G : zG} {u : sS} {x : Nat} {P RA VA : Nat → Nat} {pa sp ln rf sb : Nat} {C : zM} (hC : CI G u x P RA VA pa sp ln rf sb C) {t : Nat} (hok : s_ok t u) (pane ix v : Int32) : z_Xi l G qX3_reach (z_rm 12 8 48) [.ref x, .int pane, .int ix, .int v] C (CP G x pa sp ln rf sb (z_lt (z_is pane 0 5) (t_nn v)) (s_reach u pane.toNatClampNeg ix v)) (CX G x pa sp ln rf sb (z_lt (z_is pane 0 5) (t_nn v)) u) := by
  obtain ⟨hx, ⟨fp, hpa, hfp⟩, hP, ⟨o9, p9, hsp⟩, hRA, hVA, hrf, hln, ⟨vb, ml, ct, n, f, hsb, hvb, hc⟩, iP, iS, iR, iV, iF⟩ := id hC
  rcases z_pc pane with ⟨h_ok, h_ip, hi⟩ | ⟨h_bad, h_nip⟩
  · refine z_Xi_mono (c_X3_reach l G h_st hx hrf hpa (hP _ hi) (hRA _ (s_row hok hi)) (hVA _ (s_row hok hi)) h_ip rfl (hfp _ hi) (iF _ (s_row hok hi)) (s_ow hok hi)) ?_ ?_
    · rintro r M' (⟨c0_0, c0_1, c0_2, hr9, rfl⟩ | ⟨c1_0, c1_1, c1_2, hr9, rfl⟩ | ⟨c2_0, c2_1, hr9, rfl⟩)
      · rw [hr9]
        exact CP_ok (v := s_ak (s_wr (u) (p_ro (s_pn u pane.toNatClampNeg)) (p_at (s_pn u pane.toNatClampNeg) (ix)) (v)) ((s_ac u) + 1) ((s_kn u))) (by simp [s_reach, c0_0, c0_1, ((s_rdn hok hi).mp c0_1), c0_2] <;> rfl) (z_lt3 h_ok (by simp [t_nn, Int32.not_lt.mpr c0_0])) (CI_ak (CI_wr hC (s_row hok hi) _ _) _ _)
      · rw [hr9]
        exact CP_ok (v := s_tdu (u) (upd (s_td u) 5 (((s_td u) 5) + 1))) (by simp [s_reach, c1_0, c1_1, ((s_rdn hok hi).mp c1_1), c1_2] <;> rfl) (z_lt3 h_ok (by simp [t_nn, Int32.not_lt.mpr c1_0])) (CI_td hC _)
      · rw [hr9]
        exact CP_ok (v := s_tdu (u) (upd (s_td u) 4 (((s_td u) 4) + 1))) (by simp [s_reach, c2_0, c2_1, ((s_rdn' hok hi).mpr c2_1)] <;> rfl) (z_lt3 h_ok (by simp [t_nn, Int32.not_lt.mpr c2_0])) (CI_td hC _)
    · rintro E M' ⟨x0_0, rfl, rfl⟩
      · exact CX_2 (k_2 h_ok (by simp [t_nn, Int32.not_le.mp x0_0])) hC
  · refine z_Xi_mono (c_X3_reach_bad l G h_st hx hpa h_nip) (fun r M' h => h.elim) ?_
    rintro E M' (⟨x0_0, rfl, rfl⟩ | ⟨x1_0, rfl, rfl⟩)
    · exact CX_1 (k_1 h_bad) hC
    · exact CX_1 (k_1 h_bad) hC
theorem a_X3_get (l : Launch) (h_st : l.stackTraces = false) {G : zG} {u : sS} {x : Nat} {P RA VA : Nat → Nat} {pa sp ln rf sb : Nat} {C : zM} (hC : CI G u x P RA VA pa sp ln rf sb C) {t : Nat} (hok : s_ok t u) (pane : Int32) : z_Xi l G qX3_get (z_rm 12 8 48) [.ref x, .int pane] C (CP G x pa sp ln rf sb (z_lt (z_is pane 0 5) 1) (s_get u pane.toNatClampNeg)) (CX G x pa sp ln rf sb (z_lt (z_is pane 0 5) 1) u) := by
  obtain ⟨hx, ⟨fp, hpa, hfp⟩, hP, ⟨o9, p9, hsp⟩, hRA, hVA, hrf, hln, ⟨vb, ml, ct, n, f, hsb, hvb, hc⟩, iP, iS, iR, iV, iF⟩ := id hC
  rcases z_pc pane with ⟨h_ok, h_ip, hi⟩ | ⟨h_bad, h_nip⟩
  · refine z_Xi_mono (c_X3_get l G h_st hx hrf hpa (hP _ hi) (hRA _ (s_row hok hi)) (hVA _ (s_row hok hi)) h_ip rfl (hfp _ hi) (iF _ (s_row hok hi)) (s_ow hok hi)) ?_ ?_
    · rintro r M' (⟨c0_0, hr9, rfl⟩ | ⟨c1_0, hr9, rfl⟩)
      · rw [hr9]
        exact CP_ok (v := s_ak (s_up (u) pane.toNatClampNeg (p_ro (s_pn u pane.toNatClampNeg), (p_sa (s_pn u pane.toNatClampNeg)), (p_cp (s_pn u pane.toNatClampNeg)), (p_po (s_pn u pane.toNatClampNeg)) + 1, (p_li (s_pn u pane.toNatClampNeg)), (p_mk (s_pn u pane.toNatClampNeg)), (p_rd (s_pn u pane.toNatClampNeg)))) ((s_ac u) + 1) ((s_kn u))) (by simp [s_get, p_po', (show ¬ p_li (s_pn u pane.toNatClampNeg) - p_po (s_pn u pane.toNatClampNeg) = 0 from fun q => ((s_left' hok hi).mp q) c0_0)] <;> rfl) (z_lt3 h_ok rfl) (CI_ak (CI_pn hC hi (p_ro (s_pn u pane.toNatClampNeg), (p_sa (s_pn u pane.toNatClampNeg)), (p_cp (s_pn u pane.toNatClampNeg)), (p_po (s_pn u pane.toNatClampNeg)) + 1, (p_li (s_pn u pane.toNatClampNeg)), (p_mk (s_pn u pane.toNatClampNeg)), (p_rd (s_pn u pane.toNatClampNeg)))) _ _)
      · rw [hr9]
        exact CP_ok (v := s_tdu (u) (upd (s_td u) 2 (((s_td u) 2) + 1))) (by simp [s_get, p_po', ((s_left' hok hi).mpr c1_0)] <;> rfl) (z_lt3 h_ok rfl) (CI_td hC _)
    · exact fun E M' h => h.elim
  · refine z_Xi_mono (c_X3_get_bad l G h_st hx hpa h_nip) (fun r M' h => h.elim) ?_
    rintro E M' (⟨x0_0, rfl, rfl⟩ | ⟨x1_0, rfl, rfl⟩)
    · exact CX_1 (k_1 h_bad) hC
    · exact CX_1 (k_1 h_bad) hC
theorem a_X3_pop (l : Launch) (h_st : l.stackTraces = false) {G : zG} {u : sS} {x : Nat} {P RA VA : Nat → Nat} {pa sp ln rf sb : Nat} {C : zM} (hC : CI G u x P RA VA pa sp ln rf sb C) {t : Nat} (hok : s_ok t u) (pane : Int32) : z_Xi l G qX3_pop (z_rm 12 8 48) [.ref x, .int pane] C (CP G x pa sp ln rf sb (z_lt (z_is pane 0 5) 1) (s_pop u pane.toNatClampNeg)) (CX G x pa sp ln rf sb (z_lt (z_is pane 0 5) 1) u) := by
  obtain ⟨hx, ⟨fp, hpa, hfp⟩, hP, ⟨o9, p9, hsp⟩, hRA, hVA, hrf, hln, ⟨vb, ml, ct, n, f, hsb, hvb, hc⟩, iP, iS, iR, iV, iF⟩ := id hC
  rcases z_pc pane with ⟨h_ok, h_ip, hi⟩ | ⟨h_bad, h_nip⟩
  · refine z_Xi_mono (c_X3_pop l G h_st hx hrf hpa (hP _ hi) (hRA _ (s_row hok hi)) (hVA _ (s_row hok hi)) h_ip rfl (hfp _ hi) (iF _ (s_row hok hi)) (s_ow hok hi)) ?_ ?_
    · rintro r M' (⟨c0_0, c0_1, hr9, rfl⟩ | ⟨c1_0, c1_1, hr9, rfl⟩ | ⟨c2_0, hr9, rfl⟩)
      · rw [hr9]
        exact CP_ok (v := s_ak (s_up (u) pane.toNatClampNeg (p_ro (s_pn u pane.toNatClampNeg), (p_sa (s_pn u pane.toNatClampNeg)), (p_cp (s_pn u pane.toNatClampNeg)), ((p_po (s_pn u pane.toNatClampNeg)) - 1), (p_li (s_pn u pane.toNatClampNeg)), (p_mk (s_pn u pane.toNatClampNeg)), (p_rd (s_pn u pane.toNatClampNeg)))) ((s_ac u) + 1) ((s_kn u))) (by simp [s_pop, p_mv, (show ¬ p_po (s_pn u pane.toNatClampNeg) = 0 from fun q => ((s_po0' hok hi).mp q) c0_0), c0_1] <;> rfl) (z_lt3 h_ok rfl) (CI_ak (CI_pn hC hi (p_ro (s_pn u pane.toNatClampNeg), (p_sa (s_pn u pane.toNatClampNeg)), (p_cp (s_pn u pane.toNatClampNeg)), ((p_po (s_pn u pane.toNatClampNeg)) - 1), (p_li (s_pn u pane.toNatClampNeg)), (p_mk (s_pn u pane.toNatClampNeg)), (p_rd (s_pn u pane.toNatClampNeg)))) _ _)
      · rw [hr9]
        exact CP_ok (v := s_ak (s_up (u) pane.toNatClampNeg (p_ro (s_pn u pane.toNatClampNeg), (p_sa (s_pn u pane.toNatClampNeg)), (p_cp (s_pn u pane.toNatClampNeg)), ((p_po (s_pn u pane.toNatClampNeg)) - 1), (p_li (s_pn u pane.toNatClampNeg)), (-1), (p_rd (s_pn u pane.toNatClampNeg)))) ((s_ac u) + 1) ((s_kn u))) (by simp [s_pop, p_mv, (show ¬ p_po (s_pn u pane.toNatClampNeg) = 0 from fun q => ((s_po0' hok hi).mp q) c1_0), c1_1] <;> rfl) (z_lt3 h_ok rfl) (CI_ak (CI_pn hC hi (p_ro (s_pn u pane.toNatClampNeg), (p_sa (s_pn u pane.toNatClampNeg)), (p_cp (s_pn u pane.toNatClampNeg)), ((p_po (s_pn u pane.toNatClampNeg)) - 1), (p_li (s_pn u pane.toNatClampNeg)), (-1), (p_rd (s_pn u pane.toNatClampNeg)))) _ _)
      · rw [hr9]
        exact CP_ok (v := s_tdu (u) (upd (s_td u) 5 (((s_td u) 5) + 1))) (by simp [s_pop, p_mv, ((s_po0' hok hi).mpr c2_0)] <;> rfl) (z_lt3 h_ok rfl) (CI_td hC _)
    · exact fun E M' h => h.elim
  · refine z_Xi_mono (c_X3_pop_bad l G h_st hx hpa h_nip) (fun r M' h => h.elim) ?_
    rintro E M' (⟨x0_0, rfl, rfl⟩ | ⟨x1_0, rfl, rfl⟩)
    · exact CX_1 (k_1 h_bad) hC
    · exact CX_1 (k_1 h_bad) hC
theorem a_X3_at (l : Launch) (h_st : l.stackTraces = false) {G : zG} {u : sS} {x : Nat} {P RA VA : Nat → Nat} {pa sp ln rf sb : Nat} {C : zM} (hC : CI G u x P RA VA pa sp ln rf sb C) {t : Nat} (hok : s_ok t u) (pane ix : Int32) : z_Xi l G qX3_at (z_rm 12 8 48) [.ref x, .int pane, .int ix] C (CP G x pa sp ln rf sb (z_lt (z_is pane 0 5) 1) ((s_at u pane.toNatClampNeg ix, u))) (CX G x pa sp ln rf sb (z_lt (z_is pane 0 5) 1) u) := by
  obtain ⟨hx, ⟨fp, hpa, hfp⟩, hP, ⟨o9, p9, hsp⟩, hRA, hVA, hrf, hln, ⟨vb, ml, ct, n, f, hsb, hvb, hc⟩, iP, iS, iR, iV, iF⟩ := id hC
  rcases z_pc pane with ⟨h_ok, h_ip, hi⟩ | ⟨h_bad, h_nip⟩
  · refine z_Xi_mono (c_X3_at l G h_st hx hpa (hP _ hi) (hRA _ (s_row hok hi)) (hVA _ (s_row hok hi)) h_ip rfl (hfp _ hi) (s_ow hok hi)) ?_ ?_
    · rintro r M' (⟨c0_0, hr9, rfl⟩ | ⟨c1_0, hr9, rfl⟩)
      · rw [hr9]
        exact CP_ok (v := u) (by simp [s_at, c0_0] <;> rfl) (z_lt3 h_ok rfl) hC
      · rw [hr9]
        exact CP_ok (v := u) (by simp [s_at, c1_0] <;> rfl) (z_lt3 h_ok rfl) hC
    · exact fun E M' h => h.elim
  · refine z_Xi_mono (c_X3_at_bad l G h_st hx hpa h_nip) (fun r M' h => h.elim) ?_
    rintro E M' (⟨x0_0, rfl, rfl⟩ | ⟨x1_0, rfl, rfl⟩)
    · exact CX_1 (k_1 h_bad) hC
    · exact CX_1 (k_1 h_bad) hC
theorem a_X3_peek (l : Launch) (h_st : l.stackTraces = false) {G : zG} {u : sS} {x : Nat} {P RA VA : Nat → Nat} {pa sp ln rf sb : Nat} {C : zM} (hC : CI G u x P RA VA pa sp ln rf sb C) {t : Nat} (hok : s_ok t u) (pane : Int32) : z_Xi l G qX3_peek (z_rm 12 8 48) [.ref x, .int pane] C (CP G x pa sp ln rf sb (z_lt (z_is pane 0 5) 1) ((s_peek u pane.toNatClampNeg, u))) (CX G x pa sp ln rf sb (z_lt (z_is pane 0 5) 1) u) := by
  obtain ⟨hx, ⟨fp, hpa, hfp⟩, hP, ⟨o9, p9, hsp⟩, hRA, hVA, hrf, hln, ⟨vb, ml, ct, n, f, hsb, hvb, hc⟩, iP, iS, iR, iV, iF⟩ := id hC
  rcases z_pc pane with ⟨h_ok, h_ip, hi⟩ | ⟨h_bad, h_nip⟩
  · refine z_Xi_mono (c_X3_peek l G h_st hx hpa (hP _ hi) (hRA _ (s_row hok hi)) (hVA _ (s_row hok hi)) h_ip rfl (hfp _ hi) (s_ow hok hi)) ?_ ?_
    · rintro r M' (⟨c0_0, hr9, rfl⟩ | ⟨c1_0, hr9, rfl⟩)
      · rw [hr9]
        exact CP_ok (v := u) (by simp [s_peek, c0_0, ((s_left hok hi).mpr c0_0)] <;> rfl) (z_lt3 h_ok rfl) hC
      · rw [hr9]
        exact CP_ok (v := u) (by simp [s_peek, c1_0, (show ¬ p_li (s_pn u pane.toNatClampNeg) - p_po (s_pn u pane.toNatClampNeg) = 0 from fun q => c1_0 ((s_left hok hi).mp q))] <;> rfl) (z_lt3 h_ok rfl) hC
    · exact fun E M' h => h.elim
  · refine z_Xi_mono (c_X3_peek_bad l G h_st hx hpa h_nip) (fun r M' h => h.elim) ?_
    rintro E M' (⟨x0_0, rfl, rfl⟩ | ⟨x1_0, rfl, rfl⟩)
    · exact CX_1 (k_1 h_bad) hC
    · exact CX_1 (k_1 h_bad) hC
theorem a_X3_would (l : Launch) (h_st : l.stackTraces = false) {G : zG} {u : sS} {x : Nat} {P RA VA : Nat → Nat} {pa sp ln rf sb : Nat} {C : zM} (hC : CI G u x P RA VA pa sp ln rf sb C) {t : Nat} (hok : s_ok t u) (pane wh : Int32) : z_Xi l G qX3_would (z_rm 12 8 48) [.ref x, .int pane, .int wh] C (CP G x pa sp ln rf sb (z_lt (z_is pane 0 5) (z_is wh 0 3)) ((s_would u pane.toNatClampNeg wh, u))) (CX G x pa sp ln rf sb (z_lt (z_is pane 0 5) (z_is wh 0 3)) u) := by
  obtain ⟨hx, ⟨fp, hpa, hfp⟩, hP, ⟨o9, p9, hsp⟩, hRA, hVA, hrf, hln, ⟨vb, ml, ct, n, f, hsb, hvb, hc⟩, iP, iS, iR, iV, iF⟩ := id hC
  rcases z_pc pane with ⟨h_ok, h_ip, hi⟩ | ⟨h_bad, h_nip⟩
  · refine z_Xi_mono (c_X3_would l G h_st hx hpa (hP _ hi) h_ip rfl (hfp _ hi)) ?_ ?_
    · rintro r M' (⟨c0_0, c0_1, hr9, rfl⟩ | ⟨c1_0, c1_1, hr9, rfl⟩ | ⟨c2_0, c2_1, hr9, rfl⟩ | ⟨c3_0, c3_1, c3_2, hr9, rfl⟩ | ⟨c4_0, c4_1, c4_2, hr9, rfl⟩)
      · rw [hr9]
        subst c0_1
        exact CP_ok (v := u) (by simp [s_would] <;> rfl) (z_lt3 h_ok (z_is11 c0_0)) hC
      · rw [hr9]
        subst c1_1
        exact CP_ok (v := u) (by simp [s_would] <;> rfl) (z_lt3 h_ok (z_is11 c1_0)) hC
      · rw [hr9]
        subst c2_1
        exact CP_ok (v := u) (by simp [s_would] <;> rfl) (z_lt3 h_ok (z_is11 c2_0)) hC
      · rw [hr9]
        exact CP_ok (v := u) (by simp [s_would, c3_1.1, c3_1.2.1, c3_1.2.2, (z_hm0.mp c3_2)] <;> rfl) (z_lt3 h_ok (z_is11 c3_0)) hC
      · rw [hr9]
        exact CP_ok (v := u) (by simp [s_would, c4_1.1, c4_1.2.1, c4_1.2.2, (show ¬ p_mk (s_pn u pane.toNatClampNeg) = -1 from fun q => c4_2 (z_hm0.mpr q))] <;> rfl) (z_lt3 h_ok (z_is11 c4_0)) hC
    · rintro E M' ⟨x0_0, rfl, rfl⟩
      · exact CX_2 (k_2 h_ok x0_0) hC
  · refine z_Xi_mono (c_X3_would_bad l G h_st hx hpa h_nip) (fun r M' h => h.elim) ?_
    rintro E M' (⟨x0_0, rfl, rfl⟩ | ⟨x1_0, rfl, rfl⟩)
    · exact CX_1 (k_1 h_bad) hC
    · exact CX_1 (k_1 h_bad) hC
theorem a_X3_ofPane (l : Launch) (h_st : l.stackTraces = false) {G : zG} {u : sS} {x : Nat} {P RA VA : Nat → Nat} {pa sp ln rf sb : Nat} {C : zM} (hC : CI G u x P RA VA pa sp ln rf sb C) {t : Nat} (hok : s_ok t u) (pane wh : Int32) : z_Xi l G qX3_ofPane (z_rm 12 8 48) [.ref x, .int pane, .int wh] C (CP G x pa sp ln rf sb (z_lt (z_is pane 0 5) (z_is wh 0 9)) ((s_of u pane.toNatClampNeg wh, u))) (CX G x pa sp ln rf sb (z_lt (z_is pane 0 5) (z_is wh 0 9)) u) := by
  obtain ⟨hx, ⟨fp, hpa, hfp⟩, hP, ⟨o9, p9, hsp⟩, hRA, hVA, hrf, hln, ⟨vb, ml, ct, n, f, hsb, hvb, hc⟩, iP, iS, iR, iV, iF⟩ := id hC
  rcases z_pc pane with ⟨h_ok, h_ip, hi⟩ | ⟨h_bad, h_nip⟩
  · refine z_Xi_mono (c_X3_ofPane l G h_st hx hpa (hP _ hi) h_ip rfl (hfp _ hi)) ?_ ?_
    · rintro r M' (⟨c0_0, c0_1, hr9, rfl⟩ | ⟨c1_0, c1_1, hr9, rfl⟩ | ⟨c2_0, c2_1, hr9, rfl⟩ | ⟨c3_0, c3_1, hr9, rfl⟩ | ⟨c4_0, c4_1, hr9, rfl⟩ | ⟨c5_0, c5_1, c5_2, hr9, rfl⟩ | ⟨c6_0, c6_1, c6_2, hr9, rfl⟩ | ⟨c7_0, c7_1, c7_2, hr9, rfl⟩ | ⟨c8_0, c8_1, c8_2, hr9, rfl⟩ | ⟨c9_0, c9_1, c9_2, hr9, rfl⟩ | ⟨c10_0, c10_1, c10_2, hr9, rfl⟩ | ⟨c11_0, c11_1, c11_2, hr9, rfl⟩ | ⟨c12_0, c12_1, c12_2, hr9, rfl⟩ | ⟨c13_0, c13_1, hr9, rfl⟩)
      · rw [hr9]
        subst c0_1
        exact CP_ok (v := u) (by simp [s_of] <;> rfl) (z_lt3 h_ok (z_is11 c0_0)) hC
      · rw [hr9]
        subst c1_1
        exact CP_ok (v := u) (by simp [s_of] <;> rfl) (z_lt3 h_ok (z_is11 c1_0)) hC
      · rw [hr9]
        subst c2_1
        exact CP_ok (v := u) (by simp [s_of] <;> rfl) (z_lt3 h_ok (z_is11 c2_0)) hC
      · rw [hr9]
        subst c3_1
        exact CP_ok (v := u) (by simp [s_of] <;> rfl) (z_lt3 h_ok (z_is11 c3_0)) hC
      · rw [hr9]
        subst c4_1
        exact CP_ok (v := u) (by simp [s_of] <;> rfl) (z_lt3 h_ok (z_is11 c4_0)) hC
      · rw [hr9]
        subst c5_1
        exact CP_ok (v := u) (by simp [s_of, c5_2, ((s_rdn hok hi).mp c5_2)] <;> rfl) (z_lt3 h_ok (z_is11 c5_0)) hC
      · rw [hr9]
        subst c6_1
        exact CP_ok (v := u) (by simp [s_of, c6_2, ((s_rdn' hok hi).mpr c6_2)] <;> rfl) (z_lt3 h_ok (z_is11 c6_0)) hC
      · rw [hr9]
        subst c7_1
        exact CP_ok (v := u) (by simp [s_of, c7_2, ((s_left hok hi).mpr c7_2), c7_2] <;> rfl) (z_lt3 h_ok (z_is11 c7_0)) hC
      · rw [hr9]
        subst c8_1
        exact CP_ok (v := u) (by simp [s_of, c8_2, (show ¬ p_li (s_pn u pane.toNatClampNeg) - p_po (s_pn u pane.toNatClampNeg) = 0 from fun q => c8_2 ((s_left hok hi).mp q)), c8_2] <;> rfl) (z_lt3 h_ok (z_is11 c8_0)) hC
      · rw [hr9]
        subst c9_1
        exact CP_ok (v := u) (by simp [s_of, c9_2, ((s_rdn hok hi).mp c9_2)] <;> rfl) (z_lt3 h_ok (z_is11 c9_0)) hC
      · rw [hr9]
        subst c10_1
        exact CP_ok (v := u) (by simp [s_of, c10_2, ((s_rdn' hok hi).mpr c10_2)] <;> rfl) (z_lt3 h_ok (z_is11 c10_0)) hC
      · rw [hr9]
        subst c11_1
        exact CP_ok (v := u) (by simp [s_of, c11_2, ((s_rdn hok hi).mp c11_2)] <;> rfl) (z_lt3 h_ok (z_is11 c11_0)) hC
      · rw [hr9]
        subst c12_1
        exact CP_ok (v := u) (by simp [s_of, c12_2, ((s_rdn' hok hi).mpr c12_2)] <;> rfl) (z_lt3 h_ok (z_is11 c12_0)) hC
      · rw [hr9]
        exact CP_ok (v := u) (by simp [s_of, c13_1.1, c13_1.2.1, c13_1.2.2.1, c13_1.2.2.2.1, c13_1.2.2.2.2.1, c13_1.2.2.2.2.2.1, c13_1.2.2.2.2.2.2.1, c13_1.2.2.2.2.2.2.2.1, c13_1.2.2.2.2.2.2.2.2] <;> rfl) (z_lt3 h_ok (z_is11 c13_0)) hC
    · rintro E M' ⟨x0_0, rfl, rfl⟩
      · exact CX_2 (k_2 h_ok x0_0) hC
  · refine z_Xi_mono (c_X3_ofPane_bad l G h_st hx hpa h_nip) (fun r M' h => h.elim) ?_
    rintro E M' (⟨x0_0, rfl, rfl⟩ | ⟨x1_0, rfl, rfl⟩)
    · exact CX_1 (k_1 h_bad) hC
    · exact CX_1 (k_1 h_bad) hC
theorem a_X3_twin (l : Launch) (h_st : l.stackTraces = false) {G : zG} {u : sS} {x : Nat} {P RA VA : Nat → Nat} {pa sp ln rf sb : Nat} {C : zM} (hC : CI G u x P RA VA pa sp ln rf sb C) {t : Nat} (hok : s_ok t u) (pane other : Int32) : z_Xi l G qX3_twin (z_rm 12 8 48) [.ref x, .int pane, .int other] C (CP G x pa sp ln rf sb (z_lt (t_2 pane other) 1) (s_twin u pane.toNatClampNeg other.toNatClampNeg)) (CX G x pa sp ln rf sb (z_lt (t_2 pane other) 1) u) := by
  obtain ⟨hx, ⟨fp, hpa, hfp⟩, hP, ⟨o9, p9, hsp⟩, hRA, hVA, hrf, hln, ⟨vb, ml, ct, n, f, hsb, hvb, hc⟩, iP, iS, iR, iV, iF⟩ := id hC
  rcases z_pc pane with ⟨h_ok, h_ip, hi⟩ | ⟨h_bad, h_nip⟩
  · rcases z_pc other with ⟨h_ok2, h_ip2, hi2⟩ | ⟨h_bad2, h_nip2⟩
    · rw [show t_2 pane other = 1 from by unfold t_2; rw [h_ok, h_ok2]; decide]
      by_cases hij : pane.toNatClampNeg = other.toNatClampNeg
      · refine z_Xi_mono (c_X3_twin_s l G h_st hx hrf hpa (hP _ hi) h_ip rfl (hfp _ hi) h_ip2 rfl (by rw [← hij]; exact hfp _ hi) (s_rdb hok hi).1 (s_rdb hok hi).2) ?_ ?_
        · rintro r M' ⟨hr9, rfl⟩
          · rw [hr9]
            exact CP_ok (v := s_ak (s_up (u) pane.toNatClampNeg (p_ro (s_pn u pane.toNatClampNeg), (p_sa (s_pn u pane.toNatClampNeg)), (p_cp (s_pn u pane.toNatClampNeg)), (p_po (s_pn u pane.toNatClampNeg)), (p_li (s_pn u pane.toNatClampNeg)), (p_mk (s_pn u pane.toNatClampNeg)), (p_rd (s_pn u pane.toNatClampNeg)))) ((s_ac u) + 1) ((s_kn u))) (by simp [s_twin, ← hij] <;> rfl) (z_lt3 rfl rfl) (CI_ak (CI_pn hC hi (p_ro (s_pn u pane.toNatClampNeg), (p_sa (s_pn u pane.toNatClampNeg)), (p_cp (s_pn u pane.toNatClampNeg)), (p_po (s_pn u pane.toNatClampNeg)), (p_li (s_pn u pane.toNatClampNeg)), (p_mk (s_pn u pane.toNatClampNeg)), (p_rd (s_pn u pane.toNatClampNeg)))) _ _)
        · exact fun E M' h => h.elim
      · refine z_Xi_mono (c_X3_twin l G h_st hx hrf hpa (hP _ hi) (hP _ hi2) h_ip rfl (hfp _ hi) h_ip2 rfl (hfp _ hi2) (fun q => hij (iP _ _ hi hi2 q)) (s_rdb hok hi2).1 (s_rdb hok hi2).2) ?_ ?_
        · rintro r M' ⟨hr9, rfl⟩
          · rw [hr9]
            exact CP_ok (v := s_ak (s_up (u) pane.toNatClampNeg (p_ro (s_pn u other.toNatClampNeg), (p_sa (s_pn u other.toNatClampNeg)), (p_cp (s_pn u other.toNatClampNeg)), (p_po (s_pn u other.toNatClampNeg)), (p_li (s_pn u other.toNatClampNeg)), (p_mk (s_pn u other.toNatClampNeg)), (p_rd (s_pn u other.toNatClampNeg)))) ((s_ac u) + 1) ((s_kn u))) (by simp [s_twin] <;> rfl) (z_lt3 rfl rfl) (CI_ak (CI_pn hC hi (p_ro (s_pn u other.toNatClampNeg), (p_sa (s_pn u other.toNatClampNeg)), (p_cp (s_pn u other.toNatClampNeg)), (p_po (s_pn u other.toNatClampNeg)), (p_li (s_pn u other.toNatClampNeg)), (p_mk (s_pn u other.toNatClampNeg)), (p_rd (s_pn u other.toNatClampNeg)))) _ _)
        · exact fun E M' h => h.elim
    · rw [show t_2 pane other = 0 from by unfold t_2; rw [h_ok, h_bad2]; decide]
      refine z_Xi_mono (c_X3_twin_bad2 l G h_st hx hpa (hP _ hi) h_ip rfl (hfp _ hi) h_nip2) (fun r M' h => h.elim) ?_
      rintro E M' (⟨x0_0, rfl, rfl⟩ | ⟨x1_0, rfl, rfl⟩)
      · exact CX_1 (k_1 rfl) hC
      · exact CX_1 (k_1 rfl) hC
  · rw [show t_2 pane other = 0 from by unfold t_2; rw [h_bad]; exact if_pos rfl]
    refine z_Xi_mono (c_X3_twin_bad l G h_st hx hpa h_nip) (fun r M' h => h.elim) ?_
    rintro E M' (⟨x0_0, rfl, rfl⟩ | ⟨x1_0, rfl, rfl⟩)
    · exact CX_1 (k_1 rfl) hC
    · exact CX_1 (k_1 rfl) hC
theorem a_X3_reader (l : Launch) (h_st : l.stackTraces = false) {G : zG} {u : sS} {x : Nat} {P RA VA : Nat → Nat} {pa sp ln rf sb : Nat} {C : zM} (hC : CI G u x P RA VA pa sp ln rf sb C) {t : Nat} (hok : s_ok t u) (pane other : Int32) : z_Xi l G qX3_reader (z_rm 12 8 48) [.ref x, .int pane, .int other] C (CP G x pa sp ln rf sb (z_lt (t_2 pane other) 1) (s_reader u pane.toNatClampNeg other.toNatClampNeg)) (CX G x pa sp ln rf sb (z_lt (t_2 pane other) 1) u) := by
  obtain ⟨hx, ⟨fp, hpa, hfp⟩, hP, ⟨o9, p9, hsp⟩, hRA, hVA, hrf, hln, ⟨vb, ml, ct, n, f, hsb, hvb, hc⟩, iP, iS, iR, iV, iF⟩ := id hC
  rcases z_pc pane with ⟨h_ok, h_ip, hi⟩ | ⟨h_bad, h_nip⟩
  · rcases z_pc other with ⟨h_ok2, h_ip2, hi2⟩ | ⟨h_bad2, h_nip2⟩
    · rw [show t_2 pane other = 1 from by unfold t_2; rw [h_ok, h_ok2]; decide]
      by_cases hij : pane.toNatClampNeg = other.toNatClampNeg
      · refine z_Xi_mono (c_X3_reader_s l G h_st hx hrf hpa (hP _ hi) h_ip rfl (hfp _ hi) h_ip2 rfl (by rw [← hij]; exact hfp _ hi) (s_rdb hok hi).1 (s_rdb hok hi).2) ?_ ?_
        · rintro r M' ⟨hr9, rfl⟩
          · rw [hr9]
            exact CP_ok (v := s_ak (s_up (u) pane.toNatClampNeg (p_ro (s_pn u pane.toNatClampNeg), (p_sa (s_pn u pane.toNatClampNeg)), (p_cp (s_pn u pane.toNatClampNeg)), (p_po (s_pn u pane.toNatClampNeg)), (p_li (s_pn u pane.toNatClampNeg)), (p_mk (s_pn u pane.toNatClampNeg)), 1)) ((s_ac u) + 1) ((s_kn u))) (by simp [s_reader, p_rdr, ← hij] <;> rfl) (z_lt3 rfl rfl) (CI_ak (CI_pn hC hi (p_ro (s_pn u pane.toNatClampNeg), (p_sa (s_pn u pane.toNatClampNeg)), (p_cp (s_pn u pane.toNatClampNeg)), (p_po (s_pn u pane.toNatClampNeg)), (p_li (s_pn u pane.toNatClampNeg)), (p_mk (s_pn u pane.toNatClampNeg)), 1)) _ _)
        · exact fun E M' h => h.elim
      · refine z_Xi_mono (c_X3_reader l G h_st hx hrf hpa (hP _ hi) (hP _ hi2) h_ip rfl (hfp _ hi) h_ip2 rfl (hfp _ hi2) (fun q => hij (iP _ _ hi hi2 q)) (s_rdb hok hi2).1 (s_rdb hok hi2).2) ?_ ?_
        · rintro r M' ⟨hr9, rfl⟩
          · rw [hr9]
            exact CP_ok (v := s_ak (s_up (u) pane.toNatClampNeg (p_ro (s_pn u other.toNatClampNeg), (p_sa (s_pn u other.toNatClampNeg)), (p_cp (s_pn u other.toNatClampNeg)), (p_po (s_pn u other.toNatClampNeg)), (p_li (s_pn u other.toNatClampNeg)), (p_mk (s_pn u other.toNatClampNeg)), 1)) ((s_ac u) + 1) ((s_kn u))) (by simp [s_reader, p_rdr] <;> rfl) (z_lt3 rfl rfl) (CI_ak (CI_pn hC hi (p_ro (s_pn u other.toNatClampNeg), (p_sa (s_pn u other.toNatClampNeg)), (p_cp (s_pn u other.toNatClampNeg)), (p_po (s_pn u other.toNatClampNeg)), (p_li (s_pn u other.toNatClampNeg)), (p_mk (s_pn u other.toNatClampNeg)), 1)) _ _)
        · exact fun E M' h => h.elim
    · rw [show t_2 pane other = 0 from by unfold t_2; rw [h_ok, h_bad2]; decide]
      refine z_Xi_mono (c_X3_reader_bad2 l G h_st hx hpa (hP _ hi) h_ip rfl (hfp _ hi) h_nip2) (fun r M' h => h.elim) ?_
      rintro E M' (⟨x0_0, rfl, rfl⟩ | ⟨x1_0, rfl, rfl⟩)
      · exact CX_1 (k_1 rfl) hC
      · exact CX_1 (k_1 rfl) hC
  · rw [show t_2 pane other = 0 from by unfold t_2; rw [h_bad]; exact if_pos rfl]
    refine z_Xi_mono (c_X3_reader_bad l G h_st hx hpa h_nip) (fun r M' h => h.elim) ?_
    rintro E M' (⟨x0_0, rfl, rfl⟩ | ⟨x1_0, rfl, rfl⟩)
    · exact CX_1 (k_1 rfl) hC
    · exact CX_1 (k_1 rfl) hC
theorem a_X3_rest (l : Launch) (h_st : l.stackTraces = false) {G : zG} {u : sS} {x : Nat} {P RA VA : Nat → Nat} {pa sp ln rf sb : Nat} {C : zM} (hC : CI G u x P RA VA pa sp ln rf sb C) {t : Nat} (hok : s_ok t u) (pane other : Int32) : z_Xi l G qX3_rest (z_rm 12 8 48) [.ref x, .int pane, .int other] C (CP G x pa sp ln rf sb (z_lt (t_2 pane other) 1) (s_rest u pane.toNatClampNeg other.toNatClampNeg)) (CX G x pa sp ln rf sb (z_lt (t_2 pane other) 1) u) := by
  obtain ⟨hx, ⟨fp, hpa, hfp⟩, hP, ⟨o9, p9, hsp⟩, hRA, hVA, hrf, hln, ⟨vb, ml, ct, n, f, hsb, hvb, hc⟩, iP, iS, iR, iV, iF⟩ := id hC
  rcases z_pc pane with ⟨h_ok, h_ip, hi⟩ | ⟨h_bad, h_nip⟩
  · rcases z_pc other with ⟨h_ok2, h_ip2, hi2⟩ | ⟨h_bad2, h_nip2⟩
    · rw [show t_2 pane other = 1 from by unfold t_2; rw [h_ok, h_ok2]; decide]
      by_cases hij : pane.toNatClampNeg = other.toNatClampNeg
      · refine z_Xi_mono (c_X3_rest_s l G h_st hx hrf hpa (hP _ hi) h_ip rfl (hfp _ hi) h_ip2 rfl (by rw [← hij]; exact hfp _ hi) (s_rdb hok hi).1 (s_rdb hok hi).2) ?_ ?_
        · rintro r M' ⟨hr9, rfl⟩
          · rw [hr9]
            exact CP_ok (v := s_ak (s_up (u) pane.toNatClampNeg (p_ro (s_pn u pane.toNatClampNeg), ((p_sa (s_pn u pane.toNatClampNeg)) + (p_po (s_pn u pane.toNatClampNeg))), ((p_li (s_pn u pane.toNatClampNeg)) - (p_po (s_pn u pane.toNatClampNeg))), 0, ((p_li (s_pn u pane.toNatClampNeg)) - (p_po (s_pn u pane.toNatClampNeg))), (-1), (p_rd (s_pn u pane.toNatClampNeg)))) ((s_ac u) + 1) ((s_kn u))) (by simp [s_rest, p_pt, ← hij] <;> rfl) (z_lt3 rfl rfl) (CI_ak (CI_pn hC hi (p_ro (s_pn u pane.toNatClampNeg), ((p_sa (s_pn u pane.toNatClampNeg)) + (p_po (s_pn u pane.toNatClampNeg))), ((p_li (s_pn u pane.toNatClampNeg)) - (p_po (s_pn u pane.toNatClampNeg))), 0, ((p_li (s_pn u pane.toNatClampNeg)) - (p_po (s_pn u pane.toNatClampNeg))), (-1), (p_rd (s_pn u pane.toNatClampNeg)))) _ _)
        · exact fun E M' h => h.elim
      · refine z_Xi_mono (c_X3_rest l G h_st hx hrf hpa (hP _ hi) (hP _ hi2) h_ip rfl (hfp _ hi) h_ip2 rfl (hfp _ hi2) (fun q => hij (iP _ _ hi hi2 q)) (s_rdb hok hi2).1 (s_rdb hok hi2).2) ?_ ?_
        · rintro r M' ⟨hr9, rfl⟩
          · rw [hr9]
            exact CP_ok (v := s_ak (s_up (u) pane.toNatClampNeg (p_ro (s_pn u other.toNatClampNeg), ((p_sa (s_pn u other.toNatClampNeg)) + (p_po (s_pn u other.toNatClampNeg))), ((p_li (s_pn u other.toNatClampNeg)) - (p_po (s_pn u other.toNatClampNeg))), 0, ((p_li (s_pn u other.toNatClampNeg)) - (p_po (s_pn u other.toNatClampNeg))), (-1), (p_rd (s_pn u other.toNatClampNeg)))) ((s_ac u) + 1) ((s_kn u))) (by simp [s_rest, p_pt] <;> rfl) (z_lt3 rfl rfl) (CI_ak (CI_pn hC hi (p_ro (s_pn u other.toNatClampNeg), ((p_sa (s_pn u other.toNatClampNeg)) + (p_po (s_pn u other.toNatClampNeg))), ((p_li (s_pn u other.toNatClampNeg)) - (p_po (s_pn u other.toNatClampNeg))), 0, ((p_li (s_pn u other.toNatClampNeg)) - (p_po (s_pn u other.toNatClampNeg))), (-1), (p_rd (s_pn u other.toNatClampNeg)))) _ _)
        · exact fun E M' h => h.elim
    · rw [show t_2 pane other = 0 from by unfold t_2; rw [h_ok, h_bad2]; decide]
      refine z_Xi_mono (c_X3_rest_bad2 l G h_st hx hpa (hP _ hi) h_ip rfl (hfp _ hi) h_nip2) (fun r M' h => h.elim) ?_
      rintro E M' (⟨x0_0, rfl, rfl⟩ | ⟨x1_0, rfl, rfl⟩)
      · exact CX_1 (k_1 rfl) hC
      · exact CX_1 (k_1 rfl) hC
  · rw [show t_2 pane other = 0 from by unfold t_2; rw [h_bad]; exact if_pos rfl]
    refine z_Xi_mono (c_X3_rest_bad l G h_st hx hpa h_nip) (fun r M' h => h.elim) ?_
    rintro E M' (⟨x0_0, rfl, rfl⟩ | ⟨x1_0, rfl, rfl⟩)
    · exact CX_1 (k_1 rfl) hC
    · exact CX_1 (k_1 rfl) hC
theorem a_X3_part (l : Launch) (h_st : l.stackTraces = false) {G : zG} {u : sS} {x : Nat} {P RA VA : Nat → Nat} {pa sp ln rf sb : Nat} {C : zM} (hC : CI G u x P RA VA pa sp ln rf sb C) {t : Nat} (hok : s_ok t u) (pane other ix0 mn : Int32) : z_Xi l G qX3_part (z_rm 12 8 48) [.ref x, .int pane, .int other, .int ix0, .int mn] C (CP G x pa sp ln rf sb (z_lt (t_2 pane other) 1) (s_part u pane.toNatClampNeg other.toNatClampNeg ix0 mn)) (CX G x pa sp ln rf sb (z_lt (t_2 pane other) 1) u) := by
  obtain ⟨hx, ⟨fp, hpa, hfp⟩, hP, ⟨o9, p9, hsp⟩, hRA, hVA, hrf, hln, ⟨vb, ml, ct, n, f, hsb, hvb, hc⟩, iP, iS, iR, iV, iF⟩ := id hC
  rcases z_pc pane with ⟨h_ok, h_ip, hi⟩ | ⟨h_bad, h_nip⟩
  · rcases z_pc other with ⟨h_ok2, h_ip2, hi2⟩ | ⟨h_bad2, h_nip2⟩
    · rw [show t_2 pane other = 1 from by unfold t_2; rw [h_ok, h_ok2]; decide]
      by_cases hij : pane.toNatClampNeg = other.toNatClampNeg
      · refine z_Xi_mono (c_X3_part_s l G h_st hx hrf hpa (hP _ hi) h_ip rfl (hfp _ hi) h_ip2 rfl (by rw [← hij]; exact hfp _ hi) (s_rdb hok hi).1 (s_rdb hok hi).2) ?_ ?_
        · rintro r M' (⟨c0_0, hr9, rfl⟩ | ⟨c1_0, c1_1, hr9, rfl⟩ | ⟨c2_0, c2_1, hr9, rfl⟩)
          · rw [hr9]
            exact CP_ok (v := s_tdu (u) (upd (s_td u) 5 (((s_td u) 5) + 1))) (by simp [s_part, p_pt, ← hij, c0_0] <;> rfl) (z_lt3 rfl rfl) (CI_td hC _)
          · rw [hr9]
            exact CP_ok (v := s_ak (s_up (u) pane.toNatClampNeg (p_ro (s_pn u pane.toNatClampNeg), ((p_sa (s_pn u pane.toNatClampNeg)) + ix0), mn, 0, mn, (-1), (p_rd (s_pn u pane.toNatClampNeg)))) ((s_ac u) + 1) ((s_kn u))) (by simp [s_part, p_pt, ← hij, c1_0, c1_1] <;> rfl) (z_lt3 rfl rfl) (CI_ak (CI_pn hC hi (p_ro (s_pn u pane.toNatClampNeg), ((p_sa (s_pn u pane.toNatClampNeg)) + ix0), mn, 0, mn, (-1), (p_rd (s_pn u pane.toNatClampNeg)))) _ _)
          · rw [hr9]
            exact CP_ok (v := s_tdu (u) (upd (s_td u) 5 (((s_td u) 5) + 1))) (by simp [s_part, p_pt, ← hij, c2_0, c2_1] <;> rfl) (z_lt3 rfl rfl) (CI_td hC _)
        · exact fun E M' h => h.elim
      · refine z_Xi_mono (c_X3_part l G h_st hx hrf hpa (hP _ hi) (hP _ hi2) h_ip rfl (hfp _ hi) h_ip2 rfl (hfp _ hi2) (fun q => hij (iP _ _ hi hi2 q)) (s_rdb hok hi2).1 (s_rdb hok hi2).2) ?_ ?_
        · rintro r M' (⟨c0_0, hr9, rfl⟩ | ⟨c1_0, c1_1, hr9, rfl⟩ | ⟨c2_0, c2_1, hr9, rfl⟩)
          · rw [hr9]
            exact CP_ok (v := s_tdu (u) (upd (s_td u) 5 (((s_td u) 5) + 1))) (by simp [s_part, p_pt, c0_0] <;> rfl) (z_lt3 rfl rfl) (CI_td hC _)
          · rw [hr9]
            exact CP_ok (v := s_ak (s_up (u) pane.toNatClampNeg (p_ro (s_pn u other.toNatClampNeg), ((p_sa (s_pn u other.toNatClampNeg)) + ix0), mn, 0, mn, (-1), (p_rd (s_pn u other.toNatClampNeg)))) ((s_ac u) + 1) ((s_kn u))) (by simp [s_part, p_pt, c1_0, c1_1] <;> rfl) (z_lt3 rfl rfl) (CI_ak (CI_pn hC hi (p_ro (s_pn u other.toNatClampNeg), ((p_sa (s_pn u other.toNatClampNeg)) + ix0), mn, 0, mn, (-1), (p_rd (s_pn u other.toNatClampNeg)))) _ _)
          · rw [hr9]
            exact CP_ok (v := s_tdu (u) (upd (s_td u) 5 (((s_td u) 5) + 1))) (by simp [s_part, p_pt, c2_0, c2_1] <;> rfl) (z_lt3 rfl rfl) (CI_td hC _)
        · exact fun E M' h => h.elim
    · rw [show t_2 pane other = 0 from by unfold t_2; rw [h_ok, h_bad2]; decide]
      refine z_Xi_mono (c_X3_part_bad2 l G h_st hx hpa (hP _ hi) h_ip rfl (hfp _ hi) h_nip2) (fun r M' h => h.elim) ?_
      rintro E M' (⟨x0_0, rfl, rfl⟩ | ⟨x1_0, rfl, rfl⟩)
      · exact CX_1 (k_1 rfl) hC
      · exact CX_1 (k_1 rfl) hC
  · rw [show t_2 pane other = 0 from by unfold t_2; rw [h_bad]; exact if_pos rfl]
    refine z_Xi_mono (c_X3_part_bad l G h_st hx hpa h_nip) (fun r M' h => h.elim) ?_
    rintro E M' (⟨x0_0, rfl, rfl⟩ | ⟨x1_0, rfl, rfl⟩)
    · exact CX_1 (k_1 rfl) hC
    · exact CX_1 (k_1 rfl) hC
theorem a_X3_exchange (l : Launch) (h_st : l.stackTraces = false) {G : zG} {u : sS} {x : Nat} {P RA VA : Nat → Nat} {pa sp ln rf sb : Nat} {C : zM} (hC : CI G u x P RA VA pa sp ln rf sb C) {t : Nat} (hok : s_ok t u) (pane other : Int32) : z_Xi l G qX3_exchange (z_rm 12 8 48) [.ref x, .int pane, .int other] C (CP G x pa sp ln rf sb (z_lt (t_2 pane other) 1) (s_exch u pane.toNatClampNeg other.toNatClampNeg)) (CX G x pa sp ln rf sb (z_lt (t_2 pane other) 1) u) := by
  obtain ⟨hx, ⟨fp, hpa, hfp⟩, hP, ⟨o9, p9, hsp⟩, hRA, hVA, hrf, hln, ⟨vb, ml, ct, n, f, hsb, hvb, hc⟩, iP, iS, iR, iV, iF⟩ := id hC
  rcases z_pc pane with ⟨h_ok, h_ip, hi⟩ | ⟨h_bad, h_nip⟩
  · rcases z_pc other with ⟨h_ok2, h_ip2, hi2⟩ | ⟨h_bad2, h_nip2⟩
    · rw [show t_2 pane other = 1 from by unfold t_2; rw [h_ok, h_ok2]; decide]
      by_cases hij : pane.toNatClampNeg = other.toNatClampNeg
      · refine z_Xi_mono (c_X3_exchange_s l G h_st hx hrf hpa (hP _ hi) h_ip rfl (hfp _ hi) h_ip2 rfl (by rw [← hij]; exact hfp _ hi)) ?_ ?_
        · rintro r M' ⟨hr9, rfl⟩
          · rw [hr9]
            have h9 := CI_ak (CI_sw hC hi hi2 hpa) (s_ac u + 1) (s_kn u)
            rw [show P other.toNatClampNeg = P pane.toNatClampNeg from by rw [hij]] at h9
            exact CP_ok (v := s_act (s_sw u pane.toNatClampNeg other.toNatClampNeg)) (by simp [s_exch, ← hij]) (z_lt3 rfl rfl) h9
        · exact fun E M' h => h.elim
      · refine z_Xi_mono (c_X3_exchange l G h_st hx hrf hpa (hP _ hi) (hP _ hi2) h_ip rfl (hfp _ hi) h_ip2 rfl (hfp _ hi2) (fun q => hij (iP _ _ hi hi2 q))) ?_ ?_
        · rintro r M' ⟨hr9, rfl⟩
          · rw [hr9]
            exact CP_ok (v := s_act (s_sw u pane.toNatClampNeg other.toNatClampNeg)) rfl (z_lt3 rfl rfl) (CI_ak (CI_sw hC hi hi2 hpa) _ _)
        · exact fun E M' h => h.elim
    · rw [show t_2 pane other = 0 from by unfold t_2; rw [h_ok, h_bad2]; decide]
      refine z_Xi_mono (c_X3_exchange_bad2 l G h_st hx hpa (hP _ hi) h_ip rfl (hfp _ hi) h_nip2) (fun r M' h => h.elim) ?_
      rintro E M' (⟨x0_0, rfl, rfl⟩ | ⟨x1_0, rfl, rfl⟩)
      · exact CX_1 (k_1 rfl) hC
      · exact CX_1 (k_1 rfl) hC
  · rw [show t_2 pane other = 0 from by unfold t_2; rw [h_bad]; exact if_pos rfl]
    refine z_Xi_mono (c_X3_exchange_bad l G h_st hx hpa h_nip) (fun r M' h => h.elim) ?_
    rintro E M' (⟨x0_0, rfl, rfl⟩ | ⟨x1_0, rfl, rfl⟩)
    · exact CX_1 (k_1 rfl) hC
    · exact CX_1 (k_1 rfl) hC
theorem a_X3_isKin (l : Launch) (h_st : l.stackTraces = false) {G : zG} {u : sS} {x : Nat} {P RA VA : Nat → Nat} {pa sp ln rf sb : Nat} {C : zM} (hC : CI G u x P RA VA pa sp ln rf sb C) {t : Nat} (hok : s_ok t u) (pane other : Int32) : z_Xi l G qX3_isKin (z_rm 12 8 48) [.ref x, .int pane, .int other] C (CP G x pa sp ln rf sb (z_lt (t_2 pane other) 1) ((s_kin u pane.toNatClampNeg other.toNatClampNeg, u))) (CX G x pa sp ln rf sb (z_lt (t_2 pane other) 1) u) := by
  obtain ⟨hx, ⟨fp, hpa, hfp⟩, hP, ⟨o9, p9, hsp⟩, hRA, hVA, hrf, hln, ⟨vb, ml, ct, n, f, hsb, hvb, hc⟩, iP, iS, iR, iV, iF⟩ := id hC
  rcases z_pc pane with ⟨h_ok, h_ip, hi⟩ | ⟨h_bad, h_nip⟩
  · rcases z_pc other with ⟨h_ok2, h_ip2, hi2⟩ | ⟨h_bad2, h_nip2⟩
    · rw [show t_2 pane other = 1 from by unfold t_2; rw [h_ok, h_ok2]; decide]
      by_cases hij : pane.toNatClampNeg = other.toNatClampNeg
      · refine z_Xi_mono (c_X3_isKin_s l G h_st hx hpa (hP _ hi) h_ip rfl (hfp _ hi) h_ip2 rfl (by rw [← hij]; exact hfp _ hi)) ?_ ?_
        · rintro r M' (⟨c0_0, hr9, rfl⟩ | ⟨c1_0, c1_1, c1_2, hr9, rfl⟩ | ⟨c2_0, c2_1, c2_2, hr9, rfl⟩ | ⟨c3_0, c3_1, hr9, rfl⟩)
          · rw [hr9]
            exact CP_ok (v := u) (by simp [s_kin, ← hij, c0_0, ((s_rdn' hok hi).mpr c0_0)] <;> rfl) (z_lt3 rfl rfl) hC
          · exact absurd rfl c1_2
          · rw [hr9]
            exact CP_ok (v := u) (by simp [s_kin, ← hij, c2_0, ((s_rdn hok hi).mp c2_0), c2_1, ((s_rdn hok hi).mp c2_1)] <;> rfl) (z_lt3 rfl rfl) hC
          · exact absurd c3_0 c3_1
        · exact fun E M' h => h.elim
      · refine z_Xi_mono (c_X3_isKin l G h_st hx hpa (hP _ hi) (hP _ hi2) h_ip rfl (hfp _ hi) h_ip2 rfl (hfp _ hi2) (fun q => hij (iP _ _ hi hi2 q))) ?_ ?_
        · rintro r M' (⟨c0_0, hr9, rfl⟩ | ⟨c1_0, c1_1, c1_2, hr9, rfl⟩ | ⟨c2_0, c2_1, c2_2, hr9, rfl⟩ | ⟨c3_0, c3_1, hr9, rfl⟩)
          · rw [hr9]
            exact CP_ok (v := u) (by simp [s_kin, c0_0, ((s_rdn' hok hi).mpr c0_0)] <;> rfl) (z_lt3 rfl rfl) hC
          · rw [hr9]
            exact CP_ok (v := u) (by simp [s_kin, c1_0, ((s_rdn hok hi).mp c1_0), c1_1, (show ¬ p_ro (s_pn u pane.toNatClampNeg) = p_ro (s_pn u other.toNatClampNeg) from fun q => c1_2 (by rw [q]))] <;> rfl) (z_lt3 rfl rfl) hC
          · rw [hr9]
            exact CP_ok (v := u) (by simp [s_kin, c2_0, ((s_rdn hok hi).mp c2_0), c2_1, (iR _ _ (s_row hok hi) (s_row hok hi2) (Option.some.inj c2_2))] <;> rfl) (z_lt3 rfl rfl) hC
          · rw [hr9]
            exact CP_ok (v := u) (by simp [s_kin, c3_0, ((s_rdn hok hi).mp c3_0), c3_1] <;> rfl) (z_lt3 rfl rfl) hC
        · exact fun E M' h => h.elim
    · rw [show t_2 pane other = 0 from by unfold t_2; rw [h_ok, h_bad2]; decide]
      refine z_Xi_mono (c_X3_isKin_bad2 l G h_st hx hpa (hP _ hi) h_ip rfl (hfp _ hi) h_nip2) (fun r M' h => h.elim) ?_
      rintro E M' (⟨x0_0, rfl, rfl⟩ | ⟨x1_0, rfl, rfl⟩)
      · exact CX_1 (k_1 rfl) hC
      · exact CX_1 (k_1 rfl) hC
  · rw [show t_2 pane other = 0 from by unfold t_2; rw [h_bad]; exact if_pos rfl]
    refine z_Xi_mono (c_X3_isKin_bad l G h_st hx hpa h_nip) (fun r M' h => h.elim) ?_
    rintro E M' (⟨x0_0, rfl, rfl⟩ | ⟨x1_0, rfl, rfl⟩)
    · exact CX_1 (k_1 rfl) hC
    · exact CX_1 (k_1 rfl) hC
theorem a_X3_sees (l : Launch) (h_st : l.stackTraces = false) {G : zG} {u : sS} {x : Nat} {P RA VA : Nat → Nat} {pa sp ln rf sb : Nat} {C : zM} (hC : CI G u x P RA VA pa sp ln rf sb C) {t : Nat} (hok : s_ok t u) (pane ix0 other : Int32) : z_Xi l G qX3_sees (z_rm 12 8 48) [.ref x, .int pane, .int ix0, .int other] C (CP G x pa sp ln rf sb (z_lt (t_2 pane other) 1) ((s_sees u pane.toNatClampNeg ix0 other.toNatClampNeg, u))) (CX G x pa sp ln rf sb (z_lt (t_2 pane other) 1) u) := by
  obtain ⟨hx, ⟨fp, hpa, hfp⟩, hP, ⟨o9, p9, hsp⟩, hRA, hVA, hrf, hln, ⟨vb, ml, ct, n, f, hsb, hvb, hc⟩, iP, iS, iR, iV, iF⟩ := id hC
  rcases z_pc pane with ⟨h_ok, h_ip, hi⟩ | ⟨h_bad, h_nip⟩
  · rcases z_pc other with ⟨h_ok2, h_ip2, hi2⟩ | ⟨h_bad2, h_nip2⟩
    · rw [show t_2 pane other = 1 from by unfold t_2; rw [h_ok, h_ok2]; decide]
      by_cases hij : pane.toNatClampNeg = other.toNatClampNeg
      · refine z_Xi_mono (c_X3_sees_s l G h_st hx hpa (hP _ hi) h_ip rfl (hfp _ hi) h_ip2 rfl (by rw [← hij]; exact hfp _ hi)) ?_ ?_
        · rintro r M' (⟨c0_0, hr9, rfl⟩ | ⟨c1_0, c1_1, c1_2, hr9, rfl⟩ | ⟨c2_0, c2_1, c2_2, c2_3, c2_4, hr9, rfl⟩ | ⟨c3_0, c3_1, c3_2, c3_3, c3_4, hr9, rfl⟩ | ⟨c4_0, c4_1, c4_2, c4_3, hr9, rfl⟩ | ⟨c5_0, c5_1, hr9, rfl⟩)
          · rw [hr9]
            exact CP_ok (v := u) (by simp [s_sees, ← hij, c0_0, ((s_rdn' hok hi).mpr c0_0)] <;> rfl) (z_lt3 rfl rfl) hC
          · exact absurd rfl c1_2
          · rw [hr9]
            exact CP_ok (v := u) (by simp [s_sees, ← hij, c2_0, ((s_rdn hok hi).mp c2_0), c2_1, ((s_rdn hok hi).mp c2_1), c2_3, c2_4] <;> rfl) (z_lt3 rfl rfl) hC
          · rw [hr9]
            exact CP_ok (v := u) (by simp [s_sees, ← hij, c3_0, ((s_rdn hok hi).mp c3_0), c3_1, ((s_rdn hok hi).mp c3_1), c3_3, c3_4] <;> rfl) (z_lt3 rfl rfl) hC
          · rw [hr9]
            exact CP_ok (v := u) (by simp [s_sees, ← hij, c4_0, ((s_rdn hok hi).mp c4_0), c4_1, ((s_rdn hok hi).mp c4_1), c4_3] <;> rfl) (z_lt3 rfl rfl) hC
          · exact absurd c5_0 c5_1
        · exact fun E M' h => h.elim
      · refine z_Xi_mono (c_X3_sees l G h_st hx hpa (hP _ hi) (hP _ hi2) h_ip rfl (hfp _ hi) h_ip2 rfl (hfp _ hi2) (fun q => hij (iP _ _ hi hi2 q))) ?_ ?_
        · rintro r M' (⟨c0_0, hr9, rfl⟩ | ⟨c1_0, c1_1, c1_2, hr9, rfl⟩ | ⟨c2_0, c2_1, c2_2, c2_3, c2_4, hr9, rfl⟩ | ⟨c3_0, c3_1, c3_2, c3_3, c3_4, hr9, rfl⟩ | ⟨c4_0, c4_1, c4_2, c4_3, hr9, rfl⟩ | ⟨c5_0, c5_1, hr9, rfl⟩)
          · rw [hr9]
            exact CP_ok (v := u) (by simp [s_sees, c0_0, ((s_rdn' hok hi).mpr c0_0)] <;> rfl) (z_lt3 rfl rfl) hC
          · rw [hr9]
            exact CP_ok (v := u) (by simp [s_sees, c1_0, ((s_rdn hok hi).mp c1_0), c1_1, (show ¬ p_ro (s_pn u pane.toNatClampNeg) = p_ro (s_pn u other.toNatClampNeg) from fun q => c1_2 (by rw [q]))] <;> rfl) (z_lt3 rfl rfl) hC
          · rw [hr9]
            exact CP_ok (v := u) (by simp [s_sees, c2_0, ((s_rdn hok hi).mp c2_0), c2_1, (iR _ _ (s_row hok hi) (s_row hok hi2) (Option.some.inj c2_2)), c2_3, c2_4] <;> rfl) (z_lt3 rfl rfl) hC
          · rw [hr9]
            exact CP_ok (v := u) (by simp [s_sees, c3_0, ((s_rdn hok hi).mp c3_0), c3_1, (iR _ _ (s_row hok hi) (s_row hok hi2) (Option.some.inj c3_2)), c3_3, c3_4] <;> rfl) (z_lt3 rfl rfl) hC
          · rw [hr9]
            exact CP_ok (v := u) (by simp [s_sees, c4_0, ((s_rdn hok hi).mp c4_0), c4_1, (iR _ _ (s_row hok hi) (s_row hok hi2) (Option.some.inj c4_2)), c4_3] <;> rfl) (z_lt3 rfl rfl) hC
          · rw [hr9]
            exact CP_ok (v := u) (by simp [s_sees, c5_0, ((s_rdn hok hi).mp c5_0), c5_1] <;> rfl) (z_lt3 rfl rfl) hC
        · exact fun E M' h => h.elim
    · rw [show t_2 pane other = 0 from by unfold t_2; rw [h_ok, h_bad2]; decide]
      refine z_Xi_mono (c_X3_sees_bad2 l G h_st hx hpa (hP _ hi) h_ip rfl (hfp _ hi) h_nip2) (fun r M' h => h.elim) ?_
      rintro E M' (⟨x0_0, rfl, rfl⟩ | ⟨x1_0, rfl, rfl⟩)
      · exact CX_1 (k_1 rfl) hC
      · exact CX_1 (k_1 rfl) hC
  · rw [show t_2 pane other = 0 from by unfold t_2; rw [h_bad]; exact if_pos rfl]
    refine z_Xi_mono (c_X3_sees_bad l G h_st hx hpa h_nip) (fun r M' h => h.elim) ?_
    rintro E M' (⟨x0_0, rfl, rfl⟩ | ⟨x1_0, rfl, rfl⟩)
    · exact CX_1 (k_1 rfl) hC
    · exact CX_1 (k_1 rfl) hC
theorem a_X3_knock (l : Launch) {G : zG} {u : sS} {x : Nat} {P RA VA : Nat → Nat} {pa sp ln rf sb : Nat} {C : zM} (hC : CI G u x P RA VA pa sp ln rf sb C) : z_Mi l G qX3_knock (z_rm 1 0 0) [.ref x] C (CP G x pa sp ln rf sb 0 (s_kn u + 1, s_ak u (s_ac u) (s_kn u + 1))) := by
  refine z_Mi_mono (c_X3_knock l G hC.1) ?_
  rintro r M' ⟨hr9, rfl⟩
  rw [hr9]
  exact CP_ok rfl rfl (CI_ak hC _ _)
end
section
/-! PART 33: every call leaves a state in order -/
theorem s_ok_ak {t : Nat} {u : sS} (h : s_ok t u) (a k : Int32) : s_ok t (s_ak u a k) := h
theorem s_ok_td {t : Nat} {u : sS} (h : s_ok t u) (f : Nat → Int32) : s_ok t (s_tdu u f) := h
theorem s_ok_up {t : Nat} {u : sS} (h : s_ok t u) (i : Nat) {p : sP} (hp : s_pok (s_nr u) (s_ln u) p) : s_ok t (s_up u i p) := by
  obtain ⟨h1, h2, h3, h4, h5, h6⟩ := h
  refine ⟨h1, h2, h3, h4, fun j hj => ?_, h6⟩
  by_cases hji : j = i
  · subst hji; rw [s_up_s]; exact hp
  · rw [s_up_n _ _ hji]; exact h5 j hj
theorem s_ok_wr {t : Nat} {u : sS} (h : s_ok t u) (r j : Nat) {v : Int32} (hv : 0 ≤ v.toInt) : s_ok t (s_wr u r j v) := by
  obtain ⟨h1, h2, h3, h4, h5, h6⟩ := h
  refine ⟨h1, h2, h3, h4, h5, fun q k => ?_⟩
  by_cases hq : q = r
  · subst hq
    rw [s_wr_s]
    by_cases hk : k = j
    · subst hk; rw [show upd (s_vl u q) k v k = v from if_pos rfl]; exact hv
    · rw [show upd (s_vl u q) j v k = s_vl u q k from if_neg hk]; exact h6 q k
  · rw [s_wr_n _ _ _ hq]; exact h6 q k
theorem s_ok_mono {t t' : Nat} {u : sS} (h : s_ok t u) (ht : t ≤ t') : s_ok t' u := ⟨h.1, by have := h.2.1; omega, h.2.2⟩
theorem s_ok_new {t n : Nat} {u : sS} (h : s_ok t u) (hn : n ≤ 12) : s_ok (t + 1) (s_new u n) := by
  obtain ⟨h1, h2, h3, h4, h5, h6⟩ := h
  refine ⟨by show 3 ≤ s_nr u + 1; omega, by show s_nr u + 1 ≤ _; omega, ?_, fun r hr => ?_, fun i hi => ?_, fun r j => ?_⟩
  · show (if 0 = s_nr u then n else s_ln u 0) = 16
    rw [if_neg (by omega)]; exact h3
  · show (if r = s_nr u then n else s_ln u r) ≤ 12
    split
    · exact hn
    · exact h4 r hr
  · obtain ⟨a, b, c⟩ := h5 i hi
    refine ⟨by show p_ro (s_pn u i) < s_nr u + 1; omega, ?_, c⟩
    show z_ow _ _ _ _ (if p_ro (s_pn u i) = s_nr u then n else s_ln u (p_ro (s_pn u i)))
    rw [if_neg (by omega)]; exact b
  · show 0 ≤ ((if r = s_nr u then (fun _ => 0) else s_vl u r) j).toInt
    split
    · exact Int.le_refl _
    · exact h6 r j
section POK
variable {nr : Nat} {ln : Nat → Nat} {p : sP} {x : Int32}
theorem z_isT {a b : Int32} (h : ¬ z_is x a b = 0) : a.toInt ≤ x.toInt ∧ x.toInt ≤ b.toInt := by
  obtain ⟨h1, h2⟩ := z_is1 h
  exact ⟨z_le.mp h1, z_le.mp h2⟩
theorem pok_mv (h : s_pok nr ln p) (h0 : 0 ≤ x.toInt) (h1 : x.toInt ≤ (p_li p).toInt) : s_pok nr ln (p_mv p x) := by
  obtain ⟨a, ⟨b1, b2, b3, b4, b5, b6, b7⟩, ⟨c1, c2⟩, d⟩ := h
  refine ⟨a, ⟨b1, h0, h1, b4, b5, b6, b7⟩, ?_, d⟩
  show -1 ≤ (if p_mk p ≤ x then p_mk p else -1).toInt ∧ (if p_mk p ≤ x then p_mk p else -1).toInt ≤ x.toInt
  split
  · rename_i q; exact ⟨c1, z_le.mp q⟩
  · rw [z_tm1]; omega
theorem pok_en (h : s_pok nr ln p) (h0 : 0 ≤ x.toInt) (h1 : x.toInt ≤ (p_cp p).toInt) : s_pok nr ln (p_en p x) := by
  obtain ⟨a, ⟨b1, b2, b3, b4, b5, b6, b7⟩, ⟨c1, c2⟩, d⟩ := h
  have e : (if p_po p ≤ x then p_po p else x).toInt ≤ x.toInt ∧ 0 ≤ (if p_po p ≤ x then p_po p else x).toInt := by
    split
    · rename_i q; exact ⟨z_le.mp q, b2⟩
    · exact ⟨Int.le_refl _, h0⟩
  refine ⟨a, ⟨b1, e.2, e.1, h1, b5, b6, b7⟩, ?_, d⟩
  show -1 ≤ (if p_mk p ≤ x then p_mk p else -1).toInt ∧ (if p_mk p ≤ x then p_mk p else -1).toInt ≤ (if p_po p ≤ x then p_po p else x).toInt
  have e2 := e.2
  split
  · rename_i q
    refine ⟨c1, ?_⟩
    split
    · exact c2
    · exact z_le.mp q
  · rw [z_tm1]; omega
theorem pok_bg (h : s_pok nr ln p) (h0 : 0 ≤ x.toInt) (h1 : x.toInt ≤ (p_cp p).toInt) : s_pok nr ln (p_bg p x) := by
  obtain ⟨a, ⟨b1, b2, b3, b4, b5, b6, b7⟩, ⟨c1, c2⟩, d⟩ := h
  exact ⟨a, ⟨b1, by show 0 ≤ (0 : Int32).toInt; decide, by show (0 : Int32).toInt ≤ _; rw [z_t0]; exact h0, h1, b5, b6, b7⟩, ⟨by show -1 ≤ (-1 : Int32).toInt; decide, by show (-1 : Int32).toInt ≤ (0 : Int32).toInt; decide⟩, d⟩
theorem pok_po (h : s_pok nr ln p) (h0 : 0 ≤ x.toInt) (h1 : x.toInt ≤ (p_li p).toInt) (h2 : (p_mk p).toInt ≤ x.toInt) : s_pok nr ln (p_po' p x) := by
  obtain ⟨a, ⟨b1, b2, b3, b4, b5, b6, b7⟩, ⟨c1, c2⟩, d⟩ := h
  exact ⟨a, ⟨b1, h0, h1, b4, b5, b6, b7⟩, ⟨c1, h2⟩, d⟩
theorem pok_nx (h : s_pok nr ln p) (h1 : ¬ p_li p - p_po p = 0) : s_pok nr ln (p_po' p (p_po p + 1)) := by
  obtain ⟨a, ⟨b1, b2, b3, b4, b5, b6, b7⟩, ⟨c1, c2⟩, d⟩ := id h
  have e := z_owB (id h).2.1
  have e1 : (p_po p + 1).toInt = (p_po p).toInt + 1 := by rw [fb_addI (by rw [z_t1]; omega) (by rw [z_t1]; omega), z_t1]
  rw [z_eqI, z_t0, e] at h1
  exact pok_po h (by omega) (by omega) (by omega)
theorem pok_mkd (h : s_pok nr ln p) : s_pok nr ln (p_mkd p) := by
  obtain ⟨a, b, ⟨c1, c2⟩, d⟩ := h
  exact ⟨a, b, ⟨by show -1 ≤ (p_po p).toInt; have := b.2.1; omega, Int.le_refl _⟩, d⟩
theorem pok_rdr (h : s_pok nr ln p) : s_pok nr ln (p_rdr p) := ⟨h.1, h.2.1, h.2.2.1, Or.inr rfl⟩
theorem pok_pt (h : s_pok nr ln p) {ix mn : Int32} (h0 : 0 ≤ ix.toInt) (h1 : 0 ≤ mn.toInt) (h2 : ix.toInt + mn.toInt ≤ (p_li p).toInt) : s_pok nr ln (p_pt p ix mn) := by
  obtain ⟨a, ⟨b1, b2, b3, b4, b5, b6, b7⟩, ⟨c1, c2⟩, d⟩ := h
  have e1 : (p_sa p + ix).toInt = (p_sa p).toInt + ix.toInt := fb_addI (by omega) (by omega)
  exact ⟨a, ⟨by show 0 ≤ (p_sa p + ix).toInt; omega, by show 0 ≤ (0 : Int32).toInt; decide, by show (0 : Int32).toInt ≤ _; rw [z_t0]; exact h1, Int.le_refl _, by show mn.toInt ≤ 16; omega, by show (p_sa p + ix).toInt + mn.toInt ≤ (ln (p_ro p) : Int); omega, b7⟩, ⟨by show -1 ≤ (-1 : Int32).toInt; decide, by show (-1 : Int32).toInt ≤ (0 : Int32).toInt; decide⟩, d⟩
end POK
section SOK
variable {t : Nat} {u : sS} {i j : Nat} {x : Int32}
theorem s_pk (h : s_ok t u) (hi : i < 6) : s_pok (s_nr u) (s_ln u) (s_pn u i) := h.2.2.2.2.1 i hi
theorem s_ok_go (h : s_ok t u) (hi : i < 6) : s_ok t (s_go u i x).2 := by
  unfold s_go
  split
  · exact s_ok_td h _
  · rename_i q
    have := z_isT q
    rw [z_t0] at this
    exact s_ok_ak (s_ok_up h i (pok_mv (s_pk h hi) this.1 this.2)) _ _
theorem s_ok_move (h : s_ok t u) (hi : i < 6) : s_ok t (s_move u i x).2 := by
  unfold s_move
  split
  · exact s_ok_td h _
  · rename_i q
    have := z_isT q
    rw [z_t0] at this
    exact s_ok_ak (s_ok_up h i (pok_mv (s_pk h hi) this.1 this.2)) _ _
theorem s_ok_end (h : s_ok t u) (hi : i < 6) : s_ok t (s_end u i x).2 := by
  unfold s_end
  split
  · exact s_ok_td h _
  · rename_i q
    have := z_isT q
    rw [z_t0] at this
    exact s_ok_ak (s_ok_up h i (pok_en (s_pk h hi) this.1 this.2)) _ _
theorem s_ok_stretch (h : s_ok t u) (hi : i < 6) : s_ok t (s_stretch u i x).2 := by
  unfold s_stretch
  split
  · exact s_ok_td h _
  · rename_i q
    have := z_isT q
    rw [z_t0] at this
    exact s_ok_ak (s_ok_up h i (pok_en (s_pk h hi) this.1 this.2)) _ _
theorem s_ok_mark (h : s_ok t u) (hi : i < 6) : s_ok t (s_mark u i).2 := s_ok_ak (s_ok_up h i (pok_mkd (s_pk h hi))) _ _
theorem s_ok_back (h : s_ok t u) (hi : i < 6) : s_ok t (s_back u i).2 := by
  unfold s_back
  split
  · exact s_ok_td h _
  · rename_i q
    obtain ⟨a, ⟨b1, b2, b3, b4, b5, b6, b7⟩, ⟨c1, c2⟩, d⟩ := s_pk h hi
    have : (p_mk (s_pn u i)).toInt ≠ -1 := fun e => q (by rw [z_eqI, z_tm1]; exact e)
    exact s_ok_ak (s_ok_up h i (pok_po (s_pk h hi) (by omega) (by omega) (Int.le_refl _))) _ _
theorem s_ok_clear (h : s_ok t u) (hi : i < 6) : s_ok t (s_clear u i).2 := s_ok_ak (s_ok_up h i (pok_bg (s_pk h hi) (by have := s_lo h hi; omega) (Int.le_refl _))) _ _
theorem s_ok_flip (h : s_ok t u) (hi : i < 6) : s_ok t (s_flip u i).2 := s_ok_ak (s_ok_up h i (pok_bg (s_pk h hi) (s_pos0 h hi).1 (by have := s_pos0 h hi; have := (s_ow h hi).2.2.2.1; omega))) _ _
theorem s_ok_rewind (h : s_ok t u) (hi : i < 6) : s_ok t (s_rewind u i).2 := s_ok_ak (s_ok_up h i (pok_bg (s_pk h hi) (s_lo h hi).1 (s_ow h hi).2.2.2.1)) _ _
theorem s_ok_put1 {v : Int32} (h : s_ok t u) (hi : i < 6) (hv : 0 ≤ v.toInt) : s_ok t (s_put1 u i v).2 := by
  unfold s_put1
  split
  · exact s_ok_td h _
  · split
    · exact s_ok_td h _
    · rename_i q
      exact s_ok_up (s_ok_wr h _ _ hv) i (pok_nx (s_pk (u := u) h hi) q)
theorem s_ok_put {v : Int32} (h : s_ok t u) (hi : i < 6) (hv : 0 ≤ v.toInt) : s_ok t (s_put u i v).2 := by
  unfold s_put
  split
  · exact s_ok_ak (s_ok_put1 h hi hv) _ _
  · exact s_ok_put1 h hi hv
theorem s_ok_putAt {v : Int32} (h : s_ok t u) (hv : 0 ≤ v.toInt) : s_ok t (s_putAt u i x v).2 := by
  unfold s_putAt
  split
  · exact s_ok_td h _
  · split
    · exact s_ok_td h _
    · exact s_ok_ak (s_ok_wr h _ _ hv) _ _
theorem s_ok_reach {v : Int32} (h : s_ok t u) (hv : 0 ≤ v.toInt) : s_ok t (s_reach u i x v).2 := by
  unfold s_reach
  split
  · exact s_ok_td h _
  · split
    · exact s_ok_td h _
    · exact s_ok_ak (s_ok_wr h _ _ hv) _ _
theorem s_v0 (h : s_ok t u) (r k : Nat) : 0 ≤ (s_vl u r k).toInt := h.2.2.2.2.2 r k
theorem s_ok_bring {y : Int32} (h : s_ok t u) : s_ok t (s_bring u i j x y).2 := by
  unfold s_bring
  split
  · exact s_ok_td h _
  · split
    · exact s_ok_td h _
    · split
      · exact s_ok_td h _
      · exact s_ok_ak (s_ok_wr h _ _ (s_v0 h _ _)) _ _
theorem s_ok_lay {v : Int32} (h : s_ok t u) (hv : 0 ≤ v.toInt) : s_ok t (s_lay u x v).2 := s_ok_ak (s_ok_wr h _ _ hv) _ _
theorem s_ok_get (h : s_ok t u) (hi : i < 6) : s_ok t (s_get u i).2 := by
  unfold s_get
  split
  · exact s_ok_td h _
  · rename_i q
    exact s_ok_ak (s_ok_up h i (pok_nx (s_pk h hi) q)) _ _
theorem s_ok_pop (h : s_ok t u) (hi : i < 6) : s_ok t (s_pop u i).2 := by
  unfold s_pop
  split
  · exact s_ok_td h _
  · rename_i q
    have h1 := s_pos0 h hi
    have h2 : (p_po (s_pn u i)).toInt ≠ 0 := fun e => q (by rw [z_eqI, z_t0]; exact e)
    have h3 := s_lo h hi
    have e : (p_po (s_pn u i) - 1).toInt = (p_po (s_pn u i)).toInt - 1 := by rw [fb_subI (by rw [z_t1]; omega) (by rw [z_t1]; omega), z_t1]
    exact s_ok_ak (s_ok_up h i (pok_mv (s_pk h hi) (by omega) (by omega))) _ _
theorem s_ok_drain {mn : Int32} (h : s_ok t u) (hi : i < 6) (hm : 0 ≤ mn.toInt) : s_ok t (s_drain u i mn).2 := by
  have h1 := s_pos0 h hi
  have h2 := s_lo h hi
  have hk := (s_pk h hi).2.2.1
  unfold s_drain
  split
  · rename_i q
    rw [z_le, h1.2.2] at q
    have e : (p_po (s_pn u i) + mn).toInt = (p_po (s_pn u i)).toInt + mn.toInt := fb_addI (by omega) (by omega)
    exact s_ok_ak (s_ok_up h i (pok_po (s_pk h hi) (by omega) (by omega) (by omega))) _ _
  · have e : (p_po (s_pn u i) + (p_li (s_pn u i) - p_po (s_pn u i))).toInt = (p_li (s_pn u i)).toInt := by rw [fb_addI (by omega) (by omega)]; omega
    exact s_ok_ak (s_ok_td (s_ok_up h i (pok_po (s_pk h hi) (by omega) (by omega) (by omega))) _) _ _
theorem s_ok_wrap {a b : Int32} (h : s_ok t u) (h1 : ¬ z_is a 0 16 = 0) (h2 : ¬ z_is b 0 (16 - a) = 0) : s_ok t (s_wrap u i a b).2 := by
  have h3 := z_isT h1
  have h4 := z_isT h2
  have e16 : (16 : Int32).toInt = 16 := by decide
  rw [z_t0, e16] at h3
  rw [z_t0, fb_subI (by rw [e16]; omega) (by rw [e16]; omega), e16] at h4
  have e : (a + b).toInt = a.toInt + b.toInt := fb_addI (by omega) (by omega)
  have hl := h.2.2.1
  refine s_ok_ak (s_ok_up h i ⟨by show 0 < s_nr u; have := h.1; omega, ⟨by show 0 ≤ (0 : Int32).toInt; decide, h3.1, by show a.toInt ≤ (a + b).toInt; omega, by show (a + b).toInt ≤ (16 : Int32).toInt; omega, by show (16 : Int32).toInt ≤ 16; omega, ?_, ?_⟩, ⟨by show -1 ≤ (-1 : Int32).toInt; decide, by show (-1 : Int32).toInt ≤ a.toInt; rw [z_tm1]; omega⟩, Or.inl rfl⟩) _ _
  · show (0 : Int32).toInt + (16 : Int32).toInt ≤ (s_ln u 0 : Int)
    rw [hl, e16, z_t0]; decide
  · show s_ln u 0 < 100000
    omega
theorem s_ok_fresh {a : Int32} (h : s_ok t u) (h1 : ¬ z_is a 0 12 = 0) : s_ok (t + 1) (s_fresh u i a).2 := by
  have h3 := z_isT h1
  rw [z_t0, show (12 : Int32).toInt = 12 from by decide] at h3
  have h4 := z_cl (x := a) (by rw [z_le, z_t0]; exact h3.1)
  refine s_ok_ak (s_ok_up (s_ok_new h (n := a.toNatClampNeg) (by omega)) i ⟨by show s_nr u < s_nr u + 1; omega, ⟨by show 0 ≤ (0 : Int32).toInt; decide, by show 0 ≤ (0 : Int32).toInt; decide, by show (0 : Int32).toInt ≤ a.toInt; rw [z_t0]; exact h3.1, Int.le_refl _, by show a.toInt ≤ 16; omega, ?_, ?_⟩, ⟨by show -1 ≤ (-1 : Int32).toInt; decide, by show (-1 : Int32).toInt ≤ (0 : Int32).toInt; decide⟩, Or.inl rfl⟩) _ _
  · show (0 : Int32).toInt + a.toInt ≤ ((if s_nr u = s_nr u then a.toNatClampNeg else s_ln u (s_nr u) : Nat) : Int)
    rw [if_pos rfl, z_t0]; omega
  · show (if s_nr u = s_nr u then a.toNatClampNeg else s_ln u (s_nr u)) < 100000
    rw [if_pos rfl]; omega
theorem s_ok_twin (h : s_ok t u) (hj : j < 6) : s_ok t (s_twin u i j).2 := s_ok_ak (s_ok_up h i (s_pk h hj)) _ _
theorem s_ok_reader (h : s_ok t u) (hj : j < 6) : s_ok t (s_reader u i j).2 := s_ok_ak (s_ok_up h i (pok_rdr (s_pk h hj))) _ _
theorem s_ok_rest (h : s_ok t u) (hj : j < 6) : s_ok t (s_rest u i j).2 := by
  have h1 := s_pos0 h hj
  exact s_ok_ak (s_ok_up h i (pok_pt (s_pk h hj) h1.1 (by omega) (by omega))) _ _
theorem s_ok_part {a b : Int32} (h : s_ok t u) (hj : j < 6) : s_ok t (s_part u i j a b).2 := by
  unfold s_part
  split
  · exact s_ok_td h _
  · split
    · exact s_ok_td h _
    · rename_i q1 q2
      have h2 := s_lo h hj
      have h3 := z_isT q1
      have h4 := z_isT q2
      rw [z_t0] at h3
      rw [z_t0, fb_subI (by omega) (by omega)] at h4
      exact s_ok_ak (s_ok_up h i (pok_pt (s_pk h hj) h3.1 h4.1 (by omega))) _ _
theorem s_ok_exch (h : s_ok t u) (hi : i < 6) (hj : j < 6) : s_ok t (s_exch u i j).2 := s_ok_ak (s_ok_up (s_ok_up h i (s_pk h hj)) j (s_pk (u := u) h hi)) _ _
theorem s_ok_fill1 {a b : Int32} (h : s_ok t u) (hi : i < 6) (hv : ∀ k, k < 20 → 0 ≤ (a + nI k * b).toInt) : ∀ (d k : Nat) (u : sS), k + d ≤ 20 → s_ok t u → s_ok t (s_fill1 i a b d k u).2 := by
  intro d
  induction d with
  | zero => intro k u _ h; exact h
  | succ d ih =>
    intro k u hk h
    unfold s_fill1
    split
    · exact ih (k + 1) _ (by omega) (s_ok_put1 h hi (hv k (by omega)))
    · exact s_ok_put1 h hi (hv k (by omega))
theorem s_fv {a b : Int32} (h1 : ¬ z_is a 0 1000000 = 0) (h2 : ¬ z_is b 0 1000000 = 0) : ∀ k, k < 20 → 0 ≤ (a + nI k * b).toInt := by
  intro k hk
  have e : (1000000 : Int32).toInt = 1000000 := by decide
  have h3 := z_isT h1
  have h4 := z_isT h2
  rw [z_t0, e] at h3 h4
  have ek : (nI k).toInt = k := nI_T (by omega)
  have h5 : (k : Int) * b.toInt ≤ 20 * 1000000 := Int.mul_le_mul (by omega) h4.2 h4.1 (by omega)
  have h6 : 0 ≤ (k : Int) * b.toInt := Int.mul_nonneg (by omega) h4.1
  have em : (nI k * b).toInt = k * b.toInt := by rw [Int32.toInt_mul, ek]; exact fb_bmod (by omega) (by omega)
  rw [fb_addI (by omega) (by omega), em]
  omega
theorem s_ok_pack1 (hi : i < 6) : ∀ (d k : Nat) (u : sS), s_ok t u → s_ok t (s_pack1 i d k u) := by
  intro d
  induction d with
  | zero => intro k u h; exact h
  | succ d ih => intro k u h; exact ih (k + 1) _ (s_ok_wr h _ _ (s_v0 h _ _))
theorem s_pack1_pn : ∀ (d k : Nat) (u : sS), s_pn (s_pack1 i d k u) = s_pn u ∧ s_nr (s_pack1 i d k u) = s_nr u ∧ s_ln (s_pack1 i d k u) = s_ln u := by
  intro d
  induction d with
  | zero => intro k u; exact ⟨rfl, rfl, rfl⟩
  | succ d ih => intro k u; exact ih (k + 1) _
theorem s_ok_pack (h : s_ok t u) (hi : i < 6) : s_ok t (s_pack u i).2 := by
  unfold s_pack
  split
  · exact s_ok_td h _
  · have h1 := s_pos0 h hi
    have h2 := s_lo h hi
    obtain ⟨e1, e2, e3⟩ := s_pack1_pn (i := i) (p_li (s_pn u i) - p_po (s_pn u i)).toNatClampNeg 0 u
    refine s_ok_ak (s_ok_up (s_ok_pack1 hi _ _ _ h) i ?_) _ _
    rw [e2, e3]
    have h3 := (s_ow h hi).2.2.2.1
    refine pok_po (pok_bg (s_pk h hi) (by omega) (Int.le_refl _)) (by omega) (by show _ ≤ (p_cp (s_pn u i)).toInt; omega) (by show (-1 : Int32).toInt ≤ _; rw [z_tm1]; omega)
theorem s_ok_nx (h : s_ok t u) (hi : i < 6) (hl : ¬ p_li (s_pn u i) - p_po (s_pn u i) = 0) : s_ok t (s_up u i (p_po' (s_pn u i) (p_po (s_pn u i) + 1))) := s_ok_up h i (pok_nx (s_pk h hi) hl)
theorem s_ok_pour0 {k : Nat} (h : s_ok t u) (hi : i < 6) (hk : k < 6) (hl : ¬ p_li (s_pn u i) - p_po (s_pn u i) = 0) : s_ok t (s_pour0 u i k).2 := s_ok_put1 (s_ok_nx h hi hl) hk (s_v0 h _ _)
/-- behind a refusal nothing but a count is another -/
theorem s_put1_no {v : Int32} (h : ¬ (s_put1 u i v).1 = 0) : ∃ f, (s_put1 u i v).2 = s_tdu u f := by
  unfold s_put1 at h ⊢
  split
  · exact ⟨_, rfl⟩
  · split
    · exact ⟨_, rfl⟩
    · rename_i q1 q2; rw [if_neg q1, if_neg q2] at h; exact absurd rfl h
theorem s_ok_unp {k : Nat} (h : s_ok t u) (hi : i < 6) (hk : k < 6) (hl : ¬ p_li (s_pn u i) - p_po (s_pn u i) = 0) (hn : ¬ (s_pour0 u i k).1 = 0) : s_ok t (s_unp (s_pour0 u i k).2 i) := by
  have h9 := s_ok_pour0 h hi hk hl
  obtain ⟨f, hf⟩ := s_put1_no hn
  have hf : (s_pour0 u i k).2 = s_tdu (s_up u i (p_po' (s_pn u i) (p_po (s_pn u i) + 1))) f := hf
  rw [hf] at h9 ⊢
  have e : s_pn (s_tdu (s_up u i (p_po' (s_pn u i) (p_po (s_pn u i) + 1))) f) i = p_po' (s_pn u i) (p_po (s_pn u i) + 1) := s_up_s u i _
  have h1 := s_pos0 h hi
  have h2 := s_lo h hi
  have e2 : (p_po (s_pn u i) + 1 - 1) = p_po (s_pn u i) := Int32.add_sub_cancel _ _
  refine s_ok_up h9 i ?_
  rw [e]
  refine pok_mv ?_ ?_ ?_
  · have := s_pk h9 hi
    rw [e] at this
    exact this
  · show 0 ≤ (p_po (s_pn u i) + 1 - 1).toInt
    rw [e2]; omega
  · show (p_po (s_pn u i) + 1 - 1).toInt ≤ (p_li (s_pn u i)).toInt
    rw [e2]; omega
theorem s_ok_pour1 {k : Nat} (hi : i < 6) (hk : k < 6) : ∀ (d j : Nat) (u : sS), s_ok t u → s_ok t (s_pour1 i k d j u).2 := by
  intro d
  induction d with
  | zero => intro j u h; exact h
  | succ d ih =>
    intro j u h
    unfold s_pour1
    split
    · exact h
    · rename_i q
      have q : ¬ p_li (s_pn u i) - p_po (s_pn u i) = 0 := fun e => q ((s_left h hi).mp e)
      split
      · exact ih (j + 1) _ (s_ok_pour0 h hi hk q)
      · rename_i q2; exact s_ok_unp h hi hk q q2
end SOK
end
section
section CIP
variable {G : zG} {u : sS} {x : Nat} {P RA VA : Nat → Nat} {pa sp ln rf sb : Nat} {C : zM}
theorem CI_P (h : CI G u x P RA VA pa sp ln rf sb C) {i : Nat} (hi : i < 6) : C (P i) = some (cPn (RA (p_ro (s_pn u i))) (p_sa (s_pn u i)) (p_cp (s_pn u i)) (p_po (s_pn u i)) (p_li (s_pn u i)) (p_mk (s_pn u i)) (p_rd (s_pn u i))) := h.2.2.1 i hi
theorem CI_RA (h : CI G u x P RA VA pa sp ln rf sb C) {r : Nat} (hr : r < s_nr u) : C (RA r) = some (cRw (VA r)) := h.2.2.2.2.1 r hr
theorem CI_VA (h : CI G u x P RA VA pa sp ln rf sb C) {r : Nat} (hr : r < s_nr u) : C (VA r) = some (aI G (s_ln u r) (s_vl u r)) := h.2.2.2.2.2.1 r hr
theorem CI_rf (h : CI G u x P RA VA pa sp ln rf sb C) : C rf = some (aI G 6 (s_td u)) := h.2.2.2.2.2.2.1
theorem CI_ln (h : CI G u x P RA VA pa sp ln rf sb C) : C ln = some (cLn sb) := h.2.2.2.2.2.2.2.1
theorem CI_pa (h : CI G u x P RA VA pa sp ln rf sb C) : ∃ fp : Nat → Option Nat, C pa = some (aP G 6 fp) ∧ ∀ i, i < 6 → fp i = some (P i) := h.2.1
theorem CI_sp' (h : CI G u x P RA VA pa sp ln rf sb C) : ∃ (o9 : Nat) (p9 : sP), C sp = some (cPx o9 p9) := h.2.2.2.1
theorem CI_nF (h : CI G u x P RA VA pa sp ln rf sb C) {r : Nat} (hr : r < s_nr u) : VA r ≠ rf := h.2.2.2.2.2.2.2.2.2.2.2.2.2 r hr
theorem a_X3_tryPut (l : Launch) (h : CI G u x P RA VA pa sp ln rf sb C) {t : Nat} (hok : s_ok t u) {i : Nat} (hi : i < 6) (v : Int32) : z_Mi l G qX3_tryPut (z_rm 6 0 0) [.ref x, .ref (P i), .int v] C (fun r M' => ((s_put1 u i v).1 = 0 ∧ r = 1 ∨ ¬ (s_put1 u i v).1 = 0 ∧ r = 0) ∧ CI G (s_put1 u i v).2 x P RA VA pa sp ln rf sb M') := by
  refine z_Mi_mono (c_X3_tryPut l G h.1 (CI_rf h) (CI_P h hi) (CI_RA h (s_row hok hi)) (CI_VA h (s_row hok hi)) (CI_nF h (s_row hok hi)) (s_ow hok hi)) ?_
  rintro r M' (⟨c1, c2, hr9, rfl⟩ | ⟨c1, c2, hr9, rfl⟩ | ⟨c1, hr9, rfl⟩)
  · have e : s_put1 u i v = (0, s_up (s_wr u (p_ro (s_pn u i)) (p_at (s_pn u i) (p_po (s_pn u i))) v) i (p_po' (s_pn u i) (p_po (s_pn u i) + 1))) := by
      unfold s_put1
      rw [if_neg ((s_rdn hok hi).mp c1), if_neg (fun q => ((s_left' hok hi).mp q) c2)]
    rw [e]
    exact ⟨Or.inl ⟨rfl, hr9⟩, CI_pn (CI_wr h (s_row hok hi) _ _) hi (p_po' (s_pn u i) (p_po (s_pn u i) + 1))⟩
  · have e : s_put1 u i v = (1, s_tel u 1) := by
      unfold s_put1
      rw [if_neg ((s_rdn hok hi).mp c1), if_pos ((s_left' hok hi).mpr c2)]
    rw [e]
    exact ⟨Or.inr ⟨by show ¬ (1 : Int32) = 0; decide, hr9⟩, CI_td h _⟩
  · have e : s_put1 u i v = (4, s_tel u 4) := by
      unfold s_put1
      rw [if_pos ((s_rdn' hok hi).mpr c1)]
    rw [e]
    exact ⟨Or.inr ⟨by show ¬ (4 : Int32) = 0; decide, hr9⟩, CI_td h _⟩
theorem a_X1_takeNext (l : Launch) (h : CI G u x P RA VA pa sp ln rf sb C) {t : Nat} (hok : s_ok t u) {i : Nat} (hi : i < 6) (hl : ¬ p_li (s_pn u i) - p_po (s_pn u i) = 0) : z_Mi l G qX1_takeNext (z_rm 4 0 0) [.ref (P i)] C (fun r M' => r = s_val u (s_pn u i) (p_po (s_pn u i)) ∧ CI G (s_up u i (p_po' (s_pn u i) (p_po (s_pn u i) + 1))) x P RA VA pa sp ln rf sb M') := by
  refine z_Mi_mono (c_X1_takeNext l G (CI_P h hi) (CI_RA h (s_row hok hi)) (CI_VA h (s_row hok hi)) (s_inP hok hi hl) (z_owN (s_ow hok hi))) ?_
  rintro r M' ⟨hr9, rfl⟩
  exact ⟨hr9, CI_pn h hi (p_po' (s_pn u i) (p_po (s_pn u i) + 1))⟩
theorem a_X1_moveTo (l : Launch) (h : CI G u x P RA VA pa sp ln rf sb C) {i : Nat} (hi : i < 6) (y : Int32) : z_Mv l G qX1_moveTo (z_rm 1 0 0) [.ref (P i), .int y] C (fun M' => CI G (s_up u i (p_mv (s_pn u i) y)) x P RA VA pa sp ln rf sb M') := by
  refine z_Mv_mono (c_X1_moveTo l G (CI_P h hi)) ?_
  rintro M' (⟨c, rfl⟩ | ⟨c, rfl⟩)
  · have e : p_mv (s_pn u i) y = (p_ro (s_pn u i), p_sa (s_pn u i), p_cp (s_pn u i), y, p_li (s_pn u i), p_mk (s_pn u i), p_rd (s_pn u i)) := by unfold p_mv; rw [if_pos c]
    rw [e]
    exact CI_pn h hi _
  · have e : p_mv (s_pn u i) y = (p_ro (s_pn u i), p_sa (s_pn u i), p_cp (s_pn u i), y, p_li (s_pn u i), -1, p_rd (s_pn u i)) := by unfold p_mv; rw [if_neg c]
    rw [e]
    exact CI_pn h hi _
theorem a_X1_replace (l : Launch) (h : CI G u x P RA VA pa sp ln rf sb C) {t : Nat} (hok : s_ok t u) {i : Nat} (hi : i < 6) {y : Int32} (v : Int32) (hy : vp_in (p_sa (s_pn u i) + y) (s_ln u (p_ro (s_pn u i)))) : z_Mi l G qX1_replace (z_rm 3 0 0) [.ref (P i), .int y, .int v] C (fun _ M' => CI G (s_wr u (p_ro (s_pn u i)) (p_at (s_pn u i) y) v) x P RA VA pa sp ln rf sb M') := by
  refine z_Mi_mono (c_X1_replace l G (CI_P h hi) (CI_RA h (s_row hok hi)) (CI_VA h (s_row hok hi)) hy (z_owN (s_ow hok hi))) ?_
  rintro r M' ⟨hr9, rfl⟩
  exact CI_wr h (s_row hok hi) _ _
theorem a_X1_valueAt (l : Launch) (h : CI G u x P RA VA pa sp ln rf sb C) {t : Nat} (hok : s_ok t u) {i : Nat} (hi : i < 6) {y : Int32} (hy : vp_in (p_sa (s_pn u i) + y) (s_ln u (p_ro (s_pn u i)))) : z_Mi l G qX1_valueAt (z_rm 3 0 0) [.ref (P i), .int y] C (fun r M' => r = s_val u (s_pn u i) y ∧ M' = C) := c_X1_valueAt l G (CI_P h hi) (CI_RA h (s_row hok hi)) (CI_VA h (s_row hok hi)) hy (z_owN (s_ow hok hi))
end CIP
theorem s_up_up (u : sS) (i : Nat) (p q : sP) : s_up (s_up u i p) i q = s_up u i q := by
  have e : (fun j => if j = i then q else (if j = i then p else s_pn u j)) = (fun j => if j = i then q else s_pn u j) := by
    funext j
    by_cases h : j = i
    · rw [if_pos h, if_pos h]
    · rw [if_neg h, if_neg h, if_neg h]
  show (s_nr u, s_ln u, s_vl u, (fun j => if j = i then q else (if j = i then p else s_pn u j)), s_ac u, s_kn u, s_td u) = _
  rw [e]
  rfl
abbrev s_mvd (u : sS) (i j : Nat) : sS := s_up u i (p_po' (s_pn u i) (p_po (s_pn u i) + nI j))
theorem s_nxt (u : sS) (i j : Nat) : s_up (s_mvd u i j) i (p_po' (s_pn (s_mvd u i j) i) (p_po (s_pn (s_mvd u i j) i) + 1)) = s_mvd u i (j + 1) := by
  rw [s_up_up, s_up_s]
  show s_up u i (p_po' (s_pn u i) (p_po (s_pn u i) + nI j + 1)) = _
  rw [z_pS]
theorem s_mvd0 (u : sS) (i : Nat) : s_mvd u i 0 = u := by
  have e : (fun j => if j = i then p_po' (s_pn u i) (p_po (s_pn u i) + nI 0) else s_pn u j) = s_pn u := by
    funext j
    by_cases h : j = i
    · subst h; rw [if_pos rfl, z_p0]; rfl
    · rw [if_neg h]
  show (s_nr u, s_ln u, s_vl u, (fun j => if j = i then p_po' (s_pn u i) (p_po (s_pn u i) + nI 0) else s_pn u j), s_ac u, s_kn u, s_td u) = _
  rw [e]
section MVD
variable {t : Nat} {u : sS} {i j : Nat}
theorem s_mvl (h : s_ok t u) (hi : i < 6) (hj : (j : Int) ≤ (p_li (s_pn u i) - p_po (s_pn u i)).toInt) : (p_po (s_pn u i) + nI j).toInt = (p_po (s_pn u i)).toInt + j ∧ (p_li (s_pn u i) - (p_po (s_pn u i) + nI j)).toInt = (p_li (s_pn u i)).toInt - (p_po (s_pn u i)).toInt - j := by
  have h1 := s_pos0 h hi
  have h2 := s_lo h hi
  rw [h1.2.2] at hj
  have ej : (nI j).toInt = j := nI_T (by omega)
  have e : (p_po (s_pn u i) + nI j).toInt = (p_po (s_pn u i)).toInt + j := by rw [fb_addI (by omega) (by omega), ej]
  refine ⟨e, ?_⟩
  rw [fb_subI (by omega) (by omega), e]
  omega
theorem s_ok_mvd (h : s_ok t u) (hi : i < 6) (hj : (j : Int) ≤ (p_li (s_pn u i) - p_po (s_pn u i)).toInt) : s_ok t (s_mvd u i j) := by
  have h1 := s_pos0 h hi
  have h3 := s_mvl h hi hj
  rw [h1.2.2] at hj
  have h4 := (s_pk h hi).2.2.1
  exact s_ok_up h i (pok_po (s_pk h hi) (by omega) (by omega) (by omega))
theorem s_mvn (h : s_ok t u) (hi : i < 6) (hj : (j : Int) ≤ (p_li (s_pn u i) - p_po (s_pn u i)).toInt) (hl : ¬ p_li (s_pn u i) - (p_po (s_pn u i) + nI j) ≤ 0) : ((j + 1 : Nat) : Int) ≤ (p_li (s_pn u i) - p_po (s_pn u i)).toInt ∧ ¬ p_li (s_pn (s_mvd u i j) i) - p_po (s_pn (s_mvd u i j) i) = 0 := by
  have h1 := s_pos0 h hi
  have h3 := s_mvl h hi hj
  rw [z_le, z_t0, h3.2] at hl
  rw [h1.2.2]
  refine ⟨by omega, ?_⟩
  rw [s_up_s]
  show ¬ p_li (s_pn u i) - (p_po (s_pn u i) + nI j) = 0
  rw [z_eqI, z_t0, h3.2]
  omega
theorem s_mve (h : s_ok t u) (hi : i < 6) (hj : (j : Int) ≤ (p_li (s_pn u i) - p_po (s_pn u i)).toInt) (hl : p_li (s_pn u i) - (p_po (s_pn u i) + nI j) ≤ 0) : nI j = p_li (s_pn u i) - p_po (s_pn u i) := by
  have h1 := s_pos0 h hi
  have h2 := s_lo h hi
  have h3 := s_mvl h hi hj
  rw [z_le, z_t0, h3.2] at hl
  rw [h1.2.2] at hj
  rw [z_eqI, nI_T (by omega), h1.2.2]
  omega
end MVD
section PKI
variable {t : Nat} {u : sS} {i j mq : Nat}
theorem s_pkI (h : s_ok t u) (hi : i < 6) (hl : p_li (s_pn u i) - p_po (s_pn u i) = nI mq) (hmb : mq ≤ 16) (hj : j < mq) : vp_in (p_sa (s_pn u i) + nI j) (s_ln u (p_ro (s_pn u i))) ∧ vp_in (p_sa (s_pn u i) + (p_po (s_pn u i) + nI j)) (s_ln u (p_ro (s_pn u i))) := by
  have h1 := s_pos0 h hi
  have h2 := s_lo h hi
  have h3 := h1.2.2
  rw [hl, nI_T (by omega)] at h3
  have ej : (nI j).toInt = j := nI_T (by omega)
  have e : (p_po (s_pn u i) + nI j).toInt = (p_po (s_pn u i)).toInt + j := by rw [fb_addI (by omega) (by omega), ej]
  have h4 := (s_ow h hi).2.2.2.1
  exact ⟨z_owI (s_ow h hi) (by omega) (by omega), z_owI (s_ow h hi) (by omega) (by omega)⟩
theorem s_pkM (h : s_ok t u) (hi : i < 6) : p_li (s_pn u i) - p_po (s_pn u i) = nI (p_li (s_pn u i) - p_po (s_pn u i)).toNatClampNeg ∧ (p_li (s_pn u i) - p_po (s_pn u i)).toNatClampNeg ≤ 16 := by
  have h1 := s_pos0 h hi
  have h2 := s_lo h hi
  have h3 := z_cl (x := p_li (s_pn u i) - p_po (s_pn u i)) (by rw [z_le, z_t0]; omega)
  refine ⟨?_, by omega⟩
  rw [z_eqI, nI_toInt (by omega)]
  omega
end PKI
theorem dX3_pourOne_0 : decode cX3_pourOne 0 = .ok (.aload_n 1, 1) := by decide +kernel
theorem dX3_pourOne_1 : decode cX3_pourOne 1 = .ok (.invokevirtual 155, 3) := by decide +kernel
theorem dX3_pourOne_4 : decode cX3_pourOne 4 = .ok (.istore_n 3, 1) := by decide +kernel
theorem dX3_pourOne_5 : decode cX3_pourOne 5 = .ok (.aload_n 0, 1) := by decide +kernel
theorem dX3_pourOne_6 : decode cX3_pourOne 6 = .ok (.aload_n 2, 1) := by decide +kernel
theorem dX3_pourOne_7 : decode cX3_pourOne 7 = .ok (.iload_n 3, 1) := by decide +kernel
theorem dX3_pourOne_8 : decode cX3_pourOne 8 = .ok (.invokevirtual 119, 3) := by decide +kernel
theorem dX3_pourOne_11 : decode cX3_pourOne 11 = .ok (.ifCond .eq 5, 3) := by decide +kernel
theorem dX3_pourOne_14 : decode cX3_pourOne 14 = .ok (.iconst 1, 1) := by decide +kernel
theorem dX3_pourOne_15 : decode cX3_pourOne 15 = .ok (.ireturn, 1) := by decide +kernel
theorem dX3_pourOne_16 : decode cX3_pourOne 16 = .ok (.aload_n 1, 1) := by decide +kernel
theorem dX3_pourOne_17 : decode cX3_pourOne 17 = .ok (.aload_n 1, 1) := by decide +kernel
theorem dX3_pourOne_18 : decode cX3_pourOne 18 = .ok (.getfield 60, 3) := by decide +kernel
theorem dX3_pourOne_21 : decode cX3_pourOne 21 = .ok (.iconst 1, 1) := by decide +kernel
theorem dX3_pourOne_22 : decode cX3_pourOne 22 = .ok (.isub, 1) := by decide +kernel
theorem dX3_pourOne_23 : decode cX3_pourOne 23 = .ok (.invokevirtual 97, 3) := by decide +kernel
theorem dX3_pourOne_26 : decode cX3_pourOne 26 = .ok (.iconst 0, 1) := by decide +kernel
theorem dX3_pourOne_27 : decode cX3_pourOne 27 = .ok (.ireturn, 1) := by decide +kernel
theorem dX3_fill_0 : decode cX3_fill 0 = .ok (.aload_n 0, 1) := by decide +kernel
theorem dX3_fill_1 : decode cX3_fill 1 = .ok (.iload_n 1, 1) := by decide +kernel
theorem dX3_fill_2 : decode cX3_fill 2 = .ok (.invokevirtual 49, 3) := by decide +kernel
theorem dX3_fill_5 : decode cX3_fill 5 = .ok (.astore 5, 2) := by decide +kernel
theorem dX3_fill_7 : decode cX3_fill 7 = .ok (.iload_n 2, 1) := by decide +kernel
theorem dX3_fill_8 : decode cX3_fill 8 = .ok (.iconst 0, 1) := by decide +kernel
theorem dX3_fill_9 : decode cX3_fill 9 = .ok (.ldc 134, 2) := by decide +kernel
theorem dX3_fill_11 : decode cX3_fill 11 = .ok (.invokestatic 53, 3) := by decide +kernel
theorem dX3_fill_14 : decode cX3_fill 14 = .ok (.iload_n 3, 1) := by decide +kernel
theorem dX3_fill_15 : decode cX3_fill 15 = .ok (.iconst 0, 1) := by decide +kernel
theorem dX3_fill_16 : decode cX3_fill 16 = .ok (.ldc 134, 2) := by decide +kernel
theorem dX3_fill_18 : decode cX3_fill 18 = .ok (.invokestatic 53, 3) := by decide +kernel
theorem dX3_fill_21 : decode cX3_fill 21 = .ok (.iload 4, 2) := by decide +kernel
theorem dX3_fill_23 : decode cX3_fill 23 = .ok (.iconst 0, 1) := by decide +kernel
theorem dX3_fill_24 : decode cX3_fill 24 = .ok (.bipush 20, 2) := by decide +kernel
theorem dX3_fill_26 : decode cX3_fill 26 = .ok (.invokestatic 53, 3) := by decide +kernel
theorem dX3_fill_29 : decode cX3_fill 29 = .ok (.iconst 0, 1) := by decide +kernel
theorem dX3_fill_30 : decode cX3_fill 30 = .ok (.istore 6, 2) := by decide +kernel
theorem dX3_fill_32 : decode cX3_fill 32 = .ok (.iload 6, 2) := by decide +kernel
theorem dX3_fill_34 : decode cX3_fill 34 = .ok (.iload 4, 2) := by decide +kernel
theorem dX3_fill_36 : decode cX3_fill 36 = .ok (.if_icmp .ge 24, 3) := by decide +kernel
theorem dX3_fill_39 : decode cX3_fill 39 = .ok (.aload_n 0, 1) := by decide +kernel
theorem dX3_fill_40 : decode cX3_fill 40 = .ok (.aload 5, 2) := by decide +kernel
theorem dX3_fill_42 : decode cX3_fill 42 = .ok (.iload_n 2, 1) := by decide +kernel
theorem dX3_fill_43 : decode cX3_fill 43 = .ok (.iload 6, 2) := by decide +kernel
theorem dX3_fill_45 : decode cX3_fill 45 = .ok (.iload_n 3, 1) := by decide +kernel
theorem dX3_fill_46 : decode cX3_fill 46 = .ok (.imul, 1) := by decide +kernel
theorem dX3_fill_47 : decode cX3_fill 47 = .ok (.iadd, 1) := by decide +kernel
theorem dX3_fill_48 : decode cX3_fill 48 = .ok (.invokevirtual 119, 3) := by decide +kernel
theorem dX3_fill_51 : decode cX3_fill 51 = .ok (.ifCond .eq 9, 3) := by decide +kernel
theorem dX3_fill_54 : decode cX3_fill 54 = .ok (.iinc 6 1, 3) := by decide +kernel
theorem dX3_fill_57 : decode cX3_fill 57 = .ok (.goto (-25), 3) := by decide +kernel
theorem dX3_fill_60 : decode cX3_fill 60 = .ok (.aload_n 0, 1) := by decide +kernel
theorem dX3_fill_61 : decode cX3_fill 61 = .ok (.iload 6, 2) := by decide +kernel
theorem dX3_fill_63 : decode cX3_fill 63 = .ok (.invokevirtual 66, 3) := by decide +kernel
theorem dX3_fill_66 : decode cX3_fill 66 = .ok (.ireturn, 1) := by decide +kernel
theorem dX3_drain_0 : decode cX3_drain 0 = .ok (.aload_n 0, 1) := by decide +kernel
theorem dX3_drain_1 : decode cX3_drain 1 = .ok (.iload_n 1, 1) := by decide +kernel
theorem dX3_drain_2 : decode cX3_drain 2 = .ok (.invokevirtual 49, 3) := by decide +kernel
theorem dX3_drain_5 : decode cX3_drain 5 = .ok (.astore_n 3, 1) := by decide +kernel
theorem dX3_drain_6 : decode cX3_drain 6 = .ok (.iload_n 2, 1) := by decide +kernel
theorem dX3_drain_7 : decode cX3_drain 7 = .ok (.iconst 0, 1) := by decide +kernel
theorem dX3_drain_8 : decode cX3_drain 8 = .ok (.bipush 20, 2) := by decide +kernel
theorem dX3_drain_10 : decode cX3_drain 10 = .ok (.invokestatic 53, 3) := by decide +kernel
theorem dX3_drain_13 : decode cX3_drain 13 = .ok (.iconst 0, 1) := by decide +kernel
theorem dX3_drain_14 : decode cX3_drain 14 = .ok (.istore 4, 2) := by decide +kernel
theorem dX3_drain_16 : decode cX3_drain 16 = .ok (.iload 4, 2) := by decide +kernel
theorem dX3_drain_18 : decode cX3_drain 18 = .ok (.iload_n 2, 1) := by decide +kernel
theorem dX3_drain_19 : decode cX3_drain 19 = .ok (.if_icmp .ge 21, 3) := by decide +kernel
theorem dX3_drain_22 : decode cX3_drain 22 = .ok (.aload_n 3, 1) := by decide +kernel
theorem dX3_drain_23 : decode cX3_drain 23 = .ok (.invokevirtual 74, 3) := by decide +kernel
theorem dX3_drain_26 : decode cX3_drain 26 = .ok (.ifCond .le 14, 3) := by decide +kernel
theorem dX3_drain_29 : decode cX3_drain 29 = .ok (.aload_n 3, 1) := by decide +kernel
theorem dX3_drain_30 : decode cX3_drain 30 = .ok (.invokevirtual 155, 3) := by decide +kernel
theorem dX3_drain_33 : decode cX3_drain 33 = .ok (.pop, 1) := by decide +kernel
theorem dX3_drain_34 : decode cX3_drain 34 = .ok (.iinc 4 1, 3) := by decide +kernel
theorem dX3_drain_37 : decode cX3_drain 37 = .ok (.goto (-21), 3) := by decide +kernel
theorem dX3_drain_40 : decode cX3_drain 40 = .ok (.iload 4, 2) := by decide +kernel
theorem dX3_drain_42 : decode cX3_drain 42 = .ok (.iload_n 2, 1) := by decide +kernel
theorem dX3_drain_43 : decode cX3_drain 43 = .ok (.if_icmp .ge 9, 3) := by decide +kernel
theorem dX3_drain_46 : decode cX3_drain 46 = .ok (.aload_n 0, 1) := by decide +kernel
theorem dX3_drain_47 : decode cX3_drain 47 = .ok (.iconst 2, 1) := by decide +kernel
theorem dX3_drain_48 : decode cX3_drain 48 = .ok (.invokevirtual 86, 3) := by decide +kernel
theorem dX3_drain_51 : decode cX3_drain 51 = .ok (.pop, 1) := by decide +kernel
theorem dX3_drain_52 : decode cX3_drain 52 = .ok (.aload_n 0, 1) := by decide +kernel
theorem dX3_drain_53 : decode cX3_drain 53 = .ok (.iload 4, 2) := by decide +kernel
theorem dX3_drain_55 : decode cX3_drain 55 = .ok (.invokevirtual 66, 3) := by decide +kernel
theorem dX3_drain_58 : decode cX3_drain 58 = .ok (.ireturn, 1) := by decide +kernel
theorem dX3_pour_0 : decode cX3_pour 0 = .ok (.aload_n 0, 1) := by decide +kernel
theorem dX3_pour_1 : decode cX3_pour 1 = .ok (.iload_n 1, 1) := by decide +kernel
theorem dX3_pour_2 : decode cX3_pour 2 = .ok (.invokevirtual 49, 3) := by decide +kernel
theorem dX3_pour_5 : decode cX3_pour 5 = .ok (.astore 4, 2) := by decide +kernel
theorem dX3_pour_7 : decode cX3_pour 7 = .ok (.aload_n 0, 1) := by decide +kernel
theorem dX3_pour_8 : decode cX3_pour 8 = .ok (.iload_n 2, 1) := by decide +kernel
theorem dX3_pour_9 : decode cX3_pour 9 = .ok (.invokevirtual 49, 3) := by decide +kernel
theorem dX3_pour_12 : decode cX3_pour 12 = .ok (.astore 5, 2) := by decide +kernel
theorem dX3_pour_14 : decode cX3_pour 14 = .ok (.iload_n 3, 1) := by decide +kernel
theorem dX3_pour_15 : decode cX3_pour 15 = .ok (.iconst 0, 1) := by decide +kernel
theorem dX3_pour_16 : decode cX3_pour 16 = .ok (.bipush 20, 2) := by decide +kernel
theorem dX3_pour_18 : decode cX3_pour 18 = .ok (.invokestatic 53, 3) := by decide +kernel
theorem dX3_pour_21 : decode cX3_pour 21 = .ok (.iconst 0, 1) := by decide +kernel
theorem dX3_pour_22 : decode cX3_pour 22 = .ok (.istore 6, 2) := by decide +kernel
theorem dX3_pour_24 : decode cX3_pour 24 = .ok (.iload 6, 2) := by decide +kernel
theorem dX3_pour_26 : decode cX3_pour 26 = .ok (.iload_n 3, 1) := by decide +kernel
theorem dX3_pour_27 : decode cX3_pour 27 = .ok (.if_icmp .ge 28, 3) := by decide +kernel
theorem dX3_pour_30 : decode cX3_pour 30 = .ok (.aload 4, 2) := by decide +kernel
theorem dX3_pour_32 : decode cX3_pour 32 = .ok (.invokevirtual 74, 3) := by decide +kernel
theorem dX3_pour_35 : decode cX3_pour 35 = .ok (.ifCond .le 20, 3) := by decide +kernel
theorem dX3_pour_38 : decode cX3_pour 38 = .ok (.aload_n 0, 1) := by decide +kernel
theorem dX3_pour_39 : decode cX3_pour 39 = .ok (.aload 4, 2) := by decide +kernel
theorem dX3_pour_41 : decode cX3_pour 41 = .ok (.aload 5, 2) := by decide +kernel
theorem dX3_pour_43 : decode cX3_pour 43 = .ok (.invokevirtual 135, 3) := by decide +kernel
theorem dX3_pour_46 : decode cX3_pour 46 = .ok (.ifCond .eq 9, 3) := by decide +kernel
theorem dX3_pour_49 : decode cX3_pour 49 = .ok (.iinc 6 1, 3) := by decide +kernel
theorem dX3_pour_52 : decode cX3_pour 52 = .ok (.goto (-28), 3) := by decide +kernel
theorem dX3_pour_55 : decode cX3_pour 55 = .ok (.aload_n 0, 1) := by decide +kernel
theorem dX3_pour_56 : decode cX3_pour 56 = .ok (.iload 6, 2) := by decide +kernel
theorem dX3_pour_58 : decode cX3_pour 58 = .ok (.invokevirtual 66, 3) := by decide +kernel
theorem dX3_pour_61 : decode cX3_pour 61 = .ok (.ireturn, 1) := by decide +kernel
theorem dX3_pack_0 : decode cX3_pack 0 = .ok (.aload_n 0, 1) := by decide +kernel
theorem dX3_pack_1 : decode cX3_pack 1 = .ok (.iload_n 1, 1) := by decide +kernel
theorem dX3_pack_2 : decode cX3_pack 2 = .ok (.invokevirtual 49, 3) := by decide +kernel
theorem dX3_pack_5 : decode cX3_pack 5 = .ok (.astore_n 2, 1) := by decide +kernel
theorem dX3_pack_6 : decode cX3_pack 6 = .ok (.aload_n 2, 1) := by decide +kernel
theorem dX3_pack_7 : decode cX3_pack 7 = .ok (.getfield 89, 3) := by decide +kernel
theorem dX3_pack_10 : decode cX3_pack 10 = .ok (.ifCond .eq 9, 3) := by decide +kernel
theorem dX3_pack_13 : decode cX3_pack 13 = .ok (.aload_n 0, 1) := by decide +kernel
theorem dX3_pack_14 : decode cX3_pack 14 = .ok (.iconst 4, 1) := by decide +kernel
theorem dX3_pack_15 : decode cX3_pack 15 = .ok (.invokevirtual 86, 3) := by decide +kernel
theorem dX3_pack_18 : decode cX3_pack 18 = .ok (.ireturn, 1) := by decide +kernel
theorem dX3_pack_19 : decode cX3_pack 19 = .ok (.aload_n 2, 1) := by decide +kernel
theorem dX3_pack_20 : decode cX3_pack 20 = .ok (.invokevirtual 74, 3) := by decide +kernel
theorem dX3_pack_23 : decode cX3_pack 23 = .ok (.istore_n 3, 1) := by decide +kernel
theorem dX3_pack_24 : decode cX3_pack 24 = .ok (.iconst 0, 1) := by decide +kernel
theorem dX3_pack_25 : decode cX3_pack 25 = .ok (.istore 4, 2) := by decide +kernel
theorem dX3_pack_27 : decode cX3_pack 27 = .ok (.iload 4, 2) := by decide +kernel
theorem dX3_pack_29 : decode cX3_pack 29 = .ok (.iload_n 3, 1) := by decide +kernel
theorem dX3_pack_30 : decode cX3_pack 30 = .ok (.if_icmp .ge 27, 3) := by decide +kernel
theorem dX3_pack_33 : decode cX3_pack 33 = .ok (.aload_n 2, 1) := by decide +kernel
theorem dX3_pack_34 : decode cX3_pack 34 = .ok (.iload 4, 2) := by decide +kernel
theorem dX3_pack_36 : decode cX3_pack 36 = .ok (.aload_n 2, 1) := by decide +kernel
theorem dX3_pack_37 : decode cX3_pack 37 = .ok (.aload_n 2, 1) := by decide +kernel
theorem dX3_pack_38 : decode cX3_pack 38 = .ok (.getfield 60, 3) := by decide +kernel
theorem dX3_pack_41 : decode cX3_pack 41 = .ok (.iload 4, 2) := by decide +kernel
theorem dX3_pack_43 : decode cX3_pack 43 = .ok (.iadd, 1) := by decide +kernel
theorem dX3_pack_44 : decode cX3_pack 44 = .ok (.invokevirtual 131, 3) := by decide +kernel
theorem dX3_pack_47 : decode cX3_pack 47 = .ok (.invokevirtual 127, 3) := by decide +kernel
theorem dX3_pack_50 : decode cX3_pack 50 = .ok (.pop, 1) := by decide +kernel
theorem dX3_pack_51 : decode cX3_pack 51 = .ok (.iinc 4 1, 3) := by decide +kernel
theorem dX3_pack_54 : decode cX3_pack 54 = .ok (.goto (-27), 3) := by decide +kernel
theorem dX3_pack_57 : decode cX3_pack 57 = .ok (.aload_n 2, 1) := by decide +kernel
theorem dX3_pack_58 : decode cX3_pack 58 = .ok (.aload_n 2, 1) := by decide +kernel
theorem dX3_pack_59 : decode cX3_pack 59 = .ok (.getfield 100, 3) := by decide +kernel
theorem dX3_pack_62 : decode cX3_pack 62 = .ok (.invokevirtual 113, 3) := by decide +kernel
theorem dX3_pack_65 : decode cX3_pack 65 = .ok (.aload_n 2, 1) := by decide +kernel
theorem dX3_pack_66 : decode cX3_pack 66 = .ok (.iload_n 3, 1) := by decide +kernel
theorem dX3_pack_67 : decode cX3_pack 67 = .ok (.putfield 60, 3) := by decide +kernel
theorem dX3_pack_70 : decode cX3_pack 70 = .ok (.aload_n 0, 1) := by decide +kernel
theorem dX3_pack_71 : decode cX3_pack 71 = .ok (.aload_n 2, 1) := by decide +kernel
theorem dX3_pack_72 : decode cX3_pack 72 = .ok (.getfield 60, 3) := by decide +kernel
theorem dX3_pack_75 : decode cX3_pack 75 = .ok (.invokevirtual 66, 3) := by decide +kernel
theorem dX3_pack_78 : decode cX3_pack 78 = .ok (.ireturn, 1) := by decide +kernel
set_option maxRecDepth 20000 in
theorem a_X3_pourOne (l : Launch) {G : zG} {u : sS} {x : Nat} {P RA VA : Nat → Nat} {pa sp ln rf sb : Nat} {Mw : zM} (hC : CI G u x P RA VA pa sp ln rf sb Mw) {t : Nat} (hok : s_ok t u) {i k : Nat} (hi : i < 6) (hk : k < 6) (hl : ¬ p_li (s_pn u i) - p_po (s_pn u i) = 0) : z_Mi l G qX3_pourOne (z_rm 7 0 0) [.ref x, .ref (P i), .ref (P k)] Mw (fun r M' => ((s_pour0 u i k).1 = 0 ∧ r = 1 ∧ CI G (s_pour0 u i k).2 x P RA VA pa sp ln rf sb M') ∨ (¬ (s_pour0 u i k).1 = 0 ∧ r = 0 ∧ CI G (s_unp (s_pour0 u i k).2 i) x P RA VA pa sp ln rf sb M'))  := by
  refine z_Mi_of _ (plainFor_of_name rfl) rfl (Nat.le_of_ble_eq_true rfl) (fun X hl hG hnm C ret => ?_)
  subst hl; subst hG
  have C : z_C X cX3_pourOne RX3 4 (z_rm 7 0 0) := C
  show z_W X Mw 0 0 0 [(0, .ref x), (1, .ref (P i)), (2, .ref (P k))] []
  refine z_aload_n C dX3_pourOne_0 rfl 1 rfl ?_
  refine z_callVi (rest := []) (k' := 0) (n' := 0) C (a_X1_takeNext (z_l X) hC hok hi hl) (cs_X3_155 C (by decide)) (CI_P hC hi) rfl rfl rfl rfl (Nat.le_of_ble_eq_true rfl) rfl rfl (by decide) (by decide) dX3_pourOne_1 (fun x1 Mq1 hq => ?_)
  obtain ⟨e1, hC1⟩ := hq
  rw [e1]
  refine z_istore_n (lv' := [(3, .int (s_val u (s_pn u i) (p_po (s_pn u i)))), (0, .ref x), (1, .ref (P i)), (2, .ref (P k))]) C dX3_pourOne_4 rfl (by decide) rfl ?_
  refine z_aload_n C dX3_pourOne_5 rfl 1 rfl ?_
  refine z_aload_n C dX3_pourOne_6 rfl 3 rfl ?_
  refine z_iload_n C dX3_pourOne_7 rfl 0 rfl ?_
  refine z_callVi (rest := []) (k' := 0) (n' := 0) C (a_X3_tryPut (z_l X) hC1 (s_ok_nx hok hi hl) hk _) (cs_X3_119 C (by decide)) hC1.1 rfl rfl rfl rfl (Nat.le_of_ble_eq_true rfl) rfl rfl (by decide) (by decide) dX3_pourOne_8 (fun x8 Mq8 hq => ?_)
  obtain ⟨⟨c8, e8⟩ | ⟨c8, e8⟩, hC8⟩ := hq
  · rw [e8]
    refine z_if_eq C (tgt := 16) dX3_pourOne_11 (by decide) (fun c11 => absurd c11 (by decide)) (fun _ => ?_)
    refine z_iconst C (v := 1) dX3_pourOne_14 (by decide) ?_
    refine ret dX3_pourOne_15 rfl ?_ (by decide) (by decide)
    exact Or.inl ⟨c8, rfl, hC8⟩
  · rw [e8]
    refine z_if_eq C (tgt := 16) dX3_pourOne_11 (by decide) (fun _ => ?_) (fun c11 => absurd (by decide) c11)
    refine z_aload_n C dX3_pourOne_16 rfl 2 rfl ?_
    refine z_aload_n C dX3_pourOne_17 rfl 2 rfl ?_
    refine gf_X3_60 C (CI_P hC8 hi) dX3_pourOne_18 ?_
    refine z_iconst C (v := 1) dX3_pourOne_21 (by decide) ?_
    refine z_isub C dX3_pourOne_22 ?_
    refine z_callVv (rest := []) (k' := 0) (n' := 0) C (a_X1_moveTo (z_l X) hC8 hi _) (cs_X3_97 C (by decide)) (CI_P hC8 hi) rfl rfl rfl rfl (Nat.le_of_ble_eq_true rfl) rfl rfl (by decide) (by decide) dX3_pourOne_23 (fun Mq23 hq => ?_)
    refine z_iconst C (v := 0) dX3_pourOne_26 (by decide) ?_
    refine ret dX3_pourOne_27 rfl ?_ (by decide) (by decide)
    exact Or.inr ⟨c8, rfl, hq⟩
set_option maxRecDepth 20000 in
theorem lp_X3_fill {X : zX} (C : z_C X cX3_fill RX3 7 (z_rm 12 8 48)) {x : Nat} {P RA VA : Nat → Nat} {pa sp ln rf sb : Nat} {t : Nat} {kc ks : Nat} (hkc : kc ≤ 8) (hks : ks ≤ 48) {i : Nat} (hi : i < 6) {a b pane many : Int32} (hv : ∀ k, k < 20 → 0 ≤ (a + nI k * b).toInt) {mn : Nat} (hmn : many = nI mn) (hmb : mn ≤ 20) {res : Nat × sS} (kk : ∀ M', CI (z_G X) res.2 x P RA VA pa sp ln rf sb M' → z_W X M' kc ks 60 [(6, .int (nI res.1)), (5, .ref (P i)), (0, .ref x), (1, .int pane), (2, .int a), (3, .int b), (4, .int many)] []) : ∀ (d j : Nat) (u : sS) (Mw : zM), j + d = mn → s_ok t u → CI (z_G X) u x P RA VA pa sp ln rf sb Mw → s_fill1 i a b d j u = res → z_W X Mw kc ks 32 [(6, .int (nI j)), (5, .ref (P i)), (0, .ref x), (1, .int pane), (2, .int a), (3, .int b), (4, .int many)] [] := by
  intro d
  induction d with
  | zero =>
    intro j u Mw hj hok hC hres
    refine z_iload C dX3_fill_32 0 rfl ?_
    refine z_iload C dX3_fill_34 6 rfl ?_
    refine z_icmp_ge C (tgt := 60) dX3_fill_36 (by decide) (fun _ => ?_) (fun c36 => absurd (by rw [hmn]; exact nI_le (by omega) (by omega)) c36)
    subst hres
    exact kk _ hC
  | succ d ih =>
    intro j u Mw hj hok hC hres
    refine z_iload C dX3_fill_32 0 rfl ?_
    refine z_iload C dX3_fill_34 6 rfl ?_
    refine z_icmp_ge C (tgt := 60) dX3_fill_36 (by decide) (fun c36 => absurd c36 (by rw [hmn]; exact nI_ge (by omega) (by omega))) (fun _ => ?_)
    refine z_aload_n C dX3_fill_39 rfl 2 rfl ?_
    refine z_aload C dX3_fill_40 1 rfl ?_
    refine z_iload_n C dX3_fill_42 rfl 4 rfl ?_
    refine z_iload C dX3_fill_43 0 rfl ?_
    refine z_iload_n C dX3_fill_45 rfl 5 rfl ?_
    refine z_imul C dX3_fill_46 ?_
    refine z_iadd C dX3_fill_47 ?_
    refine z_callVi (rest := []) (k' := kc) (n' := ks) C (a_X3_tryPut (z_l X) hC hok hi _) (cs_X3_119 C (by decide)) hC.1 rfl rfl rfl rfl (Nat.le_of_ble_eq_true rfl) rfl rfl hkc hks dX3_fill_48 (fun x48 Mq48 hq => ?_)
    obtain ⟨⟨c48, e48⟩ | ⟨c48, e48⟩, hC48⟩ := hq
    · rw [e48]
      refine z_if_eq C (tgt := 60) dX3_fill_51 (by decide) (fun c51 => absurd c51 (by decide)) (fun _ => ?_)
      refine z_iinc (v := nI (j + 1)) (lv' := [(6, .int (nI (j + 1))), (5, .ref (P i)), (0, .ref x), (1, .int pane), (2, .int a), (3, .int b), (4, .int many)]) C dX3_fill_54 0 rfl (nI_1 j) (by decide) rfl ?_
      refine z_goto C (tgt := 32) dX3_fill_57 (by decide) ?_
      exact ih (j + 1) _ _ (by omega) (s_ok_put1 hok hi (hv j (by omega))) hC48 (by rw [s_fill1, if_pos c48] at hres; exact hres)
    · rw [e48]
      refine z_if_eq C (tgt := 60) dX3_fill_51 (by decide) (fun _ => ?_) (fun c51 => absurd (by decide) c51)
      rw [s_fill1, if_neg c48] at hres
      subst hres
      exact kk _ hC48
set_option maxRecDepth 20000 in
theorem c_X3_fill_bad (l : Launch) (G : zG) (h_st : l.stackTraces = false) {M : zM} {x : Nat} {pane : Int32} {fi : Int32} {stp : Int32} {many : Int32} {lr : Nat} {pa : Nat} {sp : Nat} {ln : Nat} {rf : Nat} {ac : Int32} {kn : Int32} {fp : Nat → Option Nat}  (h_x : M x = some (cMp lr pa sp ln rf ac kn)) (h_pa : M pa = some (aP G 6 fp)) (h_ip : ¬ vp_in pane 6) : z_Xi l G qX3_fill (z_rm 12 8 48) [.ref x, .int pane, .int fi, .int stp, .int many] M (fun r M' => False) (fun E M' => ((pane < 0) ∧ E = "java/lang/IndexOutOfBoundsException" ∧ M' = M) ∨ ((¬ pane < 0) ∧ E = "java/lang/IndexOutOfBoundsException" ∧ M' = M)) := by
  refine z_Xi_of _ _ h_st rfl rfl (Nat.le_of_ble_eq_true rfl) (fun X hl hG C ret thr prp => ?_)
  subst hl; subst hG
  have C : z_C X cX3_fill RX3 7 (z_rm 12 8 48) := C
  show z_W X M 0 0 0 [(0, .ref x), (1, .int pane), (2, .int fi), (3, .int stp), (4, .int many)] []
  refine z_aload_n C dX3_fill_0 rfl 0 rfl ?_
  refine z_iload_n C dX3_fill_1 rfl 1 rfl ?_
  refine z_callXVr (rest := []) (k' := 1) (n' := 6) C (c_X3_paneOf_bad (z_l X) (z_G X) h_st h_x h_pa h_ip) (cs_X3_49 C (by decide)) h_x rfl rfl rfl rfl (Nat.le_of_ble_eq_true rfl) rfl rfl (by decide) (by decide) dX3_fill_2 (fun E M' hq => ?_) (fun x2 M' hq => ?_)
  · obtain ⟨cx2_0, rfl, rfl⟩ | ⟨cx2_0, rfl, rfl⟩ := hq
    · exact prp (Or.inl ⟨cx2_0, rfl, rfl⟩) (by decide) (by decide)
    · exact prp (Or.inr (⟨cx2_0, rfl, rfl⟩)) (by decide) (by decide)
  · skip
    exact hq.elim
set_option maxRecDepth 20000 in
theorem g_X3_fill (l : Launch) (h_st : l.stackTraces = false) {G : zG} {u : sS} {x : Nat} {P RA VA : Nat → Nat} {pa sp ln rf sb : Nat} {Mw : zM} (hC : CI G u x P RA VA pa sp ln rf sb Mw) {t : Nat} (hok : s_ok t u) {pane fi stp many : Int32} (h_ok : z_is pane 0 5 = 1) (h_ip : vp_in pane 6) (hi : pane.toNatClampNeg < 6) : z_Xi l G qX3_fill (z_rm 12 8 48) [.ref x, .int pane, .int fi, .int stp, .int many] Mw (CP G x pa sp ln rf sb (z_lt (z_is pane 0 5) (t_and (z_is fi 0 1000000) (t_and (z_is stp 0 1000000) (z_is many 0 20)))) (s_fill u pane.toNatClampNeg fi stp many)) (CX G x pa sp ln rf sb (z_lt (z_is pane 0 5) (t_and (z_is fi 0 1000000) (t_and (z_is stp 0 1000000) (z_is many 0 20)))) u) := by
  obtain ⟨fp, hpa, hfp⟩ := CI_pa hC
  refine z_Xi_of _ _ h_st rfl rfl (Nat.le_of_ble_eq_true rfl) (fun X hl hG C ret thr prp => ?_)
  subst hl; subst hG
  have C : z_C X cX3_fill RX3 7 (z_rm 12 8 48) := C
  show z_W X Mw 0 0 0 [(0, .ref x), (1, .int pane), (2, .int fi), (3, .int stp), (4, .int many)] []
  refine z_aload_n C dX3_fill_0 rfl 0 rfl ?_
  refine z_iload_n C dX3_fill_1 rfl 1 rfl ?_
  refine z_callXVr (rest := []) (k' := 1) (n' := 6) C (c_X3_paneOf (z_l X) (z_G X) h_st hC.1 hpa (CI_P hC hi) h_ip rfl (hfp _ hi)) (cs_X3_49 C (by decide)) hC.1 rfl rfl rfl rfl (Nat.le_of_ble_eq_true rfl) rfl rfl (by decide) (by decide) dX3_fill_2 (fun E M' hq => ?_) (fun x2 M' hq => ?_)
  · exact hq.elim
  · skip
    obtain ⟨rfl, rfl⟩ := hq
    refine z_astore (lv' := [(5, .ref (P pane.toNatClampNeg)), (0, .ref x), (1, .int pane), (2, .int fi), (3, .int stp), (4, .int many)]) C dX3_fill_5 (by decide) rfl ?_
    refine z_iload_n C dX3_fill_7 rfl 3 rfl ?_
    refine z_iconst C (v := 0) dX3_fill_8 (by decide) ?_
    refine z_ldc C (v := 1000000) kw904 dX3_fill_9 ?_
    refine z_callXSv (rest := []) (k' := 2) (n' := 12) C (c_X3_needWithin (z_l X) (z_G X) h_st) (cs_X3_53 C (by decide)) rfl rfl (Nat.le_of_ble_eq_true rfl) rfl rfl (by decide) (by decide) dX3_fill_11 (fun E M' hq => ?_) (fun M' hq => ?_)
    · obtain ⟨cx11_0, rfl, rfl⟩ := hq
      exact prp (CX_2 (k_2 h_ok (by simp [t_and, cx11_0])) hC) (by decide) (by decide)
    · skip
      obtain ⟨d11_0, rfl⟩ := hq
      refine z_iload_n C dX3_fill_14 rfl 4 rfl ?_
      refine z_iconst C (v := 0) dX3_fill_15 (by decide) ?_
      refine z_ldc C (v := 1000000) kw904 dX3_fill_16 ?_
      refine z_callXSv (rest := []) (k' := 3) (n' := 18) C (c_X3_needWithin (z_l X) (z_G X) h_st) (cs_X3_53 C (by decide)) rfl rfl (Nat.le_of_ble_eq_true rfl) rfl rfl (by decide) (by decide) dX3_fill_18 (fun E M' hq => ?_) (fun M' hq => ?_)
      · obtain ⟨cx18_0, rfl, rfl⟩ := hq
        exact prp (CX_2 (k_2 h_ok (by simp [t_and, d11_0, cx18_0])) hC) (by decide) (by decide)
      · skip
        obtain ⟨d18_0, rfl⟩ := hq
        refine z_iload C dX3_fill_21 5 rfl ?_
        refine z_iconst C (v := 0) dX3_fill_23 (by decide) ?_
        refine z_bipush C (v := 20) dX3_fill_24 (by decide) ?_
        refine z_callXSv (rest := []) (k' := 4) (n' := 24) C (c_X3_needWithin (z_l X) (z_G X) h_st) (cs_X3_53 C (by decide)) rfl rfl (Nat.le_of_ble_eq_true rfl) rfl rfl (by decide) (by decide) dX3_fill_26 (fun E M' hq => ?_) (fun M' hq => ?_)
        · obtain ⟨cx26_0, rfl, rfl⟩ := hq
          exact prp (CX_2 (k_2 h_ok (by simp [t_and, d11_0, d18_0, cx26_0])) hC) (by decide) (by decide)
        · skip
          obtain ⟨d26_0, rfl⟩ := hq
          refine z_iconst C (v := 0) dX3_fill_29 (by decide) ?_
          refine z_istore (lv' := [(6, .int 0), (5, .ref (P pane.toNatClampNeg)), (0, .ref x), (1, .int pane), (2, .int fi), (3, .int stp), (4, .int many)]) C dX3_fill_30 (by decide) rfl ?_
          refine z_at (M' := _) (lv' := [(6, .int (nI 0)), (5, .ref (P pane.toNatClampNeg)), (0, .ref x), (1, .int pane), (2, .int fi), (3, .int stp), (4, .int many)]) rfl (by rw [nI_0]) rfl ?_
          refine lp_X3_fill C (by decide) (by decide) hi (s_fv d11_0 d18_0) (z_rgN d26_0).1 (z_r20 d26_0) (fun Mq9 h9 => ?_) _ 0 u _ (Nat.zero_add _) hok hC rfl
          refine z_aload_n C dX3_fill_60 rfl 2 rfl ?_
          refine z_iload C dX3_fill_61 0 rfl ?_
          refine z_callVi (rest := []) (k' := 4) (n' := 24) C (c_X3_done (z_l X) (z_G X) h9.1) (cs_X3_66 C (by decide)) h9.1 rfl rfl rfl rfl (Nat.le_of_ble_eq_true rfl) rfl rfl (by decide) (by decide) dX3_fill_63 (fun x63 M' hq => ?_)
          obtain ⟨rfl, rfl⟩ := hq
          refine ret dX3_fill_66 rfl ?_ (by decide) (by decide)
          exact CP_ok (v := s_act (s_fill1 pane.toNatClampNeg fi stp many.toNatClampNeg 0 u).2) rfl (z_lt3 h_ok (by simp [t_and, d11_0, d18_0, z_is11 d26_0])) (CI_ak h9 _ _)
theorem a_X3_fill (l : Launch) (h_st : l.stackTraces = false) {G : zG} {u : sS} {x : Nat} {P RA VA : Nat → Nat} {pa sp ln rf sb : Nat} {Mw : zM} (hC : CI G u x P RA VA pa sp ln rf sb Mw) {t : Nat} (hok : s_ok t u) (pane fi stp many : Int32) : z_Xi l G qX3_fill (z_rm 12 8 48) [.ref x, .int pane, .int fi, .int stp, .int many] Mw (CP G x pa sp ln rf sb (z_lt (z_is pane 0 5) (t_and (z_is fi 0 1000000) (t_and (z_is stp 0 1000000) (z_is many 0 20)))) (s_fill u pane.toNatClampNeg fi stp many)) (CX G x pa sp ln rf sb (z_lt (z_is pane 0 5) (t_and (z_is fi 0 1000000) (t_and (z_is stp 0 1000000) (z_is many 0 20)))) u) := by
  obtain ⟨fp, hpa, hfp⟩ := CI_pa hC
  rcases z_pc pane with ⟨h_ok, h_ip, hi⟩ | ⟨h_bad, h_nip⟩
  · exact g_X3_fill l h_st hC hok h_ok h_ip hi
  · refine z_Xi_mono (c_X3_fill_bad l G h_st hC.1 hpa h_nip) (fun r M' h => h.elim) ?_
    rintro E M' (⟨x0_0, rfl, rfl⟩ | ⟨x1_0, rfl, rfl⟩)
    · exact CX_1 (k_1 h_bad) hC
    · exact CX_1 (k_1 h_bad) hC
set_option maxRecDepth 20000 in
theorem lp_X3_drain {X : zX} (C : z_C X cX3_drain RX3 5 (z_rm 12 8 48)) {x : Nat} {P RA VA : Nat → Nat} {pa sp ln rf sb : Nat} {t : Nat} {kc ks : Nat} (hkc : kc ≤ 8) (hks : ks ≤ 48) {i : Nat} (hi : i < 6) {u : sS} (hok : s_ok t u) {pane many : Int32} {mq : Nat} (hmn : many = nI mq) (hmb : mq ≤ 20) (kk1 : ∀ M', (mq : Int) ≤ (p_li (s_pn u i) - p_po (s_pn u i)).toInt → CI (z_G X) (s_mvd u i mq) x P RA VA pa sp ln rf sb M' → z_W X M' kc ks 40 [(4, .int (nI mq)), (3, .ref (P i)), (0, .ref x), (1, .int pane), (2, .int many)] []) (kk2 : ∀ (j : Nat) M', j < mq → nI j = p_li (s_pn u i) - p_po (s_pn u i) → CI (z_G X) (s_mvd u i j) x P RA VA pa sp ln rf sb M' → z_W X M' kc ks 40 [(4, .int (nI j)), (3, .ref (P i)), (0, .ref x), (1, .int pane), (2, .int many)] []) : ∀ (d j : Nat) (Mw : zM), j + d = mq → (j : Int) ≤ (p_li (s_pn u i) - p_po (s_pn u i)).toInt → CI (z_G X) (s_mvd u i j) x P RA VA pa sp ln rf sb Mw → z_W X Mw kc ks 16 [(4, .int (nI j)), (3, .ref (P i)), (0, .ref x), (1, .int pane), (2, .int many)] [] := by
  intro d
  induction d with
  | zero =>
    intro j Mw hj hjl hC
    refine z_iload C dX3_drain_16 0 rfl ?_
    refine z_iload_n C dX3_drain_18 rfl 4 rfl ?_
    refine z_icmp_ge C (tgt := 40) dX3_drain_19 (by decide) (fun _ => ?_) (fun c19 => absurd (by rw [hmn]; exact nI_le (by omega) (by omega)) c19)
    have ejm : j = mq := by omega
    subst ejm
    exact kk1 _ hjl hC
  | succ d ih =>
    intro j Mw hj hjl hC
    refine z_iload C dX3_drain_16 0 rfl ?_
    refine z_iload_n C dX3_drain_18 rfl 4 rfl ?_
    refine z_icmp_ge C (tgt := 40) dX3_drain_19 (by decide) (fun c19 => absurd c19 (by rw [hmn]; exact nI_ge (by omega) (by omega))) (fun _ => ?_)
    refine z_aload_n C dX3_drain_22 rfl 1 rfl ?_
    refine z_callVi (rest := []) (k' := kc) (n' := ks) C (c_X1_left (z_l X) (z_G X) (by have h9 := CI_P hC hi; rw [s_up_s] at h9; exact h9)) (cs_X3_74 C (by decide)) (by have h9 := CI_P hC hi; rw [s_up_s] at h9; exact h9) rfl rfl rfl rfl (Nat.le_of_ble_eq_true rfl) rfl rfl hkc hks dX3_drain_23 (fun x23 M' hq => ?_)
    obtain ⟨rfl, rfl⟩ := hq
    refine z_if_le C (tgt := 40) dX3_drain_26 (by decide) (fun c26 => ?_) (fun c26 => ?_)
    · exact kk2 j _ (by omega) (s_mve hok hi hjl c26) hC
    · refine z_aload_n C dX3_drain_29 rfl 1 rfl ?_
      refine z_callVi (rest := []) (k' := kc) (n' := ks) C (a_X1_takeNext (z_l X) hC (s_ok_mvd hok hi hjl) hi (s_mvn hok hi hjl c26).2) (cs_X3_155 C (by decide)) (by have h9 := CI_P hC hi; rw [s_up_s] at h9; exact h9) rfl rfl rfl rfl (Nat.le_of_ble_eq_true rfl) rfl rfl hkc hks dX3_drain_30 (fun x30 Mq30 hq => ?_)
      obtain ⟨-, hC30⟩ := hq
      rw [s_nxt] at hC30
      refine z_pop C dX3_drain_33 rfl ?_
      refine z_iinc (v := nI (j + 1)) (lv' := [(4, .int (nI (j + 1))), (3, .ref (P i)), (0, .ref x), (1, .int pane), (2, .int many)]) C dX3_drain_34 0 rfl (nI_1 j) (by decide) rfl ?_
      refine z_goto C (tgt := 16) dX3_drain_37 (by decide) ?_
      exact ih (j + 1) _ (by omega) (s_mvn hok hi hjl c26).1 hC30
set_option maxRecDepth 20000 in
theorem c_X3_drain_bad (l : Launch) (G : zG) (h_st : l.stackTraces = false) {M : zM} {x : Nat} {pane : Int32} {many : Int32} {lr : Nat} {pa : Nat} {sp : Nat} {ln : Nat} {rf : Nat} {ac : Int32} {kn : Int32} {fp : Nat → Option Nat}  (h_x : M x = some (cMp lr pa sp ln rf ac kn)) (h_pa : M pa = some (aP G 6 fp)) (h_ip : ¬ vp_in pane 6) : z_Xi l G qX3_drain (z_rm 12 8 48) [.ref x, .int pane, .int many] M (fun r M' => False) (fun E M' => ((pane < 0) ∧ E = "java/lang/IndexOutOfBoundsException" ∧ M' = M) ∨ ((¬ pane < 0) ∧ E = "java/lang/IndexOutOfBoundsException" ∧ M' = M)) := by
  refine z_Xi_of _ _ h_st rfl rfl (Nat.le_of_ble_eq_true rfl) (fun X hl hG C ret thr prp => ?_)
  subst hl; subst hG
  have C : z_C X cX3_drain RX3 5 (z_rm 12 8 48) := C
  show z_W X M 0 0 0 [(0, .ref x), (1, .int pane), (2, .int many)] []
  refine z_aload_n C dX3_drain_0 rfl 0 rfl ?_
  refine z_iload_n C dX3_drain_1 rfl 1 rfl ?_
  refine z_callXVr (rest := []) (k' := 1) (n' := 6) C (c_X3_paneOf_bad (z_l X) (z_G X) h_st h_x h_pa h_ip) (cs_X3_49 C (by decide)) h_x rfl rfl rfl rfl (Nat.le_of_ble_eq_true rfl) rfl rfl (by decide) (by decide) dX3_drain_2 (fun E M' hq => ?_) (fun x2 M' hq => ?_)
  · obtain ⟨cx2_0, rfl, rfl⟩ | ⟨cx2_0, rfl, rfl⟩ := hq
    · exact prp (Or.inl ⟨cx2_0, rfl, rfl⟩) (by decide) (by decide)
    · exact prp (Or.inr (⟨cx2_0, rfl, rfl⟩)) (by decide) (by decide)
  · skip
    exact hq.elim
set_option maxRecDepth 20000 in
theorem g_X3_drain (l : Launch) (h_st : l.stackTraces = false) {G : zG} {u : sS} {x : Nat} {P RA VA : Nat → Nat} {pa sp ln rf sb : Nat} {Mw : zM} (hC : CI G u x P RA VA pa sp ln rf sb Mw) {t : Nat} (hok : s_ok t u) {pane many : Int32} (h_ok : z_is pane 0 5 = 1) (h_ip : vp_in pane 6) (hi : pane.toNatClampNeg < 6) : z_Xi l G qX3_drain (z_rm 12 8 48) [.ref x, .int pane, .int many] Mw (CP G x pa sp ln rf sb (z_lt (z_is pane 0 5) (z_is many 0 20)) (s_drain u pane.toNatClampNeg many)) (CX G x pa sp ln rf sb (z_lt (z_is pane 0 5) (z_is many 0 20)) u) := by
  obtain ⟨fp, hpa, hfp⟩ := CI_pa hC
  refine z_Xi_of _ _ h_st rfl rfl (Nat.le_of_ble_eq_true rfl) (fun X hl hG C ret thr prp => ?_)
  subst hl; subst hG
  have C : z_C X cX3_drain RX3 5 (z_rm 12 8 48) := C
  show z_W X Mw 0 0 0 [(0, .ref x), (1, .int pane), (2, .int many)] []
  refine z_aload_n C dX3_drain_0 rfl 0 rfl ?_
  refine z_iload_n C dX3_drain_1 rfl 1 rfl ?_
  refine z_callXVr (rest := []) (k' := 1) (n' := 6) C (c_X3_paneOf (z_l X) (z_G X) h_st hC.1 hpa (CI_P hC hi) h_ip rfl (hfp _ hi)) (cs_X3_49 C (by decide)) hC.1 rfl rfl rfl rfl (Nat.le_of_ble_eq_true rfl) rfl rfl (by decide) (by decide) dX3_drain_2 (fun E M' hq => ?_) (fun x2 M' hq => ?_)
  · exact hq.elim
  · skip
    obtain ⟨rfl, rfl⟩ := hq
    refine z_astore_n (lv' := [(3, .ref (P pane.toNatClampNeg)), (0, .ref x), (1, .int pane), (2, .int many)]) C dX3_drain_5 rfl (by decide) rfl ?_
    refine z_iload_n C dX3_drain_6 rfl 3 rfl ?_
    refine z_iconst C (v := 0) dX3_drain_7 (by decide) ?_
    refine z_bipush C (v := 20) dX3_drain_8 (by decide) ?_
    refine z_callXSv (rest := []) (k' := 2) (n' := 12) C (c_X3_needWithin (z_l X) (z_G X) h_st) (cs_X3_53 C (by decide)) rfl rfl (Nat.le_of_ble_eq_true rfl) rfl rfl (by decide) (by decide) dX3_drain_10 (fun E M' hq => ?_) (fun M' hq => ?_)
    · obtain ⟨cx10_0, rfl, rfl⟩ := hq
      exact prp (CX_2 (k_2 h_ok cx10_0) hC) (by decide) (by decide)
    · skip
      obtain ⟨d10_0, rfl⟩ := hq
      refine z_iconst C (v := 0) dX3_drain_13 (by decide) ?_
      refine z_istore (lv' := [(4, .int 0), (3, .ref (P pane.toNatClampNeg)), (0, .ref x), (1, .int pane), (2, .int many)]) C dX3_drain_14 (by decide) rfl ?_
      refine z_at (M' := _) (lv' := [(4, .int (nI 0)), (3, .ref (P pane.toNatClampNeg)), (0, .ref x), (1, .int pane), (2, .int many)]) rfl (by rw [nI_0]) rfl ?_
      refine lp_X3_drain C (by decide) (by decide) hi hok (z_rgN d10_0).1 (z_r20 d10_0) (fun Mq9 hjl h9 => ?_) (fun j Mq9 hjl hje h9 => ?_) _ 0 _ (Nat.zero_add _) (by have h8 := s_pos0 hok hi; rw [h8.2.2]; omega) (by rw [s_mvd0]; exact hC)
      · refine z_iload C dX3_drain_40 0 rfl ?_
        refine z_iload_n C dX3_drain_42 rfl 4 rfl ?_
        refine z_icmp_ge C (tgt := 52) dX3_drain_43 (by decide) (fun _ => ?_) (fun c43 => absurd (by rw [← (z_rgN d10_0).1]; exact Int32.le_refl _) c43)
        refine z_aload_n C dX3_drain_52 rfl 2 rfl ?_
        refine z_iload C dX3_drain_53 0 rfl ?_
        refine z_callVi (rest := []) (k' := 2) (n' := 12) C (c_X3_done (z_l X) (z_G X) h9.1) (cs_X3_66 C (by decide)) h9.1 rfl rfl rfl rfl (Nat.le_of_ble_eq_true rfl) rfl rfl (by decide) (by decide) dX3_drain_55 (fun x55 M' hq => ?_)
        obtain ⟨rfl, rfl⟩ := hq
        refine ret dX3_drain_58 rfl ?_ (by decide) (by decide)
        have hle : many ≤ p_li (s_pn u pane.toNatClampNeg) - p_po (s_pn u pane.toNatClampNeg) := by rw [(z_rgN d10_0).1, z_le, nI_T (by have := z_r20 d10_0; omega)]; exact hjl
        have em : nI many.toNatClampNeg = many := (z_rgN d10_0).1.symm
        have e5 : s_mvd u pane.toNatClampNeg many.toNatClampNeg = s_up u pane.toNatClampNeg (p_po' (s_pn u pane.toNatClampNeg) (p_po (s_pn u pane.toNatClampNeg) + many)) := by show s_up u pane.toNatClampNeg (p_po' (s_pn u pane.toNatClampNeg) (p_po (s_pn u pane.toNatClampNeg) + nI many.toNatClampNeg)) = _; rw [em]
        rw [e5] at h9
        rw [em]
        exact CP_ok (v := s_act (s_up u pane.toNatClampNeg (p_po' (s_pn u pane.toNatClampNeg) (p_po (s_pn u pane.toNatClampNeg) + many)))) (by unfold s_drain; rw [if_pos hle]) (z_lt3 h_ok (z_is11 d10_0)) (CI_ak h9 _ _)
      · refine z_iload C dX3_drain_40 0 rfl ?_
        refine z_iload_n C dX3_drain_42 rfl 4 rfl ?_
        refine z_icmp_ge C (tgt := 52) dX3_drain_43 (by decide) (fun c43 => absurd c43 (by rw [(z_rgN d10_0).1]; exact nI_ge hjl (by have := z_r20 d10_0; omega))) (fun _ => ?_)
        refine z_aload_n C dX3_drain_46 rfl 2 rfl ?_
        refine z_iconst C (v := 2) dX3_drain_47 (by decide) ?_
        refine z_callVi (rest := []) (k' := 2) (n' := 12) C (c_X3_refuse (z_l X) (z_G X) h9.1 (CI_rf h9) (z_inL (by decide)) (show (2 : Int32).toNatClampNeg = 2 by decide)) (cs_X3_86 C (by decide)) h9.1 rfl rfl rfl rfl (Nat.le_of_ble_eq_true rfl) rfl rfl (by decide) (by decide) dX3_drain_48 (fun x48 M' hq => ?_)
        obtain ⟨rfl, rfl⟩ := hq
        refine z_pop C dX3_drain_51 rfl ?_
        refine z_aload_n C dX3_drain_52 rfl 2 rfl ?_
        refine z_iload C dX3_drain_53 0 rfl ?_
        refine z_callVi (rest := []) (k' := 2) (n' := 12) C (c_X3_done (z_l X) (z_G X) ((z_up_n _ _ (z_ne h9.1 (CI_rf h9) (by intro h; cases h))).trans h9.1)) (cs_X3_66 C (by decide)) ((z_up_n _ _ (z_ne h9.1 (CI_rf h9) (by intro h; cases h))).trans h9.1) rfl rfl rfl rfl (Nat.le_of_ble_eq_true rfl) rfl rfl (by decide) (by decide) dX3_drain_55 (fun x55 M' hq => ?_)
        obtain ⟨rfl, rfl⟩ := hq
        refine ret dX3_drain_58 rfl ?_ (by decide) (by decide)
        have hnl : ¬ many ≤ p_li (s_pn u pane.toNatClampNeg) - p_po (s_pn u pane.toNatClampNeg) := by rw [← hje, (z_rgN d10_0).1]; exact nI_ge hjl (by have := z_r20 d10_0; omega)
        have e5 : s_mvd u pane.toNatClampNeg j = s_up u pane.toNatClampNeg (p_po' (s_pn u pane.toNatClampNeg) (p_po (s_pn u pane.toNatClampNeg) + (p_li (s_pn u pane.toNatClampNeg) - p_po (s_pn u pane.toNatClampNeg)))) := by show s_up u pane.toNatClampNeg (p_po' (s_pn u pane.toNatClampNeg) (p_po (s_pn u pane.toNatClampNeg) + nI j)) = _; rw [hje]
        rw [e5] at h9
        rw [hje]
        exact CP_ok (v := s_act (s_tel (s_up u pane.toNatClampNeg (p_po' (s_pn u pane.toNatClampNeg) (p_po (s_pn u pane.toNatClampNeg) + (p_li (s_pn u pane.toNatClampNeg) - p_po (s_pn u pane.toNatClampNeg))))) 2)) (by unfold s_drain; rw [if_neg hnl]) (z_lt3 h_ok (z_is11 d10_0)) (CI_ak (CI_td h9 _) _ _)
theorem a_X3_drain (l : Launch) (h_st : l.stackTraces = false) {G : zG} {u : sS} {x : Nat} {P RA VA : Nat → Nat} {pa sp ln rf sb : Nat} {Mw : zM} (hC : CI G u x P RA VA pa sp ln rf sb Mw) {t : Nat} (hok : s_ok t u) (pane many : Int32) : z_Xi l G qX3_drain (z_rm 12 8 48) [.ref x, .int pane, .int many] Mw (CP G x pa sp ln rf sb (z_lt (z_is pane 0 5) (z_is many 0 20)) (s_drain u pane.toNatClampNeg many)) (CX G x pa sp ln rf sb (z_lt (z_is pane 0 5) (z_is many 0 20)) u) := by
  obtain ⟨fp, hpa, hfp⟩ := CI_pa hC
  rcases z_pc pane with ⟨h_ok, h_ip, hi⟩ | ⟨h_bad, h_nip⟩
  · exact g_X3_drain l h_st hC hok h_ok h_ip hi
  · refine z_Xi_mono (c_X3_drain_bad l G h_st hC.1 hpa h_nip) (fun r M' h => h.elim) ?_
    rintro E M' (⟨x0_0, rfl, rfl⟩ | ⟨x1_0, rfl, rfl⟩)
    · exact CX_1 (k_1 h_bad) hC
    · exact CX_1 (k_1 h_bad) hC
set_option maxRecDepth 20000 in
theorem lp_X3_pour {X : zX} (C : z_C X cX3_pour RX3 7 (z_rm 12 8 48)) {x : Nat} {P RA VA : Nat → Nat} {pa sp ln rf sb : Nat} {t : Nat} {kc ks : Nat} (hkc : kc ≤ 8) (hks : ks ≤ 48) {i k : Nat} (hi : i < 6) (hk : k < 6) {pane other many : Int32} {mq : Nat} (hmn : many = nI mq) (hmb : mq ≤ 20) {res : Nat × sS} (kk : ∀ M', CI (z_G X) res.2 x P RA VA pa sp ln rf sb M' → z_W X M' kc ks 55 [(6, .int (nI res.1)), (5, .ref (P k)), (4, .ref (P i)), (0, .ref x), (1, .int pane), (2, .int other), (3, .int many)] []) : ∀ (d j : Nat) (u : sS) (Mw : zM), j + d = mq → s_ok t u → CI (z_G X) u x P RA VA pa sp ln rf sb Mw → s_pour1 i k d j u = res → z_W X Mw kc ks 24 [(6, .int (nI j)), (5, .ref (P k)), (4, .ref (P i)), (0, .ref x), (1, .int pane), (2, .int other), (3, .int many)] [] := by
  intro d
  induction d with
  | zero =>
    intro j u Mw hj hok hC hres
    refine z_iload C dX3_pour_24 0 rfl ?_
    refine z_iload_n C dX3_pour_26 rfl 6 rfl ?_
    refine z_icmp_ge C (tgt := 55) dX3_pour_27 (by decide) (fun _ => ?_) (fun c27 => absurd (by rw [hmn]; exact nI_le (by omega) (by omega)) c27)
    subst hres
    exact kk _ hC
  | succ d ih =>
    intro j u Mw hj hok hC hres
    refine z_iload C dX3_pour_24 0 rfl ?_
    refine z_iload_n C dX3_pour_26 rfl 6 rfl ?_
    refine z_icmp_ge C (tgt := 55) dX3_pour_27 (by decide) (fun c27 => absurd c27 (by rw [hmn]; exact nI_ge (by omega) (by omega))) (fun _ => ?_)
    refine z_aload C dX3_pour_30 2 rfl ?_
    refine z_callVi (rest := []) (k' := kc) (n' := ks) C (c_X1_left (z_l X) (z_G X) (CI_P hC hi)) (cs_X3_74 C (by decide)) (CI_P hC hi) rfl rfl rfl rfl (Nat.le_of_ble_eq_true rfl) rfl rfl hkc hks dX3_pour_32 (fun x32 M' hq => ?_)
    obtain ⟨rfl, rfl⟩ := hq
    refine z_if_le C (tgt := 55) dX3_pour_35 (by decide) (fun c35 => ?_) (fun c35 => ?_)
    · rw [s_pour1, if_pos c35] at hres
      subst hres
      exact kk _ hC
    · refine z_aload_n C dX3_pour_38 rfl 3 rfl ?_
      refine z_aload C dX3_pour_39 2 rfl ?_
      refine z_aload C dX3_pour_41 1 rfl ?_
      refine z_callVi (rest := []) (k' := kc) (n' := ks) C (a_X3_pourOne (z_l X) hC hok hi hk (fun q => c35 ((s_left hok hi).mp q))) (cs_X3_135 C (by decide)) hC.1 rfl rfl rfl rfl (Nat.le_of_ble_eq_true rfl) rfl rfl hkc hks dX3_pour_43 (fun x43 Mq43 hq => ?_)
      obtain ⟨c43, e43, hC43⟩ | ⟨c43, e43, hC43⟩ := hq
      · rw [e43]
        refine z_if_eq C (tgt := 55) dX3_pour_46 (by decide) (fun c46 => absurd c46 (by decide)) (fun _ => ?_)
        refine z_iinc (v := nI (j + 1)) (lv' := [(6, .int (nI (j + 1))), (5, .ref (P k)), (4, .ref (P i)), (0, .ref x), (1, .int pane), (2, .int other), (3, .int many)]) C dX3_pour_49 0 rfl (nI_1 j) (by decide) rfl ?_
        refine z_goto C (tgt := 24) dX3_pour_52 (by decide) ?_
        exact ih (j + 1) _ _ (by omega) (s_ok_pour0 hok hi hk (fun q => c35 ((s_left hok hi).mp q))) hC43 (by rw [s_pour1, if_neg c35, if_pos c43] at hres; exact hres)
      · rw [e43]
        refine z_if_eq C (tgt := 55) dX3_pour_46 (by decide) (fun _ => ?_) (fun c46 => absurd (by decide) c46)
        rw [s_pour1, if_neg c35, if_neg c43] at hres
        subst hres
        exact kk _ hC43
set_option maxRecDepth 20000 in
theorem c_X3_pour_bad (l : Launch) (G : zG) (h_st : l.stackTraces = false) {M : zM} {x : Nat} {pane : Int32} {other : Int32} {many : Int32} {lr : Nat} {pa : Nat} {sp : Nat} {ln : Nat} {rf : Nat} {ac : Int32} {kn : Int32} {fp : Nat → Option Nat}  (h_x : M x = some (cMp lr pa sp ln rf ac kn)) (h_pa : M pa = some (aP G 6 fp)) (h_ip : ¬ vp_in pane 6) : z_Xi l G qX3_pour (z_rm 12 8 48) [.ref x, .int pane, .int other, .int many] M (fun r M' => False) (fun E M' => ((pane < 0) ∧ E = "java/lang/IndexOutOfBoundsException" ∧ M' = M) ∨ ((¬ pane < 0) ∧ E = "java/lang/IndexOutOfBoundsException" ∧ M' = M)) := by
  refine z_Xi_of _ _ h_st rfl rfl (Nat.le_of_ble_eq_true rfl) (fun X hl hG C ret thr prp => ?_)
  subst hl; subst hG
  have C : z_C X cX3_pour RX3 7 (z_rm 12 8 48) := C
  show z_W X M 0 0 0 [(0, .ref x), (1, .int pane), (2, .int other), (3, .int many)] []
  refine z_aload_n C dX3_pour_0 rfl 0 rfl ?_
  refine z_iload_n C dX3_pour_1 rfl 1 rfl ?_
  refine z_callXVr (rest := []) (k' := 1) (n' := 6) C (c_X3_paneOf_bad (z_l X) (z_G X) h_st h_x h_pa h_ip) (cs_X3_49 C (by decide)) h_x rfl rfl rfl rfl (Nat.le_of_ble_eq_true rfl) rfl rfl (by decide) (by decide) dX3_pour_2 (fun E M' hq => ?_) (fun x2 M' hq => ?_)
  · obtain ⟨cx2_0, rfl, rfl⟩ | ⟨cx2_0, rfl, rfl⟩ := hq
    · exact prp (Or.inl ⟨cx2_0, rfl, rfl⟩) (by decide) (by decide)
    · exact prp (Or.inr (⟨cx2_0, rfl, rfl⟩)) (by decide) (by decide)
  · skip
    exact hq.elim
set_option maxRecDepth 20000 in
theorem c_X3_pour_bad2 (l : Launch) (G : zG) (h_st : l.stackTraces = false) {M : zM} {x : Nat} {pane : Int32} {other : Int32} {many : Int32} {lr : Nat} {pa : Nat} {sp : Nat} {ln : Nat} {rf : Nat} {ac : Int32} {kn : Int32} {fp : Nat → Option Nat} {p : Nat} {ov : Nat} {sa : Int32} {cp : Int32} {po : Int32} {li : Int32} {mk : Int32} {rd : Int32} {i : Nat} (h_x : M x = some (cMp lr pa sp ln rf ac kn)) (h_pa : M pa = some (aP G 6 fp)) (h_p : M p = some (cPn ov sa cp po li mk rd)) (h_ip : vp_in pane 6) (h_ij : pane.toNatClampNeg = i) (h_fp : fp i = some p) (h_ip2 : ¬ vp_in other 6) : z_Xi l G qX3_pour (z_rm 12 8 48) [.ref x, .int pane, .int other, .int many] M (fun r M' => False) (fun E M' => ((other < 0) ∧ E = "java/lang/IndexOutOfBoundsException" ∧ M' = M) ∨ ((¬ other < 0) ∧ E = "java/lang/IndexOutOfBoundsException" ∧ M' = M)) := by
  refine z_Xi_of _ _ h_st rfl rfl (Nat.le_of_ble_eq_true rfl) (fun X hl hG C ret thr prp => ?_)
  subst hl; subst hG
  have C : z_C X cX3_pour RX3 7 (z_rm 12 8 48) := C
  show z_W X M 0 0 0 [(0, .ref x), (1, .int pane), (2, .int other), (3, .int many)] []
  refine z_aload_n C dX3_pour_0 rfl 0 rfl ?_
  refine z_iload_n C dX3_pour_1 rfl 1 rfl ?_
  refine z_callXVr (rest := []) (k' := 1) (n' := 6) C (c_X3_paneOf (z_l X) (z_G X) h_st h_x h_pa h_p h_ip h_ij h_fp) (cs_X3_49 C (by decide)) h_x rfl rfl rfl rfl (Nat.le_of_ble_eq_true rfl) rfl rfl (by decide) (by decide) dX3_pour_2 (fun E M' hq => ?_) (fun x2 M' hq => ?_)
  · exact hq.elim
  · skip
    obtain ⟨hr2, rfl⟩ := hq
    rw [hr2]
    refine z_astore (lv' := [(4, .ref p), (0, .ref x), (1, .int pane), (2, .int other), (3, .int many)]) C dX3_pour_5 (by decide) rfl ?_
    refine z_aload_n C dX3_pour_7 rfl 1 rfl ?_
    refine z_iload_n C dX3_pour_8 rfl 3 rfl ?_
    refine z_callXVr (rest := []) (k' := 2) (n' := 12) C (c_X3_paneOf_bad (z_l X) (z_G X) h_st h_x h_pa h_ip2) (cs_X3_49 C (by decide)) h_x rfl rfl rfl rfl (Nat.le_of_ble_eq_true rfl) rfl rfl (by decide) (by decide) dX3_pour_9 (fun E M' hq => ?_) (fun x9 M' hq => ?_)
    · obtain ⟨cx9_0, rfl, rfl⟩ | ⟨cx9_0, rfl, rfl⟩ := hq
      · exact prp (Or.inl ⟨cx9_0, rfl, rfl⟩) (by decide) (by decide)
      · exact prp (Or.inr (⟨cx9_0, rfl, rfl⟩)) (by decide) (by decide)
    · skip
      exact hq.elim
set_option maxRecDepth 20000 in
theorem g_X3_pour (l : Launch) (h_st : l.stackTraces = false) {G : zG} {u : sS} {x : Nat} {P RA VA : Nat → Nat} {pa sp ln rf sb : Nat} {Mw : zM} (hC : CI G u x P RA VA pa sp ln rf sb Mw) {t : Nat} (hok : s_ok t u) {pane other many : Int32} (h_ok : z_is pane 0 5 = 1) (h_ip : vp_in pane 6) (hi : pane.toNatClampNeg < 6) (h_ok2 : z_is other 0 5 = 1) (h_ip2 : vp_in other 6) (hi2 : other.toNatClampNeg < 6) : z_Xi l G qX3_pour (z_rm 12 8 48) [.ref x, .int pane, .int other, .int many] Mw (CP G x pa sp ln rf sb (z_lt (t_2 pane other) (z_is many 0 20)) (s_pour u pane.toNatClampNeg other.toNatClampNeg many)) (CX G x pa sp ln rf sb (z_lt (t_2 pane other) (z_is many 0 20)) u) := by
  obtain ⟨fp, hpa, hfp⟩ := CI_pa hC
  refine z_Xi_of _ _ h_st rfl rfl (Nat.le_of_ble_eq_true rfl) (fun X hl hG C ret thr prp => ?_)
  subst hl; subst hG
  have C : z_C X cX3_pour RX3 7 (z_rm 12 8 48) := C
  show z_W X Mw 0 0 0 [(0, .ref x), (1, .int pane), (2, .int other), (3, .int many)] []
  refine z_aload_n C dX3_pour_0 rfl 0 rfl ?_
  refine z_iload_n C dX3_pour_1 rfl 1 rfl ?_
  refine z_callXVr (rest := []) (k' := 1) (n' := 6) C (c_X3_paneOf (z_l X) (z_G X) h_st hC.1 hpa (CI_P hC hi) h_ip rfl (hfp _ hi)) (cs_X3_49 C (by decide)) hC.1 rfl rfl rfl rfl (Nat.le_of_ble_eq_true rfl) rfl rfl (by decide) (by decide) dX3_pour_2 (fun E M' hq => ?_) (fun x2 M' hq => ?_)
  · exact hq.elim
  · skip
    obtain ⟨rfl, rfl⟩ := hq
    refine z_astore (lv' := [(4, .ref (P pane.toNatClampNeg)), (0, .ref x), (1, .int pane), (2, .int other), (3, .int many)]) C dX3_pour_5 (by decide) rfl ?_
    refine z_aload_n C dX3_pour_7 rfl 1 rfl ?_
    refine z_iload_n C dX3_pour_8 rfl 3 rfl ?_
    refine z_callXVr (rest := []) (k' := 2) (n' := 12) C (c_X3_paneOf (z_l X) (z_G X) h_st hC.1 hpa (CI_P hC hi2) h_ip2 rfl (hfp _ hi2)) (cs_X3_49 C (by decide)) hC.1 rfl rfl rfl rfl (Nat.le_of_ble_eq_true rfl) rfl rfl (by decide) (by decide) dX3_pour_9 (fun E M' hq => ?_) (fun x9 M' hq => ?_)
    · exact hq.elim
    · skip
      obtain ⟨rfl, rfl⟩ := hq
      refine z_astore (lv' := [(5, .ref (P other.toNatClampNeg)), (4, .ref (P pane.toNatClampNeg)), (0, .ref x), (1, .int pane), (2, .int other), (3, .int many)]) C dX3_pour_12 (by decide) rfl ?_
      refine z_iload_n C dX3_pour_14 rfl 5 rfl ?_
      refine z_iconst C (v := 0) dX3_pour_15 (by decide) ?_
      refine z_bipush C (v := 20) dX3_pour_16 (by decide) ?_
      refine z_callXSv (rest := []) (k' := 3) (n' := 18) C (c_X3_needWithin (z_l X) (z_G X) h_st) (cs_X3_53 C (by decide)) rfl rfl (Nat.le_of_ble_eq_true rfl) rfl rfl (by decide) (by decide) dX3_pour_18 (fun E M' hq => ?_) (fun M' hq => ?_)
      · obtain ⟨cx18_0, rfl, rfl⟩ := hq
        exact prp (CX_2 (k_2 (show t_2 pane other = 1 from by unfold t_2; rw [h_ok, h_ok2]; decide) cx18_0) hC) (by decide) (by decide)
      · skip
        obtain ⟨d18_0, rfl⟩ := hq
        refine z_iconst C (v := 0) dX3_pour_21 (by decide) ?_
        refine z_istore (lv' := [(6, .int 0), (5, .ref (P other.toNatClampNeg)), (4, .ref (P pane.toNatClampNeg)), (0, .ref x), (1, .int pane), (2, .int other), (3, .int many)]) C dX3_pour_22 (by decide) rfl ?_
        refine z_at (M' := _) (lv' := [(6, .int (nI 0)), (5, .ref (P other.toNatClampNeg)), (4, .ref (P pane.toNatClampNeg)), (0, .ref x), (1, .int pane), (2, .int other), (3, .int many)]) rfl (by rw [nI_0]) rfl ?_
        refine lp_X3_pour C (by decide) (by decide) hi hi2 (z_rgN d18_0).1 (z_r20 d18_0) (fun Mq9 h9 => ?_) _ 0 u _ (Nat.zero_add _) hok hC rfl
        refine z_aload_n C dX3_pour_55 rfl 3 rfl ?_
        refine z_iload C dX3_pour_56 0 rfl ?_
        refine z_callVi (rest := []) (k' := 3) (n' := 18) C (c_X3_done (z_l X) (z_G X) h9.1) (cs_X3_66 C (by decide)) h9.1 rfl rfl rfl rfl (Nat.le_of_ble_eq_true rfl) rfl rfl (by decide) (by decide) dX3_pour_58 (fun x58 M' hq => ?_)
        obtain ⟨rfl, rfl⟩ := hq
        refine ret dX3_pour_61 rfl ?_ (by decide) (by decide)
        exact CP_ok (v := s_act (s_pour1 pane.toNatClampNeg other.toNatClampNeg many.toNatClampNeg 0 u).2) rfl (z_lt3 (show t_2 pane other = 1 from by unfold t_2; rw [h_ok, h_ok2]; decide) (z_is11 d18_0)) (CI_ak h9 _ _)
theorem a_X3_pour (l : Launch) (h_st : l.stackTraces = false) {G : zG} {u : sS} {x : Nat} {P RA VA : Nat → Nat} {pa sp ln rf sb : Nat} {Mw : zM} (hC : CI G u x P RA VA pa sp ln rf sb Mw) {t : Nat} (hok : s_ok t u) (pane other many : Int32) : z_Xi l G qX3_pour (z_rm 12 8 48) [.ref x, .int pane, .int other, .int many] Mw (CP G x pa sp ln rf sb (z_lt (t_2 pane other) (z_is many 0 20)) (s_pour u pane.toNatClampNeg other.toNatClampNeg many)) (CX G x pa sp ln rf sb (z_lt (t_2 pane other) (z_is many 0 20)) u) := by
  obtain ⟨fp, hpa, hfp⟩ := CI_pa hC
  rcases z_pc pane with ⟨h_ok, h_ip, hi⟩ | ⟨h_bad, h_nip⟩
  · rcases z_pc other with ⟨h_ok2, h_ip2, hi2⟩ | ⟨h_bad2, h_nip2⟩
    · exact g_X3_pour l h_st hC hok h_ok h_ip hi h_ok2 h_ip2 hi2
    · refine z_Xi_mono (c_X3_pour_bad2 l G h_st hC.1 hpa (CI_P hC hi) h_ip rfl (hfp _ hi) h_nip2) (fun r M' h => h.elim) ?_
      rintro E M' (⟨x0_0, rfl, rfl⟩ | ⟨x1_0, rfl, rfl⟩)
      · exact CX_1 (k_1 (by unfold t_2; rw [h_ok, h_bad2]; decide)) hC
      · exact CX_1 (k_1 (by unfold t_2; rw [h_ok, h_bad2]; decide)) hC
  · refine z_Xi_mono (c_X3_pour_bad l G h_st hC.1 hpa h_nip) (fun r M' h => h.elim) ?_
    rintro E M' (⟨x0_0, rfl, rfl⟩ | ⟨x1_0, rfl, rfl⟩)
    · exact CX_1 (k_1 (by unfold t_2; rw [h_bad]; exact if_pos rfl)) hC
    · exact CX_1 (k_1 (by unfold t_2; rw [h_bad]; exact if_pos rfl)) hC
set_option maxRecDepth 20000 in
theorem lp_X3_pack {X : zX} (C : z_C X cX3_pack RX3 5 (z_rm 12 8 48)) {x : Nat} {P RA VA : Nat → Nat} {pa sp ln rf sb : Nat} {t : Nat} {kc ks : Nat} (hkc : kc ≤ 8) (hks : ks ≤ 48) {i : Nat} (hi : i < 6) {pane cq : Int32} {mq : Nat} (hmn : cq = nI mq) (hmb : mq ≤ 16) {res : sS} (kk : ∀ M', CI (z_G X) res x P RA VA pa sp ln rf sb M' → z_W X M' kc ks 57 [(4, .int (nI mq)), (3, .int cq), (2, .ref (P i)), (0, .ref x), (1, .int pane)] []) : ∀ (d j : Nat) (u : sS) (Mw : zM), j + d = mq → s_ok t u → p_li (s_pn u i) - p_po (s_pn u i) = nI mq → CI (z_G X) u x P RA VA pa sp ln rf sb Mw → s_pack1 i d j u = res → z_W X Mw kc ks 27 [(4, .int (nI j)), (3, .int cq), (2, .ref (P i)), (0, .ref x), (1, .int pane)] [] := by
  intro d
  induction d with
  | zero =>
    intro j u Mw hj hok hl hC hres
    refine z_iload C dX3_pack_27 0 rfl ?_
    refine z_iload_n C dX3_pack_29 rfl 1 rfl ?_
    refine z_icmp_ge C (tgt := 57) dX3_pack_30 (by decide) (fun _ => ?_) (fun c30 => absurd (by rw [hmn]; exact nI_le (by omega) (by omega)) c30)
    have ejm : j = mq := by omega
    subst ejm
    subst hres
    exact kk _ hC
  | succ d ih =>
    intro j u Mw hj hok hl hC hres
    refine z_iload C dX3_pack_27 0 rfl ?_
    refine z_iload_n C dX3_pack_29 rfl 1 rfl ?_
    refine z_icmp_ge C (tgt := 57) dX3_pack_30 (by decide) (fun c30 => absurd c30 (by rw [hmn]; exact nI_ge (by omega) (by omega))) (fun _ => ?_)
    refine z_aload_n C dX3_pack_33 rfl 2 rfl ?_
    refine z_iload C dX3_pack_34 0 rfl ?_
    refine z_aload_n C dX3_pack_36 rfl 2 rfl ?_
    refine z_aload_n C dX3_pack_37 rfl 2 rfl ?_
    refine gf_X3_60 C (CI_P hC hi) dX3_pack_38 ?_
    refine z_iload C dX3_pack_41 0 rfl ?_
    refine z_iadd C dX3_pack_43 ?_
    refine z_callVi (rest := [.int (nI j), .ref (P i)]) (k' := kc) (n' := ks) C (a_X1_valueAt (z_l X) hC hok hi (s_pkI hok hi hl hmb (by omega)).2) (cs_X3_131 C (by decide)) (CI_P hC hi) rfl rfl rfl rfl (Nat.le_of_ble_eq_true rfl) rfl rfl hkc hks dX3_pack_44 (fun x44 Mq44 hq => ?_)
    obtain ⟨e44, rfl⟩ := hq
    rw [e44]
    refine z_callVi (rest := []) (k' := kc) (n' := ks) C (a_X1_replace (z_l X) hC hok hi _ (s_pkI hok hi hl hmb (by omega)).1) (cs_X3_127 C (by decide)) (CI_P hC hi) rfl rfl rfl rfl (Nat.le_of_ble_eq_true rfl) rfl rfl hkc hks dX3_pack_47 (fun x47 Mq47 hq => ?_)
    have hC47 := hq
    refine z_pop C dX3_pack_50 rfl ?_
    refine z_iinc (v := nI (j + 1)) (lv' := [(4, .int (nI (j + 1))), (3, .int cq), (2, .ref (P i)), (0, .ref x), (1, .int pane)]) C dX3_pack_51 0 rfl (nI_1 j) (by decide) rfl ?_
    refine z_goto C (tgt := 27) dX3_pack_54 (by decide) ?_
    exact ih (j + 1) _ _ (by omega) (s_ok_wr hok _ _ (s_v0 hok _ _)) hl hC47 hres
set_option maxRecDepth 20000 in
theorem c_X3_pack_bad (l : Launch) (G : zG) (h_st : l.stackTraces = false) {M : zM} {x : Nat} {pane : Int32} {lr : Nat} {pa : Nat} {sp : Nat} {ln : Nat} {rf : Nat} {ac : Int32} {kn : Int32} {fp : Nat → Option Nat}  (h_x : M x = some (cMp lr pa sp ln rf ac kn)) (h_pa : M pa = some (aP G 6 fp)) (h_ip : ¬ vp_in pane 6) : z_Xi l G qX3_pack (z_rm 12 8 48) [.ref x, .int pane] M (fun r M' => False) (fun E M' => ((pane < 0) ∧ E = "java/lang/IndexOutOfBoundsException" ∧ M' = M) ∨ ((¬ pane < 0) ∧ E = "java/lang/IndexOutOfBoundsException" ∧ M' = M)) := by
  refine z_Xi_of _ _ h_st rfl rfl (Nat.le_of_ble_eq_true rfl) (fun X hl hG C ret thr prp => ?_)
  subst hl; subst hG
  have C : z_C X cX3_pack RX3 5 (z_rm 12 8 48) := C
  show z_W X M 0 0 0 [(0, .ref x), (1, .int pane)] []
  refine z_aload_n C dX3_pack_0 rfl 0 rfl ?_
  refine z_iload_n C dX3_pack_1 rfl 1 rfl ?_
  refine z_callXVr (rest := []) (k' := 1) (n' := 6) C (c_X3_paneOf_bad (z_l X) (z_G X) h_st h_x h_pa h_ip) (cs_X3_49 C (by decide)) h_x rfl rfl rfl rfl (Nat.le_of_ble_eq_true rfl) rfl rfl (by decide) (by decide) dX3_pack_2 (fun E M' hq => ?_) (fun x2 M' hq => ?_)
  · obtain ⟨cx2_0, rfl, rfl⟩ | ⟨cx2_0, rfl, rfl⟩ := hq
    · exact prp (Or.inl ⟨cx2_0, rfl, rfl⟩) (by decide) (by decide)
    · exact prp (Or.inr (⟨cx2_0, rfl, rfl⟩)) (by decide) (by decide)
  · skip
    exact hq.elim
set_option maxRecDepth 20000 in
theorem g_X3_pack (l : Launch) (h_st : l.stackTraces = false) {G : zG} {u : sS} {x : Nat} {P RA VA : Nat → Nat} {pa sp ln rf sb : Nat} {Mw : zM} (hC : CI G u x P RA VA pa sp ln rf sb Mw) {t : Nat} (hok : s_ok t u) {pane : Int32} (h_ok : z_is pane 0 5 = 1) (h_ip : vp_in pane 6) (hi : pane.toNatClampNeg < 6) : z_Xi l G qX3_pack (z_rm 12 8 48) [.ref x, .int pane] Mw (CP G x pa sp ln rf sb (z_lt (z_is pane 0 5) 1) (s_pack u pane.toNatClampNeg)) (CX G x pa sp ln rf sb (z_lt (z_is pane 0 5) 1) u) := by
  obtain ⟨fp, hpa, hfp⟩ := CI_pa hC
  refine z_Xi_of _ _ h_st rfl rfl (Nat.le_of_ble_eq_true rfl) (fun X hl hG C ret thr prp => ?_)
  subst hl; subst hG
  have C : z_C X cX3_pack RX3 5 (z_rm 12 8 48) := C
  show z_W X Mw 0 0 0 [(0, .ref x), (1, .int pane)] []
  refine z_aload_n C dX3_pack_0 rfl 0 rfl ?_
  refine z_iload_n C dX3_pack_1 rfl 1 rfl ?_
  refine z_callXVr (rest := []) (k' := 1) (n' := 6) C (c_X3_paneOf (z_l X) (z_G X) h_st hC.1 hpa (CI_P hC hi) h_ip rfl (hfp _ hi)) (cs_X3_49 C (by decide)) hC.1 rfl rfl rfl rfl (Nat.le_of_ble_eq_true rfl) rfl rfl (by decide) (by decide) dX3_pack_2 (fun E M' hq => ?_) (fun x2 M' hq => ?_)
  · exact hq.elim
  · skip
    obtain ⟨rfl, rfl⟩ := hq
    refine z_astore_n (lv' := [(2, .ref (P pane.toNatClampNeg)), (0, .ref x), (1, .int pane)]) C dX3_pack_5 rfl (by decide) rfl ?_
    refine z_aload_n C dX3_pack_6 rfl 0 rfl ?_
    refine gf_X3_89 C (CI_P hC hi) dX3_pack_7 ?_
    refine z_if_eq C (tgt := 19) dX3_pack_10 (by decide) (fun c10 => ?_) (fun c10 => ?_)
    · refine z_aload_n C dX3_pack_19 rfl 0 rfl ?_
      refine z_callVi (rest := []) (k' := 1) (n' := 6) C (c_X1_left (z_l X) (z_G X) (CI_P hC hi)) (cs_X3_74 C (by decide)) (CI_P hC hi) rfl rfl rfl rfl (Nat.le_of_ble_eq_true rfl) rfl rfl (by decide) (by decide) dX3_pack_20 (fun x20 M' hq => ?_)
      obtain ⟨rfl, rfl⟩ := hq
      refine z_istore_n (lv' := [(3, .int ((p_li (s_pn u pane.toNatClampNeg)) - (p_po (s_pn u pane.toNatClampNeg)))), (2, .ref (P pane.toNatClampNeg)), (0, .ref x), (1, .int pane)]) C dX3_pack_23 rfl (by decide) rfl ?_
      refine z_iconst C (v := 0) dX3_pack_24 (by decide) ?_
      refine z_istore (lv' := [(4, .int 0), (3, .int ((p_li (s_pn u pane.toNatClampNeg)) - (p_po (s_pn u pane.toNatClampNeg)))), (2, .ref (P pane.toNatClampNeg)), (0, .ref x), (1, .int pane)]) C dX3_pack_25 (by decide) rfl ?_
      refine z_at (M' := _) (lv' := [(4, .int (nI 0)), (3, .int (p_li (s_pn u pane.toNatClampNeg) - p_po (s_pn u pane.toNatClampNeg))), (2, .ref (P pane.toNatClampNeg)), (0, .ref x), (1, .int pane)]) rfl (by rw [nI_0]) rfl ?_
      refine lp_X3_pack C (by decide) (by decide) hi (s_pkM hok hi).1 (s_pkM hok hi).2 (fun Mq9 h9 => ?_) _ 0 u _ (Nat.zero_add _) hok (s_pkM hok hi).1 hC rfl
      refine z_aload_n C dX3_pack_57 rfl 2 rfl ?_
      refine z_aload_n C dX3_pack_58 rfl 2 rfl ?_
      refine gf_X3_100 C (by have h8 := CI_P h9 hi; rw [(s_pack1_pn _ _ _).1] at h8; exact h8) dX3_pack_59 ?_
      refine z_callVv (rest := []) (k' := 1) (n' := 6) C (c_X1_beginAgain (z_l X) (z_G X) (by have h8 := CI_P h9 hi; rw [(s_pack1_pn _ _ _).1] at h8; exact h8)) (cs_X3_113 C (by decide)) (by have h8 := CI_P h9 hi; rw [(s_pack1_pn _ _ _).1] at h8; exact h8) rfl rfl rfl rfl (Nat.le_of_ble_eq_true rfl) rfl rfl (by decide) (by decide) dX3_pack_62 (fun M' hq => ?_)
      obtain rfl := hq
      refine z_aload_n C dX3_pack_65 rfl 2 rfl ?_
      refine z_iload_n C dX3_pack_66 rfl 1 rfl ?_
      refine pg_X3_60 C dX3_pack_67 ?_
      refine z_aload_n C dX3_pack_70 rfl 3 rfl ?_
      refine z_aload_n C dX3_pack_71 rfl 2 rfl ?_
      refine gf_X3_60 C (z_up_s _ _ _) dX3_pack_72 ?_
      refine z_callVi (rest := []) (k' := 1) (n' := 6) C (c_X3_done (z_l X) (z_G X) ((z_up_n _ _ (z_ne h9.1 (by have h8 := CI_P h9 hi; rw [(s_pack1_pn _ _ _).1] at h8; exact h8) (by intro h; cases h))).trans h9.1)) (cs_X3_66 C (by decide)) ((z_up_n _ _ (z_ne h9.1 (by have h8 := CI_P h9 hi; rw [(s_pack1_pn _ _ _).1] at h8; exact h8) (by intro h; cases h))).trans h9.1) rfl rfl rfl rfl (Nat.le_of_ble_eq_true rfl) rfl rfl (by decide) (by decide) dX3_pack_75 (fun x75 M' hq => ?_)
      obtain ⟨rfl, rfl⟩ := hq
      refine ret dX3_pack_78 rfl ?_ (by decide) (by decide)
      exact CP_ok (v := s_act (s_up (s_pack1 pane.toNatClampNeg (p_li (s_pn u pane.toNatClampNeg) - p_po (s_pn u pane.toNatClampNeg)).toNatClampNeg 0 u) pane.toNatClampNeg (p_po' (p_bg (s_pn u pane.toNatClampNeg) (p_cp (s_pn u pane.toNatClampNeg))) (p_li (s_pn u pane.toNatClampNeg) - p_po (s_pn u pane.toNatClampNeg))))) (by unfold s_pack; rw [if_neg ((s_rdn hok hi).mp c10)]) (z_lt3 h_ok rfl) (CI_ak (CI_pn h9 hi (p_po' (p_bg (s_pn u pane.toNatClampNeg) (p_cp (s_pn u pane.toNatClampNeg))) (p_li (s_pn u pane.toNatClampNeg) - p_po (s_pn u pane.toNatClampNeg)))) _ _)
    · refine z_aload_n C dX3_pack_13 rfl 1 rfl ?_
      refine z_iconst C (v := 4) dX3_pack_14 (by decide) ?_
      refine z_callVi (rest := []) (k' := 1) (n' := 6) C (c_X3_refuse (z_l X) (z_G X) hC.1 (CI_rf hC) (z_inL (by decide)) (show (4 : Int32).toNatClampNeg = 4 by decide)) (cs_X3_86 C (by decide)) hC.1 rfl rfl rfl rfl (Nat.le_of_ble_eq_true rfl) rfl rfl (by decide) (by decide) dX3_pack_15 (fun x15 M' hq => ?_)
      obtain ⟨rfl, rfl⟩ := hq
      refine ret dX3_pack_18 rfl ?_ (by decide) (by decide)
      exact CP_ok (v := s_tel u 4) (by unfold s_pack; rw [if_pos ((s_rdn' hok hi).mpr c10)]) (z_lt3 h_ok rfl) (CI_td hC _)
theorem a_X3_pack (l : Launch) (h_st : l.stackTraces = false) {G : zG} {u : sS} {x : Nat} {P RA VA : Nat → Nat} {pa sp ln rf sb : Nat} {Mw : zM} (hC : CI G u x P RA VA pa sp ln rf sb Mw) {t : Nat} (hok : s_ok t u) (pane : Int32) : z_Xi l G qX3_pack (z_rm 12 8 48) [.ref x, .int pane] Mw (CP G x pa sp ln rf sb (z_lt (z_is pane 0 5) 1) (s_pack u pane.toNatClampNeg)) (CX G x pa sp ln rf sb (z_lt (z_is pane 0 5) 1) u) := by
  obtain ⟨fp, hpa, hfp⟩ := CI_pa hC
  rcases z_pc pane with ⟨h_ok, h_ip, hi⟩ | ⟨h_bad, h_nip⟩
  · exact g_X3_pack l h_st hC hok h_ok h_ip hi
  · refine z_Xi_mono (c_X3_pack_bad l G h_st hC.1 hpa h_nip) (fun r M' h => h.elim) ?_
    rintro E M' (⟨x0_0, rfl, rfl⟩ | ⟨x1_0, rfl, rfl⟩)
    · exact CX_1 (k_1 h_bad) hC
    · exact CX_1 (k_1 h_bad) hC
end
section
/-! PART 35: fields of objects that are being made; Object's constructor; facts of the VM -/
theorem z_objInit {X : zX} {cc : ByteArray} {own : String} {nL : Nat} {rm : Room} {M : zM} {k n pc : Nat} {lv : List (Nat × Value)} (C : z_C X cc own nL rm) {idx a : Nat} {rest : List Value} (hl : Cond.methodLink own idx Lib.objectInit ∈ gw) (hi : Cond.instanceMethod Lib.objectInit ∈ gw) (hc : Cond.code Lib.objectInit ⟨#[0xb1]⟩ 1 none ∈ gw) (hf : 1 ≤ rm.frames ∧ 20 ≤ rm.locals) (hcat : (rest.map fun v => v.category).sum ≤ 8) (d : decode cc pc = .ok (.invokespecial idx, 3)) (kk : z_W X M k n (pc + 3) lv rest) : z_W X M k n pc lv (.ref a :: rest) :=
  fun H locs ls h1 h2 h3 h4 => W.objInit C.1 C.2.1 C.2.2.2.1 (z_tow C hl) (z_tow C hi) (z_tow C hc) (g := F0 (z_m X) pc ls (.ref a :: rest)) rfl h4.1 rfl d (by rw [C.2.2.2.2.2.2.2.2]; exact hf.1) (Nat.le_trans (Nat.add_le_add_right (lv_room (pc := pc) (ls := ls) (rest := rest) (m := z_m X) hcat) 12) (by rw [C.2.2.2.2.2.2.2.2]; exact hf.2)) (kk H locs ls h1 h2 h3 h4)
section FRR
variable {X : zX} {cc : ByteArray} {nL : Nat} {rm : Room} {M : zM} {k n pc a : Nat} {lv : List (Nat × Value)} {st : List Value}
theorem gr_X3_14 {v0 v1 v2 v3 v4 v5 v6 : Value} (C : z_C X cc RX3 nL rm) (hM : M a = some (.inr (7, [v0, v1, v2, v3, v4, v5, v6]))) (d : decode cc pc = .ok (.getfield 14, 3)) (kk : z_W X M k n (pc + 3) lv (v0 :: st)) : z_W X M k n pc lv (.ref a :: st) := z_get C (T := TX3) (N := 7) (ci := 7) rfl inX3 0 (by decide) kw133 hM rfl d kk
theorem pr_X3_14 {v0 v1 v2 v3 v4 v5 v6 xx : Value} (C : z_C X cc RX3 nL rm) (hini : (z_me X).name = "<init>") (hn : narrow (.object "Manypanes$Row") xx = xx) (hf : fits (.object "Manypanes$Row") xx = true) (hM : M a = some (.inr (7, [v0, v1, v2, v3, v4, v5, v6]))) (d : decode cc pc = .ok (.putfield 14, 3)) (kk : z_W X (z_up M a (.inr (7, [xx, v1, v2, v3, v4, v5, v6]))) k n (pc + 3) lv st) : z_W X M k n pc lv (xx :: .ref a :: st) := z_putF C (T := TX3) (N := 7) (ci := 7) (ty := .object "Manypanes$Row") hini rfl inX3 tyX3 tyX3_ok nmX3 0 (by decide) kw133 rfl rfl (by decide +kernel) hM (show 0 < 7 by decide) hn hf d kk
theorem pq_X3_14 {v0 v1 v2 v3 v4 v5 v6 xx : Value} {M0 : zM} (C : z_C X cc RX3 nL rm) (hini : (z_me X).name = "<init>") (hn : narrow (.object "Manypanes$Row") xx = xx) (hf : fits (.object "Manypanes$Row") xx = true) (d : decode cc pc = .ok (.putfield 14, 3)) (kk : z_W X (z_up M0 a (.inr (7, [xx, v1, v2, v3, v4, v5, v6]))) k n (pc + 3) lv st) : z_W X (z_up M0 a (.inr (7, [v0, v1, v2, v3, v4, v5, v6]))) k n pc lv (xx :: .ref a :: st) := pr_X3_14 C hini hn hf (z_up_s _ _ _) d (by rw [z_up_up]; exact kk)
theorem gr_X3_20 {v0 v1 v2 v3 v4 v5 v6 : Value} (C : z_C X cc RX3 nL rm) (hM : M a = some (.inr (7, [v0, v1, v2, v3, v4, v5, v6]))) (d : decode cc pc = .ok (.getfield 20, 3)) (kk : z_W X M k n (pc + 3) lv (v1 :: st)) : z_W X M k n pc lv (.ref a :: st) := z_get C (T := TX3) (N := 7) (ci := 7) rfl inX3 1 (by decide) kw134 hM rfl d kk
theorem pr_X3_20 {v0 v1 v2 v3 v4 v5 v6 xx : Value} (C : z_C X cc RX3 nL rm) (hini : (z_me X).name = "<init>") (hn : narrow (.array (.object "Manypanes$Pane")) xx = xx) (hf : fits (.array (.object "Manypanes$Pane")) xx = true) (hM : M a = some (.inr (7, [v0, v1, v2, v3, v4, v5, v6]))) (d : decode cc pc = .ok (.putfield 20, 3)) (kk : z_W X (z_up M a (.inr (7, [v0, xx, v2, v3, v4, v5, v6]))) k n (pc + 3) lv st) : z_W X M k n pc lv (xx :: .ref a :: st) := z_putF C (T := TX3) (N := 7) (ci := 7) (ty := .array (.object "Manypanes$Pane")) hini rfl inX3 tyX3 tyX3_ok nmX3 1 (by decide) kw134 rfl rfl (by decide +kernel) hM (show 1 < 7 by decide) hn hf d kk
theorem pq_X3_20 {v0 v1 v2 v3 v4 v5 v6 xx : Value} {M0 : zM} (C : z_C X cc RX3 nL rm) (hini : (z_me X).name = "<init>") (hn : narrow (.array (.object "Manypanes$Pane")) xx = xx) (hf : fits (.array (.object "Manypanes$Pane")) xx = true) (d : decode cc pc = .ok (.putfield 20, 3)) (kk : z_W X (z_up M0 a (.inr (7, [v0, xx, v2, v3, v4, v5, v6]))) k n (pc + 3) lv st) : z_W X (z_up M0 a (.inr (7, [v0, v1, v2, v3, v4, v5, v6]))) k n pc lv (xx :: .ref a :: st) := pr_X3_20 C hini hn hf (z_up_s _ _ _) d (by rw [z_up_up]; exact kk)
theorem gr_X3_27 {v0 v1 v2 v3 v4 v5 v6 : Value} (C : z_C X cc RX3 nL rm) (hM : M a = some (.inr (7, [v0, v1, v2, v3, v4, v5, v6]))) (d : decode cc pc = .ok (.getfield 27, 3)) (kk : z_W X M k n (pc + 3) lv (v2 :: st)) : z_W X M k n pc lv (.ref a :: st) := z_get C (T := TX3) (N := 7) (ci := 7) rfl inX3 2 (by decide) kw135 hM rfl d kk
theorem pr_X3_27 {v0 v1 v2 v3 v4 v5 v6 xx : Value} (C : z_C X cc RX3 nL rm) (hini : (z_me X).name = "<init>") (hn : narrow (.object "Manypanes$Pane") xx = xx) (hf : fits (.object "Manypanes$Pane") xx = true) (hM : M a = some (.inr (7, [v0, v1, v2, v3, v4, v5, v6]))) (d : decode cc pc = .ok (.putfield 27, 3)) (kk : z_W X (z_up M a (.inr (7, [v0, v1, xx, v3, v4, v5, v6]))) k n (pc + 3) lv st) : z_W X M k n pc lv (xx :: .ref a :: st) := z_putF C (T := TX3) (N := 7) (ci := 7) (ty := .object "Manypanes$Pane") hini rfl inX3 tyX3 tyX3_ok nmX3 2 (by decide) kw135 rfl rfl (by decide +kernel) hM (show 2 < 7 by decide) hn hf d kk
theorem pq_X3_27 {v0 v1 v2 v3 v4 v5 v6 xx : Value} {M0 : zM} (C : z_C X cc RX3 nL rm) (hini : (z_me X).name = "<init>") (hn : narrow (.object "Manypanes$Pane") xx = xx) (hf : fits (.object "Manypanes$Pane") xx = true) (d : decode cc pc = .ok (.putfield 27, 3)) (kk : z_W X (z_up M0 a (.inr (7, [v0, v1, xx, v3, v4, v5, v6]))) k n (pc + 3) lv st) : z_W X (z_up M0 a (.inr (7, [v0, v1, v2, v3, v4, v5, v6]))) k n pc lv (xx :: .ref a :: st) := pr_X3_27 C hini hn hf (z_up_s _ _ _) d (by rw [z_up_up]; exact kk)
theorem gr_X3_34 {v0 v1 v2 v3 v4 v5 v6 : Value} (C : z_C X cc RX3 nL rm) (hM : M a = some (.inr (7, [v0, v1, v2, v3, v4, v5, v6]))) (d : decode cc pc = .ok (.getfield 34, 3)) (kk : z_W X M k n (pc + 3) lv (v3 :: st)) : z_W X M k n pc lv (.ref a :: st) := z_get C (T := TX3) (N := 7) (ci := 7) rfl inX3 3 (by decide) kw136 hM rfl d kk
theorem pr_X3_34 {v0 v1 v2 v3 v4 v5 v6 xx : Value} (C : z_C X cc RX3 nL rm) (hini : (z_me X).name = "<init>") (hn : narrow (.object "Manypanes$Line") xx = xx) (hf : fits (.object "Manypanes$Line") xx = true) (hM : M a = some (.inr (7, [v0, v1, v2, v3, v4, v5, v6]))) (d : decode cc pc = .ok (.putfield 34, 3)) (kk : z_W X (z_up M a (.inr (7, [v0, v1, v2, xx, v4, v5, v6]))) k n (pc + 3) lv st) : z_W X M k n pc lv (xx :: .ref a :: st) := z_putF C (T := TX3) (N := 7) (ci := 7) (ty := .object "Manypanes$Line") hini rfl inX3 tyX3 tyX3_ok nmX3 3 (by decide) kw136 rfl rfl (by decide +kernel) hM (show 3 < 7 by decide) hn hf d kk
theorem pq_X3_34 {v0 v1 v2 v3 v4 v5 v6 xx : Value} {M0 : zM} (C : z_C X cc RX3 nL rm) (hini : (z_me X).name = "<init>") (hn : narrow (.object "Manypanes$Line") xx = xx) (hf : fits (.object "Manypanes$Line") xx = true) (d : decode cc pc = .ok (.putfield 34, 3)) (kk : z_W X (z_up M0 a (.inr (7, [v0, v1, v2, xx, v4, v5, v6]))) k n (pc + 3) lv st) : z_W X (z_up M0 a (.inr (7, [v0, v1, v2, v3, v4, v5, v6]))) k n pc lv (xx :: .ref a :: st) := pr_X3_34 C hini hn hf (z_up_s _ _ _) d (by rw [z_up_up]; exact kk)
theorem gr_X3_38 {v0 v1 v2 v3 v4 v5 v6 : Value} (C : z_C X cc RX3 nL rm) (hM : M a = some (.inr (7, [v0, v1, v2, v3, v4, v5, v6]))) (d : decode cc pc = .ok (.getfield 38, 3)) (kk : z_W X M k n (pc + 3) lv (v4 :: st)) : z_W X M k n pc lv (.ref a :: st) := z_get C (T := TX3) (N := 7) (ci := 7) rfl inX3 4 (by decide) kw137 hM rfl d kk
theorem pr_X3_38 {v0 v1 v2 v3 v4 v5 v6 xx : Value} (C : z_C X cc RX3 nL rm) (hini : (z_me X).name = "<init>") (hn : narrow (.array .int) xx = xx) (hf : fits (.array .int) xx = true) (hM : M a = some (.inr (7, [v0, v1, v2, v3, v4, v5, v6]))) (d : decode cc pc = .ok (.putfield 38, 3)) (kk : z_W X (z_up M a (.inr (7, [v0, v1, v2, v3, xx, v5, v6]))) k n (pc + 3) lv st) : z_W X M k n pc lv (xx :: .ref a :: st) := z_putF C (T := TX3) (N := 7) (ci := 7) (ty := .array .int) hini rfl inX3 tyX3 tyX3_ok nmX3 4 (by decide) kw137 rfl rfl (by decide +kernel) hM (show 4 < 7 by decide) hn hf d kk
theorem pq_X3_38 {v0 v1 v2 v3 v4 v5 v6 xx : Value} {M0 : zM} (C : z_C X cc RX3 nL rm) (hini : (z_me X).name = "<init>") (hn : narrow (.array .int) xx = xx) (hf : fits (.array .int) xx = true) (d : decode cc pc = .ok (.putfield 38, 3)) (kk : z_W X (z_up M0 a (.inr (7, [v0, v1, v2, v3, xx, v5, v6]))) k n (pc + 3) lv st) : z_W X (z_up M0 a (.inr (7, [v0, v1, v2, v3, v4, v5, v6]))) k n pc lv (xx :: .ref a :: st) := pr_X3_38 C hini hn hf (z_up_s _ _ _) d (by rw [z_up_up]; exact kk)
theorem gr_X3_42 {v0 v1 v2 v3 v4 v5 v6 : Value} (C : z_C X cc RX3 nL rm) (hM : M a = some (.inr (7, [v0, v1, v2, v3, v4, v5, v6]))) (d : decode cc pc = .ok (.getfield 42, 3)) (kk : z_W X M k n (pc + 3) lv (v5 :: st)) : z_W X M k n pc lv (.ref a :: st) := z_get C (T := TX3) (N := 7) (ci := 7) rfl inX3 5 (by decide) kw138 hM rfl d kk
theorem pr_X3_42 {v0 v1 v2 v3 v4 v5 v6 xx : Value} (C : z_C X cc RX3 nL rm) (hn : narrow (.int) xx = xx) (hf : fits (.int) xx = true) (hM : M a = some (.inr (7, [v0, v1, v2, v3, v4, v5, v6]))) (d : decode cc pc = .ok (.putfield 42, 3)) (kk : z_W X (z_up M a (.inr (7, [v0, v1, v2, v3, v4, xx, v6]))) k n (pc + 3) lv st) : z_W X M k n pc lv (xx :: .ref a :: st) := z_put C (T := TX3) (N := 7) (ci := 7) (ty := .int) rfl inX3 tyX3 tyX3_ok nmX3 5 (by decide) kw138 rfl (by decide +kernel) hM (show 5 < 7 by decide) hn hf d kk
theorem pq_X3_42 {v0 v1 v2 v3 v4 v5 v6 xx : Value} {M0 : zM} (C : z_C X cc RX3 nL rm) (hn : narrow (.int) xx = xx) (hf : fits (.int) xx = true) (d : decode cc pc = .ok (.putfield 42, 3)) (kk : z_W X (z_up M0 a (.inr (7, [v0, v1, v2, v3, v4, xx, v6]))) k n (pc + 3) lv st) : z_W X (z_up M0 a (.inr (7, [v0, v1, v2, v3, v4, v5, v6]))) k n pc lv (xx :: .ref a :: st) := pr_X3_42 C hn hf (z_up_s _ _ _) d (by rw [z_up_up]; exact kk)
theorem gr_X3_46 {v0 v1 v2 v3 v4 v5 v6 : Value} (C : z_C X cc RX3 nL rm) (hM : M a = some (.inr (7, [v0, v1, v2, v3, v4, v5, v6]))) (d : decode cc pc = .ok (.getfield 46, 3)) (kk : z_W X M k n (pc + 3) lv (v6 :: st)) : z_W X M k n pc lv (.ref a :: st) := z_get C (T := TX3) (N := 7) (ci := 7) rfl inX3 6 (by decide) kw139 hM rfl d kk
theorem pr_X3_46 {v0 v1 v2 v3 v4 v5 v6 xx : Value} (C : z_C X cc RX3 nL rm) (hn : narrow (.int) xx = xx) (hf : fits (.int) xx = true) (hM : M a = some (.inr (7, [v0, v1, v2, v3, v4, v5, v6]))) (d : decode cc pc = .ok (.putfield 46, 3)) (kk : z_W X (z_up M a (.inr (7, [v0, v1, v2, v3, v4, v5, xx]))) k n (pc + 3) lv st) : z_W X M k n pc lv (xx :: .ref a :: st) := z_put C (T := TX3) (N := 7) (ci := 7) (ty := .int) rfl inX3 tyX3 tyX3_ok nmX3 6 (by decide) kw139 rfl (by decide +kernel) hM (show 6 < 7 by decide) hn hf d kk
theorem pq_X3_46 {v0 v1 v2 v3 v4 v5 v6 xx : Value} {M0 : zM} (C : z_C X cc RX3 nL rm) (hn : narrow (.int) xx = xx) (hf : fits (.int) xx = true) (d : decode cc pc = .ok (.putfield 46, 3)) (kk : z_W X (z_up M0 a (.inr (7, [v0, v1, v2, v3, v4, v5, xx]))) k n (pc + 3) lv st) : z_W X (z_up M0 a (.inr (7, [v0, v1, v2, v3, v4, v5, v6]))) k n pc lv (xx :: .ref a :: st) := pr_X3_46 C hn hf (z_up_s _ _ _) d (by rw [z_up_up]; exact kk)
theorem gr_X3_60 {v0 v1 v2 v3 v4 v5 v6 : Value} (C : z_C X cc RX3 nL rm) (hM : M a = some (.inr (5, [v0, v1, v2, v3, v4, v5, v6]))) (d : decode cc pc = .ok (.getfield 60, 3)) (kk : z_W X M k n (pc + 3) lv (v3 :: st)) : z_W X M k n pc lv (.ref a :: st) := z_getN (host := "Manypanes") C (T := TX1) (N := 7) (ci := 5) rfl inX1 3 (by decide) kn64 hM rfl d kk
theorem gr_X3_63 {v0 v1 v2 v3 v4 v5 v6 : Value} (C : z_C X cc RX3 nL rm) (hM : M a = some (.inr (5, [v0, v1, v2, v3, v4, v5, v6]))) (d : decode cc pc = .ok (.getfield 63, 3)) (kk : z_W X M k n (pc + 3) lv (v4 :: st)) : z_W X M k n pc lv (.ref a :: st) := z_getN (host := "Manypanes") C (T := TX1) (N := 7) (ci := 5) rfl inX1 4 (by decide) kn67 hM rfl d kk
theorem gr_X3_89 {v0 v1 v2 v3 v4 v5 v6 : Value} (C : z_C X cc RX3 nL rm) (hM : M a = some (.inr (5, [v0, v1, v2, v3, v4, v5, v6]))) (d : decode cc pc = .ok (.getfield 89, 3)) (kk : z_W X M k n (pc + 3) lv (v6 :: st)) : z_W X M k n pc lv (.ref a :: st) := z_getN (host := "Manypanes") C (T := TX1) (N := 7) (ci := 5) rfl inX1 6 (by decide) kn73 hM rfl d kk
theorem gr_X3_100 {v0 v1 v2 v3 v4 v5 v6 : Value} (C : z_C X cc RX3 nL rm) (hM : M a = some (.inr (5, [v0, v1, v2, v3, v4, v5, v6]))) (d : decode cc pc = .ok (.getfield 100, 3)) (kk : z_W X M k n (pc + 3) lv (v2 :: st)) : z_W X M k n pc lv (.ref a :: st) := z_getN (host := "Manypanes") C (T := TX1) (N := 7) (ci := 5) rfl inX1 2 (by decide) kn62 hM rfl d kk
theorem gr_X3_106 {v0 v1 v2 v3 v4 v5 v6 : Value} (C : z_C X cc RX3 nL rm) (hM : M a = some (.inr (5, [v0, v1, v2, v3, v4, v5, v6]))) (d : decode cc pc = .ok (.getfield 106, 3)) (kk : z_W X M k n (pc + 3) lv (v5 :: st)) : z_W X M k n pc lv (.ref a :: st) := z_getN (host := "Manypanes") C (T := TX1) (N := 7) (ci := 5) rfl inX1 5 (by decide) kn71 hM rfl d kk
theorem gr_X3_230 {v0 v1 v2 v3 v4 v5 v6 : Value} (C : z_C X cc RX3 nL rm) (hM : M a = some (.inr (5, [v0, v1, v2, v3, v4, v5, v6]))) (d : decode cc pc = .ok (.getfield 230, 3)) (kk : z_W X M k n (pc + 3) lv (v0 :: st)) : z_W X M k n pc lv (.ref a :: st) := z_getN (host := "Manypanes") C (T := TX1) (N := 7) (ci := 5) rfl inX1 0 (by decide) kn57 hM rfl d kk
theorem gr_X3_233 {v0 v1 v2 v3 v4 v5 v6 : Value} (C : z_C X cc RX3 nL rm) (hM : M a = some (.inr (5, [v0, v1, v2, v3, v4, v5, v6]))) (d : decode cc pc = .ok (.getfield 233, 3)) (kk : z_W X M k n (pc + 3) lv (v1 :: st)) : z_W X M k n pc lv (.ref a :: st) := z_getN (host := "Manypanes") C (T := TX1) (N := 7) (ci := 5) rfl inX1 1 (by decide) kn59 hM rfl d kk
theorem gr_X3_247 {v0 : Value} (C : z_C X cc RX3 nL rm) (hM : M a = some (.inr (4, [v0]))) (d : decode cc pc = .ok (.getfield 247, 3)) (kk : z_W X M k n (pc + 3) lv (v0 :: st)) : z_W X M k n pc lv (.ref a :: st) := z_getN (host := "Manypanes") C (T := TX0) (N := 1) (ci := 4) rfl inX0 0 (by decide) kn129 hM rfl d kk
theorem gr_X0_10 {v0 : Value} (C : z_C X cc RX0 nL rm) (hM : M a = some (.inr (4, [v0]))) (d : decode cc pc = .ok (.getfield 10, 3)) (kk : z_W X M k n (pc + 3) lv (v0 :: st)) : z_W X M k n pc lv (.ref a :: st) := z_get C (T := TX0) (N := 1) (ci := 4) rfl inX0 0 (by decide) kw128 hM rfl d kk
theorem pr_X0_10 {v0 xx : Value} (C : z_C X cc RX0 nL rm) (hini : (z_me X).name = "<init>") (hn : narrow (.object "java/lang/StringBuilder") xx = xx) (hf : fits (.object "java/lang/StringBuilder") xx = true) (hM : M a = some (.inr (4, [v0]))) (d : decode cc pc = .ok (.putfield 10, 3)) (kk : z_W X (z_up M a (.inr (4, [xx]))) k n (pc + 3) lv st) : z_W X M k n pc lv (xx :: .ref a :: st) := z_putF C (T := TX0) (N := 1) (ci := 4) (ty := .object "java/lang/StringBuilder") hini rfl inX0 tyX0 tyX0_ok nmX0 0 (by decide) kw128 rfl rfl (by decide +kernel) hM (show 0 < 1 by decide) hn hf d kk
theorem pq_X0_10 {v0 xx : Value} {M0 : zM} (C : z_C X cc RX0 nL rm) (hini : (z_me X).name = "<init>") (hn : narrow (.object "java/lang/StringBuilder") xx = xx) (hf : fits (.object "java/lang/StringBuilder") xx = true) (d : decode cc pc = .ok (.putfield 10, 3)) (kk : z_W X (z_up M0 a (.inr (4, [xx]))) k n (pc + 3) lv st) : z_W X (z_up M0 a (.inr (4, [v0]))) k n pc lv (xx :: .ref a :: st) := pr_X0_10 C hini hn hf (z_up_s _ _ _) d (by rw [z_up_up]; exact kk)
theorem gr_X0_24 {v0 v1 v2 v3 v4 v5 v6 : Value} (C : z_C X cc RX0 nL rm) (hM : M a = some (.inr (5, [v0, v1, v2, v3, v4, v5, v6]))) (d : decode cc pc = .ok (.getfield 24, 3)) (kk : z_W X M k n (pc + 3) lv (v3 :: st)) : z_W X M k n pc lv (.ref a :: st) := z_getN (host := "Manypanes") C (T := TX1) (N := 7) (ci := 5) rfl inX1 3 (by decide) kn65 hM rfl d kk
theorem gr_X0_30 {v0 v1 v2 v3 v4 v5 v6 : Value} (C : z_C X cc RX0 nL rm) (hM : M a = some (.inr (5, [v0, v1, v2, v3, v4, v5, v6]))) (d : decode cc pc = .ok (.getfield 30, 3)) (kk : z_W X M k n (pc + 3) lv (v4 :: st)) : z_W X M k n pc lv (.ref a :: st) := z_getN (host := "Manypanes") C (T := TX1) (N := 7) (ci := 5) rfl inX1 4 (by decide) kn68 hM rfl d kk
theorem gr_X0_45 {v0 v1 v2 v3 v4 v5 v6 : Value} (C : z_C X cc RX0 nL rm) (hM : M a = some (.inr (5, [v0, v1, v2, v3, v4, v5, v6]))) (d : decode cc pc = .ok (.getfield 45, 3)) (kk : z_W X M k n (pc + 3) lv (v2 :: st)) : z_W X M k n pc lv (.ref a :: st) := z_getN (host := "Manypanes") C (T := TX1) (N := 7) (ci := 5) rfl inX1 2 (by decide) kn61 hM rfl d kk
theorem gr_X0_52 {v0 v1 v2 v3 v4 v5 v6 : Value} (C : z_C X cc RX0 nL rm) (hM : M a = some (.inr (5, [v0, v1, v2, v3, v4, v5, v6]))) (d : decode cc pc = .ok (.getfield 52, 3)) (kk : z_W X M k n (pc + 3) lv (v5 :: st)) : z_W X M k n pc lv (.ref a :: st) := z_getN (host := "Manypanes") C (T := TX1) (N := 7) (ci := 5) rfl inX1 5 (by decide) kn70 hM rfl d kk
theorem gr_X1_9 {v0 v1 v2 v3 v4 v5 v6 : Value} (C : z_C X cc RX1 nL rm) (hM : M a = some (.inr (5, [v0, v1, v2, v3, v4, v5, v6]))) (d : decode cc pc = .ok (.getfield 9, 3)) (kk : z_W X M k n (pc + 3) lv (v0 :: st)) : z_W X M k n pc lv (.ref a :: st) := z_get C (T := TX1) (N := 7) (ci := 5) rfl inX1 0 (by decide) kw56 hM rfl d kk
theorem pr_X1_9 {v0 v1 v2 v3 v4 v5 v6 xx : Value} (C : z_C X cc RX1 nL rm) (hn : narrow (.object "Manypanes$Row") xx = xx) (hf : fits (.object "Manypanes$Row") xx = true) (hM : M a = some (.inr (5, [v0, v1, v2, v3, v4, v5, v6]))) (d : decode cc pc = .ok (.putfield 9, 3)) (kk : z_W X (z_up M a (.inr (5, [xx, v1, v2, v3, v4, v5, v6]))) k n (pc + 3) lv st) : z_W X M k n pc lv (xx :: .ref a :: st) := z_put C (T := TX1) (N := 7) (ci := 5) (ty := .object "Manypanes$Row") rfl inX1 tyX1 tyX1_ok nmX1 0 (by decide) kw56 rfl (by decide +kernel) hM (show 0 < 7 by decide) hn hf d kk
theorem pq_X1_9 {v0 v1 v2 v3 v4 v5 v6 xx : Value} {M0 : zM} (C : z_C X cc RX1 nL rm) (hn : narrow (.object "Manypanes$Row") xx = xx) (hf : fits (.object "Manypanes$Row") xx = true) (d : decode cc pc = .ok (.putfield 9, 3)) (kk : z_W X (z_up M0 a (.inr (5, [xx, v1, v2, v3, v4, v5, v6]))) k n (pc + 3) lv st) : z_W X (z_up M0 a (.inr (5, [v0, v1, v2, v3, v4, v5, v6]))) k n pc lv (xx :: .ref a :: st) := pr_X1_9 C hn hf (z_up_s _ _ _) d (by rw [z_up_up]; exact kk)
theorem gr_X1_15 {v0 v1 v2 v3 v4 v5 v6 : Value} (C : z_C X cc RX1 nL rm) (hM : M a = some (.inr (5, [v0, v1, v2, v3, v4, v5, v6]))) (d : decode cc pc = .ok (.getfield 15, 3)) (kk : z_W X M k n (pc + 3) lv (v1 :: st)) : z_W X M k n pc lv (.ref a :: st) := z_get C (T := TX1) (N := 7) (ci := 5) rfl inX1 1 (by decide) kw58 hM rfl d kk
theorem pr_X1_15 {v0 v1 v2 v3 v4 v5 v6 xx : Value} (C : z_C X cc RX1 nL rm) (hn : narrow (.int) xx = xx) (hf : fits (.int) xx = true) (hM : M a = some (.inr (5, [v0, v1, v2, v3, v4, v5, v6]))) (d : decode cc pc = .ok (.putfield 15, 3)) (kk : z_W X (z_up M a (.inr (5, [v0, xx, v2, v3, v4, v5, v6]))) k n (pc + 3) lv st) : z_W X M k n pc lv (xx :: .ref a :: st) := z_put C (T := TX1) (N := 7) (ci := 5) (ty := .int) rfl inX1 tyX1 tyX1_ok nmX1 1 (by decide) kw58 rfl (by decide +kernel) hM (show 1 < 7 by decide) hn hf d kk
theorem pq_X1_15 {v0 v1 v2 v3 v4 v5 v6 xx : Value} {M0 : zM} (C : z_C X cc RX1 nL rm) (hn : narrow (.int) xx = xx) (hf : fits (.int) xx = true) (d : decode cc pc = .ok (.putfield 15, 3)) (kk : z_W X (z_up M0 a (.inr (5, [v0, xx, v2, v3, v4, v5, v6]))) k n (pc + 3) lv st) : z_W X (z_up M0 a (.inr (5, [v0, v1, v2, v3, v4, v5, v6]))) k n pc lv (xx :: .ref a :: st) := pr_X1_15 C hn hf (z_up_s _ _ _) d (by rw [z_up_up]; exact kk)
theorem gr_X1_25 {v0 v1 v2 v3 v4 v5 v6 : Value} (C : z_C X cc RX1 nL rm) (hM : M a = some (.inr (5, [v0, v1, v2, v3, v4, v5, v6]))) (d : decode cc pc = .ok (.getfield 25, 3)) (kk : z_W X M k n (pc + 3) lv (v2 :: st)) : z_W X M k n pc lv (.ref a :: st) := z_get C (T := TX1) (N := 7) (ci := 5) rfl inX1 2 (by decide) kw60 hM rfl d kk
theorem pr_X1_25 {v0 v1 v2 v3 v4 v5 v6 xx : Value} (C : z_C X cc RX1 nL rm) (hn : narrow (.int) xx = xx) (hf : fits (.int) xx = true) (hM : M a = some (.inr (5, [v0, v1, v2, v3, v4, v5, v6]))) (d : decode cc pc = .ok (.putfield 25, 3)) (kk : z_W X (z_up M a (.inr (5, [v0, v1, xx, v3, v4, v5, v6]))) k n (pc + 3) lv st) : z_W X M k n pc lv (xx :: .ref a :: st) := z_put C (T := TX1) (N := 7) (ci := 5) (ty := .int) rfl inX1 tyX1 tyX1_ok nmX1 2 (by decide) kw60 rfl (by decide +kernel) hM (show 2 < 7 by decide) hn hf d kk
theorem pq_X1_25 {v0 v1 v2 v3 v4 v5 v6 xx : Value} {M0 : zM} (C : z_C X cc RX1 nL rm) (hn : narrow (.int) xx = xx) (hf : fits (.int) xx = true) (d : decode cc pc = .ok (.putfield 25, 3)) (kk : z_W X (z_up M0 a (.inr (5, [v0, v1, xx, v3, v4, v5, v6]))) k n (pc + 3) lv st) : z_W X (z_up M0 a (.inr (5, [v0, v1, v2, v3, v4, v5, v6]))) k n pc lv (xx :: .ref a :: st) := pr_X1_25 C hn hf (z_up_s _ _ _) d (by rw [z_up_up]; exact kk)
theorem gr_X1_28 {v0 v1 v2 v3 v4 v5 v6 : Value} (C : z_C X cc RX1 nL rm) (hM : M a = some (.inr (5, [v0, v1, v2, v3, v4, v5, v6]))) (d : decode cc pc = .ok (.getfield 28, 3)) (kk : z_W X M k n (pc + 3) lv (v3 :: st)) : z_W X M k n pc lv (.ref a :: st) := z_get C (T := TX1) (N := 7) (ci := 5) rfl inX1 3 (by decide) kw63 hM rfl d kk
theorem pr_X1_28 {v0 v1 v2 v3 v4 v5 v6 xx : Value} (C : z_C X cc RX1 nL rm) (hn : narrow (.int) xx = xx) (hf : fits (.int) xx = true) (hM : M a = some (.inr (5, [v0, v1, v2, v3, v4, v5, v6]))) (d : decode cc pc = .ok (.putfield 28, 3)) (kk : z_W X (z_up M a (.inr (5, [v0, v1, v2, xx, v4, v5, v6]))) k n (pc + 3) lv st) : z_W X M k n pc lv (xx :: .ref a :: st) := z_put C (T := TX1) (N := 7) (ci := 5) (ty := .int) rfl inX1 tyX1 tyX1_ok nmX1 3 (by decide) kw63 rfl (by decide +kernel) hM (show 3 < 7 by decide) hn hf d kk
theorem pq_X1_28 {v0 v1 v2 v3 v4 v5 v6 xx : Value} {M0 : zM} (C : z_C X cc RX1 nL rm) (hn : narrow (.int) xx = xx) (hf : fits (.int) xx = true) (d : decode cc pc = .ok (.putfield 28, 3)) (kk : z_W X (z_up M0 a (.inr (5, [v0, v1, v2, xx, v4, v5, v6]))) k n (pc + 3) lv st) : z_W X (z_up M0 a (.inr (5, [v0, v1, v2, v3, v4, v5, v6]))) k n pc lv (xx :: .ref a :: st) := pr_X1_28 C hn hf (z_up_s _ _ _) d (by rw [z_up_up]; exact kk)
theorem gr_X1_31 {v0 v1 v2 v3 v4 v5 v6 : Value} (C : z_C X cc RX1 nL rm) (hM : M a = some (.inr (5, [v0, v1, v2, v3, v4, v5, v6]))) (d : decode cc pc = .ok (.getfield 31, 3)) (kk : z_W X M k n (pc + 3) lv (v4 :: st)) : z_W X M k n pc lv (.ref a :: st) := z_get C (T := TX1) (N := 7) (ci := 5) rfl inX1 4 (by decide) kw66 hM rfl d kk
theorem pr_X1_31 {v0 v1 v2 v3 v4 v5 v6 xx : Value} (C : z_C X cc RX1 nL rm) (hn : narrow (.int) xx = xx) (hf : fits (.int) xx = true) (hM : M a = some (.inr (5, [v0, v1, v2, v3, v4, v5, v6]))) (d : decode cc pc = .ok (.putfield 31, 3)) (kk : z_W X (z_up M a (.inr (5, [v0, v1, v2, v3, xx, v5, v6]))) k n (pc + 3) lv st) : z_W X M k n pc lv (xx :: .ref a :: st) := z_put C (T := TX1) (N := 7) (ci := 5) (ty := .int) rfl inX1 tyX1 tyX1_ok nmX1 4 (by decide) kw66 rfl (by decide +kernel) hM (show 4 < 7 by decide) hn hf d kk
theorem pq_X1_31 {v0 v1 v2 v3 v4 v5 v6 xx : Value} {M0 : zM} (C : z_C X cc RX1 nL rm) (hn : narrow (.int) xx = xx) (hf : fits (.int) xx = true) (d : decode cc pc = .ok (.putfield 31, 3)) (kk : z_W X (z_up M0 a (.inr (5, [v0, v1, v2, v3, xx, v5, v6]))) k n (pc + 3) lv st) : z_W X (z_up M0 a (.inr (5, [v0, v1, v2, v3, v4, v5, v6]))) k n pc lv (xx :: .ref a :: st) := pr_X1_31 C hn hf (z_up_s _ _ _) d (by rw [z_up_up]; exact kk)
theorem gr_X1_34 {v0 v1 v2 v3 v4 v5 v6 : Value} (C : z_C X cc RX1 nL rm) (hM : M a = some (.inr (5, [v0, v1, v2, v3, v4, v5, v6]))) (d : decode cc pc = .ok (.getfield 34, 3)) (kk : z_W X M k n (pc + 3) lv (v5 :: st)) : z_W X M k n pc lv (.ref a :: st) := z_get C (T := TX1) (N := 7) (ci := 5) rfl inX1 5 (by decide) kw69 hM rfl d kk
theorem pr_X1_34 {v0 v1 v2 v3 v4 v5 v6 xx : Value} (C : z_C X cc RX1 nL rm) (hn : narrow (.int) xx = xx) (hf : fits (.int) xx = true) (hM : M a = some (.inr (5, [v0, v1, v2, v3, v4, v5, v6]))) (d : decode cc pc = .ok (.putfield 34, 3)) (kk : z_W X (z_up M a (.inr (5, [v0, v1, v2, v3, v4, xx, v6]))) k n (pc + 3) lv st) : z_W X M k n pc lv (xx :: .ref a :: st) := z_put C (T := TX1) (N := 7) (ci := 5) (ty := .int) rfl inX1 tyX1 tyX1_ok nmX1 5 (by decide) kw69 rfl (by decide +kernel) hM (show 5 < 7 by decide) hn hf d kk
theorem pq_X1_34 {v0 v1 v2 v3 v4 v5 v6 xx : Value} {M0 : zM} (C : z_C X cc RX1 nL rm) (hn : narrow (.int) xx = xx) (hf : fits (.int) xx = true) (d : decode cc pc = .ok (.putfield 34, 3)) (kk : z_W X (z_up M0 a (.inr (5, [v0, v1, v2, v3, v4, xx, v6]))) k n (pc + 3) lv st) : z_W X (z_up M0 a (.inr (5, [v0, v1, v2, v3, v4, v5, v6]))) k n pc lv (xx :: .ref a :: st) := pr_X1_34 C hn hf (z_up_s _ _ _) d (by rw [z_up_up]; exact kk)
theorem gr_X1_37 {v0 v1 v2 v3 v4 v5 v6 : Value} (C : z_C X cc RX1 nL rm) (hM : M a = some (.inr (5, [v0, v1, v2, v3, v4, v5, v6]))) (d : decode cc pc = .ok (.getfield 37, 3)) (kk : z_W X M k n (pc + 3) lv (v6 :: st)) : z_W X M k n pc lv (.ref a :: st) := z_get C (T := TX1) (N := 7) (ci := 5) rfl inX1 6 (by decide) kw72 hM rfl d kk
theorem pr_X1_37 {v0 v1 v2 v3 v4 v5 v6 xx : Value} (C : z_C X cc RX1 nL rm) (hn : narrow (.boolean) xx = xx) (hf : fits (.boolean) xx = true) (hM : M a = some (.inr (5, [v0, v1, v2, v3, v4, v5, v6]))) (d : decode cc pc = .ok (.putfield 37, 3)) (kk : z_W X (z_up M a (.inr (5, [v0, v1, v2, v3, v4, v5, xx]))) k n (pc + 3) lv st) : z_W X M k n pc lv (xx :: .ref a :: st) := z_put C (T := TX1) (N := 7) (ci := 5) (ty := .boolean) rfl inX1 tyX1 tyX1_ok nmX1 6 (by decide) kw72 rfl (by decide +kernel) hM (show 6 < 7 by decide) hn hf d kk
theorem pq_X1_37 {v0 v1 v2 v3 v4 v5 v6 xx : Value} {M0 : zM} (C : z_C X cc RX1 nL rm) (hn : narrow (.boolean) xx = xx) (hf : fits (.boolean) xx = true) (d : decode cc pc = .ok (.putfield 37, 3)) (kk : z_W X (z_up M0 a (.inr (5, [v0, v1, v2, v3, v4, v5, xx]))) k n (pc + 3) lv st) : z_W X (z_up M0 a (.inr (5, [v0, v1, v2, v3, v4, v5, v6]))) k n pc lv (xx :: .ref a :: st) := pr_X1_37 C hn hf (z_up_s _ _ _) d (by rw [z_up_up]; exact kk)
theorem gr_X2_7 {v0 : Value} (C : z_C X cc RX2 nL rm) (hM : M a = some (.inr (6, [v0]))) (d : decode cc pc = .ok (.getfield 7, 3)) (kk : z_W X M k n (pc + 3) lv (v0 :: st)) : z_W X M k n pc lv (.ref a :: st) := z_get C (T := TX2) (N := 1) (ci := 6) rfl inX2 0 (by decide) kw40 hM rfl d kk
theorem pr_X2_7 {v0 xx : Value} (C : z_C X cc RX2 nL rm) (hini : (z_me X).name = "<init>") (hn : narrow (.array .int) xx = xx) (hf : fits (.array .int) xx = true) (hM : M a = some (.inr (6, [v0]))) (d : decode cc pc = .ok (.putfield 7, 3)) (kk : z_W X (z_up M a (.inr (6, [xx]))) k n (pc + 3) lv st) : z_W X M k n pc lv (xx :: .ref a :: st) := z_putF C (T := TX2) (N := 1) (ci := 6) (ty := .array .int) hini rfl inX2 tyX2 tyX2_ok nmX2 0 (by decide) kw40 rfl rfl (by decide +kernel) hM (show 0 < 1 by decide) hn hf d kk
theorem pq_X2_7 {v0 xx : Value} {M0 : zM} (C : z_C X cc RX2 nL rm) (hini : (z_me X).name = "<init>") (hn : narrow (.array .int) xx = xx) (hf : fits (.array .int) xx = true) (d : decode cc pc = .ok (.putfield 7, 3)) (kk : z_W X (z_up M0 a (.inr (6, [xx]))) k n (pc + 3) lv st) : z_W X (z_up M0 a (.inr (6, [v0]))) k n pc lv (xx :: .ref a :: st) := pr_X2_7 C hini hn hf (z_up_s _ _ _) d (by rw [z_up_up]; exact kk)
theorem gr_L_13 {v0 v1 : Value} (C : z_C X cc RL nL rm) (hM : M a = some (.inr (8, [v0, v1]))) (d : decode cc pc = .ok (.getfield 13, 3)) (kk : z_W X M k n (pc + 3) lv (v0 :: st)) : z_W X M k n pc lv (.ref a :: st) := z_getN (host := "ManypanesLaw") C (T := TX4) (N := 2) (ci := 8) rfl inX4 0 (by decide) kn683 hM rfl d kk
theorem gr_L_117 {v0 v1 : Value} (C : z_C X cc RL nL rm) (hM : M a = some (.inr (8, [v0, v1]))) (d : decode cc pc = .ok (.getfield 117, 3)) (kk : z_W X M k n (pc + 3) lv (v1 :: st)) : z_W X M k n pc lv (.ref a :: st) := z_getN (host := "ManypanesLaw") C (T := TX4) (N := 2) (ci := 8) rfl inX4 1 (by decide) kn684 hM rfl d kk
theorem gr_X5_9 {v0 v1 v2 v3 v4 v5 v6 : Value} (C : z_C X cc RX5 nL rm) (hM : M a = some (.inr (9, [v0, v1, v2, v3, v4, v5, v6]))) (d : decode cc pc = .ok (.getfield 9, 3)) (kk : z_W X M k n (pc + 3) lv (v0 :: st)) : z_W X M k n pc lv (.ref a :: st) := z_get C (T := TX5) (N := 7) (ci := 9) rfl inX5 0 (by decide) kw1050 hM rfl d kk
theorem pr_X5_9 {v0 v1 v2 v3 v4 v5 v6 xx : Value} (C : z_C X cc RX5 nL rm) (hn : narrow (.array .int) xx = xx) (hf : fits (.array .int) xx = true) (hM : M a = some (.inr (9, [v0, v1, v2, v3, v4, v5, v6]))) (d : decode cc pc = .ok (.putfield 9, 3)) (kk : z_W X (z_up M a (.inr (9, [xx, v1, v2, v3, v4, v5, v6]))) k n (pc + 3) lv st) : z_W X M k n pc lv (xx :: .ref a :: st) := z_put C (T := TX5) (N := 7) (ci := 9) (ty := .array .int) rfl inX5 tyX5 tyX5_ok nmX5 0 (by decide) kw1050 rfl (by decide +kernel) hM (show 0 < 7 by decide) hn hf d kk
theorem pq_X5_9 {v0 v1 v2 v3 v4 v5 v6 xx : Value} {M0 : zM} (C : z_C X cc RX5 nL rm) (hn : narrow (.array .int) xx = xx) (hf : fits (.array .int) xx = true) (d : decode cc pc = .ok (.putfield 9, 3)) (kk : z_W X (z_up M0 a (.inr (9, [xx, v1, v2, v3, v4, v5, v6]))) k n (pc + 3) lv st) : z_W X (z_up M0 a (.inr (9, [v0, v1, v2, v3, v4, v5, v6]))) k n pc lv (xx :: .ref a :: st) := pr_X5_9 C hn hf (z_up_s _ _ _) d (by rw [z_up_up]; exact kk)
theorem gr_X5_13 {v0 v1 v2 v3 v4 v5 v6 : Value} (C : z_C X cc RX5 nL rm) (hM : M a = some (.inr (9, [v0, v1, v2, v3, v4, v5, v6]))) (d : decode cc pc = .ok (.getfield 13, 3)) (kk : z_W X M k n (pc + 3) lv (v1 :: st)) : z_W X M k n pc lv (.ref a :: st) := z_get C (T := TX5) (N := 7) (ci := 9) rfl inX5 1 (by decide) kw1051 hM rfl d kk
theorem pr_X5_13 {v0 v1 v2 v3 v4 v5 v6 xx : Value} (C : z_C X cc RX5 nL rm) (hn : narrow (.int) xx = xx) (hf : fits (.int) xx = true) (hM : M a = some (.inr (9, [v0, v1, v2, v3, v4, v5, v6]))) (d : decode cc pc = .ok (.putfield 13, 3)) (kk : z_W X (z_up M a (.inr (9, [v0, xx, v2, v3, v4, v5, v6]))) k n (pc + 3) lv st) : z_W X M k n pc lv (xx :: .ref a :: st) := z_put C (T := TX5) (N := 7) (ci := 9) (ty := .int) rfl inX5 tyX5 tyX5_ok nmX5 1 (by decide) kw1051 rfl (by decide +kernel) hM (show 1 < 7 by decide) hn hf d kk
theorem pq_X5_13 {v0 v1 v2 v3 v4 v5 v6 xx : Value} {M0 : zM} (C : z_C X cc RX5 nL rm) (hn : narrow (.int) xx = xx) (hf : fits (.int) xx = true) (d : decode cc pc = .ok (.putfield 13, 3)) (kk : z_W X (z_up M0 a (.inr (9, [v0, xx, v2, v3, v4, v5, v6]))) k n (pc + 3) lv st) : z_W X (z_up M0 a (.inr (9, [v0, v1, v2, v3, v4, v5, v6]))) k n pc lv (xx :: .ref a :: st) := pr_X5_13 C hn hf (z_up_s _ _ _) d (by rw [z_up_up]; exact kk)
theorem gr_X5_18 {v0 v1 v2 v3 v4 v5 v6 : Value} (C : z_C X cc RX5 nL rm) (hM : M a = some (.inr (9, [v0, v1, v2, v3, v4, v5, v6]))) (d : decode cc pc = .ok (.getfield 18, 3)) (kk : z_W X M k n (pc + 3) lv (v2 :: st)) : z_W X M k n pc lv (.ref a :: st) := z_get C (T := TX5) (N := 7) (ci := 9) rfl inX5 2 (by decide) kw1052 hM rfl d kk
theorem pr_X5_18 {v0 v1 v2 v3 v4 v5 v6 xx : Value} (C : z_C X cc RX5 nL rm) (hini : (z_me X).name = "<init>") (hn : narrow (.array (.array .int)) xx = xx) (hf : fits (.array (.array .int)) xx = true) (hM : M a = some (.inr (9, [v0, v1, v2, v3, v4, v5, v6]))) (d : decode cc pc = .ok (.putfield 18, 3)) (kk : z_W X (z_up M a (.inr (9, [v0, v1, xx, v3, v4, v5, v6]))) k n (pc + 3) lv st) : z_W X M k n pc lv (xx :: .ref a :: st) := z_putF C (T := TX5) (N := 7) (ci := 9) (ty := .array (.array .int)) hini rfl inX5 tyX5 tyX5_ok nmX5 2 (by decide) kw1052 rfl rfl (by decide +kernel) hM (show 2 < 7 by decide) hn hf d kk
theorem pq_X5_18 {v0 v1 v2 v3 v4 v5 v6 xx : Value} {M0 : zM} (C : z_C X cc RX5 nL rm) (hini : (z_me X).name = "<init>") (hn : narrow (.array (.array .int)) xx = xx) (hf : fits (.array (.array .int)) xx = true) (d : decode cc pc = .ok (.putfield 18, 3)) (kk : z_W X (z_up M0 a (.inr (9, [v0, v1, xx, v3, v4, v5, v6]))) k n (pc + 3) lv st) : z_W X (z_up M0 a (.inr (9, [v0, v1, v2, v3, v4, v5, v6]))) k n pc lv (xx :: .ref a :: st) := pr_X5_18 C hini hn hf (z_up_s _ _ _) d (by rw [z_up_up]; exact kk)
theorem gr_X5_22 {v0 v1 v2 v3 v4 v5 v6 : Value} (C : z_C X cc RX5 nL rm) (hM : M a = some (.inr (9, [v0, v1, v2, v3, v4, v5, v6]))) (d : decode cc pc = .ok (.getfield 22, 3)) (kk : z_W X M k n (pc + 3) lv (v3 :: st)) : z_W X M k n pc lv (.ref a :: st) := z_get C (T := TX5) (N := 7) (ci := 9) rfl inX5 3 (by decide) kw1053 hM rfl d kk
theorem pr_X5_22 {v0 v1 v2 v3 v4 v5 v6 xx : Value} (C : z_C X cc RX5 nL rm) (hini : (z_me X).name = "<init>") (hn : narrow (.array .int) xx = xx) (hf : fits (.array .int) xx = true) (hM : M a = some (.inr (9, [v0, v1, v2, v3, v4, v5, v6]))) (d : decode cc pc = .ok (.putfield 22, 3)) (kk : z_W X (z_up M a (.inr (9, [v0, v1, v2, xx, v4, v5, v6]))) k n (pc + 3) lv st) : z_W X M k n pc lv (xx :: .ref a :: st) := z_putF C (T := TX5) (N := 7) (ci := 9) (ty := .array .int) hini rfl inX5 tyX5 tyX5_ok nmX5 3 (by decide) kw1053 rfl rfl (by decide +kernel) hM (show 3 < 7 by decide) hn hf d kk
theorem pq_X5_22 {v0 v1 v2 v3 v4 v5 v6 xx : Value} {M0 : zM} (C : z_C X cc RX5 nL rm) (hini : (z_me X).name = "<init>") (hn : narrow (.array .int) xx = xx) (hf : fits (.array .int) xx = true) (d : decode cc pc = .ok (.putfield 22, 3)) (kk : z_W X (z_up M0 a (.inr (9, [v0, v1, v2, xx, v4, v5, v6]))) k n (pc + 3) lv st) : z_W X (z_up M0 a (.inr (9, [v0, v1, v2, v3, v4, v5, v6]))) k n pc lv (xx :: .ref a :: st) := pr_X5_22 C hini hn hf (z_up_s _ _ _) d (by rw [z_up_up]; exact kk)
theorem gr_X5_33 {v0 v1 v2 v3 v4 v5 v6 : Value} (C : z_C X cc RX5 nL rm) (hM : M a = some (.inr (9, [v0, v1, v2, v3, v4, v5, v6]))) (d : decode cc pc = .ok (.getfield 33, 3)) (kk : z_W X M k n (pc + 3) lv (v6 :: st)) : z_W X M k n pc lv (.ref a :: st) := z_get C (T := TX5) (N := 7) (ci := 9) rfl inX5 6 (by decide) kw1056 hM rfl d kk
theorem pr_X5_33 {v0 v1 v2 v3 v4 v5 v6 xx : Value} (C : z_C X cc RX5 nL rm) (hn : narrow (.int) xx = xx) (hf : fits (.int) xx = true) (hM : M a = some (.inr (9, [v0, v1, v2, v3, v4, v5, v6]))) (d : decode cc pc = .ok (.putfield 33, 3)) (kk : z_W X (z_up M a (.inr (9, [v0, v1, v2, v3, v4, v5, xx]))) k n (pc + 3) lv st) : z_W X M k n pc lv (xx :: .ref a :: st) := z_put C (T := TX5) (N := 7) (ci := 9) (ty := .int) rfl inX5 tyX5 tyX5_ok nmX5 6 (by decide) kw1056 rfl (by decide +kernel) hM (show 6 < 7 by decide) hn hf d kk
theorem pq_X5_33 {v0 v1 v2 v3 v4 v5 v6 xx : Value} {M0 : zM} (C : z_C X cc RX5 nL rm) (hn : narrow (.int) xx = xx) (hf : fits (.int) xx = true) (d : decode cc pc = .ok (.putfield 33, 3)) (kk : z_W X (z_up M0 a (.inr (9, [v0, v1, v2, v3, v4, v5, xx]))) k n (pc + 3) lv st) : z_W X (z_up M0 a (.inr (9, [v0, v1, v2, v3, v4, v5, v6]))) k n pc lv (xx :: .ref a :: st) := pr_X5_33 C hn hf (z_up_s _ _ _) d (by rw [z_up_up]; exact kk)
theorem gr_X5_40 {v0 v1 v2 v3 v4 v5 v6 : Value} (C : z_C X cc RX5 nL rm) (hM : M a = some (.inr (9, [v0, v1, v2, v3, v4, v5, v6]))) (d : decode cc pc = .ok (.getfield 40, 3)) (kk : z_W X M k n (pc + 3) lv (v4 :: st)) : z_W X M k n pc lv (.ref a :: st) := z_get C (T := TX5) (N := 7) (ci := 9) rfl inX5 4 (by decide) kw1054 hM rfl d kk
theorem pr_X5_40 {v0 v1 v2 v3 v4 v5 v6 xx : Value} (C : z_C X cc RX5 nL rm) (hn : narrow (.int) xx = xx) (hf : fits (.int) xx = true) (hM : M a = some (.inr (9, [v0, v1, v2, v3, v4, v5, v6]))) (d : decode cc pc = .ok (.putfield 40, 3)) (kk : z_W X (z_up M a (.inr (9, [v0, v1, v2, v3, xx, v5, v6]))) k n (pc + 3) lv st) : z_W X M k n pc lv (xx :: .ref a :: st) := z_put C (T := TX5) (N := 7) (ci := 9) (ty := .int) rfl inX5 tyX5 tyX5_ok nmX5 4 (by decide) kw1054 rfl (by decide +kernel) hM (show 4 < 7 by decide) hn hf d kk
theorem pq_X5_40 {v0 v1 v2 v3 v4 v5 v6 xx : Value} {M0 : zM} (C : z_C X cc RX5 nL rm) (hn : narrow (.int) xx = xx) (hf : fits (.int) xx = true) (d : decode cc pc = .ok (.putfield 40, 3)) (kk : z_W X (z_up M0 a (.inr (9, [v0, v1, v2, v3, xx, v5, v6]))) k n (pc + 3) lv st) : z_W X (z_up M0 a (.inr (9, [v0, v1, v2, v3, v4, v5, v6]))) k n pc lv (xx :: .ref a :: st) := pr_X5_40 C hn hf (z_up_s _ _ _) d (by rw [z_up_up]; exact kk)
theorem gr_X5_139 {v0 v1 v2 v3 v4 v5 v6 : Value} (C : z_C X cc RX5 nL rm) (hM : M a = some (.inr (9, [v0, v1, v2, v3, v4, v5, v6]))) (d : decode cc pc = .ok (.getfield 139, 3)) (kk : z_W X M k n (pc + 3) lv (v5 :: st)) : z_W X M k n pc lv (.ref a :: st) := z_get C (T := TX5) (N := 7) (ci := 9) rfl inX5 5 (by decide) kw1055 hM rfl d kk
theorem pr_X5_139 {v0 v1 v2 v3 v4 v5 v6 xx : Value} (C : z_C X cc RX5 nL rm) (hn : narrow (.int) xx = xx) (hf : fits (.int) xx = true) (hM : M a = some (.inr (9, [v0, v1, v2, v3, v4, v5, v6]))) (d : decode cc pc = .ok (.putfield 139, 3)) (kk : z_W X (z_up M a (.inr (9, [v0, v1, v2, v3, v4, xx, v6]))) k n (pc + 3) lv st) : z_W X M k n pc lv (xx :: .ref a :: st) := z_put C (T := TX5) (N := 7) (ci := 9) (ty := .int) rfl inX5 tyX5 tyX5_ok nmX5 5 (by decide) kw1055 rfl (by decide +kernel) hM (show 5 < 7 by decide) hn hf d kk
theorem pq_X5_139 {v0 v1 v2 v3 v4 v5 v6 xx : Value} {M0 : zM} (C : z_C X cc RX5 nL rm) (hn : narrow (.int) xx = xx) (hf : fits (.int) xx = true) (d : decode cc pc = .ok (.putfield 139, 3)) (kk : z_W X (z_up M0 a (.inr (9, [v0, v1, v2, v3, v4, xx, v6]))) k n (pc + 3) lv st) : z_W X (z_up M0 a (.inr (9, [v0, v1, v2, v3, v4, v5, v6]))) k n pc lv (xx :: .ref a :: st) := pr_X5_139 C hn hf (z_up_s _ _ _) d (by rw [z_up_up]; exact kk)
theorem gr_J5_15 {v0 v1 v2 v3 : Value} (C : z_C X cc RJ5 nL rm) (hM : M a = some (.inr (1, [v0, v1, v2, v3]))) (d : decode cc pc = .ok (.getfield 15, 3)) (kk : z_W X M k n (pc + 3) lv (v0 :: st)) : z_W X M k n pc lv (.ref a :: st) := z_get C (T := TJ4) (N := 4) (ci := 1) rfl inJ4 0 (by decide) kw113 hM rfl d kk
theorem pr_J5_15 {v0 v1 v2 v3 xx : Value} (C : z_C X cc RJ5 nL rm) (hn : narrow (.array .byte) xx = xx) (hf : fits (.array .byte) xx = true) (hM : M a = some (.inr (1, [v0, v1, v2, v3]))) (d : decode cc pc = .ok (.putfield 15, 3)) (kk : z_W X (z_up M a (.inr (1, [xx, v1, v2, v3]))) k n (pc + 3) lv st) : z_W X M k n pc lv (xx :: .ref a :: st) := z_put C (T := TJ4) (N := 4) (ci := 1) (ty := .array .byte) rfl inJ4 tyJ4 tyJ4_ok nmJ4 0 (by decide) kw113 rfl (by decide +kernel) hM (show 0 < 4 by decide) hn hf d kk
theorem pq_J5_15 {v0 v1 v2 v3 xx : Value} {M0 : zM} (C : z_C X cc RJ5 nL rm) (hn : narrow (.array .byte) xx = xx) (hf : fits (.array .byte) xx = true) (d : decode cc pc = .ok (.putfield 15, 3)) (kk : z_W X (z_up M0 a (.inr (1, [xx, v1, v2, v3]))) k n (pc + 3) lv st) : z_W X (z_up M0 a (.inr (1, [v0, v1, v2, v3]))) k n pc lv (xx :: .ref a :: st) := pr_J5_15 C hn hf (z_up_s _ _ _) d (by rw [z_up_up]; exact kk)
theorem gr_J5_22 {v0 v1 v2 v3 : Value} (C : z_C X cc RJ5 nL rm) (hM : M a = some (.inr (1, [v0, v1, v2, v3]))) (d : decode cc pc = .ok (.getfield 22, 3)) (kk : z_W X M k n (pc + 3) lv (v1 :: st)) : z_W X M k n pc lv (.ref a :: st) := z_get C (T := TJ4) (N := 4) (ci := 1) rfl inJ4 1 (by decide) kw114 hM rfl d kk
theorem pr_J5_22 {v0 v1 v2 v3 xx : Value} (C : z_C X cc RJ5 nL rm) (hn : narrow (.byte) xx = xx) (hf : fits (.byte) xx = true) (hM : M a = some (.inr (1, [v0, v1, v2, v3]))) (d : decode cc pc = .ok (.putfield 22, 3)) (kk : z_W X (z_up M a (.inr (1, [v0, xx, v2, v3]))) k n (pc + 3) lv st) : z_W X M k n pc lv (xx :: .ref a :: st) := z_put C (T := TJ4) (N := 4) (ci := 1) (ty := .byte) rfl inJ4 tyJ4 tyJ4_ok nmJ4 1 (by decide) kw114 rfl (by decide +kernel) hM (show 1 < 4 by decide) hn hf d kk
theorem pq_J5_22 {v0 v1 v2 v3 xx : Value} {M0 : zM} (C : z_C X cc RJ5 nL rm) (hn : narrow (.byte) xx = xx) (hf : fits (.byte) xx = true) (d : decode cc pc = .ok (.putfield 22, 3)) (kk : z_W X (z_up M0 a (.inr (1, [v0, xx, v2, v3]))) k n (pc + 3) lv st) : z_W X (z_up M0 a (.inr (1, [v0, v1, v2, v3]))) k n pc lv (xx :: .ref a :: st) := pr_J5_22 C hn hf (z_up_s _ _ _) d (by rw [z_up_up]; exact kk)
theorem gr_J5_73 {v0 v1 v2 v3 : Value} (C : z_C X cc RJ5 nL rm) (hM : M a = some (.inr (1, [v0, v1, v2, v3]))) (d : decode cc pc = .ok (.getfield 73, 3)) (kk : z_W X M k n (pc + 3) lv (v2 :: st)) : z_W X M k n pc lv (.ref a :: st) := z_get C (T := TJ4) (N := 4) (ci := 1) rfl inJ4 2 (by decide) kw115 hM rfl d kk
theorem pr_J5_73 {v0 v1 v2 v3 xx : Value} (C : z_C X cc RJ5 nL rm) (hn : narrow (.boolean) xx = xx) (hf : fits (.boolean) xx = true) (hM : M a = some (.inr (1, [v0, v1, v2, v3]))) (d : decode cc pc = .ok (.putfield 73, 3)) (kk : z_W X (z_up M a (.inr (1, [v0, v1, xx, v3]))) k n (pc + 3) lv st) : z_W X M k n pc lv (xx :: .ref a :: st) := z_put C (T := TJ4) (N := 4) (ci := 1) (ty := .boolean) rfl inJ4 tyJ4 tyJ4_ok nmJ4 2 (by decide) kw115 rfl (by decide +kernel) hM (show 2 < 4 by decide) hn hf d kk
theorem pq_J5_73 {v0 v1 v2 v3 xx : Value} {M0 : zM} (C : z_C X cc RJ5 nL rm) (hn : narrow (.boolean) xx = xx) (hf : fits (.boolean) xx = true) (d : decode cc pc = .ok (.putfield 73, 3)) (kk : z_W X (z_up M0 a (.inr (1, [v0, v1, xx, v3]))) k n (pc + 3) lv st) : z_W X (z_up M0 a (.inr (1, [v0, v1, v2, v3]))) k n pc lv (xx :: .ref a :: st) := pr_J5_73 C hn hf (z_up_s _ _ _) d (by rw [z_up_up]; exact kk)
theorem gr_J5_79 {v0 v1 v2 v3 : Value} (C : z_C X cc RJ5 nL rm) (hM : M a = some (.inr (1, [v0, v1, v2, v3]))) (d : decode cc pc = .ok (.getfield 79, 3)) (kk : z_W X M k n (pc + 3) lv (v3 :: st)) : z_W X M k n pc lv (.ref a :: st) := z_get C (T := TJ4) (N := 4) (ci := 1) rfl inJ4 3 (by decide) kw117 hM rfl d kk
theorem pr_J5_79 {v0 v1 v2 v3 xx : Value} (C : z_C X cc RJ5 nL rm) (hn : narrow (.int) xx = xx) (hf : fits (.int) xx = true) (hM : M a = some (.inr (1, [v0, v1, v2, v3]))) (d : decode cc pc = .ok (.putfield 79, 3)) (kk : z_W X (z_up M a (.inr (1, [v0, v1, v2, xx]))) k n (pc + 3) lv st) : z_W X M k n pc lv (xx :: .ref a :: st) := z_put C (T := TJ4) (N := 4) (ci := 1) (ty := .int) rfl inJ4 tyJ4 tyJ4_ok nmJ4 3 (by decide) kw117 rfl (by decide +kernel) hM (show 3 < 4 by decide) hn hf d kk
theorem pq_J5_79 {v0 v1 v2 v3 xx : Value} {M0 : zM} (C : z_C X cc RJ5 nL rm) (hn : narrow (.int) xx = xx) (hf : fits (.int) xx = true) (d : decode cc pc = .ok (.putfield 79, 3)) (kk : z_W X (z_up M0 a (.inr (1, [v0, v1, v2, xx]))) k n (pc + 3) lv st) : z_W X (z_up M0 a (.inr (1, [v0, v1, v2, v3]))) k n pc lv (xx :: .ref a :: st) := pr_J5_79 C hn hf (z_up_s _ _ _) d (by rw [z_up_up]; exact kk)
theorem gr_J0_9 {v0 v1 v2 v3 : Value} (C : z_C X cc RJ0 nL rm) (hM : M a = some (.inr (0, [v0, v1, v2, v3]))) (d : decode cc pc = .ok (.getfield 9, 3)) (kk : z_W X M k n (pc + 3) lv (v0 :: st)) : z_W X M k n pc lv (.ref a :: st) := z_get C (T := TJ0) (N := 4) (ci := 0) rfl inJ0 0 (by decide) kw457 hM rfl d kk
theorem pr_J0_9 {v0 v1 v2 v3 xx : Value} (C : z_C X cc RJ0 nL rm) (hini : (z_me X).name = "<init>") (hn : narrow (.array .byte) xx = xx) (hf : fits (.array .byte) xx = true) (hM : M a = some (.inr (0, [v0, v1, v2, v3]))) (d : decode cc pc = .ok (.putfield 9, 3)) (kk : z_W X (z_up M a (.inr (0, [xx, v1, v2, v3]))) k n (pc + 3) lv st) : z_W X M k n pc lv (xx :: .ref a :: st) := z_putF C (T := TJ0) (N := 4) (ci := 0) (ty := .array .byte) hini rfl inJ0 tyJ0 tyJ0_ok nmJ0 0 (by decide) kw457 rfl rfl (by decide +kernel) hM (show 0 < 4 by decide) hn hf d kk
theorem pq_J0_9 {v0 v1 v2 v3 xx : Value} {M0 : zM} (C : z_C X cc RJ0 nL rm) (hini : (z_me X).name = "<init>") (hn : narrow (.array .byte) xx = xx) (hf : fits (.array .byte) xx = true) (d : decode cc pc = .ok (.putfield 9, 3)) (kk : z_W X (z_up M0 a (.inr (0, [xx, v1, v2, v3]))) k n (pc + 3) lv st) : z_W X (z_up M0 a (.inr (0, [v0, v1, v2, v3]))) k n pc lv (xx :: .ref a :: st) := pr_J0_9 C hini hn hf (z_up_s _ _ _) d (by rw [z_up_up]; exact kk)
theorem gr_J0_15 {v0 v1 v2 v3 : Value} (C : z_C X cc RJ0 nL rm) (hM : M a = some (.inr (0, [v0, v1, v2, v3]))) (d : decode cc pc = .ok (.getfield 15, 3)) (kk : z_W X M k n (pc + 3) lv (v1 :: st)) : z_W X M k n pc lv (.ref a :: st) := z_get C (T := TJ0) (N := 4) (ci := 0) rfl inJ0 1 (by decide) kw458 hM rfl d kk
theorem pr_J0_15 {v0 v1 v2 v3 xx : Value} (C : z_C X cc RJ0 nL rm) (hini : (z_me X).name = "<init>") (hn : narrow (.byte) xx = xx) (hf : fits (.byte) xx = true) (hM : M a = some (.inr (0, [v0, v1, v2, v3]))) (d : decode cc pc = .ok (.putfield 15, 3)) (kk : z_W X (z_up M a (.inr (0, [v0, xx, v2, v3]))) k n (pc + 3) lv st) : z_W X M k n pc lv (xx :: .ref a :: st) := z_putF C (T := TJ0) (N := 4) (ci := 0) (ty := .byte) hini rfl inJ0 tyJ0 tyJ0_ok nmJ0 1 (by decide) kw458 rfl rfl (by decide +kernel) hM (show 1 < 4 by decide) hn hf d kk
theorem pq_J0_15 {v0 v1 v2 v3 xx : Value} {M0 : zM} (C : z_C X cc RJ0 nL rm) (hini : (z_me X).name = "<init>") (hn : narrow (.byte) xx = xx) (hf : fits (.byte) xx = true) (d : decode cc pc = .ok (.putfield 15, 3)) (kk : z_W X (z_up M0 a (.inr (0, [v0, xx, v2, v3]))) k n (pc + 3) lv st) : z_W X (z_up M0 a (.inr (0, [v0, v1, v2, v3]))) k n pc lv (xx :: .ref a :: st) := pr_J0_15 C hini hn hf (z_up_s _ _ _) d (by rw [z_up_up]; exact kk)
theorem gr_J0_1048 {v0 v1 v2 v3 : Value} (C : z_C X cc RJ0 nL rm) (hM : M a = some (.inr (1, [v0, v1, v2, v3]))) (d : decode cc pc = .ok (.getfield 1048, 3)) (kk : z_W X M k n (pc + 3) lv (v2 :: st)) : z_W X M k n pc lv (.ref a :: st) := z_get C (T := TJ4) (N := 4) (ci := 1) rfl inJ4 2 (by decide) kw116 hM rfl d kk
end FRR
end
