/-! PART 31: the reference's calls, over states -/
theorem z_pc (v : Int32) : (z_is v 0 5 = 1 ∧ vp_in v 6 ∧ v.toNatClampNeg < 6) ∨ (z_is v 0 5 = 0 ∧ ¬ vp_in v 6) := by
  rcases z_is01 v 0 5 with h | h
  · refine Or.inr ⟨h, fun q => ?_⟩
    have hq := z_inT.mp q
    have := z_is0 (v := v) (a := 0) (b := 5) ⟨by rw [z_le, z_t0]; exact hq.1, by rw [z_le, show (5 : Int32).toInt = 5 from by decide]; omega⟩
    rw [h] at this
    exact absurd this (by decide)
  · have h1 : ¬ z_is v 0 5 = 0 := by rw [h]; decide
    obtain ⟨a, b⟩ := z_is1 h1
    have c := z_cl a
    rw [z_le, z_t0] at a
    rw [z_le, show (5 : Int32).toInt = 5 from by decide] at b
    exact Or.inl ⟨h, z_inT.mpr ⟨a, by omega⟩, by omega⟩
def t_2 (a b : Int32) : Int32 := if z_is a 0 5 = 0 then 0 else z_is b 0 5
def t_and (a b : Int32) : Int32 := if a = 0 then 0 else b
def t_nn (v : Int32) : Int32 := if v < 0 then 0 else 1
theorem z_lr0 {t f : Int32} (h : ¬ z_lr t f = 0) : z_lt t f = 0 := by
  unfold z_lr at h
  split at h
  · assumption
  · exact absurd rfl h
theorem z_lr1 {t f : Int32} (h : z_lr t f = 0) : ¬ z_lt t f = 0 := by
  unfold z_lr at h
  split at h
  · exact absurd h (by decide)
  · assumption
theorem z_lt0 {t f : Int32} (h : t = 0) : ¬ z_lt t f = 0 := by
  unfold z_lt
  rw [if_pos h]
  decide
theorem z_lt2 {t f : Int32} (h : f = 0) : ¬ z_lt t f = 0 := by
  unfold z_lt
  subst h
  split
  · decide
  · decide
theorem z_lt3 {t f : Int32} (h1 : t = 1) (h2 : f = 1) : z_lt t f = 0 := by
  rw [h1, h2]; decide
theorem z_is11 {a b c : Int32} (h : ¬ z_is a b c = 0) : z_is a b c = 1 := (z_is01 a b c).resolve_left h
/-- what a call of the reference leaves: its number of the exception, the state, the answer -/
def RP (G : zG) (m pn td : Nat) (k : Int32) (u : sS) (b : sR) : Int32 → zM → Prop := fun r M' => ∃ (K' : Nat → Nat) (tp' : Nat), RI G (if k = 0 then b.2 else u) m k K' tp' pn td M' ∧ (k = 0 → r = b.1)
theorem RP_ok {G : zG} {m pn td : Nat} {k th' : Int32} {u v : sS} {b : sR} {K' : Nat → Nat} {tp' : Nat} {r : Int32} {M' : zM} (e : b = (r, v)) (hk : k = 0) (h : RI G v m th' K' tp' pn td M') (ht : th' = k := by rfl) : RP G m pn td k u b r M' := by
  subst e
  subst ht
  exact ⟨K', tp', by rw [if_pos hk]; exact h, fun _ => rfl⟩
theorem RP_bad {G : zG} {m pn td : Nat} {k th' : Int32} {u : sS} {b : sR} {K' : Nat → Nat} {tp' : Nat} {r : Int32} {M' : zM} (hk : ¬ k = 0) (h : RI G u m th' K' tp' pn td M') (ht : th' = k := by rfl) : RP G m pn td k u b r M' := by
  subst ht
  exact ⟨K', tp', by rw [if_neg hk]; exact h, fun q => absurd q hk⟩
theorem s_ba_b {t : Nat} {u : sS} (h : s_ok t u) (r : Nat) : s_ba (s_ln u) (r + 1) ≤ 16 + 12 * r := by
  obtain ⟨h1, h2, h3, h4, h5, h6⟩ := h
  induction r with
  | zero => show 0 + s_ln u 0 ≤ _; omega
  | succ r ih => show s_ba (s_ln u) (r + 1) + s_ln u (r + 1) ≤ _; have := h4 (r + 1) (by omega); omega
theorem s_ba_nt {t : Nat} {u : sS} (h : s_ok t u) (ht : t ≤ 64) : 16 ≤ s_ba (s_ln u) (s_nr u) ∧ s_ba (s_ln u) (s_nr u) < 900 := by
  have h9 := s_ba_b h (s_nr u - 1)
  have h8 := s_ba_lt (s_ln u) (r := 0) (s := s_nr u) (by have := h.1; omega)
  have h7 := h.2.2.1
  rw [show s_nr u - 1 + 1 = s_nr u from by have := h.1; omega] at h9
  have h1 := h.1
  have h2 := h.2.1
  refine ⟨?_, by omega⟩
  have e : s_ba (s_ln u) 0 = 0 := rfl
  omega
theorem nI_T {n : Nat} (h : n < 100000) : (nI n).toInt = n := nI_toInt (by omega)
/-- a pane in order, on the tape -/
theorem s_or {t : Nat} {u : sS} (h : s_ok t u) (ht : t ≤ 64) {i : Nat} (hi : i < 6) : z_or (nI (s_ba (s_ln u) (p_ro (s_pn u i)))) (p_sa (s_pn u i)) (p_cp (s_pn u i)) (p_po (s_pn u i)) (p_li (s_pn u i)) (s_ba (s_ln u) (s_nr u)) := by
  obtain ⟨h1, ⟨a1, a2, a3, a4, a5, a6, a7⟩, -⟩ := h.2.2.2.2.1 i hi
  have h3 := s_ba_lt (s_ln u) h1
  have h4 := s_ba_nt h ht
  refine ⟨?_, a1, a2, a3, a4, a5, ?_, by omega⟩ <;> rw [nI_T (by omega)] <;> omega
/-- the tape's place of a row's place -/
theorem s_wh {n L : Nat} {sa x : Int32} (h : vp_in (sa + x) L) (hn : n + L < 100000) : ((nI n + sa) + x).toNatClampNeg = n + (sa + x).toNatClampNeg := by
  obtain ⟨h1, h2⟩ := z_inT.mp h
  have e : (nI n + sa) + x = nI n + (sa + x) := Int32.add_assoc _ _ _
  have e2 : (nI n + (sa + x)).toInt = n + (sa + x).toInt := by rw [fb_addI (by rw [nI_T (by omega)]; omega) (by rw [nI_T (by omega)]; omega), nI_T (by omega)]
  have e3 := z_cl (x := sa + x) (by rw [z_le, z_t0]; exact h1)
  have e4 := z_cl (x := nI n + (sa + x)) (by rw [z_le, z_t0]; omega)
  rw [e]
  omega
section RV
variable {t : Nat} {u : sS} {i : Nat} {x : Int32}
theorem s_row (h : s_ok t u) (hi : i < 6) : p_ro (s_pn u i) < s_nr u := (h.2.2.2.2.1 i hi).1
theorem s_ow (h : s_ok t u) (hi : i < 6) : z_ow (p_sa (s_pn u i)) (p_cp (s_pn u i)) (p_po (s_pn u i)) (p_li (s_pn u i)) (s_ln u (p_ro (s_pn u i))) := (h.2.2.2.2.1 i hi).2.1
theorem s_wh' (h : s_ok t u) (ht : t ≤ 64) (hi : i < 6) (hx : vp_in (p_sa (s_pn u i) + x) (s_ln u (p_ro (s_pn u i)))) : ((nI (s_ba (s_ln u) (p_ro (s_pn u i))) + p_sa (s_pn u i)) + x).toNatClampNeg = s_ba (s_ln u) (p_ro (s_pn u i)) + p_at (s_pn u i) x := s_wh hx (by
  have h1 := s_ba_lt (s_ln u) (s_row h hi)
  have h2 := s_ba_nt h ht
  omega)
theorem s_atlt (hx : vp_in (p_sa (s_pn u i) + x) (s_ln u (p_ro (s_pn u i)))) : p_at (s_pn u i) x < s_ln u (p_ro (s_pn u i)) := by
  obtain ⟨h1, h2⟩ := z_inT.mp hx
  have e3 := z_cl (x := p_sa (s_pn u i) + x) (by rw [z_le, z_t0]; exact h1)
  show (p_sa (s_pn u i) + x).toNatClampNeg < _
  omega
theorem s_rd {ft : Nat → Int32} (h : s_ok t u) (ht : t ≤ 64) (hi : i < 6) (hft : ∀ r, r < s_nr u → ∀ j, j < s_ln u r → ft (s_ba (s_ln u) r + j) = s_vl u r j) (hx : vp_in (p_sa (s_pn u i) + x) (s_ln u (p_ro (s_pn u i)))) : ft ((nI (s_ba (s_ln u) (p_ro (s_pn u i))) + p_sa (s_pn u i)) + x).toNatClampNeg = s_val u (s_pn u i) x := by
  rw [s_wh' h ht hi hx]
  exact hft _ (s_row h hi) _ (s_atlt hx)
theorem s_lo (h : s_ok t u) (hi : i < 6) : 0 ≤ (p_li (s_pn u i)).toInt ∧ (p_li (s_pn u i)).toInt ≤ 16 ∧ 0 ≤ (p_cp (s_pn u i)).toInt ∧ (p_cp (s_pn u i)).toInt ≤ 16 := by
  obtain ⟨a1, a2, a3, a4, a5, a6, a7⟩ := s_ow h hi
  omega
/-- an index tested in the reference's way, and in the class's -/
theorem z_hii {x l : Int32} (h : 0 ≤ l.toInt) : z_hi x l = 0 ↔ z_is x 0 (l - 1) = 0 := by
  have hl := fb_rng l
  have e : (l - 1).toInt = l.toInt - 1 := by rw [fb_subI (by rw [z_t1]; omega) (by rw [z_t1]; omega), z_t1]
  unfold z_hi z_is
  by_cases h1 : x < 0
  · simp [h1]
  · rw [if_neg h1, if_neg h1]
    have : l ≤ x ↔ l - 1 < x := by rw [z_le, z_ltI, e]; omega
    by_cases h2 : l ≤ x
    · rw [if_pos h2, if_pos (this.mp h2)]
    · rw [if_neg h2, if_neg (fun q => h2 (this.mpr q))]
theorem s_hiL (h : s_ok t u) (hi : i < 6) : z_hi x (p_li (s_pn u i)) = 0 ↔ z_is x 0 (p_li (s_pn u i) - 1) = 0 := z_hii (s_lo h hi).1
theorem s_hiC (h : s_ok t u) (hi : i < 6) : z_hi x (p_cp (s_pn u i)) = 0 ↔ z_is x 0 (p_cp (s_pn u i) - 1) = 0 := z_hii (s_lo h hi).2.2.1
theorem s_inL (h : s_ok t u) (hi : i < 6) (hx : ¬ z_hi x (p_li (s_pn u i)) = 0) : vp_in (p_sa (s_pn u i) + x) (s_ln u (p_ro (s_pn u i))) := z_owL (s_ow h hi) hx
theorem s_inC (h : s_ok t u) (hi : i < 6) (hx : ¬ z_hi x (p_cp (s_pn u i)) = 0) : vp_in (p_sa (s_pn u i) + x) (s_ln u (p_ro (s_pn u i))) := z_owC (s_ow h hi) hx
theorem s_pos0 (h : s_ok t u) (hi : i < 6) : 0 ≤ (p_po (s_pn u i)).toInt ∧ (p_po (s_pn u i)).toInt ≤ (p_li (s_pn u i)).toInt ∧ (p_li (s_pn u i) - p_po (s_pn u i)).toInt = (p_li (s_pn u i)).toInt - (p_po (s_pn u i)).toInt := by
  obtain ⟨a1, a2, a3, a4, a5, a6, a7⟩ := s_ow h hi
  exact ⟨a2, a3, z_owB (s_ow h hi)⟩
theorem s_left (h : s_ok t u) (hi : i < 6) : p_li (s_pn u i) - p_po (s_pn u i) = 0 ↔ p_li (s_pn u i) - p_po (s_pn u i) ≤ 0 := by
  obtain ⟨a, b, c⟩ := s_pos0 h hi
  rw [z_eqI, z_le, z_t0]
  omega
theorem s_left' (h : s_ok t u) (hi : i < 6) : p_li (s_pn u i) - p_po (s_pn u i) = 0 ↔ ¬ 0 < p_li (s_pn u i) - p_po (s_pn u i) := by
  rw [s_left h hi, Int32.not_lt]
theorem s_inP (h : s_ok t u) (hi : i < 6) (hx : ¬ p_li (s_pn u i) - p_po (s_pn u i) = 0) : vp_in (p_sa (s_pn u i) + p_po (s_pn u i)) (s_ln u (p_ro (s_pn u i))) := z_owP' (s_ow h hi) (fun q => hx ((s_left h hi).mpr q))
theorem s_po0 (h : s_ok t u) (hi : i < 6) : p_po (s_pn u i) = 0 ↔ p_po (s_pn u i) ≤ 0 := by
  obtain ⟨a, b, c⟩ := s_pos0 h hi
  rw [z_eqI, z_le, z_t0]
  omega
theorem s_inQ (h : s_ok t u) (hi : i < 6) (hx : ¬ p_po (s_pn u i) = 0) : vp_in (p_sa (s_pn u i) + (p_po (s_pn u i) - 1)) (s_ln u (p_ro (s_pn u i))) := z_owQ (s_ow h hi) (fun q => hx ((s_po0 h hi).mpr q))
theorem s_rdn (h : s_ok t u) (hi : i < 6) : p_rd (s_pn u i) = 0 ↔ ¬ p_rd (s_pn u i) = 1 := by
  rcases (h.2.2.2.2.1 i hi).2.2.2 with q | q <;> rw [q] <;> decide
end RV
theorem a_X5_go (l : Launch) {G : zG} {u : sS} {m : Nat} {th : Int32} {K : Nat → Nat} {tp pn td : Nat} {R : zM} (hR : RI G u m th K tp pn td R) {t : Nat} (hok : s_ok t u) (ht : t ≤ 64) (pane pl : Int32) : z_Mi l G qX5_go (z_rm 4 0 0) [.ref m, .int pane, .int pl] R (RP G m pn td (z_lt (z_is pane 0 5) 1) u (s_go u pane.toNatClampNeg pl)) := by
  obtain ⟨hm, ⟨ft, htp, hft⟩, ⟨fp, hpn, hfp⟩, htd, hK, iK, i1, i2, i3⟩ := id hR
  rcases z_pc pane with ⟨h_ok, h_ip, hi⟩ | ⟨h_bad, -⟩
  · refine z_Mi_mono (c_X5_go l G hm htd hpn (hK _ hi) h_ok h_ip rfl (hfp _ hi) (i1 _ hi)) ?_
    rintro r M' (⟨c0_0, c0_1, hr9, rfl⟩ | ⟨c1_0, c1_1, hr9, rfl⟩ | ⟨c2_0, hr9, rfl⟩)
    · rw [hr9]
      exact RP_ok (v := s_ak (s_up (u) pane.toNatClampNeg (p_ro (s_pn u pane.toNatClampNeg), (p_sa (s_pn u pane.toNatClampNeg)), (p_cp (s_pn u pane.toNatClampNeg)), pl, (p_li (s_pn u pane.toNatClampNeg)), (p_mk (s_pn u pane.toNatClampNeg)), (p_rd (s_pn u pane.toNatClampNeg)))) ((s_ac u) + 1) ((s_kn u))) (by simp [s_go, p_mv, c0_0, c0_1] <;> rfl) (z_lt3 h_ok rfl) (RI_ak (RI_pn hR hi (p_ro (s_pn u pane.toNatClampNeg), (p_sa (s_pn u pane.toNatClampNeg)), (p_cp (s_pn u pane.toNatClampNeg)), pl, (p_li (s_pn u pane.toNatClampNeg)), (p_mk (s_pn u pane.toNatClampNeg)), (p_rd (s_pn u pane.toNatClampNeg)))) _ _ _)
    · rw [hr9]
      exact RP_ok (v := s_ak (s_up (u) pane.toNatClampNeg (p_ro (s_pn u pane.toNatClampNeg), (p_sa (s_pn u pane.toNatClampNeg)), (p_cp (s_pn u pane.toNatClampNeg)), pl, (p_li (s_pn u pane.toNatClampNeg)), (-1), (p_rd (s_pn u pane.toNatClampNeg)))) ((s_ac u) + 1) ((s_kn u))) (by simp [s_go, p_mv, c1_0, c1_1] <;> rfl) (z_lt3 h_ok rfl) (RI_ak (RI_pn hR hi (p_ro (s_pn u pane.toNatClampNeg), (p_sa (s_pn u pane.toNatClampNeg)), (p_cp (s_pn u pane.toNatClampNeg)), pl, (p_li (s_pn u pane.toNatClampNeg)), (-1), (p_rd (s_pn u pane.toNatClampNeg)))) _ _ _)
    · rw [hr9]
      exact RP_ok (v := s_tdu (s_ak (u) ((s_ac u)) ((s_kn u))) (upd (s_td u) 5 (((s_td u) 5) + 1))) (by simp [s_go, p_mv, c2_0] <;> rfl) (z_lt3 h_ok rfl) (RI_td (RI_ak hR _ _ _) _)
  · refine z_Mi_mono (c_X5_go_bad l G hm h_bad) ?_
    rintro r M' ⟨hr9, rfl⟩
    · exact RP_bad (z_lt0 h_bad) (RI_ak hR _ _ _) (by first | rfl | (simp [t_nn, t_and]; done) | simp [z_lt, h_bad])
theorem a_X5_end (l : Launch) {G : zG} {u : sS} {m : Nat} {th : Int32} {K : Nat → Nat} {tp pn td : Nat} {R : zM} (hR : RI G u m th K tp pn td R) {t : Nat} (hok : s_ok t u) (ht : t ≤ 64) (pane pl : Int32) : z_Mi l G qX5_end (z_rm 4 0 0) [.ref m, .int pane, .int pl] R (RP G m pn td (z_lt (z_is pane 0 5) 1) u (s_end u pane.toNatClampNeg pl)) := by
  obtain ⟨hm, ⟨ft, htp, hft⟩, ⟨fp, hpn, hfp⟩, htd, hK, iK, i1, i2, i3⟩ := id hR
  rcases z_pc pane with ⟨h_ok, h_ip, hi⟩ | ⟨h_bad, -⟩
  · refine z_Mi_mono (c_X5_end l G hm htd hpn (hK _ hi) h_ok h_ip rfl (hfp _ hi) (i1 _ hi)) ?_
    rintro r M' (⟨c0_0, c0_1, c0_2, hr9, rfl⟩ | ⟨c1_0, c1_1, c1_2, hr9, rfl⟩ | ⟨c2_0, c2_1, c2_2, hr9, rfl⟩ | ⟨c3_0, c3_1, c3_2, hr9, rfl⟩ | ⟨c4_0, hr9, rfl⟩)
    · rw [hr9]
      exact RP_ok (v := s_ak (s_up (u) pane.toNatClampNeg (p_ro (s_pn u pane.toNatClampNeg), (p_sa (s_pn u pane.toNatClampNeg)), (p_cp (s_pn u pane.toNatClampNeg)), (p_po (s_pn u pane.toNatClampNeg)), pl, (p_mk (s_pn u pane.toNatClampNeg)), (p_rd (s_pn u pane.toNatClampNeg)))) ((s_ac u) + 1) ((s_kn u))) (by simp [s_end, p_en, c0_0, c0_1, c0_2] <;> rfl) (z_lt3 h_ok rfl) (RI_ak (RI_pn hR hi (p_ro (s_pn u pane.toNatClampNeg), (p_sa (s_pn u pane.toNatClampNeg)), (p_cp (s_pn u pane.toNatClampNeg)), (p_po (s_pn u pane.toNatClampNeg)), pl, (p_mk (s_pn u pane.toNatClampNeg)), (p_rd (s_pn u pane.toNatClampNeg)))) _ _ _)
    · rw [hr9]
      exact RP_ok (v := s_ak (s_up (u) pane.toNatClampNeg (p_ro (s_pn u pane.toNatClampNeg), (p_sa (s_pn u pane.toNatClampNeg)), (p_cp (s_pn u pane.toNatClampNeg)), (p_po (s_pn u pane.toNatClampNeg)), pl, (-1), (p_rd (s_pn u pane.toNatClampNeg)))) ((s_ac u) + 1) ((s_kn u))) (by simp [s_end, p_en, c1_0, c1_1, c1_2] <;> rfl) (z_lt3 h_ok rfl) (RI_ak (RI_pn hR hi (p_ro (s_pn u pane.toNatClampNeg), (p_sa (s_pn u pane.toNatClampNeg)), (p_cp (s_pn u pane.toNatClampNeg)), (p_po (s_pn u pane.toNatClampNeg)), pl, (-1), (p_rd (s_pn u pane.toNatClampNeg)))) _ _ _)
    · rw [hr9]
      exact RP_ok (v := s_ak (s_up (u) pane.toNatClampNeg (p_ro (s_pn u pane.toNatClampNeg), (p_sa (s_pn u pane.toNatClampNeg)), (p_cp (s_pn u pane.toNatClampNeg)), pl, pl, (p_mk (s_pn u pane.toNatClampNeg)), (p_rd (s_pn u pane.toNatClampNeg)))) ((s_ac u) + 1) ((s_kn u))) (by simp [s_end, p_en, c2_0, c2_1, c2_2] <;> rfl) (z_lt3 h_ok rfl) (RI_ak (RI_pn hR hi (p_ro (s_pn u pane.toNatClampNeg), (p_sa (s_pn u pane.toNatClampNeg)), (p_cp (s_pn u pane.toNatClampNeg)), pl, pl, (p_mk (s_pn u pane.toNatClampNeg)), (p_rd (s_pn u pane.toNatClampNeg)))) _ _ _)
    · rw [hr9]
      exact RP_ok (v := s_ak (s_up (u) pane.toNatClampNeg (p_ro (s_pn u pane.toNatClampNeg), (p_sa (s_pn u pane.toNatClampNeg)), (p_cp (s_pn u pane.toNatClampNeg)), pl, pl, (-1), (p_rd (s_pn u pane.toNatClampNeg)))) ((s_ac u) + 1) ((s_kn u))) (by simp [s_end, p_en, c3_0, c3_1, c3_2] <;> rfl) (z_lt3 h_ok rfl) (RI_ak (RI_pn hR hi (p_ro (s_pn u pane.toNatClampNeg), (p_sa (s_pn u pane.toNatClampNeg)), (p_cp (s_pn u pane.toNatClampNeg)), pl, pl, (-1), (p_rd (s_pn u pane.toNatClampNeg)))) _ _ _)
    · rw [hr9]
      exact RP_ok (v := s_tdu (s_ak (u) ((s_ac u)) ((s_kn u))) (upd (s_td u) 5 (((s_td u) 5) + 1))) (by simp [s_end, p_en, c4_0] <;> rfl) (z_lt3 h_ok rfl) (RI_td (RI_ak hR _ _ _) _)
  · refine z_Mi_mono (c_X5_end_bad l G hm h_bad) ?_
    rintro r M' ⟨hr9, rfl⟩
    · exact RP_bad (z_lt0 h_bad) (RI_ak hR _ _ _) (by first | rfl | (simp [t_nn, t_and]; done) | simp [z_lt, h_bad])
theorem a_X5_mark (l : Launch) {G : zG} {u : sS} {m : Nat} {th : Int32} {K : Nat → Nat} {tp pn td : Nat} {R : zM} (hR : RI G u m th K tp pn td R) {t : Nat} (hok : s_ok t u) (ht : t ≤ 64) (pane : Int32) : z_Mi l G qX5_mark (z_rm 4 0 0) [.ref m, .int pane] R (RP G m pn td (z_lt (z_is pane 0 5) 1) u (s_mark u pane.toNatClampNeg)) := by
  obtain ⟨hm, ⟨ft, htp, hft⟩, ⟨fp, hpn, hfp⟩, htd, hK, iK, i1, i2, i3⟩ := id hR
  rcases z_pc pane with ⟨h_ok, h_ip, hi⟩ | ⟨h_bad, -⟩
  · refine z_Mi_mono (c_X5_mark l G hm htd hpn (hK _ hi) h_ok h_ip rfl (hfp _ hi) (i1 _ hi)) ?_
    rintro r M' ⟨hr9, rfl⟩
    · rw [hr9]
      exact RP_ok (v := s_ak (s_up (u) pane.toNatClampNeg (p_ro (s_pn u pane.toNatClampNeg), (p_sa (s_pn u pane.toNatClampNeg)), (p_cp (s_pn u pane.toNatClampNeg)), (p_po (s_pn u pane.toNatClampNeg)), (p_li (s_pn u pane.toNatClampNeg)), (p_po (s_pn u pane.toNatClampNeg)), (p_rd (s_pn u pane.toNatClampNeg)))) ((s_ac u) + 1) ((s_kn u))) (by simp [s_mark, p_mkd, p_po', p_bg] <;> rfl) (z_lt3 h_ok rfl) (RI_ak (RI_pn hR hi (p_ro (s_pn u pane.toNatClampNeg), (p_sa (s_pn u pane.toNatClampNeg)), (p_cp (s_pn u pane.toNatClampNeg)), (p_po (s_pn u pane.toNatClampNeg)), (p_li (s_pn u pane.toNatClampNeg)), (p_po (s_pn u pane.toNatClampNeg)), (p_rd (s_pn u pane.toNatClampNeg)))) _ _ _)
  · refine z_Mi_mono (c_X5_mark_bad l G hm h_bad) ?_
    rintro r M' ⟨hr9, rfl⟩
    · exact RP_bad (z_lt0 h_bad) (RI_ak hR _ _ _) (by first | rfl | (simp [t_nn, t_and]; done) | simp [z_lt, h_bad])
theorem a_X5_back (l : Launch) {G : zG} {u : sS} {m : Nat} {th : Int32} {K : Nat → Nat} {tp pn td : Nat} {R : zM} (hR : RI G u m th K tp pn td R) {t : Nat} (hok : s_ok t u) (ht : t ≤ 64) (pane : Int32) : z_Mi l G qX5_back (z_rm 4 0 0) [.ref m, .int pane] R (RP G m pn td (z_lt (z_is pane 0 5) 1) u (s_back u pane.toNatClampNeg)) := by
  obtain ⟨hm, ⟨ft, htp, hft⟩, ⟨fp, hpn, hfp⟩, htd, hK, iK, i1, i2, i3⟩ := id hR
  rcases z_pc pane with ⟨h_ok, h_ip, hi⟩ | ⟨h_bad, -⟩
  · refine z_Mi_mono (c_X5_back l G hm htd hpn (hK _ hi) h_ok h_ip rfl (hfp _ hi) (i1 _ hi)) ?_
    rintro r M' (⟨c0_0, hr9, rfl⟩ | ⟨c1_0, hr9, rfl⟩)
    · rw [hr9]
      exact RP_ok (v := s_ak (s_up (u) pane.toNatClampNeg (p_ro (s_pn u pane.toNatClampNeg), (p_sa (s_pn u pane.toNatClampNeg)), (p_cp (s_pn u pane.toNatClampNeg)), (p_mk (s_pn u pane.toNatClampNeg)), (p_li (s_pn u pane.toNatClampNeg)), (p_mk (s_pn u pane.toNatClampNeg)), (p_rd (s_pn u pane.toNatClampNeg)))) ((s_ac u) + 1) ((s_kn u))) (by simp [s_back, p_mkd, p_po', p_bg, c0_0] <;> rfl) (z_lt3 h_ok rfl) (RI_ak (RI_pn hR hi (p_ro (s_pn u pane.toNatClampNeg), (p_sa (s_pn u pane.toNatClampNeg)), (p_cp (s_pn u pane.toNatClampNeg)), (p_mk (s_pn u pane.toNatClampNeg)), (p_li (s_pn u pane.toNatClampNeg)), (p_mk (s_pn u pane.toNatClampNeg)), (p_rd (s_pn u pane.toNatClampNeg)))) _ _ _)
    · rw [hr9]
      exact RP_ok (v := s_tdu (s_ak (u) ((s_ac u)) ((s_kn u))) (upd (s_td u) 3 (((s_td u) 3) + 1))) (by simp [s_back, p_mkd, p_po', p_bg, c1_0] <;> rfl) (z_lt3 h_ok rfl) (RI_td (RI_ak hR _ _ _) _)
  · refine z_Mi_mono (c_X5_back_bad l G hm h_bad) ?_
    rintro r M' ⟨hr9, rfl⟩
    · exact RP_bad (z_lt0 h_bad) (RI_ak hR _ _ _) (by first | rfl | (simp [t_nn, t_and]; done) | simp [z_lt, h_bad])
theorem a_X5_clear (l : Launch) {G : zG} {u : sS} {m : Nat} {th : Int32} {K : Nat → Nat} {tp pn td : Nat} {R : zM} (hR : RI G u m th K tp pn td R) {t : Nat} (hok : s_ok t u) (ht : t ≤ 64) (pane : Int32) : z_Mi l G qX5_clear (z_rm 4 0 0) [.ref m, .int pane] R (RP G m pn td (z_lt (z_is pane 0 5) 1) u (s_clear u pane.toNatClampNeg)) := by
  obtain ⟨hm, ⟨ft, htp, hft⟩, ⟨fp, hpn, hfp⟩, htd, hK, iK, i1, i2, i3⟩ := id hR
  rcases z_pc pane with ⟨h_ok, h_ip, hi⟩ | ⟨h_bad, -⟩
  · refine z_Mi_mono (c_X5_clear l G hm htd hpn (hK _ hi) h_ok h_ip rfl (hfp _ hi) (i1 _ hi)) ?_
    rintro r M' ⟨hr9, rfl⟩
    · rw [hr9]
      exact RP_ok (v := s_ak (s_up (u) pane.toNatClampNeg (p_ro (s_pn u pane.toNatClampNeg), (p_sa (s_pn u pane.toNatClampNeg)), (p_cp (s_pn u pane.toNatClampNeg)), 0, (p_cp (s_pn u pane.toNatClampNeg)), (-1), (p_rd (s_pn u pane.toNatClampNeg)))) ((s_ac u) + 1) ((s_kn u))) (by simp [s_clear, p_mkd, p_po', p_bg] <;> rfl) (z_lt3 h_ok rfl) (RI_ak (RI_pn hR hi (p_ro (s_pn u pane.toNatClampNeg), (p_sa (s_pn u pane.toNatClampNeg)), (p_cp (s_pn u pane.toNatClampNeg)), 0, (p_cp (s_pn u pane.toNatClampNeg)), (-1), (p_rd (s_pn u pane.toNatClampNeg)))) _ _ _)
  · refine z_Mi_mono (c_X5_clear_bad l G hm h_bad) ?_
    rintro r M' ⟨hr9, rfl⟩
    · exact RP_bad (z_lt0 h_bad) (RI_ak hR _ _ _) (by first | rfl | (simp [t_nn, t_and]; done) | simp [z_lt, h_bad])
theorem a_X5_flip (l : Launch) {G : zG} {u : sS} {m : Nat} {th : Int32} {K : Nat → Nat} {tp pn td : Nat} {R : zM} (hR : RI G u m th K tp pn td R) {t : Nat} (hok : s_ok t u) (ht : t ≤ 64) (pane : Int32) : z_Mi l G qX5_flip (z_rm 4 0 0) [.ref m, .int pane] R (RP G m pn td (z_lt (z_is pane 0 5) 1) u (s_flip u pane.toNatClampNeg)) := by
  obtain ⟨hm, ⟨ft, htp, hft⟩, ⟨fp, hpn, hfp⟩, htd, hK, iK, i1, i2, i3⟩ := id hR
  rcases z_pc pane with ⟨h_ok, h_ip, hi⟩ | ⟨h_bad, -⟩
  · refine z_Mi_mono (c_X5_flip l G hm htd hpn (hK _ hi) h_ok h_ip rfl (hfp _ hi) (i1 _ hi)) ?_
    rintro r M' ⟨hr9, rfl⟩
    · rw [hr9]
      exact RP_ok (v := s_ak (s_up (u) pane.toNatClampNeg (p_ro (s_pn u pane.toNatClampNeg), (p_sa (s_pn u pane.toNatClampNeg)), (p_cp (s_pn u pane.toNatClampNeg)), 0, (p_po (s_pn u pane.toNatClampNeg)), (-1), (p_rd (s_pn u pane.toNatClampNeg)))) ((s_ac u) + 1) ((s_kn u))) (by simp [s_flip, p_mkd, p_po', p_bg] <;> rfl) (z_lt3 h_ok rfl) (RI_ak (RI_pn hR hi (p_ro (s_pn u pane.toNatClampNeg), (p_sa (s_pn u pane.toNatClampNeg)), (p_cp (s_pn u pane.toNatClampNeg)), 0, (p_po (s_pn u pane.toNatClampNeg)), (-1), (p_rd (s_pn u pane.toNatClampNeg)))) _ _ _)
  · refine z_Mi_mono (c_X5_flip_bad l G hm h_bad) ?_
    rintro r M' ⟨hr9, rfl⟩
    · exact RP_bad (z_lt0 h_bad) (RI_ak hR _ _ _) (by first | rfl | (simp [t_nn, t_and]; done) | simp [z_lt, h_bad])
theorem a_X5_rewind (l : Launch) {G : zG} {u : sS} {m : Nat} {th : Int32} {K : Nat → Nat} {tp pn td : Nat} {R : zM} (hR : RI G u m th K tp pn td R) {t : Nat} (hok : s_ok t u) (ht : t ≤ 64) (pane : Int32) : z_Mi l G qX5_rewind (z_rm 4 0 0) [.ref m, .int pane] R (RP G m pn td (z_lt (z_is pane 0 5) 1) u (s_rewind u pane.toNatClampNeg)) := by
  obtain ⟨hm, ⟨ft, htp, hft⟩, ⟨fp, hpn, hfp⟩, htd, hK, iK, i1, i2, i3⟩ := id hR
  rcases z_pc pane with ⟨h_ok, h_ip, hi⟩ | ⟨h_bad, -⟩
  · refine z_Mi_mono (c_X5_rewind l G hm htd hpn (hK _ hi) h_ok h_ip rfl (hfp _ hi) (i1 _ hi)) ?_
    rintro r M' ⟨hr9, rfl⟩
    · rw [hr9]
      exact RP_ok (v := s_ak (s_up (u) pane.toNatClampNeg (p_ro (s_pn u pane.toNatClampNeg), (p_sa (s_pn u pane.toNatClampNeg)), (p_cp (s_pn u pane.toNatClampNeg)), 0, (p_li (s_pn u pane.toNatClampNeg)), (-1), (p_rd (s_pn u pane.toNatClampNeg)))) ((s_ac u) + 1) ((s_kn u))) (by simp [s_rewind, p_mkd, p_po', p_bg] <;> rfl) (z_lt3 h_ok rfl) (RI_ak (RI_pn hR hi (p_ro (s_pn u pane.toNatClampNeg), (p_sa (s_pn u pane.toNatClampNeg)), (p_cp (s_pn u pane.toNatClampNeg)), 0, (p_li (s_pn u pane.toNatClampNeg)), (-1), (p_rd (s_pn u pane.toNatClampNeg)))) _ _ _)
  · refine z_Mi_mono (c_X5_rewind_bad l G hm h_bad) ?_
    rintro r M' ⟨hr9, rfl⟩
    · exact RP_bad (z_lt0 h_bad) (RI_ak hR _ _ _) (by first | rfl | (simp [t_nn, t_and]; done) | simp [z_lt, h_bad])
theorem a_X5_move (l : Launch) {G : zG} {u : sS} {m : Nat} {th : Int32} {K : Nat → Nat} {tp pn td : Nat} {R : zM} (hR : RI G u m th K tp pn td R) {t : Nat} (hok : s_ok t u) (ht : t ≤ 64) (pane bb : Int32) : z_Mi l G qX5_move (z_rm 5 0 0) [.ref m, .int pane, .int bb] R (RP G m pn td (z_lt (z_is pane 0 5) (z_is bb (-20) 20)) u (s_move u pane.toNatClampNeg bb)) := by
  obtain ⟨hm, ⟨ft, htp, hft⟩, ⟨fp, hpn, hfp⟩, htd, hK, iK, i1, i2, i3⟩ := id hR
  rcases z_pc pane with ⟨h_ok, h_ip, hi⟩ | ⟨h_bad, -⟩
  · refine z_Mi_mono (c_X5_move l G hm htd hpn (hK _ hi) h_ok h_ip rfl (hfp _ hi) (i1 _ hi)) ?_
    rintro r M' (⟨c0_0, c0_1, c0_2, c0_3, hr9, rfl⟩ | ⟨c1_0, c1_1, c1_2, c1_3, hr9, rfl⟩ | ⟨c2_0, c2_1, c2_2, c2_3, hr9, rfl⟩ | ⟨c3_0, c3_1, c3_2, c3_3, hr9, rfl⟩ | ⟨c4_0, c4_1, hr9, rfl⟩ | ⟨c5_0, hr9, rfl⟩)
    · rw [hr9]
      exact RP_ok (v := s_ak (s_up (u) pane.toNatClampNeg (p_ro (s_pn u pane.toNatClampNeg), (p_sa (s_pn u pane.toNatClampNeg)), (p_cp (s_pn u pane.toNatClampNeg)), ((p_po (s_pn u pane.toNatClampNeg)) + bb), (p_li (s_pn u pane.toNatClampNeg)), (p_mk (s_pn u pane.toNatClampNeg)), (p_rd (s_pn u pane.toNatClampNeg)))) ((s_ac u) + 1) ((s_kn u))) (by simp [s_move, p_mv, c0_1, c0_2, c0_3] <;> rfl) (z_lr0 c0_0) (RI_ak (RI_pn hR hi (p_ro (s_pn u pane.toNatClampNeg), (p_sa (s_pn u pane.toNatClampNeg)), (p_cp (s_pn u pane.toNatClampNeg)), ((p_po (s_pn u pane.toNatClampNeg)) + bb), (p_li (s_pn u pane.toNatClampNeg)), (p_mk (s_pn u pane.toNatClampNeg)), (p_rd (s_pn u pane.toNatClampNeg)))) _ _ _) ((z_lt3 h_ok rfl).trans (z_lr0 c0_0).symm)
    · exact absurd c1_3 (fun q => by have h9 := s_pos0 hok hi; have h8 := s_lo hok hi; have h7 := congrArg Int32.toInt q; rw [show (-9 : Int32).toInt = -9 from by decide] at h7; omega)
    · rw [hr9]
      exact RP_ok (v := s_ak (s_up (u) pane.toNatClampNeg (p_ro (s_pn u pane.toNatClampNeg), (p_sa (s_pn u pane.toNatClampNeg)), (p_cp (s_pn u pane.toNatClampNeg)), ((p_po (s_pn u pane.toNatClampNeg)) + bb), (p_li (s_pn u pane.toNatClampNeg)), (-1), (p_rd (s_pn u pane.toNatClampNeg)))) ((s_ac u) + 1) ((s_kn u))) (by simp [s_move, p_mv, c2_1, c2_2, c2_3] <;> rfl) (z_lr0 c2_0) (RI_ak (RI_pn hR hi (p_ro (s_pn u pane.toNatClampNeg), (p_sa (s_pn u pane.toNatClampNeg)), (p_cp (s_pn u pane.toNatClampNeg)), ((p_po (s_pn u pane.toNatClampNeg)) + bb), (p_li (s_pn u pane.toNatClampNeg)), (-1), (p_rd (s_pn u pane.toNatClampNeg)))) _ _ _) ((z_lt3 h_ok rfl).trans (z_lr0 c2_0).symm)
    · exact absurd c3_3 (fun q => by have h9 := s_pos0 hok hi; have h8 := s_lo hok hi; have h7 := congrArg Int32.toInt q; rw [show (-9 : Int32).toInt = -9 from by decide] at h7; omega)
    · rw [hr9]
      exact RP_ok (v := s_tdu (s_ak (u) ((s_ac u)) ((s_kn u))) (upd (s_td u) 5 (((s_td u) 5) + 1))) (by simp [s_move, p_mv, c4_1] <;> rfl) (z_lr0 c4_0) (RI_td (RI_ak hR _ _ _) _) ((z_lt3 h_ok rfl).trans (z_lr0 c4_0).symm)
    · rw [hr9]
      exact RP_bad (z_lr1 c5_0) (RI_ak hR _ _ _)
  · refine z_Mi_mono (c_X5_move_bad l G hm h_bad) ?_
    rintro r M' ⟨hr9, rfl⟩
    · exact RP_bad (z_lt0 h_bad) (RI_ak hR _ _ _) (by first | rfl | (simp [t_nn, t_and]; done) | simp [z_lt, h_bad])
theorem a_X5_stretch (l : Launch) {G : zG} {u : sS} {m : Nat} {th : Int32} {K : Nat → Nat} {tp pn td : Nat} {R : zM} (hR : RI G u m th K tp pn td R) {t : Nat} (hok : s_ok t u) (ht : t ≤ 64) (pane bb : Int32) : z_Mi l G qX5_stretch (z_rm 5 0 0) [.ref m, .int pane, .int bb] R (RP G m pn td (z_lt (z_is pane 0 5) (z_is bb (-20) 20)) u (s_stretch u pane.toNatClampNeg bb)) := by
  obtain ⟨hm, ⟨ft, htp, hft⟩, ⟨fp, hpn, hfp⟩, htd, hK, iK, i1, i2, i3⟩ := id hR
  rcases z_pc pane with ⟨h_ok, h_ip, hi⟩ | ⟨h_bad, -⟩
  · refine z_Mi_mono (c_X5_stretch l G hm htd hpn (hK _ hi) h_ok h_ip rfl (hfp _ hi) (i1 _ hi)) ?_
    rintro r M' (⟨c0_0, c0_1, c0_2, c0_3, c0_4, hr9, rfl⟩ | ⟨c1_0, c1_1, c1_2, c1_3, c1_4, hr9, rfl⟩ | ⟨c2_0, c2_1, c2_2, c2_3, c2_4, hr9, rfl⟩ | ⟨c3_0, c3_1, c3_2, c3_3, c3_4, hr9, rfl⟩ | ⟨c4_0, c4_1, c4_2, c4_3, c4_4, hr9, rfl⟩ | ⟨c5_0, c5_1, c5_2, c5_3, c5_4, hr9, rfl⟩ | ⟨c6_0, c6_1, c6_2, c6_3, c6_4, hr9, rfl⟩ | ⟨c7_0, c7_1, c7_2, c7_3, c7_4, hr9, rfl⟩ | ⟨c8_0, c8_1, hr9, rfl⟩ | ⟨c9_0, hr9, rfl⟩)
    · rw [hr9]
      exact RP_ok (v := s_ak (s_up (u) pane.toNatClampNeg (p_ro (s_pn u pane.toNatClampNeg), (p_sa (s_pn u pane.toNatClampNeg)), (p_cp (s_pn u pane.toNatClampNeg)), (p_po (s_pn u pane.toNatClampNeg)), ((p_li (s_pn u pane.toNatClampNeg)) + bb), (p_mk (s_pn u pane.toNatClampNeg)), (p_rd (s_pn u pane.toNatClampNeg)))) ((s_ac u) + 1) ((s_kn u))) (by simp [s_stretch, p_en, c0_1, c0_2, c0_3, c0_4] <;> rfl) (z_lr0 c0_0) (RI_ak (RI_pn hR hi (p_ro (s_pn u pane.toNatClampNeg), (p_sa (s_pn u pane.toNatClampNeg)), (p_cp (s_pn u pane.toNatClampNeg)), (p_po (s_pn u pane.toNatClampNeg)), ((p_li (s_pn u pane.toNatClampNeg)) + bb), (p_mk (s_pn u pane.toNatClampNeg)), (p_rd (s_pn u pane.toNatClampNeg)))) _ _ _) ((z_lt3 h_ok rfl).trans (z_lr0 c0_0).symm)
    · exact absurd c1_4 (fun q => by have h9 := s_pos0 hok hi; have h8 := s_lo hok hi; have h7 := congrArg Int32.toInt q; rw [show (-9 : Int32).toInt = -9 from by decide] at h7; omega)
    · rw [hr9]
      exact RP_ok (v := s_ak (s_up (u) pane.toNatClampNeg (p_ro (s_pn u pane.toNatClampNeg), (p_sa (s_pn u pane.toNatClampNeg)), (p_cp (s_pn u pane.toNatClampNeg)), (p_po (s_pn u pane.toNatClampNeg)), ((p_li (s_pn u pane.toNatClampNeg)) + bb), (-1), (p_rd (s_pn u pane.toNatClampNeg)))) ((s_ac u) + 1) ((s_kn u))) (by simp [s_stretch, p_en, c2_1, c2_2, c2_3, c2_4] <;> rfl) (z_lr0 c2_0) (RI_ak (RI_pn hR hi (p_ro (s_pn u pane.toNatClampNeg), (p_sa (s_pn u pane.toNatClampNeg)), (p_cp (s_pn u pane.toNatClampNeg)), (p_po (s_pn u pane.toNatClampNeg)), ((p_li (s_pn u pane.toNatClampNeg)) + bb), (-1), (p_rd (s_pn u pane.toNatClampNeg)))) _ _ _) ((z_lt3 h_ok rfl).trans (z_lr0 c2_0).symm)
    · exact absurd c3_4 (fun q => by have h9 := s_pos0 hok hi; have h8 := s_lo hok hi; have h7 := congrArg Int32.toInt q; rw [show (-9 : Int32).toInt = -9 from by decide] at h7; omega)
    · rw [hr9]
      exact RP_ok (v := s_ak (s_up (u) pane.toNatClampNeg (p_ro (s_pn u pane.toNatClampNeg), (p_sa (s_pn u pane.toNatClampNeg)), (p_cp (s_pn u pane.toNatClampNeg)), ((p_li (s_pn u pane.toNatClampNeg)) + bb), ((p_li (s_pn u pane.toNatClampNeg)) + bb), (p_mk (s_pn u pane.toNatClampNeg)), (p_rd (s_pn u pane.toNatClampNeg)))) ((s_ac u) + 1) ((s_kn u))) (by simp [s_stretch, p_en, c4_1, c4_2, c4_3, c4_4] <;> rfl) (z_lr0 c4_0) (RI_ak (RI_pn hR hi (p_ro (s_pn u pane.toNatClampNeg), (p_sa (s_pn u pane.toNatClampNeg)), (p_cp (s_pn u pane.toNatClampNeg)), ((p_li (s_pn u pane.toNatClampNeg)) + bb), ((p_li (s_pn u pane.toNatClampNeg)) + bb), (p_mk (s_pn u pane.toNatClampNeg)), (p_rd (s_pn u pane.toNatClampNeg)))) _ _ _) ((z_lt3 h_ok rfl).trans (z_lr0 c4_0).symm)
    · exact absurd c5_4 (fun q => by have h9 := s_pos0 hok hi; have h8 := s_lo hok hi; have h7 := congrArg Int32.toInt q; rw [show (-9 : Int32).toInt = -9 from by decide] at h7; omega)
    · rw [hr9]
      exact RP_ok (v := s_ak (s_up (u) pane.toNatClampNeg (p_ro (s_pn u pane.toNatClampNeg), (p_sa (s_pn u pane.toNatClampNeg)), (p_cp (s_pn u pane.toNatClampNeg)), ((p_li (s_pn u pane.toNatClampNeg)) + bb), ((p_li (s_pn u pane.toNatClampNeg)) + bb), (-1), (p_rd (s_pn u pane.toNatClampNeg)))) ((s_ac u) + 1) ((s_kn u))) (by simp [s_stretch, p_en, c6_1, c6_2, c6_3, c6_4] <;> rfl) (z_lr0 c6_0) (RI_ak (RI_pn hR hi (p_ro (s_pn u pane.toNatClampNeg), (p_sa (s_pn u pane.toNatClampNeg)), (p_cp (s_pn u pane.toNatClampNeg)), ((p_li (s_pn u pane.toNatClampNeg)) + bb), ((p_li (s_pn u pane.toNatClampNeg)) + bb), (-1), (p_rd (s_pn u pane.toNatClampNeg)))) _ _ _) ((z_lt3 h_ok rfl).trans (z_lr0 c6_0).symm)
    · exact absurd c7_4 (fun q => by have h9 := s_pos0 hok hi; have h8 := s_lo hok hi; have h7 := congrArg Int32.toInt q; rw [show (-9 : Int32).toInt = -9 from by decide] at h7; omega)
    · rw [hr9]
      exact RP_ok (v := s_tdu (s_ak (u) ((s_ac u)) ((s_kn u))) (upd (s_td u) 5 (((s_td u) 5) + 1))) (by simp [s_stretch, p_en, c8_1] <;> rfl) (z_lr0 c8_0) (RI_td (RI_ak hR _ _ _) _) ((z_lt3 h_ok rfl).trans (z_lr0 c8_0).symm)
    · rw [hr9]
      exact RP_bad (z_lr1 c9_0) (RI_ak hR _ _ _)
  · refine z_Mi_mono (c_X5_stretch_bad l G hm h_bad) ?_
    rintro r M' ⟨hr9, rfl⟩
    · exact RP_bad (z_lt0 h_bad) (RI_ak hR _ _ _) (by first | rfl | (simp [t_nn, t_and]; done) | simp [z_lt, h_bad])
theorem a_X5_drain (l : Launch) {G : zG} {u : sS} {m : Nat} {th : Int32} {K : Nat → Nat} {tp pn td : Nat} {R : zM} (hR : RI G u m th K tp pn td R) {t : Nat} (hok : s_ok t u) (ht : t ≤ 64) (pane mn : Int32) : z_Mi l G qX5_drain (z_rm 4 0 0) [.ref m, .int pane, .int mn] R (RP G m pn td (z_lt (z_is pane 0 5) (z_is mn 0 20)) u (s_drain u pane.toNatClampNeg mn)) := by
  obtain ⟨hm, ⟨ft, htp, hft⟩, ⟨fp, hpn, hfp⟩, htd, hK, iK, i1, i2, i3⟩ := id hR
  rcases z_pc pane with ⟨h_ok, h_ip, hi⟩ | ⟨h_bad, -⟩
  · refine z_Mi_mono (c_X5_drain l G hm htd hpn (hK _ hi) h_ok h_ip rfl (hfp _ hi) (i1 _ hi)) ?_
    rintro r M' (⟨c0_0, c0_1, c0_2, hr9, rfl⟩ | ⟨c1_0, c1_1, c1_2, hr9, rfl⟩ | ⟨c2_0, c2_1, c2_2, hr9, rfl⟩ | ⟨c3_0, c3_1, c3_2, hr9, rfl⟩ | ⟨c4_0, hr9, rfl⟩)
    · exact absurd c0_2 (Int32.not_le.mpr c0_1)
    · rw [hr9]
      exact RP_ok (v := s_ak (s_tdu (s_up (u) pane.toNatClampNeg (p_ro (s_pn u pane.toNatClampNeg), (p_sa (s_pn u pane.toNatClampNeg)), (p_cp (s_pn u pane.toNatClampNeg)), (p_po (s_pn u pane.toNatClampNeg)) + ((p_li (s_pn u pane.toNatClampNeg)) - (p_po (s_pn u pane.toNatClampNeg))), (p_li (s_pn u pane.toNatClampNeg)), (p_mk (s_pn u pane.toNatClampNeg)), (p_rd (s_pn u pane.toNatClampNeg)))) (upd (s_td u) 2 (((s_td u) 2) + 1))) ((s_ac u) + 1) ((s_kn u))) (by simp [s_drain, p_po', c1_1, c1_2, (Int32.not_le.mpr c1_1)] <;> rfl) (z_lr0 c1_0) (RI_ak (RI_td (RI_pn hR hi (p_ro (s_pn u pane.toNatClampNeg), (p_sa (s_pn u pane.toNatClampNeg)), (p_cp (s_pn u pane.toNatClampNeg)), (p_po (s_pn u pane.toNatClampNeg)) + ((p_li (s_pn u pane.toNatClampNeg)) - (p_po (s_pn u pane.toNatClampNeg))), (p_li (s_pn u pane.toNatClampNeg)), (p_mk (s_pn u pane.toNatClampNeg)), (p_rd (s_pn u pane.toNatClampNeg)))) _) _ _ _) 
    · rw [hr9]
      exact RP_ok (v := s_ak (s_up (u) pane.toNatClampNeg (p_ro (s_pn u pane.toNatClampNeg), (p_sa (s_pn u pane.toNatClampNeg)), (p_cp (s_pn u pane.toNatClampNeg)), (p_po (s_pn u pane.toNatClampNeg)) + mn, (p_li (s_pn u pane.toNatClampNeg)), (p_mk (s_pn u pane.toNatClampNeg)), (p_rd (s_pn u pane.toNatClampNeg)))) ((s_ac u) + 1) ((s_kn u))) (by simp [s_drain, p_po', c2_1, c2_2, (Int32.not_lt.mp c2_1)] <;> rfl) (z_lr0 c2_0) (RI_ak (RI_pn hR hi (p_ro (s_pn u pane.toNatClampNeg), (p_sa (s_pn u pane.toNatClampNeg)), (p_cp (s_pn u pane.toNatClampNeg)), (p_po (s_pn u pane.toNatClampNeg)) + mn, (p_li (s_pn u pane.toNatClampNeg)), (p_mk (s_pn u pane.toNatClampNeg)), (p_rd (s_pn u pane.toNatClampNeg)))) _ _ _) 
    · exact absurd (Int32.le_refl mn) c3_2
    · rw [hr9]
      exact RP_bad (z_lr1 c4_0) (RI_ak hR _ _ _)
  · refine z_Mi_mono (c_X5_drain_bad l G hm h_bad) ?_
    rintro r M' ⟨hr9, rfl⟩
    · exact RP_bad (z_lt0 h_bad) (RI_ak hR _ _ _) (by first | rfl | (simp [t_nn, t_and]; done) | simp [z_lt, h_bad])
theorem a_X5_putAt (l : Launch) {G : zG} {u : sS} {m : Nat} {th : Int32} {K : Nat → Nat} {tp pn td : Nat} {R : zM} (hR : RI G u m th K tp pn td R) {t : Nat} (hok : s_ok t u) (ht : t ≤ 64) (pane ix v : Int32) : z_Mi l G qX5_putAt (z_rm 4 0 0) [.ref m, .int pane, .int ix, .int v] R (RP G m pn td (z_lt (z_is pane 0 5) (t_nn v)) u (s_putAt u pane.toNatClampNeg ix v)) := by
  obtain ⟨hm, ⟨ft, htp, hft⟩, ⟨fp, hpn, hfp⟩, htd, hK, iK, i1, i2, i3⟩ := id hR
  rcases z_pc pane with ⟨h_ok, h_ip, hi⟩ | ⟨h_bad, -⟩
  · refine z_Mi_mono (c_X5_putAt l G hm htd htp hpn (hK _ hi) h_ok h_ip rfl (hfp _ hi) (i2 _ hi) (i1 _ hi) i3 (s_or hok ht hi)) ?_
    rintro r M' (⟨c0_0, hr9, rfl⟩ | ⟨c1_0, c1_1, c1_2, hr9, rfl⟩ | ⟨c2_0, c2_1, c2_2, hr9, rfl⟩ | ⟨c3_0, c3_1, hr9, rfl⟩)
    · rw [hr9]
      exact RP_bad (z_lt2 (by simp [t_nn, c0_0])) (RI_ak hR _ _ _) (by simp [t_nn, c0_0])
    · rw [hr9]
      rw [s_rd hok ht hi hft (s_inL hok hi (fun q => c1_1 ((s_hiL hok hi).mp q)))]
      exact RP_ok (v := s_ak (s_wr (u) (p_ro (s_pn u pane.toNatClampNeg)) (p_at (s_pn u pane.toNatClampNeg) ix) v) ((s_ac u) + 1) ((s_kn u))) (by simp [s_putAt, c1_1, c1_2, (show ¬ z_hi ix (p_li (s_pn u pane.toNatClampNeg)) = 0 from fun q => c1_1 ((s_hiL hok hi).mp q))] <;> rfl) (z_lt3 h_ok (by simp [t_nn, c1_0])) (RI_ak (RI_wr hR (s_row hok hi) (s_atlt (s_inL hok hi (fun q => c1_1 ((s_hiL hok hi).mp q)))) (s_wh' hok ht hi (s_inL hok hi (fun q => c1_1 ((s_hiL hok hi).mp q)))) htp _) _ _ _) (by simp [t_nn, c1_0])
    · rw [hr9]
      exact RP_ok (v := s_tdu (s_ak (u) ((s_ac u)) ((s_kn u))) (upd (s_td u) 4 (((s_td u) 4) + 1))) (by simp [s_putAt, c2_1, c2_2, (show ¬ z_hi ix (p_li (s_pn u pane.toNatClampNeg)) = 0 from fun q => c2_1 ((s_hiL hok hi).mp q))] <;> rfl) (z_lt3 h_ok (by simp [t_nn, c2_0])) (RI_td (RI_ak hR _ _ _) _) (by simp [t_nn, c2_0])
    · rw [hr9]
      exact RP_ok (v := s_tdu (s_ak (u) ((s_ac u)) ((s_kn u))) (upd (s_td u) 5 (((s_td u) 5) + 1))) (by simp [s_putAt, c3_1, ((s_hiL hok hi).mpr c3_1)] <;> rfl) (z_lt3 h_ok (by simp [t_nn, c3_0])) (RI_td (RI_ak hR _ _ _) _) (by simp [t_nn, c3_0])
  · refine z_Mi_mono (c_X5_putAt_bad l G hm h_bad) ?_
    rintro r M' (⟨b0_0, hr9, rfl⟩ | ⟨b1_0, hr9, rfl⟩)
    · exact RP_bad (z_lt0 h_bad) (RI_ak hR _ _ _) (by first | rfl | (simp [t_nn, t_and, b0_0]; done) | simp [z_lt, h_bad])
    · exact RP_bad (z_lt0 h_bad) (RI_ak hR _ _ _) (by first | rfl | (simp [t_nn, t_and, b1_0]; done) | simp [z_lt, h_bad])
theorem a_X5_reach (l : Launch) {G : zG} {u : sS} {m : Nat} {th : Int32} {K : Nat → Nat} {tp pn td : Nat} {R : zM} (hR : RI G u m th K tp pn td R) {t : Nat} (hok : s_ok t u) (ht : t ≤ 64) (pane ix v : Int32) : z_Mi l G qX5_reach (z_rm 4 0 0) [.ref m, .int pane, .int ix, .int v] R (RP G m pn td (z_lt (z_is pane 0 5) (t_nn v)) u (s_reach u pane.toNatClampNeg ix v)) := by
  obtain ⟨hm, ⟨ft, htp, hft⟩, ⟨fp, hpn, hfp⟩, htd, hK, iK, i1, i2, i3⟩ := id hR
  rcases z_pc pane with ⟨h_ok, h_ip, hi⟩ | ⟨h_bad, -⟩
  · refine z_Mi_mono (c_X5_reach l G hm htd htp hpn (hK _ hi) h_ok h_ip rfl (hfp _ hi) (i2 _ hi) (i1 _ hi) i3 (s_or hok ht hi)) ?_
    rintro r M' (⟨c0_0, hr9, rfl⟩ | ⟨c1_0, c1_1, c1_2, hr9, rfl⟩ | ⟨c2_0, c2_1, c2_2, hr9, rfl⟩ | ⟨c3_0, c3_1, hr9, rfl⟩)
    · rw [hr9]
      exact RP_bad (z_lt2 (by simp [t_nn, c0_0])) (RI_ak hR _ _ _) (by simp [t_nn, c0_0])
    · rw [hr9]
      rw [s_rd hok ht hi hft (s_inC hok hi (fun q => c1_2 ((s_hiC hok hi).mp q)))]
      exact RP_ok (v := s_ak (s_wr (u) (p_ro (s_pn u pane.toNatClampNeg)) (p_at (s_pn u pane.toNatClampNeg) ix) v) ((s_ac u) + 1) ((s_kn u))) (by simp [s_reach, c1_1, c1_2, (show ¬ z_hi ix (p_cp (s_pn u pane.toNatClampNeg)) = 0 from fun q => c1_2 ((s_hiC hok hi).mp q))] <;> rfl) (z_lt3 h_ok (by simp [t_nn, c1_0])) (RI_ak (RI_wr hR (s_row hok hi) (s_atlt (s_inC hok hi (fun q => c1_2 ((s_hiC hok hi).mp q)))) (s_wh' hok ht hi (s_inC hok hi (fun q => c1_2 ((s_hiC hok hi).mp q)))) htp _) _ _ _) (by simp [t_nn, c1_0])
    · rw [hr9]
      exact RP_ok (v := s_tdu (s_ak (u) ((s_ac u)) ((s_kn u))) (upd (s_td u) 5 (((s_td u) 5) + 1))) (by simp [s_reach, c2_1, c2_2, ((s_hiC hok hi).mpr c2_2)] <;> rfl) (z_lt3 h_ok (by simp [t_nn, c2_0])) (RI_td (RI_ak hR _ _ _) _) (by simp [t_nn, c2_0])
    · rw [hr9]
      exact RP_ok (v := s_tdu (s_ak (u) ((s_ac u)) ((s_kn u))) (upd (s_td u) 4 (((s_td u) 4) + 1))) (by simp [s_reach, c3_1] <;> rfl) (z_lt3 h_ok (by simp [t_nn, c3_0])) (RI_td (RI_ak hR _ _ _) _) (by simp [t_nn, c3_0])
  · refine z_Mi_mono (c_X5_reach_bad l G hm h_bad) ?_
    rintro r M' (⟨b0_0, hr9, rfl⟩ | ⟨b1_0, hr9, rfl⟩)
    · exact RP_bad (z_lt0 h_bad) (RI_ak hR _ _ _) (by first | rfl | (simp [t_nn, t_and, b0_0]; done) | simp [z_lt, h_bad])
    · exact RP_bad (z_lt0 h_bad) (RI_ak hR _ _ _) (by first | rfl | (simp [t_nn, t_and, b1_0]; done) | simp [z_lt, h_bad])
theorem a_X5_put (l : Launch) {G : zG} {u : sS} {m : Nat} {th : Int32} {K : Nat → Nat} {tp pn td : Nat} {R : zM} (hR : RI G u m th K tp pn td R) {t : Nat} (hok : s_ok t u) (ht : t ≤ 64) (pane v : Int32) : z_Mi l G qX5_put (z_rm 4 0 0) [.ref m, .int pane, .int v] R (RP G m pn td (z_lt (z_is pane 0 5) (t_nn v)) u (s_put u pane.toNatClampNeg v)) := by
  obtain ⟨hm, ⟨ft, htp, hft⟩, ⟨fp, hpn, hfp⟩, htd, hK, iK, i1, i2, i3⟩ := id hR
  rcases z_pc pane with ⟨h_ok, h_ip, hi⟩ | ⟨h_bad, -⟩
  · refine z_Mi_mono (c_X5_put l G hm htd htp hpn (hK _ hi) h_ok h_ip rfl (hfp _ hi) (i2 _ hi) (i1 _ hi) i3 (s_or hok ht hi)) ?_
    rintro r M' (⟨c0_0, hr9, rfl⟩ | ⟨c1_0, c1_1, c1_2, hr9, rfl⟩ | ⟨c2_0, c2_1, c2_2, hr9, rfl⟩ | ⟨c3_0, c3_1, hr9, rfl⟩)
    · rw [hr9]
      exact RP_bad (z_lt2 (by simp [t_nn, c0_0])) (RI_ak hR _ _ _) (by simp [t_nn, c0_0])
    · rw [hr9]
      exact RP_ok (v := s_ak (s_up (s_wr (u) (p_ro (s_pn u pane.toNatClampNeg)) (p_at (s_pn u pane.toNatClampNeg) (p_po (s_pn u pane.toNatClampNeg))) v) pane.toNatClampNeg (p_ro (s_pn u pane.toNatClampNeg), (p_sa (s_pn u pane.toNatClampNeg)), (p_cp (s_pn u pane.toNatClampNeg)), (p_po (s_pn u pane.toNatClampNeg)) + 1, (p_li (s_pn u pane.toNatClampNeg)), (p_mk (s_pn u pane.toNatClampNeg)), (p_rd (s_pn u pane.toNatClampNeg)))) ((s_ac u) + 1) ((s_kn u))) (by simp [s_put, s_put1, p_po', c1_1, c1_2] <;> rfl) (z_lt3 h_ok (by simp [t_nn, c1_0])) (RI_ak (RI_pn (RI_wr hR (s_row hok hi) (s_atlt (s_inP hok hi c1_2)) (s_wh' hok ht hi (s_inP hok hi c1_2)) htp _) hi (p_ro (s_pn u pane.toNatClampNeg), (p_sa (s_pn u pane.toNatClampNeg)), (p_cp (s_pn u pane.toNatClampNeg)), (p_po (s_pn u pane.toNatClampNeg)) + 1, (p_li (s_pn u pane.toNatClampNeg)), (p_mk (s_pn u pane.toNatClampNeg)), (p_rd (s_pn u pane.toNatClampNeg)))) _ _ _) (by simp [t_nn, c1_0])
    · rw [hr9]
      exact RP_ok (v := s_tdu (s_ak (u) ((s_ac u)) ((s_kn u))) (upd (s_td u) 1 (((s_td u) 1) + 1))) (by simp [s_put, s_put1, p_po', c2_1, c2_2] <;> rfl) (z_lt3 h_ok (by simp [t_nn, c2_0])) (RI_td (RI_ak hR _ _ _) _) (by simp [t_nn, c2_0])
    · rw [hr9]
      exact RP_ok (v := s_tdu (s_ak (u) ((s_ac u)) ((s_kn u))) (upd (s_td u) 4 (((s_td u) 4) + 1))) (by simp [s_put, s_put1, p_po', c3_1] <;> rfl) (z_lt3 h_ok (by simp [t_nn, c3_0])) (RI_td (RI_ak hR _ _ _) _) (by simp [t_nn, c3_0])
  · refine z_Mi_mono (c_X5_put_bad l G hm h_bad) ?_
    rintro r M' (⟨b0_0, hr9, rfl⟩ | ⟨b1_0, hr9, rfl⟩)
    · exact RP_bad (z_lt0 h_bad) (RI_ak hR _ _ _) (by first | rfl | (simp [t_nn, t_and, b0_0]; done) | simp [z_lt, h_bad])
    · exact RP_bad (z_lt0 h_bad) (RI_ak hR _ _ _) (by first | rfl | (simp [t_nn, t_and, b1_0]; done) | simp [z_lt, h_bad])
theorem a_X5_at (l : Launch) {G : zG} {u : sS} {m : Nat} {th : Int32} {K : Nat → Nat} {tp pn td : Nat} {R : zM} (hR : RI G u m th K tp pn td R) {t : Nat} (hok : s_ok t u) (ht : t ≤ 64) (pane ix : Int32) : z_Mi l G qX5_at (z_rm 4 0 0) [.ref m, .int pane, .int ix] R (RP G m pn td (z_lt (z_is pane 0 5) 1) u ((s_at u pane.toNatClampNeg ix, u))) := by
  obtain ⟨hm, ⟨ft, htp, hft⟩, ⟨fp, hpn, hfp⟩, htd, hK, iK, i1, i2, i3⟩ := id hR
  rcases z_pc pane with ⟨h_ok, h_ip, hi⟩ | ⟨h_bad, -⟩
  · refine z_Mi_mono (c_X5_at l G hm htp hpn (hK _ hi) h_ok h_ip rfl (hfp _ hi) (i2 _ hi) (s_or hok ht hi)) ?_
    rintro r M' (⟨c0_0, hr9, rfl⟩ | ⟨c1_0, hr9, rfl⟩)
    · rw [hr9]
      exact RP_ok (v := s_ak (u) ((s_ac u)) ((s_kn u))) (by simp [s_at, c0_0, ((s_hiL hok hi).mpr c0_0)] <;> rfl) (z_lt3 h_ok rfl) (RI_ak hR _ _ _)
    · rw [hr9]
      rw [s_rd hok ht hi hft (s_inL hok hi (fun q => c1_0 ((s_hiL hok hi).mp q)))]
      exact RP_ok (v := s_ak (u) ((s_ac u)) ((s_kn u))) (by simp [s_at, c1_0, (show ¬ z_hi ix (p_li (s_pn u pane.toNatClampNeg)) = 0 from fun q => c1_0 ((s_hiL hok hi).mp q))] <;> rfl) (z_lt3 h_ok rfl) (RI_ak hR _ _ _)
  · refine z_Mi_mono (c_X5_at_bad l G hm h_bad) ?_
    rintro r M' ⟨hr9, rfl⟩
    · exact RP_bad (z_lt0 h_bad) (RI_ak hR _ _ _) (by first | rfl | (simp [t_nn, t_and]; done) | simp [z_lt, h_bad])
theorem a_X5_peek (l : Launch) {G : zG} {u : sS} {m : Nat} {th : Int32} {K : Nat → Nat} {tp pn td : Nat} {R : zM} (hR : RI G u m th K tp pn td R) {t : Nat} (hok : s_ok t u) (ht : t ≤ 64) (pane : Int32) : z_Mi l G qX5_peek (z_rm 4 0 0) [.ref m, .int pane] R (RP G m pn td (z_lt (z_is pane 0 5) 1) u ((s_peek u pane.toNatClampNeg, u))) := by
  obtain ⟨hm, ⟨ft, htp, hft⟩, ⟨fp, hpn, hfp⟩, htd, hK, iK, i1, i2, i3⟩ := id hR
  rcases z_pc pane with ⟨h_ok, h_ip, hi⟩ | ⟨h_bad, -⟩
  · refine z_Mi_mono (c_X5_peek l G hm htp hpn (hK _ hi) h_ok h_ip rfl (hfp _ hi) (i2 _ hi) (s_or hok ht hi)) ?_
    rintro r M' (⟨c0_0, hr9, rfl⟩ | ⟨c1_0, hr9, rfl⟩)
    · rw [hr9]
      rw [s_rd hok ht hi hft (s_inP hok hi c0_0)]
      exact RP_ok (v := s_ak (u) ((s_ac u)) ((s_kn u))) (by simp [s_peek, c0_0] <;> rfl) (z_lt3 h_ok rfl) (RI_ak hR _ _ _)
    · rw [hr9]
      exact RP_ok (v := s_ak (u) ((s_ac u)) ((s_kn u))) (by simp [s_peek, c1_0] <;> rfl) (z_lt3 h_ok rfl) (RI_ak hR _ _ _)
  · refine z_Mi_mono (c_X5_peek_bad l G hm h_bad) ?_
    rintro r M' ⟨hr9, rfl⟩
    · exact RP_bad (z_lt0 h_bad) (RI_ak hR _ _ _) (by first | rfl | (simp [t_nn, t_and]; done) | simp [z_lt, h_bad])
theorem a_X5_get (l : Launch) {G : zG} {u : sS} {m : Nat} {th : Int32} {K : Nat → Nat} {tp pn td : Nat} {R : zM} (hR : RI G u m th K tp pn td R) {t : Nat} (hok : s_ok t u) (ht : t ≤ 64) (pane : Int32) : z_Mi l G qX5_get (z_rm 4 0 0) [.ref m, .int pane] R (RP G m pn td (z_lt (z_is pane 0 5) 1) u (s_get u pane.toNatClampNeg)) := by
  obtain ⟨hm, ⟨ft, htp, hft⟩, ⟨fp, hpn, hfp⟩, htd, hK, iK, i1, i2, i3⟩ := id hR
  rcases z_pc pane with ⟨h_ok, h_ip, hi⟩ | ⟨h_bad, -⟩
  · refine z_Mi_mono (c_X5_get l G hm htd htp hpn (hK _ hi) h_ok h_ip rfl (hfp _ hi) (i2 _ hi) (i1 _ hi) i3 (s_or hok ht hi)) ?_
    rintro r M' (⟨c0_0, hr9, rfl⟩ | ⟨c1_0, hr9, rfl⟩)
    · rw [hr9]
      rw [Int32.add_sub_cancel, s_rd hok ht hi hft (s_inP hok hi c0_0)]
      exact RP_ok (v := s_ak (s_up (u) pane.toNatClampNeg (p_ro (s_pn u pane.toNatClampNeg), (p_sa (s_pn u pane.toNatClampNeg)), (p_cp (s_pn u pane.toNatClampNeg)), (p_po (s_pn u pane.toNatClampNeg)) + 1, (p_li (s_pn u pane.toNatClampNeg)), (p_mk (s_pn u pane.toNatClampNeg)), (p_rd (s_pn u pane.toNatClampNeg)))) ((s_ac u) + 1) ((s_kn u))) (by simp [s_get, p_po', c0_0] <;> rfl) (z_lt3 h_ok rfl) (RI_ak (RI_pn hR hi (p_ro (s_pn u pane.toNatClampNeg), (p_sa (s_pn u pane.toNatClampNeg)), (p_cp (s_pn u pane.toNatClampNeg)), (p_po (s_pn u pane.toNatClampNeg)) + 1, (p_li (s_pn u pane.toNatClampNeg)), (p_mk (s_pn u pane.toNatClampNeg)), (p_rd (s_pn u pane.toNatClampNeg)))) _ _ _)
    · rw [hr9]
      exact RP_ok (v := s_tdu (s_ak (u) ((s_ac u)) ((s_kn u))) (upd (s_td u) 2 (((s_td u) 2) + 1))) (by simp [s_get, p_po', c1_0] <;> rfl) (z_lt3 h_ok rfl) (RI_td (RI_ak hR _ _ _) _)
  · refine z_Mi_mono (c_X5_get_bad l G hm h_bad) ?_
    rintro r M' ⟨hr9, rfl⟩
    · exact RP_bad (z_lt0 h_bad) (RI_ak hR _ _ _) (by first | rfl | (simp [t_nn, t_and]; done) | simp [z_lt, h_bad])
theorem a_X5_pop (l : Launch) {G : zG} {u : sS} {m : Nat} {th : Int32} {K : Nat → Nat} {tp pn td : Nat} {R : zM} (hR : RI G u m th K tp pn td R) {t : Nat} (hok : s_ok t u) (ht : t ≤ 64) (pane : Int32) : z_Mi l G qX5_pop (z_rm 4 0 0) [.ref m, .int pane] R (RP G m pn td (z_lt (z_is pane 0 5) 1) u (s_pop u pane.toNatClampNeg)) := by
  obtain ⟨hm, ⟨ft, htp, hft⟩, ⟨fp, hpn, hfp⟩, htd, hK, iK, i1, i2, i3⟩ := id hR
  rcases z_pc pane with ⟨h_ok, h_ip, hi⟩ | ⟨h_bad, -⟩
  · refine z_Mi_mono (c_X5_pop l G hm htd htp hpn (hK _ hi) h_ok h_ip rfl (hfp _ hi) (i2 _ hi) (i1 _ hi) i3 (s_or hok ht hi)) ?_
    rintro r M' (⟨c0_0, c0_1, hr9, rfl⟩ | ⟨c1_0, c1_1, hr9, rfl⟩ | ⟨c2_0, hr9, rfl⟩)
    · rw [hr9]
      rw [s_rd hok ht hi hft (s_inQ hok hi c0_0)]
      exact RP_ok (v := s_ak (s_up (u) pane.toNatClampNeg (p_ro (s_pn u pane.toNatClampNeg), (p_sa (s_pn u pane.toNatClampNeg)), (p_cp (s_pn u pane.toNatClampNeg)), ((p_po (s_pn u pane.toNatClampNeg)) - 1), (p_li (s_pn u pane.toNatClampNeg)), (p_mk (s_pn u pane.toNatClampNeg)), (p_rd (s_pn u pane.toNatClampNeg)))) ((s_ac u) + 1) ((s_kn u))) (by simp [s_pop, p_mv, c0_0, c0_1] <;> rfl) (z_lt3 h_ok rfl) (RI_ak (RI_pn hR hi (p_ro (s_pn u pane.toNatClampNeg), (p_sa (s_pn u pane.toNatClampNeg)), (p_cp (s_pn u pane.toNatClampNeg)), ((p_po (s_pn u pane.toNatClampNeg)) - 1), (p_li (s_pn u pane.toNatClampNeg)), (p_mk (s_pn u pane.toNatClampNeg)), (p_rd (s_pn u pane.toNatClampNeg)))) _ _ _)
    · rw [hr9]
      rw [s_rd hok ht hi hft (s_inQ hok hi c1_0)]
      exact RP_ok (v := s_ak (s_up (u) pane.toNatClampNeg (p_ro (s_pn u pane.toNatClampNeg), (p_sa (s_pn u pane.toNatClampNeg)), (p_cp (s_pn u pane.toNatClampNeg)), ((p_po (s_pn u pane.toNatClampNeg)) - 1), (p_li (s_pn u pane.toNatClampNeg)), (-1), (p_rd (s_pn u pane.toNatClampNeg)))) ((s_ac u) + 1) ((s_kn u))) (by simp [s_pop, p_mv, c1_0, c1_1] <;> rfl) (z_lt3 h_ok rfl) (RI_ak (RI_pn hR hi (p_ro (s_pn u pane.toNatClampNeg), (p_sa (s_pn u pane.toNatClampNeg)), (p_cp (s_pn u pane.toNatClampNeg)), ((p_po (s_pn u pane.toNatClampNeg)) - 1), (p_li (s_pn u pane.toNatClampNeg)), (-1), (p_rd (s_pn u pane.toNatClampNeg)))) _ _ _)
    · rw [hr9]
      exact RP_ok (v := s_tdu (s_ak (u) ((s_ac u)) ((s_kn u))) (upd (s_td u) 5 (((s_td u) 5) + 1))) (by simp [s_pop, p_mv, c2_0] <;> rfl) (z_lt3 h_ok rfl) (RI_td (RI_ak hR _ _ _) _)
  · refine z_Mi_mono (c_X5_pop_bad l G hm h_bad) ?_
    rintro r M' ⟨hr9, rfl⟩
    · exact RP_bad (z_lt0 h_bad) (RI_ak hR _ _ _) (by first | rfl | (simp [t_nn, t_and]; done) | simp [z_lt, h_bad])
theorem z_wh2 {x : Int32} (h : ¬ z_is x 0 3 = 0) (h0 : ¬ x = 0) (h1 : ¬ x = 1) (h3 : ¬ x = 3) : x = 2 := by
  obtain ⟨a, b⟩ := z_is1 h
  rw [z_le, z_t0] at a
  rw [z_le, show (3 : Int32).toInt = 3 from by decide] at b
  rw [z_eqI, z_t0] at h0
  rw [z_eqI, z_t1] at h1
  rw [z_eqI, show (3 : Int32).toInt = 3 from by decide] at h3
  rw [z_eqI, show (2 : Int32).toInt = 2 from by decide]
  omega
theorem a_X5_would (l : Launch) {G : zG} {u : sS} {m : Nat} {th : Int32} {K : Nat → Nat} {tp pn td : Nat} {R : zM} (hR : RI G u m th K tp pn td R) {t : Nat} (hok : s_ok t u) (ht : t ≤ 64) (pane wh : Int32) : z_Mi l G qX5_would (z_rm 4 0 0) [.ref m, .int pane, .int wh] R (RP G m pn td (z_lt (z_is pane 0 5) (z_is wh 0 3)) u ((s_would u pane.toNatClampNeg wh, u))) := by
  obtain ⟨hm, ⟨ft, htp, hft⟩, ⟨fp, hpn, hfp⟩, htd, hK, iK, i1, i2, i3⟩ := id hR
  rcases z_pc pane with ⟨h_ok, h_ip, hi⟩ | ⟨h_bad, -⟩
  · refine z_Mi_mono (c_X5_would l G hm hpn (hK _ hi) h_ok h_ip rfl (hfp _ hi)) ?_
    rintro r M' (⟨c0_0, c0_1, c0_2, c0_3, hr9, rfl⟩ | ⟨c1_0, c1_1, c1_2, c1_3, hr9, rfl⟩ | ⟨c2_0, c2_1, c2_2, hr9, rfl⟩ | ⟨c3_0, c3_1, c3_2, hr9, rfl⟩ | ⟨c4_0, c4_1, c4_2, hr9, rfl⟩ | ⟨c5_0, hr9, rfl⟩)
    · rw [hr9]
      exact RP_ok (v := s_ak (u) ((s_ac u)) ((s_kn u))) (by simp [s_would, c0_1, c0_2, c0_3, (z_wh2 (z_lrN c0_0) c0_2 c0_3 c0_1)] <;> rfl) (z_lr0 c0_0) (RI_ak hR _ _ _)
    · rw [hr9]
      exact RP_ok (v := s_ak (u) ((s_ac u)) ((s_kn u))) (by simp [s_would, c1_1, c1_2, c1_3] <;> rfl) (z_lr0 c1_0) (RI_ak hR _ _ _)
    · rw [hr9]
      exact RP_ok (v := s_ak (u) ((s_ac u)) ((s_kn u))) (by simp [s_would, c2_1, c2_2] <;> rfl) (z_lr0 c2_0) (RI_ak hR _ _ _)
    · rw [hr9]
      subst c3_1
      exact RP_ok (v := s_ak (u) ((s_ac u)) ((s_kn u))) (by simp [s_would, c3_2] <;> rfl) (z_lr0 c3_0) (RI_ak hR _ _ _)
    · rw [hr9]
      subst c4_1
      exact RP_ok (v := s_ak (u) ((s_ac u)) ((s_kn u))) (by simp [s_would, c4_2] <;> rfl) (z_lr0 c4_0) (RI_ak hR _ _ _)
    · rw [hr9]
      exact RP_bad (z_lr1 c5_0) (RI_ak hR _ _ _)
  · refine z_Mi_mono (c_X5_would_bad l G hm h_bad) ?_
    rintro r M' ⟨hr9, rfl⟩
    · exact RP_bad (z_lt0 h_bad) (RI_ak hR _ _ _) (by first | rfl | (simp [t_nn, t_and]; done) | simp [z_lt, h_bad])
theorem s_lay9 {t : Nat} {u : sS} {x f : Int32} (h : s_ok t u) (hx : ¬ z_lr (z_is x 0 15) f = 0) : 0 < s_nr u ∧ x.toNatClampNeg < s_ln u 0 := by
  have h1 := z_inT.mp (z_lay (nt := 16) (by decide) hx)
  have h2 := z_cl (x := x) (by rw [z_le, z_t0]; exact h1.1)
  have h3 := h.1
  have h4 := h.2.2.1
  exact ⟨by omega, by omega⟩
theorem a_X5_lay (l : Launch) {G : zG} {u : sS} {m : Nat} {th : Int32} {K : Nat → Nat} {tp pn td : Nat} {R : zM} (hR : RI G u m th K tp pn td R) {t : Nat} (hok : s_ok t u) (ht : t ≤ 64) (pl v : Int32) : z_Mi l G qX5_lay (z_rm 3 0 0) [.ref m, .int pl, .int v] R (RP G m pn td (z_lt (z_is pl 0 15) (t_nn v)) u (s_lay u pl v)) := by
  obtain ⟨hm, ⟨ft, htp, hft⟩, ⟨fp, hpn, hfp⟩, htd, hK, iK, i1, i2, i3⟩ := id hR
  refine z_Mi_mono (c_X5_lay l G hm htp ⟨(s_ba_nt hok ht).1, Nat.lt_trans (s_ba_nt hok ht).2 (by decide)⟩) ?_
  rintro r M' (⟨c0_0, c0_1, hr9, rfl⟩ | ⟨c1_0, c1_1, hr9, rfl⟩ | ⟨c2_0, c2_1, hr9, rfl⟩ | ⟨c3_0, c3_1, hr9, rfl⟩)
  · rw [hr9]
    exact RP_bad (z_lt2 (by simp [t_nn, c0_0])) (RI_ak hR _ _ _) (by simp [t_nn, c0_0])
  · exact absurd (z_lr0 c1_1) (z_lt2 rfl)
  · rw [hr9]
    exact RP_bad (by rw [show t_nn v = 1 from by simp [t_nn, c2_0]]; exact z_lr1 c2_1) (RI_ak hR _ _ _) (by simp [t_nn, c2_0])
  · rw [hr9]
    have h9 := s_lay9 hok c3_1
    have h8 := hft 0 h9.1 _ h9.2
    rw [show s_ba (s_ln u) 0 = 0 from rfl, Nat.zero_add] at h8
    rw [h8]
    exact RP_ok (v := s_ak (s_wr (u) 0 pl.toNatClampNeg v) ((s_ac u) + 1) ((s_kn u))) (by simp [s_lay] <;> rfl) (by rw [show t_nn v = 1 from by simp [t_nn, c3_0]]; exact z_lr0 c3_1) (RI_ak (RI_wr hR h9.1 h9.2 (by rw [show s_ba (s_ln u) 0 = 0 from rfl, Nat.zero_add]) htp _) _ _ _) (by simp [t_nn, c3_0])
theorem a_X5_bring (l : Launch) {G : zG} {u : sS} {m : Nat} {th : Int32} {K : Nat → Nat} {tp pn td : Nat} {R : zM} (hR : RI G u m th K tp pn td R) {t : Nat} (hok : s_ok t u) (ht : t ≤ 64) (pane ix other fr : Int32) : z_Mi l G qX5_bring (z_rm 3 0 0) [.ref m, .int pane, .int ix, .int other, .int fr] R (RP G m pn td (z_lt (t_2 pane other) 1) u (s_bring u pane.toNatClampNeg other.toNatClampNeg ix fr)) := by
  obtain ⟨hm, ⟨ft, htp, hft⟩, ⟨fp, hpn, hfp⟩, htd, hK, iK, i1, i2, i3⟩ := id hR
  rcases z_pc pane with ⟨h_ok, h_ip, hi⟩ | ⟨h_bad, -⟩
  · rcases z_pc other with ⟨h_ok2, h_ip2, hi2⟩ | ⟨h_bad2, -⟩
    · rw [show t_2 pane other = 1 from by unfold t_2; rw [h_ok, h_ok2]; decide]
      refine z_Mi_mono (c_X5_bring l G hm htd htp hpn (hK _ hi) (hK _ hi2) h_ok h_ip rfl (hfp _ hi) h_ok2 h_ip2 rfl (hfp _ hi2) (i2 _ hi) (i1 _ hi) i3 (i2 _ hi2) (i1 _ hi2) (s_or hok ht hi) (s_or hok ht hi2)) ?_
      rintro r M' (⟨c0_0, hr9, rfl⟩ | ⟨c1_0, c1_1, c1_2, hr9, rfl⟩ | ⟨c2_0, c2_1, c2_2, hr9, rfl⟩ | ⟨c3_0, c3_1, hr9, rfl⟩)
      · rw [hr9]
        exact RP_ok (v := s_tdu (s_ak (u) ((s_ac u)) ((s_kn u))) (upd (s_td u) 5 (((s_td u) 5) + 1))) (by simp [s_bring, c0_0, ((s_hiL hok hi2).mpr c0_0)] <;> rfl) (z_lt3 rfl rfl) (RI_td (RI_ak hR _ _ _) _)
      · rw [hr9]
        rw [s_rd hok ht hi hft (s_inL hok hi (fun q => c1_1 ((s_hiL hok hi).mp q))), s_rd hok ht hi2 hft (s_inL hok hi2 (fun q => c1_0 ((s_hiL hok hi2).mp q)))]
        exact RP_ok (v := s_ak (s_wr (u) (p_ro (s_pn u pane.toNatClampNeg)) (p_at (s_pn u pane.toNatClampNeg) ix) (s_val u (s_pn u other.toNatClampNeg) fr)) ((s_ac u) + 1) ((s_kn u))) (by simp [s_bring, c1_0, c1_1, c1_2, (show ¬ z_hi fr (p_li (s_pn u other.toNatClampNeg)) = 0 from fun q => c1_0 ((s_hiL hok hi2).mp q)), (show ¬ z_hi ix (p_li (s_pn u pane.toNatClampNeg)) = 0 from fun q => c1_1 ((s_hiL hok hi).mp q))] <;> rfl) (z_lt3 rfl rfl) (RI_ak (RI_wr hR (s_row hok hi) (s_atlt (s_inL hok hi (fun q => c1_1 ((s_hiL hok hi).mp q)))) (s_wh' hok ht hi (s_inL hok hi (fun q => c1_1 ((s_hiL hok hi).mp q)))) htp _) _ _ _)
      · rw [hr9]
        exact RP_ok (v := s_tdu (s_ak (u) ((s_ac u)) ((s_kn u))) (upd (s_td u) 4 (((s_td u) 4) + 1))) (by simp [s_bring, c2_0, c2_1, c2_2, (show ¬ z_hi fr (p_li (s_pn u other.toNatClampNeg)) = 0 from fun q => c2_0 ((s_hiL hok hi2).mp q)), (show ¬ z_hi ix (p_li (s_pn u pane.toNatClampNeg)) = 0 from fun q => c2_1 ((s_hiL hok hi).mp q))] <;> rfl) (z_lt3 rfl rfl) (RI_td (RI_ak hR _ _ _) _)
      · rw [hr9]
        exact RP_ok (v := s_tdu (s_ak (u) ((s_ac u)) ((s_kn u))) (upd (s_td u) 5 (((s_td u) 5) + 1))) (by simp [s_bring, c3_0, c3_1, (show ¬ z_hi fr (p_li (s_pn u other.toNatClampNeg)) = 0 from fun q => c3_0 ((s_hiL hok hi2).mp q)), ((s_hiL hok hi).mpr c3_1)] <;> rfl) (z_lt3 rfl rfl) (RI_td (RI_ak hR _ _ _) _)
    · rw [show t_2 pane other = 0 from by unfold t_2; rw [h_ok, h_bad2]; decide]
      refine z_Mi_mono (c_X5_bring_bad2 l G hm h_ok h_bad2) ?_
      rintro r M' ⟨hr9, rfl⟩
      · exact RP_bad (z_lt0 rfl) (RI_ak hR _ _ _) (by first | rfl | (simp [t_nn, t_and]; done) | simp [z_lt, h_bad])
  · rw [show t_2 pane other = 0 from by unfold t_2; rw [h_bad]; exact if_pos rfl]
    refine z_Mi_mono (c_X5_bring_bad l G hm h_bad) ?_
    rintro r M' ⟨hr9, rfl⟩
    · exact RP_bad (z_lt0 rfl) (RI_ak hR _ _ _) (by first | rfl | (simp [t_nn, t_and]; done) | simp [z_lt, h_bad])
theorem z_upq {M : zM} {a q : Nat} {e : va_E} (h : z_up M a e q = none) : M q = none := by
  by_cases hq : q = a
  · subst hq; rw [z_up_s] at h; cases h
  · rw [z_up_n _ _ hq] at h; exact h
theorem a_X5_twin (l : Launch) {G : zG} {u : sS} {m : Nat} {th : Int32} {K : Nat → Nat} {tp pn td : Nat} {R : zM} (hR : RI G u m th K tp pn td R) {t : Nat} (hok : s_ok t u) (ht : t ≤ 64) (pane other : Int32) : z_Mi l G qX5_twin (z_rm 3 1 8) [.ref m, .int pane, .int other] R (RP G m pn td (z_lt (t_2 pane other) 1) u (s_twin u pane.toNatClampNeg other.toNatClampNeg)) := by
  obtain ⟨hm, ⟨ft, htp, hft⟩, ⟨fp, hpn, hfp⟩, htd, hK, iK, i1, i2, i3⟩ := id hR
  rcases z_pc pane with ⟨h_ok, h_ip, hi⟩ | ⟨h_bad, -⟩
  · rcases z_pc other with ⟨h_ok2, h_ip2, hi2⟩ | ⟨h_bad2, -⟩
    · rw [show t_2 pane other = 1 from by unfold t_2; rw [h_ok, h_ok2]; decide]
      refine z_Mi_mono (c_X5_twin l G hm hpn (hK _ hi) (hK _ hi2) h_ok h_ip rfl (hfp _ hi) h_ok2 h_ip2 rfl (hfp _ hi2)) ?_
      rintro r M' ⟨q_40, hq_40, hr9, rfl⟩
      · rw [hr9]
        exact RP_ok (v := (s_act (s_up u pane.toNatClampNeg (s_pn u other.toNatClampNeg)))) (by simp [s_twin] <;> rfl) (z_lt3 rfl rfl) (RI_ak (RI_nK hR hi (z_upq hq_40) (s_pn u other.toNatClampNeg) hpn) _ _ _)
    · rw [show t_2 pane other = 0 from by unfold t_2; rw [h_ok, h_bad2]; decide]
      refine z_Mi_mono (c_X5_twin_bad2 l G hm h_ok h_bad2) ?_
      rintro r M' ⟨hr9, rfl⟩
      · exact RP_bad (z_lt0 rfl) (RI_ak hR _ _ _) (by first | rfl | (simp [t_nn, t_and]; done) | simp [z_lt, h_bad])
  · rw [show t_2 pane other = 0 from by unfold t_2; rw [h_bad]; exact if_pos rfl]
    refine z_Mi_mono (c_X5_twin_bad l G hm h_bad) ?_
    rintro r M' ⟨hr9, rfl⟩
    · exact RP_bad (z_lt0 rfl) (RI_ak hR _ _ _) (by first | rfl | (simp [t_nn, t_and]; done) | simp [z_lt, h_bad])
theorem a_X5_reader (l : Launch) {G : zG} {u : sS} {m : Nat} {th : Int32} {K : Nat → Nat} {tp pn td : Nat} {R : zM} (hR : RI G u m th K tp pn td R) {t : Nat} (hok : s_ok t u) (ht : t ≤ 64) (pane other : Int32) : z_Mi l G qX5_reader (z_rm 3 1 8) [.ref m, .int pane, .int other] R (RP G m pn td (z_lt (t_2 pane other) 1) u (s_reader u pane.toNatClampNeg other.toNatClampNeg)) := by
  obtain ⟨hm, ⟨ft, htp, hft⟩, ⟨fp, hpn, hfp⟩, htd, hK, iK, i1, i2, i3⟩ := id hR
  rcases z_pc pane with ⟨h_ok, h_ip, hi⟩ | ⟨h_bad, -⟩
  · rcases z_pc other with ⟨h_ok2, h_ip2, hi2⟩ | ⟨h_bad2, -⟩
    · rw [show t_2 pane other = 1 from by unfold t_2; rw [h_ok, h_ok2]; decide]
      refine z_Mi_mono (c_X5_reader l G hm hpn (hK _ hi) (hK _ hi2) h_ok h_ip rfl (hfp _ hi) h_ok2 h_ip2 rfl (hfp _ hi2)) ?_
      rintro r M' ⟨q_40, hq_40, hr9, rfl⟩
      · rw [hr9]
        rw [z_up_swap _ (z_neN hpn (z_upq hq_40))]
        exact RP_ok (v := (s_act (s_up u pane.toNatClampNeg (p_rdr (s_pn u other.toNatClampNeg))))) (by simp [s_reader] <;> rfl) (z_lt3 rfl rfl) (RI_ak (RI_nK hR hi (z_upq hq_40) (p_rdr (s_pn u other.toNatClampNeg)) hpn) _ _ _)
    · rw [show t_2 pane other = 0 from by unfold t_2; rw [h_ok, h_bad2]; decide]
      refine z_Mi_mono (c_X5_reader_bad2 l G hm h_ok h_bad2) ?_
      rintro r M' ⟨hr9, rfl⟩
      · exact RP_bad (z_lt0 rfl) (RI_ak hR _ _ _) (by first | rfl | (simp [t_nn, t_and]; done) | simp [z_lt, h_bad])
  · rw [show t_2 pane other = 0 from by unfold t_2; rw [h_bad]; exact if_pos rfl]
    refine z_Mi_mono (c_X5_reader_bad l G hm h_bad) ?_
    rintro r M' ⟨hr9, rfl⟩
    · exact RP_bad (z_lt0 rfl) (RI_ak hR _ _ _) (by first | rfl | (simp [t_nn, t_and]; done) | simp [z_lt, h_bad])
theorem a_X5_rest (l : Launch) {G : zG} {u : sS} {m : Nat} {th : Int32} {K : Nat → Nat} {tp pn td : Nat} {R : zM} (hR : RI G u m th K tp pn td R) {t : Nat} (hok : s_ok t u) (ht : t ≤ 64) (pane other : Int32) : z_Mi l G qX5_rest (z_rm 3 1 8) [.ref m, .int pane, .int other] R (RP G m pn td (z_lt (t_2 pane other) 1) u (s_rest u pane.toNatClampNeg other.toNatClampNeg)) := by
  obtain ⟨hm, ⟨ft, htp, hft⟩, ⟨fp, hpn, hfp⟩, htd, hK, iK, i1, i2, i3⟩ := id hR
  rcases z_pc pane with ⟨h_ok, h_ip, hi⟩ | ⟨h_bad, -⟩
  · rcases z_pc other with ⟨h_ok2, h_ip2, hi2⟩ | ⟨h_bad2, -⟩
    · rw [show t_2 pane other = 1 from by unfold t_2; rw [h_ok, h_ok2]; decide]
      refine z_Mi_mono (c_X5_rest l G hm hpn (hK _ hi) (hK _ hi2) h_ok h_ip rfl (hfp _ hi) h_ok2 h_ip2 rfl (hfp _ hi2)) ?_
      rintro r M' ⟨q_13_54, hq_13_54, hr9, rfl⟩
      · rw [hr9]
        exact RP_ok (v := (s_act (s_up u pane.toNatClampNeg (p_pt (s_pn u other.toNatClampNeg) (p_po (s_pn u other.toNatClampNeg)) (p_li (s_pn u other.toNatClampNeg) - p_po (s_pn u other.toNatClampNeg)))))) (by simp [s_rest] <;> rfl) (z_lt3 rfl rfl) (RI_ak (RI_nK hR hi (z_upq hq_13_54) (p_pt (s_pn u other.toNatClampNeg) (p_po (s_pn u other.toNatClampNeg)) (p_li (s_pn u other.toNatClampNeg) - p_po (s_pn u other.toNatClampNeg))) hpn) _ _ _)
    · rw [show t_2 pane other = 0 from by unfold t_2; rw [h_ok, h_bad2]; decide]
      refine z_Mi_mono (c_X5_rest_bad2 l G hm h_ok h_bad2) ?_
      rintro r M' ⟨hr9, rfl⟩
      · exact RP_bad (z_lt0 rfl) (RI_ak hR _ _ _) (by first | rfl | (simp [t_nn, t_and]; done) | simp [z_lt, h_bad])
  · rw [show t_2 pane other = 0 from by unfold t_2; rw [h_bad]; exact if_pos rfl]
    refine z_Mi_mono (c_X5_rest_bad l G hm h_bad) ?_
    rintro r M' ⟨hr9, rfl⟩
    · exact RP_bad (z_lt0 rfl) (RI_ak hR _ _ _) (by first | rfl | (simp [t_nn, t_and]; done) | simp [z_lt, h_bad])
theorem a_X5_part (l : Launch) {G : zG} {u : sS} {m : Nat} {th : Int32} {K : Nat → Nat} {tp pn td : Nat} {R : zM} (hR : RI G u m th K tp pn td R) {t : Nat} (hok : s_ok t u) (ht : t ≤ 64) (pane other ix0 mn : Int32) : z_Mi l G qX5_part (z_rm 3 1 8) [.ref m, .int pane, .int other, .int ix0, .int mn] R (RP G m pn td (z_lt (t_2 pane other) 1) u (s_part u pane.toNatClampNeg other.toNatClampNeg ix0 mn)) := by
  obtain ⟨hm, ⟨ft, htp, hft⟩, ⟨fp, hpn, hfp⟩, htd, hK, iK, i1, i2, i3⟩ := id hR
  rcases z_pc pane with ⟨h_ok, h_ip, hi⟩ | ⟨h_bad, -⟩
  · rcases z_pc other with ⟨h_ok2, h_ip2, hi2⟩ | ⟨h_bad2, -⟩
    · rw [show t_2 pane other = 1 from by unfold t_2; rw [h_ok, h_ok2]; decide]
      refine z_Mi_mono (c_X5_part l G hm htd hpn (hK _ hi) (hK _ hi2) h_ok h_ip rfl (hfp _ hi) h_ok2 h_ip2 rfl (hfp _ hi2) (i1 _ hi) (i1 _ hi2)) ?_
      rintro r M' (⟨c0_0, hr9, rfl⟩ | ⟨q_13_79, hq_13_79, c1_0, c1_1, hr9, rfl⟩ | ⟨c2_0, c2_1, hr9, rfl⟩)
      · rw [hr9]
        exact RP_ok (v := s_tdu (s_ak (u) ((s_ac u)) ((s_kn u))) (upd (s_td u) 5 (((s_td u) 5) + 1))) (by simp [s_part, c0_0] <;> rfl) (z_lt3 rfl rfl) (RI_td (RI_ak hR _ _ _) _)
      · rw [hr9]
        exact RP_ok (v := (s_act (s_up u pane.toNatClampNeg (p_pt (s_pn u other.toNatClampNeg) ix0 mn)))) (by simp [s_part, c1_0, c1_1] <;> rfl) (z_lt3 rfl rfl) (RI_ak (RI_nK hR hi (z_upq hq_13_79) (p_pt (s_pn u other.toNatClampNeg) ix0 mn) hpn) _ _ _)
      · rw [hr9]
        exact RP_ok (v := s_tdu (s_ak (u) ((s_ac u)) ((s_kn u))) (upd (s_td u) 5 (((s_td u) 5) + 1))) (by simp [s_part, c2_0, c2_1] <;> rfl) (z_lt3 rfl rfl) (RI_td (RI_ak hR _ _ _) _)
    · rw [show t_2 pane other = 0 from by unfold t_2; rw [h_ok, h_bad2]; decide]
      refine z_Mi_mono (c_X5_part_bad2 l G hm h_ok h_bad2) ?_
      rintro r M' ⟨hr9, rfl⟩
      · exact RP_bad (z_lt0 rfl) (RI_ak hR _ _ _) (by first | rfl | (simp [t_nn, t_and]; done) | simp [z_lt, h_bad])
  · rw [show t_2 pane other = 0 from by unfold t_2; rw [h_bad]; exact if_pos rfl]
    refine z_Mi_mono (c_X5_part_bad l G hm h_bad) ?_
    rintro r M' ⟨hr9, rfl⟩
    · exact RP_bad (z_lt0 rfl) (RI_ak hR _ _ _) (by first | rfl | (simp [t_nn, t_and]; done) | simp [z_lt, h_bad])
theorem a_X5_exchange (l : Launch) {G : zG} {u : sS} {m : Nat} {th : Int32} {K : Nat → Nat} {tp pn td : Nat} {R : zM} (hR : RI G u m th K tp pn td R) {t : Nat} (hok : s_ok t u) (ht : t ≤ 64) (pane other : Int32) : z_Mi l G qX5_exchange (z_rm 3 0 0) [.ref m, .int pane, .int other] R (RP G m pn td (z_lt (t_2 pane other) 1) u (s_exch u pane.toNatClampNeg other.toNatClampNeg)) := by
  obtain ⟨hm, ⟨ft, htp, hft⟩, ⟨fp, hpn, hfp⟩, htd, hK, iK, i1, i2, i3⟩ := id hR
  rcases z_pc pane with ⟨h_ok, h_ip, hi⟩ | ⟨h_bad, -⟩
  · rcases z_pc other with ⟨h_ok2, h_ip2, hi2⟩ | ⟨h_bad2, -⟩
    · rw [show t_2 pane other = 1 from by unfold t_2; rw [h_ok, h_ok2]; decide]
      refine z_Mi_mono (c_X5_exchange l G hm hpn (hK _ hi) (hK _ hi2) h_ok h_ip rfl (hfp _ hi) h_ok2 h_ip2 rfl (hfp _ hi2)) ?_
      rintro r M' ⟨hr9, rfl⟩
      · rw [hr9]
        exact RP_ok (v := s_act (s_sw u pane.toNatClampNeg other.toNatClampNeg)) rfl (z_lt3 rfl rfl) (RI_ak (RI_sw hR hi hi2 hpn) _ _ _)
    · rw [show t_2 pane other = 0 from by unfold t_2; rw [h_ok, h_bad2]; decide]
      refine z_Mi_mono (c_X5_exchange_bad2 l G hm h_ok h_bad2) ?_
      rintro r M' ⟨hr9, rfl⟩
      · exact RP_bad (z_lt0 rfl) (RI_ak hR _ _ _) (by first | rfl | (simp [t_nn, t_and]; done) | simp [z_lt, h_bad])
  · rw [show t_2 pane other = 0 from by unfold t_2; rw [h_bad]; exact if_pos rfl]
    refine z_Mi_mono (c_X5_exchange_bad l G hm h_bad) ?_
    rintro r M' ⟨hr9, rfl⟩
    · exact RP_bad (z_lt0 rfl) (RI_ak hR _ _ _) (by first | rfl | (simp [t_nn, t_and]; done) | simp [z_lt, h_bad])
theorem z_rr0 {a b : Int32} (ha : a = 0 ∨ a = 1) (hb : b = 0 ∨ b = 1) (h : a + b ≤ 0) : a = 0 ∧ b = 0 := by
  rcases ha with rfl | rfl <;> rcases hb with rfl | rfl <;> revert h <;> decide
theorem z_rr1 {a b : Int32} (ha : a = 0 ∨ a = 1) (hb : b = 0 ∨ b = 1) (h : ¬ a + b ≤ 0) : ¬ (a = 0 ∧ b = 0) := by
  rcases ha with rfl | rfl <;> rcases hb with rfl | rfl <;> revert h <;> decide
theorem s_rd01 {t : Nat} {u : sS} {i : Nat} (h : s_ok t u) (hi : i < 6) : p_rd (s_pn u i) = 0 ∨ p_rd (s_pn u i) = 1 := (h.2.2.2.2.1 i hi).2.2.2
theorem s_roeq {t : Nat} {u : sS} {i j : Nat} (h : s_ok t u) (ht : t ≤ 64) (hi : i < 6) (hj : j < 6) : nI (p_ro (s_pn u i)) = nI (p_ro (s_pn u j)) ↔ p_ro (s_pn u i) = p_ro (s_pn u j) := nI_eq (by have := s_row h hi; have := h.2.1; omega) (by have := s_row h hj; have := h.2.1; omega)
theorem a_X5_isKin (l : Launch) {G : zG} {u : sS} {m : Nat} {th : Int32} {K : Nat → Nat} {tp pn td : Nat} {R : zM} (hR : RI G u m th K tp pn td R) {t : Nat} (hok : s_ok t u) (ht : t ≤ 64) (pane other : Int32) : z_Mi l G qX5_isKin (z_rm 4 0 0) [.ref m, .int pane, .int other] R (RP G m pn td (z_lt (t_2 pane other) 1) u ((s_kin u pane.toNatClampNeg other.toNatClampNeg, u))) := by
  obtain ⟨hm, ⟨ft, htp, hft⟩, ⟨fp, hpn, hfp⟩, htd, hK, iK, i1, i2, i3⟩ := id hR
  rcases z_pc pane with ⟨h_ok, h_ip, hi⟩ | ⟨h_bad, -⟩
  · rcases z_pc other with ⟨h_ok2, h_ip2, hi2⟩ | ⟨h_bad2, -⟩
    · rw [show t_2 pane other = 1 from by unfold t_2; rw [h_ok, h_ok2]; decide]
      refine z_Mi_mono (c_X5_isKin l G hm hpn (hK _ hi) (hK _ hi2) h_ok h_ip rfl (hfp _ hi) h_ok2 h_ip2 rfl (hfp _ hi2)) ?_
      rintro r M' (⟨c0_0, c0_1, hr9, rfl⟩ | ⟨c1_0, c1_1, hr9, rfl⟩ | ⟨c2_0, hr9, rfl⟩)
      · rw [hr9]
        have h9 := z_rr0 (s_rd01 hok hi) (s_rd01 hok hi2) c0_0
        exact RP_ok (v := s_ak (u) ((s_ac u)) ((s_kn u))) (by simp [s_kin, h9.1, h9.2, (show ¬ p_ro (s_pn u pane.toNatClampNeg) = p_ro (s_pn u other.toNatClampNeg) from fun q => c0_1 ((s_roeq hok ht hi hi2).mpr q))] <;> rfl) (z_lt3 rfl rfl) (RI_ak hR _ _ _)
      · rw [hr9]
        have h9 := z_rr0 (s_rd01 hok hi) (s_rd01 hok hi2) c1_0
        exact RP_ok (v := s_ak (u) ((s_ac u)) ((s_kn u))) (by simp [s_kin, h9.1, h9.2, ((s_roeq hok ht hi hi2).mp c1_1)] <;> rfl) (z_lt3 rfl rfl) (RI_ak hR _ _ _)
      · rw [hr9]
        have h9 := z_rr1 (s_rd01 hok hi) (s_rd01 hok hi2) c2_0
        refine RP_ok (v := s_ak (u) ((s_ac u)) ((s_kn u))) ?_ (z_lt3 rfl rfl) (RI_ak hR _ _ _)
        unfold s_kin
        by_cases q1 : p_rd (s_pn u pane.toNatClampNeg) = 0
        · have q2 : ¬ p_rd (s_pn u other.toNatClampNeg) = 0 := fun q => h9 ⟨q1, q⟩
          rw [if_pos q1, if_neg q2]
          rfl
        · rw [if_neg q1]
          rfl
    · rw [show t_2 pane other = 0 from by unfold t_2; rw [h_ok, h_bad2]; decide]
      refine z_Mi_mono (c_X5_isKin_bad2 l G hm h_ok h_bad2) ?_
      rintro r M' ⟨hr9, rfl⟩
      · exact RP_bad (z_lt0 rfl) (RI_ak hR _ _ _) (by first | rfl | (simp [t_nn, t_and]; done) | simp [z_lt, h_bad])
  · rw [show t_2 pane other = 0 from by unfold t_2; rw [h_bad]; exact if_pos rfl]
    refine z_Mi_mono (c_X5_isKin_bad l G hm h_bad) ?_
    rintro r M' ⟨hr9, rfl⟩
    · exact RP_bad (z_lt0 rfl) (RI_ak hR _ _ _) (by first | rfl | (simp [t_nn, t_and]; done) | simp [z_lt, h_bad])
theorem a_X5_sees (l : Launch) {G : zG} {u : sS} {m : Nat} {th : Int32} {K : Nat → Nat} {tp pn td : Nat} {R : zM} (hR : RI G u m th K tp pn td R) {t : Nat} (hok : s_ok t u) (ht : t ≤ 64) (pane ix other : Int32) : z_Mi l G qX5_sees (z_rm 4 0 0) [.ref m, .int pane, .int ix, .int other] R (RP G m pn td (z_lt (t_2 pane other) 1) u ((s_sees u pane.toNatClampNeg ix other.toNatClampNeg, u))) := by
  obtain ⟨hm, ⟨ft, htp, hft⟩, ⟨fp, hpn, hfp⟩, htd, hK, iK, i1, i2, i3⟩ := id hR
  rcases z_pc pane with ⟨h_ok, h_ip, hi⟩ | ⟨h_bad, -⟩
  · rcases z_pc other with ⟨h_ok2, h_ip2, hi2⟩ | ⟨h_bad2, -⟩
    · rw [show t_2 pane other = 1 from by unfold t_2; rw [h_ok, h_ok2]; decide]
      refine z_Mi_mono (c_X5_sees l G hm hpn (hK _ hi) (hK _ hi2) h_ok h_ip rfl (hfp _ hi) h_ok2 h_ip2 rfl (hfp _ hi2)) ?_
      rintro r M' (⟨c0_0, c0_1, hr9, rfl⟩ | ⟨c1_0, c1_1, c1_2, c1_3, hr9, rfl⟩ | ⟨c2_0, c2_1, c2_2, c2_3, hr9, rfl⟩ | ⟨c3_0, c3_1, c3_2, hr9, rfl⟩ | ⟨c4_0, hr9, rfl⟩)
      · rw [hr9]
        have h9 := z_rr0 (s_rd01 hok hi) (s_rd01 hok hi2) c0_0
        exact RP_ok (v := s_ak (u) ((s_ac u)) ((s_kn u))) (by simp [s_sees, h9.1, h9.2, (show ¬ p_ro (s_pn u pane.toNatClampNeg) = p_ro (s_pn u other.toNatClampNeg) from fun q => c0_1 ((s_roeq hok ht hi hi2).mpr q))] <;> rfl) (z_lt3 rfl rfl) (RI_ak hR _ _ _)
      · rw [hr9]
        have h9 := z_rr0 (s_rd01 hok hi) (s_rd01 hok hi2) c1_0
        exact RP_ok (v := s_ak (u) ((s_ac u)) ((s_kn u))) (by simp [s_sees, h9.1, h9.2, ((s_roeq hok ht hi hi2).mp c1_1), (show ¬ z_hi ix (p_cp (s_pn u pane.toNatClampNeg)) = 0 from fun q => c1_2 ((s_hiC hok hi).mp q)), ((s_hiC hok hi2).mpr c1_3)] <;> rfl) (z_lt3 rfl rfl) (RI_ak hR _ _ _)
      · rw [hr9]
        have h9 := z_rr0 (s_rd01 hok hi) (s_rd01 hok hi2) c2_0
        exact RP_ok (v := s_ak (u) ((s_ac u)) ((s_kn u))) (by simp [s_sees, h9.1, h9.2, ((s_roeq hok ht hi hi2).mp c2_1), (show ¬ z_hi ix (p_cp (s_pn u pane.toNatClampNeg)) = 0 from fun q => c2_2 ((s_hiC hok hi).mp q)), (show ¬ z_hi (p_sa (s_pn u pane.toNatClampNeg) + ix - p_sa (s_pn u other.toNatClampNeg)) (p_cp (s_pn u other.toNatClampNeg)) = 0 from fun q => c2_3 ((s_hiC hok hi2).mp q))] <;> rfl) (z_lt3 rfl rfl) (RI_ak hR _ _ _)
      · rw [hr9]
        have h9 := z_rr0 (s_rd01 hok hi) (s_rd01 hok hi2) c3_0
        exact RP_ok (v := s_ak (u) ((s_ac u)) ((s_kn u))) (by simp [s_sees, h9.1, h9.2, ((s_roeq hok ht hi hi2).mp c3_1), ((s_hiC hok hi).mpr c3_2)] <;> rfl) (z_lt3 rfl rfl) (RI_ak hR _ _ _)
      · rw [hr9]
        have h9 := z_rr1 (s_rd01 hok hi) (s_rd01 hok hi2) c4_0
        refine RP_ok (v := s_ak (u) ((s_ac u)) ((s_kn u))) ?_ (z_lt3 rfl rfl) (RI_ak hR _ _ _)
        unfold s_sees
        by_cases q1 : p_rd (s_pn u pane.toNatClampNeg) = 0
        · have q2 : ¬ p_rd (s_pn u other.toNatClampNeg) = 0 := fun q => h9 ⟨q1, q⟩
          rw [if_pos q1, if_neg q2]
          rfl
        · rw [if_neg q1]
          rfl
    · rw [show t_2 pane other = 0 from by unfold t_2; rw [h_ok, h_bad2]; decide]
      refine z_Mi_mono (c_X5_sees_bad2 l G hm h_ok h_bad2) ?_
      rintro r M' ⟨hr9, rfl⟩
      · exact RP_bad (z_lt0 rfl) (RI_ak hR _ _ _) (by first | rfl | (simp [t_nn, t_and]; done) | simp [z_lt, h_bad])
  · rw [show t_2 pane other = 0 from by unfold t_2; rw [h_bad]; exact if_pos rfl]
    refine z_Mi_mono (c_X5_sees_bad l G hm h_bad) ?_
    rintro r M' ⟨hr9, rfl⟩
    · exact RP_bad (z_lt0 rfl) (RI_ak hR _ _ _) (by first | rfl | (simp [t_nn, t_and]; done) | simp [z_lt, h_bad])
theorem a_X5_wrap (l : Launch) {G : zG} {u : sS} {m : Nat} {th : Int32} {K : Nat → Nat} {tp pn td : Nat} {R : zM} (hR : RI G u m th K tp pn td R) {t : Nat} (hok : s_ok t u) (ht : t ≤ 64) (pane fr mn : Int32) : z_Mi l G qX5_wrap (z_rm 3 1 8) [.ref m, .int pane, .int fr, .int mn] R (RP G m pn td (z_lt (z_is pane 0 5) (t_and (z_is fr 0 16) (z_is mn 0 (16 - fr)))) u (s_wrap u pane.toNatClampNeg fr mn)) := by
  obtain ⟨hm, ⟨ft, htp, hft⟩, ⟨fp, hpn, hfp⟩, htd, hK, iK, i1, i2, i3⟩ := id hR
  rcases z_pc pane with ⟨h_ok, h_ip, hi⟩ | ⟨h_bad, -⟩
  · have e16 : cPy G (nI (s_ba (s_ln u) (p_ro ((0, 0, 16, fr, fr + mn, -1, 0) : sP)))) ((0, 0, 16, fr, fr + mn, -1, 0) : sP) = cPm G 0 0 0 16 fr (fr + mn) (-1) 0 := by show cPm G (nI 0) (nI 0) 0 16 fr (fr + mn) (-1) 0 = _; rw [nI_0]
    refine z_Mi_mono (c_X5_wrap l G hm hpn h_ok h_ip rfl) ?_
    rintro r M' (⟨c0_0, hr9, rfl⟩ | ⟨c1_0, c1_1, hr9, rfl⟩ | ⟨q_50, hq_50, c2_0, c2_1, hr9, rfl⟩)
    · rw [hr9]
      exact RP_bad (z_lt2 (by simp [t_and, c0_0])) (RI_ak hR _ _ _) (by simp [t_and, c0_0])
    · rw [hr9]
      exact RP_bad (z_lt2 (by simp [t_and, c1_0, c1_1])) (RI_ak hR _ _ _) (by simp [t_and, c1_0, c1_1])
    · rw [hr9]
      rw [z_up_swap _ (z_neN hpn (z_upq hq_50)), ← e16]
      exact RP_ok (v := s_act (s_up u pane.toNatClampNeg ((0, 0, 16, fr, fr + mn, -1, 0) : sP))) rfl (z_lt3 h_ok (show t_and (z_is fr 0 16) (z_is mn 0 (16 - fr)) = 1 from by simp [t_and, c2_0, z_is11 c2_1])) (RI_ak (RI_nK hR hi (z_upq hq_50) ((0, 0, 16, fr, fr + mn, -1, 0) : sP) hpn) _ _ _) (by rw [(show t_and (z_is fr 0 16) (z_is mn 0 (16 - fr)) = 1 from by simp [t_and, c2_0, z_is11 c2_1])])
  · refine z_Mi_mono (c_X5_wrap_bad l G hm h_bad) ?_
    rintro r M' (⟨b0_0, hr9, rfl⟩ | ⟨b1_0, b1_1, hr9, rfl⟩ | ⟨b2_0, b2_1, hr9, rfl⟩)
    · exact RP_bad (z_lt0 h_bad) (RI_ak hR _ _ _) (by first | rfl | (simp [t_nn, t_and, b0_0]; done) | simp [z_lt, h_bad])
    · exact RP_bad (z_lt0 h_bad) (RI_ak hR _ _ _) (by first | rfl | (simp [t_nn, t_and, b1_0, b1_1]; done) | simp [z_lt, h_bad])
    · exact RP_bad (z_lt0 h_bad) (RI_ak hR _ _ _) (by first | rfl | (simp [t_nn, t_and, b2_0, b2_1]; done) | simp [z_lt, h_bad])
theorem RI_made {G : zG} {u : sS} {m : Nat} {th : Int32} {ft : Nat → Int32} {K : Nat → Nat} {tp pn td : Nat} {R : zM} (h : RI G u m th K tp pn td R) {i q1 q2 n : Nat} (hi : i < 6) {p : sP} (hp : p_ro p = s_nr u) (hq1 : R q1 = none) (hq2 : z_up R q1 (aI G (s_ba (s_ln u) (s_nr u) + n) (z_cp ft (s_ba (s_ln u) (s_nr u)))) q2 = none) {fp : Nat → Option Nat} (hfp : R pn = some (aII G 6 fp)) (htp : R tp = some (aI G (s_ba (s_ln u) (s_nr u)) ft)) (hr : ∀ j, j < 6 → p_ro (s_pn u j) < s_nr u) (th' : Int32) :
    RI G (s_act (s_up (s_new u n) i p)) m th' (s_fu K i q2) q1 pn td (z_up (z_up (z_up (z_up R q1 (aI G (s_ba (s_ln u) (s_nr u) + n) (z_cp ft (s_ba (s_ln u) (s_nr u))))) q2 (cPy G (nI (s_ba (s_ln u) (s_nr u))) p)) pn (aII G 6 (va_up fp i (some q2)))) m (cMd q1 (nI (s_nr u) + 1) pn td (s_ac u + 1) (s_kn u) th')) := by
  obtain ⟨h1, ⟨ft', h2, h3⟩, ⟨fp', h4, h5⟩, h6, h7, iK, i1, i2, i3⟩ := h
  have e : fp' = fp := by
    have := h4.symm.trans hfp
    simpa using this
  subst e
  have e : ft' = ft := by
    have := h2.symm.trans htp
    simpa using this
  subst e
  have hq2' := z_upq hq2
  have n1 : ∀ {b : Nat} {e : va_E}, R b = some e → b ≠ q1 := fun hb => z_neN hb hq1
  have n2 : ∀ {b : Nat} {e : va_E}, R b = some e → b ≠ q2 := fun hb => z_neN hb hq2'
  have n12 : q1 ≠ q2 := fun q => by rw [← q, z_up_s] at hq2; cases hq2
  have npm : m ≠ pn := z_ne h1 h4 (by intro h; cases h)
  have g : ∀ {b : Nat} {e : va_E} {e1 e2 e3 e4 : va_E}, R b = some e → b ≠ pn → b ≠ m → z_up (z_up (z_up (z_up R q1 e1) q2 e2) pn e3) m e4 b = some e := fun hb x1 x2 => by
    rw [z_up_n _ _ x2, z_up_n _ _ x1, z_up_n _ _ (n2 hb), z_up_n _ _ (n1 hb)]; exact hb
  have hb : ∀ r, r ≤ s_nr u → s_ba (s_ln (s_new u n)) r = s_ba (s_ln u) r := fun r hr => by
    induction r with
    | zero => rfl
    | succ r ih =>
      show s_ba (s_ln (s_new u n)) r + (if r = s_nr u then n else s_ln u r) = s_ba (s_ln u) r + s_ln u r
      rw [ih (by omega), if_neg (by omega)]
  have hbn : s_ba (s_ln (s_new u n)) (s_nr u + 1) = s_ba (s_ln u) (s_nr u) + n := by
    show s_ba (s_ln (s_new u n)) (s_nr u) + (if s_nr u = s_nr u then n else s_ln u (s_nr u)) = _
    rw [hb _ (Nat.le_refl _), if_pos rfl]
  have q1pn := (n1 h4).symm
  have q1m := (n1 h1).symm
  have q2pn := (n2 h4).symm
  have q2m := (n2 h1).symm
  refine ⟨?_, ⟨z_cp ft' (s_ba (s_ln u) (s_nr u)), ?_, ?_⟩, ⟨va_up fp' i (some q2), ?_, ?_⟩, g h6 (z_ne h6 h4 (by intro h; simp at h)) (z_ne h6 h1 (by intro h; cases h)), fun j hj => ?_, fun a b ha hb hab => ?_, fun j hj => ?_, fun j hj => ?_, n1 h6⟩
  · rw [z_up_s, nI_1]; rfl
  · rw [z_up_n _ _ q1m, z_up_n _ _ q1pn, z_up_n _ _ n12, z_up_s]
    show some (aI G (s_ba (s_ln u) (s_nr u) + n) _) = some (aI G (s_ba (s_ln (s_new u n)) (s_nr u + 1)) _)
    rw [hbn]
  · intro r hr j hj
    have hr : r < s_nr u + 1 := hr
    have hj : j < (if r = s_nr u then n else s_ln u r) := hj
    show z_cp ft' (s_ba (s_ln u) (s_nr u)) (s_ba (s_ln (s_new u n)) r + j) = (if r = s_nr u then (fun _ => 0) else s_vl u r) j
    rw [hb r (by omega)]
    by_cases hrn : r = s_nr u
    · subst hrn
      rw [if_pos rfl]
      unfold z_cp
      rw [if_neg (by omega)]
    · rw [if_neg hrn] at hj ⊢
      have := s_ba_lt (s_ln u) (r := r) (s := s_nr u) (by omega)
      unfold z_cp
      rw [if_pos (by omega)]
      exact h3 r (by omega) j hj
  · rw [z_up_n _ _ npm.symm, z_up_s]
  · intro j hj
    by_cases hji : j = i
    · subst hji; rw [s_fu_s]; simp [va_up]
    · rw [s_fu_n _ _ hji]; simp [va_up, hji, h5 j hj]
  · show _ = some (cPy G (nI (s_ba (s_ln (s_new u n)) (p_ro (s_pn (s_up (s_new u n) i p) j)))) (s_pn (s_up (s_new u n) i p) j))
    by_cases hji : j = i
    · subst hji
      rw [s_fu_s, s_up_s, hp, hb _ (Nat.le_refl _), z_up_n _ _ q2m, z_up_n _ _ q2pn, z_up_s]
    · rw [s_fu_n _ _ hji, s_up_n _ _ hji, show s_pn (s_new u n) j = s_pn u j from rfl, hb _ (Nat.le_of_lt (hr j hj))]
      exact g (h7 j hj) (z_ne (h7 j hj) h4 (by intro h; simp at h)) (z_ne (h7 j hj) h1 (by intro h; cases h))
  · by_cases h1a : a = i
    · by_cases h1b : b = i
      · exact h1a.trans h1b.symm
      · subst h1a
        rw [s_fu_s, s_fu_n _ _ h1b] at hab
        exact absurd hab.symm (n2 (h7 b hb))
    · by_cases h1b : b = i
      · subst h1b
        rw [s_fu_s, s_fu_n _ _ h1a] at hab
        exact absurd hab (n2 (h7 a ha))
      · rw [s_fu_n _ _ h1a, s_fu_n _ _ h1b] at hab
        exact iK a b ha hb hab
  · by_cases hji : j = i
    · subst hji; rw [s_fu_s]; exact (n2 h6).symm
    · rw [s_fu_n _ _ hji]; exact i1 j hj
  · by_cases hji : j = i
    · subst hji; rw [s_fu_s]; exact n12.symm
    · rw [s_fu_n _ _ hji]; exact n1 (h7 j hj)
theorem z_fr9 {M : zM} {a b c : Nat} {e f : va_E} (h : a ≠ b) (_ : a ≠ c) : z_up (z_up M a e) b f c = z_up (z_up M b f) a e c := by rw [z_up_swap _ h]
theorem z_fr8 {M : zM} {a b q : Nat} {e f : va_E} (h : z_up (z_up M a e) b f q = none) : z_up M a e q = none := z_upq h
theorem a_X5_fresh (l : Launch) {G : zG} {u : sS} {m : Nat} {th : Int32} {K : Nat → Nat} {tp pn td : Nat} {R : zM} (hR : RI G u m th K tp pn td R) {t : Nat} (hok : s_ok t u) (ht : t ≤ 64) (pane ln : Int32) : z_Mi l G qX5_fresh (z_rm 3 2 1000) [.ref m, .int pane, .int ln] R (RP G m pn td (z_lt (z_is pane 0 5) (z_is ln 0 12)) u (s_fresh u pane.toNatClampNeg ln)) := by
  obtain ⟨hm, ⟨ft, htp, hft⟩, ⟨fp, hpn, hfp⟩, htd, hK, iK, i1, i2, i3⟩ := id hR
  rcases z_pc pane with ⟨h_ok, h_ip, hi⟩ | ⟨h_bad, -⟩
  · refine z_Mi_mono (c_X5_fresh l G hm htp hpn h_ok h_ip rfl (s_ba_nt hok ht)) ?_
    rintro r M' (⟨q7_27, hq7_27, q_47_27, hq_47_27, c0_0, hr9, rfl⟩ | ⟨c1_0, hr9, rfl⟩)
    · rw [hr9]
      rw [z_fr9 (z_neN hm (z_upq hq7_27)) (z_neN hm (z_upq (z_fr8 hq_47_27)))] at hq_47_27
      exact RP_ok (v := s_act (s_up (s_new u ln.toNatClampNeg) pane.toNatClampNeg ((s_nr u, 0, ln, 0, ln, -1, 0) : sP))) rfl (z_lr0 c0_0) (RI_made hR hi (p := ((s_nr u, 0, ln, 0, ln, -1, 0) : sP)) rfl (z_upq hq7_27) (z_upq hq_47_27) hpn htp (fun j hj => s_row hok hj) _)
    · rw [hr9]
      exact RP_bad (z_lr1 c1_0) (RI_ak hR _ _ _)
  · refine z_Mi_mono (c_X5_fresh_bad l G hm h_bad) ?_
    rintro r M' ⟨hr9, rfl⟩
    · exact RP_bad (z_lt0 h_bad) (RI_ak hR _ _ _) (by first | rfl | (simp [t_nn, t_and]; done) | simp [z_lt, h_bad])
theorem a_X5_knock (l : Launch) {G : zG} {u : sS} {m : Nat} {th : Int32} {K : Nat → Nat} {tp pn td : Nat} {R : zM} (hR : RI G u m th K tp pn td R) : z_Mi l G qX5_knock (z_rm 1 0 0) [.ref m] R (RP G m pn td 0 u (s_kn u + 1, s_ak u (s_ac u) (s_kn u + 1))) := by
  refine z_Mi_mono (c_X5_knock l G hR.1) ?_
  rintro r M' ⟨rfl, rfl⟩
  exact RP_ok rfl rfl (RI_ak hR _ _ _)
theorem a_X5_isSound (l : Launch) {G : zG} {u : sS} {m : Nat} {th : Int32} {K : Nat → Nat} {tp pn td : Nat} {R : zM} (hR : RI G u m th K tp pn td R) : z_Mi l G qX5_isSound (z_rm 1 0 0) [.ref m] R (RP G m pn td 0 u (1, u)) := by
  refine z_Mi_mono (c_X5_isSound l G hR.1) ?_
  rintro r M' ⟨rfl, rfl⟩
  exact RP_ok rfl rfl (RI_ak hR (s_ac u) (s_kn u) _)
