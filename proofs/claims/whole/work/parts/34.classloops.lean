section CIP
variable {G : zG} {u : sS} {x : Nat} {P RA VA : Nat → Nat} {pa sp ln rf sb : Nat} {C : zM}
theorem CI_P (h : CI G u x P RA VA pa sp ln rf sb C) {i : Nat} (hi : i < 6) : C (P i) = some (cPn (RA (p_ro (s_pn u i))) (p_sa (s_pn u i)) (p_cp (s_pn u i)) (p_po (s_pn u i)) (p_li (s_pn u i)) (p_mk (s_pn u i)) (p_rd (s_pn u i))) := h.2.2.1 i hi
theorem CI_RA (h : CI G u x P RA VA pa sp ln rf sb C) {r : Nat} (hr : r < s_nr u) : C (RA r) = some (cRw (VA r)) := h.2.2.2.2.1 r hr
theorem CI_VA (h : CI G u x P RA VA pa sp ln rf sb C) {r : Nat} (hr : r < s_nr u) : C (VA r) = some (aI G (s_ln u r) (s_vl u r)) := h.2.2.2.2.2.1 r hr
theorem CI_rf (h : CI G u x P RA VA pa sp ln rf sb C) : C rf = some (aI G 6 (s_td u)) := h.2.2.2.2.2.2.1
theorem CI_ln (h : CI G u x P RA VA pa sp ln rf sb C) : C ln = some (cLn sb) := h.2.2.2.2.2.2.2.1
theorem CI_pa (h : CI G u x P RA VA pa sp ln rf sb C) : ∃ fp : Nat → Option Nat, C pa = some (aP G 6 fp) ∧ ∀ i, i < 6 → fp i = some (P i) := h.2.1
theorem CI_sp' (h : CI G u x P RA VA pa sp ln rf sb C) : ∃ (o9 : Nat) (p9 : sP), C sp = some (cPx o9 p9) := h.2.2.2.1
theorem CI_nF (h : CI G u x P RA VA pa sp ln rf sb C) {r : Nat} (hr : r < s_nr u) : VA r ≠ rf := h.2.2.2.2.2.2.2.2.2.2.2.2.2 r hr
theorem a_X3_tryPut (l : Launch) (h : CI G u x P RA VA pa sp ln rf sb C) {t : Nat} (hok : s_ok t u) {i : Nat} (hi : i < 6) (v : Int32) : z_Mi l G qX3_tryPut (z_rm 6 0 0) [.ref x, .ref (P i), .int v] C (fun r M' => ((s_put1 u i v).1 = 0 ∧ r = 1 ∨ ¬ (s_put1 u i v).1 = 0 ∧ r = 0) ∧ CI G (s_put1 u i v).2 x P RA VA pa sp ln rf sb M') := by
  refine z_Mi_mono (c_X3_tryPut l G h.1 (CI_rf h) (CI_P h hi) (CI_RA h (s_row hok hi)) (CI_VA h (s_row hok hi)) (CI_nF h (s_row hok hi)) (s_ow hok hi)) ?_
  rintro r M' (⟨c1, c2, hr9, rfl⟩ | ⟨c1, c2, hr9, rfl⟩ | ⟨c1, hr9, rfl⟩)
  · have e : s_put1 u i v = (0, s_up (s_wr u (p_ro (s_pn u i)) (p_at (s_pn u i) (p_po (s_pn u i))) v) i (p_po' (s_pn u i) (p_po (s_pn u i) + 1))) := by
      unfold s_put1
      rw [if_neg ((s_rdn hok hi).mp c1), if_neg (fun q => ((s_left' hok hi).mp q) c2)]
    rw [e]
    exact ⟨Or.inl ⟨rfl, hr9⟩, CI_pn (CI_wr h (s_row hok hi) _ _) hi (p_po' (s_pn u i) (p_po (s_pn u i) + 1))⟩
  · have e : s_put1 u i v = (1, s_tel u 1) := by
      unfold s_put1
      rw [if_neg ((s_rdn hok hi).mp c1), if_pos ((s_left' hok hi).mpr c2)]
    rw [e]
    exact ⟨Or.inr ⟨by show ¬ (1 : Int32) = 0; decide, hr9⟩, CI_td h _⟩
  · have e : s_put1 u i v = (4, s_tel u 4) := by
      unfold s_put1
      rw [if_pos ((s_rdn' hok hi).mpr c1)]
    rw [e]
    exact ⟨Or.inr ⟨by show ¬ (4 : Int32) = 0; decide, hr9⟩, CI_td h _⟩
theorem a_X1_takeNext (l : Launch) (h : CI G u x P RA VA pa sp ln rf sb C) {t : Nat} (hok : s_ok t u) {i : Nat} (hi : i < 6) (hl : ¬ p_li (s_pn u i) - p_po (s_pn u i) = 0) : z_Mi l G qX1_takeNext (z_rm 4 0 0) [.ref (P i)] C (fun r M' => r = s_val u (s_pn u i) (p_po (s_pn u i)) ∧ CI G (s_up u i (p_po' (s_pn u i) (p_po (s_pn u i) + 1))) x P RA VA pa sp ln rf sb M') := by
  refine z_Mi_mono (c_X1_takeNext l G (CI_P h hi) (CI_RA h (s_row hok hi)) (CI_VA h (s_row hok hi)) (s_inP hok hi hl) (z_owN (s_ow hok hi))) ?_
  rintro r M' ⟨hr9, rfl⟩
  exact ⟨hr9, CI_pn h hi (p_po' (s_pn u i) (p_po (s_pn u i) + 1))⟩
theorem a_X1_moveTo (l : Launch) (h : CI G u x P RA VA pa sp ln rf sb C) {i : Nat} (hi : i < 6) (y : Int32) : z_Mv l G qX1_moveTo (z_rm 1 0 0) [.ref (P i), .int y] C (fun M' => CI G (s_up u i (p_mv (s_pn u i) y)) x P RA VA pa sp ln rf sb M') := by
  refine z_Mv_mono (c_X1_moveTo l G (CI_P h hi)) ?_
  rintro M' (⟨c, rfl⟩ | ⟨c, rfl⟩)
  · have e : p_mv (s_pn u i) y = (p_ro (s_pn u i), p_sa (s_pn u i), p_cp (s_pn u i), y, p_li (s_pn u i), p_mk (s_pn u i), p_rd (s_pn u i)) := by unfold p_mv; rw [if_pos c]
    rw [e]
    exact CI_pn h hi _
  · have e : p_mv (s_pn u i) y = (p_ro (s_pn u i), p_sa (s_pn u i), p_cp (s_pn u i), y, p_li (s_pn u i), -1, p_rd (s_pn u i)) := by unfold p_mv; rw [if_neg c]
    rw [e]
    exact CI_pn h hi _
theorem a_X1_replace (l : Launch) (h : CI G u x P RA VA pa sp ln rf sb C) {t : Nat} (hok : s_ok t u) {i : Nat} (hi : i < 6) {y : Int32} (v : Int32) (hy : vp_in (p_sa (s_pn u i) + y) (s_ln u (p_ro (s_pn u i)))) : z_Mi l G qX1_replace (z_rm 3 0 0) [.ref (P i), .int y, .int v] C (fun _ M' => CI G (s_wr u (p_ro (s_pn u i)) (p_at (s_pn u i) y) v) x P RA VA pa sp ln rf sb M') := by
  refine z_Mi_mono (c_X1_replace l G (CI_P h hi) (CI_RA h (s_row hok hi)) (CI_VA h (s_row hok hi)) hy (z_owN (s_ow hok hi))) ?_
  rintro r M' ⟨hr9, rfl⟩
  exact CI_wr h (s_row hok hi) _ _
theorem a_X1_valueAt (l : Launch) (h : CI G u x P RA VA pa sp ln rf sb C) {t : Nat} (hok : s_ok t u) {i : Nat} (hi : i < 6) {y : Int32} (hy : vp_in (p_sa (s_pn u i) + y) (s_ln u (p_ro (s_pn u i)))) : z_Mi l G qX1_valueAt (z_rm 3 0 0) [.ref (P i), .int y] C (fun r M' => r = s_val u (s_pn u i) y ∧ M' = C) := c_X1_valueAt l G (CI_P h hi) (CI_RA h (s_row hok hi)) (CI_VA h (s_row hok hi)) hy (z_owN (s_ow hok hi))
end CIP
theorem s_up_up (u : sS) (i : Nat) (p q : sP) : s_up (s_up u i p) i q = s_up u i q := by
  have e : (fun j => if j = i then q else (if j = i then p else s_pn u j)) = (fun j => if j = i then q else s_pn u j) := by
    funext j
    by_cases h : j = i
    · rw [if_pos h, if_pos h]
    · rw [if_neg h, if_neg h, if_neg h]
  show (s_nr u, s_ln u, s_vl u, (fun j => if j = i then q else (if j = i then p else s_pn u j)), s_ac u, s_kn u, s_td u) = _
  rw [e]
  rfl
abbrev s_mvd (u : sS) (i j : Nat) : sS := s_up u i (p_po' (s_pn u i) (p_po (s_pn u i) + nI j))
theorem s_nxt (u : sS) (i j : Nat) : s_up (s_mvd u i j) i (p_po' (s_pn (s_mvd u i j) i) (p_po (s_pn (s_mvd u i j) i) + 1)) = s_mvd u i (j + 1) := by
  rw [s_up_up, s_up_s]
  show s_up u i (p_po' (s_pn u i) (p_po (s_pn u i) + nI j + 1)) = _
  rw [z_pS]
theorem s_mvd0 (u : sS) (i : Nat) : s_mvd u i 0 = u := by
  have e : (fun j => if j = i then p_po' (s_pn u i) (p_po (s_pn u i) + nI 0) else s_pn u j) = s_pn u := by
    funext j
    by_cases h : j = i
    · subst h; rw [if_pos rfl, z_p0]; rfl
    · rw [if_neg h]
  show (s_nr u, s_ln u, s_vl u, (fun j => if j = i then p_po' (s_pn u i) (p_po (s_pn u i) + nI 0) else s_pn u j), s_ac u, s_kn u, s_td u) = _
  rw [e]
section MVD
variable {t : Nat} {u : sS} {i j : Nat}
theorem s_mvl (h : s_ok t u) (hi : i < 6) (hj : (j : Int) ≤ (p_li (s_pn u i) - p_po (s_pn u i)).toInt) : (p_po (s_pn u i) + nI j).toInt = (p_po (s_pn u i)).toInt + j ∧ (p_li (s_pn u i) - (p_po (s_pn u i) + nI j)).toInt = (p_li (s_pn u i)).toInt - (p_po (s_pn u i)).toInt - j := by
  have h1 := s_pos0 h hi
  have h2 := s_lo h hi
  rw [h1.2.2] at hj
  have ej : (nI j).toInt = j := nI_T (by omega)
  have e : (p_po (s_pn u i) + nI j).toInt = (p_po (s_pn u i)).toInt + j := by rw [fb_addI (by omega) (by omega), ej]
  refine ⟨e, ?_⟩
  rw [fb_subI (by omega) (by omega), e]
  omega
theorem s_ok_mvd (h : s_ok t u) (hi : i < 6) (hj : (j : Int) ≤ (p_li (s_pn u i) - p_po (s_pn u i)).toInt) : s_ok t (s_mvd u i j) := by
  have h1 := s_pos0 h hi
  have h3 := s_mvl h hi hj
  rw [h1.2.2] at hj
  have h4 := (s_pk h hi).2.2.1
  exact s_ok_up h i (pok_po (s_pk h hi) (by omega) (by omega) (by omega))
theorem s_mvn (h : s_ok t u) (hi : i < 6) (hj : (j : Int) ≤ (p_li (s_pn u i) - p_po (s_pn u i)).toInt) (hl : ¬ p_li (s_pn u i) - (p_po (s_pn u i) + nI j) ≤ 0) : ((j + 1 : Nat) : Int) ≤ (p_li (s_pn u i) - p_po (s_pn u i)).toInt ∧ ¬ p_li (s_pn (s_mvd u i j) i) - p_po (s_pn (s_mvd u i j) i) = 0 := by
  have h1 := s_pos0 h hi
  have h3 := s_mvl h hi hj
  rw [z_le, z_t0, h3.2] at hl
  rw [h1.2.2]
  refine ⟨by omega, ?_⟩
  rw [s_up_s]
  show ¬ p_li (s_pn u i) - (p_po (s_pn u i) + nI j) = 0
  rw [z_eqI, z_t0, h3.2]
  omega
theorem s_mve (h : s_ok t u) (hi : i < 6) (hj : (j : Int) ≤ (p_li (s_pn u i) - p_po (s_pn u i)).toInt) (hl : p_li (s_pn u i) - (p_po (s_pn u i) + nI j) ≤ 0) : nI j = p_li (s_pn u i) - p_po (s_pn u i) := by
  have h1 := s_pos0 h hi
  have h2 := s_lo h hi
  have h3 := s_mvl h hi hj
  rw [z_le, z_t0, h3.2] at hl
  rw [h1.2.2] at hj
  rw [z_eqI, nI_T (by omega), h1.2.2]
  omega
end MVD
section PKI
variable {t : Nat} {u : sS} {i j mq : Nat}
theorem s_pkI (h : s_ok t u) (hi : i < 6) (hl : p_li (s_pn u i) - p_po (s_pn u i) = nI mq) (hmb : mq ≤ 16) (hj : j < mq) : vp_in (p_sa (s_pn u i) + nI j) (s_ln u (p_ro (s_pn u i))) ∧ vp_in (p_sa (s_pn u i) + (p_po (s_pn u i) + nI j)) (s_ln u (p_ro (s_pn u i))) := by
  have h1 := s_pos0 h hi
  have h2 := s_lo h hi
  have h3 := h1.2.2
  rw [hl, nI_T (by omega)] at h3
  have ej : (nI j).toInt = j := nI_T (by omega)
  have e : (p_po (s_pn u i) + nI j).toInt = (p_po (s_pn u i)).toInt + j := by rw [fb_addI (by omega) (by omega), ej]
  have h4 := (s_ow h hi).2.2.2.1
  exact ⟨z_owI (s_ow h hi) (by omega) (by omega), z_owI (s_ow h hi) (by omega) (by omega)⟩
theorem s_pkM (h : s_ok t u) (hi : i < 6) : p_li (s_pn u i) - p_po (s_pn u i) = nI (p_li (s_pn u i) - p_po (s_pn u i)).toNatClampNeg ∧ (p_li (s_pn u i) - p_po (s_pn u i)).toNatClampNeg ≤ 16 := by
  have h1 := s_pos0 h hi
  have h2 := s_lo h hi
  have h3 := z_cl (x := p_li (s_pn u i) - p_po (s_pn u i)) (by rw [z_le, z_t0]; omega)
  refine ⟨?_, by omega⟩
  rw [z_eqI, nI_toInt (by omega)]
  omega
end PKI
theorem dX3_pourOne_0 : decode cX3_pourOne 0 = .ok (.aload_n 1, 1) := by decide +kernel
theorem dX3_pourOne_1 : decode cX3_pourOne 1 = .ok (.invokevirtual 155, 3) := by decide +kernel
theorem dX3_pourOne_4 : decode cX3_pourOne 4 = .ok (.istore_n 3, 1) := by decide +kernel
theorem dX3_pourOne_5 : decode cX3_pourOne 5 = .ok (.aload_n 0, 1) := by decide +kernel
theorem dX3_pourOne_6 : decode cX3_pourOne 6 = .ok (.aload_n 2, 1) := by decide +kernel
theorem dX3_pourOne_7 : decode cX3_pourOne 7 = .ok (.iload_n 3, 1) := by decide +kernel
theorem dX3_pourOne_8 : decode cX3_pourOne 8 = .ok (.invokevirtual 119, 3) := by decide +kernel
theorem dX3_pourOne_11 : decode cX3_pourOne 11 = .ok (.ifCond .eq 5, 3) := by decide +kernel
theorem dX3_pourOne_14 : decode cX3_pourOne 14 = .ok (.iconst 1, 1) := by decide +kernel
theorem dX3_pourOne_15 : decode cX3_pourOne 15 = .ok (.ireturn, 1) := by decide +kernel
theorem dX3_pourOne_16 : decode cX3_pourOne 16 = .ok (.aload_n 1, 1) := by decide +kernel
theorem dX3_pourOne_17 : decode cX3_pourOne 17 = .ok (.aload_n 1, 1) := by decide +kernel
theorem dX3_pourOne_18 : decode cX3_pourOne 18 = .ok (.getfield 60, 3) := by decide +kernel
theorem dX3_pourOne_21 : decode cX3_pourOne 21 = .ok (.iconst 1, 1) := by decide +kernel
theorem dX3_pourOne_22 : decode cX3_pourOne 22 = .ok (.isub, 1) := by decide +kernel
theorem dX3_pourOne_23 : decode cX3_pourOne 23 = .ok (.invokevirtual 97, 3) := by decide +kernel
theorem dX3_pourOne_26 : decode cX3_pourOne 26 = .ok (.iconst 0, 1) := by decide +kernel
theorem dX3_pourOne_27 : decode cX3_pourOne 27 = .ok (.ireturn, 1) := by decide +kernel
theorem dX3_fill_0 : decode cX3_fill 0 = .ok (.aload_n 0, 1) := by decide +kernel
theorem dX3_fill_1 : decode cX3_fill 1 = .ok (.iload_n 1, 1) := by decide +kernel
theorem dX3_fill_2 : decode cX3_fill 2 = .ok (.invokevirtual 49, 3) := by decide +kernel
theorem dX3_fill_5 : decode cX3_fill 5 = .ok (.astore 5, 2) := by decide +kernel
theorem dX3_fill_7 : decode cX3_fill 7 = .ok (.iload_n 2, 1) := by decide +kernel
theorem dX3_fill_8 : decode cX3_fill 8 = .ok (.iconst 0, 1) := by decide +kernel
theorem dX3_fill_9 : decode cX3_fill 9 = .ok (.ldc 134, 2) := by decide +kernel
theorem dX3_fill_11 : decode cX3_fill 11 = .ok (.invokestatic 53, 3) := by decide +kernel
theorem dX3_fill_14 : decode cX3_fill 14 = .ok (.iload_n 3, 1) := by decide +kernel
theorem dX3_fill_15 : decode cX3_fill 15 = .ok (.iconst 0, 1) := by decide +kernel
theorem dX3_fill_16 : decode cX3_fill 16 = .ok (.ldc 134, 2) := by decide +kernel
theorem dX3_fill_18 : decode cX3_fill 18 = .ok (.invokestatic 53, 3) := by decide +kernel
theorem dX3_fill_21 : decode cX3_fill 21 = .ok (.iload 4, 2) := by decide +kernel
theorem dX3_fill_23 : decode cX3_fill 23 = .ok (.iconst 0, 1) := by decide +kernel
theorem dX3_fill_24 : decode cX3_fill 24 = .ok (.bipush 20, 2) := by decide +kernel
theorem dX3_fill_26 : decode cX3_fill 26 = .ok (.invokestatic 53, 3) := by decide +kernel
theorem dX3_fill_29 : decode cX3_fill 29 = .ok (.iconst 0, 1) := by decide +kernel
theorem dX3_fill_30 : decode cX3_fill 30 = .ok (.istore 6, 2) := by decide +kernel
theorem dX3_fill_32 : decode cX3_fill 32 = .ok (.iload 6, 2) := by decide +kernel
theorem dX3_fill_34 : decode cX3_fill 34 = .ok (.iload 4, 2) := by decide +kernel
theorem dX3_fill_36 : decode cX3_fill 36 = .ok (.if_icmp .ge 24, 3) := by decide +kernel
theorem dX3_fill_39 : decode cX3_fill 39 = .ok (.aload_n 0, 1) := by decide +kernel
theorem dX3_fill_40 : decode cX3_fill 40 = .ok (.aload 5, 2) := by decide +kernel
theorem dX3_fill_42 : decode cX3_fill 42 = .ok (.iload_n 2, 1) := by decide +kernel
theorem dX3_fill_43 : decode cX3_fill 43 = .ok (.iload 6, 2) := by decide +kernel
theorem dX3_fill_45 : decode cX3_fill 45 = .ok (.iload_n 3, 1) := by decide +kernel
theorem dX3_fill_46 : decode cX3_fill 46 = .ok (.imul, 1) := by decide +kernel
theorem dX3_fill_47 : decode cX3_fill 47 = .ok (.iadd, 1) := by decide +kernel
theorem dX3_fill_48 : decode cX3_fill 48 = .ok (.invokevirtual 119, 3) := by decide +kernel
theorem dX3_fill_51 : decode cX3_fill 51 = .ok (.ifCond .eq 9, 3) := by decide +kernel
theorem dX3_fill_54 : decode cX3_fill 54 = .ok (.iinc 6 1, 3) := by decide +kernel
theorem dX3_fill_57 : decode cX3_fill 57 = .ok (.goto (-25), 3) := by decide +kernel
theorem dX3_fill_60 : decode cX3_fill 60 = .ok (.aload_n 0, 1) := by decide +kernel
theorem dX3_fill_61 : decode cX3_fill 61 = .ok (.iload 6, 2) := by decide +kernel
theorem dX3_fill_63 : decode cX3_fill 63 = .ok (.invokevirtual 66, 3) := by decide +kernel
theorem dX3_fill_66 : decode cX3_fill 66 = .ok (.ireturn, 1) := by decide +kernel
theorem dX3_drain_0 : decode cX3_drain 0 = .ok (.aload_n 0, 1) := by decide +kernel
theorem dX3_drain_1 : decode cX3_drain 1 = .ok (.iload_n 1, 1) := by decide +kernel
theorem dX3_drain_2 : decode cX3_drain 2 = .ok (.invokevirtual 49, 3) := by decide +kernel
theorem dX3_drain_5 : decode cX3_drain 5 = .ok (.astore_n 3, 1) := by decide +kernel
theorem dX3_drain_6 : decode cX3_drain 6 = .ok (.iload_n 2, 1) := by decide +kernel
theorem dX3_drain_7 : decode cX3_drain 7 = .ok (.iconst 0, 1) := by decide +kernel
theorem dX3_drain_8 : decode cX3_drain 8 = .ok (.bipush 20, 2) := by decide +kernel
theorem dX3_drain_10 : decode cX3_drain 10 = .ok (.invokestatic 53, 3) := by decide +kernel
theorem dX3_drain_13 : decode cX3_drain 13 = .ok (.iconst 0, 1) := by decide +kernel
theorem dX3_drain_14 : decode cX3_drain 14 = .ok (.istore 4, 2) := by decide +kernel
theorem dX3_drain_16 : decode cX3_drain 16 = .ok (.iload 4, 2) := by decide +kernel
theorem dX3_drain_18 : decode cX3_drain 18 = .ok (.iload_n 2, 1) := by decide +kernel
theorem dX3_drain_19 : decode cX3_drain 19 = .ok (.if_icmp .ge 21, 3) := by decide +kernel
theorem dX3_drain_22 : decode cX3_drain 22 = .ok (.aload_n 3, 1) := by decide +kernel
theorem dX3_drain_23 : decode cX3_drain 23 = .ok (.invokevirtual 74, 3) := by decide +kernel
theorem dX3_drain_26 : decode cX3_drain 26 = .ok (.ifCond .le 14, 3) := by decide +kernel
theorem dX3_drain_29 : decode cX3_drain 29 = .ok (.aload_n 3, 1) := by decide +kernel
theorem dX3_drain_30 : decode cX3_drain 30 = .ok (.invokevirtual 155, 3) := by decide +kernel
theorem dX3_drain_33 : decode cX3_drain 33 = .ok (.pop, 1) := by decide +kernel
theorem dX3_drain_34 : decode cX3_drain 34 = .ok (.iinc 4 1, 3) := by decide +kernel
theorem dX3_drain_37 : decode cX3_drain 37 = .ok (.goto (-21), 3) := by decide +kernel
theorem dX3_drain_40 : decode cX3_drain 40 = .ok (.iload 4, 2) := by decide +kernel
theorem dX3_drain_42 : decode cX3_drain 42 = .ok (.iload_n 2, 1) := by decide +kernel
theorem dX3_drain_43 : decode cX3_drain 43 = .ok (.if_icmp .ge 9, 3) := by decide +kernel
theorem dX3_drain_46 : decode cX3_drain 46 = .ok (.aload_n 0, 1) := by decide +kernel
theorem dX3_drain_47 : decode cX3_drain 47 = .ok (.iconst 2, 1) := by decide +kernel
theorem dX3_drain_48 : decode cX3_drain 48 = .ok (.invokevirtual 86, 3) := by decide +kernel
theorem dX3_drain_51 : decode cX3_drain 51 = .ok (.pop, 1) := by decide +kernel
theorem dX3_drain_52 : decode cX3_drain 52 = .ok (.aload_n 0, 1) := by decide +kernel
theorem dX3_drain_53 : decode cX3_drain 53 = .ok (.iload 4, 2) := by decide +kernel
theorem dX3_drain_55 : decode cX3_drain 55 = .ok (.invokevirtual 66, 3) := by decide +kernel
theorem dX3_drain_58 : decode cX3_drain 58 = .ok (.ireturn, 1) := by decide +kernel
theorem dX3_pour_0 : decode cX3_pour 0 = .ok (.aload_n 0, 1) := by decide +kernel
theorem dX3_pour_1 : decode cX3_pour 1 = .ok (.iload_n 1, 1) := by decide +kernel
theorem dX3_pour_2 : decode cX3_pour 2 = .ok (.invokevirtual 49, 3) := by decide +kernel
theorem dX3_pour_5 : decode cX3_pour 5 = .ok (.astore 4, 2) := by decide +kernel
theorem dX3_pour_7 : decode cX3_pour 7 = .ok (.aload_n 0, 1) := by decide +kernel
theorem dX3_pour_8 : decode cX3_pour 8 = .ok (.iload_n 2, 1) := by decide +kernel
theorem dX3_pour_9 : decode cX3_pour 9 = .ok (.invokevirtual 49, 3) := by decide +kernel
theorem dX3_pour_12 : decode cX3_pour 12 = .ok (.astore 5, 2) := by decide +kernel
theorem dX3_pour_14 : decode cX3_pour 14 = .ok (.iload_n 3, 1) := by decide +kernel
theorem dX3_pour_15 : decode cX3_pour 15 = .ok (.iconst 0, 1) := by decide +kernel
theorem dX3_pour_16 : decode cX3_pour 16 = .ok (.bipush 20, 2) := by decide +kernel
theorem dX3_pour_18 : decode cX3_pour 18 = .ok (.invokestatic 53, 3) := by decide +kernel
theorem dX3_pour_21 : decode cX3_pour 21 = .ok (.iconst 0, 1) := by decide +kernel
theorem dX3_pour_22 : decode cX3_pour 22 = .ok (.istore 6, 2) := by decide +kernel
theorem dX3_pour_24 : decode cX3_pour 24 = .ok (.iload 6, 2) := by decide +kernel
theorem dX3_pour_26 : decode cX3_pour 26 = .ok (.iload_n 3, 1) := by decide +kernel
theorem dX3_pour_27 : decode cX3_pour 27 = .ok (.if_icmp .ge 28, 3) := by decide +kernel
theorem dX3_pour_30 : decode cX3_pour 30 = .ok (.aload 4, 2) := by decide +kernel
theorem dX3_pour_32 : decode cX3_pour 32 = .ok (.invokevirtual 74, 3) := by decide +kernel
theorem dX3_pour_35 : decode cX3_pour 35 = .ok (.ifCond .le 20, 3) := by decide +kernel
theorem dX3_pour_38 : decode cX3_pour 38 = .ok (.aload_n 0, 1) := by decide +kernel
theorem dX3_pour_39 : decode cX3_pour 39 = .ok (.aload 4, 2) := by decide +kernel
theorem dX3_pour_41 : decode cX3_pour 41 = .ok (.aload 5, 2) := by decide +kernel
theorem dX3_pour_43 : decode cX3_pour 43 = .ok (.invokevirtual 135, 3) := by decide +kernel
theorem dX3_pour_46 : decode cX3_pour 46 = .ok (.ifCond .eq 9, 3) := by decide +kernel
theorem dX3_pour_49 : decode cX3_pour 49 = .ok (.iinc 6 1, 3) := by decide +kernel
theorem dX3_pour_52 : decode cX3_pour 52 = .ok (.goto (-28), 3) := by decide +kernel
theorem dX3_pour_55 : decode cX3_pour 55 = .ok (.aload_n 0, 1) := by decide +kernel
theorem dX3_pour_56 : decode cX3_pour 56 = .ok (.iload 6, 2) := by decide +kernel
theorem dX3_pour_58 : decode cX3_pour 58 = .ok (.invokevirtual 66, 3) := by decide +kernel
theorem dX3_pour_61 : decode cX3_pour 61 = .ok (.ireturn, 1) := by decide +kernel
theorem dX3_pack_0 : decode cX3_pack 0 = .ok (.aload_n 0, 1) := by decide +kernel
theorem dX3_pack_1 : decode cX3_pack 1 = .ok (.iload_n 1, 1) := by decide +kernel
theorem dX3_pack_2 : decode cX3_pack 2 = .ok (.invokevirtual 49, 3) := by decide +kernel
theorem dX3_pack_5 : decode cX3_pack 5 = .ok (.astore_n 2, 1) := by decide +kernel
theorem dX3_pack_6 : decode cX3_pack 6 = .ok (.aload_n 2, 1) := by decide +kernel
theorem dX3_pack_7 : decode cX3_pack 7 = .ok (.getfield 89, 3) := by decide +kernel
theorem dX3_pack_10 : decode cX3_pack 10 = .ok (.ifCond .eq 9, 3) := by decide +kernel
theorem dX3_pack_13 : decode cX3_pack 13 = .ok (.aload_n 0, 1) := by decide +kernel
theorem dX3_pack_14 : decode cX3_pack 14 = .ok (.iconst 4, 1) := by decide +kernel
theorem dX3_pack_15 : decode cX3_pack 15 = .ok (.invokevirtual 86, 3) := by decide +kernel
theorem dX3_pack_18 : decode cX3_pack 18 = .ok (.ireturn, 1) := by decide +kernel
theorem dX3_pack_19 : decode cX3_pack 19 = .ok (.aload_n 2, 1) := by decide +kernel
theorem dX3_pack_20 : decode cX3_pack 20 = .ok (.invokevirtual 74, 3) := by decide +kernel
theorem dX3_pack_23 : decode cX3_pack 23 = .ok (.istore_n 3, 1) := by decide +kernel
theorem dX3_pack_24 : decode cX3_pack 24 = .ok (.iconst 0, 1) := by decide +kernel
theorem dX3_pack_25 : decode cX3_pack 25 = .ok (.istore 4, 2) := by decide +kernel
theorem dX3_pack_27 : decode cX3_pack 27 = .ok (.iload 4, 2) := by decide +kernel
theorem dX3_pack_29 : decode cX3_pack 29 = .ok (.iload_n 3, 1) := by decide +kernel
theorem dX3_pack_30 : decode cX3_pack 30 = .ok (.if_icmp .ge 27, 3) := by decide +kernel
theorem dX3_pack_33 : decode cX3_pack 33 = .ok (.aload_n 2, 1) := by decide +kernel
theorem dX3_pack_34 : decode cX3_pack 34 = .ok (.iload 4, 2) := by decide +kernel
theorem dX3_pack_36 : decode cX3_pack 36 = .ok (.aload_n 2, 1) := by decide +kernel
theorem dX3_pack_37 : decode cX3_pack 37 = .ok (.aload_n 2, 1) := by decide +kernel
theorem dX3_pack_38 : decode cX3_pack 38 = .ok (.getfield 60, 3) := by decide +kernel
theorem dX3_pack_41 : decode cX3_pack 41 = .ok (.iload 4, 2) := by decide +kernel
theorem dX3_pack_43 : decode cX3_pack 43 = .ok (.iadd, 1) := by decide +kernel
theorem dX3_pack_44 : decode cX3_pack 44 = .ok (.invokevirtual 131, 3) := by decide +kernel
theorem dX3_pack_47 : decode cX3_pack 47 = .ok (.invokevirtual 127, 3) := by decide +kernel
theorem dX3_pack_50 : decode cX3_pack 50 = .ok (.pop, 1) := by decide +kernel
theorem dX3_pack_51 : decode cX3_pack 51 = .ok (.iinc 4 1, 3) := by decide +kernel
theorem dX3_pack_54 : decode cX3_pack 54 = .ok (.goto (-27), 3) := by decide +kernel
theorem dX3_pack_57 : decode cX3_pack 57 = .ok (.aload_n 2, 1) := by decide +kernel
theorem dX3_pack_58 : decode cX3_pack 58 = .ok (.aload_n 2, 1) := by decide +kernel
theorem dX3_pack_59 : decode cX3_pack 59 = .ok (.getfield 100, 3) := by decide +kernel
theorem dX3_pack_62 : decode cX3_pack 62 = .ok (.invokevirtual 113, 3) := by decide +kernel
theorem dX3_pack_65 : decode cX3_pack 65 = .ok (.aload_n 2, 1) := by decide +kernel
theorem dX3_pack_66 : decode cX3_pack 66 = .ok (.iload_n 3, 1) := by decide +kernel
theorem dX3_pack_67 : decode cX3_pack 67 = .ok (.putfield 60, 3) := by decide +kernel
theorem dX3_pack_70 : decode cX3_pack 70 = .ok (.aload_n 0, 1) := by decide +kernel
theorem dX3_pack_71 : decode cX3_pack 71 = .ok (.aload_n 2, 1) := by decide +kernel
theorem dX3_pack_72 : decode cX3_pack 72 = .ok (.getfield 60, 3) := by decide +kernel
theorem dX3_pack_75 : decode cX3_pack 75 = .ok (.invokevirtual 66, 3) := by decide +kernel
theorem dX3_pack_78 : decode cX3_pack 78 = .ok (.ireturn, 1) := by decide +kernel
set_option maxRecDepth 20000 in
theorem a_X3_pourOne (l : Launch) {G : zG} {u : sS} {x : Nat} {P RA VA : Nat → Nat} {pa sp ln rf sb : Nat} {Mw : zM} (hC : CI G u x P RA VA pa sp ln rf sb Mw) {t : Nat} (hok : s_ok t u) {i k : Nat} (hi : i < 6) (hk : k < 6) (hl : ¬ p_li (s_pn u i) - p_po (s_pn u i) = 0) : z_Mi l G qX3_pourOne (z_rm 7 0 0) [.ref x, .ref (P i), .ref (P k)] Mw (fun r M' => ((s_pour0 u i k).1 = 0 ∧ r = 1 ∧ CI G (s_pour0 u i k).2 x P RA VA pa sp ln rf sb M') ∨ (¬ (s_pour0 u i k).1 = 0 ∧ r = 0 ∧ CI G (s_unp (s_pour0 u i k).2 i) x P RA VA pa sp ln rf sb M'))  := by
  refine z_Mi_of _ (plainFor_of_name rfl) rfl (Nat.le_of_ble_eq_true rfl) (fun X hl hG hnm C ret => ?_)
  subst hl; subst hG
  have C : z_C X cX3_pourOne RX3 4 (z_rm 7 0 0) := C
  show z_W X Mw 0 0 0 [(0, .ref x), (1, .ref (P i)), (2, .ref (P k))] []
  refine z_aload_n C dX3_pourOne_0 rfl 1 rfl ?_
  refine z_callVi (rest := []) (k' := 0) (n' := 0) C (a_X1_takeNext (z_l X) hC hok hi hl) (cs_X3_155 C (by decide)) (CI_P hC hi) rfl rfl rfl rfl (Nat.le_of_ble_eq_true rfl) rfl rfl (by decide) (by decide) dX3_pourOne_1 (fun x1 Mq1 hq => ?_)
  obtain ⟨e1, hC1⟩ := hq
  rw [e1]
  refine z_istore_n (lv' := [(3, .int (s_val u (s_pn u i) (p_po (s_pn u i)))), (0, .ref x), (1, .ref (P i)), (2, .ref (P k))]) C dX3_pourOne_4 rfl (by decide) rfl ?_
  refine z_aload_n C dX3_pourOne_5 rfl 1 rfl ?_
  refine z_aload_n C dX3_pourOne_6 rfl 3 rfl ?_
  refine z_iload_n C dX3_pourOne_7 rfl 0 rfl ?_
  refine z_callVi (rest := []) (k' := 0) (n' := 0) C (a_X3_tryPut (z_l X) hC1 (s_ok_nx hok hi hl) hk _) (cs_X3_119 C (by decide)) hC1.1 rfl rfl rfl rfl (Nat.le_of_ble_eq_true rfl) rfl rfl (by decide) (by decide) dX3_pourOne_8 (fun x8 Mq8 hq => ?_)
  obtain ⟨⟨c8, e8⟩ | ⟨c8, e8⟩, hC8⟩ := hq
  · rw [e8]
    refine z_if_eq C (tgt := 16) dX3_pourOne_11 (by decide) (fun c11 => absurd c11 (by decide)) (fun _ => ?_)
    refine z_iconst C (v := 1) dX3_pourOne_14 (by decide) ?_
    refine ret dX3_pourOne_15 rfl ?_ (by decide) (by decide)
    exact Or.inl ⟨c8, rfl, hC8⟩
  · rw [e8]
    refine z_if_eq C (tgt := 16) dX3_pourOne_11 (by decide) (fun _ => ?_) (fun c11 => absurd (by decide) c11)
    refine z_aload_n C dX3_pourOne_16 rfl 2 rfl ?_
    refine z_aload_n C dX3_pourOne_17 rfl 2 rfl ?_
    refine gf_X3_60 C (CI_P hC8 hi) dX3_pourOne_18 ?_
    refine z_iconst C (v := 1) dX3_pourOne_21 (by decide) ?_
    refine z_isub C dX3_pourOne_22 ?_
    refine z_callVv (rest := []) (k' := 0) (n' := 0) C (a_X1_moveTo (z_l X) hC8 hi _) (cs_X3_97 C (by decide)) (CI_P hC8 hi) rfl rfl rfl rfl (Nat.le_of_ble_eq_true rfl) rfl rfl (by decide) (by decide) dX3_pourOne_23 (fun Mq23 hq => ?_)
    refine z_iconst C (v := 0) dX3_pourOne_26 (by decide) ?_
    refine ret dX3_pourOne_27 rfl ?_ (by decide) (by decide)
    exact Or.inr ⟨c8, rfl, hq⟩
set_option maxRecDepth 20000 in
theorem lp_X3_fill {X : zX} (C : z_C X cX3_fill RX3 7 (z_rm 12 8 48)) {x : Nat} {P RA VA : Nat → Nat} {pa sp ln rf sb : Nat} {t : Nat} {kc ks : Nat} (hkc : kc ≤ 8) (hks : ks ≤ 48) {i : Nat} (hi : i < 6) {a b pane many : Int32} (hv : ∀ k, k < 20 → 0 ≤ (a + nI k * b).toInt) {mn : Nat} (hmn : many = nI mn) (hmb : mn ≤ 20) {res : Nat × sS} (kk : ∀ M', CI (z_G X) res.2 x P RA VA pa sp ln rf sb M' → z_W X M' kc ks 60 [(6, .int (nI res.1)), (5, .ref (P i)), (0, .ref x), (1, .int pane), (2, .int a), (3, .int b), (4, .int many)] []) : ∀ (d j : Nat) (u : sS) (Mw : zM), j + d = mn → s_ok t u → CI (z_G X) u x P RA VA pa sp ln rf sb Mw → s_fill1 i a b d j u = res → z_W X Mw kc ks 32 [(6, .int (nI j)), (5, .ref (P i)), (0, .ref x), (1, .int pane), (2, .int a), (3, .int b), (4, .int many)] [] := by
  intro d
  induction d with
  | zero =>
    intro j u Mw hj hok hC hres
    refine z_iload C dX3_fill_32 0 rfl ?_
    refine z_iload C dX3_fill_34 6 rfl ?_
    refine z_icmp_ge C (tgt := 60) dX3_fill_36 (by decide) (fun _ => ?_) (fun c36 => absurd (by rw [hmn]; exact nI_le (by omega) (by omega)) c36)
    subst hres
    exact kk _ hC
  | succ d ih =>
    intro j u Mw hj hok hC hres
    refine z_iload C dX3_fill_32 0 rfl ?_
    refine z_iload C dX3_fill_34 6 rfl ?_
    refine z_icmp_ge C (tgt := 60) dX3_fill_36 (by decide) (fun c36 => absurd c36 (by rw [hmn]; exact nI_ge (by omega) (by omega))) (fun _ => ?_)
    refine z_aload_n C dX3_fill_39 rfl 2 rfl ?_
    refine z_aload C dX3_fill_40 1 rfl ?_
    refine z_iload_n C dX3_fill_42 rfl 4 rfl ?_
    refine z_iload C dX3_fill_43 0 rfl ?_
    refine z_iload_n C dX3_fill_45 rfl 5 rfl ?_
    refine z_imul C dX3_fill_46 ?_
    refine z_iadd C dX3_fill_47 ?_
    refine z_callVi (rest := []) (k' := kc) (n' := ks) C (a_X3_tryPut (z_l X) hC hok hi _) (cs_X3_119 C (by decide)) hC.1 rfl rfl rfl rfl (Nat.le_of_ble_eq_true rfl) rfl rfl hkc hks dX3_fill_48 (fun x48 Mq48 hq => ?_)
    obtain ⟨⟨c48, e48⟩ | ⟨c48, e48⟩, hC48⟩ := hq
    · rw [e48]
      refine z_if_eq C (tgt := 60) dX3_fill_51 (by decide) (fun c51 => absurd c51 (by decide)) (fun _ => ?_)
      refine z_iinc (v := nI (j + 1)) (lv' := [(6, .int (nI (j + 1))), (5, .ref (P i)), (0, .ref x), (1, .int pane), (2, .int a), (3, .int b), (4, .int many)]) C dX3_fill_54 0 rfl (nI_1 j) (by decide) rfl ?_
      refine z_goto C (tgt := 32) dX3_fill_57 (by decide) ?_
      exact ih (j + 1) _ _ (by omega) (s_ok_put1 hok hi (hv j (by omega))) hC48 (by rw [s_fill1, if_pos c48] at hres; exact hres)
    · rw [e48]
      refine z_if_eq C (tgt := 60) dX3_fill_51 (by decide) (fun _ => ?_) (fun c51 => absurd (by decide) c51)
      rw [s_fill1, if_neg c48] at hres
      subst hres
      exact kk _ hC48
set_option maxRecDepth 20000 in
theorem c_X3_fill_bad (l : Launch) (G : zG) (h_st : l.stackTraces = false) {M : zM} {x : Nat} {pane : Int32} {fi : Int32} {stp : Int32} {many : Int32} {lr : Nat} {pa : Nat} {sp : Nat} {ln : Nat} {rf : Nat} {ac : Int32} {kn : Int32} {fp : Nat → Option Nat}  (h_x : M x = some (cMp lr pa sp ln rf ac kn)) (h_pa : M pa = some (aP G 6 fp)) (h_ip : ¬ vp_in pane 6) : z_Xi l G qX3_fill (z_rm 12 8 48) [.ref x, .int pane, .int fi, .int stp, .int many] M (fun r M' => False) (fun E M' => ((pane < 0) ∧ E = "java/lang/IndexOutOfBoundsException" ∧ M' = M) ∨ ((¬ pane < 0) ∧ E = "java/lang/IndexOutOfBoundsException" ∧ M' = M)) := by
  refine z_Xi_of _ _ h_st rfl rfl (Nat.le_of_ble_eq_true rfl) (fun X hl hG C ret thr prp => ?_)
  subst hl; subst hG
  have C : z_C X cX3_fill RX3 7 (z_rm 12 8 48) := C
  show z_W X M 0 0 0 [(0, .ref x), (1, .int pane), (2, .int fi), (3, .int stp), (4, .int many)] []
  refine z_aload_n C dX3_fill_0 rfl 0 rfl ?_
  refine z_iload_n C dX3_fill_1 rfl 1 rfl ?_
  refine z_callXVr (rest := []) (k' := 1) (n' := 6) C (c_X3_paneOf_bad (z_l X) (z_G X) h_st h_x h_pa h_ip) (cs_X3_49 C (by decide)) h_x rfl rfl rfl rfl (Nat.le_of_ble_eq_true rfl) rfl rfl (by decide) (by decide) dX3_fill_2 (fun E M' hq => ?_) (fun x2 M' hq => ?_)
  · obtain ⟨cx2_0, rfl, rfl⟩ | ⟨cx2_0, rfl, rfl⟩ := hq
    · exact prp (Or.inl ⟨cx2_0, rfl, rfl⟩) (by decide) (by decide)
    · exact prp (Or.inr (⟨cx2_0, rfl, rfl⟩)) (by decide) (by decide)
  · skip
    exact hq.elim
set_option maxRecDepth 20000 in
theorem g_X3_fill (l : Launch) (h_st : l.stackTraces = false) {G : zG} {u : sS} {x : Nat} {P RA VA : Nat → Nat} {pa sp ln rf sb : Nat} {Mw : zM} (hC : CI G u x P RA VA pa sp ln rf sb Mw) {t : Nat} (hok : s_ok t u) {pane fi stp many : Int32} (h_ok : z_is pane 0 5 = 1) (h_ip : vp_in pane 6) (hi : pane.toNatClampNeg < 6) : z_Xi l G qX3_fill (z_rm 12 8 48) [.ref x, .int pane, .int fi, .int stp, .int many] Mw (CP G x pa sp ln rf sb (z_lt (z_is pane 0 5) (t_and (z_is fi 0 1000000) (t_and (z_is stp 0 1000000) (z_is many 0 20)))) (s_fill u pane.toNatClampNeg fi stp many)) (CX G x pa sp ln rf sb (z_lt (z_is pane 0 5) (t_and (z_is fi 0 1000000) (t_and (z_is stp 0 1000000) (z_is many 0 20)))) u) := by
  obtain ⟨fp, hpa, hfp⟩ := CI_pa hC
  refine z_Xi_of _ _ h_st rfl rfl (Nat.le_of_ble_eq_true rfl) (fun X hl hG C ret thr prp => ?_)
  subst hl; subst hG
  have C : z_C X cX3_fill RX3 7 (z_rm 12 8 48) := C
  show z_W X Mw 0 0 0 [(0, .ref x), (1, .int pane), (2, .int fi), (3, .int stp), (4, .int many)] []
  refine z_aload_n C dX3_fill_0 rfl 0 rfl ?_
  refine z_iload_n C dX3_fill_1 rfl 1 rfl ?_
  refine z_callXVr (rest := []) (k' := 1) (n' := 6) C (c_X3_paneOf (z_l X) (z_G X) h_st hC.1 hpa (CI_P hC hi) h_ip rfl (hfp _ hi)) (cs_X3_49 C (by decide)) hC.1 rfl rfl rfl rfl (Nat.le_of_ble_eq_true rfl) rfl rfl (by decide) (by decide) dX3_fill_2 (fun E M' hq => ?_) (fun x2 M' hq => ?_)
  · exact hq.elim
  · skip
    obtain ⟨rfl, rfl⟩ := hq
    refine z_astore (lv' := [(5, .ref (P pane.toNatClampNeg)), (0, .ref x), (1, .int pane), (2, .int fi), (3, .int stp), (4, .int many)]) C dX3_fill_5 (by decide) rfl ?_
    refine z_iload_n C dX3_fill_7 rfl 3 rfl ?_
    refine z_iconst C (v := 0) dX3_fill_8 (by decide) ?_
    refine z_ldc C (v := 1000000) kw904 dX3_fill_9 ?_
    refine z_callXSv (rest := []) (k' := 2) (n' := 12) C (c_X3_needWithin (z_l X) (z_G X) h_st) (cs_X3_53 C (by decide)) rfl rfl (Nat.le_of_ble_eq_true rfl) rfl rfl (by decide) (by decide) dX3_fill_11 (fun E M' hq => ?_) (fun M' hq => ?_)
    · obtain ⟨cx11_0, rfl, rfl⟩ := hq
      exact prp (CX_2 (k_2 h_ok (by simp [t_and, cx11_0])) hC) (by decide) (by decide)
    · skip
      obtain ⟨d11_0, rfl⟩ := hq
      refine z_iload_n C dX3_fill_14 rfl 4 rfl ?_
      refine z_iconst C (v := 0) dX3_fill_15 (by decide) ?_
      refine z_ldc C (v := 1000000) kw904 dX3_fill_16 ?_
      refine z_callXSv (rest := []) (k' := 3) (n' := 18) C (c_X3_needWithin (z_l X) (z_G X) h_st) (cs_X3_53 C (by decide)) rfl rfl (Nat.le_of_ble_eq_true rfl) rfl rfl (by decide) (by decide) dX3_fill_18 (fun E M' hq => ?_) (fun M' hq => ?_)
      · obtain ⟨cx18_0, rfl, rfl⟩ := hq
        exact prp (CX_2 (k_2 h_ok (by simp [t_and, d11_0, cx18_0])) hC) (by decide) (by decide)
      · skip
        obtain ⟨d18_0, rfl⟩ := hq
        refine z_iload C dX3_fill_21 5 rfl ?_
        refine z_iconst C (v := 0) dX3_fill_23 (by decide) ?_
        refine z_bipush C (v := 20) dX3_fill_24 (by decide) ?_
        refine z_callXSv (rest := []) (k' := 4) (n' := 24) C (c_X3_needWithin (z_l X) (z_G X) h_st) (cs_X3_53 C (by decide)) rfl rfl (Nat.le_of_ble_eq_true rfl) rfl rfl (by decide) (by decide) dX3_fill_26 (fun E M' hq => ?_) (fun M' hq => ?_)
        · obtain ⟨cx26_0, rfl, rfl⟩ := hq
          exact prp (CX_2 (k_2 h_ok (by simp [t_and, d11_0, d18_0, cx26_0])) hC) (by decide) (by decide)
        · skip
          obtain ⟨d26_0, rfl⟩ := hq
          refine z_iconst C (v := 0) dX3_fill_29 (by decide) ?_
          refine z_istore (lv' := [(6, .int 0), (5, .ref (P pane.toNatClampNeg)), (0, .ref x), (1, .int pane), (2, .int fi), (3, .int stp), (4, .int many)]) C dX3_fill_30 (by decide) rfl ?_
          refine z_at (M' := _) (lv' := [(6, .int (nI 0)), (5, .ref (P pane.toNatClampNeg)), (0, .ref x), (1, .int pane), (2, .int fi), (3, .int stp), (4, .int many)]) rfl (by rw [nI_0]) rfl ?_
          refine lp_X3_fill C (by decide) (by decide) hi (s_fv d11_0 d18_0) (z_rgN d26_0).1 (z_r20 d26_0) (fun Mq9 h9 => ?_) _ 0 u _ (Nat.zero_add _) hok hC rfl
          refine z_aload_n C dX3_fill_60 rfl 2 rfl ?_
          refine z_iload C dX3_fill_61 0 rfl ?_
          refine z_callVi (rest := []) (k' := 4) (n' := 24) C (c_X3_done (z_l X) (z_G X) h9.1) (cs_X3_66 C (by decide)) h9.1 rfl rfl rfl rfl (Nat.le_of_ble_eq_true rfl) rfl rfl (by decide) (by decide) dX3_fill_63 (fun x63 M' hq => ?_)
          obtain ⟨rfl, rfl⟩ := hq
          refine ret dX3_fill_66 rfl ?_ (by decide) (by decide)
          exact CP_ok (v := s_act (s_fill1 pane.toNatClampNeg fi stp many.toNatClampNeg 0 u).2) rfl (z_lt3 h_ok (by simp [t_and, d11_0, d18_0, z_is11 d26_0])) (CI_ak h9 _ _)
theorem a_X3_fill (l : Launch) (h_st : l.stackTraces = false) {G : zG} {u : sS} {x : Nat} {P RA VA : Nat → Nat} {pa sp ln rf sb : Nat} {Mw : zM} (hC : CI G u x P RA VA pa sp ln rf sb Mw) {t : Nat} (hok : s_ok t u) (pane fi stp many : Int32) : z_Xi l G qX3_fill (z_rm 12 8 48) [.ref x, .int pane, .int fi, .int stp, .int many] Mw (CP G x pa sp ln rf sb (z_lt (z_is pane 0 5) (t_and (z_is fi 0 1000000) (t_and (z_is stp 0 1000000) (z_is many 0 20)))) (s_fill u pane.toNatClampNeg fi stp many)) (CX G x pa sp ln rf sb (z_lt (z_is pane 0 5) (t_and (z_is fi 0 1000000) (t_and (z_is stp 0 1000000) (z_is many 0 20)))) u) := by
  obtain ⟨fp, hpa, hfp⟩ := CI_pa hC
  rcases z_pc pane with ⟨h_ok, h_ip, hi⟩ | ⟨h_bad, h_nip⟩
  · exact g_X3_fill l h_st hC hok h_ok h_ip hi
  · refine z_Xi_mono (c_X3_fill_bad l G h_st hC.1 hpa h_nip) (fun r M' h => h.elim) ?_
    rintro E M' (⟨x0_0, rfl, rfl⟩ | ⟨x1_0, rfl, rfl⟩)
    · exact CX_1 (k_1 h_bad) hC
    · exact CX_1 (k_1 h_bad) hC
set_option maxRecDepth 20000 in
theorem lp_X3_drain {X : zX} (C : z_C X cX3_drain RX3 5 (z_rm 12 8 48)) {x : Nat} {P RA VA : Nat → Nat} {pa sp ln rf sb : Nat} {t : Nat} {kc ks : Nat} (hkc : kc ≤ 8) (hks : ks ≤ 48) {i : Nat} (hi : i < 6) {u : sS} (hok : s_ok t u) {pane many : Int32} {mq : Nat} (hmn : many = nI mq) (hmb : mq ≤ 20) (kk1 : ∀ M', (mq : Int) ≤ (p_li (s_pn u i) - p_po (s_pn u i)).toInt → CI (z_G X) (s_mvd u i mq) x P RA VA pa sp ln rf sb M' → z_W X M' kc ks 40 [(4, .int (nI mq)), (3, .ref (P i)), (0, .ref x), (1, .int pane), (2, .int many)] []) (kk2 : ∀ (j : Nat) M', j < mq → nI j = p_li (s_pn u i) - p_po (s_pn u i) → CI (z_G X) (s_mvd u i j) x P RA VA pa sp ln rf sb M' → z_W X M' kc ks 40 [(4, .int (nI j)), (3, .ref (P i)), (0, .ref x), (1, .int pane), (2, .int many)] []) : ∀ (d j : Nat) (Mw : zM), j + d = mq → (j : Int) ≤ (p_li (s_pn u i) - p_po (s_pn u i)).toInt → CI (z_G X) (s_mvd u i j) x P RA VA pa sp ln rf sb Mw → z_W X Mw kc ks 16 [(4, .int (nI j)), (3, .ref (P i)), (0, .ref x), (1, .int pane), (2, .int many)] [] := by
  intro d
  induction d with
  | zero =>
    intro j Mw hj hjl hC
    refine z_iload C dX3_drain_16 0 rfl ?_
    refine z_iload_n C dX3_drain_18 rfl 4 rfl ?_
    refine z_icmp_ge C (tgt := 40) dX3_drain_19 (by decide) (fun _ => ?_) (fun c19 => absurd (by rw [hmn]; exact nI_le (by omega) (by omega)) c19)
    have ejm : j = mq := by omega
    subst ejm
    exact kk1 _ hjl hC
  | succ d ih =>
    intro j Mw hj hjl hC
    refine z_iload C dX3_drain_16 0 rfl ?_
    refine z_iload_n C dX3_drain_18 rfl 4 rfl ?_
    refine z_icmp_ge C (tgt := 40) dX3_drain_19 (by decide) (fun c19 => absurd c19 (by rw [hmn]; exact nI_ge (by omega) (by omega))) (fun _ => ?_)
    refine z_aload_n C dX3_drain_22 rfl 1 rfl ?_
    refine z_callVi (rest := []) (k' := kc) (n' := ks) C (c_X1_left (z_l X) (z_G X) (by have h9 := CI_P hC hi; rw [s_up_s] at h9; exact h9)) (cs_X3_74 C (by decide)) (by have h9 := CI_P hC hi; rw [s_up_s] at h9; exact h9) rfl rfl rfl rfl (Nat.le_of_ble_eq_true rfl) rfl rfl hkc hks dX3_drain_23 (fun x23 M' hq => ?_)
    obtain ⟨rfl, rfl⟩ := hq
    refine z_if_le C (tgt := 40) dX3_drain_26 (by decide) (fun c26 => ?_) (fun c26 => ?_)
    · exact kk2 j _ (by omega) (s_mve hok hi hjl c26) hC
    · refine z_aload_n C dX3_drain_29 rfl 1 rfl ?_
      refine z_callVi (rest := []) (k' := kc) (n' := ks) C (a_X1_takeNext (z_l X) hC (s_ok_mvd hok hi hjl) hi (s_mvn hok hi hjl c26).2) (cs_X3_155 C (by decide)) (by have h9 := CI_P hC hi; rw [s_up_s] at h9; exact h9) rfl rfl rfl rfl (Nat.le_of_ble_eq_true rfl) rfl rfl hkc hks dX3_drain_30 (fun x30 Mq30 hq => ?_)
      obtain ⟨-, hC30⟩ := hq
      rw [s_nxt] at hC30
      refine z_pop C dX3_drain_33 rfl ?_
      refine z_iinc (v := nI (j + 1)) (lv' := [(4, .int (nI (j + 1))), (3, .ref (P i)), (0, .ref x), (1, .int pane), (2, .int many)]) C dX3_drain_34 0 rfl (nI_1 j) (by decide) rfl ?_
      refine z_goto C (tgt := 16) dX3_drain_37 (by decide) ?_
      exact ih (j + 1) _ (by omega) (s_mvn hok hi hjl c26).1 hC30
set_option maxRecDepth 20000 in
theorem c_X3_drain_bad (l : Launch) (G : zG) (h_st : l.stackTraces = false) {M : zM} {x : Nat} {pane : Int32} {many : Int32} {lr : Nat} {pa : Nat} {sp : Nat} {ln : Nat} {rf : Nat} {ac : Int32} {kn : Int32} {fp : Nat → Option Nat}  (h_x : M x = some (cMp lr pa sp ln rf ac kn)) (h_pa : M pa = some (aP G 6 fp)) (h_ip : ¬ vp_in pane 6) : z_Xi l G qX3_drain (z_rm 12 8 48) [.ref x, .int pane, .int many] M (fun r M' => False) (fun E M' => ((pane < 0) ∧ E = "java/lang/IndexOutOfBoundsException" ∧ M' = M) ∨ ((¬ pane < 0) ∧ E = "java/lang/IndexOutOfBoundsException" ∧ M' = M)) := by
  refine z_Xi_of _ _ h_st rfl rfl (Nat.le_of_ble_eq_true rfl) (fun X hl hG C ret thr prp => ?_)
  subst hl; subst hG
  have C : z_C X cX3_drain RX3 5 (z_rm 12 8 48) := C
  show z_W X M 0 0 0 [(0, .ref x), (1, .int pane), (2, .int many)] []
  refine z_aload_n C dX3_drain_0 rfl 0 rfl ?_
  refine z_iload_n C dX3_drain_1 rfl 1 rfl ?_
  refine z_callXVr (rest := []) (k' := 1) (n' := 6) C (c_X3_paneOf_bad (z_l X) (z_G X) h_st h_x h_pa h_ip) (cs_X3_49 C (by decide)) h_x rfl rfl rfl rfl (Nat.le_of_ble_eq_true rfl) rfl rfl (by decide) (by decide) dX3_drain_2 (fun E M' hq => ?_) (fun x2 M' hq => ?_)
  · obtain ⟨cx2_0, rfl, rfl⟩ | ⟨cx2_0, rfl, rfl⟩ := hq
    · exact prp (Or.inl ⟨cx2_0, rfl, rfl⟩) (by decide) (by decide)
    · exact prp (Or.inr (⟨cx2_0, rfl, rfl⟩)) (by decide) (by decide)
  · skip
    exact hq.elim
set_option maxRecDepth 20000 in
theorem g_X3_drain (l : Launch) (h_st : l.stackTraces = false) {G : zG} {u : sS} {x : Nat} {P RA VA : Nat → Nat} {pa sp ln rf sb : Nat} {Mw : zM} (hC : CI G u x P RA VA pa sp ln rf sb Mw) {t : Nat} (hok : s_ok t u) {pane many : Int32} (h_ok : z_is pane 0 5 = 1) (h_ip : vp_in pane 6) (hi : pane.toNatClampNeg < 6) : z_Xi l G qX3_drain (z_rm 12 8 48) [.ref x, .int pane, .int many] Mw (CP G x pa sp ln rf sb (z_lt (z_is pane 0 5) (z_is many 0 20)) (s_drain u pane.toNatClampNeg many)) (CX G x pa sp ln rf sb (z_lt (z_is pane 0 5) (z_is many 0 20)) u) := by
  obtain ⟨fp, hpa, hfp⟩ := CI_pa hC
  refine z_Xi_of _ _ h_st rfl rfl (Nat.le_of_ble_eq_true rfl) (fun X hl hG C ret thr prp => ?_)
  subst hl; subst hG
  have C : z_C X cX3_drain RX3 5 (z_rm 12 8 48) := C
  show z_W X Mw 0 0 0 [(0, .ref x), (1, .int pane), (2, .int many)] []
  refine z_aload_n C dX3_drain_0 rfl 0 rfl ?_
  refine z_iload_n C dX3_drain_1 rfl 1 rfl ?_
  refine z_callXVr (rest := []) (k' := 1) (n' := 6) C (c_X3_paneOf (z_l X) (z_G X) h_st hC.1 hpa (CI_P hC hi) h_ip rfl (hfp _ hi)) (cs_X3_49 C (by decide)) hC.1 rfl rfl rfl rfl (Nat.le_of_ble_eq_true rfl) rfl rfl (by decide) (by decide) dX3_drain_2 (fun E M' hq => ?_) (fun x2 M' hq => ?_)
  · exact hq.elim
  · skip
    obtain ⟨rfl, rfl⟩ := hq
    refine z_astore_n (lv' := [(3, .ref (P pane.toNatClampNeg)), (0, .ref x), (1, .int pane), (2, .int many)]) C dX3_drain_5 rfl (by decide) rfl ?_
    refine z_iload_n C dX3_drain_6 rfl 3 rfl ?_
    refine z_iconst C (v := 0) dX3_drain_7 (by decide) ?_
    refine z_bipush C (v := 20) dX3_drain_8 (by decide) ?_
    refine z_callXSv (rest := []) (k' := 2) (n' := 12) C (c_X3_needWithin (z_l X) (z_G X) h_st) (cs_X3_53 C (by decide)) rfl rfl (Nat.le_of_ble_eq_true rfl) rfl rfl (by decide) (by decide) dX3_drain_10 (fun E M' hq => ?_) (fun M' hq => ?_)
    · obtain ⟨cx10_0, rfl, rfl⟩ := hq
      exact prp (CX_2 (k_2 h_ok cx10_0) hC) (by decide) (by decide)
    · skip
      obtain ⟨d10_0, rfl⟩ := hq
      refine z_iconst C (v := 0) dX3_drain_13 (by decide) ?_
      refine z_istore (lv' := [(4, .int 0), (3, .ref (P pane.toNatClampNeg)), (0, .ref x), (1, .int pane), (2, .int many)]) C dX3_drain_14 (by decide) rfl ?_
      refine z_at (M' := _) (lv' := [(4, .int (nI 0)), (3, .ref (P pane.toNatClampNeg)), (0, .ref x), (1, .int pane), (2, .int many)]) rfl (by rw [nI_0]) rfl ?_
      refine lp_X3_drain C (by decide) (by decide) hi hok (z_rgN d10_0).1 (z_r20 d10_0) (fun Mq9 hjl h9 => ?_) (fun j Mq9 hjl hje h9 => ?_) _ 0 _ (Nat.zero_add _) (by have h8 := s_pos0 hok hi; rw [h8.2.2]; omega) (by rw [s_mvd0]; exact hC)
      · refine z_iload C dX3_drain_40 0 rfl ?_
        refine z_iload_n C dX3_drain_42 rfl 4 rfl ?_
        refine z_icmp_ge C (tgt := 52) dX3_drain_43 (by decide) (fun _ => ?_) (fun c43 => absurd (by rw [← (z_rgN d10_0).1]; exact Int32.le_refl _) c43)
        refine z_aload_n C dX3_drain_52 rfl 2 rfl ?_
        refine z_iload C dX3_drain_53 0 rfl ?_
        refine z_callVi (rest := []) (k' := 2) (n' := 12) C (c_X3_done (z_l X) (z_G X) h9.1) (cs_X3_66 C (by decide)) h9.1 rfl rfl rfl rfl (Nat.le_of_ble_eq_true rfl) rfl rfl (by decide) (by decide) dX3_drain_55 (fun x55 M' hq => ?_)
        obtain ⟨rfl, rfl⟩ := hq
        refine ret dX3_drain_58 rfl ?_ (by decide) (by decide)
        have hle : many ≤ p_li (s_pn u pane.toNatClampNeg) - p_po (s_pn u pane.toNatClampNeg) := by rw [(z_rgN d10_0).1, z_le, nI_T (by have := z_r20 d10_0; omega)]; exact hjl
        have em : nI many.toNatClampNeg = many := (z_rgN d10_0).1.symm
        have e5 : s_mvd u pane.toNatClampNeg many.toNatClampNeg = s_up u pane.toNatClampNeg (p_po' (s_pn u pane.toNatClampNeg) (p_po (s_pn u pane.toNatClampNeg) + many)) := by show s_up u pane.toNatClampNeg (p_po' (s_pn u pane.toNatClampNeg) (p_po (s_pn u pane.toNatClampNeg) + nI many.toNatClampNeg)) = _; rw [em]
        rw [e5] at h9
        rw [em]
        exact CP_ok (v := s_act (s_up u pane.toNatClampNeg (p_po' (s_pn u pane.toNatClampNeg) (p_po (s_pn u pane.toNatClampNeg) + many)))) (by unfold s_drain; rw [if_pos hle]) (z_lt3 h_ok (z_is11 d10_0)) (CI_ak h9 _ _)
      · refine z_iload C dX3_drain_40 0 rfl ?_
        refine z_iload_n C dX3_drain_42 rfl 4 rfl ?_
        refine z_icmp_ge C (tgt := 52) dX3_drain_43 (by decide) (fun c43 => absurd c43 (by rw [(z_rgN d10_0).1]; exact nI_ge hjl (by have := z_r20 d10_0; omega))) (fun _ => ?_)
        refine z_aload_n C dX3_drain_46 rfl 2 rfl ?_
        refine z_iconst C (v := 2) dX3_drain_47 (by decide) ?_
        refine z_callVi (rest := []) (k' := 2) (n' := 12) C (c_X3_refuse (z_l X) (z_G X) h9.1 (CI_rf h9) (z_inL (by decide)) (show (2 : Int32).toNatClampNeg = 2 by decide)) (cs_X3_86 C (by decide)) h9.1 rfl rfl rfl rfl (Nat.le_of_ble_eq_true rfl) rfl rfl (by decide) (by decide) dX3_drain_48 (fun x48 M' hq => ?_)
        obtain ⟨rfl, rfl⟩ := hq
        refine z_pop C dX3_drain_51 rfl ?_
        refine z_aload_n C dX3_drain_52 rfl 2 rfl ?_
        refine z_iload C dX3_drain_53 0 rfl ?_
        refine z_callVi (rest := []) (k' := 2) (n' := 12) C (c_X3_done (z_l X) (z_G X) ((z_up_n _ _ (z_ne h9.1 (CI_rf h9) (by intro h; cases h))).trans h9.1)) (cs_X3_66 C (by decide)) ((z_up_n _ _ (z_ne h9.1 (CI_rf h9) (by intro h; cases h))).trans h9.1) rfl rfl rfl rfl (Nat.le_of_ble_eq_true rfl) rfl rfl (by decide) (by decide) dX3_drain_55 (fun x55 M' hq => ?_)
        obtain ⟨rfl, rfl⟩ := hq
        refine ret dX3_drain_58 rfl ?_ (by decide) (by decide)
        have hnl : ¬ many ≤ p_li (s_pn u pane.toNatClampNeg) - p_po (s_pn u pane.toNatClampNeg) := by rw [← hje, (z_rgN d10_0).1]; exact nI_ge hjl (by have := z_r20 d10_0; omega)
        have e5 : s_mvd u pane.toNatClampNeg j = s_up u pane.toNatClampNeg (p_po' (s_pn u pane.toNatClampNeg) (p_po (s_pn u pane.toNatClampNeg) + (p_li (s_pn u pane.toNatClampNeg) - p_po (s_pn u pane.toNatClampNeg)))) := by show s_up u pane.toNatClampNeg (p_po' (s_pn u pane.toNatClampNeg) (p_po (s_pn u pane.toNatClampNeg) + nI j)) = _; rw [hje]
        rw [e5] at h9
        rw [hje]
        exact CP_ok (v := s_act (s_tel (s_up u pane.toNatClampNeg (p_po' (s_pn u pane.toNatClampNeg) (p_po (s_pn u pane.toNatClampNeg) + (p_li (s_pn u pane.toNatClampNeg) - p_po (s_pn u pane.toNatClampNeg))))) 2)) (by unfold s_drain; rw [if_neg hnl]) (z_lt3 h_ok (z_is11 d10_0)) (CI_ak (CI_td h9 _) _ _)
theorem a_X3_drain (l : Launch) (h_st : l.stackTraces = false) {G : zG} {u : sS} {x : Nat} {P RA VA : Nat → Nat} {pa sp ln rf sb : Nat} {Mw : zM} (hC : CI G u x P RA VA pa sp ln rf sb Mw) {t : Nat} (hok : s_ok t u) (pane many : Int32) : z_Xi l G qX3_drain (z_rm 12 8 48) [.ref x, .int pane, .int many] Mw (CP G x pa sp ln rf sb (z_lt (z_is pane 0 5) (z_is many 0 20)) (s_drain u pane.toNatClampNeg many)) (CX G x pa sp ln rf sb (z_lt (z_is pane 0 5) (z_is many 0 20)) u) := by
  obtain ⟨fp, hpa, hfp⟩ := CI_pa hC
  rcases z_pc pane with ⟨h_ok, h_ip, hi⟩ | ⟨h_bad, h_nip⟩
  · exact g_X3_drain l h_st hC hok h_ok h_ip hi
  · refine z_Xi_mono (c_X3_drain_bad l G h_st hC.1 hpa h_nip) (fun r M' h => h.elim) ?_
    rintro E M' (⟨x0_0, rfl, rfl⟩ | ⟨x1_0, rfl, rfl⟩)
    · exact CX_1 (k_1 h_bad) hC
    · exact CX_1 (k_1 h_bad) hC
set_option maxRecDepth 20000 in
theorem lp_X3_pour {X : zX} (C : z_C X cX3_pour RX3 7 (z_rm 12 8 48)) {x : Nat} {P RA VA : Nat → Nat} {pa sp ln rf sb : Nat} {t : Nat} {kc ks : Nat} (hkc : kc ≤ 8) (hks : ks ≤ 48) {i k : Nat} (hi : i < 6) (hk : k < 6) {pane other many : Int32} {mq : Nat} (hmn : many = nI mq) (hmb : mq ≤ 20) {res : Nat × sS} (kk : ∀ M', CI (z_G X) res.2 x P RA VA pa sp ln rf sb M' → z_W X M' kc ks 55 [(6, .int (nI res.1)), (5, .ref (P k)), (4, .ref (P i)), (0, .ref x), (1, .int pane), (2, .int other), (3, .int many)] []) : ∀ (d j : Nat) (u : sS) (Mw : zM), j + d = mq → s_ok t u → CI (z_G X) u x P RA VA pa sp ln rf sb Mw → s_pour1 i k d j u = res → z_W X Mw kc ks 24 [(6, .int (nI j)), (5, .ref (P k)), (4, .ref (P i)), (0, .ref x), (1, .int pane), (2, .int other), (3, .int many)] [] := by
  intro d
  induction d with
  | zero =>
    intro j u Mw hj hok hC hres
    refine z_iload C dX3_pour_24 0 rfl ?_
    refine z_iload_n C dX3_pour_26 rfl 6 rfl ?_
    refine z_icmp_ge C (tgt := 55) dX3_pour_27 (by decide) (fun _ => ?_) (fun c27 => absurd (by rw [hmn]; exact nI_le (by omega) (by omega)) c27)
    subst hres
    exact kk _ hC
  | succ d ih =>
    intro j u Mw hj hok hC hres
    refine z_iload C dX3_pour_24 0 rfl ?_
    refine z_iload_n C dX3_pour_26 rfl 6 rfl ?_
    refine z_icmp_ge C (tgt := 55) dX3_pour_27 (by decide) (fun c27 => absurd c27 (by rw [hmn]; exact nI_ge (by omega) (by omega))) (fun _ => ?_)
    refine z_aload C dX3_pour_30 2 rfl ?_
    refine z_callVi (rest := []) (k' := kc) (n' := ks) C (c_X1_left (z_l X) (z_G X) (CI_P hC hi)) (cs_X3_74 C (by decide)) (CI_P hC hi) rfl rfl rfl rfl (Nat.le_of_ble_eq_true rfl) rfl rfl hkc hks dX3_pour_32 (fun x32 M' hq => ?_)
    obtain ⟨rfl, rfl⟩ := hq
    refine z_if_le C (tgt := 55) dX3_pour_35 (by decide) (fun c35 => ?_) (fun c35 => ?_)
    · rw [s_pour1, if_pos c35] at hres
      subst hres
      exact kk _ hC
    · refine z_aload_n C dX3_pour_38 rfl 3 rfl ?_
      refine z_aload C dX3_pour_39 2 rfl ?_
      refine z_aload C dX3_pour_41 1 rfl ?_
      refine z_callVi (rest := []) (k' := kc) (n' := ks) C (a_X3_pourOne (z_l X) hC hok hi hk (fun q => c35 ((s_left hok hi).mp q))) (cs_X3_135 C (by decide)) hC.1 rfl rfl rfl rfl (Nat.le_of_ble_eq_true rfl) rfl rfl hkc hks dX3_pour_43 (fun x43 Mq43 hq => ?_)
      obtain ⟨c43, e43, hC43⟩ | ⟨c43, e43, hC43⟩ := hq
      · rw [e43]
        refine z_if_eq C (tgt := 55) dX3_pour_46 (by decide) (fun c46 => absurd c46 (by decide)) (fun _ => ?_)
        refine z_iinc (v := nI (j + 1)) (lv' := [(6, .int (nI (j + 1))), (5, .ref (P k)), (4, .ref (P i)), (0, .ref x), (1, .int pane), (2, .int other), (3, .int many)]) C dX3_pour_49 0 rfl (nI_1 j) (by decide) rfl ?_
        refine z_goto C (tgt := 24) dX3_pour_52 (by decide) ?_
        exact ih (j + 1) _ _ (by omega) (s_ok_pour0 hok hi hk (fun q => c35 ((s_left hok hi).mp q))) hC43 (by rw [s_pour1, if_neg c35, if_pos c43] at hres; exact hres)
      · rw [e43]
        refine z_if_eq C (tgt := 55) dX3_pour_46 (by decide) (fun _ => ?_) (fun c46 => absurd (by decide) c46)
        rw [s_pour1, if_neg c35, if_neg c43] at hres
        subst hres
        exact kk _ hC43
set_option maxRecDepth 20000 in
theorem c_X3_pour_bad (l : Launch) (G : zG) (h_st : l.stackTraces = false) {M : zM} {x : Nat} {pane : Int32} {other : Int32} {many : Int32} {lr : Nat} {pa : Nat} {sp : Nat} {ln : Nat} {rf : Nat} {ac : Int32} {kn : Int32} {fp : Nat → Option Nat}  (h_x : M x = some (cMp lr pa sp ln rf ac kn)) (h_pa : M pa = some (aP G 6 fp)) (h_ip : ¬ vp_in pane 6) : z_Xi l G qX3_pour (z_rm 12 8 48) [.ref x, .int pane, .int other, .int many] M (fun r M' => False) (fun E M' => ((pane < 0) ∧ E = "java/lang/IndexOutOfBoundsException" ∧ M' = M) ∨ ((¬ pane < 0) ∧ E = "java/lang/IndexOutOfBoundsException" ∧ M' = M)) := by
  refine z_Xi_of _ _ h_st rfl rfl (Nat.le_of_ble_eq_true rfl) (fun X hl hG C ret thr prp => ?_)
  subst hl; subst hG
  have C : z_C X cX3_pour RX3 7 (z_rm 12 8 48) := C
  show z_W X M 0 0 0 [(0, .ref x), (1, .int pane), (2, .int other), (3, .int many)] []
  refine z_aload_n C dX3_pour_0 rfl 0 rfl ?_
  refine z_iload_n C dX3_pour_1 rfl 1 rfl ?_
  refine z_callXVr (rest := []) (k' := 1) (n' := 6) C (c_X3_paneOf_bad (z_l X) (z_G X) h_st h_x h_pa h_ip) (cs_X3_49 C (by decide)) h_x rfl rfl rfl rfl (Nat.le_of_ble_eq_true rfl) rfl rfl (by decide) (by decide) dX3_pour_2 (fun E M' hq => ?_) (fun x2 M' hq => ?_)
  · obtain ⟨cx2_0, rfl, rfl⟩ | ⟨cx2_0, rfl, rfl⟩ := hq
    · exact prp (Or.inl ⟨cx2_0, rfl, rfl⟩) (by decide) (by decide)
    · exact prp (Or.inr (⟨cx2_0, rfl, rfl⟩)) (by decide) (by decide)
  · skip
    exact hq.elim
set_option maxRecDepth 20000 in
theorem c_X3_pour_bad2 (l : Launch) (G : zG) (h_st : l.stackTraces = false) {M : zM} {x : Nat} {pane : Int32} {other : Int32} {many : Int32} {lr : Nat} {pa : Nat} {sp : Nat} {ln : Nat} {rf : Nat} {ac : Int32} {kn : Int32} {fp : Nat → Option Nat} {p : Nat} {ov : Nat} {sa : Int32} {cp : Int32} {po : Int32} {li : Int32} {mk : Int32} {rd : Int32} {i : Nat} (h_x : M x = some (cMp lr pa sp ln rf ac kn)) (h_pa : M pa = some (aP G 6 fp)) (h_p : M p = some (cPn ov sa cp po li mk rd)) (h_ip : vp_in pane 6) (h_ij : pane.toNatClampNeg = i) (h_fp : fp i = some p) (h_ip2 : ¬ vp_in other 6) : z_Xi l G qX3_pour (z_rm 12 8 48) [.ref x, .int pane, .int other, .int many] M (fun r M' => False) (fun E M' => ((other < 0) ∧ E = "java/lang/IndexOutOfBoundsException" ∧ M' = M) ∨ ((¬ other < 0) ∧ E = "java/lang/IndexOutOfBoundsException" ∧ M' = M)) := by
  refine z_Xi_of _ _ h_st rfl rfl (Nat.le_of_ble_eq_true rfl) (fun X hl hG C ret thr prp => ?_)
  subst hl; subst hG
  have C : z_C X cX3_pour RX3 7 (z_rm 12 8 48) := C
  show z_W X M 0 0 0 [(0, .ref x), (1, .int pane), (2, .int other), (3, .int many)] []
  refine z_aload_n C dX3_pour_0 rfl 0 rfl ?_
  refine z_iload_n C dX3_pour_1 rfl 1 rfl ?_
  refine z_callXVr (rest := []) (k' := 1) (n' := 6) C (c_X3_paneOf (z_l X) (z_G X) h_st h_x h_pa h_p h_ip h_ij h_fp) (cs_X3_49 C (by decide)) h_x rfl rfl rfl rfl (Nat.le_of_ble_eq_true rfl) rfl rfl (by decide) (by decide) dX3_pour_2 (fun E M' hq => ?_) (fun x2 M' hq => ?_)
  · exact hq.elim
  · skip
    obtain ⟨hr2, rfl⟩ := hq
    rw [hr2]
    refine z_astore (lv' := [(4, .ref p), (0, .ref x), (1, .int pane), (2, .int other), (3, .int many)]) C dX3_pour_5 (by decide) rfl ?_
    refine z_aload_n C dX3_pour_7 rfl 1 rfl ?_
    refine z_iload_n C dX3_pour_8 rfl 3 rfl ?_
    refine z_callXVr (rest := []) (k' := 2) (n' := 12) C (c_X3_paneOf_bad (z_l X) (z_G X) h_st h_x h_pa h_ip2) (cs_X3_49 C (by decide)) h_x rfl rfl rfl rfl (Nat.le_of_ble_eq_true rfl) rfl rfl (by decide) (by decide) dX3_pour_9 (fun E M' hq => ?_) (fun x9 M' hq => ?_)
    · obtain ⟨cx9_0, rfl, rfl⟩ | ⟨cx9_0, rfl, rfl⟩ := hq
      · exact prp (Or.inl ⟨cx9_0, rfl, rfl⟩) (by decide) (by decide)
      · exact prp (Or.inr (⟨cx9_0, rfl, rfl⟩)) (by decide) (by decide)
    · skip
      exact hq.elim
set_option maxRecDepth 20000 in
theorem g_X3_pour (l : Launch) (h_st : l.stackTraces = false) {G : zG} {u : sS} {x : Nat} {P RA VA : Nat → Nat} {pa sp ln rf sb : Nat} {Mw : zM} (hC : CI G u x P RA VA pa sp ln rf sb Mw) {t : Nat} (hok : s_ok t u) {pane other many : Int32} (h_ok : z_is pane 0 5 = 1) (h_ip : vp_in pane 6) (hi : pane.toNatClampNeg < 6) (h_ok2 : z_is other 0 5 = 1) (h_ip2 : vp_in other 6) (hi2 : other.toNatClampNeg < 6) : z_Xi l G qX3_pour (z_rm 12 8 48) [.ref x, .int pane, .int other, .int many] Mw (CP G x pa sp ln rf sb (z_lt (t_2 pane other) (z_is many 0 20)) (s_pour u pane.toNatClampNeg other.toNatClampNeg many)) (CX G x pa sp ln rf sb (z_lt (t_2 pane other) (z_is many 0 20)) u) := by
  obtain ⟨fp, hpa, hfp⟩ := CI_pa hC
  refine z_Xi_of _ _ h_st rfl rfl (Nat.le_of_ble_eq_true rfl) (fun X hl hG C ret thr prp => ?_)
  subst hl; subst hG
  have C : z_C X cX3_pour RX3 7 (z_rm 12 8 48) := C
  show z_W X Mw 0 0 0 [(0, .ref x), (1, .int pane), (2, .int other), (3, .int many)] []
  refine z_aload_n C dX3_pour_0 rfl 0 rfl ?_
  refine z_iload_n C dX3_pour_1 rfl 1 rfl ?_
  refine z_callXVr (rest := []) (k' := 1) (n' := 6) C (c_X3_paneOf (z_l X) (z_G X) h_st hC.1 hpa (CI_P hC hi) h_ip rfl (hfp _ hi)) (cs_X3_49 C (by decide)) hC.1 rfl rfl rfl rfl (Nat.le_of_ble_eq_true rfl) rfl rfl (by decide) (by decide) dX3_pour_2 (fun E M' hq => ?_) (fun x2 M' hq => ?_)
  · exact hq.elim
  · skip
    obtain ⟨rfl, rfl⟩ := hq
    refine z_astore (lv' := [(4, .ref (P pane.toNatClampNeg)), (0, .ref x), (1, .int pane), (2, .int other), (3, .int many)]) C dX3_pour_5 (by decide) rfl ?_
    refine z_aload_n C dX3_pour_7 rfl 1 rfl ?_
    refine z_iload_n C dX3_pour_8 rfl 3 rfl ?_
    refine z_callXVr (rest := []) (k' := 2) (n' := 12) C (c_X3_paneOf (z_l X) (z_G X) h_st hC.1 hpa (CI_P hC hi2) h_ip2 rfl (hfp _ hi2)) (cs_X3_49 C (by decide)) hC.1 rfl rfl rfl rfl (Nat.le_of_ble_eq_true rfl) rfl rfl (by decide) (by decide) dX3_pour_9 (fun E M' hq => ?_) (fun x9 M' hq => ?_)
    · exact hq.elim
    · skip
      obtain ⟨rfl, rfl⟩ := hq
      refine z_astore (lv' := [(5, .ref (P other.toNatClampNeg)), (4, .ref (P pane.toNatClampNeg)), (0, .ref x), (1, .int pane), (2, .int other), (3, .int many)]) C dX3_pour_12 (by decide) rfl ?_
      refine z_iload_n C dX3_pour_14 rfl 5 rfl ?_
      refine z_iconst C (v := 0) dX3_pour_15 (by decide) ?_
      refine z_bipush C (v := 20) dX3_pour_16 (by decide) ?_
      refine z_callXSv (rest := []) (k' := 3) (n' := 18) C (c_X3_needWithin (z_l X) (z_G X) h_st) (cs_X3_53 C (by decide)) rfl rfl (Nat.le_of_ble_eq_true rfl) rfl rfl (by decide) (by decide) dX3_pour_18 (fun E M' hq => ?_) (fun M' hq => ?_)
      · obtain ⟨cx18_0, rfl, rfl⟩ := hq
        exact prp (CX_2 (k_2 (show t_2 pane other = 1 from by unfold t_2; rw [h_ok, h_ok2]; decide) cx18_0) hC) (by decide) (by decide)
      · skip
        obtain ⟨d18_0, rfl⟩ := hq
        refine z_iconst C (v := 0) dX3_pour_21 (by decide) ?_
        refine z_istore (lv' := [(6, .int 0), (5, .ref (P other.toNatClampNeg)), (4, .ref (P pane.toNatClampNeg)), (0, .ref x), (1, .int pane), (2, .int other), (3, .int many)]) C dX3_pour_22 (by decide) rfl ?_
        refine z_at (M' := _) (lv' := [(6, .int (nI 0)), (5, .ref (P other.toNatClampNeg)), (4, .ref (P pane.toNatClampNeg)), (0, .ref x), (1, .int pane), (2, .int other), (3, .int many)]) rfl (by rw [nI_0]) rfl ?_
        refine lp_X3_pour C (by decide) (by decide) hi hi2 (z_rgN d18_0).1 (z_r20 d18_0) (fun Mq9 h9 => ?_) _ 0 u _ (Nat.zero_add _) hok hC rfl
        refine z_aload_n C dX3_pour_55 rfl 3 rfl ?_
        refine z_iload C dX3_pour_56 0 rfl ?_
        refine z_callVi (rest := []) (k' := 3) (n' := 18) C (c_X3_done (z_l X) (z_G X) h9.1) (cs_X3_66 C (by decide)) h9.1 rfl rfl rfl rfl (Nat.le_of_ble_eq_true rfl) rfl rfl (by decide) (by decide) dX3_pour_58 (fun x58 M' hq => ?_)
        obtain ⟨rfl, rfl⟩ := hq
        refine ret dX3_pour_61 rfl ?_ (by decide) (by decide)
        exact CP_ok (v := s_act (s_pour1 pane.toNatClampNeg other.toNatClampNeg many.toNatClampNeg 0 u).2) rfl (z_lt3 (show t_2 pane other = 1 from by unfold t_2; rw [h_ok, h_ok2]; decide) (z_is11 d18_0)) (CI_ak h9 _ _)
theorem a_X3_pour (l : Launch) (h_st : l.stackTraces = false) {G : zG} {u : sS} {x : Nat} {P RA VA : Nat → Nat} {pa sp ln rf sb : Nat} {Mw : zM} (hC : CI G u x P RA VA pa sp ln rf sb Mw) {t : Nat} (hok : s_ok t u) (pane other many : Int32) : z_Xi l G qX3_pour (z_rm 12 8 48) [.ref x, .int pane, .int other, .int many] Mw (CP G x pa sp ln rf sb (z_lt (t_2 pane other) (z_is many 0 20)) (s_pour u pane.toNatClampNeg other.toNatClampNeg many)) (CX G x pa sp ln rf sb (z_lt (t_2 pane other) (z_is many 0 20)) u) := by
  obtain ⟨fp, hpa, hfp⟩ := CI_pa hC
  rcases z_pc pane with ⟨h_ok, h_ip, hi⟩ | ⟨h_bad, h_nip⟩
  · rcases z_pc other with ⟨h_ok2, h_ip2, hi2⟩ | ⟨h_bad2, h_nip2⟩
    · exact g_X3_pour l h_st hC hok h_ok h_ip hi h_ok2 h_ip2 hi2
    · refine z_Xi_mono (c_X3_pour_bad2 l G h_st hC.1 hpa (CI_P hC hi) h_ip rfl (hfp _ hi) h_nip2) (fun r M' h => h.elim) ?_
      rintro E M' (⟨x0_0, rfl, rfl⟩ | ⟨x1_0, rfl, rfl⟩)
      · exact CX_1 (k_1 (by unfold t_2; rw [h_ok, h_bad2]; decide)) hC
      · exact CX_1 (k_1 (by unfold t_2; rw [h_ok, h_bad2]; decide)) hC
  · refine z_Xi_mono (c_X3_pour_bad l G h_st hC.1 hpa h_nip) (fun r M' h => h.elim) ?_
    rintro E M' (⟨x0_0, rfl, rfl⟩ | ⟨x1_0, rfl, rfl⟩)
    · exact CX_1 (k_1 (by unfold t_2; rw [h_bad]; exact if_pos rfl)) hC
    · exact CX_1 (k_1 (by unfold t_2; rw [h_bad]; exact if_pos rfl)) hC
set_option maxRecDepth 20000 in
theorem lp_X3_pack {X : zX} (C : z_C X cX3_pack RX3 5 (z_rm 12 8 48)) {x : Nat} {P RA VA : Nat → Nat} {pa sp ln rf sb : Nat} {t : Nat} {kc ks : Nat} (hkc : kc ≤ 8) (hks : ks ≤ 48) {i : Nat} (hi : i < 6) {pane cq : Int32} {mq : Nat} (hmn : cq = nI mq) (hmb : mq ≤ 16) {res : sS} (kk : ∀ M', CI (z_G X) res x P RA VA pa sp ln rf sb M' → z_W X M' kc ks 57 [(4, .int (nI mq)), (3, .int cq), (2, .ref (P i)), (0, .ref x), (1, .int pane)] []) : ∀ (d j : Nat) (u : sS) (Mw : zM), j + d = mq → s_ok t u → p_li (s_pn u i) - p_po (s_pn u i) = nI mq → CI (z_G X) u x P RA VA pa sp ln rf sb Mw → s_pack1 i d j u = res → z_W X Mw kc ks 27 [(4, .int (nI j)), (3, .int cq), (2, .ref (P i)), (0, .ref x), (1, .int pane)] [] := by
  intro d
  induction d with
  | zero =>
    intro j u Mw hj hok hl hC hres
    refine z_iload C dX3_pack_27 0 rfl ?_
    refine z_iload_n C dX3_pack_29 rfl 1 rfl ?_
    refine z_icmp_ge C (tgt := 57) dX3_pack_30 (by decide) (fun _ => ?_) (fun c30 => absurd (by rw [hmn]; exact nI_le (by omega) (by omega)) c30)
    have ejm : j = mq := by omega
    subst ejm
    subst hres
    exact kk _ hC
  | succ d ih =>
    intro j u Mw hj hok hl hC hres
    refine z_iload C dX3_pack_27 0 rfl ?_
    refine z_iload_n C dX3_pack_29 rfl 1 rfl ?_
    refine z_icmp_ge C (tgt := 57) dX3_pack_30 (by decide) (fun c30 => absurd c30 (by rw [hmn]; exact nI_ge (by omega) (by omega))) (fun _ => ?_)
    refine z_aload_n C dX3_pack_33 rfl 2 rfl ?_
    refine z_iload C dX3_pack_34 0 rfl ?_
    refine z_aload_n C dX3_pack_36 rfl 2 rfl ?_
    refine z_aload_n C dX3_pack_37 rfl 2 rfl ?_
    refine gf_X3_60 C (CI_P hC hi) dX3_pack_38 ?_
    refine z_iload C dX3_pack_41 0 rfl ?_
    refine z_iadd C dX3_pack_43 ?_
    refine z_callVi (rest := [.int (nI j), .ref (P i)]) (k' := kc) (n' := ks) C (a_X1_valueAt (z_l X) hC hok hi (s_pkI hok hi hl hmb (by omega)).2) (cs_X3_131 C (by decide)) (CI_P hC hi) rfl rfl rfl rfl (Nat.le_of_ble_eq_true rfl) rfl rfl hkc hks dX3_pack_44 (fun x44 Mq44 hq => ?_)
    obtain ⟨e44, rfl⟩ := hq
    rw [e44]
    refine z_callVi (rest := []) (k' := kc) (n' := ks) C (a_X1_replace (z_l X) hC hok hi _ (s_pkI hok hi hl hmb (by omega)).1) (cs_X3_127 C (by decide)) (CI_P hC hi) rfl rfl rfl rfl (Nat.le_of_ble_eq_true rfl) rfl rfl hkc hks dX3_pack_47 (fun x47 Mq47 hq => ?_)
    have hC47 := hq
    refine z_pop C dX3_pack_50 rfl ?_
    refine z_iinc (v := nI (j + 1)) (lv' := [(4, .int (nI (j + 1))), (3, .int cq), (2, .ref (P i)), (0, .ref x), (1, .int pane)]) C dX3_pack_51 0 rfl (nI_1 j) (by decide) rfl ?_
    refine z_goto C (tgt := 27) dX3_pack_54 (by decide) ?_
    exact ih (j + 1) _ _ (by omega) (s_ok_wr hok _ _ (s_v0 hok _ _)) hl hC47 hres
set_option maxRecDepth 20000 in
theorem c_X3_pack_bad (l : Launch) (G : zG) (h_st : l.stackTraces = false) {M : zM} {x : Nat} {pane : Int32} {lr : Nat} {pa : Nat} {sp : Nat} {ln : Nat} {rf : Nat} {ac : Int32} {kn : Int32} {fp : Nat → Option Nat}  (h_x : M x = some (cMp lr pa sp ln rf ac kn)) (h_pa : M pa = some (aP G 6 fp)) (h_ip : ¬ vp_in pane 6) : z_Xi l G qX3_pack (z_rm 12 8 48) [.ref x, .int pane] M (fun r M' => False) (fun E M' => ((pane < 0) ∧ E = "java/lang/IndexOutOfBoundsException" ∧ M' = M) ∨ ((¬ pane < 0) ∧ E = "java/lang/IndexOutOfBoundsException" ∧ M' = M)) := by
  refine z_Xi_of _ _ h_st rfl rfl (Nat.le_of_ble_eq_true rfl) (fun X hl hG C ret thr prp => ?_)
  subst hl; subst hG
  have C : z_C X cX3_pack RX3 5 (z_rm 12 8 48) := C
  show z_W X M 0 0 0 [(0, .ref x), (1, .int pane)] []
  refine z_aload_n C dX3_pack_0 rfl 0 rfl ?_
  refine z_iload_n C dX3_pack_1 rfl 1 rfl ?_
  refine z_callXVr (rest := []) (k' := 1) (n' := 6) C (c_X3_paneOf_bad (z_l X) (z_G X) h_st h_x h_pa h_ip) (cs_X3_49 C (by decide)) h_x rfl rfl rfl rfl (Nat.le_of_ble_eq_true rfl) rfl rfl (by decide) (by decide) dX3_pack_2 (fun E M' hq => ?_) (fun x2 M' hq => ?_)
  · obtain ⟨cx2_0, rfl, rfl⟩ | ⟨cx2_0, rfl, rfl⟩ := hq
    · exact prp (Or.inl ⟨cx2_0, rfl, rfl⟩) (by decide) (by decide)
    · exact prp (Or.inr (⟨cx2_0, rfl, rfl⟩)) (by decide) (by decide)
  · skip
    exact hq.elim
set_option maxRecDepth 20000 in
theorem g_X3_pack (l : Launch) (h_st : l.stackTraces = false) {G : zG} {u : sS} {x : Nat} {P RA VA : Nat → Nat} {pa sp ln rf sb : Nat} {Mw : zM} (hC : CI G u x P RA VA pa sp ln rf sb Mw) {t : Nat} (hok : s_ok t u) {pane : Int32} (h_ok : z_is pane 0 5 = 1) (h_ip : vp_in pane 6) (hi : pane.toNatClampNeg < 6) : z_Xi l G qX3_pack (z_rm 12 8 48) [.ref x, .int pane] Mw (CP G x pa sp ln rf sb (z_lt (z_is pane 0 5) 1) (s_pack u pane.toNatClampNeg)) (CX G x pa sp ln rf sb (z_lt (z_is pane 0 5) 1) u) := by
  obtain ⟨fp, hpa, hfp⟩ := CI_pa hC
  refine z_Xi_of _ _ h_st rfl rfl (Nat.le_of_ble_eq_true rfl) (fun X hl hG C ret thr prp => ?_)
  subst hl; subst hG
  have C : z_C X cX3_pack RX3 5 (z_rm 12 8 48) := C
  show z_W X Mw 0 0 0 [(0, .ref x), (1, .int pane)] []
  refine z_aload_n C dX3_pack_0 rfl 0 rfl ?_
  refine z_iload_n C dX3_pack_1 rfl 1 rfl ?_
  refine z_callXVr (rest := []) (k' := 1) (n' := 6) C (c_X3_paneOf (z_l X) (z_G X) h_st hC.1 hpa (CI_P hC hi) h_ip rfl (hfp _ hi)) (cs_X3_49 C (by decide)) hC.1 rfl rfl rfl rfl (Nat.le_of_ble_eq_true rfl) rfl rfl (by decide) (by decide) dX3_pack_2 (fun E M' hq => ?_) (fun x2 M' hq => ?_)
  · exact hq.elim
  · skip
    obtain ⟨rfl, rfl⟩ := hq
    refine z_astore_n (lv' := [(2, .ref (P pane.toNatClampNeg)), (0, .ref x), (1, .int pane)]) C dX3_pack_5 rfl (by decide) rfl ?_
    refine z_aload_n C dX3_pack_6 rfl 0 rfl ?_
    refine gf_X3_89 C (CI_P hC hi) dX3_pack_7 ?_
    refine z_if_eq C (tgt := 19) dX3_pack_10 (by decide) (fun c10 => ?_) (fun c10 => ?_)
    · refine z_aload_n C dX3_pack_19 rfl 0 rfl ?_
      refine z_callVi (rest := []) (k' := 1) (n' := 6) C (c_X1_left (z_l X) (z_G X) (CI_P hC hi)) (cs_X3_74 C (by decide)) (CI_P hC hi) rfl rfl rfl rfl (Nat.le_of_ble_eq_true rfl) rfl rfl (by decide) (by decide) dX3_pack_20 (fun x20 M' hq => ?_)
      obtain ⟨rfl, rfl⟩ := hq
      refine z_istore_n (lv' := [(3, .int ((p_li (s_pn u pane.toNatClampNeg)) - (p_po (s_pn u pane.toNatClampNeg)))), (2, .ref (P pane.toNatClampNeg)), (0, .ref x), (1, .int pane)]) C dX3_pack_23 rfl (by decide) rfl ?_
      refine z_iconst C (v := 0) dX3_pack_24 (by decide) ?_
      refine z_istore (lv' := [(4, .int 0), (3, .int ((p_li (s_pn u pane.toNatClampNeg)) - (p_po (s_pn u pane.toNatClampNeg)))), (2, .ref (P pane.toNatClampNeg)), (0, .ref x), (1, .int pane)]) C dX3_pack_25 (by decide) rfl ?_
      refine z_at (M' := _) (lv' := [(4, .int (nI 0)), (3, .int (p_li (s_pn u pane.toNatClampNeg) - p_po (s_pn u pane.toNatClampNeg))), (2, .ref (P pane.toNatClampNeg)), (0, .ref x), (1, .int pane)]) rfl (by rw [nI_0]) rfl ?_
      refine lp_X3_pack C (by decide) (by decide) hi (s_pkM hok hi).1 (s_pkM hok hi).2 (fun Mq9 h9 => ?_) _ 0 u _ (Nat.zero_add _) hok (s_pkM hok hi).1 hC rfl
      refine z_aload_n C dX3_pack_57 rfl 2 rfl ?_
      refine z_aload_n C dX3_pack_58 rfl 2 rfl ?_
      refine gf_X3_100 C (by have h8 := CI_P h9 hi; rw [(s_pack1_pn _ _ _).1] at h8; exact h8) dX3_pack_59 ?_
      refine z_callVv (rest := []) (k' := 1) (n' := 6) C (c_X1_beginAgain (z_l X) (z_G X) (by have h8 := CI_P h9 hi; rw [(s_pack1_pn _ _ _).1] at h8; exact h8)) (cs_X3_113 C (by decide)) (by have h8 := CI_P h9 hi; rw [(s_pack1_pn _ _ _).1] at h8; exact h8) rfl rfl rfl rfl (Nat.le_of_ble_eq_true rfl) rfl rfl (by decide) (by decide) dX3_pack_62 (fun M' hq => ?_)
      obtain rfl := hq
      refine z_aload_n C dX3_pack_65 rfl 2 rfl ?_
      refine z_iload_n C dX3_pack_66 rfl 1 rfl ?_
      refine pg_X3_60 C dX3_pack_67 ?_
      refine z_aload_n C dX3_pack_70 rfl 3 rfl ?_
      refine z_aload_n C dX3_pack_71 rfl 2 rfl ?_
      refine gf_X3_60 C (z_up_s _ _ _) dX3_pack_72 ?_
      refine z_callVi (rest := []) (k' := 1) (n' := 6) C (c_X3_done (z_l X) (z_G X) ((z_up_n _ _ (z_ne h9.1 (by have h8 := CI_P h9 hi; rw [(s_pack1_pn _ _ _).1] at h8; exact h8) (by intro h; cases h))).trans h9.1)) (cs_X3_66 C (by decide)) ((z_up_n _ _ (z_ne h9.1 (by have h8 := CI_P h9 hi; rw [(s_pack1_pn _ _ _).1] at h8; exact h8) (by intro h; cases h))).trans h9.1) rfl rfl rfl rfl (Nat.le_of_ble_eq_true rfl) rfl rfl (by decide) (by decide) dX3_pack_75 (fun x75 M' hq => ?_)
      obtain ⟨rfl, rfl⟩ := hq
      refine ret dX3_pack_78 rfl ?_ (by decide) (by decide)
      exact CP_ok (v := s_act (s_up (s_pack1 pane.toNatClampNeg (p_li (s_pn u pane.toNatClampNeg) - p_po (s_pn u pane.toNatClampNeg)).toNatClampNeg 0 u) pane.toNatClampNeg (p_po' (p_bg (s_pn u pane.toNatClampNeg) (p_cp (s_pn u pane.toNatClampNeg))) (p_li (s_pn u pane.toNatClampNeg) - p_po (s_pn u pane.toNatClampNeg))))) (by unfold s_pack; rw [if_neg ((s_rdn hok hi).mp c10)]) (z_lt3 h_ok rfl) (CI_ak (CI_pn h9 hi (p_po' (p_bg (s_pn u pane.toNatClampNeg) (p_cp (s_pn u pane.toNatClampNeg))) (p_li (s_pn u pane.toNatClampNeg) - p_po (s_pn u pane.toNatClampNeg)))) _ _)
    · refine z_aload_n C dX3_pack_13 rfl 1 rfl ?_
      refine z_iconst C (v := 4) dX3_pack_14 (by decide) ?_
      refine z_callVi (rest := []) (k' := 1) (n' := 6) C (c_X3_refuse (z_l X) (z_G X) hC.1 (CI_rf hC) (z_inL (by decide)) (show (4 : Int32).toNatClampNeg = 4 by decide)) (cs_X3_86 C (by decide)) hC.1 rfl rfl rfl rfl (Nat.le_of_ble_eq_true rfl) rfl rfl (by decide) (by decide) dX3_pack_15 (fun x15 M' hq => ?_)
      obtain ⟨rfl, rfl⟩ := hq
      refine ret dX3_pack_18 rfl ?_ (by decide) (by decide)
      exact CP_ok (v := s_tel u 4) (by unfold s_pack; rw [if_pos ((s_rdn' hok hi).mpr c10)]) (z_lt3 h_ok rfl) (CI_td hC _)
theorem a_X3_pack (l : Launch) (h_st : l.stackTraces = false) {G : zG} {u : sS} {x : Nat} {P RA VA : Nat → Nat} {pa sp ln rf sb : Nat} {Mw : zM} (hC : CI G u x P RA VA pa sp ln rf sb Mw) {t : Nat} (hok : s_ok t u) (pane : Int32) : z_Xi l G qX3_pack (z_rm 12 8 48) [.ref x, .int pane] Mw (CP G x pa sp ln rf sb (z_lt (z_is pane 0 5) 1) (s_pack u pane.toNatClampNeg)) (CX G x pa sp ln rf sb (z_lt (z_is pane 0 5) 1) u) := by
  obtain ⟨fp, hpa, hfp⟩ := CI_pa hC
  rcases z_pc pane with ⟨h_ok, h_ip, hi⟩ | ⟨h_bad, h_nip⟩
  · exact g_X3_pack l h_st hC hok h_ok h_ip hi
  · refine z_Xi_mono (c_X3_pack_bad l G h_st hC.1 hpa h_nip) (fun r M' h => h.elim) ?_
    rintro E M' (⟨x0_0, rfl, rfl⟩ | ⟨x1_0, rfl, rfl⟩)
    · exact CX_1 (k_1 h_bad) hC
    · exact CX_1 (k_1 h_bad) hC
