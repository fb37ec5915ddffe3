section
theorem z_n0 {x : Int32} {n : Nat} (h : x = nI n) (hn : n ≤ 16) (h0 : x ≤ 0) : n = 0 := by
  rw [h, z_le, nI_T (by omega), z_t0] at h0
  omega
theorem z_hi15 {x : Int32} {n : Nat} (hn : n = 16) : z_hi x (Int32.ofNat n) = 0 ↔ z_is x 0 15 = 0 := by
  subst hn
  exact z_hii (x := x) (l := Int32.ofNat 16) (by decide)
theorem z_hi1' {x : Int32} {n : Nat} (hn : n = 16) (h : ¬ z_hi x (Int32.ofNat n) = 0) : vp_in x n := by
  obtain ⟨h1, h2⟩ := z_hi1 h
  rw [show (Int32.ofNat n).toInt = n from nI_T (by omega)] at h2
  exact z_inT.mpr ⟨h1, h2⟩
theorem a_X1_replace' (l : Launch) {G : zG} {u : sS} {x : Nat} {P RA VA : Nat → Nat} {pa sp ln rf sb : Nat} {C : zM} (h : CI G u x P RA VA pa sp ln rf sb C) {t : Nat} (hok : s_ok t u) {i : Nat} (hi : i < 6) {y : Int32} (v : Int32) (hy : vp_in (p_sa (s_pn u i) + y) (s_ln u (p_ro (s_pn u i)))) : z_Mi l G qX1_replace (z_rm 3 0 0) [.ref (P i), .int y, .int v] C (fun r M' => r = s_val u (s_pn u i) y ∧ CI G (s_wr u (p_ro (s_pn u i)) (p_at (s_pn u i) y) v) x P RA VA pa sp ln rf sb M') := by
  refine z_Mi_mono (c_X1_replace l G (CI_P h hi) (CI_RA h (s_row hok hi)) (CI_VA h (s_row hok hi)) hy (z_owN (s_ow hok hi))) ?_
  rintro r M' ⟨hr9, rfl⟩
  exact ⟨hr9, CI_wr h (s_row hok hi) _ _⟩
theorem CI_new {G : zG} {u : sS} {x : Nat} {P RA VA : Nat → Nat} {pa sp ln rf sb : Nat} {C : zM} (h : CI G u x P RA VA pa sp ln rf sb C) {r q n : Nat} (hr : C r = none) (hq : C q = none) (hrq : r ≠ q) (hro : ∀ i, i < 6 → p_ro (s_pn u i) < s_nr u) (h0 : 0 < s_nr u) : CI G (s_new u n) x P (s_fu RA (s_nr u) r) (s_fu VA (s_nr u) q) pa sp ln rf sb (z_up (z_up C q (aI G n (fun _ => 0))) r (cRw q)) := by
  obtain ⟨hx, ⟨fp, hpa, hfp⟩, hP, ⟨o9, p9, hsp⟩, hRA, hVA, hrf, hln, ⟨vb, ml, ct, nn, f, hsb, hvb, hc⟩, iP, iS, iR, iV, iF⟩ := h
  have g : ∀ {b : Nat} {e : va_E}, C b = some e → z_up (z_up C q (aI G n (fun _ => 0))) r (cRw q) b = some e := fun hb => by
    rw [z_up_n _ _ (z_neN hb hr), z_up_n _ _ (z_neN hb hq)]; exact hb
  have er : ∀ s, s < s_nr u → s_fu RA (s_nr u) r s = RA s := fun s hs => s_fu_n _ _ (by omega)
  have ev : ∀ s, s < s_nr u → s_fu VA (s_nr u) q s = VA s := fun s hs => s_fu_n _ _ (by omega)
  have el : ∀ s, s < s_nr u → s_ln (s_new u n) s = s_ln u s := fun s hs => if_neg (by omega)
  have ew : ∀ s, s < s_nr u → s_vl (s_new u n) s = s_vl u s := fun s hs => if_neg (by omega)
  refine ⟨by rw [er 0 (by omega)]; exact g hx, ⟨fp, g hpa, hfp⟩, fun i hi => ?_, ⟨o9, p9, g hsp⟩, fun s hs => ?_, fun s hs => ?_, g hrf, g hln, ⟨vb, ml, ct, nn, f, g hsb, g hvb, hc.1, fun s hs => ?_, hc.2.2⟩, iP, iS, fun a b ha hb hab => ?_, fun a b ha hb hab => ?_, fun s hs => ?_⟩
  · show z_up (z_up C q (aI G n (fun _ => 0))) r (cRw q) (P i) = some (cPx (s_fu RA (s_nr u) r (p_ro (s_pn u i))) (s_pn u i))
    rw [er _ (hro i hi)]; exact g (hP i hi)
  · have hs : s < s_nr u + 1 := hs
    by_cases e : s = s_nr u
    · subst e; rw [s_fu_s, s_fu_s]; exact z_up_s _ _ _
    · rw [er s (by omega), ev s (by omega)]; exact g (hRA s (by omega))
  · have hs : s < s_nr u + 1 := hs
    by_cases e : s = s_nr u
    · subst e
      rw [s_fu_s, z_up_n _ _ hrq.symm, z_up_s]
      show some (aI G n _) = some (aI G (if s_nr u = s_nr u then n else s_ln u (s_nr u)) (if s_nr u = s_nr u then (fun _ => 0) else s_vl u (s_nr u)))
      rw [if_pos rfl, if_pos rfl]
    · rw [ev s (by omega), el s (by omega), ew s (by omega)]; exact g (hVA s (by omega))
  · have hs : s < s_nr u + 1 := hs
    by_cases e : s = s_nr u
    · subst e; rw [s_fu_s]; exact z_neN hvb hq
    · rw [ev s (by omega)]; exact hc.2.1 s (by omega)
  · have ha : a < s_nr u + 1 := ha
    have hb : b < s_nr u + 1 := hb
    by_cases ea : a = s_nr u
    · by_cases eb : b = s_nr u
      · omega
      · rw [ea, s_fu_s, er b (by omega)] at hab
        exact absurd hab.symm (z_neN (hRA b (by omega)) hr)
    · by_cases eb : b = s_nr u
      · rw [eb, s_fu_s, er a (by omega)] at hab
        exact absurd hab (z_neN (hRA a (by omega)) hr)
      · rw [er a (by omega), er b (by omega)] at hab
        exact iR a b (by omega) (by omega) hab
  · have ha : a < s_nr u + 1 := ha
    have hb : b < s_nr u + 1 := hb
    by_cases ea : a = s_nr u
    · by_cases eb : b = s_nr u
      · omega
      · rw [ea, s_fu_s, ev b (by omega)] at hab
        exact absurd hab.symm (z_neN (hVA b (by omega)) hq)
    · by_cases eb : b = s_nr u
      · rw [eb, s_fu_s, ev a (by omega)] at hab
        exact absurd hab (z_neN (hVA a (by omega)) hq)
      · rw [ev a (by omega), ev b (by omega)] at hab
        exact iV a b (by omega) (by omega) hab
  · have hs : s < s_nr u + 1 := hs
    by_cases e : s = s_nr u
    · subst e; rw [s_fu_s]; exact (z_neN hrf hq).symm
    · rw [ev s (by omega)]; exact iF s (by omega)
theorem dX2_init_0 : decode cX2_init 0 = .ok (.aload_n 0, 1) := by decide +kernel
theorem dX2_init_1 : decode cX2_init 1 = .ok (.invokespecial 1, 3) := by decide +kernel
theorem dX2_init_4 : decode cX2_init 4 = .ok (.aload_n 0, 1) := by decide +kernel
theorem dX2_init_5 : decode cX2_init 5 = .ok (.iload_n 1, 1) := by decide +kernel
theorem dX2_init_6 : decode cX2_init 6 = .ok (.ifCond .le 7, 3) := by decide +kernel
theorem dX2_init_9 : decode cX2_init 9 = .ok (.iload_n 1, 1) := by decide +kernel
theorem dX2_init_10 : decode cX2_init 10 = .ok (.goto 4, 3) := by decide +kernel
theorem dX2_init_13 : decode cX2_init 13 = .ok (.iconst 0, 1) := by decide +kernel
theorem dX2_init_14 : decode cX2_init 14 = .ok (.newarray .int, 2) := by decide +kernel
theorem dX2_init_16 : decode cX2_init 16 = .ok (.putfield 7, 3) := by decide +kernel
theorem dX2_init_19 : decode cX2_init 19 = .ok (.return_, 1) := by decide +kernel
theorem dX3_wrap_0 : decode cX3_wrap 0 = .ok (.aload_n 0, 1) := by decide +kernel
theorem dX3_wrap_1 : decode cX3_wrap 1 = .ok (.iload_n 1, 1) := by decide +kernel
theorem dX3_wrap_2 : decode cX3_wrap 2 = .ok (.invokevirtual 49, 3) := by decide +kernel
theorem dX3_wrap_5 : decode cX3_wrap 5 = .ok (.astore 4, 2) := by decide +kernel
theorem dX3_wrap_7 : decode cX3_wrap 7 = .ok (.iload_n 2, 1) := by decide +kernel
theorem dX3_wrap_8 : decode cX3_wrap 8 = .ok (.iconst 0, 1) := by decide +kernel
theorem dX3_wrap_9 : decode cX3_wrap 9 = .ok (.bipush 16, 2) := by decide +kernel
theorem dX3_wrap_11 : decode cX3_wrap 11 = .ok (.invokestatic 53, 3) := by decide +kernel
theorem dX3_wrap_14 : decode cX3_wrap 14 = .ok (.iload_n 3, 1) := by decide +kernel
theorem dX3_wrap_15 : decode cX3_wrap 15 = .ok (.iconst 0, 1) := by decide +kernel
theorem dX3_wrap_16 : decode cX3_wrap 16 = .ok (.bipush 16, 2) := by decide +kernel
theorem dX3_wrap_18 : decode cX3_wrap 18 = .ok (.iload_n 2, 1) := by decide +kernel
theorem dX3_wrap_19 : decode cX3_wrap 19 = .ok (.isub, 1) := by decide +kernel
theorem dX3_wrap_20 : decode cX3_wrap 20 = .ok (.invokestatic 53, 3) := by decide +kernel
theorem dX3_wrap_23 : decode cX3_wrap 23 = .ok (.aload 4, 2) := by decide +kernel
theorem dX3_wrap_25 : decode cX3_wrap 25 = .ok (.aload_n 0, 1) := by decide +kernel
theorem dX3_wrap_26 : decode cX3_wrap 26 = .ok (.getfield 14, 3) := by decide +kernel
theorem dX3_wrap_29 : decode cX3_wrap 29 = .ok (.invokevirtual 57, 3) := by decide +kernel
theorem dX3_wrap_32 : decode cX3_wrap 32 = .ok (.aload 4, 2) := by decide +kernel
theorem dX3_wrap_34 : decode cX3_wrap 34 = .ok (.iload_n 2, 1) := by decide +kernel
theorem dX3_wrap_35 : decode cX3_wrap 35 = .ok (.putfield 60, 3) := by decide +kernel
theorem dX3_wrap_38 : decode cX3_wrap 38 = .ok (.aload 4, 2) := by decide +kernel
theorem dX3_wrap_40 : decode cX3_wrap 40 = .ok (.iload_n 2, 1) := by decide +kernel
theorem dX3_wrap_41 : decode cX3_wrap 41 = .ok (.iload_n 3, 1) := by decide +kernel
theorem dX3_wrap_42 : decode cX3_wrap 42 = .ok (.iadd, 1) := by decide +kernel
theorem dX3_wrap_43 : decode cX3_wrap 43 = .ok (.putfield 63, 3) := by decide +kernel
theorem dX3_wrap_46 : decode cX3_wrap 46 = .ok (.aload_n 0, 1) := by decide +kernel
theorem dX3_wrap_47 : decode cX3_wrap 47 = .ok (.aload 4, 2) := by decide +kernel
theorem dX3_wrap_49 : decode cX3_wrap 49 = .ok (.getfield 63, 3) := by decide +kernel
theorem dX3_wrap_52 : decode cX3_wrap 52 = .ok (.invokevirtual 66, 3) := by decide +kernel
theorem dX3_wrap_55 : decode cX3_wrap 55 = .ok (.ireturn, 1) := by decide +kernel
theorem dX3_bring_0 : decode cX3_bring 0 = .ok (.aload_n 0, 1) := by decide +kernel
theorem dX3_bring_1 : decode cX3_bring 1 = .ok (.iload_n 1, 1) := by decide +kernel
theorem dX3_bring_2 : decode cX3_bring 2 = .ok (.invokevirtual 49, 3) := by decide +kernel
theorem dX3_bring_5 : decode cX3_bring 5 = .ok (.astore 5, 2) := by decide +kernel
theorem dX3_bring_7 : decode cX3_bring 7 = .ok (.aload_n 0, 1) := by decide +kernel
theorem dX3_bring_8 : decode cX3_bring 8 = .ok (.iload_n 3, 1) := by decide +kernel
theorem dX3_bring_9 : decode cX3_bring 9 = .ok (.invokevirtual 49, 3) := by decide +kernel
theorem dX3_bring_12 : decode cX3_bring 12 = .ok (.astore 6, 2) := by decide +kernel
theorem dX3_bring_14 : decode cX3_bring 14 = .ok (.aload 6, 2) := by decide +kernel
theorem dX3_bring_16 : decode cX3_bring 16 = .ok (.iload 4, 2) := by decide +kernel
theorem dX3_bring_18 : decode cX3_bring 18 = .ok (.invokevirtual 123, 3) := by decide +kernel
theorem dX3_bring_21 : decode cX3_bring 21 = .ok (.ifCond .eq 12, 3) := by decide +kernel
theorem dX3_bring_24 : decode cX3_bring 24 = .ok (.aload 5, 2) := by decide +kernel
theorem dX3_bring_26 : decode cX3_bring 26 = .ok (.iload_n 2, 1) := by decide +kernel
theorem dX3_bring_27 : decode cX3_bring 27 = .ok (.invokevirtual 123, 3) := by decide +kernel
theorem dX3_bring_30 : decode cX3_bring 30 = .ok (.ifCond .ne 9, 3) := by decide +kernel
theorem dX3_bring_33 : decode cX3_bring 33 = .ok (.aload_n 0, 1) := by decide +kernel
theorem dX3_bring_34 : decode cX3_bring 34 = .ok (.iconst 5, 1) := by decide +kernel
theorem dX3_bring_35 : decode cX3_bring 35 = .ok (.invokevirtual 86, 3) := by decide +kernel
theorem dX3_bring_38 : decode cX3_bring 38 = .ok (.ireturn, 1) := by decide +kernel
theorem dX3_bring_39 : decode cX3_bring 39 = .ok (.aload 5, 2) := by decide +kernel
theorem dX3_bring_41 : decode cX3_bring 41 = .ok (.getfield 89, 3) := by decide +kernel
theorem dX3_bring_44 : decode cX3_bring 44 = .ok (.ifCond .eq 9, 3) := by decide +kernel
theorem dX3_bring_47 : decode cX3_bring 47 = .ok (.aload_n 0, 1) := by decide +kernel
theorem dX3_bring_48 : decode cX3_bring 48 = .ok (.iconst 4, 1) := by decide +kernel
theorem dX3_bring_49 : decode cX3_bring 49 = .ok (.invokevirtual 86, 3) := by decide +kernel
theorem dX3_bring_52 : decode cX3_bring 52 = .ok (.ireturn, 1) := by decide +kernel
theorem dX3_bring_53 : decode cX3_bring 53 = .ok (.aload_n 0, 1) := by decide +kernel
theorem dX3_bring_54 : decode cX3_bring 54 = .ok (.aload 5, 2) := by decide +kernel
theorem dX3_bring_56 : decode cX3_bring 56 = .ok (.iload_n 2, 1) := by decide +kernel
theorem dX3_bring_57 : decode cX3_bring 57 = .ok (.aload 6, 2) := by decide +kernel
theorem dX3_bring_59 : decode cX3_bring 59 = .ok (.iload 4, 2) := by decide +kernel
theorem dX3_bring_61 : decode cX3_bring 61 = .ok (.invokevirtual 131, 3) := by decide +kernel
theorem dX3_bring_64 : decode cX3_bring 64 = .ok (.invokevirtual 127, 3) := by decide +kernel
theorem dX3_bring_67 : decode cX3_bring 67 = .ok (.invokevirtual 66, 3) := by decide +kernel
theorem dX3_bring_70 : decode cX3_bring 70 = .ok (.ireturn, 1) := by decide +kernel
theorem dX3_lay_0 : decode cX3_lay 0 = .ok (.aload_n 0, 1) := by decide +kernel
theorem dX3_lay_1 : decode cX3_lay 1 = .ok (.getfield 14, 3) := by decide +kernel
theorem dX3_lay_4 : decode cX3_lay 4 = .ok (.iload_n 1, 1) := by decide +kernel
theorem dX3_lay_5 : decode cX3_lay 5 = .ok (.invokevirtual 139, 3) := by decide +kernel
theorem dX3_lay_8 : decode cX3_lay 8 = .ok (.ifCond .ne 13, 3) := by decide +kernel
theorem dX3_lay_11 : decode cX3_lay 11 = .ok (.new 142, 3) := by decide +kernel
theorem dX3_lay_14 : decode cX3_lay 14 = .ok (.dup, 1) := by decide +kernel
theorem dX3_lay_15 : decode cX3_lay 15 = .ok (.ldc 144, 2) := by decide +kernel
theorem dX3_lay_17 : decode cX3_lay 17 = .ok (.invokespecial 146, 3) := by decide +kernel
theorem dX3_lay_20 : decode cX3_lay 20 = .ok (.athrow, 1) := by decide +kernel
theorem dX3_lay_21 : decode cX3_lay 21 = .ok (.iload_n 2, 1) := by decide +kernel
theorem dX3_lay_22 : decode cX3_lay 22 = .ok (.invokestatic 116, 3) := by decide +kernel
theorem dX3_lay_25 : decode cX3_lay 25 = .ok (.aload_n 0, 1) := by decide +kernel
theorem dX3_lay_26 : decode cX3_lay 26 = .ok (.aload_n 0, 1) := by decide +kernel
theorem dX3_lay_27 : decode cX3_lay 27 = .ok (.getfield 14, 3) := by decide +kernel
theorem dX3_lay_30 : decode cX3_lay 30 = .ok (.iload_n 1, 1) := by decide +kernel
theorem dX3_lay_31 : decode cX3_lay 31 = .ok (.iload_n 2, 1) := by decide +kernel
theorem dX3_lay_32 : decode cX3_lay 32 = .ok (.invokevirtual 149, 3) := by decide +kernel
theorem dX3_lay_35 : decode cX3_lay 35 = .ok (.invokevirtual 66, 3) := by decide +kernel
theorem dX3_lay_38 : decode cX3_lay 38 = .ok (.ireturn, 1) := by decide +kernel
theorem dX3_fresh_0 : decode cX3_fresh 0 = .ok (.aload_n 0, 1) := by decide +kernel
theorem dX3_fresh_1 : decode cX3_fresh 1 = .ok (.iload_n 1, 1) := by decide +kernel
theorem dX3_fresh_2 : decode cX3_fresh 2 = .ok (.invokevirtual 49, 3) := by decide +kernel
theorem dX3_fresh_5 : decode cX3_fresh 5 = .ok (.astore_n 3, 1) := by decide +kernel
theorem dX3_fresh_6 : decode cX3_fresh 6 = .ok (.iload_n 2, 1) := by decide +kernel
theorem dX3_fresh_7 : decode cX3_fresh 7 = .ok (.iconst 0, 1) := by decide +kernel
theorem dX3_fresh_8 : decode cX3_fresh 8 = .ok (.bipush 12, 2) := by decide +kernel
theorem dX3_fresh_10 : decode cX3_fresh 10 = .ok (.invokestatic 53, 3) := by decide +kernel
theorem dX3_fresh_13 : decode cX3_fresh 13 = .ok (.aload_n 3, 1) := by decide +kernel
theorem dX3_fresh_14 : decode cX3_fresh 14 = .ok (.new 7, 3) := by decide +kernel
theorem dX3_fresh_17 : decode cX3_fresh 17 = .ok (.dup, 1) := by decide +kernel
theorem dX3_fresh_18 : decode cX3_fresh 18 = .ok (.iload_n 2, 1) := by decide +kernel
theorem dX3_fresh_19 : decode cX3_fresh 19 = .ok (.invokespecial 11, 3) := by decide +kernel
theorem dX3_fresh_22 : decode cX3_fresh 22 = .ok (.invokevirtual 57, 3) := by decide +kernel
theorem dX3_fresh_25 : decode cX3_fresh 25 = .ok (.aload_n 0, 1) := by decide +kernel
theorem dX3_fresh_26 : decode cX3_fresh 26 = .ok (.aload_n 3, 1) := by decide +kernel
theorem dX3_fresh_27 : decode cX3_fresh 27 = .ok (.getfield 63, 3) := by decide +kernel
theorem dX3_fresh_30 : decode cX3_fresh 30 = .ok (.invokevirtual 66, 3) := by decide +kernel
theorem dX3_fresh_33 : decode cX3_fresh 33 = .ok (.ireturn, 1) := by decide +kernel
set_option maxRecDepth 20000 in
theorem c_X2_init (l : Launch) (G : zG) {M : zM} {r : Nat} {ln : Int32} {nq : Nat} (h_r : M r = some (.inr (6, [.null]))) (h_ln : ln = nI nq) (h_nq : nq ≤ 16) : z_Mv l G qX2_init (z_rm 2 1 16) [.ref r, .int ln] M (fun M' => ∃ q : Nat, M q = none ∧ M' = z_up (z_up M q (aI G nq (fun _ => 0))) r (cRw q))  := by
  refine z_Mv_of _ (plainFor_of_name rfl) rfl (Nat.le_of_ble_eq_true rfl) (fun X hl hG hnm C ret => ?_)
  subst hl; subst hG
  have C : z_C X cX2_init RX2 2 (z_rm 2 1 16) := C
  show z_W X M 0 0 0 [(0, .ref r), (1, .int ln)] []
  refine z_aload_n C dX2_init_0 rfl 0 rfl ?_
  refine z_objInit (rest := []) C kw39 kw32 kw33 (by decide) (Nat.le_of_ble_eq_true rfl) dX2_init_1 ?_
  refine z_aload_n C dX2_init_4 rfl 0 rfl ?_
  refine z_iload_n C dX2_init_5 rfl 1 rfl ?_
  refine z_if_le C (tgt := 13) dX2_init_6 (by decide) (fun c6 => ?_) (fun c6 => ?_)
  · refine z_iconst C (v := 0) dX2_init_13 (by decide) ?_
    refine z_newI (N := nq) C kw44 (by decide) (by rw [show nq = 0 from z_n0 h_ln h_nq c6]; decide) (by omega) (by decide) (by show 0 + nq ≤ 16; omega) dX2_init_14 (fun q14 hq14 => ?_)
    refine z_kn (k' := 1) (n' := 0 + nq) rfl rfl ?_
    refine pr_X2_7 C hnm rfl rfl ((z_up_n _ _ (z_neN h_r hq14)).trans h_r) dX2_init_16 ?_
    refine ret dX2_init_19 ?_ (by decide) (by show 0 + nq ≤ 16; omega)
    exact ⟨q14, hq14, rfl⟩
  · refine z_iload_n C dX2_init_9 rfl 1 rfl ?_
    refine z_goto C (tgt := 14) dX2_init_10 (by decide) ?_
    refine z_newI (N := nq) C kw44 (by rw [h_ln]; exact nI_pos (by omega)) (by rw [h_ln]; exact nI_clamp (by omega)) (by omega) (by decide) (by show 0 + nq ≤ 16; omega) dX2_init_14 (fun q14 hq14 => ?_)
    refine z_kn (k' := 1) (n' := 0 + nq) rfl rfl ?_
    refine pr_X2_7 C hnm rfl rfl ((z_up_n _ _ (z_neN h_r hq14)).trans h_r) dX2_init_16 ?_
    refine ret dX2_init_19 ?_ (by decide) (by show 0 + nq ≤ 16; omega)
    exact ⟨q14, hq14, rfl⟩
set_option maxRecDepth 20000 in
theorem c_X3_wrap_bad (l : Launch) (G : zG) (h_st : l.stackTraces = false) {M : zM} {x : Nat} {pane : Int32} {fr : Int32} {mq : Int32} {lr : Nat} {pa : Nat} {sp : Nat} {ln : Nat} {rf : Nat} {ac : Int32} {kn : Int32} {fp : Nat → Option Nat}  (h_x : M x = some (cMp lr pa sp ln rf ac kn)) (h_pa : M pa = some (aP G 6 fp)) (h_ip : ¬ vp_in pane 6) : z_Xi l G qX3_wrap (z_rm 12 8 48) [.ref x, .int pane, .int fr, .int mq] M (fun r M' => False) (fun E M' => ((pane < 0) ∧ E = "java/lang/IndexOutOfBoundsException" ∧ M' = M) ∨ ((¬ pane < 0) ∧ E = "java/lang/IndexOutOfBoundsException" ∧ M' = M)) := by
  refine z_Xi_of _ _ h_st rfl rfl (Nat.le_of_ble_eq_true rfl) (fun X hl hG C ret thr prp => ?_)
  subst hl; subst hG
  have C : z_C X cX3_wrap RX3 5 (z_rm 12 8 48) := C
  show z_W X M 0 0 0 [(0, .ref x), (1, .int pane), (2, .int fr), (3, .int mq)] []
  refine z_aload_n C dX3_wrap_0 rfl 0 rfl ?_
  refine z_iload_n C dX3_wrap_1 rfl 1 rfl ?_
  refine z_callXVr (rest := []) (k' := 1) (n' := 6) C (c_X3_paneOf_bad (z_l X) (z_G X) h_st h_x h_pa h_ip) (cs_X3_49 C (by decide)) h_x rfl rfl rfl rfl (Nat.le_of_ble_eq_true rfl) rfl rfl (by decide) (by decide) dX3_wrap_2 (fun E M' hq => ?_) (fun x2 M' hq => ?_)
  · obtain ⟨cx2_0, rfl, rfl⟩ | ⟨cx2_0, rfl, rfl⟩ := hq
    · exact prp (Or.inl ⟨cx2_0, rfl, rfl⟩) (by decide) (by decide)
    · exact prp (Or.inr (⟨cx2_0, rfl, rfl⟩)) (by decide) (by decide)
  · skip
    exact hq.elim
set_option maxRecDepth 20000 in
theorem g_X3_wrap (l : Launch) (h_st : l.stackTraces = false) {G : zG} {u : sS} {x : Nat} {P RA VA : Nat → Nat} {pa sp ln rf sb : Nat} {Mw : zM} (hC : CI G u x P RA VA pa sp ln rf sb Mw) {t : Nat} (hok : s_ok t u) {pane fr mq : Int32} (h_ok : z_is pane 0 5 = 1) (h_ip : vp_in pane 6) (hi : pane.toNatClampNeg < 6) : z_Xi l G qX3_wrap (z_rm 12 8 48) [.ref x, .int pane, .int fr, .int mq] Mw (CP G x pa sp ln rf sb (z_lt (z_is pane 0 5) (t_and (z_is fr 0 16) (z_is mq 0 (16 - fr)))) (s_wrap u pane.toNatClampNeg fr mq)) (CX G x pa sp ln rf sb (z_lt (z_is pane 0 5) (t_and (z_is fr 0 16) (z_is mq 0 (16 - fr)))) u) := by
  obtain ⟨fp, hpa, hfp⟩ := CI_pa hC
  refine z_Xi_of _ _ h_st rfl rfl (Nat.le_of_ble_eq_true rfl) (fun X hl hG C ret thr prp => ?_)
  subst hl; subst hG
  have C : z_C X cX3_wrap RX3 5 (z_rm 12 8 48) := C
  show z_W X Mw 0 0 0 [(0, .ref x), (1, .int pane), (2, .int fr), (3, .int mq)] []
  refine z_aload_n C dX3_wrap_0 rfl 0 rfl ?_
  refine z_iload_n C dX3_wrap_1 rfl 1 rfl ?_
  refine z_callXVr (rest := []) (k' := 1) (n' := 6) C (c_X3_paneOf (z_l X) (z_G X) h_st hC.1 hpa (CI_P hC hi) h_ip rfl (hfp _ hi)) (cs_X3_49 C (by decide)) hC.1 rfl rfl rfl rfl (Nat.le_of_ble_eq_true rfl) rfl rfl (by decide) (by decide) dX3_wrap_2 (fun E M' hq => ?_) (fun x2 M' hq => ?_)
  · exact hq.elim
  · skip
    obtain ⟨rfl, rfl⟩ := hq
    refine z_astore (lv' := [(4, .ref (P pane.toNatClampNeg)), (0, .ref x), (1, .int pane), (2, .int fr), (3, .int mq)]) C dX3_wrap_5 (by decide) rfl ?_
    refine z_iload_n C dX3_wrap_7 rfl 3 rfl ?_
    refine z_iconst C (v := 0) dX3_wrap_8 (by decide) ?_
    refine z_bipush C (v := 16) dX3_wrap_9 (by decide) ?_
    refine z_callXSv (rest := []) (k' := 2) (n' := 12) C (c_X3_needWithin (z_l X) (z_G X) h_st) (cs_X3_53 C (by decide)) rfl rfl (Nat.le_of_ble_eq_true rfl) rfl rfl (by decide) (by decide) dX3_wrap_11 (fun E M' hq => ?_) (fun M' hq => ?_)
    · obtain ⟨cx11_0, rfl, rfl⟩ := hq
      exact prp (CX_2 (k_2 h_ok (by simp [t_and, cx11_0])) hC) (by decide) (by decide)
    · skip
      obtain ⟨d11_0, rfl⟩ := hq
      refine z_iload_n C dX3_wrap_14 rfl 4 rfl ?_
      refine z_iconst C (v := 0) dX3_wrap_15 (by decide) ?_
      refine z_bipush C (v := 16) dX3_wrap_16 (by decide) ?_
      refine z_iload_n C dX3_wrap_18 rfl 3 rfl ?_
      refine z_isub C dX3_wrap_19 ?_
      refine z_callXSv (rest := []) (k' := 3) (n' := 18) C (c_X3_needWithin (z_l X) (z_G X) h_st) (cs_X3_53 C (by decide)) rfl rfl (Nat.le_of_ble_eq_true rfl) rfl rfl (by decide) (by decide) dX3_wrap_20 (fun E M' hq => ?_) (fun M' hq => ?_)
      · obtain ⟨cx20_0, rfl, rfl⟩ := hq
        exact prp (CX_2 (k_2 h_ok (by simp [t_and, d11_0, cx20_0])) hC) (by decide) (by decide)
      · skip
        obtain ⟨d20_0, rfl⟩ := hq
        refine z_aload C dX3_wrap_23 0 rfl ?_
        refine z_aload_n C dX3_wrap_25 rfl 1 rfl ?_
        refine gf_X3_14 C hC.1 dX3_wrap_26 ?_
        refine z_callVv (rest := []) (k' := 3) (n' := 18) C (c_X1_showAll (z_l X) (z_G X) (CI_P hC hi) (CI_RA hC (by have := hok.1; omega)) (CI_VA hC (by have := hok.1; omega))) (cs_X3_57 C (by decide)) (CI_P hC hi) rfl rfl rfl rfl (Nat.le_of_ble_eq_true rfl) rfl rfl (by decide) (by decide) dX3_wrap_29 (fun M' hq => ?_)
        obtain rfl := hq
        refine z_aload C dX3_wrap_32 0 rfl ?_
        refine z_iload_n C dX3_wrap_34 rfl 3 rfl ?_
        refine pg_X3_60 C dX3_wrap_35 ?_
        refine z_aload C dX3_wrap_38 0 rfl ?_
        refine z_iload_n C dX3_wrap_40 rfl 3 rfl ?_
        refine z_iload_n C dX3_wrap_41 rfl 4 rfl ?_
        refine z_iadd C dX3_wrap_42 ?_
        refine pg_X3_63 C dX3_wrap_43 ?_
        refine z_aload_n C dX3_wrap_46 rfl 1 rfl ?_
        refine z_aload C dX3_wrap_47 0 rfl ?_
        refine gf_X3_63 C (z_up_s _ _ _) dX3_wrap_49 ?_
        refine z_callVi (rest := []) (k' := 3) (n' := 18) C (c_X3_done (z_l X) (z_G X) ((z_up_n _ _ (z_ne hC.1 (CI_P hC hi) (by intro h; cases h))).trans hC.1)) (cs_X3_66 C (by decide)) ((z_up_n _ _ (z_ne hC.1 (CI_P hC hi) (by intro h; cases h))).trans hC.1) rfl rfl rfl rfl (Nat.le_of_ble_eq_true rfl) rfl rfl (by decide) (by decide) dX3_wrap_52 (fun x52 M' hq => ?_)
        obtain ⟨rfl, rfl⟩ := hq
        refine ret dX3_wrap_55 rfl ?_ (by decide) (by decide)
        rw [show s_ln u 0 = 16 from hok.2.2.1]
        exact CP_ok (v := s_act (s_up u pane.toNatClampNeg ((0, 0, 16, fr, fr + mq, -1, 0) : sP))) rfl (z_lt3 h_ok (by simp [t_and, d11_0, z_is11 d20_0])) (CI_ak (CI_pn hC hi ((0, 0, 16, fr, fr + mq, -1, 0) : sP)) _ _)
theorem a_X3_wrap (l : Launch) (h_st : l.stackTraces = false) {G : zG} {u : sS} {x : Nat} {P RA VA : Nat → Nat} {pa sp ln rf sb : Nat} {Mw : zM} (hC : CI G u x P RA VA pa sp ln rf sb Mw) {t : Nat} (hok : s_ok t u) (pane fr mq : Int32) : z_Xi l G qX3_wrap (z_rm 12 8 48) [.ref x, .int pane, .int fr, .int mq] Mw (CP G x pa sp ln rf sb (z_lt (z_is pane 0 5) (t_and (z_is fr 0 16) (z_is mq 0 (16 - fr)))) (s_wrap u pane.toNatClampNeg fr mq)) (CX G x pa sp ln rf sb (z_lt (z_is pane 0 5) (t_and (z_is fr 0 16) (z_is mq 0 (16 - fr)))) u) := by
  obtain ⟨fp, hpa, hfp⟩ := CI_pa hC
  rcases z_pc pane with ⟨h_ok, h_ip, hi⟩ | ⟨h_bad, h_nip⟩
  · exact g_X3_wrap l h_st hC hok h_ok h_ip hi
  · refine z_Xi_mono (c_X3_wrap_bad l G h_st hC.1 hpa h_nip) (fun r M' h => h.elim) ?_
    rintro E M' (⟨x0_0, rfl, rfl⟩ | ⟨x1_0, rfl, rfl⟩)
    · exact CX_1 (k_1 h_bad) hC
    · exact CX_1 (k_1 h_bad) hC
set_option maxRecDepth 20000 in
theorem c_X3_bring_bad (l : Launch) (G : zG) (h_st : l.stackTraces = false) {M : zM} {x : Nat} {pane : Int32} {ix : Int32} {other : Int32} {fr : Int32} {lr : Nat} {pa : Nat} {sp : Nat} {ln : Nat} {rf : Nat} {ac : Int32} {kn : Int32} {fp : Nat → Option Nat}  (h_x : M x = some (cMp lr pa sp ln rf ac kn)) (h_pa : M pa = some (aP G 6 fp)) (h_ip : ¬ vp_in pane 6) : z_Xi l G qX3_bring (z_rm 12 8 48) [.ref x, .int pane, .int ix, .int other, .int fr] M (fun r M' => False) (fun E M' => ((pane < 0) ∧ E = "java/lang/IndexOutOfBoundsException" ∧ M' = M) ∨ ((¬ pane < 0) ∧ E = "java/lang/IndexOutOfBoundsException" ∧ M' = M)) := by
  refine z_Xi_of _ _ h_st rfl rfl (Nat.le_of_ble_eq_true rfl) (fun X hl hG C ret thr prp => ?_)
  subst hl; subst hG
  have C : z_C X cX3_bring RX3 7 (z_rm 12 8 48) := C
  show z_W X M 0 0 0 [(0, .ref x), (1, .int pane), (2, .int ix), (3, .int other), (4, .int fr)] []
  refine z_aload_n C dX3_bring_0 rfl 0 rfl ?_
  refine z_iload_n C dX3_bring_1 rfl 1 rfl ?_
  refine z_callXVr (rest := []) (k' := 1) (n' := 6) C (c_X3_paneOf_bad (z_l X) (z_G X) h_st h_x h_pa h_ip) (cs_X3_49 C (by decide)) h_x rfl rfl rfl rfl (Nat.le_of_ble_eq_true rfl) rfl rfl (by decide) (by decide) dX3_bring_2 (fun E M' hq => ?_) (fun x2 M' hq => ?_)
  · obtain ⟨cx2_0, rfl, rfl⟩ | ⟨cx2_0, rfl, rfl⟩ := hq
    · exact prp (Or.inl ⟨cx2_0, rfl, rfl⟩) (by decide) (by decide)
    · exact prp (Or.inr (⟨cx2_0, rfl, rfl⟩)) (by decide) (by decide)
  · skip
    exact hq.elim
set_option maxRecDepth 20000 in
theorem c_X3_bring_bad2 (l : Launch) (G : zG) (h_st : l.stackTraces = false) {M : zM} {x : Nat} {pane : Int32} {ix : Int32} {other : Int32} {fr : Int32} {lr : Nat} {pa : Nat} {sp : Nat} {ln : Nat} {rf : Nat} {ac : Int32} {kn : Int32} {fp : Nat → Option Nat} {p : Nat} {ov : Nat} {sa : Int32} {cp : Int32} {po : Int32} {li : Int32} {mk : Int32} {rd : Int32} {i : Nat} (h_x : M x = some (cMp lr pa sp ln rf ac kn)) (h_pa : M pa = some (aP G 6 fp)) (h_p : M p = some (cPn ov sa cp po li mk rd)) (h_ip : vp_in pane 6) (h_ij : pane.toNatClampNeg = i) (h_fp : fp i = some p) (h_ip2 : ¬ vp_in other 6) : z_Xi l G qX3_bring (z_rm 12 8 48) [.ref x, .int pane, .int ix, .int other, .int fr] M (fun r M' => False) (fun E M' => ((other < 0) ∧ E = "java/lang/IndexOutOfBoundsException" ∧ M' = M) ∨ ((¬ other < 0) ∧ E = "java/lang/IndexOutOfBoundsException" ∧ M' = M)) := by
  refine z_Xi_of _ _ h_st rfl rfl (Nat.le_of_ble_eq_true rfl) (fun X hl hG C ret thr prp => ?_)
  subst hl; subst hG
  have C : z_C X cX3_bring RX3 7 (z_rm 12 8 48) := C
  show z_W X M 0 0 0 [(0, .ref x), (1, .int pane), (2, .int ix), (3, .int other), (4, .int fr)] []
  refine z_aload_n C dX3_bring_0 rfl 0 rfl ?_
  refine z_iload_n C dX3_bring_1 rfl 1 rfl ?_
  refine z_callXVr (rest := []) (k' := 1) (n' := 6) C (c_X3_paneOf (z_l X) (z_G X) h_st h_x h_pa h_p h_ip h_ij h_fp) (cs_X3_49 C (by decide)) h_x rfl rfl rfl rfl (Nat.le_of_ble_eq_true rfl) rfl rfl (by decide) (by decide) dX3_bring_2 (fun E M' hq => ?_) (fun x2 M' hq => ?_)
  · exact hq.elim
  · skip
    obtain ⟨hr2, rfl⟩ := hq
    rw [hr2]
    refine z_astore (lv' := [(5, .ref p), (0, .ref x), (1, .int pane), (2, .int ix), (3, .int other), (4, .int fr)]) C dX3_bring_5 (by decide) rfl ?_
    refine z_aload_n C dX3_bring_7 rfl 1 rfl ?_
    refine z_iload_n C dX3_bring_8 rfl 4 rfl ?_
    refine z_callXVr (rest := []) (k' := 2) (n' := 12) C (c_X3_paneOf_bad (z_l X) (z_G X) h_st h_x h_pa h_ip2) (cs_X3_49 C (by decide)) h_x rfl rfl rfl rfl (Nat.le_of_ble_eq_true rfl) rfl rfl (by decide) (by decide) dX3_bring_9 (fun E M' hq => ?_) (fun x9 M' hq => ?_)
    · obtain ⟨cx9_0, rfl, rfl⟩ | ⟨cx9_0, rfl, rfl⟩ := hq
      · exact prp (Or.inl ⟨cx9_0, rfl, rfl⟩) (by decide) (by decide)
      · exact prp (Or.inr (⟨cx9_0, rfl, rfl⟩)) (by decide) (by decide)
    · skip
      exact hq.elim
set_option maxRecDepth 20000 in
theorem g_X3_bring (l : Launch) (h_st : l.stackTraces = false) {G : zG} {u : sS} {x : Nat} {P RA VA : Nat → Nat} {pa sp ln rf sb : Nat} {Mw : zM} (hC : CI G u x P RA VA pa sp ln rf sb Mw) {t : Nat} (hok : s_ok t u) {pane ix other fr : Int32} (h_ok : z_is pane 0 5 = 1) (h_ip : vp_in pane 6) (hi : pane.toNatClampNeg < 6) (h_ok2 : z_is other 0 5 = 1) (h_ip2 : vp_in other 6) (hi2 : other.toNatClampNeg < 6) : z_Xi l G qX3_bring (z_rm 12 8 48) [.ref x, .int pane, .int ix, .int other, .int fr] Mw (CP G x pa sp ln rf sb (z_lt (t_2 pane other) 1) (s_bring u pane.toNatClampNeg other.toNatClampNeg ix fr)) (CX G x pa sp ln rf sb (z_lt (t_2 pane other) 1) u) := by
  obtain ⟨fp, hpa, hfp⟩ := CI_pa hC
  refine z_Xi_of _ _ h_st rfl rfl (Nat.le_of_ble_eq_true rfl) (fun X hl hG C ret thr prp => ?_)
  subst hl; subst hG
  have C : z_C X cX3_bring RX3 7 (z_rm 12 8 48) := C
  show z_W X Mw 0 0 0 [(0, .ref x), (1, .int pane), (2, .int ix), (3, .int other), (4, .int fr)] []
  refine z_aload_n C dX3_bring_0 rfl 0 rfl ?_
  refine z_iload_n C dX3_bring_1 rfl 1 rfl ?_
  refine z_callXVr (rest := []) (k' := 1) (n' := 6) C (c_X3_paneOf (z_l X) (z_G X) h_st hC.1 hpa (CI_P hC hi) h_ip rfl (hfp _ hi)) (cs_X3_49 C (by decide)) hC.1 rfl rfl rfl rfl (Nat.le_of_ble_eq_true rfl) rfl rfl (by decide) (by decide) dX3_bring_2 (fun E M' hq => ?_) (fun x2 M' hq => ?_)
  · exact hq.elim
  · skip
    obtain ⟨rfl, rfl⟩ := hq
    refine z_astore (lv' := [(5, .ref (P pane.toNatClampNeg)), (0, .ref x), (1, .int pane), (2, .int ix), (3, .int other), (4, .int fr)]) C dX3_bring_5 (by decide) rfl ?_
    refine z_aload_n C dX3_bring_7 rfl 1 rfl ?_
    refine z_iload_n C dX3_bring_8 rfl 4 rfl ?_
    refine z_callXVr (rest := []) (k' := 2) (n' := 12) C (c_X3_paneOf (z_l X) (z_G X) h_st hC.1 hpa (CI_P hC hi2) h_ip2 rfl (hfp _ hi2)) (cs_X3_49 C (by decide)) hC.1 rfl rfl rfl rfl (Nat.le_of_ble_eq_true rfl) rfl rfl (by decide) (by decide) dX3_bring_9 (fun E M' hq => ?_) (fun x9 M' hq => ?_)
    · exact hq.elim
    · skip
      obtain ⟨rfl, rfl⟩ := hq
      refine z_astore (lv' := [(6, .ref (P other.toNatClampNeg)), (5, .ref (P pane.toNatClampNeg)), (0, .ref x), (1, .int pane), (2, .int ix), (3, .int other), (4, .int fr)]) C dX3_bring_12 (by decide) rfl ?_
      refine z_aload C dX3_bring_14 0 rfl ?_
      refine z_iload C dX3_bring_16 6 rfl ?_
      refine z_callVi (rest := []) (k' := 2) (n' := 12) C (c_X1_hasIndex (z_l X) (z_G X) (CI_P hC hi2)) (cs_X3_123 C (by decide)) (CI_P hC hi2) rfl rfl rfl rfl (Nat.le_of_ble_eq_true rfl) rfl rfl (by decide) (by decide) dX3_bring_18 (fun x18 M' hq => ?_)
      obtain ⟨rfl, rfl⟩ := hq
      refine z_if_eq C (tgt := 33) dX3_bring_21 (by decide) (fun c21 => ?_) (fun c21 => ?_)
      · refine z_aload_n C dX3_bring_33 rfl 2 rfl ?_
        refine z_iconst C (v := 5) dX3_bring_34 (by decide) ?_
        refine z_callVi (rest := []) (k' := 2) (n' := 12) C (c_X3_refuse (z_l X) (z_G X) hC.1 (CI_rf hC) (z_inL (by decide)) (show (5 : Int32).toNatClampNeg = 5 by decide)) (cs_X3_86 C (by decide)) hC.1 rfl rfl rfl rfl (Nat.le_of_ble_eq_true rfl) rfl rfl (by decide) (by decide) dX3_bring_35 (fun x35 M' hq => ?_)
        obtain ⟨rfl, rfl⟩ := hq
        refine ret dX3_bring_38 rfl ?_ (by decide) (by decide)
        exact CP_ok (v := s_tel u 5) (by unfold s_bring; rw [if_pos c21]) (z_lt3 (show t_2 pane other = 1 from by unfold t_2; rw [h_ok, h_ok2]; decide) rfl) (CI_td hC _)
      · refine z_aload C dX3_bring_24 1 rfl ?_
        refine z_iload_n C dX3_bring_26 rfl 4 rfl ?_
        refine z_callVi (rest := []) (k' := 2) (n' := 12) C (c_X1_hasIndex (z_l X) (z_G X) (CI_P hC hi)) (cs_X3_123 C (by decide)) (CI_P hC hi) rfl rfl rfl rfl (Nat.le_of_ble_eq_true rfl) rfl rfl (by decide) (by decide) dX3_bring_27 (fun x27 M' hq => ?_)
        obtain ⟨rfl, rfl⟩ := hq
        refine z_if_ne C (tgt := 39) dX3_bring_30 (by decide) (fun c30 => ?_) (fun c30 => ?_)
        · refine z_aload C dX3_bring_39 1 rfl ?_
          refine gf_X3_89 C (CI_P hC hi) dX3_bring_41 ?_
          refine z_if_eq C (tgt := 53) dX3_bring_44 (by decide) (fun c44 => ?_) (fun c44 => ?_)
          · refine z_aload_n C dX3_bring_53 rfl 2 rfl ?_
            refine z_aload C dX3_bring_54 1 rfl ?_
            refine z_iload_n C dX3_bring_56 rfl 4 rfl ?_
            refine z_aload C dX3_bring_57 0 rfl ?_
            refine z_iload C dX3_bring_59 6 rfl ?_
            refine z_callVi (rest := [.int ix, .ref (P pane.toNatClampNeg), .ref x]) (k' := 2) (n' := 12) C (a_X1_valueAt (z_l X) hC hok hi2 (s_inL hok hi2 c21)) (cs_X3_131 C (by decide)) (CI_P hC hi2) rfl rfl rfl rfl (Nat.le_of_ble_eq_true rfl) rfl rfl (by decide) (by decide) dX3_bring_61 (fun x61 Mq61 hq => ?_)
            obtain ⟨e61, rfl⟩ := hq
            rw [e61]
            refine z_callVi (rest := [.ref x]) (k' := 2) (n' := 12) C (a_X1_replace' (z_l X) hC hok hi _ (s_inL hok hi c30)) (cs_X3_127 C (by decide)) (CI_P hC hi) rfl rfl rfl rfl (Nat.le_of_ble_eq_true rfl) rfl rfl (by decide) (by decide) dX3_bring_64 (fun x64 Mq64 hq => ?_)
            obtain ⟨e64, hC64⟩ := hq
            rw [e64]
            refine z_callVi (rest := []) (k' := 2) (n' := 12) C (c_X3_done (z_l X) (z_G X) hC64.1) (cs_X3_66 C (by decide)) hC64.1 rfl rfl rfl rfl (Nat.le_of_ble_eq_true rfl) rfl rfl (by decide) (by decide) dX3_bring_67 (fun x67 M' hq => ?_)
            obtain ⟨rfl, rfl⟩ := hq
            refine ret dX3_bring_70 rfl ?_ (by decide) (by decide)
            exact CP_ok (v := s_act (s_wr u (p_ro (s_pn u pane.toNatClampNeg)) (p_at (s_pn u pane.toNatClampNeg) ix) (s_val u (s_pn u other.toNatClampNeg) fr))) (by unfold s_bring; rw [if_neg c21, if_neg c30, if_neg ((s_rdn hok hi).mp c44)]) (z_lt3 (show t_2 pane other = 1 from by unfold t_2; rw [h_ok, h_ok2]; decide) rfl) (CI_ak hC64 _ _)
          · refine z_aload_n C dX3_bring_47 rfl 2 rfl ?_
            refine z_iconst C (v := 4) dX3_bring_48 (by decide) ?_
            refine z_callVi (rest := []) (k' := 2) (n' := 12) C (c_X3_refuse (z_l X) (z_G X) hC.1 (CI_rf hC) (z_inL (by decide)) (show (4 : Int32).toNatClampNeg = 4 by decide)) (cs_X3_86 C (by decide)) hC.1 rfl rfl rfl rfl (Nat.le_of_ble_eq_true rfl) rfl rfl (by decide) (by decide) dX3_bring_49 (fun x49 M' hq => ?_)
            obtain ⟨rfl, rfl⟩ := hq
            refine ret dX3_bring_52 rfl ?_ (by decide) (by decide)
            exact CP_ok (v := s_tel u 4) (by unfold s_bring; rw [if_neg c21, if_neg c30, if_pos ((s_rdn' hok hi).mpr c44)]) (z_lt3 (show t_2 pane other = 1 from by unfold t_2; rw [h_ok, h_ok2]; decide) rfl) (CI_td hC _)
        · refine z_aload_n C dX3_bring_33 rfl 2 rfl ?_
          refine z_iconst C (v := 5) dX3_bring_34 (by decide) ?_
          refine z_callVi (rest := []) (k' := 2) (n' := 12) C (c_X3_refuse (z_l X) (z_G X) hC.1 (CI_rf hC) (z_inL (by decide)) (show (5 : Int32).toNatClampNeg = 5 by decide)) (cs_X3_86 C (by decide)) hC.1 rfl rfl rfl rfl (Nat.le_of_ble_eq_true rfl) rfl rfl (by decide) (by decide) dX3_bring_35 (fun x35 M' hq => ?_)
          obtain ⟨rfl, rfl⟩ := hq
          refine ret dX3_bring_38 rfl ?_ (by decide) (by decide)
          exact CP_ok (v := s_tel u 5) (by unfold s_bring; rw [if_neg c21, if_pos c30]) (z_lt3 (show t_2 pane other = 1 from by unfold t_2; rw [h_ok, h_ok2]; decide) rfl) (CI_td hC _)
theorem a_X3_bring (l : Launch) (h_st : l.stackTraces = false) {G : zG} {u : sS} {x : Nat} {P RA VA : Nat → Nat} {pa sp ln rf sb : Nat} {Mw : zM} (hC : CI G u x P RA VA pa sp ln rf sb Mw) {t : Nat} (hok : s_ok t u) (pane ix other fr : Int32) : z_Xi l G qX3_bring (z_rm 12 8 48) [.ref x, .int pane, .int ix, .int other, .int fr] Mw (CP G x pa sp ln rf sb (z_lt (t_2 pane other) 1) (s_bring u pane.toNatClampNeg other.toNatClampNeg ix fr)) (CX G x pa sp ln rf sb (z_lt (t_2 pane other) 1) u) := by
  obtain ⟨fp, hpa, hfp⟩ := CI_pa hC
  rcases z_pc pane with ⟨h_ok, h_ip, hi⟩ | ⟨h_bad, h_nip⟩
  · rcases z_pc other with ⟨h_ok2, h_ip2, hi2⟩ | ⟨h_bad2, h_nip2⟩
    · exact g_X3_bring l h_st hC hok h_ok h_ip hi h_ok2 h_ip2 hi2
    · refine z_Xi_mono (c_X3_bring_bad2 l G h_st hC.1 hpa (CI_P hC hi) h_ip rfl (hfp _ hi) h_nip2) (fun r M' h => h.elim) ?_
      rintro E M' (⟨x0_0, rfl, rfl⟩ | ⟨x1_0, rfl, rfl⟩)
      · exact CX_1 (k_1 (by unfold t_2; rw [h_ok, h_bad2]; decide)) hC
      · exact CX_1 (k_1 (by unfold t_2; rw [h_ok, h_bad2]; decide)) hC
  · refine z_Xi_mono (c_X3_bring_bad l G h_st hC.1 hpa h_nip) (fun r M' h => h.elim) ?_
    rintro E M' (⟨x0_0, rfl, rfl⟩ | ⟨x1_0, rfl, rfl⟩)
    · exact CX_1 (k_1 (by unfold t_2; rw [h_bad]; exact if_pos rfl)) hC
    · exact CX_1 (k_1 (by unfold t_2; rw [h_bad]; exact if_pos rfl)) hC
set_option maxRecDepth 20000 in
theorem a_X3_lay (l : Launch) (h_st : l.stackTraces = false) {G : zG} {u : sS} {x : Nat} {P RA VA : Nat → Nat} {pa sp ln rf sb : Nat} {Mw : zM} (hC : CI G u x P RA VA pa sp ln rf sb Mw) {t : Nat} (hok : s_ok t u) (pq v : Int32) : z_Xi l G qX3_lay (z_rm 12 8 48) [.ref x, .int pq, .int v] Mw (CP G x pa sp ln rf sb (z_lt (z_is pq 0 15) (t_nn v)) (s_lay u pq v)) (CX G x pa sp ln rf sb (z_lt (z_is pq 0 15) (t_nn v)) u) := by
  refine z_Xi_of _ _ h_st rfl rfl (Nat.le_of_ble_eq_true rfl) (fun X hl hG C ret thr prp => ?_)
  subst hl; subst hG
  have C : z_C X cX3_lay RX3 3 (z_rm 12 8 48) := C
  show z_W X Mw 0 0 0 [(0, .ref x), (1, .int pq), (2, .int v)] []
  refine z_aload_n C dX3_lay_0 rfl 0 rfl ?_
  refine gf_X3_14 C hC.1 dX3_lay_1 ?_
  refine z_iload_n C dX3_lay_4 rfl 1 rfl ?_
  refine z_callVi (rest := []) (k' := 0) (n' := 0) C (c_X2_hasPlace_g (z_l X) (z_G X) (CI_RA hC (by have := hok.1; omega)) (CI_VA hC (by have := hok.1; omega))) (cs_X3_139 C (by decide)) (CI_RA hC (by have := hok.1; omega)) rfl rfl rfl rfl (Nat.le_of_ble_eq_true rfl) rfl rfl (by decide) (by decide) dX3_lay_5 (fun x5 M' hq => ?_)
  obtain ⟨rfl, rfl⟩ := hq
  refine z_if_ne C (tgt := 21) dX3_lay_8 (by decide) (fun c8 => ?_) (fun c8 => ?_)
  · refine z_iload_n C dX3_lay_21 rfl 2 rfl ?_
    refine z_callXSv (rest := []) (k' := 1) (n' := 6) C (c_X3_needValue (z_l X) (z_G X) h_st) (cs_X3_116 C (by decide)) rfl rfl (Nat.le_of_ble_eq_true rfl) rfl rfl (by decide) (by decide) dX3_lay_22 (fun E M' hq => ?_) (fun M' hq => ?_)
    · obtain ⟨cx22_0, rfl, rfl⟩ := hq
      exact prp (CX_2 (k_2 (z_is11 (fun q => c8 ((z_hi15 hok.2.2.1).mpr q))) (by simp [t_nn, Int32.not_le.mp cx22_0])) hC) (by decide) (by decide)
    · skip
      obtain ⟨d22_0, rfl⟩ := hq
      refine z_aload_n C dX3_lay_25 rfl 0 rfl ?_
      refine z_aload_n C dX3_lay_26 rfl 0 rfl ?_
      refine gf_X3_14 C hC.1 dX3_lay_27 ?_
      refine z_iload_n C dX3_lay_30 rfl 1 rfl ?_
      refine z_iload_n C dX3_lay_31 rfl 2 rfl ?_
      refine z_callVi (rest := [.ref x]) (k' := 1) (n' := 6) C (c_X2_exchangeAt (z_l X) (z_G X) (CI_RA hC (by have := hok.1; omega)) (CI_VA hC (by have := hok.1; omega)) (z_hi1' hok.2.2.1 c8) (by rw [hok.2.2.1]; decide)) (cs_X3_149 C (by decide)) (CI_RA hC (by have := hok.1; omega)) rfl rfl rfl rfl (Nat.le_of_ble_eq_true rfl) rfl rfl (by decide) (by decide) dX3_lay_32 (fun x32 M' hq => ?_)
      obtain ⟨rfl, rfl⟩ := hq
      refine z_callVi (rest := []) (k' := 1) (n' := 6) C (c_X3_done (z_l X) (z_G X) ((z_up_n _ _ (z_ne hC.1 (CI_VA hC (by have := hok.1; omega)) (by intro h; cases h))).trans hC.1)) (cs_X3_66 C (by decide)) ((z_up_n _ _ (z_ne hC.1 (CI_VA hC (by have := hok.1; omega)) (by intro h; cases h))).trans hC.1) rfl rfl rfl rfl (Nat.le_of_ble_eq_true rfl) rfl rfl (by decide) (by decide) dX3_lay_35 (fun x35 M' hq => ?_)
      obtain ⟨rfl, rfl⟩ := hq
      refine ret dX3_lay_38 rfl ?_ (by decide) (by decide)
      exact CP_ok (v := s_act (s_wr u 0 pq.toNatClampNeg v)) rfl (z_lt3 (z_is11 (fun q => c8 ((z_hi15 hok.2.2.1).mpr q))) (by simp [t_nn, Int32.not_lt.mpr d22_0])) (CI_ak (CI_wr hC (by have := hok.1; omega) _ _) _ _)
  · exact thr "java/lang/IndexOutOfBoundsException" "no such place of the long row" z_nm 142 144 146 (by decide +kernel) (by decide +kernel) kw703 kw14 rfl (by decide +kernel) (ht_I C) hg_I dX3_lay_11 dX3_lay_14 dX3_lay_15 dX3_lay_17 dX3_lay_20 (by decide) (Nat.le_of_ble_eq_true rfl) (by decide) (by decide) (CX_1 (k_1 ((z_hi15 hok.2.2.1).mp c8)) hC)
set_option maxRecDepth 20000 in
theorem c_X3_fresh_bad (l : Launch) (G : zG) (h_st : l.stackTraces = false) {M : zM} {x : Nat} {pane : Int32} {lq : Int32} {lr : Nat} {pa : Nat} {sp : Nat} {ln : Nat} {rf : Nat} {ac : Int32} {kn : Int32} {fp : Nat → Option Nat}  (h_x : M x = some (cMp lr pa sp ln rf ac kn)) (h_pa : M pa = some (aP G 6 fp)) (h_ip : ¬ vp_in pane 6) : z_Xi l G qX3_fresh (z_rm 12 8 48) [.ref x, .int pane, .int lq] M (fun r M' => False) (fun E M' => ((pane < 0) ∧ E = "java/lang/IndexOutOfBoundsException" ∧ M' = M) ∨ ((¬ pane < 0) ∧ E = "java/lang/IndexOutOfBoundsException" ∧ M' = M)) := by
  refine z_Xi_of _ _ h_st rfl rfl (Nat.le_of_ble_eq_true rfl) (fun X hl hG C ret thr prp => ?_)
  subst hl; subst hG
  have C : z_C X cX3_fresh RX3 4 (z_rm 12 8 48) := C
  show z_W X M 0 0 0 [(0, .ref x), (1, .int pane), (2, .int lq)] []
  refine z_aload_n C dX3_fresh_0 rfl 0 rfl ?_
  refine z_iload_n C dX3_fresh_1 rfl 1 rfl ?_
  refine z_callXVr (rest := []) (k' := 1) (n' := 6) C (c_X3_paneOf_bad (z_l X) (z_G X) h_st h_x h_pa h_ip) (cs_X3_49 C (by decide)) h_x rfl rfl rfl rfl (Nat.le_of_ble_eq_true rfl) rfl rfl (by decide) (by decide) dX3_fresh_2 (fun E M' hq => ?_) (fun x2 M' hq => ?_)
  · obtain ⟨cx2_0, rfl, rfl⟩ | ⟨cx2_0, rfl, rfl⟩ := hq
    · exact prp (Or.inl ⟨cx2_0, rfl, rfl⟩) (by decide) (by decide)
    · exact prp (Or.inr (⟨cx2_0, rfl, rfl⟩)) (by decide) (by decide)
  · skip
    exact hq.elim
set_option maxRecDepth 20000 in
theorem g_X3_fresh (l : Launch) (h_st : l.stackTraces = false) {G : zG} {u : sS} {x : Nat} {P RA VA : Nat → Nat} {pa sp ln rf sb : Nat} {Mw : zM} (hC : CI G u x P RA VA pa sp ln rf sb Mw) {t : Nat} (hok : s_ok t u) {pane lq : Int32} (h_ok : z_is pane 0 5 = 1) (h_ip : vp_in pane 6) (hi : pane.toNatClampNeg < 6) : z_Xi l G qX3_fresh (z_rm 12 8 48) [.ref x, .int pane, .int lq] Mw (CP G x pa sp ln rf sb (z_lt (z_is pane 0 5) (z_is lq 0 12)) (s_fresh u pane.toNatClampNeg lq)) (CX G x pa sp ln rf sb (z_lt (z_is pane 0 5) (z_is lq 0 12)) u) := by
  obtain ⟨fp, hpa, hfp⟩ := CI_pa hC
  refine z_Xi_of _ _ h_st rfl rfl (Nat.le_of_ble_eq_true rfl) (fun X hl hG C ret thr prp => ?_)
  subst hl; subst hG
  have C : z_C X cX3_fresh RX3 4 (z_rm 12 8 48) := C
  show z_W X Mw 0 0 0 [(0, .ref x), (1, .int pane), (2, .int lq)] []
  refine z_aload_n C dX3_fresh_0 rfl 0 rfl ?_
  refine z_iload_n C dX3_fresh_1 rfl 1 rfl ?_
  refine z_callXVr (rest := []) (k' := 1) (n' := 6) C (c_X3_paneOf (z_l X) (z_G X) h_st hC.1 hpa (CI_P hC hi) h_ip rfl (hfp _ hi)) (cs_X3_49 C (by decide)) hC.1 rfl rfl rfl rfl (Nat.le_of_ble_eq_true rfl) rfl rfl (by decide) (by decide) dX3_fresh_2 (fun E M' hq => ?_) (fun x2 M' hq => ?_)
  · exact hq.elim
  · skip
    obtain ⟨rfl, rfl⟩ := hq
    refine z_astore_n (lv' := [(3, .ref (P pane.toNatClampNeg)), (0, .ref x), (1, .int pane), (2, .int lq)]) C dX3_fresh_5 rfl (by decide) rfl ?_
    refine z_iload_n C dX3_fresh_6 rfl 3 rfl ?_
    refine z_iconst C (v := 0) dX3_fresh_7 (by decide) ?_
    refine z_bipush C (v := 12) dX3_fresh_8 (by decide) ?_
    refine z_callXSv (rest := []) (k' := 2) (n' := 12) C (c_X3_needWithin (z_l X) (z_G X) h_st) (cs_X3_53 C (by decide)) rfl rfl (Nat.le_of_ble_eq_true rfl) rfl rfl (by decide) (by decide) dX3_fresh_10 (fun E M' hq => ?_) (fun M' hq => ?_)
    · obtain ⟨cx10_0, rfl, rfl⟩ := hq
      exact prp (CX_2 (k_2 h_ok cx10_0) hC) (by decide) (by decide)
    · skip
      obtain ⟨d10_0, rfl⟩ := hq
      refine z_aload_n C dX3_fresh_13 rfl 0 rfl ?_
      refine z_new (ci := 6) (fs := [.null]) C rfl inX2 tyX2 tyX2_ok kw34 kw35 kw2 (fun j hj => by rcases (show j = 0 by omega) with rfl <;> rfl) (by decide) (by decide) dX3_fresh_14 (fun q14 hq14 => ?_)
      refine z_kn (k' := 3) (n' := 13) rfl rfl ?_
      refine z_dup C dX3_fresh_17 rfl ?_
      refine z_iload_n C dX3_fresh_18 rfl 3 rfl ?_
      refine z_callI (rest := [.ref q14, .ref (P pane.toNatClampNeg)]) (k' := 4) (n' := 29) C (c_X2_init (z_l X) (z_G X) (z_up_s _ _ _) (z_rgN d10_0).1 (Nat.le_trans (z_r12 d10_0) (by decide))) (cs_X3_11 C (by decide)) rfl rfl (Nat.le_of_ble_eq_true rfl) rfl rfl (by decide) (by decide) dX3_fresh_19 (fun Mq19 hq => ?_)
      obtain ⟨qv, hqv, rfl⟩ := hq
      have hn9 : q14 ≠ qv := fun q => by rw [← q, z_up_s] at hqv; cases hqv
      rw [z_up_swap _ hn9, z_up_up]
      have hC2 := CI_new (n := lq.toNatClampNeg) hC hq14 (z_upq hqv) hn9 (fun j hj => s_row hok hj) (by have := hok.1; omega)
      refine z_callVv (rest := []) (k' := 4) (n' := 29) C (c_X1_showAll (z_l X) (z_G X) (by have h8 := CI_P hC2 hi; rw [s_fu_n _ _ (show p_ro (s_pn (s_new u lq.toNatClampNeg) pane.toNatClampNeg) ≠ s_nr u from by have := s_row hok hi; exact Nat.ne_of_lt this)] at h8; exact h8) (by have h8 := CI_RA hC2 (r := s_nr u) (Nat.lt_succ_self _); rw [s_fu_s, s_fu_s] at h8; exact h8) (by have h8 := CI_VA hC2 (r := s_nr u) (Nat.lt_succ_self _); rw [s_fu_s] at h8; exact h8)) (cs_X3_57 C (by decide)) (by have h8 := CI_P hC2 hi; rw [s_fu_n _ _ (show p_ro (s_pn (s_new u lq.toNatClampNeg) pane.toNatClampNeg) ≠ s_nr u from by have := s_row hok hi; exact Nat.ne_of_lt this)] at h8; exact h8) rfl rfl rfl rfl (Nat.le_of_ble_eq_true rfl) rfl rfl (by decide) (by decide) dX3_fresh_22 (fun M' hq => ?_)
      obtain rfl := hq
      refine z_aload_n C dX3_fresh_25 rfl 1 rfl ?_
      refine z_aload_n C dX3_fresh_26 rfl 0 rfl ?_
      refine gf_X3_63 C (z_up_s _ _ _) dX3_fresh_27 ?_
      refine z_callVi (rest := []) (k' := 4) (n' := 29) C (c_X3_done (z_l X) (z_G X) ((z_up_n _ _ (z_ne (by have h8 := hC2.1; rw [s_fu_n _ _ (show 0 ≠ s_nr u by have := hok.1; omega)] at h8; exact h8) (by have h8 := CI_P hC2 hi; rw [s_fu_n _ _ (show p_ro (s_pn (s_new u lq.toNatClampNeg) pane.toNatClampNeg) ≠ s_nr u from by have := s_row hok hi; exact Nat.ne_of_lt this)] at h8; exact h8) (by intro h; cases h))).trans (by have h8 := hC2.1; rw [s_fu_n _ _ (show 0 ≠ s_nr u by have := hok.1; omega)] at h8; exact h8))) (cs_X3_66 C (by decide)) ((z_up_n _ _ (z_ne (by have h8 := hC2.1; rw [s_fu_n _ _ (show 0 ≠ s_nr u by have := hok.1; omega)] at h8; exact h8) (by have h8 := CI_P hC2 hi; rw [s_fu_n _ _ (show p_ro (s_pn (s_new u lq.toNatClampNeg) pane.toNatClampNeg) ≠ s_nr u from by have := s_row hok hi; exact Nat.ne_of_lt this)] at h8; exact h8) (by intro h; cases h))).trans (by have h8 := hC2.1; rw [s_fu_n _ _ (show 0 ≠ s_nr u by have := hok.1; omega)] at h8; exact h8)) rfl rfl rfl rfl (Nat.le_of_ble_eq_true rfl) rfl rfl (by decide) (by decide) dX3_fresh_30 (fun x30 M' hq => ?_)
      obtain ⟨rfl, rfl⟩ := hq
      refine ret dX3_fresh_33 rfl ?_ (by decide) (by decide)
      rw [show Int32.ofNat (s_ln (s_new u lq.toNatClampNeg) (s_nr u)) = lq from by rw [show s_ln (s_new u lq.toNatClampNeg) (s_nr u) = lq.toNatClampNeg from if_pos rfl]; exact (z_rgN d10_0).1.symm]
      have h7 := CI_pn hC2 hi ((s_nr u, 0, lq, 0, lq, -1, 0) : sP)
      rw [show p_ro ((s_nr u, 0, lq, 0, lq, -1, 0) : sP) = s_nr u from rfl, s_fu_s] at h7
      have h8 := CI_ak h7 (s_ac u + 1) (s_kn u)
      rw [s_fu_n _ _ (show 0 ≠ s_nr u by have := hok.1; omega)] at h8
      exact CP_ok (v := s_act (s_up (s_new u lq.toNatClampNeg) pane.toNatClampNeg ((s_nr u, 0, lq, 0, lq, -1, 0) : sP))) rfl (z_lt3 h_ok (z_is11 d10_0)) h8
theorem a_X3_fresh (l : Launch) (h_st : l.stackTraces = false) {G : zG} {u : sS} {x : Nat} {P RA VA : Nat → Nat} {pa sp ln rf sb : Nat} {Mw : zM} (hC : CI G u x P RA VA pa sp ln rf sb Mw) {t : Nat} (hok : s_ok t u) (pane lq : Int32) : z_Xi l G qX3_fresh (z_rm 12 8 48) [.ref x, .int pane, .int lq] Mw (CP G x pa sp ln rf sb (z_lt (z_is pane 0 5) (z_is lq 0 12)) (s_fresh u pane.toNatClampNeg lq)) (CX G x pa sp ln rf sb (z_lt (z_is pane 0 5) (z_is lq 0 12)) u) := by
  obtain ⟨fp, hpa, hfp⟩ := CI_pa hC
  rcases z_pc pane with ⟨h_ok, h_ip, hi⟩ | ⟨h_bad, h_nip⟩
  · exact g_X3_fresh l h_st hC hok h_ok h_ip hi
  · refine z_Xi_mono (c_X3_fresh_bad l G h_st hC.1 hpa h_nip) (fun r M' h => h.elim) ?_
    rintro E M' (⟨x0_0, rfl, rfl⟩ | ⟨x1_0, rfl, rfl⟩)
    · exact CX_1 (k_1 h_bad) hC
    · exact CX_1 (k_1 h_bad) hC
end
section
section RIP
variable {G : zG} {u : sS} {m : Nat} {th : Int32} {K : Nat → Nat} {tp pn td : Nat} {R : zM}
theorem RI_K (h : RI G u m th K tp pn td R) {i : Nat} (hi : i < 6) : R (K i) = some (cPm G (nI (p_ro (s_pn u i))) (nI (s_ba (s_ln u) (p_ro (s_pn u i)))) (p_sa (s_pn u i)) (p_cp (s_pn u i)) (p_po (s_pn u i)) (p_li (s_pn u i)) (p_mk (s_pn u i)) (p_rd (s_pn u i))) := h.2.2.2.2.1 i hi
theorem RI_tdf (h : RI G u m th K tp pn td R) : R td = some (aI G 6 (s_td u)) := h.2.2.2.1
theorem RI_tpf (h : RI G u m th K tp pn td R) : ∃ ft : Nat → Int32, R tp = some (aI G (s_ba (s_ln u) (s_nr u)) ft) ∧ ∀ r, r < s_nr u → ∀ j, j < s_ln u r → ft (s_ba (s_ln u) r + j) = s_vl u r j := h.2.1
theorem RI_pnf (h : RI G u m th K tp pn td R) : ∃ fp : Nat → Option Nat, R pn = some (aII G 6 fp) ∧ ∀ i, i < 6 → fp i = some (K i) := h.2.2.1
theorem RI_n1 (h : RI G u m th K tp pn td R) {i : Nat} (hi : i < 6) : K i ≠ td := h.2.2.2.2.2.2.1 i hi
theorem RI_n2 (h : RI G u m th K tp pn td R) {i : Nat} (hi : i < 6) : K i ≠ tp := h.2.2.2.2.2.2.2.1 i hi
theorem RI_n3 (h : RI G u m th K tp pn td R) : td ≠ tp := h.2.2.2.2.2.2.2.2
theorem a_X5_puts (l : Launch) (h : RI G u m th K tp pn td R) {t : Nat} (hok : s_ok t u) (ht : t ≤ 64) {i : Nat} (hi : i < 6) (v : Int32) : z_Mi l G qX5_puts (z_rm 3 0 0) [.ref m, .ref (K i), .int v] R (fun r M' => r = (s_put1 u i v).1 ∧ RI G (s_put1 u i v).2 m th K tp pn td M') := by
  obtain ⟨ft, htp, hft⟩ := RI_tpf h
  refine z_Mi_mono (c_X5_puts l G h.1 (RI_tdf h) htp (RI_K h hi) (RI_n2 h hi) (RI_n1 h hi) (RI_n3 h) (s_or hok ht hi)) ?_
  rintro r M' (⟨c1, c2, hr9, rfl⟩ | ⟨c1, c2, hr9, rfl⟩ | ⟨c1, hr9, rfl⟩)
  · have e : s_put1 u i v = (0, s_up (s_wr u (p_ro (s_pn u i)) (p_at (s_pn u i) (p_po (s_pn u i))) v) i (p_po' (s_pn u i) (p_po (s_pn u i) + 1))) := by
      unfold s_put1
      rw [if_neg c1, if_neg c2]
    rw [e]
    exact ⟨hr9, RI_pn (RI_wr h (s_row hok hi) (s_atlt (s_inP hok hi c2)) (s_wh' hok ht hi (s_inP hok hi c2)) htp v) hi (p_po' (s_pn u i) (p_po (s_pn u i) + 1))⟩
  · have e : s_put1 u i v = (1, s_tel u 1) := by
      unfold s_put1
      rw [if_neg c1, if_pos c2]
    rw [e]
    exact ⟨hr9, RI_td h _⟩
  · have e : s_put1 u i v = (4, s_tel u 4) := by
      unfold s_put1
      rw [if_pos c1]
    rw [e]
    exact ⟨hr9, RI_td h _⟩
theorem a_X5_moved (l : Launch) (h : RI G u m th K tp pn td R) {i : Nat} (hi : i < 6) (y : Int32) : z_Mv l G qX5_moved (z_rm 1 0 0) [.ref m, .ref (K i), .int y] R (fun M' => RI G (s_up u i (p_mv (s_pn u i) y)) m th K tp pn td M') := by
  refine z_Mv_mono (c_X5_moved l G (RI_K h hi)) ?_
  rintro M' (⟨c, rfl⟩ | ⟨c, rfl⟩)
  · have e : p_mv (s_pn u i) y = (p_ro (s_pn u i), p_sa (s_pn u i), p_cp (s_pn u i), y, p_li (s_pn u i), p_mk (s_pn u i), p_rd (s_pn u i)) := by unfold p_mv; rw [if_pos c]
    rw [e]
    exact RI_pn h hi _
  · have e : p_mv (s_pn u i) y = (p_ro (s_pn u i), p_sa (s_pn u i), p_cp (s_pn u i), y, p_li (s_pn u i), -1, p_rd (s_pn u i)) := by unfold p_mv; rw [if_neg c]
    rw [e]
    exact RI_pn h hi _
theorem RI_cp (h : RI G u m th K tp pn td R) {t : Nat} (hok : s_ok t u) (ht : t ≤ 64) {i : Nat} (hi : i < 6) {ft : Nat → Int32} (htp : R tp = some (aI G (s_ba (s_ln u) (s_nr u)) ft)) {x y : Int32} (hx : vp_in (p_sa (s_pn u i) + x) (s_ln u (p_ro (s_pn u i)))) (hy : vp_in (p_sa (s_pn u i) + y) (s_ln u (p_ro (s_pn u i)))) : RI G (s_wr u (p_ro (s_pn u i)) (p_at (s_pn u i) x) (s_val u (s_pn u i) y)) m th K tp pn td (z_up R tp (aI G (s_ba (s_ln u) (s_nr u)) (upd ft ((nI (s_ba (s_ln u) (p_ro (s_pn u i))) + p_sa (s_pn u i)) + x).toNatClampNeg (ft ((nI (s_ba (s_ln u) (p_ro (s_pn u i))) + p_sa (s_pn u i)) + y).toNatClampNeg)))) := by
  obtain ⟨ft', htp', hft⟩ := RI_tpf h
  have e : ft' = ft := by
    have := htp'.symm.trans htp
    simpa using this
  subst e
  rw [s_rd hok ht hi hft hy]
  exact RI_wr h (s_row hok hi) (s_atlt hx) (s_wh' hok ht hi hx) htp _
/-- an index tells its place on the tape -/
theorem s_tin {t : Nat} (hok : s_ok t u) (ht : t ≤ 64) {i : Nat} (hi : i < 6) {x : Int32} (hx : vp_in (p_sa (s_pn u i) + x) (s_ln u (p_ro (s_pn u i)))) : vp_in ((nI (s_ba (s_ln u) (p_ro (s_pn u i))) + p_sa (s_pn u i)) + x) (s_ba (s_ln u) (s_nr u)) := by
  have h1 := s_wh' hok ht hi hx
  have h2 := s_atlt hx
  have h3 := s_ba_lt (s_ln u) (s_row hok hi)
  have h4 := s_ba_nt hok ht
  obtain ⟨g1, g2⟩ := z_inT.mp hx
  have e : ((nI (s_ba (s_ln u) (p_ro (s_pn u i))) + p_sa (s_pn u i)) + x).toInt = s_ba (s_ln u) (p_ro (s_pn u i)) + (p_sa (s_pn u i) + x).toInt := by
    rw [Int32.add_assoc, fb_addI (by rw [nI_T (by omega)]; omega) (by rw [nI_T (by omega)]; omega), nI_T (by omega)]
  exact z_inT.mpr ⟨by omega, by omega⟩
theorem s_put1k {i : Nat} {v : Int32} : (s_put1 u i v).1 ≤ 0 ↔ (s_put1 u i v).1 = 0 := by
  unfold s_put1
  split
  · show (4 : Int32) ≤ 0 ↔ (4 : Int32) = 0; decide
  · split
    · show (1 : Int32) ≤ 0 ↔ (1 : Int32) = 0; decide
    · show (0 : Int32) ≤ 0 ↔ (0 : Int32) = 0; decide
end RIP
theorem dX5_fill_0 : decode cX5_fill 0 = .ok (.aload_n 0, 1) := by decide +kernel
theorem dX5_fill_1 : decode cX5_fill 1 = .ok (.iload_n 1, 1) := by decide +kernel
theorem dX5_fill_2 : decode cX5_fill 2 = .ok (.invokestatic 55, 3) := by decide +kernel
theorem dX5_fill_5 : decode cX5_fill 5 = .ok (.iload_n 2, 1) := by decide +kernel
theorem dX5_fill_6 : decode cX5_fill 6 = .ok (.iconst 0, 1) := by decide +kernel
theorem dX5_fill_7 : decode cX5_fill 7 = .ok (.ldc 98, 2) := by decide +kernel
theorem dX5_fill_9 : decode cX5_fill 9 = .ok (.invokestatic 36, 3) := by decide +kernel
theorem dX5_fill_12 : decode cX5_fill 12 = .ok (.ifCond .eq 28, 3) := by decide +kernel
theorem dX5_fill_15 : decode cX5_fill 15 = .ok (.iload_n 3, 1) := by decide +kernel
theorem dX5_fill_16 : decode cX5_fill 16 = .ok (.iconst 0, 1) := by decide +kernel
theorem dX5_fill_17 : decode cX5_fill 17 = .ok (.ldc 98, 2) := by decide +kernel
theorem dX5_fill_19 : decode cX5_fill 19 = .ok (.invokestatic 36, 3) := by decide +kernel
theorem dX5_fill_22 : decode cX5_fill 22 = .ok (.ifCond .eq 18, 3) := by decide +kernel
theorem dX5_fill_25 : decode cX5_fill 25 = .ok (.iload 4, 2) := by decide +kernel
theorem dX5_fill_27 : decode cX5_fill 27 = .ok (.iconst 0, 1) := by decide +kernel
theorem dX5_fill_28 : decode cX5_fill 28 = .ok (.bipush 20, 2) := by decide +kernel
theorem dX5_fill_30 : decode cX5_fill 30 = .ok (.invokestatic 36, 3) := by decide +kernel
theorem dX5_fill_33 : decode cX5_fill 33 = .ok (.ifCond .eq 7, 3) := by decide +kernel
theorem dX5_fill_36 : decode cX5_fill 36 = .ok (.iconst 1, 1) := by decide +kernel
theorem dX5_fill_37 : decode cX5_fill 37 = .ok (.goto 4, 3) := by decide +kernel
theorem dX5_fill_40 : decode cX5_fill 40 = .ok (.iconst 0, 1) := by decide +kernel
theorem dX5_fill_41 : decode cX5_fill 41 = .ok (.invokevirtual 59, 3) := by decide +kernel
theorem dX5_fill_44 : decode cX5_fill 44 = .ok (.ifCond .ne 5, 3) := by decide +kernel
theorem dX5_fill_47 : decode cX5_fill 47 = .ok (.iconst 0, 1) := by decide +kernel
theorem dX5_fill_48 : decode cX5_fill 48 = .ok (.ireturn, 1) := by decide +kernel
theorem dX5_fill_49 : decode cX5_fill 49 = .ok (.iconst 0, 1) := by decide +kernel
theorem dX5_fill_50 : decode cX5_fill 50 = .ok (.istore 5, 2) := by decide +kernel
theorem dX5_fill_52 : decode cX5_fill 52 = .ok (.iload 5, 2) := by decide +kernel
theorem dX5_fill_54 : decode cX5_fill 54 = .ok (.iload 4, 2) := by decide +kernel
theorem dX5_fill_56 : decode cX5_fill 56 = .ok (.if_icmp .ge 28, 3) := by decide +kernel
theorem dX5_fill_59 : decode cX5_fill 59 = .ok (.aload_n 0, 1) := by decide +kernel
theorem dX5_fill_60 : decode cX5_fill 60 = .ok (.aload_n 0, 1) := by decide +kernel
theorem dX5_fill_61 : decode cX5_fill 61 = .ok (.getfield 18, 3) := by decide +kernel
theorem dX5_fill_64 : decode cX5_fill 64 = .ok (.iload_n 1, 1) := by decide +kernel
theorem dX5_fill_65 : decode cX5_fill 65 = .ok (.aaload, 1) := by decide +kernel
theorem dX5_fill_66 : decode cX5_fill 66 = .ok (.iload_n 2, 1) := by decide +kernel
theorem dX5_fill_67 : decode cX5_fill 67 = .ok (.iload 5, 2) := by decide +kernel
theorem dX5_fill_69 : decode cX5_fill 69 = .ok (.iload_n 3, 1) := by decide +kernel
theorem dX5_fill_70 : decode cX5_fill 70 = .ok (.imul, 1) := by decide +kernel
theorem dX5_fill_71 : decode cX5_fill 71 = .ok (.iadd, 1) := by decide +kernel
theorem dX5_fill_72 : decode cX5_fill 72 = .ok (.invokevirtual 92, 3) := by decide +kernel
theorem dX5_fill_75 : decode cX5_fill 75 = .ok (.ifCond .ne 9, 3) := by decide +kernel
theorem dX5_fill_78 : decode cX5_fill 78 = .ok (.iinc 5 1, 3) := by decide +kernel
theorem dX5_fill_81 : decode cX5_fill 81 = .ok (.goto (-29), 3) := by decide +kernel
theorem dX5_fill_84 : decode cX5_fill 84 = .ok (.aload_n 0, 1) := by decide +kernel
theorem dX5_fill_85 : decode cX5_fill 85 = .ok (.iload 5, 2) := by decide +kernel
theorem dX5_fill_87 : decode cX5_fill 87 = .ok (.invokevirtual 63, 3) := by decide +kernel
theorem dX5_fill_90 : decode cX5_fill 90 = .ok (.ireturn, 1) := by decide +kernel
theorem dX5_pack_0 : decode cX5_pack 0 = .ok (.aload_n 0, 1) := by decide +kernel
theorem dX5_pack_1 : decode cX5_pack 1 = .ok (.iload_n 1, 1) := by decide +kernel
theorem dX5_pack_2 : decode cX5_pack 2 = .ok (.invokestatic 55, 3) := by decide +kernel
theorem dX5_pack_5 : decode cX5_pack 5 = .ok (.iconst 1, 1) := by decide +kernel
theorem dX5_pack_6 : decode cX5_pack 6 = .ok (.invokevirtual 59, 3) := by decide +kernel
theorem dX5_pack_9 : decode cX5_pack 9 = .ok (.ifCond .ne 5, 3) := by decide +kernel
theorem dX5_pack_12 : decode cX5_pack 12 = .ok (.iconst 0, 1) := by decide +kernel
theorem dX5_pack_13 : decode cX5_pack 13 = .ok (.ireturn, 1) := by decide +kernel
theorem dX5_pack_14 : decode cX5_pack 14 = .ok (.aload_n 0, 1) := by decide +kernel
theorem dX5_pack_15 : decode cX5_pack 15 = .ok (.getfield 18, 3) := by decide +kernel
theorem dX5_pack_18 : decode cX5_pack 18 = .ok (.iload_n 1, 1) := by decide +kernel
theorem dX5_pack_19 : decode cX5_pack 19 = .ok (.aaload, 1) := by decide +kernel
theorem dX5_pack_20 : decode cX5_pack 20 = .ok (.astore_n 2, 1) := by decide +kernel
theorem dX5_pack_21 : decode cX5_pack 21 = .ok (.aload_n 2, 1) := by decide +kernel
theorem dX5_pack_22 : decode cX5_pack 22 = .ok (.bipush 7, 2) := by decide +kernel
theorem dX5_pack_24 : decode cX5_pack 24 = .ok (.iaload, 1) := by decide +kernel
theorem dX5_pack_25 : decode cX5_pack 25 = .ok (.iconst 1, 1) := by decide +kernel
theorem dX5_pack_26 : decode cX5_pack 26 = .ok (.if_icmp .ne 9, 3) := by decide +kernel
theorem dX5_pack_29 : decode cX5_pack 29 = .ok (.aload_n 0, 1) := by decide +kernel
theorem dX5_pack_30 : decode cX5_pack 30 = .ok (.iconst 4, 1) := by decide +kernel
theorem dX5_pack_31 : decode cX5_pack 31 = .ok (.invokevirtual 47, 3) := by decide +kernel
theorem dX5_pack_34 : decode cX5_pack 34 = .ok (.ireturn, 1) := by decide +kernel
theorem dX5_pack_35 : decode cX5_pack 35 = .ok (.aload_n 2, 1) := by decide +kernel
theorem dX5_pack_36 : decode cX5_pack 36 = .ok (.invokestatic 43, 3) := by decide +kernel
theorem dX5_pack_39 : decode cX5_pack 39 = .ok (.istore_n 3, 1) := by decide +kernel
theorem dX5_pack_40 : decode cX5_pack 40 = .ok (.iconst 0, 1) := by decide +kernel
theorem dX5_pack_41 : decode cX5_pack 41 = .ok (.istore 4, 2) := by decide +kernel
theorem dX5_pack_43 : decode cX5_pack 43 = .ok (.iload 4, 2) := by decide +kernel
theorem dX5_pack_45 : decode cX5_pack 45 = .ok (.iload_n 3, 1) := by decide +kernel
theorem dX5_pack_46 : decode cX5_pack 46 = .ok (.if_icmp .ge 37, 3) := by decide +kernel
theorem dX5_pack_49 : decode cX5_pack 49 = .ok (.aload_n 0, 1) := by decide +kernel
theorem dX5_pack_50 : decode cX5_pack 50 = .ok (.getfield 9, 3) := by decide +kernel
theorem dX5_pack_53 : decode cX5_pack 53 = .ok (.aload_n 0, 1) := by decide +kernel
theorem dX5_pack_54 : decode cX5_pack 54 = .ok (.aload_n 2, 1) := by decide +kernel
theorem dX5_pack_55 : decode cX5_pack 55 = .ok (.iload 4, 2) := by decide +kernel
theorem dX5_pack_57 : decode cX5_pack 57 = .ok (.invokevirtual 51, 3) := by decide +kernel
theorem dX5_pack_60 : decode cX5_pack 60 = .ok (.aload_n 0, 1) := by decide +kernel
theorem dX5_pack_61 : decode cX5_pack 61 = .ok (.getfield 9, 3) := by decide +kernel
theorem dX5_pack_64 : decode cX5_pack 64 = .ok (.aload_n 0, 1) := by decide +kernel
theorem dX5_pack_65 : decode cX5_pack 65 = .ok (.aload_n 2, 1) := by decide +kernel
theorem dX5_pack_66 : decode cX5_pack 66 = .ok (.aload_n 2, 1) := by decide +kernel
theorem dX5_pack_67 : decode cX5_pack 67 = .ok (.iconst 4, 1) := by decide +kernel
theorem dX5_pack_68 : decode cX5_pack 68 = .ok (.iaload, 1) := by decide +kernel
theorem dX5_pack_69 : decode cX5_pack 69 = .ok (.iload 4, 2) := by decide +kernel
theorem dX5_pack_71 : decode cX5_pack 71 = .ok (.iadd, 1) := by decide +kernel
theorem dX5_pack_72 : decode cX5_pack 72 = .ok (.invokevirtual 51, 3) := by decide +kernel
theorem dX5_pack_75 : decode cX5_pack 75 = .ok (.iaload, 1) := by decide +kernel
theorem dX5_pack_76 : decode cX5_pack 76 = .ok (.iastore, 1) := by decide +kernel
theorem dX5_pack_77 : decode cX5_pack 77 = .ok (.iinc 4 1, 3) := by decide +kernel
theorem dX5_pack_80 : decode cX5_pack 80 = .ok (.goto (-37), 3) := by decide +kernel
theorem dX5_pack_83 : decode cX5_pack 83 = .ok (.aload_n 0, 1) := by decide +kernel
theorem dX5_pack_84 : decode cX5_pack 84 = .ok (.aload_n 2, 1) := by decide +kernel
theorem dX5_pack_85 : decode cX5_pack 85 = .ok (.iload_n 3, 1) := by decide +kernel
theorem dX5_pack_86 : decode cX5_pack 86 = .ok (.aload_n 2, 1) := by decide +kernel
theorem dX5_pack_87 : decode cX5_pack 87 = .ok (.iconst 3, 1) := by decide +kernel
theorem dX5_pack_88 : decode cX5_pack 88 = .ok (.iaload, 1) := by decide +kernel
theorem dX5_pack_89 : decode cX5_pack 89 = .ok (.invokevirtual 88, 3) := by decide +kernel
theorem dX5_pack_92 : decode cX5_pack 92 = .ok (.pop, 1) := by decide +kernel
theorem dX5_pack_93 : decode cX5_pack 93 = .ok (.iload_n 3, 1) := by decide +kernel
theorem dX5_pack_94 : decode cX5_pack 94 = .ok (.ireturn, 1) := by decide +kernel
set_option maxRecDepth 20000 in
theorem lp_X5_fill2 {X : zX} (C : z_C X cX5_fill RX5 6 (z_rm 4 0 0)) {m : Nat} {th : Int32} {K : Nat → Nat} {tp pn td : Nat} {t : Nat} (ht : t ≤ 64) {a b pane many : Int32} (h_ip : vp_in pane 6) (hi : pane.toNatClampNeg < 6) (hv : ∀ k, k < 20 → 0 ≤ (a + nI k * b).toInt) {mn : Nat} (hmn : many = nI mn) (hmb : mn ≤ 20) {res : Nat × sS} (kk : ∀ M', RI (z_G X) res.2 m th K tp pn td M' → z_W X M' 0 0 84 [(5, .int (nI res.1)), (0, .ref m), (1, .int pane), (2, .int a), (3, .int b), (4, .int many)] []) : ∀ (d j : Nat) (u : sS) (Mw : zM), j + d = mn → s_ok t u → RI (z_G X) u m th K tp pn td Mw → s_fill1 pane.toNatClampNeg a b d j u = res → z_W X Mw 0 0 52 [(5, .int (nI j)), (0, .ref m), (1, .int pane), (2, .int a), (3, .int b), (4, .int many)] [] := by
  intro d
  induction d with
  | zero =>
    intro j u Mw hj hok hR hres
    obtain ⟨fp, hpn, hfp⟩ := RI_pnf hR
    refine z_iload C dX5_fill_52 0 rfl ?_
    refine z_iload C dX5_fill_54 5 rfl ?_
    refine z_icmp_ge C (tgt := 84) dX5_fill_56 (by decide) (fun _ => ?_) (fun c56 => absurd (by rw [hmn]; exact nI_le (by omega) (by omega)) c56)
    subst hres
    exact kk _ hR
  | succ d ih =>
    intro j u Mw hj hok hR hres
    obtain ⟨fp, hpn, hfp⟩ := RI_pnf hR
    refine z_iload C dX5_fill_52 0 rfl ?_
    refine z_iload C dX5_fill_54 5 rfl ?_
    refine z_icmp_ge C (tgt := 84) dX5_fill_56 (by decide) (fun c56 => absurd c56 (by rw [hmn]; exact nI_ge (by omega) (by omega))) (fun _ => ?_)
    refine z_aload_n C dX5_fill_59 rfl 1 rfl ?_
    refine z_aload_n C dX5_fill_60 rfl 1 rfl ?_
    refine gf_X5_18 C hR.1 dX5_fill_61 ?_
    refine z_iload_n C dX5_fill_64 rfl 2 rfl ?_
    refine z_aaldI (j := pane.toNatClampNeg) C hpn h_ip rfl (hfp _ hi) dX5_fill_65 ?_
    refine z_iload_n C dX5_fill_66 rfl 3 rfl ?_
    refine z_iload C dX5_fill_67 0 rfl ?_
    refine z_iload_n C dX5_fill_69 rfl 4 rfl ?_
    refine z_imul C dX5_fill_70 ?_
    refine z_iadd C dX5_fill_71 ?_
    refine z_callVi (rest := []) (k' := 0) (n' := 0) C (a_X5_puts (z_l X) hR hok ht hi _) (cs_X5_92 C (by decide)) hR.1 rfl rfl rfl rfl (Nat.le_of_ble_eq_true rfl) rfl rfl (by decide) (by decide) dX5_fill_72 (fun x72 Mq72 hq => ?_)
    obtain ⟨e72, hR72⟩ := hq
    rw [e72]
    refine z_if_ne C (tgt := 84) dX5_fill_75 (by decide) (fun c75 => ?_) (fun c75 => ?_)
    · rw [s_fill1, if_neg c75] at hres
      subst hres
      exact kk _ hR72
    · refine z_iinc (v := nI (j + 1)) (lv' := [(5, .int (nI (j + 1))), (0, .ref m), (1, .int pane), (2, .int a), (3, .int b), (4, .int many)]) C dX5_fill_78 0 rfl (nI_1 j) (by decide) rfl ?_
      refine z_goto C (tgt := 52) dX5_fill_81 (by decide) ?_
      exact ih (j + 1) _ _ (by omega) (s_ok_put1 hok hi (hv j (by omega))) hR72 (by rw [s_fill1, if_pos c75] at hres; exact hres)
set_option maxRecDepth 20000 in
theorem c_X5_fill_bad (l : Launch) (G : zG) {M : zM} {m : Nat} {pane : Int32} {fi : Int32} {stp : Int32} {many : Int32} {tp : Nat} {nr : Int32} {pn : Nat} {td : Nat} {ac : Int32} {kn : Int32} {th : Int32}  (h_m : M m = some (cMd tp nr pn td ac kn th)) (h_bad : z_is pane 0 5 = 0) : z_Mi l G qX5_fill (z_rm 4 0 0) [.ref m, .int pane, .int fi, .int stp, .int many] M (fun r M' => (((z_is fi 0 1000000) = 0) ∧ r = 0 ∧ M' = z_up M m (cMd tp nr pn td ac kn (z_lt (z_is pane 0 5) 0))) ∨ ((¬ (z_is fi 0 1000000) = 0) ∧ ((z_is stp 0 1000000) = 0) ∧ r = 0 ∧ M' = z_up M m (cMd tp nr pn td ac kn (z_lt (z_is pane 0 5) 0))) ∨ ((¬ (z_is fi 0 1000000) = 0) ∧ (¬ (z_is stp 0 1000000) = 0) ∧ ((z_is many 0 20) = 0) ∧ r = 0 ∧ M' = z_up M m (cMd tp nr pn td ac kn (z_lt (z_is pane 0 5) 0))) ∨ ((¬ (z_is fi 0 1000000) = 0) ∧ (¬ (z_is stp 0 1000000) = 0) ∧ (¬ (z_is many 0 20) = 0) ∧ r = 0 ∧ M' = z_up M m (cMd tp nr pn td ac kn (z_lt (z_is pane 0 5) 1))))  := by
  refine z_Mi_of _ (plainFor_of_name rfl) rfl (Nat.le_of_ble_eq_true rfl) (fun X hl hG hnm C ret => ?_)
  subst hl; subst hG
  have C : z_C X cX5_fill RX5 6 (z_rm 4 0 0) := C
  show z_W X M 0 0 0 [(0, .ref m), (1, .int pane), (2, .int fi), (3, .int stp), (4, .int many)] []
  refine z_aload_n C dX5_fill_0 rfl 0 rfl ?_
  refine z_iload_n C dX5_fill_1 rfl 1 rfl ?_
  refine z_callSi (rest := [.ref m]) (k' := 0) (n' := 0) C (c_X5_isPane (z_l X) (z_G X) ) (cs_X5_55 C (by decide)) rfl rfl (Nat.le_of_ble_eq_true rfl) rfl rfl (by decide) (by decide) dX5_fill_2 (fun x2 M' hq => ?_)
  obtain ⟨rfl, rfl⟩ := hq
  refine z_iload_n C dX5_fill_5 rfl 2 rfl ?_
  refine z_iconst C (v := 0) dX5_fill_6 (by decide) ?_
  refine z_ldc C (v := 1000000) kw1210 dX5_fill_7 ?_
  refine z_callSi (rest := [.int (z_is pane 0 5), .ref m]) (k' := 0) (n' := 0) C (c_X5_isIn (z_l X) (z_G X) ) (cs_X5_36 C (by decide)) rfl rfl (Nat.le_of_ble_eq_true rfl) rfl rfl (by decide) (by decide) dX5_fill_9 (fun x9 M' hq => ?_)
  obtain ⟨rfl, rfl⟩ := hq
  refine z_if_eq C (tgt := 40) dX5_fill_12 (by decide) (fun c12 => ?_) (fun c12 => ?_)
  · refine z_iconst C (v := 0) dX5_fill_40 (by decide) ?_
    refine z_callVi (rest := []) (k' := 0) (n' := 0) C (c_X5_isLet (z_l X) (z_G X) h_m) (cs_X5_59 C (by decide)) h_m rfl rfl rfl rfl (Nat.le_of_ble_eq_true rfl) rfl rfl (by decide) (by decide) dX5_fill_41 (fun x41 M' hq => ?_)
    obtain ⟨rfl, rfl⟩ := hq
    refine z_if_ne C (tgt := 49) dX5_fill_44 (by decide) (fun c44 => absurd (by simp [z_lr, z_lt, h_bad]) c44) (fun _ => ?_)
    refine z_iconst C (v := 0) dX5_fill_47 (by decide) ?_
    exact ret dX5_fill_48 rfl (Or.inl ⟨c12, rfl, rfl⟩) (by decide) (by decide)
  · refine z_iload_n C dX5_fill_15 rfl 3 rfl ?_
    refine z_iconst C (v := 0) dX5_fill_16 (by decide) ?_
    refine z_ldc C (v := 1000000) kw1210 dX5_fill_17 ?_
    refine z_callSi (rest := [.int (z_is pane 0 5), .ref m]) (k' := 0) (n' := 0) C (c_X5_isIn (z_l X) (z_G X) ) (cs_X5_36 C (by decide)) rfl rfl (Nat.le_of_ble_eq_true rfl) rfl rfl (by decide) (by decide) dX5_fill_19 (fun x19 M' hq => ?_)
    obtain ⟨rfl, rfl⟩ := hq
    refine z_if_eq C (tgt := 40) dX5_fill_22 (by decide) (fun c22 => ?_) (fun c22 => ?_)
    · refine z_iconst C (v := 0) dX5_fill_40 (by decide) ?_
      refine z_callVi (rest := []) (k' := 0) (n' := 0) C (c_X5_isLet (z_l X) (z_G X) h_m) (cs_X5_59 C (by decide)) h_m rfl rfl rfl rfl (Nat.le_of_ble_eq_true rfl) rfl rfl (by decide) (by decide) dX5_fill_41 (fun x41 M' hq => ?_)
      obtain ⟨rfl, rfl⟩ := hq
      refine z_if_ne C (tgt := 49) dX5_fill_44 (by decide) (fun c44 => absurd (by simp [z_lr, z_lt, h_bad]) c44) (fun _ => ?_)
      refine z_iconst C (v := 0) dX5_fill_47 (by decide) ?_
      exact ret dX5_fill_48 rfl (Or.inr (Or.inl ⟨c12, c22, rfl, rfl⟩)) (by decide) (by decide)
    · refine z_iload C dX5_fill_25 4 rfl ?_
      refine z_iconst C (v := 0) dX5_fill_27 (by decide) ?_
      refine z_bipush C (v := 20) dX5_fill_28 (by decide) ?_
      refine z_callSi (rest := [.int (z_is pane 0 5), .ref m]) (k' := 0) (n' := 0) C (c_X5_isIn (z_l X) (z_G X) ) (cs_X5_36 C (by decide)) rfl rfl (Nat.le_of_ble_eq_true rfl) rfl rfl (by decide) (by decide) dX5_fill_30 (fun x30 M' hq => ?_)
      obtain ⟨rfl, rfl⟩ := hq
      refine z_if_eq C (tgt := 40) dX5_fill_33 (by decide) (fun c33 => ?_) (fun c33 => ?_)
      · refine z_iconst C (v := 0) dX5_fill_40 (by decide) ?_
        refine z_callVi (rest := []) (k' := 0) (n' := 0) C (c_X5_isLet (z_l X) (z_G X) h_m) (cs_X5_59 C (by decide)) h_m rfl rfl rfl rfl (Nat.le_of_ble_eq_true rfl) rfl rfl (by decide) (by decide) dX5_fill_41 (fun x41 M' hq => ?_)
        obtain ⟨rfl, rfl⟩ := hq
        refine z_if_ne C (tgt := 49) dX5_fill_44 (by decide) (fun c44 => absurd (by simp [z_lr, z_lt, h_bad]) c44) (fun _ => ?_)
        refine z_iconst C (v := 0) dX5_fill_47 (by decide) ?_
        exact ret dX5_fill_48 rfl (Or.inr (Or.inr (Or.inl ⟨c12, c22, c33, rfl, rfl⟩))) (by decide) (by decide)
      · refine z_iconst C (v := 1) dX5_fill_36 (by decide) ?_
        refine z_goto C (tgt := 41) dX5_fill_37 (by decide) ?_
        refine z_callVi (rest := []) (k' := 0) (n' := 0) C (c_X5_isLet (z_l X) (z_G X) h_m) (cs_X5_59 C (by decide)) h_m rfl rfl rfl rfl (Nat.le_of_ble_eq_true rfl) rfl rfl (by decide) (by decide) dX5_fill_41 (fun x41 M' hq => ?_)
        obtain ⟨rfl, rfl⟩ := hq
        refine z_if_ne C (tgt := 49) dX5_fill_44 (by decide) (fun c44 => absurd (by simp [z_lr, z_lt, h_bad]) c44) (fun _ => ?_)
        refine z_iconst C (v := 0) dX5_fill_47 (by decide) ?_
        exact ret dX5_fill_48 rfl (Or.inr (Or.inr (Or.inr (⟨c12, c22, c33, rfl, rfl⟩)))) (by decide) (by decide)
set_option maxRecDepth 20000 in
theorem g_X5_fill (l : Launch) {G : zG} {u : sS} {m : Nat} {th : Int32} {K : Nat → Nat} {tp pn td : Nat} {Mw : zM} (hR : RI G u m th K tp pn td Mw) {t : Nat} (hok : s_ok t u) (ht : t ≤ 64) {pane fi stp many : Int32} (h_ok : z_is pane 0 5 = 1) (h_ip : vp_in pane 6) (hi : pane.toNatClampNeg < 6) : z_Mi l G qX5_fill (z_rm 4 0 0) [.ref m, .int pane, .int fi, .int stp, .int many] Mw (RP G m pn td (z_lt (z_is pane 0 5) (t_and (z_is fi 0 1000000) (t_and (z_is stp 0 1000000) (z_is many 0 20)))) u (s_fill u pane.toNatClampNeg fi stp many))  := by
  obtain ⟨ft, htp, hft⟩ := RI_tpf hR
  obtain ⟨fp, hpn, hfp⟩ := RI_pnf hR
  refine z_Mi_of _ (plainFor_of_name rfl) rfl (Nat.le_of_ble_eq_true rfl) (fun X hl hG hnm C ret => ?_)
  subst hl; subst hG
  have C : z_C X cX5_fill RX5 6 (z_rm 4 0 0) := C
  show z_W X Mw 0 0 0 [(0, .ref m), (1, .int pane), (2, .int fi), (3, .int stp), (4, .int many)] []
  refine z_aload_n C dX5_fill_0 rfl 0 rfl ?_
  refine z_iload_n C dX5_fill_1 rfl 1 rfl ?_
  refine z_callSi (rest := [.ref m]) (k' := 0) (n' := 0) C (c_X5_isPane (z_l X) (z_G X) ) (cs_X5_55 C (by decide)) rfl rfl (Nat.le_of_ble_eq_true rfl) rfl rfl (by decide) (by decide) dX5_fill_2 (fun x2 M' hq => ?_)
  obtain ⟨rfl, rfl⟩ := hq
  refine z_iload_n C dX5_fill_5 rfl 2 rfl ?_
  refine z_iconst C (v := 0) dX5_fill_6 (by decide) ?_
  refine z_ldc C (v := 1000000) kw1210 dX5_fill_7 ?_
  refine z_callSi (rest := [.int (z_is pane 0 5), .ref m]) (k' := 0) (n' := 0) C (c_X5_isIn (z_l X) (z_G X) ) (cs_X5_36 C (by decide)) rfl rfl (Nat.le_of_ble_eq_true rfl) rfl rfl (by decide) (by decide) dX5_fill_9 (fun x9 M' hq => ?_)
  obtain ⟨rfl, rfl⟩ := hq
  refine z_if_eq C (tgt := 40) dX5_fill_12 (by decide) (fun c12 => ?_) (fun c12 => ?_)
  · refine z_iconst C (v := 0) dX5_fill_40 (by decide) ?_
    refine z_callVi (rest := []) (k' := 0) (n' := 0) C (c_X5_isLet (z_l X) (z_G X) hR.1) (cs_X5_59 C (by decide)) hR.1 rfl rfl rfl rfl (Nat.le_of_ble_eq_true rfl) rfl rfl (by decide) (by decide) dX5_fill_41 (fun x41 M' hq => ?_)
    obtain ⟨rfl, rfl⟩ := hq
    refine z_if_ne C (tgt := 49) dX5_fill_44 (by decide) (fun c44 => absurd (by simp [z_lr, z_lt, h_ok]) c44) (fun _ => ?_)
    refine z_iconst C (v := 0) dX5_fill_47 (by decide) ?_
    refine ret dX5_fill_48 rfl ?_ (by decide) (by decide)
    exact RP_bad (z_lt2 (by simp [t_and, c12])) (RI_ak hR _ _ _) (by simp [t_and, c12])
  · refine z_iload_n C dX5_fill_15 rfl 3 rfl ?_
    refine z_iconst C (v := 0) dX5_fill_16 (by decide) ?_
    refine z_ldc C (v := 1000000) kw1210 dX5_fill_17 ?_
    refine z_callSi (rest := [.int (z_is pane 0 5), .ref m]) (k' := 0) (n' := 0) C (c_X5_isIn (z_l X) (z_G X) ) (cs_X5_36 C (by decide)) rfl rfl (Nat.le_of_ble_eq_true rfl) rfl rfl (by decide) (by decide) dX5_fill_19 (fun x19 M' hq => ?_)
    obtain ⟨rfl, rfl⟩ := hq
    refine z_if_eq C (tgt := 40) dX5_fill_22 (by decide) (fun c22 => ?_) (fun c22 => ?_)
    · refine z_iconst C (v := 0) dX5_fill_40 (by decide) ?_
      refine z_callVi (rest := []) (k' := 0) (n' := 0) C (c_X5_isLet (z_l X) (z_G X) hR.1) (cs_X5_59 C (by decide)) hR.1 rfl rfl rfl rfl (Nat.le_of_ble_eq_true rfl) rfl rfl (by decide) (by decide) dX5_fill_41 (fun x41 M' hq => ?_)
      obtain ⟨rfl, rfl⟩ := hq
      refine z_if_ne C (tgt := 49) dX5_fill_44 (by decide) (fun c44 => absurd (by simp [z_lr, z_lt, h_ok]) c44) (fun _ => ?_)
      refine z_iconst C (v := 0) dX5_fill_47 (by decide) ?_
      refine ret dX5_fill_48 rfl ?_ (by decide) (by decide)
      exact RP_bad (z_lt2 (by simp [t_and, c12, c22])) (RI_ak hR _ _ _) (by simp [t_and, c12, c22])
    · refine z_iload C dX5_fill_25 4 rfl ?_
      refine z_iconst C (v := 0) dX5_fill_27 (by decide) ?_
      refine z_bipush C (v := 20) dX5_fill_28 (by decide) ?_
      refine z_callSi (rest := [.int (z_is pane 0 5), .ref m]) (k' := 0) (n' := 0) C (c_X5_isIn (z_l X) (z_G X) ) (cs_X5_36 C (by decide)) rfl rfl (Nat.le_of_ble_eq_true rfl) rfl rfl (by decide) (by decide) dX5_fill_30 (fun x30 M' hq => ?_)
      obtain ⟨rfl, rfl⟩ := hq
      refine z_if_eq C (tgt := 40) dX5_fill_33 (by decide) (fun c33 => ?_) (fun c33 => ?_)
      · refine z_iconst C (v := 0) dX5_fill_40 (by decide) ?_
        refine z_callVi (rest := []) (k' := 0) (n' := 0) C (c_X5_isLet (z_l X) (z_G X) hR.1) (cs_X5_59 C (by decide)) hR.1 rfl rfl rfl rfl (Nat.le_of_ble_eq_true rfl) rfl rfl (by decide) (by decide) dX5_fill_41 (fun x41 M' hq => ?_)
        obtain ⟨rfl, rfl⟩ := hq
        refine z_if_ne C (tgt := 49) dX5_fill_44 (by decide) (fun c44 => absurd (by simp [z_lr, z_lt, h_ok]) c44) (fun _ => ?_)
        refine z_iconst C (v := 0) dX5_fill_47 (by decide) ?_
        refine ret dX5_fill_48 rfl ?_ (by decide) (by decide)
        exact RP_bad (z_lt2 (by simp [t_and, c12, c22, c33])) (RI_ak hR _ _ _) (by simp [t_and, c12, c22, c33])
      · refine z_iconst C (v := 1) dX5_fill_36 (by decide) ?_
        refine z_goto C (tgt := 41) dX5_fill_37 (by decide) ?_
        refine z_callVi (rest := []) (k' := 0) (n' := 0) C (c_X5_isLet (z_l X) (z_G X) hR.1) (cs_X5_59 C (by decide)) hR.1 rfl rfl rfl rfl (Nat.le_of_ble_eq_true rfl) rfl rfl (by decide) (by decide) dX5_fill_41 (fun x41 M' hq => ?_)
        obtain ⟨rfl, rfl⟩ := hq
        refine z_if_ne C (tgt := 49) dX5_fill_44 (by decide) (fun _ => ?_) (fun c44 => absurd c44 (by simp [z_lr, z_lt, h_ok]))
        refine z_iconst C (v := 0) dX5_fill_49 (by decide) ?_
        refine z_istore (lv' := [(5, .int 0), (0, .ref m), (1, .int pane), (2, .int fi), (3, .int stp), (4, .int many)]) C dX5_fill_50 (by decide) rfl ?_
        refine z_at (M' := _) (lv' := [(5, .int (nI 0)), (0, .ref m), (1, .int pane), (2, .int fi), (3, .int stp), (4, .int many)]) rfl (by rw [nI_0]) rfl ?_
        refine lp_X5_fill2 C ht h_ip hi (s_fv c12 c22) (z_rgN c33).1 (z_r20 c33) (fun Mq9 h9 => ?_) _ 0 u _ (Nat.zero_add _) hok (RI_th hR _) rfl
        refine z_aload_n C dX5_fill_84 rfl 1 rfl ?_
        refine z_iload C dX5_fill_85 0 rfl ?_
        refine z_callVi (rest := []) (k' := 0) (n' := 0) C (c_X5_did (z_l X) (z_G X) h9.1) (cs_X5_63 C (by decide)) h9.1 rfl rfl rfl rfl (Nat.le_of_ble_eq_true rfl) rfl rfl (by decide) (by decide) dX5_fill_87 (fun x87 M' hq => ?_)
        obtain ⟨rfl, rfl⟩ := hq
        refine ret dX5_fill_90 rfl ?_ (by decide) (by decide)
        exact RP_ok (v := s_act (s_fill1 pane.toNatClampNeg fi stp many.toNatClampNeg 0 u).2) rfl (z_lt3 h_ok (by simp [t_and, c12, c22, z_is11 c33])) (RI_ak h9 _ _ _) (by simp [t_and, c12, c22, z_is11 c33])
theorem a_X5_fill (l : Launch) {G : zG} {u : sS} {m : Nat} {th : Int32} {K : Nat → Nat} {tp pn td : Nat} {Mw : zM} (hR : RI G u m th K tp pn td Mw) {t : Nat} (hok : s_ok t u) (ht : t ≤ 64) (pane fi stp many : Int32) : z_Mi l G qX5_fill (z_rm 4 0 0) [.ref m, .int pane, .int fi, .int stp, .int many] Mw (RP G m pn td (z_lt (z_is pane 0 5) (t_and (z_is fi 0 1000000) (t_and (z_is stp 0 1000000) (z_is many 0 20)))) u (s_fill u pane.toNatClampNeg fi stp many)) := by
  rcases z_pc pane with ⟨h_ok, h_ip, hi⟩ | ⟨h_bad, -⟩
  · exact g_X5_fill l hR hok ht h_ok h_ip hi
  · refine z_Mi_mono (c_X5_fill_bad l G hR.1 h_bad) ?_
    rintro r M' (⟨b0_0, hr9, rfl⟩ | ⟨b1_0, b1_1, hr9, rfl⟩ | ⟨b2_0, b2_1, b2_2, hr9, rfl⟩ | ⟨b3_0, b3_1, b3_2, hr9, rfl⟩)
    · exact RP_bad (z_lt0 h_bad) (RI_ak hR _ _ _) (by first | rfl | (rw [h_bad]; rfl))
    · exact RP_bad (z_lt0 h_bad) (RI_ak hR _ _ _) (by first | rfl | (rw [h_bad]; rfl))
    · exact RP_bad (z_lt0 h_bad) (RI_ak hR _ _ _) (by first | rfl | (rw [h_bad]; rfl))
    · exact RP_bad (z_lt0 h_bad) (RI_ak hR _ _ _) (by first | rfl | (rw [h_bad]; rfl))
set_option maxRecDepth 20000 in
theorem lp_X5_pack2 {X : zX} (C : z_C X cX5_pack RX5 5 (z_rm 4 0 0)) {m : Nat} {th : Int32} {K : Nat → Nat} {tp pn td : Nat} {t : Nat} (ht : t ≤ 64) {i : Nat} (hi : i < 6) {pane cq : Int32} {mq : Nat} (hmn : cq = nI mq) (hmb : mq ≤ 16) {res : sS} (kk : ∀ M', RI (z_G X) res m th K tp pn td M' → z_W X M' 0 0 83 [(4, .int (nI mq)), (3, .int cq), (2, .ref (K i)), (0, .ref m), (1, .int pane)] []) : ∀ (d j : Nat) (u : sS) (Mw : zM), j + d = mq → s_ok t u → p_li (s_pn u i) - p_po (s_pn u i) = nI mq → RI (z_G X) u m th K tp pn td Mw → s_pack1 i d j u = res → z_W X Mw 0 0 43 [(4, .int (nI j)), (3, .int cq), (2, .ref (K i)), (0, .ref m), (1, .int pane)] [] := by
  intro d
  induction d with
  | zero =>
    intro j u Mw hj hok hl hR hres
    refine z_iload C dX5_pack_43 0 rfl ?_
    refine z_iload_n C dX5_pack_45 rfl 1 rfl ?_
    refine z_icmp_ge C (tgt := 83) dX5_pack_46 (by decide) (fun _ => ?_) (fun c46 => absurd (by rw [hmn]; exact nI_le (by omega) (by omega)) c46)
    have ejm : j = mq := by omega
    subst ejm
    subst hres
    exact kk _ hR
  | succ d ih =>
    intro j u Mw hj hok hl hR hres
    obtain ⟨ft, htp, hft⟩ := RI_tpf hR
    refine z_iload C dX5_pack_43 0 rfl ?_
    refine z_iload_n C dX5_pack_45 rfl 1 rfl ?_
    refine z_icmp_ge C (tgt := 83) dX5_pack_46 (by decide) (fun c46 => absurd c46 (by rw [hmn]; exact nI_ge (by omega) (by omega))) (fun _ => ?_)
    refine z_aload_n C dX5_pack_49 rfl 3 rfl ?_
    refine gf_X5_9 C hR.1 dX5_pack_50 ?_
    refine z_aload_n C dX5_pack_53 rfl 3 rfl ?_
    refine z_aload_n C dX5_pack_54 rfl 2 rfl ?_
    refine z_iload C dX5_pack_55 0 rfl ?_
    refine z_callVi (rest := [.ref tp]) (k' := 0) (n' := 0) C (c_X5_where (z_l X) (z_G X) (RI_K hR hi)) (cs_X5_51 C (by decide)) hR.1 rfl rfl rfl rfl (Nat.le_of_ble_eq_true rfl) rfl rfl (by decide) (by decide) dX5_pack_57 (fun x57 M' hq => ?_)
    obtain ⟨rfl, rfl⟩ := hq
    refine z_aload_n C dX5_pack_60 rfl 3 rfl ?_
    refine gf_X5_9 C hR.1 dX5_pack_61 ?_
    refine z_aload_n C dX5_pack_64 rfl 3 rfl ?_
    refine z_aload_n C dX5_pack_65 rfl 2 rfl ?_
    refine z_aload_n C dX5_pack_66 rfl 2 rfl ?_
    refine z_iconst C (v := 4) dX5_pack_67 (by decide) ?_
    refine z_pl4 C (RI_K hR hi) dX5_pack_68 ?_
    refine z_iload C dX5_pack_69 0 rfl ?_
    refine z_iadd C dX5_pack_71 ?_
    refine z_callVi (rest := [.ref tp, .int (((nI (s_ba (s_ln u) (p_ro (s_pn u i)))) + (p_sa (s_pn u i))) + (nI j)), .ref tp]) (k' := 0) (n' := 0) C (c_X5_where (z_l X) (z_G X) (RI_K hR hi)) (cs_X5_51 C (by decide)) hR.1 rfl rfl rfl rfl (Nat.le_of_ble_eq_true rfl) rfl rfl (by decide) (by decide) dX5_pack_72 (fun x72 M' hq => ?_)
    obtain ⟨rfl, rfl⟩ := hq
    refine z_iald (j := (((nI (s_ba (s_ln u) (p_ro (s_pn u i)))) + (p_sa (s_pn u i))) + ((p_po (s_pn u i)) + (nI j))).toNatClampNeg) C htp (s_tin hok ht hi (s_pkI hok hi hl hmb (by omega)).2) rfl dX5_pack_75 ?_
    refine z_iast (j := (((nI (s_ba (s_ln u) (p_ro (s_pn u i)))) + (p_sa (s_pn u i))) + (nI j)).toNatClampNeg) C htp (s_tin hok ht hi (s_pkI hok hi hl hmb (by omega)).1) rfl dX5_pack_76 ?_
    refine z_iinc (v := nI (j + 1)) (lv' := [(4, .int (nI (j + 1))), (3, .int cq), (2, .ref (K i)), (0, .ref m), (1, .int pane)]) C dX5_pack_77 0 rfl (nI_1 j) (by decide) rfl ?_
    refine z_goto C (tgt := 43) dX5_pack_80 (by decide) ?_
    exact ih (j + 1) _ _ (by omega) (s_ok_wr hok _ _ (s_v0 hok _ _)) hl (RI_cp hR hok ht hi htp (s_pkI hok hi hl hmb (by omega)).1 (s_pkI hok hi hl hmb (by omega)).2) hres
set_option maxRecDepth 20000 in
theorem c_X5_pack_bad (l : Launch) (G : zG) {M : zM} {m : Nat} {pane : Int32} {tp : Nat} {nr : Int32} {pn : Nat} {td : Nat} {ac : Int32} {kn : Int32} {th : Int32}  (h_m : M m = some (cMd tp nr pn td ac kn th)) (h_bad : z_is pane 0 5 = 0) : z_Mi l G qX5_pack (z_rm 4 0 0) [.ref m, .int pane] M (fun r M' => r = 0 ∧ M' = z_up M m (cMd tp nr pn td ac kn (z_lt (z_is pane 0 5) 1)))  := by
  refine z_Mi_of _ (plainFor_of_name rfl) rfl (Nat.le_of_ble_eq_true rfl) (fun X hl hG hnm C ret => ?_)
  subst hl; subst hG
  have C : z_C X cX5_pack RX5 5 (z_rm 4 0 0) := C
  show z_W X M 0 0 0 [(0, .ref m), (1, .int pane)] []
  refine z_aload_n C dX5_pack_0 rfl 0 rfl ?_
  refine z_iload_n C dX5_pack_1 rfl 1 rfl ?_
  refine z_callSi (rest := [.ref m]) (k' := 0) (n' := 0) C (c_X5_isPane (z_l X) (z_G X) ) (cs_X5_55 C (by decide)) rfl rfl (Nat.le_of_ble_eq_true rfl) rfl rfl (by decide) (by decide) dX5_pack_2 (fun x2 M' hq => ?_)
  obtain ⟨rfl, rfl⟩ := hq
  refine z_iconst C (v := 1) dX5_pack_5 (by decide) ?_
  refine z_callVi (rest := []) (k' := 0) (n' := 0) C (c_X5_isLet (z_l X) (z_G X) h_m) (cs_X5_59 C (by decide)) h_m rfl rfl rfl rfl (Nat.le_of_ble_eq_true rfl) rfl rfl (by decide) (by decide) dX5_pack_6 (fun x6 M' hq => ?_)
  obtain ⟨rfl, rfl⟩ := hq
  refine z_if_ne C (tgt := 14) dX5_pack_9 (by decide) (fun c9 => absurd (by simp [z_lr, z_lt, h_bad]) c9) (fun _ => ?_)
  refine z_iconst C (v := 0) dX5_pack_12 (by decide) ?_
  exact ret dX5_pack_13 rfl (⟨rfl, rfl⟩) (by decide) (by decide)
set_option maxRecDepth 20000 in
theorem g_X5_pack (l : Launch) {G : zG} {u : sS} {m : Nat} {th : Int32} {K : Nat → Nat} {tp pn td : Nat} {Mw : zM} (hR : RI G u m th K tp pn td Mw) {t : Nat} (hok : s_ok t u) (ht : t ≤ 64) {pane : Int32} (h_ok : z_is pane 0 5 = 1) (h_ip : vp_in pane 6) (hi : pane.toNatClampNeg < 6) : z_Mi l G qX5_pack (z_rm 4 0 0) [.ref m, .int pane] Mw (RP G m pn td (z_lt (z_is pane 0 5) 1) u (s_pack u pane.toNatClampNeg))  := by
  obtain ⟨ft, htp, hft⟩ := RI_tpf hR
  obtain ⟨fp, hpn, hfp⟩ := RI_pnf hR
  refine z_Mi_of _ (plainFor_of_name rfl) rfl (Nat.le_of_ble_eq_true rfl) (fun X hl hG hnm C ret => ?_)
  subst hl; subst hG
  have C : z_C X cX5_pack RX5 5 (z_rm 4 0 0) := C
  show z_W X Mw 0 0 0 [(0, .ref m), (1, .int pane)] []
  refine z_aload_n C dX5_pack_0 rfl 0 rfl ?_
  refine z_iload_n C dX5_pack_1 rfl 1 rfl ?_
  refine z_callSi (rest := [.ref m]) (k' := 0) (n' := 0) C (c_X5_isPane (z_l X) (z_G X) ) (cs_X5_55 C (by decide)) rfl rfl (Nat.le_of_ble_eq_true rfl) rfl rfl (by decide) (by decide) dX5_pack_2 (fun x2 M' hq => ?_)
  obtain ⟨rfl, rfl⟩ := hq
  refine z_iconst C (v := 1) dX5_pack_5 (by decide) ?_
  refine z_callVi (rest := []) (k' := 0) (n' := 0) C (c_X5_isLet (z_l X) (z_G X) hR.1) (cs_X5_59 C (by decide)) hR.1 rfl rfl rfl rfl (Nat.le_of_ble_eq_true rfl) rfl rfl (by decide) (by decide) dX5_pack_6 (fun x6 M' hq => ?_)
  obtain ⟨rfl, rfl⟩ := hq
  refine z_if_ne C (tgt := 14) dX5_pack_9 (by decide) (fun _ => ?_) (fun c9 => absurd c9 (by simp [z_lr, z_lt, h_ok]))
  refine z_aload_n C dX5_pack_14 rfl 0 rfl ?_
  refine gf_X5_18 C (z_up_s _ _ _) dX5_pack_15 ?_
  refine z_iload_n C dX5_pack_18 rfl 1 rfl ?_
  refine z_aaldI (j := pane.toNatClampNeg) C ((z_up_n _ _ (z_ne hpn hR.1 (by intro h; cases h))).trans hpn) h_ip rfl (hfp _ hi) dX5_pack_19 ?_
  refine z_astore_n (lv' := [(2, .ref (K pane.toNatClampNeg)), (0, .ref m), (1, .int pane)]) C dX5_pack_20 rfl (by decide) rfl ?_
  refine z_aload_n C dX5_pack_21 rfl 0 rfl ?_
  refine z_bipush C (v := 7) dX5_pack_22 (by decide) ?_
  refine z_pl7 C ((z_up_n _ _ (z_ne (RI_K hR hi) hR.1 (by intro h; cases h))).trans (RI_K hR hi)) dX5_pack_24 ?_
  refine z_iconst C (v := 1) dX5_pack_25 (by decide) ?_
  refine z_icmp_ne C (tgt := 35) dX5_pack_26 (by decide) (fun c26 => ?_) (fun c26 => ?_)
  · refine z_aload_n C dX5_pack_35 rfl 0 rfl ?_
    refine z_callSi (rest := []) (k' := 0) (n' := 0) C (c_X5_left (z_l X) (z_G X) ((z_up_n _ _ (z_ne (RI_K hR hi) hR.1 (by intro h; cases h))).trans (RI_K hR hi))) (cs_X5_43 C (by decide)) rfl rfl (Nat.le_of_ble_eq_true rfl) rfl rfl (by decide) (by decide) dX5_pack_36 (fun x36 M' hq => ?_)
    obtain ⟨rfl, rfl⟩ := hq
    refine z_istore_n (lv' := [(3, .int ((p_li (s_pn u pane.toNatClampNeg)) - (p_po (s_pn u pane.toNatClampNeg)))), (2, .ref (K pane.toNatClampNeg)), (0, .ref m), (1, .int pane)]) C dX5_pack_39 rfl (by decide) rfl ?_
    refine z_iconst C (v := 0) dX5_pack_40 (by decide) ?_
    refine z_istore (lv' := [(4, .int 0), (3, .int ((p_li (s_pn u pane.toNatClampNeg)) - (p_po (s_pn u pane.toNatClampNeg)))), (2, .ref (K pane.toNatClampNeg)), (0, .ref m), (1, .int pane)]) C dX5_pack_41 (by decide) rfl ?_
    refine z_at (M' := _) (lv' := [(4, .int (nI 0)), (3, .int (p_li (s_pn u pane.toNatClampNeg) - p_po (s_pn u pane.toNatClampNeg))), (2, .ref (K pane.toNatClampNeg)), (0, .ref m), (1, .int pane)]) rfl (by rw [nI_0]) rfl ?_
    refine lp_X5_pack2 C ht hi (s_pkM hok hi).1 (s_pkM hok hi).2 (fun Mq9 h9 => ?_) _ 0 u _ (Nat.zero_add _) hok (s_pkM hok hi).1 (RI_th hR _) rfl
    refine z_aload_n C dX5_pack_83 rfl 3 rfl ?_
    refine z_aload_n C dX5_pack_84 rfl 2 rfl ?_
    refine z_iload_n C dX5_pack_85 rfl 1 rfl ?_
    refine z_aload_n C dX5_pack_86 rfl 2 rfl ?_
    refine z_iconst C (v := 3) dX5_pack_87 (by decide) ?_
    refine z_pl3 C (by have h8 := RI_K h9 hi; rw [(s_pack1_pn _ _ _).1, (s_pack1_pn _ _ _).2.2] at h8; exact h8) dX5_pack_88 ?_
    refine z_callVi (rest := []) (k' := 0) (n' := 0) C (c_X5_begun (z_l X) (z_G X) h9.1 (by have h8 := RI_K h9 hi; rw [(s_pack1_pn _ _ _).1, (s_pack1_pn _ _ _).2.2] at h8; exact h8)) (cs_X5_88 C (by decide)) h9.1 rfl rfl rfl rfl (Nat.le_of_ble_eq_true rfl) rfl rfl (by decide) (by decide) dX5_pack_89 (fun x89 M' hq => ?_)
    obtain ⟨rfl, rfl⟩ := hq
    refine z_pop C dX5_pack_92 rfl ?_
    refine z_iload_n C dX5_pack_93 rfl 1 rfl ?_
    refine ret dX5_pack_94 rfl ?_ (by decide) (by decide)
    refine RP_ok (K' := K) (tp' := tp) (v := s_act (s_up (s_pack1 pane.toNatClampNeg (p_li (s_pn u pane.toNatClampNeg) - p_po (s_pn u pane.toNatClampNeg)).toNatClampNeg 0 u) pane.toNatClampNeg (p_po' (p_bg (s_pn u pane.toNatClampNeg) (p_cp (s_pn u pane.toNatClampNeg))) (p_li (s_pn u pane.toNatClampNeg) - p_po (s_pn u pane.toNatClampNeg))))) (by unfold s_pack; rw [if_neg c26]) (z_lt3 h_ok rfl) ?_ (th' := z_lt (z_is pane 0 5) 1)
    have h8 := RI_ak (RI_pn h9 hi (p_po' (p_bg (s_pn u pane.toNatClampNeg) (p_cp (s_pn u pane.toNatClampNeg))) (p_li (s_pn u pane.toNatClampNeg) - p_po (s_pn u pane.toNatClampNeg)))) (s_ac (s_pack1 pane.toNatClampNeg (p_li (s_pn u pane.toNatClampNeg) - p_po (s_pn u pane.toNatClampNeg)).toNatClampNeg 0 u) + 1) (s_kn (s_pack1 pane.toNatClampNeg (p_li (s_pn u pane.toNatClampNeg) - p_po (s_pn u pane.toNatClampNeg)).toNatClampNeg 0 u)) (z_lt (z_is pane 0 5) 1)
    rw [(s_pack1_pn _ _ _).2.2] at h8
    exact h8
  · refine z_aload_n C dX5_pack_29 rfl 1 rfl ?_
    refine z_iconst C (v := 4) dX5_pack_30 (by decide) ?_
    refine z_callVi (rest := []) (k' := 0) (n' := 0) C (c_X5_refuse (z_l X) (z_G X) (z_up_s _ _ _) ((z_up_n _ _ (z_ne (RI_tdf hR) hR.1 (by intro h; cases h))).trans (RI_tdf hR)) (z_inL (by decide)) (show (4 : Int32).toNatClampNeg = 4 by decide)) (cs_X5_47 C (by decide)) (z_up_s _ _ _) rfl rfl rfl rfl (Nat.le_of_ble_eq_true rfl) rfl rfl (by decide) (by decide) dX5_pack_31 (fun x31 M' hq => ?_)
    obtain ⟨rfl, rfl⟩ := hq
    refine ret dX5_pack_34 rfl ?_ (by decide) (by decide)
    exact RP_ok (v := s_tel u 4) (by unfold s_pack; rw [if_pos c26]) (z_lt3 h_ok rfl) (RI_td (RI_ak hR _ _ _) _)
theorem a_X5_pack (l : Launch) {G : zG} {u : sS} {m : Nat} {th : Int32} {K : Nat → Nat} {tp pn td : Nat} {Mw : zM} (hR : RI G u m th K tp pn td Mw) {t : Nat} (hok : s_ok t u) (ht : t ≤ 64) (pane : Int32) : z_Mi l G qX5_pack (z_rm 4 0 0) [.ref m, .int pane] Mw (RP G m pn td (z_lt (z_is pane 0 5) 1) u (s_pack u pane.toNatClampNeg)) := by
  rcases z_pc pane with ⟨h_ok, h_ip, hi⟩ | ⟨h_bad, -⟩
  · exact g_X5_pack l hR hok ht h_ok h_ip hi
  · refine z_Mi_mono (c_X5_pack_bad l G hR.1 h_bad) ?_
    rintro r M' ⟨hr9, rfl⟩
    · exact RP_bad (z_lt0 h_bad) (RI_ak hR _ _ _) (by first | rfl | (rw [h_bad]; rfl))
end
section
theorem s_pour0k {u : sS} {i k : Nat} : (s_pour0 u i k).1 ≤ 0 ↔ (s_pour0 u i k).1 = 0 := s_put1k
theorem z_10 {x : Int32} (h : ¬ z_is x 0 9 = 0) : ∃ j : Nat, j < 10 ∧ x = nI j ∧ x.toNatClampNeg = j := by
  obtain ⟨h1, h2⟩ := z_is1 h
  have h3 := z_cl h1
  rw [z_le, z_t0] at h1
  rw [z_le, show (9 : Int32).toInt = 9 from by decide] at h2
  refine ⟨x.toNatClampNeg, by omega, ?_, rfl⟩
  rw [z_eqI, nI_T (by omega)]
  omega
def s_l10 (a0 a1 a2 a3 a4 a5 a6 a7 a8 a9 : Int32) : Nat → Int32 := upd (upd (upd (upd (upd (upd (upd (upd (upd (upd (fun _ => 0) 0 a0) 1 a1) 2 a2) 3 a3) 4 a4) 5 a5) 6 a6) 7 a7) 8 a8) 9 a9
theorem s_l10_of {a0 a1 a2 a3 a4 a5 a6 a7 a8 a9 x : Int32} (h : ¬ z_is x 0 9 = 0) : s_l10 a0 a1 a2 a3 a4 a5 a6 a7 a8 a9 x.toNatClampNeg = if x = 0 then a0 else if x = 1 then a1 else if x = 2 then a2 else if x = 3 then a3 else if x = 4 then a4 else if x = 5 then a5 else if x = 6 then a6 else if x = 7 then a7 else if x = 8 then a8 else a9 := by
  obtain ⟨j, hj, rfl, e⟩ := z_10 h
  rw [e]
  rcases (show j = 0 ∨ j = 1 ∨ j = 2 ∨ j = 3 ∨ j = 4 ∨ j = 5 ∨ j = 6 ∨ j = 7 ∨ j = 8 ∨ j = 9 by omega) with rfl | rfl | rfl | rfl | rfl | rfl | rfl | rfl | rfl | rfl <;> rfl
theorem s_of10 {u : sS} {i : Nat} {wh a5 a6 : Int32} (h5 : (if p_rd (s_pn u i) = 0 then p_sa (s_pn u i) else -9) = a5) (h6 : (if p_li (s_pn u i) - p_po (s_pn u i) ≤ 0 then (0 : Int32) else 1) = a6) (h : ¬ z_is wh 0 9 = 0) : s_of u i wh = s_l10 (p_po (s_pn u i)) (p_li (s_pn u i)) (p_cp (s_pn u i)) (p_li (s_pn u i) - p_po (s_pn u i)) (p_mk (s_pn u i)) a5 a6 (p_rd (s_pn u i)) (1 - p_rd (s_pn u i)) (p_cp (s_pn u i) - p_li (s_pn u i)) wh.toNatClampNeg := by
  rw [s_l10_of h]
  unfold s_of
  rw [h5, h6]
theorem dX5_pour_0 : decode cX5_pour 0 = .ok (.aload_n 0, 1) := by decide +kernel
theorem dX5_pour_1 : decode cX5_pour 1 = .ok (.iload_n 1, 1) := by decide +kernel
theorem dX5_pour_2 : decode cX5_pour 2 = .ok (.invokestatic 55, 3) := by decide +kernel
theorem dX5_pour_5 : decode cX5_pour 5 = .ok (.ifCond .eq 14, 3) := by decide +kernel
theorem dX5_pour_8 : decode cX5_pour 8 = .ok (.iload_n 2, 1) := by decide +kernel
theorem dX5_pour_9 : decode cX5_pour 9 = .ok (.invokestatic 55, 3) := by decide +kernel
theorem dX5_pour_12 : decode cX5_pour 12 = .ok (.ifCond .eq 7, 3) := by decide +kernel
theorem dX5_pour_15 : decode cX5_pour 15 = .ok (.iconst 1, 1) := by decide +kernel
theorem dX5_pour_16 : decode cX5_pour 16 = .ok (.goto 4, 3) := by decide +kernel
theorem dX5_pour_19 : decode cX5_pour 19 = .ok (.iconst 0, 1) := by decide +kernel
theorem dX5_pour_20 : decode cX5_pour 20 = .ok (.iload_n 3, 1) := by decide +kernel
theorem dX5_pour_21 : decode cX5_pour 21 = .ok (.iconst 0, 1) := by decide +kernel
theorem dX5_pour_22 : decode cX5_pour 22 = .ok (.bipush 20, 2) := by decide +kernel
theorem dX5_pour_24 : decode cX5_pour 24 = .ok (.invokestatic 36, 3) := by decide +kernel
theorem dX5_pour_27 : decode cX5_pour 27 = .ok (.invokevirtual 59, 3) := by decide +kernel
theorem dX5_pour_30 : decode cX5_pour 30 = .ok (.ifCond .ne 5, 3) := by decide +kernel
theorem dX5_pour_33 : decode cX5_pour 33 = .ok (.iconst 0, 1) := by decide +kernel
theorem dX5_pour_34 : decode cX5_pour 34 = .ok (.ireturn, 1) := by decide +kernel
theorem dX5_pour_35 : decode cX5_pour 35 = .ok (.aload_n 0, 1) := by decide +kernel
theorem dX5_pour_36 : decode cX5_pour 36 = .ok (.getfield 18, 3) := by decide +kernel
theorem dX5_pour_39 : decode cX5_pour 39 = .ok (.iload_n 1, 1) := by decide +kernel
theorem dX5_pour_40 : decode cX5_pour 40 = .ok (.aaload, 1) := by decide +kernel
theorem dX5_pour_41 : decode cX5_pour 41 = .ok (.astore 4, 2) := by decide +kernel
theorem dX5_pour_43 : decode cX5_pour 43 = .ok (.iconst 0, 1) := by decide +kernel
theorem dX5_pour_44 : decode cX5_pour 44 = .ok (.istore 5, 2) := by decide +kernel
theorem dX5_pour_46 : decode cX5_pour 46 = .ok (.iload 5, 2) := by decide +kernel
theorem dX5_pour_48 : decode cX5_pour 48 = .ok (.iload_n 3, 1) := by decide +kernel
theorem dX5_pour_49 : decode cX5_pour 49 = .ok (.if_icmp .ge 74, 3) := by decide +kernel
theorem dX5_pour_52 : decode cX5_pour 52 = .ok (.aload 4, 2) := by decide +kernel
theorem dX5_pour_54 : decode cX5_pour 54 = .ok (.invokestatic 43, 3) := by decide +kernel
theorem dX5_pour_57 : decode cX5_pour 57 = .ok (.ifCond .le 66, 3) := by decide +kernel
theorem dX5_pour_60 : decode cX5_pour 60 = .ok (.aload 4, 2) := by decide +kernel
theorem dX5_pour_62 : decode cX5_pour 62 = .ok (.iconst 4, 1) := by decide +kernel
theorem dX5_pour_63 : decode cX5_pour 63 = .ok (.dup2, 1) := by decide +kernel
theorem dX5_pour_64 : decode cX5_pour 64 = .ok (.iaload, 1) := by decide +kernel
theorem dX5_pour_65 : decode cX5_pour 65 = .ok (.iconst 1, 1) := by decide +kernel
theorem dX5_pour_66 : decode cX5_pour 66 = .ok (.iadd, 1) := by decide +kernel
theorem dX5_pour_67 : decode cX5_pour 67 = .ok (.iastore, 1) := by decide +kernel
theorem dX5_pour_68 : decode cX5_pour 68 = .ok (.aload_n 0, 1) := by decide +kernel
theorem dX5_pour_69 : decode cX5_pour 69 = .ok (.aload_n 0, 1) := by decide +kernel
theorem dX5_pour_70 : decode cX5_pour 70 = .ok (.getfield 18, 3) := by decide +kernel
theorem dX5_pour_73 : decode cX5_pour 73 = .ok (.iload_n 2, 1) := by decide +kernel
theorem dX5_pour_74 : decode cX5_pour 74 = .ok (.aaload, 1) := by decide +kernel
theorem dX5_pour_75 : decode cX5_pour 75 = .ok (.aload_n 0, 1) := by decide +kernel
theorem dX5_pour_76 : decode cX5_pour 76 = .ok (.getfield 9, 3) := by decide +kernel
theorem dX5_pour_79 : decode cX5_pour 79 = .ok (.aload_n 0, 1) := by decide +kernel
theorem dX5_pour_80 : decode cX5_pour 80 = .ok (.aload 4, 2) := by decide +kernel
theorem dX5_pour_82 : decode cX5_pour 82 = .ok (.aload 4, 2) := by decide +kernel
theorem dX5_pour_84 : decode cX5_pour 84 = .ok (.iconst 4, 1) := by decide +kernel
theorem dX5_pour_85 : decode cX5_pour 85 = .ok (.iaload, 1) := by decide +kernel
theorem dX5_pour_86 : decode cX5_pour 86 = .ok (.iconst 1, 1) := by decide +kernel
theorem dX5_pour_87 : decode cX5_pour 87 = .ok (.isub, 1) := by decide +kernel
theorem dX5_pour_88 : decode cX5_pour 88 = .ok (.invokevirtual 51, 3) := by decide +kernel
theorem dX5_pour_91 : decode cX5_pour 91 = .ok (.iaload, 1) := by decide +kernel
theorem dX5_pour_92 : decode cX5_pour 92 = .ok (.invokevirtual 92, 3) := by decide +kernel
theorem dX5_pour_95 : decode cX5_pour 95 = .ok (.ifCond .le 22, 3) := by decide +kernel
theorem dX5_pour_98 : decode cX5_pour 98 = .ok (.aload_n 0, 1) := by decide +kernel
theorem dX5_pour_99 : decode cX5_pour 99 = .ok (.aload 4, 2) := by decide +kernel
theorem dX5_pour_101 : decode cX5_pour 101 = .ok (.aload 4, 2) := by decide +kernel
theorem dX5_pour_103 : decode cX5_pour 103 = .ok (.iconst 4, 1) := by decide +kernel
theorem dX5_pour_104 : decode cX5_pour 104 = .ok (.iaload, 1) := by decide +kernel
theorem dX5_pour_105 : decode cX5_pour 105 = .ok (.iconst 1, 1) := by decide +kernel
theorem dX5_pour_106 : decode cX5_pour 106 = .ok (.isub, 1) := by decide +kernel
theorem dX5_pour_107 : decode cX5_pour 107 = .ok (.invokevirtual 74, 3) := by decide +kernel
theorem dX5_pour_110 : decode cX5_pour 110 = .ok (.aload_n 0, 1) := by decide +kernel
theorem dX5_pour_111 : decode cX5_pour 111 = .ok (.iload 5, 2) := by decide +kernel
theorem dX5_pour_113 : decode cX5_pour 113 = .ok (.invokevirtual 63, 3) := by decide +kernel
theorem dX5_pour_116 : decode cX5_pour 116 = .ok (.ireturn, 1) := by decide +kernel
theorem dX5_pour_117 : decode cX5_pour 117 = .ok (.iinc 5 1, 3) := by decide +kernel
theorem dX5_pour_120 : decode cX5_pour 120 = .ok (.goto (-74), 3) := by decide +kernel
theorem dX5_pour_123 : decode cX5_pour 123 = .ok (.aload_n 0, 1) := by decide +kernel
theorem dX5_pour_124 : decode cX5_pour 124 = .ok (.iload 5, 2) := by decide +kernel
theorem dX5_pour_126 : decode cX5_pour 126 = .ok (.invokevirtual 63, 3) := by decide +kernel
theorem dX5_pour_129 : decode cX5_pour 129 = .ok (.ireturn, 1) := by decide +kernel
theorem dX5_ofPane_0 : decode cX5_ofPane 0 = .ok (.aload_n 0, 1) := by decide +kernel
theorem dX5_ofPane_1 : decode cX5_ofPane 1 = .ok (.iload_n 1, 1) := by decide +kernel
theorem dX5_ofPane_2 : decode cX5_ofPane 2 = .ok (.invokestatic 55, 3) := by decide +kernel
theorem dX5_ofPane_5 : decode cX5_ofPane 5 = .ok (.iload_n 2, 1) := by decide +kernel
theorem dX5_ofPane_6 : decode cX5_ofPane 6 = .ok (.iconst 0, 1) := by decide +kernel
theorem dX5_ofPane_7 : decode cX5_ofPane 7 = .ok (.bipush 9, 2) := by decide +kernel
theorem dX5_ofPane_9 : decode cX5_ofPane 9 = .ok (.invokestatic 36, 3) := by decide +kernel
theorem dX5_ofPane_12 : decode cX5_ofPane 12 = .ok (.invokevirtual 59, 3) := by decide +kernel
theorem dX5_ofPane_15 : decode cX5_ofPane 15 = .ok (.ifCond .ne 5, 3) := by decide +kernel
theorem dX5_ofPane_18 : decode cX5_ofPane 18 = .ok (.iconst 0, 1) := by decide +kernel
theorem dX5_ofPane_19 : decode cX5_ofPane 19 = .ok (.ireturn, 1) := by decide +kernel
theorem dX5_ofPane_20 : decode cX5_ofPane 20 = .ok (.aload_n 0, 1) := by decide +kernel
theorem dX5_ofPane_21 : decode cX5_ofPane 21 = .ok (.getfield 18, 3) := by decide +kernel
theorem dX5_ofPane_24 : decode cX5_ofPane 24 = .ok (.iload_n 1, 1) := by decide +kernel
theorem dX5_ofPane_25 : decode cX5_ofPane 25 = .ok (.aaload, 1) := by decide +kernel
theorem dX5_ofPane_26 : decode cX5_ofPane 26 = .ok (.astore_n 3, 1) := by decide +kernel
theorem dX5_ofPane_27 : decode cX5_ofPane 27 = .ok (.bipush 10, 2) := by decide +kernel
theorem dX5_ofPane_29 : decode cX5_ofPane 29 = .ok (.newarray .int, 2) := by decide +kernel
theorem dX5_ofPane_31 : decode cX5_ofPane 31 = .ok (.dup, 1) := by decide +kernel
theorem dX5_ofPane_32 : decode cX5_ofPane 32 = .ok (.iconst 0, 1) := by decide +kernel
theorem dX5_ofPane_33 : decode cX5_ofPane 33 = .ok (.aload_n 3, 1) := by decide +kernel
theorem dX5_ofPane_34 : decode cX5_ofPane 34 = .ok (.iconst 4, 1) := by decide +kernel
theorem dX5_ofPane_35 : decode cX5_ofPane 35 = .ok (.iaload, 1) := by decide +kernel
theorem dX5_ofPane_36 : decode cX5_ofPane 36 = .ok (.iastore, 1) := by decide +kernel
theorem dX5_ofPane_37 : decode cX5_ofPane 37 = .ok (.dup, 1) := by decide +kernel
theorem dX5_ofPane_38 : decode cX5_ofPane 38 = .ok (.iconst 1, 1) := by decide +kernel
theorem dX5_ofPane_39 : decode cX5_ofPane 39 = .ok (.aload_n 3, 1) := by decide +kernel
theorem dX5_ofPane_40 : decode cX5_ofPane 40 = .ok (.iconst 5, 1) := by decide +kernel
theorem dX5_ofPane_41 : decode cX5_ofPane 41 = .ok (.iaload, 1) := by decide +kernel
theorem dX5_ofPane_42 : decode cX5_ofPane 42 = .ok (.iastore, 1) := by decide +kernel
theorem dX5_ofPane_43 : decode cX5_ofPane 43 = .ok (.dup, 1) := by decide +kernel
theorem dX5_ofPane_44 : decode cX5_ofPane 44 = .ok (.iconst 2, 1) := by decide +kernel
theorem dX5_ofPane_45 : decode cX5_ofPane 45 = .ok (.aload_n 3, 1) := by decide +kernel
theorem dX5_ofPane_46 : decode cX5_ofPane 46 = .ok (.iconst 3, 1) := by decide +kernel
theorem dX5_ofPane_47 : decode cX5_ofPane 47 = .ok (.iaload, 1) := by decide +kernel
theorem dX5_ofPane_48 : decode cX5_ofPane 48 = .ok (.iastore, 1) := by decide +kernel
theorem dX5_ofPane_49 : decode cX5_ofPane 49 = .ok (.dup, 1) := by decide +kernel
theorem dX5_ofPane_50 : decode cX5_ofPane 50 = .ok (.iconst 3, 1) := by decide +kernel
theorem dX5_ofPane_51 : decode cX5_ofPane 51 = .ok (.aload_n 3, 1) := by decide +kernel
theorem dX5_ofPane_52 : decode cX5_ofPane 52 = .ok (.invokestatic 43, 3) := by decide +kernel
theorem dX5_ofPane_55 : decode cX5_ofPane 55 = .ok (.iastore, 1) := by decide +kernel
theorem dX5_ofPane_56 : decode cX5_ofPane 56 = .ok (.dup, 1) := by decide +kernel
theorem dX5_ofPane_57 : decode cX5_ofPane 57 = .ok (.iconst 4, 1) := by decide +kernel
theorem dX5_ofPane_58 : decode cX5_ofPane 58 = .ok (.aload_n 3, 1) := by decide +kernel
theorem dX5_ofPane_59 : decode cX5_ofPane 59 = .ok (.bipush 6, 2) := by decide +kernel
theorem dX5_ofPane_61 : decode cX5_ofPane 61 = .ok (.iaload, 1) := by decide +kernel
theorem dX5_ofPane_62 : decode cX5_ofPane 62 = .ok (.iastore, 1) := by decide +kernel
theorem dX5_ofPane_63 : decode cX5_ofPane 63 = .ok (.dup, 1) := by decide +kernel
theorem dX5_ofPane_64 : decode cX5_ofPane 64 = .ok (.iconst 5, 1) := by decide +kernel
theorem dX5_ofPane_65 : decode cX5_ofPane 65 = .ok (.aload_n 3, 1) := by decide +kernel
theorem dX5_ofPane_66 : decode cX5_ofPane 66 = .ok (.bipush 7, 2) := by decide +kernel
theorem dX5_ofPane_68 : decode cX5_ofPane 68 = .ok (.iaload, 1) := by decide +kernel
theorem dX5_ofPane_69 : decode cX5_ofPane 69 = .ok (.iconst 1, 1) := by decide +kernel
theorem dX5_ofPane_70 : decode cX5_ofPane 70 = .ok (.if_icmp .ne 8, 3) := by decide +kernel
theorem dX5_ofPane_73 : decode cX5_ofPane 73 = .ok (.bipush (-9), 2) := by decide +kernel
theorem dX5_ofPane_75 : decode cX5_ofPane 75 = .ok (.goto 6, 3) := by decide +kernel
theorem dX5_ofPane_78 : decode cX5_ofPane 78 = .ok (.aload_n 3, 1) := by decide +kernel
theorem dX5_ofPane_79 : decode cX5_ofPane 79 = .ok (.iconst 2, 1) := by decide +kernel
theorem dX5_ofPane_80 : decode cX5_ofPane 80 = .ok (.iaload, 1) := by decide +kernel
theorem dX5_ofPane_81 : decode cX5_ofPane 81 = .ok (.iastore, 1) := by decide +kernel
theorem dX5_ofPane_82 : decode cX5_ofPane 82 = .ok (.dup, 1) := by decide +kernel
theorem dX5_ofPane_83 : decode cX5_ofPane 83 = .ok (.bipush 6, 2) := by decide +kernel
theorem dX5_ofPane_85 : decode cX5_ofPane 85 = .ok (.aload_n 3, 1) := by decide +kernel
theorem dX5_ofPane_86 : decode cX5_ofPane 86 = .ok (.invokestatic 43, 3) := by decide +kernel
theorem dX5_ofPane_89 : decode cX5_ofPane 89 = .ok (.ifCond .le 7, 3) := by decide +kernel
theorem dX5_ofPane_92 : decode cX5_ofPane 92 = .ok (.iconst 1, 1) := by decide +kernel
theorem dX5_ofPane_93 : decode cX5_ofPane 93 = .ok (.goto 4, 3) := by decide +kernel
theorem dX5_ofPane_96 : decode cX5_ofPane 96 = .ok (.iconst 0, 1) := by decide +kernel
theorem dX5_ofPane_97 : decode cX5_ofPane 97 = .ok (.iastore, 1) := by decide +kernel
theorem dX5_ofPane_98 : decode cX5_ofPane 98 = .ok (.dup, 1) := by decide +kernel
theorem dX5_ofPane_99 : decode cX5_ofPane 99 = .ok (.bipush 7, 2) := by decide +kernel
theorem dX5_ofPane_101 : decode cX5_ofPane 101 = .ok (.aload_n 3, 1) := by decide +kernel
theorem dX5_ofPane_102 : decode cX5_ofPane 102 = .ok (.bipush 7, 2) := by decide +kernel
theorem dX5_ofPane_104 : decode cX5_ofPane 104 = .ok (.iaload, 1) := by decide +kernel
theorem dX5_ofPane_105 : decode cX5_ofPane 105 = .ok (.iastore, 1) := by decide +kernel
theorem dX5_ofPane_106 : decode cX5_ofPane 106 = .ok (.dup, 1) := by decide +kernel
theorem dX5_ofPane_107 : decode cX5_ofPane 107 = .ok (.bipush 8, 2) := by decide +kernel
theorem dX5_ofPane_109 : decode cX5_ofPane 109 = .ok (.iconst 1, 1) := by decide +kernel
theorem dX5_ofPane_110 : decode cX5_ofPane 110 = .ok (.aload_n 3, 1) := by decide +kernel
theorem dX5_ofPane_111 : decode cX5_ofPane 111 = .ok (.bipush 7, 2) := by decide +kernel
theorem dX5_ofPane_113 : decode cX5_ofPane 113 = .ok (.iaload, 1) := by decide +kernel
theorem dX5_ofPane_114 : decode cX5_ofPane 114 = .ok (.isub, 1) := by decide +kernel
theorem dX5_ofPane_115 : decode cX5_ofPane 115 = .ok (.iastore, 1) := by decide +kernel
theorem dX5_ofPane_116 : decode cX5_ofPane 116 = .ok (.dup, 1) := by decide +kernel
theorem dX5_ofPane_117 : decode cX5_ofPane 117 = .ok (.bipush 9, 2) := by decide +kernel
theorem dX5_ofPane_119 : decode cX5_ofPane 119 = .ok (.aload_n 3, 1) := by decide +kernel
theorem dX5_ofPane_120 : decode cX5_ofPane 120 = .ok (.iconst 3, 1) := by decide +kernel
theorem dX5_ofPane_121 : decode cX5_ofPane 121 = .ok (.iaload, 1) := by decide +kernel
theorem dX5_ofPane_122 : decode cX5_ofPane 122 = .ok (.aload_n 3, 1) := by decide +kernel
theorem dX5_ofPane_123 : decode cX5_ofPane 123 = .ok (.iconst 5, 1) := by decide +kernel
theorem dX5_ofPane_124 : decode cX5_ofPane 124 = .ok (.iaload, 1) := by decide +kernel
theorem dX5_ofPane_125 : decode cX5_ofPane 125 = .ok (.isub, 1) := by decide +kernel
theorem dX5_ofPane_126 : decode cX5_ofPane 126 = .ok (.iastore, 1) := by decide +kernel
theorem dX5_ofPane_127 : decode cX5_ofPane 127 = .ok (.astore 4, 2) := by decide +kernel
theorem dX5_ofPane_129 : decode cX5_ofPane 129 = .ok (.aload 4, 2) := by decide +kernel
theorem dX5_ofPane_131 : decode cX5_ofPane 131 = .ok (.iload_n 2, 1) := by decide +kernel
theorem dX5_ofPane_132 : decode cX5_ofPane 132 = .ok (.iaload, 1) := by decide +kernel
theorem dX5_ofPane_133 : decode cX5_ofPane 133 = .ok (.ireturn, 1) := by decide +kernel
set_option maxRecDepth 20000 in
theorem lp_X5_pour2 {X : zX} (C : z_C X cX5_pour RX5 6 (z_rm 5 0 0)) {m : Nat} {th : Int32} {K : Nat → Nat} {tp pn td : Nat} {t : Nat} (ht : t ≤ 64) {i : Nat} (hi : i < 6) {pane other many : Int32} (h_ip2 : vp_in other 6) (hk : other.toNatClampNeg < 6) {mq : Nat} (hmn : many = nI mq) (hmb : mq ≤ 20) {res : Nat × sS} (kk1 : ∀ M', RI (z_G X) res.2 m th K tp pn td M' → z_W X M' 0 0 123 [(5, .int (nI res.1)), (4, .ref (K i)), (0, .ref m), (1, .int pane), (2, .int other), (3, .int many)] []) (kk2 : ∀ M', RI (z_G X) res.2 m th K tp pn td M' → z_W X M' 0 0 110 [(5, .int (nI res.1)), (4, .ref (K i)), (0, .ref m), (1, .int pane), (2, .int other), (3, .int many)] []) : ∀ (d j : Nat) (u : sS) (Mw : zM), j + d = mq → s_ok t u → RI (z_G X) u m th K tp pn td Mw → s_pour1 i other.toNatClampNeg d j u = res → z_W X Mw 0 0 46 [(5, .int (nI j)), (4, .ref (K i)), (0, .ref m), (1, .int pane), (2, .int other), (3, .int many)] [] := by
  intro d
  induction d with
  | zero =>
    intro j u Mw hj hok hR hres
    obtain ⟨ft, htp, hft⟩ := RI_tpf hR
    obtain ⟨fp, hpn, hfp⟩ := RI_pnf hR
    refine z_iload C dX5_pour_46 0 rfl ?_
    refine z_iload_n C dX5_pour_48 rfl 5 rfl ?_
    refine z_icmp_ge C (tgt := 123) dX5_pour_49 (by decide) (fun _ => ?_) (fun c49 => absurd (by rw [hmn]; exact nI_le (by omega) (by omega)) c49)
    subst hres
    exact kk1 _ hR
  | succ d ih =>
    intro j u Mw hj hok hR hres
    obtain ⟨ft, htp, hft⟩ := RI_tpf hR
    obtain ⟨fp, hpn, hfp⟩ := RI_pnf hR
    refine z_iload C dX5_pour_46 0 rfl ?_
    refine z_iload_n C dX5_pour_48 rfl 5 rfl ?_
    refine z_icmp_ge C (tgt := 123) dX5_pour_49 (by decide) (fun c49 => absurd c49 (by rw [hmn]; exact nI_ge (by omega) (by omega))) (fun _ => ?_)
    refine z_aload C dX5_pour_52 1 rfl ?_
    refine z_callSi (rest := []) (k' := 0) (n' := 0) C (c_X5_left (z_l X) (z_G X) (RI_K hR hi)) (cs_X5_43 C (by decide)) rfl rfl (Nat.le_of_ble_eq_true rfl) rfl rfl (by decide) (by decide) dX5_pour_54 (fun x54 M' hq => ?_)
    obtain ⟨rfl, rfl⟩ := hq
    refine z_if_le C (tgt := 123) dX5_pour_57 (by decide) (fun c57 => ?_) (fun c57 => ?_)
    · rw [s_pour1, if_pos c57] at hres
      subst hres
      exact kk1 _ hR
    · refine z_aload C dX5_pour_60 1 rfl ?_
      refine z_iconst C (v := 4) dX5_pour_62 (by decide) ?_
      refine z_dup2 C dX5_pour_63 rfl rfl ?_
      refine z_pl4 C (RI_K hR hi) dX5_pour_64 ?_
      refine z_iconst C (v := 1) dX5_pour_65 (by decide) ?_
      refine z_iadd C dX5_pour_66 ?_
      refine z_ps4 C (RI_K hR hi) dX5_pour_67 ?_
      refine z_aload_n C dX5_pour_68 rfl 2 rfl ?_
      refine z_aload_n C dX5_pour_69 rfl 2 rfl ?_
      refine gf_X5_18 C ((z_up_n _ _ (z_ne hR.1 (RI_K hR hi) (by intro h; cases h))).trans hR.1) dX5_pour_70 ?_
      refine z_iload_n C dX5_pour_73 rfl 4 rfl ?_
      refine z_aaldI (j := other.toNatClampNeg) C ((z_up_n _ _ (z_ne hpn (RI_K hR hi) (by intro h; simp at h))).trans hpn) h_ip2 rfl (hfp _ hk) dX5_pour_74 ?_
      refine z_aload_n C dX5_pour_75 rfl 2 rfl ?_
      refine gf_X5_9 C ((z_up_n _ _ (z_ne hR.1 (RI_K hR hi) (by intro h; cases h))).trans hR.1) dX5_pour_76 ?_
      refine z_aload_n C dX5_pour_79 rfl 2 rfl ?_
      refine z_aload C dX5_pour_80 1 rfl ?_
      refine z_aload C dX5_pour_82 1 rfl ?_
      refine z_iconst C (v := 4) dX5_pour_84 (by decide) ?_
      refine z_pl4 C (z_up_s _ _ _) dX5_pour_85 ?_
      refine z_iconst C (v := 1) dX5_pour_86 (by decide) ?_
      refine z_isub C dX5_pour_87 ?_
      refine z_callVi (rest := [.ref tp, .ref (K other.toNatClampNeg), .ref m]) (k' := 0) (n' := 0) C (c_X5_where (z_l X) (z_G X) (z_up_s _ _ _)) (cs_X5_51 C (by decide)) ((z_up_n _ _ (z_ne hR.1 (RI_K hR hi) (by intro h; cases h))).trans hR.1) rfl rfl rfl rfl (Nat.le_of_ble_eq_true rfl) rfl rfl (by decide) (by decide) dX5_pour_88 (fun x88 M' hq => ?_)
      obtain ⟨rfl, rfl⟩ := hq
      refine z_iald (j := (((nI (s_ba (s_ln u) (p_ro (s_pn u i)))) + (p_sa (s_pn u i))) + (((p_po (s_pn u i)) + 1) - 1)).toNatClampNeg) C ((z_up_n _ _ (Ne.symm (RI_n2 hR hi))).trans htp) (by rw [Int32.add_sub_cancel]; exact s_tin hok ht hi (s_inP hok hi (fun q => c57 ((s_left hok hi).mp q)))) rfl dX5_pour_91 ?_
      refine z_callVi (rest := []) (k' := 0) (n' := 0) C (a_X5_puts (z_l X) (RI_pn hR hi (p_po' (s_pn u i) (p_po (s_pn u i) + 1))) (s_ok_nx hok hi (fun q => c57 ((s_left hok hi).mp q))) ht hk _) (cs_X5_92 C (by decide)) ((z_up_n _ _ (z_ne hR.1 (RI_K hR hi) (by intro h; cases h))).trans hR.1) rfl rfl rfl rfl (Nat.le_of_ble_eq_true rfl) rfl rfl (by decide) (by decide) dX5_pour_92 (fun x92 Mq92 hq => ?_)
      rw [Int32.add_sub_cancel, s_rd hok ht hi hft (s_inP hok hi (fun q => c57 ((s_left hok hi).mp q)))] at hq
      obtain ⟨e92, hR92⟩ := hq
      have e9 : x92 = (s_pour0 u i other.toNatClampNeg).1 := e92
      rw [e9]
      have hR9 : RI (z_G X) (s_pour0 u i other.toNatClampNeg).2 m th K tp pn td Mq92 := hR92
      refine z_if_le C (tgt := 117) dX5_pour_95 (by decide) (fun c95 => ?_) (fun c95 => ?_)
      · refine z_iinc (v := nI (j + 1)) (lv' := [(5, .int (nI (j + 1))), (4, .ref (K i)), (0, .ref m), (1, .int pane), (2, .int other), (3, .int many)]) C dX5_pour_117 0 rfl (nI_1 j) (by decide) rfl ?_
        refine z_goto C (tgt := 46) dX5_pour_120 (by decide) ?_
        exact ih (j + 1) _ _ (by omega) (s_ok_pour0 hok hi hk (fun q => c57 ((s_left hok hi).mp q))) hR9 (by rw [s_pour1, if_neg c57, if_pos (s_pour0k.mp c95)] at hres; exact hres)
      · refine z_aload_n C dX5_pour_98 rfl 2 rfl ?_
        refine z_aload C dX5_pour_99 1 rfl ?_
        refine z_aload C dX5_pour_101 1 rfl ?_
        refine z_iconst C (v := 4) dX5_pour_103 (by decide) ?_
        refine z_pl4 C (RI_K hR9 hi) dX5_pour_104 ?_
        refine z_iconst C (v := 1) dX5_pour_105 (by decide) ?_
        refine z_isub C dX5_pour_106 ?_
        refine z_callVv (rest := []) (k' := 0) (n' := 0) C (a_X5_moved (z_l X) hR9 hi _) (cs_X5_74 C (by decide)) hR9.1 rfl rfl rfl rfl (Nat.le_of_ble_eq_true rfl) rfl rfl (by decide) (by decide) dX5_pour_107 (fun Mq107 hq => ?_)
        rw [s_pour1, if_neg c57, if_neg (fun q => c95 (s_pour0k.mpr q))] at hres
        subst hres
        exact kk2 _ hq
set_option maxRecDepth 20000 in
theorem c_X5_pour_bad (l : Launch) (G : zG) {M : zM} {m : Nat} {pane : Int32} {other : Int32} {many : Int32} {tp : Nat} {nr : Int32} {pn : Nat} {td : Nat} {ac : Int32} {kn : Int32} {th : Int32}  (h_m : M m = some (cMd tp nr pn td ac kn th)) (h_bad : z_is pane 0 5 = 0) : z_Mi l G qX5_pour (z_rm 5 0 0) [.ref m, .int pane, .int other, .int many] M (fun r M' => r = 0 ∧ M' = z_up M m (cMd tp nr pn td ac kn (z_lt 0 (z_is many 0 20))))  := by
  refine z_Mi_of _ (plainFor_of_name rfl) rfl (Nat.le_of_ble_eq_true rfl) (fun X hl hG hnm C ret => ?_)
  subst hl; subst hG
  have C : z_C X cX5_pour RX5 6 (z_rm 5 0 0) := C
  show z_W X M 0 0 0 [(0, .ref m), (1, .int pane), (2, .int other), (3, .int many)] []
  refine z_aload_n C dX5_pour_0 rfl 0 rfl ?_
  refine z_iload_n C dX5_pour_1 rfl 1 rfl ?_
  refine z_callSi (rest := [.ref m]) (k' := 0) (n' := 0) C (c_X5_isPane (z_l X) (z_G X) ) (cs_X5_55 C (by decide)) rfl rfl (Nat.le_of_ble_eq_true rfl) rfl rfl (by decide) (by decide) dX5_pour_2 (fun x2 M' hq => ?_)
  obtain ⟨rfl, rfl⟩ := hq
  refine z_if_eq C (tgt := 19) dX5_pour_5 (by decide) (fun _ => ?_) (fun c5 => absurd h_bad c5)
  refine z_iconst C (v := 0) dX5_pour_19 (by decide) ?_
  refine z_iload_n C dX5_pour_20 rfl 3 rfl ?_
  refine z_iconst C (v := 0) dX5_pour_21 (by decide) ?_
  refine z_bipush C (v := 20) dX5_pour_22 (by decide) ?_
  refine z_callSi (rest := [.int 0, .ref m]) (k' := 0) (n' := 0) C (c_X5_isIn (z_l X) (z_G X) ) (cs_X5_36 C (by decide)) rfl rfl (Nat.le_of_ble_eq_true rfl) rfl rfl (by decide) (by decide) dX5_pour_24 (fun x24 M' hq => ?_)
  obtain ⟨rfl, rfl⟩ := hq
  refine z_callVi (rest := []) (k' := 0) (n' := 0) C (c_X5_isLet (z_l X) (z_G X) h_m) (cs_X5_59 C (by decide)) h_m rfl rfl rfl rfl (Nat.le_of_ble_eq_true rfl) rfl rfl (by decide) (by decide) dX5_pour_27 (fun x27 M' hq => ?_)
  obtain ⟨rfl, rfl⟩ := hq
  refine z_if_ne C (tgt := 35) dX5_pour_30 (by decide) (fun c30 => absurd (by simp [z_lr, z_lt]) c30) (fun _ => ?_)
  refine z_iconst C (v := 0) dX5_pour_33 (by decide) ?_
  exact ret dX5_pour_34 rfl (⟨rfl, rfl⟩) (by decide) (by decide)
set_option maxRecDepth 20000 in
theorem c_X5_pour_bad2 (l : Launch) (G : zG) {M : zM} {m : Nat} {pane : Int32} {other : Int32} {many : Int32} {tp : Nat} {nr : Int32} {pn : Nat} {td : Nat} {ac : Int32} {kn : Int32} {th : Int32}  (h_m : M m = some (cMd tp nr pn td ac kn th)) (h_ok : z_is pane 0 5 = 1) (h_bad2 : z_is other 0 5 = 0) : z_Mi l G qX5_pour (z_rm 5 0 0) [.ref m, .int pane, .int other, .int many] M (fun r M' => r = 0 ∧ M' = z_up M m (cMd tp nr pn td ac kn (z_lt 0 (z_is many 0 20))))  := by
  refine z_Mi_of _ (plainFor_of_name rfl) rfl (Nat.le_of_ble_eq_true rfl) (fun X hl hG hnm C ret => ?_)
  subst hl; subst hG
  have C : z_C X cX5_pour RX5 6 (z_rm 5 0 0) := C
  show z_W X M 0 0 0 [(0, .ref m), (1, .int pane), (2, .int other), (3, .int many)] []
  refine z_aload_n C dX5_pour_0 rfl 0 rfl ?_
  refine z_iload_n C dX5_pour_1 rfl 1 rfl ?_
  refine z_callSi (rest := [.ref m]) (k' := 0) (n' := 0) C (c_X5_isPane (z_l X) (z_G X) ) (cs_X5_55 C (by decide)) rfl rfl (Nat.le_of_ble_eq_true rfl) rfl rfl (by decide) (by decide) dX5_pour_2 (fun x2 M' hq => ?_)
  obtain ⟨rfl, rfl⟩ := hq
  refine z_if_eq C (tgt := 19) dX5_pour_5 (by decide) (fun c5 => absurd c5 (by rw [h_ok]; decide)) (fun _ => ?_)
  refine z_iload_n C dX5_pour_8 rfl 2 rfl ?_
  refine z_callSi (rest := [.ref m]) (k' := 0) (n' := 0) C (c_X5_isPane (z_l X) (z_G X) ) (cs_X5_55 C (by decide)) rfl rfl (Nat.le_of_ble_eq_true rfl) rfl rfl (by decide) (by decide) dX5_pour_9 (fun x9 M' hq => ?_)
  obtain ⟨rfl, rfl⟩ := hq
  refine z_if_eq C (tgt := 19) dX5_pour_12 (by decide) (fun _ => ?_) (fun c12 => absurd h_bad2 c12)
  refine z_iconst C (v := 0) dX5_pour_19 (by decide) ?_
  refine z_iload_n C dX5_pour_20 rfl 3 rfl ?_
  refine z_iconst C (v := 0) dX5_pour_21 (by decide) ?_
  refine z_bipush C (v := 20) dX5_pour_22 (by decide) ?_
  refine z_callSi (rest := [.int 0, .ref m]) (k' := 0) (n' := 0) C (c_X5_isIn (z_l X) (z_G X) ) (cs_X5_36 C (by decide)) rfl rfl (Nat.le_of_ble_eq_true rfl) rfl rfl (by decide) (by decide) dX5_pour_24 (fun x24 M' hq => ?_)
  obtain ⟨rfl, rfl⟩ := hq
  refine z_callVi (rest := []) (k' := 0) (n' := 0) C (c_X5_isLet (z_l X) (z_G X) h_m) (cs_X5_59 C (by decide)) h_m rfl rfl rfl rfl (Nat.le_of_ble_eq_true rfl) rfl rfl (by decide) (by decide) dX5_pour_27 (fun x27 M' hq => ?_)
  obtain ⟨rfl, rfl⟩ := hq
  refine z_if_ne C (tgt := 35) dX5_pour_30 (by decide) (fun c30 => absurd (by simp [z_lr, z_lt]) c30) (fun _ => ?_)
  refine z_iconst C (v := 0) dX5_pour_33 (by decide) ?_
  exact ret dX5_pour_34 rfl (⟨rfl, rfl⟩) (by decide) (by decide)
set_option maxRecDepth 20000 in
theorem g_X5_pour (l : Launch) {G : zG} {u : sS} {m : Nat} {th : Int32} {K : Nat → Nat} {tp pn td : Nat} {Mw : zM} (hR : RI G u m th K tp pn td Mw) {t : Nat} (hok : s_ok t u) (ht : t ≤ 64) {pane other many : Int32} (h_ok : z_is pane 0 5 = 1) (h_ip : vp_in pane 6) (hi : pane.toNatClampNeg < 6) (h_ok2 : z_is other 0 5 = 1) (h_ip2 : vp_in other 6) (hi2 : other.toNatClampNeg < 6) : z_Mi l G qX5_pour (z_rm 5 0 0) [.ref m, .int pane, .int other, .int many] Mw (RP G m pn td (z_lt (t_2 pane other) (z_is many 0 20)) u (s_pour u pane.toNatClampNeg other.toNatClampNeg many))  := by
  obtain ⟨ft, htp, hft⟩ := RI_tpf hR
  obtain ⟨fp, hpn, hfp⟩ := RI_pnf hR
  refine z_Mi_of _ (plainFor_of_name rfl) rfl (Nat.le_of_ble_eq_true rfl) (fun X hl hG hnm C ret => ?_)
  subst hl; subst hG
  have C : z_C X cX5_pour RX5 6 (z_rm 5 0 0) := C
  show z_W X Mw 0 0 0 [(0, .ref m), (1, .int pane), (2, .int other), (3, .int many)] []
  refine z_aload_n C dX5_pour_0 rfl 0 rfl ?_
  refine z_iload_n C dX5_pour_1 rfl 1 rfl ?_
  refine z_callSi (rest := [.ref m]) (k' := 0) (n' := 0) C (c_X5_isPane (z_l X) (z_G X) ) (cs_X5_55 C (by decide)) rfl rfl (Nat.le_of_ble_eq_true rfl) rfl rfl (by decide) (by decide) dX5_pour_2 (fun x2 M' hq => ?_)
  obtain ⟨rfl, rfl⟩ := hq
  refine z_if_eq C (tgt := 19) dX5_pour_5 (by decide) (fun c5 => absurd c5 (by rw [h_ok]; decide)) (fun _ => ?_)
  refine z_iload_n C dX5_pour_8 rfl 2 rfl ?_
  refine z_callSi (rest := [.ref m]) (k' := 0) (n' := 0) C (c_X5_isPane (z_l X) (z_G X) ) (cs_X5_55 C (by decide)) rfl rfl (Nat.le_of_ble_eq_true rfl) rfl rfl (by decide) (by decide) dX5_pour_9 (fun x9 M' hq => ?_)
  obtain ⟨rfl, rfl⟩ := hq
  refine z_if_eq C (tgt := 19) dX5_pour_12 (by decide) (fun c12 => absurd c12 (by rw [h_ok2]; decide)) (fun _ => ?_)
  refine z_iconst C (v := 1) dX5_pour_15 (by decide) ?_
  refine z_goto C (tgt := 20) dX5_pour_16 (by decide) ?_
  refine z_iload_n C dX5_pour_20 rfl 3 rfl ?_
  refine z_iconst C (v := 0) dX5_pour_21 (by decide) ?_
  refine z_bipush C (v := 20) dX5_pour_22 (by decide) ?_
  refine z_callSi (rest := [.int 1, .ref m]) (k' := 0) (n' := 0) C (c_X5_isIn (z_l X) (z_G X) ) (cs_X5_36 C (by decide)) rfl rfl (Nat.le_of_ble_eq_true rfl) rfl rfl (by decide) (by decide) dX5_pour_24 (fun x24 M' hq => ?_)
  obtain ⟨rfl, rfl⟩ := hq
  refine z_callVi (rest := []) (k' := 0) (n' := 0) C (c_X5_isLet (z_l X) (z_G X) hR.1) (cs_X5_59 C (by decide)) hR.1 rfl rfl rfl rfl (Nat.le_of_ble_eq_true rfl) rfl rfl (by decide) (by decide) dX5_pour_27 (fun x27 M' hq => ?_)
  obtain ⟨rfl, rfl⟩ := hq
  refine z_if_ne C (tgt := 35) dX5_pour_30 (by decide) (fun c30 => ?_) (fun c30 => ?_)
  · refine z_aload_n C dX5_pour_35 rfl 0 rfl ?_
    refine gf_X5_18 C (z_up_s _ _ _) dX5_pour_36 ?_
    refine z_iload_n C dX5_pour_39 rfl 1 rfl ?_
    refine z_aaldI (j := pane.toNatClampNeg) C ((z_up_n _ _ (z_ne hpn hR.1 (by intro h; cases h))).trans hpn) h_ip rfl (hfp _ hi) dX5_pour_40 ?_
    refine z_astore (lv' := [(4, .ref (K pane.toNatClampNeg)), (0, .ref m), (1, .int pane), (2, .int other), (3, .int many)]) C dX5_pour_41 (by decide) rfl ?_
    refine z_iconst C (v := 0) dX5_pour_43 (by decide) ?_
    refine z_istore (lv' := [(5, .int 0), (4, .ref (K pane.toNatClampNeg)), (0, .ref m), (1, .int pane), (2, .int other), (3, .int many)]) C dX5_pour_44 (by decide) rfl ?_
    refine z_at (M' := _) (lv' := [(5, .int (nI 0)), (4, .ref (K pane.toNatClampNeg)), (0, .ref m), (1, .int pane), (2, .int other), (3, .int many)]) rfl (by rw [nI_0]) rfl ?_
    refine lp_X5_pour2 C ht hi h_ip2 hi2 (z_rgN (z_lrN c30)).1 (z_r20 (z_lrN c30)) (fun Mq9 h9 => ?_) (fun Mq9 h9 => ?_) _ 0 u _ (Nat.zero_add _) hok (RI_th hR _) rfl
    · refine z_aload_n C dX5_pour_123 rfl 2 rfl ?_
      refine z_iload C dX5_pour_124 0 rfl ?_
      refine z_callVi (rest := []) (k' := 0) (n' := 0) C (c_X5_did (z_l X) (z_G X) h9.1) (cs_X5_63 C (by decide)) h9.1 rfl rfl rfl rfl (Nat.le_of_ble_eq_true rfl) rfl rfl (by decide) (by decide) dX5_pour_126 (fun x126 M' hq => ?_)
      obtain ⟨rfl, rfl⟩ := hq
      refine ret dX5_pour_129 rfl ?_ (by decide) (by decide)
      exact RP_ok (v := s_act (s_pour1 pane.toNatClampNeg other.toNatClampNeg many.toNatClampNeg 0 u).2) rfl (by rw [(show t_2 pane other = 1 from by unfold t_2; rw [h_ok, h_ok2]; decide)]; exact z_lr0 c30) (RI_ak h9 _ _ _) (by rw [(show t_2 pane other = 1 from by unfold t_2; rw [h_ok, h_ok2]; decide)])
    · refine z_aload_n C dX5_pour_110 rfl 2 rfl ?_
      refine z_iload C dX5_pour_111 0 rfl ?_
      refine z_callVi (rest := []) (k' := 0) (n' := 0) C (c_X5_did (z_l X) (z_G X) h9.1) (cs_X5_63 C (by decide)) h9.1 rfl rfl rfl rfl (Nat.le_of_ble_eq_true rfl) rfl rfl (by decide) (by decide) dX5_pour_113 (fun x113 M' hq => ?_)
      obtain ⟨rfl, rfl⟩ := hq
      refine ret dX5_pour_116 rfl ?_ (by decide) (by decide)
      exact RP_ok (v := s_act (s_pour1 pane.toNatClampNeg other.toNatClampNeg many.toNatClampNeg 0 u).2) rfl (by rw [(show t_2 pane other = 1 from by unfold t_2; rw [h_ok, h_ok2]; decide)]; exact z_lr0 c30) (RI_ak h9 _ _ _) (by rw [(show t_2 pane other = 1 from by unfold t_2; rw [h_ok, h_ok2]; decide)])
  · refine z_iconst C (v := 0) dX5_pour_33 (by decide) ?_
    refine ret dX5_pour_34 rfl ?_ (by decide) (by decide)
    exact RP_bad (by rw [(show t_2 pane other = 1 from by unfold t_2; rw [h_ok, h_ok2]; decide)]; exact z_lr1 c30) (RI_ak hR _ _ _) (by rw [(show t_2 pane other = 1 from by unfold t_2; rw [h_ok, h_ok2]; decide)])
theorem a_X5_pour (l : Launch) {G : zG} {u : sS} {m : Nat} {th : Int32} {K : Nat → Nat} {tp pn td : Nat} {Mw : zM} (hR : RI G u m th K tp pn td Mw) {t : Nat} (hok : s_ok t u) (ht : t ≤ 64) (pane other many : Int32) : z_Mi l G qX5_pour (z_rm 5 0 0) [.ref m, .int pane, .int other, .int many] Mw (RP G m pn td (z_lt (t_2 pane other) (z_is many 0 20)) u (s_pour u pane.toNatClampNeg other.toNatClampNeg many)) := by
  rcases z_pc pane with ⟨h_ok, h_ip, hi⟩ | ⟨h_bad, -⟩
  · rcases z_pc other with ⟨h_ok2, h_ip2, hi2⟩ | ⟨h_bad2, -⟩
    · exact g_X5_pour l hR hok ht h_ok h_ip hi h_ok2 h_ip2 hi2
    · have e9 : t_2 pane other = 0 := by unfold t_2; rw [h_ok, h_bad2]; decide
      rw [e9]
      refine z_Mi_mono (c_X5_pour_bad2 l G hR.1 h_ok h_bad2) ?_
      rintro r M' ⟨hr9, rfl⟩
      · exact RP_bad (z_lt0 rfl) (RI_ak hR _ _ _) (by rfl)
  · have e9 : t_2 pane other = 0 := by unfold t_2; rw [h_bad]; exact if_pos rfl
    rw [e9]
    refine z_Mi_mono (c_X5_pour_bad l G hR.1 h_bad) ?_
    rintro r M' ⟨hr9, rfl⟩
    · exact RP_bad (z_lt0 rfl) (RI_ak hR _ _ _) (by rfl)
set_option maxRecDepth 20000 in
theorem c_X5_ofPane_bad (l : Launch) (G : zG) {M : zM} {m : Nat} {pane : Int32} {wh : Int32} {tp : Nat} {nr : Int32} {pn : Nat} {td : Nat} {ac : Int32} {kn : Int32} {th : Int32}  (h_m : M m = some (cMd tp nr pn td ac kn th)) (h_bad : z_is pane 0 5 = 0) : z_Mi l G qX5_ofPane (z_rm 4 1 10) [.ref m, .int pane, .int wh] M (fun r M' => r = 0 ∧ M' = z_up M m (cMd tp nr pn td ac kn (z_lt (z_is pane 0 5) (z_is wh 0 9))))  := by
  refine z_Mi_of _ (plainFor_of_name rfl) rfl (Nat.le_of_ble_eq_true rfl) (fun X hl hG hnm C ret => ?_)
  subst hl; subst hG
  have C : z_C X cX5_ofPane RX5 5 (z_rm 4 1 10) := C
  show z_W X M 0 0 0 [(0, .ref m), (1, .int pane), (2, .int wh)] []
  refine z_aload_n C dX5_ofPane_0 rfl 0 rfl ?_
  refine z_iload_n C dX5_ofPane_1 rfl 1 rfl ?_
  refine z_callSi (rest := [.ref m]) (k' := 0) (n' := 0) C (c_X5_isPane (z_l X) (z_G X) ) (cs_X5_55 C (by decide)) rfl rfl (Nat.le_of_ble_eq_true rfl) rfl rfl (by decide) (by decide) dX5_ofPane_2 (fun x2 M' hq => ?_)
  obtain ⟨rfl, rfl⟩ := hq
  refine z_iload_n C dX5_ofPane_5 rfl 2 rfl ?_
  refine z_iconst C (v := 0) dX5_ofPane_6 (by decide) ?_
  refine z_bipush C (v := 9) dX5_ofPane_7 (by decide) ?_
  refine z_callSi (rest := [.int (z_is pane 0 5), .ref m]) (k' := 0) (n' := 0) C (c_X5_isIn (z_l X) (z_G X) ) (cs_X5_36 C (by decide)) rfl rfl (Nat.le_of_ble_eq_true rfl) rfl rfl (by decide) (by decide) dX5_ofPane_9 (fun x9 M' hq => ?_)
  obtain ⟨rfl, rfl⟩ := hq
  refine z_callVi (rest := []) (k' := 0) (n' := 0) C (c_X5_isLet (z_l X) (z_G X) h_m) (cs_X5_59 C (by decide)) h_m rfl rfl rfl rfl (Nat.le_of_ble_eq_true rfl) rfl rfl (by decide) (by decide) dX5_ofPane_12 (fun x12 M' hq => ?_)
  obtain ⟨rfl, rfl⟩ := hq
  refine z_if_ne C (tgt := 20) dX5_ofPane_15 (by decide) (fun c15 => absurd (by simp [z_lr, z_lt, h_bad]) c15) (fun _ => ?_)
  refine z_iconst C (v := 0) dX5_ofPane_18 (by decide) ?_
  exact ret dX5_ofPane_19 rfl (⟨rfl, rfl⟩) (by decide) (by decide)
set_option maxRecDepth 20000 in
theorem g_X5_ofPane (l : Launch) {G : zG} {u : sS} {m : Nat} {th : Int32} {K : Nat → Nat} {tp pn td : Nat} {Mw : zM} (hR : RI G u m th K tp pn td Mw) {t : Nat} (hok : s_ok t u) (ht : t ≤ 64) {pane wh : Int32} (h_ok : z_is pane 0 5 = 1) (h_ip : vp_in pane 6) (hi : pane.toNatClampNeg < 6) : z_Mi l G qX5_ofPane (z_rm 4 1 10) [.ref m, .int pane, .int wh] Mw (RP G m pn td (z_lt (z_is pane 0 5) (z_is wh 0 9)) u ((s_of u pane.toNatClampNeg wh, u)))  := by
  obtain ⟨ft, htp, hft⟩ := RI_tpf hR
  obtain ⟨fp, hpn, hfp⟩ := RI_pnf hR
  refine z_Mi_of _ (plainFor_of_name rfl) rfl (Nat.le_of_ble_eq_true rfl) (fun X hl hG hnm C ret => ?_)
  subst hl; subst hG
  have C : z_C X cX5_ofPane RX5 5 (z_rm 4 1 10) := C
  show z_W X Mw 0 0 0 [(0, .ref m), (1, .int pane), (2, .int wh)] []
  refine z_aload_n C dX5_ofPane_0 rfl 0 rfl ?_
  refine z_iload_n C dX5_ofPane_1 rfl 1 rfl ?_
  refine z_callSi (rest := [.ref m]) (k' := 0) (n' := 0) C (c_X5_isPane (z_l X) (z_G X) ) (cs_X5_55 C (by decide)) rfl rfl (Nat.le_of_ble_eq_true rfl) rfl rfl (by decide) (by decide) dX5_ofPane_2 (fun x2 M' hq => ?_)
  obtain ⟨rfl, rfl⟩ := hq
  refine z_iload_n C dX5_ofPane_5 rfl 2 rfl ?_
  refine z_iconst C (v := 0) dX5_ofPane_6 (by decide) ?_
  refine z_bipush C (v := 9) dX5_ofPane_7 (by decide) ?_
  refine z_callSi (rest := [.int (z_is pane 0 5), .ref m]) (k' := 0) (n' := 0) C (c_X5_isIn (z_l X) (z_G X) ) (cs_X5_36 C (by decide)) rfl rfl (Nat.le_of_ble_eq_true rfl) rfl rfl (by decide) (by decide) dX5_ofPane_9 (fun x9 M' hq => ?_)
  obtain ⟨rfl, rfl⟩ := hq
  refine z_callVi (rest := []) (k' := 0) (n' := 0) C (c_X5_isLet (z_l X) (z_G X) hR.1) (cs_X5_59 C (by decide)) hR.1 rfl rfl rfl rfl (Nat.le_of_ble_eq_true rfl) rfl rfl (by decide) (by decide) dX5_ofPane_12 (fun x12 M' hq => ?_)
  obtain ⟨rfl, rfl⟩ := hq
  refine z_if_ne C (tgt := 20) dX5_ofPane_15 (by decide) (fun c15 => ?_) (fun c15 => ?_)
  · refine z_aload_n C dX5_ofPane_20 rfl 0 rfl ?_
    refine gf_X5_18 C (z_up_s _ _ _) dX5_ofPane_21 ?_
    refine z_iload_n C dX5_ofPane_24 rfl 1 rfl ?_
    refine z_aaldI (j := pane.toNatClampNeg) C ((z_up_n _ _ (z_ne hpn hR.1 (by intro h; cases h))).trans hpn) h_ip rfl (hfp _ hi) dX5_ofPane_25 ?_
    refine z_astore_n (lv' := [(3, .ref (K pane.toNatClampNeg)), (0, .ref m), (1, .int pane), (2, .int wh)]) C dX5_ofPane_26 rfl (by decide) rfl ?_
    refine z_bipush C (v := 10) dX5_ofPane_27 (by decide) ?_
    refine z_newI (N := 10) C kw44 (by decide) (by decide) (by decide) (by decide) (by decide) dX5_ofPane_29 (fun q29 hq29 => ?_)
    refine z_kn (k' := 1) (n' := 10) rfl rfl ?_
    refine z_dup C dX5_ofPane_31 rfl ?_
    refine z_iconst C (v := 0) dX5_ofPane_32 (by decide) ?_
    refine z_aload_n C dX5_ofPane_33 rfl 0 rfl ?_
    refine z_iconst C (v := 4) dX5_ofPane_34 (by decide) ?_
    refine z_pl4 C ((z_up_n _ _ (z_neN ((z_up_n _ _ (z_ne (RI_K hR hi) hR.1 (by intro h; cases h))).trans (RI_K hR hi)) hq29)).trans ((z_up_n _ _ (z_ne (RI_K hR hi) hR.1 (by intro h; cases h))).trans (RI_K hR hi))) dX5_ofPane_35 ?_
    refine z_iast (j := 0) C (z_up_s _ _ _) (z_inL (by decide)) (by decide) dX5_ofPane_36 ?_
    rw [z_up_up]
    refine z_dup C dX5_ofPane_37 rfl ?_
    refine z_iconst C (v := 1) dX5_ofPane_38 (by decide) ?_
    refine z_aload_n C dX5_ofPane_39 rfl 0 rfl ?_
    refine z_iconst C (v := 5) dX5_ofPane_40 (by decide) ?_
    refine z_pl5 C ((z_up_n _ _ (z_neN ((z_up_n _ _ (z_ne (RI_K hR hi) hR.1 (by intro h; cases h))).trans (RI_K hR hi)) hq29)).trans ((z_up_n _ _ (z_ne (RI_K hR hi) hR.1 (by intro h; cases h))).trans (RI_K hR hi))) dX5_ofPane_41 ?_
    refine z_iast (j := 1) C (z_up_s _ _ _) (z_inL (by decide)) (by decide) dX5_ofPane_42 ?_
    rw [z_up_up]
    refine z_dup C dX5_ofPane_43 rfl ?_
    refine z_iconst C (v := 2) dX5_ofPane_44 (by decide) ?_
    refine z_aload_n C dX5_ofPane_45 rfl 0 rfl ?_
    refine z_iconst C (v := 3) dX5_ofPane_46 (by decide) ?_
    refine z_pl3 C ((z_up_n _ _ (z_neN ((z_up_n _ _ (z_ne (RI_K hR hi) hR.1 (by intro h; cases h))).trans (RI_K hR hi)) hq29)).trans ((z_up_n _ _ (z_ne (RI_K hR hi) hR.1 (by intro h; cases h))).trans (RI_K hR hi))) dX5_ofPane_47 ?_
    refine z_iast (j := 2) C (z_up_s _ _ _) (z_inL (by decide)) (by decide) dX5_ofPane_48 ?_
    rw [z_up_up]
    refine z_dup C dX5_ofPane_49 rfl ?_
    refine z_iconst C (v := 3) dX5_ofPane_50 (by decide) ?_
    refine z_aload_n C dX5_ofPane_51 rfl 0 rfl ?_
    refine z_callSi (rest := [.int 3, .ref q29, .ref q29]) (k' := 1) (n' := 10) C (c_X5_left (z_l X) (z_G X) ((z_up_n _ _ (z_neN ((z_up_n _ _ (z_ne (RI_K hR hi) hR.1 (by intro h; cases h))).trans (RI_K hR hi)) hq29)).trans ((z_up_n _ _ (z_ne (RI_K hR hi) hR.1 (by intro h; cases h))).trans (RI_K hR hi)))) (cs_X5_43 C (by decide)) rfl rfl (Nat.le_of_ble_eq_true rfl) rfl rfl (by decide) (by decide) dX5_ofPane_52 (fun x52 M' hq => ?_)
    obtain ⟨rfl, rfl⟩ := hq
    refine z_iast (j := 3) C (z_up_s _ _ _) (z_inL (by decide)) (by decide) dX5_ofPane_55 ?_
    rw [z_up_up]
    refine z_dup C dX5_ofPane_56 rfl ?_
    refine z_iconst C (v := 4) dX5_ofPane_57 (by decide) ?_
    refine z_aload_n C dX5_ofPane_58 rfl 0 rfl ?_
    refine z_bipush C (v := 6) dX5_ofPane_59 (by decide) ?_
    refine z_pl6 C ((z_up_n _ _ (z_neN ((z_up_n _ _ (z_ne (RI_K hR hi) hR.1 (by intro h; cases h))).trans (RI_K hR hi)) hq29)).trans ((z_up_n _ _ (z_ne (RI_K hR hi) hR.1 (by intro h; cases h))).trans (RI_K hR hi))) dX5_ofPane_61 ?_
    refine z_iast (j := 4) C (z_up_s _ _ _) (z_inL (by decide)) (by decide) dX5_ofPane_62 ?_
    rw [z_up_up]
    refine z_dup C dX5_ofPane_63 rfl ?_
    refine z_iconst C (v := 5) dX5_ofPane_64 (by decide) ?_
    refine z_aload_n C dX5_ofPane_65 rfl 0 rfl ?_
    refine z_bipush C (v := 7) dX5_ofPane_66 (by decide) ?_
    refine z_pl7 C ((z_up_n _ _ (z_neN ((z_up_n _ _ (z_ne (RI_K hR hi) hR.1 (by intro h; cases h))).trans (RI_K hR hi)) hq29)).trans ((z_up_n _ _ (z_ne (RI_K hR hi) hR.1 (by intro h; cases h))).trans (RI_K hR hi))) dX5_ofPane_68 ?_
    refine z_iconst C (v := 1) dX5_ofPane_69 (by decide) ?_
    refine z_icmp_ne C (tgt := 78) dX5_ofPane_70 (by decide) (fun c70 => ?_) (fun c70 => ?_)
    · refine z_aload_n C dX5_ofPane_78 rfl 0 rfl ?_
      refine z_iconst C (v := 2) dX5_ofPane_79 (by decide) ?_
      refine z_pl2 C ((z_up_n _ _ (z_neN ((z_up_n _ _ (z_ne (RI_K hR hi) hR.1 (by intro h; cases h))).trans (RI_K hR hi)) hq29)).trans ((z_up_n _ _ (z_ne (RI_K hR hi) hR.1 (by intro h; cases h))).trans (RI_K hR hi))) dX5_ofPane_80 ?_
      refine z_iast (j := 5) C (z_up_s _ _ _) (z_inL (by decide)) (by decide) dX5_ofPane_81 ?_
      rw [z_up_up]
      refine z_dup C dX5_ofPane_82 rfl ?_
      refine z_bipush C (v := 6) dX5_ofPane_83 (by decide) ?_
      refine z_aload_n C dX5_ofPane_85 rfl 0 rfl ?_
      refine z_callSi (rest := [.int 6, .ref q29, .ref q29]) (k' := 1) (n' := 10) C (c_X5_left (z_l X) (z_G X) ((z_up_n _ _ (z_neN ((z_up_n _ _ (z_ne (RI_K hR hi) hR.1 (by intro h; cases h))).trans (RI_K hR hi)) hq29)).trans ((z_up_n _ _ (z_ne (RI_K hR hi) hR.1 (by intro h; cases h))).trans (RI_K hR hi)))) (cs_X5_43 C (by decide)) rfl rfl (Nat.le_of_ble_eq_true rfl) rfl rfl (by decide) (by decide) dX5_ofPane_86 (fun x86 M' hq => ?_)
      obtain ⟨rfl, rfl⟩ := hq
      refine z_if_le C (tgt := 96) dX5_ofPane_89 (by decide) (fun c89 => ?_) (fun c89 => ?_)
      · refine z_iconst C (v := 0) dX5_ofPane_96 (by decide) ?_
        refine z_iast (j := 6) C (z_up_s _ _ _) (z_inL (by decide)) (by decide) dX5_ofPane_97 ?_
        rw [z_up_up]
        refine z_dup C dX5_ofPane_98 rfl ?_
        refine z_bipush C (v := 7) dX5_ofPane_99 (by decide) ?_
        refine z_aload_n C dX5_ofPane_101 rfl 0 rfl ?_
        refine z_bipush C (v := 7) dX5_ofPane_102 (by decide) ?_
        refine z_pl7 C ((z_up_n _ _ (z_neN ((z_up_n _ _ (z_ne (RI_K hR hi) hR.1 (by intro h; cases h))).trans (RI_K hR hi)) hq29)).trans ((z_up_n _ _ (z_ne (RI_K hR hi) hR.1 (by intro h; cases h))).trans (RI_K hR hi))) dX5_ofPane_104 ?_
        refine z_iast (j := 7) C (z_up_s _ _ _) (z_inL (by decide)) (by decide) dX5_ofPane_105 ?_
        rw [z_up_up]
        refine z_dup C dX5_ofPane_106 rfl ?_
        refine z_bipush C (v := 8) dX5_ofPane_107 (by decide) ?_
        refine z_iconst C (v := 1) dX5_ofPane_109 (by decide) ?_
        refine z_aload_n C dX5_ofPane_110 rfl 0 rfl ?_
        refine z_bipush C (v := 7) dX5_ofPane_111 (by decide) ?_
        refine z_pl7 C ((z_up_n _ _ (z_neN ((z_up_n _ _ (z_ne (RI_K hR hi) hR.1 (by intro h; cases h))).trans (RI_K hR hi)) hq29)).trans ((z_up_n _ _ (z_ne (RI_K hR hi) hR.1 (by intro h; cases h))).trans (RI_K hR hi))) dX5_ofPane_113 ?_
        refine z_isub C dX5_ofPane_114 ?_
        refine z_iast (j := 8) C (z_up_s _ _ _) (z_inL (by decide)) (by decide) dX5_ofPane_115 ?_
        rw [z_up_up]
        refine z_dup C dX5_ofPane_116 rfl ?_
        refine z_bipush C (v := 9) dX5_ofPane_117 (by decide) ?_
        refine z_aload_n C dX5_ofPane_119 rfl 0 rfl ?_
        refine z_iconst C (v := 3) dX5_ofPane_120 (by decide) ?_
        refine z_pl3 C ((z_up_n _ _ (z_neN ((z_up_n _ _ (z_ne (RI_K hR hi) hR.1 (by intro h; cases h))).trans (RI_K hR hi)) hq29)).trans ((z_up_n _ _ (z_ne (RI_K hR hi) hR.1 (by intro h; cases h))).trans (RI_K hR hi))) dX5_ofPane_121 ?_
        refine z_aload_n C dX5_ofPane_122 rfl 0 rfl ?_
        refine z_iconst C (v := 5) dX5_ofPane_123 (by decide) ?_
        refine z_pl5 C ((z_up_n _ _ (z_neN ((z_up_n _ _ (z_ne (RI_K hR hi) hR.1 (by intro h; cases h))).trans (RI_K hR hi)) hq29)).trans ((z_up_n _ _ (z_ne (RI_K hR hi) hR.1 (by intro h; cases h))).trans (RI_K hR hi))) dX5_ofPane_124 ?_
        refine z_isub C dX5_ofPane_125 ?_
        refine z_iast (j := 9) C (z_up_s _ _ _) (z_inL (by decide)) (by decide) dX5_ofPane_126 ?_
        rw [z_up_up]
        refine z_astore (lv' := [(4, .ref q29), (3, .ref (K pane.toNatClampNeg)), (0, .ref m), (1, .int pane), (2, .int wh)]) C dX5_ofPane_127 (by decide) rfl ?_
        refine z_aload C dX5_ofPane_129 0 rfl ?_
        refine z_iload_n C dX5_ofPane_131 rfl 4 rfl ?_
        refine z_iald (j := wh.toNatClampNeg) C (z_up_s _ _ _) (z_inT.mpr (by obtain ⟨jq, hjq, ejq, -⟩ := z_10 (z_lrN c15); rw [ejq, nI_T (by omega)]; omega)) rfl dX5_ofPane_132 ?_
        refine ret dX5_ofPane_133 rfl ?_ (by decide) (by decide)
        exact RP_ok (v := u) (by rw [s_of10 (if_pos ((s_rdn hok hi).mpr c70)) (if_pos c89) (z_lrN c15)]; rfl) (z_lr0 c15) (RI_junk (RI_th hR _) hq29)
      · refine z_iconst C (v := 1) dX5_ofPane_92 (by decide) ?_
        refine z_goto C (tgt := 97) dX5_ofPane_93 (by decide) ?_
        refine z_iast (j := 6) C (z_up_s _ _ _) (z_inL (by decide)) (by decide) dX5_ofPane_97 ?_
        rw [z_up_up]
        refine z_dup C dX5_ofPane_98 rfl ?_
        refine z_bipush C (v := 7) dX5_ofPane_99 (by decide) ?_
        refine z_aload_n C dX5_ofPane_101 rfl 0 rfl ?_
        refine z_bipush C (v := 7) dX5_ofPane_102 (by decide) ?_
        refine z_pl7 C ((z_up_n _ _ (z_neN ((z_up_n _ _ (z_ne (RI_K hR hi) hR.1 (by intro h; cases h))).trans (RI_K hR hi)) hq29)).trans ((z_up_n _ _ (z_ne (RI_K hR hi) hR.1 (by intro h; cases h))).trans (RI_K hR hi))) dX5_ofPane_104 ?_
        refine z_iast (j := 7) C (z_up_s _ _ _) (z_inL (by decide)) (by decide) dX5_ofPane_105 ?_
        rw [z_up_up]
        refine z_dup C dX5_ofPane_106 rfl ?_
        refine z_bipush C (v := 8) dX5_ofPane_107 (by decide) ?_
        refine z_iconst C (v := 1) dX5_ofPane_109 (by decide) ?_
        refine z_aload_n C dX5_ofPane_110 rfl 0 rfl ?_
        refine z_bipush C (v := 7) dX5_ofPane_111 (by decide) ?_
        refine z_pl7 C ((z_up_n _ _ (z_neN ((z_up_n _ _ (z_ne (RI_K hR hi) hR.1 (by intro h; cases h))).trans (RI_K hR hi)) hq29)).trans ((z_up_n _ _ (z_ne (RI_K hR hi) hR.1 (by intro h; cases h))).trans (RI_K hR hi))) dX5_ofPane_113 ?_
        refine z_isub C dX5_ofPane_114 ?_
        refine z_iast (j := 8) C (z_up_s _ _ _) (z_inL (by decide)) (by decide) dX5_ofPane_115 ?_
        rw [z_up_up]
        refine z_dup C dX5_ofPane_116 rfl ?_
        refine z_bipush C (v := 9) dX5_ofPane_117 (by decide) ?_
        refine z_aload_n C dX5_ofPane_119 rfl 0 rfl ?_
        refine z_iconst C (v := 3) dX5_ofPane_120 (by decide) ?_
        refine z_pl3 C ((z_up_n _ _ (z_neN ((z_up_n _ _ (z_ne (RI_K hR hi) hR.1 (by intro h; cases h))).trans (RI_K hR hi)) hq29)).trans ((z_up_n _ _ (z_ne (RI_K hR hi) hR.1 (by intro h; cases h))).trans (RI_K hR hi))) dX5_ofPane_121 ?_
        refine z_aload_n C dX5_ofPane_122 rfl 0 rfl ?_
        refine z_iconst C (v := 5) dX5_ofPane_123 (by decide) ?_
        refine z_pl5 C ((z_up_n _ _ (z_neN ((z_up_n _ _ (z_ne (RI_K hR hi) hR.1 (by intro h; cases h))).trans (RI_K hR hi)) hq29)).trans ((z_up_n _ _ (z_ne (RI_K hR hi) hR.1 (by intro h; cases h))).trans (RI_K hR hi))) dX5_ofPane_124 ?_
        refine z_isub C dX5_ofPane_125 ?_
        refine z_iast (j := 9) C (z_up_s _ _ _) (z_inL (by decide)) (by decide) dX5_ofPane_126 ?_
        rw [z_up_up]
        refine z_astore (lv' := [(4, .ref q29), (3, .ref (K pane.toNatClampNeg)), (0, .ref m), (1, .int pane), (2, .int wh)]) C dX5_ofPane_127 (by decide) rfl ?_
        refine z_aload C dX5_ofPane_129 0 rfl ?_
        refine z_iload_n C dX5_ofPane_131 rfl 4 rfl ?_
        refine z_iald (j := wh.toNatClampNeg) C (z_up_s _ _ _) (z_inT.mpr (by obtain ⟨jq, hjq, ejq, -⟩ := z_10 (z_lrN c15); rw [ejq, nI_T (by omega)]; omega)) rfl dX5_ofPane_132 ?_
        refine ret dX5_ofPane_133 rfl ?_ (by decide) (by decide)
        exact RP_ok (v := u) (by rw [s_of10 (if_pos ((s_rdn hok hi).mpr c70)) (if_neg c89) (z_lrN c15)]; rfl) (z_lr0 c15) (RI_junk (RI_th hR _) hq29)
    · refine z_bipush C (v := (-9)) dX5_ofPane_73 (by decide) ?_
      refine z_goto C (tgt := 81) dX5_ofPane_75 (by decide) ?_
      refine z_iast (j := 5) C (z_up_s _ _ _) (z_inL (by decide)) (by decide) dX5_ofPane_81 ?_
      rw [z_up_up]
      refine z_dup C dX5_ofPane_82 rfl ?_
      refine z_bipush C (v := 6) dX5_ofPane_83 (by decide) ?_
      refine z_aload_n C dX5_ofPane_85 rfl 0 rfl ?_
      refine z_callSi (rest := [.int 6, .ref q29, .ref q29]) (k' := 1) (n' := 10) C (c_X5_left (z_l X) (z_G X) ((z_up_n _ _ (z_neN ((z_up_n _ _ (z_ne (RI_K hR hi) hR.1 (by intro h; cases h))).trans (RI_K hR hi)) hq29)).trans ((z_up_n _ _ (z_ne (RI_K hR hi) hR.1 (by intro h; cases h))).trans (RI_K hR hi)))) (cs_X5_43 C (by decide)) rfl rfl (Nat.le_of_ble_eq_true rfl) rfl rfl (by decide) (by decide) dX5_ofPane_86 (fun x86 M' hq => ?_)
      obtain ⟨rfl, rfl⟩ := hq
      refine z_if_le C (tgt := 96) dX5_ofPane_89 (by decide) (fun c89 => ?_) (fun c89 => ?_)
      · refine z_iconst C (v := 0) dX5_ofPane_96 (by decide) ?_
        refine z_iast (j := 6) C (z_up_s _ _ _) (z_inL (by decide)) (by decide) dX5_ofPane_97 ?_
        rw [z_up_up]
        refine z_dup C dX5_ofPane_98 rfl ?_
        refine z_bipush C (v := 7) dX5_ofPane_99 (by decide) ?_
        refine z_aload_n C dX5_ofPane_101 rfl 0 rfl ?_
        refine z_bipush C (v := 7) dX5_ofPane_102 (by decide) ?_
        refine z_pl7 C ((z_up_n _ _ (z_neN ((z_up_n _ _ (z_ne (RI_K hR hi) hR.1 (by intro h; cases h))).trans (RI_K hR hi)) hq29)).trans ((z_up_n _ _ (z_ne (RI_K hR hi) hR.1 (by intro h; cases h))).trans (RI_K hR hi))) dX5_ofPane_104 ?_
        refine z_iast (j := 7) C (z_up_s _ _ _) (z_inL (by decide)) (by decide) dX5_ofPane_105 ?_
        rw [z_up_up]
        refine z_dup C dX5_ofPane_106 rfl ?_
        refine z_bipush C (v := 8) dX5_ofPane_107 (by decide) ?_
        refine z_iconst C (v := 1) dX5_ofPane_109 (by decide) ?_
        refine z_aload_n C dX5_ofPane_110 rfl 0 rfl ?_
        refine z_bipush C (v := 7) dX5_ofPane_111 (by decide) ?_
        refine z_pl7 C ((z_up_n _ _ (z_neN ((z_up_n _ _ (z_ne (RI_K hR hi) hR.1 (by intro h; cases h))).trans (RI_K hR hi)) hq29)).trans ((z_up_n _ _ (z_ne (RI_K hR hi) hR.1 (by intro h; cases h))).trans (RI_K hR hi))) dX5_ofPane_113 ?_
        refine z_isub C dX5_ofPane_114 ?_
        refine z_iast (j := 8) C (z_up_s _ _ _) (z_inL (by decide)) (by decide) dX5_ofPane_115 ?_
        rw [z_up_up]
        refine z_dup C dX5_ofPane_116 rfl ?_
        refine z_bipush C (v := 9) dX5_ofPane_117 (by decide) ?_
        refine z_aload_n C dX5_ofPane_119 rfl 0 rfl ?_
        refine z_iconst C (v := 3) dX5_ofPane_120 (by decide) ?_
        refine z_pl3 C ((z_up_n _ _ (z_neN ((z_up_n _ _ (z_ne (RI_K hR hi) hR.1 (by intro h; cases h))).trans (RI_K hR hi)) hq29)).trans ((z_up_n _ _ (z_ne (RI_K hR hi) hR.1 (by intro h; cases h))).trans (RI_K hR hi))) dX5_ofPane_121 ?_
        refine z_aload_n C dX5_ofPane_122 rfl 0 rfl ?_
        refine z_iconst C (v := 5) dX5_ofPane_123 (by decide) ?_
        refine z_pl5 C ((z_up_n _ _ (z_neN ((z_up_n _ _ (z_ne (RI_K hR hi) hR.1 (by intro h; cases h))).trans (RI_K hR hi)) hq29)).trans ((z_up_n _ _ (z_ne (RI_K hR hi) hR.1 (by intro h; cases h))).trans (RI_K hR hi))) dX5_ofPane_124 ?_
        refine z_isub C dX5_ofPane_125 ?_
        refine z_iast (j := 9) C (z_up_s _ _ _) (z_inL (by decide)) (by decide) dX5_ofPane_126 ?_
        rw [z_up_up]
        refine z_astore (lv' := [(4, .ref q29), (3, .ref (K pane.toNatClampNeg)), (0, .ref m), (1, .int pane), (2, .int wh)]) C dX5_ofPane_127 (by decide) rfl ?_
        refine z_aload C dX5_ofPane_129 0 rfl ?_
        refine z_iload_n C dX5_ofPane_131 rfl 4 rfl ?_
        refine z_iald (j := wh.toNatClampNeg) C (z_up_s _ _ _) (z_inT.mpr (by obtain ⟨jq, hjq, ejq, -⟩ := z_10 (z_lrN c15); rw [ejq, nI_T (by omega)]; omega)) rfl dX5_ofPane_132 ?_
        refine ret dX5_ofPane_133 rfl ?_ (by decide) (by decide)
        exact RP_ok (v := u) (by rw [s_of10 (if_neg ((s_rdn' hok hi).mp c70)) (if_pos c89) (z_lrN c15)]; rfl) (z_lr0 c15) (RI_junk (RI_th hR _) hq29)
      · refine z_iconst C (v := 1) dX5_ofPane_92 (by decide) ?_
        refine z_goto C (tgt := 97) dX5_ofPane_93 (by decide) ?_
        refine z_iast (j := 6) C (z_up_s _ _ _) (z_inL (by decide)) (by decide) dX5_ofPane_97 ?_
        rw [z_up_up]
        refine z_dup C dX5_ofPane_98 rfl ?_
        refine z_bipush C (v := 7) dX5_ofPane_99 (by decide) ?_
        refine z_aload_n C dX5_ofPane_101 rfl 0 rfl ?_
        refine z_bipush C (v := 7) dX5_ofPane_102 (by decide) ?_
        refine z_pl7 C ((z_up_n _ _ (z_neN ((z_up_n _ _ (z_ne (RI_K hR hi) hR.1 (by intro h; cases h))).trans (RI_K hR hi)) hq29)).trans ((z_up_n _ _ (z_ne (RI_K hR hi) hR.1 (by intro h; cases h))).trans (RI_K hR hi))) dX5_ofPane_104 ?_
        refine z_iast (j := 7) C (z_up_s _ _ _) (z_inL (by decide)) (by decide) dX5_ofPane_105 ?_
        rw [z_up_up]
        refine z_dup C dX5_ofPane_106 rfl ?_
        refine z_bipush C (v := 8) dX5_ofPane_107 (by decide) ?_
        refine z_iconst C (v := 1) dX5_ofPane_109 (by decide) ?_
        refine z_aload_n C dX5_ofPane_110 rfl 0 rfl ?_
        refine z_bipush C (v := 7) dX5_ofPane_111 (by decide) ?_
        refine z_pl7 C ((z_up_n _ _ (z_neN ((z_up_n _ _ (z_ne (RI_K hR hi) hR.1 (by intro h; cases h))).trans (RI_K hR hi)) hq29)).trans ((z_up_n _ _ (z_ne (RI_K hR hi) hR.1 (by intro h; cases h))).trans (RI_K hR hi))) dX5_ofPane_113 ?_
        refine z_isub C dX5_ofPane_114 ?_
        refine z_iast (j := 8) C (z_up_s _ _ _) (z_inL (by decide)) (by decide) dX5_ofPane_115 ?_
        rw [z_up_up]
        refine z_dup C dX5_ofPane_116 rfl ?_
        refine z_bipush C (v := 9) dX5_ofPane_117 (by decide) ?_
        refine z_aload_n C dX5_ofPane_119 rfl 0 rfl ?_
        refine z_iconst C (v := 3) dX5_ofPane_120 (by decide) ?_
        refine z_pl3 C ((z_up_n _ _ (z_neN ((z_up_n _ _ (z_ne (RI_K hR hi) hR.1 (by intro h; cases h))).trans (RI_K hR hi)) hq29)).trans ((z_up_n _ _ (z_ne (RI_K hR hi) hR.1 (by intro h; cases h))).trans (RI_K hR hi))) dX5_ofPane_121 ?_
        refine z_aload_n C dX5_ofPane_122 rfl 0 rfl ?_
        refine z_iconst C (v := 5) dX5_ofPane_123 (by decide) ?_
        refine z_pl5 C ((z_up_n _ _ (z_neN ((z_up_n _ _ (z_ne (RI_K hR hi) hR.1 (by intro h; cases h))).trans (RI_K hR hi)) hq29)).trans ((z_up_n _ _ (z_ne (RI_K hR hi) hR.1 (by intro h; cases h))).trans (RI_K hR hi))) dX5_ofPane_124 ?_
        refine z_isub C dX5_ofPane_125 ?_
        refine z_iast (j := 9) C (z_up_s _ _ _) (z_inL (by decide)) (by decide) dX5_ofPane_126 ?_
        rw [z_up_up]
        refine z_astore (lv' := [(4, .ref q29), (3, .ref (K pane.toNatClampNeg)), (0, .ref m), (1, .int pane), (2, .int wh)]) C dX5_ofPane_127 (by decide) rfl ?_
        refine z_aload C dX5_ofPane_129 0 rfl ?_
        refine z_iload_n C dX5_ofPane_131 rfl 4 rfl ?_
        refine z_iald (j := wh.toNatClampNeg) C (z_up_s _ _ _) (z_inT.mpr (by obtain ⟨jq, hjq, ejq, -⟩ := z_10 (z_lrN c15); rw [ejq, nI_T (by omega)]; omega)) rfl dX5_ofPane_132 ?_
        refine ret dX5_ofPane_133 rfl ?_ (by decide) (by decide)
        exact RP_ok (v := u) (by rw [s_of10 (if_neg ((s_rdn' hok hi).mp c70)) (if_neg c89) (z_lrN c15)]; rfl) (z_lr0 c15) (RI_junk (RI_th hR _) hq29)
  · refine z_iconst C (v := 0) dX5_ofPane_18 (by decide) ?_
    refine ret dX5_ofPane_19 rfl ?_ (by decide) (by decide)
    exact RP_bad (z_lr1 c15) (RI_ak hR _ _ _)
theorem a_X5_ofPane (l : Launch) {G : zG} {u : sS} {m : Nat} {th : Int32} {K : Nat → Nat} {tp pn td : Nat} {Mw : zM} (hR : RI G u m th K tp pn td Mw) {t : Nat} (hok : s_ok t u) (ht : t ≤ 64) (pane wh : Int32) : z_Mi l G qX5_ofPane (z_rm 4 1 10) [.ref m, .int pane, .int wh] Mw (RP G m pn td (z_lt (z_is pane 0 5) (z_is wh 0 9)) u ((s_of u pane.toNatClampNeg wh, u))) := by
  rcases z_pc pane with ⟨h_ok, h_ip, hi⟩ | ⟨h_bad, -⟩
  · exact g_X5_ofPane l hR hok ht h_ok h_ip hi
  · refine z_Mi_mono (c_X5_ofPane_bad l G hR.1 h_bad) ?_
    rintro r M' ⟨hr9, rfl⟩
    · exact RP_bad (z_lt0 h_bad) (RI_ak hR _ _ _) (by first | rfl | (rw [h_bad]; rfl))
end
section
theorem z_h78 {w : Int32} (h : ¬ z_is w 0 8 = 0) (h6 : ¬ w = 6) (h5 : ¬ w < 6) : w = 7 ∨ w = 8 := by
  have h1 := z_isT h
  rw [show (8 : Int32).toInt = 8 from by decide] at h1
  rw [z_eqI, show (6 : Int32).toInt = 6 from by decide] at h6
  rw [z_ltI, show (6 : Int32).toInt = 6 from by decide] at h5
  rw [z_eqI, z_eqI, show (7 : Int32).toInt = 7 from by decide, show (8 : Int32).toInt = 8 from by decide]
  omega
theorem z_h5 {w : Int32} (h : ¬ z_is w 0 8 = 0) (h5 : w < 6) : vp_in w 6 ∧ ¬ w = 7 ∧ ¬ w = 8 ∧ ¬ w = 6 := by
  have h1 := z_isT h
  rw [z_t0] at h1
  rw [z_ltI, show (6 : Int32).toInt = 6 from by decide] at h5
  refine ⟨z_inT.mpr ⟨by omega, by omega⟩, ?_, ?_, ?_⟩ <;> intro e <;> rw [e] at h5 <;> revert h5 <;> decide
theorem z_h9 {w : Int32} (h : ¬ z_is w 0 8 = 0) (h0 : ¬ w = 0 ∧ ¬ w = 1 ∧ ¬ w = 2 ∧ ¬ w = 3 ∧ ¬ w = 4 ∧ ¬ w = 5 ∧ ¬ w = 6 ∧ ¬ w = 7 ∧ ¬ w = 8) : False := by
  obtain ⟨a0, a1, a2, a3, a4, a5, a6, a7, a8⟩ := h0
  have h1 := z_isT h
  rw [z_t0, show (8 : Int32).toInt = 8 from by decide] at h1
  rw [z_eqI, z_t0] at a0
  rw [z_eqI, z_t1] at a1
  rw [z_eqI, show (2 : Int32).toInt = 2 from by decide] at a2
  rw [z_eqI, show (3 : Int32).toInt = 3 from by decide] at a3
  rw [z_eqI, show (4 : Int32).toInt = 4 from by decide] at a4
  rw [z_eqI, show (5 : Int32).toInt = 5 from by decide] at a5
  rw [z_eqI, show (6 : Int32).toInt = 6 from by decide] at a6
  rw [z_eqI, show (7 : Int32).toInt = 7 from by decide] at a7
  rw [z_eqI, show (8 : Int32).toInt = 8 from by decide] at a8
  omega
theorem s_hs {u : sS} {w : Int32} (h0 : ¬ w = 0) (h6 : ¬ w = 6) (h7 : ¬ w = 7) (h8 : ¬ w = 8) : s_house u w = s_td u w.toNatClampNeg := by
  unfold s_house
  rw [if_neg h0, if_neg h6, if_neg h7, if_neg h8]
theorem s_h7 {u : sS} : s_house u 7 = s_sumf (fun i => p_rd (s_pn u i)) 6 := by
  unfold s_house
  rw [if_neg (by decide), if_neg (by decide), if_pos rfl]
theorem s_h8 {u : sS} : s_house u 8 = s_sumf (fun i => if p_mk (s_pn u i) = -1 then 0 else 1) 6 := by
  unfold s_house
  rw [if_neg (by decide), if_neg (by decide), if_neg (by decide), if_pos rfl]
theorem s_sf0 {f : Nat → Int32} {j : Nat} (h : f j = 0) : s_sumf f j = s_sumf f (j + 1) := by
  show _ = s_sumf f j + f j
  rw [h, Int32.add_zero]
theorem s_sf1 {f : Nat → Int32} {j : Nat} (h : f j = 1) : s_sumf f j + 1 = s_sumf f (j + 1) := by
  show _ = s_sumf f j + f j
  rw [h]
abbrev s_mkf (u : sS) : Nat → Int32 := fun i => if p_mk (s_pn u i) = -1 then 0 else 1
abbrev s_rdf (u : sS) : Nat → Int32 := fun i => p_rd (s_pn u i)
theorem dX5_house_0 : decode cX5_house 0 = .ok (.aload_n 0, 1) := by decide +kernel
theorem dX5_house_1 : decode cX5_house 1 = .ok (.iload_n 1, 1) := by decide +kernel
theorem dX5_house_2 : decode cX5_house 2 = .ok (.iconst 0, 1) := by decide +kernel
theorem dX5_house_3 : decode cX5_house 3 = .ok (.bipush 8, 2) := by decide +kernel
theorem dX5_house_5 : decode cX5_house 5 = .ok (.invokestatic 36, 3) := by decide +kernel
theorem dX5_house_8 : decode cX5_house 8 = .ok (.ifCond .eq 7, 3) := by decide +kernel
theorem dX5_house_11 : decode cX5_house 11 = .ok (.iconst 0, 1) := by decide +kernel
theorem dX5_house_12 : decode cX5_house 12 = .ok (.goto 4, 3) := by decide +kernel
theorem dX5_house_15 : decode cX5_house 15 = .ok (.iconst 1, 1) := by decide +kernel
theorem dX5_house_16 : decode cX5_house 16 = .ok (.putfield 33, 3) := by decide +kernel
theorem dX5_house_19 : decode cX5_house 19 = .ok (.aload_n 0, 1) := by decide +kernel
theorem dX5_house_20 : decode cX5_house 20 = .ok (.getfield 33, 3) := by decide +kernel
theorem dX5_house_23 : decode cX5_house 23 = .ok (.iconst 1, 1) := by decide +kernel
theorem dX5_house_24 : decode cX5_house 24 = .ok (.if_icmp .ne 5, 3) := by decide +kernel
theorem dX5_house_27 : decode cX5_house 27 = .ok (.iconst 0, 1) := by decide +kernel
theorem dX5_house_28 : decode cX5_house 28 = .ok (.ireturn, 1) := by decide +kernel
theorem dX5_house_29 : decode cX5_house 29 = .ok (.iload_n 1, 1) := by decide +kernel
theorem dX5_house_30 : decode cX5_house 30 = .ok (.ifCond .eq 9, 3) := by decide +kernel
theorem dX5_house_33 : decode cX5_house 33 = .ok (.iload_n 1, 1) := by decide +kernel
theorem dX5_house_34 : decode cX5_house 34 = .ok (.bipush 6, 2) := by decide +kernel
theorem dX5_house_36 : decode cX5_house 36 = .ok (.if_icmp .ne 19, 3) := by decide +kernel
theorem dX5_house_39 : decode cX5_house 39 = .ok (.iload_n 1, 1) := by decide +kernel
theorem dX5_house_40 : decode cX5_house 40 = .ok (.ifCond .ne 10, 3) := by decide +kernel
theorem dX5_house_43 : decode cX5_house 43 = .ok (.aload_n 0, 1) := by decide +kernel
theorem dX5_house_44 : decode cX5_house 44 = .ok (.getfield 40, 3) := by decide +kernel
theorem dX5_house_47 : decode cX5_house 47 = .ok (.goto 7, 3) := by decide +kernel
theorem dX5_house_50 : decode cX5_house 50 = .ok (.aload_n 0, 1) := by decide +kernel
theorem dX5_house_51 : decode cX5_house 51 = .ok (.getfield 139, 3) := by decide +kernel
theorem dX5_house_54 : decode cX5_house 54 = .ok (.ireturn, 1) := by decide +kernel
theorem dX5_house_55 : decode cX5_house 55 = .ok (.iload_n 1, 1) := by decide +kernel
theorem dX5_house_56 : decode cX5_house 56 = .ok (.bipush 6, 2) := by decide +kernel
theorem dX5_house_58 : decode cX5_house 58 = .ok (.if_icmp .ge 10, 3) := by decide +kernel
theorem dX5_house_61 : decode cX5_house 61 = .ok (.aload_n 0, 1) := by decide +kernel
theorem dX5_house_62 : decode cX5_house 62 = .ok (.getfield 22, 3) := by decide +kernel
theorem dX5_house_65 : decode cX5_house 65 = .ok (.iload_n 1, 1) := by decide +kernel
theorem dX5_house_66 : decode cX5_house 66 = .ok (.iaload, 1) := by decide +kernel
theorem dX5_house_67 : decode cX5_house 67 = .ok (.ireturn, 1) := by decide +kernel
theorem dX5_house_68 : decode cX5_house 68 = .ok (.iconst 0, 1) := by decide +kernel
theorem dX5_house_69 : decode cX5_house 69 = .ok (.istore_n 2, 1) := by decide +kernel
theorem dX5_house_70 : decode cX5_house 70 = .ok (.aload_n 0, 1) := by decide +kernel
theorem dX5_house_71 : decode cX5_house 71 = .ok (.getfield 18, 3) := by decide +kernel
theorem dX5_house_74 : decode cX5_house 74 = .ok (.astore_n 3, 1) := by decide +kernel
theorem dX5_house_75 : decode cX5_house 75 = .ok (.aload_n 3, 1) := by decide +kernel
theorem dX5_house_76 : decode cX5_house 76 = .ok (.arraylength, 1) := by decide +kernel
theorem dX5_house_77 : decode cX5_house 77 = .ok (.istore 4, 2) := by decide +kernel
theorem dX5_house_79 : decode cX5_house 79 = .ok (.iconst 0, 1) := by decide +kernel
theorem dX5_house_80 : decode cX5_house 80 = .ok (.istore 5, 2) := by decide +kernel
theorem dX5_house_82 : decode cX5_house 82 = .ok (.iload 5, 2) := by decide +kernel
theorem dX5_house_84 : decode cX5_house 84 = .ok (.iload 4, 2) := by decide +kernel
theorem dX5_house_86 : decode cX5_house 86 = .ok (.if_icmp .ge 46, 3) := by decide +kernel
theorem dX5_house_89 : decode cX5_house 89 = .ok (.aload_n 3, 1) := by decide +kernel
theorem dX5_house_90 : decode cX5_house 90 = .ok (.iload 5, 2) := by decide +kernel
theorem dX5_house_92 : decode cX5_house 92 = .ok (.aaload, 1) := by decide +kernel
theorem dX5_house_93 : decode cX5_house 93 = .ok (.astore 6, 2) := by decide +kernel
theorem dX5_house_95 : decode cX5_house 95 = .ok (.iload_n 2, 1) := by decide +kernel
theorem dX5_house_96 : decode cX5_house 96 = .ok (.iload_n 1, 1) := by decide +kernel
theorem dX5_house_97 : decode cX5_house 97 = .ok (.bipush 7, 2) := by decide +kernel
theorem dX5_house_99 : decode cX5_house 99 = .ok (.if_icmp .ne 11, 3) := by decide +kernel
theorem dX5_house_102 : decode cX5_house 102 = .ok (.aload 6, 2) := by decide +kernel
theorem dX5_house_104 : decode cX5_house 104 = .ok (.bipush 7, 2) := by decide +kernel
theorem dX5_house_106 : decode cX5_house 106 = .ok (.iaload, 1) := by decide +kernel
theorem dX5_house_107 : decode cX5_house 107 = .ok (.goto 17, 3) := by decide +kernel
theorem dX5_house_110 : decode cX5_house 110 = .ok (.aload 6, 2) := by decide +kernel
theorem dX5_house_112 : decode cX5_house 112 = .ok (.bipush 6, 2) := by decide +kernel
theorem dX5_house_114 : decode cX5_house 114 = .ok (.iaload, 1) := by decide +kernel
theorem dX5_house_115 : decode cX5_house 115 = .ok (.iconst (-1), 1) := by decide +kernel
theorem dX5_house_116 : decode cX5_house 116 = .ok (.if_icmp .ne 7, 3) := by decide +kernel
theorem dX5_house_119 : decode cX5_house 119 = .ok (.iconst 0, 1) := by decide +kernel
theorem dX5_house_120 : decode cX5_house 120 = .ok (.goto 4, 3) := by decide +kernel
theorem dX5_house_123 : decode cX5_house 123 = .ok (.iconst 1, 1) := by decide +kernel
theorem dX5_house_124 : decode cX5_house 124 = .ok (.iadd, 1) := by decide +kernel
theorem dX5_house_125 : decode cX5_house 125 = .ok (.istore_n 2, 1) := by decide +kernel
theorem dX5_house_126 : decode cX5_house 126 = .ok (.iinc 5 1, 3) := by decide +kernel
theorem dX5_house_129 : decode cX5_house 129 = .ok (.goto (-47), 3) := by decide +kernel
theorem dX5_house_132 : decode cX5_house 132 = .ok (.iload_n 2, 1) := by decide +kernel
theorem dX5_house_133 : decode cX5_house 133 = .ok (.ireturn, 1) := by decide +kernel
theorem dX3_howManyReaders_0 : decode cX3_howManyReaders 0 = .ok (.iconst 0, 1) := by decide +kernel
theorem dX3_howManyReaders_1 : decode cX3_howManyReaders 1 = .ok (.istore_n 1, 1) := by decide +kernel
theorem dX3_howManyReaders_2 : decode cX3_howManyReaders 2 = .ok (.iconst 0, 1) := by decide +kernel
theorem dX3_howManyReaders_3 : decode cX3_howManyReaders 3 = .ok (.istore_n 2, 1) := by decide +kernel
theorem dX3_howManyReaders_4 : decode cX3_howManyReaders 4 = .ok (.iload_n 2, 1) := by decide +kernel
theorem dX3_howManyReaders_5 : decode cX3_howManyReaders 5 = .ok (.aload_n 0, 1) := by decide +kernel
theorem dX3_howManyReaders_6 : decode cX3_howManyReaders 6 = .ok (.getfield 20, 3) := by decide +kernel
theorem dX3_howManyReaders_9 : decode cX3_howManyReaders 9 = .ok (.arraylength, 1) := by decide +kernel
theorem dX3_howManyReaders_10 : decode cX3_howManyReaders 10 = .ok (.if_icmp .ge 24, 3) := by decide +kernel
theorem dX3_howManyReaders_13 : decode cX3_howManyReaders 13 = .ok (.aload_n 0, 1) := by decide +kernel
theorem dX3_howManyReaders_14 : decode cX3_howManyReaders 14 = .ok (.getfield 20, 3) := by decide +kernel
theorem dX3_howManyReaders_17 : decode cX3_howManyReaders 17 = .ok (.iload_n 2, 1) := by decide +kernel
theorem dX3_howManyReaders_18 : decode cX3_howManyReaders 18 = .ok (.aaload, 1) := by decide +kernel
theorem dX3_howManyReaders_19 : decode cX3_howManyReaders 19 = .ok (.getfield 89, 3) := by decide +kernel
theorem dX3_howManyReaders_22 : decode cX3_howManyReaders 22 = .ok (.ifCond .eq 6, 3) := by decide +kernel
theorem dX3_howManyReaders_25 : decode cX3_howManyReaders 25 = .ok (.iinc 1 1, 3) := by decide +kernel
theorem dX3_howManyReaders_28 : decode cX3_howManyReaders 28 = .ok (.iinc 2 1, 3) := by decide +kernel
theorem dX3_howManyReaders_31 : decode cX3_howManyReaders 31 = .ok (.goto (-27), 3) := by decide +kernel
theorem dX3_howManyReaders_34 : decode cX3_howManyReaders 34 = .ok (.iload_n 1, 1) := by decide +kernel
theorem dX3_howManyReaders_35 : decode cX3_howManyReaders 35 = .ok (.ireturn, 1) := by decide +kernel
theorem dX3_howManyMarks_0 : decode cX3_howManyMarks 0 = .ok (.iconst 0, 1) := by decide +kernel
theorem dX3_howManyMarks_1 : decode cX3_howManyMarks 1 = .ok (.istore_n 1, 1) := by decide +kernel
theorem dX3_howManyMarks_2 : decode cX3_howManyMarks 2 = .ok (.iconst 0, 1) := by decide +kernel
theorem dX3_howManyMarks_3 : decode cX3_howManyMarks 3 = .ok (.istore_n 2, 1) := by decide +kernel
theorem dX3_howManyMarks_4 : decode cX3_howManyMarks 4 = .ok (.iload_n 2, 1) := by decide +kernel
theorem dX3_howManyMarks_5 : decode cX3_howManyMarks 5 = .ok (.aload_n 0, 1) := by decide +kernel
theorem dX3_howManyMarks_6 : decode cX3_howManyMarks 6 = .ok (.getfield 20, 3) := by decide +kernel
theorem dX3_howManyMarks_9 : decode cX3_howManyMarks 9 = .ok (.arraylength, 1) := by decide +kernel
theorem dX3_howManyMarks_10 : decode cX3_howManyMarks 10 = .ok (.if_icmp .ge 24, 3) := by decide +kernel
theorem dX3_howManyMarks_13 : decode cX3_howManyMarks 13 = .ok (.aload_n 0, 1) := by decide +kernel
theorem dX3_howManyMarks_14 : decode cX3_howManyMarks 14 = .ok (.getfield 20, 3) := by decide +kernel
theorem dX3_howManyMarks_17 : decode cX3_howManyMarks 17 = .ok (.iload_n 2, 1) := by decide +kernel
theorem dX3_howManyMarks_18 : decode cX3_howManyMarks 18 = .ok (.aaload, 1) := by decide +kernel
theorem dX3_howManyMarks_19 : decode cX3_howManyMarks 19 = .ok (.invokevirtual 109, 3) := by decide +kernel
theorem dX3_howManyMarks_22 : decode cX3_howManyMarks 22 = .ok (.ifCond .eq 6, 3) := by decide +kernel
theorem dX3_howManyMarks_25 : decode cX3_howManyMarks 25 = .ok (.iinc 1 1, 3) := by decide +kernel
theorem dX3_howManyMarks_28 : decode cX3_howManyMarks 28 = .ok (.iinc 2 1, 3) := by decide +kernel
theorem dX3_howManyMarks_31 : decode cX3_howManyMarks 31 = .ok (.goto (-27), 3) := by decide +kernel
theorem dX3_howManyMarks_34 : decode cX3_howManyMarks 34 = .ok (.iload_n 1, 1) := by decide +kernel
theorem dX3_howManyMarks_35 : decode cX3_howManyMarks 35 = .ok (.ireturn, 1) := by decide +kernel
theorem dX3_houseNumber_0 : decode cX3_houseNumber 0 = .ok (.iload_n 1, 1) := by decide +kernel
theorem dX3_houseNumber_1 : decode cX3_houseNumber 1 = .ok (.tableswitch 71 0 8 #[51, 71, 71, 71, 71, 71, 56, 61, 66], 51) := by decide +kernel
theorem dX3_houseNumber_52 : decode cX3_houseNumber 52 = .ok (.aload_n 0, 1) := by decide +kernel
theorem dX3_houseNumber_53 : decode cX3_houseNumber 53 = .ok (.getfield 42, 3) := by decide +kernel
theorem dX3_houseNumber_56 : decode cX3_houseNumber 56 = .ok (.ireturn, 1) := by decide +kernel
theorem dX3_houseNumber_57 : decode cX3_houseNumber 57 = .ok (.aload_n 0, 1) := by decide +kernel
theorem dX3_houseNumber_58 : decode cX3_houseNumber 58 = .ok (.getfield 46, 3) := by decide +kernel
theorem dX3_houseNumber_61 : decode cX3_houseNumber 61 = .ok (.ireturn, 1) := by decide +kernel
theorem dX3_houseNumber_62 : decode cX3_houseNumber 62 = .ok (.aload_n 0, 1) := by decide +kernel
theorem dX3_houseNumber_63 : decode cX3_houseNumber 63 = .ok (.invokevirtual 236, 3) := by decide +kernel
theorem dX3_houseNumber_66 : decode cX3_houseNumber 66 = .ok (.ireturn, 1) := by decide +kernel
theorem dX3_houseNumber_67 : decode cX3_houseNumber 67 = .ok (.aload_n 0, 1) := by decide +kernel
theorem dX3_houseNumber_68 : decode cX3_houseNumber 68 = .ok (.invokevirtual 239, 3) := by decide +kernel
theorem dX3_houseNumber_71 : decode cX3_houseNumber 71 = .ok (.ireturn, 1) := by decide +kernel
theorem dX3_houseNumber_72 : decode cX3_houseNumber 72 = .ok (.iload_n 1, 1) := by decide +kernel
theorem dX3_houseNumber_73 : decode cX3_houseNumber 73 = .ok (.ifCond .lt 21, 3) := by decide +kernel
theorem dX3_houseNumber_76 : decode cX3_houseNumber 76 = .ok (.iload_n 1, 1) := by decide +kernel
theorem dX3_houseNumber_77 : decode cX3_houseNumber 77 = .ok (.aload_n 0, 1) := by decide +kernel
theorem dX3_houseNumber_78 : decode cX3_houseNumber 78 = .ok (.getfield 38, 3) := by decide +kernel
theorem dX3_houseNumber_81 : decode cX3_houseNumber 81 = .ok (.arraylength, 1) := by decide +kernel
theorem dX3_houseNumber_82 : decode cX3_houseNumber 82 = .ok (.if_icmp .ge 12, 3) := by decide +kernel
theorem dX3_houseNumber_85 : decode cX3_houseNumber 85 = .ok (.aload_n 0, 1) := by decide +kernel
theorem dX3_houseNumber_86 : decode cX3_houseNumber 86 = .ok (.getfield 38, 3) := by decide +kernel
theorem dX3_houseNumber_89 : decode cX3_houseNumber 89 = .ok (.iload_n 1, 1) := by decide +kernel
theorem dX3_houseNumber_90 : decode cX3_houseNumber 90 = .ok (.iaload, 1) := by decide +kernel
theorem dX3_houseNumber_91 : decode cX3_houseNumber 91 = .ok (.goto 4, 3) := by decide +kernel
theorem dX3_houseNumber_95 : decode cX3_houseNumber 95 = .ok (.ireturn, 1) := by decide +kernel
theorem dX3_house_0 : decode cX3_house 0 = .ok (.iload_n 1, 1) := by decide +kernel
theorem dX3_house_1 : decode cX3_house 1 = .ok (.iconst 0, 1) := by decide +kernel
theorem dX3_house_2 : decode cX3_house 2 = .ok (.bipush 8, 2) := by decide +kernel
theorem dX3_house_4 : decode cX3_house 4 = .ok (.invokestatic 53, 3) := by decide +kernel
theorem dX3_house_7 : decode cX3_house 7 = .ok (.aload_n 0, 1) := by decide +kernel
theorem dX3_house_8 : decode cX3_house 8 = .ok (.iload_n 1, 1) := by decide +kernel
theorem dX3_house_9 : decode cX3_house 9 = .ok (.invokevirtual 185, 3) := by decide +kernel
theorem dX3_house_12 : decode cX3_house 12 = .ok (.ireturn, 1) := by decide +kernel
set_option maxRecDepth 20000 in
theorem lp_X5_house7 {X : zX} (C : z_C X cX5_house RX5 7 (z_rm 2 0 0)) {m : Nat} {th : Int32} {K : Nat → Nat} {tp pn td : Nat} {u : sS} {Mw : zM} (hR : RI (z_G X) u m th K tp pn td Mw) {fp : Nat → Option Nat} (hpn : Mw pn = some (aII (z_G X) 6 fp)) (hfp : ∀ i, i < 6 → fp i = some (K i)) (kk : z_W X Mw 0 0 132 [(5, .int (nI 6)), (4, .int 6), (3, .ref pn), (2, .int (s_sumf (s_rdf u) 6)), (0, .ref m), (1, .int 7)] []) : ∀ d j : Nat, j + d = 6 → z_W X Mw 0 0 82 [(5, .int (nI j)), (4, .int 6), (3, .ref pn), (2, .int (s_sumf (s_rdf u) j)), (0, .ref m), (1, .int 7)] [] := by
  intro d
  induction d with
  | zero =>
    intro j hj
    refine z_iload C dX5_house_82 0 rfl ?_
    refine z_iload C dX5_house_84 1 rfl ?_
    refine z_icmp_ge C (tgt := 132) dX5_house_86 (by decide) (fun _ => ?_) (fun c86 => absurd (by rw [show j = 6 by omega]; decide) c86)
    have ejm : j = 6 := by omega
    subst ejm
    exact kk
  | succ d ih =>
    intro j hj
    refine z_iload C dX5_house_82 0 rfl ?_
    refine z_iload C dX5_house_84 1 rfl ?_
    refine z_icmp_ge C (tgt := 132) dX5_house_86 (by decide) (fun c86 => absurd c86 (nI_ge (a := j) (b := 6) (by omega) (by decide))) (fun _ => ?_)
    refine z_aload_n C dX5_house_89 rfl 2 rfl ?_
    refine z_iload C dX5_house_90 0 rfl ?_
    refine z_aaldI (j := j) C hpn (vp_in_nI (by omega) (by decide)) (nI_clamp (by omega)) (hfp j (by omega)) dX5_house_92 ?_
    refine z_astore (lv' := [(6, .ref (K j)), (5, .int (nI j)), (4, .int 6), (3, .ref pn), (2, .int (s_sumf (s_rdf u) j)), (0, .ref m), (1, .int 7)]) C dX5_house_93 (by decide) rfl ?_
    refine z_iload_n C dX5_house_95 rfl 4 rfl ?_
    refine z_iload_n C dX5_house_96 rfl 6 rfl ?_
    refine z_bipush C (v := 7) dX5_house_97 (by decide) ?_
    refine z_icmp_ne C (tgt := 110) dX5_house_99 (by decide) (fun c99 => absurd (by decide) c99) (fun _ => ?_)
    refine z_aload C dX5_house_102 0 rfl ?_
    refine z_bipush C (v := 7) dX5_house_104 (by decide) ?_
    refine z_pl7 C (RI_K hR (show j < 6 by omega)) dX5_house_106 ?_
    refine z_goto C (tgt := 124) dX5_house_107 (by decide) ?_
    refine z_iadd C dX5_house_124 ?_
    refine z_istore_n (lv' := [(2, .int ((s_sumf (s_rdf u) j) + (p_rd (s_pn u j)))), (6, .ref (K j)), (5, .int (nI j)), (4, .int 6), (3, .ref pn), (0, .ref m), (1, .int 7)]) C dX5_house_125 rfl (by decide) rfl ?_
    refine z_iinc (v := nI (j + 1)) (lv' := [(5, .int (nI (j + 1))), (2, .int ((s_sumf (s_rdf u) j) + (p_rd (s_pn u j)))), (6, .ref (K j)), (4, .int 6), (3, .ref pn), (0, .ref m), (1, .int 7)]) C dX5_house_126 2 rfl (nI_1 j) (by decide) rfl ?_
    refine z_goto C (tgt := 82) dX5_house_129 (by decide) ?_
    refine z_fewer (lv' := [(5, .int (nI (j + 1))), (4, .int 6), (3, .ref pn), (2, .int ((s_sumf (s_rdf u) j) + (p_rd (s_pn u j)))), (0, .ref m), (1, .int 7)]) [0, 3, 4, 1, 5, 6] rfl ?_
    refine z_at (M' := _) (lv' := [(5, .int (nI (j + 1))), (4, .int 6), (3, .ref pn), (2, .int (s_sumf (s_rdf u) (j + 1))), (0, .ref m), (1, .int 7)]) rfl (by rw [show s_sumf (s_rdf u) (j + 1) = (s_sumf (s_rdf u) j) + (p_rd (s_pn u j)) from rfl]) rfl ?_
    exact ih (j + 1) (by omega)
set_option maxRecDepth 20000 in
theorem lp_X5_house8 {X : zX} (C : z_C X cX5_house RX5 7 (z_rm 2 0 0)) {m : Nat} {th : Int32} {K : Nat → Nat} {tp pn td : Nat} {u : sS} {Mw : zM} (hR : RI (z_G X) u m th K tp pn td Mw) {fp : Nat → Option Nat} (hpn : Mw pn = some (aII (z_G X) 6 fp)) (hfp : ∀ i, i < 6 → fp i = some (K i)) (kk : z_W X Mw 0 0 132 [(5, .int (nI 6)), (4, .int 6), (3, .ref pn), (2, .int (s_sumf (s_mkf u) 6)), (0, .ref m), (1, .int 8)] []) : ∀ d j : Nat, j + d = 6 → z_W X Mw 0 0 82 [(5, .int (nI j)), (4, .int 6), (3, .ref pn), (2, .int (s_sumf (s_mkf u) j)), (0, .ref m), (1, .int 8)] [] := by
  intro d
  induction d with
  | zero =>
    intro j hj
    refine z_iload C dX5_house_82 0 rfl ?_
    refine z_iload C dX5_house_84 1 rfl ?_
    refine z_icmp_ge C (tgt := 132) dX5_house_86 (by decide) (fun _ => ?_) (fun c86 => absurd (by rw [show j = 6 by omega]; decide) c86)
    have ejm : j = 6 := by omega
    subst ejm
    exact kk
  | succ d ih =>
    intro j hj
    refine z_iload C dX5_house_82 0 rfl ?_
    refine z_iload C dX5_house_84 1 rfl ?_
    refine z_icmp_ge C (tgt := 132) dX5_house_86 (by decide) (fun c86 => absurd c86 (nI_ge (a := j) (b := 6) (by omega) (by decide))) (fun _ => ?_)
    refine z_aload_n C dX5_house_89 rfl 2 rfl ?_
    refine z_iload C dX5_house_90 0 rfl ?_
    refine z_aaldI (j := j) C hpn (vp_in_nI (by omega) (by decide)) (nI_clamp (by omega)) (hfp j (by omega)) dX5_house_92 ?_
    refine z_astore (lv' := [(6, .ref (K j)), (5, .int (nI j)), (4, .int 6), (3, .ref pn), (2, .int (s_sumf (s_mkf u) j)), (0, .ref m), (1, .int 8)]) C dX5_house_93 (by decide) rfl ?_
    refine z_iload_n C dX5_house_95 rfl 4 rfl ?_
    refine z_iload_n C dX5_house_96 rfl 6 rfl ?_
    refine z_bipush C (v := 7) dX5_house_97 (by decide) ?_
    refine z_icmp_ne C (tgt := 110) dX5_house_99 (by decide) (fun _ => ?_) (fun c99 => absurd c99 (by decide))
    refine z_aload C dX5_house_110 0 rfl ?_
    refine z_bipush C (v := 6) dX5_house_112 (by decide) ?_
    refine z_pl6 C (RI_K hR (show j < 6 by omega)) dX5_house_114 ?_
    refine z_iconst C (v := (-1)) dX5_house_115 (by decide) ?_
    refine z_icmp_ne C (tgt := 123) dX5_house_116 (by decide) (fun c116 => ?_) (fun c116 => ?_)
    · refine z_iconst C (v := 1) dX5_house_123 (by decide) ?_
      refine z_iadd C dX5_house_124 ?_
      refine z_istore_n (lv' := [(2, .int ((s_sumf (s_mkf u) j) + 1)), (6, .ref (K j)), (5, .int (nI j)), (4, .int 6), (3, .ref pn), (0, .ref m), (1, .int 8)]) C dX5_house_125 rfl (by decide) rfl ?_
      refine z_iinc (v := nI (j + 1)) (lv' := [(5, .int (nI (j + 1))), (2, .int ((s_sumf (s_mkf u) j) + 1)), (6, .ref (K j)), (4, .int 6), (3, .ref pn), (0, .ref m), (1, .int 8)]) C dX5_house_126 2 rfl (nI_1 j) (by decide) rfl ?_
      refine z_goto C (tgt := 82) dX5_house_129 (by decide) ?_
      refine z_fewer (lv' := [(5, .int (nI (j + 1))), (4, .int 6), (3, .ref pn), (2, .int ((s_sumf (s_mkf u) j) + 1)), (0, .ref m), (1, .int 8)]) [0, 3, 4, 1, 5, 6] rfl ?_
      refine z_at (M' := _) (lv' := [(5, .int (nI (j + 1))), (4, .int 6), (3, .ref pn), (2, .int (s_sumf (s_mkf u) (j + 1))), (0, .ref m), (1, .int 8)]) rfl (by rw [show s_sumf (s_mkf u) (j + 1) = (s_sumf (s_mkf u) j) + 1 from (s_sf1 (if_neg c116)).symm]) rfl ?_
      exact ih (j + 1) (by omega)
    · refine z_iconst C (v := 0) dX5_house_119 (by decide) ?_
      refine z_goto C (tgt := 124) dX5_house_120 (by decide) ?_
      refine z_iadd C dX5_house_124 ?_
      refine z_istore_n (lv' := [(2, .int ((s_sumf (s_mkf u) j) + 0)), (6, .ref (K j)), (5, .int (nI j)), (4, .int 6), (3, .ref pn), (0, .ref m), (1, .int 8)]) C dX5_house_125 rfl (by decide) rfl ?_
      refine z_iinc (v := nI (j + 1)) (lv' := [(5, .int (nI (j + 1))), (2, .int ((s_sumf (s_mkf u) j) + 0)), (6, .ref (K j)), (4, .int 6), (3, .ref pn), (0, .ref m), (1, .int 8)]) C dX5_house_126 2 rfl (nI_1 j) (by decide) rfl ?_
      refine z_goto C (tgt := 82) dX5_house_129 (by decide) ?_
      refine z_fewer (lv' := [(5, .int (nI (j + 1))), (4, .int 6), (3, .ref pn), (2, .int ((s_sumf (s_mkf u) j) + 0)), (0, .ref m), (1, .int 8)]) [0, 3, 4, 1, 5, 6] rfl ?_
      refine z_at (M' := _) (lv' := [(5, .int (nI (j + 1))), (4, .int 6), (3, .ref pn), (2, .int (s_sumf (s_mkf u) (j + 1))), (0, .ref m), (1, .int 8)]) rfl (by rw [show s_sumf (s_mkf u) (j + 1) = (s_sumf (s_mkf u) j) + 0 from (s_sf0 (if_pos c116)).symm.trans (Int32.add_zero _).symm]) rfl ?_
      exact ih (j + 1) (by omega)
set_option maxRecDepth 20000 in
theorem a_X5_house (l : Launch) {G : zG} {u : sS} {m : Nat} {th : Int32} {K : Nat → Nat} {tp pn td : Nat} {Mw : zM} (hR : RI G u m th K tp pn td Mw) {t : Nat} (hok : s_ok t u) (ht : t ≤ 64) (wh : Int32) : z_Mi l G qX5_house (z_rm 2 0 0) [.ref m, .int wh] Mw (RP G m pn td (z_lt (z_is wh 0 8) 1) u (s_house u wh, u))  := by
  obtain ⟨fp, hpn, hfp⟩ := RI_pnf hR
  refine z_Mi_of _ (plainFor_of_name rfl) rfl (Nat.le_of_ble_eq_true rfl) (fun X hl hG hnm C ret => ?_)
  subst hl; subst hG
  have C : z_C X cX5_house RX5 7 (z_rm 2 0 0) := C
  show z_W X Mw 0 0 0 [(0, .ref m), (1, .int wh)] []
  refine z_aload_n C dX5_house_0 rfl 0 rfl ?_
  refine z_iload_n C dX5_house_1 rfl 1 rfl ?_
  refine z_iconst C (v := 0) dX5_house_2 (by decide) ?_
  refine z_bipush C (v := 8) dX5_house_3 (by decide) ?_
  refine z_callSi (rest := [.ref m]) (k' := 0) (n' := 0) C (c_X5_isIn (z_l X) (z_G X) ) (cs_X5_36 C (by decide)) rfl rfl (Nat.le_of_ble_eq_true rfl) rfl rfl (by decide) (by decide) dX5_house_5 (fun x5 M' hq => ?_)
  obtain ⟨rfl, rfl⟩ := hq
  refine z_if_eq C (tgt := 15) dX5_house_8 (by decide) (fun c8 => ?_) (fun c8 => ?_)
  · refine z_iconst C (v := 1) dX5_house_15 (by decide) ?_
    refine pf_X5_33 C hR.1 dX5_house_16 ?_
    refine z_aload_n C dX5_house_19 rfl 0 rfl ?_
    refine gf_X5_33 C (z_up_s _ _ _) dX5_house_20 ?_
    refine z_iconst C (v := 1) dX5_house_23 (by decide) ?_
    refine z_icmp_ne C (tgt := 29) dX5_house_24 (by decide) (fun c24 => absurd (by decide) c24) (fun _ => ?_)
    refine z_iconst C (v := 0) dX5_house_27 (by decide) ?_
    refine ret dX5_house_28 rfl ?_ (by decide) (by decide)
    exact RP_bad (z_lt0 c8) (RI_ak hR _ _ _) (k_1 c8).symm
  · refine z_iconst C (v := 0) dX5_house_11 (by decide) ?_
    refine z_goto C (tgt := 16) dX5_house_12 (by decide) ?_
    refine pf_X5_33 C hR.1 dX5_house_16 ?_
    refine z_aload_n C dX5_house_19 rfl 0 rfl ?_
    refine gf_X5_33 C (z_up_s _ _ _) dX5_house_20 ?_
    refine z_iconst C (v := 1) dX5_house_23 (by decide) ?_
    refine z_icmp_ne C (tgt := 29) dX5_house_24 (by decide) (fun _ => ?_) (fun c24 => absurd c24 (by decide))
    refine z_iload_n C dX5_house_29 rfl 1 rfl ?_
    refine z_if_eq C (tgt := 39) dX5_house_30 (by decide) (fun c30 => ?_) (fun c30 => ?_)
    · refine z_iload_n C dX5_house_39 rfl 1 rfl ?_
      refine z_if_ne C (tgt := 50) dX5_house_40 (by decide) (fun c40 => ?_) (fun c40 => ?_)
      · refine z_aload_n C dX5_house_50 rfl 0 rfl ?_
        refine gf_X5_139 C (z_up_s _ _ _) dX5_house_51 ?_
        refine ret dX5_house_54 rfl ?_ (by decide) (by decide)
        exact absurd c30 c40
      · refine z_aload_n C dX5_house_43 rfl 0 rfl ?_
        refine gf_X5_40 C (z_up_s _ _ _) dX5_house_44 ?_
        refine z_goto C (tgt := 54) dX5_house_47 (by decide) ?_
        refine ret dX5_house_54 rfl ?_ (by decide) (by decide)
        exact RP_ok (v := u) (by rw [c30]; rfl) (z_lt3 (z_is11 c8) rfl) (RI_th hR 0) (z_lt3 (z_is11 c8) rfl).symm
    · refine z_iload_n C dX5_house_33 rfl 1 rfl ?_
      refine z_bipush C (v := 6) dX5_house_34 (by decide) ?_
      refine z_icmp_ne C (tgt := 55) dX5_house_36 (by decide) (fun c36 => ?_) (fun c36 => ?_)
      · refine z_iload_n C dX5_house_55 rfl 1 rfl ?_
        refine z_bipush C (v := 6) dX5_house_56 (by decide) ?_
        refine z_icmp_ge C (tgt := 68) dX5_house_58 (by decide) (fun c58 => ?_) (fun c58 => ?_)
        · refine z_iconst C (v := 0) dX5_house_68 (by decide) ?_
          refine z_istore_n (lv' := [(2, .int 0), (0, .ref m), (1, .int wh)]) C dX5_house_69 rfl (by decide) rfl ?_
          refine z_aload_n C dX5_house_70 rfl 1 rfl ?_
          refine gf_X5_18 C (z_up_s _ _ _) dX5_house_71 ?_
          refine z_astore_n (lv' := [(3, .ref pn), (2, .int 0), (0, .ref m), (1, .int wh)]) C dX5_house_74 rfl (by decide) rfl ?_
          refine z_aload_n C dX5_house_75 rfl 0 rfl ?_
          refine z_alenII C (v := 6) ((z_up_n _ _ (z_ne hpn hR.1 (by intro h; cases h))).trans hpn) (by decide) dX5_house_76 ?_
          refine z_istore (lv' := [(4, .int 6), (3, .ref pn), (2, .int 0), (0, .ref m), (1, .int wh)]) C dX5_house_77 (by decide) rfl ?_
          refine z_iconst C (v := 0) dX5_house_79 (by decide) ?_
          refine z_istore (lv' := [(5, .int 0), (4, .int 6), (3, .ref pn), (2, .int 0), (0, .ref m), (1, .int wh)]) C dX5_house_80 (by decide) rfl ?_
          rcases z_h78 c8 c36 (Int32.not_lt.mpr c58) with ew | ew
          · rw [ew]
            refine z_at (M' := _) (lv' := [(5, .int (nI 0)), (4, .int 6), (3, .ref pn), (2, .int (s_sumf (s_rdf u) 0)), (0, .ref m), (1, .int 7)]) rfl (by rw [nI_0]; rfl) rfl ?_
            have hR9 := RI_th hR 0
            refine lp_X5_house7 C (u := u) hR9 (fp := fp) (zk hR.1 hpn (by intro h; cases h)) hfp ?_ 6 0 (by omega)
            refine z_iload_n C dX5_house_132 rfl 3 rfl ?_
            refine ret dX5_house_133 rfl ?_ (by decide) (by decide)
            rw [ew]
            rw [show (z_lt (z_is 7 0 8) 1) = 0 from by decide]
            exact RP_ok (v := u) (by rw [s_h7]) rfl hR9
          · rw [ew]
            refine z_at (M' := _) (lv' := [(5, .int (nI 0)), (4, .int 6), (3, .ref pn), (2, .int (s_sumf (s_mkf u) 0)), (0, .ref m), (1, .int 8)]) rfl (by rw [nI_0]; rfl) rfl ?_
            have hR9 := RI_th hR 0
            refine lp_X5_house8 C (u := u) hR9 (fp := fp) (zk hR.1 hpn (by intro h; cases h)) hfp ?_ 6 0 (by omega)
            refine z_iload_n C dX5_house_132 rfl 3 rfl ?_
            refine ret dX5_house_133 rfl ?_ (by decide) (by decide)
            rw [ew]
            rw [show (z_lt (z_is 8 0 8) 1) = 0 from by decide]
            exact RP_ok (v := u) (by rw [s_h8]) rfl hR9
        · refine z_aload_n C dX5_house_61 rfl 0 rfl ?_
          refine gf_X5_22 C (z_up_s _ _ _) dX5_house_62 ?_
          refine z_iload_n C dX5_house_65 rfl 1 rfl ?_
          refine z_iald (j := wh.toNatClampNeg) C ((z_up_n _ _ (z_ne (RI_tdf hR) hR.1 (by intro h; cases h))).trans (RI_tdf hR)) (z_h5 c8 (Int32.not_le.mp c58)).1 rfl dX5_house_66 ?_
          refine ret dX5_house_67 rfl ?_ (by decide) (by decide)
          have h5 := z_h5 c8 (Int32.not_le.mp c58)
          exact RP_ok (v := u) (by rw [s_hs c30 h5.2.2.2 h5.2.1 h5.2.2.1]) (z_lt3 (z_is11 c8) rfl) (RI_th hR 0) (z_lt3 (z_is11 c8) rfl).symm
      · refine z_iload_n C dX5_house_39 rfl 1 rfl ?_
        refine z_if_ne C (tgt := 50) dX5_house_40 (by decide) (fun c40 => ?_) (fun c40 => ?_)
        · refine z_aload_n C dX5_house_50 rfl 0 rfl ?_
          refine gf_X5_139 C (z_up_s _ _ _) dX5_house_51 ?_
          refine ret dX5_house_54 rfl ?_ (by decide) (by decide)
          exact RP_ok (v := u) (by rw [c36]; rfl) (z_lt3 (z_is11 c8) rfl) (RI_th hR 0) (z_lt3 (z_is11 c8) rfl).symm
        · refine z_aload_n C dX5_house_43 rfl 0 rfl ?_
          refine gf_X5_40 C (z_up_s _ _ _) dX5_house_44 ?_
          refine z_goto C (tgt := 54) dX5_house_47 (by decide) ?_
          refine ret dX5_house_54 rfl ?_ (by decide) (by decide)
          exact absurd c40 c30
set_option maxRecDepth 20000 in
theorem lp_X3_howManyReaders {X : zX} (C : z_C X cX3_howManyReaders RX3 3 (z_rm 2 0 0)) {x : Nat} {P RA VA : Nat → Nat} {pa sp ln rf sb : Nat} {u : sS} {t : Nat} (hok : s_ok t u) {Mw : zM} (hC : CI (z_G X) u x P RA VA pa sp ln rf sb Mw) {fp : Nat → Option Nat} (hpa : Mw pa = some (aP (z_G X) 6 fp)) (hfp : ∀ i, i < 6 → fp i = some (P i)) (kk : z_W X Mw 0 0 34 [(2, .int (nI 6)), (1, .int (s_sumf (s_rdf u) 6)), (0, .ref x)] []) : ∀ d j : Nat, j + d = 6 → z_W X Mw 0 0 4 [(2, .int (nI j)), (1, .int (s_sumf (s_rdf u) j)), (0, .ref x)] [] := by
  intro d
  induction d with
  | zero =>
    intro j hj
    refine z_iload_n C dX3_howManyReaders_4 rfl 0 rfl ?_
    refine z_aload_n C dX3_howManyReaders_5 rfl 2 rfl ?_
    refine gf_X3_20 C hC.1 dX3_howManyReaders_6 ?_
    refine z_alenP C (v := 6) hpa (by decide) dX3_howManyReaders_9 ?_
    refine z_icmp_ge C (tgt := 34) dX3_howManyReaders_10 (by decide) (fun _ => ?_) (fun c10 => absurd (by rw [show j = 6 by omega]; decide) c10)
    have ejm : j = 6 := by omega
    subst ejm
    exact kk
  | succ d ih =>
    intro j hj
    refine z_iload_n C dX3_howManyReaders_4 rfl 0 rfl ?_
    refine z_aload_n C dX3_howManyReaders_5 rfl 2 rfl ?_
    refine gf_X3_20 C hC.1 dX3_howManyReaders_6 ?_
    refine z_alenP C (v := 6) hpa (by decide) dX3_howManyReaders_9 ?_
    refine z_icmp_ge C (tgt := 34) dX3_howManyReaders_10 (by decide) (fun c10 => absurd c10 (nI_ge (a := j) (b := 6) (by omega) (by decide))) (fun _ => ?_)
    refine z_aload_n C dX3_howManyReaders_13 rfl 2 rfl ?_
    refine gf_X3_20 C hC.1 dX3_howManyReaders_14 ?_
    refine z_iload_n C dX3_howManyReaders_17 rfl 0 rfl ?_
    refine z_aaldP (j := j) C hpa (vp_in_nI (by omega) (by decide)) (nI_clamp (by omega)) (hfp j (by omega)) dX3_howManyReaders_18 ?_
    refine gf_X3_89 C (CI_P hC (show j < 6 by omega)) dX3_howManyReaders_19 ?_
    refine z_if_eq C (tgt := 28) dX3_howManyReaders_22 (by decide) (fun c22 => ?_) (fun c22 => ?_)
    · refine z_iinc (v := nI (j + 1)) (lv' := [(2, .int (nI (j + 1))), (1, .int (s_sumf (s_rdf u) j)), (0, .ref x)]) C dX3_howManyReaders_28 0 rfl (nI_1 j) (by decide) rfl ?_
      refine z_goto C (tgt := 4) dX3_howManyReaders_31 (by decide) ?_
      refine z_fewer (lv' := [(2, .int (nI (j + 1))), (1, .int (s_sumf (s_rdf u) j)), (0, .ref x)]) [0, 1, 2] rfl ?_
      refine z_at (M' := _) (lv' := [(2, .int (nI (j + 1))), (1, .int (s_sumf (s_rdf u) (j + 1))), (0, .ref x)]) rfl (by rw [show s_sumf (s_rdf u) (j + 1) = (s_sumf (s_rdf u) j) from (s_sf0 c22).symm]) rfl ?_
      exact ih (j + 1) (by omega)
    · refine z_iinc (v := (s_sumf (s_rdf u) j) + 1) (lv' := [(1, .int ((s_sumf (s_rdf u) j) + 1)), (2, .int (nI j)), (0, .ref x)]) C dX3_howManyReaders_25 1 rfl (by rfl) (by decide) rfl ?_
      refine z_iinc (v := nI (j + 1)) (lv' := [(2, .int (nI (j + 1))), (1, .int ((s_sumf (s_rdf u) j) + 1)), (0, .ref x)]) C dX3_howManyReaders_28 1 rfl (nI_1 j) (by decide) rfl ?_
      refine z_goto C (tgt := 4) dX3_howManyReaders_31 (by decide) ?_
      refine z_fewer (lv' := [(2, .int (nI (j + 1))), (1, .int ((s_sumf (s_rdf u) j) + 1)), (0, .ref x)]) [0, 1, 2] rfl ?_
      refine z_at (M' := _) (lv' := [(2, .int (nI (j + 1))), (1, .int (s_sumf (s_rdf u) (j + 1))), (0, .ref x)]) rfl (by rw [show s_sumf (s_rdf u) (j + 1) = (s_sumf (s_rdf u) j) + 1 from (s_sf1 (((s_rdn' hok (by omega)).mpr c22))).symm]) rfl ?_
      exact ih (j + 1) (by omega)
set_option maxRecDepth 20000 in
theorem a_X3_howManyReaders (l : Launch) {G : zG} {u : sS} {x : Nat} {P RA VA : Nat → Nat} {pa sp ln rf sb : Nat} {Mw : zM} (hC : CI G u x P RA VA pa sp ln rf sb Mw) {t : Nat} (hok : s_ok t u) : z_Mi l G qX3_howManyReaders (z_rm 2 0 0) [.ref x] Mw (fun r M' => r = s_sumf (s_rdf u) 6 ∧ M' = Mw)  := by
  obtain ⟨fp, hpa, hfp⟩ := CI_pa hC
  refine z_Mi_of _ (plainFor_of_name rfl) rfl (Nat.le_of_ble_eq_true rfl) (fun X hl hG hnm C ret => ?_)
  subst hl; subst hG
  have C : z_C X cX3_howManyReaders RX3 3 (z_rm 2 0 0) := C
  show z_W X Mw 0 0 0 [(0, .ref x)] []
  refine z_iconst C (v := 0) dX3_howManyReaders_0 (by decide) ?_
  refine z_istore_n (lv' := [(1, .int 0), (0, .ref x)]) C dX3_howManyReaders_1 rfl (by decide) rfl ?_
  refine z_iconst C (v := 0) dX3_howManyReaders_2 (by decide) ?_
  refine z_istore_n (lv' := [(2, .int 0), (1, .int 0), (0, .ref x)]) C dX3_howManyReaders_3 rfl (by decide) rfl ?_
  refine z_at (M' := _) (lv' := [(2, .int (nI 0)), (1, .int (s_sumf (s_rdf u) 0)), (0, .ref x)]) rfl (by rw [nI_0]; rfl) rfl ?_
  refine lp_X3_howManyReaders C hok hC hpa hfp ?_ 6 0 (by omega)
  refine z_iload_n C dX3_howManyReaders_34 rfl 1 rfl ?_
  refine ret dX3_howManyReaders_35 rfl ?_ (by decide) (by decide)
  exact ⟨rfl, rfl⟩
set_option maxRecDepth 20000 in
theorem lp_X3_howManyMarks {X : zX} (C : z_C X cX3_howManyMarks RX3 3 (z_rm 2 0 0)) {x : Nat} {P RA VA : Nat → Nat} {pa sp ln rf sb : Nat} {u : sS} {t : Nat} (hok : s_ok t u) {Mw : zM} (hC : CI (z_G X) u x P RA VA pa sp ln rf sb Mw) {fp : Nat → Option Nat} (hpa : Mw pa = some (aP (z_G X) 6 fp)) (hfp : ∀ i, i < 6 → fp i = some (P i)) (kk : z_W X Mw 0 0 34 [(2, .int (nI 6)), (1, .int (s_sumf (s_mkf u) 6)), (0, .ref x)] []) : ∀ d j : Nat, j + d = 6 → z_W X Mw 0 0 4 [(2, .int (nI j)), (1, .int (s_sumf (s_mkf u) j)), (0, .ref x)] [] := by
  intro d
  induction d with
  | zero =>
    intro j hj
    refine z_iload_n C dX3_howManyMarks_4 rfl 0 rfl ?_
    refine z_aload_n C dX3_howManyMarks_5 rfl 2 rfl ?_
    refine gf_X3_20 C hC.1 dX3_howManyMarks_6 ?_
    refine z_alenP C (v := 6) hpa (by decide) dX3_howManyMarks_9 ?_
    refine z_icmp_ge C (tgt := 34) dX3_howManyMarks_10 (by decide) (fun _ => ?_) (fun c10 => absurd (by rw [show j = 6 by omega]; decide) c10)
    have ejm : j = 6 := by omega
    subst ejm
    exact kk
  | succ d ih =>
    intro j hj
    refine z_iload_n C dX3_howManyMarks_4 rfl 0 rfl ?_
    refine z_aload_n C dX3_howManyMarks_5 rfl 2 rfl ?_
    refine gf_X3_20 C hC.1 dX3_howManyMarks_6 ?_
    refine z_alenP C (v := 6) hpa (by decide) dX3_howManyMarks_9 ?_
    refine z_icmp_ge C (tgt := 34) dX3_howManyMarks_10 (by decide) (fun c10 => absurd c10 (nI_ge (a := j) (b := 6) (by omega) (by decide))) (fun _ => ?_)
    refine z_aload_n C dX3_howManyMarks_13 rfl 2 rfl ?_
    refine gf_X3_20 C hC.1 dX3_howManyMarks_14 ?_
    refine z_iload_n C dX3_howManyMarks_17 rfl 0 rfl ?_
    refine z_aaldP (j := j) C hpa (vp_in_nI (by omega) (by decide)) (nI_clamp (by omega)) (hfp j (by omega)) dX3_howManyMarks_18 ?_
    refine z_callVi (rest := []) (k' := 0) (n' := 0) C (c_X1_hasMark (z_l X) (z_G X) (CI_P hC (show j < 6 by omega))) (cs_X3_109 C (by decide)) (CI_P hC (show j < 6 by omega)) rfl rfl rfl rfl (Nat.le_of_ble_eq_true rfl) rfl rfl (by decide) (by decide) dX3_howManyMarks_19 (fun x19 M' hq => ?_)
    obtain ⟨rfl, rfl⟩ := hq
    refine z_if_eq C (tgt := 28) dX3_howManyMarks_22 (by decide) (fun c22 => ?_) (fun c22 => ?_)
    · refine z_iinc (v := nI (j + 1)) (lv' := [(2, .int (nI (j + 1))), (1, .int (s_sumf (s_mkf u) j)), (0, .ref x)]) C dX3_howManyMarks_28 0 rfl (nI_1 j) (by decide) rfl ?_
      refine z_goto C (tgt := 4) dX3_howManyMarks_31 (by decide) ?_
      refine z_fewer (lv' := [(2, .int (nI (j + 1))), (1, .int (s_sumf (s_mkf u) j)), (0, .ref x)]) [0, 1, 2] rfl ?_
      refine z_at (M' := _) (lv' := [(2, .int (nI (j + 1))), (1, .int (s_sumf (s_mkf u) (j + 1))), (0, .ref x)]) rfl (by rw [show s_sumf (s_mkf u) (j + 1) = (s_sumf (s_mkf u) j) from (s_sf0 (if_pos (z_hm0.mp c22))).symm]) rfl ?_
      exact ih (j + 1) (by omega)
    · refine z_iinc (v := (s_sumf (s_mkf u) j) + 1) (lv' := [(1, .int ((s_sumf (s_mkf u) j) + 1)), (2, .int (nI j)), (0, .ref x)]) C dX3_howManyMarks_25 1 rfl (by rfl) (by decide) rfl ?_
      refine z_iinc (v := nI (j + 1)) (lv' := [(2, .int (nI (j + 1))), (1, .int ((s_sumf (s_mkf u) j) + 1)), (0, .ref x)]) C dX3_howManyMarks_28 1 rfl (nI_1 j) (by decide) rfl ?_
      refine z_goto C (tgt := 4) dX3_howManyMarks_31 (by decide) ?_
      refine z_fewer (lv' := [(2, .int (nI (j + 1))), (1, .int ((s_sumf (s_mkf u) j) + 1)), (0, .ref x)]) [0, 1, 2] rfl ?_
      refine z_at (M' := _) (lv' := [(2, .int (nI (j + 1))), (1, .int (s_sumf (s_mkf u) (j + 1))), (0, .ref x)]) rfl (by rw [show s_sumf (s_mkf u) (j + 1) = (s_sumf (s_mkf u) j) + 1 from (s_sf1 (if_neg (fun q => c22 (z_hm0.mpr q)))).symm]) rfl ?_
      exact ih (j + 1) (by omega)
set_option maxRecDepth 20000 in
theorem a_X3_howManyMarks (l : Launch) {G : zG} {u : sS} {x : Nat} {P RA VA : Nat → Nat} {pa sp ln rf sb : Nat} {Mw : zM} (hC : CI G u x P RA VA pa sp ln rf sb Mw) {t : Nat} (hok : s_ok t u) : z_Mi l G qX3_howManyMarks (z_rm 2 0 0) [.ref x] Mw (fun r M' => r = s_sumf (s_mkf u) 6 ∧ M' = Mw)  := by
  obtain ⟨fp, hpa, hfp⟩ := CI_pa hC
  refine z_Mi_of _ (plainFor_of_name rfl) rfl (Nat.le_of_ble_eq_true rfl) (fun X hl hG hnm C ret => ?_)
  subst hl; subst hG
  have C : z_C X cX3_howManyMarks RX3 3 (z_rm 2 0 0) := C
  show z_W X Mw 0 0 0 [(0, .ref x)] []
  refine z_iconst C (v := 0) dX3_howManyMarks_0 (by decide) ?_
  refine z_istore_n (lv' := [(1, .int 0), (0, .ref x)]) C dX3_howManyMarks_1 rfl (by decide) rfl ?_
  refine z_iconst C (v := 0) dX3_howManyMarks_2 (by decide) ?_
  refine z_istore_n (lv' := [(2, .int 0), (1, .int 0), (0, .ref x)]) C dX3_howManyMarks_3 rfl (by decide) rfl ?_
  refine z_at (M' := _) (lv' := [(2, .int (nI 0)), (1, .int (s_sumf (s_mkf u) 0)), (0, .ref x)]) rfl (by rw [nI_0]; rfl) rfl ?_
  refine lp_X3_howManyMarks C hok hC hpa hfp ?_ 6 0 (by omega)
  refine z_iload_n C dX3_howManyMarks_34 rfl 1 rfl ?_
  refine ret dX3_howManyMarks_35 rfl ?_ (by decide) (by decide)
  exact ⟨rfl, rfl⟩
set_option maxRecDepth 20000 in
theorem a_X3_houseNumber (l : Launch) {G : zG} {u : sS} {x : Nat} {P RA VA : Nat → Nat} {pa sp ln rf sb : Nat} {Mw : zM} (hC : CI G u x P RA VA pa sp ln rf sb Mw) {t : Nat} (hok : s_ok t u) (wh : Int32) (h_w : ¬ z_is wh 0 8 = 0) : z_Mi l G qX3_houseNumber (z_rm 3 0 0) [.ref x, .int wh] Mw (fun r M' => r = s_house u wh ∧ M' = Mw)  := by
  refine z_Mi_of _ (plainFor_of_name rfl) rfl (Nat.le_of_ble_eq_true rfl) (fun X hl hG hnm C ret => ?_)
  subst hl; subst hG
  have C : z_C X cX3_houseNumber RX3 2 (z_rm 3 0 0) := C
  show z_W X Mw 0 0 0 [(0, .ref x), (1, .int wh)] []
  refine z_iload_n C dX3_houseNumber_0 rfl 1 rfl ?_
  refine z_swi (fun x1 e1 => ?_)
  by_cases c1_0 : x1 = 0
  · refine z_tin C (v := 0) (tgt := 52) dX3_houseNumber_1 c1_0 (by decide) (by decide) (by decide) (by decide) ?_
    refine z_aload_n C dX3_houseNumber_52 rfl 0 rfl ?_
    refine gf_X3_42 C hC.1 dX3_houseNumber_53 ?_
    refine ret dX3_houseNumber_56 rfl ?_ (by decide) (by decide)
    exact ⟨by rw [(z_swe e1 c1_0)]; rfl, rfl⟩
  by_cases c1_1 : x1 = 1
  · refine z_tin C (v := 1) (tgt := 72) dX3_houseNumber_1 c1_1 (by decide) (by decide) (by decide) (by decide) ?_
    refine z_iload_n C dX3_houseNumber_72 rfl 1 rfl ?_
    refine z_if_lt C (tgt := 94) dX3_houseNumber_73 (by decide) (fun c73 => absurd c73 (by rw [(z_swe e1 c1_1)]; decide)) (fun _ => ?_)
    refine z_iload_n C dX3_houseNumber_76 rfl 1 rfl ?_
    refine z_aload_n C dX3_houseNumber_77 rfl 0 rfl ?_
    refine gf_X3_38 C hC.1 dX3_houseNumber_78 ?_
    refine z_alenI C (v := 6) (CI_rf hC) (by decide) dX3_houseNumber_81 ?_
    refine z_icmp_ge C (tgt := 94) dX3_houseNumber_82 (by decide) (fun c82 => absurd c82 (by rw [(z_swe e1 c1_1)]; decide)) (fun _ => ?_)
    refine z_aload_n C dX3_houseNumber_85 rfl 0 rfl ?_
    refine gf_X3_38 C hC.1 dX3_houseNumber_86 ?_
    refine z_iload_n C dX3_houseNumber_89 rfl 1 rfl ?_
    refine z_iald (j := wh.toNatClampNeg) C (CI_rf hC) (by rw [(z_swe e1 c1_1)]; exact z_inL (by decide)) rfl dX3_houseNumber_90 ?_
    refine z_goto C (tgt := 95) dX3_houseNumber_91 (by decide) ?_
    refine ret dX3_houseNumber_95 rfl ?_ (by decide) (by decide)
    exact ⟨by rw [(z_swe e1 c1_1)]; rfl, rfl⟩
  by_cases c1_2 : x1 = 2
  · refine z_tin C (v := 2) (tgt := 72) dX3_houseNumber_1 c1_2 (by decide) (by decide) (by decide) (by decide) ?_
    refine z_iload_n C dX3_houseNumber_72 rfl 1 rfl ?_
    refine z_if_lt C (tgt := 94) dX3_houseNumber_73 (by decide) (fun c73 => absurd c73 (by rw [(z_swe e1 c1_2)]; decide)) (fun _ => ?_)
    refine z_iload_n C dX3_houseNumber_76 rfl 1 rfl ?_
    refine z_aload_n C dX3_houseNumber_77 rfl 0 rfl ?_
    refine gf_X3_38 C hC.1 dX3_houseNumber_78 ?_
    refine z_alenI C (v := 6) (CI_rf hC) (by decide) dX3_houseNumber_81 ?_
    refine z_icmp_ge C (tgt := 94) dX3_houseNumber_82 (by decide) (fun c82 => absurd c82 (by rw [(z_swe e1 c1_2)]; decide)) (fun _ => ?_)
    refine z_aload_n C dX3_houseNumber_85 rfl 0 rfl ?_
    refine gf_X3_38 C hC.1 dX3_houseNumber_86 ?_
    refine z_iload_n C dX3_houseNumber_89 rfl 1 rfl ?_
    refine z_iald (j := wh.toNatClampNeg) C (CI_rf hC) (by rw [(z_swe e1 c1_2)]; exact z_inL (by decide)) rfl dX3_houseNumber_90 ?_
    refine z_goto C (tgt := 95) dX3_houseNumber_91 (by decide) ?_
    refine ret dX3_houseNumber_95 rfl ?_ (by decide) (by decide)
    exact ⟨by rw [(z_swe e1 c1_2)]; rfl, rfl⟩
  by_cases c1_3 : x1 = 3
  · refine z_tin C (v := 3) (tgt := 72) dX3_houseNumber_1 c1_3 (by decide) (by decide) (by decide) (by decide) ?_
    refine z_iload_n C dX3_houseNumber_72 rfl 1 rfl ?_
    refine z_if_lt C (tgt := 94) dX3_houseNumber_73 (by decide) (fun c73 => absurd c73 (by rw [(z_swe e1 c1_3)]; decide)) (fun _ => ?_)
    refine z_iload_n C dX3_houseNumber_76 rfl 1 rfl ?_
    refine z_aload_n C dX3_houseNumber_77 rfl 0 rfl ?_
    refine gf_X3_38 C hC.1 dX3_houseNumber_78 ?_
    refine z_alenI C (v := 6) (CI_rf hC) (by decide) dX3_houseNumber_81 ?_
    refine z_icmp_ge C (tgt := 94) dX3_houseNumber_82 (by decide) (fun c82 => absurd c82 (by rw [(z_swe e1 c1_3)]; decide)) (fun _ => ?_)
    refine z_aload_n C dX3_houseNumber_85 rfl 0 rfl ?_
    refine gf_X3_38 C hC.1 dX3_houseNumber_86 ?_
    refine z_iload_n C dX3_houseNumber_89 rfl 1 rfl ?_
    refine z_iald (j := wh.toNatClampNeg) C (CI_rf hC) (by rw [(z_swe e1 c1_3)]; exact z_inL (by decide)) rfl dX3_houseNumber_90 ?_
    refine z_goto C (tgt := 95) dX3_houseNumber_91 (by decide) ?_
    refine ret dX3_houseNumber_95 rfl ?_ (by decide) (by decide)
    exact ⟨by rw [(z_swe e1 c1_3)]; rfl, rfl⟩
  by_cases c1_4 : x1 = 4
  · refine z_tin C (v := 4) (tgt := 72) dX3_houseNumber_1 c1_4 (by decide) (by decide) (by decide) (by decide) ?_
    refine z_iload_n C dX3_houseNumber_72 rfl 1 rfl ?_
    refine z_if_lt C (tgt := 94) dX3_houseNumber_73 (by decide) (fun c73 => absurd c73 (by rw [(z_swe e1 c1_4)]; decide)) (fun _ => ?_)
    refine z_iload_n C dX3_houseNumber_76 rfl 1 rfl ?_
    refine z_aload_n C dX3_houseNumber_77 rfl 0 rfl ?_
    refine gf_X3_38 C hC.1 dX3_houseNumber_78 ?_
    refine z_alenI C (v := 6) (CI_rf hC) (by decide) dX3_houseNumber_81 ?_
    refine z_icmp_ge C (tgt := 94) dX3_houseNumber_82 (by decide) (fun c82 => absurd c82 (by rw [(z_swe e1 c1_4)]; decide)) (fun _ => ?_)
    refine z_aload_n C dX3_houseNumber_85 rfl 0 rfl ?_
    refine gf_X3_38 C hC.1 dX3_houseNumber_86 ?_
    refine z_iload_n C dX3_houseNumber_89 rfl 1 rfl ?_
    refine z_iald (j := wh.toNatClampNeg) C (CI_rf hC) (by rw [(z_swe e1 c1_4)]; exact z_inL (by decide)) rfl dX3_houseNumber_90 ?_
    refine z_goto C (tgt := 95) dX3_houseNumber_91 (by decide) ?_
    refine ret dX3_houseNumber_95 rfl ?_ (by decide) (by decide)
    exact ⟨by rw [(z_swe e1 c1_4)]; rfl, rfl⟩
  by_cases c1_5 : x1 = 5
  · refine z_tin C (v := 5) (tgt := 72) dX3_houseNumber_1 c1_5 (by decide) (by decide) (by decide) (by decide) ?_
    refine z_iload_n C dX3_houseNumber_72 rfl 1 rfl ?_
    refine z_if_lt C (tgt := 94) dX3_houseNumber_73 (by decide) (fun c73 => absurd c73 (by rw [(z_swe e1 c1_5)]; decide)) (fun _ => ?_)
    refine z_iload_n C dX3_houseNumber_76 rfl 1 rfl ?_
    refine z_aload_n C dX3_houseNumber_77 rfl 0 rfl ?_
    refine gf_X3_38 C hC.1 dX3_houseNumber_78 ?_
    refine z_alenI C (v := 6) (CI_rf hC) (by decide) dX3_houseNumber_81 ?_
    refine z_icmp_ge C (tgt := 94) dX3_houseNumber_82 (by decide) (fun c82 => absurd c82 (by rw [(z_swe e1 c1_5)]; decide)) (fun _ => ?_)
    refine z_aload_n C dX3_houseNumber_85 rfl 0 rfl ?_
    refine gf_X3_38 C hC.1 dX3_houseNumber_86 ?_
    refine z_iload_n C dX3_houseNumber_89 rfl 1 rfl ?_
    refine z_iald (j := wh.toNatClampNeg) C (CI_rf hC) (by rw [(z_swe e1 c1_5)]; exact z_inL (by decide)) rfl dX3_houseNumber_90 ?_
    refine z_goto C (tgt := 95) dX3_houseNumber_91 (by decide) ?_
    refine ret dX3_houseNumber_95 rfl ?_ (by decide) (by decide)
    exact ⟨by rw [(z_swe e1 c1_5)]; rfl, rfl⟩
  by_cases c1_6 : x1 = 6
  · refine z_tin C (v := 6) (tgt := 57) dX3_houseNumber_1 c1_6 (by decide) (by decide) (by decide) (by decide) ?_
    refine z_aload_n C dX3_houseNumber_57 rfl 0 rfl ?_
    refine gf_X3_46 C hC.1 dX3_houseNumber_58 ?_
    refine ret dX3_houseNumber_61 rfl ?_ (by decide) (by decide)
    exact ⟨by rw [(z_swe e1 c1_6)]; rfl, rfl⟩
  by_cases c1_7 : x1 = 7
  · refine z_tin C (v := 7) (tgt := 62) dX3_houseNumber_1 c1_7 (by decide) (by decide) (by decide) (by decide) ?_
    refine z_aload_n C dX3_houseNumber_62 rfl 0 rfl ?_
    refine z_callVi (rest := []) (k' := 0) (n' := 0) C (a_X3_howManyReaders (z_l X) hC hok) (cs_X3_236 C (by decide)) hC.1 rfl rfl rfl rfl (Nat.le_of_ble_eq_true rfl) rfl rfl (by decide) (by decide) dX3_houseNumber_63 (fun x63 Mq63 hq => ?_)
    obtain ⟨e63, rfl⟩ := hq
    rw [e63]
    refine ret dX3_houseNumber_66 rfl ?_ (by decide) (by decide)
    exact ⟨by rw [(z_swe e1 c1_7)]; rfl, rfl⟩
  by_cases c1_8 : x1 = 8
  · refine z_tin C (v := 8) (tgt := 67) dX3_houseNumber_1 c1_8 (by decide) (by decide) (by decide) (by decide) ?_
    refine z_aload_n C dX3_houseNumber_67 rfl 0 rfl ?_
    refine z_callVi (rest := []) (k' := 0) (n' := 0) C (a_X3_howManyMarks (z_l X) hC hok) (cs_X3_239 C (by decide)) hC.1 rfl rfl rfl rfl (Nat.le_of_ble_eq_true rfl) rfl rfl (by decide) (by decide) dX3_houseNumber_68 (fun x68 Mq68 hq => ?_)
    obtain ⟨e68, rfl⟩ := hq
    rw [e68]
    refine ret dX3_houseNumber_71 rfl ?_ (by decide) (by decide)
    exact ⟨by rw [(z_swe e1 c1_8)]; rfl, rfl⟩
  refine z_tout C (tgt := 72) dX3_houseNumber_1 (z_ou9 c1_0 c1_1 c1_2 c1_3 c1_4 c1_5 c1_6 c1_7 c1_8) (by decide) ?_
  have g1_0 : ¬ wh = 0 := fun q => c1_0 (e1.trans q)
  have g1_1 : ¬ wh = 1 := fun q => c1_1 (e1.trans q)
  have g1_2 : ¬ wh = 2 := fun q => c1_2 (e1.trans q)
  have g1_3 : ¬ wh = 3 := fun q => c1_3 (e1.trans q)
  have g1_4 : ¬ wh = 4 := fun q => c1_4 (e1.trans q)
  have g1_5 : ¬ wh = 5 := fun q => c1_5 (e1.trans q)
  have g1_6 : ¬ wh = 6 := fun q => c1_6 (e1.trans q)
  have g1_7 : ¬ wh = 7 := fun q => c1_7 (e1.trans q)
  have g1_8 : ¬ wh = 8 := fun q => c1_8 (e1.trans q)
  refine z_iload_n C dX3_houseNumber_72 rfl 1 rfl ?_
  refine z_if_lt C (tgt := 94) dX3_houseNumber_73 (by decide) (fun c73 => absurd c73 (fun q => z_h9 h_w ⟨g1_0, g1_1, g1_2, g1_3, g1_4, g1_5, g1_6, g1_7, g1_8⟩)) (fun _ => ?_)
  refine z_iload_n C dX3_houseNumber_76 rfl 1 rfl ?_
  refine z_aload_n C dX3_houseNumber_77 rfl 0 rfl ?_
  refine gf_X3_38 C hC.1 dX3_houseNumber_78 ?_
  refine z_alenI C (v := 6) (CI_rf hC) (by decide) dX3_houseNumber_81 ?_
  refine z_icmp_ge C (tgt := 94) dX3_houseNumber_82 (by decide) (fun c82 => absurd c82 (fun q => z_h9 h_w ⟨g1_0, g1_1, g1_2, g1_3, g1_4, g1_5, g1_6, g1_7, g1_8⟩)) (fun _ => ?_)
  refine z_aload_n C dX3_houseNumber_85 rfl 0 rfl ?_
  refine gf_X3_38 C hC.1 dX3_houseNumber_86 ?_
  refine z_iload_n C dX3_houseNumber_89 rfl 1 rfl ?_
  refine z_iald (j := wh.toNatClampNeg) C (CI_rf hC) (absurd ⟨g1_0, g1_1, g1_2, g1_3, g1_4, g1_5, g1_6, g1_7, g1_8⟩ (fun q => z_h9 h_w q)) rfl dX3_houseNumber_90 ?_
  refine z_goto C (tgt := 95) dX3_houseNumber_91 (by decide) ?_
  refine ret dX3_houseNumber_95 rfl ?_ (by decide) (by decide)
  exact absurd ⟨g1_0, g1_1, g1_2, g1_3, g1_4, g1_5, g1_6, g1_7, g1_8⟩ (fun q => z_h9 h_w q)
set_option maxRecDepth 20000 in
theorem a_X3_house (l : Launch) (h_st : l.stackTraces = false) {G : zG} {u : sS} {x : Nat} {P RA VA : Nat → Nat} {pa sp ln rf sb : Nat} {Mw : zM} (hC : CI G u x P RA VA pa sp ln rf sb Mw) {t : Nat} (hok : s_ok t u) (wh : Int32) : z_Xi l G qX3_house (z_rm 12 8 48) [.ref x, .int wh] Mw (CP G x pa sp ln rf sb (z_lt (z_is wh 0 8) 1) (s_house u wh, u)) (fun E M' => (z_lt (z_is wh 0 8) 1 = 1 ∧ E = "java/lang/IllegalArgumentException") ∧ ∃ P RA VA, CI G u x P RA VA pa sp ln rf sb M') := by
  refine z_Xi_of _ _ h_st rfl rfl (Nat.le_of_ble_eq_true rfl) (fun X hl hG C ret thr prp => ?_)
  subst hl; subst hG
  have C : z_C X cX3_house RX3 2 (z_rm 12 8 48) := C
  show z_W X Mw 0 0 0 [(0, .ref x), (1, .int wh)] []
  refine z_iload_n C dX3_house_0 rfl 1 rfl ?_
  refine z_iconst C (v := 0) dX3_house_1 (by decide) ?_
  refine z_bipush C (v := 8) dX3_house_2 (by decide) ?_
  refine z_callXSv (rest := []) (k' := 1) (n' := 6) C (c_X3_needWithin (z_l X) (z_G X) h_st) (cs_X3_53 C (by decide)) rfl rfl (Nat.le_of_ble_eq_true rfl) rfl rfl (by decide) (by decide) dX3_house_4 (fun E M' hq => ?_) (fun M' hq => ?_)
  · obtain ⟨cx4_0, rfl, rfl⟩ := hq
    exact prp (⟨⟨k_1 cx4_0, by decide⟩, _, _, _, hC⟩) (by decide) (by decide)
  · skip
    obtain ⟨d4_0, rfl⟩ := hq
    refine z_aload_n C dX3_house_7 rfl 0 rfl ?_
    refine z_iload_n C dX3_house_8 rfl 1 rfl ?_
    refine z_callVi (rest := []) (k' := 1) (n' := 6) C (a_X3_houseNumber (z_l X) hC hok wh d4_0) (cs_X3_185 C (by decide)) hC.1 rfl rfl rfl rfl (Nat.le_of_ble_eq_true rfl) rfl rfl (by decide) (by decide) dX3_house_9 (fun x9 Mq9 hq => ?_)
    obtain ⟨e9, rfl⟩ := hq
    rw [e9]
    refine ret dX3_house_12 rfl ?_ (by decide) (by decide)
    exact CP_ok (v := u) rfl (z_lt3 (z_is11 d4_0) rfl) hC
end
section
/-! PART 40: rows for the JDK's StringBuilder and String: inherited methods, statics, digits, copies, clones -/
section JR
variable {X : zX} {cc : ByteArray} {own : String} {nL : Nat} {rm : Room} {M : zM} {k n pc : Nat} {lv : List (Nat × Value)} {st rest : List Value} {q : zY} {rmc : Room} {index b ci N : Nat} {fs : List Value} {As : List Value}
theorem z_selP (C : z_C X cc own nL rm) {y : MethodName} (h : y ∈ z_pSB) : (Cond.selects RJ4 y y).before (z_a X) (z_s X) = true := va_Nw.use rfl (C.2.2.2.2.2.2.1.1.2.2.2.2.2.2.1 y h)
/-- a method that the receiver's class has of its superclass, or has in place of the superclass's: x is what the reference names -/
theorem z_cwU (C : z_C X cc own nL rm) {x : MethodName} {b0 : ByteArray} {m0 : Nat} {r0 : Option FieldType} (hq : Cond.code q.1 q.2.1 q.2.2.1 q.2.2.2 ∈ gw) (hl : Cond.methodLink own index x ∈ gw) (hs : (Cond.selects RJ4 x q.1).before (z_a X) (z_s X) = true) (hsame : Cond.sameMethod x.cls x.cls x.name x.desc ∈ gw) (hi0 : Cond.instanceMethod x ∈ gw) (h0 : Cond.code x b0 m0 r0 ∈ gw) (hi : Cond.instanceMethod q.1 ∈ gw) (hc : Cond.initialized q.1.cls ∈ gw) (hd : x.cls ≠ "java/lang/invoke/MethodHandle" ∧ x.cls ≠ "java/lang/invoke/VarHandle" ∧ (parseMethodDescriptor x.desc).map (fun d => d.parameters.length) = some N) (hR : rmc.frames + 1 ≤ rm.frames ∧ 8 + (q.2.2.1 + 11) + rmc.locals ≤ rm.locals) :
    va_CU (z_R X) (z_s X) (z_a X) own RJ4 x.cls index x q.1 q.2.1 q.2.2.1 q.2.2.2 (z_ws q) rmc rmc.cells rmc.slots N := by
  refine ⟨⟨rfl, rfl, by rw [C.2.2.2.2.2.2.2.2]; exact hR.1, by rw [C.2.2.2.2.2.2.2.2]; exact hR.2, pay_in C.2.2.2.2.1 (z_good hq), List.mem_cons_self⟩, z_tow C hq, z_tow C hc, ⟨hd.1, hd.2.1⟩, fun sig h => ?_, z_tow C hl, z_tow C hsame, va_Decl.of (z_tow C hi0) (z_tow C h0), hs, z_tow C hi⟩
  have h2 := hd.2.2
  rw [h] at h2
  exact (Option.some.inj h2).symm
theorem z_callUi {x : MethodName} {post : Int32 → zM → Prop} (C : z_C X cc own nL rm) (hM : z_Mi (z_l X) (z_G X) q rmc (.ref b :: As) M post) (cw : va_CU (z_R X) (z_s X) (z_a X) own RJ4 x.cls index x q.1 q.2.1 q.2.2.1 q.2.2.2 (z_ws q) rmc rmc.cells rmc.slots N) (hb : M b = some (.inr (1, fs))) (_ : True) (_ : True) (hN : As.length = N) (hst : st = As.reverse ++ .ref b :: rest) (hcat : (rest.map fun v => v.category).sum ≤ 8) {k' n' : Nat} (ek : k + rmc.cells = k') (en : n + rmc.slots = n') (hk : k' ≤ rm.cells) (hn : n' ≤ rm.slots) (d : decode cc pc = .ok (.invokevirtual index, 3))
    (kk : ∀ (x : Int32) (M' : zM), post x M' → z_W X M' k' n' (pc + 3) lv (.int x :: rest)) : z_W X M k n pc lv st := by
  subst hst; subst ek; subst en
  intro H locs ls h1 h2 h3 h4
  have hs := z_sub C h2 h3
  exact va_calli (va_runU ⟨C.1, C.2.1, rfl, C.2.2.2.1, C.2.2.2.2.1⟩ (hM H.size) cw ⟨z_blind, z_recv C h1 hb rfl, fun U hU hW => ⟨rfl, z_pre C h1 h2 h3 hU hW⟩⟩ rfl hN h4.1 rfl (lv_room hcat) d (by rw [C.2.2.2.2.2.2.2.2]; exact ⟨hk, hn⟩)) h3 (fun q _ h => hs q h) hs
    (fun x M' t H1 locs1 ht hvm hp hB hz hk1 hS => kk x M' hp H1 locs1 ls (by rw [← ht]; exact hB.1) (fun a e h => hs a (hB.2 a e h)) hS h4)
theorem z_callUv {x : MethodName} {post : zM → Prop} (C : z_C X cc own nL rm) (hM : z_Mv (z_l X) (z_G X) q rmc (.ref b :: As) M post) (cw : va_CU (z_R X) (z_s X) (z_a X) own RJ4 x.cls index x q.1 q.2.1 q.2.2.1 q.2.2.2 (z_ws q) rmc rmc.cells rmc.slots N) (hb : M b = some (.inr (1, fs))) (_ : True) (_ : True) (hN : As.length = N) (hst : st = As.reverse ++ .ref b :: rest) (hcat : (rest.map fun v => v.category).sum ≤ 8) {k' n' : Nat} (ek : k + rmc.cells = k') (en : n + rmc.slots = n') (hk : k' ≤ rm.cells) (hn : n' ≤ rm.slots) (d : decode cc pc = .ok (.invokevirtual index, 3))
    (kk : ∀ (M' : zM), post M' → z_W X M' k' n' (pc + 3) lv rest) : z_W X M k n pc lv st := by
  subst hst; subst ek; subst en
  intro H locs ls h1 h2 h3 h4
  have hs := z_sub C h2 h3
  exact va_callv (va_runU ⟨C.1, C.2.1, rfl, C.2.2.2.1, C.2.2.2.2.1⟩ (hM H.size) cw ⟨z_blind, z_recv C h1 hb rfl, fun U hU hW => ⟨rfl, z_pre C h1 h2 h3 hU hW⟩⟩ rfl hN h4.1 rfl (lv_room hcat) d (by rw [C.2.2.2.2.2.2.2.2]; exact ⟨hk, hn⟩)) h3 (fun q _ h => hs q h) hs
    (fun M' t H1 locs1 ht hvm hp hB hz hk1 hS => kk M' hp H1 locs1 ls (by rw [← ht]; exact hB.1) (fun a e h => hs a (hB.2 a e h)) hS h4)
theorem z_callUr {x : MethodName} {post : Nat → zM → Prop} (C : z_C X cc own nL rm) (hM : z_Mr (z_l X) (z_G X) q rmc (.ref b :: As) M post) (cw : va_CU (z_R X) (z_s X) (z_a X) own RJ4 x.cls index x q.1 q.2.1 q.2.2.1 q.2.2.2 (z_ws q) rmc rmc.cells rmc.slots N) (hb : M b = some (.inr (1, fs))) (_ : True) (_ : True) (hN : As.length = N) (hst : st = As.reverse ++ .ref b :: rest) (hcat : (rest.map fun v => v.category).sum ≤ 8) {k' n' : Nat} (ek : k + rmc.cells = k') (en : n + rmc.slots = n') (hk : k' ≤ rm.cells) (hn : n' ≤ rm.slots) (d : decode cc pc = .ok (.invokevirtual index, 3))
    (kk : ∀ (a : Nat) (M' : zM), post a M' → z_W X M' k' n' (pc + 3) lv (.ref a :: rest)) : z_W X M k n pc lv st := by
  subst hst; subst ek; subst en
  intro H locs ls h1 h2 h3 h4
  have hs := z_sub C h2 h3
  exact va_callr (va_runU ⟨C.1, C.2.1, rfl, C.2.2.2.1, C.2.2.2.2.1⟩ (hM H.size) cw ⟨z_blind, z_recv C h1 hb rfl, fun U hU hW => ⟨rfl, z_pre C h1 h2 h3 hU hW⟩⟩ rfl hN h4.1 rfl (lv_room hcat) d (by rw [C.2.2.2.2.2.2.2.2]; exact ⟨hk, hn⟩)) h3 (fun q _ h => hs q h) hs
    (fun u a t H1 locs1 ht hvm hp hB hz hk1 hS => by rw [hB.1]; exact kk u.1 u.2 hp H1 locs1 ls (by rw [← ht]; exact hB.2.1) (fun a e h => hs a (hB.2.2 a e h)) hS h4)
theorem z_callSv {post : zM → Prop} (C : z_C X cc own nL rm) (hM : z_Mv (z_l X) (z_G X) q rmc As M post) (cw : CallB (z_R X) (z_s X) (z_a X) own index q.1 q.2.1 q.2.2.1 q.2.2.2 (z_ws q) rmc rmc.cells rmc.slots N ∧ (Cond.static q.1).before (z_a X) (z_s X) = true) (hN : As.length = N) (hst : st = As.reverse ++ rest) (hcat : (rest.map fun v => v.category).sum ≤ 8) {k' n' : Nat} (ek : k + rmc.cells = k') (en : n + rmc.slots = n') (hk : k' ≤ rm.cells) (hn : n' ≤ rm.slots) (d : decode cc pc = .ok (.invokestatic index, 3))
    (kk : ∀ (M' : zM), post M' → z_W X M' k' n' (pc + 3) lv rest) : z_W X M k n pc lv st := by
  subst hst; subst ek; subst en
  intro H locs ls h1 h2 h3 h4
  have hs := z_sub C h2 h3
  exact va_callv (va_runS ⟨C.1, C.2.1, rfl, C.2.2.2.1, C.2.2.2.2.1⟩ (hM H.size) cw ⟨z_blind, fun U hU hW => ⟨rfl, z_pre C h1 h2 h3 hU hW⟩⟩ rfl hN h4.1 rfl (lv_room hcat) d (by rw [C.2.2.2.2.2.2.2.2]; exact ⟨hk, hn⟩)) h3 (fun q _ h => hs q h) hs
    (fun M' t H1 locs1 ht hvm hp hB hz hk1 hS => kk M' hp H1 locs1 ls (by rw [← ht]; exact hB.1) (fun a e h => hs a (hB.2 a e h)) hS h4)
/-- super.m(..) -/
theorem z_cwP (C : z_C X cc own nL rm) (hq : Cond.code q.1 q.2.1 q.2.2.1 q.2.2.2 ∈ gw) (hl : Cond.methodLink own index q.1 ∈ gw) (hsame : Cond.sameMethod q.1.cls q.1.cls q.1.name q.1.desc ∈ gw) (hsup : Cond.superclass own q.1.cls ∈ gw) (hi : Cond.instanceMethod q.1 ∈ gw) (hc : Cond.initialized q.1.cls ∈ gw) (hd : q.1.name ≠ "<init>" ∧ (parseMethodDescriptor q.1.desc).map (fun d => d.parameters.length) = some N) (hR : rmc.frames + 1 ≤ rm.frames ∧ 8 + (q.2.2.1 + 11) + rmc.locals ≤ rm.locals) :
    va_CS (z_R X) (z_s X) (z_a X) own index q.1 q.2.1 q.2.2.1 q.2.2.2 (z_ws q) rmc rmc.cells rmc.slots N := by
  refine ⟨⟨rfl, rfl, by rw [C.2.2.2.2.2.2.2.2]; exact hR.1, by rw [C.2.2.2.2.2.2.2.2]; exact hR.2, pay_in C.2.2.2.2.1 (z_good hq), List.mem_cons_self⟩, z_tow C hl, z_tow C hsame, z_tow C hsup, z_tow C hi, z_tow C hc, z_tow C hq, hd.1, fun sig h => ?_⟩
  have h2 := hd.2
  rw [h] at h2
  exact (Option.some.inj h2).symm
theorem z_callPi {post : Int32 → zM → Prop} (C : z_C X cc own nL rm) (hM : z_Mi (z_l X) (z_G X) q rmc (.ref b :: As) M post) (cw : va_CS (z_R X) (z_s X) (z_a X) own index q.1 q.2.1 q.2.2.1 q.2.2.2 (z_ws q) rmc rmc.cells rmc.slots N) (hb : M b = some (.inr (1, fs))) (_ : True) (_ : True) (hN : As.length = N) (hst : st = As.reverse ++ .ref b :: rest) (hcat : (rest.map fun v => v.category).sum ≤ 8) {k' n' : Nat} (ek : k + rmc.cells = k') (en : n + rmc.slots = n') (hk : k' ≤ rm.cells) (hn : n' ≤ rm.slots) (d : decode cc pc = .ok (.invokespecial index, 3))
    (kk : ∀ (x : Int32) (M' : zM), post x M' → z_W X M' k' n' (pc + 3) lv (.int x :: rest)) : z_W X M k n pc lv st := by
  subst hst; subst ek; subst en
  intro H locs ls h1 h2 h3 h4
  have hs := z_sub C h2 h3
  exact va_calli (va_runSU (C.2.2.2.2.2.1.1 1 _ rfl).2 ⟨C.1, C.2.1, rfl, C.2.2.2.1, C.2.2.2.2.1⟩ (hM H.size) cw ⟨z_blind, z_recv C h1 hb rfl, fun U hU hW => ⟨rfl, z_pre C h1 h2 h3 hU hW⟩⟩ rfl hN h4.1 rfl (lv_room hcat) d (by rw [C.2.2.2.2.2.2.2.2]; exact ⟨hk, hn⟩)) h3 (fun q _ h => hs q h) hs
    (fun x M' t H1 locs1 ht hvm hp hB hz hk1 hS => kk x M' hp H1 locs1 ls (by rw [← ht]; exact hB.1) (fun a e h => hs a (hB.2 a e h)) hS h4)
theorem z_callPv {post : zM → Prop} (C : z_C X cc own nL rm) (hM : z_Mv (z_l X) (z_G X) q rmc (.ref b :: As) M post) (cw : va_CS (z_R X) (z_s X) (z_a X) own index q.1 q.2.1 q.2.2.1 q.2.2.2 (z_ws q) rmc rmc.cells rmc.slots N) (hb : M b = some (.inr (1, fs))) (_ : True) (_ : True) (hN : As.length = N) (hst : st = As.reverse ++ .ref b :: rest) (hcat : (rest.map fun v => v.category).sum ≤ 8) {k' n' : Nat} (ek : k + rmc.cells = k') (en : n + rmc.slots = n') (hk : k' ≤ rm.cells) (hn : n' ≤ rm.slots) (d : decode cc pc = .ok (.invokespecial index, 3))
    (kk : ∀ (M' : zM), post M' → z_W X M' k' n' (pc + 3) lv rest) : z_W X M k n pc lv st := by
  subst hst; subst ek; subst en
  intro H locs ls h1 h2 h3 h4
  have hs := z_sub C h2 h3
  exact va_callv (va_runSU (C.2.2.2.2.2.1.1 1 _ rfl).2 ⟨C.1, C.2.1, rfl, C.2.2.2.1, C.2.2.2.2.1⟩ (hM H.size) cw ⟨z_blind, z_recv C h1 hb rfl, fun U hU hW => ⟨rfl, z_pre C h1 h2 h3 hU hW⟩⟩ rfl hN h4.1 rfl (lv_room hcat) d (by rw [C.2.2.2.2.2.2.2.2]; exact ⟨hk, hn⟩)) h3 (fun q _ h => hs q h) hs
    (fun M' t H1 locs1 ht hvm hp hB hz hk1 hS => kk M' hp H1 locs1 ls (by rw [← ht]; exact hB.1) (fun a e h => hs a (hB.2 a e h)) hS h4)
theorem z_callPr {post : Nat → zM → Prop} (C : z_C X cc own nL rm) (hM : z_Mr (z_l X) (z_G X) q rmc (.ref b :: As) M post) (cw : va_CS (z_R X) (z_s X) (z_a X) own index q.1 q.2.1 q.2.2.1 q.2.2.2 (z_ws q) rmc rmc.cells rmc.slots N) (hb : M b = some (.inr (1, fs))) (_ : True) (_ : True) (hN : As.length = N) (hst : st = As.reverse ++ .ref b :: rest) (hcat : (rest.map fun v => v.category).sum ≤ 8) {k' n' : Nat} (ek : k + rmc.cells = k') (en : n + rmc.slots = n') (hk : k' ≤ rm.cells) (hn : n' ≤ rm.slots) (d : decode cc pc = .ok (.invokespecial index, 3))
    (kk : ∀ (a : Nat) (M' : zM), post a M' → z_W X M' k' n' (pc + 3) lv (.ref a :: rest)) : z_W X M k n pc lv st := by
  subst hst; subst ek; subst en
  intro H locs ls h1 h2 h3 h4
  have hs := z_sub C h2 h3
  exact va_callr (va_runSU (C.2.2.2.2.2.1.1 1 _ rfl).2 ⟨C.1, C.2.1, rfl, C.2.2.2.1, C.2.2.2.2.1⟩ (hM H.size) cw ⟨z_blind, z_recv C h1 hb rfl, fun U hU hW => ⟨rfl, z_pre C h1 h2 h3 hU hW⟩⟩ rfl hN h4.1 rfl (lv_room hcat) d (by rw [C.2.2.2.2.2.2.2.2]; exact ⟨hk, hn⟩)) h3 (fun q _ h => hs q h) hs
    (fun u a t H1 locs1 ht hvm hp hB hz hk1 hS => by rw [hB.1]; exact kk u.1 u.2 hp H1 locs1 ls (by rw [← ht]; exact hB.2.1) (fun a e h => hs a (hB.2.2 a e h)) hS h4)
/-- the JDK's statics -/
theorem z_gsZ (C : z_C X cc own nL rm) (hl : Cond.fieldLink own index "java/lang/String" "COMPACT_STRINGS" "Z" ∈ gw) (d : decode cc pc = .ok (.getstatic index, 3)) (kk : z_W X M k n (pc + 3) lv (.int 1 :: st)) : z_W X M k n pc lv st :=
  fun H locs ls h1 h2 h3 h4 => va_gets C.1 C.2.1 C.2.2.2.2.2.2.1.2.2.1 h3 C.2.2.2.1 (z_tow C hl) (fun _ h => h) d (kk H locs ls h1 h2 h3 h4)
def z_TB (X : zX) (t : Nat) (f : Nat → Value) : Prop := va_T .byte t 100 f (z_F X) (z_s X) (z_s X).heap
theorem z_gsD1 (C : z_C X cc own nL rm) (hl : Cond.fieldLink own index "java/lang/Integer" "DigitOnes" "[B" ∈ gw) (d : decode cc pc = .ok (.getstatic index, 3)) (kk : ∀ t, z_TB X t z_d1 → z_W X M k n (pc + 3) lv (.ref t :: st)) : z_W X M k n pc lv st := by
  obtain ⟨t, hZ, hT⟩ := C.2.2.2.2.2.2.1.2.2.2.1
  exact fun H locs ls h1 h2 h3 h4 => va_gets C.1 C.2.1 hZ h3 C.2.2.2.1 (z_tow C hl) (fun _ h => h) d (kk t hT H locs ls h1 h2 h3 h4)
theorem z_gsD10 (C : z_C X cc own nL rm) (hl : Cond.fieldLink own index "java/lang/Integer" "DigitTens" "[B" ∈ gw) (d : decode cc pc = .ok (.getstatic index, 3)) (kk : ∀ t, z_TB X t z_d10 → z_W X M k n (pc + 3) lv (.ref t :: st)) : z_W X M k n pc lv st := by
  obtain ⟨t, hZ, hT⟩ := C.2.2.2.2.2.2.1.2.2.2.2.1
  exact fun H locs ls h1 h2 h3 h4 => va_gets C.1 C.2.1 hZ h3 C.2.2.2.1 (z_tow C hl) (fun _ h => h) d (kk t hT H locs ls h1 h2 h3 h4)
theorem z_tb1 (C : z_C X cc own nL rm) {t j : Nat} {i v : Int32} (hT : z_TB X t z_d1) (hin : vp_in i 100) (hj : i.toNatClampNeg = j) (hv : nI (48 + j % 10) = v) (d : decode cc pc = .ok (.baload, 1)) (kk : z_W X M k n (pc + 1) lv (.int v :: st)) : z_W X M k n pc lv (.int i :: .ref t :: st) := by
  subst hj; subst hv
  exact fun H locs ls h1 h2 h3 h4 => va_tb C.1 C.2.1 hT h3 hin rfl d (kk H locs ls h1 h2 h3 h4)
theorem z_tb10 (C : z_C X cc own nL rm) {t j : Nat} {i v : Int32} (hT : z_TB X t z_d10) (hin : vp_in i 100) (hj : i.toNatClampNeg = j) (hv : nI (48 + j / 10) = v) (d : decode cc pc = .ok (.baload, 1)) (kk : z_W X M k n (pc + 1) lv (.int v :: st)) : z_W X M k n pc lv (.int i :: .ref t :: st) := by
  subst hj; subst hv
  exact fun H locs ls h1 h2 h3 h4 => va_tb C.1 C.2.1 hT h3 hin rfl d (kk H locs ls h1 h2 h3 h4)
/-- the formatter of an index's exception: null or not, nobody looks -/
theorem z_gsF (C : z_C X cc own nL rm) (hl : Cond.fieldLink own index "jdk/internal/util/Preconditions" "SIOOBE_FORMATTER" "Ljava/util/function/BiFunction;" ∈ gw) (d : decode cc pc = .ok (.getstatic index, 3)) (k1 : z_W X M k n (pc + 3) lv (.null :: st)) (k2 : ∀ t : Nat, z_W X M k n (pc + 3) lv (.ref t :: st)) : z_W X M k n pc lv st := by
  rcases C.2.2.2.2.2.2.1.2.2.2.2.2.1 with hZ | ⟨t, hZ⟩
  · exact fun H locs ls h1 h2 h3 h4 => va_gets C.1 C.2.1 hZ h3 C.2.2.2.1 (z_tow C hl) (fun _ h => h) d (k1 H locs ls h1 h2 h3 h4)
  · exact fun H locs ls h1 h2 h3 h4 => va_gets C.1 C.2.1 hZ h3 C.2.2.2.1 (z_tow C hl) (fun _ h => h) d (k2 t H locs ls h1 h2 h3 h4)
theorem z_Bcell (G : zG) (N : Nat) (f : Nat → Int32) : vp_cell G.2.1 (N, .inl f) = arrV G.2.1 N (fun j => .int (f j)) := vp_cell_i _ _ _
/-- System.arraycopy of bytes into another row -/
theorem z_copy (C : z_C X cc own nL rm) {a0 a n0 n1 : Nat} {f g : Nat → Int32} (hlk : Cond.methodLink own index arraycopyName ∈ gw) (hM0 : M a0 = some (aB (z_G X) n0 f)) (hM1 : M a = some (aB (z_G X) n1 g)) {sp dp z : Int32} (h1 : ¬ sp < 0) (h2 : ¬ dp < 0) (h3 : ¬ z < 0) (h4 : sp.toNatClampNeg + z.toNatClampNeg ≤ n0) (h5 : dp.toNatClampNeg + z.toNatClampNeg ≤ n1) (hfit : sb_Fit f) (hR : 1 ≤ rm.frames ∧ 30 ≤ rm.locals) (hcat : (rest.map fun v => v.category).sum ≤ 8) (d : decode cc pc = .ok (.invokestatic index, 3))
    (kk : z_W X (z_up M a (aB (z_G X) n1 (va_cpy f g sp.toNatClampNeg dp.toNatClampNeg z.toNatClampNeg))) k n (pc + 3) lv rest) : z_W X M k n pc lv (.int z :: .int dp :: .ref a :: .int sp :: .ref a0 :: rest) := by
  have nn : ∀ z : Int32, ¬ z < 0 → z.toInt = (z.toNatClampNeg : Int) := fun z hz => (z_cl (Int32.not_lt.mp hz)).symm
  intro H locs ls g1 g2 g3 g4 T hT X9
  have hc0 : H[a0]? = some (vp_cell (z_G X).2.1 (n0, .inl f)) := g1 a0 _ hM0
  have hc1 : H[a]? = some (vp_cell (z_G X).2.1 (n1, .inl g)) := g1 a _ hM1
  obtain ⟨-, k0, hk0, cm0, hkk0⟩ := (C.2.2.2.2.2.1.2 0 _ rfl).1 n0 (fun j => .int (f j))
  obtain ⟨-, k1, hk1, cm1, hkk1⟩ := (C.2.2.2.2.2.1.2 0 _ rfl).1 n1 (fun j => .int (g j))
  obtain ⟨vm', X', step⟩ := X9.arraycopy C.1 C.2.2.2.1 (z_tow C hlk) (z_tow C kw235) (z_tow C kw234) (z_tow C kw20) (src := a0) (dst := a) (cs := vp_cell (z_G X).2.1 (n0, .inl f)) (cd := vp_cell (z_G X).2.1 (n1, .inl g)) (srcPos := sp) (destPos := dp) (n := z) (by rw [hT]; exact hc0) (by rw [hT]; exact hc1)
    (fun _ h => by cases h) (fun _ h => by cases h) (fun h => by cases h) (fun h => by cases h) hk0 hk1 hkk0 hkk1 (by simp [refKind]) h1 h2 h3
    (by rw [nn sp h1, nn z h3]; show ¬ _ > ((arrV _ n0 (fun j => .int (f j))).slots.size : Int); rw [arrV_size]; omega)
    (by rw [nn dp h2, nn z h3]; show ¬ _ > ((arrV _ n1 (fun j => .int (g j))).slots.size : Int); rw [arrV_size]; omega)
    (fun vm₁ _ i hi => by
      have e : (vp_cell (z_G X).2.1 (n0, .inl f)).slots.getD (sp.toNatClampNeg + i) .null = .int (f (sp.toNatClampNeg + i)) := by
        show (arrV _ n0 (fun j => .int (f j))).slots.getD _ _ = _
        rw [Array.getD_eq_getD_getElem?, arrV_read _ _ (by omega)]
        rfl
      refine ⟨?_, ?_⟩
      · rw [e]
        exact hfit _
      · rw [e]
        exact trivial)
    (g := F0 (z_m X) pc ls (.int z :: .int dp :: .ref a :: .int sp :: .ref a0 :: rest)) rfl (by rw [← g4.1]) (rest := rest) rfl (by rw [C.2.1]; exact d) (by rw [C.2.2.2.2.2.2.2.2]; exact hR.1) (by
      have h9 := hR.2
      have e9 : nativeFrameWords "java/lang/System" "arraycopy" 5 = 7 := rfl
      rw [C.2.2.2.2.2.2.2.2, e9]
      show 2 * 0 + _ + _ ≤ _
      omega)
  have e1 : copied (vp_cell (z_G X).2.1 (n0, .inl f)) (vp_cell (z_G X).2.1 (n1, .inl g)) sp dp z = vp_cell (z_G X).2.1 (n1, .inl (va_cpy f g sp.toNatClampNeg dp.toNatClampNeg z.toNatClampNeg)) := va_copied (fun z => .int z) _ _ f g h4
  rw [e1] at X' step
  have hl : a < H.size := (Array.getElem?_eq_some_iff.mp hc1).1
  generalize hE : vp_cell (z_G X).2.1 (n1, .inl (va_cpy f g sp.toNatClampNeg dp.toNatClampNeg z.toNatClampNeg)) = cE at X' step
  have hheap : ((T.setVm vm').setCell a cE).heap = H.setIfInBounds a cE := by rw [← hT]; rfl
  have oq : ∀ q : Nat, q ≠ a → (H.setIfInBounds a cE)[q]? = H[q]? := fun q hq => by simp [Array.getElem?_setIfInBounds, Ne.symm hq]
  obtain ⟨t, a1, b1⟩ := kk (H.setIfInBounds a cE) _ ls (z_h_up g1 (show (H.setIfInBounds a cE)[a]? = some (vp_cell _ _) by rw [hE]; simp [Array.getElem?_setIfInBounds, hl]) oq) (z_in_up g2 (g2 a _ hM1)) ⟨by simp; exact g3.1, fun q e1 e2 => by
      rw [oq q (fun e => e2 (by rw [e]; exact g2 a _ hM1))]
      exact g3.2.1 q e1 e2, fun q hq => by
      rcases List.mem_append.mp hq with h | h
      · exact g3.2.2 q h
      · obtain ⟨z, -, hz⟩ := List.mem_map.mp h
        rw [← hz]
        exact g2 a _ hM1⟩ g4 _ hheap X'
  exact ⟨t, step t a1, b1⟩
theorem z_copyN (sn dn zn : Nat) (C : z_C X cc own nL rm) {a0 a n0 n1 : Nat} {f g : Nat → Int32} (hlk : Cond.methodLink own index arraycopyName ∈ gw) (hM0 : M a0 = some (aB (z_G X) n0 f)) (hM1 : M a = some (aB (z_G X) n1 g)) {sp dp z : Int32} (h1 : ¬ sp < 0) (h2 : ¬ dp < 0) (h3 : ¬ z < 0) (es : sp.toNatClampNeg = sn) (ed : dp.toNatClampNeg = dn) (ez : z.toNatClampNeg = zn) (h4 : sn + zn ≤ n0) (h5 : dn + zn ≤ n1) (hfit : sb_Fit f) (hR : 1 ≤ rm.frames ∧ 30 ≤ rm.locals) (hcat : (rest.map fun v => v.category).sum ≤ 8) (d : decode cc pc = .ok (.invokestatic index, 3))
    (kk : z_W X (z_up M a (aB (z_G X) n1 (va_cpy f g sn dn zn))) k n (pc + 3) lv rest) : z_W X M k n pc lv (.int z :: .int dp :: .ref a :: .int sp :: .ref a0 :: rest) := by
  subst es; subst ed; subst ez
  exact z_copy C hlk hM0 hM1 h1 h2 h3 h4 h5 hfit hR hcat d kk
/-- a row of bytes, cloned -/
theorem z_clone (C : z_C X cc own nL rm) {a n0 : Nat} {f : Nat → Int32} (hlk : Cond.methodLink own index ⟨"[B", "clone", "()Ljava/lang/Object;"⟩ ∈ gw) (hM : M a = some (aB (z_G X) n0 f)) (hfit : sb_Fit f) (hR : 1 ≤ rm.frames ∧ 30 ≤ rm.locals) (hcat : (rest.map fun v => v.category).sum ≤ 8) (hk : k + 1 ≤ rm.cells) (hn : n + n0 ≤ rm.slots) (d : decode cc pc = .ok (.invokevirtual index, 3))
    (kk : ∀ q : Nat, M q = none → z_W X (z_up M q (aB (z_G X) n0 f)) (k + 1) (n + n0) (pc + 3) lv (.ref q :: rest)) : z_W X M k n pc lv (.ref a :: rest) := by
  intro H locs ls g1 g2 g3 g4
  have hB := C.2.2.2.2.2.1.2 0 ((z_G X).2.1, .byte) rfl
  have hcell : H[a]? = some (vp_cell (z_G X).2.1 (n0, .inl f)) := g1 a _ hM
  have hnm : (z_s X).vm.findClass "[B" = some (z_G X).2.1 := hB.2
  obtain ⟨c0, t0', f1, f2, f3⟩ := Cond.castable_spec (va_Nw.use (A := z_a X) rfl (C.2.2.2.2.2.2.1.1.2.2.2.1 _ _ kn228))
  cases hnm.symm.trans f1
  intro T hT X9
  obtain ⟨-, kA, hkA, comp, hkind⟩ := State.isArrayOf_alike X9.warmed.alike (hB.1 0 (fun _ => .null))
  obtain ⟨-, kS, hkS, compS, hkindS⟩ := hB.1 0 (fun _ => .null)
  have hsz : (vp_cell (z_G X).2.1 (n0, .inl f)).slots.size = n0 := arrV_size _ _ _
  obtain ⟨vm', X', st9⟩ := X9.cloneArray C.1 C.2.2.2.1 (z_tow C hlk) (z_tow C kw224) (z_tow C kw225) (z_tow C kw226) (z_tow C kw227) (a := a) (cell := vp_cell (z_G X).2.1 (n0, .inl f)) (by rw [hT]; exact hcell) (fun _ h => by cases h) (fun h => by cases h) hnm f2 f3
    (fun i v hv => by
      have hk' : T.vm.classes[(z_G X).2.1]? = some kA := hkA
      have hv' : (arrV (z_G X).2.1 n0 (fun j => Value.int (f j))).slots[i]? = some v := hv
      by_cases hi : i < n0
      · rw [arrV_read _ _ hi] at hv'
        cases hv'
        rw [show (vp_cell (z_G X).2.1 (n0, .inl f)).cls = (z_G X).2.1 from rfl]
        simpa [State.fitsSlot, State.slotType?, hk', hkind] using hfit i
      · rw [Array.getElem?_eq_none (by rw [arrV_size]; omega)] at hv'
        cases hv')
    (g := F0 (z_m X) pc ls (.ref a :: rest)) rfl (by rw [← g4.1]) rfl (by rw [C.2.1]; exact d) (by rw [C.2.2.2.2.2.2.2.2]; exact hR.1) (by
      have h9 := hR.2
      rw [C.2.2.2.2.2.2.2.2]
      show 2 * 0 + _ + 14 ≤ _
      omega) (by rw [C.2.2.2.2.2.2.2.2]; exact hk) (by rw [hsz, C.2.2.2.2.2.2.2.2]; exact hn) (hloader := Vm.clonesLoader_of_array hkS hkindS)
  rw [hsz] at X'
  have hcellE : ({ cls := (vp_cell (z_G X).2.1 (n0, .inl f)).cls, slots := (vp_cell (z_G X).2.1 (n0, .inl f)).slots } : Cell) = vp_cell (z_G X).2.1 (n0, .inl f) := rfl
  rw [hcellE] at X'
  generalize hH1 : H.push (vp_cell (z_G X).2.1 (n0, .inl f)) = H1
  have z1 : H1.size = H.size + 1 := by rw [← hH1, Array.size_push]
  have e1 : H1[H.size]? = some (vp_cell (z_G X).2.1 (n0, .inl f)) := by rw [← hH1, Array.getElem?_push_size]
  have o1 : ∀ q : Nat, q < H.size → H1[q]? = H[q]? := fun q hq => by rw [← hH1, Array.getElem?_push, if_neg (Nat.ne_of_lt hq)]
  obtain ⟨t, b1, b2⟩ := kk H.size (z_h_no g1 (Nat.le_refl _)) H1 locs ls (z_h_new g1 rfl e1 o1) (z_in_up g2 (C.2.2.2.2.2.2.2.1 _ g3.1)) ⟨Nat.le_trans g3.1 (by omega), fun y h1 h2 => (o1 y (Nat.lt_of_lt_of_le h1 g3.1)).trans (g3.2.1 y h1 h2), g3.2.2⟩ g4
    ((T.setVm vm').pushCell (vp_cell (z_G X).2.1 (n0, .inl f))) (by rw [← hH1, ← hT]; rfl) X'
  refine ⟨t, st9 t ?_, b2⟩
  rw [hcellE, hT]
  exact b1
theorem z_castB (C : z_C X cc own nL rm) {a n0 : Nat} {f : Nat → Int32} (hlk : Cond.classLink own index "[B" ∈ gw) (hM : M a = some (aB (z_G X) n0 f)) (d : decode cc pc = .ok (.checkcast index, 3)) (kk : z_W X M k n (pc + 3) lv (.ref a :: st)) : z_W X M k n pc lv (.ref a :: st) :=
  fun H locs ls h1 h2 h3 h4 => va_castA C.1 C.2.1 C.2.2.2.1 (z_tow C hlk) (z_one h1 hM) 0 rfl (C.2.2.2.2.2.1.2 0 _ rfl).2 d (kk H locs ls h1 h2 h3 h4)
end JR
end
