theorem z_n0 {x : Int32} {n : Nat} (h : x = nI n) (hn : n ≤ 16) (h0 : x ≤ 0) : n = 0 := by
  rw [h, z_le, nI_T (by omega), z_t0] at h0
  omega
theorem z_hi15 {x : Int32} {n : Nat} (hn : n = 16) : z_hi x (Int32.ofNat n) = 0 ↔ z_is x 0 15 = 0 := by
  subst hn
  exact z_hii (x := x) (l := Int32.ofNat 16) (by decide)
theorem z_hi1' {x : Int32} {n : Nat} (hn : n = 16) (h : ¬ z_hi x (Int32.ofNat n) = 0) : vp_in x n := by
  obtain ⟨h1, h2⟩ := z_hi1 h
  rw [show (Int32.ofNat n).toInt = n from nI_T (by omega)] at h2
  exact z_inT.mpr ⟨h1, h2⟩
theorem a_X1_replace' (l : Launch) {G : zG} {u : sS} {x : Nat} {P RA VA : Nat → Nat} {pa sp ln rf sb : Nat} {C : zM} (h : CI G u x P RA VA pa sp ln rf sb C) {t : Nat} (hok : s_ok t u) {i : Nat} (hi : i < 6) {y : Int32} (v : Int32) (hy : vp_in (p_sa (s_pn u i) + y) (s_ln u (p_ro (s_pn u i)))) : z_Mi l G qX1_replace (z_rm 3 0 0) [.ref (P i), .int y, .int v] C (fun r M' => r = s_val u (s_pn u i) y ∧ CI G (s_wr u (p_ro (s_pn u i)) (p_at (s_pn u i) y) v) x P RA VA pa sp ln rf sb M') := by
  refine z_Mi_mono (c_X1_replace l G (CI_P h hi) (CI_RA h (s_row hok hi)) (CI_VA h (s_row hok hi)) hy (z_owN (s_ow hok hi))) ?_
  rintro r M' ⟨hr9, rfl⟩
  exact ⟨hr9, CI_wr h (s_row hok hi) _ _⟩
theorem CI_new {G : zG} {u : sS} {x : Nat} {P RA VA : Nat → Nat} {pa sp ln rf sb : Nat} {C : zM} (h : CI G u x P RA VA pa sp ln rf sb C) {r q n : Nat} (hr : C r = none) (hq : C q = none) (hrq : r ≠ q) (hro : ∀ i, i < 6 → p_ro (s_pn u i) < s_nr u) (h0 : 0 < s_nr u) : CI G (s_new u n) x P (s_fu RA (s_nr u) r) (s_fu VA (s_nr u) q) pa sp ln rf sb (z_up (z_up C q (aI G n (fun _ => 0))) r (cRw q)) := by
  obtain ⟨hx, ⟨fp, hpa, hfp⟩, hP, ⟨o9, p9, hsp⟩, hRA, hVA, hrf, hln, ⟨vb, ml, ct, nn, f, hsb, hvb, hc⟩, iP, iS, iR, iV, iF⟩ := h
  have g : ∀ {b : Nat} {e : va_E}, C b = some e → z_up (z_up C q (aI G n (fun _ => 0))) r (cRw q) b = some e := fun hb => by
    rw [z_up_n _ _ (z_neN hb hr), z_up_n _ _ (z_neN hb hq)]; exact hb
  have er : ∀ s, s < s_nr u → s_fu RA (s_nr u) r s = RA s := fun s hs => s_fu_n _ _ (by omega)
  have ev : ∀ s, s < s_nr u → s_fu VA (s_nr u) q s = VA s := fun s hs => s_fu_n _ _ (by omega)
  have el : ∀ s, s < s_nr u → s_ln (s_new u n) s = s_ln u s := fun s hs => if_neg (by omega)
  have ew : ∀ s, s < s_nr u → s_vl (s_new u n) s = s_vl u s := fun s hs => if_neg (by omega)
  refine ⟨by rw [er 0 (by omega)]; exact g hx, ⟨fp, g hpa, hfp⟩, fun i hi => ?_, ⟨o9, p9, g hsp⟩, fun s hs => ?_, fun s hs => ?_, g hrf, g hln, ⟨vb, ml, ct, nn, f, g hsb, g hvb, hc.1, fun s hs => ?_, hc.2.2⟩, iP, iS, fun a b ha hb hab => ?_, fun a b ha hb hab => ?_, fun s hs => ?_⟩
  · show z_up (z_up C q (aI G n (fun _ => 0))) r (cRw q) (P i) = some (cPx (s_fu RA (s_nr u) r (p_ro (s_pn u i))) (s_pn u i))
    rw [er _ (hro i hi)]; exact g (hP i hi)
  · have hs : s < s_nr u + 1 := hs
    by_cases e : s = s_nr u
    · subst e; rw [s_fu_s, s_fu_s]; exact z_up_s _ _ _
    · rw [er s (by omega), ev s (by omega)]; exact g (hRA s (by omega))
  · have hs : s < s_nr u + 1 := hs
    by_cases e : s = s_nr u
    · subst e
      rw [s_fu_s, z_up_n _ _ hrq.symm, z_up_s]
      show some (aI G n _) = some (aI G (if s_nr u = s_nr u then n else s_ln u (s_nr u)) (if s_nr u = s_nr u then (fun _ => 0) else s_vl u (s_nr u)))
      rw [if_pos rfl, if_pos rfl]
    · rw [ev s (by omega), el s (by omega), ew s (by omega)]; exact g (hVA s (by omega))
  · have hs : s < s_nr u + 1 := hs
    by_cases e : s = s_nr u
    · subst e; rw [s_fu_s]; exact z_neN hvb hq
    · rw [ev s (by omega)]; exact hc.2.1 s (by omega)
  · have ha : a < s_nr u + 1 := ha
    have hb : b < s_nr u + 1 := hb
    by_cases ea : a = s_nr u
    · by_cases eb : b = s_nr u
      · omega
      · rw [ea, s_fu_s, er b (by omega)] at hab
        exact absurd hab.symm (z_neN (hRA b (by omega)) hr)
    · by_cases eb : b = s_nr u
      · rw [eb, s_fu_s, er a (by omega)] at hab
        exact absurd hab (z_neN (hRA a (by omega)) hr)
      · rw [er a (by omega), er b (by omega)] at hab
        exact iR a b (by omega) (by omega) hab
  · have ha : a < s_nr u + 1 := ha
    have hb : b < s_nr u + 1 := hb
    by_cases ea : a = s_nr u
    · by_cases eb : b = s_nr u
      · omega
      · rw [ea, s_fu_s, ev b (by omega)] at hab
        exact absurd hab.symm (z_neN (hVA b (by omega)) hq)
    · by_cases eb : b = s_nr u
      · rw [eb, s_fu_s, ev a (by omega)] at hab
        exact absurd hab (z_neN (hVA a (by omega)) hq)
      · rw [ev a (by omega), ev b (by omega)] at hab
        exact iV a b (by omega) (by omega) hab
  · have hs : s < s_nr u + 1 := hs
    by_cases e : s = s_nr u
    · subst e; rw [s_fu_s]; exact (z_neN hrf hq).symm
    · rw [ev s (by omega)]; exact iF s (by omega)
theorem dX2_init_0 : decode cX2_init 0 = .ok (.aload_n 0, 1) := by decide +kernel
theorem dX2_init_1 : decode cX2_init 1 = .ok (.invokespecial 1, 3) := by decide +kernel
theorem dX2_init_4 : decode cX2_init 4 = .ok (.aload_n 0, 1) := by decide +kernel
theorem dX2_init_5 : decode cX2_init 5 = .ok (.iload_n 1, 1) := by decide +kernel
theorem dX2_init_6 : decode cX2_init 6 = .ok (.ifCond .le 7, 3) := by decide +kernel
theorem dX2_init_9 : decode cX2_init 9 = .ok (.iload_n 1, 1) := by decide +kernel
theorem dX2_init_10 : decode cX2_init 10 = .ok (.goto 4, 3) := by decide +kernel
theorem dX2_init_13 : decode cX2_init 13 = .ok (.iconst 0, 1) := by decide +kernel
theorem dX2_init_14 : decode cX2_init 14 = .ok (.newarray .int, 2) := by decide +kernel
theorem dX2_init_16 : decode cX2_init 16 = .ok (.putfield 7, 3) := by decide +kernel
theorem dX2_init_19 : decode cX2_init 19 = .ok (.return_, 1) := by decide +kernel
theorem dX3_wrap_0 : decode cX3_wrap 0 = .ok (.aload_n 0, 1) := by decide +kernel
theorem dX3_wrap_1 : decode cX3_wrap 1 = .ok (.iload_n 1, 1) := by decide +kernel
theorem dX3_wrap_2 : decode cX3_wrap 2 = .ok (.invokevirtual 49, 3) := by decide +kernel
theorem dX3_wrap_5 : decode cX3_wrap 5 = .ok (.astore 4, 2) := by decide +kernel
theorem dX3_wrap_7 : decode cX3_wrap 7 = .ok (.iload_n 2, 1) := by decide +kernel
theorem dX3_wrap_8 : decode cX3_wrap 8 = .ok (.iconst 0, 1) := by decide +kernel
theorem dX3_wrap_9 : decode cX3_wrap 9 = .ok (.bipush 16, 2) := by decide +kernel
theorem dX3_wrap_11 : decode cX3_wrap 11 = .ok (.invokestatic 53, 3) := by decide +kernel
theorem dX3_wrap_14 : decode cX3_wrap 14 = .ok (.iload_n 3, 1) := by decide +kernel
theorem dX3_wrap_15 : decode cX3_wrap 15 = .ok (.iconst 0, 1) := by decide +kernel
theorem dX3_wrap_16 : decode cX3_wrap 16 = .ok (.bipush 16, 2) := by decide +kernel
theorem dX3_wrap_18 : decode cX3_wrap 18 = .ok (.iload_n 2, 1) := by decide +kernel
theorem dX3_wrap_19 : decode cX3_wrap 19 = .ok (.isub, 1) := by decide +kernel
theorem dX3_wrap_20 : decode cX3_wrap 20 = .ok (.invokestatic 53, 3) := by decide +kernel
theorem dX3_wrap_23 : decode cX3_wrap 23 = .ok (.aload 4, 2) := by decide +kernel
theorem dX3_wrap_25 : decode cX3_wrap 25 = .ok (.aload_n 0, 1) := by decide +kernel
theorem dX3_wrap_26 : decode cX3_wrap 26 = .ok (.getfield 14, 3) := by decide +kernel
theorem dX3_wrap_29 : decode cX3_wrap 29 = .ok (.invokevirtual 57, 3) := by decide +kernel
theorem dX3_wrap_32 : decode cX3_wrap 32 = .ok (.aload 4, 2) := by decide +kernel
theorem dX3_wrap_34 : decode cX3_wrap 34 = .ok (.iload_n 2, 1) := by decide +kernel
theorem dX3_wrap_35 : decode cX3_wrap 35 = .ok (.putfield 60, 3) := by decide +kernel
theorem dX3_wrap_38 : decode cX3_wrap 38 = .ok (.aload 4, 2) := by decide +kernel
theorem dX3_wrap_40 : decode cX3_wrap 40 = .ok (.iload_n 2, 1) := by decide +kernel
theorem dX3_wrap_41 : decode cX3_wrap 41 = .ok (.iload_n 3, 1) := by decide +kernel
theorem dX3_wrap_42 : decode cX3_wrap 42 = .ok (.iadd, 1) := by decide +kernel
theorem dX3_wrap_43 : decode cX3_wrap 43 = .ok (.putfield 63, 3) := by decide +kernel
theorem dX3_wrap_46 : decode cX3_wrap 46 = .ok (.aload_n 0, 1) := by decide +kernel
theorem dX3_wrap_47 : decode cX3_wrap 47 = .ok (.aload 4, 2) := by decide +kernel
theorem dX3_wrap_49 : decode cX3_wrap 49 = .ok (.getfield 63, 3) := by decide +kernel
theorem dX3_wrap_52 : decode cX3_wrap 52 = .ok (.invokevirtual 66, 3) := by decide +kernel
theorem dX3_wrap_55 : decode cX3_wrap 55 = .ok (.ireturn, 1) := by decide +kernel
theorem dX3_bring_0 : decode cX3_bring 0 = .ok (.aload_n 0, 1) := by decide +kernel
theorem dX3_bring_1 : decode cX3_bring 1 = .ok (.iload_n 1, 1) := by decide +kernel
theorem dX3_bring_2 : decode cX3_bring 2 = .ok (.invokevirtual 49, 3) := by decide +kernel
theorem dX3_bring_5 : decode cX3_bring 5 = .ok (.astore 5, 2) := by decide +kernel
theorem dX3_bring_7 : decode cX3_bring 7 = .ok (.aload_n 0, 1) := by decide +kernel
theorem dX3_bring_8 : decode cX3_bring 8 = .ok (.iload_n 3, 1) := by decide +kernel
theorem dX3_bring_9 : decode cX3_bring 9 = .ok (.invokevirtual 49, 3) := by decide +kernel
theorem dX3_bring_12 : decode cX3_bring 12 = .ok (.astore 6, 2) := by decide +kernel
theorem dX3_bring_14 : decode cX3_bring 14 = .ok (.aload 6, 2) := by decide +kernel
theorem dX3_bring_16 : decode cX3_bring 16 = .ok (.iload 4, 2) := by decide +kernel
theorem dX3_bring_18 : decode cX3_bring 18 = .ok (.invokevirtual 123, 3) := by decide +kernel
theorem dX3_bring_21 : decode cX3_bring 21 = .ok (.ifCond .eq 12, 3) := by decide +kernel
theorem dX3_bring_24 : decode cX3_bring 24 = .ok (.aload 5, 2) := by decide +kernel
theorem dX3_bring_26 : decode cX3_bring 26 = .ok (.iload_n 2, 1) := by decide +kernel
theorem dX3_bring_27 : decode cX3_bring 27 = .ok (.invokevirtual 123, 3) := by decide +kernel
theorem dX3_bring_30 : decode cX3_bring 30 = .ok (.ifCond .ne 9, 3) := by decide +kernel
theorem dX3_bring_33 : decode cX3_bring 33 = .ok (.aload_n 0, 1) := by decide +kernel
theorem dX3_bring_34 : decode cX3_bring 34 = .ok (.iconst 5, 1) := by decide +kernel
theorem dX3_bring_35 : decode cX3_bring 35 = .ok (.invokevirtual 86, 3) := by decide +kernel
theorem dX3_bring_38 : decode cX3_bring 38 = .ok (.ireturn, 1) := by decide +kernel
theorem dX3_bring_39 : decode cX3_bring 39 = .ok (.aload 5, 2) := by decide +kernel
theorem dX3_bring_41 : decode cX3_bring 41 = .ok (.getfield 89, 3) := by decide +kernel
theorem dX3_bring_44 : decode cX3_bring 44 = .ok (.ifCond .eq 9, 3) := by decide +kernel
theorem dX3_bring_47 : decode cX3_bring 47 = .ok (.aload_n 0, 1) := by decide +kernel
theorem dX3_bring_48 : decode cX3_bring 48 = .ok (.iconst 4, 1) := by decide +kernel
theorem dX3_bring_49 : decode cX3_bring 49 = .ok (.invokevirtual 86, 3) := by decide +kernel
theorem dX3_bring_52 : decode cX3_bring 52 = .ok (.ireturn, 1) := by decide +kernel
theorem dX3_bring_53 : decode cX3_bring 53 = .ok (.aload_n 0, 1) := by decide +kernel
theorem dX3_bring_54 : decode cX3_bring 54 = .ok (.aload 5, 2) := by decide +kernel
theorem dX3_bring_56 : decode cX3_bring 56 = .ok (.iload_n 2, 1) := by decide +kernel
theorem dX3_bring_57 : decode cX3_bring 57 = .ok (.aload 6, 2) := by decide +kernel
theorem dX3_bring_59 : decode cX3_bring 59 = .ok (.iload 4, 2) := by decide +kernel
theorem dX3_bring_61 : decode cX3_bring 61 = .ok (.invokevirtual 131, 3) := by decide +kernel
theorem dX3_bring_64 : decode cX3_bring 64 = .ok (.invokevirtual 127, 3) := by decide +kernel
theorem dX3_bring_67 : decode cX3_bring 67 = .ok (.invokevirtual 66, 3) := by decide +kernel
theorem dX3_bring_70 : decode cX3_bring 70 = .ok (.ireturn, 1) := by decide +kernel
theorem dX3_lay_0 : decode cX3_lay 0 = .ok (.aload_n 0, 1) := by decide +kernel
theorem dX3_lay_1 : decode cX3_lay 1 = .ok (.getfield 14, 3) := by decide +kernel
theorem dX3_lay_4 : decode cX3_lay 4 = .ok (.iload_n 1, 1) := by decide +kernel
theorem dX3_lay_5 : decode cX3_lay 5 = .ok (.invokevirtual 139, 3) := by decide +kernel
theorem dX3_lay_8 : decode cX3_lay 8 = .ok (.ifCond .ne 13, 3) := by decide +kernel
theorem dX3_lay_11 : decode cX3_lay 11 = .ok (.new 142, 3) := by decide +kernel
theorem dX3_lay_14 : decode cX3_lay 14 = .ok (.dup, 1) := by decide +kernel
theorem dX3_lay_15 : decode cX3_lay 15 = .ok (.ldc 144, 2) := by decide +kernel
theorem dX3_lay_17 : decode cX3_lay 17 = .ok (.invokespecial 146, 3) := by decide +kernel
theorem dX3_lay_20 : decode cX3_lay 20 = .ok (.athrow, 1) := by decide +kernel
theorem dX3_lay_21 : decode cX3_lay 21 = .ok (.iload_n 2, 1) := by decide +kernel
theorem dX3_lay_22 : decode cX3_lay 22 = .ok (.invokestatic 116, 3) := by decide +kernel
theorem dX3_lay_25 : decode cX3_lay 25 = .ok (.aload_n 0, 1) := by decide +kernel
theorem dX3_lay_26 : decode cX3_lay 26 = .ok (.aload_n 0, 1) := by decide +kernel
theorem dX3_lay_27 : decode cX3_lay 27 = .ok (.getfield 14, 3) := by decide +kernel
theorem dX3_lay_30 : decode cX3_lay 30 = .ok (.iload_n 1, 1) := by decide +kernel
theorem dX3_lay_31 : decode cX3_lay 31 = .ok (.iload_n 2, 1) := by decide +kernel
theorem dX3_lay_32 : decode cX3_lay 32 = .ok (.invokevirtual 149, 3) := by decide +kernel
theorem dX3_lay_35 : decode cX3_lay 35 = .ok (.invokevirtual 66, 3) := by decide +kernel
theorem dX3_lay_38 : decode cX3_lay 38 = .ok (.ireturn, 1) := by decide +kernel
theorem dX3_fresh_0 : decode cX3_fresh 0 = .ok (.aload_n 0, 1) := by decide +kernel
theorem dX3_fresh_1 : decode cX3_fresh 1 = .ok (.iload_n 1, 1) := by decide +kernel
theorem dX3_fresh_2 : decode cX3_fresh 2 = .ok (.invokevirtual 49, 3) := by decide +kernel
theorem dX3_fresh_5 : decode cX3_fresh 5 = .ok (.astore_n 3, 1) := by decide +kernel
theorem dX3_fresh_6 : decode cX3_fresh 6 = .ok (.iload_n 2, 1) := by decide +kernel
theorem dX3_fresh_7 : decode cX3_fresh 7 = .ok (.iconst 0, 1) := by decide +kernel
theorem dX3_fresh_8 : decode cX3_fresh 8 = .ok (.bipush 12, 2) := by decide +kernel
theorem dX3_fresh_10 : decode cX3_fresh 10 = .ok (.invokestatic 53, 3) := by decide +kernel
theorem dX3_fresh_13 : decode cX3_fresh 13 = .ok (.aload_n 3, 1) := by decide +kernel
theorem dX3_fresh_14 : decode cX3_fresh 14 = .ok (.new 7, 3) := by decide +kernel
theorem dX3_fresh_17 : decode cX3_fresh 17 = .ok (.dup, 1) := by decide +kernel
theorem dX3_fresh_18 : decode cX3_fresh 18 = .ok (.iload_n 2, 1) := by decide +kernel
theorem dX3_fresh_19 : decode cX3_fresh 19 = .ok (.invokespecial 11, 3) := by decide +kernel
theorem dX3_fresh_22 : decode cX3_fresh 22 = .ok (.invokevirtual 57, 3) := by decide +kernel
theorem dX3_fresh_25 : decode cX3_fresh 25 = .ok (.aload_n 0, 1) := by decide +kernel
theorem dX3_fresh_26 : decode cX3_fresh 26 = .ok (.aload_n 3, 1) := by decide +kernel
theorem dX3_fresh_27 : decode cX3_fresh 27 = .ok (.getfield 63, 3) := by decide +kernel
theorem dX3_fresh_30 : decode cX3_fresh 30 = .ok (.invokevirtual 66, 3) := by decide +kernel
theorem dX3_fresh_33 : decode cX3_fresh 33 = .ok (.ireturn, 1) := by decide +kernel
set_option maxRecDepth 20000 in
theorem c_X2_init (l : Launch) (G : zG) {M : zM} {r : Nat} {ln : Int32} {nq : Nat} (h_r : M r = some (.inr (6, [.null]))) (h_ln : ln = nI nq) (h_nq : nq ≤ 16) : z_Mv l G qX2_init (z_rm 2 1 16) [.ref r, .int ln] M (fun M' => ∃ q : Nat, M q = none ∧ M' = z_up (z_up M q (aI G nq (fun _ => 0))) r (cRw q))  := by
  refine z_Mv_of _ (plainFor_of_name rfl) rfl (Nat.le_of_ble_eq_true rfl) (fun X hl hG hnm C ret => ?_)
  subst hl; subst hG
  have C : z_C X cX2_init RX2 2 (z_rm 2 1 16) := C
  show z_W X M 0 0 0 [(0, .ref r), (1, .int ln)] []
  refine z_aload_n C dX2_init_0 rfl 0 rfl ?_
  refine z_objInit (rest := []) C kw39 kw32 kw33 (by decide) (Nat.le_of_ble_eq_true rfl) dX2_init_1 ?_
  refine z_aload_n C dX2_init_4 rfl 0 rfl ?_
  refine z_iload_n C dX2_init_5 rfl 1 rfl ?_
  refine z_if_le C (tgt := 13) dX2_init_6 (by decide) (fun c6 => ?_) (fun c6 => ?_)
  · refine z_iconst C (v := 0) dX2_init_13 (by decide) ?_
    refine z_newI (N := nq) C kw44 (by decide) (by rw [show nq = 0 from z_n0 h_ln h_nq c6]; decide) (by omega) (by decide) (by show 0 + nq ≤ 16; omega) dX2_init_14 (fun q14 hq14 => ?_)
    refine z_kn (k' := 1) (n' := 0 + nq) rfl rfl ?_
    refine pr_X2_7 C hnm rfl rfl ((z_up_n _ _ (z_neN h_r hq14)).trans h_r) dX2_init_16 ?_
    refine ret dX2_init_19 ?_ (by decide) (by show 0 + nq ≤ 16; omega)
    exact ⟨q14, hq14, rfl⟩
  · refine z_iload_n C dX2_init_9 rfl 1 rfl ?_
    refine z_goto C (tgt := 14) dX2_init_10 (by decide) ?_
    refine z_newI (N := nq) C kw44 (by rw [h_ln]; exact nI_pos (by omega)) (by rw [h_ln]; exact nI_clamp (by omega)) (by omega) (by decide) (by show 0 + nq ≤ 16; omega) dX2_init_14 (fun q14 hq14 => ?_)
    refine z_kn (k' := 1) (n' := 0 + nq) rfl rfl ?_
    refine pr_X2_7 C hnm rfl rfl ((z_up_n _ _ (z_neN h_r hq14)).trans h_r) dX2_init_16 ?_
    refine ret dX2_init_19 ?_ (by decide) (by show 0 + nq ≤ 16; omega)
    exact ⟨q14, hq14, rfl⟩
set_option maxRecDepth 20000 in
theorem c_X3_wrap_bad (l : Launch) (G : zG) (h_st : l.stackTraces = false) {M : zM} {x : Nat} {pane : Int32} {fr : Int32} {mq : Int32} {lr : Nat} {pa : Nat} {sp : Nat} {ln : Nat} {rf : Nat} {ac : Int32} {kn : Int32} {fp : Nat → Option Nat}  (h_x : M x = some (cMp lr pa sp ln rf ac kn)) (h_pa : M pa = some (aP G 6 fp)) (h_ip : ¬ vp_in pane 6) : z_Xi l G qX3_wrap (z_rm 12 8 48) [.ref x, .int pane, .int fr, .int mq] M (fun r M' => False) (fun E M' => ((pane < 0) ∧ E = "java/lang/IndexOutOfBoundsException" ∧ M' = M) ∨ ((¬ pane < 0) ∧ E = "java/lang/IndexOutOfBoundsException" ∧ M' = M)) := by
  refine z_Xi_of _ _ h_st rfl rfl (Nat.le_of_ble_eq_true rfl) (fun X hl hG C ret thr prp => ?_)
  subst hl; subst hG
  have C : z_C X cX3_wrap RX3 5 (z_rm 12 8 48) := C
  show z_W X M 0 0 0 [(0, .ref x), (1, .int pane), (2, .int fr), (3, .int mq)] []
  refine z_aload_n C dX3_wrap_0 rfl 0 rfl ?_
  refine z_iload_n C dX3_wrap_1 rfl 1 rfl ?_
  refine z_callXVr (rest := []) (k' := 1) (n' := 6) C (c_X3_paneOf_bad (z_l X) (z_G X) h_st h_x h_pa h_ip) (cs_X3_49 C (by decide)) h_x rfl rfl rfl rfl (Nat.le_of_ble_eq_true rfl) rfl rfl (by decide) (by decide) dX3_wrap_2 (fun E M' hq => ?_) (fun x2 M' hq => ?_)
  · obtain ⟨cx2_0, rfl, rfl⟩ | ⟨cx2_0, rfl, rfl⟩ := hq
    · exact prp (Or.inl ⟨cx2_0, rfl, rfl⟩) (by decide) (by decide)
    · exact prp (Or.inr (⟨cx2_0, rfl, rfl⟩)) (by decide) (by decide)
  · skip
    exact hq.elim
set_option maxRecDepth 20000 in
theorem g_X3_wrap (l : Launch) (h_st : l.stackTraces = false) {G : zG} {u : sS} {x : Nat} {P RA VA : Nat → Nat} {pa sp ln rf sb : Nat} {Mw : zM} (hC : CI G u x P RA VA pa sp ln rf sb Mw) {t : Nat} (hok : s_ok t u) {pane fr mq : Int32} (h_ok : z_is pane 0 5 = 1) (h_ip : vp_in pane 6) (hi : pane.toNatClampNeg < 6) : z_Xi l G qX3_wrap (z_rm 12 8 48) [.ref x, .int pane, .int fr, .int mq] Mw (CP G x pa sp ln rf sb (z_lt (z_is pane 0 5) (t_and (z_is fr 0 16) (z_is mq 0 (16 - fr)))) (s_wrap u pane.toNatClampNeg fr mq)) (CX G x pa sp ln rf sb (z_lt (z_is pane 0 5) (t_and (z_is fr 0 16) (z_is mq 0 (16 - fr)))) u) := by
  obtain ⟨fp, hpa, hfp⟩ := CI_pa hC
  refine z_Xi_of _ _ h_st rfl rfl (Nat.le_of_ble_eq_true rfl) (fun X hl hG C ret thr prp => ?_)
  subst hl; subst hG
  have C : z_C X cX3_wrap RX3 5 (z_rm 12 8 48) := C
  show z_W X Mw 0 0 0 [(0, .ref x), (1, .int pane), (2, .int fr), (3, .int mq)] []
  refine z_aload_n C dX3_wrap_0 rfl 0 rfl ?_
  refine z_iload_n C dX3_wrap_1 rfl 1 rfl ?_
  refine z_callXVr (rest := []) (k' := 1) (n' := 6) C (c_X3_paneOf (z_l X) (z_G X) h_st hC.1 hpa (CI_P hC hi) h_ip rfl (hfp _ hi)) (cs_X3_49 C (by decide)) hC.1 rfl rfl rfl rfl (Nat.le_of_ble_eq_true rfl) rfl rfl (by decide) (by decide) dX3_wrap_2 (fun E M' hq => ?_) (fun x2 M' hq => ?_)
  · exact hq.elim
  · skip
    obtain ⟨rfl, rfl⟩ := hq
    refine z_astore (lv' := [(4, .ref (P pane.toNatClampNeg)), (0, .ref x), (1, .int pane), (2, .int fr), (3, .int mq)]) C dX3_wrap_5 (by decide) rfl ?_
    refine z_iload_n C dX3_wrap_7 rfl 3 rfl ?_
    refine z_iconst C (v := 0) dX3_wrap_8 (by decide) ?_
    refine z_bipush C (v := 16) dX3_wrap_9 (by decide) ?_
    refine z_callXSv (rest := []) (k' := 2) (n' := 12) C (c_X3_needWithin (z_l X) (z_G X) h_st) (cs_X3_53 C (by decide)) rfl rfl (Nat.le_of_ble_eq_true rfl) rfl rfl (by decide) (by decide) dX3_wrap_11 (fun E M' hq => ?_) (fun M' hq => ?_)
    · obtain ⟨cx11_0, rfl, rfl⟩ := hq
      exact prp (CX_2 (k_2 h_ok (by simp [t_and, cx11_0])) hC) (by decide) (by decide)
    · skip
      obtain ⟨d11_0, rfl⟩ := hq
      refine z_iload_n C dX3_wrap_14 rfl 4 rfl ?_
      refine z_iconst C (v := 0) dX3_wrap_15 (by decide) ?_
      refine z_bipush C (v := 16) dX3_wrap_16 (by decide) ?_
      refine z_iload_n C dX3_wrap_18 rfl 3 rfl ?_
      refine z_isub C dX3_wrap_19 ?_
      refine z_callXSv (rest := []) (k' := 3) (n' := 18) C (c_X3_needWithin (z_l X) (z_G X) h_st) (cs_X3_53 C (by decide)) rfl rfl (Nat.le_of_ble_eq_true rfl) rfl rfl (by decide) (by decide) dX3_wrap_20 (fun E M' hq => ?_) (fun M' hq => ?_)
      · obtain ⟨cx20_0, rfl, rfl⟩ := hq
        exact prp (CX_2 (k_2 h_ok (by simp [t_and, d11_0, cx20_0])) hC) (by decide) (by decide)
      · skip
        obtain ⟨d20_0, rfl⟩ := hq
        refine z_aload C dX3_wrap_23 0 rfl ?_
        refine z_aload_n C dX3_wrap_25 rfl 1 rfl ?_
        refine gf_X3_14 C hC.1 dX3_wrap_26 ?_
        refine z_callVv (rest := []) (k' := 3) (n' := 18) C (c_X1_showAll (z_l X) (z_G X) (CI_P hC hi) (CI_RA hC (by have := hok.1; omega)) (CI_VA hC (by have := hok.1; omega))) (cs_X3_57 C (by decide)) (CI_P hC hi) rfl rfl rfl rfl (Nat.le_of_ble_eq_true rfl) rfl rfl (by decide) (by decide) dX3_wrap_29 (fun M' hq => ?_)
        obtain rfl := hq
        refine z_aload C dX3_wrap_32 0 rfl ?_
        refine z_iload_n C dX3_wrap_34 rfl 3 rfl ?_
        refine pg_X3_60 C dX3_wrap_35 ?_
        refine z_aload C dX3_wrap_38 0 rfl ?_
        refine z_iload_n C dX3_wrap_40 rfl 3 rfl ?_
        refine z_iload_n C dX3_wrap_41 rfl 4 rfl ?_
        refine z_iadd C dX3_wrap_42 ?_
        refine pg_X3_63 C dX3_wrap_43 ?_
        refine z_aload_n C dX3_wrap_46 rfl 1 rfl ?_
        refine z_aload C dX3_wrap_47 0 rfl ?_
        refine gf_X3_63 C (z_up_s _ _ _) dX3_wrap_49 ?_
        refine z_callVi (rest := []) (k' := 3) (n' := 18) C (c_X3_done (z_l X) (z_G X) ((z_up_n _ _ (z_ne hC.1 (CI_P hC hi) (by intro h; cases h))).trans hC.1)) (cs_X3_66 C (by decide)) ((z_up_n _ _ (z_ne hC.1 (CI_P hC hi) (by intro h; cases h))).trans hC.1) rfl rfl rfl rfl (Nat.le_of_ble_eq_true rfl) rfl rfl (by decide) (by decide) dX3_wrap_52 (fun x52 M' hq => ?_)
        obtain ⟨rfl, rfl⟩ := hq
        refine ret dX3_wrap_55 rfl ?_ (by decide) (by decide)
        rw [show s_ln u 0 = 16 from hok.2.2.1]
        exact CP_ok (v := s_act (s_up u pane.toNatClampNeg ((0, 0, 16, fr, fr + mq, -1, 0) : sP))) rfl (z_lt3 h_ok (by simp [t_and, d11_0, z_is11 d20_0])) (CI_ak (CI_pn hC hi ((0, 0, 16, fr, fr + mq, -1, 0) : sP)) _ _)
theorem a_X3_wrap (l : Launch) (h_st : l.stackTraces = false) {G : zG} {u : sS} {x : Nat} {P RA VA : Nat → Nat} {pa sp ln rf sb : Nat} {Mw : zM} (hC : CI G u x P RA VA pa sp ln rf sb Mw) {t : Nat} (hok : s_ok t u) (pane fr mq : Int32) : z_Xi l G qX3_wrap (z_rm 12 8 48) [.ref x, .int pane, .int fr, .int mq] Mw (CP G x pa sp ln rf sb (z_lt (z_is pane 0 5) (t_and (z_is fr 0 16) (z_is mq 0 (16 - fr)))) (s_wrap u pane.toNatClampNeg fr mq)) (CX G x pa sp ln rf sb (z_lt (z_is pane 0 5) (t_and (z_is fr 0 16) (z_is mq 0 (16 - fr)))) u) := by
  obtain ⟨fp, hpa, hfp⟩ := CI_pa hC
  rcases z_pc pane with ⟨h_ok, h_ip, hi⟩ | ⟨h_bad, h_nip⟩
  · exact g_X3_wrap l h_st hC hok h_ok h_ip hi
  · refine z_Xi_mono (c_X3_wrap_bad l G h_st hC.1 hpa h_nip) (fun r M' h => h.elim) ?_
    rintro E M' (⟨x0_0, rfl, rfl⟩ | ⟨x1_0, rfl, rfl⟩)
    · exact CX_1 (k_1 h_bad) hC
    · exact CX_1 (k_1 h_bad) hC
set_option maxRecDepth 20000 in
theorem c_X3_bring_bad (l : Launch) (G : zG) (h_st : l.stackTraces = false) {M : zM} {x : Nat} {pane : Int32} {ix : Int32} {other : Int32} {fr : Int32} {lr : Nat} {pa : Nat} {sp : Nat} {ln : Nat} {rf : Nat} {ac : Int32} {kn : Int32} {fp : Nat → Option Nat}  (h_x : M x = some (cMp lr pa sp ln rf ac kn)) (h_pa : M pa = some (aP G 6 fp)) (h_ip : ¬ vp_in pane 6) : z_Xi l G qX3_bring (z_rm 12 8 48) [.ref x, .int pane, .int ix, .int other, .int fr] M (fun r M' => False) (fun E M' => ((pane < 0) ∧ E = "java/lang/IndexOutOfBoundsException" ∧ M' = M) ∨ ((¬ pane < 0) ∧ E = "java/lang/IndexOutOfBoundsException" ∧ M' = M)) := by
  refine z_Xi_of _ _ h_st rfl rfl (Nat.le_of_ble_eq_true rfl) (fun X hl hG C ret thr prp => ?_)
  subst hl; subst hG
  have C : z_C X cX3_bring RX3 7 (z_rm 12 8 48) := C
  show z_W X M 0 0 0 [(0, .ref x), (1, .int pane), (2, .int ix), (3, .int other), (4, .int fr)] []
  refine z_aload_n C dX3_bring_0 rfl 0 rfl ?_
  refine z_iload_n C dX3_bring_1 rfl 1 rfl ?_
  refine z_callXVr (rest := []) (k' := 1) (n' := 6) C (c_X3_paneOf_bad (z_l X) (z_G X) h_st h_x h_pa h_ip) (cs_X3_49 C (by decide)) h_x rfl rfl rfl rfl (Nat.le_of_ble_eq_true rfl) rfl rfl (by decide) (by decide) dX3_bring_2 (fun E M' hq => ?_) (fun x2 M' hq => ?_)
  · obtain ⟨cx2_0, rfl, rfl⟩ | ⟨cx2_0, rfl, rfl⟩ := hq
    · exact prp (Or.inl ⟨cx2_0, rfl, rfl⟩) (by decide) (by decide)
    · exact prp (Or.inr (⟨cx2_0, rfl, rfl⟩)) (by decide) (by decide)
  · skip
    exact hq.elim
set_option maxRecDepth 20000 in
theorem c_X3_bring_bad2 (l : Launch) (G : zG) (h_st : l.stackTraces = false) {M : zM} {x : Nat} {pane : Int32} {ix : Int32} {other : Int32} {fr : Int32} {lr : Nat} {pa : Nat} {sp : Nat} {ln : Nat} {rf : Nat} {ac : Int32} {kn : Int32} {fp : Nat → Option Nat} {p : Nat} {ov : Nat} {sa : Int32} {cp : Int32} {po : Int32} {li : Int32} {mk : Int32} {rd : Int32} {i : Nat} (h_x : M x = some (cMp lr pa sp ln rf ac kn)) (h_pa : M pa = some (aP G 6 fp)) (h_p : M p = some (cPn ov sa cp po li mk rd)) (h_ip : vp_in pane 6) (h_ij : pane.toNatClampNeg = i) (h_fp : fp i = some p) (h_ip2 : ¬ vp_in other 6) : z_Xi l G qX3_bring (z_rm 12 8 48) [.ref x, .int pane, .int ix, .int other, .int fr] M (fun r M' => False) (fun E M' => ((other < 0) ∧ E = "java/lang/IndexOutOfBoundsException" ∧ M' = M) ∨ ((¬ other < 0) ∧ E = "java/lang/IndexOutOfBoundsException" ∧ M' = M)) := by
  refine z_Xi_of _ _ h_st rfl rfl (Nat.le_of_ble_eq_true rfl) (fun X hl hG C ret thr prp => ?_)
  subst hl; subst hG
  have C : z_C X cX3_bring RX3 7 (z_rm 12 8 48) := C
  show z_W X M 0 0 0 [(0, .ref x), (1, .int pane), (2, .int ix), (3, .int other), (4, .int fr)] []
  refine z_aload_n C dX3_bring_0 rfl 0 rfl ?_
  refine z_iload_n C dX3_bring_1 rfl 1 rfl ?_
  refine z_callXVr (rest := []) (k' := 1) (n' := 6) C (c_X3_paneOf (z_l X) (z_G X) h_st h_x h_pa h_p h_ip h_ij h_fp) (cs_X3_49 C (by decide)) h_x rfl rfl rfl rfl (Nat.le_of_ble_eq_true rfl) rfl rfl (by decide) (by decide) dX3_bring_2 (fun E M' hq => ?_) (fun x2 M' hq => ?_)
  · exact hq.elim
  · skip
    obtain ⟨hr2, rfl⟩ := hq
    rw [hr2]
    refine z_astore (lv' := [(5, .ref p), (0, .ref x), (1, .int pane), (2, .int ix), (3, .int other), (4, .int fr)]) C dX3_bring_5 (by decide) rfl ?_
    refine z_aload_n C dX3_bring_7 rfl 1 rfl ?_
    refine z_iload_n C dX3_bring_8 rfl 4 rfl ?_
    refine z_callXVr (rest := []) (k' := 2) (n' := 12) C (c_X3_paneOf_bad (z_l X) (z_G X) h_st h_x h_pa h_ip2) (cs_X3_49 C (by decide)) h_x rfl rfl rfl rfl (Nat.le_of_ble_eq_true rfl) rfl rfl (by decide) (by decide) dX3_bring_9 (fun E M' hq => ?_) (fun x9 M' hq => ?_)
    · obtain ⟨cx9_0, rfl, rfl⟩ | ⟨cx9_0, rfl, rfl⟩ := hq
      · exact prp (Or.inl ⟨cx9_0, rfl, rfl⟩) (by decide) (by decide)
      · exact prp (Or.inr (⟨cx9_0, rfl, rfl⟩)) (by decide) (by decide)
    · skip
      exact hq.elim
set_option maxRecDepth 20000 in
theorem g_X3_bring (l : Launch) (h_st : l.stackTraces = false) {G : zG} {u : sS} {x : Nat} {P RA VA : Nat → Nat} {pa sp ln rf sb : Nat} {Mw : zM} (hC : CI G u x P RA VA pa sp ln rf sb Mw) {t : Nat} (hok : s_ok t u) {pane ix other fr : Int32} (h_ok : z_is pane 0 5 = 1) (h_ip : vp_in pane 6) (hi : pane.toNatClampNeg < 6) (h_ok2 : z_is other 0 5 = 1) (h_ip2 : vp_in other 6) (hi2 : other.toNatClampNeg < 6) : z_Xi l G qX3_bring (z_rm 12 8 48) [.ref x, .int pane, .int ix, .int other, .int fr] Mw (CP G x pa sp ln rf sb (z_lt (t_2 pane other) 1) (s_bring u pane.toNatClampNeg other.toNatClampNeg ix fr)) (CX G x pa sp ln rf sb (z_lt (t_2 pane other) 1) u) := by
  obtain ⟨fp, hpa, hfp⟩ := CI_pa hC
  refine z_Xi_of _ _ h_st rfl rfl (Nat.le_of_ble_eq_true rfl) (fun X hl hG C ret thr prp => ?_)
  subst hl; subst hG
  have C : z_C X cX3_bring RX3 7 (z_rm 12 8 48) := C
  show z_W X Mw 0 0 0 [(0, .ref x), (1, .int pane), (2, .int ix), (3, .int other), (4, .int fr)] []
  refine z_aload_n C dX3_bring_0 rfl 0 rfl ?_
  refine z_iload_n C dX3_bring_1 rfl 1 rfl ?_
  refine z_callXVr (rest := []) (k' := 1) (n' := 6) C (c_X3_paneOf (z_l X) (z_G X) h_st hC.1 hpa (CI_P hC hi) h_ip rfl (hfp _ hi)) (cs_X3_49 C (by decide)) hC.1 rfl rfl rfl rfl (Nat.le_of_ble_eq_true rfl) rfl rfl (by decide) (by decide) dX3_bring_2 (fun E M' hq => ?_) (fun x2 M' hq => ?_)
  · exact hq.elim
  · skip
    obtain ⟨rfl, rfl⟩ := hq
    refine z_astore (lv' := [(5, .ref (P pane.toNatClampNeg)), (0, .ref x), (1, .int pane), (2, .int ix), (3, .int other), (4, .int fr)]) C dX3_bring_5 (by decide) rfl ?_
    refine z_aload_n C dX3_bring_7 rfl 1 rfl ?_
    refine z_iload_n C dX3_bring_8 rfl 4 rfl ?_
    refine z_callXVr (rest := []) (k' := 2) (n' := 12) C (c_X3_paneOf (z_l X) (z_G X) h_st hC.1 hpa (CI_P hC hi2) h_ip2 rfl (hfp _ hi2)) (cs_X3_49 C (by decide)) hC.1 rfl rfl rfl rfl (Nat.le_of_ble_eq_true rfl) rfl rfl (by decide) (by decide) dX3_bring_9 (fun E M' hq => ?_) (fun x9 M' hq => ?_)
    · exact hq.elim
    · skip
      obtain ⟨rfl, rfl⟩ := hq
      refine z_astore (lv' := [(6, .ref (P other.toNatClampNeg)), (5, .ref (P pane.toNatClampNeg)), (0, .ref x), (1, .int pane), (2, .int ix), (3, .int other), (4, .int fr)]) C dX3_bring_12 (by decide) rfl ?_
      refine z_aload C dX3_bring_14 0 rfl ?_
      refine z_iload C dX3_bring_16 6 rfl ?_
      refine z_callVi (rest := []) (k' := 2) (n' := 12) C (c_X1_hasIndex (z_l X) (z_G X) (CI_P hC hi2)) (cs_X3_123 C (by decide)) (CI_P hC hi2) rfl rfl rfl rfl (Nat.le_of_ble_eq_true rfl) rfl rfl (by decide) (by decide) dX3_bring_18 (fun x18 M' hq => ?_)
      obtain ⟨rfl, rfl⟩ := hq
      refine z_if_eq C (tgt := 33) dX3_bring_21 (by decide) (fun c21 => ?_) (fun c21 => ?_)
      · refine z_aload_n C dX3_bring_33 rfl 2 rfl ?_
        refine z_iconst C (v := 5) dX3_bring_34 (by decide) ?_
        refine z_callVi (rest := []) (k' := 2) (n' := 12) C (c_X3_refuse (z_l X) (z_G X) hC.1 (CI_rf hC) (z_inL (by decide)) (show (5 : Int32).toNatClampNeg = 5 by decide)) (cs_X3_86 C (by decide)) hC.1 rfl rfl rfl rfl (Nat.le_of_ble_eq_true rfl) rfl rfl (by decide) (by decide) dX3_bring_35 (fun x35 M' hq => ?_)
        obtain ⟨rfl, rfl⟩ := hq
        refine ret dX3_bring_38 rfl ?_ (by decide) (by decide)
        exact CP_ok (v := s_tel u 5) (by unfold s_bring; rw [if_pos c21]) (z_lt3 (show t_2 pane other = 1 from by unfold t_2; rw [h_ok, h_ok2]; decide) rfl) (CI_td hC _)
      · refine z_aload C dX3_bring_24 1 rfl ?_
        refine z_iload_n C dX3_bring_26 rfl 4 rfl ?_
        refine z_callVi (rest := []) (k' := 2) (n' := 12) C (c_X1_hasIndex (z_l X) (z_G X) (CI_P hC hi)) (cs_X3_123 C (by decide)) (CI_P hC hi) rfl rfl rfl rfl (Nat.le_of_ble_eq_true rfl) rfl rfl (by decide) (by decide) dX3_bring_27 (fun x27 M' hq => ?_)
        obtain ⟨rfl, rfl⟩ := hq
        refine z_if_ne C (tgt := 39) dX3_bring_30 (by decide) (fun c30 => ?_) (fun c30 => ?_)
        · refine z_aload C dX3_bring_39 1 rfl ?_
          refine gf_X3_89 C (CI_P hC hi) dX3_bring_41 ?_
          refine z_if_eq C (tgt := 53) dX3_bring_44 (by decide) (fun c44 => ?_) (fun c44 => ?_)
          · refine z_aload_n C dX3_bring_53 rfl 2 rfl ?_
            refine z_aload C dX3_bring_54 1 rfl ?_
            refine z_iload_n C dX3_bring_56 rfl 4 rfl ?_
            refine z_aload C dX3_bring_57 0 rfl ?_
            refine z_iload C dX3_bring_59 6 rfl ?_
            refine z_callVi (rest := [.int ix, .ref (P pane.toNatClampNeg), .ref x]) (k' := 2) (n' := 12) C (a_X1_valueAt (z_l X) hC hok hi2 (s_inL hok hi2 c21)) (cs_X3_131 C (by decide)) (CI_P hC hi2) rfl rfl rfl rfl (Nat.le_of_ble_eq_true rfl) rfl rfl (by decide) (by decide) dX3_bring_61 (fun x61 Mq61 hq => ?_)
            obtain ⟨e61, rfl⟩ := hq
            rw [e61]
            refine z_callVi (rest := [.ref x]) (k' := 2) (n' := 12) C (a_X1_replace' (z_l X) hC hok hi _ (s_inL hok hi c30)) (cs_X3_127 C (by decide)) (CI_P hC hi) rfl rfl rfl rfl (Nat.le_of_ble_eq_true rfl) rfl rfl (by decide) (by decide) dX3_bring_64 (fun x64 Mq64 hq => ?_)
            obtain ⟨e64, hC64⟩ := hq
            rw [e64]
            refine z_callVi (rest := []) (k' := 2) (n' := 12) C (c_X3_done (z_l X) (z_G X) hC64.1) (cs_X3_66 C (by decide)) hC64.1 rfl rfl rfl rfl (Nat.le_of_ble_eq_true rfl) rfl rfl (by decide) (by decide) dX3_bring_67 (fun x67 M' hq => ?_)
            obtain ⟨rfl, rfl⟩ := hq
            refine ret dX3_bring_70 rfl ?_ (by decide) (by decide)
            exact CP_ok (v := s_act (s_wr u (p_ro (s_pn u pane.toNatClampNeg)) (p_at (s_pn u pane.toNatClampNeg) ix) (s_val u (s_pn u other.toNatClampNeg) fr))) (by unfold s_bring; rw [if_neg c21, if_neg c30, if_neg ((s_rdn hok hi).mp c44)]) (z_lt3 (show t_2 pane other = 1 from by unfold t_2; rw [h_ok, h_ok2]; decide) rfl) (CI_ak hC64 _ _)
          · refine z_aload_n C dX3_bring_47 rfl 2 rfl ?_
            refine z_iconst C (v := 4) dX3_bring_48 (by decide) ?_
            refine z_callVi (rest := []) (k' := 2) (n' := 12) C (c_X3_refuse (z_l X) (z_G X) hC.1 (CI_rf hC) (z_inL (by decide)) (show (4 : Int32).toNatClampNeg = 4 by decide)) (cs_X3_86 C (by decide)) hC.1 rfl rfl rfl rfl (Nat.le_of_ble_eq_true rfl) rfl rfl (by decide) (by decide) dX3_bring_49 (fun x49 M' hq => ?_)
            obtain ⟨rfl, rfl⟩ := hq
            refine ret dX3_bring_52 rfl ?_ (by decide) (by decide)
            exact CP_ok (v := s_tel u 4) (by unfold s_bring; rw [if_neg c21, if_neg c30, if_pos ((s_rdn' hok hi).mpr c44)]) (z_lt3 (show t_2 pane other = 1 from by unfold t_2; rw [h_ok, h_ok2]; decide) rfl) (CI_td hC _)
        · refine z_aload_n C dX3_bring_33 rfl 2 rfl ?_
          refine z_iconst C (v := 5) dX3_bring_34 (by decide) ?_
          refine z_callVi (rest := []) (k' := 2) (n' := 12) C (c_X3_refuse (z_l X) (z_G X) hC.1 (CI_rf hC) (z_inL (by decide)) (show (5 : Int32).toNatClampNeg = 5 by decide)) (cs_X3_86 C (by decide)) hC.1 rfl rfl rfl rfl (Nat.le_of_ble_eq_true rfl) rfl rfl (by decide) (by decide) dX3_bring_35 (fun x35 M' hq => ?_)
          obtain ⟨rfl, rfl⟩ := hq
          refine ret dX3_bring_38 rfl ?_ (by decide) (by decide)
          exact CP_ok (v := s_tel u 5) (by unfold s_bring; rw [if_neg c21, if_pos c30]) (z_lt3 (show t_2 pane other = 1 from by unfold t_2; rw [h_ok, h_ok2]; decide) rfl) (CI_td hC _)
theorem a_X3_bring (l : Launch) (h_st : l.stackTraces = false) {G : zG} {u : sS} {x : Nat} {P RA VA : Nat → Nat} {pa sp ln rf sb : Nat} {Mw : zM} (hC : CI G u x P RA VA pa sp ln rf sb Mw) {t : Nat} (hok : s_ok t u) (pane ix other fr : Int32) : z_Xi l G qX3_bring (z_rm 12 8 48) [.ref x, .int pane, .int ix, .int other, .int fr] Mw (CP G x pa sp ln rf sb (z_lt (t_2 pane other) 1) (s_bring u pane.toNatClampNeg other.toNatClampNeg ix fr)) (CX G x pa sp ln rf sb (z_lt (t_2 pane other) 1) u) := by
  obtain ⟨fp, hpa, hfp⟩ := CI_pa hC
  rcases z_pc pane with ⟨h_ok, h_ip, hi⟩ | ⟨h_bad, h_nip⟩
  · rcases z_pc other with ⟨h_ok2, h_ip2, hi2⟩ | ⟨h_bad2, h_nip2⟩
    · exact g_X3_bring l h_st hC hok h_ok h_ip hi h_ok2 h_ip2 hi2
    · refine z_Xi_mono (c_X3_bring_bad2 l G h_st hC.1 hpa (CI_P hC hi) h_ip rfl (hfp _ hi) h_nip2) (fun r M' h => h.elim) ?_
      rintro E M' (⟨x0_0, rfl, rfl⟩ | ⟨x1_0, rfl, rfl⟩)
      · exact CX_1 (k_1 (by unfold t_2; rw [h_ok, h_bad2]; decide)) hC
      · exact CX_1 (k_1 (by unfold t_2; rw [h_ok, h_bad2]; decide)) hC
  · refine z_Xi_mono (c_X3_bring_bad l G h_st hC.1 hpa h_nip) (fun r M' h => h.elim) ?_
    rintro E M' (⟨x0_0, rfl, rfl⟩ | ⟨x1_0, rfl, rfl⟩)
    · exact CX_1 (k_1 (by unfold t_2; rw [h_bad]; exact if_pos rfl)) hC
    · exact CX_1 (k_1 (by unfold t_2; rw [h_bad]; exact if_pos rfl)) hC
set_option maxRecDepth 20000 in
theorem a_X3_lay (l : Launch) (h_st : l.stackTraces = false) {G : zG} {u : sS} {x : Nat} {P RA VA : Nat → Nat} {pa sp ln rf sb : Nat} {Mw : zM} (hC : CI G u x P RA VA pa sp ln rf sb Mw) {t : Nat} (hok : s_ok t u) (pq v : Int32) : z_Xi l G qX3_lay (z_rm 12 8 48) [.ref x, .int pq, .int v] Mw (CP G x pa sp ln rf sb (z_lt (z_is pq 0 15) (t_nn v)) (s_lay u pq v)) (CX G x pa sp ln rf sb (z_lt (z_is pq 0 15) (t_nn v)) u) := by
  refine z_Xi_of _ _ h_st rfl rfl (Nat.le_of_ble_eq_true rfl) (fun X hl hG C ret thr prp => ?_)
  subst hl; subst hG
  have C : z_C X cX3_lay RX3 3 (z_rm 12 8 48) := C
  show z_W X Mw 0 0 0 [(0, .ref x), (1, .int pq), (2, .int v)] []
  refine z_aload_n C dX3_lay_0 rfl 0 rfl ?_
  refine gf_X3_14 C hC.1 dX3_lay_1 ?_
  refine z_iload_n C dX3_lay_4 rfl 1 rfl ?_
  refine z_callVi (rest := []) (k' := 0) (n' := 0) C (c_X2_hasPlace_g (z_l X) (z_G X) (CI_RA hC (by have := hok.1; omega)) (CI_VA hC (by have := hok.1; omega))) (cs_X3_139 C (by decide)) (CI_RA hC (by have := hok.1; omega)) rfl rfl rfl rfl (Nat.le_of_ble_eq_true rfl) rfl rfl (by decide) (by decide) dX3_lay_5 (fun x5 M' hq => ?_)
  obtain ⟨rfl, rfl⟩ := hq
  refine z_if_ne C (tgt := 21) dX3_lay_8 (by decide) (fun c8 => ?_) (fun c8 => ?_)
  · refine z_iload_n C dX3_lay_21 rfl 2 rfl ?_
    refine z_callXSv (rest := []) (k' := 1) (n' := 6) C (c_X3_needValue (z_l X) (z_G X) h_st) (cs_X3_116 C (by decide)) rfl rfl (Nat.le_of_ble_eq_true rfl) rfl rfl (by decide) (by decide) dX3_lay_22 (fun E M' hq => ?_) (fun M' hq => ?_)
    · obtain ⟨cx22_0, rfl, rfl⟩ := hq
      exact prp (CX_2 (k_2 (z_is11 (fun q => c8 ((z_hi15 hok.2.2.1).mpr q))) (by simp [t_nn, Int32.not_le.mp cx22_0])) hC) (by decide) (by decide)
    · skip
      obtain ⟨d22_0, rfl⟩ := hq
      refine z_aload_n C dX3_lay_25 rfl 0 rfl ?_
      refine z_aload_n C dX3_lay_26 rfl 0 rfl ?_
      refine gf_X3_14 C hC.1 dX3_lay_27 ?_
      refine z_iload_n C dX3_lay_30 rfl 1 rfl ?_
      refine z_iload_n C dX3_lay_31 rfl 2 rfl ?_
      refine z_callVi (rest := [.ref x]) (k' := 1) (n' := 6) C (c_X2_exchangeAt (z_l X) (z_G X) (CI_RA hC (by have := hok.1; omega)) (CI_VA hC (by have := hok.1; omega)) (z_hi1' hok.2.2.1 c8) (by rw [hok.2.2.1]; decide)) (cs_X3_149 C (by decide)) (CI_RA hC (by have := hok.1; omega)) rfl rfl rfl rfl (Nat.le_of_ble_eq_true rfl) rfl rfl (by decide) (by decide) dX3_lay_32 (fun x32 M' hq => ?_)
      obtain ⟨rfl, rfl⟩ := hq
      refine z_callVi (rest := []) (k' := 1) (n' := 6) C (c_X3_done (z_l X) (z_G X) ((z_up_n _ _ (z_ne hC.1 (CI_VA hC (by have := hok.1; omega)) (by intro h; cases h))).trans hC.1)) (cs_X3_66 C (by decide)) ((z_up_n _ _ (z_ne hC.1 (CI_VA hC (by have := hok.1; omega)) (by intro h; cases h))).trans hC.1) rfl rfl rfl rfl (Nat.le_of_ble_eq_true rfl) rfl rfl (by decide) (by decide) dX3_lay_35 (fun x35 M' hq => ?_)
      obtain ⟨rfl, rfl⟩ := hq
      refine ret dX3_lay_38 rfl ?_ (by decide) (by decide)
      exact CP_ok (v := s_act (s_wr u 0 pq.toNatClampNeg v)) rfl (z_lt3 (z_is11 (fun q => c8 ((z_hi15 hok.2.2.1).mpr q))) (by simp [t_nn, Int32.not_lt.mpr d22_0])) (CI_ak (CI_wr hC (by have := hok.1; omega) _ _) _ _)
  · exact thr "java/lang/IndexOutOfBoundsException" "no such place of the long row" z_nm 142 144 146 (by decide +kernel) (by decide +kernel) kw703 kw14 rfl (by decide +kernel) (ht_I C) hg_I dX3_lay_11 dX3_lay_14 dX3_lay_15 dX3_lay_17 dX3_lay_20 (by decide) (Nat.le_of_ble_eq_true rfl) (by decide) (by decide) (CX_1 (k_1 ((z_hi15 hok.2.2.1).mp c8)) hC)
set_option maxRecDepth 20000 in
theorem c_X3_fresh_bad (l : Launch) (G : zG) (h_st : l.stackTraces = false) {M : zM} {x : Nat} {pane : Int32} {lq : Int32} {lr : Nat} {pa : Nat} {sp : Nat} {ln : Nat} {rf : Nat} {ac : Int32} {kn : Int32} {fp : Nat → Option Nat}  (h_x : M x = some (cMp lr pa sp ln rf ac kn)) (h_pa : M pa = some (aP G 6 fp)) (h_ip : ¬ vp_in pane 6) : z_Xi l G qX3_fresh (z_rm 12 8 48) [.ref x, .int pane, .int lq] M (fun r M' => False) (fun E M' => ((pane < 0) ∧ E = "java/lang/IndexOutOfBoundsException" ∧ M' = M) ∨ ((¬ pane < 0) ∧ E = "java/lang/IndexOutOfBoundsException" ∧ M' = M)) := by
  refine z_Xi_of _ _ h_st rfl rfl (Nat.le_of_ble_eq_true rfl) (fun X hl hG C ret thr prp => ?_)
  subst hl; subst hG
  have C : z_C X cX3_fresh RX3 4 (z_rm 12 8 48) := C
  show z_W X M 0 0 0 [(0, .ref x), (1, .int pane), (2, .int lq)] []
  refine z_aload_n C dX3_fresh_0 rfl 0 rfl ?_
  refine z_iload_n C dX3_fresh_1 rfl 1 rfl ?_
  refine z_callXVr (rest := []) (k' := 1) (n' := 6) C (c_X3_paneOf_bad (z_l X) (z_G X) h_st h_x h_pa h_ip) (cs_X3_49 C (by decide)) h_x rfl rfl rfl rfl (Nat.le_of_ble_eq_true rfl) rfl rfl (by decide) (by decide) dX3_fresh_2 (fun E M' hq => ?_) (fun x2 M' hq => ?_)
  · obtain ⟨cx2_0, rfl, rfl⟩ | ⟨cx2_0, rfl, rfl⟩ := hq
    · exact prp (Or.inl ⟨cx2_0, rfl, rfl⟩) (by decide) (by decide)
    · exact prp (Or.inr (⟨cx2_0, rfl, rfl⟩)) (by decide) (by decide)
  · skip
    exact hq.elim
set_option maxRecDepth 20000 in
theorem g_X3_fresh (l : Launch) (h_st : l.stackTraces = false) {G : zG} {u : sS} {x : Nat} {P RA VA : Nat → Nat} {pa sp ln rf sb : Nat} {Mw : zM} (hC : CI G u x P RA VA pa sp ln rf sb Mw) {t : Nat} (hok : s_ok t u) {pane lq : Int32} (h_ok : z_is pane 0 5 = 1) (h_ip : vp_in pane 6) (hi : pane.toNatClampNeg < 6) : z_Xi l G qX3_fresh (z_rm 12 8 48) [.ref x, .int pane, .int lq] Mw (CP G x pa sp ln rf sb (z_lt (z_is pane 0 5) (z_is lq 0 12)) (s_fresh u pane.toNatClampNeg lq)) (CX G x pa sp ln rf sb (z_lt (z_is pane 0 5) (z_is lq 0 12)) u) := by
  obtain ⟨fp, hpa, hfp⟩ := CI_pa hC
  refine z_Xi_of _ _ h_st rfl rfl (Nat.le_of_ble_eq_true rfl) (fun X hl hG C ret thr prp => ?_)
  subst hl; subst hG
  have C : z_C X cX3_fresh RX3 4 (z_rm 12 8 48) := C
  show z_W X Mw 0 0 0 [(0, .ref x), (1, .int pane), (2, .int lq)] []
  refine z_aload_n C dX3_fresh_0 rfl 0 rfl ?_
  refine z_iload_n C dX3_fresh_1 rfl 1 rfl ?_
  refine z_callXVr (rest := []) (k' := 1) (n' := 6) C (c_X3_paneOf (z_l X) (z_G X) h_st hC.1 hpa (CI_P hC hi) h_ip rfl (hfp _ hi)) (cs_X3_49 C (by decide)) hC.1 rfl rfl rfl rfl (Nat.le_of_ble_eq_true rfl) rfl rfl (by decide) (by decide) dX3_fresh_2 (fun E M' hq => ?_) (fun x2 M' hq => ?_)
  · exact hq.elim
  · skip
    obtain ⟨rfl, rfl⟩ := hq
    refine z_astore_n (lv' := [(3, .ref (P pane.toNatClampNeg)), (0, .ref x), (1, .int pane), (2, .int lq)]) C dX3_fresh_5 rfl (by decide) rfl ?_
    refine z_iload_n C dX3_fresh_6 rfl 3 rfl ?_
    refine z_iconst C (v := 0) dX3_fresh_7 (by decide) ?_
    refine z_bipush C (v := 12) dX3_fresh_8 (by decide) ?_
    refine z_callXSv (rest := []) (k' := 2) (n' := 12) C (c_X3_needWithin (z_l X) (z_G X) h_st) (cs_X3_53 C (by decide)) rfl rfl (Nat.le_of_ble_eq_true rfl) rfl rfl (by decide) (by decide) dX3_fresh_10 (fun E M' hq => ?_) (fun M' hq => ?_)
    · obtain ⟨cx10_0, rfl, rfl⟩ := hq
      exact prp (CX_2 (k_2 h_ok cx10_0) hC) (by decide) (by decide)
    · skip
      obtain ⟨d10_0, rfl⟩ := hq
      refine z_aload_n C dX3_fresh_13 rfl 0 rfl ?_
      refine z_new (ci := 6) (fs := [.null]) C rfl inX2 tyX2 tyX2_ok kw34 kw35 kw2 (fun j hj => by rcases (show j = 0 by omega) with rfl <;> rfl) (by decide) (by decide) dX3_fresh_14 (fun q14 hq14 => ?_)
      refine z_kn (k' := 3) (n' := 13) rfl rfl ?_
      refine z_dup C dX3_fresh_17 rfl ?_
      refine z_iload_n C dX3_fresh_18 rfl 3 rfl ?_
      refine z_callI (rest := [.ref q14, .ref (P pane.toNatClampNeg)]) (k' := 4) (n' := 29) C (c_X2_init (z_l X) (z_G X) (z_up_s _ _ _) (z_rgN d10_0).1 (Nat.le_trans (z_r12 d10_0) (by decide))) (cs_X3_11 C (by decide)) rfl rfl (Nat.le_of_ble_eq_true rfl) rfl rfl (by decide) (by decide) dX3_fresh_19 (fun Mq19 hq => ?_)
      obtain ⟨qv, hqv, rfl⟩ := hq
      have hn9 : q14 ≠ qv := fun q => by rw [← q, z_up_s] at hqv; cases hqv
      rw [z_up_swap _ hn9, z_up_up]
      have hC2 := CI_new (n := lq.toNatClampNeg) hC hq14 (z_upq hqv) hn9 (fun j hj => s_row hok hj) (by have := hok.1; omega)
      refine z_callVv (rest := []) (k' := 4) (n' := 29) C (c_X1_showAll (z_l X) (z_G X) (by have h8 := CI_P hC2 hi; rw [s_fu_n _ _ (show p_ro (s_pn (s_new u lq.toNatClampNeg) pane.toNatClampNeg) ≠ s_nr u from by have := s_row hok hi; exact Nat.ne_of_lt this)] at h8; exact h8) (by have h8 := CI_RA hC2 (r := s_nr u) (Nat.lt_succ_self _); rw [s_fu_s, s_fu_s] at h8; exact h8) (by have h8 := CI_VA hC2 (r := s_nr u) (Nat.lt_succ_self _); rw [s_fu_s] at h8; exact h8)) (cs_X3_57 C (by decide)) (by have h8 := CI_P hC2 hi; rw [s_fu_n _ _ (show p_ro (s_pn (s_new u lq.toNatClampNeg) pane.toNatClampNeg) ≠ s_nr u from by have := s_row hok hi; exact Nat.ne_of_lt this)] at h8; exact h8) rfl rfl rfl rfl (Nat.le_of_ble_eq_true rfl) rfl rfl (by decide) (by decide) dX3_fresh_22 (fun M' hq => ?_)
      obtain rfl := hq
      refine z_aload_n C dX3_fresh_25 rfl 1 rfl ?_
      refine z_aload_n C dX3_fresh_26 rfl 0 rfl ?_
      refine gf_X3_63 C (z_up_s _ _ _) dX3_fresh_27 ?_
      refine z_callVi (rest := []) (k' := 4) (n' := 29) C (c_X3_done (z_l X) (z_G X) ((z_up_n _ _ (z_ne (by have h8 := hC2.1; rw [s_fu_n _ _ (show 0 ≠ s_nr u by have := hok.1; omega)] at h8; exact h8) (by have h8 := CI_P hC2 hi; rw [s_fu_n _ _ (show p_ro (s_pn (s_new u lq.toNatClampNeg) pane.toNatClampNeg) ≠ s_nr u from by have := s_row hok hi; exact Nat.ne_of_lt this)] at h8; exact h8) (by intro h; cases h))).trans (by have h8 := hC2.1; rw [s_fu_n _ _ (show 0 ≠ s_nr u by have := hok.1; omega)] at h8; exact h8))) (cs_X3_66 C (by decide)) ((z_up_n _ _ (z_ne (by have h8 := hC2.1; rw [s_fu_n _ _ (show 0 ≠ s_nr u by have := hok.1; omega)] at h8; exact h8) (by have h8 := CI_P hC2 hi; rw [s_fu_n _ _ (show p_ro (s_pn (s_new u lq.toNatClampNeg) pane.toNatClampNeg) ≠ s_nr u from by have := s_row hok hi; exact Nat.ne_of_lt this)] at h8; exact h8) (by intro h; cases h))).trans (by have h8 := hC2.1; rw [s_fu_n _ _ (show 0 ≠ s_nr u by have := hok.1; omega)] at h8; exact h8)) rfl rfl rfl rfl (Nat.le_of_ble_eq_true rfl) rfl rfl (by decide) (by decide) dX3_fresh_30 (fun x30 M' hq => ?_)
      obtain ⟨rfl, rfl⟩ := hq
      refine ret dX3_fresh_33 rfl ?_ (by decide) (by decide)
      rw [show Int32.ofNat (s_ln (s_new u lq.toNatClampNeg) (s_nr u)) = lq from by rw [show s_ln (s_new u lq.toNatClampNeg) (s_nr u) = lq.toNatClampNeg from if_pos rfl]; exact (z_rgN d10_0).1.symm]
      have h7 := CI_pn hC2 hi ((s_nr u, 0, lq, 0, lq, -1, 0) : sP)
      rw [show p_ro ((s_nr u, 0, lq, 0, lq, -1, 0) : sP) = s_nr u from rfl, s_fu_s] at h7
      have h8 := CI_ak h7 (s_ac u + 1) (s_kn u)
      rw [s_fu_n _ _ (show 0 ≠ s_nr u by have := hok.1; omega)] at h8
      exact CP_ok (v := s_act (s_up (s_new u lq.toNatClampNeg) pane.toNatClampNeg ((s_nr u, 0, lq, 0, lq, -1, 0) : sP))) rfl (z_lt3 h_ok (z_is11 d10_0)) h8
theorem a_X3_fresh (l : Launch) (h_st : l.stackTraces = false) {G : zG} {u : sS} {x : Nat} {P RA VA : Nat → Nat} {pa sp ln rf sb : Nat} {Mw : zM} (hC : CI G u x P RA VA pa sp ln rf sb Mw) {t : Nat} (hok : s_ok t u) (pane lq : Int32) : z_Xi l G qX3_fresh (z_rm 12 8 48) [.ref x, .int pane, .int lq] Mw (CP G x pa sp ln rf sb (z_lt (z_is pane 0 5) (z_is lq 0 12)) (s_fresh u pane.toNatClampNeg lq)) (CX G x pa sp ln rf sb (z_lt (z_is pane 0 5) (z_is lq 0 12)) u) := by
  obtain ⟨fp, hpa, hfp⟩ := CI_pa hC
  rcases z_pc pane with ⟨h_ok, h_ip, hi⟩ | ⟨h_bad, h_nip⟩
  · exact g_X3_fresh l h_st hC hok h_ok h_ip hi
  · refine z_Xi_mono (c_X3_fresh_bad l G h_st hC.1 hpa h_nip) (fun r M' h => h.elim) ?_
    rintro E M' (⟨x0_0, rfl, rfl⟩ | ⟨x1_0, rfl, rfl⟩)
    · exact CX_1 (k_1 h_bad) hC
    · exact CX_1 (k_1 h_bad) hC
