/-! PART 72: what is known at the law's start -/
theorem lt_1 {i : Nat} {w : Cond} (h : tables_1_1[i]? = some w) : w ∈ lw_tbl := List.mem_append_right _ (List.mem_append_left _ (List.mem_of_getElem? h))
theorem lt_2 {i : Nat} {w : Cond} (h : tables_1_2[i]? = some w) : w ∈ lw_tbl := List.mem_append_right _ (List.mem_append_right _ (List.mem_append_left _ (List.mem_of_getElem? h)))
theorem lt_3 {i : Nat} {w : Cond} (h : tables_1_3[i]? = some w) : w ∈ lw_tbl := List.mem_append_right _ (List.mem_append_right _ (List.mem_append_right _ (List.mem_append_left _ (List.mem_of_getElem? h))))
theorem lt_4 {i : Nat} {w : Cond} (h : tables_1_4[i]? = some w) : w ∈ lw_tbl := List.mem_append_right _ (List.mem_append_right _ (List.mem_append_right _ (List.mem_append_right _ (List.mem_append_left _ (List.mem_of_getElem? h)))))
theorem lt_5 {i : Nat} {w : Cond} (h : tables_1_5[i]? = some w) : w ∈ lw_tbl := List.mem_append_right _ (List.mem_append_right _ (List.mem_append_right _ (List.mem_append_right _ (List.mem_append_right _ (List.mem_append_left _ (List.mem_of_getElem? h))))))
theorem lt_6 {i : Nat} {w : Cond} (h : tables_1_6[i]? = some w) : w ∈ lw_tbl := List.mem_append_right _ (List.mem_append_right _ (List.mem_append_right _ (List.mem_append_right _ (List.mem_append_right _ (List.mem_append_right _ (List.mem_of_getElem? h))))))
theorem fl_ones : ∀ j : Nat, j < 100 → (flatC (.and given_1 narrow_1))[12 + j]? = some (Cond.eq (.elem (.static "java/lang/Integer" "DigitOnes" "[B") (.int (Int32.ofNat j))) (.int (nI (48 + j % 10)))) := by decide +kernel
theorem fl_tens : ∀ j : Nat, j < 100 → (flatC (.and given_1 narrow_1))[115 + j]? = some (Cond.eq (.elem (.static "java/lang/Integer" "DigitTens" "[B") (.int (Int32.ofNat j))) (.int (nI (48 + j / 10)))) := by decide +kernel
abbrev st_tm (i : Nat) : Term := .string RX5 (z_sK i).1
theorem fl_ex : ∀ i : Nat, i < 5 → Cond.exactly (st_tm i) "java/lang/String" ∈ (flatC (.and given_1 narrow_1)) := by decide +kernel
theorem fl_co : ∀ i : Nat, i < 5 → Cond.eq (.field (st_tm i) "java/lang/String" "coder" "B") (.int 0) ∈ (flatC (.and given_1 narrow_1)) := by decide +kernel
theorem fl_ar : ∀ i : Nat, i < 5 → Cond.arrayOf (.field (st_tm i) "java/lang/String" "value" "[B") .byte ∈ (flatC (.and given_1 narrow_1)) := by decide +kernel
theorem fl_le : ∀ i : Nat, i < 5 → Cond.eq (.length (.field (st_tm i) "java/lang/String" "value" "[B")) (.int (Int32.ofNat ([0, 1, 1, 1, 1].getD i 0))) ∈ (flatC (.and given_1 narrow_1)) := by decide +kernel
theorem fl_el : ∀ i : Nat, i < 5 → ∀ j : Nat, j < [0, 1, 1, 1, 1].getD i 0 → Cond.eq (.elem (.field (st_tm i) "java/lang/String" "value" "[B") (.int (Int32.ofNat j))) (.int (([([] : List Int32), [32], [124], [62], [60]].getD i []).getD j 0)) ∈ (flatC (.and given_1 narrow_1)) := by decide +kernel
theorem fl_ne : ∀ i : Nat, i < 5 → ∀ j : Nat, j < 5 → i ≠ j → Cond.not (Cond.eq (st_tm i) (st_tm j)) ∈ (flatC (.and given_1 narrow_1)) ∨ Cond.not (Cond.eq (st_tm j) (st_tm i)) ∈ (flatC (.and given_1 narrow_1)) := by decide +kernel
theorem fl_sC : ∀ p ∈ z_sC, Cond.exactly (.string RX3 p.1) "java/lang/String" ∈ (flatC (.and given_1 narrow_1)) := by decide +kernel
theorem st_sK : ∀ i : Nat, i < 5 → Cond.stringRef RX5 (z_sK i).1 (z_sK i).2 ∈ lw_tbl := by
  intro i hi
  rcases (show i = 0 ∨ i = 1 ∨ i = 2 ∨ i = 3 ∨ i = 4 by omega) with rfl | rfl | rfl | rfl | rfl
  · exact (lt_6 (i := 56) rfl)
  · exact (lt_6 (i := 96) rfl)
  · exact (lt_6 (i := 102) rfl)
  · exact (lt_6 (i := 103) rfl)
  · exact (lt_6 (i := 104) rfl)
theorem st_sC : ∀ p ∈ z_sC, Cond.stringRef RX3 p.1 p.2 ∈ lw_tbl := by
  intro p hp
  simp only [z_sC, List.mem_cons, List.not_mem_nil, or_false] at hp
  rcases hp with rfl | rfl | rfl | rfl
  · exact (lt_3 (i := 232) rfl)
  · exact (lt_4 (i := 3) rfl)
  · exact (lt_4 (i := 141) rfl)
  · exact (lt_4 (i := 215) rfl)
theorem st_selP {s : State} {args : Array Value} {y y0 : MethodName} {C : String} {n : Nat} (hy : y.cls ≠ "java/lang/invoke/MethodHandle" ∧ y.cls ≠ "java/lang/invoke/VarHandle") (hins : (Cond.instantiable C n).before args s = true) (hpriv : (Cond.privateMethod y).before args s = true) (hinst : (Cond.instanceMethod y).before args s = true) (h0 : (Cond.selects C y0 y0).before args s = true) (hc0 : y0.cls = y.cls) : (Cond.selects C y y).before args s = true := by
  obtain ⟨c, k, hc, hk, -, -, -, -⟩ := Cond.instantiable_spec hins
  obtain ⟨mk, methM, hnamed, hmethM, -, -⟩ := Cond.instanceMethod_spec hinst
  have hfound : s.methodFound? y.cls y.name y.desc = some mk := State.methodFound?_of_named hnamed hy
  obtain ⟨c2, r2, m2, q1, q2, q3, q4, k2, q5, q6⟩ := Cond.selects_spec h0
  have hcls : mk.cls = m2.cls := Option.some.inj ((findClass_of_methodNamed hnamed).symm.trans (by rw [← hc0]; exact findClass_of_methodNamed q3))
  have hsel : selectMethod {} s.vm c mk = .method mk := selectMethod_private hmethM (Cond.privateMethod_at hpriv mk methM hnamed hmethM)
  simp only [Cond.before, Cond.holds, Cond.value, hc, hfound, hnamed, hsel, hcls, q5]
  simp
  exact q6
section ST9
variable {s : State} {b : Nat}
theorem st_inJ0 : ∀ w ∈ u_ws RJ0 TJ0 4, w ∈ lw_tbl := by decide +kernel
theorem st_inJ4 : ∀ w ∈ u_ws RJ4 TJ4 4, w ∈ lw_tbl := by decide +kernel
theorem st_inJx00060 : ∀ w ∈ u_ws RJx00060 TJx00060 6, w ∈ lw_tbl := by decide +kernel
theorem st_inJx7c733 : ∀ w ∈ u_ws RJx7c733 TJx7c733 6, w ∈ lw_tbl := by decide +kernel
theorem st_inX0 : ∀ w ∈ u_ws RX0 TX0 1, w ∈ lw_tbl := by decide +kernel
theorem st_inX1 : ∀ w ∈ u_ws RX1 TX1 7, w ∈ lw_tbl := by decide +kernel
theorem st_inX2 : ∀ w ∈ u_ws RX2 TX2 1, w ∈ lw_tbl := by decide +kernel
theorem st_inX3 : ∀ w ∈ u_ws RX3 TX3 7, w ∈ lw_tbl := by decide +kernel
theorem st_inX4 : ∀ w ∈ u_ws RX4 TX4 2, w ∈ lw_tbl := by decide +kernel
theorem st_inX5 : ∀ w ∈ u_ws RX5 TX5 7, w ∈ lw_tbl := by decide +kernel
theorem st_K (hts : ∀ w ∈ lw_tbl, w.before #[Value.ref b] s = true) : ∃ (D : va_G) (cB cI cP cQ : ClassId), va_K D vwCl [(cB, .byte), (cI, .int), (cP, .object RX1), (cQ, .array .int)] s := by
  obtain ⟨c0, i0, h0⟩ := u_known (C := RJ0) (T := TJ0) (N := 4) (n := 4) hts st_inJ0 (hts _ ((List.mem_filter.mp kw340).1))
  obtain ⟨c1, i1, h1⟩ := u_known (C := RJ4) (T := TJ4) (N := 4) (n := 4) hts st_inJ4 (hts _ ((List.mem_filter.mp kw96).1))
  obtain ⟨c2, i2, h2⟩ := u_known (C := RJx00060) (T := TJx00060) (N := 6) (n := 6) hts st_inJx00060 (hts _ ((List.mem_filter.mp kw492).1))
  obtain ⟨c3, i3, h3⟩ := u_known (C := RJx7c733) (T := TJx7c733) (N := 6) (n := 6) hts st_inJx7c733 (hts _ ((List.mem_filter.mp kw183).1))
  obtain ⟨c4, i4, h4⟩ := u_known (C := RX0) (T := TX0) (N := 1) (n := 1) hts st_inX0 (hts _ ((List.mem_filter.mp kw90).1))
  obtain ⟨c5, i5, h5⟩ := u_known (C := RX1) (T := TX1) (N := 7) (n := 7) hts st_inX1 (hts _ ((List.mem_filter.mp kw47).1))
  obtain ⟨c6, i6, h6⟩ := u_known (C := RX2) (T := TX2) (N := 1) (n := 1) hts st_inX2 (hts _ ((List.mem_filter.mp kw35).1))
  obtain ⟨c7, i7, h7⟩ := u_known (C := RX3) (T := TX3) (N := 7) (n := 7) hts st_inX3 (hts _ ((List.mem_filter.mp kw27).1))
  obtain ⟨c8, i8, h8⟩ := u_known (C := RX4) (T := TX4) (N := 2) (n := 2) hts st_inX4 (hts _ ((List.mem_filter.mp kw678).1))
  obtain ⟨c9, i9, h9⟩ := u_known (C := RX5) (T := TX5) (N := 7) (n := 7) hts st_inX5 (hts _ ((List.mem_filter.mp kw1036).1))
  obtain ⟨cB, kB, pB, b1, b2, b3⟩ := Cond.arrayClass_spec (hts _ ((List.mem_filter.mp kw127).1))
  obtain ⟨cI, kI, pI, d1, d2, d3⟩ := Cond.arrayClass_spec (hts _ ((List.mem_filter.mp kw44).1))
  obtain ⟨pP, cP, kP, e1, e2, e3, e4, e5⟩ := Cond.arrayOver_spec (hts _ ((List.mem_filter.mp kn46).1))
  obtain ⟨pQ, cQ, kQ, f1, f2, f3, f4, f5⟩ := arrayOverA_spec (hts _ ((List.mem_filter.mp kn1042).1))
  refine ⟨(fun k => [c0, c1, c2, c3, c4, c5, c6, c7, c8, c9].getD k c0, fun k => [i0, i1, i2, i3, i4, i5, i6, i7, i8, i9].getD k i0), cB, cI, cP, cQ, fun k q hq => ?_, fun k q hq => ?_⟩
  · match k, hq with
    | 0, hq => cases hq; exact h0
    | 1, hq => cases hq; exact h1
    | 2, hq => cases hq; exact h2
    | 3, hq => cases hq; exact h3
    | 4, hq => cases hq; exact h4
    | 5, hq => cases hq; exact h5
    | 6, hq => cases hq; exact h6
    | 7, hq => cases hq; exact h7
    | 8, hq => cases hq; exact h8
    | 9, hq => cases hq; exact h9
    | k + 10, hq => simp [vwCl] at hq
  · match k, hq with
    | 0, hq => cases hq; exact ⟨fun n z => ⟨fun k h => (by cases h), kB, b2, pB, b3⟩, b1⟩
    | 1, hq => cases hq; exact ⟨fun n z => ⟨fun k h => (by cases h), kI, d2, pI, d3⟩, d1⟩
    | 2, hq => cases hq; exact ⟨fun n z => ⟨fun k h => (by cases h), kP, e3, pP, e4⟩, kP, pP, e3, e4, e1, e5⟩
    | 3, hq => cases hq; exact ⟨fun n z => ⟨fun k h => (by cases h), kQ, f3, pQ, f4⟩, f5⟩
    | k + 4, hq => simp at hq
theorem st_N (hts : ∀ w ∈ lw_tbl, w.before #[Value.ref b] s = true) (hfl : ∀ w ∈ (flatC (.and given_1 narrow_1)), w.before #[Value.ref b] s = true) : z_N s := by
  refine ⟨fun a i b9 n d h hw => va_Nw.of rfl (hts _ (List.mem_filter.mp hw).1), fun a i x h hw => va_Nw.of rfl (hts _ (List.mem_filter.mp hw).1), fun x hw => va_Nw.of rfl (hts _ (List.mem_filter.mp hw).1), fun C T hw => va_Nw.of rfl (hts _ (List.mem_filter.mp hw).1), fun C hw => va_AO.of (hts _ (List.mem_filter.mp hw).1), fun t hw => hts _ (List.mem_filter.mp hw).1, fun y hy => ?_, va_Nc.of (hfl _ (List.mem_of_getElem? (i := 224) (by decide +kernel)))⟩
  simp only [z_pSB, List.mem_cons, List.not_mem_nil, or_false] at hy
  rcases hy with rfl | rfl | rfl | rfl
  · exact va_Nw.of rfl (st_selP (y := yJ5_ensureCapacityInternal_d00df) (y0 := ⟨"java/lang/AbstractStringBuilder", "isLatin1", "()Z"⟩) (n := 4) ⟨by decide, by decide⟩ (hts _ ((List.mem_filter.mp kw96).1)) (hts _ (lt_1 (i := 202) rfl)) (hts _ ((List.mem_filter.mp kw203).1)) (hts _ ((List.mem_filter.mp kw239).1)) rfl)
  · exact va_Nw.of rfl (st_selP (y := yJ5_newCapacity_0f7a4) (y0 := ⟨"java/lang/AbstractStringBuilder", "isLatin1", "()Z"⟩) (n := 4) ⟨by decide, by decide⟩ (hts _ ((List.mem_filter.mp kw96).1)) (hts _ (lt_1 (i := 206) rfl)) (hts _ ((List.mem_filter.mp kw207).1)) (hts _ ((List.mem_filter.mp kw239).1)) rfl)
  · exact va_Nw.of rfl (st_selP (y := yJ5_putStringAt_47b60) (y0 := ⟨"java/lang/AbstractStringBuilder", "isLatin1", "()Z"⟩) (n := 4) ⟨by decide, by decide⟩ (hts _ ((List.mem_filter.mp kw96).1)) (hts _ (lt_2 (i := 37) rfl)) (hts _ ((List.mem_filter.mp kw278).1)) (hts _ ((List.mem_filter.mp kw239).1)) rfl)
  · exact va_Nw.of rfl (st_selP (y := yJ5_inflateIfNeededFor_a7421) (y0 := ⟨"java/lang/AbstractStringBuilder", "isLatin1", "()Z"⟩) (n := 4) ⟨by decide, by decide⟩ (hts _ ((List.mem_filter.mp kw96).1)) (hts _ (lt_2 (i := 41) rfl)) (hts _ ((List.mem_filter.mp kw282).1)) (hts _ ((List.mem_filter.mp kw239).1)) rfl)
theorem st_J (hts : ∀ w ∈ lw_tbl, w.before #[Value.ref b] s = true) (hfl : ∀ w ∈ (flatC (.and given_1 narrow_1)), w.before #[Value.ref b] s = true) : ∃ G : zG, z_K G s ∧ z_J G (fun q => s.heap.size ≤ q) s s.heap := by
  have hA : ∀ a : Nat, a < s.heap.size → ¬ s.heap.size ≤ a := fun a h => Nat.not_le.mpr h
  obtain ⟨D, cB, cI, cP, cQ, hK⟩ := st_K hts
  obtain ⟨adK, adV, hS, hadK⟩ := vk_Sof (A := fun q => s.heap.size ≤ q) (N := 5) (tm := st_tm) (len := [0, 1, 1, 1, 1]) (byt := [[], [32], [124], [62], [60]]) (fun i hi => by rcases (show i = 0 ∨ i = 1 ∨ i = 2 ∨ i = 3 ∨ i = 4 by omega) with rfl | rfl | rfl | rfl | rfl <;> decide) (fun i hi => hfl _ (fl_ex i hi)) (fun i hi => hfl _ (fl_co i hi)) (fun i hi => hfl _ (fl_ar i hi)) (fun i hi => hfl _ (fl_le i hi)) (fun i hi j hj => hfl _ (fl_el i hi j hj)) (fun i j hi hj hij => (fl_ne i hi j hj hij).imp (hfl _) (hfl _)) hA
  refine ⟨(D, cB, cI, cP, cQ, adK, adV), hK, st_N hts hfl, ⟨⟨hS, fun i hi => vk_R.of (hts _ (st_sK i hi)) (hadK i hi)⟩, fun p hp => ?_⟩, ?_, ?_, ?_, ?_, ?_, ?_⟩
  · obtain ⟨q, c9, cA, kA, q1, -⟩ := Cond.exactly_spec (args := #[Value.ref b]) (first := s) (o := none) (s := s) (idx := []) (t := .string RX3 p.1) (cls := "java/lang/String") (hfl _ (fl_sC p hp))
    exact ⟨q, vk_R.of (hts _ (st_sC p hp)) q1⟩
  · exact va_Zof (hts _ (lt_1 (i := 105) rfl)) (hts _ ((List.mem_filter.mp kw7).1)) (va_eqi (hfl _ (List.mem_of_getElem? (i := 4) (by decide +kernel)))) hA
  · obtain ⟨t, ht, hT⟩ := va_Tof (tm := .static "java/lang/Integer" "DigitOnes" "[B") (ty := .byte) (N := 100) (f := z_d1) (A := fun q => s.heap.size ≤ q) (by decide) (hfl _ (List.mem_of_getElem? (i := 10) (by decide +kernel))) (va_eqt (hfl _ (List.mem_of_getElem? (i := 11) (by decide +kernel)))) (fun j hj => va_eqt (hfl _ (List.mem_of_getElem? (fl_ones j hj)))) hA
    exact ⟨t, va_Zref (hts _ (lt_2 (i := 84) rfl)) (hts _ ((List.mem_filter.mp kw23).1)) ht hA, hT⟩
  · obtain ⟨t, ht, hT⟩ := va_Tof (tm := .static "java/lang/Integer" "DigitTens" "[B") (ty := .byte) (N := 100) (f := z_d10) (A := fun q => s.heap.size ≤ q) (by decide) (hfl _ (List.mem_of_getElem? (i := 113) (by decide +kernel))) (va_eqt (hfl _ (List.mem_of_getElem? (i := 114) (by decide +kernel)))) (fun j hj => va_eqt (hfl _ (List.mem_of_getElem? (fl_tens j hj)))) hA
    exact ⟨t, va_Zref (hts _ (lt_2 (i := 86) rfl)) (hts _ ((List.mem_filter.mp kw23).1)) ht hA, hT⟩
  · exact va_Zqof (hts _ (lt_2 (i := 14) rfl)) (hts _ ((List.mem_filter.mp kw21).1)) (hfl _ (List.mem_of_getElem? (i := 5) (by decide +kernel))) hA
  · exact vx_Zqof (hts _ (lt_2 (i := 158) rfl)) (hts _ ((List.mem_filter.mp kw11).1)) (hfl _ (List.mem_of_getElem? (i := 215) (by decide +kernel))) hA
  · exact vx_Zqof (hts _ (lt_2 (i := 160) rfl)) (hts _ ((List.mem_filter.mp kw11).1)) (hfl _ (List.mem_of_getElem? (i := 216) (by decide +kernel))) hA
end ST9
/-! the world at the loop's first round -/
def z_00 : zM := fun _ => none
theorem z_un_0 (B : zM) : z_un z_00 B = B := by funext q; rfl
theorem z_un_00 (B : zM) : z_un B z_00 = B := by
  funext q
  cases hb : B q with
  | none => rw [z_un_n hb]; rfl
  | some e => rw [z_un_l hb]
theorem st_one (B : zM) (a : Nat) (e : va_E) : z_up B a e = z_un (z_up z_00 a e) B := by rw [← z_un_up, z_un_0]
theorem st_dj {B : zM} {a : Nat} {e : va_E} (h : B a = none) : z_dj (z_up z_00 a e) B := fun q f hq => by
  by_cases hqa : q = a
  · rw [hqa]; exact h
  · rw [z_up_n _ _ hqa] at hq; cases hq
theorem st_LX {G : zG} {x pa sp ln rf sb m pn td q : Nat} {u : sS} {C R : zM} (hC : s_CI G x pa sp ln rf sb u C) (hR : s_RI G m pn td 0 u R) (d : z_dj R C) (hq : z_un R C q = none) : s_LX G x pa sp ln rf sb m pn td q u u 0 0 (z_up (z_un R C) q (.inr (8, [.long 0, .null]))) := by
  have hr : R q = none := by
    cases h : R q with
    | none => rfl
    | some e => rw [z_un_l h] at hq; cases hq
  have hc : C q = none := by rw [← hq, z_un_n hr]
  refine ⟨C, R, z_up z_00 q (cOu 0 none), none, ?_, z_dj_un2 (z_dj_sym d) (z_dj_sym (st_dj hc)), z_dj_sym (st_dj hr), hC, hR, z_up_s _ _ _⟩
  rw [z_un_comm d, z_un_upr hc]
  congr 1
  rw [← z_un_upr hr, z_un_00]
  rfl
