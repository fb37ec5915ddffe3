/-! PART 44a: String.equals of two made Strings with the same letters -/
section ISS
variable {X : zX} {cc : ByteArray} {own : String} {nL : Nat} {rm : Room} {M : zM} {k n pc : Nat} {lv : List (Nat × Value)} {st : List Value}
theorem z_instSt (C : z_C X cc own nL rm) {a ci index : Nat} {fs : List Value} {r : vw_C} (hlk : Cond.classLink own index "java/lang/String" ∈ gw) (hM : M a = some (.inr (ci, fs))) (hc : vwCl[ci]? = some r) (hr : r.1 = "java/lang/String") (d : decode cc pc = .ok (.instanceof index, 3)) (kk : z_W X M k n (pc + 3) lv (.int 1 :: st)) : z_W X M k n pc lv (.ref a :: st) :=
  fun H locs ls h1 h2 h3 h4 => va_instE C.1 C.2.1 C.2.2.2.1 (z_tow C hlk) (by rw [← hr]; exact z_recv C h1 hM hc) d (kk H locs ls h1 h2 h3 h4)
theorem z_castSt (C : z_C X cc own nL rm) {a ci index : Nat} {fs : List Value} {r : vw_C} (hlk : Cond.classLink own index "java/lang/String" ∈ gw) (hM : M a = some (.inr (ci, fs))) (hc : vwCl[ci]? = some r) (hr : r.1 = "java/lang/String") (d : decode cc pc = .ok (.checkcast index, 3)) (kk : z_W X M k n (pc + 3) lv (.ref a :: st)) : z_W X M k n pc lv (.ref a :: st) :=
  fun H locs ls h1 h2 h3 h4 => va_castE C.1 C.2.1 C.2.2.2.1 (z_tow C hlk) (by rw [← hr]; exact z_recv C h1 hM hc) d (kk H locs ls h1 h2 h3 h4)
end ISS
theorem dJ1_equals_b5fdf_0 : decode cJ1_equals_b5fdf 0 = .ok (.aload_n 0, 1) := by decide +kernel
theorem dJ1_equals_b5fdf_1 : decode cJ1_equals_b5fdf 1 = .ok (.arraylength, 1) := by decide +kernel
theorem dJ1_equals_b5fdf_2 : decode cJ1_equals_b5fdf 2 = .ok (.aload_n 1, 1) := by decide +kernel
theorem dJ1_equals_b5fdf_3 : decode cJ1_equals_b5fdf 3 = .ok (.arraylength, 1) := by decide +kernel
theorem dJ1_equals_b5fdf_4 : decode cJ1_equals_b5fdf 4 = .ok (.if_icmp .ne 30, 3) := by decide +kernel
theorem dJ1_equals_b5fdf_7 : decode cJ1_equals_b5fdf 7 = .ok (.iconst 0, 1) := by decide +kernel
theorem dJ1_equals_b5fdf_8 : decode cJ1_equals_b5fdf 8 = .ok (.istore_n 2, 1) := by decide +kernel
theorem dJ1_equals_b5fdf_9 : decode cJ1_equals_b5fdf 9 = .ok (.iload_n 2, 1) := by decide +kernel
theorem dJ1_equals_b5fdf_10 : decode cJ1_equals_b5fdf 10 = .ok (.aload_n 0, 1) := by decide +kernel
theorem dJ1_equals_b5fdf_11 : decode cJ1_equals_b5fdf 11 = .ok (.arraylength, 1) := by decide +kernel
theorem dJ1_equals_b5fdf_12 : decode cJ1_equals_b5fdf 12 = .ok (.if_icmp .ge 20, 3) := by decide +kernel
theorem dJ1_equals_b5fdf_15 : decode cJ1_equals_b5fdf 15 = .ok (.aload_n 0, 1) := by decide +kernel
theorem dJ1_equals_b5fdf_16 : decode cJ1_equals_b5fdf 16 = .ok (.iload_n 2, 1) := by decide +kernel
theorem dJ1_equals_b5fdf_17 : decode cJ1_equals_b5fdf 17 = .ok (.baload, 1) := by decide +kernel
theorem dJ1_equals_b5fdf_18 : decode cJ1_equals_b5fdf 18 = .ok (.aload_n 1, 1) := by decide +kernel
theorem dJ1_equals_b5fdf_19 : decode cJ1_equals_b5fdf 19 = .ok (.iload_n 2, 1) := by decide +kernel
theorem dJ1_equals_b5fdf_20 : decode cJ1_equals_b5fdf 20 = .ok (.baload, 1) := by decide +kernel
theorem dJ1_equals_b5fdf_21 : decode cJ1_equals_b5fdf 21 = .ok (.if_icmp .eq 5, 3) := by decide +kernel
theorem dJ1_equals_b5fdf_26 : decode cJ1_equals_b5fdf 26 = .ok (.iinc 2 1, 3) := by decide +kernel
theorem dJ1_equals_b5fdf_29 : decode cJ1_equals_b5fdf 29 = .ok (.goto (-20), 3) := by decide +kernel
theorem dJ1_equals_b5fdf_32 : decode cJ1_equals_b5fdf 32 = .ok (.iconst 1, 1) := by decide +kernel
theorem dJ1_equals_b5fdf_33 : decode cJ1_equals_b5fdf 33 = .ok (.ireturn, 1) := by decide +kernel
theorem dJ0_equals_9ea2d_0 : decode cJ0_equals_9ea2d 0 = .ok (.aload_n 0, 1) := by decide +kernel
theorem dJ0_equals_9ea2d_1 : decode cJ0_equals_9ea2d 1 = .ok (.aload_n 1, 1) := by decide +kernel
theorem dJ0_equals_9ea2d_2 : decode cJ0_equals_9ea2d 2 = .ok (.if_acmp .ne 5, 3) := by decide +kernel
theorem dJ0_equals_9ea2d_5 : decode cJ0_equals_9ea2d 5 = .ok (.iconst 1, 1) := by decide +kernel
theorem dJ0_equals_9ea2d_6 : decode cJ0_equals_9ea2d 6 = .ok (.ireturn, 1) := by decide +kernel
theorem dJ0_equals_9ea2d_7 : decode cJ0_equals_9ea2d 7 = .ok (.aload_n 1, 1) := by decide +kernel
theorem dJ0_equals_9ea2d_8 : decode cJ0_equals_9ea2d 8 = .ok (.instanceof 10, 3) := by decide +kernel
theorem dJ0_equals_9ea2d_11 : decode cJ0_equals_9ea2d 11 = .ok (.ifCond .eq 43, 3) := by decide +kernel
theorem dJ0_equals_9ea2d_14 : decode cJ0_equals_9ea2d 14 = .ok (.aload_n 1, 1) := by decide +kernel
theorem dJ0_equals_9ea2d_15 : decode cJ0_equals_9ea2d 15 = .ok (.checkcast 10, 3) := by decide +kernel
theorem dJ0_equals_9ea2d_18 : decode cJ0_equals_9ea2d 18 = .ok (.astore_n 2, 1) := by decide +kernel
theorem dJ0_equals_9ea2d_19 : decode cJ0_equals_9ea2d 19 = .ok (.getstatic 38, 3) := by decide +kernel
theorem dJ0_equals_9ea2d_22 : decode cJ0_equals_9ea2d 22 = .ok (.ifCond .eq 14, 3) := by decide +kernel
theorem dJ0_equals_9ea2d_25 : decode cJ0_equals_9ea2d 25 = .ok (.aload_n 0, 1) := by decide +kernel
theorem dJ0_equals_9ea2d_26 : decode cJ0_equals_9ea2d 26 = .ok (.getfield 15, 3) := by decide +kernel
theorem dJ0_equals_9ea2d_29 : decode cJ0_equals_9ea2d 29 = .ok (.aload_n 2, 1) := by decide +kernel
theorem dJ0_equals_9ea2d_30 : decode cJ0_equals_9ea2d 30 = .ok (.getfield 15, 3) := by decide +kernel
theorem dJ0_equals_9ea2d_33 : decode cJ0_equals_9ea2d 33 = .ok (.if_icmp .ne 21, 3) := by decide +kernel
theorem dJ0_equals_9ea2d_36 : decode cJ0_equals_9ea2d 36 = .ok (.aload_n 0, 1) := by decide +kernel
theorem dJ0_equals_9ea2d_37 : decode cJ0_equals_9ea2d 37 = .ok (.getfield 9, 3) := by decide +kernel
theorem dJ0_equals_9ea2d_40 : decode cJ0_equals_9ea2d 40 = .ok (.aload_n 2, 1) := by decide +kernel
theorem dJ0_equals_9ea2d_41 : decode cJ0_equals_9ea2d 41 = .ok (.getfield 9, 3) := by decide +kernel
theorem dJ0_equals_9ea2d_44 : decode cJ0_equals_9ea2d 44 = .ok (.invokestatic 541, 3) := by decide +kernel
theorem dJ0_equals_9ea2d_47 : decode cJ0_equals_9ea2d 47 = .ok (.ifCond .eq 7, 3) := by decide +kernel
theorem dJ0_equals_9ea2d_50 : decode cJ0_equals_9ea2d 50 = .ok (.iconst 1, 1) := by decide +kernel
theorem dJ0_equals_9ea2d_51 : decode cJ0_equals_9ea2d 51 = .ok (.goto 4, 3) := by decide +kernel
theorem dJ0_equals_9ea2d_55 : decode cJ0_equals_9ea2d 55 = .ok (.ireturn, 1) := by decide +kernel
set_option maxRecDepth 20000 in
theorem lp_J1_eq {X : zX} (C : z_C X cJ1_equals_b5fdf RJ1 3 (z_rm 2 0 0)) {Mw : zM} {vb vc n : Nat} {f f2 : Nat → Int32} (hvb : Mw vb = some (aB (z_G X) n f)) (hvc : Mw vc = some (aB (z_G X) n f2)) (hn : n ≤ 65536) (hfe : ∀ k, k < n → f k = f2 k) (kk : z_W X Mw 0 0 32 [] []) : ∀ (d jx : Nat), jx + d = n → z_W X Mw 0 0 9 [(2, .int (nI jx)), (0, .ref vb), (1, .ref vc)] [] := by
  intro d
  induction d with
  | zero =>
    intro jx hd
    refine z_iload_n C dJ1_equals_b5fdf_9 rfl 0 rfl ?_
    refine z_aload_n C dJ1_equals_b5fdf_10 rfl 1 rfl ?_
    refine z_alenB C (v := nI n) hvb rfl dJ1_equals_b5fdf_11 ?_
    refine z_icmp_ge C (tgt := 32) dJ1_equals_b5fdf_12 (by decide) (fun _ => ?_) (fun c12 => absurd (nI_le (by omega) (by omega)) c12)
    refine z_fewer [] rfl ?_
    exact kk
  | succ d ih =>
    intro jx hd
    refine z_iload_n C dJ1_equals_b5fdf_9 rfl 0 rfl ?_
    refine z_aload_n C dJ1_equals_b5fdf_10 rfl 1 rfl ?_
    refine z_alenB C (v := nI n) hvb rfl dJ1_equals_b5fdf_11 ?_
    refine z_icmp_ge C (tgt := 32) dJ1_equals_b5fdf_12 (by decide) (fun c12 => absurd c12 (nI_ge (by omega) (by omega))) (fun _ => ?_)
    refine z_aload_n C dJ1_equals_b5fdf_15 rfl 1 rfl ?_
    refine z_iload_n C dJ1_equals_b5fdf_16 rfl 0 rfl ?_
    refine z_bald (j := jx) C hvb (nI_in (by omega) (by omega)) (nI_clamp (by omega)) dJ1_equals_b5fdf_17 ?_
    refine z_aload_n C dJ1_equals_b5fdf_18 rfl 2 rfl ?_
    refine z_iload_n C dJ1_equals_b5fdf_19 rfl 0 rfl ?_
    refine z_bald (j := jx) C hvc (nI_in (by omega) (by omega)) (nI_clamp (by omega)) dJ1_equals_b5fdf_20 ?_
    refine z_icmp_eq C (tgt := 26) dJ1_equals_b5fdf_21 (by decide) (fun _ => ?_) (fun c21 => absurd (hfe jx (by omega)) c21)
    refine z_iinc (v := nI (jx + 1)) (lv' := [(2, .int (nI (jx + 1))), (0, .ref vb), (1, .ref vc)]) C dJ1_equals_b5fdf_26 0 rfl (nI_1 jx) (by decide) rfl ?_
    refine z_goto C (tgt := 9) dJ1_equals_b5fdf_29 (by decide) ?_
    refine z_fewer [0, 1, 2] rfl ?_
    exact ih (jx + 1) (by omega)
set_option maxRecDepth 20000 in
theorem a_J1_equals_b5fdf (l : Launch) {G : zG} {Mw : zM} {vb vc n : Nat} {f f2 : Nat → Int32} (hvb : Mw vb = some (aB G n f)) (hvc : Mw vc = some (aB G n f2)) (hn : n ≤ 65536) (hfe : ∀ k, k < n → f k = f2 k) : z_Mi l G qJ1_equals_b5fdf (z_rm 2 0 0) [.ref vb, .ref vc] Mw (fun r Mz => r = 1 ∧ Mz = Mw)  := by
  refine z_Mi_of _ (by decide +kernel) rfl (Nat.le_of_ble_eq_true rfl) (fun X hl hG hnm C ret => ?_)
  subst hl; subst hG
  have C : z_C X cJ1_equals_b5fdf RJ1 3 (z_rm 2 0 0) := C
  show z_W X Mw 0 0 0 [(0, .ref vb), (1, .ref vc)] []
  refine z_aload_n C dJ1_equals_b5fdf_0 rfl 0 rfl ?_
  refine z_alenB C (v := nI n) hvb rfl dJ1_equals_b5fdf_1 ?_
  refine z_aload_n C dJ1_equals_b5fdf_2 rfl 1 rfl ?_
  refine z_alenB C (v := nI n) hvc rfl dJ1_equals_b5fdf_3 ?_
  refine z_icmp_ne C (tgt := 34) dJ1_equals_b5fdf_4 (by decide) (fun c4 => absurd rfl c4) (fun _ => ?_)
  refine z_iconst C (v := 0) dJ1_equals_b5fdf_7 (by decide) ?_
  refine z_istore_n (lv' := [(2, .int 0), (0, .ref vb), (1, .ref vc)]) C dJ1_equals_b5fdf_8 rfl (by decide) rfl ?_
  refine z_fewer [0, 1, 2] rfl ?_
  refine z_at (M' := _) (lv' := [(2, .int (nI 0)), (0, .ref vb), (1, .ref vc)]) rfl (by rw [nI_0]; rfl) rfl ?_
  refine lp_J1_eq C hvb hvc hn hfe ?_ n 0 (Nat.zero_add _)
  refine z_iconst C (v := 1) dJ1_equals_b5fdf_32 (by decide) ?_
  refine ret dJ1_equals_b5fdf_33 rfl ?_ (by decide) (by decide)
  exact ⟨rfl, rfl⟩
set_option maxRecDepth 20000 in
theorem a_J0_equals_9ea2d (l : Launch) {G : zG} {Mw : zM} {sx sy : Nat} {vb vc n : Nat} {f f2 : Nat → Int32} (hsx : Mw sx = some (cSt vb 0 0 0)) (hsy : Mw sy = some (cSt vc 0 0 0)) (hvb : Mw vb = some (aB G n f)) (hvc : Mw vc = some (aB G n f2)) (hn : n ≤ 65536) (hfe : ∀ k, k < n → f k = f2 k) : z_Mi l G qJ0_equals_9ea2d (z_rm 3 0 0) [.ref sx, .ref sy] Mw (fun r Mz => r = 1 ∧ Mz = Mw)  := by
  refine z_Mi_of _ (by decide +kernel) rfl (Nat.le_of_ble_eq_true rfl) (fun X hl hG hnm C ret => ?_)
  subst hl; subst hG
  have C : z_C X cJ0_equals_9ea2d RJ0 3 (z_rm 3 0 0) := C
  show z_W X Mw 0 0 0 [(0, .ref sx), (1, .ref sy)] []
  refine z_aload_n C dJ0_equals_9ea2d_0 rfl 0 rfl ?_
  refine z_aload_n C dJ0_equals_9ea2d_1 rfl 1 rfl ?_
  refine z_acmp_ne (rx := some sx) (ry := some sy) C (tgt := 7) dJ0_equals_9ea2d_2 (by decide) (fun c2 => ?_) (fun c2 => ?_)
  · refine z_aload_n C dJ0_equals_9ea2d_7 rfl 1 rfl ?_
    refine z_instSt C kw1376 hsy rfl rfl dJ0_equals_9ea2d_8 ?_
    refine z_if_eq C (tgt := 54) dJ0_equals_9ea2d_11 (by decide) (fun c11 => absurd c11 (by decide)) (fun _ => ?_)
    refine z_aload_n C dJ0_equals_9ea2d_14 rfl 1 rfl ?_
    refine z_castSt C kw1376 hsy rfl rfl dJ0_equals_9ea2d_15 ?_
    refine z_astore_n (lv' := [(2, .ref sy), (0, .ref sx), (1, .ref sy)]) C dJ0_equals_9ea2d_18 rfl (by decide) rfl ?_
    refine z_gsZ C kw275 dJ0_equals_9ea2d_19 ?_
    refine z_if_eq C (tgt := 36) dJ0_equals_9ea2d_22 (by decide) (fun c22 => absurd c22 (by decide)) (fun _ => ?_)
    refine z_aload_n C dJ0_equals_9ea2d_25 rfl 1 rfl ?_
    refine gf_J0_15 C hsx dJ0_equals_9ea2d_26 ?_
    refine z_aload_n C dJ0_equals_9ea2d_29 rfl 0 rfl ?_
    refine gf_J0_15 C hsy dJ0_equals_9ea2d_30 ?_
    refine z_icmp_ne C (tgt := 54) dJ0_equals_9ea2d_33 (by decide) (fun c33 => absurd (by decide) c33) (fun _ => ?_)
    refine z_aload_n C dJ0_equals_9ea2d_36 rfl 1 rfl ?_
    refine gf_J0_9 C hsx dJ0_equals_9ea2d_37 ?_
    refine z_aload_n C dJ0_equals_9ea2d_40 rfl 0 rfl ?_
    refine gf_J0_9 C hsy dJ0_equals_9ea2d_41 ?_
    refine z_callSi (rest := []) (k' := 0) (n' := 0) C (a_J1_equals_b5fdf (z_l X) hvb hvc hn hfe) (cs_J0_541 C (by decide)) rfl rfl (Nat.le_of_ble_eq_true rfl) rfl rfl (by decide) (by decide) dJ0_equals_9ea2d_44 (fun x44 Mq44 hq => ?_)
    obtain ⟨e44, rfl⟩ := hq
    rw [e44]
    refine z_if_eq C (tgt := 54) dJ0_equals_9ea2d_47 (by decide) (fun c47 => absurd c47 (by decide)) (fun _ => ?_)
    refine z_iconst C (v := 1) dJ0_equals_9ea2d_50 (by decide) ?_
    refine z_goto C (tgt := 55) dJ0_equals_9ea2d_51 (by decide) ?_
    refine ret dJ0_equals_9ea2d_55 rfl ?_ (by decide) (by decide)
    exact ⟨rfl, rfl⟩
  · refine z_iconst C (v := 1) dJ0_equals_9ea2d_5 (by decide) ?_
    refine ret dJ0_equals_9ea2d_6 rfl ?_ (by decide) (by decide)
    exact ⟨rfl, rfl⟩
