/-! PART 54: the reference's digest: the state is kept (its number is not told) -/
section ZL
variable {l : Launch} {G : zG} {q : zY} {rm : Room} {av : List Value} {M : zM}
theorem z_Ml_of (post : Int64 → zM → Prop) (hy : plainFor q.1 = true) (hr : q.2.2.2 = some .long) (hargs : (lg_sl av).length ≤ q.2.2.1)
    (body : ∀ X : zX, z_l X = l → z_G X = G → (z_me X).name = q.1.name → z_C X q.2.1 q.1.cls q.2.2.1 rm → (∀ {M' : zM} {r : Int64} {k n pc : Nat} {lv : List (Nat × Value)}, decode q.2.1 pc = .ok (.lreturn, 1) → post r M' → k ≤ rm.cells → n ≤ rm.slots → z_W X M' k n pc lv [.long r]) → z_W X M 0 0 0 (lv_args 0 av) []) : z_Ml l G q rm av M post := by
  intro sz
  refine va_MetF (cc := q.2.1) (maxL := q.2.2.1) (ret := q.2.2.2) hy rfl ?_
  intro p e s m args below meth c s₁ B hml hv
  obtain ⟨rfl, hsz, hh, hK, hJ⟩ := hv
  subst hsz
  have hl := lv_entry av (n := q.2.2.1) hargs
  rw [lg_entry_eq]
  have hts : ∀ w ∈ gw, w.before av.toArray s = true := fun w h => atoms_spec (ws := z_ws q) B.pre w (List.mem_cons_of_mem _ h)
  exact body (p, l, e, rm, s, m, av.toArray, below, meth, c, MQ below (va_Ql post (z_E G M s.heap.size) (z_A M s.heap.size)) av.toArray s rm.cells rm.slots (z_A M s.heap.size), z_A M s.heap.size, G) rfl rfl (name_of_methodNamed B.named B.method).1
    ⟨B.exec, B.bytes, hml, findClass_of_methodNamed B.named, hts, hK, hJ, fun q h => Or.inr h, rfl⟩
    (fun d hp hk hs H locs ls h1 h2 h3 h4 => W.widen hk hs (W.lret B.exec B.bytes (B.returns.trans hr) (fun t ht hW => ⟨⟨_, _, rfl, hp, by rw [ht]; exact h1, h2⟩, h3.F ht⟩) h3.2.2 d B.notSynchronized))
    s.heap [] _ hh (fun a e h => Or.inl ⟨e, h⟩) va_S.rf (by rw [show (z_c (p, l, e, rm, s, m, av.toArray, below, meth, c, _, _, G)).maxLocals = q.2.2.1 from hml]; exact hl)
end ZL
section ZKL
variable {X : zX} {cc : ByteArray} {own : String} {nL : Nat} {rm : Room} {M : zM} {k n pc : Nat} {lv : List (Nat × Value)} {st rest : List Value} {q : zY} {rmc : Room} {index b ci N : Nat} {fs : List Value} {r : vw_C} {As : List Value}
theorem z_callSl {post : Int64 → zM → Prop} (C : z_C X cc own nL rm) (hM : z_Ml (z_l X) (z_G X) q rmc As M post) (cw : CallB (z_R X) (z_s X) (z_a X) own index q.1 q.2.1 q.2.2.1 q.2.2.2 (z_ws q) rmc rmc.cells rmc.slots N ∧ (Cond.static q.1).before (z_a X) (z_s X) = true) (hN : As.length = N) (hst : st = As.reverse ++ rest) (hcat : (rest.map fun v => v.category).sum ≤ 8) {k' n' : Nat} (ek : k + rmc.cells = k') (en : n + rmc.slots = n') (hk : k' ≤ rm.cells) (hn : n' ≤ rm.slots) (d : decode cc pc = .ok (.invokestatic index, 3))
    (kk : ∀ (x : Int64) (M' : zM), post x M' → z_W X M' k' n' (pc + 3) lv (.long x :: rest)) : z_W X M k n pc lv st := by
  subst hst; subst ek; subst en
  intro H locs ls h1 h2 h3 h4
  have hs := z_sub C h2 h3
  exact va_calll (va_runS ⟨C.1, C.2.1, rfl, C.2.2.2.1, C.2.2.2.2.1⟩ (hM H.size) cw ⟨z_blind, fun U hU hW => ⟨rfl, z_pre C h1 h2 h3 hU hW⟩⟩ rfl hN h4.1 rfl (lv_room hcat) d (by rw [C.2.2.2.2.2.2.2.2]; exact ⟨hk, hn⟩)) h3 (fun q _ h => hs q h) hs
    (fun x M' t H1 locs1 ht hvm hp hB hz hk1 hS => kk x M' hp H1 locs1 ls (by rw [← ht]; exact hB.1) (fun a e h => hs a (hB.2 a e h)) hS h4)
theorem z_callVl {post : Int64 → zM → Prop} (C : z_C X cc own nL rm) (hM : z_Ml (z_l X) (z_G X) q rmc (.ref b :: As) M post) (cw : CallW (z_R X) (z_s X) (z_a X) own q.1.cls index q.1 q.2.1 q.2.2.1 q.2.2.2 (z_ws q) rmc rmc.cells rmc.slots N) (hb : M b = some (.inr (ci, fs))) (hc : vwCl[ci]? = some r) (hr : r.1 = q.1.cls) (hN : As.length = N) (hst : st = As.reverse ++ .ref b :: rest) (hcat : (rest.map fun v => v.category).sum ≤ 8) {k' n' : Nat} (ek : k + rmc.cells = k') (en : n + rmc.slots = n') (hk : k' ≤ rm.cells) (hn : n' ≤ rm.slots) (d : decode cc pc = .ok (.invokevirtual index, 3))
    (kk : ∀ (x : Int64) (M' : zM), post x M' → z_W X M' k' n' (pc + 3) lv (.long x :: rest)) : z_W X M k n pc lv st := by
  subst hst; subst ek; subst en
  intro H locs ls h1 h2 h3 h4
  have hs := z_sub C h2 h3
  exact va_calll (va_runV ⟨C.1, C.2.1, rfl, C.2.2.2.1, C.2.2.2.2.1⟩ (hM H.size) cw ⟨z_blind, by rw [← hr]; exact z_recv C h1 hb hc, fun U hU hW => ⟨rfl, z_pre C h1 h2 h3 hU hW⟩⟩ rfl hN h4.1 rfl (lv_room hcat) d (by rw [C.2.2.2.2.2.2.2.2]; exact ⟨hk, hn⟩)) h3 (fun q _ h => hs q h) hs
    (fun x M' t H1 locs1 ht hvm hp hB hz hk1 hS => kk x M' hp H1 locs1 ls (by rw [← ht]; exact hB.1) (fun a e h => hs a (hB.2 a e h)) hS h4)
end ZKL
theorem RP_u {G : zG} {m pn td : Nat} {k v : Int32} {u : sS} {r : Int32} {Mz : zM} (h : RP G m pn td k u (v, u) r Mz) : ∃ K' tp', RI G u m k K' tp' pn td Mz := by
  obtain ⟨K', tp', h1, -⟩ := h
  refine ⟨K', tp', ?_⟩
  split at h1 <;> exact h1
theorem t_it_0 (g : Nat → Int64 → Int64) (d : Int64) : d = t_it g d 0 := rfl
theorem t_digest_eq (u : sS) {x4 : Int64} (h : x4 = t_it (t_ks u) (t_it (t_pn u) (t_it (t_gh u) 8017 9) 6) 6) : t_fl x4 (t_row u) * 31 + 1 = t_digest u := by
  rw [h, ← t_mix1]
  rfl
theorem t_digest_eq1 (u : sS) {x4 : Int64} (h : x4 = t_it (t_ks u) (t_it (t_pn u) (t_it (t_gh u) 8017 9) 6) 6) : t_fl x4 (t_row u) * 31 + (1 : Int32).toInt64 = t_digest u := by
  rw [h]
  rfl
theorem RP_v {G : zG} {m pn td : Nat} {k : Int32} {u : sS} {b : sR} {r : Int32} {Mz : zM} (h : RP G m pn td k u b r Mz) (hk : k = 0) : r = b.1 := by
  obtain ⟨K', tp', h1, h2⟩ := h
  exact h2 hk
theorem j_kp {p : Nat} (h : p < 6) : z_lt (z_is (nI p) 0 5) 1 = 0 := by
  rcases (show p = 0 ∨ p = 1 ∨ p = 2 ∨ p = 3 ∨ p = 4 ∨ p = 5 by omega) with rfl | rfl | rfl | rfl | rfl | rfl <;> decide
theorem dX5_add_0 : decode cX5_add 0 = .ok (.lload_n 0, 1) := by decide +kernel
theorem dX5_add_1 : decode cX5_add 1 = .ok (.ldc2_w 142, 3) := by decide +kernel
theorem dX5_add_4 : decode cX5_add 4 = .ok (.lmul, 1) := by decide +kernel
theorem dX5_add_5 : decode cX5_add 5 = .ok (.lload_n 2, 1) := by decide +kernel
theorem dX5_add_6 : decode cX5_add 6 = .ok (.ladd, 1) := by decide +kernel
theorem dX5_add_7 : decode cX5_add 7 = .ok (.lreturn, 1) := by decide +kernel
theorem dX5_addSigns_0 : decode cX5_addSigns 0 = .ok (.lload_n 0, 1) := by decide +kernel
theorem dX5_addSigns_1 : decode cX5_addSigns 1 = .ok (.lstore_n 3, 1) := by decide +kernel
theorem dX5_addSigns_2 : decode cX5_addSigns 2 = .ok (.iconst 0, 1) := by decide +kernel
theorem dX5_addSigns_3 : decode cX5_addSigns 3 = .ok (.istore 5, 2) := by decide +kernel
theorem dX5_addSigns_5 : decode cX5_addSigns 5 = .ok (.iload 5, 2) := by decide +kernel
theorem dX5_addSigns_7 : decode cX5_addSigns 7 = .ok (.aload_n 2, 1) := by decide +kernel
theorem dX5_addSigns_8 : decode cX5_addSigns 8 = .ok (.invokevirtual 144, 3) := by decide +kernel
theorem dX5_addSigns_11 : decode cX5_addSigns 11 = .ok (.if_icmp .ge 21, 3) := by decide +kernel
theorem dX5_addSigns_14 : decode cX5_addSigns 14 = .ok (.lload_n 3, 1) := by decide +kernel
theorem dX5_addSigns_15 : decode cX5_addSigns 15 = .ok (.aload_n 2, 1) := by decide +kernel
theorem dX5_addSigns_16 : decode cX5_addSigns 16 = .ok (.iload 5, 2) := by decide +kernel
theorem dX5_addSigns_18 : decode cX5_addSigns 18 = .ok (.invokevirtual 150, 3) := by decide +kernel
theorem dX5_addSigns_21 : decode cX5_addSigns 21 = .ok (.i2l, 1) := by decide +kernel
theorem dX5_addSigns_22 : decode cX5_addSigns 22 = .ok (.invokestatic 154, 3) := by decide +kernel
theorem dX5_addSigns_25 : decode cX5_addSigns 25 = .ok (.lstore_n 3, 1) := by decide +kernel
theorem dX5_addSigns_26 : decode cX5_addSigns 26 = .ok (.iinc 5 1, 3) := by decide +kernel
theorem dX5_addSigns_29 : decode cX5_addSigns 29 = .ok (.goto (-24), 3) := by decide +kernel
theorem dX5_addSigns_32 : decode cX5_addSigns 32 = .ok (.lload_n 3, 1) := by decide +kernel
theorem dX5_addSigns_33 : decode cX5_addSigns 33 = .ok (.lreturn, 1) := by decide +kernel
theorem dX5_digest_6 : decode cX5_digest 6 = .ok (.iload_n 3, 1) := by decide +kernel
theorem dX5_digest_7 : decode cX5_digest 7 = .ok (.bipush 9, 2) := by decide +kernel
theorem dX5_digest_9 : decode cX5_digest 9 = .ok (.if_icmp .ge 20, 3) := by decide +kernel
theorem dX5_digest_12 : decode cX5_digest 12 = .ok (.lload_n 1, 1) := by decide +kernel
theorem dX5_digest_13 : decode cX5_digest 13 = .ok (.aload_n 0, 1) := by decide +kernel
theorem dX5_digest_14 : decode cX5_digest 14 = .ok (.iload_n 3, 1) := by decide +kernel
theorem dX5_digest_15 : decode cX5_digest 15 = .ok (.invokevirtual 160, 3) := by decide +kernel
theorem dX5_digest_18 : decode cX5_digest 18 = .ok (.i2l, 1) := by decide +kernel
theorem dX5_digest_19 : decode cX5_digest 19 = .ok (.invokestatic 154, 3) := by decide +kernel
theorem dX5_digest_22 : decode cX5_digest 22 = .ok (.lstore_n 1, 1) := by decide +kernel
theorem dX5_digest_23 : decode cX5_digest 23 = .ok (.iinc 3 1, 3) := by decide +kernel
theorem dX5_digest_26 : decode cX5_digest 26 = .ok (.goto (-20), 3) := by decide +kernel
theorem dX5_digest_40 : decode cX5_digest 40 = .ok (.iload 4, 2) := by decide +kernel
theorem dX5_digest_42 : decode cX5_digest 42 = .ok (.bipush 10, 2) := by decide +kernel
theorem dX5_digest_44 : decode cX5_digest 44 = .ok (.if_icmp .ge 22, 3) := by decide +kernel
theorem dX5_digest_47 : decode cX5_digest 47 = .ok (.lload_n 1, 1) := by decide +kernel
theorem dX5_digest_48 : decode cX5_digest 48 = .ok (.aload_n 0, 1) := by decide +kernel
theorem dX5_digest_49 : decode cX5_digest 49 = .ok (.iload_n 3, 1) := by decide +kernel
theorem dX5_digest_50 : decode cX5_digest 50 = .ok (.iload 4, 2) := by decide +kernel
theorem dX5_digest_52 : decode cX5_digest 52 = .ok (.invokevirtual 163, 3) := by decide +kernel
theorem dX5_digest_55 : decode cX5_digest 55 = .ok (.i2l, 1) := by decide +kernel
theorem dX5_digest_56 : decode cX5_digest 56 = .ok (.invokestatic 154, 3) := by decide +kernel
theorem dX5_digest_59 : decode cX5_digest 59 = .ok (.lstore_n 1, 1) := by decide +kernel
theorem dX5_digest_60 : decode cX5_digest 60 = .ok (.iinc 4 1, 3) := by decide +kernel
theorem dX5_digest_63 : decode cX5_digest 63 = .ok (.goto (-23), 3) := by decide +kernel
set_option maxRecDepth 20000 in
theorem c_X5_add (l : Launch) (G : zG) {M : zM} {dq : Int64} {vq : Int64}    : z_Ml l G qX5_add (z_rm 1 0 0) [.long dq, .long vq] M (fun r M' => r = (dq * 31) + vq ∧ M' = M)  := by
  refine z_Ml_of _ (plainFor_of_name rfl) rfl (Nat.le_of_ble_eq_true rfl) (fun X hl hG hnm C ret => ?_)
  subst hl; subst hG
  have C : z_C X cX5_add RX5 4 (z_rm 1 0 0) := C
  show z_W X M 0 0 0 [(0, .long dq), (2, .long vq)] []
  refine z_lload_n C dX5_add_0 rfl 0 rfl ?_
  refine z_ldc2 C (v := 31) kw1346 dX5_add_1 ?_
  refine z_lmul C dX5_add_4 ?_
  refine z_lload_n C dX5_add_5 rfl 1 rfl ?_
  refine z_ladd C dX5_add_6 ?_
  exact ret dX5_add_7 (⟨rfl, rfl⟩) (by decide) (by decide)
set_option maxRecDepth 20000 in
theorem lp_X5_as {X : zX} (C : z_C X cX5_addSigns RX5 6 (z_rm 6 0 0)) {Mw : zM} {tx q9 cc : Nat} {f9 : Nat → Int32} (hs9 : Mw tx = some (cSt q9 0 0 0)) (hv9 : Mw q9 = some (aB (z_G X) cc f9)) (hcc : cc ≤ 280) {ls : List Int32} (hlen : ls.length = cc) (hls : ∀ k, k < cc → f9 k = ls.getD k 0) {d0 : Int64} (kk : ∀ dq, dq = t_fl d0 ls → z_W X Mw 0 0 32 [(3, .long dq)] []) : ∀ (d jx : Nat) (dq : Int64), jx + d = cc → dq = t_fl d0 (ls.take jx) → z_W X Mw 0 0 5 [(3, .long dq), (5, .int (nI jx)), (2, .ref tx)] [] := by
  intro d
  induction d with
  | zero =>
    intro jx dq hd hdq
    refine z_iload C dX5_addSigns_5 1 rfl ?_
    refine z_aload_n C dX5_addSigns_7 rfl 2 rfl ?_
    refine z_callVi (rest := [.int (nI jx)]) (k' := 0) (n' := 0) C (c_lenS (z_l X) (z_G X) hs9 hv9) (cs_X5_144 C (by decide)) hs9 rfl rfl rfl rfl (Nat.le_of_ble_eq_true rfl) rfl rfl (by decide) (by decide) dX5_addSigns_8 (fun x8 M' hq => ?_)
    obtain ⟨rfl, rfl⟩ := hq
    refine z_icmp_ge C (tgt := 32) dX5_addSigns_11 (by decide) (fun _ => ?_) (fun c11 => absurd (nI_le (by omega) (by omega)) c11)
    refine z_fewer [0] rfl ?_
    exact kk _ (by rw [hdq, show jx = cc by omega, ← hlen, List.take_length])
  | succ d ih =>
    intro jx dq hd hdq
    refine z_iload C dX5_addSigns_5 1 rfl ?_
    refine z_aload_n C dX5_addSigns_7 rfl 2 rfl ?_
    refine z_callVi (rest := [.int (nI jx)]) (k' := 0) (n' := 0) C (c_lenS (z_l X) (z_G X) hs9 hv9) (cs_X5_144 C (by decide)) hs9 rfl rfl rfl rfl (Nat.le_of_ble_eq_true rfl) rfl rfl (by decide) (by decide) dX5_addSigns_8 (fun x8 M' hq => ?_)
    obtain ⟨rfl, rfl⟩ := hq
    refine z_icmp_ge C (tgt := 32) dX5_addSigns_11 (by decide) (fun c11 => absurd c11 (nI_ge (by omega) (by omega))) (fun _ => ?_)
    refine z_lload_n C dX5_addSigns_14 rfl 0 rfl ?_
    refine z_aload_n C dX5_addSigns_15 rfl 2 rfl ?_
    refine z_iload C dX5_addSigns_16 1 rfl ?_
    refine z_callVi (rest := [.long dq]) (k' := 0) (n' := 0) C (c_J0_charAt_5068e (z_l X) (z_G X) hs9 hv9 (by omega) (by omega)) (cs_X5_150 C (by decide)) hs9 rfl rfl rfl rfl (Nat.le_of_ble_eq_true rfl) rfl rfl (by decide) (by decide) dX5_addSigns_18 (fun x18 M' hq => ?_)
    obtain ⟨rfl, rfl⟩ := hq
    refine z_i2l C dX5_addSigns_21 ?_
    refine z_callSl (rest := []) (k' := 0) (n' := 0) C (c_X5_add (z_l X) (z_G X) ) (cs_X5_154 C (by decide)) rfl rfl (Nat.le_of_ble_eq_true rfl) rfl rfl (by decide) (by decide) dX5_addSigns_22 (fun x22 M' hq => ?_)
    obtain ⟨rfl, rfl⟩ := hq
    refine z_lstore_n (lv' := [(3, .long ((dq * 31) + (((((f9 jx) &&& 255).toUInt32 % 65536).toInt32).toInt64))), (5, .int (nI jx)), (2, .ref tx)]) C dX5_addSigns_25 rfl (by decide) rfl ?_
    refine z_iinc (v := nI (jx + 1)) (lv' := [(5, .int (nI (jx + 1))), (3, .long ((dq * 31) + (((((f9 jx) &&& 255).toUInt32 % 65536).toInt32).toInt64))), (2, .ref tx)]) C dX5_addSigns_26 1 rfl (nI_1 jx) (by decide) rfl ?_
    refine z_goto C (tgt := 5) dX5_addSigns_29 (by decide) ?_
    refine z_fewer [1, 0, 2] rfl ?_
    exact ih (jx + 1) _ (by omega) (by rw [hdq]; exact t_fl_s (by omega) (hls jx (by omega)))
set_option maxRecDepth 20000 in
theorem a_X5_addSigns (l : Launch) {G : zG} {Mw : zM} {dq : Int64} {tx : Nat} {ls : List Int32} (hSt : j_St G tx Mw ls) : z_Ml l G qX5_addSigns (z_rm 6 0 0) [.long dq, .ref tx] Mw (fun r Mz => r = t_fl dq ls ∧ Mz = Mw)  := by
  obtain ⟨q9, cc, f9, hs9, hv9, hf9, hcc, hlen, hls⟩ := hSt
  refine z_Ml_of _ (plainFor_of_name rfl) rfl (Nat.le_of_ble_eq_true rfl) (fun X hl hG hnm C ret => ?_)
  subst hl; subst hG
  have C : z_C X cX5_addSigns RX5 6 (z_rm 6 0 0) := C
  show z_W X Mw 0 0 0 [(0, .long dq), (2, .ref tx)] []
  refine z_lload_n C dX5_addSigns_0 rfl 0 rfl ?_
  refine z_lstore_n (lv' := [(3, .long dq), (0, .long dq), (2, .ref tx)]) C dX5_addSigns_1 rfl (by decide) rfl ?_
  refine z_iconst C (v := 0) dX5_addSigns_2 (by decide) ?_
  refine z_istore (lv' := [(5, .int 0), (3, .long dq), (0, .long dq), (2, .ref tx)]) C dX5_addSigns_3 (by decide) rfl ?_
  refine z_fewer [1, 0, 3] rfl ?_
  refine z_at (M' := _) (lv' := [(3, .long dq), (5, .int (nI 0)), (2, .ref tx)]) rfl (by rw [nI_0]; rfl) rfl ?_
  refine lp_X5_as C hs9 hv9 hcc hlen hls (d0 := dq) (fun d9 hd9 => ?_) cc 0 dq (Nat.zero_add _) (t_fl_0 _ _)
  refine z_lload_n C dX5_addSigns_32 rfl 0 rfl ?_
  refine ret dX5_addSigns_33 ?_ (by decide) (by decide)
  exact ⟨hd9, rfl⟩
set_option maxRecDepth 20000 in
theorem lp_X5_d1 {X : zX} (C : z_C X cX5_digest RX5 5 (z_rm 14 700 22000)) {u : sS} {m pn td t : Nat} (hok : s_ok t u) (ht : t ≤ 64) {d0 : Int64} (kk : ∀ (dq : Int64) (Mw : zM) (th9 : Int32) (K9 : Nat → Nat) (tp9 : Nat), RI (z_G X) u m th9 K9 tp9 pn td Mw → dq = t_it (t_gh u) d0 9 → z_W X Mw 0 0 29 [(0, .ref m), (1, .long dq)] []) : ∀ (d jx : Nat), jx + d = 9 → ∀ (dq : Int64) (Mw : zM) (th9 : Int32) (K9 : Nat → Nat) (tp9 : Nat), RI (z_G X) u m th9 K9 tp9 pn td Mw → dq = t_it (t_gh u) d0 jx → z_W X Mw 0 0 6 [(3, .int (nI jx)), (0, .ref m), (1, .long dq)] [] := by
  intro d
  induction d with
  | zero =>
    intro jx hd dq Mw th9 K9 tp9 hR hdq
    refine z_iload_n C dX5_digest_6 rfl 0 rfl ?_
    refine z_bipush C (v := 9) dX5_digest_7 (by decide) ?_
    refine z_icmp_ge C (tgt := 29) dX5_digest_9 (by decide) (fun _ => ?_) (fun c9 => absurd (nI_le (b := jx) (a := 9) (by omega) (by omega)) c9)
    refine z_fewer [1, 2] rfl ?_
    exact kk _ _ _ _ _ hR (by rw [hdq, show jx = 9 by omega])
  | succ d ih =>
    intro jx hd dq Mw th9 K9 tp9 hR hdq
    refine z_iload_n C dX5_digest_6 rfl 0 rfl ?_
    refine z_bipush C (v := 9) dX5_digest_7 (by decide) ?_
    refine z_icmp_ge C (tgt := 29) dX5_digest_9 (by decide) (fun c9 => absurd c9 (nI_ge (a := jx) (b := 9) (by omega) (by omega))) (fun _ => ?_)
    refine z_lload_n C dX5_digest_12 rfl 2 rfl ?_
    refine z_aload_n C dX5_digest_13 rfl 1 rfl ?_
    refine z_iload_n C dX5_digest_14 rfl 0 rfl ?_
    refine z_callVi (rest := [.long dq]) (k' := 0) (n' := 0) C (a_X5_house (z_l X) hR hok ht (nI jx)) (cs_X5_160 C (by decide)) hR.1 rfl rfl rfl rfl (Nat.le_of_ble_eq_true rfl) rfl rfl (by show _ ≤ 700; omega) (by show _ ≤ 22000; omega) dX5_digest_15 (fun x15 Mq15 hq => ?_)
    have v15 : x15 = s_house u (nI jx) := (RP_v hq (t_kh (by omega))).trans rfl
    obtain ⟨K15, tp15, h15⟩ := RP_u hq
    refine z_i2l C dX5_digest_18 ?_
    refine z_callSl (rest := []) (k' := 0) (n' := 0) C (c_X5_add (z_l X) (z_G X) ) (cs_X5_154 C (by decide)) rfl rfl (Nat.le_of_ble_eq_true rfl) rfl rfl (by show _ ≤ 700; omega) (by show _ ≤ 22000; omega) dX5_digest_19 (fun x19 M' hq => ?_)
    obtain ⟨rfl, rfl⟩ := hq
    refine z_lstore_n (lv' := [(1, .long ((dq * 31) + x15.toInt64)), (3, .int (nI jx)), (0, .ref m)]) C dX5_digest_22 rfl (by decide) rfl ?_
    refine z_iinc (v := nI (jx + 1)) (lv' := [(3, .int (nI (jx + 1))), (1, .long ((dq * 31) + x15.toInt64)), (0, .ref m)]) C dX5_digest_23 1 rfl (nI_1 jx) (by decide) rfl ?_
    refine z_goto C (tgt := 6) dX5_digest_26 (by decide) ?_
    refine z_fewer [0, 2, 1] rfl ?_
    exact ih (jx + 1) (by omega) _ _ _ _ _ h15 (by rw [v15, hdq]; exact rfl)
set_option maxRecDepth 20000 in
theorem lp_X5_d2 {X : zX} (C : z_C X cX5_digest RX5 5 (z_rm 14 700 22000)) {u : sS} {m pn td t : Nat} (hok : s_ok t u) (ht : t ≤ 64) {pq k0 s0 : Nat} (hk0 : k0 ≤ 600) (hs0 : s0 ≤ 20000) (hpq : pq < 6) {d0 : Int64} (kk : ∀ (dq : Int64) (Mw : zM) (th9 : Int32) (K9 : Nat → Nat) (tp9 : Nat), RI (z_G X) u m th9 K9 tp9 pn td Mw → dq = t_it (t_go u pq) d0 10 → z_W X Mw (k0 + 10) (s0 + 10 * 10) 66 [(3, .int (nI pq)), (0, .ref m), (1, .long dq)] []) : ∀ (d jx : Nat), jx + d = 10 → ∀ (dq : Int64) (Mw : zM) (th9 : Int32) (K9 : Nat → Nat) (tp9 : Nat), RI (z_G X) u m th9 K9 tp9 pn td Mw → dq = t_it (t_go u pq) d0 jx → z_W X Mw (k0 + jx) (s0 + jx * 10) 40 [(4, .int (nI jx)), (0, .ref m), (1, .long dq), (3, .int (nI pq))] [] := by
  intro d
  induction d with
  | zero =>
    intro jx hd dq Mw th9 K9 tp9 hR hdq
    refine z_iload C dX5_digest_40 0 rfl ?_
    refine z_bipush C (v := 10) dX5_digest_42 (by decide) ?_
    refine z_icmp_ge C (tgt := 66) dX5_digest_44 (by decide) (fun _ => ?_) (fun c44 => absurd (nI_le (b := jx) (a := 10) (by omega) (by omega)) c44)
    have e9 : jx = 10 := by omega
    subst e9
    refine z_fewer [3, 1, 2] rfl ?_
    exact kk _ _ _ _ _ hR hdq
  | succ d ih =>
    intro jx hd dq Mw th9 K9 tp9 hR hdq
    refine z_iload C dX5_digest_40 0 rfl ?_
    refine z_bipush C (v := 10) dX5_digest_42 (by decide) ?_
    refine z_icmp_ge C (tgt := 66) dX5_digest_44 (by decide) (fun c44 => absurd c44 (nI_ge (a := jx) (b := 10) (by omega) (by omega))) (fun _ => ?_)
    refine z_lload_n C dX5_digest_47 rfl 2 rfl ?_
    refine z_aload_n C dX5_digest_48 rfl 1 rfl ?_
    refine z_iload_n C dX5_digest_49 rfl 3 rfl ?_
    refine z_iload C dX5_digest_50 0 rfl ?_
    refine z_callVi (rest := [.long dq]) (k' := k0 + jx + 1) (n' := s0 + jx * 10 + 10) C (a_X5_ofPane (z_l X) hR hok ht (nI pq) (nI jx)) (cs_X5_163 C (by decide)) hR.1 rfl rfl rfl rfl (Nat.le_of_ble_eq_true rfl) rfl rfl (by show _ ≤ 700; omega) (by show _ ≤ 22000; omega) dX5_digest_52 (fun x52 Mq52 hq => ?_)
    have v52 : x52 = s_of u pq (nI jx) := (RP_v hq (t_ko hpq (by omega))).trans (by show s_of u _ _ = _; rw [nI_clamp (show pq < 2 ^ 31 by omega)])
    obtain ⟨K52, tp52, h52⟩ := RP_u hq
    refine z_i2l C dX5_digest_55 ?_
    refine z_callSl (rest := []) (k' := k0 + jx + 1) (n' := s0 + jx * 10 + 10) C (c_X5_add (z_l X) (z_G X) ) (cs_X5_154 C (by decide)) rfl rfl (Nat.le_of_ble_eq_true rfl) rfl rfl (by show _ ≤ 700; omega) (by show _ ≤ 22000; omega) dX5_digest_56 (fun x56 M' hq => ?_)
    obtain ⟨rfl, rfl⟩ := hq
    refine z_lstore_n (lv' := [(1, .long ((dq * 31) + x52.toInt64)), (4, .int (nI jx)), (0, .ref m), (3, .int (nI pq))]) C dX5_digest_59 rfl (by decide) rfl ?_
    refine z_iinc (v := nI (jx + 1)) (lv' := [(4, .int (nI (jx + 1))), (1, .long ((dq * 31) + x52.toInt64)), (0, .ref m), (3, .int (nI pq))]) C dX5_digest_60 1 rfl (nI_1 jx) (by decide) rfl ?_
    refine z_goto C (tgt := 40) dX5_digest_63 (by decide) ?_
    refine z_kn (k' := k0 + (jx + 1)) (n' := s0 + (jx + 1) * 10) (by omega) (by omega) ?_
    refine z_fewer [0, 2, 1, 3] rfl ?_
    exact ih (jx + 1) (by omega) _ _ _ _ _ h52 (by rw [v52, hdq]; exact rfl)
