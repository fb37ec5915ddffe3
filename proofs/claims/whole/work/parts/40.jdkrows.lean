/-! PART 40: rows for the JDK's StringBuilder and String: inherited methods, statics, digits, copies, clones -/
section JR
variable {X : zX} {cc : ByteArray} {own : String} {nL : Nat} {rm : Room} {M : zM} {k n pc : Nat} {lv : List (Nat × Value)} {st rest : List Value} {q : zY} {rmc : Room} {index b ci N : Nat} {fs : List Value} {As : List Value}
theorem z_selP (C : z_C X cc own nL rm) {y : MethodName} (h : y ∈ z_pSB) : (Cond.selects RJ4 y y).before (z_a X) (z_s X) = true := va_Nw.use rfl (C.2.2.2.2.2.2.1.1.2.2.2.2.2.2.1 y h)
/-- a method that the receiver's class has of its superclass, or has in place of the superclass's: x is what the reference names -/
theorem z_cwU (C : z_C X cc own nL rm) {x : MethodName} {b0 : ByteArray} {m0 : Nat} {r0 : Option FieldType} (hq : Cond.code q.1 q.2.1 q.2.2.1 q.2.2.2 ∈ gw) (hl : Cond.methodLink own index x ∈ gw) (hs : (Cond.selects RJ4 x q.1).before (z_a X) (z_s X) = true) (hsame : Cond.sameMethod x.cls x.cls x.name x.desc ∈ gw) (hi0 : Cond.instanceMethod x ∈ gw) (h0 : Cond.code x b0 m0 r0 ∈ gw) (hi : Cond.instanceMethod q.1 ∈ gw) (hc : Cond.initialized q.1.cls ∈ gw) (hd : x.cls ≠ "java/lang/invoke/MethodHandle" ∧ x.cls ≠ "java/lang/invoke/VarHandle" ∧ (parseMethodDescriptor x.desc).map (fun d => d.parameters.length) = some N) (hR : rmc.frames + 1 ≤ rm.frames ∧ 8 + (q.2.2.1 + 11) + rmc.locals ≤ rm.locals) :
    va_CU (z_R X) (z_s X) (z_a X) own RJ4 x.cls index x q.1 q.2.1 q.2.2.1 q.2.2.2 (z_ws q) rmc rmc.cells rmc.slots N := by
  refine ⟨⟨rfl, rfl, by rw [C.2.2.2.2.2.2.2.2]; exact hR.1, by rw [C.2.2.2.2.2.2.2.2]; exact hR.2, pay_in C.2.2.2.2.1 (z_good hq), List.mem_cons_self⟩, z_tow C hq, z_tow C hc, ⟨hd.1, hd.2.1⟩, fun sig h => ?_, z_tow C hl, z_tow C hsame, va_Decl.of (z_tow C hi0) (z_tow C h0), hs, z_tow C hi⟩
  have h2 := hd.2.2
  rw [h] at h2
  exact (Option.some.inj h2).symm
theorem z_callUi {x : MethodName} {post : Int32 → zM → Prop} (C : z_C X cc own nL rm) (hM : z_Mi (z_l X) (z_G X) q rmc (.ref b :: As) M post) (cw : va_CU (z_R X) (z_s X) (z_a X) own RJ4 x.cls index x q.1 q.2.1 q.2.2.1 q.2.2.2 (z_ws q) rmc rmc.cells rmc.slots N) (hb : M b = some (.inr (1, fs))) (_ : True) (_ : True) (hN : As.length = N) (hst : st = As.reverse ++ .ref b :: rest) (hcat : (rest.map fun v => v.category).sum ≤ 8) {k' n' : Nat} (ek : k + rmc.cells = k') (en : n + rmc.slots = n') (hk : k' ≤ rm.cells) (hn : n' ≤ rm.slots) (d : decode cc pc = .ok (.invokevirtual index, 3))
    (kk : ∀ (x : Int32) (M' : zM), post x M' → z_W X M' k' n' (pc + 3) lv (.int x :: rest)) : z_W X M k n pc lv st := by
  subst hst; subst ek; subst en
  intro H locs ls h1 h2 h3 h4
  have hs := z_sub C h2 h3
  exact va_calli (va_runU ⟨C.1, C.2.1, rfl, C.2.2.2.1, C.2.2.2.2.1⟩ (hM H.size) cw ⟨z_blind, z_recv C h1 hb rfl, fun U hU hW => ⟨rfl, z_pre C h1 h2 h3 hU hW⟩⟩ rfl hN h4.1 rfl (lv_room hcat) d (by rw [C.2.2.2.2.2.2.2.2]; exact ⟨hk, hn⟩)) h3 (fun q _ h => hs q h) hs
    (fun x M' t H1 locs1 ht hvm hp hB hz hk1 hS => kk x M' hp H1 locs1 ls (by rw [← ht]; exact hB.1) (fun a e h => hs a (hB.2 a e h)) hS h4)
theorem z_callUv {x : MethodName} {post : zM → Prop} (C : z_C X cc own nL rm) (hM : z_Mv (z_l X) (z_G X) q rmc (.ref b :: As) M post) (cw : va_CU (z_R X) (z_s X) (z_a X) own RJ4 x.cls index x q.1 q.2.1 q.2.2.1 q.2.2.2 (z_ws q) rmc rmc.cells rmc.slots N) (hb : M b = some (.inr (1, fs))) (_ : True) (_ : True) (hN : As.length = N) (hst : st = As.reverse ++ .ref b :: rest) (hcat : (rest.map fun v => v.category).sum ≤ 8) {k' n' : Nat} (ek : k + rmc.cells = k') (en : n + rmc.slots = n') (hk : k' ≤ rm.cells) (hn : n' ≤ rm.slots) (d : decode cc pc = .ok (.invokevirtual index, 3))
    (kk : ∀ (M' : zM), post M' → z_W X M' k' n' (pc + 3) lv rest) : z_W X M k n pc lv st := by
  subst hst; subst ek; subst en
  intro H locs ls h1 h2 h3 h4
  have hs := z_sub C h2 h3
  exact va_callv (va_runU ⟨C.1, C.2.1, rfl, C.2.2.2.1, C.2.2.2.2.1⟩ (hM H.size) cw ⟨z_blind, z_recv C h1 hb rfl, fun U hU hW => ⟨rfl, z_pre C h1 h2 h3 hU hW⟩⟩ rfl hN h4.1 rfl (lv_room hcat) d (by rw [C.2.2.2.2.2.2.2.2]; exact ⟨hk, hn⟩)) h3 (fun q _ h => hs q h) hs
    (fun M' t H1 locs1 ht hvm hp hB hz hk1 hS => kk M' hp H1 locs1 ls (by rw [← ht]; exact hB.1) (fun a e h => hs a (hB.2 a e h)) hS h4)
theorem z_callUr {x : MethodName} {post : Nat → zM → Prop} (C : z_C X cc own nL rm) (hM : z_Mr (z_l X) (z_G X) q rmc (.ref b :: As) M post) (cw : va_CU (z_R X) (z_s X) (z_a X) own RJ4 x.cls index x q.1 q.2.1 q.2.2.1 q.2.2.2 (z_ws q) rmc rmc.cells rmc.slots N) (hb : M b = some (.inr (1, fs))) (_ : True) (_ : True) (hN : As.length = N) (hst : st = As.reverse ++ .ref b :: rest) (hcat : (rest.map fun v => v.category).sum ≤ 8) {k' n' : Nat} (ek : k + rmc.cells = k') (en : n + rmc.slots = n') (hk : k' ≤ rm.cells) (hn : n' ≤ rm.slots) (d : decode cc pc = .ok (.invokevirtual index, 3))
    (kk : ∀ (a : Nat) (M' : zM), post a M' → z_W X M' k' n' (pc + 3) lv (.ref a :: rest)) : z_W X M k n pc lv st := by
  subst hst; subst ek; subst en
  intro H locs ls h1 h2 h3 h4
  have hs := z_sub C h2 h3
  exact va_callr (va_runU ⟨C.1, C.2.1, rfl, C.2.2.2.1, C.2.2.2.2.1⟩ (hM H.size) cw ⟨z_blind, z_recv C h1 hb rfl, fun U hU hW => ⟨rfl, z_pre C h1 h2 h3 hU hW⟩⟩ rfl hN h4.1 rfl (lv_room hcat) d (by rw [C.2.2.2.2.2.2.2.2]; exact ⟨hk, hn⟩)) h3 (fun q _ h => hs q h) hs
    (fun u a t H1 locs1 ht hvm hp hB hz hk1 hS => by rw [hB.1]; exact kk u.1 u.2 hp H1 locs1 ls (by rw [← ht]; exact hB.2.1) (fun a e h => hs a (hB.2.2 a e h)) hS h4)
theorem z_callSv {post : zM → Prop} (C : z_C X cc own nL rm) (hM : z_Mv (z_l X) (z_G X) q rmc As M post) (cw : CallB (z_R X) (z_s X) (z_a X) own index q.1 q.2.1 q.2.2.1 q.2.2.2 (z_ws q) rmc rmc.cells rmc.slots N ∧ (Cond.static q.1).before (z_a X) (z_s X) = true) (hN : As.length = N) (hst : st = As.reverse ++ rest) (hcat : (rest.map fun v => v.category).sum ≤ 8) {k' n' : Nat} (ek : k + rmc.cells = k') (en : n + rmc.slots = n') (hk : k' ≤ rm.cells) (hn : n' ≤ rm.slots) (d : decode cc pc = .ok (.invokestatic index, 3))
    (kk : ∀ (M' : zM), post M' → z_W X M' k' n' (pc + 3) lv rest) : z_W X M k n pc lv st := by
  subst hst; subst ek; subst en
  intro H locs ls h1 h2 h3 h4
  have hs := z_sub C h2 h3
  exact va_callv (va_runS ⟨C.1, C.2.1, rfl, C.2.2.2.1, C.2.2.2.2.1⟩ (hM H.size) cw ⟨z_blind, fun U hU hW => ⟨rfl, z_pre C h1 h2 h3 hU hW⟩⟩ rfl hN h4.1 rfl (lv_room hcat) d (by rw [C.2.2.2.2.2.2.2.2]; exact ⟨hk, hn⟩)) h3 (fun q _ h => hs q h) hs
    (fun M' t H1 locs1 ht hvm hp hB hz hk1 hS => kk M' hp H1 locs1 ls (by rw [← ht]; exact hB.1) (fun a e h => hs a (hB.2 a e h)) hS h4)
/-- super.m(..) -/
theorem z_cwP (C : z_C X cc own nL rm) (hq : Cond.code q.1 q.2.1 q.2.2.1 q.2.2.2 ∈ gw) (hl : Cond.methodLink own index q.1 ∈ gw) (hsame : Cond.sameMethod q.1.cls q.1.cls q.1.name q.1.desc ∈ gw) (hsup : Cond.superclass own q.1.cls ∈ gw) (hi : Cond.instanceMethod q.1 ∈ gw) (hc : Cond.initialized q.1.cls ∈ gw) (hd : q.1.name ≠ "<init>" ∧ (parseMethodDescriptor q.1.desc).map (fun d => d.parameters.length) = some N) (hR : rmc.frames + 1 ≤ rm.frames ∧ 8 + (q.2.2.1 + 11) + rmc.locals ≤ rm.locals) :
    va_CS (z_R X) (z_s X) (z_a X) own index q.1 q.2.1 q.2.2.1 q.2.2.2 (z_ws q) rmc rmc.cells rmc.slots N := by
  refine ⟨⟨rfl, rfl, by rw [C.2.2.2.2.2.2.2.2]; exact hR.1, by rw [C.2.2.2.2.2.2.2.2]; exact hR.2, pay_in C.2.2.2.2.1 (z_good hq), List.mem_cons_self⟩, z_tow C hl, z_tow C hsame, z_tow C hsup, z_tow C hi, z_tow C hc, z_tow C hq, hd.1, fun sig h => ?_⟩
  have h2 := hd.2
  rw [h] at h2
  exact (Option.some.inj h2).symm
theorem z_callPi {post : Int32 → zM → Prop} (C : z_C X cc own nL rm) (hM : z_Mi (z_l X) (z_G X) q rmc (.ref b :: As) M post) (cw : va_CS (z_R X) (z_s X) (z_a X) own index q.1 q.2.1 q.2.2.1 q.2.2.2 (z_ws q) rmc rmc.cells rmc.slots N) (hb : M b = some (.inr (1, fs))) (_ : True) (_ : True) (hN : As.length = N) (hst : st = As.reverse ++ .ref b :: rest) (hcat : (rest.map fun v => v.category).sum ≤ 8) {k' n' : Nat} (ek : k + rmc.cells = k') (en : n + rmc.slots = n') (hk : k' ≤ rm.cells) (hn : n' ≤ rm.slots) (d : decode cc pc = .ok (.invokespecial index, 3))
    (kk : ∀ (x : Int32) (M' : zM), post x M' → z_W X M' k' n' (pc + 3) lv (.int x :: rest)) : z_W X M k n pc lv st := by
  subst hst; subst ek; subst en
  intro H locs ls h1 h2 h3 h4
  have hs := z_sub C h2 h3
  exact va_calli (va_runSU (C.2.2.2.2.2.1.1 1 _ rfl).2 ⟨C.1, C.2.1, rfl, C.2.2.2.1, C.2.2.2.2.1⟩ (hM H.size) cw ⟨z_blind, z_recv C h1 hb rfl, fun U hU hW => ⟨rfl, z_pre C h1 h2 h3 hU hW⟩⟩ rfl hN h4.1 rfl (lv_room hcat) d (by rw [C.2.2.2.2.2.2.2.2]; exact ⟨hk, hn⟩)) h3 (fun q _ h => hs q h) hs
    (fun x M' t H1 locs1 ht hvm hp hB hz hk1 hS => kk x M' hp H1 locs1 ls (by rw [← ht]; exact hB.1) (fun a e h => hs a (hB.2 a e h)) hS h4)
theorem z_callPv {post : zM → Prop} (C : z_C X cc own nL rm) (hM : z_Mv (z_l X) (z_G X) q rmc (.ref b :: As) M post) (cw : va_CS (z_R X) (z_s X) (z_a X) own index q.1 q.2.1 q.2.2.1 q.2.2.2 (z_ws q) rmc rmc.cells rmc.slots N) (hb : M b = some (.inr (1, fs))) (_ : True) (_ : True) (hN : As.length = N) (hst : st = As.reverse ++ .ref b :: rest) (hcat : (rest.map fun v => v.category).sum ≤ 8) {k' n' : Nat} (ek : k + rmc.cells = k') (en : n + rmc.slots = n') (hk : k' ≤ rm.cells) (hn : n' ≤ rm.slots) (d : decode cc pc = .ok (.invokespecial index, 3))
    (kk : ∀ (M' : zM), post M' → z_W X M' k' n' (pc + 3) lv rest) : z_W X M k n pc lv st := by
  subst hst; subst ek; subst en
  intro H locs ls h1 h2 h3 h4
  have hs := z_sub C h2 h3
  exact va_callv (va_runSU (C.2.2.2.2.2.1.1 1 _ rfl).2 ⟨C.1, C.2.1, rfl, C.2.2.2.1, C.2.2.2.2.1⟩ (hM H.size) cw ⟨z_blind, z_recv C h1 hb rfl, fun U hU hW => ⟨rfl, z_pre C h1 h2 h3 hU hW⟩⟩ rfl hN h4.1 rfl (lv_room hcat) d (by rw [C.2.2.2.2.2.2.2.2]; exact ⟨hk, hn⟩)) h3 (fun q _ h => hs q h) hs
    (fun M' t H1 locs1 ht hvm hp hB hz hk1 hS => kk M' hp H1 locs1 ls (by rw [← ht]; exact hB.1) (fun a e h => hs a (hB.2 a e h)) hS h4)
theorem z_callPr {post : Nat → zM → Prop} (C : z_C X cc own nL rm) (hM : z_Mr (z_l X) (z_G X) q rmc (.ref b :: As) M post) (cw : va_CS (z_R X) (z_s X) (z_a X) own index q.1 q.2.1 q.2.2.1 q.2.2.2 (z_ws q) rmc rmc.cells rmc.slots N) (hb : M b = some (.inr (1, fs))) (_ : True) (_ : True) (hN : As.length = N) (hst : st = As.reverse ++ .ref b :: rest) (hcat : (rest.map fun v => v.category).sum ≤ 8) {k' n' : Nat} (ek : k + rmc.cells = k') (en : n + rmc.slots = n') (hk : k' ≤ rm.cells) (hn : n' ≤ rm.slots) (d : decode cc pc = .ok (.invokespecial index, 3))
    (kk : ∀ (a : Nat) (M' : zM), post a M' → z_W X M' k' n' (pc + 3) lv (.ref a :: rest)) : z_W X M k n pc lv st := by
  subst hst; subst ek; subst en
  intro H locs ls h1 h2 h3 h4
  have hs := z_sub C h2 h3
  exact va_callr (va_runSU (C.2.2.2.2.2.1.1 1 _ rfl).2 ⟨C.1, C.2.1, rfl, C.2.2.2.1, C.2.2.2.2.1⟩ (hM H.size) cw ⟨z_blind, z_recv C h1 hb rfl, fun U hU hW => ⟨rfl, z_pre C h1 h2 h3 hU hW⟩⟩ rfl hN h4.1 rfl (lv_room hcat) d (by rw [C.2.2.2.2.2.2.2.2]; exact ⟨hk, hn⟩)) h3 (fun q _ h => hs q h) hs
    (fun u a t H1 locs1 ht hvm hp hB hz hk1 hS => by rw [hB.1]; exact kk u.1 u.2 hp H1 locs1 ls (by rw [← ht]; exact hB.2.1) (fun a e h => hs a (hB.2.2 a e h)) hS h4)
/-- the JDK's statics -/
theorem z_gsZ (C : z_C X cc own nL rm) (hl : Cond.fieldLink own index "java/lang/String" "COMPACT_STRINGS" "Z" ∈ gw) (d : decode cc pc = .ok (.getstatic index, 3)) (kk : z_W X M k n (pc + 3) lv (.int 1 :: st)) : z_W X M k n pc lv st :=
  fun H locs ls h1 h2 h3 h4 => va_gets C.1 C.2.1 C.2.2.2.2.2.2.1.2.2.1 h3 C.2.2.2.1 (z_tow C hl) (fun _ h => h) d (kk H locs ls h1 h2 h3 h4)
def z_TB (X : zX) (t : Nat) (f : Nat → Value) : Prop := va_T .byte t 100 f (z_F X) (z_s X) (z_s X).heap
theorem z_gsD1 (C : z_C X cc own nL rm) (hl : Cond.fieldLink own index "java/lang/Integer" "DigitOnes" "[B" ∈ gw) (d : decode cc pc = .ok (.getstatic index, 3)) (kk : ∀ t, z_TB X t z_d1 → z_W X M k n (pc + 3) lv (.ref t :: st)) : z_W X M k n pc lv st := by
  obtain ⟨t, hZ, hT⟩ := C.2.2.2.2.2.2.1.2.2.2.1
  exact fun H locs ls h1 h2 h3 h4 => va_gets C.1 C.2.1 hZ h3 C.2.2.2.1 (z_tow C hl) (fun _ h => h) d (kk t hT H locs ls h1 h2 h3 h4)
theorem z_gsD10 (C : z_C X cc own nL rm) (hl : Cond.fieldLink own index "java/lang/Integer" "DigitTens" "[B" ∈ gw) (d : decode cc pc = .ok (.getstatic index, 3)) (kk : ∀ t, z_TB X t z_d10 → z_W X M k n (pc + 3) lv (.ref t :: st)) : z_W X M k n pc lv st := by
  obtain ⟨t, hZ, hT⟩ := C.2.2.2.2.2.2.1.2.2.2.2.1
  exact fun H locs ls h1 h2 h3 h4 => va_gets C.1 C.2.1 hZ h3 C.2.2.2.1 (z_tow C hl) (fun _ h => h) d (kk t hT H locs ls h1 h2 h3 h4)
theorem z_tb1 (C : z_C X cc own nL rm) {t j : Nat} {i v : Int32} (hT : z_TB X t z_d1) (hin : vp_in i 100) (hj : i.toNatClampNeg = j) (hv : nI (48 + j % 10) = v) (d : decode cc pc = .ok (.baload, 1)) (kk : z_W X M k n (pc + 1) lv (.int v :: st)) : z_W X M k n pc lv (.int i :: .ref t :: st) := by
  subst hj; subst hv
  exact fun H locs ls h1 h2 h3 h4 => va_tb C.1 C.2.1 hT h3 hin rfl d (kk H locs ls h1 h2 h3 h4)
theorem z_tb10 (C : z_C X cc own nL rm) {t j : Nat} {i v : Int32} (hT : z_TB X t z_d10) (hin : vp_in i 100) (hj : i.toNatClampNeg = j) (hv : nI (48 + j / 10) = v) (d : decode cc pc = .ok (.baload, 1)) (kk : z_W X M k n (pc + 1) lv (.int v :: st)) : z_W X M k n pc lv (.int i :: .ref t :: st) := by
  subst hj; subst hv
  exact fun H locs ls h1 h2 h3 h4 => va_tb C.1 C.2.1 hT h3 hin rfl d (kk H locs ls h1 h2 h3 h4)
/-- the formatter of an index's exception: null or not, nobody looks -/
theorem z_gsF (C : z_C X cc own nL rm) (hl : Cond.fieldLink own index "jdk/internal/util/Preconditions" "SIOOBE_FORMATTER" "Ljava/util/function/BiFunction;" ∈ gw) (d : decode cc pc = .ok (.getstatic index, 3)) (k1 : z_W X M k n (pc + 3) lv (.null :: st)) (k2 : ∀ t : Nat, z_W X M k n (pc + 3) lv (.ref t :: st)) : z_W X M k n pc lv st := by
  rcases C.2.2.2.2.2.2.1.2.2.2.2.2.1 with hZ | ⟨t, hZ⟩
  · exact fun H locs ls h1 h2 h3 h4 => va_gets C.1 C.2.1 hZ h3 C.2.2.2.1 (z_tow C hl) (fun _ h => h) d (k1 H locs ls h1 h2 h3 h4)
  · exact fun H locs ls h1 h2 h3 h4 => va_gets C.1 C.2.1 hZ h3 C.2.2.2.1 (z_tow C hl) (fun _ h => h) d (k2 t H locs ls h1 h2 h3 h4)
theorem z_Bcell (G : zG) (N : Nat) (f : Nat → Int32) : vp_cell G.2.1 (N, .inl f) = arrV G.2.1 N (fun j => .int (f j)) := vp_cell_i _ _ _
/-- System.arraycopy of bytes into another row -/
theorem z_copy (C : z_C X cc own nL rm) {a0 a n0 n1 : Nat} {f g : Nat → Int32} (hlk : Cond.methodLink own index arraycopyName ∈ gw) (hM0 : M a0 = some (aB (z_G X) n0 f)) (hM1 : M a = some (aB (z_G X) n1 g)) {sp dp z : Int32} (h1 : ¬ sp < 0) (h2 : ¬ dp < 0) (h3 : ¬ z < 0) (h4 : sp.toNatClampNeg + z.toNatClampNeg ≤ n0) (h5 : dp.toNatClampNeg + z.toNatClampNeg ≤ n1) (hfit : sb_Fit f) (hR : 1 ≤ rm.frames ∧ 30 ≤ rm.locals) (hcat : (rest.map fun v => v.category).sum ≤ 8) (d : decode cc pc = .ok (.invokestatic index, 3))
    (kk : z_W X (z_up M a (aB (z_G X) n1 (va_cpy f g sp.toNatClampNeg dp.toNatClampNeg z.toNatClampNeg))) k n (pc + 3) lv rest) : z_W X M k n pc lv (.int z :: .int dp :: .ref a :: .int sp :: .ref a0 :: rest) := by
  have nn : ∀ z : Int32, ¬ z < 0 → z.toInt = (z.toNatClampNeg : Int) := fun z hz => (z_cl (Int32.not_lt.mp hz)).symm
  intro H locs ls g1 g2 g3 g4 T hT X9
  have hc0 : H[a0]? = some (vp_cell (z_G X).2.1 (n0, .inl f)) := g1 a0 _ hM0
  have hc1 : H[a]? = some (vp_cell (z_G X).2.1 (n1, .inl g)) := g1 a _ hM1
  obtain ⟨-, k0, hk0, cm0, hkk0⟩ := (C.2.2.2.2.2.1.2 0 _ rfl).1 n0 (fun j => .int (f j))
  obtain ⟨-, k1, hk1, cm1, hkk1⟩ := (C.2.2.2.2.2.1.2 0 _ rfl).1 n1 (fun j => .int (g j))
  obtain ⟨vm', X', step⟩ := X9.arraycopy C.1 C.2.2.2.1 (z_tow C hlk) (z_tow C kw235) (z_tow C kw234) (z_tow C kw20) (src := a0) (dst := a) (cs := vp_cell (z_G X).2.1 (n0, .inl f)) (cd := vp_cell (z_G X).2.1 (n1, .inl g)) (srcPos := sp) (destPos := dp) (n := z) (by rw [hT]; exact hc0) (by rw [hT]; exact hc1)
    (fun _ h => by cases h) (fun _ h => by cases h) (fun h => by cases h) (fun h => by cases h) hk0 hk1 hkk0 hkk1 (by simp [refKind]) h1 h2 h3
    (by rw [nn sp h1, nn z h3]; show ¬ _ > ((arrV _ n0 (fun j => .int (f j))).slots.size : Int); rw [arrV_size]; omega)
    (by rw [nn dp h2, nn z h3]; show ¬ _ > ((arrV _ n1 (fun j => .int (g j))).slots.size : Int); rw [arrV_size]; omega)
    (fun vm₁ _ i hi => by
      have e : (vp_cell (z_G X).2.1 (n0, .inl f)).slots.getD (sp.toNatClampNeg + i) .null = .int (f (sp.toNatClampNeg + i)) := by
        show (arrV _ n0 (fun j => .int (f j))).slots.getD _ _ = _
        rw [Array.getD_eq_getD_getElem?, arrV_read _ _ (by omega)]
        rfl
      refine ⟨?_, ?_⟩
      · rw [e]
        exact hfit _
      · rw [e]
        exact trivial)
    (g := F0 (z_m X) pc ls (.int z :: .int dp :: .ref a :: .int sp :: .ref a0 :: rest)) rfl (by rw [← g4.1]) (rest := rest) rfl (by rw [C.2.1]; exact d) (by rw [C.2.2.2.2.2.2.2.2]; exact hR.1) (by
      have h9 := hR.2
      have e9 : nativeFrameWords "java/lang/System" "arraycopy" 5 = 7 := rfl
      rw [C.2.2.2.2.2.2.2.2, e9]
      show 2 * 0 + _ + _ ≤ _
      omega)
  have e1 : copied (vp_cell (z_G X).2.1 (n0, .inl f)) (vp_cell (z_G X).2.1 (n1, .inl g)) sp dp z = vp_cell (z_G X).2.1 (n1, .inl (va_cpy f g sp.toNatClampNeg dp.toNatClampNeg z.toNatClampNeg)) := va_copied (fun z => .int z) _ _ f g h4
  rw [e1] at X' step
  have hl : a < H.size := (Array.getElem?_eq_some_iff.mp hc1).1
  generalize hE : vp_cell (z_G X).2.1 (n1, .inl (va_cpy f g sp.toNatClampNeg dp.toNatClampNeg z.toNatClampNeg)) = cE at X' step
  have hheap : ((T.setVm vm').setCell a cE).heap = H.setIfInBounds a cE := by rw [← hT]; rfl
  have oq : ∀ q : Nat, q ≠ a → (H.setIfInBounds a cE)[q]? = H[q]? := fun q hq => by simp [Array.getElem?_setIfInBounds, Ne.symm hq]
  obtain ⟨t, a1, b1⟩ := kk (H.setIfInBounds a cE) _ ls (z_h_up g1 (show (H.setIfInBounds a cE)[a]? = some (vp_cell _ _) by rw [hE]; simp [Array.getElem?_setIfInBounds, hl]) oq) (z_in_up g2 (g2 a _ hM1)) ⟨by simp; exact g3.1, fun q e1 e2 => by
      rw [oq q (fun e => e2 (by rw [e]; exact g2 a _ hM1))]
      exact g3.2.1 q e1 e2, fun q hq => by
      rcases List.mem_append.mp hq with h | h
      · exact g3.2.2 q h
      · obtain ⟨z, -, hz⟩ := List.mem_map.mp h
        rw [← hz]
        exact g2 a _ hM1⟩ g4 _ hheap X'
  exact ⟨t, step t a1, b1⟩
theorem z_copyN (sn dn zn : Nat) (C : z_C X cc own nL rm) {a0 a n0 n1 : Nat} {f g : Nat → Int32} (hlk : Cond.methodLink own index arraycopyName ∈ gw) (hM0 : M a0 = some (aB (z_G X) n0 f)) (hM1 : M a = some (aB (z_G X) n1 g)) {sp dp z : Int32} (h1 : ¬ sp < 0) (h2 : ¬ dp < 0) (h3 : ¬ z < 0) (es : sp.toNatClampNeg = sn) (ed : dp.toNatClampNeg = dn) (ez : z.toNatClampNeg = zn) (h4 : sn + zn ≤ n0) (h5 : dn + zn ≤ n1) (hfit : sb_Fit f) (hR : 1 ≤ rm.frames ∧ 30 ≤ rm.locals) (hcat : (rest.map fun v => v.category).sum ≤ 8) (d : decode cc pc = .ok (.invokestatic index, 3))
    (kk : z_W X (z_up M a (aB (z_G X) n1 (va_cpy f g sn dn zn))) k n (pc + 3) lv rest) : z_W X M k n pc lv (.int z :: .int dp :: .ref a :: .int sp :: .ref a0 :: rest) := by
  subst es; subst ed; subst ez
  exact z_copy C hlk hM0 hM1 h1 h2 h3 h4 h5 hfit hR hcat d kk
/-- a row of bytes, cloned -/
theorem z_clone (C : z_C X cc own nL rm) {a n0 : Nat} {f : Nat → Int32} (hlk : Cond.methodLink own index ⟨"[B", "clone", "()Ljava/lang/Object;"⟩ ∈ gw) (hM : M a = some (aB (z_G X) n0 f)) (hfit : sb_Fit f) (hR : 1 ≤ rm.frames ∧ 30 ≤ rm.locals) (hcat : (rest.map fun v => v.category).sum ≤ 8) (hk : k + 1 ≤ rm.cells) (hn : n + n0 ≤ rm.slots) (d : decode cc pc = .ok (.invokevirtual index, 3))
    (kk : ∀ q : Nat, M q = none → z_W X (z_up M q (aB (z_G X) n0 f)) (k + 1) (n + n0) (pc + 3) lv (.ref q :: rest)) : z_W X M k n pc lv (.ref a :: rest) := by
  intro H locs ls g1 g2 g3 g4
  have hB := C.2.2.2.2.2.1.2 0 ((z_G X).2.1, .byte) rfl
  have hcell : H[a]? = some (vp_cell (z_G X).2.1 (n0, .inl f)) := g1 a _ hM
  have hnm : (z_s X).vm.findClass "[B" = some (z_G X).2.1 := hB.2
  obtain ⟨c0, t0', f1, f2, f3⟩ := Cond.castable_spec (va_Nw.use (A := z_a X) rfl (C.2.2.2.2.2.2.1.1.2.2.2.1 _ _ kn228))
  cases hnm.symm.trans f1
  intro T hT X9
  obtain ⟨-, kA, hkA, comp, hkind⟩ := State.isArrayOf_alike X9.warmed.alike (hB.1 0 (fun _ => .null))
  obtain ⟨-, kS, hkS, compS, hkindS⟩ := hB.1 0 (fun _ => .null)
  have hsz : (vp_cell (z_G X).2.1 (n0, .inl f)).slots.size = n0 := arrV_size _ _ _
  obtain ⟨vm', X', st9⟩ := X9.cloneArray C.1 C.2.2.2.1 (z_tow C hlk) (z_tow C kw224) (z_tow C kw225) (z_tow C kw226) (z_tow C kw227) (a := a) (cell := vp_cell (z_G X).2.1 (n0, .inl f)) (by rw [hT]; exact hcell) (fun _ h => by cases h) (fun h => by cases h) hnm f2 f3
    (fun i v hv => by
      have hk' : T.vm.classes[(z_G X).2.1]? = some kA := hkA
      have hv' : (arrV (z_G X).2.1 n0 (fun j => Value.int (f j))).slots[i]? = some v := hv
      by_cases hi : i < n0
      · rw [arrV_read _ _ hi] at hv'
        cases hv'
        rw [show (vp_cell (z_G X).2.1 (n0, .inl f)).cls = (z_G X).2.1 from rfl]
        simpa [State.fitsSlot, State.slotType?, hk', hkind] using hfit i
      · rw [Array.getElem?_eq_none (by rw [arrV_size]; omega)] at hv'
        cases hv')
    (g := F0 (z_m X) pc ls (.ref a :: rest)) rfl (by rw [← g4.1]) rfl (by rw [C.2.1]; exact d) (by rw [C.2.2.2.2.2.2.2.2]; exact hR.1) (by
      have h9 := hR.2
      rw [C.2.2.2.2.2.2.2.2]
      show 2 * 0 + _ + 14 ≤ _
      omega) (by rw [C.2.2.2.2.2.2.2.2]; exact hk) (by rw [hsz, C.2.2.2.2.2.2.2.2]; exact hn) (hloader := Vm.clonesLoader_of_array hkS hkindS)
  rw [hsz] at X'
  have hcellE : ({ cls := (vp_cell (z_G X).2.1 (n0, .inl f)).cls, slots := (vp_cell (z_G X).2.1 (n0, .inl f)).slots } : Cell) = vp_cell (z_G X).2.1 (n0, .inl f) := rfl
  rw [hcellE] at X'
  generalize hH1 : H.push (vp_cell (z_G X).2.1 (n0, .inl f)) = H1
  have z1 : H1.size = H.size + 1 := by rw [← hH1, Array.size_push]
  have e1 : H1[H.size]? = some (vp_cell (z_G X).2.1 (n0, .inl f)) := by rw [← hH1, Array.getElem?_push_size]
  have o1 : ∀ q : Nat, q < H.size → H1[q]? = H[q]? := fun q hq => by rw [← hH1, Array.getElem?_push, if_neg (Nat.ne_of_lt hq)]
  obtain ⟨t, b1, b2⟩ := kk H.size (z_h_no g1 (Nat.le_refl _)) H1 locs ls (z_h_new g1 rfl e1 o1) (z_in_up g2 (C.2.2.2.2.2.2.2.1 _ g3.1)) ⟨Nat.le_trans g3.1 (by omega), fun y h1 h2 => (o1 y (Nat.lt_of_lt_of_le h1 g3.1)).trans (g3.2.1 y h1 h2), g3.2.2⟩ g4
    ((T.setVm vm').pushCell (vp_cell (z_G X).2.1 (n0, .inl f))) (by rw [← hH1, ← hT]; rfl) X'
  refine ⟨t, st9 t ?_, b2⟩
  rw [hcellE, hT]
  exact b1
theorem z_castB (C : z_C X cc own nL rm) {a n0 : Nat} {f : Nat → Int32} (hlk : Cond.classLink own index "[B" ∈ gw) (hM : M a = some (aB (z_G X) n0 f)) (d : decode cc pc = .ok (.checkcast index, 3)) (kk : z_W X M k n (pc + 3) lv (.ref a :: st)) : z_W X M k n pc lv (.ref a :: st) :=
  fun H locs ls h1 h2 h3 h4 => va_castA C.1 C.2.1 C.2.2.2.1 (z_tow C hlk) (z_one h1 hM) 0 rfl (C.2.2.2.2.2.1.2 0 _ rfl).2 d (kk H locs ls h1 h2 h3 h4)
end JR
