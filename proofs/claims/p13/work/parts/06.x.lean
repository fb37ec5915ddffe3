/-! PART 06: methods that return or throw, over the z layer -/
/-- an exception of class E is on its way, at this place of the walk -/
def z_V (X : zX) (M : zM) (k n pc : Nat) (lv : List (Nat × Value)) (st : List Value) (E : String) : Prop := ∀ (H : Heap) (locs : List Loc) (ls : Array Slot) (q : Addr) (ce : Cell), z_h (z_G X) M H → z_in (z_F X) M → va_S (z_F X) (z_s X).heap H locs → lv_has ls (z_c X).maxLocals lv → H[q]? = some ce → ce.vm = .none → (z_s X).vm.findClass E = some ce.cls →
  vx_W (z_p X) (z_l X) (z_e X) (z_R X) (z_s X) (z_m X) (z_a X) (z_b X) (z_me X) (z_c X) H locs k n (z_Q X) (F0 (z_m X) pc ls st) q
def z_XC (G : zG) (M : zM) (sz : Nat) (xpost : String → zM → Prop) : String → State → State → Prop := vx_X (fun _ : zM => True) (fun E M' t => xpost E M' ∧ z_E G M sz M' t) (z_A M sz)
def z_Xi (l : Launch) (G : zG) (q : zY) (rm : Room) (av : List Value) (M : zM) (post : Int32 → zM → Prop) (xpost : String → zM → Prop) : Prop := ∀ sz : Nat, vx_Met l q.1 (z_ws q) rm (va_Pc av (z_B G M sz)) (va_Qi post (z_E G M sz) (z_A M sz)) (z_XC G M sz xpost) rm.cells rm.slots (z_A M sz)
def z_Xv (l : Launch) (G : zG) (q : zY) (rm : Room) (av : List Value) (M : zM) (post : zM → Prop) (xpost : String → zM → Prop) : Prop := ∀ sz : Nat, vx_Met l q.1 (z_ws q) rm (va_Pc av (z_B G M sz)) (va_Qv post (z_E G M sz) (z_A M sz)) (z_XC G M sz xpost) rm.cells rm.slots (z_A M sz)
/-- an answer that is a cell: the method's answer is told through va_Qq -/
def z_Xr (l : Launch) (G : zG) (q : zY) (rm : Room) (av : List Value) (M : zM) (post : Nat → zM → Prop) (xpost : String → zM → Prop) : Prop := ∀ sz : Nat, vx_Met l q.1 (z_ws q) rm (va_Pc av (z_B G M sz)) (va_Qq (fun (r : Option Nat) (u : zM) => ∃ a, r = some a ∧ post a u) (z_E G M sz) (z_A M sz)) (z_XC G M sz xpost) rm.cells rm.slots (z_A M sz)
theorem z_h_same {G : zG} {M : zM} {H H1 : Heap} (h : z_h G M H) (oq : ∀ q : Nat, q < H.size → H1[q]? = H[q]?) : z_h G M H1 := fun a e ha => (h a e ha).kept (oq a (z_h_lt h ha))
theorem z_XC_of {G : zG} {M M' : zM} {s t : State} {H : Heap} {locs : List Loc} {xpost : String → zM → Prop} {E : String} (h1 : z_h G M' H) (h2 : z_in (z_A M s.heap.size) M') (h3 : va_S (z_A M s.heap.size) s.heap H locs) (hx : xpost E M') (hz : H.size ≤ t.heap.size) (oq : ∀ q : Nat, q < H.size → t.heap[q]? = H[q]?) : z_XC G M s.heap.size xpost E s t :=
  ⟨M', trivial, ⟨hx, z_h_same h1 oq, h2⟩, Nat.le_trans h3.1 hz, fun q g1 g2 => (oq q (Nat.lt_of_lt_of_le g1 h3.1)).trans (h3.2.1 q g1 g2)⟩
/-- what a body that may throw may do at its end: throw a new exception, or let one pass -/
def z_thr (X : zX) (q : zY) (rm : Room) (xpost : String → zM → Prop) : Prop := ∀ {M' : zM} {k n pc : Nat} {lv : List (Nat × Value)} {st : List Value} (cls text : String) (names : List String) (ik is ic : Nat), Bundle.fit cls = true → (∀ n ∈ names, Bundle.fit n = true) → Cond.classLink q.1.cls ik cls ∈ gw → Cond.initialized cls ∈ gw → q.1.cls = RX3 → (is, text) ∈ z_sC →
  (∀ w ∈ vx_atS q.1.cls ic cls names, w.before (z_a X) (z_s X) = true) → (∀ w ∈ Cond.classLink q.1.cls ik cls :: Cond.initialized cls :: vx_atS q.1.cls ic cls names, vx_ot w = true) → decode q.2.1 pc = .ok (.new ik, 3) → decode q.2.1 (pc + 3) = .ok (.dup, 1) → decode q.2.1 (pc + 4) = .ok (.ldc is, 2) → decode q.2.1 (pc + 6) = .ok (.invokespecial ic, 3) → decode q.2.1 (pc + 9) = .ok (.athrow, 1) →
  names.length + 3 < rm.frames → (st.map fun v => v.category).sum + (13 * (names.length + 1) + 43) ≤ rm.locals → k + 1 ≤ rm.cells → n + 6 ≤ rm.slots → xpost cls M' → z_W X M' k n pc lv st
def z_prp (X : zX) (rm : Room) (xpost : String → zM → Prop) : Prop := ∀ {M' : zM} {k n pc : Nat} {lv : List (Nat × Value)} {st : List Value} {E : String}, xpost E M' → k ≤ rm.cells → n ≤ rm.slots → z_V X M' k n pc lv st E
section ZXE
variable {l : Launch} {G : zG} {q : zY} {rm : Room} {av : List Value} {M : zM}
theorem z_thr_of {p : Program} {e : Env} {s : State} {m : MethodId} {below : List Frame} {meth : Method} {c : Code} {Qc : Array Value → State → Outcome → State → Prop} {xpost : String → zM → Prop} (hl : l.stackTraces = false) (hlocks : meth.locks = false) (ht : ∀ x ∈ c.exceptionTable.toList, False) (C : z_C (p, l, e, rm, s, m, av.toArray, below, meth, c, vx_MQ below Qc (z_XC G M s.heap.size xpost) av.toArray s rm.cells rm.slots (z_A M s.heap.size), z_A M s.heap.size, G) q.2.1 q.1.cls q.2.2.1 rm) :
    z_thr (p, l, e, rm, s, m, av.toArray, below, meth, c, vx_MQ below Qc (z_XC G M s.heap.size xpost) av.toArray s rm.cells rm.slots (z_A M s.heap.size), z_A M s.heap.size, G) q rm xpost := by
  intro M' k n pc lv st cls text names ik is ic f1 f2 w1 w2 hc3 hs hat hgood d0 d3 d4 d6 d9 r1 r2 r3 r4 hx H locs ls h1 h2 h3 h4
  obtain ⟨sa, hsa⟩ := C.2.2.2.2.2.2.1.2.1.2 _ hs
  have hJ := C.2.2.2.2.2.2.1
  exact vx_throwS (XC := z_XC G M s.heap.size xpost) C.1 C.2.1 hl C.2.2.2.1 f1 f2 (z_tow C w1) (z_tow C w2) (by rw [hc3]; exact hsa) hat hgood hJ.2.2.2.2.2.2.1 hJ.2.2.2.2.2.2.2 h3 h4.1 d0 d3 d4 d6 d9 (fun x hx => (ht x hx).elim) r1 r2 r3 r4 hlocks (fun t _ hz oq => z_XC_of h1 h2 h3 hx hz oq) h3.2.2 r3 r4
theorem z_prp_of {p : Program} {e : Env} {s : State} {m : MethodId} {below : List Frame} {meth : Method} {c : Code} {Qc : Array Value → State → Outcome → State → Prop} {xpost : String → zM → Prop} (hlocks : meth.locks = false) (ht : ∀ x ∈ c.exceptionTable.toList, False) :
    z_prp (p, l, e, rm, s, m, av.toArray, below, meth, c, vx_MQ below Qc (z_XC G M s.heap.size xpost) av.toArray s rm.cells rm.slots (z_A M s.heap.size), z_A M s.heap.size, G) rm xpost := by
  intro M' k n pc lv st E hx hk hn H locs ls q9 ce h1 h2 h3 h4 g1 g2 g3
  exact vx_out (XC := z_XC G M s.heap.size xpost) (fun x hx => (ht x hx).elim) hlocks g1 g2 g3 (fun t ht hW => z_XC_of h1 h2 h3 hx (by rw [ht]; exact Nat.le_refl _) (fun q _ => by rw [ht])) h3.2.2 hk hn
theorem z_Xi_of {ty : FieldType} (post : Int32 → zM → Prop) (xpost : String → zM → Prop) (hl : l.stackTraces = false) (hy : plainName q.1.cls = true) (hr : q.2.2.2 = some ty) (hargs : (lg_sl av).length ≤ q.2.2.1)
    (body : ∀ X : zX, z_l X = l → z_G X = G → z_C X q.2.1 q.1.cls q.2.2.1 rm → (∀ {M' : zM} {r : Int32} {k n pc : Nat} {lv : List (Nat × Value)}, decode q.2.1 pc = .ok (.ireturn, 1) → narrow ty (.int r) = .int r → post r M' → k ≤ rm.cells → n ≤ rm.slots → z_W X M' k n pc lv [.int r]) → z_thr X q rm xpost → z_prp X rm xpost → z_W X M 0 0 0 (lv_args 0 av) []) : z_Xi l G q rm av M post xpost := by
  intro sz
  refine vx_ofW (cc := q.2.1) (maxL := q.2.2.1) (ret := q.2.2.2) hy rfl ?_
  intro p e s m args below meth c s₁ B hml ht hv
  obtain ⟨rfl, hsz, hh, hK, hJ⟩ := hv
  subst hsz
  have hl9 := lv_entry av (n := q.2.2.1) hargs
  rw [lg_entry_eq]
  have hts : ∀ w ∈ gw, w.before av.toArray s = true := fun w h => atoms_spec (ws := z_ws q) B.pre w (List.mem_cons_of_mem _ h)
  have C : z_C (p, l, e, rm, s, m, av.toArray, below, meth, c, vx_MQ below (va_Qi post (z_E G M s.heap.size) (z_A M s.heap.size)) (z_XC G M s.heap.size xpost) av.toArray s rm.cells rm.slots (z_A M s.heap.size), z_A M s.heap.size, G) q.2.1 q.1.cls q.2.2.1 rm :=
    ⟨B.exec, B.bytes, hml, findClass_of_methodNamed B.named, hts, hK, hJ, fun q h => Or.inr h, rfl⟩
  exact body _ rfl rfl C
    (fun d hn hp hk hs H locs ls h1 h2 h3 h4 => W.widen hk hs (vx_ret (W.zret B.exec B.bytes (B.returns.trans hr) hn (fun t ht hW => ⟨⟨_, _, rfl, hp, by rw [ht]; exact h1, h2⟩, h3.F ht⟩) h3.2.2 d B.notSynchronized)))
    (z_thr_of hl B.notSynchronized ht C) (z_prp_of B.notSynchronized ht)
    s.heap [] _ hh (fun a e h => Or.inl ⟨e, h⟩) va_S.rf (by rw [show c.maxLocals = q.2.2.1 from hml]; exact hl9)
theorem z_Xv_of (post : zM → Prop) (xpost : String → zM → Prop) (hl : l.stackTraces = false) (hy : plainName q.1.cls = true) (hr : q.2.2.2 = none) (hargs : (lg_sl av).length ≤ q.2.2.1)
    (body : ∀ X : zX, z_l X = l → z_G X = G → z_C X q.2.1 q.1.cls q.2.2.1 rm → (∀ {M' : zM} {k n pc : Nat} {lv : List (Nat × Value)}, decode q.2.1 pc = .ok (.return_, 1) → post M' → k ≤ rm.cells → n ≤ rm.slots → z_W X M' k n pc lv []) → z_thr X q rm xpost → z_prp X rm xpost → z_W X M 0 0 0 (lv_args 0 av) []) : z_Xv l G q rm av M post xpost := by
  intro sz
  refine vx_ofW (cc := q.2.1) (maxL := q.2.2.1) (ret := q.2.2.2) hy rfl ?_
  intro p e s m args below meth c s₁ B hml ht hv
  obtain ⟨rfl, hsz, hh, hK, hJ⟩ := hv
  subst hsz
  have hl9 := lv_entry av (n := q.2.2.1) hargs
  rw [lg_entry_eq]
  have hts : ∀ w ∈ gw, w.before av.toArray s = true := fun w h => atoms_spec (ws := z_ws q) B.pre w (List.mem_cons_of_mem _ h)
  have C : z_C (p, l, e, rm, s, m, av.toArray, below, meth, c, vx_MQ below (va_Qv post (z_E G M s.heap.size) (z_A M s.heap.size)) (z_XC G M s.heap.size xpost) av.toArray s rm.cells rm.slots (z_A M s.heap.size), z_A M s.heap.size, G) q.2.1 q.1.cls q.2.2.1 rm :=
    ⟨B.exec, B.bytes, hml, findClass_of_methodNamed B.named, hts, hK, hJ, fun q h => Or.inr h, rfl⟩
  exact body _ rfl rfl C
    (fun d hp hk hs H locs ls h1 h2 h3 h4 => W.widen hk hs (vx_ret (W.vret B.exec B.bytes (B.returns.trans hr) (fun t ht hW => ⟨⟨_, rfl, hp, by rw [ht]; exact h1, h2⟩, h3.F ht⟩) h3.2.2 d B.notSynchronized)))
    (z_thr_of hl B.notSynchronized ht C) (z_prp_of B.notSynchronized ht)
    s.heap [] _ hh (fun a e h => Or.inl ⟨e, h⟩) va_S.rf (by rw [show c.maxLocals = q.2.2.1 from hml]; exact hl9)
theorem z_Xr_of {ty : FieldType} (post : Nat → zM → Prop) (xpost : String → zM → Prop) (hl : l.stackTraces = false) (hy : plainName q.1.cls = true) (hr : q.2.2.2 = some ty) (hty : (∃ n, ty = .object n) ∨ ∃ t, ty = .array t) (hargs : (lg_sl av).length ≤ q.2.2.1)
    (body : ∀ X : zX, z_l X = l → z_G X = G → z_C X q.2.1 q.1.cls q.2.2.1 rm → (∀ {M' : zM} {a k n pc : Nat} {lv : List (Nat × Value)}, decode q.2.1 pc = .ok (.areturn, 1) → post a M' → k ≤ rm.cells → n ≤ rm.slots → z_W X M' k n pc lv [.ref a]) → z_thr X q rm xpost → z_prp X rm xpost → z_W X M 0 0 0 (lv_args 0 av) []) : z_Xr l G q rm av M post xpost := by
  intro sz
  refine vx_ofW (cc := q.2.1) (maxL := q.2.2.1) (ret := q.2.2.2) hy rfl ?_
  intro p e s m args below meth c s₁ B hml ht hv
  obtain ⟨rfl, hsz, hh, hK, hJ⟩ := hv
  subst hsz
  have hl9 := lv_entry av (n := q.2.2.1) hargs
  rw [lg_entry_eq]
  have hts : ∀ w ∈ gw, w.before av.toArray s = true := fun w h => atoms_spec (ws := z_ws q) B.pre w (List.mem_cons_of_mem _ h)
  have C : z_C (p, l, e, rm, s, m, av.toArray, below, meth, c, vx_MQ below (va_Qq (fun (r : Option Nat) (u : zM) => ∃ a, r = some a ∧ post a u) (z_E G M s.heap.size) (z_A M s.heap.size)) (z_XC G M s.heap.size xpost) av.toArray s rm.cells rm.slots (z_A M s.heap.size), z_A M s.heap.size, G) q.2.1 q.1.cls q.2.2.1 rm :=
    ⟨B.exec, B.bytes, hml, findClass_of_methodNamed B.named, hts, hK, hJ, fun q h => Or.inr h, rfl⟩
  exact body _ rfl rfl C
    (fun {M' a k n pc lv} d hp hk hs H locs ls h1 h2 h3 h4 => W.widen hk hs (vx_ret (W.aret B.exec B.bytes (B.returns.trans hr) hty (Or.inr ⟨a, rfl⟩) (fun t ht hW => ⟨⟨some a, M', rfl, ⟨a, rfl, hp⟩, by rw [ht]; exact h1, h2⟩, h3.F ht⟩) h3.2.2 d B.notSynchronized)))
    (z_thr_of hl B.notSynchronized ht C) (z_prp_of B.notSynchronized ht)
    s.heap [] _ hh (fun a e h => Or.inl ⟨e, h⟩) va_S.rf (by rw [show c.maxLocals = q.2.2.1 from hml]; exact hl9)
end ZXE
section ZXq
variable {p : Program} {l : Launch} {e : Env} {R : Room} {s : State} {m : MethodId} {args : Array Value} {below : List Frame} {meth : Method} {c : Code} {H : Heap} {locs : List Loc} {cells slots : Nat} {Q : State → Prop}
variable {mc ms : Nat} {free : Addr → Prop} {A0 A1 : Nat → Prop} {H0 : Heap} {a : Array Value} {pc : Nat} {ls : Array Slot} {st0 rest : List Value}
theorem vx_callq {S SX : Type} {post : Option Nat → S → Prop} {px : SX → Prop} {B : S → State → Prop} {BX : String → SX → State → Prop} {AX : Nat → Prop} (hr : vx_Run p l e R s m args below meth c H locs cells slots mc ms (F0 m pc ls st0) rest (va_Qq post B A1 a) (vx_X px BX AX) free) (hS : va_S A0 H0 H locs) (hA : ∀ q, q < H.size → A1 q → A0 q) (hf : ∀ q, free q → A0 q) (hAX : ∀ q, q < H.size → AX q → A0 q)
    (kx : ∀ (E : String) (ce : Cell) (q9 : Addr) (u : SX) (t : State) (H1 : Heap) (locs1 : List Loc), t.heap = H1 → s.vm.Alike t.vm → px u → BX E u t → H.size ≤ H1.size → (∀ q : Nat, q < H.size → ¬ AX q → H1[q]? = H[q]?) → va_S A0 H0 H1 locs1 → H1[q9]? = some ce → ce.vm = .none → s.vm.findClass E = some ce.cls → vx_W p l e R s m args below meth c H1 locs1 (cells + mc) (slots + ms) Q (F0 m pc ls rest) q9)
    (kk : ∀ (r : Option Nat) (u : S) (t : State) (H1 : Heap) (locs1 : List Loc), t.heap = H1 → s.vm.Alike t.vm → post r u → B u t → H.size ≤ H1.size → (∀ q : Nat, q < H.size → ¬ A1 q → H1[q]? = H[q]?) → va_S A0 H0 H1 locs1 → W p l e R s m args below meth c H1 locs1 (cells + mc) (slots + ms) Q (F0 m (pc + 3) ls (va_rf r :: rest))) : W p l e R s m args below meth c H locs cells slots Q (F0 m pc ls st0) := by
  intro T hT X
  rcases hr T hT X with ⟨v, st₀, t, T', L, h0, X', hL, e1, e2, ⟨⟨r, u, hv, hp, hb⟩, hF⟩, st⟩ | ⟨q, st₀, t, T', L, E, ce, h0, X', hL, e1, e2, ⟨u, hp, hb, hF⟩, hce, hcv, hcl, st⟩
  · cases hv
    obtain ⟨k1, k2, k3⟩ := vx_keep h0 e1 hS hA hf hL hF
    obtain ⟨t2, a1, b1⟩ := kk r u t T'.heap (locs ++ L) e1.symm (by rw [← e2]; exact X'.warmed.alike) hp hb k1 k2 k3 T' rfl X'
    exact ⟨t2, st t2 a1, b1⟩
  · obtain ⟨k1, k2, k3⟩ := vx_keep h0 e1 hS hAX hf hL hF
    obtain ⟨t2, a1, b1⟩ := kx E ce q u t T'.heap (locs ++ L) e1.symm (by rw [← e2]; exact X'.warmed.alike) hp hb k1 k2 k3 (by rw [e1]; exact hce) hcv hcl T' rfl X'
    exact ⟨t2, st.trans a1, b1⟩
end ZXq
section ZXK
variable {X : zX} {cc : ByteArray} {own : String} {nL : Nat} {rm : Room} {M : zM} {k n k' n' pc : Nat} {lv : List (Nat × Value)} {st rest : List Value} {q : zY} {rmc : Room} {index b ci N : Nat} {fs : List Value} {r : vw_C} {As : List Value} {xpost : String → zM → Prop}
theorem z_callXVi {post : Int32 → zM → Prop} (C : z_C X cc own nL rm) (hM : z_Xi (z_l X) (z_G X) q rmc (.ref b :: As) M post xpost) (cw : CallW (z_R X) (z_s X) (z_a X) own q.1.cls index q.1 q.2.1 q.2.2.1 q.2.2.2 (z_ws q) rmc rmc.cells rmc.slots N) (hb : M b = some (.inr (ci, fs))) (hc : vwCl[ci]? = some r) (hr : r.1 = q.1.cls) (hN : As.length = N) (hst : st = As.reverse ++ .ref b :: rest) (hcat : (rest.map fun v => v.category).sum ≤ 8) (ek : k + rmc.cells = k') (en : n + rmc.slots = n') (hk : k' ≤ rm.cells) (hn : n' ≤ rm.slots) (d : decode cc pc = .ok (.invokevirtual index, 3))
    (kx : ∀ (E : String) (M' : zM), xpost E M' → z_V X M' k' n' pc lv rest E) (kk : ∀ (x : Int32) (M' : zM), post x M' → z_W X M' k' n' (pc + 3) lv (.int x :: rest)) : z_W X M k n pc lv st := by
  subst hst; subst ek; subst en
  intro H locs ls h1 h2 h3 h4
  have hs := z_sub C h2 h3
  exact vx_calli (vx_runV ⟨C.1, C.2.1, rfl, C.2.2.2.1, C.2.2.2.2.1⟩ (hM H.size) cw ⟨z_blind, by rw [← hr]; exact z_recv C h1 hb hc, fun U hU hW => ⟨rfl, z_pre C h1 h2 h3 hU hW⟩⟩ rfl hN h4.1 rfl (lv_room hcat) d (by rw [C.2.2.2.2.2.2.2.2]; exact ⟨hk, hn⟩)) h3 (fun q _ h => hs q h) hs (fun q _ h => hs q h)
    (fun E ce q9 M' t H1 locs1 ht hvm _ hB hz hk1 hS g1 g2 g3 => kx E M' hB.1 H1 locs1 ls q9 ce (by rw [← ht]; exact hB.2.1) (fun a e h => hs a (hB.2.2 a e h)) hS h4 g1 g2 g3)
    (fun x M' t H1 locs1 ht hvm hp hB hz hk1 hS => kk x M' hp H1 locs1 ls (by rw [← ht]; exact hB.1) (fun a e h => hs a (hB.2 a e h)) hS h4)
theorem z_callXVr {post : Nat → zM → Prop} (C : z_C X cc own nL rm) (hM : z_Xr (z_l X) (z_G X) q rmc (.ref b :: As) M post xpost) (cw : CallW (z_R X) (z_s X) (z_a X) own q.1.cls index q.1 q.2.1 q.2.2.1 q.2.2.2 (z_ws q) rmc rmc.cells rmc.slots N) (hb : M b = some (.inr (ci, fs))) (hc : vwCl[ci]? = some r) (hr : r.1 = q.1.cls) (hN : As.length = N) (hst : st = As.reverse ++ .ref b :: rest) (hcat : (rest.map fun v => v.category).sum ≤ 8) (ek : k + rmc.cells = k') (en : n + rmc.slots = n') (hk : k' ≤ rm.cells) (hn : n' ≤ rm.slots) (d : decode cc pc = .ok (.invokevirtual index, 3))
    (kx : ∀ (E : String) (M' : zM), xpost E M' → z_V X M' k' n' pc lv rest E) (kk : ∀ (a : Nat) (M' : zM), post a M' → z_W X M' k' n' (pc + 3) lv (.ref a :: rest)) : z_W X M k n pc lv st := by
  subst hst; subst ek; subst en
  intro H locs ls h1 h2 h3 h4
  have hs := z_sub C h2 h3
  exact vx_callq (vx_runV ⟨C.1, C.2.1, rfl, C.2.2.2.1, C.2.2.2.2.1⟩ (hM H.size) cw ⟨z_blind, by rw [← hr]; exact z_recv C h1 hb hc, fun U hU hW => ⟨rfl, z_pre C h1 h2 h3 hU hW⟩⟩ rfl hN h4.1 rfl (lv_room hcat) d (by rw [C.2.2.2.2.2.2.2.2]; exact ⟨hk, hn⟩)) h3 (fun q _ h => hs q h) hs (fun q _ h => hs q h)
    (fun E ce q9 M' t H1 locs1 ht hvm _ hB hz hk1 hS g1 g2 g3 => kx E M' hB.1 H1 locs1 ls q9 ce (by rw [← ht]; exact hB.2.1) (fun a e h => hs a (hB.2.2 a e h)) hS h4 g1 g2 g3)
    (fun x M' t H1 locs1 ht hvm hp hB hz hk1 hS => by
      obtain ⟨a, rfl, hp⟩ := hp
      exact kk a M' hp H1 locs1 ls (by rw [← ht]; exact hB.1) (fun a e h => hs a (hB.2 a e h)) hS h4)
theorem z_callXSv {post : zM → Prop} (C : z_C X cc own nL rm) (hM : z_Xv (z_l X) (z_G X) q rmc As M post xpost) (cw : CallB (z_R X) (z_s X) (z_a X) own index q.1 q.2.1 q.2.2.1 q.2.2.2 (z_ws q) rmc rmc.cells rmc.slots N ∧ (Cond.static q.1).before (z_a X) (z_s X) = true) (hN : As.length = N) (hst : st = As.reverse ++ rest) (hcat : (rest.map fun v => v.category).sum ≤ 8) (ek : k + rmc.cells = k') (en : n + rmc.slots = n') (hk : k' ≤ rm.cells) (hn : n' ≤ rm.slots) (d : decode cc pc = .ok (.invokestatic index, 3))
    (kx : ∀ (E : String) (M' : zM), xpost E M' → z_V X M' k' n' pc lv rest E) (kk : ∀ (M' : zM), post M' → z_W X M' k' n' (pc + 3) lv rest) : z_W X M k n pc lv st := by
  subst hst; subst ek; subst en
  intro H locs ls h1 h2 h3 h4
  have hs := z_sub C h2 h3
  exact vx_callv (vx_runS ⟨C.1, C.2.1, rfl, C.2.2.2.1, C.2.2.2.2.1⟩ (hM H.size) cw ⟨z_blind, fun U hU hW => ⟨rfl, z_pre C h1 h2 h3 hU hW⟩⟩ rfl hN h4.1 rfl (lv_room hcat) d (by rw [C.2.2.2.2.2.2.2.2]; exact ⟨hk, hn⟩)) h3 (fun q _ h => hs q h) hs (fun q _ h => hs q h)
    (fun E ce q9 M' t H1 locs1 ht hvm _ hB hz hk1 hS g1 g2 g3 => kx E M' hB.1 H1 locs1 ls q9 ce (by rw [← ht]; exact hB.2.1) (fun a e h => hs a (hB.2.2 a e h)) hS h4 g1 g2 g3)
    (fun M' t H1 locs1 ht hvm hp hB hz hk1 hS => kk M' hp H1 locs1 ls (by rw [← ht]; exact hB.1) (fun a e h => hs a (hB.2 a e h)) hS h4)
end ZXK
/-! the exceptions that the class throws -/
def z_nm : List String := ["java/lang/RuntimeException", "java/lang/Exception"]
theorem ht_I {X : zX} {cc : ByteArray} {own : String} {nL : Nat} {rm : Room} (C : z_C X cc own nL rm) : ∀ w ∈ vx_atS RX3 146 "java/lang/IndexOutOfBoundsException" z_nm, w.before (z_a X) (z_s X) = true :=
  vx_hat (B := [.castable "java/lang/IndexOutOfBoundsException" "java/lang/IndexOutOfBoundsException", .declares ⟨"java/lang/RuntimeException", "<init>", "(Ljava/lang/String;)V"⟩, .declares ⟨"java/lang/Exception", "<init>", "(Ljava/lang/String;)V"⟩, .declares ⟨"java/lang/Throwable", "<init>", "(Ljava/lang/String;)V"⟩]) (fun w hw => z_tow C (gw_mem ((by decide +kernel : ∀ w ∈ (vx_atS RX3 146 "java/lang/IndexOutOfBoundsException" z_nm).filter goodWord, w ∈ lw_tbl) w hw) (List.mem_filter.mp hw).2)) (by decide +kernel)
    (vx_c (va_Nw.use rfl (C.2.2.2.2.2.2.1.1.2.2.2.1 _ _ kn705)) (vx_c (va_Nw.use rfl (C.2.2.2.2.2.2.1.1.2.2.1 _ kn375)) (vx_c (va_Nw.use rfl (C.2.2.2.2.2.2.1.1.2.2.1 _ kn377)) (vx_c (va_Nw.use rfl (C.2.2.2.2.2.2.1.1.2.2.1 _ kn379)) vx_n))))
theorem ht_A {X : zX} {cc : ByteArray} {own : String} {nL : Nat} {rm : Room} (C : z_C X cc own nL rm) : ∀ w ∈ vx_atS RX3 224 "java/lang/IllegalArgumentException" z_nm, w.before (z_a X) (z_s X) = true :=
  vx_hat (B := [.castable "java/lang/IllegalArgumentException" "java/lang/IllegalArgumentException", .declares ⟨"java/lang/RuntimeException", "<init>", "(Ljava/lang/String;)V"⟩, .declares ⟨"java/lang/Exception", "<init>", "(Ljava/lang/String;)V"⟩, .declares ⟨"java/lang/Throwable", "<init>", "(Ljava/lang/String;)V"⟩]) (fun w hw => z_tow C (gw_mem ((by decide +kernel : ∀ w ∈ (vx_atS RX3 224 "java/lang/IllegalArgumentException" z_nm).filter goodWord, w ∈ lw_tbl) w hw) (List.mem_filter.mp hw).2)) (by decide +kernel)
    (vx_c (va_Nw.use rfl (C.2.2.2.2.2.2.1.1.2.2.2.1 _ _ kn373)) (vx_c (va_Nw.use rfl (C.2.2.2.2.2.2.1.1.2.2.1 _ kn375)) (vx_c (va_Nw.use rfl (C.2.2.2.2.2.2.1.1.2.2.1 _ kn377)) (vx_c (va_Nw.use rfl (C.2.2.2.2.2.2.1.1.2.2.1 _ kn379)) vx_n))))
theorem hg_I : ∀ w ∈ Cond.classLink RX3 142 "java/lang/IndexOutOfBoundsException" :: Cond.initialized "java/lang/IndexOutOfBoundsException" :: vx_atS RX3 146 "java/lang/IndexOutOfBoundsException" z_nm, vx_ot w = true := by decide +kernel
theorem hg_A : ∀ w ∈ Cond.classLink RX3 220 "java/lang/IllegalArgumentException" :: Cond.initialized "java/lang/IllegalArgumentException" :: vx_atS RX3 224 "java/lang/IllegalArgumentException" z_nm, vx_ot w = true := by decide +kernel
