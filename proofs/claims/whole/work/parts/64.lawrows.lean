/-! PART 64: methods that catch; worlds of the law: the class's cells, the reference's, Out's -/
section ZHH
/-- a static method with an exception table: its words -/
def z_hs (q : zY) (hh : List (Nat × Nat × Nat × Nat)) : List Cond := .codeWith q.1 q.2.1 q.2.2.1 q.2.2.2 hh :: gw
def z_Hi (l : Launch) (G : zG) (q : zY) (hh : List (Nat × Nat × Nat × Nat)) (rm : Room) (av : List Value) (M : zM) (post : Int32 → zM → Prop) : Prop := ∀ sz : Nat, Met l q.1 (z_hs q hh) rm (va_Pc av (z_B G M sz)) (va_Qi post (z_E G M sz) (z_A M sz)) rm.cells rm.slots (z_A M sz)
variable {l : Launch} {G : zG} {q : zY} {hh : List (Nat × Nat × Nat × Nat)} {rm : Room} {av : List Value} {M : zM}
theorem z_Hi_of {ty : FieldType} (post : Int32 → zM → Prop) (hy : plainName q.1.cls = true) (hr : q.2.2.2 = some ty) (hargs : (lg_sl av).length ≤ q.2.2.1)
    (body : ∀ X : zX, z_l X = l → z_G X = G → z_C X q.2.1 q.1.cls q.2.2.1 rm → (z_c X).exceptionTable.toList = tableOf hh → (∀ {M' : zM} {r : Int32} {k n pc : Nat} {lv : List (Nat × Value)}, decode q.2.1 pc = .ok (.ireturn, 1) → narrow ty (.int r) = .int r → post r M' → k ≤ rm.cells → n ≤ rm.slots → z_W X M' k n pc lv [.int r]) → z_W X M 0 0 0 (lv_args 0 av) []) : z_Hi l G q hh rm av M post := by
  intro sz
  refine va_MetW (cc := q.2.1) (maxL := q.2.2.1) (ret := q.2.2.2) (hh := hh) hy rfl ?_
  intro p e s m args below meth c s₁ B hml hv
  obtain ⟨rfl, hsz, hh0, hK, hJ⟩ := hv
  subst hsz
  have hl := lv_entry av (n := q.2.2.1) hargs
  rw [lg_entry_eq]
  have hp := atoms_spec (ws := z_hs q hh) B.pre
  have hts : ∀ w ∈ gw, w.before av.toArray s = true := fun w h => hp w (List.mem_cons_of_mem _ h)
  have hT : c.exceptionTable.toList = tableOf hh := vx_table (x := q.1) B (hp _ List.mem_cons_self)
  exact body (p, l, e, rm, s, m, av.toArray, below, meth, c, MQ below (va_Qi post (z_E G M s.heap.size) (z_A M s.heap.size)) av.toArray s rm.cells rm.slots (z_A M s.heap.size), z_A M s.heap.size, G) rfl rfl
    ⟨B.exec, B.bytes, hml, findClass_of_methodNamed B.named, hts, hK, hJ, fun q h => Or.inr h, rfl⟩ hT
    (fun d hn hp hk hs H locs ls h1 h2 h3 h4 => W.widen hk hs (W.zret B.exec B.bytes (B.returns.trans hr) hn (fun t ht hW => ⟨⟨_, _, rfl, hp, by rw [ht]; exact h1, h2⟩, h3.F ht⟩) h3.2.2 d B.notSynchronized))
    s.heap [] _ hh0 (fun a e h => Or.inl ⟨e, h⟩) va_S.rf (by rw [show (z_c (p, l, e, rm, s, m, av.toArray, below, meth, c, _, _, G)).maxLocals = q.2.2.1 from hml]; exact hl)
theorem z_Hi_mono {post post' : Int32 → zM → Prop} (h : z_Hi l G q hh rm av M post) (hq : ∀ r M', post r M' → post' r M') : z_Hi l G q hh rm av M post' := fun sz =>
  z_mf (h sz) (fun _ _ hp => hp) fun a s o t _ ⟨⟨⟨r, u, e, p, b⟩, f⟩, g⟩ => ⟨⟨⟨r, u, e, hq _ _ p, b⟩, f⟩, g⟩
end ZHH
section ZHC
variable {X : zX} {cc : ByteArray} {own : String} {nL : Nat} {rm : Room} {M : zM} {k n pc : Nat} {lv : List (Nat × Value)} {st rest : List Value} {q : zY} {hh : List (Nat × Nat × Nat × Nat)} {rmc : Room} {index N : Nat} {As : List Value}
theorem z_cwH (C : z_C X cc own nL rm) (hq : Cond.codeWith q.1 q.2.1 q.2.2.1 q.2.2.2 hh ∈ gw) (hl : Cond.methodLink own index q.1 ∈ gw) (hs : Cond.static q.1 ∈ gw) (hc : Cond.initialized q.1.cls ∈ gw) (hd : q.1.cls ≠ "java/lang/invoke/MethodHandle" ∧ q.1.cls ≠ "java/lang/invoke/VarHandle" ∧ (parseMethodDescriptor q.1.desc).map (fun d => d.parameters.length) = some N) (hR : rmc.frames + 1 ≤ rm.frames ∧ 8 + (q.2.2.1 + 11) + rmc.locals ≤ rm.locals) :
    vx_CSW (z_R X) (z_s X) (z_a X) own index q.1 q.2.1 q.2.2.1 q.2.2.2 hh (z_hs q hh) rmc rmc.cells rmc.slots N :=
  vx_cwSW N C.2.2.2.2.1 (fun w h => by
    unfold va_wsS at h
    rcases List.mem_append.mp h with h | h
    · have h9 : w ∈ gw := by
        rcases List.mem_cons.mp h with rfl | h
        · exact hl
        rcases List.mem_cons.mp h with rfl | h
        · exact hs
        rcases List.mem_cons.mp h with rfl | h
        · exact hc
        exact absurd h List.not_mem_nil
      exact ⟨h9, gw_good _ h9⟩
    · rcases List.mem_cons.mp h with rfl | h
      · exact ⟨hq, gw_good _ hq⟩
      · exact ⟨h, gw_good _ h⟩) rfl rfl rfl hd (by rw [C.2.2.2.2.2.2.2.2]; exact hR)
theorem z_callHi {post : Int32 → zM → Prop} (C : z_C X cc own nL rm) (hM : z_Hi (z_l X) (z_G X) q hh rmc As M post) (cw : vx_CSW (z_R X) (z_s X) (z_a X) own index q.1 q.2.1 q.2.2.1 q.2.2.2 hh (z_hs q hh) rmc rmc.cells rmc.slots N) (hN : As.length = N) (hst : st = As.reverse ++ rest) (hcat : (rest.map fun v => v.category).sum ≤ 8) {k' n' : Nat} (ek : k + rmc.cells = k') (en : n + rmc.slots = n') (hk : k' ≤ rm.cells) (hn : n' ≤ rm.slots) (d : decode cc pc = .ok (.invokestatic index, 3))
    (kk : ∀ (x : Int32) (M' : zM), post x M' → z_W X M' k' n' (pc + 3) lv (.int x :: rest)) : z_W X M k n pc lv st := by
  subst hst; subst ek; subst en
  intro H locs ls h1 h2 h3 h4
  have hs := z_sub C h2 h3
  exact va_calli (vx_runSW ⟨C.1, C.2.1, rfl, C.2.2.2.1, C.2.2.2.2.1⟩ (hM H.size) cw ⟨z_blind, fun U hU hW => ⟨rfl, z_pre C h1 h2 h3 hU hW⟩⟩ rfl hN h4.1 rfl (lv_room hcat) d (by rw [C.2.2.2.2.2.2.2.2]; exact ⟨hk, hn⟩)) h3 (fun q _ h => hs q h) hs
    (fun x M' t H1 locs1 ht hvm hp hB hz hk1 hS => kk x M' hp H1 locs1 ls (by rw [← ht]; exact hB.1) (fun a e h => hs a (hB.2 a e h)) hS h4)
/-- an exception that this method's table catches -/
theorem z_catch (C : z_C X cc own nL rm) (T : (z_c X).exceptionTable.toList = tableOf hh) {E name : String} (pre : List ExceptionTableEntry) (en : ExceptionTableEntry) (suf : List ExceptionTableEntry) (hsplit : tableOf hh = pre ++ en :: suf) (hpass : ∀ z ∈ pre, covers z pc = false ∨ (z.catchType ≠ 0 ∧ ∃ nm : String, Cond.classLink own z.catchType nm ∈ gw ∧ va_Nc E nm (z_s X))) (hx : covers en pc = true) (h0 : en.catchType ≠ 0) (hlink : Cond.classLink own en.catchType name ∈ gw) (hcast : (Cond.castable E name).before (z_a X) (z_s X) = true)
    (kk : ∀ q : Nat, z_W X M k n en.handlerPc lv [.ref q]) : z_V X M k n pc lv st E :=
  fun H locs ls q ce h1 h2 h3 h4 g1 g2 g3 => vx_catch C.2.2.2.1 pre en suf (T.trans hsplit) (fun z hz => (hpass z hz).imp id fun h => ⟨h.1, h.2.imp fun nm h => ⟨z_tow C h.1, h.2⟩⟩) hx h0 (z_tow C hlink) hcast g1 g2 g3 (kk q H locs ls h1 h2 h3 h4)
theorem z_cI (C : z_C X cc own nL rm) : (Cond.castable "java/lang/IndexOutOfBoundsException" "java/lang/IndexOutOfBoundsException").before (z_a X) (z_s X) = true := va_Nw.use rfl (C.2.2.2.2.2.2.1.1.2.2.2.1 _ _ kn705)
theorem z_cA (C : z_C X cc own nL rm) : (Cond.castable "java/lang/IllegalArgumentException" "java/lang/IllegalArgumentException").before (z_a X) (z_s X) = true := va_Nw.use rfl (C.2.2.2.2.2.2.1.1.2.2.2.1 _ _ kn373)
theorem z_pasA (C : z_C X cc own nL rm) : va_Nc "java/lang/IllegalArgumentException" "java/lang/IndexOutOfBoundsException" (z_s X) := C.2.2.2.2.2.2.1.1.2.2.2.2.2.2.2
theorem z_pop2 (C : z_C X cc own nL rm) {x : Int64} (d : decode cc pc = .ok (.pop2, 1)) (kk : z_W X M k n (pc + 1) lv st) : z_W X M k n pc lv (.long x :: st) :=
  fun H locs ls h1 h2 h3 h4 => lv_pop2_2 C.1 C.2.1 d rfl (kk H locs ls h1 h2 h3 h4)
/-- the law's own script -/
theorem z_sld (C : z_C X cc own nL rm) {b L : Nat} {xs : Nat → Int32} (hX : va_X b L xs (z_s X) (z_s X).heap) (hbl : b < (z_s X).heap.size) (hbA : ¬ z_F X b) {i a : Int32} (hin : vp_in i L) (ha : xs i.toNatClampNeg = a) (d : decode cc pc = .ok (.iaload, 1)) (kk : z_W X M k n (pc + 1) lv (.int a :: st)) : z_W X M k n pc lv (.int i :: .ref b :: st) := by
  subst ha
  exact fun H locs ls h1 h2 h3 h4 => va_sld C.1 C.2.1 hX hbl hbA h3 hin d (kk H locs ls h1 h2 h3 h4)
theorem z_slen (C : z_C X cc own nL rm) {b L : Nat} {xs : Nat → Int32} (hX : va_X b L xs (z_s X) (z_s X).heap) (hbl : b < (z_s X).heap.size) (hbA : ¬ z_F X b) (d : decode cc pc = .ok (.arraylength, 1)) (kk : z_W X M k n (pc + 1) lv (.int (Int32.ofNat L) :: st)) : z_W X M k n pc lv (.ref b :: st) :=
  fun H locs ls h1 h2 h3 h4 => va_slen C.1 C.2.1 hX hbl hbA h3 d (kk H locs ls h1 h2 h3 h4)
end ZHC
/-! worlds -/
theorem z_un_upr {A B : zM} {a : Nat} {e : va_E} (h : A a = none) : z_up (z_un A B) a e = z_un A (z_up B a e) := by
  funext q
  by_cases hq : q = a
  · subst hq
    rw [z_up_s, z_un_n h, z_up_s]
  · rw [z_up_n _ _ hq]
    unfold z_un
    rw [z_up_n _ _ hq]
theorem z_dj_up {A B : zM} {a : Nat} {e : va_E} (d : z_dj A B) (h : A a = none) : z_dj A (z_up B a e) := fun q f hq => by
  rw [z_up_n _ _ (z_neN hq h)]
  exact d q f hq
theorem z_up_sm {A : zM} {a : Nat} {e : va_E} (h : A a = some e) : z_up A a e = A := by
  funext q
  by_cases hq : q = a
  · subst hq
    rw [z_up_s, h]
  · rw [z_up_n _ _ hq]
theorem z_un_o {A B : zM} {a : Nat} {e : va_E} (d : z_dj A B) (h : B a = some e) : A a = none := z_dj_sym d a e h
/-- the class's cells of a state, wherever they lie -/
def s_CI (G : zG) (x pa sp ln rf sb : Nat) (u : sS) (C : zM) : Prop := ∃ P RA VA, CI G u x P RA VA pa sp ln rf sb C
def s_RI (G : zG) (m pn td : Nat) (th : Int32) (u : sS) (R : zM) : Prop := ∃ K tp, RI G u m th K tp pn td R
/-- what a call of the class through the law leaves: what was caught (k), the state, Out's number -/
def w_P (G : zG) (x pa sp ln rf sb ou : Nat) (B : zM) (k : Int32) (u : sS) (b : sR) : Int32 → zM → Prop := fun r Mz => r = k ∧ ∃ C' on os, s_CI G x pa sp ln rf sb (if k = 0 then b.2 else u) C' ∧ z_dj C' (z_up B ou (cOu on os)) ∧ Mz = z_un C' (z_up B ou (cOu on os)) ∧ (k = 0 → on = b.1.toInt64)
def w_T (G : zG) (x pa sp ln rf sb ou : Nat) (B : zM) (k : Int32) (u : sS) (ls : List Int32) : Int32 → zM → Prop := fun r Mz => r = k ∧ ∃ C' on os, s_CI G x pa sp ln rf sb u C' ∧ z_dj C' (z_up B ou (cOu on os)) ∧ Mz = z_un C' (z_up B ou (cOu on os)) ∧ (k = 0 → ∃ s9, os = some s9 ∧ j_St G s9 C' ls)
section WP
variable {G : zG} {x pa sp ln rf sb ou : Nat} {B C' : zM} {k y r9 : Int32} {u : sS} {b : sR} {on on' : Int64} {os os' : Option Nat}
theorem w_ok (h : s_CI G x pa sp ln rf sb b.2 C') (d : z_dj C' B) (ho : B ou = some (cOu on os)) (hk : k = 0) (hy : y = b.1) : w_P G x pa sp ln rf sb ou B k u b 0 (z_up (z_un C' B) ou (cOu y.toInt64 os)) :=
  ⟨hk.symm, C', _, os, by rw [if_pos hk]; exact h, z_dj_up d (z_un_o d ho), z_un_upr (z_un_o d ho), fun _ => by rw [hy]⟩
theorem w_th (h : s_CI G x pa sp ln rf sb u C') (d : z_dj C' B) (ho : B ou = some (cOu on os)) (hk : k = r9) (h0 : ¬ r9 = 0) : w_P G x pa sp ln rf sb ou B k u b r9 (z_un C' B) :=
  ⟨hk.symm, C', on, os, by rw [if_neg (by rw [hk]; exact h0)]; exact h, by rw [z_up_sm ho]; exact d, by rw [z_up_sm ho], fun q => absurd (hk.symm.trans q) h0⟩
theorem w_okT {ls : List Int32} {s9 : Nat} (h : s_CI G x pa sp ln rf sb u C') (hS : j_St G s9 C' ls) (d : z_dj C' B) (ho : B ou = some (cOu on os)) (hk : k = 0) : w_T G x pa sp ln rf sb ou B k u ls 0 (z_up (z_un C' B) ou (cOu on' (some s9))) :=
  ⟨hk.symm, C', on', some s9, h, z_dj_up d (z_un_o d ho), z_un_upr (z_un_o d ho), fun _ => ⟨s9, rfl, hS⟩⟩
theorem w_thT {ls : List Int32} (h : s_CI G x pa sp ln rf sb u C') (d : z_dj C' B) (ho : B ou = some (cOu on os)) (hk : k = r9) (h0 : ¬ r9 = 0) : w_T G x pa sp ln rf sb ou B k u ls r9 (z_un C' B) :=
  ⟨hk.symm, C', on, os, h, by rw [z_up_sm ho]; exact d, by rw [z_up_sm ho], fun q => absurd (hk.symm.trans q) h0⟩
end WP
theorem z_lt1 {a : Int32} : ¬ z_lt a 1 = 2 := by
  unfold z_lt
  split
  · decide
  · decide
