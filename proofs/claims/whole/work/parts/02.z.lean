/-- the words that every method's contract may use: the tables' good words -/
def gw : List Cond := lw_tbl.filter goodWord
theorem gw_mem {w : Cond} (h : w ∈ lw_tbl) (g : goodWord w = true) : w ∈ gw := List.mem_filter.mpr ⟨h, g⟩
theorem gw_good : ∀ w ∈ gw, (w.onTables && w.keeps) = true ∨ ∃ ty, w = .arrayClass ty := fun _ h => good_of_word (List.mem_filter.mp h).2
theorem gw_p {i : Nat} {w : Cond} (h : (k2_sels lw_privs)[i]? = some w) (g : goodWord w = true) : w ∈ gw := gw_mem (List.mem_append_left _ (List.mem_of_getElem? h)) g
theorem gw_1 {i : Nat} {w : Cond} (h : tables_1_1[i]? = some w) (g : goodWord w = true) : w ∈ gw := gw_mem (List.mem_append_right _ (List.mem_append_left _ (List.mem_of_getElem? h))) g
theorem gw_2 {i : Nat} {w : Cond} (h : tables_1_2[i]? = some w) (g : goodWord w = true) : w ∈ gw := gw_mem (List.mem_append_right _ (List.mem_append_right _ (List.mem_append_left _ (List.mem_of_getElem? h)))) g
theorem gw_3 {i : Nat} {w : Cond} (h : tables_1_3[i]? = some w) (g : goodWord w = true) : w ∈ gw := gw_mem (List.mem_append_right _ (List.mem_append_right _ (List.mem_append_right _ (List.mem_append_left _ (List.mem_of_getElem? h))))) g
theorem gw_4 {i : Nat} {w : Cond} (h : tables_1_4[i]? = some w) (g : goodWord w = true) : w ∈ gw := gw_mem (List.mem_append_right _ (List.mem_append_right _ (List.mem_append_right _ (List.mem_append_right _ (List.mem_append_left _ (List.mem_of_getElem? h)))))) g
theorem gw_5 {i : Nat} {w : Cond} (h : tables_1_5[i]? = some w) (g : goodWord w = true) : w ∈ gw := gw_mem (List.mem_append_right _ (List.mem_append_right _ (List.mem_append_right _ (List.mem_append_right _ (List.mem_append_right _ (List.mem_append_left _ (List.mem_of_getElem? h))))))) g
theorem gw_6 {i : Nat} {w : Cond} (h : tables_1_6[i]? = some w) (g : goodWord w = true) : w ∈ gw := gw_mem (List.mem_append_right _ (List.mem_append_right _ (List.mem_append_right _ (List.mem_append_right _ (List.mem_append_right _ (List.mem_append_right _ (List.mem_of_getElem? h))))))) g
/-- a method: its name, its bytes, its locals, what it returns -/
abbrev zY : Type := MethodName × ByteArray × Nat × Option FieldType
def z_ws (q : zY) : List Cond := .code q.1 q.2.1 q.2.2.1 q.2.2.2 :: gw
def z_rm (d c s : Nat) : Room := { frames := d, cells := c, slots := s, locals := 64 * d }
theorem z_good {q : zY} (hq : Cond.code q.1 q.2.1 q.2.2.1 q.2.2.2 ∈ gw) : GoodIn gw (z_ws q) := fun w h => (List.mem_cons.mp h).elim (fun e => by rw [e]; exact ⟨hq, gw_good _ hq⟩) (fun h => ⟨h, gw_good _ h⟩)
/-! THE Z LAYER. A world is a partial map from addresses to cells (zM); a position in a method is a pure value: pc, the locals that are known (lv), the stack (st), the world, the room used. z_W says: from there the walk comes to its end. Contracts (z_Mi ..) speak of the world before and of the answer with the world behind. -/
abbrev zM : Type := Nat → Option va_E
/-- the last two: where the String constants stand, and their letters -/
abbrev zG : Type := va_G × ClassId × ClassId × ClassId × ClassId × (Nat → Nat) × (Nat → Nat)
def z_tys (G : zG) : List (ClassId × FieldType) := [(G.2.1, .byte), (G.2.2.1, .int), (G.2.2.2.1, .object RX1), (G.2.2.2.2.1, .array .int)]
def z_up (M : zM) (a : Nat) (e : va_E) : zM := fun q => if q = a then some e else M q
theorem z_up_s (M : zM) (a : Nat) (e : va_E) : z_up M a e a = some e := by simp [z_up]
theorem z_up_n (M : zM) {a b : Nat} (e : va_E) (h : b ≠ a) : z_up M a e b = M b := by simp [z_up, h]
def z_h (G : zG) (M : zM) (H : Heap) : Prop := ∀ (a : Nat) (e : va_E), M a = some e → va_at G.1 vwCl (a, e) H
def z_in (A : Nat → Prop) (M : zM) : Prop := ∀ (a : Nat) (e : va_E), M a = some e → A a
def z_A (M : zM) (sz : Nat) : Nat → Prop := fun q => (∃ e, M q = some e) ∨ sz ≤ q
def z_K (G : zG) (U : State) : Prop := va_K G.1 vwCl (z_tys G) U
theorem z_one {G : zG} {M : zM} {H : Heap} (h : z_h G M H) {a : Nat} {e : va_E} (ha : M a = some e) : va_P G.1 vwCl [(a, e)] H := fun k q hk => by
  cases k with
  | zero => cases hk; exact h a e ha
  | succ k => simp at hk
theorem z_h_up {G : zG} {M : zM} {H H1 : Heap} (h : z_h G M H) {a : Nat} {e : va_E} (he : va_at G.1 vwCl (a, e) H1) (oq : ∀ q : Nat, q ≠ a → H1[q]? = H[q]?) : z_h G (z_up M a e) H1 := by
  intro b f hb
  by_cases hba : b = a
  · subst hba
    rw [z_up_s] at hb
    cases hb
    exact he
  · rw [z_up_n _ _ hba] at hb
    exact (h b f hb).kept (oq b hba)
theorem z_h_lt {G : zG} {M : zM} {H : Heap} (h : z_h G M H) {a : Nat} {e : va_E} (ha : M a = some e) : a < H.size := (h a e ha).lt
theorem z_h_new {G : zG} {M : zM} {H H1 : Heap} (h : z_h G M H) {a : Nat} {e : va_E} (ha : a = H.size) (he : va_at G.1 vwCl (a, e) H1) (oq : ∀ q : Nat, q < H.size → H1[q]? = H[q]?) : z_h G (z_up M a e) H1 := by
  intro b f hb
  by_cases hba : b = a
  · subst hba
    rw [z_up_s] at hb
    cases hb
    exact he
  · rw [z_up_n _ _ hba] at hb
    exact (h b f hb).kept (oq b (z_h_lt h hb))
theorem z_h_no {G : zG} {M : zM} {H : Heap} (h : z_h G M H) {a : Nat} (ha : H.size ≤ a) : M a = none := by
  cases hb : M a with
  | none => rfl
  | some e => exact absurd (z_h_lt h hb) (by omega)
theorem z_in_up {A : Nat → Prop} {M : zM} (h : z_in A M) {a : Nat} {e : va_E} (ha : A a) : z_in A (z_up M a e) := by
  intro b f hb
  by_cases hba : b = a
  · rw [hba]; exact ha
  · rw [z_up_n _ _ hba] at hb
    exact h b f hb
def z_d1 (j : Nat) : Value := .int (nI (48 + j % 10))
def z_d10 (j : Nat) : Value := .int (nI (48 + j / 10))
/-- words that are told of the vm, not of the tables' rows: links to nest mates' members, casts -/
def nestWord : Cond → Bool
  | .fieldLinkNest .. => true
  | .methodLinkNest .. => true
  | .declares _ => true
  | .castable .. => true
  | .arrayOver (.object _) => true
  | .arrayOver (.array _) => true
  | _ => false
def z_nest : List Cond := lw_tbl.filter nestWord
theorem gn_1 {i : Nat} {w : Cond} (h : tables_1_1[i]? = some w) (g : nestWord w = true) : w ∈ z_nest := List.mem_filter.mpr ⟨List.mem_append_right _ (List.mem_append_left _ (List.mem_of_getElem? h)), g⟩
theorem gn_2 {i : Nat} {w : Cond} (h : tables_1_2[i]? = some w) (g : nestWord w = true) : w ∈ z_nest := List.mem_filter.mpr ⟨List.mem_append_right _ (List.mem_append_right _ (List.mem_append_left _ (List.mem_of_getElem? h))), g⟩
theorem gn_3 {i : Nat} {w : Cond} (h : tables_1_3[i]? = some w) (g : nestWord w = true) : w ∈ z_nest := List.mem_filter.mpr ⟨List.mem_append_right _ (List.mem_append_right _ (List.mem_append_right _ (List.mem_append_left _ (List.mem_of_getElem? h)))), g⟩
theorem gn_4 {i : Nat} {w : Cond} (h : tables_1_4[i]? = some w) (g : nestWord w = true) : w ∈ z_nest := List.mem_filter.mpr ⟨List.mem_append_right _ (List.mem_append_right _ (List.mem_append_right _ (List.mem_append_right _ (List.mem_append_left _ (List.mem_of_getElem? h))))), g⟩
theorem gn_5 {i : Nat} {w : Cond} (h : tables_1_5[i]? = some w) (g : nestWord w = true) : w ∈ z_nest := List.mem_filter.mpr ⟨List.mem_append_right _ (List.mem_append_right _ (List.mem_append_right _ (List.mem_append_right _ (List.mem_append_right _ (List.mem_append_left _ (List.mem_of_getElem? h)))))), g⟩
theorem gn_6 {i : Nat} {w : Cond} (h : tables_1_6[i]? = some w) (g : nestWord w = true) : w ∈ z_nest := List.mem_filter.mpr ⟨List.mem_append_right _ (List.mem_append_right _ (List.mem_append_right _ (List.mem_append_right _ (List.mem_append_right _ (List.mem_append_right _ (List.mem_of_getElem? h)))))), g⟩
/-- the private methods that a StringBuilder has of its abstract class: what a call of one selects -/
def z_pSB : List MethodName := [yJ5_ensureCapacityInternal_d00df, yJ5_newCapacity_0f7a4, yJ5_putStringAt_47b60, yJ5_inflateIfNeededFor_a7421]
def z_N (U : State) : Prop := (∀ a i b n d h, Cond.fieldLinkNest a i b n d h ∈ z_nest → va_Nw (.fieldLinkNest a i b n d h) U) ∧ (∀ a i x h, Cond.methodLinkNest a i x h ∈ z_nest → va_Nw (.methodLinkNest a i x h) U) ∧ (∀ x, Cond.declares x ∈ z_nest → va_Nw (.declares x) U) ∧ (∀ C T, Cond.castable C T ∈ z_nest → va_Nw (.castable C T) U) ∧ (∀ C, Cond.arrayOver (.object C) ∈ z_nest → va_AO C U) ∧ (∀ t, Cond.arrayOver (.array t) ∈ z_nest → (Cond.arrayOver (.array t)).before #[] U = true) ∧ (∀ y, y ∈ z_pSB → va_Nw (.selects RJ4 y y) U) ∧ va_Nc "java/lang/IllegalArgumentException" "java/lang/IndexOutOfBoundsException" U
theorem z_N_warm {s U : State} (hW : s.WarmedH U.vm) (h : z_N s) : z_N U :=
  ⟨fun a i b n d e q => va_Nw.warmF hW (h.1 a i b n d e q), fun a i x e q => va_Nw.warmM hW (h.2.1 a i x e q), fun x q => va_Nw.warmD hW (h.2.2.1 x q), fun C T q => va_Nw.warmC hW (h.2.2.2.1 C T q), fun C q => va_AO.moved hW.alike (h.2.2.2.2.1 C q), fun t q => over_moved hW.alike (h.2.2.2.2.2.1 t q), fun y q => word_at hW (Or.inl rfl) (h.2.2.2.2.2.2.1 y q), va_Nc.moved hW.alike h.2.2.2.2.2.2.2⟩
theorem z_N_same {u U : State} (hv : u.vm = U.vm) (h : z_N u) : z_N U := by
  have hal : u.vm.Alike U.vm := by rw [hv]; exact Vm.Alike.refl U.vm
  exact ⟨fun a i b n d e q => va_Nw.same rfl hv (h.1 a i b n d e q), fun a i x e q => va_Nw.same rfl hv (h.2.1 a i x e q), fun x q => va_Nw.same rfl hv (h.2.2.1 x q), fun C T q => va_Nw.same rfl hv (h.2.2.2.1 C T q), fun C q => va_AO.moved hal (h.2.2.2.2.1 C q), fun t q => over_moved hal (h.2.2.2.2.2.1 t q), fun y q => va_tabs rfl hv (h.2.2.2.2.2.2.1 y q), va_Nc.moved hal h.2.2.2.2.2.2.2⟩
/-- String constants: the reference's (their places in its file, their letters), and the class's texts of exceptions -/
def z_sK (i : Nat) : Nat × String := match i with
  | 0 => (104, "")
  | 1 => (120, " ")
  | 2 => (129, "|")
  | 3 => (131, ">")
  | _ => (133, "<")
def z_sC : List (Nat × String) := [(218, "no such pane"), (222, "a number is out of its bounds"), (225, "a value is below 0"), (144, "no such place of the long row")]
def z_T (G : zG) (A : Nat → Prop) (U : State) (H : Heap) : Prop := (vk_S 5 [0, 1, 1, 1, 1] [[], [32], [124], [62], [60]] G.2.2.2.2.2.1 G.2.2.2.2.2.2 A U H ∧ ∀ i : Nat, i < 5 → vk_R RX5 (z_sK i).1 (z_sK i).2 (G.2.2.2.2.2.1 i) U) ∧ ∀ p ∈ z_sC, ∃ sa : Nat, vk_R RX3 p.1 p.2 sa U
def z_J (G : zG) (A : Nat → Prop) (U : State) (H : Heap) : Prop :=
  z_N U ∧ z_T G A U H ∧ va_Z "java/lang/String" "COMPACT_STRINGS" "Z" (.int 1) A U H ∧ (∃ t : Nat, va_Z "java/lang/Integer" "DigitOnes" "[B" (.ref t) A U H ∧ va_T .byte t 100 z_d1 A U H) ∧ (∃ t : Nat, va_Z "java/lang/Integer" "DigitTens" "[B" (.ref t) A U H ∧ va_T .byte t 100 z_d10 A U H) ∧
  va_Zq "jdk/internal/util/Preconditions" "SIOOBE_FORMATTER" "Ljava/util/function/BiFunction;" A U H ∧ vx_Zq Bundle.tN "UNASSIGNED_STACK" Bundle.steD A U H ∧ vx_Zq Bundle.tN "SUPPRESSED_SENTINEL" Bundle.listD A U H
theorem z_J_warm {G : zG} {A : Nat → Prop} {s U : State} {H : Heap} (hW : s.WarmedH U.vm) (h : z_J G A s H) : z_J G A U H := by
  obtain ⟨h0, ⟨⟨k3, k4⟩, k5⟩, h1, ⟨t2, a2, b2⟩, ⟨t3, a3, b3⟩, h4, h5, h6⟩ := h
  have hvm := hW.alike
  exact ⟨z_N_warm hW h0, ⟨⟨k3.moved hvm, fun i hi => (k4 i hi).warm hW⟩, fun p hp => (k5 p hp).imp fun sa hs => hs.warm hW⟩, h1.moved hvm, ⟨t2, a2.moved hvm, b2.moved hvm⟩, ⟨t3, a3.moved hvm, b3.moved hvm⟩, h4.moved hvm, h5.moved hvm, h6.moved hvm⟩
theorem z_J_same {G : zG} {A : Nat → Prop} {u U : State} {H : Heap} (hv : u.vm = U.vm) (h : z_J G A u H) : z_J G A U H := by
  obtain ⟨h0, ⟨⟨k3, k4⟩, k5⟩, h1, ⟨t2, a2, b2⟩, ⟨t3, a3, b3⟩, h4, h5, h6⟩ := h
  have hvm : u.vm.Alike U.vm := by rw [hv]; exact Vm.Alike.refl U.vm
  exact ⟨z_N_same hv h0, ⟨⟨k3.moved hvm, fun i hi => (k4 i hi).same hv.symm⟩, fun p hp => (k5 p hp).imp fun sa hs => hs.same hv.symm⟩, h1.moved hvm, ⟨t2, a2.moved hvm, b2.moved hvm⟩, ⟨t3, a3.moved hvm, b3.moved hvm⟩, h4.moved hvm, h5.moved hvm, h6.moved hvm⟩
theorem z_J_kept {G : zG} {A : Nat → Prop} {U : State} {H H1 : Heap} (h : z_J G A U H) (hq : ∀ a : Nat, a < H.size → ¬ A a → H1[a]? = H[a]?) : z_J G A U H1 := by
  obtain ⟨h0, ⟨⟨k3, k4⟩, k5⟩, h1, ⟨t2, a2, b2⟩, ⟨t3, a3, b3⟩, h4, h5, h6⟩ := h
  exact ⟨h0, ⟨⟨k3.kept hq, k4⟩, k5⟩, h1.kept hq, ⟨t2, a2.kept hq, b2.kept hq⟩, ⟨t3, a3.kept hq, b3.kept hq⟩, h4.kept hq, h5.kept hq, h6.kept hq⟩
theorem z_J_narrow {G : zG} {A B : Nat → Prop} {U : State} {H : Heap} (h : z_J G A U H) (hAB : ∀ q, B q → A q) : z_J G B U H := by
  obtain ⟨h0, ⟨⟨k3, k4⟩, k5⟩, h1, ⟨t2, a2, b2⟩, ⟨t3, a3, b3⟩, h4, h5, h6⟩ := h
  exact ⟨h0, ⟨⟨k3.narrow hAB, k4⟩, k5⟩, h1.narrow hAB, ⟨t2, a2.narrow hAB, b2.narrow hAB⟩, ⟨t3, a3.narrow hAB, b3.narrow hAB⟩, h4.narrow hAB, h5.narrow hAB, h6.narrow hAB⟩
abbrev zX : Type := Program × Launch × Env × Room × State × MethodId × Array Value × List Frame × Method × Code × (State → Prop) × (Nat → Prop) × zG
abbrev z_p (X : zX) : Program := X.1
abbrev z_l (X : zX) : Launch := X.2.1
abbrev z_e (X : zX) : Env := X.2.2.1
abbrev z_R (X : zX) : Room := X.2.2.2.1
abbrev z_s (X : zX) : State := X.2.2.2.2.1
abbrev z_m (X : zX) : MethodId := X.2.2.2.2.2.1
abbrev z_a (X : zX) : Array Value := X.2.2.2.2.2.2.1
abbrev z_b (X : zX) : List Frame := X.2.2.2.2.2.2.2.1
abbrev z_me (X : zX) : Method := X.2.2.2.2.2.2.2.2.1
abbrev z_c (X : zX) : Code := X.2.2.2.2.2.2.2.2.2.1
abbrev z_Q (X : zX) : State → Prop := X.2.2.2.2.2.2.2.2.2.2.1
abbrev z_F (X : zX) : Nat → Prop := X.2.2.2.2.2.2.2.2.2.2.2.1
abbrev z_G (X : zX) : zG := X.2.2.2.2.2.2.2.2.2.2.2.2
def z_W (X : zX) (M : zM) (k n pc : Nat) (lv : List (Nat × Value)) (st : List Value) : Prop := ∀ (H : Heap) (locs : List Loc) (ls : Array Slot), z_h (z_G X) M H → z_in (z_F X) M → va_S (z_F X) (z_s X).heap H locs → lv_has ls (z_c X).maxLocals lv →
  W (z_p X) (z_l X) (z_e X) (z_R X) (z_s X) (z_m X) (z_a X) (z_b X) (z_me X) (z_c X) H locs k n (z_Q X) (F0 (z_m X) pc ls st)
/-- what is known of a walk's surroundings: the machine, the code, the locals' number, the class, the words, the classes known, the JDK's statics, what is free, the room -/
def z_C (X : zX) (cc : ByteArray) (own : String) (nL : Nat) (rm : Room) : Prop :=
  (z_p X).tables.exec = Jvm.exec ∧ (z_c X).code = cc ∧ (z_c X).maxLocals = nL ∧ (z_s X).vm.findClass own = some (z_m X).cls ∧ (∀ w ∈ gw, w.before (z_a X) (z_s X) = true) ∧ z_K (z_G X) (z_s X) ∧ z_J (z_G X) (z_F X) (z_s X) (z_s X).heap ∧ (∀ q : Nat, (z_s X).heap.size ≤ q → z_F X q) ∧ z_R X = rm
theorem z_tow {X : zX} {cc : ByteArray} {own : String} {nL : Nat} {rm : Room} (C : z_C X cc own nL rm) {w : Cond} (h : w ∈ gw) : w.before (z_a X) (z_s X) = true := C.2.2.2.2.1 w h
/-- what a callee is given, what it gives back -/
def z_B (G : zG) (M : zM) (sz : Nat) (U : State) : Prop := U.heap.size = sz ∧ z_h G M U.heap ∧ z_K G U ∧ z_J G (z_A M sz) U U.heap
def z_E (G : zG) (M : zM) (sz : Nat) (M' : zM) (t : State) : Prop := z_h G M' t.heap ∧ z_in (z_A M sz) M'
def z_Mi (l : Launch) (G : zG) (q : zY) (rm : Room) (av : List Value) (M : zM) (post : Int32 → zM → Prop) : Prop := ∀ sz : Nat, Met l q.1 (z_ws q) rm (va_Pc av (z_B G M sz)) (va_Qi post (z_E G M sz) (z_A M sz)) rm.cells rm.slots (z_A M sz)
def z_Ml (l : Launch) (G : zG) (q : zY) (rm : Room) (av : List Value) (M : zM) (post : Int64 → zM → Prop) : Prop := ∀ sz : Nat, Met l q.1 (z_ws q) rm (va_Pc av (z_B G M sz)) (va_Ql post (z_E G M sz) (z_A M sz)) rm.cells rm.slots (z_A M sz)
def z_Mv (l : Launch) (G : zG) (q : zY) (rm : Room) (av : List Value) (M : zM) (post : zM → Prop) : Prop := ∀ sz : Nat, Met l q.1 (z_ws q) rm (va_Pc av (z_B G M sz)) (va_Qv post (z_E G M sz) (z_A M sz)) rm.cells rm.slots (z_A M sz)
/-- an answer that is a cell: (its address, the world) -/
def z_Mr (l : Launch) (G : zG) (q : zY) (rm : Room) (av : List Value) (M : zM) (post : Nat → zM → Prop) : Prop := ∀ sz : Nat, Met l q.1 (z_ws q) rm (va_Pc av (z_B G M sz)) (va_Qr (fun u : Nat × zM => post u.1 u.2) (fun u a t => a = u.1 ∧ z_E G M sz u.2 t) (z_A M sz)) rm.cells rm.slots (z_A M sz)
theorem z_blind {G : zG} {M : zM} {sz : Nat} {av : List Value} : FrameBlind (va_Pc av (z_B G M sz)) := fun a U g mk q => by
  obtain ⟨q0, q1, q2, q3, q4⟩ := q
  exact ⟨q0, q1, q2, va_K.moved (u := U) (U := U.calling g mk a) (Vm.Alike.refl U.vm) q3, z_J_same (u := U) (U := U.calling g mk a) rfl q4⟩
section ZC
variable {X : zX} {cc : ByteArray} {own : String} {nL : Nat} {rm : Room} {M : zM} {H : Heap} {locs : List Loc}
theorem z_sub (C : z_C X cc own nL rm) (h2 : z_in (z_F X) M) (h3 : va_S (z_F X) (z_s X).heap H locs) : ∀ q, z_A M H.size q → z_F X q := fun q h => h.elim (fun ⟨e, he⟩ => h2 q e he) (fun h => C.2.2.2.2.2.2.2.1 q (Nat.le_trans h3.1 h))
theorem z_pre (C : z_C X cc own nL rm) (h1 : z_h (z_G X) M H) (h2 : z_in (z_F X) M) (h3 : va_S (z_F X) (z_s X).heap H locs) {U : State} (hU : U.heap = H) (hW : (z_s X).WarmedH U.vm) : z_B (z_G X) M H.size U := by
  subst hU
  exact ⟨rfl, h1, va_K.moved hW.alike C.2.2.2.2.2.1, z_J_warm hW (z_J_narrow (z_J_kept C.2.2.2.2.2.2.1 h3.2.1) (z_sub C h2 h3))⟩
theorem z_recv (C : z_C X cc own nL rm) (h1 : z_h (z_G X) M H) {b ci : Nat} {fs : List Value} {q : vw_C} (hb : M b = some (.inr (ci, fs))) (hc : vwCl[ci]? = some q) : ∃ cell : Cell, H[b]? = some cell ∧ cell.vm.isStatics = false ∧ (z_s X).vm.findClass q.1 = some cell.cls :=
  va_recv C.2.2.2.2.2.1 (z_one h1 hb) hc (q0 := 0) rfl
end ZC
section ZR
variable {X : zX} {cc : ByteArray} {own : String} {nL : Nat} {rm : Room} {M : zM} {k n pc : Nat} {lv lv' : List (Nat × Value)} {st : List Value}
theorem z_iconst (C : z_C X cc own nL rm) {i : Int} {v : Int32} (d : decode cc pc = .ok (.iconst i, 1)) (hv : Int32.ofInt i = v) (kk : z_W X M k n (pc + 1) lv (.int v :: st)) : z_W X M k n pc lv (st) :=
  fun H locs ls h1 h2 h3 h4 => lv_iconst C.1 C.2.1 d hv (kk H locs ls h1 h2 h3 h4)
theorem z_bipush (C : z_C X cc own nL rm) {i : Int} {v : Int32} (d : decode cc pc = .ok (.bipush i, 2)) (hv : (Int8.ofInt i).toInt32 = v) (kk : z_W X M k n (pc + 2) lv (.int v :: st)) : z_W X M k n pc lv (st) :=
  fun H locs ls h1 h2 h3 h4 => lv_bipush C.1 C.2.1 d hv (kk H locs ls h1 h2 h3 h4)
theorem z_sipush (C : z_C X cc own nL rm) {i : Int} {v : Int32} (d : decode cc pc = .ok (.sipush i, 3)) (hv : (Int16.ofInt i).toInt32 = v) (kk : z_W X M k n (pc + 3) lv (.int v :: st)) : z_W X M k n pc lv (st) :=
  fun H locs ls h1 h2 h3 h4 => lv_sipush C.1 C.2.1 d hv (kk H locs ls h1 h2 h3 h4)
theorem z_lconst (C : z_C X cc own nL rm) {i : Fin 2} {v : Int64} (d : decode cc pc = .ok (.lconst i, 1)) (hv : Int64.ofNat (i : Nat) = v) (kk : z_W X M k n (pc + 1) lv (.long v :: st)) : z_W X M k n pc lv (st) :=
  fun H locs ls h1 h2 h3 h4 => lv_lconst C.1 C.2.1 d hv (kk H locs ls h1 h2 h3 h4)
theorem z_iload_n (C : z_C X cc own nL rm) {j : Fin 4} {i : Nat} {x : Int32} (d : decode cc pc = .ok (.iload_n j, 1)) (hi : (j : Nat) = i) (q : Nat) (hl : lv[q]? = some (i, .int x)) (kk : z_W X M k n (pc + 1) lv (.int x :: st)) : z_W X M k n pc lv (st) :=
  fun H locs ls h1 h2 h3 h4 => lv_iload_n C.1 C.2.1 d hi (lv_at h4 q hl) (kk H locs ls h1 h2 h3 h4)
theorem z_iload (C : z_C X cc own nL rm) {i : Nat} {x : Int32} (d : decode cc pc = .ok (.iload i, 2)) (q : Nat) (hl : lv[q]? = some (i, .int x)) (kk : z_W X M k n (pc + 2) lv (.int x :: st)) : z_W X M k n pc lv (st) :=
  fun H locs ls h1 h2 h3 h4 => lv_iload C.1 C.2.1 d (lv_at h4 q hl) (kk H locs ls h1 h2 h3 h4)
theorem z_lload_n (C : z_C X cc own nL rm) {j : Fin 4} {i : Nat} {x : Int64} (d : decode cc pc = .ok (.lload_n j, 1)) (hi : (j : Nat) = i) (q : Nat) (hl : lv[q]? = some (i, .long x)) (kk : z_W X M k n (pc + 1) lv (.long x :: st)) : z_W X M k n pc lv (st) :=
  fun H locs ls h1 h2 h3 h4 => lv_lload_n C.1 C.2.1 d hi (lv_at h4 q hl) (kk H locs ls h1 h2 h3 h4)
theorem z_lload (C : z_C X cc own nL rm) {i : Nat} {x : Int64} (d : decode cc pc = .ok (.lload i, 2)) (q : Nat) (hl : lv[q]? = some (i, .long x)) (kk : z_W X M k n (pc + 2) lv (.long x :: st)) : z_W X M k n pc lv (st) :=
  fun H locs ls h1 h2 h3 h4 => lv_lload C.1 C.2.1 d (lv_at h4 q hl) (kk H locs ls h1 h2 h3 h4)
theorem z_aload_n (C : z_C X cc own nL rm) {j : Fin 4} {i : Nat} {x : Nat} (d : decode cc pc = .ok (.aload_n j, 1)) (hi : (j : Nat) = i) (q : Nat) (hl : lv[q]? = some (i, .ref x)) (kk : z_W X M k n (pc + 1) lv (.ref x :: st)) : z_W X M k n pc lv (st) :=
  fun H locs ls h1 h2 h3 h4 => lv_aload_n C.1 C.2.1 d hi (lv_at h4 q hl) (kk H locs ls h1 h2 h3 h4)
theorem z_aload (C : z_C X cc own nL rm) {i : Nat} {x : Nat} (d : decode cc pc = .ok (.aload i, 2)) (q : Nat) (hl : lv[q]? = some (i, .ref x)) (kk : z_W X M k n (pc + 2) lv (.ref x :: st)) : z_W X M k n pc lv (st) :=
  fun H locs ls h1 h2 h3 h4 => lv_aload C.1 C.2.1 d (lv_at h4 q hl) (kk H locs ls h1 h2 h3 h4)
theorem z_istore_n (C : z_C X cc own nL rm) {j : Fin 4} {i : Nat} {x : Int32} (d : decode cc pc = .ok (.istore_n j, 1)) (hi : (j : Nat) = i) (hn : i < nL) (hl : (i, Value.int x) :: lv.filter (fun q => !(q.1 == i) && !(q.1 + 1 == i && q.2.category == 2)) = lv') (kk : z_W X M k n (pc + 1) lv' st) : z_W X M k n pc lv (.int x :: st) :=
  fun H locs ls h1 h2 h3 h4 => lv_istore_n C.1 C.2.1 d hi h4 (by rw [C.2.2.1]; exact hn) hl (fun ls' h5 => kk H locs ls' h1 h2 h3 h5)
theorem z_istore (C : z_C X cc own nL rm) {i : Nat} {x : Int32} (d : decode cc pc = .ok (.istore i, 2)) (hn : i < nL) (hl : (i, Value.int x) :: lv.filter (fun q => !(q.1 == i) && !(q.1 + 1 == i && q.2.category == 2)) = lv') (kk : z_W X M k n (pc + 2) lv' st) : z_W X M k n pc lv (.int x :: st) :=
  fun H locs ls h1 h2 h3 h4 => lv_istore C.1 C.2.1 d h4 (by rw [C.2.2.1]; exact hn) hl (fun ls' h5 => kk H locs ls' h1 h2 h3 h5)
theorem z_lstore_n (C : z_C X cc own nL rm) {j : Fin 4} {i : Nat} {x : Int64} (d : decode cc pc = .ok (.lstore_n j, 1)) (hi : (j : Nat) = i) (hn : i + 1 < nL) (hl : (i, Value.long x) :: lv.filter (fun q => !(q.1 == i) && (!(q.1 == i + 1) && !(q.1 + 1 == i && q.2.category == 2))) = lv') (kk : z_W X M k n (pc + 1) lv' st) : z_W X M k n pc lv (.long x :: st) :=
  fun H locs ls h1 h2 h3 h4 => lv_lstore_n C.1 C.2.1 d hi h4 (by rw [C.2.2.1]; exact hn) hl (fun ls' h5 => kk H locs ls' h1 h2 h3 h5)
theorem z_lstore (C : z_C X cc own nL rm) {i : Nat} {x : Int64} (d : decode cc pc = .ok (.lstore i, 2)) (hn : i + 1 < nL) (hl : (i, Value.long x) :: lv.filter (fun q => !(q.1 == i) && (!(q.1 == i + 1) && !(q.1 + 1 == i && q.2.category == 2))) = lv') (kk : z_W X M k n (pc + 2) lv' st) : z_W X M k n pc lv (.long x :: st) :=
  fun H locs ls h1 h2 h3 h4 => lv_lstore C.1 C.2.1 d h4 (by rw [C.2.2.1]; exact hn) hl (fun ls' h5 => kk H locs ls' h1 h2 h3 h5)
theorem z_astore_n (C : z_C X cc own nL rm) {j : Fin 4} {i : Nat} {x : Nat} (d : decode cc pc = .ok (.astore_n j, 1)) (hi : (j : Nat) = i) (hn : i < nL) (hl : (i, Value.ref x) :: lv.filter (fun q => !(q.1 == i) && !(q.1 + 1 == i && q.2.category == 2)) = lv') (kk : z_W X M k n (pc + 1) lv' st) : z_W X M k n pc lv (.ref x :: st) :=
  fun H locs ls h1 h2 h3 h4 => lv_astore_n C.1 C.2.1 d hi h4 (by rw [C.2.2.1]; exact hn) hl (fun ls' h5 => kk H locs ls' h1 h2 h3 h5)
theorem z_astore (C : z_C X cc own nL rm) {i : Nat} {x : Nat} (d : decode cc pc = .ok (.astore i, 2)) (hn : i < nL) (hl : (i, Value.ref x) :: lv.filter (fun q => !(q.1 == i) && !(q.1 + 1 == i && q.2.category == 2)) = lv') (kk : z_W X M k n (pc + 2) lv' st) : z_W X M k n pc lv (.ref x :: st) :=
  fun H locs ls h1 h2 h3 h4 => lv_astore C.1 C.2.1 d h4 (by rw [C.2.2.1]; exact hn) hl (fun ls' h5 => kk H locs ls' h1 h2 h3 h5)
theorem z_iinc (C : z_C X cc own nL rm) {i : Nat} {j : Int} {x v : Int32} (d : decode cc pc = .ok (.iinc i j, 3)) (q : Nat) (hk : lv[q]? = some (i, .int x)) (hv : x + Int32.ofInt j = v) (hn : i < nL) (hl : (i, Value.int v) :: lv.filter (fun q => !(q.1 == i) && !(q.1 + 1 == i && q.2.category == 2)) = lv') (kk : z_W X M k n (pc + 3) lv' st) : z_W X M k n pc lv st :=
  fun H locs ls h1 h2 h3 h4 => lv_iinc C.1 C.2.1 d h4 hk hv (by rw [C.2.2.1]; exact hn) hl (fun ls' h5 => kk H locs ls' h1 h2 h3 h5)
theorem z_iadd (C : z_C X cc own nL rm) {x y : Int32} (d : decode cc pc = .ok (.iadd, 1)) (kk : z_W X M k n (pc + 1) lv (.int (x + y) :: st)) : z_W X M k n pc lv (.int y :: .int x :: st) :=
  fun H locs ls h1 h2 h3 h4 => lv_iadd C.1 C.2.1 d (kk H locs ls h1 h2 h3 h4)
theorem z_isub (C : z_C X cc own nL rm) {x y : Int32} (d : decode cc pc = .ok (.isub, 1)) (kk : z_W X M k n (pc + 1) lv (.int (x - y) :: st)) : z_W X M k n pc lv (.int y :: .int x :: st) :=
  fun H locs ls h1 h2 h3 h4 => lv_isub C.1 C.2.1 d (kk H locs ls h1 h2 h3 h4)
theorem z_imul (C : z_C X cc own nL rm) {x y : Int32} (d : decode cc pc = .ok (.imul, 1)) (kk : z_W X M k n (pc + 1) lv (.int (x * y) :: st)) : z_W X M k n pc lv (.int y :: .int x :: st) :=
  fun H locs ls h1 h2 h3 h4 => lv_imul C.1 C.2.1 d (kk H locs ls h1 h2 h3 h4)
theorem z_iand (C : z_C X cc own nL rm) {x y : Int32} (d : decode cc pc = .ok (.iand, 1)) (kk : z_W X M k n (pc + 1) lv (.int (x &&& y) :: st)) : z_W X M k n pc lv (.int y :: .int x :: st) :=
  fun H locs ls h1 h2 h3 h4 => lv_iand C.1 C.2.1 d (kk H locs ls h1 h2 h3 h4)
theorem z_irem (C : z_C X cc own nL rm) {x y : Int32} (d : decode cc pc = .ok (.irem, 1)) (hne : ¬ y = 0) (kk : z_W X M k n (pc + 1) lv (.int (x - x / y * y) :: st)) : z_W X M k n pc lv (.int y :: .int x :: st) :=
  fun H locs ls h1 h2 h3 h4 => lv_irem C.1 C.2.1 d hne (kk H locs ls h1 h2 h3 h4)
theorem z_idiv (C : z_C X cc own nL rm) {x y : Int32} (d : decode cc pc = .ok (.idiv, 1)) (hne : ¬ y = 0) (kk : z_W X M k n (pc + 1) lv (.int (x / y) :: st)) : z_W X M k n pc lv (.int y :: .int x :: st) :=
  fun H locs ls h1 h2 h3 h4 => lv_idiv C.1 C.2.1 d hne (kk H locs ls h1 h2 h3 h4)
theorem z_ladd (C : z_C X cc own nL rm) {x y : Int64} (d : decode cc pc = .ok (.ladd, 1)) (kk : z_W X M k n (pc + 1) lv (.long (x + y) :: st)) : z_W X M k n pc lv (.long y :: .long x :: st) :=
  fun H locs ls h1 h2 h3 h4 => lv_ladd C.1 C.2.1 d (kk H locs ls h1 h2 h3 h4)
theorem z_lsub (C : z_C X cc own nL rm) {x y : Int64} (d : decode cc pc = .ok (.lsub, 1)) (kk : z_W X M k n (pc + 1) lv (.long (x - y) :: st)) : z_W X M k n pc lv (.long y :: .long x :: st) :=
  fun H locs ls h1 h2 h3 h4 => lv_lsub C.1 C.2.1 d (kk H locs ls h1 h2 h3 h4)
theorem z_lmul (C : z_C X cc own nL rm) {x y : Int64} (d : decode cc pc = .ok (.lmul, 1)) (kk : z_W X M k n (pc + 1) lv (.long (x * y) :: st)) : z_W X M k n pc lv (.long y :: .long x :: st) :=
  fun H locs ls h1 h2 h3 h4 => lv_lmul C.1 C.2.1 d (kk H locs ls h1 h2 h3 h4)
theorem z_lrem (C : z_C X cc own nL rm) {x y : Int64} (d : decode cc pc = .ok (.lrem, 1)) (hne : ¬ y = 0) (kk : z_W X M k n (pc + 1) lv (.long (x - x / y * y) :: st)) : z_W X M k n pc lv (.long y :: .long x :: st) :=
  fun H locs ls h1 h2 h3 h4 => lv_lrem C.1 C.2.1 d hne (kk H locs ls h1 h2 h3 h4)
theorem z_ldiv (C : z_C X cc own nL rm) {x y : Int64} (d : decode cc pc = .ok (.ldiv, 1)) (hne : ¬ y = 0) (kk : z_W X M k n (pc + 1) lv (.long (x / y) :: st)) : z_W X M k n pc lv (.long y :: .long x :: st) :=
  fun H locs ls h1 h2 h3 h4 => lv_ldiv C.1 C.2.1 d hne (kk H locs ls h1 h2 h3 h4)
theorem z_i2l (C : z_C X cc own nL rm) {x : Int32} (d : decode cc pc = .ok (.i2l, 1)) (kk : z_W X M k n (pc + 1) lv (.long x.toInt64 :: st)) : z_W X M k n pc lv (.int x :: st) :=
  fun H locs ls h1 h2 h3 h4 => lv_i2l C.1 C.2.1 d rfl (kk H locs ls h1 h2 h3 h4)
theorem z_l2i (C : z_C X cc own nL rm) {x : Int64} (d : decode cc pc = .ok (.l2i, 1)) (kk : z_W X M k n (pc + 1) lv (.int x.toInt32 :: st)) : z_W X M k n pc lv (.long x :: st) :=
  fun H locs ls h1 h2 h3 h4 => lv_l2i C.1 C.2.1 d rfl (kk H locs ls h1 h2 h3 h4)
theorem z_i2c (C : z_C X cc own nL rm) {x : Int32} (d : decode cc pc = .ok (.i2c, 1)) (kk : z_W X M k n (pc + 1) lv (.int (x.toUInt32 % 65536).toInt32 :: st)) : z_W X M k n pc lv (.int x :: st) :=
  fun H locs ls h1 h2 h3 h4 => lv_i2c C.1 C.2.1 d rfl (kk H locs ls h1 h2 h3 h4)
theorem z_i2b (C : z_C X cc own nL rm) {x : Int32} (d : decode cc pc = .ok (.i2b, 1)) (kk : z_W X M k n (pc + 1) lv (.int x.toInt8.toInt32 :: st)) : z_W X M k n pc lv (.int x :: st) :=
  fun H locs ls h1 h2 h3 h4 => lv_i2b C.1 C.2.1 d rfl (kk H locs ls h1 h2 h3 h4)
theorem z_ineg (C : z_C X cc own nL rm) {x : Int32} (d : decode cc pc = .ok (.ineg, 1)) (kk : z_W X M k n (pc + 1) lv (.int (-x) :: st)) : z_W X M k n pc lv (.int x :: st) :=
  fun H locs ls h1 h2 h3 h4 => lv_ineg C.1 C.2.1 d (kk H locs ls h1 h2 h3 h4)
theorem z_ishl (C : z_C X cc own nL rm) {x y : Int32} (d : decode cc pc = .ok (.ishl, 1)) (kk : z_W X M k n (pc + 1) lv (.int (x <<< (y &&& 31)) :: st)) : z_W X M k n pc lv (.int y :: .int x :: st) :=
  fun H locs ls h1 h2 h3 h4 => lv_ishl C.1 C.2.1 d (kk H locs ls h1 h2 h3 h4)
theorem z_ishr (C : z_C X cc own nL rm) {x y : Int32} (d : decode cc pc = .ok (.ishr, 1)) (kk : z_W X M k n (pc + 1) lv (.int (x >>> (y &&& 31)) :: st)) : z_W X M k n pc lv (.int y :: .int x :: st) :=
  fun H locs ls h1 h2 h3 h4 => lv_ishr C.1 C.2.1 d (kk H locs ls h1 h2 h3 h4)
theorem z_dup (C : z_C X cc own nL rm) {va : Value} (d : decode cc pc = .ok (.dup, 1)) (hva : va.category = 1) (kk : z_W X M k n (pc + 1) lv (va :: va :: st)) : z_W X M k n pc lv (va :: st) :=
  fun H locs ls h1 h2 h3 h4 => lv_dup C.1 C.2.1 d hva (kk H locs ls h1 h2 h3 h4)
theorem z_pop (C : z_C X cc own nL rm) {va : Value} (d : decode cc pc = .ok (.pop, 1)) (hva : va.category = 1) (kk : z_W X M k n (pc + 1) lv (st)) : z_W X M k n pc lv (va :: st) :=
  fun H locs ls h1 h2 h3 h4 => lv_pop C.1 C.2.1 d hva (kk H locs ls h1 h2 h3 h4)
theorem z_dup_x1 (C : z_C X cc own nL rm) {va vb : Value} (d : decode cc pc = .ok (.dup_x1, 1)) (hva : va.category = 1) (hvb : vb.category = 1) (kk : z_W X M k n (pc + 1) lv (va :: vb :: va :: st)) : z_W X M k n pc lv (va :: vb :: st) :=
  fun H locs ls h1 h2 h3 h4 => lv_dup_x1 C.1 C.2.1 d hva hvb (kk H locs ls h1 h2 h3 h4)
theorem z_dup2 (C : z_C X cc own nL rm) {va vb : Value} (d : decode cc pc = .ok (.dup2, 1)) (hva : va.category = 1) (hvb : vb.category = 1) (kk : z_W X M k n (pc + 1) lv (va :: vb :: va :: vb :: st)) : z_W X M k n pc lv (va :: vb :: st) :=
  fun H locs ls h1 h2 h3 h4 => lv_dup2_11 C.1 C.2.1 d hva hvb (kk H locs ls h1 h2 h3 h4)
theorem z_lcmp (C : z_C X cc own nL rm) {x y : Int64} (d : decode cc pc = .ok (.lcmp, 1)) (kk : z_W X M k n (pc + 1) lv (.int (lg_cmp x y) :: st)) : z_W X M k n pc lv (.long y :: .long x :: st) :=
  fun H locs ls h1 h2 h3 h4 => W.lcmp C.1 C.2.1 d (kk H locs ls h1 h2 h3 h4)
theorem z_if_eq (C : z_C X cc own nL rm) {x : Int32} {off : Int} {tgt : Nat} (d : decode cc pc = .ok (.ifCond .eq off, 3)) (ht : (pc : Int) + off = (tgt : Int)) (kt : x = 0 → z_W X M k n tgt lv st) (kf : ¬ x = 0 → z_W X M k n (pc + 3) lv st) : z_W X M k n pc lv (.int x :: st) :=
  fun H locs ls h1 h2 h3 h4 => lv_if_eq C.1 C.2.1 d ht (fun q => kt q H locs ls h1 h2 h3 h4) (fun q => kf q H locs ls h1 h2 h3 h4)
theorem z_if_ne (C : z_C X cc own nL rm) {x : Int32} {off : Int} {tgt : Nat} (d : decode cc pc = .ok (.ifCond .ne off, 3)) (ht : (pc : Int) + off = (tgt : Int)) (kt : ¬ x = 0 → z_W X M k n tgt lv st) (kf : x = 0 → z_W X M k n (pc + 3) lv st) : z_W X M k n pc lv (.int x :: st) :=
  fun H locs ls h1 h2 h3 h4 => lv_if_ne C.1 C.2.1 d ht (fun q => kt q H locs ls h1 h2 h3 h4) (fun q => kf q H locs ls h1 h2 h3 h4)
theorem z_if_lt (C : z_C X cc own nL rm) {x : Int32} {off : Int} {tgt : Nat} (d : decode cc pc = .ok (.ifCond .lt off, 3)) (ht : (pc : Int) + off = (tgt : Int)) (kt : x < 0 → z_W X M k n tgt lv st) (kf : ¬ x < 0 → z_W X M k n (pc + 3) lv st) : z_W X M k n pc lv (.int x :: st) :=
  fun H locs ls h1 h2 h3 h4 => lv_if_lt C.1 C.2.1 d ht (fun q => kt q H locs ls h1 h2 h3 h4) (fun q => kf q H locs ls h1 h2 h3 h4)
theorem z_if_ge (C : z_C X cc own nL rm) {x : Int32} {off : Int} {tgt : Nat} (d : decode cc pc = .ok (.ifCond .ge off, 3)) (ht : (pc : Int) + off = (tgt : Int)) (kt : 0 ≤ x → z_W X M k n tgt lv st) (kf : ¬ 0 ≤ x → z_W X M k n (pc + 3) lv st) : z_W X M k n pc lv (.int x :: st) :=
  fun H locs ls h1 h2 h3 h4 => lv_if_ge C.1 C.2.1 d ht (fun q => kt q H locs ls h1 h2 h3 h4) (fun q => kf q H locs ls h1 h2 h3 h4)
theorem z_if_gt (C : z_C X cc own nL rm) {x : Int32} {off : Int} {tgt : Nat} (d : decode cc pc = .ok (.ifCond .gt off, 3)) (ht : (pc : Int) + off = (tgt : Int)) (kt : 0 < x → z_W X M k n tgt lv st) (kf : ¬ 0 < x → z_W X M k n (pc + 3) lv st) : z_W X M k n pc lv (.int x :: st) :=
  fun H locs ls h1 h2 h3 h4 => lv_if_gt C.1 C.2.1 d ht (fun q => kt q H locs ls h1 h2 h3 h4) (fun q => kf q H locs ls h1 h2 h3 h4)
theorem z_if_le (C : z_C X cc own nL rm) {x : Int32} {off : Int} {tgt : Nat} (d : decode cc pc = .ok (.ifCond .le off, 3)) (ht : (pc : Int) + off = (tgt : Int)) (kt : x ≤ 0 → z_W X M k n tgt lv st) (kf : ¬ x ≤ 0 → z_W X M k n (pc + 3) lv st) : z_W X M k n pc lv (.int x :: st) :=
  fun H locs ls h1 h2 h3 h4 => lv_if_le C.1 C.2.1 d ht (fun q => kt q H locs ls h1 h2 h3 h4) (fun q => kf q H locs ls h1 h2 h3 h4)
theorem z_icmp_eq (C : z_C X cc own nL rm) {x y : Int32} {off : Int} {tgt : Nat} (d : decode cc pc = .ok (.if_icmp .eq off, 3)) (ht : (pc : Int) + off = (tgt : Int)) (kt : x = y → z_W X M k n tgt lv st) (kf : ¬ x = y → z_W X M k n (pc + 3) lv st) : z_W X M k n pc lv (.int y :: .int x :: st) :=
  fun H locs ls h1 h2 h3 h4 => lv_icmp_eq C.1 C.2.1 d ht (fun q => kt q H locs ls h1 h2 h3 h4) (fun q => kf q H locs ls h1 h2 h3 h4)
theorem z_icmp_ne (C : z_C X cc own nL rm) {x y : Int32} {off : Int} {tgt : Nat} (d : decode cc pc = .ok (.if_icmp .ne off, 3)) (ht : (pc : Int) + off = (tgt : Int)) (kt : ¬ x = y → z_W X M k n tgt lv st) (kf : x = y → z_W X M k n (pc + 3) lv st) : z_W X M k n pc lv (.int y :: .int x :: st) :=
  fun H locs ls h1 h2 h3 h4 => lv_icmp_ne C.1 C.2.1 d ht (fun q => kt q H locs ls h1 h2 h3 h4) (fun q => kf q H locs ls h1 h2 h3 h4)
theorem z_icmp_lt (C : z_C X cc own nL rm) {x y : Int32} {off : Int} {tgt : Nat} (d : decode cc pc = .ok (.if_icmp .lt off, 3)) (ht : (pc : Int) + off = (tgt : Int)) (kt : x < y → z_W X M k n tgt lv st) (kf : ¬ x < y → z_W X M k n (pc + 3) lv st) : z_W X M k n pc lv (.int y :: .int x :: st) :=
  fun H locs ls h1 h2 h3 h4 => lv_icmp_lt C.1 C.2.1 d ht (fun q => kt q H locs ls h1 h2 h3 h4) (fun q => kf q H locs ls h1 h2 h3 h4)
theorem z_icmp_ge (C : z_C X cc own nL rm) {x y : Int32} {off : Int} {tgt : Nat} (d : decode cc pc = .ok (.if_icmp .ge off, 3)) (ht : (pc : Int) + off = (tgt : Int)) (kt : y ≤ x → z_W X M k n tgt lv st) (kf : ¬ y ≤ x → z_W X M k n (pc + 3) lv st) : z_W X M k n pc lv (.int y :: .int x :: st) :=
  fun H locs ls h1 h2 h3 h4 => lv_icmp_ge C.1 C.2.1 d ht (fun q => kt q H locs ls h1 h2 h3 h4) (fun q => kf q H locs ls h1 h2 h3 h4)
theorem z_icmp_gt (C : z_C X cc own nL rm) {x y : Int32} {off : Int} {tgt : Nat} (d : decode cc pc = .ok (.if_icmp .gt off, 3)) (ht : (pc : Int) + off = (tgt : Int)) (kt : y < x → z_W X M k n tgt lv st) (kf : ¬ y < x → z_W X M k n (pc + 3) lv st) : z_W X M k n pc lv (.int y :: .int x :: st) :=
  fun H locs ls h1 h2 h3 h4 => lv_icmp_gt C.1 C.2.1 d ht (fun q => kt q H locs ls h1 h2 h3 h4) (fun q => kf q H locs ls h1 h2 h3 h4)
theorem z_icmp_le (C : z_C X cc own nL rm) {x y : Int32} {off : Int} {tgt : Nat} (d : decode cc pc = .ok (.if_icmp .le off, 3)) (ht : (pc : Int) + off = (tgt : Int)) (kt : x ≤ y → z_W X M k n tgt lv st) (kf : ¬ x ≤ y → z_W X M k n (pc + 3) lv st) : z_W X M k n pc lv (.int y :: .int x :: st) :=
  fun H locs ls h1 h2 h3 h4 => lv_icmp_le C.1 C.2.1 d ht (fun q => kt q H locs ls h1 h2 h3 h4) (fun q => kf q H locs ls h1 h2 h3 h4)
theorem z_acmp_eq (C : z_C X cc own nL rm) {rx ry : Option Nat} {off : Int} {tgt : Nat} (d : decode cc pc = .ok (.if_acmp .eq off, 3)) (ht : (pc : Int) + off = (tgt : Int)) (kt : rx = ry → z_W X M k n tgt lv st) (kf : ¬ rx = ry → z_W X M k n (pc + 3) lv st) : z_W X M k n pc lv (va_rf ry :: va_rf rx :: st) :=
  fun H locs ls h1 h2 h3 h4 => lv_acmp_eq C.1 C.2.1 d ht (fun q => kt q H locs ls h1 h2 h3 h4) (fun q => kf q H locs ls h1 h2 h3 h4)
theorem z_acmp_ne (C : z_C X cc own nL rm) {rx ry : Option Nat} {off : Int} {tgt : Nat} (d : decode cc pc = .ok (.if_acmp .ne off, 3)) (ht : (pc : Int) + off = (tgt : Int)) (kt : ¬ rx = ry → z_W X M k n tgt lv st) (kf : rx = ry → z_W X M k n (pc + 3) lv st) : z_W X M k n pc lv (va_rf ry :: va_rf rx :: st) :=
  fun H locs ls h1 h2 h3 h4 => lv_acmp_ne C.1 C.2.1 d ht (fun q => kt q H locs ls h1 h2 h3 h4) (fun q => kf q H locs ls h1 h2 h3 h4)
theorem z_goto (C : z_C X cc own nL rm) {off : Int} {tgt : Nat} (d : decode cc pc = .ok (.goto off, 3)) (ht : (pc : Int) + off = (tgt : Int)) (kk : z_W X M k n tgt lv st) : z_W X M k n pc lv st :=
  fun H locs ls h1 h2 h3 h4 => lv_goto C.1 C.2.1 d ht (kk H locs ls h1 h2 h3 h4)
end ZR
section ZH
variable {X : zX} {cc : ByteArray} {own : String} {nL : Nat} {rm : Room} {M : zM} {k n pc : Nat} {lv : List (Nat × Value)} {st : List Value}
theorem z_ldc (C : z_C X cc own nL rm) {index : Nat} {v : Int32} (hw : Cond.constant own index v ∈ gw) (d : decode cc pc = .ok (.ldc index, 2)) (kk : z_W X M k n (pc + 2) lv (.int v :: st)) : z_W X M k n pc lv st :=
  fun H locs ls h1 h2 h3 h4 => lv_ldc C.1 C.2.1 C.2.2.2.1 (z_tow C hw) d (kk H locs ls h1 h2 h3 h4)
theorem z_ldc2 (C : z_C X cc own nL rm) {index : Nat} {v : Int64} (hw : Cond.constantLong own index v ∈ gw) (d : decode cc pc = .ok (.ldc2_w index, 3)) (kk : z_W X M k n (pc + 3) lv (.long v :: st)) : z_W X M k n pc lv st :=
  fun H locs ls h1 h2 h3 h4 => lv_ldc2 C.1 C.2.1 C.2.2.2.1 (z_tow C hw) d (kk H locs ls h1 h2 h3 h4)
theorem z_topi {x : Int32} (kk : ∀ y : Int32, y = x → z_W X M k n pc lv (.int y :: st)) : z_W X M k n pc lv (.int x :: st) := kk x rfl
theorem z_topl {x : Int64} (kk : ∀ y : Int64, y = x → z_W X M k n pc lv (.long y :: st)) : z_W X M k n pc lv (.long x :: st) := kk x rfl
theorem z_at {M' : zM} {lv' : List (Nat × Value)} {st' : List Value} (h1 : M' = M) (h2 : lv' = lv) (h3 : st' = st) (kk : z_W X M' k n pc lv' st') : z_W X M k n pc lv st := by subst h1; subst h2; subst h3; exact kk
theorem z_fewer {lv' : List (Nat × Value)} (ks : List Nat) (hl : lv_pick lv ks = lv') (kk : z_W X M k n pc lv' st) : z_W X M k n pc lv st := fun H locs ls h1 h2 h3 h4 => kk H locs ls h1 h2 h3 (lv_sub h4 ks hl)
theorem z_swi {x : Int32} (kk : ∀ y : Int32, y = x → z_W X M k n pc lv (.int y :: st)) : z_W X M k n pc lv (.int x :: st) := kk x rfl
theorem z_tin (C : z_C X cc own nL rm) {dflt lo hi : Int} {offs : Array Int} {len tgt : Nat} {x v : Int32} (d : decode cc pc = .ok (.tableswitch dflt lo hi offs, len)) (hx : x = v) (h1 : ¬ v.toInt < lo) (h2 : ¬ hi < v.toInt) (ho : offs[(v.toInt - lo).toNat]? = some ((tgt : Int) - (pc : Int))) (_ : True) (kk : z_W X M k n tgt lv st) : z_W X M k n pc lv (.int x :: st) := by
  subst hx
  exact fun H locs ls g1 g2 g3 g4 => lv_tableIn C.1 C.2.1 d h1 h2 ho (by omega) (kk H locs ls g1 g2 g3 g4)
theorem z_tout (C : z_C X cc own nL rm) {dflt lo hi : Int} {offs : Array Int} {len tgt : Nat} {x : Int32} (d : decode cc pc = .ok (.tableswitch dflt lo hi offs, len)) (h : x.toInt < lo ∨ hi < x.toInt) (ht : (pc : Int) + dflt = (tgt : Int)) (kk : z_W X M k n tgt lv st) : z_W X M k n pc lv (.int x :: st) :=
  fun H locs ls g1 g2 g3 g4 => lv_tableOut C.1 C.2.1 d h ht (kk H locs ls g1 g2 g3 g4)
theorem z_swe {x y z : Int32} (h1 : y = x) (h2 : y = z) : x = z := h1.symm.trans h2
theorem z_kn {k' n' : Nat} (h1 : k = k') (h2 : n = n') (kk : z_W X M k' n' pc lv st) : z_W X M k n pc lv st := by subst h1; subst h2; exact kk
theorem z_widen {k' n' : Nat} (h1 : k ≤ k') (h2 : n ≤ n') (kk : z_W X M k' n' pc lv st) : z_W X M k n pc lv st := fun H locs ls g1 g2 g3 g4 => W.widen h1 h2 (kk H locs ls g1 g2 g3 g4)
theorem z_get (C : z_C X cc own nL rm) {C' : String} {T : u_T} {N ci index a : Nat} {fs : List Value} {v : Value} (hc : vwCl[ci]? = some (C', T, N)) (hin : ∀ w ∈ u_ws C' T N, w ∈ gw) (j : Nat) (hj : j < N) (hw : Cond.fieldLink own index (T j).1 (T j).2.1 (T j).2.2.1 ∈ gw) (hM : M a = some (.inr (ci, fs))) (hv : fs[j]? = some v) (d : decode cc pc = .ok (.getfield index, 3))
    (kk : z_W X M k n (pc + 3) lv (v :: st)) : z_W X M k n pc lv (.ref a :: st) :=
  fun H locs ls h1 h2 h3 h4 => va_get (D := (z_G X).1) (cl := vwCl) C.1 C.2.1 C.2.2.2.2.1 hin C.2.2.2.1 C.2.2.2.2.2.1 (z_one h1 hM) 0 rfl hc j hj (z_tow C hw) (fun _ h => h) hv d (kk H locs ls h1 h2 h3 h4)
theorem z_getN (C : z_C X cc own nL rm) {C' host : String} {T : u_T} {N ci index a : Nat} {fs : List Value} {v : Value} (hc : vwCl[ci]? = some (C', T, N)) (hin : ∀ w ∈ u_ws C' T N, w ∈ gw) (j : Nat) (hj : j < N) (hw : Cond.fieldLinkNest own index (T j).1 (T j).2.1 (T j).2.2.1 host ∈ z_nest) (hM : M a = some (.inr (ci, fs))) (hv : fs[j]? = some v) (d : decode cc pc = .ok (.getfield index, 3))
    (kk : z_W X M k n (pc + 3) lv (v :: st)) : z_W X M k n pc lv (.ref a :: st) :=
  fun H locs ls h1 h2 h3 h4 => va_getN (D := (z_G X).1) (cl := vwCl) C.1 C.2.1 C.2.2.2.2.1 hin C.2.2.2.1 C.2.2.2.2.2.1 (z_one h1 hM) 0 rfl hc j hj (va_Nw.use rfl (C.2.2.2.2.2.2.1.1.1 _ _ _ _ _ _ hw)) (fun _ h => h) hv d (kk H locs ls h1 h2 h3 h4)
/-- a field's cell, written: what the heap's row gives is what the world's row wants -/
theorem z_put (C : z_C X cc own nL rm) {C' : String} {T : u_T} {N ci index a : Nat} {fs : List Value} {ty : FieldType} {v : Value} (hc : vwCl[ci]? = some (C', T, N)) (hin : ∀ w ∈ u_ws C' T N, w ∈ gw) (ty0 : Nat → FieldType) (hty : ∀ k, k < N → parseFieldDescriptor (T k).2.2.1 = some (ty0 k)) (hnm : ∀ a, a < N → ∀ b, b < N → a ≠ b → (T a).2.1 ≠ (T b).2.1) (j : Nat) (hj : j < N) (hw : Cond.fieldLink own index (T j).1 (T j).2.1 (T j).2.2.1 ∈ gw) (hfin : (T j).2.2.2 = false) (hd : parseFieldDescriptor (T j).2.2.1 = some ty) (hM : M a = some (.inr (ci, fs))) (hl : j < fs.length) (hn : narrow ty v = v) (hfit : fits ty v = true) (d : decode cc pc = .ok (.putfield index, 3))
    (kk : z_W X (z_up M a (.inr (ci, fs.set j v))) k n (pc + 3) lv st) : z_W X M k n pc lv (v :: .ref a :: st) := by
  intro H locs ls h1 h2 h3 h4
  have hap := va_apart (own := own) C.2.2.2.2.1 hin ty0 hty hnm C.2.2.2.2.2.1 hc
  obtain ⟨r, g1, cell, q1, q2, q3, q4⟩ := h1 a _ hM
  have hr : r = (C', T, N) := Option.some.inj (g1.symm.trans hc)
  subst hr
  obtain ⟨hS, hfc, kC, hkC, hkind⟩ := C.2.2.2.2.2.1.1 ci _ hc
  obtain ⟨cf, kf, fi, f, hi, hsl⟩ := hS j hj
  have hlay := C.2.2.2.2.1 _ (hin _ (u_in_lay hj))
  unfold u_lay at hlay
  rw [if_neg (by rw [hfin]; decide)] at hlay
  have hst := (u_facts hfc hkC (u_lays C.2.2.2.2.1 hin hj) hi).1
  have h6 := u_store hfc hkC hkind hlay hi hd hn hfit
  refine W.putK C.1 C.2.1 (f := f) ⟨C.2.2.2.1, z_tow C hw, ⟨_, _, _, hi⟩, hst⟩ (by rw [q2]; exact h6) q1 q3 (by rw [hsl]; exact k2_hasslot (q4 j hj)) rfl rfl d fun H' e1 e2 e3 => ?_
  rw [hsl] at e1 ⊢
  exact kk H' _ ls (z_h_up h1 ⟨_, hc, t_OB.to (V := updV (vp_V fs) j v) ⟨_, e1, q2, q3, t_set q4 hap hj v⟩ (fun i _ => vp_updV_set hl v i)⟩ e3) (z_in_up h2 (h2 a _ hM)) (h3.put e2 e3 (h2 a _ hM)) h4
theorem z_putN (C : z_C X cc own nL rm) {C' host : String} {T : u_T} {N ci index a : Nat} {fs : List Value} {ty : FieldType} {v : Value} (hc : vwCl[ci]? = some (C', T, N)) (hin : ∀ w ∈ u_ws C' T N, w ∈ gw) (ty0 : Nat → FieldType) (hty : ∀ k, k < N → parseFieldDescriptor (T k).2.2.1 = some (ty0 k)) (hnm : ∀ a, a < N → ∀ b, b < N → a ≠ b → (T a).2.1 ≠ (T b).2.1) (j : Nat) (hj : j < N) (hw : Cond.fieldLinkNest own index (T j).1 (T j).2.1 (T j).2.2.1 host ∈ z_nest) (hfin : (T j).2.2.2 = false) (hd : parseFieldDescriptor (T j).2.2.1 = some ty) (hM : M a = some (.inr (ci, fs))) (hl : j < fs.length) (hn : narrow ty v = v) (hfit : fits ty v = true) (d : decode cc pc = .ok (.putfield index, 3))
    (kk : z_W X (z_up M a (.inr (ci, fs.set j v))) k n (pc + 3) lv st) : z_W X M k n pc lv (v :: .ref a :: st) := by
  intro H locs ls h1 h2 h3 h4
  have hap := va_apart (own := own) C.2.2.2.2.1 hin ty0 hty hnm C.2.2.2.2.2.1 hc
  obtain ⟨r, g1, cell, q1, q2, q3, q4⟩ := h1 a _ hM
  have hr : r = (C', T, N) := Option.some.inj (g1.symm.trans hc)
  subst hr
  obtain ⟨hS, hfc, kC, hkC, hkind⟩ := C.2.2.2.2.2.1.1 ci _ hc
  obtain ⟨cf, kf, fi, f, hi, hsl⟩ := hS j hj
  have hlay := C.2.2.2.2.1 _ (hin _ (u_in_lay hj))
  unfold u_lay at hlay
  rw [if_neg (by rw [hfin]; decide)] at hlay
  have hst := (u_facts hfc hkC (u_lays C.2.2.2.2.1 hin hj) hi).1
  have h6 := u_store hfc hkC hkind hlay hi hd hn hfit
  refine va_WputK C.1 C.2.1 (f := f) C.2.2.2.1 (va_Nw.use rfl (C.2.2.2.2.2.2.1.1.1 _ _ _ _ _ _ hw)) hi hst (by rw [q2]; exact h6) q1 q3 (by rw [hsl]; exact k2_hasslot (q4 j hj)) rfl rfl d fun H' e1 e2 e3 => ?_
  rw [hsl] at e1 ⊢
  exact kk H' _ ls (z_h_up h1 ⟨_, hc, t_OB.to (V := updV (vp_V fs) j v) ⟨_, e1, q2, q3, t_set q4 hap hj v⟩ (fun i _ => vp_updV_set hl v i)⟩ e3) (z_in_up h2 (h2 a _ hM)) (h3.put e2 e3 (h2 a _ hM)) h4
theorem z_putF (C : z_C X cc own nL rm) {C' : String} {T : u_T} {N ci index a : Nat} {fs : List Value} {ty : FieldType} {v : Value} (hini : (z_me X).name = "<init>") (hc : vwCl[ci]? = some (C', T, N)) (hin : ∀ w ∈ u_ws C' T N, w ∈ gw) (ty0 : Nat → FieldType) (hty : ∀ k, k < N → parseFieldDescriptor (T k).2.2.1 = some (ty0 k)) (hnm : ∀ a, a < N → ∀ b, b < N → a ≠ b → (T a).2.1 ≠ (T b).2.1) (j : Nat) (hj : j < N) (hw : Cond.fieldLink own index (T j).1 (T j).2.1 (T j).2.2.1 ∈ gw) (hfin : (T j).2.2.2 = true) (hdecl : (T j).1 = own) (hd : parseFieldDescriptor (T j).2.2.1 = some ty) (hM : M a = some (.inr (ci, fs))) (hl : j < fs.length) (hn : narrow ty v = v) (hfit : fits ty v = true) (d : decode cc pc = .ok (.putfield index, 3))
    (kk : z_W X (z_up M a (.inr (ci, fs.set j v))) k n (pc + 3) lv st) : z_W X M k n pc lv (v :: .ref a :: st) := by
  intro H locs ls h1 h2 h3 h4
  have hap := va_apart (own := own) C.2.2.2.2.1 hin ty0 hty hnm C.2.2.2.2.2.1 hc
  obtain ⟨r, g1, cell, q1, q2, q3, q4⟩ := h1 a _ hM
  have hr : r = (C', T, N) := Option.some.inj (g1.symm.trans hc)
  subst hr
  obtain ⟨hS, hfc, kC, hkC, hkind⟩ := C.2.2.2.2.2.1.1 ci _ hc
  obtain ⟨cf, kf, fi, f, hi, hsl⟩ := hS j hj
  have hlay := C.2.2.2.2.1 _ (hin _ (u_in_lay hj))
  unfold u_lay at hlay
  rw [if_pos hfin] at hlay
  have hst := (u_facts hfc hkC (u_lays C.2.2.2.2.1 hin hj) hi).1
  have hcf : (z_m X).cls = cf := by
    obtain ⟨_, _, c', _, _, _, -, -, hf', -, -, -, hown2, -⟩ := Cond.laysFinal_spec hlay
    have e1 : c' = cf := by have := hi.symm.trans hf'; simp at this; exact this.1.symm
    rw [hdecl] at hown2
    rw [← e1]; exact Option.some.inj (C.2.2.2.1.symm.trans hown2)
  have h6 := u_fits hfc hkC hkind (Or.inr hlay) hi hd hn hfit
  refine W.putFinK C.1 C.2.1 C.2.2.2.1 (z_tow C hw) hi hst hcf hini (by rw [q2]; exact h6) q1 q3 (by rw [hsl]; exact k2_hasslot (q4 j hj)) rfl rfl d fun H' e1 e2 e3 => ?_
  rw [hsl] at e1 ⊢
  exact kk H' _ ls (z_h_up h1 ⟨_, hc, t_OB.to (V := updV (vp_V fs) j v) ⟨_, e1, q2, q3, t_set q4 hap hj v⟩ (fun i _ => vp_updV_set hl v i)⟩ e3) (z_in_up h2 (h2 a _ hM)) (h3.put e2 e3 (h2 a _ hM)) h4
theorem z_iald (C : z_C X cc own nL rm) {a N : Nat} {f : Nat → Int32} {i : Int32} {j : Nat} (hM : M a = some (.inl ((z_G X).2.2.1, N, .inl f))) (hin : vp_in i N) (hj : i.toNatClampNeg = j) (d : decode cc pc = .ok (.iaload, 1)) (kk : z_W X M k n (pc + 1) lv (.int (f j) :: st)) : z_W X M k n pc lv (.int i :: .ref a :: st) := by
  subst hj
  exact fun H locs ls h1 h2 h3 h4 => va_iald C.1 C.2.1 C.2.2.2.2.2.1 (z_one h1 hM) 0 1 rfl rfl hin d (kk H locs ls h1 h2 h3 h4)
theorem z_bald (C : z_C X cc own nL rm) {a N : Nat} {f : Nat → Int32} {i : Int32} {j : Nat} (hM : M a = some (.inl ((z_G X).2.1, N, .inl f))) (hin : vp_in i N) (hj : i.toNatClampNeg = j) (d : decode cc pc = .ok (.baload, 1)) (kk : z_W X M k n (pc + 1) lv (.int (f j) :: st)) : z_W X M k n pc lv (.int i :: .ref a :: st) := by
  subst hj
  exact fun H locs ls h1 h2 h3 h4 => va_bald C.1 C.2.1 C.2.2.2.2.2.1 (z_one h1 hM) 0 0 rfl rfl hin d (kk H locs ls h1 h2 h3 h4)
theorem z_aaldP (C : z_C X cc own nL rm) {a N : Nat} {f : Nat → Option Nat} {i : Int32} {j b : Nat} (hM : M a = some (.inl ((z_G X).2.2.2.1, N, .inr (.inr (.inr (.inr f)))))) (hin : vp_in i N) (hj : i.toNatClampNeg = j) (hb : f j = some b) (d : decode cc pc = .ok (.aaload, 1)) (kk : z_W X M k n (pc + 1) lv (.ref b :: st)) : z_W X M k n pc lv (.int i :: .ref a :: st) := by
  subst hj
  have kk : z_W X M k n (pc + 1) lv (va_rf (f i.toNatClampNeg) :: st) := by rw [hb]; exact kk
  exact fun H locs ls h1 h2 h3 h4 => va_aldq C.1 C.2.1 C.2.2.2.2.2.1 (z_one h1 hM) 0 2 rfl rfl hin d (kk H locs ls h1 h2 h3 h4)
theorem z_aaldI (C : z_C X cc own nL rm) {a N : Nat} {f : Nat → Option Nat} {i : Int32} {j b : Nat} (hM : M a = some (.inl ((z_G X).2.2.2.2.1, N, .inr (.inr (.inr (.inr f)))))) (hin : vp_in i N) (hj : i.toNatClampNeg = j) (hb : f j = some b) (d : decode cc pc = .ok (.aaload, 1)) (kk : z_W X M k n (pc + 1) lv (.ref b :: st)) : z_W X M k n pc lv (.int i :: .ref a :: st) := by
  subst hj
  have kk : z_W X M k n (pc + 1) lv (va_rf (f i.toNatClampNeg) :: st) := by rw [hb]; exact kk
  intro H locs ls h1 h2 h3 h4
  have hlt : i.toNatClampNeg < N := Nat.not_le.mp fun q => hin (Or.inr q)
  exact W.aald (v := va_rf (f i.toNatClampNeg)) (ty := .array .int) C.1 C.2.1 (h1 a _ hM) ((C.2.2.2.2.2.1.2 3 _ rfl).1 N (fun j => va_rf (f j))) rfl (fun q => by cases q) (by show ¬ (i < 0 ∨ (arrV _ _ _).slots.size ≤ _); rw [arrV_size]; exact hin) (by show (arrV _ _ _).slots[_]? = _; rw [arrV_read _ _ hlt]) rfl rfl d (kk H locs ls h1 h2 h3 h4)
theorem z_alenI (C : z_C X cc own nL rm) {a N : Nat} {f : Nat → Int32} {v : Int32} (hM : M a = some (.inl ((z_G X).2.2.1, N, .inl f))) (hv : Int32.ofNat N = v) (d : decode cc pc = .ok (.arraylength, 1)) (kk : z_W X M k n (pc + 1) lv (.int v :: st)) : z_W X M k n pc lv (.ref a :: st) :=
  fun H locs ls h1 h2 h3 h4 => va_alen C.1 C.2.1 C.2.2.2.2.2.1 (z_one h1 hM) 0 1 rfl rfl hv d (kk H locs ls h1 h2 h3 h4)
theorem z_alenB (C : z_C X cc own nL rm) {a N : Nat} {f : Nat → Int32} {v : Int32} (hM : M a = some (.inl ((z_G X).2.1, N, .inl f))) (hv : Int32.ofNat N = v) (d : decode cc pc = .ok (.arraylength, 1)) (kk : z_W X M k n (pc + 1) lv (.int v :: st)) : z_W X M k n pc lv (.ref a :: st) :=
  fun H locs ls h1 h2 h3 h4 => va_alen C.1 C.2.1 C.2.2.2.2.2.1 (z_one h1 hM) 0 0 rfl rfl hv d (kk H locs ls h1 h2 h3 h4)
theorem z_alenP (C : z_C X cc own nL rm) {a N : Nat} {f : Nat → Option Nat} {v : Int32} (hM : M a = some (.inl ((z_G X).2.2.2.1, N, .inr (.inr (.inr (.inr f)))))) (hv : Int32.ofNat N = v) (d : decode cc pc = .ok (.arraylength, 1)) (kk : z_W X M k n (pc + 1) lv (.int v :: st)) : z_W X M k n pc lv (.ref a :: st) :=
  fun H locs ls h1 h2 h3 h4 => va_alen C.1 C.2.1 C.2.2.2.2.2.1 (z_one h1 hM) 0 2 rfl rfl hv d (kk H locs ls h1 h2 h3 h4)
theorem z_alenII (C : z_C X cc own nL rm) {a N : Nat} {f : Nat → Option Nat} {v : Int32} (hM : M a = some (.inl ((z_G X).2.2.2.2.1, N, .inr (.inr (.inr (.inr f)))))) (hv : Int32.ofNat N = v) (d : decode cc pc = .ok (.arraylength, 1)) (kk : z_W X M k n (pc + 1) lv (.int v :: st)) : z_W X M k n pc lv (.ref a :: st) :=
  fun H locs ls h1 h2 h3 h4 => va_alen C.1 C.2.1 C.2.2.2.2.2.1 (z_one h1 hM) 0 3 rfl rfl hv d (kk H locs ls h1 h2 h3 h4)
theorem z_iast (C : z_C X cc own nL rm) {a N : Nat} {f : Nat → Int32} {i x : Int32} {j : Nat} (hM : M a = some (.inl ((z_G X).2.2.1, N, .inl f))) (hin : vp_in i N) (hj : i.toNatClampNeg = j) (d : decode cc pc = .ok (.iastore, 1)) (kk : z_W X (z_up M a (.inl ((z_G X).2.2.1, N, .inl (upd f j x)))) k n (pc + 1) lv st) : z_W X M k n pc lv (.int x :: .int i :: .ref a :: st) := by
  subst hj
  intro H locs ls h1 h2 h3 h4
  refine W.iast C.1 C.2.1 (h1 a _ hM) ((C.2.2.2.2.2.1.2 1 _ rfl).1 N (fun j => .int (f j))) (fun q => by cases q) (by show ¬ (i < 0 ∨ (arrV _ _ _).slots.size ≤ _); rw [arrV_size]; exact hin) rfl rfl d fun H1 e z oq => ?_
  refine kk H1 _ ls (z_h_up h1 ?_ oq) (z_in_up h2 (h2 a _ hM)) (h3.put z oq (h2 a _ hM)) h4
  show H1[a]? = some (vp_cell _ _)
  rw [e]
  rw [vp_cell_i, vp_cell_i, arrV_store]
  congr 2
  funext q
  by_cases hq : q = i.toNatClampNeg
  · subst hq
    simp [updV, upd]
  · simp [updV, upd, hq]
theorem z_bast (C : z_C X cc own nL rm) {a N : Nat} {f : Nat → Int32} {i x : Int32} {j : Nat} (hM : M a = some (.inl ((z_G X).2.1, N, .inl f))) (hin : vp_in i N) (hj : i.toNatClampNeg = j) (d : decode cc pc = .ok (.bastore, 1)) (kk : z_W X (z_up M a (.inl ((z_G X).2.1, N, .inl (upd f j (vp_nar .byte x))))) k n (pc + 1) lv st) : z_W X M k n pc lv (.int x :: .int i :: .ref a :: st) := by
  subst hj
  intro H locs ls h1 h2 h3 h4
  refine W.bast C.1 C.2.1 (h1 a _ hM) ((C.2.2.2.2.2.1.2 0 _ rfl).1 N (fun j => .int (f j))) (fun q => by cases q) (by show ¬ (i < 0 ∨ (arrV _ _ _).slots.size ≤ _); rw [arrV_size]; exact hin) rfl rfl d fun H1 e z oq => ?_
  refine kk H1 _ ls (z_h_up h1 ?_ oq) (z_in_up h2 (h2 a _ hM)) (h3.put z oq (h2 a _ hM)) h4
  show H1[a]? = some (vp_cell _ _)
  rw [e]
  rw [vp_cell_i, vp_cell_i, arrV_store]
  congr 2
  funext q
  by_cases hq : q = i.toNatClampNeg
  · subst hq
    simp [updV, upd, vp_nar]
    try rfl
  · simp [updV, upd, hq]
/-- a new object -/
theorem z_new (C : z_C X cc own nL rm) {C' : String} {T : u_T} {N ci index : Nat} {fs : List Value} (hc : vwCl[ci]? = some (C', T, N)) (hin : ∀ w ∈ u_ws C' T N, w ∈ gw) (ty : Nat → FieldType) (hty : ∀ k, k < N → parseFieldDescriptor (T k).2.2.1 = some (ty k)) (hcl : Cond.classLink own index C' ∈ gw) (hinst : Cond.instantiable C' N ∈ gw) (hini : Cond.initialized C' ∈ gw) (hfs : ∀ j, j < N → defaultValue (ty j) = vp_V fs j) (hk : k + 1 ≤ rm.cells) (hn : n + N ≤ rm.slots) (d : decode cc pc = .ok (.new index, 3))
    (kk : ∀ q : Nat, M q = none → z_W X (z_up M q (.inr (ci, fs))) (k + 1) (n + N) (pc + 3) lv (.ref q :: st)) : z_W X M k n pc lv st := by
  intro H locs ls h1 h2 h3 h4
  have hKn := C.2.2.2.2.2.1.1 ci _ hc
  refine W.newcK C.1 C.2.1 C.2.2.2.1 (z_tow C hcl) (z_tow C hinst) (z_tow C hini) rfl d (by rw [C.2.2.2.2.2.2.2.2]; exact hk) (by rw [C.2.2.2.2.2.2.2.2]; exact hn) hKn.2.1 rfl fun H1 kC hkC e1 z1 o1 => ?_
  exact kk H.size (z_h_no h1 (Nat.le_refl _)) H1 locs ls (z_h_new h1 rfl ⟨_, hc, (u_born ty C.2.2.2.2.1 hin hKn hkC e1 hty).to hfs⟩ o1) (z_in_up h2 (C.2.2.2.2.2.2.2.1 _ h3.1)) ⟨Nat.le_trans h3.1 (by omega), fun x g1 g2 => (o1 x (Nat.lt_of_lt_of_le g1 h3.1)).trans (h3.2.1 x g1 g2), h3.2.2⟩ h4
/-- a new row of ints -/
theorem z_newI (C : z_C X cc own nL rm) {i : Int32} {N : Nat} (hw : Cond.arrayClass .int ∈ gw) (h0 : ¬ i < 0) (hN : i.toNatClampNeg = N) (hb : N * 4 ≤ 536870912) (hk : k + 1 ≤ rm.cells) (hn : n + N ≤ rm.slots) (d : decode cc pc = .ok (.newarray .int, 2))
    (kk : ∀ q : Nat, M q = none → z_W X (z_up M q (.inl ((z_G X).2.2.1, N, .inl (fun _ => 0)))) (k + 1) (n + N) (pc + 2) lv (.ref q :: st)) : z_W X M k n pc lv (.int i :: st) := by
  intro H locs ls h1 h2 h3 h4
  refine va_newaK C.1 C.2.1 (atype := .int) (z_tow C hw) rfl d rfl h0 hN hb (by rw [C.2.2.2.2.2.2.2.2]; exact hk) (by rw [C.2.2.2.2.2.2.2.2]; exact hn) rfl fun H1 cA e1 z1 o1 hAr hNm => ?_
  have e : cA = (z_G X).2.2.1 := Option.some.inj (hNm.symm.trans (C.2.2.2.2.2.1.2 1 _ rfl).2)
  subst e
  refine kk H.size (z_h_no h1 (Nat.le_refl _)) H1 locs ls (z_h_new h1 rfl ?_ o1) (z_in_up h2 (C.2.2.2.2.2.2.2.1 _ h3.1)) ⟨Nat.le_trans h3.1 (by omega), fun x g1 g2 => (o1 x (Nat.lt_of_lt_of_le g1 h3.1)).trans (h3.2.1 x g1 g2), h3.2.2⟩ h4
  show H1[H.size]? = some (vp_cell _ _)
  rw [vp_cell_i]
  exact e1
theorem z_newB (C : z_C X cc own nL rm) {i : Int32} {N : Nat} (hw : Cond.arrayClass .byte ∈ gw) (h0 : ¬ i < 0) (hN : i.toNatClampNeg = N) (hb : N * 1 ≤ 536870912) (hk : k + 1 ≤ rm.cells) (hn : n + N ≤ rm.slots) (d : decode cc pc = .ok (.newarray .byte, 2))
    (kk : ∀ q : Nat, M q = none → z_W X (z_up M q (.inl ((z_G X).2.1, N, .inl (fun _ => 0)))) (k + 1) (n + N) (pc + 2) lv (.ref q :: st)) : z_W X M k n pc lv (.int i :: st) := by
  intro H locs ls h1 h2 h3 h4
  refine va_newaK C.1 C.2.1 (atype := .byte) (z_tow C hw) rfl d rfl h0 hN hb (by rw [C.2.2.2.2.2.2.2.2]; exact hk) (by rw [C.2.2.2.2.2.2.2.2]; exact hn) rfl fun H1 cA e1 z1 o1 hAr hNm => ?_
  have e : cA = (z_G X).2.1 := Option.some.inj (hNm.symm.trans (C.2.2.2.2.2.1.2 0 _ rfl).2)
  subst e
  refine kk H.size (z_h_no h1 (Nat.le_refl _)) H1 locs ls (z_h_new h1 rfl ?_ o1) (z_in_up h2 (C.2.2.2.2.2.2.2.1 _ h3.1)) ⟨Nat.le_trans h3.1 (by omega), fun x g1 g2 => (o1 x (Nat.lt_of_lt_of_le g1 h3.1)).trans (h3.2.1 x g1 g2), h3.2.2⟩ h4
  show H1[H.size]? = some (vp_cell _ _)
  rw [vp_cell_i]
  exact e1
/-- a row of ints, told by another function that is the same on its places -/
theorem z_reI {cA : ClassId} {N a : Nat} {f : Nat → Int32} (g : Nat → Int32) (hM : M a = some (.inl (cA, N, .inl f))) (h : ∀ j, j < N → f j = g j) (kk : z_W X (z_up M a (.inl (cA, N, .inl g))) k n pc lv st) : z_W X M k n pc lv st := by
  intro H locs ls h1 h2 h3 h4
  refine kk H locs ls (z_h_up h1 ?_ (fun _ _ => rfl)) (z_in_up h2 (h2 a _ hM)) h3 h4
  have e : H[a]? = some (vp_cell cA (N, .inl f)) := h1 a _ hM
  show H[a]? = some (vp_cell cA (N, .inl g))
  rw [e, vp_cell_i, vp_cell_i]
  congr 1
  unfold arrV
  congr 2
  funext j
  exact congrArg Value.int (h j.1 j.2)
/-- a new row of references to rows of ints, or to panes -/
theorem z_newP (C : z_C X cc own nL rm) {i : Int32} {N index : Nat} (hcl : Cond.classLink own index RX1 ∈ gw) (hw : Cond.arrayOver (.object RX1) ∈ z_nest) (h0 : ¬ i < 0) (hN : i.toNatClampNeg = N) (hb : N * 4 ≤ 536870912) (hk : k + 1 ≤ rm.cells) (hn : n + N ≤ rm.slots) (d : decode cc pc = .ok (.anewarray index, 3))
    (kk : ∀ q : Nat, M q = none → z_W X (z_up M q (.inl ((z_G X).2.2.2.1, N, .inr (.inr (.inr (.inr (fun _ => none))))))) (k + 1) (n + N) (pc + 3) lv (.ref q :: st)) : z_W X M k n pc lv (.int i :: st) := by
  intro H locs ls h1 h2 h3 h4
  subst hN
  refine W.anew C.1 C.2.1 C.2.2.2.1 (z_tow C hcl) (va_AO.use (C.2.2.2.2.2.2.1.1.2.2.2.2.1 _ hw)) rfl d rfl h0 hb (by rw [C.2.2.2.2.2.2.2.2]; exact hk) (by rw [C.2.2.2.2.2.2.2.2]; exact hn) fun cA kA comp f1 f2 f3 f4 => ?_
  have e : cA = (z_G X).2.2.2.1 := by
    obtain ⟨kA', comp', g1, g2, g3, g4⟩ := (C.2.2.2.2.2.1.2 2 _ rfl).2
    first | exact Option.some.inj (f1.symm.trans g4) | exact Option.some.inj (f2.symm.trans g4) | exact Option.some.inj (f3.symm.trans g4) | exact Option.some.inj (f4.symm.trans g4)
  subst e
  generalize hH1 : H.push ({ cls := (z_G X).2.2.2.1, slots := Array.replicate i.toNatClampNeg .null, vm := .none } : Cell) = H1
  have z1 : H1.size = H.size + 1 := by rw [← hH1, Array.size_push]
  have e1 : H1[H.size]? = some (arrV (z_G X).2.2.2.1 i.toNatClampNeg (fun _ => .null)) := by rw [← hH1, Array.getElem?_push_size, ← arrV_new]
  have o1 : ∀ q : Nat, q < H.size → H1[q]? = H[q]? := fun q hq => by rw [← hH1, Array.getElem?_push, if_neg (Nat.ne_of_lt hq)]
  refine kk H.size (z_h_no h1 (Nat.le_refl _)) H1 locs ls (z_h_new h1 rfl ?_ o1) (z_in_up h2 (C.2.2.2.2.2.2.2.1 _ h3.1)) ⟨Nat.le_trans h3.1 (by omega), fun x g1 g2 => (o1 x (Nat.lt_of_lt_of_le g1 h3.1)).trans (h3.2.1 x g1 g2), h3.2.2⟩ h4
  show H1[H.size]? = some (vp_cell _ _)
  rw [vp_cell_q]
  exact e1
theorem z_newII (C : z_C X cc own nL rm) {i : Int32} {N index : Nat} (hcl : Cond.classLink own index "[I" ∈ gw) (hw : Cond.arrayOver (.array .int) ∈ z_nest) (h0 : ¬ i < 0) (hN : i.toNatClampNeg = N) (hb : N * 4 ≤ 536870912) (hk : k + 1 ≤ rm.cells) (hn : n + N ≤ rm.slots) (d : decode cc pc = .ok (.anewarray index, 3))
    (kk : ∀ q : Nat, M q = none → z_W X (z_up M q (.inl ((z_G X).2.2.2.2.1, N, .inr (.inr (.inr (.inr (fun _ => none))))))) (k + 1) (n + N) (pc + 3) lv (.ref q :: st)) : z_W X M k n pc lv (.int i :: st) := by
  intro H locs ls h1 h2 h3 h4
  subst hN
  refine W.anewA (t := .int) C.1 C.2.1 C.2.2.2.1 (z_tow C hcl) (C.2.2.2.2.2.2.1.1.2.2.2.2.2.1 _ hw) rfl d rfl h0 hb (by rw [C.2.2.2.2.2.2.2.2]; exact hk) (by rw [C.2.2.2.2.2.2.2.2]; exact hn) fun cA kA comp f1 f2 f3 f4 => ?_
  have e : cA = (z_G X).2.2.2.2.1 := by
    exact Option.some.inj (f1.symm.trans (C.2.2.2.2.2.1.2 3 _ rfl).2)
  subst e
  generalize hH1 : H.push ({ cls := (z_G X).2.2.2.2.1, slots := Array.replicate i.toNatClampNeg .null, vm := .none } : Cell) = H1
  have z1 : H1.size = H.size + 1 := by rw [← hH1, Array.size_push]
  have e1 : H1[H.size]? = some (arrV (z_G X).2.2.2.2.1 i.toNatClampNeg (fun _ => .null)) := by rw [← hH1, Array.getElem?_push_size, ← arrV_new]
  have o1 : ∀ q : Nat, q < H.size → H1[q]? = H[q]? := fun q hq => by rw [← hH1, Array.getElem?_push, if_neg (Nat.ne_of_lt hq)]
  refine kk H.size (z_h_no h1 (Nat.le_refl _)) H1 locs ls (z_h_new h1 rfl ?_ o1) (z_in_up h2 (C.2.2.2.2.2.2.2.1 _ h3.1)) ⟨Nat.le_trans h3.1 (by omega), fun x g1 g2 => (o1 x (Nat.lt_of_lt_of_le g1 h3.1)).trans (h3.2.1 x g1 g2), h3.2.2⟩ h4
  show H1[H.size]? = some (vp_cell _ _)
  rw [vp_cell_q]
  exact e1
theorem z_aastII (C : z_C X cc own nL rm) {a v N nv : Nat} {f : Nat → Option Nat} {g : Nat → Int32} {i : Int32} {j : Nat} (hw : Cond.arrayOver (.array .int) ∈ z_nest) (hM : M a = some (.inl ((z_G X).2.2.2.2.1, N, .inr (.inr (.inr (.inr f)))))) (hv : M v = some (.inl ((z_G X).2.2.1, nv, .inl g))) (hin : vp_in i N) (hj : i.toNatClampNeg = j) (d : decode cc pc = .ok (.aastore, 1))
    (kk : z_W X (z_up M a (.inl ((z_G X).2.2.2.2.1, N, .inr (.inr (.inr (.inr (va_up f j (some v)))))))) k n (pc + 1) lv st) : z_W X M k n pc lv (.ref v :: .int i :: .ref a :: st) := by
  subst hj
  intro H locs ls h1 h2 h3 h4
  have hlt : i.toNatClampNeg < N := Nat.not_le.mp fun q => hin (Or.inr q)
  have h0 : ¬ i < 0 := fun q => hin (Or.inl q)
  obtain ⟨comp, c9, kA, k1, k2, k3, k4, k5⟩ := arrayOverA_spec (C.2.2.2.2.2.2.1.1.2.2.2.2.2.1 _ hw)
  have ec : c9 = (z_G X).2.2.2.2.1 := Option.some.inj (k5.symm.trans (C.2.2.2.2.2.1.2 3 _ rfl).2)
  have ep : comp = (z_G X).2.2.1 := Option.some.inj (k1.symm.trans (C.2.2.2.2.2.1.2 1 _ rfl).2)
  subst ec; subst ep
  obtain ⟨kC, hkC, -⟩ := Vm.findClass_spec k1
  refine W.aast C.1 C.2.1 (h1 a _ hM) (fun q h => by cases h) (fun h => by cases h) k3 k4 rfl hkC ⟨h0, by show _ < (arrV _ _ _).slots.size; rw [arrV_size]; exact hlt⟩ (h1 v _ hv) (fun q h => by cases h) hkC (va_asg _ _) rfl rfl d fun H1 e z oq => ?_
  refine kk H1 _ ls (z_h_up h1 ?_ oq) (z_in_up h2 (h2 a _ hM)) (h3.put z oq (h2 a _ hM)) h4
  show H1[a]? = some (vp_cell _ _)
  rw [e]
  rw [vp_cell_q, vp_cell_q, arrV_store]
  congr 2
  funext q
  by_cases hq : q = i.toNatClampNeg
  · subst hq
    simp [updV, va_up, va_rf]
  · simp [updV, va_up, hq]
theorem z_aastP (C : z_C X cc own nL rm) {a v N : Nat} {f : Nat → Option Nat} {vs : List Value} {i : Int32} {j : Nat} (hM : M a = some (.inl ((z_G X).2.2.2.1, N, .inr (.inr (.inr (.inr f)))))) (hv : M v = some (.inr (5, vs))) (hin : vp_in i N) (hj : i.toNatClampNeg = j) (d : decode cc pc = .ok (.aastore, 1))
    (kk : z_W X (z_up M a (.inl ((z_G X).2.2.2.1, N, .inr (.inr (.inr (.inr (va_up f j (some v)))))))) k n (pc + 1) lv st) : z_W X M k n pc lv (.ref v :: .int i :: .ref a :: st) := by
  subst hj
  intro H locs ls h1 h2 h3 h4
  have hlt : i.toNatClampNeg < N := Nat.not_le.mp fun q => hin (Or.inr q)
  have h0 : ¬ i < 0 := fun q => hin (Or.inl q)
  obtain ⟨r', hr', cellV, g1, g2, g3, -⟩ := h1 v _ hv
  have hcls := (C.2.2.2.2.2.1.1 5 (RX1, TX1, 7) rfl).2
  obtain ⟨kA, comp, k1, k2, k3, -⟩ := (C.2.2.2.2.2.1.2 2 _ rfl).2
  have hcomp : comp = (z_G X).1.1 5 := Option.some.inj (k3.symm.trans hcls.1)
  subst hcomp
  obtain ⟨kC, hkC, -⟩ := hcls.2
  refine W.aast C.1 C.2.1 (h1 a _ hM) (fun q h => by cases h) (fun h => by cases h) k1 k2 rfl hkC ⟨h0, by show _ < (arrV _ _ _).slots.size; rw [arrV_size]; exact hlt⟩ g1 (fun q h => by rw [g3] at h; cases h) (by rw [g2]; exact hkC) (by rw [g2]; exact va_assign hcls) rfl rfl d fun H1 e z oq => ?_
  refine kk H1 _ ls (z_h_up h1 ?_ oq) (z_in_up h2 (h2 a _ hM)) (h3.put z oq (h2 a _ hM)) h4
  show H1[a]? = some (vp_cell _ _)
  rw [e]
  rw [vp_cell_q, vp_cell_q, arrV_store]
  congr 2
  funext q
  by_cases hq : q = i.toNatClampNeg
  · subst hq
    simp [updV, va_up, va_rf]
  · simp [updV, va_up, hq]
end ZH
/-! the ends and the entries of a method -/
section ZE
variable {l : Launch} {G : zG} {q : zY} {rm : Room} {av : List Value} {M : zM}
/-- a method's surroundings, at its entry -/
theorem z_Mi_of {ty : FieldType} (post : Int32 → zM → Prop) (hy : plainFor q.1 = true) (hr : q.2.2.2 = some ty) (hargs : (lg_sl av).length ≤ q.2.2.1)
    (body : ∀ X : zX, z_l X = l → z_G X = G → (z_me X).name = q.1.name → z_C X q.2.1 q.1.cls q.2.2.1 rm → (∀ {M' : zM} {r : Int32} {k n pc : Nat} {lv : List (Nat × Value)}, decode q.2.1 pc = .ok (.ireturn, 1) → narrow ty (.int r) = .int r → post r M' → k ≤ rm.cells → n ≤ rm.slots → z_W X M' k n pc lv [.int r]) → z_W X M 0 0 0 (lv_args 0 av) []) : z_Mi l G q rm av M post := by
  intro sz
  refine va_MetF (cc := q.2.1) (maxL := q.2.2.1) (ret := q.2.2.2) hy rfl ?_
  intro p e s m args below meth c s₁ B hml hv
  obtain ⟨rfl, hsz, hh, hK, hJ⟩ := hv
  subst hsz
  have hl := lv_entry av (n := q.2.2.1) hargs
  rw [lg_entry_eq]
  have hts : ∀ w ∈ gw, w.before av.toArray s = true := fun w h => atoms_spec (ws := z_ws q) B.pre w (List.mem_cons_of_mem _ h)
  exact body (p, l, e, rm, s, m, av.toArray, below, meth, c, MQ below (va_Qi post (z_E G M s.heap.size) (z_A M s.heap.size)) av.toArray s rm.cells rm.slots (z_A M s.heap.size), z_A M s.heap.size, G) rfl rfl (name_of_methodNamed B.named B.method).1
    ⟨B.exec, B.bytes, hml, findClass_of_methodNamed B.named, hts, hK, hJ, fun q h => Or.inr h, rfl⟩
    (fun d hn hp hk hs H locs ls h1 h2 h3 h4 => W.widen hk hs (W.zret B.exec B.bytes (B.returns.trans hr) hn (fun t ht hW => ⟨⟨_, _, rfl, hp, by rw [ht]; exact h1, h2⟩, h3.F ht⟩) h3.2.2 d B.notSynchronized))
    s.heap [] _ hh (fun a e h => Or.inl ⟨e, h⟩) va_S.rf (by rw [show (z_c (p, l, e, rm, s, m, av.toArray, below, meth, c, _, _, G)).maxLocals = q.2.2.1 from hml]; exact hl)
theorem z_Mv_of (post : zM → Prop) (hy : plainFor q.1 = true) (hr : q.2.2.2 = none) (hargs : (lg_sl av).length ≤ q.2.2.1)
    (body : ∀ X : zX, z_l X = l → z_G X = G → (z_me X).name = q.1.name → z_C X q.2.1 q.1.cls q.2.2.1 rm → (∀ {M' : zM} {k n pc : Nat} {lv : List (Nat × Value)}, decode q.2.1 pc = .ok (.return_, 1) → post M' → k ≤ rm.cells → n ≤ rm.slots → z_W X M' k n pc lv []) → z_W X M 0 0 0 (lv_args 0 av) []) : z_Mv l G q rm av M post := by
  intro sz
  refine va_MetF (cc := q.2.1) (maxL := q.2.2.1) (ret := q.2.2.2) hy rfl ?_
  intro p e s m args below meth c s₁ B hml hv
  obtain ⟨rfl, hsz, hh, hK, hJ⟩ := hv
  subst hsz
  have hl := lv_entry av (n := q.2.2.1) hargs
  rw [lg_entry_eq]
  have hts : ∀ w ∈ gw, w.before av.toArray s = true := fun w h => atoms_spec (ws := z_ws q) B.pre w (List.mem_cons_of_mem _ h)
  exact body (p, l, e, rm, s, m, av.toArray, below, meth, c, MQ below (va_Qv post (z_E G M s.heap.size) (z_A M s.heap.size)) av.toArray s rm.cells rm.slots (z_A M s.heap.size), z_A M s.heap.size, G) rfl rfl (name_of_methodNamed B.named B.method).1
    ⟨B.exec, B.bytes, hml, findClass_of_methodNamed B.named, hts, hK, hJ, fun q h => Or.inr h, rfl⟩
    (fun d hp hk hs H locs ls h1 h2 h3 h4 => W.widen hk hs (W.vret B.exec B.bytes (B.returns.trans hr) (fun t ht hW => ⟨⟨_, rfl, hp, by rw [ht]; exact h1, h2⟩, h3.F ht⟩) h3.2.2 d B.notSynchronized))
    s.heap [] _ hh (fun a e h => Or.inl ⟨e, h⟩) va_S.rf (by rw [show (z_c (p, l, e, rm, s, m, av.toArray, below, meth, c, _, _, G)).maxLocals = q.2.2.1 from hml]; exact hl)
theorem z_Mr_of {ty : FieldType} (post : Nat → zM → Prop) (hy : plainFor q.1 = true) (hr : q.2.2.2 = some ty) (hty : (∃ n, ty = .object n) ∨ ∃ t, ty = .array t) (hargs : (lg_sl av).length ≤ q.2.2.1)
    (body : ∀ X : zX, z_l X = l → z_G X = G → (z_me X).name = q.1.name → z_C X q.2.1 q.1.cls q.2.2.1 rm → (∀ {M' : zM} {a k n pc : Nat} {lv : List (Nat × Value)}, decode q.2.1 pc = .ok (.areturn, 1) → post a M' → k ≤ rm.cells → n ≤ rm.slots → z_W X M' k n pc lv [.ref a]) → z_W X M 0 0 0 (lv_args 0 av) []) : z_Mr l G q rm av M post := by
  intro sz
  refine va_MetF (cc := q.2.1) (maxL := q.2.2.1) (ret := q.2.2.2) hy rfl ?_
  intro p e s m args below meth c s₁ B hml hv
  obtain ⟨rfl, hsz, hh, hK, hJ⟩ := hv
  subst hsz
  have hl := lv_entry av (n := q.2.2.1) hargs
  rw [lg_entry_eq]
  have hts : ∀ w ∈ gw, w.before av.toArray s = true := fun w h => atoms_spec (ws := z_ws q) B.pre w (List.mem_cons_of_mem _ h)
  exact body (p, l, e, rm, s, m, av.toArray, below, meth, c, MQ below (va_Qr (fun u : Nat × zM => post u.1 u.2) (fun u a t => a = u.1 ∧ z_E G M s.heap.size u.2 t) (z_A M s.heap.size)) av.toArray s rm.cells rm.slots (z_A M s.heap.size), z_A M s.heap.size, G) rfl rfl (name_of_methodNamed B.named B.method).1
    ⟨B.exec, B.bytes, hml, findClass_of_methodNamed B.named, hts, hK, hJ, fun q h => Or.inr h, rfl⟩
    (fun {M' a k n pc lv} d hp hk hs H locs ls h1 h2 h3 h4 => W.widen hk hs (W.aret B.exec B.bytes (B.returns.trans hr) hty (Or.inr ⟨a, rfl⟩) (fun t ht hW => ⟨⟨(a, M'), a, rfl, hp, rfl, by rw [ht]; exact h1, h2⟩, h3.F ht⟩) h3.2.2 d B.notSynchronized))
    s.heap [] _ hh (fun a e h => Or.inl ⟨e, h⟩) va_S.rf (by rw [show (z_c (p, l, e, rm, s, m, av.toArray, below, meth, c, _, _, G)).maxLocals = q.2.2.1 from hml]; exact hl)
end ZE
/-! the calls -/
section ZK
variable {X : zX} {cc : ByteArray} {own : String} {nL : Nat} {rm : Room} {M : zM} {k n pc : Nat} {lv : List (Nat × Value)} {st rest : List Value} {q : zY} {rmc : Room} {index b ci N : Nat} {fs : List Value} {r : vw_C} {As : List Value}
theorem z_cwV (C : z_C X cc own nL rm) (hq : Cond.code q.1 q.2.1 q.2.2.1 q.2.2.2 ∈ gw) (hl : Cond.methodLink own index q.1 ∈ gw) (hi : Cond.instanceMethod q.1 ∈ gw) (hs : Cond.selects q.1.cls q.1 q.1 ∈ gw) (hc : Cond.initialized q.1.cls ∈ gw) (hd : q.1.cls ≠ "java/lang/invoke/MethodHandle" ∧ q.1.cls ≠ "java/lang/invoke/VarHandle" ∧ (parseMethodDescriptor q.1.desc).map (fun d => d.parameters.length) = some N) (hR : rmc.frames + 1 ≤ rm.frames ∧ 8 + (q.2.2.1 + 11) + rmc.locals ≤ rm.locals) :
    CallW (z_R X) (z_s X) (z_a X) own q.1.cls index q.1 q.2.1 q.2.2.1 q.2.2.2 (z_ws q) rmc rmc.cells rmc.slots N :=
  cwV N C.2.2.2.2.1 (fun w h => by
    rcases List.mem_append.mp h with h | h
    · have : w ∈ gw := by
        rcases List.mem_cons.mp h with rfl | h
        · exact hl
        rcases List.mem_cons.mp h with rfl | h
        · exact hi
        rcases List.mem_cons.mp h with rfl | h
        · exact hs
        rcases List.mem_cons.mp h with rfl | h
        · exact hc
        exact absurd h List.not_mem_nil
      exact ⟨this, gw_good _ this⟩
    · exact z_good hq w h) rfl rfl rfl ⟨rfl, hd⟩ (by rw [C.2.2.2.2.2.2.2.2]; exact hR)
theorem z_cwS (C : z_C X cc own nL rm) (hq : Cond.code q.1 q.2.1 q.2.2.1 q.2.2.2 ∈ gw) (hl : Cond.methodLink own index q.1 ∈ gw) (hs : Cond.static q.1 ∈ gw) (hc : Cond.initialized q.1.cls ∈ gw) (hd : q.1.cls ≠ "java/lang/invoke/MethodHandle" ∧ q.1.cls ≠ "java/lang/invoke/VarHandle" ∧ (parseMethodDescriptor q.1.desc).map (fun d => d.parameters.length) = some N) (hR : rmc.frames + 1 ≤ rm.frames ∧ 8 + (q.2.2.1 + 11) + rmc.locals ≤ rm.locals) :
    CallB (z_R X) (z_s X) (z_a X) own index q.1 q.2.1 q.2.2.1 q.2.2.2 (z_ws q) rmc rmc.cells rmc.slots N ∧ (Cond.static q.1).before (z_a X) (z_s X) = true :=
  ⟨callB_of N C.2.2.2.2.1 (z_good hq) rfl rfl rfl (z_tow C hc) (z_tow C hl) hd (by rw [C.2.2.2.2.2.2.2.2]; exact hR), z_tow C hs⟩
theorem z_cwI (C : z_C X cc own nL rm) (hq : Cond.code q.1 q.2.1 q.2.2.1 q.2.2.2 ∈ gw) (hr : q.2.2.2 = none) (hl : Cond.methodLink own index q.1 ∈ gw) (hi : Cond.instanceMethod q.1 ∈ gw) (hc : Cond.initialized q.1.cls ∈ gw) (hn : q.1.name = "<init>") (hd : q.1.cls ≠ "java/lang/invoke/MethodHandle" ∧ q.1.cls ≠ "java/lang/invoke/VarHandle" ∧ (parseMethodDescriptor q.1.desc).map (fun d => d.parameters.length) = some N) (hR : rmc.frames + 1 ≤ rm.frames ∧ 8 + (q.2.2.1 + 11) + rmc.locals ≤ rm.locals) :
    CallB (z_R X) (z_s X) (z_a X) own index q.1 q.2.1 q.2.2.1 none (z_ws q) rmc rmc.cells rmc.slots N ∧ q.1.name = "<init>" ∧ (Cond.instanceMethod q.1).before (z_a X) (z_s X) = true :=
  ⟨by have h := callB_of (R := z_R X) (rm := rmc) (bytes := q.2.1) (maxL := q.2.2.1) (ret := q.2.2.2) (index := index) (own := own) N C.2.2.2.2.1 (z_good hq) rfl rfl rfl (z_tow C hc) (z_tow C hl) hd (by rw [C.2.2.2.2.2.2.2.2]; exact hR); rw [hr] at h; exact h, hn, z_tow C hi⟩
theorem z_callVi {post : Int32 → zM → Prop} (C : z_C X cc own nL rm) (hM : z_Mi (z_l X) (z_G X) q rmc (.ref b :: As) M post) (cw : CallW (z_R X) (z_s X) (z_a X) own q.1.cls index q.1 q.2.1 q.2.2.1 q.2.2.2 (z_ws q) rmc rmc.cells rmc.slots N) (hb : M b = some (.inr (ci, fs))) (hc : vwCl[ci]? = some r) (hr : r.1 = q.1.cls) (hN : As.length = N) (hst : st = As.reverse ++ .ref b :: rest) (hcat : (rest.map fun v => v.category).sum ≤ 8) {k' n' : Nat} (ek : k + rmc.cells = k') (en : n + rmc.slots = n') (hk : k' ≤ rm.cells) (hn : n' ≤ rm.slots) (d : decode cc pc = .ok (.invokevirtual index, 3))
    (kk : ∀ (x : Int32) (M' : zM), post x M' → z_W X M' k' n' (pc + 3) lv (.int x :: rest)) : z_W X M k n pc lv st := by
  subst hst; subst ek; subst en
  intro H locs ls h1 h2 h3 h4
  have hs := z_sub C h2 h3
  exact va_calli (va_runV ⟨C.1, C.2.1, rfl, C.2.2.2.1, C.2.2.2.2.1⟩ (hM H.size) cw ⟨z_blind, by rw [← hr]; exact z_recv C h1 hb hc, fun U hU hW => ⟨rfl, z_pre C h1 h2 h3 hU hW⟩⟩ rfl hN h4.1 rfl (lv_room hcat) d (by rw [C.2.2.2.2.2.2.2.2]; exact ⟨hk, hn⟩)) h3 (fun q _ h => hs q h) hs
    (fun x M' t H1 locs1 ht hvm hp hB hz hk1 hS => kk x M' hp H1 locs1 ls (by rw [← ht]; exact hB.1) (fun a e h => hs a (hB.2 a e h)) hS h4)
theorem z_callVv {post : zM → Prop} (C : z_C X cc own nL rm) (hM : z_Mv (z_l X) (z_G X) q rmc (.ref b :: As) M post) (cw : CallW (z_R X) (z_s X) (z_a X) own q.1.cls index q.1 q.2.1 q.2.2.1 q.2.2.2 (z_ws q) rmc rmc.cells rmc.slots N) (hb : M b = some (.inr (ci, fs))) (hc : vwCl[ci]? = some r) (hr : r.1 = q.1.cls) (hN : As.length = N) (hst : st = As.reverse ++ .ref b :: rest) (hcat : (rest.map fun v => v.category).sum ≤ 8) {k' n' : Nat} (ek : k + rmc.cells = k') (en : n + rmc.slots = n') (hk : k' ≤ rm.cells) (hn : n' ≤ rm.slots) (d : decode cc pc = .ok (.invokevirtual index, 3))
    (kk : ∀ (M' : zM), post M' → z_W X M' k' n' (pc + 3) lv rest) : z_W X M k n pc lv st := by
  subst hst; subst ek; subst en
  intro H locs ls h1 h2 h3 h4
  have hs := z_sub C h2 h3
  exact va_callv (va_runV ⟨C.1, C.2.1, rfl, C.2.2.2.1, C.2.2.2.2.1⟩ (hM H.size) cw ⟨z_blind, by rw [← hr]; exact z_recv C h1 hb hc, fun U hU hW => ⟨rfl, z_pre C h1 h2 h3 hU hW⟩⟩ rfl hN h4.1 rfl (lv_room hcat) d (by rw [C.2.2.2.2.2.2.2.2]; exact ⟨hk, hn⟩)) h3 (fun q _ h => hs q h) hs
    (fun M' t H1 locs1 ht hvm hp hB hz hk1 hS => kk M' hp H1 locs1 ls (by rw [← ht]; exact hB.1) (fun a e h => hs a (hB.2 a e h)) hS h4)
theorem z_callVr {post : Nat → zM → Prop} (C : z_C X cc own nL rm) (hM : z_Mr (z_l X) (z_G X) q rmc (.ref b :: As) M post) (cw : CallW (z_R X) (z_s X) (z_a X) own q.1.cls index q.1 q.2.1 q.2.2.1 q.2.2.2 (z_ws q) rmc rmc.cells rmc.slots N) (hb : M b = some (.inr (ci, fs))) (hc : vwCl[ci]? = some r) (hr : r.1 = q.1.cls) (hN : As.length = N) (hst : st = As.reverse ++ .ref b :: rest) (hcat : (rest.map fun v => v.category).sum ≤ 8) {k' n' : Nat} (ek : k + rmc.cells = k') (en : n + rmc.slots = n') (hk : k' ≤ rm.cells) (hn : n' ≤ rm.slots) (d : decode cc pc = .ok (.invokevirtual index, 3))
    (kk : ∀ (a : Nat) (M' : zM), post a M' → z_W X M' k' n' (pc + 3) lv (.ref a :: rest)) : z_W X M k n pc lv st := by
  subst hst; subst ek; subst en
  intro H locs ls h1 h2 h3 h4
  have hs := z_sub C h2 h3
  exact va_callr (va_runV ⟨C.1, C.2.1, rfl, C.2.2.2.1, C.2.2.2.2.1⟩ (hM H.size) cw ⟨z_blind, by rw [← hr]; exact z_recv C h1 hb hc, fun U hU hW => ⟨rfl, z_pre C h1 h2 h3 hU hW⟩⟩ rfl hN h4.1 rfl (lv_room hcat) d (by rw [C.2.2.2.2.2.2.2.2]; exact ⟨hk, hn⟩)) h3 (fun q _ h => hs q h) hs
    (fun u a t H1 locs1 ht hvm hp hB hz hk1 hS => by rw [hB.1]; exact kk u.1 u.2 hp H1 locs1 ls (by rw [← ht]; exact hB.2.1) (fun a e h => hs a (hB.2.2 a e h)) hS h4)
theorem z_callSi {post : Int32 → zM → Prop} (C : z_C X cc own nL rm) (hM : z_Mi (z_l X) (z_G X) q rmc As M post) (cw : CallB (z_R X) (z_s X) (z_a X) own index q.1 q.2.1 q.2.2.1 q.2.2.2 (z_ws q) rmc rmc.cells rmc.slots N ∧ (Cond.static q.1).before (z_a X) (z_s X) = true) (hN : As.length = N) (hst : st = As.reverse ++ rest) (hcat : (rest.map fun v => v.category).sum ≤ 8) {k' n' : Nat} (ek : k + rmc.cells = k') (en : n + rmc.slots = n') (hk : k' ≤ rm.cells) (hn : n' ≤ rm.slots) (d : decode cc pc = .ok (.invokestatic index, 3))
    (kk : ∀ (x : Int32) (M' : zM), post x M' → z_W X M' k' n' (pc + 3) lv (.int x :: rest)) : z_W X M k n pc lv st := by
  subst hst; subst ek; subst en
  intro H locs ls h1 h2 h3 h4
  have hs := z_sub C h2 h3
  exact va_calli (va_runS ⟨C.1, C.2.1, rfl, C.2.2.2.1, C.2.2.2.2.1⟩ (hM H.size) cw ⟨z_blind, fun U hU hW => ⟨rfl, z_pre C h1 h2 h3 hU hW⟩⟩ rfl hN h4.1 rfl (lv_room hcat) d (by rw [C.2.2.2.2.2.2.2.2]; exact ⟨hk, hn⟩)) h3 (fun q _ h => hs q h) hs
    (fun x M' t H1 locs1 ht hvm hp hB hz hk1 hS => kk x M' hp H1 locs1 ls (by rw [← ht]; exact hB.1) (fun a e h => hs a (hB.2 a e h)) hS h4)
theorem z_callSr {post : Nat → zM → Prop} (C : z_C X cc own nL rm) (hM : z_Mr (z_l X) (z_G X) q rmc As M post) (cw : CallB (z_R X) (z_s X) (z_a X) own index q.1 q.2.1 q.2.2.1 q.2.2.2 (z_ws q) rmc rmc.cells rmc.slots N ∧ (Cond.static q.1).before (z_a X) (z_s X) = true) (hN : As.length = N) (hst : st = As.reverse ++ rest) (hcat : (rest.map fun v => v.category).sum ≤ 8) {k' n' : Nat} (ek : k + rmc.cells = k') (en : n + rmc.slots = n') (hk : k' ≤ rm.cells) (hn : n' ≤ rm.slots) (d : decode cc pc = .ok (.invokestatic index, 3))
    (kk : ∀ (a : Nat) (M' : zM), post a M' → z_W X M' k' n' (pc + 3) lv (.ref a :: rest)) : z_W X M k n pc lv st := by
  subst hst; subst ek; subst en
  intro H locs ls h1 h2 h3 h4
  have hs := z_sub C h2 h3
  exact va_callr (va_runS ⟨C.1, C.2.1, rfl, C.2.2.2.1, C.2.2.2.2.1⟩ (hM H.size) cw ⟨z_blind, fun U hU hW => ⟨rfl, z_pre C h1 h2 h3 hU hW⟩⟩ rfl hN h4.1 rfl (lv_room hcat) d (by rw [C.2.2.2.2.2.2.2.2]; exact ⟨hk, hn⟩)) h3 (fun q _ h => hs q h) hs
    (fun u a t H1 locs1 ht hvm hp hB hz hk1 hS => by rw [hB.1]; exact kk u.1 u.2 hp H1 locs1 ls (by rw [← ht]; exact hB.2.1) (fun a e h => hs a (hB.2.2 a e h)) hS h4)
theorem z_callI {post : zM → Prop} (C : z_C X cc own nL rm) (hM : z_Mv (z_l X) (z_G X) q rmc (.ref b :: As) M post) (cw : CallB (z_R X) (z_s X) (z_a X) own index q.1 q.2.1 q.2.2.1 none (z_ws q) rmc rmc.cells rmc.slots N ∧ q.1.name = "<init>" ∧ (Cond.instanceMethod q.1).before (z_a X) (z_s X) = true) (hN : As.length = N) (hst : st = As.reverse ++ .ref b :: rest) (hcat : (rest.map fun v => v.category).sum ≤ 8) {k' n' : Nat} (ek : k + rmc.cells = k') (en : n + rmc.slots = n') (hk : k' ≤ rm.cells) (hn : n' ≤ rm.slots) (d : decode cc pc = .ok (.invokespecial index, 3))
    (kk : ∀ (M' : zM), post M' → z_W X M' k' n' (pc + 3) lv rest) : z_W X M k n pc lv st := by
  subst hst; subst ek; subst en
  intro H locs ls h1 h2 h3 h4
  have hs := z_sub C h2 h3
  exact va_callv (va_runI ⟨C.1, C.2.1, rfl, C.2.2.2.1, C.2.2.2.2.1⟩ (hM H.size) cw ⟨z_blind, fun U hU hW => ⟨rfl, z_pre C h1 h2 h3 hU hW⟩⟩ rfl hN h4.1 rfl (lv_room hcat) d (by rw [C.2.2.2.2.2.2.2.2]; exact ⟨hk, hn⟩)) h3 (fun q _ h => hs q h) hs
    (fun M' t H1 locs1 ht hvm hp hB hz hk1 hS => kk M' hp H1 locs1 ls (by rw [← ht]; exact hB.1) (fun a e h => hs a (hB.2 a e h)) hS h4)
end ZK

theorem z_up_up (M : zM) (a : Nat) (e e' : va_E) : z_up (z_up M a e) a e' = z_up M a e' := by
  funext q
  by_cases h : q = a <;> simp [z_up, h]
theorem z_up_swap (M : zM) {a b : Nat} (h : a ≠ b) (e f : va_E) : z_up (z_up M a e) b f = z_up (z_up M b f) a e := by
  funext q
  by_cases h1 : q = a
  · subst h1
    simp [z_up, h]
  · by_cases h2 : q = b
    · subst h2
      simp [z_up, h1]
    · simp [z_up, h1, h2]
theorem z_up_id {M : zM} {a : Nat} {e : va_E} (h : M a = some e) : z_up M a e = M := by
  funext q
  by_cases h1 : q = a
  · subst h1
    simp [z_up, h]
  · simp [z_up, h1]
theorem z_ne {M : zM} {a b : Nat} {e f : va_E} (ha : M a = some e) (hb : M b = some f) (h : e ≠ f) : a ≠ b := fun q => h (Option.some.inj (ha.symm.trans ((congrArg M q).trans hb)))
theorem z_neN {M : zM} {a b : Nat} {e : va_E} (ha : M a = some e) (hb : M b = none) : a ≠ b := fun q => by rw [q, hb] at ha; cases ha
theorem z_upN {M : zM} {a b : Nat} {e : va_E} (h : M b = none) (hab : b ≠ a) : z_up M a e b = none := by rw [z_up_n _ _ hab]; exact h
