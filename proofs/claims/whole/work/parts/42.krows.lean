/-! PART 42: String constants (cells outside of every world): where they stand is told by G -/
abbrev zK (G : zG) (i : Nat) : Nat := G.2.2.2.2.2.1 i
abbrev zV (G : zG) (i : Nat) : Nat := G.2.2.2.2.2.2 i
def z_kln (i : Nat) : Nat := [0, 1, 1, 1, 1].getD i 0
def z_kby (i : Nat) : Nat → Int32 := fun j => ([[], [32], [124], [62], [60]].getD i []).getD j 0
theorem z_kln_in : ∀ i, i < 5 → z_kln i ≤ 1 := by decide
theorem z_kfit : ∀ i, i < 5 → ∀ j, fits .byte (.int (z_kby i j)) = true := by
  intro i hi j
  rcases (show i = 0 ∨ i = 1 ∨ i = 2 ∨ i = 3 ∨ i = 4 by omega) with rfl | rfl | rfl | rfl | rfl <;> rcases j with _ | j <;> first | rfl | decide
section KR
variable {X : zX} {cc : ByteArray} {own : String} {nL : Nat} {rm : Room} {M : zM} {k n pc : Nat} {lv : List (Nat × Value)} {st rest : List Value} {q : zY} {rmc : Room} {index N i : Nat} {As : List Value}
theorem z_KS (C : z_C X cc own nL rm) : vk_S 5 [0, 1, 1, 1, 1] [[], [32], [124], [62], [60]] (zK (z_G X)) (zV (z_G X)) (z_F X) (z_s X) (z_s X).heap := C.2.2.2.2.2.2.1.2.1.1.1
theorem z_ldcK (C : z_C X cc RX5 nL rm) (hi : i < 5) (hix : (z_sK i).1 = index) (d : decode cc pc = .ok (.ldc index, 2)) (kk : z_W X M k n (pc + 2) lv (.ref (zK (z_G X) i) :: st)) : z_W X M k n pc lv st := by
  subst hix
  exact fun H locs ls h1 h2 h3 h4 => va_ldcS C.1 C.2.1 C.2.2.2.1 (C.2.2.2.2.2.2.1.2.1.1.2 i hi) d (kk H locs ls h1 h2 h3 h4)
theorem z_getKv (C : z_C X cc own nL rm) (hl : Cond.fieldLink own index "java/lang/String" "value" "[B" ∈ gw) (hi : i < 5) (d : decode cc pc = .ok (.getfield index, 3)) (kk : z_W X M k n (pc + 3) lv (.ref (zV (z_G X) i) :: st)) : z_W X M k n pc lv (.ref (zK (z_G X) i) :: st) :=
  fun H locs ls h1 h2 h3 h4 => vk_getf C.1 C.2.1 ((z_KS C).1 i hi).2.2.1 h3 C.2.2.2.1 (z_tow C hl) (fun _ h => h) d (kk H locs ls h1 h2 h3 h4)
theorem z_getKc (C : z_C X cc own nL rm) (hl : Cond.fieldLink own index "java/lang/String" "coder" "B" ∈ gw) (hi : i < 5) (d : decode cc pc = .ok (.getfield index, 3)) (kk : z_W X M k n (pc + 3) lv (.int 0 :: st)) : z_W X M k n pc lv (.ref (zK (z_G X) i) :: st) :=
  fun H locs ls h1 h2 h3 h4 => vk_getf C.1 C.2.1 ((z_KS C).1 i hi).2.1 h3 C.2.2.2.1 (z_tow C hl) (fun _ h => h) d (kk H locs ls h1 h2 h3 h4)
theorem z_alenK (C : z_C X cc own nL rm) (hi : i < 5) (d : decode cc pc = .ok (.arraylength, 1)) (kk : z_W X M k n (pc + 1) lv (.int (nI (z_kln i)) :: st)) : z_W X M k n pc lv (.ref (zV (z_G X) i) :: st) :=
  fun H locs ls h1 h2 h3 h4 => va_tlen C.1 C.2.1 ((z_KS C).1 i hi).2.2.2 h3 rfl d (kk H locs ls h1 h2 h3 h4)
theorem z_callKi {post : Int32 → zM → Prop} (C : z_C X cc own nL rm) (hM : z_Mi (z_l X) (z_G X) q rmc (.ref (zK (z_G X) i) :: As) M post) (cw : CallW (z_R X) (z_s X) (z_a X) own q.1.cls index q.1 q.2.1 q.2.2.1 q.2.2.2 (z_ws q) rmc rmc.cells rmc.slots N) (hi : i < 5) (hr : "java/lang/String" = q.1.cls) (_ : True) (hN : As.length = N) (hst : st = As.reverse ++ .ref (zK (z_G X) i) :: rest) (hcat : (rest.map fun v => v.category).sum ≤ 8) {k' n' : Nat} (ek : k + rmc.cells = k') (en : n + rmc.slots = n') (hk : k' ≤ rm.cells) (hn : n' ≤ rm.slots) (d : decode cc pc = .ok (.invokevirtual index, 3))
    (kk : ∀ (x : Int32) (M' : zM), post x M' → z_W X M' k' n' (pc + 3) lv (.int x :: rest)) : z_W X M k n pc lv st := by
  subst hst; subst ek; subst en
  intro H locs ls h1 h2 h3 h4
  have hs := z_sub C h2 h3
  exact va_calli (va_runV ⟨C.1, C.2.1, rfl, C.2.2.2.1, C.2.2.2.2.1⟩ (hM H.size) cw ⟨z_blind, by rw [← hr]; exact vk_recv (z_KS C) hi h3, fun U hU hW => ⟨rfl, z_pre C h1 h2 h3 hU hW⟩⟩ rfl hN h4.1 rfl (lv_room hcat) d (by rw [C.2.2.2.2.2.2.2.2]; exact ⟨hk, hn⟩)) h3 (fun q _ h => hs q h) hs
    (fun x M' t H1 locs1 ht hvm hp hB hz hk1 hS => kk x M' hp H1 locs1 ls (by rw [← ht]; exact hB.1) (fun a e h => hs a (hB.2 a e h)) hS h4)
theorem z_callKv {post : zM → Prop} (C : z_C X cc own nL rm) (hM : z_Mv (z_l X) (z_G X) q rmc (.ref (zK (z_G X) i) :: As) M post) (cw : CallW (z_R X) (z_s X) (z_a X) own q.1.cls index q.1 q.2.1 q.2.2.1 q.2.2.2 (z_ws q) rmc rmc.cells rmc.slots N) (hi : i < 5) (hr : "java/lang/String" = q.1.cls) (_ : True) (hN : As.length = N) (hst : st = As.reverse ++ .ref (zK (z_G X) i) :: rest) (hcat : (rest.map fun v => v.category).sum ≤ 8) {k' n' : Nat} (ek : k + rmc.cells = k') (en : n + rmc.slots = n') (hk : k' ≤ rm.cells) (hn : n' ≤ rm.slots) (d : decode cc pc = .ok (.invokevirtual index, 3))
    (kk : ∀ (M' : zM), post M' → z_W X M' k' n' (pc + 3) lv rest) : z_W X M k n pc lv st := by
  subst hst; subst ek; subst en
  intro H locs ls h1 h2 h3 h4
  have hs := z_sub C h2 h3
  exact va_callv (va_runV ⟨C.1, C.2.1, rfl, C.2.2.2.1, C.2.2.2.2.1⟩ (hM H.size) cw ⟨z_blind, by rw [← hr]; exact vk_recv (z_KS C) hi h3, fun U hU hW => ⟨rfl, z_pre C h1 h2 h3 hU hW⟩⟩ rfl hN h4.1 rfl (lv_room hcat) d (by rw [C.2.2.2.2.2.2.2.2]; exact ⟨hk, hn⟩)) h3 (fun q _ h => hs q h) hs
    (fun M' t H1 locs1 ht hvm hp hB hz hk1 hS => kk M' hp H1 locs1 ls (by rw [← ht]; exact hB.1) (fun a e h => hs a (hB.2 a e h)) hS h4)
/-- System.arraycopy of a constant's letters -/
theorem z_copyK (zn dn : Nat) (C : z_C X cc own nL rm) {a n1 : Nat} {g : Nat → Int32} (hi : i < 5) (hlk : Cond.methodLink own index arraycopyName ∈ gw) (hM1 : M a = some (aB (z_G X) n1 g)) {dp z : Int32} (h2 : ¬ dp < 0) (h3 : ¬ z < 0) (ed : dp.toNatClampNeg = dn) (ez : z.toNatClampNeg = zn) (h4 : zn ≤ z_kln i) (h5 : dn + zn ≤ n1) (hR : 1 ≤ rm.frames ∧ 30 ≤ rm.locals) (hcat : (rest.map fun v => v.category).sum ≤ 8) (d : decode cc pc = .ok (.invokestatic index, 3))
    (kk : z_W X (z_up M a (aB (z_G X) n1 (va_cpy (z_kby i) g 0 dn zn))) k n (pc + 3) lv rest) : z_W X M k n pc lv (.int z :: .int dp :: .ref a :: .int 0 :: .ref (zV (z_G X) i) :: rest) := by
  subst ed; subst ez
  have nn : ∀ z : Int32, ¬ z < 0 → z.toInt = (z.toNatClampNeg : Int) := fun z hz => (z_cl (Int32.not_lt.mp hz)).symm
  intro H locs ls g1 g2 g3 g4 T hT X9
  obtain ⟨scr, hs1, ⟨hs6, k0, hk0, cm0, hkk0⟩, hs3, hs4, -, hs5, hs7⟩ := ((z_KS C).1 i hi).2.2.2
  have hs5' : ∀ j : Nat, j < z_kln i → scr.slots[j]? = some (.int (z_kby i j)) := hs5
  have hc0 : H[zV (z_G X) i]? = some scr := by rw [g3.2.1 _ (Array.getElem?_eq_some_iff.mp hs1).1 hs7]; exact hs1
  have hc1 : H[a]? = some (vp_cell (z_G X).2.1 (n1, .inl g)) := g1 a _ hM1
  obtain ⟨-, k1, hk1, cm1, hkk1⟩ := (C.2.2.2.2.2.1.2 0 _ rfl).1 n1 (fun j => .int (g j))
  have h4' : (0 : Int32).toNatClampNeg + z.toNatClampNeg ≤ z_kln i := by rw [sb_cl0]; omega
  have hsz : z_kln i ≤ scr.slots.size := hs4
  obtain ⟨vm', X', step⟩ := X9.arraycopy C.1 C.2.2.2.1 (z_tow C hlk) (z_tow C kw235) (z_tow C kw234) (z_tow C kw20) (src := zV (z_G X) i) (dst := a) (cs := scr) (cd := vp_cell (z_G X).2.1 (n1, .inl g)) (srcPos := 0) (destPos := dp) (n := z) (by rw [hT]; exact hc0) (by rw [hT]; exact hc1)
    hs6 (fun _ h => by cases h) hs3 (fun h => by cases h) hk0 hk1 hkk0 hkk1 (by simp [refKind]) (by decide) h2 h3
    (by rw [nn 0 (by decide), nn z h3]; omega)
    (by rw [nn dp h2, nn z h3]; show ¬ _ > ((arrV _ n1 (fun j => .int (g j))).slots.size : Int); rw [arrV_size]; omega)
    (fun vm₁ _ j hj => by
      have e : scr.slots.getD ((0 : Int32).toNatClampNeg + j) .null = .int (z_kby i ((0 : Int32).toNatClampNeg + j)) := by
        rw [Array.getD_eq_getD_getElem?, hs5' _ (by omega)]
        rfl
      refine ⟨?_, ?_⟩
      · rw [e]
        exact z_kfit i hi _
      · rw [e]
        exact trivial)
    (g := F0 (z_m X) pc ls (.int z :: .int dp :: .ref a :: .int 0 :: .ref (zV (z_G X) i) :: rest)) rfl (by rw [← g4.1]) (rest := rest) rfl (by rw [C.2.1]; exact d) (by rw [C.2.2.2.2.2.2.2.2]; exact hR.1) (by
      have h9 := hR.2
      have e9 : nativeFrameWords "java/lang/System" "arraycopy" 5 = 7 := rfl
      rw [C.2.2.2.2.2.2.2.2, e9]
      show 2 * 0 + _ + _ ≤ _
      omega)
  have e1 : copied scr (vp_cell (z_G X).2.1 (n1, .inl g)) 0 dp z = vp_cell (z_G X).2.1 (n1, .inl (va_cpy (z_kby i) g 0 dp.toNatClampNeg z.toNatClampNeg)) := va_copiedX (fun z => .int z) scr _ (z_kby i) g hs5' h4'
  rw [e1] at X' step
  have hl : a < H.size := (Array.getElem?_eq_some_iff.mp hc1).1
  generalize hE : vp_cell (z_G X).2.1 (n1, .inl (va_cpy (z_kby i) g 0 dp.toNatClampNeg z.toNatClampNeg)) = cE at X' step
  have hheap : ((T.setVm vm').setCell a cE).heap = H.setIfInBounds a cE := by rw [← hT]; rfl
  have oq : ∀ q : Nat, q ≠ a → (H.setIfInBounds a cE)[q]? = H[q]? := fun q hq => by simp [Array.getElem?_setIfInBounds, Ne.symm hq]
  obtain ⟨t, a1, b1⟩ := kk (H.setIfInBounds a cE) _ ls (z_h_up g1 (show (H.setIfInBounds a cE)[a]? = some (vp_cell _ _) by rw [hE]; simp [Array.getElem?_setIfInBounds, hl]) oq) (z_in_up g2 (g2 a _ hM1)) ⟨by simp; exact g3.1, fun q e1 e2 => by
      rw [oq q (fun e => e2 (by rw [e]; exact g2 a _ hM1))]
      exact g3.2.1 q e1 e2, fun q hq => by
      rcases List.mem_append.mp hq with h | h
      · exact g3.2.2 q h
      · obtain ⟨z, -, hz⟩ := List.mem_map.mp h
        rw [← hz]
        exact g2 a _ hM1⟩ g4 _ hheap X'
  exact ⟨t, step t a1, b1⟩
/-- null, and whether a reference is null -/
theorem z_null (C : z_C X cc own nL rm) (d : decode cc pc = .ok (.aconst_null, 1)) (kk : z_W X M k n (pc + 1) lv (.null :: st)) : z_W X M k n pc lv st :=
  fun H locs ls h1 h2 h3 h4 => lv_null C.1 C.2.1 d (kk H locs ls h1 h2 h3 h4)
theorem z_ifnonnull (C : z_C X cc own nL rm) {x : Nat} {off : Int} {tgt : Nat} (d : decode cc pc = .ok (.ifnonnull off, 3)) (ht : (pc : Int) + off = (tgt : Int)) (kk : z_W X M k n tgt lv st) : z_W X M k n pc lv (.ref x :: st) :=
  fun H locs ls h1 h2 h3 h4 => lv_ifnonnull C.1 C.2.1 d ht (kk H locs ls h1 h2 h3 h4)
theorem z_lneg (C : z_C X cc own nL rm) {x : Int64} (d : decode cc pc = .ok (.lneg, 1)) (kk : z_W X M k n (pc + 1) lv (.long (-x) :: st)) : z_W X M k n pc lv (.long x :: st) :=
  fun H locs ls h1 h2 h3 h4 => lv_lneg C.1 C.2.1 d (kk H locs ls h1 h2 h3 h4)
end KR
