/-! PART 61: constructors: a pane, a line, Out; private constructors of nest mates -/
section ZKN
variable {X : zX} {cc : ByteArray} {own host : String} {nL : Nat} {rm : Room} {M : zM} {k n pc : Nat} {lv : List (Nat × Value)} {st rest : List Value} {q : zY} {rmc : Room} {index b N : Nat} {As : List Value}
theorem z_cwIN (C : z_C X cc own nL rm) (hq : Cond.code q.1 q.2.1 q.2.2.1 q.2.2.2 ∈ gw) (hr : q.2.2.2 = none) (hl : Cond.methodLinkNest own index q.1 host ∈ z_nest) (hi : Cond.instanceMethod q.1 ∈ gw) (hc : Cond.initialized q.1.cls ∈ gw) (hn : q.1.name = "<init>") (hd : q.1.cls ≠ "java/lang/invoke/MethodHandle" ∧ q.1.cls ≠ "java/lang/invoke/VarHandle" ∧ (parseMethodDescriptor q.1.desc).map (fun d => d.parameters.length) = some N) (hR : rmc.frames + 1 ≤ rm.frames ∧ 8 + (q.2.2.1 + 11) + rmc.locals ≤ rm.locals) :
    va_CN (z_R X) (z_s X) (z_a X) own index q.1 host q.2.1 q.2.2.1 none (z_ws q) rmc rmc.cells rmc.slots N ∧ q.1.name = "<init>" ∧ (Cond.instanceMethod q.1).before (z_a X) (z_s X) = true :=
  ⟨by have h := va_cnB (R := z_R X) (rm := rmc) (bytes := q.2.1) (maxL := q.2.2.1) (ret := q.2.2.2) (index := index) (own := own) (host := host) N C.2.2.2.2.1 (z_good hq) rfl rfl rfl (C.2.2.2.2.2.2.1.1.2.1 _ _ _ _ hl) (z_tow C hc) hd (by rw [C.2.2.2.2.2.2.2.2]; exact hR); rw [hr] at h; exact h, hn, z_tow C hi⟩
theorem z_callIN {post : zM → Prop} (C : z_C X cc own nL rm) (hM : z_Mv (z_l X) (z_G X) q rmc (.ref b :: As) M post) (cw : va_CN (z_R X) (z_s X) (z_a X) own index q.1 host q.2.1 q.2.2.1 none (z_ws q) rmc rmc.cells rmc.slots N ∧ q.1.name = "<init>" ∧ (Cond.instanceMethod q.1).before (z_a X) (z_s X) = true) (hN : As.length = N) (hst : st = As.reverse ++ .ref b :: rest) (hcat : (rest.map fun v => v.category).sum ≤ 8) {k' n' : Nat} (ek : k + rmc.cells = k') (en : n + rmc.slots = n') (hk : k' ≤ rm.cells) (hn : n' ≤ rm.slots) (d : decode cc pc = .ok (.invokespecial index, 3))
    (kk : ∀ (M' : zM), post M' → z_W X M' k' n' (pc + 3) lv rest) : z_W X M k n pc lv st := by
  subst hst; subst ek; subst en
  intro H locs ls h1 h2 h3 h4
  have hs := z_sub C h2 h3
  exact va_callv (va_runIN ⟨C.1, C.2.1, rfl, C.2.2.2.1, C.2.2.2.2.1⟩ (hM H.size) cw ⟨z_blind, fun U hU hW => ⟨rfl, z_pre C h1 h2 h3 hU hW⟩⟩ rfl hN h4.1 rfl (lv_room hcat) d (by rw [C.2.2.2.2.2.2.2.2]; exact ⟨hk, hn⟩)) h3 (fun q _ h => hs q h) hs
    (fun M' t H1 locs1 ht hvm hp hB hz hk1 hS => kk M' hp H1 locs1 ls (by rw [← ht]; exact hB.1) (fun a e h => hs a (hB.2 a e h)) hS h4)
end ZKN
theorem cs_X3_33 {X : zX} {cc : ByteArray} {nL : Nat} {rm rmc : Room} (C : z_C X cc RX3 nL rm) (hR : rmc.frames + 1 ≤ rm.frames ∧ 8 + (1 + 11) + rmc.locals ≤ rm.locals) : va_CN (z_R X) (z_s X) (z_a X) RX3 33 (qX0_init).1 "Manypanes" (qX0_init).2.1 (qX0_init).2.2.1 none (z_ws qX0_init) rmc rmc.cells rmc.slots 0 ∧ (qX0_init).1.name = "<init>" ∧ (Cond.instanceMethod (qX0_init).1).before (z_a X) (z_s X) = true := z_cwIN (q := qX0_init) C kc_X0_init rfl kn91 kw92 kw4 rfl (by decide +kernel) hR
theorem cs_L_143 {X : zX} {cc : ByteArray} {nL : Nat} {rm rmc : Room} (C : z_C X cc RL nL rm) (hR : rmc.frames + 1 ≤ rm.frames ∧ 8 + (1 + 11) + rmc.locals ≤ rm.locals) : va_CN (z_R X) (z_s X) (z_a X) RL 143 (qX4_init).1 "ManypanesLaw" (qX4_init).2.1 (qX4_init).2.2.1 none (z_ws qX4_init) rmc rmc.cells rmc.slots 0 ∧ (qX4_init).1.name = "<init>" ∧ (Cond.instanceMethod (qX4_init).1).before (z_a X) (z_s X) = true := z_cwIN (q := qX4_init) C kc_X4_init rfl kn679 kw680 kw10 rfl (by decide +kernel) hR
theorem dX1_init_0 : decode cX1_init 0 = .ok (.aload_n 0, 1) := by decide +kernel
theorem dX1_init_1 : decode cX1_init 1 = .ok (.invokespecial 3, 3) := by decide +kernel
theorem dX1_init_4 : decode cX1_init 4 = .ok (.aload_n 0, 1) := by decide +kernel
theorem dX1_init_5 : decode cX1_init 5 = .ok (.aload_n 1, 1) := by decide +kernel
theorem dX1_init_6 : decode cX1_init 6 = .ok (.putfield 9, 3) := by decide +kernel
theorem dX1_init_9 : decode cX1_init 9 = .ok (.aload_n 0, 1) := by decide +kernel
theorem dX1_init_10 : decode cX1_init 10 = .ok (.iconst 0, 1) := by decide +kernel
theorem dX1_init_11 : decode cX1_init 11 = .ok (.putfield 15, 3) := by decide +kernel
theorem dX1_init_14 : decode cX1_init 14 = .ok (.aload_n 0, 1) := by decide +kernel
theorem dX1_init_15 : decode cX1_init 15 = .ok (.aload_n 1, 1) := by decide +kernel
theorem dX1_init_16 : decode cX1_init 16 = .ok (.invokevirtual 19, 3) := by decide +kernel
theorem dX1_init_19 : decode cX1_init 19 = .ok (.putfield 25, 3) := by decide +kernel
theorem dX1_init_22 : decode cX1_init 22 = .ok (.aload_n 0, 1) := by decide +kernel
theorem dX1_init_23 : decode cX1_init 23 = .ok (.iconst 0, 1) := by decide +kernel
theorem dX1_init_24 : decode cX1_init 24 = .ok (.putfield 28, 3) := by decide +kernel
theorem dX1_init_27 : decode cX1_init 27 = .ok (.aload_n 0, 1) := by decide +kernel
theorem dX1_init_28 : decode cX1_init 28 = .ok (.aload_n 0, 1) := by decide +kernel
theorem dX1_init_29 : decode cX1_init 29 = .ok (.getfield 25, 3) := by decide +kernel
theorem dX1_init_32 : decode cX1_init 32 = .ok (.putfield 31, 3) := by decide +kernel
theorem dX1_init_35 : decode cX1_init 35 = .ok (.aload_n 0, 1) := by decide +kernel
theorem dX1_init_36 : decode cX1_init 36 = .ok (.iconst (-1), 1) := by decide +kernel
theorem dX1_init_37 : decode cX1_init 37 = .ok (.putfield 34, 3) := by decide +kernel
theorem dX1_init_40 : decode cX1_init 40 = .ok (.aload_n 0, 1) := by decide +kernel
theorem dX1_init_41 : decode cX1_init 41 = .ok (.iconst 0, 1) := by decide +kernel
theorem dX1_init_42 : decode cX1_init 42 = .ok (.putfield 37, 3) := by decide +kernel
theorem dX1_init_45 : decode cX1_init 45 = .ok (.return_, 1) := by decide +kernel
theorem dX0_init_0 : decode cX0_init 0 = .ok (.aload_n 0, 1) := by decide +kernel
theorem dX0_init_1 : decode cX0_init 1 = .ok (.invokespecial 1, 3) := by decide +kernel
theorem dX0_init_4 : decode cX0_init 4 = .ok (.aload_n 0, 1) := by decide +kernel
theorem dX0_init_5 : decode cX0_init 5 = .ok (.new 7, 3) := by decide +kernel
theorem dX0_init_8 : decode cX0_init 8 = .ok (.dup, 1) := by decide +kernel
theorem dX0_init_9 : decode cX0_init 9 = .ok (.invokespecial 9, 3) := by decide +kernel
theorem dX0_init_12 : decode cX0_init 12 = .ok (.putfield 10, 3) := by decide +kernel
theorem dX0_init_15 : decode cX0_init 15 = .ok (.return_, 1) := by decide +kernel
theorem dX4_init_0 : decode cX4_init 0 = .ok (.aload_n 0, 1) := by decide +kernel
theorem dX4_init_1 : decode cX4_init 1 = .ok (.invokespecial 1, 3) := by decide +kernel
theorem dX4_init_4 : decode cX4_init 4 = .ok (.return_, 1) := by decide +kernel
set_option maxRecDepth 20000 in
theorem c_X1_init (l : Launch) (G : zG) {M : zM} {p : Nat} {ov : Nat} {vs : Nat} {nv : Nat} {fv : Nat → Int32}  (h_p : M p = some (.inr (5, [.null, .int 0, .int 0, .int 0, .int 0, .int 0, .int 0]))) (h_ov : M ov = some (cRw vs)) (h_vs : M vs = some (aI G nv fv))  : z_Mv l G qX1_init (z_rm 2 0 0) [.ref p, .ref ov] M (fun M' => M' = z_up M p (.inr (5, [.ref ov, .int 0, .int (Int32.ofNat nv), .int 0, .int (Int32.ofNat nv), .int (-1), .int 0])))  := by
  refine z_Mv_of _ (plainFor_of_name rfl) rfl (Nat.le_of_ble_eq_true rfl) (fun X hl hG hnm C ret => ?_)
  subst hl; subst hG
  have C : z_C X cX1_init RX1 2 (z_rm 2 0 0) := C
  show z_W X M 0 0 0 [(0, .ref p), (1, .ref ov)] []
  refine z_aload_n C dX1_init_0 rfl 0 rfl ?_
  refine z_objInit (rest := []) C kw51 kw32 kw33 (by decide) (Nat.le_of_ble_eq_true rfl) dX1_init_1 ?_
  refine z_aload_n C dX1_init_4 rfl 0 rfl ?_
  refine z_aload_n C dX1_init_5 rfl 1 rfl ?_
  refine pr_X1_9 C rfl rfl h_p dX1_init_6 ?_
  refine z_aload_n C dX1_init_9 rfl 0 rfl ?_
  refine z_iconst C (v := 0) dX1_init_10 (by decide) ?_
  refine pq_X1_15 C rfl rfl dX1_init_11 ?_
  refine z_aload_n C dX1_init_14 rfl 0 rfl ?_
  refine z_aload_n C dX1_init_15 rfl 1 rfl ?_
  refine z_callVi (rest := [.ref p]) (k' := 0) (n' := 0) C (c_X2_length (z_l X) (z_G X) ((z_up_n _ _ (z_ne h_ov h_p (by intro h; cases h))).trans h_ov) ((z_up_n _ _ (z_ne h_vs h_p (by intro h; cases h))).trans h_vs)) (cs_X1_19 C (by decide)) ((z_up_n _ _ (z_ne h_ov h_p (by intro h; cases h))).trans h_ov) rfl rfl rfl rfl (Nat.le_of_ble_eq_true rfl) rfl rfl (by decide) (by decide) dX1_init_16 (fun x16 M' hq => ?_)
  obtain ⟨rfl, rfl⟩ := hq
  refine pq_X1_25 C rfl rfl dX1_init_19 ?_
  refine z_aload_n C dX1_init_22 rfl 0 rfl ?_
  refine z_iconst C (v := 0) dX1_init_23 (by decide) ?_
  refine pq_X1_28 C rfl rfl dX1_init_24 ?_
  refine z_aload_n C dX1_init_27 rfl 0 rfl ?_
  refine z_aload_n C dX1_init_28 rfl 0 rfl ?_
  refine gr_X1_25 C (z_up_s _ _ _) dX1_init_29 ?_
  refine pq_X1_31 C rfl rfl dX1_init_32 ?_
  refine z_aload_n C dX1_init_35 rfl 0 rfl ?_
  refine z_iconst C (v := (-1)) dX1_init_36 (by decide) ?_
  refine pq_X1_34 C rfl rfl dX1_init_37 ?_
  refine z_aload_n C dX1_init_40 rfl 0 rfl ?_
  refine z_iconst C (v := 0) dX1_init_41 (by decide) ?_
  refine pq_X1_37 C rfl rfl dX1_init_42 ?_
  exact ret dX1_init_45 (rfl) (by decide) (by decide)
set_option maxRecDepth 20000 in
theorem c_X0_init (l : Launch) (G : zG) {M : zM} {ln : Nat}  (h_ln : M ln = some (.inr (4, [.null])))  : z_Mv l G qX0_init (z_rm 4 2 20) [.ref ln] M (fun M' => ∃ q5 : Nat, (M) q5 = none ∧ ∃ q12_3_9 : Nat, (z_up M q5 (.inr (1, [.null, .int 0, .int 0, .int 0]))) q12_3_9 = none ∧ M' = z_up (z_up (z_up M q12_3_9 (aB G 16 (fun _ => 0))) q5 (.inr (1, [.ref q12_3_9, .int 0, .int 0, .int 0]))) ln (.inr (4, [.ref q5])))  := by
  refine z_Mv_of _ (plainFor_of_name rfl) rfl (Nat.le_of_ble_eq_true rfl) (fun X hl hG hnm C ret => ?_)
  subst hl; subst hG
  have C : z_C X cX0_init RX0 1 (z_rm 4 2 20) := C
  show z_W X M 0 0 0 [(0, .ref ln)] []
  refine z_aload_n C dX0_init_0 rfl 0 rfl ?_
  refine z_objInit (rest := []) C kw94 kw32 kw33 ⟨Nat.le_of_ble_eq_true rfl, Nat.le_of_ble_eq_true rfl⟩ (Nat.le_of_ble_eq_true rfl) dX0_init_1 ?_
  refine z_aload_n C dX0_init_4 rfl 0 rfl ?_
  refine z_new (ci := 1) (fs := [.null, .int 0, .int 0, .int 0]) C rfl inJ4 tyJ4 tyJ4_ok kw95 kw96 kw6 (fun j hj => by rcases (show j = 0 ∨ j = 1 ∨ j = 2 ∨ j = 3 by omega) with rfl | rfl | rfl | rfl <;> rfl) (by decide) (by decide) dX0_init_5 (fun q5 hq5 => ?_)
  refine z_kn (k' := 1) (n' := 4) rfl rfl ?_
  refine z_dup C dX0_init_8 rfl ?_
  refine z_callI (rest := [.ref q5, .ref ln]) (k' := 2) (n' := 20) C (c_J4_init_da8c8 (z_l X) (z_G X) (z_up_s _ _ _)) (cs_X0_9 C ⟨Nat.le_of_ble_eq_true rfl, Nat.le_of_ble_eq_true rfl⟩) rfl rfl (Nat.le_of_ble_eq_true rfl) rfl rfl (by decide) (by decide) dX0_init_9 (fun M' hq => ?_)
  obtain ⟨q12_3_9, hq12_3_9, rfl⟩ := hq
  rw [z_up_swap _ (z_neN (z_up_s _ _ _) hq12_3_9)]
  rw [z_up_up]
  refine pr_X0_10 C hnm rfl rfl ((z_up_n _ _ (z_neN h_ln hq5)).trans ((z_up_n _ _ (z_neN ((z_up_n _ _ (z_neN h_ln hq5)).trans h_ln) hq12_3_9)).trans h_ln)) dX0_init_12 ?_
  exact ret dX0_init_15 (⟨q5, hq5, q12_3_9, hq12_3_9, rfl⟩) (by decide) (by decide)
set_option maxRecDepth 20000 in
theorem c_X4_init (l : Launch) (G : zG) {M : zM} {ou : Nat}  (h_ou : M ou = some (.inr (8, [.long 0, .null])))  : z_Mv l G qX4_init (z_rm 1 0 0) [.ref ou] M (fun M' => M' = M)  := by
  refine z_Mv_of _ (plainFor_of_name rfl) rfl (Nat.le_of_ble_eq_true rfl) (fun X hl hG hnm C ret => ?_)
  subst hl; subst hG
  have C : z_C X cX4_init RX4 1 (z_rm 1 0 0) := C
  show z_W X M 0 0 0 [(0, .ref ou)] []
  refine z_aload_n C dX4_init_0 rfl 0 rfl ?_
  refine z_objInit (rest := []) C kw682 kw32 kw33 (by decide) (Nat.le_of_ble_eq_true rfl) dX4_init_1 ?_
  exact ret dX4_init_4 (rfl) (by decide) (by decide)
