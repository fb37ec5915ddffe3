/-! PART 05: the reference's panes as cells; small facts -/
theorem z_upd_z (f : Nat → Int32) (k : Nat) (x : Int32) : upd f k x k = x := if_pos rfl
def mPf (ro ba sa cp po li mk rd : Int32) : Nat → Int32 := upd (upd (upd (upd (upd (upd (upd (upd (fun _ => 0) 0 ro) 1 ba) 2 sa) 3 cp) 4 po) 5 li) 6 mk) 7 rd
abbrev cPm (G : zG) (ro ba sa cp po li mk rd : Int32) : va_E := aI G 8 (mPf ro ba sa cp po li mk rd)
theorem mPf_4 (ro ba sa cp po li mk rd x : Int32) : upd (mPf ro ba sa cp po li mk rd) 4 x = mPf ro ba sa cp x li mk rd := by
  funext j
  by_cases h : j = 4
  · subst h; rfl
  · simp only [upd, mPf, if_neg h]
theorem mPf_5 (ro ba sa cp po li mk rd x : Int32) : upd (mPf ro ba sa cp po li mk rd) 5 x = mPf ro ba sa cp po x mk rd := by
  funext j
  by_cases h : j = 5
  · subst h; rfl
  · simp only [upd, mPf, if_neg h]
theorem mPf_6 (ro ba sa cp po li mk rd x : Int32) : upd (mPf ro ba sa cp po li mk rd) 6 x = mPf ro ba sa cp po li x rd := by
  funext j
  by_cases h : j = 6
  · subst h; rfl
  · simp only [upd, mPf, if_neg h]
theorem mPf_7 (ro ba sa cp po li mk rd x : Int32) : upd (mPf ro ba sa cp po li mk rd) 7 x = mPf ro ba sa cp po li mk x := by
  funext j
  by_cases h : j = 7
  · subst h; rfl
  · simp only [upd, mPf, if_neg h]
theorem z_inL {i : Int32} {n : Nat} (h : 0 ≤ i ∧ i.toNatClampNeg < n) : vp_in i n := fun q => q.elim (fun q => absurd h.1 (Int32.not_le.mpr q)) (fun q => absurd h.2 (Nat.not_lt.mpr q))
theorem fb_rng (x : Int32) : -2147483648 ≤ x.toInt ∧ x.toInt < 2147483648 := by
  have h1 := Int32.le_toInt x
  have h2 := Int32.toInt_lt x
  constructor <;> omega
theorem fb_bmod {z : Int} (h1 : -2147483648 ≤ z) (h2 : z < 2147483648) : z.bmod (2 ^ 32) = z := by
  rw [Int.bmod_eq_of_le] <;> omega
theorem fb_addI {x y : Int32} (h1 : -2147483648 ≤ x.toInt + y.toInt) (h2 : x.toInt + y.toInt < 2147483648) : (x + y).toInt = x.toInt + y.toInt := by
  rw [Int32.toInt_add]; exact fb_bmod h1 h2
theorem fb_subI {x y : Int32} (h1 : -2147483648 ≤ x.toInt - y.toInt) (h2 : x.toInt - y.toInt < 2147483648) : (x - y).toInt = x.toInt - y.toInt := by
  rw [Int32.toInt_sub]; exact fb_bmod h1 h2
theorem z_le {a b : Int32} : a ≤ b ↔ a.toInt ≤ b.toInt := Int32.le_iff_toInt_le
theorem z_ltI {a b : Int32} : a < b ↔ a.toInt < b.toInt := Int32.lt_iff_toInt_lt
theorem z_eqI {a b : Int32} : a = b ↔ a.toInt = b.toInt := ⟨fun h => by rw [h], Int32.toInt_inj.mp⟩
theorem z_t0 : (0 : Int32).toInt = 0 := by decide
theorem z_t1 : (1 : Int32).toInt = 1 := by decide
theorem z_tm1 : (-1 : Int32).toInt = -1 := by decide
theorem z_cl {x : Int32} (h : 0 ≤ x) : (x.toNatClampNeg : Int) = x.toInt := by
  have h1 : (0 : Int) ≤ x.toInt := by have := z_le.mp h; rw [z_t0] at this; exact this
  show ((x.toInt.toNat : Nat) : Int) = x.toInt
  omega
/-- within a row of n places -/
theorem z_inT {x : Int32} {n : Nat} : vp_in x n ↔ 0 ≤ x.toInt ∧ x.toInt < n := vp_in_iff
def z_is (v a b : Int32) : Int32 := if v < a then 0 else if b < v then 0 else 1
theorem z_is_n (v a b : Int32) : narrow .boolean (.int (z_is v a b)) = .int (z_is v a b) := by
  unfold z_is
  split
  · rfl
  · split <;> rfl
theorem z_is1 {v a b : Int32} (h : ¬ z_is v a b = 0) : a ≤ v ∧ v ≤ b := by
  unfold z_is at h
  split at h
  · exact absurd rfl h
  · rename_i h1
    split at h
    · exact absurd rfl h
    · rename_i h2
      exact ⟨Int32.not_lt.mp h1, Int32.not_lt.mp h2⟩
theorem z_is0 {v a b : Int32} (h : a ≤ v ∧ v ≤ b) : z_is v a b = 1 := by
  unfold z_is
  rw [if_neg (Int32.not_lt.mpr h.1), if_neg (Int32.not_lt.mpr h.2)]
theorem z_is01 (v a b : Int32) : z_is v a b = 0 ∨ z_is v a b = 1 := by
  unfold z_is
  split
  · exact Or.inl rfl
  · split
    · exact Or.inl rfl
    · exact Or.inr rfl
/-- an index below a limit, as the reference tests it -/
theorem z_isp {x li : Int32} (h0 : 0 ≤ li) (h : ¬ z_is x 0 (li - 1) = 0) : 0 ≤ x ∧ x < li := by
  obtain ⟨h1, h2⟩ := z_is1 h
  refine ⟨h1, ?_⟩
  rw [z_le] at h2 h0
  rw [z_t0] at h0
  rw [z_ltI]
  rw [fb_subI (by rw [z_t1]; omega) (by rw [z_t1]; have := fb_rng li; omega), z_t1] at h2
  omega
def z_lt (t f : Int32) : Int32 := if t = 0 then 1 else if f = 0 then 2 else 0
def z_lr (t f : Int32) : Int32 := if z_lt t f = 0 then 1 else 0
theorem z_lr_n (t f : Int32) : narrow .boolean (.int (z_lr t f)) = .int (z_lr t f) := by
  unfold z_lr
  split <;> rfl
theorem z_lay {pl : Int32} {nt : Nat} {f : Int32} (hn : 16 ≤ nt ∧ nt < 100000) (h : ¬ z_lr (z_is pl 0 15) f = 0) : vp_in pl nt := by
  have h1 : ¬ z_is pl 0 15 = 0 := fun e => h (by simp [z_lr, z_lt, e])
  obtain ⟨a, b⟩ := z_is1 h1
  rw [z_le] at a b
  rw [z_t0] at a
  rw [show (15 : Int32).toInt = 15 from by decide] at b
  rw [z_inT]
  omega
theorem z_ou3 {x : Int32} (h0 : ¬ x = 0) (h1 : ¬ x = 1) (h2 : ¬ x = 2) : x.toInt < 0 ∨ 2 < x.toInt := by
  have g0 : x.toInt ≠ 0 := fun e => h0 (z_eqI.mpr (by rw [e]; rfl))
  have g1 : x.toInt ≠ 1 := fun e => h1 (z_eqI.mpr (by rw [e]; rfl))
  have g2 : x.toInt ≠ 2 := fun e => h2 (z_eqI.mpr (by rw [e]; rfl))
  omega
theorem z_ou9 {x : Int32} (h0 : ¬ x = 0) (h1 : ¬ x = 1) (h2 : ¬ x = 2) (h3 : ¬ x = 3) (h4 : ¬ x = 4) (h5 : ¬ x = 5) (h6 : ¬ x = 6) (h7 : ¬ x = 7) (h8 : ¬ x = 8) : x.toInt < 0 ∨ 8 < x.toInt := by
  have g0 : x.toInt ≠ 0 := fun e => h0 (z_eqI.mpr (by rw [e]; rfl))
  have g1 : x.toInt ≠ 1 := fun e => h1 (z_eqI.mpr (by rw [e]; rfl))
  have g2 : x.toInt ≠ 2 := fun e => h2 (z_eqI.mpr (by rw [e]; rfl))
  have g3 : x.toInt ≠ 3 := fun e => h3 (z_eqI.mpr (by rw [e]; rfl))
  have g4 : x.toInt ≠ 4 := fun e => h4 (z_eqI.mpr (by rw [e]; rfl))
  have g5 : x.toInt ≠ 5 := fun e => h5 (z_eqI.mpr (by rw [e]; rfl))
  have g6 : x.toInt ≠ 6 := fun e => h6 (z_eqI.mpr (by rw [e]; rfl))
  have g7 : x.toInt ≠ 7 := fun e => h7 (z_eqI.mpr (by rw [e]; rfl))
  have g8 : x.toInt ≠ 8 := fun e => h8 (z_eqI.mpr (by rw [e]; rfl))
  omega
theorem z_ou41 {x : Int32} (h0 : ¬ x = 0) (h1 : ¬ x = 1) (h2 : ¬ x = 2) (h3 : ¬ x = 3) (h4 : ¬ x = 4) (h5 : ¬ x = 5) (h6 : ¬ x = 6) (h7 : ¬ x = 7) (h8 : ¬ x = 8) (h9 : ¬ x = 9) (h10 : ¬ x = 10) (h11 : ¬ x = 11) (h12 : ¬ x = 12) (h13 : ¬ x = 13) (h14 : ¬ x = 14) (h15 : ¬ x = 15) (h16 : ¬ x = 16) (h17 : ¬ x = 17) (h18 : ¬ x = 18) (h19 : ¬ x = 19) (h20 : ¬ x = 20) (h21 : ¬ x = 21) (h22 : ¬ x = 22) (h23 : ¬ x = 23) (h24 : ¬ x = 24) (h25 : ¬ x = 25) (h26 : ¬ x = 26) (h27 : ¬ x = 27) (h28 : ¬ x = 28) (h29 : ¬ x = 29) (h30 : ¬ x = 30) (h31 : ¬ x = 31) (h32 : ¬ x = 32) (h33 : ¬ x = 33) (h34 : ¬ x = 34) (h35 : ¬ x = 35) (h36 : ¬ x = 36) (h37 : ¬ x = 37) (h38 : ¬ x = 38) (h39 : ¬ x = 39) (h40 : ¬ x = 40) : x.toInt < 0 ∨ 40 < x.toInt := by
  have g0 : x.toInt ≠ 0 := fun e => h0 (z_eqI.mpr (by rw [e]; rfl))
  have g1 : x.toInt ≠ 1 := fun e => h1 (z_eqI.mpr (by rw [e]; rfl))
  have g2 : x.toInt ≠ 2 := fun e => h2 (z_eqI.mpr (by rw [e]; rfl))
  have g3 : x.toInt ≠ 3 := fun e => h3 (z_eqI.mpr (by rw [e]; rfl))
  have g4 : x.toInt ≠ 4 := fun e => h4 (z_eqI.mpr (by rw [e]; rfl))
  have g5 : x.toInt ≠ 5 := fun e => h5 (z_eqI.mpr (by rw [e]; rfl))
  have g6 : x.toInt ≠ 6 := fun e => h6 (z_eqI.mpr (by rw [e]; rfl))
  have g7 : x.toInt ≠ 7 := fun e => h7 (z_eqI.mpr (by rw [e]; rfl))
  have g8 : x.toInt ≠ 8 := fun e => h8 (z_eqI.mpr (by rw [e]; rfl))
  have g9 : x.toInt ≠ 9 := fun e => h9 (z_eqI.mpr (by rw [e]; rfl))
  have g10 : x.toInt ≠ 10 := fun e => h10 (z_eqI.mpr (by rw [e]; rfl))
  have g11 : x.toInt ≠ 11 := fun e => h11 (z_eqI.mpr (by rw [e]; rfl))
  have g12 : x.toInt ≠ 12 := fun e => h12 (z_eqI.mpr (by rw [e]; rfl))
  have g13 : x.toInt ≠ 13 := fun e => h13 (z_eqI.mpr (by rw [e]; rfl))
  have g14 : x.toInt ≠ 14 := fun e => h14 (z_eqI.mpr (by rw [e]; rfl))
  have g15 : x.toInt ≠ 15 := fun e => h15 (z_eqI.mpr (by rw [e]; rfl))
  have g16 : x.toInt ≠ 16 := fun e => h16 (z_eqI.mpr (by rw [e]; rfl))
  have g17 : x.toInt ≠ 17 := fun e => h17 (z_eqI.mpr (by rw [e]; rfl))
  have g18 : x.toInt ≠ 18 := fun e => h18 (z_eqI.mpr (by rw [e]; rfl))
  have g19 : x.toInt ≠ 19 := fun e => h19 (z_eqI.mpr (by rw [e]; rfl))
  have g20 : x.toInt ≠ 20 := fun e => h20 (z_eqI.mpr (by rw [e]; rfl))
  have g21 : x.toInt ≠ 21 := fun e => h21 (z_eqI.mpr (by rw [e]; rfl))
  have g22 : x.toInt ≠ 22 := fun e => h22 (z_eqI.mpr (by rw [e]; rfl))
  have g23 : x.toInt ≠ 23 := fun e => h23 (z_eqI.mpr (by rw [e]; rfl))
  have g24 : x.toInt ≠ 24 := fun e => h24 (z_eqI.mpr (by rw [e]; rfl))
  have g25 : x.toInt ≠ 25 := fun e => h25 (z_eqI.mpr (by rw [e]; rfl))
  have g26 : x.toInt ≠ 26 := fun e => h26 (z_eqI.mpr (by rw [e]; rfl))
  have g27 : x.toInt ≠ 27 := fun e => h27 (z_eqI.mpr (by rw [e]; rfl))
  have g28 : x.toInt ≠ 28 := fun e => h28 (z_eqI.mpr (by rw [e]; rfl))
  have g29 : x.toInt ≠ 29 := fun e => h29 (z_eqI.mpr (by rw [e]; rfl))
  have g30 : x.toInt ≠ 30 := fun e => h30 (z_eqI.mpr (by rw [e]; rfl))
  have g31 : x.toInt ≠ 31 := fun e => h31 (z_eqI.mpr (by rw [e]; rfl))
  have g32 : x.toInt ≠ 32 := fun e => h32 (z_eqI.mpr (by rw [e]; rfl))
  have g33 : x.toInt ≠ 33 := fun e => h33 (z_eqI.mpr (by rw [e]; rfl))
  have g34 : x.toInt ≠ 34 := fun e => h34 (z_eqI.mpr (by rw [e]; rfl))
  have g35 : x.toInt ≠ 35 := fun e => h35 (z_eqI.mpr (by rw [e]; rfl))
  have g36 : x.toInt ≠ 36 := fun e => h36 (z_eqI.mpr (by rw [e]; rfl))
  have g37 : x.toInt ≠ 37 := fun e => h37 (z_eqI.mpr (by rw [e]; rfl))
  have g38 : x.toInt ≠ 38 := fun e => h38 (z_eqI.mpr (by rw [e]; rfl))
  have g39 : x.toInt ≠ 39 := fun e => h39 (z_eqI.mpr (by rw [e]; rfl))
  have g40 : x.toInt ≠ 40 := fun e => h40 (z_eqI.mpr (by rw [e]; rfl))
  omega
/-- a pane in order: what holds of its numbers, and that its places lie in a row of nt places from ba + sa on -/
def z_or (ba sa cp po li : Int32) (nt : Nat) : Prop := 0 ≤ ba.toInt ∧ 0 ≤ sa.toInt ∧ 0 ≤ po.toInt ∧ po.toInt ≤ li.toInt ∧ li.toInt ≤ cp.toInt ∧ cp.toInt ≤ 16 ∧ ba.toInt + sa.toInt + cp.toInt ≤ nt ∧ nt < 100000
theorem z_orI {ba sa cp po li x : Int32} {nt : Nat} (h : z_or ba sa cp po li nt) (h1 : 0 ≤ x.toInt) (h2 : x.toInt < cp.toInt) : vp_in (ba + sa + x) nt := by
  obtain ⟨a1, a2, a3, a4, a5, a6, a7, a8⟩ := h
  rw [z_inT]
  have e1 : (ba + sa).toInt = ba.toInt + sa.toInt := fb_addI (by omega) (by omega)
  rw [fb_addI (by rw [e1]; omega) (by rw [e1]; omega), e1]
  omega
theorem z_orL {ba sa cp po li x : Int32} {nt : Nat} (h : z_or ba sa cp po li nt) (hx : ¬ z_is x 0 (li - 1) = 0) : vp_in (ba + sa + x) nt := by
  have h0 : (0 : Int32) ≤ li := by rw [z_le, z_t0]; obtain ⟨a1, a2, a3, a4, a5, a6, a7, a8⟩ := h; omega
  obtain ⟨h1, h2⟩ := z_isp h0 hx
  rw [z_le, z_t0] at h1
  rw [z_ltI] at h2
  exact z_orI h h1 (by obtain ⟨a1, a2, a3, a4, a5, a6, a7, a8⟩ := h; omega)
theorem z_orP {ba sa cp po li : Int32} {nt : Nat} (h : z_or ba sa cp po li nt) (hx : ¬ li - po = 0) : vp_in (ba + sa + po) nt := by
  obtain ⟨a1, a2, a3, a4, a5, a6, a7, a8⟩ := id h
  refine z_orI h a3 ?_
  have : po.toInt ≠ li.toInt := fun e => hx (by rw [z_eqI, fb_subI (by omega) (by omega), z_t0]; omega)
  omega
theorem z_orC {ba sa cp po li x : Int32} {nt : Nat} (h : z_or ba sa cp po li nt) (hx : ¬ z_is x 0 (cp - 1) = 0) : vp_in (ba + sa + x) nt := by
  have h0 : (0 : Int32) ≤ cp := by rw [z_le, z_t0]; obtain ⟨a1, a2, a3, a4, a5, a6, a7, a8⟩ := h; omega
  obtain ⟨h1, h2⟩ := z_isp h0 hx
  rw [z_le, z_t0] at h1
  rw [z_ltI] at h2
  exact z_orI h h1 h2
theorem z_orQ {ba sa cp po li : Int32} {nt : Nat} (h : z_or ba sa cp po li nt) (hx : ¬ po = 0) : vp_in (ba + sa + (po - 1)) nt := by
  obtain ⟨a1, a2, a3, a4, a5, a6, a7, a8⟩ := id h
  have : po.toInt ≠ 0 := fun e => hx (by rw [z_eqI, z_t0]; exact e)
  have e : (po - 1).toInt = po.toInt - 1 := by rw [fb_subI (by rw [z_t1]; omega) (by rw [z_t1]; omega), z_t1]
  exact z_orI h (by omega) (by omega)
theorem z_orR {ba sa cp po li : Int32} {nt : Nat} (h : z_or ba sa cp po li nt) (hx : ¬ li - po = 0) : vp_in (ba + sa + (po + 1 - 1)) nt := by
  rw [show po + 1 - 1 = po from Int32.add_sub_cancel po 1]
  exact z_orP h hx
theorem z_leT {x y : Int32} (h : x ≤ y) : x.toInt ≤ y.toInt := z_le.mp h
section PM
variable {X : zX} {cc : ByteArray} {own : String} {nL : Nat} {rm : Room} {M : zM} {k n pc a : Nat} {lv : List (Nat × Value)} {st : List Value} {ro ba sa cp po li mk rd x : Int32}
theorem z_pl0 (C : z_C X cc own nL rm) (hM : M a = some (cPm (z_G X) ro ba sa cp po li mk rd)) (d : decode cc pc = .ok (.iaload, 1)) (kk : z_W X M k n (pc + 1) lv (.int ro :: st)) : z_W X M k n pc lv (.int 0 :: .ref a :: st) := z_iald (j := 0) C hM (z_inL (by decide)) (by decide) d kk
theorem z_pl1 (C : z_C X cc own nL rm) (hM : M a = some (cPm (z_G X) ro ba sa cp po li mk rd)) (d : decode cc pc = .ok (.iaload, 1)) (kk : z_W X M k n (pc + 1) lv (.int ba :: st)) : z_W X M k n pc lv (.int 1 :: .ref a :: st) := z_iald (j := 1) C hM (z_inL (by decide)) (by decide) d kk
theorem z_pl2 (C : z_C X cc own nL rm) (hM : M a = some (cPm (z_G X) ro ba sa cp po li mk rd)) (d : decode cc pc = .ok (.iaload, 1)) (kk : z_W X M k n (pc + 1) lv (.int sa :: st)) : z_W X M k n pc lv (.int 2 :: .ref a :: st) := z_iald (j := 2) C hM (z_inL (by decide)) (by decide) d kk
theorem z_pl3 (C : z_C X cc own nL rm) (hM : M a = some (cPm (z_G X) ro ba sa cp po li mk rd)) (d : decode cc pc = .ok (.iaload, 1)) (kk : z_W X M k n (pc + 1) lv (.int cp :: st)) : z_W X M k n pc lv (.int 3 :: .ref a :: st) := z_iald (j := 3) C hM (z_inL (by decide)) (by decide) d kk
theorem z_pl4 (C : z_C X cc own nL rm) (hM : M a = some (cPm (z_G X) ro ba sa cp po li mk rd)) (d : decode cc pc = .ok (.iaload, 1)) (kk : z_W X M k n (pc + 1) lv (.int po :: st)) : z_W X M k n pc lv (.int 4 :: .ref a :: st) := z_iald (j := 4) C hM (z_inL (by decide)) (by decide) d kk
theorem z_pl5 (C : z_C X cc own nL rm) (hM : M a = some (cPm (z_G X) ro ba sa cp po li mk rd)) (d : decode cc pc = .ok (.iaload, 1)) (kk : z_W X M k n (pc + 1) lv (.int li :: st)) : z_W X M k n pc lv (.int 5 :: .ref a :: st) := z_iald (j := 5) C hM (z_inL (by decide)) (by decide) d kk
theorem z_pl6 (C : z_C X cc own nL rm) (hM : M a = some (cPm (z_G X) ro ba sa cp po li mk rd)) (d : decode cc pc = .ok (.iaload, 1)) (kk : z_W X M k n (pc + 1) lv (.int mk :: st)) : z_W X M k n pc lv (.int 6 :: .ref a :: st) := z_iald (j := 6) C hM (z_inL (by decide)) (by decide) d kk
theorem z_pl7 (C : z_C X cc own nL rm) (hM : M a = some (cPm (z_G X) ro ba sa cp po li mk rd)) (d : decode cc pc = .ok (.iaload, 1)) (kk : z_W X M k n (pc + 1) lv (.int rd :: st)) : z_W X M k n pc lv (.int 7 :: .ref a :: st) := z_iald (j := 7) C hM (z_inL (by decide)) (by decide) d kk
theorem z_ps4 (C : z_C X cc own nL rm) (hM : M a = some (cPm (z_G X) ro ba sa cp po li mk rd)) (d : decode cc pc = .ok (.iastore, 1)) (kk : z_W X (z_up M a (cPm (z_G X) ro ba sa cp x li mk rd)) k n (pc + 1) lv st) : z_W X M k n pc lv (.int x :: .int 4 :: .ref a :: st) := z_iast (j := 4) C hM (z_inL (by decide)) (by decide) d (by rw [mPf_4]; exact kk)
theorem z_pt4 (C : z_C X cc own nL rm) (d : decode cc pc = .ok (.iastore, 1)) (kk : z_W X (z_up M a (cPm (z_G X) ro ba sa cp x li mk rd)) k n (pc + 1) lv st) : z_W X (z_up M a (cPm (z_G X) ro ba sa cp po li mk rd)) k n pc lv (.int x :: .int 4 :: .ref a :: st) := z_ps4 C (z_up_s _ _ _) d (by rw [z_up_up]; exact kk)
theorem z_ps5 (C : z_C X cc own nL rm) (hM : M a = some (cPm (z_G X) ro ba sa cp po li mk rd)) (d : decode cc pc = .ok (.iastore, 1)) (kk : z_W X (z_up M a (cPm (z_G X) ro ba sa cp po x mk rd)) k n (pc + 1) lv st) : z_W X M k n pc lv (.int x :: .int 5 :: .ref a :: st) := z_iast (j := 5) C hM (z_inL (by decide)) (by decide) d (by rw [mPf_5]; exact kk)
theorem z_pt5 (C : z_C X cc own nL rm) (d : decode cc pc = .ok (.iastore, 1)) (kk : z_W X (z_up M a (cPm (z_G X) ro ba sa cp po x mk rd)) k n (pc + 1) lv st) : z_W X (z_up M a (cPm (z_G X) ro ba sa cp po li mk rd)) k n pc lv (.int x :: .int 5 :: .ref a :: st) := z_ps5 C (z_up_s _ _ _) d (by rw [z_up_up]; exact kk)
theorem z_ps6 (C : z_C X cc own nL rm) (hM : M a = some (cPm (z_G X) ro ba sa cp po li mk rd)) (d : decode cc pc = .ok (.iastore, 1)) (kk : z_W X (z_up M a (cPm (z_G X) ro ba sa cp po li x rd)) k n (pc + 1) lv st) : z_W X M k n pc lv (.int x :: .int 6 :: .ref a :: st) := z_iast (j := 6) C hM (z_inL (by decide)) (by decide) d (by rw [mPf_6]; exact kk)
theorem z_pt6 (C : z_C X cc own nL rm) (d : decode cc pc = .ok (.iastore, 1)) (kk : z_W X (z_up M a (cPm (z_G X) ro ba sa cp po li x rd)) k n (pc + 1) lv st) : z_W X (z_up M a (cPm (z_G X) ro ba sa cp po li mk rd)) k n pc lv (.int x :: .int 6 :: .ref a :: st) := z_ps6 C (z_up_s _ _ _) d (by rw [z_up_up]; exact kk)
theorem z_ps7 (C : z_C X cc own nL rm) (hM : M a = some (cPm (z_G X) ro ba sa cp po li mk rd)) (d : decode cc pc = .ok (.iastore, 1)) (kk : z_W X (z_up M a (cPm (z_G X) ro ba sa cp po li mk x)) k n (pc + 1) lv st) : z_W X M k n pc lv (.int x :: .int 7 :: .ref a :: st) := z_iast (j := 7) C hM (z_inL (by decide)) (by decide) d (by rw [mPf_7]; exact kk)
theorem z_pt7 (C : z_C X cc own nL rm) (d : decode cc pc = .ok (.iastore, 1)) (kk : z_W X (z_up M a (cPm (z_G X) ro ba sa cp po li mk x)) k n (pc + 1) lv st) : z_W X (z_up M a (cPm (z_G X) ro ba sa cp po li mk rd)) k n pc lv (.int x :: .int 7 :: .ref a :: st) := z_ps7 C (z_up_s _ _ _) d (by rw [z_up_up]; exact kk)
end PM

