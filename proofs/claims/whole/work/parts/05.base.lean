/-! PART 05: the reference's panes as cells; small facts -/
theorem z_upd_z (f : Nat → Int32) (k : Nat) (x : Int32) : upd f k x k = x := if_pos rfl
def mPf (ro ba sa cp po li mk rd : Int32) : Nat → Int32 := upd (upd (upd (upd (upd (upd (upd (upd (fun _ => 0) 0 ro) 1 ba) 2 sa) 3 cp) 4 po) 5 li) 6 mk) 7 rd
abbrev cPm (G : zG) (ro ba sa cp po li mk rd : Int32) : va_E := aI G 8 (mPf ro ba sa cp po li mk rd)
theorem mPf_4 (ro ba sa cp po li mk rd x : Int32) : upd (mPf ro ba sa cp po li mk rd) 4 x = mPf ro ba sa cp x li mk rd := by
  funext j
  by_cases h : j = 4
  · subst h; rfl
  · simp only [upd, mPf, if_neg h]
theorem mPf_5 (ro ba sa cp po li mk rd x : Int32) : upd (mPf ro ba sa cp po li mk rd) 5 x = mPf ro ba sa cp po x mk rd := by
  funext j
  by_cases h : j = 5
  · subst h; rfl
  · simp only [upd, mPf, if_neg h]
theorem mPf_6 (ro ba sa cp po li mk rd x : Int32) : upd (mPf ro ba sa cp po li mk rd) 6 x = mPf ro ba sa cp po li x rd := by
  funext j
  by_cases h : j = 6
  · subst h; rfl
  · simp only [upd, mPf, if_neg h]
theorem mPf_7 (ro ba sa cp po li mk rd x : Int32) : upd (mPf ro ba sa cp po li mk rd) 7 x = mPf ro ba sa cp po li mk x := by
  funext j
  by_cases h : j = 7
  · subst h; rfl
  · simp only [upd, mPf, if_neg h]
theorem z_inL {i : Int32} {n : Nat} (h : 0 ≤ i ∧ i.toNatClampNeg < n) : vp_in i n := fun q => q.elim (fun q => absurd h.1 (Int32.not_le.mpr q)) (fun q => absurd h.2 (Nat.not_lt.mpr q))
section PM
variable {X : zX} {cc : ByteArray} {own : String} {nL : Nat} {rm : Room} {M : zM} {k n pc a : Nat} {lv : List (Nat × Value)} {st : List Value} {ro ba sa cp po li mk rd x : Int32}
theorem z_pl0 (C : z_C X cc own nL rm) (hM : M a = some (cPm (z_G X) ro ba sa cp po li mk rd)) (d : decode cc pc = .ok (.iaload, 1)) (kk : z_W X M k n (pc + 1) lv (.int ro :: st)) : z_W X M k n pc lv (.int 0 :: .ref a :: st) := z_iald (j := 0) C hM (z_inL (by decide)) (by decide) d kk
theorem z_pl1 (C : z_C X cc own nL rm) (hM : M a = some (cPm (z_G X) ro ba sa cp po li mk rd)) (d : decode cc pc = .ok (.iaload, 1)) (kk : z_W X M k n (pc + 1) lv (.int ba :: st)) : z_W X M k n pc lv (.int 1 :: .ref a :: st) := z_iald (j := 1) C hM (z_inL (by decide)) (by decide) d kk
theorem z_pl2 (C : z_C X cc own nL rm) (hM : M a = some (cPm (z_G X) ro ba sa cp po li mk rd)) (d : decode cc pc = .ok (.iaload, 1)) (kk : z_W X M k n (pc + 1) lv (.int sa :: st)) : z_W X M k n pc lv (.int 2 :: .ref a :: st) := z_iald (j := 2) C hM (z_inL (by decide)) (by decide) d kk
theorem z_pl3 (C : z_C X cc own nL rm) (hM : M a = some (cPm (z_G X) ro ba sa cp po li mk rd)) (d : decode cc pc = .ok (.iaload, 1)) (kk : z_W X M k n (pc + 1) lv (.int cp :: st)) : z_W X M k n pc lv (.int 3 :: .ref a :: st) := z_iald (j := 3) C hM (z_inL (by decide)) (by decide) d kk
theorem z_pl4 (C : z_C X cc own nL rm) (hM : M a = some (cPm (z_G X) ro ba sa cp po li mk rd)) (d : decode cc pc = .ok (.iaload, 1)) (kk : z_W X M k n (pc + 1) lv (.int po :: st)) : z_W X M k n pc lv (.int 4 :: .ref a :: st) := z_iald (j := 4) C hM (z_inL (by decide)) (by decide) d kk
theorem z_pl5 (C : z_C X cc own nL rm) (hM : M a = some (cPm (z_G X) ro ba sa cp po li mk rd)) (d : decode cc pc = .ok (.iaload, 1)) (kk : z_W X M k n (pc + 1) lv (.int li :: st)) : z_W X M k n pc lv (.int 5 :: .ref a :: st) := z_iald (j := 5) C hM (z_inL (by decide)) (by decide) d kk
theorem z_pl6 (C : z_C X cc own nL rm) (hM : M a = some (cPm (z_G X) ro ba sa cp po li mk rd)) (d : decode cc pc = .ok (.iaload, 1)) (kk : z_W X M k n (pc + 1) lv (.int mk :: st)) : z_W X M k n pc lv (.int 6 :: .ref a :: st) := z_iald (j := 6) C hM (z_inL (by decide)) (by decide) d kk
theorem z_pl7 (C : z_C X cc own nL rm) (hM : M a = some (cPm (z_G X) ro ba sa cp po li mk rd)) (d : decode cc pc = .ok (.iaload, 1)) (kk : z_W X M k n (pc + 1) lv (.int rd :: st)) : z_W X M k n pc lv (.int 7 :: .ref a :: st) := z_iald (j := 7) C hM (z_inL (by decide)) (by decide) d kk
theorem z_ps4 (C : z_C X cc own nL rm) (hM : M a = some (cPm (z_G X) ro ba sa cp po li mk rd)) (d : decode cc pc = .ok (.iastore, 1)) (kk : z_W X (z_up M a (cPm (z_G X) ro ba sa cp x li mk rd)) k n (pc + 1) lv st) : z_W X M k n pc lv (.int x :: .int 4 :: .ref a :: st) := z_iast (j := 4) C hM (z_inL (by decide)) (by decide) d (by rw [mPf_4]; exact kk)
theorem z_pt4 (C : z_C X cc own nL rm) (d : decode cc pc = .ok (.iastore, 1)) (kk : z_W X (z_up M a (cPm (z_G X) ro ba sa cp x li mk rd)) k n (pc + 1) lv st) : z_W X (z_up M a (cPm (z_G X) ro ba sa cp po li mk rd)) k n pc lv (.int x :: .int 4 :: .ref a :: st) := z_ps4 C (z_up_s _ _ _) d (by rw [z_up_up]; exact kk)
theorem z_ps5 (C : z_C X cc own nL rm) (hM : M a = some (cPm (z_G X) ro ba sa cp po li mk rd)) (d : decode cc pc = .ok (.iastore, 1)) (kk : z_W X (z_up M a (cPm (z_G X) ro ba sa cp po x mk rd)) k n (pc + 1) lv st) : z_W X M k n pc lv (.int x :: .int 5 :: .ref a :: st) := z_iast (j := 5) C hM (z_inL (by decide)) (by decide) d (by rw [mPf_5]; exact kk)
theorem z_pt5 (C : z_C X cc own nL rm) (d : decode cc pc = .ok (.iastore, 1)) (kk : z_W X (z_up M a (cPm (z_G X) ro ba sa cp po x mk rd)) k n (pc + 1) lv st) : z_W X (z_up M a (cPm (z_G X) ro ba sa cp po li mk rd)) k n pc lv (.int x :: .int 5 :: .ref a :: st) := z_ps5 C (z_up_s _ _ _) d (by rw [z_up_up]; exact kk)
theorem z_ps6 (C : z_C X cc own nL rm) (hM : M a = some (cPm (z_G X) ro ba sa cp po li mk rd)) (d : decode cc pc = .ok (.iastore, 1)) (kk : z_W X (z_up M a (cPm (z_G X) ro ba sa cp po li x rd)) k n (pc + 1) lv st) : z_W X M k n pc lv (.int x :: .int 6 :: .ref a :: st) := z_iast (j := 6) C hM (z_inL (by decide)) (by decide) d (by rw [mPf_6]; exact kk)
theorem z_pt6 (C : z_C X cc own nL rm) (d : decode cc pc = .ok (.iastore, 1)) (kk : z_W X (z_up M a (cPm (z_G X) ro ba sa cp po li x rd)) k n (pc + 1) lv st) : z_W X (z_up M a (cPm (z_G X) ro ba sa cp po li mk rd)) k n pc lv (.int x :: .int 6 :: .ref a :: st) := z_ps6 C (z_up_s _ _ _) d (by rw [z_up_up]; exact kk)
theorem z_ps7 (C : z_C X cc own nL rm) (hM : M a = some (cPm (z_G X) ro ba sa cp po li mk rd)) (d : decode cc pc = .ok (.iastore, 1)) (kk : z_W X (z_up M a (cPm (z_G X) ro ba sa cp po li mk x)) k n (pc + 1) lv st) : z_W X M k n pc lv (.int x :: .int 7 :: .ref a :: st) := z_iast (j := 7) C hM (z_inL (by decide)) (by decide) d (by rw [mPf_7]; exact kk)
theorem z_pt7 (C : z_C X cc own nL rm) (d : decode cc pc = .ok (.iastore, 1)) (kk : z_W X (z_up M a (cPm (z_G X) ro ba sa cp po li mk x)) k n (pc + 1) lv st) : z_W X (z_up M a (cPm (z_G X) ro ba sa cp po li mk rd)) k n pc lv (.int x :: .int 7 :: .ref a :: st) := z_ps7 C (z_up_s _ _ _) d (by rw [z_up_up]; exact kk)
end PM

