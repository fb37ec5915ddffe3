/-! PART 30: what a state of the panes is, and what each call makes of it; the class's cells and the reference's cells of such a state -/
theorem zk {M : zM} {a b : Nat} {e f g : va_E} (ha : M a = some e) (hb : M b = some f) (hne : f ≠ e) : z_up M a g b = some f := (z_up_n _ _ (z_ne hb ha hne)).trans hb
theorem zk' {M : zM} {a b : Nat} {f g : va_E} (hb : M b = some f) (h : b ≠ a) : z_up M a g b = some f := (z_up_n _ _ h).trans hb
theorem zkn {M : zM} {a b : Nat} {f g : va_E} (ha : M a = none) (hb : M b = some f) : z_up M a g b = some f := (z_up_n _ _ (z_neN hb ha)).trans hb
def s_fu (K : Nat → Nat) (i q : Nat) : Nat → Nat := fun j => if j = i then q else K j
theorem s_fu_s (K : Nat → Nat) (i q : Nat) : s_fu K i q i = q := if_pos rfl
theorem s_fu_n (K : Nat → Nat) {i j : Nat} (q : Nat) (h : j ≠ i) : s_fu K i q j = K j := if_neg h
/-- a pane: row, start, capacity, position, limit, mark, reader -/
abbrev sP : Type := Nat × Int32 × Int32 × Int32 × Int32 × Int32 × Int32
abbrev p_ro (p : sP) : Nat := p.1
abbrev p_sa (p : sP) : Int32 := p.2.1
abbrev p_cp (p : sP) : Int32 := p.2.2.1
abbrev p_po (p : sP) : Int32 := p.2.2.2.1
abbrev p_li (p : sP) : Int32 := p.2.2.2.2.1
abbrev p_mk (p : sP) : Int32 := p.2.2.2.2.2.1
abbrev p_rd (p : sP) : Int32 := p.2.2.2.2.2.2
/-- rows, their lengths, their values, panes, acts, knocks, refusals -/
abbrev sS : Type := Nat × (Nat → Nat) × (Nat → Nat → Int32) × (Nat → sP) × Int32 × Int32 × (Nat → Int32)
abbrev s_nr (u : sS) : Nat := u.1
abbrev s_ln (u : sS) : Nat → Nat := u.2.1
abbrev s_vl (u : sS) : Nat → Nat → Int32 := u.2.2.1
abbrev s_pn (u : sS) : Nat → sP := u.2.2.2.1
abbrev s_ac (u : sS) : Int32 := u.2.2.2.2.1
abbrev s_kn (u : sS) : Int32 := u.2.2.2.2.2.1
abbrev s_td (u : sS) : Nat → Int32 := u.2.2.2.2.2.2
def s_up (u : sS) (i : Nat) (p : sP) : sS := (s_nr u, s_ln u, s_vl u, (fun j => if j = i then p else s_pn u j), s_ac u, s_kn u, s_td u)
def s_ak (u : sS) (a k : Int32) : sS := (s_nr u, s_ln u, s_vl u, s_pn u, a, k, s_td u)
abbrev s_act (u : sS) : sS := s_ak u (s_ac u + 1) (s_kn u)
def s_tdu (u : sS) (f : Nat → Int32) : sS := (s_nr u, s_ln u, s_vl u, s_pn u, s_ac u, s_kn u, f)
abbrev s_tel (u : sS) (k : Nat) : sS := s_tdu u (upd (s_td u) k (s_td u k + 1))
def s_wr (u : sS) (r j : Nat) (v : Int32) : sS := (s_nr u, s_ln u, (fun q => if q = r then upd (s_vl u r) j v else s_vl u q), s_pn u, s_ac u, s_kn u, s_td u)
def s_new (u : sS) (n : Nat) : sS := (s_nr u + 1, (fun q => if q = s_nr u then n else s_ln u q), (fun q => if q = s_nr u then (fun _ => 0) else s_vl u q), s_pn u, s_ac u, s_kn u, s_td u)
theorem s_up_s (u : sS) (i : Nat) (p : sP) : s_pn (s_up u i p) i = p := if_pos rfl
theorem s_up_n (u : sS) {i j : Nat} (p : sP) (h : j ≠ i) : s_pn (s_up u i p) j = s_pn u j := if_neg h
theorem s_wr_s (u : sS) (r j : Nat) (v : Int32) : s_vl (s_wr u r j v) r = upd (s_vl u r) j v := if_pos rfl
theorem s_wr_n (u : sS) {r q : Nat} (j : Nat) (v : Int32) (h : q ≠ r) : s_vl (s_wr u r j v) q = s_vl u q := if_neg h
def p_mv (p : sP) (x : Int32) : sP := (p_ro p, p_sa p, p_cp p, x, p_li p, (if p_mk p ≤ x then p_mk p else -1), p_rd p)
def p_en (p : sP) (x : Int32) : sP := (p_ro p, p_sa p, p_cp p, (if p_po p ≤ x then p_po p else x), x, (if p_mk p ≤ x then p_mk p else -1), p_rd p)
def p_bg (p : sP) (x : Int32) : sP := (p_ro p, p_sa p, p_cp p, 0, x, -1, p_rd p)
def p_po' (p : sP) (x : Int32) : sP := (p_ro p, p_sa p, p_cp p, x, p_li p, p_mk p, p_rd p)
def p_pt (p : sP) (ix mn : Int32) : sP := (p_ro p, p_sa p + ix, mn, 0, mn, -1, p_rd p)
/-- the place of an index in its row -/
abbrev p_at (p : sP) (x : Int32) : Nat := (p_sa p + x).toNatClampNeg
abbrev s_val (u : sS) (p : sP) (x : Int32) : Int32 := s_vl u (p_ro p) (p_at p x)
/-- what the calls answer and make: (answer, state) -/
abbrev sR : Type := Int32 × sS
def s_wrap (u : sS) (i : Nat) (fr mn : Int32) : sR := (fr + mn, s_act (s_up u i (0, 0, 16, fr, fr + mn, -1, 0)))
def s_fresh (u : sS) (i : Nat) (ln : Int32) : sR := (ln, s_act (s_up (s_new u ln.toNatClampNeg) i (s_nr u, 0, ln, 0, ln, -1, 0)))
def s_twin (u : sS) (i j : Nat) : sR := (p_li (s_pn u j) - p_po (s_pn u j), s_act (s_up u i (s_pn u j)))
def s_rest (u : sS) (i j : Nat) : sR := (p_li (s_pn u j) - p_po (s_pn u j), s_act (s_up u i (p_pt (s_pn u j) (p_po (s_pn u j)) (p_li (s_pn u j) - p_po (s_pn u j)))))
def s_part (u : sS) (i j : Nat) (ix mn : Int32) : sR := if z_is ix 0 (p_li (s_pn u j)) = 0 then (-9, s_tel u 5) else if z_is mn 0 (p_li (s_pn u j) - ix) = 0 then (-9, s_tel u 5) else (mn, s_act (s_up u i (p_pt (s_pn u j) ix mn)))
def p_rdr (p : sP) : sP := (p_ro p, p_sa p, p_cp p, p_po p, p_li p, p_mk p, 1)
def s_reader (u : sS) (i j : Nat) : sR := (p_li (s_pn u j) - p_po (s_pn u j), s_act (s_up u i (p_rdr (s_pn u j))))
def s_sw (u : sS) (i j : Nat) : sS := s_up (s_up u i (s_pn u j)) j (s_pn u i)
def s_exch (u : sS) (i j : Nat) : sR := (p_po (s_pn u j), s_act (s_sw u i j))
def s_go (u : sS) (i : Nat) (x : Int32) : sR := if z_is x 0 (p_li (s_pn u i)) = 0 then (-9, s_tel u 5) else (p_po (s_pn u i), s_act (s_up u i (p_mv (s_pn u i) x)))
def s_move (u : sS) (i : Nat) (b : Int32) : sR := if z_is (p_po (s_pn u i) + b) 0 (p_li (s_pn u i)) = 0 then (-9, s_tel u 5) else (p_po (s_pn u i) + b, s_act (s_up u i (p_mv (s_pn u i) (p_po (s_pn u i) + b))))
def s_end (u : sS) (i : Nat) (x : Int32) : sR := if z_is x 0 (p_cp (s_pn u i)) = 0 then (-9, s_tel u 5) else (p_li (s_pn u i), s_act (s_up u i (p_en (s_pn u i) x)))
def s_stretch (u : sS) (i : Nat) (b : Int32) : sR := if z_is (p_li (s_pn u i) + b) 0 (p_cp (s_pn u i)) = 0 then (-9, s_tel u 5) else (p_li (s_pn u i) + b, s_act (s_up u i (p_en (s_pn u i) (p_li (s_pn u i) + b))))
def p_mkd (p : sP) : sP := (p_ro p, p_sa p, p_cp p, p_po p, p_li p, p_po p, p_rd p)
def s_mark (u : sS) (i : Nat) : sR := (p_po (s_pn u i), s_act (s_up u i (p_mkd (s_pn u i))))
def s_back (u : sS) (i : Nat) : sR := if p_mk (s_pn u i) = -1 then (-9, s_tel u 3) else (p_po (s_pn u i) - p_mk (s_pn u i), s_act (s_up u i (p_po' (s_pn u i) (p_mk (s_pn u i)))))
def s_clear (u : sS) (i : Nat) : sR := (p_cp (s_pn u i) - 0, s_act (s_up u i (p_bg (s_pn u i) (p_cp (s_pn u i)))))
def s_flip (u : sS) (i : Nat) : sR := (p_po (s_pn u i) - 0, s_act (s_up u i (p_bg (s_pn u i) (p_po (s_pn u i)))))
def s_rewind (u : sS) (i : Nat) : sR := (p_li (s_pn u i) - 0, s_act (s_up u i (p_bg (s_pn u i) (p_li (s_pn u i)))))
/-- one value put: (0, or the refusal's kind) -/
def s_put1 (u : sS) (i : Nat) (v : Int32) : sR := if p_rd (s_pn u i) = 1 then (4, s_tel u 4) else if p_li (s_pn u i) - p_po (s_pn u i) = 0 then (1, s_tel u 1) else (0, s_up (s_wr u (p_ro (s_pn u i)) (p_at (s_pn u i) (p_po (s_pn u i))) v) i (p_po' (s_pn u i) (p_po (s_pn u i) + 1)))
def s_put (u : sS) (i : Nat) (v : Int32) : sR := if (s_put1 u i v).1 = 0 then (p_po (s_pn u i) + 1, s_act (s_put1 u i v).2) else (-9, (s_put1 u i v).2)
def s_putAt (u : sS) (i : Nat) (ix v : Int32) : sR := if z_hi ix (p_li (s_pn u i)) = 0 then (-9, s_tel u 5) else if p_rd (s_pn u i) = 1 then (-9, s_tel u 4) else (s_val u (s_pn u i) ix, s_act (s_wr u (p_ro (s_pn u i)) (p_at (s_pn u i) ix) v))
def s_bring (u : sS) (i j : Nat) (ix fr : Int32) : sR := if z_hi fr (p_li (s_pn u j)) = 0 then (-9, s_tel u 5) else if z_hi ix (p_li (s_pn u i)) = 0 then (-9, s_tel u 5) else if p_rd (s_pn u i) = 1 then (-9, s_tel u 4) else (s_val u (s_pn u i) ix, s_act (s_wr u (p_ro (s_pn u i)) (p_at (s_pn u i) ix) (s_val u (s_pn u j) fr)))
def s_lay (u : sS) (x v : Int32) : sR := (s_vl u 0 x.toNatClampNeg, s_act (s_wr u 0 x.toNatClampNeg v))
def s_reach (u : sS) (i : Nat) (ix v : Int32) : sR := if p_rd (s_pn u i) = 1 then (-9, s_tel u 4) else if z_hi ix (p_cp (s_pn u i)) = 0 then (-9, s_tel u 5) else (s_val u (s_pn u i) ix, s_act (s_wr u (p_ro (s_pn u i)) (p_at (s_pn u i) ix) v))
def s_get (u : sS) (i : Nat) : sR := if p_li (s_pn u i) - p_po (s_pn u i) = 0 then (-9, s_tel u 2) else (s_val u (s_pn u i) (p_po (s_pn u i)), s_act (s_up u i (p_po' (s_pn u i) (p_po (s_pn u i) + 1))))
def s_pop (u : sS) (i : Nat) : sR := if p_po (s_pn u i) = 0 then (-9, s_tel u 5) else (s_val u (s_pn u i) (p_po (s_pn u i) - 1), s_act (s_up u i (p_mv (s_pn u i) (p_po (s_pn u i) - 1))))
def s_drain (u : sS) (i : Nat) (mn : Int32) : sR := if mn ≤ p_li (s_pn u i) - p_po (s_pn u i) then (mn, s_act (s_up u i (p_po' (s_pn u i) (p_po (s_pn u i) + mn)))) else (p_li (s_pn u i) - p_po (s_pn u i), s_act (s_tel (s_up u i (p_po' (s_pn u i) (p_po (s_pn u i) + (p_li (s_pn u i) - p_po (s_pn u i))))) 2))
/-- d values put from the j-th on: (how many at last, the state) -/
def s_fill1 (i : Nat) (a b : Int32) : Nat → Nat → sS → Nat × sS
  | 0, j, u => (j, u)
  | d + 1, j, u => if (s_put1 u i (a + nI j * b)).1 = 0 then s_fill1 i a b d (j + 1) (s_put1 u i (a + nI j * b)).2 else (j, (s_put1 u i (a + nI j * b)).2)
def s_fill (u : sS) (i : Nat) (a b mn : Int32) : sR := (nI (s_fill1 i a b mn.toNatClampNeg 0 u).1, s_act (s_fill1 i a b mn.toNatClampNeg 0 u).2)
/-- d values of a pane brought to its beginning, from the j-th on -/
def s_pack1 (i : Nat) : Nat → Nat → sS → sS
  | 0, _, u => u
  | d + 1, j, u => s_pack1 i d (j + 1) (s_wr u (p_ro (s_pn u i)) (p_at (s_pn u i) (nI j)) (s_val u (s_pn u i) (p_po (s_pn u i) + nI j)))
def s_pack (u : sS) (i : Nat) : sR := if p_rd (s_pn u i) = 1 then (-9, s_tel u 4) else (p_li (s_pn u i) - p_po (s_pn u i), s_act (s_up (s_pack1 i (p_li (s_pn u i) - p_po (s_pn u i)).toNatClampNeg 0 u) i (p_po' (p_bg (s_pn u i) (p_cp (s_pn u i))) (p_li (s_pn u i) - p_po (s_pn u i)))))
/-- one value poured from pane i into pane k: the first one goes on, the other takes it; if that refuses, the first one goes back -/
def s_pour0 (u : sS) (i k : Nat) : sR := s_put1 (s_up u i (p_po' (s_pn u i) (p_po (s_pn u i) + 1))) k (s_val u (s_pn u i) (p_po (s_pn u i)))
def s_unp (u : sS) (i : Nat) : sS := s_up u i (p_mv (s_pn u i) (p_po (s_pn u i) - 1))
def s_pour1 (i k : Nat) : Nat → Nat → sS → Nat × sS
  | 0, j, u => (j, u)
  | d + 1, j, u => if p_li (s_pn u i) - p_po (s_pn u i) ≤ 0 then (j, u) else if (s_pour0 u i k).1 = 0 then s_pour1 i k d (j + 1) (s_pour0 u i k).2 else (j, s_unp (s_pour0 u i k).2 i)
def s_pour (u : sS) (i k : Nat) (mn : Int32) : sR := (nI (s_pour1 i k mn.toNatClampNeg 0 u).1, s_act (s_pour1 i k mn.toNatClampNeg 0 u).2)
def s_of (u : sS) (i : Nat) (wh : Int32) : Int32 := if wh = 0 then p_po (s_pn u i) else if wh = 1 then p_li (s_pn u i) else if wh = 2 then p_cp (s_pn u i) else if wh = 3 then p_li (s_pn u i) - p_po (s_pn u i) else if wh = 4 then p_mk (s_pn u i) else if wh = 5 then (if p_rd (s_pn u i) = 0 then p_sa (s_pn u i) else -9) else if wh = 6 then (if p_li (s_pn u i) - p_po (s_pn u i) ≤ 0 then 0 else 1) else if wh = 7 then p_rd (s_pn u i) else if wh = 8 then 1 - p_rd (s_pn u i) else p_cp (s_pn u i) - p_li (s_pn u i)
def s_at (u : sS) (i : Nat) (ix : Int32) : Int32 := if z_hi ix (p_li (s_pn u i)) = 0 then -9 else s_val u (s_pn u i) ix
def s_peek (u : sS) (i : Nat) : Int32 := if p_li (s_pn u i) - p_po (s_pn u i) = 0 then -9 else s_val u (s_pn u i) (p_po (s_pn u i))
def s_kin (u : sS) (i j : Nat) : Int32 := if p_rd (s_pn u i) = 0 then (if p_rd (s_pn u j) = 0 then (if p_ro (s_pn u i) = p_ro (s_pn u j) then 1 else 0) else -9) else -9
def s_sees (u : sS) (i : Nat) (ix : Int32) (j : Nat) : Int32 := if p_rd (s_pn u i) = 0 then (if p_rd (s_pn u j) = 0 then (if p_ro (s_pn u i) = p_ro (s_pn u j) then (if z_hi ix (p_cp (s_pn u i)) = 0 then -1 else if z_hi (p_sa (s_pn u i) + ix - p_sa (s_pn u j)) (p_cp (s_pn u j)) = 0 then -1 else p_sa (s_pn u i) + ix - p_sa (s_pn u j)) else -1) else -9) else -9
def s_would (u : sS) (i : Nat) (wh : Int32) : Int32 := if wh = 0 then p_cp (s_pn u i) else if wh = 1 then p_po (s_pn u i) else if wh = 2 then p_li (s_pn u i) else if p_mk (s_pn u i) = -1 then -9 else p_li (s_pn u i) - p_mk (s_pn u i)
def s_sumf (f : Nat → Int32) : Nat → Int32
  | 0 => 0
  | j + 1 => s_sumf f j + f j
def s_house (u : sS) (wh : Int32) : Int32 := if wh = 0 then s_ac u else if wh = 6 then s_kn u else if wh = 7 then s_sumf (fun i => p_rd (s_pn u i)) 6 else if wh = 8 then s_sumf (fun i => if p_mk (s_pn u i) = -1 then 0 else 1) 6 else s_td u wh.toNatClampNeg
/-- a state in order, after at most t new rows -/
def s_pok (nr : Nat) (ln : Nat → Nat) (p : sP) : Prop := p_ro p < nr ∧ z_ow (p_sa p) (p_cp p) (p_po p) (p_li p) (ln (p_ro p)) ∧ (-1 ≤ (p_mk p).toInt ∧ (p_mk p).toInt ≤ (p_po p).toInt) ∧ (p_rd p = 0 ∨ p_rd p = 1)
def s_ok (t : Nat) (u : sS) : Prop := 3 ≤ s_nr u ∧ s_nr u ≤ 3 + t ∧ s_ln u 0 = 16 ∧ (∀ r, 0 < r → s_ln u r ≤ 12) ∧ (∀ i, i < 6 → s_pok (s_nr u) (s_ln u) (s_pn u i)) ∧ (∀ r j, 0 ≤ (s_vl u r j).toInt)
abbrev cPx (a : Nat) (p : sP) : va_E := cPn a (p_sa p) (p_cp p) (p_po p) (p_li p) (p_mk p) (p_rd p)
abbrev cPy (G : zG) (a : Int32) (p : sP) : va_E := cPm G (nI (p_ro p)) a (p_sa p) (p_cp p) (p_po p) (p_li p) (p_mk p) (p_rd p)
/-- a builder's cells: nothing is said of its letters -/
def BI (G : zG) (sb rf : Nat) (VA : Nat → Nat) (nr : Nat) (C : zM) : Prop := ∃ (vb : Nat) (ml : Int32) (ct n : Nat) (f : Nat → Int32), C sb = some (cSb vb 0 ml (nI ct)) ∧ C vb = some (aB G n f) ∧ vb ≠ rf ∧ (∀ r, r < nr → vb ≠ VA r) ∧ ct ≤ n ∧ n ≤ 600 ∧ sb_Fit f ∧ 16 ≤ n
/-- the class's cells of a state -/
def CI (G : zG) (u : sS) (x : Nat) (P RA VA : Nat → Nat) (pa sp ln rf sb : Nat) (C : zM) : Prop :=
  C x = some (cMp (RA 0) pa sp ln rf (s_ac u) (s_kn u)) ∧
  (∃ fp : Nat → Option Nat, C pa = some (aP G 6 fp) ∧ ∀ i, i < 6 → fp i = some (P i)) ∧
  (∀ i, i < 6 → C (P i) = some (cPx (RA (p_ro (s_pn u i))) (s_pn u i))) ∧
  (∃ (o9 : Nat) (p9 : sP), C sp = some (cPx o9 p9)) ∧
  (∀ r, r < s_nr u → C (RA r) = some (cRw (VA r))) ∧
  (∀ r, r < s_nr u → C (VA r) = some (aI G (s_ln u r) (s_vl u r))) ∧
  C rf = some (aI G 6 (s_td u)) ∧
  C ln = some (cLn sb) ∧ BI G sb rf VA (s_nr u) C ∧
  (∀ i j, i < 6 → j < 6 → P i = P j → i = j) ∧ (∀ i, i < 6 → P i ≠ sp) ∧
  (∀ r s, r < s_nr u → s < s_nr u → RA r = RA s → r = s) ∧ (∀ r s, r < s_nr u → s < s_nr u → VA r = VA s → r = s) ∧ (∀ r, r < s_nr u → VA r ≠ rf)
def s_ba (ln : Nat → Nat) : Nat → Nat
  | 0 => 0
  | r + 1 => s_ba ln r + ln r
/-- the reference's cells of a state -/
def RI (G : zG) (u : sS) (m : Nat) (th : Int32) (K : Nat → Nat) (tp pn td : Nat) (R : zM) : Prop :=
  R m = some (cMd tp (nI (s_nr u)) pn td (s_ac u) (s_kn u) th) ∧
  (∃ ft : Nat → Int32, R tp = some (aI G (s_ba (s_ln u) (s_nr u)) ft) ∧ ∀ r, r < s_nr u → ∀ j, j < s_ln u r → ft (s_ba (s_ln u) r + j) = s_vl u r j) ∧
  (∃ fp : Nat → Option Nat, R pn = some (aII G 6 fp) ∧ ∀ i, i < 6 → fp i = some (K i)) ∧
  R td = some (aI G 6 (s_td u)) ∧
  (∀ i, i < 6 → R (K i) = some (cPy G (nI (s_ba (s_ln u) (p_ro (s_pn u i)))) (s_pn u i))) ∧
  (∀ i j, i < 6 → j < 6 → K i = K j → i = j) ∧ (∀ i, i < 6 → K i ≠ td) ∧ (∀ i, i < 6 → K i ≠ tp) ∧ td ≠ tp
section CIU
variable {G : zG} {u : sS} {x : Nat} {P RA VA : Nat → Nat} {pa sp ln rf sb : Nat} {C : zM}
theorem CI_mono {C' : zM} (h : CI G u x P RA VA pa sp ln rf sb C) (hm : ∀ a e, C a = some e → C' a = some e) : CI G u x P RA VA pa sp ln rf sb C' := by
  obtain ⟨hx, ⟨fp, hpa, hfp⟩, hP, ⟨o9, p9, hsp⟩, hRA, hVA, hrf, hln, ⟨vb, ml, ct, n, f, hsb, hvb, hc⟩, hi⟩ := h
  exact ⟨hm _ _ hx, ⟨fp, hm _ _ hpa, hfp⟩, fun i h => hm _ _ (hP i h), ⟨o9, p9, hm _ _ hsp⟩, fun r h => hm _ _ (hRA r h), fun r h => hm _ _ (hVA r h), hm _ _ hrf, hm _ _ hln, ⟨vb, ml, ct, n, f, hm _ _ hsb, hm _ _ hvb, hc⟩, hi⟩
theorem CI_junk {q : Nat} {e : va_E} (h : CI G u x P RA VA pa sp ln rf sb C) (hq : C q = none) : CI G u x P RA VA pa sp ln rf sb (z_up C q e) := CI_mono h fun a e ha => zkn hq ha
theorem CI_pn (h : CI G u x P RA VA pa sp ln rf sb C) {i : Nat} (hi : i < 6) (p : sP) : CI G (s_up u i p) x P RA VA pa sp ln rf sb (z_up C (P i) (cPx (RA (p_ro p)) p)) := by
  obtain ⟨hx, ⟨fp, hpa, hfp⟩, hP, ⟨o9, p9, hsp⟩, hRA, hVA, hrf, hln, ⟨vb, ml, ct, n, f, hsb, hvb, hc⟩, iP, iS, iR, iV, iF⟩ := h
  have hp := hP i hi
  refine ⟨zk hp hx (by intro h; cases h), ⟨fp, zk hp hpa (by intro h; cases h), hfp⟩, fun j hj => ?_, ⟨o9, p9, zk' hsp (iS i hi).symm⟩, fun r hr => zk hp (hRA r hr) (by intro h; cases h), fun r hr => zk hp (hVA r hr) (by intro h; cases h), zk hp hrf (by intro h; cases h), zk hp hln (by intro h; cases h), ⟨vb, ml, ct, n, f, zk hp hsb (by intro h; cases h), zk hp hvb (by intro h; cases h), hc⟩, iP, iS, iR, iV, iF⟩
  by_cases hji : j = i
  · subst hji
    rw [z_up_s, s_up_s]
  · rw [z_up_n _ _ (fun q => hji (iP j i hj hi q)), hP j hj, s_up_n _ _ hji]
theorem CI_ak (h : CI G u x P RA VA pa sp ln rf sb C) (a k : Int32) : CI G (s_ak u a k) x P RA VA pa sp ln rf sb (z_up C x (cMp (RA 0) pa sp ln rf a k)) := by
  obtain ⟨hx, ⟨fp, hpa, hfp⟩, hP, ⟨o9, p9, hsp⟩, hRA, hVA, hrf, hln, ⟨vb, ml, ct, n, f, hsb, hvb, hc⟩, hi⟩ := h
  exact ⟨z_up_s _ _ _, ⟨fp, zk hx hpa (by intro h; cases h), hfp⟩, fun j hj => zk hx (hP j hj) (by intro h; cases h), ⟨o9, p9, zk hx hsp (by intro h; cases h)⟩, fun r hr => zk hx (hRA r hr) (by intro h; cases h), fun r hr => zk hx (hVA r hr) (by intro h; cases h), zk hx hrf (by intro h; cases h), zk hx hln (by intro h; cases h), ⟨vb, ml, ct, n, f, zk hx hsb (by intro h; cases h), zk hx hvb (by intro h; cases h), hc⟩, hi⟩
theorem CI_td (h : CI G u x P RA VA pa sp ln rf sb C) (g : Nat → Int32) : CI G (s_tdu u g) x P RA VA pa sp ln rf sb (z_up C rf (aI G 6 g)) := by
  obtain ⟨hx, ⟨fp, hpa, hfp⟩, hP, ⟨o9, p9, hsp⟩, hRA, hVA, hrf, hln, ⟨vb, ml, ct, n, f, hsb, hvb, hc⟩, iP, iS, iR, iV, iF⟩ := h
  exact ⟨zk hrf hx (by intro h; cases h), ⟨fp, zk hrf hpa (by intro h; simp at h), hfp⟩, fun j hj => zk hrf (hP j hj) (by intro h; cases h), ⟨o9, p9, zk hrf hsp (by intro h; cases h)⟩, fun r hr => zk hrf (hRA r hr) (by intro h; cases h), fun r hr => zk' (hVA r hr) (iF r hr), z_up_s _ _ _, zk hrf hln (by intro h; cases h), ⟨vb, ml, ct, n, f, zk hrf hsb (by intro h; cases h), zk' hvb hc.1, hc⟩, iP, iS, iR, iV, iF⟩
theorem CI_wr (h : CI G u x P RA VA pa sp ln rf sb C) {r : Nat} (hr : r < s_nr u) (j : Nat) (v : Int32) : CI G (s_wr u r j v) x P RA VA pa sp ln rf sb (z_up C (VA r) (aI G (s_ln u r) (upd (s_vl u r) j v))) := by
  obtain ⟨hx, ⟨fp, hpa, hfp⟩, hP, ⟨o9, p9, hsp⟩, hRA, hVA, hrf, hln, ⟨vb, ml, ct, n, f, hsb, hvb, hc⟩, iP, iS, iR, iV, iF⟩ := h
  have hv := hVA r hr
  refine ⟨zk hv hx (by intro h; cases h), ⟨fp, zk hv hpa (by intro h; simp at h), hfp⟩, fun j hj => zk hv (hP j hj) (by intro h; cases h), ⟨o9, p9, zk hv hsp (by intro h; cases h)⟩, fun r hr => zk hv (hRA r hr) (by intro h; cases h), fun q hq => ?_, zk' hrf (iF r hr).symm, zk hv hln (by intro h; cases h), ⟨vb, ml, ct, n, f, zk hv hsb (by intro h; cases h), zk' hvb (hc.2.1 r hr), hc⟩, iP, iS, iR, iV, iF⟩
  by_cases hqr : q = r
  · subst hqr
    rw [z_up_s, s_wr_s]
    rfl
  · rw [z_up_n _ _ (fun e => hqr (iV q r hq hr e)), hVA q hq, s_wr_n _ _ _ hqr]
    rfl
theorem CI_sp (h : CI G u x P RA VA pa sp ln rf sb C) (o : Nat) (p : sP) : CI G u x P RA VA pa sp ln rf sb (z_up C sp (cPx o p)) := by
  obtain ⟨hx, ⟨fp, hpa, hfp⟩, hP, ⟨o9, p9, hsp⟩, hRA, hVA, hrf, hln, ⟨vb, ml, ct, n, f, hsb, hvb, hc⟩, iP, iS, iR, iV, iF⟩ := h
  exact ⟨zk hsp hx (by intro h; cases h), ⟨fp, zk hsp hpa (by intro h; cases h), hfp⟩, fun j hj => zk' (hP j hj) (iS j hj), ⟨o, p, z_up_s _ _ _⟩, fun r hr => zk hsp (hRA r hr) (by intro h; cases h), fun r hr => zk hsp (hVA r hr) (by intro h; cases h), zk hsp hrf (by intro h; cases h), zk hsp hln (by intro h; cases h), ⟨vb, ml, ct, n, f, zk hsp hsb (by intro h; cases h), zk hsp hvb (by intro h; cases h), hc⟩, iP, iS, iR, iV, iF⟩
end CIU
section RIU
variable {G : zG} {u : sS} {m : Nat} {th : Int32} {K : Nat → Nat} {tp pn td : Nat} {R : zM}
theorem RI_mono {R' : zM} (h : RI G u m th K tp pn td R) (hm : ∀ a e, R a = some e → R' a = some e) : RI G u m th K tp pn td R' := by
  obtain ⟨h1, ⟨ft, h2, h3⟩, ⟨fp, h4, h5⟩, h6, h7, hi⟩ := h
  exact ⟨hm _ _ h1, ⟨ft, hm _ _ h2, h3⟩, ⟨fp, hm _ _ h4, h5⟩, hm _ _ h6, fun i h => hm _ _ (h7 i h), hi⟩
theorem RI_junk {q : Nat} {e : va_E} (h : RI G u m th K tp pn td R) (hq : R q = none) : RI G u m th K tp pn td (z_up R q e) := RI_mono h fun a e ha => zkn hq ha
theorem RI_pn (h : RI G u m th K tp pn td R) {i : Nat} (hi : i < 6) (p : sP) : RI G (s_up u i p) m th K tp pn td (z_up R (K i) (cPy G (nI (s_ba (s_ln u) (p_ro p))) p)) := by
  obtain ⟨h1, ⟨ft, h2, h3⟩, ⟨fp, h4, h5⟩, h6, h7, iK, i1, i2, i3⟩ := h
  have hp := h7 i hi
  refine ⟨zk hp h1 (by intro h; cases h), ⟨ft, zk' h2 (i2 i hi).symm, h3⟩, ⟨fp, zk hp h4 (by intro h; simp at h), h5⟩, zk' h6 (i1 i hi).symm, fun j hj => ?_, iK, i1, i2, i3⟩
  by_cases hji : j = i
  · subst hji
    rw [z_up_s, s_up_s]
    rfl
  · rw [z_up_n _ _ (fun q => hji (iK j i hj hi q)), h7 j hj, s_up_n _ _ hji]
    rfl
theorem RI_ak (h : RI G u m th K tp pn td R) (a k th' : Int32) : RI G (s_ak u a k) m th' K tp pn td (z_up R m (cMd tp (nI (s_nr u)) pn td a k th')) := by
  obtain ⟨h1, ⟨ft, h2, h3⟩, ⟨fp, h4, h5⟩, h6, h7, hi⟩ := h
  exact ⟨z_up_s _ _ _, ⟨ft, zk h1 h2 (by intro h; cases h), h3⟩, ⟨fp, zk h1 h4 (by intro h; cases h), h5⟩, zk h1 h6 (by intro h; cases h), fun j hj => zk h1 (h7 j hj) (by intro h; cases h), hi⟩
theorem RI_th (h : RI G u m th K tp pn td R) (th' : Int32) : RI G u m th' K tp pn td (z_up R m (cMd tp (nI (s_nr u)) pn td (s_ac u) (s_kn u) th')) := RI_ak h (s_ac u) (s_kn u) th'
theorem RI_td (h : RI G u m th K tp pn td R) (g : Nat → Int32) : RI G (s_tdu u g) m th K tp pn td (z_up R td (aI G 6 g)) := by
  obtain ⟨h1, ⟨ft, h2, h3⟩, ⟨fp, h4, h5⟩, h6, h7, iK, i1, i2, i3⟩ := h
  exact ⟨zk h6 h1 (by intro h; cases h), ⟨ft, zk' h2 i3.symm, h3⟩, ⟨fp, zk h6 h4 (by intro h; simp at h), h5⟩, z_up_s _ _ _, fun j hj => zk' (h7 j hj) (i1 j hj), iK, i1, i2, i3⟩
theorem s_ba_mono (ln : Nat → Nat) {r s : Nat} (h : r ≤ s) : s_ba ln r ≤ s_ba ln s := by
  induction s with
  | zero => rw [Nat.le_zero.mp h]; exact Nat.le_refl _
  | succ s ih =>
    rcases Nat.lt_or_ge r (s + 1) with q | q
    · exact Nat.le_trans (ih (by omega)) (Nat.le_add_right _ _)
    · rw [show r = s + 1 by omega]; exact Nat.le_refl _
theorem s_ba_lt (ln : Nat → Nat) {r s : Nat} (h : r < s) : s_ba ln r + ln r ≤ s_ba ln s := s_ba_mono ln (r := r + 1) h
/-- places of different rows, or different places of one, lie apart on the tape -/
theorem s_ba_ne (ln : Nat → Nat) {r s j k : Nat} (hj : j < ln r) (hk : k < ln s) (h : s_ba ln r + j = s_ba ln s + k) : r = s ∧ j = k := by
  rcases Nat.lt_trichotomy r s with q | q | q
  · have := s_ba_lt ln q; omega
  · subst q; exact ⟨rfl, by omega⟩
  · have := s_ba_lt ln q; omega
theorem RI_wr (h : RI G u m th K tp pn td R) {r j b : Nat} (hr : r < s_nr u) (hj : j < s_ln u r) (hb : b = s_ba (s_ln u) r + j) {ft : Nat → Int32} (hft : R tp = some (aI G (s_ba (s_ln u) (s_nr u)) ft)) (v : Int32) : RI G (s_wr u r j v) m th K tp pn td (z_up R tp (aI G (s_ba (s_ln u) (s_nr u)) (upd ft b v))) := by
  obtain ⟨h1, ⟨ft', h2, h3⟩, ⟨fp, h4, h5⟩, h6, h7, iK, i1, i2, i3⟩ := h
  have e : ft' = ft := by
    have := h2.symm.trans hft
    simpa using this
  subst e
  refine ⟨zk h2 h1 (by intro h; cases h), ⟨_, z_up_s _ _ _, fun s hs k hk => ?_⟩, ⟨fp, zk h2 h4 (by intro h; simp at h), h5⟩, zk' h6 i3, fun q hq => zk' (h7 q hq) (i2 q hq), iK, i1, i2, i3⟩
  show upd ft' b v (s_ba (s_ln u) s + k) = (if s = r then upd (s_vl u r) j v else s_vl u s) k
  by_cases hsr : s = r
  · subst hsr
    rw [if_pos rfl]
    by_cases hkj : k = j
    · subst hkj
      simp [upd, hb]
    · have : s_ba (s_ln u) s + k ≠ b := by omega
      simp [upd, hkj, this]
      exact h3 s hs k hk
  · rw [if_neg hsr]
    have : s_ba (s_ln u) s + k ≠ b := fun q => hsr (s_ba_ne (s_ln u) hk hj (q.trans hb)).1
    simp [upd, this]
    exact h3 s hs k hk
theorem RI_nK (h : RI G u m th K tp pn td R) {i q : Nat} (hi : i < 6) (hq : R q = none) (p : sP) {fp : Nat → Option Nat} (hfp : R pn = some (aII G 6 fp)) : RI G (s_up u i p) m th (s_fu K i q) tp pn td (z_up (z_up R q (cPy G (nI (s_ba (s_ln u) (p_ro p))) p)) pn (aII G 6 (va_up fp i (some q)))) := by
  obtain ⟨h1, ⟨ft, h2, h3⟩, ⟨fp', h4, h5⟩, h6, h7, iK, i1, i2, i3⟩ := h
  have e : fp' = fp := by
    have := h4.symm.trans hfp
    simpa using this
  subst e
  have h4' : z_up R q (cPy G (nI (s_ba (s_ln u) (p_ro p))) p) pn = some (aII G 6 fp') := zkn hq h4
  have g : ∀ {b : Nat} {e : va_E}, R b = some e → e ≠ aII G 6 fp' → z_up (z_up R q (cPy G (nI (s_ba (s_ln u) (p_ro p))) p)) pn (aII G 6 (va_up fp' i (some q))) b = some e := fun hb hn => zk h4' (zkn hq hb) hn
  have hne : ∀ {b : Nat} {e : va_E}, R b = some e → b ≠ q := fun hb => z_neN hb hq
  refine ⟨g h1 (by intro h; cases h), ⟨ft, g h2 (by intro h; simp at h), h3⟩, ⟨_, z_up_s _ _ _, fun j hj => ?_⟩, g h6 (by intro h; simp at h), fun j hj => ?_, fun a b ha hb hab => ?_, fun j hj => ?_, fun j hj => ?_, i3⟩
  · by_cases hji : j = i
    · subst hji; rw [s_fu_s]; simp [va_up]
    · rw [s_fu_n _ _ hji]; simp [va_up, hji, h5 j hj]
  · by_cases hji : j = i
    · subst hji
      rw [s_fu_s, s_up_s]
      exact (z_up_n _ _ (hne h4).symm).trans (z_up_s _ _ _)
    · rw [s_fu_n _ _ hji, s_up_n _ _ hji]
      exact g (h7 j hj) (by intro h; simp at h)
  · by_cases h1a : a = i
    · by_cases h1b : b = i
      · exact h1a.trans h1b.symm
      · subst h1a
        rw [s_fu_s, s_fu_n _ _ h1b] at hab
        exact absurd hab.symm (hne (h7 b hb))
    · by_cases h1b : b = i
      · subst h1b
        rw [s_fu_s, s_fu_n _ _ h1a] at hab
        exact absurd hab (hne (h7 a ha))
      · rw [s_fu_n _ _ h1a, s_fu_n _ _ h1b] at hab
        exact iK a b ha hb hab
  · by_cases hji : j = i
    · subst hji; rw [s_fu_s]; exact (hne h6).symm
    · rw [s_fu_n _ _ hji]; exact i1 j hj
  · by_cases hji : j = i
    · subst hji; rw [s_fu_s]; exact (hne h2).symm
    · rw [s_fu_n _ _ hji]; exact i2 j hj
theorem s_fu_in {K : Nat → Nat} {i j : Nat} (hi : i < 6) (hj : j < 6) {Q : Nat → Prop} (h : ∀ k, k < 6 → Q (K k)) : ∀ k, k < 6 → Q (s_fu (s_fu K i (K j)) j (K i) k) := fun k hk => by
  by_cases hkj : k = j
  · subst hkj; rw [s_fu_s]; exact h i hi
  · rw [s_fu_n _ _ hkj]
    by_cases hki : k = i
    · subst hki; rw [s_fu_s]; exact h j hj
    · rw [s_fu_n _ _ hki]; exact h k hk
theorem s_fu_inj {K : Nat → Nat} {i j : Nat} (hi : i < 6) (hj : j < 6) (h : ∀ a b, a < 6 → b < 6 → K a = K b → a = b) : ∀ a b, a < 6 → b < 6 → s_fu (s_fu K i (K j)) j (K i) a = s_fu (s_fu K i (K j)) j (K i) b → a = b := by
  have e : ∀ k, s_fu (s_fu K i (K j)) j (K i) k = K (if k = j then i else if k = i then j else k) := fun k => by
    by_cases hkj : k = j
    · subst hkj; rw [s_fu_s, if_pos rfl]
    · rw [s_fu_n _ _ hkj, if_neg hkj]
      by_cases hki : k = i
      · subst hki; rw [s_fu_s, if_pos rfl]
      · rw [s_fu_n _ _ hki, if_neg hki]
  intro a b ha hb hab
  rw [e, e] at hab
  have l : ∀ k, k < 6 → (if k = j then i else if k = i then j else k) < 6 := fun k hk => by
    split
    · exact hi
    · split
      · exact hj
      · exact hk
  have := h _ _ (l a ha) (l b hb) hab
  split at this <;> split at this <;> (try split at this) <;> (try split at this) <;> omega
theorem s_fu_fp {K : Nat → Nat} {i j : Nat} {fp : Nat → Option Nat} (h : ∀ k, k < 6 → fp k = some (K k)) : ∀ k, k < 6 → va_up (va_up fp i (some (K j))) j (some (K i)) k = some (s_fu (s_fu K i (K j)) j (K i) k) := fun k hk => by
  by_cases hkj : k = j
  · subst hkj; rw [s_fu_s]; simp [va_up]
  · rw [s_fu_n _ _ hkj]
    by_cases hki : k = i
    · subst hki; rw [s_fu_s]; simp [va_up, hkj]
    · rw [s_fu_n _ _ hki]; simp [va_up, hkj, hki, h k hk]
theorem RI_sw (h : RI G u m th K tp pn td R) {i j : Nat} (hi : i < 6) (hj : j < 6) {fp : Nat → Option Nat} (hfp : R pn = some (aII G 6 fp)) : RI G (s_sw u i j) m th (s_fu (s_fu K i (K j)) j (K i)) tp pn td (z_up R pn (aII G 6 (va_up (va_up fp i (some (K j))) j (some (K i))))) := by
  obtain ⟨h1, ⟨ft, h2, h3⟩, ⟨fp', h4, h5⟩, h6, h7, iK, i1, i2, i3⟩ := h
  have e : fp' = fp := by
    have := h4.symm.trans hfp
    simpa using this
  subst e
  refine ⟨zk h4 h1 (by intro h; cases h), ⟨ft, zk h4 h2 (by intro h; simp at h), h3⟩, ⟨_, z_up_s _ _ _, s_fu_fp h5⟩, zk h4 h6 (by intro h; simp at h), fun k hk => ?_, s_fu_inj hi hj iK, s_fu_in (Q := fun q => q ≠ td) hi hj i1, s_fu_in (Q := fun q => q ≠ tp) hi hj i2, i3⟩
  by_cases hkj : k = j
  · subst hkj
    rw [s_fu_s, s_sw, s_up_s]
    exact zk h4 (h7 i hi) (by intro h; simp at h)
  · rw [s_fu_n _ _ hkj]
    by_cases hki : k = i
    · subst hki
      rw [s_fu_s, s_sw, s_up_n _ _ hkj, s_up_s]
      exact zk h4 (h7 j hj) (by intro h; simp at h)
    · rw [s_fu_n _ _ hki, s_sw, s_up_n _ _ hkj, s_up_n _ _ hki]
      exact zk h4 (h7 k hk) (by intro h; simp at h)
end RIU
