/-! PART 45a: what the texts say, as lists of letters, and what a digest makes of them -/
theorem t_nmJ {v : Nat} (h11 : v < 35000000000) : j_dgs (j_dgl v) v = t_nm v := by
  rcases Nat.lt_or_ge v 10 with h1 | h1
  · rw [j_dk1 h1]
    exact t_num_d (d := 1) (by decide) (by decide) (Nat.lt_of_lt_of_le h1 (by decide)) (Or.inl rfl)
  rcases Nat.lt_or_ge v 100 with h2 | h2
  · rw [j_dk2 h1 h2]
    exact t_num_d (d := 2) (by decide) (by decide) (Nat.lt_of_lt_of_le h2 (by decide)) (Or.inr (Nat.le_trans (by decide) h1))
  rcases Nat.lt_or_ge v 1000 with h3 | h3
  · rw [j_dk3 h2 h3]
    exact t_num_d (d := 3) (by decide) (by decide) (Nat.lt_of_lt_of_le h3 (by decide)) (Or.inr (Nat.le_trans (by decide) h2))
  rcases Nat.lt_or_ge v 10000 with h4 | h4
  · rw [j_dk4 h3 h4]
    exact t_num_d (d := 4) (by decide) (by decide) (Nat.lt_of_lt_of_le h4 (by decide)) (Or.inr (Nat.le_trans (by decide) h3))
  rcases Nat.lt_or_ge v 100000 with h5 | h5
  · rw [j_dk5 h4 h5]
    exact t_num_d (d := 5) (by decide) (by decide) (Nat.lt_of_lt_of_le h5 (by decide)) (Or.inr (Nat.le_trans (by decide) h4))
  rcases Nat.lt_or_ge v 1000000 with h6 | h6
  · rw [j_dk6 h5 h6]
    exact t_num_d (d := 6) (by decide) (by decide) (Nat.lt_of_lt_of_le h6 (by decide)) (Or.inr (Nat.le_trans (by decide) h5))
  rcases Nat.lt_or_ge v 10000000 with h7 | h7
  · rw [j_dk7 h6 h7]
    exact t_num_d (d := 7) (by decide) (by decide) (Nat.lt_of_lt_of_le h7 (by decide)) (Or.inr (Nat.le_trans (by decide) h6))
  rcases Nat.lt_or_ge v 100000000 with h8 | h8
  · rw [j_dk8 h7 h8]
    exact t_num_d (d := 8) (by decide) (by decide) (Nat.lt_of_lt_of_le h8 (by decide)) (Or.inr (Nat.le_trans (by decide) h7))
  rcases Nat.lt_or_ge v 1000000000 with h9 | h9
  · rw [j_dk9 h8 h9]
    exact t_num_d (d := 9) (by decide) (by decide) (Nat.lt_of_lt_of_le h9 (by decide)) (Or.inr (Nat.le_trans (by decide) h8))
  rcases Nat.lt_or_ge v 10000000000 with h10 | h10
  · rw [j_dk10 h9 h10]
    exact t_num_d (d := 10) (by decide) (by decide) (Nat.lt_of_lt_of_le h10 (by decide)) (Or.inr (Nat.le_trans (by decide) h9))
  rw [j_dk11 h10 h11]
  exact t_num_d (d := 11) (by decide) (by decide) (Nat.lt_of_lt_of_le h11 (by decide)) (Or.inr (Nat.le_trans (by decide) h10))
theorem t_nm_i {v : Nat} (h : v < 2 ^ 31) : j_dgs (sb_dg v) v = t_nm v := by
  rw [← j_dgl_lo h]
  exact t_nmJ (by omega)
def t_sg (p : sP) (ix : Int32) : List Int32 := (if p_mk p = ix then [124] else []) ++ ((if p_po p = ix then [62] else []) ++ (if p_li p = ix then [60] else []))
def t_vs (g : Nat → Nat) (a : Nat) : Nat → List Int32
  | 0 => []
  | d + 1 => t_vs g a d ++ ((if d = 0 then [] else [32]) ++ t_nm (g (a + d)))
def t_wh (p : sP) (g : Nat → Nat) : Nat → List Int32
  | 0 => []
  | j + 1 => t_wh p g j ++ (t_sg p (nI j) ++ (t_nm (g j) ++ [32]))
def t_w2 (p : sP) (g : Nat → Nat) (cq jx : Nat) : List Int32 := if jx ≤ cq then t_wh p g jx else t_wh p g cq ++ t_sg p (nI cq)
def t_su (g : Nat → Nat) (a : Nat) : Nat → Nat
  | 0 => 0
  | d + 1 => t_su g a d + g (a + d)
abbrev t_gv (u : sS) (i : Nat) : Nat → Nat := fun j => (s_val u (s_pn u i) (nI j)).toNatClampNeg
abbrev t_g9 (u : sS) (p : sP) : Nat → Nat := fun j => (s_vl u (p_ro p) (p_sa p + nI j).toNatClampNeg).toNatClampNeg
def t_whole (u : sS) (i : Nat) : List Int32 := t_wh (s_pn u i) (t_gv u i) (p_cp (s_pn u i)).toNatClampNeg ++ t_sg (s_pn u i) (p_cp (s_pn u i))
def t_total (u : sS) (i : Nat) : List Int32 := t_nm (t_su (t_gv u i) (p_po (s_pn u i)).toNatClampNeg ((p_li (s_pn u i)).toNatClampNeg - (p_po (s_pn u i)).toNatClampNeg))
def t_row (u : sS) : List Int32 := t_vs (fun j => (s_vl u 0 j).toNatClampNeg) 0 16
theorem t_leN {a b : Nat} (ha : a < 100000) (hb : b < 100000) : nI a ≤ nI b ↔ a ≤ b := by
  rw [z_le, nI_T ha, nI_T hb]
  omega
theorem t_vs_0 {g : Nat → Nat} {a j : Nat} (h1 : a ≤ j) (h : j ≤ a) : t_vs g a (j - a) ++ t_nm (g j) = t_vs g a (j + 1 - a) := by
  have e : j = a := by omega
  rw [e, Nat.sub_self, show a + 1 - a = 0 + 1 by omega]
  show [] ++ t_nm (g a) = [] ++ ((if 0 = 0 then [] else [32]) ++ t_nm (g (a + 0)))
  rw [if_pos rfl, List.nil_append, List.nil_append, List.nil_append, Nat.add_zero]
theorem t_vs_1 {g : Nat → Nat} {a j : Nat} (h : a < j) : (t_vs g a (j - a) ++ [32]) ++ t_nm (g j) = t_vs g a (j + 1 - a) := by
  rw [show j + 1 - a = (j - a) + 1 by omega]
  show _ = t_vs g a (j - a) ++ ((if j - a = 0 then [] else [32]) ++ t_nm (g (a + (j - a))))
  rw [if_neg (by omega), show a + (j - a) = j by omega, List.append_assoc]
theorem t_vs_congr {g g' : Nat → Nat} {a : Nat} : ∀ d, (∀ j, a ≤ j → j < a + d → g j = g' j) → t_vs g a d = t_vs g' a d
  | 0, _ => rfl
  | d + 1, h => by
    show t_vs g a d ++ ((if d = 0 then [] else [32]) ++ t_nm (g (a + d))) = t_vs g' a d ++ ((if d = 0 then [] else [32]) ++ t_nm (g' (a + d)))
    rw [t_vs_congr d (fun j h1 h2 => h j h1 (by omega)), h (a + d) (by omega) (by omega)]
theorem t_wh_s {p : sP} {g : Nat → Nat} {j : Nat} : t_wh p g j ++ t_sg p (nI j) ++ t_nm (g j) ++ [32] = t_wh p g (j + 1) := by
  show _ = t_wh p g j ++ (t_sg p (nI j) ++ (t_nm (g j) ++ [32]))
  rw [List.append_assoc, List.append_assoc]
theorem t_wh_congr {p : sP} {g g' : Nat → Nat} : ∀ d, (∀ j, j < d → g j = g' j) → t_wh p g d = t_wh p g' d
  | 0, _ => rfl
  | d + 1, h => by
    show t_wh p g d ++ (t_sg p (nI d) ++ (t_nm (g d) ++ [32])) = t_wh p g' d ++ (t_sg p (nI d) ++ (t_nm (g' d) ++ [32]))
    rw [t_wh_congr d (fun j h1 => h j (by omega)), h d (by omega)]
theorem t_su_s {g : Nat → Nat} {a j : Nat} (h : a ≤ j) : t_su g a (j - a) + g j = t_su g a (j + 1 - a) := by
  rw [show j + 1 - a = (j - a) + 1 by omega]
  show _ = t_su g a (j - a) + g (a + (j - a))
  rw [show a + (j - a) = j by omega]
theorem t_su_congr {g g' : Nat → Nat} {a : Nat} : ∀ d, (∀ j, a ≤ j → j < a + d → g j = g' j) → t_su g a d = t_su g' a d
  | 0, _ => rfl
  | d + 1, h => by
    show t_su g a d + g (a + d) = t_su g' a d + g' (a + d)
    rw [t_su_congr d (fun j h1 h2 => h j h1 (by omega)), h (a + d) (by omega) (by omega)]
theorem t_w2_lo {p : sP} {g : Nat → Nat} {cq jx : Nat} (h : jx ≤ cq) : t_w2 p g cq jx = t_wh p g jx := if_pos h
theorem t_w2_hi {p : sP} {g : Nat → Nat} {cq jx : Nat} (h : cq < jx) : t_w2 p g cq jx = t_wh p g cq ++ t_sg p (nI cq) := if_neg (by omega)
theorem t_whole_eq {u : sS} {i cq : Nat} (hcp : p_cp (s_pn u i) = nI cq) (h16 : cq ≤ 16) : t_wh (s_pn u i) (t_gv u i) cq ++ t_sg (s_pn u i) (p_cp (s_pn u i)) = t_whole u i := by
  have e : (p_cp (s_pn u i)).toNatClampNeg = cq := by rw [hcp]; exact nI_clamp (by omega)
  show _ = t_wh (s_pn u i) (t_gv u i) (p_cp (s_pn u i)).toNatClampNeg ++ _
  rw [e]
theorem t_total_eq {u : sS} {i pq lq S : Nat} (hpo : p_po (s_pn u i) = nI pq) (hli : p_li (s_pn u i) = nI lq) (g1 : pq ≤ lq) (h16 : lq ≤ 16) (hS : S = t_su (t_gv u i) pq (lq - pq)) : t_nm S = t_total u i := by
  have e1 : (p_po (s_pn u i)).toNatClampNeg = pq := by rw [hpo]; exact nI_clamp (by omega)
  have e2 : (p_li (s_pn u i)).toNatClampNeg = lq := by rw [hli]; exact nI_clamp (by omega)
  show _ = t_nm (t_su (t_gv u i) (p_po (s_pn u i)).toNatClampNeg ((p_li (s_pn u i)).toNatClampNeg - (p_po (s_pn u i)).toNatClampNeg))
  rw [e1, e2, hS]
theorem t_row_c {u : sS} : t_vs (t_g9 u ((0, 0, Int32.ofNat 16, 0, Int32.ofNat 16, -1, 0) : sP)) 0 (16 - 0) = t_row u := t_vs_congr 16 fun j h1 h2 => by
  show (s_vl u 0 ((0 : Int32) + nI j).toNatClampNeg).toNatClampNeg = (s_vl u 0 j).toNatClampNeg
  rw [Int32.zero_add, nI_clamp (by omega)]
theorem t_row_r {u : sS} {ft : Nat → Int32} (h0 : 0 < s_nr u) (h16 : s_ln u 0 = 16) (hft : ∀ r, r < s_nr u → ∀ j, j < s_ln u r → ft (s_ba (s_ln u) r + j) = s_vl u r j) : t_vs (fun j => (ft j).toNatClampNeg) 0 (16 - 0) = t_row u := t_vs_congr 16 fun j h1 h2 => by
  have h9 := hft 0 h0 j (by omega)
  rw [show s_ba (s_ln u) 0 + j = j from Nat.zero_add j] at h9
  show (ft j).toNatClampNeg = (s_vl u 0 j).toNatClampNeg
  rw [h9]
/-- the reference's value of a pane's place -/
theorem t_gr {u : sS} {i sq cq j : Nat} {ft : Nat → Int32} (hft : ∀ r, r < s_nr u → ∀ j, j < s_ln u r → ft (s_ba (s_ln u) r + j) = s_vl u r j) (hrw : p_ro (s_pn u i) < s_nr u) (hsa : p_sa (s_pn u i) = nI sq) (hsc : sq + cq ≤ s_ln u (p_ro (s_pn u i))) (hj : j < cq) (hb : sq + cq < 100000) : (ft (s_ba (s_ln u) (p_ro (s_pn u i)) + sq + j)).toNatClampNeg = t_gv u i j := by
  have h9 := hft _ hrw (sq + j) (by omega)
  rw [← Nat.add_assoc] at h9
  show _ = (s_vl u (p_ro (s_pn u i)) (p_sa (s_pn u i) + nI j).toNatClampNeg).toNatClampNeg
  rw [h9, hsa, show nI sq + nI j = nI (sq + j) from j_add _ _, nI_clamp (by omega)]
def t_mix (d : Int64) (x : Int32) : Int64 := d * 31 + x.toInt64
def t_ch (x : Int32) : Int32 := ((x &&& 255).toUInt32 % 65536).toInt32
def t_fl (d : Int64) (ls : List Int32) : Int64 := ls.foldl (fun d x => t_mix d (t_ch x)) d
theorem t_fl_0 (d : Int64) (ls : List Int32) : d = t_fl d (ls.take 0) := by rw [List.take_zero]; rfl
theorem t_fl_s {d : Int64} {ls : List Int32} {j : Nat} {x : Int32} (h : j < ls.length) (hf : x = ls.getD j 0) : t_mix (t_fl d (ls.take j)) (t_ch x) = t_fl d (ls.take (j + 1)) := by
  subst hf
  show _ = List.foldl _ d (ls.take (j + 1))
  rw [List.take_succ, List.foldl_append, List.getD_eq_getElem?_getD, List.getElem?_eq_getElem h]
  rfl
def t_it (g : Nat → Int64 → Int64) (d : Int64) : Nat → Int64
  | 0 => d
  | n + 1 => g n (t_it g d n)
abbrev t_gh (u : sS) : Nat → Int64 → Int64 := fun j d => t_mix d (s_house u (nI j))
abbrev t_go (u : sS) (i : Nat) : Nat → Int64 → Int64 := fun j d => t_mix d (s_of u i (nI j))
def t_pn (u : sS) (i : Nat) (d : Int64) : Int64 := t_fl (t_fl (t_it (t_go u i) d 10) (t_whole u i)) (t_total u i)
def t_nx (j : Nat) : Nat := if 5 ≤ j then 0 else j + 1
theorem t_nx_hi {j : Nat} (h : 5 ≤ j) : t_nx j = 0 := if_pos h
theorem t_nx_lo {j : Nat} (h : j + 1 < 6) : t_nx j = j + 1 := if_neg (by omega)
theorem t_nx_in (j : Nat) (h : j < 6) : t_nx j < 6 := by
  unfold t_nx
  split <;> omega
theorem t_nxE {j : Nat} (h : j < 6) : nI j + 1 - (nI j + 1) / 6 * 6 = nI (t_nx j) := by
  rcases (show j = 0 ∨ j = 1 ∨ j = 2 ∨ j = 3 ∨ j = 4 ∨ j = 5 by omega) with rfl | rfl | rfl | rfl | rfl | rfl <;> decide +kernel
def t_ks (u : sS) (i : Nat) (d : Int64) : Int64 := t_mix (t_mix d (s_kin u i (t_nx i))) (s_sees u i 0 (t_nx i))
def t_digest (u : sS) : Int64 := t_mix (t_fl (t_it (t_ks u) (t_it (t_pn u) (t_it (t_gh u) 8017 9) 6) 6) (t_row u)) 1
theorem t_mix1 (d : Int64) : t_mix d 1 = d * 31 + 1 := by
  unfold t_mix
  rw [show (1 : Int32).toInt64 = 1 by decide]
theorem t_is5 {p : Nat} (h : p < 6) : z_is (nI p) 0 5 = 1 := by
  rcases (show p = 0 ∨ p = 1 ∨ p = 2 ∨ p = 3 ∨ p = 4 ∨ p = 5 by omega) with rfl | rfl | rfl | rfl | rfl | rfl <;> decide
theorem t_is9 {p : Nat} (h : p < 10) : z_is (nI p) 0 9 = 1 := by
  rcases (show p = 0 ∨ p = 1 ∨ p = 2 ∨ p = 3 ∨ p = 4 ∨ p = 5 ∨ p = 6 ∨ p = 7 ∨ p = 8 ∨ p = 9 by omega) with rfl | rfl | rfl | rfl | rfl | rfl | rfl | rfl | rfl | rfl <;> decide
theorem t_is8 {p : Nat} (h : p < 9) : z_is (nI p) 0 8 = 1 := by
  rcases (show p = 0 ∨ p = 1 ∨ p = 2 ∨ p = 3 ∨ p = 4 ∨ p = 5 ∨ p = 6 ∨ p = 7 ∨ p = 8 by omega) with rfl | rfl | rfl | rfl | rfl | rfl | rfl | rfl | rfl <;> decide
theorem t_kh {p : Nat} (h : p < 9) : z_lt (z_is (nI p) 0 8) 1 = 0 := by rw [t_is8 h]; rfl
theorem t_ko {p j : Nat} (h : p < 6) (hj : j < 10) : z_lt (z_is (nI p) 0 5) (z_is (nI j) 0 9) = 0 := by rw [t_is5 h, t_is9 hj]; rfl
theorem t_k2 {p j : Nat} (h : p < 6) (hj : j < 6) : z_lt (t_2 (nI p) (nI j)) 1 = 0 := by
  have e : t_2 (nI p) (nI j) = 1 := by
    unfold t_2
    rw [t_is5 h, t_is5 hj]
    rfl
  rw [e]
  rfl
def t_text (u : sS) (i : Nat) : List Int32 := t_vs (t_gv u i) (p_po (s_pn u i)).toNatClampNeg ((p_li (s_pn u i)).toNatClampNeg - (p_po (s_pn u i)).toNatClampNeg)
theorem t_tx {u : sS} {i pq lq : Nat} (hpo : p_po (s_pn u i) = nI pq) (hli : p_li (s_pn u i) = nI lq) (g1 : pq ≤ lq) (h16 : lq ≤ 16) : t_vs (t_gv u i) pq (lq - pq) = t_text u i := by
  have e1 : (p_po (s_pn u i)).toNatClampNeg = pq := by rw [hpo]; exact nI_clamp (by omega)
  have e2 : (p_li (s_pn u i)).toNatClampNeg = lq := by rw [hli]; exact nI_clamp (by omega)
  show _ = t_vs (t_gv u i) (p_po (s_pn u i)).toNatClampNeg ((p_li (s_pn u i)).toNatClampNeg - (p_po (s_pn u i)).toNatClampNeg)
  rw [e1, e2]
theorem t_tx9 {u : sS} {i pq lq : Nat} (hpo : p_po (s_pn u i) = nI pq) (hli : p_li (s_pn u i) = nI lq) (g1 : pq ≤ lq) (h16 : lq ≤ 16) : t_vs (t_g9 u (s_pn u i)) pq (lq - pq) = t_text u i := by
  have e : t_vs (t_g9 u (s_pn u i)) pq (lq - pq) = t_vs (t_gv u i) pq (lq - pq) := rfl
  exact e.trans (t_tx hpo hli g1 h16)
theorem t_vs_sh {g : Nat → Nat} {b a : Nat} : ∀ d, t_vs g (b + a) d = t_vs (fun j => g (b + j)) a d
  | 0 => rfl
  | d + 1 => by
    show t_vs g (b + a) d ++ ((if d = 0 then [] else [32]) ++ t_nm (g (b + a + d))) = t_vs (fun j => g (b + j)) a d ++ ((if d = 0 then [] else [32]) ++ t_nm (g (b + (a + d))))
    rw [t_vs_sh d, show b + a + d = b + (a + d) by omega]
theorem t_text_r {u : sS} {i sq cq pq lq : Nat} {ft : Nat → Int32} (hft : ∀ r, r < s_nr u → ∀ j, j < s_ln u r → ft (s_ba (s_ln u) r + j) = s_vl u r j) (hrw : p_ro (s_pn u i) < s_nr u) (hsa : p_sa (s_pn u i) = nI sq) (hpo : p_po (s_pn u i) = nI pq) (hli : p_li (s_pn u i) = nI lq) (g1 : pq ≤ lq) (g2 : lq ≤ cq) (h16 : cq ≤ 16) (hsc : sq + cq ≤ s_ln u (p_ro (s_pn u i))) (hb : sq + cq < 100000) : t_vs (fun j => (ft j).toNatClampNeg) (s_ba (s_ln u) (p_ro (s_pn u i)) + sq + pq) (s_ba (s_ln u) (p_ro (s_pn u i)) + sq + lq - (s_ba (s_ln u) (p_ro (s_pn u i)) + sq + pq)) = t_text u i := by
  rw [show s_ba (s_ln u) (p_ro (s_pn u i)) + sq + lq - (s_ba (s_ln u) (p_ro (s_pn u i)) + sq + pq) = lq - pq by omega]
  refine (t_vs_sh (lq - pq)).trans ((t_vs_congr (g' := t_gv u i) (lq - pq) fun j h1 h2 => ?_).trans (t_tx hpo hli g1 (by omega)))
  exact t_gr hft hrw hsa hsc (by omega) hb
