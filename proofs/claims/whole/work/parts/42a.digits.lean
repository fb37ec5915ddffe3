/-! PART 42a: letters: what copies and digits make of a row of bytes -/
def j_Cp (f9 f : Nat → Int32) (d : Nat) : Prop := ∀ k, k < d → f9 k = f k
theorem j_Cp_rf (f : Nat → Int32) (d : Nat) : j_Cp f f d := fun _ _ => rfl
theorem j_Cp_cpy (f : Nat → Int32) (d : Nat) : j_Cp (va_cpy f (fun _ => 0) 0 0 d) f d := fun k hk => by
  show (if 0 ≤ k ∧ k < 0 + d then f (0 + (k - 0)) else (0 : Int32)) = f k
  rw [if_pos ⟨Nat.zero_le _, by omega⟩, Nat.zero_add, Nat.sub_zero]
/-- f9 holds the d digits of v from place c on, and else what f holds -/
def j_Dg (f9 f : Nat → Int32) (c d v : Nat) : Prop := (∀ k, k < c ∨ c + d ≤ k → f9 k = f k) ∧ ∀ k, k < d → f9 (c + k) = nI (48 + v / 10 ^ (d - 1 - k) % 10)
theorem j_nb : ∀ x, x < 10 → vp_nar .byte (nI (48 + x)) = nI (48 + x) := by decide
theorem j_upS (f : Nat → Int32) {c k : Nat} (x : Int32) (h : k = c) : upd f c x k = x := if_pos h
theorem j_upN (f : Nat → Int32) {c k : Nat} (x : Int32) (h : k ≠ c) : upd f c x k = f k := if_neg h
theorem j_Dg_1 {f : Nat → Int32} {c pp w : Nat} (hp : pp = c + 1) (hw : w < 10) : j_Dg (upd f (pp - 1) (vp_nar .byte (nI (48 + w % 10)))) f c 1 w := by
  refine ⟨fun k hk => j_upN _ _ (by omega), fun k hk => ?_⟩
  rw [j_nb (w % 10) (by omega), show 1 - 1 - k = 0 by omega, Nat.pow_zero, Nat.div_one]
  exact j_upS _ _ (by omega)
theorem j_Dg_2 {f : Nat → Int32} {c pp w : Nat} (hp : pp = c + 2) (hw : w < 100) : j_Dg (upd (upd f (pp - 1) (vp_nar .byte (nI (48 + w % 10)))) (pp - 1 - 1) (vp_nar .byte (nI (48 + w / 10)))) f c 2 w := by
  refine ⟨fun k hk => (j_upN _ _ (by omega)).trans (j_upN _ _ (by omega)), fun k hk => ?_⟩
  rw [j_nb (w % 10) (by omega), j_nb (w / 10) (by omega)]
  rcases (show k = 0 ∨ k = 1 by omega) with hk1 | hk1
  · rw [show 2 - 1 - k = 1 by omega, Nat.pow_one, Nat.mod_eq_of_lt (show w / 10 < 10 by omega)]
    exact j_upS _ _ (by omega)
  · rw [show 2 - 1 - k = 0 by omega, Nat.pow_zero, Nat.div_one]
    exact (j_upN _ _ (by omega)).trans (j_upS _ _ (by omega))
theorem j_Dg_st {f9 f : Nat → Int32} {c e pp w : Nat} (hp : pp = c + (e + 2)) (h : j_Dg f9 (upd (upd f (pp - 1) (vp_nar .byte (nI (48 + w % 100 % 10)))) (pp - 1 - 1) (vp_nar .byte (nI (48 + w % 100 / 10)))) c e (w / 100)) : j_Dg f9 f c (e + 2) w := by
  rw [j_nb (w % 100 % 10) (by omega), j_nb (w % 100 / 10) (by omega)] at h
  refine ⟨fun k hk => (h.1 k (by omega)).trans ((j_upN _ _ (by omega)).trans (j_upN _ _ (by omega))), fun k hk => ?_⟩
  by_cases hke : k < e
  · rw [h.2 k hke, show e + 2 - 1 - k = (e - 1 - k) + 2 by omega]
    generalize e - 1 - k = y
    have e1 : (10 : Nat) ^ (y + 2) = 100 * 10 ^ y := by
      rw [Nat.pow_succ, Nat.pow_succ]
      omega
    rw [e1, Nat.div_div_eq_div_mul]
  · rw [h.1 (c + k) (Or.inr (by omega))]
    rcases (show k = e ∨ k = e + 1 by omega) with hk1 | hk1
    · rw [show e + 2 - 1 - k = 1 by omega, Nat.pow_one, show w / 10 % 10 = w % 100 / 10 by omega]
      exact j_upS _ _ (by omega)
    · rw [show e + 2 - 1 - k = 0 by omega, Nat.pow_zero, Nat.div_one, show w % 10 = w % 100 % 10 by omega]
      exact (j_upN _ _ (by omega)).trans (j_upS _ _ (by omega))
/-- a list of d letters -/
def j_tab (d : Nat) (g : Nat → Int32) : List Int32 := (List.range d).map g
theorem j_tab_len (d : Nat) (g : Nat → Int32) : (j_tab d g).length = d := by simp [j_tab]
theorem j_tab_get {d k : Nat} (g : Nat → Int32) (h : k < d) : (j_tab d g).getD k 0 = g k := by
  rw [List.getD_eq_getElem?_getD, j_tab, List.getElem?_map, List.getElem?_range h]
  rfl
theorem j_tab_s (d : Nat) (g : Nat → Int32) : j_tab (d + 1) g = g 0 :: j_tab d (fun k => g (k + 1)) := by
  show (List.range (d + 1)).map g = _
  rw [List.range_succ_eq_map, List.map_cons, List.map_map]
  rfl
def j_dgs (d v : Nat) : List Int32 := j_tab d (fun k => nI (48 + v / 10 ^ (d - 1 - k) % 10))
def t_dgt (v e : Nat) : Int32 := nI (48 + v / 10 ^ e % 10)
/-- what is written of v from the unit 10 ^ e down -/
def t_num (v : Nat) : Nat → List Int32
  | 0 => [t_dgt v 0]
  | e + 1 => (if 10 ^ (e + 1) ≤ v then [t_dgt v (e + 1)] else []) ++ t_num v e
def t_full (v : Nat) : Nat → List Int32
  | 0 => [t_dgt v 0]
  | e + 1 => t_dgt v (e + 1) :: t_full v e
abbrev t_nm (v : Nat) : List Int32 := t_num v 10
theorem t_num_s1 {v e : Nat} (h : 10 ^ (e + 1) ≤ v) : t_num v (e + 1) = t_dgt v (e + 1) :: t_num v e := by
  show (if 10 ^ (e + 1) ≤ v then [t_dgt v (e + 1)] else []) ++ t_num v e = _
  rw [if_pos h]
  rfl
theorem t_num_s0 {v e : Nat} (h : ¬ 10 ^ (e + 1) ≤ v) : t_num v (e + 1) = t_num v e := by
  show (if 10 ^ (e + 1) ≤ v then [t_dgt v (e + 1)] else []) ++ t_num v e = _
  rw [if_neg h]
  rfl
theorem t_num_lo {v : Nat} : ∀ e, e = 0 ∨ 10 ^ e ≤ v → t_num v e = t_full v e
  | 0, _ => rfl
  | e + 1, h => by
    have h1 : 10 ^ (e + 1) ≤ v := h.resolve_left (Nat.succ_ne_zero _)
    have h2 : (10 : Nat) ^ e ≤ 10 ^ (e + 1) := Nat.pow_le_pow_right (by decide) (Nat.le_succ _)
    rw [t_num_s1 h1, t_num_lo e (Or.inr (Nat.le_trans h2 h1))]
    rfl
theorem t_num_hi {v e : Nat} (h : v < 10 ^ (e + 1)) : ∀ k, t_num v (e + k) = t_num v e
  | 0 => rfl
  | k + 1 => by
    have h2 : (10 : Nat) ^ (e + 1) ≤ 10 ^ (e + k + 1) := Nat.pow_le_pow_right (by decide) (by omega)
    show t_num v (e + k + 1) = _
    rw [t_num_s0 (by omega), t_num_hi h k]
theorem t_tab (v : Nat) : ∀ e, j_tab (e + 1) (fun k => nI (48 + v / 10 ^ (e + 1 - 1 - k) % 10)) = t_full v e
  | 0 => rfl
  | e + 1 => by
    rw [j_tab_s]
    show nI (48 + v / 10 ^ (e + 1) % 10) :: _ = t_dgt v (e + 1) :: t_full v e
    rw [← t_tab v e]
    have e1 : (fun k => nI (48 + v / 10 ^ (e + 1 + 1 - 1 - (k + 1)) % 10)) = (fun k => nI (48 + v / 10 ^ (e + 1 - 1 - k) % 10)) := by
      funext k
      rw [show e + 1 + 1 - 1 - (k + 1) = e + 1 - 1 - k by omega]
    show _ :: j_tab (e + 1) (fun k => nI (48 + v / 10 ^ (e + 1 + 1 - 1 - (k + 1)) % 10)) = _
    rw [e1]
    rfl
theorem t_num_d {v d : Nat} (h1 : 1 ≤ d) (h2 : d ≤ 11) (h3 : v < 10 ^ d) (h4 : d = 1 ∨ 10 ^ (d - 1) ≤ v) : j_dgs d v = t_nm v := by
  obtain ⟨e, rfl⟩ : ∃ e, d = e + 1 := ⟨d - 1, by omega⟩
  show j_tab (e + 1) (fun k => nI (48 + v / 10 ^ (e + 1 - 1 - k) % 10)) = t_num v 10
  rw [t_tab, show 10 = e + (10 - e) by omega, t_num_hi h3, t_num_lo e]
  rcases h4 with h | h
  · exact Or.inl (by omega)
  · exact Or.inr h
