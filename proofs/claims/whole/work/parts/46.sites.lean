/-! PART 46: a builder that grows: its cells, what an append keeps, what it costs -/
/-- the room of n bytes, after an append that brings the count to q -/
def j_cap (n q : Nat) : Nat := if q ≤ n then n else 2 * n + 2
theorem j_cap_fit {n q : Nat} (h : q ≤ n) : j_cap n q = n := if_pos h
theorem j_cap_grow {n q : Nat} (h : n < q) : j_cap n q = 2 * n + 2 := if_neg (by omega)
theorem j_cap_ge (n q : Nat) : n ≤ j_cap n q := by unfold j_cap; split <;> omega
theorem j_cap_le {n q : Nat} (hn : n ≤ 600) (hq : q ≤ 280) : j_cap n q ≤ 600 := by unfold j_cap; split <;> omega
theorem j_cap_q {n q : Nat} (h : q ≤ 2 * n + 2) : q ≤ j_cap n q := by unfold j_cap; split <;> omega
theorem j_cap_cap {n c d e : Nat} (hc : c ≤ n) (h : d + e ≤ n + 2) : j_cap (j_cap n (c + d)) (c + d + e) = j_cap n (c + d + e) := by
  unfold j_cap
  split <;> split <;> (try split) <;> omega
/-- a builder and its bytes: c letters, n places -/
def j_B (G : zG) (Mw : zM) (sb vb c n : Nat) : Prop := ∃ (ml : Int32) (f : Nat → Int32), Mw sb = some (cSb vb 0 ml (nI c)) ∧ Mw vb = some (aB G n f) ∧ sb_Fit f ∧ c ≤ n ∧ 16 ≤ n ∧ n ≤ 600
/-- what an append keeps -/
def j_Fr (Mw : zM) (sb vb vb' : Nat) (Mz : zM) : Prop := (vb' = vb ∨ Mw vb' = none) ∧ ∀ a e, Mw a = some e → a ≠ sb → a ≠ vb → Mz a = some e
theorem j_Fr_refl (Mw : zM) (sb vb : Nat) : j_Fr Mw sb vb vb Mw := ⟨Or.inl rfl, fun _ _ h _ _ => h⟩
theorem j_Fr_trans {M0 M1 M2 : zM} {sb v0 v1 v2 : Nat} (h1 : j_Fr M0 sb v0 v1 M1) (h2 : j_Fr M1 sb v1 v2 M2) (hs : M1 sb ≠ none) : j_Fr M0 sb v0 v2 M2 := by
  refine ⟨?_, fun a e ha n1 n2 => h2.2 a e (h1.2 a e ha n1 n2) n1 ?_⟩
  · rcases h2.1 with rfl | h
    · exact h1.1
    · by_cases e0 : v2 = v0
      · exact Or.inl e0
      · right
        cases hm : M0 v2 with
        | none => rfl
        | some e =>
          by_cases e1 : v2 = sb
          · subst e1; exact absurd h hs
          · rw [h1.2 v2 e hm e1 e0] at h; cases h
  · rcases h1.1 with rfl | h
    · exact n2
    · intro q; subst q; rw [h] at ha; cases ha
theorem j_B_ne {G : zG} {Mw : zM} {sb vb c n : Nat} (h : j_B G Mw sb vb c n) : sb ≠ vb := by
  obtain ⟨ml, f, h1, h2, -⟩ := h
  exact z_ne h1 h2 (by intro h; cases h)
theorem j_B_some {G : zG} {Mw : zM} {sb vb c n : Nat} (h : j_B G Mw sb vb c n) : Mw sb ≠ none := by
  obtain ⟨ml, f, h1, -⟩ := h
  rw [h1]; intro q; cases q
theorem j_of1 {G : zG} {Mw : zM} {sb vb v c n : Nat} {ml : Int32} {f : Nat → Int32} (hne : v ≠ sb) (hv : v = vb ∨ Mw v = none) (hf : sb_Fit f) (hc : c ≤ n) (h1 : 16 ≤ n) (h2 : n ≤ 600) : j_B G (z_up (z_up Mw sb (cSb v 0 ml (nI c))) v (aB G n f)) sb v c n ∧ j_Fr Mw sb vb v (z_up (z_up Mw sb (cSb v 0 ml (nI c))) v (aB G n f)) := by
  refine ⟨⟨ml, f, by rw [z_up_n _ _ hne.symm, z_up_s], z_up_s _ _ _, hf, hc, h1, h2⟩, hv, fun a e ha n1 n2 => ?_⟩
  have n3 : a ≠ v := by
    rcases hv with rfl | hv
    · exact n2
    · intro q; subst q; rw [hv] at ha; cases ha
  rw [z_up_n _ _ n3, z_up_n _ _ n1]; exact ha
theorem j_of2 {G : zG} {Mw : zM} {sb vb v c n : Nat} {ml : Int32} {f : Nat → Int32} (hne : v ≠ sb) (hv : v = vb ∨ Mw v = none) (hf : sb_Fit f) (hc : c ≤ n) (h1 : 16 ≤ n) (h2 : n ≤ 600) : j_B G (z_up (z_up Mw v (aB G n f)) sb (cSb v 0 ml (nI c))) sb v c n ∧ j_Fr Mw sb vb v (z_up (z_up Mw v (aB G n f)) sb (cSb v 0 ml (nI c))) := by
  rw [z_up_swap _ hne]
  exact j_of1 hne hv hf hc h1 h2
theorem j_neF {Mw : zM} {v sb : Nat} {e : va_E} (h : Mw sb = some e) (hv : Mw v = none) : v ≠ sb := (z_neN h hv).symm
/-- the letters of a builder: ls, c of them -/
def j_L (Mw : zM) (vb c : Nat) (ls : List Int32) : Prop := ls.length = c ∧ ∃ (G : zG) (n : Nat) (f : Nat → Int32), Mw vb = some (aB G n f) ∧ ∀ k, k < c → f k = ls.getD k 0
theorem j_L_eq {Mw : zM} {vb c : Nat} {l l' : List Int32} (h : j_L Mw vb c l) (e : l = l') : j_L Mw vb c l' := e ▸ h
theorem j_L_c {Mw : zM} {vb c c' : Nat} {l : List Int32} (h : j_L Mw vb c l) (e : c = c') : j_L Mw vb c' l := e ▸ h
theorem j_aBf {Mw : zM} {vb : Nat} {G G' : zG} {n n' : Nat} {f f' : Nat → Int32} (h : Mw vb = some (aB G n f)) (h' : Mw vb = some (aB G' n' f')) : f' = f := by
  have h9 := h'.symm.trans h
  simp at h9
  exact h9.2.2
theorem j_L_f {Mw : zM} {vb c : Nat} {G : zG} {n : Nat} {f : Nat → Int32} {ls : List Int32} (h : Mw vb = some (aB G n f)) (hL : j_L Mw vb c ls) : ls.length = c ∧ ∀ k, k < c → f k = ls.getD k 0 := by
  obtain ⟨hl, G', n', f', h', hf⟩ := hL
  have e := j_aBf h h'
  subst e
  exact ⟨hl, hf⟩
theorem j_L0 {G : zG} {Mw : zM} {sb vb n : Nat} (h : j_B G Mw sb vb 0 n) : j_L Mw vb 0 [] := by
  obtain ⟨ml, f, h1, h2, -⟩ := h
  exact ⟨rfl, G, n, f, h2, fun k hk => absurd hk (Nat.not_lt_zero _)⟩
theorem j_gl {l l' : List Int32} {k : Nat} (h : k < l.length) : (l ++ l').getD k 0 = l.getD k 0 := by
  rw [List.getD_eq_getElem?_getD, List.getD_eq_getElem?_getD, List.getElem?_append_left h]
theorem j_gr {l l' : List Int32} {k : Nat} (h : l.length ≤ k) : (l ++ l').getD k 0 = l'.getD (k - l.length) 0 := by
  rw [List.getD_eq_getElem?_getD, List.getD_eq_getElem?_getD, List.getElem?_append_right h]
theorem j_L_app {Mw Mz : zM} {vb v c w : Nat} {G G' : zG} {n n' : Nat} {f f9 : Nat → Int32} {wl : List Int32} (h2 : Mw vb = some (aB G n f)) (hz : Mz v = some (aB G' n' f9)) (hw : wl.length = w) (h1 : ∀ k, k < c → f9 k = f k) (h3 : ∀ k, k < w → f9 (c + k) = wl.getD k 0) : ∀ ls, j_L Mw vb c ls → j_L Mz v (c + w) (ls ++ wl) := by
  intro ls hL
  obtain ⟨hl, hf⟩ := j_L_f h2 hL
  refine ⟨by rw [List.length_append, hl, hw], G', n', f9, hz, fun k hk => ?_⟩
  by_cases hc : k < c
  · rw [h1 k hc, hf k hc, j_gl (by omega)]
  · rw [j_gr (by omega), hl, ← h3 (k - c) (by omega), show c + (k - c) = k by omega]
theorem j_C1 {f : Nat → Int32} {c : Nat} {x y : Int32} (hx : y = x) : ∀ k, k < 1 → upd f c y (c + k) = [x].getD k 0 := by
  intro k hk
  have e : k = 0 := by omega
  rw [e]
  exact (if_pos rfl).trans hx
theorem j_cpL {f g : Nat → Int32} {c m k : Nat} (hk : k < c) : va_cpy f g 0 c m k = g k := if_neg (by omega)
theorem j_cpR {f g : Nat → Int32} {c m k : Nat} (hk : k < m) : va_cpy f g 0 c m (c + k) = f k := by
  show (if c ≤ c + k ∧ c + k < c + m then f (0 + (c + k - c)) else g (c + k)) = f k
  rw [if_pos ⟨by omega, by omega⟩, show 0 + (c + k - c) = k by omega]
def z_kll (i : Nat) : List Int32 := ([[], [32], [124], [62], [60]] : List (List Int32)).getD i []
theorem z_kll_len : ∀ i, i < 5 → (z_kll i).length = z_kln i := by decide
theorem j_and3 {a b c : Prop} (h : a ∧ b) (h2 : c) : a ∧ b ∧ c := ⟨h.1, h.2, h2⟩
section AP
variable {l : Launch} {G : zG} {Mw : zM} {sb vb c n : Nat}
abbrev j_P (G : zG) (Mw : zM) (sb vb c w n : Nat) (wl : List Int32) : Nat → zM → Prop := fun r Mz => r = sb ∧ ∃ vb', j_B G Mz sb vb' (c + w) n ∧ j_Fr Mw sb vb vb' Mz ∧ ∀ ls, j_L Mw vb c ls → j_L Mz vb' (c + w) (ls ++ wl)
theorem j_C_fit (hB : j_B G Mw sb vb c n) {ch x : Int32} (hc : ch ≤ 255) (hx : vp_nar .byte ch.toInt8.toInt32 = x) (h0 : c + 1 ≤ n) : z_Mr l G qJ4_append_cf468 (z_rm 3 0 0) [.ref sb, .int ch] Mw (j_P G Mw sb vb c 1 n [x]) := by
  have hne := j_B_ne hB
  obtain ⟨ml, f, h1, h2, hf, g1, g2, g3⟩ := hB
  refine z_Mr_mono (c_app_fit l G h1 h2 (by omega) (by omega) hc) ?_
  rintro r Mz ⟨hr9, rfl⟩
  exact ⟨hr9, vb, j_and3 (j_of1 hne.symm (Or.inl rfl) (j_fitU hf _ _) h0 g2 g3) (j_L_app h2 (z_up_s _ _ _) rfl (fun k hk => j_upN _ _ (by omega)) (j_C1 hx))⟩
theorem j_C_grow (hB : j_B G Mw sb vb c n) {ch x : Int32} (hc : ch ≤ 255) (hx : vp_nar .byte ch.toInt8.toInt32 = x) (hq : c + 1 ≤ 280) (h0 : n < c + 1) : z_Mr l G qJ4_append_cf468 (z_rm 6 1 (2 * n + 2)) [.ref sb, .int ch] Mw (j_P G Mw sb vb c 1 (2 * n + 2) [x]) := by
  obtain ⟨ml, f, h1, h2, hf, g1, g2, g3⟩ := hB
  refine z_Mr_mono (c_app_grow l G h1 h2 (by omega) (by omega) hc hf) ?_
  rintro r Mz ⟨v, hv, hr9, rfl⟩
  exact ⟨hr9, v, j_and3 (j_of1 (j_neF h1 hv) (Or.inr hv) (j_fitU (j_fitG hf _) _ _) (by omega) (by omega) (by omega)) (j_L_app h2 (z_up_s _ _ _) rfl (fun k hk => (j_upN _ _ (by omega)).trans (j_Cp_cpy f n k (by omega))) (j_C1 hx))⟩
theorem j_S_fit (hB : j_B G Mw sb vb c n) {i : Nat} {wl : List Int32} (hi : i < 5) (hwl : z_kll i = wl) (h0 : c + z_kln i ≤ n) : z_Mr l G qJ4_append_15ec4 (z_rm 5 0 0) [.ref sb, .ref (zK G i)] Mw (j_P G Mw sb vb c (z_kln i) n wl) := by
  subst hwl
  have hne := j_B_ne hB
  obtain ⟨ml, f, h1, h2, hf, g1, g2, g3⟩ := hB
  refine z_Mr_mono (c_apS_fit l G h1 h2 hi h0 (by omega)) ?_
  rintro r Mz ⟨hr9, rfl⟩
  exact ⟨hr9, vb, j_and3 (j_of2 hne.symm (Or.inl rfl) (sb_fitC (z_kfit i hi) hf) h0 g2 g3) (j_L_app h2 ((z_up_n _ _ hne.symm).trans (z_up_s _ _ _)) (z_kll_len i hi) (fun k hk => j_cpL hk) (fun k hk => j_cpR hk))⟩
theorem j_S_grow (hB : j_B G Mw sb vb c n) {i : Nat} {wl : List Int32} (hi : i < 5) (hwl : z_kll i = wl) (hq : c + z_kln i ≤ 280) (h0 : n < c + z_kln i) : z_Mr l G qJ4_append_15ec4 (z_rm 6 1 (2 * n + 2)) [.ref sb, .ref (zK G i)] Mw (j_P G Mw sb vb c (z_kln i) (2 * n + 2) wl) := by
  subst hwl
  have hk := z_kln_in i hi
  obtain ⟨ml, f, h1, h2, hf, g1, g2, g3⟩ := hB
  refine z_Mr_mono (c_apS_grow l G h1 h2 hi h0 g1 (by omega) hf) ?_
  rintro r Mz ⟨v, hv, hr9, rfl⟩
  exact ⟨hr9, v, j_and3 (j_of2 (j_neF h1 hv) (Or.inr hv) (sb_fitC (z_kfit i hi) (j_fitG hf _)) (by omega) (by omega) (by omega)) (j_L_app h2 ((z_up_n _ _ (j_neF h1 hv)).trans (z_up_s _ _ _)) (z_kll_len i hi) (fun k hk => (j_cpL hk).trans (j_Cp_cpy f n k (by omega))) (fun k hk => j_cpR hk))⟩
theorem j_dgs_len (d v : Nat) : (j_dgs d v).length = d := j_tab_len _ _
theorem j_dgs_get {f9 f : Nat → Int32} {c d v : Nat} (h : j_Dg f9 f c d v) : ∀ k, k < d → f9 (c + k) = (j_dgs d v).getD k 0 := fun k hk => (h.2 k hk).trans (j_tab_get (fun k => nI (48 + v / 10 ^ (d - 1 - k) % 10)) hk).symm
theorem j_I_fit (hB : j_B G Mw sb vb c n) {v : Nat} {wl : List Int32} (hv : v < 2 ^ 31) (hwl : j_dgs (sb_dg v) v = wl) (h0 : c + sb_dg v ≤ n) : z_Mr l G qJ4_append_bf812 (z_rm 3 0 0) [.ref sb, .int (nI v)] Mw (j_P G Mw sb vb c (sb_dg v) n wl) := by
  subst hwl
  have hne := j_B_ne hB
  obtain ⟨ml, f, h1, h2, hf, g1, g2, g3⟩ := hB
  refine z_Mr_mono (c_apI_fit l G h1 h2 hv h0 (by omega) hf) ?_
  rintro r Mz ⟨f9, r9, hf9, hdg, hr9, rfl⟩
  exact ⟨hr9, vb, j_and3 (j_of2 hne.symm (Or.inl rfl) hf9 h0 g2 g3) (j_L_app h2 ((z_up_n _ _ hne.symm).trans (z_up_s _ _ _)) (j_dgs_len _ _) (fun k hk => hdg.1 k (Or.inl hk)) (j_dgs_get hdg))⟩
theorem j_I_grow (hB : j_B G Mw sb vb c n) {v : Nat} {wl : List Int32} (hv : v < 2 ^ 31) (hwl : j_dgs (sb_dg v) v = wl) (hq : c + sb_dg v ≤ 280) (h0 : n < c + sb_dg v) : z_Mr l G qJ4_append_bf812 (z_rm 6 1 (2 * n + 2)) [.ref sb, .int (nI v)] Mw (j_P G Mw sb vb c (sb_dg v) (2 * n + 2) wl) := by
  subst hwl
  have hk := sb_dg_in v
  obtain ⟨ml, f, h1, h2, hf, g1, g2, g3⟩ := hB
  refine z_Mr_mono (c_apI_grow l G h1 h2 hv h0 g1 (by omega) g2 hf) ?_
  rintro r Mz ⟨f9, r9, a, ha, hf9, hdg, hr9, rfl⟩
  exact ⟨hr9, a, j_and3 (j_of2 (j_neF h1 ha) (Or.inr ha) hf9 (by omega) (by omega) (by omega)) (j_L_app h2 ((z_up_n _ _ (j_neF h1 ha)).trans (z_up_s _ _ _)) (j_dgs_len _ _) (fun k hk => (hdg.1 k (Or.inl hk)).trans (j_Cp_cpy f n k (by omega))) (j_dgs_get hdg))⟩
end AP
/-- a place where something is appended: k and n tell what was made since the builder had n0 places -/
theorem j_site {X : zX} {cc : ByteArray} {own : String} {nL : Nat} {rm : Room} {Mw : zM} {q : zY} {index N sb vb c n w F k0 s0 n0 pc : Nat} {As rest st : List Value} {lv : List (Nat × Value)} (C : z_C X cc own nL rm) {ls wl : List Int32} (hB : j_B (z_G X) Mw sb vb c n) (hLt : j_L Mw vb c ls) (hcls : RJ4 = q.1.cls)
    (cs : ∀ {rmc : Room}, rmc.frames + 1 ≤ rm.frames ∧ 8 + (q.2.2.1 + 11) + rmc.locals ≤ rm.locals → CallW (z_R X) (z_s X) (z_a X) own q.1.cls index q.1 q.2.1 q.2.2.1 q.2.2.2 (z_ws q) rmc rmc.cells rmc.slots N)
    (hR : 7 ≤ rm.frames ∧ 420 ≤ rm.locals) (hL : q.2.2.1 ≤ 3) (hF : F ≤ 6)
    (hfit : c + w ≤ n → z_Mr (z_l X) (z_G X) q (z_rm F 0 0) (.ref sb :: As) Mw (j_P (z_G X) Mw sb vb c w n wl))
    (hgrow : n < c + w → z_Mr (z_l X) (z_G X) q (z_rm 6 1 (2 * n + 2)) (.ref sb :: As) Mw (j_P (z_G X) Mw sb vb c w (2 * n + 2) wl))
    (hN : As.length = N) (hst : st = As.reverse ++ .ref sb :: rest) (hcat : (rest.map fun v => v.category).sum ≤ 8) (hn0 : n0 ≤ n) (hk : k0 + (j_cap n (c + w) - n0) / 16 ≤ rm.cells) (hn : s0 + 2 * (j_cap n (c + w) - n0) ≤ rm.slots) (d : decode cc pc = .ok (.invokevirtual index, 3))
    (kk : ∀ vb' Mz, j_B (z_G X) Mz sb vb' (c + w) (j_cap n (c + w)) → j_Fr Mw sb vb vb' Mz → j_L Mz vb' (c + w) (ls ++ wl) → z_W X Mz (k0 + (j_cap n (c + w) - n0) / 16) (s0 + 2 * (j_cap n (c + w) - n0)) (pc + 3) lv (.ref sb :: rest)) : z_W X Mw (k0 + (n - n0) / 16) (s0 + 2 * (n - n0)) pc lv st := by
  have hsb : ∃ ml, Mw sb = some (cSb vb 0 ml (nI c)) := by obtain ⟨ml, f, h1, -⟩ := hB; exact ⟨ml, h1⟩
  have hn9 : 16 ≤ n := by obtain ⟨ml, f, -, -, -, -, h, -⟩ := hB; exact h
  obtain ⟨ml, hsb⟩ := hsb
  by_cases h : c + w ≤ n
  · rw [j_cap_fit h] at hk hn kk
    refine z_callVr C (hfit h) (cs ⟨by show F + 1 ≤ _; omega, by show 8 + (q.2.2.1 + 11) + 64 * F ≤ _; omega⟩) hsb rfl hcls hN hst hcat (k' := k0 + (n - n0) / 16) (n' := s0 + 2 * (n - n0)) rfl rfl hk hn d ?_
    rintro r Mz ⟨hr9, vb', hB', hF', hL'⟩
    rw [hr9]
    exact kk vb' Mz hB' hF' (hL' _ hLt)
  · have h : n < c + w := by omega
    rw [j_cap_grow h] at hk hn kk
    refine z_callVr C (hgrow h) (cs ⟨by show 6 + 1 ≤ _; omega, by show 8 + (q.2.2.1 + 11) + 64 * 6 ≤ _; omega⟩) hsb rfl hcls hN hst hcat (k' := k0 + (n - n0) / 16 + 1) (n' := s0 + 2 * (n - n0) + (2 * n + 2)) rfl rfl (by omega) (by omega) d ?_
    rintro r Mz ⟨hr9, vb', hB', hF', hL'⟩
    rw [hr9]
    exact z_widen (by omega) (by omega) (kk vb' Mz hB' hF' (hL' _ hLt))
