/-! PART 33: every call leaves a state in order -/
theorem s_ok_ak {t : Nat} {u : sS} (h : s_ok t u) (a k : Int32) : s_ok t (s_ak u a k) := h
theorem s_ok_td {t : Nat} {u : sS} (h : s_ok t u) (f : Nat → Int32) : s_ok t (s_tdu u f) := h
theorem s_ok_up {t : Nat} {u : sS} (h : s_ok t u) (i : Nat) {p : sP} (hp : s_pok (s_nr u) (s_ln u) p) : s_ok t (s_up u i p) := by
  obtain ⟨h1, h2, h3, h4, h5, h6⟩ := h
  refine ⟨h1, h2, h3, h4, fun j hj => ?_, h6⟩
  by_cases hji : j = i
  · subst hji; rw [s_up_s]; exact hp
  · rw [s_up_n _ _ hji]; exact h5 j hj
theorem s_ok_wr {t : Nat} {u : sS} (h : s_ok t u) (r j : Nat) {v : Int32} (hv : 0 ≤ v.toInt) : s_ok t (s_wr u r j v) := by
  obtain ⟨h1, h2, h3, h4, h5, h6⟩ := h
  refine ⟨h1, h2, h3, h4, h5, fun q k => ?_⟩
  by_cases hq : q = r
  · subst hq
    rw [s_wr_s]
    by_cases hk : k = j
    · subst hk; rw [show upd (s_vl u q) k v k = v from if_pos rfl]; exact hv
    · rw [show upd (s_vl u q) j v k = s_vl u q k from if_neg hk]; exact h6 q k
  · rw [s_wr_n _ _ _ hq]; exact h6 q k
theorem s_ok_mono {t t' : Nat} {u : sS} (h : s_ok t u) (ht : t ≤ t') : s_ok t' u := ⟨h.1, by have := h.2.1; omega, h.2.2⟩
theorem s_ok_new {t n : Nat} {u : sS} (h : s_ok t u) (hn : n ≤ 12) : s_ok (t + 1) (s_new u n) := by
  obtain ⟨h1, h2, h3, h4, h5, h6⟩ := h
  refine ⟨by show 3 ≤ s_nr u + 1; omega, by show s_nr u + 1 ≤ _; omega, ?_, fun r hr => ?_, fun i hi => ?_, fun r j => ?_⟩
  · show (if 0 = s_nr u then n else s_ln u 0) = 16
    rw [if_neg (by omega)]; exact h3
  · show (if r = s_nr u then n else s_ln u r) ≤ 12
    split
    · exact hn
    · exact h4 r hr
  · obtain ⟨a, b, c⟩ := h5 i hi
    refine ⟨by show p_ro (s_pn u i) < s_nr u + 1; omega, ?_, c⟩
    show z_ow _ _ _ _ (if p_ro (s_pn u i) = s_nr u then n else s_ln u (p_ro (s_pn u i)))
    rw [if_neg (by omega)]; exact b
  · show 0 ≤ ((if r = s_nr u then (fun _ => 0) else s_vl u r) j).toInt
    split
    · exact Int.le_refl _
    · exact h6 r j
section POK
variable {nr : Nat} {ln : Nat → Nat} {p : sP} {x : Int32}
theorem z_isT {a b : Int32} (h : ¬ z_is x a b = 0) : a.toInt ≤ x.toInt ∧ x.toInt ≤ b.toInt := by
  obtain ⟨h1, h2⟩ := z_is1 h
  exact ⟨z_le.mp h1, z_le.mp h2⟩
theorem pok_mv (h : s_pok nr ln p) (h0 : 0 ≤ x.toInt) (h1 : x.toInt ≤ (p_li p).toInt) : s_pok nr ln (p_mv p x) := by
  obtain ⟨a, ⟨b1, b2, b3, b4, b5, b6, b7⟩, ⟨c1, c2⟩, d⟩ := h
  refine ⟨a, ⟨b1, h0, h1, b4, b5, b6, b7⟩, ?_, d⟩
  show -1 ≤ (if p_mk p ≤ x then p_mk p else -1).toInt ∧ (if p_mk p ≤ x then p_mk p else -1).toInt ≤ x.toInt
  split
  · rename_i q; exact ⟨c1, z_le.mp q⟩
  · rw [z_tm1]; omega
theorem pok_en (h : s_pok nr ln p) (h0 : 0 ≤ x.toInt) (h1 : x.toInt ≤ (p_cp p).toInt) : s_pok nr ln (p_en p x) := by
  obtain ⟨a, ⟨b1, b2, b3, b4, b5, b6, b7⟩, ⟨c1, c2⟩, d⟩ := h
  have e : (if p_po p ≤ x then p_po p else x).toInt ≤ x.toInt ∧ 0 ≤ (if p_po p ≤ x then p_po p else x).toInt := by
    split
    · rename_i q; exact ⟨z_le.mp q, b2⟩
    · exact ⟨Int.le_refl _, h0⟩
  refine ⟨a, ⟨b1, e.2, e.1, h1, b5, b6, b7⟩, ?_, d⟩
  show -1 ≤ (if p_mk p ≤ x then p_mk p else -1).toInt ∧ (if p_mk p ≤ x then p_mk p else -1).toInt ≤ (if p_po p ≤ x then p_po p else x).toInt
  have e2 := e.2
  split
  · rename_i q
    refine ⟨c1, ?_⟩
    split
    · exact c2
    · exact z_le.mp q
  · rw [z_tm1]; omega
theorem pok_bg (h : s_pok nr ln p) (h0 : 0 ≤ x.toInt) (h1 : x.toInt ≤ (p_cp p).toInt) : s_pok nr ln (p_bg p x) := by
  obtain ⟨a, ⟨b1, b2, b3, b4, b5, b6, b7⟩, ⟨c1, c2⟩, d⟩ := h
  exact ⟨a, ⟨b1, by show 0 ≤ (0 : Int32).toInt; decide, by show (0 : Int32).toInt ≤ _; rw [z_t0]; exact h0, h1, b5, b6, b7⟩, ⟨by show -1 ≤ (-1 : Int32).toInt; decide, by show (-1 : Int32).toInt ≤ (0 : Int32).toInt; decide⟩, d⟩
theorem pok_po (h : s_pok nr ln p) (h0 : 0 ≤ x.toInt) (h1 : x.toInt ≤ (p_li p).toInt) (h2 : (p_mk p).toInt ≤ x.toInt) : s_pok nr ln (p_po' p x) := by
  obtain ⟨a, ⟨b1, b2, b3, b4, b5, b6, b7⟩, ⟨c1, c2⟩, d⟩ := h
  exact ⟨a, ⟨b1, h0, h1, b4, b5, b6, b7⟩, ⟨c1, h2⟩, d⟩
theorem pok_nx (h : s_pok nr ln p) (h1 : ¬ p_li p - p_po p = 0) : s_pok nr ln (p_po' p (p_po p + 1)) := by
  obtain ⟨a, ⟨b1, b2, b3, b4, b5, b6, b7⟩, ⟨c1, c2⟩, d⟩ := id h
  have e := z_owB (id h).2.1
  have e1 : (p_po p + 1).toInt = (p_po p).toInt + 1 := by rw [fb_addI (by rw [z_t1]; omega) (by rw [z_t1]; omega), z_t1]
  rw [z_eqI, z_t0, e] at h1
  exact pok_po h (by omega) (by omega) (by omega)
theorem pok_mkd (h : s_pok nr ln p) : s_pok nr ln (p_mkd p) := by
  obtain ⟨a, b, ⟨c1, c2⟩, d⟩ := h
  exact ⟨a, b, ⟨by show -1 ≤ (p_po p).toInt; have := b.2.1; omega, Int.le_refl _⟩, d⟩
theorem pok_rdr (h : s_pok nr ln p) : s_pok nr ln (p_rdr p) := ⟨h.1, h.2.1, h.2.2.1, Or.inr rfl⟩
theorem pok_pt (h : s_pok nr ln p) {ix mn : Int32} (h0 : 0 ≤ ix.toInt) (h1 : 0 ≤ mn.toInt) (h2 : ix.toInt + mn.toInt ≤ (p_li p).toInt) : s_pok nr ln (p_pt p ix mn) := by
  obtain ⟨a, ⟨b1, b2, b3, b4, b5, b6, b7⟩, ⟨c1, c2⟩, d⟩ := h
  have e1 : (p_sa p + ix).toInt = (p_sa p).toInt + ix.toInt := fb_addI (by omega) (by omega)
  exact ⟨a, ⟨by show 0 ≤ (p_sa p + ix).toInt; omega, by show 0 ≤ (0 : Int32).toInt; decide, by show (0 : Int32).toInt ≤ _; rw [z_t0]; exact h1, Int.le_refl _, by show mn.toInt ≤ 16; omega, by show (p_sa p + ix).toInt + mn.toInt ≤ (ln (p_ro p) : Int); omega, b7⟩, ⟨by show -1 ≤ (-1 : Int32).toInt; decide, by show (-1 : Int32).toInt ≤ (0 : Int32).toInt; decide⟩, d⟩
end POK
section SOK
variable {t : Nat} {u : sS} {i j : Nat} {x : Int32}
theorem s_pk (h : s_ok t u) (hi : i < 6) : s_pok (s_nr u) (s_ln u) (s_pn u i) := h.2.2.2.2.1 i hi
theorem s_ok_go (h : s_ok t u) (hi : i < 6) : s_ok t (s_go u i x).2 := by
  unfold s_go
  split
  · exact s_ok_td h _
  · rename_i q
    have := z_isT q
    rw [z_t0] at this
    exact s_ok_ak (s_ok_up h i (pok_mv (s_pk h hi) this.1 this.2)) _ _
theorem s_ok_move (h : s_ok t u) (hi : i < 6) : s_ok t (s_move u i x).2 := by
  unfold s_move
  split
  · exact s_ok_td h _
  · rename_i q
    have := z_isT q
    rw [z_t0] at this
    exact s_ok_ak (s_ok_up h i (pok_mv (s_pk h hi) this.1 this.2)) _ _
theorem s_ok_end (h : s_ok t u) (hi : i < 6) : s_ok t (s_end u i x).2 := by
  unfold s_end
  split
  · exact s_ok_td h _
  · rename_i q
    have := z_isT q
    rw [z_t0] at this
    exact s_ok_ak (s_ok_up h i (pok_en (s_pk h hi) this.1 this.2)) _ _
theorem s_ok_stretch (h : s_ok t u) (hi : i < 6) : s_ok t (s_stretch u i x).2 := by
  unfold s_stretch
  split
  · exact s_ok_td h _
  · rename_i q
    have := z_isT q
    rw [z_t0] at this
    exact s_ok_ak (s_ok_up h i (pok_en (s_pk h hi) this.1 this.2)) _ _
theorem s_ok_mark (h : s_ok t u) (hi : i < 6) : s_ok t (s_mark u i).2 := s_ok_ak (s_ok_up h i (pok_mkd (s_pk h hi))) _ _
theorem s_ok_back (h : s_ok t u) (hi : i < 6) : s_ok t (s_back u i).2 := by
  unfold s_back
  split
  · exact s_ok_td h _
  · rename_i q
    obtain ⟨a, ⟨b1, b2, b3, b4, b5, b6, b7⟩, ⟨c1, c2⟩, d⟩ := s_pk h hi
    have : (p_mk (s_pn u i)).toInt ≠ -1 := fun e => q (by rw [z_eqI, z_tm1]; exact e)
    exact s_ok_ak (s_ok_up h i (pok_po (s_pk h hi) (by omega) (by omega) (Int.le_refl _))) _ _
theorem s_ok_clear (h : s_ok t u) (hi : i < 6) : s_ok t (s_clear u i).2 := s_ok_ak (s_ok_up h i (pok_bg (s_pk h hi) (by have := s_lo h hi; omega) (Int.le_refl _))) _ _
theorem s_ok_flip (h : s_ok t u) (hi : i < 6) : s_ok t (s_flip u i).2 := s_ok_ak (s_ok_up h i (pok_bg (s_pk h hi) (s_pos0 h hi).1 (by have := s_pos0 h hi; have := (s_ow h hi).2.2.2.1; omega))) _ _
theorem s_ok_rewind (h : s_ok t u) (hi : i < 6) : s_ok t (s_rewind u i).2 := s_ok_ak (s_ok_up h i (pok_bg (s_pk h hi) (s_lo h hi).1 (s_ow h hi).2.2.2.1)) _ _
theorem s_ok_put1 {v : Int32} (h : s_ok t u) (hi : i < 6) (hv : 0 ≤ v.toInt) : s_ok t (s_put1 u i v).2 := by
  unfold s_put1
  split
  · exact s_ok_td h _
  · split
    · exact s_ok_td h _
    · rename_i q
      exact s_ok_up (s_ok_wr h _ _ hv) i (pok_nx (s_pk (u := u) h hi) q)
theorem s_ok_put {v : Int32} (h : s_ok t u) (hi : i < 6) (hv : 0 ≤ v.toInt) : s_ok t (s_put u i v).2 := by
  unfold s_put
  split
  · exact s_ok_ak (s_ok_put1 h hi hv) _ _
  · exact s_ok_put1 h hi hv
theorem s_ok_putAt {v : Int32} (h : s_ok t u) (hv : 0 ≤ v.toInt) : s_ok t (s_putAt u i x v).2 := by
  unfold s_putAt
  split
  · exact s_ok_td h _
  · split
    · exact s_ok_td h _
    · exact s_ok_ak (s_ok_wr h _ _ hv) _ _
theorem s_ok_reach {v : Int32} (h : s_ok t u) (hv : 0 ≤ v.toInt) : s_ok t (s_reach u i x v).2 := by
  unfold s_reach
  split
  · exact s_ok_td h _
  · split
    · exact s_ok_td h _
    · exact s_ok_ak (s_ok_wr h _ _ hv) _ _
theorem s_v0 (h : s_ok t u) (r k : Nat) : 0 ≤ (s_vl u r k).toInt := h.2.2.2.2.2 r k
theorem s_ok_bring {y : Int32} (h : s_ok t u) : s_ok t (s_bring u i j x y).2 := by
  unfold s_bring
  split
  · exact s_ok_td h _
  · split
    · exact s_ok_td h _
    · split
      · exact s_ok_td h _
      · exact s_ok_ak (s_ok_wr h _ _ (s_v0 h _ _)) _ _
theorem s_ok_lay {v : Int32} (h : s_ok t u) (hv : 0 ≤ v.toInt) : s_ok t (s_lay u x v).2 := s_ok_ak (s_ok_wr h _ _ hv) _ _
theorem s_ok_get (h : s_ok t u) (hi : i < 6) : s_ok t (s_get u i).2 := by
  unfold s_get
  split
  · exact s_ok_td h _
  · rename_i q
    exact s_ok_ak (s_ok_up h i (pok_nx (s_pk h hi) q)) _ _
theorem s_ok_pop (h : s_ok t u) (hi : i < 6) : s_ok t (s_pop u i).2 := by
  unfold s_pop
  split
  · exact s_ok_td h _
  · rename_i q
    have h1 := s_pos0 h hi
    have h2 : (p_po (s_pn u i)).toInt ≠ 0 := fun e => q (by rw [z_eqI, z_t0]; exact e)
    have h3 := s_lo h hi
    have e : (p_po (s_pn u i) - 1).toInt = (p_po (s_pn u i)).toInt - 1 := by rw [fb_subI (by rw [z_t1]; omega) (by rw [z_t1]; omega), z_t1]
    exact s_ok_ak (s_ok_up h i (pok_mv (s_pk h hi) (by omega) (by omega))) _ _
theorem s_ok_drain {mn : Int32} (h : s_ok t u) (hi : i < 6) (hm : 0 ≤ mn.toInt) : s_ok t (s_drain u i mn).2 := by
  have h1 := s_pos0 h hi
  have h2 := s_lo h hi
  have hk := (s_pk h hi).2.2.1
  unfold s_drain
  split
  · rename_i q
    rw [z_le, h1.2.2] at q
    have e : (p_po (s_pn u i) + mn).toInt = (p_po (s_pn u i)).toInt + mn.toInt := fb_addI (by omega) (by omega)
    exact s_ok_ak (s_ok_up h i (pok_po (s_pk h hi) (by omega) (by omega) (by omega))) _ _
  · have e : (p_po (s_pn u i) + (p_li (s_pn u i) - p_po (s_pn u i))).toInt = (p_li (s_pn u i)).toInt := by rw [fb_addI (by omega) (by omega)]; omega
    exact s_ok_ak (s_ok_td (s_ok_up h i (pok_po (s_pk h hi) (by omega) (by omega) (by omega))) _) _ _
theorem s_ok_wrap {a b : Int32} (h : s_ok t u) (h1 : ¬ z_is a 0 16 = 0) (h2 : ¬ z_is b 0 (16 - a) = 0) : s_ok t (s_wrap u i a b).2 := by
  have h3 := z_isT h1
  have h4 := z_isT h2
  have e16 : (16 : Int32).toInt = 16 := by decide
  rw [z_t0, e16] at h3
  rw [z_t0, fb_subI (by rw [e16]; omega) (by rw [e16]; omega), e16] at h4
  have e : (a + b).toInt = a.toInt + b.toInt := fb_addI (by omega) (by omega)
  have hl := h.2.2.1
  refine s_ok_ak (s_ok_up h i ⟨by show 0 < s_nr u; have := h.1; omega, ⟨by show 0 ≤ (0 : Int32).toInt; decide, h3.1, by show a.toInt ≤ (a + b).toInt; omega, by show (a + b).toInt ≤ (16 : Int32).toInt; omega, by show (16 : Int32).toInt ≤ 16; omega, ?_, ?_⟩, ⟨by show -1 ≤ (-1 : Int32).toInt; decide, by show (-1 : Int32).toInt ≤ a.toInt; rw [z_tm1]; omega⟩, Or.inl rfl⟩) _ _
  · show (0 : Int32).toInt + (16 : Int32).toInt ≤ (s_ln u 0 : Int)
    rw [hl, e16, z_t0]; decide
  · show s_ln u 0 < 100000
    omega
theorem s_ok_fresh {a : Int32} (h : s_ok t u) (h1 : ¬ z_is a 0 12 = 0) : s_ok (t + 1) (s_fresh u i a).2 := by
  have h3 := z_isT h1
  rw [z_t0, show (12 : Int32).toInt = 12 from by decide] at h3
  have h4 := z_cl (x := a) (by rw [z_le, z_t0]; exact h3.1)
  refine s_ok_ak (s_ok_up (s_ok_new h (n := a.toNatClampNeg) (by omega)) i ⟨by show s_nr u < s_nr u + 1; omega, ⟨by show 0 ≤ (0 : Int32).toInt; decide, by show 0 ≤ (0 : Int32).toInt; decide, by show (0 : Int32).toInt ≤ a.toInt; rw [z_t0]; exact h3.1, Int.le_refl _, by show a.toInt ≤ 16; omega, ?_, ?_⟩, ⟨by show -1 ≤ (-1 : Int32).toInt; decide, by show (-1 : Int32).toInt ≤ (0 : Int32).toInt; decide⟩, Or.inl rfl⟩) _ _
  · show (0 : Int32).toInt + a.toInt ≤ ((if s_nr u = s_nr u then a.toNatClampNeg else s_ln u (s_nr u) : Nat) : Int)
    rw [if_pos rfl, z_t0]; omega
  · show (if s_nr u = s_nr u then a.toNatClampNeg else s_ln u (s_nr u)) < 100000
    rw [if_pos rfl]; omega
theorem s_ok_twin (h : s_ok t u) (hj : j < 6) : s_ok t (s_twin u i j).2 := s_ok_ak (s_ok_up h i (s_pk h hj)) _ _
theorem s_ok_reader (h : s_ok t u) (hj : j < 6) : s_ok t (s_reader u i j).2 := s_ok_ak (s_ok_up h i (pok_rdr (s_pk h hj))) _ _
theorem s_ok_rest (h : s_ok t u) (hj : j < 6) : s_ok t (s_rest u i j).2 := by
  have h1 := s_pos0 h hj
  exact s_ok_ak (s_ok_up h i (pok_pt (s_pk h hj) h1.1 (by omega) (by omega))) _ _
theorem s_ok_part {a b : Int32} (h : s_ok t u) (hj : j < 6) : s_ok t (s_part u i j a b).2 := by
  unfold s_part
  split
  · exact s_ok_td h _
  · split
    · exact s_ok_td h _
    · rename_i q1 q2
      have h2 := s_lo h hj
      have h3 := z_isT q1
      have h4 := z_isT q2
      rw [z_t0] at h3
      rw [z_t0, fb_subI (by omega) (by omega)] at h4
      exact s_ok_ak (s_ok_up h i (pok_pt (s_pk h hj) h3.1 h4.1 (by omega))) _ _
theorem s_ok_exch (h : s_ok t u) (hi : i < 6) (hj : j < 6) : s_ok t (s_exch u i j).2 := s_ok_ak (s_ok_up (s_ok_up h i (s_pk h hj)) j (s_pk (u := u) h hi)) _ _
theorem s_ok_fill1 {a b : Int32} (h : s_ok t u) (hi : i < 6) (hv : ∀ k, k < 20 → 0 ≤ (a + nI k * b).toInt) : ∀ (d k : Nat) (u : sS), k + d ≤ 20 → s_ok t u → s_ok t (s_fill1 i a b d k u).2 := by
  intro d
  induction d with
  | zero => intro k u _ h; exact h
  | succ d ih =>
    intro k u hk h
    unfold s_fill1
    split
    · exact ih (k + 1) _ (by omega) (s_ok_put1 h hi (hv k (by omega)))
    · exact s_ok_put1 h hi (hv k (by omega))
theorem s_fv {a b : Int32} (h1 : ¬ z_is a 0 1000000 = 0) (h2 : ¬ z_is b 0 1000000 = 0) : ∀ k, k < 20 → 0 ≤ (a + nI k * b).toInt := by
  intro k hk
  have e : (1000000 : Int32).toInt = 1000000 := by decide
  have h3 := z_isT h1
  have h4 := z_isT h2
  rw [z_t0, e] at h3 h4
  have ek : (nI k).toInt = k := nI_T (by omega)
  have h5 : (k : Int) * b.toInt ≤ 20 * 1000000 := Int.mul_le_mul (by omega) h4.2 h4.1 (by omega)
  have h6 : 0 ≤ (k : Int) * b.toInt := Int.mul_nonneg (by omega) h4.1
  have em : (nI k * b).toInt = k * b.toInt := by rw [Int32.toInt_mul, ek]; exact fb_bmod (by omega) (by omega)
  rw [fb_addI (by omega) (by omega), em]
  omega
theorem s_ok_pack1 (hi : i < 6) : ∀ (d k : Nat) (u : sS), s_ok t u → s_ok t (s_pack1 i d k u) := by
  intro d
  induction d with
  | zero => intro k u h; exact h
  | succ d ih => intro k u h; exact ih (k + 1) _ (s_ok_wr h _ _ (s_v0 h _ _))
theorem s_pack1_pn : ∀ (d k : Nat) (u : sS), s_pn (s_pack1 i d k u) = s_pn u ∧ s_nr (s_pack1 i d k u) = s_nr u ∧ s_ln (s_pack1 i d k u) = s_ln u := by
  intro d
  induction d with
  | zero => intro k u; exact ⟨rfl, rfl, rfl⟩
  | succ d ih => intro k u; exact ih (k + 1) _
theorem s_ok_pack (h : s_ok t u) (hi : i < 6) : s_ok t (s_pack u i).2 := by
  unfold s_pack
  split
  · exact s_ok_td h _
  · have h1 := s_pos0 h hi
    have h2 := s_lo h hi
    obtain ⟨e1, e2, e3⟩ := s_pack1_pn (i := i) (p_li (s_pn u i) - p_po (s_pn u i)).toNatClampNeg 0 u
    refine s_ok_ak (s_ok_up (s_ok_pack1 hi _ _ _ h) i ?_) _ _
    rw [e2, e3]
    have h3 := (s_ow h hi).2.2.2.1
    refine pok_po (pok_bg (s_pk h hi) (by omega) (Int.le_refl _)) (by omega) (by show _ ≤ (p_cp (s_pn u i)).toInt; omega) (by show (-1 : Int32).toInt ≤ _; rw [z_tm1]; omega)
theorem s_ok_nx (h : s_ok t u) (hi : i < 6) (hl : ¬ p_li (s_pn u i) - p_po (s_pn u i) = 0) : s_ok t (s_up u i (p_po' (s_pn u i) (p_po (s_pn u i) + 1))) := s_ok_up h i (pok_nx (s_pk h hi) hl)
theorem s_ok_pour0 {k : Nat} (h : s_ok t u) (hi : i < 6) (hk : k < 6) (hl : ¬ p_li (s_pn u i) - p_po (s_pn u i) = 0) : s_ok t (s_pour0 u i k).2 := s_ok_put1 (s_ok_nx h hi hl) hk (s_v0 h _ _)
/-- behind a refusal nothing but a count is another -/
theorem s_put1_no {v : Int32} (h : ¬ (s_put1 u i v).1 = 0) : ∃ f, (s_put1 u i v).2 = s_tdu u f := by
  unfold s_put1 at h ⊢
  split
  · exact ⟨_, rfl⟩
  · split
    · exact ⟨_, rfl⟩
    · rename_i q1 q2; rw [if_neg q1, if_neg q2] at h; exact absurd rfl h
theorem s_ok_unp {k : Nat} (h : s_ok t u) (hi : i < 6) (hk : k < 6) (hl : ¬ p_li (s_pn u i) - p_po (s_pn u i) = 0) (hn : ¬ (s_pour0 u i k).1 = 0) : s_ok t (s_unp (s_pour0 u i k).2 i) := by
  have h9 := s_ok_pour0 h hi hk hl
  obtain ⟨f, hf⟩ := s_put1_no hn
  have hf : (s_pour0 u i k).2 = s_tdu (s_up u i (p_po' (s_pn u i) (p_po (s_pn u i) + 1))) f := hf
  rw [hf] at h9 ⊢
  have e : s_pn (s_tdu (s_up u i (p_po' (s_pn u i) (p_po (s_pn u i) + 1))) f) i = p_po' (s_pn u i) (p_po (s_pn u i) + 1) := s_up_s u i _
  have h1 := s_pos0 h hi
  have h2 := s_lo h hi
  have e2 : (p_po (s_pn u i) + 1 - 1) = p_po (s_pn u i) := Int32.add_sub_cancel _ _
  refine s_ok_up h9 i ?_
  rw [e]
  refine pok_mv ?_ ?_ ?_
  · have := s_pk h9 hi
    rw [e] at this
    exact this
  · show 0 ≤ (p_po (s_pn u i) + 1 - 1).toInt
    rw [e2]; omega
  · show (p_po (s_pn u i) + 1 - 1).toInt ≤ (p_li (s_pn u i)).toInt
    rw [e2]; omega
theorem s_ok_pour1 {k : Nat} (hi : i < 6) (hk : k < 6) : ∀ (d j : Nat) (u : sS), s_ok t u → s_ok t (s_pour1 i k d j u).2 := by
  intro d
  induction d with
  | zero => intro j u h; exact h
  | succ d ih =>
    intro j u h
    unfold s_pour1
    split
    · exact h
    · rename_i q
      have q : ¬ p_li (s_pn u i) - p_po (s_pn u i) = 0 := fun e => q ((s_left h hi).mp e)
      split
      · exact ih (j + 1) _ (s_ok_pour0 h hi hk q)
      · rename_i q2; exact s_ok_unp h hi hk q q2
end SOK
