/-! PART 58: two panes agree where both see; a sound class -/
theorem s_agr {t : Nat} {u : sS} (hok : s_ok t u) {i k : Nat} (hi : i < 6) (hk : k < 6) (hro : p_ro (s_pn u i) = p_ro (s_pn u k)) {x : Int32} (h1 : ¬ z_hi x (p_cp (s_pn u i)) = 0) : p_sa (s_pn u k) + (p_sa (s_pn u i) + x - p_sa (s_pn u k)) = p_sa (s_pn u i) + x := by
  rw [Int32.sub_eq_add_neg, Int32.add_comm (p_sa (s_pn u i) + x), ← Int32.add_assoc, Int32.add_right_neg, Int32.zero_add]
theorem a_X3_idx (l : Launch) {G : zG} {u : sS} {x : Nat} {P RA VA : Nat → Nat} {pa sp ln rf sb : Nat} {Mw : zM} (hC : CI G u x P RA VA pa sp ln rf sb Mw) {t : Nat} (hok : s_ok t u) {i k : Nat} (hi : i < 6) (hk : k < 6) (x9 : Int32) : z_Mi l G qX3_indexSeen (z_rm 2 0 0) [.ref (P i), .int x9, .ref (P k)] Mw (fun r Mz => (r = -9 ∨ r = -1 ∨ (RA (p_ro (s_pn u i)) = RA (p_ro (s_pn u k)) ∧ ¬ z_hi x9 (p_cp (s_pn u i)) = 0 ∧ r = p_sa (s_pn u i) + x9 - p_sa (s_pn u k))) ∧ Mz = Mw) := by
  refine z_Mi_mono (c_X3_indexSeen l G (CI_P hC hi) (CI_P hC hk)) ?_
  rintro r Mz (⟨c1, hr, he⟩ | ⟨c1, c2, c3, hr, he⟩ | ⟨c1, c2, c3, c4, c5, hr, he⟩ | ⟨c1, c2, c3, c4, c5, hr, he⟩ | ⟨c1, c2, c3, c4, hr, he⟩ | ⟨c1, c2, hr, he⟩)
  · exact ⟨Or.inl hr, he⟩
  · exact ⟨Or.inr (Or.inl hr), he⟩
  · exact ⟨Or.inr (Or.inl hr), he⟩
  · exact ⟨Or.inr (Or.inr ⟨Option.some.inj c3, c4, hr⟩), he⟩
  · exact ⟨Or.inr (Or.inl hr), he⟩
  · exact ⟨Or.inl hr, he⟩


