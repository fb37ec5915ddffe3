/-! PART 66: the law's world: the class's cells beside the reference's beside Out's; what each call makes of it -/
def s_LX (G : zG) (x pa sp ln rf sb m pn td ou : Nat) (uc ur : sS) (th : Int32) (on : Int64) (Mw : zM) : Prop := ∃ (C R O : zM) (os : Option Nat), Mw = z_un C (z_un R O) ∧ z_dj C (z_un R O) ∧ z_dj R O ∧ s_CI G x pa sp ln rf sb uc C ∧ s_RI G m pn td th ur R ∧ O ou = some (cOu on os)
/-- the law's world, and what is known of the class's cells and Out's text -/
def s_LF (G : zG) (x pa sp ln rf sb m pn td ou : Nat) (uc ur : sS) (th : Int32) (on : Int64) (F : zM → Option Nat → Prop) (Mw : zM) : Prop := ∃ (C R O : zM) (os : Option Nat), Mw = z_un C (z_un R O) ∧ z_dj C (z_un R O) ∧ z_dj R O ∧ s_CI G x pa sp ln rf sb uc C ∧ s_RI G m pn td th ur R ∧ O ou = some (cOu on os) ∧ F C os
theorem z_un_mid {A B D : zM} (h1 : z_dj A (z_un B D)) (h2 : z_dj B D) : z_un A (z_un B D) = z_un B (z_un A D) ∧ z_dj B (z_un A D) := by
  have h3 := z_dj_2l h1
  refine ⟨?_, z_dj_un2 (z_dj_sym h3) h2⟩
  rw [← z_un_assoc, z_un_comm h3, z_un_assoc]
section LX
variable {l : Launch} {G : zG} {x pa sp ln rf sb m pn td ou : Nat} {uc ur u v : sS} {th k : Int32} {on : Int64} {Mw : zM} {q : zY} {hh : List (Nat × Nat × Nat × Nat)} {rm : Room} {av : List Value} {b : sR}
theorem s_LX_ou (h : s_LX G x pa sp ln rf sb m pn td ou uc ur th on Mw) : ∃ os, Mw ou = some (cOu on os) := by
  obtain ⟨C, R, O, os, rfl, d1, d2, hC, hR, ho⟩ := h
  exact ⟨os, z_un_r d1 (z_un_r d2 ho)⟩
theorem s_LX_m (h : s_LX G x pa sp ln rf sb m pn td ou uc ur th on Mw) : ∃ tp, Mw m = some (cMd tp (nI (s_nr ur)) pn td (s_ac ur) (s_kn ur) th) := by
  obtain ⟨C, R, O, os, rfl, d1, d2, hC, ⟨K, tp, hR⟩, ho⟩ := h
  exact ⟨tp, z_un_r d1 (z_un_l hR.1)⟩
theorem s_LX_x (h : s_LX G x pa sp ln rf sb m pn td ou uc ur th on Mw) : ∃ lr, Mw x = some (cMp lr pa sp ln rf (s_ac uc) (s_kn uc)) := by
  obtain ⟨C, R, O, os, rfl, d1, d2, ⟨P, RA, VA, hC⟩, hR, ho⟩ := h
  exact ⟨RA 0, z_un_l hC.1⟩
/-- a call of the class, caught -/
theorem s_LX_P (h : s_LX G x pa sp ln rf sb m pn td ou u ur th on Mw) (hW : ∀ {C9 B : zM} {on : Int64} {os : Option Nat}, s_CI G x pa sp ln rf sb u C9 → z_dj C9 B → B ou = some (cOu on os) → z_Hi l G q hh rm av (z_un C9 B) (w_P G x pa sp ln rf sb ou B k u b)) : z_Hi l G q hh rm av Mw (fun r Mz => r = k ∧ ∃ on', s_LX G x pa sp ln rf sb m pn td ou (if k = 0 then b.2 else u) ur th on' Mz ∧ (k = 0 → on' = b.1.toInt64)) := by
  obtain ⟨C, R, O, os, rfl, d1, d2, hC, hR, ho⟩ := h
  refine z_Hi_mono (hW hC d1 (z_un_r d2 ho)) ?_
  rintro r Mz ⟨hr9, C', on', os', hC', d', rfl, ho'⟩
  have e : z_up (z_un R O) ou (cOu on' os') = z_un R (z_up O ou (cOu on' os')) := z_un_upr (z_un_o d2 ho)
  rw [e] at d' ⊢
  exact ⟨hr9, on', ⟨C', R, _, os', rfl, d', z_dj_up d2 (z_un_o d2 ho), hC', hR, z_up_s _ _ _⟩, ho'⟩
theorem s_LF_X {F : zM → Option Nat → Prop} (h : s_LF G x pa sp ln rf sb m pn td ou uc ur th on F Mw) : s_LX G x pa sp ln rf sb m pn td ou uc ur th on Mw := by
  obtain ⟨C, R, O, os, e, d1, d2, hC, hR, ho, -⟩ := h
  exact ⟨C, R, O, os, e, d1, d2, hC, hR, ho⟩
theorem s_LX_T {ls : List Int32} (h : s_LX G x pa sp ln rf sb m pn td ou u ur th on Mw) (hW : ∀ {C9 B : zM} {on : Int64} {os : Option Nat}, s_CI G x pa sp ln rf sb u C9 → z_dj C9 B → B ou = some (cOu on os) → z_Hi l G q hh rm av (z_un C9 B) (w_T G x pa sp ln rf sb ou B k u ls)) : z_Hi l G q hh rm av Mw (fun r Mz => r = k ∧ ∃ on', s_LF G x pa sp ln rf sb m pn td ou u ur th on' (fun C os => k = 0 → ∃ s9, os = some s9 ∧ j_St G s9 C ls) Mz) := by
  obtain ⟨C, R, O, os, rfl, d1, d2, hC, hR, ho⟩ := h
  refine z_Hi_mono (hW hC d1 (z_un_r d2 ho)) ?_
  rintro r Mz ⟨hr9, C', on', os', hC', d', hz, hS⟩
  rw [hz]
  have e : z_up (z_un R O) ou (cOu on' os') = z_un R (z_up O ou (cOu on' os')) := z_un_upr (z_un_o d2 ho)
  rw [e] at d' ⊢
  exact ⟨hr9, on', ⟨C', R, _, os', rfl, d', z_dj_up d2 (z_un_o d2 ho), hC', hR, z_up_s _ _ _, hS⟩⟩
/-- a call of the reference -/
theorem s_LX_bk {C O R' : zM} {os : Option Nat} (d1 : z_dj C O) (d : z_dj R' (z_un C O)) (hC : s_CI G x pa sp ln rf sb uc C) (hR : s_RI G m pn td th ur R') (ho : O ou = some (cOu on os)) : s_LX G x pa sp ln rf sb m pn td ou uc ur th on (z_un R' (z_un C O)) := by
  obtain ⟨e, d9⟩ := z_un_mid d d1
  rw [e]
  exact ⟨C, R', O, os, rfl, d9, z_dj_2r d, hC, hR, ho⟩
theorem s_LX_R (h : s_LX G x pa sp ln rf sb m pn td ou uc u th on Mw) (hW : ∀ {R : zM} {th : Int32} {K : Nat → Nat} {tp : Nat}, RI G u m th K tp pn td R → z_Mi l G q rm av R (RP G m pn td k u b)) : z_Mi l G q rm av Mw (fun r Mz => s_LX G x pa sp ln rf sb m pn td ou uc (if k = 0 then b.2 else u) k on Mz ∧ (k = 0 → r = b.1)) := by
  obtain ⟨C, R, O, os, rfl, d1, d2, hC, ⟨K, tp, hR⟩, ho⟩ := h
  obtain ⟨e, d9⟩ := z_un_mid d1 d2
  rw [e]
  refine z_Mi_mono (z_Mi_fr d9 (hW hR)) ?_
  rintro r Mz ⟨R', ⟨K', tp', hR', hr9⟩, d', rfl⟩
  exact ⟨s_LX_bk (z_dj_2r d1) d' hC ⟨K', tp', hR'⟩ ho, hr9⟩
theorem s_LX_RT {Q : List Int32 → Prop} {F : zM → Option Nat → Prop} (h : s_LF G x pa sp ln rf sb m pn td ou uc u th on F Mw) (hW : ∀ {R : zM} {th : Int32} {K : Nat → Nat} {tp : Nat}, RI G u m th K tp pn td R → z_Mr l G q rm av R (RT9 G m pn td k u Q)) : z_Mr l G q rm av Mw (fun r Mz => s_LX G x pa sp ln rf sb m pn td ou uc u k on Mz ∧ (k = 0 → ∃ ls, Q ls ∧ j_St G r Mz ls) ∧ ∃ C os, F C os ∧ Mz ou = some (cOu on os) ∧ ∀ a e, C a = some e → Mz a = some e) := by
  obtain ⟨C, R, O, os, rfl, d1, d2, hC, ⟨K, tp, hR⟩, ho, hF⟩ := h
  obtain ⟨e, d9⟩ := z_un_mid d1 d2
  rw [e]
  refine z_Mr_mono (z_Mr_fr d9 (hW hR)) ?_
  rintro r Mz ⟨R', ⟨⟨K', tp', hR'⟩, hS⟩, d', hz⟩
  rw [hz]
  refine ⟨s_LX_bk (z_dj_2r d1) d' hC ⟨K', tp', hR'⟩ ho, fun hk => ?_, C, os, hF, z_un_r d' (z_un_r (z_dj_2r d1) ho), fun a e ha => z_un_r d' (z_un_l ha)⟩
  obtain ⟨ls, hQ, hT⟩ := hS hk
  exact ⟨ls, hQ, j_St_up hT fun a e ha => z_un_l ha⟩
theorem s_LX_Rl {Q : Int64 → Prop} (h : s_LX G x pa sp ln rf sb m pn td ou uc u th on Mw) (hW : ∀ {R : zM} {th : Int32} {K : Nat → Nat} {tp : Nat}, RI G u m th K tp pn td R → z_Ml l G q rm av R (fun r Mz => Q r ∧ ∃ K' tp', RI G u m k K' tp' pn td Mz)) : z_Ml l G q rm av Mw (fun r Mz => Q r ∧ s_LX G x pa sp ln rf sb m pn td ou uc u k on Mz) := by
  obtain ⟨C, R, O, os, rfl, d1, d2, hC, ⟨K, tp, hR⟩, ho⟩ := h
  obtain ⟨e, d9⟩ := z_un_mid d1 d2
  rw [e]
  refine z_Ml_mono (z_Ml_fr d9 (hW hR)) ?_
  rintro r Mz ⟨R', ⟨hq, K', tp', hR'⟩, d', rfl⟩
  exact ⟨hq, s_LX_bk (z_dj_2r d1) d' hC ⟨K', tp', hR'⟩ ho⟩
/-- a call of the class that the law makes itself -/
theorem s_LX_Ci {Q : Int32 → Prop} (h : s_LX G x pa sp ln rf sb m pn td ou u ur th on Mw) (hW : ∀ {C : zM}, s_CI G x pa sp ln rf sb u C → z_Mi l G q rm av C (fun r Mz => Q r ∧ s_CI G x pa sp ln rf sb v Mz)) : z_Mi l G q rm av Mw (fun r Mz => Q r ∧ s_LX G x pa sp ln rf sb m pn td ou v ur th on Mz) := by
  obtain ⟨C, R, O, os, rfl, d1, d2, hC, hR, ho⟩ := h
  refine z_Mi_mono (z_Mi_fr d1 (hW hC)) ?_
  rintro r Mz ⟨C', ⟨hq, hC'⟩, d', rfl⟩
  exact ⟨hq, C', R, O, os, rfl, d', d2, hC', hR, ho⟩
theorem s_LX_Cl {Q : Int64 → Prop} (h : s_LX G x pa sp ln rf sb m pn td ou u ur th on Mw) (hW : ∀ {C : zM}, s_CI G x pa sp ln rf sb u C → z_Ml l G q rm av C (fun r Mz => Q r ∧ s_CI G x pa sp ln rf sb v Mz)) : z_Ml l G q rm av Mw (fun r Mz => Q r ∧ s_LX G x pa sp ln rf sb m pn td ou v ur th on Mz) := by
  obtain ⟨C, R, O, os, rfl, d1, d2, hC, hR, ho⟩ := h
  refine z_Ml_mono (z_Ml_fr d1 (hW hC)) ?_
  rintro r Mz ⟨C', ⟨hq, hC'⟩, d', rfl⟩
  exact ⟨hq, C', R, O, os, rfl, d', d2, hC', hR, ho⟩
theorem s_LX_Cr {ls : List Int32} (h : s_LX G x pa sp ln rf sb m pn td ou u ur th on Mw) (hW : ∀ {C : zM}, s_CI G x pa sp ln rf sb u C → z_Mr l G q rm av C (fun r Mz => s_CI G x pa sp ln rf sb v Mz ∧ j_St G r Mz ls)) : z_Mr l G q rm av Mw (fun r Mz => s_LF G x pa sp ln rf sb m pn td ou v ur th on (fun C _ => j_St G r C ls) Mz) := by
  obtain ⟨C, R, O, os, rfl, d1, d2, hC, hR, ho⟩ := h
  refine z_Mr_mono (z_Mr_fr d1 (hW hC)) ?_
  rintro r Mz ⟨C', ⟨hC', hS⟩, d', hz⟩
  rw [hz]
  exact ⟨C', R, O, os, rfl, d', d2, hC', hR, ho, hS⟩
end LX
theorem so_lt {a b : Int32} (h : z_lt a b = 0) : ¬ a = 0 ∧ ¬ b = 0 := by
  unfold z_lt at h
  split at h
  · exact absurd h (by decide)
  · rename_i h1
    split at h
    · exact absurd h (by decide)
    · rename_i h2; exact ⟨h1, h2⟩
theorem so_ip {pane : Int32} (h : ¬ z_is pane 0 5 = 0) : pane.toNatClampNeg < 6 := by
  rcases z_pc pane with ⟨-, -, hi⟩ | ⟨hb, -⟩
  · exact hi
  · exact absurd hb h
theorem so_t2 {a b : Int32} (h : ¬ t_2 a b = 0) : a.toNatClampNeg < 6 ∧ b.toNatClampNeg < 6 := by
  unfold t_2 at h
  split at h
  · exact absurd rfl h
  · rename_i h1; exact ⟨so_ip h1, so_ip h⟩
theorem so_and {a b : Int32} (h : ¬ t_and a b = 0) : ¬ a = 0 ∧ ¬ b = 0 := by
  unfold t_and at h
  split at h
  · exact absurd rfl h
  · rename_i h1; exact ⟨h1, h⟩
theorem so_nn {v : Int32} (h : ¬ t_nn v = 0) : 0 ≤ v.toInt := by
  unfold t_nn at h
  split at h
  · exact absurd rfl h
  · rename_i h1; rw [z_ltI, z_t0] at h1; omega
section SO
variable {t : Nat} {u : sS}
theorem s_ok_fill {i : Nat} {a b mn : Int32} (h : s_ok t u) (hi : i < 6) (h1 : ¬ z_is a 0 1000000 = 0) (h2 : ¬ z_is b 0 1000000 = 0) (h3 : ¬ z_is mn 0 20 = 0) : s_ok t (s_fill u i a b mn).2 := s_ok_ak (s_ok_fill1 h hi (s_fv h1 h2) _ 0 u (by have := z_r20 h3; omega) h) _ _
theorem s_ok_pour {i k : Nat} {mn : Int32} (h : s_ok t u) (hi : i < 6) (hk : k < 6) : s_ok t (s_pour u i k mn).2 := s_ok_ak (s_ok_pour1 hi hk _ 0 u h) _ _
theorem so_wrap (hok : s_ok t u) {pane a2 a3 : Int32} : s_ok (t + 1) (if z_lt (z_is pane 0 5) (t_and (z_is a2 0 16) (z_is a3 0 (16 - a2))) = 0 then (s_wrap u pane.toNatClampNeg a2 a3 : sR).2 else u) := by
  split
  · rename_i h0
    exact s_ok_mono (s_ok_wrap hok (so_and (so_lt h0).2).1 (so_and (so_lt h0).2).2) (Nat.le_succ t)
  · exact s_ok_mono hok (Nat.le_succ t)
theorem so_fresh (hok : s_ok t u) {pane a2 : Int32} : s_ok (t + 1) (if z_lt (z_is pane 0 5) (z_is a2 0 12) = 0 then (s_fresh u pane.toNatClampNeg a2 : sR).2 else u) := by
  split
  · rename_i h0
    exact s_ok_fresh hok (so_lt h0).2
  · exact s_ok_mono hok (Nat.le_succ t)
theorem so_twin (hok : s_ok t u) {pane other : Int32} : s_ok (t + 1) (if z_lt (t_2 pane other) 1 = 0 then (s_twin u pane.toNatClampNeg other.toNatClampNeg : sR).2 else u) := by
  split
  · rename_i h0
    exact s_ok_mono (s_ok_twin hok (so_t2 (so_lt h0).1).2) (Nat.le_succ t)
  · exact s_ok_mono hok (Nat.le_succ t)
theorem so_rest (hok : s_ok t u) {pane other : Int32} : s_ok (t + 1) (if z_lt (t_2 pane other) 1 = 0 then (s_rest u pane.toNatClampNeg other.toNatClampNeg : sR).2 else u) := by
  split
  · rename_i h0
    exact s_ok_mono (s_ok_rest hok (so_t2 (so_lt h0).1).2) (Nat.le_succ t)
  · exact s_ok_mono hok (Nat.le_succ t)
theorem so_part (hok : s_ok t u) {pane other a3 a4 : Int32} : s_ok (t + 1) (if z_lt (t_2 pane other) 1 = 0 then (s_part u pane.toNatClampNeg other.toNatClampNeg a3 a4 : sR).2 else u) := by
  split
  · rename_i h0
    exact s_ok_mono (s_ok_part hok (so_t2 (so_lt h0).1).2) (Nat.le_succ t)
  · exact s_ok_mono hok (Nat.le_succ t)
theorem so_reader (hok : s_ok t u) {pane other : Int32} : s_ok (t + 1) (if z_lt (t_2 pane other) 1 = 0 then (s_reader u pane.toNatClampNeg other.toNatClampNeg : sR).2 else u) := by
  split
  · rename_i h0
    exact s_ok_mono (s_ok_reader hok (so_t2 (so_lt h0).1).2) (Nat.le_succ t)
  · exact s_ok_mono hok (Nat.le_succ t)
theorem so_exchange (hok : s_ok t u) {pane other : Int32} : s_ok (t + 1) (if z_lt (t_2 pane other) 1 = 0 then (s_exch u pane.toNatClampNeg other.toNatClampNeg : sR).2 else u) := by
  split
  · rename_i h0
    exact s_ok_mono (s_ok_exch hok (so_t2 (so_lt h0).1).1 (so_t2 (so_lt h0).1).2) (Nat.le_succ t)
  · exact s_ok_mono hok (Nat.le_succ t)
theorem so_go (hok : s_ok t u) {pane a2 : Int32} : s_ok (t + 1) (if z_lt (z_is pane 0 5) 1 = 0 then (s_go u pane.toNatClampNeg a2 : sR).2 else u) := by
  split
  · rename_i h0
    exact s_ok_mono (s_ok_go hok (so_ip (so_lt h0).1)) (Nat.le_succ t)
  · exact s_ok_mono hok (Nat.le_succ t)
theorem so_move (hok : s_ok t u) {pane a2 : Int32} : s_ok (t + 1) (if z_lt (z_is pane 0 5) (z_is a2 (-20) 20) = 0 then (s_move u pane.toNatClampNeg a2 : sR).2 else u) := by
  split
  · rename_i h0
    exact s_ok_mono (s_ok_move hok (so_ip (so_lt h0).1)) (Nat.le_succ t)
  · exact s_ok_mono hok (Nat.le_succ t)
theorem so_end (hok : s_ok t u) {pane a2 : Int32} : s_ok (t + 1) (if z_lt (z_is pane 0 5) 1 = 0 then (s_end u pane.toNatClampNeg a2 : sR).2 else u) := by
  split
  · rename_i h0
    exact s_ok_mono (s_ok_end hok (so_ip (so_lt h0).1)) (Nat.le_succ t)
  · exact s_ok_mono hok (Nat.le_succ t)
theorem so_stretch (hok : s_ok t u) {pane a2 : Int32} : s_ok (t + 1) (if z_lt (z_is pane 0 5) (z_is a2 (-20) 20) = 0 then (s_stretch u pane.toNatClampNeg a2 : sR).2 else u) := by
  split
  · rename_i h0
    exact s_ok_mono (s_ok_stretch hok (so_ip (so_lt h0).1)) (Nat.le_succ t)
  · exact s_ok_mono hok (Nat.le_succ t)
theorem so_mark (hok : s_ok t u) {pane : Int32} : s_ok (t + 1) (if z_lt (z_is pane 0 5) 1 = 0 then (s_mark u pane.toNatClampNeg : sR).2 else u) := by
  split
  · rename_i h0
    exact s_ok_mono (s_ok_mark hok (so_ip (so_lt h0).1)) (Nat.le_succ t)
  · exact s_ok_mono hok (Nat.le_succ t)
theorem so_back (hok : s_ok t u) {pane : Int32} : s_ok (t + 1) (if z_lt (z_is pane 0 5) 1 = 0 then (s_back u pane.toNatClampNeg : sR).2 else u) := by
  split
  · rename_i h0
    exact s_ok_mono (s_ok_back hok (so_ip (so_lt h0).1)) (Nat.le_succ t)
  · exact s_ok_mono hok (Nat.le_succ t)
theorem so_clear (hok : s_ok t u) {pane : Int32} : s_ok (t + 1) (if z_lt (z_is pane 0 5) 1 = 0 then (s_clear u pane.toNatClampNeg : sR).2 else u) := by
  split
  · rename_i h0
    exact s_ok_mono (s_ok_clear hok (so_ip (so_lt h0).1)) (Nat.le_succ t)
  · exact s_ok_mono hok (Nat.le_succ t)
theorem so_flip (hok : s_ok t u) {pane : Int32} : s_ok (t + 1) (if z_lt (z_is pane 0 5) 1 = 0 then (s_flip u pane.toNatClampNeg : sR).2 else u) := by
  split
  · rename_i h0
    exact s_ok_mono (s_ok_flip hok (so_ip (so_lt h0).1)) (Nat.le_succ t)
  · exact s_ok_mono hok (Nat.le_succ t)
theorem so_rewind (hok : s_ok t u) {pane : Int32} : s_ok (t + 1) (if z_lt (z_is pane 0 5) 1 = 0 then (s_rewind u pane.toNatClampNeg : sR).2 else u) := by
  split
  · rename_i h0
    exact s_ok_mono (s_ok_rewind hok (so_ip (so_lt h0).1)) (Nat.le_succ t)
  · exact s_ok_mono hok (Nat.le_succ t)
theorem so_put (hok : s_ok t u) {pane a2 : Int32} : s_ok (t + 1) (if z_lt (z_is pane 0 5) (t_nn a2) = 0 then (s_put u pane.toNatClampNeg a2 : sR).2 else u) := by
  split
  · rename_i h0
    exact s_ok_mono (s_ok_put hok (so_ip (so_lt h0).1) (so_nn (so_lt h0).2)) (Nat.le_succ t)
  · exact s_ok_mono hok (Nat.le_succ t)
theorem so_putAt (hok : s_ok t u) {pane a2 a3 : Int32} : s_ok (t + 1) (if z_lt (z_is pane 0 5) (t_nn a3) = 0 then (s_putAt u pane.toNatClampNeg a2 a3 : sR).2 else u) := by
  split
  · rename_i h0
    exact s_ok_mono (s_ok_putAt hok (so_nn (so_lt h0).2)) (Nat.le_succ t)
  · exact s_ok_mono hok (Nat.le_succ t)
theorem so_bring (hok : s_ok t u) {pane a2 other a4 : Int32} : s_ok (t + 1) (if z_lt (t_2 pane other) 1 = 0 then (s_bring u pane.toNatClampNeg other.toNatClampNeg a2 a4 : sR).2 else u) := by
  split
  · rename_i h0
    exact s_ok_mono (s_ok_bring hok) (Nat.le_succ t)
  · exact s_ok_mono hok (Nat.le_succ t)
theorem so_fill (hok : s_ok t u) {pane a2 a3 a4 : Int32} : s_ok (t + 1) (if z_lt (z_is pane 0 5) (t_and (z_is a2 0 1000000) (t_and (z_is a3 0 1000000) (z_is a4 0 20))) = 0 then (s_fill u pane.toNatClampNeg a2 a3 a4 : sR).2 else u) := by
  split
  · rename_i h0
    exact s_ok_mono (s_ok_fill hok (so_ip (so_lt h0).1) (so_and (so_lt h0).2).1 (so_and (so_and (so_lt h0).2).2).1 (so_and (so_and (so_lt h0).2).2).2) (Nat.le_succ t)
  · exact s_ok_mono hok (Nat.le_succ t)
theorem so_pack (hok : s_ok t u) {pane : Int32} : s_ok (t + 1) (if z_lt (z_is pane 0 5) 1 = 0 then (s_pack u pane.toNatClampNeg : sR).2 else u) := by
  split
  · rename_i h0
    exact s_ok_mono (s_ok_pack hok (so_ip (so_lt h0).1)) (Nat.le_succ t)
  · exact s_ok_mono hok (Nat.le_succ t)
theorem so_pour (hok : s_ok t u) {pane other a3 : Int32} : s_ok (t + 1) (if z_lt (t_2 pane other) (z_is a3 0 20) = 0 then (s_pour u pane.toNatClampNeg other.toNatClampNeg a3 : sR).2 else u) := by
  split
  · rename_i h0
    exact s_ok_mono (s_ok_pour hok (so_t2 (so_lt h0).1).1 (so_t2 (so_lt h0).1).2) (Nat.le_succ t)
  · exact s_ok_mono hok (Nat.le_succ t)
theorem so_lay (hok : s_ok t u) {a1 a2 : Int32} : s_ok (t + 1) (if z_lt (z_is a1 0 15) (t_nn a2) = 0 then (s_lay u a1 a2 : sR).2 else u) := by
  split
  · rename_i h0
    exact s_ok_mono (s_ok_lay hok (so_nn (so_lt h0).2)) (Nat.le_succ t)
  · exact s_ok_mono hok (Nat.le_succ t)
theorem so_reach (hok : s_ok t u) {pane a2 a3 : Int32} : s_ok (t + 1) (if z_lt (z_is pane 0 5) (t_nn a3) = 0 then (s_reach u pane.toNatClampNeg a2 a3 : sR).2 else u) := by
  split
  · rename_i h0
    exact s_ok_mono (s_ok_reach hok (so_nn (so_lt h0).2)) (Nat.le_succ t)
  · exact s_ok_mono hok (Nat.le_succ t)
theorem so_get (hok : s_ok t u) {pane : Int32} : s_ok (t + 1) (if z_lt (z_is pane 0 5) 1 = 0 then (s_get u pane.toNatClampNeg : sR).2 else u) := by
  split
  · rename_i h0
    exact s_ok_mono (s_ok_get hok (so_ip (so_lt h0).1)) (Nat.le_succ t)
  · exact s_ok_mono hok (Nat.le_succ t)
theorem so_drain (hok : s_ok t u) {pane a2 : Int32} : s_ok (t + 1) (if z_lt (z_is pane 0 5) (z_is a2 0 20) = 0 then (s_drain u pane.toNatClampNeg a2 : sR).2 else u) := by
  split
  · rename_i h0
    exact s_ok_mono (s_ok_drain hok (so_ip (so_lt h0).1) (z_isT (so_lt h0).2).1) (Nat.le_succ t)
  · exact s_ok_mono hok (Nat.le_succ t)
theorem so_pop (hok : s_ok t u) {pane : Int32} : s_ok (t + 1) (if z_lt (z_is pane 0 5) 1 = 0 then (s_pop u pane.toNatClampNeg : sR).2 else u) := by
  split
  · rename_i h0
    exact s_ok_mono (s_ok_pop hok (so_ip (so_lt h0).1)) (Nat.le_succ t)
  · exact s_ok_mono hok (Nat.le_succ t)
theorem so_ofPane (hok : s_ok t u) {pane a2 : Int32} : s_ok (t + 1) (if z_lt (z_is pane 0 5) (z_is a2 0 9) = 0 then ((s_of u pane.toNatClampNeg a2, u) : sR).2 else u) := by
  split
  · rename_i h0
    exact s_ok_mono (hok) (Nat.le_succ t)
  · exact s_ok_mono hok (Nat.le_succ t)
theorem so_at (hok : s_ok t u) {pane a2 : Int32} : s_ok (t + 1) (if z_lt (z_is pane 0 5) 1 = 0 then ((s_at u pane.toNatClampNeg a2, u) : sR).2 else u) := by
  split
  · rename_i h0
    exact s_ok_mono (hok) (Nat.le_succ t)
  · exact s_ok_mono hok (Nat.le_succ t)
theorem so_peek (hok : s_ok t u) {pane : Int32} : s_ok (t + 1) (if z_lt (z_is pane 0 5) 1 = 0 then ((s_peek u pane.toNatClampNeg, u) : sR).2 else u) := by
  split
  · rename_i h0
    exact s_ok_mono (hok) (Nat.le_succ t)
  · exact s_ok_mono hok (Nat.le_succ t)
theorem so_isKin (hok : s_ok t u) {pane other : Int32} : s_ok (t + 1) (if z_lt (t_2 pane other) 1 = 0 then ((s_kin u pane.toNatClampNeg other.toNatClampNeg, u) : sR).2 else u) := by
  split
  · rename_i h0
    exact s_ok_mono (hok) (Nat.le_succ t)
  · exact s_ok_mono hok (Nat.le_succ t)
theorem so_sees (hok : s_ok t u) {pane a2 other : Int32} : s_ok (t + 1) (if z_lt (t_2 pane other) 1 = 0 then ((s_sees u pane.toNatClampNeg a2 other.toNatClampNeg, u) : sR).2 else u) := by
  split
  · rename_i h0
    exact s_ok_mono (hok) (Nat.le_succ t)
  · exact s_ok_mono hok (Nat.le_succ t)
theorem so_would (hok : s_ok t u) {pane a2 : Int32} : s_ok (t + 1) (if z_lt (z_is pane 0 5) (z_is a2 0 3) = 0 then ((s_would u pane.toNatClampNeg a2, u) : sR).2 else u) := by
  split
  · rename_i h0
    exact s_ok_mono (hok) (Nat.le_succ t)
  · exact s_ok_mono hok (Nat.le_succ t)
theorem so_house (hok : s_ok t u) {a1 : Int32} : s_ok (t + 1) (if z_lt (z_is a1 0 8) 1 = 0 then ((s_house u a1, u) : sR).2 else u) := by
  split
  · rename_i h0
    exact s_ok_mono (hok) (Nat.le_succ t)
  · exact s_ok_mono hok (Nat.le_succ t)
end SO
