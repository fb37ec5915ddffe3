/-! PART 07: contracts weakened, contracts framed (worlds side by side) -/
theorem z_mf {l : Launch} {x : MethodName} {S : Spec} {P P' : Array Value → State → Prop} {K : Program → Env → List Frame → State → Array Value → Prop} {Q Q' : Array Value → State → Outcome → State → Prop} (h : MetFree l x S P K Q) (hP : ∀ a s, P' a s → P a s) (hQ : ∀ a s o t, P' a s → Q a s o t → Q' a s o t) : MetFree l x S P' K Q' := by
  intro p e h1 h2 h3 s m args below hf hs hp hk
  obtain ⟨n, o, a, b, c, d⟩ := h p e h1 h2 h3 s m args below hf hs (hP _ _ hp) hk
  exact ⟨n, o, a, b, c, hQ _ _ _ _ hp d⟩
section MONO
variable {l : Launch} {G : zG} {q : zY} {rm : Room} {av : List Value} {M : zM}
theorem z_Mi_mono {post post' : Int32 → zM → Prop} (h : z_Mi l G q rm av M post) (hq : ∀ r M', post r M' → post' r M') : z_Mi l G q rm av M post' := fun sz =>
  z_mf (h sz) (fun _ _ hp => hp) fun a s o t _ ⟨⟨⟨r, u, e, p, b⟩, f⟩, g⟩ => ⟨⟨⟨r, u, e, hq _ _ p, b⟩, f⟩, g⟩
theorem z_Ml_mono {post post' : Int64 → zM → Prop} (h : z_Ml l G q rm av M post) (hq : ∀ r M', post r M' → post' r M') : z_Ml l G q rm av M post' := fun sz =>
  z_mf (h sz) (fun _ _ hp => hp) fun a s o t _ ⟨⟨⟨r, u, e, p, b⟩, f⟩, g⟩ => ⟨⟨⟨r, u, e, hq _ _ p, b⟩, f⟩, g⟩
theorem z_Mv_mono {post post' : zM → Prop} (h : z_Mv l G q rm av M post) (hq : ∀ M', post M' → post' M') : z_Mv l G q rm av M post' := fun sz =>
  z_mf (h sz) (fun _ _ hp => hp) fun a s o t _ ⟨⟨⟨u, e, p, b⟩, f⟩, g⟩ => ⟨⟨⟨u, e, hq _ p, b⟩, f⟩, g⟩
theorem z_Mr_mono {post post' : Nat → zM → Prop} (h : z_Mr l G q rm av M post) (hq : ∀ r M', post r M' → post' r M') : z_Mr l G q rm av M post' := fun sz =>
  z_mf (h sz) (fun _ _ hp => hp) fun a s o t _ ⟨⟨⟨u, r, e, p, b⟩, f⟩, g⟩ => ⟨⟨⟨u, r, e, hq _ _ p, b⟩, f⟩, g⟩
theorem z_Xi_mono {post post' : Int32 → zM → Prop} {xp xp' : String → zM → Prop} (h : z_Xi l G q rm av M post xp) (hq : ∀ r M', post r M' → post' r M') (hx : ∀ E M', xp E M' → xp' E M') : z_Xi l G q rm av M post' xp' := fun sz =>
  z_mf (h sz) (fun _ _ hp => hp) fun a s o t _ k => by
    rcases k with ⟨⟨⟨r, u, e, p, b⟩, f⟩, g⟩ | ⟨q, e, E, ce, L, ⟨u, t1, ⟨p, b⟩, f⟩, g⟩
    · exact Or.inl ⟨⟨⟨r, u, e, hq _ _ p, b⟩, f⟩, g⟩
    · exact Or.inr ⟨q, e, E, ce, L, ⟨u, t1, ⟨hx _ _ p, b⟩, f⟩, g⟩
theorem z_Xv_mono {post post' : zM → Prop} {xp xp' : String → zM → Prop} (h : z_Xv l G q rm av M post xp) (hq : ∀ M', post M' → post' M') (hx : ∀ E M', xp E M' → xp' E M') : z_Xv l G q rm av M post' xp' := fun sz =>
  z_mf (h sz) (fun _ _ hp => hp) fun a s o t _ k => by
    rcases k with ⟨⟨⟨u, e, p, b⟩, f⟩, g⟩ | ⟨q, e, E, ce, L, ⟨u, t1, ⟨p, b⟩, f⟩, g⟩
    · exact Or.inl ⟨⟨⟨u, e, hq _ p, b⟩, f⟩, g⟩
    · exact Or.inr ⟨q, e, E, ce, L, ⟨u, t1, ⟨hx _ _ p, b⟩, f⟩, g⟩
theorem z_Xr_mono {post post' : Nat → zM → Prop} {xp xp' : String → zM → Prop} (h : z_Xr l G q rm av M post xp) (hq : ∀ r M', post r M' → post' r M') (hx : ∀ E M', xp E M' → xp' E M') : z_Xr l G q rm av M post' xp' := fun sz =>
  z_mf (h sz) (fun _ _ hp => hp) fun a s o t _ k => by
    rcases k with ⟨⟨⟨r, u, e, ⟨a, e2, p⟩, b⟩, f⟩, g⟩ | ⟨q, e, E, ce, L, ⟨u, t1, ⟨p, b⟩, f⟩, g⟩
    · exact Or.inl ⟨⟨⟨r, u, e, ⟨a, e2, hq _ _ p⟩, b⟩, f⟩, g⟩
    · exact Or.inr ⟨q, e, E, ce, L, ⟨u, t1, ⟨hx _ _ p, b⟩, f⟩, g⟩
end MONO
/-- two worlds side by side -/
def z_un (A B : zM) : zM := fun q => match A q with
  | some e => some e
  | none => B q
def z_dj (A B : zM) : Prop := ∀ q e, A q = some e → B q = none
theorem z_un_l {A B : zM} {q : Nat} {e : va_E} (h : A q = some e) : z_un A B q = some e := by
  unfold z_un
  rw [h]
theorem z_un_n {A B : zM} {q : Nat} (h : A q = none) : z_un A B q = B q := by
  unfold z_un
  rw [h]
theorem z_un_r {A B : zM} (d : z_dj A B) {q : Nat} {e : va_E} (h : B q = some e) : z_un A B q = some e := by
  cases ha : A q with
  | none => rw [z_un_n ha, h]
  | some f => rw [d q f ha] at h; cases h
theorem z_un_or {A B : zM} {q : Nat} {e : va_E} (h : z_un A B q = some e) : A q = some e ∨ B q = some e := by
  cases ha : A q with
  | none => rw [z_un_n ha] at h; exact Or.inr h
  | some f => rw [z_un_l ha] at h; exact Or.inl h
theorem z_dj_sym {A B : zM} (d : z_dj A B) : z_dj B A := fun q e h => by
  cases ha : A q with
  | none => rfl
  | some f => rw [d q f ha] at h; cases h
theorem z_un_comm {A B : zM} (d : z_dj A B) : z_un A B = z_un B A := by
  funext q
  cases ha : A q with
  | none =>
    cases hb : B q with
    | none => rw [z_un_n ha, z_un_n hb, ha, hb]
    | some e => rw [z_un_n ha, z_un_l hb, hb]
  | some f => rw [z_un_l ha, z_un_r (z_dj_sym d) ha]
theorem z_un_assoc (A B D : zM) : z_un (z_un A B) D = z_un A (z_un B D) := by
  funext q
  cases ha : A q with
  | none => rw [z_un_n ha]; cases hb : B q with
    | none => rw [z_un_n (by rw [z_un_n ha, hb]), z_un_n hb]
    | some e => rw [z_un_l (e := e) (by rw [z_un_n ha, hb]), z_un_l hb]
  | some f => rw [z_un_l (z_un_l ha), z_un_l ha]
theorem z_un_up (A B : zM) (a : Nat) (e : va_E) : z_up (z_un A B) a e = z_un (z_up A a e) B := by
  funext q
  by_cases h : q = a
  · subst h
    rw [z_up_s, z_un_l (z_up_s _ _ _)]
  · rw [z_up_n _ _ h]
    unfold z_un
    rw [z_up_n _ _ h]
theorem z_dj_un {A B D : zM} (h1 : z_dj A D) (h2 : z_dj B D) : z_dj (z_un A B) D := fun q e h => (z_un_or h).elim (h1 q e) (h2 q e)
theorem z_dj_un2 {A B D : zM} (h1 : z_dj A B) (h2 : z_dj A D) : z_dj A (z_un B D) := fun q e h => by rw [z_un_n (h1 q e h)]; exact h2 q e h
theorem z_dj_l {A B D : zM} (h : z_dj (z_un A B) D) : z_dj A D := fun q e h1 => h q e (z_un_l h1)
theorem z_dj_r {A B D : zM} (d : z_dj A B) (h : z_dj (z_un A B) D) : z_dj B D := fun q e h1 => h q e (z_un_r d h1)
theorem z_dj_2l {A B D : zM} (h : z_dj A (z_un B D)) : z_dj A B := fun q e h1 => by
  have h2 := h q e h1
  cases hb : B q with
  | none => rfl
  | some f => rw [z_un_l hb] at h2; cases h2
theorem z_dj_2r {A B D : zM} (h : z_dj A (z_un B D)) : z_dj A D := fun q e h1 => by
  have h2 := h q e h1
  rw [z_un_n (z_dj_2l h q e h1)] at h2
  exact h2
theorem z_h_l {G : zG} {A B : zM} {H : Heap} (h : z_h G (z_un A B) H) : z_h G A H := fun a e ha => h a e (z_un_l ha)
theorem z_h_r {G : zG} {A B : zM} {H : Heap} (d : z_dj A B) (h : z_h G (z_un A B) H) : z_h G B H := fun a e ha => h a e (z_un_r d ha)
theorem z_A_l {A B : zM} {sz q : Nat} (h : z_A A sz q) : z_A (z_un A B) sz q := h.elim (fun ⟨e, he⟩ => Or.inl ⟨e, z_un_l he⟩) Or.inr
theorem z_B_l {G : zG} {A B : zM} {sz : Nat} {U : State} (h : z_B G (z_un A B) sz U) : z_B G A sz U := ⟨h.1, z_h_l h.2.1, h.2.2.1, z_J_narrow h.2.2.2 fun _ q => z_A_l q⟩
/-- what comes behind a call over a part of the world: that part anew, beside the rest -/
theorem z_E_l {G : zG} {A B A' : zM} {sz : Nat} {s t : State} (d : z_dj A B) (hB : z_B G (z_un A B) sz s) (hE : z_E G A sz A' t) (hF : va_F (z_A A sz) s t) : z_dj A' B ∧ z_E G (z_un A B) sz (z_un A' B) t ∧ va_F (z_A (z_un A B) sz) s t := by
  obtain ⟨hsz, hh, _, _⟩ := hB
  have hb := z_h_r d hh
  refine ⟨fun q e h => ?_, ⟨fun a e h => ?_, fun a e h => ?_⟩, hF.1, fun q h1 h2 => hF.2 q h1 fun h3 => h2 (z_A_l h3)⟩
  · rcases hE.2 q e h with ⟨f, hf⟩ | hq
    · exact d q f hf
    · exact z_h_no hb (by rw [hsz]; exact hq)
  · rcases z_un_or h with h | h
    · exact hE.1 a e h
    · have hlt : a < s.heap.size := z_h_lt hb h
      refine (hb a e h).kept (hF.2 a hlt ?_)
      rintro (⟨f, hf⟩ | hq)
      · rw [d a f hf] at h; cases h
      · omega
  · rcases z_un_or h with h | h
    · exact z_A_l (hE.2 a e h)
    · exact Or.inl ⟨e, z_un_r d h⟩
section FRAME
variable {l : Launch} {G : zG} {q : zY} {rm : Room} {av : List Value} {A B : zM}
theorem z_Mi_fr {post : Int32 → zM → Prop} (d : z_dj A B) (h : z_Mi l G q rm av A post) : z_Mi l G q rm av (z_un A B) (fun r M' => ∃ A', post r A' ∧ z_dj A' B ∧ M' = z_un A' B) := fun sz =>
  z_mf (h sz) (fun _ _ hp => ⟨hp.1, z_B_l hp.2⟩) fun a s o t hp ⟨⟨⟨r, u, e, p, b⟩, f⟩, ⟨L, g1, g2⟩⟩ => by
    obtain ⟨k1, k2, k3⟩ := z_E_l d hp.2 b f
    exact ⟨⟨⟨r, _, e, ⟨u, p, k1, rfl⟩, k2⟩, k3⟩, L, g1, fun q h => z_A_l (g2 q h)⟩
theorem z_Ml_fr {post : Int64 → zM → Prop} (d : z_dj A B) (h : z_Ml l G q rm av A post) : z_Ml l G q rm av (z_un A B) (fun r M' => ∃ A', post r A' ∧ z_dj A' B ∧ M' = z_un A' B) := fun sz =>
  z_mf (h sz) (fun _ _ hp => ⟨hp.1, z_B_l hp.2⟩) fun a s o t hp ⟨⟨⟨r, u, e, p, b⟩, f⟩, ⟨L, g1, g2⟩⟩ => by
    obtain ⟨k1, k2, k3⟩ := z_E_l d hp.2 b f
    exact ⟨⟨⟨r, _, e, ⟨u, p, k1, rfl⟩, k2⟩, k3⟩, L, g1, fun q h => z_A_l (g2 q h)⟩
theorem z_Mv_fr {post : zM → Prop} (d : z_dj A B) (h : z_Mv l G q rm av A post) : z_Mv l G q rm av (z_un A B) (fun M' => ∃ A', post A' ∧ z_dj A' B ∧ M' = z_un A' B) := fun sz =>
  z_mf (h sz) (fun _ _ hp => ⟨hp.1, z_B_l hp.2⟩) fun a s o t hp ⟨⟨⟨u, e, p, b⟩, f⟩, ⟨L, g1, g2⟩⟩ => by
    obtain ⟨k1, k2, k3⟩ := z_E_l d hp.2 b f
    exact ⟨⟨⟨_, e, ⟨u, p, k1, rfl⟩, k2⟩, k3⟩, L, g1, fun q h => z_A_l (g2 q h)⟩
theorem z_Mr_fr {post : Nat → zM → Prop} (d : z_dj A B) (h : z_Mr l G q rm av A post) : z_Mr l G q rm av (z_un A B) (fun r M' => ∃ A', post r A' ∧ z_dj A' B ∧ M' = z_un A' B) := fun sz =>
  z_mf (h sz) (fun _ _ hp => ⟨hp.1, z_B_l hp.2⟩) fun a s o t hp ⟨⟨⟨⟨a9, u⟩, r, e, p, b1, b⟩, f⟩, ⟨L, g1, g2⟩⟩ => by
    obtain ⟨k1, k2, k3⟩ := z_E_l d hp.2 b f
    exact ⟨⟨⟨(a9, z_un u B), r, e, ⟨u, p, k1, rfl⟩, b1, k2⟩, k3⟩, L, g1, fun q h => z_A_l (g2 q h)⟩
theorem z_Xi_fr {post : Int32 → zM → Prop} {xp : String → zM → Prop} (d : z_dj A B) (h : z_Xi l G q rm av A post xp) : z_Xi l G q rm av (z_un A B) (fun r M' => ∃ A', post r A' ∧ z_dj A' B ∧ M' = z_un A' B) (fun E M' => ∃ A', xp E A' ∧ z_dj A' B ∧ M' = z_un A' B) := fun sz =>
  z_mf (h sz) (fun _ _ hp => ⟨hp.1, z_B_l hp.2⟩) fun a s o t hp k => by
    rcases k with ⟨⟨⟨r, u, e, p, b⟩, f⟩, ⟨L, g1, g2⟩⟩ | ⟨q, e, E, ce, L, ⟨u, t1, ⟨p, b⟩, f⟩, c1, c2, c3, c4, c5, c6⟩
    · obtain ⟨k1, k2, k3⟩ := z_E_l d hp.2 b f
      exact Or.inl ⟨⟨⟨r, _, e, ⟨u, p, k1, rfl⟩, k2⟩, k3⟩, L, g1, fun q h => z_A_l (g2 q h)⟩
    · obtain ⟨k1, k2, k3⟩ := z_E_l d hp.2 b f
      exact Or.inr ⟨q, e, E, ce, L, ⟨_, t1, ⟨⟨u, p, k1, rfl⟩, k2⟩, k3⟩, c1, c2, c3, c4, c5, fun z h => z_A_l (c6 z h)⟩
theorem z_Xr_fr {post : Nat → zM → Prop} {xp : String → zM → Prop} (d : z_dj A B) (h : z_Xr l G q rm av A post xp) : z_Xr l G q rm av (z_un A B) (fun r M' => ∃ A', post r A' ∧ z_dj A' B ∧ M' = z_un A' B) (fun E M' => ∃ A', xp E A' ∧ z_dj A' B ∧ M' = z_un A' B) := fun sz =>
  z_mf (h sz) (fun _ _ hp => ⟨hp.1, z_B_l hp.2⟩) fun a s o t hp k => by
    rcases k with ⟨⟨⟨r, u, e, ⟨a9, e2, p⟩, b⟩, f⟩, ⟨L, g1, g2⟩⟩ | ⟨q, e, E, ce, L, ⟨u, t1, ⟨p, b⟩, f⟩, c1, c2, c3, c4, c5, c6⟩
    · obtain ⟨k1, k2, k3⟩ := z_E_l d hp.2 b f
      exact Or.inl ⟨⟨⟨r, _, e, ⟨a9, e2, u, p, k1, rfl⟩, k2⟩, k3⟩, L, g1, fun q h => z_A_l (g2 q h)⟩
    · obtain ⟨k1, k2, k3⟩ := z_E_l d hp.2 b f
      exact Or.inr ⟨q, e, E, ce, L, ⟨_, t1, ⟨⟨u, p, k1, rfl⟩, k2⟩, k3⟩, c1, c2, c3, c4, c5, fun z h => z_A_l (c6 z h)⟩
end FRAME
