theorem z_p0 (x : Int32) : x + nI 0 = x := by rw [nI_0, Int32.add_zero]
theorem z_pS (x : Int32) (j : Nat) : x + nI j + 1 = x + nI (j + 1) := by rw [Int32.add_assoc, nI_1]
theorem z_orS {ba sa cp po li : Int32} {nt : Nat} (h : z_or ba sa cp po li nt) (hx : ¬ li - po = 0) : z_or ba sa cp (po + 1) li nt := by
  obtain ⟨a1, a2, a3, a4, a5, a6, a7, a8⟩ := h
  have : po.toInt ≠ li.toInt := fun e => hx (by rw [z_eqI, fb_subI (by omega) (by omega), z_t0]; omega)
  have e : (po + 1).toInt = po.toInt + 1 := by rw [fb_addI (by rw [z_t1]; omega) (by rw [z_t1]; omega), z_t1]
  exact ⟨a1, a2, by omega, by omega, a5, a6, a7, a8⟩
/-- a row after j values were put from place b + po on: first, first + step, .. -/
def z_fl (f : Nat → Int32) (b po fi st : Int32) : Nat → Nat → Int32
  | 0 => f
  | j + 1 => upd (z_fl f b po fi st j) (b + (po + nI j)).toNatClampNeg (fi + nI j * st)
/-- a row after j values of a pane came to its beginning -/
def z_pk (f : Nat → Int32) (b po : Int32) : Nat → Nat → Int32
  | 0 => f
  | j + 1 => upd (z_pk f b po j) (b + nI j).toNatClampNeg (z_pk f b po j (b + (po + nI j)).toNatClampNeg)
/-- a row after j values were poured, from b + po on to b2 + po2 on -/
def z_pr (f : Nat → Int32) (b po b2 po2 : Int32) : Nat → Nat → Int32
  | 0 => f
  | j + 1 => upd (z_pr f b po b2 po2 j) (b2 + (po2 + nI j)).toNatClampNeg (z_pr f b po b2 po2 j (b + (po + nI j + 1 - 1)).toNatClampNeg)
/-- a row after j values of a pane were poured into the same pane -/
def z_ps (f : Nat → Int32) (b po : Int32) : Nat → Nat → Int32
  | 0 => f
  | j + 1 => upd (z_ps f b po j) (b + (po + nI (2 * j) + 1)).toNatClampNeg (z_ps f b po j (b + (po + nI (2 * j) + 1 - 1)).toNatClampNeg)
def z_sm (f : Nat → Int32) : Nat → Int32
  | 0 => 0
  | j + 1 => z_sm f j + f j
def z_cm (f : Nat → Int32) : Nat → Int32
  | 0 => 0
  | j + 1 => z_cm f j + if f j = -1 then 0 else 1
theorem z_cm0 {f : Nat → Int32} {j : Nat} (h : f j = -1) : z_cm f j + 0 = z_cm f (j + 1) := by
  show _ = z_cm f j + _
  rw [if_pos h]
theorem z_cm1 {f : Nat → Int32} {j : Nat} (h : ¬ f j = -1) : z_cm f j + 1 = z_cm f (j + 1) := by
  show _ = z_cm f j + _
  rw [if_neg h]
theorem z_gt0 {x : Int32} (h : ¬ x ≤ 0) : ¬ x = 0 := fun e => h (by rw [e]; exact Int32.le_refl 0)
theorem z_orM {ba sa cp po li : Int32} {nt : Nat} (h : z_or ba sa cp po li nt) : li - po = nI (li - po).toNatClampNeg ∧ (li - po).toNatClampNeg ≤ 16 := by
  obtain ⟨a1, a2, a3, a4, a5, a6, a7, a8⟩ := h
  have e : (li - po).toInt = li.toInt - po.toInt := fb_subI (by omega) (by omega)
  have h3 := z_cl (x := li - po) (by rw [z_le, z_t0]; omega)
  refine ⟨?_, by omega⟩
  rw [z_eqI, nI_toInt (by omega)]
  omega
theorem z_orK1 {ba sa cp po li : Int32} {nt mn j : Nat} (h : z_or ba sa cp po li nt) (hm : li - po = nI mn) (hb : mn ≤ 16) (hj : j < mn) : vp_in (ba + sa + nI j) nt := by
  obtain ⟨a1, a2, a3, a4, a5, a6, a7, a8⟩ := id h
  have e : (li - po).toInt = li.toInt - po.toInt := fb_subI (by omega) (by omega)
  rw [hm, nI_toInt (by omega)] at e
  have ej : (nI j).toInt = j := nI_toInt (by omega)
  exact z_orI h (by omega) (by omega)
theorem z_orK2 {ba sa cp po li : Int32} {nt mn j : Nat} (h : z_or ba sa cp po li nt) (hm : li - po = nI mn) (hb : mn ≤ 16) (hj : j < mn) : vp_in (ba + sa + (po + nI j)) nt := by
  obtain ⟨a1, a2, a3, a4, a5, a6, a7, a8⟩ := id h
  have e : (li - po).toInt = li.toInt - po.toInt := fb_subI (by omega) (by omega)
  rw [hm, nI_toInt (by omega)] at e
  have ej : (nI j).toInt = j := nI_toInt (by omega)
  have e2 : (po + nI j).toInt = po.toInt + j := by rw [fb_addI (by omega) (by omega), ej]
  exact z_orI h (by omega) (by omega)
theorem z_w6 {w : Int32} (h : w < 7) (h6 : ¬ w = 6) : ¬ 6 ≤ w := by
  rw [z_ltI, show (7 : Int32).toInt = 7 from by decide] at h
  rw [z_eqI, show (6 : Int32).toInt = 6 from by decide] at h6
  rw [z_le, show (6 : Int32).toInt = 6 from by decide]
  omega
theorem z_w9 {w : Int32} (h : ¬ z_is w 0 8 = 0) (h6 : ¬ 6 ≤ w) : vp_in w 6 := by
  obtain ⟨h1, h2⟩ := z_is1 h
  rw [z_le, z_t0] at h1
  rw [z_le, show (6 : Int32).toInt = 6 from by decide] at h6
  rw [z_inT]
  omega
theorem dX5_bring_0 : decode cX5_bring 0 = .ok (.aload_n 0, 1) := by decide +kernel
theorem dX5_bring_1 : decode cX5_bring 1 = .ok (.iload_n 1, 1) := by decide +kernel
theorem dX5_bring_2 : decode cX5_bring 2 = .ok (.invokestatic 55, 3) := by decide +kernel
theorem dX5_bring_5 : decode cX5_bring 5 = .ok (.ifCond .eq 14, 3) := by decide +kernel
theorem dX5_bring_8 : decode cX5_bring 8 = .ok (.iload_n 3, 1) := by decide +kernel
theorem dX5_bring_9 : decode cX5_bring 9 = .ok (.invokestatic 55, 3) := by decide +kernel
theorem dX5_bring_12 : decode cX5_bring 12 = .ok (.ifCond .eq 7, 3) := by decide +kernel
theorem dX5_bring_15 : decode cX5_bring 15 = .ok (.iconst 1, 1) := by decide +kernel
theorem dX5_bring_16 : decode cX5_bring 16 = .ok (.goto 4, 3) := by decide +kernel
theorem dX5_bring_19 : decode cX5_bring 19 = .ok (.iconst 0, 1) := by decide +kernel
theorem dX5_bring_20 : decode cX5_bring 20 = .ok (.iconst 1, 1) := by decide +kernel
theorem dX5_bring_21 : decode cX5_bring 21 = .ok (.invokevirtual 59, 3) := by decide +kernel
theorem dX5_bring_24 : decode cX5_bring 24 = .ok (.ifCond .ne 5, 3) := by decide +kernel
theorem dX5_bring_27 : decode cX5_bring 27 = .ok (.iconst 0, 1) := by decide +kernel
theorem dX5_bring_28 : decode cX5_bring 28 = .ok (.ireturn, 1) := by decide +kernel
theorem dX5_bring_29 : decode cX5_bring 29 = .ok (.aload_n 0, 1) := by decide +kernel
theorem dX5_bring_30 : decode cX5_bring 30 = .ok (.getfield 18, 3) := by decide +kernel
theorem dX5_bring_33 : decode cX5_bring 33 = .ok (.iload_n 1, 1) := by decide +kernel
theorem dX5_bring_34 : decode cX5_bring 34 = .ok (.aaload, 1) := by decide +kernel
theorem dX5_bring_35 : decode cX5_bring 35 = .ok (.astore 5, 2) := by decide +kernel
theorem dX5_bring_37 : decode cX5_bring 37 = .ok (.aload_n 0, 1) := by decide +kernel
theorem dX5_bring_38 : decode cX5_bring 38 = .ok (.getfield 18, 3) := by decide +kernel
theorem dX5_bring_41 : decode cX5_bring 41 = .ok (.iload_n 3, 1) := by decide +kernel
theorem dX5_bring_42 : decode cX5_bring 42 = .ok (.aaload, 1) := by decide +kernel
theorem dX5_bring_43 : decode cX5_bring 43 = .ok (.astore 6, 2) := by decide +kernel
theorem dX5_bring_45 : decode cX5_bring 45 = .ok (.iload 4, 2) := by decide +kernel
theorem dX5_bring_47 : decode cX5_bring 47 = .ok (.iconst 0, 1) := by decide +kernel
theorem dX5_bring_48 : decode cX5_bring 48 = .ok (.aload 6, 2) := by decide +kernel
theorem dX5_bring_50 : decode cX5_bring 50 = .ok (.iconst 5, 1) := by decide +kernel
theorem dX5_bring_51 : decode cX5_bring 51 = .ok (.iaload, 1) := by decide +kernel
theorem dX5_bring_52 : decode cX5_bring 52 = .ok (.iconst 1, 1) := by decide +kernel
theorem dX5_bring_53 : decode cX5_bring 53 = .ok (.isub, 1) := by decide +kernel
theorem dX5_bring_54 : decode cX5_bring 54 = .ok (.invokestatic 36, 3) := by decide +kernel
theorem dX5_bring_57 : decode cX5_bring 57 = .ok (.ifCond .eq 17, 3) := by decide +kernel
theorem dX5_bring_60 : decode cX5_bring 60 = .ok (.iload_n 2, 1) := by decide +kernel
theorem dX5_bring_61 : decode cX5_bring 61 = .ok (.iconst 0, 1) := by decide +kernel
theorem dX5_bring_62 : decode cX5_bring 62 = .ok (.aload 5, 2) := by decide +kernel
theorem dX5_bring_64 : decode cX5_bring 64 = .ok (.iconst 5, 1) := by decide +kernel
theorem dX5_bring_65 : decode cX5_bring 65 = .ok (.iaload, 1) := by decide +kernel
theorem dX5_bring_66 : decode cX5_bring 66 = .ok (.iconst 1, 1) := by decide +kernel
theorem dX5_bring_67 : decode cX5_bring 67 = .ok (.isub, 1) := by decide +kernel
theorem dX5_bring_68 : decode cX5_bring 68 = .ok (.invokestatic 36, 3) := by decide +kernel
theorem dX5_bring_71 : decode cX5_bring 71 = .ok (.ifCond .ne 9, 3) := by decide +kernel
theorem dX5_bring_74 : decode cX5_bring 74 = .ok (.aload_n 0, 1) := by decide +kernel
theorem dX5_bring_75 : decode cX5_bring 75 = .ok (.iconst 5, 1) := by decide +kernel
theorem dX5_bring_76 : decode cX5_bring 76 = .ok (.invokevirtual 47, 3) := by decide +kernel
theorem dX5_bring_79 : decode cX5_bring 79 = .ok (.ireturn, 1) := by decide +kernel
theorem dX5_bring_80 : decode cX5_bring 80 = .ok (.aload 5, 2) := by decide +kernel
theorem dX5_bring_82 : decode cX5_bring 82 = .ok (.bipush 7, 2) := by decide +kernel
theorem dX5_bring_84 : decode cX5_bring 84 = .ok (.iaload, 1) := by decide +kernel
theorem dX5_bring_85 : decode cX5_bring 85 = .ok (.iconst 1, 1) := by decide +kernel
theorem dX5_bring_86 : decode cX5_bring 86 = .ok (.if_icmp .ne 9, 3) := by decide +kernel
theorem dX5_bring_89 : decode cX5_bring 89 = .ok (.aload_n 0, 1) := by decide +kernel
theorem dX5_bring_90 : decode cX5_bring 90 = .ok (.iconst 4, 1) := by decide +kernel
theorem dX5_bring_91 : decode cX5_bring 91 = .ok (.invokevirtual 47, 3) := by decide +kernel
theorem dX5_bring_94 : decode cX5_bring 94 = .ok (.ireturn, 1) := by decide +kernel
theorem dX5_bring_95 : decode cX5_bring 95 = .ok (.aload_n 0, 1) := by decide +kernel
theorem dX5_bring_96 : decode cX5_bring 96 = .ok (.aload_n 0, 1) := by decide +kernel
theorem dX5_bring_97 : decode cX5_bring 97 = .ok (.aload_n 0, 1) := by decide +kernel
theorem dX5_bring_98 : decode cX5_bring 98 = .ok (.aload 5, 2) := by decide +kernel
theorem dX5_bring_100 : decode cX5_bring 100 = .ok (.iload_n 2, 1) := by decide +kernel
theorem dX5_bring_101 : decode cX5_bring 101 = .ok (.invokevirtual 51, 3) := by decide +kernel
theorem dX5_bring_104 : decode cX5_bring 104 = .ok (.aload_n 0, 1) := by decide +kernel
theorem dX5_bring_105 : decode cX5_bring 105 = .ok (.getfield 9, 3) := by decide +kernel
theorem dX5_bring_108 : decode cX5_bring 108 = .ok (.aload_n 0, 1) := by decide +kernel
theorem dX5_bring_109 : decode cX5_bring 109 = .ok (.aload 6, 2) := by decide +kernel
theorem dX5_bring_111 : decode cX5_bring 111 = .ok (.iload 4, 2) := by decide +kernel
theorem dX5_bring_113 : decode cX5_bring 113 = .ok (.invokevirtual 51, 3) := by decide +kernel
theorem dX5_bring_116 : decode cX5_bring 116 = .ok (.iaload, 1) := by decide +kernel
theorem dX5_bring_117 : decode cX5_bring 117 = .ok (.invokevirtual 95, 3) := by decide +kernel
theorem dX5_bring_120 : decode cX5_bring 120 = .ok (.invokevirtual 63, 3) := by decide +kernel
theorem dX5_bring_123 : decode cX5_bring 123 = .ok (.ireturn, 1) := by decide +kernel
theorem dJ9_min_7cf53_0 : decode cJ9_min_7cf53 0 = .ok (.iload_n 0, 1) := by decide +kernel
theorem dJ9_min_7cf53_1 : decode cJ9_min_7cf53 1 = .ok (.iload_n 1, 1) := by decide +kernel
theorem dJ9_min_7cf53_2 : decode cJ9_min_7cf53 2 = .ok (.if_icmp .gt 7, 3) := by decide +kernel
theorem dJ9_min_7cf53_5 : decode cJ9_min_7cf53 5 = .ok (.iload_n 0, 1) := by decide +kernel
theorem dJ9_min_7cf53_6 : decode cJ9_min_7cf53 6 = .ok (.goto 4, 3) := by decide +kernel
theorem dJ9_min_7cf53_9 : decode cJ9_min_7cf53 9 = .ok (.iload_n 1, 1) := by decide +kernel
theorem dJ9_min_7cf53_10 : decode cJ9_min_7cf53 10 = .ok (.ireturn, 1) := by decide +kernel
theorem dX5_drain_0 : decode cX5_drain 0 = .ok (.aload_n 0, 1) := by decide +kernel
theorem dX5_drain_1 : decode cX5_drain 1 = .ok (.iload_n 1, 1) := by decide +kernel
theorem dX5_drain_2 : decode cX5_drain 2 = .ok (.invokestatic 55, 3) := by decide +kernel
theorem dX5_drain_5 : decode cX5_drain 5 = .ok (.iload_n 2, 1) := by decide +kernel
theorem dX5_drain_6 : decode cX5_drain 6 = .ok (.iconst 0, 1) := by decide +kernel
theorem dX5_drain_7 : decode cX5_drain 7 = .ok (.bipush 20, 2) := by decide +kernel
theorem dX5_drain_9 : decode cX5_drain 9 = .ok (.invokestatic 36, 3) := by decide +kernel
theorem dX5_drain_12 : decode cX5_drain 12 = .ok (.invokevirtual 59, 3) := by decide +kernel
theorem dX5_drain_15 : decode cX5_drain 15 = .ok (.ifCond .ne 5, 3) := by decide +kernel
theorem dX5_drain_18 : decode cX5_drain 18 = .ok (.iconst 0, 1) := by decide +kernel
theorem dX5_drain_19 : decode cX5_drain 19 = .ok (.ireturn, 1) := by decide +kernel
theorem dX5_drain_20 : decode cX5_drain 20 = .ok (.aload_n 0, 1) := by decide +kernel
theorem dX5_drain_21 : decode cX5_drain 21 = .ok (.getfield 18, 3) := by decide +kernel
theorem dX5_drain_24 : decode cX5_drain 24 = .ok (.iload_n 1, 1) := by decide +kernel
theorem dX5_drain_25 : decode cX5_drain 25 = .ok (.aaload, 1) := by decide +kernel
theorem dX5_drain_26 : decode cX5_drain 26 = .ok (.astore_n 3, 1) := by decide +kernel
theorem dX5_drain_27 : decode cX5_drain 27 = .ok (.iload_n 2, 1) := by decide +kernel
theorem dX5_drain_28 : decode cX5_drain 28 = .ok (.aload_n 3, 1) := by decide +kernel
theorem dX5_drain_29 : decode cX5_drain 29 = .ok (.invokestatic 43, 3) := by decide +kernel
theorem dX5_drain_32 : decode cX5_drain 32 = .ok (.invokestatic 99, 3) := by decide +kernel
theorem dX5_drain_35 : decode cX5_drain 35 = .ok (.istore 4, 2) := by decide +kernel
theorem dX5_drain_37 : decode cX5_drain 37 = .ok (.aload_n 3, 1) := by decide +kernel
theorem dX5_drain_38 : decode cX5_drain 38 = .ok (.iconst 4, 1) := by decide +kernel
theorem dX5_drain_39 : decode cX5_drain 39 = .ok (.dup2, 1) := by decide +kernel
theorem dX5_drain_40 : decode cX5_drain 40 = .ok (.iaload, 1) := by decide +kernel
theorem dX5_drain_41 : decode cX5_drain 41 = .ok (.iload 4, 2) := by decide +kernel
theorem dX5_drain_43 : decode cX5_drain 43 = .ok (.iadd, 1) := by decide +kernel
theorem dX5_drain_44 : decode cX5_drain 44 = .ok (.iastore, 1) := by decide +kernel
theorem dX5_drain_45 : decode cX5_drain 45 = .ok (.iload 4, 2) := by decide +kernel
theorem dX5_drain_47 : decode cX5_drain 47 = .ok (.iload_n 2, 1) := by decide +kernel
theorem dX5_drain_48 : decode cX5_drain 48 = .ok (.if_icmp .ge 9, 3) := by decide +kernel
theorem dX5_drain_51 : decode cX5_drain 51 = .ok (.aload_n 0, 1) := by decide +kernel
theorem dX5_drain_52 : decode cX5_drain 52 = .ok (.iconst 2, 1) := by decide +kernel
theorem dX5_drain_53 : decode cX5_drain 53 = .ok (.invokevirtual 47, 3) := by decide +kernel
theorem dX5_drain_56 : decode cX5_drain 56 = .ok (.pop, 1) := by decide +kernel
theorem dX5_drain_57 : decode cX5_drain 57 = .ok (.aload_n 0, 1) := by decide +kernel
theorem dX5_drain_58 : decode cX5_drain 58 = .ok (.iload 4, 2) := by decide +kernel
theorem dX5_drain_60 : decode cX5_drain 60 = .ok (.invokevirtual 63, 3) := by decide +kernel
theorem dX5_drain_63 : decode cX5_drain 63 = .ok (.ireturn, 1) := by decide +kernel
set_option maxRecDepth 20000 in
theorem c_X5_bring_bad (l : Launch) (G : zG) {M : zM} {m : Nat} {pane : Int32} {ix : Int32} {other : Int32} {fr : Int32} {tp : Nat} {nr : Int32} {pn : Nat} {td : Nat} {ac : Int32} {kn : Int32} {th : Int32}  (h_m : M m = some (cMd tp nr pn td ac kn th)) (h_bad : z_is pane 0 5 = 0) : z_Mi l G qX5_bring (z_rm 3 0 0) [.ref m, .int pane, .int ix, .int other, .int fr] M (fun r M' => r = 0 ∧ M' = z_up M m (cMd tp nr pn td ac kn (z_lt 0 1)))  := by
  refine z_Mi_of _ (plainFor_of_name rfl) rfl (Nat.le_of_ble_eq_true rfl) (fun X hl hG hnm C ret => ?_)
  subst hl; subst hG
  have C : z_C X cX5_bring RX5 7 (z_rm 3 0 0) := C
  show z_W X M 0 0 0 [(0, .ref m), (1, .int pane), (2, .int ix), (3, .int other), (4, .int fr)] []
  refine z_aload_n C dX5_bring_0 rfl 0 rfl ?_
  refine z_iload_n C dX5_bring_1 rfl 1 rfl ?_
  refine z_callSi (rest := [.ref m]) (k' := 0) (n' := 0) C (c_X5_isPane (z_l X) (z_G X) ) (cs_X5_55 C (by decide)) rfl rfl (Nat.le_of_ble_eq_true rfl) rfl rfl (by decide) (by decide) dX5_bring_2 (fun x2 M' hq => ?_)
  obtain ⟨rfl, rfl⟩ := hq
  refine z_if_eq C (tgt := 19) dX5_bring_5 (by decide) (fun _ => ?_) (fun c5 => absurd h_bad c5)
  refine z_iconst C (v := 0) dX5_bring_19 (by decide) ?_
  refine z_iconst C (v := 1) dX5_bring_20 (by decide) ?_
  refine z_callVi (rest := []) (k' := 0) (n' := 0) C (c_X5_isLet (z_l X) (z_G X) h_m) (cs_X5_59 C (by decide)) h_m rfl rfl rfl rfl (Nat.le_of_ble_eq_true rfl) rfl rfl (by decide) (by decide) dX5_bring_21 (fun x21 M' hq => ?_)
  obtain ⟨rfl, rfl⟩ := hq
  refine z_if_ne C (tgt := 29) dX5_bring_24 (by decide) (fun c24 => absurd (by simp [z_lr, z_lt]) c24) (fun _ => ?_)
  refine z_iconst C (v := 0) dX5_bring_27 (by decide) ?_
  exact ret dX5_bring_28 rfl (⟨rfl, rfl⟩) (by decide) (by decide)
set_option maxRecDepth 20000 in
theorem c_X5_bring_bad2 (l : Launch) (G : zG) {M : zM} {m : Nat} {pane : Int32} {ix : Int32} {other : Int32} {fr : Int32} {tp : Nat} {nr : Int32} {pn : Nat} {td : Nat} {ac : Int32} {kn : Int32} {th : Int32}  (h_m : M m = some (cMd tp nr pn td ac kn th)) (h_ok : z_is pane 0 5 = 1) (h_bad2 : z_is other 0 5 = 0) : z_Mi l G qX5_bring (z_rm 3 0 0) [.ref m, .int pane, .int ix, .int other, .int fr] M (fun r M' => r = 0 ∧ M' = z_up M m (cMd tp nr pn td ac kn (z_lt 0 1)))  := by
  refine z_Mi_of _ (plainFor_of_name rfl) rfl (Nat.le_of_ble_eq_true rfl) (fun X hl hG hnm C ret => ?_)
  subst hl; subst hG
  have C : z_C X cX5_bring RX5 7 (z_rm 3 0 0) := C
  show z_W X M 0 0 0 [(0, .ref m), (1, .int pane), (2, .int ix), (3, .int other), (4, .int fr)] []
  refine z_aload_n C dX5_bring_0 rfl 0 rfl ?_
  refine z_iload_n C dX5_bring_1 rfl 1 rfl ?_
  refine z_callSi (rest := [.ref m]) (k' := 0) (n' := 0) C (c_X5_isPane (z_l X) (z_G X) ) (cs_X5_55 C (by decide)) rfl rfl (Nat.le_of_ble_eq_true rfl) rfl rfl (by decide) (by decide) dX5_bring_2 (fun x2 M' hq => ?_)
  obtain ⟨rfl, rfl⟩ := hq
  refine z_if_eq C (tgt := 19) dX5_bring_5 (by decide) (fun c5 => absurd c5 (by rw [h_ok]; decide)) (fun _ => ?_)
  refine z_iload_n C dX5_bring_8 rfl 3 rfl ?_
  refine z_callSi (rest := [.ref m]) (k' := 0) (n' := 0) C (c_X5_isPane (z_l X) (z_G X) ) (cs_X5_55 C (by decide)) rfl rfl (Nat.le_of_ble_eq_true rfl) rfl rfl (by decide) (by decide) dX5_bring_9 (fun x9 M' hq => ?_)
  obtain ⟨rfl, rfl⟩ := hq
  refine z_if_eq C (tgt := 19) dX5_bring_12 (by decide) (fun _ => ?_) (fun c12 => absurd h_bad2 c12)
  refine z_iconst C (v := 0) dX5_bring_19 (by decide) ?_
  refine z_iconst C (v := 1) dX5_bring_20 (by decide) ?_
  refine z_callVi (rest := []) (k' := 0) (n' := 0) C (c_X5_isLet (z_l X) (z_G X) h_m) (cs_X5_59 C (by decide)) h_m rfl rfl rfl rfl (Nat.le_of_ble_eq_true rfl) rfl rfl (by decide) (by decide) dX5_bring_21 (fun x21 M' hq => ?_)
  obtain ⟨rfl, rfl⟩ := hq
  refine z_if_ne C (tgt := 29) dX5_bring_24 (by decide) (fun c24 => absurd (by simp [z_lr, z_lt]) c24) (fun _ => ?_)
  refine z_iconst C (v := 0) dX5_bring_27 (by decide) ?_
  exact ret dX5_bring_28 rfl (⟨rfl, rfl⟩) (by decide) (by decide)
set_option maxRecDepth 20000 in
theorem c_X5_bring (l : Launch) (G : zG) {M : zM} {m : Nat} {pane : Int32} {ix : Int32} {other : Int32} {fr : Int32} {tp : Nat} {nr : Int32} {pn : Nat} {td : Nat} {ac : Int32} {kn : Int32} {th : Int32} {fd : Nat → Int32} {nt : Nat} {ft : Nat → Int32} {fp : Nat → Option Nat} {p : Nat} {ro : Int32} {ba : Int32} {sa : Int32} {cp : Int32} {po : Int32} {li : Int32} {mk : Int32} {rd : Int32} {p2 : Nat} {ro2 : Int32} {ba2 : Int32} {sa2 : Int32} {cp2 : Int32} {po2 : Int32} {li2 : Int32} {mk2 : Int32} {rd2 : Int32} {i i2 : Nat}  (h_m : M m = some (cMd tp nr pn td ac kn th)) (h_td : M td = some (aI G 6 fd)) (h_tp : M tp = some (aI G nt ft)) (h_pn : M pn = some (aII G 6 fp)) (h_p : M p = some (cPm G ro ba sa cp po li mk rd)) (h_p2 : M p2 = some (cPm G ro2 ba2 sa2 cp2 po2 li2 mk2 rd2)) (h_ok : z_is pane 0 5 = 1) (h_ip : vp_in pane 6) (h_ij : pane.toNatClampNeg = i) (h_fp : fp i = some p) (h_ok2 : z_is other 0 5 = 1) (h_ip2 : vp_in other 6) (h_ij2 : other.toNatClampNeg = i2) (h_fp2 : fp i2 = some p2) (n_p_tp : p ≠ tp) (n_p_td : p ≠ td) (n_td_tp : td ≠ tp) (n_p2_tp : p2 ≠ tp) (n_p2_td : p2 ≠ td) (h_or : z_or ba sa cp po li nt) (h_or2 : z_or ba2 sa2 cp2 po2 li2 nt) : z_Mi l G qX5_bring (z_rm 3 0 0) [.ref m, .int pane, .int ix, .int other, .int fr] M (fun r M' => (((z_is fr 0 (li2 - 1)) = 0) ∧ r = (-9) ∧ M' = z_up (z_up M m (cMd tp nr pn td ac kn (z_lt 1 1))) td (aI G 6 (upd fd 5 ((fd 5) + 1)))) ∨ ((¬ (z_is fr 0 (li2 - 1)) = 0) ∧ (¬ (z_is ix 0 (li - 1)) = 0) ∧ (¬ rd = 1) ∧ r = (ft ((ba + sa) + ix).toNatClampNeg) ∧ M' = z_up (z_up M tp (aI G nt (upd ft ((ba + sa) + ix).toNatClampNeg (ft (((ba2 + sa2) + fr).toNatClampNeg))))) m (cMd tp nr pn td (ac + 1) kn (z_lt 1 1))) ∨ ((¬ (z_is fr 0 (li2 - 1)) = 0) ∧ (¬ (z_is ix 0 (li - 1)) = 0) ∧ (rd = 1) ∧ r = (-9) ∧ M' = z_up (z_up M m (cMd tp nr pn td ac kn (z_lt 1 1))) td (aI G 6 (upd fd 4 ((fd 4) + 1)))) ∨ ((¬ (z_is fr 0 (li2 - 1)) = 0) ∧ ((z_is ix 0 (li - 1)) = 0) ∧ r = (-9) ∧ M' = z_up (z_up M m (cMd tp nr pn td ac kn (z_lt 1 1))) td (aI G 6 (upd fd 5 ((fd 5) + 1)))))  := by
  refine z_Mi_of _ (plainFor_of_name rfl) rfl (Nat.le_of_ble_eq_true rfl) (fun X hl hG hnm C ret => ?_)
  subst hl; subst hG
  have C : z_C X cX5_bring RX5 7 (z_rm 3 0 0) := C
  show z_W X M 0 0 0 [(0, .ref m), (1, .int pane), (2, .int ix), (3, .int other), (4, .int fr)] []
  refine z_aload_n C dX5_bring_0 rfl 0 rfl ?_
  refine z_iload_n C dX5_bring_1 rfl 1 rfl ?_
  refine z_callSi (rest := [.ref m]) (k' := 0) (n' := 0) C (c_X5_isPane (z_l X) (z_G X) ) (cs_X5_55 C (by decide)) rfl rfl (Nat.le_of_ble_eq_true rfl) rfl rfl (by decide) (by decide) dX5_bring_2 (fun x2 M' hq => ?_)
  obtain ⟨rfl, rfl⟩ := hq
  refine z_if_eq C (tgt := 19) dX5_bring_5 (by decide) (fun c5 => absurd c5 (by rw [h_ok]; decide)) (fun _ => ?_)
  refine z_iload_n C dX5_bring_8 rfl 3 rfl ?_
  refine z_callSi (rest := [.ref m]) (k' := 0) (n' := 0) C (c_X5_isPane (z_l X) (z_G X) ) (cs_X5_55 C (by decide)) rfl rfl (Nat.le_of_ble_eq_true rfl) rfl rfl (by decide) (by decide) dX5_bring_9 (fun x9 M' hq => ?_)
  obtain ⟨rfl, rfl⟩ := hq
  refine z_if_eq C (tgt := 19) dX5_bring_12 (by decide) (fun c12 => absurd c12 (by rw [h_ok2]; decide)) (fun _ => ?_)
  refine z_iconst C (v := 1) dX5_bring_15 (by decide) ?_
  refine z_goto C (tgt := 20) dX5_bring_16 (by decide) ?_
  refine z_iconst C (v := 1) dX5_bring_20 (by decide) ?_
  refine z_callVi (rest := []) (k' := 0) (n' := 0) C (c_X5_isLet (z_l X) (z_G X) h_m) (cs_X5_59 C (by decide)) h_m rfl rfl rfl rfl (Nat.le_of_ble_eq_true rfl) rfl rfl (by decide) (by decide) dX5_bring_21 (fun x21 M' hq => ?_)
  obtain ⟨rfl, rfl⟩ := hq
  refine z_if_ne C (tgt := 29) dX5_bring_24 (by decide) (fun _ => ?_) (fun c24 => absurd c24 (by simp [z_lr, z_lt]))
  refine z_aload_n C dX5_bring_29 rfl 0 rfl ?_
  refine gf_X5_18 C (z_up_s _ _ _) dX5_bring_30 ?_
  refine z_iload_n C dX5_bring_33 rfl 1 rfl ?_
  refine z_aaldI (j := i) C ((z_up_n _ _ (z_ne h_pn h_m (by intro h; cases h))).trans h_pn) h_ip h_ij h_fp dX5_bring_34 ?_
  refine z_astore (lv' := [(5, .ref p), (0, .ref m), (1, .int pane), (2, .int ix), (3, .int other), (4, .int fr)]) C dX5_bring_35 (by decide) rfl ?_
  refine z_aload_n C dX5_bring_37 rfl 1 rfl ?_
  refine gf_X5_18 C (z_up_s _ _ _) dX5_bring_38 ?_
  refine z_iload_n C dX5_bring_41 rfl 4 rfl ?_
  refine z_aaldI (j := i2) C ((z_up_n _ _ (z_ne h_pn h_m (by intro h; cases h))).trans h_pn) h_ip2 h_ij2 h_fp2 dX5_bring_42 ?_
  refine z_astore (lv' := [(6, .ref p2), (5, .ref p), (0, .ref m), (1, .int pane), (2, .int ix), (3, .int other), (4, .int fr)]) C dX5_bring_43 (by decide) rfl ?_
  refine z_iload C dX5_bring_45 6 rfl ?_
  refine z_iconst C (v := 0) dX5_bring_47 (by decide) ?_
  refine z_aload C dX5_bring_48 0 rfl ?_
  refine z_iconst C (v := 5) dX5_bring_50 (by decide) ?_
  refine z_pl5 C ((z_up_n _ _ (z_ne h_p2 h_m (by intro h; cases h))).trans h_p2) dX5_bring_51 ?_
  refine z_iconst C (v := 1) dX5_bring_52 (by decide) ?_
  refine z_isub C dX5_bring_53 ?_
  refine z_callSi (rest := []) (k' := 0) (n' := 0) C (c_X5_isIn (z_l X) (z_G X) ) (cs_X5_36 C (by decide)) rfl rfl (Nat.le_of_ble_eq_true rfl) rfl rfl (by decide) (by decide) dX5_bring_54 (fun x54 M' hq => ?_)
  obtain ⟨rfl, rfl⟩ := hq
  refine z_if_eq C (tgt := 74) dX5_bring_57 (by decide) (fun c57 => ?_) (fun c57 => ?_)
  · refine z_aload_n C dX5_bring_74 rfl 2 rfl ?_
    refine z_iconst C (v := 5) dX5_bring_75 (by decide) ?_
    refine z_callVi (rest := []) (k' := 0) (n' := 0) C (c_X5_refuse (z_l X) (z_G X) (z_up_s _ _ _) ((z_up_n _ _ (z_ne h_td h_m (by intro h; cases h))).trans h_td) (z_inL (by decide)) (show (5 : Int32).toNatClampNeg = 5 by decide)) (cs_X5_47 C (by decide)) (z_up_s _ _ _) rfl rfl rfl rfl (Nat.le_of_ble_eq_true rfl) rfl rfl (by decide) (by decide) dX5_bring_76 (fun x76 M' hq => ?_)
    obtain ⟨rfl, rfl⟩ := hq
    exact ret dX5_bring_79 rfl (Or.inl ⟨c57, rfl, rfl⟩) (by decide) (by decide)
  · refine z_iload_n C dX5_bring_60 rfl 4 rfl ?_
    refine z_iconst C (v := 0) dX5_bring_61 (by decide) ?_
    refine z_aload C dX5_bring_62 1 rfl ?_
    refine z_iconst C (v := 5) dX5_bring_64 (by decide) ?_
    refine z_pl5 C ((z_up_n _ _ (z_ne h_p h_m (by intro h; cases h))).trans h_p) dX5_bring_65 ?_
    refine z_iconst C (v := 1) dX5_bring_66 (by decide) ?_
    refine z_isub C dX5_bring_67 ?_
    refine z_callSi (rest := []) (k' := 0) (n' := 0) C (c_X5_isIn (z_l X) (z_G X) ) (cs_X5_36 C (by decide)) rfl rfl (Nat.le_of_ble_eq_true rfl) rfl rfl (by decide) (by decide) dX5_bring_68 (fun x68 M' hq => ?_)
    obtain ⟨rfl, rfl⟩ := hq
    refine z_if_ne C (tgt := 80) dX5_bring_71 (by decide) (fun c71 => ?_) (fun c71 => ?_)
    · refine z_aload C dX5_bring_80 1 rfl ?_
      refine z_bipush C (v := 7) dX5_bring_82 (by decide) ?_
      refine z_pl7 C ((z_up_n _ _ (z_ne h_p h_m (by intro h; cases h))).trans h_p) dX5_bring_84 ?_
      refine z_iconst C (v := 1) dX5_bring_85 (by decide) ?_
      refine z_icmp_ne C (tgt := 95) dX5_bring_86 (by decide) (fun c86 => ?_) (fun c86 => ?_)
      · refine z_aload_n C dX5_bring_95 rfl 2 rfl ?_
        refine z_aload_n C dX5_bring_96 rfl 2 rfl ?_
        refine z_aload_n C dX5_bring_97 rfl 2 rfl ?_
        refine z_aload C dX5_bring_98 1 rfl ?_
        refine z_iload_n C dX5_bring_100 rfl 4 rfl ?_
        refine z_callVi (rest := [.ref m, .ref m]) (k' := 0) (n' := 0) C (c_X5_where (z_l X) (z_G X) ((z_up_n _ _ (z_ne h_p h_m (by intro h; cases h))).trans h_p)) (cs_X5_51 C (by decide)) (z_up_s _ _ _) rfl rfl rfl rfl (Nat.le_of_ble_eq_true rfl) rfl rfl (by decide) (by decide) dX5_bring_101 (fun x101 M' hq => ?_)
        obtain ⟨rfl, rfl⟩ := hq
        refine z_aload_n C dX5_bring_104 rfl 2 rfl ?_
        refine gf_X5_9 C (z_up_s _ _ _) dX5_bring_105 ?_
        refine z_aload_n C dX5_bring_108 rfl 2 rfl ?_
        refine z_aload C dX5_bring_109 0 rfl ?_
        refine z_iload C dX5_bring_111 6 rfl ?_
        refine z_callVi (rest := [.ref tp, .int ((ba + sa) + ix), .ref m, .ref m]) (k' := 0) (n' := 0) C (c_X5_where (z_l X) (z_G X) ((z_up_n _ _ (z_ne h_p2 h_m (by intro h; cases h))).trans h_p2)) (cs_X5_51 C (by decide)) (z_up_s _ _ _) rfl rfl rfl rfl (Nat.le_of_ble_eq_true rfl) rfl rfl (by decide) (by decide) dX5_bring_113 (fun x113 M' hq => ?_)
        obtain ⟨rfl, rfl⟩ := hq
        refine z_iald (j := ((ba2 + sa2) + fr).toNatClampNeg) C ((z_up_n _ _ (z_ne h_tp h_m (by intro h; cases h))).trans h_tp) (z_orL h_or2 c57) rfl dX5_bring_116 ?_
        refine z_callVi (rest := [.ref m]) (k' := 0) (n' := 0) C (c_X5_written (z_l X) (z_G X) (z_up_s _ _ _) ((z_up_n _ _ (z_ne h_tp h_m (by intro h; cases h))).trans h_tp) (z_orL h_or c71)) (cs_X5_95 C (by decide)) (z_up_s _ _ _) rfl rfl rfl rfl (Nat.le_of_ble_eq_true rfl) rfl rfl (by decide) (by decide) dX5_bring_117 (fun x117 M' hq => ?_)
        obtain ⟨rfl, rfl⟩ := hq
        refine z_callVi (rest := []) (k' := 0) (n' := 0) C (c_X5_did (z_l X) (z_G X) ((z_up_n _ _ (z_ne h_m h_tp (by intro h; cases h))).trans (z_up_s _ _ _))) (cs_X5_63 C (by decide)) ((z_up_n _ _ (z_ne h_m h_tp (by intro h; cases h))).trans (z_up_s _ _ _)) rfl rfl rfl rfl (Nat.le_of_ble_eq_true rfl) rfl rfl (by decide) (by decide) dX5_bring_120 (fun x120 M' hq => ?_)
        obtain ⟨rfl, rfl⟩ := hq
        rw [z_up_swap _ (z_ne h_m h_tp (by intro h; cases h))]
        rw [z_up_up]
        exact ret dX5_bring_123 rfl (Or.inr (Or.inl ⟨c57, c71, c86, rfl, rfl⟩)) (by decide) (by decide)
      · refine z_aload_n C dX5_bring_89 rfl 2 rfl ?_
        refine z_iconst C (v := 4) dX5_bring_90 (by decide) ?_
        refine z_callVi (rest := []) (k' := 0) (n' := 0) C (c_X5_refuse (z_l X) (z_G X) (z_up_s _ _ _) ((z_up_n _ _ (z_ne h_td h_m (by intro h; cases h))).trans h_td) (z_inL (by decide)) (show (4 : Int32).toNatClampNeg = 4 by decide)) (cs_X5_47 C (by decide)) (z_up_s _ _ _) rfl rfl rfl rfl (Nat.le_of_ble_eq_true rfl) rfl rfl (by decide) (by decide) dX5_bring_91 (fun x91 M' hq => ?_)
        obtain ⟨rfl, rfl⟩ := hq
        exact ret dX5_bring_94 rfl (Or.inr (Or.inr (Or.inl ⟨c57, c71, c86, rfl, rfl⟩))) (by decide) (by decide)
    · refine z_aload_n C dX5_bring_74 rfl 2 rfl ?_
      refine z_iconst C (v := 5) dX5_bring_75 (by decide) ?_
      refine z_callVi (rest := []) (k' := 0) (n' := 0) C (c_X5_refuse (z_l X) (z_G X) (z_up_s _ _ _) ((z_up_n _ _ (z_ne h_td h_m (by intro h; cases h))).trans h_td) (z_inL (by decide)) (show (5 : Int32).toNatClampNeg = 5 by decide)) (cs_X5_47 C (by decide)) (z_up_s _ _ _) rfl rfl rfl rfl (Nat.le_of_ble_eq_true rfl) rfl rfl (by decide) (by decide) dX5_bring_76 (fun x76 M' hq => ?_)
      obtain ⟨rfl, rfl⟩ := hq
      exact ret dX5_bring_79 rfl (Or.inr (Or.inr (Or.inr (⟨c57, c71, rfl, rfl⟩)))) (by decide) (by decide)
set_option maxRecDepth 20000 in
theorem c_J9_min_7cf53 (l : Launch) (G : zG) {M : zM} {a : Int32} {b : Int32}    : z_Mi l G qJ9_min_7cf53 (z_rm 1 0 0) [.int a, .int b] M (fun r M' => ((b < a) ∧ r = b ∧ M' = M) ∨ ((¬ b < a) ∧ r = a ∧ M' = M))  := by
  refine z_Mi_of _ (by decide +kernel) rfl (Nat.le_of_ble_eq_true rfl) (fun X hl hG hnm C ret => ?_)
  subst hl; subst hG
  have C : z_C X cJ9_min_7cf53 RJ9 2 (z_rm 1 0 0) := C
  show z_W X M 0 0 0 [(0, .int a), (1, .int b)] []
  refine z_iload_n C dJ9_min_7cf53_0 rfl 0 rfl ?_
  refine z_iload_n C dJ9_min_7cf53_1 rfl 1 rfl ?_
  refine z_icmp_gt C (tgt := 9) dJ9_min_7cf53_2 (by decide) (fun c2 => ?_) (fun c2 => ?_)
  · refine z_iload_n C dJ9_min_7cf53_9 rfl 1 rfl ?_
    exact ret dJ9_min_7cf53_10 rfl (Or.inl ⟨c2, rfl, rfl⟩) (by decide) (by decide)
  · refine z_iload_n C dJ9_min_7cf53_5 rfl 0 rfl ?_
    refine z_goto C (tgt := 10) dJ9_min_7cf53_6 (by decide) ?_
    exact ret dJ9_min_7cf53_10 rfl (Or.inr (⟨c2, rfl, rfl⟩)) (by decide) (by decide)
set_option maxRecDepth 20000 in
theorem c_X5_drain_bad (l : Launch) (G : zG) {M : zM} {m : Nat} {pane : Int32} {mn : Int32} {tp : Nat} {nr : Int32} {pn : Nat} {td : Nat} {ac : Int32} {kn : Int32} {th : Int32}  (h_m : M m = some (cMd tp nr pn td ac kn th)) (h_bad : z_is pane 0 5 = 0) : z_Mi l G qX5_drain (z_rm 4 0 0) [.ref m, .int pane, .int mn] M (fun r M' => r = 0 ∧ M' = z_up M m (cMd tp nr pn td ac kn (z_lt (z_is pane 0 5) (z_is mn 0 20))))  := by
  refine z_Mi_of _ (plainFor_of_name rfl) rfl (Nat.le_of_ble_eq_true rfl) (fun X hl hG hnm C ret => ?_)
  subst hl; subst hG
  have C : z_C X cX5_drain RX5 5 (z_rm 4 0 0) := C
  show z_W X M 0 0 0 [(0, .ref m), (1, .int pane), (2, .int mn)] []
  refine z_aload_n C dX5_drain_0 rfl 0 rfl ?_
  refine z_iload_n C dX5_drain_1 rfl 1 rfl ?_
  refine z_callSi (rest := [.ref m]) (k' := 0) (n' := 0) C (c_X5_isPane (z_l X) (z_G X) ) (cs_X5_55 C (by decide)) rfl rfl (Nat.le_of_ble_eq_true rfl) rfl rfl (by decide) (by decide) dX5_drain_2 (fun x2 M' hq => ?_)
  obtain ⟨rfl, rfl⟩ := hq
  refine z_iload_n C dX5_drain_5 rfl 2 rfl ?_
  refine z_iconst C (v := 0) dX5_drain_6 (by decide) ?_
  refine z_bipush C (v := 20) dX5_drain_7 (by decide) ?_
  refine z_callSi (rest := [.int (z_is pane 0 5), .ref m]) (k' := 0) (n' := 0) C (c_X5_isIn (z_l X) (z_G X) ) (cs_X5_36 C (by decide)) rfl rfl (Nat.le_of_ble_eq_true rfl) rfl rfl (by decide) (by decide) dX5_drain_9 (fun x9 M' hq => ?_)
  obtain ⟨rfl, rfl⟩ := hq
  refine z_callVi (rest := []) (k' := 0) (n' := 0) C (c_X5_isLet (z_l X) (z_G X) h_m) (cs_X5_59 C (by decide)) h_m rfl rfl rfl rfl (Nat.le_of_ble_eq_true rfl) rfl rfl (by decide) (by decide) dX5_drain_12 (fun x12 M' hq => ?_)
  obtain ⟨rfl, rfl⟩ := hq
  refine z_if_ne C (tgt := 20) dX5_drain_15 (by decide) (fun c15 => absurd (by simp [z_lr, z_lt, h_bad]) c15) (fun _ => ?_)
  refine z_iconst C (v := 0) dX5_drain_18 (by decide) ?_
  exact ret dX5_drain_19 rfl (⟨rfl, rfl⟩) (by decide) (by decide)
set_option maxRecDepth 20000 in
theorem c_X5_drain (l : Launch) (G : zG) {M : zM} {m : Nat} {pane : Int32} {mn : Int32} {tp : Nat} {nr : Int32} {pn : Nat} {td : Nat} {ac : Int32} {kn : Int32} {th : Int32} {fd : Nat → Int32} {fp : Nat → Option Nat} {p : Nat} {ro : Int32} {ba : Int32} {sa : Int32} {cp : Int32} {po : Int32} {li : Int32} {mk : Int32} {rd : Int32} {i : Nat}  (h_m : M m = some (cMd tp nr pn td ac kn th)) (h_td : M td = some (aI G 6 fd)) (h_pn : M pn = some (aII G 6 fp)) (h_p : M p = some (cPm G ro ba sa cp po li mk rd)) (h_ok : z_is pane 0 5 = 1) (h_ip : vp_in pane 6) (h_ij : pane.toNatClampNeg = i) (h_fp : fp i = some p) (n_p_td : p ≠ td) : z_Mi l G qX5_drain (z_rm 4 0 0) [.ref m, .int pane, .int mn] M (fun r M' => ((¬ (z_lr (z_is pane 0 5) (z_is mn 0 20)) = 0) ∧ ((li - po) < mn) ∧ (mn ≤ (li - po)) ∧ r = (li - po) ∧ M' = z_up (z_up M p (cPm G ro ba sa cp (po + (li - po)) li mk rd)) m (cMd tp nr pn td (ac + 1) kn (z_lt (z_is pane 0 5) (z_is mn 0 20)))) ∨ ((¬ (z_lr (z_is pane 0 5) (z_is mn 0 20)) = 0) ∧ ((li - po) < mn) ∧ (¬ mn ≤ (li - po)) ∧ r = (li - po) ∧ M' = z_up (z_up (z_up M p (cPm G ro ba sa cp (po + (li - po)) li mk rd)) td (aI G 6 (upd fd 2 ((fd 2) + 1)))) m (cMd tp nr pn td (ac + 1) kn (z_lt (z_is pane 0 5) (z_is mn 0 20)))) ∨ ((¬ (z_lr (z_is pane 0 5) (z_is mn 0 20)) = 0) ∧ (¬ (li - po) < mn) ∧ (mn ≤ mn) ∧ r = mn ∧ M' = z_up (z_up M p (cPm G ro ba sa cp (po + mn) li mk rd)) m (cMd tp nr pn td (ac + 1) kn (z_lt (z_is pane 0 5) (z_is mn 0 20)))) ∨ ((¬ (z_lr (z_is pane 0 5) (z_is mn 0 20)) = 0) ∧ (¬ (li - po) < mn) ∧ (¬ mn ≤ mn) ∧ r = mn ∧ M' = z_up (z_up (z_up M p (cPm G ro ba sa cp (po + mn) li mk rd)) td (aI G 6 (upd fd 2 ((fd 2) + 1)))) m (cMd tp nr pn td (ac + 1) kn (z_lt (z_is pane 0 5) (z_is mn 0 20)))) ∨ (((z_lr (z_is pane 0 5) (z_is mn 0 20)) = 0) ∧ r = 0 ∧ M' = z_up M m (cMd tp nr pn td ac kn (z_lt (z_is pane 0 5) (z_is mn 0 20)))))  := by
  refine z_Mi_of _ (plainFor_of_name rfl) rfl (Nat.le_of_ble_eq_true rfl) (fun X hl hG hnm C ret => ?_)
  subst hl; subst hG
  have C : z_C X cX5_drain RX5 5 (z_rm 4 0 0) := C
  show z_W X M 0 0 0 [(0, .ref m), (1, .int pane), (2, .int mn)] []
  refine z_aload_n C dX5_drain_0 rfl 0 rfl ?_
  refine z_iload_n C dX5_drain_1 rfl 1 rfl ?_
  refine z_callSi (rest := [.ref m]) (k' := 0) (n' := 0) C (c_X5_isPane (z_l X) (z_G X) ) (cs_X5_55 C (by decide)) rfl rfl (Nat.le_of_ble_eq_true rfl) rfl rfl (by decide) (by decide) dX5_drain_2 (fun x2 M' hq => ?_)
  obtain ⟨rfl, rfl⟩ := hq
  refine z_iload_n C dX5_drain_5 rfl 2 rfl ?_
  refine z_iconst C (v := 0) dX5_drain_6 (by decide) ?_
  refine z_bipush C (v := 20) dX5_drain_7 (by decide) ?_
  refine z_callSi (rest := [.int (z_is pane 0 5), .ref m]) (k' := 0) (n' := 0) C (c_X5_isIn (z_l X) (z_G X) ) (cs_X5_36 C (by decide)) rfl rfl (Nat.le_of_ble_eq_true rfl) rfl rfl (by decide) (by decide) dX5_drain_9 (fun x9 M' hq => ?_)
  obtain ⟨rfl, rfl⟩ := hq
  refine z_callVi (rest := []) (k' := 0) (n' := 0) C (c_X5_isLet (z_l X) (z_G X) h_m) (cs_X5_59 C (by decide)) h_m rfl rfl rfl rfl (Nat.le_of_ble_eq_true rfl) rfl rfl (by decide) (by decide) dX5_drain_12 (fun x12 M' hq => ?_)
  obtain ⟨rfl, rfl⟩ := hq
  refine z_if_ne C (tgt := 20) dX5_drain_15 (by decide) (fun c15 => ?_) (fun c15 => ?_)
  · refine z_aload_n C dX5_drain_20 rfl 0 rfl ?_
    refine gf_X5_18 C (z_up_s _ _ _) dX5_drain_21 ?_
    refine z_iload_n C dX5_drain_24 rfl 1 rfl ?_
    refine z_aaldI (j := i) C ((z_up_n _ _ (z_ne h_pn h_m (by intro h; cases h))).trans h_pn) h_ip h_ij h_fp dX5_drain_25 ?_
    refine z_astore_n (lv' := [(3, .ref p), (0, .ref m), (1, .int pane), (2, .int mn)]) C dX5_drain_26 rfl (by decide) rfl ?_
    refine z_iload_n C dX5_drain_27 rfl 3 rfl ?_
    refine z_aload_n C dX5_drain_28 rfl 0 rfl ?_
    refine z_callSi (rest := [.int mn]) (k' := 0) (n' := 0) C (c_X5_left (z_l X) (z_G X) ((z_up_n _ _ (z_ne h_p h_m (by intro h; cases h))).trans h_p)) (cs_X5_43 C (by decide)) rfl rfl (Nat.le_of_ble_eq_true rfl) rfl rfl (by decide) (by decide) dX5_drain_29 (fun x29 M' hq => ?_)
    obtain ⟨rfl, rfl⟩ := hq
    refine z_callSi (rest := []) (k' := 0) (n' := 0) C (c_J9_min_7cf53 (z_l X) (z_G X) ) (cs_X5_99 C (by decide)) rfl rfl (Nat.le_of_ble_eq_true rfl) rfl rfl (by decide) (by decide) dX5_drain_32 (fun x32 M' hq => ?_)
    obtain ⟨d32_0, rfl, rfl⟩ | ⟨d32_0, hr32, rfl⟩ := hq
    · refine z_istore (lv' := [(4, .int (li - po)), (3, .ref p), (0, .ref m), (1, .int pane), (2, .int mn)]) C dX5_drain_35 (by decide) rfl ?_
      refine z_aload_n C dX5_drain_37 rfl 1 rfl ?_
      refine z_iconst C (v := 4) dX5_drain_38 (by decide) ?_
      refine z_dup2 C dX5_drain_39 rfl rfl ?_
      refine z_pl4 C ((z_up_n _ _ (z_ne h_p h_m (by intro h; cases h))).trans h_p) dX5_drain_40 ?_
      refine z_iload C dX5_drain_41 0 rfl ?_
      refine z_iadd C dX5_drain_43 ?_
      refine z_ps4 C ((z_up_n _ _ (z_ne h_p h_m (by intro h; cases h))).trans h_p) dX5_drain_44 ?_
      refine z_iload C dX5_drain_45 0 rfl ?_
      refine z_iload_n C dX5_drain_47 rfl 4 rfl ?_
      refine z_icmp_ge C (tgt := 57) dX5_drain_48 (by decide) (fun c48 => ?_) (fun c48 => ?_)
      · refine z_aload_n C dX5_drain_57 rfl 2 rfl ?_
        refine z_iload C dX5_drain_58 0 rfl ?_
        refine z_callVi (rest := []) (k' := 0) (n' := 0) C (c_X5_did (z_l X) (z_G X) ((z_up_n _ _ (z_ne h_m h_p (by intro h; cases h))).trans (z_up_s _ _ _))) (cs_X5_63 C (by decide)) ((z_up_n _ _ (z_ne h_m h_p (by intro h; cases h))).trans (z_up_s _ _ _)) rfl rfl rfl rfl (Nat.le_of_ble_eq_true rfl) rfl rfl (by decide) (by decide) dX5_drain_60 (fun x60 M' hq => ?_)
        obtain ⟨rfl, rfl⟩ := hq
        rw [z_up_swap _ (z_ne h_m h_p (by intro h; cases h))]
        rw [z_up_up]
        exact ret dX5_drain_63 rfl (Or.inl ⟨c15, d32_0, c48, rfl, rfl⟩) (by decide) (by decide)
      · refine z_aload_n C dX5_drain_51 rfl 2 rfl ?_
        refine z_iconst C (v := 2) dX5_drain_52 (by decide) ?_
        refine z_callVi (rest := []) (k' := 0) (n' := 0) C (c_X5_refuse (z_l X) (z_G X) ((z_up_n _ _ (z_ne h_m h_p (by intro h; cases h))).trans (z_up_s _ _ _)) ((z_up_n _ _ (Ne.symm n_p_td)).trans ((z_up_n _ _ (z_ne h_td h_m (by intro h; cases h))).trans h_td)) (z_inL (by decide)) (show (2 : Int32).toNatClampNeg = 2 by decide)) (cs_X5_47 C (by decide)) ((z_up_n _ _ (z_ne h_m h_p (by intro h; cases h))).trans (z_up_s _ _ _)) rfl rfl rfl rfl (Nat.le_of_ble_eq_true rfl) rfl rfl (by decide) (by decide) dX5_drain_53 (fun x53 M' hq => ?_)
        obtain ⟨rfl, rfl⟩ := hq
        refine z_pop C dX5_drain_56 rfl ?_
        refine z_aload_n C dX5_drain_57 rfl 2 rfl ?_
        refine z_iload C dX5_drain_58 0 rfl ?_
        refine z_callVi (rest := []) (k' := 0) (n' := 0) C (c_X5_did (z_l X) (z_G X) ((z_up_n _ _ (z_ne h_m h_td (by intro h; cases h))).trans ((z_up_n _ _ (z_ne h_m h_p (by intro h; cases h))).trans (z_up_s _ _ _)))) (cs_X5_63 C (by decide)) ((z_up_n _ _ (z_ne h_m h_td (by intro h; cases h))).trans ((z_up_n _ _ (z_ne h_m h_p (by intro h; cases h))).trans (z_up_s _ _ _))) rfl rfl rfl rfl (Nat.le_of_ble_eq_true rfl) rfl rfl (by decide) (by decide) dX5_drain_60 (fun x60 M' hq => ?_)
        obtain ⟨rfl, rfl⟩ := hq
        rw [z_up_swap _ (z_ne h_m h_p (by intro h; cases h))]
        rw [z_up_swap _ (z_ne h_m h_td (by intro h; cases h))]
        rw [z_up_up]
        exact ret dX5_drain_63 rfl (Or.inr (Or.inl ⟨c15, d32_0, c48, rfl, rfl⟩)) (by decide) (by decide)
    · rw [hr32]
      refine z_istore (lv' := [(4, .int mn), (3, .ref p), (0, .ref m), (1, .int pane), (2, .int mn)]) C dX5_drain_35 (by decide) rfl ?_
      refine z_aload_n C dX5_drain_37 rfl 1 rfl ?_
      refine z_iconst C (v := 4) dX5_drain_38 (by decide) ?_
      refine z_dup2 C dX5_drain_39 rfl rfl ?_
      refine z_pl4 C ((z_up_n _ _ (z_ne h_p h_m (by intro h; cases h))).trans h_p) dX5_drain_40 ?_
      refine z_iload C dX5_drain_41 0 rfl ?_
      refine z_iadd C dX5_drain_43 ?_
      refine z_ps4 C ((z_up_n _ _ (z_ne h_p h_m (by intro h; cases h))).trans h_p) dX5_drain_44 ?_
      refine z_iload C dX5_drain_45 0 rfl ?_
      refine z_iload_n C dX5_drain_47 rfl 4 rfl ?_
      refine z_icmp_ge C (tgt := 57) dX5_drain_48 (by decide) (fun c48 => ?_) (fun c48 => ?_)
      · refine z_aload_n C dX5_drain_57 rfl 2 rfl ?_
        refine z_iload C dX5_drain_58 0 rfl ?_
        refine z_callVi (rest := []) (k' := 0) (n' := 0) C (c_X5_did (z_l X) (z_G X) ((z_up_n _ _ (z_ne h_m h_p (by intro h; cases h))).trans (z_up_s _ _ _))) (cs_X5_63 C (by decide)) ((z_up_n _ _ (z_ne h_m h_p (by intro h; cases h))).trans (z_up_s _ _ _)) rfl rfl rfl rfl (Nat.le_of_ble_eq_true rfl) rfl rfl (by decide) (by decide) dX5_drain_60 (fun x60 M' hq => ?_)
        obtain ⟨hr60, rfl⟩ := hq
        rw [hr60]
        rw [z_up_swap _ (z_ne h_m h_p (by intro h; cases h))]
        rw [z_up_up]
        exact ret dX5_drain_63 rfl (Or.inr (Or.inr (Or.inl ⟨c15, d32_0, c48, rfl, rfl⟩))) (by decide) (by decide)
      · refine z_aload_n C dX5_drain_51 rfl 2 rfl ?_
        refine z_iconst C (v := 2) dX5_drain_52 (by decide) ?_
        refine z_callVi (rest := []) (k' := 0) (n' := 0) C (c_X5_refuse (z_l X) (z_G X) ((z_up_n _ _ (z_ne h_m h_p (by intro h; cases h))).trans (z_up_s _ _ _)) ((z_up_n _ _ (Ne.symm n_p_td)).trans ((z_up_n _ _ (z_ne h_td h_m (by intro h; cases h))).trans h_td)) (z_inL (by decide)) (show (2 : Int32).toNatClampNeg = 2 by decide)) (cs_X5_47 C (by decide)) ((z_up_n _ _ (z_ne h_m h_p (by intro h; cases h))).trans (z_up_s _ _ _)) rfl rfl rfl rfl (Nat.le_of_ble_eq_true rfl) rfl rfl (by decide) (by decide) dX5_drain_53 (fun x53 M' hq => ?_)
        obtain ⟨rfl, rfl⟩ := hq
        refine z_pop C dX5_drain_56 rfl ?_
        refine z_aload_n C dX5_drain_57 rfl 2 rfl ?_
        refine z_iload C dX5_drain_58 0 rfl ?_
        refine z_callVi (rest := []) (k' := 0) (n' := 0) C (c_X5_did (z_l X) (z_G X) ((z_up_n _ _ (z_ne h_m h_td (by intro h; cases h))).trans ((z_up_n _ _ (z_ne h_m h_p (by intro h; cases h))).trans (z_up_s _ _ _)))) (cs_X5_63 C (by decide)) ((z_up_n _ _ (z_ne h_m h_td (by intro h; cases h))).trans ((z_up_n _ _ (z_ne h_m h_p (by intro h; cases h))).trans (z_up_s _ _ _))) rfl rfl rfl rfl (Nat.le_of_ble_eq_true rfl) rfl rfl (by decide) (by decide) dX5_drain_60 (fun x60 M' hq => ?_)
        obtain ⟨hr60, rfl⟩ := hq
        rw [hr60]
        rw [z_up_swap _ (z_ne h_m h_p (by intro h; cases h))]
        rw [z_up_swap _ (z_ne h_m h_td (by intro h; cases h))]
        rw [z_up_up]
        exact ret dX5_drain_63 rfl (Or.inr (Or.inr (Or.inr (Or.inl ⟨c15, d32_0, c48, rfl, rfl⟩)))) (by decide) (by decide)
  · refine z_iconst C (v := 0) dX5_drain_18 (by decide) ?_
    exact ret dX5_drain_19 rfl (Or.inr (Or.inr (Or.inr (Or.inr (⟨c15, rfl, rfl⟩))))) (by decide) (by decide)
