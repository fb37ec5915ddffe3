theorem dX5_isIn_0 : decode cX5_isIn 0 = .ok (.iload_n 0, 1) := by decide +kernel
theorem dX5_isIn_1 : decode cX5_isIn 1 = .ok (.iload_n 1, 1) := by decide +kernel
theorem dX5_isIn_2 : decode cX5_isIn 2 = .ok (.if_icmp .lt 12, 3) := by decide +kernel
theorem dX5_isIn_5 : decode cX5_isIn 5 = .ok (.iload_n 0, 1) := by decide +kernel
theorem dX5_isIn_6 : decode cX5_isIn 6 = .ok (.iload_n 2, 1) := by decide +kernel
theorem dX5_isIn_7 : decode cX5_isIn 7 = .ok (.if_icmp .gt 7, 3) := by decide +kernel
theorem dX5_isIn_10 : decode cX5_isIn 10 = .ok (.iconst 1, 1) := by decide +kernel
theorem dX5_isIn_11 : decode cX5_isIn 11 = .ok (.goto 4, 3) := by decide +kernel
theorem dX5_isIn_14 : decode cX5_isIn 14 = .ok (.iconst 0, 1) := by decide +kernel
theorem dX5_isIn_15 : decode cX5_isIn 15 = .ok (.ireturn, 1) := by decide +kernel
theorem dX5_isPane_0 : decode cX5_isPane 0 = .ok (.iload_n 0, 1) := by decide +kernel
theorem dX5_isPane_1 : decode cX5_isPane 1 = .ok (.iconst 0, 1) := by decide +kernel
theorem dX5_isPane_2 : decode cX5_isPane 2 = .ok (.iconst 5, 1) := by decide +kernel
theorem dX5_isPane_3 : decode cX5_isPane 3 = .ok (.invokestatic 36, 3) := by decide +kernel
theorem dX5_isPane_6 : decode cX5_isPane 6 = .ok (.ireturn, 1) := by decide +kernel
def z_is (v a b : Int32) : Int32 := if v < a then 0 else if b < v then 0 else 1
theorem z_is_n (v a b : Int32) : narrow .boolean (.int (z_is v a b)) = .int (z_is v a b) := by
  unfold z_is
  split
  · rfl
  · split <;> rfl
set_option maxRecDepth 20000 in
theorem c_X5_isIn (l : Launch) (G : zG) {M : zM} {v a b : Int32} : z_Mi l G qX5_isIn (z_rm 1 0 0) [.int v, .int a, .int b] M (fun r M' => r = z_is v a b ∧ M' = M) := by
  refine z_Mi_of _ rfl rfl (Nat.le_of_ble_eq_true rfl) (fun X hl hG hnm C ret => ?_)
  subst hl; subst hG
  have C : z_C X cX5_isIn RX5 3 (z_rm 1 0 0) := C
  show z_W X M 0 0 0 [(0, .int v), (1, .int a), (2, .int b)] []
  refine z_iload_n C dX5_isIn_0 rfl 0 rfl ?_
  refine z_iload_n C dX5_isIn_1 rfl 1 rfl ?_
  refine z_icmp_lt C (tgt := 14) dX5_isIn_2 (by decide) (fun c2 => ?_) (fun c2 => ?_)
  · refine z_iconst C (v := 0) dX5_isIn_14 (by decide) ?_
    refine ret dX5_isIn_15 rfl ?_ (by decide) (by decide)
    exact ⟨by simp [z_is, *], rfl⟩
  · refine z_iload_n C dX5_isIn_5 rfl 0 rfl ?_
    refine z_iload_n C dX5_isIn_6 rfl 2 rfl ?_
    refine z_icmp_gt C (tgt := 14) dX5_isIn_7 (by decide) (fun c7 => ?_) (fun c7 => ?_)
    · refine z_iconst C (v := 0) dX5_isIn_14 (by decide) ?_
      refine ret dX5_isIn_15 rfl ?_ (by decide) (by decide)
      exact ⟨by simp [z_is, *], rfl⟩
    · refine z_iconst C (v := 1) dX5_isIn_10 (by decide) ?_
      refine z_goto C (tgt := 15) dX5_isIn_11 (by decide) ?_
      refine ret dX5_isIn_15 rfl ?_ (by decide) (by decide)
      exact ⟨by simp [z_is, *], rfl⟩
set_option maxRecDepth 20000 in
theorem c_X5_isPane (l : Launch) (G : zG) {M : zM} {v : Int32} : z_Mi l G qX5_isPane (z_rm 2 0 0) [.int v] M (fun r M' => r = z_is v 0 5 ∧ M' = M) := by
  refine z_Mi_of _ rfl rfl (Nat.le_of_ble_eq_true rfl) (fun X hl hG hnm C ret => ?_)
  subst hl; subst hG
  have C : z_C X cX5_isPane RX5 1 (z_rm 2 0 0) := C
  show z_W X M 0 0 0 [(0, .int v)] []
  refine z_iload_n C dX5_isPane_0 rfl 0 rfl ?_
  refine z_iconst C (v := 0) dX5_isPane_1 (by decide) ?_
  refine z_iconst C (v := 5) dX5_isPane_2 (by decide) ?_
  refine z_callSi (rest := []) C (c_X5_isIn (z_l X) (z_G X) ) (cs_X5_36 C (by decide)) rfl rfl (by decide) rfl rfl (by decide) (by decide) dX5_isPane_3 (fun x M' hq => ?_)
  obtain ⟨rfl, rfl⟩ := hq
  refine ret dX5_isPane_6 (z_is_n _ _ _) ?_ (by decide) (by decide)
  exact ⟨rfl, rfl⟩
