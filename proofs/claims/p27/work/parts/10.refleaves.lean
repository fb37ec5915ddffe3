section
theorem dX5_isIn_0 : decode cX5_isIn 0 = .ok (.iload_n 0, 1) := by decide +kernel
theorem dX5_isIn_1 : decode cX5_isIn 1 = .ok (.iload_n 1, 1) := by decide +kernel
theorem dX5_isIn_2 : decode cX5_isIn 2 = .ok (.if_icmp .lt 12, 3) := by decide +kernel
theorem dX5_isIn_5 : decode cX5_isIn 5 = .ok (.iload_n 0, 1) := by decide +kernel
theorem dX5_isIn_6 : decode cX5_isIn 6 = .ok (.iload_n 2, 1) := by decide +kernel
theorem dX5_isIn_7 : decode cX5_isIn 7 = .ok (.if_icmp .gt 7, 3) := by decide +kernel
theorem dX5_isIn_10 : decode cX5_isIn 10 = .ok (.iconst 1, 1) := by decide +kernel
theorem dX5_isIn_11 : decode cX5_isIn 11 = .ok (.goto 4, 3) := by decide +kernel
theorem dX5_isIn_14 : decode cX5_isIn 14 = .ok (.iconst 0, 1) := by decide +kernel
theorem dX5_isIn_15 : decode cX5_isIn 15 = .ok (.ireturn, 1) := by decide +kernel
theorem dX5_isPane_0 : decode cX5_isPane 0 = .ok (.iload_n 0, 1) := by decide +kernel
theorem dX5_isPane_1 : decode cX5_isPane 1 = .ok (.iconst 0, 1) := by decide +kernel
theorem dX5_isPane_2 : decode cX5_isPane 2 = .ok (.iconst 5, 1) := by decide +kernel
theorem dX5_isPane_3 : decode cX5_isPane 3 = .ok (.invokestatic 36, 3) := by decide +kernel
theorem dX5_isPane_6 : decode cX5_isPane 6 = .ok (.ireturn, 1) := by decide +kernel
theorem dX5_left_0 : decode cX5_left 0 = .ok (.aload_n 0, 1) := by decide +kernel
theorem dX5_left_1 : decode cX5_left 1 = .ok (.iconst 5, 1) := by decide +kernel
theorem dX5_left_2 : decode cX5_left 2 = .ok (.iaload, 1) := by decide +kernel
theorem dX5_left_3 : decode cX5_left 3 = .ok (.aload_n 0, 1) := by decide +kernel
theorem dX5_left_4 : decode cX5_left 4 = .ok (.iconst 4, 1) := by decide +kernel
theorem dX5_left_5 : decode cX5_left 5 = .ok (.iaload, 1) := by decide +kernel
theorem dX5_left_6 : decode cX5_left 6 = .ok (.isub, 1) := by decide +kernel
theorem dX5_left_7 : decode cX5_left 7 = .ok (.ireturn, 1) := by decide +kernel
theorem dX5_where_0 : decode cX5_where 0 = .ok (.aload_n 1, 1) := by decide +kernel
theorem dX5_where_1 : decode cX5_where 1 = .ok (.iconst 1, 1) := by decide +kernel
theorem dX5_where_2 : decode cX5_where 2 = .ok (.iaload, 1) := by decide +kernel
theorem dX5_where_3 : decode cX5_where 3 = .ok (.aload_n 1, 1) := by decide +kernel
theorem dX5_where_4 : decode cX5_where 4 = .ok (.iconst 2, 1) := by decide +kernel
theorem dX5_where_5 : decode cX5_where 5 = .ok (.iaload, 1) := by decide +kernel
theorem dX5_where_6 : decode cX5_where 6 = .ok (.iadd, 1) := by decide +kernel
theorem dX5_where_7 : decode cX5_where 7 = .ok (.iload_n 2, 1) := by decide +kernel
theorem dX5_where_8 : decode cX5_where 8 = .ok (.iadd, 1) := by decide +kernel
theorem dX5_where_9 : decode cX5_where 9 = .ok (.ireturn, 1) := by decide +kernel
theorem dX5_did_0 : decode cX5_did 0 = .ok (.aload_n 0, 1) := by decide +kernel
theorem dX5_did_1 : decode cX5_did 1 = .ok (.dup, 1) := by decide +kernel
theorem dX5_did_2 : decode cX5_did 2 = .ok (.getfield 40, 3) := by decide +kernel
theorem dX5_did_5 : decode cX5_did 5 = .ok (.iconst 1, 1) := by decide +kernel
theorem dX5_did_6 : decode cX5_did 6 = .ok (.iadd, 1) := by decide +kernel
theorem dX5_did_7 : decode cX5_did 7 = .ok (.putfield 40, 3) := by decide +kernel
theorem dX5_did_10 : decode cX5_did 10 = .ok (.iload_n 1, 1) := by decide +kernel
theorem dX5_did_11 : decode cX5_did 11 = .ok (.ireturn, 1) := by decide +kernel
theorem dX5_refuse_0 : decode cX5_refuse 0 = .ok (.aload_n 0, 1) := by decide +kernel
theorem dX5_refuse_1 : decode cX5_refuse 1 = .ok (.getfield 22, 3) := by decide +kernel
theorem dX5_refuse_4 : decode cX5_refuse 4 = .ok (.iload_n 1, 1) := by decide +kernel
theorem dX5_refuse_5 : decode cX5_refuse 5 = .ok (.dup2, 1) := by decide +kernel
theorem dX5_refuse_6 : decode cX5_refuse 6 = .ok (.iaload, 1) := by decide +kernel
theorem dX5_refuse_7 : decode cX5_refuse 7 = .ok (.iconst 1, 1) := by decide +kernel
theorem dX5_refuse_8 : decode cX5_refuse 8 = .ok (.iadd, 1) := by decide +kernel
theorem dX5_refuse_9 : decode cX5_refuse 9 = .ok (.iastore, 1) := by decide +kernel
theorem dX5_refuse_10 : decode cX5_refuse 10 = .ok (.bipush (-9), 2) := by decide +kernel
theorem dX5_refuse_12 : decode cX5_refuse 12 = .ok (.ireturn, 1) := by decide +kernel
theorem dX5_isLet_0 : decode cX5_isLet 0 = .ok (.aload_n 0, 1) := by decide +kernel
theorem dX5_isLet_1 : decode cX5_isLet 1 = .ok (.iload_n 1, 1) := by decide +kernel
theorem dX5_isLet_2 : decode cX5_isLet 2 = .ok (.ifCond .ne 7, 3) := by decide +kernel
theorem dX5_isLet_5 : decode cX5_isLet 5 = .ok (.iconst 1, 1) := by decide +kernel
theorem dX5_isLet_6 : decode cX5_isLet 6 = .ok (.goto 12, 3) := by decide +kernel
theorem dX5_isLet_9 : decode cX5_isLet 9 = .ok (.iload_n 2, 1) := by decide +kernel
theorem dX5_isLet_10 : decode cX5_isLet 10 = .ok (.ifCond .ne 7, 3) := by decide +kernel
theorem dX5_isLet_13 : decode cX5_isLet 13 = .ok (.iconst 2, 1) := by decide +kernel
theorem dX5_isLet_14 : decode cX5_isLet 14 = .ok (.goto 4, 3) := by decide +kernel
theorem dX5_isLet_17 : decode cX5_isLet 17 = .ok (.iconst 0, 1) := by decide +kernel
theorem dX5_isLet_18 : decode cX5_isLet 18 = .ok (.putfield 33, 3) := by decide +kernel
theorem dX5_isLet_21 : decode cX5_isLet 21 = .ok (.aload_n 0, 1) := by decide +kernel
theorem dX5_isLet_22 : decode cX5_isLet 22 = .ok (.getfield 33, 3) := by decide +kernel
theorem dX5_isLet_25 : decode cX5_isLet 25 = .ok (.ifCond .ne 7, 3) := by decide +kernel
theorem dX5_isLet_28 : decode cX5_isLet 28 = .ok (.iconst 1, 1) := by decide +kernel
theorem dX5_isLet_29 : decode cX5_isLet 29 = .ok (.goto 4, 3) := by decide +kernel
theorem dX5_isLet_32 : decode cX5_isLet 32 = .ok (.iconst 0, 1) := by decide +kernel
theorem dX5_isLet_33 : decode cX5_isLet 33 = .ok (.ireturn, 1) := by decide +kernel
theorem dX5_moved_0 : decode cX5_moved 0 = .ok (.aload_n 1, 1) := by decide +kernel
theorem dX5_moved_1 : decode cX5_moved 1 = .ok (.iconst 4, 1) := by decide +kernel
theorem dX5_moved_2 : decode cX5_moved 2 = .ok (.iload_n 2, 1) := by decide +kernel
theorem dX5_moved_3 : decode cX5_moved 3 = .ok (.iastore, 1) := by decide +kernel
theorem dX5_moved_4 : decode cX5_moved 4 = .ok (.aload_n 1, 1) := by decide +kernel
theorem dX5_moved_5 : decode cX5_moved 5 = .ok (.bipush 6, 2) := by decide +kernel
theorem dX5_moved_7 : decode cX5_moved 7 = .ok (.iaload, 1) := by decide +kernel
theorem dX5_moved_8 : decode cX5_moved 8 = .ok (.iload_n 2, 1) := by decide +kernel
theorem dX5_moved_9 : decode cX5_moved 9 = .ok (.if_icmp .le 8, 3) := by decide +kernel
theorem dX5_moved_12 : decode cX5_moved 12 = .ok (.aload_n 1, 1) := by decide +kernel
theorem dX5_moved_13 : decode cX5_moved 13 = .ok (.bipush 6, 2) := by decide +kernel
theorem dX5_moved_15 : decode cX5_moved 15 = .ok (.iconst (-1), 1) := by decide +kernel
theorem dX5_moved_16 : decode cX5_moved 16 = .ok (.iastore, 1) := by decide +kernel
theorem dX5_moved_17 : decode cX5_moved 17 = .ok (.return_, 1) := by decide +kernel
theorem dX5_ended_0 : decode cX5_ended 0 = .ok (.aload_n 1, 1) := by decide +kernel
theorem dX5_ended_1 : decode cX5_ended 1 = .ok (.iconst 5, 1) := by decide +kernel
theorem dX5_ended_2 : decode cX5_ended 2 = .ok (.iload_n 2, 1) := by decide +kernel
theorem dX5_ended_3 : decode cX5_ended 3 = .ok (.iastore, 1) := by decide +kernel
theorem dX5_ended_4 : decode cX5_ended 4 = .ok (.aload_n 1, 1) := by decide +kernel
theorem dX5_ended_5 : decode cX5_ended 5 = .ok (.iconst 4, 1) := by decide +kernel
theorem dX5_ended_6 : decode cX5_ended 6 = .ok (.iaload, 1) := by decide +kernel
theorem dX5_ended_7 : decode cX5_ended 7 = .ok (.iload_n 2, 1) := by decide +kernel
theorem dX5_ended_8 : decode cX5_ended 8 = .ok (.if_icmp .le 7, 3) := by decide +kernel
theorem dX5_ended_11 : decode cX5_ended 11 = .ok (.aload_n 1, 1) := by decide +kernel
theorem dX5_ended_12 : decode cX5_ended 12 = .ok (.iconst 4, 1) := by decide +kernel
theorem dX5_ended_13 : decode cX5_ended 13 = .ok (.iload_n 2, 1) := by decide +kernel
theorem dX5_ended_14 : decode cX5_ended 14 = .ok (.iastore, 1) := by decide +kernel
theorem dX5_ended_15 : decode cX5_ended 15 = .ok (.aload_n 1, 1) := by decide +kernel
theorem dX5_ended_16 : decode cX5_ended 16 = .ok (.bipush 6, 2) := by decide +kernel
theorem dX5_ended_18 : decode cX5_ended 18 = .ok (.iaload, 1) := by decide +kernel
theorem dX5_ended_19 : decode cX5_ended 19 = .ok (.iload_n 2, 1) := by decide +kernel
theorem dX5_ended_20 : decode cX5_ended 20 = .ok (.if_icmp .le 8, 3) := by decide +kernel
theorem dX5_ended_23 : decode cX5_ended 23 = .ok (.aload_n 1, 1) := by decide +kernel
theorem dX5_ended_24 : decode cX5_ended 24 = .ok (.bipush 6, 2) := by decide +kernel
theorem dX5_ended_26 : decode cX5_ended 26 = .ok (.iconst (-1), 1) := by decide +kernel
theorem dX5_ended_27 : decode cX5_ended 27 = .ok (.iastore, 1) := by decide +kernel
theorem dX5_ended_28 : decode cX5_ended 28 = .ok (.return_, 1) := by decide +kernel
theorem dX5_written_0 : decode cX5_written 0 = .ok (.aload_n 0, 1) := by decide +kernel
theorem dX5_written_1 : decode cX5_written 1 = .ok (.getfield 9, 3) := by decide +kernel
theorem dX5_written_4 : decode cX5_written 4 = .ok (.iload_n 1, 1) := by decide +kernel
theorem dX5_written_5 : decode cX5_written 5 = .ok (.iaload, 1) := by decide +kernel
theorem dX5_written_6 : decode cX5_written 6 = .ok (.istore_n 3, 1) := by decide +kernel
theorem dX5_written_7 : decode cX5_written 7 = .ok (.aload_n 0, 1) := by decide +kernel
theorem dX5_written_8 : decode cX5_written 8 = .ok (.getfield 9, 3) := by decide +kernel
theorem dX5_written_11 : decode cX5_written 11 = .ok (.iload_n 1, 1) := by decide +kernel
theorem dX5_written_12 : decode cX5_written 12 = .ok (.iload_n 2, 1) := by decide +kernel
theorem dX5_written_13 : decode cX5_written 13 = .ok (.iastore, 1) := by decide +kernel
theorem dX5_written_14 : decode cX5_written 14 = .ok (.iload_n 3, 1) := by decide +kernel
theorem dX5_written_15 : decode cX5_written 15 = .ok (.ireturn, 1) := by decide +kernel
theorem dX5_begun_0 : decode cX5_begun 0 = .ok (.aload_n 1, 1) := by decide +kernel
theorem dX5_begun_1 : decode cX5_begun 1 = .ok (.iconst 4, 1) := by decide +kernel
theorem dX5_begun_2 : decode cX5_begun 2 = .ok (.iload_n 2, 1) := by decide +kernel
theorem dX5_begun_3 : decode cX5_begun 3 = .ok (.iastore, 1) := by decide +kernel
theorem dX5_begun_4 : decode cX5_begun 4 = .ok (.aload_n 1, 1) := by decide +kernel
theorem dX5_begun_5 : decode cX5_begun 5 = .ok (.iconst 5, 1) := by decide +kernel
theorem dX5_begun_6 : decode cX5_begun 6 = .ok (.iload_n 3, 1) := by decide +kernel
theorem dX5_begun_7 : decode cX5_begun 7 = .ok (.iastore, 1) := by decide +kernel
theorem dX5_begun_8 : decode cX5_begun 8 = .ok (.aload_n 1, 1) := by decide +kernel
theorem dX5_begun_9 : decode cX5_begun 9 = .ok (.bipush 6, 2) := by decide +kernel
theorem dX5_begun_11 : decode cX5_begun 11 = .ok (.iconst (-1), 1) := by decide +kernel
theorem dX5_begun_12 : decode cX5_begun 12 = .ok (.iastore, 1) := by decide +kernel
theorem dX5_begun_13 : decode cX5_begun 13 = .ok (.aload_n 0, 1) := by decide +kernel
theorem dX5_begun_14 : decode cX5_begun 14 = .ok (.aload_n 1, 1) := by decide +kernel
theorem dX5_begun_15 : decode cX5_begun 15 = .ok (.invokestatic 43, 3) := by decide +kernel
theorem dX5_begun_18 : decode cX5_begun 18 = .ok (.invokevirtual 63, 3) := by decide +kernel
theorem dX5_begun_21 : decode cX5_begun 21 = .ok (.ireturn, 1) := by decide +kernel
theorem dX5_thrown_0 : decode cX5_thrown 0 = .ok (.aload_n 0, 1) := by decide +kernel
theorem dX5_thrown_1 : decode cX5_thrown 1 = .ok (.getfield 33, 3) := by decide +kernel
theorem dX5_thrown_4 : decode cX5_thrown 4 = .ok (.ireturn, 1) := by decide +kernel
theorem dX5_knock_0 : decode cX5_knock 0 = .ok (.aload_n 0, 1) := by decide +kernel
theorem dX5_knock_1 : decode cX5_knock 1 = .ok (.iconst 0, 1) := by decide +kernel
theorem dX5_knock_2 : decode cX5_knock 2 = .ok (.putfield 33, 3) := by decide +kernel
theorem dX5_knock_5 : decode cX5_knock 5 = .ok (.aload_n 0, 1) := by decide +kernel
theorem dX5_knock_6 : decode cX5_knock 6 = .ok (.dup, 1) := by decide +kernel
theorem dX5_knock_7 : decode cX5_knock 7 = .ok (.getfield 139, 3) := by decide +kernel
theorem dX5_knock_10 : decode cX5_knock 10 = .ok (.iconst 1, 1) := by decide +kernel
theorem dX5_knock_11 : decode cX5_knock 11 = .ok (.iadd, 1) := by decide +kernel
theorem dX5_knock_12 : decode cX5_knock 12 = .ok (.putfield 139, 3) := by decide +kernel
theorem dX5_knock_15 : decode cX5_knock 15 = .ok (.aload_n 0, 1) := by decide +kernel
theorem dX5_knock_16 : decode cX5_knock 16 = .ok (.getfield 139, 3) := by decide +kernel
theorem dX5_knock_19 : decode cX5_knock 19 = .ok (.ireturn, 1) := by decide +kernel
theorem dX5_isSound_0 : decode cX5_isSound 0 = .ok (.aload_n 0, 1) := by decide +kernel
theorem dX5_isSound_1 : decode cX5_isSound 1 = .ok (.iconst 0, 1) := by decide +kernel
theorem dX5_isSound_2 : decode cX5_isSound 2 = .ok (.putfield 33, 3) := by decide +kernel
theorem dX5_isSound_5 : decode cX5_isSound 5 = .ok (.iconst 1, 1) := by decide +kernel
theorem dX5_isSound_6 : decode cX5_isSound 6 = .ok (.ireturn, 1) := by decide +kernel
set_option maxRecDepth 20000 in
theorem c_X5_isIn (l : Launch) (G : zG) {M : zM} {v : Int32} {a : Int32} {b : Int32}    : z_Mi l G qX5_isIn (z_rm 1 0 0) [.int v, .int a, .int b] M (fun r M' => r = z_is v a b ∧ M' = M)  := by
  refine z_Mi_of _ (plainFor_of_name rfl) rfl (Nat.le_of_ble_eq_true rfl) (fun X hl hG hnm C ret => ?_)
  subst hl; subst hG
  have C : z_C X cX5_isIn RX5 3 (z_rm 1 0 0) := C
  show z_W X M 0 0 0 [(0, .int v), (1, .int a), (2, .int b)] []
  refine z_iload_n C dX5_isIn_0 rfl 0 rfl ?_
  refine z_iload_n C dX5_isIn_1 rfl 1 rfl ?_
  refine z_icmp_lt C (tgt := 14) dX5_isIn_2 (by decide) (fun c2 => ?_) (fun c2 => ?_)
  · refine z_iconst C (v := 0) dX5_isIn_14 (by decide) ?_
    refine ret dX5_isIn_15 rfl ?_ (by decide) (by decide)
    exact ⟨by simp [z_is, *], rfl⟩
  · refine z_iload_n C dX5_isIn_5 rfl 0 rfl ?_
    refine z_iload_n C dX5_isIn_6 rfl 2 rfl ?_
    refine z_icmp_gt C (tgt := 14) dX5_isIn_7 (by decide) (fun c7 => ?_) (fun c7 => ?_)
    · refine z_iconst C (v := 0) dX5_isIn_14 (by decide) ?_
      refine ret dX5_isIn_15 rfl ?_ (by decide) (by decide)
      exact ⟨by simp [z_is, *], rfl⟩
    · refine z_iconst C (v := 1) dX5_isIn_10 (by decide) ?_
      refine z_goto C (tgt := 15) dX5_isIn_11 (by decide) ?_
      refine ret dX5_isIn_15 rfl ?_ (by decide) (by decide)
      exact ⟨by simp [z_is, *], rfl⟩
set_option maxRecDepth 20000 in
theorem c_X5_isPane (l : Launch) (G : zG) {M : zM} {v : Int32}    : z_Mi l G qX5_isPane (z_rm 2 0 0) [.int v] M (fun r M' => r = z_is v 0 5 ∧ M' = M)  := by
  refine z_Mi_of _ (plainFor_of_name rfl) rfl (Nat.le_of_ble_eq_true rfl) (fun X hl hG hnm C ret => ?_)
  subst hl; subst hG
  have C : z_C X cX5_isPane RX5 1 (z_rm 2 0 0) := C
  show z_W X M 0 0 0 [(0, .int v)] []
  refine z_iload_n C dX5_isPane_0 rfl 0 rfl ?_
  refine z_iconst C (v := 0) dX5_isPane_1 (by decide) ?_
  refine z_iconst C (v := 5) dX5_isPane_2 (by decide) ?_
  refine z_callSi (rest := []) (k' := 0) (n' := 0) C (c_X5_isIn (z_l X) (z_G X) ) (cs_X5_36 C (by decide)) rfl rfl (Nat.le_of_ble_eq_true rfl) rfl rfl (by decide) (by decide) dX5_isPane_3 (fun x3 M' hq => ?_)
  obtain ⟨rfl, rfl⟩ := hq
  exact ret dX5_isPane_6 (z_is_n _ _ _) (⟨rfl, rfl⟩) (by decide) (by decide)
set_option maxRecDepth 20000 in
theorem c_X5_left (l : Launch) (G : zG) {M : zM} {p : Nat} {ro : Int32} {ba : Int32} {sa : Int32} {cp : Int32} {po : Int32} {li : Int32} {mk : Int32} {rd : Int32}  (h_p : M p = some (cPm G ro ba sa cp po li mk rd))  : z_Mi l G qX5_left (z_rm 1 0 0) [.ref p] M (fun r M' => r = li - po ∧ M' = M)  := by
  refine z_Mi_of _ (plainFor_of_name rfl) rfl (Nat.le_of_ble_eq_true rfl) (fun X hl hG hnm C ret => ?_)
  subst hl; subst hG
  have C : z_C X cX5_left RX5 1 (z_rm 1 0 0) := C
  show z_W X M 0 0 0 [(0, .ref p)] []
  refine z_aload_n C dX5_left_0 rfl 0 rfl ?_
  refine z_iconst C (v := 5) dX5_left_1 (by decide) ?_
  refine z_pl5 C h_p dX5_left_2 ?_
  refine z_aload_n C dX5_left_3 rfl 0 rfl ?_
  refine z_iconst C (v := 4) dX5_left_4 (by decide) ?_
  refine z_pl4 C h_p dX5_left_5 ?_
  refine z_isub C dX5_left_6 ?_
  exact ret dX5_left_7 rfl (⟨rfl, rfl⟩) (by decide) (by decide)
set_option maxRecDepth 20000 in
theorem c_X5_where (l : Launch) (G : zG) {M : zM} {m : Nat} {p : Nat} {ix : Int32} {ro : Int32} {ba : Int32} {sa : Int32} {cp : Int32} {po : Int32} {li : Int32} {mk : Int32} {rd : Int32}  (h_p : M p = some (cPm G ro ba sa cp po li mk rd))  : z_Mi l G qX5_where (z_rm 1 0 0) [.ref m, .ref p, .int ix] M (fun r M' => r = (ba + sa) + ix ∧ M' = M)  := by
  refine z_Mi_of _ (plainFor_of_name rfl) rfl (Nat.le_of_ble_eq_true rfl) (fun X hl hG hnm C ret => ?_)
  subst hl; subst hG
  have C : z_C X cX5_where RX5 3 (z_rm 1 0 0) := C
  show z_W X M 0 0 0 [(0, .ref m), (1, .ref p), (2, .int ix)] []
  refine z_aload_n C dX5_where_0 rfl 1 rfl ?_
  refine z_iconst C (v := 1) dX5_where_1 (by decide) ?_
  refine z_pl1 C h_p dX5_where_2 ?_
  refine z_aload_n C dX5_where_3 rfl 1 rfl ?_
  refine z_iconst C (v := 2) dX5_where_4 (by decide) ?_
  refine z_pl2 C h_p dX5_where_5 ?_
  refine z_iadd C dX5_where_6 ?_
  refine z_iload_n C dX5_where_7 rfl 2 rfl ?_
  refine z_iadd C dX5_where_8 ?_
  exact ret dX5_where_9 rfl (⟨rfl, rfl⟩) (by decide) (by decide)
set_option maxRecDepth 20000 in
theorem c_X5_did (l : Launch) (G : zG) {M : zM} {m : Nat} {r0 : Int32} {tp : Nat} {nr : Int32} {pn : Nat} {td : Nat} {ac : Int32} {kn : Int32} {th : Int32}  (h_m : M m = some (cMd tp nr pn td ac kn th))  : z_Mi l G qX5_did (z_rm 1 0 0) [.ref m, .int r0] M (fun r M' => r = r0 ∧ M' = z_up M m (cMd tp nr pn td (ac + 1) kn th))  := by
  refine z_Mi_of _ (plainFor_of_name rfl) rfl (Nat.le_of_ble_eq_true rfl) (fun X hl hG hnm C ret => ?_)
  subst hl; subst hG
  have C : z_C X cX5_did RX5 2 (z_rm 1 0 0) := C
  show z_W X M 0 0 0 [(0, .ref m), (1, .int r0)] []
  refine z_aload_n C dX5_did_0 rfl 0 rfl ?_
  refine z_dup C dX5_did_1 rfl ?_
  refine gf_X5_40 C h_m dX5_did_2 ?_
  refine z_iconst C (v := 1) dX5_did_5 (by decide) ?_
  refine z_iadd C dX5_did_6 ?_
  refine pf_X5_40 C h_m dX5_did_7 ?_
  refine z_iload_n C dX5_did_10 rfl 1 rfl ?_
  exact ret dX5_did_11 rfl (⟨rfl, rfl⟩) (by decide) (by decide)
set_option maxRecDepth 20000 in
theorem c_X5_refuse (l : Launch) (G : zG) {M : zM} {m : Nat} {kd : Int32} {tp : Nat} {nr : Int32} {pn : Nat} {td : Nat} {ac : Int32} {kn : Int32} {th : Int32} {fd : Nat → Int32} {kj : Nat} (h_m : M m = some (cMd tp nr pn td ac kn th)) (h_td : M td = some (aI G 6 fd)) (h_kd : vp_in kd 6) (h_kj : kd.toNatClampNeg = kj) : z_Mi l G qX5_refuse (z_rm 1 0 0) [.ref m, .int kd] M (fun r M' => r = (-9) ∧ M' = z_up M td (aI G 6 (upd fd kj ((fd kj) + 1))))  := by
  refine z_Mi_of _ (plainFor_of_name rfl) rfl (Nat.le_of_ble_eq_true rfl) (fun X hl hG hnm C ret => ?_)
  subst hl; subst hG
  have C : z_C X cX5_refuse RX5 2 (z_rm 1 0 0) := C
  show z_W X M 0 0 0 [(0, .ref m), (1, .int kd)] []
  refine z_aload_n C dX5_refuse_0 rfl 0 rfl ?_
  refine gf_X5_22 C h_m dX5_refuse_1 ?_
  refine z_iload_n C dX5_refuse_4 rfl 1 rfl ?_
  refine z_dup2 C dX5_refuse_5 rfl rfl ?_
  refine z_iald (j := kj) C h_td h_kd h_kj dX5_refuse_6 ?_
  refine z_iconst C (v := 1) dX5_refuse_7 (by decide) ?_
  refine z_iadd C dX5_refuse_8 ?_
  refine z_iast (j := kj) C h_td h_kd h_kj dX5_refuse_9 ?_
  refine z_bipush C (v := (-9)) dX5_refuse_10 (by decide) ?_
  exact ret dX5_refuse_12 rfl (⟨rfl, rfl⟩) (by decide) (by decide)
set_option maxRecDepth 20000 in
theorem c_X5_isLet (l : Launch) (G : zG) {M : zM} {m : Nat} {t0 : Int32} {f0 : Int32} {tp : Nat} {nr : Int32} {pn : Nat} {td : Nat} {ac : Int32} {kn : Int32} {th : Int32}  (h_m : M m = some (cMd tp nr pn td ac kn th))  : z_Mi l G qX5_isLet (z_rm 1 0 0) [.ref m, .int t0, .int f0] M (fun r M' => r = z_lr t0 f0 ∧ M' = z_up M m (cMd tp nr pn td ac kn (z_lt t0 f0)))  := by
  refine z_Mi_of _ (plainFor_of_name rfl) rfl (Nat.le_of_ble_eq_true rfl) (fun X hl hG hnm C ret => ?_)
  subst hl; subst hG
  have C : z_C X cX5_isLet RX5 3 (z_rm 1 0 0) := C
  show z_W X M 0 0 0 [(0, .ref m), (1, .int t0), (2, .int f0)] []
  refine z_aload_n C dX5_isLet_0 rfl 0 rfl ?_
  refine z_iload_n C dX5_isLet_1 rfl 1 rfl ?_
  refine z_if_ne C (tgt := 9) dX5_isLet_2 (by decide) (fun c2 => ?_) (fun c2 => ?_)
  · refine z_iload_n C dX5_isLet_9 rfl 2 rfl ?_
    refine z_if_ne C (tgt := 17) dX5_isLet_10 (by decide) (fun c10 => ?_) (fun c10 => ?_)
    · refine z_iconst C (v := 0) dX5_isLet_17 (by decide) ?_
      refine pf_X5_33 C h_m dX5_isLet_18 ?_
      refine z_aload_n C dX5_isLet_21 rfl 0 rfl ?_
      refine gf_X5_33 C (z_up_s _ _ _) dX5_isLet_22 ?_
      refine z_if_ne C (tgt := 32) dX5_isLet_25 (by decide) (fun c25 => absurd (by decide) c25) (fun _ => ?_)
      refine z_iconst C (v := 1) dX5_isLet_28 (by decide) ?_
      refine z_goto C (tgt := 33) dX5_isLet_29 (by decide) ?_
      refine ret dX5_isLet_33 rfl ?_ (by decide) (by decide)
      exact ⟨by simp [z_lr, z_lt, *], by simp [z_lt, *]⟩
    · refine z_iconst C (v := 2) dX5_isLet_13 (by decide) ?_
      refine z_goto C (tgt := 18) dX5_isLet_14 (by decide) ?_
      refine pf_X5_33 C h_m dX5_isLet_18 ?_
      refine z_aload_n C dX5_isLet_21 rfl 0 rfl ?_
      refine gf_X5_33 C (z_up_s _ _ _) dX5_isLet_22 ?_
      refine z_if_ne C (tgt := 32) dX5_isLet_25 (by decide) (fun _ => ?_) (fun c25 => absurd c25 (by decide))
      refine z_iconst C (v := 0) dX5_isLet_32 (by decide) ?_
      refine ret dX5_isLet_33 rfl ?_ (by decide) (by decide)
      exact ⟨by simp [z_lr, z_lt, *], by simp [z_lt, *]⟩
  · refine z_iconst C (v := 1) dX5_isLet_5 (by decide) ?_
    refine z_goto C (tgt := 18) dX5_isLet_6 (by decide) ?_
    refine pf_X5_33 C h_m dX5_isLet_18 ?_
    refine z_aload_n C dX5_isLet_21 rfl 0 rfl ?_
    refine gf_X5_33 C (z_up_s _ _ _) dX5_isLet_22 ?_
    refine z_if_ne C (tgt := 32) dX5_isLet_25 (by decide) (fun _ => ?_) (fun c25 => absurd c25 (by decide))
    refine z_iconst C (v := 0) dX5_isLet_32 (by decide) ?_
    refine ret dX5_isLet_33 rfl ?_ (by decide) (by decide)
    exact ⟨by simp [z_lr, z_lt, *], by simp [z_lt, *]⟩
set_option maxRecDepth 20000 in
theorem c_X5_moved (l : Launch) (G : zG) {M : zM} {m : Nat} {p : Nat} {pl : Int32} {ro : Int32} {ba : Int32} {sa : Int32} {cp : Int32} {po : Int32} {li : Int32} {mk : Int32} {rd : Int32}  (h_p : M p = some (cPm G ro ba sa cp po li mk rd))  : z_Mv l G qX5_moved (z_rm 1 0 0) [.ref m, .ref p, .int pl] M (fun M' => ((mk ≤ pl) ∧ M' = z_up M p (cPm G ro ba sa cp pl li mk rd)) ∨ ((¬ mk ≤ pl) ∧ M' = z_up M p (cPm G ro ba sa cp pl li (-1) rd)))  := by
  refine z_Mv_of _ (plainFor_of_name rfl) rfl (Nat.le_of_ble_eq_true rfl) (fun X hl hG hnm C ret => ?_)
  subst hl; subst hG
  have C : z_C X cX5_moved RX5 3 (z_rm 1 0 0) := C
  show z_W X M 0 0 0 [(0, .ref m), (1, .ref p), (2, .int pl)] []
  refine z_aload_n C dX5_moved_0 rfl 1 rfl ?_
  refine z_iconst C (v := 4) dX5_moved_1 (by decide) ?_
  refine z_iload_n C dX5_moved_2 rfl 2 rfl ?_
  refine z_ps4 C h_p dX5_moved_3 ?_
  refine z_aload_n C dX5_moved_4 rfl 1 rfl ?_
  refine z_bipush C (v := 6) dX5_moved_5 (by decide) ?_
  refine z_pl6 C (z_up_s _ _ _) dX5_moved_7 ?_
  refine z_iload_n C dX5_moved_8 rfl 2 rfl ?_
  refine z_icmp_le C (tgt := 17) dX5_moved_9 (by decide) (fun c9 => ?_) (fun c9 => ?_)
  · exact ret dX5_moved_17 (Or.inl ⟨c9, rfl⟩) (by decide) (by decide)
  · refine z_aload_n C dX5_moved_12 rfl 1 rfl ?_
    refine z_bipush C (v := 6) dX5_moved_13 (by decide) ?_
    refine z_iconst C (v := (-1)) dX5_moved_15 (by decide) ?_
    refine z_pt6 C dX5_moved_16 ?_
    exact ret dX5_moved_17 (Or.inr (⟨c9, rfl⟩)) (by decide) (by decide)
set_option maxRecDepth 20000 in
theorem c_X5_ended (l : Launch) (G : zG) {M : zM} {m : Nat} {p : Nat} {pl : Int32} {ro : Int32} {ba : Int32} {sa : Int32} {cp : Int32} {po : Int32} {li : Int32} {mk : Int32} {rd : Int32}  (h_p : M p = some (cPm G ro ba sa cp po li mk rd))  : z_Mv l G qX5_ended (z_rm 1 0 0) [.ref m, .ref p, .int pl] M (fun M' => ((po ≤ pl) ∧ (mk ≤ pl) ∧ M' = z_up M p (cPm G ro ba sa cp po pl mk rd)) ∨ ((po ≤ pl) ∧ (¬ mk ≤ pl) ∧ M' = z_up M p (cPm G ro ba sa cp po pl (-1) rd)) ∨ ((¬ po ≤ pl) ∧ (mk ≤ pl) ∧ M' = z_up M p (cPm G ro ba sa cp pl pl mk rd)) ∨ ((¬ po ≤ pl) ∧ (¬ mk ≤ pl) ∧ M' = z_up M p (cPm G ro ba sa cp pl pl (-1) rd)))  := by
  refine z_Mv_of _ (plainFor_of_name rfl) rfl (Nat.le_of_ble_eq_true rfl) (fun X hl hG hnm C ret => ?_)
  subst hl; subst hG
  have C : z_C X cX5_ended RX5 3 (z_rm 1 0 0) := C
  show z_W X M 0 0 0 [(0, .ref m), (1, .ref p), (2, .int pl)] []
  refine z_aload_n C dX5_ended_0 rfl 1 rfl ?_
  refine z_iconst C (v := 5) dX5_ended_1 (by decide) ?_
  refine z_iload_n C dX5_ended_2 rfl 2 rfl ?_
  refine z_ps5 C h_p dX5_ended_3 ?_
  refine z_aload_n C dX5_ended_4 rfl 1 rfl ?_
  refine z_iconst C (v := 4) dX5_ended_5 (by decide) ?_
  refine z_pl4 C (z_up_s _ _ _) dX5_ended_6 ?_
  refine z_iload_n C dX5_ended_7 rfl 2 rfl ?_
  refine z_icmp_le C (tgt := 15) dX5_ended_8 (by decide) (fun c8 => ?_) (fun c8 => ?_)
  · refine z_aload_n C dX5_ended_15 rfl 1 rfl ?_
    refine z_bipush C (v := 6) dX5_ended_16 (by decide) ?_
    refine z_pl6 C (z_up_s _ _ _) dX5_ended_18 ?_
    refine z_iload_n C dX5_ended_19 rfl 2 rfl ?_
    refine z_icmp_le C (tgt := 28) dX5_ended_20 (by decide) (fun c20 => ?_) (fun c20 => ?_)
    · exact ret dX5_ended_28 (Or.inl ⟨c8, c20, rfl⟩) (by decide) (by decide)
    · refine z_aload_n C dX5_ended_23 rfl 1 rfl ?_
      refine z_bipush C (v := 6) dX5_ended_24 (by decide) ?_
      refine z_iconst C (v := (-1)) dX5_ended_26 (by decide) ?_
      refine z_pt6 C dX5_ended_27 ?_
      exact ret dX5_ended_28 (Or.inr (Or.inl ⟨c8, c20, rfl⟩)) (by decide) (by decide)
  · refine z_aload_n C dX5_ended_11 rfl 1 rfl ?_
    refine z_iconst C (v := 4) dX5_ended_12 (by decide) ?_
    refine z_iload_n C dX5_ended_13 rfl 2 rfl ?_
    refine z_pt4 C dX5_ended_14 ?_
    refine z_aload_n C dX5_ended_15 rfl 1 rfl ?_
    refine z_bipush C (v := 6) dX5_ended_16 (by decide) ?_
    refine z_pl6 C (z_up_s _ _ _) dX5_ended_18 ?_
    refine z_iload_n C dX5_ended_19 rfl 2 rfl ?_
    refine z_icmp_le C (tgt := 28) dX5_ended_20 (by decide) (fun c20 => ?_) (fun c20 => ?_)
    · exact ret dX5_ended_28 (Or.inr (Or.inr (Or.inl ⟨c8, c20, rfl⟩))) (by decide) (by decide)
    · refine z_aload_n C dX5_ended_23 rfl 1 rfl ?_
      refine z_bipush C (v := 6) dX5_ended_24 (by decide) ?_
      refine z_iconst C (v := (-1)) dX5_ended_26 (by decide) ?_
      refine z_pt6 C dX5_ended_27 ?_
      exact ret dX5_ended_28 (Or.inr (Or.inr (Or.inr (⟨c8, c20, rfl⟩)))) (by decide) (by decide)
set_option maxRecDepth 20000 in
theorem c_X5_written (l : Launch) (G : zG) {M : zM} {m : Nat} {pl : Int32} {v : Int32} {tp : Nat} {nr : Int32} {pn : Nat} {td : Nat} {ac : Int32} {kn : Int32} {th : Int32} {nt : Nat} {ft : Nat → Int32}  (h_m : M m = some (cMd tp nr pn td ac kn th)) (h_tp : M tp = some (aI G nt ft)) (h_pl : vp_in pl nt) : z_Mi l G qX5_written (z_rm 1 0 0) [.ref m, .int pl, .int v] M (fun r M' => r = ft pl.toNatClampNeg ∧ M' = z_up M tp (aI G nt (upd ft pl.toNatClampNeg v)))  := by
  refine z_Mi_of _ (plainFor_of_name rfl) rfl (Nat.le_of_ble_eq_true rfl) (fun X hl hG hnm C ret => ?_)
  subst hl; subst hG
  have C : z_C X cX5_written RX5 4 (z_rm 1 0 0) := C
  show z_W X M 0 0 0 [(0, .ref m), (1, .int pl), (2, .int v)] []
  refine z_aload_n C dX5_written_0 rfl 0 rfl ?_
  refine gf_X5_9 C h_m dX5_written_1 ?_
  refine z_iload_n C dX5_written_4 rfl 1 rfl ?_
  refine z_iald (j := pl.toNatClampNeg) C h_tp h_pl rfl dX5_written_5 ?_
  refine z_istore_n (lv' := [(3, .int (ft pl.toNatClampNeg)), (0, .ref m), (1, .int pl), (2, .int v)]) C dX5_written_6 rfl (by decide) rfl ?_
  refine z_aload_n C dX5_written_7 rfl 1 rfl ?_
  refine gf_X5_9 C h_m dX5_written_8 ?_
  refine z_iload_n C dX5_written_11 rfl 2 rfl ?_
  refine z_iload_n C dX5_written_12 rfl 3 rfl ?_
  refine z_iast (j := pl.toNatClampNeg) C h_tp h_pl rfl dX5_written_13 ?_
  refine z_iload_n C dX5_written_14 rfl 0 rfl ?_
  exact ret dX5_written_15 rfl (⟨rfl, rfl⟩) (by decide) (by decide)
set_option maxRecDepth 20000 in
theorem c_X5_begun (l : Launch) (G : zG) {M : zM} {m : Nat} {p : Nat} {p1 : Int32} {l1 : Int32} {tp : Nat} {nr : Int32} {pn : Nat} {td : Nat} {ac : Int32} {kn : Int32} {th : Int32} {ro : Int32} {ba : Int32} {sa : Int32} {cp : Int32} {po : Int32} {li : Int32} {mk : Int32} {rd : Int32}  (h_m : M m = some (cMd tp nr pn td ac kn th)) (h_p : M p = some (cPm G ro ba sa cp po li mk rd))  : z_Mi l G qX5_begun (z_rm 2 0 0) [.ref m, .ref p, .int p1, .int l1] M (fun r M' => r = (l1 - p1) ∧ M' = z_up (z_up M p (cPm G ro ba sa cp p1 l1 (-1) rd)) m (cMd tp nr pn td (ac + 1) kn th))  := by
  refine z_Mi_of _ (plainFor_of_name rfl) rfl (Nat.le_of_ble_eq_true rfl) (fun X hl hG hnm C ret => ?_)
  subst hl; subst hG
  have C : z_C X cX5_begun RX5 4 (z_rm 2 0 0) := C
  show z_W X M 0 0 0 [(0, .ref m), (1, .ref p), (2, .int p1), (3, .int l1)] []
  refine z_aload_n C dX5_begun_0 rfl 1 rfl ?_
  refine z_iconst C (v := 4) dX5_begun_1 (by decide) ?_
  refine z_iload_n C dX5_begun_2 rfl 2 rfl ?_
  refine z_ps4 C h_p dX5_begun_3 ?_
  refine z_aload_n C dX5_begun_4 rfl 1 rfl ?_
  refine z_iconst C (v := 5) dX5_begun_5 (by decide) ?_
  refine z_iload_n C dX5_begun_6 rfl 3 rfl ?_
  refine z_pt5 C dX5_begun_7 ?_
  refine z_aload_n C dX5_begun_8 rfl 1 rfl ?_
  refine z_bipush C (v := 6) dX5_begun_9 (by decide) ?_
  refine z_iconst C (v := (-1)) dX5_begun_11 (by decide) ?_
  refine z_pt6 C dX5_begun_12 ?_
  refine z_aload_n C dX5_begun_13 rfl 0 rfl ?_
  refine z_aload_n C dX5_begun_14 rfl 1 rfl ?_
  refine z_callSi (rest := [.ref m]) (k' := 0) (n' := 0) C (c_X5_left (z_l X) (z_G X) (z_up_s _ _ _)) (cs_X5_43 C (by decide)) rfl rfl (Nat.le_of_ble_eq_true rfl) rfl rfl (by decide) (by decide) dX5_begun_15 (fun x15 M' hq => ?_)
  obtain ⟨rfl, rfl⟩ := hq
  refine z_callVi (rest := []) (k' := 0) (n' := 0) C (c_X5_did (z_l X) (z_G X) ((z_up_n _ _ (z_ne h_m h_p (by intro h; cases h))).trans h_m)) (cs_X5_63 C (by decide)) ((z_up_n _ _ (z_ne h_m h_p (by intro h; cases h))).trans h_m) rfl rfl rfl rfl (Nat.le_of_ble_eq_true rfl) rfl rfl (by decide) (by decide) dX5_begun_18 (fun x18 M' hq => ?_)
  obtain ⟨rfl, rfl⟩ := hq
  exact ret dX5_begun_21 rfl (⟨rfl, rfl⟩) (by decide) (by decide)
set_option maxRecDepth 20000 in
theorem c_X5_thrown (l : Launch) (G : zG) {M : zM} {m : Nat} {tp : Nat} {nr : Int32} {pn : Nat} {td : Nat} {ac : Int32} {kn : Int32} {th : Int32}  (h_m : M m = some (cMd tp nr pn td ac kn th))  : z_Mi l G qX5_thrown (z_rm 1 0 0) [.ref m] M (fun r M' => r = th ∧ M' = M)  := by
  refine z_Mi_of _ (plainFor_of_name rfl) rfl (Nat.le_of_ble_eq_true rfl) (fun X hl hG hnm C ret => ?_)
  subst hl; subst hG
  have C : z_C X cX5_thrown RX5 1 (z_rm 1 0 0) := C
  show z_W X M 0 0 0 [(0, .ref m)] []
  refine z_aload_n C dX5_thrown_0 rfl 0 rfl ?_
  refine gf_X5_33 C h_m dX5_thrown_1 ?_
  exact ret dX5_thrown_4 rfl (⟨rfl, rfl⟩) (by decide) (by decide)
set_option maxRecDepth 20000 in
theorem c_X5_knock (l : Launch) (G : zG) {M : zM} {m : Nat} {tp : Nat} {nr : Int32} {pn : Nat} {td : Nat} {ac : Int32} {kn : Int32} {th : Int32}  (h_m : M m = some (cMd tp nr pn td ac kn th))  : z_Mi l G qX5_knock (z_rm 1 0 0) [.ref m] M (fun r M' => r = kn + 1 ∧ M' = z_up M m (cMd tp nr pn td ac (kn + 1) 0))  := by
  refine z_Mi_of _ (plainFor_of_name rfl) rfl (Nat.le_of_ble_eq_true rfl) (fun X hl hG hnm C ret => ?_)
  subst hl; subst hG
  have C : z_C X cX5_knock RX5 1 (z_rm 1 0 0) := C
  show z_W X M 0 0 0 [(0, .ref m)] []
  refine z_aload_n C dX5_knock_0 rfl 0 rfl ?_
  refine z_iconst C (v := 0) dX5_knock_1 (by decide) ?_
  refine pf_X5_33 C h_m dX5_knock_2 ?_
  refine z_aload_n C dX5_knock_5 rfl 0 rfl ?_
  refine z_dup C dX5_knock_6 rfl ?_
  refine gf_X5_139 C (z_up_s _ _ _) dX5_knock_7 ?_
  refine z_iconst C (v := 1) dX5_knock_10 (by decide) ?_
  refine z_iadd C dX5_knock_11 ?_
  refine pg_X5_139 C dX5_knock_12 ?_
  refine z_aload_n C dX5_knock_15 rfl 0 rfl ?_
  refine gf_X5_139 C (z_up_s _ _ _) dX5_knock_16 ?_
  exact ret dX5_knock_19 rfl (⟨rfl, rfl⟩) (by decide) (by decide)
set_option maxRecDepth 20000 in
theorem c_X5_isSound (l : Launch) (G : zG) {M : zM} {m : Nat} {tp : Nat} {nr : Int32} {pn : Nat} {td : Nat} {ac : Int32} {kn : Int32} {th : Int32}  (h_m : M m = some (cMd tp nr pn td ac kn th))  : z_Mi l G qX5_isSound (z_rm 1 0 0) [.ref m] M (fun r M' => r = 1 ∧ M' = z_up M m (cMd tp nr pn td ac kn 0))  := by
  refine z_Mi_of _ (plainFor_of_name rfl) rfl (Nat.le_of_ble_eq_true rfl) (fun X hl hG hnm C ret => ?_)
  subst hl; subst hG
  have C : z_C X cX5_isSound RX5 1 (z_rm 1 0 0) := C
  show z_W X M 0 0 0 [(0, .ref m)] []
  refine z_aload_n C dX5_isSound_0 rfl 0 rfl ?_
  refine z_iconst C (v := 0) dX5_isSound_1 (by decide) ?_
  refine pf_X5_33 C h_m dX5_isSound_2 ?_
  refine z_iconst C (v := 1) dX5_isSound_5 (by decide) ?_
  exact ret dX5_isSound_6 rfl (⟨rfl, rfl⟩) (by decide) (by decide)
end
section
theorem dX5_go_0 : decode cX5_go 0 = .ok (.aload_n 0, 1) := by decide +kernel
theorem dX5_go_1 : decode cX5_go 1 = .ok (.iload_n 1, 1) := by decide +kernel
theorem dX5_go_2 : decode cX5_go 2 = .ok (.invokestatic 55, 3) := by decide +kernel
theorem dX5_go_5 : decode cX5_go 5 = .ok (.iconst 1, 1) := by decide +kernel
theorem dX5_go_6 : decode cX5_go 6 = .ok (.invokevirtual 59, 3) := by decide +kernel
theorem dX5_go_9 : decode cX5_go 9 = .ok (.ifCond .ne 5, 3) := by decide +kernel
theorem dX5_go_12 : decode cX5_go 12 = .ok (.iconst 0, 1) := by decide +kernel
theorem dX5_go_13 : decode cX5_go 13 = .ok (.ireturn, 1) := by decide +kernel
theorem dX5_go_14 : decode cX5_go 14 = .ok (.aload_n 0, 1) := by decide +kernel
theorem dX5_go_15 : decode cX5_go 15 = .ok (.getfield 18, 3) := by decide +kernel
theorem dX5_go_18 : decode cX5_go 18 = .ok (.iload_n 1, 1) := by decide +kernel
theorem dX5_go_19 : decode cX5_go 19 = .ok (.aaload, 1) := by decide +kernel
theorem dX5_go_20 : decode cX5_go 20 = .ok (.astore_n 3, 1) := by decide +kernel
theorem dX5_go_21 : decode cX5_go 21 = .ok (.aload_n 3, 1) := by decide +kernel
theorem dX5_go_22 : decode cX5_go 22 = .ok (.iconst 4, 1) := by decide +kernel
theorem dX5_go_23 : decode cX5_go 23 = .ok (.iaload, 1) := by decide +kernel
theorem dX5_go_24 : decode cX5_go 24 = .ok (.istore 4, 2) := by decide +kernel
theorem dX5_go_26 : decode cX5_go 26 = .ok (.iload_n 2, 1) := by decide +kernel
theorem dX5_go_27 : decode cX5_go 27 = .ok (.iconst 0, 1) := by decide +kernel
theorem dX5_go_28 : decode cX5_go 28 = .ok (.aload_n 3, 1) := by decide +kernel
theorem dX5_go_29 : decode cX5_go 29 = .ok (.iconst 5, 1) := by decide +kernel
theorem dX5_go_30 : decode cX5_go 30 = .ok (.iaload, 1) := by decide +kernel
theorem dX5_go_31 : decode cX5_go 31 = .ok (.invokestatic 36, 3) := by decide +kernel
theorem dX5_go_34 : decode cX5_go 34 = .ok (.ifCond .ne 9, 3) := by decide +kernel
theorem dX5_go_37 : decode cX5_go 37 = .ok (.aload_n 0, 1) := by decide +kernel
theorem dX5_go_38 : decode cX5_go 38 = .ok (.iconst 5, 1) := by decide +kernel
theorem dX5_go_39 : decode cX5_go 39 = .ok (.invokevirtual 47, 3) := by decide +kernel
theorem dX5_go_42 : decode cX5_go 42 = .ok (.ireturn, 1) := by decide +kernel
theorem dX5_go_43 : decode cX5_go 43 = .ok (.aload_n 0, 1) := by decide +kernel
theorem dX5_go_44 : decode cX5_go 44 = .ok (.aload_n 3, 1) := by decide +kernel
theorem dX5_go_45 : decode cX5_go 45 = .ok (.iload_n 2, 1) := by decide +kernel
theorem dX5_go_46 : decode cX5_go 46 = .ok (.invokevirtual 74, 3) := by decide +kernel
theorem dX5_go_49 : decode cX5_go 49 = .ok (.aload_n 0, 1) := by decide +kernel
theorem dX5_go_50 : decode cX5_go 50 = .ok (.iload 4, 2) := by decide +kernel
theorem dX5_go_52 : decode cX5_go 52 = .ok (.invokevirtual 63, 3) := by decide +kernel
theorem dX5_go_55 : decode cX5_go 55 = .ok (.ireturn, 1) := by decide +kernel
theorem dX5_end_0 : decode cX5_end 0 = .ok (.aload_n 0, 1) := by decide +kernel
theorem dX5_end_1 : decode cX5_end 1 = .ok (.iload_n 1, 1) := by decide +kernel
theorem dX5_end_2 : decode cX5_end 2 = .ok (.invokestatic 55, 3) := by decide +kernel
theorem dX5_end_5 : decode cX5_end 5 = .ok (.iconst 1, 1) := by decide +kernel
theorem dX5_end_6 : decode cX5_end 6 = .ok (.invokevirtual 59, 3) := by decide +kernel
theorem dX5_end_9 : decode cX5_end 9 = .ok (.ifCond .ne 5, 3) := by decide +kernel
theorem dX5_end_12 : decode cX5_end 12 = .ok (.iconst 0, 1) := by decide +kernel
theorem dX5_end_13 : decode cX5_end 13 = .ok (.ireturn, 1) := by decide +kernel
theorem dX5_end_14 : decode cX5_end 14 = .ok (.aload_n 0, 1) := by decide +kernel
theorem dX5_end_15 : decode cX5_end 15 = .ok (.getfield 18, 3) := by decide +kernel
theorem dX5_end_18 : decode cX5_end 18 = .ok (.iload_n 1, 1) := by decide +kernel
theorem dX5_end_19 : decode cX5_end 19 = .ok (.aaload, 1) := by decide +kernel
theorem dX5_end_20 : decode cX5_end 20 = .ok (.astore_n 3, 1) := by decide +kernel
theorem dX5_end_21 : decode cX5_end 21 = .ok (.aload_n 3, 1) := by decide +kernel
theorem dX5_end_22 : decode cX5_end 22 = .ok (.iconst 5, 1) := by decide +kernel
theorem dX5_end_23 : decode cX5_end 23 = .ok (.iaload, 1) := by decide +kernel
theorem dX5_end_24 : decode cX5_end 24 = .ok (.istore 4, 2) := by decide +kernel
theorem dX5_end_26 : decode cX5_end 26 = .ok (.iload_n 2, 1) := by decide +kernel
theorem dX5_end_27 : decode cX5_end 27 = .ok (.iconst 0, 1) := by decide +kernel
theorem dX5_end_28 : decode cX5_end 28 = .ok (.aload_n 3, 1) := by decide +kernel
theorem dX5_end_29 : decode cX5_end 29 = .ok (.iconst 3, 1) := by decide +kernel
theorem dX5_end_30 : decode cX5_end 30 = .ok (.iaload, 1) := by decide +kernel
theorem dX5_end_31 : decode cX5_end 31 = .ok (.invokestatic 36, 3) := by decide +kernel
theorem dX5_end_34 : decode cX5_end 34 = .ok (.ifCond .ne 9, 3) := by decide +kernel
theorem dX5_end_37 : decode cX5_end 37 = .ok (.aload_n 0, 1) := by decide +kernel
theorem dX5_end_38 : decode cX5_end 38 = .ok (.iconst 5, 1) := by decide +kernel
theorem dX5_end_39 : decode cX5_end 39 = .ok (.invokevirtual 47, 3) := by decide +kernel
theorem dX5_end_42 : decode cX5_end 42 = .ok (.ireturn, 1) := by decide +kernel
theorem dX5_end_43 : decode cX5_end 43 = .ok (.aload_n 0, 1) := by decide +kernel
theorem dX5_end_44 : decode cX5_end 44 = .ok (.aload_n 3, 1) := by decide +kernel
theorem dX5_end_45 : decode cX5_end 45 = .ok (.iload_n 2, 1) := by decide +kernel
theorem dX5_end_46 : decode cX5_end 46 = .ok (.invokevirtual 82, 3) := by decide +kernel
theorem dX5_end_49 : decode cX5_end 49 = .ok (.aload_n 0, 1) := by decide +kernel
theorem dX5_end_50 : decode cX5_end 50 = .ok (.iload 4, 2) := by decide +kernel
theorem dX5_end_52 : decode cX5_end 52 = .ok (.invokevirtual 63, 3) := by decide +kernel
theorem dX5_end_55 : decode cX5_end 55 = .ok (.ireturn, 1) := by decide +kernel
theorem dX5_move_0 : decode cX5_move 0 = .ok (.aload_n 0, 1) := by decide +kernel
theorem dX5_move_1 : decode cX5_move 1 = .ok (.iload_n 1, 1) := by decide +kernel
theorem dX5_move_2 : decode cX5_move 2 = .ok (.invokestatic 55, 3) := by decide +kernel
theorem dX5_move_5 : decode cX5_move 5 = .ok (.iload_n 2, 1) := by decide +kernel
theorem dX5_move_6 : decode cX5_move 6 = .ok (.bipush (-20), 2) := by decide +kernel
theorem dX5_move_8 : decode cX5_move 8 = .ok (.bipush 20, 2) := by decide +kernel
theorem dX5_move_10 : decode cX5_move 10 = .ok (.invokestatic 36, 3) := by decide +kernel
theorem dX5_move_13 : decode cX5_move 13 = .ok (.invokevirtual 59, 3) := by decide +kernel
theorem dX5_move_16 : decode cX5_move 16 = .ok (.ifCond .ne 5, 3) := by decide +kernel
theorem dX5_move_19 : decode cX5_move 19 = .ok (.iconst 0, 1) := by decide +kernel
theorem dX5_move_20 : decode cX5_move 20 = .ok (.ireturn, 1) := by decide +kernel
theorem dX5_move_21 : decode cX5_move 21 = .ok (.aload_n 0, 1) := by decide +kernel
theorem dX5_move_22 : decode cX5_move 22 = .ok (.getfield 18, 3) := by decide +kernel
theorem dX5_move_25 : decode cX5_move 25 = .ok (.iload_n 1, 1) := by decide +kernel
theorem dX5_move_26 : decode cX5_move 26 = .ok (.aaload, 1) := by decide +kernel
theorem dX5_move_27 : decode cX5_move 27 = .ok (.iconst 4, 1) := by decide +kernel
theorem dX5_move_28 : decode cX5_move 28 = .ok (.iaload, 1) := by decide +kernel
theorem dX5_move_29 : decode cX5_move 29 = .ok (.iload_n 2, 1) := by decide +kernel
theorem dX5_move_30 : decode cX5_move 30 = .ok (.iadd, 1) := by decide +kernel
theorem dX5_move_31 : decode cX5_move 31 = .ok (.istore_n 3, 1) := by decide +kernel
theorem dX5_move_32 : decode cX5_move 32 = .ok (.aload_n 0, 1) := by decide +kernel
theorem dX5_move_33 : decode cX5_move 33 = .ok (.iload_n 1, 1) := by decide +kernel
theorem dX5_move_34 : decode cX5_move 34 = .ok (.iload_n 3, 1) := by decide +kernel
theorem dX5_move_35 : decode cX5_move 35 = .ok (.invokevirtual 78, 3) := by decide +kernel
theorem dX5_move_38 : decode cX5_move 38 = .ok (.bipush (-9), 2) := by decide +kernel
theorem dX5_move_40 : decode cX5_move 40 = .ok (.if_icmp .ne 8, 3) := by decide +kernel
theorem dX5_move_43 : decode cX5_move 43 = .ok (.bipush (-9), 2) := by decide +kernel
theorem dX5_move_45 : decode cX5_move 45 = .ok (.goto 4, 3) := by decide +kernel
theorem dX5_move_48 : decode cX5_move 48 = .ok (.iload_n 3, 1) := by decide +kernel
theorem dX5_move_49 : decode cX5_move 49 = .ok (.ireturn, 1) := by decide +kernel
theorem dX5_stretch_0 : decode cX5_stretch 0 = .ok (.aload_n 0, 1) := by decide +kernel
theorem dX5_stretch_1 : decode cX5_stretch 1 = .ok (.iload_n 1, 1) := by decide +kernel
theorem dX5_stretch_2 : decode cX5_stretch 2 = .ok (.invokestatic 55, 3) := by decide +kernel
theorem dX5_stretch_5 : decode cX5_stretch 5 = .ok (.iload_n 2, 1) := by decide +kernel
theorem dX5_stretch_6 : decode cX5_stretch 6 = .ok (.bipush (-20), 2) := by decide +kernel
theorem dX5_stretch_8 : decode cX5_stretch 8 = .ok (.bipush 20, 2) := by decide +kernel
theorem dX5_stretch_10 : decode cX5_stretch 10 = .ok (.invokestatic 36, 3) := by decide +kernel
theorem dX5_stretch_13 : decode cX5_stretch 13 = .ok (.invokevirtual 59, 3) := by decide +kernel
theorem dX5_stretch_16 : decode cX5_stretch 16 = .ok (.ifCond .ne 5, 3) := by decide +kernel
theorem dX5_stretch_19 : decode cX5_stretch 19 = .ok (.iconst 0, 1) := by decide +kernel
theorem dX5_stretch_20 : decode cX5_stretch 20 = .ok (.ireturn, 1) := by decide +kernel
theorem dX5_stretch_21 : decode cX5_stretch 21 = .ok (.aload_n 0, 1) := by decide +kernel
theorem dX5_stretch_22 : decode cX5_stretch 22 = .ok (.getfield 18, 3) := by decide +kernel
theorem dX5_stretch_25 : decode cX5_stretch 25 = .ok (.iload_n 1, 1) := by decide +kernel
theorem dX5_stretch_26 : decode cX5_stretch 26 = .ok (.aaload, 1) := by decide +kernel
theorem dX5_stretch_27 : decode cX5_stretch 27 = .ok (.iconst 5, 1) := by decide +kernel
theorem dX5_stretch_28 : decode cX5_stretch 28 = .ok (.iaload, 1) := by decide +kernel
theorem dX5_stretch_29 : decode cX5_stretch 29 = .ok (.iload_n 2, 1) := by decide +kernel
theorem dX5_stretch_30 : decode cX5_stretch 30 = .ok (.iadd, 1) := by decide +kernel
theorem dX5_stretch_31 : decode cX5_stretch 31 = .ok (.istore_n 3, 1) := by decide +kernel
theorem dX5_stretch_32 : decode cX5_stretch 32 = .ok (.aload_n 0, 1) := by decide +kernel
theorem dX5_stretch_33 : decode cX5_stretch 33 = .ok (.iload_n 1, 1) := by decide +kernel
theorem dX5_stretch_34 : decode cX5_stretch 34 = .ok (.iload_n 3, 1) := by decide +kernel
theorem dX5_stretch_35 : decode cX5_stretch 35 = .ok (.invokevirtual 85, 3) := by decide +kernel
theorem dX5_stretch_38 : decode cX5_stretch 38 = .ok (.bipush (-9), 2) := by decide +kernel
theorem dX5_stretch_40 : decode cX5_stretch 40 = .ok (.if_icmp .ne 8, 3) := by decide +kernel
theorem dX5_stretch_43 : decode cX5_stretch 43 = .ok (.bipush (-9), 2) := by decide +kernel
theorem dX5_stretch_45 : decode cX5_stretch 45 = .ok (.goto 4, 3) := by decide +kernel
theorem dX5_stretch_48 : decode cX5_stretch 48 = .ok (.iload_n 3, 1) := by decide +kernel
theorem dX5_stretch_49 : decode cX5_stretch 49 = .ok (.ireturn, 1) := by decide +kernel
theorem dX5_mark_0 : decode cX5_mark 0 = .ok (.aload_n 0, 1) := by decide +kernel
theorem dX5_mark_1 : decode cX5_mark 1 = .ok (.iload_n 1, 1) := by decide +kernel
theorem dX5_mark_2 : decode cX5_mark 2 = .ok (.invokestatic 55, 3) := by decide +kernel
theorem dX5_mark_5 : decode cX5_mark 5 = .ok (.iconst 1, 1) := by decide +kernel
theorem dX5_mark_6 : decode cX5_mark 6 = .ok (.invokevirtual 59, 3) := by decide +kernel
theorem dX5_mark_9 : decode cX5_mark 9 = .ok (.ifCond .ne 5, 3) := by decide +kernel
theorem dX5_mark_12 : decode cX5_mark 12 = .ok (.iconst 0, 1) := by decide +kernel
theorem dX5_mark_13 : decode cX5_mark 13 = .ok (.ireturn, 1) := by decide +kernel
theorem dX5_mark_14 : decode cX5_mark 14 = .ok (.aload_n 0, 1) := by decide +kernel
theorem dX5_mark_15 : decode cX5_mark 15 = .ok (.getfield 18, 3) := by decide +kernel
theorem dX5_mark_18 : decode cX5_mark 18 = .ok (.iload_n 1, 1) := by decide +kernel
theorem dX5_mark_19 : decode cX5_mark 19 = .ok (.aaload, 1) := by decide +kernel
theorem dX5_mark_20 : decode cX5_mark 20 = .ok (.bipush 6, 2) := by decide +kernel
theorem dX5_mark_22 : decode cX5_mark 22 = .ok (.aload_n 0, 1) := by decide +kernel
theorem dX5_mark_23 : decode cX5_mark 23 = .ok (.getfield 18, 3) := by decide +kernel
theorem dX5_mark_26 : decode cX5_mark 26 = .ok (.iload_n 1, 1) := by decide +kernel
theorem dX5_mark_27 : decode cX5_mark 27 = .ok (.aaload, 1) := by decide +kernel
theorem dX5_mark_28 : decode cX5_mark 28 = .ok (.iconst 4, 1) := by decide +kernel
theorem dX5_mark_29 : decode cX5_mark 29 = .ok (.iaload, 1) := by decide +kernel
theorem dX5_mark_30 : decode cX5_mark 30 = .ok (.iastore, 1) := by decide +kernel
theorem dX5_mark_31 : decode cX5_mark 31 = .ok (.aload_n 0, 1) := by decide +kernel
theorem dX5_mark_32 : decode cX5_mark 32 = .ok (.aload_n 0, 1) := by decide +kernel
theorem dX5_mark_33 : decode cX5_mark 33 = .ok (.getfield 18, 3) := by decide +kernel
theorem dX5_mark_36 : decode cX5_mark 36 = .ok (.iload_n 1, 1) := by decide +kernel
theorem dX5_mark_37 : decode cX5_mark 37 = .ok (.aaload, 1) := by decide +kernel
theorem dX5_mark_38 : decode cX5_mark 38 = .ok (.bipush 6, 2) := by decide +kernel
theorem dX5_mark_40 : decode cX5_mark 40 = .ok (.iaload, 1) := by decide +kernel
theorem dX5_mark_41 : decode cX5_mark 41 = .ok (.invokevirtual 63, 3) := by decide +kernel
theorem dX5_mark_44 : decode cX5_mark 44 = .ok (.ireturn, 1) := by decide +kernel
theorem dX5_back_0 : decode cX5_back 0 = .ok (.aload_n 0, 1) := by decide +kernel
theorem dX5_back_1 : decode cX5_back 1 = .ok (.iload_n 1, 1) := by decide +kernel
theorem dX5_back_2 : decode cX5_back 2 = .ok (.invokestatic 55, 3) := by decide +kernel
theorem dX5_back_5 : decode cX5_back 5 = .ok (.iconst 1, 1) := by decide +kernel
theorem dX5_back_6 : decode cX5_back 6 = .ok (.invokevirtual 59, 3) := by decide +kernel
theorem dX5_back_9 : decode cX5_back 9 = .ok (.ifCond .ne 5, 3) := by decide +kernel
theorem dX5_back_12 : decode cX5_back 12 = .ok (.iconst 0, 1) := by decide +kernel
theorem dX5_back_13 : decode cX5_back 13 = .ok (.ireturn, 1) := by decide +kernel
theorem dX5_back_14 : decode cX5_back 14 = .ok (.aload_n 0, 1) := by decide +kernel
theorem dX5_back_15 : decode cX5_back 15 = .ok (.getfield 18, 3) := by decide +kernel
theorem dX5_back_18 : decode cX5_back 18 = .ok (.iload_n 1, 1) := by decide +kernel
theorem dX5_back_19 : decode cX5_back 19 = .ok (.aaload, 1) := by decide +kernel
theorem dX5_back_20 : decode cX5_back 20 = .ok (.astore_n 2, 1) := by decide +kernel
theorem dX5_back_21 : decode cX5_back 21 = .ok (.aload_n 2, 1) := by decide +kernel
theorem dX5_back_22 : decode cX5_back 22 = .ok (.bipush 6, 2) := by decide +kernel
theorem dX5_back_24 : decode cX5_back 24 = .ok (.iaload, 1) := by decide +kernel
theorem dX5_back_25 : decode cX5_back 25 = .ok (.iconst (-1), 1) := by decide +kernel
theorem dX5_back_26 : decode cX5_back 26 = .ok (.if_icmp .ne 9, 3) := by decide +kernel
theorem dX5_back_29 : decode cX5_back 29 = .ok (.aload_n 0, 1) := by decide +kernel
theorem dX5_back_30 : decode cX5_back 30 = .ok (.iconst 3, 1) := by decide +kernel
theorem dX5_back_31 : decode cX5_back 31 = .ok (.invokevirtual 47, 3) := by decide +kernel
theorem dX5_back_34 : decode cX5_back 34 = .ok (.ireturn, 1) := by decide +kernel
theorem dX5_back_35 : decode cX5_back 35 = .ok (.aload_n 2, 1) := by decide +kernel
theorem dX5_back_36 : decode cX5_back 36 = .ok (.iconst 4, 1) := by decide +kernel
theorem dX5_back_37 : decode cX5_back 37 = .ok (.iaload, 1) := by decide +kernel
theorem dX5_back_38 : decode cX5_back 38 = .ok (.aload_n 2, 1) := by decide +kernel
theorem dX5_back_39 : decode cX5_back 39 = .ok (.bipush 6, 2) := by decide +kernel
theorem dX5_back_41 : decode cX5_back 41 = .ok (.iaload, 1) := by decide +kernel
theorem dX5_back_42 : decode cX5_back 42 = .ok (.isub, 1) := by decide +kernel
theorem dX5_back_43 : decode cX5_back 43 = .ok (.istore_n 3, 1) := by decide +kernel
theorem dX5_back_44 : decode cX5_back 44 = .ok (.aload_n 2, 1) := by decide +kernel
theorem dX5_back_45 : decode cX5_back 45 = .ok (.iconst 4, 1) := by decide +kernel
theorem dX5_back_46 : decode cX5_back 46 = .ok (.aload_n 2, 1) := by decide +kernel
theorem dX5_back_47 : decode cX5_back 47 = .ok (.bipush 6, 2) := by decide +kernel
theorem dX5_back_49 : decode cX5_back 49 = .ok (.iaload, 1) := by decide +kernel
theorem dX5_back_50 : decode cX5_back 50 = .ok (.iastore, 1) := by decide +kernel
theorem dX5_back_51 : decode cX5_back 51 = .ok (.aload_n 0, 1) := by decide +kernel
theorem dX5_back_52 : decode cX5_back 52 = .ok (.iload_n 3, 1) := by decide +kernel
theorem dX5_back_53 : decode cX5_back 53 = .ok (.invokevirtual 63, 3) := by decide +kernel
theorem dX5_back_56 : decode cX5_back 56 = .ok (.ireturn, 1) := by decide +kernel
theorem dX5_clear_0 : decode cX5_clear 0 = .ok (.aload_n 0, 1) := by decide +kernel
theorem dX5_clear_1 : decode cX5_clear 1 = .ok (.iload_n 1, 1) := by decide +kernel
theorem dX5_clear_2 : decode cX5_clear 2 = .ok (.invokestatic 55, 3) := by decide +kernel
theorem dX5_clear_5 : decode cX5_clear 5 = .ok (.iconst 1, 1) := by decide +kernel
theorem dX5_clear_6 : decode cX5_clear 6 = .ok (.invokevirtual 59, 3) := by decide +kernel
theorem dX5_clear_9 : decode cX5_clear 9 = .ok (.ifCond .eq 25, 3) := by decide +kernel
theorem dX5_clear_12 : decode cX5_clear 12 = .ok (.aload_n 0, 1) := by decide +kernel
theorem dX5_clear_13 : decode cX5_clear 13 = .ok (.aload_n 0, 1) := by decide +kernel
theorem dX5_clear_14 : decode cX5_clear 14 = .ok (.getfield 18, 3) := by decide +kernel
theorem dX5_clear_17 : decode cX5_clear 17 = .ok (.iload_n 1, 1) := by decide +kernel
theorem dX5_clear_18 : decode cX5_clear 18 = .ok (.aaload, 1) := by decide +kernel
theorem dX5_clear_19 : decode cX5_clear 19 = .ok (.iconst 0, 1) := by decide +kernel
theorem dX5_clear_20 : decode cX5_clear 20 = .ok (.aload_n 0, 1) := by decide +kernel
theorem dX5_clear_21 : decode cX5_clear 21 = .ok (.getfield 18, 3) := by decide +kernel
theorem dX5_clear_24 : decode cX5_clear 24 = .ok (.iload_n 1, 1) := by decide +kernel
theorem dX5_clear_25 : decode cX5_clear 25 = .ok (.aaload, 1) := by decide +kernel
theorem dX5_clear_26 : decode cX5_clear 26 = .ok (.iconst 3, 1) := by decide +kernel
theorem dX5_clear_27 : decode cX5_clear 27 = .ok (.iaload, 1) := by decide +kernel
theorem dX5_clear_28 : decode cX5_clear 28 = .ok (.invokevirtual 88, 3) := by decide +kernel
theorem dX5_clear_31 : decode cX5_clear 31 = .ok (.goto 4, 3) := by decide +kernel
theorem dX5_clear_34 : decode cX5_clear 34 = .ok (.iconst 0, 1) := by decide +kernel
theorem dX5_clear_35 : decode cX5_clear 35 = .ok (.ireturn, 1) := by decide +kernel
theorem dX5_flip_0 : decode cX5_flip 0 = .ok (.aload_n 0, 1) := by decide +kernel
theorem dX5_flip_1 : decode cX5_flip 1 = .ok (.iload_n 1, 1) := by decide +kernel
theorem dX5_flip_2 : decode cX5_flip 2 = .ok (.invokestatic 55, 3) := by decide +kernel
theorem dX5_flip_5 : decode cX5_flip 5 = .ok (.iconst 1, 1) := by decide +kernel
theorem dX5_flip_6 : decode cX5_flip 6 = .ok (.invokevirtual 59, 3) := by decide +kernel
theorem dX5_flip_9 : decode cX5_flip 9 = .ok (.ifCond .eq 25, 3) := by decide +kernel
theorem dX5_flip_12 : decode cX5_flip 12 = .ok (.aload_n 0, 1) := by decide +kernel
theorem dX5_flip_13 : decode cX5_flip 13 = .ok (.aload_n 0, 1) := by decide +kernel
theorem dX5_flip_14 : decode cX5_flip 14 = .ok (.getfield 18, 3) := by decide +kernel
theorem dX5_flip_17 : decode cX5_flip 17 = .ok (.iload_n 1, 1) := by decide +kernel
theorem dX5_flip_18 : decode cX5_flip 18 = .ok (.aaload, 1) := by decide +kernel
theorem dX5_flip_19 : decode cX5_flip 19 = .ok (.iconst 0, 1) := by decide +kernel
theorem dX5_flip_20 : decode cX5_flip 20 = .ok (.aload_n 0, 1) := by decide +kernel
theorem dX5_flip_21 : decode cX5_flip 21 = .ok (.getfield 18, 3) := by decide +kernel
theorem dX5_flip_24 : decode cX5_flip 24 = .ok (.iload_n 1, 1) := by decide +kernel
theorem dX5_flip_25 : decode cX5_flip 25 = .ok (.aaload, 1) := by decide +kernel
theorem dX5_flip_26 : decode cX5_flip 26 = .ok (.iconst 4, 1) := by decide +kernel
theorem dX5_flip_27 : decode cX5_flip 27 = .ok (.iaload, 1) := by decide +kernel
theorem dX5_flip_28 : decode cX5_flip 28 = .ok (.invokevirtual 88, 3) := by decide +kernel
theorem dX5_flip_31 : decode cX5_flip 31 = .ok (.goto 4, 3) := by decide +kernel
theorem dX5_flip_34 : decode cX5_flip 34 = .ok (.iconst 0, 1) := by decide +kernel
theorem dX5_flip_35 : decode cX5_flip 35 = .ok (.ireturn, 1) := by decide +kernel
theorem dX5_rewind_0 : decode cX5_rewind 0 = .ok (.aload_n 0, 1) := by decide +kernel
theorem dX5_rewind_1 : decode cX5_rewind 1 = .ok (.iload_n 1, 1) := by decide +kernel
theorem dX5_rewind_2 : decode cX5_rewind 2 = .ok (.invokestatic 55, 3) := by decide +kernel
theorem dX5_rewind_5 : decode cX5_rewind 5 = .ok (.iconst 1, 1) := by decide +kernel
theorem dX5_rewind_6 : decode cX5_rewind 6 = .ok (.invokevirtual 59, 3) := by decide +kernel
theorem dX5_rewind_9 : decode cX5_rewind 9 = .ok (.ifCond .eq 25, 3) := by decide +kernel
theorem dX5_rewind_12 : decode cX5_rewind 12 = .ok (.aload_n 0, 1) := by decide +kernel
theorem dX5_rewind_13 : decode cX5_rewind 13 = .ok (.aload_n 0, 1) := by decide +kernel
theorem dX5_rewind_14 : decode cX5_rewind 14 = .ok (.getfield 18, 3) := by decide +kernel
theorem dX5_rewind_17 : decode cX5_rewind 17 = .ok (.iload_n 1, 1) := by decide +kernel
theorem dX5_rewind_18 : decode cX5_rewind 18 = .ok (.aaload, 1) := by decide +kernel
theorem dX5_rewind_19 : decode cX5_rewind 19 = .ok (.iconst 0, 1) := by decide +kernel
theorem dX5_rewind_20 : decode cX5_rewind 20 = .ok (.aload_n 0, 1) := by decide +kernel
theorem dX5_rewind_21 : decode cX5_rewind 21 = .ok (.getfield 18, 3) := by decide +kernel
theorem dX5_rewind_24 : decode cX5_rewind 24 = .ok (.iload_n 1, 1) := by decide +kernel
theorem dX5_rewind_25 : decode cX5_rewind 25 = .ok (.aaload, 1) := by decide +kernel
theorem dX5_rewind_26 : decode cX5_rewind 26 = .ok (.iconst 5, 1) := by decide +kernel
theorem dX5_rewind_27 : decode cX5_rewind 27 = .ok (.iaload, 1) := by decide +kernel
theorem dX5_rewind_28 : decode cX5_rewind 28 = .ok (.invokevirtual 88, 3) := by decide +kernel
theorem dX5_rewind_31 : decode cX5_rewind 31 = .ok (.goto 4, 3) := by decide +kernel
theorem dX5_rewind_34 : decode cX5_rewind 34 = .ok (.iconst 0, 1) := by decide +kernel
theorem dX5_rewind_35 : decode cX5_rewind 35 = .ok (.ireturn, 1) := by decide +kernel
theorem dX5_putAt_0 : decode cX5_putAt 0 = .ok (.aload_n 0, 1) := by decide +kernel
theorem dX5_putAt_1 : decode cX5_putAt 1 = .ok (.iload_n 1, 1) := by decide +kernel
theorem dX5_putAt_2 : decode cX5_putAt 2 = .ok (.invokestatic 55, 3) := by decide +kernel
theorem dX5_putAt_5 : decode cX5_putAt 5 = .ok (.iload_n 3, 1) := by decide +kernel
theorem dX5_putAt_6 : decode cX5_putAt 6 = .ok (.ifCond .lt 7, 3) := by decide +kernel
theorem dX5_putAt_9 : decode cX5_putAt 9 = .ok (.iconst 1, 1) := by decide +kernel
theorem dX5_putAt_10 : decode cX5_putAt 10 = .ok (.goto 4, 3) := by decide +kernel
theorem dX5_putAt_13 : decode cX5_putAt 13 = .ok (.iconst 0, 1) := by decide +kernel
theorem dX5_putAt_14 : decode cX5_putAt 14 = .ok (.invokevirtual 59, 3) := by decide +kernel
theorem dX5_putAt_17 : decode cX5_putAt 17 = .ok (.ifCond .ne 5, 3) := by decide +kernel
theorem dX5_putAt_20 : decode cX5_putAt 20 = .ok (.iconst 0, 1) := by decide +kernel
theorem dX5_putAt_21 : decode cX5_putAt 21 = .ok (.ireturn, 1) := by decide +kernel
theorem dX5_putAt_22 : decode cX5_putAt 22 = .ok (.aload_n 0, 1) := by decide +kernel
theorem dX5_putAt_23 : decode cX5_putAt 23 = .ok (.getfield 18, 3) := by decide +kernel
theorem dX5_putAt_26 : decode cX5_putAt 26 = .ok (.iload_n 1, 1) := by decide +kernel
theorem dX5_putAt_27 : decode cX5_putAt 27 = .ok (.aaload, 1) := by decide +kernel
theorem dX5_putAt_28 : decode cX5_putAt 28 = .ok (.astore 4, 2) := by decide +kernel
theorem dX5_putAt_30 : decode cX5_putAt 30 = .ok (.iload_n 2, 1) := by decide +kernel
theorem dX5_putAt_31 : decode cX5_putAt 31 = .ok (.iconst 0, 1) := by decide +kernel
theorem dX5_putAt_32 : decode cX5_putAt 32 = .ok (.aload 4, 2) := by decide +kernel
theorem dX5_putAt_34 : decode cX5_putAt 34 = .ok (.iconst 5, 1) := by decide +kernel
theorem dX5_putAt_35 : decode cX5_putAt 35 = .ok (.iaload, 1) := by decide +kernel
theorem dX5_putAt_36 : decode cX5_putAt 36 = .ok (.iconst 1, 1) := by decide +kernel
theorem dX5_putAt_37 : decode cX5_putAt 37 = .ok (.isub, 1) := by decide +kernel
theorem dX5_putAt_38 : decode cX5_putAt 38 = .ok (.invokestatic 36, 3) := by decide +kernel
theorem dX5_putAt_41 : decode cX5_putAt 41 = .ok (.ifCond .ne 9, 3) := by decide +kernel
theorem dX5_putAt_44 : decode cX5_putAt 44 = .ok (.aload_n 0, 1) := by decide +kernel
theorem dX5_putAt_45 : decode cX5_putAt 45 = .ok (.iconst 5, 1) := by decide +kernel
theorem dX5_putAt_46 : decode cX5_putAt 46 = .ok (.invokevirtual 47, 3) := by decide +kernel
theorem dX5_putAt_49 : decode cX5_putAt 49 = .ok (.ireturn, 1) := by decide +kernel
theorem dX5_putAt_50 : decode cX5_putAt 50 = .ok (.aload 4, 2) := by decide +kernel
theorem dX5_putAt_52 : decode cX5_putAt 52 = .ok (.bipush 7, 2) := by decide +kernel
theorem dX5_putAt_54 : decode cX5_putAt 54 = .ok (.iaload, 1) := by decide +kernel
theorem dX5_putAt_55 : decode cX5_putAt 55 = .ok (.iconst 1, 1) := by decide +kernel
theorem dX5_putAt_56 : decode cX5_putAt 56 = .ok (.if_icmp .ne 9, 3) := by decide +kernel
theorem dX5_putAt_59 : decode cX5_putAt 59 = .ok (.aload_n 0, 1) := by decide +kernel
theorem dX5_putAt_60 : decode cX5_putAt 60 = .ok (.iconst 4, 1) := by decide +kernel
theorem dX5_putAt_61 : decode cX5_putAt 61 = .ok (.invokevirtual 47, 3) := by decide +kernel
theorem dX5_putAt_64 : decode cX5_putAt 64 = .ok (.ireturn, 1) := by decide +kernel
theorem dX5_putAt_65 : decode cX5_putAt 65 = .ok (.aload_n 0, 1) := by decide +kernel
theorem dX5_putAt_66 : decode cX5_putAt 66 = .ok (.aload_n 0, 1) := by decide +kernel
theorem dX5_putAt_67 : decode cX5_putAt 67 = .ok (.aload_n 0, 1) := by decide +kernel
theorem dX5_putAt_68 : decode cX5_putAt 68 = .ok (.aload 4, 2) := by decide +kernel
theorem dX5_putAt_70 : decode cX5_putAt 70 = .ok (.iload_n 2, 1) := by decide +kernel
theorem dX5_putAt_71 : decode cX5_putAt 71 = .ok (.invokevirtual 51, 3) := by decide +kernel
theorem dX5_putAt_74 : decode cX5_putAt 74 = .ok (.iload_n 3, 1) := by decide +kernel
theorem dX5_putAt_75 : decode cX5_putAt 75 = .ok (.invokevirtual 95, 3) := by decide +kernel
theorem dX5_putAt_78 : decode cX5_putAt 78 = .ok (.invokevirtual 63, 3) := by decide +kernel
theorem dX5_putAt_81 : decode cX5_putAt 81 = .ok (.ireturn, 1) := by decide +kernel
theorem dX5_at_0 : decode cX5_at 0 = .ok (.aload_n 0, 1) := by decide +kernel
theorem dX5_at_1 : decode cX5_at 1 = .ok (.iload_n 1, 1) := by decide +kernel
theorem dX5_at_2 : decode cX5_at 2 = .ok (.invokestatic 55, 3) := by decide +kernel
theorem dX5_at_5 : decode cX5_at 5 = .ok (.iconst 1, 1) := by decide +kernel
theorem dX5_at_6 : decode cX5_at 6 = .ok (.invokevirtual 59, 3) := by decide +kernel
theorem dX5_at_9 : decode cX5_at 9 = .ok (.ifCond .ne 5, 3) := by decide +kernel
theorem dX5_at_12 : decode cX5_at 12 = .ok (.iconst 0, 1) := by decide +kernel
theorem dX5_at_13 : decode cX5_at 13 = .ok (.ireturn, 1) := by decide +kernel
theorem dX5_at_14 : decode cX5_at 14 = .ok (.iload_n 2, 1) := by decide +kernel
theorem dX5_at_15 : decode cX5_at 15 = .ok (.iconst 0, 1) := by decide +kernel
theorem dX5_at_16 : decode cX5_at 16 = .ok (.aload_n 0, 1) := by decide +kernel
theorem dX5_at_17 : decode cX5_at 17 = .ok (.getfield 18, 3) := by decide +kernel
theorem dX5_at_20 : decode cX5_at 20 = .ok (.iload_n 1, 1) := by decide +kernel
theorem dX5_at_21 : decode cX5_at 21 = .ok (.aaload, 1) := by decide +kernel
theorem dX5_at_22 : decode cX5_at 22 = .ok (.iconst 5, 1) := by decide +kernel
theorem dX5_at_23 : decode cX5_at 23 = .ok (.iaload, 1) := by decide +kernel
theorem dX5_at_24 : decode cX5_at 24 = .ok (.iconst 1, 1) := by decide +kernel
theorem dX5_at_25 : decode cX5_at 25 = .ok (.isub, 1) := by decide +kernel
theorem dX5_at_26 : decode cX5_at 26 = .ok (.invokestatic 36, 3) := by decide +kernel
theorem dX5_at_29 : decode cX5_at 29 = .ok (.ifCond .eq 22, 3) := by decide +kernel
theorem dX5_at_32 : decode cX5_at 32 = .ok (.aload_n 0, 1) := by decide +kernel
theorem dX5_at_33 : decode cX5_at 33 = .ok (.getfield 9, 3) := by decide +kernel
theorem dX5_at_36 : decode cX5_at 36 = .ok (.aload_n 0, 1) := by decide +kernel
theorem dX5_at_37 : decode cX5_at 37 = .ok (.aload_n 0, 1) := by decide +kernel
theorem dX5_at_38 : decode cX5_at 38 = .ok (.getfield 18, 3) := by decide +kernel
theorem dX5_at_41 : decode cX5_at 41 = .ok (.iload_n 1, 1) := by decide +kernel
theorem dX5_at_42 : decode cX5_at 42 = .ok (.aaload, 1) := by decide +kernel
theorem dX5_at_43 : decode cX5_at 43 = .ok (.iload_n 2, 1) := by decide +kernel
theorem dX5_at_44 : decode cX5_at 44 = .ok (.invokevirtual 51, 3) := by decide +kernel
theorem dX5_at_47 : decode cX5_at 47 = .ok (.iaload, 1) := by decide +kernel
theorem dX5_at_48 : decode cX5_at 48 = .ok (.goto 5, 3) := by decide +kernel
theorem dX5_at_51 : decode cX5_at 51 = .ok (.bipush (-9), 2) := by decide +kernel
theorem dX5_at_53 : decode cX5_at 53 = .ok (.ireturn, 1) := by decide +kernel
theorem dX5_puts_0 : decode cX5_puts 0 = .ok (.aload_n 1, 1) := by decide +kernel
theorem dX5_puts_1 : decode cX5_puts 1 = .ok (.bipush 7, 2) := by decide +kernel
theorem dX5_puts_3 : decode cX5_puts 3 = .ok (.iaload, 1) := by decide +kernel
theorem dX5_puts_4 : decode cX5_puts 4 = .ok (.iconst 1, 1) := by decide +kernel
theorem dX5_puts_5 : decode cX5_puts 5 = .ok (.if_icmp .ne 7, 3) := by decide +kernel
theorem dX5_puts_8 : decode cX5_puts 8 = .ok (.iconst 4, 1) := by decide +kernel
theorem dX5_puts_9 : decode cX5_puts 9 = .ok (.goto 15, 3) := by decide +kernel
theorem dX5_puts_12 : decode cX5_puts 12 = .ok (.aload_n 1, 1) := by decide +kernel
theorem dX5_puts_13 : decode cX5_puts 13 = .ok (.invokestatic 43, 3) := by decide +kernel
theorem dX5_puts_16 : decode cX5_puts 16 = .ok (.ifCond .ne 7, 3) := by decide +kernel
theorem dX5_puts_19 : decode cX5_puts 19 = .ok (.iconst 1, 1) := by decide +kernel
theorem dX5_puts_20 : decode cX5_puts 20 = .ok (.goto 4, 3) := by decide +kernel
theorem dX5_puts_23 : decode cX5_puts 23 = .ok (.iconst 0, 1) := by decide +kernel
theorem dX5_puts_24 : decode cX5_puts 24 = .ok (.istore_n 3, 1) := by decide +kernel
theorem dX5_puts_25 : decode cX5_puts 25 = .ok (.iload_n 3, 1) := by decide +kernel
theorem dX5_puts_26 : decode cX5_puts 26 = .ok (.ifCond .le 11, 3) := by decide +kernel
theorem dX5_puts_29 : decode cX5_puts 29 = .ok (.aload_n 0, 1) := by decide +kernel
theorem dX5_puts_30 : decode cX5_puts 30 = .ok (.iload_n 3, 1) := by decide +kernel
theorem dX5_puts_31 : decode cX5_puts 31 = .ok (.invokevirtual 47, 3) := by decide +kernel
theorem dX5_puts_34 : decode cX5_puts 34 = .ok (.pop, 1) := by decide +kernel
theorem dX5_puts_35 : decode cX5_puts 35 = .ok (.iload_n 3, 1) := by decide +kernel
theorem dX5_puts_36 : decode cX5_puts 36 = .ok (.ireturn, 1) := by decide +kernel
theorem dX5_puts_37 : decode cX5_puts 37 = .ok (.aload_n 0, 1) := by decide +kernel
theorem dX5_puts_38 : decode cX5_puts 38 = .ok (.getfield 9, 3) := by decide +kernel
theorem dX5_puts_41 : decode cX5_puts 41 = .ok (.aload_n 0, 1) := by decide +kernel
theorem dX5_puts_42 : decode cX5_puts 42 = .ok (.aload_n 1, 1) := by decide +kernel
theorem dX5_puts_43 : decode cX5_puts 43 = .ok (.aload_n 1, 1) := by decide +kernel
theorem dX5_puts_44 : decode cX5_puts 44 = .ok (.iconst 4, 1) := by decide +kernel
theorem dX5_puts_45 : decode cX5_puts 45 = .ok (.iaload, 1) := by decide +kernel
theorem dX5_puts_46 : decode cX5_puts 46 = .ok (.invokevirtual 51, 3) := by decide +kernel
theorem dX5_puts_49 : decode cX5_puts 49 = .ok (.iload_n 2, 1) := by decide +kernel
theorem dX5_puts_50 : decode cX5_puts 50 = .ok (.iastore, 1) := by decide +kernel
theorem dX5_puts_51 : decode cX5_puts 51 = .ok (.aload_n 1, 1) := by decide +kernel
theorem dX5_puts_52 : decode cX5_puts 52 = .ok (.iconst 4, 1) := by decide +kernel
theorem dX5_puts_53 : decode cX5_puts 53 = .ok (.dup2, 1) := by decide +kernel
theorem dX5_puts_54 : decode cX5_puts 54 = .ok (.iaload, 1) := by decide +kernel
theorem dX5_puts_55 : decode cX5_puts 55 = .ok (.iconst 1, 1) := by decide +kernel
theorem dX5_puts_56 : decode cX5_puts 56 = .ok (.iadd, 1) := by decide +kernel
theorem dX5_puts_57 : decode cX5_puts 57 = .ok (.iastore, 1) := by decide +kernel
theorem dX5_puts_58 : decode cX5_puts 58 = .ok (.iconst 0, 1) := by decide +kernel
theorem dX5_puts_59 : decode cX5_puts 59 = .ok (.ireturn, 1) := by decide +kernel
theorem dX5_put_0 : decode cX5_put 0 = .ok (.aload_n 0, 1) := by decide +kernel
theorem dX5_put_1 : decode cX5_put 1 = .ok (.iload_n 1, 1) := by decide +kernel
theorem dX5_put_2 : decode cX5_put 2 = .ok (.invokestatic 55, 3) := by decide +kernel
theorem dX5_put_5 : decode cX5_put 5 = .ok (.iload_n 2, 1) := by decide +kernel
theorem dX5_put_6 : decode cX5_put 6 = .ok (.ifCond .lt 7, 3) := by decide +kernel
theorem dX5_put_9 : decode cX5_put 9 = .ok (.iconst 1, 1) := by decide +kernel
theorem dX5_put_10 : decode cX5_put 10 = .ok (.goto 4, 3) := by decide +kernel
theorem dX5_put_13 : decode cX5_put 13 = .ok (.iconst 0, 1) := by decide +kernel
theorem dX5_put_14 : decode cX5_put 14 = .ok (.invokevirtual 59, 3) := by decide +kernel
theorem dX5_put_17 : decode cX5_put 17 = .ok (.ifCond .ne 5, 3) := by decide +kernel
theorem dX5_put_20 : decode cX5_put 20 = .ok (.iconst 0, 1) := by decide +kernel
theorem dX5_put_21 : decode cX5_put 21 = .ok (.ireturn, 1) := by decide +kernel
theorem dX5_put_22 : decode cX5_put 22 = .ok (.aload_n 0, 1) := by decide +kernel
theorem dX5_put_23 : decode cX5_put 23 = .ok (.aload_n 0, 1) := by decide +kernel
theorem dX5_put_24 : decode cX5_put 24 = .ok (.getfield 18, 3) := by decide +kernel
theorem dX5_put_27 : decode cX5_put 27 = .ok (.iload_n 1, 1) := by decide +kernel
theorem dX5_put_28 : decode cX5_put 28 = .ok (.aaload, 1) := by decide +kernel
theorem dX5_put_29 : decode cX5_put 29 = .ok (.iload_n 2, 1) := by decide +kernel
theorem dX5_put_30 : decode cX5_put 30 = .ok (.invokevirtual 92, 3) := by decide +kernel
theorem dX5_put_33 : decode cX5_put 33 = .ok (.ifCond .le 8, 3) := by decide +kernel
theorem dX5_put_36 : decode cX5_put 36 = .ok (.bipush (-9), 2) := by decide +kernel
theorem dX5_put_38 : decode cX5_put 38 = .ok (.goto 15, 3) := by decide +kernel
theorem dX5_put_41 : decode cX5_put 41 = .ok (.aload_n 0, 1) := by decide +kernel
theorem dX5_put_42 : decode cX5_put 42 = .ok (.aload_n 0, 1) := by decide +kernel
theorem dX5_put_43 : decode cX5_put 43 = .ok (.getfield 18, 3) := by decide +kernel
theorem dX5_put_46 : decode cX5_put 46 = .ok (.iload_n 1, 1) := by decide +kernel
theorem dX5_put_47 : decode cX5_put 47 = .ok (.aaload, 1) := by decide +kernel
theorem dX5_put_48 : decode cX5_put 48 = .ok (.iconst 4, 1) := by decide +kernel
theorem dX5_put_49 : decode cX5_put 49 = .ok (.iaload, 1) := by decide +kernel
theorem dX5_put_50 : decode cX5_put 50 = .ok (.invokevirtual 63, 3) := by decide +kernel
theorem dX5_put_53 : decode cX5_put 53 = .ok (.ireturn, 1) := by decide +kernel
theorem dX5_reach_0 : decode cX5_reach 0 = .ok (.aload_n 0, 1) := by decide +kernel
theorem dX5_reach_1 : decode cX5_reach 1 = .ok (.iload_n 1, 1) := by decide +kernel
theorem dX5_reach_2 : decode cX5_reach 2 = .ok (.invokestatic 55, 3) := by decide +kernel
theorem dX5_reach_5 : decode cX5_reach 5 = .ok (.iload_n 3, 1) := by decide +kernel
theorem dX5_reach_6 : decode cX5_reach 6 = .ok (.ifCond .lt 7, 3) := by decide +kernel
theorem dX5_reach_9 : decode cX5_reach 9 = .ok (.iconst 1, 1) := by decide +kernel
theorem dX5_reach_10 : decode cX5_reach 10 = .ok (.goto 4, 3) := by decide +kernel
theorem dX5_reach_13 : decode cX5_reach 13 = .ok (.iconst 0, 1) := by decide +kernel
theorem dX5_reach_14 : decode cX5_reach 14 = .ok (.invokevirtual 59, 3) := by decide +kernel
theorem dX5_reach_17 : decode cX5_reach 17 = .ok (.ifCond .ne 5, 3) := by decide +kernel
theorem dX5_reach_20 : decode cX5_reach 20 = .ok (.iconst 0, 1) := by decide +kernel
theorem dX5_reach_21 : decode cX5_reach 21 = .ok (.ireturn, 1) := by decide +kernel
theorem dX5_reach_22 : decode cX5_reach 22 = .ok (.aload_n 0, 1) := by decide +kernel
theorem dX5_reach_23 : decode cX5_reach 23 = .ok (.getfield 18, 3) := by decide +kernel
theorem dX5_reach_26 : decode cX5_reach 26 = .ok (.iload_n 1, 1) := by decide +kernel
theorem dX5_reach_27 : decode cX5_reach 27 = .ok (.aaload, 1) := by decide +kernel
theorem dX5_reach_28 : decode cX5_reach 28 = .ok (.astore 4, 2) := by decide +kernel
theorem dX5_reach_30 : decode cX5_reach 30 = .ok (.aload 4, 2) := by decide +kernel
theorem dX5_reach_32 : decode cX5_reach 32 = .ok (.bipush 7, 2) := by decide +kernel
theorem dX5_reach_34 : decode cX5_reach 34 = .ok (.iaload, 1) := by decide +kernel
theorem dX5_reach_35 : decode cX5_reach 35 = .ok (.iconst 1, 1) := by decide +kernel
theorem dX5_reach_36 : decode cX5_reach 36 = .ok (.if_icmp .ne 9, 3) := by decide +kernel
theorem dX5_reach_39 : decode cX5_reach 39 = .ok (.aload_n 0, 1) := by decide +kernel
theorem dX5_reach_40 : decode cX5_reach 40 = .ok (.iconst 4, 1) := by decide +kernel
theorem dX5_reach_41 : decode cX5_reach 41 = .ok (.invokevirtual 47, 3) := by decide +kernel
theorem dX5_reach_44 : decode cX5_reach 44 = .ok (.ireturn, 1) := by decide +kernel
theorem dX5_reach_45 : decode cX5_reach 45 = .ok (.iload_n 2, 1) := by decide +kernel
theorem dX5_reach_46 : decode cX5_reach 46 = .ok (.iconst 0, 1) := by decide +kernel
theorem dX5_reach_47 : decode cX5_reach 47 = .ok (.aload 4, 2) := by decide +kernel
theorem dX5_reach_49 : decode cX5_reach 49 = .ok (.iconst 3, 1) := by decide +kernel
theorem dX5_reach_50 : decode cX5_reach 50 = .ok (.iaload, 1) := by decide +kernel
theorem dX5_reach_51 : decode cX5_reach 51 = .ok (.iconst 1, 1) := by decide +kernel
theorem dX5_reach_52 : decode cX5_reach 52 = .ok (.isub, 1) := by decide +kernel
theorem dX5_reach_53 : decode cX5_reach 53 = .ok (.invokestatic 36, 3) := by decide +kernel
theorem dX5_reach_56 : decode cX5_reach 56 = .ok (.ifCond .ne 9, 3) := by decide +kernel
theorem dX5_reach_59 : decode cX5_reach 59 = .ok (.aload_n 0, 1) := by decide +kernel
theorem dX5_reach_60 : decode cX5_reach 60 = .ok (.iconst 5, 1) := by decide +kernel
theorem dX5_reach_61 : decode cX5_reach 61 = .ok (.invokevirtual 47, 3) := by decide +kernel
theorem dX5_reach_64 : decode cX5_reach 64 = .ok (.ireturn, 1) := by decide +kernel
theorem dX5_reach_65 : decode cX5_reach 65 = .ok (.aload_n 0, 1) := by decide +kernel
theorem dX5_reach_66 : decode cX5_reach 66 = .ok (.aload_n 0, 1) := by decide +kernel
theorem dX5_reach_67 : decode cX5_reach 67 = .ok (.aload_n 0, 1) := by decide +kernel
theorem dX5_reach_68 : decode cX5_reach 68 = .ok (.aload 4, 2) := by decide +kernel
theorem dX5_reach_70 : decode cX5_reach 70 = .ok (.iload_n 2, 1) := by decide +kernel
theorem dX5_reach_71 : decode cX5_reach 71 = .ok (.invokevirtual 51, 3) := by decide +kernel
theorem dX5_reach_74 : decode cX5_reach 74 = .ok (.iload_n 3, 1) := by decide +kernel
theorem dX5_reach_75 : decode cX5_reach 75 = .ok (.invokevirtual 95, 3) := by decide +kernel
theorem dX5_reach_78 : decode cX5_reach 78 = .ok (.invokevirtual 63, 3) := by decide +kernel
theorem dX5_reach_81 : decode cX5_reach 81 = .ok (.ireturn, 1) := by decide +kernel
theorem dX5_get_0 : decode cX5_get 0 = .ok (.aload_n 0, 1) := by decide +kernel
theorem dX5_get_1 : decode cX5_get 1 = .ok (.iload_n 1, 1) := by decide +kernel
theorem dX5_get_2 : decode cX5_get 2 = .ok (.invokestatic 55, 3) := by decide +kernel
theorem dX5_get_5 : decode cX5_get 5 = .ok (.iconst 1, 1) := by decide +kernel
theorem dX5_get_6 : decode cX5_get 6 = .ok (.invokevirtual 59, 3) := by decide +kernel
theorem dX5_get_9 : decode cX5_get 9 = .ok (.ifCond .ne 5, 3) := by decide +kernel
theorem dX5_get_12 : decode cX5_get 12 = .ok (.iconst 0, 1) := by decide +kernel
theorem dX5_get_13 : decode cX5_get 13 = .ok (.ireturn, 1) := by decide +kernel
theorem dX5_get_14 : decode cX5_get 14 = .ok (.aload_n 0, 1) := by decide +kernel
theorem dX5_get_15 : decode cX5_get 15 = .ok (.getfield 18, 3) := by decide +kernel
theorem dX5_get_18 : decode cX5_get 18 = .ok (.iload_n 1, 1) := by decide +kernel
theorem dX5_get_19 : decode cX5_get 19 = .ok (.aaload, 1) := by decide +kernel
theorem dX5_get_20 : decode cX5_get 20 = .ok (.astore_n 2, 1) := by decide +kernel
theorem dX5_get_21 : decode cX5_get 21 = .ok (.aload_n 2, 1) := by decide +kernel
theorem dX5_get_22 : decode cX5_get 22 = .ok (.invokestatic 43, 3) := by decide +kernel
theorem dX5_get_25 : decode cX5_get 25 = .ok (.ifCond .ne 9, 3) := by decide +kernel
theorem dX5_get_28 : decode cX5_get 28 = .ok (.aload_n 0, 1) := by decide +kernel
theorem dX5_get_29 : decode cX5_get 29 = .ok (.iconst 2, 1) := by decide +kernel
theorem dX5_get_30 : decode cX5_get 30 = .ok (.invokevirtual 47, 3) := by decide +kernel
theorem dX5_get_33 : decode cX5_get 33 = .ok (.ireturn, 1) := by decide +kernel
theorem dX5_get_34 : decode cX5_get 34 = .ok (.aload_n 2, 1) := by decide +kernel
theorem dX5_get_35 : decode cX5_get 35 = .ok (.iconst 4, 1) := by decide +kernel
theorem dX5_get_36 : decode cX5_get 36 = .ok (.dup2, 1) := by decide +kernel
theorem dX5_get_37 : decode cX5_get 37 = .ok (.iaload, 1) := by decide +kernel
theorem dX5_get_38 : decode cX5_get 38 = .ok (.iconst 1, 1) := by decide +kernel
theorem dX5_get_39 : decode cX5_get 39 = .ok (.iadd, 1) := by decide +kernel
theorem dX5_get_40 : decode cX5_get 40 = .ok (.iastore, 1) := by decide +kernel
theorem dX5_get_41 : decode cX5_get 41 = .ok (.aload_n 0, 1) := by decide +kernel
theorem dX5_get_42 : decode cX5_get 42 = .ok (.aload_n 0, 1) := by decide +kernel
theorem dX5_get_43 : decode cX5_get 43 = .ok (.getfield 9, 3) := by decide +kernel
theorem dX5_get_46 : decode cX5_get 46 = .ok (.aload_n 0, 1) := by decide +kernel
theorem dX5_get_47 : decode cX5_get 47 = .ok (.aload_n 2, 1) := by decide +kernel
theorem dX5_get_48 : decode cX5_get 48 = .ok (.aload_n 2, 1) := by decide +kernel
theorem dX5_get_49 : decode cX5_get 49 = .ok (.iconst 4, 1) := by decide +kernel
theorem dX5_get_50 : decode cX5_get 50 = .ok (.iaload, 1) := by decide +kernel
theorem dX5_get_51 : decode cX5_get 51 = .ok (.iconst 1, 1) := by decide +kernel
theorem dX5_get_52 : decode cX5_get 52 = .ok (.isub, 1) := by decide +kernel
theorem dX5_get_53 : decode cX5_get 53 = .ok (.invokevirtual 51, 3) := by decide +kernel
theorem dX5_get_56 : decode cX5_get 56 = .ok (.iaload, 1) := by decide +kernel
theorem dX5_get_57 : decode cX5_get 57 = .ok (.invokevirtual 63, 3) := by decide +kernel
theorem dX5_get_60 : decode cX5_get 60 = .ok (.ireturn, 1) := by decide +kernel
theorem dX5_pop_0 : decode cX5_pop 0 = .ok (.aload_n 0, 1) := by decide +kernel
theorem dX5_pop_1 : decode cX5_pop 1 = .ok (.iload_n 1, 1) := by decide +kernel
theorem dX5_pop_2 : decode cX5_pop 2 = .ok (.invokestatic 55, 3) := by decide +kernel
theorem dX5_pop_5 : decode cX5_pop 5 = .ok (.iconst 1, 1) := by decide +kernel
theorem dX5_pop_6 : decode cX5_pop 6 = .ok (.invokevirtual 59, 3) := by decide +kernel
theorem dX5_pop_9 : decode cX5_pop 9 = .ok (.ifCond .ne 5, 3) := by decide +kernel
theorem dX5_pop_12 : decode cX5_pop 12 = .ok (.iconst 0, 1) := by decide +kernel
theorem dX5_pop_13 : decode cX5_pop 13 = .ok (.ireturn, 1) := by decide +kernel
theorem dX5_pop_14 : decode cX5_pop 14 = .ok (.aload_n 0, 1) := by decide +kernel
theorem dX5_pop_15 : decode cX5_pop 15 = .ok (.getfield 18, 3) := by decide +kernel
theorem dX5_pop_18 : decode cX5_pop 18 = .ok (.iload_n 1, 1) := by decide +kernel
theorem dX5_pop_19 : decode cX5_pop 19 = .ok (.aaload, 1) := by decide +kernel
theorem dX5_pop_20 : decode cX5_pop 20 = .ok (.astore_n 2, 1) := by decide +kernel
theorem dX5_pop_21 : decode cX5_pop 21 = .ok (.aload_n 2, 1) := by decide +kernel
theorem dX5_pop_22 : decode cX5_pop 22 = .ok (.iconst 4, 1) := by decide +kernel
theorem dX5_pop_23 : decode cX5_pop 23 = .ok (.iaload, 1) := by decide +kernel
theorem dX5_pop_24 : decode cX5_pop 24 = .ok (.ifCond .ne 9, 3) := by decide +kernel
theorem dX5_pop_27 : decode cX5_pop 27 = .ok (.aload_n 0, 1) := by decide +kernel
theorem dX5_pop_28 : decode cX5_pop 28 = .ok (.iconst 5, 1) := by decide +kernel
theorem dX5_pop_29 : decode cX5_pop 29 = .ok (.invokevirtual 47, 3) := by decide +kernel
theorem dX5_pop_32 : decode cX5_pop 32 = .ok (.ireturn, 1) := by decide +kernel
theorem dX5_pop_33 : decode cX5_pop 33 = .ok (.aload_n 0, 1) := by decide +kernel
theorem dX5_pop_34 : decode cX5_pop 34 = .ok (.aload_n 2, 1) := by decide +kernel
theorem dX5_pop_35 : decode cX5_pop 35 = .ok (.aload_n 2, 1) := by decide +kernel
theorem dX5_pop_36 : decode cX5_pop 36 = .ok (.iconst 4, 1) := by decide +kernel
theorem dX5_pop_37 : decode cX5_pop 37 = .ok (.iaload, 1) := by decide +kernel
theorem dX5_pop_38 : decode cX5_pop 38 = .ok (.iconst 1, 1) := by decide +kernel
theorem dX5_pop_39 : decode cX5_pop 39 = .ok (.isub, 1) := by decide +kernel
theorem dX5_pop_40 : decode cX5_pop 40 = .ok (.invokevirtual 74, 3) := by decide +kernel
theorem dX5_pop_43 : decode cX5_pop 43 = .ok (.aload_n 0, 1) := by decide +kernel
theorem dX5_pop_44 : decode cX5_pop 44 = .ok (.aload_n 0, 1) := by decide +kernel
theorem dX5_pop_45 : decode cX5_pop 45 = .ok (.getfield 9, 3) := by decide +kernel
theorem dX5_pop_48 : decode cX5_pop 48 = .ok (.aload_n 0, 1) := by decide +kernel
theorem dX5_pop_49 : decode cX5_pop 49 = .ok (.aload_n 2, 1) := by decide +kernel
theorem dX5_pop_50 : decode cX5_pop 50 = .ok (.aload_n 2, 1) := by decide +kernel
theorem dX5_pop_51 : decode cX5_pop 51 = .ok (.iconst 4, 1) := by decide +kernel
theorem dX5_pop_52 : decode cX5_pop 52 = .ok (.iaload, 1) := by decide +kernel
theorem dX5_pop_53 : decode cX5_pop 53 = .ok (.invokevirtual 51, 3) := by decide +kernel
theorem dX5_pop_56 : decode cX5_pop 56 = .ok (.iaload, 1) := by decide +kernel
theorem dX5_pop_57 : decode cX5_pop 57 = .ok (.invokevirtual 63, 3) := by decide +kernel
theorem dX5_pop_60 : decode cX5_pop 60 = .ok (.ireturn, 1) := by decide +kernel
theorem dX5_peek_0 : decode cX5_peek 0 = .ok (.aload_n 0, 1) := by decide +kernel
theorem dX5_peek_1 : decode cX5_peek 1 = .ok (.iload_n 1, 1) := by decide +kernel
theorem dX5_peek_2 : decode cX5_peek 2 = .ok (.invokestatic 55, 3) := by decide +kernel
theorem dX5_peek_5 : decode cX5_peek 5 = .ok (.iconst 1, 1) := by decide +kernel
theorem dX5_peek_6 : decode cX5_peek 6 = .ok (.invokevirtual 59, 3) := by decide +kernel
theorem dX5_peek_9 : decode cX5_peek 9 = .ok (.ifCond .eq 46, 3) := by decide +kernel
theorem dX5_peek_12 : decode cX5_peek 12 = .ok (.aload_n 0, 1) := by decide +kernel
theorem dX5_peek_13 : decode cX5_peek 13 = .ok (.getfield 18, 3) := by decide +kernel
theorem dX5_peek_16 : decode cX5_peek 16 = .ok (.iload_n 1, 1) := by decide +kernel
theorem dX5_peek_17 : decode cX5_peek 17 = .ok (.aaload, 1) := by decide +kernel
theorem dX5_peek_18 : decode cX5_peek 18 = .ok (.invokestatic 43, 3) := by decide +kernel
theorem dX5_peek_21 : decode cX5_peek 21 = .ok (.ifCond .ne 8, 3) := by decide +kernel
theorem dX5_peek_24 : decode cX5_peek 24 = .ok (.bipush (-9), 2) := by decide +kernel
theorem dX5_peek_26 : decode cX5_peek 26 = .ok (.goto 30, 3) := by decide +kernel
theorem dX5_peek_29 : decode cX5_peek 29 = .ok (.aload_n 0, 1) := by decide +kernel
theorem dX5_peek_30 : decode cX5_peek 30 = .ok (.getfield 9, 3) := by decide +kernel
theorem dX5_peek_33 : decode cX5_peek 33 = .ok (.aload_n 0, 1) := by decide +kernel
theorem dX5_peek_34 : decode cX5_peek 34 = .ok (.aload_n 0, 1) := by decide +kernel
theorem dX5_peek_35 : decode cX5_peek 35 = .ok (.getfield 18, 3) := by decide +kernel
theorem dX5_peek_38 : decode cX5_peek 38 = .ok (.iload_n 1, 1) := by decide +kernel
theorem dX5_peek_39 : decode cX5_peek 39 = .ok (.aaload, 1) := by decide +kernel
theorem dX5_peek_40 : decode cX5_peek 40 = .ok (.aload_n 0, 1) := by decide +kernel
theorem dX5_peek_41 : decode cX5_peek 41 = .ok (.getfield 18, 3) := by decide +kernel
theorem dX5_peek_44 : decode cX5_peek 44 = .ok (.iload_n 1, 1) := by decide +kernel
theorem dX5_peek_45 : decode cX5_peek 45 = .ok (.aaload, 1) := by decide +kernel
theorem dX5_peek_46 : decode cX5_peek 46 = .ok (.iconst 4, 1) := by decide +kernel
theorem dX5_peek_47 : decode cX5_peek 47 = .ok (.iaload, 1) := by decide +kernel
theorem dX5_peek_48 : decode cX5_peek 48 = .ok (.invokevirtual 51, 3) := by decide +kernel
theorem dX5_peek_51 : decode cX5_peek 51 = .ok (.iaload, 1) := by decide +kernel
theorem dX5_peek_52 : decode cX5_peek 52 = .ok (.goto 4, 3) := by decide +kernel
theorem dX5_peek_55 : decode cX5_peek 55 = .ok (.iconst 0, 1) := by decide +kernel
theorem dX5_peek_56 : decode cX5_peek 56 = .ok (.ireturn, 1) := by decide +kernel
theorem dX5_would_0 : decode cX5_would 0 = .ok (.aload_n 0, 1) := by decide +kernel
theorem dX5_would_1 : decode cX5_would 1 = .ok (.iload_n 1, 1) := by decide +kernel
theorem dX5_would_2 : decode cX5_would 2 = .ok (.invokestatic 55, 3) := by decide +kernel
theorem dX5_would_5 : decode cX5_would 5 = .ok (.iload_n 2, 1) := by decide +kernel
theorem dX5_would_6 : decode cX5_would 6 = .ok (.iconst 0, 1) := by decide +kernel
theorem dX5_would_7 : decode cX5_would 7 = .ok (.iconst 3, 1) := by decide +kernel
theorem dX5_would_8 : decode cX5_would 8 = .ok (.invokestatic 36, 3) := by decide +kernel
theorem dX5_would_11 : decode cX5_would 11 = .ok (.invokevirtual 59, 3) := by decide +kernel
theorem dX5_would_14 : decode cX5_would 14 = .ok (.ifCond .ne 5, 3) := by decide +kernel
theorem dX5_would_17 : decode cX5_would 17 = .ok (.iconst 0, 1) := by decide +kernel
theorem dX5_would_18 : decode cX5_would 18 = .ok (.ireturn, 1) := by decide +kernel
theorem dX5_would_19 : decode cX5_would 19 = .ok (.aload_n 0, 1) := by decide +kernel
theorem dX5_would_20 : decode cX5_would 20 = .ok (.getfield 18, 3) := by decide +kernel
theorem dX5_would_23 : decode cX5_would 23 = .ok (.iload_n 1, 1) := by decide +kernel
theorem dX5_would_24 : decode cX5_would 24 = .ok (.aaload, 1) := by decide +kernel
theorem dX5_would_25 : decode cX5_would 25 = .ok (.astore_n 3, 1) := by decide +kernel
theorem dX5_would_26 : decode cX5_would 26 = .ok (.iload_n 2, 1) := by decide +kernel
theorem dX5_would_27 : decode cX5_would 27 = .ok (.iconst 3, 1) := by decide +kernel
theorem dX5_would_28 : decode cX5_would 28 = .ok (.if_icmp .ne 25, 3) := by decide +kernel
theorem dX5_would_31 : decode cX5_would 31 = .ok (.aload_n 3, 1) := by decide +kernel
theorem dX5_would_32 : decode cX5_would 32 = .ok (.bipush 6, 2) := by decide +kernel
theorem dX5_would_34 : decode cX5_would 34 = .ok (.iaload, 1) := by decide +kernel
theorem dX5_would_35 : decode cX5_would 35 = .ok (.iconst (-1), 1) := by decide +kernel
theorem dX5_would_36 : decode cX5_would 36 = .ok (.if_icmp .ne 8, 3) := by decide +kernel
theorem dX5_would_39 : decode cX5_would 39 = .ok (.bipush (-9), 2) := by decide +kernel
theorem dX5_would_41 : decode cX5_would 41 = .ok (.goto 11, 3) := by decide +kernel
theorem dX5_would_44 : decode cX5_would 44 = .ok (.aload_n 3, 1) := by decide +kernel
theorem dX5_would_45 : decode cX5_would 45 = .ok (.iconst 5, 1) := by decide +kernel
theorem dX5_would_46 : decode cX5_would 46 = .ok (.iaload, 1) := by decide +kernel
theorem dX5_would_47 : decode cX5_would 47 = .ok (.aload_n 3, 1) := by decide +kernel
theorem dX5_would_48 : decode cX5_would 48 = .ok (.bipush 6, 2) := by decide +kernel
theorem dX5_would_50 : decode cX5_would 50 = .ok (.iaload, 1) := by decide +kernel
theorem dX5_would_51 : decode cX5_would 51 = .ok (.isub, 1) := by decide +kernel
theorem dX5_would_52 : decode cX5_would 52 = .ok (.ireturn, 1) := by decide +kernel
theorem dX5_would_53 : decode cX5_would 53 = .ok (.iload_n 2, 1) := by decide +kernel
theorem dX5_would_54 : decode cX5_would 54 = .ok (.ifCond .ne 9, 3) := by decide +kernel
theorem dX5_would_57 : decode cX5_would 57 = .ok (.aload_n 3, 1) := by decide +kernel
theorem dX5_would_58 : decode cX5_would 58 = .ok (.iconst 3, 1) := by decide +kernel
theorem dX5_would_59 : decode cX5_would 59 = .ok (.iaload, 1) := by decide +kernel
theorem dX5_would_60 : decode cX5_would 60 = .ok (.goto 17, 3) := by decide +kernel
theorem dX5_would_63 : decode cX5_would 63 = .ok (.iload_n 2, 1) := by decide +kernel
theorem dX5_would_64 : decode cX5_would 64 = .ok (.iconst 1, 1) := by decide +kernel
theorem dX5_would_65 : decode cX5_would 65 = .ok (.if_icmp .ne 9, 3) := by decide +kernel
theorem dX5_would_68 : decode cX5_would 68 = .ok (.aload_n 3, 1) := by decide +kernel
theorem dX5_would_69 : decode cX5_would 69 = .ok (.iconst 4, 1) := by decide +kernel
theorem dX5_would_70 : decode cX5_would 70 = .ok (.iaload, 1) := by decide +kernel
theorem dX5_would_71 : decode cX5_would 71 = .ok (.goto 6, 3) := by decide +kernel
theorem dX5_would_74 : decode cX5_would 74 = .ok (.aload_n 3, 1) := by decide +kernel
theorem dX5_would_75 : decode cX5_would 75 = .ok (.iconst 5, 1) := by decide +kernel
theorem dX5_would_76 : decode cX5_would 76 = .ok (.iaload, 1) := by decide +kernel
theorem dX5_would_77 : decode cX5_would 77 = .ok (.ireturn, 1) := by decide +kernel
theorem dX5_lay_0 : decode cX5_lay 0 = .ok (.aload_n 0, 1) := by decide +kernel
theorem dX5_lay_1 : decode cX5_lay 1 = .ok (.iload_n 1, 1) := by decide +kernel
theorem dX5_lay_2 : decode cX5_lay 2 = .ok (.iconst 0, 1) := by decide +kernel
theorem dX5_lay_3 : decode cX5_lay 3 = .ok (.bipush 15, 2) := by decide +kernel
theorem dX5_lay_5 : decode cX5_lay 5 = .ok (.invokestatic 36, 3) := by decide +kernel
theorem dX5_lay_8 : decode cX5_lay 8 = .ok (.iload_n 2, 1) := by decide +kernel
theorem dX5_lay_9 : decode cX5_lay 9 = .ok (.ifCond .lt 7, 3) := by decide +kernel
theorem dX5_lay_12 : decode cX5_lay 12 = .ok (.iconst 1, 1) := by decide +kernel
theorem dX5_lay_13 : decode cX5_lay 13 = .ok (.goto 4, 3) := by decide +kernel
theorem dX5_lay_16 : decode cX5_lay 16 = .ok (.iconst 0, 1) := by decide +kernel
theorem dX5_lay_17 : decode cX5_lay 17 = .ok (.invokevirtual 59, 3) := by decide +kernel
theorem dX5_lay_20 : decode cX5_lay 20 = .ok (.ifCond .eq 16, 3) := by decide +kernel
theorem dX5_lay_23 : decode cX5_lay 23 = .ok (.aload_n 0, 1) := by decide +kernel
theorem dX5_lay_24 : decode cX5_lay 24 = .ok (.aload_n 0, 1) := by decide +kernel
theorem dX5_lay_25 : decode cX5_lay 25 = .ok (.iload_n 1, 1) := by decide +kernel
theorem dX5_lay_26 : decode cX5_lay 26 = .ok (.iload_n 2, 1) := by decide +kernel
theorem dX5_lay_27 : decode cX5_lay 27 = .ok (.invokevirtual 95, 3) := by decide +kernel
theorem dX5_lay_30 : decode cX5_lay 30 = .ok (.invokevirtual 63, 3) := by decide +kernel
theorem dX5_lay_33 : decode cX5_lay 33 = .ok (.goto 4, 3) := by decide +kernel
theorem dX5_lay_36 : decode cX5_lay 36 = .ok (.iconst 0, 1) := by decide +kernel
theorem dX5_lay_37 : decode cX5_lay 37 = .ok (.ireturn, 1) := by decide +kernel
theorem dX5_areReaders_0 : decode cX5_areReaders 0 = .ok (.aload_n 0, 1) := by decide +kernel
theorem dX5_areReaders_1 : decode cX5_areReaders 1 = .ok (.getfield 18, 3) := by decide +kernel
theorem dX5_areReaders_4 : decode cX5_areReaders 4 = .ok (.iload_n 1, 1) := by decide +kernel
theorem dX5_areReaders_5 : decode cX5_areReaders 5 = .ok (.aaload, 1) := by decide +kernel
theorem dX5_areReaders_6 : decode cX5_areReaders 6 = .ok (.bipush 7, 2) := by decide +kernel
theorem dX5_areReaders_8 : decode cX5_areReaders 8 = .ok (.iaload, 1) := by decide +kernel
theorem dX5_areReaders_9 : decode cX5_areReaders 9 = .ok (.aload_n 0, 1) := by decide +kernel
theorem dX5_areReaders_10 : decode cX5_areReaders 10 = .ok (.getfield 18, 3) := by decide +kernel
theorem dX5_areReaders_13 : decode cX5_areReaders 13 = .ok (.iload_n 2, 1) := by decide +kernel
theorem dX5_areReaders_14 : decode cX5_areReaders 14 = .ok (.aaload, 1) := by decide +kernel
theorem dX5_areReaders_15 : decode cX5_areReaders 15 = .ok (.bipush 7, 2) := by decide +kernel
theorem dX5_areReaders_17 : decode cX5_areReaders 17 = .ok (.iaload, 1) := by decide +kernel
theorem dX5_areReaders_18 : decode cX5_areReaders 18 = .ok (.iadd, 1) := by decide +kernel
theorem dX5_areReaders_19 : decode cX5_areReaders 19 = .ok (.ifCond .le 7, 3) := by decide +kernel
theorem dX5_areReaders_22 : decode cX5_areReaders 22 = .ok (.iconst 1, 1) := by decide +kernel
theorem dX5_areReaders_23 : decode cX5_areReaders 23 = .ok (.goto 4, 3) := by decide +kernel
theorem dX5_areReaders_26 : decode cX5_areReaders 26 = .ok (.iconst 0, 1) := by decide +kernel
theorem dX5_areReaders_27 : decode cX5_areReaders 27 = .ok (.ireturn, 1) := by decide +kernel
theorem dX5_isKin_0 : decode cX5_isKin 0 = .ok (.aload_n 0, 1) := by decide +kernel
theorem dX5_isKin_1 : decode cX5_isKin 1 = .ok (.iload_n 1, 1) := by decide +kernel
theorem dX5_isKin_2 : decode cX5_isKin 2 = .ok (.invokestatic 55, 3) := by decide +kernel
theorem dX5_isKin_5 : decode cX5_isKin 5 = .ok (.ifCond .eq 14, 3) := by decide +kernel
theorem dX5_isKin_8 : decode cX5_isKin 8 = .ok (.iload_n 2, 1) := by decide +kernel
theorem dX5_isKin_9 : decode cX5_isKin 9 = .ok (.invokestatic 55, 3) := by decide +kernel
theorem dX5_isKin_12 : decode cX5_isKin 12 = .ok (.ifCond .eq 7, 3) := by decide +kernel
theorem dX5_isKin_15 : decode cX5_isKin 15 = .ok (.iconst 1, 1) := by decide +kernel
theorem dX5_isKin_16 : decode cX5_isKin 16 = .ok (.goto 4, 3) := by decide +kernel
theorem dX5_isKin_19 : decode cX5_isKin 19 = .ok (.iconst 0, 1) := by decide +kernel
theorem dX5_isKin_20 : decode cX5_isKin 20 = .ok (.iconst 1, 1) := by decide +kernel
theorem dX5_isKin_21 : decode cX5_isKin 21 = .ok (.invokevirtual 59, 3) := by decide +kernel
theorem dX5_isKin_24 : decode cX5_isKin 24 = .ok (.ifCond .ne 5, 3) := by decide +kernel
theorem dX5_isKin_27 : decode cX5_isKin 27 = .ok (.iconst 0, 1) := by decide +kernel
theorem dX5_isKin_28 : decode cX5_isKin 28 = .ok (.ireturn, 1) := by decide +kernel
theorem dX5_isKin_29 : decode cX5_isKin 29 = .ok (.aload_n 0, 1) := by decide +kernel
theorem dX5_isKin_30 : decode cX5_isKin 30 = .ok (.iload_n 1, 1) := by decide +kernel
theorem dX5_isKin_31 : decode cX5_isKin 31 = .ok (.iload_n 2, 1) := by decide +kernel
theorem dX5_isKin_32 : decode cX5_isKin 32 = .ok (.invokevirtual 135, 3) := by decide +kernel
theorem dX5_isKin_35 : decode cX5_isKin 35 = .ok (.ifCond .eq 8, 3) := by decide +kernel
theorem dX5_isKin_38 : decode cX5_isKin 38 = .ok (.bipush (-9), 2) := by decide +kernel
theorem dX5_isKin_40 : decode cX5_isKin 40 = .ok (.goto 27, 3) := by decide +kernel
theorem dX5_isKin_43 : decode cX5_isKin 43 = .ok (.aload_n 0, 1) := by decide +kernel
theorem dX5_isKin_44 : decode cX5_isKin 44 = .ok (.getfield 18, 3) := by decide +kernel
theorem dX5_isKin_47 : decode cX5_isKin 47 = .ok (.iload_n 1, 1) := by decide +kernel
theorem dX5_isKin_48 : decode cX5_isKin 48 = .ok (.aaload, 1) := by decide +kernel
theorem dX5_isKin_49 : decode cX5_isKin 49 = .ok (.iconst 0, 1) := by decide +kernel
theorem dX5_isKin_50 : decode cX5_isKin 50 = .ok (.iaload, 1) := by decide +kernel
theorem dX5_isKin_51 : decode cX5_isKin 51 = .ok (.aload_n 0, 1) := by decide +kernel
theorem dX5_isKin_52 : decode cX5_isKin 52 = .ok (.getfield 18, 3) := by decide +kernel
theorem dX5_isKin_55 : decode cX5_isKin 55 = .ok (.iload_n 2, 1) := by decide +kernel
theorem dX5_isKin_56 : decode cX5_isKin 56 = .ok (.aaload, 1) := by decide +kernel
theorem dX5_isKin_57 : decode cX5_isKin 57 = .ok (.iconst 0, 1) := by decide +kernel
theorem dX5_isKin_58 : decode cX5_isKin 58 = .ok (.iaload, 1) := by decide +kernel
theorem dX5_isKin_59 : decode cX5_isKin 59 = .ok (.if_icmp .ne 7, 3) := by decide +kernel
theorem dX5_isKin_62 : decode cX5_isKin 62 = .ok (.iconst 1, 1) := by decide +kernel
theorem dX5_isKin_63 : decode cX5_isKin 63 = .ok (.goto 4, 3) := by decide +kernel
theorem dX5_isKin_66 : decode cX5_isKin 66 = .ok (.iconst 0, 1) := by decide +kernel
theorem dX5_isKin_67 : decode cX5_isKin 67 = .ok (.ireturn, 1) := by decide +kernel
theorem dX5_sees_0 : decode cX5_sees 0 = .ok (.aload_n 0, 1) := by decide +kernel
theorem dX5_sees_1 : decode cX5_sees 1 = .ok (.iload_n 1, 1) := by decide +kernel
theorem dX5_sees_2 : decode cX5_sees 2 = .ok (.invokestatic 55, 3) := by decide +kernel
theorem dX5_sees_5 : decode cX5_sees 5 = .ok (.ifCond .eq 14, 3) := by decide +kernel
theorem dX5_sees_8 : decode cX5_sees 8 = .ok (.iload_n 3, 1) := by decide +kernel
theorem dX5_sees_9 : decode cX5_sees 9 = .ok (.invokestatic 55, 3) := by decide +kernel
theorem dX5_sees_12 : decode cX5_sees 12 = .ok (.ifCond .eq 7, 3) := by decide +kernel
theorem dX5_sees_15 : decode cX5_sees 15 = .ok (.iconst 1, 1) := by decide +kernel
theorem dX5_sees_16 : decode cX5_sees 16 = .ok (.goto 4, 3) := by decide +kernel
theorem dX5_sees_19 : decode cX5_sees 19 = .ok (.iconst 0, 1) := by decide +kernel
theorem dX5_sees_20 : decode cX5_sees 20 = .ok (.iconst 1, 1) := by decide +kernel
theorem dX5_sees_21 : decode cX5_sees 21 = .ok (.invokevirtual 59, 3) := by decide +kernel
theorem dX5_sees_24 : decode cX5_sees 24 = .ok (.ifCond .ne 5, 3) := by decide +kernel
theorem dX5_sees_27 : decode cX5_sees 27 = .ok (.iconst 0, 1) := by decide +kernel
theorem dX5_sees_28 : decode cX5_sees 28 = .ok (.ireturn, 1) := by decide +kernel
theorem dX5_sees_29 : decode cX5_sees 29 = .ok (.aload_n 0, 1) := by decide +kernel
theorem dX5_sees_30 : decode cX5_sees 30 = .ok (.iload_n 1, 1) := by decide +kernel
theorem dX5_sees_31 : decode cX5_sees 31 = .ok (.iload_n 3, 1) := by decide +kernel
theorem dX5_sees_32 : decode cX5_sees 32 = .ok (.invokevirtual 135, 3) := by decide +kernel
theorem dX5_sees_35 : decode cX5_sees 35 = .ok (.ifCond .eq 6, 3) := by decide +kernel
theorem dX5_sees_38 : decode cX5_sees 38 = .ok (.bipush (-9), 2) := by decide +kernel
theorem dX5_sees_40 : decode cX5_sees 40 = .ok (.ireturn, 1) := by decide +kernel
theorem dX5_sees_41 : decode cX5_sees 41 = .ok (.aload_n 0, 1) := by decide +kernel
theorem dX5_sees_42 : decode cX5_sees 42 = .ok (.getfield 18, 3) := by decide +kernel
theorem dX5_sees_45 : decode cX5_sees 45 = .ok (.iload_n 1, 1) := by decide +kernel
theorem dX5_sees_46 : decode cX5_sees 46 = .ok (.aaload, 1) := by decide +kernel
theorem dX5_sees_47 : decode cX5_sees 47 = .ok (.astore 4, 2) := by decide +kernel
theorem dX5_sees_49 : decode cX5_sees 49 = .ok (.aload_n 0, 1) := by decide +kernel
theorem dX5_sees_50 : decode cX5_sees 50 = .ok (.getfield 18, 3) := by decide +kernel
theorem dX5_sees_53 : decode cX5_sees 53 = .ok (.iload_n 3, 1) := by decide +kernel
theorem dX5_sees_54 : decode cX5_sees 54 = .ok (.aaload, 1) := by decide +kernel
theorem dX5_sees_55 : decode cX5_sees 55 = .ok (.astore 5, 2) := by decide +kernel
theorem dX5_sees_57 : decode cX5_sees 57 = .ok (.aload 4, 2) := by decide +kernel
theorem dX5_sees_59 : decode cX5_sees 59 = .ok (.iconst 0, 1) := by decide +kernel
theorem dX5_sees_60 : decode cX5_sees 60 = .ok (.iaload, 1) := by decide +kernel
theorem dX5_sees_61 : decode cX5_sees 61 = .ok (.aload 5, 2) := by decide +kernel
theorem dX5_sees_63 : decode cX5_sees 63 = .ok (.iconst 0, 1) := by decide +kernel
theorem dX5_sees_64 : decode cX5_sees 64 = .ok (.iaload, 1) := by decide +kernel
theorem dX5_sees_65 : decode cX5_sees 65 = .ok (.if_icmp .ne 17, 3) := by decide +kernel
theorem dX5_sees_68 : decode cX5_sees 68 = .ok (.iload_n 2, 1) := by decide +kernel
theorem dX5_sees_69 : decode cX5_sees 69 = .ok (.iconst 0, 1) := by decide +kernel
theorem dX5_sees_70 : decode cX5_sees 70 = .ok (.aload 4, 2) := by decide +kernel
theorem dX5_sees_72 : decode cX5_sees 72 = .ok (.iconst 3, 1) := by decide +kernel
theorem dX5_sees_73 : decode cX5_sees 73 = .ok (.iaload, 1) := by decide +kernel
theorem dX5_sees_74 : decode cX5_sees 74 = .ok (.iconst 1, 1) := by decide +kernel
theorem dX5_sees_75 : decode cX5_sees 75 = .ok (.isub, 1) := by decide +kernel
theorem dX5_sees_76 : decode cX5_sees 76 = .ok (.invokestatic 36, 3) := by decide +kernel
theorem dX5_sees_79 : decode cX5_sees 79 = .ok (.ifCond .ne 5, 3) := by decide +kernel
theorem dX5_sees_82 : decode cX5_sees 82 = .ok (.iconst (-1), 1) := by decide +kernel
theorem dX5_sees_83 : decode cX5_sees 83 = .ok (.ireturn, 1) := by decide +kernel
theorem dX5_sees_84 : decode cX5_sees 84 = .ok (.aload 4, 2) := by decide +kernel
theorem dX5_sees_86 : decode cX5_sees 86 = .ok (.iconst 2, 1) := by decide +kernel
theorem dX5_sees_87 : decode cX5_sees 87 = .ok (.iaload, 1) := by decide +kernel
theorem dX5_sees_88 : decode cX5_sees 88 = .ok (.iload_n 2, 1) := by decide +kernel
theorem dX5_sees_89 : decode cX5_sees 89 = .ok (.iadd, 1) := by decide +kernel
theorem dX5_sees_90 : decode cX5_sees 90 = .ok (.aload 5, 2) := by decide +kernel
theorem dX5_sees_92 : decode cX5_sees 92 = .ok (.iconst 2, 1) := by decide +kernel
theorem dX5_sees_93 : decode cX5_sees 93 = .ok (.iaload, 1) := by decide +kernel
theorem dX5_sees_94 : decode cX5_sees 94 = .ok (.isub, 1) := by decide +kernel
theorem dX5_sees_95 : decode cX5_sees 95 = .ok (.istore 6, 2) := by decide +kernel
theorem dX5_sees_97 : decode cX5_sees 97 = .ok (.iload 6, 2) := by decide +kernel
theorem dX5_sees_99 : decode cX5_sees 99 = .ok (.iconst 0, 1) := by decide +kernel
theorem dX5_sees_100 : decode cX5_sees 100 = .ok (.aload 5, 2) := by decide +kernel
theorem dX5_sees_102 : decode cX5_sees 102 = .ok (.iconst 3, 1) := by decide +kernel
theorem dX5_sees_103 : decode cX5_sees 103 = .ok (.iaload, 1) := by decide +kernel
theorem dX5_sees_104 : decode cX5_sees 104 = .ok (.iconst 1, 1) := by decide +kernel
theorem dX5_sees_105 : decode cX5_sees 105 = .ok (.isub, 1) := by decide +kernel
theorem dX5_sees_106 : decode cX5_sees 106 = .ok (.invokestatic 36, 3) := by decide +kernel
theorem dX5_sees_109 : decode cX5_sees 109 = .ok (.ifCond .eq 8, 3) := by decide +kernel
theorem dX5_sees_112 : decode cX5_sees 112 = .ok (.iload 6, 2) := by decide +kernel
theorem dX5_sees_114 : decode cX5_sees 114 = .ok (.goto 4, 3) := by decide +kernel
theorem dX5_sees_117 : decode cX5_sees 117 = .ok (.iconst (-1), 1) := by decide +kernel
theorem dX5_sees_118 : decode cX5_sees 118 = .ok (.ireturn, 1) := by decide +kernel
set_option maxRecDepth 20000 in
theorem c_X5_go_bad (l : Launch) (G : zG) {M : zM} {m : Nat} {pane : Int32} {pl : Int32} {tp : Nat} {nr : Int32} {pn : Nat} {td : Nat} {ac : Int32} {kn : Int32} {th : Int32}  (h_m : M m = some (cMd tp nr pn td ac kn th)) (h_bad : z_is pane 0 5 = 0) : z_Mi l G qX5_go (z_rm 4 0 0) [.ref m, .int pane, .int pl] M (fun r M' => r = 0 ∧ M' = z_up M m (cMd tp nr pn td ac kn (z_lt (z_is pane 0 5) 1)))  := by
  refine z_Mi_of _ (plainFor_of_name rfl) rfl (Nat.le_of_ble_eq_true rfl) (fun X hl hG hnm C ret => ?_)
  subst hl; subst hG
  have C : z_C X cX5_go RX5 5 (z_rm 4 0 0) := C
  show z_W X M 0 0 0 [(0, .ref m), (1, .int pane), (2, .int pl)] []
  refine z_aload_n C dX5_go_0 rfl 0 rfl ?_
  refine z_iload_n C dX5_go_1 rfl 1 rfl ?_
  refine z_callSi (rest := [.ref m]) (k' := 0) (n' := 0) C (c_X5_isPane (z_l X) (z_G X) ) (cs_X5_55 C (by decide)) rfl rfl (Nat.le_of_ble_eq_true rfl) rfl rfl (by decide) (by decide) dX5_go_2 (fun x2 M' hq => ?_)
  obtain ⟨rfl, rfl⟩ := hq
  refine z_iconst C (v := 1) dX5_go_5 (by decide) ?_
  refine z_callVi (rest := []) (k' := 0) (n' := 0) C (c_X5_isLet (z_l X) (z_G X) h_m) (cs_X5_59 C (by decide)) h_m rfl rfl rfl rfl (Nat.le_of_ble_eq_true rfl) rfl rfl (by decide) (by decide) dX5_go_6 (fun x6 M' hq => ?_)
  obtain ⟨rfl, rfl⟩ := hq
  refine z_if_ne C (tgt := 14) dX5_go_9 (by decide) (fun c9 => absurd (by simp [z_lr, z_lt, h_bad]) c9) (fun _ => ?_)
  refine z_iconst C (v := 0) dX5_go_12 (by decide) ?_
  exact ret dX5_go_13 rfl (⟨rfl, rfl⟩) (by decide) (by decide)
set_option maxRecDepth 20000 in
theorem c_X5_go (l : Launch) (G : zG) {M : zM} {m : Nat} {pane : Int32} {pl : Int32} {tp : Nat} {nr : Int32} {pn : Nat} {td : Nat} {ac : Int32} {kn : Int32} {th : Int32} {fd : Nat → Int32} {fp : Nat → Option Nat} {p : Nat} {ro : Int32} {ba : Int32} {sa : Int32} {cp : Int32} {po : Int32} {li : Int32} {mk : Int32} {rd : Int32} {i : Nat}  (h_m : M m = some (cMd tp nr pn td ac kn th)) (h_td : M td = some (aI G 6 fd)) (h_pn : M pn = some (aII G 6 fp)) (h_p : M p = some (cPm G ro ba sa cp po li mk rd)) (h_ok : z_is pane 0 5 = 1) (h_ip : vp_in pane 6) (h_ij : pane.toNatClampNeg = i) (h_fp : fp i = some p) (n_p_td : p ≠ td) : z_Mi l G qX5_go (z_rm 4 0 0) [.ref m, .int pane, .int pl] M (fun r M' => ((¬ (z_is pl 0 li) = 0) ∧ (mk ≤ pl) ∧ r = po ∧ M' = z_up (z_up M p (cPm G ro ba sa cp pl li mk rd)) m (cMd tp nr pn td (ac + 1) kn (z_lt (z_is pane 0 5) 1))) ∨ ((¬ (z_is pl 0 li) = 0) ∧ (¬ mk ≤ pl) ∧ r = po ∧ M' = z_up (z_up M p (cPm G ro ba sa cp pl li (-1) rd)) m (cMd tp nr pn td (ac + 1) kn (z_lt (z_is pane 0 5) 1))) ∨ (((z_is pl 0 li) = 0) ∧ r = (-9) ∧ M' = z_up (z_up M m (cMd tp nr pn td ac kn (z_lt (z_is pane 0 5) 1))) td (aI G 6 (upd fd 5 ((fd 5) + 1)))))  := by
  refine z_Mi_of _ (plainFor_of_name rfl) rfl (Nat.le_of_ble_eq_true rfl) (fun X hl hG hnm C ret => ?_)
  subst hl; subst hG
  have C : z_C X cX5_go RX5 5 (z_rm 4 0 0) := C
  show z_W X M 0 0 0 [(0, .ref m), (1, .int pane), (2, .int pl)] []
  refine z_aload_n C dX5_go_0 rfl 0 rfl ?_
  refine z_iload_n C dX5_go_1 rfl 1 rfl ?_
  refine z_callSi (rest := [.ref m]) (k' := 0) (n' := 0) C (c_X5_isPane (z_l X) (z_G X) ) (cs_X5_55 C (by decide)) rfl rfl (Nat.le_of_ble_eq_true rfl) rfl rfl (by decide) (by decide) dX5_go_2 (fun x2 M' hq => ?_)
  obtain ⟨rfl, rfl⟩ := hq
  refine z_iconst C (v := 1) dX5_go_5 (by decide) ?_
  refine z_callVi (rest := []) (k' := 0) (n' := 0) C (c_X5_isLet (z_l X) (z_G X) h_m) (cs_X5_59 C (by decide)) h_m rfl rfl rfl rfl (Nat.le_of_ble_eq_true rfl) rfl rfl (by decide) (by decide) dX5_go_6 (fun x6 M' hq => ?_)
  obtain ⟨rfl, rfl⟩ := hq
  refine z_if_ne C (tgt := 14) dX5_go_9 (by decide) (fun _ => ?_) (fun c9 => absurd c9 (by simp [z_lr, z_lt, h_ok]))
  refine z_aload_n C dX5_go_14 rfl 0 rfl ?_
  refine gf_X5_18 C (z_up_s _ _ _) dX5_go_15 ?_
  refine z_iload_n C dX5_go_18 rfl 1 rfl ?_
  refine z_aaldI (j := i) C ((z_up_n _ _ (z_ne h_pn h_m (by intro h; cases h))).trans h_pn) h_ip h_ij h_fp dX5_go_19 ?_
  refine z_astore_n (lv' := [(3, .ref p), (0, .ref m), (1, .int pane), (2, .int pl)]) C dX5_go_20 rfl (by decide) rfl ?_
  refine z_aload_n C dX5_go_21 rfl 0 rfl ?_
  refine z_iconst C (v := 4) dX5_go_22 (by decide) ?_
  refine z_pl4 C ((z_up_n _ _ (z_ne h_p h_m (by intro h; cases h))).trans h_p) dX5_go_23 ?_
  refine z_istore (lv' := [(4, .int po), (3, .ref p), (0, .ref m), (1, .int pane), (2, .int pl)]) C dX5_go_24 (by decide) rfl ?_
  refine z_iload_n C dX5_go_26 rfl 4 rfl ?_
  refine z_iconst C (v := 0) dX5_go_27 (by decide) ?_
  refine z_aload_n C dX5_go_28 rfl 1 rfl ?_
  refine z_iconst C (v := 5) dX5_go_29 (by decide) ?_
  refine z_pl5 C ((z_up_n _ _ (z_ne h_p h_m (by intro h; cases h))).trans h_p) dX5_go_30 ?_
  refine z_callSi (rest := []) (k' := 0) (n' := 0) C (c_X5_isIn (z_l X) (z_G X) ) (cs_X5_36 C (by decide)) rfl rfl (Nat.le_of_ble_eq_true rfl) rfl rfl (by decide) (by decide) dX5_go_31 (fun x31 M' hq => ?_)
  obtain ⟨rfl, rfl⟩ := hq
  refine z_if_ne C (tgt := 43) dX5_go_34 (by decide) (fun c34 => ?_) (fun c34 => ?_)
  · refine z_aload_n C dX5_go_43 rfl 2 rfl ?_
    refine z_aload_n C dX5_go_44 rfl 1 rfl ?_
    refine z_iload_n C dX5_go_45 rfl 4 rfl ?_
    refine z_callVv (rest := []) (k' := 0) (n' := 0) C (c_X5_moved (z_l X) (z_G X) ((z_up_n _ _ (z_ne h_p h_m (by intro h; cases h))).trans h_p)) (cs_X5_74 C (by decide)) (z_up_s _ _ _) rfl rfl rfl rfl (Nat.le_of_ble_eq_true rfl) rfl rfl (by decide) (by decide) dX5_go_46 (fun M' hq => ?_)
    obtain ⟨d46_0, rfl⟩ | ⟨d46_0, rfl⟩ := hq
    · refine z_aload_n C dX5_go_49 rfl 2 rfl ?_
      refine z_iload C dX5_go_50 0 rfl ?_
      refine z_callVi (rest := []) (k' := 0) (n' := 0) C (c_X5_did (z_l X) (z_G X) ((z_up_n _ _ (z_ne h_m h_p (by intro h; cases h))).trans (z_up_s _ _ _))) (cs_X5_63 C (by decide)) ((z_up_n _ _ (z_ne h_m h_p (by intro h; cases h))).trans (z_up_s _ _ _)) rfl rfl rfl rfl (Nat.le_of_ble_eq_true rfl) rfl rfl (by decide) (by decide) dX5_go_52 (fun x52 M' hq => ?_)
      obtain ⟨hr52, rfl⟩ := hq
      rw [hr52]
      rw [z_up_swap _ (z_ne h_m h_p (by intro h; cases h))]
      rw [z_up_up]
      exact ret dX5_go_55 rfl (Or.inl ⟨c34, d46_0, rfl, rfl⟩) (by decide) (by decide)
    · refine z_aload_n C dX5_go_49 rfl 2 rfl ?_
      refine z_iload C dX5_go_50 0 rfl ?_
      refine z_callVi (rest := []) (k' := 0) (n' := 0) C (c_X5_did (z_l X) (z_G X) ((z_up_n _ _ (z_ne h_m h_p (by intro h; cases h))).trans (z_up_s _ _ _))) (cs_X5_63 C (by decide)) ((z_up_n _ _ (z_ne h_m h_p (by intro h; cases h))).trans (z_up_s _ _ _)) rfl rfl rfl rfl (Nat.le_of_ble_eq_true rfl) rfl rfl (by decide) (by decide) dX5_go_52 (fun x52 M' hq => ?_)
      obtain ⟨hr52, rfl⟩ := hq
      rw [hr52]
      rw [z_up_swap _ (z_ne h_m h_p (by intro h; cases h))]
      rw [z_up_up]
      exact ret dX5_go_55 rfl (Or.inr (Or.inl ⟨c34, d46_0, rfl, rfl⟩)) (by decide) (by decide)
  · refine z_aload_n C dX5_go_37 rfl 2 rfl ?_
    refine z_iconst C (v := 5) dX5_go_38 (by decide) ?_
    refine z_callVi (rest := []) (k' := 0) (n' := 0) C (c_X5_refuse (z_l X) (z_G X) (z_up_s _ _ _) ((z_up_n _ _ (z_ne h_td h_m (by intro h; cases h))).trans h_td) (z_inL (by decide)) (show (5 : Int32).toNatClampNeg = 5 by decide)) (cs_X5_47 C (by decide)) (z_up_s _ _ _) rfl rfl rfl rfl (Nat.le_of_ble_eq_true rfl) rfl rfl (by decide) (by decide) dX5_go_39 (fun x39 M' hq => ?_)
    obtain ⟨rfl, rfl⟩ := hq
    exact ret dX5_go_42 rfl (Or.inr (Or.inr (⟨c34, rfl, rfl⟩))) (by decide) (by decide)
set_option maxRecDepth 20000 in
theorem c_X5_end_bad (l : Launch) (G : zG) {M : zM} {m : Nat} {pane : Int32} {pl : Int32} {tp : Nat} {nr : Int32} {pn : Nat} {td : Nat} {ac : Int32} {kn : Int32} {th : Int32}  (h_m : M m = some (cMd tp nr pn td ac kn th)) (h_bad : z_is pane 0 5 = 0) : z_Mi l G qX5_end (z_rm 4 0 0) [.ref m, .int pane, .int pl] M (fun r M' => r = 0 ∧ M' = z_up M m (cMd tp nr pn td ac kn (z_lt (z_is pane 0 5) 1)))  := by
  refine z_Mi_of _ (plainFor_of_name rfl) rfl (Nat.le_of_ble_eq_true rfl) (fun X hl hG hnm C ret => ?_)
  subst hl; subst hG
  have C : z_C X cX5_end RX5 5 (z_rm 4 0 0) := C
  show z_W X M 0 0 0 [(0, .ref m), (1, .int pane), (2, .int pl)] []
  refine z_aload_n C dX5_end_0 rfl 0 rfl ?_
  refine z_iload_n C dX5_end_1 rfl 1 rfl ?_
  refine z_callSi (rest := [.ref m]) (k' := 0) (n' := 0) C (c_X5_isPane (z_l X) (z_G X) ) (cs_X5_55 C (by decide)) rfl rfl (Nat.le_of_ble_eq_true rfl) rfl rfl (by decide) (by decide) dX5_end_2 (fun x2 M' hq => ?_)
  obtain ⟨rfl, rfl⟩ := hq
  refine z_iconst C (v := 1) dX5_end_5 (by decide) ?_
  refine z_callVi (rest := []) (k' := 0) (n' := 0) C (c_X5_isLet (z_l X) (z_G X) h_m) (cs_X5_59 C (by decide)) h_m rfl rfl rfl rfl (Nat.le_of_ble_eq_true rfl) rfl rfl (by decide) (by decide) dX5_end_6 (fun x6 M' hq => ?_)
  obtain ⟨rfl, rfl⟩ := hq
  refine z_if_ne C (tgt := 14) dX5_end_9 (by decide) (fun c9 => absurd (by simp [z_lr, z_lt, h_bad]) c9) (fun _ => ?_)
  refine z_iconst C (v := 0) dX5_end_12 (by decide) ?_
  exact ret dX5_end_13 rfl (⟨rfl, rfl⟩) (by decide) (by decide)
set_option maxRecDepth 20000 in
theorem c_X5_end (l : Launch) (G : zG) {M : zM} {m : Nat} {pane : Int32} {pl : Int32} {tp : Nat} {nr : Int32} {pn : Nat} {td : Nat} {ac : Int32} {kn : Int32} {th : Int32} {fd : Nat → Int32} {fp : Nat → Option Nat} {p : Nat} {ro : Int32} {ba : Int32} {sa : Int32} {cp : Int32} {po : Int32} {li : Int32} {mk : Int32} {rd : Int32} {i : Nat}  (h_m : M m = some (cMd tp nr pn td ac kn th)) (h_td : M td = some (aI G 6 fd)) (h_pn : M pn = some (aII G 6 fp)) (h_p : M p = some (cPm G ro ba sa cp po li mk rd)) (h_ok : z_is pane 0 5 = 1) (h_ip : vp_in pane 6) (h_ij : pane.toNatClampNeg = i) (h_fp : fp i = some p) (n_p_td : p ≠ td) : z_Mi l G qX5_end (z_rm 4 0 0) [.ref m, .int pane, .int pl] M (fun r M' => ((¬ (z_is pl 0 cp) = 0) ∧ (po ≤ pl) ∧ (mk ≤ pl) ∧ r = li ∧ M' = z_up (z_up M p (cPm G ro ba sa cp po pl mk rd)) m (cMd tp nr pn td (ac + 1) kn (z_lt (z_is pane 0 5) 1))) ∨ ((¬ (z_is pl 0 cp) = 0) ∧ (po ≤ pl) ∧ (¬ mk ≤ pl) ∧ r = li ∧ M' = z_up (z_up M p (cPm G ro ba sa cp po pl (-1) rd)) m (cMd tp nr pn td (ac + 1) kn (z_lt (z_is pane 0 5) 1))) ∨ ((¬ (z_is pl 0 cp) = 0) ∧ (¬ po ≤ pl) ∧ (mk ≤ pl) ∧ r = li ∧ M' = z_up (z_up M p (cPm G ro ba sa cp pl pl mk rd)) m (cMd tp nr pn td (ac + 1) kn (z_lt (z_is pane 0 5) 1))) ∨ ((¬ (z_is pl 0 cp) = 0) ∧ (¬ po ≤ pl) ∧ (¬ mk ≤ pl) ∧ r = li ∧ M' = z_up (z_up M p (cPm G ro ba sa cp pl pl (-1) rd)) m (cMd tp nr pn td (ac + 1) kn (z_lt (z_is pane 0 5) 1))) ∨ (((z_is pl 0 cp) = 0) ∧ r = (-9) ∧ M' = z_up (z_up M m (cMd tp nr pn td ac kn (z_lt (z_is pane 0 5) 1))) td (aI G 6 (upd fd 5 ((fd 5) + 1)))))  := by
  refine z_Mi_of _ (plainFor_of_name rfl) rfl (Nat.le_of_ble_eq_true rfl) (fun X hl hG hnm C ret => ?_)
  subst hl; subst hG
  have C : z_C X cX5_end RX5 5 (z_rm 4 0 0) := C
  show z_W X M 0 0 0 [(0, .ref m), (1, .int pane), (2, .int pl)] []
  refine z_aload_n C dX5_end_0 rfl 0 rfl ?_
  refine z_iload_n C dX5_end_1 rfl 1 rfl ?_
  refine z_callSi (rest := [.ref m]) (k' := 0) (n' := 0) C (c_X5_isPane (z_l X) (z_G X) ) (cs_X5_55 C (by decide)) rfl rfl (Nat.le_of_ble_eq_true rfl) rfl rfl (by decide) (by decide) dX5_end_2 (fun x2 M' hq => ?_)
  obtain ⟨rfl, rfl⟩ := hq
  refine z_iconst C (v := 1) dX5_end_5 (by decide) ?_
  refine z_callVi (rest := []) (k' := 0) (n' := 0) C (c_X5_isLet (z_l X) (z_G X) h_m) (cs_X5_59 C (by decide)) h_m rfl rfl rfl rfl (Nat.le_of_ble_eq_true rfl) rfl rfl (by decide) (by decide) dX5_end_6 (fun x6 M' hq => ?_)
  obtain ⟨rfl, rfl⟩ := hq
  refine z_if_ne C (tgt := 14) dX5_end_9 (by decide) (fun _ => ?_) (fun c9 => absurd c9 (by simp [z_lr, z_lt, h_ok]))
  refine z_aload_n C dX5_end_14 rfl 0 rfl ?_
  refine gf_X5_18 C (z_up_s _ _ _) dX5_end_15 ?_
  refine z_iload_n C dX5_end_18 rfl 1 rfl ?_
  refine z_aaldI (j := i) C ((z_up_n _ _ (z_ne h_pn h_m (by intro h; cases h))).trans h_pn) h_ip h_ij h_fp dX5_end_19 ?_
  refine z_astore_n (lv' := [(3, .ref p), (0, .ref m), (1, .int pane), (2, .int pl)]) C dX5_end_20 rfl (by decide) rfl ?_
  refine z_aload_n C dX5_end_21 rfl 0 rfl ?_
  refine z_iconst C (v := 5) dX5_end_22 (by decide) ?_
  refine z_pl5 C ((z_up_n _ _ (z_ne h_p h_m (by intro h; cases h))).trans h_p) dX5_end_23 ?_
  refine z_istore (lv' := [(4, .int li), (3, .ref p), (0, .ref m), (1, .int pane), (2, .int pl)]) C dX5_end_24 (by decide) rfl ?_
  refine z_iload_n C dX5_end_26 rfl 4 rfl ?_
  refine z_iconst C (v := 0) dX5_end_27 (by decide) ?_
  refine z_aload_n C dX5_end_28 rfl 1 rfl ?_
  refine z_iconst C (v := 3) dX5_end_29 (by decide) ?_
  refine z_pl3 C ((z_up_n _ _ (z_ne h_p h_m (by intro h; cases h))).trans h_p) dX5_end_30 ?_
  refine z_callSi (rest := []) (k' := 0) (n' := 0) C (c_X5_isIn (z_l X) (z_G X) ) (cs_X5_36 C (by decide)) rfl rfl (Nat.le_of_ble_eq_true rfl) rfl rfl (by decide) (by decide) dX5_end_31 (fun x31 M' hq => ?_)
  obtain ⟨rfl, rfl⟩ := hq
  refine z_if_ne C (tgt := 43) dX5_end_34 (by decide) (fun c34 => ?_) (fun c34 => ?_)
  · refine z_aload_n C dX5_end_43 rfl 2 rfl ?_
    refine z_aload_n C dX5_end_44 rfl 1 rfl ?_
    refine z_iload_n C dX5_end_45 rfl 4 rfl ?_
    refine z_callVv (rest := []) (k' := 0) (n' := 0) C (c_X5_ended (z_l X) (z_G X) ((z_up_n _ _ (z_ne h_p h_m (by intro h; cases h))).trans h_p)) (cs_X5_82 C (by decide)) (z_up_s _ _ _) rfl rfl rfl rfl (Nat.le_of_ble_eq_true rfl) rfl rfl (by decide) (by decide) dX5_end_46 (fun M' hq => ?_)
    obtain ⟨d46_0, d46_1, rfl⟩ | ⟨d46_0, d46_1, rfl⟩ | ⟨d46_0, d46_1, rfl⟩ | ⟨d46_0, d46_1, rfl⟩ := hq
    · refine z_aload_n C dX5_end_49 rfl 2 rfl ?_
      refine z_iload C dX5_end_50 0 rfl ?_
      refine z_callVi (rest := []) (k' := 0) (n' := 0) C (c_X5_did (z_l X) (z_G X) ((z_up_n _ _ (z_ne h_m h_p (by intro h; cases h))).trans (z_up_s _ _ _))) (cs_X5_63 C (by decide)) ((z_up_n _ _ (z_ne h_m h_p (by intro h; cases h))).trans (z_up_s _ _ _)) rfl rfl rfl rfl (Nat.le_of_ble_eq_true rfl) rfl rfl (by decide) (by decide) dX5_end_52 (fun x52 M' hq => ?_)
      obtain ⟨hr52, rfl⟩ := hq
      rw [hr52]
      rw [z_up_swap _ (z_ne h_m h_p (by intro h; cases h))]
      rw [z_up_up]
      exact ret dX5_end_55 rfl (Or.inl ⟨c34, d46_0, d46_1, rfl, rfl⟩) (by decide) (by decide)
    · refine z_aload_n C dX5_end_49 rfl 2 rfl ?_
      refine z_iload C dX5_end_50 0 rfl ?_
      refine z_callVi (rest := []) (k' := 0) (n' := 0) C (c_X5_did (z_l X) (z_G X) ((z_up_n _ _ (z_ne h_m h_p (by intro h; cases h))).trans (z_up_s _ _ _))) (cs_X5_63 C (by decide)) ((z_up_n _ _ (z_ne h_m h_p (by intro h; cases h))).trans (z_up_s _ _ _)) rfl rfl rfl rfl (Nat.le_of_ble_eq_true rfl) rfl rfl (by decide) (by decide) dX5_end_52 (fun x52 M' hq => ?_)
      obtain ⟨hr52, rfl⟩ := hq
      rw [hr52]
      rw [z_up_swap _ (z_ne h_m h_p (by intro h; cases h))]
      rw [z_up_up]
      exact ret dX5_end_55 rfl (Or.inr (Or.inl ⟨c34, d46_0, d46_1, rfl, rfl⟩)) (by decide) (by decide)
    · refine z_aload_n C dX5_end_49 rfl 2 rfl ?_
      refine z_iload C dX5_end_50 0 rfl ?_
      refine z_callVi (rest := []) (k' := 0) (n' := 0) C (c_X5_did (z_l X) (z_G X) ((z_up_n _ _ (z_ne h_m h_p (by intro h; cases h))).trans (z_up_s _ _ _))) (cs_X5_63 C (by decide)) ((z_up_n _ _ (z_ne h_m h_p (by intro h; cases h))).trans (z_up_s _ _ _)) rfl rfl rfl rfl (Nat.le_of_ble_eq_true rfl) rfl rfl (by decide) (by decide) dX5_end_52 (fun x52 M' hq => ?_)
      obtain ⟨hr52, rfl⟩ := hq
      rw [hr52]
      rw [z_up_swap _ (z_ne h_m h_p (by intro h; cases h))]
      rw [z_up_up]
      exact ret dX5_end_55 rfl (Or.inr (Or.inr (Or.inl ⟨c34, d46_0, d46_1, rfl, rfl⟩))) (by decide) (by decide)
    · refine z_aload_n C dX5_end_49 rfl 2 rfl ?_
      refine z_iload C dX5_end_50 0 rfl ?_
      refine z_callVi (rest := []) (k' := 0) (n' := 0) C (c_X5_did (z_l X) (z_G X) ((z_up_n _ _ (z_ne h_m h_p (by intro h; cases h))).trans (z_up_s _ _ _))) (cs_X5_63 C (by decide)) ((z_up_n _ _ (z_ne h_m h_p (by intro h; cases h))).trans (z_up_s _ _ _)) rfl rfl rfl rfl (Nat.le_of_ble_eq_true rfl) rfl rfl (by decide) (by decide) dX5_end_52 (fun x52 M' hq => ?_)
      obtain ⟨hr52, rfl⟩ := hq
      rw [hr52]
      rw [z_up_swap _ (z_ne h_m h_p (by intro h; cases h))]
      rw [z_up_up]
      exact ret dX5_end_55 rfl (Or.inr (Or.inr (Or.inr (Or.inl ⟨c34, d46_0, d46_1, rfl, rfl⟩)))) (by decide) (by decide)
  · refine z_aload_n C dX5_end_37 rfl 2 rfl ?_
    refine z_iconst C (v := 5) dX5_end_38 (by decide) ?_
    refine z_callVi (rest := []) (k' := 0) (n' := 0) C (c_X5_refuse (z_l X) (z_G X) (z_up_s _ _ _) ((z_up_n _ _ (z_ne h_td h_m (by intro h; cases h))).trans h_td) (z_inL (by decide)) (show (5 : Int32).toNatClampNeg = 5 by decide)) (cs_X5_47 C (by decide)) (z_up_s _ _ _) rfl rfl rfl rfl (Nat.le_of_ble_eq_true rfl) rfl rfl (by decide) (by decide) dX5_end_39 (fun x39 M' hq => ?_)
    obtain ⟨rfl, rfl⟩ := hq
    exact ret dX5_end_42 rfl (Or.inr (Or.inr (Or.inr (Or.inr (⟨c34, rfl, rfl⟩))))) (by decide) (by decide)
set_option maxRecDepth 20000 in
theorem c_X5_move_bad (l : Launch) (G : zG) {M : zM} {m : Nat} {pane : Int32} {bb : Int32} {tp : Nat} {nr : Int32} {pn : Nat} {td : Nat} {ac : Int32} {kn : Int32} {th : Int32}  (h_m : M m = some (cMd tp nr pn td ac kn th)) (h_bad : z_is pane 0 5 = 0) : z_Mi l G qX5_move (z_rm 5 0 0) [.ref m, .int pane, .int bb] M (fun r M' => r = 0 ∧ M' = z_up M m (cMd tp nr pn td ac kn (z_lt (z_is pane 0 5) (z_is bb (-20) 20))))  := by
  refine z_Mi_of _ (plainFor_of_name rfl) rfl (Nat.le_of_ble_eq_true rfl) (fun X hl hG hnm C ret => ?_)
  subst hl; subst hG
  have C : z_C X cX5_move RX5 4 (z_rm 5 0 0) := C
  show z_W X M 0 0 0 [(0, .ref m), (1, .int pane), (2, .int bb)] []
  refine z_aload_n C dX5_move_0 rfl 0 rfl ?_
  refine z_iload_n C dX5_move_1 rfl 1 rfl ?_
  refine z_callSi (rest := [.ref m]) (k' := 0) (n' := 0) C (c_X5_isPane (z_l X) (z_G X) ) (cs_X5_55 C (by decide)) rfl rfl (Nat.le_of_ble_eq_true rfl) rfl rfl (by decide) (by decide) dX5_move_2 (fun x2 M' hq => ?_)
  obtain ⟨rfl, rfl⟩ := hq
  refine z_iload_n C dX5_move_5 rfl 2 rfl ?_
  refine z_bipush C (v := (-20)) dX5_move_6 (by decide) ?_
  refine z_bipush C (v := 20) dX5_move_8 (by decide) ?_
  refine z_callSi (rest := [.int (z_is pane 0 5), .ref m]) (k' := 0) (n' := 0) C (c_X5_isIn (z_l X) (z_G X) ) (cs_X5_36 C (by decide)) rfl rfl (Nat.le_of_ble_eq_true rfl) rfl rfl (by decide) (by decide) dX5_move_10 (fun x10 M' hq => ?_)
  obtain ⟨rfl, rfl⟩ := hq
  refine z_callVi (rest := []) (k' := 0) (n' := 0) C (c_X5_isLet (z_l X) (z_G X) h_m) (cs_X5_59 C (by decide)) h_m rfl rfl rfl rfl (Nat.le_of_ble_eq_true rfl) rfl rfl (by decide) (by decide) dX5_move_13 (fun x13 M' hq => ?_)
  obtain ⟨rfl, rfl⟩ := hq
  refine z_if_ne C (tgt := 21) dX5_move_16 (by decide) (fun c16 => absurd (by simp [z_lr, z_lt, h_bad]) c16) (fun _ => ?_)
  refine z_iconst C (v := 0) dX5_move_19 (by decide) ?_
  exact ret dX5_move_20 rfl (⟨rfl, rfl⟩) (by decide) (by decide)
set_option maxRecDepth 20000 in
theorem c_X5_move (l : Launch) (G : zG) {M : zM} {m : Nat} {pane : Int32} {bb : Int32} {tp : Nat} {nr : Int32} {pn : Nat} {td : Nat} {ac : Int32} {kn : Int32} {th : Int32} {fd : Nat → Int32} {fp : Nat → Option Nat} {p : Nat} {ro : Int32} {ba : Int32} {sa : Int32} {cp : Int32} {po : Int32} {li : Int32} {mk : Int32} {rd : Int32} {i : Nat}  (h_m : M m = some (cMd tp nr pn td ac kn th)) (h_td : M td = some (aI G 6 fd)) (h_pn : M pn = some (aII G 6 fp)) (h_p : M p = some (cPm G ro ba sa cp po li mk rd)) (h_ok : z_is pane 0 5 = 1) (h_ip : vp_in pane 6) (h_ij : pane.toNatClampNeg = i) (h_fp : fp i = some p) (n_p_td : p ≠ td) : z_Mi l G qX5_move (z_rm 5 0 0) [.ref m, .int pane, .int bb] M (fun r M' => ((¬ (z_lr (z_is pane 0 5) (z_is bb (-20) 20)) = 0) ∧ (¬ (z_is (po + bb) 0 li) = 0) ∧ (mk ≤ (po + bb)) ∧ (¬ po = (-9)) ∧ r = po + bb ∧ M' = z_up (z_up M p (cPm G ro ba sa cp (po + bb) li mk rd)) m (cMd tp nr pn td (ac + 1) kn (z_lt (z_is pane 0 5) 1))) ∨ ((¬ (z_lr (z_is pane 0 5) (z_is bb (-20) 20)) = 0) ∧ (¬ (z_is (po + bb) 0 li) = 0) ∧ (mk ≤ (po + bb)) ∧ (po = (-9)) ∧ r = (-9) ∧ M' = z_up (z_up M p (cPm G ro ba sa cp (po + bb) li mk rd)) m (cMd tp nr pn td (ac + 1) kn (z_lt (z_is pane 0 5) 1))) ∨ ((¬ (z_lr (z_is pane 0 5) (z_is bb (-20) 20)) = 0) ∧ (¬ (z_is (po + bb) 0 li) = 0) ∧ (¬ mk ≤ (po + bb)) ∧ (¬ po = (-9)) ∧ r = po + bb ∧ M' = z_up (z_up M p (cPm G ro ba sa cp (po + bb) li (-1) rd)) m (cMd tp nr pn td (ac + 1) kn (z_lt (z_is pane 0 5) 1))) ∨ ((¬ (z_lr (z_is pane 0 5) (z_is bb (-20) 20)) = 0) ∧ (¬ (z_is (po + bb) 0 li) = 0) ∧ (¬ mk ≤ (po + bb)) ∧ (po = (-9)) ∧ r = (-9) ∧ M' = z_up (z_up M p (cPm G ro ba sa cp (po + bb) li (-1) rd)) m (cMd tp nr pn td (ac + 1) kn (z_lt (z_is pane 0 5) 1))) ∨ ((¬ (z_lr (z_is pane 0 5) (z_is bb (-20) 20)) = 0) ∧ ((z_is (po + bb) 0 li) = 0) ∧ r = (-9) ∧ M' = z_up (z_up M m (cMd tp nr pn td ac kn (z_lt (z_is pane 0 5) 1))) td (aI G 6 (upd fd 5 ((fd 5) + 1)))) ∨ (((z_lr (z_is pane 0 5) (z_is bb (-20) 20)) = 0) ∧ r = 0 ∧ M' = z_up M m (cMd tp nr pn td ac kn (z_lt (z_is pane 0 5) (z_is bb (-20) 20)))))  := by
  refine z_Mi_of _ (plainFor_of_name rfl) rfl (Nat.le_of_ble_eq_true rfl) (fun X hl hG hnm C ret => ?_)
  subst hl; subst hG
  have C : z_C X cX5_move RX5 4 (z_rm 5 0 0) := C
  show z_W X M 0 0 0 [(0, .ref m), (1, .int pane), (2, .int bb)] []
  refine z_aload_n C dX5_move_0 rfl 0 rfl ?_
  refine z_iload_n C dX5_move_1 rfl 1 rfl ?_
  refine z_callSi (rest := [.ref m]) (k' := 0) (n' := 0) C (c_X5_isPane (z_l X) (z_G X) ) (cs_X5_55 C (by decide)) rfl rfl (Nat.le_of_ble_eq_true rfl) rfl rfl (by decide) (by decide) dX5_move_2 (fun x2 M' hq => ?_)
  obtain ⟨rfl, rfl⟩ := hq
  refine z_iload_n C dX5_move_5 rfl 2 rfl ?_
  refine z_bipush C (v := (-20)) dX5_move_6 (by decide) ?_
  refine z_bipush C (v := 20) dX5_move_8 (by decide) ?_
  refine z_callSi (rest := [.int (z_is pane 0 5), .ref m]) (k' := 0) (n' := 0) C (c_X5_isIn (z_l X) (z_G X) ) (cs_X5_36 C (by decide)) rfl rfl (Nat.le_of_ble_eq_true rfl) rfl rfl (by decide) (by decide) dX5_move_10 (fun x10 M' hq => ?_)
  obtain ⟨rfl, rfl⟩ := hq
  refine z_callVi (rest := []) (k' := 0) (n' := 0) C (c_X5_isLet (z_l X) (z_G X) h_m) (cs_X5_59 C (by decide)) h_m rfl rfl rfl rfl (Nat.le_of_ble_eq_true rfl) rfl rfl (by decide) (by decide) dX5_move_13 (fun x13 M' hq => ?_)
  obtain ⟨rfl, rfl⟩ := hq
  refine z_if_ne C (tgt := 21) dX5_move_16 (by decide) (fun c16 => ?_) (fun c16 => ?_)
  · refine z_aload_n C dX5_move_21 rfl 0 rfl ?_
    refine gf_X5_18 C (z_up_s _ _ _) dX5_move_22 ?_
    refine z_iload_n C dX5_move_25 rfl 1 rfl ?_
    refine z_aaldI (j := i) C ((z_up_n _ _ (z_ne h_pn h_m (by intro h; cases h))).trans h_pn) h_ip h_ij h_fp dX5_move_26 ?_
    refine z_iconst C (v := 4) dX5_move_27 (by decide) ?_
    refine z_pl4 C ((z_up_n _ _ (z_ne h_p h_m (by intro h; cases h))).trans h_p) dX5_move_28 ?_
    refine z_iload_n C dX5_move_29 rfl 2 rfl ?_
    refine z_iadd C dX5_move_30 ?_
    refine z_istore_n (lv' := [(3, .int (po + bb)), (0, .ref m), (1, .int pane), (2, .int bb)]) C dX5_move_31 rfl (by decide) rfl ?_
    refine z_aload_n C dX5_move_32 rfl 1 rfl ?_
    refine z_iload_n C dX5_move_33 rfl 2 rfl ?_
    refine z_iload_n C dX5_move_34 rfl 0 rfl ?_
    refine z_callVi (rest := []) (k' := 0) (n' := 0) C (c_X5_go (z_l X) (z_G X) (z_up_s _ _ _) ((z_up_n _ _ (z_ne h_td h_m (by intro h; cases h))).trans h_td) ((z_up_n _ _ (z_ne h_pn h_m (by intro h; cases h))).trans h_pn) ((z_up_n _ _ (z_ne h_p h_m (by intro h; cases h))).trans h_p) h_ok h_ip h_ij h_fp n_p_td) (cs_X5_78 C (by decide)) (z_up_s _ _ _) rfl rfl rfl rfl (Nat.le_of_ble_eq_true rfl) rfl rfl (by decide) (by decide) dX5_move_35 (fun x35 M' hq => ?_)
    obtain ⟨d35_0, d35_1, hr35, rfl⟩ | ⟨d35_0, d35_1, hr35, rfl⟩ | ⟨d35_0, rfl, rfl⟩ := hq
    · rw [hr35]
      rw [z_up_swap _ (z_ne h_m h_p (by intro h; cases h))]
      rw [z_up_up]
      refine z_bipush C (v := (-9)) dX5_move_38 (by decide) ?_
      refine z_icmp_ne C (tgt := 48) dX5_move_40 (by decide) (fun c40 => ?_) (fun c40 => ?_)
      · refine z_iload_n C dX5_move_48 rfl 0 rfl ?_
        exact ret dX5_move_49 rfl (Or.inl ⟨c16, d35_0, d35_1, c40, rfl, rfl⟩) (by decide) (by decide)
      · refine z_bipush C (v := (-9)) dX5_move_43 (by decide) ?_
        refine z_goto C (tgt := 49) dX5_move_45 (by decide) ?_
        exact ret dX5_move_49 rfl (Or.inr (Or.inl ⟨c16, d35_0, d35_1, c40, rfl, rfl⟩)) (by decide) (by decide)
    · rw [hr35]
      rw [z_up_swap _ (z_ne h_m h_p (by intro h; cases h))]
      rw [z_up_up]
      refine z_bipush C (v := (-9)) dX5_move_38 (by decide) ?_
      refine z_icmp_ne C (tgt := 48) dX5_move_40 (by decide) (fun c40 => ?_) (fun c40 => ?_)
      · refine z_iload_n C dX5_move_48 rfl 0 rfl ?_
        exact ret dX5_move_49 rfl (Or.inr (Or.inr (Or.inl ⟨c16, d35_0, d35_1, c40, rfl, rfl⟩))) (by decide) (by decide)
      · refine z_bipush C (v := (-9)) dX5_move_43 (by decide) ?_
        refine z_goto C (tgt := 49) dX5_move_45 (by decide) ?_
        exact ret dX5_move_49 rfl (Or.inr (Or.inr (Or.inr (Or.inl ⟨c16, d35_0, d35_1, c40, rfl, rfl⟩)))) (by decide) (by decide)
    · rw [z_up_up]
      refine z_bipush C (v := (-9)) dX5_move_38 (by decide) ?_
      refine z_icmp_ne C (tgt := 48) dX5_move_40 (by decide) (fun c40 => absurd (by decide) c40) (fun _ => ?_)
      refine z_bipush C (v := (-9)) dX5_move_43 (by decide) ?_
      refine z_goto C (tgt := 49) dX5_move_45 (by decide) ?_
      exact ret dX5_move_49 rfl (Or.inr (Or.inr (Or.inr (Or.inr (Or.inl ⟨c16, d35_0, rfl, rfl⟩))))) (by decide) (by decide)
  · refine z_iconst C (v := 0) dX5_move_19 (by decide) ?_
    exact ret dX5_move_20 rfl (Or.inr (Or.inr (Or.inr (Or.inr (Or.inr (⟨c16, rfl, rfl⟩)))))) (by decide) (by decide)
set_option maxRecDepth 20000 in
theorem c_X5_stretch_bad (l : Launch) (G : zG) {M : zM} {m : Nat} {pane : Int32} {bb : Int32} {tp : Nat} {nr : Int32} {pn : Nat} {td : Nat} {ac : Int32} {kn : Int32} {th : Int32}  (h_m : M m = some (cMd tp nr pn td ac kn th)) (h_bad : z_is pane 0 5 = 0) : z_Mi l G qX5_stretch (z_rm 5 0 0) [.ref m, .int pane, .int bb] M (fun r M' => r = 0 ∧ M' = z_up M m (cMd tp nr pn td ac kn (z_lt (z_is pane 0 5) (z_is bb (-20) 20))))  := by
  refine z_Mi_of _ (plainFor_of_name rfl) rfl (Nat.le_of_ble_eq_true rfl) (fun X hl hG hnm C ret => ?_)
  subst hl; subst hG
  have C : z_C X cX5_stretch RX5 4 (z_rm 5 0 0) := C
  show z_W X M 0 0 0 [(0, .ref m), (1, .int pane), (2, .int bb)] []
  refine z_aload_n C dX5_stretch_0 rfl 0 rfl ?_
  refine z_iload_n C dX5_stretch_1 rfl 1 rfl ?_
  refine z_callSi (rest := [.ref m]) (k' := 0) (n' := 0) C (c_X5_isPane (z_l X) (z_G X) ) (cs_X5_55 C (by decide)) rfl rfl (Nat.le_of_ble_eq_true rfl) rfl rfl (by decide) (by decide) dX5_stretch_2 (fun x2 M' hq => ?_)
  obtain ⟨rfl, rfl⟩ := hq
  refine z_iload_n C dX5_stretch_5 rfl 2 rfl ?_
  refine z_bipush C (v := (-20)) dX5_stretch_6 (by decide) ?_
  refine z_bipush C (v := 20) dX5_stretch_8 (by decide) ?_
  refine z_callSi (rest := [.int (z_is pane 0 5), .ref m]) (k' := 0) (n' := 0) C (c_X5_isIn (z_l X) (z_G X) ) (cs_X5_36 C (by decide)) rfl rfl (Nat.le_of_ble_eq_true rfl) rfl rfl (by decide) (by decide) dX5_stretch_10 (fun x10 M' hq => ?_)
  obtain ⟨rfl, rfl⟩ := hq
  refine z_callVi (rest := []) (k' := 0) (n' := 0) C (c_X5_isLet (z_l X) (z_G X) h_m) (cs_X5_59 C (by decide)) h_m rfl rfl rfl rfl (Nat.le_of_ble_eq_true rfl) rfl rfl (by decide) (by decide) dX5_stretch_13 (fun x13 M' hq => ?_)
  obtain ⟨rfl, rfl⟩ := hq
  refine z_if_ne C (tgt := 21) dX5_stretch_16 (by decide) (fun c16 => absurd (by simp [z_lr, z_lt, h_bad]) c16) (fun _ => ?_)
  refine z_iconst C (v := 0) dX5_stretch_19 (by decide) ?_
  exact ret dX5_stretch_20 rfl (⟨rfl, rfl⟩) (by decide) (by decide)
set_option maxRecDepth 20000 in
theorem c_X5_stretch (l : Launch) (G : zG) {M : zM} {m : Nat} {pane : Int32} {bb : Int32} {tp : Nat} {nr : Int32} {pn : Nat} {td : Nat} {ac : Int32} {kn : Int32} {th : Int32} {fd : Nat → Int32} {fp : Nat → Option Nat} {p : Nat} {ro : Int32} {ba : Int32} {sa : Int32} {cp : Int32} {po : Int32} {li : Int32} {mk : Int32} {rd : Int32} {i : Nat}  (h_m : M m = some (cMd tp nr pn td ac kn th)) (h_td : M td = some (aI G 6 fd)) (h_pn : M pn = some (aII G 6 fp)) (h_p : M p = some (cPm G ro ba sa cp po li mk rd)) (h_ok : z_is pane 0 5 = 1) (h_ip : vp_in pane 6) (h_ij : pane.toNatClampNeg = i) (h_fp : fp i = some p) (n_p_td : p ≠ td) : z_Mi l G qX5_stretch (z_rm 5 0 0) [.ref m, .int pane, .int bb] M (fun r M' => ((¬ (z_lr (z_is pane 0 5) (z_is bb (-20) 20)) = 0) ∧ (¬ (z_is (li + bb) 0 cp) = 0) ∧ (po ≤ (li + bb)) ∧ (mk ≤ (li + bb)) ∧ (¬ li = (-9)) ∧ r = li + bb ∧ M' = z_up (z_up M p (cPm G ro ba sa cp po (li + bb) mk rd)) m (cMd tp nr pn td (ac + 1) kn (z_lt (z_is pane 0 5) 1))) ∨ ((¬ (z_lr (z_is pane 0 5) (z_is bb (-20) 20)) = 0) ∧ (¬ (z_is (li + bb) 0 cp) = 0) ∧ (po ≤ (li + bb)) ∧ (mk ≤ (li + bb)) ∧ (li = (-9)) ∧ r = (-9) ∧ M' = z_up (z_up M p (cPm G ro ba sa cp po (li + bb) mk rd)) m (cMd tp nr pn td (ac + 1) kn (z_lt (z_is pane 0 5) 1))) ∨ ((¬ (z_lr (z_is pane 0 5) (z_is bb (-20) 20)) = 0) ∧ (¬ (z_is (li + bb) 0 cp) = 0) ∧ (po ≤ (li + bb)) ∧ (¬ mk ≤ (li + bb)) ∧ (¬ li = (-9)) ∧ r = li + bb ∧ M' = z_up (z_up M p (cPm G ro ba sa cp po (li + bb) (-1) rd)) m (cMd tp nr pn td (ac + 1) kn (z_lt (z_is pane 0 5) 1))) ∨ ((¬ (z_lr (z_is pane 0 5) (z_is bb (-20) 20)) = 0) ∧ (¬ (z_is (li + bb) 0 cp) = 0) ∧ (po ≤ (li + bb)) ∧ (¬ mk ≤ (li + bb)) ∧ (li = (-9)) ∧ r = (-9) ∧ M' = z_up (z_up M p (cPm G ro ba sa cp po (li + bb) (-1) rd)) m (cMd tp nr pn td (ac + 1) kn (z_lt (z_is pane 0 5) 1))) ∨ ((¬ (z_lr (z_is pane 0 5) (z_is bb (-20) 20)) = 0) ∧ (¬ (z_is (li + bb) 0 cp) = 0) ∧ (¬ po ≤ (li + bb)) ∧ (mk ≤ (li + bb)) ∧ (¬ li = (-9)) ∧ r = li + bb ∧ M' = z_up (z_up M p (cPm G ro ba sa cp (li + bb) (li + bb) mk rd)) m (cMd tp nr pn td (ac + 1) kn (z_lt (z_is pane 0 5) 1))) ∨ ((¬ (z_lr (z_is pane 0 5) (z_is bb (-20) 20)) = 0) ∧ (¬ (z_is (li + bb) 0 cp) = 0) ∧ (¬ po ≤ (li + bb)) ∧ (mk ≤ (li + bb)) ∧ (li = (-9)) ∧ r = (-9) ∧ M' = z_up (z_up M p (cPm G ro ba sa cp (li + bb) (li + bb) mk rd)) m (cMd tp nr pn td (ac + 1) kn (z_lt (z_is pane 0 5) 1))) ∨ ((¬ (z_lr (z_is pane 0 5) (z_is bb (-20) 20)) = 0) ∧ (¬ (z_is (li + bb) 0 cp) = 0) ∧ (¬ po ≤ (li + bb)) ∧ (¬ mk ≤ (li + bb)) ∧ (¬ li = (-9)) ∧ r = li + bb ∧ M' = z_up (z_up M p (cPm G ro ba sa cp (li + bb) (li + bb) (-1) rd)) m (cMd tp nr pn td (ac + 1) kn (z_lt (z_is pane 0 5) 1))) ∨ ((¬ (z_lr (z_is pane 0 5) (z_is bb (-20) 20)) = 0) ∧ (¬ (z_is (li + bb) 0 cp) = 0) ∧ (¬ po ≤ (li + bb)) ∧ (¬ mk ≤ (li + bb)) ∧ (li = (-9)) ∧ r = (-9) ∧ M' = z_up (z_up M p (cPm G ro ba sa cp (li + bb) (li + bb) (-1) rd)) m (cMd tp nr pn td (ac + 1) kn (z_lt (z_is pane 0 5) 1))) ∨ ((¬ (z_lr (z_is pane 0 5) (z_is bb (-20) 20)) = 0) ∧ ((z_is (li + bb) 0 cp) = 0) ∧ r = (-9) ∧ M' = z_up (z_up M m (cMd tp nr pn td ac kn (z_lt (z_is pane 0 5) 1))) td (aI G 6 (upd fd 5 ((fd 5) + 1)))) ∨ (((z_lr (z_is pane 0 5) (z_is bb (-20) 20)) = 0) ∧ r = 0 ∧ M' = z_up M m (cMd tp nr pn td ac kn (z_lt (z_is pane 0 5) (z_is bb (-20) 20)))))  := by
  refine z_Mi_of _ (plainFor_of_name rfl) rfl (Nat.le_of_ble_eq_true rfl) (fun X hl hG hnm C ret => ?_)
  subst hl; subst hG
  have C : z_C X cX5_stretch RX5 4 (z_rm 5 0 0) := C
  show z_W X M 0 0 0 [(0, .ref m), (1, .int pane), (2, .int bb)] []
  refine z_aload_n C dX5_stretch_0 rfl 0 rfl ?_
  refine z_iload_n C dX5_stretch_1 rfl 1 rfl ?_
  refine z_callSi (rest := [.ref m]) (k' := 0) (n' := 0) C (c_X5_isPane (z_l X) (z_G X) ) (cs_X5_55 C (by decide)) rfl rfl (Nat.le_of_ble_eq_true rfl) rfl rfl (by decide) (by decide) dX5_stretch_2 (fun x2 M' hq => ?_)
  obtain ⟨rfl, rfl⟩ := hq
  refine z_iload_n C dX5_stretch_5 rfl 2 rfl ?_
  refine z_bipush C (v := (-20)) dX5_stretch_6 (by decide) ?_
  refine z_bipush C (v := 20) dX5_stretch_8 (by decide) ?_
  refine z_callSi (rest := [.int (z_is pane 0 5), .ref m]) (k' := 0) (n' := 0) C (c_X5_isIn (z_l X) (z_G X) ) (cs_X5_36 C (by decide)) rfl rfl (Nat.le_of_ble_eq_true rfl) rfl rfl (by decide) (by decide) dX5_stretch_10 (fun x10 M' hq => ?_)
  obtain ⟨rfl, rfl⟩ := hq
  refine z_callVi (rest := []) (k' := 0) (n' := 0) C (c_X5_isLet (z_l X) (z_G X) h_m) (cs_X5_59 C (by decide)) h_m rfl rfl rfl rfl (Nat.le_of_ble_eq_true rfl) rfl rfl (by decide) (by decide) dX5_stretch_13 (fun x13 M' hq => ?_)
  obtain ⟨rfl, rfl⟩ := hq
  refine z_if_ne C (tgt := 21) dX5_stretch_16 (by decide) (fun c16 => ?_) (fun c16 => ?_)
  · refine z_aload_n C dX5_stretch_21 rfl 0 rfl ?_
    refine gf_X5_18 C (z_up_s _ _ _) dX5_stretch_22 ?_
    refine z_iload_n C dX5_stretch_25 rfl 1 rfl ?_
    refine z_aaldI (j := i) C ((z_up_n _ _ (z_ne h_pn h_m (by intro h; cases h))).trans h_pn) h_ip h_ij h_fp dX5_stretch_26 ?_
    refine z_iconst C (v := 5) dX5_stretch_27 (by decide) ?_
    refine z_pl5 C ((z_up_n _ _ (z_ne h_p h_m (by intro h; cases h))).trans h_p) dX5_stretch_28 ?_
    refine z_iload_n C dX5_stretch_29 rfl 2 rfl ?_
    refine z_iadd C dX5_stretch_30 ?_
    refine z_istore_n (lv' := [(3, .int (li + bb)), (0, .ref m), (1, .int pane), (2, .int bb)]) C dX5_stretch_31 rfl (by decide) rfl ?_
    refine z_aload_n C dX5_stretch_32 rfl 1 rfl ?_
    refine z_iload_n C dX5_stretch_33 rfl 2 rfl ?_
    refine z_iload_n C dX5_stretch_34 rfl 0 rfl ?_
    refine z_callVi (rest := []) (k' := 0) (n' := 0) C (c_X5_end (z_l X) (z_G X) (z_up_s _ _ _) ((z_up_n _ _ (z_ne h_td h_m (by intro h; cases h))).trans h_td) ((z_up_n _ _ (z_ne h_pn h_m (by intro h; cases h))).trans h_pn) ((z_up_n _ _ (z_ne h_p h_m (by intro h; cases h))).trans h_p) h_ok h_ip h_ij h_fp n_p_td) (cs_X5_85 C (by decide)) (z_up_s _ _ _) rfl rfl rfl rfl (Nat.le_of_ble_eq_true rfl) rfl rfl (by decide) (by decide) dX5_stretch_35 (fun x35 M' hq => ?_)
    obtain ⟨d35_0, d35_1, d35_2, hr35, rfl⟩ | ⟨d35_0, d35_1, d35_2, hr35, rfl⟩ | ⟨d35_0, d35_1, d35_2, hr35, rfl⟩ | ⟨d35_0, d35_1, d35_2, hr35, rfl⟩ | ⟨d35_0, rfl, rfl⟩ := hq
    · rw [hr35]
      rw [z_up_swap _ (z_ne h_m h_p (by intro h; cases h))]
      rw [z_up_up]
      refine z_bipush C (v := (-9)) dX5_stretch_38 (by decide) ?_
      refine z_icmp_ne C (tgt := 48) dX5_stretch_40 (by decide) (fun c40 => ?_) (fun c40 => ?_)
      · refine z_iload_n C dX5_stretch_48 rfl 0 rfl ?_
        exact ret dX5_stretch_49 rfl (Or.inl ⟨c16, d35_0, d35_1, d35_2, c40, rfl, rfl⟩) (by decide) (by decide)
      · refine z_bipush C (v := (-9)) dX5_stretch_43 (by decide) ?_
        refine z_goto C (tgt := 49) dX5_stretch_45 (by decide) ?_
        exact ret dX5_stretch_49 rfl (Or.inr (Or.inl ⟨c16, d35_0, d35_1, d35_2, c40, rfl, rfl⟩)) (by decide) (by decide)
    · rw [hr35]
      rw [z_up_swap _ (z_ne h_m h_p (by intro h; cases h))]
      rw [z_up_up]
      refine z_bipush C (v := (-9)) dX5_stretch_38 (by decide) ?_
      refine z_icmp_ne C (tgt := 48) dX5_stretch_40 (by decide) (fun c40 => ?_) (fun c40 => ?_)
      · refine z_iload_n C dX5_stretch_48 rfl 0 rfl ?_
        exact ret dX5_stretch_49 rfl (Or.inr (Or.inr (Or.inl ⟨c16, d35_0, d35_1, d35_2, c40, rfl, rfl⟩))) (by decide) (by decide)
      · refine z_bipush C (v := (-9)) dX5_stretch_43 (by decide) ?_
        refine z_goto C (tgt := 49) dX5_stretch_45 (by decide) ?_
        exact ret dX5_stretch_49 rfl (Or.inr (Or.inr (Or.inr (Or.inl ⟨c16, d35_0, d35_1, d35_2, c40, rfl, rfl⟩)))) (by decide) (by decide)
    · rw [hr35]
      rw [z_up_swap _ (z_ne h_m h_p (by intro h; cases h))]
      rw [z_up_up]
      refine z_bipush C (v := (-9)) dX5_stretch_38 (by decide) ?_
      refine z_icmp_ne C (tgt := 48) dX5_stretch_40 (by decide) (fun c40 => ?_) (fun c40 => ?_)
      · refine z_iload_n C dX5_stretch_48 rfl 0 rfl ?_
        exact ret dX5_stretch_49 rfl (Or.inr (Or.inr (Or.inr (Or.inr (Or.inl ⟨c16, d35_0, d35_1, d35_2, c40, rfl, rfl⟩))))) (by decide) (by decide)
      · refine z_bipush C (v := (-9)) dX5_stretch_43 (by decide) ?_
        refine z_goto C (tgt := 49) dX5_stretch_45 (by decide) ?_
        exact ret dX5_stretch_49 rfl (Or.inr (Or.inr (Or.inr (Or.inr (Or.inr (Or.inl ⟨c16, d35_0, d35_1, d35_2, c40, rfl, rfl⟩)))))) (by decide) (by decide)
    · rw [hr35]
      rw [z_up_swap _ (z_ne h_m h_p (by intro h; cases h))]
      rw [z_up_up]
      refine z_bipush C (v := (-9)) dX5_stretch_38 (by decide) ?_
      refine z_icmp_ne C (tgt := 48) dX5_stretch_40 (by decide) (fun c40 => ?_) (fun c40 => ?_)
      · refine z_iload_n C dX5_stretch_48 rfl 0 rfl ?_
        exact ret dX5_stretch_49 rfl (Or.inr (Or.inr (Or.inr (Or.inr (Or.inr (Or.inr (Or.inl ⟨c16, d35_0, d35_1, d35_2, c40, rfl, rfl⟩))))))) (by decide) (by decide)
      · refine z_bipush C (v := (-9)) dX5_stretch_43 (by decide) ?_
        refine z_goto C (tgt := 49) dX5_stretch_45 (by decide) ?_
        exact ret dX5_stretch_49 rfl (Or.inr (Or.inr (Or.inr (Or.inr (Or.inr (Or.inr (Or.inr (Or.inl ⟨c16, d35_0, d35_1, d35_2, c40, rfl, rfl⟩)))))))) (by decide) (by decide)
    · rw [z_up_up]
      refine z_bipush C (v := (-9)) dX5_stretch_38 (by decide) ?_
      refine z_icmp_ne C (tgt := 48) dX5_stretch_40 (by decide) (fun c40 => absurd (by decide) c40) (fun _ => ?_)
      refine z_bipush C (v := (-9)) dX5_stretch_43 (by decide) ?_
      refine z_goto C (tgt := 49) dX5_stretch_45 (by decide) ?_
      exact ret dX5_stretch_49 rfl (Or.inr (Or.inr (Or.inr (Or.inr (Or.inr (Or.inr (Or.inr (Or.inr (Or.inl ⟨c16, d35_0, rfl, rfl⟩))))))))) (by decide) (by decide)
  · refine z_iconst C (v := 0) dX5_stretch_19 (by decide) ?_
    exact ret dX5_stretch_20 rfl (Or.inr (Or.inr (Or.inr (Or.inr (Or.inr (Or.inr (Or.inr (Or.inr (Or.inr (⟨c16, rfl, rfl⟩)))))))))) (by decide) (by decide)
set_option maxRecDepth 20000 in
theorem c_X5_mark_bad (l : Launch) (G : zG) {M : zM} {m : Nat} {pane : Int32} {tp : Nat} {nr : Int32} {pn : Nat} {td : Nat} {ac : Int32} {kn : Int32} {th : Int32}  (h_m : M m = some (cMd tp nr pn td ac kn th)) (h_bad : z_is pane 0 5 = 0) : z_Mi l G qX5_mark (z_rm 4 0 0) [.ref m, .int pane] M (fun r M' => r = 0 ∧ M' = z_up M m (cMd tp nr pn td ac kn (z_lt (z_is pane 0 5) 1)))  := by
  refine z_Mi_of _ (plainFor_of_name rfl) rfl (Nat.le_of_ble_eq_true rfl) (fun X hl hG hnm C ret => ?_)
  subst hl; subst hG
  have C : z_C X cX5_mark RX5 2 (z_rm 4 0 0) := C
  show z_W X M 0 0 0 [(0, .ref m), (1, .int pane)] []
  refine z_aload_n C dX5_mark_0 rfl 0 rfl ?_
  refine z_iload_n C dX5_mark_1 rfl 1 rfl ?_
  refine z_callSi (rest := [.ref m]) (k' := 0) (n' := 0) C (c_X5_isPane (z_l X) (z_G X) ) (cs_X5_55 C (by decide)) rfl rfl (Nat.le_of_ble_eq_true rfl) rfl rfl (by decide) (by decide) dX5_mark_2 (fun x2 M' hq => ?_)
  obtain ⟨rfl, rfl⟩ := hq
  refine z_iconst C (v := 1) dX5_mark_5 (by decide) ?_
  refine z_callVi (rest := []) (k' := 0) (n' := 0) C (c_X5_isLet (z_l X) (z_G X) h_m) (cs_X5_59 C (by decide)) h_m rfl rfl rfl rfl (Nat.le_of_ble_eq_true rfl) rfl rfl (by decide) (by decide) dX5_mark_6 (fun x6 M' hq => ?_)
  obtain ⟨rfl, rfl⟩ := hq
  refine z_if_ne C (tgt := 14) dX5_mark_9 (by decide) (fun c9 => absurd (by simp [z_lr, z_lt, h_bad]) c9) (fun _ => ?_)
  refine z_iconst C (v := 0) dX5_mark_12 (by decide) ?_
  exact ret dX5_mark_13 rfl (⟨rfl, rfl⟩) (by decide) (by decide)
set_option maxRecDepth 20000 in
theorem c_X5_mark (l : Launch) (G : zG) {M : zM} {m : Nat} {pane : Int32} {tp : Nat} {nr : Int32} {pn : Nat} {td : Nat} {ac : Int32} {kn : Int32} {th : Int32} {fd : Nat → Int32} {fp : Nat → Option Nat} {p : Nat} {ro : Int32} {ba : Int32} {sa : Int32} {cp : Int32} {po : Int32} {li : Int32} {mk : Int32} {rd : Int32} {i : Nat}  (h_m : M m = some (cMd tp nr pn td ac kn th)) (h_td : M td = some (aI G 6 fd)) (h_pn : M pn = some (aII G 6 fp)) (h_p : M p = some (cPm G ro ba sa cp po li mk rd)) (h_ok : z_is pane 0 5 = 1) (h_ip : vp_in pane 6) (h_ij : pane.toNatClampNeg = i) (h_fp : fp i = some p) (n_p_td : p ≠ td) : z_Mi l G qX5_mark (z_rm 4 0 0) [.ref m, .int pane] M (fun r M' => r = po ∧ M' = z_up (z_up M p (cPm G ro ba sa cp po li po rd)) m (cMd tp nr pn td (ac + 1) kn (z_lt (z_is pane 0 5) 1)))  := by
  refine z_Mi_of _ (plainFor_of_name rfl) rfl (Nat.le_of_ble_eq_true rfl) (fun X hl hG hnm C ret => ?_)
  subst hl; subst hG
  have C : z_C X cX5_mark RX5 2 (z_rm 4 0 0) := C
  show z_W X M 0 0 0 [(0, .ref m), (1, .int pane)] []
  refine z_aload_n C dX5_mark_0 rfl 0 rfl ?_
  refine z_iload_n C dX5_mark_1 rfl 1 rfl ?_
  refine z_callSi (rest := [.ref m]) (k' := 0) (n' := 0) C (c_X5_isPane (z_l X) (z_G X) ) (cs_X5_55 C (by decide)) rfl rfl (Nat.le_of_ble_eq_true rfl) rfl rfl (by decide) (by decide) dX5_mark_2 (fun x2 M' hq => ?_)
  obtain ⟨rfl, rfl⟩ := hq
  refine z_iconst C (v := 1) dX5_mark_5 (by decide) ?_
  refine z_callVi (rest := []) (k' := 0) (n' := 0) C (c_X5_isLet (z_l X) (z_G X) h_m) (cs_X5_59 C (by decide)) h_m rfl rfl rfl rfl (Nat.le_of_ble_eq_true rfl) rfl rfl (by decide) (by decide) dX5_mark_6 (fun x6 M' hq => ?_)
  obtain ⟨rfl, rfl⟩ := hq
  refine z_if_ne C (tgt := 14) dX5_mark_9 (by decide) (fun _ => ?_) (fun c9 => absurd c9 (by simp [z_lr, z_lt, h_ok]))
  refine z_aload_n C dX5_mark_14 rfl 0 rfl ?_
  refine gf_X5_18 C (z_up_s _ _ _) dX5_mark_15 ?_
  refine z_iload_n C dX5_mark_18 rfl 1 rfl ?_
  refine z_aaldI (j := i) C ((z_up_n _ _ (z_ne h_pn h_m (by intro h; cases h))).trans h_pn) h_ip h_ij h_fp dX5_mark_19 ?_
  refine z_bipush C (v := 6) dX5_mark_20 (by decide) ?_
  refine z_aload_n C dX5_mark_22 rfl 0 rfl ?_
  refine gf_X5_18 C (z_up_s _ _ _) dX5_mark_23 ?_
  refine z_iload_n C dX5_mark_26 rfl 1 rfl ?_
  refine z_aaldI (j := i) C ((z_up_n _ _ (z_ne h_pn h_m (by intro h; cases h))).trans h_pn) h_ip h_ij h_fp dX5_mark_27 ?_
  refine z_iconst C (v := 4) dX5_mark_28 (by decide) ?_
  refine z_pl4 C ((z_up_n _ _ (z_ne h_p h_m (by intro h; cases h))).trans h_p) dX5_mark_29 ?_
  refine z_ps6 C ((z_up_n _ _ (z_ne h_p h_m (by intro h; cases h))).trans h_p) dX5_mark_30 ?_
  refine z_aload_n C dX5_mark_31 rfl 0 rfl ?_
  refine z_aload_n C dX5_mark_32 rfl 0 rfl ?_
  refine gf_X5_18 C ((z_up_n _ _ (z_ne h_m h_p (by intro h; cases h))).trans (z_up_s _ _ _)) dX5_mark_33 ?_
  refine z_iload_n C dX5_mark_36 rfl 1 rfl ?_
  refine z_aaldI (j := i) C ((z_up_n _ _ (z_ne h_pn h_p (by intro h; simp at h))).trans ((z_up_n _ _ (z_ne h_pn h_m (by intro h; cases h))).trans h_pn)) h_ip h_ij h_fp dX5_mark_37 ?_
  refine z_bipush C (v := 6) dX5_mark_38 (by decide) ?_
  refine z_pl6 C (z_up_s _ _ _) dX5_mark_40 ?_
  refine z_callVi (rest := []) (k' := 0) (n' := 0) C (c_X5_did (z_l X) (z_G X) ((z_up_n _ _ (z_ne h_m h_p (by intro h; cases h))).trans (z_up_s _ _ _))) (cs_X5_63 C (by decide)) ((z_up_n _ _ (z_ne h_m h_p (by intro h; cases h))).trans (z_up_s _ _ _)) rfl rfl rfl rfl (Nat.le_of_ble_eq_true rfl) rfl rfl (by decide) (by decide) dX5_mark_41 (fun x41 M' hq => ?_)
  obtain ⟨hr41, rfl⟩ := hq
  rw [hr41]
  rw [z_up_swap _ (z_ne h_m h_p (by intro h; cases h))]
  rw [z_up_up]
  exact ret dX5_mark_44 rfl (⟨rfl, rfl⟩) (by decide) (by decide)
set_option maxRecDepth 20000 in
theorem c_X5_back_bad (l : Launch) (G : zG) {M : zM} {m : Nat} {pane : Int32} {tp : Nat} {nr : Int32} {pn : Nat} {td : Nat} {ac : Int32} {kn : Int32} {th : Int32}  (h_m : M m = some (cMd tp nr pn td ac kn th)) (h_bad : z_is pane 0 5 = 0) : z_Mi l G qX5_back (z_rm 4 0 0) [.ref m, .int pane] M (fun r M' => r = 0 ∧ M' = z_up M m (cMd tp nr pn td ac kn (z_lt (z_is pane 0 5) 1)))  := by
  refine z_Mi_of _ (plainFor_of_name rfl) rfl (Nat.le_of_ble_eq_true rfl) (fun X hl hG hnm C ret => ?_)
  subst hl; subst hG
  have C : z_C X cX5_back RX5 4 (z_rm 4 0 0) := C
  show z_W X M 0 0 0 [(0, .ref m), (1, .int pane)] []
  refine z_aload_n C dX5_back_0 rfl 0 rfl ?_
  refine z_iload_n C dX5_back_1 rfl 1 rfl ?_
  refine z_callSi (rest := [.ref m]) (k' := 0) (n' := 0) C (c_X5_isPane (z_l X) (z_G X) ) (cs_X5_55 C (by decide)) rfl rfl (Nat.le_of_ble_eq_true rfl) rfl rfl (by decide) (by decide) dX5_back_2 (fun x2 M' hq => ?_)
  obtain ⟨rfl, rfl⟩ := hq
  refine z_iconst C (v := 1) dX5_back_5 (by decide) ?_
  refine z_callVi (rest := []) (k' := 0) (n' := 0) C (c_X5_isLet (z_l X) (z_G X) h_m) (cs_X5_59 C (by decide)) h_m rfl rfl rfl rfl (Nat.le_of_ble_eq_true rfl) rfl rfl (by decide) (by decide) dX5_back_6 (fun x6 M' hq => ?_)
  obtain ⟨rfl, rfl⟩ := hq
  refine z_if_ne C (tgt := 14) dX5_back_9 (by decide) (fun c9 => absurd (by simp [z_lr, z_lt, h_bad]) c9) (fun _ => ?_)
  refine z_iconst C (v := 0) dX5_back_12 (by decide) ?_
  exact ret dX5_back_13 rfl (⟨rfl, rfl⟩) (by decide) (by decide)
set_option maxRecDepth 20000 in
theorem c_X5_back (l : Launch) (G : zG) {M : zM} {m : Nat} {pane : Int32} {tp : Nat} {nr : Int32} {pn : Nat} {td : Nat} {ac : Int32} {kn : Int32} {th : Int32} {fd : Nat → Int32} {fp : Nat → Option Nat} {p : Nat} {ro : Int32} {ba : Int32} {sa : Int32} {cp : Int32} {po : Int32} {li : Int32} {mk : Int32} {rd : Int32} {i : Nat}  (h_m : M m = some (cMd tp nr pn td ac kn th)) (h_td : M td = some (aI G 6 fd)) (h_pn : M pn = some (aII G 6 fp)) (h_p : M p = some (cPm G ro ba sa cp po li mk rd)) (h_ok : z_is pane 0 5 = 1) (h_ip : vp_in pane 6) (h_ij : pane.toNatClampNeg = i) (h_fp : fp i = some p) (n_p_td : p ≠ td) : z_Mi l G qX5_back (z_rm 4 0 0) [.ref m, .int pane] M (fun r M' => ((¬ mk = (-1)) ∧ r = (po - mk) ∧ M' = z_up (z_up M p (cPm G ro ba sa cp mk li mk rd)) m (cMd tp nr pn td (ac + 1) kn (z_lt (z_is pane 0 5) 1))) ∨ ((mk = (-1)) ∧ r = (-9) ∧ M' = z_up (z_up M m (cMd tp nr pn td ac kn (z_lt (z_is pane 0 5) 1))) td (aI G 6 (upd fd 3 ((fd 3) + 1)))))  := by
  refine z_Mi_of _ (plainFor_of_name rfl) rfl (Nat.le_of_ble_eq_true rfl) (fun X hl hG hnm C ret => ?_)
  subst hl; subst hG
  have C : z_C X cX5_back RX5 4 (z_rm 4 0 0) := C
  show z_W X M 0 0 0 [(0, .ref m), (1, .int pane)] []
  refine z_aload_n C dX5_back_0 rfl 0 rfl ?_
  refine z_iload_n C dX5_back_1 rfl 1 rfl ?_
  refine z_callSi (rest := [.ref m]) (k' := 0) (n' := 0) C (c_X5_isPane (z_l X) (z_G X) ) (cs_X5_55 C (by decide)) rfl rfl (Nat.le_of_ble_eq_true rfl) rfl rfl (by decide) (by decide) dX5_back_2 (fun x2 M' hq => ?_)
  obtain ⟨rfl, rfl⟩ := hq
  refine z_iconst C (v := 1) dX5_back_5 (by decide) ?_
  refine z_callVi (rest := []) (k' := 0) (n' := 0) C (c_X5_isLet (z_l X) (z_G X) h_m) (cs_X5_59 C (by decide)) h_m rfl rfl rfl rfl (Nat.le_of_ble_eq_true rfl) rfl rfl (by decide) (by decide) dX5_back_6 (fun x6 M' hq => ?_)
  obtain ⟨rfl, rfl⟩ := hq
  refine z_if_ne C (tgt := 14) dX5_back_9 (by decide) (fun _ => ?_) (fun c9 => absurd c9 (by simp [z_lr, z_lt, h_ok]))
  refine z_aload_n C dX5_back_14 rfl 0 rfl ?_
  refine gf_X5_18 C (z_up_s _ _ _) dX5_back_15 ?_
  refine z_iload_n C dX5_back_18 rfl 1 rfl ?_
  refine z_aaldI (j := i) C ((z_up_n _ _ (z_ne h_pn h_m (by intro h; cases h))).trans h_pn) h_ip h_ij h_fp dX5_back_19 ?_
  refine z_astore_n (lv' := [(2, .ref p), (0, .ref m), (1, .int pane)]) C dX5_back_20 rfl (by decide) rfl ?_
  refine z_aload_n C dX5_back_21 rfl 0 rfl ?_
  refine z_bipush C (v := 6) dX5_back_22 (by decide) ?_
  refine z_pl6 C ((z_up_n _ _ (z_ne h_p h_m (by intro h; cases h))).trans h_p) dX5_back_24 ?_
  refine z_iconst C (v := (-1)) dX5_back_25 (by decide) ?_
  refine z_icmp_ne C (tgt := 35) dX5_back_26 (by decide) (fun c26 => ?_) (fun c26 => ?_)
  · refine z_aload_n C dX5_back_35 rfl 0 rfl ?_
    refine z_iconst C (v := 4) dX5_back_36 (by decide) ?_
    refine z_pl4 C ((z_up_n _ _ (z_ne h_p h_m (by intro h; cases h))).trans h_p) dX5_back_37 ?_
    refine z_aload_n C dX5_back_38 rfl 0 rfl ?_
    refine z_bipush C (v := 6) dX5_back_39 (by decide) ?_
    refine z_pl6 C ((z_up_n _ _ (z_ne h_p h_m (by intro h; cases h))).trans h_p) dX5_back_41 ?_
    refine z_isub C dX5_back_42 ?_
    refine z_istore_n (lv' := [(3, .int (po - mk)), (2, .ref p), (0, .ref m), (1, .int pane)]) C dX5_back_43 rfl (by decide) rfl ?_
    refine z_aload_n C dX5_back_44 rfl 1 rfl ?_
    refine z_iconst C (v := 4) dX5_back_45 (by decide) ?_
    refine z_aload_n C dX5_back_46 rfl 1 rfl ?_
    refine z_bipush C (v := 6) dX5_back_47 (by decide) ?_
    refine z_pl6 C ((z_up_n _ _ (z_ne h_p h_m (by intro h; cases h))).trans h_p) dX5_back_49 ?_
    refine z_ps4 C ((z_up_n _ _ (z_ne h_p h_m (by intro h; cases h))).trans h_p) dX5_back_50 ?_
    refine z_aload_n C dX5_back_51 rfl 2 rfl ?_
    refine z_iload_n C dX5_back_52 rfl 0 rfl ?_
    refine z_callVi (rest := []) (k' := 0) (n' := 0) C (c_X5_did (z_l X) (z_G X) ((z_up_n _ _ (z_ne h_m h_p (by intro h; cases h))).trans (z_up_s _ _ _))) (cs_X5_63 C (by decide)) ((z_up_n _ _ (z_ne h_m h_p (by intro h; cases h))).trans (z_up_s _ _ _)) rfl rfl rfl rfl (Nat.le_of_ble_eq_true rfl) rfl rfl (by decide) (by decide) dX5_back_53 (fun x53 M' hq => ?_)
    obtain ⟨rfl, rfl⟩ := hq
    rw [z_up_swap _ (z_ne h_m h_p (by intro h; cases h))]
    rw [z_up_up]
    exact ret dX5_back_56 rfl (Or.inl ⟨c26, rfl, rfl⟩) (by decide) (by decide)
  · refine z_aload_n C dX5_back_29 rfl 1 rfl ?_
    refine z_iconst C (v := 3) dX5_back_30 (by decide) ?_
    refine z_callVi (rest := []) (k' := 0) (n' := 0) C (c_X5_refuse (z_l X) (z_G X) (z_up_s _ _ _) ((z_up_n _ _ (z_ne h_td h_m (by intro h; cases h))).trans h_td) (z_inL (by decide)) (show (3 : Int32).toNatClampNeg = 3 by decide)) (cs_X5_47 C (by decide)) (z_up_s _ _ _) rfl rfl rfl rfl (Nat.le_of_ble_eq_true rfl) rfl rfl (by decide) (by decide) dX5_back_31 (fun x31 M' hq => ?_)
    obtain ⟨rfl, rfl⟩ := hq
    exact ret dX5_back_34 rfl (Or.inr (⟨c26, rfl, rfl⟩)) (by decide) (by decide)
set_option maxRecDepth 20000 in
theorem c_X5_clear_bad (l : Launch) (G : zG) {M : zM} {m : Nat} {pane : Int32} {tp : Nat} {nr : Int32} {pn : Nat} {td : Nat} {ac : Int32} {kn : Int32} {th : Int32}  (h_m : M m = some (cMd tp nr pn td ac kn th)) (h_bad : z_is pane 0 5 = 0) : z_Mi l G qX5_clear (z_rm 4 0 0) [.ref m, .int pane] M (fun r M' => r = 0 ∧ M' = z_up M m (cMd tp nr pn td ac kn (z_lt (z_is pane 0 5) 1)))  := by
  refine z_Mi_of _ (plainFor_of_name rfl) rfl (Nat.le_of_ble_eq_true rfl) (fun X hl hG hnm C ret => ?_)
  subst hl; subst hG
  have C : z_C X cX5_clear RX5 2 (z_rm 4 0 0) := C
  show z_W X M 0 0 0 [(0, .ref m), (1, .int pane)] []
  refine z_aload_n C dX5_clear_0 rfl 0 rfl ?_
  refine z_iload_n C dX5_clear_1 rfl 1 rfl ?_
  refine z_callSi (rest := [.ref m]) (k' := 0) (n' := 0) C (c_X5_isPane (z_l X) (z_G X) ) (cs_X5_55 C (by decide)) rfl rfl (Nat.le_of_ble_eq_true rfl) rfl rfl (by decide) (by decide) dX5_clear_2 (fun x2 M' hq => ?_)
  obtain ⟨rfl, rfl⟩ := hq
  refine z_iconst C (v := 1) dX5_clear_5 (by decide) ?_
  refine z_callVi (rest := []) (k' := 0) (n' := 0) C (c_X5_isLet (z_l X) (z_G X) h_m) (cs_X5_59 C (by decide)) h_m rfl rfl rfl rfl (Nat.le_of_ble_eq_true rfl) rfl rfl (by decide) (by decide) dX5_clear_6 (fun x6 M' hq => ?_)
  obtain ⟨rfl, rfl⟩ := hq
  refine z_if_eq C (tgt := 34) dX5_clear_9 (by decide) (fun _ => ?_) (fun c9 => absurd (by simp [z_lr, z_lt, h_bad]) c9)
  refine z_iconst C (v := 0) dX5_clear_34 (by decide) ?_
  exact ret dX5_clear_35 rfl (⟨rfl, rfl⟩) (by decide) (by decide)
set_option maxRecDepth 20000 in
theorem c_X5_clear (l : Launch) (G : zG) {M : zM} {m : Nat} {pane : Int32} {tp : Nat} {nr : Int32} {pn : Nat} {td : Nat} {ac : Int32} {kn : Int32} {th : Int32} {fd : Nat → Int32} {fp : Nat → Option Nat} {p : Nat} {ro : Int32} {ba : Int32} {sa : Int32} {cp : Int32} {po : Int32} {li : Int32} {mk : Int32} {rd : Int32} {i : Nat}  (h_m : M m = some (cMd tp nr pn td ac kn th)) (h_td : M td = some (aI G 6 fd)) (h_pn : M pn = some (aII G 6 fp)) (h_p : M p = some (cPm G ro ba sa cp po li mk rd)) (h_ok : z_is pane 0 5 = 1) (h_ip : vp_in pane 6) (h_ij : pane.toNatClampNeg = i) (h_fp : fp i = some p) (n_p_td : p ≠ td) : z_Mi l G qX5_clear (z_rm 4 0 0) [.ref m, .int pane] M (fun r M' => r = (cp - 0) ∧ M' = z_up (z_up M p (cPm G ro ba sa cp 0 cp (-1) rd)) m (cMd tp nr pn td (ac + 1) kn (z_lt (z_is pane 0 5) 1)))  := by
  refine z_Mi_of _ (plainFor_of_name rfl) rfl (Nat.le_of_ble_eq_true rfl) (fun X hl hG hnm C ret => ?_)
  subst hl; subst hG
  have C : z_C X cX5_clear RX5 2 (z_rm 4 0 0) := C
  show z_W X M 0 0 0 [(0, .ref m), (1, .int pane)] []
  refine z_aload_n C dX5_clear_0 rfl 0 rfl ?_
  refine z_iload_n C dX5_clear_1 rfl 1 rfl ?_
  refine z_callSi (rest := [.ref m]) (k' := 0) (n' := 0) C (c_X5_isPane (z_l X) (z_G X) ) (cs_X5_55 C (by decide)) rfl rfl (Nat.le_of_ble_eq_true rfl) rfl rfl (by decide) (by decide) dX5_clear_2 (fun x2 M' hq => ?_)
  obtain ⟨rfl, rfl⟩ := hq
  refine z_iconst C (v := 1) dX5_clear_5 (by decide) ?_
  refine z_callVi (rest := []) (k' := 0) (n' := 0) C (c_X5_isLet (z_l X) (z_G X) h_m) (cs_X5_59 C (by decide)) h_m rfl rfl rfl rfl (Nat.le_of_ble_eq_true rfl) rfl rfl (by decide) (by decide) dX5_clear_6 (fun x6 M' hq => ?_)
  obtain ⟨rfl, rfl⟩ := hq
  refine z_if_eq C (tgt := 34) dX5_clear_9 (by decide) (fun c9 => absurd c9 (by simp [z_lr, z_lt, h_ok])) (fun _ => ?_)
  refine z_aload_n C dX5_clear_12 rfl 0 rfl ?_
  refine z_aload_n C dX5_clear_13 rfl 0 rfl ?_
  refine gf_X5_18 C (z_up_s _ _ _) dX5_clear_14 ?_
  refine z_iload_n C dX5_clear_17 rfl 1 rfl ?_
  refine z_aaldI (j := i) C ((z_up_n _ _ (z_ne h_pn h_m (by intro h; cases h))).trans h_pn) h_ip h_ij h_fp dX5_clear_18 ?_
  refine z_iconst C (v := 0) dX5_clear_19 (by decide) ?_
  refine z_aload_n C dX5_clear_20 rfl 0 rfl ?_
  refine gf_X5_18 C (z_up_s _ _ _) dX5_clear_21 ?_
  refine z_iload_n C dX5_clear_24 rfl 1 rfl ?_
  refine z_aaldI (j := i) C ((z_up_n _ _ (z_ne h_pn h_m (by intro h; cases h))).trans h_pn) h_ip h_ij h_fp dX5_clear_25 ?_
  refine z_iconst C (v := 3) dX5_clear_26 (by decide) ?_
  refine z_pl3 C ((z_up_n _ _ (z_ne h_p h_m (by intro h; cases h))).trans h_p) dX5_clear_27 ?_
  refine z_callVi (rest := []) (k' := 0) (n' := 0) C (c_X5_begun (z_l X) (z_G X) (z_up_s _ _ _) ((z_up_n _ _ (z_ne h_p h_m (by intro h; cases h))).trans h_p)) (cs_X5_88 C (by decide)) (z_up_s _ _ _) rfl rfl rfl rfl (Nat.le_of_ble_eq_true rfl) rfl rfl (by decide) (by decide) dX5_clear_28 (fun x28 M' hq => ?_)
  obtain ⟨rfl, rfl⟩ := hq
  rw [z_up_swap _ (z_ne h_m h_p (by intro h; cases h))]
  rw [z_up_up]
  refine z_goto C (tgt := 35) dX5_clear_31 (by decide) ?_
  exact ret dX5_clear_35 rfl (⟨rfl, rfl⟩) (by decide) (by decide)
set_option maxRecDepth 20000 in
theorem c_X5_flip_bad (l : Launch) (G : zG) {M : zM} {m : Nat} {pane : Int32} {tp : Nat} {nr : Int32} {pn : Nat} {td : Nat} {ac : Int32} {kn : Int32} {th : Int32}  (h_m : M m = some (cMd tp nr pn td ac kn th)) (h_bad : z_is pane 0 5 = 0) : z_Mi l G qX5_flip (z_rm 4 0 0) [.ref m, .int pane] M (fun r M' => r = 0 ∧ M' = z_up M m (cMd tp nr pn td ac kn (z_lt (z_is pane 0 5) 1)))  := by
  refine z_Mi_of _ (plainFor_of_name rfl) rfl (Nat.le_of_ble_eq_true rfl) (fun X hl hG hnm C ret => ?_)
  subst hl; subst hG
  have C : z_C X cX5_flip RX5 2 (z_rm 4 0 0) := C
  show z_W X M 0 0 0 [(0, .ref m), (1, .int pane)] []
  refine z_aload_n C dX5_flip_0 rfl 0 rfl ?_
  refine z_iload_n C dX5_flip_1 rfl 1 rfl ?_
  refine z_callSi (rest := [.ref m]) (k' := 0) (n' := 0) C (c_X5_isPane (z_l X) (z_G X) ) (cs_X5_55 C (by decide)) rfl rfl (Nat.le_of_ble_eq_true rfl) rfl rfl (by decide) (by decide) dX5_flip_2 (fun x2 M' hq => ?_)
  obtain ⟨rfl, rfl⟩ := hq
  refine z_iconst C (v := 1) dX5_flip_5 (by decide) ?_
  refine z_callVi (rest := []) (k' := 0) (n' := 0) C (c_X5_isLet (z_l X) (z_G X) h_m) (cs_X5_59 C (by decide)) h_m rfl rfl rfl rfl (Nat.le_of_ble_eq_true rfl) rfl rfl (by decide) (by decide) dX5_flip_6 (fun x6 M' hq => ?_)
  obtain ⟨rfl, rfl⟩ := hq
  refine z_if_eq C (tgt := 34) dX5_flip_9 (by decide) (fun _ => ?_) (fun c9 => absurd (by simp [z_lr, z_lt, h_bad]) c9)
  refine z_iconst C (v := 0) dX5_flip_34 (by decide) ?_
  exact ret dX5_flip_35 rfl (⟨rfl, rfl⟩) (by decide) (by decide)
set_option maxRecDepth 20000 in
theorem c_X5_flip (l : Launch) (G : zG) {M : zM} {m : Nat} {pane : Int32} {tp : Nat} {nr : Int32} {pn : Nat} {td : Nat} {ac : Int32} {kn : Int32} {th : Int32} {fd : Nat → Int32} {fp : Nat → Option Nat} {p : Nat} {ro : Int32} {ba : Int32} {sa : Int32} {cp : Int32} {po : Int32} {li : Int32} {mk : Int32} {rd : Int32} {i : Nat}  (h_m : M m = some (cMd tp nr pn td ac kn th)) (h_td : M td = some (aI G 6 fd)) (h_pn : M pn = some (aII G 6 fp)) (h_p : M p = some (cPm G ro ba sa cp po li mk rd)) (h_ok : z_is pane 0 5 = 1) (h_ip : vp_in pane 6) (h_ij : pane.toNatClampNeg = i) (h_fp : fp i = some p) (n_p_td : p ≠ td) : z_Mi l G qX5_flip (z_rm 4 0 0) [.ref m, .int pane] M (fun r M' => r = (po - 0) ∧ M' = z_up (z_up M p (cPm G ro ba sa cp 0 po (-1) rd)) m (cMd tp nr pn td (ac + 1) kn (z_lt (z_is pane 0 5) 1)))  := by
  refine z_Mi_of _ (plainFor_of_name rfl) rfl (Nat.le_of_ble_eq_true rfl) (fun X hl hG hnm C ret => ?_)
  subst hl; subst hG
  have C : z_C X cX5_flip RX5 2 (z_rm 4 0 0) := C
  show z_W X M 0 0 0 [(0, .ref m), (1, .int pane)] []
  refine z_aload_n C dX5_flip_0 rfl 0 rfl ?_
  refine z_iload_n C dX5_flip_1 rfl 1 rfl ?_
  refine z_callSi (rest := [.ref m]) (k' := 0) (n' := 0) C (c_X5_isPane (z_l X) (z_G X) ) (cs_X5_55 C (by decide)) rfl rfl (Nat.le_of_ble_eq_true rfl) rfl rfl (by decide) (by decide) dX5_flip_2 (fun x2 M' hq => ?_)
  obtain ⟨rfl, rfl⟩ := hq
  refine z_iconst C (v := 1) dX5_flip_5 (by decide) ?_
  refine z_callVi (rest := []) (k' := 0) (n' := 0) C (c_X5_isLet (z_l X) (z_G X) h_m) (cs_X5_59 C (by decide)) h_m rfl rfl rfl rfl (Nat.le_of_ble_eq_true rfl) rfl rfl (by decide) (by decide) dX5_flip_6 (fun x6 M' hq => ?_)
  obtain ⟨rfl, rfl⟩ := hq
  refine z_if_eq C (tgt := 34) dX5_flip_9 (by decide) (fun c9 => absurd c9 (by simp [z_lr, z_lt, h_ok])) (fun _ => ?_)
  refine z_aload_n C dX5_flip_12 rfl 0 rfl ?_
  refine z_aload_n C dX5_flip_13 rfl 0 rfl ?_
  refine gf_X5_18 C (z_up_s _ _ _) dX5_flip_14 ?_
  refine z_iload_n C dX5_flip_17 rfl 1 rfl ?_
  refine z_aaldI (j := i) C ((z_up_n _ _ (z_ne h_pn h_m (by intro h; cases h))).trans h_pn) h_ip h_ij h_fp dX5_flip_18 ?_
  refine z_iconst C (v := 0) dX5_flip_19 (by decide) ?_
  refine z_aload_n C dX5_flip_20 rfl 0 rfl ?_
  refine gf_X5_18 C (z_up_s _ _ _) dX5_flip_21 ?_
  refine z_iload_n C dX5_flip_24 rfl 1 rfl ?_
  refine z_aaldI (j := i) C ((z_up_n _ _ (z_ne h_pn h_m (by intro h; cases h))).trans h_pn) h_ip h_ij h_fp dX5_flip_25 ?_
  refine z_iconst C (v := 4) dX5_flip_26 (by decide) ?_
  refine z_pl4 C ((z_up_n _ _ (z_ne h_p h_m (by intro h; cases h))).trans h_p) dX5_flip_27 ?_
  refine z_callVi (rest := []) (k' := 0) (n' := 0) C (c_X5_begun (z_l X) (z_G X) (z_up_s _ _ _) ((z_up_n _ _ (z_ne h_p h_m (by intro h; cases h))).trans h_p)) (cs_X5_88 C (by decide)) (z_up_s _ _ _) rfl rfl rfl rfl (Nat.le_of_ble_eq_true rfl) rfl rfl (by decide) (by decide) dX5_flip_28 (fun x28 M' hq => ?_)
  obtain ⟨rfl, rfl⟩ := hq
  rw [z_up_swap _ (z_ne h_m h_p (by intro h; cases h))]
  rw [z_up_up]
  refine z_goto C (tgt := 35) dX5_flip_31 (by decide) ?_
  exact ret dX5_flip_35 rfl (⟨rfl, rfl⟩) (by decide) (by decide)
set_option maxRecDepth 20000 in
theorem c_X5_rewind_bad (l : Launch) (G : zG) {M : zM} {m : Nat} {pane : Int32} {tp : Nat} {nr : Int32} {pn : Nat} {td : Nat} {ac : Int32} {kn : Int32} {th : Int32}  (h_m : M m = some (cMd tp nr pn td ac kn th)) (h_bad : z_is pane 0 5 = 0) : z_Mi l G qX5_rewind (z_rm 4 0 0) [.ref m, .int pane] M (fun r M' => r = 0 ∧ M' = z_up M m (cMd tp nr pn td ac kn (z_lt (z_is pane 0 5) 1)))  := by
  refine z_Mi_of _ (plainFor_of_name rfl) rfl (Nat.le_of_ble_eq_true rfl) (fun X hl hG hnm C ret => ?_)
  subst hl; subst hG
  have C : z_C X cX5_rewind RX5 2 (z_rm 4 0 0) := C
  show z_W X M 0 0 0 [(0, .ref m), (1, .int pane)] []
  refine z_aload_n C dX5_rewind_0 rfl 0 rfl ?_
  refine z_iload_n C dX5_rewind_1 rfl 1 rfl ?_
  refine z_callSi (rest := [.ref m]) (k' := 0) (n' := 0) C (c_X5_isPane (z_l X) (z_G X) ) (cs_X5_55 C (by decide)) rfl rfl (Nat.le_of_ble_eq_true rfl) rfl rfl (by decide) (by decide) dX5_rewind_2 (fun x2 M' hq => ?_)
  obtain ⟨rfl, rfl⟩ := hq
  refine z_iconst C (v := 1) dX5_rewind_5 (by decide) ?_
  refine z_callVi (rest := []) (k' := 0) (n' := 0) C (c_X5_isLet (z_l X) (z_G X) h_m) (cs_X5_59 C (by decide)) h_m rfl rfl rfl rfl (Nat.le_of_ble_eq_true rfl) rfl rfl (by decide) (by decide) dX5_rewind_6 (fun x6 M' hq => ?_)
  obtain ⟨rfl, rfl⟩ := hq
  refine z_if_eq C (tgt := 34) dX5_rewind_9 (by decide) (fun _ => ?_) (fun c9 => absurd (by simp [z_lr, z_lt, h_bad]) c9)
  refine z_iconst C (v := 0) dX5_rewind_34 (by decide) ?_
  exact ret dX5_rewind_35 rfl (⟨rfl, rfl⟩) (by decide) (by decide)
set_option maxRecDepth 20000 in
theorem c_X5_rewind (l : Launch) (G : zG) {M : zM} {m : Nat} {pane : Int32} {tp : Nat} {nr : Int32} {pn : Nat} {td : Nat} {ac : Int32} {kn : Int32} {th : Int32} {fd : Nat → Int32} {fp : Nat → Option Nat} {p : Nat} {ro : Int32} {ba : Int32} {sa : Int32} {cp : Int32} {po : Int32} {li : Int32} {mk : Int32} {rd : Int32} {i : Nat}  (h_m : M m = some (cMd tp nr pn td ac kn th)) (h_td : M td = some (aI G 6 fd)) (h_pn : M pn = some (aII G 6 fp)) (h_p : M p = some (cPm G ro ba sa cp po li mk rd)) (h_ok : z_is pane 0 5 = 1) (h_ip : vp_in pane 6) (h_ij : pane.toNatClampNeg = i) (h_fp : fp i = some p) (n_p_td : p ≠ td) : z_Mi l G qX5_rewind (z_rm 4 0 0) [.ref m, .int pane] M (fun r M' => r = (li - 0) ∧ M' = z_up (z_up M p (cPm G ro ba sa cp 0 li (-1) rd)) m (cMd tp nr pn td (ac + 1) kn (z_lt (z_is pane 0 5) 1)))  := by
  refine z_Mi_of _ (plainFor_of_name rfl) rfl (Nat.le_of_ble_eq_true rfl) (fun X hl hG hnm C ret => ?_)
  subst hl; subst hG
  have C : z_C X cX5_rewind RX5 2 (z_rm 4 0 0) := C
  show z_W X M 0 0 0 [(0, .ref m), (1, .int pane)] []
  refine z_aload_n C dX5_rewind_0 rfl 0 rfl ?_
  refine z_iload_n C dX5_rewind_1 rfl 1 rfl ?_
  refine z_callSi (rest := [.ref m]) (k' := 0) (n' := 0) C (c_X5_isPane (z_l X) (z_G X) ) (cs_X5_55 C (by decide)) rfl rfl (Nat.le_of_ble_eq_true rfl) rfl rfl (by decide) (by decide) dX5_rewind_2 (fun x2 M' hq => ?_)
  obtain ⟨rfl, rfl⟩ := hq
  refine z_iconst C (v := 1) dX5_rewind_5 (by decide) ?_
  refine z_callVi (rest := []) (k' := 0) (n' := 0) C (c_X5_isLet (z_l X) (z_G X) h_m) (cs_X5_59 C (by decide)) h_m rfl rfl rfl rfl (Nat.le_of_ble_eq_true rfl) rfl rfl (by decide) (by decide) dX5_rewind_6 (fun x6 M' hq => ?_)
  obtain ⟨rfl, rfl⟩ := hq
  refine z_if_eq C (tgt := 34) dX5_rewind_9 (by decide) (fun c9 => absurd c9 (by simp [z_lr, z_lt, h_ok])) (fun _ => ?_)
  refine z_aload_n C dX5_rewind_12 rfl 0 rfl ?_
  refine z_aload_n C dX5_rewind_13 rfl 0 rfl ?_
  refine gf_X5_18 C (z_up_s _ _ _) dX5_rewind_14 ?_
  refine z_iload_n C dX5_rewind_17 rfl 1 rfl ?_
  refine z_aaldI (j := i) C ((z_up_n _ _ (z_ne h_pn h_m (by intro h; cases h))).trans h_pn) h_ip h_ij h_fp dX5_rewind_18 ?_
  refine z_iconst C (v := 0) dX5_rewind_19 (by decide) ?_
  refine z_aload_n C dX5_rewind_20 rfl 0 rfl ?_
  refine gf_X5_18 C (z_up_s _ _ _) dX5_rewind_21 ?_
  refine z_iload_n C dX5_rewind_24 rfl 1 rfl ?_
  refine z_aaldI (j := i) C ((z_up_n _ _ (z_ne h_pn h_m (by intro h; cases h))).trans h_pn) h_ip h_ij h_fp dX5_rewind_25 ?_
  refine z_iconst C (v := 5) dX5_rewind_26 (by decide) ?_
  refine z_pl5 C ((z_up_n _ _ (z_ne h_p h_m (by intro h; cases h))).trans h_p) dX5_rewind_27 ?_
  refine z_callVi (rest := []) (k' := 0) (n' := 0) C (c_X5_begun (z_l X) (z_G X) (z_up_s _ _ _) ((z_up_n _ _ (z_ne h_p h_m (by intro h; cases h))).trans h_p)) (cs_X5_88 C (by decide)) (z_up_s _ _ _) rfl rfl rfl rfl (Nat.le_of_ble_eq_true rfl) rfl rfl (by decide) (by decide) dX5_rewind_28 (fun x28 M' hq => ?_)
  obtain ⟨rfl, rfl⟩ := hq
  rw [z_up_swap _ (z_ne h_m h_p (by intro h; cases h))]
  rw [z_up_up]
  refine z_goto C (tgt := 35) dX5_rewind_31 (by decide) ?_
  exact ret dX5_rewind_35 rfl (⟨rfl, rfl⟩) (by decide) (by decide)
set_option maxRecDepth 20000 in
theorem c_X5_putAt_bad (l : Launch) (G : zG) {M : zM} {m : Nat} {pane : Int32} {ix : Int32} {v : Int32} {tp : Nat} {nr : Int32} {pn : Nat} {td : Nat} {ac : Int32} {kn : Int32} {th : Int32}  (h_m : M m = some (cMd tp nr pn td ac kn th)) (h_bad : z_is pane 0 5 = 0) : z_Mi l G qX5_putAt (z_rm 4 0 0) [.ref m, .int pane, .int ix, .int v] M (fun r M' => ((v < 0) ∧ r = 0 ∧ M' = z_up M m (cMd tp nr pn td ac kn (z_lt (z_is pane 0 5) 0))) ∨ ((¬ v < 0) ∧ r = 0 ∧ M' = z_up M m (cMd tp nr pn td ac kn (z_lt (z_is pane 0 5) 1))))  := by
  refine z_Mi_of _ (plainFor_of_name rfl) rfl (Nat.le_of_ble_eq_true rfl) (fun X hl hG hnm C ret => ?_)
  subst hl; subst hG
  have C : z_C X cX5_putAt RX5 5 (z_rm 4 0 0) := C
  show z_W X M 0 0 0 [(0, .ref m), (1, .int pane), (2, .int ix), (3, .int v)] []
  refine z_aload_n C dX5_putAt_0 rfl 0 rfl ?_
  refine z_iload_n C dX5_putAt_1 rfl 1 rfl ?_
  refine z_callSi (rest := [.ref m]) (k' := 0) (n' := 0) C (c_X5_isPane (z_l X) (z_G X) ) (cs_X5_55 C (by decide)) rfl rfl (Nat.le_of_ble_eq_true rfl) rfl rfl (by decide) (by decide) dX5_putAt_2 (fun x2 M' hq => ?_)
  obtain ⟨rfl, rfl⟩ := hq
  refine z_iload_n C dX5_putAt_5 rfl 3 rfl ?_
  refine z_if_lt C (tgt := 13) dX5_putAt_6 (by decide) (fun c6 => ?_) (fun c6 => ?_)
  · refine z_iconst C (v := 0) dX5_putAt_13 (by decide) ?_
    refine z_callVi (rest := []) (k' := 0) (n' := 0) C (c_X5_isLet (z_l X) (z_G X) h_m) (cs_X5_59 C (by decide)) h_m rfl rfl rfl rfl (Nat.le_of_ble_eq_true rfl) rfl rfl (by decide) (by decide) dX5_putAt_14 (fun x14 M' hq => ?_)
    obtain ⟨rfl, rfl⟩ := hq
    refine z_if_ne C (tgt := 22) dX5_putAt_17 (by decide) (fun c17 => absurd (by simp [z_lr, z_lt, h_bad]) c17) (fun _ => ?_)
    refine z_iconst C (v := 0) dX5_putAt_20 (by decide) ?_
    exact ret dX5_putAt_21 rfl (Or.inl ⟨c6, rfl, rfl⟩) (by decide) (by decide)
  · refine z_iconst C (v := 1) dX5_putAt_9 (by decide) ?_
    refine z_goto C (tgt := 14) dX5_putAt_10 (by decide) ?_
    refine z_callVi (rest := []) (k' := 0) (n' := 0) C (c_X5_isLet (z_l X) (z_G X) h_m) (cs_X5_59 C (by decide)) h_m rfl rfl rfl rfl (Nat.le_of_ble_eq_true rfl) rfl rfl (by decide) (by decide) dX5_putAt_14 (fun x14 M' hq => ?_)
    obtain ⟨rfl, rfl⟩ := hq
    refine z_if_ne C (tgt := 22) dX5_putAt_17 (by decide) (fun c17 => absurd (by simp [z_lr, z_lt, h_bad]) c17) (fun _ => ?_)
    refine z_iconst C (v := 0) dX5_putAt_20 (by decide) ?_
    exact ret dX5_putAt_21 rfl (Or.inr (⟨c6, rfl, rfl⟩)) (by decide) (by decide)
set_option maxRecDepth 20000 in
theorem c_X5_putAt (l : Launch) (G : zG) {M : zM} {m : Nat} {pane : Int32} {ix : Int32} {v : Int32} {tp : Nat} {nr : Int32} {pn : Nat} {td : Nat} {ac : Int32} {kn : Int32} {th : Int32} {fd : Nat → Int32} {nt : Nat} {ft : Nat → Int32} {fp : Nat → Option Nat} {p : Nat} {ro : Int32} {ba : Int32} {sa : Int32} {cp : Int32} {po : Int32} {li : Int32} {mk : Int32} {rd : Int32} {i : Nat}  (h_m : M m = some (cMd tp nr pn td ac kn th)) (h_td : M td = some (aI G 6 fd)) (h_tp : M tp = some (aI G nt ft)) (h_pn : M pn = some (aII G 6 fp)) (h_p : M p = some (cPm G ro ba sa cp po li mk rd)) (h_ok : z_is pane 0 5 = 1) (h_ip : vp_in pane 6) (h_ij : pane.toNatClampNeg = i) (h_fp : fp i = some p) (n_p_tp : p ≠ tp) (n_p_td : p ≠ td) (n_td_tp : td ≠ tp) (h_or : z_or ba sa cp po li nt) : z_Mi l G qX5_putAt (z_rm 4 0 0) [.ref m, .int pane, .int ix, .int v] M (fun r M' => ((v < 0) ∧ r = 0 ∧ M' = z_up M m (cMd tp nr pn td ac kn (z_lt (z_is pane 0 5) 0))) ∨ ((¬ v < 0) ∧ (¬ (z_is ix 0 (li - 1)) = 0) ∧ (¬ rd = 1) ∧ r = (ft ((ba + sa) + ix).toNatClampNeg) ∧ M' = z_up (z_up M tp (aI G nt (upd ft ((ba + sa) + ix).toNatClampNeg v))) m (cMd tp nr pn td (ac + 1) kn (z_lt (z_is pane 0 5) 1))) ∨ ((¬ v < 0) ∧ (¬ (z_is ix 0 (li - 1)) = 0) ∧ (rd = 1) ∧ r = (-9) ∧ M' = z_up (z_up M m (cMd tp nr pn td ac kn (z_lt (z_is pane 0 5) 1))) td (aI G 6 (upd fd 4 ((fd 4) + 1)))) ∨ ((¬ v < 0) ∧ ((z_is ix 0 (li - 1)) = 0) ∧ r = (-9) ∧ M' = z_up (z_up M m (cMd tp nr pn td ac kn (z_lt (z_is pane 0 5) 1))) td (aI G 6 (upd fd 5 ((fd 5) + 1)))))  := by
  refine z_Mi_of _ (plainFor_of_name rfl) rfl (Nat.le_of_ble_eq_true rfl) (fun X hl hG hnm C ret => ?_)
  subst hl; subst hG
  have C : z_C X cX5_putAt RX5 5 (z_rm 4 0 0) := C
  show z_W X M 0 0 0 [(0, .ref m), (1, .int pane), (2, .int ix), (3, .int v)] []
  refine z_aload_n C dX5_putAt_0 rfl 0 rfl ?_
  refine z_iload_n C dX5_putAt_1 rfl 1 rfl ?_
  refine z_callSi (rest := [.ref m]) (k' := 0) (n' := 0) C (c_X5_isPane (z_l X) (z_G X) ) (cs_X5_55 C (by decide)) rfl rfl (Nat.le_of_ble_eq_true rfl) rfl rfl (by decide) (by decide) dX5_putAt_2 (fun x2 M' hq => ?_)
  obtain ⟨rfl, rfl⟩ := hq
  refine z_iload_n C dX5_putAt_5 rfl 3 rfl ?_
  refine z_if_lt C (tgt := 13) dX5_putAt_6 (by decide) (fun c6 => ?_) (fun c6 => ?_)
  · refine z_iconst C (v := 0) dX5_putAt_13 (by decide) ?_
    refine z_callVi (rest := []) (k' := 0) (n' := 0) C (c_X5_isLet (z_l X) (z_G X) h_m) (cs_X5_59 C (by decide)) h_m rfl rfl rfl rfl (Nat.le_of_ble_eq_true rfl) rfl rfl (by decide) (by decide) dX5_putAt_14 (fun x14 M' hq => ?_)
    obtain ⟨rfl, rfl⟩ := hq
    refine z_if_ne C (tgt := 22) dX5_putAt_17 (by decide) (fun c17 => absurd (by simp [z_lr, z_lt, h_ok]) c17) (fun _ => ?_)
    refine z_iconst C (v := 0) dX5_putAt_20 (by decide) ?_
    exact ret dX5_putAt_21 rfl (Or.inl ⟨c6, rfl, rfl⟩) (by decide) (by decide)
  · refine z_iconst C (v := 1) dX5_putAt_9 (by decide) ?_
    refine z_goto C (tgt := 14) dX5_putAt_10 (by decide) ?_
    refine z_callVi (rest := []) (k' := 0) (n' := 0) C (c_X5_isLet (z_l X) (z_G X) h_m) (cs_X5_59 C (by decide)) h_m rfl rfl rfl rfl (Nat.le_of_ble_eq_true rfl) rfl rfl (by decide) (by decide) dX5_putAt_14 (fun x14 M' hq => ?_)
    obtain ⟨rfl, rfl⟩ := hq
    refine z_if_ne C (tgt := 22) dX5_putAt_17 (by decide) (fun _ => ?_) (fun c17 => absurd c17 (by simp [z_lr, z_lt, h_ok]))
    refine z_aload_n C dX5_putAt_22 rfl 0 rfl ?_
    refine gf_X5_18 C (z_up_s _ _ _) dX5_putAt_23 ?_
    refine z_iload_n C dX5_putAt_26 rfl 1 rfl ?_
    refine z_aaldI (j := i) C ((z_up_n _ _ (z_ne h_pn h_m (by intro h; cases h))).trans h_pn) h_ip h_ij h_fp dX5_putAt_27 ?_
    refine z_astore (lv' := [(4, .ref p), (0, .ref m), (1, .int pane), (2, .int ix), (3, .int v)]) C dX5_putAt_28 (by decide) rfl ?_
    refine z_iload_n C dX5_putAt_30 rfl 3 rfl ?_
    refine z_iconst C (v := 0) dX5_putAt_31 (by decide) ?_
    refine z_aload C dX5_putAt_32 0 rfl ?_
    refine z_iconst C (v := 5) dX5_putAt_34 (by decide) ?_
    refine z_pl5 C ((z_up_n _ _ (z_ne h_p h_m (by intro h; cases h))).trans h_p) dX5_putAt_35 ?_
    refine z_iconst C (v := 1) dX5_putAt_36 (by decide) ?_
    refine z_isub C dX5_putAt_37 ?_
    refine z_callSi (rest := []) (k' := 0) (n' := 0) C (c_X5_isIn (z_l X) (z_G X) ) (cs_X5_36 C (by decide)) rfl rfl (Nat.le_of_ble_eq_true rfl) rfl rfl (by decide) (by decide) dX5_putAt_38 (fun x38 M' hq => ?_)
    obtain ⟨rfl, rfl⟩ := hq
    refine z_if_ne C (tgt := 50) dX5_putAt_41 (by decide) (fun c41 => ?_) (fun c41 => ?_)
    · refine z_aload C dX5_putAt_50 0 rfl ?_
      refine z_bipush C (v := 7) dX5_putAt_52 (by decide) ?_
      refine z_pl7 C ((z_up_n _ _ (z_ne h_p h_m (by intro h; cases h))).trans h_p) dX5_putAt_54 ?_
      refine z_iconst C (v := 1) dX5_putAt_55 (by decide) ?_
      refine z_icmp_ne C (tgt := 65) dX5_putAt_56 (by decide) (fun c56 => ?_) (fun c56 => ?_)
      · refine z_aload_n C dX5_putAt_65 rfl 1 rfl ?_
        refine z_aload_n C dX5_putAt_66 rfl 1 rfl ?_
        refine z_aload_n C dX5_putAt_67 rfl 1 rfl ?_
        refine z_aload C dX5_putAt_68 0 rfl ?_
        refine z_iload_n C dX5_putAt_70 rfl 3 rfl ?_
        refine z_callVi (rest := [.ref m, .ref m]) (k' := 0) (n' := 0) C (c_X5_where (z_l X) (z_G X) ((z_up_n _ _ (z_ne h_p h_m (by intro h; cases h))).trans h_p)) (cs_X5_51 C (by decide)) (z_up_s _ _ _) rfl rfl rfl rfl (Nat.le_of_ble_eq_true rfl) rfl rfl (by decide) (by decide) dX5_putAt_71 (fun x71 M' hq => ?_)
        obtain ⟨rfl, rfl⟩ := hq
        refine z_iload_n C dX5_putAt_74 rfl 4 rfl ?_
        refine z_callVi (rest := [.ref m]) (k' := 0) (n' := 0) C (c_X5_written (z_l X) (z_G X) (z_up_s _ _ _) ((z_up_n _ _ (z_ne h_tp h_m (by intro h; cases h))).trans h_tp) (z_orL h_or c41)) (cs_X5_95 C (by decide)) (z_up_s _ _ _) rfl rfl rfl rfl (Nat.le_of_ble_eq_true rfl) rfl rfl (by decide) (by decide) dX5_putAt_75 (fun x75 M' hq => ?_)
        obtain ⟨rfl, rfl⟩ := hq
        refine z_callVi (rest := []) (k' := 0) (n' := 0) C (c_X5_did (z_l X) (z_G X) ((z_up_n _ _ (z_ne h_m h_tp (by intro h; cases h))).trans (z_up_s _ _ _))) (cs_X5_63 C (by decide)) ((z_up_n _ _ (z_ne h_m h_tp (by intro h; cases h))).trans (z_up_s _ _ _)) rfl rfl rfl rfl (Nat.le_of_ble_eq_true rfl) rfl rfl (by decide) (by decide) dX5_putAt_78 (fun x78 M' hq => ?_)
        obtain ⟨rfl, rfl⟩ := hq
        rw [z_up_swap _ (z_ne h_m h_tp (by intro h; cases h))]
        rw [z_up_up]
        exact ret dX5_putAt_81 rfl (Or.inr (Or.inl ⟨c6, c41, c56, rfl, rfl⟩)) (by decide) (by decide)
      · refine z_aload_n C dX5_putAt_59 rfl 1 rfl ?_
        refine z_iconst C (v := 4) dX5_putAt_60 (by decide) ?_
        refine z_callVi (rest := []) (k' := 0) (n' := 0) C (c_X5_refuse (z_l X) (z_G X) (z_up_s _ _ _) ((z_up_n _ _ (z_ne h_td h_m (by intro h; cases h))).trans h_td) (z_inL (by decide)) (show (4 : Int32).toNatClampNeg = 4 by decide)) (cs_X5_47 C (by decide)) (z_up_s _ _ _) rfl rfl rfl rfl (Nat.le_of_ble_eq_true rfl) rfl rfl (by decide) (by decide) dX5_putAt_61 (fun x61 M' hq => ?_)
        obtain ⟨rfl, rfl⟩ := hq
        exact ret dX5_putAt_64 rfl (Or.inr (Or.inr (Or.inl ⟨c6, c41, c56, rfl, rfl⟩))) (by decide) (by decide)
    · refine z_aload_n C dX5_putAt_44 rfl 1 rfl ?_
      refine z_iconst C (v := 5) dX5_putAt_45 (by decide) ?_
      refine z_callVi (rest := []) (k' := 0) (n' := 0) C (c_X5_refuse (z_l X) (z_G X) (z_up_s _ _ _) ((z_up_n _ _ (z_ne h_td h_m (by intro h; cases h))).trans h_td) (z_inL (by decide)) (show (5 : Int32).toNatClampNeg = 5 by decide)) (cs_X5_47 C (by decide)) (z_up_s _ _ _) rfl rfl rfl rfl (Nat.le_of_ble_eq_true rfl) rfl rfl (by decide) (by decide) dX5_putAt_46 (fun x46 M' hq => ?_)
      obtain ⟨rfl, rfl⟩ := hq
      exact ret dX5_putAt_49 rfl (Or.inr (Or.inr (Or.inr (⟨c6, c41, rfl, rfl⟩)))) (by decide) (by decide)
set_option maxRecDepth 20000 in
theorem c_X5_at_bad (l : Launch) (G : zG) {M : zM} {m : Nat} {pane : Int32} {ix : Int32} {tp : Nat} {nr : Int32} {pn : Nat} {td : Nat} {ac : Int32} {kn : Int32} {th : Int32}  (h_m : M m = some (cMd tp nr pn td ac kn th)) (h_bad : z_is pane 0 5 = 0) : z_Mi l G qX5_at (z_rm 4 0 0) [.ref m, .int pane, .int ix] M (fun r M' => r = 0 ∧ M' = z_up M m (cMd tp nr pn td ac kn (z_lt (z_is pane 0 5) 1)))  := by
  refine z_Mi_of _ (plainFor_of_name rfl) rfl (Nat.le_of_ble_eq_true rfl) (fun X hl hG hnm C ret => ?_)
  subst hl; subst hG
  have C : z_C X cX5_at RX5 3 (z_rm 4 0 0) := C
  show z_W X M 0 0 0 [(0, .ref m), (1, .int pane), (2, .int ix)] []
  refine z_aload_n C dX5_at_0 rfl 0 rfl ?_
  refine z_iload_n C dX5_at_1 rfl 1 rfl ?_
  refine z_callSi (rest := [.ref m]) (k' := 0) (n' := 0) C (c_X5_isPane (z_l X) (z_G X) ) (cs_X5_55 C (by decide)) rfl rfl (Nat.le_of_ble_eq_true rfl) rfl rfl (by decide) (by decide) dX5_at_2 (fun x2 M' hq => ?_)
  obtain ⟨rfl, rfl⟩ := hq
  refine z_iconst C (v := 1) dX5_at_5 (by decide) ?_
  refine z_callVi (rest := []) (k' := 0) (n' := 0) C (c_X5_isLet (z_l X) (z_G X) h_m) (cs_X5_59 C (by decide)) h_m rfl rfl rfl rfl (Nat.le_of_ble_eq_true rfl) rfl rfl (by decide) (by decide) dX5_at_6 (fun x6 M' hq => ?_)
  obtain ⟨rfl, rfl⟩ := hq
  refine z_if_ne C (tgt := 14) dX5_at_9 (by decide) (fun c9 => absurd (by simp [z_lr, z_lt, h_bad]) c9) (fun _ => ?_)
  refine z_iconst C (v := 0) dX5_at_12 (by decide) ?_
  exact ret dX5_at_13 rfl (⟨rfl, rfl⟩) (by decide) (by decide)
set_option maxRecDepth 20000 in
theorem c_X5_at (l : Launch) (G : zG) {M : zM} {m : Nat} {pane : Int32} {ix : Int32} {tp : Nat} {nr : Int32} {pn : Nat} {td : Nat} {ac : Int32} {kn : Int32} {th : Int32} {nt : Nat} {ft : Nat → Int32} {fp : Nat → Option Nat} {p : Nat} {ro : Int32} {ba : Int32} {sa : Int32} {cp : Int32} {po : Int32} {li : Int32} {mk : Int32} {rd : Int32} {i : Nat}  (h_m : M m = some (cMd tp nr pn td ac kn th)) (h_tp : M tp = some (aI G nt ft)) (h_pn : M pn = some (aII G 6 fp)) (h_p : M p = some (cPm G ro ba sa cp po li mk rd)) (h_ok : z_is pane 0 5 = 1) (h_ip : vp_in pane 6) (h_ij : pane.toNatClampNeg = i) (h_fp : fp i = some p) (n_p_tp : p ≠ tp) (h_or : z_or ba sa cp po li nt) : z_Mi l G qX5_at (z_rm 4 0 0) [.ref m, .int pane, .int ix] M (fun r M' => (((z_is ix 0 (li - 1)) = 0) ∧ r = (-9) ∧ M' = z_up M m (cMd tp nr pn td ac kn (z_lt (z_is pane 0 5) 1))) ∨ ((¬ (z_is ix 0 (li - 1)) = 0) ∧ r = ft (((ba + sa) + ix).toNatClampNeg) ∧ M' = z_up M m (cMd tp nr pn td ac kn (z_lt (z_is pane 0 5) 1))))  := by
  refine z_Mi_of _ (plainFor_of_name rfl) rfl (Nat.le_of_ble_eq_true rfl) (fun X hl hG hnm C ret => ?_)
  subst hl; subst hG
  have C : z_C X cX5_at RX5 3 (z_rm 4 0 0) := C
  show z_W X M 0 0 0 [(0, .ref m), (1, .int pane), (2, .int ix)] []
  refine z_aload_n C dX5_at_0 rfl 0 rfl ?_
  refine z_iload_n C dX5_at_1 rfl 1 rfl ?_
  refine z_callSi (rest := [.ref m]) (k' := 0) (n' := 0) C (c_X5_isPane (z_l X) (z_G X) ) (cs_X5_55 C (by decide)) rfl rfl (Nat.le_of_ble_eq_true rfl) rfl rfl (by decide) (by decide) dX5_at_2 (fun x2 M' hq => ?_)
  obtain ⟨rfl, rfl⟩ := hq
  refine z_iconst C (v := 1) dX5_at_5 (by decide) ?_
  refine z_callVi (rest := []) (k' := 0) (n' := 0) C (c_X5_isLet (z_l X) (z_G X) h_m) (cs_X5_59 C (by decide)) h_m rfl rfl rfl rfl (Nat.le_of_ble_eq_true rfl) rfl rfl (by decide) (by decide) dX5_at_6 (fun x6 M' hq => ?_)
  obtain ⟨rfl, rfl⟩ := hq
  refine z_if_ne C (tgt := 14) dX5_at_9 (by decide) (fun _ => ?_) (fun c9 => absurd c9 (by simp [z_lr, z_lt, h_ok]))
  refine z_iload_n C dX5_at_14 rfl 2 rfl ?_
  refine z_iconst C (v := 0) dX5_at_15 (by decide) ?_
  refine z_aload_n C dX5_at_16 rfl 0 rfl ?_
  refine gf_X5_18 C (z_up_s _ _ _) dX5_at_17 ?_
  refine z_iload_n C dX5_at_20 rfl 1 rfl ?_
  refine z_aaldI (j := i) C ((z_up_n _ _ (z_ne h_pn h_m (by intro h; cases h))).trans h_pn) h_ip h_ij h_fp dX5_at_21 ?_
  refine z_iconst C (v := 5) dX5_at_22 (by decide) ?_
  refine z_pl5 C ((z_up_n _ _ (z_ne h_p h_m (by intro h; cases h))).trans h_p) dX5_at_23 ?_
  refine z_iconst C (v := 1) dX5_at_24 (by decide) ?_
  refine z_isub C dX5_at_25 ?_
  refine z_callSi (rest := []) (k' := 0) (n' := 0) C (c_X5_isIn (z_l X) (z_G X) ) (cs_X5_36 C (by decide)) rfl rfl (Nat.le_of_ble_eq_true rfl) rfl rfl (by decide) (by decide) dX5_at_26 (fun x26 M' hq => ?_)
  obtain ⟨rfl, rfl⟩ := hq
  refine z_if_eq C (tgt := 51) dX5_at_29 (by decide) (fun c29 => ?_) (fun c29 => ?_)
  · refine z_bipush C (v := (-9)) dX5_at_51 (by decide) ?_
    exact ret dX5_at_53 rfl (Or.inl ⟨c29, rfl, rfl⟩) (by decide) (by decide)
  · refine z_aload_n C dX5_at_32 rfl 0 rfl ?_
    refine gf_X5_9 C (z_up_s _ _ _) dX5_at_33 ?_
    refine z_aload_n C dX5_at_36 rfl 0 rfl ?_
    refine z_aload_n C dX5_at_37 rfl 0 rfl ?_
    refine gf_X5_18 C (z_up_s _ _ _) dX5_at_38 ?_
    refine z_iload_n C dX5_at_41 rfl 1 rfl ?_
    refine z_aaldI (j := i) C ((z_up_n _ _ (z_ne h_pn h_m (by intro h; cases h))).trans h_pn) h_ip h_ij h_fp dX5_at_42 ?_
    refine z_iload_n C dX5_at_43 rfl 2 rfl ?_
    refine z_callVi (rest := [.ref tp]) (k' := 0) (n' := 0) C (c_X5_where (z_l X) (z_G X) ((z_up_n _ _ (z_ne h_p h_m (by intro h; cases h))).trans h_p)) (cs_X5_51 C (by decide)) (z_up_s _ _ _) rfl rfl rfl rfl (Nat.le_of_ble_eq_true rfl) rfl rfl (by decide) (by decide) dX5_at_44 (fun x44 M' hq => ?_)
    obtain ⟨rfl, rfl⟩ := hq
    refine z_iald (j := ((ba + sa) + ix).toNatClampNeg) C ((z_up_n _ _ (z_ne h_tp h_m (by intro h; cases h))).trans h_tp) (z_orL h_or c29) rfl dX5_at_47 ?_
    refine z_goto C (tgt := 53) dX5_at_48 (by decide) ?_
    exact ret dX5_at_53 rfl (Or.inr (⟨c29, rfl, rfl⟩)) (by decide) (by decide)
set_option maxRecDepth 20000 in
theorem c_X5_puts (l : Launch) (G : zG) {M : zM} {m : Nat} {p : Nat} {v : Int32} {tp : Nat} {nr : Int32} {pn : Nat} {td : Nat} {ac : Int32} {kn : Int32} {th : Int32} {fd : Nat → Int32} {nt : Nat} {ft : Nat → Int32} {ro : Int32} {ba : Int32} {sa : Int32} {cp : Int32} {po : Int32} {li : Int32} {mk : Int32} {rd : Int32}  (h_m : M m = some (cMd tp nr pn td ac kn th)) (h_td : M td = some (aI G 6 fd)) (h_tp : M tp = some (aI G nt ft)) (h_p : M p = some (cPm G ro ba sa cp po li mk rd)) (n_p_tp : p ≠ tp) (n_p_td : p ≠ td) (n_td_tp : td ≠ tp) (h_or : z_or ba sa cp po li nt) : z_Mi l G qX5_puts (z_rm 3 0 0) [.ref m, .ref p, .int v] M (fun r M' => ((¬ rd = 1) ∧ (¬ (li - po) = 0) ∧ r = 0 ∧ M' = z_up (z_up M tp (aI G nt (upd ft (((ba + sa) + po).toNatClampNeg) v))) p (cPm G ro ba sa cp (po + 1) li mk rd)) ∨ ((¬ rd = 1) ∧ ((li - po) = 0) ∧ r = 1 ∧ M' = z_up M td (aI G 6 (upd fd 1 ((fd 1) + 1)))) ∨ ((rd = 1) ∧ r = 4 ∧ M' = z_up M td (aI G 6 (upd fd 4 ((fd 4) + 1)))))  := by
  refine z_Mi_of _ (plainFor_of_name rfl) rfl (Nat.le_of_ble_eq_true rfl) (fun X hl hG hnm C ret => ?_)
  subst hl; subst hG
  have C : z_C X cX5_puts RX5 4 (z_rm 3 0 0) := C
  show z_W X M 0 0 0 [(0, .ref m), (1, .ref p), (2, .int v)] []
  refine z_aload_n C dX5_puts_0 rfl 1 rfl ?_
  refine z_bipush C (v := 7) dX5_puts_1 (by decide) ?_
  refine z_pl7 C h_p dX5_puts_3 ?_
  refine z_iconst C (v := 1) dX5_puts_4 (by decide) ?_
  refine z_icmp_ne C (tgt := 12) dX5_puts_5 (by decide) (fun c5 => ?_) (fun c5 => ?_)
  · refine z_aload_n C dX5_puts_12 rfl 1 rfl ?_
    refine z_callSi (rest := []) (k' := 0) (n' := 0) C (c_X5_left (z_l X) (z_G X) h_p) (cs_X5_43 C (by decide)) rfl rfl (Nat.le_of_ble_eq_true rfl) rfl rfl (by decide) (by decide) dX5_puts_13 (fun x13 M' hq => ?_)
    obtain ⟨rfl, rfl⟩ := hq
    refine z_if_ne C (tgt := 23) dX5_puts_16 (by decide) (fun c16 => ?_) (fun c16 => ?_)
    · refine z_iconst C (v := 0) dX5_puts_23 (by decide) ?_
      refine z_istore_n (lv' := [(3, .int 0), (0, .ref m), (1, .ref p), (2, .int v)]) C dX5_puts_24 rfl (by decide) rfl ?_
      refine z_iload_n C dX5_puts_25 rfl 0 rfl ?_
      refine z_if_le C (tgt := 37) dX5_puts_26 (by decide) (fun _ => ?_) (fun c26 => absurd (by decide) c26)
      refine z_aload_n C dX5_puts_37 rfl 1 rfl ?_
      refine gf_X5_9 C h_m dX5_puts_38 ?_
      refine z_aload_n C dX5_puts_41 rfl 1 rfl ?_
      refine z_aload_n C dX5_puts_42 rfl 2 rfl ?_
      refine z_aload_n C dX5_puts_43 rfl 2 rfl ?_
      refine z_iconst C (v := 4) dX5_puts_44 (by decide) ?_
      refine z_pl4 C h_p dX5_puts_45 ?_
      refine z_callVi (rest := [.ref tp]) (k' := 0) (n' := 0) C (c_X5_where (z_l X) (z_G X) h_p) (cs_X5_51 C (by decide)) h_m rfl rfl rfl rfl (Nat.le_of_ble_eq_true rfl) rfl rfl (by decide) (by decide) dX5_puts_46 (fun x46 M' hq => ?_)
      obtain ⟨rfl, rfl⟩ := hq
      refine z_iload_n C dX5_puts_49 rfl 3 rfl ?_
      refine z_iast (j := ((ba + sa) + po).toNatClampNeg) C h_tp (z_orP h_or c16) rfl dX5_puts_50 ?_
      refine z_aload_n C dX5_puts_51 rfl 2 rfl ?_
      refine z_iconst C (v := 4) dX5_puts_52 (by decide) ?_
      refine z_dup2 C dX5_puts_53 rfl rfl ?_
      refine z_pl4 C ((z_up_n _ _ n_p_tp).trans h_p) dX5_puts_54 ?_
      refine z_iconst C (v := 1) dX5_puts_55 (by decide) ?_
      refine z_iadd C dX5_puts_56 ?_
      refine z_ps4 C ((z_up_n _ _ n_p_tp).trans h_p) dX5_puts_57 ?_
      refine z_iconst C (v := 0) dX5_puts_58 (by decide) ?_
      exact ret dX5_puts_59 rfl (Or.inl ⟨c5, c16, rfl, rfl⟩) (by decide) (by decide)
    · refine z_iconst C (v := 1) dX5_puts_19 (by decide) ?_
      refine z_goto C (tgt := 24) dX5_puts_20 (by decide) ?_
      refine z_istore_n (lv' := [(3, .int 1), (0, .ref m), (1, .ref p), (2, .int v)]) C dX5_puts_24 rfl (by decide) rfl ?_
      refine z_iload_n C dX5_puts_25 rfl 0 rfl ?_
      refine z_if_le C (tgt := 37) dX5_puts_26 (by decide) (fun c26 => absurd c26 (by decide)) (fun _ => ?_)
      refine z_aload_n C dX5_puts_29 rfl 1 rfl ?_
      refine z_iload_n C dX5_puts_30 rfl 0 rfl ?_
      refine z_callVi (rest := []) (k' := 0) (n' := 0) C (c_X5_refuse (z_l X) (z_G X) h_m h_td (z_inL (by decide)) (show (1 : Int32).toNatClampNeg = 1 by decide)) (cs_X5_47 C (by decide)) h_m rfl rfl rfl rfl (Nat.le_of_ble_eq_true rfl) rfl rfl (by decide) (by decide) dX5_puts_31 (fun x31 M' hq => ?_)
      obtain ⟨rfl, rfl⟩ := hq
      refine z_pop C dX5_puts_34 rfl ?_
      refine z_iload_n C dX5_puts_35 rfl 0 rfl ?_
      exact ret dX5_puts_36 rfl (Or.inr (Or.inl ⟨c5, c16, rfl, rfl⟩)) (by decide) (by decide)
  · refine z_iconst C (v := 4) dX5_puts_8 (by decide) ?_
    refine z_goto C (tgt := 24) dX5_puts_9 (by decide) ?_
    refine z_istore_n (lv' := [(3, .int 4), (0, .ref m), (1, .ref p), (2, .int v)]) C dX5_puts_24 rfl (by decide) rfl ?_
    refine z_iload_n C dX5_puts_25 rfl 0 rfl ?_
    refine z_if_le C (tgt := 37) dX5_puts_26 (by decide) (fun c26 => absurd c26 (by decide)) (fun _ => ?_)
    refine z_aload_n C dX5_puts_29 rfl 1 rfl ?_
    refine z_iload_n C dX5_puts_30 rfl 0 rfl ?_
    refine z_callVi (rest := []) (k' := 0) (n' := 0) C (c_X5_refuse (z_l X) (z_G X) h_m h_td (z_inL (by decide)) (show (4 : Int32).toNatClampNeg = 4 by decide)) (cs_X5_47 C (by decide)) h_m rfl rfl rfl rfl (Nat.le_of_ble_eq_true rfl) rfl rfl (by decide) (by decide) dX5_puts_31 (fun x31 M' hq => ?_)
    obtain ⟨rfl, rfl⟩ := hq
    refine z_pop C dX5_puts_34 rfl ?_
    refine z_iload_n C dX5_puts_35 rfl 0 rfl ?_
    exact ret dX5_puts_36 rfl (Or.inr (Or.inr (⟨c5, rfl, rfl⟩))) (by decide) (by decide)
set_option maxRecDepth 20000 in
theorem c_X5_put_bad (l : Launch) (G : zG) {M : zM} {m : Nat} {pane : Int32} {v : Int32} {tp : Nat} {nr : Int32} {pn : Nat} {td : Nat} {ac : Int32} {kn : Int32} {th : Int32}  (h_m : M m = some (cMd tp nr pn td ac kn th)) (h_bad : z_is pane 0 5 = 0) : z_Mi l G qX5_put (z_rm 4 0 0) [.ref m, .int pane, .int v] M (fun r M' => ((v < 0) ∧ r = 0 ∧ M' = z_up M m (cMd tp nr pn td ac kn (z_lt (z_is pane 0 5) 0))) ∨ ((¬ v < 0) ∧ r = 0 ∧ M' = z_up M m (cMd tp nr pn td ac kn (z_lt (z_is pane 0 5) 1))))  := by
  refine z_Mi_of _ (plainFor_of_name rfl) rfl (Nat.le_of_ble_eq_true rfl) (fun X hl hG hnm C ret => ?_)
  subst hl; subst hG
  have C : z_C X cX5_put RX5 3 (z_rm 4 0 0) := C
  show z_W X M 0 0 0 [(0, .ref m), (1, .int pane), (2, .int v)] []
  refine z_aload_n C dX5_put_0 rfl 0 rfl ?_
  refine z_iload_n C dX5_put_1 rfl 1 rfl ?_
  refine z_callSi (rest := [.ref m]) (k' := 0) (n' := 0) C (c_X5_isPane (z_l X) (z_G X) ) (cs_X5_55 C (by decide)) rfl rfl (Nat.le_of_ble_eq_true rfl) rfl rfl (by decide) (by decide) dX5_put_2 (fun x2 M' hq => ?_)
  obtain ⟨rfl, rfl⟩ := hq
  refine z_iload_n C dX5_put_5 rfl 2 rfl ?_
  refine z_if_lt C (tgt := 13) dX5_put_6 (by decide) (fun c6 => ?_) (fun c6 => ?_)
  · refine z_iconst C (v := 0) dX5_put_13 (by decide) ?_
    refine z_callVi (rest := []) (k' := 0) (n' := 0) C (c_X5_isLet (z_l X) (z_G X) h_m) (cs_X5_59 C (by decide)) h_m rfl rfl rfl rfl (Nat.le_of_ble_eq_true rfl) rfl rfl (by decide) (by decide) dX5_put_14 (fun x14 M' hq => ?_)
    obtain ⟨rfl, rfl⟩ := hq
    refine z_if_ne C (tgt := 22) dX5_put_17 (by decide) (fun c17 => absurd (by simp [z_lr, z_lt, h_bad]) c17) (fun _ => ?_)
    refine z_iconst C (v := 0) dX5_put_20 (by decide) ?_
    exact ret dX5_put_21 rfl (Or.inl ⟨c6, rfl, rfl⟩) (by decide) (by decide)
  · refine z_iconst C (v := 1) dX5_put_9 (by decide) ?_
    refine z_goto C (tgt := 14) dX5_put_10 (by decide) ?_
    refine z_callVi (rest := []) (k' := 0) (n' := 0) C (c_X5_isLet (z_l X) (z_G X) h_m) (cs_X5_59 C (by decide)) h_m rfl rfl rfl rfl (Nat.le_of_ble_eq_true rfl) rfl rfl (by decide) (by decide) dX5_put_14 (fun x14 M' hq => ?_)
    obtain ⟨rfl, rfl⟩ := hq
    refine z_if_ne C (tgt := 22) dX5_put_17 (by decide) (fun c17 => absurd (by simp [z_lr, z_lt, h_bad]) c17) (fun _ => ?_)
    refine z_iconst C (v := 0) dX5_put_20 (by decide) ?_
    exact ret dX5_put_21 rfl (Or.inr (⟨c6, rfl, rfl⟩)) (by decide) (by decide)
set_option maxRecDepth 20000 in
theorem c_X5_put (l : Launch) (G : zG) {M : zM} {m : Nat} {pane : Int32} {v : Int32} {tp : Nat} {nr : Int32} {pn : Nat} {td : Nat} {ac : Int32} {kn : Int32} {th : Int32} {fd : Nat → Int32} {nt : Nat} {ft : Nat → Int32} {fp : Nat → Option Nat} {p : Nat} {ro : Int32} {ba : Int32} {sa : Int32} {cp : Int32} {po : Int32} {li : Int32} {mk : Int32} {rd : Int32} {i : Nat}  (h_m : M m = some (cMd tp nr pn td ac kn th)) (h_td : M td = some (aI G 6 fd)) (h_tp : M tp = some (aI G nt ft)) (h_pn : M pn = some (aII G 6 fp)) (h_p : M p = some (cPm G ro ba sa cp po li mk rd)) (h_ok : z_is pane 0 5 = 1) (h_ip : vp_in pane 6) (h_ij : pane.toNatClampNeg = i) (h_fp : fp i = some p) (n_p_tp : p ≠ tp) (n_p_td : p ≠ td) (n_td_tp : td ≠ tp) (h_or : z_or ba sa cp po li nt) : z_Mi l G qX5_put (z_rm 4 0 0) [.ref m, .int pane, .int v] M (fun r M' => ((v < 0) ∧ r = 0 ∧ M' = z_up M m (cMd tp nr pn td ac kn (z_lt (z_is pane 0 5) 0))) ∨ ((¬ v < 0) ∧ (¬ rd = 1) ∧ (¬ (li - po) = 0) ∧ r = (po + 1) ∧ M' = z_up (z_up (z_up M tp (aI G nt (upd ft (((ba + sa) + po).toNatClampNeg) v))) p (cPm G ro ba sa cp (po + 1) li mk rd)) m (cMd tp nr pn td (ac + 1) kn (z_lt (z_is pane 0 5) 1))) ∨ ((¬ v < 0) ∧ (¬ rd = 1) ∧ ((li - po) = 0) ∧ r = (-9) ∧ M' = z_up (z_up M m (cMd tp nr pn td ac kn (z_lt (z_is pane 0 5) 1))) td (aI G 6 (upd fd 1 ((fd 1) + 1)))) ∨ ((¬ v < 0) ∧ (rd = 1) ∧ r = (-9) ∧ M' = z_up (z_up M m (cMd tp nr pn td ac kn (z_lt (z_is pane 0 5) 1))) td (aI G 6 (upd fd 4 ((fd 4) + 1)))))  := by
  refine z_Mi_of _ (plainFor_of_name rfl) rfl (Nat.le_of_ble_eq_true rfl) (fun X hl hG hnm C ret => ?_)
  subst hl; subst hG
  have C : z_C X cX5_put RX5 3 (z_rm 4 0 0) := C
  show z_W X M 0 0 0 [(0, .ref m), (1, .int pane), (2, .int v)] []
  refine z_aload_n C dX5_put_0 rfl 0 rfl ?_
  refine z_iload_n C dX5_put_1 rfl 1 rfl ?_
  refine z_callSi (rest := [.ref m]) (k' := 0) (n' := 0) C (c_X5_isPane (z_l X) (z_G X) ) (cs_X5_55 C (by decide)) rfl rfl (Nat.le_of_ble_eq_true rfl) rfl rfl (by decide) (by decide) dX5_put_2 (fun x2 M' hq => ?_)
  obtain ⟨rfl, rfl⟩ := hq
  refine z_iload_n C dX5_put_5 rfl 2 rfl ?_
  refine z_if_lt C (tgt := 13) dX5_put_6 (by decide) (fun c6 => ?_) (fun c6 => ?_)
  · refine z_iconst C (v := 0) dX5_put_13 (by decide) ?_
    refine z_callVi (rest := []) (k' := 0) (n' := 0) C (c_X5_isLet (z_l X) (z_G X) h_m) (cs_X5_59 C (by decide)) h_m rfl rfl rfl rfl (Nat.le_of_ble_eq_true rfl) rfl rfl (by decide) (by decide) dX5_put_14 (fun x14 M' hq => ?_)
    obtain ⟨rfl, rfl⟩ := hq
    refine z_if_ne C (tgt := 22) dX5_put_17 (by decide) (fun c17 => absurd (by simp [z_lr, z_lt, h_ok]) c17) (fun _ => ?_)
    refine z_iconst C (v := 0) dX5_put_20 (by decide) ?_
    exact ret dX5_put_21 rfl (Or.inl ⟨c6, rfl, rfl⟩) (by decide) (by decide)
  · refine z_iconst C (v := 1) dX5_put_9 (by decide) ?_
    refine z_goto C (tgt := 14) dX5_put_10 (by decide) ?_
    refine z_callVi (rest := []) (k' := 0) (n' := 0) C (c_X5_isLet (z_l X) (z_G X) h_m) (cs_X5_59 C (by decide)) h_m rfl rfl rfl rfl (Nat.le_of_ble_eq_true rfl) rfl rfl (by decide) (by decide) dX5_put_14 (fun x14 M' hq => ?_)
    obtain ⟨rfl, rfl⟩ := hq
    refine z_if_ne C (tgt := 22) dX5_put_17 (by decide) (fun _ => ?_) (fun c17 => absurd c17 (by simp [z_lr, z_lt, h_ok]))
    refine z_aload_n C dX5_put_22 rfl 0 rfl ?_
    refine z_aload_n C dX5_put_23 rfl 0 rfl ?_
    refine gf_X5_18 C (z_up_s _ _ _) dX5_put_24 ?_
    refine z_iload_n C dX5_put_27 rfl 1 rfl ?_
    refine z_aaldI (j := i) C ((z_up_n _ _ (z_ne h_pn h_m (by intro h; cases h))).trans h_pn) h_ip h_ij h_fp dX5_put_28 ?_
    refine z_iload_n C dX5_put_29 rfl 2 rfl ?_
    refine z_callVi (rest := []) (k' := 0) (n' := 0) C (c_X5_puts (z_l X) (z_G X) (z_up_s _ _ _) ((z_up_n _ _ (z_ne h_td h_m (by intro h; cases h))).trans h_td) ((z_up_n _ _ (z_ne h_tp h_m (by intro h; cases h))).trans h_tp) ((z_up_n _ _ (z_ne h_p h_m (by intro h; cases h))).trans h_p) n_p_tp n_p_td n_td_tp h_or) (cs_X5_92 C (by decide)) (z_up_s _ _ _) rfl rfl rfl rfl (Nat.le_of_ble_eq_true rfl) rfl rfl (by decide) (by decide) dX5_put_30 (fun x30 M' hq => ?_)
    obtain ⟨d30_0, d30_1, rfl, rfl⟩ | ⟨d30_0, d30_1, rfl, rfl⟩ | ⟨d30_0, rfl, rfl⟩ := hq
    · refine z_if_le C (tgt := 41) dX5_put_33 (by decide) (fun _ => ?_) (fun c33 => absurd (by decide) c33)
      refine z_aload_n C dX5_put_41 rfl 0 rfl ?_
      refine z_aload_n C dX5_put_42 rfl 0 rfl ?_
      refine gf_X5_18 C ((z_up_n _ _ (z_ne h_m h_p (by intro h; cases h))).trans ((z_up_n _ _ (z_ne h_m h_tp (by intro h; cases h))).trans (z_up_s _ _ _))) dX5_put_43 ?_
      refine z_iload_n C dX5_put_46 rfl 1 rfl ?_
      refine z_aaldI (j := i) C ((z_up_n _ _ (z_ne h_pn h_p (by intro h; simp at h))).trans ((z_up_n _ _ (z_ne h_pn h_tp (by intro h; simp at h))).trans ((z_up_n _ _ (z_ne h_pn h_m (by intro h; cases h))).trans h_pn))) h_ip h_ij h_fp dX5_put_47 ?_
      refine z_iconst C (v := 4) dX5_put_48 (by decide) ?_
      refine z_pl4 C (z_up_s _ _ _) dX5_put_49 ?_
      refine z_callVi (rest := []) (k' := 0) (n' := 0) C (c_X5_did (z_l X) (z_G X) ((z_up_n _ _ (z_ne h_m h_p (by intro h; cases h))).trans ((z_up_n _ _ (z_ne h_m h_tp (by intro h; cases h))).trans (z_up_s _ _ _)))) (cs_X5_63 C (by decide)) ((z_up_n _ _ (z_ne h_m h_p (by intro h; cases h))).trans ((z_up_n _ _ (z_ne h_m h_tp (by intro h; cases h))).trans (z_up_s _ _ _))) rfl rfl rfl rfl (Nat.le_of_ble_eq_true rfl) rfl rfl (by decide) (by decide) dX5_put_50 (fun x50 M' hq => ?_)
      obtain ⟨rfl, rfl⟩ := hq
      rw [z_up_swap _ (z_ne h_m h_tp (by intro h; cases h))]
      rw [z_up_swap _ (z_ne h_m h_p (by intro h; cases h))]
      rw [z_up_up]
      exact ret dX5_put_53 rfl (Or.inr (Or.inl ⟨c6, d30_0, d30_1, rfl, rfl⟩)) (by decide) (by decide)
    · refine z_if_le C (tgt := 41) dX5_put_33 (by decide) (fun c33 => absurd c33 (by decide)) (fun _ => ?_)
      refine z_bipush C (v := (-9)) dX5_put_36 (by decide) ?_
      refine z_goto C (tgt := 53) dX5_put_38 (by decide) ?_
      exact ret dX5_put_53 rfl (Or.inr (Or.inr (Or.inl ⟨c6, d30_0, d30_1, rfl, rfl⟩))) (by decide) (by decide)
    · refine z_if_le C (tgt := 41) dX5_put_33 (by decide) (fun c33 => absurd c33 (by decide)) (fun _ => ?_)
      refine z_bipush C (v := (-9)) dX5_put_36 (by decide) ?_
      refine z_goto C (tgt := 53) dX5_put_38 (by decide) ?_
      exact ret dX5_put_53 rfl (Or.inr (Or.inr (Or.inr (⟨c6, d30_0, rfl, rfl⟩)))) (by decide) (by decide)
set_option maxRecDepth 20000 in
theorem c_X5_reach_bad (l : Launch) (G : zG) {M : zM} {m : Nat} {pane : Int32} {ix : Int32} {v : Int32} {tp : Nat} {nr : Int32} {pn : Nat} {td : Nat} {ac : Int32} {kn : Int32} {th : Int32}  (h_m : M m = some (cMd tp nr pn td ac kn th)) (h_bad : z_is pane 0 5 = 0) : z_Mi l G qX5_reach (z_rm 4 0 0) [.ref m, .int pane, .int ix, .int v] M (fun r M' => ((v < 0) ∧ r = 0 ∧ M' = z_up M m (cMd tp nr pn td ac kn (z_lt (z_is pane 0 5) 0))) ∨ ((¬ v < 0) ∧ r = 0 ∧ M' = z_up M m (cMd tp nr pn td ac kn (z_lt (z_is pane 0 5) 1))))  := by
  refine z_Mi_of _ (plainFor_of_name rfl) rfl (Nat.le_of_ble_eq_true rfl) (fun X hl hG hnm C ret => ?_)
  subst hl; subst hG
  have C : z_C X cX5_reach RX5 5 (z_rm 4 0 0) := C
  show z_W X M 0 0 0 [(0, .ref m), (1, .int pane), (2, .int ix), (3, .int v)] []
  refine z_aload_n C dX5_reach_0 rfl 0 rfl ?_
  refine z_iload_n C dX5_reach_1 rfl 1 rfl ?_
  refine z_callSi (rest := [.ref m]) (k' := 0) (n' := 0) C (c_X5_isPane (z_l X) (z_G X) ) (cs_X5_55 C (by decide)) rfl rfl (Nat.le_of_ble_eq_true rfl) rfl rfl (by decide) (by decide) dX5_reach_2 (fun x2 M' hq => ?_)
  obtain ⟨rfl, rfl⟩ := hq
  refine z_iload_n C dX5_reach_5 rfl 3 rfl ?_
  refine z_if_lt C (tgt := 13) dX5_reach_6 (by decide) (fun c6 => ?_) (fun c6 => ?_)
  · refine z_iconst C (v := 0) dX5_reach_13 (by decide) ?_
    refine z_callVi (rest := []) (k' := 0) (n' := 0) C (c_X5_isLet (z_l X) (z_G X) h_m) (cs_X5_59 C (by decide)) h_m rfl rfl rfl rfl (Nat.le_of_ble_eq_true rfl) rfl rfl (by decide) (by decide) dX5_reach_14 (fun x14 M' hq => ?_)
    obtain ⟨rfl, rfl⟩ := hq
    refine z_if_ne C (tgt := 22) dX5_reach_17 (by decide) (fun c17 => absurd (by simp [z_lr, z_lt, h_bad]) c17) (fun _ => ?_)
    refine z_iconst C (v := 0) dX5_reach_20 (by decide) ?_
    exact ret dX5_reach_21 rfl (Or.inl ⟨c6, rfl, rfl⟩) (by decide) (by decide)
  · refine z_iconst C (v := 1) dX5_reach_9 (by decide) ?_
    refine z_goto C (tgt := 14) dX5_reach_10 (by decide) ?_
    refine z_callVi (rest := []) (k' := 0) (n' := 0) C (c_X5_isLet (z_l X) (z_G X) h_m) (cs_X5_59 C (by decide)) h_m rfl rfl rfl rfl (Nat.le_of_ble_eq_true rfl) rfl rfl (by decide) (by decide) dX5_reach_14 (fun x14 M' hq => ?_)
    obtain ⟨rfl, rfl⟩ := hq
    refine z_if_ne C (tgt := 22) dX5_reach_17 (by decide) (fun c17 => absurd (by simp [z_lr, z_lt, h_bad]) c17) (fun _ => ?_)
    refine z_iconst C (v := 0) dX5_reach_20 (by decide) ?_
    exact ret dX5_reach_21 rfl (Or.inr (⟨c6, rfl, rfl⟩)) (by decide) (by decide)
set_option maxRecDepth 20000 in
theorem c_X5_reach (l : Launch) (G : zG) {M : zM} {m : Nat} {pane : Int32} {ix : Int32} {v : Int32} {tp : Nat} {nr : Int32} {pn : Nat} {td : Nat} {ac : Int32} {kn : Int32} {th : Int32} {fd : Nat → Int32} {nt : Nat} {ft : Nat → Int32} {fp : Nat → Option Nat} {p : Nat} {ro : Int32} {ba : Int32} {sa : Int32} {cp : Int32} {po : Int32} {li : Int32} {mk : Int32} {rd : Int32} {i : Nat}  (h_m : M m = some (cMd tp nr pn td ac kn th)) (h_td : M td = some (aI G 6 fd)) (h_tp : M tp = some (aI G nt ft)) (h_pn : M pn = some (aII G 6 fp)) (h_p : M p = some (cPm G ro ba sa cp po li mk rd)) (h_ok : z_is pane 0 5 = 1) (h_ip : vp_in pane 6) (h_ij : pane.toNatClampNeg = i) (h_fp : fp i = some p) (n_p_tp : p ≠ tp) (n_p_td : p ≠ td) (n_td_tp : td ≠ tp) (h_or : z_or ba sa cp po li nt) : z_Mi l G qX5_reach (z_rm 4 0 0) [.ref m, .int pane, .int ix, .int v] M (fun r M' => ((v < 0) ∧ r = 0 ∧ M' = z_up M m (cMd tp nr pn td ac kn (z_lt (z_is pane 0 5) 0))) ∨ ((¬ v < 0) ∧ (¬ rd = 1) ∧ (¬ (z_is ix 0 (cp - 1)) = 0) ∧ r = (ft ((ba + sa) + ix).toNatClampNeg) ∧ M' = z_up (z_up M tp (aI G nt (upd ft ((ba + sa) + ix).toNatClampNeg v))) m (cMd tp nr pn td (ac + 1) kn (z_lt (z_is pane 0 5) 1))) ∨ ((¬ v < 0) ∧ (¬ rd = 1) ∧ ((z_is ix 0 (cp - 1)) = 0) ∧ r = (-9) ∧ M' = z_up (z_up M m (cMd tp nr pn td ac kn (z_lt (z_is pane 0 5) 1))) td (aI G 6 (upd fd 5 ((fd 5) + 1)))) ∨ ((¬ v < 0) ∧ (rd = 1) ∧ r = (-9) ∧ M' = z_up (z_up M m (cMd tp nr pn td ac kn (z_lt (z_is pane 0 5) 1))) td (aI G 6 (upd fd 4 ((fd 4) + 1)))))  := by
  refine z_Mi_of _ (plainFor_of_name rfl) rfl (Nat.le_of_ble_eq_true rfl) (fun X hl hG hnm C ret => ?_)
  subst hl; subst hG
  have C : z_C X cX5_reach RX5 5 (z_rm 4 0 0) := C
  show z_W X M 0 0 0 [(0, .ref m), (1, .int pane), (2, .int ix), (3, .int v)] []
  refine z_aload_n C dX5_reach_0 rfl 0 rfl ?_
  refine z_iload_n C dX5_reach_1 rfl 1 rfl ?_
  refine z_callSi (rest := [.ref m]) (k' := 0) (n' := 0) C (c_X5_isPane (z_l X) (z_G X) ) (cs_X5_55 C (by decide)) rfl rfl (Nat.le_of_ble_eq_true rfl) rfl rfl (by decide) (by decide) dX5_reach_2 (fun x2 M' hq => ?_)
  obtain ⟨rfl, rfl⟩ := hq
  refine z_iload_n C dX5_reach_5 rfl 3 rfl ?_
  refine z_if_lt C (tgt := 13) dX5_reach_6 (by decide) (fun c6 => ?_) (fun c6 => ?_)
  · refine z_iconst C (v := 0) dX5_reach_13 (by decide) ?_
    refine z_callVi (rest := []) (k' := 0) (n' := 0) C (c_X5_isLet (z_l X) (z_G X) h_m) (cs_X5_59 C (by decide)) h_m rfl rfl rfl rfl (Nat.le_of_ble_eq_true rfl) rfl rfl (by decide) (by decide) dX5_reach_14 (fun x14 M' hq => ?_)
    obtain ⟨rfl, rfl⟩ := hq
    refine z_if_ne C (tgt := 22) dX5_reach_17 (by decide) (fun c17 => absurd (by simp [z_lr, z_lt, h_ok]) c17) (fun _ => ?_)
    refine z_iconst C (v := 0) dX5_reach_20 (by decide) ?_
    exact ret dX5_reach_21 rfl (Or.inl ⟨c6, rfl, rfl⟩) (by decide) (by decide)
  · refine z_iconst C (v := 1) dX5_reach_9 (by decide) ?_
    refine z_goto C (tgt := 14) dX5_reach_10 (by decide) ?_
    refine z_callVi (rest := []) (k' := 0) (n' := 0) C (c_X5_isLet (z_l X) (z_G X) h_m) (cs_X5_59 C (by decide)) h_m rfl rfl rfl rfl (Nat.le_of_ble_eq_true rfl) rfl rfl (by decide) (by decide) dX5_reach_14 (fun x14 M' hq => ?_)
    obtain ⟨rfl, rfl⟩ := hq
    refine z_if_ne C (tgt := 22) dX5_reach_17 (by decide) (fun _ => ?_) (fun c17 => absurd c17 (by simp [z_lr, z_lt, h_ok]))
    refine z_aload_n C dX5_reach_22 rfl 0 rfl ?_
    refine gf_X5_18 C (z_up_s _ _ _) dX5_reach_23 ?_
    refine z_iload_n C dX5_reach_26 rfl 1 rfl ?_
    refine z_aaldI (j := i) C ((z_up_n _ _ (z_ne h_pn h_m (by intro h; cases h))).trans h_pn) h_ip h_ij h_fp dX5_reach_27 ?_
    refine z_astore (lv' := [(4, .ref p), (0, .ref m), (1, .int pane), (2, .int ix), (3, .int v)]) C dX5_reach_28 (by decide) rfl ?_
    refine z_aload C dX5_reach_30 0 rfl ?_
    refine z_bipush C (v := 7) dX5_reach_32 (by decide) ?_
    refine z_pl7 C ((z_up_n _ _ (z_ne h_p h_m (by intro h; cases h))).trans h_p) dX5_reach_34 ?_
    refine z_iconst C (v := 1) dX5_reach_35 (by decide) ?_
    refine z_icmp_ne C (tgt := 45) dX5_reach_36 (by decide) (fun c36 => ?_) (fun c36 => ?_)
    · refine z_iload_n C dX5_reach_45 rfl 3 rfl ?_
      refine z_iconst C (v := 0) dX5_reach_46 (by decide) ?_
      refine z_aload C dX5_reach_47 0 rfl ?_
      refine z_iconst C (v := 3) dX5_reach_49 (by decide) ?_
      refine z_pl3 C ((z_up_n _ _ (z_ne h_p h_m (by intro h; cases h))).trans h_p) dX5_reach_50 ?_
      refine z_iconst C (v := 1) dX5_reach_51 (by decide) ?_
      refine z_isub C dX5_reach_52 ?_
      refine z_callSi (rest := []) (k' := 0) (n' := 0) C (c_X5_isIn (z_l X) (z_G X) ) (cs_X5_36 C (by decide)) rfl rfl (Nat.le_of_ble_eq_true rfl) rfl rfl (by decide) (by decide) dX5_reach_53 (fun x53 M' hq => ?_)
      obtain ⟨rfl, rfl⟩ := hq
      refine z_if_ne C (tgt := 65) dX5_reach_56 (by decide) (fun c56 => ?_) (fun c56 => ?_)
      · refine z_aload_n C dX5_reach_65 rfl 1 rfl ?_
        refine z_aload_n C dX5_reach_66 rfl 1 rfl ?_
        refine z_aload_n C dX5_reach_67 rfl 1 rfl ?_
        refine z_aload C dX5_reach_68 0 rfl ?_
        refine z_iload_n C dX5_reach_70 rfl 3 rfl ?_
        refine z_callVi (rest := [.ref m, .ref m]) (k' := 0) (n' := 0) C (c_X5_where (z_l X) (z_G X) ((z_up_n _ _ (z_ne h_p h_m (by intro h; cases h))).trans h_p)) (cs_X5_51 C (by decide)) (z_up_s _ _ _) rfl rfl rfl rfl (Nat.le_of_ble_eq_true rfl) rfl rfl (by decide) (by decide) dX5_reach_71 (fun x71 M' hq => ?_)
        obtain ⟨rfl, rfl⟩ := hq
        refine z_iload_n C dX5_reach_74 rfl 4 rfl ?_
        refine z_callVi (rest := [.ref m]) (k' := 0) (n' := 0) C (c_X5_written (z_l X) (z_G X) (z_up_s _ _ _) ((z_up_n _ _ (z_ne h_tp h_m (by intro h; cases h))).trans h_tp) (z_orC h_or c56)) (cs_X5_95 C (by decide)) (z_up_s _ _ _) rfl rfl rfl rfl (Nat.le_of_ble_eq_true rfl) rfl rfl (by decide) (by decide) dX5_reach_75 (fun x75 M' hq => ?_)
        obtain ⟨rfl, rfl⟩ := hq
        refine z_callVi (rest := []) (k' := 0) (n' := 0) C (c_X5_did (z_l X) (z_G X) ((z_up_n _ _ (z_ne h_m h_tp (by intro h; cases h))).trans (z_up_s _ _ _))) (cs_X5_63 C (by decide)) ((z_up_n _ _ (z_ne h_m h_tp (by intro h; cases h))).trans (z_up_s _ _ _)) rfl rfl rfl rfl (Nat.le_of_ble_eq_true rfl) rfl rfl (by decide) (by decide) dX5_reach_78 (fun x78 M' hq => ?_)
        obtain ⟨rfl, rfl⟩ := hq
        rw [z_up_swap _ (z_ne h_m h_tp (by intro h; cases h))]
        rw [z_up_up]
        exact ret dX5_reach_81 rfl (Or.inr (Or.inl ⟨c6, c36, c56, rfl, rfl⟩)) (by decide) (by decide)
      · refine z_aload_n C dX5_reach_59 rfl 1 rfl ?_
        refine z_iconst C (v := 5) dX5_reach_60 (by decide) ?_
        refine z_callVi (rest := []) (k' := 0) (n' := 0) C (c_X5_refuse (z_l X) (z_G X) (z_up_s _ _ _) ((z_up_n _ _ (z_ne h_td h_m (by intro h; cases h))).trans h_td) (z_inL (by decide)) (show (5 : Int32).toNatClampNeg = 5 by decide)) (cs_X5_47 C (by decide)) (z_up_s _ _ _) rfl rfl rfl rfl (Nat.le_of_ble_eq_true rfl) rfl rfl (by decide) (by decide) dX5_reach_61 (fun x61 M' hq => ?_)
        obtain ⟨rfl, rfl⟩ := hq
        exact ret dX5_reach_64 rfl (Or.inr (Or.inr (Or.inl ⟨c6, c36, c56, rfl, rfl⟩))) (by decide) (by decide)
    · refine z_aload_n C dX5_reach_39 rfl 1 rfl ?_
      refine z_iconst C (v := 4) dX5_reach_40 (by decide) ?_
      refine z_callVi (rest := []) (k' := 0) (n' := 0) C (c_X5_refuse (z_l X) (z_G X) (z_up_s _ _ _) ((z_up_n _ _ (z_ne h_td h_m (by intro h; cases h))).trans h_td) (z_inL (by decide)) (show (4 : Int32).toNatClampNeg = 4 by decide)) (cs_X5_47 C (by decide)) (z_up_s _ _ _) rfl rfl rfl rfl (Nat.le_of_ble_eq_true rfl) rfl rfl (by decide) (by decide) dX5_reach_41 (fun x41 M' hq => ?_)
      obtain ⟨rfl, rfl⟩ := hq
      exact ret dX5_reach_44 rfl (Or.inr (Or.inr (Or.inr (⟨c6, c36, rfl, rfl⟩)))) (by decide) (by decide)
set_option maxRecDepth 20000 in
theorem c_X5_get_bad (l : Launch) (G : zG) {M : zM} {m : Nat} {pane : Int32} {tp : Nat} {nr : Int32} {pn : Nat} {td : Nat} {ac : Int32} {kn : Int32} {th : Int32}  (h_m : M m = some (cMd tp nr pn td ac kn th)) (h_bad : z_is pane 0 5 = 0) : z_Mi l G qX5_get (z_rm 4 0 0) [.ref m, .int pane] M (fun r M' => r = 0 ∧ M' = z_up M m (cMd tp nr pn td ac kn (z_lt (z_is pane 0 5) 1)))  := by
  refine z_Mi_of _ (plainFor_of_name rfl) rfl (Nat.le_of_ble_eq_true rfl) (fun X hl hG hnm C ret => ?_)
  subst hl; subst hG
  have C : z_C X cX5_get RX5 3 (z_rm 4 0 0) := C
  show z_W X M 0 0 0 [(0, .ref m), (1, .int pane)] []
  refine z_aload_n C dX5_get_0 rfl 0 rfl ?_
  refine z_iload_n C dX5_get_1 rfl 1 rfl ?_
  refine z_callSi (rest := [.ref m]) (k' := 0) (n' := 0) C (c_X5_isPane (z_l X) (z_G X) ) (cs_X5_55 C (by decide)) rfl rfl (Nat.le_of_ble_eq_true rfl) rfl rfl (by decide) (by decide) dX5_get_2 (fun x2 M' hq => ?_)
  obtain ⟨rfl, rfl⟩ := hq
  refine z_iconst C (v := 1) dX5_get_5 (by decide) ?_
  refine z_callVi (rest := []) (k' := 0) (n' := 0) C (c_X5_isLet (z_l X) (z_G X) h_m) (cs_X5_59 C (by decide)) h_m rfl rfl rfl rfl (Nat.le_of_ble_eq_true rfl) rfl rfl (by decide) (by decide) dX5_get_6 (fun x6 M' hq => ?_)
  obtain ⟨rfl, rfl⟩ := hq
  refine z_if_ne C (tgt := 14) dX5_get_9 (by decide) (fun c9 => absurd (by simp [z_lr, z_lt, h_bad]) c9) (fun _ => ?_)
  refine z_iconst C (v := 0) dX5_get_12 (by decide) ?_
  exact ret dX5_get_13 rfl (⟨rfl, rfl⟩) (by decide) (by decide)
set_option maxRecDepth 20000 in
theorem c_X5_get (l : Launch) (G : zG) {M : zM} {m : Nat} {pane : Int32} {tp : Nat} {nr : Int32} {pn : Nat} {td : Nat} {ac : Int32} {kn : Int32} {th : Int32} {fd : Nat → Int32} {nt : Nat} {ft : Nat → Int32} {fp : Nat → Option Nat} {p : Nat} {ro : Int32} {ba : Int32} {sa : Int32} {cp : Int32} {po : Int32} {li : Int32} {mk : Int32} {rd : Int32} {i : Nat}  (h_m : M m = some (cMd tp nr pn td ac kn th)) (h_td : M td = some (aI G 6 fd)) (h_tp : M tp = some (aI G nt ft)) (h_pn : M pn = some (aII G 6 fp)) (h_p : M p = some (cPm G ro ba sa cp po li mk rd)) (h_ok : z_is pane 0 5 = 1) (h_ip : vp_in pane 6) (h_ij : pane.toNatClampNeg = i) (h_fp : fp i = some p) (n_p_tp : p ≠ tp) (n_p_td : p ≠ td) (n_td_tp : td ≠ tp) (h_or : z_or ba sa cp po li nt) : z_Mi l G qX5_get (z_rm 4 0 0) [.ref m, .int pane] M (fun r M' => ((¬ (li - po) = 0) ∧ r = (ft (((ba + sa) + ((po + 1) - 1)).toNatClampNeg)) ∧ M' = z_up (z_up M p (cPm G ro ba sa cp (po + 1) li mk rd)) m (cMd tp nr pn td (ac + 1) kn (z_lt (z_is pane 0 5) 1))) ∨ (((li - po) = 0) ∧ r = (-9) ∧ M' = z_up (z_up M m (cMd tp nr pn td ac kn (z_lt (z_is pane 0 5) 1))) td (aI G 6 (upd fd 2 ((fd 2) + 1)))))  := by
  refine z_Mi_of _ (plainFor_of_name rfl) rfl (Nat.le_of_ble_eq_true rfl) (fun X hl hG hnm C ret => ?_)
  subst hl; subst hG
  have C : z_C X cX5_get RX5 3 (z_rm 4 0 0) := C
  show z_W X M 0 0 0 [(0, .ref m), (1, .int pane)] []
  refine z_aload_n C dX5_get_0 rfl 0 rfl ?_
  refine z_iload_n C dX5_get_1 rfl 1 rfl ?_
  refine z_callSi (rest := [.ref m]) (k' := 0) (n' := 0) C (c_X5_isPane (z_l X) (z_G X) ) (cs_X5_55 C (by decide)) rfl rfl (Nat.le_of_ble_eq_true rfl) rfl rfl (by decide) (by decide) dX5_get_2 (fun x2 M' hq => ?_)
  obtain ⟨rfl, rfl⟩ := hq
  refine z_iconst C (v := 1) dX5_get_5 (by decide) ?_
  refine z_callVi (rest := []) (k' := 0) (n' := 0) C (c_X5_isLet (z_l X) (z_G X) h_m) (cs_X5_59 C (by decide)) h_m rfl rfl rfl rfl (Nat.le_of_ble_eq_true rfl) rfl rfl (by decide) (by decide) dX5_get_6 (fun x6 M' hq => ?_)
  obtain ⟨rfl, rfl⟩ := hq
  refine z_if_ne C (tgt := 14) dX5_get_9 (by decide) (fun _ => ?_) (fun c9 => absurd c9 (by simp [z_lr, z_lt, h_ok]))
  refine z_aload_n C dX5_get_14 rfl 0 rfl ?_
  refine gf_X5_18 C (z_up_s _ _ _) dX5_get_15 ?_
  refine z_iload_n C dX5_get_18 rfl 1 rfl ?_
  refine z_aaldI (j := i) C ((z_up_n _ _ (z_ne h_pn h_m (by intro h; cases h))).trans h_pn) h_ip h_ij h_fp dX5_get_19 ?_
  refine z_astore_n (lv' := [(2, .ref p), (0, .ref m), (1, .int pane)]) C dX5_get_20 rfl (by decide) rfl ?_
  refine z_aload_n C dX5_get_21 rfl 0 rfl ?_
  refine z_callSi (rest := []) (k' := 0) (n' := 0) C (c_X5_left (z_l X) (z_G X) ((z_up_n _ _ (z_ne h_p h_m (by intro h; cases h))).trans h_p)) (cs_X5_43 C (by decide)) rfl rfl (Nat.le_of_ble_eq_true rfl) rfl rfl (by decide) (by decide) dX5_get_22 (fun x22 M' hq => ?_)
  obtain ⟨rfl, rfl⟩ := hq
  refine z_if_ne C (tgt := 34) dX5_get_25 (by decide) (fun c25 => ?_) (fun c25 => ?_)
  · refine z_aload_n C dX5_get_34 rfl 0 rfl ?_
    refine z_iconst C (v := 4) dX5_get_35 (by decide) ?_
    refine z_dup2 C dX5_get_36 rfl rfl ?_
    refine z_pl4 C ((z_up_n _ _ (z_ne h_p h_m (by intro h; cases h))).trans h_p) dX5_get_37 ?_
    refine z_iconst C (v := 1) dX5_get_38 (by decide) ?_
    refine z_iadd C dX5_get_39 ?_
    refine z_ps4 C ((z_up_n _ _ (z_ne h_p h_m (by intro h; cases h))).trans h_p) dX5_get_40 ?_
    refine z_aload_n C dX5_get_41 rfl 1 rfl ?_
    refine z_aload_n C dX5_get_42 rfl 1 rfl ?_
    refine gf_X5_9 C ((z_up_n _ _ (z_ne h_m h_p (by intro h; cases h))).trans (z_up_s _ _ _)) dX5_get_43 ?_
    refine z_aload_n C dX5_get_46 rfl 1 rfl ?_
    refine z_aload_n C dX5_get_47 rfl 0 rfl ?_
    refine z_aload_n C dX5_get_48 rfl 0 rfl ?_
    refine z_iconst C (v := 4) dX5_get_49 (by decide) ?_
    refine z_pl4 C (z_up_s _ _ _) dX5_get_50 ?_
    refine z_iconst C (v := 1) dX5_get_51 (by decide) ?_
    refine z_isub C dX5_get_52 ?_
    refine z_callVi (rest := [.ref tp, .ref m]) (k' := 0) (n' := 0) C (c_X5_where (z_l X) (z_G X) (z_up_s _ _ _)) (cs_X5_51 C (by decide)) ((z_up_n _ _ (z_ne h_m h_p (by intro h; cases h))).trans (z_up_s _ _ _)) rfl rfl rfl rfl (Nat.le_of_ble_eq_true rfl) rfl rfl (by decide) (by decide) dX5_get_53 (fun x53 M' hq => ?_)
    obtain ⟨rfl, rfl⟩ := hq
    refine z_iald (j := ((ba + sa) + ((po + 1) - 1)).toNatClampNeg) C ((z_up_n _ _ (Ne.symm n_p_tp)).trans ((z_up_n _ _ (z_ne h_tp h_m (by intro h; cases h))).trans h_tp)) (z_orR h_or c25) rfl dX5_get_56 ?_
    refine z_callVi (rest := []) (k' := 0) (n' := 0) C (c_X5_did (z_l X) (z_G X) ((z_up_n _ _ (z_ne h_m h_p (by intro h; cases h))).trans (z_up_s _ _ _))) (cs_X5_63 C (by decide)) ((z_up_n _ _ (z_ne h_m h_p (by intro h; cases h))).trans (z_up_s _ _ _)) rfl rfl rfl rfl (Nat.le_of_ble_eq_true rfl) rfl rfl (by decide) (by decide) dX5_get_57 (fun x57 M' hq => ?_)
    obtain ⟨rfl, rfl⟩ := hq
    rw [z_up_swap _ (z_ne h_m h_p (by intro h; cases h))]
    rw [z_up_up]
    exact ret dX5_get_60 rfl (Or.inl ⟨c25, rfl, rfl⟩) (by decide) (by decide)
  · refine z_aload_n C dX5_get_28 rfl 1 rfl ?_
    refine z_iconst C (v := 2) dX5_get_29 (by decide) ?_
    refine z_callVi (rest := []) (k' := 0) (n' := 0) C (c_X5_refuse (z_l X) (z_G X) (z_up_s _ _ _) ((z_up_n _ _ (z_ne h_td h_m (by intro h; cases h))).trans h_td) (z_inL (by decide)) (show (2 : Int32).toNatClampNeg = 2 by decide)) (cs_X5_47 C (by decide)) (z_up_s _ _ _) rfl rfl rfl rfl (Nat.le_of_ble_eq_true rfl) rfl rfl (by decide) (by decide) dX5_get_30 (fun x30 M' hq => ?_)
    obtain ⟨rfl, rfl⟩ := hq
    exact ret dX5_get_33 rfl (Or.inr (⟨c25, rfl, rfl⟩)) (by decide) (by decide)
set_option maxRecDepth 20000 in
theorem c_X5_pop_bad (l : Launch) (G : zG) {M : zM} {m : Nat} {pane : Int32} {tp : Nat} {nr : Int32} {pn : Nat} {td : Nat} {ac : Int32} {kn : Int32} {th : Int32}  (h_m : M m = some (cMd tp nr pn td ac kn th)) (h_bad : z_is pane 0 5 = 0) : z_Mi l G qX5_pop (z_rm 4 0 0) [.ref m, .int pane] M (fun r M' => r = 0 ∧ M' = z_up M m (cMd tp nr pn td ac kn (z_lt (z_is pane 0 5) 1)))  := by
  refine z_Mi_of _ (plainFor_of_name rfl) rfl (Nat.le_of_ble_eq_true rfl) (fun X hl hG hnm C ret => ?_)
  subst hl; subst hG
  have C : z_C X cX5_pop RX5 3 (z_rm 4 0 0) := C
  show z_W X M 0 0 0 [(0, .ref m), (1, .int pane)] []
  refine z_aload_n C dX5_pop_0 rfl 0 rfl ?_
  refine z_iload_n C dX5_pop_1 rfl 1 rfl ?_
  refine z_callSi (rest := [.ref m]) (k' := 0) (n' := 0) C (c_X5_isPane (z_l X) (z_G X) ) (cs_X5_55 C (by decide)) rfl rfl (Nat.le_of_ble_eq_true rfl) rfl rfl (by decide) (by decide) dX5_pop_2 (fun x2 M' hq => ?_)
  obtain ⟨rfl, rfl⟩ := hq
  refine z_iconst C (v := 1) dX5_pop_5 (by decide) ?_
  refine z_callVi (rest := []) (k' := 0) (n' := 0) C (c_X5_isLet (z_l X) (z_G X) h_m) (cs_X5_59 C (by decide)) h_m rfl rfl rfl rfl (Nat.le_of_ble_eq_true rfl) rfl rfl (by decide) (by decide) dX5_pop_6 (fun x6 M' hq => ?_)
  obtain ⟨rfl, rfl⟩ := hq
  refine z_if_ne C (tgt := 14) dX5_pop_9 (by decide) (fun c9 => absurd (by simp [z_lr, z_lt, h_bad]) c9) (fun _ => ?_)
  refine z_iconst C (v := 0) dX5_pop_12 (by decide) ?_
  exact ret dX5_pop_13 rfl (⟨rfl, rfl⟩) (by decide) (by decide)
set_option maxRecDepth 20000 in
theorem c_X5_pop (l : Launch) (G : zG) {M : zM} {m : Nat} {pane : Int32} {tp : Nat} {nr : Int32} {pn : Nat} {td : Nat} {ac : Int32} {kn : Int32} {th : Int32} {fd : Nat → Int32} {nt : Nat} {ft : Nat → Int32} {fp : Nat → Option Nat} {p : Nat} {ro : Int32} {ba : Int32} {sa : Int32} {cp : Int32} {po : Int32} {li : Int32} {mk : Int32} {rd : Int32} {i : Nat}  (h_m : M m = some (cMd tp nr pn td ac kn th)) (h_td : M td = some (aI G 6 fd)) (h_tp : M tp = some (aI G nt ft)) (h_pn : M pn = some (aII G 6 fp)) (h_p : M p = some (cPm G ro ba sa cp po li mk rd)) (h_ok : z_is pane 0 5 = 1) (h_ip : vp_in pane 6) (h_ij : pane.toNatClampNeg = i) (h_fp : fp i = some p) (n_p_tp : p ≠ tp) (n_p_td : p ≠ td) (n_td_tp : td ≠ tp) (h_or : z_or ba sa cp po li nt) : z_Mi l G qX5_pop (z_rm 4 0 0) [.ref m, .int pane] M (fun r M' => ((¬ po = 0) ∧ (mk ≤ (po - 1)) ∧ r = (ft (((ba + sa) + (po - 1)).toNatClampNeg)) ∧ M' = z_up (z_up M p (cPm G ro ba sa cp (po - 1) li mk rd)) m (cMd tp nr pn td (ac + 1) kn (z_lt (z_is pane 0 5) 1))) ∨ ((¬ po = 0) ∧ (¬ mk ≤ (po - 1)) ∧ r = (ft (((ba + sa) + (po - 1)).toNatClampNeg)) ∧ M' = z_up (z_up M p (cPm G ro ba sa cp (po - 1) li (-1) rd)) m (cMd tp nr pn td (ac + 1) kn (z_lt (z_is pane 0 5) 1))) ∨ ((po = 0) ∧ r = (-9) ∧ M' = z_up (z_up M m (cMd tp nr pn td ac kn (z_lt (z_is pane 0 5) 1))) td (aI G 6 (upd fd 5 ((fd 5) + 1)))))  := by
  refine z_Mi_of _ (plainFor_of_name rfl) rfl (Nat.le_of_ble_eq_true rfl) (fun X hl hG hnm C ret => ?_)
  subst hl; subst hG
  have C : z_C X cX5_pop RX5 3 (z_rm 4 0 0) := C
  show z_W X M 0 0 0 [(0, .ref m), (1, .int pane)] []
  refine z_aload_n C dX5_pop_0 rfl 0 rfl ?_
  refine z_iload_n C dX5_pop_1 rfl 1 rfl ?_
  refine z_callSi (rest := [.ref m]) (k' := 0) (n' := 0) C (c_X5_isPane (z_l X) (z_G X) ) (cs_X5_55 C (by decide)) rfl rfl (Nat.le_of_ble_eq_true rfl) rfl rfl (by decide) (by decide) dX5_pop_2 (fun x2 M' hq => ?_)
  obtain ⟨rfl, rfl⟩ := hq
  refine z_iconst C (v := 1) dX5_pop_5 (by decide) ?_
  refine z_callVi (rest := []) (k' := 0) (n' := 0) C (c_X5_isLet (z_l X) (z_G X) h_m) (cs_X5_59 C (by decide)) h_m rfl rfl rfl rfl (Nat.le_of_ble_eq_true rfl) rfl rfl (by decide) (by decide) dX5_pop_6 (fun x6 M' hq => ?_)
  obtain ⟨rfl, rfl⟩ := hq
  refine z_if_ne C (tgt := 14) dX5_pop_9 (by decide) (fun _ => ?_) (fun c9 => absurd c9 (by simp [z_lr, z_lt, h_ok]))
  refine z_aload_n C dX5_pop_14 rfl 0 rfl ?_
  refine gf_X5_18 C (z_up_s _ _ _) dX5_pop_15 ?_
  refine z_iload_n C dX5_pop_18 rfl 1 rfl ?_
  refine z_aaldI (j := i) C ((z_up_n _ _ (z_ne h_pn h_m (by intro h; cases h))).trans h_pn) h_ip h_ij h_fp dX5_pop_19 ?_
  refine z_astore_n (lv' := [(2, .ref p), (0, .ref m), (1, .int pane)]) C dX5_pop_20 rfl (by decide) rfl ?_
  refine z_aload_n C dX5_pop_21 rfl 0 rfl ?_
  refine z_iconst C (v := 4) dX5_pop_22 (by decide) ?_
  refine z_pl4 C ((z_up_n _ _ (z_ne h_p h_m (by intro h; cases h))).trans h_p) dX5_pop_23 ?_
  refine z_if_ne C (tgt := 33) dX5_pop_24 (by decide) (fun c24 => ?_) (fun c24 => ?_)
  · refine z_aload_n C dX5_pop_33 rfl 1 rfl ?_
    refine z_aload_n C dX5_pop_34 rfl 0 rfl ?_
    refine z_aload_n C dX5_pop_35 rfl 0 rfl ?_
    refine z_iconst C (v := 4) dX5_pop_36 (by decide) ?_
    refine z_pl4 C ((z_up_n _ _ (z_ne h_p h_m (by intro h; cases h))).trans h_p) dX5_pop_37 ?_
    refine z_iconst C (v := 1) dX5_pop_38 (by decide) ?_
    refine z_isub C dX5_pop_39 ?_
    refine z_callVv (rest := []) (k' := 0) (n' := 0) C (c_X5_moved (z_l X) (z_G X) ((z_up_n _ _ (z_ne h_p h_m (by intro h; cases h))).trans h_p)) (cs_X5_74 C (by decide)) (z_up_s _ _ _) rfl rfl rfl rfl (Nat.le_of_ble_eq_true rfl) rfl rfl (by decide) (by decide) dX5_pop_40 (fun M' hq => ?_)
    obtain ⟨d40_0, rfl⟩ | ⟨d40_0, rfl⟩ := hq
    · refine z_aload_n C dX5_pop_43 rfl 1 rfl ?_
      refine z_aload_n C dX5_pop_44 rfl 1 rfl ?_
      refine gf_X5_9 C ((z_up_n _ _ (z_ne h_m h_p (by intro h; cases h))).trans (z_up_s _ _ _)) dX5_pop_45 ?_
      refine z_aload_n C dX5_pop_48 rfl 1 rfl ?_
      refine z_aload_n C dX5_pop_49 rfl 0 rfl ?_
      refine z_aload_n C dX5_pop_50 rfl 0 rfl ?_
      refine z_iconst C (v := 4) dX5_pop_51 (by decide) ?_
      refine z_pl4 C (z_up_s _ _ _) dX5_pop_52 ?_
      refine z_callVi (rest := [.ref tp, .ref m]) (k' := 0) (n' := 0) C (c_X5_where (z_l X) (z_G X) (z_up_s _ _ _)) (cs_X5_51 C (by decide)) ((z_up_n _ _ (z_ne h_m h_p (by intro h; cases h))).trans (z_up_s _ _ _)) rfl rfl rfl rfl (Nat.le_of_ble_eq_true rfl) rfl rfl (by decide) (by decide) dX5_pop_53 (fun x53 M' hq => ?_)
      obtain ⟨rfl, rfl⟩ := hq
      refine z_iald (j := ((ba + sa) + (po - 1)).toNatClampNeg) C ((z_up_n _ _ (Ne.symm n_p_tp)).trans ((z_up_n _ _ (z_ne h_tp h_m (by intro h; cases h))).trans h_tp)) (z_orQ h_or c24) rfl dX5_pop_56 ?_
      refine z_callVi (rest := []) (k' := 0) (n' := 0) C (c_X5_did (z_l X) (z_G X) ((z_up_n _ _ (z_ne h_m h_p (by intro h; cases h))).trans (z_up_s _ _ _))) (cs_X5_63 C (by decide)) ((z_up_n _ _ (z_ne h_m h_p (by intro h; cases h))).trans (z_up_s _ _ _)) rfl rfl rfl rfl (Nat.le_of_ble_eq_true rfl) rfl rfl (by decide) (by decide) dX5_pop_57 (fun x57 M' hq => ?_)
      obtain ⟨rfl, rfl⟩ := hq
      rw [z_up_swap _ (z_ne h_m h_p (by intro h; cases h))]
      rw [z_up_up]
      exact ret dX5_pop_60 rfl (Or.inl ⟨c24, d40_0, rfl, rfl⟩) (by decide) (by decide)
    · refine z_aload_n C dX5_pop_43 rfl 1 rfl ?_
      refine z_aload_n C dX5_pop_44 rfl 1 rfl ?_
      refine gf_X5_9 C ((z_up_n _ _ (z_ne h_m h_p (by intro h; cases h))).trans (z_up_s _ _ _)) dX5_pop_45 ?_
      refine z_aload_n C dX5_pop_48 rfl 1 rfl ?_
      refine z_aload_n C dX5_pop_49 rfl 0 rfl ?_
      refine z_aload_n C dX5_pop_50 rfl 0 rfl ?_
      refine z_iconst C (v := 4) dX5_pop_51 (by decide) ?_
      refine z_pl4 C (z_up_s _ _ _) dX5_pop_52 ?_
      refine z_callVi (rest := [.ref tp, .ref m]) (k' := 0) (n' := 0) C (c_X5_where (z_l X) (z_G X) (z_up_s _ _ _)) (cs_X5_51 C (by decide)) ((z_up_n _ _ (z_ne h_m h_p (by intro h; cases h))).trans (z_up_s _ _ _)) rfl rfl rfl rfl (Nat.le_of_ble_eq_true rfl) rfl rfl (by decide) (by decide) dX5_pop_53 (fun x53 M' hq => ?_)
      obtain ⟨rfl, rfl⟩ := hq
      refine z_iald (j := ((ba + sa) + (po - 1)).toNatClampNeg) C ((z_up_n _ _ (Ne.symm n_p_tp)).trans ((z_up_n _ _ (z_ne h_tp h_m (by intro h; cases h))).trans h_tp)) (z_orQ h_or c24) rfl dX5_pop_56 ?_
      refine z_callVi (rest := []) (k' := 0) (n' := 0) C (c_X5_did (z_l X) (z_G X) ((z_up_n _ _ (z_ne h_m h_p (by intro h; cases h))).trans (z_up_s _ _ _))) (cs_X5_63 C (by decide)) ((z_up_n _ _ (z_ne h_m h_p (by intro h; cases h))).trans (z_up_s _ _ _)) rfl rfl rfl rfl (Nat.le_of_ble_eq_true rfl) rfl rfl (by decide) (by decide) dX5_pop_57 (fun x57 M' hq => ?_)
      obtain ⟨rfl, rfl⟩ := hq
      rw [z_up_swap _ (z_ne h_m h_p (by intro h; cases h))]
      rw [z_up_up]
      exact ret dX5_pop_60 rfl (Or.inr (Or.inl ⟨c24, d40_0, rfl, rfl⟩)) (by decide) (by decide)
  · refine z_aload_n C dX5_pop_27 rfl 1 rfl ?_
    refine z_iconst C (v := 5) dX5_pop_28 (by decide) ?_
    refine z_callVi (rest := []) (k' := 0) (n' := 0) C (c_X5_refuse (z_l X) (z_G X) (z_up_s _ _ _) ((z_up_n _ _ (z_ne h_td h_m (by intro h; cases h))).trans h_td) (z_inL (by decide)) (show (5 : Int32).toNatClampNeg = 5 by decide)) (cs_X5_47 C (by decide)) (z_up_s _ _ _) rfl rfl rfl rfl (Nat.le_of_ble_eq_true rfl) rfl rfl (by decide) (by decide) dX5_pop_29 (fun x29 M' hq => ?_)
    obtain ⟨rfl, rfl⟩ := hq
    exact ret dX5_pop_32 rfl (Or.inr (Or.inr (⟨c24, rfl, rfl⟩))) (by decide) (by decide)
set_option maxRecDepth 20000 in
theorem c_X5_peek_bad (l : Launch) (G : zG) {M : zM} {m : Nat} {pane : Int32} {tp : Nat} {nr : Int32} {pn : Nat} {td : Nat} {ac : Int32} {kn : Int32} {th : Int32}  (h_m : M m = some (cMd tp nr pn td ac kn th)) (h_bad : z_is pane 0 5 = 0) : z_Mi l G qX5_peek (z_rm 4 0 0) [.ref m, .int pane] M (fun r M' => r = 0 ∧ M' = z_up M m (cMd tp nr pn td ac kn (z_lt (z_is pane 0 5) 1)))  := by
  refine z_Mi_of _ (plainFor_of_name rfl) rfl (Nat.le_of_ble_eq_true rfl) (fun X hl hG hnm C ret => ?_)
  subst hl; subst hG
  have C : z_C X cX5_peek RX5 2 (z_rm 4 0 0) := C
  show z_W X M 0 0 0 [(0, .ref m), (1, .int pane)] []
  refine z_aload_n C dX5_peek_0 rfl 0 rfl ?_
  refine z_iload_n C dX5_peek_1 rfl 1 rfl ?_
  refine z_callSi (rest := [.ref m]) (k' := 0) (n' := 0) C (c_X5_isPane (z_l X) (z_G X) ) (cs_X5_55 C (by decide)) rfl rfl (Nat.le_of_ble_eq_true rfl) rfl rfl (by decide) (by decide) dX5_peek_2 (fun x2 M' hq => ?_)
  obtain ⟨rfl, rfl⟩ := hq
  refine z_iconst C (v := 1) dX5_peek_5 (by decide) ?_
  refine z_callVi (rest := []) (k' := 0) (n' := 0) C (c_X5_isLet (z_l X) (z_G X) h_m) (cs_X5_59 C (by decide)) h_m rfl rfl rfl rfl (Nat.le_of_ble_eq_true rfl) rfl rfl (by decide) (by decide) dX5_peek_6 (fun x6 M' hq => ?_)
  obtain ⟨rfl, rfl⟩ := hq
  refine z_if_eq C (tgt := 55) dX5_peek_9 (by decide) (fun _ => ?_) (fun c9 => absurd (by simp [z_lr, z_lt, h_bad]) c9)
  refine z_iconst C (v := 0) dX5_peek_55 (by decide) ?_
  exact ret dX5_peek_56 rfl (⟨rfl, rfl⟩) (by decide) (by decide)
set_option maxRecDepth 20000 in
theorem c_X5_peek (l : Launch) (G : zG) {M : zM} {m : Nat} {pane : Int32} {tp : Nat} {nr : Int32} {pn : Nat} {td : Nat} {ac : Int32} {kn : Int32} {th : Int32} {nt : Nat} {ft : Nat → Int32} {fp : Nat → Option Nat} {p : Nat} {ro : Int32} {ba : Int32} {sa : Int32} {cp : Int32} {po : Int32} {li : Int32} {mk : Int32} {rd : Int32} {i : Nat}  (h_m : M m = some (cMd tp nr pn td ac kn th)) (h_tp : M tp = some (aI G nt ft)) (h_pn : M pn = some (aII G 6 fp)) (h_p : M p = some (cPm G ro ba sa cp po li mk rd)) (h_ok : z_is pane 0 5 = 1) (h_ip : vp_in pane 6) (h_ij : pane.toNatClampNeg = i) (h_fp : fp i = some p) (n_p_tp : p ≠ tp) (h_or : z_or ba sa cp po li nt) : z_Mi l G qX5_peek (z_rm 4 0 0) [.ref m, .int pane] M (fun r M' => ((¬ (li - po) = 0) ∧ r = ft (((ba + sa) + po).toNatClampNeg) ∧ M' = z_up M m (cMd tp nr pn td ac kn (z_lt (z_is pane 0 5) 1))) ∨ (((li - po) = 0) ∧ r = (-9) ∧ M' = z_up M m (cMd tp nr pn td ac kn (z_lt (z_is pane 0 5) 1))))  := by
  refine z_Mi_of _ (plainFor_of_name rfl) rfl (Nat.le_of_ble_eq_true rfl) (fun X hl hG hnm C ret => ?_)
  subst hl; subst hG
  have C : z_C X cX5_peek RX5 2 (z_rm 4 0 0) := C
  show z_W X M 0 0 0 [(0, .ref m), (1, .int pane)] []
  refine z_aload_n C dX5_peek_0 rfl 0 rfl ?_
  refine z_iload_n C dX5_peek_1 rfl 1 rfl ?_
  refine z_callSi (rest := [.ref m]) (k' := 0) (n' := 0) C (c_X5_isPane (z_l X) (z_G X) ) (cs_X5_55 C (by decide)) rfl rfl (Nat.le_of_ble_eq_true rfl) rfl rfl (by decide) (by decide) dX5_peek_2 (fun x2 M' hq => ?_)
  obtain ⟨rfl, rfl⟩ := hq
  refine z_iconst C (v := 1) dX5_peek_5 (by decide) ?_
  refine z_callVi (rest := []) (k' := 0) (n' := 0) C (c_X5_isLet (z_l X) (z_G X) h_m) (cs_X5_59 C (by decide)) h_m rfl rfl rfl rfl (Nat.le_of_ble_eq_true rfl) rfl rfl (by decide) (by decide) dX5_peek_6 (fun x6 M' hq => ?_)
  obtain ⟨rfl, rfl⟩ := hq
  refine z_if_eq C (tgt := 55) dX5_peek_9 (by decide) (fun c9 => absurd c9 (by simp [z_lr, z_lt, h_ok])) (fun _ => ?_)
  refine z_aload_n C dX5_peek_12 rfl 0 rfl ?_
  refine gf_X5_18 C (z_up_s _ _ _) dX5_peek_13 ?_
  refine z_iload_n C dX5_peek_16 rfl 1 rfl ?_
  refine z_aaldI (j := i) C ((z_up_n _ _ (z_ne h_pn h_m (by intro h; cases h))).trans h_pn) h_ip h_ij h_fp dX5_peek_17 ?_
  refine z_callSi (rest := []) (k' := 0) (n' := 0) C (c_X5_left (z_l X) (z_G X) ((z_up_n _ _ (z_ne h_p h_m (by intro h; cases h))).trans h_p)) (cs_X5_43 C (by decide)) rfl rfl (Nat.le_of_ble_eq_true rfl) rfl rfl (by decide) (by decide) dX5_peek_18 (fun x18 M' hq => ?_)
  obtain ⟨rfl, rfl⟩ := hq
  refine z_if_ne C (tgt := 29) dX5_peek_21 (by decide) (fun c21 => ?_) (fun c21 => ?_)
  · refine z_aload_n C dX5_peek_29 rfl 0 rfl ?_
    refine gf_X5_9 C (z_up_s _ _ _) dX5_peek_30 ?_
    refine z_aload_n C dX5_peek_33 rfl 0 rfl ?_
    refine z_aload_n C dX5_peek_34 rfl 0 rfl ?_
    refine gf_X5_18 C (z_up_s _ _ _) dX5_peek_35 ?_
    refine z_iload_n C dX5_peek_38 rfl 1 rfl ?_
    refine z_aaldI (j := i) C ((z_up_n _ _ (z_ne h_pn h_m (by intro h; cases h))).trans h_pn) h_ip h_ij h_fp dX5_peek_39 ?_
    refine z_aload_n C dX5_peek_40 rfl 0 rfl ?_
    refine gf_X5_18 C (z_up_s _ _ _) dX5_peek_41 ?_
    refine z_iload_n C dX5_peek_44 rfl 1 rfl ?_
    refine z_aaldI (j := i) C ((z_up_n _ _ (z_ne h_pn h_m (by intro h; cases h))).trans h_pn) h_ip h_ij h_fp dX5_peek_45 ?_
    refine z_iconst C (v := 4) dX5_peek_46 (by decide) ?_
    refine z_pl4 C ((z_up_n _ _ (z_ne h_p h_m (by intro h; cases h))).trans h_p) dX5_peek_47 ?_
    refine z_callVi (rest := [.ref tp]) (k' := 0) (n' := 0) C (c_X5_where (z_l X) (z_G X) ((z_up_n _ _ (z_ne h_p h_m (by intro h; cases h))).trans h_p)) (cs_X5_51 C (by decide)) (z_up_s _ _ _) rfl rfl rfl rfl (Nat.le_of_ble_eq_true rfl) rfl rfl (by decide) (by decide) dX5_peek_48 (fun x48 M' hq => ?_)
    obtain ⟨rfl, rfl⟩ := hq
    refine z_iald (j := ((ba + sa) + po).toNatClampNeg) C ((z_up_n _ _ (z_ne h_tp h_m (by intro h; cases h))).trans h_tp) (z_orP h_or c21) rfl dX5_peek_51 ?_
    refine z_goto C (tgt := 56) dX5_peek_52 (by decide) ?_
    exact ret dX5_peek_56 rfl (Or.inl ⟨c21, rfl, rfl⟩) (by decide) (by decide)
  · refine z_bipush C (v := (-9)) dX5_peek_24 (by decide) ?_
    refine z_goto C (tgt := 56) dX5_peek_26 (by decide) ?_
    exact ret dX5_peek_56 rfl (Or.inr (⟨c21, rfl, rfl⟩)) (by decide) (by decide)
set_option maxRecDepth 20000 in
theorem c_X5_would_bad (l : Launch) (G : zG) {M : zM} {m : Nat} {pane : Int32} {wh : Int32} {tp : Nat} {nr : Int32} {pn : Nat} {td : Nat} {ac : Int32} {kn : Int32} {th : Int32}  (h_m : M m = some (cMd tp nr pn td ac kn th)) (h_bad : z_is pane 0 5 = 0) : z_Mi l G qX5_would (z_rm 4 0 0) [.ref m, .int pane, .int wh] M (fun r M' => r = 0 ∧ M' = z_up M m (cMd tp nr pn td ac kn (z_lt (z_is pane 0 5) (z_is wh 0 3))))  := by
  refine z_Mi_of _ (plainFor_of_name rfl) rfl (Nat.le_of_ble_eq_true rfl) (fun X hl hG hnm C ret => ?_)
  subst hl; subst hG
  have C : z_C X cX5_would RX5 4 (z_rm 4 0 0) := C
  show z_W X M 0 0 0 [(0, .ref m), (1, .int pane), (2, .int wh)] []
  refine z_aload_n C dX5_would_0 rfl 0 rfl ?_
  refine z_iload_n C dX5_would_1 rfl 1 rfl ?_
  refine z_callSi (rest := [.ref m]) (k' := 0) (n' := 0) C (c_X5_isPane (z_l X) (z_G X) ) (cs_X5_55 C (by decide)) rfl rfl (Nat.le_of_ble_eq_true rfl) rfl rfl (by decide) (by decide) dX5_would_2 (fun x2 M' hq => ?_)
  obtain ⟨rfl, rfl⟩ := hq
  refine z_iload_n C dX5_would_5 rfl 2 rfl ?_
  refine z_iconst C (v := 0) dX5_would_6 (by decide) ?_
  refine z_iconst C (v := 3) dX5_would_7 (by decide) ?_
  refine z_callSi (rest := [.int (z_is pane 0 5), .ref m]) (k' := 0) (n' := 0) C (c_X5_isIn (z_l X) (z_G X) ) (cs_X5_36 C (by decide)) rfl rfl (Nat.le_of_ble_eq_true rfl) rfl rfl (by decide) (by decide) dX5_would_8 (fun x8 M' hq => ?_)
  obtain ⟨rfl, rfl⟩ := hq
  refine z_callVi (rest := []) (k' := 0) (n' := 0) C (c_X5_isLet (z_l X) (z_G X) h_m) (cs_X5_59 C (by decide)) h_m rfl rfl rfl rfl (Nat.le_of_ble_eq_true rfl) rfl rfl (by decide) (by decide) dX5_would_11 (fun x11 M' hq => ?_)
  obtain ⟨rfl, rfl⟩ := hq
  refine z_if_ne C (tgt := 19) dX5_would_14 (by decide) (fun c14 => absurd (by simp [z_lr, z_lt, h_bad]) c14) (fun _ => ?_)
  refine z_iconst C (v := 0) dX5_would_17 (by decide) ?_
  exact ret dX5_would_18 rfl (⟨rfl, rfl⟩) (by decide) (by decide)
set_option maxRecDepth 20000 in
theorem c_X5_would (l : Launch) (G : zG) {M : zM} {m : Nat} {pane : Int32} {wh : Int32} {tp : Nat} {nr : Int32} {pn : Nat} {td : Nat} {ac : Int32} {kn : Int32} {th : Int32} {fp : Nat → Option Nat} {p : Nat} {ro : Int32} {ba : Int32} {sa : Int32} {cp : Int32} {po : Int32} {li : Int32} {mk : Int32} {rd : Int32} {i : Nat}  (h_m : M m = some (cMd tp nr pn td ac kn th)) (h_pn : M pn = some (aII G 6 fp)) (h_p : M p = some (cPm G ro ba sa cp po li mk rd)) (h_ok : z_is pane 0 5 = 1) (h_ip : vp_in pane 6) (h_ij : pane.toNatClampNeg = i) (h_fp : fp i = some p) : z_Mi l G qX5_would (z_rm 4 0 0) [.ref m, .int pane, .int wh] M (fun r M' => ((¬ (z_lr (z_is pane 0 5) (z_is wh 0 3)) = 0) ∧ (¬ wh = 3) ∧ (¬ wh = 0) ∧ (¬ wh = 1) ∧ r = li ∧ M' = z_up M m (cMd tp nr pn td ac kn (z_lt (z_is pane 0 5) (z_is wh 0 3)))) ∨ ((¬ (z_lr (z_is pane 0 5) (z_is wh 0 3)) = 0) ∧ (¬ wh = 3) ∧ (¬ wh = 0) ∧ (wh = 1) ∧ r = po ∧ M' = z_up M m (cMd tp nr pn td ac kn (z_lt (z_is pane 0 5) (z_is wh 0 3)))) ∨ ((¬ (z_lr (z_is pane 0 5) (z_is wh 0 3)) = 0) ∧ (¬ wh = 3) ∧ (wh = 0) ∧ r = cp ∧ M' = z_up M m (cMd tp nr pn td ac kn (z_lt (z_is pane 0 5) (z_is wh 0 3)))) ∨ ((¬ (z_lr (z_is pane 0 5) (z_is wh 0 3)) = 0) ∧ (wh = 3) ∧ (¬ mk = (-1)) ∧ r = li - mk ∧ M' = z_up M m (cMd tp nr pn td ac kn (z_lt (z_is pane 0 5) (z_is wh 0 3)))) ∨ ((¬ (z_lr (z_is pane 0 5) (z_is wh 0 3)) = 0) ∧ (wh = 3) ∧ (mk = (-1)) ∧ r = (-9) ∧ M' = z_up M m (cMd tp nr pn td ac kn (z_lt (z_is pane 0 5) (z_is wh 0 3)))) ∨ (((z_lr (z_is pane 0 5) (z_is wh 0 3)) = 0) ∧ r = 0 ∧ M' = z_up M m (cMd tp nr pn td ac kn (z_lt (z_is pane 0 5) (z_is wh 0 3)))))  := by
  refine z_Mi_of _ (plainFor_of_name rfl) rfl (Nat.le_of_ble_eq_true rfl) (fun X hl hG hnm C ret => ?_)
  subst hl; subst hG
  have C : z_C X cX5_would RX5 4 (z_rm 4 0 0) := C
  show z_W X M 0 0 0 [(0, .ref m), (1, .int pane), (2, .int wh)] []
  refine z_aload_n C dX5_would_0 rfl 0 rfl ?_
  refine z_iload_n C dX5_would_1 rfl 1 rfl ?_
  refine z_callSi (rest := [.ref m]) (k' := 0) (n' := 0) C (c_X5_isPane (z_l X) (z_G X) ) (cs_X5_55 C (by decide)) rfl rfl (Nat.le_of_ble_eq_true rfl) rfl rfl (by decide) (by decide) dX5_would_2 (fun x2 M' hq => ?_)
  obtain ⟨rfl, rfl⟩ := hq
  refine z_iload_n C dX5_would_5 rfl 2 rfl ?_
  refine z_iconst C (v := 0) dX5_would_6 (by decide) ?_
  refine z_iconst C (v := 3) dX5_would_7 (by decide) ?_
  refine z_callSi (rest := [.int (z_is pane 0 5), .ref m]) (k' := 0) (n' := 0) C (c_X5_isIn (z_l X) (z_G X) ) (cs_X5_36 C (by decide)) rfl rfl (Nat.le_of_ble_eq_true rfl) rfl rfl (by decide) (by decide) dX5_would_8 (fun x8 M' hq => ?_)
  obtain ⟨rfl, rfl⟩ := hq
  refine z_callVi (rest := []) (k' := 0) (n' := 0) C (c_X5_isLet (z_l X) (z_G X) h_m) (cs_X5_59 C (by decide)) h_m rfl rfl rfl rfl (Nat.le_of_ble_eq_true rfl) rfl rfl (by decide) (by decide) dX5_would_11 (fun x11 M' hq => ?_)
  obtain ⟨rfl, rfl⟩ := hq
  refine z_if_ne C (tgt := 19) dX5_would_14 (by decide) (fun c14 => ?_) (fun c14 => ?_)
  · refine z_aload_n C dX5_would_19 rfl 0 rfl ?_
    refine gf_X5_18 C (z_up_s _ _ _) dX5_would_20 ?_
    refine z_iload_n C dX5_would_23 rfl 1 rfl ?_
    refine z_aaldI (j := i) C ((z_up_n _ _ (z_ne h_pn h_m (by intro h; cases h))).trans h_pn) h_ip h_ij h_fp dX5_would_24 ?_
    refine z_astore_n (lv' := [(3, .ref p), (0, .ref m), (1, .int pane), (2, .int wh)]) C dX5_would_25 rfl (by decide) rfl ?_
    refine z_iload_n C dX5_would_26 rfl 3 rfl ?_
    refine z_iconst C (v := 3) dX5_would_27 (by decide) ?_
    refine z_icmp_ne C (tgt := 53) dX5_would_28 (by decide) (fun c28 => ?_) (fun c28 => ?_)
    · refine z_iload_n C dX5_would_53 rfl 3 rfl ?_
      refine z_if_ne C (tgt := 63) dX5_would_54 (by decide) (fun c54 => ?_) (fun c54 => ?_)
      · refine z_iload_n C dX5_would_63 rfl 3 rfl ?_
        refine z_iconst C (v := 1) dX5_would_64 (by decide) ?_
        refine z_icmp_ne C (tgt := 74) dX5_would_65 (by decide) (fun c65 => ?_) (fun c65 => ?_)
        · refine z_aload_n C dX5_would_74 rfl 0 rfl ?_
          refine z_iconst C (v := 5) dX5_would_75 (by decide) ?_
          refine z_pl5 C ((z_up_n _ _ (z_ne h_p h_m (by intro h; cases h))).trans h_p) dX5_would_76 ?_
          exact ret dX5_would_77 rfl (Or.inl ⟨c14, c28, c54, c65, rfl, rfl⟩) (by decide) (by decide)
        · refine z_aload_n C dX5_would_68 rfl 0 rfl ?_
          refine z_iconst C (v := 4) dX5_would_69 (by decide) ?_
          refine z_pl4 C ((z_up_n _ _ (z_ne h_p h_m (by intro h; cases h))).trans h_p) dX5_would_70 ?_
          refine z_goto C (tgt := 77) dX5_would_71 (by decide) ?_
          exact ret dX5_would_77 rfl (Or.inr (Or.inl ⟨c14, c28, c54, c65, rfl, rfl⟩)) (by decide) (by decide)
      · refine z_aload_n C dX5_would_57 rfl 0 rfl ?_
        refine z_iconst C (v := 3) dX5_would_58 (by decide) ?_
        refine z_pl3 C ((z_up_n _ _ (z_ne h_p h_m (by intro h; cases h))).trans h_p) dX5_would_59 ?_
        refine z_goto C (tgt := 77) dX5_would_60 (by decide) ?_
        exact ret dX5_would_77 rfl (Or.inr (Or.inr (Or.inl ⟨c14, c28, c54, rfl, rfl⟩))) (by decide) (by decide)
    · refine z_aload_n C dX5_would_31 rfl 0 rfl ?_
      refine z_bipush C (v := 6) dX5_would_32 (by decide) ?_
      refine z_pl6 C ((z_up_n _ _ (z_ne h_p h_m (by intro h; cases h))).trans h_p) dX5_would_34 ?_
      refine z_iconst C (v := (-1)) dX5_would_35 (by decide) ?_
      refine z_icmp_ne C (tgt := 44) dX5_would_36 (by decide) (fun c36 => ?_) (fun c36 => ?_)
      · refine z_aload_n C dX5_would_44 rfl 0 rfl ?_
        refine z_iconst C (v := 5) dX5_would_45 (by decide) ?_
        refine z_pl5 C ((z_up_n _ _ (z_ne h_p h_m (by intro h; cases h))).trans h_p) dX5_would_46 ?_
        refine z_aload_n C dX5_would_47 rfl 0 rfl ?_
        refine z_bipush C (v := 6) dX5_would_48 (by decide) ?_
        refine z_pl6 C ((z_up_n _ _ (z_ne h_p h_m (by intro h; cases h))).trans h_p) dX5_would_50 ?_
        refine z_isub C dX5_would_51 ?_
        exact ret dX5_would_52 rfl (Or.inr (Or.inr (Or.inr (Or.inl ⟨c14, c28, c36, rfl, rfl⟩)))) (by decide) (by decide)
      · refine z_bipush C (v := (-9)) dX5_would_39 (by decide) ?_
        refine z_goto C (tgt := 52) dX5_would_41 (by decide) ?_
        exact ret dX5_would_52 rfl (Or.inr (Or.inr (Or.inr (Or.inr (Or.inl ⟨c14, c28, c36, rfl, rfl⟩))))) (by decide) (by decide)
  · refine z_iconst C (v := 0) dX5_would_17 (by decide) ?_
    exact ret dX5_would_18 rfl (Or.inr (Or.inr (Or.inr (Or.inr (Or.inr (⟨c14, rfl, rfl⟩)))))) (by decide) (by decide)
set_option maxRecDepth 20000 in
theorem c_X5_lay (l : Launch) (G : zG) {M : zM} {m : Nat} {pl : Int32} {v : Int32} {tp : Nat} {nr : Int32} {pn : Nat} {td : Nat} {ac : Int32} {kn : Int32} {th : Int32} {nt : Nat} {ft : Nat → Int32}  (h_m : M m = some (cMd tp nr pn td ac kn th)) (h_tp : M tp = some (aI G nt ft)) (h_nt : 16 ≤ nt ∧ nt < 100000) : z_Mi l G qX5_lay (z_rm 3 0 0) [.ref m, .int pl, .int v] M (fun r M' => ((v < 0) ∧ ((z_lr (z_is pl 0 15) 0) = 0) ∧ r = 0 ∧ M' = z_up M m (cMd tp nr pn td ac kn (z_lt (z_is pl 0 15) 0))) ∨ ((v < 0) ∧ (¬ (z_lr (z_is pl 0 15) 0) = 0) ∧ r = (ft pl.toNatClampNeg) ∧ M' = z_up (z_up M tp (aI G nt (upd ft pl.toNatClampNeg v))) m (cMd tp nr pn td (ac + 1) kn (z_lt (z_is pl 0 15) 0))) ∨ ((¬ v < 0) ∧ ((z_lr (z_is pl 0 15) 1) = 0) ∧ r = 0 ∧ M' = z_up M m (cMd tp nr pn td ac kn (z_lt (z_is pl 0 15) 1))) ∨ ((¬ v < 0) ∧ (¬ (z_lr (z_is pl 0 15) 1) = 0) ∧ r = (ft pl.toNatClampNeg) ∧ M' = z_up (z_up M tp (aI G nt (upd ft pl.toNatClampNeg v))) m (cMd tp nr pn td (ac + 1) kn (z_lt (z_is pl 0 15) 1))))  := by
  refine z_Mi_of _ (plainFor_of_name rfl) rfl (Nat.le_of_ble_eq_true rfl) (fun X hl hG hnm C ret => ?_)
  subst hl; subst hG
  have C : z_C X cX5_lay RX5 3 (z_rm 3 0 0) := C
  show z_W X M 0 0 0 [(0, .ref m), (1, .int pl), (2, .int v)] []
  refine z_aload_n C dX5_lay_0 rfl 0 rfl ?_
  refine z_iload_n C dX5_lay_1 rfl 1 rfl ?_
  refine z_iconst C (v := 0) dX5_lay_2 (by decide) ?_
  refine z_bipush C (v := 15) dX5_lay_3 (by decide) ?_
  refine z_callSi (rest := [.ref m]) (k' := 0) (n' := 0) C (c_X5_isIn (z_l X) (z_G X) ) (cs_X5_36 C (by decide)) rfl rfl (Nat.le_of_ble_eq_true rfl) rfl rfl (by decide) (by decide) dX5_lay_5 (fun x5 M' hq => ?_)
  obtain ⟨rfl, rfl⟩ := hq
  refine z_iload_n C dX5_lay_8 rfl 2 rfl ?_
  refine z_if_lt C (tgt := 16) dX5_lay_9 (by decide) (fun c9 => ?_) (fun c9 => ?_)
  · refine z_iconst C (v := 0) dX5_lay_16 (by decide) ?_
    refine z_callVi (rest := []) (k' := 0) (n' := 0) C (c_X5_isLet (z_l X) (z_G X) h_m) (cs_X5_59 C (by decide)) h_m rfl rfl rfl rfl (Nat.le_of_ble_eq_true rfl) rfl rfl (by decide) (by decide) dX5_lay_17 (fun x17 M' hq => ?_)
    obtain ⟨rfl, rfl⟩ := hq
    refine z_if_eq C (tgt := 36) dX5_lay_20 (by decide) (fun c20 => ?_) (fun c20 => ?_)
    · refine z_iconst C (v := 0) dX5_lay_36 (by decide) ?_
      exact ret dX5_lay_37 rfl (Or.inl ⟨c9, c20, rfl, rfl⟩) (by decide) (by decide)
    · refine z_aload_n C dX5_lay_23 rfl 0 rfl ?_
      refine z_aload_n C dX5_lay_24 rfl 0 rfl ?_
      refine z_iload_n C dX5_lay_25 rfl 1 rfl ?_
      refine z_iload_n C dX5_lay_26 rfl 2 rfl ?_
      refine z_callVi (rest := [.ref m]) (k' := 0) (n' := 0) C (c_X5_written (z_l X) (z_G X) (z_up_s _ _ _) ((z_up_n _ _ (z_ne h_tp h_m (by intro h; cases h))).trans h_tp) (z_lay h_nt c20)) (cs_X5_95 C (by decide)) (z_up_s _ _ _) rfl rfl rfl rfl (Nat.le_of_ble_eq_true rfl) rfl rfl (by decide) (by decide) dX5_lay_27 (fun x27 M' hq => ?_)
      obtain ⟨rfl, rfl⟩ := hq
      refine z_callVi (rest := []) (k' := 0) (n' := 0) C (c_X5_did (z_l X) (z_G X) ((z_up_n _ _ (z_ne h_m h_tp (by intro h; cases h))).trans (z_up_s _ _ _))) (cs_X5_63 C (by decide)) ((z_up_n _ _ (z_ne h_m h_tp (by intro h; cases h))).trans (z_up_s _ _ _)) rfl rfl rfl rfl (Nat.le_of_ble_eq_true rfl) rfl rfl (by decide) (by decide) dX5_lay_30 (fun x30 M' hq => ?_)
      obtain ⟨rfl, rfl⟩ := hq
      rw [z_up_swap _ (z_ne h_m h_tp (by intro h; cases h))]
      rw [z_up_up]
      refine z_goto C (tgt := 37) dX5_lay_33 (by decide) ?_
      exact ret dX5_lay_37 rfl (Or.inr (Or.inl ⟨c9, c20, rfl, rfl⟩)) (by decide) (by decide)
  · refine z_iconst C (v := 1) dX5_lay_12 (by decide) ?_
    refine z_goto C (tgt := 17) dX5_lay_13 (by decide) ?_
    refine z_callVi (rest := []) (k' := 0) (n' := 0) C (c_X5_isLet (z_l X) (z_G X) h_m) (cs_X5_59 C (by decide)) h_m rfl rfl rfl rfl (Nat.le_of_ble_eq_true rfl) rfl rfl (by decide) (by decide) dX5_lay_17 (fun x17 M' hq => ?_)
    obtain ⟨rfl, rfl⟩ := hq
    refine z_if_eq C (tgt := 36) dX5_lay_20 (by decide) (fun c20 => ?_) (fun c20 => ?_)
    · refine z_iconst C (v := 0) dX5_lay_36 (by decide) ?_
      exact ret dX5_lay_37 rfl (Or.inr (Or.inr (Or.inl ⟨c9, c20, rfl, rfl⟩))) (by decide) (by decide)
    · refine z_aload_n C dX5_lay_23 rfl 0 rfl ?_
      refine z_aload_n C dX5_lay_24 rfl 0 rfl ?_
      refine z_iload_n C dX5_lay_25 rfl 1 rfl ?_
      refine z_iload_n C dX5_lay_26 rfl 2 rfl ?_
      refine z_callVi (rest := [.ref m]) (k' := 0) (n' := 0) C (c_X5_written (z_l X) (z_G X) (z_up_s _ _ _) ((z_up_n _ _ (z_ne h_tp h_m (by intro h; cases h))).trans h_tp) (z_lay h_nt c20)) (cs_X5_95 C (by decide)) (z_up_s _ _ _) rfl rfl rfl rfl (Nat.le_of_ble_eq_true rfl) rfl rfl (by decide) (by decide) dX5_lay_27 (fun x27 M' hq => ?_)
      obtain ⟨rfl, rfl⟩ := hq
      refine z_callVi (rest := []) (k' := 0) (n' := 0) C (c_X5_did (z_l X) (z_G X) ((z_up_n _ _ (z_ne h_m h_tp (by intro h; cases h))).trans (z_up_s _ _ _))) (cs_X5_63 C (by decide)) ((z_up_n _ _ (z_ne h_m h_tp (by intro h; cases h))).trans (z_up_s _ _ _)) rfl rfl rfl rfl (Nat.le_of_ble_eq_true rfl) rfl rfl (by decide) (by decide) dX5_lay_30 (fun x30 M' hq => ?_)
      obtain ⟨rfl, rfl⟩ := hq
      rw [z_up_swap _ (z_ne h_m h_tp (by intro h; cases h))]
      rw [z_up_up]
      refine z_goto C (tgt := 37) dX5_lay_33 (by decide) ?_
      exact ret dX5_lay_37 rfl (Or.inr (Or.inr (Or.inr (⟨c9, c20, rfl, rfl⟩)))) (by decide) (by decide)
set_option maxRecDepth 20000 in
theorem c_X5_areReaders (l : Launch) (G : zG) {M : zM} {m : Nat} {pane : Int32} {other : Int32} {tp : Nat} {nr : Int32} {pn : Nat} {td : Nat} {ac : Int32} {kn : Int32} {th : Int32} {fp : Nat → Option Nat} {p : Nat} {ro : Int32} {ba : Int32} {sa : Int32} {cp : Int32} {po : Int32} {li : Int32} {mk : Int32} {rd : Int32} {p2 : Nat} {ro2 : Int32} {ba2 : Int32} {sa2 : Int32} {cp2 : Int32} {po2 : Int32} {li2 : Int32} {mk2 : Int32} {rd2 : Int32} {i i2 : Nat} (h_m : M m = some (cMd tp nr pn td ac kn th)) (h_pn : M pn = some (aII G 6 fp)) (h_p : M p = some (cPm G ro ba sa cp po li mk rd)) (h_p2 : M p2 = some (cPm G ro2 ba2 sa2 cp2 po2 li2 mk2 rd2)) (h_ip : vp_in pane 6) (h_ij : pane.toNatClampNeg = i) (h_fp : fp i = some p) (h_ip2 : vp_in other 6) (h_ij2 : other.toNatClampNeg = i2) (h_fp2 : fp i2 = some p2) : z_Mi l G qX5_areReaders (z_rm 1 0 0) [.ref m, .int pane, .int other] M (fun r M' => (((rd + rd2) ≤ 0) ∧ r = 0 ∧ M' = M) ∨ ((¬ (rd + rd2) ≤ 0) ∧ r = 1 ∧ M' = M))  := by
  refine z_Mi_of _ (plainFor_of_name rfl) rfl (Nat.le_of_ble_eq_true rfl) (fun X hl hG hnm C ret => ?_)
  subst hl; subst hG
  have C : z_C X cX5_areReaders RX5 3 (z_rm 1 0 0) := C
  show z_W X M 0 0 0 [(0, .ref m), (1, .int pane), (2, .int other)] []
  refine z_aload_n C dX5_areReaders_0 rfl 0 rfl ?_
  refine gf_X5_18 C h_m dX5_areReaders_1 ?_
  refine z_iload_n C dX5_areReaders_4 rfl 1 rfl ?_
  refine z_aaldI (j := i) C h_pn h_ip h_ij h_fp dX5_areReaders_5 ?_
  refine z_bipush C (v := 7) dX5_areReaders_6 (by decide) ?_
  refine z_pl7 C h_p dX5_areReaders_8 ?_
  refine z_aload_n C dX5_areReaders_9 rfl 0 rfl ?_
  refine gf_X5_18 C h_m dX5_areReaders_10 ?_
  refine z_iload_n C dX5_areReaders_13 rfl 2 rfl ?_
  refine z_aaldI (j := i2) C h_pn h_ip2 h_ij2 h_fp2 dX5_areReaders_14 ?_
  refine z_bipush C (v := 7) dX5_areReaders_15 (by decide) ?_
  refine z_pl7 C h_p2 dX5_areReaders_17 ?_
  refine z_iadd C dX5_areReaders_18 ?_
  refine z_if_le C (tgt := 26) dX5_areReaders_19 (by decide) (fun c19 => ?_) (fun c19 => ?_)
  · refine z_iconst C (v := 0) dX5_areReaders_26 (by decide) ?_
    exact ret dX5_areReaders_27 rfl (Or.inl ⟨c19, rfl, rfl⟩) (by decide) (by decide)
  · refine z_iconst C (v := 1) dX5_areReaders_22 (by decide) ?_
    refine z_goto C (tgt := 27) dX5_areReaders_23 (by decide) ?_
    exact ret dX5_areReaders_27 rfl (Or.inr (⟨c19, rfl, rfl⟩)) (by decide) (by decide)
set_option maxRecDepth 20000 in
theorem c_X5_isKin_bad (l : Launch) (G : zG) {M : zM} {m : Nat} {pane : Int32} {other : Int32} {tp : Nat} {nr : Int32} {pn : Nat} {td : Nat} {ac : Int32} {kn : Int32} {th : Int32}  (h_m : M m = some (cMd tp nr pn td ac kn th)) (h_bad : z_is pane 0 5 = 0) : z_Mi l G qX5_isKin (z_rm 4 0 0) [.ref m, .int pane, .int other] M (fun r M' => r = 0 ∧ M' = z_up M m (cMd tp nr pn td ac kn (z_lt 0 1)))  := by
  refine z_Mi_of _ (plainFor_of_name rfl) rfl (Nat.le_of_ble_eq_true rfl) (fun X hl hG hnm C ret => ?_)
  subst hl; subst hG
  have C : z_C X cX5_isKin RX5 3 (z_rm 4 0 0) := C
  show z_W X M 0 0 0 [(0, .ref m), (1, .int pane), (2, .int other)] []
  refine z_aload_n C dX5_isKin_0 rfl 0 rfl ?_
  refine z_iload_n C dX5_isKin_1 rfl 1 rfl ?_
  refine z_callSi (rest := [.ref m]) (k' := 0) (n' := 0) C (c_X5_isPane (z_l X) (z_G X) ) (cs_X5_55 C (by decide)) rfl rfl (Nat.le_of_ble_eq_true rfl) rfl rfl (by decide) (by decide) dX5_isKin_2 (fun x2 M' hq => ?_)
  obtain ⟨rfl, rfl⟩ := hq
  refine z_if_eq C (tgt := 19) dX5_isKin_5 (by decide) (fun _ => ?_) (fun c5 => absurd h_bad c5)
  refine z_iconst C (v := 0) dX5_isKin_19 (by decide) ?_
  refine z_iconst C (v := 1) dX5_isKin_20 (by decide) ?_
  refine z_callVi (rest := []) (k' := 0) (n' := 0) C (c_X5_isLet (z_l X) (z_G X) h_m) (cs_X5_59 C (by decide)) h_m rfl rfl rfl rfl (Nat.le_of_ble_eq_true rfl) rfl rfl (by decide) (by decide) dX5_isKin_21 (fun x21 M' hq => ?_)
  obtain ⟨rfl, rfl⟩ := hq
  refine z_if_ne C (tgt := 29) dX5_isKin_24 (by decide) (fun c24 => absurd (by simp [z_lr, z_lt]) c24) (fun _ => ?_)
  refine z_iconst C (v := 0) dX5_isKin_27 (by decide) ?_
  exact ret dX5_isKin_28 rfl (⟨rfl, rfl⟩) (by decide) (by decide)
set_option maxRecDepth 20000 in
theorem c_X5_isKin_bad2 (l : Launch) (G : zG) {M : zM} {m : Nat} {pane : Int32} {other : Int32} {tp : Nat} {nr : Int32} {pn : Nat} {td : Nat} {ac : Int32} {kn : Int32} {th : Int32}  (h_m : M m = some (cMd tp nr pn td ac kn th)) (h_ok : z_is pane 0 5 = 1) (h_bad2 : z_is other 0 5 = 0) : z_Mi l G qX5_isKin (z_rm 4 0 0) [.ref m, .int pane, .int other] M (fun r M' => r = 0 ∧ M' = z_up M m (cMd tp nr pn td ac kn (z_lt 0 1)))  := by
  refine z_Mi_of _ (plainFor_of_name rfl) rfl (Nat.le_of_ble_eq_true rfl) (fun X hl hG hnm C ret => ?_)
  subst hl; subst hG
  have C : z_C X cX5_isKin RX5 3 (z_rm 4 0 0) := C
  show z_W X M 0 0 0 [(0, .ref m), (1, .int pane), (2, .int other)] []
  refine z_aload_n C dX5_isKin_0 rfl 0 rfl ?_
  refine z_iload_n C dX5_isKin_1 rfl 1 rfl ?_
  refine z_callSi (rest := [.ref m]) (k' := 0) (n' := 0) C (c_X5_isPane (z_l X) (z_G X) ) (cs_X5_55 C (by decide)) rfl rfl (Nat.le_of_ble_eq_true rfl) rfl rfl (by decide) (by decide) dX5_isKin_2 (fun x2 M' hq => ?_)
  obtain ⟨rfl, rfl⟩ := hq
  refine z_if_eq C (tgt := 19) dX5_isKin_5 (by decide) (fun c5 => absurd c5 (by rw [h_ok]; decide)) (fun _ => ?_)
  refine z_iload_n C dX5_isKin_8 rfl 2 rfl ?_
  refine z_callSi (rest := [.ref m]) (k' := 0) (n' := 0) C (c_X5_isPane (z_l X) (z_G X) ) (cs_X5_55 C (by decide)) rfl rfl (Nat.le_of_ble_eq_true rfl) rfl rfl (by decide) (by decide) dX5_isKin_9 (fun x9 M' hq => ?_)
  obtain ⟨rfl, rfl⟩ := hq
  refine z_if_eq C (tgt := 19) dX5_isKin_12 (by decide) (fun _ => ?_) (fun c12 => absurd h_bad2 c12)
  refine z_iconst C (v := 0) dX5_isKin_19 (by decide) ?_
  refine z_iconst C (v := 1) dX5_isKin_20 (by decide) ?_
  refine z_callVi (rest := []) (k' := 0) (n' := 0) C (c_X5_isLet (z_l X) (z_G X) h_m) (cs_X5_59 C (by decide)) h_m rfl rfl rfl rfl (Nat.le_of_ble_eq_true rfl) rfl rfl (by decide) (by decide) dX5_isKin_21 (fun x21 M' hq => ?_)
  obtain ⟨rfl, rfl⟩ := hq
  refine z_if_ne C (tgt := 29) dX5_isKin_24 (by decide) (fun c24 => absurd (by simp [z_lr, z_lt]) c24) (fun _ => ?_)
  refine z_iconst C (v := 0) dX5_isKin_27 (by decide) ?_
  exact ret dX5_isKin_28 rfl (⟨rfl, rfl⟩) (by decide) (by decide)
set_option maxRecDepth 20000 in
theorem c_X5_isKin (l : Launch) (G : zG) {M : zM} {m : Nat} {pane : Int32} {other : Int32} {tp : Nat} {nr : Int32} {pn : Nat} {td : Nat} {ac : Int32} {kn : Int32} {th : Int32} {fp : Nat → Option Nat} {p : Nat} {ro : Int32} {ba : Int32} {sa : Int32} {cp : Int32} {po : Int32} {li : Int32} {mk : Int32} {rd : Int32} {p2 : Nat} {ro2 : Int32} {ba2 : Int32} {sa2 : Int32} {cp2 : Int32} {po2 : Int32} {li2 : Int32} {mk2 : Int32} {rd2 : Int32} {i i2 : Nat}  (h_m : M m = some (cMd tp nr pn td ac kn th)) (h_pn : M pn = some (aII G 6 fp)) (h_p : M p = some (cPm G ro ba sa cp po li mk rd)) (h_p2 : M p2 = some (cPm G ro2 ba2 sa2 cp2 po2 li2 mk2 rd2)) (h_ok : z_is pane 0 5 = 1) (h_ip : vp_in pane 6) (h_ij : pane.toNatClampNeg = i) (h_fp : fp i = some p) (h_ok2 : z_is other 0 5 = 1) (h_ip2 : vp_in other 6) (h_ij2 : other.toNatClampNeg = i2) (h_fp2 : fp i2 = some p2) : z_Mi l G qX5_isKin (z_rm 4 0 0) [.ref m, .int pane, .int other] M (fun r M' => (((rd + rd2) ≤ 0) ∧ (¬ ro = ro2) ∧ r = 0 ∧ M' = z_up M m (cMd tp nr pn td ac kn (z_lt 1 1))) ∨ (((rd + rd2) ≤ 0) ∧ (ro = ro2) ∧ r = 1 ∧ M' = z_up M m (cMd tp nr pn td ac kn (z_lt 1 1))) ∨ ((¬ (rd + rd2) ≤ 0) ∧ r = (-9) ∧ M' = z_up M m (cMd tp nr pn td ac kn (z_lt 1 1))))  := by
  refine z_Mi_of _ (plainFor_of_name rfl) rfl (Nat.le_of_ble_eq_true rfl) (fun X hl hG hnm C ret => ?_)
  subst hl; subst hG
  have C : z_C X cX5_isKin RX5 3 (z_rm 4 0 0) := C
  show z_W X M 0 0 0 [(0, .ref m), (1, .int pane), (2, .int other)] []
  refine z_aload_n C dX5_isKin_0 rfl 0 rfl ?_
  refine z_iload_n C dX5_isKin_1 rfl 1 rfl ?_
  refine z_callSi (rest := [.ref m]) (k' := 0) (n' := 0) C (c_X5_isPane (z_l X) (z_G X) ) (cs_X5_55 C (by decide)) rfl rfl (Nat.le_of_ble_eq_true rfl) rfl rfl (by decide) (by decide) dX5_isKin_2 (fun x2 M' hq => ?_)
  obtain ⟨rfl, rfl⟩ := hq
  refine z_if_eq C (tgt := 19) dX5_isKin_5 (by decide) (fun c5 => absurd c5 (by rw [h_ok]; decide)) (fun _ => ?_)
  refine z_iload_n C dX5_isKin_8 rfl 2 rfl ?_
  refine z_callSi (rest := [.ref m]) (k' := 0) (n' := 0) C (c_X5_isPane (z_l X) (z_G X) ) (cs_X5_55 C (by decide)) rfl rfl (Nat.le_of_ble_eq_true rfl) rfl rfl (by decide) (by decide) dX5_isKin_9 (fun x9 M' hq => ?_)
  obtain ⟨rfl, rfl⟩ := hq
  refine z_if_eq C (tgt := 19) dX5_isKin_12 (by decide) (fun c12 => absurd c12 (by rw [h_ok2]; decide)) (fun _ => ?_)
  refine z_iconst C (v := 1) dX5_isKin_15 (by decide) ?_
  refine z_goto C (tgt := 20) dX5_isKin_16 (by decide) ?_
  refine z_iconst C (v := 1) dX5_isKin_20 (by decide) ?_
  refine z_callVi (rest := []) (k' := 0) (n' := 0) C (c_X5_isLet (z_l X) (z_G X) h_m) (cs_X5_59 C (by decide)) h_m rfl rfl rfl rfl (Nat.le_of_ble_eq_true rfl) rfl rfl (by decide) (by decide) dX5_isKin_21 (fun x21 M' hq => ?_)
  obtain ⟨rfl, rfl⟩ := hq
  refine z_if_ne C (tgt := 29) dX5_isKin_24 (by decide) (fun _ => ?_) (fun c24 => absurd c24 (by simp [z_lr, z_lt]))
  refine z_aload_n C dX5_isKin_29 rfl 0 rfl ?_
  refine z_iload_n C dX5_isKin_30 rfl 1 rfl ?_
  refine z_iload_n C dX5_isKin_31 rfl 2 rfl ?_
  refine z_callVi (rest := []) (k' := 0) (n' := 0) C (c_X5_areReaders (z_l X) (z_G X) (z_up_s _ _ _) ((z_up_n _ _ (z_ne h_pn h_m (by intro h; cases h))).trans h_pn) ((z_up_n _ _ (z_ne h_p h_m (by intro h; cases h))).trans h_p) ((z_up_n _ _ (z_ne h_p2 h_m (by intro h; cases h))).trans h_p2) h_ip h_ij h_fp h_ip2 h_ij2 h_fp2) (cs_X5_135 C (by decide)) (z_up_s _ _ _) rfl rfl rfl rfl (Nat.le_of_ble_eq_true rfl) rfl rfl (by decide) (by decide) dX5_isKin_32 (fun x32 M' hq => ?_)
  obtain ⟨d32_0, rfl, rfl⟩ | ⟨d32_0, rfl, rfl⟩ := hq
  · refine z_if_eq C (tgt := 43) dX5_isKin_35 (by decide) (fun _ => ?_) (fun c35 => absurd (by decide) c35)
    refine z_aload_n C dX5_isKin_43 rfl 0 rfl ?_
    refine gf_X5_18 C (z_up_s _ _ _) dX5_isKin_44 ?_
    refine z_iload_n C dX5_isKin_47 rfl 1 rfl ?_
    refine z_aaldI (j := i) C ((z_up_n _ _ (z_ne h_pn h_m (by intro h; cases h))).trans h_pn) h_ip h_ij h_fp dX5_isKin_48 ?_
    refine z_iconst C (v := 0) dX5_isKin_49 (by decide) ?_
    refine z_pl0 C ((z_up_n _ _ (z_ne h_p h_m (by intro h; cases h))).trans h_p) dX5_isKin_50 ?_
    refine z_aload_n C dX5_isKin_51 rfl 0 rfl ?_
    refine gf_X5_18 C (z_up_s _ _ _) dX5_isKin_52 ?_
    refine z_iload_n C dX5_isKin_55 rfl 2 rfl ?_
    refine z_aaldI (j := i2) C ((z_up_n _ _ (z_ne h_pn h_m (by intro h; cases h))).trans h_pn) h_ip2 h_ij2 h_fp2 dX5_isKin_56 ?_
    refine z_iconst C (v := 0) dX5_isKin_57 (by decide) ?_
    refine z_pl0 C ((z_up_n _ _ (z_ne h_p2 h_m (by intro h; cases h))).trans h_p2) dX5_isKin_58 ?_
    refine z_icmp_ne C (tgt := 66) dX5_isKin_59 (by decide) (fun c59 => ?_) (fun c59 => ?_)
    · refine z_iconst C (v := 0) dX5_isKin_66 (by decide) ?_
      exact ret dX5_isKin_67 rfl (Or.inl ⟨d32_0, c59, rfl, rfl⟩) (by decide) (by decide)
    · refine z_iconst C (v := 1) dX5_isKin_62 (by decide) ?_
      refine z_goto C (tgt := 67) dX5_isKin_63 (by decide) ?_
      exact ret dX5_isKin_67 rfl (Or.inr (Or.inl ⟨d32_0, c59, rfl, rfl⟩)) (by decide) (by decide)
  · refine z_if_eq C (tgt := 43) dX5_isKin_35 (by decide) (fun c35 => absurd c35 (by decide)) (fun _ => ?_)
    refine z_bipush C (v := (-9)) dX5_isKin_38 (by decide) ?_
    refine z_goto C (tgt := 67) dX5_isKin_40 (by decide) ?_
    exact ret dX5_isKin_67 rfl (Or.inr (Or.inr (⟨d32_0, rfl, rfl⟩))) (by decide) (by decide)
set_option maxRecDepth 20000 in
theorem c_X5_sees_bad (l : Launch) (G : zG) {M : zM} {m : Nat} {pane : Int32} {ix : Int32} {other : Int32} {tp : Nat} {nr : Int32} {pn : Nat} {td : Nat} {ac : Int32} {kn : Int32} {th : Int32}  (h_m : M m = some (cMd tp nr pn td ac kn th)) (h_bad : z_is pane 0 5 = 0) : z_Mi l G qX5_sees (z_rm 4 0 0) [.ref m, .int pane, .int ix, .int other] M (fun r M' => r = 0 ∧ M' = z_up M m (cMd tp nr pn td ac kn (z_lt 0 1)))  := by
  refine z_Mi_of _ (plainFor_of_name rfl) rfl (Nat.le_of_ble_eq_true rfl) (fun X hl hG hnm C ret => ?_)
  subst hl; subst hG
  have C : z_C X cX5_sees RX5 7 (z_rm 4 0 0) := C
  show z_W X M 0 0 0 [(0, .ref m), (1, .int pane), (2, .int ix), (3, .int other)] []
  refine z_aload_n C dX5_sees_0 rfl 0 rfl ?_
  refine z_iload_n C dX5_sees_1 rfl 1 rfl ?_
  refine z_callSi (rest := [.ref m]) (k' := 0) (n' := 0) C (c_X5_isPane (z_l X) (z_G X) ) (cs_X5_55 C (by decide)) rfl rfl (Nat.le_of_ble_eq_true rfl) rfl rfl (by decide) (by decide) dX5_sees_2 (fun x2 M' hq => ?_)
  obtain ⟨rfl, rfl⟩ := hq
  refine z_if_eq C (tgt := 19) dX5_sees_5 (by decide) (fun _ => ?_) (fun c5 => absurd h_bad c5)
  refine z_iconst C (v := 0) dX5_sees_19 (by decide) ?_
  refine z_iconst C (v := 1) dX5_sees_20 (by decide) ?_
  refine z_callVi (rest := []) (k' := 0) (n' := 0) C (c_X5_isLet (z_l X) (z_G X) h_m) (cs_X5_59 C (by decide)) h_m rfl rfl rfl rfl (Nat.le_of_ble_eq_true rfl) rfl rfl (by decide) (by decide) dX5_sees_21 (fun x21 M' hq => ?_)
  obtain ⟨rfl, rfl⟩ := hq
  refine z_if_ne C (tgt := 29) dX5_sees_24 (by decide) (fun c24 => absurd (by simp [z_lr, z_lt]) c24) (fun _ => ?_)
  refine z_iconst C (v := 0) dX5_sees_27 (by decide) ?_
  exact ret dX5_sees_28 rfl (⟨rfl, rfl⟩) (by decide) (by decide)
set_option maxRecDepth 20000 in
theorem c_X5_sees_bad2 (l : Launch) (G : zG) {M : zM} {m : Nat} {pane : Int32} {ix : Int32} {other : Int32} {tp : Nat} {nr : Int32} {pn : Nat} {td : Nat} {ac : Int32} {kn : Int32} {th : Int32}  (h_m : M m = some (cMd tp nr pn td ac kn th)) (h_ok : z_is pane 0 5 = 1) (h_bad2 : z_is other 0 5 = 0) : z_Mi l G qX5_sees (z_rm 4 0 0) [.ref m, .int pane, .int ix, .int other] M (fun r M' => r = 0 ∧ M' = z_up M m (cMd tp nr pn td ac kn (z_lt 0 1)))  := by
  refine z_Mi_of _ (plainFor_of_name rfl) rfl (Nat.le_of_ble_eq_true rfl) (fun X hl hG hnm C ret => ?_)
  subst hl; subst hG
  have C : z_C X cX5_sees RX5 7 (z_rm 4 0 0) := C
  show z_W X M 0 0 0 [(0, .ref m), (1, .int pane), (2, .int ix), (3, .int other)] []
  refine z_aload_n C dX5_sees_0 rfl 0 rfl ?_
  refine z_iload_n C dX5_sees_1 rfl 1 rfl ?_
  refine z_callSi (rest := [.ref m]) (k' := 0) (n' := 0) C (c_X5_isPane (z_l X) (z_G X) ) (cs_X5_55 C (by decide)) rfl rfl (Nat.le_of_ble_eq_true rfl) rfl rfl (by decide) (by decide) dX5_sees_2 (fun x2 M' hq => ?_)
  obtain ⟨rfl, rfl⟩ := hq
  refine z_if_eq C (tgt := 19) dX5_sees_5 (by decide) (fun c5 => absurd c5 (by rw [h_ok]; decide)) (fun _ => ?_)
  refine z_iload_n C dX5_sees_8 rfl 3 rfl ?_
  refine z_callSi (rest := [.ref m]) (k' := 0) (n' := 0) C (c_X5_isPane (z_l X) (z_G X) ) (cs_X5_55 C (by decide)) rfl rfl (Nat.le_of_ble_eq_true rfl) rfl rfl (by decide) (by decide) dX5_sees_9 (fun x9 M' hq => ?_)
  obtain ⟨rfl, rfl⟩ := hq
  refine z_if_eq C (tgt := 19) dX5_sees_12 (by decide) (fun _ => ?_) (fun c12 => absurd h_bad2 c12)
  refine z_iconst C (v := 0) dX5_sees_19 (by decide) ?_
  refine z_iconst C (v := 1) dX5_sees_20 (by decide) ?_
  refine z_callVi (rest := []) (k' := 0) (n' := 0) C (c_X5_isLet (z_l X) (z_G X) h_m) (cs_X5_59 C (by decide)) h_m rfl rfl rfl rfl (Nat.le_of_ble_eq_true rfl) rfl rfl (by decide) (by decide) dX5_sees_21 (fun x21 M' hq => ?_)
  obtain ⟨rfl, rfl⟩ := hq
  refine z_if_ne C (tgt := 29) dX5_sees_24 (by decide) (fun c24 => absurd (by simp [z_lr, z_lt]) c24) (fun _ => ?_)
  refine z_iconst C (v := 0) dX5_sees_27 (by decide) ?_
  exact ret dX5_sees_28 rfl (⟨rfl, rfl⟩) (by decide) (by decide)
set_option maxRecDepth 20000 in
theorem c_X5_sees (l : Launch) (G : zG) {M : zM} {m : Nat} {pane : Int32} {ix : Int32} {other : Int32} {tp : Nat} {nr : Int32} {pn : Nat} {td : Nat} {ac : Int32} {kn : Int32} {th : Int32} {fp : Nat → Option Nat} {p : Nat} {ro : Int32} {ba : Int32} {sa : Int32} {cp : Int32} {po : Int32} {li : Int32} {mk : Int32} {rd : Int32} {p2 : Nat} {ro2 : Int32} {ba2 : Int32} {sa2 : Int32} {cp2 : Int32} {po2 : Int32} {li2 : Int32} {mk2 : Int32} {rd2 : Int32} {i i2 : Nat}  (h_m : M m = some (cMd tp nr pn td ac kn th)) (h_pn : M pn = some (aII G 6 fp)) (h_p : M p = some (cPm G ro ba sa cp po li mk rd)) (h_p2 : M p2 = some (cPm G ro2 ba2 sa2 cp2 po2 li2 mk2 rd2)) (h_ok : z_is pane 0 5 = 1) (h_ip : vp_in pane 6) (h_ij : pane.toNatClampNeg = i) (h_fp : fp i = some p) (h_ok2 : z_is other 0 5 = 1) (h_ip2 : vp_in other 6) (h_ij2 : other.toNatClampNeg = i2) (h_fp2 : fp i2 = some p2) : z_Mi l G qX5_sees (z_rm 4 0 0) [.ref m, .int pane, .int ix, .int other] M (fun r M' => (((rd + rd2) ≤ 0) ∧ (¬ ro = ro2) ∧ r = (-1) ∧ M' = z_up M m (cMd tp nr pn td ac kn (z_lt 1 1))) ∨ (((rd + rd2) ≤ 0) ∧ (ro = ro2) ∧ (¬ (z_is ix 0 (cp - 1)) = 0) ∧ ((z_is ((sa + ix) - sa2) 0 (cp2 - 1)) = 0) ∧ r = (-1) ∧ M' = z_up M m (cMd tp nr pn td ac kn (z_lt 1 1))) ∨ (((rd + rd2) ≤ 0) ∧ (ro = ro2) ∧ (¬ (z_is ix 0 (cp - 1)) = 0) ∧ (¬ (z_is ((sa + ix) - sa2) 0 (cp2 - 1)) = 0) ∧ r = (sa + ix) - sa2 ∧ M' = z_up M m (cMd tp nr pn td ac kn (z_lt 1 1))) ∨ (((rd + rd2) ≤ 0) ∧ (ro = ro2) ∧ ((z_is ix 0 (cp - 1)) = 0) ∧ r = (-1) ∧ M' = z_up M m (cMd tp nr pn td ac kn (z_lt 1 1))) ∨ ((¬ (rd + rd2) ≤ 0) ∧ r = (-9) ∧ M' = z_up M m (cMd tp nr pn td ac kn (z_lt 1 1))))  := by
  refine z_Mi_of _ (plainFor_of_name rfl) rfl (Nat.le_of_ble_eq_true rfl) (fun X hl hG hnm C ret => ?_)
  subst hl; subst hG
  have C : z_C X cX5_sees RX5 7 (z_rm 4 0 0) := C
  show z_W X M 0 0 0 [(0, .ref m), (1, .int pane), (2, .int ix), (3, .int other)] []
  refine z_aload_n C dX5_sees_0 rfl 0 rfl ?_
  refine z_iload_n C dX5_sees_1 rfl 1 rfl ?_
  refine z_callSi (rest := [.ref m]) (k' := 0) (n' := 0) C (c_X5_isPane (z_l X) (z_G X) ) (cs_X5_55 C (by decide)) rfl rfl (Nat.le_of_ble_eq_true rfl) rfl rfl (by decide) (by decide) dX5_sees_2 (fun x2 M' hq => ?_)
  obtain ⟨rfl, rfl⟩ := hq
  refine z_if_eq C (tgt := 19) dX5_sees_5 (by decide) (fun c5 => absurd c5 (by rw [h_ok]; decide)) (fun _ => ?_)
  refine z_iload_n C dX5_sees_8 rfl 3 rfl ?_
  refine z_callSi (rest := [.ref m]) (k' := 0) (n' := 0) C (c_X5_isPane (z_l X) (z_G X) ) (cs_X5_55 C (by decide)) rfl rfl (Nat.le_of_ble_eq_true rfl) rfl rfl (by decide) (by decide) dX5_sees_9 (fun x9 M' hq => ?_)
  obtain ⟨rfl, rfl⟩ := hq
  refine z_if_eq C (tgt := 19) dX5_sees_12 (by decide) (fun c12 => absurd c12 (by rw [h_ok2]; decide)) (fun _ => ?_)
  refine z_iconst C (v := 1) dX5_sees_15 (by decide) ?_
  refine z_goto C (tgt := 20) dX5_sees_16 (by decide) ?_
  refine z_iconst C (v := 1) dX5_sees_20 (by decide) ?_
  refine z_callVi (rest := []) (k' := 0) (n' := 0) C (c_X5_isLet (z_l X) (z_G X) h_m) (cs_X5_59 C (by decide)) h_m rfl rfl rfl rfl (Nat.le_of_ble_eq_true rfl) rfl rfl (by decide) (by decide) dX5_sees_21 (fun x21 M' hq => ?_)
  obtain ⟨rfl, rfl⟩ := hq
  refine z_if_ne C (tgt := 29) dX5_sees_24 (by decide) (fun _ => ?_) (fun c24 => absurd c24 (by simp [z_lr, z_lt]))
  refine z_aload_n C dX5_sees_29 rfl 0 rfl ?_
  refine z_iload_n C dX5_sees_30 rfl 1 rfl ?_
  refine z_iload_n C dX5_sees_31 rfl 3 rfl ?_
  refine z_callVi (rest := []) (k' := 0) (n' := 0) C (c_X5_areReaders (z_l X) (z_G X) (z_up_s _ _ _) ((z_up_n _ _ (z_ne h_pn h_m (by intro h; cases h))).trans h_pn) ((z_up_n _ _ (z_ne h_p h_m (by intro h; cases h))).trans h_p) ((z_up_n _ _ (z_ne h_p2 h_m (by intro h; cases h))).trans h_p2) h_ip h_ij h_fp h_ip2 h_ij2 h_fp2) (cs_X5_135 C (by decide)) (z_up_s _ _ _) rfl rfl rfl rfl (Nat.le_of_ble_eq_true rfl) rfl rfl (by decide) (by decide) dX5_sees_32 (fun x32 M' hq => ?_)
  obtain ⟨d32_0, rfl, rfl⟩ | ⟨d32_0, rfl, rfl⟩ := hq
  · refine z_if_eq C (tgt := 41) dX5_sees_35 (by decide) (fun _ => ?_) (fun c35 => absurd (by decide) c35)
    refine z_aload_n C dX5_sees_41 rfl 0 rfl ?_
    refine gf_X5_18 C (z_up_s _ _ _) dX5_sees_42 ?_
    refine z_iload_n C dX5_sees_45 rfl 1 rfl ?_
    refine z_aaldI (j := i) C ((z_up_n _ _ (z_ne h_pn h_m (by intro h; cases h))).trans h_pn) h_ip h_ij h_fp dX5_sees_46 ?_
    refine z_astore (lv' := [(4, .ref p), (0, .ref m), (1, .int pane), (2, .int ix), (3, .int other)]) C dX5_sees_47 (by decide) rfl ?_
    refine z_aload_n C dX5_sees_49 rfl 1 rfl ?_
    refine gf_X5_18 C (z_up_s _ _ _) dX5_sees_50 ?_
    refine z_iload_n C dX5_sees_53 rfl 4 rfl ?_
    refine z_aaldI (j := i2) C ((z_up_n _ _ (z_ne h_pn h_m (by intro h; cases h))).trans h_pn) h_ip2 h_ij2 h_fp2 dX5_sees_54 ?_
    refine z_astore (lv' := [(5, .ref p2), (4, .ref p), (0, .ref m), (1, .int pane), (2, .int ix), (3, .int other)]) C dX5_sees_55 (by decide) rfl ?_
    refine z_aload C dX5_sees_57 1 rfl ?_
    refine z_iconst C (v := 0) dX5_sees_59 (by decide) ?_
    refine z_pl0 C ((z_up_n _ _ (z_ne h_p h_m (by intro h; cases h))).trans h_p) dX5_sees_60 ?_
    refine z_aload C dX5_sees_61 0 rfl ?_
    refine z_iconst C (v := 0) dX5_sees_63 (by decide) ?_
    refine z_pl0 C ((z_up_n _ _ (z_ne h_p2 h_m (by intro h; cases h))).trans h_p2) dX5_sees_64 ?_
    refine z_icmp_ne C (tgt := 82) dX5_sees_65 (by decide) (fun c65 => ?_) (fun c65 => ?_)
    · refine z_iconst C (v := (-1)) dX5_sees_82 (by decide) ?_
      exact ret dX5_sees_83 rfl (Or.inl ⟨d32_0, c65, rfl, rfl⟩) (by decide) (by decide)
    · refine z_iload_n C dX5_sees_68 rfl 4 rfl ?_
      refine z_iconst C (v := 0) dX5_sees_69 (by decide) ?_
      refine z_aload C dX5_sees_70 1 rfl ?_
      refine z_iconst C (v := 3) dX5_sees_72 (by decide) ?_
      refine z_pl3 C ((z_up_n _ _ (z_ne h_p h_m (by intro h; cases h))).trans h_p) dX5_sees_73 ?_
      refine z_iconst C (v := 1) dX5_sees_74 (by decide) ?_
      refine z_isub C dX5_sees_75 ?_
      refine z_callSi (rest := []) (k' := 0) (n' := 0) C (c_X5_isIn (z_l X) (z_G X) ) (cs_X5_36 C (by decide)) rfl rfl (Nat.le_of_ble_eq_true rfl) rfl rfl (by decide) (by decide) dX5_sees_76 (fun x76 M' hq => ?_)
      obtain ⟨rfl, rfl⟩ := hq
      refine z_if_ne C (tgt := 84) dX5_sees_79 (by decide) (fun c79 => ?_) (fun c79 => ?_)
      · refine z_aload C dX5_sees_84 1 rfl ?_
        refine z_iconst C (v := 2) dX5_sees_86 (by decide) ?_
        refine z_pl2 C ((z_up_n _ _ (z_ne h_p h_m (by intro h; cases h))).trans h_p) dX5_sees_87 ?_
        refine z_iload_n C dX5_sees_88 rfl 4 rfl ?_
        refine z_iadd C dX5_sees_89 ?_
        refine z_aload C dX5_sees_90 0 rfl ?_
        refine z_iconst C (v := 2) dX5_sees_92 (by decide) ?_
        refine z_pl2 C ((z_up_n _ _ (z_ne h_p2 h_m (by intro h; cases h))).trans h_p2) dX5_sees_93 ?_
        refine z_isub C dX5_sees_94 ?_
        refine z_istore (lv' := [(6, .int ((sa + ix) - sa2)), (5, .ref p2), (4, .ref p), (0, .ref m), (1, .int pane), (2, .int ix), (3, .int other)]) C dX5_sees_95 (by decide) rfl ?_
        refine z_iload C dX5_sees_97 0 rfl ?_
        refine z_iconst C (v := 0) dX5_sees_99 (by decide) ?_
        refine z_aload C dX5_sees_100 1 rfl ?_
        refine z_iconst C (v := 3) dX5_sees_102 (by decide) ?_
        refine z_pl3 C ((z_up_n _ _ (z_ne h_p2 h_m (by intro h; cases h))).trans h_p2) dX5_sees_103 ?_
        refine z_iconst C (v := 1) dX5_sees_104 (by decide) ?_
        refine z_isub C dX5_sees_105 ?_
        refine z_callSi (rest := []) (k' := 0) (n' := 0) C (c_X5_isIn (z_l X) (z_G X) ) (cs_X5_36 C (by decide)) rfl rfl (Nat.le_of_ble_eq_true rfl) rfl rfl (by decide) (by decide) dX5_sees_106 (fun x106 M' hq => ?_)
        obtain ⟨rfl, rfl⟩ := hq
        refine z_if_eq C (tgt := 117) dX5_sees_109 (by decide) (fun c109 => ?_) (fun c109 => ?_)
        · refine z_iconst C (v := (-1)) dX5_sees_117 (by decide) ?_
          exact ret dX5_sees_118 rfl (Or.inr (Or.inl ⟨d32_0, c65, c79, c109, rfl, rfl⟩)) (by decide) (by decide)
        · refine z_iload C dX5_sees_112 0 rfl ?_
          refine z_goto C (tgt := 118) dX5_sees_114 (by decide) ?_
          exact ret dX5_sees_118 rfl (Or.inr (Or.inr (Or.inl ⟨d32_0, c65, c79, c109, rfl, rfl⟩))) (by decide) (by decide)
      · refine z_iconst C (v := (-1)) dX5_sees_82 (by decide) ?_
        exact ret dX5_sees_83 rfl (Or.inr (Or.inr (Or.inr (Or.inl ⟨d32_0, c65, c79, rfl, rfl⟩)))) (by decide) (by decide)
  · refine z_if_eq C (tgt := 41) dX5_sees_35 (by decide) (fun c35 => absurd c35 (by decide)) (fun _ => ?_)
    refine z_bipush C (v := (-9)) dX5_sees_38 (by decide) ?_
    exact ret dX5_sees_40 rfl (Or.inr (Or.inr (Or.inr (Or.inr (⟨d32_0, rfl, rfl⟩))))) (by decide) (by decide)
end
