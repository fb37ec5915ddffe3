theorem dX5_isIn_0 : decode cX5_isIn 0 = .ok (.iload_n 0, 1) := by decide +kernel
theorem dX5_isIn_1 : decode cX5_isIn 1 = .ok (.iload_n 1, 1) := by decide +kernel
theorem dX5_isIn_2 : decode cX5_isIn 2 = .ok (.if_icmp .lt 12, 3) := by decide +kernel
theorem dX5_isIn_5 : decode cX5_isIn 5 = .ok (.iload_n 0, 1) := by decide +kernel
theorem dX5_isIn_6 : decode cX5_isIn 6 = .ok (.iload_n 2, 1) := by decide +kernel
theorem dX5_isIn_7 : decode cX5_isIn 7 = .ok (.if_icmp .gt 7, 3) := by decide +kernel
theorem dX5_isIn_10 : decode cX5_isIn 10 = .ok (.iconst 1, 1) := by decide +kernel
theorem dX5_isIn_11 : decode cX5_isIn 11 = .ok (.goto 4, 3) := by decide +kernel
theorem dX5_isIn_14 : decode cX5_isIn 14 = .ok (.iconst 0, 1) := by decide +kernel
theorem dX5_isIn_15 : decode cX5_isIn 15 = .ok (.ireturn, 1) := by decide +kernel
theorem dX5_isPane_0 : decode cX5_isPane 0 = .ok (.iload_n 0, 1) := by decide +kernel
theorem dX5_isPane_1 : decode cX5_isPane 1 = .ok (.iconst 0, 1) := by decide +kernel
theorem dX5_isPane_2 : decode cX5_isPane 2 = .ok (.iconst 5, 1) := by decide +kernel
theorem dX5_isPane_3 : decode cX5_isPane 3 = .ok (.invokestatic 36, 3) := by decide +kernel
theorem dX5_isPane_6 : decode cX5_isPane 6 = .ok (.ireturn, 1) := by decide +kernel
theorem dX5_left_0 : decode cX5_left 0 = .ok (.aload_n 0, 1) := by decide +kernel
theorem dX5_left_1 : decode cX5_left 1 = .ok (.iconst 5, 1) := by decide +kernel
theorem dX5_left_2 : decode cX5_left 2 = .ok (.iaload, 1) := by decide +kernel
theorem dX5_left_3 : decode cX5_left 3 = .ok (.aload_n 0, 1) := by decide +kernel
theorem dX5_left_4 : decode cX5_left 4 = .ok (.iconst 4, 1) := by decide +kernel
theorem dX5_left_5 : decode cX5_left 5 = .ok (.iaload, 1) := by decide +kernel
theorem dX5_left_6 : decode cX5_left 6 = .ok (.isub, 1) := by decide +kernel
theorem dX5_left_7 : decode cX5_left 7 = .ok (.ireturn, 1) := by decide +kernel
theorem dX5_where_0 : decode cX5_where 0 = .ok (.aload_n 1, 1) := by decide +kernel
theorem dX5_where_1 : decode cX5_where 1 = .ok (.iconst 1, 1) := by decide +kernel
theorem dX5_where_2 : decode cX5_where 2 = .ok (.iaload, 1) := by decide +kernel
theorem dX5_where_3 : decode cX5_where 3 = .ok (.aload_n 1, 1) := by decide +kernel
theorem dX5_where_4 : decode cX5_where 4 = .ok (.iconst 2, 1) := by decide +kernel
theorem dX5_where_5 : decode cX5_where 5 = .ok (.iaload, 1) := by decide +kernel
theorem dX5_where_6 : decode cX5_where 6 = .ok (.iadd, 1) := by decide +kernel
theorem dX5_where_7 : decode cX5_where 7 = .ok (.iload_n 2, 1) := by decide +kernel
theorem dX5_where_8 : decode cX5_where 8 = .ok (.iadd, 1) := by decide +kernel
theorem dX5_where_9 : decode cX5_where 9 = .ok (.ireturn, 1) := by decide +kernel
theorem dX5_did_0 : decode cX5_did 0 = .ok (.aload_n 0, 1) := by decide +kernel
theorem dX5_did_1 : decode cX5_did 1 = .ok (.dup, 1) := by decide +kernel
theorem dX5_did_2 : decode cX5_did 2 = .ok (.getfield 40, 3) := by decide +kernel
theorem dX5_did_5 : decode cX5_did 5 = .ok (.iconst 1, 1) := by decide +kernel
theorem dX5_did_6 : decode cX5_did 6 = .ok (.iadd, 1) := by decide +kernel
theorem dX5_did_7 : decode cX5_did 7 = .ok (.putfield 40, 3) := by decide +kernel
theorem dX5_did_10 : decode cX5_did 10 = .ok (.iload_n 1, 1) := by decide +kernel
theorem dX5_did_11 : decode cX5_did 11 = .ok (.ireturn, 1) := by decide +kernel
theorem dX5_refuse_0 : decode cX5_refuse 0 = .ok (.aload_n 0, 1) := by decide +kernel
theorem dX5_refuse_1 : decode cX5_refuse 1 = .ok (.getfield 22, 3) := by decide +kernel
theorem dX5_refuse_4 : decode cX5_refuse 4 = .ok (.iload_n 1, 1) := by decide +kernel
theorem dX5_refuse_5 : decode cX5_refuse 5 = .ok (.dup2, 1) := by decide +kernel
theorem dX5_refuse_6 : decode cX5_refuse 6 = .ok (.iaload, 1) := by decide +kernel
theorem dX5_refuse_7 : decode cX5_refuse 7 = .ok (.iconst 1, 1) := by decide +kernel
theorem dX5_refuse_8 : decode cX5_refuse 8 = .ok (.iadd, 1) := by decide +kernel
theorem dX5_refuse_9 : decode cX5_refuse 9 = .ok (.iastore, 1) := by decide +kernel
theorem dX5_refuse_10 : decode cX5_refuse 10 = .ok (.bipush (-9), 2) := by decide +kernel
theorem dX5_refuse_12 : decode cX5_refuse 12 = .ok (.ireturn, 1) := by decide +kernel
theorem dX5_isLet_0 : decode cX5_isLet 0 = .ok (.aload_n 0, 1) := by decide +kernel
theorem dX5_isLet_1 : decode cX5_isLet 1 = .ok (.iload_n 1, 1) := by decide +kernel
theorem dX5_isLet_2 : decode cX5_isLet 2 = .ok (.ifCond .ne 7, 3) := by decide +kernel
theorem dX5_isLet_5 : decode cX5_isLet 5 = .ok (.iconst 1, 1) := by decide +kernel
theorem dX5_isLet_6 : decode cX5_isLet 6 = .ok (.goto 12, 3) := by decide +kernel
theorem dX5_isLet_9 : decode cX5_isLet 9 = .ok (.iload_n 2, 1) := by decide +kernel
theorem dX5_isLet_10 : decode cX5_isLet 10 = .ok (.ifCond .ne 7, 3) := by decide +kernel
theorem dX5_isLet_13 : decode cX5_isLet 13 = .ok (.iconst 2, 1) := by decide +kernel
theorem dX5_isLet_14 : decode cX5_isLet 14 = .ok (.goto 4, 3) := by decide +kernel
theorem dX5_isLet_17 : decode cX5_isLet 17 = .ok (.iconst 0, 1) := by decide +kernel
theorem dX5_isLet_18 : decode cX5_isLet 18 = .ok (.putfield 33, 3) := by decide +kernel
theorem dX5_isLet_21 : decode cX5_isLet 21 = .ok (.aload_n 0, 1) := by decide +kernel
theorem dX5_isLet_22 : decode cX5_isLet 22 = .ok (.getfield 33, 3) := by decide +kernel
theorem dX5_isLet_25 : decode cX5_isLet 25 = .ok (.ifCond .ne 7, 3) := by decide +kernel
theorem dX5_isLet_28 : decode cX5_isLet 28 = .ok (.iconst 1, 1) := by decide +kernel
theorem dX5_isLet_29 : decode cX5_isLet 29 = .ok (.goto 4, 3) := by decide +kernel
theorem dX5_isLet_32 : decode cX5_isLet 32 = .ok (.iconst 0, 1) := by decide +kernel
theorem dX5_isLet_33 : decode cX5_isLet 33 = .ok (.ireturn, 1) := by decide +kernel
theorem dX5_moved_0 : decode cX5_moved 0 = .ok (.aload_n 1, 1) := by decide +kernel
theorem dX5_moved_1 : decode cX5_moved 1 = .ok (.iconst 4, 1) := by decide +kernel
theorem dX5_moved_2 : decode cX5_moved 2 = .ok (.iload_n 2, 1) := by decide +kernel
theorem dX5_moved_3 : decode cX5_moved 3 = .ok (.iastore, 1) := by decide +kernel
theorem dX5_moved_4 : decode cX5_moved 4 = .ok (.aload_n 1, 1) := by decide +kernel
theorem dX5_moved_5 : decode cX5_moved 5 = .ok (.bipush 6, 2) := by decide +kernel
theorem dX5_moved_7 : decode cX5_moved 7 = .ok (.iaload, 1) := by decide +kernel
theorem dX5_moved_8 : decode cX5_moved 8 = .ok (.iload_n 2, 1) := by decide +kernel
theorem dX5_moved_9 : decode cX5_moved 9 = .ok (.if_icmp .le 8, 3) := by decide +kernel
theorem dX5_moved_12 : decode cX5_moved 12 = .ok (.aload_n 1, 1) := by decide +kernel
theorem dX5_moved_13 : decode cX5_moved 13 = .ok (.bipush 6, 2) := by decide +kernel
theorem dX5_moved_15 : decode cX5_moved 15 = .ok (.iconst (-1), 1) := by decide +kernel
theorem dX5_moved_16 : decode cX5_moved 16 = .ok (.iastore, 1) := by decide +kernel
theorem dX5_moved_17 : decode cX5_moved 17 = .ok (.return_, 1) := by decide +kernel
theorem dX5_ended_0 : decode cX5_ended 0 = .ok (.aload_n 1, 1) := by decide +kernel
theorem dX5_ended_1 : decode cX5_ended 1 = .ok (.iconst 5, 1) := by decide +kernel
theorem dX5_ended_2 : decode cX5_ended 2 = .ok (.iload_n 2, 1) := by decide +kernel
theorem dX5_ended_3 : decode cX5_ended 3 = .ok (.iastore, 1) := by decide +kernel
theorem dX5_ended_4 : decode cX5_ended 4 = .ok (.aload_n 1, 1) := by decide +kernel
theorem dX5_ended_5 : decode cX5_ended 5 = .ok (.iconst 4, 1) := by decide +kernel
theorem dX5_ended_6 : decode cX5_ended 6 = .ok (.iaload, 1) := by decide +kernel
theorem dX5_ended_7 : decode cX5_ended 7 = .ok (.iload_n 2, 1) := by decide +kernel
theorem dX5_ended_8 : decode cX5_ended 8 = .ok (.if_icmp .le 7, 3) := by decide +kernel
theorem dX5_ended_11 : decode cX5_ended 11 = .ok (.aload_n 1, 1) := by decide +kernel
theorem dX5_ended_12 : decode cX5_ended 12 = .ok (.iconst 4, 1) := by decide +kernel
theorem dX5_ended_13 : decode cX5_ended 13 = .ok (.iload_n 2, 1) := by decide +kernel
theorem dX5_ended_14 : decode cX5_ended 14 = .ok (.iastore, 1) := by decide +kernel
theorem dX5_ended_15 : decode cX5_ended 15 = .ok (.aload_n 1, 1) := by decide +kernel
theorem dX5_ended_16 : decode cX5_ended 16 = .ok (.bipush 6, 2) := by decide +kernel
theorem dX5_ended_18 : decode cX5_ended 18 = .ok (.iaload, 1) := by decide +kernel
theorem dX5_ended_19 : decode cX5_ended 19 = .ok (.iload_n 2, 1) := by decide +kernel
theorem dX5_ended_20 : decode cX5_ended 20 = .ok (.if_icmp .le 8, 3) := by decide +kernel
theorem dX5_ended_23 : decode cX5_ended 23 = .ok (.aload_n 1, 1) := by decide +kernel
theorem dX5_ended_24 : decode cX5_ended 24 = .ok (.bipush 6, 2) := by decide +kernel
theorem dX5_ended_26 : decode cX5_ended 26 = .ok (.iconst (-1), 1) := by decide +kernel
theorem dX5_ended_27 : decode cX5_ended 27 = .ok (.iastore, 1) := by decide +kernel
theorem dX5_ended_28 : decode cX5_ended 28 = .ok (.return_, 1) := by decide +kernel
theorem dX5_written_0 : decode cX5_written 0 = .ok (.aload_n 0, 1) := by decide +kernel
theorem dX5_written_1 : decode cX5_written 1 = .ok (.getfield 9, 3) := by decide +kernel
theorem dX5_written_4 : decode cX5_written 4 = .ok (.iload_n 1, 1) := by decide +kernel
theorem dX5_written_5 : decode cX5_written 5 = .ok (.iaload, 1) := by decide +kernel
theorem dX5_written_6 : decode cX5_written 6 = .ok (.istore_n 3, 1) := by decide +kernel
theorem dX5_written_7 : decode cX5_written 7 = .ok (.aload_n 0, 1) := by decide +kernel
theorem dX5_written_8 : decode cX5_written 8 = .ok (.getfield 9, 3) := by decide +kernel
theorem dX5_written_11 : decode cX5_written 11 = .ok (.iload_n 1, 1) := by decide +kernel
theorem dX5_written_12 : decode cX5_written 12 = .ok (.iload_n 2, 1) := by decide +kernel
theorem dX5_written_13 : decode cX5_written 13 = .ok (.iastore, 1) := by decide +kernel
theorem dX5_written_14 : decode cX5_written 14 = .ok (.iload_n 3, 1) := by decide +kernel
theorem dX5_written_15 : decode cX5_written 15 = .ok (.ireturn, 1) := by decide +kernel
theorem dX5_begun_0 : decode cX5_begun 0 = .ok (.aload_n 1, 1) := by decide +kernel
theorem dX5_begun_1 : decode cX5_begun 1 = .ok (.iconst 4, 1) := by decide +kernel
theorem dX5_begun_2 : decode cX5_begun 2 = .ok (.iload_n 2, 1) := by decide +kernel
theorem dX5_begun_3 : decode cX5_begun 3 = .ok (.iastore, 1) := by decide +kernel
theorem dX5_begun_4 : decode cX5_begun 4 = .ok (.aload_n 1, 1) := by decide +kernel
theorem dX5_begun_5 : decode cX5_begun 5 = .ok (.iconst 5, 1) := by decide +kernel
theorem dX5_begun_6 : decode cX5_begun 6 = .ok (.iload_n 3, 1) := by decide +kernel
theorem dX5_begun_7 : decode cX5_begun 7 = .ok (.iastore, 1) := by decide +kernel
theorem dX5_begun_8 : decode cX5_begun 8 = .ok (.aload_n 1, 1) := by decide +kernel
theorem dX5_begun_9 : decode cX5_begun 9 = .ok (.bipush 6, 2) := by decide +kernel
theorem dX5_begun_11 : decode cX5_begun 11 = .ok (.iconst (-1), 1) := by decide +kernel
theorem dX5_begun_12 : decode cX5_begun 12 = .ok (.iastore, 1) := by decide +kernel
theorem dX5_begun_13 : decode cX5_begun 13 = .ok (.aload_n 0, 1) := by decide +kernel
theorem dX5_begun_14 : decode cX5_begun 14 = .ok (.aload_n 1, 1) := by decide +kernel
theorem dX5_begun_15 : decode cX5_begun 15 = .ok (.invokestatic 43, 3) := by decide +kernel
theorem dX5_begun_18 : decode cX5_begun 18 = .ok (.invokevirtual 63, 3) := by decide +kernel
theorem dX5_begun_21 : decode cX5_begun 21 = .ok (.ireturn, 1) := by decide +kernel
theorem dX5_thrown_0 : decode cX5_thrown 0 = .ok (.aload_n 0, 1) := by decide +kernel
theorem dX5_thrown_1 : decode cX5_thrown 1 = .ok (.getfield 33, 3) := by decide +kernel
theorem dX5_thrown_4 : decode cX5_thrown 4 = .ok (.ireturn, 1) := by decide +kernel
theorem dX5_knock_0 : decode cX5_knock 0 = .ok (.aload_n 0, 1) := by decide +kernel
theorem dX5_knock_1 : decode cX5_knock 1 = .ok (.iconst 0, 1) := by decide +kernel
theorem dX5_knock_2 : decode cX5_knock 2 = .ok (.putfield 33, 3) := by decide +kernel
theorem dX5_knock_5 : decode cX5_knock 5 = .ok (.aload_n 0, 1) := by decide +kernel
theorem dX5_knock_6 : decode cX5_knock 6 = .ok (.dup, 1) := by decide +kernel
theorem dX5_knock_7 : decode cX5_knock 7 = .ok (.getfield 139, 3) := by decide +kernel
theorem dX5_knock_10 : decode cX5_knock 10 = .ok (.iconst 1, 1) := by decide +kernel
theorem dX5_knock_11 : decode cX5_knock 11 = .ok (.iadd, 1) := by decide +kernel
theorem dX5_knock_12 : decode cX5_knock 12 = .ok (.putfield 139, 3) := by decide +kernel
theorem dX5_knock_15 : decode cX5_knock 15 = .ok (.aload_n 0, 1) := by decide +kernel
theorem dX5_knock_16 : decode cX5_knock 16 = .ok (.getfield 139, 3) := by decide +kernel
theorem dX5_knock_19 : decode cX5_knock 19 = .ok (.ireturn, 1) := by decide +kernel
theorem dX5_isSound_0 : decode cX5_isSound 0 = .ok (.aload_n 0, 1) := by decide +kernel
theorem dX5_isSound_1 : decode cX5_isSound 1 = .ok (.iconst 0, 1) := by decide +kernel
theorem dX5_isSound_2 : decode cX5_isSound 2 = .ok (.putfield 33, 3) := by decide +kernel
theorem dX5_isSound_5 : decode cX5_isSound 5 = .ok (.iconst 1, 1) := by decide +kernel
theorem dX5_isSound_6 : decode cX5_isSound 6 = .ok (.ireturn, 1) := by decide +kernel
set_option maxRecDepth 20000 in
theorem c_X5_isIn (l : Launch) (G : zG) {M : zM} {v : Int32} {a : Int32} {b : Int32}    : z_Mi l G qX5_isIn (z_rm 1 0 0) [.int v, .int a, .int b] M (fun r M' => r = z_is v a b ∧ M' = M)  := by
  refine z_Mi_of _ (plainFor_of_name rfl) rfl (Nat.le_of_ble_eq_true rfl) (fun X hl hG hnm C ret => ?_)
  subst hl; subst hG
  have C : z_C X cX5_isIn RX5 3 (z_rm 1 0 0) := C
  show z_W X M 0 0 0 [(0, .int v), (1, .int a), (2, .int b)] []
  refine z_iload_n C dX5_isIn_0 rfl 0 rfl ?_
  refine z_iload_n C dX5_isIn_1 rfl 1 rfl ?_
  refine z_icmp_lt C (tgt := 14) dX5_isIn_2 (by decide) (fun c2 => ?_) (fun c2 => ?_)
  · refine z_iconst C (v := 0) dX5_isIn_14 (by decide) ?_
    refine ret dX5_isIn_15 rfl ?_ (by decide) (by decide)
    exact ⟨by simp [z_is, *], rfl⟩
  · refine z_iload_n C dX5_isIn_5 rfl 0 rfl ?_
    refine z_iload_n C dX5_isIn_6 rfl 2 rfl ?_
    refine z_icmp_gt C (tgt := 14) dX5_isIn_7 (by decide) (fun c7 => ?_) (fun c7 => ?_)
    · refine z_iconst C (v := 0) dX5_isIn_14 (by decide) ?_
      refine ret dX5_isIn_15 rfl ?_ (by decide) (by decide)
      exact ⟨by simp [z_is, *], rfl⟩
    · refine z_iconst C (v := 1) dX5_isIn_10 (by decide) ?_
      refine z_goto C (tgt := 15) dX5_isIn_11 (by decide) ?_
      refine ret dX5_isIn_15 rfl ?_ (by decide) (by decide)
      exact ⟨by simp [z_is, *], rfl⟩
set_option maxRecDepth 20000 in
theorem c_X5_isPane (l : Launch) (G : zG) {M : zM} {v : Int32}    : z_Mi l G qX5_isPane (z_rm 2 0 0) [.int v] M (fun r M' => r = z_is v 0 5 ∧ M' = M)  := by
  refine z_Mi_of _ (plainFor_of_name rfl) rfl (Nat.le_of_ble_eq_true rfl) (fun X hl hG hnm C ret => ?_)
  subst hl; subst hG
  have C : z_C X cX5_isPane RX5 1 (z_rm 2 0 0) := C
  show z_W X M 0 0 0 [(0, .int v)] []
  refine z_iload_n C dX5_isPane_0 rfl 0 rfl ?_
  refine z_iconst C (v := 0) dX5_isPane_1 (by decide) ?_
  refine z_iconst C (v := 5) dX5_isPane_2 (by decide) ?_
  refine z_callSi (rest := []) (k' := 0) (n' := 0) C (c_X5_isIn (z_l X) (z_G X) ) (cs_X5_36 C (by decide)) rfl rfl (Nat.le_of_ble_eq_true rfl) rfl rfl (by decide) (by decide) dX5_isPane_3 (fun x3 M' hq => ?_)
  obtain ⟨rfl, rfl⟩ := hq
  exact ret dX5_isPane_6 (z_is_n _ _ _) (⟨rfl, rfl⟩) (by decide) (by decide)
set_option maxRecDepth 20000 in
theorem c_X5_left (l : Launch) (G : zG) {M : zM} {p : Nat} {ro : Int32} {ba : Int32} {sa : Int32} {cp : Int32} {po : Int32} {li : Int32} {mk : Int32} {rd : Int32}  (h_p : M p = some (cPm G ro ba sa cp po li mk rd))  : z_Mi l G qX5_left (z_rm 1 0 0) [.ref p] M (fun r M' => r = li - po ∧ M' = M)  := by
  refine z_Mi_of _ (plainFor_of_name rfl) rfl (Nat.le_of_ble_eq_true rfl) (fun X hl hG hnm C ret => ?_)
  subst hl; subst hG
  have C : z_C X cX5_left RX5 1 (z_rm 1 0 0) := C
  show z_W X M 0 0 0 [(0, .ref p)] []
  refine z_aload_n C dX5_left_0 rfl 0 rfl ?_
  refine z_iconst C (v := 5) dX5_left_1 (by decide) ?_
  refine z_pl5 C h_p dX5_left_2 ?_
  refine z_aload_n C dX5_left_3 rfl 0 rfl ?_
  refine z_iconst C (v := 4) dX5_left_4 (by decide) ?_
  refine z_pl4 C h_p dX5_left_5 ?_
  refine z_isub C dX5_left_6 ?_
  exact ret dX5_left_7 rfl (⟨rfl, rfl⟩) (by decide) (by decide)
set_option maxRecDepth 20000 in
theorem c_X5_where (l : Launch) (G : zG) {M : zM} {m : Nat} {p : Nat} {ix : Int32} {ro : Int32} {ba : Int32} {sa : Int32} {cp : Int32} {po : Int32} {li : Int32} {mk : Int32} {rd : Int32}  (h_p : M p = some (cPm G ro ba sa cp po li mk rd))  : z_Mi l G qX5_where (z_rm 1 0 0) [.ref m, .ref p, .int ix] M (fun r M' => r = (ba + sa) + ix ∧ M' = M)  := by
  refine z_Mi_of _ (plainFor_of_name rfl) rfl (Nat.le_of_ble_eq_true rfl) (fun X hl hG hnm C ret => ?_)
  subst hl; subst hG
  have C : z_C X cX5_where RX5 3 (z_rm 1 0 0) := C
  show z_W X M 0 0 0 [(0, .ref m), (1, .ref p), (2, .int ix)] []
  refine z_aload_n C dX5_where_0 rfl 1 rfl ?_
  refine z_iconst C (v := 1) dX5_where_1 (by decide) ?_
  refine z_pl1 C h_p dX5_where_2 ?_
  refine z_aload_n C dX5_where_3 rfl 1 rfl ?_
  refine z_iconst C (v := 2) dX5_where_4 (by decide) ?_
  refine z_pl2 C h_p dX5_where_5 ?_
  refine z_iadd C dX5_where_6 ?_
  refine z_iload_n C dX5_where_7 rfl 2 rfl ?_
  refine z_iadd C dX5_where_8 ?_
  exact ret dX5_where_9 rfl (⟨rfl, rfl⟩) (by decide) (by decide)
set_option maxRecDepth 20000 in
theorem c_X5_did (l : Launch) (G : zG) {M : zM} {m : Nat} {r0 : Int32} {tp : Nat} {nr : Int32} {pn : Nat} {td : Nat} {ac : Int32} {kn : Int32} {th : Int32}  (h_m : M m = some (cMd tp nr pn td ac kn th))  : z_Mi l G qX5_did (z_rm 1 0 0) [.ref m, .int r0] M (fun r M' => r = r0 ∧ M' = z_up M m (cMd tp nr pn td (ac + 1) kn th))  := by
  refine z_Mi_of _ (plainFor_of_name rfl) rfl (Nat.le_of_ble_eq_true rfl) (fun X hl hG hnm C ret => ?_)
  subst hl; subst hG
  have C : z_C X cX5_did RX5 2 (z_rm 1 0 0) := C
  show z_W X M 0 0 0 [(0, .ref m), (1, .int r0)] []
  refine z_aload_n C dX5_did_0 rfl 0 rfl ?_
  refine z_dup C dX5_did_1 rfl ?_
  refine gf_X5_40 C h_m dX5_did_2 ?_
  refine z_iconst C (v := 1) dX5_did_5 (by decide) ?_
  refine z_iadd C dX5_did_6 ?_
  refine pf_X5_40 C h_m dX5_did_7 ?_
  refine z_iload_n C dX5_did_10 rfl 1 rfl ?_
  exact ret dX5_did_11 rfl (⟨rfl, rfl⟩) (by decide) (by decide)
set_option maxRecDepth 20000 in
theorem c_X5_refuse (l : Launch) (G : zG) {M : zM} {m : Nat} {kd : Int32} {tp : Nat} {nr : Int32} {pn : Nat} {td : Nat} {ac : Int32} {kn : Int32} {th : Int32} {fd : Nat → Int32} {kj : Nat} (h_m : M m = some (cMd tp nr pn td ac kn th)) (h_td : M td = some (aI G 6 fd)) (h_kd : vp_in kd 6) (h_kj : kd.toNatClampNeg = kj) : z_Mi l G qX5_refuse (z_rm 1 0 0) [.ref m, .int kd] M (fun r M' => r = (-9) ∧ M' = z_up M td (aI G 6 (upd fd kj ((fd kj) + 1))))  := by
  refine z_Mi_of _ (plainFor_of_name rfl) rfl (Nat.le_of_ble_eq_true rfl) (fun X hl hG hnm C ret => ?_)
  subst hl; subst hG
  have C : z_C X cX5_refuse RX5 2 (z_rm 1 0 0) := C
  show z_W X M 0 0 0 [(0, .ref m), (1, .int kd)] []
  refine z_aload_n C dX5_refuse_0 rfl 0 rfl ?_
  refine gf_X5_22 C h_m dX5_refuse_1 ?_
  refine z_iload_n C dX5_refuse_4 rfl 1 rfl ?_
  refine z_dup2 C dX5_refuse_5 rfl rfl ?_
  refine z_iald (j := kj) C h_td h_kd h_kj dX5_refuse_6 ?_
  refine z_iconst C (v := 1) dX5_refuse_7 (by decide) ?_
  refine z_iadd C dX5_refuse_8 ?_
  refine z_iast (j := kj) C h_td h_kd h_kj dX5_refuse_9 ?_
  refine z_bipush C (v := (-9)) dX5_refuse_10 (by decide) ?_
  exact ret dX5_refuse_12 rfl (⟨rfl, rfl⟩) (by decide) (by decide)
set_option maxRecDepth 20000 in
theorem c_X5_isLet (l : Launch) (G : zG) {M : zM} {m : Nat} {t0 : Int32} {f0 : Int32} {tp : Nat} {nr : Int32} {pn : Nat} {td : Nat} {ac : Int32} {kn : Int32} {th : Int32}  (h_m : M m = some (cMd tp nr pn td ac kn th))  : z_Mi l G qX5_isLet (z_rm 1 0 0) [.ref m, .int t0, .int f0] M (fun r M' => r = z_lr t0 f0 ∧ M' = z_up M m (cMd tp nr pn td ac kn (z_lt t0 f0)))  := by
  refine z_Mi_of _ (plainFor_of_name rfl) rfl (Nat.le_of_ble_eq_true rfl) (fun X hl hG hnm C ret => ?_)
  subst hl; subst hG
  have C : z_C X cX5_isLet RX5 3 (z_rm 1 0 0) := C
  show z_W X M 0 0 0 [(0, .ref m), (1, .int t0), (2, .int f0)] []
  refine z_aload_n C dX5_isLet_0 rfl 0 rfl ?_
  refine z_iload_n C dX5_isLet_1 rfl 1 rfl ?_
  refine z_if_ne C (tgt := 9) dX5_isLet_2 (by decide) (fun c2 => ?_) (fun c2 => ?_)
  · refine z_iload_n C dX5_isLet_9 rfl 2 rfl ?_
    refine z_if_ne C (tgt := 17) dX5_isLet_10 (by decide) (fun c10 => ?_) (fun c10 => ?_)
    · refine z_iconst C (v := 0) dX5_isLet_17 (by decide) ?_
      refine pf_X5_33 C h_m dX5_isLet_18 ?_
      refine z_aload_n C dX5_isLet_21 rfl 0 rfl ?_
      refine gf_X5_33 C (z_up_s _ _ _) dX5_isLet_22 ?_
      refine z_if_ne C (tgt := 32) dX5_isLet_25 (by decide) (fun c25 => absurd (by decide) c25) (fun _ => ?_)
      refine z_iconst C (v := 1) dX5_isLet_28 (by decide) ?_
      refine z_goto C (tgt := 33) dX5_isLet_29 (by decide) ?_
      refine ret dX5_isLet_33 rfl ?_ (by decide) (by decide)
      exact ⟨by simp [z_lr, z_lt, *], by simp [z_lt, *]⟩
    · refine z_iconst C (v := 2) dX5_isLet_13 (by decide) ?_
      refine z_goto C (tgt := 18) dX5_isLet_14 (by decide) ?_
      refine pf_X5_33 C h_m dX5_isLet_18 ?_
      refine z_aload_n C dX5_isLet_21 rfl 0 rfl ?_
      refine gf_X5_33 C (z_up_s _ _ _) dX5_isLet_22 ?_
      refine z_if_ne C (tgt := 32) dX5_isLet_25 (by decide) (fun _ => ?_) (fun c25 => absurd c25 (by decide))
      refine z_iconst C (v := 0) dX5_isLet_32 (by decide) ?_
      refine ret dX5_isLet_33 rfl ?_ (by decide) (by decide)
      exact ⟨by simp [z_lr, z_lt, *], by simp [z_lt, *]⟩
  · refine z_iconst C (v := 1) dX5_isLet_5 (by decide) ?_
    refine z_goto C (tgt := 18) dX5_isLet_6 (by decide) ?_
    refine pf_X5_33 C h_m dX5_isLet_18 ?_
    refine z_aload_n C dX5_isLet_21 rfl 0 rfl ?_
    refine gf_X5_33 C (z_up_s _ _ _) dX5_isLet_22 ?_
    refine z_if_ne C (tgt := 32) dX5_isLet_25 (by decide) (fun _ => ?_) (fun c25 => absurd c25 (by decide))
    refine z_iconst C (v := 0) dX5_isLet_32 (by decide) ?_
    refine ret dX5_isLet_33 rfl ?_ (by decide) (by decide)
    exact ⟨by simp [z_lr, z_lt, *], by simp [z_lt, *]⟩
set_option maxRecDepth 20000 in
theorem c_X5_moved (l : Launch) (G : zG) {M : zM} {m : Nat} {p : Nat} {pl : Int32} {ro : Int32} {ba : Int32} {sa : Int32} {cp : Int32} {po : Int32} {li : Int32} {mk : Int32} {rd : Int32}  (h_p : M p = some (cPm G ro ba sa cp po li mk rd))  : z_Mv l G qX5_moved (z_rm 1 0 0) [.ref m, .ref p, .int pl] M (fun M' => ((mk ≤ pl) ∧ M' = z_up M p (cPm G ro ba sa cp pl li mk rd)) ∨ ((¬ mk ≤ pl) ∧ M' = z_up M p (cPm G ro ba sa cp pl li (-1) rd)))  := by
  refine z_Mv_of _ (plainFor_of_name rfl) rfl (Nat.le_of_ble_eq_true rfl) (fun X hl hG hnm C ret => ?_)
  subst hl; subst hG
  have C : z_C X cX5_moved RX5 3 (z_rm 1 0 0) := C
  show z_W X M 0 0 0 [(0, .ref m), (1, .ref p), (2, .int pl)] []
  refine z_aload_n C dX5_moved_0 rfl 1 rfl ?_
  refine z_iconst C (v := 4) dX5_moved_1 (by decide) ?_
  refine z_iload_n C dX5_moved_2 rfl 2 rfl ?_
  refine z_ps4 C h_p dX5_moved_3 ?_
  refine z_aload_n C dX5_moved_4 rfl 1 rfl ?_
  refine z_bipush C (v := 6) dX5_moved_5 (by decide) ?_
  refine z_pl6 C (z_up_s _ _ _) dX5_moved_7 ?_
  refine z_iload_n C dX5_moved_8 rfl 2 rfl ?_
  refine z_icmp_le C (tgt := 17) dX5_moved_9 (by decide) (fun c9 => ?_) (fun c9 => ?_)
  · exact ret dX5_moved_17 (Or.inl ⟨c9, rfl⟩) (by decide) (by decide)
  · refine z_aload_n C dX5_moved_12 rfl 1 rfl ?_
    refine z_bipush C (v := 6) dX5_moved_13 (by decide) ?_
    refine z_iconst C (v := (-1)) dX5_moved_15 (by decide) ?_
    refine z_pt6 C dX5_moved_16 ?_
    exact ret dX5_moved_17 (Or.inr (⟨c9, rfl⟩)) (by decide) (by decide)
set_option maxRecDepth 20000 in
theorem c_X5_ended (l : Launch) (G : zG) {M : zM} {m : Nat} {p : Nat} {pl : Int32} {ro : Int32} {ba : Int32} {sa : Int32} {cp : Int32} {po : Int32} {li : Int32} {mk : Int32} {rd : Int32}  (h_p : M p = some (cPm G ro ba sa cp po li mk rd))  : z_Mv l G qX5_ended (z_rm 1 0 0) [.ref m, .ref p, .int pl] M (fun M' => ((po ≤ pl) ∧ (mk ≤ pl) ∧ M' = z_up M p (cPm G ro ba sa cp po pl mk rd)) ∨ ((po ≤ pl) ∧ (¬ mk ≤ pl) ∧ M' = z_up M p (cPm G ro ba sa cp po pl (-1) rd)) ∨ ((¬ po ≤ pl) ∧ (mk ≤ pl) ∧ M' = z_up M p (cPm G ro ba sa cp pl pl mk rd)) ∨ ((¬ po ≤ pl) ∧ (¬ mk ≤ pl) ∧ M' = z_up M p (cPm G ro ba sa cp pl pl (-1) rd)))  := by
  refine z_Mv_of _ (plainFor_of_name rfl) rfl (Nat.le_of_ble_eq_true rfl) (fun X hl hG hnm C ret => ?_)
  subst hl; subst hG
  have C : z_C X cX5_ended RX5 3 (z_rm 1 0 0) := C
  show z_W X M 0 0 0 [(0, .ref m), (1, .ref p), (2, .int pl)] []
  refine z_aload_n C dX5_ended_0 rfl 1 rfl ?_
  refine z_iconst C (v := 5) dX5_ended_1 (by decide) ?_
  refine z_iload_n C dX5_ended_2 rfl 2 rfl ?_
  refine z_ps5 C h_p dX5_ended_3 ?_
  refine z_aload_n C dX5_ended_4 rfl 1 rfl ?_
  refine z_iconst C (v := 4) dX5_ended_5 (by decide) ?_
  refine z_pl4 C (z_up_s _ _ _) dX5_ended_6 ?_
  refine z_iload_n C dX5_ended_7 rfl 2 rfl ?_
  refine z_icmp_le C (tgt := 15) dX5_ended_8 (by decide) (fun c8 => ?_) (fun c8 => ?_)
  · refine z_aload_n C dX5_ended_15 rfl 1 rfl ?_
    refine z_bipush C (v := 6) dX5_ended_16 (by decide) ?_
    refine z_pl6 C (z_up_s _ _ _) dX5_ended_18 ?_
    refine z_iload_n C dX5_ended_19 rfl 2 rfl ?_
    refine z_icmp_le C (tgt := 28) dX5_ended_20 (by decide) (fun c20 => ?_) (fun c20 => ?_)
    · exact ret dX5_ended_28 (Or.inl ⟨c8, c20, rfl⟩) (by decide) (by decide)
    · refine z_aload_n C dX5_ended_23 rfl 1 rfl ?_
      refine z_bipush C (v := 6) dX5_ended_24 (by decide) ?_
      refine z_iconst C (v := (-1)) dX5_ended_26 (by decide) ?_
      refine z_pt6 C dX5_ended_27 ?_
      exact ret dX5_ended_28 (Or.inr (Or.inl ⟨c8, c20, rfl⟩)) (by decide) (by decide)
  · refine z_aload_n C dX5_ended_11 rfl 1 rfl ?_
    refine z_iconst C (v := 4) dX5_ended_12 (by decide) ?_
    refine z_iload_n C dX5_ended_13 rfl 2 rfl ?_
    refine z_pt4 C dX5_ended_14 ?_
    refine z_aload_n C dX5_ended_15 rfl 1 rfl ?_
    refine z_bipush C (v := 6) dX5_ended_16 (by decide) ?_
    refine z_pl6 C (z_up_s _ _ _) dX5_ended_18 ?_
    refine z_iload_n C dX5_ended_19 rfl 2 rfl ?_
    refine z_icmp_le C (tgt := 28) dX5_ended_20 (by decide) (fun c20 => ?_) (fun c20 => ?_)
    · exact ret dX5_ended_28 (Or.inr (Or.inr (Or.inl ⟨c8, c20, rfl⟩))) (by decide) (by decide)
    · refine z_aload_n C dX5_ended_23 rfl 1 rfl ?_
      refine z_bipush C (v := 6) dX5_ended_24 (by decide) ?_
      refine z_iconst C (v := (-1)) dX5_ended_26 (by decide) ?_
      refine z_pt6 C dX5_ended_27 ?_
      exact ret dX5_ended_28 (Or.inr (Or.inr (Or.inr (⟨c8, c20, rfl⟩)))) (by decide) (by decide)
set_option maxRecDepth 20000 in
theorem c_X5_written (l : Launch) (G : zG) {M : zM} {m : Nat} {pl : Int32} {v : Int32} {tp : Nat} {nr : Int32} {pn : Nat} {td : Nat} {ac : Int32} {kn : Int32} {th : Int32} {nt : Nat} {ft : Nat → Int32}  (h_m : M m = some (cMd tp nr pn td ac kn th)) (h_tp : M tp = some (aI G nt ft)) (h_pl : vp_in pl nt) : z_Mi l G qX5_written (z_rm 1 0 0) [.ref m, .int pl, .int v] M (fun r M' => r = ft pl.toNatClampNeg ∧ M' = z_up M tp (aI G nt (upd ft pl.toNatClampNeg v)))  := by
  refine z_Mi_of _ (plainFor_of_name rfl) rfl (Nat.le_of_ble_eq_true rfl) (fun X hl hG hnm C ret => ?_)
  subst hl; subst hG
  have C : z_C X cX5_written RX5 4 (z_rm 1 0 0) := C
  show z_W X M 0 0 0 [(0, .ref m), (1, .int pl), (2, .int v)] []
  refine z_aload_n C dX5_written_0 rfl 0 rfl ?_
  refine gf_X5_9 C h_m dX5_written_1 ?_
  refine z_iload_n C dX5_written_4 rfl 1 rfl ?_
  refine z_iald (j := pl.toNatClampNeg) C h_tp h_pl rfl dX5_written_5 ?_
  refine z_istore_n (lv' := [(3, .int (ft pl.toNatClampNeg)), (0, .ref m), (1, .int pl), (2, .int v)]) C dX5_written_6 rfl (by decide) rfl ?_
  refine z_aload_n C dX5_written_7 rfl 1 rfl ?_
  refine gf_X5_9 C h_m dX5_written_8 ?_
  refine z_iload_n C dX5_written_11 rfl 2 rfl ?_
  refine z_iload_n C dX5_written_12 rfl 3 rfl ?_
  refine z_iast (j := pl.toNatClampNeg) C h_tp h_pl rfl dX5_written_13 ?_
  refine z_iload_n C dX5_written_14 rfl 0 rfl ?_
  exact ret dX5_written_15 rfl (⟨rfl, rfl⟩) (by decide) (by decide)
set_option maxRecDepth 20000 in
theorem c_X5_begun (l : Launch) (G : zG) {M : zM} {m : Nat} {p : Nat} {p1 : Int32} {l1 : Int32} {tp : Nat} {nr : Int32} {pn : Nat} {td : Nat} {ac : Int32} {kn : Int32} {th : Int32} {ro : Int32} {ba : Int32} {sa : Int32} {cp : Int32} {po : Int32} {li : Int32} {mk : Int32} {rd : Int32}  (h_m : M m = some (cMd tp nr pn td ac kn th)) (h_p : M p = some (cPm G ro ba sa cp po li mk rd))  : z_Mi l G qX5_begun (z_rm 2 0 0) [.ref m, .ref p, .int p1, .int l1] M (fun r M' => r = (l1 - p1) ∧ M' = z_up (z_up M p (cPm G ro ba sa cp p1 l1 (-1) rd)) m (cMd tp nr pn td (ac + 1) kn th))  := by
  refine z_Mi_of _ (plainFor_of_name rfl) rfl (Nat.le_of_ble_eq_true rfl) (fun X hl hG hnm C ret => ?_)
  subst hl; subst hG
  have C : z_C X cX5_begun RX5 4 (z_rm 2 0 0) := C
  show z_W X M 0 0 0 [(0, .ref m), (1, .ref p), (2, .int p1), (3, .int l1)] []
  refine z_aload_n C dX5_begun_0 rfl 1 rfl ?_
  refine z_iconst C (v := 4) dX5_begun_1 (by decide) ?_
  refine z_iload_n C dX5_begun_2 rfl 2 rfl ?_
  refine z_ps4 C h_p dX5_begun_3 ?_
  refine z_aload_n C dX5_begun_4 rfl 1 rfl ?_
  refine z_iconst C (v := 5) dX5_begun_5 (by decide) ?_
  refine z_iload_n C dX5_begun_6 rfl 3 rfl ?_
  refine z_pt5 C dX5_begun_7 ?_
  refine z_aload_n C dX5_begun_8 rfl 1 rfl ?_
  refine z_bipush C (v := 6) dX5_begun_9 (by decide) ?_
  refine z_iconst C (v := (-1)) dX5_begun_11 (by decide) ?_
  refine z_pt6 C dX5_begun_12 ?_
  refine z_aload_n C dX5_begun_13 rfl 0 rfl ?_
  refine z_aload_n C dX5_begun_14 rfl 1 rfl ?_
  refine z_callSi (rest := [.ref m]) (k' := 0) (n' := 0) C (c_X5_left (z_l X) (z_G X) (z_up_s _ _ _)) (cs_X5_43 C (by decide)) rfl rfl (Nat.le_of_ble_eq_true rfl) rfl rfl (by decide) (by decide) dX5_begun_15 (fun x15 M' hq => ?_)
  obtain ⟨rfl, rfl⟩ := hq
  refine z_callVi (rest := []) (k' := 0) (n' := 0) C (c_X5_did (z_l X) (z_G X) ((z_up_n _ _ (z_ne h_m h_p (by intro h; cases h))).trans h_m)) (cs_X5_63 C (by decide)) ((z_up_n _ _ (z_ne h_m h_p (by intro h; cases h))).trans h_m) rfl rfl rfl rfl (Nat.le_of_ble_eq_true rfl) rfl rfl (by decide) (by decide) dX5_begun_18 (fun x18 M' hq => ?_)
  obtain ⟨rfl, rfl⟩ := hq
  exact ret dX5_begun_21 rfl (⟨rfl, rfl⟩) (by decide) (by decide)
set_option maxRecDepth 20000 in
theorem c_X5_thrown (l : Launch) (G : zG) {M : zM} {m : Nat} {tp : Nat} {nr : Int32} {pn : Nat} {td : Nat} {ac : Int32} {kn : Int32} {th : Int32}  (h_m : M m = some (cMd tp nr pn td ac kn th))  : z_Mi l G qX5_thrown (z_rm 1 0 0) [.ref m] M (fun r M' => r = th ∧ M' = M)  := by
  refine z_Mi_of _ (plainFor_of_name rfl) rfl (Nat.le_of_ble_eq_true rfl) (fun X hl hG hnm C ret => ?_)
  subst hl; subst hG
  have C : z_C X cX5_thrown RX5 1 (z_rm 1 0 0) := C
  show z_W X M 0 0 0 [(0, .ref m)] []
  refine z_aload_n C dX5_thrown_0 rfl 0 rfl ?_
  refine gf_X5_33 C h_m dX5_thrown_1 ?_
  exact ret dX5_thrown_4 rfl (⟨rfl, rfl⟩) (by decide) (by decide)
set_option maxRecDepth 20000 in
theorem c_X5_knock (l : Launch) (G : zG) {M : zM} {m : Nat} {tp : Nat} {nr : Int32} {pn : Nat} {td : Nat} {ac : Int32} {kn : Int32} {th : Int32}  (h_m : M m = some (cMd tp nr pn td ac kn th))  : z_Mi l G qX5_knock (z_rm 1 0 0) [.ref m] M (fun r M' => r = kn + 1 ∧ M' = z_up M m (cMd tp nr pn td ac (kn + 1) 0))  := by
  refine z_Mi_of _ (plainFor_of_name rfl) rfl (Nat.le_of_ble_eq_true rfl) (fun X hl hG hnm C ret => ?_)
  subst hl; subst hG
  have C : z_C X cX5_knock RX5 1 (z_rm 1 0 0) := C
  show z_W X M 0 0 0 [(0, .ref m)] []
  refine z_aload_n C dX5_knock_0 rfl 0 rfl ?_
  refine z_iconst C (v := 0) dX5_knock_1 (by decide) ?_
  refine pf_X5_33 C h_m dX5_knock_2 ?_
  refine z_aload_n C dX5_knock_5 rfl 0 rfl ?_
  refine z_dup C dX5_knock_6 rfl ?_
  refine gf_X5_139 C (z_up_s _ _ _) dX5_knock_7 ?_
  refine z_iconst C (v := 1) dX5_knock_10 (by decide) ?_
  refine z_iadd C dX5_knock_11 ?_
  refine pg_X5_139 C dX5_knock_12 ?_
  refine z_aload_n C dX5_knock_15 rfl 0 rfl ?_
  refine gf_X5_139 C (z_up_s _ _ _) dX5_knock_16 ?_
  exact ret dX5_knock_19 rfl (⟨rfl, rfl⟩) (by decide) (by decide)
set_option maxRecDepth 20000 in
theorem c_X5_isSound (l : Launch) (G : zG) {M : zM} {m : Nat} {tp : Nat} {nr : Int32} {pn : Nat} {td : Nat} {ac : Int32} {kn : Int32} {th : Int32}  (h_m : M m = some (cMd tp nr pn td ac kn th))  : z_Mi l G qX5_isSound (z_rm 1 0 0) [.ref m] M (fun r M' => r = 1 ∧ M' = z_up M m (cMd tp nr pn td ac kn 0))  := by
  refine z_Mi_of _ (plainFor_of_name rfl) rfl (Nat.le_of_ble_eq_true rfl) (fun X hl hG hnm C ret => ?_)
  subst hl; subst hG
  have C : z_C X cX5_isSound RX5 1 (z_rm 1 0 0) := C
  show z_W X M 0 0 0 [(0, .ref m)] []
  refine z_aload_n C dX5_isSound_0 rfl 0 rfl ?_
  refine z_iconst C (v := 0) dX5_isSound_1 (by decide) ?_
  refine pf_X5_33 C h_m dX5_isSound_2 ?_
  refine z_iconst C (v := 1) dX5_isSound_5 (by decide) ?_
  exact ret dX5_isSound_6 rfl (⟨rfl, rfl⟩) (by decide) (by decide)
