theorem ap_in {a b t : List Cond} (ha : ∀ w ∈ a, w ∈ t) (hb : ∀ w ∈ b, w ∈ t) : ∀ w ∈ a ++ b, w ∈ t := fun w h => (List.mem_append.mp h).elim (ha w) (hb w)
set_option maxRecDepth 20000 in
theorem wsL_law_c1 : ∀ w ∈ wsL_law0_r1, w ∈ lw_tbl := by decide +kernel
set_option maxRecDepth 20000 in
theorem wsL_law_c2 : ∀ w ∈ wsL_law0_r2, w ∈ lw_tbl := by decide +kernel
set_option maxRecDepth 20000 in
theorem wsL_law_c3 : ∀ w ∈ wsL_law0_r3, w ∈ lw_tbl := by decide +kernel
set_option maxRecDepth 20000 in
theorem wsL_law_c4 : ∀ w ∈ wsL_law0_r4, w ∈ lw_tbl := by decide +kernel
set_option maxRecDepth 20000 in
theorem wsL_law_c5 : ∀ w ∈ wsL_law0_r5, w ∈ lw_tbl := by decide +kernel
set_option maxRecDepth 20000 in
theorem wsL_law_c6 : ∀ w ∈ wsL_law0_r6, w ∈ lw_tbl := by decide +kernel
set_option maxRecDepth 20000 in
theorem wsL_law_c7 : ∀ w ∈ wsL_law0_r7, w ∈ lw_tbl := by decide +kernel
set_option maxRecDepth 20000 in
theorem wsL_law_c8 : ∀ w ∈ wsL_law0_r8, w ∈ lw_tbl := by decide +kernel
set_option maxRecDepth 20000 in
theorem wsL_law_c9 : ∀ w ∈ wsL_law0_r9, w ∈ lw_tbl := by decide +kernel
set_option maxRecDepth 20000 in
theorem wsL_law_c10 : ∀ w ∈ wsL_law0_r10, w ∈ lw_tbl := by decide +kernel
set_option maxRecDepth 20000 in
theorem wsL_law_c11 : ∀ w ∈ wsL_law0_r11, w ∈ lw_tbl := by decide +kernel
set_option maxRecDepth 20000 in
theorem wsL_law_c12 : ∀ w ∈ wsL_law0_r12, w ∈ lw_tbl := by decide +kernel
set_option maxRecDepth 20000 in
theorem wsL_law_c13 : ∀ w ∈ wsL_law0_r13, w ∈ lw_tbl := by decide +kernel
set_option maxRecDepth 20000 in
theorem wsL_law_c14 : ∀ w ∈ wsL_law0_r14, w ∈ lw_tbl := by decide +kernel
set_option maxRecDepth 20000 in
theorem wsL_law_c15 : ∀ w ∈ wsL_law0_r15, w ∈ lw_tbl := by decide +kernel
set_option maxRecDepth 20000 in
theorem wsL_law_c16 : ∀ w ∈ wsL_law0_r16, w ∈ lw_tbl := by decide +kernel
set_option maxRecDepth 20000 in
theorem wsX10_c : ∀ w ∈ wsX10, w ∈ lw_tbl := by decide +kernel
set_option maxRecDepth 20000 in
theorem wsX00_c : ∀ w ∈ wsX00, w ∈ lw_tbl := by decide +kernel
set_option maxRecDepth 20000 in
theorem wsX20_c : ∀ w ∈ wsX20, w ∈ lw_tbl := by decide +kernel
theorem wsL_law_in0 : ∀ w ∈ wsL_law0, w ∈ lw_tbl := ap_in (ap_in (ap_in (ap_in (ap_in wsL_law_c1 (ap_in wsL_law_c2 (ap_in wsL_law_c3 (ap_in wsL_law_c4 (ap_in wsL_law_c5 (ap_in wsL_law_c6 (ap_in wsL_law_c7 (ap_in wsL_law_c8 (ap_in wsL_law_c9 (ap_in wsL_law_c10 (ap_in wsL_law_c11 (ap_in wsL_law_c12 (ap_in wsL_law_c13 (ap_in wsL_law_c14 (ap_in wsL_law_c15 wsL_law_c16))))))))))))))) wsX10_c) wsX00_c) wsX20_c) (fun _ h => nomatch h)
theorem wsL_law_x0 : ∀ w ∈ (vx_atS RX1 31 "java/lang/IllegalArgumentException" ["java/lang/RuntimeException", "java/lang/Exception"]).filter goodWord, w ∈ lw_tbl := by decide +kernel
theorem wsL_law_x1 : ∀ w ∈ (vx_atS RX1 42 "java/lang/IllegalStateException" ["java/lang/RuntimeException", "java/lang/Exception"]).filter goodWord, w ∈ lw_tbl := by decide +kernel
theorem wsL_law_x2 : ∀ w ∈ (vx_atS RX1 125 "java/lang/IndexOutOfBoundsException" ["java/lang/RuntimeException", "java/lang/Exception"]).filter goodWord, w ∈ lw_tbl := by decide +kernel
theorem wsL_law_in : ∀ w ∈ wsL_law, w ∈ lw_tbl := fun w h => (List.mem_append.mp h).elim (fun h => (List.mem_append.mp h).elim (fun h => (List.mem_append.mp h).elim (fun h => wsL_law_in0 w h) (fun h => wsL_law_x0 w h)) (fun h => wsL_law_x1 w h)) (fun h => wsL_law_x2 w h)
theorem inlX0 : ∀ w ∈ wsX00, w ∈ wsL_law := fun _ h => List.mem_append_left _ (List.mem_append_left _ (List.mem_append_left _ (List.mem_append_left _ (List.mem_append_left _ (List.mem_append_right _ h)))))
theorem inX0 : ∀ w ∈ wsX00, w ∈ lw_tbl := fun w h => wsL_law_in w (inlX0 w h)
theorem inlX1 : ∀ w ∈ wsX10, w ∈ wsL_law := fun _ h => List.mem_append_left _ (List.mem_append_left _ (List.mem_append_left _ (List.mem_append_left _ (List.mem_append_left _ (List.mem_append_left _ (List.mem_append_right _ h))))))
theorem inX1 : ∀ w ∈ wsX10, w ∈ lw_tbl := fun w h => wsL_law_in w (inlX1 w h)
theorem inlX2 : ∀ w ∈ wsX20, w ∈ wsL_law := fun _ h => List.mem_append_left _ (List.mem_append_left _ (List.mem_append_left _ (List.mem_append_left _ (List.mem_append_right _ h))))
theorem inX2 : ∀ w ∈ wsX20, w ∈ lw_tbl := fun w h => wsL_law_in w (inlX2 w h)
theorem inX3 : ∀ w ∈ wsX30, w ∈ lw_tbl := by decide +kernel
theorem inX4 : ∀ w ∈ wsX40, w ∈ lw_tbl := by decide +kernel
theorem inJxe99ae : ∀ w ∈ wsJxe99ae0, w ∈ lw_tbl := by decide +kernel
theorem inJ9 : ∀ w ∈ wsJ90, w ∈ lw_tbl := by decide +kernel
theorem inJ0 : ∀ w ∈ wsJ00, w ∈ lw_tbl := by decide +kernel
theorem dX0_init_0 : decode cX0_init 0 = .ok (.aload_n 0, 1) := by decide +kernel
theorem dX0_init_1 : decode cX0_init 1 = .ok (.invokespecial 3, 3) := by decide +kernel
theorem dX0_init_4 : decode cX0_init 4 = .ok (.aload_n 0, 1) := by decide +kernel
theorem dX0_init_5 : decode cX0_init 5 = .ok (.bipush 12, 2) := by decide +kernel
theorem dX0_init_7 : decode cX0_init 7 = .ok (.newarray .int, 2) := by decide +kernel
theorem dX0_init_9 : decode cX0_init 9 = .ok (.putfield 9, 3) := by decide +kernel
theorem dX0_init_12 : decode cX0_init 12 = .ok (.aload_n 0, 1) := by decide +kernel
theorem dX0_init_13 : decode cX0_init 13 = .ok (.bipush 12, 2) := by decide +kernel
theorem dX0_init_15 : decode cX0_init 15 = .ok (.newarray .int, 2) := by decide +kernel
theorem dX0_init_17 : decode cX0_init 17 = .ok (.putfield 15, 3) := by decide +kernel
theorem dX0_init_20 : decode cX0_init 20 = .ok (.aload_n 0, 1) := by decide +kernel
theorem dX0_init_21 : decode cX0_init 21 = .ok (.bipush 12, 2) := by decide +kernel
theorem dX0_init_23 : decode cX0_init 23 = .ok (.newarray .int, 2) := by decide +kernel
theorem dX0_init_25 : decode cX0_init 25 = .ok (.putfield 18, 3) := by decide +kernel
theorem dX0_init_28 : decode cX0_init 28 = .ok (.aload_n 0, 1) := by decide +kernel
theorem dX0_init_29 : decode cX0_init 29 = .ok (.bipush 12, 2) := by decide +kernel
theorem dX0_init_31 : decode cX0_init 31 = .ok (.newarray .int, 2) := by decide +kernel
theorem dX0_init_33 : decode cX0_init 33 = .ok (.putfield 21, 3) := by decide +kernel
theorem dX0_init_36 : decode cX0_init 36 = .ok (.aload_n 0, 1) := by decide +kernel
theorem dX0_init_37 : decode cX0_init 37 = .ok (.bipush 12, 2) := by decide +kernel
theorem dX0_init_39 : decode cX0_init 39 = .ok (.newarray .int, 2) := by decide +kernel
theorem dX0_init_41 : decode cX0_init 41 = .ok (.putfield 24, 3) := by decide +kernel
theorem dX0_init_44 : decode cX0_init 44 = .ok (.aload_n 0, 1) := by decide +kernel
theorem dX0_init_45 : decode cX0_init 45 = .ok (.bipush 12, 2) := by decide +kernel
theorem dX0_init_47 : decode cX0_init 47 = .ok (.newarray .int, 2) := by decide +kernel
theorem dX0_init_49 : decode cX0_init 49 = .ok (.putfield 27, 3) := by decide +kernel
theorem dX0_init_52 : decode cX0_init 52 = .ok (.aload_n 0, 1) := by decide +kernel
theorem dX0_init_53 : decode cX0_init 53 = .ok (.bipush 12, 2) := by decide +kernel
theorem dX0_init_55 : decode cX0_init 55 = .ok (.newarray .int, 2) := by decide +kernel
theorem dX0_init_57 : decode cX0_init 57 = .ok (.putfield 30, 3) := by decide +kernel
theorem dX0_init_60 : decode cX0_init 60 = .ok (.return_, 1) := by decide +kernel
theorem dX0_size_0 : decode cX0_size 0 = .ok (.aload_n 0, 1) := by decide +kernel
theorem dX0_size_1 : decode cX0_size 1 = .ok (.getfield 33, 3) := by decide +kernel
theorem dX0_size_4 : decode cX0_size 4 = .ok (.ireturn, 1) := by decide +kernel
theorem dX0_isFull_0 : decode cX0_isFull 0 = .ok (.aload_n 0, 1) := by decide +kernel
theorem dX0_isFull_1 : decode cX0_isFull 1 = .ok (.getfield 33, 3) := by decide +kernel
theorem dX0_isFull_4 : decode cX0_isFull 4 = .ok (.bipush 12, 2) := by decide +kernel
theorem dX0_isFull_6 : decode cX0_isFull 6 = .ok (.if_icmp .lt 7, 3) := by decide +kernel
theorem dX0_isFull_9 : decode cX0_isFull 9 = .ok (.iconst 1, 1) := by decide +kernel
theorem dX0_isFull_10 : decode cX0_isFull 10 = .ok (.goto 4, 3) := by decide +kernel
theorem dX0_isFull_13 : decode cX0_isFull 13 = .ok (.iconst 0, 1) := by decide +kernel
theorem dX0_isFull_14 : decode cX0_isFull 14 = .ok (.ireturn, 1) := by decide +kernel
theorem dX0_has_0 : decode cX0_has 0 = .ok (.iload_n 1, 1) := by decide +kernel
theorem dX0_has_1 : decode cX0_has 1 = .ok (.ifCond .lt 15, 3) := by decide +kernel
theorem dX0_has_4 : decode cX0_has 4 = .ok (.iload_n 1, 1) := by decide +kernel
theorem dX0_has_5 : decode cX0_has 5 = .ok (.aload_n 0, 1) := by decide +kernel
theorem dX0_has_6 : decode cX0_has 6 = .ok (.getfield 33, 3) := by decide +kernel
theorem dX0_has_9 : decode cX0_has 9 = .ok (.if_icmp .ge 7, 3) := by decide +kernel
theorem dX0_has_12 : decode cX0_has 12 = .ok (.iconst 1, 1) := by decide +kernel
theorem dX0_has_13 : decode cX0_has 13 = .ok (.goto 4, 3) := by decide +kernel
theorem dX0_has_16 : decode cX0_has 16 = .ok (.iconst 0, 1) := by decide +kernel
theorem dX0_has_17 : decode cX0_has 17 = .ok (.ireturn, 1) := by decide +kernel
theorem dX0_rating_0 : decode cX0_rating 0 = .ok (.aload_n 0, 1) := by decide +kernel
theorem dX0_rating_1 : decode cX0_rating 1 = .ok (.getfield 15, 3) := by decide +kernel
theorem dX0_rating_4 : decode cX0_rating 4 = .ok (.iload_n 1, 1) := by decide +kernel
theorem dX0_rating_5 : decode cX0_rating 5 = .ok (.iaload, 1) := by decide +kernel
theorem dX0_rating_6 : decode cX0_rating 6 = .ok (.ireturn, 1) := by decide +kernel
theorem dX0_league_0 : decode cX0_league 0 = .ok (.aload_n 0, 1) := by decide +kernel
theorem dX0_league_1 : decode cX0_league 1 = .ok (.getfield 9, 3) := by decide +kernel
theorem dX0_league_4 : decode cX0_league 4 = .ok (.iload_n 1, 1) := by decide +kernel
theorem dX0_league_5 : decode cX0_league 5 = .ok (.iaload, 1) := by decide +kernel
theorem dX0_league_6 : decode cX0_league 6 = .ok (.ireturn, 1) := by decide +kernel
theorem dX0_points_0 : decode cX0_points 0 = .ok (.aload_n 0, 1) := by decide +kernel
theorem dX0_points_1 : decode cX0_points 1 = .ok (.getfield 18, 3) := by decide +kernel
theorem dX0_points_4 : decode cX0_points 4 = .ok (.iload_n 1, 1) := by decide +kernel
theorem dX0_points_5 : decode cX0_points 5 = .ok (.iaload, 1) := by decide +kernel
theorem dX0_points_6 : decode cX0_points 6 = .ok (.ireturn, 1) := by decide +kernel
theorem dX0_bouts_0 : decode cX0_bouts 0 = .ok (.aload_n 0, 1) := by decide +kernel
theorem dX0_bouts_1 : decode cX0_bouts 1 = .ok (.getfield 21, 3) := by decide +kernel
theorem dX0_bouts_4 : decode cX0_bouts 4 = .ok (.iload_n 1, 1) := by decide +kernel
theorem dX0_bouts_5 : decode cX0_bouts 5 = .ok (.iaload, 1) := by decide +kernel
theorem dX0_bouts_6 : decode cX0_bouts 6 = .ok (.ireturn, 1) := by decide +kernel
theorem dX0_seasonBouts_0 : decode cX0_seasonBouts 0 = .ok (.aload_n 0, 1) := by decide +kernel
theorem dX0_seasonBouts_1 : decode cX0_seasonBouts 1 = .ok (.getfield 24, 3) := by decide +kernel
theorem dX0_seasonBouts_4 : decode cX0_seasonBouts 4 = .ok (.iload_n 1, 1) := by decide +kernel
theorem dX0_seasonBouts_5 : decode cX0_seasonBouts 5 = .ok (.iaload, 1) := by decide +kernel
theorem dX0_seasonBouts_6 : decode cX0_seasonBouts 6 = .ok (.ireturn, 1) := by decide +kernel
theorem dX0_winRow_0 : decode cX0_winRow 0 = .ok (.aload_n 0, 1) := by decide +kernel
theorem dX0_winRow_1 : decode cX0_winRow 1 = .ok (.getfield 27, 3) := by decide +kernel
theorem dX0_winRow_4 : decode cX0_winRow 4 = .ok (.iload_n 1, 1) := by decide +kernel
theorem dX0_winRow_5 : decode cX0_winRow 5 = .ok (.iaload, 1) := by decide +kernel
theorem dX0_winRow_6 : decode cX0_winRow 6 = .ok (.ireturn, 1) := by decide +kernel
theorem dX0_best_0 : decode cX0_best 0 = .ok (.aload_n 0, 1) := by decide +kernel
theorem dX0_best_1 : decode cX0_best 1 = .ok (.getfield 30, 3) := by decide +kernel
theorem dX0_best_4 : decode cX0_best 4 = .ok (.iload_n 1, 1) := by decide +kernel
theorem dX0_best_5 : decode cX0_best 5 = .ok (.iaload, 1) := by decide +kernel
theorem dX0_best_6 : decode cX0_best 6 = .ok (.ireturn, 1) := by decide +kernel
theorem dX0_add_0 : decode cX0_add 0 = .ok (.aload_n 0, 1) := by decide +kernel
theorem dX0_add_1 : decode cX0_add 1 = .ok (.getfield 33, 3) := by decide +kernel
theorem dX0_add_4 : decode cX0_add 4 = .ok (.istore_n 2, 1) := by decide +kernel
theorem dX0_add_5 : decode cX0_add 5 = .ok (.aload_n 0, 1) := by decide +kernel
theorem dX0_add_6 : decode cX0_add 6 = .ok (.getfield 9, 3) := by decide +kernel
theorem dX0_add_9 : decode cX0_add 9 = .ok (.iload_n 2, 1) := by decide +kernel
theorem dX0_add_10 : decode cX0_add 10 = .ok (.iload_n 1, 1) := by decide +kernel
theorem dX0_add_11 : decode cX0_add 11 = .ok (.iastore, 1) := by decide +kernel
theorem dX0_add_12 : decode cX0_add 12 = .ok (.aload_n 0, 1) := by decide +kernel
theorem dX0_add_13 : decode cX0_add 13 = .ok (.getfield 15, 3) := by decide +kernel
theorem dX0_add_16 : decode cX0_add 16 = .ok (.iload_n 2, 1) := by decide +kernel
theorem dX0_add_17 : decode cX0_add 17 = .ok (.sipush 1000, 3) := by decide +kernel
theorem dX0_add_20 : decode cX0_add 20 = .ok (.iastore, 1) := by decide +kernel
theorem dX0_add_21 : decode cX0_add 21 = .ok (.aload_n 0, 1) := by decide +kernel
theorem dX0_add_22 : decode cX0_add 22 = .ok (.getfield 30, 3) := by decide +kernel
theorem dX0_add_25 : decode cX0_add 25 = .ok (.iload_n 2, 1) := by decide +kernel
theorem dX0_add_26 : decode cX0_add 26 = .ok (.sipush 1000, 3) := by decide +kernel
theorem dX0_add_29 : decode cX0_add 29 = .ok (.iastore, 1) := by decide +kernel
theorem dX0_add_30 : decode cX0_add 30 = .ok (.aload_n 0, 1) := by decide +kernel
theorem dX0_add_31 : decode cX0_add 31 = .ok (.dup, 1) := by decide +kernel
theorem dX0_add_32 : decode cX0_add 32 = .ok (.getfield 33, 3) := by decide +kernel
theorem dX0_add_35 : decode cX0_add 35 = .ok (.iconst 1, 1) := by decide +kernel
theorem dX0_add_36 : decode cX0_add 36 = .ok (.iadd, 1) := by decide +kernel
theorem dX0_add_37 : decode cX0_add 37 = .ok (.putfield 33, 3) := by decide +kernel
theorem dX0_add_40 : decode cX0_add 40 = .ok (.iload_n 2, 1) := by decide +kernel
theorem dX0_add_41 : decode cX0_add 41 = .ok (.ireturn, 1) := by decide +kernel
theorem dX0_setRating_0 : decode cX0_setRating 0 = .ok (.aload_n 0, 1) := by decide +kernel
theorem dX0_setRating_1 : decode cX0_setRating 1 = .ok (.getfield 15, 3) := by decide +kernel
theorem dX0_setRating_4 : decode cX0_setRating 4 = .ok (.iload_n 1, 1) := by decide +kernel
theorem dX0_setRating_5 : decode cX0_setRating 5 = .ok (.iload_n 2, 1) := by decide +kernel
theorem dX0_setRating_6 : decode cX0_setRating 6 = .ok (.iastore, 1) := by decide +kernel
theorem dX0_setRating_7 : decode cX0_setRating 7 = .ok (.aload_n 0, 1) := by decide +kernel
theorem dX0_setRating_8 : decode cX0_setRating 8 = .ok (.getfield 30, 3) := by decide +kernel
theorem dX0_setRating_11 : decode cX0_setRating 11 = .ok (.iload_n 1, 1) := by decide +kernel
theorem dX0_setRating_12 : decode cX0_setRating 12 = .ok (.aload_n 0, 1) := by decide +kernel
theorem dX0_setRating_13 : decode cX0_setRating 13 = .ok (.getfield 30, 3) := by decide +kernel
theorem dX0_setRating_16 : decode cX0_setRating 16 = .ok (.iload_n 1, 1) := by decide +kernel
theorem dX0_setRating_17 : decode cX0_setRating 17 = .ok (.iaload, 1) := by decide +kernel
theorem dX0_setRating_18 : decode cX0_setRating 18 = .ok (.iload_n 2, 1) := by decide +kernel
theorem dX0_setRating_19 : decode cX0_setRating 19 = .ok (.invokestatic 37, 3) := by decide +kernel
theorem dX0_setRating_22 : decode cX0_setRating 22 = .ok (.iastore, 1) := by decide +kernel
theorem dX0_setRating_23 : decode cX0_setRating 23 = .ok (.return_, 1) := by decide +kernel
theorem dX0_copyFrom_0 : decode cX0_copyFrom 0 = .ok (.aload_n 0, 1) := by decide +kernel
theorem dX0_copyFrom_1 : decode cX0_copyFrom 1 = .ok (.aload_n 1, 1) := by decide +kernel
theorem dX0_copyFrom_2 : decode cX0_copyFrom 2 = .ok (.getfield 33, 3) := by decide +kernel
theorem dX0_copyFrom_5 : decode cX0_copyFrom 5 = .ok (.putfield 33, 3) := by decide +kernel
theorem dX0_copyFrom_8 : decode cX0_copyFrom 8 = .ok (.iconst 0, 1) := by decide +kernel
theorem dX0_copyFrom_9 : decode cX0_copyFrom 9 = .ok (.istore_n 2, 1) := by decide +kernel
theorem dX0_copyFrom_10 : decode cX0_copyFrom 10 = .ok (.iload_n 2, 1) := by decide +kernel
theorem dX0_copyFrom_11 : decode cX0_copyFrom 11 = .ok (.aload_n 0, 1) := by decide +kernel
theorem dX0_copyFrom_12 : decode cX0_copyFrom 12 = .ok (.getfield 33, 3) := by decide +kernel
theorem dX0_copyFrom_15 : decode cX0_copyFrom 15 = .ok (.if_icmp .ge 93, 3) := by decide +kernel
theorem dX0_copyFrom_18 : decode cX0_copyFrom 18 = .ok (.aload_n 0, 1) := by decide +kernel
theorem dX0_copyFrom_19 : decode cX0_copyFrom 19 = .ok (.getfield 9, 3) := by decide +kernel
theorem dX0_copyFrom_22 : decode cX0_copyFrom 22 = .ok (.iload_n 2, 1) := by decide +kernel
theorem dX0_copyFrom_23 : decode cX0_copyFrom 23 = .ok (.aload_n 1, 1) := by decide +kernel
theorem dX0_copyFrom_24 : decode cX0_copyFrom 24 = .ok (.getfield 9, 3) := by decide +kernel
theorem dX0_copyFrom_27 : decode cX0_copyFrom 27 = .ok (.iload_n 2, 1) := by decide +kernel
theorem dX0_copyFrom_28 : decode cX0_copyFrom 28 = .ok (.iaload, 1) := by decide +kernel
theorem dX0_copyFrom_29 : decode cX0_copyFrom 29 = .ok (.iastore, 1) := by decide +kernel
theorem dX0_copyFrom_30 : decode cX0_copyFrom 30 = .ok (.aload_n 0, 1) := by decide +kernel
theorem dX0_copyFrom_31 : decode cX0_copyFrom 31 = .ok (.getfield 15, 3) := by decide +kernel
theorem dX0_copyFrom_34 : decode cX0_copyFrom 34 = .ok (.iload_n 2, 1) := by decide +kernel
theorem dX0_copyFrom_35 : decode cX0_copyFrom 35 = .ok (.aload_n 1, 1) := by decide +kernel
theorem dX0_copyFrom_36 : decode cX0_copyFrom 36 = .ok (.getfield 15, 3) := by decide +kernel
theorem dX0_copyFrom_39 : decode cX0_copyFrom 39 = .ok (.iload_n 2, 1) := by decide +kernel
theorem dX0_copyFrom_40 : decode cX0_copyFrom 40 = .ok (.iaload, 1) := by decide +kernel
theorem dX0_copyFrom_41 : decode cX0_copyFrom 41 = .ok (.iastore, 1) := by decide +kernel
theorem dX0_copyFrom_42 : decode cX0_copyFrom 42 = .ok (.aload_n 0, 1) := by decide +kernel
theorem dX0_copyFrom_43 : decode cX0_copyFrom 43 = .ok (.getfield 18, 3) := by decide +kernel
theorem dX0_copyFrom_46 : decode cX0_copyFrom 46 = .ok (.iload_n 2, 1) := by decide +kernel
theorem dX0_copyFrom_47 : decode cX0_copyFrom 47 = .ok (.aload_n 1, 1) := by decide +kernel
theorem dX0_copyFrom_48 : decode cX0_copyFrom 48 = .ok (.getfield 18, 3) := by decide +kernel
theorem dX0_copyFrom_51 : decode cX0_copyFrom 51 = .ok (.iload_n 2, 1) := by decide +kernel
theorem dX0_copyFrom_52 : decode cX0_copyFrom 52 = .ok (.iaload, 1) := by decide +kernel
theorem dX0_copyFrom_53 : decode cX0_copyFrom 53 = .ok (.iastore, 1) := by decide +kernel
theorem dX0_copyFrom_54 : decode cX0_copyFrom 54 = .ok (.aload_n 0, 1) := by decide +kernel
theorem dX0_copyFrom_55 : decode cX0_copyFrom 55 = .ok (.getfield 21, 3) := by decide +kernel
theorem dX0_copyFrom_58 : decode cX0_copyFrom 58 = .ok (.iload_n 2, 1) := by decide +kernel
theorem dX0_copyFrom_59 : decode cX0_copyFrom 59 = .ok (.aload_n 1, 1) := by decide +kernel
theorem dX0_copyFrom_60 : decode cX0_copyFrom 60 = .ok (.getfield 21, 3) := by decide +kernel
theorem dX0_copyFrom_63 : decode cX0_copyFrom 63 = .ok (.iload_n 2, 1) := by decide +kernel
theorem dX0_copyFrom_64 : decode cX0_copyFrom 64 = .ok (.iaload, 1) := by decide +kernel
theorem dX0_copyFrom_65 : decode cX0_copyFrom 65 = .ok (.iastore, 1) := by decide +kernel
theorem dX0_copyFrom_66 : decode cX0_copyFrom 66 = .ok (.aload_n 0, 1) := by decide +kernel
theorem dX0_copyFrom_67 : decode cX0_copyFrom 67 = .ok (.getfield 24, 3) := by decide +kernel
theorem dX0_copyFrom_70 : decode cX0_copyFrom 70 = .ok (.iload_n 2, 1) := by decide +kernel
theorem dX0_copyFrom_71 : decode cX0_copyFrom 71 = .ok (.aload_n 1, 1) := by decide +kernel
theorem dX0_copyFrom_72 : decode cX0_copyFrom 72 = .ok (.getfield 24, 3) := by decide +kernel
theorem dX0_copyFrom_75 : decode cX0_copyFrom 75 = .ok (.iload_n 2, 1) := by decide +kernel
theorem dX0_copyFrom_76 : decode cX0_copyFrom 76 = .ok (.iaload, 1) := by decide +kernel
theorem dX0_copyFrom_77 : decode cX0_copyFrom 77 = .ok (.iastore, 1) := by decide +kernel
theorem dX0_copyFrom_78 : decode cX0_copyFrom 78 = .ok (.aload_n 0, 1) := by decide +kernel
theorem dX0_copyFrom_79 : decode cX0_copyFrom 79 = .ok (.getfield 27, 3) := by decide +kernel
theorem dX0_copyFrom_82 : decode cX0_copyFrom 82 = .ok (.iload_n 2, 1) := by decide +kernel
theorem dX0_copyFrom_83 : decode cX0_copyFrom 83 = .ok (.aload_n 1, 1) := by decide +kernel
theorem dX0_copyFrom_84 : decode cX0_copyFrom 84 = .ok (.getfield 27, 3) := by decide +kernel
theorem dX0_copyFrom_87 : decode cX0_copyFrom 87 = .ok (.iload_n 2, 1) := by decide +kernel
theorem dX0_copyFrom_88 : decode cX0_copyFrom 88 = .ok (.iaload, 1) := by decide +kernel
theorem dX0_copyFrom_89 : decode cX0_copyFrom 89 = .ok (.iastore, 1) := by decide +kernel
theorem dX0_copyFrom_90 : decode cX0_copyFrom 90 = .ok (.aload_n 0, 1) := by decide +kernel
theorem dX0_copyFrom_91 : decode cX0_copyFrom 91 = .ok (.getfield 30, 3) := by decide +kernel
theorem dX0_copyFrom_94 : decode cX0_copyFrom 94 = .ok (.iload_n 2, 1) := by decide +kernel
theorem dX0_copyFrom_95 : decode cX0_copyFrom 95 = .ok (.aload_n 1, 1) := by decide +kernel
theorem dX0_copyFrom_96 : decode cX0_copyFrom 96 = .ok (.getfield 30, 3) := by decide +kernel
theorem dX0_copyFrom_99 : decode cX0_copyFrom 99 = .ok (.iload_n 2, 1) := by decide +kernel
theorem dX0_copyFrom_100 : decode cX0_copyFrom 100 = .ok (.iaload, 1) := by decide +kernel
theorem dX0_copyFrom_101 : decode cX0_copyFrom 101 = .ok (.iastore, 1) := by decide +kernel
theorem dX0_copyFrom_102 : decode cX0_copyFrom 102 = .ok (.iinc 2 1, 3) := by decide +kernel
theorem dX0_copyFrom_105 : decode cX0_copyFrom 105 = .ok (.goto (-95), 3) := by decide +kernel
theorem dX0_copyFrom_108 : decode cX0_copyFrom 108 = .ok (.return_, 1) := by decide +kernel
set_option maxRecDepth 20000 in
theorem ggX0_expectation_X0_expectedOfHigher : GoodIn wsX0_expectation wsX0_expectedOfHigher := goodIn_r _ [5, 6, 7, 8, 9, 10] (by decide +kernel) (by decide +kernel)
set_option maxRecDepth 20000 in
theorem gX0_expectation_X0_expectedOfHigher : GoodIn wsX0_expectation (va_wsS RX0 43 yX0_expectedOfHigher wsX0_expectedOfHigher) := goodIn_app (goodIn_of _ (by decide +kernel)) ggX0_expectation_X0_expectedOfHigher
theorem dX0_expectation_0 : decode cX0_expectation 0 = .ok (.aload_n 0, 1) := by decide +kernel
theorem dX0_expectation_1 : decode cX0_expectation 1 = .ok (.getfield 15, 3) := by decide +kernel
theorem dX0_expectation_4 : decode cX0_expectation 4 = .ok (.iload_n 1, 1) := by decide +kernel
theorem dX0_expectation_5 : decode cX0_expectation 5 = .ok (.iaload, 1) := by decide +kernel
theorem dX0_expectation_6 : decode cX0_expectation 6 = .ok (.aload_n 0, 1) := by decide +kernel
theorem dX0_expectation_7 : decode cX0_expectation 7 = .ok (.getfield 15, 3) := by decide +kernel
theorem dX0_expectation_10 : decode cX0_expectation 10 = .ok (.iload_n 2, 1) := by decide +kernel
theorem dX0_expectation_11 : decode cX0_expectation 11 = .ok (.iaload, 1) := by decide +kernel
theorem dX0_expectation_12 : decode cX0_expectation 12 = .ok (.if_icmp .ge 24, 3) := by decide +kernel
theorem dX0_expectation_15 : decode cX0_expectation 15 = .ok (.sipush 1000, 3) := by decide +kernel
theorem dX0_expectation_18 : decode cX0_expectation 18 = .ok (.aload_n 0, 1) := by decide +kernel
theorem dX0_expectation_19 : decode cX0_expectation 19 = .ok (.getfield 15, 3) := by decide +kernel
theorem dX0_expectation_22 : decode cX0_expectation 22 = .ok (.iload_n 2, 1) := by decide +kernel
theorem dX0_expectation_23 : decode cX0_expectation 23 = .ok (.iaload, 1) := by decide +kernel
theorem dX0_expectation_24 : decode cX0_expectation 24 = .ok (.aload_n 0, 1) := by decide +kernel
theorem dX0_expectation_25 : decode cX0_expectation 25 = .ok (.getfield 15, 3) := by decide +kernel
theorem dX0_expectation_28 : decode cX0_expectation 28 = .ok (.iload_n 1, 1) := by decide +kernel
theorem dX0_expectation_29 : decode cX0_expectation 29 = .ok (.iaload, 1) := by decide +kernel
theorem dX0_expectation_30 : decode cX0_expectation 30 = .ok (.isub, 1) := by decide +kernel
theorem dX0_expectation_31 : decode cX0_expectation 31 = .ok (.invokestatic 43, 3) := by decide +kernel
theorem dX0_expectation_34 : decode cX0_expectation 34 = .ok (.isub, 1) := by decide +kernel
theorem dX0_expectation_35 : decode cX0_expectation 35 = .ok (.ireturn, 1) := by decide +kernel
theorem dX0_expectation_36 : decode cX0_expectation 36 = .ok (.aload_n 0, 1) := by decide +kernel
theorem dX0_expectation_37 : decode cX0_expectation 37 = .ok (.getfield 15, 3) := by decide +kernel
theorem dX0_expectation_40 : decode cX0_expectation 40 = .ok (.iload_n 1, 1) := by decide +kernel
theorem dX0_expectation_41 : decode cX0_expectation 41 = .ok (.iaload, 1) := by decide +kernel
theorem dX0_expectation_42 : decode cX0_expectation 42 = .ok (.aload_n 0, 1) := by decide +kernel
theorem dX0_expectation_43 : decode cX0_expectation 43 = .ok (.getfield 15, 3) := by decide +kernel
theorem dX0_expectation_46 : decode cX0_expectation 46 = .ok (.iload_n 2, 1) := by decide +kernel
theorem dX0_expectation_47 : decode cX0_expectation 47 = .ok (.iaload, 1) := by decide +kernel
theorem dX0_expectation_48 : decode cX0_expectation 48 = .ok (.isub, 1) := by decide +kernel
theorem dX0_expectation_49 : decode cX0_expectation 49 = .ok (.invokestatic 43, 3) := by decide +kernel
theorem dX0_expectation_52 : decode cX0_expectation 52 = .ok (.ireturn, 1) := by decide +kernel
theorem dX0_expectedOfHigher_0 : decode cX0_expectedOfHigher 0 = .ok (.iload_n 0, 1) := by decide +kernel
theorem dX0_expectedOfHigher_1 : decode cX0_expectedOfHigher 1 = .ok (.sipush 800, 3) := by decide +kernel
theorem dX0_expectedOfHigher_4 : decode cX0_expectedOfHigher 4 = .ok (.invokestatic 47, 3) := by decide +kernel
theorem dX0_expectedOfHigher_7 : decode cX0_expectedOfHigher 7 = .ok (.istore_n 1, 1) := by decide +kernel
theorem dX0_expectedOfHigher_8 : decode cX0_expectedOfHigher 8 = .ok (.iload_n 1, 1) := by decide +kernel
theorem dX0_expectedOfHigher_9 : decode cX0_expectedOfHigher 9 = .ok (.bipush 100, 2) := by decide +kernel
theorem dX0_expectedOfHigher_11 : decode cX0_expectedOfHigher 11 = .ok (.idiv, 1) := by decide +kernel
theorem dX0_expectedOfHigher_12 : decode cX0_expectedOfHigher 12 = .ok (.istore_n 2, 1) := by decide +kernel
theorem dX0_expectedOfHigher_13 : decode cX0_expectedOfHigher 13 = .ok (.iload_n 1, 1) := by decide +kernel
theorem dX0_expectedOfHigher_14 : decode cX0_expectedOfHigher 14 = .ok (.sipush 800, 3) := by decide +kernel
theorem dX0_expectedOfHigher_17 : decode cX0_expectedOfHigher 17 = .ok (.if_icmp .ne 9, 3) := by decide +kernel
theorem dX0_expectedOfHigher_20 : decode cX0_expectedOfHigher 20 = .ok (.getstatic 50, 3) := by decide +kernel
theorem dX0_expectedOfHigher_23 : decode cX0_expectedOfHigher 23 = .ok (.iload_n 2, 1) := by decide +kernel
theorem dX0_expectedOfHigher_24 : decode cX0_expectedOfHigher 24 = .ok (.iaload, 1) := by decide +kernel
theorem dX0_expectedOfHigher_25 : decode cX0_expectedOfHigher 25 = .ok (.ireturn, 1) := by decide +kernel
theorem dX0_expectedOfHigher_26 : decode cX0_expectedOfHigher 26 = .ok (.getstatic 50, 3) := by decide +kernel
theorem dX0_expectedOfHigher_29 : decode cX0_expectedOfHigher 29 = .ok (.iload_n 2, 1) := by decide +kernel
theorem dX0_expectedOfHigher_30 : decode cX0_expectedOfHigher 30 = .ok (.iconst 1, 1) := by decide +kernel
theorem dX0_expectedOfHigher_31 : decode cX0_expectedOfHigher 31 = .ok (.iadd, 1) := by decide +kernel
theorem dX0_expectedOfHigher_32 : decode cX0_expectedOfHigher 32 = .ok (.iaload, 1) := by decide +kernel
theorem dX0_expectedOfHigher_33 : decode cX0_expectedOfHigher 33 = .ok (.getstatic 50, 3) := by decide +kernel
theorem dX0_expectedOfHigher_36 : decode cX0_expectedOfHigher 36 = .ok (.iload_n 2, 1) := by decide +kernel
theorem dX0_expectedOfHigher_37 : decode cX0_expectedOfHigher 37 = .ok (.iaload, 1) := by decide +kernel
theorem dX0_expectedOfHigher_38 : decode cX0_expectedOfHigher 38 = .ok (.isub, 1) := by decide +kernel
theorem dX0_expectedOfHigher_39 : decode cX0_expectedOfHigher 39 = .ok (.istore_n 3, 1) := by decide +kernel
theorem dX0_expectedOfHigher_40 : decode cX0_expectedOfHigher 40 = .ok (.getstatic 50, 3) := by decide +kernel
theorem dX0_expectedOfHigher_43 : decode cX0_expectedOfHigher 43 = .ok (.iload_n 2, 1) := by decide +kernel
theorem dX0_expectedOfHigher_44 : decode cX0_expectedOfHigher 44 = .ok (.iaload, 1) := by decide +kernel
theorem dX0_expectedOfHigher_45 : decode cX0_expectedOfHigher 45 = .ok (.iload_n 3, 1) := by decide +kernel
theorem dX0_expectedOfHigher_46 : decode cX0_expectedOfHigher 46 = .ok (.iload_n 1, 1) := by decide +kernel
theorem dX0_expectedOfHigher_47 : decode cX0_expectedOfHigher 47 = .ok (.bipush 100, 2) := by decide +kernel
theorem dX0_expectedOfHigher_49 : decode cX0_expectedOfHigher 49 = .ok (.irem, 1) := by decide +kernel
theorem dX0_expectedOfHigher_50 : decode cX0_expectedOfHigher 50 = .ok (.imul, 1) := by decide +kernel
theorem dX0_expectedOfHigher_51 : decode cX0_expectedOfHigher 51 = .ok (.bipush 100, 2) := by decide +kernel
theorem dX0_expectedOfHigher_53 : decode cX0_expectedOfHigher 53 = .ok (.idiv, 1) := by decide +kernel
theorem dX0_expectedOfHigher_54 : decode cX0_expectedOfHigher 54 = .ok (.iadd, 1) := by decide +kernel
theorem dX0_expectedOfHigher_55 : decode cX0_expectedOfHigher 55 = .ok (.ireturn, 1) := by decide +kernel
theorem dX0_weight_0 : decode cX0_weight 0 = .ok (.aload_n 0, 1) := by decide +kernel
theorem dX0_weight_1 : decode cX0_weight 1 = .ok (.getfield 21, 3) := by decide +kernel
theorem dX0_weight_4 : decode cX0_weight 4 = .ok (.iload_n 1, 1) := by decide +kernel
theorem dX0_weight_5 : decode cX0_weight 5 = .ok (.iaload, 1) := by decide +kernel
