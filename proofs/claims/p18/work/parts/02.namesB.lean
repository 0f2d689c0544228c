theorem ap_in {a b t : List Cond} (ha : ∀ w ∈ a, w ∈ t) (hb : ∀ w ∈ b, w ∈ t) : ∀ w ∈ a ++ b, w ∈ t := fun w h => (List.mem_append.mp h).elim (ha w) (hb w)
set_option maxRecDepth 20000 in
theorem wsL_law_c1 : ∀ w ∈ wsL_law0_r1, w ∈ lw_tbl := by decide +kernel
set_option maxRecDepth 20000 in
theorem wsL_law_c2 : ∀ w ∈ wsL_law0_r2, w ∈ lw_tbl := by decide +kernel
set_option maxRecDepth 20000 in
theorem wsL_law_c3 : ∀ w ∈ wsL_law0_r3, w ∈ lw_tbl := by decide +kernel
set_option maxRecDepth 20000 in
theorem wsL_law_c4 : ∀ w ∈ wsL_law0_r4, w ∈ lw_tbl := by decide +kernel
set_option maxRecDepth 20000 in
theorem wsL_law_c5 : ∀ w ∈ wsL_law0_r5, w ∈ lw_tbl := by decide +kernel
set_option maxRecDepth 20000 in
theorem wsL_law_c6 : ∀ w ∈ wsL_law0_r6, w ∈ lw_tbl := by decide +kernel
set_option maxRecDepth 20000 in
theorem wsL_law_c7 : ∀ w ∈ wsL_law0_r7, w ∈ lw_tbl := by decide +kernel
set_option maxRecDepth 20000 in
theorem wsL_law_c8 : ∀ w ∈ wsL_law0_r8, w ∈ lw_tbl := by decide +kernel
set_option maxRecDepth 20000 in
theorem wsL_law_c9 : ∀ w ∈ wsL_law0_r9, w ∈ lw_tbl := by decide +kernel
set_option maxRecDepth 20000 in
theorem wsL_law_c10 : ∀ w ∈ wsL_law0_r10, w ∈ lw_tbl := by decide +kernel
set_option maxRecDepth 20000 in
theorem wsL_law_c11 : ∀ w ∈ wsL_law0_r11, w ∈ lw_tbl := by decide +kernel
set_option maxRecDepth 20000 in
theorem wsL_law_c12 : ∀ w ∈ wsL_law0_r12, w ∈ lw_tbl := by decide +kernel
set_option maxRecDepth 20000 in
theorem wsL_law_c13 : ∀ w ∈ wsL_law0_r13, w ∈ lw_tbl := by decide +kernel
set_option maxRecDepth 20000 in
theorem wsL_law_c14 : ∀ w ∈ wsL_law0_r14, w ∈ lw_tbl := by decide +kernel
set_option maxRecDepth 20000 in
theorem wsL_law_c15 : ∀ w ∈ wsL_law0_r15, w ∈ lw_tbl := by decide +kernel
set_option maxRecDepth 20000 in
theorem wsL_law_c16 : ∀ w ∈ wsL_law0_r16, w ∈ lw_tbl := by decide +kernel
set_option maxRecDepth 20000 in
theorem wsX10_c : ∀ w ∈ wsX10, w ∈ lw_tbl := by decide +kernel
set_option maxRecDepth 20000 in
theorem wsX00_c : ∀ w ∈ wsX00, w ∈ lw_tbl := by decide +kernel
set_option maxRecDepth 20000 in
theorem wsX20_c : ∀ w ∈ wsX20, w ∈ lw_tbl := by decide +kernel
theorem wsL_law_in0 : ∀ w ∈ wsL_law0, w ∈ lw_tbl := ap_in (ap_in (ap_in (ap_in (ap_in wsL_law_c1 (ap_in wsL_law_c2 (ap_in wsL_law_c3 (ap_in wsL_law_c4 (ap_in wsL_law_c5 (ap_in wsL_law_c6 (ap_in wsL_law_c7 (ap_in wsL_law_c8 (ap_in wsL_law_c9 (ap_in wsL_law_c10 (ap_in wsL_law_c11 (ap_in wsL_law_c12 (ap_in wsL_law_c13 (ap_in wsL_law_c14 (ap_in wsL_law_c15 wsL_law_c16))))))))))))))) wsX10_c) wsX00_c) wsX20_c) (fun _ h => nomatch h)
theorem wsL_law_x0 : ∀ w ∈ (vx_atS RX1 31 "java/lang/IllegalArgumentException" ["java/lang/RuntimeException", "java/lang/Exception"]).filter goodWord, w ∈ lw_tbl := by decide +kernel
theorem wsL_law_x1 : ∀ w ∈ (vx_atS RX1 42 "java/lang/IllegalStateException" ["java/lang/RuntimeException", "java/lang/Exception"]).filter goodWord, w ∈ lw_tbl := by decide +kernel
theorem wsL_law_x2 : ∀ w ∈ (vx_atS RX1 125 "java/lang/IndexOutOfBoundsException" ["java/lang/RuntimeException", "java/lang/Exception"]).filter goodWord, w ∈ lw_tbl := by decide +kernel
theorem wsL_law_in : ∀ w ∈ wsL_law, w ∈ lw_tbl := fun w h => (List.mem_append.mp h).elim (fun h => (List.mem_append.mp h).elim (fun h => (List.mem_append.mp h).elim (fun h => wsL_law_in0 w h) (fun h => wsL_law_x0 w h)) (fun h => wsL_law_x1 w h)) (fun h => wsL_law_x2 w h)
theorem inlX0 : ∀ w ∈ wsX00, w ∈ wsL_law := fun _ h => List.mem_append_left _ (List.mem_append_left _ (List.mem_append_left _ (List.mem_append_left _ (List.mem_append_left _ (List.mem_append_right _ h)))))
theorem inX0 : ∀ w ∈ wsX00, w ∈ lw_tbl := fun w h => wsL_law_in w (inlX0 w h)
theorem inlX1 : ∀ w ∈ wsX10, w ∈ wsL_law := fun _ h => List.mem_append_left _ (List.mem_append_left _ (List.mem_append_left _ (List.mem_append_left _ (List.mem_append_left _ (List.mem_append_left _ (List.mem_append_right _ h))))))
theorem inX1 : ∀ w ∈ wsX10, w ∈ lw_tbl := fun w h => wsL_law_in w (inlX1 w h)
theorem inlX2 : ∀ w ∈ wsX20, w ∈ wsL_law := fun _ h => List.mem_append_left _ (List.mem_append_left _ (List.mem_append_left _ (List.mem_append_left _ (List.mem_append_right _ h))))
theorem inX2 : ∀ w ∈ wsX20, w ∈ lw_tbl := fun w h => wsL_law_in w (inlX2 w h)
theorem inX3 : ∀ w ∈ wsX30, w ∈ lw_tbl := by decide +kernel
theorem inX4 : ∀ w ∈ wsX40, w ∈ lw_tbl := by decide +kernel
theorem inJxe99ae : ∀ w ∈ wsJxe99ae0, w ∈ lw_tbl := by decide +kernel
theorem inJ9 : ∀ w ∈ wsJ90, w ∈ lw_tbl := by decide +kernel
theorem inJ0 : ∀ w ∈ wsJ00, w ∈ lw_tbl := by decide +kernel
theorem dX0_init_0 : decode cX0_init 0 = .ok (.aload_n 0, 1) := by decide +kernel
theorem dX0_init_1 : decode cX0_init 1 = .ok (.invokespecial 3, 3) := by decide +kernel
theorem dX0_init_4 : decode cX0_init 4 = .ok (.aload_n 0, 1) := by decide +kernel
theorem dX0_init_5 : decode cX0_init 5 = .ok (.bipush 12, 2) := by decide +kernel
theorem dX0_init_7 : decode cX0_init 7 = .ok (.newarray .int, 2) := by decide +kernel
theorem dX0_init_9 : decode cX0_init 9 = .ok (.putfield 9, 3) := by decide +kernel
theorem dX0_init_12 : decode cX0_init 12 = .ok (.aload_n 0, 1) := by decide +kernel
theorem dX0_init_13 : decode cX0_init 13 = .ok (.bipush 12, 2) := by decide +kernel
theorem dX0_init_15 : decode cX0_init 15 = .ok (.newarray .int, 2) := by decide +kernel
theorem dX0_init_17 : decode cX0_init 17 = .ok (.putfield 15, 3) := by decide +kernel
theorem dX0_init_20 : decode cX0_init 20 = .ok (.aload_n 0, 1) := by decide +kernel
theorem dX0_init_21 : decode cX0_init 21 = .ok (.bipush 12, 2) := by decide +kernel
theorem dX0_init_23 : decode cX0_init 23 = .ok (.newarray .int, 2) := by decide +kernel
theorem dX0_init_25 : decode cX0_init 25 = .ok (.putfield 18, 3) := by decide +kernel
theorem dX0_init_28 : decode cX0_init 28 = .ok (.aload_n 0, 1) := by decide +kernel
theorem dX0_init_29 : decode cX0_init 29 = .ok (.bipush 12, 2) := by decide +kernel
theorem dX0_init_31 : decode cX0_init 31 = .ok (.newarray .int, 2) := by decide +kernel
theorem dX0_init_33 : decode cX0_init 33 = .ok (.putfield 21, 3) := by decide +kernel
theorem dX0_init_36 : decode cX0_init 36 = .ok (.aload_n 0, 1) := by decide +kernel
theorem dX0_init_37 : decode cX0_init 37 = .ok (.bipush 12, 2) := by decide +kernel
theorem dX0_init_39 : decode cX0_init 39 = .ok (.newarray .int, 2) := by decide +kernel
theorem dX0_init_41 : decode cX0_init 41 = .ok (.putfield 24, 3) := by decide +kernel
theorem dX0_init_44 : decode cX0_init 44 = .ok (.aload_n 0, 1) := by decide +kernel
theorem dX0_init_45 : decode cX0_init 45 = .ok (.bipush 12, 2) := by decide +kernel
theorem dX0_init_47 : decode cX0_init 47 = .ok (.newarray .int, 2) := by decide +kernel
theorem dX0_init_49 : decode cX0_init 49 = .ok (.putfield 27, 3) := by decide +kernel
theorem dX0_init_52 : decode cX0_init 52 = .ok (.aload_n 0, 1) := by decide +kernel
theorem dX0_init_53 : decode cX0_init 53 = .ok (.bipush 12, 2) := by decide +kernel
theorem dX0_init_55 : decode cX0_init 55 = .ok (.newarray .int, 2) := by decide +kernel
theorem dX0_init_57 : decode cX0_init 57 = .ok (.putfield 30, 3) := by decide +kernel
theorem dX0_init_60 : decode cX0_init 60 = .ok (.return_, 1) := by decide +kernel
theorem dX0_size_0 : decode cX0_size 0 = .ok (.aload_n 0, 1) := by decide +kernel
theorem dX0_size_1 : decode cX0_size 1 = .ok (.getfield 33, 3) := by decide +kernel
theorem dX0_size_4 : decode cX0_size 4 = .ok (.ireturn, 1) := by decide +kernel
theorem dX0_isFull_0 : decode cX0_isFull 0 = .ok (.aload_n 0, 1) := by decide +kernel
theorem dX0_isFull_1 : decode cX0_isFull 1 = .ok (.getfield 33, 3) := by decide +kernel
theorem dX0_isFull_4 : decode cX0_isFull 4 = .ok (.bipush 12, 2) := by decide +kernel
theorem dX0_isFull_6 : decode cX0_isFull 6 = .ok (.if_icmp .lt 7, 3) := by decide +kernel
theorem dX0_isFull_9 : decode cX0_isFull 9 = .ok (.iconst 1, 1) := by decide +kernel
theorem dX0_isFull_10 : decode cX0_isFull 10 = .ok (.goto 4, 3) := by decide +kernel
theorem dX0_isFull_13 : decode cX0_isFull 13 = .ok (.iconst 0, 1) := by decide +kernel
theorem dX0_isFull_14 : decode cX0_isFull 14 = .ok (.ireturn, 1) := by decide +kernel
theorem dX0_has_0 : decode cX0_has 0 = .ok (.iload_n 1, 1) := by decide +kernel
theorem dX0_has_1 : decode cX0_has 1 = .ok (.ifCond .lt 15, 3) := by decide +kernel
theorem dX0_has_4 : decode cX0_has 4 = .ok (.iload_n 1, 1) := by decide +kernel
theorem dX0_has_5 : decode cX0_has 5 = .ok (.aload_n 0, 1) := by decide +kernel
theorem dX0_has_6 : decode cX0_has 6 = .ok (.getfield 33, 3) := by decide +kernel
theorem dX0_has_9 : decode cX0_has 9 = .ok (.if_icmp .ge 7, 3) := by decide +kernel
theorem dX0_has_12 : decode cX0_has 12 = .ok (.iconst 1, 1) := by decide +kernel
theorem dX0_has_13 : decode cX0_has 13 = .ok (.goto 4, 3) := by decide +kernel
theorem dX0_has_16 : decode cX0_has 16 = .ok (.iconst 0, 1) := by decide +kernel
theorem dX0_has_17 : decode cX0_has 17 = .ok (.ireturn, 1) := by decide +kernel
theorem dX0_rating_0 : decode cX0_rating 0 = .ok (.aload_n 0, 1) := by decide +kernel
theorem dX0_rating_1 : decode cX0_rating 1 = .ok (.getfield 15, 3) := by decide +kernel
theorem dX0_rating_4 : decode cX0_rating 4 = .ok (.iload_n 1, 1) := by decide +kernel
theorem dX0_rating_5 : decode cX0_rating 5 = .ok (.iaload, 1) := by decide +kernel
theorem dX0_rating_6 : decode cX0_rating 6 = .ok (.ireturn, 1) := by decide +kernel
theorem dX0_league_0 : decode cX0_league 0 = .ok (.aload_n 0, 1) := by decide +kernel
theorem dX0_league_1 : decode cX0_league 1 = .ok (.getfield 9, 3) := by decide +kernel
theorem dX0_league_4 : decode cX0_league 4 = .ok (.iload_n 1, 1) := by decide +kernel
theorem dX0_league_5 : decode cX0_league 5 = .ok (.iaload, 1) := by decide +kernel
theorem dX0_league_6 : decode cX0_league 6 = .ok (.ireturn, 1) := by decide +kernel
theorem dX0_points_0 : decode cX0_points 0 = .ok (.aload_n 0, 1) := by decide +kernel
theorem dX0_points_1 : decode cX0_points 1 = .ok (.getfield 18, 3) := by decide +kernel
theorem dX0_points_4 : decode cX0_points 4 = .ok (.iload_n 1, 1) := by decide +kernel
theorem dX0_points_5 : decode cX0_points 5 = .ok (.iaload, 1) := by decide +kernel
theorem dX0_points_6 : decode cX0_points 6 = .ok (.ireturn, 1) := by decide +kernel
theorem dX0_bouts_0 : decode cX0_bouts 0 = .ok (.aload_n 0, 1) := by decide +kernel
theorem dX0_bouts_1 : decode cX0_bouts 1 = .ok (.getfield 21, 3) := by decide +kernel
theorem dX0_bouts_4 : decode cX0_bouts 4 = .ok (.iload_n 1, 1) := by decide +kernel
theorem dX0_bouts_5 : decode cX0_bouts 5 = .ok (.iaload, 1) := by decide +kernel
theorem dX0_bouts_6 : decode cX0_bouts 6 = .ok (.ireturn, 1) := by decide +kernel
theorem dX0_seasonBouts_0 : decode cX0_seasonBouts 0 = .ok (.aload_n 0, 1) := by decide +kernel
theorem dX0_seasonBouts_1 : decode cX0_seasonBouts 1 = .ok (.getfield 24, 3) := by decide +kernel
theorem dX0_seasonBouts_4 : decode cX0_seasonBouts 4 = .ok (.iload_n 1, 1) := by decide +kernel
theorem dX0_seasonBouts_5 : decode cX0_seasonBouts 5 = .ok (.iaload, 1) := by decide +kernel
theorem dX0_seasonBouts_6 : decode cX0_seasonBouts 6 = .ok (.ireturn, 1) := by decide +kernel
theorem dX0_winRow_0 : decode cX0_winRow 0 = .ok (.aload_n 0, 1) := by decide +kernel
theorem dX0_winRow_1 : decode cX0_winRow 1 = .ok (.getfield 27, 3) := by decide +kernel
theorem dX0_winRow_4 : decode cX0_winRow 4 = .ok (.iload_n 1, 1) := by decide +kernel
theorem dX0_winRow_5 : decode cX0_winRow 5 = .ok (.iaload, 1) := by decide +kernel
theorem dX0_winRow_6 : decode cX0_winRow 6 = .ok (.ireturn, 1) := by decide +kernel
theorem dX0_best_0 : decode cX0_best 0 = .ok (.aload_n 0, 1) := by decide +kernel
theorem dX0_best_1 : decode cX0_best 1 = .ok (.getfield 30, 3) := by decide +kernel
theorem dX0_best_4 : decode cX0_best 4 = .ok (.iload_n 1, 1) := by decide +kernel
theorem dX0_best_5 : decode cX0_best 5 = .ok (.iaload, 1) := by decide +kernel
theorem dX0_best_6 : decode cX0_best 6 = .ok (.ireturn, 1) := by decide +kernel
theorem dX0_add_0 : decode cX0_add 0 = .ok (.aload_n 0, 1) := by decide +kernel
theorem dX0_add_1 : decode cX0_add 1 = .ok (.getfield 33, 3) := by decide +kernel
theorem dX0_add_4 : decode cX0_add 4 = .ok (.istore_n 2, 1) := by decide +kernel
theorem dX0_add_5 : decode cX0_add 5 = .ok (.aload_n 0, 1) := by decide +kernel
theorem dX0_add_6 : decode cX0_add 6 = .ok (.getfield 9, 3) := by decide +kernel
theorem dX0_add_9 : decode cX0_add 9 = .ok (.iload_n 2, 1) := by decide +kernel
theorem dX0_add_10 : decode cX0_add 10 = .ok (.iload_n 1, 1) := by decide +kernel
theorem dX0_add_11 : decode cX0_add 11 = .ok (.iastore, 1) := by decide +kernel
theorem dX0_add_12 : decode cX0_add 12 = .ok (.aload_n 0, 1) := by decide +kernel
theorem dX0_add_13 : decode cX0_add 13 = .ok (.getfield 15, 3) := by decide +kernel
theorem dX0_add_16 : decode cX0_add 16 = .ok (.iload_n 2, 1) := by decide +kernel
theorem dX0_add_17 : decode cX0_add 17 = .ok (.sipush 1000, 3) := by decide +kernel
theorem dX0_add_20 : decode cX0_add 20 = .ok (.iastore, 1) := by decide +kernel
theorem dX0_add_21 : decode cX0_add 21 = .ok (.aload_n 0, 1) := by decide +kernel
theorem dX0_add_22 : decode cX0_add 22 = .ok (.getfield 30, 3) := by decide +kernel
theorem dX0_add_25 : decode cX0_add 25 = .ok (.iload_n 2, 1) := by decide +kernel
theorem dX0_add_26 : decode cX0_add 26 = .ok (.sipush 1000, 3) := by decide +kernel
theorem dX0_add_29 : decode cX0_add 29 = .ok (.iastore, 1) := by decide +kernel
theorem dX0_add_30 : decode cX0_add 30 = .ok (.aload_n 0, 1) := by decide +kernel
theorem dX0_add_31 : decode cX0_add 31 = .ok (.dup, 1) := by decide +kernel
theorem dX0_add_32 : decode cX0_add 32 = .ok (.getfield 33, 3) := by decide +kernel
theorem dX0_add_35 : decode cX0_add 35 = .ok (.iconst 1, 1) := by decide +kernel
theorem dX0_add_36 : decode cX0_add 36 = .ok (.iadd, 1) := by decide +kernel
theorem dX0_add_37 : decode cX0_add 37 = .ok (.putfield 33, 3) := by decide +kernel
theorem dX0_add_40 : decode cX0_add 40 = .ok (.iload_n 2, 1) := by decide +kernel
theorem dX0_add_41 : decode cX0_add 41 = .ok (.ireturn, 1) := by decide +kernel
theorem dX0_setRating_0 : decode cX0_setRating 0 = .ok (.aload_n 0, 1) := by decide +kernel
theorem dX0_setRating_1 : decode cX0_setRating 1 = .ok (.getfield 15, 3) := by decide +kernel
theorem dX0_setRating_4 : decode cX0_setRating 4 = .ok (.iload_n 1, 1) := by decide +kernel
theorem dX0_setRating_5 : decode cX0_setRating 5 = .ok (.iload_n 2, 1) := by decide +kernel
theorem dX0_setRating_6 : decode cX0_setRating 6 = .ok (.iastore, 1) := by decide +kernel
theorem dX0_setRating_7 : decode cX0_setRating 7 = .ok (.aload_n 0, 1) := by decide +kernel
theorem dX0_setRating_8 : decode cX0_setRating 8 = .ok (.getfield 30, 3) := by decide +kernel
theorem dX0_setRating_11 : decode cX0_setRating 11 = .ok (.iload_n 1, 1) := by decide +kernel
theorem dX0_setRating_12 : decode cX0_setRating 12 = .ok (.aload_n 0, 1) := by decide +kernel
theorem dX0_setRating_13 : decode cX0_setRating 13 = .ok (.getfield 30, 3) := by decide +kernel
theorem dX0_setRating_16 : decode cX0_setRating 16 = .ok (.iload_n 1, 1) := by decide +kernel
theorem dX0_setRating_17 : decode cX0_setRating 17 = .ok (.iaload, 1) := by decide +kernel
theorem dX0_setRating_18 : decode cX0_setRating 18 = .ok (.iload_n 2, 1) := by decide +kernel
theorem dX0_setRating_19 : decode cX0_setRating 19 = .ok (.invokestatic 37, 3) := by decide +kernel
theorem dX0_setRating_22 : decode cX0_setRating 22 = .ok (.iastore, 1) := by decide +kernel
theorem dX0_setRating_23 : decode cX0_setRating 23 = .ok (.return_, 1) := by decide +kernel
theorem dX0_copyFrom_0 : decode cX0_copyFrom 0 = .ok (.aload_n 0, 1) := by decide +kernel
theorem dX0_copyFrom_1 : decode cX0_copyFrom 1 = .ok (.aload_n 1, 1) := by decide +kernel
theorem dX0_copyFrom_2 : decode cX0_copyFrom 2 = .ok (.getfield 33, 3) := by decide +kernel
theorem dX0_copyFrom_5 : decode cX0_copyFrom 5 = .ok (.putfield 33, 3) := by decide +kernel
theorem dX0_copyFrom_8 : decode cX0_copyFrom 8 = .ok (.iconst 0, 1) := by decide +kernel
theorem dX0_copyFrom_9 : decode cX0_copyFrom 9 = .ok (.istore_n 2, 1) := by decide +kernel
theorem dX0_copyFrom_10 : decode cX0_copyFrom 10 = .ok (.iload_n 2, 1) := by decide +kernel
theorem dX0_copyFrom_11 : decode cX0_copyFrom 11 = .ok (.aload_n 0, 1) := by decide +kernel
theorem dX0_copyFrom_12 : decode cX0_copyFrom 12 = .ok (.getfield 33, 3) := by decide +kernel
theorem dX0_copyFrom_15 : decode cX0_copyFrom 15 = .ok (.if_icmp .ge 93, 3) := by decide +kernel
theorem dX0_copyFrom_18 : decode cX0_copyFrom 18 = .ok (.aload_n 0, 1) := by decide +kernel
theorem dX0_copyFrom_19 : decode cX0_copyFrom 19 = .ok (.getfield 9, 3) := by decide +kernel
theorem dX0_copyFrom_22 : decode cX0_copyFrom 22 = .ok (.iload_n 2, 1) := by decide +kernel
theorem dX0_copyFrom_23 : decode cX0_copyFrom 23 = .ok (.aload_n 1, 1) := by decide +kernel
theorem dX0_copyFrom_24 : decode cX0_copyFrom 24 = .ok (.getfield 9, 3) := by decide +kernel
theorem dX0_copyFrom_27 : decode cX0_copyFrom 27 = .ok (.iload_n 2, 1) := by decide +kernel
theorem dX0_copyFrom_28 : decode cX0_copyFrom 28 = .ok (.iaload, 1) := by decide +kernel
theorem dX0_copyFrom_29 : decode cX0_copyFrom 29 = .ok (.iastore, 1) := by decide +kernel
theorem dX0_copyFrom_30 : decode cX0_copyFrom 30 = .ok (.aload_n 0, 1) := by decide +kernel
theorem dX0_copyFrom_31 : decode cX0_copyFrom 31 = .ok (.getfield 15, 3) := by decide +kernel
theorem dX0_copyFrom_34 : decode cX0_copyFrom 34 = .ok (.iload_n 2, 1) := by decide +kernel
theorem dX0_copyFrom_35 : decode cX0_copyFrom 35 = .ok (.aload_n 1, 1) := by decide +kernel
theorem dX0_copyFrom_36 : decode cX0_copyFrom 36 = .ok (.getfield 15, 3) := by decide +kernel
theorem dX0_copyFrom_39 : decode cX0_copyFrom 39 = .ok (.iload_n 2, 1) := by decide +kernel
theorem dX0_copyFrom_40 : decode cX0_copyFrom 40 = .ok (.iaload, 1) := by decide +kernel
theorem dX0_copyFrom_41 : decode cX0_copyFrom 41 = .ok (.iastore, 1) := by decide +kernel
theorem dX0_copyFrom_42 : decode cX0_copyFrom 42 = .ok (.aload_n 0, 1) := by decide +kernel
theorem dX0_copyFrom_43 : decode cX0_copyFrom 43 = .ok (.getfield 18, 3) := by decide +kernel
theorem dX0_copyFrom_46 : decode cX0_copyFrom 46 = .ok (.iload_n 2, 1) := by decide +kernel
theorem dX0_copyFrom_47 : decode cX0_copyFrom 47 = .ok (.aload_n 1, 1) := by decide +kernel
theorem dX0_copyFrom_48 : decode cX0_copyFrom 48 = .ok (.getfield 18, 3) := by decide +kernel
theorem dX0_copyFrom_51 : decode cX0_copyFrom 51 = .ok (.iload_n 2, 1) := by decide +kernel
theorem dX0_copyFrom_52 : decode cX0_copyFrom 52 = .ok (.iaload, 1) := by decide +kernel
theorem dX0_copyFrom_53 : decode cX0_copyFrom 53 = .ok (.iastore, 1) := by decide +kernel
theorem dX0_copyFrom_54 : decode cX0_copyFrom 54 = .ok (.aload_n 0, 1) := by decide +kernel
theorem dX0_copyFrom_55 : decode cX0_copyFrom 55 = .ok (.getfield 21, 3) := by decide +kernel
theorem dX0_copyFrom_58 : decode cX0_copyFrom 58 = .ok (.iload_n 2, 1) := by decide +kernel
theorem dX0_copyFrom_59 : decode cX0_copyFrom 59 = .ok (.aload_n 1, 1) := by decide +kernel
theorem dX0_copyFrom_60 : decode cX0_copyFrom 60 = .ok (.getfield 21, 3) := by decide +kernel
theorem dX0_copyFrom_63 : decode cX0_copyFrom 63 = .ok (.iload_n 2, 1) := by decide +kernel
theorem dX0_copyFrom_64 : decode cX0_copyFrom 64 = .ok (.iaload, 1) := by decide +kernel
theorem dX0_copyFrom_65 : decode cX0_copyFrom 65 = .ok (.iastore, 1) := by decide +kernel
theorem dX0_copyFrom_66 : decode cX0_copyFrom 66 = .ok (.aload_n 0, 1) := by decide +kernel
theorem dX0_copyFrom_67 : decode cX0_copyFrom 67 = .ok (.getfield 24, 3) := by decide +kernel
theorem dX0_copyFrom_70 : decode cX0_copyFrom 70 = .ok (.iload_n 2, 1) := by decide +kernel
theorem dX0_copyFrom_71 : decode cX0_copyFrom 71 = .ok (.aload_n 1, 1) := by decide +kernel
theorem dX0_copyFrom_72 : decode cX0_copyFrom 72 = .ok (.getfield 24, 3) := by decide +kernel
theorem dX0_copyFrom_75 : decode cX0_copyFrom 75 = .ok (.iload_n 2, 1) := by decide +kernel
theorem dX0_copyFrom_76 : decode cX0_copyFrom 76 = .ok (.iaload, 1) := by decide +kernel
theorem dX0_copyFrom_77 : decode cX0_copyFrom 77 = .ok (.iastore, 1) := by decide +kernel
theorem dX0_copyFrom_78 : decode cX0_copyFrom 78 = .ok (.aload_n 0, 1) := by decide +kernel
theorem dX0_copyFrom_79 : decode cX0_copyFrom 79 = .ok (.getfield 27, 3) := by decide +kernel
theorem dX0_copyFrom_82 : decode cX0_copyFrom 82 = .ok (.iload_n 2, 1) := by decide +kernel
theorem dX0_copyFrom_83 : decode cX0_copyFrom 83 = .ok (.aload_n 1, 1) := by decide +kernel
theorem dX0_copyFrom_84 : decode cX0_copyFrom 84 = .ok (.getfield 27, 3) := by decide +kernel
theorem dX0_copyFrom_87 : decode cX0_copyFrom 87 = .ok (.iload_n 2, 1) := by decide +kernel
theorem dX0_copyFrom_88 : decode cX0_copyFrom 88 = .ok (.iaload, 1) := by decide +kernel
theorem dX0_copyFrom_89 : decode cX0_copyFrom 89 = .ok (.iastore, 1) := by decide +kernel
theorem dX0_copyFrom_90 : decode cX0_copyFrom 90 = .ok (.aload_n 0, 1) := by decide +kernel
theorem dX0_copyFrom_91 : decode cX0_copyFrom 91 = .ok (.getfield 30, 3) := by decide +kernel
theorem dX0_copyFrom_94 : decode cX0_copyFrom 94 = .ok (.iload_n 2, 1) := by decide +kernel
theorem dX0_copyFrom_95 : decode cX0_copyFrom 95 = .ok (.aload_n 1, 1) := by decide +kernel
theorem dX0_copyFrom_96 : decode cX0_copyFrom 96 = .ok (.getfield 30, 3) := by decide +kernel
theorem dX0_copyFrom_99 : decode cX0_copyFrom 99 = .ok (.iload_n 2, 1) := by decide +kernel
theorem dX0_copyFrom_100 : decode cX0_copyFrom 100 = .ok (.iaload, 1) := by decide +kernel
theorem dX0_copyFrom_101 : decode cX0_copyFrom 101 = .ok (.iastore, 1) := by decide +kernel
theorem dX0_copyFrom_102 : decode cX0_copyFrom 102 = .ok (.iinc 2 1, 3) := by decide +kernel
theorem dX0_copyFrom_105 : decode cX0_copyFrom 105 = .ok (.goto (-95), 3) := by decide +kernel
theorem dX0_copyFrom_108 : decode cX0_copyFrom 108 = .ok (.return_, 1) := by decide +kernel
set_option maxRecDepth 20000 in
theorem ggX0_expectation_X0_expectedOfHigher : GoodIn wsX0_expectation wsX0_expectedOfHigher := goodIn_r _ [5, 6, 7, 8, 9, 10] (by decide +kernel) (by decide +kernel)
set_option maxRecDepth 20000 in
theorem gX0_expectation_X0_expectedOfHigher : GoodIn wsX0_expectation (va_wsS RX0 43 yX0_expectedOfHigher wsX0_expectedOfHigher) := goodIn_app (goodIn_of _ (by decide +kernel)) ggX0_expectation_X0_expectedOfHigher
theorem dX0_expectation_0 : decode cX0_expectation 0 = .ok (.aload_n 0, 1) := by decide +kernel
theorem dX0_expectation_1 : decode cX0_expectation 1 = .ok (.getfield 15, 3) := by decide +kernel
theorem dX0_expectation_4 : decode cX0_expectation 4 = .ok (.iload_n 1, 1) := by decide +kernel
theorem dX0_expectation_5 : decode cX0_expectation 5 = .ok (.iaload, 1) := by decide +kernel
theorem dX0_expectation_6 : decode cX0_expectation 6 = .ok (.aload_n 0, 1) := by decide +kernel
theorem dX0_expectation_7 : decode cX0_expectation 7 = .ok (.getfield 15, 3) := by decide +kernel
theorem dX0_expectation_10 : decode cX0_expectation 10 = .ok (.iload_n 2, 1) := by decide +kernel
theorem dX0_expectation_11 : decode cX0_expectation 11 = .ok (.iaload, 1) := by decide +kernel
theorem dX0_expectation_12 : decode cX0_expectation 12 = .ok (.if_icmp .ge 24, 3) := by decide +kernel
theorem dX0_expectation_15 : decode cX0_expectation 15 = .ok (.sipush 1000, 3) := by decide +kernel
theorem dX0_expectation_18 : decode cX0_expectation 18 = .ok (.aload_n 0, 1) := by decide +kernel
theorem dX0_expectation_19 : decode cX0_expectation 19 = .ok (.getfield 15, 3) := by decide +kernel
theorem dX0_expectation_22 : decode cX0_expectation 22 = .ok (.iload_n 2, 1) := by decide +kernel
theorem dX0_expectation_23 : decode cX0_expectation 23 = .ok (.iaload, 1) := by decide +kernel
theorem dX0_expectation_24 : decode cX0_expectation 24 = .ok (.aload_n 0, 1) := by decide +kernel
theorem dX0_expectation_25 : decode cX0_expectation 25 = .ok (.getfield 15, 3) := by decide +kernel
theorem dX0_expectation_28 : decode cX0_expectation 28 = .ok (.iload_n 1, 1) := by decide +kernel
theorem dX0_expectation_29 : decode cX0_expectation 29 = .ok (.iaload, 1) := by decide +kernel
theorem dX0_expectation_30 : decode cX0_expectation 30 = .ok (.isub, 1) := by decide +kernel
theorem dX0_expectation_31 : decode cX0_expectation 31 = .ok (.invokestatic 43, 3) := by decide +kernel
theorem dX0_expectation_34 : decode cX0_expectation 34 = .ok (.isub, 1) := by decide +kernel
theorem dX0_expectation_35 : decode cX0_expectation 35 = .ok (.ireturn, 1) := by decide +kernel
theorem dX0_expectation_36 : decode cX0_expectation 36 = .ok (.aload_n 0, 1) := by decide +kernel
theorem dX0_expectation_37 : decode cX0_expectation 37 = .ok (.getfield 15, 3) := by decide +kernel
theorem dX0_expectation_40 : decode cX0_expectation 40 = .ok (.iload_n 1, 1) := by decide +kernel
theorem dX0_expectation_41 : decode cX0_expectation 41 = .ok (.iaload, 1) := by decide +kernel
theorem dX0_expectation_42 : decode cX0_expectation 42 = .ok (.aload_n 0, 1) := by decide +kernel
theorem dX0_expectation_43 : decode cX0_expectation 43 = .ok (.getfield 15, 3) := by decide +kernel
theorem dX0_expectation_46 : decode cX0_expectation 46 = .ok (.iload_n 2, 1) := by decide +kernel
theorem dX0_expectation_47 : decode cX0_expectation 47 = .ok (.iaload, 1) := by decide +kernel
theorem dX0_expectation_48 : decode cX0_expectation 48 = .ok (.isub, 1) := by decide +kernel
theorem dX0_expectation_49 : decode cX0_expectation 49 = .ok (.invokestatic 43, 3) := by decide +kernel
theorem dX0_expectation_52 : decode cX0_expectation 52 = .ok (.ireturn, 1) := by decide +kernel
theorem dX0_expectedOfHigher_0 : decode cX0_expectedOfHigher 0 = .ok (.iload_n 0, 1) := by decide +kernel
theorem dX0_expectedOfHigher_1 : decode cX0_expectedOfHigher 1 = .ok (.sipush 800, 3) := by decide +kernel
theorem dX0_expectedOfHigher_4 : decode cX0_expectedOfHigher 4 = .ok (.invokestatic 47, 3) := by decide +kernel
theorem dX0_expectedOfHigher_7 : decode cX0_expectedOfHigher 7 = .ok (.istore_n 1, 1) := by decide +kernel
theorem dX0_expectedOfHigher_8 : decode cX0_expectedOfHigher 8 = .ok (.iload_n 1, 1) := by decide +kernel
theorem dX0_expectedOfHigher_9 : decode cX0_expectedOfHigher 9 = .ok (.bipush 100, 2) := by decide +kernel
theorem dX0_expectedOfHigher_11 : decode cX0_expectedOfHigher 11 = .ok (.idiv, 1) := by decide +kernel
theorem dX0_expectedOfHigher_12 : decode cX0_expectedOfHigher 12 = .ok (.istore_n 2, 1) := by decide +kernel
theorem dX0_expectedOfHigher_13 : decode cX0_expectedOfHigher 13 = .ok (.iload_n 1, 1) := by decide +kernel
theorem dX0_expectedOfHigher_14 : decode cX0_expectedOfHigher 14 = .ok (.sipush 800, 3) := by decide +kernel
theorem dX0_expectedOfHigher_17 : decode cX0_expectedOfHigher 17 = .ok (.if_icmp .ne 9, 3) := by decide +kernel
theorem dX0_expectedOfHigher_20 : decode cX0_expectedOfHigher 20 = .ok (.getstatic 50, 3) := by decide +kernel
theorem dX0_expectedOfHigher_23 : decode cX0_expectedOfHigher 23 = .ok (.iload_n 2, 1) := by decide +kernel
theorem dX0_expectedOfHigher_24 : decode cX0_expectedOfHigher 24 = .ok (.iaload, 1) := by decide +kernel
theorem dX0_expectedOfHigher_25 : decode cX0_expectedOfHigher 25 = .ok (.ireturn, 1) := by decide +kernel
theorem dX0_expectedOfHigher_26 : decode cX0_expectedOfHigher 26 = .ok (.getstatic 50, 3) := by decide +kernel
theorem dX0_expectedOfHigher_29 : decode cX0_expectedOfHigher 29 = .ok (.iload_n 2, 1) := by decide +kernel
theorem dX0_expectedOfHigher_30 : decode cX0_expectedOfHigher 30 = .ok (.iconst 1, 1) := by decide +kernel
theorem dX0_expectedOfHigher_31 : decode cX0_expectedOfHigher 31 = .ok (.iadd, 1) := by decide +kernel
theorem dX0_expectedOfHigher_32 : decode cX0_expectedOfHigher 32 = .ok (.iaload, 1) := by decide +kernel
theorem dX0_expectedOfHigher_33 : decode cX0_expectedOfHigher 33 = .ok (.getstatic 50, 3) := by decide +kernel
theorem dX0_expectedOfHigher_36 : decode cX0_expectedOfHigher 36 = .ok (.iload_n 2, 1) := by decide +kernel
theorem dX0_expectedOfHigher_37 : decode cX0_expectedOfHigher 37 = .ok (.iaload, 1) := by decide +kernel
theorem dX0_expectedOfHigher_38 : decode cX0_expectedOfHigher 38 = .ok (.isub, 1) := by decide +kernel
theorem dX0_expectedOfHigher_39 : decode cX0_expectedOfHigher 39 = .ok (.istore_n 3, 1) := by decide +kernel
theorem dX0_expectedOfHigher_40 : decode cX0_expectedOfHigher 40 = .ok (.getstatic 50, 3) := by decide +kernel
theorem dX0_expectedOfHigher_43 : decode cX0_expectedOfHigher 43 = .ok (.iload_n 2, 1) := by decide +kernel
theorem dX0_expectedOfHigher_44 : decode cX0_expectedOfHigher 44 = .ok (.iaload, 1) := by decide +kernel
theorem dX0_expectedOfHigher_45 : decode cX0_expectedOfHigher 45 = .ok (.iload_n 3, 1) := by decide +kernel
theorem dX0_expectedOfHigher_46 : decode cX0_expectedOfHigher 46 = .ok (.iload_n 1, 1) := by decide +kernel
theorem dX0_expectedOfHigher_47 : decode cX0_expectedOfHigher 47 = .ok (.bipush 100, 2) := by decide +kernel
theorem dX0_expectedOfHigher_49 : decode cX0_expectedOfHigher 49 = .ok (.irem, 1) := by decide +kernel
theorem dX0_expectedOfHigher_50 : decode cX0_expectedOfHigher 50 = .ok (.imul, 1) := by decide +kernel
theorem dX0_expectedOfHigher_51 : decode cX0_expectedOfHigher 51 = .ok (.bipush 100, 2) := by decide +kernel
theorem dX0_expectedOfHigher_53 : decode cX0_expectedOfHigher 53 = .ok (.idiv, 1) := by decide +kernel
theorem dX0_expectedOfHigher_54 : decode cX0_expectedOfHigher 54 = .ok (.iadd, 1) := by decide +kernel
theorem dX0_expectedOfHigher_55 : decode cX0_expectedOfHigher 55 = .ok (.ireturn, 1) := by decide +kernel
theorem dX0_weight_0 : decode cX0_weight 0 = .ok (.aload_n 0, 1) := by decide +kernel
theorem dX0_weight_1 : decode cX0_weight 1 = .ok (.getfield 21, 3) := by decide +kernel
theorem dX0_weight_4 : decode cX0_weight 4 = .ok (.iload_n 1, 1) := by decide +kernel
theorem dX0_weight_5 : decode cX0_weight 5 = .ok (.iaload, 1) := by decide +kernel
theorem dX0_weight_6 : decode cX0_weight 6 = .ok (.bipush 10, 2) := by decide +kernel
theorem dX0_weight_8 : decode cX0_weight 8 = .ok (.if_icmp .ge 6, 3) := by decide +kernel
theorem dX0_weight_11 : decode cX0_weight 11 = .ok (.bipush 40, 2) := by decide +kernel
theorem dX0_weight_13 : decode cX0_weight 13 = .ok (.ireturn, 1) := by decide +kernel
theorem dX0_weight_14 : decode cX0_weight 14 = .ok (.aload_n 0, 1) := by decide +kernel
theorem dX0_weight_15 : decode cX0_weight 15 = .ok (.getfield 15, 3) := by decide +kernel
theorem dX0_weight_18 : decode cX0_weight 18 = .ok (.iload_n 1, 1) := by decide +kernel
theorem dX0_weight_19 : decode cX0_weight 19 = .ok (.iaload, 1) := by decide +kernel
theorem dX0_weight_20 : decode cX0_weight 20 = .ok (.sipush 2000, 3) := by decide +kernel
theorem dX0_weight_23 : decode cX0_weight 23 = .ok (.if_icmp .lt 8, 3) := by decide +kernel
theorem dX0_weight_26 : decode cX0_weight 26 = .ok (.bipush 10, 2) := by decide +kernel
theorem dX0_weight_28 : decode cX0_weight 28 = .ok (.goto 5, 3) := by decide +kernel
theorem dX0_weight_31 : decode cX0_weight 31 = .ok (.bipush 20, 2) := by decide +kernel
theorem dX0_weight_33 : decode cX0_weight 33 = .ok (.ireturn, 1) := by decide +kernel
set_option maxRecDepth 20000 in
theorem ggX0_gain_X0_weight : GoodIn wsX0_gain wsX0_weight := goodIn_r _ [13, 14, 1, 23, 24, 25, 26, 27, 28, 29, 30] (by decide +kernel) (by decide +kernel)
set_option maxRecDepth 20000 in
theorem gX0_gain_X0_weight : GoodIn wsX0_gain (wsV RX0 53 RX0 yX0_weight wsX0_weight) := goodIn_app (goodIn_of _ (by decide +kernel)) ggX0_gain_X0_weight
set_option maxRecDepth 20000 in
theorem ggX0_gain_X0_expectation : GoodIn wsX0_gain wsX0_expectation := goodIn_r _ [18, 1, 19, 20, 12, 21, 2, 3, 4, 5, 22, 23, 24, 25, 26, 27, 28, 29, 30] (by decide +kernel) (by decide +kernel)
set_option maxRecDepth 20000 in
theorem gX0_gain_X0_expectation : GoodIn wsX0_gain (wsV RX0 56 RX0 yX0_expectation wsX0_expectation) := goodIn_app (goodIn_of _ (by decide +kernel)) ggX0_gain_X0_expectation
theorem dX0_gain_0 : decode cX0_gain 0 = .ok (.iload_n 3, 1) := by decide +kernel
theorem dX0_gain_1 : decode cX0_gain 1 = .ok (.sipush 500, 3) := by decide +kernel
theorem dX0_gain_4 : decode cX0_gain 4 = .ok (.imul, 1) := by decide +kernel
theorem dX0_gain_5 : decode cX0_gain 5 = .ok (.istore 4, 2) := by decide +kernel
theorem dX0_gain_7 : decode cX0_gain 7 = .ok (.aload_n 0, 1) := by decide +kernel
theorem dX0_gain_8 : decode cX0_gain 8 = .ok (.getfield 15, 3) := by decide +kernel
theorem dX0_gain_11 : decode cX0_gain 11 = .ok (.iload_n 1, 1) := by decide +kernel
theorem dX0_gain_12 : decode cX0_gain 12 = .ok (.iaload, 1) := by decide +kernel
theorem dX0_gain_13 : decode cX0_gain 13 = .ok (.aload_n 0, 1) := by decide +kernel
theorem dX0_gain_14 : decode cX0_gain 14 = .ok (.iload_n 1, 1) := by decide +kernel
theorem dX0_gain_15 : decode cX0_gain 15 = .ok (.invokevirtual 53, 3) := by decide +kernel
theorem dX0_gain_18 : decode cX0_gain 18 = .ok (.iload 4, 2) := by decide +kernel
theorem dX0_gain_20 : decode cX0_gain 20 = .ok (.aload_n 0, 1) := by decide +kernel
theorem dX0_gain_21 : decode cX0_gain 21 = .ok (.iload_n 1, 1) := by decide +kernel
theorem dX0_gain_22 : decode cX0_gain 22 = .ok (.iload_n 2, 1) := by decide +kernel
theorem dX0_gain_23 : decode cX0_gain 23 = .ok (.invokevirtual 56, 3) := by decide +kernel
theorem dX0_gain_26 : decode cX0_gain 26 = .ok (.isub, 1) := by decide +kernel
theorem dX0_gain_27 : decode cX0_gain 27 = .ok (.imul, 1) := by decide +kernel
theorem dX0_gain_28 : decode cX0_gain 28 = .ok (.sipush 1000, 3) := by decide +kernel
theorem dX0_gain_31 : decode cX0_gain 31 = .ok (.idiv, 1) := by decide +kernel
theorem dX0_gain_32 : decode cX0_gain 32 = .ok (.iadd, 1) := by decide +kernel
theorem dX0_gain_33 : decode cX0_gain 33 = .ok (.istore 5, 2) := by decide +kernel
theorem dX0_gain_35 : decode cX0_gain 35 = .ok (.bipush 100, 2) := by decide +kernel
theorem dX0_gain_37 : decode cX0_gain 37 = .ok (.sipush 3000, 3) := by decide +kernel
theorem dX0_gain_40 : decode cX0_gain 40 = .ok (.iload 5, 2) := by decide +kernel
theorem dX0_gain_42 : decode cX0_gain 42 = .ok (.invokestatic 47, 3) := by decide +kernel
theorem dX0_gain_45 : decode cX0_gain 45 = .ok (.invokestatic 37, 3) := by decide +kernel
theorem dX0_gain_48 : decode cX0_gain 48 = .ok (.istore 6, 2) := by decide +kernel
theorem dX0_gain_50 : decode cX0_gain 50 = .ok (.iload 6, 2) := by decide +kernel
theorem dX0_gain_52 : decode cX0_gain 52 = .ok (.aload_n 0, 1) := by decide +kernel
theorem dX0_gain_53 : decode cX0_gain 53 = .ok (.getfield 15, 3) := by decide +kernel
theorem dX0_gain_56 : decode cX0_gain 56 = .ok (.iload_n 1, 1) := by decide +kernel
theorem dX0_gain_57 : decode cX0_gain 57 = .ok (.iaload, 1) := by decide +kernel
theorem dX0_gain_58 : decode cX0_gain 58 = .ok (.isub, 1) := by decide +kernel
theorem dX0_gain_59 : decode cX0_gain 59 = .ok (.ireturn, 1) := by decide +kernel
set_option maxRecDepth 20000 in
theorem ggX0_isUpset_X0_expectation : GoodIn wsX0_isUpset wsX0_expectation := goodIn_r _ [5, 6, 7, 8, 4, 9, 10, 11, 12, 13, 14, 15, 16, 17, 18, 19, 20, 21, 22] (by decide +kernel) (by decide +kernel)
set_option maxRecDepth 20000 in
theorem gX0_isUpset_X0_expectation : GoodIn wsX0_isUpset (wsV RX0 56 RX0 yX0_expectation wsX0_expectation) := goodIn_app (goodIn_of _ (by decide +kernel)) ggX0_isUpset_X0_expectation
theorem dX0_isUpset_0 : decode cX0_isUpset 0 = .ok (.iload_n 3, 1) := by decide +kernel
theorem dX0_isUpset_1 : decode cX0_isUpset 1 = .ok (.iconst 2, 1) := by decide +kernel
theorem dX0_isUpset_2 : decode cX0_isUpset 2 = .ok (.if_icmp .ne 15, 3) := by decide +kernel
theorem dX0_isUpset_5 : decode cX0_isUpset 5 = .ok (.aload_n 0, 1) := by decide +kernel
theorem dX0_isUpset_6 : decode cX0_isUpset 6 = .ok (.iload_n 1, 1) := by decide +kernel
theorem dX0_isUpset_7 : decode cX0_isUpset 7 = .ok (.iload_n 2, 1) := by decide +kernel
theorem dX0_isUpset_8 : decode cX0_isUpset 8 = .ok (.invokevirtual 56, 3) := by decide +kernel
theorem dX0_isUpset_11 : decode cX0_isUpset 11 = .ok (.sipush 400, 3) := by decide +kernel
theorem dX0_isUpset_14 : decode cX0_isUpset 14 = .ok (.if_icmp .lt 19, 3) := by decide +kernel
theorem dX0_isUpset_17 : decode cX0_isUpset 17 = .ok (.iload_n 3, 1) := by decide +kernel
theorem dX0_isUpset_18 : decode cX0_isUpset 18 = .ok (.ifCond .ne 19, 3) := by decide +kernel
theorem dX0_isUpset_21 : decode cX0_isUpset 21 = .ok (.aload_n 0, 1) := by decide +kernel
theorem dX0_isUpset_22 : decode cX0_isUpset 22 = .ok (.iload_n 2, 1) := by decide +kernel
theorem dX0_isUpset_23 : decode cX0_isUpset 23 = .ok (.iload_n 1, 1) := by decide +kernel
theorem dX0_isUpset_24 : decode cX0_isUpset 24 = .ok (.invokevirtual 56, 3) := by decide +kernel
theorem dX0_isUpset_27 : decode cX0_isUpset 27 = .ok (.sipush 400, 3) := by decide +kernel
theorem dX0_isUpset_30 : decode cX0_isUpset 30 = .ok (.if_icmp .ge 7, 3) := by decide +kernel
theorem dX0_isUpset_33 : decode cX0_isUpset 33 = .ok (.iconst 1, 1) := by decide +kernel
theorem dX0_isUpset_34 : decode cX0_isUpset 34 = .ok (.goto 4, 3) := by decide +kernel
theorem dX0_isUpset_37 : decode cX0_isUpset 37 = .ok (.iconst 0, 1) := by decide +kernel
theorem dX0_isUpset_38 : decode cX0_isUpset 38 = .ok (.ireturn, 1) := by decide +kernel
set_option maxRecDepth 20000 in
theorem ggX0_hold_X0_gain : GoodIn wsX0_hold wsX0_gain := goodIn_r _ [5, 6, 7, 8, 9, 10, 11, 12, 13, 14, 15, 16, 4, 17, 18, 19, 20, 21, 22, 23, 24, 25, 26, 39, 40, 41, 42, 43, 44, 45, 46] (by decide +kernel) (by decide +kernel)
set_option maxRecDepth 20000 in
theorem gX0_hold_X0_gain : GoodIn wsX0_hold (wsV RX0 59 RX0 yX0_gain wsX0_gain) := goodIn_app (goodIn_of _ (by decide +kernel)) ggX0_hold_X0_gain
set_option maxRecDepth 20000 in
theorem ggX0_hold_X0_enter : GoodIn wsX0_hold wsX0_enter := goodIn_r _ [30, 6, 31, 18, 32, 33, 34, 35, 36, 4, 37, 38, 11, 12, 9, 13, 39, 40, 41, 42, 43, 44, 45, 46] (by decide +kernel) (by decide +kernel)
set_option maxRecDepth 20000 in
theorem gX0_hold_X0_enter : GoodIn wsX0_hold (wsV RX0 63 RX0 yX0_enter wsX0_enter) := goodIn_app (goodIn_of _ (by decide +kernel)) ggX0_hold_X0_enter
theorem dX0_hold_0 : decode cX0_hold 0 = .ok (.aload_n 0, 1) := by decide +kernel
theorem dX0_hold_1 : decode cX0_hold 1 = .ok (.iload_n 1, 1) := by decide +kernel
theorem dX0_hold_2 : decode cX0_hold 2 = .ok (.iload_n 2, 1) := by decide +kernel
theorem dX0_hold_3 : decode cX0_hold 3 = .ok (.iload_n 3, 1) := by decide +kernel
theorem dX0_hold_4 : decode cX0_hold 4 = .ok (.invokevirtual 59, 3) := by decide +kernel
theorem dX0_hold_7 : decode cX0_hold 7 = .ok (.istore 4, 2) := by decide +kernel
theorem dX0_hold_9 : decode cX0_hold 9 = .ok (.aload_n 0, 1) := by decide +kernel
theorem dX0_hold_10 : decode cX0_hold 10 = .ok (.iload_n 2, 1) := by decide +kernel
theorem dX0_hold_11 : decode cX0_hold 11 = .ok (.iload_n 1, 1) := by decide +kernel
theorem dX0_hold_12 : decode cX0_hold 12 = .ok (.iconst 2, 1) := by decide +kernel
theorem dX0_hold_13 : decode cX0_hold 13 = .ok (.iload_n 3, 1) := by decide +kernel
theorem dX0_hold_14 : decode cX0_hold 14 = .ok (.isub, 1) := by decide +kernel
theorem dX0_hold_15 : decode cX0_hold 15 = .ok (.invokevirtual 59, 3) := by decide +kernel
theorem dX0_hold_18 : decode cX0_hold 18 = .ok (.istore 5, 2) := by decide +kernel
theorem dX0_hold_20 : decode cX0_hold 20 = .ok (.aload_n 0, 1) := by decide +kernel
theorem dX0_hold_21 : decode cX0_hold 21 = .ok (.iload_n 1, 1) := by decide +kernel
theorem dX0_hold_22 : decode cX0_hold 22 = .ok (.iload 4, 2) := by decide +kernel
theorem dX0_hold_24 : decode cX0_hold 24 = .ok (.iload_n 3, 1) := by decide +kernel
theorem dX0_hold_25 : decode cX0_hold 25 = .ok (.invokevirtual 63, 3) := by decide +kernel
theorem dX0_hold_28 : decode cX0_hold 28 = .ok (.aload_n 0, 1) := by decide +kernel
theorem dX0_hold_29 : decode cX0_hold 29 = .ok (.iload_n 2, 1) := by decide +kernel
theorem dX0_hold_30 : decode cX0_hold 30 = .ok (.iload 5, 2) := by decide +kernel
theorem dX0_hold_32 : decode cX0_hold 32 = .ok (.iconst 2, 1) := by decide +kernel
theorem dX0_hold_33 : decode cX0_hold 33 = .ok (.iload_n 3, 1) := by decide +kernel
theorem dX0_hold_34 : decode cX0_hold 34 = .ok (.isub, 1) := by decide +kernel
theorem dX0_hold_35 : decode cX0_hold 35 = .ok (.invokevirtual 63, 3) := by decide +kernel
theorem dX0_hold_38 : decode cX0_hold 38 = .ok (.iload 4, 2) := by decide +kernel
theorem dX0_hold_40 : decode cX0_hold 40 = .ok (.ireturn, 1) := by decide +kernel
set_option maxRecDepth 20000 in
theorem ggX0_holdAsRated_X0_hold : GoodIn wsX0_holdAsRated wsX0_hold := goodIn_r _ [6, 7, 8, 9, 5, 10, 1, 11, 12, 13, 14, 15, 16, 17, 18, 19, 20, 21, 22, 23, 24, 25, 26, 27, 28, 29, 30, 31, 32, 33, 34, 35, 36, 37, 38, 39, 40, 41, 42, 43, 44, 45, 46, 47, 48, 49, 50] (by decide +kernel) (by decide +kernel)
set_option maxRecDepth 20000 in
theorem gX0_holdAsRated_X0_hold : GoodIn wsX0_holdAsRated (wsV RX0 67 RX0 yX0_hold wsX0_hold) := goodIn_app (goodIn_of _ (by decide +kernel)) ggX0_holdAsRated_X0_hold
theorem dX0_holdAsRated_0 : decode cX0_holdAsRated 0 = .ok (.aload_n 0, 1) := by decide +kernel
theorem dX0_holdAsRated_1 : decode cX0_holdAsRated 1 = .ok (.iload_n 1, 1) := by decide +kernel
theorem dX0_holdAsRated_2 : decode cX0_holdAsRated 2 = .ok (.iload_n 2, 1) := by decide +kernel
theorem dX0_holdAsRated_3 : decode cX0_holdAsRated 3 = .ok (.aload_n 0, 1) := by decide +kernel
theorem dX0_holdAsRated_4 : decode cX0_holdAsRated 4 = .ok (.getfield 15, 3) := by decide +kernel
theorem dX0_holdAsRated_7 : decode cX0_holdAsRated 7 = .ok (.iload_n 1, 1) := by decide +kernel
theorem dX0_holdAsRated_8 : decode cX0_holdAsRated 8 = .ok (.iaload, 1) := by decide +kernel
theorem dX0_holdAsRated_9 : decode cX0_holdAsRated 9 = .ok (.aload_n 0, 1) := by decide +kernel
theorem dX0_holdAsRated_10 : decode cX0_holdAsRated 10 = .ok (.getfield 15, 3) := by decide +kernel
theorem dX0_holdAsRated_13 : decode cX0_holdAsRated 13 = .ok (.iload_n 2, 1) := by decide +kernel
theorem dX0_holdAsRated_14 : decode cX0_holdAsRated 14 = .ok (.iaload, 1) := by decide +kernel
theorem dX0_holdAsRated_15 : decode cX0_holdAsRated 15 = .ok (.if_icmp .lt 7, 3) := by decide +kernel
theorem dX0_holdAsRated_18 : decode cX0_holdAsRated 18 = .ok (.iconst 2, 1) := by decide +kernel
theorem dX0_holdAsRated_19 : decode cX0_holdAsRated 19 = .ok (.goto 4, 3) := by decide +kernel
theorem dX0_holdAsRated_22 : decode cX0_holdAsRated 22 = .ok (.iconst 0, 1) := by decide +kernel
theorem dX0_holdAsRated_23 : decode cX0_holdAsRated 23 = .ok (.invokevirtual 67, 3) := by decide +kernel
theorem dX0_holdAsRated_26 : decode cX0_holdAsRated 26 = .ok (.pop, 1) := by decide +kernel
theorem dX0_holdAsRated_27 : decode cX0_holdAsRated 27 = .ok (.return_, 1) := by decide +kernel
set_option maxRecDepth 20000 in
theorem ggX0_enter_X0_setRating : GoodIn wsX0_enter wsX0_setRating := goodIn_r _ [10, 1, 11, 12, 13, 14, 15, 16, 17, 18, 19, 20, 21, 22, 23] (by decide +kernel) (by decide +kernel)
set_option maxRecDepth 20000 in
theorem gX0_enter_X0_setRating : GoodIn wsX0_enter (wsV RX0 70 RX0 yX0_setRating wsX0_setRating) := goodIn_app (goodIn_of _ (by decide +kernel)) ggX0_enter_X0_setRating
theorem dX0_enter_0 : decode cX0_enter 0 = .ok (.aload_n 0, 1) := by decide +kernel
theorem dX0_enter_1 : decode cX0_enter 1 = .ok (.iload_n 1, 1) := by decide +kernel
theorem dX0_enter_2 : decode cX0_enter 2 = .ok (.aload_n 0, 1) := by decide +kernel
theorem dX0_enter_3 : decode cX0_enter 3 = .ok (.getfield 15, 3) := by decide +kernel
theorem dX0_enter_6 : decode cX0_enter 6 = .ok (.iload_n 1, 1) := by decide +kernel
theorem dX0_enter_7 : decode cX0_enter 7 = .ok (.iaload, 1) := by decide +kernel
theorem dX0_enter_8 : decode cX0_enter 8 = .ok (.iload_n 2, 1) := by decide +kernel
theorem dX0_enter_9 : decode cX0_enter 9 = .ok (.iadd, 1) := by decide +kernel
theorem dX0_enter_10 : decode cX0_enter 10 = .ok (.invokevirtual 70, 3) := by decide +kernel
theorem dX0_enter_13 : decode cX0_enter 13 = .ok (.aload_n 0, 1) := by decide +kernel
theorem dX0_enter_14 : decode cX0_enter 14 = .ok (.getfield 18, 3) := by decide +kernel
theorem dX0_enter_17 : decode cX0_enter 17 = .ok (.iload_n 1, 1) := by decide +kernel
theorem dX0_enter_18 : decode cX0_enter 18 = .ok (.dup2, 1) := by decide +kernel
theorem dX0_enter_19 : decode cX0_enter 19 = .ok (.iaload, 1) := by decide +kernel
theorem dX0_enter_20 : decode cX0_enter 20 = .ok (.iload_n 3, 1) := by decide +kernel
theorem dX0_enter_21 : decode cX0_enter 21 = .ok (.iadd, 1) := by decide +kernel
theorem dX0_enter_22 : decode cX0_enter 22 = .ok (.iastore, 1) := by decide +kernel
theorem dX0_enter_23 : decode cX0_enter 23 = .ok (.aload_n 0, 1) := by decide +kernel
theorem dX0_enter_24 : decode cX0_enter 24 = .ok (.getfield 21, 3) := by decide +kernel
theorem dX0_enter_27 : decode cX0_enter 27 = .ok (.iload_n 1, 1) := by decide +kernel
theorem dX0_enter_28 : decode cX0_enter 28 = .ok (.dup2, 1) := by decide +kernel
theorem dX0_enter_29 : decode cX0_enter 29 = .ok (.iaload, 1) := by decide +kernel
theorem dX0_enter_30 : decode cX0_enter 30 = .ok (.iconst 1, 1) := by decide +kernel
theorem dX0_enter_31 : decode cX0_enter 31 = .ok (.iadd, 1) := by decide +kernel
theorem dX0_enter_32 : decode cX0_enter 32 = .ok (.iastore, 1) := by decide +kernel
theorem dX0_enter_33 : decode cX0_enter 33 = .ok (.aload_n 0, 1) := by decide +kernel
theorem dX0_enter_34 : decode cX0_enter 34 = .ok (.getfield 24, 3) := by decide +kernel
theorem dX0_enter_37 : decode cX0_enter 37 = .ok (.iload_n 1, 1) := by decide +kernel
theorem dX0_enter_38 : decode cX0_enter 38 = .ok (.dup2, 1) := by decide +kernel
theorem dX0_enter_39 : decode cX0_enter 39 = .ok (.iaload, 1) := by decide +kernel
theorem dX0_enter_40 : decode cX0_enter 40 = .ok (.iconst 1, 1) := by decide +kernel
theorem dX0_enter_41 : decode cX0_enter 41 = .ok (.iadd, 1) := by decide +kernel
theorem dX0_enter_42 : decode cX0_enter 42 = .ok (.iastore, 1) := by decide +kernel
theorem dX0_enter_43 : decode cX0_enter 43 = .ok (.aload_n 0, 1) := by decide +kernel
theorem dX0_enter_44 : decode cX0_enter 44 = .ok (.getfield 27, 3) := by decide +kernel
theorem dX0_enter_47 : decode cX0_enter 47 = .ok (.iload_n 1, 1) := by decide +kernel
theorem dX0_enter_48 : decode cX0_enter 48 = .ok (.iload_n 3, 1) := by decide +kernel
theorem dX0_enter_49 : decode cX0_enter 49 = .ok (.iconst 2, 1) := by decide +kernel
theorem dX0_enter_50 : decode cX0_enter 50 = .ok (.if_icmp .ne 14, 3) := by decide +kernel
theorem dX0_enter_53 : decode cX0_enter 53 = .ok (.aload_n 0, 1) := by decide +kernel
theorem dX0_enter_54 : decode cX0_enter 54 = .ok (.getfield 27, 3) := by decide +kernel
theorem dX0_enter_57 : decode cX0_enter 57 = .ok (.iload_n 1, 1) := by decide +kernel
theorem dX0_enter_58 : decode cX0_enter 58 = .ok (.iaload, 1) := by decide +kernel
theorem dX0_enter_59 : decode cX0_enter 59 = .ok (.iconst 1, 1) := by decide +kernel
theorem dX0_enter_60 : decode cX0_enter 60 = .ok (.iadd, 1) := by decide +kernel
theorem dX0_enter_61 : decode cX0_enter 61 = .ok (.goto 4, 3) := by decide +kernel
theorem dX0_enter_64 : decode cX0_enter 64 = .ok (.iconst 0, 1) := by decide +kernel
theorem dX0_enter_65 : decode cX0_enter 65 = .ok (.iastore, 1) := by decide +kernel
theorem dX0_enter_66 : decode cX0_enter 66 = .ok (.return_, 1) := by decide +kernel
set_option maxRecDepth 20000 in
theorem ggX0_drift_X0_setRating : GoodIn wsX0_drift wsX0_setRating := goodIn_r _ [8, 3, 9, 10, 11, 12, 13, 14, 15, 16, 17, 18, 19, 20, 21] (by decide +kernel) (by decide +kernel)
set_option maxRecDepth 20000 in
theorem gX0_drift_X0_setRating : GoodIn wsX0_drift (wsV RX0 70 RX0 yX0_setRating wsX0_setRating) := goodIn_app (goodIn_of _ (by decide +kernel)) ggX0_drift_X0_setRating
theorem dX0_drift_0 : decode cX0_drift 0 = .ok (.iconst 0, 1) := by decide +kernel
theorem dX0_drift_1 : decode cX0_drift 1 = .ok (.istore_n 1, 1) := by decide +kernel
theorem dX0_drift_2 : decode cX0_drift 2 = .ok (.iload_n 1, 1) := by decide +kernel
theorem dX0_drift_3 : decode cX0_drift 3 = .ok (.aload_n 0, 1) := by decide +kernel
theorem dX0_drift_4 : decode cX0_drift 4 = .ok (.getfield 33, 3) := by decide +kernel
theorem dX0_drift_7 : decode cX0_drift 7 = .ok (.if_icmp .ge 44, 3) := by decide +kernel
theorem dX0_drift_10 : decode cX0_drift 10 = .ok (.aload_n 0, 1) := by decide +kernel
theorem dX0_drift_11 : decode cX0_drift 11 = .ok (.getfield 24, 3) := by decide +kernel
theorem dX0_drift_14 : decode cX0_drift 14 = .ok (.iload_n 1, 1) := by decide +kernel
theorem dX0_drift_15 : decode cX0_drift 15 = .ok (.iaload, 1) := by decide +kernel
theorem dX0_drift_16 : decode cX0_drift 16 = .ok (.iconst 3, 1) := by decide +kernel
theorem dX0_drift_17 : decode cX0_drift 17 = .ok (.if_icmp .ge 28, 3) := by decide +kernel
theorem dX0_drift_20 : decode cX0_drift 20 = .ok (.aload_n 0, 1) := by decide +kernel
theorem dX0_drift_21 : decode cX0_drift 21 = .ok (.iload_n 1, 1) := by decide +kernel
theorem dX0_drift_22 : decode cX0_drift 22 = .ok (.aload_n 0, 1) := by decide +kernel
theorem dX0_drift_23 : decode cX0_drift 23 = .ok (.getfield 15, 3) := by decide +kernel
theorem dX0_drift_26 : decode cX0_drift 26 = .ok (.iload_n 1, 1) := by decide +kernel
theorem dX0_drift_27 : decode cX0_drift 27 = .ok (.iaload, 1) := by decide +kernel
theorem dX0_drift_28 : decode cX0_drift 28 = .ok (.aload_n 0, 1) := by decide +kernel
theorem dX0_drift_29 : decode cX0_drift 29 = .ok (.getfield 15, 3) := by decide +kernel
theorem dX0_drift_32 : decode cX0_drift 32 = .ok (.iload_n 1, 1) := by decide +kernel
theorem dX0_drift_33 : decode cX0_drift 33 = .ok (.iaload, 1) := by decide +kernel
theorem dX0_drift_34 : decode cX0_drift 34 = .ok (.sipush 1000, 3) := by decide +kernel
theorem dX0_drift_37 : decode cX0_drift 37 = .ok (.isub, 1) := by decide +kernel
theorem dX0_drift_38 : decode cX0_drift 38 = .ok (.bipush 8, 2) := by decide +kernel
theorem dX0_drift_40 : decode cX0_drift 40 = .ok (.idiv, 1) := by decide +kernel
theorem dX0_drift_41 : decode cX0_drift 41 = .ok (.isub, 1) := by decide +kernel
theorem dX0_drift_42 : decode cX0_drift 42 = .ok (.invokevirtual 70, 3) := by decide +kernel
theorem dX0_drift_45 : decode cX0_drift 45 = .ok (.iinc 1 1, 3) := by decide +kernel
theorem dX0_drift_48 : decode cX0_drift 48 = .ok (.goto (-46), 3) := by decide +kernel
theorem dX0_drift_51 : decode cX0_drift 51 = .ok (.return_, 1) := by decide +kernel
set_option maxRecDepth 20000 in
theorem ggX0_exchange_X0_sizeOf : GoodIn wsX0_exchange wsX0_sizeOf := goodIn_r _ [7, 8, 2, 22, 23, 24, 25, 26, 27, 28, 29] (by decide +kernel) (by decide +kernel)
set_option maxRecDepth 20000 in
theorem gX0_exchange_X0_sizeOf : GoodIn wsX0_exchange (wsV RX0 74 RX0 yX0_sizeOf wsX0_sizeOf) := goodIn_app (goodIn_of _ (by decide +kernel)) ggX0_exchange_X0_sizeOf
set_option maxRecDepth 20000 in
theorem ggX0_exchange_X0_standingAt : GoodIn wsX0_exchange wsX0_standingAt := goodIn_r _ [12, 8, 2, 13, 14, 15, 6, 16, 17, 18, 19, 20, 1, 21, 22, 23, 24, 25, 26, 27, 28, 29] (by decide +kernel) (by decide +kernel)
set_option maxRecDepth 20000 in
theorem gX0_exchange_X0_standingAt : GoodIn wsX0_exchange (wsV RX0 77 RX0 yX0_standingAt wsX0_standingAt) := goodIn_app (goodIn_of _ (by decide +kernel)) ggX0_exchange_X0_standingAt
theorem dX0_exchange_0 : decode cX0_exchange 0 = .ok (.aload_n 0, 1) := by decide +kernel
theorem dX0_exchange_1 : decode cX0_exchange 1 = .ok (.iload_n 1, 1) := by decide +kernel
theorem dX0_exchange_2 : decode cX0_exchange 2 = .ok (.aload_n 0, 1) := by decide +kernel
theorem dX0_exchange_3 : decode cX0_exchange 3 = .ok (.iload_n 1, 1) := by decide +kernel
theorem dX0_exchange_4 : decode cX0_exchange 4 = .ok (.invokevirtual 74, 3) := by decide +kernel
theorem dX0_exchange_7 : decode cX0_exchange 7 = .ok (.invokevirtual 77, 3) := by decide +kernel
theorem dX0_exchange_10 : decode cX0_exchange 10 = .ok (.istore_n 2, 1) := by decide +kernel
theorem dX0_exchange_11 : decode cX0_exchange 11 = .ok (.aload_n 0, 1) := by decide +kernel
theorem dX0_exchange_12 : decode cX0_exchange 12 = .ok (.iload_n 1, 1) := by decide +kernel
theorem dX0_exchange_13 : decode cX0_exchange 13 = .ok (.iconst 1, 1) := by decide +kernel
theorem dX0_exchange_14 : decode cX0_exchange 14 = .ok (.iadd, 1) := by decide +kernel
theorem dX0_exchange_15 : decode cX0_exchange 15 = .ok (.iconst 1, 1) := by decide +kernel
theorem dX0_exchange_16 : decode cX0_exchange 16 = .ok (.invokevirtual 77, 3) := by decide +kernel
theorem dX0_exchange_19 : decode cX0_exchange 19 = .ok (.istore_n 3, 1) := by decide +kernel
theorem dX0_exchange_20 : decode cX0_exchange 20 = .ok (.iload_n 2, 1) := by decide +kernel
theorem dX0_exchange_21 : decode cX0_exchange 21 = .ok (.iconst (-1), 1) := by decide +kernel
theorem dX0_exchange_22 : decode cX0_exchange 22 = .ok (.if_icmp .eq 23, 3) := by decide +kernel
theorem dX0_exchange_25 : decode cX0_exchange 25 = .ok (.iload_n 3, 1) := by decide +kernel
theorem dX0_exchange_26 : decode cX0_exchange 26 = .ok (.iconst (-1), 1) := by decide +kernel
theorem dX0_exchange_27 : decode cX0_exchange 27 = .ok (.if_icmp .eq 18, 3) := by decide +kernel
theorem dX0_exchange_30 : decode cX0_exchange 30 = .ok (.aload_n 0, 1) := by decide +kernel
theorem dX0_exchange_31 : decode cX0_exchange 31 = .ok (.getfield 18, 3) := by decide +kernel
theorem dX0_exchange_34 : decode cX0_exchange 34 = .ok (.iload_n 3, 1) := by decide +kernel
theorem dX0_exchange_35 : decode cX0_exchange 35 = .ok (.iaload, 1) := by decide +kernel
theorem dX0_exchange_36 : decode cX0_exchange 36 = .ok (.aload_n 0, 1) := by decide +kernel
theorem dX0_exchange_37 : decode cX0_exchange 37 = .ok (.getfield 18, 3) := by decide +kernel
theorem dX0_exchange_40 : decode cX0_exchange 40 = .ok (.iload_n 2, 1) := by decide +kernel
theorem dX0_exchange_41 : decode cX0_exchange 41 = .ok (.iaload, 1) := by decide +kernel
theorem dX0_exchange_42 : decode cX0_exchange 42 = .ok (.if_icmp .gt 5, 3) := by decide +kernel
theorem dX0_exchange_45 : decode cX0_exchange 45 = .ok (.iconst 0, 1) := by decide +kernel
theorem dX0_exchange_46 : decode cX0_exchange 46 = .ok (.ireturn, 1) := by decide +kernel
theorem dX0_exchange_47 : decode cX0_exchange 47 = .ok (.aload_n 0, 1) := by decide +kernel
theorem dX0_exchange_48 : decode cX0_exchange 48 = .ok (.getfield 9, 3) := by decide +kernel
theorem dX0_exchange_51 : decode cX0_exchange 51 = .ok (.iload_n 2, 1) := by decide +kernel
theorem dX0_exchange_52 : decode cX0_exchange 52 = .ok (.iload_n 1, 1) := by decide +kernel
theorem dX0_exchange_53 : decode cX0_exchange 53 = .ok (.iconst 1, 1) := by decide +kernel
theorem dX0_exchange_54 : decode cX0_exchange 54 = .ok (.iadd, 1) := by decide +kernel
theorem dX0_exchange_55 : decode cX0_exchange 55 = .ok (.iastore, 1) := by decide +kernel
theorem dX0_exchange_56 : decode cX0_exchange 56 = .ok (.aload_n 0, 1) := by decide +kernel
theorem dX0_exchange_57 : decode cX0_exchange 57 = .ok (.getfield 9, 3) := by decide +kernel
theorem dX0_exchange_60 : decode cX0_exchange 60 = .ok (.iload_n 3, 1) := by decide +kernel
theorem dX0_exchange_61 : decode cX0_exchange 61 = .ok (.iload_n 1, 1) := by decide +kernel
theorem dX0_exchange_62 : decode cX0_exchange 62 = .ok (.iastore, 1) := by decide +kernel
theorem dX0_exchange_63 : decode cX0_exchange 63 = .ok (.iconst 1, 1) := by decide +kernel
theorem dX0_exchange_64 : decode cX0_exchange 64 = .ok (.ireturn, 1) := by decide +kernel
theorem dX0_clearSeason_0 : decode cX0_clearSeason 0 = .ok (.iconst 0, 1) := by decide +kernel
theorem dX0_clearSeason_1 : decode cX0_clearSeason 1 = .ok (.istore_n 1, 1) := by decide +kernel
theorem dX0_clearSeason_2 : decode cX0_clearSeason 2 = .ok (.iload_n 1, 1) := by decide +kernel
theorem dX0_clearSeason_3 : decode cX0_clearSeason 3 = .ok (.aload_n 0, 1) := by decide +kernel
theorem dX0_clearSeason_4 : decode cX0_clearSeason 4 = .ok (.getfield 33, 3) := by decide +kernel
theorem dX0_clearSeason_7 : decode cX0_clearSeason 7 = .ok (.if_icmp .ge 23, 3) := by decide +kernel
theorem dX0_clearSeason_10 : decode cX0_clearSeason 10 = .ok (.aload_n 0, 1) := by decide +kernel
theorem dX0_clearSeason_11 : decode cX0_clearSeason 11 = .ok (.getfield 18, 3) := by decide +kernel
theorem dX0_clearSeason_14 : decode cX0_clearSeason 14 = .ok (.iload_n 1, 1) := by decide +kernel
theorem dX0_clearSeason_15 : decode cX0_clearSeason 15 = .ok (.iconst 0, 1) := by decide +kernel
theorem dX0_clearSeason_16 : decode cX0_clearSeason 16 = .ok (.iastore, 1) := by decide +kernel
theorem dX0_clearSeason_17 : decode cX0_clearSeason 17 = .ok (.aload_n 0, 1) := by decide +kernel
theorem dX0_clearSeason_18 : decode cX0_clearSeason 18 = .ok (.getfield 24, 3) := by decide +kernel
theorem dX0_clearSeason_21 : decode cX0_clearSeason 21 = .ok (.iload_n 1, 1) := by decide +kernel
theorem dX0_clearSeason_22 : decode cX0_clearSeason 22 = .ok (.iconst 0, 1) := by decide +kernel
theorem dX0_clearSeason_23 : decode cX0_clearSeason 23 = .ok (.iastore, 1) := by decide +kernel
theorem dX0_clearSeason_24 : decode cX0_clearSeason 24 = .ok (.iinc 1 1, 3) := by decide +kernel
theorem dX0_clearSeason_27 : decode cX0_clearSeason 27 = .ok (.goto (-25), 3) := by decide +kernel
theorem dX0_clearSeason_30 : decode cX0_clearSeason 30 = .ok (.return_, 1) := by decide +kernel
theorem dX0_sizeOf_0 : decode cX0_sizeOf 0 = .ok (.iconst 0, 1) := by decide +kernel
theorem dX0_sizeOf_1 : decode cX0_sizeOf 1 = .ok (.istore_n 2, 1) := by decide +kernel
theorem dX0_sizeOf_2 : decode cX0_sizeOf 2 = .ok (.iconst 0, 1) := by decide +kernel
theorem dX0_sizeOf_3 : decode cX0_sizeOf 3 = .ok (.istore_n 3, 1) := by decide +kernel
theorem dX0_sizeOf_4 : decode cX0_sizeOf 4 = .ok (.iload_n 3, 1) := by decide +kernel
theorem dX0_sizeOf_5 : decode cX0_sizeOf 5 = .ok (.aload_n 0, 1) := by decide +kernel
theorem dX0_sizeOf_6 : decode cX0_sizeOf 6 = .ok (.getfield 33, 3) := by decide +kernel
theorem dX0_sizeOf_9 : decode cX0_sizeOf 9 = .ok (.if_icmp .ge 22, 3) := by decide +kernel
theorem dX0_sizeOf_12 : decode cX0_sizeOf 12 = .ok (.aload_n 0, 1) := by decide +kernel
theorem dX0_sizeOf_13 : decode cX0_sizeOf 13 = .ok (.getfield 9, 3) := by decide +kernel
theorem dX0_sizeOf_16 : decode cX0_sizeOf 16 = .ok (.iload_n 3, 1) := by decide +kernel
theorem dX0_sizeOf_17 : decode cX0_sizeOf 17 = .ok (.iaload, 1) := by decide +kernel
theorem dX0_sizeOf_18 : decode cX0_sizeOf 18 = .ok (.iload_n 1, 1) := by decide +kernel
theorem dX0_sizeOf_19 : decode cX0_sizeOf 19 = .ok (.if_icmp .ne 6, 3) := by decide +kernel
theorem dX0_sizeOf_22 : decode cX0_sizeOf 22 = .ok (.iinc 2 1, 3) := by decide +kernel
theorem dX0_sizeOf_25 : decode cX0_sizeOf 25 = .ok (.iinc 3 1, 3) := by decide +kernel
theorem dX0_sizeOf_28 : decode cX0_sizeOf 28 = .ok (.goto (-24), 3) := by decide +kernel
theorem dX0_sizeOf_31 : decode cX0_sizeOf 31 = .ok (.iload_n 2, 1) := by decide +kernel
theorem dX0_sizeOf_32 : decode cX0_sizeOf 32 = .ok (.ireturn, 1) := by decide +kernel
set_option maxRecDepth 20000 in
theorem ggX0_place_X0_isAhead : GoodIn wsX0_place wsX0_isAhead := goodIn_r _ [7, 8, 9, 10, 11, 12, 13, 14, 15, 16, 17] (by decide +kernel) (by decide +kernel)
set_option maxRecDepth 20000 in
theorem gX0_place_X0_isAhead : GoodIn wsX0_place (wsV RX0 80 RX0 yX0_isAhead wsX0_isAhead) := goodIn_app (goodIn_of _ (by decide +kernel)) ggX0_place_X0_isAhead
theorem dX0_place_0 : decode cX0_place 0 = .ok (.iconst 1, 1) := by decide +kernel
theorem dX0_place_1 : decode cX0_place 1 = .ok (.istore_n 2, 1) := by decide +kernel
theorem dX0_place_2 : decode cX0_place 2 = .ok (.iconst 0, 1) := by decide +kernel
theorem dX0_place_3 : decode cX0_place 3 = .ok (.istore_n 3, 1) := by decide +kernel
theorem dX0_place_4 : decode cX0_place 4 = .ok (.iload_n 3, 1) := by decide +kernel
theorem dX0_place_5 : decode cX0_place 5 = .ok (.aload_n 0, 1) := by decide +kernel
theorem dX0_place_6 : decode cX0_place 6 = .ok (.getfield 33, 3) := by decide +kernel
theorem dX0_place_9 : decode cX0_place 9 = .ok (.if_icmp .ge 36, 3) := by decide +kernel
theorem dX0_place_12 : decode cX0_place 12 = .ok (.aload_n 0, 1) := by decide +kernel
theorem dX0_place_13 : decode cX0_place 13 = .ok (.getfield 9, 3) := by decide +kernel
theorem dX0_place_16 : decode cX0_place 16 = .ok (.iload_n 3, 1) := by decide +kernel
theorem dX0_place_17 : decode cX0_place 17 = .ok (.iaload, 1) := by decide +kernel
theorem dX0_place_18 : decode cX0_place 18 = .ok (.aload_n 0, 1) := by decide +kernel
theorem dX0_place_19 : decode cX0_place 19 = .ok (.getfield 9, 3) := by decide +kernel
theorem dX0_place_22 : decode cX0_place 22 = .ok (.iload_n 1, 1) := by decide +kernel
theorem dX0_place_23 : decode cX0_place 23 = .ok (.iaload, 1) := by decide +kernel
theorem dX0_place_24 : decode cX0_place 24 = .ok (.if_icmp .ne 15, 3) := by decide +kernel
theorem dX0_place_27 : decode cX0_place 27 = .ok (.aload_n 0, 1) := by decide +kernel
theorem dX0_place_28 : decode cX0_place 28 = .ok (.iload_n 3, 1) := by decide +kernel
theorem dX0_place_29 : decode cX0_place 29 = .ok (.iload_n 1, 1) := by decide +kernel
theorem dX0_place_30 : decode cX0_place 30 = .ok (.invokevirtual 80, 3) := by decide +kernel
theorem dX0_place_33 : decode cX0_place 33 = .ok (.ifCond .eq 6, 3) := by decide +kernel
theorem dX0_place_36 : decode cX0_place 36 = .ok (.iinc 2 1, 3) := by decide +kernel
theorem dX0_place_39 : decode cX0_place 39 = .ok (.iinc 3 1, 3) := by decide +kernel
theorem dX0_place_42 : decode cX0_place 42 = .ok (.goto (-38), 3) := by decide +kernel
theorem dX0_place_45 : decode cX0_place 45 = .ok (.iload_n 2, 1) := by decide +kernel
theorem dX0_place_46 : decode cX0_place 46 = .ok (.ireturn, 1) := by decide +kernel
theorem dX0_isAhead_0 : decode cX0_isAhead 0 = .ok (.aload_n 0, 1) := by decide +kernel
theorem dX0_isAhead_1 : decode cX0_isAhead 1 = .ok (.getfield 18, 3) := by decide +kernel
theorem dX0_isAhead_4 : decode cX0_isAhead 4 = .ok (.iload_n 1, 1) := by decide +kernel
theorem dX0_isAhead_5 : decode cX0_isAhead 5 = .ok (.iaload, 1) := by decide +kernel
theorem dX0_isAhead_6 : decode cX0_isAhead 6 = .ok (.aload_n 0, 1) := by decide +kernel
theorem dX0_isAhead_7 : decode cX0_isAhead 7 = .ok (.getfield 18, 3) := by decide +kernel
theorem dX0_isAhead_10 : decode cX0_isAhead 10 = .ok (.iload_n 2, 1) := by decide +kernel
theorem dX0_isAhead_11 : decode cX0_isAhead 11 = .ok (.iaload, 1) := by decide +kernel
theorem dX0_isAhead_12 : decode cX0_isAhead 12 = .ok (.if_icmp .eq 24, 3) := by decide +kernel
theorem dX0_isAhead_15 : decode cX0_isAhead 15 = .ok (.aload_n 0, 1) := by decide +kernel
theorem dX0_isAhead_16 : decode cX0_isAhead 16 = .ok (.getfield 18, 3) := by decide +kernel
theorem dX0_isAhead_19 : decode cX0_isAhead 19 = .ok (.iload_n 1, 1) := by decide +kernel
theorem dX0_isAhead_20 : decode cX0_isAhead 20 = .ok (.iaload, 1) := by decide +kernel
theorem dX0_isAhead_21 : decode cX0_isAhead 21 = .ok (.aload_n 0, 1) := by decide +kernel
theorem dX0_isAhead_22 : decode cX0_isAhead 22 = .ok (.getfield 18, 3) := by decide +kernel
theorem dX0_isAhead_25 : decode cX0_isAhead 25 = .ok (.iload_n 2, 1) := by decide +kernel
theorem dX0_isAhead_26 : decode cX0_isAhead 26 = .ok (.iaload, 1) := by decide +kernel
theorem dX0_isAhead_27 : decode cX0_isAhead 27 = .ok (.if_icmp .le 7, 3) := by decide +kernel
theorem dX0_isAhead_30 : decode cX0_isAhead 30 = .ok (.iconst 1, 1) := by decide +kernel
theorem dX0_isAhead_31 : decode cX0_isAhead 31 = .ok (.goto 4, 3) := by decide +kernel
theorem dX0_isAhead_34 : decode cX0_isAhead 34 = .ok (.iconst 0, 1) := by decide +kernel
theorem dX0_isAhead_35 : decode cX0_isAhead 35 = .ok (.ireturn, 1) := by decide +kernel
theorem dX0_isAhead_36 : decode cX0_isAhead 36 = .ok (.aload_n 0, 1) := by decide +kernel
theorem dX0_isAhead_37 : decode cX0_isAhead 37 = .ok (.getfield 15, 3) := by decide +kernel
theorem dX0_isAhead_40 : decode cX0_isAhead 40 = .ok (.iload_n 1, 1) := by decide +kernel
theorem dX0_isAhead_41 : decode cX0_isAhead 41 = .ok (.iaload, 1) := by decide +kernel
theorem dX0_isAhead_42 : decode cX0_isAhead 42 = .ok (.aload_n 0, 1) := by decide +kernel
theorem dX0_isAhead_43 : decode cX0_isAhead 43 = .ok (.getfield 15, 3) := by decide +kernel
theorem dX0_isAhead_46 : decode cX0_isAhead 46 = .ok (.iload_n 2, 1) := by decide +kernel
theorem dX0_isAhead_47 : decode cX0_isAhead 47 = .ok (.iaload, 1) := by decide +kernel
theorem dX0_isAhead_48 : decode cX0_isAhead 48 = .ok (.if_icmp .eq 24, 3) := by decide +kernel
theorem dX0_isAhead_51 : decode cX0_isAhead 51 = .ok (.aload_n 0, 1) := by decide +kernel
theorem dX0_isAhead_52 : decode cX0_isAhead 52 = .ok (.getfield 15, 3) := by decide +kernel
theorem dX0_isAhead_55 : decode cX0_isAhead 55 = .ok (.iload_n 1, 1) := by decide +kernel
theorem dX0_isAhead_56 : decode cX0_isAhead 56 = .ok (.iaload, 1) := by decide +kernel
theorem dX0_isAhead_57 : decode cX0_isAhead 57 = .ok (.aload_n 0, 1) := by decide +kernel
theorem dX0_isAhead_58 : decode cX0_isAhead 58 = .ok (.getfield 15, 3) := by decide +kernel
theorem dX0_isAhead_61 : decode cX0_isAhead 61 = .ok (.iload_n 2, 1) := by decide +kernel
theorem dX0_isAhead_62 : decode cX0_isAhead 62 = .ok (.iaload, 1) := by decide +kernel
theorem dX0_isAhead_63 : decode cX0_isAhead 63 = .ok (.if_icmp .le 7, 3) := by decide +kernel
theorem dX0_isAhead_66 : decode cX0_isAhead 66 = .ok (.iconst 1, 1) := by decide +kernel
theorem dX0_isAhead_67 : decode cX0_isAhead 67 = .ok (.goto 4, 3) := by decide +kernel
theorem dX0_isAhead_70 : decode cX0_isAhead 70 = .ok (.iconst 0, 1) := by decide +kernel
theorem dX0_isAhead_71 : decode cX0_isAhead 71 = .ok (.ireturn, 1) := by decide +kernel
theorem dX0_isAhead_72 : decode cX0_isAhead 72 = .ok (.iload_n 1, 1) := by decide +kernel
theorem dX0_isAhead_73 : decode cX0_isAhead 73 = .ok (.iload_n 2, 1) := by decide +kernel
theorem dX0_isAhead_74 : decode cX0_isAhead 74 = .ok (.if_icmp .ge 7, 3) := by decide +kernel
theorem dX0_isAhead_77 : decode cX0_isAhead 77 = .ok (.iconst 1, 1) := by decide +kernel
theorem dX0_isAhead_78 : decode cX0_isAhead 78 = .ok (.goto 4, 3) := by decide +kernel
theorem dX0_isAhead_81 : decode cX0_isAhead 81 = .ok (.iconst 0, 1) := by decide +kernel
theorem dX0_isAhead_82 : decode cX0_isAhead 82 = .ok (.ireturn, 1) := by decide +kernel
set_option maxRecDepth 20000 in
theorem ggX0_standingAt_X0_place : GoodIn wsX0_standingAt wsX0_place := goodIn_r _ [7, 1, 2, 8, 9, 10, 6, 11, 12, 13, 14, 15, 16, 17, 18, 19, 20, 21] (by decide +kernel) (by decide +kernel)
set_option maxRecDepth 20000 in
theorem gX0_standingAt_X0_place : GoodIn wsX0_standingAt (wsV RX0 84 RX0 yX0_place wsX0_place) := goodIn_app (goodIn_of _ (by decide +kernel)) ggX0_standingAt_X0_place
theorem dX0_standingAt_0 : decode cX0_standingAt 0 = .ok (.iconst 0, 1) := by decide +kernel
theorem dX0_standingAt_1 : decode cX0_standingAt 1 = .ok (.istore_n 3, 1) := by decide +kernel
theorem dX0_standingAt_2 : decode cX0_standingAt 2 = .ok (.iload_n 3, 1) := by decide +kernel
theorem dX0_standingAt_3 : decode cX0_standingAt 3 = .ok (.aload_n 0, 1) := by decide +kernel
theorem dX0_standingAt_4 : decode cX0_standingAt 4 = .ok (.getfield 33, 3) := by decide +kernel
theorem dX0_standingAt_7 : decode cX0_standingAt 7 = .ok (.if_icmp .ge 30, 3) := by decide +kernel
theorem dX0_standingAt_10 : decode cX0_standingAt 10 = .ok (.aload_n 0, 1) := by decide +kernel
theorem dX0_standingAt_11 : decode cX0_standingAt 11 = .ok (.getfield 9, 3) := by decide +kernel
theorem dX0_standingAt_14 : decode cX0_standingAt 14 = .ok (.iload_n 3, 1) := by decide +kernel
theorem dX0_standingAt_15 : decode cX0_standingAt 15 = .ok (.iaload, 1) := by decide +kernel
theorem dX0_standingAt_16 : decode cX0_standingAt 16 = .ok (.iload_n 1, 1) := by decide +kernel
theorem dX0_standingAt_17 : decode cX0_standingAt 17 = .ok (.if_icmp .ne 14, 3) := by decide +kernel
theorem dX0_standingAt_20 : decode cX0_standingAt 20 = .ok (.aload_n 0, 1) := by decide +kernel
theorem dX0_standingAt_21 : decode cX0_standingAt 21 = .ok (.iload_n 3, 1) := by decide +kernel
theorem dX0_standingAt_22 : decode cX0_standingAt 22 = .ok (.invokevirtual 84, 3) := by decide +kernel
theorem dX0_standingAt_25 : decode cX0_standingAt 25 = .ok (.iload_n 2, 1) := by decide +kernel
theorem dX0_standingAt_26 : decode cX0_standingAt 26 = .ok (.if_icmp .ne 5, 3) := by decide +kernel
theorem dX0_standingAt_29 : decode cX0_standingAt 29 = .ok (.iload_n 3, 1) := by decide +kernel
theorem dX0_standingAt_30 : decode cX0_standingAt 30 = .ok (.ireturn, 1) := by decide +kernel
theorem dX0_standingAt_31 : decode cX0_standingAt 31 = .ok (.iinc 3 1, 3) := by decide +kernel
theorem dX0_standingAt_34 : decode cX0_standingAt 34 = .ok (.goto (-32), 3) := by decide +kernel
theorem dX0_standingAt_37 : decode cX0_standingAt 37 = .ok (.iconst (-1), 1) := by decide +kernel
theorem dX0_standingAt_38 : decode cX0_standingAt 38 = .ok (.ireturn, 1) := by decide +kernel
theorem dX0_highest_0 : decode cX0_highest 0 = .ok (.iconst 0, 1) := by decide +kernel
theorem dX0_highest_1 : decode cX0_highest 1 = .ok (.istore_n 1, 1) := by decide +kernel
