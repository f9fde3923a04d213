theorem inlX0 : ∀ w ∈ wsX00, w ∈ wsL_law := fun _ h => List.mem_append_left _ (List.mem_append_right _ h)
theorem inlX1 : ∀ w ∈ wsX10, w ∈ wsL_law := fun _ h => List.mem_append_left _ (List.mem_append_left _ (List.mem_append_left _ (List.mem_append_left _ (List.mem_append_right _ h))))
theorem inlX2 : ∀ w ∈ wsX20, w ∈ wsL_law := fun _ h => List.mem_append_left _ (List.mem_append_left _ (List.mem_append_right _ h))
theorem inlX3 : ∀ w ∈ wsX30, w ∈ wsL_law := fun _ h => List.mem_append_left _ (List.mem_append_left _ (List.mem_append_left _ (List.mem_append_right _ h)))
theorem inlX4 : ∀ w ∈ wsX40, w ∈ wsL_law := fun _ h => List.mem_append_left _ (List.mem_append_left _ (List.mem_append_left _ (List.mem_append_left _ (List.mem_append_left _ (List.mem_append_right _ h)))))
theorem inlX5 : ∀ w ∈ wsX50, w ∈ wsL_law := fun _ h => List.mem_append_left _ (List.mem_append_left _ (List.mem_append_left _ (List.mem_append_left _ (List.mem_append_left _ (List.mem_append_left _ (List.mem_append_left _ (List.mem_append_left _ (List.mem_append_right _ h))))))))
theorem inlX6 : ∀ w ∈ wsX60, w ∈ wsL_law := fun _ h => List.mem_append_left _ (List.mem_append_left _ (List.mem_append_left _ (List.mem_append_left _ (List.mem_append_left _ (List.mem_append_left _ (List.mem_append_left _ (List.mem_append_right _ h)))))))
theorem inJx145de : ∀ w ∈ wsJx145de0, w ∈ lw_tbl := by decide +kernel
theorem inJx8e188 : ∀ w ∈ wsJx8e1880, w ∈ lw_tbl := by decide +kernel
theorem inJ6 : ∀ w ∈ wsJ60, w ∈ lw_tbl := by decide +kernel
theorem inJxab1ab : ∀ w ∈ wsJxab1ab0, w ∈ lw_tbl := by decide +kernel
theorem inJ9 : ∀ w ∈ wsJ90, w ∈ lw_tbl := by decide +kernel
theorem inJ10 : ∀ w ∈ wsJ100, w ∈ lw_tbl := by decide +kernel
theorem inJxa1e45 : ∀ w ∈ wsJxa1e450, w ∈ lw_tbl := by decide +kernel
theorem inJxc12de : ∀ w ∈ wsJxc12de0, w ∈ lw_tbl := by decide +kernel
theorem inlJx4a65c : ∀ w ∈ wsJx4a65c0, w ∈ wsL_law := fun _ h => List.mem_append_left _ (List.mem_append_left _ (List.mem_append_left _ (List.mem_append_left _ (List.mem_append_left _ (List.mem_append_left _ (List.mem_append_right _ h))))))
theorem inJ7 : ∀ w ∈ wsJ70, w ∈ lw_tbl := by decide +kernel
theorem inJx5ef63 : ∀ w ∈ wsJx5ef630, w ∈ lw_tbl := by decide +kernel
theorem inJxbd725 : ∀ w ∈ wsJxbd7250, w ∈ lw_tbl := by decide +kernel
theorem inJ15 : ∀ w ∈ wsJ150, w ∈ lw_tbl := by decide +kernel
theorem inJxf0a74 : ∀ w ∈ wsJxf0a740, w ∈ lw_tbl := by decide +kernel
theorem inJxa66e6 : ∀ w ∈ wsJxa66e60, w ∈ lw_tbl := by decide +kernel
theorem inJ8 : ∀ w ∈ wsJ80, w ∈ lw_tbl := by decide +kernel
theorem inJ3 : ∀ w ∈ wsJ30, w ∈ lw_tbl := by decide +kernel
set_option maxRecDepth 20000 in
theorem ggX0_init_X5_digitsOf : GoodIn wsX0_init wsX5_digitsOf := goodIn_r _ [10, 11, 12, 9, 13, 14, 15, 16] (by decide +kernel) (by decide +kernel)
set_option maxRecDepth 20000 in
theorem gX0_init_X5_digitsOf_n15 : GoodIn wsX0_init (wsX5_digitsOf) := ggX0_init_X5_digitsOf
theorem dX0_init_0 : decode cX0_init 0 = .ok (.aload_n 0, 1) := by decide +kernel
theorem dX0_init_1 : decode cX0_init 1 = .ok (.invokespecial 3, 3) := by decide +kernel
theorem dX0_init_4 : decode cX0_init 4 = .ok (.aload_n 0, 1) := by decide +kernel
theorem dX0_init_5 : decode cX0_init 5 = .ok (.iload_n 1, 1) := by decide +kernel
theorem dX0_init_6 : decode cX0_init 6 = .ok (.putfield 9, 3) := by decide +kernel
theorem dX0_init_9 : decode cX0_init 9 = .ok (.aload_n 0, 1) := by decide +kernel
theorem dX0_init_10 : decode cX0_init 10 = .ok (.iload_n 1, 1) := by decide +kernel
theorem dX0_init_11 : decode cX0_init 11 = .ok (.invokestatic 15, 3) := by decide +kernel
theorem dX0_init_14 : decode cX0_init 14 = .ok (.putfield 19, 3) := by decide +kernel
theorem dX0_init_17 : decode cX0_init 17 = .ok (.aload_n 0, 1) := by decide +kernel
theorem dX0_init_18 : decode cX0_init 18 = .ok (.iload_n 2, 1) := by decide +kernel
theorem dX0_init_19 : decode cX0_init 19 = .ok (.putfield 22, 3) := by decide +kernel
theorem dX0_init_22 : decode cX0_init 22 = .ok (.aload_n 0, 1) := by decide +kernel
theorem dX0_init_23 : decode cX0_init 23 = .ok (.iload_n 3, 1) := by decide +kernel
theorem dX0_init_24 : decode cX0_init 24 = .ok (.putfield 25, 3) := by decide +kernel
theorem dX0_init_27 : decode cX0_init 27 = .ok (.return_, 1) := by decide +kernel
set_option maxRecDepth 20000 in
theorem ggX0_keyOf_X5_digit : GoodIn wsX0_keyOf wsX5_digit := goodIn_r _ [6] (by decide +kernel) (by decide +kernel)
set_option maxRecDepth 20000 in
theorem gX0_keyOf_X5_digit_n28 : GoodIn wsX0_keyOf (wsX5_digit) := ggX0_keyOf_X5_digit
theorem dX0_keyOf_0 : decode cX0_keyOf 0 = .ok (.aload_n 0, 1) := by decide +kernel
theorem dX0_keyOf_1 : decode cX0_keyOf 1 = .ok (.getfield 22, 3) := by decide +kernel
theorem dX0_keyOf_4 : decode cX0_keyOf 4 = .ok (.bipush (-9), 2) := by decide +kernel
theorem dX0_keyOf_6 : decode cX0_keyOf 6 = .ok (.if_icmp .eq 21, 3) := by decide +kernel
theorem dX0_keyOf_9 : decode cX0_keyOf 9 = .ok (.iload_n 1, 1) := by decide +kernel
theorem dX0_keyOf_10 : decode cX0_keyOf 10 = .ok (.aload_n 0, 1) := by decide +kernel
theorem dX0_keyOf_11 : decode cX0_keyOf 11 = .ok (.getfield 22, 3) := by decide +kernel
theorem dX0_keyOf_14 : decode cX0_keyOf 14 = .ok (.invokestatic 28, 3) := by decide +kernel
theorem dX0_keyOf_17 : decode cX0_keyOf 17 = .ok (.aload_n 0, 1) := by decide +kernel
theorem dX0_keyOf_18 : decode cX0_keyOf 18 = .ok (.getfield 25, 3) := by decide +kernel
theorem dX0_keyOf_21 : decode cX0_keyOf 21 = .ok (.if_icmp .eq 6, 3) := by decide +kernel
theorem dX0_keyOf_24 : decode cX0_keyOf 24 = .ok (.bipush (-9), 2) := by decide +kernel
theorem dX0_keyOf_26 : decode cX0_keyOf 26 = .ok (.ireturn, 1) := by decide +kernel
theorem dX0_keyOf_27 : decode cX0_keyOf 27 = .ok (.iload_n 1, 1) := by decide +kernel
theorem dX0_keyOf_28 : decode cX0_keyOf 28 = .ok (.aload_n 0, 1) := by decide +kernel
theorem dX0_keyOf_29 : decode cX0_keyOf 29 = .ok (.getfield 19, 3) := by decide +kernel
theorem dX0_keyOf_32 : decode cX0_keyOf 32 = .ok (.iand, 1) := by decide +kernel
theorem dX0_keyOf_33 : decode cX0_keyOf 33 = .ok (.ireturn, 1) := by decide +kernel
theorem dX0_changeWorth_0 : decode cX0_changeWorth 0 = .ok (.aload_n 0, 1) := by decide +kernel
theorem dX0_changeWorth_1 : decode cX0_changeWorth 1 = .ok (.getfield 32, 3) := by decide +kernel
theorem dX0_changeWorth_4 : decode cX0_changeWorth 4 = .ok (.istore_n 2, 1) := by decide +kernel
theorem dX0_changeWorth_5 : decode cX0_changeWorth 5 = .ok (.aload_n 0, 1) := by decide +kernel
theorem dX0_changeWorth_6 : decode cX0_changeWorth 6 = .ok (.iload_n 1, 1) := by decide +kernel
theorem dX0_changeWorth_7 : decode cX0_changeWorth 7 = .ok (.putfield 32, 3) := by decide +kernel
theorem dX0_changeWorth_10 : decode cX0_changeWorth 10 = .ok (.iload_n 2, 1) := by decide +kernel
theorem dX0_changeWorth_11 : decode cX0_changeWorth 11 = .ok (.ireturn, 1) := by decide +kernel
theorem dX1_init_0 : decode cX1_init 0 = .ok (.aload_n 0, 1) := by decide +kernel
theorem dX1_init_1 : decode cX1_init 1 = .ok (.invokespecial 3, 3) := by decide +kernel
theorem dX1_init_4 : decode cX1_init 4 = .ok (.aload_n 0, 1) := by decide +kernel
theorem dX1_init_5 : decode cX1_init 5 = .ok (.sipush 2000, 3) := by decide +kernel
theorem dX1_init_8 : decode cX1_init 8 = .ok (.newarray .int, 2) := by decide +kernel
theorem dX1_init_10 : decode cX1_init 10 = .ok (.putfield 9, 3) := by decide +kernel
theorem dX1_init_13 : decode cX1_init 13 = .ok (.return_, 1) := by decide +kernel
theorem dX1_makeEmpty_0 : decode cX1_makeEmpty 0 = .ok (.aload_n 0, 1) := by decide +kernel
theorem dX1_makeEmpty_1 : decode cX1_makeEmpty 1 = .ok (.iconst 0, 1) := by decide +kernel
theorem dX1_makeEmpty_2 : decode cX1_makeEmpty 2 = .ok (.putfield 15, 3) := by decide +kernel
theorem dX1_makeEmpty_5 : decode cX1_makeEmpty 5 = .ok (.return_, 1) := by decide +kernel
set_option maxRecDepth 20000 in
theorem ggX1_put_X1_howManyBelow : GoodIn wsX1_put wsX1_howManyBelow := goodIn_r _ [11, 1, 2, 12, 13, 14, 15, 16, 17, 18, 19, 20, 21, 22] (by decide +kernel) (by decide +kernel)
set_option maxRecDepth 20000 in
theorem gX1_put_X1_howManyBelow : GoodIn wsX1_put (wsV RX1 19 RX1 yX1_howManyBelow wsX1_howManyBelow) := goodIn_app (goodIn_of _ (by decide +kernel)) ggX1_put_X1_howManyBelow
theorem dX1_put_0 : decode cX1_put 0 = .ok (.aload_n 0, 1) := by decide +kernel
theorem dX1_put_1 : decode cX1_put 1 = .ok (.iload_n 1, 1) := by decide +kernel
theorem dX1_put_2 : decode cX1_put 2 = .ok (.invokevirtual 19, 3) := by decide +kernel
theorem dX1_put_5 : decode cX1_put 5 = .ok (.istore_n 2, 1) := by decide +kernel
theorem dX1_put_6 : decode cX1_put 6 = .ok (.iload_n 2, 1) := by decide +kernel
theorem dX1_put_7 : decode cX1_put 7 = .ok (.aload_n 0, 1) := by decide +kernel
theorem dX1_put_8 : decode cX1_put 8 = .ok (.getfield 15, 3) := by decide +kernel
theorem dX1_put_11 : decode cX1_put 11 = .ok (.if_icmp .ge 17, 3) := by decide +kernel
theorem dX1_put_14 : decode cX1_put 14 = .ok (.aload_n 0, 1) := by decide +kernel
theorem dX1_put_15 : decode cX1_put 15 = .ok (.getfield 9, 3) := by decide +kernel
theorem dX1_put_18 : decode cX1_put 18 = .ok (.iload_n 2, 1) := by decide +kernel
theorem dX1_put_19 : decode cX1_put 19 = .ok (.iaload, 1) := by decide +kernel
theorem dX1_put_20 : decode cX1_put 20 = .ok (.iload_n 1, 1) := by decide +kernel
theorem dX1_put_21 : decode cX1_put 21 = .ok (.if_icmp .ne 7, 3) := by decide +kernel
theorem dX1_put_24 : decode cX1_put 24 = .ok (.iconst 1, 1) := by decide +kernel
theorem dX1_put_25 : decode cX1_put 25 = .ok (.goto 4, 3) := by decide +kernel
theorem dX1_put_28 : decode cX1_put 28 = .ok (.iconst 0, 1) := by decide +kernel
theorem dX1_put_29 : decode cX1_put 29 = .ok (.istore_n 3, 1) := by decide +kernel
theorem dX1_put_30 : decode cX1_put 30 = .ok (.iload_n 3, 1) := by decide +kernel
theorem dX1_put_31 : decode cX1_put 31 = .ok (.ifCond .ne 15, 3) := by decide +kernel
theorem dX1_put_34 : decode cX1_put 34 = .ok (.aload_n 0, 1) := by decide +kernel
theorem dX1_put_35 : decode cX1_put 35 = .ok (.getfield 15, 3) := by decide +kernel
theorem dX1_put_38 : decode cX1_put 38 = .ok (.aload_n 0, 1) := by decide +kernel
theorem dX1_put_39 : decode cX1_put 39 = .ok (.getfield 9, 3) := by decide +kernel
theorem dX1_put_42 : decode cX1_put 42 = .ok (.arraylength, 1) := by decide +kernel
theorem dX1_put_43 : decode cX1_put 43 = .ok (.if_icmp .lt 4, 3) := by decide +kernel
theorem dX1_put_46 : decode cX1_put 46 = .ok (.return_, 1) := by decide +kernel
theorem dX1_put_47 : decode cX1_put 47 = .ok (.aload_n 0, 1) := by decide +kernel
theorem dX1_put_48 : decode cX1_put 48 = .ok (.getfield 9, 3) := by decide +kernel
theorem dX1_put_51 : decode cX1_put 51 = .ok (.iload_n 2, 1) := by decide +kernel
theorem dX1_put_52 : decode cX1_put 52 = .ok (.aload_n 0, 1) := by decide +kernel
theorem dX1_put_53 : decode cX1_put 53 = .ok (.getfield 9, 3) := by decide +kernel
theorem dX1_put_56 : decode cX1_put 56 = .ok (.iload_n 2, 1) := by decide +kernel
theorem dX1_put_57 : decode cX1_put 57 = .ok (.iconst 1, 1) := by decide +kernel
theorem dX1_put_58 : decode cX1_put 58 = .ok (.iadd, 1) := by decide +kernel
theorem dX1_put_59 : decode cX1_put 59 = .ok (.aload_n 0, 1) := by decide +kernel
theorem dX1_put_60 : decode cX1_put 60 = .ok (.getfield 15, 3) := by decide +kernel
theorem dX1_put_63 : decode cX1_put 63 = .ok (.iload_n 2, 1) := by decide +kernel
theorem dX1_put_64 : decode cX1_put 64 = .ok (.isub, 1) := by decide +kernel
theorem dX1_put_65 : decode cX1_put 65 = .ok (.invokestatic 23, 3) := by decide +kernel
theorem dX1_put_68 : decode cX1_put 68 = .ok (.aload_n 0, 1) := by decide +kernel
theorem dX1_put_69 : decode cX1_put 69 = .ok (.getfield 9, 3) := by decide +kernel
theorem dX1_put_72 : decode cX1_put 72 = .ok (.iload_n 2, 1) := by decide +kernel
theorem dX1_put_73 : decode cX1_put 73 = .ok (.iload_n 1, 1) := by decide +kernel
theorem dX1_put_74 : decode cX1_put 74 = .ok (.iastore, 1) := by decide +kernel
theorem dX1_put_75 : decode cX1_put 75 = .ok (.aload_n 0, 1) := by decide +kernel
theorem dX1_put_76 : decode cX1_put 76 = .ok (.dup, 1) := by decide +kernel
theorem dX1_put_77 : decode cX1_put 77 = .ok (.getfield 15, 3) := by decide +kernel
theorem dX1_put_80 : decode cX1_put 80 = .ok (.iconst 1, 1) := by decide +kernel
theorem dX1_put_81 : decode cX1_put 81 = .ok (.iadd, 1) := by decide +kernel
theorem dX1_put_82 : decode cX1_put 82 = .ok (.putfield 15, 3) := by decide +kernel
theorem dX1_put_85 : decode cX1_put 85 = .ok (.return_, 1) := by decide +kernel
set_option maxRecDepth 20000 in
theorem ggX1_howManyBelow_J6_highestOneBit_0f7a4 : GoodIn wsX1_howManyBelow wsJ6_highestOneBit_0f7a4 := goodIn_r _ [6, 7, 8, 9, 5, 10, 11] (by decide +kernel) (by decide +kernel)
set_option maxRecDepth 20000 in
theorem gX1_howManyBelow_J6_highestOneBit_0f7a4 : GoodIn wsX1_howManyBelow (va_wsS RX1 29 yJ6_highestOneBit_0f7a4 wsJ6_highestOneBit_0f7a4) := goodIn_app (goodIn_of _ (by decide +kernel)) ggX1_howManyBelow_J6_highestOneBit_0f7a4
theorem dX1_howManyBelow_0 : decode cX1_howManyBelow 0 = .ok (.iconst 0, 1) := by decide +kernel
theorem dX1_howManyBelow_1 : decode cX1_howManyBelow 1 = .ok (.istore_n 2, 1) := by decide +kernel
theorem dX1_howManyBelow_2 : decode cX1_howManyBelow 2 = .ok (.aload_n 0, 1) := by decide +kernel
theorem dX1_howManyBelow_3 : decode cX1_howManyBelow 3 = .ok (.getfield 15, 3) := by decide +kernel
theorem dX1_howManyBelow_6 : decode cX1_howManyBelow 6 = .ok (.invokestatic 29, 3) := by decide +kernel
theorem dX1_howManyBelow_9 : decode cX1_howManyBelow 9 = .ok (.istore_n 3, 1) := by decide +kernel
theorem dX1_howManyBelow_10 : decode cX1_howManyBelow 10 = .ok (.iload_n 3, 1) := by decide +kernel
theorem dX1_howManyBelow_11 : decode cX1_howManyBelow 11 = .ok (.ifCond .le 38, 3) := by decide +kernel
theorem dX1_howManyBelow_14 : decode cX1_howManyBelow 14 = .ok (.iload_n 2, 1) := by decide +kernel
theorem dX1_howManyBelow_15 : decode cX1_howManyBelow 15 = .ok (.iload_n 3, 1) := by decide +kernel
theorem dX1_howManyBelow_16 : decode cX1_howManyBelow 16 = .ok (.iadd, 1) := by decide +kernel
theorem dX1_howManyBelow_17 : decode cX1_howManyBelow 17 = .ok (.aload_n 0, 1) := by decide +kernel
theorem dX1_howManyBelow_18 : decode cX1_howManyBelow 18 = .ok (.getfield 15, 3) := by decide +kernel
theorem dX1_howManyBelow_21 : decode cX1_howManyBelow 21 = .ok (.if_icmp .gt 21, 3) := by decide +kernel
theorem dX1_howManyBelow_24 : decode cX1_howManyBelow 24 = .ok (.aload_n 0, 1) := by decide +kernel
theorem dX1_howManyBelow_25 : decode cX1_howManyBelow 25 = .ok (.getfield 9, 3) := by decide +kernel
theorem dX1_howManyBelow_28 : decode cX1_howManyBelow 28 = .ok (.iload_n 2, 1) := by decide +kernel
theorem dX1_howManyBelow_29 : decode cX1_howManyBelow 29 = .ok (.iload_n 3, 1) := by decide +kernel
theorem dX1_howManyBelow_30 : decode cX1_howManyBelow 30 = .ok (.iadd, 1) := by decide +kernel
theorem dX1_howManyBelow_31 : decode cX1_howManyBelow 31 = .ok (.iconst 1, 1) := by decide +kernel
theorem dX1_howManyBelow_32 : decode cX1_howManyBelow 32 = .ok (.isub, 1) := by decide +kernel
theorem dX1_howManyBelow_33 : decode cX1_howManyBelow 33 = .ok (.iaload, 1) := by decide +kernel
theorem dX1_howManyBelow_34 : decode cX1_howManyBelow 34 = .ok (.iload_n 1, 1) := by decide +kernel
theorem dX1_howManyBelow_35 : decode cX1_howManyBelow 35 = .ok (.if_icmp .ge 7, 3) := by decide +kernel
theorem dX1_howManyBelow_38 : decode cX1_howManyBelow 38 = .ok (.iload_n 2, 1) := by decide +kernel
theorem dX1_howManyBelow_39 : decode cX1_howManyBelow 39 = .ok (.iload_n 3, 1) := by decide +kernel
theorem dX1_howManyBelow_40 : decode cX1_howManyBelow 40 = .ok (.iadd, 1) := by decide +kernel
theorem dX1_howManyBelow_41 : decode cX1_howManyBelow 41 = .ok (.istore_n 2, 1) := by decide +kernel
theorem dX1_howManyBelow_42 : decode cX1_howManyBelow 42 = .ok (.iload_n 3, 1) := by decide +kernel
theorem dX1_howManyBelow_43 : decode cX1_howManyBelow 43 = .ok (.iconst 1, 1) := by decide +kernel
theorem dX1_howManyBelow_44 : decode cX1_howManyBelow 44 = .ok (.ishr, 1) := by decide +kernel
theorem dX1_howManyBelow_45 : decode cX1_howManyBelow 45 = .ok (.istore_n 3, 1) := by decide +kernel
theorem dX1_howManyBelow_46 : decode cX1_howManyBelow 46 = .ok (.goto (-36), 3) := by decide +kernel
theorem dX1_howManyBelow_49 : decode cX1_howManyBelow 49 = .ok (.iload_n 2, 1) := by decide +kernel
theorem dX1_howManyBelow_50 : decode cX1_howManyBelow 50 = .ok (.ireturn, 1) := by decide +kernel
theorem dX2_init_0 : decode cX2_init 0 = .ok (.aload_n 0, 1) := by decide +kernel
theorem dX2_init_1 : decode cX2_init 1 = .ok (.invokespecial 1, 3) := by decide +kernel
theorem dX2_init_4 : decode cX2_init 4 = .ok (.aload_n 0, 1) := by decide +kernel
theorem dX2_init_5 : decode cX2_init 5 = .ok (.iload_n 1, 1) := by decide +kernel
theorem dX2_init_6 : decode cX2_init 6 = .ok (.putfield 7, 3) := by decide +kernel
theorem dX2_init_9 : decode cX2_init 9 = .ok (.aload_n 0, 1) := by decide +kernel
theorem dX2_init_10 : decode cX2_init 10 = .ok (.iload_n 2, 1) := by decide +kernel
theorem dX2_init_11 : decode cX2_init 11 = .ok (.putfield 13, 3) := by decide +kernel
theorem dX2_init_14 : decode cX2_init 14 = .ok (.aload_n 0, 1) := by decide +kernel
theorem dX2_init_15 : decode cX2_init 15 = .ok (.iload_n 3, 1) := by decide +kernel
theorem dX2_init_16 : decode cX2_init 16 = .ok (.putfield 16, 3) := by decide +kernel
theorem dX2_init_19 : decode cX2_init 19 = .ok (.return_, 1) := by decide +kernel
theorem dX2_isWithin_0 : decode cX2_isWithin 0 = .ok (.iload_n 1, 1) := by decide +kernel
theorem dX2_isWithin_1 : decode cX2_isWithin 1 = .ok (.aload_n 0, 1) := by decide +kernel
theorem dX2_isWithin_2 : decode cX2_isWithin 2 = .ok (.getfield 13, 3) := by decide +kernel
theorem dX2_isWithin_5 : decode cX2_isWithin 5 = .ok (.if_icmp .gt 15, 3) := by decide +kernel
theorem dX2_isWithin_8 : decode cX2_isWithin 8 = .ok (.aload_n 0, 1) := by decide +kernel
theorem dX2_isWithin_9 : decode cX2_isWithin 9 = .ok (.getfield 13, 3) := by decide +kernel
theorem dX2_isWithin_12 : decode cX2_isWithin 12 = .ok (.iload_n 2, 1) := by decide +kernel
theorem dX2_isWithin_13 : decode cX2_isWithin 13 = .ok (.if_icmp .gt 7, 3) := by decide +kernel
theorem dX2_isWithin_16 : decode cX2_isWithin 16 = .ok (.iconst 1, 1) := by decide +kernel
theorem dX2_isWithin_17 : decode cX2_isWithin 17 = .ok (.goto 4, 3) := by decide +kernel
theorem dX2_isWithin_20 : decode cX2_isWithin 20 = .ok (.iconst 0, 1) := by decide +kernel
theorem dX2_isWithin_21 : decode cX2_isWithin 21 = .ok (.ireturn, 1) := by decide +kernel
theorem dX3_init_0 : decode cX3_init 0 = .ok (.aload_n 0, 1) := by decide +kernel
theorem dX3_init_1 : decode cX3_init 1 = .ok (.invokespecial 1, 3) := by decide +kernel
theorem dX3_init_4 : decode cX3_init 4 = .ok (.aload_n 0, 1) := by decide +kernel
theorem dX3_init_5 : decode cX3_init 5 = .ok (.iload_n 1, 1) := by decide +kernel
theorem dX3_init_6 : decode cX3_init 6 = .ok (.putfield 7, 3) := by decide +kernel
theorem dX3_init_9 : decode cX3_init 9 = .ok (.aload_n 0, 1) := by decide +kernel
theorem dX3_init_10 : decode cX3_init 10 = .ok (.iload_n 2, 1) := by decide +kernel
theorem dX3_init_11 : decode cX3_init 11 = .ok (.putfield 13, 3) := by decide +kernel
theorem dX3_init_14 : decode cX3_init 14 = .ok (.aload_n 0, 1) := by decide +kernel
theorem dX3_init_15 : decode cX3_init 15 = .ok (.iload_n 2, 1) := by decide +kernel
theorem dX3_init_16 : decode cX3_init 16 = .ok (.putfield 16, 3) := by decide +kernel
theorem dX3_init_19 : decode cX3_init 19 = .ok (.return_, 1) := by decide +kernel
theorem dX3_takeSample_0 : decode cX3_takeSample 0 = .ok (.iload_n 1, 1) := by decide +kernel
theorem dX3_takeSample_1 : decode cX3_takeSample 1 = .ok (.aload_n 0, 1) := by decide +kernel
theorem dX3_takeSample_2 : decode cX3_takeSample 2 = .ok (.getfield 19, 3) := by decide +kernel
theorem dX3_takeSample_5 : decode cX3_takeSample 5 = .ok (.if_icmp .ge 7, 3) := by decide +kernel
theorem dX3_takeSample_8 : decode cX3_takeSample 8 = .ok (.iconst 1, 1) := by decide +kernel
theorem dX3_takeSample_9 : decode cX3_takeSample 9 = .ok (.goto 4, 3) := by decide +kernel
theorem dX3_takeSample_12 : decode cX3_takeSample 12 = .ok (.iconst 0, 1) := by decide +kernel
theorem dX3_takeSample_13 : decode cX3_takeSample 13 = .ok (.istore_n 3, 1) := by decide +kernel
theorem dX3_takeSample_14 : decode cX3_takeSample 14 = .ok (.iload_n 3, 1) := by decide +kernel
theorem dX3_takeSample_15 : decode cX3_takeSample 15 = .ok (.ifCond .eq 7, 3) := by decide +kernel
theorem dX3_takeSample_18 : decode cX3_takeSample 18 = .ok (.iload_n 1, 1) := by decide +kernel
theorem dX3_takeSample_19 : decode cX3_takeSample 19 = .ok (.goto 9, 3) := by decide +kernel
theorem dX3_takeSample_22 : decode cX3_takeSample 22 = .ok (.iload_n 1, 1) := by decide +kernel
theorem dX3_takeSample_23 : decode cX3_takeSample 23 = .ok (.aload_n 0, 1) := by decide +kernel
theorem dX3_takeSample_24 : decode cX3_takeSample 24 = .ok (.getfield 19, 3) := by decide +kernel
theorem dX3_takeSample_27 : decode cX3_takeSample 27 = .ok (.isub, 1) := by decide +kernel
theorem dX3_takeSample_28 : decode cX3_takeSample 28 = .ok (.istore 4, 2) := by decide +kernel
theorem dX3_takeSample_30 : decode cX3_takeSample 30 = .ok (.iload_n 3, 1) := by decide +kernel
theorem dX3_takeSample_31 : decode cX3_takeSample 31 = .ok (.ifCond .eq 13, 3) := by decide +kernel
theorem dX3_takeSample_34 : decode cX3_takeSample 34 = .ok (.aload_n 0, 1) := by decide +kernel
theorem dX3_takeSample_35 : decode cX3_takeSample 35 = .ok (.dup, 1) := by decide +kernel
theorem dX3_takeSample_36 : decode cX3_takeSample 36 = .ok (.getfield 22, 3) := by decide +kernel
theorem dX3_takeSample_39 : decode cX3_takeSample 39 = .ok (.iconst 1, 1) := by decide +kernel
theorem dX3_takeSample_40 : decode cX3_takeSample 40 = .ok (.iadd, 1) := by decide +kernel
theorem dX3_takeSample_41 : decode cX3_takeSample 41 = .ok (.putfield 22, 3) := by decide +kernel
theorem dX3_takeSample_44 : decode cX3_takeSample 44 = .ok (.aload_n 0, 1) := by decide +kernel
theorem dX3_takeSample_45 : decode cX3_takeSample 45 = .ok (.dup, 1) := by decide +kernel
theorem dX3_takeSample_46 : decode cX3_takeSample 46 = .ok (.getfield 25, 3) := by decide +kernel
theorem dX3_takeSample_49 : decode cX3_takeSample 49 = .ok (.iconst 1, 1) := by decide +kernel
theorem dX3_takeSample_50 : decode cX3_takeSample 50 = .ok (.iadd, 1) := by decide +kernel
theorem dX3_takeSample_51 : decode cX3_takeSample 51 = .ok (.putfield 25, 3) := by decide +kernel
theorem dX3_takeSample_54 : decode cX3_takeSample 54 = .ok (.aload_n 0, 1) := by decide +kernel
theorem dX3_takeSample_55 : decode cX3_takeSample 55 = .ok (.iload_n 1, 1) := by decide +kernel
theorem dX3_takeSample_56 : decode cX3_takeSample 56 = .ok (.putfield 19, 3) := by decide +kernel
theorem dX3_takeSample_59 : decode cX3_takeSample 59 = .ok (.aload_n 0, 1) := by decide +kernel
theorem dX3_takeSample_60 : decode cX3_takeSample 60 = .ok (.iload_n 2, 1) := by decide +kernel
theorem dX3_takeSample_61 : decode cX3_takeSample 61 = .ok (.putfield 16, 3) := by decide +kernel
theorem dX3_takeSample_64 : decode cX3_takeSample 64 = .ok (.iload 4, 2) := by decide +kernel
theorem dX3_takeSample_66 : decode cX3_takeSample 66 = .ok (.ireturn, 1) := by decide +kernel
theorem dX4_init_0 : decode cX4_init 0 = .ok (.aload_n 0, 1) := by decide +kernel
theorem dX4_init_1 : decode cX4_init 1 = .ok (.invokespecial 3, 3) := by decide +kernel
theorem dX4_init_4 : decode cX4_init 4 = .ok (.aload_n 0, 1) := by decide +kernel
theorem dX4_init_5 : decode cX4_init 5 = .ok (.sipush 200, 3) := by decide +kernel
theorem dX4_init_8 : decode cX4_init 8 = .ok (.newarray .int, 2) := by decide +kernel
theorem dX4_init_10 : decode cX4_init 10 = .ok (.putfield 9, 3) := by decide +kernel
theorem dX4_init_13 : decode cX4_init 13 = .ok (.aload_n 0, 1) := by decide +kernel
theorem dX4_init_14 : decode cX4_init 14 = .ok (.sipush 1200, 3) := by decide +kernel
theorem dX4_init_17 : decode cX4_init 17 = .ok (.newarray .int, 2) := by decide +kernel
theorem dX4_init_19 : decode cX4_init 19 = .ok (.putfield 15, 3) := by decide +kernel
theorem dX4_init_22 : decode cX4_init 22 = .ok (.iconst 0, 1) := by decide +kernel
theorem dX4_init_23 : decode cX4_init 23 = .ok (.istore_n 1, 1) := by decide +kernel
theorem dX4_init_24 : decode cX4_init 24 = .ok (.iload_n 1, 1) := by decide +kernel
theorem dX4_init_25 : decode cX4_init 25 = .ok (.bipush 6, 2) := by decide +kernel
theorem dX4_init_27 : decode cX4_init 27 = .ok (.if_icmp .ge 17, 3) := by decide +kernel
theorem dX4_init_30 : decode cX4_init 30 = .ok (.aload_n 0, 1) := by decide +kernel
theorem dX4_init_31 : decode cX4_init 31 = .ok (.getfield 15, 3) := by decide +kernel
theorem dX4_init_34 : decode cX4_init 34 = .ok (.iload_n 1, 1) := by decide +kernel
theorem dX4_init_35 : decode cX4_init 35 = .ok (.ldc 18, 2) := by decide +kernel
theorem dX4_init_37 : decode cX4_init 37 = .ok (.iastore, 1) := by decide +kernel
theorem dX4_init_38 : decode cX4_init 38 = .ok (.iinc 1 1, 3) := by decide +kernel
theorem dX4_init_41 : decode cX4_init 41 = .ok (.goto (-17), 3) := by decide +kernel
theorem dX4_init_44 : decode cX4_init 44 = .ok (.return_, 1) := by decide +kernel
theorem dX4_carryOn_0 : decode cX4_carryOn 0 = .ok (.iload_n 1, 1) := by decide +kernel
theorem dX4_carryOn_1 : decode cX4_carryOn 1 = .ok (.iconst 1, 1) := by decide +kernel
theorem dX4_carryOn_2 : decode cX4_carryOn 2 = .ok (.iadd, 1) := by decide +kernel
theorem dX4_carryOn_3 : decode cX4_carryOn 3 = .ok (.istore_n 3, 1) := by decide +kernel
theorem dX4_carryOn_4 : decode cX4_carryOn 4 = .ok (.iload_n 3, 1) := by decide +kernel
theorem dX4_carryOn_5 : decode cX4_carryOn 5 = .ok (.iload_n 2, 1) := by decide +kernel
theorem dX4_carryOn_6 : decode cX4_carryOn 6 = .ok (.if_icmp .gt 42, 3) := by decide +kernel
theorem dX4_carryOn_9 : decode cX4_carryOn 9 = .ok (.aload_n 0, 1) := by decide +kernel
theorem dX4_carryOn_10 : decode cX4_carryOn 10 = .ok (.getfield 9, 3) := by decide +kernel
theorem dX4_carryOn_13 : decode cX4_carryOn 13 = .ok (.iload_n 3, 1) := by decide +kernel
theorem dX4_carryOn_14 : decode cX4_carryOn 14 = .ok (.aload_n 0, 1) := by decide +kernel
theorem dX4_carryOn_15 : decode cX4_carryOn 15 = .ok (.getfield 9, 3) := by decide +kernel
theorem dX4_carryOn_18 : decode cX4_carryOn 18 = .ok (.iload_n 1, 1) := by decide +kernel
theorem dX4_carryOn_19 : decode cX4_carryOn 19 = .ok (.iaload, 1) := by decide +kernel
theorem dX4_carryOn_20 : decode cX4_carryOn 20 = .ok (.iastore, 1) := by decide +kernel
theorem dX4_carryOn_21 : decode cX4_carryOn 21 = .ok (.aload_n 0, 1) := by decide +kernel
theorem dX4_carryOn_22 : decode cX4_carryOn 22 = .ok (.getfield 15, 3) := by decide +kernel
theorem dX4_carryOn_25 : decode cX4_carryOn 25 = .ok (.iload_n 1, 1) := by decide +kernel
theorem dX4_carryOn_26 : decode cX4_carryOn 26 = .ok (.bipush 6, 2) := by decide +kernel
theorem dX4_carryOn_28 : decode cX4_carryOn 28 = .ok (.imul, 1) := by decide +kernel
theorem dX4_carryOn_29 : decode cX4_carryOn 29 = .ok (.aload_n 0, 1) := by decide +kernel
theorem dX4_carryOn_30 : decode cX4_carryOn 30 = .ok (.getfield 15, 3) := by decide +kernel
theorem dX4_carryOn_33 : decode cX4_carryOn 33 = .ok (.iload_n 3, 1) := by decide +kernel
theorem dX4_carryOn_34 : decode cX4_carryOn 34 = .ok (.bipush 6, 2) := by decide +kernel
theorem dX4_carryOn_36 : decode cX4_carryOn 36 = .ok (.imul, 1) := by decide +kernel
theorem dX4_carryOn_37 : decode cX4_carryOn 37 = .ok (.bipush 6, 2) := by decide +kernel
theorem dX4_carryOn_39 : decode cX4_carryOn 39 = .ok (.invokestatic 19, 3) := by decide +kernel
theorem dX4_carryOn_42 : decode cX4_carryOn 42 = .ok (.iinc 3 1, 3) := by decide +kernel
theorem dX4_carryOn_45 : decode cX4_carryOn 45 = .ok (.goto (-41), 3) := by decide +kernel
theorem dX4_carryOn_48 : decode cX4_carryOn 48 = .ok (.return_, 1) := by decide +kernel
set_option maxRecDepth 20000 in
theorem ggX4_isDropped_X5_hasBit : GoodIn wsX4_isDropped wsX5_hasBit := goodIn_r _ [4] (by decide +kernel) (by decide +kernel)
set_option maxRecDepth 20000 in
theorem gX4_isDropped_X5_hasBit_n25 : GoodIn wsX4_isDropped (wsX5_hasBit) := ggX4_isDropped_X5_hasBit
theorem dX4_isDropped_0 : decode cX4_isDropped 0 = .ok (.aload_n 0, 1) := by decide +kernel
theorem dX4_isDropped_1 : decode cX4_isDropped 1 = .ok (.getfield 9, 3) := by decide +kernel
theorem dX4_isDropped_4 : decode cX4_isDropped 4 = .ok (.iload_n 2, 1) := by decide +kernel
theorem dX4_isDropped_5 : decode cX4_isDropped 5 = .ok (.iaload, 1) := by decide +kernel
theorem dX4_isDropped_6 : decode cX4_isDropped 6 = .ok (.iload_n 1, 1) := by decide +kernel
theorem dX4_isDropped_7 : decode cX4_isDropped 7 = .ok (.invokestatic 25, 3) := by decide +kernel
theorem dX4_isDropped_10 : decode cX4_isDropped 10 = .ok (.ireturn, 1) := by decide +kernel
theorem dX4_setDropped_0 : decode cX4_setDropped 0 = .ok (.iconst 1, 1) := by decide +kernel
theorem dX4_setDropped_1 : decode cX4_setDropped 1 = .ok (.iload_n 1, 1) := by decide +kernel
theorem dX4_setDropped_2 : decode cX4_setDropped 2 = .ok (.ishl, 1) := by decide +kernel
theorem dX4_setDropped_3 : decode cX4_setDropped 3 = .ok (.istore 4, 2) := by decide +kernel
theorem dX4_setDropped_5 : decode cX4_setDropped 5 = .ok (.aload_n 0, 1) := by decide +kernel
theorem dX4_setDropped_6 : decode cX4_setDropped 6 = .ok (.getfield 9, 3) := by decide +kernel
theorem dX4_setDropped_9 : decode cX4_setDropped 9 = .ok (.iload_n 3, 1) := by decide +kernel
theorem dX4_setDropped_10 : decode cX4_setDropped 10 = .ok (.iload_n 2, 1) := by decide +kernel
theorem dX4_setDropped_11 : decode cX4_setDropped 11 = .ok (.ifCond .eq 15, 3) := by decide +kernel
theorem dX4_setDropped_14 : decode cX4_setDropped 14 = .ok (.aload_n 0, 1) := by decide +kernel
theorem dX4_setDropped_15 : decode cX4_setDropped 15 = .ok (.getfield 9, 3) := by decide +kernel
theorem dX4_setDropped_18 : decode cX4_setDropped 18 = .ok (.iload_n 3, 1) := by decide +kernel
theorem dX4_setDropped_19 : decode cX4_setDropped 19 = .ok (.iaload, 1) := by decide +kernel
theorem dX4_setDropped_20 : decode cX4_setDropped 20 = .ok (.iload 4, 2) := by decide +kernel
theorem dX4_setDropped_22 : decode cX4_setDropped 22 = .ok (.ior, 1) := by decide +kernel
theorem dX4_setDropped_23 : decode cX4_setDropped 23 = .ok (.goto 14, 3) := by decide +kernel
theorem dX4_setDropped_26 : decode cX4_setDropped 26 = .ok (.aload_n 0, 1) := by decide +kernel
theorem dX4_setDropped_27 : decode cX4_setDropped 27 = .ok (.getfield 9, 3) := by decide +kernel
theorem dX4_setDropped_30 : decode cX4_setDropped 30 = .ok (.iload_n 3, 1) := by decide +kernel
theorem dX4_setDropped_31 : decode cX4_setDropped 31 = .ok (.iaload, 1) := by decide +kernel
theorem dX4_setDropped_32 : decode cX4_setDropped 32 = .ok (.iload 4, 2) := by decide +kernel
theorem dX4_setDropped_34 : decode cX4_setDropped 34 = .ok (.iconst (-1), 1) := by decide +kernel
theorem dX4_setDropped_35 : decode cX4_setDropped 35 = .ok (.ixor, 1) := by decide +kernel
theorem dX4_setDropped_36 : decode cX4_setDropped 36 = .ok (.iand, 1) := by decide +kernel
theorem dX4_setDropped_37 : decode cX4_setDropped 37 = .ok (.iastore, 1) := by decide +kernel
theorem dX4_setDropped_38 : decode cX4_setDropped 38 = .ok (.return_, 1) := by decide +kernel
set_option maxRecDepth 20000 in
theorem ggX4_chiefOf_X5_digit : GoodIn wsX4_chiefOf wsX5_digit := goodIn_r _ [4] (by decide +kernel) (by decide +kernel)
set_option maxRecDepth 20000 in
theorem gX4_chiefOf_X5_digit_n29 : GoodIn wsX4_chiefOf (wsX5_digit) := ggX4_chiefOf_X5_digit
theorem dX4_chiefOf_0 : decode cX4_chiefOf 0 = .ok (.aload_n 0, 1) := by decide +kernel
theorem dX4_chiefOf_1 : decode cX4_chiefOf 1 = .ok (.getfield 15, 3) := by decide +kernel
theorem dX4_chiefOf_4 : decode cX4_chiefOf 4 = .ok (.iload_n 3, 1) := by decide +kernel
theorem dX4_chiefOf_5 : decode cX4_chiefOf 5 = .ok (.bipush 6, 2) := by decide +kernel
theorem dX4_chiefOf_7 : decode cX4_chiefOf 7 = .ok (.imul, 1) := by decide +kernel
theorem dX4_chiefOf_8 : decode cX4_chiefOf 8 = .ok (.iload_n 1, 1) := by decide +kernel
theorem dX4_chiefOf_9 : decode cX4_chiefOf 9 = .ok (.iadd, 1) := by decide +kernel
theorem dX4_chiefOf_10 : decode cX4_chiefOf 10 = .ok (.iaload, 1) := by decide +kernel
theorem dX4_chiefOf_11 : decode cX4_chiefOf 11 = .ok (.iload_n 2, 1) := by decide +kernel
theorem dX4_chiefOf_12 : decode cX4_chiefOf 12 = .ok (.invokestatic 29, 3) := by decide +kernel
theorem dX4_chiefOf_15 : decode cX4_chiefOf 15 = .ok (.ireturn, 1) := by decide +kernel
set_option maxRecDepth 20000 in
theorem ggX4_putTogether_X4_chiefOf : GoodIn wsX4_putTogether wsX4_chiefOf := goodIn_r _ [10, 5, 11, 12, 13, 16, 17] (by decide +kernel) (by decide +kernel)
set_option maxRecDepth 20000 in
theorem gX4_putTogether_X4_chiefOf : GoodIn wsX4_putTogether (wsV RX4 33 RX4 yX4_chiefOf wsX4_chiefOf) := goodIn_app (goodIn_of _ (by decide +kernel)) ggX4_putTogether_X4_chiefOf
set_option maxRecDepth 20000 in
theorem ggX4_putTogether_X5_atPlace : GoodIn wsX4_putTogether wsX5_atPlace := goodIn_r _ [15] (by decide +kernel) (by decide +kernel)
set_option maxRecDepth 20000 in
theorem gX4_putTogether_X5_atPlace_n42 : GoodIn wsX4_putTogether (wsX5_atPlace) := ggX4_putTogether_X5_atPlace
theorem dX4_putTogether_0 : decode cX4_putTogether 0 = .ok (.aload_n 0, 1) := by decide +kernel
theorem dX4_putTogether_1 : decode cX4_putTogether 1 = .ok (.iload_n 1, 1) := by decide +kernel
theorem dX4_putTogether_2 : decode cX4_putTogether 2 = .ok (.iload_n 2, 1) := by decide +kernel
theorem dX4_putTogether_3 : decode cX4_putTogether 3 = .ok (.iload 4, 2) := by decide +kernel
theorem dX4_putTogether_5 : decode cX4_putTogether 5 = .ok (.invokevirtual 33, 3) := by decide +kernel
theorem dX4_putTogether_8 : decode cX4_putTogether 8 = .ok (.istore 5, 2) := by decide +kernel
theorem dX4_putTogether_10 : decode cX4_putTogether 10 = .ok (.aload_n 0, 1) := by decide +kernel
theorem dX4_putTogether_11 : decode cX4_putTogether 11 = .ok (.iload_n 1, 1) := by decide +kernel
theorem dX4_putTogether_12 : decode cX4_putTogether 12 = .ok (.iload_n 3, 1) := by decide +kernel
theorem dX4_putTogether_13 : decode cX4_putTogether 13 = .ok (.iload 4, 2) := by decide +kernel
theorem dX4_putTogether_15 : decode cX4_putTogether 15 = .ok (.invokevirtual 33, 3) := by decide +kernel
theorem dX4_putTogether_18 : decode cX4_putTogether 18 = .ok (.istore 6, 2) := by decide +kernel
theorem dX4_putTogether_20 : decode cX4_putTogether 20 = .ok (.iload 5, 2) := by decide +kernel
theorem dX4_putTogether_22 : decode cX4_putTogether 22 = .ok (.iload 6, 2) := by decide +kernel
theorem dX4_putTogether_24 : decode cX4_putTogether 24 = .ok (.invokestatic 37, 3) := by decide +kernel
theorem dX4_putTogether_27 : decode cX4_putTogether 27 = .ok (.istore 7, 2) := by decide +kernel
theorem dX4_putTogether_29 : decode cX4_putTogether 29 = .ok (.iconst 0, 1) := by decide +kernel
theorem dX4_putTogether_30 : decode cX4_putTogether 30 = .ok (.istore 8, 2) := by decide +kernel
theorem dX4_putTogether_32 : decode cX4_putTogether 32 = .ok (.iconst 0, 1) := by decide +kernel
theorem dX4_putTogether_33 : decode cX4_putTogether 33 = .ok (.istore 9, 2) := by decide +kernel
theorem dX4_putTogether_35 : decode cX4_putTogether 35 = .ok (.iload 9, 2) := by decide +kernel
theorem dX4_putTogether_37 : decode cX4_putTogether 37 = .ok (.bipush 8, 2) := by decide +kernel
theorem dX4_putTogether_39 : decode cX4_putTogether 39 = .ok (.if_icmp .ge 63, 3) := by decide +kernel
theorem dX4_putTogether_42 : decode cX4_putTogether 42 = .ok (.aload_n 0, 1) := by decide +kernel
theorem dX4_putTogether_43 : decode cX4_putTogether 43 = .ok (.iload_n 1, 1) := by decide +kernel
theorem dX4_putTogether_44 : decode cX4_putTogether 44 = .ok (.iload 9, 2) := by decide +kernel
theorem dX4_putTogether_46 : decode cX4_putTogether 46 = .ok (.iload 4, 2) := by decide +kernel
theorem dX4_putTogether_48 : decode cX4_putTogether 48 = .ok (.invokevirtual 33, 3) := by decide +kernel
theorem dX4_putTogether_51 : decode cX4_putTogether 51 = .ok (.istore 10, 2) := by decide +kernel
theorem dX4_putTogether_53 : decode cX4_putTogether 53 = .ok (.iload 10, 2) := by decide +kernel
theorem dX4_putTogether_55 : decode cX4_putTogether 55 = .ok (.iload 5, 2) := by decide +kernel
theorem dX4_putTogether_57 : decode cX4_putTogether 57 = .ok (.if_icmp .eq 10, 3) := by decide +kernel
theorem dX4_putTogether_60 : decode cX4_putTogether 60 = .ok (.iload 10, 2) := by decide +kernel
theorem dX4_putTogether_62 : decode cX4_putTogether 62 = .ok (.iload 6, 2) := by decide +kernel
theorem dX4_putTogether_64 : decode cX4_putTogether 64 = .ok (.if_icmp .ne 7, 3) := by decide +kernel
theorem dX4_putTogether_67 : decode cX4_putTogether 67 = .ok (.iconst 1, 1) := by decide +kernel
theorem dX4_putTogether_68 : decode cX4_putTogether 68 = .ok (.goto 4, 3) := by decide +kernel
theorem dX4_putTogether_71 : decode cX4_putTogether 71 = .ok (.iconst 0, 1) := by decide +kernel
theorem dX4_putTogether_72 : decode cX4_putTogether 72 = .ok (.istore 11, 2) := by decide +kernel
theorem dX4_putTogether_74 : decode cX4_putTogether 74 = .ok (.iload 8, 2) := by decide +kernel
theorem dX4_putTogether_76 : decode cX4_putTogether 76 = .ok (.iload 11, 2) := by decide +kernel
theorem dX4_putTogether_78 : decode cX4_putTogether 78 = .ok (.ifCond .eq 8, 3) := by decide +kernel
theorem dX4_putTogether_81 : decode cX4_putTogether 81 = .ok (.iload 7, 2) := by decide +kernel
theorem dX4_putTogether_83 : decode cX4_putTogether 83 = .ok (.goto 5, 3) := by decide +kernel
theorem dX4_putTogether_86 : decode cX4_putTogether 86 = .ok (.iload 10, 2) := by decide +kernel
theorem dX4_putTogether_88 : decode cX4_putTogether 88 = .ok (.iload 9, 2) := by decide +kernel
theorem dX4_putTogether_90 : decode cX4_putTogether 90 = .ok (.invokestatic 42, 3) := by decide +kernel
theorem dX4_putTogether_93 : decode cX4_putTogether 93 = .ok (.ior, 1) := by decide +kernel
theorem dX4_putTogether_94 : decode cX4_putTogether 94 = .ok (.istore 8, 2) := by decide +kernel
theorem dX4_putTogether_96 : decode cX4_putTogether 96 = .ok (.iinc 9 1, 3) := by decide +kernel
theorem dX4_putTogether_99 : decode cX4_putTogether 99 = .ok (.goto (-64), 3) := by decide +kernel
theorem dX4_putTogether_102 : decode cX4_putTogether 102 = .ok (.aload_n 0, 1) := by decide +kernel
theorem dX4_putTogether_103 : decode cX4_putTogether 103 = .ok (.getfield 15, 3) := by decide +kernel
theorem dX4_putTogether_106 : decode cX4_putTogether 106 = .ok (.iload 4, 2) := by decide +kernel
theorem dX4_putTogether_108 : decode cX4_putTogether 108 = .ok (.bipush 6, 2) := by decide +kernel
theorem dX4_putTogether_110 : decode cX4_putTogether 110 = .ok (.imul, 1) := by decide +kernel
theorem dX4_putTogether_111 : decode cX4_putTogether 111 = .ok (.iload_n 1, 1) := by decide +kernel
theorem dX4_putTogether_112 : decode cX4_putTogether 112 = .ok (.iadd, 1) := by decide +kernel
theorem dX4_putTogether_113 : decode cX4_putTogether 113 = .ok (.iload 8, 2) := by decide +kernel
theorem dX4_putTogether_115 : decode cX4_putTogether 115 = .ok (.iastore, 1) := by decide +kernel
theorem dX4_putTogether_116 : decode cX4_putTogether 116 = .ok (.iload 7, 2) := by decide +kernel
theorem dX4_putTogether_118 : decode cX4_putTogether 118 = .ok (.ireturn, 1) := by decide +kernel
set_option maxRecDepth 20000 in
theorem ggX4_isAnyFolded_X5_hasBit : GoodIn wsX4_isAnyFolded wsX5_hasBit := goodIn_r _ [5] (by decide +kernel) (by decide +kernel)
set_option maxRecDepth 20000 in
theorem gX4_isAnyFolded_X5_hasBit_n25 : GoodIn wsX4_isAnyFolded (wsX5_hasBit) := ggX4_isAnyFolded_X5_hasBit
theorem dX4_isAnyFolded_0 : decode cX4_isAnyFolded 0 = .ok (.iconst 0, 1) := by decide +kernel
theorem dX4_isAnyFolded_1 : decode cX4_isAnyFolded 1 = .ok (.istore_n 3, 1) := by decide +kernel
theorem dX4_isAnyFolded_2 : decode cX4_isAnyFolded 2 = .ok (.iload_n 3, 1) := by decide +kernel
theorem dX4_isAnyFolded_3 : decode cX4_isAnyFolded 3 = .ok (.bipush 6, 2) := by decide +kernel
theorem dX4_isAnyFolded_5 : decode cX4_isAnyFolded 5 = .ok (.if_icmp .ge 35, 3) := by decide +kernel
theorem dX4_isAnyFolded_8 : decode cX4_isAnyFolded 8 = .ok (.iload_n 1, 1) := by decide +kernel
theorem dX4_isAnyFolded_9 : decode cX4_isAnyFolded 9 = .ok (.iload_n 3, 1) := by decide +kernel
theorem dX4_isAnyFolded_10 : decode cX4_isAnyFolded 10 = .ok (.invokestatic 25, 3) := by decide +kernel
theorem dX4_isAnyFolded_13 : decode cX4_isAnyFolded 13 = .ok (.ifCond .eq 21, 3) := by decide +kernel
theorem dX4_isAnyFolded_16 : decode cX4_isAnyFolded 16 = .ok (.aload_n 0, 1) := by decide +kernel
theorem dX4_isAnyFolded_17 : decode cX4_isAnyFolded 17 = .ok (.getfield 15, 3) := by decide +kernel
theorem dX4_isAnyFolded_20 : decode cX4_isAnyFolded 20 = .ok (.iload_n 2, 1) := by decide +kernel
theorem dX4_isAnyFolded_21 : decode cX4_isAnyFolded 21 = .ok (.bipush 6, 2) := by decide +kernel
theorem dX4_isAnyFolded_23 : decode cX4_isAnyFolded 23 = .ok (.imul, 1) := by decide +kernel
theorem dX4_isAnyFolded_24 : decode cX4_isAnyFolded 24 = .ok (.iload_n 3, 1) := by decide +kernel
theorem dX4_isAnyFolded_25 : decode cX4_isAnyFolded 25 = .ok (.iadd, 1) := by decide +kernel
theorem dX4_isAnyFolded_26 : decode cX4_isAnyFolded 26 = .ok (.iaload, 1) := by decide +kernel
theorem dX4_isAnyFolded_27 : decode cX4_isAnyFolded 27 = .ok (.ldc 18, 2) := by decide +kernel
theorem dX4_isAnyFolded_29 : decode cX4_isAnyFolded 29 = .ok (.if_icmp .eq 5, 3) := by decide +kernel
theorem dX4_isAnyFolded_32 : decode cX4_isAnyFolded 32 = .ok (.iconst 1, 1) := by decide +kernel
theorem dX4_isAnyFolded_33 : decode cX4_isAnyFolded 33 = .ok (.ireturn, 1) := by decide +kernel
theorem dX4_isAnyFolded_34 : decode cX4_isAnyFolded 34 = .ok (.iinc 3 1, 3) := by decide +kernel
theorem dX4_isAnyFolded_37 : decode cX4_isAnyFolded 37 = .ok (.goto (-35), 3) := by decide +kernel
theorem dX4_isAnyFolded_40 : decode cX4_isAnyFolded 40 = .ok (.iconst 0, 1) := by decide +kernel
theorem dX4_isAnyFolded_41 : decode cX4_isAnyFolded 41 = .ok (.ireturn, 1) := by decide +kernel
set_option maxRecDepth 20000 in
theorem ggX4_shorten_X4_isDropped : GoodIn wsX4_shorten wsX4_isDropped := goodIn_r _ [5, 6, 7, 8, 9, 19, 20] (by decide +kernel) (by decide +kernel)
set_option maxRecDepth 20000 in
theorem gX4_shorten_X4_isDropped : GoodIn wsX4_shorten (wsV RX4 45 RX4 yX4_isDropped wsX4_isDropped) := goodIn_app (goodIn_of _ (by decide +kernel)) ggX4_shorten_X4_isDropped
set_option maxRecDepth 20000 in
theorem ggX4_shorten_X5_digit : GoodIn wsX4_shorten wsX5_digit := goodIn_r _ [11] (by decide +kernel) (by decide +kernel)
set_option maxRecDepth 20000 in
theorem gX4_shorten_X5_digit_n29 : GoodIn wsX4_shorten (wsX5_digit) := ggX4_shorten_X5_digit
set_option maxRecDepth 20000 in
theorem ggX4_shorten_X4_chiefOf : GoodIn wsX4_shorten wsX4_chiefOf := goodIn_r _ [15, 16, 10, 8, 11, 19, 20] (by decide +kernel) (by decide +kernel)
set_option maxRecDepth 20000 in
theorem gX4_shorten_X4_chiefOf : GoodIn wsX4_shorten (wsV RX4 33 RX4 yX4_chiefOf wsX4_chiefOf) := goodIn_app (goodIn_of _ (by decide +kernel)) ggX4_shorten_X4_chiefOf
set_option maxRecDepth 20000 in
theorem ggX4_shorten_X5_atPlace : GoodIn wsX4_shorten wsX5_atPlace := goodIn_r _ [18] (by decide +kernel) (by decide +kernel)
set_option maxRecDepth 20000 in
theorem gX4_shorten_X5_atPlace_n42 : GoodIn wsX4_shorten (wsX5_atPlace) := ggX4_shorten_X5_atPlace
theorem dX4_shorten_0 : decode cX4_shorten 0 = .ok (.iconst 0, 1) := by decide +kernel
theorem dX4_shorten_1 : decode cX4_shorten 1 = .ok (.istore_n 3, 1) := by decide +kernel
theorem dX4_shorten_2 : decode cX4_shorten 2 = .ok (.iconst 0, 1) := by decide +kernel
theorem dX4_shorten_3 : decode cX4_shorten 3 = .ok (.istore 4, 2) := by decide +kernel
theorem dX4_shorten_5 : decode cX4_shorten 5 = .ok (.iload 4, 2) := by decide +kernel
theorem dX4_shorten_7 : decode cX4_shorten 7 = .ok (.bipush 6, 2) := by decide +kernel
theorem dX4_shorten_9 : decode cX4_shorten 9 = .ok (.if_icmp .ge 40, 3) := by decide +kernel
theorem dX4_shorten_12 : decode cX4_shorten 12 = .ok (.aload_n 0, 1) := by decide +kernel
theorem dX4_shorten_13 : decode cX4_shorten 13 = .ok (.iload 4, 2) := by decide +kernel
theorem dX4_shorten_15 : decode cX4_shorten 15 = .ok (.iload_n 2, 1) := by decide +kernel
theorem dX4_shorten_16 : decode cX4_shorten 16 = .ok (.invokevirtual 45, 3) := by decide +kernel
theorem dX4_shorten_19 : decode cX4_shorten 19 = .ok (.ifCond .ne 24, 3) := by decide +kernel
theorem dX4_shorten_22 : decode cX4_shorten 22 = .ok (.iload_n 3, 1) := by decide +kernel
theorem dX4_shorten_23 : decode cX4_shorten 23 = .ok (.aload_n 0, 1) := by decide +kernel
theorem dX4_shorten_24 : decode cX4_shorten 24 = .ok (.iload 4, 2) := by decide +kernel
theorem dX4_shorten_26 : decode cX4_shorten 26 = .ok (.iload_n 1, 1) := by decide +kernel
theorem dX4_shorten_27 : decode cX4_shorten 27 = .ok (.iload 4, 2) := by decide +kernel
theorem dX4_shorten_29 : decode cX4_shorten 29 = .ok (.invokestatic 29, 3) := by decide +kernel
theorem dX4_shorten_32 : decode cX4_shorten 32 = .ok (.iload_n 2, 1) := by decide +kernel
theorem dX4_shorten_33 : decode cX4_shorten 33 = .ok (.invokevirtual 33, 3) := by decide +kernel
theorem dX4_shorten_36 : decode cX4_shorten 36 = .ok (.iload 4, 2) := by decide +kernel
theorem dX4_shorten_38 : decode cX4_shorten 38 = .ok (.invokestatic 42, 3) := by decide +kernel
theorem dX4_shorten_41 : decode cX4_shorten 41 = .ok (.ior, 1) := by decide +kernel
theorem dX4_shorten_42 : decode cX4_shorten 42 = .ok (.istore_n 3, 1) := by decide +kernel
theorem dX4_shorten_43 : decode cX4_shorten 43 = .ok (.iinc 4 1, 3) := by decide +kernel
theorem dX4_shorten_46 : decode cX4_shorten 46 = .ok (.goto (-41), 3) := by decide +kernel
theorem dX4_shorten_49 : decode cX4_shorten 49 = .ok (.iload_n 3, 1) := by decide +kernel
theorem dX4_shorten_50 : decode cX4_shorten 50 = .ok (.ireturn, 1) := by decide +kernel
set_option maxRecDepth 20000 in
theorem ggX5_init_Jx4a65c_init_da8c8 : GoodIn wsX5_init wsJx4a65c_init_da8c8 := goodIn_r _ [23, 24, 25, 26, 27, 28, 29, 30, 31, 32, 33, 34, 35, 2, 3, 47, 48, 49] (by decide +kernel) (by decide +kernel)
set_option maxRecDepth 20000 in
theorem gX5_init_Jx4a65c_init_da8c8 : GoodIn wsX5_init (wsJx4a65c_init_da8c8) := ggX5_init_Jx4a65c_init_da8c8
set_option maxRecDepth 20000 in
theorem ggX5_init_X4_init : GoodIn wsX5_init wsX4_init := goodIn_r _ [38, 39, 2, 3, 14, 40, 41, 42, 58, 59] (by decide +kernel) (by decide +kernel)
set_option maxRecDepth 20000 in
theorem gX5_init_X4_init : GoodIn wsX5_init (wsX4_init) := ggX5_init_X4_init
set_option maxRecDepth 20000 in
theorem ggX5_init_X1_init : GoodIn wsX5_init wsX1_init := goodIn_r _ [44, 45, 2, 3, 14, 46, 60, 61] (by decide +kernel) (by decide +kernel)
set_option maxRecDepth 20000 in
theorem gX5_init_X1_init_n35 : GoodIn wsX5_init (wsX1_init) := ggX5_init_X1_init
theorem dX5_init_0 : decode cX5_init 0 = .ok (.aload_n 0, 1) := by decide +kernel
theorem dX5_init_1 : decode cX5_init 1 = .ok (.invokespecial 1, 3) := by decide +kernel
theorem dX5_init_4 : decode cX5_init 4 = .ok (.aload_n 0, 1) := by decide +kernel
theorem dX5_init_5 : decode cX5_init 5 = .ok (.new 7, 3) := by decide +kernel
theorem dX5_init_8 : decode cX5_init 8 = .ok (.dup, 1) := by decide +kernel
theorem dX5_init_9 : decode cX5_init 9 = .ok (.invokespecial 9, 3) := by decide +kernel
theorem dX5_init_12 : decode cX5_init 12 = .ok (.putfield 10, 3) := by decide +kernel
theorem dX5_init_15 : decode cX5_init 15 = .ok (.aload_n 0, 1) := by decide +kernel
theorem dX5_init_16 : decode cX5_init 16 = .ok (.new 7, 3) := by decide +kernel
theorem dX5_init_19 : decode cX5_init 19 = .ok (.dup, 1) := by decide +kernel
theorem dX5_init_20 : decode cX5_init 20 = .ok (.invokespecial 9, 3) := by decide +kernel
theorem dX5_init_23 : decode cX5_init 23 = .ok (.putfield 16, 3) := by decide +kernel
theorem dX5_init_26 : decode cX5_init 26 = .ok (.aload_n 0, 1) := by decide +kernel
theorem dX5_init_27 : decode cX5_init 27 = .ok (.new 7, 3) := by decide +kernel
theorem dX5_init_30 : decode cX5_init 30 = .ok (.dup, 1) := by decide +kernel
theorem dX5_init_31 : decode cX5_init 31 = .ok (.invokespecial 9, 3) := by decide +kernel
theorem dX5_init_34 : decode cX5_init 34 = .ok (.putfield 19, 3) := by decide +kernel
theorem dX5_init_37 : decode cX5_init 37 = .ok (.aload_n 0, 1) := by decide +kernel
theorem dX5_init_38 : decode cX5_init 38 = .ok (.new 22, 3) := by decide +kernel
theorem dX5_init_41 : decode cX5_init 41 = .ok (.dup, 1) := by decide +kernel
theorem dX5_init_42 : decode cX5_init 42 = .ok (.invokespecial 24, 3) := by decide +kernel
theorem dX5_init_45 : decode cX5_init 45 = .ok (.putfield 25, 3) := by decide +kernel
theorem dX5_init_48 : decode cX5_init 48 = .ok (.aload_n 0, 1) := by decide +kernel
theorem dX5_init_49 : decode cX5_init 49 = .ok (.bipush 6, 2) := by decide +kernel
theorem dX5_init_51 : decode cX5_init 51 = .ok (.newarray .int, 2) := by decide +kernel
theorem dX5_init_53 : decode cX5_init 53 = .ok (.putfield 29, 3) := by decide +kernel
theorem dX5_init_56 : decode cX5_init 56 = .ok (.aload_n 0, 1) := by decide +kernel
theorem dX5_init_57 : decode cX5_init 57 = .ok (.new 33, 3) := by decide +kernel
theorem dX5_init_60 : decode cX5_init 60 = .ok (.dup, 1) := by decide +kernel
theorem dX5_init_61 : decode cX5_init 61 = .ok (.invokespecial 35, 3) := by decide +kernel
theorem dX5_init_64 : decode cX5_init 64 = .ok (.putfield 36, 3) := by decide +kernel
theorem dX5_init_67 : decode cX5_init 67 = .ok (.aload_n 0, 1) := by decide +kernel
theorem dX5_init_68 : decode cX5_init 68 = .ok (.new 33, 3) := by decide +kernel
theorem dX5_init_71 : decode cX5_init 71 = .ok (.dup, 1) := by decide +kernel
theorem dX5_init_72 : decode cX5_init 72 = .ok (.invokespecial 35, 3) := by decide +kernel
theorem dX5_init_75 : decode cX5_init 75 = .ok (.putfield 40, 3) := by decide +kernel
theorem dX5_init_78 : decode cX5_init 78 = .ok (.return_, 1) := by decide +kernel
set_option maxRecDepth 20000 in
theorem ggX5_pass_X4_carryOn : GoodIn wsX5_pass wsX4_carryOn := goodIn_r _ [7, 8, 9, 10, 11, 12, 13, 22, 23] (by decide +kernel) (by decide +kernel)
set_option maxRecDepth 20000 in
theorem gX5_pass_X4_carryOn : GoodIn wsX5_pass (wsV RX5 47 RX4 yX4_carryOn wsX4_carryOn) := goodIn_app (goodIn_of _ (by decide +kernel)) ggX5_pass_X4_carryOn
theorem dX5_pass_0 : decode cX5_pass 0 = .ok (.iload_n 1, 1) := by decide +kernel
theorem dX5_pass_1 : decode cX5_pass 1 = .ok (.iconst 1, 1) := by decide +kernel
theorem dX5_pass_2 : decode cX5_pass 2 = .ok (.if_icmp .lt 10, 3) := by decide +kernel
theorem dX5_pass_5 : decode cX5_pass 5 = .ok (.iload_n 1, 1) := by decide +kernel
theorem dX5_pass_6 : decode cX5_pass 6 = .ok (.sipush 199, 3) := by decide +kernel
theorem dX5_pass_9 : decode cX5_pass 9 = .ok (.if_icmp .le 6, 3) := by decide +kernel
theorem dX5_pass_12 : decode cX5_pass 12 = .ok (.bipush (-2), 2) := by decide +kernel
theorem dX5_pass_14 : decode cX5_pass 14 = .ok (.ireturn, 1) := by decide +kernel
theorem dX5_pass_15 : decode cX5_pass 15 = .ok (.aload_n 0, 1) := by decide +kernel
theorem dX5_pass_16 : decode cX5_pass 16 = .ok (.getfield 43, 3) := by decide +kernel
theorem dX5_pass_19 : decode cX5_pass 19 = .ok (.iload_n 1, 1) := by decide +kernel
theorem dX5_pass_20 : decode cX5_pass 20 = .ok (.iadd, 1) := by decide +kernel
theorem dX5_pass_21 : decode cX5_pass 21 = .ok (.sipush 199, 3) := by decide +kernel
theorem dX5_pass_24 : decode cX5_pass 24 = .ok (.if_icmp .le 6, 3) := by decide +kernel
theorem dX5_pass_27 : decode cX5_pass 27 = .ok (.bipush (-4), 2) := by decide +kernel
theorem dX5_pass_29 : decode cX5_pass 29 = .ok (.ireturn, 1) := by decide +kernel
theorem dX5_pass_30 : decode cX5_pass 30 = .ok (.aload_n 0, 1) := by decide +kernel
theorem dX5_pass_31 : decode cX5_pass 31 = .ok (.getfield 25, 3) := by decide +kernel
theorem dX5_pass_34 : decode cX5_pass 34 = .ok (.aload_n 0, 1) := by decide +kernel
theorem dX5_pass_35 : decode cX5_pass 35 = .ok (.getfield 43, 3) := by decide +kernel
theorem dX5_pass_38 : decode cX5_pass 38 = .ok (.aload_n 0, 1) := by decide +kernel
theorem dX5_pass_39 : decode cX5_pass 39 = .ok (.getfield 43, 3) := by decide +kernel
theorem dX5_pass_42 : decode cX5_pass 42 = .ok (.iload_n 1, 1) := by decide +kernel
theorem dX5_pass_43 : decode cX5_pass 43 = .ok (.iadd, 1) := by decide +kernel
theorem dX5_pass_44 : decode cX5_pass 44 = .ok (.invokevirtual 47, 3) := by decide +kernel
theorem dX5_pass_47 : decode cX5_pass 47 = .ok (.aload_n 0, 1) := by decide +kernel
theorem dX5_pass_48 : decode cX5_pass 48 = .ok (.dup, 1) := by decide +kernel
theorem dX5_pass_49 : decode cX5_pass 49 = .ok (.getfield 43, 3) := by decide +kernel
theorem dX5_pass_52 : decode cX5_pass 52 = .ok (.iload_n 1, 1) := by decide +kernel
theorem dX5_pass_53 : decode cX5_pass 53 = .ok (.iadd, 1) := by decide +kernel
theorem dX5_pass_54 : decode cX5_pass 54 = .ok (.putfield 43, 3) := by decide +kernel
theorem dX5_pass_57 : decode cX5_pass 57 = .ok (.aload_n 0, 1) := by decide +kernel
theorem dX5_pass_58 : decode cX5_pass 58 = .ok (.getfield 43, 3) := by decide +kernel
theorem dX5_pass_61 : decode cX5_pass 61 = .ok (.ireturn, 1) := by decide +kernel
set_option maxRecDepth 20000 in
theorem ggX5_tell_X5_isName : GoodIn wsX5_tell wsX5_isName := goodIn_r _ [15, 16] (by decide +kernel) (by decide +kernel)
set_option maxRecDepth 20000 in
theorem gX5_tell_X5_isName : GoodIn wsX5_tell (va_wsS RX5 51 yX5_isName wsX5_isName) := goodIn_app (goodIn_of _ (by decide +kernel)) ggX5_tell_X5_isName
set_option maxRecDepth 20000 in
theorem ggX5_tell_X5_numberOf : GoodIn wsX5_tell wsX5_numberOf := goodIn_r _ [20, 2, 3, 21, 22, 23, 24, 25, 26, 27, 28, 29, 30, 31, 32, 33, 34, 35, 36, 37, 38, 39, 40, 41, 42, 43, 120, 121, 122, 123, 124, 125, 126, 127, 128, 129, 130, 131, 132, 133, 137, 138, 139] (by decide +kernel) (by decide +kernel)
set_option maxRecDepth 20000 in
theorem gX5_tell_X5_numberOf : GoodIn wsX5_tell (wsV RX5 56 RX5 yX5_numberOf wsX5_numberOf) := goodIn_app (goodIn_of _ (by decide +kernel)) ggX5_tell_X5_numberOf
set_option maxRecDepth 20000 in
theorem ggX5_tell_Jx4a65c_get_915e3 : GoodIn wsX5_tell wsJx4a65c_get_915e3 := goodIn_r _ [30, 26, 31, 32, 33, 34, 35, 36, 37, 38, 39, 40, 41, 24, 42, 43, 137, 138, 139] (by decide +kernel) (by decide +kernel)
set_option maxRecDepth 20000 in
theorem gX5_tell_Jx4a65c_get_915e3 : GoodIn wsX5_tell (wsV RX5 60 RJx4a65c yJx4a65c_get_915e3 wsJx4a65c_get_915e3) := goodIn_app (goodIn_of _ (by decide +kernel)) ggX5_tell_Jx4a65c_get_915e3
set_option maxRecDepth 20000 in
theorem ggX5_tell_Jx4a65c_size_8abf5 : GoodIn wsX5_tell wsJx4a65c_size_8abf5 := goodIn_r _ [25, 26, 137, 138, 139] (by decide +kernel) (by decide +kernel)
set_option maxRecDepth 20000 in
theorem gX5_tell_Jx4a65c_size_8abf5 : GoodIn wsX5_tell (wsV RX5 69 RJx4a65c yJx4a65c_size_8abf5 wsJx4a65c_size_8abf5) := goodIn_app (goodIn_of _ (by decide +kernel)) ggX5_tell_Jx4a65c_size_8abf5
set_option maxRecDepth 20000 in
theorem ggX5_tell_X3_init : GoodIn wsX5_tell wsX3_init := goodIn_r _ [46, 47, 48, 49, 50, 51, 52, 128, 129, 130, 131, 132, 133] (by decide +kernel) (by decide +kernel)
set_option maxRecDepth 20000 in
theorem gX5_tell_X3_init : GoodIn wsX5_tell (wsX3_init) := ggX5_tell_X3_init
set_option maxRecDepth 20000 in
theorem ggX5_tell_Jx4a65c_add_9ea2d : GoodIn wsX5_tell wsJx4a65c_add_9ea2d := goodIn_r _ [56, 57, 58, 43, 26, 59, 60, 61, 24, 62, 63, 64, 65, 66, 67, 68, 69, 70, 71, 72, 73, 74, 75, 76, 77, 78, 79, 80, 81, 82, 83, 84, 85, 86, 87, 88, 89, 90, 91, 92, 93, 94, 95, 96, 97, 98, 99, 100, 101, 102, 103, 104, 105, 137, 138, 139] (by decide +kernel) (by decide +kernel)
set_option maxRecDepth 20000 in
theorem gX5_tell_Jx4a65c_add_9ea2d : GoodIn wsX5_tell (wsV RX5 75 RJx4a65c yJx4a65c_add_9ea2d wsJx4a65c_add_9ea2d) := goodIn_app (goodIn_of _ (by decide +kernel)) ggX5_tell_Jx4a65c_add_9ea2d
set_option maxRecDepth 20000 in
theorem ggX5_tell_X3_takeSample : GoodIn wsX5_tell wsX3_takeSample := goodIn_r _ [109, 110, 111, 112, 52, 128, 129, 130, 131, 132, 133] (by decide +kernel) (by decide +kernel)
set_option maxRecDepth 20000 in
theorem gX5_tell_X3_takeSample : GoodIn wsX5_tell (wsV RX5 79 RX3 yX3_takeSample wsX3_takeSample) := goodIn_app (goodIn_of _ (by decide +kernel)) ggX5_tell_X3_takeSample
set_option maxRecDepth 20000 in
theorem ggX5_tell_X2_init : GoodIn wsX5_tell wsX2_init := goodIn_r _ [115, 116, 48, 49, 117, 118, 119, 134, 135, 136] (by decide +kernel) (by decide +kernel)
set_option maxRecDepth 20000 in
theorem gX5_tell_X2_init : GoodIn wsX5_tell (wsX2_init) := ggX5_tell_X2_init
theorem dX5_tell_0 : decode cX5_tell 0 = .ok (.iload_n 1, 1) := by decide +kernel
theorem dX5_tell_1 : decode cX5_tell 1 = .ok (.invokestatic 51, 3) := by decide +kernel
theorem dX5_tell_4 : decode cX5_tell 4 = .ok (.ifCond .eq 13, 3) := by decide +kernel
theorem dX5_tell_7 : decode cX5_tell 7 = .ok (.iload_n 2, 1) := by decide +kernel
theorem dX5_tell_8 : decode cX5_tell 8 = .ok (.ifCond .lt 9, 3) := by decide +kernel
theorem dX5_tell_11 : decode cX5_tell 11 = .ok (.iload_n 2, 1) := by decide +kernel
theorem dX5_tell_12 : decode cX5_tell 12 = .ok (.ldc 55, 2) := by decide +kernel
theorem dX5_tell_14 : decode cX5_tell 14 = .ok (.if_icmp .le 6, 3) := by decide +kernel
theorem dX5_tell_17 : decode cX5_tell 17 = .ok (.bipush (-2), 2) := by decide +kernel
theorem dX5_tell_19 : decode cX5_tell 19 = .ok (.ireturn, 1) := by decide +kernel
theorem dX5_tell_20 : decode cX5_tell 20 = .ok (.aload_n 0, 1) := by decide +kernel
theorem dX5_tell_21 : decode cX5_tell 21 = .ok (.iload_n 1, 1) := by decide +kernel
theorem dX5_tell_22 : decode cX5_tell 22 = .ok (.invokevirtual 56, 3) := by decide +kernel
theorem dX5_tell_25 : decode cX5_tell 25 = .ok (.istore_n 3, 1) := by decide +kernel
theorem dX5_tell_26 : decode cX5_tell 26 = .ok (.iload_n 3, 1) := by decide +kernel
theorem dX5_tell_27 : decode cX5_tell 27 = .ok (.bipush (-9), 2) := by decide +kernel
theorem dX5_tell_29 : decode cX5_tell 29 = .ok (.if_icmp .eq 27, 3) := by decide +kernel
theorem dX5_tell_32 : decode cX5_tell 32 = .ok (.aload_n 0, 1) := by decide +kernel
theorem dX5_tell_33 : decode cX5_tell 33 = .ok (.getfield 10, 3) := by decide +kernel
theorem dX5_tell_36 : decode cX5_tell 36 = .ok (.iload_n 3, 1) := by decide +kernel
theorem dX5_tell_37 : decode cX5_tell 37 = .ok (.invokevirtual 60, 3) := by decide +kernel
theorem dX5_tell_40 : decode cX5_tell 40 = .ok (.checkcast 64, 3) := by decide +kernel
theorem dX5_tell_43 : decode cX5_tell 43 = .ok (.getfield 66, 3) := by decide +kernel
theorem dX5_tell_46 : decode cX5_tell 46 = .ok (.aload_n 0, 1) := by decide +kernel
theorem dX5_tell_47 : decode cX5_tell 47 = .ok (.getfield 43, 3) := by decide +kernel
theorem dX5_tell_50 : decode cX5_tell 50 = .ok (.if_icmp .ne 6, 3) := by decide +kernel
theorem dX5_tell_53 : decode cX5_tell 53 = .ok (.bipush (-3), 2) := by decide +kernel
theorem dX5_tell_55 : decode cX5_tell 55 = .ok (.ireturn, 1) := by decide +kernel
theorem dX5_tell_56 : decode cX5_tell 56 = .ok (.iload_n 3, 1) := by decide +kernel
theorem dX5_tell_57 : decode cX5_tell 57 = .ok (.bipush (-9), 2) := by decide +kernel
theorem dX5_tell_59 : decode cX5_tell 59 = .ok (.if_icmp .ne 19, 3) := by decide +kernel
theorem dX5_tell_62 : decode cX5_tell 62 = .ok (.aload_n 0, 1) := by decide +kernel
theorem dX5_tell_63 : decode cX5_tell 63 = .ok (.getfield 10, 3) := by decide +kernel
theorem dX5_tell_66 : decode cX5_tell 66 = .ok (.invokevirtual 69, 3) := by decide +kernel
theorem dX5_tell_69 : decode cX5_tell 69 = .ok (.bipush 120, 2) := by decide +kernel
theorem dX5_tell_71 : decode cX5_tell 71 = .ok (.if_icmp .lt 7, 3) := by decide +kernel
theorem dX5_tell_74 : decode cX5_tell 74 = .ok (.iconst 1, 1) := by decide +kernel
theorem dX5_tell_75 : decode cX5_tell 75 = .ok (.goto 4, 3) := by decide +kernel
theorem dX5_tell_78 : decode cX5_tell 78 = .ok (.iconst 0, 1) := by decide +kernel
theorem dX5_tell_79 : decode cX5_tell 79 = .ok (.istore 4, 2) := by decide +kernel
theorem dX5_tell_81 : decode cX5_tell 81 = .ok (.iload 4, 2) := by decide +kernel
theorem dX5_tell_83 : decode cX5_tell 83 = .ok (.ifCond .ne 16, 3) := by decide +kernel
theorem dX5_tell_86 : decode cX5_tell 86 = .ok (.aload_n 0, 1) := by decide +kernel
theorem dX5_tell_87 : decode cX5_tell 87 = .ok (.getfield 16, 3) := by decide +kernel
theorem dX5_tell_90 : decode cX5_tell 90 = .ok (.invokevirtual 69, 3) := by decide +kernel
theorem dX5_tell_93 : decode cX5_tell 93 = .ok (.sipush 2000, 3) := by decide +kernel
theorem dX5_tell_96 : decode cX5_tell 96 = .ok (.if_icmp .lt 6, 3) := by decide +kernel
theorem dX5_tell_99 : decode cX5_tell 99 = .ok (.bipush (-4), 2) := by decide +kernel
theorem dX5_tell_101 : decode cX5_tell 101 = .ok (.ireturn, 1) := by decide +kernel
theorem dX5_tell_102 : decode cX5_tell 102 = .ok (.iload_n 3, 1) := by decide +kernel
theorem dX5_tell_103 : decode cX5_tell 103 = .ok (.bipush (-9), 2) := by decide +kernel
theorem dX5_tell_105 : decode cX5_tell 105 = .ok (.if_icmp .ne 31, 3) := by decide +kernel
theorem dX5_tell_108 : decode cX5_tell 108 = .ok (.aload_n 0, 1) := by decide +kernel
theorem dX5_tell_109 : decode cX5_tell 109 = .ok (.getfield 10, 3) := by decide +kernel
theorem dX5_tell_112 : decode cX5_tell 112 = .ok (.invokevirtual 69, 3) := by decide +kernel
theorem dX5_tell_115 : decode cX5_tell 115 = .ok (.istore_n 3, 1) := by decide +kernel
theorem dX5_tell_116 : decode cX5_tell 116 = .ok (.aload_n 0, 1) := by decide +kernel
theorem dX5_tell_117 : decode cX5_tell 117 = .ok (.getfield 10, 3) := by decide +kernel
theorem dX5_tell_120 : decode cX5_tell 120 = .ok (.new 64, 3) := by decide +kernel
theorem dX5_tell_123 : decode cX5_tell 123 = .ok (.dup, 1) := by decide +kernel
theorem dX5_tell_124 : decode cX5_tell 124 = .ok (.iload_n 1, 1) := by decide +kernel
theorem dX5_tell_125 : decode cX5_tell 125 = .ok (.aload_n 0, 1) := by decide +kernel
theorem dX5_tell_126 : decode cX5_tell 126 = .ok (.getfield 43, 3) := by decide +kernel
theorem dX5_tell_129 : decode cX5_tell 129 = .ok (.invokespecial 73, 3) := by decide +kernel
theorem dX5_tell_132 : decode cX5_tell 132 = .ok (.invokevirtual 75, 3) := by decide +kernel
theorem dX5_tell_135 : decode cX5_tell 135 = .ok (.pop, 1) := by decide +kernel
theorem dX5_tell_136 : decode cX5_tell 136 = .ok (.aload_n 0, 1) := by decide +kernel
theorem dX5_tell_137 : decode cX5_tell 137 = .ok (.getfield 10, 3) := by decide +kernel
theorem dX5_tell_140 : decode cX5_tell 140 = .ok (.iload_n 3, 1) := by decide +kernel
theorem dX5_tell_141 : decode cX5_tell 141 = .ok (.invokevirtual 60, 3) := by decide +kernel
theorem dX5_tell_144 : decode cX5_tell 144 = .ok (.checkcast 64, 3) := by decide +kernel
theorem dX5_tell_147 : decode cX5_tell 147 = .ok (.iload_n 2, 1) := by decide +kernel
theorem dX5_tell_148 : decode cX5_tell 148 = .ok (.aload_n 0, 1) := by decide +kernel
theorem dX5_tell_149 : decode cX5_tell 149 = .ok (.getfield 43, 3) := by decide +kernel
theorem dX5_tell_152 : decode cX5_tell 152 = .ok (.invokevirtual 79, 3) := by decide +kernel
theorem dX5_tell_155 : decode cX5_tell 155 = .ok (.istore 5, 2) := by decide +kernel
theorem dX5_tell_157 : decode cX5_tell 157 = .ok (.aload_n 0, 1) := by decide +kernel
theorem dX5_tell_158 : decode cX5_tell 158 = .ok (.getfield 16, 3) := by decide +kernel
theorem dX5_tell_161 : decode cX5_tell 161 = .ok (.new 83, 3) := by decide +kernel
theorem dX5_tell_164 : decode cX5_tell 164 = .ok (.dup, 1) := by decide +kernel
theorem dX5_tell_165 : decode cX5_tell 165 = .ok (.iload_n 1, 1) := by decide +kernel
theorem dX5_tell_166 : decode cX5_tell 166 = .ok (.aload_n 0, 1) := by decide +kernel
theorem dX5_tell_167 : decode cX5_tell 167 = .ok (.getfield 43, 3) := by decide +kernel
theorem dX5_tell_170 : decode cX5_tell 170 = .ok (.iload 5, 2) := by decide +kernel
theorem dX5_tell_172 : decode cX5_tell 172 = .ok (.invokespecial 85, 3) := by decide +kernel
theorem dX5_tell_175 : decode cX5_tell 175 = .ok (.invokevirtual 75, 3) := by decide +kernel
theorem dX5_tell_178 : decode cX5_tell 178 = .ok (.pop, 1) := by decide +kernel
theorem dX5_tell_179 : decode cX5_tell 179 = .ok (.iload_n 3, 1) := by decide +kernel
theorem dX5_tell_180 : decode cX5_tell 180 = .ok (.ireturn, 1) := by decide +kernel
set_option maxRecDepth 20000 in
theorem ggX5_series_X5_isSeries : GoodIn wsX5_series wsX5_isSeries := goodIn_r _ [7, 1, 8, 9, 10, 11, 12, 13, 31, 32, 33, 34, 35, 36, 37, 38, 45, 46, 47] (by decide +kernel) (by decide +kernel)
set_option maxRecDepth 20000 in
theorem gX5_series_X5_isSeries : GoodIn wsX5_series (wsV RX5 88 RX5 yX5_isSeries wsX5_isSeries) := goodIn_app (goodIn_of _ (by decide +kernel)) ggX5_series_X5_isSeries
set_option maxRecDepth 20000 in
theorem ggX5_series_Jx4a65c_get_915e3 : GoodIn wsX5_series wsJx4a65c_get_915e3 := goodIn_r _ [17, 13, 18, 19, 20, 21, 22, 23, 24, 25, 26, 27, 28, 11, 29, 30, 45, 46, 47] (by decide +kernel) (by decide +kernel)
set_option maxRecDepth 20000 in
theorem gX5_series_Jx4a65c_get_915e3 : GoodIn wsX5_series (wsV RX5 60 RJx4a65c yJx4a65c_get_915e3 wsJx4a65c_get_915e3) := goodIn_app (goodIn_of _ (by decide +kernel)) ggX5_series_Jx4a65c_get_915e3
theorem dX5_series_0 : decode cX5_series 0 = .ok (.aload_n 0, 1) := by decide +kernel
theorem dX5_series_1 : decode cX5_series 1 = .ok (.iload_n 1, 1) := by decide +kernel
theorem dX5_series_2 : decode cX5_series 2 = .ok (.invokevirtual 88, 3) := by decide +kernel
theorem dX5_series_5 : decode cX5_series 5 = .ok (.ifCond .ne 5, 3) := by decide +kernel
theorem dX5_series_8 : decode cX5_series 8 = .ok (.iconst (-1), 1) := by decide +kernel
theorem dX5_series_9 : decode cX5_series 9 = .ok (.ireturn, 1) := by decide +kernel
theorem dX5_series_10 : decode cX5_series 10 = .ok (.aload_n 0, 1) := by decide +kernel
theorem dX5_series_11 : decode cX5_series 11 = .ok (.getfield 10, 3) := by decide +kernel
theorem dX5_series_14 : decode cX5_series 14 = .ok (.iload_n 1, 1) := by decide +kernel
theorem dX5_series_15 : decode cX5_series 15 = .ok (.invokevirtual 60, 3) := by decide +kernel
theorem dX5_series_18 : decode cX5_series 18 = .ok (.checkcast 64, 3) := by decide +kernel
theorem dX5_series_21 : decode cX5_series 21 = .ok (.astore_n 3, 1) := by decide +kernel
theorem dX5_series_22 : decode cX5_series 22 = .ok (.iload_n 2, 1) := by decide +kernel
theorem dX5_series_23 : decode cX5_series 23 = .ok (.tableswitch 67 0 5 #[37, 42, 47, 52, 57, 62], 37) := by decide +kernel
theorem dX5_series_60 : decode cX5_series 60 = .ok (.aload_n 3, 1) := by decide +kernel
theorem dX5_series_61 : decode cX5_series 61 = .ok (.getfield 91, 3) := by decide +kernel
theorem dX5_series_64 : decode cX5_series 64 = .ok (.ireturn, 1) := by decide +kernel
theorem dX5_series_65 : decode cX5_series 65 = .ok (.aload_n 3, 1) := by decide +kernel
theorem dX5_series_66 : decode cX5_series 66 = .ok (.getfield 94, 3) := by decide +kernel
theorem dX5_series_69 : decode cX5_series 69 = .ok (.ireturn, 1) := by decide +kernel
theorem dX5_series_70 : decode cX5_series 70 = .ok (.aload_n 3, 1) := by decide +kernel
theorem dX5_series_71 : decode cX5_series 71 = .ok (.getfield 97, 3) := by decide +kernel
theorem dX5_series_74 : decode cX5_series 74 = .ok (.ireturn, 1) := by decide +kernel
theorem dX5_series_75 : decode cX5_series 75 = .ok (.aload_n 3, 1) := by decide +kernel
theorem dX5_series_76 : decode cX5_series 76 = .ok (.getfield 100, 3) := by decide +kernel
theorem dX5_series_79 : decode cX5_series 79 = .ok (.ireturn, 1) := by decide +kernel
theorem dX5_series_80 : decode cX5_series 80 = .ok (.aload_n 3, 1) := by decide +kernel
theorem dX5_series_81 : decode cX5_series 81 = .ok (.getfield 66, 3) := by decide +kernel
theorem dX5_series_84 : decode cX5_series 84 = .ok (.ireturn, 1) := by decide +kernel
theorem dX5_series_85 : decode cX5_series 85 = .ok (.aload_n 3, 1) := by decide +kernel
theorem dX5_series_86 : decode cX5_series 86 = .ok (.getfield 103, 3) := by decide +kernel
theorem dX5_series_89 : decode cX5_series 89 = .ok (.ireturn, 1) := by decide +kernel
theorem dX5_series_90 : decode cX5_series 90 = .ok (.bipush (-2), 2) := by decide +kernel
theorem dX5_series_92 : decode cX5_series 92 = .ok (.ireturn, 1) := by decide +kernel
set_option maxRecDepth 20000 in
theorem ggX5_find_X5_isName : GoodIn wsX5_find wsX5_isName := goodIn_r _ [4, 5] (by decide +kernel) (by decide +kernel)
set_option maxRecDepth 20000 in
theorem gX5_find_X5_isName : GoodIn wsX5_find (va_wsS RX5 51 yX5_isName wsX5_isName) := goodIn_app (goodIn_of _ (by decide +kernel)) ggX5_find_X5_isName
set_option maxRecDepth 20000 in
theorem ggX5_find_X5_numberOf : GoodIn wsX5_find wsX5_numberOf := goodIn_r _ [9, 10, 11, 12, 13, 14, 15, 16, 17, 18, 19, 20, 21, 22, 23, 24, 25, 26, 27, 28, 29, 30, 31, 32, 33, 34, 35, 36, 37, 38, 39, 40, 41, 42, 43, 44, 45, 46, 47, 48, 49, 50, 51] (by decide +kernel) (by decide +kernel)
set_option maxRecDepth 20000 in
theorem gX5_find_X5_numberOf : GoodIn wsX5_find (wsV RX5 56 RX5 yX5_numberOf wsX5_numberOf) := goodIn_app (goodIn_of _ (by decide +kernel)) ggX5_find_X5_numberOf
theorem dX5_find_0 : decode cX5_find 0 = .ok (.iload_n 1, 1) := by decide +kernel
theorem dX5_find_1 : decode cX5_find 1 = .ok (.invokestatic 51, 3) := by decide +kernel
theorem dX5_find_4 : decode cX5_find 4 = .ok (.ifCond .ne 6, 3) := by decide +kernel
theorem dX5_find_7 : decode cX5_find 7 = .ok (.bipush (-2), 2) := by decide +kernel
theorem dX5_find_9 : decode cX5_find 9 = .ok (.ireturn, 1) := by decide +kernel
theorem dX5_find_10 : decode cX5_find 10 = .ok (.aload_n 0, 1) := by decide +kernel
theorem dX5_find_11 : decode cX5_find 11 = .ok (.iload_n 1, 1) := by decide +kernel
theorem dX5_find_12 : decode cX5_find 12 = .ok (.invokevirtual 56, 3) := by decide +kernel
theorem dX5_find_15 : decode cX5_find 15 = .ok (.ireturn, 1) := by decide +kernel
set_option maxRecDepth 20000 in
theorem ggX5_growth_X5_isSeries : GoodIn wsX5_growth wsX5_isSeries := goodIn_r _ [9, 3, 10, 11, 12, 13, 14, 15, 59, 60, 61, 62, 63, 64, 65, 66, 73, 74, 75] (by decide +kernel) (by decide +kernel)
set_option maxRecDepth 20000 in
theorem gX5_growth_X5_isSeries : GoodIn wsX5_growth (wsV RX5 88 RX5 yX5_isSeries wsX5_isSeries) := goodIn_app (goodIn_of _ (by decide +kernel)) ggX5_growth_X5_isSeries
set_option maxRecDepth 20000 in
theorem ggX5_growth_X5_isSpan : GoodIn wsX5_growth wsX5_isSpan := goodIn_r _ [19, 20, 59, 60, 61, 62, 63, 64, 65, 66] (by decide +kernel) (by decide +kernel)
set_option maxRecDepth 20000 in
theorem gX5_growth_X5_isSpan : GoodIn wsX5_growth (wsV RX5 108 RX5 yX5_isSpan wsX5_isSpan) := goodIn_app (goodIn_of _ (by decide +kernel)) ggX5_growth_X5_isSpan
set_option maxRecDepth 20000 in
theorem ggX5_growth_X5_digitsOf : GoodIn wsX5_growth wsX5_digitsOf := goodIn_r _ [23, 24, 25, 8, 26, 27, 28, 29] (by decide +kernel) (by decide +kernel)
set_option maxRecDepth 20000 in
theorem gX5_growth_X5_digitsOf : GoodIn wsX5_growth (va_wsS RX5 114 yX5_digitsOf wsX5_digitsOf) := goodIn_app (goodIn_of _ (by decide +kernel)) ggX5_growth_X5_digitsOf
set_option maxRecDepth 20000 in
theorem ggX5_growth_Jx4a65c_get_915e3 : GoodIn wsX5_growth wsJx4a65c_get_915e3 := goodIn_r _ [33, 15, 34, 35, 36, 37, 38, 39, 40, 41, 42, 43, 44, 13, 45, 46, 73, 74, 75] (by decide +kernel) (by decide +kernel)
set_option maxRecDepth 20000 in
theorem gX5_growth_Jx4a65c_get_915e3 : GoodIn wsX5_growth (wsV RX5 60 RJx4a65c yJx4a65c_get_915e3 wsJx4a65c_get_915e3) := goodIn_app (goodIn_of _ (by decide +kernel)) ggX5_growth_Jx4a65c_get_915e3
set_option maxRecDepth 20000 in
theorem ggX5_growth_X5_growthOfAlike : GoodIn wsX5_growth wsX5_growthOfAlike := goodIn_r _ [50, 51, 52, 10, 11, 12, 13, 14, 15, 30, 31, 32, 33, 34, 35, 36, 37, 38, 39, 40, 41, 42, 43, 44, 45, 46, 53, 54, 55, 56, 57, 58, 59, 60, 61, 62, 63, 64, 65, 66, 76, 77, 78, 73, 74, 75] (by decide +kernel) (by decide +kernel)
set_option maxRecDepth 20000 in
theorem gX5_growth_X5_growthOfAlike : GoodIn wsX5_growth (wsV RX5 117 RX5 yX5_growthOfAlike wsX5_growthOfAlike) := goodIn_app (goodIn_of _ (by decide +kernel)) ggX5_growth_X5_growthOfAlike
theorem dX5_growth_0 : decode cX5_growth 0 = .ok (.aload_n 0, 1) := by decide +kernel
theorem dX5_growth_1 : decode cX5_growth 1 = .ok (.iload_n 1, 1) := by decide +kernel
theorem dX5_growth_2 : decode cX5_growth 2 = .ok (.invokevirtual 88, 3) := by decide +kernel
theorem dX5_growth_5 : decode cX5_growth 5 = .ok (.ifCond .ne 7, 3) := by decide +kernel
theorem dX5_growth_8 : decode cX5_growth 8 = .ok (.ldc2_w 106, 3) := by decide +kernel
theorem dX5_growth_11 : decode cX5_growth 11 = .ok (.lreturn, 1) := by decide +kernel
theorem dX5_growth_12 : decode cX5_growth 12 = .ok (.aload_n 0, 1) := by decide +kernel
theorem dX5_growth_13 : decode cX5_growth 13 = .ok (.iload_n 2, 1) := by decide +kernel
theorem dX5_growth_14 : decode cX5_growth 14 = .ok (.iload_n 3, 1) := by decide +kernel
theorem dX5_growth_15 : decode cX5_growth 15 = .ok (.invokevirtual 108, 3) := by decide +kernel
theorem dX5_growth_18 : decode cX5_growth 18 = .ok (.ifCond .ne 7, 3) := by decide +kernel
theorem dX5_growth_21 : decode cX5_growth 21 = .ok (.ldc2_w 112, 3) := by decide +kernel
theorem dX5_growth_24 : decode cX5_growth 24 = .ok (.lreturn, 1) := by decide +kernel
theorem dX5_growth_25 : decode cX5_growth 25 = .ok (.aload_n 0, 1) := by decide +kernel
theorem dX5_growth_26 : decode cX5_growth 26 = .ok (.bipush 63, 2) := by decide +kernel
theorem dX5_growth_28 : decode cX5_growth 28 = .ok (.invokestatic 114, 3) := by decide +kernel
theorem dX5_growth_31 : decode cX5_growth 31 = .ok (.aload_n 0, 1) := by decide +kernel
theorem dX5_growth_32 : decode cX5_growth 32 = .ok (.getfield 10, 3) := by decide +kernel
theorem dX5_growth_35 : decode cX5_growth 35 = .ok (.iload_n 1, 1) := by decide +kernel
theorem dX5_growth_36 : decode cX5_growth 36 = .ok (.invokevirtual 60, 3) := by decide +kernel
theorem dX5_growth_39 : decode cX5_growth 39 = .ok (.checkcast 64, 3) := by decide +kernel
theorem dX5_growth_42 : decode cX5_growth 42 = .ok (.getfield 91, 3) := by decide +kernel
theorem dX5_growth_45 : decode cX5_growth 45 = .ok (.iload_n 2, 1) := by decide +kernel
theorem dX5_growth_46 : decode cX5_growth 46 = .ok (.iload_n 3, 1) := by decide +kernel
theorem dX5_growth_47 : decode cX5_growth 47 = .ok (.invokevirtual 117, 3) := by decide +kernel
theorem dX5_growth_50 : decode cX5_growth 50 = .ok (.lreturn, 1) := by decide +kernel
set_option maxRecDepth 20000 in
theorem ggX5_seen_X5_isSpan : GoodIn wsX5_seen wsX5_isSpan := goodIn_r _ [6, 7, 71, 72, 73, 74, 75, 76, 77, 78] (by decide +kernel) (by decide +kernel)
set_option maxRecDepth 20000 in
theorem gX5_seen_X5_isSpan : GoodIn wsX5_seen (wsV RX5 108 RX5 yX5_isSpan wsX5_isSpan) := goodIn_app (goodIn_of _ (by decide +kernel)) ggX5_seen_X5_isSpan
set_option maxRecDepth 20000 in
theorem ggX5_seen_X5_gatherSeen : GoodIn wsX5_seen wsX5_gatherSeen := goodIn_r _ [11, 1, 12, 13, 14, 15, 16, 17, 18, 19, 20, 21, 22, 23, 24, 25, 26, 27, 28, 29, 30, 31, 32, 33, 34, 35, 36, 37, 38, 39, 40, 41, 42, 43, 44, 45, 46, 47, 48, 49, 50, 51, 52, 53, 54, 55, 56, 57, 58, 59, 60, 61, 62, 63, 64, 65, 66, 67, 68, 69, 70, 71, 72, 73, 74, 75, 76, 77, 78, 81, 82, 83, 79, 80, 84, 85, 86] (by decide +kernel) (by decide +kernel)
set_option maxRecDepth 20000 in
theorem gX5_seen_X5_gatherSeen : GoodIn wsX5_seen (wsV RX5 121 RX5 yX5_gatherSeen wsX5_gatherSeen) := goodIn_app (goodIn_of _ (by decide +kernel)) ggX5_seen_X5_gatherSeen
theorem dX5_seen_0 : decode cX5_seen 0 = .ok (.aload_n 0, 1) := by decide +kernel
theorem dX5_seen_1 : decode cX5_seen 1 = .ok (.iload_n 1, 1) := by decide +kernel
theorem dX5_seen_2 : decode cX5_seen 2 = .ok (.iload_n 2, 1) := by decide +kernel
theorem dX5_seen_3 : decode cX5_seen 3 = .ok (.invokevirtual 108, 3) := by decide +kernel
theorem dX5_seen_6 : decode cX5_seen 6 = .ok (.ifCond .ne 6, 3) := by decide +kernel
theorem dX5_seen_9 : decode cX5_seen 9 = .ok (.bipush (-2), 2) := by decide +kernel
theorem dX5_seen_11 : decode cX5_seen 11 = .ok (.ireturn, 1) := by decide +kernel
theorem dX5_seen_12 : decode cX5_seen 12 = .ok (.aload_n 0, 1) := by decide +kernel
theorem dX5_seen_13 : decode cX5_seen 13 = .ok (.iload_n 1, 1) := by decide +kernel
theorem dX5_seen_14 : decode cX5_seen 14 = .ok (.iload_n 2, 1) := by decide +kernel
theorem dX5_seen_15 : decode cX5_seen 15 = .ok (.invokevirtual 121, 3) := by decide +kernel
theorem dX5_seen_18 : decode cX5_seen 18 = .ok (.aload_n 0, 1) := by decide +kernel
theorem dX5_seen_19 : decode cX5_seen 19 = .ok (.getfield 36, 3) := by decide +kernel
theorem dX5_seen_22 : decode cX5_seen 22 = .ok (.getfield 124, 3) := by decide +kernel
theorem dX5_seen_25 : decode cX5_seen 25 = .ok (.ireturn, 1) := by decide +kernel
set_option maxRecDepth 20000 in
theorem ggX5_values_X5_isMark : GoodIn wsX5_values wsX5_isMark := goodIn_r _ [4] (by decide +kernel) (by decide +kernel)
set_option maxRecDepth 20000 in
theorem gX5_values_X5_isMark : GoodIn wsX5_values (va_wsS RX5 126 yX5_isMark wsX5_isMark) := goodIn_app (goodIn_of _ (by decide +kernel)) ggX5_values_X5_isMark
set_option maxRecDepth 20000 in
theorem ggX5_values_X5_isSpan : GoodIn wsX5_values wsX5_isSpan := goodIn_r _ [8, 9, 88, 89, 90, 91, 92, 93, 94, 95] (by decide +kernel) (by decide +kernel)
set_option maxRecDepth 20000 in
theorem gX5_values_X5_isSpan : GoodIn wsX5_values (wsV RX5 108 RX5 yX5_isSpan wsX5_isSpan) := goodIn_app (goodIn_of _ (by decide +kernel)) ggX5_values_X5_isSpan
set_option maxRecDepth 20000 in
theorem ggX5_values_X5_gatherSeen : GoodIn wsX5_values wsX5_gatherSeen := goodIn_r _ [13, 14, 15, 16, 17, 18, 19, 20, 21, 22, 23, 24, 25, 26, 27, 28, 29, 30, 31, 32, 33, 34, 35, 36, 37, 38, 39, 40, 41, 42, 43, 44, 45, 46, 47, 48, 49, 50, 51, 52, 53, 54, 55, 56, 57, 58, 59, 60, 61, 62, 63, 64, 65, 66, 67, 68, 69, 70, 71, 72, 73, 88, 89, 90, 91, 92, 93, 94, 95, 96, 97, 98, 99, 100, 101, 102, 103] (by decide +kernel) (by decide +kernel)
set_option maxRecDepth 20000 in
theorem gX5_values_X5_gatherSeen : GoodIn wsX5_values (wsV RX5 121 RX5 yX5_gatherSeen wsX5_gatherSeen) := goodIn_app (goodIn_of _ (by decide +kernel)) ggX5_values_X5_gatherSeen
set_option maxRecDepth 20000 in
theorem ggX5_values_X5_namesLeftWithout : GoodIn wsX5_values wsX5_namesLeftWithout := goodIn_r _ [77, 78, 14, 79, 80, 3, 81, 82, 83, 84, 85, 86, 87, 17, 18, 19, 20, 21, 22, 52, 53, 54, 55, 56, 57, 58, 59, 60, 61, 62, 63, 64, 65, 66, 67, 68, 69, 70, 71, 72, 73, 88, 89, 90, 91, 92, 93, 94, 95, 99, 100] (by decide +kernel) (by decide +kernel)
set_option maxRecDepth 20000 in
theorem gX5_values_X5_namesLeftWithout : GoodIn wsX5_values (wsV RX5 129 RX5 yX5_namesLeftWithout wsX5_namesLeftWithout) := goodIn_app (goodIn_of _ (by decide +kernel)) ggX5_values_X5_namesLeftWithout
theorem dX5_values_0 : decode cX5_values 0 = .ok (.iload_n 1, 1) := by decide +kernel
theorem dX5_values_1 : decode cX5_values 1 = .ok (.invokestatic 126, 3) := by decide +kernel
theorem dX5_values_4 : decode cX5_values 4 = .ok (.ifCond .ne 5, 3) := by decide +kernel
theorem dX5_values_7 : decode cX5_values 7 = .ok (.iconst (-1), 1) := by decide +kernel
theorem dX5_values_8 : decode cX5_values 8 = .ok (.ireturn, 1) := by decide +kernel
theorem dX5_values_9 : decode cX5_values 9 = .ok (.aload_n 0, 1) := by decide +kernel
theorem dX5_values_10 : decode cX5_values 10 = .ok (.iload_n 2, 1) := by decide +kernel
theorem dX5_values_11 : decode cX5_values 11 = .ok (.iload_n 3, 1) := by decide +kernel
theorem dX5_values_12 : decode cX5_values 12 = .ok (.invokevirtual 108, 3) := by decide +kernel
theorem dX5_values_15 : decode cX5_values 15 = .ok (.ifCond .ne 6, 3) := by decide +kernel
theorem dX5_values_18 : decode cX5_values 18 = .ok (.bipush (-2), 2) := by decide +kernel
theorem dX5_values_20 : decode cX5_values 20 = .ok (.ireturn, 1) := by decide +kernel
theorem dX5_values_21 : decode cX5_values 21 = .ok (.aload_n 0, 1) := by decide +kernel
theorem dX5_values_22 : decode cX5_values 22 = .ok (.iload_n 2, 1) := by decide +kernel
theorem dX5_values_23 : decode cX5_values 23 = .ok (.iload_n 3, 1) := by decide +kernel
theorem dX5_values_24 : decode cX5_values 24 = .ok (.invokevirtual 121, 3) := by decide +kernel
theorem dX5_values_27 : decode cX5_values 27 = .ok (.aload_n 0, 1) := by decide +kernel
theorem dX5_values_28 : decode cX5_values 28 = .ok (.bipush 63, 2) := by decide +kernel
theorem dX5_values_30 : decode cX5_values 30 = .ok (.iconst 1, 1) := by decide +kernel
theorem dX5_values_31 : decode cX5_values 31 = .ok (.iload_n 1, 1) := by decide +kernel
theorem dX5_values_32 : decode cX5_values 32 = .ok (.ishl, 1) := by decide +kernel
theorem dX5_values_33 : decode cX5_values 33 = .ok (.ixor, 1) := by decide +kernel
theorem dX5_values_34 : decode cX5_values 34 = .ok (.invokevirtual 129, 3) := by decide +kernel
theorem dX5_values_37 : decode cX5_values 37 = .ok (.ireturn, 1) := by decide +kernel
set_option maxRecDepth 20000 in
theorem ggX5_unlike_X5_isSetOfMarks : GoodIn wsX5_unlike wsX5_isSetOfMarks := goodIn_r _ [4] (by decide +kernel) (by decide +kernel)
set_option maxRecDepth 20000 in
theorem gX5_unlike_X5_isSetOfMarks : GoodIn wsX5_unlike (va_wsS RX5 132 yX5_isSetOfMarks wsX5_isSetOfMarks) := goodIn_app (goodIn_of _ (by decide +kernel)) ggX5_unlike_X5_isSetOfMarks
set_option maxRecDepth 20000 in
theorem ggX5_unlike_X5_isSpan : GoodIn wsX5_unlike wsX5_isSpan := goodIn_r _ [8, 9, 88, 89, 90, 91, 92, 93, 94, 95] (by decide +kernel) (by decide +kernel)
set_option maxRecDepth 20000 in
theorem gX5_unlike_X5_isSpan : GoodIn wsX5_unlike (wsV RX5 108 RX5 yX5_isSpan wsX5_isSpan) := goodIn_app (goodIn_of _ (by decide +kernel)) ggX5_unlike_X5_isSpan
set_option maxRecDepth 20000 in
theorem ggX5_unlike_X5_gatherSeen : GoodIn wsX5_unlike wsX5_gatherSeen := goodIn_r _ [13, 14, 15, 16, 17, 18, 19, 20, 21, 22, 23, 24, 25, 26, 27, 28, 29, 30, 31, 32, 33, 34, 35, 36, 37, 38, 39, 40, 41, 42, 43, 44, 45, 46, 47, 48, 49, 50, 51, 52, 53, 54, 55, 56, 57, 58, 59, 60, 61, 62, 63, 64, 65, 66, 67, 68, 69, 70, 71, 72, 73, 88, 89, 90, 91, 92, 93, 94, 95, 96, 97, 98, 99, 100, 101, 102, 103] (by decide +kernel) (by decide +kernel)
set_option maxRecDepth 20000 in
theorem gX5_unlike_X5_gatherSeen : GoodIn wsX5_unlike (wsV RX5 121 RX5 yX5_gatherSeen wsX5_gatherSeen) := goodIn_app (goodIn_of _ (by decide +kernel)) ggX5_unlike_X5_gatherSeen
set_option maxRecDepth 20000 in
theorem ggX5_unlike_X5_namesLeftWithout : GoodIn wsX5_unlike wsX5_namesLeftWithout := goodIn_r _ [77, 78, 14, 79, 80, 3, 81, 82, 83, 84, 85, 86, 87, 17, 18, 19, 20, 21, 22, 52, 53, 54, 55, 56, 57, 58, 59, 60, 61, 62, 63, 64, 65, 66, 67, 68, 69, 70, 71, 72, 73, 88, 89, 90, 91, 92, 93, 94, 95, 99, 100] (by decide +kernel) (by decide +kernel)
set_option maxRecDepth 20000 in
theorem gX5_unlike_X5_namesLeftWithout : GoodIn wsX5_unlike (wsV RX5 129 RX5 yX5_namesLeftWithout wsX5_namesLeftWithout) := goodIn_app (goodIn_of _ (by decide +kernel)) ggX5_unlike_X5_namesLeftWithout
theorem dX5_unlike_0 : decode cX5_unlike 0 = .ok (.iload_n 1, 1) := by decide +kernel
theorem dX5_unlike_1 : decode cX5_unlike 1 = .ok (.invokestatic 132, 3) := by decide +kernel
theorem dX5_unlike_4 : decode cX5_unlike 4 = .ok (.ifCond .eq 12, 3) := by decide +kernel
theorem dX5_unlike_7 : decode cX5_unlike 7 = .ok (.aload_n 0, 1) := by decide +kernel
theorem dX5_unlike_8 : decode cX5_unlike 8 = .ok (.iload_n 2, 1) := by decide +kernel
theorem dX5_unlike_9 : decode cX5_unlike 9 = .ok (.iload_n 3, 1) := by decide +kernel
theorem dX5_unlike_10 : decode cX5_unlike 10 = .ok (.invokevirtual 108, 3) := by decide +kernel
theorem dX5_unlike_13 : decode cX5_unlike 13 = .ok (.ifCond .ne 6, 3) := by decide +kernel
theorem dX5_unlike_16 : decode cX5_unlike 16 = .ok (.bipush (-2), 2) := by decide +kernel
theorem dX5_unlike_18 : decode cX5_unlike 18 = .ok (.ireturn, 1) := by decide +kernel
theorem dX5_unlike_19 : decode cX5_unlike 19 = .ok (.aload_n 0, 1) := by decide +kernel
theorem dX5_unlike_20 : decode cX5_unlike 20 = .ok (.iload_n 2, 1) := by decide +kernel
theorem dX5_unlike_21 : decode cX5_unlike 21 = .ok (.iload_n 3, 1) := by decide +kernel
theorem dX5_unlike_22 : decode cX5_unlike 22 = .ok (.invokevirtual 121, 3) := by decide +kernel
theorem dX5_unlike_25 : decode cX5_unlike 25 = .ok (.aload_n 0, 1) := by decide +kernel
theorem dX5_unlike_26 : decode cX5_unlike 26 = .ok (.iload_n 1, 1) := by decide +kernel
theorem dX5_unlike_27 : decode cX5_unlike 27 = .ok (.invokevirtual 129, 3) := by decide +kernel
theorem dX5_unlike_30 : decode cX5_unlike 30 = .ok (.ireturn, 1) := by decide +kernel
set_option maxRecDepth 20000 in
theorem ggX5_kept_X5_isSpan : GoodIn wsX5_kept wsX5_isSpan := goodIn_r _ [9, 10, 89, 90, 91, 92, 93, 94, 95, 96] (by decide +kernel) (by decide +kernel)
set_option maxRecDepth 20000 in
theorem gX5_kept_X5_isSpan : GoodIn wsX5_kept (wsV RX5 108 RX5 yX5_isSpan wsX5_isSpan) := goodIn_app (goodIn_of _ (by decide +kernel)) ggX5_kept_X5_isSpan
set_option maxRecDepth 20000 in
theorem ggX5_kept_X1_makeEmpty : GoodIn wsX5_kept wsX1_makeEmpty := goodIn_r _ [15, 16, 100, 101] (by decide +kernel) (by decide +kernel)
set_option maxRecDepth 20000 in
theorem gX5_kept_X1_makeEmpty : GoodIn wsX5_kept (wsV RX5 135 RX1 yX1_makeEmpty wsX1_makeEmpty) := goodIn_app (goodIn_of _ (by decide +kernel)) ggX5_kept_X1_makeEmpty
set_option maxRecDepth 20000 in
theorem ggX5_kept_Jx4a65c_size_8abf5 : GoodIn wsX5_kept wsJx4a65c_size_8abf5 := goodIn_r _ [21, 22, 102, 103, 104] (by decide +kernel) (by decide +kernel)
set_option maxRecDepth 20000 in
theorem gX5_kept_Jx4a65c_size_8abf5 : GoodIn wsX5_kept (wsV RX5 69 RJx4a65c yJx4a65c_size_8abf5 wsJx4a65c_size_8abf5) := goodIn_app (goodIn_of _ (by decide +kernel)) ggX5_kept_Jx4a65c_size_8abf5
set_option maxRecDepth 20000 in
theorem ggX5_kept_Jx4a65c_get_915e3 : GoodIn wsX5_kept wsJx4a65c_get_915e3 := goodIn_r _ [26, 22, 27, 28, 29, 30, 31, 32, 33, 34, 35, 36, 37, 20, 38, 39, 102, 103, 104] (by decide +kernel) (by decide +kernel)
set_option maxRecDepth 20000 in
theorem gX5_kept_Jx4a65c_get_915e3 : GoodIn wsX5_kept (wsV RX5 60 RJx4a65c yJx4a65c_get_915e3 wsJx4a65c_get_915e3) := goodIn_app (goodIn_of _ (by decide +kernel)) ggX5_kept_Jx4a65c_get_915e3
set_option maxRecDepth 20000 in
theorem ggX5_kept_X2_isWithin : GoodIn wsX5_kept wsX2_isWithin := goodIn_r _ [44, 45, 97, 98, 99] (by decide +kernel) (by decide +kernel)
set_option maxRecDepth 20000 in
theorem gX5_kept_X2_isWithin : GoodIn wsX5_kept (wsV RX5 138 RX2 yX2_isWithin wsX2_isWithin) := goodIn_app (goodIn_of _ (by decide +kernel)) ggX5_kept_X2_isWithin
set_option maxRecDepth 20000 in
theorem ggX5_kept_X4_shorten : GoodIn wsX5_kept wsX4_shorten := goodIn_r _ [50, 51, 52, 53, 49, 54, 55, 56, 8, 57, 58, 59, 60, 61, 62, 63, 64, 65, 66, 105, 106] (by decide +kernel) (by decide +kernel)
set_option maxRecDepth 20000 in
theorem gX5_kept_X4_shorten : GoodIn wsX5_kept (wsV RX5 143 RX4 yX4_shorten wsX4_shorten) := goodIn_app (goodIn_of _ (by decide +kernel)) ggX5_kept_X4_shorten
set_option maxRecDepth 20000 in
theorem ggX5_kept_X1_put : GoodIn wsX5_kept wsX1_put := goodIn_r _ [70, 16, 71, 72, 73, 74, 75, 76, 77, 78, 14, 79, 80, 81, 82, 83, 84, 85, 86, 87, 88, 100, 101] (by decide +kernel) (by decide +kernel)
set_option maxRecDepth 20000 in
theorem gX5_kept_X1_put : GoodIn wsX5_kept (wsV RX5 146 RX1 yX1_put wsX1_put) := goodIn_app (goodIn_of _ (by decide +kernel)) ggX5_kept_X1_put
theorem dX5_kept_0 : decode cX5_kept 0 = .ok (.aload_n 0, 1) := by decide +kernel
theorem dX5_kept_1 : decode cX5_kept 1 = .ok (.iload_n 1, 1) := by decide +kernel
theorem dX5_kept_2 : decode cX5_kept 2 = .ok (.iload_n 2, 1) := by decide +kernel
theorem dX5_kept_3 : decode cX5_kept 3 = .ok (.invokevirtual 108, 3) := by decide +kernel
theorem dX5_kept_6 : decode cX5_kept 6 = .ok (.ifCond .ne 6, 3) := by decide +kernel
theorem dX5_kept_9 : decode cX5_kept 9 = .ok (.bipush (-2), 2) := by decide +kernel
theorem dX5_kept_11 : decode cX5_kept 11 = .ok (.ireturn, 1) := by decide +kernel
theorem dX5_kept_12 : decode cX5_kept 12 = .ok (.aload_n 0, 1) := by decide +kernel
theorem dX5_kept_13 : decode cX5_kept 13 = .ok (.getfield 40, 3) := by decide +kernel
theorem dX5_kept_16 : decode cX5_kept 16 = .ok (.invokevirtual 135, 3) := by decide +kernel
theorem dX5_kept_19 : decode cX5_kept 19 = .ok (.iconst 0, 1) := by decide +kernel
theorem dX5_kept_20 : decode cX5_kept 20 = .ok (.istore_n 3, 1) := by decide +kernel
theorem dX5_kept_21 : decode cX5_kept 21 = .ok (.iload_n 3, 1) := by decide +kernel
theorem dX5_kept_22 : decode cX5_kept 22 = .ok (.aload_n 0, 1) := by decide +kernel
theorem dX5_kept_23 : decode cX5_kept 23 = .ok (.getfield 16, 3) := by decide +kernel
theorem dX5_kept_26 : decode cX5_kept 26 = .ok (.invokevirtual 69, 3) := by decide +kernel
theorem dX5_kept_29 : decode cX5_kept 29 = .ok (.if_icmp .ge 56, 3) := by decide +kernel
theorem dX5_kept_32 : decode cX5_kept 32 = .ok (.aload_n 0, 1) := by decide +kernel
theorem dX5_kept_33 : decode cX5_kept 33 = .ok (.getfield 16, 3) := by decide +kernel
theorem dX5_kept_36 : decode cX5_kept 36 = .ok (.iload_n 3, 1) := by decide +kernel
theorem dX5_kept_37 : decode cX5_kept 37 = .ok (.invokevirtual 60, 3) := by decide +kernel
theorem dX5_kept_40 : decode cX5_kept 40 = .ok (.checkcast 83, 3) := by decide +kernel
theorem dX5_kept_43 : decode cX5_kept 43 = .ok (.astore 4, 2) := by decide +kernel
theorem dX5_kept_45 : decode cX5_kept 45 = .ok (.aload 4, 2) := by decide +kernel
theorem dX5_kept_47 : decode cX5_kept 47 = .ok (.iload_n 1, 1) := by decide +kernel
theorem dX5_kept_48 : decode cX5_kept 48 = .ok (.iload_n 2, 1) := by decide +kernel
theorem dX5_kept_49 : decode cX5_kept 49 = .ok (.invokevirtual 138, 3) := by decide +kernel
theorem dX5_kept_52 : decode cX5_kept 52 = .ok (.ifCond .eq 27, 3) := by decide +kernel
theorem dX5_kept_55 : decode cX5_kept 55 = .ok (.aload_n 0, 1) := by decide +kernel
theorem dX5_kept_56 : decode cX5_kept 56 = .ok (.getfield 40, 3) := by decide +kernel
theorem dX5_kept_59 : decode cX5_kept 59 = .ok (.aload_n 0, 1) := by decide +kernel
theorem dX5_kept_60 : decode cX5_kept 60 = .ok (.getfield 25, 3) := by decide +kernel
theorem dX5_kept_63 : decode cX5_kept 63 = .ok (.aload 4, 2) := by decide +kernel
theorem dX5_kept_65 : decode cX5_kept 65 = .ok (.getfield 141, 3) := by decide +kernel
theorem dX5_kept_68 : decode cX5_kept 68 = .ok (.aload 4, 2) := by decide +kernel
theorem dX5_kept_70 : decode cX5_kept 70 = .ok (.getfield 142, 3) := by decide +kernel
theorem dX5_kept_73 : decode cX5_kept 73 = .ok (.invokevirtual 143, 3) := by decide +kernel
theorem dX5_kept_76 : decode cX5_kept 76 = .ok (.invokevirtual 146, 3) := by decide +kernel
theorem dX5_kept_79 : decode cX5_kept 79 = .ok (.iinc 3 1, 3) := by decide +kernel
theorem dX5_kept_82 : decode cX5_kept 82 = .ok (.goto (-61), 3) := by decide +kernel
theorem dX5_kept_85 : decode cX5_kept 85 = .ok (.aload_n 0, 1) := by decide +kernel
theorem dX5_kept_86 : decode cX5_kept 86 = .ok (.getfield 40, 3) := by decide +kernel
theorem dX5_kept_89 : decode cX5_kept 89 = .ok (.getfield 124, 3) := by decide +kernel
theorem dX5_kept_92 : decode cX5_kept 92 = .ok (.ireturn, 1) := by decide +kernel
set_option maxRecDepth 20000 in
theorem ggX5_worst_X5_isSpan : GoodIn wsX5_worst wsX5_isSpan := goodIn_r _ [5, 6, 85, 86, 87, 88, 89, 90, 91, 92] (by decide +kernel) (by decide +kernel)
set_option maxRecDepth 20000 in
theorem gX5_worst_X5_isSpan : GoodIn wsX5_worst (wsV RX5 108 RX5 yX5_isSpan wsX5_isSpan) := goodIn_app (goodIn_of _ (by decide +kernel)) ggX5_worst_X5_isSpan
set_option maxRecDepth 20000 in
theorem ggX5_worst_X5_gatherSeen : GoodIn wsX5_worst wsX5_gatherSeen := goodIn_r _ [10, 11, 12, 13, 14, 15, 16, 17, 18, 19, 20, 21, 22, 23, 24, 25, 26, 27, 28, 29, 30, 31, 32, 33, 34, 35, 36, 37, 38, 39, 40, 41, 42, 43, 44, 45, 46, 47, 48, 49, 50, 51, 52, 53, 54, 55, 56, 57, 58, 59, 60, 61, 62, 63, 64, 65, 66, 67, 68, 69, 70, 85, 86, 87, 88, 89, 90, 91, 92, 93, 94, 95, 96, 97, 98, 99, 100] (by decide +kernel) (by decide +kernel)
set_option maxRecDepth 20000 in
theorem gX5_worst_X5_gatherSeen : GoodIn wsX5_worst (wsV RX5 121 RX5 yX5_gatherSeen wsX5_gatherSeen) := goodIn_app (goodIn_of _ (by decide +kernel)) ggX5_worst_X5_gatherSeen
set_option maxRecDepth 20000 in
theorem ggX5_worst_X5_namesLeftWithout : GoodIn wsX5_worst wsX5_namesLeftWithout := goodIn_r _ [74, 75, 11, 76, 77, 4, 78, 79, 80, 81, 82, 83, 84, 14, 15, 16, 17, 18, 19, 49, 50, 51, 52, 53, 54, 55, 56, 57, 58, 59, 60, 61, 62, 63, 64, 65, 66, 67, 68, 69, 70, 85, 86, 87, 88, 89, 90, 91, 92, 96, 97] (by decide +kernel) (by decide +kernel)
set_option maxRecDepth 20000 in
theorem gX5_worst_X5_namesLeftWithout : GoodIn wsX5_worst (wsV RX5 129 RX5 yX5_namesLeftWithout wsX5_namesLeftWithout) := goodIn_app (goodIn_of _ (by decide +kernel)) ggX5_worst_X5_namesLeftWithout
theorem dX5_worst_0 : decode cX5_worst 0 = .ok (.aload_n 0, 1) := by decide +kernel
theorem dX5_worst_1 : decode cX5_worst 1 = .ok (.iload_n 1, 1) := by decide +kernel
theorem dX5_worst_2 : decode cX5_worst 2 = .ok (.iload_n 2, 1) := by decide +kernel
theorem dX5_worst_3 : decode cX5_worst 3 = .ok (.invokevirtual 108, 3) := by decide +kernel
theorem dX5_worst_6 : decode cX5_worst 6 = .ok (.ifCond .ne 6, 3) := by decide +kernel
theorem dX5_worst_9 : decode cX5_worst 9 = .ok (.bipush (-2), 2) := by decide +kernel
theorem dX5_worst_11 : decode cX5_worst 11 = .ok (.ireturn, 1) := by decide +kernel
theorem dX5_worst_12 : decode cX5_worst 12 = .ok (.aload_n 0, 1) := by decide +kernel
theorem dX5_worst_13 : decode cX5_worst 13 = .ok (.iload_n 1, 1) := by decide +kernel
theorem dX5_worst_14 : decode cX5_worst 14 = .ok (.iload_n 2, 1) := by decide +kernel
theorem dX5_worst_15 : decode cX5_worst 15 = .ok (.invokevirtual 121, 3) := by decide +kernel
theorem dX5_worst_18 : decode cX5_worst 18 = .ok (.iconst 0, 1) := by decide +kernel
theorem dX5_worst_19 : decode cX5_worst 19 = .ok (.istore_n 3, 1) := by decide +kernel
theorem dX5_worst_20 : decode cX5_worst 20 = .ok (.aload_n 0, 1) := by decide +kernel
theorem dX5_worst_21 : decode cX5_worst 21 = .ok (.iconst 1, 1) := by decide +kernel
theorem dX5_worst_22 : decode cX5_worst 22 = .ok (.invokevirtual 129, 3) := by decide +kernel
theorem dX5_worst_25 : decode cX5_worst 25 = .ok (.istore 4, 2) := by decide +kernel
theorem dX5_worst_27 : decode cX5_worst 27 = .ok (.iconst 1, 1) := by decide +kernel
theorem dX5_worst_28 : decode cX5_worst 28 = .ok (.istore 5, 2) := by decide +kernel
theorem dX5_worst_30 : decode cX5_worst 30 = .ok (.iload 5, 2) := by decide +kernel
theorem dX5_worst_32 : decode cX5_worst 32 = .ok (.bipush 6, 2) := by decide +kernel
theorem dX5_worst_34 : decode cX5_worst 34 = .ok (.if_icmp .ge 33, 3) := by decide +kernel
theorem dX5_worst_37 : decode cX5_worst 37 = .ok (.aload_n 0, 1) := by decide +kernel
theorem dX5_worst_38 : decode cX5_worst 38 = .ok (.iconst 1, 1) := by decide +kernel
theorem dX5_worst_39 : decode cX5_worst 39 = .ok (.iload 5, 2) := by decide +kernel
theorem dX5_worst_41 : decode cX5_worst 41 = .ok (.ishl, 1) := by decide +kernel
theorem dX5_worst_42 : decode cX5_worst 42 = .ok (.invokevirtual 129, 3) := by decide +kernel
theorem dX5_worst_45 : decode cX5_worst 45 = .ok (.istore 6, 2) := by decide +kernel
theorem dX5_worst_47 : decode cX5_worst 47 = .ok (.iload 6, 2) := by decide +kernel
theorem dX5_worst_49 : decode cX5_worst 49 = .ok (.iload 4, 2) := by decide +kernel
theorem dX5_worst_51 : decode cX5_worst 51 = .ok (.if_icmp .ge 10, 3) := by decide +kernel
theorem dX5_worst_54 : decode cX5_worst 54 = .ok (.iload 6, 2) := by decide +kernel
theorem dX5_worst_56 : decode cX5_worst 56 = .ok (.istore 4, 2) := by decide +kernel
theorem dX5_worst_58 : decode cX5_worst 58 = .ok (.iload 5, 2) := by decide +kernel
theorem dX5_worst_60 : decode cX5_worst 60 = .ok (.istore_n 3, 1) := by decide +kernel
theorem dX5_worst_61 : decode cX5_worst 61 = .ok (.iinc 5 1, 3) := by decide +kernel
theorem dX5_worst_64 : decode cX5_worst 64 = .ok (.goto (-34), 3) := by decide +kernel
theorem dX5_worst_67 : decode cX5_worst 67 = .ok (.iload_n 3, 1) := by decide +kernel
theorem dX5_worst_68 : decode cX5_worst 68 = .ok (.ireturn, 1) := by decide +kernel
set_option maxRecDepth 20000 in
theorem ggX5_drop_X5_isMark : GoodIn wsX5_drop wsX5_isMark := goodIn_r _ [6] (by decide +kernel) (by decide +kernel)
set_option maxRecDepth 20000 in
theorem gX5_drop_X5_isMark : GoodIn wsX5_drop (va_wsS RX5 126 yX5_isMark wsX5_isMark) := goodIn_app (goodIn_of _ (by decide +kernel)) ggX5_drop_X5_isMark
set_option maxRecDepth 20000 in
theorem ggX5_drop_X4_isDropped : GoodIn wsX5_drop wsX4_isDropped := goodIn_r _ [11, 12, 13, 5, 14, 30, 31] (by decide +kernel) (by decide +kernel)
set_option maxRecDepth 20000 in
theorem gX5_drop_X4_isDropped : GoodIn wsX5_drop (wsV RX5 150 RX4 yX4_isDropped wsX4_isDropped) := goodIn_app (goodIn_of _ (by decide +kernel)) ggX5_drop_X4_isDropped
set_option maxRecDepth 20000 in
theorem ggX5_drop_X5_asNumber : GoodIn wsX5_drop wsX5_asNumber := goodIn_r _ [17] (by decide +kernel) (by decide +kernel)
set_option maxRecDepth 20000 in
theorem gX5_drop_X5_asNumber : GoodIn wsX5_drop (va_wsS RX5 153 yX5_asNumber wsX5_asNumber) := goodIn_app (goodIn_of _ (by decide +kernel)) ggX5_drop_X5_asNumber
set_option maxRecDepth 20000 in
theorem ggX5_drop_X4_setDropped : GoodIn wsX5_drop wsX4_setDropped := goodIn_r _ [21, 12, 30, 31] (by decide +kernel) (by decide +kernel)
set_option maxRecDepth 20000 in
theorem gX5_drop_X4_setDropped : GoodIn wsX5_drop (wsV RX5 157 RX4 yX4_setDropped wsX4_setDropped) := goodIn_app (goodIn_of _ (by decide +kernel)) ggX5_drop_X4_setDropped
theorem dX5_drop_0 : decode cX5_drop 0 = .ok (.iload_n 1, 1) := by decide +kernel
theorem dX5_drop_1 : decode cX5_drop 1 = .ok (.invokestatic 126, 3) := by decide +kernel
theorem dX5_drop_4 : decode cX5_drop 4 = .ok (.ifCond .ne 5, 3) := by decide +kernel
theorem dX5_drop_7 : decode cX5_drop 7 = .ok (.iconst (-1), 1) := by decide +kernel
theorem dX5_drop_8 : decode cX5_drop 8 = .ok (.ireturn, 1) := by decide +kernel
theorem dX5_drop_9 : decode cX5_drop 9 = .ok (.aload_n 0, 1) := by decide +kernel
theorem dX5_drop_10 : decode cX5_drop 10 = .ok (.getfield 25, 3) := by decide +kernel
theorem dX5_drop_13 : decode cX5_drop 13 = .ok (.iload_n 1, 1) := by decide +kernel
theorem dX5_drop_14 : decode cX5_drop 14 = .ok (.aload_n 0, 1) := by decide +kernel
theorem dX5_drop_15 : decode cX5_drop 15 = .ok (.getfield 43, 3) := by decide +kernel
theorem dX5_drop_18 : decode cX5_drop 18 = .ok (.invokevirtual 150, 3) := by decide +kernel
theorem dX5_drop_21 : decode cX5_drop 21 = .ok (.invokestatic 153, 3) := by decide +kernel
theorem dX5_drop_24 : decode cX5_drop 24 = .ok (.istore_n 3, 1) := by decide +kernel
theorem dX5_drop_25 : decode cX5_drop 25 = .ok (.aload_n 0, 1) := by decide +kernel
theorem dX5_drop_26 : decode cX5_drop 26 = .ok (.getfield 25, 3) := by decide +kernel
theorem dX5_drop_29 : decode cX5_drop 29 = .ok (.iload_n 1, 1) := by decide +kernel
theorem dX5_drop_30 : decode cX5_drop 30 = .ok (.iload_n 2, 1) := by decide +kernel
theorem dX5_drop_31 : decode cX5_drop 31 = .ok (.aload_n 0, 1) := by decide +kernel
theorem dX5_drop_32 : decode cX5_drop 32 = .ok (.getfield 43, 3) := by decide +kernel
theorem dX5_drop_35 : decode cX5_drop 35 = .ok (.invokevirtual 157, 3) := by decide +kernel
theorem dX5_drop_38 : decode cX5_drop 38 = .ok (.iload_n 3, 1) := by decide +kernel
theorem dX5_drop_39 : decode cX5_drop 39 = .ok (.ireturn, 1) := by decide +kernel
set_option maxRecDepth 20000 in
theorem ggX5_fold_X5_isMark : GoodIn wsX5_fold wsX5_isMark := goodIn_r _ [6] (by decide +kernel) (by decide +kernel)
set_option maxRecDepth 20000 in
theorem gX5_fold_X5_isMark : GoodIn wsX5_fold (va_wsS RX5 126 yX5_isMark wsX5_isMark) := goodIn_app (goodIn_of _ (by decide +kernel)) ggX5_fold_X5_isMark
set_option maxRecDepth 20000 in
theorem ggX5_fold_X5_isValue : GoodIn wsX5_fold wsX5_isValue := goodIn_r _ [9] (by decide +kernel) (by decide +kernel)
set_option maxRecDepth 20000 in
theorem gX5_fold_X5_isValue : GoodIn wsX5_fold (va_wsS RX5 161 yX5_isValue wsX5_isValue) := goodIn_app (goodIn_of _ (by decide +kernel)) ggX5_fold_X5_isValue
set_option maxRecDepth 20000 in
theorem ggX5_fold_X4_putTogether : GoodIn wsX5_fold wsX4_putTogether := goodIn_r _ [14, 15, 16, 17, 18, 19, 20, 21, 22, 13, 23, 24, 5, 25, 26, 27, 36, 37] (by decide +kernel) (by decide +kernel)
set_option maxRecDepth 20000 in
theorem gX5_fold_X4_putTogether : GoodIn wsX5_fold (wsV RX5 164 RX4 yX4_putTogether wsX4_putTogether) := goodIn_app (goodIn_of _ (by decide +kernel)) ggX5_fold_X4_putTogether
theorem dX5_fold_0 : decode cX5_fold 0 = .ok (.iload_n 1, 1) := by decide +kernel
theorem dX5_fold_1 : decode cX5_fold 1 = .ok (.invokestatic 126, 3) := by decide +kernel
theorem dX5_fold_4 : decode cX5_fold 4 = .ok (.ifCond .eq 17, 3) := by decide +kernel
theorem dX5_fold_7 : decode cX5_fold 7 = .ok (.iload_n 2, 1) := by decide +kernel
theorem dX5_fold_8 : decode cX5_fold 8 = .ok (.invokestatic 161, 3) := by decide +kernel
theorem dX5_fold_11 : decode cX5_fold 11 = .ok (.ifCond .eq 10, 3) := by decide +kernel
theorem dX5_fold_14 : decode cX5_fold 14 = .ok (.iload_n 3, 1) := by decide +kernel
theorem dX5_fold_15 : decode cX5_fold 15 = .ok (.invokestatic 161, 3) := by decide +kernel
theorem dX5_fold_18 : decode cX5_fold 18 = .ok (.ifCond .ne 5, 3) := by decide +kernel
theorem dX5_fold_21 : decode cX5_fold 21 = .ok (.iconst (-1), 1) := by decide +kernel
theorem dX5_fold_22 : decode cX5_fold 22 = .ok (.ireturn, 1) := by decide +kernel
theorem dX5_fold_23 : decode cX5_fold 23 = .ok (.aload_n 0, 1) := by decide +kernel
theorem dX5_fold_24 : decode cX5_fold 24 = .ok (.getfield 25, 3) := by decide +kernel
theorem dX5_fold_27 : decode cX5_fold 27 = .ok (.iload_n 1, 1) := by decide +kernel
theorem dX5_fold_28 : decode cX5_fold 28 = .ok (.iload_n 2, 1) := by decide +kernel
theorem dX5_fold_29 : decode cX5_fold 29 = .ok (.iload_n 3, 1) := by decide +kernel
theorem dX5_fold_30 : decode cX5_fold 30 = .ok (.aload_n 0, 1) := by decide +kernel
theorem dX5_fold_31 : decode cX5_fold 31 = .ok (.getfield 43, 3) := by decide +kernel
theorem dX5_fold_34 : decode cX5_fold 34 = .ok (.invokevirtual 164, 3) := by decide +kernel
theorem dX5_fold_37 : decode cX5_fold 37 = .ok (.ireturn, 1) := by decide +kernel
set_option maxRecDepth 20000 in
theorem ggX5_dropped_X5_isMark : GoodIn wsX5_dropped wsX5_isMark := goodIn_r _ [5] (by decide +kernel) (by decide +kernel)
set_option maxRecDepth 20000 in
theorem gX5_dropped_X5_isMark : GoodIn wsX5_dropped (va_wsS RX5 126 yX5_isMark wsX5_isMark) := goodIn_app (goodIn_of _ (by decide +kernel)) ggX5_dropped_X5_isMark
set_option maxRecDepth 20000 in
theorem ggX5_dropped_X5_isPastTick : GoodIn wsX5_dropped wsX5_isPastTick := goodIn_r _ [9, 10, 22, 23, 24, 25, 26, 27, 28, 29] (by decide +kernel) (by decide +kernel)
set_option maxRecDepth 20000 in
theorem gX5_dropped_X5_isPastTick : GoodIn wsX5_dropped (wsV RX5 168 RX5 yX5_isPastTick wsX5_isPastTick) := goodIn_app (goodIn_of _ (by decide +kernel)) ggX5_dropped_X5_isPastTick
set_option maxRecDepth 20000 in
theorem ggX5_dropped_X4_isDropped : GoodIn wsX5_dropped wsX4_isDropped := goodIn_r _ [15, 16, 17, 4, 18, 30, 31] (by decide +kernel) (by decide +kernel)
set_option maxRecDepth 20000 in
theorem gX5_dropped_X4_isDropped : GoodIn wsX5_dropped (wsV RX5 150 RX4 yX4_isDropped wsX4_isDropped) := goodIn_app (goodIn_of _ (by decide +kernel)) ggX5_dropped_X4_isDropped
set_option maxRecDepth 20000 in
theorem ggX5_dropped_X5_asNumber : GoodIn wsX5_dropped wsX5_asNumber := goodIn_r _ [21] (by decide +kernel) (by decide +kernel)
set_option maxRecDepth 20000 in
theorem gX5_dropped_X5_asNumber : GoodIn wsX5_dropped (va_wsS RX5 153 yX5_asNumber wsX5_asNumber) := goodIn_app (goodIn_of _ (by decide +kernel)) ggX5_dropped_X5_asNumber
theorem dX5_dropped_0 : decode cX5_dropped 0 = .ok (.iload_n 1, 1) := by decide +kernel
theorem dX5_dropped_1 : decode cX5_dropped 1 = .ok (.invokestatic 126, 3) := by decide +kernel
theorem dX5_dropped_4 : decode cX5_dropped 4 = .ok (.ifCond .ne 5, 3) := by decide +kernel
theorem dX5_dropped_7 : decode cX5_dropped 7 = .ok (.iconst (-1), 1) := by decide +kernel
theorem dX5_dropped_8 : decode cX5_dropped 8 = .ok (.ireturn, 1) := by decide +kernel
theorem dX5_dropped_9 : decode cX5_dropped 9 = .ok (.aload_n 0, 1) := by decide +kernel
theorem dX5_dropped_10 : decode cX5_dropped 10 = .ok (.iload_n 2, 1) := by decide +kernel
theorem dX5_dropped_11 : decode cX5_dropped 11 = .ok (.invokevirtual 168, 3) := by decide +kernel
theorem dX5_dropped_14 : decode cX5_dropped 14 = .ok (.ifCond .ne 6, 3) := by decide +kernel
theorem dX5_dropped_17 : decode cX5_dropped 17 = .ok (.bipush (-2), 2) := by decide +kernel
theorem dX5_dropped_19 : decode cX5_dropped 19 = .ok (.ireturn, 1) := by decide +kernel
theorem dX5_dropped_20 : decode cX5_dropped 20 = .ok (.aload_n 0, 1) := by decide +kernel
theorem dX5_dropped_21 : decode cX5_dropped 21 = .ok (.getfield 25, 3) := by decide +kernel
theorem dX5_dropped_24 : decode cX5_dropped 24 = .ok (.iload_n 1, 1) := by decide +kernel
theorem dX5_dropped_25 : decode cX5_dropped 25 = .ok (.iload_n 2, 1) := by decide +kernel
theorem dX5_dropped_26 : decode cX5_dropped 26 = .ok (.invokevirtual 150, 3) := by decide +kernel
theorem dX5_dropped_29 : decode cX5_dropped 29 = .ok (.invokestatic 153, 3) := by decide +kernel
theorem dX5_dropped_32 : decode cX5_dropped 32 = .ok (.ireturn, 1) := by decide +kernel
set_option maxRecDepth 20000 in
theorem ggX5_chief_X5_isMark : GoodIn wsX5_chief wsX5_isMark := goodIn_r _ [5] (by decide +kernel) (by decide +kernel)
set_option maxRecDepth 20000 in
theorem gX5_chief_X5_isMark : GoodIn wsX5_chief (va_wsS RX5 126 yX5_isMark wsX5_isMark) := goodIn_app (goodIn_of _ (by decide +kernel)) ggX5_chief_X5_isMark
set_option maxRecDepth 20000 in
theorem ggX5_chief_X5_isValue : GoodIn wsX5_chief wsX5_isValue := goodIn_r _ [8] (by decide +kernel) (by decide +kernel)
set_option maxRecDepth 20000 in
theorem gX5_chief_X5_isValue : GoodIn wsX5_chief (va_wsS RX5 161 yX5_isValue wsX5_isValue) := goodIn_app (goodIn_of _ (by decide +kernel)) ggX5_chief_X5_isValue
set_option maxRecDepth 20000 in
theorem ggX5_chief_X5_isPastTick : GoodIn wsX5_chief wsX5_isPastTick := goodIn_r _ [12, 13, 22, 23, 24, 25, 26, 27, 28, 29] (by decide +kernel) (by decide +kernel)
set_option maxRecDepth 20000 in
theorem gX5_chief_X5_isPastTick : GoodIn wsX5_chief (wsV RX5 168 RX5 yX5_isPastTick wsX5_isPastTick) := goodIn_app (goodIn_of _ (by decide +kernel)) ggX5_chief_X5_isPastTick
set_option maxRecDepth 20000 in
theorem ggX5_chief_X4_chiefOf : GoodIn wsX5_chief wsX4_chiefOf := goodIn_r _ [18, 19, 20, 4, 21, 30, 31] (by decide +kernel) (by decide +kernel)
set_option maxRecDepth 20000 in
theorem gX5_chief_X4_chiefOf : GoodIn wsX5_chief (wsV RX5 171 RX4 yX4_chiefOf wsX4_chiefOf) := goodIn_app (goodIn_of _ (by decide +kernel)) ggX5_chief_X4_chiefOf
theorem dX5_chief_0 : decode cX5_chief 0 = .ok (.iload_n 1, 1) := by decide +kernel
theorem dX5_chief_1 : decode cX5_chief 1 = .ok (.invokestatic 126, 3) := by decide +kernel
theorem dX5_chief_4 : decode cX5_chief 4 = .ok (.ifCond .eq 10, 3) := by decide +kernel
theorem dX5_chief_7 : decode cX5_chief 7 = .ok (.iload_n 2, 1) := by decide +kernel
theorem dX5_chief_8 : decode cX5_chief 8 = .ok (.invokestatic 161, 3) := by decide +kernel
theorem dX5_chief_11 : decode cX5_chief 11 = .ok (.ifCond .ne 5, 3) := by decide +kernel
theorem dX5_chief_14 : decode cX5_chief 14 = .ok (.iconst (-1), 1) := by decide +kernel
theorem dX5_chief_15 : decode cX5_chief 15 = .ok (.ireturn, 1) := by decide +kernel
theorem dX5_chief_16 : decode cX5_chief 16 = .ok (.aload_n 0, 1) := by decide +kernel
theorem dX5_chief_17 : decode cX5_chief 17 = .ok (.iload_n 3, 1) := by decide +kernel
theorem dX5_chief_18 : decode cX5_chief 18 = .ok (.invokevirtual 168, 3) := by decide +kernel
theorem dX5_chief_21 : decode cX5_chief 21 = .ok (.ifCond .ne 6, 3) := by decide +kernel
theorem dX5_chief_24 : decode cX5_chief 24 = .ok (.bipush (-2), 2) := by decide +kernel
theorem dX5_chief_26 : decode cX5_chief 26 = .ok (.ireturn, 1) := by decide +kernel
theorem dX5_chief_27 : decode cX5_chief 27 = .ok (.aload_n 0, 1) := by decide +kernel
theorem dX5_chief_28 : decode cX5_chief 28 = .ok (.getfield 25, 3) := by decide +kernel
theorem dX5_chief_31 : decode cX5_chief 31 = .ok (.iload_n 1, 1) := by decide +kernel
theorem dX5_chief_32 : decode cX5_chief 32 = .ok (.iload_n 2, 1) := by decide +kernel
theorem dX5_chief_33 : decode cX5_chief 33 = .ok (.iload_n 3, 1) := by decide +kernel
theorem dX5_chief_34 : decode cX5_chief 34 = .ok (.invokevirtual 171, 3) := by decide +kernel
theorem dX5_chief_37 : decode cX5_chief 37 = .ok (.ireturn, 1) := by decide +kernel
set_option maxRecDepth 20000 in
theorem ggX5_shortAt_X5_isName : GoodIn wsX5_shortAt wsX5_isName := goodIn_r _ [5, 6] (by decide +kernel) (by decide +kernel)
set_option maxRecDepth 20000 in
theorem gX5_shortAt_X5_isName : GoodIn wsX5_shortAt (va_wsS RX5 51 yX5_isName wsX5_isName) := goodIn_app (goodIn_of _ (by decide +kernel)) ggX5_shortAt_X5_isName
set_option maxRecDepth 20000 in
theorem ggX5_shortAt_X5_isPastTick : GoodIn wsX5_shortAt wsX5_isPastTick := goodIn_r _ [10, 11, 33, 34, 35, 36, 37, 38, 39, 40] (by decide +kernel) (by decide +kernel)
set_option maxRecDepth 20000 in
theorem gX5_shortAt_X5_isPastTick : GoodIn wsX5_shortAt (wsV RX5 168 RX5 yX5_isPastTick wsX5_isPastTick) := goodIn_app (goodIn_of _ (by decide +kernel)) ggX5_shortAt_X5_isPastTick
set_option maxRecDepth 20000 in
theorem ggX5_shortAt_X4_shorten : GoodIn wsX5_shortAt wsX4_shorten := goodIn_r _ [16, 17, 18, 19, 15, 20, 21, 22, 4, 23, 24, 25, 26, 27, 28, 29, 30, 31, 32, 41, 42] (by decide +kernel) (by decide +kernel)
set_option maxRecDepth 20000 in
theorem gX5_shortAt_X4_shorten : GoodIn wsX5_shortAt (wsV RX5 143 RX4 yX4_shorten wsX4_shorten) := goodIn_app (goodIn_of _ (by decide +kernel)) ggX5_shortAt_X4_shorten
theorem dX5_shortAt_0 : decode cX5_shortAt 0 = .ok (.iload_n 1, 1) := by decide +kernel
theorem dX5_shortAt_1 : decode cX5_shortAt 1 = .ok (.invokestatic 51, 3) := by decide +kernel
theorem dX5_shortAt_4 : decode cX5_shortAt 4 = .ok (.ifCond .eq 11, 3) := by decide +kernel
theorem dX5_shortAt_7 : decode cX5_shortAt 7 = .ok (.aload_n 0, 1) := by decide +kernel
theorem dX5_shortAt_8 : decode cX5_shortAt 8 = .ok (.iload_n 2, 1) := by decide +kernel
theorem dX5_shortAt_9 : decode cX5_shortAt 9 = .ok (.invokevirtual 168, 3) := by decide +kernel
theorem dX5_shortAt_12 : decode cX5_shortAt 12 = .ok (.ifCond .ne 6, 3) := by decide +kernel
theorem dX5_shortAt_15 : decode cX5_shortAt 15 = .ok (.bipush (-2), 2) := by decide +kernel
theorem dX5_shortAt_17 : decode cX5_shortAt 17 = .ok (.ireturn, 1) := by decide +kernel
theorem dX5_shortAt_18 : decode cX5_shortAt 18 = .ok (.aload_n 0, 1) := by decide +kernel
theorem dX5_shortAt_19 : decode cX5_shortAt 19 = .ok (.getfield 25, 3) := by decide +kernel
theorem dX5_shortAt_22 : decode cX5_shortAt 22 = .ok (.iload_n 1, 1) := by decide +kernel
theorem dX5_shortAt_23 : decode cX5_shortAt 23 = .ok (.iload_n 2, 1) := by decide +kernel
theorem dX5_shortAt_24 : decode cX5_shortAt 24 = .ok (.invokevirtual 143, 3) := by decide +kernel
theorem dX5_shortAt_27 : decode cX5_shortAt 27 = .ok (.ireturn, 1) := by decide +kernel
set_option maxRecDepth 20000 in
theorem ggX5_ask_X5_isSetOfMarks : GoodIn wsX5_ask wsX5_isSetOfMarks := goodIn_r _ [8] (by decide +kernel) (by decide +kernel)
set_option maxRecDepth 20000 in
theorem gX5_ask_X5_isSetOfMarks : GoodIn wsX5_ask (va_wsS RX5 132 yX5_isSetOfMarks wsX5_isSetOfMarks) := goodIn_app (goodIn_of _ (by decide +kernel)) ggX5_ask_X5_isSetOfMarks
set_option maxRecDepth 20000 in
theorem ggX5_ask_X5_isMark : GoodIn wsX5_ask wsX5_isMark := goodIn_r _ [11] (by decide +kernel) (by decide +kernel)
set_option maxRecDepth 20000 in
theorem gX5_ask_X5_isMark : GoodIn wsX5_ask (va_wsS RX5 126 yX5_isMark wsX5_isMark) := goodIn_app (goodIn_of _ (by decide +kernel)) ggX5_ask_X5_isMark
set_option maxRecDepth 20000 in
theorem ggX5_ask_X5_isValue : GoodIn wsX5_ask wsX5_isValue := goodIn_r _ [14] (by decide +kernel) (by decide +kernel)
set_option maxRecDepth 20000 in
theorem gX5_ask_X5_isValue : GoodIn wsX5_ask (va_wsS RX5 161 yX5_isValue wsX5_isValue) := goodIn_app (goodIn_of _ (by decide +kernel)) ggX5_ask_X5_isValue
set_option maxRecDepth 20000 in
theorem ggX5_ask_X5_hasBit : GoodIn wsX5_ask wsX5_hasBit := goodIn_r _ [17] (by decide +kernel) (by decide +kernel)
set_option maxRecDepth 20000 in
theorem gX5_ask_X5_hasBit : GoodIn wsX5_ask (va_wsS RX5 175 yX5_hasBit wsX5_hasBit) := goodIn_app (goodIn_of _ (by decide +kernel)) ggX5_ask_X5_hasBit
set_option maxRecDepth 20000 in
theorem ggX5_ask_Jx4a65c_size_8abf5 : GoodIn wsX5_ask wsJx4a65c_size_8abf5 := goodIn_r _ [22, 23, 106, 107, 108] (by decide +kernel) (by decide +kernel)
set_option maxRecDepth 20000 in
theorem gX5_ask_Jx4a65c_size_8abf5 : GoodIn wsX5_ask (wsV RX5 69 RJx4a65c yJx4a65c_size_8abf5 wsJx4a65c_size_8abf5) := goodIn_app (goodIn_of _ (by decide +kernel)) ggX5_ask_Jx4a65c_size_8abf5
set_option maxRecDepth 20000 in
theorem ggX5_ask_X0_init : GoodIn wsX5_ask wsX0_init := goodIn_r _ [26, 27, 28, 29, 30, 31, 32, 33, 34, 7, 35, 15, 16, 17, 36, 37, 38, 101, 102, 103, 104, 105] (by decide +kernel) (by decide +kernel)
set_option maxRecDepth 20000 in
theorem gX5_ask_X0_init : GoodIn wsX5_ask (wsX0_init) := ggX5_ask_X0_init
set_option maxRecDepth 20000 in
theorem ggX5_ask_Jx4a65c_add_9ea2d : GoodIn wsX5_ask wsJx4a65c_add_9ea2d := goodIn_r _ [42, 43, 44, 45, 23, 46, 47, 48, 21, 49, 50, 51, 52, 53, 54, 55, 56, 57, 58, 59, 60, 61, 62, 63, 64, 65, 66, 67, 68, 69, 70, 71, 72, 73, 74, 75, 76, 77, 78, 79, 80, 81, 82, 83, 84, 85, 86, 87, 88, 89, 90, 91, 92, 106, 107, 108] (by decide +kernel) (by decide +kernel)
set_option maxRecDepth 20000 in
theorem gX5_ask_Jx4a65c_add_9ea2d : GoodIn wsX5_ask (wsV RX5 75 RJx4a65c yJx4a65c_add_9ea2d wsJx4a65c_add_9ea2d) := goodIn_app (goodIn_of _ (by decide +kernel)) ggX5_ask_Jx4a65c_add_9ea2d
theorem dX5_ask_0 : decode cX5_ask 0 = .ok (.iload_n 1, 1) := by decide +kernel
theorem dX5_ask_1 : decode cX5_ask 1 = .ok (.invokestatic 132, 3) := by decide +kernel
theorem dX5_ask_4 : decode cX5_ask 4 = .ok (.ifCond .ne 6, 3) := by decide +kernel
theorem dX5_ask_7 : decode cX5_ask 7 = .ok (.bipush (-2), 2) := by decide +kernel
theorem dX5_ask_9 : decode cX5_ask 9 = .ok (.ireturn, 1) := by decide +kernel
theorem dX5_ask_10 : decode cX5_ask 10 = .ok (.iload_n 2, 1) := by decide +kernel
theorem dX5_ask_11 : decode cX5_ask 11 = .ok (.bipush (-9), 2) := by decide +kernel
theorem dX5_ask_13 : decode cX5_ask 13 = .ok (.if_icmp .eq 7, 3) := by decide +kernel
theorem dX5_ask_16 : decode cX5_ask 16 = .ok (.iconst 1, 1) := by decide +kernel
theorem dX5_ask_17 : decode cX5_ask 17 = .ok (.goto 4, 3) := by decide +kernel
theorem dX5_ask_20 : decode cX5_ask 20 = .ok (.iconst 0, 1) := by decide +kernel
theorem dX5_ask_21 : decode cX5_ask 21 = .ok (.istore 4, 2) := by decide +kernel
theorem dX5_ask_23 : decode cX5_ask 23 = .ok (.iload 4, 2) := by decide +kernel
theorem dX5_ask_25 : decode cX5_ask 25 = .ok (.ifCond .eq 19, 3) := by decide +kernel
theorem dX5_ask_28 : decode cX5_ask 28 = .ok (.iload_n 2, 1) := by decide +kernel
theorem dX5_ask_29 : decode cX5_ask 29 = .ok (.invokestatic 126, 3) := by decide +kernel
theorem dX5_ask_32 : decode cX5_ask 32 = .ok (.ifCond .eq 10, 3) := by decide +kernel
theorem dX5_ask_35 : decode cX5_ask 35 = .ok (.iload_n 3, 1) := by decide +kernel
theorem dX5_ask_36 : decode cX5_ask 36 = .ok (.invokestatic 161, 3) := by decide +kernel
theorem dX5_ask_39 : decode cX5_ask 39 = .ok (.ifCond .ne 5, 3) := by decide +kernel
theorem dX5_ask_42 : decode cX5_ask 42 = .ok (.iconst (-1), 1) := by decide +kernel
theorem dX5_ask_43 : decode cX5_ask 43 = .ok (.ireturn, 1) := by decide +kernel
theorem dX5_ask_44 : decode cX5_ask 44 = .ok (.iload 4, 2) := by decide +kernel
theorem dX5_ask_46 : decode cX5_ask 46 = .ok (.ifCond .eq 14, 3) := by decide +kernel
theorem dX5_ask_49 : decode cX5_ask 49 = .ok (.iload_n 1, 1) := by decide +kernel
theorem dX5_ask_50 : decode cX5_ask 50 = .ok (.iload_n 2, 1) := by decide +kernel
theorem dX5_ask_51 : decode cX5_ask 51 = .ok (.invokestatic 175, 3) := by decide +kernel
theorem dX5_ask_54 : decode cX5_ask 54 = .ok (.ifCond .ne 6, 3) := by decide +kernel
theorem dX5_ask_57 : decode cX5_ask 57 = .ok (.bipush (-3), 2) := by decide +kernel
theorem dX5_ask_59 : decode cX5_ask 59 = .ok (.ireturn, 1) := by decide +kernel
theorem dX5_ask_60 : decode cX5_ask 60 = .ok (.aload_n 0, 1) := by decide +kernel
theorem dX5_ask_61 : decode cX5_ask 61 = .ok (.getfield 19, 3) := by decide +kernel
theorem dX5_ask_64 : decode cX5_ask 64 = .ok (.invokevirtual 69, 3) := by decide +kernel
theorem dX5_ask_67 : decode cX5_ask 67 = .ok (.bipush 10, 2) := by decide +kernel
theorem dX5_ask_69 : decode cX5_ask 69 = .ok (.if_icmp .lt 6, 3) := by decide +kernel
theorem dX5_ask_72 : decode cX5_ask 72 = .ok (.bipush (-4), 2) := by decide +kernel
theorem dX5_ask_74 : decode cX5_ask 74 = .ok (.ireturn, 1) := by decide +kernel
theorem dX5_ask_75 : decode cX5_ask 75 = .ok (.aload_n 0, 1) := by decide +kernel
theorem dX5_ask_76 : decode cX5_ask 76 = .ok (.getfield 19, 3) := by decide +kernel
theorem dX5_ask_79 : decode cX5_ask 79 = .ok (.iload 4, 2) := by decide +kernel
theorem dX5_ask_81 : decode cX5_ask 81 = .ok (.ifCond .eq 16, 3) := by decide +kernel
theorem dX5_ask_84 : decode cX5_ask 84 = .ok (.new 178, 3) := by decide +kernel
theorem dX5_ask_87 : decode cX5_ask 87 = .ok (.dup, 1) := by decide +kernel
theorem dX5_ask_88 : decode cX5_ask 88 = .ok (.iload_n 1, 1) := by decide +kernel
theorem dX5_ask_89 : decode cX5_ask 89 = .ok (.iload_n 2, 1) := by decide +kernel
theorem dX5_ask_90 : decode cX5_ask 90 = .ok (.iload_n 3, 1) := by decide +kernel
theorem dX5_ask_91 : decode cX5_ask 91 = .ok (.invokespecial 180, 3) := by decide +kernel
theorem dX5_ask_94 : decode cX5_ask 94 = .ok (.goto 14, 3) := by decide +kernel
theorem dX5_ask_97 : decode cX5_ask 97 = .ok (.new 178, 3) := by decide +kernel
theorem dX5_ask_100 : decode cX5_ask 100 = .ok (.dup, 1) := by decide +kernel
theorem dX5_ask_101 : decode cX5_ask 101 = .ok (.iload_n 1, 1) := by decide +kernel
theorem dX5_ask_102 : decode cX5_ask 102 = .ok (.bipush (-9), 2) := by decide +kernel
theorem dX5_ask_104 : decode cX5_ask 104 = .ok (.iconst 0, 1) := by decide +kernel
theorem dX5_ask_105 : decode cX5_ask 105 = .ok (.invokespecial 180, 3) := by decide +kernel
theorem dX5_ask_108 : decode cX5_ask 108 = .ok (.invokevirtual 75, 3) := by decide +kernel
theorem dX5_ask_111 : decode cX5_ask 111 = .ok (.pop, 1) := by decide +kernel
theorem dX5_ask_112 : decode cX5_ask 112 = .ok (.aload_n 0, 1) := by decide +kernel
theorem dX5_ask_113 : decode cX5_ask 113 = .ok (.getfield 19, 3) := by decide +kernel
theorem dX5_ask_116 : decode cX5_ask 116 = .ok (.invokevirtual 69, 3) := by decide +kernel
theorem dX5_ask_119 : decode cX5_ask 119 = .ok (.iconst 1, 1) := by decide +kernel
theorem dX5_ask_120 : decode cX5_ask 120 = .ok (.isub, 1) := by decide +kernel
theorem dX5_ask_121 : decode cX5_ask 121 = .ok (.ireturn, 1) := by decide +kernel
set_option maxRecDepth 20000 in
theorem ggX5_answer_X5_isAsking : GoodIn wsX5_answer wsX5_isAsking := goodIn_r _ [9, 2, 10, 11, 12, 13, 14, 15, 64, 65, 66, 67, 68, 69, 70, 71, 77, 78, 79] (by decide +kernel) (by decide +kernel)
set_option maxRecDepth 20000 in
theorem gX5_answer_X5_isAsking : GoodIn wsX5_answer (wsV RX5 181 RX5 yX5_isAsking wsX5_isAsking) := goodIn_app (goodIn_of _ (by decide +kernel)) ggX5_answer_X5_isAsking
set_option maxRecDepth 20000 in
theorem ggX5_answer_Jx4a65c_get_915e3 : GoodIn wsX5_answer wsJx4a65c_get_915e3 := goodIn_r _ [19, 15, 20, 21, 22, 23, 24, 25, 26, 27, 28, 29, 30, 13, 31, 32, 77, 78, 79] (by decide +kernel) (by decide +kernel)
set_option maxRecDepth 20000 in
theorem gX5_answer_Jx4a65c_get_915e3 : GoodIn wsX5_answer (wsV RX5 60 RJx4a65c yJx4a65c_get_915e3 wsJx4a65c_get_915e3) := goodIn_app (goodIn_of _ (by decide +kernel)) ggX5_answer_Jx4a65c_get_915e3
set_option maxRecDepth 20000 in
theorem ggX5_answer_X5_isName : GoodIn wsX5_answer wsX5_isName := goodIn_r _ [35, 36] (by decide +kernel) (by decide +kernel)
set_option maxRecDepth 20000 in
theorem gX5_answer_X5_isName : GoodIn wsX5_answer (va_wsS RX5 51 yX5_isName wsX5_isName) := goodIn_app (goodIn_of _ (by decide +kernel)) ggX5_answer_X5_isName
set_option maxRecDepth 20000 in
theorem ggX5_answer_X0_keyOf : GoodIn wsX5_answer wsX0_keyOf := goodIn_r _ [41, 42, 43, 44, 45, 8, 46, 72, 73, 74, 75, 76] (by decide +kernel) (by decide +kernel)
set_option maxRecDepth 20000 in
theorem gX5_answer_X0_keyOf : GoodIn wsX5_answer (wsV RX5 184 RX0 yX0_keyOf wsX0_keyOf) := goodIn_app (goodIn_of _ (by decide +kernel)) ggX5_answer_X0_keyOf
set_option maxRecDepth 20000 in
theorem ggX5_answer_X5_isSpan : GoodIn wsX5_answer wsX5_isSpan := goodIn_r _ [50, 51, 64, 65, 66, 67, 68, 69, 70, 71] (by decide +kernel) (by decide +kernel)
set_option maxRecDepth 20000 in
theorem gX5_answer_X5_isSpan : GoodIn wsX5_answer (wsV RX5 108 RX5 yX5_isSpan wsX5_isSpan) := goodIn_app (goodIn_of _ (by decide +kernel)) ggX5_answer_X5_isSpan
set_option maxRecDepth 20000 in
theorem ggX5_answer_X5_growthOfAlike : GoodIn wsX5_answer wsX5_growthOfAlike := goodIn_r _ [55, 56, 57, 10, 11, 12, 13, 14, 15, 16, 17, 18, 19, 20, 21, 22, 23, 24, 25, 26, 27, 28, 29, 30, 31, 32, 58, 59, 60, 61, 62, 63, 64, 65, 66, 67, 68, 69, 70, 71, 80, 81, 82, 77, 78, 79] (by decide +kernel) (by decide +kernel)
set_option maxRecDepth 20000 in
theorem gX5_answer_X5_growthOfAlike : GoodIn wsX5_answer (wsV RX5 117 RX5 yX5_growthOfAlike wsX5_growthOfAlike) := goodIn_app (goodIn_of _ (by decide +kernel)) ggX5_answer_X5_growthOfAlike
theorem dX5_answer_0 : decode cX5_answer 0 = .ok (.aload_n 0, 1) := by decide +kernel
theorem dX5_answer_1 : decode cX5_answer 1 = .ok (.iload_n 1, 1) := by decide +kernel
theorem dX5_answer_2 : decode cX5_answer 2 = .ok (.invokevirtual 181, 3) := by decide +kernel
theorem dX5_answer_5 : decode cX5_answer 5 = .ok (.ifCond .ne 7, 3) := by decide +kernel
theorem dX5_answer_8 : decode cX5_answer 8 = .ok (.ldc2_w 106, 3) := by decide +kernel
theorem dX5_answer_11 : decode cX5_answer 11 = .ok (.lreturn, 1) := by decide +kernel
theorem dX5_answer_12 : decode cX5_answer 12 = .ok (.aload_n 0, 1) := by decide +kernel
theorem dX5_answer_13 : decode cX5_answer 13 = .ok (.getfield 19, 3) := by decide +kernel
theorem dX5_answer_16 : decode cX5_answer 16 = .ok (.iload_n 1, 1) := by decide +kernel
theorem dX5_answer_17 : decode cX5_answer 17 = .ok (.invokevirtual 60, 3) := by decide +kernel
theorem dX5_answer_20 : decode cX5_answer 20 = .ok (.checkcast 178, 3) := by decide +kernel
theorem dX5_answer_23 : decode cX5_answer 23 = .ok (.astore 5, 2) := by decide +kernel
theorem dX5_answer_25 : decode cX5_answer 25 = .ok (.iload_n 2, 1) := by decide +kernel
theorem dX5_answer_26 : decode cX5_answer 26 = .ok (.invokestatic 51, 3) := by decide +kernel
theorem dX5_answer_29 : decode cX5_answer 29 = .ok (.ifCond .eq 23, 3) := by decide +kernel
theorem dX5_answer_32 : decode cX5_answer 32 = .ok (.aload 5, 2) := by decide +kernel
theorem dX5_answer_34 : decode cX5_answer 34 = .ok (.iload_n 2, 1) := by decide +kernel
theorem dX5_answer_35 : decode cX5_answer 35 = .ok (.invokevirtual 184, 3) := by decide +kernel
theorem dX5_answer_38 : decode cX5_answer 38 = .ok (.iload_n 2, 1) := by decide +kernel
theorem dX5_answer_39 : decode cX5_answer 39 = .ok (.if_icmp .ne 13, 3) := by decide +kernel
theorem dX5_answer_42 : decode cX5_answer 42 = .ok (.aload_n 0, 1) := by decide +kernel
theorem dX5_answer_43 : decode cX5_answer 43 = .ok (.iload_n 3, 1) := by decide +kernel
theorem dX5_answer_44 : decode cX5_answer 44 = .ok (.iload 4, 2) := by decide +kernel
theorem dX5_answer_46 : decode cX5_answer 46 = .ok (.invokevirtual 108, 3) := by decide +kernel
theorem dX5_answer_49 : decode cX5_answer 49 = .ok (.ifCond .ne 7, 3) := by decide +kernel
theorem dX5_answer_52 : decode cX5_answer 52 = .ok (.ldc2_w 112, 3) := by decide +kernel
theorem dX5_answer_55 : decode cX5_answer 55 = .ok (.lreturn, 1) := by decide +kernel
theorem dX5_answer_56 : decode cX5_answer 56 = .ok (.aload_n 0, 1) := by decide +kernel
theorem dX5_answer_57 : decode cX5_answer 57 = .ok (.aload 5, 2) := by decide +kernel
theorem dX5_answer_59 : decode cX5_answer 59 = .ok (.getfield 187, 3) := by decide +kernel
theorem dX5_answer_62 : decode cX5_answer 62 = .ok (.iload_n 2, 1) := by decide +kernel
theorem dX5_answer_63 : decode cX5_answer 63 = .ok (.iload_n 3, 1) := by decide +kernel
theorem dX5_answer_64 : decode cX5_answer 64 = .ok (.iload 4, 2) := by decide +kernel
theorem dX5_answer_66 : decode cX5_answer 66 = .ok (.invokevirtual 117, 3) := by decide +kernel
theorem dX5_answer_69 : decode cX5_answer 69 = .ok (.lreturn, 1) := by decide +kernel
set_option maxRecDepth 20000 in
theorem ggX5_keys_X5_isAsking : GoodIn wsX5_keys wsX5_isAsking := goodIn_r _ [8, 1, 9, 10, 11, 12, 13, 14, 92, 93, 94, 95, 96, 97, 98, 99, 102, 103, 104] (by decide +kernel) (by decide +kernel)
set_option maxRecDepth 20000 in
theorem gX5_keys_X5_isAsking : GoodIn wsX5_keys (wsV RX5 181 RX5 yX5_isAsking wsX5_isAsking) := goodIn_app (goodIn_of _ (by decide +kernel)) ggX5_keys_X5_isAsking
set_option maxRecDepth 20000 in
theorem ggX5_keys_X5_isSpan : GoodIn wsX5_keys wsX5_isSpan := goodIn_r _ [18, 19, 92, 93, 94, 95, 96, 97, 98, 99] (by decide +kernel) (by decide +kernel)
set_option maxRecDepth 20000 in
theorem gX5_keys_X5_isSpan : GoodIn wsX5_keys (wsV RX5 108 RX5 yX5_isSpan wsX5_isSpan) := goodIn_app (goodIn_of _ (by decide +kernel)) ggX5_keys_X5_isSpan
set_option maxRecDepth 20000 in
theorem ggX5_keys_Jx4a65c_get_915e3 : GoodIn wsX5_keys wsJx4a65c_get_915e3 := goodIn_r _ [23, 14, 24, 25, 26, 27, 28, 29, 30, 31, 32, 33, 34, 12, 35, 36, 102, 103, 104] (by decide +kernel) (by decide +kernel)
set_option maxRecDepth 20000 in
theorem gX5_keys_Jx4a65c_get_915e3 : GoodIn wsX5_keys (wsV RX5 60 RJx4a65c yJx4a65c_get_915e3 wsJx4a65c_get_915e3) := goodIn_app (goodIn_of _ (by decide +kernel)) ggX5_keys_Jx4a65c_get_915e3
set_option maxRecDepth 20000 in
theorem ggX5_keys_X5_gatherKeys : GoodIn wsX5_keys wsX5_gatherKeys := goodIn_r _ [40, 3, 41, 42, 43, 44, 7, 45, 46, 47, 48, 49, 50, 51, 52, 53, 9, 10, 11, 12, 13, 14, 20, 21, 22, 23, 24, 25, 26, 27, 28, 29, 30, 31, 32, 33, 34, 35, 36, 54, 55, 56, 57, 58, 59, 60, 61, 62, 63, 64, 65, 66, 67, 68, 69, 70, 71, 72, 73, 74, 75, 76, 77, 78, 79, 80, 81, 82, 83, 84, 85, 86, 87, 88, 89, 90, 91, 92, 93, 94, 95, 96, 97, 98, 99, 100, 101, 105, 106, 107, 102, 103, 104, 108, 109, 110, 111, 112] (by decide +kernel) (by decide +kernel)
set_option maxRecDepth 20000 in
theorem gX5_keys_X5_gatherKeys : GoodIn wsX5_keys (wsV RX5 190 RX5 yX5_gatherKeys wsX5_gatherKeys) := goodIn_app (goodIn_of _ (by decide +kernel)) ggX5_keys_X5_gatherKeys
theorem dX5_keys_0 : decode cX5_keys 0 = .ok (.aload_n 0, 1) := by decide +kernel
theorem dX5_keys_1 : decode cX5_keys 1 = .ok (.iload_n 1, 1) := by decide +kernel
theorem dX5_keys_2 : decode cX5_keys 2 = .ok (.invokevirtual 181, 3) := by decide +kernel
theorem dX5_keys_5 : decode cX5_keys 5 = .ok (.ifCond .ne 5, 3) := by decide +kernel
theorem dX5_keys_8 : decode cX5_keys 8 = .ok (.iconst (-1), 1) := by decide +kernel
theorem dX5_keys_9 : decode cX5_keys 9 = .ok (.ireturn, 1) := by decide +kernel
theorem dX5_keys_10 : decode cX5_keys 10 = .ok (.aload_n 0, 1) := by decide +kernel
theorem dX5_keys_11 : decode cX5_keys 11 = .ok (.iload_n 2, 1) := by decide +kernel
theorem dX5_keys_12 : decode cX5_keys 12 = .ok (.iload_n 3, 1) := by decide +kernel
theorem dX5_keys_13 : decode cX5_keys 13 = .ok (.invokevirtual 108, 3) := by decide +kernel
theorem dX5_keys_16 : decode cX5_keys 16 = .ok (.ifCond .ne 6, 3) := by decide +kernel
theorem dX5_keys_19 : decode cX5_keys 19 = .ok (.bipush (-2), 2) := by decide +kernel
theorem dX5_keys_21 : decode cX5_keys 21 = .ok (.ireturn, 1) := by decide +kernel
theorem dX5_keys_22 : decode cX5_keys 22 = .ok (.aload_n 0, 1) := by decide +kernel
theorem dX5_keys_23 : decode cX5_keys 23 = .ok (.aload_n 0, 1) := by decide +kernel
theorem dX5_keys_24 : decode cX5_keys 24 = .ok (.getfield 19, 3) := by decide +kernel
theorem dX5_keys_27 : decode cX5_keys 27 = .ok (.iload_n 1, 1) := by decide +kernel
theorem dX5_keys_28 : decode cX5_keys 28 = .ok (.invokevirtual 60, 3) := by decide +kernel
theorem dX5_keys_31 : decode cX5_keys 31 = .ok (.checkcast 178, 3) := by decide +kernel
theorem dX5_keys_34 : decode cX5_keys 34 = .ok (.iload_n 2, 1) := by decide +kernel
theorem dX5_keys_35 : decode cX5_keys 35 = .ok (.iload_n 3, 1) := by decide +kernel
theorem dX5_keys_36 : decode cX5_keys 36 = .ok (.invokevirtual 190, 3) := by decide +kernel
theorem dX5_keys_39 : decode cX5_keys 39 = .ok (.aload_n 0, 1) := by decide +kernel
theorem dX5_keys_40 : decode cX5_keys 40 = .ok (.getfield 40, 3) := by decide +kernel
theorem dX5_keys_43 : decode cX5_keys 43 = .ok (.getfield 124, 3) := by decide +kernel
theorem dX5_keys_46 : decode cX5_keys 46 = .ok (.ireturn, 1) := by decide +kernel
set_option maxRecDepth 20000 in
theorem ggX5_key_X5_isAsking : GoodIn wsX5_key wsX5_isAsking := goodIn_r _ [8, 1, 9, 10, 11, 12, 13, 14, 92, 93, 94, 95, 96, 97, 98, 99, 102, 103, 104] (by decide +kernel) (by decide +kernel)
set_option maxRecDepth 20000 in
theorem gX5_key_X5_isAsking : GoodIn wsX5_key (wsV RX5 181 RX5 yX5_isAsking wsX5_isAsking) := goodIn_app (goodIn_of _ (by decide +kernel)) ggX5_key_X5_isAsking
set_option maxRecDepth 20000 in
theorem ggX5_key_X5_isSpan : GoodIn wsX5_key wsX5_isSpan := goodIn_r _ [18, 19, 92, 93, 94, 95, 96, 97, 98, 99] (by decide +kernel) (by decide +kernel)
set_option maxRecDepth 20000 in
theorem gX5_key_X5_isSpan : GoodIn wsX5_key (wsV RX5 108 RX5 yX5_isSpan wsX5_isSpan) := goodIn_app (goodIn_of _ (by decide +kernel)) ggX5_key_X5_isSpan
set_option maxRecDepth 20000 in
theorem ggX5_key_Jx4a65c_get_915e3 : GoodIn wsX5_key wsJx4a65c_get_915e3 := goodIn_r _ [23, 14, 24, 25, 26, 27, 28, 29, 30, 31, 32, 33, 34, 12, 35, 36, 102, 103, 104] (by decide +kernel) (by decide +kernel)
set_option maxRecDepth 20000 in
theorem gX5_key_Jx4a65c_get_915e3 : GoodIn wsX5_key (wsV RX5 60 RJx4a65c yJx4a65c_get_915e3 wsJx4a65c_get_915e3) := goodIn_app (goodIn_of _ (by decide +kernel)) ggX5_key_Jx4a65c_get_915e3
set_option maxRecDepth 20000 in
theorem ggX5_key_X5_gatherKeys : GoodIn wsX5_key wsX5_gatherKeys := goodIn_r _ [40, 3, 41, 42, 43, 44, 7, 45, 46, 47, 48, 49, 50, 51, 52, 53, 9, 10, 11, 12, 13, 14, 20, 21, 22, 23, 24, 25, 26, 27, 28, 29, 30, 31, 32, 33, 34, 35, 36, 54, 55, 56, 57, 58, 59, 60, 61, 62, 63, 64, 65, 66, 67, 68, 69, 70, 71, 72, 73, 74, 75, 76, 77, 78, 79, 80, 81, 82, 83, 84, 85, 86, 87, 88, 89, 90, 91, 92, 93, 94, 95, 96, 97, 98, 99, 100, 101, 105, 106, 107, 102, 103, 104, 108, 109, 110, 111, 112] (by decide +kernel) (by decide +kernel)
set_option maxRecDepth 20000 in
theorem gX5_key_X5_gatherKeys : GoodIn wsX5_key (wsV RX5 190 RX5 yX5_gatherKeys wsX5_gatherKeys) := goodIn_app (goodIn_of _ (by decide +kernel)) ggX5_key_X5_gatherKeys
theorem dX5_key_0 : decode cX5_key 0 = .ok (.aload_n 0, 1) := by decide +kernel
theorem dX5_key_1 : decode cX5_key 1 = .ok (.iload_n 1, 1) := by decide +kernel
theorem dX5_key_2 : decode cX5_key 2 = .ok (.invokevirtual 181, 3) := by decide +kernel
theorem dX5_key_5 : decode cX5_key 5 = .ok (.ifCond .ne 5, 3) := by decide +kernel
theorem dX5_key_8 : decode cX5_key 8 = .ok (.iconst (-1), 1) := by decide +kernel
theorem dX5_key_9 : decode cX5_key 9 = .ok (.ireturn, 1) := by decide +kernel
theorem dX5_key_10 : decode cX5_key 10 = .ok (.aload_n 0, 1) := by decide +kernel
theorem dX5_key_11 : decode cX5_key 11 = .ok (.iload_n 3, 1) := by decide +kernel
theorem dX5_key_12 : decode cX5_key 12 = .ok (.iload 4, 2) := by decide +kernel
theorem dX5_key_14 : decode cX5_key 14 = .ok (.invokevirtual 108, 3) := by decide +kernel
theorem dX5_key_17 : decode cX5_key 17 = .ok (.ifCond .ne 6, 3) := by decide +kernel
theorem dX5_key_20 : decode cX5_key 20 = .ok (.bipush (-2), 2) := by decide +kernel
theorem dX5_key_22 : decode cX5_key 22 = .ok (.ireturn, 1) := by decide +kernel
theorem dX5_key_23 : decode cX5_key 23 = .ok (.aload_n 0, 1) := by decide +kernel
theorem dX5_key_24 : decode cX5_key 24 = .ok (.aload_n 0, 1) := by decide +kernel
theorem dX5_key_25 : decode cX5_key 25 = .ok (.getfield 19, 3) := by decide +kernel
theorem dX5_key_28 : decode cX5_key 28 = .ok (.iload_n 1, 1) := by decide +kernel
theorem dX5_key_29 : decode cX5_key 29 = .ok (.invokevirtual 60, 3) := by decide +kernel
theorem dX5_key_32 : decode cX5_key 32 = .ok (.checkcast 178, 3) := by decide +kernel
theorem dX5_key_35 : decode cX5_key 35 = .ok (.iload_n 3, 1) := by decide +kernel
theorem dX5_key_36 : decode cX5_key 36 = .ok (.iload 4, 2) := by decide +kernel
theorem dX5_key_38 : decode cX5_key 38 = .ok (.invokevirtual 190, 3) := by decide +kernel
theorem dX5_key_41 : decode cX5_key 41 = .ok (.iload_n 2, 1) := by decide +kernel
theorem dX5_key_42 : decode cX5_key 42 = .ok (.ifCond .lt 14, 3) := by decide +kernel
theorem dX5_key_45 : decode cX5_key 45 = .ok (.iload_n 2, 1) := by decide +kernel
theorem dX5_key_46 : decode cX5_key 46 = .ok (.aload_n 0, 1) := by decide +kernel
theorem dX5_key_47 : decode cX5_key 47 = .ok (.getfield 40, 3) := by decide +kernel
theorem dX5_key_50 : decode cX5_key 50 = .ok (.getfield 124, 3) := by decide +kernel
theorem dX5_key_53 : decode cX5_key 53 = .ok (.if_icmp .lt 6, 3) := by decide +kernel
theorem dX5_key_56 : decode cX5_key 56 = .ok (.bipush (-9), 2) := by decide +kernel
theorem dX5_key_58 : decode cX5_key 58 = .ok (.ireturn, 1) := by decide +kernel
theorem dX5_key_59 : decode cX5_key 59 = .ok (.aload_n 0, 1) := by decide +kernel
theorem dX5_key_60 : decode cX5_key 60 = .ok (.getfield 40, 3) := by decide +kernel
theorem dX5_key_63 : decode cX5_key 63 = .ok (.getfield 194, 3) := by decide +kernel
theorem dX5_key_66 : decode cX5_key 66 = .ok (.iload_n 2, 1) := by decide +kernel
theorem dX5_key_67 : decode cX5_key 67 = .ok (.iaload, 1) := by decide +kernel
theorem dX5_key_68 : decode cX5_key 68 = .ok (.ireturn, 1) := by decide +kernel
set_option maxRecDepth 20000 in
theorem ggX5_works_X5_isAsking : GoodIn wsX5_works wsX5_isAsking := goodIn_r _ [8, 1, 9, 10, 11, 12, 13, 14, 50, 51, 52, 53, 54, 55, 56, 57, 63, 64, 65] (by decide +kernel) (by decide +kernel)
set_option maxRecDepth 20000 in
theorem gX5_works_X5_isAsking : GoodIn wsX5_works (wsV RX5 181 RX5 yX5_isAsking wsX5_isAsking) := goodIn_app (goodIn_of _ (by decide +kernel)) ggX5_works_X5_isAsking
set_option maxRecDepth 20000 in
theorem ggX5_works_X5_isSpan : GoodIn wsX5_works wsX5_isSpan := goodIn_r _ [18, 19, 50, 51, 52, 53, 54, 55, 56, 57] (by decide +kernel) (by decide +kernel)
set_option maxRecDepth 20000 in
theorem gX5_works_X5_isSpan : GoodIn wsX5_works (wsV RX5 108 RX5 yX5_isSpan wsX5_isSpan) := goodIn_app (goodIn_of _ (by decide +kernel)) ggX5_works_X5_isSpan
set_option maxRecDepth 20000 in
theorem ggX5_works_Jx4a65c_get_915e3 : GoodIn wsX5_works wsJx4a65c_get_915e3 := goodIn_r _ [23, 14, 24, 25, 26, 27, 28, 29, 30, 31, 32, 33, 34, 12, 35, 36, 63, 64, 65] (by decide +kernel) (by decide +kernel)
set_option maxRecDepth 20000 in
theorem gX5_works_Jx4a65c_get_915e3 : GoodIn wsX5_works (wsV RX5 60 RJx4a65c yJx4a65c_get_915e3 wsJx4a65c_get_915e3) := goodIn_app (goodIn_of _ (by decide +kernel)) ggX5_works_Jx4a65c_get_915e3
set_option maxRecDepth 20000 in
theorem ggX5_works_X5_firstLack : GoodIn wsX5_works wsX5_firstLack := goodIn_r _ [40, 3, 50, 51, 52, 53, 54, 55, 56, 57, 66, 67] (by decide +kernel) (by decide +kernel)
set_option maxRecDepth 20000 in
theorem gX5_works_X5_firstLack : GoodIn wsX5_works (wsV RX5 200 RX5 yX5_firstLack wsX5_firstLack) := goodIn_app (goodIn_of _ (by decide +kernel)) ggX5_works_X5_firstLack
set_option maxRecDepth 20000 in
theorem ggX5_works_X4_isAnyFolded : GoodIn wsX5_works wsX4_isAnyFolded := goodIn_r _ [45, 46, 47, 48, 7, 49, 66, 67] (by decide +kernel) (by decide +kernel)
set_option maxRecDepth 20000 in
theorem gX5_works_X4_isAnyFolded : GoodIn wsX5_works (wsV RX5 203 RX4 yX4_isAnyFolded wsX4_isAnyFolded) := goodIn_app (goodIn_of _ (by decide +kernel)) ggX5_works_X4_isAnyFolded
theorem dX5_works_0 : decode cX5_works 0 = .ok (.aload_n 0, 1) := by decide +kernel
theorem dX5_works_1 : decode cX5_works 1 = .ok (.iload_n 1, 1) := by decide +kernel
theorem dX5_works_2 : decode cX5_works 2 = .ok (.invokevirtual 181, 3) := by decide +kernel
theorem dX5_works_5 : decode cX5_works 5 = .ok (.ifCond .ne 5, 3) := by decide +kernel
theorem dX5_works_8 : decode cX5_works 8 = .ok (.iconst (-1), 1) := by decide +kernel
theorem dX5_works_9 : decode cX5_works 9 = .ok (.ireturn, 1) := by decide +kernel
theorem dX5_works_10 : decode cX5_works 10 = .ok (.aload_n 0, 1) := by decide +kernel
theorem dX5_works_11 : decode cX5_works 11 = .ok (.iload_n 2, 1) := by decide +kernel
theorem dX5_works_12 : decode cX5_works 12 = .ok (.iload_n 3, 1) := by decide +kernel
theorem dX5_works_13 : decode cX5_works 13 = .ok (.invokevirtual 108, 3) := by decide +kernel
theorem dX5_works_16 : decode cX5_works 16 = .ok (.ifCond .ne 6, 3) := by decide +kernel
theorem dX5_works_19 : decode cX5_works 19 = .ok (.bipush (-2), 2) := by decide +kernel
theorem dX5_works_21 : decode cX5_works 21 = .ok (.ireturn, 1) := by decide +kernel
theorem dX5_works_22 : decode cX5_works 22 = .ok (.aload_n 0, 1) := by decide +kernel
theorem dX5_works_23 : decode cX5_works 23 = .ok (.getfield 19, 3) := by decide +kernel
theorem dX5_works_26 : decode cX5_works 26 = .ok (.iload_n 1, 1) := by decide +kernel
theorem dX5_works_27 : decode cX5_works 27 = .ok (.invokevirtual 60, 3) := by decide +kernel
theorem dX5_works_30 : decode cX5_works 30 = .ok (.checkcast 178, 3) := by decide +kernel
theorem dX5_works_33 : decode cX5_works 33 = .ok (.getfield 197, 3) := by decide +kernel
theorem dX5_works_36 : decode cX5_works 36 = .ok (.istore 4, 2) := by decide +kernel
theorem dX5_works_38 : decode cX5_works 38 = .ok (.aload_n 0, 1) := by decide +kernel
theorem dX5_works_39 : decode cX5_works 39 = .ok (.iload 4, 2) := by decide +kernel
theorem dX5_works_41 : decode cX5_works 41 = .ok (.iload_n 2, 1) := by decide +kernel
theorem dX5_works_42 : decode cX5_works 42 = .ok (.iload_n 3, 1) := by decide +kernel
theorem dX5_works_43 : decode cX5_works 43 = .ok (.invokevirtual 200, 3) := by decide +kernel
theorem dX5_works_46 : decode cX5_works 46 = .ok (.bipush (-9), 2) := by decide +kernel
theorem dX5_works_48 : decode cX5_works 48 = .ok (.if_icmp .eq 5, 3) := by decide +kernel
theorem dX5_works_51 : decode cX5_works 51 = .ok (.iconst 0, 1) := by decide +kernel
theorem dX5_works_52 : decode cX5_works 52 = .ok (.ireturn, 1) := by decide +kernel
theorem dX5_works_53 : decode cX5_works 53 = .ok (.aload_n 0, 1) := by decide +kernel
theorem dX5_works_54 : decode cX5_works 54 = .ok (.getfield 25, 3) := by decide +kernel
theorem dX5_works_57 : decode cX5_works 57 = .ok (.iload 4, 2) := by decide +kernel
theorem dX5_works_59 : decode cX5_works 59 = .ok (.iload_n 3, 1) := by decide +kernel
theorem dX5_works_60 : decode cX5_works 60 = .ok (.invokevirtual 203, 3) := by decide +kernel
theorem dX5_works_63 : decode cX5_works 63 = .ok (.ifCond .eq 7, 3) := by decide +kernel
theorem dX5_works_66 : decode cX5_works 66 = .ok (.iconst 1, 1) := by decide +kernel
theorem dX5_works_67 : decode cX5_works 67 = .ok (.goto 4, 3) := by decide +kernel
theorem dX5_works_70 : decode cX5_works 70 = .ok (.iconst 2, 1) := by decide +kernel
theorem dX5_works_71 : decode cX5_works 71 = .ok (.ireturn, 1) := by decide +kernel
set_option maxRecDepth 20000 in
theorem ggX5_lacks_X5_isAsking : GoodIn wsX5_lacks wsX5_isAsking := goodIn_r _ [7, 1, 8, 9, 10, 11, 12, 13, 41, 42, 43, 44, 45, 46, 47, 48, 54, 55, 56] (by decide +kernel) (by decide +kernel)
set_option maxRecDepth 20000 in
theorem gX5_lacks_X5_isAsking : GoodIn wsX5_lacks (wsV RX5 181 RX5 yX5_isAsking wsX5_isAsking) := goodIn_app (goodIn_of _ (by decide +kernel)) ggX5_lacks_X5_isAsking
set_option maxRecDepth 20000 in
theorem ggX5_lacks_X5_isSpan : GoodIn wsX5_lacks wsX5_isSpan := goodIn_r _ [17, 18, 41, 42, 43, 44, 45, 46, 47, 48] (by decide +kernel) (by decide +kernel)
set_option maxRecDepth 20000 in
theorem gX5_lacks_X5_isSpan : GoodIn wsX5_lacks (wsV RX5 108 RX5 yX5_isSpan wsX5_isSpan) := goodIn_app (goodIn_of _ (by decide +kernel)) ggX5_lacks_X5_isSpan
set_option maxRecDepth 20000 in
theorem ggX5_lacks_Jx4a65c_get_915e3 : GoodIn wsX5_lacks wsJx4a65c_get_915e3 := goodIn_r _ [22, 13, 23, 24, 25, 26, 27, 28, 29, 30, 31, 32, 33, 11, 34, 35, 54, 55, 56] (by decide +kernel) (by decide +kernel)
set_option maxRecDepth 20000 in
theorem gX5_lacks_Jx4a65c_get_915e3 : GoodIn wsX5_lacks (wsV RX5 60 RJx4a65c yJx4a65c_get_915e3 wsJx4a65c_get_915e3) := goodIn_app (goodIn_of _ (by decide +kernel)) ggX5_lacks_Jx4a65c_get_915e3
set_option maxRecDepth 20000 in
theorem ggX5_lacks_X5_firstLack : GoodIn wsX5_lacks wsX5_firstLack := goodIn_r _ [39, 40, 41, 42, 43, 44, 45, 46, 47, 48, 57, 58] (by decide +kernel) (by decide +kernel)
set_option maxRecDepth 20000 in
theorem gX5_lacks_X5_firstLack : GoodIn wsX5_lacks (wsV RX5 200 RX5 yX5_firstLack wsX5_firstLack) := goodIn_app (goodIn_of _ (by decide +kernel)) ggX5_lacks_X5_firstLack
theorem dX5_lacks_0 : decode cX5_lacks 0 = .ok (.aload_n 0, 1) := by decide +kernel
theorem dX5_lacks_1 : decode cX5_lacks 1 = .ok (.iload_n 1, 1) := by decide +kernel
theorem dX5_lacks_2 : decode cX5_lacks 2 = .ok (.invokevirtual 181, 3) := by decide +kernel
theorem dX5_lacks_5 : decode cX5_lacks 5 = .ok (.ifCond .ne 5, 3) := by decide +kernel
theorem dX5_lacks_8 : decode cX5_lacks 8 = .ok (.iconst (-1), 1) := by decide +kernel
theorem dX5_lacks_9 : decode cX5_lacks 9 = .ok (.ireturn, 1) := by decide +kernel
theorem dX5_lacks_10 : decode cX5_lacks 10 = .ok (.aload_n 0, 1) := by decide +kernel
theorem dX5_lacks_11 : decode cX5_lacks 11 = .ok (.iload_n 2, 1) := by decide +kernel
theorem dX5_lacks_12 : decode cX5_lacks 12 = .ok (.iload_n 3, 1) := by decide +kernel
theorem dX5_lacks_13 : decode cX5_lacks 13 = .ok (.invokevirtual 108, 3) := by decide +kernel
theorem dX5_lacks_16 : decode cX5_lacks 16 = .ok (.ifCond .ne 6, 3) := by decide +kernel
theorem dX5_lacks_19 : decode cX5_lacks 19 = .ok (.bipush (-2), 2) := by decide +kernel
theorem dX5_lacks_21 : decode cX5_lacks 21 = .ok (.ireturn, 1) := by decide +kernel
theorem dX5_lacks_22 : decode cX5_lacks 22 = .ok (.aload_n 0, 1) := by decide +kernel
theorem dX5_lacks_23 : decode cX5_lacks 23 = .ok (.aload_n 0, 1) := by decide +kernel
theorem dX5_lacks_24 : decode cX5_lacks 24 = .ok (.getfield 19, 3) := by decide +kernel
theorem dX5_lacks_27 : decode cX5_lacks 27 = .ok (.iload_n 1, 1) := by decide +kernel
theorem dX5_lacks_28 : decode cX5_lacks 28 = .ok (.invokevirtual 60, 3) := by decide +kernel
theorem dX5_lacks_31 : decode cX5_lacks 31 = .ok (.checkcast 178, 3) := by decide +kernel
theorem dX5_lacks_34 : decode cX5_lacks 34 = .ok (.getfield 197, 3) := by decide +kernel
theorem dX5_lacks_37 : decode cX5_lacks 37 = .ok (.iload_n 2, 1) := by decide +kernel
theorem dX5_lacks_38 : decode cX5_lacks 38 = .ok (.iload_n 3, 1) := by decide +kernel
theorem dX5_lacks_39 : decode cX5_lacks 39 = .ok (.invokevirtual 200, 3) := by decide +kernel
theorem dX5_lacks_42 : decode cX5_lacks 42 = .ok (.ireturn, 1) := by decide +kernel
set_option maxRecDepth 20000 in
theorem ggX5_weigh_X5_isAsking : GoodIn wsX5_weigh wsX5_isAsking := goodIn_r _ [7, 1, 8, 9, 10, 11, 12, 13, 45, 46, 47, 48, 49, 50, 51, 52, 53, 54, 55] (by decide +kernel) (by decide +kernel)
set_option maxRecDepth 20000 in
theorem gX5_weigh_X5_isAsking : GoodIn wsX5_weigh (wsV RX5 181 RX5 yX5_isAsking wsX5_isAsking) := goodIn_app (goodIn_of _ (by decide +kernel)) ggX5_weigh_X5_isAsking
set_option maxRecDepth 20000 in
theorem ggX5_weigh_X5_isMark : GoodIn wsX5_weigh wsX5_isMark := goodIn_r _ [16] (by decide +kernel) (by decide +kernel)
set_option maxRecDepth 20000 in
theorem gX5_weigh_X5_isMark : GoodIn wsX5_weigh (va_wsS RX5 126 yX5_isMark wsX5_isMark) := goodIn_app (goodIn_of _ (by decide +kernel)) ggX5_weigh_X5_isMark
set_option maxRecDepth 20000 in
theorem ggX5_weigh_Jx4a65c_get_915e3 : GoodIn wsX5_weigh wsJx4a65c_get_915e3 := goodIn_r _ [20, 13, 21, 22, 23, 24, 25, 26, 27, 28, 29, 30, 31, 11, 32, 33, 53, 54, 55] (by decide +kernel) (by decide +kernel)
set_option maxRecDepth 20000 in
theorem gX5_weigh_Jx4a65c_get_915e3 : GoodIn wsX5_weigh (wsV RX5 60 RJx4a65c yJx4a65c_get_915e3 wsJx4a65c_get_915e3) := goodIn_app (goodIn_of _ (by decide +kernel)) ggX5_weigh_Jx4a65c_get_915e3
set_option maxRecDepth 20000 in
theorem ggX5_weigh_X0_changeWorth : GoodIn wsX5_weigh wsX0_changeWorth := goodIn_r _ [38, 39, 56, 57, 58, 59, 60] (by decide +kernel) (by decide +kernel)
set_option maxRecDepth 20000 in
theorem gX5_weigh_X0_changeWorth : GoodIn wsX5_weigh (wsV RX5 206 RX0 yX0_changeWorth wsX0_changeWorth) := goodIn_app (goodIn_of _ (by decide +kernel)) ggX5_weigh_X0_changeWorth
set_option maxRecDepth 20000 in
theorem ggX5_weigh_X5_changeWeight : GoodIn wsX5_weigh wsX5_changeWeight := goodIn_r _ [43, 44, 45, 46, 47, 48, 49, 50, 51, 52] (by decide +kernel) (by decide +kernel)
set_option maxRecDepth 20000 in
theorem gX5_weigh_X5_changeWeight : GoodIn wsX5_weigh (wsV RX5 209 RX5 yX5_changeWeight wsX5_changeWeight) := goodIn_app (goodIn_of _ (by decide +kernel)) ggX5_weigh_X5_changeWeight
theorem dX5_weigh_0 : decode cX5_weigh 0 = .ok (.iload_n 1, 1) := by decide +kernel
theorem dX5_weigh_1 : decode cX5_weigh 1 = .ok (.ifCond .eq 11, 3) := by decide +kernel
theorem dX5_weigh_4 : decode cX5_weigh 4 = .ok (.aload_n 0, 1) := by decide +kernel
theorem dX5_weigh_5 : decode cX5_weigh 5 = .ok (.iload_n 2, 1) := by decide +kernel
theorem dX5_weigh_6 : decode cX5_weigh 6 = .ok (.invokevirtual 181, 3) := by decide +kernel
theorem dX5_weigh_9 : decode cX5_weigh 9 = .ok (.goto 7, 3) := by decide +kernel
theorem dX5_weigh_12 : decode cX5_weigh 12 = .ok (.iload_n 2, 1) := by decide +kernel
theorem dX5_weigh_13 : decode cX5_weigh 13 = .ok (.invokestatic 126, 3) := by decide +kernel
theorem dX5_weigh_16 : decode cX5_weigh 16 = .ok (.istore 4, 2) := by decide +kernel
theorem dX5_weigh_18 : decode cX5_weigh 18 = .ok (.iload 4, 2) := by decide +kernel
theorem dX5_weigh_20 : decode cX5_weigh 20 = .ok (.ifCond .ne 5, 3) := by decide +kernel
theorem dX5_weigh_23 : decode cX5_weigh 23 = .ok (.iconst (-1), 1) := by decide +kernel
theorem dX5_weigh_24 : decode cX5_weigh 24 = .ok (.ireturn, 1) := by decide +kernel
theorem dX5_weigh_25 : decode cX5_weigh 25 = .ok (.iload_n 3, 1) := by decide +kernel
theorem dX5_weigh_26 : decode cX5_weigh 26 = .ok (.ifCond .lt 10, 3) := by decide +kernel
theorem dX5_weigh_29 : decode cX5_weigh 29 = .ok (.iload_n 3, 1) := by decide +kernel
theorem dX5_weigh_30 : decode cX5_weigh 30 = .ok (.sipush 1000, 3) := by decide +kernel
theorem dX5_weigh_33 : decode cX5_weigh 33 = .ok (.if_icmp .le 6, 3) := by decide +kernel
theorem dX5_weigh_36 : decode cX5_weigh 36 = .ok (.bipush (-2), 2) := by decide +kernel
theorem dX5_weigh_38 : decode cX5_weigh 38 = .ok (.ireturn, 1) := by decide +kernel
theorem dX5_weigh_39 : decode cX5_weigh 39 = .ok (.iload_n 1, 1) := by decide +kernel
theorem dX5_weigh_40 : decode cX5_weigh 40 = .ok (.ifCond .eq 21, 3) := by decide +kernel
theorem dX5_weigh_43 : decode cX5_weigh 43 = .ok (.aload_n 0, 1) := by decide +kernel
theorem dX5_weigh_44 : decode cX5_weigh 44 = .ok (.getfield 19, 3) := by decide +kernel
theorem dX5_weigh_47 : decode cX5_weigh 47 = .ok (.iload_n 2, 1) := by decide +kernel
theorem dX5_weigh_48 : decode cX5_weigh 48 = .ok (.invokevirtual 60, 3) := by decide +kernel
theorem dX5_weigh_51 : decode cX5_weigh 51 = .ok (.checkcast 178, 3) := by decide +kernel
theorem dX5_weigh_54 : decode cX5_weigh 54 = .ok (.iload_n 3, 1) := by decide +kernel
theorem dX5_weigh_55 : decode cX5_weigh 55 = .ok (.invokevirtual 206, 3) := by decide +kernel
theorem dX5_weigh_58 : decode cX5_weigh 58 = .ok (.goto 9, 3) := by decide +kernel
theorem dX5_weigh_61 : decode cX5_weigh 61 = .ok (.aload_n 0, 1) := by decide +kernel
theorem dX5_weigh_62 : decode cX5_weigh 62 = .ok (.iload_n 2, 1) := by decide +kernel
theorem dX5_weigh_63 : decode cX5_weigh 63 = .ok (.iload_n 3, 1) := by decide +kernel
theorem dX5_weigh_64 : decode cX5_weigh 64 = .ok (.invokevirtual 209, 3) := by decide +kernel
theorem dX5_weigh_67 : decode cX5_weigh 67 = .ok (.ireturn, 1) := by decide +kernel
set_option maxRecDepth 20000 in
theorem ggX5_loss_X5_isSetOfMarks : GoodIn wsX5_loss wsX5_isSetOfMarks := goodIn_r _ [4] (by decide +kernel) (by decide +kernel)
set_option maxRecDepth 20000 in
theorem gX5_loss_X5_isSetOfMarks : GoodIn wsX5_loss (va_wsS RX5 132 yX5_isSetOfMarks wsX5_isSetOfMarks) := goodIn_app (goodIn_of _ (by decide +kernel)) ggX5_loss_X5_isSetOfMarks
set_option maxRecDepth 20000 in
theorem ggX5_loss_X5_lossOf : GoodIn wsX5_loss wsX5_lossOf := goodIn_r _ [8, 9, 10, 11, 12, 13, 3, 14, 15, 16, 17, 18, 19, 20, 21, 22, 23, 24, 25, 26, 27, 28, 29, 30, 31, 32, 33, 34, 35, 36, 37, 38, 39, 40, 41, 42, 43, 44, 45, 46, 47, 48, 49, 50, 51, 52, 53] (by decide +kernel) (by decide +kernel)
set_option maxRecDepth 20000 in
theorem gX5_loss_X5_lossOf : GoodIn wsX5_loss (wsV RX5 212 RX5 yX5_lossOf wsX5_lossOf) := goodIn_app (goodIn_of _ (by decide +kernel)) ggX5_loss_X5_lossOf
theorem dX5_loss_0 : decode cX5_loss 0 = .ok (.iload_n 1, 1) := by decide +kernel
theorem dX5_loss_1 : decode cX5_loss 1 = .ok (.invokestatic 132, 3) := by decide +kernel
theorem dX5_loss_4 : decode cX5_loss 4 = .ok (.ifCond .ne 6, 3) := by decide +kernel
theorem dX5_loss_7 : decode cX5_loss 7 = .ok (.bipush (-2), 2) := by decide +kernel
theorem dX5_loss_9 : decode cX5_loss 9 = .ok (.ireturn, 1) := by decide +kernel
theorem dX5_loss_10 : decode cX5_loss 10 = .ok (.aload_n 0, 1) := by decide +kernel
theorem dX5_loss_11 : decode cX5_loss 11 = .ok (.iload_n 1, 1) := by decide +kernel
theorem dX5_loss_12 : decode cX5_loss 12 = .ok (.invokevirtual 212, 3) := by decide +kernel
theorem dX5_loss_15 : decode cX5_loss 15 = .ok (.ireturn, 1) := by decide +kernel
set_option maxRecDepth 20000 in
theorem ggX5_plan_X5_isSpan : GoodIn wsX5_plan wsX5_isSpan := goodIn_r _ [5, 6, 92, 93, 94, 95, 96, 97, 98, 99] (by decide +kernel) (by decide +kernel)
set_option maxRecDepth 20000 in
theorem gX5_plan_X5_isSpan : GoodIn wsX5_plan (wsV RX5 108 RX5 yX5_isSpan wsX5_isSpan) := goodIn_app (goodIn_of _ (by decide +kernel)) ggX5_plan_X5_isSpan
set_option maxRecDepth 20000 in
theorem ggX5_plan_X5_gatherSeen : GoodIn wsX5_plan wsX5_gatherSeen := goodIn_r _ [10, 11, 12, 13, 14, 15, 16, 17, 18, 19, 20, 21, 22, 23, 24, 25, 26, 27, 28, 29, 30, 31, 32, 33, 34, 35, 36, 37, 38, 39, 40, 41, 42, 43, 44, 45, 46, 47, 48, 49, 50, 51, 52, 53, 54, 55, 56, 57, 58, 59, 60, 61, 62, 63, 64, 65, 66, 67, 68, 69, 70, 92, 93, 94, 95, 96, 97, 98, 99, 100, 101, 102, 103, 104, 105, 106, 107] (by decide +kernel) (by decide +kernel)
set_option maxRecDepth 20000 in
theorem gX5_plan_X5_gatherSeen : GoodIn wsX5_plan (wsV RX5 121 RX5 yX5_gatherSeen wsX5_gatherSeen) := goodIn_app (goodIn_of _ (by decide +kernel)) ggX5_plan_X5_gatherSeen
set_option maxRecDepth 20000 in
theorem ggX5_plan_X5_namesLeftWithout : GoodIn wsX5_plan wsX5_namesLeftWithout := goodIn_r _ [74, 75, 11, 76, 77, 4, 78, 79, 80, 81, 82, 83, 84, 14, 15, 16, 17, 18, 19, 49, 50, 51, 52, 53, 54, 55, 56, 57, 58, 59, 60, 61, 62, 63, 64, 65, 66, 67, 68, 69, 70, 92, 93, 94, 95, 96, 97, 98, 99, 103, 104] (by decide +kernel) (by decide +kernel)
set_option maxRecDepth 20000 in
theorem gX5_plan_X5_namesLeftWithout : GoodIn wsX5_plan (wsV RX5 129 RX5 yX5_namesLeftWithout wsX5_namesLeftWithout) := goodIn_app (goodIn_of _ (by decide +kernel)) ggX5_plan_X5_namesLeftWithout
set_option maxRecDepth 20000 in
theorem ggX5_plan_X5_lossOf : GoodIn wsX5_plan wsX5_lossOf := goodIn_r _ [88, 89, 90, 91, 79, 80, 4, 81, 20, 21, 22, 23, 24, 25, 26, 27, 28, 29, 30, 31, 32, 33, 34, 35, 36, 37, 38, 39, 40, 41, 42, 92, 93, 94, 95, 96, 97, 98, 99, 108, 109, 110, 111, 112, 105, 106, 107] (by decide +kernel) (by decide +kernel)
set_option maxRecDepth 20000 in
theorem gX5_plan_X5_lossOf : GoodIn wsX5_plan (wsV RX5 212 RX5 yX5_lossOf wsX5_lossOf) := goodIn_app (goodIn_of _ (by decide +kernel)) ggX5_plan_X5_lossOf
theorem dX5_plan_0 : decode cX5_plan 0 = .ok (.iload_n 1, 1) := by decide +kernel
theorem dX5_plan_1 : decode cX5_plan 1 = .ok (.ifCond .lt 18, 3) := by decide +kernel
theorem dX5_plan_4 : decode cX5_plan 4 = .ok (.iload_n 1, 1) := by decide +kernel
theorem dX5_plan_5 : decode cX5_plan 5 = .ok (.bipush 120, 2) := by decide +kernel
theorem dX5_plan_7 : decode cX5_plan 7 = .ok (.if_icmp .gt 12, 3) := by decide +kernel
theorem dX5_plan_10 : decode cX5_plan 10 = .ok (.aload_n 0, 1) := by decide +kernel
theorem dX5_plan_11 : decode cX5_plan 11 = .ok (.iload_n 2, 1) := by decide +kernel
theorem dX5_plan_12 : decode cX5_plan 12 = .ok (.iload_n 3, 1) := by decide +kernel
theorem dX5_plan_13 : decode cX5_plan 13 = .ok (.invokevirtual 108, 3) := by decide +kernel
theorem dX5_plan_16 : decode cX5_plan 16 = .ok (.ifCond .ne 6, 3) := by decide +kernel
theorem dX5_plan_19 : decode cX5_plan 19 = .ok (.bipush (-2), 2) := by decide +kernel
theorem dX5_plan_21 : decode cX5_plan 21 = .ok (.ireturn, 1) := by decide +kernel
theorem dX5_plan_22 : decode cX5_plan 22 = .ok (.aload_n 0, 1) := by decide +kernel
theorem dX5_plan_23 : decode cX5_plan 23 = .ok (.iload_n 2, 1) := by decide +kernel
theorem dX5_plan_24 : decode cX5_plan 24 = .ok (.iload_n 3, 1) := by decide +kernel
theorem dX5_plan_25 : decode cX5_plan 25 = .ok (.invokevirtual 121, 3) := by decide +kernel
theorem dX5_plan_28 : decode cX5_plan 28 = .ok (.bipush (-9), 2) := by decide +kernel
theorem dX5_plan_30 : decode cX5_plan 30 = .ok (.istore 4, 2) := by decide +kernel
theorem dX5_plan_32 : decode cX5_plan 32 = .ok (.iconst 0, 1) := by decide +kernel
theorem dX5_plan_33 : decode cX5_plan 33 = .ok (.istore 5, 2) := by decide +kernel
theorem dX5_plan_35 : decode cX5_plan 35 = .ok (.iconst 0, 1) := by decide +kernel
theorem dX5_plan_36 : decode cX5_plan 36 = .ok (.istore 6, 2) := by decide +kernel
theorem dX5_plan_38 : decode cX5_plan 38 = .ok (.iconst 0, 1) := by decide +kernel
theorem dX5_plan_39 : decode cX5_plan 39 = .ok (.istore 7, 2) := by decide +kernel
theorem dX5_plan_41 : decode cX5_plan 41 = .ok (.iload 7, 2) := by decide +kernel
theorem dX5_plan_43 : decode cX5_plan 43 = .ok (.bipush 63, 2) := by decide +kernel
theorem dX5_plan_45 : decode cX5_plan 45 = .ok (.if_icmp .gt 83, 3) := by decide +kernel
theorem dX5_plan_48 : decode cX5_plan 48 = .ok (.aload_n 0, 1) := by decide +kernel
theorem dX5_plan_49 : decode cX5_plan 49 = .ok (.iload 7, 2) := by decide +kernel
theorem dX5_plan_51 : decode cX5_plan 51 = .ok (.invokevirtual 129, 3) := by decide +kernel
theorem dX5_plan_54 : decode cX5_plan 54 = .ok (.istore 8, 2) := by decide +kernel
theorem dX5_plan_56 : decode cX5_plan 56 = .ok (.aload_n 0, 1) := by decide +kernel
theorem dX5_plan_57 : decode cX5_plan 57 = .ok (.iload 7, 2) := by decide +kernel
theorem dX5_plan_59 : decode cX5_plan 59 = .ok (.invokevirtual 212, 3) := by decide +kernel
theorem dX5_plan_62 : decode cX5_plan 62 = .ok (.istore 9, 2) := by decide +kernel
theorem dX5_plan_64 : decode cX5_plan 64 = .ok (.iload 4, 2) := by decide +kernel
theorem dX5_plan_66 : decode cX5_plan 66 = .ok (.bipush (-9), 2) := by decide +kernel
theorem dX5_plan_68 : decode cX5_plan 68 = .ok (.if_icmp .eq 24, 3) := by decide +kernel
theorem dX5_plan_71 : decode cX5_plan 71 = .ok (.iload 9, 2) := by decide +kernel
theorem dX5_plan_73 : decode cX5_plan 73 = .ok (.iload 5, 2) := by decide +kernel
theorem dX5_plan_75 : decode cX5_plan 75 = .ok (.if_icmp .lt 17, 3) := by decide +kernel
theorem dX5_plan_78 : decode cX5_plan 78 = .ok (.iload 9, 2) := by decide +kernel
theorem dX5_plan_80 : decode cX5_plan 80 = .ok (.iload 5, 2) := by decide +kernel
theorem dX5_plan_82 : decode cX5_plan 82 = .ok (.if_icmp .ne 14, 3) := by decide +kernel
theorem dX5_plan_85 : decode cX5_plan 85 = .ok (.iload 8, 2) := by decide +kernel
theorem dX5_plan_87 : decode cX5_plan 87 = .ok (.iload 6, 2) := by decide +kernel
theorem dX5_plan_89 : decode cX5_plan 89 = .ok (.if_icmp .le 7, 3) := by decide +kernel
theorem dX5_plan_92 : decode cX5_plan 92 = .ok (.iconst 1, 1) := by decide +kernel
theorem dX5_plan_93 : decode cX5_plan 93 = .ok (.goto 4, 3) := by decide +kernel
theorem dX5_plan_96 : decode cX5_plan 96 = .ok (.iconst 0, 1) := by decide +kernel
theorem dX5_plan_97 : decode cX5_plan 97 = .ok (.istore 10, 2) := by decide +kernel
theorem dX5_plan_99 : decode cX5_plan 99 = .ok (.iload 8, 2) := by decide +kernel
theorem dX5_plan_101 : decode cX5_plan 101 = .ok (.iload_n 1, 1) := by decide +kernel
theorem dX5_plan_102 : decode cX5_plan 102 = .ok (.if_icmp .gt 20, 3) := by decide +kernel
theorem dX5_plan_105 : decode cX5_plan 105 = .ok (.iload 10, 2) := by decide +kernel
theorem dX5_plan_107 : decode cX5_plan 107 = .ok (.ifCond .eq 15, 3) := by decide +kernel
theorem dX5_plan_110 : decode cX5_plan 110 = .ok (.iload 7, 2) := by decide +kernel
theorem dX5_plan_112 : decode cX5_plan 112 = .ok (.istore 4, 2) := by decide +kernel
theorem dX5_plan_114 : decode cX5_plan 114 = .ok (.iload 9, 2) := by decide +kernel
theorem dX5_plan_116 : decode cX5_plan 116 = .ok (.istore 5, 2) := by decide +kernel
theorem dX5_plan_118 : decode cX5_plan 118 = .ok (.iload 8, 2) := by decide +kernel
theorem dX5_plan_120 : decode cX5_plan 120 = .ok (.istore 6, 2) := by decide +kernel
theorem dX5_plan_122 : decode cX5_plan 122 = .ok (.iinc 7 1, 3) := by decide +kernel
theorem dX5_plan_125 : decode cX5_plan 125 = .ok (.goto (-84), 3) := by decide +kernel
theorem dX5_plan_128 : decode cX5_plan 128 = .ok (.iload 4, 2) := by decide +kernel
theorem dX5_plan_130 : decode cX5_plan 130 = .ok (.ireturn, 1) := by decide +kernel
set_option maxRecDepth 20000 in
theorem ggX5_bill_X5_isMark : GoodIn wsX5_bill wsX5_isMark := goodIn_r _ [5] (by decide +kernel) (by decide +kernel)
set_option maxRecDepth 20000 in
theorem gX5_bill_X5_isMark : GoodIn wsX5_bill (va_wsS RX5 126 yX5_isMark wsX5_isMark) := goodIn_app (goodIn_of _ (by decide +kernel)) ggX5_bill_X5_isMark
set_option maxRecDepth 20000 in
theorem ggX5_bill_X5_isValue : GoodIn wsX5_bill wsX5_isValue := goodIn_r _ [8] (by decide +kernel) (by decide +kernel)
set_option maxRecDepth 20000 in
theorem gX5_bill_X5_isValue : GoodIn wsX5_bill (va_wsS RX5 161 yX5_isValue wsX5_isValue) := goodIn_app (goodIn_of _ (by decide +kernel)) ggX5_bill_X5_isValue
set_option maxRecDepth 20000 in
theorem ggX5_bill_X5_isSpan : GoodIn wsX5_bill wsX5_isSpan := goodIn_r _ [12, 13, 80, 81, 82, 83, 84, 85, 86, 87] (by decide +kernel) (by decide +kernel)
set_option maxRecDepth 20000 in
theorem gX5_bill_X5_isSpan : GoodIn wsX5_bill (wsV RX5 108 RX5 yX5_isSpan wsX5_isSpan) := goodIn_app (goodIn_of _ (by decide +kernel)) ggX5_bill_X5_isSpan
set_option maxRecDepth 20000 in
theorem ggX5_bill_X5_gatherSeen : GoodIn wsX5_bill wsX5_gatherSeen := goodIn_r _ [17, 1, 18, 19, 20, 21, 22, 23, 24, 25, 26, 27, 28, 29, 30, 31, 32, 33, 34, 35, 36, 37, 38, 39, 40, 41, 42, 43, 44, 45, 46, 47, 48, 49, 50, 51, 52, 53, 54, 55, 56, 57, 58, 59, 60, 61, 62, 63, 64, 65, 66, 67, 68, 69, 70, 71, 72, 73, 74, 75, 76, 80, 81, 82, 83, 84, 85, 86, 87, 90, 91, 92, 88, 89, 93, 94, 95] (by decide +kernel) (by decide +kernel)
set_option maxRecDepth 20000 in
theorem gX5_bill_X5_gatherSeen : GoodIn wsX5_bill (wsV RX5 121 RX5 yX5_gatherSeen wsX5_gatherSeen) := goodIn_app (goodIn_of _ (by decide +kernel)) ggX5_bill_X5_gatherSeen
set_option maxRecDepth 20000 in
theorem ggX5_bill_X5_digit : GoodIn wsX5_bill wsX5_digit := goodIn_r _ [79] (by decide +kernel) (by decide +kernel)
set_option maxRecDepth 20000 in
theorem gX5_bill_X5_digit : GoodIn wsX5_bill (va_wsS RX5 215 yX5_digit wsX5_digit) := goodIn_app (goodIn_of _ (by decide +kernel)) ggX5_bill_X5_digit
theorem dX5_bill_0 : decode cX5_bill 0 = .ok (.iload_n 1, 1) := by decide +kernel
theorem dX5_bill_1 : decode cX5_bill 1 = .ok (.invokestatic 126, 3) := by decide +kernel
theorem dX5_bill_4 : decode cX5_bill 4 = .ok (.ifCond .eq 10, 3) := by decide +kernel
theorem dX5_bill_7 : decode cX5_bill 7 = .ok (.iload_n 2, 1) := by decide +kernel
theorem dX5_bill_8 : decode cX5_bill 8 = .ok (.invokestatic 161, 3) := by decide +kernel
theorem dX5_bill_11 : decode cX5_bill 11 = .ok (.ifCond .ne 5, 3) := by decide +kernel
theorem dX5_bill_14 : decode cX5_bill 14 = .ok (.iconst (-1), 1) := by decide +kernel
theorem dX5_bill_15 : decode cX5_bill 15 = .ok (.ireturn, 1) := by decide +kernel
theorem dX5_bill_16 : decode cX5_bill 16 = .ok (.aload_n 0, 1) := by decide +kernel
theorem dX5_bill_17 : decode cX5_bill 17 = .ok (.iload_n 3, 1) := by decide +kernel
theorem dX5_bill_18 : decode cX5_bill 18 = .ok (.iload 4, 2) := by decide +kernel
theorem dX5_bill_20 : decode cX5_bill 20 = .ok (.invokevirtual 108, 3) := by decide +kernel
theorem dX5_bill_23 : decode cX5_bill 23 = .ok (.ifCond .ne 6, 3) := by decide +kernel
theorem dX5_bill_26 : decode cX5_bill 26 = .ok (.bipush (-2), 2) := by decide +kernel
theorem dX5_bill_28 : decode cX5_bill 28 = .ok (.ireturn, 1) := by decide +kernel
theorem dX5_bill_29 : decode cX5_bill 29 = .ok (.aload_n 0, 1) := by decide +kernel
theorem dX5_bill_30 : decode cX5_bill 30 = .ok (.iload_n 3, 1) := by decide +kernel
theorem dX5_bill_31 : decode cX5_bill 31 = .ok (.iload 4, 2) := by decide +kernel
theorem dX5_bill_33 : decode cX5_bill 33 = .ok (.invokevirtual 121, 3) := by decide +kernel
theorem dX5_bill_36 : decode cX5_bill 36 = .ok (.iconst 0, 1) := by decide +kernel
theorem dX5_bill_37 : decode cX5_bill 37 = .ok (.istore 5, 2) := by decide +kernel
theorem dX5_bill_39 : decode cX5_bill 39 = .ok (.iconst 0, 1) := by decide +kernel
theorem dX5_bill_40 : decode cX5_bill 40 = .ok (.istore 6, 2) := by decide +kernel
theorem dX5_bill_42 : decode cX5_bill 42 = .ok (.iload 6, 2) := by decide +kernel
theorem dX5_bill_44 : decode cX5_bill 44 = .ok (.aload_n 0, 1) := by decide +kernel
theorem dX5_bill_45 : decode cX5_bill 45 = .ok (.getfield 36, 3) := by decide +kernel
theorem dX5_bill_48 : decode cX5_bill 48 = .ok (.getfield 124, 3) := by decide +kernel
theorem dX5_bill_51 : decode cX5_bill 51 = .ok (.if_icmp .ge 30, 3) := by decide +kernel
theorem dX5_bill_54 : decode cX5_bill 54 = .ok (.aload_n 0, 1) := by decide +kernel
theorem dX5_bill_55 : decode cX5_bill 55 = .ok (.getfield 36, 3) := by decide +kernel
theorem dX5_bill_58 : decode cX5_bill 58 = .ok (.getfield 194, 3) := by decide +kernel
theorem dX5_bill_61 : decode cX5_bill 61 = .ok (.iload 6, 2) := by decide +kernel
theorem dX5_bill_63 : decode cX5_bill 63 = .ok (.iaload, 1) := by decide +kernel
theorem dX5_bill_64 : decode cX5_bill 64 = .ok (.iload_n 1, 1) := by decide +kernel
theorem dX5_bill_65 : decode cX5_bill 65 = .ok (.invokestatic 215, 3) := by decide +kernel
theorem dX5_bill_68 : decode cX5_bill 68 = .ok (.iload_n 2, 1) := by decide +kernel
theorem dX5_bill_69 : decode cX5_bill 69 = .ok (.if_icmp .ne 6, 3) := by decide +kernel
theorem dX5_bill_72 : decode cX5_bill 72 = .ok (.iinc 5 1, 3) := by decide +kernel
theorem dX5_bill_75 : decode cX5_bill 75 = .ok (.iinc 6 1, 3) := by decide +kernel
theorem dX5_bill_78 : decode cX5_bill 78 = .ok (.goto (-36), 3) := by decide +kernel
theorem dX5_bill_81 : decode cX5_bill 81 = .ok (.iload 5, 2) := by decide +kernel
theorem dX5_bill_83 : decode cX5_bill 83 = .ok (.ireturn, 1) := by decide +kernel
set_option maxRecDepth 20000 in
theorem ggX5_count_Jx4a65c_size_8abf5 : GoodIn wsX5_count wsJx4a65c_size_8abf5 := goodIn_r _ [10, 11, 29, 30, 31] (by decide +kernel) (by decide +kernel)
set_option maxRecDepth 20000 in
theorem gX5_count_Jx4a65c_size_8abf5 : GoodIn wsX5_count (wsV RX5 69 RJx4a65c yJx4a65c_size_8abf5 wsJx4a65c_size_8abf5) := goodIn_app (goodIn_of _ (by decide +kernel)) ggX5_count_Jx4a65c_size_8abf5
set_option maxRecDepth 20000 in
theorem ggX5_count_J6_bitCount_0f7a4 : GoodIn wsX5_count wsJ6_bitCount_0f7a4 := goodIn_r _ [15, 16, 17, 18] (by decide +kernel) (by decide +kernel)
set_option maxRecDepth 20000 in
theorem gX5_count_J6_bitCount_0f7a4 : GoodIn wsX5_count (va_wsS RX5 221 yJ6_bitCount_0f7a4 wsJ6_bitCount_0f7a4) := goodIn_app (goodIn_of _ (by decide +kernel)) ggX5_count_J6_bitCount_0f7a4
theorem dX5_count_0 : decode cX5_count 0 = .ok (.iload_n 1, 1) := by decide +kernel
theorem dX5_count_1 : decode cX5_count 1 = .ok (.tableswitch 80 0 4 #[35, 40, 48, 56, 64], 35) := by decide +kernel
theorem dX5_count_36 : decode cX5_count 36 = .ok (.aload_n 0, 1) := by decide +kernel
theorem dX5_count_37 : decode cX5_count 37 = .ok (.getfield 43, 3) := by decide +kernel
theorem dX5_count_40 : decode cX5_count 40 = .ok (.ireturn, 1) := by decide +kernel
theorem dX5_count_41 : decode cX5_count 41 = .ok (.aload_n 0, 1) := by decide +kernel
theorem dX5_count_42 : decode cX5_count 42 = .ok (.getfield 10, 3) := by decide +kernel
theorem dX5_count_45 : decode cX5_count 45 = .ok (.invokevirtual 69, 3) := by decide +kernel
theorem dX5_count_48 : decode cX5_count 48 = .ok (.ireturn, 1) := by decide +kernel
theorem dX5_count_49 : decode cX5_count 49 = .ok (.aload_n 0, 1) := by decide +kernel
theorem dX5_count_50 : decode cX5_count 50 = .ok (.getfield 16, 3) := by decide +kernel
theorem dX5_count_53 : decode cX5_count 53 = .ok (.invokevirtual 69, 3) := by decide +kernel
theorem dX5_count_56 : decode cX5_count 56 = .ok (.ireturn, 1) := by decide +kernel
theorem dX5_count_57 : decode cX5_count 57 = .ok (.aload_n 0, 1) := by decide +kernel
theorem dX5_count_58 : decode cX5_count 58 = .ok (.getfield 19, 3) := by decide +kernel
theorem dX5_count_61 : decode cX5_count 61 = .ok (.invokevirtual 69, 3) := by decide +kernel
theorem dX5_count_64 : decode cX5_count 64 = .ok (.ireturn, 1) := by decide +kernel
theorem dX5_count_65 : decode cX5_count 65 = .ok (.aload_n 0, 1) := by decide +kernel
theorem dX5_count_66 : decode cX5_count 66 = .ok (.getfield 25, 3) := by decide +kernel
theorem dX5_count_69 : decode cX5_count 69 = .ok (.getfield 218, 3) := by decide +kernel
theorem dX5_count_72 : decode cX5_count 72 = .ok (.aload_n 0, 1) := by decide +kernel
theorem dX5_count_73 : decode cX5_count 73 = .ok (.getfield 43, 3) := by decide +kernel
theorem dX5_count_76 : decode cX5_count 76 = .ok (.iaload, 1) := by decide +kernel
theorem dX5_count_77 : decode cX5_count 77 = .ok (.invokestatic 221, 3) := by decide +kernel
theorem dX5_count_80 : decode cX5_count 80 = .ok (.ireturn, 1) := by decide +kernel
theorem dX5_count_81 : decode cX5_count 81 = .ok (.bipush (-2), 2) := by decide +kernel
theorem dX5_count_83 : decode cX5_count 83 = .ok (.ireturn, 1) := by decide +kernel
theorem dX5_isMark_0 : decode cX5_isMark 0 = .ok (.iload_n 0, 1) := by decide +kernel
theorem dX5_isMark_1 : decode cX5_isMark 1 = .ok (.ifCond .lt 13, 3) := by decide +kernel
theorem dX5_isMark_4 : decode cX5_isMark 4 = .ok (.iload_n 0, 1) := by decide +kernel
theorem dX5_isMark_5 : decode cX5_isMark 5 = .ok (.bipush 6, 2) := by decide +kernel
theorem dX5_isMark_7 : decode cX5_isMark 7 = .ok (.if_icmp .ge 7, 3) := by decide +kernel
theorem dX5_isMark_10 : decode cX5_isMark 10 = .ok (.iconst 1, 1) := by decide +kernel
theorem dX5_isMark_11 : decode cX5_isMark 11 = .ok (.goto 4, 3) := by decide +kernel
theorem dX5_isMark_14 : decode cX5_isMark 14 = .ok (.iconst 0, 1) := by decide +kernel
theorem dX5_isMark_15 : decode cX5_isMark 15 = .ok (.ireturn, 1) := by decide +kernel
theorem dX5_isValue_0 : decode cX5_isValue 0 = .ok (.iload_n 0, 1) := by decide +kernel
theorem dX5_isValue_1 : decode cX5_isValue 1 = .ok (.ifCond .lt 13, 3) := by decide +kernel
theorem dX5_isValue_4 : decode cX5_isValue 4 = .ok (.iload_n 0, 1) := by decide +kernel
theorem dX5_isValue_5 : decode cX5_isValue 5 = .ok (.bipush 8, 2) := by decide +kernel
theorem dX5_isValue_7 : decode cX5_isValue 7 = .ok (.if_icmp .ge 7, 3) := by decide +kernel
theorem dX5_isValue_10 : decode cX5_isValue 10 = .ok (.iconst 1, 1) := by decide +kernel
theorem dX5_isValue_11 : decode cX5_isValue 11 = .ok (.goto 4, 3) := by decide +kernel
theorem dX5_isValue_14 : decode cX5_isValue 14 = .ok (.iconst 0, 1) := by decide +kernel
theorem dX5_isValue_15 : decode cX5_isValue 15 = .ok (.ireturn, 1) := by decide +kernel
theorem dX5_isName_0 : decode cX5_isName 0 = .ok (.iload_n 0, 1) := by decide +kernel
theorem dX5_isName_1 : decode cX5_isName 1 = .ok (.ifCond .lt 13, 3) := by decide +kernel
theorem dX5_isName_4 : decode cX5_isName 4 = .ok (.iload_n 0, 1) := by decide +kernel
theorem dX5_isName_5 : decode cX5_isName 5 = .ok (.ldc 226, 2) := by decide +kernel
theorem dX5_isName_7 : decode cX5_isName 7 = .ok (.if_icmp .gt 7, 3) := by decide +kernel
theorem dX5_isName_10 : decode cX5_isName 10 = .ok (.iconst 1, 1) := by decide +kernel
theorem dX5_isName_11 : decode cX5_isName 11 = .ok (.goto 4, 3) := by decide +kernel
theorem dX5_isName_14 : decode cX5_isName 14 = .ok (.iconst 0, 1) := by decide +kernel
theorem dX5_isName_15 : decode cX5_isName 15 = .ok (.ireturn, 1) := by decide +kernel
theorem dX5_isSetOfMarks_0 : decode cX5_isSetOfMarks 0 = .ok (.iload_n 0, 1) := by decide +kernel
theorem dX5_isSetOfMarks_1 : decode cX5_isSetOfMarks 1 = .ok (.ifCond .lt 13, 3) := by decide +kernel
theorem dX5_isSetOfMarks_4 : decode cX5_isSetOfMarks 4 = .ok (.iload_n 0, 1) := by decide +kernel
theorem dX5_isSetOfMarks_5 : decode cX5_isSetOfMarks 5 = .ok (.bipush 63, 2) := by decide +kernel
theorem dX5_isSetOfMarks_7 : decode cX5_isSetOfMarks 7 = .ok (.if_icmp .gt 7, 3) := by decide +kernel
theorem dX5_isSetOfMarks_10 : decode cX5_isSetOfMarks 10 = .ok (.iconst 1, 1) := by decide +kernel
theorem dX5_isSetOfMarks_11 : decode cX5_isSetOfMarks 11 = .ok (.goto 4, 3) := by decide +kernel
theorem dX5_isSetOfMarks_14 : decode cX5_isSetOfMarks 14 = .ok (.iconst 0, 1) := by decide +kernel
theorem dX5_isSetOfMarks_15 : decode cX5_isSetOfMarks 15 = .ok (.ireturn, 1) := by decide +kernel
set_option maxRecDepth 20000 in
theorem ggX5_isSeries_Jx4a65c_size_8abf5 : GoodIn wsX5_isSeries wsJx4a65c_size_8abf5 := goodIn_r _ [6, 7, 16, 17, 18] (by decide +kernel) (by decide +kernel)
set_option maxRecDepth 20000 in
theorem gX5_isSeries_Jx4a65c_size_8abf5 : GoodIn wsX5_isSeries (wsV RX5 69 RJx4a65c yJx4a65c_size_8abf5 wsJx4a65c_size_8abf5) := goodIn_app (goodIn_of _ (by decide +kernel)) ggX5_isSeries_Jx4a65c_size_8abf5
theorem dX5_isSeries_0 : decode cX5_isSeries 0 = .ok (.iload_n 1, 1) := by decide +kernel
theorem dX5_isSeries_1 : decode cX5_isSeries 1 = .ok (.ifCond .lt 18, 3) := by decide +kernel
theorem dX5_isSeries_4 : decode cX5_isSeries 4 = .ok (.iload_n 1, 1) := by decide +kernel
theorem dX5_isSeries_5 : decode cX5_isSeries 5 = .ok (.aload_n 0, 1) := by decide +kernel
theorem dX5_isSeries_6 : decode cX5_isSeries 6 = .ok (.getfield 10, 3) := by decide +kernel
theorem dX5_isSeries_9 : decode cX5_isSeries 9 = .ok (.invokevirtual 69, 3) := by decide +kernel
theorem dX5_isSeries_12 : decode cX5_isSeries 12 = .ok (.if_icmp .ge 7, 3) := by decide +kernel
theorem dX5_isSeries_15 : decode cX5_isSeries 15 = .ok (.iconst 1, 1) := by decide +kernel
theorem dX5_isSeries_16 : decode cX5_isSeries 16 = .ok (.goto 4, 3) := by decide +kernel
theorem dX5_isSeries_19 : decode cX5_isSeries 19 = .ok (.iconst 0, 1) := by decide +kernel
theorem dX5_isSeries_20 : decode cX5_isSeries 20 = .ok (.ireturn, 1) := by decide +kernel
set_option maxRecDepth 20000 in
theorem ggX5_isAsking_Jx4a65c_size_8abf5 : GoodIn wsX5_isAsking wsJx4a65c_size_8abf5 := goodIn_r _ [6, 7, 16, 17, 18] (by decide +kernel) (by decide +kernel)
set_option maxRecDepth 20000 in
theorem gX5_isAsking_Jx4a65c_size_8abf5 : GoodIn wsX5_isAsking (wsV RX5 69 RJx4a65c yJx4a65c_size_8abf5 wsJx4a65c_size_8abf5) := goodIn_app (goodIn_of _ (by decide +kernel)) ggX5_isAsking_Jx4a65c_size_8abf5
theorem dX5_isAsking_0 : decode cX5_isAsking 0 = .ok (.iload_n 1, 1) := by decide +kernel
theorem dX5_isAsking_1 : decode cX5_isAsking 1 = .ok (.ifCond .lt 18, 3) := by decide +kernel
theorem dX5_isAsking_4 : decode cX5_isAsking 4 = .ok (.iload_n 1, 1) := by decide +kernel
theorem dX5_isAsking_5 : decode cX5_isAsking 5 = .ok (.aload_n 0, 1) := by decide +kernel
theorem dX5_isAsking_6 : decode cX5_isAsking 6 = .ok (.getfield 19, 3) := by decide +kernel
theorem dX5_isAsking_9 : decode cX5_isAsking 9 = .ok (.invokevirtual 69, 3) := by decide +kernel
theorem dX5_isAsking_12 : decode cX5_isAsking 12 = .ok (.if_icmp .ge 7, 3) := by decide +kernel
theorem dX5_isAsking_15 : decode cX5_isAsking 15 = .ok (.iconst 1, 1) := by decide +kernel
theorem dX5_isAsking_16 : decode cX5_isAsking 16 = .ok (.goto 4, 3) := by decide +kernel
theorem dX5_isAsking_19 : decode cX5_isAsking 19 = .ok (.iconst 0, 1) := by decide +kernel
theorem dX5_isAsking_20 : decode cX5_isAsking 20 = .ok (.ireturn, 1) := by decide +kernel
theorem dX5_isPastTick_0 : decode cX5_isPastTick 0 = .ok (.iload_n 1, 1) := by decide +kernel
theorem dX5_isPastTick_1 : decode cX5_isPastTick 1 = .ok (.ifCond .lt 15, 3) := by decide +kernel
theorem dX5_isPastTick_4 : decode cX5_isPastTick 4 = .ok (.iload_n 1, 1) := by decide +kernel
theorem dX5_isPastTick_5 : decode cX5_isPastTick 5 = .ok (.aload_n 0, 1) := by decide +kernel
theorem dX5_isPastTick_6 : decode cX5_isPastTick 6 = .ok (.getfield 43, 3) := by decide +kernel
theorem dX5_isPastTick_9 : decode cX5_isPastTick 9 = .ok (.if_icmp .gt 7, 3) := by decide +kernel
theorem dX5_isPastTick_12 : decode cX5_isPastTick 12 = .ok (.iconst 1, 1) := by decide +kernel
theorem dX5_isPastTick_13 : decode cX5_isPastTick 13 = .ok (.goto 4, 3) := by decide +kernel
theorem dX5_isPastTick_16 : decode cX5_isPastTick 16 = .ok (.iconst 0, 1) := by decide +kernel
theorem dX5_isPastTick_17 : decode cX5_isPastTick 17 = .ok (.ireturn, 1) := by decide +kernel
theorem dX5_isSpan_0 : decode cX5_isSpan 0 = .ok (.iload_n 1, 1) := by decide +kernel
theorem dX5_isSpan_1 : decode cX5_isSpan 1 = .ok (.ifCond .lt 20, 3) := by decide +kernel
theorem dX5_isSpan_4 : decode cX5_isSpan 4 = .ok (.iload_n 1, 1) := by decide +kernel
theorem dX5_isSpan_5 : decode cX5_isSpan 5 = .ok (.iload_n 2, 1) := by decide +kernel
theorem dX5_isSpan_6 : decode cX5_isSpan 6 = .ok (.if_icmp .gt 15, 3) := by decide +kernel
theorem dX5_isSpan_9 : decode cX5_isSpan 9 = .ok (.iload_n 2, 1) := by decide +kernel
theorem dX5_isSpan_10 : decode cX5_isSpan 10 = .ok (.aload_n 0, 1) := by decide +kernel
theorem dX5_isSpan_11 : decode cX5_isSpan 11 = .ok (.getfield 43, 3) := by decide +kernel
theorem dX5_isSpan_14 : decode cX5_isSpan 14 = .ok (.if_icmp .gt 7, 3) := by decide +kernel
theorem dX5_isSpan_17 : decode cX5_isSpan 17 = .ok (.iconst 1, 1) := by decide +kernel
theorem dX5_isSpan_18 : decode cX5_isSpan 18 = .ok (.goto 4, 3) := by decide +kernel
theorem dX5_isSpan_21 : decode cX5_isSpan 21 = .ok (.iconst 0, 1) := by decide +kernel
theorem dX5_isSpan_22 : decode cX5_isSpan 22 = .ok (.ireturn, 1) := by decide +kernel
theorem dX5_digit_0 : decode cX5_digit 0 = .ok (.iload_n 0, 1) := by decide +kernel
theorem dX5_digit_1 : decode cX5_digit 1 = .ok (.iconst 3, 1) := by decide +kernel
theorem dX5_digit_2 : decode cX5_digit 2 = .ok (.iload_n 1, 1) := by decide +kernel
theorem dX5_digit_3 : decode cX5_digit 3 = .ok (.imul, 1) := by decide +kernel
theorem dX5_digit_4 : decode cX5_digit 4 = .ok (.ishr, 1) := by decide +kernel
theorem dX5_digit_5 : decode cX5_digit 5 = .ok (.bipush 7, 2) := by decide +kernel
theorem dX5_digit_7 : decode cX5_digit 7 = .ok (.iand, 1) := by decide +kernel
theorem dX5_digit_8 : decode cX5_digit 8 = .ok (.ireturn, 1) := by decide +kernel
theorem dX5_atPlace_0 : decode cX5_atPlace 0 = .ok (.iload_n 0, 1) := by decide +kernel
theorem dX5_atPlace_1 : decode cX5_atPlace 1 = .ok (.iconst 3, 1) := by decide +kernel
theorem dX5_atPlace_2 : decode cX5_atPlace 2 = .ok (.iload_n 1, 1) := by decide +kernel
theorem dX5_atPlace_3 : decode cX5_atPlace 3 = .ok (.imul, 1) := by decide +kernel
theorem dX5_atPlace_4 : decode cX5_atPlace 4 = .ok (.ishl, 1) := by decide +kernel
theorem dX5_atPlace_5 : decode cX5_atPlace 5 = .ok (.ireturn, 1) := by decide +kernel
theorem dX5_hasBit_0 : decode cX5_hasBit 0 = .ok (.iload_n 0, 1) := by decide +kernel
theorem dX5_hasBit_1 : decode cX5_hasBit 1 = .ok (.iload_n 1, 1) := by decide +kernel
theorem dX5_hasBit_2 : decode cX5_hasBit 2 = .ok (.ishr, 1) := by decide +kernel
theorem dX5_hasBit_3 : decode cX5_hasBit 3 = .ok (.iconst 1, 1) := by decide +kernel
theorem dX5_hasBit_4 : decode cX5_hasBit 4 = .ok (.iand, 1) := by decide +kernel
theorem dX5_hasBit_5 : decode cX5_hasBit 5 = .ok (.iconst 1, 1) := by decide +kernel
theorem dX5_hasBit_6 : decode cX5_hasBit 6 = .ok (.if_icmp .ne 7, 3) := by decide +kernel
theorem dX5_hasBit_9 : decode cX5_hasBit 9 = .ok (.iconst 1, 1) := by decide +kernel
theorem dX5_hasBit_10 : decode cX5_hasBit 10 = .ok (.goto 4, 3) := by decide +kernel
theorem dX5_hasBit_13 : decode cX5_hasBit 13 = .ok (.iconst 0, 1) := by decide +kernel
theorem dX5_hasBit_14 : decode cX5_hasBit 14 = .ok (.ireturn, 1) := by decide +kernel
theorem dX5_asNumber_0 : decode cX5_asNumber 0 = .ok (.iload_n 0, 1) := by decide +kernel
theorem dX5_asNumber_1 : decode cX5_asNumber 1 = .ok (.ifCond .eq 7, 3) := by decide +kernel
theorem dX5_asNumber_4 : decode cX5_asNumber 4 = .ok (.iconst 1, 1) := by decide +kernel
theorem dX5_asNumber_5 : decode cX5_asNumber 5 = .ok (.goto 4, 3) := by decide +kernel
theorem dX5_asNumber_8 : decode cX5_asNumber 8 = .ok (.iconst 0, 1) := by decide +kernel
theorem dX5_asNumber_9 : decode cX5_asNumber 9 = .ok (.ireturn, 1) := by decide +kernel
set_option maxRecDepth 20000 in
theorem ggX5_digitsOf_X5_hasBit : GoodIn wsX5_digitsOf wsX5_hasBit := goodIn_r _ [4] (by decide +kernel) (by decide +kernel)
set_option maxRecDepth 20000 in
theorem gX5_digitsOf_X5_hasBit : GoodIn wsX5_digitsOf (va_wsS RX5 175 yX5_hasBit wsX5_hasBit) := goodIn_app (goodIn_of _ (by decide +kernel)) ggX5_digitsOf_X5_hasBit
set_option maxRecDepth 20000 in
theorem ggX5_digitsOf_X5_atPlace : GoodIn wsX5_digitsOf wsX5_atPlace := goodIn_r _ [7] (by decide +kernel) (by decide +kernel)
set_option maxRecDepth 20000 in
theorem gX5_digitsOf_X5_atPlace : GoodIn wsX5_digitsOf (va_wsS RX5 227 yX5_atPlace wsX5_atPlace) := goodIn_app (goodIn_of _ (by decide +kernel)) ggX5_digitsOf_X5_atPlace
theorem dX5_digitsOf_0 : decode cX5_digitsOf 0 = .ok (.iconst 0, 1) := by decide +kernel
theorem dX5_digitsOf_1 : decode cX5_digitsOf 1 = .ok (.istore_n 1, 1) := by decide +kernel
theorem dX5_digitsOf_2 : decode cX5_digitsOf 2 = .ok (.iconst 0, 1) := by decide +kernel
theorem dX5_digitsOf_3 : decode cX5_digitsOf 3 = .ok (.istore_n 2, 1) := by decide +kernel
theorem dX5_digitsOf_4 : decode cX5_digitsOf 4 = .ok (.iload_n 2, 1) := by decide +kernel
theorem dX5_digitsOf_5 : decode cX5_digitsOf 5 = .ok (.bipush 6, 2) := by decide +kernel
theorem dX5_digitsOf_7 : decode cX5_digitsOf 7 = .ok (.if_icmp .ge 26, 3) := by decide +kernel
theorem dX5_digitsOf_10 : decode cX5_digitsOf 10 = .ok (.iload_n 0, 1) := by decide +kernel
theorem dX5_digitsOf_11 : decode cX5_digitsOf 11 = .ok (.iload_n 2, 1) := by decide +kernel
theorem dX5_digitsOf_12 : decode cX5_digitsOf 12 = .ok (.invokestatic 175, 3) := by decide +kernel
theorem dX5_digitsOf_15 : decode cX5_digitsOf 15 = .ok (.ifCond .eq 12, 3) := by decide +kernel
theorem dX5_digitsOf_18 : decode cX5_digitsOf 18 = .ok (.iload_n 1, 1) := by decide +kernel
theorem dX5_digitsOf_19 : decode cX5_digitsOf 19 = .ok (.bipush 7, 2) := by decide +kernel
theorem dX5_digitsOf_21 : decode cX5_digitsOf 21 = .ok (.iload_n 2, 1) := by decide +kernel
theorem dX5_digitsOf_22 : decode cX5_digitsOf 22 = .ok (.invokestatic 227, 3) := by decide +kernel
theorem dX5_digitsOf_25 : decode cX5_digitsOf 25 = .ok (.ior, 1) := by decide +kernel
theorem dX5_digitsOf_26 : decode cX5_digitsOf 26 = .ok (.istore_n 1, 1) := by decide +kernel
theorem dX5_digitsOf_27 : decode cX5_digitsOf 27 = .ok (.iinc 2 1, 3) := by decide +kernel
theorem dX5_digitsOf_30 : decode cX5_digitsOf 30 = .ok (.goto (-26), 3) := by decide +kernel
theorem dX5_digitsOf_33 : decode cX5_digitsOf 33 = .ok (.iload_n 1, 1) := by decide +kernel
theorem dX5_digitsOf_34 : decode cX5_digitsOf 34 = .ok (.ireturn, 1) := by decide +kernel
set_option maxRecDepth 20000 in
theorem ggX5_numberOf_Jx4a65c_size_8abf5 : GoodIn wsX5_numberOf wsJx4a65c_size_8abf5 := goodIn_r _ [7, 8, 40, 41, 42] (by decide +kernel) (by decide +kernel)
set_option maxRecDepth 20000 in
theorem gX5_numberOf_Jx4a65c_size_8abf5 : GoodIn wsX5_numberOf (wsV RX5 69 RJx4a65c yJx4a65c_size_8abf5 wsJx4a65c_size_8abf5) := goodIn_app (goodIn_of _ (by decide +kernel)) ggX5_numberOf_Jx4a65c_size_8abf5
set_option maxRecDepth 20000 in
theorem ggX5_numberOf_Jx4a65c_get_915e3 : GoodIn wsX5_numberOf wsJx4a65c_get_915e3 := goodIn_r _ [12, 8, 13, 14, 15, 16, 17, 18, 19, 20, 21, 22, 23, 6, 24, 25, 40, 41, 42] (by decide +kernel) (by decide +kernel)
set_option maxRecDepth 20000 in
theorem gX5_numberOf_Jx4a65c_get_915e3 : GoodIn wsX5_numberOf (wsV RX5 60 RJx4a65c yJx4a65c_get_915e3 wsJx4a65c_get_915e3) := goodIn_app (goodIn_of _ (by decide +kernel)) ggX5_numberOf_Jx4a65c_get_915e3
theorem dX5_numberOf_0 : decode cX5_numberOf 0 = .ok (.iconst 0, 1) := by decide +kernel
theorem dX5_numberOf_1 : decode cX5_numberOf 1 = .ok (.istore_n 2, 1) := by decide +kernel
theorem dX5_numberOf_2 : decode cX5_numberOf 2 = .ok (.iload_n 2, 1) := by decide +kernel
theorem dX5_numberOf_3 : decode cX5_numberOf 3 = .ok (.aload_n 0, 1) := by decide +kernel
theorem dX5_numberOf_4 : decode cX5_numberOf 4 = .ok (.getfield 10, 3) := by decide +kernel
theorem dX5_numberOf_7 : decode cX5_numberOf 7 = .ok (.invokevirtual 69, 3) := by decide +kernel
theorem dX5_numberOf_10 : decode cX5_numberOf 10 = .ok (.if_icmp .ge 29, 3) := by decide +kernel
theorem dX5_numberOf_13 : decode cX5_numberOf 13 = .ok (.aload_n 0, 1) := by decide +kernel
theorem dX5_numberOf_14 : decode cX5_numberOf 14 = .ok (.getfield 10, 3) := by decide +kernel
theorem dX5_numberOf_17 : decode cX5_numberOf 17 = .ok (.iload_n 2, 1) := by decide +kernel
theorem dX5_numberOf_18 : decode cX5_numberOf 18 = .ok (.invokevirtual 60, 3) := by decide +kernel
theorem dX5_numberOf_21 : decode cX5_numberOf 21 = .ok (.checkcast 64, 3) := by decide +kernel
theorem dX5_numberOf_24 : decode cX5_numberOf 24 = .ok (.getfield 91, 3) := by decide +kernel
theorem dX5_numberOf_27 : decode cX5_numberOf 27 = .ok (.iload_n 1, 1) := by decide +kernel
theorem dX5_numberOf_28 : decode cX5_numberOf 28 = .ok (.if_icmp .ne 5, 3) := by decide +kernel
theorem dX5_numberOf_31 : decode cX5_numberOf 31 = .ok (.iload_n 2, 1) := by decide +kernel
theorem dX5_numberOf_32 : decode cX5_numberOf 32 = .ok (.ireturn, 1) := by decide +kernel
theorem dX5_numberOf_33 : decode cX5_numberOf 33 = .ok (.iinc 2 1, 3) := by decide +kernel
theorem dX5_numberOf_36 : decode cX5_numberOf 36 = .ok (.goto (-34), 3) := by decide +kernel
theorem dX5_numberOf_39 : decode cX5_numberOf 39 = .ok (.bipush (-9), 2) := by decide +kernel
theorem dX5_numberOf_41 : decode cX5_numberOf 41 = .ok (.ireturn, 1) := by decide +kernel
set_option maxRecDepth 20000 in
theorem ggX5_growthOfAlike_Jx4a65c_size_8abf5 : GoodIn wsX5_growthOfAlike wsJx4a65c_size_8abf5 := goodIn_r _ [7, 8, 43, 44, 45] (by decide +kernel) (by decide +kernel)
set_option maxRecDepth 20000 in
theorem gX5_growthOfAlike_Jx4a65c_size_8abf5 : GoodIn wsX5_growthOfAlike (wsV RX5 69 RJx4a65c yJx4a65c_size_8abf5 wsJx4a65c_size_8abf5) := goodIn_app (goodIn_of _ (by decide +kernel)) ggX5_growthOfAlike_Jx4a65c_size_8abf5
set_option maxRecDepth 20000 in
theorem ggX5_growthOfAlike_Jx4a65c_get_915e3 : GoodIn wsX5_growthOfAlike wsJx4a65c_get_915e3 := goodIn_r _ [12, 8, 13, 14, 15, 16, 17, 18, 19, 20, 21, 22, 23, 6, 24, 25, 43, 44, 45] (by decide +kernel) (by decide +kernel)
set_option maxRecDepth 20000 in
theorem gX5_growthOfAlike_Jx4a65c_get_915e3 : GoodIn wsX5_growthOfAlike (wsV RX5 60 RJx4a65c yJx4a65c_get_915e3 wsJx4a65c_get_915e3) := goodIn_app (goodIn_of _ (by decide +kernel)) ggX5_growthOfAlike_Jx4a65c_get_915e3
set_option maxRecDepth 20000 in
theorem ggX5_growthOfAlike_X2_isWithin : GoodIn wsX5_growthOfAlike wsX2_isWithin := goodIn_r _ [30, 31, 40, 41, 42] (by decide +kernel) (by decide +kernel)
set_option maxRecDepth 20000 in
theorem gX5_growthOfAlike_X2_isWithin : GoodIn wsX5_growthOfAlike (wsV RX5 138 RX2 yX2_isWithin wsX2_isWithin) := goodIn_app (goodIn_of _ (by decide +kernel)) ggX5_growthOfAlike_X2_isWithin
theorem dX5_growthOfAlike_0 : decode cX5_growthOfAlike 0 = .ok (.lconst 0, 1) := by decide +kernel
theorem dX5_growthOfAlike_1 : decode cX5_growthOfAlike 1 = .ok (.lstore 5, 2) := by decide +kernel
theorem dX5_growthOfAlike_3 : decode cX5_growthOfAlike 3 = .ok (.iconst 0, 1) := by decide +kernel
theorem dX5_growthOfAlike_4 : decode cX5_growthOfAlike 4 = .ok (.istore 7, 2) := by decide +kernel
theorem dX5_growthOfAlike_6 : decode cX5_growthOfAlike 6 = .ok (.iload 7, 2) := by decide +kernel
theorem dX5_growthOfAlike_8 : decode cX5_growthOfAlike 8 = .ok (.aload_n 0, 1) := by decide +kernel
theorem dX5_growthOfAlike_9 : decode cX5_growthOfAlike 9 = .ok (.getfield 16, 3) := by decide +kernel
theorem dX5_growthOfAlike_12 : decode cX5_growthOfAlike 12 = .ok (.invokevirtual 69, 3) := by decide +kernel
theorem dX5_growthOfAlike_15 : decode cX5_growthOfAlike 15 = .ok (.if_icmp .ge 58, 3) := by decide +kernel
theorem dX5_growthOfAlike_18 : decode cX5_growthOfAlike 18 = .ok (.aload_n 0, 1) := by decide +kernel
theorem dX5_growthOfAlike_19 : decode cX5_growthOfAlike 19 = .ok (.getfield 16, 3) := by decide +kernel
theorem dX5_growthOfAlike_22 : decode cX5_growthOfAlike 22 = .ok (.iload 7, 2) := by decide +kernel
theorem dX5_growthOfAlike_24 : decode cX5_growthOfAlike 24 = .ok (.invokevirtual 60, 3) := by decide +kernel
theorem dX5_growthOfAlike_27 : decode cX5_growthOfAlike 27 = .ok (.checkcast 83, 3) := by decide +kernel
theorem dX5_growthOfAlike_30 : decode cX5_growthOfAlike 30 = .ok (.astore 8, 2) := by decide +kernel
theorem dX5_growthOfAlike_32 : decode cX5_growthOfAlike 32 = .ok (.aload 8, 2) := by decide +kernel
theorem dX5_growthOfAlike_34 : decode cX5_growthOfAlike 34 = .ok (.iload_n 3, 1) := by decide +kernel
theorem dX5_growthOfAlike_35 : decode cX5_growthOfAlike 35 = .ok (.iload 4, 2) := by decide +kernel
theorem dX5_growthOfAlike_37 : decode cX5_growthOfAlike 37 = .ok (.invokevirtual 138, 3) := by decide +kernel
theorem dX5_growthOfAlike_40 : decode cX5_growthOfAlike 40 = .ok (.ifCond .eq 27, 3) := by decide +kernel
theorem dX5_growthOfAlike_43 : decode cX5_growthOfAlike 43 = .ok (.aload 8, 2) := by decide +kernel
theorem dX5_growthOfAlike_45 : decode cX5_growthOfAlike 45 = .ok (.getfield 141, 3) := by decide +kernel
theorem dX5_growthOfAlike_48 : decode cX5_growthOfAlike 48 = .ok (.iload_n 1, 1) := by decide +kernel
theorem dX5_growthOfAlike_49 : decode cX5_growthOfAlike 49 = .ok (.iand, 1) := by decide +kernel
theorem dX5_growthOfAlike_50 : decode cX5_growthOfAlike 50 = .ok (.iload_n 2, 1) := by decide +kernel
theorem dX5_growthOfAlike_51 : decode cX5_growthOfAlike 51 = .ok (.iload_n 1, 1) := by decide +kernel
theorem dX5_growthOfAlike_52 : decode cX5_growthOfAlike 52 = .ok (.iand, 1) := by decide +kernel
theorem dX5_growthOfAlike_53 : decode cX5_growthOfAlike 53 = .ok (.if_icmp .ne 14, 3) := by decide +kernel
theorem dX5_growthOfAlike_56 : decode cX5_growthOfAlike 56 = .ok (.lload 5, 2) := by decide +kernel
theorem dX5_growthOfAlike_58 : decode cX5_growthOfAlike 58 = .ok (.aload 8, 2) := by decide +kernel
theorem dX5_growthOfAlike_60 : decode cX5_growthOfAlike 60 = .ok (.getfield 230, 3) := by decide +kernel
theorem dX5_growthOfAlike_63 : decode cX5_growthOfAlike 63 = .ok (.i2l, 1) := by decide +kernel
theorem dX5_growthOfAlike_64 : decode cX5_growthOfAlike 64 = .ok (.ladd, 1) := by decide +kernel
theorem dX5_growthOfAlike_65 : decode cX5_growthOfAlike 65 = .ok (.lstore 5, 2) := by decide +kernel
theorem dX5_growthOfAlike_67 : decode cX5_growthOfAlike 67 = .ok (.iinc 7 1, 3) := by decide +kernel
theorem dX5_growthOfAlike_70 : decode cX5_growthOfAlike 70 = .ok (.goto (-64), 3) := by decide +kernel
theorem dX5_growthOfAlike_73 : decode cX5_growthOfAlike 73 = .ok (.lload 5, 2) := by decide +kernel
theorem dX5_growthOfAlike_75 : decode cX5_growthOfAlike 75 = .ok (.lreturn, 1) := by decide +kernel
set_option maxRecDepth 20000 in
theorem ggX5_gatherSeen_X1_makeEmpty : GoodIn wsX5_gatherSeen wsX1_makeEmpty := goodIn_r _ [8, 9, 72, 73] (by decide +kernel) (by decide +kernel)
set_option maxRecDepth 20000 in
theorem gX5_gatherSeen_X1_makeEmpty : GoodIn wsX5_gatherSeen (wsV RX5 135 RX1 yX1_makeEmpty wsX1_makeEmpty) := goodIn_app (goodIn_of _ (by decide +kernel)) ggX5_gatherSeen_X1_makeEmpty
set_option maxRecDepth 20000 in
theorem ggX5_gatherSeen_Jx4a65c_size_8abf5 : GoodIn wsX5_gatherSeen wsJx4a65c_size_8abf5 := goodIn_r _ [14, 15, 74, 75, 76] (by decide +kernel) (by decide +kernel)
set_option maxRecDepth 20000 in
theorem gX5_gatherSeen_Jx4a65c_size_8abf5 : GoodIn wsX5_gatherSeen (wsV RX5 69 RJx4a65c yJx4a65c_size_8abf5 wsJx4a65c_size_8abf5) := goodIn_app (goodIn_of _ (by decide +kernel)) ggX5_gatherSeen_Jx4a65c_size_8abf5
set_option maxRecDepth 20000 in
theorem ggX5_gatherSeen_Jx4a65c_get_915e3 : GoodIn wsX5_gatherSeen wsJx4a65c_get_915e3 := goodIn_r _ [19, 15, 20, 21, 22, 23, 24, 25, 26, 27, 28, 29, 30, 13, 31, 32, 74, 75, 76] (by decide +kernel) (by decide +kernel)
set_option maxRecDepth 20000 in
theorem gX5_gatherSeen_Jx4a65c_get_915e3 : GoodIn wsX5_gatherSeen (wsV RX5 60 RJx4a65c yJx4a65c_get_915e3 wsJx4a65c_get_915e3) := goodIn_app (goodIn_of _ (by decide +kernel)) ggX5_gatherSeen_Jx4a65c_get_915e3
set_option maxRecDepth 20000 in
theorem ggX5_gatherSeen_X2_isWithin : GoodIn wsX5_gatherSeen wsX2_isWithin := goodIn_r _ [37, 38, 69, 70, 71] (by decide +kernel) (by decide +kernel)
set_option maxRecDepth 20000 in
theorem gX5_gatherSeen_X2_isWithin : GoodIn wsX5_gatherSeen (wsV RX5 138 RX2 yX2_isWithin wsX2_isWithin) := goodIn_app (goodIn_of _ (by decide +kernel)) ggX5_gatherSeen_X2_isWithin
set_option maxRecDepth 20000 in
theorem ggX5_gatherSeen_X1_put : GoodIn wsX5_gatherSeen wsX1_put := goodIn_r _ [42, 9, 43, 44, 45, 46, 47, 48, 49, 50, 7, 51, 52, 53, 54, 55, 56, 57, 58, 59, 60, 72, 73] (by decide +kernel) (by decide +kernel)
set_option maxRecDepth 20000 in
theorem gX5_gatherSeen_X1_put : GoodIn wsX5_gatherSeen (wsV RX5 146 RX1 yX1_put wsX1_put) := goodIn_app (goodIn_of _ (by decide +kernel)) ggX5_gatherSeen_X1_put
theorem dX5_gatherSeen_0 : decode cX5_gatherSeen 0 = .ok (.aload_n 0, 1) := by decide +kernel
theorem dX5_gatherSeen_1 : decode cX5_gatherSeen 1 = .ok (.getfield 36, 3) := by decide +kernel
theorem dX5_gatherSeen_4 : decode cX5_gatherSeen 4 = .ok (.invokevirtual 135, 3) := by decide +kernel
theorem dX5_gatherSeen_7 : decode cX5_gatherSeen 7 = .ok (.iconst 0, 1) := by decide +kernel
theorem dX5_gatherSeen_8 : decode cX5_gatherSeen 8 = .ok (.istore_n 3, 1) := by decide +kernel
theorem dX5_gatherSeen_9 : decode cX5_gatherSeen 9 = .ok (.iload_n 3, 1) := by decide +kernel
theorem dX5_gatherSeen_10 : decode cX5_gatherSeen 10 = .ok (.aload_n 0, 1) := by decide +kernel
theorem dX5_gatherSeen_11 : decode cX5_gatherSeen 11 = .ok (.getfield 16, 3) := by decide +kernel
theorem dX5_gatherSeen_14 : decode cX5_gatherSeen 14 = .ok (.invokevirtual 69, 3) := by decide +kernel
theorem dX5_gatherSeen_17 : decode cX5_gatherSeen 17 = .ok (.if_icmp .ge 44, 3) := by decide +kernel
theorem dX5_gatherSeen_20 : decode cX5_gatherSeen 20 = .ok (.aload_n 0, 1) := by decide +kernel
theorem dX5_gatherSeen_21 : decode cX5_gatherSeen 21 = .ok (.getfield 16, 3) := by decide +kernel
theorem dX5_gatherSeen_24 : decode cX5_gatherSeen 24 = .ok (.iload_n 3, 1) := by decide +kernel
theorem dX5_gatherSeen_25 : decode cX5_gatherSeen 25 = .ok (.invokevirtual 60, 3) := by decide +kernel
theorem dX5_gatherSeen_28 : decode cX5_gatherSeen 28 = .ok (.checkcast 83, 3) := by decide +kernel
theorem dX5_gatherSeen_31 : decode cX5_gatherSeen 31 = .ok (.astore 4, 2) := by decide +kernel
theorem dX5_gatherSeen_33 : decode cX5_gatherSeen 33 = .ok (.aload 4, 2) := by decide +kernel
theorem dX5_gatherSeen_35 : decode cX5_gatherSeen 35 = .ok (.iload_n 1, 1) := by decide +kernel
theorem dX5_gatherSeen_36 : decode cX5_gatherSeen 36 = .ok (.iload_n 2, 1) := by decide +kernel
theorem dX5_gatherSeen_37 : decode cX5_gatherSeen 37 = .ok (.invokevirtual 138, 3) := by decide +kernel
theorem dX5_gatherSeen_40 : decode cX5_gatherSeen 40 = .ok (.ifCond .eq 15, 3) := by decide +kernel
theorem dX5_gatherSeen_43 : decode cX5_gatherSeen 43 = .ok (.aload_n 0, 1) := by decide +kernel
theorem dX5_gatherSeen_44 : decode cX5_gatherSeen 44 = .ok (.getfield 36, 3) := by decide +kernel
theorem dX5_gatherSeen_47 : decode cX5_gatherSeen 47 = .ok (.aload 4, 2) := by decide +kernel
theorem dX5_gatherSeen_49 : decode cX5_gatherSeen 49 = .ok (.getfield 141, 3) := by decide +kernel
theorem dX5_gatherSeen_52 : decode cX5_gatherSeen 52 = .ok (.invokevirtual 146, 3) := by decide +kernel
theorem dX5_gatherSeen_55 : decode cX5_gatherSeen 55 = .ok (.iinc 3 1, 3) := by decide +kernel
theorem dX5_gatherSeen_58 : decode cX5_gatherSeen 58 = .ok (.goto (-49), 3) := by decide +kernel
theorem dX5_gatherSeen_61 : decode cX5_gatherSeen 61 = .ok (.return_, 1) := by decide +kernel
set_option maxRecDepth 20000 in
theorem ggX5_namesLeftWithout_X5_digitsOf : GoodIn wsX5_namesLeftWithout wsX5_digitsOf := goodIn_r _ [6, 7, 8, 5, 9, 10, 11, 12] (by decide +kernel) (by decide +kernel)
set_option maxRecDepth 20000 in
theorem gX5_namesLeftWithout_X5_digitsOf : GoodIn wsX5_namesLeftWithout (va_wsS RX5 114 yX5_digitsOf wsX5_digitsOf) := goodIn_app (goodIn_of _ (by decide +kernel)) ggX5_namesLeftWithout_X5_digitsOf
set_option maxRecDepth 20000 in
theorem ggX5_namesLeftWithout_X1_makeEmpty : GoodIn wsX5_namesLeftWithout wsX1_makeEmpty := goodIn_r _ [17, 18, 49, 50] (by decide +kernel) (by decide +kernel)
set_option maxRecDepth 20000 in
theorem gX5_namesLeftWithout_X1_makeEmpty : GoodIn wsX5_namesLeftWithout (wsV RX5 135 RX1 yX1_makeEmpty wsX1_makeEmpty) := goodIn_app (goodIn_of _ (by decide +kernel)) ggX5_namesLeftWithout_X1_makeEmpty
set_option maxRecDepth 20000 in
theorem ggX5_namesLeftWithout_X1_put : GoodIn wsX5_namesLeftWithout wsX1_put := goodIn_r _ [22, 18, 23, 24, 25, 26, 27, 28, 29, 30, 16, 31, 32, 33, 34, 35, 36, 37, 38, 39, 40, 49, 50] (by decide +kernel) (by decide +kernel)
set_option maxRecDepth 20000 in
theorem gX5_namesLeftWithout_X1_put : GoodIn wsX5_namesLeftWithout (wsV RX5 146 RX1 yX1_put wsX1_put) := goodIn_app (goodIn_of _ (by decide +kernel)) ggX5_namesLeftWithout_X1_put
theorem dX5_namesLeftWithout_0 : decode cX5_namesLeftWithout 0 = .ok (.bipush 63, 2) := by decide +kernel
theorem dX5_namesLeftWithout_2 : decode cX5_namesLeftWithout 2 = .ok (.iload_n 1, 1) := by decide +kernel
theorem dX5_namesLeftWithout_3 : decode cX5_namesLeftWithout 3 = .ok (.ixor, 1) := by decide +kernel
theorem dX5_namesLeftWithout_4 : decode cX5_namesLeftWithout 4 = .ok (.invokestatic 114, 3) := by decide +kernel
theorem dX5_namesLeftWithout_7 : decode cX5_namesLeftWithout 7 = .ok (.istore_n 2, 1) := by decide +kernel
theorem dX5_namesLeftWithout_8 : decode cX5_namesLeftWithout 8 = .ok (.aload_n 0, 1) := by decide +kernel
theorem dX5_namesLeftWithout_9 : decode cX5_namesLeftWithout 9 = .ok (.getfield 40, 3) := by decide +kernel
theorem dX5_namesLeftWithout_12 : decode cX5_namesLeftWithout 12 = .ok (.invokevirtual 135, 3) := by decide +kernel
theorem dX5_namesLeftWithout_15 : decode cX5_namesLeftWithout 15 = .ok (.iconst 0, 1) := by decide +kernel
theorem dX5_namesLeftWithout_16 : decode cX5_namesLeftWithout 16 = .ok (.istore_n 3, 1) := by decide +kernel
theorem dX5_namesLeftWithout_17 : decode cX5_namesLeftWithout 17 = .ok (.iload_n 3, 1) := by decide +kernel
theorem dX5_namesLeftWithout_18 : decode cX5_namesLeftWithout 18 = .ok (.aload_n 0, 1) := by decide +kernel
theorem dX5_namesLeftWithout_19 : decode cX5_namesLeftWithout 19 = .ok (.getfield 36, 3) := by decide +kernel
theorem dX5_namesLeftWithout_22 : decode cX5_namesLeftWithout 22 = .ok (.getfield 124, 3) := by decide +kernel
theorem dX5_namesLeftWithout_25 : decode cX5_namesLeftWithout 25 = .ok (.if_icmp .ge 27, 3) := by decide +kernel
theorem dX5_namesLeftWithout_28 : decode cX5_namesLeftWithout 28 = .ok (.aload_n 0, 1) := by decide +kernel
theorem dX5_namesLeftWithout_29 : decode cX5_namesLeftWithout 29 = .ok (.getfield 40, 3) := by decide +kernel
theorem dX5_namesLeftWithout_32 : decode cX5_namesLeftWithout 32 = .ok (.aload_n 0, 1) := by decide +kernel
theorem dX5_namesLeftWithout_33 : decode cX5_namesLeftWithout 33 = .ok (.getfield 36, 3) := by decide +kernel
theorem dX5_namesLeftWithout_36 : decode cX5_namesLeftWithout 36 = .ok (.getfield 194, 3) := by decide +kernel
theorem dX5_namesLeftWithout_39 : decode cX5_namesLeftWithout 39 = .ok (.iload_n 3, 1) := by decide +kernel
theorem dX5_namesLeftWithout_40 : decode cX5_namesLeftWithout 40 = .ok (.iaload, 1) := by decide +kernel
theorem dX5_namesLeftWithout_41 : decode cX5_namesLeftWithout 41 = .ok (.iload_n 2, 1) := by decide +kernel
theorem dX5_namesLeftWithout_42 : decode cX5_namesLeftWithout 42 = .ok (.iand, 1) := by decide +kernel
theorem dX5_namesLeftWithout_43 : decode cX5_namesLeftWithout 43 = .ok (.invokevirtual 146, 3) := by decide +kernel
theorem dX5_namesLeftWithout_46 : decode cX5_namesLeftWithout 46 = .ok (.iinc 3 1, 3) := by decide +kernel
theorem dX5_namesLeftWithout_49 : decode cX5_namesLeftWithout 49 = .ok (.goto (-32), 3) := by decide +kernel
theorem dX5_namesLeftWithout_52 : decode cX5_namesLeftWithout 52 = .ok (.aload_n 0, 1) := by decide +kernel
theorem dX5_namesLeftWithout_53 : decode cX5_namesLeftWithout 53 = .ok (.getfield 40, 3) := by decide +kernel
theorem dX5_namesLeftWithout_56 : decode cX5_namesLeftWithout 56 = .ok (.getfield 124, 3) := by decide +kernel
theorem dX5_namesLeftWithout_59 : decode cX5_namesLeftWithout 59 = .ok (.ireturn, 1) := by decide +kernel
set_option maxRecDepth 20000 in
theorem ggX5_gatherKeys_X5_gatherSeen : GoodIn wsX5_gatherKeys wsX5_gatherSeen := goodIn_r _ [7, 2, 8, 9, 10, 11, 12, 13, 14, 15, 16, 17, 18, 19, 20, 21, 22, 23, 24, 25, 26, 27, 28, 29, 30, 31, 32, 33, 34, 35, 36, 37, 38, 39, 40, 41, 42, 43, 44, 45, 46, 47, 48, 49, 50, 51, 52, 53, 54, 55, 56, 57, 58, 59, 60, 61, 62, 63, 64, 65, 66, 77, 78, 79, 80, 81, 82, 83, 84, 87, 88, 89, 85, 86, 90, 91, 92] (by decide +kernel) (by decide +kernel)
set_option maxRecDepth 20000 in
theorem gX5_gatherKeys_X5_gatherSeen : GoodIn wsX5_gatherKeys (wsV RX5 121 RX5 yX5_gatherSeen wsX5_gatherSeen) := goodIn_app (goodIn_of _ (by decide +kernel)) ggX5_gatherKeys_X5_gatherSeen
set_option maxRecDepth 20000 in
theorem ggX5_gatherKeys_X1_makeEmpty : GoodIn wsX5_gatherKeys wsX1_makeEmpty := goodIn_r _ [14, 15, 85, 86] (by decide +kernel) (by decide +kernel)
set_option maxRecDepth 20000 in
theorem gX5_gatherKeys_X1_makeEmpty : GoodIn wsX5_gatherKeys (wsV RX5 135 RX1 yX1_makeEmpty wsX1_makeEmpty) := goodIn_app (goodIn_of _ (by decide +kernel)) ggX5_gatherKeys_X1_makeEmpty
set_option maxRecDepth 20000 in
theorem ggX5_gatherKeys_X0_keyOf : GoodIn wsX5_gatherKeys wsX0_keyOf := goodIn_r _ [71, 72, 73, 74, 75, 6, 76, 93, 94, 95, 96, 97] (by decide +kernel) (by decide +kernel)
set_option maxRecDepth 20000 in
theorem gX5_gatherKeys_X0_keyOf : GoodIn wsX5_gatherKeys (wsV RX5 184 RX0 yX0_keyOf wsX0_keyOf) := goodIn_app (goodIn_of _ (by decide +kernel)) ggX5_gatherKeys_X0_keyOf
set_option maxRecDepth 20000 in
theorem ggX5_gatherKeys_X1_put : GoodIn wsX5_gatherKeys wsX1_put := goodIn_r _ [48, 15, 49, 50, 51, 52, 53, 54, 55, 56, 13, 57, 58, 59, 60, 61, 62, 63, 64, 65, 66, 85, 86] (by decide +kernel) (by decide +kernel)
set_option maxRecDepth 20000 in
theorem gX5_gatherKeys_X1_put : GoodIn wsX5_gatherKeys (wsV RX5 146 RX1 yX1_put wsX1_put) := goodIn_app (goodIn_of _ (by decide +kernel)) ggX5_gatherKeys_X1_put
theorem dX5_gatherKeys_0 : decode cX5_gatherKeys 0 = .ok (.aload_n 0, 1) := by decide +kernel
theorem dX5_gatherKeys_1 : decode cX5_gatherKeys 1 = .ok (.iload_n 2, 1) := by decide +kernel
theorem dX5_gatherKeys_2 : decode cX5_gatherKeys 2 = .ok (.iload_n 3, 1) := by decide +kernel
theorem dX5_gatherKeys_3 : decode cX5_gatherKeys 3 = .ok (.invokevirtual 121, 3) := by decide +kernel
theorem dX5_gatherKeys_6 : decode cX5_gatherKeys 6 = .ok (.aload_n 0, 1) := by decide +kernel
theorem dX5_gatherKeys_7 : decode cX5_gatherKeys 7 = .ok (.getfield 40, 3) := by decide +kernel
theorem dX5_gatherKeys_10 : decode cX5_gatherKeys 10 = .ok (.invokevirtual 135, 3) := by decide +kernel
theorem dX5_gatherKeys_13 : decode cX5_gatherKeys 13 = .ok (.iconst 0, 1) := by decide +kernel
theorem dX5_gatherKeys_14 : decode cX5_gatherKeys 14 = .ok (.istore 4, 2) := by decide +kernel
theorem dX5_gatherKeys_16 : decode cX5_gatherKeys 16 = .ok (.iload 4, 2) := by decide +kernel
theorem dX5_gatherKeys_18 : decode cX5_gatherKeys 18 = .ok (.aload_n 0, 1) := by decide +kernel
theorem dX5_gatherKeys_19 : decode cX5_gatherKeys 19 = .ok (.getfield 36, 3) := by decide +kernel
theorem dX5_gatherKeys_22 : decode cX5_gatherKeys 22 = .ok (.getfield 124, 3) := by decide +kernel
theorem dX5_gatherKeys_25 : decode cX5_gatherKeys 25 = .ok (.if_icmp .ge 41, 3) := by decide +kernel
theorem dX5_gatherKeys_28 : decode cX5_gatherKeys 28 = .ok (.aload_n 1, 1) := by decide +kernel
theorem dX5_gatherKeys_29 : decode cX5_gatherKeys 29 = .ok (.aload_n 0, 1) := by decide +kernel
theorem dX5_gatherKeys_30 : decode cX5_gatherKeys 30 = .ok (.getfield 36, 3) := by decide +kernel
theorem dX5_gatherKeys_33 : decode cX5_gatherKeys 33 = .ok (.getfield 194, 3) := by decide +kernel
theorem dX5_gatherKeys_36 : decode cX5_gatherKeys 36 = .ok (.iload 4, 2) := by decide +kernel
theorem dX5_gatherKeys_38 : decode cX5_gatherKeys 38 = .ok (.iaload, 1) := by decide +kernel
theorem dX5_gatherKeys_39 : decode cX5_gatherKeys 39 = .ok (.invokevirtual 184, 3) := by decide +kernel
theorem dX5_gatherKeys_42 : decode cX5_gatherKeys 42 = .ok (.istore 5, 2) := by decide +kernel
theorem dX5_gatherKeys_44 : decode cX5_gatherKeys 44 = .ok (.iload 5, 2) := by decide +kernel
theorem dX5_gatherKeys_46 : decode cX5_gatherKeys 46 = .ok (.bipush (-9), 2) := by decide +kernel
theorem dX5_gatherKeys_48 : decode cX5_gatherKeys 48 = .ok (.if_icmp .eq 12, 3) := by decide +kernel
theorem dX5_gatherKeys_51 : decode cX5_gatherKeys 51 = .ok (.aload_n 0, 1) := by decide +kernel
theorem dX5_gatherKeys_52 : decode cX5_gatherKeys 52 = .ok (.getfield 40, 3) := by decide +kernel
theorem dX5_gatherKeys_55 : decode cX5_gatherKeys 55 = .ok (.iload 5, 2) := by decide +kernel
theorem dX5_gatherKeys_57 : decode cX5_gatherKeys 57 = .ok (.invokevirtual 146, 3) := by decide +kernel
theorem dX5_gatherKeys_60 : decode cX5_gatherKeys 60 = .ok (.iinc 4 1, 3) := by decide +kernel
theorem dX5_gatherKeys_63 : decode cX5_gatherKeys 63 = .ok (.goto (-47), 3) := by decide +kernel
theorem dX5_gatherKeys_66 : decode cX5_gatherKeys 66 = .ok (.return_, 1) := by decide +kernel
theorem dX5_firstLack_0 : decode cX5_firstLack 0 = .ok (.iload_n 2, 1) := by decide +kernel
theorem dX5_firstLack_1 : decode cX5_firstLack 1 = .ok (.istore 4, 2) := by decide +kernel
theorem dX5_firstLack_3 : decode cX5_firstLack 3 = .ok (.iload 4, 2) := by decide +kernel
theorem dX5_firstLack_5 : decode cX5_firstLack 5 = .ok (.iload_n 3, 1) := by decide +kernel
theorem dX5_firstLack_6 : decode cX5_firstLack 6 = .ok (.if_icmp .gt 27, 3) := by decide +kernel
theorem dX5_firstLack_9 : decode cX5_firstLack 9 = .ok (.aload_n 0, 1) := by decide +kernel
theorem dX5_firstLack_10 : decode cX5_firstLack 10 = .ok (.getfield 25, 3) := by decide +kernel
theorem dX5_firstLack_13 : decode cX5_firstLack 13 = .ok (.getfield 218, 3) := by decide +kernel
theorem dX5_firstLack_16 : decode cX5_firstLack 16 = .ok (.iload 4, 2) := by decide +kernel
theorem dX5_firstLack_18 : decode cX5_firstLack 18 = .ok (.iaload, 1) := by decide +kernel
theorem dX5_firstLack_19 : decode cX5_firstLack 19 = .ok (.iload_n 1, 1) := by decide +kernel
theorem dX5_firstLack_20 : decode cX5_firstLack 20 = .ok (.iand, 1) := by decide +kernel
theorem dX5_firstLack_21 : decode cX5_firstLack 21 = .ok (.ifCond .eq 6, 3) := by decide +kernel
theorem dX5_firstLack_24 : decode cX5_firstLack 24 = .ok (.iload 4, 2) := by decide +kernel
theorem dX5_firstLack_26 : decode cX5_firstLack 26 = .ok (.ireturn, 1) := by decide +kernel
theorem dX5_firstLack_27 : decode cX5_firstLack 27 = .ok (.iinc 4 1, 3) := by decide +kernel
theorem dX5_firstLack_30 : decode cX5_firstLack 30 = .ok (.goto (-27), 3) := by decide +kernel
theorem dX5_firstLack_33 : decode cX5_firstLack 33 = .ok (.bipush (-9), 2) := by decide +kernel
theorem dX5_firstLack_35 : decode cX5_firstLack 35 = .ok (.ireturn, 1) := by decide +kernel
theorem dX5_changeWeight_0 : decode cX5_changeWeight 0 = .ok (.aload_n 0, 1) := by decide +kernel
theorem dX5_changeWeight_1 : decode cX5_changeWeight 1 = .ok (.getfield 29, 3) := by decide +kernel
theorem dX5_changeWeight_4 : decode cX5_changeWeight 4 = .ok (.iload_n 1, 1) := by decide +kernel
theorem dX5_changeWeight_5 : decode cX5_changeWeight 5 = .ok (.iaload, 1) := by decide +kernel
theorem dX5_changeWeight_6 : decode cX5_changeWeight 6 = .ok (.istore_n 3, 1) := by decide +kernel
theorem dX5_changeWeight_7 : decode cX5_changeWeight 7 = .ok (.aload_n 0, 1) := by decide +kernel
theorem dX5_changeWeight_8 : decode cX5_changeWeight 8 = .ok (.getfield 29, 3) := by decide +kernel
theorem dX5_changeWeight_11 : decode cX5_changeWeight 11 = .ok (.iload_n 1, 1) := by decide +kernel
theorem dX5_changeWeight_12 : decode cX5_changeWeight 12 = .ok (.iload_n 2, 1) := by decide +kernel
theorem dX5_changeWeight_13 : decode cX5_changeWeight 13 = .ok (.iastore, 1) := by decide +kernel
theorem dX5_changeWeight_14 : decode cX5_changeWeight 14 = .ok (.iload_n 3, 1) := by decide +kernel
theorem dX5_changeWeight_15 : decode cX5_changeWeight 15 = .ok (.ireturn, 1) := by decide +kernel
set_option maxRecDepth 20000 in
theorem ggX5_lossOf_X5_hasBit : GoodIn wsX5_lossOf wsX5_hasBit := goodIn_r _ [7] (by decide +kernel) (by decide +kernel)
set_option maxRecDepth 20000 in
theorem gX5_lossOf_X5_hasBit : GoodIn wsX5_lossOf (va_wsS RX5 175 yX5_hasBit wsX5_hasBit) := goodIn_app (goodIn_of _ (by decide +kernel)) ggX5_lossOf_X5_hasBit
set_option maxRecDepth 20000 in
theorem ggX5_lossOf_Jx4a65c_size_8abf5 : GoodIn wsX5_lossOf wsJx4a65c_size_8abf5 := goodIn_r _ [12, 13, 44, 45, 46] (by decide +kernel) (by decide +kernel)
set_option maxRecDepth 20000 in
theorem gX5_lossOf_Jx4a65c_size_8abf5 : GoodIn wsX5_lossOf (wsV RX5 69 RJx4a65c yJx4a65c_size_8abf5 wsJx4a65c_size_8abf5) := goodIn_app (goodIn_of _ (by decide +kernel)) ggX5_lossOf_Jx4a65c_size_8abf5
set_option maxRecDepth 20000 in
theorem ggX5_lossOf_Jx4a65c_get_915e3 : GoodIn wsX5_lossOf wsJx4a65c_get_915e3 := goodIn_r _ [17, 13, 18, 19, 20, 21, 22, 23, 24, 25, 26, 27, 28, 11, 29, 30, 44, 45, 46] (by decide +kernel) (by decide +kernel)
set_option maxRecDepth 20000 in
theorem gX5_lossOf_Jx4a65c_get_915e3 : GoodIn wsX5_lossOf (wsV RX5 60 RJx4a65c yJx4a65c_get_915e3 wsJx4a65c_get_915e3) := goodIn_app (goodIn_of _ (by decide +kernel)) ggX5_lossOf_Jx4a65c_get_915e3
theorem dX5_lossOf_0 : decode cX5_lossOf 0 = .ok (.iconst 0, 1) := by decide +kernel
theorem dX5_lossOf_1 : decode cX5_lossOf 1 = .ok (.istore_n 2, 1) := by decide +kernel
theorem dX5_lossOf_2 : decode cX5_lossOf 2 = .ok (.iconst 0, 1) := by decide +kernel
theorem dX5_lossOf_3 : decode cX5_lossOf 3 = .ok (.istore_n 3, 1) := by decide +kernel
theorem dX5_lossOf_4 : decode cX5_lossOf 4 = .ok (.iload_n 3, 1) := by decide +kernel
theorem dX5_lossOf_5 : decode cX5_lossOf 5 = .ok (.bipush 6, 2) := by decide +kernel
theorem dX5_lossOf_7 : decode cX5_lossOf 7 = .ok (.if_icmp .ge 26, 3) := by decide +kernel
theorem dX5_lossOf_10 : decode cX5_lossOf 10 = .ok (.iload_n 1, 1) := by decide +kernel
theorem dX5_lossOf_11 : decode cX5_lossOf 11 = .ok (.iload_n 3, 1) := by decide +kernel
theorem dX5_lossOf_12 : decode cX5_lossOf 12 = .ok (.invokestatic 175, 3) := by decide +kernel
theorem dX5_lossOf_15 : decode cX5_lossOf 15 = .ok (.ifCond .eq 12, 3) := by decide +kernel
theorem dX5_lossOf_18 : decode cX5_lossOf 18 = .ok (.iload_n 2, 1) := by decide +kernel
theorem dX5_lossOf_19 : decode cX5_lossOf 19 = .ok (.aload_n 0, 1) := by decide +kernel
theorem dX5_lossOf_20 : decode cX5_lossOf 20 = .ok (.getfield 29, 3) := by decide +kernel
theorem dX5_lossOf_23 : decode cX5_lossOf 23 = .ok (.iload_n 3, 1) := by decide +kernel
theorem dX5_lossOf_24 : decode cX5_lossOf 24 = .ok (.iaload, 1) := by decide +kernel
theorem dX5_lossOf_25 : decode cX5_lossOf 25 = .ok (.iadd, 1) := by decide +kernel
theorem dX5_lossOf_26 : decode cX5_lossOf 26 = .ok (.istore_n 2, 1) := by decide +kernel
theorem dX5_lossOf_27 : decode cX5_lossOf 27 = .ok (.iinc 3 1, 3) := by decide +kernel
theorem dX5_lossOf_30 : decode cX5_lossOf 30 = .ok (.goto (-26), 3) := by decide +kernel
theorem dX5_lossOf_33 : decode cX5_lossOf 33 = .ok (.iconst 0, 1) := by decide +kernel
theorem dX5_lossOf_34 : decode cX5_lossOf 34 = .ok (.istore_n 3, 1) := by decide +kernel
theorem dX5_lossOf_35 : decode cX5_lossOf 35 = .ok (.iload_n 3, 1) := by decide +kernel
theorem dX5_lossOf_36 : decode cX5_lossOf 36 = .ok (.aload_n 0, 1) := by decide +kernel
theorem dX5_lossOf_37 : decode cX5_lossOf 37 = .ok (.getfield 19, 3) := by decide +kernel
theorem dX5_lossOf_40 : decode cX5_lossOf 40 = .ok (.invokevirtual 69, 3) := by decide +kernel
theorem dX5_lossOf_43 : decode cX5_lossOf 43 = .ok (.if_icmp .ge 40, 3) := by decide +kernel
theorem dX5_lossOf_46 : decode cX5_lossOf 46 = .ok (.aload_n 0, 1) := by decide +kernel
theorem dX5_lossOf_47 : decode cX5_lossOf 47 = .ok (.getfield 19, 3) := by decide +kernel
theorem dX5_lossOf_50 : decode cX5_lossOf 50 = .ok (.iload_n 3, 1) := by decide +kernel
theorem dX5_lossOf_51 : decode cX5_lossOf 51 = .ok (.invokevirtual 60, 3) := by decide +kernel
theorem dX5_lossOf_54 : decode cX5_lossOf 54 = .ok (.checkcast 178, 3) := by decide +kernel
theorem dX5_lossOf_57 : decode cX5_lossOf 57 = .ok (.astore 4, 2) := by decide +kernel
theorem dX5_lossOf_59 : decode cX5_lossOf 59 = .ok (.aload 4, 2) := by decide +kernel
theorem dX5_lossOf_61 : decode cX5_lossOf 61 = .ok (.getfield 197, 3) := by decide +kernel
theorem dX5_lossOf_64 : decode cX5_lossOf 64 = .ok (.iload_n 1, 1) := by decide +kernel
theorem dX5_lossOf_65 : decode cX5_lossOf 65 = .ok (.iand, 1) := by decide +kernel
theorem dX5_lossOf_66 : decode cX5_lossOf 66 = .ok (.ifCond .eq 11, 3) := by decide +kernel
theorem dX5_lossOf_69 : decode cX5_lossOf 69 = .ok (.iload_n 2, 1) := by decide +kernel
theorem dX5_lossOf_70 : decode cX5_lossOf 70 = .ok (.aload 4, 2) := by decide +kernel
theorem dX5_lossOf_72 : decode cX5_lossOf 72 = .ok (.getfield 233, 3) := by decide +kernel
theorem dX5_lossOf_75 : decode cX5_lossOf 75 = .ok (.iadd, 1) := by decide +kernel
theorem dX5_lossOf_76 : decode cX5_lossOf 76 = .ok (.istore_n 2, 1) := by decide +kernel
theorem dX5_lossOf_77 : decode cX5_lossOf 77 = .ok (.iinc 3 1, 3) := by decide +kernel
theorem dX5_lossOf_80 : decode cX5_lossOf 80 = .ok (.goto (-45), 3) := by decide +kernel
theorem dX5_lossOf_83 : decode cX5_lossOf 83 = .ok (.iload_n 2, 1) := by decide +kernel
theorem dX5_lossOf_84 : decode cX5_lossOf 84 = .ok (.ireturn, 1) := by decide +kernel
theorem dX6_init_0 : decode cX6_init 0 = .ok (.aload_n 0, 1) := by decide +kernel
theorem dX6_init_1 : decode cX6_init 1 = .ok (.invokespecial 1, 3) := by decide +kernel
theorem dX6_init_4 : decode cX6_init 4 = .ok (.aload_n 0, 1) := by decide +kernel
theorem dX6_init_5 : decode cX6_init 5 = .ok (.sipush 1200, 3) := by decide +kernel
theorem dX6_init_8 : decode cX6_init 8 = .ok (.newarray .boolean, 2) := by decide +kernel
theorem dX6_init_10 : decode cX6_init 10 = .ok (.putfield 7, 3) := by decide +kernel
theorem dX6_init_13 : decode cX6_init 13 = .ok (.aload_n 0, 1) := by decide +kernel
theorem dX6_init_14 : decode cX6_init 14 = .ok (.sipush 9600, 3) := by decide +kernel
theorem dX6_init_17 : decode cX6_init 17 = .ok (.newarray .int, 2) := by decide +kernel
theorem dX6_init_19 : decode cX6_init 19 = .ok (.putfield 13, 3) := by decide +kernel
theorem dX6_init_22 : decode cX6_init 22 = .ok (.aload_n 0, 1) := by decide +kernel
theorem dX6_init_23 : decode cX6_init 23 = .ok (.bipush 120, 2) := by decide +kernel
theorem dX6_init_25 : decode cX6_init 25 = .ok (.newarray .int, 2) := by decide +kernel
theorem dX6_init_27 : decode cX6_init 27 = .ok (.putfield 17, 3) := by decide +kernel
theorem dX6_init_30 : decode cX6_init 30 = .ok (.aload_n 0, 1) := by decide +kernel
theorem dX6_init_31 : decode cX6_init 31 = .ok (.bipush 120, 2) := by decide +kernel
theorem dX6_init_33 : decode cX6_init 33 = .ok (.newarray .int, 2) := by decide +kernel
theorem dX6_init_35 : decode cX6_init 35 = .ok (.putfield 20, 3) := by decide +kernel
theorem dX6_init_38 : decode cX6_init 38 = .ok (.aload_n 0, 1) := by decide +kernel
theorem dX6_init_39 : decode cX6_init 39 = .ok (.bipush 120, 2) := by decide +kernel
theorem dX6_init_41 : decode cX6_init 41 = .ok (.newarray .int, 2) := by decide +kernel
theorem dX6_init_43 : decode cX6_init 43 = .ok (.putfield 23, 3) := by decide +kernel
theorem dX6_init_46 : decode cX6_init 46 = .ok (.aload_n 0, 1) := by decide +kernel
theorem dX6_init_47 : decode cX6_init 47 = .ok (.bipush 120, 2) := by decide +kernel
theorem dX6_init_49 : decode cX6_init 49 = .ok (.newarray .int, 2) := by decide +kernel
theorem dX6_init_51 : decode cX6_init 51 = .ok (.putfield 26, 3) := by decide +kernel
theorem dX6_init_54 : decode cX6_init 54 = .ok (.aload_n 0, 1) := by decide +kernel
theorem dX6_init_55 : decode cX6_init 55 = .ok (.bipush 120, 2) := by decide +kernel
theorem dX6_init_57 : decode cX6_init 57 = .ok (.newarray .int, 2) := by decide +kernel
theorem dX6_init_59 : decode cX6_init 59 = .ok (.putfield 29, 3) := by decide +kernel
theorem dX6_init_62 : decode cX6_init 62 = .ok (.aload_n 0, 1) := by decide +kernel
theorem dX6_init_63 : decode cX6_init 63 = .ok (.bipush 120, 2) := by decide +kernel
theorem dX6_init_65 : decode cX6_init 65 = .ok (.newarray .int, 2) := by decide +kernel
theorem dX6_init_67 : decode cX6_init 67 = .ok (.putfield 32, 3) := by decide +kernel
theorem dX6_init_70 : decode cX6_init 70 = .ok (.aload_n 0, 1) := by decide +kernel
theorem dX6_init_71 : decode cX6_init 71 = .ok (.sipush 2000, 3) := by decide +kernel
theorem dX6_init_74 : decode cX6_init 74 = .ok (.newarray .int, 2) := by decide +kernel
theorem dX6_init_76 : decode cX6_init 76 = .ok (.putfield 35, 3) := by decide +kernel
theorem dX6_init_79 : decode cX6_init 79 = .ok (.aload_n 0, 1) := by decide +kernel
theorem dX6_init_80 : decode cX6_init 80 = .ok (.sipush 2000, 3) := by decide +kernel
theorem dX6_init_83 : decode cX6_init 83 = .ok (.newarray .int, 2) := by decide +kernel
theorem dX6_init_85 : decode cX6_init 85 = .ok (.putfield 38, 3) := by decide +kernel
theorem dX6_init_88 : decode cX6_init 88 = .ok (.aload_n 0, 1) := by decide +kernel
theorem dX6_init_89 : decode cX6_init 89 = .ok (.sipush 2000, 3) := by decide +kernel
theorem dX6_init_92 : decode cX6_init 92 = .ok (.newarray .int, 2) := by decide +kernel
theorem dX6_init_94 : decode cX6_init 94 = .ok (.putfield 41, 3) := by decide +kernel
theorem dX6_init_97 : decode cX6_init 97 = .ok (.aload_n 0, 1) := by decide +kernel
theorem dX6_init_98 : decode cX6_init 98 = .ok (.bipush 120, 2) := by decide +kernel
theorem dX6_init_100 : decode cX6_init 100 = .ok (.newarray .boolean, 2) := by decide +kernel
theorem dX6_init_102 : decode cX6_init 102 = .ok (.putfield 44, 3) := by decide +kernel
theorem dX6_init_105 : decode cX6_init 105 = .ok (.aload_n 0, 1) := by decide +kernel
theorem dX6_init_106 : decode cX6_init 106 = .ok (.sipush 2000, 3) := by decide +kernel
theorem dX6_init_109 : decode cX6_init 109 = .ok (.newarray .int, 2) := by decide +kernel
theorem dX6_init_111 : decode cX6_init 111 = .ok (.putfield 47, 3) := by decide +kernel
theorem dX6_init_114 : decode cX6_init 114 = .ok (.aload_n 0, 1) := by decide +kernel
theorem dX6_init_115 : decode cX6_init 115 = .ok (.bipush 10, 2) := by decide +kernel
theorem dX6_init_117 : decode cX6_init 117 = .ok (.newarray .int, 2) := by decide +kernel
theorem dX6_init_119 : decode cX6_init 119 = .ok (.putfield 50, 3) := by decide +kernel
theorem dX6_init_122 : decode cX6_init 122 = .ok (.aload_n 0, 1) := by decide +kernel
theorem dX6_init_123 : decode cX6_init 123 = .ok (.bipush 10, 2) := by decide +kernel
theorem dX6_init_125 : decode cX6_init 125 = .ok (.newarray .int, 2) := by decide +kernel
theorem dX6_init_127 : decode cX6_init 127 = .ok (.putfield 53, 3) := by decide +kernel
theorem dX6_init_130 : decode cX6_init 130 = .ok (.aload_n 0, 1) := by decide +kernel
theorem dX6_init_131 : decode cX6_init 131 = .ok (.bipush 10, 2) := by decide +kernel
theorem dX6_init_133 : decode cX6_init 133 = .ok (.newarray .int, 2) := by decide +kernel
theorem dX6_init_135 : decode cX6_init 135 = .ok (.putfield 56, 3) := by decide +kernel
theorem dX6_init_138 : decode cX6_init 138 = .ok (.aload_n 0, 1) := by decide +kernel
theorem dX6_init_139 : decode cX6_init 139 = .ok (.bipush 10, 2) := by decide +kernel
theorem dX6_init_141 : decode cX6_init 141 = .ok (.newarray .int, 2) := by decide +kernel
theorem dX6_init_143 : decode cX6_init 143 = .ok (.putfield 59, 3) := by decide +kernel
theorem dX6_init_146 : decode cX6_init 146 = .ok (.aload_n 0, 1) := by decide +kernel
theorem dX6_init_147 : decode cX6_init 147 = .ok (.bipush 6, 2) := by decide +kernel
theorem dX6_init_149 : decode cX6_init 149 = .ok (.newarray .int, 2) := by decide +kernel
theorem dX6_init_151 : decode cX6_init 151 = .ok (.putfield 62, 3) := by decide +kernel
theorem dX6_init_154 : decode cX6_init 154 = .ok (.iconst 0, 1) := by decide +kernel
theorem dX6_init_155 : decode cX6_init 155 = .ok (.istore_n 1, 1) := by decide +kernel
theorem dX6_init_156 : decode cX6_init 156 = .ok (.iload_n 1, 1) := by decide +kernel
theorem dX6_init_157 : decode cX6_init 157 = .ok (.bipush 48, 2) := by decide +kernel
theorem dX6_init_159 : decode cX6_init 159 = .ok (.if_icmp .ge 19, 3) := by decide +kernel
theorem dX6_init_162 : decode cX6_init 162 = .ok (.aload_n 0, 1) := by decide +kernel
theorem dX6_init_163 : decode cX6_init 163 = .ok (.getfield 13, 3) := by decide +kernel
theorem dX6_init_166 : decode cX6_init 166 = .ok (.iload_n 1, 1) := by decide +kernel
theorem dX6_init_167 : decode cX6_init 167 = .ok (.iload_n 1, 1) := by decide +kernel
theorem dX6_init_168 : decode cX6_init 168 = .ok (.bipush 8, 2) := by decide +kernel
theorem dX6_init_170 : decode cX6_init 170 = .ok (.irem, 1) := by decide +kernel
theorem dX6_init_171 : decode cX6_init 171 = .ok (.iastore, 1) := by decide +kernel
theorem dX6_init_172 : decode cX6_init 172 = .ok (.iinc 1 1, 3) := by decide +kernel
theorem dX6_init_175 : decode cX6_init 175 = .ok (.goto (-19), 3) := by decide +kernel
theorem dX6_init_178 : decode cX6_init 178 = .ok (.return_, 1) := by decide +kernel
theorem dX6_in_0 : decode cX6_in 0 = .ok (.lload_n 0, 1) := by decide +kernel
theorem dX6_in_1 : decode cX6_in 1 = .ok (.lload_n 2, 1) := by decide +kernel
theorem dX6_in_2 : decode cX6_in 2 = .ok (.lcmp, 1) := by decide +kernel
theorem dX6_in_3 : decode cX6_in 3 = .ok (.ifCond .lt 14, 3) := by decide +kernel
theorem dX6_in_6 : decode cX6_in 6 = .ok (.lload_n 0, 1) := by decide +kernel
theorem dX6_in_7 : decode cX6_in 7 = .ok (.lload 4, 2) := by decide +kernel
theorem dX6_in_9 : decode cX6_in 9 = .ok (.lcmp, 1) := by decide +kernel
theorem dX6_in_10 : decode cX6_in 10 = .ok (.ifCond .gt 7, 3) := by decide +kernel
theorem dX6_in_13 : decode cX6_in 13 = .ok (.iconst 1, 1) := by decide +kernel
theorem dX6_in_14 : decode cX6_in 14 = .ok (.goto 4, 3) := by decide +kernel
theorem dX6_in_17 : decode cX6_in 17 = .ok (.iconst 0, 1) := by decide +kernel
theorem dX6_in_18 : decode cX6_in 18 = .ok (.ireturn, 1) := by decide +kernel
set_option maxRecDepth 20000 in
theorem ggX6_isSpan_X6_in : GoodIn wsX6_isSpan wsX6_in := goodIn_r _ [5] (by decide +kernel) (by decide +kernel)
set_option maxRecDepth 20000 in
theorem gX6_isSpan_X6_in : GoodIn wsX6_isSpan (va_wsS RX6 69 yX6_in wsX6_in) := goodIn_app (goodIn_of _ (by decide +kernel)) ggX6_isSpan_X6_in
theorem dX6_isSpan_0 : decode cX6_isSpan 0 = .ok (.iload_n 2, 1) := by decide +kernel
theorem dX6_isSpan_1 : decode cX6_isSpan 1 = .ok (.i2l, 1) := by decide +kernel
theorem dX6_isSpan_2 : decode cX6_isSpan 2 = .ok (.lconst 0, 1) := by decide +kernel
theorem dX6_isSpan_3 : decode cX6_isSpan 3 = .ok (.aload_n 0, 1) := by decide +kernel
theorem dX6_isSpan_4 : decode cX6_isSpan 4 = .ok (.getfield 65, 3) := by decide +kernel
theorem dX6_isSpan_7 : decode cX6_isSpan 7 = .ok (.i2l, 1) := by decide +kernel
theorem dX6_isSpan_8 : decode cX6_isSpan 8 = .ok (.invokestatic 69, 3) := by decide +kernel
theorem dX6_isSpan_11 : decode cX6_isSpan 11 = .ok (.ifCond .eq 18, 3) := by decide +kernel
theorem dX6_isSpan_14 : decode cX6_isSpan 14 = .ok (.iload_n 1, 1) := by decide +kernel
theorem dX6_isSpan_15 : decode cX6_isSpan 15 = .ok (.i2l, 1) := by decide +kernel
theorem dX6_isSpan_16 : decode cX6_isSpan 16 = .ok (.lconst 0, 1) := by decide +kernel
theorem dX6_isSpan_17 : decode cX6_isSpan 17 = .ok (.iload_n 2, 1) := by decide +kernel
theorem dX6_isSpan_18 : decode cX6_isSpan 18 = .ok (.i2l, 1) := by decide +kernel
theorem dX6_isSpan_19 : decode cX6_isSpan 19 = .ok (.invokestatic 69, 3) := by decide +kernel
theorem dX6_isSpan_22 : decode cX6_isSpan 22 = .ok (.ifCond .eq 7, 3) := by decide +kernel
theorem dX6_isSpan_25 : decode cX6_isSpan 25 = .ok (.iconst 1, 1) := by decide +kernel
theorem dX6_isSpan_26 : decode cX6_isSpan 26 = .ok (.goto 4, 3) := by decide +kernel
theorem dX6_isSpan_29 : decode cX6_isSpan 29 = .ok (.iconst 0, 1) := by decide +kernel
theorem dX6_isSpan_30 : decode cX6_isSpan 30 = .ok (.ireturn, 1) := by decide +kernel
set_option maxRecDepth 20000 in
theorem ggX6_isMark_X6_in : GoodIn wsX6_isMark wsX6_in := goodIn_r _ [5] (by decide +kernel) (by decide +kernel)
set_option maxRecDepth 20000 in
theorem gX6_isMark_X6_in : GoodIn wsX6_isMark (va_wsS RX6 69 yX6_in wsX6_in) := goodIn_app (goodIn_of _ (by decide +kernel)) ggX6_isMark_X6_in
theorem dX6_isMark_0 : decode cX6_isMark 0 = .ok (.iload_n 0, 1) := by decide +kernel
theorem dX6_isMark_1 : decode cX6_isMark 1 = .ok (.i2l, 1) := by decide +kernel
theorem dX6_isMark_2 : decode cX6_isMark 2 = .ok (.lconst 0, 1) := by decide +kernel
theorem dX6_isMark_3 : decode cX6_isMark 3 = .ok (.ldc2_w 73, 3) := by decide +kernel
theorem dX6_isMark_6 : decode cX6_isMark 6 = .ok (.invokestatic 69, 3) := by decide +kernel
theorem dX6_isMark_9 : decode cX6_isMark 9 = .ok (.ireturn, 1) := by decide +kernel
set_option maxRecDepth 20000 in
theorem ggX6_isValue_X6_in : GoodIn wsX6_isValue wsX6_in := goodIn_r _ [5] (by decide +kernel) (by decide +kernel)
set_option maxRecDepth 20000 in
theorem gX6_isValue_X6_in : GoodIn wsX6_isValue (va_wsS RX6 69 yX6_in wsX6_in) := goodIn_app (goodIn_of _ (by decide +kernel)) ggX6_isValue_X6_in
theorem dX6_isValue_0 : decode cX6_isValue 0 = .ok (.iload_n 0, 1) := by decide +kernel
theorem dX6_isValue_1 : decode cX6_isValue 1 = .ok (.i2l, 1) := by decide +kernel
theorem dX6_isValue_2 : decode cX6_isValue 2 = .ok (.lconst 0, 1) := by decide +kernel
theorem dX6_isValue_3 : decode cX6_isValue 3 = .ok (.ldc2_w 75, 3) := by decide +kernel
theorem dX6_isValue_6 : decode cX6_isValue 6 = .ok (.invokestatic 69, 3) := by decide +kernel
theorem dX6_isValue_9 : decode cX6_isValue 9 = .ok (.ireturn, 1) := by decide +kernel
set_option maxRecDepth 20000 in
theorem ggX6_isName_X6_in : GoodIn wsX6_isName wsX6_in := goodIn_r _ [5] (by decide +kernel) (by decide +kernel)
set_option maxRecDepth 20000 in
theorem gX6_isName_X6_in : GoodIn wsX6_isName (va_wsS RX6 69 yX6_in wsX6_in) := goodIn_app (goodIn_of _ (by decide +kernel)) ggX6_isName_X6_in
theorem dX6_isName_0 : decode cX6_isName 0 = .ok (.iload_n 0, 1) := by decide +kernel
theorem dX6_isName_1 : decode cX6_isName 1 = .ok (.i2l, 1) := by decide +kernel
theorem dX6_isName_2 : decode cX6_isName 2 = .ok (.lconst 0, 1) := by decide +kernel
theorem dX6_isName_3 : decode cX6_isName 3 = .ok (.ldc2_w 77, 3) := by decide +kernel
theorem dX6_isName_6 : decode cX6_isName 6 = .ok (.invokestatic 69, 3) := by decide +kernel
theorem dX6_isName_9 : decode cX6_isName 9 = .ok (.ireturn, 1) := by decide +kernel
theorem dX6_digit_0 : decode cX6_digit 0 = .ok (.iload_n 0, 1) := by decide +kernel
theorem dX6_digit_1 : decode cX6_digit 1 = .ok (.iconst 3, 1) := by decide +kernel
theorem dX6_digit_2 : decode cX6_digit 2 = .ok (.iload_n 1, 1) := by decide +kernel
theorem dX6_digit_3 : decode cX6_digit 3 = .ok (.imul, 1) := by decide +kernel
theorem dX6_digit_4 : decode cX6_digit 4 = .ok (.ishr, 1) := by decide +kernel
theorem dX6_digit_5 : decode cX6_digit 5 = .ok (.bipush 7, 2) := by decide +kernel
theorem dX6_digit_7 : decode cX6_digit 7 = .ok (.iand, 1) := by decide +kernel
theorem dX6_digit_8 : decode cX6_digit 8 = .ok (.ireturn, 1) := by decide +kernel
theorem dX6_without_0 : decode cX6_without 0 = .ok (.iload_n 0, 1) := by decide +kernel
theorem dX6_without_1 : decode cX6_without 1 = .ok (.istore_n 2, 1) := by decide +kernel
theorem dX6_without_2 : decode cX6_without 2 = .ok (.iconst 0, 1) := by decide +kernel
theorem dX6_without_3 : decode cX6_without 3 = .ok (.istore_n 3, 1) := by decide +kernel
theorem dX6_without_4 : decode cX6_without 4 = .ok (.iload_n 3, 1) := by decide +kernel
theorem dX6_without_5 : decode cX6_without 5 = .ok (.bipush 6, 2) := by decide +kernel
theorem dX6_without_7 : decode cX6_without 7 = .ok (.if_icmp .ge 33, 3) := by decide +kernel
theorem dX6_without_10 : decode cX6_without 10 = .ok (.iload_n 1, 1) := by decide +kernel
theorem dX6_without_11 : decode cX6_without 11 = .ok (.iload_n 3, 1) := by decide +kernel
theorem dX6_without_12 : decode cX6_without 12 = .ok (.ishr, 1) := by decide +kernel
theorem dX6_without_13 : decode cX6_without 13 = .ok (.iconst 1, 1) := by decide +kernel
theorem dX6_without_14 : decode cX6_without 14 = .ok (.iand, 1) := by decide +kernel
theorem dX6_without_15 : decode cX6_without 15 = .ok (.iconst 1, 1) := by decide +kernel
theorem dX6_without_16 : decode cX6_without 16 = .ok (.if_icmp .ne 16, 3) := by decide +kernel
theorem dX6_without_19 : decode cX6_without 19 = .ok (.iload_n 2, 1) := by decide +kernel
theorem dX6_without_20 : decode cX6_without 20 = .ok (.bipush 7, 2) := by decide +kernel
theorem dX6_without_22 : decode cX6_without 22 = .ok (.iconst 3, 1) := by decide +kernel
theorem dX6_without_23 : decode cX6_without 23 = .ok (.iload_n 3, 1) := by decide +kernel
theorem dX6_without_24 : decode cX6_without 24 = .ok (.imul, 1) := by decide +kernel
theorem dX6_without_25 : decode cX6_without 25 = .ok (.ishl, 1) := by decide +kernel
theorem dX6_without_26 : decode cX6_without 26 = .ok (.iconst (-1), 1) := by decide +kernel
theorem dX6_without_27 : decode cX6_without 27 = .ok (.ixor, 1) := by decide +kernel
theorem dX6_without_28 : decode cX6_without 28 = .ok (.iand, 1) := by decide +kernel
