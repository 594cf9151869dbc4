theorem dX2_sum_24 : decode cX2_sum 24 = .ok (.if_icmp .ge 92, 3) := by decide +kernel
theorem dX2_sum_27 : decode cX2_sum 27 = .ok (.aload_n 1, 1) := by decide +kernel
theorem dX2_sum_28 : decode cX2_sum 28 = .ok (.getfield 97, 3) := by decide +kernel
theorem dX2_sum_31 : decode cX2_sum 31 = .ok (.iload 5, 2) := by decide +kernel
theorem dX2_sum_33 : decode cX2_sum 33 = .ok (.aaload, 1) := by decide +kernel
theorem dX2_sum_34 : decode cX2_sum 34 = .ok (.astore 6, 2) := by decide +kernel
theorem dX2_sum_36 : decode cX2_sum 36 = .ok (.lload_n 3, 1) := by decide +kernel
theorem dX2_sum_37 : decode cX2_sum 37 = .ok (.ldc2_w 101, 3) := by decide +kernel
theorem dX2_sum_40 : decode cX2_sum 40 = .ok (.aload 6, 2) := by decide +kernel
theorem dX2_sum_42 : decode cX2_sum 42 = .ok (.getfield 103, 3) := by decide +kernel
theorem dX2_sum_45 : decode cX2_sum 45 = .ok (.i2l, 1) := by decide +kernel
theorem dX2_sum_46 : decode cX2_sum 46 = .ok (.lmul, 1) := by decide +kernel
theorem dX2_sum_47 : decode cX2_sum 47 = .ok (.ladd, 1) := by decide +kernel
theorem dX2_sum_48 : decode cX2_sum 48 = .ok (.lstore 7, 2) := by decide +kernel
theorem dX2_sum_50 : decode cX2_sum 50 = .ok (.aload_n 0, 1) := by decide +kernel
theorem dX2_sum_51 : decode cX2_sum 51 = .ok (.aload 6, 2) := by decide +kernel
theorem dX2_sum_53 : decode cX2_sum 53 = .ok (.invokevirtual 59, 3) := by decide +kernel
theorem dX2_sum_56 : decode cX2_sum 56 = .ok (.iload_n 2, 1) := by decide +kernel
theorem dX2_sum_57 : decode cX2_sum 57 = .ok (.aload 6, 2) := by decide +kernel
theorem dX2_sum_59 : decode cX2_sum 59 = .ok (.getfield 103, 3) := by decide +kernel
theorem dX2_sum_62 : decode cX2_sum 62 = .ok (.lload_n 3, 1) := by decide +kernel
theorem dX2_sum_63 : decode cX2_sum 63 = .ok (.lload 7, 2) := by decide +kernel
theorem dX2_sum_65 : decode cX2_sum 65 = .ok (.invokestatic 106, 3) := by decide +kernel
theorem dX2_sum_68 : decode cX2_sum 68 = .ok (.lstore 9, 2) := by decide +kernel
theorem dX2_sum_70 : decode cX2_sum 70 = .ok (.iconst 0, 1) := by decide +kernel
theorem dX2_sum_71 : decode cX2_sum 71 = .ok (.istore 11, 2) := by decide +kernel
theorem dX2_sum_73 : decode cX2_sum 73 = .ok (.iload 11, 2) := by decide +kernel
theorem dX2_sum_75 : decode cX2_sum 75 = .ok (.bipush 6, 2) := by decide +kernel
theorem dX2_sum_77 : decode cX2_sum 77 = .ok (.if_icmp .ge 30, 3) := by decide +kernel
theorem dX2_sum_80 : decode cX2_sum 80 = .ok (.aload_n 0, 1) := by decide +kernel
theorem dX2_sum_81 : decode cX2_sum 81 = .ok (.getfield 26, 3) := by decide +kernel
theorem dX2_sum_84 : decode cX2_sum 84 = .ok (.iload 11, 2) := by decide +kernel
theorem dX2_sum_86 : decode cX2_sum 86 = .ok (.dup2, 1) := by decide +kernel
theorem dX2_sum_87 : decode cX2_sum 87 = .ok (.laload, 1) := by decide +kernel
theorem dX2_sum_88 : decode cX2_sum 88 = .ok (.aload_n 0, 1) := by decide +kernel
theorem dX2_sum_89 : decode cX2_sum 89 = .ok (.getfield 18, 3) := by decide +kernel
theorem dX2_sum_92 : decode cX2_sum 92 = .ok (.iload 11, 2) := by decide +kernel
theorem dX2_sum_94 : decode cX2_sum 94 = .ok (.iaload, 1) := by decide +kernel
theorem dX2_sum_95 : decode cX2_sum 95 = .ok (.i2l, 1) := by decide +kernel
theorem dX2_sum_96 : decode cX2_sum 96 = .ok (.lload 9, 2) := by decide +kernel
theorem dX2_sum_98 : decode cX2_sum 98 = .ok (.lmul, 1) := by decide +kernel
theorem dX2_sum_99 : decode cX2_sum 99 = .ok (.ladd, 1) := by decide +kernel
theorem dX2_sum_100 : decode cX2_sum 100 = .ok (.lastore, 1) := by decide +kernel
theorem dX2_sum_101 : decode cX2_sum 101 = .ok (.iinc 11 1, 3) := by decide +kernel
theorem dX2_sum_104 : decode cX2_sum 104 = .ok (.goto (-31), 3) := by decide +kernel
theorem dX2_sum_107 : decode cX2_sum 107 = .ok (.lload 7, 2) := by decide +kernel
theorem dX2_sum_109 : decode cX2_sum 109 = .ok (.lstore_n 3, 1) := by decide +kernel
theorem dX2_sum_110 : decode cX2_sum 110 = .ok (.iinc 5 1, 3) := by decide +kernel
theorem dX2_sum_113 : decode cX2_sum 113 = .ok (.goto (-95), 3) := by decide +kernel
theorem dX2_sum_116 : decode cX2_sum 116 = .ok (.return_, 1) := by decide +kernel
theorem dX2_weightOf_0 : decode cX2_weightOf 0 = .ok (.iload_n 0, 1) := by decide +kernel
theorem dX2_weightOf_1 : decode cX2_weightOf 1 = .ok (.ifCond .ne 6, 3) := by decide +kernel
theorem dX2_weightOf_4 : decode cX2_weightOf 4 = .ok (.iload_n 1, 1) := by decide +kernel
theorem dX2_weightOf_5 : decode cX2_weightOf 5 = .ok (.i2l, 1) := by decide +kernel
theorem dX2_weightOf_6 : decode cX2_weightOf 6 = .ok (.lreturn, 1) := by decide +kernel
theorem dX2_weightOf_7 : decode cX2_weightOf 7 = .ok (.iload_n 0, 1) := by decide +kernel
theorem dX2_weightOf_8 : decode cX2_weightOf 8 = .ok (.iconst 1, 1) := by decide +kernel
theorem dX2_weightOf_9 : decode cX2_weightOf 9 = .ok (.if_icmp .ne 13, 3) := by decide +kernel
theorem dX2_weightOf_12 : decode cX2_weightOf 12 = .ok (.lload 4, 2) := by decide +kernel
theorem dX2_weightOf_14 : decode cX2_weightOf 14 = .ok (.lload 4, 2) := by decide +kernel
theorem dX2_weightOf_16 : decode cX2_weightOf 16 = .ok (.lmul, 1) := by decide +kernel
theorem dX2_weightOf_17 : decode cX2_weightOf 17 = .ok (.lload_n 2, 1) := by decide +kernel
theorem dX2_weightOf_18 : decode cX2_weightOf 18 = .ok (.lload_n 2, 1) := by decide +kernel
theorem dX2_weightOf_19 : decode cX2_weightOf 19 = .ok (.lmul, 1) := by decide +kernel
theorem dX2_weightOf_20 : decode cX2_weightOf 20 = .ok (.lsub, 1) := by decide +kernel
theorem dX2_weightOf_21 : decode cX2_weightOf 21 = .ok (.lreturn, 1) := by decide +kernel
theorem dX2_weightOf_22 : decode cX2_weightOf 22 = .ok (.lload 4, 2) := by decide +kernel
theorem dX2_weightOf_24 : decode cX2_weightOf 24 = .ok (.lload 4, 2) := by decide +kernel
theorem dX2_weightOf_26 : decode cX2_weightOf 26 = .ok (.lmul, 1) := by decide +kernel
theorem dX2_weightOf_27 : decode cX2_weightOf 27 = .ok (.lload 4, 2) := by decide +kernel
theorem dX2_weightOf_29 : decode cX2_weightOf 29 = .ok (.lmul, 1) := by decide +kernel
theorem dX2_weightOf_30 : decode cX2_weightOf 30 = .ok (.lload_n 2, 1) := by decide +kernel
theorem dX2_weightOf_31 : decode cX2_weightOf 31 = .ok (.lload_n 2, 1) := by decide +kernel
theorem dX2_weightOf_32 : decode cX2_weightOf 32 = .ok (.lmul, 1) := by decide +kernel
theorem dX2_weightOf_33 : decode cX2_weightOf 33 = .ok (.lload_n 2, 1) := by decide +kernel
theorem dX2_weightOf_34 : decode cX2_weightOf 34 = .ok (.lmul, 1) := by decide +kernel
theorem dX2_weightOf_35 : decode cX2_weightOf 35 = .ok (.lsub, 1) := by decide +kernel
theorem dX2_weightOf_36 : decode cX2_weightOf 36 = .ok (.lreturn, 1) := by decide +kernel
theorem dX2_isAnySumLeft_0 : decode cX2_isAnySumLeft 0 = .ok (.iconst 0, 1) := by decide +kernel
theorem dX2_isAnySumLeft_1 : decode cX2_isAnySumLeft 1 = .ok (.istore_n 1, 1) := by decide +kernel
theorem dX2_isAnySumLeft_2 : decode cX2_isAnySumLeft 2 = .ok (.iload_n 1, 1) := by decide +kernel
theorem dX2_isAnySumLeft_3 : decode cX2_isAnySumLeft 3 = .ok (.bipush 6, 2) := by decide +kernel
theorem dX2_isAnySumLeft_5 : decode cX2_isAnySumLeft 5 = .ok (.if_icmp .ge 22, 3) := by decide +kernel
theorem dX2_isAnySumLeft_8 : decode cX2_isAnySumLeft 8 = .ok (.aload_n 0, 1) := by decide +kernel
theorem dX2_isAnySumLeft_9 : decode cX2_isAnySumLeft 9 = .ok (.getfield 26, 3) := by decide +kernel
theorem dX2_isAnySumLeft_12 : decode cX2_isAnySumLeft 12 = .ok (.iload_n 1, 1) := by decide +kernel
theorem dX2_isAnySumLeft_13 : decode cX2_isAnySumLeft 13 = .ok (.laload, 1) := by decide +kernel
theorem dX2_isAnySumLeft_14 : decode cX2_isAnySumLeft 14 = .ok (.lconst 0, 1) := by decide +kernel
theorem dX2_isAnySumLeft_15 : decode cX2_isAnySumLeft 15 = .ok (.lcmp, 1) := by decide +kernel
theorem dX2_isAnySumLeft_16 : decode cX2_isAnySumLeft 16 = .ok (.ifCond .eq 5, 3) := by decide +kernel
theorem dX2_isAnySumLeft_19 : decode cX2_isAnySumLeft 19 = .ok (.iconst 1, 1) := by decide +kernel
theorem dX2_isAnySumLeft_20 : decode cX2_isAnySumLeft 20 = .ok (.ireturn, 1) := by decide +kernel
theorem dX2_isAnySumLeft_21 : decode cX2_isAnySumLeft 21 = .ok (.iinc 1 1, 3) := by decide +kernel
theorem dX2_isAnySumLeft_24 : decode cX2_isAnySumLeft 24 = .ok (.goto (-22), 3) := by decide +kernel
theorem dX2_isAnySumLeft_27 : decode cX2_isAnySumLeft 27 = .ok (.iconst 0, 1) := by decide +kernel
theorem dX2_isAnySumLeft_28 : decode cX2_isAnySumLeft 28 = .ok (.ireturn, 1) := by decide +kernel
theorem gm_X2_prepare_0 : ∀ w ∈ wsX2_prepare_r1, w ∈ wsX2_prepare := fun w h => List.mem_cons_of_mem _ (List.mem_append_left _ (List.mem_append_left _ (List.mem_append_left _ (List.mem_append_left _ (List.mem_append_left _ (List.mem_append_left _ h))))))
theorem gm_X2_prepare_1 : ∀ w ∈ wsX2_prepare_r2, w ∈ wsX2_prepare := fun w h => List.mem_cons_of_mem _ (List.mem_append_left _ (List.mem_append_left _ (List.mem_append_left _ (List.mem_append_left _ (List.mem_append_left _ (List.mem_append_right _ (List.mem_append_left _ h)))))))
theorem gm_X2_prepare_2 : ∀ w ∈ wsX2_prepare_r3, w ∈ wsX2_prepare := fun w h => List.mem_cons_of_mem _ (List.mem_append_left _ (List.mem_append_left _ (List.mem_append_left _ (List.mem_append_left _ (List.mem_append_left _ (List.mem_append_right _ (List.mem_append_right _ h)))))))
theorem gm_X2_prepare_3 : ∀ w ∈ wsX20, w ∈ wsX2_prepare := fun w h => List.mem_cons_of_mem _ (List.mem_append_left _ (List.mem_append_left _ (List.mem_append_left _ (List.mem_append_left _ (List.mem_append_right _ h)))))
theorem gm_X2_prepare_4 : ∀ w ∈ wsX70, w ∈ wsX2_prepare := fun w h => List.mem_cons_of_mem _ (List.mem_append_left _ (List.mem_append_left _ (List.mem_append_left _ (List.mem_append_right _ h))))
theorem gm_X2_prepare_5 : ∀ w ∈ wsX50, w ∈ wsX2_prepare := fun w h => List.mem_cons_of_mem _ (List.mem_append_left _ (List.mem_append_left _ (List.mem_append_right _ h)))
theorem gm_X2_prepare_6 : ∀ w ∈ wsX90, w ∈ wsX2_prepare := fun w h => List.mem_cons_of_mem _ (List.mem_append_left _ (List.mem_append_right _ h))
theorem gm_X2_prepare_7 : ∀ w ∈ wsX60, w ∈ wsX2_prepare := fun w h => List.mem_cons_of_mem _ (List.mem_append_right _ h)
theorem gk_X2_prepare_X2_sum_r1 : GoodIn wsX2_prepare wsX2_sum_r1 := (gk_cons (gm_X2_prepare_0 _ (List.mem_of_getElem? (i := 0) rfl)) rfl (gk_cons (gm_X2_prepare_0 _ (List.mem_of_getElem? (i := 8) rfl)) rfl (gk_cons (gm_X2_prepare_0 _ (List.mem_of_getElem? (i := 9) rfl)) rfl (gk_cons (gm_X2_prepare_0 _ (List.mem_of_getElem? (i := 10) rfl)) rfl (gk_cons (gm_X2_prepare_0 _ (List.mem_of_getElem? (i := 11) rfl)) rfl (gk_cons (gm_X2_prepare_0 _ (List.mem_of_getElem? (i := 12) rfl)) rfl (gk_cons (gm_X2_prepare_0 _ (List.mem_of_getElem? (i := 13) rfl)) rfl (gk_cons (gm_X2_prepare_0 _ (List.mem_of_getElem? (i := 14) rfl)) rfl (gk_cons (gm_X2_prepare_0 _ (List.mem_of_getElem? (i := 15) rfl)) rfl (gk_cons (gm_X2_prepare_0 _ (List.mem_of_getElem? (i := 16) rfl)) rfl (gk_cons (gm_X2_prepare_0 _ (List.mem_of_getElem? (i := 17) rfl)) rfl (gk_cons (gm_X2_prepare_0 _ (List.mem_of_getElem? (i := 18) rfl)) rfl (gk_cons (gm_X2_prepare_0 _ (List.mem_of_getElem? (i := 19) rfl)) rfl (gk_cons (gm_X2_prepare_0 _ (List.mem_of_getElem? (i := 20) rfl)) rfl (gk_cons (gm_X2_prepare_0 _ (List.mem_of_getElem? (i := 21) rfl)) rfl (gk_cons (gm_X2_prepare_0 _ (List.mem_of_getElem? (i := 22) rfl)) rfl (gk_cons (gm_X2_prepare_0 _ (List.mem_of_getElem? (i := 23) rfl)) rfl (gk_cons (gm_X2_prepare_1 _ (List.mem_of_getElem? (i := 0) rfl)) rfl (gk_cons (gm_X2_prepare_1 _ (List.mem_of_getElem? (i := 1) rfl)) rfl (gk_cons (gm_X2_prepare_1 _ (List.mem_of_getElem? (i := 2) rfl)) rfl (gk_cons (gm_X2_prepare_1 _ (List.mem_of_getElem? (i := 3) rfl)) rfl (gk_cons (gm_X2_prepare_0 _ (List.mem_of_getElem? (i := 6) rfl)) rfl (gk_cons (gm_X2_prepare_1 _ (List.mem_of_getElem? (i := 4) rfl)) rfl (gk_cons (gm_X2_prepare_1 _ (List.mem_of_getElem? (i := 5) rfl)) rfl gk_nil))))))))))))))))))))))))
theorem gk_X2_prepare_X2_sum_r2 : GoodIn wsX2_prepare wsX2_sum_r2 := (gk_cons (gm_X2_prepare_1 _ (List.mem_of_getElem? (i := 6) rfl)) rfl (gk_cons (gm_X2_prepare_1 _ (List.mem_of_getElem? (i := 7) rfl)) rfl (gk_cons (gm_X2_prepare_1 _ (List.mem_of_getElem? (i := 8) rfl)) rfl (gk_cons (gm_X2_prepare_1 _ (List.mem_of_getElem? (i := 9) rfl)) rfl (gk_cons (gm_X2_prepare_1 _ (List.mem_of_getElem? (i := 10) rfl)) rfl (gk_cons (gm_X2_prepare_1 _ (List.mem_of_getElem? (i := 11) rfl)) rfl (gk_cons (gm_X2_prepare_1 _ (List.mem_of_getElem? (i := 12) rfl)) rfl (gk_cons (gm_X2_prepare_1 _ (List.mem_of_getElem? (i := 13) rfl)) rfl (gk_cons (gm_X2_prepare_1 _ (List.mem_of_getElem? (i := 14) rfl)) rfl (gk_cons (gm_X2_prepare_1 _ (List.mem_of_getElem? (i := 15) rfl)) rfl (gk_cons (gm_X2_prepare_1 _ (List.mem_of_getElem? (i := 16) rfl)) rfl (gk_cons (gm_X2_prepare_1 _ (List.mem_of_getElem? (i := 17) rfl)) rfl (gk_cons (gm_X2_prepare_1 _ (List.mem_of_getElem? (i := 18) rfl)) rfl (gk_cons (gm_X2_prepare_1 _ (List.mem_of_getElem? (i := 19) rfl)) rfl (gk_cons (gm_X2_prepare_1 _ (List.mem_of_getElem? (i := 20) rfl)) rfl (gk_cons (gm_X2_prepare_1 _ (List.mem_of_getElem? (i := 21) rfl)) rfl (gk_cons (gm_X2_prepare_1 _ (List.mem_of_getElem? (i := 22) rfl)) rfl (gk_cons (gm_X2_prepare_1 _ (List.mem_of_getElem? (i := 23) rfl)) rfl (gk_cons (gm_X2_prepare_2 _ (List.mem_of_getElem? (i := 0) rfl)) rfl (gk_cons (gm_X2_prepare_2 _ (List.mem_of_getElem? (i := 1) rfl)) rfl (gk_cons (gm_X2_prepare_2 _ (List.mem_of_getElem? (i := 2) rfl)) rfl (gk_cons (gm_X2_prepare_2 _ (List.mem_of_getElem? (i := 3) rfl)) rfl (gk_cons (gm_X2_prepare_2 _ (List.mem_of_getElem? (i := 4) rfl)) rfl (gk_cons (gm_X2_prepare_2 _ (List.mem_of_getElem? (i := 5) rfl)) rfl gk_nil))))))))))))))))))))))))
theorem ggX2_prepare_X2_sum : GoodIn wsX2_prepare wsX2_sum := gk_cons (gm_X2_prepare_0 _ (List.mem_of_getElem? (i := 7) rfl)) rfl (goodIn_app (goodIn_app (goodIn_app (goodIn_app (goodIn_app (goodIn_app gk_X2_prepare_X2_sum_r1 gk_X2_prepare_X2_sum_r2) (goodIn_sub gm_X2_prepare_3 ag_wsX20)) (goodIn_sub gm_X2_prepare_4 ag_wsX70)) (goodIn_sub gm_X2_prepare_5 ag_wsX50)) (goodIn_sub gm_X2_prepare_6 ag_wsX90)) (goodIn_sub gm_X2_prepare_7 ag_wsX60))
theorem gX2_prepare_X2_sum : GoodIn wsX2_prepare (wsV RX2 110 RX2 yX2_sum wsX2_sum) := goodIn_app (gk_cons (gm_X2_prepare_0 _ (List.mem_of_getElem? (i := 3) rfl)) rfl (gk_cons (gm_X2_prepare_0 _ (List.mem_of_getElem? (i := 4) rfl)) rfl (gk_cons (gm_X2_prepare_0 _ (List.mem_of_getElem? (i := 5) rfl)) rfl (gk_cons (gm_X2_prepare_0 _ (List.mem_of_getElem? (i := 6) rfl)) rfl gk_nil)))) ggX2_prepare_X2_sum
theorem dX2_prepare_0 : decode cX2_prepare 0 = .ok (.aload_n 0, 1) := by decide +kernel
theorem dX2_prepare_1 : decode cX2_prepare 1 = .ok (.aload_n 1, 1) := by decide +kernel
theorem dX2_prepare_2 : decode cX2_prepare 2 = .ok (.iconst 0, 1) := by decide +kernel
theorem dX2_prepare_3 : decode cX2_prepare 3 = .ok (.invokevirtual 110, 3) := by decide +kernel
theorem dX2_prepare_6 : decode cX2_prepare 6 = .ok (.aload_n 0, 1) := by decide +kernel
theorem dX2_prepare_7 : decode cX2_prepare 7 = .ok (.getfield 26, 3) := by decide +kernel
theorem dX2_prepare_10 : decode cX2_prepare 10 = .ok (.iconst 0, 1) := by decide +kernel
theorem dX2_prepare_11 : decode cX2_prepare 11 = .ok (.laload, 1) := by decide +kernel
theorem dX2_prepare_12 : decode cX2_prepare 12 = .ok (.lstore_n 2, 1) := by decide +kernel
theorem dX2_prepare_13 : decode cX2_prepare 13 = .ok (.aload_n 0, 1) := by decide +kernel
theorem dX2_prepare_14 : decode cX2_prepare 14 = .ok (.getfield 26, 3) := by decide +kernel
theorem dX2_prepare_17 : decode cX2_prepare 17 = .ok (.iconst 1, 1) := by decide +kernel
theorem dX2_prepare_18 : decode cX2_prepare 18 = .ok (.laload, 1) := by decide +kernel
theorem dX2_prepare_19 : decode cX2_prepare 19 = .ok (.lstore 4, 2) := by decide +kernel
theorem dX2_prepare_21 : decode cX2_prepare 21 = .ok (.aload_n 0, 1) := by decide +kernel
theorem dX2_prepare_22 : decode cX2_prepare 22 = .ok (.getfield 26, 3) := by decide +kernel
theorem dX2_prepare_25 : decode cX2_prepare 25 = .ok (.iconst 2, 1) := by decide +kernel
theorem dX2_prepare_26 : decode cX2_prepare 26 = .ok (.laload, 1) := by decide +kernel
theorem dX2_prepare_27 : decode cX2_prepare 27 = .ok (.lstore 6, 2) := by decide +kernel
theorem dX2_prepare_29 : decode cX2_prepare 29 = .ok (.aload_n 0, 1) := by decide +kernel
theorem dX2_prepare_30 : decode cX2_prepare 30 = .ok (.getfield 26, 3) := by decide +kernel
theorem dX2_prepare_33 : decode cX2_prepare 33 = .ok (.iconst 3, 1) := by decide +kernel
theorem dX2_prepare_34 : decode cX2_prepare 34 = .ok (.laload, 1) := by decide +kernel
theorem dX2_prepare_35 : decode cX2_prepare 35 = .ok (.lstore 8, 2) := by decide +kernel
theorem dX2_prepare_37 : decode cX2_prepare 37 = .ok (.aload_n 0, 1) := by decide +kernel
theorem dX2_prepare_38 : decode cX2_prepare 38 = .ok (.getfield 26, 3) := by decide +kernel
theorem dX2_prepare_41 : decode cX2_prepare 41 = .ok (.iconst 4, 1) := by decide +kernel
theorem dX2_prepare_42 : decode cX2_prepare 42 = .ok (.laload, 1) := by decide +kernel
theorem dX2_prepare_43 : decode cX2_prepare 43 = .ok (.lstore 10, 2) := by decide +kernel
theorem dX2_prepare_45 : decode cX2_prepare 45 = .ok (.aload_n 0, 1) := by decide +kernel
theorem dX2_prepare_46 : decode cX2_prepare 46 = .ok (.getfield 26, 3) := by decide +kernel
theorem dX2_prepare_49 : decode cX2_prepare 49 = .ok (.iconst 5, 1) := by decide +kernel
theorem dX2_prepare_50 : decode cX2_prepare 50 = .ok (.laload, 1) := by decide +kernel
theorem dX2_prepare_51 : decode cX2_prepare 51 = .ok (.lstore 12, 2) := by decide +kernel
theorem dX2_prepare_53 : decode cX2_prepare 53 = .ok (.aload_n 0, 1) := by decide +kernel
theorem dX2_prepare_54 : decode cX2_prepare 54 = .ok (.getfield 22, 3) := by decide +kernel
theorem dX2_prepare_57 : decode cX2_prepare 57 = .ok (.iconst 0, 1) := by decide +kernel
theorem dX2_prepare_58 : decode cX2_prepare 58 = .ok (.lload 4, 2) := by decide +kernel
theorem dX2_prepare_60 : decode cX2_prepare 60 = .ok (.lload 8, 2) := by decide +kernel
theorem dX2_prepare_62 : decode cX2_prepare 62 = .ok (.lmul, 1) := by decide +kernel
theorem dX2_prepare_63 : decode cX2_prepare 63 = .ok (.lload 12, 2) := by decide +kernel
theorem dX2_prepare_65 : decode cX2_prepare 65 = .ok (.lload 12, 2) := by decide +kernel
theorem dX2_prepare_67 : decode cX2_prepare 67 = .ok (.lmul, 1) := by decide +kernel
theorem dX2_prepare_68 : decode cX2_prepare 68 = .ok (.lsub, 1) := by decide +kernel
theorem dX2_prepare_69 : decode cX2_prepare 69 = .ok (.lastore, 1) := by decide +kernel
theorem dX2_prepare_70 : decode cX2_prepare 70 = .ok (.aload_n 0, 1) := by decide +kernel
theorem dX2_prepare_71 : decode cX2_prepare 71 = .ok (.getfield 22, 3) := by decide +kernel
theorem dX2_prepare_74 : decode cX2_prepare 74 = .ok (.iconst 1, 1) := by decide +kernel
theorem dX2_prepare_75 : decode cX2_prepare 75 = .ok (.lload_n 2, 1) := by decide +kernel
theorem dX2_prepare_76 : decode cX2_prepare 76 = .ok (.lload 8, 2) := by decide +kernel
theorem dX2_prepare_78 : decode cX2_prepare 78 = .ok (.lmul, 1) := by decide +kernel
theorem dX2_prepare_79 : decode cX2_prepare 79 = .ok (.lload 10, 2) := by decide +kernel
theorem dX2_prepare_81 : decode cX2_prepare 81 = .ok (.lload 10, 2) := by decide +kernel
theorem dX2_prepare_83 : decode cX2_prepare 83 = .ok (.lmul, 1) := by decide +kernel
theorem dX2_prepare_84 : decode cX2_prepare 84 = .ok (.lsub, 1) := by decide +kernel
theorem dX2_prepare_85 : decode cX2_prepare 85 = .ok (.lastore, 1) := by decide +kernel
theorem dX2_prepare_86 : decode cX2_prepare 86 = .ok (.aload_n 0, 1) := by decide +kernel
theorem dX2_prepare_87 : decode cX2_prepare 87 = .ok (.getfield 22, 3) := by decide +kernel
theorem dX2_prepare_90 : decode cX2_prepare 90 = .ok (.iconst 3, 1) := by decide +kernel
theorem dX2_prepare_91 : decode cX2_prepare 91 = .ok (.lload_n 2, 1) := by decide +kernel
theorem dX2_prepare_92 : decode cX2_prepare 92 = .ok (.lload 4, 2) := by decide +kernel
theorem dX2_prepare_94 : decode cX2_prepare 94 = .ok (.lmul, 1) := by decide +kernel
theorem dX2_prepare_95 : decode cX2_prepare 95 = .ok (.lload 6, 2) := by decide +kernel
theorem dX2_prepare_97 : decode cX2_prepare 97 = .ok (.lload 6, 2) := by decide +kernel
theorem dX2_prepare_99 : decode cX2_prepare 99 = .ok (.lmul, 1) := by decide +kernel
theorem dX2_prepare_100 : decode cX2_prepare 100 = .ok (.lsub, 1) := by decide +kernel
theorem dX2_prepare_101 : decode cX2_prepare 101 = .ok (.lastore, 1) := by decide +kernel
theorem dX2_prepare_102 : decode cX2_prepare 102 = .ok (.aload_n 0, 1) := by decide +kernel
theorem dX2_prepare_103 : decode cX2_prepare 103 = .ok (.getfield 22, 3) := by decide +kernel
theorem dX2_prepare_106 : decode cX2_prepare 106 = .ok (.iconst 2, 1) := by decide +kernel
theorem dX2_prepare_107 : decode cX2_prepare 107 = .ok (.lload 10, 2) := by decide +kernel
theorem dX2_prepare_109 : decode cX2_prepare 109 = .ok (.lload 12, 2) := by decide +kernel
theorem dX2_prepare_111 : decode cX2_prepare 111 = .ok (.lmul, 1) := by decide +kernel
theorem dX2_prepare_112 : decode cX2_prepare 112 = .ok (.lload 6, 2) := by decide +kernel
theorem dX2_prepare_114 : decode cX2_prepare 114 = .ok (.lload 8, 2) := by decide +kernel
theorem dX2_prepare_116 : decode cX2_prepare 116 = .ok (.lmul, 1) := by decide +kernel
theorem dX2_prepare_117 : decode cX2_prepare 117 = .ok (.lsub, 1) := by decide +kernel
theorem dX2_prepare_118 : decode cX2_prepare 118 = .ok (.lastore, 1) := by decide +kernel
theorem dX2_prepare_119 : decode cX2_prepare 119 = .ok (.aload_n 0, 1) := by decide +kernel
theorem dX2_prepare_120 : decode cX2_prepare 120 = .ok (.getfield 22, 3) := by decide +kernel
theorem dX2_prepare_123 : decode cX2_prepare 123 = .ok (.iconst 4, 1) := by decide +kernel
theorem dX2_prepare_124 : decode cX2_prepare 124 = .ok (.lload 6, 2) := by decide +kernel
theorem dX2_prepare_126 : decode cX2_prepare 126 = .ok (.lload 12, 2) := by decide +kernel
theorem dX2_prepare_128 : decode cX2_prepare 128 = .ok (.lmul, 1) := by decide +kernel
theorem dX2_prepare_129 : decode cX2_prepare 129 = .ok (.lload 4, 2) := by decide +kernel
theorem dX2_prepare_131 : decode cX2_prepare 131 = .ok (.lload 10, 2) := by decide +kernel
theorem dX2_prepare_133 : decode cX2_prepare 133 = .ok (.lmul, 1) := by decide +kernel
theorem dX2_prepare_134 : decode cX2_prepare 134 = .ok (.lsub, 1) := by decide +kernel
theorem dX2_prepare_135 : decode cX2_prepare 135 = .ok (.lastore, 1) := by decide +kernel
theorem dX2_prepare_136 : decode cX2_prepare 136 = .ok (.aload_n 0, 1) := by decide +kernel
theorem dX2_prepare_137 : decode cX2_prepare 137 = .ok (.getfield 22, 3) := by decide +kernel
theorem dX2_prepare_140 : decode cX2_prepare 140 = .ok (.iconst 5, 1) := by decide +kernel
theorem dX2_prepare_141 : decode cX2_prepare 141 = .ok (.lload 6, 2) := by decide +kernel
theorem dX2_prepare_143 : decode cX2_prepare 143 = .ok (.lload 10, 2) := by decide +kernel
theorem dX2_prepare_145 : decode cX2_prepare 145 = .ok (.lmul, 1) := by decide +kernel
theorem dX2_prepare_146 : decode cX2_prepare 146 = .ok (.lload_n 2, 1) := by decide +kernel
theorem dX2_prepare_147 : decode cX2_prepare 147 = .ok (.lload 12, 2) := by decide +kernel
theorem dX2_prepare_149 : decode cX2_prepare 149 = .ok (.lmul, 1) := by decide +kernel
theorem dX2_prepare_150 : decode cX2_prepare 150 = .ok (.lsub, 1) := by decide +kernel
theorem dX2_prepare_151 : decode cX2_prepare 151 = .ok (.lastore, 1) := by decide +kernel
theorem dX2_prepare_152 : decode cX2_prepare 152 = .ok (.aload_n 0, 1) := by decide +kernel
theorem dX2_prepare_153 : decode cX2_prepare 153 = .ok (.lload_n 2, 1) := by decide +kernel
theorem dX2_prepare_154 : decode cX2_prepare 154 = .ok (.aload_n 0, 1) := by decide +kernel
theorem dX2_prepare_155 : decode cX2_prepare 155 = .ok (.getfield 22, 3) := by decide +kernel
theorem dX2_prepare_158 : decode cX2_prepare 158 = .ok (.iconst 0, 1) := by decide +kernel
theorem dX2_prepare_159 : decode cX2_prepare 159 = .ok (.laload, 1) := by decide +kernel
theorem dX2_prepare_160 : decode cX2_prepare 160 = .ok (.lmul, 1) := by decide +kernel
theorem dX2_prepare_161 : decode cX2_prepare 161 = .ok (.lload 6, 2) := by decide +kernel
theorem dX2_prepare_163 : decode cX2_prepare 163 = .ok (.aload_n 0, 1) := by decide +kernel
theorem dX2_prepare_164 : decode cX2_prepare 164 = .ok (.getfield 22, 3) := by decide +kernel
theorem dX2_prepare_167 : decode cX2_prepare 167 = .ok (.iconst 2, 1) := by decide +kernel
theorem dX2_prepare_168 : decode cX2_prepare 168 = .ok (.laload, 1) := by decide +kernel
theorem dX2_prepare_169 : decode cX2_prepare 169 = .ok (.lmul, 1) := by decide +kernel
theorem dX2_prepare_170 : decode cX2_prepare 170 = .ok (.ladd, 1) := by decide +kernel
theorem dX2_prepare_171 : decode cX2_prepare 171 = .ok (.lload 10, 2) := by decide +kernel
theorem dX2_prepare_173 : decode cX2_prepare 173 = .ok (.aload_n 0, 1) := by decide +kernel
theorem dX2_prepare_174 : decode cX2_prepare 174 = .ok (.getfield 22, 3) := by decide +kernel
theorem dX2_prepare_177 : decode cX2_prepare 177 = .ok (.iconst 4, 1) := by decide +kernel
theorem dX2_prepare_178 : decode cX2_prepare 178 = .ok (.laload, 1) := by decide +kernel
theorem dX2_prepare_179 : decode cX2_prepare 179 = .ok (.lmul, 1) := by decide +kernel
theorem dX2_prepare_180 : decode cX2_prepare 180 = .ok (.ladd, 1) := by decide +kernel
theorem dX2_prepare_181 : decode cX2_prepare 181 = .ok (.putfield 32, 3) := by decide +kernel
theorem dX2_prepare_184 : decode cX2_prepare 184 = .ok (.return_, 1) := by decide +kernel
theorem gm_X2_pull_0 : ∀ w ∈ wsX20, w ∈ wsX2_pull := fun w h => List.mem_cons_of_mem _ (List.mem_append_right _ h)
theorem ggX2_pull_X2_pullFourfold : GoodIn wsX2_pull wsX2_pullFourfold := gk_cons (List.mem_cons_of_mem _ (List.mem_append_left _ (List.mem_of_getElem? (i := 5) rfl))) rfl (goodIn_app (gk_cons (List.mem_cons_of_mem _ (List.mem_append_left _ (List.mem_of_getElem? (i := 6) rfl))) rfl (gk_cons (List.mem_cons_of_mem _ (List.mem_append_left _ (List.mem_of_getElem? (i := 7) rfl))) rfl gk_nil)) (goodIn_sub gm_X2_pull_0 ag_wsX20))
theorem gX2_pull_X2_pullFourfold : GoodIn wsX2_pull (wsV RX2 116 RX2 yX2_pullFourfold wsX2_pullFourfold) := goodIn_app (gk_cons (List.mem_cons_of_mem _ (List.mem_append_left _ (List.mem_of_getElem? (i := 1) rfl))) rfl (gk_cons (List.mem_cons_of_mem _ (List.mem_append_left _ (List.mem_of_getElem? (i := 2) rfl))) rfl (gk_cons (List.mem_cons_of_mem _ (List.mem_append_left _ (List.mem_of_getElem? (i := 3) rfl))) rfl (gk_cons (List.mem_cons_of_mem _ (List.mem_append_left _ (List.mem_of_getElem? (i := 4) rfl))) rfl gk_nil)))) ggX2_pull_X2_pullFourfold
theorem dX2_pull_0 : decode cX2_pull 0 = .ok (.aload_n 0, 1) := by decide +kernel
theorem dX2_pull_1 : decode cX2_pull 1 = .ok (.ldc2_w 114, 3) := by decide +kernel
theorem dX2_pull_4 : decode cX2_pull 4 = .ok (.iload_n 1, 1) := by decide +kernel
theorem dX2_pull_5 : decode cX2_pull 5 = .ok (.i2l, 1) := by decide +kernel
theorem dX2_pull_6 : decode cX2_pull 6 = .ok (.lmul, 1) := by decide +kernel
theorem dX2_pull_7 : decode cX2_pull 7 = .ok (.ldc2_w 114, 3) := by decide +kernel
theorem dX2_pull_10 : decode cX2_pull 10 = .ok (.iload_n 2, 1) := by decide +kernel
theorem dX2_pull_11 : decode cX2_pull 11 = .ok (.i2l, 1) := by decide +kernel
theorem dX2_pull_12 : decode cX2_pull 12 = .ok (.lmul, 1) := by decide +kernel
theorem dX2_pull_13 : decode cX2_pull 13 = .ok (.ldc2_w 114, 3) := by decide +kernel
theorem dX2_pull_16 : decode cX2_pull 16 = .ok (.iload_n 3, 1) := by decide +kernel
theorem dX2_pull_17 : decode cX2_pull 17 = .ok (.i2l, 1) := by decide +kernel
theorem dX2_pull_18 : decode cX2_pull 18 = .ok (.lmul, 1) := by decide +kernel
theorem dX2_pull_19 : decode cX2_pull 19 = .ok (.invokevirtual 116, 3) := by decide +kernel
theorem dX2_pull_22 : decode cX2_pull 22 = .ok (.return_, 1) := by decide +kernel
theorem dX2_pullFourfold_0 : decode cX2_pullFourfold 0 = .ok (.aload_n 0, 1) := by decide +kernel
theorem dX2_pullFourfold_1 : decode cX2_pullFourfold 1 = .ok (.getfield 29, 3) := by decide +kernel
theorem dX2_pullFourfold_4 : decode cX2_pullFourfold 4 = .ok (.iconst 0, 1) := by decide +kernel
theorem dX2_pullFourfold_5 : decode cX2_pullFourfold 5 = .ok (.aload_n 0, 1) := by decide +kernel
theorem dX2_pullFourfold_6 : decode cX2_pullFourfold 6 = .ok (.getfield 22, 3) := by decide +kernel
theorem dX2_pullFourfold_9 : decode cX2_pullFourfold 9 = .ok (.iconst 0, 1) := by decide +kernel
theorem dX2_pullFourfold_10 : decode cX2_pullFourfold 10 = .ok (.laload, 1) := by decide +kernel
theorem dX2_pullFourfold_11 : decode cX2_pullFourfold 11 = .ok (.lload_n 1, 1) := by decide +kernel
theorem dX2_pullFourfold_12 : decode cX2_pullFourfold 12 = .ok (.lmul, 1) := by decide +kernel
theorem dX2_pullFourfold_13 : decode cX2_pullFourfold 13 = .ok (.aload_n 0, 1) := by decide +kernel
theorem dX2_pullFourfold_14 : decode cX2_pullFourfold 14 = .ok (.getfield 22, 3) := by decide +kernel
theorem dX2_pullFourfold_17 : decode cX2_pullFourfold 17 = .ok (.iconst 2, 1) := by decide +kernel
theorem dX2_pullFourfold_18 : decode cX2_pullFourfold 18 = .ok (.laload, 1) := by decide +kernel
theorem dX2_pullFourfold_19 : decode cX2_pullFourfold 19 = .ok (.lload_n 3, 1) := by decide +kernel
theorem dX2_pullFourfold_20 : decode cX2_pullFourfold 20 = .ok (.lmul, 1) := by decide +kernel
theorem dX2_pullFourfold_21 : decode cX2_pullFourfold 21 = .ok (.ladd, 1) := by decide +kernel
theorem dX2_pullFourfold_22 : decode cX2_pullFourfold 22 = .ok (.aload_n 0, 1) := by decide +kernel
theorem dX2_pullFourfold_23 : decode cX2_pullFourfold 23 = .ok (.getfield 22, 3) := by decide +kernel
theorem dX2_pullFourfold_26 : decode cX2_pullFourfold 26 = .ok (.iconst 4, 1) := by decide +kernel
theorem dX2_pullFourfold_27 : decode cX2_pullFourfold 27 = .ok (.laload, 1) := by decide +kernel
theorem dX2_pullFourfold_28 : decode cX2_pullFourfold 28 = .ok (.lload 5, 2) := by decide +kernel
theorem dX2_pullFourfold_30 : decode cX2_pullFourfold 30 = .ok (.lmul, 1) := by decide +kernel
theorem dX2_pullFourfold_31 : decode cX2_pullFourfold 31 = .ok (.ladd, 1) := by decide +kernel
theorem dX2_pullFourfold_32 : decode cX2_pullFourfold 32 = .ok (.lastore, 1) := by decide +kernel
theorem dX2_pullFourfold_33 : decode cX2_pullFourfold 33 = .ok (.aload_n 0, 1) := by decide +kernel
theorem dX2_pullFourfold_34 : decode cX2_pullFourfold 34 = .ok (.getfield 29, 3) := by decide +kernel
theorem dX2_pullFourfold_37 : decode cX2_pullFourfold 37 = .ok (.iconst 1, 1) := by decide +kernel
theorem dX2_pullFourfold_38 : decode cX2_pullFourfold 38 = .ok (.aload_n 0, 1) := by decide +kernel
theorem dX2_pullFourfold_39 : decode cX2_pullFourfold 39 = .ok (.getfield 22, 3) := by decide +kernel
theorem dX2_pullFourfold_42 : decode cX2_pullFourfold 42 = .ok (.iconst 2, 1) := by decide +kernel
theorem dX2_pullFourfold_43 : decode cX2_pullFourfold 43 = .ok (.laload, 1) := by decide +kernel
theorem dX2_pullFourfold_44 : decode cX2_pullFourfold 44 = .ok (.lload_n 1, 1) := by decide +kernel
theorem dX2_pullFourfold_45 : decode cX2_pullFourfold 45 = .ok (.lmul, 1) := by decide +kernel
theorem dX2_pullFourfold_46 : decode cX2_pullFourfold 46 = .ok (.aload_n 0, 1) := by decide +kernel
theorem dX2_pullFourfold_47 : decode cX2_pullFourfold 47 = .ok (.getfield 22, 3) := by decide +kernel
theorem dX2_pullFourfold_50 : decode cX2_pullFourfold 50 = .ok (.iconst 1, 1) := by decide +kernel
theorem dX2_pullFourfold_51 : decode cX2_pullFourfold 51 = .ok (.laload, 1) := by decide +kernel
theorem dX2_pullFourfold_52 : decode cX2_pullFourfold 52 = .ok (.lload_n 3, 1) := by decide +kernel
theorem dX2_pullFourfold_53 : decode cX2_pullFourfold 53 = .ok (.lmul, 1) := by decide +kernel
theorem dX2_pullFourfold_54 : decode cX2_pullFourfold 54 = .ok (.ladd, 1) := by decide +kernel
theorem dX2_pullFourfold_55 : decode cX2_pullFourfold 55 = .ok (.aload_n 0, 1) := by decide +kernel
theorem dX2_pullFourfold_56 : decode cX2_pullFourfold 56 = .ok (.getfield 22, 3) := by decide +kernel
theorem dX2_pullFourfold_59 : decode cX2_pullFourfold 59 = .ok (.iconst 5, 1) := by decide +kernel
theorem dX2_pullFourfold_60 : decode cX2_pullFourfold 60 = .ok (.laload, 1) := by decide +kernel
theorem dX2_pullFourfold_61 : decode cX2_pullFourfold 61 = .ok (.lload 5, 2) := by decide +kernel
theorem dX2_pullFourfold_63 : decode cX2_pullFourfold 63 = .ok (.lmul, 1) := by decide +kernel
theorem dX2_pullFourfold_64 : decode cX2_pullFourfold 64 = .ok (.ladd, 1) := by decide +kernel
theorem dX2_pullFourfold_65 : decode cX2_pullFourfold 65 = .ok (.lastore, 1) := by decide +kernel
theorem dX2_pullFourfold_66 : decode cX2_pullFourfold 66 = .ok (.aload_n 0, 1) := by decide +kernel
theorem dX2_pullFourfold_67 : decode cX2_pullFourfold 67 = .ok (.getfield 29, 3) := by decide +kernel
theorem dX2_pullFourfold_70 : decode cX2_pullFourfold 70 = .ok (.iconst 2, 1) := by decide +kernel
theorem dX2_pullFourfold_71 : decode cX2_pullFourfold 71 = .ok (.aload_n 0, 1) := by decide +kernel
theorem dX2_pullFourfold_72 : decode cX2_pullFourfold 72 = .ok (.getfield 22, 3) := by decide +kernel
theorem dX2_pullFourfold_75 : decode cX2_pullFourfold 75 = .ok (.iconst 4, 1) := by decide +kernel
theorem dX2_pullFourfold_76 : decode cX2_pullFourfold 76 = .ok (.laload, 1) := by decide +kernel
theorem dX2_pullFourfold_77 : decode cX2_pullFourfold 77 = .ok (.lload_n 1, 1) := by decide +kernel
theorem dX2_pullFourfold_78 : decode cX2_pullFourfold 78 = .ok (.lmul, 1) := by decide +kernel
theorem dX2_pullFourfold_79 : decode cX2_pullFourfold 79 = .ok (.aload_n 0, 1) := by decide +kernel
theorem dX2_pullFourfold_80 : decode cX2_pullFourfold 80 = .ok (.getfield 22, 3) := by decide +kernel
theorem dX2_pullFourfold_83 : decode cX2_pullFourfold 83 = .ok (.iconst 5, 1) := by decide +kernel
theorem dX2_pullFourfold_84 : decode cX2_pullFourfold 84 = .ok (.laload, 1) := by decide +kernel
theorem dX2_pullFourfold_85 : decode cX2_pullFourfold 85 = .ok (.lload_n 3, 1) := by decide +kernel
theorem dX2_pullFourfold_86 : decode cX2_pullFourfold 86 = .ok (.lmul, 1) := by decide +kernel
theorem dX2_pullFourfold_87 : decode cX2_pullFourfold 87 = .ok (.ladd, 1) := by decide +kernel
theorem dX2_pullFourfold_88 : decode cX2_pullFourfold 88 = .ok (.aload_n 0, 1) := by decide +kernel
theorem dX2_pullFourfold_89 : decode cX2_pullFourfold 89 = .ok (.getfield 22, 3) := by decide +kernel
theorem dX2_pullFourfold_92 : decode cX2_pullFourfold 92 = .ok (.iconst 3, 1) := by decide +kernel
theorem dX2_pullFourfold_93 : decode cX2_pullFourfold 93 = .ok (.laload, 1) := by decide +kernel
theorem dX2_pullFourfold_94 : decode cX2_pullFourfold 94 = .ok (.lload 5, 2) := by decide +kernel
theorem dX2_pullFourfold_96 : decode cX2_pullFourfold 96 = .ok (.lmul, 1) := by decide +kernel
theorem dX2_pullFourfold_97 : decode cX2_pullFourfold 97 = .ok (.ladd, 1) := by decide +kernel
theorem dX2_pullFourfold_98 : decode cX2_pullFourfold 98 = .ok (.lastore, 1) := by decide +kernel
theorem dX2_pullFourfold_99 : decode cX2_pullFourfold 99 = .ok (.return_, 1) := by decide +kernel
theorem gm_X2_warmUp_0 : ∀ w ∈ wsX2_warmUp_r1, w ∈ wsX2_warmUp := fun w h => List.mem_cons_of_mem _ (List.mem_append_left _ (List.mem_append_left _ (List.mem_append_left _ (List.mem_append_left _ (List.mem_append_left _ (List.mem_append_left _ h))))))
theorem gm_X2_warmUp_1 : ∀ w ∈ wsX2_warmUp_r2, w ∈ wsX2_warmUp := fun w h => List.mem_cons_of_mem _ (List.mem_append_left _ (List.mem_append_left _ (List.mem_append_left _ (List.mem_append_left _ (List.mem_append_left _ (List.mem_append_right _ h))))))
theorem gm_X2_warmUp_2 : ∀ w ∈ wsX70, w ∈ wsX2_warmUp := fun w h => List.mem_cons_of_mem _ (List.mem_append_left _ (List.mem_append_left _ (List.mem_append_left _ (List.mem_append_left _ (List.mem_append_right _ h)))))
theorem gm_X2_warmUp_3 : ∀ w ∈ wsX20, w ∈ wsX2_warmUp := fun w h => List.mem_cons_of_mem _ (List.mem_append_left _ (List.mem_append_left _ (List.mem_append_left _ (List.mem_append_right _ h))))
theorem gm_X2_warmUp_4 : ∀ w ∈ wsX50, w ∈ wsX2_warmUp := fun w h => List.mem_cons_of_mem _ (List.mem_append_left _ (List.mem_append_left _ (List.mem_append_right _ h)))
theorem gm_X2_warmUp_5 : ∀ w ∈ wsX60, w ∈ wsX2_warmUp := fun w h => List.mem_cons_of_mem _ (List.mem_append_left _ (List.mem_append_right _ h))
theorem gm_X2_warmUp_6 : ∀ w ∈ wsX90, w ∈ wsX2_warmUp := fun w h => List.mem_cons_of_mem _ (List.mem_append_right _ h)
theorem ggX2_warmUp_X6_become : GoodIn wsX2_warmUp wsX6_become := gk_cons (gm_X2_warmUp_0 _ (List.mem_of_getElem? (i := 19) rfl)) rfl (goodIn_app (goodIn_app (gk_cons (gm_X2_warmUp_0 _ (List.mem_of_getElem? (i := 20) rfl)) rfl (gk_cons (gm_X2_warmUp_0 _ (List.mem_of_getElem? (i := 21) rfl)) rfl (gk_cons (gm_X2_warmUp_0 _ (List.mem_of_getElem? (i := 22) rfl)) rfl (gk_cons (gm_X2_warmUp_0 _ (List.mem_of_getElem? (i := 23) rfl)) rfl (gk_cons (gm_X2_warmUp_1 _ (List.mem_of_getElem? (i := 0) rfl)) rfl (gk_cons (gm_X2_warmUp_1 _ (List.mem_of_getElem? (i := 1) rfl)) rfl (gk_cons (gm_X2_warmUp_1 _ (List.mem_of_getElem? (i := 2) rfl)) rfl (gk_cons (gm_X2_warmUp_1 _ (List.mem_of_getElem? (i := 3) rfl)) rfl gk_nil)))))))) (goodIn_sub gm_X2_warmUp_6 ag_wsX90)) (goodIn_sub gm_X2_warmUp_5 ag_wsX60))
theorem gX2_warmUp_X6_become : GoodIn wsX2_warmUp (wsV RX2 71 RX6 yX6_become wsX6_become) := goodIn_app (gk_cons (gm_X2_warmUp_0 _ (List.mem_of_getElem? (i := 15) rfl)) rfl (gk_cons (gm_X2_warmUp_0 _ (List.mem_of_getElem? (i := 16) rfl)) rfl (gk_cons (gm_X2_warmUp_0 _ (List.mem_of_getElem? (i := 17) rfl)) rfl (gk_cons (gm_X2_warmUp_0 _ (List.mem_of_getElem? (i := 18) rfl)) rfl gk_nil)))) ggX2_warmUp_X6_become
theorem ggX2_warmUp_X2_pullFourfold : GoodIn wsX2_warmUp wsX2_pullFourfold := gk_cons (gm_X2_warmUp_1 _ (List.mem_of_getElem? (i := 8) rfl)) rfl (goodIn_app (gk_cons (gm_X2_warmUp_1 _ (List.mem_of_getElem? (i := 9) rfl)) rfl (gk_cons (gm_X2_warmUp_1 _ (List.mem_of_getElem? (i := 10) rfl)) rfl gk_nil)) (goodIn_sub gm_X2_warmUp_3 ag_wsX20))
theorem gX2_warmUp_X2_pullFourfold : GoodIn wsX2_warmUp (wsV RX2 116 RX2 yX2_pullFourfold wsX2_pullFourfold) := goodIn_app (gk_cons (gm_X2_warmUp_1 _ (List.mem_of_getElem? (i := 4) rfl)) rfl (gk_cons (gm_X2_warmUp_1 _ (List.mem_of_getElem? (i := 5) rfl)) rfl (gk_cons (gm_X2_warmUp_1 _ (List.mem_of_getElem? (i := 6) rfl)) rfl (gk_cons (gm_X2_warmUp_1 _ (List.mem_of_getElem? (i := 7) rfl)) rfl gk_nil)))) ggX2_warmUp_X2_pullFourfold
theorem dX2_warmUp_0 : decode cX2_warmUp 0 = .ok (.lconst 0, 1) := by decide +kernel
theorem dX2_warmUp_1 : decode cX2_warmUp 1 = .ok (.lstore_n 3, 1) := by decide +kernel
theorem dX2_warmUp_2 : decode cX2_warmUp 2 = .ok (.lconst 0, 1) := by decide +kernel
theorem dX2_warmUp_3 : decode cX2_warmUp 3 = .ok (.lstore 5, 2) := by decide +kernel
theorem dX2_warmUp_5 : decode cX2_warmUp 5 = .ok (.lconst 0, 1) := by decide +kernel
theorem dX2_warmUp_6 : decode cX2_warmUp 6 = .ok (.lstore 7, 2) := by decide +kernel
theorem dX2_warmUp_8 : decode cX2_warmUp 8 = .ok (.iconst 0, 1) := by decide +kernel
theorem dX2_warmUp_9 : decode cX2_warmUp 9 = .ok (.istore 9, 2) := by decide +kernel
theorem dX2_warmUp_11 : decode cX2_warmUp 11 = .ok (.iload 9, 2) := by decide +kernel
theorem dX2_warmUp_13 : decode cX2_warmUp 13 = .ok (.aload_n 1, 1) := by decide +kernel
theorem dX2_warmUp_14 : decode cX2_warmUp 14 = .ok (.getfield 94, 3) := by decide +kernel
theorem dX2_warmUp_17 : decode cX2_warmUp 17 = .ok (.if_icmp .ge 244, 3) := by decide +kernel
theorem dX2_warmUp_20 : decode cX2_warmUp 20 = .ok (.aload_n 1, 1) := by decide +kernel
theorem dX2_warmUp_21 : decode cX2_warmUp 21 = .ok (.getfield 97, 3) := by decide +kernel
theorem dX2_warmUp_24 : decode cX2_warmUp 24 = .ok (.iload 9, 2) := by decide +kernel
theorem dX2_warmUp_26 : decode cX2_warmUp 26 = .ok (.aaload, 1) := by decide +kernel
theorem dX2_warmUp_27 : decode cX2_warmUp 27 = .ok (.astore 10, 2) := by decide +kernel
theorem dX2_warmUp_29 : decode cX2_warmUp 29 = .ok (.aload_n 0, 1) := by decide +kernel
theorem dX2_warmUp_30 : decode cX2_warmUp 30 = .ok (.getfield 55, 3) := by decide +kernel
theorem dX2_warmUp_33 : decode cX2_warmUp 33 = .ok (.aload 10, 2) := by decide +kernel
theorem dX2_warmUp_35 : decode cX2_warmUp 35 = .ok (.getfield 63, 3) := by decide +kernel
theorem dX2_warmUp_38 : decode cX2_warmUp 38 = .ok (.aaload, 1) := by decide +kernel
theorem dX2_warmUp_39 : decode cX2_warmUp 39 = .ok (.astore 11, 2) := by decide +kernel
theorem dX2_warmUp_41 : decode cX2_warmUp 41 = .ok (.aload_n 0, 1) := by decide +kernel
theorem dX2_warmUp_42 : decode cX2_warmUp 42 = .ok (.getfield 12, 3) := by decide +kernel
theorem dX2_warmUp_45 : decode cX2_warmUp 45 = .ok (.aload 11, 2) := by decide +kernel
theorem dX2_warmUp_47 : decode cX2_warmUp 47 = .ok (.aload 10, 2) := by decide +kernel
theorem dX2_warmUp_49 : decode cX2_warmUp 49 = .ok (.getfield 68, 3) := by decide +kernel
theorem dX2_warmUp_52 : decode cX2_warmUp 52 = .ok (.invokevirtual 71, 3) := by decide +kernel
theorem dX2_warmUp_55 : decode cX2_warmUp 55 = .ok (.iload_n 2, 1) := by decide +kernel
theorem dX2_warmUp_56 : decode cX2_warmUp 56 = .ok (.i2l, 1) := by decide +kernel
theorem dX2_warmUp_57 : decode cX2_warmUp 57 = .ok (.aload 10, 2) := by decide +kernel
theorem dX2_warmUp_59 : decode cX2_warmUp 59 = .ok (.getfield 103, 3) := by decide +kernel
theorem dX2_warmUp_62 : decode cX2_warmUp 62 = .ok (.i2l, 1) := by decide +kernel
theorem dX2_warmUp_63 : decode cX2_warmUp 63 = .ok (.lmul, 1) := by decide +kernel
theorem dX2_warmUp_64 : decode cX2_warmUp 64 = .ok (.lstore 12, 2) := by decide +kernel
theorem dX2_warmUp_66 : decode cX2_warmUp 66 = .ok (.lload 12, 2) := by decide +kernel
theorem dX2_warmUp_68 : decode cX2_warmUp 68 = .ok (.aload_n 0, 1) := by decide +kernel
theorem dX2_warmUp_69 : decode cX2_warmUp 69 = .ok (.getfield 12, 3) := by decide +kernel
theorem dX2_warmUp_72 : decode cX2_warmUp 72 = .ok (.getfield 120, 3) := by decide +kernel
theorem dX2_warmUp_75 : decode cX2_warmUp 75 = .ok (.aload 11, 2) := by decide +kernel
theorem dX2_warmUp_77 : decode cX2_warmUp 77 = .ok (.getfield 123, 3) := by decide +kernel
theorem dX2_warmUp_80 : decode cX2_warmUp 80 = .ok (.imul, 1) := by decide +kernel
theorem dX2_warmUp_81 : decode cX2_warmUp 81 = .ok (.aload_n 0, 1) := by decide +kernel
theorem dX2_warmUp_82 : decode cX2_warmUp 82 = .ok (.getfield 12, 3) := by decide +kernel
theorem dX2_warmUp_85 : decode cX2_warmUp 85 = .ok (.getfield 128, 3) := by decide +kernel
theorem dX2_warmUp_88 : decode cX2_warmUp 88 = .ok (.aload 11, 2) := by decide +kernel
theorem dX2_warmUp_90 : decode cX2_warmUp 90 = .ok (.getfield 131, 3) := by decide +kernel
theorem dX2_warmUp_93 : decode cX2_warmUp 93 = .ok (.imul, 1) := by decide +kernel
theorem dX2_warmUp_94 : decode cX2_warmUp 94 = .ok (.iadd, 1) := by decide +kernel
theorem dX2_warmUp_95 : decode cX2_warmUp 95 = .ok (.i2l, 1) := by decide +kernel
theorem dX2_warmUp_96 : decode cX2_warmUp 96 = .ok (.lmul, 1) := by decide +kernel
theorem dX2_warmUp_97 : decode cX2_warmUp 97 = .ok (.lstore 14, 2) := by decide +kernel
theorem dX2_warmUp_99 : decode cX2_warmUp 99 = .ok (.lload 12, 2) := by decide +kernel
theorem dX2_warmUp_101 : decode cX2_warmUp 101 = .ok (.aload_n 0, 1) := by decide +kernel
theorem dX2_warmUp_102 : decode cX2_warmUp 102 = .ok (.getfield 12, 3) := by decide +kernel
theorem dX2_warmUp_105 : decode cX2_warmUp 105 = .ok (.getfield 128, 3) := by decide +kernel
theorem dX2_warmUp_108 : decode cX2_warmUp 108 = .ok (.aload 11, 2) := by decide +kernel
theorem dX2_warmUp_110 : decode cX2_warmUp 110 = .ok (.getfield 123, 3) := by decide +kernel
theorem dX2_warmUp_113 : decode cX2_warmUp 113 = .ok (.imul, 1) := by decide +kernel
theorem dX2_warmUp_114 : decode cX2_warmUp 114 = .ok (.aload_n 0, 1) := by decide +kernel
theorem dX2_warmUp_115 : decode cX2_warmUp 115 = .ok (.getfield 12, 3) := by decide +kernel
theorem dX2_warmUp_118 : decode cX2_warmUp 118 = .ok (.getfield 134, 3) := by decide +kernel
theorem dX2_warmUp_121 : decode cX2_warmUp 121 = .ok (.aload 11, 2) := by decide +kernel
theorem dX2_warmUp_123 : decode cX2_warmUp 123 = .ok (.getfield 131, 3) := by decide +kernel
theorem dX2_warmUp_126 : decode cX2_warmUp 126 = .ok (.imul, 1) := by decide +kernel
theorem dX2_warmUp_127 : decode cX2_warmUp 127 = .ok (.iadd, 1) := by decide +kernel
theorem dX2_warmUp_128 : decode cX2_warmUp 128 = .ok (.i2l, 1) := by decide +kernel
theorem dX2_warmUp_129 : decode cX2_warmUp 129 = .ok (.lmul, 1) := by decide +kernel
theorem dX2_warmUp_130 : decode cX2_warmUp 130 = .ok (.lstore 16, 2) := by decide +kernel
theorem dX2_warmUp_132 : decode cX2_warmUp 132 = .ok (.aload 10, 2) := by decide +kernel
theorem dX2_warmUp_134 : decode cX2_warmUp 134 = .ok (.getfield 75, 3) := by decide +kernel
theorem dX2_warmUp_137 : decode cX2_warmUp 137 = .ok (.ifCond .eq 12, 3) := by decide +kernel
theorem dX2_warmUp_140 : decode cX2_warmUp 140 = .ok (.aload 10, 2) := by decide +kernel
theorem dX2_warmUp_142 : decode cX2_warmUp 142 = .ok (.getfield 75, 3) := by decide +kernel
theorem dX2_warmUp_145 : decode cX2_warmUp 145 = .ok (.iconst 1, 1) := by decide +kernel
theorem dX2_warmUp_146 : decode cX2_warmUp 146 = .ok (.if_icmp .ne 52, 3) := by decide +kernel
theorem dX2_warmUp_149 : decode cX2_warmUp 149 = .ok (.lload_n 3, 1) := by decide +kernel
theorem dX2_warmUp_150 : decode cX2_warmUp 150 = .ok (.ldc2_w 114, 3) := by decide +kernel
theorem dX2_warmUp_153 : decode cX2_warmUp 153 = .ok (.aload 10, 2) := by decide +kernel
theorem dX2_warmUp_155 : decode cX2_warmUp 155 = .ok (.getfield 75, 3) := by decide +kernel
theorem dX2_warmUp_158 : decode cX2_warmUp 158 = .ok (.ifCond .ne 8, 3) := by decide +kernel
theorem dX2_warmUp_161 : decode cX2_warmUp 161 = .ok (.lload 14, 2) := by decide +kernel
theorem dX2_warmUp_163 : decode cX2_warmUp 163 = .ok (.goto 5, 3) := by decide +kernel
theorem dX2_warmUp_166 : decode cX2_warmUp 166 = .ok (.lload 16, 2) := by decide +kernel
theorem dX2_warmUp_168 : decode cX2_warmUp 168 = .ok (.lmul, 1) := by decide +kernel
theorem dX2_warmUp_169 : decode cX2_warmUp 169 = .ok (.ladd, 1) := by decide +kernel
theorem dX2_warmUp_170 : decode cX2_warmUp 170 = .ok (.lstore_n 3, 1) := by decide +kernel
theorem dX2_warmUp_171 : decode cX2_warmUp 171 = .ok (.lload 5, 2) := by decide +kernel
theorem dX2_warmUp_173 : decode cX2_warmUp 173 = .ok (.ldc2_w 114, 3) := by decide +kernel
theorem dX2_warmUp_176 : decode cX2_warmUp 176 = .ok (.aload 10, 2) := by decide +kernel
theorem dX2_warmUp_178 : decode cX2_warmUp 178 = .ok (.getfield 75, 3) := by decide +kernel
theorem dX2_warmUp_181 : decode cX2_warmUp 181 = .ok (.ifCond .ne 8, 3) := by decide +kernel
theorem dX2_warmUp_184 : decode cX2_warmUp 184 = .ok (.lload 16, 2) := by decide +kernel
theorem dX2_warmUp_186 : decode cX2_warmUp 186 = .ok (.goto 5, 3) := by decide +kernel
theorem dX2_warmUp_189 : decode cX2_warmUp 189 = .ok (.lload 14, 2) := by decide +kernel
theorem dX2_warmUp_191 : decode cX2_warmUp 191 = .ok (.lmul, 1) := by decide +kernel
theorem dX2_warmUp_192 : decode cX2_warmUp 192 = .ok (.ladd, 1) := by decide +kernel
theorem dX2_warmUp_193 : decode cX2_warmUp 193 = .ok (.lstore 5, 2) := by decide +kernel
theorem dX2_warmUp_195 : decode cX2_warmUp 195 = .ok (.goto 60, 3) := by decide +kernel
theorem dX2_warmUp_198 : decode cX2_warmUp 198 = .ok (.lload_n 3, 1) := by decide +kernel
theorem dX2_warmUp_199 : decode cX2_warmUp 199 = .ok (.ldc2_w 101, 3) := by decide +kernel
theorem dX2_warmUp_202 : decode cX2_warmUp 202 = .ok (.lload 14, 2) := by decide +kernel
theorem dX2_warmUp_204 : decode cX2_warmUp 204 = .ok (.lload 16, 2) := by decide +kernel
theorem dX2_warmUp_206 : decode cX2_warmUp 206 = .ok (.ladd, 1) := by decide +kernel
theorem dX2_warmUp_207 : decode cX2_warmUp 207 = .ok (.lmul, 1) := by decide +kernel
theorem dX2_warmUp_208 : decode cX2_warmUp 208 = .ok (.ladd, 1) := by decide +kernel
theorem dX2_warmUp_209 : decode cX2_warmUp 209 = .ok (.lstore_n 3, 1) := by decide +kernel
theorem dX2_warmUp_210 : decode cX2_warmUp 210 = .ok (.lload 5, 2) := by decide +kernel
theorem dX2_warmUp_212 : decode cX2_warmUp 212 = .ok (.ldc2_w 101, 3) := by decide +kernel
theorem dX2_warmUp_215 : decode cX2_warmUp 215 = .ok (.lload 14, 2) := by decide +kernel
theorem dX2_warmUp_217 : decode cX2_warmUp 217 = .ok (.lload 16, 2) := by decide +kernel
theorem dX2_warmUp_219 : decode cX2_warmUp 219 = .ok (.ladd, 1) := by decide +kernel
theorem dX2_warmUp_220 : decode cX2_warmUp 220 = .ok (.lmul, 1) := by decide +kernel
theorem dX2_warmUp_221 : decode cX2_warmUp 221 = .ok (.ladd, 1) := by decide +kernel
theorem dX2_warmUp_222 : decode cX2_warmUp 222 = .ok (.lstore 5, 2) := by decide +kernel
theorem dX2_warmUp_224 : decode cX2_warmUp 224 = .ok (.lload 7, 2) := by decide +kernel
theorem dX2_warmUp_226 : decode cX2_warmUp 226 = .ok (.ldc2_w 101, 3) := by decide +kernel
theorem dX2_warmUp_229 : decode cX2_warmUp 229 = .ok (.aload 10, 2) := by decide +kernel
theorem dX2_warmUp_231 : decode cX2_warmUp 231 = .ok (.getfield 75, 3) := by decide +kernel
theorem dX2_warmUp_234 : decode cX2_warmUp 234 = .ok (.iconst 2, 1) := by decide +kernel
theorem dX2_warmUp_235 : decode cX2_warmUp 235 = .ok (.if_icmp .ne 11, 3) := by decide +kernel
theorem dX2_warmUp_238 : decode cX2_warmUp 238 = .ok (.lload 14, 2) := by decide +kernel
theorem dX2_warmUp_240 : decode cX2_warmUp 240 = .ok (.lload 16, 2) := by decide +kernel
theorem dX2_warmUp_242 : decode cX2_warmUp 242 = .ok (.lsub, 1) := by decide +kernel
theorem dX2_warmUp_243 : decode cX2_warmUp 243 = .ok (.goto 8, 3) := by decide +kernel
theorem dX2_warmUp_246 : decode cX2_warmUp 246 = .ok (.lload 16, 2) := by decide +kernel
theorem dX2_warmUp_248 : decode cX2_warmUp 248 = .ok (.lload 14, 2) := by decide +kernel
theorem dX2_warmUp_250 : decode cX2_warmUp 250 = .ok (.lsub, 1) := by decide +kernel
theorem dX2_warmUp_251 : decode cX2_warmUp 251 = .ok (.lmul, 1) := by decide +kernel
theorem dX2_warmUp_252 : decode cX2_warmUp 252 = .ok (.ladd, 1) := by decide +kernel
theorem dX2_warmUp_253 : decode cX2_warmUp 253 = .ok (.lstore 7, 2) := by decide +kernel
theorem dX2_warmUp_255 : decode cX2_warmUp 255 = .ok (.iinc 9 1, 3) := by decide +kernel
theorem dX2_warmUp_258 : decode cX2_warmUp 258 = .ok (.goto (-247), 3) := by decide +kernel
theorem dX2_warmUp_261 : decode cX2_warmUp 261 = .ok (.aload_n 0, 1) := by decide +kernel
theorem dX2_warmUp_262 : decode cX2_warmUp 262 = .ok (.lload_n 3, 1) := by decide +kernel
theorem dX2_warmUp_263 : decode cX2_warmUp 263 = .ok (.lload 5, 2) := by decide +kernel
theorem dX2_warmUp_265 : decode cX2_warmUp 265 = .ok (.lload 7, 2) := by decide +kernel
theorem dX2_warmUp_267 : decode cX2_warmUp 267 = .ok (.invokevirtual 116, 3) := by decide +kernel
theorem dX2_warmUp_270 : decode cX2_warmUp 270 = .ok (.return_, 1) := by decide +kernel
theorem gm_X2_isHeld_0 : ∀ w ∈ wsX2_isHeld_r1, w ∈ wsX2_isHeld := fun w h => List.mem_cons_of_mem _ (List.mem_append_left _ (List.mem_append_left _ (List.mem_append_left _ (List.mem_append_left _ (List.mem_append_left _ (List.mem_append_left _ h))))))
theorem gm_X2_isHeld_1 : ∀ w ∈ wsX2_isHeld_r2, w ∈ wsX2_isHeld := fun w h => List.mem_cons_of_mem _ (List.mem_append_left _ (List.mem_append_left _ (List.mem_append_left _ (List.mem_append_left _ (List.mem_append_left _ (List.mem_append_right _ (List.mem_append_left _ h)))))))
theorem gm_X2_isHeld_2 : ∀ w ∈ wsX2_isHeld_r3, w ∈ wsX2_isHeld := fun w h => List.mem_cons_of_mem _ (List.mem_append_left _ (List.mem_append_left _ (List.mem_append_left _ (List.mem_append_left _ (List.mem_append_left _ (List.mem_append_right _ (List.mem_append_right _ h)))))))
theorem gm_X2_isHeld_3 : ∀ w ∈ wsX20, w ∈ wsX2_isHeld := fun w h => List.mem_cons_of_mem _ (List.mem_append_left _ (List.mem_append_left _ (List.mem_append_left _ (List.mem_append_left _ (List.mem_append_right _ h)))))
theorem gm_X2_isHeld_4 : ∀ w ∈ wsX70, w ∈ wsX2_isHeld := fun w h => List.mem_cons_of_mem _ (List.mem_append_left _ (List.mem_append_left _ (List.mem_append_left _ (List.mem_append_right _ h))))
theorem gm_X2_isHeld_5 : ∀ w ∈ wsX50, w ∈ wsX2_isHeld := fun w h => List.mem_cons_of_mem _ (List.mem_append_left _ (List.mem_append_left _ (List.mem_append_right _ h)))
theorem gm_X2_isHeld_6 : ∀ w ∈ wsX90, w ∈ wsX2_isHeld := fun w h => List.mem_cons_of_mem _ (List.mem_append_left _ (List.mem_append_right _ h))
theorem gm_X2_isHeld_7 : ∀ w ∈ wsX60, w ∈ wsX2_isHeld := fun w h => List.mem_cons_of_mem _ (List.mem_append_right _ h)
theorem gk_X2_isHeld_X2_findWorst_r1 : GoodIn wsX2_isHeld wsX2_findWorst_r1 := (gk_cons (gm_X2_isHeld_0 _ (List.mem_of_getElem? (i := 7) rfl)) rfl (gk_cons (gm_X2_isHeld_0 _ (List.mem_of_getElem? (i := 1) rfl)) rfl (gk_cons (gm_X2_isHeld_0 _ (List.mem_of_getElem? (i := 8) rfl)) rfl (gk_cons (gm_X2_isHeld_0 _ (List.mem_of_getElem? (i := 0) rfl)) rfl (gk_cons (gm_X2_isHeld_0 _ (List.mem_of_getElem? (i := 9) rfl)) rfl (gk_cons (gm_X2_isHeld_0 _ (List.mem_of_getElem? (i := 10) rfl)) rfl (gk_cons (gm_X2_isHeld_0 _ (List.mem_of_getElem? (i := 11) rfl)) rfl (gk_cons (gm_X2_isHeld_0 _ (List.mem_of_getElem? (i := 12) rfl)) rfl (gk_cons (gm_X2_isHeld_0 _ (List.mem_of_getElem? (i := 13) rfl)) rfl (gk_cons (gm_X2_isHeld_0 _ (List.mem_of_getElem? (i := 14) rfl)) rfl (gk_cons (gm_X2_isHeld_0 _ (List.mem_of_getElem? (i := 15) rfl)) rfl (gk_cons (gm_X2_isHeld_0 _ (List.mem_of_getElem? (i := 16) rfl)) rfl (gk_cons (gm_X2_isHeld_0 _ (List.mem_of_getElem? (i := 17) rfl)) rfl (gk_cons (gm_X2_isHeld_0 _ (List.mem_of_getElem? (i := 18) rfl)) rfl (gk_cons (gm_X2_isHeld_0 _ (List.mem_of_getElem? (i := 19) rfl)) rfl (gk_cons (gm_X2_isHeld_0 _ (List.mem_of_getElem? (i := 20) rfl)) rfl (gk_cons (gm_X2_isHeld_0 _ (List.mem_of_getElem? (i := 21) rfl)) rfl (gk_cons (gm_X2_isHeld_0 _ (List.mem_of_getElem? (i := 22) rfl)) rfl (gk_cons (gm_X2_isHeld_0 _ (List.mem_of_getElem? (i := 23) rfl)) rfl (gk_cons (gm_X2_isHeld_0 _ (List.mem_of_getElem? (i := 5) rfl)) rfl (gk_cons (gm_X2_isHeld_1 _ (List.mem_of_getElem? (i := 0) rfl)) rfl (gk_cons (gm_X2_isHeld_1 _ (List.mem_of_getElem? (i := 1) rfl)) rfl (gk_cons (gm_X2_isHeld_1 _ (List.mem_of_getElem? (i := 2) rfl)) rfl (gk_cons (gm_X2_isHeld_1 _ (List.mem_of_getElem? (i := 3) rfl)) rfl gk_nil))))))))))))))))))))))))
theorem gk_X2_isHeld_X2_findWorst_r2 : GoodIn wsX2_isHeld wsX2_findWorst_r2 := (gk_cons (gm_X2_isHeld_1 _ (List.mem_of_getElem? (i := 4) rfl)) rfl (gk_cons (gm_X2_isHeld_1 _ (List.mem_of_getElem? (i := 5) rfl)) rfl (gk_cons (gm_X2_isHeld_1 _ (List.mem_of_getElem? (i := 6) rfl)) rfl (gk_cons (gm_X2_isHeld_1 _ (List.mem_of_getElem? (i := 7) rfl)) rfl (gk_cons (gm_X2_isHeld_1 _ (List.mem_of_getElem? (i := 8) rfl)) rfl (gk_cons (gm_X2_isHeld_1 _ (List.mem_of_getElem? (i := 9) rfl)) rfl (gk_cons (gm_X2_isHeld_1 _ (List.mem_of_getElem? (i := 10) rfl)) rfl (gk_cons (gm_X2_isHeld_1 _ (List.mem_of_getElem? (i := 11) rfl)) rfl (gk_cons (gm_X2_isHeld_1 _ (List.mem_of_getElem? (i := 12) rfl)) rfl (gk_cons (gm_X2_isHeld_1 _ (List.mem_of_getElem? (i := 13) rfl)) rfl (gk_cons (gm_X2_isHeld_1 _ (List.mem_of_getElem? (i := 14) rfl)) rfl (gk_cons (gm_X2_isHeld_1 _ (List.mem_of_getElem? (i := 15) rfl)) rfl (gk_cons (gm_X2_isHeld_1 _ (List.mem_of_getElem? (i := 16) rfl)) rfl (gk_cons (gm_X2_isHeld_1 _ (List.mem_of_getElem? (i := 17) rfl)) rfl (gk_cons (gm_X2_isHeld_1 _ (List.mem_of_getElem? (i := 18) rfl)) rfl (gk_cons (gm_X2_isHeld_1 _ (List.mem_of_getElem? (i := 19) rfl)) rfl (gk_cons (gm_X2_isHeld_1 _ (List.mem_of_getElem? (i := 20) rfl)) rfl (gk_cons (gm_X2_isHeld_1 _ (List.mem_of_getElem? (i := 21) rfl)) rfl (gk_cons (gm_X2_isHeld_1 _ (List.mem_of_getElem? (i := 22) rfl)) rfl (gk_cons (gm_X2_isHeld_1 _ (List.mem_of_getElem? (i := 23) rfl)) rfl (gk_cons (gm_X2_isHeld_2 _ (List.mem_of_getElem? (i := 0) rfl)) rfl (gk_cons (gm_X2_isHeld_2 _ (List.mem_of_getElem? (i := 1) rfl)) rfl (gk_cons (gm_X2_isHeld_2 _ (List.mem_of_getElem? (i := 2) rfl)) rfl (gk_cons (gm_X2_isHeld_2 _ (List.mem_of_getElem? (i := 3) rfl)) rfl gk_nil))))))))))))))))))))))))
theorem gk_X2_isHeld_X2_findWorst_r3 : GoodIn wsX2_isHeld wsX2_findWorst_r3 := (gk_cons (gm_X2_isHeld_2 _ (List.mem_of_getElem? (i := 4) rfl)) rfl (gk_cons (gm_X2_isHeld_2 _ (List.mem_of_getElem? (i := 5) rfl)) rfl (gk_cons (gm_X2_isHeld_2 _ (List.mem_of_getElem? (i := 6) rfl)) rfl (gk_cons (gm_X2_isHeld_2 _ (List.mem_of_getElem? (i := 7) rfl)) rfl (gk_cons (gm_X2_isHeld_2 _ (List.mem_of_getElem? (i := 8) rfl)) rfl (gk_cons (gm_X2_isHeld_2 _ (List.mem_of_getElem? (i := 9) rfl)) rfl (gk_cons (gm_X2_isHeld_2 _ (List.mem_of_getElem? (i := 10) rfl)) rfl (gk_cons (gm_X2_isHeld_2 _ (List.mem_of_getElem? (i := 11) rfl)) rfl (gk_cons (gm_X2_isHeld_2 _ (List.mem_of_getElem? (i := 12) rfl)) rfl (gk_cons (gm_X2_isHeld_2 _ (List.mem_of_getElem? (i := 13) rfl)) rfl (gk_cons (gm_X2_isHeld_2 _ (List.mem_of_getElem? (i := 14) rfl)) rfl (gk_cons (gm_X2_isHeld_2 _ (List.mem_of_getElem? (i := 15) rfl)) rfl (gk_cons (gm_X2_isHeld_2 _ (List.mem_of_getElem? (i := 16) rfl)) rfl (gk_cons (gm_X2_isHeld_2 _ (List.mem_of_getElem? (i := 17) rfl)) rfl gk_nil))))))))))))))
theorem ggX2_isHeld_X2_findWorst : GoodIn wsX2_isHeld wsX2_findWorst := gk_cons (gm_X2_isHeld_0 _ (List.mem_of_getElem? (i := 6) rfl)) rfl (goodIn_app (goodIn_app (goodIn_app (goodIn_app (goodIn_app (goodIn_app gk_X2_isHeld_X2_findWorst_r1 (goodIn_app gk_X2_isHeld_X2_findWorst_r2 gk_X2_isHeld_X2_findWorst_r3)) (goodIn_sub gm_X2_isHeld_3 ag_wsX20)) (goodIn_sub gm_X2_isHeld_4 ag_wsX70)) (goodIn_sub gm_X2_isHeld_5 ag_wsX50)) (goodIn_sub gm_X2_isHeld_6 ag_wsX90)) (goodIn_sub gm_X2_isHeld_7 ag_wsX60))
theorem gX2_isHeld_X2_findWorst : GoodIn wsX2_isHeld (wsV RX2 137 RX2 yX2_findWorst wsX2_findWorst) := goodIn_app (gk_cons (gm_X2_isHeld_0 _ (List.mem_of_getElem? (i := 2) rfl)) rfl (gk_cons (gm_X2_isHeld_0 _ (List.mem_of_getElem? (i := 3) rfl)) rfl (gk_cons (gm_X2_isHeld_0 _ (List.mem_of_getElem? (i := 4) rfl)) rfl (gk_cons (gm_X2_isHeld_0 _ (List.mem_of_getElem? (i := 5) rfl)) rfl gk_nil)))) ggX2_isHeld_X2_findWorst
theorem ggX2_isHeld_X2_worstLimit : GoodIn wsX2_isHeld wsX2_worstLimit := gk_cons (gm_X2_isHeld_2 _ (List.mem_of_getElem? (i := 21) rfl)) rfl (goodIn_app (gk_cons (gm_X2_isHeld_1 _ (List.mem_of_getElem? (i := 15) rfl)) rfl (gk_cons (gm_X2_isHeld_0 _ (List.mem_of_getElem? (i := 0) rfl)) rfl (gk_cons (gm_X2_isHeld_0 _ (List.mem_of_getElem? (i := 8) rfl)) rfl gk_nil))) (goodIn_sub gm_X2_isHeld_3 ag_wsX20))
theorem gX2_isHeld_X2_worstLimit : GoodIn wsX2_isHeld (wsV RX2 141 RX2 yX2_worstLimit wsX2_worstLimit) := goodIn_app (gk_cons (gm_X2_isHeld_2 _ (List.mem_of_getElem? (i := 18) rfl)) rfl (gk_cons (gm_X2_isHeld_2 _ (List.mem_of_getElem? (i := 19) rfl)) rfl (gk_cons (gm_X2_isHeld_2 _ (List.mem_of_getElem? (i := 20) rfl)) rfl (gk_cons (gm_X2_isHeld_0 _ (List.mem_of_getElem? (i := 5) rfl)) rfl gk_nil)))) ggX2_isHeld_X2_worstLimit
theorem dX2_isHeld_0 : decode cX2_isHeld 0 = .ok (.aload_n 0, 1) := by decide +kernel
theorem dX2_isHeld_1 : decode cX2_isHeld 1 = .ok (.aload_n 1, 1) := by decide +kernel
theorem dX2_isHeld_2 : decode cX2_isHeld 2 = .ok (.iload_n 2, 1) := by decide +kernel
theorem dX2_isHeld_3 : decode cX2_isHeld 3 = .ok (.iload_n 3, 1) := by decide +kernel
theorem dX2_isHeld_4 : decode cX2_isHeld 4 = .ok (.iload 4, 2) := by decide +kernel
theorem dX2_isHeld_6 : decode cX2_isHeld 6 = .ok (.invokevirtual 137, 3) := by decide +kernel
theorem dX2_isHeld_9 : decode cX2_isHeld 9 = .ok (.aload_n 0, 1) := by decide +kernel
theorem dX2_isHeld_10 : decode cX2_isHeld 10 = .ok (.getfield 32, 3) := by decide +kernel
theorem dX2_isHeld_13 : decode cX2_isHeld 13 = .ok (.lconst 0, 1) := by decide +kernel
theorem dX2_isHeld_14 : decode cX2_isHeld 14 = .ok (.lcmp, 1) := by decide +kernel
theorem dX2_isHeld_15 : decode cX2_isHeld 15 = .ok (.ifCond .eq 19, 3) := by decide +kernel
theorem dX2_isHeld_18 : decode cX2_isHeld 18 = .ok (.aload_n 0, 1) := by decide +kernel
theorem dX2_isHeld_19 : decode cX2_isHeld 19 = .ok (.getfield 49, 3) := by decide +kernel
theorem dX2_isHeld_22 : decode cX2_isHeld 22 = .ok (.aload_n 0, 1) := by decide +kernel
theorem dX2_isHeld_23 : decode cX2_isHeld 23 = .ok (.invokevirtual 141, 3) := by decide +kernel
theorem dX2_isHeld_26 : decode cX2_isHeld 26 = .ok (.lcmp, 1) := by decide +kernel
theorem dX2_isHeld_27 : decode cX2_isHeld 27 = .ok (.ifCond .gt 7, 3) := by decide +kernel
theorem dX2_isHeld_30 : decode cX2_isHeld 30 = .ok (.iconst 1, 1) := by decide +kernel
theorem dX2_isHeld_31 : decode cX2_isHeld 31 = .ok (.goto 4, 3) := by decide +kernel
theorem dX2_isHeld_34 : decode cX2_isHeld 34 = .ok (.iconst 0, 1) := by decide +kernel
theorem dX2_isHeld_35 : decode cX2_isHeld 35 = .ok (.ireturn, 1) := by decide +kernel
theorem dX2_worstLimit_0 : decode cX2_worstLimit 0 = .ok (.ldc2_w 101, 3) := by decide +kernel
theorem dX2_worstLimit_3 : decode cX2_worstLimit 3 = .ok (.aload_n 0, 1) := by decide +kernel
theorem dX2_worstLimit_4 : decode cX2_worstLimit 4 = .ok (.getfield 32, 3) := by decide +kernel
theorem dX2_worstLimit_7 : decode cX2_worstLimit 7 = .ok (.lmul, 1) := by decide +kernel
theorem dX2_worstLimit_8 : decode cX2_worstLimit 8 = .ok (.aload_n 0, 1) := by decide +kernel
theorem dX2_worstLimit_9 : decode cX2_worstLimit 9 = .ok (.getfield 52, 3) := by decide +kernel
theorem dX2_worstLimit_12 : decode cX2_worstLimit 12 = .ok (.i2l, 1) := by decide +kernel
theorem dX2_worstLimit_13 : decode cX2_worstLimit 13 = .ok (.lmul, 1) := by decide +kernel
theorem dX2_worstLimit_14 : decode cX2_worstLimit 14 = .ok (.lreturn, 1) := by decide +kernel
theorem gm_X2_findWorst_0 : ∀ w ∈ wsX2_findWorst_r1, w ∈ wsX2_findWorst := fun w h => List.mem_cons_of_mem _ (List.mem_append_left _ (List.mem_append_left _ (List.mem_append_left _ (List.mem_append_left _ (List.mem_append_left _ (List.mem_append_left _ h))))))
theorem gm_X2_findWorst_1 : ∀ w ∈ wsX2_findWorst_r2, w ∈ wsX2_findWorst := fun w h => List.mem_cons_of_mem _ (List.mem_append_left _ (List.mem_append_left _ (List.mem_append_left _ (List.mem_append_left _ (List.mem_append_left _ (List.mem_append_right _ (List.mem_append_left _ h)))))))
theorem gm_X2_findWorst_2 : ∀ w ∈ wsX2_findWorst_r3, w ∈ wsX2_findWorst := fun w h => List.mem_cons_of_mem _ (List.mem_append_left _ (List.mem_append_left _ (List.mem_append_left _ (List.mem_append_left _ (List.mem_append_left _ (List.mem_append_right _ (List.mem_append_right _ h)))))))
theorem gm_X2_findWorst_3 : ∀ w ∈ wsX20, w ∈ wsX2_findWorst := fun w h => List.mem_cons_of_mem _ (List.mem_append_left _ (List.mem_append_left _ (List.mem_append_left _ (List.mem_append_left _ (List.mem_append_right _ h)))))
theorem gm_X2_findWorst_4 : ∀ w ∈ wsX70, w ∈ wsX2_findWorst := fun w h => List.mem_cons_of_mem _ (List.mem_append_left _ (List.mem_append_left _ (List.mem_append_left _ (List.mem_append_right _ h))))
theorem gm_X2_findWorst_5 : ∀ w ∈ wsX50, w ∈ wsX2_findWorst := fun w h => List.mem_cons_of_mem _ (List.mem_append_left _ (List.mem_append_left _ (List.mem_append_right _ h)))
theorem gm_X2_findWorst_6 : ∀ w ∈ wsX90, w ∈ wsX2_findWorst := fun w h => List.mem_cons_of_mem _ (List.mem_append_left _ (List.mem_append_right _ h))
theorem gm_X2_findWorst_7 : ∀ w ∈ wsX60, w ∈ wsX2_findWorst := fun w h => List.mem_cons_of_mem _ (List.mem_append_right _ h)
theorem ggX2_findWorst_X2_pull : GoodIn wsX2_findWorst wsX2_pull := gk_cons (gm_X2_findWorst_0 _ (List.mem_of_getElem? (i := 20) rfl)) rfl (goodIn_app (gk_cons (gm_X2_findWorst_0 _ (List.mem_of_getElem? (i := 21) rfl)) rfl (gk_cons (gm_X2_findWorst_0 _ (List.mem_of_getElem? (i := 22) rfl)) rfl (gk_cons (gm_X2_findWorst_0 _ (List.mem_of_getElem? (i := 23) rfl)) rfl (gk_cons (gm_X2_findWorst_1 _ (List.mem_of_getElem? (i := 0) rfl)) rfl (gk_cons (gm_X2_findWorst_0 _ (List.mem_of_getElem? (i := 19) rfl)) rfl (gk_cons (gm_X2_findWorst_1 _ (List.mem_of_getElem? (i := 1) rfl)) rfl (gk_cons (gm_X2_findWorst_1 _ (List.mem_of_getElem? (i := 2) rfl)) rfl (gk_cons (gm_X2_findWorst_1 _ (List.mem_of_getElem? (i := 3) rfl)) rfl gk_nil)))))))) (goodIn_sub gm_X2_findWorst_3 ag_wsX20))
theorem gX2_findWorst_X2_pull : GoodIn wsX2_findWorst (wsV RX2 145 RX2 yX2_pull wsX2_pull) := goodIn_app (gk_cons (gm_X2_findWorst_0 _ (List.mem_of_getElem? (i := 16) rfl)) rfl (gk_cons (gm_X2_findWorst_0 _ (List.mem_of_getElem? (i := 17) rfl)) rfl (gk_cons (gm_X2_findWorst_0 _ (List.mem_of_getElem? (i := 18) rfl)) rfl (gk_cons (gm_X2_findWorst_0 _ (List.mem_of_getElem? (i := 19) rfl)) rfl gk_nil)))) ggX2_findWorst_X2_pull
theorem gk_X2_findWorst_X2_reckonStress_r1 : GoodIn wsX2_findWorst wsX2_reckonStress_r1 := (gk_cons (gm_X2_findWorst_1 _ (List.mem_of_getElem? (i := 8) rfl)) rfl (gk_cons (gm_X2_findWorst_0 _ (List.mem_of_getElem? (i := 6) rfl)) rfl (gk_cons (gm_X2_findWorst_0 _ (List.mem_of_getElem? (i := 7) rfl)) rfl (gk_cons (gm_X2_findWorst_1 _ (List.mem_of_getElem? (i := 9) rfl)) rfl (gk_cons (gm_X2_findWorst_1 _ (List.mem_of_getElem? (i := 2) rfl)) rfl (gk_cons (gm_X2_findWorst_1 _ (List.mem_of_getElem? (i := 10) rfl)) rfl (gk_cons (gm_X2_findWorst_1 _ (List.mem_of_getElem? (i := 11) rfl)) rfl (gk_cons (gm_X2_findWorst_1 _ (List.mem_of_getElem? (i := 12) rfl)) rfl (gk_cons (gm_X2_findWorst_1 _ (List.mem_of_getElem? (i := 13) rfl)) rfl (gk_cons (gm_X2_findWorst_1 _ (List.mem_of_getElem? (i := 14) rfl)) rfl (gk_cons (gm_X2_findWorst_1 _ (List.mem_of_getElem? (i := 15) rfl)) rfl (gk_cons (gm_X2_findWorst_1 _ (List.mem_of_getElem? (i := 16) rfl)) rfl (gk_cons (gm_X2_findWorst_1 _ (List.mem_of_getElem? (i := 17) rfl)) rfl (gk_cons (gm_X2_findWorst_1 _ (List.mem_of_getElem? (i := 18) rfl)) rfl (gk_cons (gm_X2_findWorst_1 _ (List.mem_of_getElem? (i := 19) rfl)) rfl (gk_cons (gm_X2_findWorst_1 _ (List.mem_of_getElem? (i := 20) rfl)) rfl (gk_cons (gm_X2_findWorst_1 _ (List.mem_of_getElem? (i := 21) rfl)) rfl (gk_cons (gm_X2_findWorst_1 _ (List.mem_of_getElem? (i := 22) rfl)) rfl (gk_cons (gm_X2_findWorst_1 _ (List.mem_of_getElem? (i := 23) rfl)) rfl (gk_cons (gm_X2_findWorst_2 _ (List.mem_of_getElem? (i := 0) rfl)) rfl (gk_cons (gm_X2_findWorst_2 _ (List.mem_of_getElem? (i := 1) rfl)) rfl (gk_cons (gm_X2_findWorst_2 _ (List.mem_of_getElem? (i := 2) rfl)) rfl (gk_cons (gm_X2_findWorst_2 _ (List.mem_of_getElem? (i := 3) rfl)) rfl (gk_cons (gm_X2_findWorst_2 _ (List.mem_of_getElem? (i := 4) rfl)) rfl gk_nil))))))))))))))))))))))))
theorem gk_X2_findWorst_X2_reckonStress_r2 : GoodIn wsX2_findWorst wsX2_reckonStress_r2 := (gk_cons (gm_X2_findWorst_0 _ (List.mem_of_getElem? (i := 19) rfl)) rfl (gk_cons (gm_X2_findWorst_2 _ (List.mem_of_getElem? (i := 5) rfl)) rfl (gk_cons (gm_X2_findWorst_2 _ (List.mem_of_getElem? (i := 6) rfl)) rfl (gk_cons (gm_X2_findWorst_2 _ (List.mem_of_getElem? (i := 7) rfl)) rfl (gk_cons (gm_X2_findWorst_0 _ (List.mem_of_getElem? (i := 9) rfl)) rfl (gk_cons (gm_X2_findWorst_2 _ (List.mem_of_getElem? (i := 8) rfl)) rfl (gk_cons (gm_X2_findWorst_0 _ (List.mem_of_getElem? (i := 14) rfl)) rfl (gk_cons (gm_X2_findWorst_2 _ (List.mem_of_getElem? (i := 9) rfl)) rfl (gk_cons (gm_X2_findWorst_0 _ (List.mem_of_getElem? (i := 15) rfl)) rfl gk_nil)))))))))
theorem ggX2_findWorst_X2_reckonStress : GoodIn wsX2_findWorst wsX2_reckonStress := gk_cons (gm_X2_findWorst_1 _ (List.mem_of_getElem? (i := 7) rfl)) rfl (goodIn_app (goodIn_app (goodIn_app (goodIn_app (goodIn_app gk_X2_findWorst_X2_reckonStress_r1 gk_X2_findWorst_X2_reckonStress_r2) (goodIn_sub gm_X2_findWorst_3 ag_wsX20)) (goodIn_sub gm_X2_findWorst_5 ag_wsX50)) (goodIn_sub gm_X2_findWorst_6 ag_wsX90)) (goodIn_sub gm_X2_findWorst_7 ag_wsX60))
theorem gX2_findWorst_X2_reckonStress : GoodIn wsX2_findWorst (wsV RX2 149 RX2 yX2_reckonStress wsX2_reckonStress) := goodIn_app (gk_cons (gm_X2_findWorst_1 _ (List.mem_of_getElem? (i := 4) rfl)) rfl (gk_cons (gm_X2_findWorst_1 _ (List.mem_of_getElem? (i := 5) rfl)) rfl (gk_cons (gm_X2_findWorst_1 _ (List.mem_of_getElem? (i := 6) rfl)) rfl (gk_cons (gm_X2_findWorst_0 _ (List.mem_of_getElem? (i := 19) rfl)) rfl gk_nil)))) ggX2_findWorst_X2_reckonStress
theorem ggX2_findWorst_X2_offer : GoodIn wsX2_findWorst wsX2_offer := gk_cons (gm_X2_findWorst_2 _ (List.mem_of_getElem? (i := 13) rfl)) rfl (goodIn_app (gk_cons (gm_X2_findWorst_0 _ (List.mem_of_getElem? (i := 2) rfl)) rfl (gk_cons (gm_X2_findWorst_0 _ (List.mem_of_getElem? (i := 1) rfl)) rfl (gk_cons (gm_X2_findWorst_0 _ (List.mem_of_getElem? (i := 0) rfl)) rfl gk_nil))) (goodIn_sub gm_X2_findWorst_3 ag_wsX20))
theorem gX2_findWorst_X2_offer : GoodIn wsX2_findWorst (wsV RX2 161 RX2 yX2_offer wsX2_offer) := goodIn_app (gk_cons (gm_X2_findWorst_2 _ (List.mem_of_getElem? (i := 10) rfl)) rfl (gk_cons (gm_X2_findWorst_2 _ (List.mem_of_getElem? (i := 11) rfl)) rfl (gk_cons (gm_X2_findWorst_2 _ (List.mem_of_getElem? (i := 12) rfl)) rfl (gk_cons (gm_X2_findWorst_0 _ (List.mem_of_getElem? (i := 19) rfl)) rfl gk_nil)))) ggX2_findWorst_X2_offer
theorem dX2_findWorst_0 : decode cX2_findWorst 0 = .ok (.aload_n 0, 1) := by decide +kernel
theorem dX2_findWorst_1 : decode cX2_findWorst 1 = .ok (.iconst (-1), 1) := by decide +kernel
theorem dX2_findWorst_2 : decode cX2_findWorst 2 = .ok (.putfield 45, 3) := by decide +kernel
theorem dX2_findWorst_5 : decode cX2_findWorst 5 = .ok (.aload_n 0, 1) := by decide +kernel
theorem dX2_findWorst_6 : decode cX2_findWorst 6 = .ok (.lconst 0, 1) := by decide +kernel
theorem dX2_findWorst_7 : decode cX2_findWorst 7 = .ok (.putfield 49, 3) := by decide +kernel
theorem dX2_findWorst_10 : decode cX2_findWorst 10 = .ok (.aload_n 0, 1) := by decide +kernel
theorem dX2_findWorst_11 : decode cX2_findWorst 11 = .ok (.iconst 1, 1) := by decide +kernel
theorem dX2_findWorst_12 : decode cX2_findWorst 12 = .ok (.putfield 52, 3) := by decide +kernel
theorem dX2_findWorst_15 : decode cX2_findWorst 15 = .ok (.aload_n 0, 1) := by decide +kernel
theorem dX2_findWorst_16 : decode cX2_findWorst 16 = .ok (.getfield 32, 3) := by decide +kernel
theorem dX2_findWorst_19 : decode cX2_findWorst 19 = .ok (.lconst 0, 1) := by decide +kernel
theorem dX2_findWorst_20 : decode cX2_findWorst 20 = .ok (.lcmp, 1) := by decide +kernel
theorem dX2_findWorst_21 : decode cX2_findWorst 21 = .ok (.ifCond .ne 4, 3) := by decide +kernel
theorem dX2_findWorst_24 : decode cX2_findWorst 24 = .ok (.return_, 1) := by decide +kernel
theorem dX2_findWorst_25 : decode cX2_findWorst 25 = .ok (.aload_n 0, 1) := by decide +kernel
theorem dX2_findWorst_26 : decode cX2_findWorst 26 = .ok (.iload_n 2, 1) := by decide +kernel
theorem dX2_findWorst_27 : decode cX2_findWorst 27 = .ok (.iload_n 3, 1) := by decide +kernel
theorem dX2_findWorst_28 : decode cX2_findWorst 28 = .ok (.iload 4, 2) := by decide +kernel
theorem dX2_findWorst_30 : decode cX2_findWorst 30 = .ok (.invokevirtual 145, 3) := by decide +kernel
theorem dX2_findWorst_33 : decode cX2_findWorst 33 = .ok (.iconst 0, 1) := by decide +kernel
theorem dX2_findWorst_34 : decode cX2_findWorst 34 = .ok (.istore 5, 2) := by decide +kernel
theorem dX2_findWorst_36 : decode cX2_findWorst 36 = .ok (.iload 5, 2) := by decide +kernel
theorem dX2_findWorst_38 : decode cX2_findWorst 38 = .ok (.aload_n 1, 1) := by decide +kernel
theorem dX2_findWorst_39 : decode cX2_findWorst 39 = .ok (.getfield 94, 3) := by decide +kernel
theorem dX2_findWorst_42 : decode cX2_findWorst 42 = .ok (.if_icmp .ge 113, 3) := by decide +kernel
theorem dX2_findWorst_45 : decode cX2_findWorst 45 = .ok (.aload_n 1, 1) := by decide +kernel
theorem dX2_findWorst_46 : decode cX2_findWorst 46 = .ok (.getfield 97, 3) := by decide +kernel
theorem dX2_findWorst_49 : decode cX2_findWorst 49 = .ok (.iload 5, 2) := by decide +kernel
theorem dX2_findWorst_51 : decode cX2_findWorst 51 = .ok (.aaload, 1) := by decide +kernel
theorem dX2_findWorst_52 : decode cX2_findWorst 52 = .ok (.astore 6, 2) := by decide +kernel
theorem dX2_findWorst_54 : decode cX2_findWorst 54 = .ok (.aload_n 0, 1) := by decide +kernel
theorem dX2_findWorst_55 : decode cX2_findWorst 55 = .ok (.aload 6, 2) := by decide +kernel
theorem dX2_findWorst_57 : decode cX2_findWorst 57 = .ok (.invokevirtual 149, 3) := by decide +kernel
theorem dX2_findWorst_60 : decode cX2_findWorst 60 = .ok (.aload_n 0, 1) := by decide +kernel
theorem dX2_findWorst_61 : decode cX2_findWorst 61 = .ok (.getfield 55, 3) := by decide +kernel
theorem dX2_findWorst_64 : decode cX2_findWorst 64 = .ok (.aload 6, 2) := by decide +kernel
theorem dX2_findWorst_66 : decode cX2_findWorst 66 = .ok (.getfield 63, 3) := by decide +kernel
theorem dX2_findWorst_69 : decode cX2_findWorst 69 = .ok (.aaload, 1) := by decide +kernel
theorem dX2_findWorst_70 : decode cX2_findWorst 70 = .ok (.getfield 152, 3) := by decide +kernel
theorem dX2_findWorst_73 : decode cX2_findWorst 73 = .ok (.astore 7, 2) := by decide +kernel
theorem dX2_findWorst_75 : decode cX2_findWorst 75 = .ok (.aload_n 0, 1) := by decide +kernel
theorem dX2_findWorst_76 : decode cX2_findWorst 76 = .ok (.iload 5, 2) := by decide +kernel
theorem dX2_findWorst_78 : decode cX2_findWorst 78 = .ok (.aload_n 0, 1) := by decide +kernel
theorem dX2_findWorst_79 : decode cX2_findWorst 79 = .ok (.getfield 36, 3) := by decide +kernel
theorem dX2_findWorst_82 : decode cX2_findWorst 82 = .ok (.lconst 0, 1) := by decide +kernel
theorem dX2_findWorst_83 : decode cX2_findWorst 83 = .ok (.lcmp, 1) := by decide +kernel
theorem dX2_findWorst_84 : decode cX2_findWorst 84 = .ok (.ifCond .le 7, 3) := by decide +kernel
theorem dX2_findWorst_87 : decode cX2_findWorst 87 = .ok (.iconst 0, 1) := by decide +kernel
theorem dX2_findWorst_88 : decode cX2_findWorst 88 = .ok (.goto 4, 3) := by decide +kernel
theorem dX2_findWorst_91 : decode cX2_findWorst 91 = .ok (.iconst 1, 1) := by decide +kernel
theorem dX2_findWorst_92 : decode cX2_findWorst 92 = .ok (.aload_n 0, 1) := by decide +kernel
theorem dX2_findWorst_93 : decode cX2_findWorst 93 = .ok (.getfield 36, 3) := by decide +kernel
theorem dX2_findWorst_96 : decode cX2_findWorst 96 = .ok (.invokestatic 155, 3) := by decide +kernel
theorem dX2_findWorst_99 : decode cX2_findWorst 99 = .ok (.aload 7, 2) := by decide +kernel
theorem dX2_findWorst_101 : decode cX2_findWorst 101 = .ok (.invokevirtual 161, 3) := by decide +kernel
theorem dX2_findWorst_104 : decode cX2_findWorst 104 = .ok (.aload_n 0, 1) := by decide +kernel
theorem dX2_findWorst_105 : decode cX2_findWorst 105 = .ok (.iload 5, 2) := by decide +kernel
theorem dX2_findWorst_107 : decode cX2_findWorst 107 = .ok (.aload_n 0, 1) := by decide +kernel
theorem dX2_findWorst_108 : decode cX2_findWorst 108 = .ok (.getfield 39, 3) := by decide +kernel
theorem dX2_findWorst_111 : decode cX2_findWorst 111 = .ok (.lconst 0, 1) := by decide +kernel
theorem dX2_findWorst_112 : decode cX2_findWorst 112 = .ok (.lcmp, 1) := by decide +kernel
theorem dX2_findWorst_113 : decode cX2_findWorst 113 = .ok (.ifCond .le 7, 3) := by decide +kernel
theorem dX2_findWorst_116 : decode cX2_findWorst 116 = .ok (.iconst 2, 1) := by decide +kernel
theorem dX2_findWorst_117 : decode cX2_findWorst 117 = .ok (.goto 4, 3) := by decide +kernel
theorem dX2_findWorst_120 : decode cX2_findWorst 120 = .ok (.iconst 3, 1) := by decide +kernel
theorem dX2_findWorst_121 : decode cX2_findWorst 121 = .ok (.aload_n 0, 1) := by decide +kernel
theorem dX2_findWorst_122 : decode cX2_findWorst 122 = .ok (.getfield 39, 3) := by decide +kernel
theorem dX2_findWorst_125 : decode cX2_findWorst 125 = .ok (.invokestatic 155, 3) := by decide +kernel
theorem dX2_findWorst_128 : decode cX2_findWorst 128 = .ok (.aload 7, 2) := by decide +kernel
theorem dX2_findWorst_130 : decode cX2_findWorst 130 = .ok (.invokevirtual 161, 3) := by decide +kernel
theorem dX2_findWorst_133 : decode cX2_findWorst 133 = .ok (.aload_n 0, 1) := by decide +kernel
theorem dX2_findWorst_134 : decode cX2_findWorst 134 = .ok (.iload 5, 2) := by decide +kernel
theorem dX2_findWorst_136 : decode cX2_findWorst 136 = .ok (.iconst 4, 1) := by decide +kernel
theorem dX2_findWorst_137 : decode cX2_findWorst 137 = .ok (.aload_n 0, 1) := by decide +kernel
theorem dX2_findWorst_138 : decode cX2_findWorst 138 = .ok (.getfield 42, 3) := by decide +kernel
theorem dX2_findWorst_141 : decode cX2_findWorst 141 = .ok (.invokestatic 155, 3) := by decide +kernel
theorem dX2_findWorst_144 : decode cX2_findWorst 144 = .ok (.aload 7, 2) := by decide +kernel
theorem dX2_findWorst_146 : decode cX2_findWorst 146 = .ok (.invokevirtual 161, 3) := by decide +kernel
theorem dX2_findWorst_149 : decode cX2_findWorst 149 = .ok (.iinc 5 1, 3) := by decide +kernel
theorem dX2_findWorst_152 : decode cX2_findWorst 152 = .ok (.goto (-116), 3) := by decide +kernel
theorem dX2_findWorst_155 : decode cX2_findWorst 155 = .ok (.return_, 1) := by decide +kernel
theorem dX2_offer_0 : decode cX2_offer 0 = .ok (.aload 5, 2) := by decide +kernel
theorem dX2_offer_2 : decode cX2_offer 2 = .ok (.iload_n 2, 1) := by decide +kernel
theorem dX2_offer_3 : decode cX2_offer 3 = .ok (.iaload, 1) := by decide +kernel
theorem dX2_offer_4 : decode cX2_offer 4 = .ok (.istore 6, 2) := by decide +kernel
theorem dX2_offer_6 : decode cX2_offer 6 = .ok (.lload_n 3, 1) := by decide +kernel
theorem dX2_offer_7 : decode cX2_offer 7 = .ok (.aload_n 0, 1) := by decide +kernel
theorem dX2_offer_8 : decode cX2_offer 8 = .ok (.getfield 52, 3) := by decide +kernel
theorem dX2_offer_11 : decode cX2_offer 11 = .ok (.i2l, 1) := by decide +kernel
theorem dX2_offer_12 : decode cX2_offer 12 = .ok (.lmul, 1) := by decide +kernel
theorem dX2_offer_13 : decode cX2_offer 13 = .ok (.aload_n 0, 1) := by decide +kernel
theorem dX2_offer_14 : decode cX2_offer 14 = .ok (.getfield 49, 3) := by decide +kernel
theorem dX2_offer_17 : decode cX2_offer 17 = .ok (.iload 6, 2) := by decide +kernel
theorem dX2_offer_19 : decode cX2_offer 19 = .ok (.i2l, 1) := by decide +kernel
theorem dX2_offer_20 : decode cX2_offer 20 = .ok (.lmul, 1) := by decide +kernel
theorem dX2_offer_21 : decode cX2_offer 21 = .ok (.lcmp, 1) := by decide +kernel
theorem dX2_offer_22 : decode cX2_offer 22 = .ok (.ifCond .le 24, 3) := by decide +kernel
theorem dX2_offer_25 : decode cX2_offer 25 = .ok (.aload_n 0, 1) := by decide +kernel
theorem dX2_offer_26 : decode cX2_offer 26 = .ok (.bipush 10, 2) := by decide +kernel
theorem dX2_offer_28 : decode cX2_offer 28 = .ok (.iload_n 1, 1) := by decide +kernel
theorem dX2_offer_29 : decode cX2_offer 29 = .ok (.imul, 1) := by decide +kernel
theorem dX2_offer_30 : decode cX2_offer 30 = .ok (.iload_n 2, 1) := by decide +kernel
theorem dX2_offer_31 : decode cX2_offer 31 = .ok (.iadd, 1) := by decide +kernel
theorem dX2_offer_32 : decode cX2_offer 32 = .ok (.putfield 45, 3) := by decide +kernel
theorem dX2_offer_35 : decode cX2_offer 35 = .ok (.aload_n 0, 1) := by decide +kernel
theorem dX2_offer_36 : decode cX2_offer 36 = .ok (.lload_n 3, 1) := by decide +kernel
theorem dX2_offer_37 : decode cX2_offer 37 = .ok (.putfield 49, 3) := by decide +kernel
theorem dX2_offer_40 : decode cX2_offer 40 = .ok (.aload_n 0, 1) := by decide +kernel
theorem dX2_offer_41 : decode cX2_offer 41 = .ok (.iload 6, 2) := by decide +kernel
theorem dX2_offer_43 : decode cX2_offer 43 = .ok (.putfield 52, 3) := by decide +kernel
theorem dX2_offer_46 : decode cX2_offer 46 = .ok (.return_, 1) := by decide +kernel
theorem gm_X2_reckonStress_0 : ∀ w ∈ wsX2_reckonStress_r1, w ∈ wsX2_reckonStress := fun w h => List.mem_cons_of_mem _ (List.mem_append_left _ (List.mem_append_left _ (List.mem_append_left _ (List.mem_append_left _ (List.mem_append_left _ h)))))
theorem gm_X2_reckonStress_1 : ∀ w ∈ wsX2_reckonStress_r2, w ∈ wsX2_reckonStress := fun w h => List.mem_cons_of_mem _ (List.mem_append_left _ (List.mem_append_left _ (List.mem_append_left _ (List.mem_append_left _ (List.mem_append_right _ h)))))
theorem gm_X2_reckonStress_2 : ∀ w ∈ wsX20, w ∈ wsX2_reckonStress := fun w h => List.mem_cons_of_mem _ (List.mem_append_left _ (List.mem_append_left _ (List.mem_append_left _ (List.mem_append_right _ h))))
theorem gm_X2_reckonStress_3 : ∀ w ∈ wsX50, w ∈ wsX2_reckonStress := fun w h => List.mem_cons_of_mem _ (List.mem_append_left _ (List.mem_append_left _ (List.mem_append_right _ h)))
theorem gm_X2_reckonStress_4 : ∀ w ∈ wsX90, w ∈ wsX2_reckonStress := fun w h => List.mem_cons_of_mem _ (List.mem_append_left _ (List.mem_append_right _ h))
theorem gm_X2_reckonStress_5 : ∀ w ∈ wsX60, w ∈ wsX2_reckonStress := fun w h => List.mem_cons_of_mem _ (List.mem_append_right _ h)
theorem ggX2_reckonStress_X6_become : GoodIn wsX2_reckonStress wsX6_become := gk_cons (gm_X2_reckonStress_0 _ (List.mem_of_getElem? (i := 12) rfl)) rfl (goodIn_app (goodIn_app (gk_cons (gm_X2_reckonStress_0 _ (List.mem_of_getElem? (i := 13) rfl)) rfl (gk_cons (gm_X2_reckonStress_0 _ (List.mem_of_getElem? (i := 14) rfl)) rfl (gk_cons (gm_X2_reckonStress_0 _ (List.mem_of_getElem? (i := 15) rfl)) rfl (gk_cons (gm_X2_reckonStress_0 _ (List.mem_of_getElem? (i := 16) rfl)) rfl (gk_cons (gm_X2_reckonStress_0 _ (List.mem_of_getElem? (i := 17) rfl)) rfl (gk_cons (gm_X2_reckonStress_0 _ (List.mem_of_getElem? (i := 18) rfl)) rfl (gk_cons (gm_X2_reckonStress_0 _ (List.mem_of_getElem? (i := 19) rfl)) rfl (gk_cons (gm_X2_reckonStress_0 _ (List.mem_of_getElem? (i := 20) rfl)) rfl gk_nil)))))))) (goodIn_sub gm_X2_reckonStress_4 ag_wsX90)) (goodIn_sub gm_X2_reckonStress_5 ag_wsX60))
theorem gX2_reckonStress_X6_become : GoodIn wsX2_reckonStress (wsV RX2 71 RX6 yX6_become wsX6_become) := goodIn_app (gk_cons (gm_X2_reckonStress_0 _ (List.mem_of_getElem? (i := 8) rfl)) rfl (gk_cons (gm_X2_reckonStress_0 _ (List.mem_of_getElem? (i := 9) rfl)) rfl (gk_cons (gm_X2_reckonStress_0 _ (List.mem_of_getElem? (i := 10) rfl)) rfl (gk_cons (gm_X2_reckonStress_0 _ (List.mem_of_getElem? (i := 11) rfl)) rfl gk_nil)))) ggX2_reckonStress_X6_become
theorem ggX2_reckonStress_X2_stressBy : GoodIn wsX2_reckonStress wsX2_stressBy := gk_cons (gm_X2_reckonStress_1 _ (List.mem_of_getElem? (i := 1) rfl)) rfl (goodIn_app (goodIn_app (gk_cons (gm_X2_reckonStress_0 _ (List.mem_of_getElem? (i := 0) rfl)) rfl (gk_cons (gm_X2_reckonStress_1 _ (List.mem_of_getElem? (i := 2) rfl)) rfl (gk_cons (gm_X2_reckonStress_1 _ (List.mem_of_getElem? (i := 3) rfl)) rfl (gk_cons (gm_X2_reckonStress_1 _ (List.mem_of_getElem? (i := 4) rfl)) rfl (gk_cons (gm_X2_reckonStress_1 _ (List.mem_of_getElem? (i := 5) rfl)) rfl (gk_cons (gm_X2_reckonStress_1 _ (List.mem_of_getElem? (i := 6) rfl)) rfl (gk_cons (gm_X2_reckonStress_1 _ (List.mem_of_getElem? (i := 7) rfl)) rfl (gk_cons (gm_X2_reckonStress_1 _ (List.mem_of_getElem? (i := 8) rfl)) rfl gk_nil)))))))) (goodIn_sub gm_X2_reckonStress_2 ag_wsX20)) (goodIn_sub gm_X2_reckonStress_5 ag_wsX60))
theorem gX2_reckonStress_X2_stressBy : GoodIn wsX2_reckonStress (wsV RX2 165 RX2 yX2_stressBy wsX2_stressBy) := goodIn_app (gk_cons (gm_X2_reckonStress_0 _ (List.mem_of_getElem? (i := 21) rfl)) rfl (gk_cons (gm_X2_reckonStress_0 _ (List.mem_of_getElem? (i := 22) rfl)) rfl (gk_cons (gm_X2_reckonStress_0 _ (List.mem_of_getElem? (i := 23) rfl)) rfl (gk_cons (gm_X2_reckonStress_1 _ (List.mem_of_getElem? (i := 0) rfl)) rfl gk_nil)))) ggX2_reckonStress_X2_stressBy
theorem dX2_reckonStress_0 : decode cX2_reckonStress 0 = .ok (.aload_n 0, 1) := by decide +kernel
theorem dX2_reckonStress_1 : decode cX2_reckonStress 1 = .ok (.getfield 12, 3) := by decide +kernel
theorem dX2_reckonStress_4 : decode cX2_reckonStress 4 = .ok (.aload_n 0, 1) := by decide +kernel
theorem dX2_reckonStress_5 : decode cX2_reckonStress 5 = .ok (.getfield 55, 3) := by decide +kernel
theorem dX2_reckonStress_8 : decode cX2_reckonStress 8 = .ok (.aload_n 1, 1) := by decide +kernel
theorem dX2_reckonStress_9 : decode cX2_reckonStress 9 = .ok (.getfield 63, 3) := by decide +kernel
theorem dX2_reckonStress_12 : decode cX2_reckonStress 12 = .ok (.aaload, 1) := by decide +kernel
theorem dX2_reckonStress_13 : decode cX2_reckonStress 13 = .ok (.aload_n 1, 1) := by decide +kernel
theorem dX2_reckonStress_14 : decode cX2_reckonStress 14 = .ok (.getfield 68, 3) := by decide +kernel
theorem dX2_reckonStress_17 : decode cX2_reckonStress 17 = .ok (.invokevirtual 71, 3) := by decide +kernel
theorem dX2_reckonStress_20 : decode cX2_reckonStress 20 = .ok (.aload_n 0, 1) := by decide +kernel
theorem dX2_reckonStress_21 : decode cX2_reckonStress 21 = .ok (.getfield 29, 3) := by decide +kernel
theorem dX2_reckonStress_24 : decode cX2_reckonStress 24 = .ok (.iconst 0, 1) := by decide +kernel
theorem dX2_reckonStress_25 : decode cX2_reckonStress 25 = .ok (.laload, 1) := by decide +kernel
theorem dX2_reckonStress_26 : decode cX2_reckonStress 26 = .ok (.lstore_n 2, 1) := by decide +kernel
theorem dX2_reckonStress_27 : decode cX2_reckonStress 27 = .ok (.aload_n 0, 1) := by decide +kernel
theorem dX2_reckonStress_28 : decode cX2_reckonStress 28 = .ok (.getfield 29, 3) := by decide +kernel
theorem dX2_reckonStress_31 : decode cX2_reckonStress 31 = .ok (.iconst 1, 1) := by decide +kernel
theorem dX2_reckonStress_32 : decode cX2_reckonStress 32 = .ok (.laload, 1) := by decide +kernel
theorem dX2_reckonStress_33 : decode cX2_reckonStress 33 = .ok (.lstore 4, 2) := by decide +kernel
theorem dX2_reckonStress_35 : decode cX2_reckonStress 35 = .ok (.aload_n 0, 1) := by decide +kernel
theorem dX2_reckonStress_36 : decode cX2_reckonStress 36 = .ok (.getfield 29, 3) := by decide +kernel
theorem dX2_reckonStress_39 : decode cX2_reckonStress 39 = .ok (.iconst 2, 1) := by decide +kernel
theorem dX2_reckonStress_40 : decode cX2_reckonStress 40 = .ok (.laload, 1) := by decide +kernel
theorem dX2_reckonStress_41 : decode cX2_reckonStress 41 = .ok (.lstore 6, 2) := by decide +kernel
theorem dX2_reckonStress_43 : decode cX2_reckonStress 43 = .ok (.aload_n 1, 1) := by decide +kernel
theorem dX2_reckonStress_44 : decode cX2_reckonStress 44 = .ok (.getfield 75, 3) := by decide +kernel
theorem dX2_reckonStress_47 : decode cX2_reckonStress 47 = .ok (.tableswitch 106 0 2 #[25, 49, 73], 25) := by decide +kernel
theorem dX2_reckonStress_72 : decode cX2_reckonStress 72 = .ok (.aload_n 0, 1) := by decide +kernel
theorem dX2_reckonStress_73 : decode cX2_reckonStress 73 = .ok (.ldc2_w 101, 3) := by decide +kernel
theorem dX2_reckonStress_76 : decode cX2_reckonStress 76 = .ok (.lload_n 2, 1) := by decide +kernel
theorem dX2_reckonStress_77 : decode cX2_reckonStress 77 = .ok (.lmul, 1) := by decide +kernel
theorem dX2_reckonStress_78 : decode cX2_reckonStress 78 = .ok (.ldc2_w 101, 3) := by decide +kernel
theorem dX2_reckonStress_81 : decode cX2_reckonStress 81 = .ok (.lload 4, 2) := by decide +kernel
theorem dX2_reckonStress_83 : decode cX2_reckonStress 83 = .ok (.lmul, 1) := by decide +kernel
theorem dX2_reckonStress_84 : decode cX2_reckonStress 84 = .ok (.ldc2_w 101, 3) := by decide +kernel
theorem dX2_reckonStress_87 : decode cX2_reckonStress 87 = .ok (.lload 6, 2) := by decide +kernel
theorem dX2_reckonStress_89 : decode cX2_reckonStress 89 = .ok (.lmul, 1) := by decide +kernel
theorem dX2_reckonStress_90 : decode cX2_reckonStress 90 = .ok (.invokevirtual 165, 3) := by decide +kernel
theorem dX2_reckonStress_93 : decode cX2_reckonStress 93 = .ok (.goto 90, 3) := by decide +kernel
theorem dX2_reckonStress_96 : decode cX2_reckonStress 96 = .ok (.aload_n 0, 1) := by decide +kernel
theorem dX2_reckonStress_97 : decode cX2_reckonStress 97 = .ok (.ldc2_w 101, 3) := by decide +kernel
theorem dX2_reckonStress_100 : decode cX2_reckonStress 100 = .ok (.lload 4, 2) := by decide +kernel
theorem dX2_reckonStress_102 : decode cX2_reckonStress 102 = .ok (.lmul, 1) := by decide +kernel
theorem dX2_reckonStress_103 : decode cX2_reckonStress 103 = .ok (.ldc2_w 101, 3) := by decide +kernel
theorem dX2_reckonStress_106 : decode cX2_reckonStress 106 = .ok (.lload_n 2, 1) := by decide +kernel
theorem dX2_reckonStress_107 : decode cX2_reckonStress 107 = .ok (.lmul, 1) := by decide +kernel
theorem dX2_reckonStress_108 : decode cX2_reckonStress 108 = .ok (.ldc2_w 168, 3) := by decide +kernel
theorem dX2_reckonStress_111 : decode cX2_reckonStress 111 = .ok (.lload 6, 2) := by decide +kernel
theorem dX2_reckonStress_113 : decode cX2_reckonStress 113 = .ok (.lmul, 1) := by decide +kernel
theorem dX2_reckonStress_114 : decode cX2_reckonStress 114 = .ok (.invokevirtual 165, 3) := by decide +kernel
theorem dX2_reckonStress_117 : decode cX2_reckonStress 117 = .ok (.goto 66, 3) := by decide +kernel
theorem dX2_reckonStress_120 : decode cX2_reckonStress 120 = .ok (.aload_n 0, 1) := by decide +kernel
theorem dX2_reckonStress_121 : decode cX2_reckonStress 121 = .ok (.lload_n 2, 1) := by decide +kernel
theorem dX2_reckonStress_122 : decode cX2_reckonStress 122 = .ok (.lload 4, 2) := by decide +kernel
theorem dX2_reckonStress_124 : decode cX2_reckonStress 124 = .ok (.ladd, 1) := by decide +kernel
theorem dX2_reckonStress_125 : decode cX2_reckonStress 125 = .ok (.lload 6, 2) := by decide +kernel
theorem dX2_reckonStress_127 : decode cX2_reckonStress 127 = .ok (.ladd, 1) := by decide +kernel
theorem dX2_reckonStress_128 : decode cX2_reckonStress 128 = .ok (.lload_n 2, 1) := by decide +kernel
theorem dX2_reckonStress_129 : decode cX2_reckonStress 129 = .ok (.lload 4, 2) := by decide +kernel
theorem dX2_reckonStress_131 : decode cX2_reckonStress 131 = .ok (.ladd, 1) := by decide +kernel
theorem dX2_reckonStress_132 : decode cX2_reckonStress 132 = .ok (.lload 6, 2) := by decide +kernel
theorem dX2_reckonStress_134 : decode cX2_reckonStress 134 = .ok (.lsub, 1) := by decide +kernel
theorem dX2_reckonStress_135 : decode cX2_reckonStress 135 = .ok (.ldc2_w 101, 3) := by decide +kernel
theorem dX2_reckonStress_138 : decode cX2_reckonStress 138 = .ok (.lload 4, 2) := by decide +kernel
theorem dX2_reckonStress_140 : decode cX2_reckonStress 140 = .ok (.lmul, 1) := by decide +kernel
theorem dX2_reckonStress_141 : decode cX2_reckonStress 141 = .ok (.ldc2_w 101, 3) := by decide +kernel
theorem dX2_reckonStress_144 : decode cX2_reckonStress 144 = .ok (.lload_n 2, 1) := by decide +kernel
theorem dX2_reckonStress_145 : decode cX2_reckonStress 145 = .ok (.lmul, 1) := by decide +kernel
theorem dX2_reckonStress_146 : decode cX2_reckonStress 146 = .ok (.lsub, 1) := by decide +kernel
theorem dX2_reckonStress_147 : decode cX2_reckonStress 147 = .ok (.invokevirtual 165, 3) := by decide +kernel
theorem dX2_reckonStress_150 : decode cX2_reckonStress 150 = .ok (.goto 33, 3) := by decide +kernel
theorem dX2_reckonStress_153 : decode cX2_reckonStress 153 = .ok (.aload_n 0, 1) := by decide +kernel
theorem dX2_reckonStress_154 : decode cX2_reckonStress 154 = .ok (.lload_n 2, 1) := by decide +kernel
theorem dX2_reckonStress_155 : decode cX2_reckonStress 155 = .ok (.lload 4, 2) := by decide +kernel
theorem dX2_reckonStress_157 : decode cX2_reckonStress 157 = .ok (.ladd, 1) := by decide +kernel
theorem dX2_reckonStress_158 : decode cX2_reckonStress 158 = .ok (.lload 6, 2) := by decide +kernel
theorem dX2_reckonStress_160 : decode cX2_reckonStress 160 = .ok (.lsub, 1) := by decide +kernel
theorem dX2_reckonStress_161 : decode cX2_reckonStress 161 = .ok (.lload_n 2, 1) := by decide +kernel
theorem dX2_reckonStress_162 : decode cX2_reckonStress 162 = .ok (.lload 4, 2) := by decide +kernel
theorem dX2_reckonStress_164 : decode cX2_reckonStress 164 = .ok (.ladd, 1) := by decide +kernel
theorem dX2_reckonStress_165 : decode cX2_reckonStress 165 = .ok (.lload 6, 2) := by decide +kernel
theorem dX2_reckonStress_167 : decode cX2_reckonStress 167 = .ok (.ladd, 1) := by decide +kernel
theorem dX2_reckonStress_168 : decode cX2_reckonStress 168 = .ok (.ldc2_w 101, 3) := by decide +kernel
theorem dX2_reckonStress_171 : decode cX2_reckonStress 171 = .ok (.lload_n 2, 1) := by decide +kernel
theorem dX2_reckonStress_172 : decode cX2_reckonStress 172 = .ok (.lmul, 1) := by decide +kernel
theorem dX2_reckonStress_173 : decode cX2_reckonStress 173 = .ok (.ldc2_w 101, 3) := by decide +kernel
theorem dX2_reckonStress_176 : decode cX2_reckonStress 176 = .ok (.lload 4, 2) := by decide +kernel
theorem dX2_reckonStress_178 : decode cX2_reckonStress 178 = .ok (.lmul, 1) := by decide +kernel
theorem dX2_reckonStress_179 : decode cX2_reckonStress 179 = .ok (.lsub, 1) := by decide +kernel
theorem dX2_reckonStress_180 : decode cX2_reckonStress 180 = .ok (.invokevirtual 165, 3) := by decide +kernel
theorem dX2_reckonStress_183 : decode cX2_reckonStress 183 = .ok (.return_, 1) := by decide +kernel
theorem dX2_stressBy_0 : decode cX2_stressBy 0 = .ok (.aload_n 0, 1) := by decide +kernel
theorem dX2_stressBy_1 : decode cX2_stressBy 1 = .ok (.aload_n 0, 1) := by decide +kernel
theorem dX2_stressBy_2 : decode cX2_stressBy 2 = .ok (.getfield 12, 3) := by decide +kernel
theorem dX2_stressBy_5 : decode cX2_stressBy 5 = .ok (.getfield 120, 3) := by decide +kernel
theorem dX2_stressBy_8 : decode cX2_stressBy 8 = .ok (.i2l, 1) := by decide +kernel
theorem dX2_stressBy_9 : decode cX2_stressBy 9 = .ok (.lload_n 1, 1) := by decide +kernel
theorem dX2_stressBy_10 : decode cX2_stressBy 10 = .ok (.lmul, 1) := by decide +kernel
theorem dX2_stressBy_11 : decode cX2_stressBy 11 = .ok (.aload_n 0, 1) := by decide +kernel
theorem dX2_stressBy_12 : decode cX2_stressBy 12 = .ok (.getfield 12, 3) := by decide +kernel
theorem dX2_stressBy_15 : decode cX2_stressBy 15 = .ok (.getfield 128, 3) := by decide +kernel
theorem dX2_stressBy_18 : decode cX2_stressBy 18 = .ok (.i2l, 1) := by decide +kernel
theorem dX2_stressBy_19 : decode cX2_stressBy 19 = .ok (.lload_n 3, 1) := by decide +kernel
theorem dX2_stressBy_20 : decode cX2_stressBy 20 = .ok (.lmul, 1) := by decide +kernel
theorem dX2_stressBy_21 : decode cX2_stressBy 21 = .ok (.ladd, 1) := by decide +kernel
theorem dX2_stressBy_22 : decode cX2_stressBy 22 = .ok (.putfield 36, 3) := by decide +kernel
theorem dX2_stressBy_25 : decode cX2_stressBy 25 = .ok (.aload_n 0, 1) := by decide +kernel
theorem dX2_stressBy_26 : decode cX2_stressBy 26 = .ok (.aload_n 0, 1) := by decide +kernel
theorem dX2_stressBy_27 : decode cX2_stressBy 27 = .ok (.getfield 12, 3) := by decide +kernel
theorem dX2_stressBy_30 : decode cX2_stressBy 30 = .ok (.getfield 128, 3) := by decide +kernel
theorem dX2_stressBy_33 : decode cX2_stressBy 33 = .ok (.i2l, 1) := by decide +kernel
theorem dX2_stressBy_34 : decode cX2_stressBy 34 = .ok (.lload_n 1, 1) := by decide +kernel
theorem dX2_stressBy_35 : decode cX2_stressBy 35 = .ok (.lmul, 1) := by decide +kernel
theorem dX2_stressBy_36 : decode cX2_stressBy 36 = .ok (.aload_n 0, 1) := by decide +kernel
theorem dX2_stressBy_37 : decode cX2_stressBy 37 = .ok (.getfield 12, 3) := by decide +kernel
theorem dX2_stressBy_40 : decode cX2_stressBy 40 = .ok (.getfield 134, 3) := by decide +kernel
theorem dX2_stressBy_43 : decode cX2_stressBy 43 = .ok (.i2l, 1) := by decide +kernel
theorem dX2_stressBy_44 : decode cX2_stressBy 44 = .ok (.lload_n 3, 1) := by decide +kernel
theorem dX2_stressBy_45 : decode cX2_stressBy 45 = .ok (.lmul, 1) := by decide +kernel
theorem dX2_stressBy_46 : decode cX2_stressBy 46 = .ok (.ladd, 1) := by decide +kernel
theorem dX2_stressBy_47 : decode cX2_stressBy 47 = .ok (.putfield 39, 3) := by decide +kernel
theorem dX2_stressBy_50 : decode cX2_stressBy 50 = .ok (.aload_n 0, 1) := by decide +kernel
theorem dX2_stressBy_51 : decode cX2_stressBy 51 = .ok (.aload_n 0, 1) := by decide +kernel
theorem dX2_stressBy_52 : decode cX2_stressBy 52 = .ok (.getfield 12, 3) := by decide +kernel
theorem dX2_stressBy_55 : decode cX2_stressBy 55 = .ok (.getfield 170, 3) := by decide +kernel
theorem dX2_stressBy_58 : decode cX2_stressBy 58 = .ok (.i2l, 1) := by decide +kernel
theorem dX2_stressBy_59 : decode cX2_stressBy 59 = .ok (.lload 5, 2) := by decide +kernel
theorem dX2_stressBy_61 : decode cX2_stressBy 61 = .ok (.lmul, 1) := by decide +kernel
theorem dX2_stressBy_62 : decode cX2_stressBy 62 = .ok (.putfield 42, 3) := by decide +kernel
theorem dX2_stressBy_65 : decode cX2_stressBy 65 = .ok (.return_, 1) := by decide +kernel
theorem dX3_init_0 : decode cX3_init 0 = .ok (.aload_n 0, 1) := by decide +kernel
theorem dX3_init_1 : decode cX3_init 1 = .ok (.invokespecial 3, 3) := by decide +kernel
theorem dX3_init_4 : decode cX3_init 4 = .ok (.aload_n 0, 1) := by decide +kernel
theorem dX3_init_5 : decode cX3_init 5 = .ok (.lconst 0, 1) := by decide +kernel
theorem dX3_init_6 : decode cX3_init 6 = .ok (.putfield 9, 3) := by decide +kernel
theorem dX3_init_9 : decode cX3_init 9 = .ok (.aload_n 0, 1) := by decide +kernel
theorem dX3_init_10 : decode cX3_init 10 = .ok (.lconst 1, 1) := by decide +kernel
theorem dX3_init_11 : decode cX3_init 11 = .ok (.putfield 15, 3) := by decide +kernel
theorem dX3_init_14 : decode cX3_init 14 = .ok (.return_, 1) := by decide +kernel
theorem gm_X3_become_0 : ∀ w ∈ wsX30, w ∈ wsX3_become := fun w h => List.mem_cons_of_mem _ (List.mem_append_right _ h)
theorem ggX3_become_X3_commonDivisor : GoodIn wsX3_become wsX3_commonDivisor := gk_cons (List.mem_cons_of_mem _ (List.mem_append_left _ (List.mem_of_getElem? (i := 9) rfl))) rfl gk_nil
theorem gX3_become_X3_commonDivisor : GoodIn wsX3_become (va_wsS RX3 24 yX3_commonDivisor wsX3_commonDivisor) := goodIn_app (gk_cons (List.mem_cons_of_mem _ (List.mem_append_left _ (List.mem_of_getElem? (i := 6) rfl))) rfl (gk_cons (List.mem_cons_of_mem _ (List.mem_append_left _ (List.mem_of_getElem? (i := 7) rfl))) rfl (gk_cons (List.mem_cons_of_mem _ (List.mem_append_left _ (List.mem_of_getElem? (i := 8) rfl))) rfl gk_nil))) ggX3_become_X3_commonDivisor
theorem dX3_become_0 : decode cX3_become 0 = .ok (.lload_n 1, 1) := by decide +kernel
theorem dX3_become_1 : decode cX3_become 1 = .ok (.invokestatic 18, 3) := by decide +kernel
theorem dX3_become_4 : decode cX3_become 4 = .ok (.lload_n 3, 1) := by decide +kernel
theorem dX3_become_5 : decode cX3_become 5 = .ok (.invokestatic 18, 3) := by decide +kernel
theorem dX3_become_8 : decode cX3_become 8 = .ok (.invokestatic 24, 3) := by decide +kernel
theorem dX3_become_11 : decode cX3_become 11 = .ok (.lstore 5, 2) := by decide +kernel
theorem dX3_become_13 : decode cX3_become 13 = .ok (.lload 5, 2) := by decide +kernel
theorem dX3_become_15 : decode cX3_become 15 = .ok (.lconst 0, 1) := by decide +kernel
theorem dX3_become_16 : decode cX3_become 16 = .ok (.lcmp, 1) := by decide +kernel
theorem dX3_become_17 : decode cX3_become 17 = .ok (.ifCond .ne 4, 3) := by decide +kernel
theorem dX3_become_20 : decode cX3_become 20 = .ok (.return_, 1) := by decide +kernel
theorem dX3_become_21 : decode cX3_become 21 = .ok (.lload_n 3, 1) := by decide +kernel
theorem dX3_become_22 : decode cX3_become 22 = .ok (.lconst 0, 1) := by decide +kernel
theorem dX3_become_23 : decode cX3_become 23 = .ok (.lcmp, 1) := by decide +kernel
theorem dX3_become_24 : decode cX3_become 24 = .ok (.ifCond .ge 9, 3) := by decide +kernel
theorem dX3_become_27 : decode cX3_become 27 = .ok (.lload 5, 2) := by decide +kernel
theorem dX3_become_29 : decode cX3_become 29 = .ok (.lneg, 1) := by decide +kernel
theorem dX3_become_30 : decode cX3_become 30 = .ok (.goto 5, 3) := by decide +kernel
theorem dX3_become_33 : decode cX3_become 33 = .ok (.lload 5, 2) := by decide +kernel
theorem dX3_become_35 : decode cX3_become 35 = .ok (.lstore 7, 2) := by decide +kernel
theorem dX3_become_37 : decode cX3_become 37 = .ok (.aload_n 0, 1) := by decide +kernel
theorem dX3_become_38 : decode cX3_become 38 = .ok (.lload_n 1, 1) := by decide +kernel
theorem dX3_become_39 : decode cX3_become 39 = .ok (.lload 7, 2) := by decide +kernel
theorem dX3_become_41 : decode cX3_become 41 = .ok (.ldiv, 1) := by decide +kernel
theorem dX3_become_42 : decode cX3_become 42 = .ok (.putfield 9, 3) := by decide +kernel
theorem dX3_become_45 : decode cX3_become 45 = .ok (.aload_n 0, 1) := by decide +kernel
theorem dX3_become_46 : decode cX3_become 46 = .ok (.lload_n 3, 1) := by decide +kernel
theorem dX3_become_47 : decode cX3_become 47 = .ok (.lload 7, 2) := by decide +kernel
theorem dX3_become_49 : decode cX3_become 49 = .ok (.ldiv, 1) := by decide +kernel
theorem dX3_become_50 : decode cX3_become 50 = .ok (.putfield 15, 3) := by decide +kernel
theorem dX3_become_53 : decode cX3_become 53 = .ok (.return_, 1) := by decide +kernel
theorem dX3_partOf_0 : decode cX3_partOf 0 = .ok (.iload_n 1, 1) := by decide +kernel
theorem dX3_partOf_1 : decode cX3_partOf 1 = .ok (.ifCond .ne 8, 3) := by decide +kernel
theorem dX3_partOf_4 : decode cX3_partOf 4 = .ok (.aload_n 0, 1) := by decide +kernel
theorem dX3_partOf_5 : decode cX3_partOf 5 = .ok (.getfield 9, 3) := by decide +kernel
theorem dX3_partOf_8 : decode cX3_partOf 8 = .ok (.lreturn, 1) := by decide +kernel
theorem dX3_partOf_9 : decode cX3_partOf 9 = .ok (.iload_n 1, 1) := by decide +kernel
theorem dX3_partOf_10 : decode cX3_partOf 10 = .ok (.iconst 1, 1) := by decide +kernel
theorem dX3_partOf_11 : decode cX3_partOf 11 = .ok (.if_icmp .ne 10, 3) := by decide +kernel
theorem dX3_partOf_14 : decode cX3_partOf 14 = .ok (.aload_n 0, 1) := by decide +kernel
theorem dX3_partOf_15 : decode cX3_partOf 15 = .ok (.getfield 15, 3) := by decide +kernel
theorem dX3_partOf_18 : decode cX3_partOf 18 = .ok (.goto 6, 3) := by decide +kernel
theorem dX3_partOf_21 : decode cX3_partOf 21 = .ok (.ldc2_w 28, 3) := by decide +kernel
theorem dX3_partOf_24 : decode cX3_partOf 24 = .ok (.lreturn, 1) := by decide +kernel
theorem dX3_commonDivisor_0 : decode cX3_commonDivisor 0 = .ok (.iconst 0, 1) := by decide +kernel
theorem dX3_commonDivisor_1 : decode cX3_commonDivisor 1 = .ok (.istore 4, 2) := by decide +kernel
theorem dX3_commonDivisor_3 : decode cX3_commonDivisor 3 = .ok (.iload 4, 2) := by decide +kernel
theorem dX3_commonDivisor_5 : decode cX3_commonDivisor 5 = .ok (.sipush 200, 3) := by decide +kernel
theorem dX3_commonDivisor_8 : decode cX3_commonDivisor 8 = .ok (.if_icmp .ge 25, 3) := by decide +kernel
theorem dX3_commonDivisor_11 : decode cX3_commonDivisor 11 = .ok (.lload_n 2, 1) := by decide +kernel
theorem dX3_commonDivisor_12 : decode cX3_commonDivisor 12 = .ok (.lconst 0, 1) := by decide +kernel
theorem dX3_commonDivisor_13 : decode cX3_commonDivisor 13 = .ok (.lcmp, 1) := by decide +kernel
theorem dX3_commonDivisor_14 : decode cX3_commonDivisor 14 = .ok (.ifCond .eq 19, 3) := by decide +kernel
theorem dX3_commonDivisor_17 : decode cX3_commonDivisor 17 = .ok (.lload_n 0, 1) := by decide +kernel
theorem dX3_commonDivisor_18 : decode cX3_commonDivisor 18 = .ok (.lload_n 2, 1) := by decide +kernel
theorem dX3_commonDivisor_19 : decode cX3_commonDivisor 19 = .ok (.lrem, 1) := by decide +kernel
theorem dX3_commonDivisor_20 : decode cX3_commonDivisor 20 = .ok (.lstore 5, 2) := by decide +kernel
theorem dX3_commonDivisor_22 : decode cX3_commonDivisor 22 = .ok (.lload_n 2, 1) := by decide +kernel
theorem dX3_commonDivisor_23 : decode cX3_commonDivisor 23 = .ok (.lstore_n 0, 1) := by decide +kernel
theorem dX3_commonDivisor_24 : decode cX3_commonDivisor 24 = .ok (.lload 5, 2) := by decide +kernel
theorem dX3_commonDivisor_26 : decode cX3_commonDivisor 26 = .ok (.lstore_n 2, 1) := by decide +kernel
theorem dX3_commonDivisor_27 : decode cX3_commonDivisor 27 = .ok (.iinc 4 1, 3) := by decide +kernel
theorem dX3_commonDivisor_30 : decode cX3_commonDivisor 30 = .ok (.goto (-27), 3) := by decide +kernel
theorem dX3_commonDivisor_33 : decode cX3_commonDivisor 33 = .ok (.lload_n 0, 1) := by decide +kernel
theorem dX3_commonDivisor_34 : decode cX3_commonDivisor 34 = .ok (.lreturn, 1) := by decide +kernel
theorem dX3_isGreater_0 : decode cX3_isGreater 0 = .ok (.iconst 0, 1) := by decide +kernel
theorem dX3_isGreater_1 : decode cX3_isGreater 1 = .ok (.istore 8, 2) := by decide +kernel
theorem dX3_isGreater_3 : decode cX3_isGreater 3 = .ok (.iload 8, 2) := by decide +kernel
theorem dX3_isGreater_5 : decode cX3_isGreater 5 = .ok (.sipush 200, 3) := by decide +kernel
theorem dX3_isGreater_8 : decode cX3_isGreater 8 = .ok (.if_icmp .ge 81, 3) := by decide +kernel
theorem dX3_isGreater_11 : decode cX3_isGreater 11 = .ok (.lload_n 2, 1) := by decide +kernel
theorem dX3_isGreater_12 : decode cX3_isGreater 12 = .ok (.lconst 0, 1) := by decide +kernel
theorem dX3_isGreater_13 : decode cX3_isGreater 13 = .ok (.lcmp, 1) := by decide +kernel
theorem dX3_isGreater_14 : decode cX3_isGreater 14 = .ok (.ifCond .eq 75, 3) := by decide +kernel
theorem dX3_isGreater_17 : decode cX3_isGreater 17 = .ok (.lload 6, 2) := by decide +kernel
theorem dX3_isGreater_19 : decode cX3_isGreater 19 = .ok (.lconst 0, 1) := by decide +kernel
theorem dX3_isGreater_20 : decode cX3_isGreater 20 = .ok (.lcmp, 1) := by decide +kernel
theorem dX3_isGreater_21 : decode cX3_isGreater 21 = .ok (.ifCond .eq 68, 3) := by decide +kernel
theorem dX3_isGreater_24 : decode cX3_isGreater 24 = .ok (.lload_n 0, 1) := by decide +kernel
theorem dX3_isGreater_25 : decode cX3_isGreater 25 = .ok (.lload_n 2, 1) := by decide +kernel
theorem dX3_isGreater_26 : decode cX3_isGreater 26 = .ok (.ldiv, 1) := by decide +kernel
theorem dX3_isGreater_27 : decode cX3_isGreater 27 = .ok (.lstore 9, 2) := by decide +kernel
theorem dX3_isGreater_29 : decode cX3_isGreater 29 = .ok (.lload 4, 2) := by decide +kernel
theorem dX3_isGreater_31 : decode cX3_isGreater 31 = .ok (.lload 6, 2) := by decide +kernel
theorem dX3_isGreater_33 : decode cX3_isGreater 33 = .ok (.ldiv, 1) := by decide +kernel
theorem dX3_isGreater_34 : decode cX3_isGreater 34 = .ok (.lstore 11, 2) := by decide +kernel
theorem dX3_isGreater_36 : decode cX3_isGreater 36 = .ok (.lload 9, 2) := by decide +kernel
theorem dX3_isGreater_38 : decode cX3_isGreater 38 = .ok (.lload 11, 2) := by decide +kernel
theorem dX3_isGreater_40 : decode cX3_isGreater 40 = .ok (.lcmp, 1) := by decide +kernel
theorem dX3_isGreater_41 : decode cX3_isGreater 41 = .ok (.ifCond .eq 17, 3) := by decide +kernel
theorem dX3_isGreater_44 : decode cX3_isGreater 44 = .ok (.lload 9, 2) := by decide +kernel
theorem dX3_isGreater_46 : decode cX3_isGreater 46 = .ok (.lload 11, 2) := by decide +kernel
theorem dX3_isGreater_48 : decode cX3_isGreater 48 = .ok (.lcmp, 1) := by decide +kernel
theorem dX3_isGreater_49 : decode cX3_isGreater 49 = .ok (.ifCond .le 7, 3) := by decide +kernel
theorem dX3_isGreater_52 : decode cX3_isGreater 52 = .ok (.iconst 1, 1) := by decide +kernel
theorem dX3_isGreater_53 : decode cX3_isGreater 53 = .ok (.goto 4, 3) := by decide +kernel
theorem dX3_isGreater_56 : decode cX3_isGreater 56 = .ok (.iconst 0, 1) := by decide +kernel
theorem dX3_isGreater_57 : decode cX3_isGreater 57 = .ok (.ireturn, 1) := by decide +kernel
theorem dX3_isGreater_58 : decode cX3_isGreater 58 = .ok (.lload_n 0, 1) := by decide +kernel
theorem dX3_isGreater_59 : decode cX3_isGreater 59 = .ok (.lload_n 2, 1) := by decide +kernel
theorem dX3_isGreater_60 : decode cX3_isGreater 60 = .ok (.lrem, 1) := by decide +kernel
theorem dX3_isGreater_61 : decode cX3_isGreater 61 = .ok (.lstore 13, 2) := by decide +kernel
theorem dX3_isGreater_63 : decode cX3_isGreater 63 = .ok (.lload 4, 2) := by decide +kernel
theorem dX3_isGreater_65 : decode cX3_isGreater 65 = .ok (.lload 6, 2) := by decide +kernel
theorem dX3_isGreater_67 : decode cX3_isGreater 67 = .ok (.lrem, 1) := by decide +kernel
theorem dX3_isGreater_68 : decode cX3_isGreater 68 = .ok (.lstore 15, 2) := by decide +kernel
theorem dX3_isGreater_70 : decode cX3_isGreater 70 = .ok (.lload 6, 2) := by decide +kernel
theorem dX3_isGreater_72 : decode cX3_isGreater 72 = .ok (.lstore_n 0, 1) := by decide +kernel
theorem dX3_isGreater_73 : decode cX3_isGreater 73 = .ok (.lload_n 2, 1) := by decide +kernel
theorem dX3_isGreater_74 : decode cX3_isGreater 74 = .ok (.lstore 4, 2) := by decide +kernel
theorem dX3_isGreater_76 : decode cX3_isGreater 76 = .ok (.lload 15, 2) := by decide +kernel
theorem dX3_isGreater_78 : decode cX3_isGreater 78 = .ok (.lstore_n 2, 1) := by decide +kernel
theorem dX3_isGreater_79 : decode cX3_isGreater 79 = .ok (.lload 13, 2) := by decide +kernel
theorem dX3_isGreater_81 : decode cX3_isGreater 81 = .ok (.lstore 6, 2) := by decide +kernel
theorem dX3_isGreater_83 : decode cX3_isGreater 83 = .ok (.iinc 8 1, 3) := by decide +kernel
theorem dX3_isGreater_86 : decode cX3_isGreater 86 = .ok (.goto (-83), 3) := by decide +kernel
theorem dX3_isGreater_89 : decode cX3_isGreater 89 = .ok (.lload_n 2, 1) := by decide +kernel
theorem dX3_isGreater_90 : decode cX3_isGreater 90 = .ok (.lconst 0, 1) := by decide +kernel
theorem dX3_isGreater_91 : decode cX3_isGreater 91 = .ok (.lcmp, 1) := by decide +kernel
theorem dX3_isGreater_92 : decode cX3_isGreater 92 = .ok (.ifCond .ne 14, 3) := by decide +kernel
theorem dX3_isGreater_95 : decode cX3_isGreater 95 = .ok (.lload 6, 2) := by decide +kernel
theorem dX3_isGreater_97 : decode cX3_isGreater 97 = .ok (.lconst 0, 1) := by decide +kernel
theorem dX3_isGreater_98 : decode cX3_isGreater 98 = .ok (.lcmp, 1) := by decide +kernel
theorem dX3_isGreater_99 : decode cX3_isGreater 99 = .ok (.ifCond .eq 7, 3) := by decide +kernel
theorem dX3_isGreater_102 : decode cX3_isGreater 102 = .ok (.iconst 1, 1) := by decide +kernel
theorem dX3_isGreater_103 : decode cX3_isGreater 103 = .ok (.goto 4, 3) := by decide +kernel
theorem dX3_isGreater_106 : decode cX3_isGreater 106 = .ok (.iconst 0, 1) := by decide +kernel
theorem dX3_isGreater_107 : decode cX3_isGreater 107 = .ok (.ireturn, 1) := by decide +kernel
theorem dX4_init_0 : decode cX4_init 0 = .ok (.aload_n 0, 1) := by decide +kernel
theorem dX4_init_1 : decode cX4_init 1 = .ok (.invokespecial 3, 3) := by decide +kernel
theorem dX4_init_4 : decode cX4_init 4 = .ok (.aload_n 0, 1) := by decide +kernel
theorem dX4_init_5 : decode cX4_init 5 = .ok (.bipush 12, 2) := by decide +kernel
theorem dX4_init_7 : decode cX4_init 7 = .ok (.putfield 9, 3) := by decide +kernel
theorem dX4_init_10 : decode cX4_init 10 = .ok (.aload_n 0, 1) := by decide +kernel
theorem dX4_init_11 : decode cX4_init 11 = .ok (.iconst 0, 1) := by decide +kernel
theorem dX4_init_12 : decode cX4_init 12 = .ok (.putfield 15, 3) := by decide +kernel
theorem dX4_init_15 : decode cX4_init 15 = .ok (.aload_n 0, 1) := by decide +kernel
theorem dX4_init_16 : decode cX4_init 16 = .ok (.iconst 0, 1) := by decide +kernel
theorem dX4_init_17 : decode cX4_init 17 = .ok (.putfield 19, 3) := by decide +kernel
theorem dX4_init_20 : decode cX4_init 20 = .ok (.return_, 1) := by decide +kernel
set_option maxRecDepth 20000 in
theorem ag_wsX40 : (wsX40).all goodWord = true := by decide +kernel
theorem gm_X4_firstUnkept_0 : ∀ w ∈ wsX40, w ∈ wsX4_firstUnkept := fun w h => List.mem_cons_of_mem _ (List.mem_append_left _ (List.mem_append_left _ (List.mem_append_right _ h)))
theorem gm_X4_firstUnkept_1 : ∀ w ∈ wsX70, w ∈ wsX4_firstUnkept := fun w h => List.mem_cons_of_mem _ (List.mem_append_left _ (List.mem_append_right _ h))
theorem gm_X4_firstUnkept_2 : ∀ w ∈ wsX50, w ∈ wsX4_firstUnkept := fun w h => List.mem_cons_of_mem _ (List.mem_append_right _ h)
theorem ggX4_firstUnkept_X4_keepsRun : GoodIn wsX4_firstUnkept wsX4_keepsRun := gk_cons (List.mem_cons_of_mem _ (List.mem_append_left _ (List.mem_append_left _ (List.mem_append_left _ (List.mem_of_getElem? (i := 5) rfl))))) rfl (goodIn_app (goodIn_app (goodIn_app (gk_cons (List.mem_cons_of_mem _ (List.mem_append_left _ (List.mem_append_left _ (List.mem_append_left _ (List.mem_of_getElem? (i := 6) rfl))))) rfl (gk_cons (List.mem_cons_of_mem _ (List.mem_append_left _ (List.mem_append_left _ (List.mem_append_left _ (List.mem_of_getElem? (i := 7) rfl))))) rfl (gk_cons (List.mem_cons_of_mem _ (List.mem_append_left _ (List.mem_append_left _ (List.mem_append_left _ (List.mem_of_getElem? (i := 8) rfl))))) rfl (gk_cons (List.mem_cons_of_mem _ (List.mem_append_left _ (List.mem_append_left _ (List.mem_append_left _ (List.mem_of_getElem? (i := 9) rfl))))) rfl gk_nil)))) (goodIn_sub gm_X4_firstUnkept_1 ag_wsX70)) (goodIn_sub gm_X4_firstUnkept_2 ag_wsX50)) (goodIn_sub gm_X4_firstUnkept_0 ag_wsX40))
theorem gX4_firstUnkept_X4_keepsRun : GoodIn wsX4_firstUnkept (wsV RX4 22 RX4 yX4_keepsRun wsX4_keepsRun) := goodIn_app (gk_cons (List.mem_cons_of_mem _ (List.mem_append_left _ (List.mem_append_left _ (List.mem_append_left _ (List.mem_of_getElem? (i := 1) rfl))))) rfl (gk_cons (List.mem_cons_of_mem _ (List.mem_append_left _ (List.mem_append_left _ (List.mem_append_left _ (List.mem_of_getElem? (i := 2) rfl))))) rfl (gk_cons (List.mem_cons_of_mem _ (List.mem_append_left _ (List.mem_append_left _ (List.mem_append_left _ (List.mem_of_getElem? (i := 3) rfl))))) rfl (gk_cons (List.mem_cons_of_mem _ (List.mem_append_left _ (List.mem_append_left _ (List.mem_append_left _ (List.mem_of_getElem? (i := 4) rfl))))) rfl gk_nil)))) ggX4_firstUnkept_X4_keepsRun
theorem ggX4_firstUnkept_X4_keepsStep : GoodIn wsX4_firstUnkept wsX4_keepsStep := gk_cons (List.mem_cons_of_mem _ (List.mem_append_left _ (List.mem_append_left _ (List.mem_append_left _ (List.mem_of_getElem? (i := 13) rfl))))) rfl (goodIn_app (goodIn_app (gk_cons (List.mem_cons_of_mem _ (List.mem_append_left _ (List.mem_append_left _ (List.mem_append_left _ (List.mem_of_getElem? (i := 6) rfl))))) rfl (gk_cons (List.mem_cons_of_mem _ (List.mem_append_left _ (List.mem_append_left _ (List.mem_append_left _ (List.mem_of_getElem? (i := 7) rfl))))) rfl (gk_cons (List.mem_cons_of_mem _ (List.mem_append_left _ (List.mem_append_left _ (List.mem_append_left _ (List.mem_of_getElem? (i := 8) rfl))))) rfl gk_nil))) (goodIn_sub gm_X4_firstUnkept_1 ag_wsX70)) (goodIn_sub gm_X4_firstUnkept_2 ag_wsX50))
theorem gX4_firstUnkept_X4_keepsStep : GoodIn wsX4_firstUnkept (wsV RX4 26 RX4 yX4_keepsStep wsX4_keepsStep) := goodIn_app (gk_cons (List.mem_cons_of_mem _ (List.mem_append_left _ (List.mem_append_left _ (List.mem_append_left _ (List.mem_of_getElem? (i := 10) rfl))))) rfl (gk_cons (List.mem_cons_of_mem _ (List.mem_append_left _ (List.mem_append_left _ (List.mem_append_left _ (List.mem_of_getElem? (i := 11) rfl))))) rfl (gk_cons (List.mem_cons_of_mem _ (List.mem_append_left _ (List.mem_append_left _ (List.mem_append_left _ (List.mem_of_getElem? (i := 12) rfl))))) rfl (gk_cons (List.mem_cons_of_mem _ (List.mem_append_left _ (List.mem_append_left _ (List.mem_append_left _ (List.mem_of_getElem? (i := 4) rfl))))) rfl gk_nil)))) ggX4_firstUnkept_X4_keepsStep
theorem ggX4_firstUnkept_X4_keepsEach : GoodIn wsX4_firstUnkept wsX4_keepsEach := gk_cons (List.mem_cons_of_mem _ (List.mem_append_left _ (List.mem_append_left _ (List.mem_append_left _ (List.mem_of_getElem? (i := 17) rfl))))) rfl (goodIn_app (goodIn_app (goodIn_app (gk_cons (List.mem_cons_of_mem _ (List.mem_append_left _ (List.mem_append_left _ (List.mem_append_left _ (List.mem_of_getElem? (i := 6) rfl))))) rfl (gk_cons (List.mem_cons_of_mem _ (List.mem_append_left _ (List.mem_append_left _ (List.mem_append_left _ (List.mem_of_getElem? (i := 7) rfl))))) rfl (gk_cons (List.mem_cons_of_mem _ (List.mem_append_left _ (List.mem_append_left _ (List.mem_append_left _ (List.mem_of_getElem? (i := 8) rfl))))) rfl (gk_cons (List.mem_cons_of_mem _ (List.mem_append_left _ (List.mem_append_left _ (List.mem_append_left _ (List.mem_of_getElem? (i := 18) rfl))))) rfl gk_nil)))) (goodIn_sub gm_X4_firstUnkept_1 ag_wsX70)) (goodIn_sub gm_X4_firstUnkept_2 ag_wsX50)) (goodIn_sub gm_X4_firstUnkept_0 ag_wsX40))
theorem gX4_firstUnkept_X4_keepsEach : GoodIn wsX4_firstUnkept (wsV RX4 29 RX4 yX4_keepsEach wsX4_keepsEach) := goodIn_app (gk_cons (List.mem_cons_of_mem _ (List.mem_append_left _ (List.mem_append_left _ (List.mem_append_left _ (List.mem_of_getElem? (i := 14) rfl))))) rfl (gk_cons (List.mem_cons_of_mem _ (List.mem_append_left _ (List.mem_append_left _ (List.mem_append_left _ (List.mem_of_getElem? (i := 15) rfl))))) rfl (gk_cons (List.mem_cons_of_mem _ (List.mem_append_left _ (List.mem_append_left _ (List.mem_append_left _ (List.mem_of_getElem? (i := 16) rfl))))) rfl (gk_cons (List.mem_cons_of_mem _ (List.mem_append_left _ (List.mem_append_left _ (List.mem_append_left _ (List.mem_of_getElem? (i := 4) rfl))))) rfl gk_nil)))) ggX4_firstUnkept_X4_keepsEach
theorem dX4_firstUnkept_0 : decode cX4_firstUnkept 0 = .ok (.aload_n 0, 1) := by decide +kernel
theorem dX4_firstUnkept_1 : decode cX4_firstUnkept 1 = .ok (.aload_n 1, 1) := by decide +kernel
theorem dX4_firstUnkept_2 : decode cX4_firstUnkept 2 = .ok (.invokevirtual 22, 3) := by decide +kernel
theorem dX4_firstUnkept_5 : decode cX4_firstUnkept 5 = .ok (.ifCond .ne 5, 3) := by decide +kernel
theorem dX4_firstUnkept_8 : decode cX4_firstUnkept 8 = .ok (.iconst 1, 1) := by decide +kernel
theorem dX4_firstUnkept_9 : decode cX4_firstUnkept 9 = .ok (.ireturn, 1) := by decide +kernel
theorem dX4_firstUnkept_10 : decode cX4_firstUnkept 10 = .ok (.aload_n 0, 1) := by decide +kernel
theorem dX4_firstUnkept_11 : decode cX4_firstUnkept 11 = .ok (.getfield 15, 3) := by decide +kernel
theorem dX4_firstUnkept_14 : decode cX4_firstUnkept 14 = .ok (.ifCond .eq 13, 3) := by decide +kernel
theorem dX4_firstUnkept_17 : decode cX4_firstUnkept 17 = .ok (.aload_n 0, 1) := by decide +kernel
theorem dX4_firstUnkept_18 : decode cX4_firstUnkept 18 = .ok (.aload_n 1, 1) := by decide +kernel
theorem dX4_firstUnkept_19 : decode cX4_firstUnkept 19 = .ok (.invokevirtual 26, 3) := by decide +kernel
theorem dX4_firstUnkept_22 : decode cX4_firstUnkept 22 = .ok (.ifCond .ne 5, 3) := by decide +kernel
theorem dX4_firstUnkept_25 : decode cX4_firstUnkept 25 = .ok (.iconst 2, 1) := by decide +kernel
theorem dX4_firstUnkept_26 : decode cX4_firstUnkept 26 = .ok (.ireturn, 1) := by decide +kernel
theorem dX4_firstUnkept_27 : decode cX4_firstUnkept 27 = .ok (.aload_n 0, 1) := by decide +kernel
theorem dX4_firstUnkept_28 : decode cX4_firstUnkept 28 = .ok (.aload_n 1, 1) := by decide +kernel
theorem dX4_firstUnkept_29 : decode cX4_firstUnkept 29 = .ok (.invokevirtual 29, 3) := by decide +kernel
theorem dX4_firstUnkept_32 : decode cX4_firstUnkept 32 = .ok (.ifCond .eq 7, 3) := by decide +kernel
theorem dX4_firstUnkept_35 : decode cX4_firstUnkept 35 = .ok (.iconst 0, 1) := by decide +kernel
theorem dX4_firstUnkept_36 : decode cX4_firstUnkept 36 = .ok (.goto 4, 3) := by decide +kernel
theorem dX4_firstUnkept_39 : decode cX4_firstUnkept 39 = .ok (.iconst 3, 1) := by decide +kernel
theorem dX4_firstUnkept_40 : decode cX4_firstUnkept 40 = .ok (.ireturn, 1) := by decide +kernel
theorem dX4_keepsRun_0 : decode cX4_keepsRun 0 = .ok (.iconst 0, 1) := by decide +kernel
theorem dX4_keepsRun_1 : decode cX4_keepsRun 1 = .ok (.istore_n 2, 1) := by decide +kernel
theorem dX4_keepsRun_2 : decode cX4_keepsRun 2 = .ok (.iconst 0, 1) := by decide +kernel
theorem dX4_keepsRun_3 : decode cX4_keepsRun 3 = .ok (.istore_n 3, 1) := by decide +kernel
theorem dX4_keepsRun_4 : decode cX4_keepsRun 4 = .ok (.iload_n 3, 1) := by decide +kernel
theorem dX4_keepsRun_5 : decode cX4_keepsRun 5 = .ok (.aload_n 1, 1) := by decide +kernel
theorem dX4_keepsRun_6 : decode cX4_keepsRun 6 = .ok (.getfield 32, 3) := by decide +kernel
theorem dX4_keepsRun_9 : decode cX4_keepsRun 9 = .ok (.if_icmp .ge 66, 3) := by decide +kernel
theorem dX4_keepsRun_12 : decode cX4_keepsRun 12 = .ok (.iload_n 3, 1) := by decide +kernel
theorem dX4_keepsRun_13 : decode cX4_keepsRun 13 = .ok (.ifCond .le 30, 3) := by decide +kernel
theorem dX4_keepsRun_16 : decode cX4_keepsRun 16 = .ok (.aload_n 1, 1) := by decide +kernel
theorem dX4_keepsRun_17 : decode cX4_keepsRun 17 = .ok (.getfield 37, 3) := by decide +kernel
theorem dX4_keepsRun_20 : decode cX4_keepsRun 20 = .ok (.iload_n 3, 1) := by decide +kernel
theorem dX4_keepsRun_21 : decode cX4_keepsRun 21 = .ok (.aaload, 1) := by decide +kernel
theorem dX4_keepsRun_22 : decode cX4_keepsRun 22 = .ok (.getfield 41, 3) := by decide +kernel
theorem dX4_keepsRun_25 : decode cX4_keepsRun 25 = .ok (.aload_n 1, 1) := by decide +kernel
theorem dX4_keepsRun_26 : decode cX4_keepsRun 26 = .ok (.getfield 37, 3) := by decide +kernel
theorem dX4_keepsRun_29 : decode cX4_keepsRun 29 = .ok (.iload_n 3, 1) := by decide +kernel
theorem dX4_keepsRun_30 : decode cX4_keepsRun 30 = .ok (.iconst 1, 1) := by decide +kernel
theorem dX4_keepsRun_31 : decode cX4_keepsRun 31 = .ok (.isub, 1) := by decide +kernel
theorem dX4_keepsRun_32 : decode cX4_keepsRun 32 = .ok (.aaload, 1) := by decide +kernel
theorem dX4_keepsRun_33 : decode cX4_keepsRun 33 = .ok (.getfield 41, 3) := by decide +kernel
theorem dX4_keepsRun_36 : decode cX4_keepsRun 36 = .ok (.if_icmp .ne 7, 3) := by decide +kernel
theorem dX4_keepsRun_39 : decode cX4_keepsRun 39 = .ok (.iconst 1, 1) := by decide +kernel
theorem dX4_keepsRun_40 : decode cX4_keepsRun 40 = .ok (.goto 4, 3) := by decide +kernel
theorem dX4_keepsRun_43 : decode cX4_keepsRun 43 = .ok (.iconst 0, 1) := by decide +kernel
theorem dX4_keepsRun_44 : decode cX4_keepsRun 44 = .ok (.istore 4, 2) := by decide +kernel
theorem dX4_keepsRun_46 : decode cX4_keepsRun 46 = .ok (.iload 4, 2) := by decide +kernel
theorem dX4_keepsRun_48 : decode cX4_keepsRun 48 = .ok (.ifCond .eq 9, 3) := by decide +kernel
theorem dX4_keepsRun_51 : decode cX4_keepsRun 51 = .ok (.iload_n 2, 1) := by decide +kernel
theorem dX4_keepsRun_52 : decode cX4_keepsRun 52 = .ok (.iconst 1, 1) := by decide +kernel
theorem dX4_keepsRun_53 : decode cX4_keepsRun 53 = .ok (.iadd, 1) := by decide +kernel
theorem dX4_keepsRun_54 : decode cX4_keepsRun 54 = .ok (.goto 4, 3) := by decide +kernel
theorem dX4_keepsRun_57 : decode cX4_keepsRun 57 = .ok (.iconst 1, 1) := by decide +kernel
theorem dX4_keepsRun_58 : decode cX4_keepsRun 58 = .ok (.istore_n 2, 1) := by decide +kernel
theorem dX4_keepsRun_59 : decode cX4_keepsRun 59 = .ok (.iload_n 2, 1) := by decide +kernel
theorem dX4_keepsRun_60 : decode cX4_keepsRun 60 = .ok (.aload_n 0, 1) := by decide +kernel
theorem dX4_keepsRun_61 : decode cX4_keepsRun 61 = .ok (.getfield 9, 3) := by decide +kernel
theorem dX4_keepsRun_64 : decode cX4_keepsRun 64 = .ok (.if_icmp .le 5, 3) := by decide +kernel
theorem dX4_keepsRun_67 : decode cX4_keepsRun 67 = .ok (.iconst 0, 1) := by decide +kernel
theorem dX4_keepsRun_68 : decode cX4_keepsRun 68 = .ok (.ireturn, 1) := by decide +kernel
theorem dX4_keepsRun_69 : decode cX4_keepsRun 69 = .ok (.iinc 3 1, 3) := by decide +kernel
theorem dX4_keepsRun_72 : decode cX4_keepsRun 72 = .ok (.goto (-68), 3) := by decide +kernel
theorem dX4_keepsRun_75 : decode cX4_keepsRun 75 = .ok (.iconst 1, 1) := by decide +kernel
theorem dX4_keepsRun_76 : decode cX4_keepsRun 76 = .ok (.ireturn, 1) := by decide +kernel
theorem dX4_keepsStep_0 : decode cX4_keepsStep 0 = .ok (.iconst 1, 1) := by decide +kernel
theorem dX4_keepsStep_1 : decode cX4_keepsStep 1 = .ok (.istore_n 2, 1) := by decide +kernel
theorem dX4_keepsStep_2 : decode cX4_keepsStep 2 = .ok (.iload_n 2, 1) := by decide +kernel
theorem dX4_keepsStep_3 : decode cX4_keepsStep 3 = .ok (.aload_n 1, 1) := by decide +kernel
theorem dX4_keepsStep_4 : decode cX4_keepsStep 4 = .ok (.getfield 32, 3) := by decide +kernel
theorem dX4_keepsStep_7 : decode cX4_keepsStep 7 = .ok (.if_icmp .ge 54, 3) := by decide +kernel
theorem dX4_keepsStep_10 : decode cX4_keepsStep 10 = .ok (.aload_n 1, 1) := by decide +kernel
theorem dX4_keepsStep_11 : decode cX4_keepsStep 11 = .ok (.getfield 37, 3) := by decide +kernel
theorem dX4_keepsStep_14 : decode cX4_keepsStep 14 = .ok (.iload_n 2, 1) := by decide +kernel
theorem dX4_keepsStep_15 : decode cX4_keepsStep 15 = .ok (.aaload, 1) := by decide +kernel
theorem dX4_keepsStep_16 : decode cX4_keepsStep 16 = .ok (.getfield 41, 3) := by decide +kernel
theorem dX4_keepsStep_19 : decode cX4_keepsStep 19 = .ok (.istore_n 3, 1) := by decide +kernel
theorem dX4_keepsStep_20 : decode cX4_keepsStep 20 = .ok (.aload_n 1, 1) := by decide +kernel
theorem dX4_keepsStep_21 : decode cX4_keepsStep 21 = .ok (.getfield 37, 3) := by decide +kernel
theorem dX4_keepsStep_24 : decode cX4_keepsStep 24 = .ok (.iload_n 2, 1) := by decide +kernel
theorem dX4_keepsStep_25 : decode cX4_keepsStep 25 = .ok (.iconst 1, 1) := by decide +kernel
theorem dX4_keepsStep_26 : decode cX4_keepsStep 26 = .ok (.isub, 1) := by decide +kernel
theorem dX4_keepsStep_27 : decode cX4_keepsStep 27 = .ok (.aaload, 1) := by decide +kernel
theorem dX4_keepsStep_28 : decode cX4_keepsStep 28 = .ok (.getfield 41, 3) := by decide +kernel
theorem dX4_keepsStep_31 : decode cX4_keepsStep 31 = .ok (.istore 4, 2) := by decide +kernel
theorem dX4_keepsStep_33 : decode cX4_keepsStep 33 = .ok (.iload_n 3, 1) := by decide +kernel
theorem dX4_keepsStep_34 : decode cX4_keepsStep 34 = .ok (.ifCond .ne 9, 3) := by decide +kernel
theorem dX4_keepsStep_37 : decode cX4_keepsStep 37 = .ok (.iload 4, 2) := by decide +kernel
theorem dX4_keepsStep_39 : decode cX4_keepsStep 39 = .ok (.iconst 1, 1) := by decide +kernel
theorem dX4_keepsStep_40 : decode cX4_keepsStep 40 = .ok (.if_icmp .eq 13, 3) := by decide +kernel
theorem dX4_keepsStep_43 : decode cX4_keepsStep 43 = .ok (.iload_n 3, 1) := by decide +kernel
theorem dX4_keepsStep_44 : decode cX4_keepsStep 44 = .ok (.iconst 1, 1) := by decide +kernel
theorem dX4_keepsStep_45 : decode cX4_keepsStep 45 = .ok (.if_icmp .ne 10, 3) := by decide +kernel
theorem dX4_keepsStep_48 : decode cX4_keepsStep 48 = .ok (.iload 4, 2) := by decide +kernel
theorem dX4_keepsStep_50 : decode cX4_keepsStep 50 = .ok (.ifCond .ne 5, 3) := by decide +kernel
theorem dX4_keepsStep_53 : decode cX4_keepsStep 53 = .ok (.iconst 0, 1) := by decide +kernel
theorem dX4_keepsStep_54 : decode cX4_keepsStep 54 = .ok (.ireturn, 1) := by decide +kernel
theorem dX4_keepsStep_55 : decode cX4_keepsStep 55 = .ok (.iinc 2 1, 3) := by decide +kernel
theorem dX4_keepsStep_58 : decode cX4_keepsStep 58 = .ok (.goto (-56), 3) := by decide +kernel
theorem dX4_keepsStep_61 : decode cX4_keepsStep 61 = .ok (.iconst 1, 1) := by decide +kernel
theorem dX4_keepsStep_62 : decode cX4_keepsStep 62 = .ok (.ireturn, 1) := by decide +kernel
theorem dX4_keepsEach_0 : decode cX4_keepsEach 0 = .ok (.iconst 0, 1) := by decide +kernel
theorem dX4_keepsEach_1 : decode cX4_keepsEach 1 = .ok (.istore_n 2, 1) := by decide +kernel
theorem dX4_keepsEach_2 : decode cX4_keepsEach 2 = .ok (.iload_n 2, 1) := by decide +kernel
theorem dX4_keepsEach_3 : decode cX4_keepsEach 3 = .ok (.iconst 4, 1) := by decide +kernel
theorem dX4_keepsEach_4 : decode cX4_keepsEach 4 = .ok (.if_icmp .ge 56, 3) := by decide +kernel
theorem dX4_keepsEach_7 : decode cX4_keepsEach 7 = .ok (.iconst 0, 1) := by decide +kernel
theorem dX4_keepsEach_8 : decode cX4_keepsEach 8 = .ok (.istore_n 3, 1) := by decide +kernel
theorem dX4_keepsEach_9 : decode cX4_keepsEach 9 = .ok (.iconst 0, 1) := by decide +kernel
theorem dX4_keepsEach_10 : decode cX4_keepsEach 10 = .ok (.istore 4, 2) := by decide +kernel
theorem dX4_keepsEach_12 : decode cX4_keepsEach 12 = .ok (.iload 4, 2) := by decide +kernel
theorem dX4_keepsEach_14 : decode cX4_keepsEach 14 = .ok (.aload_n 1, 1) := by decide +kernel
theorem dX4_keepsEach_15 : decode cX4_keepsEach 15 = .ok (.getfield 32, 3) := by decide +kernel
theorem dX4_keepsEach_18 : decode cX4_keepsEach 18 = .ok (.if_icmp .ge 26, 3) := by decide +kernel
theorem dX4_keepsEach_21 : decode cX4_keepsEach 21 = .ok (.aload_n 1, 1) := by decide +kernel
theorem dX4_keepsEach_22 : decode cX4_keepsEach 22 = .ok (.getfield 37, 3) := by decide +kernel
theorem dX4_keepsEach_25 : decode cX4_keepsEach 25 = .ok (.iload 4, 2) := by decide +kernel
theorem dX4_keepsEach_27 : decode cX4_keepsEach 27 = .ok (.aaload, 1) := by decide +kernel
theorem dX4_keepsEach_28 : decode cX4_keepsEach 28 = .ok (.getfield 41, 3) := by decide +kernel
theorem dX4_keepsEach_31 : decode cX4_keepsEach 31 = .ok (.iload_n 2, 1) := by decide +kernel
theorem dX4_keepsEach_32 : decode cX4_keepsEach 32 = .ok (.if_icmp .ne 6, 3) := by decide +kernel
theorem dX4_keepsEach_35 : decode cX4_keepsEach 35 = .ok (.iinc 3 1, 3) := by decide +kernel
theorem dX4_keepsEach_38 : decode cX4_keepsEach 38 = .ok (.iinc 4 1, 3) := by decide +kernel
theorem dX4_keepsEach_41 : decode cX4_keepsEach 41 = .ok (.goto (-29), 3) := by decide +kernel
theorem dX4_keepsEach_44 : decode cX4_keepsEach 44 = .ok (.iload_n 3, 1) := by decide +kernel
theorem dX4_keepsEach_45 : decode cX4_keepsEach 45 = .ok (.aload_n 0, 1) := by decide +kernel
theorem dX4_keepsEach_46 : decode cX4_keepsEach 46 = .ok (.getfield 19, 3) := by decide +kernel
theorem dX4_keepsEach_49 : decode cX4_keepsEach 49 = .ok (.if_icmp .ge 5, 3) := by decide +kernel
theorem dX4_keepsEach_52 : decode cX4_keepsEach 52 = .ok (.iconst 0, 1) := by decide +kernel
theorem dX4_keepsEach_53 : decode cX4_keepsEach 53 = .ok (.ireturn, 1) := by decide +kernel
theorem dX4_keepsEach_54 : decode cX4_keepsEach 54 = .ok (.iinc 2 1, 3) := by decide +kernel
theorem dX4_keepsEach_57 : decode cX4_keepsEach 57 = .ok (.goto (-55), 3) := by decide +kernel
theorem dX4_keepsEach_60 : decode cX4_keepsEach 60 = .ok (.iconst 1, 1) := by decide +kernel
theorem dX4_keepsEach_61 : decode cX4_keepsEach 61 = .ok (.ireturn, 1) := by decide +kernel
theorem dX5_init_0 : decode cX5_init 0 = .ok (.aload_n 0, 1) := by decide +kernel
theorem dX5_init_1 : decode cX5_init 1 = .ok (.invokespecial 3, 3) := by decide +kernel
theorem dX5_init_4 : decode cX5_init 4 = .ok (.aload_n 0, 1) := by decide +kernel
theorem dX5_init_5 : decode cX5_init 5 = .ok (.iconst 0, 1) := by decide +kernel
theorem dX5_init_6 : decode cX5_init 6 = .ok (.putfield 9, 3) := by decide +kernel
theorem dX5_init_9 : decode cX5_init 9 = .ok (.aload_n 0, 1) := by decide +kernel
theorem dX5_init_10 : decode cX5_init 10 = .ok (.iconst 0, 1) := by decide +kernel
theorem dX5_init_11 : decode cX5_init 11 = .ok (.putfield 15, 3) := by decide +kernel
theorem dX5_init_14 : decode cX5_init 14 = .ok (.aload_n 0, 1) := by decide +kernel
theorem dX5_init_15 : decode cX5_init 15 = .ok (.iconst 1, 1) := by decide +kernel
theorem dX5_init_16 : decode cX5_init 16 = .ok (.putfield 18, 3) := by decide +kernel
theorem dX5_init_19 : decode cX5_init 19 = .ok (.aload_n 0, 1) := by decide +kernel
theorem dX5_init_20 : decode cX5_init 20 = .ok (.iconst 0, 1) := by decide +kernel
theorem dX5_init_21 : decode cX5_init 21 = .ok (.putfield 21, 3) := by decide +kernel
theorem dX5_init_24 : decode cX5_init 24 = .ok (.return_, 1) := by decide +kernel
theorem dX5_become_0 : decode cX5_become 0 = .ok (.aload_n 0, 1) := by decide +kernel
theorem dX5_become_1 : decode cX5_become 1 = .ok (.iload_n 1, 1) := by decide +kernel
theorem dX5_become_2 : decode cX5_become 2 = .ok (.putfield 9, 3) := by decide +kernel
theorem dX5_become_5 : decode cX5_become 5 = .ok (.aload_n 0, 1) := by decide +kernel
theorem dX5_become_6 : decode cX5_become 6 = .ok (.iload_n 2, 1) := by decide +kernel
theorem dX5_become_7 : decode cX5_become 7 = .ok (.putfield 15, 3) := by decide +kernel
theorem dX5_become_10 : decode cX5_become 10 = .ok (.aload_n 0, 1) := by decide +kernel
theorem dX5_become_11 : decode cX5_become 11 = .ok (.iload_n 3, 1) := by decide +kernel
theorem dX5_become_12 : decode cX5_become 12 = .ok (.putfield 18, 3) := by decide +kernel
theorem dX5_become_15 : decode cX5_become 15 = .ok (.aload_n 0, 1) := by decide +kernel
theorem dX5_become_16 : decode cX5_become 16 = .ok (.iload 4, 2) := by decide +kernel
theorem dX5_become_18 : decode cX5_become 18 = .ok (.putfield 21, 3) := by decide +kernel
theorem dX5_become_21 : decode cX5_become 21 = .ok (.return_, 1) := by decide +kernel
theorem dX5_isLike_0 : decode cX5_isLike 0 = .ok (.aload_n 0, 1) := by decide +kernel
theorem dX5_isLike_1 : decode cX5_isLike 1 = .ok (.getfield 9, 3) := by decide +kernel
theorem dX5_isLike_4 : decode cX5_isLike 4 = .ok (.aload_n 1, 1) := by decide +kernel
theorem dX5_isLike_5 : decode cX5_isLike 5 = .ok (.getfield 9, 3) := by decide +kernel
theorem dX5_isLike_8 : decode cX5_isLike 8 = .ok (.if_icmp .ne 40, 3) := by decide +kernel
theorem dX5_isLike_11 : decode cX5_isLike 11 = .ok (.aload_n 0, 1) := by decide +kernel
theorem dX5_isLike_12 : decode cX5_isLike 12 = .ok (.getfield 15, 3) := by decide +kernel
theorem dX5_isLike_15 : decode cX5_isLike 15 = .ok (.aload_n 1, 1) := by decide +kernel
theorem dX5_isLike_16 : decode cX5_isLike 16 = .ok (.getfield 15, 3) := by decide +kernel
theorem dX5_isLike_19 : decode cX5_isLike 19 = .ok (.if_icmp .ne 29, 3) := by decide +kernel
theorem dX5_isLike_22 : decode cX5_isLike 22 = .ok (.aload_n 0, 1) := by decide +kernel
theorem dX5_isLike_23 : decode cX5_isLike 23 = .ok (.getfield 18, 3) := by decide +kernel
theorem dX5_isLike_26 : decode cX5_isLike 26 = .ok (.aload_n 1, 1) := by decide +kernel
theorem dX5_isLike_27 : decode cX5_isLike 27 = .ok (.getfield 18, 3) := by decide +kernel
theorem dX5_isLike_30 : decode cX5_isLike 30 = .ok (.if_icmp .ne 18, 3) := by decide +kernel
theorem dX5_isLike_33 : decode cX5_isLike 33 = .ok (.aload_n 0, 1) := by decide +kernel
theorem dX5_isLike_34 : decode cX5_isLike 34 = .ok (.getfield 21, 3) := by decide +kernel
theorem dX5_isLike_37 : decode cX5_isLike 37 = .ok (.aload_n 1, 1) := by decide +kernel
theorem dX5_isLike_38 : decode cX5_isLike 38 = .ok (.getfield 21, 3) := by decide +kernel
theorem dX5_isLike_41 : decode cX5_isLike 41 = .ok (.if_icmp .ne 7, 3) := by decide +kernel
theorem dX5_isLike_44 : decode cX5_isLike 44 = .ok (.iconst 1, 1) := by decide +kernel
theorem dX5_isLike_45 : decode cX5_isLike 45 = .ok (.goto 4, 3) := by decide +kernel
theorem dX5_isLike_48 : decode cX5_isLike 48 = .ok (.iconst 0, 1) := by decide +kernel
theorem dX5_isLike_49 : decode cX5_isLike 49 = .ok (.ireturn, 1) := by decide +kernel
theorem dX6_init_0 : decode cX6_init 0 = .ok (.aload_n 0, 1) := by decide +kernel
theorem dX6_init_1 : decode cX6_init 1 = .ok (.invokespecial 3, 3) := by decide +kernel
theorem dX6_init_4 : decode cX6_init 4 = .ok (.aload_n 0, 1) := by decide +kernel
theorem dX6_init_5 : decode cX6_init 5 = .ok (.iconst 0, 1) := by decide +kernel
theorem dX6_init_6 : decode cX6_init 6 = .ok (.putfield 9, 3) := by decide +kernel
theorem dX6_init_9 : decode cX6_init 9 = .ok (.aload_n 0, 1) := by decide +kernel
theorem dX6_init_10 : decode cX6_init 10 = .ok (.iconst 0, 1) := by decide +kernel
theorem dX6_init_11 : decode cX6_init 11 = .ok (.putfield 15, 3) := by decide +kernel
theorem dX6_init_14 : decode cX6_init 14 = .ok (.aload_n 0, 1) := by decide +kernel
theorem dX6_init_15 : decode cX6_init 15 = .ok (.iconst 0, 1) := by decide +kernel
theorem dX6_init_16 : decode cX6_init 16 = .ok (.putfield 18, 3) := by decide +kernel
theorem dX6_init_19 : decode cX6_init 19 = .ok (.aload_n 0, 1) := by decide +kernel
theorem dX6_init_20 : decode cX6_init 20 = .ok (.iconst 0, 1) := by decide +kernel
theorem dX6_init_21 : decode cX6_init 21 = .ok (.putfield 21, 3) := by decide +kernel
theorem dX6_init_24 : decode cX6_init 24 = .ok (.return_, 1) := by decide +kernel
theorem dX6_become_0 : decode cX6_become 0 = .ok (.iload_n 2, 1) := by decide +kernel
theorem dX6_become_1 : decode cX6_become 1 = .ok (.ifCond .ne 7, 3) := by decide +kernel
theorem dX6_become_4 : decode cX6_become 4 = .ok (.iconst 1, 1) := by decide +kernel
theorem dX6_become_5 : decode cX6_become 5 = .ok (.goto 4, 3) := by decide +kernel
theorem dX6_become_8 : decode cX6_become 8 = .ok (.iconst 0, 1) := by decide +kernel
theorem dX6_become_9 : decode cX6_become 9 = .ok (.istore_n 3, 1) := by decide +kernel
theorem dX6_become_10 : decode cX6_become 10 = .ok (.aload_n 0, 1) := by decide +kernel
theorem dX6_become_11 : decode cX6_become 11 = .ok (.iload_n 2, 1) := by decide +kernel
theorem dX6_become_12 : decode cX6_become 12 = .ok (.iconst 2, 1) := by decide +kernel
theorem dX6_become_13 : decode cX6_become 13 = .ok (.if_icmp .ne 7, 3) := by decide +kernel
theorem dX6_become_16 : decode cX6_become 16 = .ok (.iconst 0, 1) := by decide +kernel
theorem dX6_become_17 : decode cX6_become 17 = .ok (.goto 7, 3) := by decide +kernel
theorem dX6_become_20 : decode cX6_become 20 = .ok (.aload_n 1, 1) := by decide +kernel
theorem dX6_become_21 : decode cX6_become 21 = .ok (.getfield 24, 3) := by decide +kernel
theorem dX6_become_24 : decode cX6_become 24 = .ok (.putfield 9, 3) := by decide +kernel
theorem dX6_become_27 : decode cX6_become 27 = .ok (.aload_n 0, 1) := by decide +kernel
theorem dX6_become_28 : decode cX6_become 28 = .ok (.iload_n 3, 1) := by decide +kernel
theorem dX6_become_29 : decode cX6_become 29 = .ok (.ifCond .eq 10, 3) := by decide +kernel
theorem dX6_become_32 : decode cX6_become 32 = .ok (.aload_n 1, 1) := by decide +kernel
theorem dX6_become_33 : decode cX6_become 33 = .ok (.getfield 27, 3) := by decide +kernel
theorem dX6_become_36 : decode cX6_become 36 = .ok (.goto 4, 3) := by decide +kernel
theorem dX6_become_39 : decode cX6_become 39 = .ok (.iconst 0, 1) := by decide +kernel
theorem dX6_become_40 : decode cX6_become 40 = .ok (.putfield 15, 3) := by decide +kernel
theorem dX6_become_43 : decode cX6_become 43 = .ok (.aload_n 0, 1) := by decide +kernel
theorem dX6_become_44 : decode cX6_become 44 = .ok (.iload_n 3, 1) := by decide +kernel
theorem dX6_become_45 : decode cX6_become 45 = .ok (.ifCond .eq 10, 3) := by decide +kernel
theorem dX6_become_48 : decode cX6_become 48 = .ok (.aload_n 1, 1) := by decide +kernel
theorem dX6_become_49 : decode cX6_become 49 = .ok (.getfield 28, 3) := by decide +kernel
theorem dX6_become_52 : decode cX6_become 52 = .ok (.goto 4, 3) := by decide +kernel
theorem dX6_become_55 : decode cX6_become 55 = .ok (.iconst 0, 1) := by decide +kernel
theorem dX6_become_56 : decode cX6_become 56 = .ok (.putfield 18, 3) := by decide +kernel
theorem dX6_become_59 : decode cX6_become 59 = .ok (.aload_n 0, 1) := by decide +kernel
theorem dX6_become_60 : decode cX6_become 60 = .ok (.iload_n 3, 1) := by decide +kernel
theorem dX6_become_61 : decode cX6_become 61 = .ok (.ifCond .eq 10, 3) := by decide +kernel
theorem dX6_become_64 : decode cX6_become 64 = .ok (.aload_n 1, 1) := by decide +kernel
theorem dX6_become_65 : decode cX6_become 65 = .ok (.getfield 29, 3) := by decide +kernel
theorem dX6_become_68 : decode cX6_become 68 = .ok (.goto 4, 3) := by decide +kernel
theorem dX6_become_71 : decode cX6_become 71 = .ok (.iconst 0, 1) := by decide +kernel
theorem dX6_become_72 : decode cX6_become 72 = .ok (.putfield 21, 3) := by decide +kernel
theorem dX6_become_75 : decode cX6_become 75 = .ok (.return_, 1) := by decide +kernel
theorem dX6_turn_0 : decode cX6_turn 0 = .ok (.iload_n 1, 1) := by decide +kernel
theorem dX6_turn_1 : decode cX6_turn 1 = .ok (.ifCond .eq 8, 3) := by decide +kernel
theorem dX6_turn_4 : decode cX6_turn 4 = .ok (.iload_n 1, 1) := by decide +kernel
theorem dX6_turn_5 : decode cX6_turn 5 = .ok (.iconst 1, 1) := by decide +kernel
theorem dX6_turn_6 : decode cX6_turn 6 = .ok (.if_icmp .ne 70, 3) := by decide +kernel
theorem dX6_turn_9 : decode cX6_turn 9 = .ok (.aload_n 2, 1) := by decide +kernel
theorem dX6_turn_10 : decode cX6_turn 10 = .ok (.iconst 0, 1) := by decide +kernel
theorem dX6_turn_11 : decode cX6_turn 11 = .ok (.iconst 4, 1) := by decide +kernel
theorem dX6_turn_12 : decode cX6_turn 12 = .ok (.iload_n 1, 1) := by decide +kernel
theorem dX6_turn_13 : decode cX6_turn 13 = .ok (.ifCond .ne 10, 3) := by decide +kernel
theorem dX6_turn_16 : decode cX6_turn 16 = .ok (.aload_n 0, 1) := by decide +kernel
theorem dX6_turn_17 : decode cX6_turn 17 = .ok (.getfield 9, 3) := by decide +kernel
theorem dX6_turn_20 : decode cX6_turn 20 = .ok (.goto 7, 3) := by decide +kernel
theorem dX6_turn_23 : decode cX6_turn 23 = .ok (.aload_n 0, 1) := by decide +kernel
theorem dX6_turn_24 : decode cX6_turn 24 = .ok (.getfield 15, 3) := by decide +kernel
theorem dX6_turn_27 : decode cX6_turn 27 = .ok (.imul, 1) := by decide +kernel
theorem dX6_turn_28 : decode cX6_turn 28 = .ok (.iastore, 1) := by decide +kernel
theorem dX6_turn_29 : decode cX6_turn 29 = .ok (.aload_n 2, 1) := by decide +kernel
theorem dX6_turn_30 : decode cX6_turn 30 = .ok (.iconst 1, 1) := by decide +kernel
theorem dX6_turn_31 : decode cX6_turn 31 = .ok (.iconst 4, 1) := by decide +kernel
theorem dX6_turn_32 : decode cX6_turn 32 = .ok (.iload_n 1, 1) := by decide +kernel
theorem dX6_turn_33 : decode cX6_turn 33 = .ok (.ifCond .ne 10, 3) := by decide +kernel
theorem dX6_turn_36 : decode cX6_turn 36 = .ok (.aload_n 0, 1) := by decide +kernel
theorem dX6_turn_37 : decode cX6_turn 37 = .ok (.getfield 15, 3) := by decide +kernel
theorem dX6_turn_40 : decode cX6_turn 40 = .ok (.goto 7, 3) := by decide +kernel
theorem dX6_turn_43 : decode cX6_turn 43 = .ok (.aload_n 0, 1) := by decide +kernel
theorem dX6_turn_44 : decode cX6_turn 44 = .ok (.getfield 9, 3) := by decide +kernel
theorem dX6_turn_47 : decode cX6_turn 47 = .ok (.imul, 1) := by decide +kernel
theorem dX6_turn_48 : decode cX6_turn 48 = .ok (.iastore, 1) := by decide +kernel
theorem dX6_turn_49 : decode cX6_turn 49 = .ok (.aload_n 2, 1) := by decide +kernel
theorem dX6_turn_50 : decode cX6_turn 50 = .ok (.iconst 2, 1) := by decide +kernel
theorem dX6_turn_51 : decode cX6_turn 51 = .ok (.iconst 4, 1) := by decide +kernel
theorem dX6_turn_52 : decode cX6_turn 52 = .ok (.aload_n 0, 1) := by decide +kernel
theorem dX6_turn_53 : decode cX6_turn 53 = .ok (.getfield 18, 3) := by decide +kernel
theorem dX6_turn_56 : decode cX6_turn 56 = .ok (.imul, 1) := by decide +kernel
theorem dX6_turn_57 : decode cX6_turn 57 = .ok (.iastore, 1) := by decide +kernel
theorem dX6_turn_58 : decode cX6_turn 58 = .ok (.aload_n 2, 1) := by decide +kernel
theorem dX6_turn_59 : decode cX6_turn 59 = .ok (.iconst 3, 1) := by decide +kernel
theorem dX6_turn_60 : decode cX6_turn 60 = .ok (.iconst 4, 1) := by decide +kernel
theorem dX6_turn_61 : decode cX6_turn 61 = .ok (.aload_n 0, 1) := by decide +kernel
theorem dX6_turn_62 : decode cX6_turn 62 = .ok (.getfield 21, 3) := by decide +kernel
theorem dX6_turn_65 : decode cX6_turn 65 = .ok (.imul, 1) := by decide +kernel
theorem dX6_turn_66 : decode cX6_turn 66 = .ok (.iastore, 1) := by decide +kernel
theorem dX6_turn_67 : decode cX6_turn 67 = .ok (.aload_n 2, 1) := by decide +kernel
theorem dX6_turn_68 : decode cX6_turn 68 = .ok (.iconst 4, 1) := by decide +kernel
theorem dX6_turn_69 : decode cX6_turn 69 = .ok (.iconst 0, 1) := by decide +kernel
theorem dX6_turn_70 : decode cX6_turn 70 = .ok (.iastore, 1) := by decide +kernel
theorem dX6_turn_71 : decode cX6_turn 71 = .ok (.aload_n 2, 1) := by decide +kernel
theorem dX6_turn_72 : decode cX6_turn 72 = .ok (.iconst 5, 1) := by decide +kernel
theorem dX6_turn_73 : decode cX6_turn 73 = .ok (.iconst 0, 1) := by decide +kernel
theorem dX6_turn_74 : decode cX6_turn 74 = .ok (.iastore, 1) := by decide +kernel
theorem dX6_turn_75 : decode cX6_turn 75 = .ok (.return_, 1) := by decide +kernel
theorem dX6_turn_76 : decode cX6_turn 76 = .ok (.aload_n 2, 1) := by decide +kernel
theorem dX6_turn_77 : decode cX6_turn 77 = .ok (.iconst 0, 1) := by decide +kernel
theorem dX6_turn_78 : decode cX6_turn 78 = .ok (.aload_n 0, 1) := by decide +kernel
theorem dX6_turn_79 : decode cX6_turn 79 = .ok (.getfield 9, 3) := by decide +kernel
theorem dX6_turn_82 : decode cX6_turn 82 = .ok (.aload_n 0, 1) := by decide +kernel
theorem dX6_turn_83 : decode cX6_turn 83 = .ok (.getfield 15, 3) := by decide +kernel
theorem dX6_turn_86 : decode cX6_turn 86 = .ok (.iadd, 1) := by decide +kernel
theorem dX6_turn_87 : decode cX6_turn 87 = .ok (.iconst 2, 1) := by decide +kernel
theorem dX6_turn_88 : decode cX6_turn 88 = .ok (.aload_n 0, 1) := by decide +kernel
theorem dX6_turn_89 : decode cX6_turn 89 = .ok (.getfield 18, 3) := by decide +kernel
theorem dX6_turn_92 : decode cX6_turn 92 = .ok (.imul, 1) := by decide +kernel
theorem dX6_turn_93 : decode cX6_turn 93 = .ok (.iadd, 1) := by decide +kernel
theorem dX6_turn_94 : decode cX6_turn 94 = .ok (.iconst 4, 1) := by decide +kernel
theorem dX6_turn_95 : decode cX6_turn 95 = .ok (.aload_n 0, 1) := by decide +kernel
theorem dX6_turn_96 : decode cX6_turn 96 = .ok (.getfield 21, 3) := by decide +kernel
theorem dX6_turn_99 : decode cX6_turn 99 = .ok (.imul, 1) := by decide +kernel
theorem dX6_turn_100 : decode cX6_turn 100 = .ok (.iadd, 1) := by decide +kernel
theorem dX6_turn_101 : decode cX6_turn 101 = .ok (.iastore, 1) := by decide +kernel
theorem dX6_turn_102 : decode cX6_turn 102 = .ok (.aload_n 2, 1) := by decide +kernel
theorem dX6_turn_103 : decode cX6_turn 103 = .ok (.iconst 1, 1) := by decide +kernel
theorem dX6_turn_104 : decode cX6_turn 104 = .ok (.aload_n 2, 1) := by decide +kernel
theorem dX6_turn_105 : decode cX6_turn 105 = .ok (.iconst 0, 1) := by decide +kernel
theorem dX6_turn_106 : decode cX6_turn 106 = .ok (.iaload, 1) := by decide +kernel
theorem dX6_turn_107 : decode cX6_turn 107 = .ok (.iastore, 1) := by decide +kernel
theorem dX6_turn_108 : decode cX6_turn 108 = .ok (.aload_n 2, 1) := by decide +kernel
theorem dX6_turn_109 : decode cX6_turn 109 = .ok (.iconst 2, 1) := by decide +kernel
theorem dX6_turn_110 : decode cX6_turn 110 = .ok (.aload_n 0, 1) := by decide +kernel
theorem dX6_turn_111 : decode cX6_turn 111 = .ok (.getfield 9, 3) := by decide +kernel
theorem dX6_turn_114 : decode cX6_turn 114 = .ok (.aload_n 0, 1) := by decide +kernel
theorem dX6_turn_115 : decode cX6_turn 115 = .ok (.getfield 15, 3) := by decide +kernel
theorem dX6_turn_118 : decode cX6_turn 118 = .ok (.iadd, 1) := by decide +kernel
theorem dX6_turn_119 : decode cX6_turn 119 = .ok (.iconst 2, 1) := by decide +kernel
theorem dX6_turn_120 : decode cX6_turn 120 = .ok (.aload_n 0, 1) := by decide +kernel
theorem dX6_turn_121 : decode cX6_turn 121 = .ok (.getfield 18, 3) := by decide +kernel
theorem dX6_turn_124 : decode cX6_turn 124 = .ok (.imul, 1) := by decide +kernel
theorem dX6_turn_125 : decode cX6_turn 125 = .ok (.iadd, 1) := by decide +kernel
theorem dX6_turn_126 : decode cX6_turn 126 = .ok (.iconst 4, 1) := by decide +kernel
theorem dX6_turn_127 : decode cX6_turn 127 = .ok (.aload_n 0, 1) := by decide +kernel
theorem dX6_turn_128 : decode cX6_turn 128 = .ok (.getfield 21, 3) := by decide +kernel
theorem dX6_turn_131 : decode cX6_turn 131 = .ok (.imul, 1) := by decide +kernel
theorem dX6_turn_132 : decode cX6_turn 132 = .ok (.isub, 1) := by decide +kernel
theorem dX6_turn_133 : decode cX6_turn 133 = .ok (.iastore, 1) := by decide +kernel
theorem dX6_turn_134 : decode cX6_turn 134 = .ok (.aload_n 2, 1) := by decide +kernel
theorem dX6_turn_135 : decode cX6_turn 135 = .ok (.iconst 3, 1) := by decide +kernel
theorem dX6_turn_136 : decode cX6_turn 136 = .ok (.aload_n 0, 1) := by decide +kernel
theorem dX6_turn_137 : decode cX6_turn 137 = .ok (.getfield 9, 3) := by decide +kernel
theorem dX6_turn_140 : decode cX6_turn 140 = .ok (.aload_n 0, 1) := by decide +kernel
theorem dX6_turn_141 : decode cX6_turn 141 = .ok (.getfield 15, 3) := by decide +kernel
theorem dX6_turn_144 : decode cX6_turn 144 = .ok (.iadd, 1) := by decide +kernel
theorem dX6_turn_145 : decode cX6_turn 145 = .ok (.iconst 2, 1) := by decide +kernel
theorem dX6_turn_146 : decode cX6_turn 146 = .ok (.aload_n 0, 1) := by decide +kernel
theorem dX6_turn_147 : decode cX6_turn 147 = .ok (.getfield 18, 3) := by decide +kernel
theorem dX6_turn_150 : decode cX6_turn 150 = .ok (.imul, 1) := by decide +kernel
theorem dX6_turn_151 : decode cX6_turn 151 = .ok (.isub, 1) := by decide +kernel
theorem dX6_turn_152 : decode cX6_turn 152 = .ok (.iastore, 1) := by decide +kernel
theorem dX6_turn_153 : decode cX6_turn 153 = .ok (.aload_n 2, 1) := by decide +kernel
theorem dX6_turn_154 : decode cX6_turn 154 = .ok (.iconst 4, 1) := by decide +kernel
theorem dX6_turn_155 : decode cX6_turn 155 = .ok (.iload_n 1, 1) := by decide +kernel
theorem dX6_turn_156 : decode cX6_turn 156 = .ok (.iconst 2, 1) := by decide +kernel
theorem dX6_turn_157 : decode cX6_turn 157 = .ok (.if_icmp .ne 15, 3) := by decide +kernel
theorem dX6_turn_160 : decode cX6_turn 160 = .ok (.aload_n 0, 1) := by decide +kernel
theorem dX6_turn_161 : decode cX6_turn 161 = .ok (.getfield 9, 3) := by decide +kernel
theorem dX6_turn_164 : decode cX6_turn 164 = .ok (.aload_n 0, 1) := by decide +kernel
theorem dX6_turn_165 : decode cX6_turn 165 = .ok (.getfield 15, 3) := by decide +kernel
theorem dX6_turn_168 : decode cX6_turn 168 = .ok (.isub, 1) := by decide +kernel
theorem dX6_turn_169 : decode cX6_turn 169 = .ok (.goto 12, 3) := by decide +kernel
theorem dX6_turn_172 : decode cX6_turn 172 = .ok (.aload_n 0, 1) := by decide +kernel
theorem dX6_turn_173 : decode cX6_turn 173 = .ok (.getfield 15, 3) := by decide +kernel
theorem dX6_turn_176 : decode cX6_turn 176 = .ok (.aload_n 0, 1) := by decide +kernel
theorem dX6_turn_177 : decode cX6_turn 177 = .ok (.getfield 9, 3) := by decide +kernel
theorem dX6_turn_180 : decode cX6_turn 180 = .ok (.isub, 1) := by decide +kernel
theorem dX6_turn_181 : decode cX6_turn 181 = .ok (.iastore, 1) := by decide +kernel
theorem dX6_turn_182 : decode cX6_turn 182 = .ok (.aload_n 2, 1) := by decide +kernel
theorem dX6_turn_183 : decode cX6_turn 183 = .ok (.iconst 5, 1) := by decide +kernel
theorem dX6_turn_184 : decode cX6_turn 184 = .ok (.aload_n 2, 1) := by decide +kernel
theorem dX6_turn_185 : decode cX6_turn 185 = .ok (.iconst 4, 1) := by decide +kernel
theorem dX6_turn_186 : decode cX6_turn 186 = .ok (.iaload, 1) := by decide +kernel
theorem dX6_turn_187 : decode cX6_turn 187 = .ok (.iastore, 1) := by decide +kernel
theorem dX6_turn_188 : decode cX6_turn 188 = .ok (.return_, 1) := by decide +kernel
theorem gm_X7_init_0 : ∀ w ∈ wsX70, w ∈ wsX7_init := fun w h => List.mem_cons_of_mem _ (List.mem_append_left _ (List.mem_append_right _ h))
theorem gm_X7_init_1 : ∀ w ∈ wsX50, w ∈ wsX7_init := fun w h => List.mem_cons_of_mem _ (List.mem_append_right _ h)
theorem ggX7_init_X5_init : GoodIn wsX7_init wsX5_init := gk_cons (List.mem_cons_of_mem _ (List.mem_append_left _ (List.mem_append_left _ (List.mem_of_getElem? (i := 9) rfl)))) rfl (goodIn_app (gk_cons (List.mem_cons_of_mem _ (List.mem_append_left _ (List.mem_append_left _ (List.mem_of_getElem? (i := 10) rfl)))) rfl (gk_cons (List.mem_cons_of_mem _ (List.mem_append_left _ (List.mem_append_left _ (List.mem_of_getElem? (i := 1) rfl)))) rfl (gk_cons (List.mem_cons_of_mem _ (List.mem_append_left _ (List.mem_append_left _ (List.mem_of_getElem? (i := 2) rfl)))) rfl (gk_cons (List.mem_cons_of_mem _ (List.mem_append_left _ (List.mem_append_left _ (List.mem_of_getElem? (i := 11) rfl)))) rfl (gk_cons (List.mem_cons_of_mem _ (List.mem_append_left _ (List.mem_append_left _ (List.mem_of_getElem? (i := 12) rfl)))) rfl (gk_cons (List.mem_cons_of_mem _ (List.mem_append_left _ (List.mem_append_left _ (List.mem_of_getElem? (i := 13) rfl)))) rfl (gk_cons (List.mem_cons_of_mem _ (List.mem_append_left _ (List.mem_append_left _ (List.mem_of_getElem? (i := 14) rfl)))) rfl gk_nil))))))) (goodIn_sub gm_X7_init_1 ag_wsX50))
set_option maxRecDepth 20000 in
theorem gX7_init_X5_init_n21 : GoodIn wsX7_init (wsX5_init) := ggX7_init_X5_init
theorem dX7_init_0 : decode cX7_init 0 = .ok (.aload_n 0, 1) := by decide +kernel
theorem dX7_init_1 : decode cX7_init 1 = .ok (.invokespecial 3, 3) := by decide +kernel
theorem dX7_init_4 : decode cX7_init 4 = .ok (.aload_n 0, 1) := by decide +kernel
theorem dX7_init_5 : decode cX7_init 5 = .ok (.bipush 12, 2) := by decide +kernel
theorem dX7_init_7 : decode cX7_init 7 = .ok (.anewarray 9, 3) := by decide +kernel
theorem dX7_init_10 : decode cX7_init 10 = .ok (.putfield 11, 3) := by decide +kernel
theorem dX7_init_13 : decode cX7_init 13 = .ok (.aload_n 0, 1) := by decide +kernel
theorem dX7_init_14 : decode cX7_init 14 = .ok (.iconst 0, 1) := by decide +kernel
theorem dX7_init_15 : decode cX7_init 15 = .ok (.putfield 17, 3) := by decide +kernel
theorem dX7_init_18 : decode cX7_init 18 = .ok (.iconst 0, 1) := by decide +kernel
theorem dX7_init_19 : decode cX7_init 19 = .ok (.istore_n 1, 1) := by decide +kernel
theorem dX7_init_20 : decode cX7_init 20 = .ok (.iload_n 1, 1) := by decide +kernel
theorem dX7_init_21 : decode cX7_init 21 = .ok (.bipush 12, 2) := by decide +kernel
theorem dX7_init_23 : decode cX7_init 23 = .ok (.if_icmp .ge 22, 3) := by decide +kernel
theorem dX7_init_26 : decode cX7_init 26 = .ok (.aload_n 0, 1) := by decide +kernel
theorem dX7_init_27 : decode cX7_init 27 = .ok (.getfield 11, 3) := by decide +kernel
theorem dX7_init_30 : decode cX7_init 30 = .ok (.iload_n 1, 1) := by decide +kernel
theorem dX7_init_31 : decode cX7_init 31 = .ok (.new 9, 3) := by decide +kernel
theorem dX7_init_34 : decode cX7_init 34 = .ok (.dup, 1) := by decide +kernel
theorem dX7_init_35 : decode cX7_init 35 = .ok (.invokespecial 21, 3) := by decide +kernel
theorem dX7_init_38 : decode cX7_init 38 = .ok (.aastore, 1) := by decide +kernel
theorem dX7_init_39 : decode cX7_init 39 = .ok (.iinc 1 1, 3) := by decide +kernel
theorem dX7_init_42 : decode cX7_init 42 = .ok (.goto (-22), 3) := by decide +kernel
theorem dX7_init_45 : decode cX7_init 45 = .ok (.return_, 1) := by decide +kernel
theorem dX7_isFull_0 : decode cX7_isFull 0 = .ok (.aload_n 0, 1) := by decide +kernel
theorem dX7_isFull_1 : decode cX7_isFull 1 = .ok (.getfield 17, 3) := by decide +kernel
theorem dX7_isFull_4 : decode cX7_isFull 4 = .ok (.bipush 12, 2) := by decide +kernel
theorem dX7_isFull_6 : decode cX7_isFull 6 = .ok (.if_icmp .lt 7, 3) := by decide +kernel
theorem dX7_isFull_9 : decode cX7_isFull 9 = .ok (.iconst 1, 1) := by decide +kernel
theorem dX7_isFull_10 : decode cX7_isFull 10 = .ok (.goto 4, 3) := by decide +kernel
theorem dX7_isFull_13 : decode cX7_isFull 13 = .ok (.iconst 0, 1) := by decide +kernel
theorem dX7_isFull_14 : decode cX7_isFull 14 = .ok (.ireturn, 1) := by decide +kernel
theorem gm_X7_put_0 : ∀ w ∈ wsX70, w ∈ wsX7_put := fun w h => List.mem_cons_of_mem _ (List.mem_append_left _ (List.mem_append_right _ h))
theorem gm_X7_put_1 : ∀ w ∈ wsX50, w ∈ wsX7_put := fun w h => List.mem_cons_of_mem _ (List.mem_append_right _ h)
theorem ggX7_put_X7_isFull : GoodIn wsX7_put wsX7_isFull := gk_cons (List.mem_cons_of_mem _ (List.mem_append_left _ (List.mem_append_left _ (List.mem_of_getElem? (i := 6) rfl)))) rfl (goodIn_app (gk_cons (List.mem_cons_of_mem _ (List.mem_append_left _ (List.mem_append_left _ (List.mem_of_getElem? (i := 1) rfl)))) rfl gk_nil) (goodIn_sub gm_X7_put_0 ag_wsX70))
theorem gX7_put_X7_isFull : GoodIn wsX7_put (wsV RX7 22 RX7 yX7_isFull wsX7_isFull) := goodIn_app (gk_cons (List.mem_cons_of_mem _ (List.mem_append_left _ (List.mem_append_left _ (List.mem_of_getElem? (i := 2) rfl)))) rfl (gk_cons (List.mem_cons_of_mem _ (List.mem_append_left _ (List.mem_append_left _ (List.mem_of_getElem? (i := 3) rfl)))) rfl (gk_cons (List.mem_cons_of_mem _ (List.mem_append_left _ (List.mem_append_left _ (List.mem_of_getElem? (i := 4) rfl)))) rfl (gk_cons (List.mem_cons_of_mem _ (List.mem_append_left _ (List.mem_append_left _ (List.mem_of_getElem? (i := 5) rfl)))) rfl gk_nil)))) ggX7_put_X7_isFull
theorem ggX7_put_X5_become : GoodIn wsX7_put wsX5_become := gk_cons (List.mem_cons_of_mem _ (List.mem_append_left _ (List.mem_append_left _ (List.mem_of_getElem? (i := 11) rfl)))) rfl (goodIn_app (gk_cons (List.mem_cons_of_mem _ (List.mem_append_left _ (List.mem_append_left _ (List.mem_of_getElem? (i := 12) rfl)))) rfl (gk_cons (List.mem_cons_of_mem _ (List.mem_append_left _ (List.mem_append_left _ (List.mem_of_getElem? (i := 13) rfl)))) rfl (gk_cons (List.mem_cons_of_mem _ (List.mem_append_left _ (List.mem_append_left _ (List.mem_of_getElem? (i := 14) rfl)))) rfl (gk_cons (List.mem_cons_of_mem _ (List.mem_append_left _ (List.mem_append_left _ (List.mem_of_getElem? (i := 15) rfl)))) rfl gk_nil)))) (goodIn_sub gm_X7_put_1 ag_wsX50))
theorem gX7_put_X5_become : GoodIn wsX7_put (wsV RX7 26 RX5 yX5_become wsX5_become) := goodIn_app (gk_cons (List.mem_cons_of_mem _ (List.mem_append_left _ (List.mem_append_left _ (List.mem_of_getElem? (i := 7) rfl)))) rfl (gk_cons (List.mem_cons_of_mem _ (List.mem_append_left _ (List.mem_append_left _ (List.mem_of_getElem? (i := 8) rfl)))) rfl (gk_cons (List.mem_cons_of_mem _ (List.mem_append_left _ (List.mem_append_left _ (List.mem_of_getElem? (i := 9) rfl)))) rfl (gk_cons (List.mem_cons_of_mem _ (List.mem_append_left _ (List.mem_append_left _ (List.mem_of_getElem? (i := 10) rfl)))) rfl gk_nil)))) ggX7_put_X5_become
theorem dX7_put_0 : decode cX7_put 0 = .ok (.aload_n 0, 1) := by decide +kernel
theorem dX7_put_1 : decode cX7_put 1 = .ok (.invokevirtual 22, 3) := by decide +kernel
theorem dX7_put_4 : decode cX7_put 4 = .ok (.ifCond .ne 29, 3) := by decide +kernel
theorem dX7_put_7 : decode cX7_put 7 = .ok (.aload_n 0, 1) := by decide +kernel
theorem dX7_put_8 : decode cX7_put 8 = .ok (.getfield 11, 3) := by decide +kernel
theorem dX7_put_11 : decode cX7_put 11 = .ok (.aload_n 0, 1) := by decide +kernel
theorem dX7_put_12 : decode cX7_put 12 = .ok (.getfield 17, 3) := by decide +kernel
theorem dX7_put_15 : decode cX7_put 15 = .ok (.aaload, 1) := by decide +kernel
theorem dX7_put_16 : decode cX7_put 16 = .ok (.iload_n 1, 1) := by decide +kernel
theorem dX7_put_17 : decode cX7_put 17 = .ok (.iload_n 2, 1) := by decide +kernel
theorem dX7_put_18 : decode cX7_put 18 = .ok (.iload_n 3, 1) := by decide +kernel
theorem dX7_put_19 : decode cX7_put 19 = .ok (.iconst 0, 1) := by decide +kernel
theorem dX7_put_20 : decode cX7_put 20 = .ok (.invokevirtual 26, 3) := by decide +kernel
theorem dX7_put_23 : decode cX7_put 23 = .ok (.aload_n 0, 1) := by decide +kernel
theorem dX7_put_24 : decode cX7_put 24 = .ok (.dup, 1) := by decide +kernel
theorem dX7_put_25 : decode cX7_put 25 = .ok (.getfield 17, 3) := by decide +kernel
theorem dX7_put_28 : decode cX7_put 28 = .ok (.iconst 1, 1) := by decide +kernel
theorem dX7_put_29 : decode cX7_put 29 = .ok (.iadd, 1) := by decide +kernel
theorem dX7_put_30 : decode cX7_put 30 = .ok (.putfield 17, 3) := by decide +kernel
theorem dX7_put_33 : decode cX7_put 33 = .ok (.return_, 1) := by decide +kernel
theorem gm_X7_copy_0 : ∀ w ∈ wsX70, w ∈ wsX7_copy := fun w h => List.mem_cons_of_mem _ (List.mem_append_left _ (List.mem_append_right _ h))
theorem gm_X7_copy_1 : ∀ w ∈ wsX50, w ∈ wsX7_copy := fun w h => List.mem_cons_of_mem _ (List.mem_append_right _ h)
theorem ggX7_copy_X5_become : GoodIn wsX7_copy wsX5_become := gk_cons (List.mem_cons_of_mem _ (List.mem_append_left _ (List.mem_append_left _ (List.mem_of_getElem? (i := 10) rfl)))) rfl (goodIn_app (gk_cons (List.mem_cons_of_mem _ (List.mem_append_left _ (List.mem_append_left _ (List.mem_of_getElem? (i := 11) rfl)))) rfl (gk_cons (List.mem_cons_of_mem _ (List.mem_append_left _ (List.mem_append_left _ (List.mem_of_getElem? (i := 12) rfl)))) rfl (gk_cons (List.mem_cons_of_mem _ (List.mem_append_left _ (List.mem_append_left _ (List.mem_of_getElem? (i := 13) rfl)))) rfl (gk_cons (List.mem_cons_of_mem _ (List.mem_append_left _ (List.mem_append_left _ (List.mem_of_getElem? (i := 14) rfl)))) rfl gk_nil)))) (goodIn_sub gm_X7_copy_1 ag_wsX50))
theorem gX7_copy_X5_become : GoodIn wsX7_copy (wsV RX7 26 RX5 yX5_become wsX5_become) := goodIn_app (gk_cons (List.mem_cons_of_mem _ (List.mem_append_left _ (List.mem_append_left _ (List.mem_of_getElem? (i := 6) rfl)))) rfl (gk_cons (List.mem_cons_of_mem _ (List.mem_append_left _ (List.mem_append_left _ (List.mem_of_getElem? (i := 7) rfl)))) rfl (gk_cons (List.mem_cons_of_mem _ (List.mem_append_left _ (List.mem_append_left _ (List.mem_of_getElem? (i := 8) rfl)))) rfl (gk_cons (List.mem_cons_of_mem _ (List.mem_append_left _ (List.mem_append_left _ (List.mem_of_getElem? (i := 9) rfl)))) rfl gk_nil)))) ggX7_copy_X5_become
theorem dX7_copy_0 : decode cX7_copy 0 = .ok (.aload_n 0, 1) := by decide +kernel
theorem dX7_copy_1 : decode cX7_copy 1 = .ok (.aload_n 1, 1) := by decide +kernel
theorem dX7_copy_2 : decode cX7_copy 2 = .ok (.getfield 17, 3) := by decide +kernel
theorem dX7_copy_5 : decode cX7_copy 5 = .ok (.putfield 17, 3) := by decide +kernel
theorem dX7_copy_8 : decode cX7_copy 8 = .ok (.iconst 0, 1) := by decide +kernel
theorem dX7_copy_9 : decode cX7_copy 9 = .ok (.istore_n 2, 1) := by decide +kernel
theorem dX7_copy_10 : decode cX7_copy 10 = .ok (.iload_n 2, 1) := by decide +kernel
theorem dX7_copy_11 : decode cX7_copy 11 = .ok (.aload_n 0, 1) := by decide +kernel
theorem dX7_copy_12 : decode cX7_copy 12 = .ok (.getfield 17, 3) := by decide +kernel
theorem dX7_copy_15 : decode cX7_copy 15 = .ok (.if_icmp .ge 41, 3) := by decide +kernel
theorem dX7_copy_18 : decode cX7_copy 18 = .ok (.aload_n 1, 1) := by decide +kernel
theorem dX7_copy_19 : decode cX7_copy 19 = .ok (.getfield 11, 3) := by decide +kernel
theorem dX7_copy_22 : decode cX7_copy 22 = .ok (.iload_n 2, 1) := by decide +kernel
theorem dX7_copy_23 : decode cX7_copy 23 = .ok (.aaload, 1) := by decide +kernel
theorem dX7_copy_24 : decode cX7_copy 24 = .ok (.astore_n 3, 1) := by decide +kernel
theorem dX7_copy_25 : decode cX7_copy 25 = .ok (.aload_n 0, 1) := by decide +kernel
theorem dX7_copy_26 : decode cX7_copy 26 = .ok (.getfield 11, 3) := by decide +kernel
theorem dX7_copy_29 : decode cX7_copy 29 = .ok (.iload_n 2, 1) := by decide +kernel
theorem dX7_copy_30 : decode cX7_copy 30 = .ok (.aaload, 1) := by decide +kernel
theorem dX7_copy_31 : decode cX7_copy 31 = .ok (.aload_n 3, 1) := by decide +kernel
theorem dX7_copy_32 : decode cX7_copy 32 = .ok (.getfield 30, 3) := by decide +kernel
theorem dX7_copy_35 : decode cX7_copy 35 = .ok (.aload_n 3, 1) := by decide +kernel
theorem dX7_copy_36 : decode cX7_copy 36 = .ok (.getfield 33, 3) := by decide +kernel
theorem dX7_copy_39 : decode cX7_copy 39 = .ok (.aload_n 3, 1) := by decide +kernel
theorem dX7_copy_40 : decode cX7_copy 40 = .ok (.getfield 36, 3) := by decide +kernel
theorem dX7_copy_43 : decode cX7_copy 43 = .ok (.aload_n 3, 1) := by decide +kernel
theorem dX7_copy_44 : decode cX7_copy 44 = .ok (.getfield 39, 3) := by decide +kernel
theorem dX7_copy_47 : decode cX7_copy 47 = .ok (.invokevirtual 26, 3) := by decide +kernel
theorem dX7_copy_50 : decode cX7_copy 50 = .ok (.iinc 2 1, 3) := by decide +kernel
theorem dX7_copy_53 : decode cX7_copy 53 = .ok (.goto (-43), 3) := by decide +kernel
theorem dX7_copy_56 : decode cX7_copy 56 = .ok (.return_, 1) := by decide +kernel
theorem dX7_thickness_0 : decode cX7_thickness 0 = .ok (.iconst 0, 1) := by decide +kernel
theorem dX7_thickness_1 : decode cX7_thickness 1 = .ok (.istore_n 1, 1) := by decide +kernel
theorem dX7_thickness_2 : decode cX7_thickness 2 = .ok (.iconst 0, 1) := by decide +kernel
theorem dX7_thickness_3 : decode cX7_thickness 3 = .ok (.istore_n 2, 1) := by decide +kernel
theorem dX7_thickness_4 : decode cX7_thickness 4 = .ok (.iload_n 2, 1) := by decide +kernel
theorem dX7_thickness_5 : decode cX7_thickness 5 = .ok (.aload_n 0, 1) := by decide +kernel
theorem dX7_thickness_6 : decode cX7_thickness 6 = .ok (.getfield 17, 3) := by decide +kernel
theorem dX7_thickness_9 : decode cX7_thickness 9 = .ok (.if_icmp .ge 21, 3) := by decide +kernel
theorem dX7_thickness_12 : decode cX7_thickness 12 = .ok (.iload_n 1, 1) := by decide +kernel
theorem dX7_thickness_13 : decode cX7_thickness 13 = .ok (.aload_n 0, 1) := by decide +kernel
theorem dX7_thickness_14 : decode cX7_thickness 14 = .ok (.getfield 11, 3) := by decide +kernel
theorem dX7_thickness_17 : decode cX7_thickness 17 = .ok (.iload_n 2, 1) := by decide +kernel
theorem dX7_thickness_18 : decode cX7_thickness 18 = .ok (.aaload, 1) := by decide +kernel
theorem dX7_thickness_19 : decode cX7_thickness 19 = .ok (.getfield 36, 3) := by decide +kernel
theorem dX7_thickness_22 : decode cX7_thickness 22 = .ok (.iadd, 1) := by decide +kernel
theorem dX7_thickness_23 : decode cX7_thickness 23 = .ok (.istore_n 1, 1) := by decide +kernel
theorem dX7_thickness_24 : decode cX7_thickness 24 = .ok (.iinc 2 1, 3) := by decide +kernel
theorem dX7_thickness_27 : decode cX7_thickness 27 = .ok (.goto (-23), 3) := by decide +kernel
theorem dX7_thickness_30 : decode cX7_thickness 30 = .ok (.iload_n 1, 1) := by decide +kernel
theorem dX7_thickness_31 : decode cX7_thickness 31 = .ok (.ireturn, 1) := by decide +kernel
theorem gm_X7_isEven_0 : ∀ w ∈ wsX70, w ∈ wsX7_isEven := fun w h => List.mem_cons_of_mem _ (List.mem_append_left _ (List.mem_append_right _ h))
theorem gm_X7_isEven_1 : ∀ w ∈ wsX50, w ∈ wsX7_isEven := fun w h => List.mem_cons_of_mem _ (List.mem_append_right _ h)
theorem ggX7_isEven_X5_isLike : GoodIn wsX7_isEven wsX5_isLike := gk_cons (List.mem_cons_of_mem _ (List.mem_append_left _ (List.mem_append_left _ (List.mem_of_getElem? (i := 6) rfl)))) rfl (goodIn_app (gk_cons (List.mem_cons_of_mem _ (List.mem_append_left _ (List.mem_append_left _ (List.mem_of_getElem? (i := 7) rfl)))) rfl (gk_cons (List.mem_cons_of_mem _ (List.mem_append_left _ (List.mem_append_left _ (List.mem_of_getElem? (i := 8) rfl)))) rfl (gk_cons (List.mem_cons_of_mem _ (List.mem_append_left _ (List.mem_append_left _ (List.mem_of_getElem? (i := 9) rfl)))) rfl (gk_cons (List.mem_cons_of_mem _ (List.mem_append_left _ (List.mem_append_left _ (List.mem_of_getElem? (i := 10) rfl)))) rfl gk_nil)))) (goodIn_sub gm_X7_isEven_1 ag_wsX50))
theorem gX7_isEven_X5_isLike : GoodIn wsX7_isEven (wsV RX7 42 RX5 yX5_isLike wsX5_isLike) := goodIn_app (gk_cons (List.mem_cons_of_mem _ (List.mem_append_left _ (List.mem_append_left _ (List.mem_of_getElem? (i := 2) rfl)))) rfl (gk_cons (List.mem_cons_of_mem _ (List.mem_append_left _ (List.mem_append_left _ (List.mem_of_getElem? (i := 3) rfl)))) rfl (gk_cons (List.mem_cons_of_mem _ (List.mem_append_left _ (List.mem_append_left _ (List.mem_of_getElem? (i := 4) rfl)))) rfl (gk_cons (List.mem_cons_of_mem _ (List.mem_append_left _ (List.mem_append_left _ (List.mem_of_getElem? (i := 5) rfl)))) rfl gk_nil)))) ggX7_isEven_X5_isLike
theorem dX7_isEven_0 : decode cX7_isEven 0 = .ok (.iconst 0, 1) := by decide +kernel
theorem dX7_isEven_1 : decode cX7_isEven 1 = .ok (.istore_n 1, 1) := by decide +kernel
theorem dX7_isEven_2 : decode cX7_isEven 2 = .ok (.iload_n 1, 1) := by decide +kernel
theorem dX7_isEven_3 : decode cX7_isEven 3 = .ok (.aload_n 0, 1) := by decide +kernel
theorem dX7_isEven_4 : decode cX7_isEven 4 = .ok (.getfield 17, 3) := by decide +kernel
theorem dX7_isEven_7 : decode cX7_isEven 7 = .ok (.iconst 2, 1) := by decide +kernel
theorem dX7_isEven_8 : decode cX7_isEven 8 = .ok (.idiv, 1) := by decide +kernel
theorem dX7_isEven_9 : decode cX7_isEven 9 = .ok (.if_icmp .ge 36, 3) := by decide +kernel
theorem dX7_isEven_12 : decode cX7_isEven 12 = .ok (.aload_n 0, 1) := by decide +kernel
theorem dX7_isEven_13 : decode cX7_isEven 13 = .ok (.getfield 11, 3) := by decide +kernel
theorem dX7_isEven_16 : decode cX7_isEven 16 = .ok (.iload_n 1, 1) := by decide +kernel
theorem dX7_isEven_17 : decode cX7_isEven 17 = .ok (.aaload, 1) := by decide +kernel
