theorem gX11_tableOf_X11_height : GoodIn wsX11_tableOf (wsV RX11 104 RX11 yX11_height wsX11_height) := goodIn_app (gk_cons (gm_X11_tableOf_0 _ (List.mem_of_getElem? (i := 2) rfl)) rfl (gk_cons (gm_X11_tableOf_0 _ (List.mem_of_getElem? (i := 3) rfl)) rfl (gk_cons (gm_X11_tableOf_0 _ (List.mem_of_getElem? (i := 4) rfl)) rfl (gk_cons (gm_X11_tableOf_0 _ (List.mem_of_getElem? (i := 5) rfl)) rfl gk_nil)))) ggX11_tableOf_X11_height
theorem ggX11_tableOf_X11_spot : GoodIn wsX11_tableOf wsX11_spot := gk_cons (gm_X11_tableOf_0 _ (List.mem_of_getElem? (i := 9) rfl)) rfl gk_nil
theorem gX11_tableOf_X11_spot : GoodIn wsX11_tableOf (va_wsS RX11 86 yX11_spot wsX11_spot) := goodIn_app (gk_cons (gm_X11_tableOf_0 _ (List.mem_of_getElem? (i := 7) rfl)) rfl (gk_cons (gm_X11_tableOf_0 _ (List.mem_of_getElem? (i := 8) rfl)) rfl (gk_cons (gm_X11_tableOf_0 _ (List.mem_of_getElem? (i := 5) rfl)) rfl gk_nil))) ggX11_tableOf_X11_spot
theorem ggX11_tableOf_X11_turned : GoodIn wsX11_tableOf wsX11_turned := gk_cons (gm_X11_tableOf_0 _ (List.mem_of_getElem? (i := 13) rfl)) rfl (goodIn_app (gk_cons (gm_X11_tableOf_0 _ (List.mem_of_getElem? (i := 14) rfl)) rfl (gk_cons (gm_X11_tableOf_0 _ (List.mem_of_getElem? (i := 15) rfl)) rfl (gk_cons (gm_X11_tableOf_0 _ (List.mem_of_getElem? (i := 16) rfl)) rfl (gk_cons (gm_X11_tableOf_0 _ (List.mem_of_getElem? (i := 17) rfl)) rfl (gk_cons (gm_X11_tableOf_0 _ (List.mem_of_getElem? (i := 5) rfl)) rfl (gk_cons (gm_X11_tableOf_0 _ (List.mem_of_getElem? (i := 18) rfl)) rfl (gk_cons (gm_X11_tableOf_0 _ (List.mem_of_getElem? (i := 19) rfl)) rfl (gk_cons (gm_X11_tableOf_0 _ (List.mem_of_getElem? (i := 20) rfl)) rfl (gk_cons (gm_X11_tableOf_0 _ (List.mem_of_getElem? (i := 21) rfl)) rfl (gk_cons (gm_X11_tableOf_0 _ (List.mem_of_getElem? (i := 22) rfl)) rfl (gk_cons (gm_X11_tableOf_0 _ (List.mem_of_getElem? (i := 23) rfl)) rfl (gk_cons (gm_X11_tableOf_1 _ (List.mem_of_getElem? (i := 0) rfl)) rfl gk_nil)))))))))))) (goodIn_sub gm_X11_tableOf_2 ag_wsX110))
theorem gX11_tableOf_X11_turned : GoodIn wsX11_tableOf (wsV RX11 101 RX11 yX11_turned wsX11_turned) := goodIn_app (gk_cons (gm_X11_tableOf_0 _ (List.mem_of_getElem? (i := 10) rfl)) rfl (gk_cons (gm_X11_tableOf_0 _ (List.mem_of_getElem? (i := 11) rfl)) rfl (gk_cons (gm_X11_tableOf_0 _ (List.mem_of_getElem? (i := 12) rfl)) rfl (gk_cons (gm_X11_tableOf_0 _ (List.mem_of_getElem? (i := 5) rfl)) rfl gk_nil)))) ggX11_tableOf_X11_turned
theorem dX11_tableOf_0 : decode cX11_tableOf 0 = .ok (.lconst 0, 1) := by decide +kernel
theorem dX11_tableOf_1 : decode cX11_tableOf 1 = .ok (.lstore 4, 2) := by decide +kernel
theorem dX11_tableOf_3 : decode cX11_tableOf 3 = .ok (.aload_n 0, 1) := by decide +kernel
theorem dX11_tableOf_4 : decode cX11_tableOf 4 = .ok (.iload_n 1, 1) := by decide +kernel
theorem dX11_tableOf_5 : decode cX11_tableOf 5 = .ok (.invokevirtual 104, 3) := by decide +kernel
theorem dX11_tableOf_8 : decode cX11_tableOf 8 = .ok (.ineg, 1) := by decide +kernel
theorem dX11_tableOf_9 : decode cX11_tableOf 9 = .ok (.i2l, 1) := by decide +kernel
theorem dX11_tableOf_10 : decode cX11_tableOf 10 = .ok (.lstore 6, 2) := by decide +kernel
theorem dX11_tableOf_12 : decode cX11_tableOf 12 = .ok (.iconst 0, 1) := by decide +kernel
theorem dX11_tableOf_13 : decode cX11_tableOf 13 = .ok (.istore 8, 2) := by decide +kernel
theorem dX11_tableOf_15 : decode cX11_tableOf 15 = .ok (.iload 8, 2) := by decide +kernel
theorem dX11_tableOf_17 : decode cX11_tableOf 17 = .ok (.aload_n 0, 1) := by decide +kernel
theorem dX11_tableOf_18 : decode cX11_tableOf 18 = .ok (.getfield 35, 3) := by decide +kernel
theorem dX11_tableOf_21 : decode cX11_tableOf 21 = .ok (.iload_n 1, 1) := by decide +kernel
theorem dX11_tableOf_22 : decode cX11_tableOf 22 = .ok (.iaload, 1) := by decide +kernel
theorem dX11_tableOf_23 : decode cX11_tableOf 23 = .ok (.if_icmp .ge 101, 3) := by decide +kernel
theorem dX11_tableOf_26 : decode cX11_tableOf 26 = .ok (.iload_n 1, 1) := by decide +kernel
theorem dX11_tableOf_27 : decode cX11_tableOf 27 = .ok (.iload 8, 2) := by decide +kernel
theorem dX11_tableOf_29 : decode cX11_tableOf 29 = .ok (.invokestatic 86, 3) := by decide +kernel
theorem dX11_tableOf_32 : decode cX11_tableOf 32 = .ok (.istore 9, 2) := by decide +kernel
theorem dX11_tableOf_34 : decode cX11_tableOf 34 = .ok (.lload 6, 2) := by decide +kernel
theorem dX11_tableOf_36 : decode cX11_tableOf 36 = .ok (.iconst 2, 1) := by decide +kernel
theorem dX11_tableOf_37 : decode cX11_tableOf 37 = .ok (.aload_n 0, 1) := by decide +kernel
theorem dX11_tableOf_38 : decode cX11_tableOf 38 = .ok (.getfield 44, 3) := by decide +kernel
theorem dX11_tableOf_41 : decode cX11_tableOf 41 = .ok (.iload 9, 2) := by decide +kernel
theorem dX11_tableOf_43 : decode cX11_tableOf 43 = .ok (.iaload, 1) := by decide +kernel
theorem dX11_tableOf_44 : decode cX11_tableOf 44 = .ok (.imul, 1) := by decide +kernel
theorem dX11_tableOf_45 : decode cX11_tableOf 45 = .ok (.i2l, 1) := by decide +kernel
theorem dX11_tableOf_46 : decode cX11_tableOf 46 = .ok (.ladd, 1) := by decide +kernel
theorem dX11_tableOf_47 : decode cX11_tableOf 47 = .ok (.lstore 10, 2) := by decide +kernel
theorem dX11_tableOf_49 : decode cX11_tableOf 49 = .ok (.lload 4, 2) := by decide +kernel
theorem dX11_tableOf_51 : decode cX11_tableOf 51 = .ok (.aload_n 0, 1) := by decide +kernel
theorem dX11_tableOf_52 : decode cX11_tableOf 52 = .ok (.iload 9, 2) := by decide +kernel
theorem dX11_tableOf_54 : decode cX11_tableOf 54 = .ok (.iload_n 3, 1) := by decide +kernel
theorem dX11_tableOf_55 : decode cX11_tableOf 55 = .ok (.invokevirtual 101, 3) := by decide +kernel
theorem dX11_tableOf_58 : decode cX11_tableOf 58 = .ok (.i2l, 1) := by decide +kernel
theorem dX11_tableOf_59 : decode cX11_tableOf 59 = .ok (.iload_n 2, 1) := by decide +kernel
theorem dX11_tableOf_60 : decode cX11_tableOf 60 = .ok (.ifCond .ne 14, 3) := by decide +kernel
theorem dX11_tableOf_63 : decode cX11_tableOf 63 = .ok (.aload_n 0, 1) := by decide +kernel
theorem dX11_tableOf_64 : decode cX11_tableOf 64 = .ok (.getfield 44, 3) := by decide +kernel
theorem dX11_tableOf_67 : decode cX11_tableOf 67 = .ok (.iload 9, 2) := by decide +kernel
theorem dX11_tableOf_69 : decode cX11_tableOf 69 = .ok (.iaload, 1) := by decide +kernel
theorem dX11_tableOf_70 : decode cX11_tableOf 70 = .ok (.i2l, 1) := by decide +kernel
theorem dX11_tableOf_71 : decode cX11_tableOf 71 = .ok (.goto 39, 3) := by decide +kernel
theorem dX11_tableOf_74 : decode cX11_tableOf 74 = .ok (.iload_n 2, 1) := by decide +kernel
theorem dX11_tableOf_75 : decode cX11_tableOf 75 = .ok (.iconst 1, 1) := by decide +kernel
theorem dX11_tableOf_76 : decode cX11_tableOf 76 = .ok (.if_icmp .ne 17, 3) := by decide +kernel
theorem dX11_tableOf_79 : decode cX11_tableOf 79 = .ok (.lload 10, 2) := by decide +kernel
theorem dX11_tableOf_81 : decode cX11_tableOf 81 = .ok (.lload 10, 2) := by decide +kernel
theorem dX11_tableOf_83 : decode cX11_tableOf 83 = .ok (.lmul, 1) := by decide +kernel
theorem dX11_tableOf_84 : decode cX11_tableOf 84 = .ok (.lload 6, 2) := by decide +kernel
theorem dX11_tableOf_86 : decode cX11_tableOf 86 = .ok (.lload 6, 2) := by decide +kernel
theorem dX11_tableOf_88 : decode cX11_tableOf 88 = .ok (.lmul, 1) := by decide +kernel
theorem dX11_tableOf_89 : decode cX11_tableOf 89 = .ok (.lsub, 1) := by decide +kernel
theorem dX11_tableOf_90 : decode cX11_tableOf 90 = .ok (.goto 20, 3) := by decide +kernel
theorem dX11_tableOf_93 : decode cX11_tableOf 93 = .ok (.lload 10, 2) := by decide +kernel
theorem dX11_tableOf_95 : decode cX11_tableOf 95 = .ok (.lload 10, 2) := by decide +kernel
theorem dX11_tableOf_97 : decode cX11_tableOf 97 = .ok (.lmul, 1) := by decide +kernel
theorem dX11_tableOf_98 : decode cX11_tableOf 98 = .ok (.lload 10, 2) := by decide +kernel
theorem dX11_tableOf_100 : decode cX11_tableOf 100 = .ok (.lmul, 1) := by decide +kernel
theorem dX11_tableOf_101 : decode cX11_tableOf 101 = .ok (.lload 6, 2) := by decide +kernel
theorem dX11_tableOf_103 : decode cX11_tableOf 103 = .ok (.lload 6, 2) := by decide +kernel
theorem dX11_tableOf_105 : decode cX11_tableOf 105 = .ok (.lmul, 1) := by decide +kernel
theorem dX11_tableOf_106 : decode cX11_tableOf 106 = .ok (.lload 6, 2) := by decide +kernel
theorem dX11_tableOf_108 : decode cX11_tableOf 108 = .ok (.lmul, 1) := by decide +kernel
theorem dX11_tableOf_109 : decode cX11_tableOf 109 = .ok (.lsub, 1) := by decide +kernel
theorem dX11_tableOf_110 : decode cX11_tableOf 110 = .ok (.lmul, 1) := by decide +kernel
theorem dX11_tableOf_111 : decode cX11_tableOf 111 = .ok (.ladd, 1) := by decide +kernel
theorem dX11_tableOf_112 : decode cX11_tableOf 112 = .ok (.lstore 4, 2) := by decide +kernel
theorem dX11_tableOf_114 : decode cX11_tableOf 114 = .ok (.lload 10, 2) := by decide +kernel
theorem dX11_tableOf_116 : decode cX11_tableOf 116 = .ok (.lstore 6, 2) := by decide +kernel
theorem dX11_tableOf_118 : decode cX11_tableOf 118 = .ok (.iinc 8 1, 3) := by decide +kernel
theorem dX11_tableOf_121 : decode cX11_tableOf 121 = .ok (.goto (-106), 3) := by decide +kernel
theorem dX11_tableOf_124 : decode cX11_tableOf 124 = .ok (.lload 4, 2) := by decide +kernel
theorem dX11_tableOf_126 : decode cX11_tableOf 126 = .ok (.lreturn, 1) := by decide +kernel
theorem gm_X11_table_0 : ∀ w ∈ wsX11_table_r1, w ∈ wsX11_table := fun w h => List.mem_cons_of_mem _ (List.mem_append_left _ (List.mem_append_left _ h))
theorem gm_X11_table_1 : ∀ w ∈ wsX11_table_r2, w ∈ wsX11_table := fun w h => List.mem_cons_of_mem _ (List.mem_append_left _ (List.mem_append_right _ h))
theorem gm_X11_table_2 : ∀ w ∈ wsX110, w ∈ wsX11_table := fun w h => List.mem_cons_of_mem _ (List.mem_append_right _ h)
theorem ggX11_table_X11_isPlate : GoodIn wsX11_table wsX11_isPlate := gk_cons (gm_X11_table_0 _ (List.mem_of_getElem? (i := 5) rfl)) rfl (goodIn_app (gk_cons (gm_X11_table_0 _ (List.mem_of_getElem? (i := 6) rfl)) rfl (gk_cons (gm_X11_table_0 _ (List.mem_of_getElem? (i := 7) rfl)) rfl (gk_cons (gm_X11_table_0 _ (List.mem_of_getElem? (i := 8) rfl)) rfl (gk_cons (gm_X11_table_0 _ (List.mem_of_getElem? (i := 4) rfl)) rfl (gk_cons (gm_X11_table_0 _ (List.mem_of_getElem? (i := 9) rfl)) rfl gk_nil))))) (goodIn_sub gm_X11_table_2 ag_wsX110))
theorem gX11_table_X11_isPlate : GoodIn wsX11_table (wsV RX11 79 RX11 yX11_isPlate wsX11_isPlate) := goodIn_app (gk_cons (gm_X11_table_0 _ (List.mem_of_getElem? (i := 1) rfl)) rfl (gk_cons (gm_X11_table_0 _ (List.mem_of_getElem? (i := 2) rfl)) rfl (gk_cons (gm_X11_table_0 _ (List.mem_of_getElem? (i := 3) rfl)) rfl (gk_cons (gm_X11_table_0 _ (List.mem_of_getElem? (i := 4) rfl)) rfl gk_nil)))) ggX11_table_X11_isPlate
theorem ggX11_table_X11_isIn : GoodIn wsX11_table wsX11_isIn := gk_cons (gm_X11_table_0 _ (List.mem_of_getElem? (i := 9) rfl)) rfl gk_nil
theorem gX11_table_X11_isIn : GoodIn wsX11_table (va_wsS RX11 69 yX11_isIn wsX11_isIn) := goodIn_app (gk_cons (gm_X11_table_0 _ (List.mem_of_getElem? (i := 7) rfl)) rfl (gk_cons (gm_X11_table_0 _ (List.mem_of_getElem? (i := 8) rfl)) rfl (gk_cons (gm_X11_table_0 _ (List.mem_of_getElem? (i := 4) rfl)) rfl gk_nil))) ggX11_table_X11_isIn
theorem gk_X11_table_X11_tableOf_r1 : GoodIn wsX11_table wsX11_tableOf_r1 := (gk_cons (gm_X11_table_0 _ (List.mem_of_getElem? (i := 14) rfl)) rfl (gk_cons (gm_X11_table_0 _ (List.mem_of_getElem? (i := 15) rfl)) rfl (gk_cons (gm_X11_table_0 _ (List.mem_of_getElem? (i := 16) rfl)) rfl (gk_cons (gm_X11_table_0 _ (List.mem_of_getElem? (i := 17) rfl)) rfl (gk_cons (gm_X11_table_0 _ (List.mem_of_getElem? (i := 18) rfl)) rfl (gk_cons (gm_X11_table_0 _ (List.mem_of_getElem? (i := 4) rfl)) rfl (gk_cons (gm_X11_table_0 _ (List.mem_of_getElem? (i := 19) rfl)) rfl (gk_cons (gm_X11_table_0 _ (List.mem_of_getElem? (i := 20) rfl)) rfl (gk_cons (gm_X11_table_0 _ (List.mem_of_getElem? (i := 21) rfl)) rfl (gk_cons (gm_X11_table_0 _ (List.mem_of_getElem? (i := 22) rfl)) rfl (gk_cons (gm_X11_table_0 _ (List.mem_of_getElem? (i := 23) rfl)) rfl (gk_cons (gm_X11_table_1 _ (List.mem_of_getElem? (i := 0) rfl)) rfl (gk_cons (gm_X11_table_1 _ (List.mem_of_getElem? (i := 1) rfl)) rfl (gk_cons (gm_X11_table_1 _ (List.mem_of_getElem? (i := 2) rfl)) rfl (gk_cons (gm_X11_table_1 _ (List.mem_of_getElem? (i := 3) rfl)) rfl (gk_cons (gm_X11_table_1 _ (List.mem_of_getElem? (i := 4) rfl)) rfl (gk_cons (gm_X11_table_1 _ (List.mem_of_getElem? (i := 5) rfl)) rfl (gk_cons (gm_X11_table_1 _ (List.mem_of_getElem? (i := 6) rfl)) rfl (gk_cons (gm_X11_table_1 _ (List.mem_of_getElem? (i := 7) rfl)) rfl (gk_cons (gm_X11_table_1 _ (List.mem_of_getElem? (i := 8) rfl)) rfl (gk_cons (gm_X11_table_1 _ (List.mem_of_getElem? (i := 9) rfl)) rfl (gk_cons (gm_X11_table_1 _ (List.mem_of_getElem? (i := 10) rfl)) rfl (gk_cons (gm_X11_table_1 _ (List.mem_of_getElem? (i := 11) rfl)) rfl (gk_cons (gm_X11_table_1 _ (List.mem_of_getElem? (i := 12) rfl)) rfl gk_nil))))))))))))))))))))))))
theorem gk_X11_table_X11_tableOf_r2 : GoodIn wsX11_table wsX11_tableOf_r2 := (gk_cons (gm_X11_table_1 _ (List.mem_of_getElem? (i := 13) rfl)) rfl gk_nil)
theorem ggX11_table_X11_tableOf : GoodIn wsX11_table wsX11_tableOf := gk_cons (gm_X11_table_0 _ (List.mem_of_getElem? (i := 13) rfl)) rfl (goodIn_app (goodIn_app gk_X11_table_X11_tableOf_r1 gk_X11_table_X11_tableOf_r2) (goodIn_sub gm_X11_table_2 ag_wsX110))
theorem gX11_table_X11_tableOf : GoodIn wsX11_table (wsV RX11 108 RX11 yX11_tableOf wsX11_tableOf) := goodIn_app (gk_cons (gm_X11_table_0 _ (List.mem_of_getElem? (i := 10) rfl)) rfl (gk_cons (gm_X11_table_0 _ (List.mem_of_getElem? (i := 11) rfl)) rfl (gk_cons (gm_X11_table_0 _ (List.mem_of_getElem? (i := 12) rfl)) rfl (gk_cons (gm_X11_table_0 _ (List.mem_of_getElem? (i := 4) rfl)) rfl gk_nil)))) ggX11_table_X11_tableOf
theorem dX11_table_0 : decode cX11_table 0 = .ok (.aload_n 0, 1) := by decide +kernel
theorem dX11_table_1 : decode cX11_table 1 = .ok (.iload_n 1, 1) := by decide +kernel
theorem dX11_table_2 : decode cX11_table 2 = .ok (.invokevirtual 79, 3) := by decide +kernel
theorem dX11_table_5 : decode cX11_table 5 = .ok (.ifCond .eq 31, 3) := by decide +kernel
theorem dX11_table_8 : decode cX11_table 8 = .ok (.iload_n 2, 1) := by decide +kernel
theorem dX11_table_9 : decode cX11_table 9 = .ok (.iconst 0, 1) := by decide +kernel
theorem dX11_table_10 : decode cX11_table 10 = .ok (.iconst 2, 1) := by decide +kernel
theorem dX11_table_11 : decode cX11_table 11 = .ok (.invokestatic 69, 3) := by decide +kernel
theorem dX11_table_14 : decode cX11_table 14 = .ok (.ifCond .eq 22, 3) := by decide +kernel
theorem dX11_table_17 : decode cX11_table 17 = .ok (.iload_n 3, 1) := by decide +kernel
theorem dX11_table_18 : decode cX11_table 18 = .ok (.iconst 0, 1) := by decide +kernel
theorem dX11_table_19 : decode cX11_table 19 = .ok (.iconst 5, 1) := by decide +kernel
theorem dX11_table_20 : decode cX11_table 20 = .ok (.invokestatic 69, 3) := by decide +kernel
theorem dX11_table_23 : decode cX11_table 23 = .ok (.ifCond .eq 13, 3) := by decide +kernel
theorem dX11_table_26 : decode cX11_table 26 = .ok (.aload_n 0, 1) := by decide +kernel
theorem dX11_table_27 : decode cX11_table 27 = .ok (.iload_n 1, 1) := by decide +kernel
theorem dX11_table_28 : decode cX11_table 28 = .ok (.iload_n 2, 1) := by decide +kernel
theorem dX11_table_29 : decode cX11_table 29 = .ok (.iload_n 3, 1) := by decide +kernel
theorem dX11_table_30 : decode cX11_table 30 = .ok (.invokevirtual 108, 3) := by decide +kernel
theorem dX11_table_33 : decode cX11_table 33 = .ok (.goto 6, 3) := by decide +kernel
theorem dX11_table_36 : decode cX11_table 36 = .ok (.ldc2_w 112, 3) := by decide +kernel
theorem dX11_table_39 : decode cX11_table 39 = .ok (.lreturn, 1) := by decide +kernel
theorem gm_X11_tied_0 : ∀ w ∈ wsX11_tied_r1, w ∈ wsX11_tied := fun w h => List.mem_cons_of_mem _ (List.mem_append_left _ (List.mem_append_left _ h))
theorem gm_X11_tied_1 : ∀ w ∈ wsX11_tied_r2, w ∈ wsX11_tied := fun w h => List.mem_cons_of_mem _ (List.mem_append_left _ (List.mem_append_right _ h))
theorem gm_X11_tied_2 : ∀ w ∈ wsX110, w ∈ wsX11_tied := fun w h => List.mem_cons_of_mem _ (List.mem_append_right _ h)
theorem ggX11_tied_X11_isPlate : GoodIn wsX11_tied wsX11_isPlate := gk_cons (gm_X11_tied_0 _ (List.mem_of_getElem? (i := 4) rfl)) rfl (goodIn_app (gk_cons (gm_X11_tied_0 _ (List.mem_of_getElem? (i := 5) rfl)) rfl (gk_cons (gm_X11_tied_0 _ (List.mem_of_getElem? (i := 6) rfl)) rfl (gk_cons (gm_X11_tied_0 _ (List.mem_of_getElem? (i := 7) rfl)) rfl (gk_cons (gm_X11_tied_0 _ (List.mem_of_getElem? (i := 3) rfl)) rfl (gk_cons (gm_X11_tied_0 _ (List.mem_of_getElem? (i := 8) rfl)) rfl gk_nil))))) (goodIn_sub gm_X11_tied_2 ag_wsX110))
theorem gX11_tied_X11_isPlate : GoodIn wsX11_tied (wsV RX11 79 RX11 yX11_isPlate wsX11_isPlate) := goodIn_app (gk_cons (gm_X11_tied_0 _ (List.mem_of_getElem? (i := 0) rfl)) rfl (gk_cons (gm_X11_tied_0 _ (List.mem_of_getElem? (i := 1) rfl)) rfl (gk_cons (gm_X11_tied_0 _ (List.mem_of_getElem? (i := 2) rfl)) rfl (gk_cons (gm_X11_tied_0 _ (List.mem_of_getElem? (i := 3) rfl)) rfl gk_nil)))) ggX11_tied_X11_isPlate
theorem gk_X11_tied_X11_tableOf_r1 : GoodIn wsX11_tied wsX11_tableOf_r1 := (gk_cons (gm_X11_tied_0 _ (List.mem_of_getElem? (i := 13) rfl)) rfl (gk_cons (gm_X11_tied_0 _ (List.mem_of_getElem? (i := 14) rfl)) rfl (gk_cons (gm_X11_tied_0 _ (List.mem_of_getElem? (i := 15) rfl)) rfl (gk_cons (gm_X11_tied_0 _ (List.mem_of_getElem? (i := 16) rfl)) rfl (gk_cons (gm_X11_tied_0 _ (List.mem_of_getElem? (i := 17) rfl)) rfl (gk_cons (gm_X11_tied_0 _ (List.mem_of_getElem? (i := 3) rfl)) rfl (gk_cons (gm_X11_tied_0 _ (List.mem_of_getElem? (i := 18) rfl)) rfl (gk_cons (gm_X11_tied_0 _ (List.mem_of_getElem? (i := 19) rfl)) rfl (gk_cons (gm_X11_tied_0 _ (List.mem_of_getElem? (i := 20) rfl)) rfl (gk_cons (gm_X11_tied_0 _ (List.mem_of_getElem? (i := 21) rfl)) rfl (gk_cons (gm_X11_tied_0 _ (List.mem_of_getElem? (i := 22) rfl)) rfl (gk_cons (gm_X11_tied_0 _ (List.mem_of_getElem? (i := 23) rfl)) rfl (gk_cons (gm_X11_tied_1 _ (List.mem_of_getElem? (i := 0) rfl)) rfl (gk_cons (gm_X11_tied_1 _ (List.mem_of_getElem? (i := 1) rfl)) rfl (gk_cons (gm_X11_tied_1 _ (List.mem_of_getElem? (i := 2) rfl)) rfl (gk_cons (gm_X11_tied_1 _ (List.mem_of_getElem? (i := 3) rfl)) rfl (gk_cons (gm_X11_tied_1 _ (List.mem_of_getElem? (i := 4) rfl)) rfl (gk_cons (gm_X11_tied_1 _ (List.mem_of_getElem? (i := 5) rfl)) rfl (gk_cons (gm_X11_tied_1 _ (List.mem_of_getElem? (i := 6) rfl)) rfl (gk_cons (gm_X11_tied_1 _ (List.mem_of_getElem? (i := 7) rfl)) rfl (gk_cons (gm_X11_tied_1 _ (List.mem_of_getElem? (i := 8) rfl)) rfl (gk_cons (gm_X11_tied_1 _ (List.mem_of_getElem? (i := 9) rfl)) rfl (gk_cons (gm_X11_tied_1 _ (List.mem_of_getElem? (i := 10) rfl)) rfl (gk_cons (gm_X11_tied_1 _ (List.mem_of_getElem? (i := 11) rfl)) rfl gk_nil))))))))))))))))))))))))
theorem gk_X11_tied_X11_tableOf_r2 : GoodIn wsX11_tied wsX11_tableOf_r2 := (gk_cons (gm_X11_tied_1 _ (List.mem_of_getElem? (i := 12) rfl)) rfl gk_nil)
theorem ggX11_tied_X11_tableOf : GoodIn wsX11_tied wsX11_tableOf := gk_cons (gm_X11_tied_0 _ (List.mem_of_getElem? (i := 12) rfl)) rfl (goodIn_app (goodIn_app gk_X11_tied_X11_tableOf_r1 gk_X11_tied_X11_tableOf_r2) (goodIn_sub gm_X11_tied_2 ag_wsX110))
theorem gX11_tied_X11_tableOf : GoodIn wsX11_tied (wsV RX11 108 RX11 yX11_tableOf wsX11_tableOf) := goodIn_app (gk_cons (gm_X11_tied_0 _ (List.mem_of_getElem? (i := 9) rfl)) rfl (gk_cons (gm_X11_tied_0 _ (List.mem_of_getElem? (i := 10) rfl)) rfl (gk_cons (gm_X11_tied_0 _ (List.mem_of_getElem? (i := 11) rfl)) rfl (gk_cons (gm_X11_tied_0 _ (List.mem_of_getElem? (i := 3) rfl)) rfl gk_nil)))) ggX11_tied_X11_tableOf
theorem dX11_tied_0 : decode cX11_tied 0 = .ok (.aload_n 0, 1) := by decide +kernel
theorem dX11_tied_1 : decode cX11_tied 1 = .ok (.iload_n 1, 1) := by decide +kernel
theorem dX11_tied_2 : decode cX11_tied 2 = .ok (.invokevirtual 79, 3) := by decide +kernel
theorem dX11_tied_5 : decode cX11_tied 5 = .ok (.ifCond .ne 5, 3) := by decide +kernel
theorem dX11_tied_8 : decode cX11_tied 8 = .ok (.iconst (-1), 1) := by decide +kernel
theorem dX11_tied_9 : decode cX11_tied 9 = .ok (.ireturn, 1) := by decide +kernel
theorem dX11_tied_10 : decode cX11_tied 10 = .ok (.iconst 0, 1) := by decide +kernel
theorem dX11_tied_11 : decode cX11_tied 11 = .ok (.istore_n 2, 1) := by decide +kernel
theorem dX11_tied_12 : decode cX11_tied 12 = .ok (.iconst 0, 1) := by decide +kernel
theorem dX11_tied_13 : decode cX11_tied 13 = .ok (.istore_n 3, 1) := by decide +kernel
theorem dX11_tied_14 : decode cX11_tied 14 = .ok (.iload_n 3, 1) := by decide +kernel
theorem dX11_tied_15 : decode cX11_tied 15 = .ok (.iconst 2, 1) := by decide +kernel
theorem dX11_tied_16 : decode cX11_tied 16 = .ok (.if_icmp .ge 57, 3) := by decide +kernel
theorem dX11_tied_19 : decode cX11_tied 19 = .ok (.iload_n 2, 1) := by decide +kernel
theorem dX11_tied_20 : decode cX11_tied 20 = .ok (.aload_n 0, 1) := by decide +kernel
theorem dX11_tied_21 : decode cX11_tied 21 = .ok (.iload_n 1, 1) := by decide +kernel
theorem dX11_tied_22 : decode cX11_tied 22 = .ok (.iconst 0, 1) := by decide +kernel
theorem dX11_tied_23 : decode cX11_tied 23 = .ok (.iconst 4, 1) := by decide +kernel
theorem dX11_tied_24 : decode cX11_tied 24 = .ok (.iload_n 3, 1) := by decide +kernel
theorem dX11_tied_25 : decode cX11_tied 25 = .ok (.iadd, 1) := by decide +kernel
theorem dX11_tied_26 : decode cX11_tied 26 = .ok (.invokevirtual 108, 3) := by decide +kernel
theorem dX11_tied_29 : decode cX11_tied 29 = .ok (.lconst 0, 1) := by decide +kernel
theorem dX11_tied_30 : decode cX11_tied 30 = .ok (.lcmp, 1) := by decide +kernel
theorem dX11_tied_31 : decode cX11_tied 31 = .ok (.ifCond .eq 9, 3) := by decide +kernel
theorem dX11_tied_34 : decode cX11_tied 34 = .ok (.iconst 1, 1) := by decide +kernel
theorem dX11_tied_35 : decode cX11_tied 35 = .ok (.iload_n 3, 1) := by decide +kernel
theorem dX11_tied_36 : decode cX11_tied 36 = .ok (.ishl, 1) := by decide +kernel
theorem dX11_tied_37 : decode cX11_tied 37 = .ok (.goto 4, 3) := by decide +kernel
theorem dX11_tied_40 : decode cX11_tied 40 = .ok (.iconst 0, 1) := by decide +kernel
theorem dX11_tied_41 : decode cX11_tied 41 = .ok (.ior, 1) := by decide +kernel
theorem dX11_tied_42 : decode cX11_tied 42 = .ok (.istore_n 2, 1) := by decide +kernel
theorem dX11_tied_43 : decode cX11_tied 43 = .ok (.iload_n 2, 1) := by decide +kernel
theorem dX11_tied_44 : decode cX11_tied 44 = .ok (.aload_n 0, 1) := by decide +kernel
theorem dX11_tied_45 : decode cX11_tied 45 = .ok (.iload_n 1, 1) := by decide +kernel
theorem dX11_tied_46 : decode cX11_tied 46 = .ok (.iconst 2, 1) := by decide +kernel
theorem dX11_tied_47 : decode cX11_tied 47 = .ok (.iconst 4, 1) := by decide +kernel
theorem dX11_tied_48 : decode cX11_tied 48 = .ok (.iload_n 3, 1) := by decide +kernel
theorem dX11_tied_49 : decode cX11_tied 49 = .ok (.iadd, 1) := by decide +kernel
theorem dX11_tied_50 : decode cX11_tied 50 = .ok (.invokevirtual 108, 3) := by decide +kernel
theorem dX11_tied_53 : decode cX11_tied 53 = .ok (.lconst 0, 1) := by decide +kernel
theorem dX11_tied_54 : decode cX11_tied 54 = .ok (.lcmp, 1) := by decide +kernel
theorem dX11_tied_55 : decode cX11_tied 55 = .ok (.ifCond .eq 9, 3) := by decide +kernel
theorem dX11_tied_58 : decode cX11_tied 58 = .ok (.iconst 4, 1) := by decide +kernel
theorem dX11_tied_59 : decode cX11_tied 59 = .ok (.iload_n 3, 1) := by decide +kernel
theorem dX11_tied_60 : decode cX11_tied 60 = .ok (.ishl, 1) := by decide +kernel
theorem dX11_tied_61 : decode cX11_tied 61 = .ok (.goto 4, 3) := by decide +kernel
theorem dX11_tied_64 : decode cX11_tied 64 = .ok (.iconst 0, 1) := by decide +kernel
theorem dX11_tied_65 : decode cX11_tied 65 = .ok (.ior, 1) := by decide +kernel
theorem dX11_tied_66 : decode cX11_tied 66 = .ok (.istore_n 2, 1) := by decide +kernel
theorem dX11_tied_67 : decode cX11_tied 67 = .ok (.iinc 3 1, 3) := by decide +kernel
theorem dX11_tied_70 : decode cX11_tied 70 = .ok (.goto (-56), 3) := by decide +kernel
theorem dX11_tied_73 : decode cX11_tied 73 = .ok (.iconst 0, 1) := by decide +kernel
theorem dX11_tied_74 : decode cX11_tied 74 = .ok (.istore_n 3, 1) := by decide +kernel
theorem dX11_tied_75 : decode cX11_tied 75 = .ok (.iload_n 3, 1) := by decide +kernel
theorem dX11_tied_76 : decode cX11_tied 76 = .ok (.bipush 6, 2) := by decide +kernel
theorem dX11_tied_78 : decode cX11_tied 78 = .ok (.if_icmp .ge 30, 3) := by decide +kernel
theorem dX11_tied_81 : decode cX11_tied 81 = .ok (.iload_n 2, 1) := by decide +kernel
theorem dX11_tied_82 : decode cX11_tied 82 = .ok (.aload_n 0, 1) := by decide +kernel
theorem dX11_tied_83 : decode cX11_tied 83 = .ok (.iload_n 1, 1) := by decide +kernel
theorem dX11_tied_84 : decode cX11_tied 84 = .ok (.iconst 1, 1) := by decide +kernel
theorem dX11_tied_85 : decode cX11_tied 85 = .ok (.iload_n 3, 1) := by decide +kernel
theorem dX11_tied_86 : decode cX11_tied 86 = .ok (.invokevirtual 108, 3) := by decide +kernel
theorem dX11_tied_89 : decode cX11_tied 89 = .ok (.lconst 0, 1) := by decide +kernel
theorem dX11_tied_90 : decode cX11_tied 90 = .ok (.lcmp, 1) := by decide +kernel
theorem dX11_tied_91 : decode cX11_tied 91 = .ok (.ifCond .eq 8, 3) := by decide +kernel
theorem dX11_tied_94 : decode cX11_tied 94 = .ok (.bipush 16, 2) := by decide +kernel
theorem dX11_tied_96 : decode cX11_tied 96 = .ok (.goto 4, 3) := by decide +kernel
theorem dX11_tied_99 : decode cX11_tied 99 = .ok (.iconst 0, 1) := by decide +kernel
theorem dX11_tied_100 : decode cX11_tied 100 = .ok (.ior, 1) := by decide +kernel
theorem dX11_tied_101 : decode cX11_tied 101 = .ok (.istore_n 2, 1) := by decide +kernel
theorem dX11_tied_102 : decode cX11_tied 102 = .ok (.iinc 3 1, 3) := by decide +kernel
theorem dX11_tied_105 : decode cX11_tied 105 = .ok (.goto (-30), 3) := by decide +kernel
theorem dX11_tied_108 : decode cX11_tied 108 = .ok (.iload_n 2, 1) := by decide +kernel
theorem dX11_tied_109 : decode cX11_tied 109 = .ok (.ireturn, 1) := by decide +kernel
theorem dX11_isAlike_0 : decode cX11_isAlike 0 = .ok (.aload_n 0, 1) := by decide +kernel
theorem dX11_isAlike_1 : decode cX11_isAlike 1 = .ok (.getfield 38, 3) := by decide +kernel
theorem dX11_isAlike_4 : decode cX11_isAlike 4 = .ok (.iload_n 1, 1) := by decide +kernel
theorem dX11_isAlike_5 : decode cX11_isAlike 5 = .ok (.iaload, 1) := by decide +kernel
theorem dX11_isAlike_6 : decode cX11_isAlike 6 = .ok (.aload_n 0, 1) := by decide +kernel
theorem dX11_isAlike_7 : decode cX11_isAlike 7 = .ok (.getfield 38, 3) := by decide +kernel
theorem dX11_isAlike_10 : decode cX11_isAlike 10 = .ok (.iload_n 2, 1) := by decide +kernel
theorem dX11_isAlike_11 : decode cX11_isAlike 11 = .ok (.iaload, 1) := by decide +kernel
theorem dX11_isAlike_12 : decode cX11_isAlike 12 = .ok (.if_icmp .ne 52, 3) := by decide +kernel
theorem dX11_isAlike_15 : decode cX11_isAlike 15 = .ok (.aload_n 0, 1) := by decide +kernel
theorem dX11_isAlike_16 : decode cX11_isAlike 16 = .ok (.getfield 41, 3) := by decide +kernel
theorem dX11_isAlike_19 : decode cX11_isAlike 19 = .ok (.iload_n 1, 1) := by decide +kernel
theorem dX11_isAlike_20 : decode cX11_isAlike 20 = .ok (.iaload, 1) := by decide +kernel
theorem dX11_isAlike_21 : decode cX11_isAlike 21 = .ok (.aload_n 0, 1) := by decide +kernel
theorem dX11_isAlike_22 : decode cX11_isAlike 22 = .ok (.getfield 41, 3) := by decide +kernel
theorem dX11_isAlike_25 : decode cX11_isAlike 25 = .ok (.iload_n 2, 1) := by decide +kernel
theorem dX11_isAlike_26 : decode cX11_isAlike 26 = .ok (.iaload, 1) := by decide +kernel
theorem dX11_isAlike_27 : decode cX11_isAlike 27 = .ok (.if_icmp .ne 37, 3) := by decide +kernel
theorem dX11_isAlike_30 : decode cX11_isAlike 30 = .ok (.aload_n 0, 1) := by decide +kernel
theorem dX11_isAlike_31 : decode cX11_isAlike 31 = .ok (.getfield 44, 3) := by decide +kernel
theorem dX11_isAlike_34 : decode cX11_isAlike 34 = .ok (.iload_n 1, 1) := by decide +kernel
theorem dX11_isAlike_35 : decode cX11_isAlike 35 = .ok (.iaload, 1) := by decide +kernel
theorem dX11_isAlike_36 : decode cX11_isAlike 36 = .ok (.aload_n 0, 1) := by decide +kernel
theorem dX11_isAlike_37 : decode cX11_isAlike 37 = .ok (.getfield 44, 3) := by decide +kernel
theorem dX11_isAlike_40 : decode cX11_isAlike 40 = .ok (.iload_n 2, 1) := by decide +kernel
theorem dX11_isAlike_41 : decode cX11_isAlike 41 = .ok (.iaload, 1) := by decide +kernel
theorem dX11_isAlike_42 : decode cX11_isAlike 42 = .ok (.if_icmp .ne 22, 3) := by decide +kernel
theorem dX11_isAlike_45 : decode cX11_isAlike 45 = .ok (.aload_n 0, 1) := by decide +kernel
theorem dX11_isAlike_46 : decode cX11_isAlike 46 = .ok (.getfield 47, 3) := by decide +kernel
theorem dX11_isAlike_49 : decode cX11_isAlike 49 = .ok (.iload_n 1, 1) := by decide +kernel
theorem dX11_isAlike_50 : decode cX11_isAlike 50 = .ok (.iaload, 1) := by decide +kernel
theorem dX11_isAlike_51 : decode cX11_isAlike 51 = .ok (.aload_n 0, 1) := by decide +kernel
theorem dX11_isAlike_52 : decode cX11_isAlike 52 = .ok (.getfield 47, 3) := by decide +kernel
theorem dX11_isAlike_55 : decode cX11_isAlike 55 = .ok (.iload_n 2, 1) := by decide +kernel
theorem dX11_isAlike_56 : decode cX11_isAlike 56 = .ok (.iaload, 1) := by decide +kernel
theorem dX11_isAlike_57 : decode cX11_isAlike 57 = .ok (.if_icmp .ne 7, 3) := by decide +kernel
theorem dX11_isAlike_60 : decode cX11_isAlike 60 = .ok (.iconst 1, 1) := by decide +kernel
theorem dX11_isAlike_61 : decode cX11_isAlike 61 = .ok (.goto 4, 3) := by decide +kernel
theorem dX11_isAlike_64 : decode cX11_isAlike 64 = .ok (.iconst 0, 1) := by decide +kernel
theorem dX11_isAlike_65 : decode cX11_isAlike 65 = .ok (.ireturn, 1) := by decide +kernel
theorem gm_X11_isEven_0 : ∀ w ∈ wsX110, w ∈ wsX11_isEven := fun w h => List.mem_cons_of_mem _ (List.mem_append_right _ h)
theorem ggX11_isEven_X11_spot : GoodIn wsX11_isEven wsX11_spot := gk_cons (List.mem_cons_of_mem _ (List.mem_append_left _ (List.mem_of_getElem? (i := 4) rfl))) rfl gk_nil
theorem gX11_isEven_X11_spot : GoodIn wsX11_isEven (va_wsS RX11 86 yX11_spot wsX11_spot) := goodIn_app (gk_cons (List.mem_cons_of_mem _ (List.mem_append_left _ (List.mem_of_getElem? (i := 1) rfl))) rfl (gk_cons (List.mem_cons_of_mem _ (List.mem_append_left _ (List.mem_of_getElem? (i := 2) rfl))) rfl (gk_cons (List.mem_cons_of_mem _ (List.mem_append_left _ (List.mem_of_getElem? (i := 3) rfl))) rfl gk_nil))) ggX11_isEven_X11_spot
theorem ggX11_isEven_X11_isAlike : GoodIn wsX11_isEven wsX11_isAlike := gk_cons (List.mem_cons_of_mem _ (List.mem_append_left _ (List.mem_of_getElem? (i := 8) rfl))) rfl (goodIn_app (gk_cons (List.mem_cons_of_mem _ (List.mem_append_left _ (List.mem_of_getElem? (i := 9) rfl))) rfl (gk_cons (List.mem_cons_of_mem _ (List.mem_append_left _ (List.mem_of_getElem? (i := 10) rfl))) rfl (gk_cons (List.mem_cons_of_mem _ (List.mem_append_left _ (List.mem_of_getElem? (i := 11) rfl))) rfl (gk_cons (List.mem_cons_of_mem _ (List.mem_append_left _ (List.mem_of_getElem? (i := 12) rfl))) rfl gk_nil)))) (goodIn_sub gm_X11_isEven_0 ag_wsX110))
theorem gX11_isEven_X11_isAlike : GoodIn wsX11_isEven (wsV RX11 114 RX11 yX11_isAlike wsX11_isAlike) := goodIn_app (gk_cons (List.mem_cons_of_mem _ (List.mem_append_left _ (List.mem_of_getElem? (i := 5) rfl))) rfl (gk_cons (List.mem_cons_of_mem _ (List.mem_append_left _ (List.mem_of_getElem? (i := 6) rfl))) rfl (gk_cons (List.mem_cons_of_mem _ (List.mem_append_left _ (List.mem_of_getElem? (i := 7) rfl))) rfl (gk_cons (List.mem_cons_of_mem _ (List.mem_append_left _ (List.mem_of_getElem? (i := 3) rfl))) rfl gk_nil)))) ggX11_isEven_X11_isAlike
theorem dX11_isEven_0 : decode cX11_isEven 0 = .ok (.iconst 1, 1) := by decide +kernel
theorem dX11_isEven_1 : decode cX11_isEven 1 = .ok (.istore_n 2, 1) := by decide +kernel
theorem dX11_isEven_2 : decode cX11_isEven 2 = .ok (.iconst 0, 1) := by decide +kernel
theorem dX11_isEven_3 : decode cX11_isEven 3 = .ok (.istore_n 3, 1) := by decide +kernel
theorem dX11_isEven_4 : decode cX11_isEven 4 = .ok (.iload_n 3, 1) := by decide +kernel
theorem dX11_isEven_5 : decode cX11_isEven 5 = .ok (.aload_n 0, 1) := by decide +kernel
theorem dX11_isEven_6 : decode cX11_isEven 6 = .ok (.getfield 35, 3) := by decide +kernel
theorem dX11_isEven_9 : decode cX11_isEven 9 = .ok (.iload_n 1, 1) := by decide +kernel
theorem dX11_isEven_10 : decode cX11_isEven 10 = .ok (.iaload, 1) := by decide +kernel
theorem dX11_isEven_11 : decode cX11_isEven 11 = .ok (.if_icmp .ge 37, 3) := by decide +kernel
theorem dX11_isEven_14 : decode cX11_isEven 14 = .ok (.iload_n 2, 1) := by decide +kernel
theorem dX11_isEven_15 : decode cX11_isEven 15 = .ok (.ifCond .eq 33, 3) := by decide +kernel
theorem dX11_isEven_18 : decode cX11_isEven 18 = .ok (.aload_n 0, 1) := by decide +kernel
theorem dX11_isEven_19 : decode cX11_isEven 19 = .ok (.iload_n 1, 1) := by decide +kernel
theorem dX11_isEven_20 : decode cX11_isEven 20 = .ok (.iload_n 3, 1) := by decide +kernel
theorem dX11_isEven_21 : decode cX11_isEven 21 = .ok (.invokestatic 86, 3) := by decide +kernel
theorem dX11_isEven_24 : decode cX11_isEven 24 = .ok (.iload_n 1, 1) := by decide +kernel
theorem dX11_isEven_25 : decode cX11_isEven 25 = .ok (.aload_n 0, 1) := by decide +kernel
theorem dX11_isEven_26 : decode cX11_isEven 26 = .ok (.getfield 35, 3) := by decide +kernel
theorem dX11_isEven_29 : decode cX11_isEven 29 = .ok (.iload_n 1, 1) := by decide +kernel
theorem dX11_isEven_30 : decode cX11_isEven 30 = .ok (.iaload, 1) := by decide +kernel
theorem dX11_isEven_31 : decode cX11_isEven 31 = .ok (.iconst 1, 1) := by decide +kernel
theorem dX11_isEven_32 : decode cX11_isEven 32 = .ok (.isub, 1) := by decide +kernel
theorem dX11_isEven_33 : decode cX11_isEven 33 = .ok (.iload_n 3, 1) := by decide +kernel
theorem dX11_isEven_34 : decode cX11_isEven 34 = .ok (.isub, 1) := by decide +kernel
theorem dX11_isEven_35 : decode cX11_isEven 35 = .ok (.invokestatic 86, 3) := by decide +kernel
theorem dX11_isEven_38 : decode cX11_isEven 38 = .ok (.invokevirtual 114, 3) := by decide +kernel
theorem dX11_isEven_41 : decode cX11_isEven 41 = .ok (.istore_n 2, 1) := by decide +kernel
theorem dX11_isEven_42 : decode cX11_isEven 42 = .ok (.iinc 3 1, 3) := by decide +kernel
theorem dX11_isEven_45 : decode cX11_isEven 45 = .ok (.goto (-41), 3) := by decide +kernel
theorem dX11_isEven_48 : decode cX11_isEven 48 = .ok (.iload_n 2, 1) := by decide +kernel
theorem dX11_isEven_49 : decode cX11_isEven 49 = .ok (.ireturn, 1) := by decide +kernel
theorem gm_X11_even_0 : ∀ w ∈ wsX11_even_r1, w ∈ wsX11_even := fun w h => List.mem_cons_of_mem _ (List.mem_append_left _ (List.mem_append_left _ h))
theorem gm_X11_even_1 : ∀ w ∈ wsX11_even_r2, w ∈ wsX11_even := fun w h => List.mem_cons_of_mem _ (List.mem_append_left _ (List.mem_append_right _ h))
theorem gm_X11_even_2 : ∀ w ∈ wsX110, w ∈ wsX11_even := fun w h => List.mem_cons_of_mem _ (List.mem_append_right _ h)
theorem ggX11_even_X11_isPlate : GoodIn wsX11_even wsX11_isPlate := gk_cons (gm_X11_even_0 _ (List.mem_of_getElem? (i := 4) rfl)) rfl (goodIn_app (gk_cons (gm_X11_even_0 _ (List.mem_of_getElem? (i := 5) rfl)) rfl (gk_cons (gm_X11_even_0 _ (List.mem_of_getElem? (i := 6) rfl)) rfl (gk_cons (gm_X11_even_0 _ (List.mem_of_getElem? (i := 7) rfl)) rfl (gk_cons (gm_X11_even_0 _ (List.mem_of_getElem? (i := 3) rfl)) rfl (gk_cons (gm_X11_even_0 _ (List.mem_of_getElem? (i := 8) rfl)) rfl gk_nil))))) (goodIn_sub gm_X11_even_2 ag_wsX110))
theorem gX11_even_X11_isPlate : GoodIn wsX11_even (wsV RX11 79 RX11 yX11_isPlate wsX11_isPlate) := goodIn_app (gk_cons (gm_X11_even_0 _ (List.mem_of_getElem? (i := 0) rfl)) rfl (gk_cons (gm_X11_even_0 _ (List.mem_of_getElem? (i := 1) rfl)) rfl (gk_cons (gm_X11_even_0 _ (List.mem_of_getElem? (i := 2) rfl)) rfl (gk_cons (gm_X11_even_0 _ (List.mem_of_getElem? (i := 3) rfl)) rfl gk_nil)))) ggX11_even_X11_isPlate
theorem ggX11_even_X11_isEven : GoodIn wsX11_even wsX11_isEven := gk_cons (gm_X11_even_0 _ (List.mem_of_getElem? (i := 12) rfl)) rfl (goodIn_app (gk_cons (gm_X11_even_0 _ (List.mem_of_getElem? (i := 13) rfl)) rfl (gk_cons (gm_X11_even_0 _ (List.mem_of_getElem? (i := 14) rfl)) rfl (gk_cons (gm_X11_even_0 _ (List.mem_of_getElem? (i := 15) rfl)) rfl (gk_cons (gm_X11_even_0 _ (List.mem_of_getElem? (i := 3) rfl)) rfl (gk_cons (gm_X11_even_0 _ (List.mem_of_getElem? (i := 16) rfl)) rfl (gk_cons (gm_X11_even_0 _ (List.mem_of_getElem? (i := 17) rfl)) rfl (gk_cons (gm_X11_even_0 _ (List.mem_of_getElem? (i := 18) rfl)) rfl (gk_cons (gm_X11_even_0 _ (List.mem_of_getElem? (i := 19) rfl)) rfl (gk_cons (gm_X11_even_0 _ (List.mem_of_getElem? (i := 20) rfl)) rfl (gk_cons (gm_X11_even_0 _ (List.mem_of_getElem? (i := 21) rfl)) rfl (gk_cons (gm_X11_even_0 _ (List.mem_of_getElem? (i := 22) rfl)) rfl (gk_cons (gm_X11_even_0 _ (List.mem_of_getElem? (i := 23) rfl)) rfl (gk_cons (gm_X11_even_1 _ (List.mem_of_getElem? (i := 0) rfl)) rfl gk_nil))))))))))))) (goodIn_sub gm_X11_even_2 ag_wsX110))
theorem gX11_even_X11_isEven : GoodIn wsX11_even (wsV RX11 117 RX11 yX11_isEven wsX11_isEven) := goodIn_app (gk_cons (gm_X11_even_0 _ (List.mem_of_getElem? (i := 9) rfl)) rfl (gk_cons (gm_X11_even_0 _ (List.mem_of_getElem? (i := 10) rfl)) rfl (gk_cons (gm_X11_even_0 _ (List.mem_of_getElem? (i := 11) rfl)) rfl (gk_cons (gm_X11_even_0 _ (List.mem_of_getElem? (i := 3) rfl)) rfl gk_nil)))) ggX11_even_X11_isEven
theorem dX11_even_0 : decode cX11_even 0 = .ok (.aload_n 0, 1) := by decide +kernel
theorem dX11_even_1 : decode cX11_even 1 = .ok (.iload_n 1, 1) := by decide +kernel
theorem dX11_even_2 : decode cX11_even 2 = .ok (.invokevirtual 79, 3) := by decide +kernel
theorem dX11_even_5 : decode cX11_even 5 = .ok (.ifCond .eq 19, 3) := by decide +kernel
theorem dX11_even_8 : decode cX11_even 8 = .ok (.aload_n 0, 1) := by decide +kernel
theorem dX11_even_9 : decode cX11_even 9 = .ok (.iload_n 1, 1) := by decide +kernel
theorem dX11_even_10 : decode cX11_even 10 = .ok (.invokevirtual 117, 3) := by decide +kernel
theorem dX11_even_13 : decode cX11_even 13 = .ok (.ifCond .eq 7, 3) := by decide +kernel
theorem dX11_even_16 : decode cX11_even 16 = .ok (.iconst 1, 1) := by decide +kernel
theorem dX11_even_17 : decode cX11_even 17 = .ok (.goto 8, 3) := by decide +kernel
theorem dX11_even_20 : decode cX11_even 20 = .ok (.iconst 0, 1) := by decide +kernel
theorem dX11_even_21 : decode cX11_even 21 = .ok (.goto 4, 3) := by decide +kernel
theorem dX11_even_24 : decode cX11_even 24 = .ok (.iconst (-1), 1) := by decide +kernel
theorem dX11_even_25 : decode cX11_even 25 = .ok (.ireturn, 1) := by decide +kernel
theorem gm_X11_solve_0 : ∀ w ∈ wsX11_solve_r1, w ∈ wsX11_solve := fun w h => List.mem_cons_of_mem _ (List.mem_append_left _ (List.mem_append_left _ h))
theorem gm_X11_solve_1 : ∀ w ∈ wsX11_solve_r2, w ∈ wsX11_solve := fun w h => List.mem_cons_of_mem _ (List.mem_append_left _ (List.mem_append_right _ h))
theorem gm_X11_solve_2 : ∀ w ∈ wsX110, w ∈ wsX11_solve := fun w h => List.mem_cons_of_mem _ (List.mem_append_right _ h)
theorem gk_X11_solve_X11_tableOf_r1 : GoodIn wsX11_solve wsX11_tableOf_r1 := (gk_cons (gm_X11_solve_0 _ (List.mem_of_getElem? (i := 9) rfl)) rfl (gk_cons (gm_X11_solve_0 _ (List.mem_of_getElem? (i := 10) rfl)) rfl (gk_cons (gm_X11_solve_0 _ (List.mem_of_getElem? (i := 11) rfl)) rfl (gk_cons (gm_X11_solve_0 _ (List.mem_of_getElem? (i := 12) rfl)) rfl (gk_cons (gm_X11_solve_0 _ (List.mem_of_getElem? (i := 13) rfl)) rfl (gk_cons (gm_X11_solve_0 _ (List.mem_of_getElem? (i := 7) rfl)) rfl (gk_cons (gm_X11_solve_0 _ (List.mem_of_getElem? (i := 14) rfl)) rfl (gk_cons (gm_X11_solve_0 _ (List.mem_of_getElem? (i := 15) rfl)) rfl (gk_cons (gm_X11_solve_0 _ (List.mem_of_getElem? (i := 16) rfl)) rfl (gk_cons (gm_X11_solve_0 _ (List.mem_of_getElem? (i := 17) rfl)) rfl (gk_cons (gm_X11_solve_0 _ (List.mem_of_getElem? (i := 18) rfl)) rfl (gk_cons (gm_X11_solve_0 _ (List.mem_of_getElem? (i := 19) rfl)) rfl (gk_cons (gm_X11_solve_0 _ (List.mem_of_getElem? (i := 20) rfl)) rfl (gk_cons (gm_X11_solve_0 _ (List.mem_of_getElem? (i := 21) rfl)) rfl (gk_cons (gm_X11_solve_0 _ (List.mem_of_getElem? (i := 22) rfl)) rfl (gk_cons (gm_X11_solve_0 _ (List.mem_of_getElem? (i := 23) rfl)) rfl (gk_cons (gm_X11_solve_1 _ (List.mem_of_getElem? (i := 0) rfl)) rfl (gk_cons (gm_X11_solve_1 _ (List.mem_of_getElem? (i := 1) rfl)) rfl (gk_cons (gm_X11_solve_1 _ (List.mem_of_getElem? (i := 2) rfl)) rfl (gk_cons (gm_X11_solve_1 _ (List.mem_of_getElem? (i := 3) rfl)) rfl (gk_cons (gm_X11_solve_1 _ (List.mem_of_getElem? (i := 4) rfl)) rfl (gk_cons (gm_X11_solve_1 _ (List.mem_of_getElem? (i := 5) rfl)) rfl (gk_cons (gm_X11_solve_1 _ (List.mem_of_getElem? (i := 6) rfl)) rfl (gk_cons (gm_X11_solve_1 _ (List.mem_of_getElem? (i := 7) rfl)) rfl gk_nil))))))))))))))))))))))))
theorem gk_X11_solve_X11_tableOf_r2 : GoodIn wsX11_solve wsX11_tableOf_r2 := (gk_cons (gm_X11_solve_1 _ (List.mem_of_getElem? (i := 8) rfl)) rfl gk_nil)
theorem ggX11_solve_X11_tableOf : GoodIn wsX11_solve wsX11_tableOf := gk_cons (gm_X11_solve_0 _ (List.mem_of_getElem? (i := 8) rfl)) rfl (goodIn_app (goodIn_app gk_X11_solve_X11_tableOf_r1 gk_X11_solve_X11_tableOf_r2) (goodIn_sub gm_X11_solve_2 ag_wsX110))
theorem gX11_solve_X11_tableOf : GoodIn wsX11_solve (wsV RX11 108 RX11 yX11_tableOf wsX11_tableOf) := goodIn_app (gk_cons (gm_X11_solve_0 _ (List.mem_of_getElem? (i := 4) rfl)) rfl (gk_cons (gm_X11_solve_0 _ (List.mem_of_getElem? (i := 5) rfl)) rfl (gk_cons (gm_X11_solve_0 _ (List.mem_of_getElem? (i := 6) rfl)) rfl (gk_cons (gm_X11_solve_0 _ (List.mem_of_getElem? (i := 7) rfl)) rfl gk_nil)))) ggX11_solve_X11_tableOf
theorem dX11_solve_0 : decode cX11_solve 0 = .ok (.aload_n 0, 1) := by decide +kernel
theorem dX11_solve_1 : decode cX11_solve 1 = .ok (.iload_n 1, 1) := by decide +kernel
theorem dX11_solve_2 : decode cX11_solve 2 = .ok (.iconst 0, 1) := by decide +kernel
theorem dX11_solve_3 : decode cX11_solve 3 = .ok (.iconst 0, 1) := by decide +kernel
theorem dX11_solve_4 : decode cX11_solve 4 = .ok (.invokevirtual 108, 3) := by decide +kernel
theorem dX11_solve_7 : decode cX11_solve 7 = .ok (.lstore 8, 2) := by decide +kernel
theorem dX11_solve_9 : decode cX11_solve 9 = .ok (.aload_n 0, 1) := by decide +kernel
theorem dX11_solve_10 : decode cX11_solve 10 = .ok (.iload_n 1, 1) := by decide +kernel
theorem dX11_solve_11 : decode cX11_solve 11 = .ok (.iconst 0, 1) := by decide +kernel
theorem dX11_solve_12 : decode cX11_solve 12 = .ok (.iconst 1, 1) := by decide +kernel
theorem dX11_solve_13 : decode cX11_solve 13 = .ok (.invokevirtual 108, 3) := by decide +kernel
theorem dX11_solve_16 : decode cX11_solve 16 = .ok (.lstore 10, 2) := by decide +kernel
theorem dX11_solve_18 : decode cX11_solve 18 = .ok (.aload_n 0, 1) := by decide +kernel
theorem dX11_solve_19 : decode cX11_solve 19 = .ok (.iload_n 1, 1) := by decide +kernel
theorem dX11_solve_20 : decode cX11_solve 20 = .ok (.iconst 0, 1) := by decide +kernel
theorem dX11_solve_21 : decode cX11_solve 21 = .ok (.iconst 2, 1) := by decide +kernel
theorem dX11_solve_22 : decode cX11_solve 22 = .ok (.invokevirtual 108, 3) := by decide +kernel
theorem dX11_solve_25 : decode cX11_solve 25 = .ok (.lstore 12, 2) := by decide +kernel
theorem dX11_solve_27 : decode cX11_solve 27 = .ok (.aload_n 0, 1) := by decide +kernel
theorem dX11_solve_28 : decode cX11_solve 28 = .ok (.iload_n 1, 1) := by decide +kernel
theorem dX11_solve_29 : decode cX11_solve 29 = .ok (.iconst 0, 1) := by decide +kernel
theorem dX11_solve_30 : decode cX11_solve 30 = .ok (.iconst 3, 1) := by decide +kernel
theorem dX11_solve_31 : decode cX11_solve 31 = .ok (.invokevirtual 108, 3) := by decide +kernel
theorem dX11_solve_34 : decode cX11_solve 34 = .ok (.lstore 14, 2) := by decide +kernel
theorem dX11_solve_36 : decode cX11_solve 36 = .ok (.aload_n 0, 1) := by decide +kernel
theorem dX11_solve_37 : decode cX11_solve 37 = .ok (.iload_n 1, 1) := by decide +kernel
theorem dX11_solve_38 : decode cX11_solve 38 = .ok (.iconst 0, 1) := by decide +kernel
theorem dX11_solve_39 : decode cX11_solve 39 = .ok (.iconst 4, 1) := by decide +kernel
theorem dX11_solve_40 : decode cX11_solve 40 = .ok (.invokevirtual 108, 3) := by decide +kernel
theorem dX11_solve_43 : decode cX11_solve 43 = .ok (.lstore 16, 2) := by decide +kernel
theorem dX11_solve_45 : decode cX11_solve 45 = .ok (.aload_n 0, 1) := by decide +kernel
theorem dX11_solve_46 : decode cX11_solve 46 = .ok (.iload_n 1, 1) := by decide +kernel
theorem dX11_solve_47 : decode cX11_solve 47 = .ok (.iconst 0, 1) := by decide +kernel
theorem dX11_solve_48 : decode cX11_solve 48 = .ok (.iconst 5, 1) := by decide +kernel
theorem dX11_solve_49 : decode cX11_solve 49 = .ok (.invokevirtual 108, 3) := by decide +kernel
theorem dX11_solve_52 : decode cX11_solve 52 = .ok (.lstore 18, 2) := by decide +kernel
theorem dX11_solve_54 : decode cX11_solve 54 = .ok (.lload 10, 2) := by decide +kernel
theorem dX11_solve_56 : decode cX11_solve 56 = .ok (.lload 14, 2) := by decide +kernel
theorem dX11_solve_58 : decode cX11_solve 58 = .ok (.lmul, 1) := by decide +kernel
theorem dX11_solve_59 : decode cX11_solve 59 = .ok (.lload 18, 2) := by decide +kernel
theorem dX11_solve_61 : decode cX11_solve 61 = .ok (.lload 18, 2) := by decide +kernel
theorem dX11_solve_63 : decode cX11_solve 63 = .ok (.lmul, 1) := by decide +kernel
theorem dX11_solve_64 : decode cX11_solve 64 = .ok (.lsub, 1) := by decide +kernel
theorem dX11_solve_65 : decode cX11_solve 65 = .ok (.lstore 20, 2) := by decide +kernel
theorem dX11_solve_67 : decode cX11_solve 67 = .ok (.lload 16, 2) := by decide +kernel
theorem dX11_solve_69 : decode cX11_solve 69 = .ok (.lload 18, 2) := by decide +kernel
theorem dX11_solve_71 : decode cX11_solve 71 = .ok (.lmul, 1) := by decide +kernel
theorem dX11_solve_72 : decode cX11_solve 72 = .ok (.lload 12, 2) := by decide +kernel
theorem dX11_solve_74 : decode cX11_solve 74 = .ok (.lload 14, 2) := by decide +kernel
theorem dX11_solve_76 : decode cX11_solve 76 = .ok (.lmul, 1) := by decide +kernel
theorem dX11_solve_77 : decode cX11_solve 77 = .ok (.lsub, 1) := by decide +kernel
theorem dX11_solve_78 : decode cX11_solve 78 = .ok (.lstore 22, 2) := by decide +kernel
theorem dX11_solve_80 : decode cX11_solve 80 = .ok (.lload 12, 2) := by decide +kernel
theorem dX11_solve_82 : decode cX11_solve 82 = .ok (.lload 18, 2) := by decide +kernel
theorem dX11_solve_84 : decode cX11_solve 84 = .ok (.lmul, 1) := by decide +kernel
theorem dX11_solve_85 : decode cX11_solve 85 = .ok (.lload 10, 2) := by decide +kernel
theorem dX11_solve_87 : decode cX11_solve 87 = .ok (.lload 16, 2) := by decide +kernel
theorem dX11_solve_89 : decode cX11_solve 89 = .ok (.lmul, 1) := by decide +kernel
theorem dX11_solve_90 : decode cX11_solve 90 = .ok (.lsub, 1) := by decide +kernel
theorem dX11_solve_91 : decode cX11_solve 91 = .ok (.lstore 24, 2) := by decide +kernel
theorem dX11_solve_93 : decode cX11_solve 93 = .ok (.lload 8, 2) := by decide +kernel
theorem dX11_solve_95 : decode cX11_solve 95 = .ok (.lload 14, 2) := by decide +kernel
theorem dX11_solve_97 : decode cX11_solve 97 = .ok (.lmul, 1) := by decide +kernel
theorem dX11_solve_98 : decode cX11_solve 98 = .ok (.lload 16, 2) := by decide +kernel
theorem dX11_solve_100 : decode cX11_solve 100 = .ok (.lload 16, 2) := by decide +kernel
theorem dX11_solve_102 : decode cX11_solve 102 = .ok (.lmul, 1) := by decide +kernel
theorem dX11_solve_103 : decode cX11_solve 103 = .ok (.lsub, 1) := by decide +kernel
theorem dX11_solve_104 : decode cX11_solve 104 = .ok (.lstore 26, 2) := by decide +kernel
theorem dX11_solve_106 : decode cX11_solve 106 = .ok (.lload 12, 2) := by decide +kernel
theorem dX11_solve_108 : decode cX11_solve 108 = .ok (.lload 16, 2) := by decide +kernel
theorem dX11_solve_110 : decode cX11_solve 110 = .ok (.lmul, 1) := by decide +kernel
theorem dX11_solve_111 : decode cX11_solve 111 = .ok (.lload 8, 2) := by decide +kernel
theorem dX11_solve_113 : decode cX11_solve 113 = .ok (.lload 18, 2) := by decide +kernel
theorem dX11_solve_115 : decode cX11_solve 115 = .ok (.lmul, 1) := by decide +kernel
theorem dX11_solve_116 : decode cX11_solve 116 = .ok (.lsub, 1) := by decide +kernel
theorem dX11_solve_117 : decode cX11_solve 117 = .ok (.lstore 28, 2) := by decide +kernel
theorem dX11_solve_119 : decode cX11_solve 119 = .ok (.lload 8, 2) := by decide +kernel
theorem dX11_solve_121 : decode cX11_solve 121 = .ok (.lload 10, 2) := by decide +kernel
theorem dX11_solve_123 : decode cX11_solve 123 = .ok (.lmul, 1) := by decide +kernel
theorem dX11_solve_124 : decode cX11_solve 124 = .ok (.lload 12, 2) := by decide +kernel
theorem dX11_solve_126 : decode cX11_solve 126 = .ok (.lload 12, 2) := by decide +kernel
theorem dX11_solve_128 : decode cX11_solve 128 = .ok (.lmul, 1) := by decide +kernel
theorem dX11_solve_129 : decode cX11_solve 129 = .ok (.lsub, 1) := by decide +kernel
theorem dX11_solve_130 : decode cX11_solve 130 = .ok (.lstore 30, 2) := by decide +kernel
theorem dX11_solve_132 : decode cX11_solve 132 = .ok (.aload_n 0, 1) := by decide +kernel
theorem dX11_solve_133 : decode cX11_solve 133 = .ok (.lload 8, 2) := by decide +kernel
theorem dX11_solve_135 : decode cX11_solve 135 = .ok (.lload 20, 2) := by decide +kernel
theorem dX11_solve_137 : decode cX11_solve 137 = .ok (.lmul, 1) := by decide +kernel
theorem dX11_solve_138 : decode cX11_solve 138 = .ok (.lload 12, 2) := by decide +kernel
theorem dX11_solve_140 : decode cX11_solve 140 = .ok (.lload 22, 2) := by decide +kernel
theorem dX11_solve_142 : decode cX11_solve 142 = .ok (.lmul, 1) := by decide +kernel
theorem dX11_solve_143 : decode cX11_solve 143 = .ok (.ladd, 1) := by decide +kernel
theorem dX11_solve_144 : decode cX11_solve 144 = .ok (.lload 16, 2) := by decide +kernel
theorem dX11_solve_146 : decode cX11_solve 146 = .ok (.lload 24, 2) := by decide +kernel
theorem dX11_solve_148 : decode cX11_solve 148 = .ok (.lmul, 1) := by decide +kernel
theorem dX11_solve_149 : decode cX11_solve 149 = .ok (.ladd, 1) := by decide +kernel
theorem dX11_solve_150 : decode cX11_solve 150 = .ok (.putfield 120, 3) := by decide +kernel
theorem dX11_solve_153 : decode cX11_solve 153 = .ok (.aload_n 0, 1) := by decide +kernel
theorem dX11_solve_154 : decode cX11_solve 154 = .ok (.lload 20, 2) := by decide +kernel
theorem dX11_solve_156 : decode cX11_solve 156 = .ok (.lload_n 2, 1) := by decide +kernel
theorem dX11_solve_157 : decode cX11_solve 157 = .ok (.lmul, 1) := by decide +kernel
theorem dX11_solve_158 : decode cX11_solve 158 = .ok (.lload 22, 2) := by decide +kernel
theorem dX11_solve_160 : decode cX11_solve 160 = .ok (.lload 4, 2) := by decide +kernel
theorem dX11_solve_162 : decode cX11_solve 162 = .ok (.lmul, 1) := by decide +kernel
theorem dX11_solve_163 : decode cX11_solve 163 = .ok (.ladd, 1) := by decide +kernel
theorem dX11_solve_164 : decode cX11_solve 164 = .ok (.lload 24, 2) := by decide +kernel
theorem dX11_solve_166 : decode cX11_solve 166 = .ok (.lload 6, 2) := by decide +kernel
theorem dX11_solve_168 : decode cX11_solve 168 = .ok (.lmul, 1) := by decide +kernel
theorem dX11_solve_169 : decode cX11_solve 169 = .ok (.ladd, 1) := by decide +kernel
theorem dX11_solve_170 : decode cX11_solve 170 = .ok (.putfield 124, 3) := by decide +kernel
theorem dX11_solve_173 : decode cX11_solve 173 = .ok (.aload_n 0, 1) := by decide +kernel
theorem dX11_solve_174 : decode cX11_solve 174 = .ok (.lload 22, 2) := by decide +kernel
theorem dX11_solve_176 : decode cX11_solve 176 = .ok (.lload_n 2, 1) := by decide +kernel
theorem dX11_solve_177 : decode cX11_solve 177 = .ok (.lmul, 1) := by decide +kernel
theorem dX11_solve_178 : decode cX11_solve 178 = .ok (.lload 26, 2) := by decide +kernel
theorem dX11_solve_180 : decode cX11_solve 180 = .ok (.lload 4, 2) := by decide +kernel
theorem dX11_solve_182 : decode cX11_solve 182 = .ok (.lmul, 1) := by decide +kernel
theorem dX11_solve_183 : decode cX11_solve 183 = .ok (.ladd, 1) := by decide +kernel
theorem dX11_solve_184 : decode cX11_solve 184 = .ok (.lload 28, 2) := by decide +kernel
theorem dX11_solve_186 : decode cX11_solve 186 = .ok (.lload 6, 2) := by decide +kernel
theorem dX11_solve_188 : decode cX11_solve 188 = .ok (.lmul, 1) := by decide +kernel
theorem dX11_solve_189 : decode cX11_solve 189 = .ok (.ladd, 1) := by decide +kernel
theorem dX11_solve_190 : decode cX11_solve 190 = .ok (.putfield 127, 3) := by decide +kernel
theorem dX11_solve_193 : decode cX11_solve 193 = .ok (.aload_n 0, 1) := by decide +kernel
theorem dX11_solve_194 : decode cX11_solve 194 = .ok (.lload 24, 2) := by decide +kernel
theorem dX11_solve_196 : decode cX11_solve 196 = .ok (.lload_n 2, 1) := by decide +kernel
theorem dX11_solve_197 : decode cX11_solve 197 = .ok (.lmul, 1) := by decide +kernel
theorem dX11_solve_198 : decode cX11_solve 198 = .ok (.lload 28, 2) := by decide +kernel
theorem dX11_solve_200 : decode cX11_solve 200 = .ok (.lload 4, 2) := by decide +kernel
theorem dX11_solve_202 : decode cX11_solve 202 = .ok (.lmul, 1) := by decide +kernel
theorem dX11_solve_203 : decode cX11_solve 203 = .ok (.ladd, 1) := by decide +kernel
theorem dX11_solve_204 : decode cX11_solve 204 = .ok (.lload 30, 2) := by decide +kernel
theorem dX11_solve_206 : decode cX11_solve 206 = .ok (.lload 6, 2) := by decide +kernel
theorem dX11_solve_208 : decode cX11_solve 208 = .ok (.lmul, 1) := by decide +kernel
theorem dX11_solve_209 : decode cX11_solve 209 = .ok (.ladd, 1) := by decide +kernel
theorem dX11_solve_210 : decode cX11_solve 210 = .ok (.putfield 130, 3) := by decide +kernel
theorem dX11_solve_213 : decode cX11_solve 213 = .ok (.return_, 1) := by decide +kernel
theorem gm_X11_determinant_0 : ∀ w ∈ wsX11_determinant_r1, w ∈ wsX11_determinant := fun w h => List.mem_cons_of_mem _ (List.mem_append_left _ (List.mem_append_left _ h))
theorem gm_X11_determinant_1 : ∀ w ∈ wsX11_determinant_r2, w ∈ wsX11_determinant := fun w h => List.mem_cons_of_mem _ (List.mem_append_left _ (List.mem_append_right _ h))
theorem gm_X11_determinant_2 : ∀ w ∈ wsX110, w ∈ wsX11_determinant := fun w h => List.mem_cons_of_mem _ (List.mem_append_right _ h)
theorem ggX11_determinant_X11_isPlate : GoodIn wsX11_determinant wsX11_isPlate := gk_cons (gm_X11_determinant_0 _ (List.mem_of_getElem? (i := 6) rfl)) rfl (goodIn_app (gk_cons (gm_X11_determinant_0 _ (List.mem_of_getElem? (i := 7) rfl)) rfl (gk_cons (gm_X11_determinant_0 _ (List.mem_of_getElem? (i := 8) rfl)) rfl (gk_cons (gm_X11_determinant_0 _ (List.mem_of_getElem? (i := 9) rfl)) rfl (gk_cons (gm_X11_determinant_0 _ (List.mem_of_getElem? (i := 5) rfl)) rfl (gk_cons (gm_X11_determinant_0 _ (List.mem_of_getElem? (i := 10) rfl)) rfl gk_nil))))) (goodIn_sub gm_X11_determinant_2 ag_wsX110))
theorem gX11_determinant_X11_isPlate : GoodIn wsX11_determinant (wsV RX11 79 RX11 yX11_isPlate wsX11_isPlate) := goodIn_app (gk_cons (gm_X11_determinant_0 _ (List.mem_of_getElem? (i := 2) rfl)) rfl (gk_cons (gm_X11_determinant_0 _ (List.mem_of_getElem? (i := 3) rfl)) rfl (gk_cons (gm_X11_determinant_0 _ (List.mem_of_getElem? (i := 4) rfl)) rfl (gk_cons (gm_X11_determinant_0 _ (List.mem_of_getElem? (i := 5) rfl)) rfl gk_nil)))) ggX11_determinant_X11_isPlate
theorem gk_X11_determinant_X11_solve_r1 : GoodIn wsX11_determinant wsX11_solve_r1 := (gk_cons (gm_X11_determinant_0 _ (List.mem_of_getElem? (i := 1) rfl)) rfl (gk_cons (gm_X11_determinant_0 _ (List.mem_of_getElem? (i := 15) rfl)) rfl (gk_cons (gm_X11_determinant_0 _ (List.mem_of_getElem? (i := 16) rfl)) rfl (gk_cons (gm_X11_determinant_0 _ (List.mem_of_getElem? (i := 17) rfl)) rfl (gk_cons (gm_X11_determinant_0 _ (List.mem_of_getElem? (i := 18) rfl)) rfl (gk_cons (gm_X11_determinant_0 _ (List.mem_of_getElem? (i := 19) rfl)) rfl (gk_cons (gm_X11_determinant_0 _ (List.mem_of_getElem? (i := 20) rfl)) rfl (gk_cons (gm_X11_determinant_0 _ (List.mem_of_getElem? (i := 5) rfl)) rfl (gk_cons (gm_X11_determinant_0 _ (List.mem_of_getElem? (i := 21) rfl)) rfl (gk_cons (gm_X11_determinant_0 _ (List.mem_of_getElem? (i := 22) rfl)) rfl (gk_cons (gm_X11_determinant_0 _ (List.mem_of_getElem? (i := 23) rfl)) rfl (gk_cons (gm_X11_determinant_1 _ (List.mem_of_getElem? (i := 0) rfl)) rfl (gk_cons (gm_X11_determinant_1 _ (List.mem_of_getElem? (i := 1) rfl)) rfl (gk_cons (gm_X11_determinant_1 _ (List.mem_of_getElem? (i := 2) rfl)) rfl (gk_cons (gm_X11_determinant_1 _ (List.mem_of_getElem? (i := 3) rfl)) rfl (gk_cons (gm_X11_determinant_1 _ (List.mem_of_getElem? (i := 4) rfl)) rfl (gk_cons (gm_X11_determinant_1 _ (List.mem_of_getElem? (i := 5) rfl)) rfl (gk_cons (gm_X11_determinant_1 _ (List.mem_of_getElem? (i := 6) rfl)) rfl (gk_cons (gm_X11_determinant_1 _ (List.mem_of_getElem? (i := 7) rfl)) rfl (gk_cons (gm_X11_determinant_1 _ (List.mem_of_getElem? (i := 8) rfl)) rfl (gk_cons (gm_X11_determinant_1 _ (List.mem_of_getElem? (i := 9) rfl)) rfl (gk_cons (gm_X11_determinant_1 _ (List.mem_of_getElem? (i := 10) rfl)) rfl (gk_cons (gm_X11_determinant_1 _ (List.mem_of_getElem? (i := 11) rfl)) rfl (gk_cons (gm_X11_determinant_1 _ (List.mem_of_getElem? (i := 12) rfl)) rfl gk_nil))))))))))))))))))))))))
theorem gk_X11_determinant_X11_solve_r2 : GoodIn wsX11_determinant wsX11_solve_r2 := (gk_cons (gm_X11_determinant_1 _ (List.mem_of_getElem? (i := 13) rfl)) rfl (gk_cons (gm_X11_determinant_1 _ (List.mem_of_getElem? (i := 14) rfl)) rfl (gk_cons (gm_X11_determinant_1 _ (List.mem_of_getElem? (i := 15) rfl)) rfl (gk_cons (gm_X11_determinant_1 _ (List.mem_of_getElem? (i := 16) rfl)) rfl (gk_cons (gm_X11_determinant_1 _ (List.mem_of_getElem? (i := 17) rfl)) rfl (gk_cons (gm_X11_determinant_1 _ (List.mem_of_getElem? (i := 18) rfl)) rfl (gk_cons (gm_X11_determinant_1 _ (List.mem_of_getElem? (i := 19) rfl)) rfl (gk_cons (gm_X11_determinant_1 _ (List.mem_of_getElem? (i := 20) rfl)) rfl (gk_cons (gm_X11_determinant_1 _ (List.mem_of_getElem? (i := 21) rfl)) rfl gk_nil)))))))))
theorem ggX11_determinant_X11_solve : GoodIn wsX11_determinant wsX11_solve := gk_cons (gm_X11_determinant_0 _ (List.mem_of_getElem? (i := 14) rfl)) rfl (goodIn_app (goodIn_app gk_X11_determinant_X11_solve_r1 gk_X11_determinant_X11_solve_r2) (goodIn_sub gm_X11_determinant_2 ag_wsX110))
theorem gX11_determinant_X11_solve : GoodIn wsX11_determinant (wsV RX11 133 RX11 yX11_solve wsX11_solve) := goodIn_app (gk_cons (gm_X11_determinant_0 _ (List.mem_of_getElem? (i := 11) rfl)) rfl (gk_cons (gm_X11_determinant_0 _ (List.mem_of_getElem? (i := 12) rfl)) rfl (gk_cons (gm_X11_determinant_0 _ (List.mem_of_getElem? (i := 13) rfl)) rfl (gk_cons (gm_X11_determinant_0 _ (List.mem_of_getElem? (i := 5) rfl)) rfl gk_nil)))) ggX11_determinant_X11_solve
theorem dX11_determinant_0 : decode cX11_determinant 0 = .ok (.aload_n 0, 1) := by decide +kernel
theorem dX11_determinant_1 : decode cX11_determinant 1 = .ok (.iload_n 1, 1) := by decide +kernel
theorem dX11_determinant_2 : decode cX11_determinant 2 = .ok (.invokevirtual 79, 3) := by decide +kernel
theorem dX11_determinant_5 : decode cX11_determinant 5 = .ok (.ifCond .ne 7, 3) := by decide +kernel
theorem dX11_determinant_8 : decode cX11_determinant 8 = .ok (.ldc2_w 112, 3) := by decide +kernel
theorem dX11_determinant_11 : decode cX11_determinant 11 = .ok (.lreturn, 1) := by decide +kernel
theorem dX11_determinant_12 : decode cX11_determinant 12 = .ok (.aload_n 0, 1) := by decide +kernel
theorem dX11_determinant_13 : decode cX11_determinant 13 = .ok (.iload_n 1, 1) := by decide +kernel
theorem dX11_determinant_14 : decode cX11_determinant 14 = .ok (.lconst 0, 1) := by decide +kernel
theorem dX11_determinant_15 : decode cX11_determinant 15 = .ok (.lconst 0, 1) := by decide +kernel
theorem dX11_determinant_16 : decode cX11_determinant 16 = .ok (.lconst 0, 1) := by decide +kernel
theorem dX11_determinant_17 : decode cX11_determinant 17 = .ok (.invokevirtual 133, 3) := by decide +kernel
theorem dX11_determinant_20 : decode cX11_determinant 20 = .ok (.aload_n 0, 1) := by decide +kernel
theorem dX11_determinant_21 : decode cX11_determinant 21 = .ok (.getfield 120, 3) := by decide +kernel
theorem dX11_determinant_24 : decode cX11_determinant 24 = .ok (.lreturn, 1) := by decide +kernel
theorem dX11_divisor_0 : decode cX11_divisor 0 = .ok (.lload_n 0, 1) := by decide +kernel
theorem dX11_divisor_1 : decode cX11_divisor 1 = .ok (.lconst 0, 1) := by decide +kernel
theorem dX11_divisor_2 : decode cX11_divisor 2 = .ok (.lcmp, 1) := by decide +kernel
theorem dX11_divisor_3 : decode cX11_divisor 3 = .ok (.ifCond .ge 8, 3) := by decide +kernel
theorem dX11_divisor_6 : decode cX11_divisor 6 = .ok (.lload_n 0, 1) := by decide +kernel
theorem dX11_divisor_7 : decode cX11_divisor 7 = .ok (.lneg, 1) := by decide +kernel
theorem dX11_divisor_8 : decode cX11_divisor 8 = .ok (.goto 4, 3) := by decide +kernel
theorem dX11_divisor_11 : decode cX11_divisor 11 = .ok (.lload_n 0, 1) := by decide +kernel
theorem dX11_divisor_12 : decode cX11_divisor 12 = .ok (.lstore 4, 2) := by decide +kernel
theorem dX11_divisor_14 : decode cX11_divisor 14 = .ok (.lload_n 2, 1) := by decide +kernel
theorem dX11_divisor_15 : decode cX11_divisor 15 = .ok (.lconst 0, 1) := by decide +kernel
theorem dX11_divisor_16 : decode cX11_divisor 16 = .ok (.lcmp, 1) := by decide +kernel
theorem dX11_divisor_17 : decode cX11_divisor 17 = .ok (.ifCond .ge 8, 3) := by decide +kernel
theorem dX11_divisor_20 : decode cX11_divisor 20 = .ok (.lload_n 2, 1) := by decide +kernel
theorem dX11_divisor_21 : decode cX11_divisor 21 = .ok (.lneg, 1) := by decide +kernel
theorem dX11_divisor_22 : decode cX11_divisor 22 = .ok (.goto 4, 3) := by decide +kernel
theorem dX11_divisor_25 : decode cX11_divisor 25 = .ok (.lload_n 2, 1) := by decide +kernel
theorem dX11_divisor_26 : decode cX11_divisor 26 = .ok (.lstore 6, 2) := by decide +kernel
theorem dX11_divisor_28 : decode cX11_divisor 28 = .ok (.lload 6, 2) := by decide +kernel
theorem dX11_divisor_30 : decode cX11_divisor 30 = .ok (.lconst 0, 1) := by decide +kernel
theorem dX11_divisor_31 : decode cX11_divisor 31 = .ok (.lcmp, 1) := by decide +kernel
theorem dX11_divisor_32 : decode cX11_divisor 32 = .ok (.ifCond .eq 21, 3) := by decide +kernel
theorem dX11_divisor_35 : decode cX11_divisor 35 = .ok (.lload 4, 2) := by decide +kernel
theorem dX11_divisor_37 : decode cX11_divisor 37 = .ok (.lload 6, 2) := by decide +kernel
theorem dX11_divisor_39 : decode cX11_divisor 39 = .ok (.lrem, 1) := by decide +kernel
theorem dX11_divisor_40 : decode cX11_divisor 40 = .ok (.lstore 8, 2) := by decide +kernel
theorem dX11_divisor_42 : decode cX11_divisor 42 = .ok (.lload 6, 2) := by decide +kernel
theorem dX11_divisor_44 : decode cX11_divisor 44 = .ok (.lstore 4, 2) := by decide +kernel
theorem dX11_divisor_46 : decode cX11_divisor 46 = .ok (.lload 8, 2) := by decide +kernel
theorem dX11_divisor_48 : decode cX11_divisor 48 = .ok (.lstore 6, 2) := by decide +kernel
theorem dX11_divisor_50 : decode cX11_divisor 50 = .ok (.goto (-22), 3) := by decide +kernel
theorem dX11_divisor_53 : decode cX11_divisor 53 = .ok (.lload 4, 2) := by decide +kernel
theorem dX11_divisor_55 : decode cX11_divisor 55 = .ok (.lreturn, 1) := by decide +kernel
theorem ggX11_told_X11_divisor : GoodIn wsX11_told wsX11_divisor := gk_cons (List.mem_cons_of_mem _ (List.mem_of_getElem? (i := 4) rfl)) rfl gk_nil
theorem gX11_told_X11_divisor : GoodIn wsX11_told (va_wsS RX11 137 yX11_divisor wsX11_divisor) := goodIn_app (gk_cons (List.mem_cons_of_mem _ (List.mem_of_getElem? (i := 1) rfl)) rfl (gk_cons (List.mem_cons_of_mem _ (List.mem_of_getElem? (i := 2) rfl)) rfl (gk_cons (List.mem_cons_of_mem _ (List.mem_of_getElem? (i := 3) rfl)) rfl gk_nil))) ggX11_told_X11_divisor
theorem dX11_told_0 : decode cX11_told 0 = .ok (.lload_n 0, 1) := by decide +kernel
theorem dX11_told_1 : decode cX11_told 1 = .ok (.lconst 0, 1) := by decide +kernel
theorem dX11_told_2 : decode cX11_told 2 = .ok (.lcmp, 1) := by decide +kernel
theorem dX11_told_3 : decode cX11_told 3 = .ok (.ifCond .ne 7, 3) := by decide +kernel
theorem dX11_told_6 : decode cX11_told 6 = .ok (.iload 4, 2) := by decide +kernel
theorem dX11_told_8 : decode cX11_told 8 = .ok (.i2l, 1) := by decide +kernel
theorem dX11_told_9 : decode cX11_told 9 = .ok (.lreturn, 1) := by decide +kernel
theorem dX11_told_10 : decode cX11_told 10 = .ok (.lload_n 0, 1) := by decide +kernel
theorem dX11_told_11 : decode cX11_told 11 = .ok (.lload_n 2, 1) := by decide +kernel
theorem dX11_told_12 : decode cX11_told 12 = .ok (.invokestatic 137, 3) := by decide +kernel
theorem dX11_told_15 : decode cX11_told 15 = .ok (.lload_n 2, 1) := by decide +kernel
theorem dX11_told_16 : decode cX11_told 16 = .ok (.lconst 0, 1) := by decide +kernel
theorem dX11_told_17 : decode cX11_told 17 = .ok (.lcmp, 1) := by decide +kernel
theorem dX11_told_18 : decode cX11_told 18 = .ok (.ifCond .ge 9, 3) := by decide +kernel
theorem dX11_told_21 : decode cX11_told 21 = .ok (.ldc2_w 141, 3) := by decide +kernel
theorem dX11_told_24 : decode cX11_told 24 = .ok (.goto 4, 3) := by decide +kernel
theorem dX11_told_27 : decode cX11_told 27 = .ok (.lconst 1, 1) := by decide +kernel
theorem dX11_told_28 : decode cX11_told 28 = .ok (.lmul, 1) := by decide +kernel
theorem dX11_told_29 : decode cX11_told 29 = .ok (.lstore 5, 2) := by decide +kernel
theorem dX11_told_31 : decode cX11_told 31 = .ok (.iload 4, 2) := by decide +kernel
theorem dX11_told_33 : decode cX11_told 33 = .ok (.ifCond .ne 10, 3) := by decide +kernel
theorem dX11_told_36 : decode cX11_told 36 = .ok (.lload_n 0, 1) := by decide +kernel
theorem dX11_told_37 : decode cX11_told 37 = .ok (.lload 5, 2) := by decide +kernel
theorem dX11_told_39 : decode cX11_told 39 = .ok (.ldiv, 1) := by decide +kernel
theorem dX11_told_40 : decode cX11_told 40 = .ok (.goto 7, 3) := by decide +kernel
theorem dX11_told_43 : decode cX11_told 43 = .ok (.lload_n 2, 1) := by decide +kernel
theorem dX11_told_44 : decode cX11_told 44 = .ok (.lload 5, 2) := by decide +kernel
theorem dX11_told_46 : decode cX11_told 46 = .ok (.ldiv, 1) := by decide +kernel
theorem dX11_told_47 : decode cX11_told 47 = .ok (.lreturn, 1) := by decide +kernel
theorem gm_X11_stretchOf_0 : ∀ w ∈ wsX110, w ∈ wsX11_stretchOf := fun w h => List.mem_cons_of_mem _ (List.mem_append_right _ h)
theorem ggX11_stretchOf_X11_told : GoodIn wsX11_stretchOf wsX11_told := gk_cons (List.mem_cons_of_mem _ (List.mem_append_left _ (List.mem_of_getElem? (i := 8) rfl))) rfl (gk_cons (List.mem_cons_of_mem _ (List.mem_append_left _ (List.mem_of_getElem? (i := 9) rfl))) rfl (gk_cons (List.mem_cons_of_mem _ (List.mem_append_left _ (List.mem_of_getElem? (i := 10) rfl))) rfl (gk_cons (List.mem_cons_of_mem _ (List.mem_append_left _ (List.mem_of_getElem? (i := 11) rfl))) rfl (gk_cons (List.mem_cons_of_mem _ (List.mem_append_left _ (List.mem_of_getElem? (i := 7) rfl))) rfl (gk_cons (List.mem_cons_of_mem _ (List.mem_append_left _ (List.mem_of_getElem? (i := 12) rfl))) rfl gk_nil)))))
theorem gX11_stretchOf_X11_told : GoodIn wsX11_stretchOf (va_wsS RX11 143 yX11_told wsX11_told) := goodIn_app (gk_cons (List.mem_cons_of_mem _ (List.mem_append_left _ (List.mem_of_getElem? (i := 5) rfl))) rfl (gk_cons (List.mem_cons_of_mem _ (List.mem_append_left _ (List.mem_of_getElem? (i := 6) rfl))) rfl (gk_cons (List.mem_cons_of_mem _ (List.mem_append_left _ (List.mem_of_getElem? (i := 7) rfl))) rfl gk_nil))) ggX11_stretchOf_X11_told
theorem dX11_stretchOf_0 : decode cX11_stretchOf 0 = .ok (.aload_n 0, 1) := by decide +kernel
theorem dX11_stretchOf_1 : decode cX11_stretchOf 1 = .ok (.getfield 120, 3) := by decide +kernel
theorem dX11_stretchOf_4 : decode cX11_stretchOf 4 = .ok (.lconst 0, 1) := by decide +kernel
theorem dX11_stretchOf_5 : decode cX11_stretchOf 5 = .ok (.lcmp, 1) := by decide +kernel
theorem dX11_stretchOf_6 : decode cX11_stretchOf 6 = .ok (.ifCond .ne 7, 3) := by decide +kernel
theorem dX11_stretchOf_9 : decode cX11_stretchOf 9 = .ok (.ldc2_w 112, 3) := by decide +kernel
theorem dX11_stretchOf_12 : decode cX11_stretchOf 12 = .ok (.lreturn, 1) := by decide +kernel
theorem dX11_stretchOf_13 : decode cX11_stretchOf 13 = .ok (.iload_n 1, 1) := by decide +kernel
theorem dX11_stretchOf_14 : decode cX11_stretchOf 14 = .ok (.ifCond .ne 10, 3) := by decide +kernel
theorem dX11_stretchOf_17 : decode cX11_stretchOf 17 = .ok (.aload_n 0, 1) := by decide +kernel
theorem dX11_stretchOf_18 : decode cX11_stretchOf 18 = .ok (.getfield 124, 3) := by decide +kernel
theorem dX11_stretchOf_21 : decode cX11_stretchOf 21 = .ok (.goto 19, 3) := by decide +kernel
theorem dX11_stretchOf_24 : decode cX11_stretchOf 24 = .ok (.iload_n 1, 1) := by decide +kernel
theorem dX11_stretchOf_25 : decode cX11_stretchOf 25 = .ok (.iconst 1, 1) := by decide +kernel
theorem dX11_stretchOf_26 : decode cX11_stretchOf 26 = .ok (.if_icmp .ne 10, 3) := by decide +kernel
theorem dX11_stretchOf_29 : decode cX11_stretchOf 29 = .ok (.aload_n 0, 1) := by decide +kernel
theorem dX11_stretchOf_30 : decode cX11_stretchOf 30 = .ok (.getfield 127, 3) := by decide +kernel
theorem dX11_stretchOf_33 : decode cX11_stretchOf 33 = .ok (.goto 7, 3) := by decide +kernel
theorem dX11_stretchOf_36 : decode cX11_stretchOf 36 = .ok (.aload_n 0, 1) := by decide +kernel
theorem dX11_stretchOf_37 : decode cX11_stretchOf 37 = .ok (.getfield 130, 3) := by decide +kernel
theorem dX11_stretchOf_40 : decode cX11_stretchOf 40 = .ok (.aload_n 0, 1) := by decide +kernel
theorem dX11_stretchOf_41 : decode cX11_stretchOf 41 = .ok (.getfield 120, 3) := by decide +kernel
theorem dX11_stretchOf_44 : decode cX11_stretchOf 44 = .ok (.iload_n 2, 1) := by decide +kernel
theorem dX11_stretchOf_45 : decode cX11_stretchOf 45 = .ok (.invokestatic 143, 3) := by decide +kernel
theorem dX11_stretchOf_48 : decode cX11_stretchOf 48 = .ok (.lreturn, 1) := by decide +kernel
theorem ggX11_isLoad_X11_isIn : GoodIn wsX11_isLoad wsX11_isIn := gk_cons (List.mem_cons_of_mem _ (List.mem_of_getElem? (i := 3) rfl)) rfl gk_nil
theorem gX11_isLoad_X11_isIn : GoodIn wsX11_isLoad (va_wsS RX11 69 yX11_isIn wsX11_isIn) := goodIn_app (gk_cons (List.mem_cons_of_mem _ (List.mem_of_getElem? (i := 0) rfl)) rfl (gk_cons (List.mem_cons_of_mem _ (List.mem_of_getElem? (i := 1) rfl)) rfl (gk_cons (List.mem_cons_of_mem _ (List.mem_of_getElem? (i := 2) rfl)) rfl gk_nil))) ggX11_isLoad_X11_isIn
theorem dX11_isLoad_0 : decode cX11_isLoad 0 = .ok (.iload_n 0, 1) := by decide +kernel
theorem dX11_isLoad_1 : decode cX11_isLoad 1 = .ok (.bipush (-100), 2) := by decide +kernel
theorem dX11_isLoad_3 : decode cX11_isLoad 3 = .ok (.bipush 100, 2) := by decide +kernel
theorem dX11_isLoad_5 : decode cX11_isLoad 5 = .ok (.invokestatic 69, 3) := by decide +kernel
theorem dX11_isLoad_8 : decode cX11_isLoad 8 = .ok (.ifCond .eq 29, 3) := by decide +kernel
theorem dX11_isLoad_11 : decode cX11_isLoad 11 = .ok (.iload_n 1, 1) := by decide +kernel
theorem dX11_isLoad_12 : decode cX11_isLoad 12 = .ok (.bipush (-100), 2) := by decide +kernel
theorem dX11_isLoad_14 : decode cX11_isLoad 14 = .ok (.bipush 100, 2) := by decide +kernel
theorem dX11_isLoad_16 : decode cX11_isLoad 16 = .ok (.invokestatic 69, 3) := by decide +kernel
theorem dX11_isLoad_19 : decode cX11_isLoad 19 = .ok (.ifCond .eq 18, 3) := by decide +kernel
theorem dX11_isLoad_22 : decode cX11_isLoad 22 = .ok (.iload_n 2, 1) := by decide +kernel
theorem dX11_isLoad_23 : decode cX11_isLoad 23 = .ok (.bipush (-100), 2) := by decide +kernel
theorem dX11_isLoad_25 : decode cX11_isLoad 25 = .ok (.bipush 100, 2) := by decide +kernel
theorem dX11_isLoad_27 : decode cX11_isLoad 27 = .ok (.invokestatic 69, 3) := by decide +kernel
theorem dX11_isLoad_30 : decode cX11_isLoad 30 = .ok (.ifCond .eq 7, 3) := by decide +kernel
theorem dX11_isLoad_33 : decode cX11_isLoad 33 = .ok (.iconst 1, 1) := by decide +kernel
theorem dX11_isLoad_34 : decode cX11_isLoad 34 = .ok (.goto 4, 3) := by decide +kernel
theorem dX11_isLoad_37 : decode cX11_isLoad 37 = .ok (.iconst 0, 1) := by decide +kernel
theorem dX11_isLoad_38 : decode cX11_isLoad 38 = .ok (.ireturn, 1) := by decide +kernel
theorem gm_X11_stretch_0 : ∀ w ∈ wsX11_stretch_r1, w ∈ wsX11_stretch := fun w h => List.mem_cons_of_mem _ (List.mem_append_left _ (List.mem_append_left _ h))
theorem gm_X11_stretch_1 : ∀ w ∈ wsX11_stretch_r2, w ∈ wsX11_stretch := fun w h => List.mem_cons_of_mem _ (List.mem_append_left _ (List.mem_append_right _ (List.mem_append_left _ h)))
theorem gm_X11_stretch_2 : ∀ w ∈ wsX11_stretch_r3, w ∈ wsX11_stretch := fun w h => List.mem_cons_of_mem _ (List.mem_append_left _ (List.mem_append_right _ (List.mem_append_right _ h)))
theorem gm_X11_stretch_3 : ∀ w ∈ wsX110, w ∈ wsX11_stretch := fun w h => List.mem_cons_of_mem _ (List.mem_append_right _ h)
theorem ggX11_stretch_X11_isPlate : GoodIn wsX11_stretch wsX11_isPlate := gk_cons (gm_X11_stretch_0 _ (List.mem_of_getElem? (i := 6) rfl)) rfl (goodIn_app (gk_cons (gm_X11_stretch_0 _ (List.mem_of_getElem? (i := 7) rfl)) rfl (gk_cons (gm_X11_stretch_0 _ (List.mem_of_getElem? (i := 8) rfl)) rfl (gk_cons (gm_X11_stretch_0 _ (List.mem_of_getElem? (i := 9) rfl)) rfl (gk_cons (gm_X11_stretch_0 _ (List.mem_of_getElem? (i := 5) rfl)) rfl (gk_cons (gm_X11_stretch_0 _ (List.mem_of_getElem? (i := 10) rfl)) rfl gk_nil))))) (goodIn_sub gm_X11_stretch_3 ag_wsX110))
theorem gX11_stretch_X11_isPlate : GoodIn wsX11_stretch (wsV RX11 79 RX11 yX11_isPlate wsX11_isPlate) := goodIn_app (gk_cons (gm_X11_stretch_0 _ (List.mem_of_getElem? (i := 2) rfl)) rfl (gk_cons (gm_X11_stretch_0 _ (List.mem_of_getElem? (i := 3) rfl)) rfl (gk_cons (gm_X11_stretch_0 _ (List.mem_of_getElem? (i := 4) rfl)) rfl (gk_cons (gm_X11_stretch_0 _ (List.mem_of_getElem? (i := 5) rfl)) rfl gk_nil)))) ggX11_stretch_X11_isPlate
theorem ggX11_stretch_X11_isLoad : GoodIn wsX11_stretch wsX11_isLoad := gk_cons (gm_X11_stretch_0 _ (List.mem_of_getElem? (i := 13) rfl)) rfl (gk_cons (gm_X11_stretch_0 _ (List.mem_of_getElem? (i := 8) rfl)) rfl (gk_cons (gm_X11_stretch_0 _ (List.mem_of_getElem? (i := 9) rfl)) rfl (gk_cons (gm_X11_stretch_0 _ (List.mem_of_getElem? (i := 5) rfl)) rfl (gk_cons (gm_X11_stretch_0 _ (List.mem_of_getElem? (i := 10) rfl)) rfl gk_nil))))
theorem gX11_stretch_X11_isLoad : GoodIn wsX11_stretch (va_wsS RX11 147 yX11_isLoad wsX11_isLoad) := goodIn_app (gk_cons (gm_X11_stretch_0 _ (List.mem_of_getElem? (i := 11) rfl)) rfl (gk_cons (gm_X11_stretch_0 _ (List.mem_of_getElem? (i := 12) rfl)) rfl (gk_cons (gm_X11_stretch_0 _ (List.mem_of_getElem? (i := 5) rfl)) rfl gk_nil))) ggX11_stretch_X11_isLoad
theorem ggX11_stretch_X11_isIn : GoodIn wsX11_stretch wsX11_isIn := gk_cons (gm_X11_stretch_0 _ (List.mem_of_getElem? (i := 10) rfl)) rfl gk_nil
theorem gX11_stretch_X11_isIn : GoodIn wsX11_stretch (va_wsS RX11 69 yX11_isIn wsX11_isIn) := goodIn_app (gk_cons (gm_X11_stretch_0 _ (List.mem_of_getElem? (i := 8) rfl)) rfl (gk_cons (gm_X11_stretch_0 _ (List.mem_of_getElem? (i := 9) rfl)) rfl (gk_cons (gm_X11_stretch_0 _ (List.mem_of_getElem? (i := 5) rfl)) rfl gk_nil))) ggX11_stretch_X11_isIn
theorem gk_X11_stretch_X11_solve_r1 : GoodIn wsX11_stretch wsX11_solve_r1 := (gk_cons (gm_X11_stretch_0 _ (List.mem_of_getElem? (i := 18) rfl)) rfl (gk_cons (gm_X11_stretch_0 _ (List.mem_of_getElem? (i := 19) rfl)) rfl (gk_cons (gm_X11_stretch_0 _ (List.mem_of_getElem? (i := 20) rfl)) rfl (gk_cons (gm_X11_stretch_0 _ (List.mem_of_getElem? (i := 21) rfl)) rfl (gk_cons (gm_X11_stretch_0 _ (List.mem_of_getElem? (i := 22) rfl)) rfl (gk_cons (gm_X11_stretch_0 _ (List.mem_of_getElem? (i := 23) rfl)) rfl (gk_cons (gm_X11_stretch_1 _ (List.mem_of_getElem? (i := 0) rfl)) rfl (gk_cons (gm_X11_stretch_0 _ (List.mem_of_getElem? (i := 5) rfl)) rfl (gk_cons (gm_X11_stretch_1 _ (List.mem_of_getElem? (i := 1) rfl)) rfl (gk_cons (gm_X11_stretch_1 _ (List.mem_of_getElem? (i := 2) rfl)) rfl (gk_cons (gm_X11_stretch_1 _ (List.mem_of_getElem? (i := 3) rfl)) rfl (gk_cons (gm_X11_stretch_1 _ (List.mem_of_getElem? (i := 4) rfl)) rfl (gk_cons (gm_X11_stretch_1 _ (List.mem_of_getElem? (i := 5) rfl)) rfl (gk_cons (gm_X11_stretch_1 _ (List.mem_of_getElem? (i := 6) rfl)) rfl (gk_cons (gm_X11_stretch_1 _ (List.mem_of_getElem? (i := 7) rfl)) rfl (gk_cons (gm_X11_stretch_1 _ (List.mem_of_getElem? (i := 8) rfl)) rfl (gk_cons (gm_X11_stretch_1 _ (List.mem_of_getElem? (i := 9) rfl)) rfl (gk_cons (gm_X11_stretch_1 _ (List.mem_of_getElem? (i := 10) rfl)) rfl (gk_cons (gm_X11_stretch_1 _ (List.mem_of_getElem? (i := 11) rfl)) rfl (gk_cons (gm_X11_stretch_1 _ (List.mem_of_getElem? (i := 12) rfl)) rfl (gk_cons (gm_X11_stretch_1 _ (List.mem_of_getElem? (i := 13) rfl)) rfl (gk_cons (gm_X11_stretch_1 _ (List.mem_of_getElem? (i := 14) rfl)) rfl (gk_cons (gm_X11_stretch_1 _ (List.mem_of_getElem? (i := 15) rfl)) rfl (gk_cons (gm_X11_stretch_1 _ (List.mem_of_getElem? (i := 16) rfl)) rfl gk_nil))))))))))))))))))))))))
theorem gk_X11_stretch_X11_solve_r2 : GoodIn wsX11_stretch wsX11_solve_r2 := (gk_cons (gm_X11_stretch_1 _ (List.mem_of_getElem? (i := 17) rfl)) rfl (gk_cons (gm_X11_stretch_1 _ (List.mem_of_getElem? (i := 18) rfl)) rfl (gk_cons (gm_X11_stretch_1 _ (List.mem_of_getElem? (i := 19) rfl)) rfl (gk_cons (gm_X11_stretch_1 _ (List.mem_of_getElem? (i := 20) rfl)) rfl (gk_cons (gm_X11_stretch_1 _ (List.mem_of_getElem? (i := 21) rfl)) rfl (gk_cons (gm_X11_stretch_1 _ (List.mem_of_getElem? (i := 22) rfl)) rfl (gk_cons (gm_X11_stretch_1 _ (List.mem_of_getElem? (i := 23) rfl)) rfl (gk_cons (gm_X11_stretch_2 _ (List.mem_of_getElem? (i := 0) rfl)) rfl (gk_cons (gm_X11_stretch_2 _ (List.mem_of_getElem? (i := 1) rfl)) rfl gk_nil)))))))))
theorem ggX11_stretch_X11_solve : GoodIn wsX11_stretch wsX11_solve := gk_cons (gm_X11_stretch_0 _ (List.mem_of_getElem? (i := 17) rfl)) rfl (goodIn_app (goodIn_app gk_X11_stretch_X11_solve_r1 gk_X11_stretch_X11_solve_r2) (goodIn_sub gm_X11_stretch_3 ag_wsX110))
theorem gX11_stretch_X11_solve : GoodIn wsX11_stretch (wsV RX11 133 RX11 yX11_solve wsX11_solve) := goodIn_app (gk_cons (gm_X11_stretch_0 _ (List.mem_of_getElem? (i := 14) rfl)) rfl (gk_cons (gm_X11_stretch_0 _ (List.mem_of_getElem? (i := 15) rfl)) rfl (gk_cons (gm_X11_stretch_0 _ (List.mem_of_getElem? (i := 16) rfl)) rfl (gk_cons (gm_X11_stretch_0 _ (List.mem_of_getElem? (i := 5) rfl)) rfl gk_nil)))) ggX11_stretch_X11_solve
theorem ggX11_stretch_X11_stretchOf : GoodIn wsX11_stretch wsX11_stretchOf := gk_cons (gm_X11_stretch_2 _ (List.mem_of_getElem? (i := 5) rfl)) rfl (goodIn_app (gk_cons (gm_X11_stretch_0 _ (List.mem_of_getElem? (i := 18) rfl)) rfl (gk_cons (gm_X11_stretch_0 _ (List.mem_of_getElem? (i := 0) rfl)) rfl (gk_cons (gm_X11_stretch_0 _ (List.mem_of_getElem? (i := 19) rfl)) rfl (gk_cons (gm_X11_stretch_0 _ (List.mem_of_getElem? (i := 20) rfl)) rfl (gk_cons (gm_X11_stretch_0 _ (List.mem_of_getElem? (i := 21) rfl)) rfl (gk_cons (gm_X11_stretch_2 _ (List.mem_of_getElem? (i := 6) rfl)) rfl (gk_cons (gm_X11_stretch_2 _ (List.mem_of_getElem? (i := 7) rfl)) rfl (gk_cons (gm_X11_stretch_0 _ (List.mem_of_getElem? (i := 5) rfl)) rfl (gk_cons (gm_X11_stretch_2 _ (List.mem_of_getElem? (i := 8) rfl)) rfl (gk_cons (gm_X11_stretch_2 _ (List.mem_of_getElem? (i := 9) rfl)) rfl (gk_cons (gm_X11_stretch_2 _ (List.mem_of_getElem? (i := 10) rfl)) rfl (gk_cons (gm_X11_stretch_2 _ (List.mem_of_getElem? (i := 11) rfl)) rfl (gk_cons (gm_X11_stretch_2 _ (List.mem_of_getElem? (i := 12) rfl)) rfl gk_nil))))))))))))) (goodIn_sub gm_X11_stretch_3 ag_wsX110))
theorem gX11_stretch_X11_stretchOf : GoodIn wsX11_stretch (wsV RX11 152 RX11 yX11_stretchOf wsX11_stretchOf) := goodIn_app (gk_cons (gm_X11_stretch_2 _ (List.mem_of_getElem? (i := 2) rfl)) rfl (gk_cons (gm_X11_stretch_2 _ (List.mem_of_getElem? (i := 3) rfl)) rfl (gk_cons (gm_X11_stretch_2 _ (List.mem_of_getElem? (i := 4) rfl)) rfl (gk_cons (gm_X11_stretch_0 _ (List.mem_of_getElem? (i := 5) rfl)) rfl gk_nil)))) ggX11_stretch_X11_stretchOf
theorem dX11_stretch_0 : decode cX11_stretch 0 = .ok (.aload_n 0, 1) := by decide +kernel
theorem dX11_stretch_1 : decode cX11_stretch 1 = .ok (.iload_n 1, 1) := by decide +kernel
theorem dX11_stretch_2 : decode cX11_stretch 2 = .ok (.invokevirtual 79, 3) := by decide +kernel
theorem dX11_stretch_5 : decode cX11_stretch 5 = .ok (.ifCond .eq 33, 3) := by decide +kernel
theorem dX11_stretch_8 : decode cX11_stretch 8 = .ok (.iload_n 2, 1) := by decide +kernel
theorem dX11_stretch_9 : decode cX11_stretch 9 = .ok (.iload_n 3, 1) := by decide +kernel
theorem dX11_stretch_10 : decode cX11_stretch 10 = .ok (.iload 4, 2) := by decide +kernel
theorem dX11_stretch_12 : decode cX11_stretch 12 = .ok (.invokestatic 147, 3) := by decide +kernel
theorem dX11_stretch_15 : decode cX11_stretch 15 = .ok (.ifCond .eq 23, 3) := by decide +kernel
theorem dX11_stretch_18 : decode cX11_stretch 18 = .ok (.iload 5, 2) := by decide +kernel
theorem dX11_stretch_20 : decode cX11_stretch 20 = .ok (.iconst 0, 1) := by decide +kernel
theorem dX11_stretch_21 : decode cX11_stretch 21 = .ok (.iconst 2, 1) := by decide +kernel
theorem dX11_stretch_22 : decode cX11_stretch 22 = .ok (.invokestatic 69, 3) := by decide +kernel
theorem dX11_stretch_25 : decode cX11_stretch 25 = .ok (.ifCond .eq 13, 3) := by decide +kernel
theorem dX11_stretch_28 : decode cX11_stretch 28 = .ok (.iload 6, 2) := by decide +kernel
theorem dX11_stretch_30 : decode cX11_stretch 30 = .ok (.iconst 0, 1) := by decide +kernel
theorem dX11_stretch_31 : decode cX11_stretch 31 = .ok (.iconst 1, 1) := by decide +kernel
theorem dX11_stretch_32 : decode cX11_stretch 32 = .ok (.invokestatic 69, 3) := by decide +kernel
theorem dX11_stretch_35 : decode cX11_stretch 35 = .ok (.ifCond .ne 7, 3) := by decide +kernel
theorem dX11_stretch_38 : decode cX11_stretch 38 = .ok (.ldc2_w 112, 3) := by decide +kernel
theorem dX11_stretch_41 : decode cX11_stretch 41 = .ok (.lreturn, 1) := by decide +kernel
theorem dX11_stretch_42 : decode cX11_stretch 42 = .ok (.aload_n 0, 1) := by decide +kernel
theorem dX11_stretch_43 : decode cX11_stretch 43 = .ok (.iload_n 1, 1) := by decide +kernel
theorem dX11_stretch_44 : decode cX11_stretch 44 = .ok (.ldc2_w 150, 3) := by decide +kernel
theorem dX11_stretch_47 : decode cX11_stretch 47 = .ok (.iload_n 2, 1) := by decide +kernel
theorem dX11_stretch_48 : decode cX11_stretch 48 = .ok (.i2l, 1) := by decide +kernel
theorem dX11_stretch_49 : decode cX11_stretch 49 = .ok (.lmul, 1) := by decide +kernel
theorem dX11_stretch_50 : decode cX11_stretch 50 = .ok (.ldc2_w 150, 3) := by decide +kernel
theorem dX11_stretch_53 : decode cX11_stretch 53 = .ok (.iload_n 3, 1) := by decide +kernel
theorem dX11_stretch_54 : decode cX11_stretch 54 = .ok (.i2l, 1) := by decide +kernel
theorem dX11_stretch_55 : decode cX11_stretch 55 = .ok (.lmul, 1) := by decide +kernel
theorem dX11_stretch_56 : decode cX11_stretch 56 = .ok (.ldc2_w 150, 3) := by decide +kernel
theorem dX11_stretch_59 : decode cX11_stretch 59 = .ok (.iload 4, 2) := by decide +kernel
theorem dX11_stretch_61 : decode cX11_stretch 61 = .ok (.i2l, 1) := by decide +kernel
theorem dX11_stretch_62 : decode cX11_stretch 62 = .ok (.lmul, 1) := by decide +kernel
theorem dX11_stretch_63 : decode cX11_stretch 63 = .ok (.invokevirtual 133, 3) := by decide +kernel
theorem dX11_stretch_66 : decode cX11_stretch 66 = .ok (.aload_n 0, 1) := by decide +kernel
theorem dX11_stretch_67 : decode cX11_stretch 67 = .ok (.iload 5, 2) := by decide +kernel
theorem dX11_stretch_69 : decode cX11_stretch 69 = .ok (.iload 6, 2) := by decide +kernel
theorem dX11_stretch_71 : decode cX11_stretch 71 = .ok (.invokevirtual 152, 3) := by decide +kernel
theorem dX11_stretch_74 : decode cX11_stretch 74 = .ok (.lreturn, 1) := by decide +kernel
theorem gm_X11_warm_0 : ∀ w ∈ wsX11_warm_r1, w ∈ wsX11_warm := fun w h => List.mem_cons_of_mem _ (List.mem_append_left _ (List.mem_append_left _ h))
theorem gm_X11_warm_1 : ∀ w ∈ wsX11_warm_r2, w ∈ wsX11_warm := fun w h => List.mem_cons_of_mem _ (List.mem_append_left _ (List.mem_append_right _ (List.mem_append_left _ h)))
theorem gm_X11_warm_2 : ∀ w ∈ wsX11_warm_r3, w ∈ wsX11_warm := fun w h => List.mem_cons_of_mem _ (List.mem_append_left _ (List.mem_append_right _ (List.mem_append_right _ h)))
theorem gm_X11_warm_3 : ∀ w ∈ wsX110, w ∈ wsX11_warm := fun w h => List.mem_cons_of_mem _ (List.mem_append_right _ h)
theorem ggX11_warm_X11_isPlate : GoodIn wsX11_warm wsX11_isPlate := gk_cons (gm_X11_warm_0 _ (List.mem_of_getElem? (i := 13) rfl)) rfl (goodIn_app (gk_cons (gm_X11_warm_0 _ (List.mem_of_getElem? (i := 14) rfl)) rfl (gk_cons (gm_X11_warm_0 _ (List.mem_of_getElem? (i := 15) rfl)) rfl (gk_cons (gm_X11_warm_0 _ (List.mem_of_getElem? (i := 16) rfl)) rfl (gk_cons (gm_X11_warm_0 _ (List.mem_of_getElem? (i := 12) rfl)) rfl (gk_cons (gm_X11_warm_0 _ (List.mem_of_getElem? (i := 17) rfl)) rfl gk_nil))))) (goodIn_sub gm_X11_warm_3 ag_wsX110))
theorem gX11_warm_X11_isPlate : GoodIn wsX11_warm (wsV RX11 79 RX11 yX11_isPlate wsX11_isPlate) := goodIn_app (gk_cons (gm_X11_warm_0 _ (List.mem_of_getElem? (i := 9) rfl)) rfl (gk_cons (gm_X11_warm_0 _ (List.mem_of_getElem? (i := 10) rfl)) rfl (gk_cons (gm_X11_warm_0 _ (List.mem_of_getElem? (i := 11) rfl)) rfl (gk_cons (gm_X11_warm_0 _ (List.mem_of_getElem? (i := 12) rfl)) rfl gk_nil)))) ggX11_warm_X11_isPlate
theorem ggX11_warm_X11_isIn : GoodIn wsX11_warm wsX11_isIn := gk_cons (gm_X11_warm_0 _ (List.mem_of_getElem? (i := 17) rfl)) rfl gk_nil
theorem gX11_warm_X11_isIn : GoodIn wsX11_warm (va_wsS RX11 69 yX11_isIn wsX11_isIn) := goodIn_app (gk_cons (gm_X11_warm_0 _ (List.mem_of_getElem? (i := 15) rfl)) rfl (gk_cons (gm_X11_warm_0 _ (List.mem_of_getElem? (i := 16) rfl)) rfl (gk_cons (gm_X11_warm_0 _ (List.mem_of_getElem? (i := 12) rfl)) rfl gk_nil))) ggX11_warm_X11_isIn
theorem ggX11_warm_X11_spot : GoodIn wsX11_warm wsX11_spot := gk_cons (gm_X11_warm_0 _ (List.mem_of_getElem? (i := 20) rfl)) rfl gk_nil
theorem gX11_warm_X11_spot : GoodIn wsX11_warm (va_wsS RX11 86 yX11_spot wsX11_spot) := goodIn_app (gk_cons (gm_X11_warm_0 _ (List.mem_of_getElem? (i := 18) rfl)) rfl (gk_cons (gm_X11_warm_0 _ (List.mem_of_getElem? (i := 19) rfl)) rfl (gk_cons (gm_X11_warm_0 _ (List.mem_of_getElem? (i := 12) rfl)) rfl gk_nil))) ggX11_warm_X11_spot
theorem ggX11_warm_X11_left : GoodIn wsX11_warm wsX11_left := gk_cons (gm_X11_warm_1 _ (List.mem_of_getElem? (i := 0) rfl)) rfl (goodIn_app (gk_cons (gm_X11_warm_1 _ (List.mem_of_getElem? (i := 1) rfl)) rfl (gk_cons (gm_X11_warm_0 _ (List.mem_of_getElem? (i := 4) rfl)) rfl (gk_cons (gm_X11_warm_1 _ (List.mem_of_getElem? (i := 2) rfl)) rfl (gk_cons (gm_X11_warm_1 _ (List.mem_of_getElem? (i := 3) rfl)) rfl (gk_cons (gm_X11_warm_1 _ (List.mem_of_getElem? (i := 4) rfl)) rfl (gk_cons (gm_X11_warm_1 _ (List.mem_of_getElem? (i := 5) rfl)) rfl gk_nil)))))) (goodIn_sub gm_X11_warm_3 ag_wsX110))
theorem gX11_warm_X11_left : GoodIn wsX11_warm (wsV RX11 98 RX11 yX11_left wsX11_left) := goodIn_app (gk_cons (gm_X11_warm_0 _ (List.mem_of_getElem? (i := 21) rfl)) rfl (gk_cons (gm_X11_warm_0 _ (List.mem_of_getElem? (i := 22) rfl)) rfl (gk_cons (gm_X11_warm_0 _ (List.mem_of_getElem? (i := 23) rfl)) rfl (gk_cons (gm_X11_warm_0 _ (List.mem_of_getElem? (i := 12) rfl)) rfl gk_nil)))) ggX11_warm_X11_left
theorem gk_X11_warm_X11_solve_r1 : GoodIn wsX11_warm wsX11_solve_r1 := (gk_cons (gm_X11_warm_1 _ (List.mem_of_getElem? (i := 10) rfl)) rfl (gk_cons (gm_X11_warm_1 _ (List.mem_of_getElem? (i := 11) rfl)) rfl (gk_cons (gm_X11_warm_1 _ (List.mem_of_getElem? (i := 12) rfl)) rfl (gk_cons (gm_X11_warm_1 _ (List.mem_of_getElem? (i := 13) rfl)) rfl (gk_cons (gm_X11_warm_1 _ (List.mem_of_getElem? (i := 14) rfl)) rfl (gk_cons (gm_X11_warm_1 _ (List.mem_of_getElem? (i := 15) rfl)) rfl (gk_cons (gm_X11_warm_1 _ (List.mem_of_getElem? (i := 16) rfl)) rfl (gk_cons (gm_X11_warm_0 _ (List.mem_of_getElem? (i := 12) rfl)) rfl (gk_cons (gm_X11_warm_1 _ (List.mem_of_getElem? (i := 17) rfl)) rfl (gk_cons (gm_X11_warm_0 _ (List.mem_of_getElem? (i := 1) rfl)) rfl (gk_cons (gm_X11_warm_0 _ (List.mem_of_getElem? (i := 2) rfl)) rfl (gk_cons (gm_X11_warm_1 _ (List.mem_of_getElem? (i := 18) rfl)) rfl (gk_cons (gm_X11_warm_1 _ (List.mem_of_getElem? (i := 19) rfl)) rfl (gk_cons (gm_X11_warm_1 _ (List.mem_of_getElem? (i := 20) rfl)) rfl (gk_cons (gm_X11_warm_1 _ (List.mem_of_getElem? (i := 21) rfl)) rfl (gk_cons (gm_X11_warm_0 _ (List.mem_of_getElem? (i := 18) rfl)) rfl (gk_cons (gm_X11_warm_0 _ (List.mem_of_getElem? (i := 19) rfl)) rfl (gk_cons (gm_X11_warm_0 _ (List.mem_of_getElem? (i := 20) rfl)) rfl (gk_cons (gm_X11_warm_1 _ (List.mem_of_getElem? (i := 22) rfl)) rfl (gk_cons (gm_X11_warm_1 _ (List.mem_of_getElem? (i := 23) rfl)) rfl (gk_cons (gm_X11_warm_2 _ (List.mem_of_getElem? (i := 0) rfl)) rfl (gk_cons (gm_X11_warm_2 _ (List.mem_of_getElem? (i := 1) rfl)) rfl (gk_cons (gm_X11_warm_0 _ (List.mem_of_getElem? (i := 6) rfl)) rfl (gk_cons (gm_X11_warm_0 _ (List.mem_of_getElem? (i := 21) rfl)) rfl gk_nil))))))))))))))))))))))))
theorem gk_X11_warm_X11_solve_r2 : GoodIn wsX11_warm wsX11_solve_r2 := (gk_cons (gm_X11_warm_0 _ (List.mem_of_getElem? (i := 22) rfl)) rfl (gk_cons (gm_X11_warm_0 _ (List.mem_of_getElem? (i := 23) rfl)) rfl (gk_cons (gm_X11_warm_1 _ (List.mem_of_getElem? (i := 0) rfl)) rfl (gk_cons (gm_X11_warm_1 _ (List.mem_of_getElem? (i := 1) rfl)) rfl (gk_cons (gm_X11_warm_0 _ (List.mem_of_getElem? (i := 4) rfl)) rfl (gk_cons (gm_X11_warm_1 _ (List.mem_of_getElem? (i := 2) rfl)) rfl (gk_cons (gm_X11_warm_1 _ (List.mem_of_getElem? (i := 3) rfl)) rfl (gk_cons (gm_X11_warm_1 _ (List.mem_of_getElem? (i := 4) rfl)) rfl (gk_cons (gm_X11_warm_1 _ (List.mem_of_getElem? (i := 5) rfl)) rfl gk_nil)))))))))
theorem ggX11_warm_X11_solve : GoodIn wsX11_warm wsX11_solve := gk_cons (gm_X11_warm_1 _ (List.mem_of_getElem? (i := 9) rfl)) rfl (goodIn_app (goodIn_app gk_X11_warm_X11_solve_r1 gk_X11_warm_X11_solve_r2) (goodIn_sub gm_X11_warm_3 ag_wsX110))
theorem gX11_warm_X11_solve : GoodIn wsX11_warm (wsV RX11 133 RX11 yX11_solve wsX11_solve) := goodIn_app (gk_cons (gm_X11_warm_1 _ (List.mem_of_getElem? (i := 6) rfl)) rfl (gk_cons (gm_X11_warm_1 _ (List.mem_of_getElem? (i := 7) rfl)) rfl (gk_cons (gm_X11_warm_1 _ (List.mem_of_getElem? (i := 8) rfl)) rfl (gk_cons (gm_X11_warm_0 _ (List.mem_of_getElem? (i := 12) rfl)) rfl gk_nil)))) ggX11_warm_X11_solve
theorem ggX11_warm_X11_stretchOf : GoodIn wsX11_warm wsX11_stretchOf := gk_cons (gm_X11_warm_2 _ (List.mem_of_getElem? (i := 5) rfl)) rfl (goodIn_app (gk_cons (gm_X11_warm_1 _ (List.mem_of_getElem? (i := 10) rfl)) rfl (gk_cons (gm_X11_warm_0 _ (List.mem_of_getElem? (i := 0) rfl)) rfl (gk_cons (gm_X11_warm_1 _ (List.mem_of_getElem? (i := 11) rfl)) rfl (gk_cons (gm_X11_warm_1 _ (List.mem_of_getElem? (i := 12) rfl)) rfl (gk_cons (gm_X11_warm_1 _ (List.mem_of_getElem? (i := 13) rfl)) rfl (gk_cons (gm_X11_warm_2 _ (List.mem_of_getElem? (i := 6) rfl)) rfl (gk_cons (gm_X11_warm_2 _ (List.mem_of_getElem? (i := 7) rfl)) rfl (gk_cons (gm_X11_warm_0 _ (List.mem_of_getElem? (i := 12) rfl)) rfl (gk_cons (gm_X11_warm_2 _ (List.mem_of_getElem? (i := 8) rfl)) rfl (gk_cons (gm_X11_warm_2 _ (List.mem_of_getElem? (i := 9) rfl)) rfl (gk_cons (gm_X11_warm_2 _ (List.mem_of_getElem? (i := 10) rfl)) rfl (gk_cons (gm_X11_warm_2 _ (List.mem_of_getElem? (i := 11) rfl)) rfl (gk_cons (gm_X11_warm_2 _ (List.mem_of_getElem? (i := 12) rfl)) rfl gk_nil))))))))))))) (goodIn_sub gm_X11_warm_3 ag_wsX110))
theorem gX11_warm_X11_stretchOf : GoodIn wsX11_warm (wsV RX11 152 RX11 yX11_stretchOf wsX11_stretchOf) := goodIn_app (gk_cons (gm_X11_warm_2 _ (List.mem_of_getElem? (i := 2) rfl)) rfl (gk_cons (gm_X11_warm_2 _ (List.mem_of_getElem? (i := 3) rfl)) rfl (gk_cons (gm_X11_warm_2 _ (List.mem_of_getElem? (i := 4) rfl)) rfl (gk_cons (gm_X11_warm_0 _ (List.mem_of_getElem? (i := 12) rfl)) rfl gk_nil)))) ggX11_warm_X11_stretchOf
theorem dX11_warm_0 : decode cX11_warm 0 = .ok (.aload_n 0, 1) := by decide +kernel
theorem dX11_warm_1 : decode cX11_warm 1 = .ok (.iload_n 1, 1) := by decide +kernel
theorem dX11_warm_2 : decode cX11_warm 2 = .ok (.invokevirtual 79, 3) := by decide +kernel
theorem dX11_warm_5 : decode cX11_warm 5 = .ok (.ifCond .eq 33, 3) := by decide +kernel
theorem dX11_warm_8 : decode cX11_warm 8 = .ok (.iload_n 2, 1) := by decide +kernel
theorem dX11_warm_9 : decode cX11_warm 9 = .ok (.bipush (-100), 2) := by decide +kernel
theorem dX11_warm_11 : decode cX11_warm 11 = .ok (.bipush 100, 2) := by decide +kernel
theorem dX11_warm_13 : decode cX11_warm 13 = .ok (.invokestatic 69, 3) := by decide +kernel
theorem dX11_warm_16 : decode cX11_warm 16 = .ok (.ifCond .eq 22, 3) := by decide +kernel
theorem dX11_warm_19 : decode cX11_warm 19 = .ok (.iload_n 3, 1) := by decide +kernel
theorem dX11_warm_20 : decode cX11_warm 20 = .ok (.iconst 0, 1) := by decide +kernel
theorem dX11_warm_21 : decode cX11_warm 21 = .ok (.iconst 2, 1) := by decide +kernel
theorem dX11_warm_22 : decode cX11_warm 22 = .ok (.invokestatic 69, 3) := by decide +kernel
theorem dX11_warm_25 : decode cX11_warm 25 = .ok (.ifCond .eq 13, 3) := by decide +kernel
theorem dX11_warm_28 : decode cX11_warm 28 = .ok (.iload 4, 2) := by decide +kernel
theorem dX11_warm_30 : decode cX11_warm 30 = .ok (.iconst 0, 1) := by decide +kernel
theorem dX11_warm_31 : decode cX11_warm 31 = .ok (.iconst 1, 1) := by decide +kernel
theorem dX11_warm_32 : decode cX11_warm 32 = .ok (.invokestatic 69, 3) := by decide +kernel
theorem dX11_warm_35 : decode cX11_warm 35 = .ok (.ifCond .ne 7, 3) := by decide +kernel
theorem dX11_warm_38 : decode cX11_warm 38 = .ok (.ldc2_w 112, 3) := by decide +kernel
theorem dX11_warm_41 : decode cX11_warm 41 = .ok (.lreturn, 1) := by decide +kernel
theorem dX11_warm_42 : decode cX11_warm 42 = .ok (.lconst 0, 1) := by decide +kernel
theorem dX11_warm_43 : decode cX11_warm 43 = .ok (.lstore 5, 2) := by decide +kernel
theorem dX11_warm_45 : decode cX11_warm 45 = .ok (.lconst 0, 1) := by decide +kernel
theorem dX11_warm_46 : decode cX11_warm 46 = .ok (.lstore 7, 2) := by decide +kernel
theorem dX11_warm_48 : decode cX11_warm 48 = .ok (.lconst 0, 1) := by decide +kernel
theorem dX11_warm_49 : decode cX11_warm 49 = .ok (.lstore 9, 2) := by decide +kernel
theorem dX11_warm_51 : decode cX11_warm 51 = .ok (.iconst 0, 1) := by decide +kernel
theorem dX11_warm_52 : decode cX11_warm 52 = .ok (.istore 11, 2) := by decide +kernel
theorem dX11_warm_54 : decode cX11_warm 54 = .ok (.iload 11, 2) := by decide +kernel
theorem dX11_warm_56 : decode cX11_warm 56 = .ok (.aload_n 0, 1) := by decide +kernel
theorem dX11_warm_57 : decode cX11_warm 57 = .ok (.getfield 35, 3) := by decide +kernel
theorem dX11_warm_60 : decode cX11_warm 60 = .ok (.iload_n 1, 1) := by decide +kernel
theorem dX11_warm_61 : decode cX11_warm 61 = .ok (.iaload, 1) := by decide +kernel
theorem dX11_warm_62 : decode cX11_warm 62 = .ok (.if_icmp .ge 282, 3) := by decide +kernel
theorem dX11_warm_65 : decode cX11_warm 65 = .ok (.iload_n 1, 1) := by decide +kernel
theorem dX11_warm_66 : decode cX11_warm 66 = .ok (.iload 11, 2) := by decide +kernel
theorem dX11_warm_68 : decode cX11_warm 68 = .ok (.invokestatic 86, 3) := by decide +kernel
theorem dX11_warm_71 : decode cX11_warm 71 = .ok (.istore 12, 2) := by decide +kernel
theorem dX11_warm_73 : decode cX11_warm 73 = .ok (.iload_n 2, 1) := by decide +kernel
theorem dX11_warm_74 : decode cX11_warm 74 = .ok (.i2l, 1) := by decide +kernel
theorem dX11_warm_75 : decode cX11_warm 75 = .ok (.aload_n 0, 1) := by decide +kernel
theorem dX11_warm_76 : decode cX11_warm 76 = .ok (.getfield 44, 3) := by decide +kernel
theorem dX11_warm_79 : decode cX11_warm 79 = .ok (.iload 12, 2) := by decide +kernel
theorem dX11_warm_81 : decode cX11_warm 81 = .ok (.iaload, 1) := by decide +kernel
theorem dX11_warm_82 : decode cX11_warm 82 = .ok (.i2l, 1) := by decide +kernel
theorem dX11_warm_83 : decode cX11_warm 83 = .ok (.lmul, 1) := by decide +kernel
theorem dX11_warm_84 : decode cX11_warm 84 = .ok (.lstore 13, 2) := by decide +kernel
theorem dX11_warm_86 : decode cX11_warm 86 = .ok (.lload 13, 2) := by decide +kernel
theorem dX11_warm_88 : decode cX11_warm 88 = .ok (.aload_n 0, 1) := by decide +kernel
theorem dX11_warm_89 : decode cX11_warm 89 = .ok (.iload 12, 2) := by decide +kernel
theorem dX11_warm_91 : decode cX11_warm 91 = .ok (.iconst 0, 1) := by decide +kernel
theorem dX11_warm_92 : decode cX11_warm 92 = .ok (.invokevirtual 98, 3) := by decide +kernel
theorem dX11_warm_95 : decode cX11_warm 95 = .ok (.aload_n 0, 1) := by decide +kernel
theorem dX11_warm_96 : decode cX11_warm 96 = .ok (.getfield 29, 3) := by decide +kernel
theorem dX11_warm_99 : decode cX11_warm 99 = .ok (.aload_n 0, 1) := by decide +kernel
theorem dX11_warm_100 : decode cX11_warm 100 = .ok (.getfield 38, 3) := by decide +kernel
theorem dX11_warm_103 : decode cX11_warm 103 = .ok (.iload 12, 2) := by decide +kernel
theorem dX11_warm_105 : decode cX11_warm 105 = .ok (.iaload, 1) := by decide +kernel
theorem dX11_warm_106 : decode cX11_warm 106 = .ok (.iaload, 1) := by decide +kernel
theorem dX11_warm_107 : decode cX11_warm 107 = .ok (.imul, 1) := by decide +kernel
theorem dX11_warm_108 : decode cX11_warm 108 = .ok (.aload_n 0, 1) := by decide +kernel
theorem dX11_warm_109 : decode cX11_warm 109 = .ok (.iload 12, 2) := by decide +kernel
theorem dX11_warm_111 : decode cX11_warm 111 = .ok (.iconst 2, 1) := by decide +kernel
theorem dX11_warm_112 : decode cX11_warm 112 = .ok (.invokevirtual 98, 3) := by decide +kernel
theorem dX11_warm_115 : decode cX11_warm 115 = .ok (.aload_n 0, 1) := by decide +kernel
theorem dX11_warm_116 : decode cX11_warm 116 = .ok (.getfield 32, 3) := by decide +kernel
theorem dX11_warm_119 : decode cX11_warm 119 = .ok (.aload_n 0, 1) := by decide +kernel
theorem dX11_warm_120 : decode cX11_warm 120 = .ok (.getfield 38, 3) := by decide +kernel
theorem dX11_warm_123 : decode cX11_warm 123 = .ok (.iload 12, 2) := by decide +kernel
theorem dX11_warm_125 : decode cX11_warm 125 = .ok (.iaload, 1) := by decide +kernel
theorem dX11_warm_126 : decode cX11_warm 126 = .ok (.iaload, 1) := by decide +kernel
theorem dX11_warm_127 : decode cX11_warm 127 = .ok (.imul, 1) := by decide +kernel
theorem dX11_warm_128 : decode cX11_warm 128 = .ok (.iadd, 1) := by decide +kernel
theorem dX11_warm_129 : decode cX11_warm 129 = .ok (.i2l, 1) := by decide +kernel
theorem dX11_warm_130 : decode cX11_warm 130 = .ok (.lmul, 1) := by decide +kernel
theorem dX11_warm_131 : decode cX11_warm 131 = .ok (.lstore 15, 2) := by decide +kernel
theorem dX11_warm_133 : decode cX11_warm 133 = .ok (.lload 13, 2) := by decide +kernel
theorem dX11_warm_135 : decode cX11_warm 135 = .ok (.aload_n 0, 1) := by decide +kernel
theorem dX11_warm_136 : decode cX11_warm 136 = .ok (.iload 12, 2) := by decide +kernel
theorem dX11_warm_138 : decode cX11_warm 138 = .ok (.iconst 2, 1) := by decide +kernel
theorem dX11_warm_139 : decode cX11_warm 139 = .ok (.invokevirtual 98, 3) := by decide +kernel
theorem dX11_warm_142 : decode cX11_warm 142 = .ok (.aload_n 0, 1) := by decide +kernel
theorem dX11_warm_143 : decode cX11_warm 143 = .ok (.getfield 29, 3) := by decide +kernel
theorem dX11_warm_146 : decode cX11_warm 146 = .ok (.aload_n 0, 1) := by decide +kernel
theorem dX11_warm_147 : decode cX11_warm 147 = .ok (.getfield 38, 3) := by decide +kernel
theorem dX11_warm_150 : decode cX11_warm 150 = .ok (.iload 12, 2) := by decide +kernel
theorem dX11_warm_152 : decode cX11_warm 152 = .ok (.iaload, 1) := by decide +kernel
theorem dX11_warm_153 : decode cX11_warm 153 = .ok (.iaload, 1) := by decide +kernel
theorem dX11_warm_154 : decode cX11_warm 154 = .ok (.imul, 1) := by decide +kernel
theorem dX11_warm_155 : decode cX11_warm 155 = .ok (.aload_n 0, 1) := by decide +kernel
theorem dX11_warm_156 : decode cX11_warm 156 = .ok (.iload 12, 2) := by decide +kernel
theorem dX11_warm_158 : decode cX11_warm 158 = .ok (.iconst 1, 1) := by decide +kernel
theorem dX11_warm_159 : decode cX11_warm 159 = .ok (.invokevirtual 98, 3) := by decide +kernel
theorem dX11_warm_162 : decode cX11_warm 162 = .ok (.aload_n 0, 1) := by decide +kernel
theorem dX11_warm_163 : decode cX11_warm 163 = .ok (.getfield 32, 3) := by decide +kernel
theorem dX11_warm_166 : decode cX11_warm 166 = .ok (.aload_n 0, 1) := by decide +kernel
theorem dX11_warm_167 : decode cX11_warm 167 = .ok (.getfield 38, 3) := by decide +kernel
theorem dX11_warm_170 : decode cX11_warm 170 = .ok (.iload 12, 2) := by decide +kernel
theorem dX11_warm_172 : decode cX11_warm 172 = .ok (.iaload, 1) := by decide +kernel
theorem dX11_warm_173 : decode cX11_warm 173 = .ok (.iaload, 1) := by decide +kernel
theorem dX11_warm_174 : decode cX11_warm 174 = .ok (.imul, 1) := by decide +kernel
theorem dX11_warm_175 : decode cX11_warm 175 = .ok (.iadd, 1) := by decide +kernel
theorem dX11_warm_176 : decode cX11_warm 176 = .ok (.i2l, 1) := by decide +kernel
theorem dX11_warm_177 : decode cX11_warm 177 = .ok (.lmul, 1) := by decide +kernel
theorem dX11_warm_178 : decode cX11_warm 178 = .ok (.lstore 17, 2) := by decide +kernel
theorem dX11_warm_180 : decode cX11_warm 180 = .ok (.lload 5, 2) := by decide +kernel
theorem dX11_warm_182 : decode cX11_warm 182 = .ok (.aload_n 0, 1) := by decide +kernel
theorem dX11_warm_183 : decode cX11_warm 183 = .ok (.getfield 41, 3) := by decide +kernel
theorem dX11_warm_186 : decode cX11_warm 186 = .ok (.iload 12, 2) := by decide +kernel
theorem dX11_warm_188 : decode cX11_warm 188 = .ok (.iaload, 1) := by decide +kernel
theorem dX11_warm_189 : decode cX11_warm 189 = .ok (.ifCond .ne 12, 3) := by decide +kernel
theorem dX11_warm_192 : decode cX11_warm 192 = .ok (.ldc2_w 150, 3) := by decide +kernel
theorem dX11_warm_195 : decode cX11_warm 195 = .ok (.lload 15, 2) := by decide +kernel
theorem dX11_warm_197 : decode cX11_warm 197 = .ok (.lmul, 1) := by decide +kernel
theorem dX11_warm_198 : decode cX11_warm 198 = .ok (.goto 32, 3) := by decide +kernel
theorem dX11_warm_201 : decode cX11_warm 201 = .ok (.aload_n 0, 1) := by decide +kernel
theorem dX11_warm_202 : decode cX11_warm 202 = .ok (.getfield 41, 3) := by decide +kernel
theorem dX11_warm_205 : decode cX11_warm 205 = .ok (.iload 12, 2) := by decide +kernel
theorem dX11_warm_207 : decode cX11_warm 207 = .ok (.iaload, 1) := by decide +kernel
theorem dX11_warm_208 : decode cX11_warm 208 = .ok (.iconst 1, 1) := by decide +kernel
theorem dX11_warm_209 : decode cX11_warm 209 = .ok (.if_icmp .ne 12, 3) := by decide +kernel
theorem dX11_warm_212 : decode cX11_warm 212 = .ok (.ldc2_w 150, 3) := by decide +kernel
theorem dX11_warm_215 : decode cX11_warm 215 = .ok (.lload 17, 2) := by decide +kernel
theorem dX11_warm_217 : decode cX11_warm 217 = .ok (.lmul, 1) := by decide +kernel
theorem dX11_warm_218 : decode cX11_warm 218 = .ok (.goto 12, 3) := by decide +kernel
theorem dX11_warm_221 : decode cX11_warm 221 = .ok (.ldc2_w 156, 3) := by decide +kernel
theorem dX11_warm_224 : decode cX11_warm 224 = .ok (.lload 15, 2) := by decide +kernel
theorem dX11_warm_226 : decode cX11_warm 226 = .ok (.lload 17, 2) := by decide +kernel
theorem dX11_warm_228 : decode cX11_warm 228 = .ok (.ladd, 1) := by decide +kernel
theorem dX11_warm_229 : decode cX11_warm 229 = .ok (.lmul, 1) := by decide +kernel
theorem dX11_warm_230 : decode cX11_warm 230 = .ok (.ladd, 1) := by decide +kernel
theorem dX11_warm_231 : decode cX11_warm 231 = .ok (.lstore 5, 2) := by decide +kernel
theorem dX11_warm_233 : decode cX11_warm 233 = .ok (.lload 7, 2) := by decide +kernel
theorem dX11_warm_235 : decode cX11_warm 235 = .ok (.aload_n 0, 1) := by decide +kernel
theorem dX11_warm_236 : decode cX11_warm 236 = .ok (.getfield 41, 3) := by decide +kernel
theorem dX11_warm_239 : decode cX11_warm 239 = .ok (.iload 12, 2) := by decide +kernel
theorem dX11_warm_241 : decode cX11_warm 241 = .ok (.iaload, 1) := by decide +kernel
theorem dX11_warm_242 : decode cX11_warm 242 = .ok (.ifCond .ne 12, 3) := by decide +kernel
theorem dX11_warm_245 : decode cX11_warm 245 = .ok (.ldc2_w 150, 3) := by decide +kernel
theorem dX11_warm_248 : decode cX11_warm 248 = .ok (.lload 17, 2) := by decide +kernel
theorem dX11_warm_250 : decode cX11_warm 250 = .ok (.lmul, 1) := by decide +kernel
theorem dX11_warm_251 : decode cX11_warm 251 = .ok (.goto 32, 3) := by decide +kernel
theorem dX11_warm_254 : decode cX11_warm 254 = .ok (.aload_n 0, 1) := by decide +kernel
theorem dX11_warm_255 : decode cX11_warm 255 = .ok (.getfield 41, 3) := by decide +kernel
theorem dX11_warm_258 : decode cX11_warm 258 = .ok (.iload 12, 2) := by decide +kernel
theorem dX11_warm_260 : decode cX11_warm 260 = .ok (.iaload, 1) := by decide +kernel
theorem dX11_warm_261 : decode cX11_warm 261 = .ok (.iconst 1, 1) := by decide +kernel
theorem dX11_warm_262 : decode cX11_warm 262 = .ok (.if_icmp .ne 12, 3) := by decide +kernel
theorem dX11_warm_265 : decode cX11_warm 265 = .ok (.ldc2_w 150, 3) := by decide +kernel
theorem dX11_warm_268 : decode cX11_warm 268 = .ok (.lload 15, 2) := by decide +kernel
theorem dX11_warm_270 : decode cX11_warm 270 = .ok (.lmul, 1) := by decide +kernel
theorem dX11_warm_271 : decode cX11_warm 271 = .ok (.goto 12, 3) := by decide +kernel
theorem dX11_warm_274 : decode cX11_warm 274 = .ok (.ldc2_w 156, 3) := by decide +kernel
theorem dX11_warm_277 : decode cX11_warm 277 = .ok (.lload 15, 2) := by decide +kernel
theorem dX11_warm_279 : decode cX11_warm 279 = .ok (.lload 17, 2) := by decide +kernel
theorem dX11_warm_281 : decode cX11_warm 281 = .ok (.ladd, 1) := by decide +kernel
theorem dX11_warm_282 : decode cX11_warm 282 = .ok (.lmul, 1) := by decide +kernel
theorem dX11_warm_283 : decode cX11_warm 283 = .ok (.ladd, 1) := by decide +kernel
theorem dX11_warm_284 : decode cX11_warm 284 = .ok (.lstore 7, 2) := by decide +kernel
theorem dX11_warm_286 : decode cX11_warm 286 = .ok (.lload 9, 2) := by decide +kernel
theorem dX11_warm_288 : decode cX11_warm 288 = .ok (.aload_n 0, 1) := by decide +kernel
theorem dX11_warm_289 : decode cX11_warm 289 = .ok (.getfield 41, 3) := by decide +kernel
theorem dX11_warm_292 : decode cX11_warm 292 = .ok (.iload 12, 2) := by decide +kernel
theorem dX11_warm_294 : decode cX11_warm 294 = .ok (.iaload, 1) := by decide +kernel
theorem dX11_warm_295 : decode cX11_warm 295 = .ok (.iconst 2, 1) := by decide +kernel
theorem dX11_warm_296 : decode cX11_warm 296 = .ok (.if_icmp .ge 7, 3) := by decide +kernel
theorem dX11_warm_299 : decode cX11_warm 299 = .ok (.lconst 0, 1) := by decide +kernel
theorem dX11_warm_300 : decode cX11_warm 300 = .ok (.goto 35, 3) := by decide +kernel
theorem dX11_warm_303 : decode cX11_warm 303 = .ok (.aload_n 0, 1) := by decide +kernel
theorem dX11_warm_304 : decode cX11_warm 304 = .ok (.getfield 41, 3) := by decide +kernel
theorem dX11_warm_307 : decode cX11_warm 307 = .ok (.iload 12, 2) := by decide +kernel
theorem dX11_warm_309 : decode cX11_warm 309 = .ok (.iaload, 1) := by decide +kernel
theorem dX11_warm_310 : decode cX11_warm 310 = .ok (.iconst 2, 1) := by decide +kernel
theorem dX11_warm_311 : decode cX11_warm 311 = .ok (.if_icmp .ne 15, 3) := by decide +kernel
theorem dX11_warm_314 : decode cX11_warm 314 = .ok (.ldc2_w 156, 3) := by decide +kernel
theorem dX11_warm_317 : decode cX11_warm 317 = .ok (.lload 15, 2) := by decide +kernel
theorem dX11_warm_319 : decode cX11_warm 319 = .ok (.lload 17, 2) := by decide +kernel
theorem dX11_warm_321 : decode cX11_warm 321 = .ok (.lsub, 1) := by decide +kernel
theorem dX11_warm_322 : decode cX11_warm 322 = .ok (.lmul, 1) := by decide +kernel
theorem dX11_warm_323 : decode cX11_warm 323 = .ok (.goto 12, 3) := by decide +kernel
theorem dX11_warm_326 : decode cX11_warm 326 = .ok (.ldc2_w 156, 3) := by decide +kernel
theorem dX11_warm_329 : decode cX11_warm 329 = .ok (.lload 17, 2) := by decide +kernel
theorem dX11_warm_331 : decode cX11_warm 331 = .ok (.lload 15, 2) := by decide +kernel
theorem dX11_warm_333 : decode cX11_warm 333 = .ok (.lsub, 1) := by decide +kernel
theorem dX11_warm_334 : decode cX11_warm 334 = .ok (.lmul, 1) := by decide +kernel
theorem dX11_warm_335 : decode cX11_warm 335 = .ok (.ladd, 1) := by decide +kernel
theorem dX11_warm_336 : decode cX11_warm 336 = .ok (.lstore 9, 2) := by decide +kernel
theorem dX11_warm_338 : decode cX11_warm 338 = .ok (.iinc 11 1, 3) := by decide +kernel
theorem dX11_warm_341 : decode cX11_warm 341 = .ok (.goto (-287), 3) := by decide +kernel
theorem dX11_warm_344 : decode cX11_warm 344 = .ok (.aload_n 0, 1) := by decide +kernel
theorem dX11_warm_345 : decode cX11_warm 345 = .ok (.iload_n 1, 1) := by decide +kernel
theorem dX11_warm_346 : decode cX11_warm 346 = .ok (.lload 5, 2) := by decide +kernel
theorem dX11_warm_348 : decode cX11_warm 348 = .ok (.lload 7, 2) := by decide +kernel
theorem dX11_warm_350 : decode cX11_warm 350 = .ok (.lload 9, 2) := by decide +kernel
theorem dX11_warm_352 : decode cX11_warm 352 = .ok (.invokevirtual 133, 3) := by decide +kernel
theorem dX11_warm_355 : decode cX11_warm 355 = .ok (.aload_n 0, 1) := by decide +kernel
theorem dX11_warm_356 : decode cX11_warm 356 = .ok (.iload_n 3, 1) := by decide +kernel
theorem dX11_warm_357 : decode cX11_warm 357 = .ok (.iload 4, 2) := by decide +kernel
theorem dX11_warm_359 : decode cX11_warm 359 = .ok (.invokevirtual 152, 3) := by decide +kernel
theorem dX11_warm_362 : decode cX11_warm 362 = .ok (.lreturn, 1) := by decide +kernel
theorem gm_X11_stress_0 : ∀ w ∈ wsX110, w ∈ wsX11_stress := fun w h => List.mem_cons_of_mem _ (List.mem_append_right _ h)
theorem ggX11_stress_X11_left : GoodIn wsX11_stress wsX11_left := gk_cons (List.mem_cons_of_mem _ (List.mem_append_left _ (List.mem_of_getElem? (i := 10) rfl))) rfl (goodIn_app (gk_cons (List.mem_cons_of_mem _ (List.mem_append_left _ (List.mem_of_getElem? (i := 11) rfl))) rfl (gk_cons (List.mem_cons_of_mem _ (List.mem_append_left _ (List.mem_of_getElem? (i := 12) rfl))) rfl (gk_cons (List.mem_cons_of_mem _ (List.mem_append_left _ (List.mem_of_getElem? (i := 13) rfl))) rfl (gk_cons (List.mem_cons_of_mem _ (List.mem_append_left _ (List.mem_of_getElem? (i := 14) rfl))) rfl (gk_cons (List.mem_cons_of_mem _ (List.mem_append_left _ (List.mem_of_getElem? (i := 15) rfl))) rfl (gk_cons (List.mem_cons_of_mem _ (List.mem_append_left _ (List.mem_of_getElem? (i := 16) rfl))) rfl gk_nil)))))) (goodIn_sub gm_X11_stress_0 ag_wsX110))
theorem gX11_stress_X11_left : GoodIn wsX11_stress (wsV RX11 98 RX11 yX11_left wsX11_left) := goodIn_app (gk_cons (List.mem_cons_of_mem _ (List.mem_append_left _ (List.mem_of_getElem? (i := 6) rfl))) rfl (gk_cons (List.mem_cons_of_mem _ (List.mem_append_left _ (List.mem_of_getElem? (i := 7) rfl))) rfl (gk_cons (List.mem_cons_of_mem _ (List.mem_append_left _ (List.mem_of_getElem? (i := 8) rfl))) rfl (gk_cons (List.mem_cons_of_mem _ (List.mem_append_left _ (List.mem_of_getElem? (i := 9) rfl))) rfl gk_nil)))) ggX11_stress_X11_left
theorem dX11_stress_0 : decode cX11_stress 0 = .ok (.aload_n 0, 1) := by decide +kernel
theorem dX11_stress_1 : decode cX11_stress 1 = .ok (.getfield 41, 3) := by decide +kernel
theorem dX11_stress_4 : decode cX11_stress 4 = .ok (.iload_n 1, 1) := by decide +kernel
theorem dX11_stress_5 : decode cX11_stress 5 = .ok (.iaload, 1) := by decide +kernel
theorem dX11_stress_6 : decode cX11_stress 6 = .ok (.ifCond .ne 14, 3) := by decide +kernel
theorem dX11_stress_9 : decode cX11_stress 9 = .ok (.ldc2_w 156, 3) := by decide +kernel
theorem dX11_stress_12 : decode cX11_stress 12 = .ok (.aload_n 0, 1) := by decide +kernel
theorem dX11_stress_13 : decode cX11_stress 13 = .ok (.getfield 124, 3) := by decide +kernel
theorem dX11_stress_16 : decode cX11_stress 16 = .ok (.lmul, 1) := by decide +kernel
theorem dX11_stress_17 : decode cX11_stress 17 = .ok (.goto 65, 3) := by decide +kernel
theorem dX11_stress_20 : decode cX11_stress 20 = .ok (.aload_n 0, 1) := by decide +kernel
theorem dX11_stress_21 : decode cX11_stress 21 = .ok (.getfield 41, 3) := by decide +kernel
theorem dX11_stress_24 : decode cX11_stress 24 = .ok (.iload_n 1, 1) := by decide +kernel
theorem dX11_stress_25 : decode cX11_stress 25 = .ok (.iaload, 1) := by decide +kernel
theorem dX11_stress_26 : decode cX11_stress 26 = .ok (.iconst 1, 1) := by decide +kernel
theorem dX11_stress_27 : decode cX11_stress 27 = .ok (.if_icmp .ne 14, 3) := by decide +kernel
theorem dX11_stress_30 : decode cX11_stress 30 = .ok (.ldc2_w 156, 3) := by decide +kernel
theorem dX11_stress_33 : decode cX11_stress 33 = .ok (.aload_n 0, 1) := by decide +kernel
theorem dX11_stress_34 : decode cX11_stress 34 = .ok (.getfield 127, 3) := by decide +kernel
theorem dX11_stress_37 : decode cX11_stress 37 = .ok (.lmul, 1) := by decide +kernel
theorem dX11_stress_38 : decode cX11_stress 38 = .ok (.goto 44, 3) := by decide +kernel
theorem dX11_stress_41 : decode cX11_stress 41 = .ok (.aload_n 0, 1) := by decide +kernel
theorem dX11_stress_42 : decode cX11_stress 42 = .ok (.getfield 41, 3) := by decide +kernel
theorem dX11_stress_45 : decode cX11_stress 45 = .ok (.iload_n 1, 1) := by decide +kernel
theorem dX11_stress_46 : decode cX11_stress 46 = .ok (.iaload, 1) := by decide +kernel
theorem dX11_stress_47 : decode cX11_stress 47 = .ok (.iconst 2, 1) := by decide +kernel
theorem dX11_stress_48 : decode cX11_stress 48 = .ok (.if_icmp .ne 20, 3) := by decide +kernel
theorem dX11_stress_51 : decode cX11_stress 51 = .ok (.aload_n 0, 1) := by decide +kernel
theorem dX11_stress_52 : decode cX11_stress 52 = .ok (.getfield 124, 3) := by decide +kernel
theorem dX11_stress_55 : decode cX11_stress 55 = .ok (.aload_n 0, 1) := by decide +kernel
theorem dX11_stress_56 : decode cX11_stress 56 = .ok (.getfield 127, 3) := by decide +kernel
theorem dX11_stress_59 : decode cX11_stress 59 = .ok (.ladd, 1) := by decide +kernel
theorem dX11_stress_60 : decode cX11_stress 60 = .ok (.aload_n 0, 1) := by decide +kernel
theorem dX11_stress_61 : decode cX11_stress 61 = .ok (.getfield 130, 3) := by decide +kernel
theorem dX11_stress_64 : decode cX11_stress 64 = .ok (.ladd, 1) := by decide +kernel
theorem dX11_stress_65 : decode cX11_stress 65 = .ok (.goto 17, 3) := by decide +kernel
theorem dX11_stress_68 : decode cX11_stress 68 = .ok (.aload_n 0, 1) := by decide +kernel
theorem dX11_stress_69 : decode cX11_stress 69 = .ok (.getfield 124, 3) := by decide +kernel
theorem dX11_stress_72 : decode cX11_stress 72 = .ok (.aload_n 0, 1) := by decide +kernel
theorem dX11_stress_73 : decode cX11_stress 73 = .ok (.getfield 127, 3) := by decide +kernel
theorem dX11_stress_76 : decode cX11_stress 76 = .ok (.ladd, 1) := by decide +kernel
theorem dX11_stress_77 : decode cX11_stress 77 = .ok (.aload_n 0, 1) := by decide +kernel
theorem dX11_stress_78 : decode cX11_stress 78 = .ok (.getfield 130, 3) := by decide +kernel
theorem dX11_stress_81 : decode cX11_stress 81 = .ok (.lsub, 1) := by decide +kernel
theorem dX11_stress_82 : decode cX11_stress 82 = .ok (.lstore_n 3, 1) := by decide +kernel
theorem dX11_stress_83 : decode cX11_stress 83 = .ok (.aload_n 0, 1) := by decide +kernel
theorem dX11_stress_84 : decode cX11_stress 84 = .ok (.getfield 41, 3) := by decide +kernel
theorem dX11_stress_87 : decode cX11_stress 87 = .ok (.iload_n 1, 1) := by decide +kernel
theorem dX11_stress_88 : decode cX11_stress 88 = .ok (.iaload, 1) := by decide +kernel
theorem dX11_stress_89 : decode cX11_stress 89 = .ok (.ifCond .ne 14, 3) := by decide +kernel
theorem dX11_stress_92 : decode cX11_stress 92 = .ok (.ldc2_w 156, 3) := by decide +kernel
theorem dX11_stress_95 : decode cX11_stress 95 = .ok (.aload_n 0, 1) := by decide +kernel
theorem dX11_stress_96 : decode cX11_stress 96 = .ok (.getfield 127, 3) := by decide +kernel
theorem dX11_stress_99 : decode cX11_stress 99 = .ok (.lmul, 1) := by decide +kernel
theorem dX11_stress_100 : decode cX11_stress 100 = .ok (.goto 65, 3) := by decide +kernel
theorem dX11_stress_103 : decode cX11_stress 103 = .ok (.aload_n 0, 1) := by decide +kernel
theorem dX11_stress_104 : decode cX11_stress 104 = .ok (.getfield 41, 3) := by decide +kernel
theorem dX11_stress_107 : decode cX11_stress 107 = .ok (.iload_n 1, 1) := by decide +kernel
theorem dX11_stress_108 : decode cX11_stress 108 = .ok (.iaload, 1) := by decide +kernel
theorem dX11_stress_109 : decode cX11_stress 109 = .ok (.iconst 1, 1) := by decide +kernel
theorem dX11_stress_110 : decode cX11_stress 110 = .ok (.if_icmp .ne 14, 3) := by decide +kernel
theorem dX11_stress_113 : decode cX11_stress 113 = .ok (.ldc2_w 156, 3) := by decide +kernel
theorem dX11_stress_116 : decode cX11_stress 116 = .ok (.aload_n 0, 1) := by decide +kernel
theorem dX11_stress_117 : decode cX11_stress 117 = .ok (.getfield 124, 3) := by decide +kernel
theorem dX11_stress_120 : decode cX11_stress 120 = .ok (.lmul, 1) := by decide +kernel
theorem dX11_stress_121 : decode cX11_stress 121 = .ok (.goto 44, 3) := by decide +kernel
theorem dX11_stress_124 : decode cX11_stress 124 = .ok (.aload_n 0, 1) := by decide +kernel
theorem dX11_stress_125 : decode cX11_stress 125 = .ok (.getfield 41, 3) := by decide +kernel
theorem dX11_stress_128 : decode cX11_stress 128 = .ok (.iload_n 1, 1) := by decide +kernel
theorem dX11_stress_129 : decode cX11_stress 129 = .ok (.iaload, 1) := by decide +kernel
theorem dX11_stress_130 : decode cX11_stress 130 = .ok (.iconst 2, 1) := by decide +kernel
theorem dX11_stress_131 : decode cX11_stress 131 = .ok (.if_icmp .ne 20, 3) := by decide +kernel
theorem dX11_stress_134 : decode cX11_stress 134 = .ok (.aload_n 0, 1) := by decide +kernel
theorem dX11_stress_135 : decode cX11_stress 135 = .ok (.getfield 124, 3) := by decide +kernel
theorem dX11_stress_138 : decode cX11_stress 138 = .ok (.aload_n 0, 1) := by decide +kernel
theorem dX11_stress_139 : decode cX11_stress 139 = .ok (.getfield 127, 3) := by decide +kernel
theorem dX11_stress_142 : decode cX11_stress 142 = .ok (.ladd, 1) := by decide +kernel
theorem dX11_stress_143 : decode cX11_stress 143 = .ok (.aload_n 0, 1) := by decide +kernel
theorem dX11_stress_144 : decode cX11_stress 144 = .ok (.getfield 130, 3) := by decide +kernel
theorem dX11_stress_147 : decode cX11_stress 147 = .ok (.lsub, 1) := by decide +kernel
theorem dX11_stress_148 : decode cX11_stress 148 = .ok (.goto 17, 3) := by decide +kernel
theorem dX11_stress_151 : decode cX11_stress 151 = .ok (.aload_n 0, 1) := by decide +kernel
theorem dX11_stress_152 : decode cX11_stress 152 = .ok (.getfield 124, 3) := by decide +kernel
theorem dX11_stress_155 : decode cX11_stress 155 = .ok (.aload_n 0, 1) := by decide +kernel
theorem dX11_stress_156 : decode cX11_stress 156 = .ok (.getfield 127, 3) := by decide +kernel
theorem dX11_stress_159 : decode cX11_stress 159 = .ok (.ladd, 1) := by decide +kernel
theorem dX11_stress_160 : decode cX11_stress 160 = .ok (.aload_n 0, 1) := by decide +kernel
theorem dX11_stress_161 : decode cX11_stress 161 = .ok (.getfield 130, 3) := by decide +kernel
theorem dX11_stress_164 : decode cX11_stress 164 = .ok (.ladd, 1) := by decide +kernel
theorem dX11_stress_165 : decode cX11_stress 165 = .ok (.lstore 5, 2) := by decide +kernel
theorem dX11_stress_167 : decode cX11_stress 167 = .ok (.aload_n 0, 1) := by decide +kernel
theorem dX11_stress_168 : decode cX11_stress 168 = .ok (.getfield 41, 3) := by decide +kernel
theorem dX11_stress_171 : decode cX11_stress 171 = .ok (.iload_n 1, 1) := by decide +kernel
theorem dX11_stress_172 : decode cX11_stress 172 = .ok (.iaload, 1) := by decide +kernel
theorem dX11_stress_173 : decode cX11_stress 173 = .ok (.ifCond .ne 14, 3) := by decide +kernel
theorem dX11_stress_176 : decode cX11_stress 176 = .ok (.ldc2_w 156, 3) := by decide +kernel
theorem dX11_stress_179 : decode cX11_stress 179 = .ok (.aload_n 0, 1) := by decide +kernel
theorem dX11_stress_180 : decode cX11_stress 180 = .ok (.getfield 130, 3) := by decide +kernel
theorem dX11_stress_183 : decode cX11_stress 183 = .ok (.lmul, 1) := by decide +kernel
theorem dX11_stress_184 : decode cX11_stress 184 = .ok (.goto 71, 3) := by decide +kernel
theorem dX11_stress_187 : decode cX11_stress 187 = .ok (.aload_n 0, 1) := by decide +kernel
theorem dX11_stress_188 : decode cX11_stress 188 = .ok (.getfield 41, 3) := by decide +kernel
theorem dX11_stress_191 : decode cX11_stress 191 = .ok (.iload_n 1, 1) := by decide +kernel
theorem dX11_stress_192 : decode cX11_stress 192 = .ok (.iaload, 1) := by decide +kernel
theorem dX11_stress_193 : decode cX11_stress 193 = .ok (.iconst 1, 1) := by decide +kernel
theorem dX11_stress_194 : decode cX11_stress 194 = .ok (.if_icmp .ne 14, 3) := by decide +kernel
theorem dX11_stress_197 : decode cX11_stress 197 = .ok (.ldc2_w 158, 3) := by decide +kernel
theorem dX11_stress_200 : decode cX11_stress 200 = .ok (.aload_n 0, 1) := by decide +kernel
theorem dX11_stress_201 : decode cX11_stress 201 = .ok (.getfield 130, 3) := by decide +kernel
theorem dX11_stress_204 : decode cX11_stress 204 = .ok (.lmul, 1) := by decide +kernel
theorem dX11_stress_205 : decode cX11_stress 205 = .ok (.goto 50, 3) := by decide +kernel
theorem dX11_stress_208 : decode cX11_stress 208 = .ok (.aload_n 0, 1) := by decide +kernel
theorem dX11_stress_209 : decode cX11_stress 209 = .ok (.getfield 41, 3) := by decide +kernel
theorem dX11_stress_212 : decode cX11_stress 212 = .ok (.iload_n 1, 1) := by decide +kernel
theorem dX11_stress_213 : decode cX11_stress 213 = .ok (.iaload, 1) := by decide +kernel
theorem dX11_stress_214 : decode cX11_stress 214 = .ok (.iconst 2, 1) := by decide +kernel
theorem dX11_stress_215 : decode cX11_stress 215 = .ok (.if_icmp .ne 23, 3) := by decide +kernel
theorem dX11_stress_218 : decode cX11_stress 218 = .ok (.ldc2_w 156, 3) := by decide +kernel
theorem dX11_stress_221 : decode cX11_stress 221 = .ok (.aload_n 0, 1) := by decide +kernel
theorem dX11_stress_222 : decode cX11_stress 222 = .ok (.getfield 127, 3) := by decide +kernel
theorem dX11_stress_225 : decode cX11_stress 225 = .ok (.lmul, 1) := by decide +kernel
theorem dX11_stress_226 : decode cX11_stress 226 = .ok (.ldc2_w 156, 3) := by decide +kernel
theorem dX11_stress_229 : decode cX11_stress 229 = .ok (.aload_n 0, 1) := by decide +kernel
theorem dX11_stress_230 : decode cX11_stress 230 = .ok (.getfield 124, 3) := by decide +kernel
theorem dX11_stress_233 : decode cX11_stress 233 = .ok (.lmul, 1) := by decide +kernel
theorem dX11_stress_234 : decode cX11_stress 234 = .ok (.lsub, 1) := by decide +kernel
theorem dX11_stress_235 : decode cX11_stress 235 = .ok (.goto 20, 3) := by decide +kernel
theorem dX11_stress_238 : decode cX11_stress 238 = .ok (.ldc2_w 156, 3) := by decide +kernel
theorem dX11_stress_241 : decode cX11_stress 241 = .ok (.aload_n 0, 1) := by decide +kernel
theorem dX11_stress_242 : decode cX11_stress 242 = .ok (.getfield 124, 3) := by decide +kernel
theorem dX11_stress_245 : decode cX11_stress 245 = .ok (.lmul, 1) := by decide +kernel
theorem dX11_stress_246 : decode cX11_stress 246 = .ok (.ldc2_w 156, 3) := by decide +kernel
theorem dX11_stress_249 : decode cX11_stress 249 = .ok (.aload_n 0, 1) := by decide +kernel
theorem dX11_stress_250 : decode cX11_stress 250 = .ok (.getfield 127, 3) := by decide +kernel
theorem dX11_stress_253 : decode cX11_stress 253 = .ok (.lmul, 1) := by decide +kernel
theorem dX11_stress_254 : decode cX11_stress 254 = .ok (.lsub, 1) := by decide +kernel
theorem dX11_stress_255 : decode cX11_stress 255 = .ok (.lstore 7, 2) := by decide +kernel
theorem dX11_stress_257 : decode cX11_stress 257 = .ok (.iload_n 2, 1) := by decide +kernel
theorem dX11_stress_258 : decode cX11_stress 258 = .ok (.ifCond .ne 26, 3) := by decide +kernel
theorem dX11_stress_261 : decode cX11_stress 261 = .ok (.aload_n 0, 1) := by decide +kernel
theorem dX11_stress_262 : decode cX11_stress 262 = .ok (.iload_n 1, 1) := by decide +kernel
theorem dX11_stress_263 : decode cX11_stress 263 = .ok (.iconst 0, 1) := by decide +kernel
theorem dX11_stress_264 : decode cX11_stress 264 = .ok (.invokevirtual 98, 3) := by decide +kernel
theorem dX11_stress_267 : decode cX11_stress 267 = .ok (.i2l, 1) := by decide +kernel
theorem dX11_stress_268 : decode cX11_stress 268 = .ok (.lload_n 3, 1) := by decide +kernel
theorem dX11_stress_269 : decode cX11_stress 269 = .ok (.lmul, 1) := by decide +kernel
theorem dX11_stress_270 : decode cX11_stress 270 = .ok (.aload_n 0, 1) := by decide +kernel
theorem dX11_stress_271 : decode cX11_stress 271 = .ok (.iload_n 1, 1) := by decide +kernel
theorem dX11_stress_272 : decode cX11_stress 272 = .ok (.iconst 2, 1) := by decide +kernel
theorem dX11_stress_273 : decode cX11_stress 273 = .ok (.invokevirtual 98, 3) := by decide +kernel
theorem dX11_stress_276 : decode cX11_stress 276 = .ok (.i2l, 1) := by decide +kernel
theorem dX11_stress_277 : decode cX11_stress 277 = .ok (.lload 5, 2) := by decide +kernel
theorem dX11_stress_279 : decode cX11_stress 279 = .ok (.lmul, 1) := by decide +kernel
theorem dX11_stress_280 : decode cX11_stress 280 = .ok (.ladd, 1) := by decide +kernel
theorem dX11_stress_281 : decode cX11_stress 281 = .ok (.goto 41, 3) := by decide +kernel
theorem dX11_stress_284 : decode cX11_stress 284 = .ok (.iload_n 2, 1) := by decide +kernel
theorem dX11_stress_285 : decode cX11_stress 285 = .ok (.iconst 1, 1) := by decide +kernel
theorem dX11_stress_286 : decode cX11_stress 286 = .ok (.if_icmp .ne 26, 3) := by decide +kernel
theorem dX11_stress_289 : decode cX11_stress 289 = .ok (.aload_n 0, 1) := by decide +kernel
theorem dX11_stress_290 : decode cX11_stress 290 = .ok (.iload_n 1, 1) := by decide +kernel
theorem dX11_stress_291 : decode cX11_stress 291 = .ok (.iconst 2, 1) := by decide +kernel
theorem dX11_stress_292 : decode cX11_stress 292 = .ok (.invokevirtual 98, 3) := by decide +kernel
theorem dX11_stress_295 : decode cX11_stress 295 = .ok (.i2l, 1) := by decide +kernel
theorem dX11_stress_296 : decode cX11_stress 296 = .ok (.lload_n 3, 1) := by decide +kernel
theorem dX11_stress_297 : decode cX11_stress 297 = .ok (.lmul, 1) := by decide +kernel
theorem dX11_stress_298 : decode cX11_stress 298 = .ok (.aload_n 0, 1) := by decide +kernel
theorem dX11_stress_299 : decode cX11_stress 299 = .ok (.iload_n 1, 1) := by decide +kernel
theorem dX11_stress_300 : decode cX11_stress 300 = .ok (.iconst 1, 1) := by decide +kernel
theorem dX11_stress_301 : decode cX11_stress 301 = .ok (.invokevirtual 98, 3) := by decide +kernel
theorem dX11_stress_304 : decode cX11_stress 304 = .ok (.i2l, 1) := by decide +kernel
theorem dX11_stress_305 : decode cX11_stress 305 = .ok (.lload 5, 2) := by decide +kernel
theorem dX11_stress_307 : decode cX11_stress 307 = .ok (.lmul, 1) := by decide +kernel
theorem dX11_stress_308 : decode cX11_stress 308 = .ok (.ladd, 1) := by decide +kernel
theorem dX11_stress_309 : decode cX11_stress 309 = .ok (.goto 13, 3) := by decide +kernel
theorem dX11_stress_312 : decode cX11_stress 312 = .ok (.aload_n 0, 1) := by decide +kernel
theorem dX11_stress_313 : decode cX11_stress 313 = .ok (.iload_n 1, 1) := by decide +kernel
theorem dX11_stress_314 : decode cX11_stress 314 = .ok (.iconst 3, 1) := by decide +kernel
theorem dX11_stress_315 : decode cX11_stress 315 = .ok (.invokevirtual 98, 3) := by decide +kernel
theorem dX11_stress_318 : decode cX11_stress 318 = .ok (.i2l, 1) := by decide +kernel
theorem dX11_stress_319 : decode cX11_stress 319 = .ok (.lload 7, 2) := by decide +kernel
theorem dX11_stress_321 : decode cX11_stress 321 = .ok (.lmul, 1) := by decide +kernel
theorem dX11_stress_322 : decode cX11_stress 322 = .ok (.lreturn, 1) := by decide +kernel
theorem gm_X11_shareOf_0 : ∀ w ∈ wsX110, w ∈ wsX11_shareOf := fun w h => List.mem_cons_of_mem _ (List.mem_append_right _ h)
theorem ggX11_shareOf_X11_stress : GoodIn wsX11_shareOf wsX11_stress := gk_cons (List.mem_cons_of_mem _ (List.mem_append_left _ (List.mem_of_getElem? (i := 4) rfl))) rfl (goodIn_app (gk_cons (List.mem_cons_of_mem _ (List.mem_append_left _ (List.mem_of_getElem? (i := 5) rfl))) rfl (gk_cons (List.mem_cons_of_mem _ (List.mem_append_left _ (List.mem_of_getElem? (i := 6) rfl))) rfl (gk_cons (List.mem_cons_of_mem _ (List.mem_append_left _ (List.mem_of_getElem? (i := 7) rfl))) rfl (gk_cons (List.mem_cons_of_mem _ (List.mem_append_left _ (List.mem_of_getElem? (i := 8) rfl))) rfl (gk_cons (List.mem_cons_of_mem _ (List.mem_append_left _ (List.mem_of_getElem? (i := 9) rfl))) rfl (gk_cons (List.mem_cons_of_mem _ (List.mem_append_left _ (List.mem_of_getElem? (i := 10) rfl))) rfl (gk_cons (List.mem_cons_of_mem _ (List.mem_append_left _ (List.mem_of_getElem? (i := 11) rfl))) rfl (gk_cons (List.mem_cons_of_mem _ (List.mem_append_left _ (List.mem_of_getElem? (i := 12) rfl))) rfl (gk_cons (List.mem_cons_of_mem _ (List.mem_append_left _ (List.mem_of_getElem? (i := 13) rfl))) rfl (gk_cons (List.mem_cons_of_mem _ (List.mem_append_left _ (List.mem_of_getElem? (i := 3) rfl))) rfl (gk_cons (List.mem_cons_of_mem _ (List.mem_append_left _ (List.mem_of_getElem? (i := 14) rfl))) rfl (gk_cons (List.mem_cons_of_mem _ (List.mem_append_left _ (List.mem_of_getElem? (i := 15) rfl))) rfl (gk_cons (List.mem_cons_of_mem _ (List.mem_append_left _ (List.mem_of_getElem? (i := 16) rfl))) rfl (gk_cons (List.mem_cons_of_mem _ (List.mem_append_left _ (List.mem_of_getElem? (i := 17) rfl))) rfl (gk_cons (List.mem_cons_of_mem _ (List.mem_append_left _ (List.mem_of_getElem? (i := 18) rfl))) rfl (gk_cons (List.mem_cons_of_mem _ (List.mem_append_left _ (List.mem_of_getElem? (i := 19) rfl))) rfl (gk_cons (List.mem_cons_of_mem _ (List.mem_append_left _ (List.mem_of_getElem? (i := 20) rfl))) rfl gk_nil))))))))))))))))) (goodIn_sub gm_X11_shareOf_0 ag_wsX110))
theorem gX11_shareOf_X11_stress : GoodIn wsX11_shareOf (wsV RX11 160 RX11 yX11_stress wsX11_stress) := goodIn_app (gk_cons (List.mem_cons_of_mem _ (List.mem_append_left _ (List.mem_of_getElem? (i := 0) rfl))) rfl (gk_cons (List.mem_cons_of_mem _ (List.mem_append_left _ (List.mem_of_getElem? (i := 1) rfl))) rfl (gk_cons (List.mem_cons_of_mem _ (List.mem_append_left _ (List.mem_of_getElem? (i := 2) rfl))) rfl (gk_cons (List.mem_cons_of_mem _ (List.mem_append_left _ (List.mem_of_getElem? (i := 3) rfl))) rfl gk_nil)))) ggX11_shareOf_X11_stress
theorem dX11_shareOf_0 : decode cX11_shareOf 0 = .ok (.aload_n 0, 1) := by decide +kernel
theorem dX11_shareOf_1 : decode cX11_shareOf 1 = .ok (.iload_n 1, 1) := by decide +kernel
theorem dX11_shareOf_2 : decode cX11_shareOf 2 = .ok (.iload_n 2, 1) := by decide +kernel
theorem dX11_shareOf_3 : decode cX11_shareOf 3 = .ok (.iconst 2, 1) := by decide +kernel
theorem dX11_shareOf_4 : decode cX11_shareOf 4 = .ok (.idiv, 1) := by decide +kernel
theorem dX11_shareOf_5 : decode cX11_shareOf 5 = .ok (.invokevirtual 160, 3) := by decide +kernel
theorem dX11_shareOf_8 : decode cX11_shareOf 8 = .ok (.lstore_n 3, 1) := by decide +kernel
theorem dX11_shareOf_9 : decode cX11_shareOf 9 = .ok (.iload_n 2, 1) := by decide +kernel
theorem dX11_shareOf_10 : decode cX11_shareOf 10 = .ok (.iconst 4, 1) := by decide +kernel
theorem dX11_shareOf_11 : decode cX11_shareOf 11 = .ok (.if_icmp .ne 16, 3) := by decide +kernel
theorem dX11_shareOf_14 : decode cX11_shareOf 14 = .ok (.lload_n 3, 1) := by decide +kernel
theorem dX11_shareOf_15 : decode cX11_shareOf 15 = .ok (.lconst 0, 1) := by decide +kernel
theorem dX11_shareOf_16 : decode cX11_shareOf 16 = .ok (.lcmp, 1) := by decide +kernel
theorem dX11_shareOf_17 : decode cX11_shareOf 17 = .ok (.ifCond .ge 8, 3) := by decide +kernel
theorem dX11_shareOf_20 : decode cX11_shareOf 20 = .ok (.lload_n 3, 1) := by decide +kernel
theorem dX11_shareOf_21 : decode cX11_shareOf 21 = .ok (.lneg, 1) := by decide +kernel
theorem dX11_shareOf_22 : decode cX11_shareOf 22 = .ok (.goto 4, 3) := by decide +kernel
theorem dX11_shareOf_25 : decode cX11_shareOf 25 = .ok (.lload_n 3, 1) := by decide +kernel
theorem dX11_shareOf_26 : decode cX11_shareOf 26 = .ok (.lreturn, 1) := by decide +kernel
theorem dX11_shareOf_27 : decode cX11_shareOf 27 = .ok (.iload_n 2, 1) := by decide +kernel
theorem dX11_shareOf_28 : decode cX11_shareOf 28 = .ok (.iconst 2, 1) := by decide +kernel
theorem dX11_shareOf_29 : decode cX11_shareOf 29 = .ok (.irem, 1) := by decide +kernel
theorem dX11_shareOf_30 : decode cX11_shareOf 30 = .ok (.ifCond .ne 17, 3) := by decide +kernel
theorem dX11_shareOf_33 : decode cX11_shareOf 33 = .ok (.lload_n 3, 1) := by decide +kernel
theorem dX11_shareOf_34 : decode cX11_shareOf 34 = .ok (.lconst 0, 1) := by decide +kernel
theorem dX11_shareOf_35 : decode cX11_shareOf 35 = .ok (.lcmp, 1) := by decide +kernel
theorem dX11_shareOf_36 : decode cX11_shareOf 36 = .ok (.ifCond .le 7, 3) := by decide +kernel
theorem dX11_shareOf_39 : decode cX11_shareOf 39 = .ok (.lload_n 3, 1) := by decide +kernel
theorem dX11_shareOf_40 : decode cX11_shareOf 40 = .ok (.goto 19, 3) := by decide +kernel
theorem dX11_shareOf_43 : decode cX11_shareOf 43 = .ok (.lconst 0, 1) := by decide +kernel
theorem dX11_shareOf_44 : decode cX11_shareOf 44 = .ok (.goto 15, 3) := by decide +kernel
theorem dX11_shareOf_47 : decode cX11_shareOf 47 = .ok (.lload_n 3, 1) := by decide +kernel
theorem dX11_shareOf_48 : decode cX11_shareOf 48 = .ok (.lconst 0, 1) := by decide +kernel
theorem dX11_shareOf_49 : decode cX11_shareOf 49 = .ok (.lcmp, 1) := by decide +kernel
theorem dX11_shareOf_50 : decode cX11_shareOf 50 = .ok (.ifCond .ge 8, 3) := by decide +kernel
theorem dX11_shareOf_53 : decode cX11_shareOf 53 = .ok (.lload_n 3, 1) := by decide +kernel
theorem dX11_shareOf_54 : decode cX11_shareOf 54 = .ok (.lneg, 1) := by decide +kernel
theorem dX11_shareOf_55 : decode cX11_shareOf 55 = .ok (.goto 4, 3) := by decide +kernel
theorem dX11_shareOf_58 : decode cX11_shareOf 58 = .ok (.lconst 0, 1) := by decide +kernel
theorem dX11_shareOf_59 : decode cX11_shareOf 59 = .ok (.lreturn, 1) := by decide +kernel
theorem dX11_strengthOf_0 : decode cX11_strengthOf 0 = .ok (.aload_n 0, 1) := by decide +kernel
theorem dX11_strengthOf_1 : decode cX11_strengthOf 1 = .ok (.getfield 26, 3) := by decide +kernel
theorem dX11_strengthOf_4 : decode cX11_strengthOf 4 = .ok (.iconst 5, 1) := by decide +kernel
theorem dX11_strengthOf_5 : decode cX11_strengthOf 5 = .ok (.aload_n 0, 1) := by decide +kernel
theorem dX11_strengthOf_6 : decode cX11_strengthOf 6 = .ok (.getfield 38, 3) := by decide +kernel
theorem dX11_strengthOf_9 : decode cX11_strengthOf 9 = .ok (.iload_n 1, 1) := by decide +kernel
theorem dX11_strengthOf_10 : decode cX11_strengthOf 10 = .ok (.iaload, 1) := by decide +kernel
theorem dX11_strengthOf_11 : decode cX11_strengthOf 11 = .ok (.imul, 1) := by decide +kernel
theorem dX11_strengthOf_12 : decode cX11_strengthOf 12 = .ok (.iload_n 2, 1) := by decide +kernel
theorem dX11_strengthOf_13 : decode cX11_strengthOf 13 = .ok (.iadd, 1) := by decide +kernel
theorem dX11_strengthOf_14 : decode cX11_strengthOf 14 = .ok (.iaload, 1) := by decide +kernel
theorem dX11_strengthOf_15 : decode cX11_strengthOf 15 = .ok (.ireturn, 1) := by decide +kernel
theorem dX11_isAbove_0 : decode cX11_isAbove 0 = .ok (.lload_n 0, 1) := by decide +kernel
theorem dX11_isAbove_1 : decode cX11_isAbove 1 = .ok (.lstore 8, 2) := by decide +kernel
theorem dX11_isAbove_3 : decode cX11_isAbove 3 = .ok (.lload_n 2, 1) := by decide +kernel
theorem dX11_isAbove_4 : decode cX11_isAbove 4 = .ok (.lstore 10, 2) := by decide +kernel
theorem dX11_isAbove_6 : decode cX11_isAbove 6 = .ok (.lload 4, 2) := by decide +kernel
theorem dX11_isAbove_8 : decode cX11_isAbove 8 = .ok (.lstore 12, 2) := by decide +kernel
theorem dX11_isAbove_10 : decode cX11_isAbove 10 = .ok (.lload 6, 2) := by decide +kernel
theorem dX11_isAbove_12 : decode cX11_isAbove 12 = .ok (.lstore 14, 2) := by decide +kernel
theorem dX11_isAbove_14 : decode cX11_isAbove 14 = .ok (.lload 8, 2) := by decide +kernel
theorem dX11_isAbove_16 : decode cX11_isAbove 16 = .ok (.lload 10, 2) := by decide +kernel
theorem dX11_isAbove_18 : decode cX11_isAbove 18 = .ok (.ldiv, 1) := by decide +kernel
theorem dX11_isAbove_19 : decode cX11_isAbove 19 = .ok (.lload 12, 2) := by decide +kernel
theorem dX11_isAbove_21 : decode cX11_isAbove 21 = .ok (.lload 14, 2) := by decide +kernel
theorem dX11_isAbove_23 : decode cX11_isAbove 23 = .ok (.ldiv, 1) := by decide +kernel
theorem dX11_isAbove_24 : decode cX11_isAbove 24 = .ok (.lcmp, 1) := by decide +kernel
theorem dX11_isAbove_25 : decode cX11_isAbove 25 = .ok (.ifCond .ne 56, 3) := by decide +kernel
theorem dX11_isAbove_28 : decode cX11_isAbove 28 = .ok (.lload 8, 2) := by decide +kernel
theorem dX11_isAbove_30 : decode cX11_isAbove 30 = .ok (.lload 10, 2) := by decide +kernel
theorem dX11_isAbove_32 : decode cX11_isAbove 32 = .ok (.lrem, 1) := by decide +kernel
theorem dX11_isAbove_33 : decode cX11_isAbove 33 = .ok (.lconst 0, 1) := by decide +kernel
theorem dX11_isAbove_34 : decode cX11_isAbove 34 = .ok (.lcmp, 1) := by decide +kernel
theorem dX11_isAbove_35 : decode cX11_isAbove 35 = .ok (.ifCond .eq 46, 3) := by decide +kernel
theorem dX11_isAbove_38 : decode cX11_isAbove 38 = .ok (.lload 12, 2) := by decide +kernel
theorem dX11_isAbove_40 : decode cX11_isAbove 40 = .ok (.lload 14, 2) := by decide +kernel
theorem dX11_isAbove_42 : decode cX11_isAbove 42 = .ok (.lrem, 1) := by decide +kernel
theorem dX11_isAbove_43 : decode cX11_isAbove 43 = .ok (.lconst 0, 1) := by decide +kernel
theorem dX11_isAbove_44 : decode cX11_isAbove 44 = .ok (.lcmp, 1) := by decide +kernel
theorem dX11_isAbove_45 : decode cX11_isAbove 45 = .ok (.ifCond .eq 36, 3) := by decide +kernel
theorem dX11_isAbove_48 : decode cX11_isAbove 48 = .ok (.lload 8, 2) := by decide +kernel
theorem dX11_isAbove_50 : decode cX11_isAbove 50 = .ok (.lload 10, 2) := by decide +kernel
theorem dX11_isAbove_52 : decode cX11_isAbove 52 = .ok (.lrem, 1) := by decide +kernel
theorem dX11_isAbove_53 : decode cX11_isAbove 53 = .ok (.lstore 16, 2) := by decide +kernel
theorem dX11_isAbove_55 : decode cX11_isAbove 55 = .ok (.lload 12, 2) := by decide +kernel
theorem dX11_isAbove_57 : decode cX11_isAbove 57 = .ok (.lload 14, 2) := by decide +kernel
theorem dX11_isAbove_59 : decode cX11_isAbove 59 = .ok (.lrem, 1) := by decide +kernel
theorem dX11_isAbove_60 : decode cX11_isAbove 60 = .ok (.lstore 18, 2) := by decide +kernel
theorem dX11_isAbove_62 : decode cX11_isAbove 62 = .ok (.lload 14, 2) := by decide +kernel
theorem dX11_isAbove_64 : decode cX11_isAbove 64 = .ok (.lstore 8, 2) := by decide +kernel
theorem dX11_isAbove_66 : decode cX11_isAbove 66 = .ok (.lload 10, 2) := by decide +kernel
theorem dX11_isAbove_68 : decode cX11_isAbove 68 = .ok (.lstore 12, 2) := by decide +kernel
theorem dX11_isAbove_70 : decode cX11_isAbove 70 = .ok (.lload 18, 2) := by decide +kernel
theorem dX11_isAbove_72 : decode cX11_isAbove 72 = .ok (.lstore 10, 2) := by decide +kernel
theorem dX11_isAbove_74 : decode cX11_isAbove 74 = .ok (.lload 16, 2) := by decide +kernel
theorem dX11_isAbove_76 : decode cX11_isAbove 76 = .ok (.lstore 14, 2) := by decide +kernel
theorem dX11_isAbove_78 : decode cX11_isAbove 78 = .ok (.goto (-64), 3) := by decide +kernel
theorem dX11_isAbove_81 : decode cX11_isAbove 81 = .ok (.lload 8, 2) := by decide +kernel
theorem dX11_isAbove_83 : decode cX11_isAbove 83 = .ok (.lload 10, 2) := by decide +kernel
theorem dX11_isAbove_85 : decode cX11_isAbove 85 = .ok (.ldiv, 1) := by decide +kernel
theorem dX11_isAbove_86 : decode cX11_isAbove 86 = .ok (.lload 12, 2) := by decide +kernel
theorem dX11_isAbove_88 : decode cX11_isAbove 88 = .ok (.lload 14, 2) := by decide +kernel
theorem dX11_isAbove_90 : decode cX11_isAbove 90 = .ok (.ldiv, 1) := by decide +kernel
theorem dX11_isAbove_91 : decode cX11_isAbove 91 = .ok (.lcmp, 1) := by decide +kernel
theorem dX11_isAbove_92 : decode cX11_isAbove 92 = .ok (.ifCond .eq 25, 3) := by decide +kernel
theorem dX11_isAbove_95 : decode cX11_isAbove 95 = .ok (.lload 8, 2) := by decide +kernel
theorem dX11_isAbove_97 : decode cX11_isAbove 97 = .ok (.lload 10, 2) := by decide +kernel
theorem dX11_isAbove_99 : decode cX11_isAbove 99 = .ok (.ldiv, 1) := by decide +kernel
theorem dX11_isAbove_100 : decode cX11_isAbove 100 = .ok (.lload 12, 2) := by decide +kernel
theorem dX11_isAbove_102 : decode cX11_isAbove 102 = .ok (.lload 14, 2) := by decide +kernel
theorem dX11_isAbove_104 : decode cX11_isAbove 104 = .ok (.ldiv, 1) := by decide +kernel
theorem dX11_isAbove_105 : decode cX11_isAbove 105 = .ok (.lcmp, 1) := by decide +kernel
theorem dX11_isAbove_106 : decode cX11_isAbove 106 = .ok (.ifCond .le 7, 3) := by decide +kernel
theorem dX11_isAbove_109 : decode cX11_isAbove 109 = .ok (.iconst 1, 1) := by decide +kernel
theorem dX11_isAbove_110 : decode cX11_isAbove 110 = .ok (.goto 22, 3) := by decide +kernel
theorem dX11_isAbove_113 : decode cX11_isAbove 113 = .ok (.iconst 0, 1) := by decide +kernel
theorem dX11_isAbove_114 : decode cX11_isAbove 114 = .ok (.goto 18, 3) := by decide +kernel
theorem dX11_isAbove_117 : decode cX11_isAbove 117 = .ok (.lload 8, 2) := by decide +kernel
theorem dX11_isAbove_119 : decode cX11_isAbove 119 = .ok (.lload 10, 2) := by decide +kernel
theorem dX11_isAbove_121 : decode cX11_isAbove 121 = .ok (.lrem, 1) := by decide +kernel
theorem dX11_isAbove_122 : decode cX11_isAbove 122 = .ok (.lconst 0, 1) := by decide +kernel
theorem dX11_isAbove_123 : decode cX11_isAbove 123 = .ok (.lcmp, 1) := by decide +kernel
theorem dX11_isAbove_124 : decode cX11_isAbove 124 = .ok (.ifCond .eq 7, 3) := by decide +kernel
theorem dX11_isAbove_127 : decode cX11_isAbove 127 = .ok (.iconst 1, 1) := by decide +kernel
theorem dX11_isAbove_128 : decode cX11_isAbove 128 = .ok (.goto 4, 3) := by decide +kernel
theorem dX11_isAbove_131 : decode cX11_isAbove 131 = .ok (.iconst 0, 1) := by decide +kernel
theorem dX11_isAbove_132 : decode cX11_isAbove 132 = .ok (.ireturn, 1) := by decide +kernel
theorem gm_X11_firstOf_0 : ∀ w ∈ wsX11_firstOf_r1, w ∈ wsX11_firstOf := fun w h => List.mem_cons_of_mem _ (List.mem_append_left _ (List.mem_append_left _ h))
theorem gm_X11_firstOf_1 : ∀ w ∈ wsX11_firstOf_r2, w ∈ wsX11_firstOf := fun w h => List.mem_cons_of_mem _ (List.mem_append_left _ (List.mem_append_right _ h))
theorem gm_X11_firstOf_2 : ∀ w ∈ wsX110, w ∈ wsX11_firstOf := fun w h => List.mem_cons_of_mem _ (List.mem_append_right _ h)
theorem ggX11_firstOf_X11_spot : GoodIn wsX11_firstOf wsX11_spot := gk_cons (gm_X11_firstOf_0 _ (List.mem_of_getElem? (i := 7) rfl)) rfl gk_nil
theorem gX11_firstOf_X11_spot : GoodIn wsX11_firstOf (va_wsS RX11 86 yX11_spot wsX11_spot) := goodIn_app (gk_cons (gm_X11_firstOf_0 _ (List.mem_of_getElem? (i := 4) rfl)) rfl (gk_cons (gm_X11_firstOf_0 _ (List.mem_of_getElem? (i := 5) rfl)) rfl (gk_cons (gm_X11_firstOf_0 _ (List.mem_of_getElem? (i := 6) rfl)) rfl gk_nil))) ggX11_firstOf_X11_spot
theorem ggX11_firstOf_X11_shareOf : GoodIn wsX11_firstOf wsX11_shareOf := gk_cons (gm_X11_firstOf_0 _ (List.mem_of_getElem? (i := 11) rfl)) rfl (goodIn_app (gk_cons (gm_X11_firstOf_0 _ (List.mem_of_getElem? (i := 12) rfl)) rfl (gk_cons (gm_X11_firstOf_0 _ (List.mem_of_getElem? (i := 13) rfl)) rfl (gk_cons (gm_X11_firstOf_0 _ (List.mem_of_getElem? (i := 14) rfl)) rfl (gk_cons (gm_X11_firstOf_0 _ (List.mem_of_getElem? (i := 6) rfl)) rfl (gk_cons (gm_X11_firstOf_0 _ (List.mem_of_getElem? (i := 15) rfl)) rfl (gk_cons (gm_X11_firstOf_0 _ (List.mem_of_getElem? (i := 16) rfl)) rfl (gk_cons (gm_X11_firstOf_0 _ (List.mem_of_getElem? (i := 17) rfl)) rfl (gk_cons (gm_X11_firstOf_0 _ (List.mem_of_getElem? (i := 18) rfl)) rfl (gk_cons (gm_X11_firstOf_0 _ (List.mem_of_getElem? (i := 19) rfl)) rfl (gk_cons (gm_X11_firstOf_0 _ (List.mem_of_getElem? (i := 20) rfl)) rfl (gk_cons (gm_X11_firstOf_0 _ (List.mem_of_getElem? (i := 21) rfl)) rfl (gk_cons (gm_X11_firstOf_0 _ (List.mem_of_getElem? (i := 22) rfl)) rfl (gk_cons (gm_X11_firstOf_0 _ (List.mem_of_getElem? (i := 23) rfl)) rfl (gk_cons (gm_X11_firstOf_1 _ (List.mem_of_getElem? (i := 0) rfl)) rfl (gk_cons (gm_X11_firstOf_1 _ (List.mem_of_getElem? (i := 1) rfl)) rfl (gk_cons (gm_X11_firstOf_1 _ (List.mem_of_getElem? (i := 2) rfl)) rfl (gk_cons (gm_X11_firstOf_1 _ (List.mem_of_getElem? (i := 3) rfl)) rfl (gk_cons (gm_X11_firstOf_1 _ (List.mem_of_getElem? (i := 4) rfl)) rfl (gk_cons (gm_X11_firstOf_1 _ (List.mem_of_getElem? (i := 5) rfl)) rfl (gk_cons (gm_X11_firstOf_1 _ (List.mem_of_getElem? (i := 6) rfl)) rfl (gk_cons (gm_X11_firstOf_1 _ (List.mem_of_getElem? (i := 7) rfl)) rfl gk_nil))))))))))))))))))))) (goodIn_sub gm_X11_firstOf_2 ag_wsX110))
theorem gX11_firstOf_X11_shareOf : GoodIn wsX11_firstOf (wsV RX11 163 RX11 yX11_shareOf wsX11_shareOf) := goodIn_app (gk_cons (gm_X11_firstOf_0 _ (List.mem_of_getElem? (i := 8) rfl)) rfl (gk_cons (gm_X11_firstOf_0 _ (List.mem_of_getElem? (i := 9) rfl)) rfl (gk_cons (gm_X11_firstOf_0 _ (List.mem_of_getElem? (i := 10) rfl)) rfl (gk_cons (gm_X11_firstOf_0 _ (List.mem_of_getElem? (i := 6) rfl)) rfl gk_nil)))) ggX11_firstOf_X11_shareOf
theorem ggX11_firstOf_X11_strengthOf : GoodIn wsX11_firstOf wsX11_strengthOf := gk_cons (gm_X11_firstOf_1 _ (List.mem_of_getElem? (i := 11) rfl)) rfl (goodIn_app (gk_cons (gm_X11_firstOf_1 _ (List.mem_of_getElem? (i := 12) rfl)) rfl (gk_cons (gm_X11_firstOf_1 _ (List.mem_of_getElem? (i := 3) rfl)) rfl gk_nil)) (goodIn_sub gm_X11_firstOf_2 ag_wsX110))
theorem gX11_firstOf_X11_strengthOf : GoodIn wsX11_firstOf (wsV RX11 166 RX11 yX11_strengthOf wsX11_strengthOf) := goodIn_app (gk_cons (gm_X11_firstOf_1 _ (List.mem_of_getElem? (i := 8) rfl)) rfl (gk_cons (gm_X11_firstOf_1 _ (List.mem_of_getElem? (i := 9) rfl)) rfl (gk_cons (gm_X11_firstOf_1 _ (List.mem_of_getElem? (i := 10) rfl)) rfl (gk_cons (gm_X11_firstOf_0 _ (List.mem_of_getElem? (i := 6) rfl)) rfl gk_nil)))) ggX11_firstOf_X11_strengthOf
theorem ggX11_firstOf_X11_isAbove : GoodIn wsX11_firstOf wsX11_isAbove := gk_cons (gm_X11_firstOf_1 _ (List.mem_of_getElem? (i := 15) rfl)) rfl gk_nil
theorem gX11_firstOf_X11_isAbove : GoodIn wsX11_firstOf (va_wsS RX11 175 yX11_isAbove wsX11_isAbove) := goodIn_app (gk_cons (gm_X11_firstOf_1 _ (List.mem_of_getElem? (i := 13) rfl)) rfl (gk_cons (gm_X11_firstOf_1 _ (List.mem_of_getElem? (i := 14) rfl)) rfl (gk_cons (gm_X11_firstOf_0 _ (List.mem_of_getElem? (i := 6) rfl)) rfl gk_nil))) ggX11_firstOf_X11_isAbove
theorem dX11_firstOf_0 : decode cX11_firstOf 0 = .ok (.iconst (-1), 1) := by decide +kernel
theorem dX11_firstOf_1 : decode cX11_firstOf 1 = .ok (.istore_n 2, 1) := by decide +kernel
theorem dX11_firstOf_2 : decode cX11_firstOf 2 = .ok (.iconst 0, 1) := by decide +kernel
theorem dX11_firstOf_3 : decode cX11_firstOf 3 = .ok (.istore_n 3, 1) := by decide +kernel
theorem dX11_firstOf_4 : decode cX11_firstOf 4 = .ok (.iload_n 3, 1) := by decide +kernel
theorem dX11_firstOf_5 : decode cX11_firstOf 5 = .ok (.aload_n 0, 1) := by decide +kernel
theorem dX11_firstOf_6 : decode cX11_firstOf 6 = .ok (.getfield 35, 3) := by decide +kernel
theorem dX11_firstOf_9 : decode cX11_firstOf 9 = .ok (.iload_n 1, 1) := by decide +kernel
theorem dX11_firstOf_10 : decode cX11_firstOf 10 = .ok (.iaload, 1) := by decide +kernel
theorem dX11_firstOf_11 : decode cX11_firstOf 11 = .ok (.if_icmp .ge 119, 3) := by decide +kernel
theorem dX11_firstOf_14 : decode cX11_firstOf 14 = .ok (.aload_n 0, 1) := by decide +kernel
theorem dX11_firstOf_15 : decode cX11_firstOf 15 = .ok (.getfield 120, 3) := by decide +kernel
theorem dX11_firstOf_18 : decode cX11_firstOf 18 = .ok (.lconst 0, 1) := by decide +kernel
theorem dX11_firstOf_19 : decode cX11_firstOf 19 = .ok (.lcmp, 1) := by decide +kernel
theorem dX11_firstOf_20 : decode cX11_firstOf 20 = .ok (.ifCond .eq 110, 3) := by decide +kernel
theorem dX11_firstOf_23 : decode cX11_firstOf 23 = .ok (.iconst 0, 1) := by decide +kernel
theorem dX11_firstOf_24 : decode cX11_firstOf 24 = .ok (.istore 4, 2) := by decide +kernel
theorem dX11_firstOf_26 : decode cX11_firstOf 26 = .ok (.iload 4, 2) := by decide +kernel
theorem dX11_firstOf_28 : decode cX11_firstOf 28 = .ok (.iconst 5, 1) := by decide +kernel
theorem dX11_firstOf_29 : decode cX11_firstOf 29 = .ok (.if_icmp .ge 95, 3) := by decide +kernel
theorem dX11_firstOf_32 : decode cX11_firstOf 32 = .ok (.aload_n 0, 1) := by decide +kernel
theorem dX11_firstOf_33 : decode cX11_firstOf 33 = .ok (.iload_n 1, 1) := by decide +kernel
theorem dX11_firstOf_34 : decode cX11_firstOf 34 = .ok (.iload_n 3, 1) := by decide +kernel
theorem dX11_firstOf_35 : decode cX11_firstOf 35 = .ok (.invokestatic 86, 3) := by decide +kernel
theorem dX11_firstOf_38 : decode cX11_firstOf 38 = .ok (.iload 4, 2) := by decide +kernel
theorem dX11_firstOf_40 : decode cX11_firstOf 40 = .ok (.invokevirtual 163, 3) := by decide +kernel
theorem dX11_firstOf_43 : decode cX11_firstOf 43 = .ok (.lstore 5, 2) := by decide +kernel
theorem dX11_firstOf_45 : decode cX11_firstOf 45 = .ok (.lload 5, 2) := by decide +kernel
theorem dX11_firstOf_47 : decode cX11_firstOf 47 = .ok (.lconst 0, 1) := by decide +kernel
theorem dX11_firstOf_48 : decode cX11_firstOf 48 = .ok (.lcmp, 1) := by decide +kernel
theorem dX11_firstOf_49 : decode cX11_firstOf 49 = .ok (.ifCond .eq 69, 3) := by decide +kernel
theorem dX11_firstOf_52 : decode cX11_firstOf 52 = .ok (.iload_n 2, 1) := by decide +kernel
theorem dX11_firstOf_53 : decode cX11_firstOf 53 = .ok (.iconst (-1), 1) := by decide +kernel
theorem dX11_firstOf_54 : decode cX11_firstOf 54 = .ok (.if_icmp .eq 35, 3) := by decide +kernel
theorem dX11_firstOf_57 : decode cX11_firstOf 57 = .ok (.lload 5, 2) := by decide +kernel
theorem dX11_firstOf_59 : decode cX11_firstOf 59 = .ok (.aload_n 0, 1) := by decide +kernel
theorem dX11_firstOf_60 : decode cX11_firstOf 60 = .ok (.iload_n 1, 1) := by decide +kernel
theorem dX11_firstOf_61 : decode cX11_firstOf 61 = .ok (.iload_n 3, 1) := by decide +kernel
theorem dX11_firstOf_62 : decode cX11_firstOf 62 = .ok (.invokestatic 86, 3) := by decide +kernel
theorem dX11_firstOf_65 : decode cX11_firstOf 65 = .ok (.iload 4, 2) := by decide +kernel
theorem dX11_firstOf_67 : decode cX11_firstOf 67 = .ok (.invokevirtual 166, 3) := by decide +kernel
theorem dX11_firstOf_70 : decode cX11_firstOf 70 = .ok (.i2l, 1) := by decide +kernel
theorem dX11_firstOf_71 : decode cX11_firstOf 71 = .ok (.aload_n 0, 1) := by decide +kernel
theorem dX11_firstOf_72 : decode cX11_firstOf 72 = .ok (.getfield 169, 3) := by decide +kernel
theorem dX11_firstOf_75 : decode cX11_firstOf 75 = .ok (.aload_n 0, 1) := by decide +kernel
theorem dX11_firstOf_76 : decode cX11_firstOf 76 = .ok (.getfield 172, 3) := by decide +kernel
theorem dX11_firstOf_79 : decode cX11_firstOf 79 = .ok (.i2l, 1) := by decide +kernel
theorem dX11_firstOf_80 : decode cX11_firstOf 80 = .ok (.invokestatic 175, 3) := by decide +kernel
theorem dX11_firstOf_83 : decode cX11_firstOf 83 = .ok (.ifCond .ne 6, 3) := by decide +kernel
theorem dX11_firstOf_86 : decode cX11_firstOf 86 = .ok (.goto 32, 3) := by decide +kernel
theorem dX11_firstOf_89 : decode cX11_firstOf 89 = .ok (.bipush 10, 2) := by decide +kernel
theorem dX11_firstOf_91 : decode cX11_firstOf 91 = .ok (.iload_n 3, 1) := by decide +kernel
theorem dX11_firstOf_92 : decode cX11_firstOf 92 = .ok (.imul, 1) := by decide +kernel
theorem dX11_firstOf_93 : decode cX11_firstOf 93 = .ok (.iload 4, 2) := by decide +kernel
theorem dX11_firstOf_95 : decode cX11_firstOf 95 = .ok (.iadd, 1) := by decide +kernel
theorem dX11_firstOf_96 : decode cX11_firstOf 96 = .ok (.istore_n 2, 1) := by decide +kernel
theorem dX11_firstOf_97 : decode cX11_firstOf 97 = .ok (.aload_n 0, 1) := by decide +kernel
theorem dX11_firstOf_98 : decode cX11_firstOf 98 = .ok (.lload 5, 2) := by decide +kernel
theorem dX11_firstOf_100 : decode cX11_firstOf 100 = .ok (.putfield 169, 3) := by decide +kernel
theorem dX11_firstOf_103 : decode cX11_firstOf 103 = .ok (.aload_n 0, 1) := by decide +kernel
theorem dX11_firstOf_104 : decode cX11_firstOf 104 = .ok (.aload_n 0, 1) := by decide +kernel
theorem dX11_firstOf_105 : decode cX11_firstOf 105 = .ok (.iload_n 1, 1) := by decide +kernel
theorem dX11_firstOf_106 : decode cX11_firstOf 106 = .ok (.iload_n 3, 1) := by decide +kernel
theorem dX11_firstOf_107 : decode cX11_firstOf 107 = .ok (.invokestatic 86, 3) := by decide +kernel
theorem dX11_firstOf_110 : decode cX11_firstOf 110 = .ok (.iload 4, 2) := by decide +kernel
theorem dX11_firstOf_112 : decode cX11_firstOf 112 = .ok (.invokevirtual 166, 3) := by decide +kernel
theorem dX11_firstOf_115 : decode cX11_firstOf 115 = .ok (.putfield 172, 3) := by decide +kernel
theorem dX11_firstOf_118 : decode cX11_firstOf 118 = .ok (.iinc 4 1, 3) := by decide +kernel
theorem dX11_firstOf_121 : decode cX11_firstOf 121 = .ok (.goto (-95), 3) := by decide +kernel
theorem dX11_firstOf_124 : decode cX11_firstOf 124 = .ok (.iinc 3 1, 3) := by decide +kernel
theorem dX11_firstOf_127 : decode cX11_firstOf 127 = .ok (.goto (-123), 3) := by decide +kernel
theorem dX11_firstOf_130 : decode cX11_firstOf 130 = .ok (.iload_n 2, 1) := by decide +kernel
theorem dX11_firstOf_131 : decode cX11_firstOf 131 = .ok (.ireturn, 1) := by decide +kernel
theorem gm_X11_isHeld_0 : ∀ w ∈ wsX11_isHeld_r1, w ∈ wsX11_isHeld := fun w h => List.mem_cons_of_mem _ (List.mem_append_left _ (List.mem_append_left _ h))
theorem gm_X11_isHeld_1 : ∀ w ∈ wsX11_isHeld_r2, w ∈ wsX11_isHeld := fun w h => List.mem_cons_of_mem _ (List.mem_append_left _ (List.mem_append_right _ (List.mem_append_left _ h)))
theorem gm_X11_isHeld_2 : ∀ w ∈ wsX11_isHeld_r3, w ∈ wsX11_isHeld := fun w h => List.mem_cons_of_mem _ (List.mem_append_left _ (List.mem_append_right _ (List.mem_append_right _ h)))
theorem gm_X11_isHeld_3 : ∀ w ∈ wsX110, w ∈ wsX11_isHeld := fun w h => List.mem_cons_of_mem _ (List.mem_append_right _ h)
theorem gk_X11_isHeld_X11_solve_r1 : GoodIn wsX11_isHeld wsX11_solve_r1 := (gk_cons (gm_X11_isHeld_0 _ (List.mem_of_getElem? (i := 1) rfl)) rfl (gk_cons (gm_X11_isHeld_0 _ (List.mem_of_getElem? (i := 10) rfl)) rfl (gk_cons (gm_X11_isHeld_0 _ (List.mem_of_getElem? (i := 11) rfl)) rfl (gk_cons (gm_X11_isHeld_0 _ (List.mem_of_getElem? (i := 12) rfl)) rfl (gk_cons (gm_X11_isHeld_0 _ (List.mem_of_getElem? (i := 13) rfl)) rfl (gk_cons (gm_X11_isHeld_0 _ (List.mem_of_getElem? (i := 14) rfl)) rfl (gk_cons (gm_X11_isHeld_0 _ (List.mem_of_getElem? (i := 15) rfl)) rfl (gk_cons (gm_X11_isHeld_0 _ (List.mem_of_getElem? (i := 8) rfl)) rfl (gk_cons (gm_X11_isHeld_0 _ (List.mem_of_getElem? (i := 16) rfl)) rfl (gk_cons (gm_X11_isHeld_0 _ (List.mem_of_getElem? (i := 17) rfl)) rfl (gk_cons (gm_X11_isHeld_0 _ (List.mem_of_getElem? (i := 18) rfl)) rfl (gk_cons (gm_X11_isHeld_0 _ (List.mem_of_getElem? (i := 19) rfl)) rfl (gk_cons (gm_X11_isHeld_0 _ (List.mem_of_getElem? (i := 20) rfl)) rfl (gk_cons (gm_X11_isHeld_0 _ (List.mem_of_getElem? (i := 21) rfl)) rfl (gk_cons (gm_X11_isHeld_0 _ (List.mem_of_getElem? (i := 22) rfl)) rfl (gk_cons (gm_X11_isHeld_0 _ (List.mem_of_getElem? (i := 23) rfl)) rfl (gk_cons (gm_X11_isHeld_1 _ (List.mem_of_getElem? (i := 0) rfl)) rfl (gk_cons (gm_X11_isHeld_1 _ (List.mem_of_getElem? (i := 1) rfl)) rfl (gk_cons (gm_X11_isHeld_1 _ (List.mem_of_getElem? (i := 2) rfl)) rfl (gk_cons (gm_X11_isHeld_1 _ (List.mem_of_getElem? (i := 3) rfl)) rfl (gk_cons (gm_X11_isHeld_1 _ (List.mem_of_getElem? (i := 4) rfl)) rfl (gk_cons (gm_X11_isHeld_1 _ (List.mem_of_getElem? (i := 5) rfl)) rfl (gk_cons (gm_X11_isHeld_1 _ (List.mem_of_getElem? (i := 6) rfl)) rfl (gk_cons (gm_X11_isHeld_1 _ (List.mem_of_getElem? (i := 7) rfl)) rfl gk_nil))))))))))))))))))))))))
theorem gk_X11_isHeld_X11_solve_r2 : GoodIn wsX11_isHeld wsX11_solve_r2 := (gk_cons (gm_X11_isHeld_1 _ (List.mem_of_getElem? (i := 8) rfl)) rfl (gk_cons (gm_X11_isHeld_1 _ (List.mem_of_getElem? (i := 9) rfl)) rfl (gk_cons (gm_X11_isHeld_1 _ (List.mem_of_getElem? (i := 10) rfl)) rfl (gk_cons (gm_X11_isHeld_1 _ (List.mem_of_getElem? (i := 11) rfl)) rfl (gk_cons (gm_X11_isHeld_1 _ (List.mem_of_getElem? (i := 12) rfl)) rfl (gk_cons (gm_X11_isHeld_1 _ (List.mem_of_getElem? (i := 13) rfl)) rfl (gk_cons (gm_X11_isHeld_1 _ (List.mem_of_getElem? (i := 14) rfl)) rfl (gk_cons (gm_X11_isHeld_1 _ (List.mem_of_getElem? (i := 15) rfl)) rfl (gk_cons (gm_X11_isHeld_1 _ (List.mem_of_getElem? (i := 16) rfl)) rfl gk_nil)))))))))
theorem ggX11_isHeld_X11_solve : GoodIn wsX11_isHeld wsX11_solve := gk_cons (gm_X11_isHeld_0 _ (List.mem_of_getElem? (i := 9) rfl)) rfl (goodIn_app (goodIn_app gk_X11_isHeld_X11_solve_r1 gk_X11_isHeld_X11_solve_r2) (goodIn_sub gm_X11_isHeld_3 ag_wsX110))
theorem gX11_isHeld_X11_solve : GoodIn wsX11_isHeld (wsV RX11 133 RX11 yX11_solve wsX11_solve) := goodIn_app (gk_cons (gm_X11_isHeld_0 _ (List.mem_of_getElem? (i := 5) rfl)) rfl (gk_cons (gm_X11_isHeld_0 _ (List.mem_of_getElem? (i := 6) rfl)) rfl (gk_cons (gm_X11_isHeld_0 _ (List.mem_of_getElem? (i := 7) rfl)) rfl (gk_cons (gm_X11_isHeld_0 _ (List.mem_of_getElem? (i := 8) rfl)) rfl gk_nil)))) ggX11_isHeld_X11_solve
theorem gk_X11_isHeld_X11_firstOf_r1 : GoodIn wsX11_isHeld wsX11_firstOf_r1 := (gk_cons (gm_X11_isHeld_0 _ (List.mem_of_getElem? (i := 17) rfl)) rfl (gk_cons (gm_X11_isHeld_0 _ (List.mem_of_getElem? (i := 1) rfl)) rfl (gk_cons (gm_X11_isHeld_0 _ (List.mem_of_getElem? (i := 2) rfl)) rfl (gk_cons (gm_X11_isHeld_0 _ (List.mem_of_getElem? (i := 3) rfl)) rfl (gk_cons (gm_X11_isHeld_0 _ (List.mem_of_getElem? (i := 23) rfl)) rfl (gk_cons (gm_X11_isHeld_1 _ (List.mem_of_getElem? (i := 0) rfl)) rfl (gk_cons (gm_X11_isHeld_0 _ (List.mem_of_getElem? (i := 8) rfl)) rfl (gk_cons (gm_X11_isHeld_1 _ (List.mem_of_getElem? (i := 1) rfl)) rfl (gk_cons (gm_X11_isHeld_1 _ (List.mem_of_getElem? (i := 21) rfl)) rfl (gk_cons (gm_X11_isHeld_1 _ (List.mem_of_getElem? (i := 22) rfl)) rfl (gk_cons (gm_X11_isHeld_1 _ (List.mem_of_getElem? (i := 23) rfl)) rfl (gk_cons (gm_X11_isHeld_2 _ (List.mem_of_getElem? (i := 0) rfl)) rfl (gk_cons (gm_X11_isHeld_2 _ (List.mem_of_getElem? (i := 1) rfl)) rfl (gk_cons (gm_X11_isHeld_2 _ (List.mem_of_getElem? (i := 2) rfl)) rfl (gk_cons (gm_X11_isHeld_2 _ (List.mem_of_getElem? (i := 3) rfl)) rfl (gk_cons (gm_X11_isHeld_2 _ (List.mem_of_getElem? (i := 4) rfl)) rfl (gk_cons (gm_X11_isHeld_1 _ (List.mem_of_getElem? (i := 6) rfl)) rfl (gk_cons (gm_X11_isHeld_0 _ (List.mem_of_getElem? (i := 4) rfl)) rfl (gk_cons (gm_X11_isHeld_0 _ (List.mem_of_getElem? (i := 10) rfl)) rfl (gk_cons (gm_X11_isHeld_0 _ (List.mem_of_getElem? (i := 11) rfl)) rfl (gk_cons (gm_X11_isHeld_0 _ (List.mem_of_getElem? (i := 12) rfl)) rfl (gk_cons (gm_X11_isHeld_2 _ (List.mem_of_getElem? (i := 5) rfl)) rfl (gk_cons (gm_X11_isHeld_1 _ (List.mem_of_getElem? (i := 7) rfl)) rfl (gk_cons (gm_X11_isHeld_1 _ (List.mem_of_getElem? (i := 8) rfl)) rfl gk_nil))))))))))))))))))))))))
theorem gk_X11_isHeld_X11_firstOf_r2 : GoodIn wsX11_isHeld wsX11_firstOf_r2 := (gk_cons (gm_X11_isHeld_1 _ (List.mem_of_getElem? (i := 9) rfl)) rfl (gk_cons (gm_X11_isHeld_1 _ (List.mem_of_getElem? (i := 10) rfl)) rfl (gk_cons (gm_X11_isHeld_1 _ (List.mem_of_getElem? (i := 11) rfl)) rfl (gk_cons (gm_X11_isHeld_1 _ (List.mem_of_getElem? (i := 12) rfl)) rfl (gk_cons (gm_X11_isHeld_1 _ (List.mem_of_getElem? (i := 13) rfl)) rfl (gk_cons (gm_X11_isHeld_1 _ (List.mem_of_getElem? (i := 14) rfl)) rfl (gk_cons (gm_X11_isHeld_1 _ (List.mem_of_getElem? (i := 15) rfl)) rfl (gk_cons (gm_X11_isHeld_1 _ (List.mem_of_getElem? (i := 16) rfl)) rfl (gk_cons (gm_X11_isHeld_2 _ (List.mem_of_getElem? (i := 6) rfl)) rfl (gk_cons (gm_X11_isHeld_2 _ (List.mem_of_getElem? (i := 7) rfl)) rfl (gk_cons (gm_X11_isHeld_2 _ (List.mem_of_getElem? (i := 8) rfl)) rfl (gk_cons (gm_X11_isHeld_2 _ (List.mem_of_getElem? (i := 9) rfl)) rfl (gk_cons (gm_X11_isHeld_2 _ (List.mem_of_getElem? (i := 10) rfl)) rfl (gk_cons (gm_X11_isHeld_2 _ (List.mem_of_getElem? (i := 11) rfl)) rfl (gk_cons (gm_X11_isHeld_2 _ (List.mem_of_getElem? (i := 12) rfl)) rfl (gk_cons (gm_X11_isHeld_2 _ (List.mem_of_getElem? (i := 13) rfl)) rfl gk_nil))))))))))))))))
theorem ggX11_isHeld_X11_firstOf : GoodIn wsX11_isHeld wsX11_firstOf := gk_cons (gm_X11_isHeld_1 _ (List.mem_of_getElem? (i := 20) rfl)) rfl (goodIn_app (goodIn_app gk_X11_isHeld_X11_firstOf_r1 gk_X11_isHeld_X11_firstOf_r2) (goodIn_sub gm_X11_isHeld_3 ag_wsX110))
theorem gX11_isHeld_X11_firstOf : GoodIn wsX11_isHeld (wsV RX11 179 RX11 yX11_firstOf wsX11_firstOf) := goodIn_app (gk_cons (gm_X11_isHeld_1 _ (List.mem_of_getElem? (i := 17) rfl)) rfl (gk_cons (gm_X11_isHeld_1 _ (List.mem_of_getElem? (i := 18) rfl)) rfl (gk_cons (gm_X11_isHeld_1 _ (List.mem_of_getElem? (i := 19) rfl)) rfl (gk_cons (gm_X11_isHeld_0 _ (List.mem_of_getElem? (i := 8) rfl)) rfl gk_nil)))) ggX11_isHeld_X11_firstOf
theorem ggX11_isHeld_X11_isAbove : GoodIn wsX11_isHeld wsX11_isAbove := gk_cons (gm_X11_isHeld_2 _ (List.mem_of_getElem? (i := 13) rfl)) rfl gk_nil
theorem gX11_isHeld_X11_isAbove : GoodIn wsX11_isHeld (va_wsS RX11 175 yX11_isAbove wsX11_isAbove) := goodIn_app (gk_cons (gm_X11_isHeld_2 _ (List.mem_of_getElem? (i := 11) rfl)) rfl (gk_cons (gm_X11_isHeld_2 _ (List.mem_of_getElem? (i := 12) rfl)) rfl (gk_cons (gm_X11_isHeld_0 _ (List.mem_of_getElem? (i := 8) rfl)) rfl gk_nil))) ggX11_isHeld_X11_isAbove
theorem dX11_isHeld_0 : decode cX11_isHeld 0 = .ok (.aload_n 0, 1) := by decide +kernel
theorem dX11_isHeld_1 : decode cX11_isHeld 1 = .ok (.iload_n 1, 1) := by decide +kernel
theorem dX11_isHeld_2 : decode cX11_isHeld 2 = .ok (.ldc2_w 150, 3) := by decide +kernel
theorem dX11_isHeld_5 : decode cX11_isHeld 5 = .ok (.iload_n 2, 1) := by decide +kernel
theorem dX11_isHeld_6 : decode cX11_isHeld 6 = .ok (.i2l, 1) := by decide +kernel
theorem dX11_isHeld_7 : decode cX11_isHeld 7 = .ok (.lmul, 1) := by decide +kernel
theorem dX11_isHeld_8 : decode cX11_isHeld 8 = .ok (.ldc2_w 150, 3) := by decide +kernel
theorem dX11_isHeld_11 : decode cX11_isHeld 11 = .ok (.iload_n 3, 1) := by decide +kernel
theorem dX11_isHeld_12 : decode cX11_isHeld 12 = .ok (.i2l, 1) := by decide +kernel
theorem dX11_isHeld_13 : decode cX11_isHeld 13 = .ok (.lmul, 1) := by decide +kernel
theorem dX11_isHeld_14 : decode cX11_isHeld 14 = .ok (.ldc2_w 150, 3) := by decide +kernel
theorem dX11_isHeld_17 : decode cX11_isHeld 17 = .ok (.iload 4, 2) := by decide +kernel
theorem dX11_isHeld_19 : decode cX11_isHeld 19 = .ok (.i2l, 1) := by decide +kernel
theorem dX11_isHeld_20 : decode cX11_isHeld 20 = .ok (.lmul, 1) := by decide +kernel
theorem dX11_isHeld_21 : decode cX11_isHeld 21 = .ok (.invokevirtual 133, 3) := by decide +kernel
theorem dX11_isHeld_24 : decode cX11_isHeld 24 = .ok (.aload_n 0, 1) := by decide +kernel
theorem dX11_isHeld_25 : decode cX11_isHeld 25 = .ok (.getfield 120, 3) := by decide +kernel
theorem dX11_isHeld_28 : decode cX11_isHeld 28 = .ok (.lconst 0, 1) := by decide +kernel
theorem dX11_isHeld_29 : decode cX11_isHeld 29 = .ok (.lcmp, 1) := by decide +kernel
theorem dX11_isHeld_30 : decode cX11_isHeld 30 = .ok (.ifCond .ne 5, 3) := by decide +kernel
theorem dX11_isHeld_33 : decode cX11_isHeld 33 = .ok (.iconst 0, 1) := by decide +kernel
theorem dX11_isHeld_34 : decode cX11_isHeld 34 = .ok (.ireturn, 1) := by decide +kernel
theorem dX11_isHeld_35 : decode cX11_isHeld 35 = .ok (.aload_n 0, 1) := by decide +kernel
theorem dX11_isHeld_36 : decode cX11_isHeld 36 = .ok (.iload_n 1, 1) := by decide +kernel
theorem dX11_isHeld_37 : decode cX11_isHeld 37 = .ok (.invokevirtual 179, 3) := by decide +kernel
theorem dX11_isHeld_40 : decode cX11_isHeld 40 = .ok (.iconst (-1), 1) := by decide +kernel
theorem dX11_isHeld_41 : decode cX11_isHeld 41 = .ok (.if_icmp .eq 27, 3) := by decide +kernel
theorem dX11_isHeld_44 : decode cX11_isHeld 44 = .ok (.aload_n 0, 1) := by decide +kernel
theorem dX11_isHeld_45 : decode cX11_isHeld 45 = .ok (.getfield 169, 3) := by decide +kernel
theorem dX11_isHeld_48 : decode cX11_isHeld 48 = .ok (.aload_n 0, 1) := by decide +kernel
theorem dX11_isHeld_49 : decode cX11_isHeld 49 = .ok (.getfield 172, 3) := by decide +kernel
theorem dX11_isHeld_52 : decode cX11_isHeld 52 = .ok (.i2l, 1) := by decide +kernel
theorem dX11_isHeld_53 : decode cX11_isHeld 53 = .ok (.ldc2_w 156, 3) := by decide +kernel
theorem dX11_isHeld_56 : decode cX11_isHeld 56 = .ok (.aload_n 0, 1) := by decide +kernel
theorem dX11_isHeld_57 : decode cX11_isHeld 57 = .ok (.getfield 120, 3) := by decide +kernel
theorem dX11_isHeld_60 : decode cX11_isHeld 60 = .ok (.lmul, 1) := by decide +kernel
theorem dX11_isHeld_61 : decode cX11_isHeld 61 = .ok (.lconst 1, 1) := by decide +kernel
theorem dX11_isHeld_62 : decode cX11_isHeld 62 = .ok (.invokestatic 175, 3) := by decide +kernel
theorem dX11_isHeld_65 : decode cX11_isHeld 65 = .ok (.ifCond .ne 7, 3) := by decide +kernel
theorem dX11_isHeld_68 : decode cX11_isHeld 68 = .ok (.iconst 1, 1) := by decide +kernel
theorem dX11_isHeld_69 : decode cX11_isHeld 69 = .ok (.goto 4, 3) := by decide +kernel
theorem dX11_isHeld_72 : decode cX11_isHeld 72 = .ok (.iconst 0, 1) := by decide +kernel
theorem dX11_isHeld_73 : decode cX11_isHeld 73 = .ok (.ireturn, 1) := by decide +kernel
theorem gm_X11_holds_0 : ∀ w ∈ wsX11_holds_r1, w ∈ wsX11_holds := fun w h => List.mem_cons_of_mem _ (List.mem_append_left _ (List.mem_append_left _ h))
theorem gm_X11_holds_1 : ∀ w ∈ wsX11_holds_r2, w ∈ wsX11_holds := fun w h => List.mem_cons_of_mem _ (List.mem_append_left _ (List.mem_append_right _ (List.mem_append_left _ h)))
theorem gm_X11_holds_2 : ∀ w ∈ wsX11_holds_r3, w ∈ wsX11_holds := fun w h => List.mem_cons_of_mem _ (List.mem_append_left _ (List.mem_append_right _ (List.mem_append_right _ (List.mem_append_left _ h))))
theorem gm_X11_holds_3 : ∀ w ∈ wsX11_holds_r4, w ∈ wsX11_holds := fun w h => List.mem_cons_of_mem _ (List.mem_append_left _ (List.mem_append_right _ (List.mem_append_right _ (List.mem_append_right _ h))))
theorem gm_X11_holds_4 : ∀ w ∈ wsX110, w ∈ wsX11_holds := fun w h => List.mem_cons_of_mem _ (List.mem_append_right _ h)
theorem ggX11_holds_X11_isPlate : GoodIn wsX11_holds wsX11_isPlate := gk_cons (gm_X11_holds_0 _ (List.mem_of_getElem? (i := 4) rfl)) rfl (goodIn_app (gk_cons (gm_X11_holds_0 _ (List.mem_of_getElem? (i := 5) rfl)) rfl (gk_cons (gm_X11_holds_0 _ (List.mem_of_getElem? (i := 6) rfl)) rfl (gk_cons (gm_X11_holds_0 _ (List.mem_of_getElem? (i := 7) rfl)) rfl (gk_cons (gm_X11_holds_0 _ (List.mem_of_getElem? (i := 3) rfl)) rfl (gk_cons (gm_X11_holds_0 _ (List.mem_of_getElem? (i := 8) rfl)) rfl gk_nil))))) (goodIn_sub gm_X11_holds_4 ag_wsX110))
theorem gX11_holds_X11_isPlate : GoodIn wsX11_holds (wsV RX11 79 RX11 yX11_isPlate wsX11_isPlate) := goodIn_app (gk_cons (gm_X11_holds_0 _ (List.mem_of_getElem? (i := 0) rfl)) rfl (gk_cons (gm_X11_holds_0 _ (List.mem_of_getElem? (i := 1) rfl)) rfl (gk_cons (gm_X11_holds_0 _ (List.mem_of_getElem? (i := 2) rfl)) rfl (gk_cons (gm_X11_holds_0 _ (List.mem_of_getElem? (i := 3) rfl)) rfl gk_nil)))) ggX11_holds_X11_isPlate
theorem ggX11_holds_X11_isLoad : GoodIn wsX11_holds wsX11_isLoad := gk_cons (gm_X11_holds_0 _ (List.mem_of_getElem? (i := 11) rfl)) rfl (gk_cons (gm_X11_holds_0 _ (List.mem_of_getElem? (i := 6) rfl)) rfl (gk_cons (gm_X11_holds_0 _ (List.mem_of_getElem? (i := 7) rfl)) rfl (gk_cons (gm_X11_holds_0 _ (List.mem_of_getElem? (i := 3) rfl)) rfl (gk_cons (gm_X11_holds_0 _ (List.mem_of_getElem? (i := 8) rfl)) rfl gk_nil))))
theorem gX11_holds_X11_isLoad : GoodIn wsX11_holds (va_wsS RX11 147 yX11_isLoad wsX11_isLoad) := goodIn_app (gk_cons (gm_X11_holds_0 _ (List.mem_of_getElem? (i := 9) rfl)) rfl (gk_cons (gm_X11_holds_0 _ (List.mem_of_getElem? (i := 10) rfl)) rfl (gk_cons (gm_X11_holds_0 _ (List.mem_of_getElem? (i := 3) rfl)) rfl gk_nil))) ggX11_holds_X11_isLoad
theorem gk_X11_holds_X11_isHeld_r1 : GoodIn wsX11_holds wsX11_isHeld_r1 := (gk_cons (gm_X11_holds_0 _ (List.mem_of_getElem? (i := 16) rfl)) rfl (gk_cons (gm_X11_holds_0 _ (List.mem_of_getElem? (i := 17) rfl)) rfl (gk_cons (gm_X11_holds_0 _ (List.mem_of_getElem? (i := 18) rfl)) rfl (gk_cons (gm_X11_holds_0 _ (List.mem_of_getElem? (i := 19) rfl)) rfl (gk_cons (gm_X11_holds_0 _ (List.mem_of_getElem? (i := 20) rfl)) rfl (gk_cons (gm_X11_holds_0 _ (List.mem_of_getElem? (i := 21) rfl)) rfl (gk_cons (gm_X11_holds_0 _ (List.mem_of_getElem? (i := 22) rfl)) rfl (gk_cons (gm_X11_holds_0 _ (List.mem_of_getElem? (i := 23) rfl)) rfl (gk_cons (gm_X11_holds_0 _ (List.mem_of_getElem? (i := 3) rfl)) rfl (gk_cons (gm_X11_holds_1 _ (List.mem_of_getElem? (i := 0) rfl)) rfl (gk_cons (gm_X11_holds_1 _ (List.mem_of_getElem? (i := 1) rfl)) rfl (gk_cons (gm_X11_holds_1 _ (List.mem_of_getElem? (i := 2) rfl)) rfl (gk_cons (gm_X11_holds_1 _ (List.mem_of_getElem? (i := 3) rfl)) rfl (gk_cons (gm_X11_holds_1 _ (List.mem_of_getElem? (i := 4) rfl)) rfl (gk_cons (gm_X11_holds_1 _ (List.mem_of_getElem? (i := 5) rfl)) rfl (gk_cons (gm_X11_holds_1 _ (List.mem_of_getElem? (i := 6) rfl)) rfl (gk_cons (gm_X11_holds_1 _ (List.mem_of_getElem? (i := 7) rfl)) rfl (gk_cons (gm_X11_holds_1 _ (List.mem_of_getElem? (i := 8) rfl)) rfl (gk_cons (gm_X11_holds_1 _ (List.mem_of_getElem? (i := 9) rfl)) rfl (gk_cons (gm_X11_holds_1 _ (List.mem_of_getElem? (i := 10) rfl)) rfl (gk_cons (gm_X11_holds_1 _ (List.mem_of_getElem? (i := 11) rfl)) rfl (gk_cons (gm_X11_holds_1 _ (List.mem_of_getElem? (i := 12) rfl)) rfl (gk_cons (gm_X11_holds_1 _ (List.mem_of_getElem? (i := 13) rfl)) rfl (gk_cons (gm_X11_holds_1 _ (List.mem_of_getElem? (i := 14) rfl)) rfl gk_nil))))))))))))))))))))))))
theorem gk_X11_holds_X11_isHeld_r2 : GoodIn wsX11_holds wsX11_isHeld_r2 := (gk_cons (gm_X11_holds_1 _ (List.mem_of_getElem? (i := 15) rfl)) rfl (gk_cons (gm_X11_holds_1 _ (List.mem_of_getElem? (i := 16) rfl)) rfl (gk_cons (gm_X11_holds_1 _ (List.mem_of_getElem? (i := 17) rfl)) rfl (gk_cons (gm_X11_holds_1 _ (List.mem_of_getElem? (i := 18) rfl)) rfl (gk_cons (gm_X11_holds_1 _ (List.mem_of_getElem? (i := 19) rfl)) rfl (gk_cons (gm_X11_holds_1 _ (List.mem_of_getElem? (i := 20) rfl)) rfl (gk_cons (gm_X11_holds_1 _ (List.mem_of_getElem? (i := 21) rfl)) rfl (gk_cons (gm_X11_holds_1 _ (List.mem_of_getElem? (i := 22) rfl)) rfl (gk_cons (gm_X11_holds_1 _ (List.mem_of_getElem? (i := 23) rfl)) rfl (gk_cons (gm_X11_holds_2 _ (List.mem_of_getElem? (i := 0) rfl)) rfl (gk_cons (gm_X11_holds_2 _ (List.mem_of_getElem? (i := 1) rfl)) rfl (gk_cons (gm_X11_holds_2 _ (List.mem_of_getElem? (i := 2) rfl)) rfl (gk_cons (gm_X11_holds_2 _ (List.mem_of_getElem? (i := 3) rfl)) rfl (gk_cons (gm_X11_holds_2 _ (List.mem_of_getElem? (i := 4) rfl)) rfl (gk_cons (gm_X11_holds_2 _ (List.mem_of_getElem? (i := 5) rfl)) rfl (gk_cons (gm_X11_holds_2 _ (List.mem_of_getElem? (i := 6) rfl)) rfl (gk_cons (gm_X11_holds_2 _ (List.mem_of_getElem? (i := 7) rfl)) rfl (gk_cons (gm_X11_holds_2 _ (List.mem_of_getElem? (i := 8) rfl)) rfl (gk_cons (gm_X11_holds_2 _ (List.mem_of_getElem? (i := 9) rfl)) rfl (gk_cons (gm_X11_holds_2 _ (List.mem_of_getElem? (i := 10) rfl)) rfl (gk_cons (gm_X11_holds_2 _ (List.mem_of_getElem? (i := 11) rfl)) rfl (gk_cons (gm_X11_holds_2 _ (List.mem_of_getElem? (i := 12) rfl)) rfl (gk_cons (gm_X11_holds_2 _ (List.mem_of_getElem? (i := 13) rfl)) rfl (gk_cons (gm_X11_holds_2 _ (List.mem_of_getElem? (i := 14) rfl)) rfl gk_nil))))))))))))))))))))))))
theorem gk_X11_holds_X11_isHeld_r3 : GoodIn wsX11_holds wsX11_isHeld_r3 := (gk_cons (gm_X11_holds_2 _ (List.mem_of_getElem? (i := 15) rfl)) rfl (gk_cons (gm_X11_holds_2 _ (List.mem_of_getElem? (i := 16) rfl)) rfl (gk_cons (gm_X11_holds_2 _ (List.mem_of_getElem? (i := 17) rfl)) rfl (gk_cons (gm_X11_holds_2 _ (List.mem_of_getElem? (i := 18) rfl)) rfl (gk_cons (gm_X11_holds_2 _ (List.mem_of_getElem? (i := 19) rfl)) rfl (gk_cons (gm_X11_holds_2 _ (List.mem_of_getElem? (i := 20) rfl)) rfl (gk_cons (gm_X11_holds_2 _ (List.mem_of_getElem? (i := 21) rfl)) rfl (gk_cons (gm_X11_holds_2 _ (List.mem_of_getElem? (i := 22) rfl)) rfl (gk_cons (gm_X11_holds_2 _ (List.mem_of_getElem? (i := 23) rfl)) rfl (gk_cons (gm_X11_holds_3 _ (List.mem_of_getElem? (i := 0) rfl)) rfl (gk_cons (gm_X11_holds_3 _ (List.mem_of_getElem? (i := 1) rfl)) rfl (gk_cons (gm_X11_holds_3 _ (List.mem_of_getElem? (i := 2) rfl)) rfl (gk_cons (gm_X11_holds_3 _ (List.mem_of_getElem? (i := 3) rfl)) rfl (gk_cons (gm_X11_holds_3 _ (List.mem_of_getElem? (i := 4) rfl)) rfl gk_nil))))))))))))))
theorem ggX11_holds_X11_isHeld : GoodIn wsX11_holds wsX11_isHeld := gk_cons (gm_X11_holds_0 _ (List.mem_of_getElem? (i := 15) rfl)) rfl (goodIn_app (goodIn_app gk_X11_holds_X11_isHeld_r1 (goodIn_app gk_X11_holds_X11_isHeld_r2 gk_X11_holds_X11_isHeld_r3)) (goodIn_sub gm_X11_holds_4 ag_wsX110))
theorem gX11_holds_X11_isHeld : GoodIn wsX11_holds (wsV RX11 182 RX11 yX11_isHeld wsX11_isHeld) := goodIn_app (gk_cons (gm_X11_holds_0 _ (List.mem_of_getElem? (i := 12) rfl)) rfl (gk_cons (gm_X11_holds_0 _ (List.mem_of_getElem? (i := 13) rfl)) rfl (gk_cons (gm_X11_holds_0 _ (List.mem_of_getElem? (i := 14) rfl)) rfl (gk_cons (gm_X11_holds_0 _ (List.mem_of_getElem? (i := 3) rfl)) rfl gk_nil)))) ggX11_holds_X11_isHeld
theorem dX11_holds_0 : decode cX11_holds 0 = .ok (.aload_n 0, 1) := by decide +kernel
theorem dX11_holds_1 : decode cX11_holds 1 = .ok (.iload_n 1, 1) := by decide +kernel
theorem dX11_holds_2 : decode cX11_holds 2 = .ok (.invokevirtual 79, 3) := by decide +kernel
theorem dX11_holds_5 : decode cX11_holds 5 = .ok (.ifCond .ne 5, 3) := by decide +kernel
theorem dX11_holds_8 : decode cX11_holds 8 = .ok (.iconst (-1), 1) := by decide +kernel
theorem dX11_holds_9 : decode cX11_holds 9 = .ok (.ireturn, 1) := by decide +kernel
theorem dX11_holds_10 : decode cX11_holds 10 = .ok (.iload_n 2, 1) := by decide +kernel
theorem dX11_holds_11 : decode cX11_holds 11 = .ok (.iload_n 3, 1) := by decide +kernel
theorem dX11_holds_12 : decode cX11_holds 12 = .ok (.iload 4, 2) := by decide +kernel
theorem dX11_holds_14 : decode cX11_holds 14 = .ok (.invokestatic 147, 3) := by decide +kernel
theorem dX11_holds_17 : decode cX11_holds 17 = .ok (.ifCond .ne 6, 3) := by decide +kernel
theorem dX11_holds_20 : decode cX11_holds 20 = .ok (.bipush (-2), 2) := by decide +kernel
theorem dX11_holds_22 : decode cX11_holds 22 = .ok (.ireturn, 1) := by decide +kernel
theorem dX11_holds_23 : decode cX11_holds 23 = .ok (.aload_n 0, 1) := by decide +kernel
theorem dX11_holds_24 : decode cX11_holds 24 = .ok (.iload_n 1, 1) := by decide +kernel
theorem dX11_holds_25 : decode cX11_holds 25 = .ok (.iload_n 2, 1) := by decide +kernel
theorem dX11_holds_26 : decode cX11_holds 26 = .ok (.iload_n 3, 1) := by decide +kernel
theorem dX11_holds_27 : decode cX11_holds 27 = .ok (.iload 4, 2) := by decide +kernel
theorem dX11_holds_29 : decode cX11_holds 29 = .ok (.invokevirtual 182, 3) := by decide +kernel
theorem dX11_holds_32 : decode cX11_holds 32 = .ok (.ifCond .eq 7, 3) := by decide +kernel
theorem dX11_holds_35 : decode cX11_holds 35 = .ok (.iconst 1, 1) := by decide +kernel
theorem dX11_holds_36 : decode cX11_holds 36 = .ok (.goto 4, 3) := by decide +kernel
theorem dX11_holds_39 : decode cX11_holds 39 = .ok (.iconst 0, 1) := by decide +kernel
theorem dX11_holds_40 : decode cX11_holds 40 = .ok (.ireturn, 1) := by decide +kernel
theorem gm_X11_first_0 : ∀ w ∈ wsX11_first_r1, w ∈ wsX11_first := fun w h => List.mem_cons_of_mem _ (List.mem_append_left _ (List.mem_append_left _ h))
theorem gm_X11_first_1 : ∀ w ∈ wsX11_first_r2, w ∈ wsX11_first := fun w h => List.mem_cons_of_mem _ (List.mem_append_left _ (List.mem_append_right _ (List.mem_append_left _ h)))
theorem gm_X11_first_2 : ∀ w ∈ wsX11_first_r3, w ∈ wsX11_first := fun w h => List.mem_cons_of_mem _ (List.mem_append_left _ (List.mem_append_right _ (List.mem_append_right _ (List.mem_append_left _ h))))
theorem gm_X11_first_3 : ∀ w ∈ wsX11_first_r4, w ∈ wsX11_first := fun w h => List.mem_cons_of_mem _ (List.mem_append_left _ (List.mem_append_right _ (List.mem_append_right _ (List.mem_append_right _ h))))
theorem gm_X11_first_4 : ∀ w ∈ wsX110, w ∈ wsX11_first := fun w h => List.mem_cons_of_mem _ (List.mem_append_right _ h)
theorem ggX11_first_X11_isPlate : GoodIn wsX11_first wsX11_isPlate := gk_cons (gm_X11_first_0 _ (List.mem_of_getElem? (i := 5) rfl)) rfl (goodIn_app (gk_cons (gm_X11_first_0 _ (List.mem_of_getElem? (i := 6) rfl)) rfl (gk_cons (gm_X11_first_0 _ (List.mem_of_getElem? (i := 7) rfl)) rfl (gk_cons (gm_X11_first_0 _ (List.mem_of_getElem? (i := 8) rfl)) rfl (gk_cons (gm_X11_first_0 _ (List.mem_of_getElem? (i := 4) rfl)) rfl (gk_cons (gm_X11_first_0 _ (List.mem_of_getElem? (i := 9) rfl)) rfl gk_nil))))) (goodIn_sub gm_X11_first_4 ag_wsX110))
theorem gX11_first_X11_isPlate : GoodIn wsX11_first (wsV RX11 79 RX11 yX11_isPlate wsX11_isPlate) := goodIn_app (gk_cons (gm_X11_first_0 _ (List.mem_of_getElem? (i := 1) rfl)) rfl (gk_cons (gm_X11_first_0 _ (List.mem_of_getElem? (i := 2) rfl)) rfl (gk_cons (gm_X11_first_0 _ (List.mem_of_getElem? (i := 3) rfl)) rfl (gk_cons (gm_X11_first_0 _ (List.mem_of_getElem? (i := 4) rfl)) rfl gk_nil)))) ggX11_first_X11_isPlate
theorem ggX11_first_X11_isLoad : GoodIn wsX11_first wsX11_isLoad := gk_cons (gm_X11_first_0 _ (List.mem_of_getElem? (i := 12) rfl)) rfl (gk_cons (gm_X11_first_0 _ (List.mem_of_getElem? (i := 7) rfl)) rfl (gk_cons (gm_X11_first_0 _ (List.mem_of_getElem? (i := 8) rfl)) rfl (gk_cons (gm_X11_first_0 _ (List.mem_of_getElem? (i := 4) rfl)) rfl (gk_cons (gm_X11_first_0 _ (List.mem_of_getElem? (i := 9) rfl)) rfl gk_nil))))
theorem gX11_first_X11_isLoad : GoodIn wsX11_first (va_wsS RX11 147 yX11_isLoad wsX11_isLoad) := goodIn_app (gk_cons (gm_X11_first_0 _ (List.mem_of_getElem? (i := 10) rfl)) rfl (gk_cons (gm_X11_first_0 _ (List.mem_of_getElem? (i := 11) rfl)) rfl (gk_cons (gm_X11_first_0 _ (List.mem_of_getElem? (i := 4) rfl)) rfl gk_nil))) ggX11_first_X11_isLoad
theorem gk_X11_first_X11_solve_r1 : GoodIn wsX11_first wsX11_solve_r1 := (gk_cons (gm_X11_first_0 _ (List.mem_of_getElem? (i := 17) rfl)) rfl (gk_cons (gm_X11_first_0 _ (List.mem_of_getElem? (i := 18) rfl)) rfl (gk_cons (gm_X11_first_0 _ (List.mem_of_getElem? (i := 19) rfl)) rfl (gk_cons (gm_X11_first_0 _ (List.mem_of_getElem? (i := 20) rfl)) rfl (gk_cons (gm_X11_first_0 _ (List.mem_of_getElem? (i := 21) rfl)) rfl (gk_cons (gm_X11_first_0 _ (List.mem_of_getElem? (i := 22) rfl)) rfl (gk_cons (gm_X11_first_0 _ (List.mem_of_getElem? (i := 23) rfl)) rfl (gk_cons (gm_X11_first_0 _ (List.mem_of_getElem? (i := 4) rfl)) rfl (gk_cons (gm_X11_first_1 _ (List.mem_of_getElem? (i := 0) rfl)) rfl (gk_cons (gm_X11_first_1 _ (List.mem_of_getElem? (i := 1) rfl)) rfl (gk_cons (gm_X11_first_1 _ (List.mem_of_getElem? (i := 2) rfl)) rfl (gk_cons (gm_X11_first_1 _ (List.mem_of_getElem? (i := 3) rfl)) rfl (gk_cons (gm_X11_first_1 _ (List.mem_of_getElem? (i := 4) rfl)) rfl (gk_cons (gm_X11_first_1 _ (List.mem_of_getElem? (i := 5) rfl)) rfl (gk_cons (gm_X11_first_1 _ (List.mem_of_getElem? (i := 6) rfl)) rfl (gk_cons (gm_X11_first_1 _ (List.mem_of_getElem? (i := 7) rfl)) rfl (gk_cons (gm_X11_first_1 _ (List.mem_of_getElem? (i := 8) rfl)) rfl (gk_cons (gm_X11_first_1 _ (List.mem_of_getElem? (i := 9) rfl)) rfl (gk_cons (gm_X11_first_1 _ (List.mem_of_getElem? (i := 10) rfl)) rfl (gk_cons (gm_X11_first_1 _ (List.mem_of_getElem? (i := 11) rfl)) rfl (gk_cons (gm_X11_first_1 _ (List.mem_of_getElem? (i := 12) rfl)) rfl (gk_cons (gm_X11_first_1 _ (List.mem_of_getElem? (i := 13) rfl)) rfl (gk_cons (gm_X11_first_1 _ (List.mem_of_getElem? (i := 14) rfl)) rfl (gk_cons (gm_X11_first_1 _ (List.mem_of_getElem? (i := 15) rfl)) rfl gk_nil))))))))))))))))))))))))
theorem gk_X11_first_X11_solve_r2 : GoodIn wsX11_first wsX11_solve_r2 := (gk_cons (gm_X11_first_1 _ (List.mem_of_getElem? (i := 16) rfl)) rfl (gk_cons (gm_X11_first_1 _ (List.mem_of_getElem? (i := 17) rfl)) rfl (gk_cons (gm_X11_first_1 _ (List.mem_of_getElem? (i := 18) rfl)) rfl (gk_cons (gm_X11_first_1 _ (List.mem_of_getElem? (i := 19) rfl)) rfl (gk_cons (gm_X11_first_1 _ (List.mem_of_getElem? (i := 20) rfl)) rfl (gk_cons (gm_X11_first_1 _ (List.mem_of_getElem? (i := 21) rfl)) rfl (gk_cons (gm_X11_first_1 _ (List.mem_of_getElem? (i := 22) rfl)) rfl (gk_cons (gm_X11_first_1 _ (List.mem_of_getElem? (i := 23) rfl)) rfl (gk_cons (gm_X11_first_2 _ (List.mem_of_getElem? (i := 0) rfl)) rfl gk_nil)))))))))
theorem ggX11_first_X11_solve : GoodIn wsX11_first wsX11_solve := gk_cons (gm_X11_first_0 _ (List.mem_of_getElem? (i := 16) rfl)) rfl (goodIn_app (goodIn_app gk_X11_first_X11_solve_r1 gk_X11_first_X11_solve_r2) (goodIn_sub gm_X11_first_4 ag_wsX110))
theorem gX11_first_X11_solve : GoodIn wsX11_first (wsV RX11 133 RX11 yX11_solve wsX11_solve) := goodIn_app (gk_cons (gm_X11_first_0 _ (List.mem_of_getElem? (i := 13) rfl)) rfl (gk_cons (gm_X11_first_0 _ (List.mem_of_getElem? (i := 14) rfl)) rfl (gk_cons (gm_X11_first_0 _ (List.mem_of_getElem? (i := 15) rfl)) rfl (gk_cons (gm_X11_first_0 _ (List.mem_of_getElem? (i := 4) rfl)) rfl gk_nil)))) ggX11_first_X11_solve
theorem gk_X11_first_X11_firstOf_r1 : GoodIn wsX11_first wsX11_firstOf_r1 := (gk_cons (gm_X11_first_1 _ (List.mem_of_getElem? (i := 1) rfl)) rfl (gk_cons (gm_X11_first_0 _ (List.mem_of_getElem? (i := 17) rfl)) rfl (gk_cons (gm_X11_first_2 _ (List.mem_of_getElem? (i := 5) rfl)) rfl (gk_cons (gm_X11_first_2 _ (List.mem_of_getElem? (i := 6) rfl)) rfl (gk_cons (gm_X11_first_1 _ (List.mem_of_getElem? (i := 7) rfl)) rfl (gk_cons (gm_X11_first_1 _ (List.mem_of_getElem? (i := 8) rfl)) rfl (gk_cons (gm_X11_first_0 _ (List.mem_of_getElem? (i := 4) rfl)) rfl (gk_cons (gm_X11_first_1 _ (List.mem_of_getElem? (i := 9) rfl)) rfl (gk_cons (gm_X11_first_2 _ (List.mem_of_getElem? (i := 7) rfl)) rfl (gk_cons (gm_X11_first_2 _ (List.mem_of_getElem? (i := 8) rfl)) rfl (gk_cons (gm_X11_first_2 _ (List.mem_of_getElem? (i := 9) rfl)) rfl (gk_cons (gm_X11_first_2 _ (List.mem_of_getElem? (i := 10) rfl)) rfl (gk_cons (gm_X11_first_2 _ (List.mem_of_getElem? (i := 11) rfl)) rfl (gk_cons (gm_X11_first_2 _ (List.mem_of_getElem? (i := 12) rfl)) rfl (gk_cons (gm_X11_first_2 _ (List.mem_of_getElem? (i := 13) rfl)) rfl (gk_cons (gm_X11_first_2 _ (List.mem_of_getElem? (i := 14) rfl)) rfl (gk_cons (gm_X11_first_1 _ (List.mem_of_getElem? (i := 14) rfl)) rfl (gk_cons (gm_X11_first_2 _ (List.mem_of_getElem? (i := 15) rfl)) rfl (gk_cons (gm_X11_first_0 _ (List.mem_of_getElem? (i := 18) rfl)) rfl (gk_cons (gm_X11_first_0 _ (List.mem_of_getElem? (i := 19) rfl)) rfl (gk_cons (gm_X11_first_0 _ (List.mem_of_getElem? (i := 20) rfl)) rfl (gk_cons (gm_X11_first_2 _ (List.mem_of_getElem? (i := 16) rfl)) rfl (gk_cons (gm_X11_first_1 _ (List.mem_of_getElem? (i := 15) rfl)) rfl (gk_cons (gm_X11_first_1 _ (List.mem_of_getElem? (i := 16) rfl)) rfl gk_nil))))))))))))))))))))))))
theorem gk_X11_first_X11_firstOf_r2 : GoodIn wsX11_first wsX11_firstOf_r2 := (gk_cons (gm_X11_first_1 _ (List.mem_of_getElem? (i := 17) rfl)) rfl (gk_cons (gm_X11_first_1 _ (List.mem_of_getElem? (i := 18) rfl)) rfl (gk_cons (gm_X11_first_1 _ (List.mem_of_getElem? (i := 19) rfl)) rfl (gk_cons (gm_X11_first_1 _ (List.mem_of_getElem? (i := 20) rfl)) rfl (gk_cons (gm_X11_first_1 _ (List.mem_of_getElem? (i := 21) rfl)) rfl (gk_cons (gm_X11_first_1 _ (List.mem_of_getElem? (i := 22) rfl)) rfl (gk_cons (gm_X11_first_1 _ (List.mem_of_getElem? (i := 23) rfl)) rfl (gk_cons (gm_X11_first_2 _ (List.mem_of_getElem? (i := 0) rfl)) rfl (gk_cons (gm_X11_first_2 _ (List.mem_of_getElem? (i := 17) rfl)) rfl (gk_cons (gm_X11_first_2 _ (List.mem_of_getElem? (i := 18) rfl)) rfl (gk_cons (gm_X11_first_2 _ (List.mem_of_getElem? (i := 19) rfl)) rfl (gk_cons (gm_X11_first_2 _ (List.mem_of_getElem? (i := 20) rfl)) rfl (gk_cons (gm_X11_first_2 _ (List.mem_of_getElem? (i := 21) rfl)) rfl (gk_cons (gm_X11_first_2 _ (List.mem_of_getElem? (i := 22) rfl)) rfl (gk_cons (gm_X11_first_2 _ (List.mem_of_getElem? (i := 23) rfl)) rfl (gk_cons (gm_X11_first_3 _ (List.mem_of_getElem? (i := 0) rfl)) rfl gk_nil))))))))))))))))
theorem ggX11_first_X11_firstOf : GoodIn wsX11_first wsX11_firstOf := gk_cons (gm_X11_first_2 _ (List.mem_of_getElem? (i := 4) rfl)) rfl (goodIn_app (goodIn_app gk_X11_first_X11_firstOf_r1 gk_X11_first_X11_firstOf_r2) (goodIn_sub gm_X11_first_4 ag_wsX110))
theorem gX11_first_X11_firstOf : GoodIn wsX11_first (wsV RX11 179 RX11 yX11_firstOf wsX11_firstOf) := goodIn_app (gk_cons (gm_X11_first_2 _ (List.mem_of_getElem? (i := 1) rfl)) rfl (gk_cons (gm_X11_first_2 _ (List.mem_of_getElem? (i := 2) rfl)) rfl (gk_cons (gm_X11_first_2 _ (List.mem_of_getElem? (i := 3) rfl)) rfl (gk_cons (gm_X11_first_0 _ (List.mem_of_getElem? (i := 4) rfl)) rfl gk_nil)))) ggX11_first_X11_firstOf
theorem dX11_first_0 : decode cX11_first 0 = .ok (.aload_n 0, 1) := by decide +kernel
theorem dX11_first_1 : decode cX11_first 1 = .ok (.iload_n 1, 1) := by decide +kernel
theorem dX11_first_2 : decode cX11_first 2 = .ok (.invokevirtual 79, 3) := by decide +kernel
theorem dX11_first_5 : decode cX11_first 5 = .ok (.ifCond .ne 5, 3) := by decide +kernel
theorem dX11_first_8 : decode cX11_first 8 = .ok (.iconst (-1), 1) := by decide +kernel
theorem dX11_first_9 : decode cX11_first 9 = .ok (.ireturn, 1) := by decide +kernel
theorem dX11_first_10 : decode cX11_first 10 = .ok (.iload_n 2, 1) := by decide +kernel
theorem dX11_first_11 : decode cX11_first 11 = .ok (.iload_n 3, 1) := by decide +kernel
theorem dX11_first_12 : decode cX11_first 12 = .ok (.iload 4, 2) := by decide +kernel
theorem dX11_first_14 : decode cX11_first 14 = .ok (.invokestatic 147, 3) := by decide +kernel
theorem dX11_first_17 : decode cX11_first 17 = .ok (.ifCond .ne 6, 3) := by decide +kernel
theorem dX11_first_20 : decode cX11_first 20 = .ok (.bipush (-2), 2) := by decide +kernel
theorem dX11_first_22 : decode cX11_first 22 = .ok (.ireturn, 1) := by decide +kernel
theorem dX11_first_23 : decode cX11_first 23 = .ok (.aload_n 0, 1) := by decide +kernel
theorem dX11_first_24 : decode cX11_first 24 = .ok (.iload_n 1, 1) := by decide +kernel
theorem dX11_first_25 : decode cX11_first 25 = .ok (.ldc2_w 150, 3) := by decide +kernel
theorem dX11_first_28 : decode cX11_first 28 = .ok (.iload_n 2, 1) := by decide +kernel
theorem dX11_first_29 : decode cX11_first 29 = .ok (.i2l, 1) := by decide +kernel
