theorem dX10_factor_5 : decode cX10_factor 5 = .ok (.ifCond .eq 13, 3) := by decide +kernel
theorem dX10_factor_8 : decode cX10_factor 8 = .ok (.iload_n 2, 1) := by decide +kernel
theorem dX10_factor_9 : decode cX10_factor 9 = .ok (.iload_n 3, 1) := by decide +kernel
theorem dX10_factor_10 : decode cX10_factor 10 = .ok (.iload 4, 2) := by decide +kernel
theorem dX10_factor_12 : decode cX10_factor 12 = .ok (.invokestatic 176, 3) := by decide +kernel
theorem dX10_factor_15 : decode cX10_factor 15 = .ok (.ifCond .ne 7, 3) := by decide +kernel
theorem dX10_factor_18 : decode cX10_factor 18 = .ok (.ldc2_w 148, 3) := by decide +kernel
theorem dX10_factor_21 : decode cX10_factor 21 = .ok (.lreturn, 1) := by decide +kernel
theorem dX10_factor_22 : decode cX10_factor 22 = .ok (.aload_n 0, 1) := by decide +kernel
theorem dX10_factor_23 : decode cX10_factor 23 = .ok (.getfield 69, 3) := by decide +kernel
theorem dX10_factor_26 : decode cX10_factor 26 = .ok (.aload_n 0, 1) := by decide +kernel
theorem dX10_factor_27 : decode cX10_factor 27 = .ok (.getfield 19, 3) := by decide +kernel
theorem dX10_factor_30 : decode cX10_factor 30 = .ok (.iload_n 1, 1) := by decide +kernel
theorem dX10_factor_31 : decode cX10_factor 31 = .ok (.aaload, 1) := by decide +kernel
theorem dX10_factor_32 : decode cX10_factor 32 = .ok (.invokevirtual 168, 3) := by decide +kernel
theorem dX10_factor_35 : decode cX10_factor 35 = .ok (.aload_n 0, 1) := by decide +kernel
theorem dX10_factor_36 : decode cX10_factor 36 = .ok (.getfield 69, 3) := by decide +kernel
theorem dX10_factor_39 : decode cX10_factor 39 = .ok (.aload_n 0, 1) := by decide +kernel
theorem dX10_factor_40 : decode cX10_factor 40 = .ok (.getfield 19, 3) := by decide +kernel
theorem dX10_factor_43 : decode cX10_factor 43 = .ok (.iload_n 1, 1) := by decide +kernel
theorem dX10_factor_44 : decode cX10_factor 44 = .ok (.aaload, 1) := by decide +kernel
theorem dX10_factor_45 : decode cX10_factor 45 = .ok (.iload_n 2, 1) := by decide +kernel
theorem dX10_factor_46 : decode cX10_factor 46 = .ok (.iload_n 3, 1) := by decide +kernel
theorem dX10_factor_47 : decode cX10_factor 47 = .ok (.iload 4, 2) := by decide +kernel
theorem dX10_factor_49 : decode cX10_factor 49 = .ok (.invokevirtual 193, 3) := by decide +kernel
theorem dX10_factor_52 : decode cX10_factor 52 = .ok (.aload_n 0, 1) := by decide +kernel
theorem dX10_factor_53 : decode cX10_factor 53 = .ok (.getfield 69, 3) := by decide +kernel
theorem dX10_factor_56 : decode cX10_factor 56 = .ok (.getfield 197, 3) := by decide +kernel
theorem dX10_factor_59 : decode cX10_factor 59 = .ok (.iconst (-1), 1) := by decide +kernel
theorem dX10_factor_60 : decode cX10_factor 60 = .ok (.if_icmp .ne 7, 3) := by decide +kernel
theorem dX10_factor_63 : decode cX10_factor 63 = .ok (.ldc2_w 148, 3) := by decide +kernel
theorem dX10_factor_66 : decode cX10_factor 66 = .ok (.lreturn, 1) := by decide +kernel
theorem dX10_factor_67 : decode cX10_factor 67 = .ok (.aload_n 0, 1) := by decide +kernel
theorem dX10_factor_68 : decode cX10_factor 68 = .ok (.getfield 52, 3) := by decide +kernel
theorem dX10_factor_71 : decode cX10_factor 71 = .ok (.aload_n 0, 1) := by decide +kernel
theorem dX10_factor_72 : decode cX10_factor 72 = .ok (.getfield 69, 3) := by decide +kernel
theorem dX10_factor_75 : decode cX10_factor 75 = .ok (.invokevirtual 200, 3) := by decide +kernel
theorem dX10_factor_78 : decode cX10_factor 78 = .ok (.aload_n 0, 1) := by decide +kernel
theorem dX10_factor_79 : decode cX10_factor 79 = .ok (.getfield 69, 3) := by decide +kernel
theorem dX10_factor_82 : decode cX10_factor 82 = .ok (.getfield 204, 3) := by decide +kernel
theorem dX10_factor_85 : decode cX10_factor 85 = .ok (.invokevirtual 207, 3) := by decide +kernel
theorem dX10_factor_88 : decode cX10_factor 88 = .ok (.aload_n 0, 1) := by decide +kernel
theorem dX10_factor_89 : decode cX10_factor 89 = .ok (.getfield 52, 3) := by decide +kernel
theorem dX10_factor_92 : decode cX10_factor 92 = .ok (.iload 5, 2) := by decide +kernel
theorem dX10_factor_94 : decode cX10_factor 94 = .ok (.invokevirtual 210, 3) := by decide +kernel
theorem dX10_factor_97 : decode cX10_factor 97 = .ok (.lreturn, 1) := by decide +kernel
theorem gm_X10_breaks_0 : ∀ w ∈ wsX10_breaks_r1, w ∈ wsX10_breaks := fun w h => List.mem_cons_of_mem _ (List.mem_append_left _ (List.mem_append_left _ (List.mem_append_left _ (List.mem_append_left _ (List.mem_append_left _ (List.mem_append_left _ (List.mem_append_left _ (List.mem_append_left _ (List.mem_append_left _ h)))))))))
theorem gm_X10_breaks_1 : ∀ w ∈ wsX10_breaks_r2, w ∈ wsX10_breaks := fun w h => List.mem_cons_of_mem _ (List.mem_append_left _ (List.mem_append_left _ (List.mem_append_left _ (List.mem_append_left _ (List.mem_append_left _ (List.mem_append_left _ (List.mem_append_left _ (List.mem_append_left _ (List.mem_append_right _ (List.mem_append_left _ h))))))))))
theorem gm_X10_breaks_2 : ∀ w ∈ wsX10_breaks_r3, w ∈ wsX10_breaks := fun w h => List.mem_cons_of_mem _ (List.mem_append_left _ (List.mem_append_left _ (List.mem_append_left _ (List.mem_append_left _ (List.mem_append_left _ (List.mem_append_left _ (List.mem_append_left _ (List.mem_append_left _ (List.mem_append_right _ (List.mem_append_right _ (List.mem_append_left _ h)))))))))))
theorem gm_X10_breaks_3 : ∀ w ∈ wsX10_breaks_r4, w ∈ wsX10_breaks := fun w h => List.mem_cons_of_mem _ (List.mem_append_left _ (List.mem_append_left _ (List.mem_append_left _ (List.mem_append_left _ (List.mem_append_left _ (List.mem_append_left _ (List.mem_append_left _ (List.mem_append_left _ (List.mem_append_right _ (List.mem_append_right _ (List.mem_append_right _ (List.mem_append_left _ h))))))))))))
theorem gm_X10_breaks_4 : ∀ w ∈ wsX10_breaks_r5, w ∈ wsX10_breaks := fun w h => List.mem_cons_of_mem _ (List.mem_append_left _ (List.mem_append_left _ (List.mem_append_left _ (List.mem_append_left _ (List.mem_append_left _ (List.mem_append_left _ (List.mem_append_left _ (List.mem_append_left _ (List.mem_append_right _ (List.mem_append_right _ (List.mem_append_right _ (List.mem_append_right _ (List.mem_append_left _ h)))))))))))))
theorem gm_X10_breaks_5 : ∀ w ∈ wsX10_breaks_r6, w ∈ wsX10_breaks := fun w h => List.mem_cons_of_mem _ (List.mem_append_left _ (List.mem_append_left _ (List.mem_append_left _ (List.mem_append_left _ (List.mem_append_left _ (List.mem_append_left _ (List.mem_append_left _ (List.mem_append_left _ (List.mem_append_right _ (List.mem_append_right _ (List.mem_append_right _ (List.mem_append_right _ (List.mem_append_right _ (List.mem_append_left _ h))))))))))))))
theorem gm_X10_breaks_6 : ∀ w ∈ wsX10_breaks_r7, w ∈ wsX10_breaks := fun w h => List.mem_cons_of_mem _ (List.mem_append_left _ (List.mem_append_left _ (List.mem_append_left _ (List.mem_append_left _ (List.mem_append_left _ (List.mem_append_left _ (List.mem_append_left _ (List.mem_append_left _ (List.mem_append_right _ (List.mem_append_right _ (List.mem_append_right _ (List.mem_append_right _ (List.mem_append_right _ (List.mem_append_right _ h))))))))))))))
theorem gm_X10_breaks_7 : ∀ w ∈ wsX100, w ∈ wsX10_breaks := fun w h => List.mem_cons_of_mem _ (List.mem_append_left _ (List.mem_append_left _ (List.mem_append_left _ (List.mem_append_left _ (List.mem_append_left _ (List.mem_append_left _ (List.mem_append_left _ (List.mem_append_right _ h))))))))
theorem gm_X10_breaks_8 : ∀ w ∈ wsX00, w ∈ wsX10_breaks := fun w h => List.mem_cons_of_mem _ (List.mem_append_left _ (List.mem_append_left _ (List.mem_append_left _ (List.mem_append_left _ (List.mem_append_left _ (List.mem_append_left _ (List.mem_append_right _ h)))))))
theorem gm_X10_breaks_9 : ∀ w ∈ wsX20, w ∈ wsX10_breaks := fun w h => List.mem_cons_of_mem _ (List.mem_append_left _ (List.mem_append_left _ (List.mem_append_left _ (List.mem_append_left _ (List.mem_append_left _ (List.mem_append_right _ h))))))
theorem gm_X10_breaks_10 : ∀ w ∈ wsX70, w ∈ wsX10_breaks := fun w h => List.mem_cons_of_mem _ (List.mem_append_left _ (List.mem_append_left _ (List.mem_append_left _ (List.mem_append_left _ (List.mem_append_right _ h)))))
theorem gm_X10_breaks_11 : ∀ w ∈ wsX50, w ∈ wsX10_breaks := fun w h => List.mem_cons_of_mem _ (List.mem_append_left _ (List.mem_append_left _ (List.mem_append_left _ (List.mem_append_right _ h))))
theorem gm_X10_breaks_12 : ∀ w ∈ wsX90, w ∈ wsX10_breaks := fun w h => List.mem_cons_of_mem _ (List.mem_append_left _ (List.mem_append_left _ (List.mem_append_right _ h)))
theorem gm_X10_breaks_13 : ∀ w ∈ wsX60, w ∈ wsX10_breaks := fun w h => List.mem_cons_of_mem _ (List.mem_append_left _ (List.mem_append_right _ h))
theorem gm_X10_breaks_14 : ∀ w ∈ wsX30, w ∈ wsX10_breaks := fun w h => List.mem_cons_of_mem _ (List.mem_append_right _ h)
theorem ggX10_breaks_X10_isPlate : GoodIn wsX10_breaks wsX10_isPlate := gk_cons (gm_X10_breaks_0 _ (List.mem_of_getElem? (i := 12) rfl)) rfl (goodIn_app (gk_cons (gm_X10_breaks_0 _ (List.mem_of_getElem? (i := 13) rfl)) rfl (gk_cons (gm_X10_breaks_0 _ (List.mem_of_getElem? (i := 14) rfl)) rfl (gk_cons (gm_X10_breaks_0 _ (List.mem_of_getElem? (i := 15) rfl)) rfl (gk_cons (gm_X10_breaks_0 _ (List.mem_of_getElem? (i := 11) rfl)) rfl (gk_cons (gm_X10_breaks_0 _ (List.mem_of_getElem? (i := 16) rfl)) rfl gk_nil))))) (goodIn_sub gm_X10_breaks_7 ag_wsX100))
theorem gX10_breaks_X10_isPlate : GoodIn wsX10_breaks (wsV RX10 108 RX10 yX10_isPlate wsX10_isPlate) := goodIn_app (gk_cons (gm_X10_breaks_0 _ (List.mem_of_getElem? (i := 8) rfl)) rfl (gk_cons (gm_X10_breaks_0 _ (List.mem_of_getElem? (i := 9) rfl)) rfl (gk_cons (gm_X10_breaks_0 _ (List.mem_of_getElem? (i := 10) rfl)) rfl (gk_cons (gm_X10_breaks_0 _ (List.mem_of_getElem? (i := 11) rfl)) rfl gk_nil)))) ggX10_breaks_X10_isPlate
theorem ggX10_breaks_X10_isLoad : GoodIn wsX10_breaks wsX10_isLoad := gk_cons (gm_X10_breaks_0 _ (List.mem_of_getElem? (i := 19) rfl)) rfl (gk_cons (gm_X10_breaks_0 _ (List.mem_of_getElem? (i := 14) rfl)) rfl (gk_cons (gm_X10_breaks_0 _ (List.mem_of_getElem? (i := 15) rfl)) rfl (gk_cons (gm_X10_breaks_0 _ (List.mem_of_getElem? (i := 11) rfl)) rfl (gk_cons (gm_X10_breaks_0 _ (List.mem_of_getElem? (i := 16) rfl)) rfl gk_nil))))
theorem gX10_breaks_X10_isLoad : GoodIn wsX10_breaks (va_wsS RX10 176 yX10_isLoad wsX10_isLoad) := goodIn_app (gk_cons (gm_X10_breaks_0 _ (List.mem_of_getElem? (i := 17) rfl)) rfl (gk_cons (gm_X10_breaks_0 _ (List.mem_of_getElem? (i := 18) rfl)) rfl (gk_cons (gm_X10_breaks_0 _ (List.mem_of_getElem? (i := 11) rfl)) rfl gk_nil))) ggX10_breaks_X10_isLoad
theorem ggX10_breaks_X7_copy : GoodIn wsX10_breaks wsX7_copy := gk_cons (gm_X10_breaks_1 _ (List.mem_of_getElem? (i := 0) rfl)) rfl (goodIn_app (goodIn_app (gk_cons (gm_X10_breaks_1 _ (List.mem_of_getElem? (i := 1) rfl)) rfl (gk_cons (gm_X10_breaks_1 _ (List.mem_of_getElem? (i := 2) rfl)) rfl (gk_cons (gm_X10_breaks_1 _ (List.mem_of_getElem? (i := 3) rfl)) rfl (gk_cons (gm_X10_breaks_1 _ (List.mem_of_getElem? (i := 4) rfl)) rfl (gk_cons (gm_X10_breaks_1 _ (List.mem_of_getElem? (i := 5) rfl)) rfl (gk_cons (gm_X10_breaks_1 _ (List.mem_of_getElem? (i := 6) rfl)) rfl (gk_cons (gm_X10_breaks_1 _ (List.mem_of_getElem? (i := 7) rfl)) rfl (gk_cons (gm_X10_breaks_1 _ (List.mem_of_getElem? (i := 8) rfl)) rfl (gk_cons (gm_X10_breaks_1 _ (List.mem_of_getElem? (i := 9) rfl)) rfl (gk_cons (gm_X10_breaks_1 _ (List.mem_of_getElem? (i := 10) rfl)) rfl (gk_cons (gm_X10_breaks_1 _ (List.mem_of_getElem? (i := 11) rfl)) rfl (gk_cons (gm_X10_breaks_1 _ (List.mem_of_getElem? (i := 12) rfl)) rfl (gk_cons (gm_X10_breaks_1 _ (List.mem_of_getElem? (i := 13) rfl)) rfl (gk_cons (gm_X10_breaks_1 _ (List.mem_of_getElem? (i := 14) rfl)) rfl (gk_cons (gm_X10_breaks_1 _ (List.mem_of_getElem? (i := 15) rfl)) rfl gk_nil))))))))))))))) (goodIn_sub gm_X10_breaks_10 ag_wsX70)) (goodIn_sub gm_X10_breaks_11 ag_wsX50))
theorem gX10_breaks_X7_copy : GoodIn wsX10_breaks (wsV RX10 214 RX7 yX7_copy wsX7_copy) := goodIn_app (gk_cons (gm_X10_breaks_0 _ (List.mem_of_getElem? (i := 20) rfl)) rfl (gk_cons (gm_X10_breaks_0 _ (List.mem_of_getElem? (i := 21) rfl)) rfl (gk_cons (gm_X10_breaks_0 _ (List.mem_of_getElem? (i := 22) rfl)) rfl (gk_cons (gm_X10_breaks_0 _ (List.mem_of_getElem? (i := 23) rfl)) rfl gk_nil)))) ggX10_breaks_X7_copy
theorem gk_X10_breaks_X2_prepare_r1 : GoodIn wsX10_breaks wsX2_prepare_r1 := (gk_cons (gm_X10_breaks_1 _ (List.mem_of_getElem? (i := 21) rfl)) rfl (gk_cons (gm_X10_breaks_1 _ (List.mem_of_getElem? (i := 22) rfl)) rfl (gk_cons (gm_X10_breaks_1 _ (List.mem_of_getElem? (i := 23) rfl)) rfl (gk_cons (gm_X10_breaks_2 _ (List.mem_of_getElem? (i := 0) rfl)) rfl (gk_cons (gm_X10_breaks_2 _ (List.mem_of_getElem? (i := 1) rfl)) rfl (gk_cons (gm_X10_breaks_2 _ (List.mem_of_getElem? (i := 2) rfl)) rfl (gk_cons (gm_X10_breaks_1 _ (List.mem_of_getElem? (i := 19) rfl)) rfl (gk_cons (gm_X10_breaks_2 _ (List.mem_of_getElem? (i := 3) rfl)) rfl (gk_cons (gm_X10_breaks_2 _ (List.mem_of_getElem? (i := 4) rfl)) rfl (gk_cons (gm_X10_breaks_2 _ (List.mem_of_getElem? (i := 5) rfl)) rfl (gk_cons (gm_X10_breaks_2 _ (List.mem_of_getElem? (i := 6) rfl)) rfl (gk_cons (gm_X10_breaks_2 _ (List.mem_of_getElem? (i := 7) rfl)) rfl (gk_cons (gm_X10_breaks_2 _ (List.mem_of_getElem? (i := 8) rfl)) rfl (gk_cons (gm_X10_breaks_2 _ (List.mem_of_getElem? (i := 9) rfl)) rfl (gk_cons (gm_X10_breaks_2 _ (List.mem_of_getElem? (i := 10) rfl)) rfl (gk_cons (gm_X10_breaks_2 _ (List.mem_of_getElem? (i := 11) rfl)) rfl (gk_cons (gm_X10_breaks_2 _ (List.mem_of_getElem? (i := 12) rfl)) rfl (gk_cons (gm_X10_breaks_2 _ (List.mem_of_getElem? (i := 13) rfl)) rfl (gk_cons (gm_X10_breaks_2 _ (List.mem_of_getElem? (i := 14) rfl)) rfl (gk_cons (gm_X10_breaks_2 _ (List.mem_of_getElem? (i := 15) rfl)) rfl (gk_cons (gm_X10_breaks_0 _ (List.mem_of_getElem? (i := 23) rfl)) rfl (gk_cons (gm_X10_breaks_2 _ (List.mem_of_getElem? (i := 16) rfl)) rfl (gk_cons (gm_X10_breaks_1 _ (List.mem_of_getElem? (i := 1) rfl)) rfl (gk_cons (gm_X10_breaks_1 _ (List.mem_of_getElem? (i := 2) rfl)) rfl gk_nil))))))))))))))))))))))))
theorem gk_X10_breaks_X2_prepare_r2 : GoodIn wsX10_breaks wsX2_prepare_r2 := (gk_cons (gm_X10_breaks_1 _ (List.mem_of_getElem? (i := 5) rfl)) rfl (gk_cons (gm_X10_breaks_2 _ (List.mem_of_getElem? (i := 17) rfl)) rfl (gk_cons (gm_X10_breaks_2 _ (List.mem_of_getElem? (i := 18) rfl)) rfl (gk_cons (gm_X10_breaks_2 _ (List.mem_of_getElem? (i := 19) rfl)) rfl (gk_cons (gm_X10_breaks_2 _ (List.mem_of_getElem? (i := 20) rfl)) rfl (gk_cons (gm_X10_breaks_2 _ (List.mem_of_getElem? (i := 21) rfl)) rfl (gk_cons (gm_X10_breaks_2 _ (List.mem_of_getElem? (i := 22) rfl)) rfl (gk_cons (gm_X10_breaks_2 _ (List.mem_of_getElem? (i := 23) rfl)) rfl (gk_cons (gm_X10_breaks_3 _ (List.mem_of_getElem? (i := 0) rfl)) rfl (gk_cons (gm_X10_breaks_3 _ (List.mem_of_getElem? (i := 1) rfl)) rfl (gk_cons (gm_X10_breaks_3 _ (List.mem_of_getElem? (i := 2) rfl)) rfl (gk_cons (gm_X10_breaks_3 _ (List.mem_of_getElem? (i := 3) rfl)) rfl (gk_cons (gm_X10_breaks_3 _ (List.mem_of_getElem? (i := 4) rfl)) rfl (gk_cons (gm_X10_breaks_3 _ (List.mem_of_getElem? (i := 5) rfl)) rfl (gk_cons (gm_X10_breaks_3 _ (List.mem_of_getElem? (i := 6) rfl)) rfl (gk_cons (gm_X10_breaks_3 _ (List.mem_of_getElem? (i := 7) rfl)) rfl (gk_cons (gm_X10_breaks_3 _ (List.mem_of_getElem? (i := 8) rfl)) rfl (gk_cons (gm_X10_breaks_3 _ (List.mem_of_getElem? (i := 9) rfl)) rfl (gk_cons (gm_X10_breaks_3 _ (List.mem_of_getElem? (i := 10) rfl)) rfl (gk_cons (gm_X10_breaks_3 _ (List.mem_of_getElem? (i := 11) rfl)) rfl (gk_cons (gm_X10_breaks_3 _ (List.mem_of_getElem? (i := 12) rfl)) rfl (gk_cons (gm_X10_breaks_3 _ (List.mem_of_getElem? (i := 13) rfl)) rfl (gk_cons (gm_X10_breaks_3 _ (List.mem_of_getElem? (i := 14) rfl)) rfl (gk_cons (gm_X10_breaks_3 _ (List.mem_of_getElem? (i := 15) rfl)) rfl gk_nil))))))))))))))))))))))))
theorem gk_X10_breaks_X2_prepare_r3 : GoodIn wsX10_breaks wsX2_prepare_r3 := (gk_cons (gm_X10_breaks_3 _ (List.mem_of_getElem? (i := 16) rfl)) rfl (gk_cons (gm_X10_breaks_3 _ (List.mem_of_getElem? (i := 17) rfl)) rfl (gk_cons (gm_X10_breaks_3 _ (List.mem_of_getElem? (i := 18) rfl)) rfl (gk_cons (gm_X10_breaks_3 _ (List.mem_of_getElem? (i := 19) rfl)) rfl (gk_cons (gm_X10_breaks_3 _ (List.mem_of_getElem? (i := 20) rfl)) rfl (gk_cons (gm_X10_breaks_3 _ (List.mem_of_getElem? (i := 21) rfl)) rfl gk_nil))))))
theorem ggX10_breaks_X2_prepare : GoodIn wsX10_breaks wsX2_prepare := gk_cons (gm_X10_breaks_1 _ (List.mem_of_getElem? (i := 20) rfl)) rfl (goodIn_app (goodIn_app (goodIn_app (goodIn_app (goodIn_app (goodIn_app gk_X10_breaks_X2_prepare_r1 (goodIn_app gk_X10_breaks_X2_prepare_r2 gk_X10_breaks_X2_prepare_r3)) (goodIn_sub gm_X10_breaks_9 ag_wsX20)) (goodIn_sub gm_X10_breaks_10 ag_wsX70)) (goodIn_sub gm_X10_breaks_11 ag_wsX50)) (goodIn_sub gm_X10_breaks_12 ag_wsX90)) (goodIn_sub gm_X10_breaks_13 ag_wsX60))
theorem gX10_breaks_X2_prepare : GoodIn wsX10_breaks (wsV RX10 168 RX2 yX2_prepare wsX2_prepare) := goodIn_app (gk_cons (gm_X10_breaks_1 _ (List.mem_of_getElem? (i := 16) rfl)) rfl (gk_cons (gm_X10_breaks_1 _ (List.mem_of_getElem? (i := 17) rfl)) rfl (gk_cons (gm_X10_breaks_1 _ (List.mem_of_getElem? (i := 18) rfl)) rfl (gk_cons (gm_X10_breaks_1 _ (List.mem_of_getElem? (i := 19) rfl)) rfl gk_nil)))) ggX10_breaks_X2_prepare
theorem gk_X10_breaks_X2_findWorst_r1 : GoodIn wsX10_breaks wsX2_findWorst_r1 := (gk_cons (gm_X10_breaks_4 _ (List.mem_of_getElem? (i := 2) rfl)) rfl (gk_cons (gm_X10_breaks_4 _ (List.mem_of_getElem? (i := 3) rfl)) rfl (gk_cons (gm_X10_breaks_4 _ (List.mem_of_getElem? (i := 4) rfl)) rfl (gk_cons (gm_X10_breaks_1 _ (List.mem_of_getElem? (i := 23) rfl)) rfl (gk_cons (gm_X10_breaks_2 _ (List.mem_of_getElem? (i := 4) rfl)) rfl (gk_cons (gm_X10_breaks_2 _ (List.mem_of_getElem? (i := 5) rfl)) rfl (gk_cons (gm_X10_breaks_2 _ (List.mem_of_getElem? (i := 22) rfl)) rfl (gk_cons (gm_X10_breaks_2 _ (List.mem_of_getElem? (i := 23) rfl)) rfl (gk_cons (gm_X10_breaks_4 _ (List.mem_of_getElem? (i := 5) rfl)) rfl (gk_cons (gm_X10_breaks_4 _ (List.mem_of_getElem? (i := 6) rfl)) rfl (gk_cons (gm_X10_breaks_4 _ (List.mem_of_getElem? (i := 7) rfl)) rfl (gk_cons (gm_X10_breaks_4 _ (List.mem_of_getElem? (i := 8) rfl)) rfl (gk_cons (gm_X10_breaks_4 _ (List.mem_of_getElem? (i := 9) rfl)) rfl (gk_cons (gm_X10_breaks_4 _ (List.mem_of_getElem? (i := 10) rfl)) rfl (gk_cons (gm_X10_breaks_4 _ (List.mem_of_getElem? (i := 11) rfl)) rfl (gk_cons (gm_X10_breaks_4 _ (List.mem_of_getElem? (i := 12) rfl)) rfl (gk_cons (gm_X10_breaks_4 _ (List.mem_of_getElem? (i := 13) rfl)) rfl (gk_cons (gm_X10_breaks_4 _ (List.mem_of_getElem? (i := 14) rfl)) rfl (gk_cons (gm_X10_breaks_4 _ (List.mem_of_getElem? (i := 15) rfl)) rfl (gk_cons (gm_X10_breaks_1 _ (List.mem_of_getElem? (i := 19) rfl)) rfl (gk_cons (gm_X10_breaks_4 _ (List.mem_of_getElem? (i := 16) rfl)) rfl (gk_cons (gm_X10_breaks_4 _ (List.mem_of_getElem? (i := 17) rfl)) rfl (gk_cons (gm_X10_breaks_4 _ (List.mem_of_getElem? (i := 18) rfl)) rfl (gk_cons (gm_X10_breaks_4 _ (List.mem_of_getElem? (i := 19) rfl)) rfl gk_nil))))))))))))))))))))))))
theorem gk_X10_breaks_X2_findWorst_r2 : GoodIn wsX10_breaks wsX2_findWorst_r2 := (gk_cons (gm_X10_breaks_4 _ (List.mem_of_getElem? (i := 20) rfl)) rfl (gk_cons (gm_X10_breaks_4 _ (List.mem_of_getElem? (i := 21) rfl)) rfl (gk_cons (gm_X10_breaks_4 _ (List.mem_of_getElem? (i := 22) rfl)) rfl (gk_cons (gm_X10_breaks_1 _ (List.mem_of_getElem? (i := 22) rfl)) rfl (gk_cons (gm_X10_breaks_4 _ (List.mem_of_getElem? (i := 23) rfl)) rfl (gk_cons (gm_X10_breaks_5 _ (List.mem_of_getElem? (i := 0) rfl)) rfl (gk_cons (gm_X10_breaks_5 _ (List.mem_of_getElem? (i := 1) rfl)) rfl (gk_cons (gm_X10_breaks_5 _ (List.mem_of_getElem? (i := 2) rfl)) rfl (gk_cons (gm_X10_breaks_2 _ (List.mem_of_getElem? (i := 21) rfl)) rfl (gk_cons (gm_X10_breaks_3 _ (List.mem_of_getElem? (i := 0) rfl)) rfl (gk_cons (gm_X10_breaks_3 _ (List.mem_of_getElem? (i := 1) rfl)) rfl (gk_cons (gm_X10_breaks_2 _ (List.mem_of_getElem? (i := 6) rfl)) rfl (gk_cons (gm_X10_breaks_5 _ (List.mem_of_getElem? (i := 3) rfl)) rfl (gk_cons (gm_X10_breaks_3 _ (List.mem_of_getElem? (i := 2) rfl)) rfl (gk_cons (gm_X10_breaks_3 _ (List.mem_of_getElem? (i := 3) rfl)) rfl (gk_cons (gm_X10_breaks_3 _ (List.mem_of_getElem? (i := 4) rfl)) rfl (gk_cons (gm_X10_breaks_3 _ (List.mem_of_getElem? (i := 5) rfl)) rfl (gk_cons (gm_X10_breaks_3 _ (List.mem_of_getElem? (i := 6) rfl)) rfl (gk_cons (gm_X10_breaks_3 _ (List.mem_of_getElem? (i := 7) rfl)) rfl (gk_cons (gm_X10_breaks_3 _ (List.mem_of_getElem? (i := 8) rfl)) rfl (gk_cons (gm_X10_breaks_3 _ (List.mem_of_getElem? (i := 9) rfl)) rfl (gk_cons (gm_X10_breaks_3 _ (List.mem_of_getElem? (i := 10) rfl)) rfl (gk_cons (gm_X10_breaks_3 _ (List.mem_of_getElem? (i := 11) rfl)) rfl (gk_cons (gm_X10_breaks_3 _ (List.mem_of_getElem? (i := 12) rfl)) rfl gk_nil))))))))))))))))))))))))
theorem gk_X10_breaks_X2_findWorst_r3 : GoodIn wsX10_breaks wsX2_findWorst_r3 := (gk_cons (gm_X10_breaks_3 _ (List.mem_of_getElem? (i := 13) rfl)) rfl (gk_cons (gm_X10_breaks_3 _ (List.mem_of_getElem? (i := 14) rfl)) rfl (gk_cons (gm_X10_breaks_5 _ (List.mem_of_getElem? (i := 4) rfl)) rfl (gk_cons (gm_X10_breaks_5 _ (List.mem_of_getElem? (i := 5) rfl)) rfl (gk_cons (gm_X10_breaks_5 _ (List.mem_of_getElem? (i := 6) rfl)) rfl (gk_cons (gm_X10_breaks_5 _ (List.mem_of_getElem? (i := 7) rfl)) rfl (gk_cons (gm_X10_breaks_5 _ (List.mem_of_getElem? (i := 8) rfl)) rfl (gk_cons (gm_X10_breaks_5 _ (List.mem_of_getElem? (i := 9) rfl)) rfl (gk_cons (gm_X10_breaks_5 _ (List.mem_of_getElem? (i := 10) rfl)) rfl (gk_cons (gm_X10_breaks_5 _ (List.mem_of_getElem? (i := 11) rfl)) rfl (gk_cons (gm_X10_breaks_5 _ (List.mem_of_getElem? (i := 12) rfl)) rfl (gk_cons (gm_X10_breaks_5 _ (List.mem_of_getElem? (i := 13) rfl)) rfl (gk_cons (gm_X10_breaks_5 _ (List.mem_of_getElem? (i := 14) rfl)) rfl (gk_cons (gm_X10_breaks_5 _ (List.mem_of_getElem? (i := 15) rfl)) rfl gk_nil))))))))))))))
theorem ggX10_breaks_X2_findWorst : GoodIn wsX10_breaks wsX2_findWorst := gk_cons (gm_X10_breaks_4 _ (List.mem_of_getElem? (i := 1) rfl)) rfl (goodIn_app (goodIn_app (goodIn_app (goodIn_app (goodIn_app (goodIn_app gk_X10_breaks_X2_findWorst_r1 (goodIn_app gk_X10_breaks_X2_findWorst_r2 gk_X10_breaks_X2_findWorst_r3)) (goodIn_sub gm_X10_breaks_9 ag_wsX20)) (goodIn_sub gm_X10_breaks_10 ag_wsX70)) (goodIn_sub gm_X10_breaks_11 ag_wsX50)) (goodIn_sub gm_X10_breaks_12 ag_wsX90)) (goodIn_sub gm_X10_breaks_13 ag_wsX60))
theorem gX10_breaks_X2_findWorst : GoodIn wsX10_breaks (wsV RX10 193 RX2 yX2_findWorst wsX2_findWorst) := goodIn_app (gk_cons (gm_X10_breaks_3 _ (List.mem_of_getElem? (i := 22) rfl)) rfl (gk_cons (gm_X10_breaks_3 _ (List.mem_of_getElem? (i := 23) rfl)) rfl (gk_cons (gm_X10_breaks_4 _ (List.mem_of_getElem? (i := 0) rfl)) rfl (gk_cons (gm_X10_breaks_1 _ (List.mem_of_getElem? (i := 19) rfl)) rfl gk_nil)))) ggX10_breaks_X2_findWorst
theorem ggX10_breaks_X2_worstLimit : GoodIn wsX10_breaks wsX2_worstLimit := gk_cons (gm_X10_breaks_5 _ (List.mem_of_getElem? (i := 19) rfl)) rfl (goodIn_app (gk_cons (gm_X10_breaks_2 _ (List.mem_of_getElem? (i := 6) rfl)) rfl (gk_cons (gm_X10_breaks_1 _ (List.mem_of_getElem? (i := 23) rfl)) rfl (gk_cons (gm_X10_breaks_4 _ (List.mem_of_getElem? (i := 4) rfl)) rfl gk_nil))) (goodIn_sub gm_X10_breaks_9 ag_wsX20))
theorem gX10_breaks_X2_worstLimit : GoodIn wsX10_breaks (wsV RX10 200 RX2 yX2_worstLimit wsX2_worstLimit) := goodIn_app (gk_cons (gm_X10_breaks_5 _ (List.mem_of_getElem? (i := 16) rfl)) rfl (gk_cons (gm_X10_breaks_5 _ (List.mem_of_getElem? (i := 17) rfl)) rfl (gk_cons (gm_X10_breaks_5 _ (List.mem_of_getElem? (i := 18) rfl)) rfl (gk_cons (gm_X10_breaks_1 _ (List.mem_of_getElem? (i := 19) rfl)) rfl gk_nil)))) ggX10_breaks_X2_worstLimit
theorem ggX10_breaks_X3_become : GoodIn wsX10_breaks wsX3_become := gk_cons (gm_X10_breaks_6 _ (List.mem_of_getElem? (i := 0) rfl)) rfl (goodIn_app (gk_cons (gm_X10_breaks_6 _ (List.mem_of_getElem? (i := 1) rfl)) rfl (gk_cons (gm_X10_breaks_4 _ (List.mem_of_getElem? (i := 8) rfl)) rfl (gk_cons (gm_X10_breaks_4 _ (List.mem_of_getElem? (i := 9) rfl)) rfl (gk_cons (gm_X10_breaks_4 _ (List.mem_of_getElem? (i := 10) rfl)) rfl (gk_cons (gm_X10_breaks_6 _ (List.mem_of_getElem? (i := 2) rfl)) rfl (gk_cons (gm_X10_breaks_6 _ (List.mem_of_getElem? (i := 3) rfl)) rfl (gk_cons (gm_X10_breaks_6 _ (List.mem_of_getElem? (i := 4) rfl)) rfl (gk_cons (gm_X10_breaks_6 _ (List.mem_of_getElem? (i := 5) rfl)) rfl (gk_cons (gm_X10_breaks_5 _ (List.mem_of_getElem? (i := 23) rfl)) rfl (gk_cons (gm_X10_breaks_6 _ (List.mem_of_getElem? (i := 6) rfl)) rfl gk_nil)))))))))) (goodIn_sub gm_X10_breaks_14 ag_wsX30))
theorem gX10_breaks_X3_become : GoodIn wsX10_breaks (wsV RX10 207 RX3 yX3_become wsX3_become) := goodIn_app (gk_cons (gm_X10_breaks_5 _ (List.mem_of_getElem? (i := 20) rfl)) rfl (gk_cons (gm_X10_breaks_5 _ (List.mem_of_getElem? (i := 21) rfl)) rfl (gk_cons (gm_X10_breaks_5 _ (List.mem_of_getElem? (i := 22) rfl)) rfl (gk_cons (gm_X10_breaks_5 _ (List.mem_of_getElem? (i := 23) rfl)) rfl gk_nil)))) ggX10_breaks_X3_become
theorem ggX10_breaks_X0_note : GoodIn wsX10_breaks wsX0_note := gk_cons (gm_X10_breaks_6 _ (List.mem_of_getElem? (i := 11) rfl)) rfl (goodIn_app (goodIn_app (gk_cons (gm_X10_breaks_6 _ (List.mem_of_getElem? (i := 12) rfl)) rfl (gk_cons (gm_X10_breaks_6 _ (List.mem_of_getElem? (i := 13) rfl)) rfl (gk_cons (gm_X10_breaks_6 _ (List.mem_of_getElem? (i := 14) rfl)) rfl (gk_cons (gm_X10_breaks_6 _ (List.mem_of_getElem? (i := 15) rfl)) rfl (gk_cons (gm_X10_breaks_6 _ (List.mem_of_getElem? (i := 16) rfl)) rfl (gk_cons (gm_X10_breaks_6 _ (List.mem_of_getElem? (i := 17) rfl)) rfl gk_nil)))))) (goodIn_sub gm_X10_breaks_8 ag_wsX00)) (goodIn_sub gm_X10_breaks_14 ag_wsX30))
theorem gX10_breaks_X0_note : GoodIn wsX10_breaks (wsV RX10 220 RX0 yX0_note wsX0_note) := goodIn_app (gk_cons (gm_X10_breaks_6 _ (List.mem_of_getElem? (i := 7) rfl)) rfl (gk_cons (gm_X10_breaks_6 _ (List.mem_of_getElem? (i := 8) rfl)) rfl (gk_cons (gm_X10_breaks_6 _ (List.mem_of_getElem? (i := 9) rfl)) rfl (gk_cons (gm_X10_breaks_6 _ (List.mem_of_getElem? (i := 10) rfl)) rfl gk_nil)))) ggX10_breaks_X0_note
theorem ggX10_breaks_X7_giveWay : GoodIn wsX10_breaks wsX7_giveWay := gk_cons (gm_X10_breaks_6 _ (List.mem_of_getElem? (i := 21) rfl)) rfl (goodIn_app (goodIn_app (gk_cons (gm_X10_breaks_1 _ (List.mem_of_getElem? (i := 1) rfl)) rfl (gk_cons (gm_X10_breaks_1 _ (List.mem_of_getElem? (i := 2) rfl)) rfl (gk_cons (gm_X10_breaks_1 _ (List.mem_of_getElem? (i := 6) rfl)) rfl gk_nil))) (goodIn_sub gm_X10_breaks_10 ag_wsX70)) (goodIn_sub gm_X10_breaks_11 ag_wsX50))
theorem gX10_breaks_X7_giveWay : GoodIn wsX10_breaks (wsV RX10 224 RX7 yX7_giveWay wsX7_giveWay) := goodIn_app (gk_cons (gm_X10_breaks_6 _ (List.mem_of_getElem? (i := 18) rfl)) rfl (gk_cons (gm_X10_breaks_6 _ (List.mem_of_getElem? (i := 19) rfl)) rfl (gk_cons (gm_X10_breaks_6 _ (List.mem_of_getElem? (i := 20) rfl)) rfl (gk_cons (gm_X10_breaks_0 _ (List.mem_of_getElem? (i := 23) rfl)) rfl gk_nil)))) ggX10_breaks_X7_giveWay
theorem dX10_breaks_0 : decode cX10_breaks 0 = .ok (.aload_n 0, 1) := by decide +kernel
theorem dX10_breaks_1 : decode cX10_breaks 1 = .ok (.iload_n 1, 1) := by decide +kernel
theorem dX10_breaks_2 : decode cX10_breaks 2 = .ok (.invokevirtual 108, 3) := by decide +kernel
theorem dX10_breaks_5 : decode cX10_breaks 5 = .ok (.ifCond .ne 5, 3) := by decide +kernel
theorem dX10_breaks_8 : decode cX10_breaks 8 = .ok (.iconst (-1), 1) := by decide +kernel
theorem dX10_breaks_9 : decode cX10_breaks 9 = .ok (.ireturn, 1) := by decide +kernel
theorem dX10_breaks_10 : decode cX10_breaks 10 = .ok (.iload_n 2, 1) := by decide +kernel
theorem dX10_breaks_11 : decode cX10_breaks 11 = .ok (.iload_n 3, 1) := by decide +kernel
theorem dX10_breaks_12 : decode cX10_breaks 12 = .ok (.iload 4, 2) := by decide +kernel
theorem dX10_breaks_14 : decode cX10_breaks 14 = .ok (.invokestatic 176, 3) := by decide +kernel
theorem dX10_breaks_17 : decode cX10_breaks 17 = .ok (.ifCond .ne 6, 3) := by decide +kernel
theorem dX10_breaks_20 : decode cX10_breaks 20 = .ok (.bipush (-2), 2) := by decide +kernel
theorem dX10_breaks_22 : decode cX10_breaks 22 = .ok (.ireturn, 1) := by decide +kernel
theorem dX10_breaks_23 : decode cX10_breaks 23 = .ok (.aload_n 0, 1) := by decide +kernel
theorem dX10_breaks_24 : decode cX10_breaks 24 = .ok (.getfield 45, 3) := by decide +kernel
theorem dX10_breaks_27 : decode cX10_breaks 27 = .ok (.aload_n 0, 1) := by decide +kernel
theorem dX10_breaks_28 : decode cX10_breaks 28 = .ok (.getfield 19, 3) := by decide +kernel
theorem dX10_breaks_31 : decode cX10_breaks 31 = .ok (.iload_n 1, 1) := by decide +kernel
theorem dX10_breaks_32 : decode cX10_breaks 32 = .ok (.aaload, 1) := by decide +kernel
theorem dX10_breaks_33 : decode cX10_breaks 33 = .ok (.invokevirtual 214, 3) := by decide +kernel
theorem dX10_breaks_36 : decode cX10_breaks 36 = .ok (.aload_n 0, 1) := by decide +kernel
theorem dX10_breaks_37 : decode cX10_breaks 37 = .ok (.getfield 40, 3) := by decide +kernel
theorem dX10_breaks_40 : decode cX10_breaks 40 = .ok (.iconst 0, 1) := by decide +kernel
theorem dX10_breaks_41 : decode cX10_breaks 41 = .ok (.putfield 217, 3) := by decide +kernel
theorem dX10_breaks_44 : decode cX10_breaks 44 = .ok (.iconst 0, 1) := by decide +kernel
theorem dX10_breaks_45 : decode cX10_breaks 45 = .ok (.istore 5, 2) := by decide +kernel
theorem dX10_breaks_47 : decode cX10_breaks 47 = .ok (.iload 5, 2) := by decide +kernel
theorem dX10_breaks_49 : decode cX10_breaks 49 = .ok (.bipush 24, 2) := by decide +kernel
theorem dX10_breaks_51 : decode cX10_breaks 51 = .ok (.if_icmp .ge 102, 3) := by decide +kernel
theorem dX10_breaks_54 : decode cX10_breaks 54 = .ok (.aload_n 0, 1) := by decide +kernel
theorem dX10_breaks_55 : decode cX10_breaks 55 = .ok (.getfield 69, 3) := by decide +kernel
theorem dX10_breaks_58 : decode cX10_breaks 58 = .ok (.aload_n 0, 1) := by decide +kernel
theorem dX10_breaks_59 : decode cX10_breaks 59 = .ok (.getfield 45, 3) := by decide +kernel
theorem dX10_breaks_62 : decode cX10_breaks 62 = .ok (.invokevirtual 168, 3) := by decide +kernel
theorem dX10_breaks_65 : decode cX10_breaks 65 = .ok (.aload_n 0, 1) := by decide +kernel
theorem dX10_breaks_66 : decode cX10_breaks 66 = .ok (.getfield 69, 3) := by decide +kernel
theorem dX10_breaks_69 : decode cX10_breaks 69 = .ok (.aload_n 0, 1) := by decide +kernel
theorem dX10_breaks_70 : decode cX10_breaks 70 = .ok (.getfield 45, 3) := by decide +kernel
theorem dX10_breaks_73 : decode cX10_breaks 73 = .ok (.iload_n 2, 1) := by decide +kernel
theorem dX10_breaks_74 : decode cX10_breaks 74 = .ok (.iload_n 3, 1) := by decide +kernel
theorem dX10_breaks_75 : decode cX10_breaks 75 = .ok (.iload 4, 2) := by decide +kernel
theorem dX10_breaks_77 : decode cX10_breaks 77 = .ok (.invokevirtual 193, 3) := by decide +kernel
theorem dX10_breaks_80 : decode cX10_breaks 80 = .ok (.aload_n 0, 1) := by decide +kernel
theorem dX10_breaks_81 : decode cX10_breaks 81 = .ok (.getfield 69, 3) := by decide +kernel
theorem dX10_breaks_84 : decode cX10_breaks 84 = .ok (.getfield 197, 3) := by decide +kernel
theorem dX10_breaks_87 : decode cX10_breaks 87 = .ok (.iconst (-1), 1) := by decide +kernel
theorem dX10_breaks_88 : decode cX10_breaks 88 = .ok (.if_icmp .ne 6, 3) := by decide +kernel
theorem dX10_breaks_91 : decode cX10_breaks 91 = .ok (.goto 62, 3) := by decide +kernel
theorem dX10_breaks_94 : decode cX10_breaks 94 = .ok (.aload_n 0, 1) := by decide +kernel
theorem dX10_breaks_95 : decode cX10_breaks 95 = .ok (.getfield 52, 3) := by decide +kernel
theorem dX10_breaks_98 : decode cX10_breaks 98 = .ok (.aload_n 0, 1) := by decide +kernel
theorem dX10_breaks_99 : decode cX10_breaks 99 = .ok (.getfield 69, 3) := by decide +kernel
theorem dX10_breaks_102 : decode cX10_breaks 102 = .ok (.invokevirtual 200, 3) := by decide +kernel
theorem dX10_breaks_105 : decode cX10_breaks 105 = .ok (.aload_n 0, 1) := by decide +kernel
theorem dX10_breaks_106 : decode cX10_breaks 106 = .ok (.getfield 69, 3) := by decide +kernel
theorem dX10_breaks_109 : decode cX10_breaks 109 = .ok (.getfield 204, 3) := by decide +kernel
theorem dX10_breaks_112 : decode cX10_breaks 112 = .ok (.invokevirtual 207, 3) := by decide +kernel
theorem dX10_breaks_115 : decode cX10_breaks 115 = .ok (.aload_n 0, 1) := by decide +kernel
theorem dX10_breaks_116 : decode cX10_breaks 116 = .ok (.getfield 40, 3) := by decide +kernel
theorem dX10_breaks_119 : decode cX10_breaks 119 = .ok (.aload_n 0, 1) := by decide +kernel
theorem dX10_breaks_120 : decode cX10_breaks 120 = .ok (.getfield 69, 3) := by decide +kernel
theorem dX10_breaks_123 : decode cX10_breaks 123 = .ok (.getfield 197, 3) := by decide +kernel
theorem dX10_breaks_126 : decode cX10_breaks 126 = .ok (.aload_n 0, 1) := by decide +kernel
theorem dX10_breaks_127 : decode cX10_breaks 127 = .ok (.getfield 52, 3) := by decide +kernel
theorem dX10_breaks_130 : decode cX10_breaks 130 = .ok (.invokevirtual 220, 3) := by decide +kernel
theorem dX10_breaks_133 : decode cX10_breaks 133 = .ok (.aload_n 0, 1) := by decide +kernel
theorem dX10_breaks_134 : decode cX10_breaks 134 = .ok (.getfield 45, 3) := by decide +kernel
theorem dX10_breaks_137 : decode cX10_breaks 137 = .ok (.aload_n 0, 1) := by decide +kernel
theorem dX10_breaks_138 : decode cX10_breaks 138 = .ok (.getfield 69, 3) := by decide +kernel
theorem dX10_breaks_141 : decode cX10_breaks 141 = .ok (.getfield 197, 3) := by decide +kernel
theorem dX10_breaks_144 : decode cX10_breaks 144 = .ok (.invokevirtual 224, 3) := by decide +kernel
theorem dX10_breaks_147 : decode cX10_breaks 147 = .ok (.iinc 5 1, 3) := by decide +kernel
theorem dX10_breaks_150 : decode cX10_breaks 150 = .ok (.goto (-103), 3) := by decide +kernel
theorem dX10_breaks_153 : decode cX10_breaks 153 = .ok (.aload_n 0, 1) := by decide +kernel
theorem dX10_breaks_154 : decode cX10_breaks 154 = .ok (.getfield 40, 3) := by decide +kernel
theorem dX10_breaks_157 : decode cX10_breaks 157 = .ok (.getfield 217, 3) := by decide +kernel
theorem dX10_breaks_160 : decode cX10_breaks 160 = .ok (.ireturn, 1) := by decide +kernel
theorem gm_X10_step_0 : ∀ w ∈ wsX100, w ∈ wsX10_step := fun w h => List.mem_cons_of_mem _ (List.mem_append_left _ (List.mem_append_right _ h))
theorem gm_X10_step_1 : ∀ w ∈ wsX00, w ∈ wsX10_step := fun w h => List.mem_cons_of_mem _ (List.mem_append_right _ h)
theorem ggX10_step_X10_isWithin : GoodIn wsX10_step wsX10_isWithin := gk_cons (List.mem_cons_of_mem _ (List.mem_append_left _ (List.mem_append_left _ (List.mem_of_getElem? (i := 9) rfl)))) rfl gk_nil
theorem gX10_step_X10_isWithin : GoodIn wsX10_step (va_wsS RX10 94 yX10_isWithin wsX10_isWithin) := goodIn_app (gk_cons (List.mem_cons_of_mem _ (List.mem_append_left _ (List.mem_append_left _ (List.mem_of_getElem? (i := 6) rfl)))) rfl (gk_cons (List.mem_cons_of_mem _ (List.mem_append_left _ (List.mem_append_left _ (List.mem_of_getElem? (i := 7) rfl)))) rfl (gk_cons (List.mem_cons_of_mem _ (List.mem_append_left _ (List.mem_append_left _ (List.mem_of_getElem? (i := 8) rfl)))) rfl gk_nil))) ggX10_step_X10_isWithin
theorem dX10_step_0 : decode cX10_step 0 = .ok (.iload_n 1, 1) := by decide +kernel
theorem dX10_step_1 : decode cX10_step 1 = .ok (.iconst 0, 1) := by decide +kernel
theorem dX10_step_2 : decode cX10_step 2 = .ok (.aload_n 0, 1) := by decide +kernel
theorem dX10_step_3 : decode cX10_step 3 = .ok (.getfield 40, 3) := by decide +kernel
theorem dX10_step_6 : decode cX10_step 6 = .ok (.getfield 217, 3) := by decide +kernel
theorem dX10_step_9 : decode cX10_step 9 = .ok (.iconst 1, 1) := by decide +kernel
theorem dX10_step_10 : decode cX10_step 10 = .ok (.isub, 1) := by decide +kernel
theorem dX10_step_11 : decode cX10_step 11 = .ok (.invokestatic 94, 3) := by decide +kernel
theorem dX10_step_14 : decode cX10_step 14 = .ok (.ifCond .ne 7, 3) := by decide +kernel
theorem dX10_step_17 : decode cX10_step 17 = .ok (.ldc2_w 148, 3) := by decide +kernel
theorem dX10_step_20 : decode cX10_step 20 = .ok (.lreturn, 1) := by decide +kernel
theorem dX10_step_21 : decode cX10_step 21 = .ok (.iload_n 2, 1) := by decide +kernel
theorem dX10_step_22 : decode cX10_step 22 = .ok (.tableswitch 57 0 2 #[26, 37, 47], 26) := by decide +kernel
theorem dX10_step_48 : decode cX10_step 48 = .ok (.aload_n 0, 1) := by decide +kernel
theorem dX10_step_49 : decode cX10_step 49 = .ok (.getfield 40, 3) := by decide +kernel
theorem dX10_step_52 : decode cX10_step 52 = .ok (.getfield 228, 3) := by decide +kernel
theorem dX10_step_55 : decode cX10_step 55 = .ok (.iload_n 1, 1) := by decide +kernel
theorem dX10_step_56 : decode cX10_step 56 = .ok (.iaload, 1) := by decide +kernel
theorem dX10_step_57 : decode cX10_step 57 = .ok (.i2l, 1) := by decide +kernel
theorem dX10_step_58 : decode cX10_step 58 = .ok (.lreturn, 1) := by decide +kernel
theorem dX10_step_59 : decode cX10_step 59 = .ok (.aload_n 0, 1) := by decide +kernel
theorem dX10_step_60 : decode cX10_step 60 = .ok (.getfield 40, 3) := by decide +kernel
theorem dX10_step_63 : decode cX10_step 63 = .ok (.getfield 231, 3) := by decide +kernel
theorem dX10_step_66 : decode cX10_step 66 = .ok (.iload_n 1, 1) := by decide +kernel
theorem dX10_step_67 : decode cX10_step 67 = .ok (.laload, 1) := by decide +kernel
theorem dX10_step_68 : decode cX10_step 68 = .ok (.lreturn, 1) := by decide +kernel
theorem dX10_step_69 : decode cX10_step 69 = .ok (.aload_n 0, 1) := by decide +kernel
theorem dX10_step_70 : decode cX10_step 70 = .ok (.getfield 40, 3) := by decide +kernel
theorem dX10_step_73 : decode cX10_step 73 = .ok (.getfield 234, 3) := by decide +kernel
theorem dX10_step_76 : decode cX10_step 76 = .ok (.iload_n 1, 1) := by decide +kernel
theorem dX10_step_77 : decode cX10_step 77 = .ok (.laload, 1) := by decide +kernel
theorem dX10_step_78 : decode cX10_step 78 = .ok (.lreturn, 1) := by decide +kernel
theorem dX10_step_79 : decode cX10_step 79 = .ok (.ldc2_w 148, 3) := by decide +kernel
theorem dX10_step_82 : decode cX10_step 82 = .ok (.lreturn, 1) := by decide +kernel
theorem gm_X10_last_0 : ∀ w ∈ wsX100, w ∈ wsX10_last := fun w h => List.mem_cons_of_mem _ (List.mem_append_left _ (List.mem_append_right _ h))
theorem gm_X10_last_1 : ∀ w ∈ wsX00, w ∈ wsX10_last := fun w h => List.mem_cons_of_mem _ (List.mem_append_right _ h)
theorem ggX10_last_X0_greatest : GoodIn wsX10_last wsX0_greatest := gk_cons (List.mem_cons_of_mem _ (List.mem_append_left _ (List.mem_append_left _ (List.mem_of_getElem? (i := 5) rfl)))) rfl (goodIn_app (gk_cons (List.mem_cons_of_mem _ (List.mem_append_left _ (List.mem_append_left _ (List.mem_of_getElem? (i := 6) rfl)))) rfl (gk_cons (List.mem_cons_of_mem _ (List.mem_append_left _ (List.mem_append_left _ (List.mem_of_getElem? (i := 7) rfl)))) rfl (gk_cons (List.mem_cons_of_mem _ (List.mem_append_left _ (List.mem_append_left _ (List.mem_of_getElem? (i := 8) rfl)))) rfl (gk_cons (List.mem_cons_of_mem _ (List.mem_append_left _ (List.mem_append_left _ (List.mem_of_getElem? (i := 9) rfl)))) rfl (gk_cons (List.mem_cons_of_mem _ (List.mem_append_left _ (List.mem_append_left _ (List.mem_of_getElem? (i := 10) rfl)))) rfl (gk_cons (List.mem_cons_of_mem _ (List.mem_append_left _ (List.mem_append_left _ (List.mem_of_getElem? (i := 11) rfl)))) rfl (gk_cons (List.mem_cons_of_mem _ (List.mem_append_left _ (List.mem_append_left _ (List.mem_of_getElem? (i := 12) rfl)))) rfl gk_nil))))))) (goodIn_sub gm_X10_last_1 ag_wsX00))
theorem gX10_last_X0_greatest : GoodIn wsX10_last (wsV RX10 236 RX0 yX0_greatest wsX0_greatest) := goodIn_app (gk_cons (List.mem_cons_of_mem _ (List.mem_append_left _ (List.mem_append_left _ (List.mem_of_getElem? (i := 1) rfl)))) rfl (gk_cons (List.mem_cons_of_mem _ (List.mem_append_left _ (List.mem_append_left _ (List.mem_of_getElem? (i := 2) rfl)))) rfl (gk_cons (List.mem_cons_of_mem _ (List.mem_append_left _ (List.mem_append_left _ (List.mem_of_getElem? (i := 3) rfl)))) rfl (gk_cons (List.mem_cons_of_mem _ (List.mem_append_left _ (List.mem_append_left _ (List.mem_of_getElem? (i := 4) rfl)))) rfl gk_nil)))) ggX10_last_X0_greatest
theorem dX10_last_0 : decode cX10_last 0 = .ok (.aload_n 0, 1) := by decide +kernel
theorem dX10_last_1 : decode cX10_last 1 = .ok (.getfield 40, 3) := by decide +kernel
theorem dX10_last_4 : decode cX10_last 4 = .ok (.invokevirtual 236, 3) := by decide +kernel
theorem dX10_last_7 : decode cX10_last 7 = .ok (.ireturn, 1) := by decide +kernel
theorem gm_X10_rules_0 : ∀ w ∈ wsX100, w ∈ wsX10_rules := fun w h => List.mem_cons_of_mem _ (List.mem_append_left _ (List.mem_append_right _ h))
theorem gm_X10_rules_1 : ∀ w ∈ wsX40, w ∈ wsX10_rules := fun w h => List.mem_cons_of_mem _ (List.mem_append_right _ h)
theorem ggX10_rules_X10_isWithin : GoodIn wsX10_rules wsX10_isWithin := gk_cons (List.mem_cons_of_mem _ (List.mem_append_left _ (List.mem_append_left _ (List.mem_of_getElem? (i := 7) rfl)))) rfl gk_nil
theorem gX10_rules_X10_isWithin : GoodIn wsX10_rules (va_wsS RX10 94 yX10_isWithin wsX10_isWithin) := goodIn_app (gk_cons (List.mem_cons_of_mem _ (List.mem_append_left _ (List.mem_append_left _ (List.mem_of_getElem? (i := 4) rfl)))) rfl (gk_cons (List.mem_cons_of_mem _ (List.mem_append_left _ (List.mem_append_left _ (List.mem_of_getElem? (i := 5) rfl)))) rfl (gk_cons (List.mem_cons_of_mem _ (List.mem_append_left _ (List.mem_append_left _ (List.mem_of_getElem? (i := 6) rfl)))) rfl gk_nil))) ggX10_rules_X10_isWithin
theorem dX10_rules_0 : decode cX10_rules 0 = .ok (.iload_n 1, 1) := by decide +kernel
theorem dX10_rules_1 : decode cX10_rules 1 = .ok (.iconst 1, 1) := by decide +kernel
theorem dX10_rules_2 : decode cX10_rules 2 = .ok (.bipush 12, 2) := by decide +kernel
theorem dX10_rules_4 : decode cX10_rules 4 = .ok (.invokestatic 94, 3) := by decide +kernel
theorem dX10_rules_7 : decode cX10_rules 7 = .ok (.ifCond .eq 12, 3) := by decide +kernel
theorem dX10_rules_10 : decode cX10_rules 10 = .ok (.iload_n 3, 1) := by decide +kernel
theorem dX10_rules_11 : decode cX10_rules 11 = .ok (.iconst 0, 1) := by decide +kernel
theorem dX10_rules_12 : decode cX10_rules 12 = .ok (.iconst 3, 1) := by decide +kernel
theorem dX10_rules_13 : decode cX10_rules 13 = .ok (.invokestatic 94, 3) := by decide +kernel
theorem dX10_rules_16 : decode cX10_rules 16 = .ok (.ifCond .ne 6, 3) := by decide +kernel
theorem dX10_rules_19 : decode cX10_rules 19 = .ok (.bipush (-2), 2) := by decide +kernel
theorem dX10_rules_21 : decode cX10_rules 21 = .ok (.ireturn, 1) := by decide +kernel
theorem dX10_rules_22 : decode cX10_rules 22 = .ok (.aload_n 0, 1) := by decide +kernel
theorem dX10_rules_23 : decode cX10_rules 23 = .ok (.getfield 33, 3) := by decide +kernel
theorem dX10_rules_26 : decode cX10_rules 26 = .ok (.iload_n 1, 1) := by decide +kernel
theorem dX10_rules_27 : decode cX10_rules 27 = .ok (.putfield 240, 3) := by decide +kernel
theorem dX10_rules_30 : decode cX10_rules 30 = .ok (.aload_n 0, 1) := by decide +kernel
theorem dX10_rules_31 : decode cX10_rules 31 = .ok (.getfield 33, 3) := by decide +kernel
theorem dX10_rules_34 : decode cX10_rules 34 = .ok (.iload_n 2, 1) := by decide +kernel
theorem dX10_rules_35 : decode cX10_rules 35 = .ok (.iconst 1, 1) := by decide +kernel
theorem dX10_rules_36 : decode cX10_rules 36 = .ok (.if_icmp .ne 7, 3) := by decide +kernel
theorem dX10_rules_39 : decode cX10_rules 39 = .ok (.iconst 1, 1) := by decide +kernel
theorem dX10_rules_40 : decode cX10_rules 40 = .ok (.goto 4, 3) := by decide +kernel
theorem dX10_rules_43 : decode cX10_rules 43 = .ok (.iconst 0, 1) := by decide +kernel
theorem dX10_rules_44 : decode cX10_rules 44 = .ok (.putfield 243, 3) := by decide +kernel
theorem dX10_rules_47 : decode cX10_rules 47 = .ok (.aload_n 0, 1) := by decide +kernel
theorem dX10_rules_48 : decode cX10_rules 48 = .ok (.getfield 33, 3) := by decide +kernel
theorem dX10_rules_51 : decode cX10_rules 51 = .ok (.iload_n 3, 1) := by decide +kernel
theorem dX10_rules_52 : decode cX10_rules 52 = .ok (.putfield 247, 3) := by decide +kernel
theorem dX10_rules_55 : decode cX10_rules 55 = .ok (.iconst 0, 1) := by decide +kernel
theorem dX10_rules_56 : decode cX10_rules 56 = .ok (.ireturn, 1) := by decide +kernel
theorem gm_X10_rule_0 : ∀ w ∈ wsX10_rule_r1, w ∈ wsX10_rule := fun w h => List.mem_cons_of_mem _ (List.mem_append_left _ (List.mem_append_left _ (List.mem_append_left _ (List.mem_append_left _ (List.mem_append_left _ h)))))
theorem gm_X10_rule_1 : ∀ w ∈ wsX10_rule_r2, w ∈ wsX10_rule := fun w h => List.mem_cons_of_mem _ (List.mem_append_left _ (List.mem_append_left _ (List.mem_append_left _ (List.mem_append_left _ (List.mem_append_right _ h)))))
theorem gm_X10_rule_2 : ∀ w ∈ wsX100, w ∈ wsX10_rule := fun w h => List.mem_cons_of_mem _ (List.mem_append_left _ (List.mem_append_left _ (List.mem_append_left _ (List.mem_append_right _ h))))
theorem gm_X10_rule_3 : ∀ w ∈ wsX40, w ∈ wsX10_rule := fun w h => List.mem_cons_of_mem _ (List.mem_append_left _ (List.mem_append_left _ (List.mem_append_right _ h)))
theorem gm_X10_rule_4 : ∀ w ∈ wsX70, w ∈ wsX10_rule := fun w h => List.mem_cons_of_mem _ (List.mem_append_left _ (List.mem_append_right _ h))
theorem gm_X10_rule_5 : ∀ w ∈ wsX50, w ∈ wsX10_rule := fun w h => List.mem_cons_of_mem _ (List.mem_append_right _ h)
theorem ggX10_rule_X10_isPlate : GoodIn wsX10_rule wsX10_isPlate := gk_cons (gm_X10_rule_0 _ (List.mem_of_getElem? (i := 6) rfl)) rfl (goodIn_app (gk_cons (gm_X10_rule_0 _ (List.mem_of_getElem? (i := 7) rfl)) rfl (gk_cons (gm_X10_rule_0 _ (List.mem_of_getElem? (i := 8) rfl)) rfl (gk_cons (gm_X10_rule_0 _ (List.mem_of_getElem? (i := 9) rfl)) rfl (gk_cons (gm_X10_rule_0 _ (List.mem_of_getElem? (i := 5) rfl)) rfl (gk_cons (gm_X10_rule_0 _ (List.mem_of_getElem? (i := 10) rfl)) rfl gk_nil))))) (goodIn_sub gm_X10_rule_2 ag_wsX100))
theorem gX10_rule_X10_isPlate : GoodIn wsX10_rule (wsV RX10 108 RX10 yX10_isPlate wsX10_isPlate) := goodIn_app (gk_cons (gm_X10_rule_0 _ (List.mem_of_getElem? (i := 2) rfl)) rfl (gk_cons (gm_X10_rule_0 _ (List.mem_of_getElem? (i := 3) rfl)) rfl (gk_cons (gm_X10_rule_0 _ (List.mem_of_getElem? (i := 4) rfl)) rfl (gk_cons (gm_X10_rule_0 _ (List.mem_of_getElem? (i := 5) rfl)) rfl gk_nil)))) ggX10_rule_X10_isPlate
theorem ggX10_rule_X4_firstUnkept : GoodIn wsX10_rule wsX4_firstUnkept := gk_cons (gm_X10_rule_0 _ (List.mem_of_getElem? (i := 15) rfl)) rfl (goodIn_app (goodIn_app (goodIn_app (gk_cons (gm_X10_rule_0 _ (List.mem_of_getElem? (i := 16) rfl)) rfl (gk_cons (gm_X10_rule_0 _ (List.mem_of_getElem? (i := 17) rfl)) rfl (gk_cons (gm_X10_rule_0 _ (List.mem_of_getElem? (i := 18) rfl)) rfl (gk_cons (gm_X10_rule_0 _ (List.mem_of_getElem? (i := 19) rfl)) rfl (gk_cons (gm_X10_rule_0 _ (List.mem_of_getElem? (i := 14) rfl)) rfl (gk_cons (gm_X10_rule_0 _ (List.mem_of_getElem? (i := 20) rfl)) rfl (gk_cons (gm_X10_rule_0 _ (List.mem_of_getElem? (i := 21) rfl)) rfl (gk_cons (gm_X10_rule_0 _ (List.mem_of_getElem? (i := 22) rfl)) rfl (gk_cons (gm_X10_rule_0 _ (List.mem_of_getElem? (i := 23) rfl)) rfl (gk_cons (gm_X10_rule_1 _ (List.mem_of_getElem? (i := 0) rfl)) rfl (gk_cons (gm_X10_rule_1 _ (List.mem_of_getElem? (i := 1) rfl)) rfl (gk_cons (gm_X10_rule_1 _ (List.mem_of_getElem? (i := 2) rfl)) rfl (gk_cons (gm_X10_rule_1 _ (List.mem_of_getElem? (i := 3) rfl)) rfl (gk_cons (gm_X10_rule_1 _ (List.mem_of_getElem? (i := 4) rfl)) rfl (gk_cons (gm_X10_rule_1 _ (List.mem_of_getElem? (i := 5) rfl)) rfl (gk_cons (gm_X10_rule_1 _ (List.mem_of_getElem? (i := 6) rfl)) rfl (gk_cons (gm_X10_rule_1 _ (List.mem_of_getElem? (i := 7) rfl)) rfl (gk_cons (gm_X10_rule_1 _ (List.mem_of_getElem? (i := 8) rfl)) rfl (gk_cons (gm_X10_rule_1 _ (List.mem_of_getElem? (i := 9) rfl)) rfl gk_nil))))))))))))))))))) (goodIn_sub gm_X10_rule_3 ag_wsX40)) (goodIn_sub gm_X10_rule_4 ag_wsX70)) (goodIn_sub gm_X10_rule_5 ag_wsX50))
theorem gX10_rule_X4_firstUnkept : GoodIn wsX10_rule (wsV RX10 250 RX4 yX4_firstUnkept wsX4_firstUnkept) := goodIn_app (gk_cons (gm_X10_rule_0 _ (List.mem_of_getElem? (i := 11) rfl)) rfl (gk_cons (gm_X10_rule_0 _ (List.mem_of_getElem? (i := 12) rfl)) rfl (gk_cons (gm_X10_rule_0 _ (List.mem_of_getElem? (i := 13) rfl)) rfl (gk_cons (gm_X10_rule_0 _ (List.mem_of_getElem? (i := 14) rfl)) rfl gk_nil)))) ggX10_rule_X4_firstUnkept
theorem dX10_rule_0 : decode cX10_rule 0 = .ok (.aload_n 0, 1) := by decide +kernel
theorem dX10_rule_1 : decode cX10_rule 1 = .ok (.iload_n 1, 1) := by decide +kernel
theorem dX10_rule_2 : decode cX10_rule 2 = .ok (.invokevirtual 108, 3) := by decide +kernel
theorem dX10_rule_5 : decode cX10_rule 5 = .ok (.ifCond .eq 19, 3) := by decide +kernel
theorem dX10_rule_8 : decode cX10_rule 8 = .ok (.aload_n 0, 1) := by decide +kernel
theorem dX10_rule_9 : decode cX10_rule 9 = .ok (.getfield 33, 3) := by decide +kernel
theorem dX10_rule_12 : decode cX10_rule 12 = .ok (.aload_n 0, 1) := by decide +kernel
theorem dX10_rule_13 : decode cX10_rule 13 = .ok (.getfield 19, 3) := by decide +kernel
theorem dX10_rule_16 : decode cX10_rule 16 = .ok (.iload_n 1, 1) := by decide +kernel
theorem dX10_rule_17 : decode cX10_rule 17 = .ok (.aaload, 1) := by decide +kernel
theorem dX10_rule_18 : decode cX10_rule 18 = .ok (.invokevirtual 250, 3) := by decide +kernel
theorem dX10_rule_21 : decode cX10_rule 21 = .ok (.goto 4, 3) := by decide +kernel
theorem dX10_rule_24 : decode cX10_rule 24 = .ok (.iconst (-1), 1) := by decide +kernel
theorem dX10_rule_25 : decode cX10_rule 25 = .ok (.ireturn, 1) := by decide +kernel
theorem gm_X10_load_0 : ∀ w ∈ wsX100, w ∈ wsX10_load := fun w h => List.mem_cons_of_mem _ (List.mem_append_left _ (List.mem_append_right _ h))
theorem gm_X10_load_1 : ∀ w ∈ wsX10, w ∈ wsX10_load := fun w h => List.mem_cons_of_mem _ (List.mem_append_right _ h)
theorem ggX10_load_X10_isLoad : GoodIn wsX10_load wsX10_isLoad := gk_cons (List.mem_cons_of_mem _ (List.mem_append_left _ (List.mem_append_left _ (List.mem_of_getElem? (i := 5) rfl)))) rfl (gk_cons (List.mem_cons_of_mem _ (List.mem_append_left _ (List.mem_append_left _ (List.mem_of_getElem? (i := 6) rfl)))) rfl (gk_cons (List.mem_cons_of_mem _ (List.mem_append_left _ (List.mem_append_left _ (List.mem_of_getElem? (i := 7) rfl)))) rfl (gk_cons (List.mem_cons_of_mem _ (List.mem_append_left _ (List.mem_append_left _ (List.mem_of_getElem? (i := 4) rfl)))) rfl (gk_cons (List.mem_cons_of_mem _ (List.mem_append_left _ (List.mem_append_left _ (List.mem_of_getElem? (i := 8) rfl)))) rfl gk_nil))))
theorem gX10_load_X10_isLoad : GoodIn wsX10_load (va_wsS RX10 176 yX10_isLoad wsX10_isLoad) := goodIn_app (gk_cons (List.mem_cons_of_mem _ (List.mem_append_left _ (List.mem_append_left _ (List.mem_of_getElem? (i := 2) rfl)))) rfl (gk_cons (List.mem_cons_of_mem _ (List.mem_append_left _ (List.mem_append_left _ (List.mem_of_getElem? (i := 3) rfl)))) rfl (gk_cons (List.mem_cons_of_mem _ (List.mem_append_left _ (List.mem_append_left _ (List.mem_of_getElem? (i := 4) rfl)))) rfl gk_nil))) ggX10_load_X10_isLoad
theorem ggX10_load_X1_put : GoodIn wsX10_load wsX1_put := gk_cons (List.mem_cons_of_mem _ (List.mem_append_left _ (List.mem_append_left _ (List.mem_of_getElem? (i := 13) rfl)))) rfl (goodIn_app (gk_cons (List.mem_cons_of_mem _ (List.mem_append_left _ (List.mem_append_left _ (List.mem_of_getElem? (i := 14) rfl)))) rfl (gk_cons (List.mem_cons_of_mem _ (List.mem_append_left _ (List.mem_append_left _ (List.mem_of_getElem? (i := 15) rfl)))) rfl gk_nil)) (goodIn_sub gm_X10_load_1 ag_wsX10))
theorem gX10_load_X1_put : GoodIn wsX10_load (wsV RX10 255 RX1 yX1_put wsX1_put) := goodIn_app (gk_cons (List.mem_cons_of_mem _ (List.mem_append_left _ (List.mem_append_left _ (List.mem_of_getElem? (i := 9) rfl)))) rfl (gk_cons (List.mem_cons_of_mem _ (List.mem_append_left _ (List.mem_append_left _ (List.mem_of_getElem? (i := 10) rfl)))) rfl (gk_cons (List.mem_cons_of_mem _ (List.mem_append_left _ (List.mem_append_left _ (List.mem_of_getElem? (i := 11) rfl)))) rfl (gk_cons (List.mem_cons_of_mem _ (List.mem_append_left _ (List.mem_append_left _ (List.mem_of_getElem? (i := 12) rfl)))) rfl gk_nil)))) ggX10_load_X1_put
theorem dX10_load_0 : decode cX10_load 0 = .ok (.iload_n 1, 1) := by decide +kernel
theorem dX10_load_1 : decode cX10_load 1 = .ok (.iload_n 2, 1) := by decide +kernel
theorem dX10_load_2 : decode cX10_load 2 = .ok (.iload_n 3, 1) := by decide +kernel
theorem dX10_load_3 : decode cX10_load 3 = .ok (.invokestatic 176, 3) := by decide +kernel
theorem dX10_load_6 : decode cX10_load 6 = .ok (.ifCond .ne 6, 3) := by decide +kernel
theorem dX10_load_9 : decode cX10_load 9 = .ok (.bipush (-2), 2) := by decide +kernel
theorem dX10_load_11 : decode cX10_load 11 = .ok (.ireturn, 1) := by decide +kernel
theorem dX10_load_12 : decode cX10_load 12 = .ok (.aload_n 0, 1) := by decide +kernel
theorem dX10_load_13 : decode cX10_load 13 = .ok (.getfield 26, 3) := by decide +kernel
theorem dX10_load_16 : decode cX10_load 16 = .ok (.getfield 254, 3) := by decide +kernel
theorem dX10_load_19 : decode cX10_load 19 = .ok (.iconst 4, 1) := by decide +kernel
theorem dX10_load_20 : decode cX10_load 20 = .ok (.if_icmp .lt 6, 3) := by decide +kernel
theorem dX10_load_23 : decode cX10_load 23 = .ok (.bipush (-4), 2) := by decide +kernel
theorem dX10_load_25 : decode cX10_load 25 = .ok (.ireturn, 1) := by decide +kernel
theorem dX10_load_26 : decode cX10_load 26 = .ok (.aload_n 0, 1) := by decide +kernel
theorem dX10_load_27 : decode cX10_load 27 = .ok (.getfield 26, 3) := by decide +kernel
theorem dX10_load_30 : decode cX10_load 30 = .ok (.iload_n 1, 1) := by decide +kernel
theorem dX10_load_31 : decode cX10_load 31 = .ok (.iload_n 2, 1) := by decide +kernel
theorem dX10_load_32 : decode cX10_load 32 = .ok (.iload_n 3, 1) := by decide +kernel
theorem dX10_load_33 : decode cX10_load 33 = .ok (.invokevirtual 255, 3) := by decide +kernel
theorem dX10_load_36 : decode cX10_load 36 = .ok (.aload_n 0, 1) := by decide +kernel
theorem dX10_load_37 : decode cX10_load 37 = .ok (.getfield 26, 3) := by decide +kernel
theorem dX10_load_40 : decode cX10_load 40 = .ok (.getfield 254, 3) := by decide +kernel
theorem dX10_load_43 : decode cX10_load 43 = .ok (.iconst 1, 1) := by decide +kernel
theorem dX10_load_44 : decode cX10_load 44 = .ok (.isub, 1) := by decide +kernel
theorem dX10_load_45 : decode cX10_load 45 = .ok (.ireturn, 1) := by decide +kernel
theorem dX10_unload_0 : decode cX10_unload 0 = .ok (.aload_n 0, 1) := by decide +kernel
theorem dX10_unload_1 : decode cX10_unload 1 = .ok (.getfield 26, 3) := by decide +kernel
theorem dX10_unload_4 : decode cX10_unload 4 = .ok (.getfield 254, 3) := by decide +kernel
theorem dX10_unload_7 : decode cX10_unload 7 = .ok (.istore_n 1, 1) := by decide +kernel
theorem dX10_unload_8 : decode cX10_unload 8 = .ok (.aload_n 0, 1) := by decide +kernel
theorem dX10_unload_9 : decode cX10_unload 9 = .ok (.getfield 26, 3) := by decide +kernel
theorem dX10_unload_12 : decode cX10_unload 12 = .ok (.iconst 0, 1) := by decide +kernel
theorem dX10_unload_13 : decode cX10_unload 13 = .ok (.putfield 254, 3) := by decide +kernel
theorem dX10_unload_16 : decode cX10_unload 16 = .ok (.iload_n 1, 1) := by decide +kernel
theorem dX10_unload_17 : decode cX10_unload 17 = .ok (.ireturn, 1) := by decide +kernel
theorem gm_X10_fewest_0 : ∀ w ∈ wsX10_fewest_r1, w ∈ wsX10_fewest := fun w h => List.mem_cons_of_mem _ (List.mem_append_left _ (List.mem_append_left _ (List.mem_append_left _ (List.mem_append_left _ (List.mem_append_left _ (List.mem_append_left _ (List.mem_append_left _ (List.mem_append_left _ (List.mem_append_left _ (List.mem_append_left _ h))))))))))
theorem gm_X10_fewest_1 : ∀ w ∈ wsX10_fewest_r2, w ∈ wsX10_fewest := fun w h => List.mem_cons_of_mem _ (List.mem_append_left _ (List.mem_append_left _ (List.mem_append_left _ (List.mem_append_left _ (List.mem_append_left _ (List.mem_append_left _ (List.mem_append_left _ (List.mem_append_left _ (List.mem_append_left _ (List.mem_append_right _ (List.mem_append_left _ h)))))))))))
theorem gm_X10_fewest_2 : ∀ w ∈ wsX10_fewest_r3, w ∈ wsX10_fewest := fun w h => List.mem_cons_of_mem _ (List.mem_append_left _ (List.mem_append_left _ (List.mem_append_left _ (List.mem_append_left _ (List.mem_append_left _ (List.mem_append_left _ (List.mem_append_left _ (List.mem_append_left _ (List.mem_append_left _ (List.mem_append_right _ (List.mem_append_right _ (List.mem_append_left _ h))))))))))))
theorem gm_X10_fewest_3 : ∀ w ∈ wsX10_fewest_r4, w ∈ wsX10_fewest := fun w h => List.mem_cons_of_mem _ (List.mem_append_left _ (List.mem_append_left _ (List.mem_append_left _ (List.mem_append_left _ (List.mem_append_left _ (List.mem_append_left _ (List.mem_append_left _ (List.mem_append_left _ (List.mem_append_left _ (List.mem_append_right _ (List.mem_append_right _ (List.mem_append_right _ (List.mem_append_left _ h)))))))))))))
theorem gm_X10_fewest_4 : ∀ w ∈ wsX10_fewest_r5, w ∈ wsX10_fewest := fun w h => List.mem_cons_of_mem _ (List.mem_append_left _ (List.mem_append_left _ (List.mem_append_left _ (List.mem_append_left _ (List.mem_append_left _ (List.mem_append_left _ (List.mem_append_left _ (List.mem_append_left _ (List.mem_append_left _ (List.mem_append_right _ (List.mem_append_right _ (List.mem_append_right _ (List.mem_append_right _ (List.mem_append_left _ h))))))))))))))
theorem gm_X10_fewest_5 : ∀ w ∈ wsX10_fewest_r6, w ∈ wsX10_fewest := fun w h => List.mem_cons_of_mem _ (List.mem_append_left _ (List.mem_append_left _ (List.mem_append_left _ (List.mem_append_left _ (List.mem_append_left _ (List.mem_append_left _ (List.mem_append_left _ (List.mem_append_left _ (List.mem_append_left _ (List.mem_append_right _ (List.mem_append_right _ (List.mem_append_right _ (List.mem_append_right _ (List.mem_append_right _ (List.mem_append_left _ h)))))))))))))))
theorem gm_X10_fewest_6 : ∀ w ∈ wsX10_fewest_r7, w ∈ wsX10_fewest := fun w h => List.mem_cons_of_mem _ (List.mem_append_left _ (List.mem_append_left _ (List.mem_append_left _ (List.mem_append_left _ (List.mem_append_left _ (List.mem_append_left _ (List.mem_append_left _ (List.mem_append_left _ (List.mem_append_left _ (List.mem_append_right _ (List.mem_append_right _ (List.mem_append_right _ (List.mem_append_right _ (List.mem_append_right _ (List.mem_append_right _ (List.mem_append_left _ h))))))))))))))))
theorem gm_X10_fewest_7 : ∀ w ∈ wsX10_fewest_r8, w ∈ wsX10_fewest := fun w h => List.mem_cons_of_mem _ (List.mem_append_left _ (List.mem_append_left _ (List.mem_append_left _ (List.mem_append_left _ (List.mem_append_left _ (List.mem_append_left _ (List.mem_append_left _ (List.mem_append_left _ (List.mem_append_left _ (List.mem_append_right _ (List.mem_append_right _ (List.mem_append_right _ (List.mem_append_right _ (List.mem_append_right _ (List.mem_append_right _ (List.mem_append_right _ (List.mem_append_left _ h)))))))))))))))))
theorem gm_X10_fewest_8 : ∀ w ∈ wsX10_fewest_r9, w ∈ wsX10_fewest := fun w h => List.mem_cons_of_mem _ (List.mem_append_left _ (List.mem_append_left _ (List.mem_append_left _ (List.mem_append_left _ (List.mem_append_left _ (List.mem_append_left _ (List.mem_append_left _ (List.mem_append_left _ (List.mem_append_left _ (List.mem_append_right _ (List.mem_append_right _ (List.mem_append_right _ (List.mem_append_right _ (List.mem_append_right _ (List.mem_append_right _ (List.mem_append_right _ (List.mem_append_right _ h)))))))))))))))))
theorem gm_X10_fewest_9 : ∀ w ∈ wsX100, w ∈ wsX10_fewest := fun w h => List.mem_cons_of_mem _ (List.mem_append_left _ (List.mem_append_left _ (List.mem_append_left _ (List.mem_append_left _ (List.mem_append_left _ (List.mem_append_left _ (List.mem_append_left _ (List.mem_append_left _ (List.mem_append_right _ h)))))))))
theorem gm_X10_fewest_10 : ∀ w ∈ wsX80, w ∈ wsX10_fewest := fun w h => List.mem_cons_of_mem _ (List.mem_append_left _ (List.mem_append_left _ (List.mem_append_left _ (List.mem_append_left _ (List.mem_append_left _ (List.mem_append_left _ (List.mem_append_left _ (List.mem_append_right _ h))))))))
theorem gm_X10_fewest_11 : ∀ w ∈ wsX70, w ∈ wsX10_fewest := fun w h => List.mem_cons_of_mem _ (List.mem_append_left _ (List.mem_append_left _ (List.mem_append_left _ (List.mem_append_left _ (List.mem_append_left _ (List.mem_append_left _ (List.mem_append_right _ h)))))))
theorem gm_X10_fewest_12 : ∀ w ∈ wsX10, w ∈ wsX10_fewest := fun w h => List.mem_cons_of_mem _ (List.mem_append_left _ (List.mem_append_left _ (List.mem_append_left _ (List.mem_append_left _ (List.mem_append_left _ (List.mem_append_right _ h))))))
theorem gm_X10_fewest_13 : ∀ w ∈ wsX50, w ∈ wsX10_fewest := fun w h => List.mem_cons_of_mem _ (List.mem_append_left _ (List.mem_append_left _ (List.mem_append_left _ (List.mem_append_left _ (List.mem_append_right _ h)))))
theorem gm_X10_fewest_14 : ∀ w ∈ wsX20, w ∈ wsX10_fewest := fun w h => List.mem_cons_of_mem _ (List.mem_append_left _ (List.mem_append_left _ (List.mem_append_left _ (List.mem_append_right _ h))))
theorem gm_X10_fewest_15 : ∀ w ∈ wsX90, w ∈ wsX10_fewest := fun w h => List.mem_cons_of_mem _ (List.mem_append_left _ (List.mem_append_left _ (List.mem_append_right _ h)))
theorem gm_X10_fewest_16 : ∀ w ∈ wsX60, w ∈ wsX10_fewest := fun w h => List.mem_cons_of_mem _ (List.mem_append_left _ (List.mem_append_right _ h))
theorem gm_X10_fewest_17 : ∀ w ∈ wsX40, w ∈ wsX10_fewest := fun w h => List.mem_cons_of_mem _ (List.mem_append_right _ h)
theorem ggX10_fewest_X10_isPlate : GoodIn wsX10_fewest wsX10_isPlate := gk_cons (gm_X10_fewest_0 _ (List.mem_of_getElem? (i := 8) rfl)) rfl (goodIn_app (gk_cons (gm_X10_fewest_0 _ (List.mem_of_getElem? (i := 9) rfl)) rfl (gk_cons (gm_X10_fewest_0 _ (List.mem_of_getElem? (i := 10) rfl)) rfl (gk_cons (gm_X10_fewest_0 _ (List.mem_of_getElem? (i := 11) rfl)) rfl (gk_cons (gm_X10_fewest_0 _ (List.mem_of_getElem? (i := 7) rfl)) rfl (gk_cons (gm_X10_fewest_0 _ (List.mem_of_getElem? (i := 12) rfl)) rfl gk_nil))))) (goodIn_sub gm_X10_fewest_9 ag_wsX100))
theorem gX10_fewest_X10_isPlate : GoodIn wsX10_fewest (wsV RX10 108 RX10 yX10_isPlate wsX10_isPlate) := goodIn_app (gk_cons (gm_X10_fewest_0 _ (List.mem_of_getElem? (i := 4) rfl)) rfl (gk_cons (gm_X10_fewest_0 _ (List.mem_of_getElem? (i := 5) rfl)) rfl (gk_cons (gm_X10_fewest_0 _ (List.mem_of_getElem? (i := 6) rfl)) rfl (gk_cons (gm_X10_fewest_0 _ (List.mem_of_getElem? (i := 7) rfl)) rfl gk_nil)))) ggX10_fewest_X10_isPlate
theorem ggX10_fewest_X10_isStuff : GoodIn wsX10_fewest wsX10_isStuff := gk_cons (gm_X10_fewest_0 _ (List.mem_of_getElem? (i := 16) rfl)) rfl (goodIn_app (gk_cons (gm_X10_fewest_0 _ (List.mem_of_getElem? (i := 17) rfl)) rfl (gk_cons (gm_X10_fewest_0 _ (List.mem_of_getElem? (i := 10) rfl)) rfl (gk_cons (gm_X10_fewest_0 _ (List.mem_of_getElem? (i := 11) rfl)) rfl (gk_cons (gm_X10_fewest_0 _ (List.mem_of_getElem? (i := 7) rfl)) rfl (gk_cons (gm_X10_fewest_0 _ (List.mem_of_getElem? (i := 12) rfl)) rfl gk_nil))))) (goodIn_sub gm_X10_fewest_9 ag_wsX100))
theorem gX10_fewest_X10_isStuff : GoodIn wsX10_fewest (wsV RX10 90 RX10 yX10_isStuff wsX10_isStuff) := goodIn_app (gk_cons (gm_X10_fewest_0 _ (List.mem_of_getElem? (i := 13) rfl)) rfl (gk_cons (gm_X10_fewest_0 _ (List.mem_of_getElem? (i := 14) rfl)) rfl (gk_cons (gm_X10_fewest_0 _ (List.mem_of_getElem? (i := 15) rfl)) rfl (gk_cons (gm_X10_fewest_0 _ (List.mem_of_getElem? (i := 7) rfl)) rfl gk_nil)))) ggX10_fewest_X10_isStuff
theorem gk_X10_fewest_X8_find_r1 : GoodIn wsX10_fewest wsX8_find_r1 := (gk_cons (gm_X10_fewest_0 _ (List.mem_of_getElem? (i := 23) rfl)) rfl (gk_cons (gm_X10_fewest_1 _ (List.mem_of_getElem? (i := 0) rfl)) rfl (gk_cons (gm_X10_fewest_1 _ (List.mem_of_getElem? (i := 1) rfl)) rfl (gk_cons (gm_X10_fewest_1 _ (List.mem_of_getElem? (i := 2) rfl)) rfl (gk_cons (gm_X10_fewest_1 _ (List.mem_of_getElem? (i := 3) rfl)) rfl (gk_cons (gm_X10_fewest_1 _ (List.mem_of_getElem? (i := 4) rfl)) rfl (gk_cons (gm_X10_fewest_1 _ (List.mem_of_getElem? (i := 5) rfl)) rfl (gk_cons (gm_X10_fewest_1 _ (List.mem_of_getElem? (i := 6) rfl)) rfl (gk_cons (gm_X10_fewest_0 _ (List.mem_of_getElem? (i := 21) rfl)) rfl (gk_cons (gm_X10_fewest_1 _ (List.mem_of_getElem? (i := 7) rfl)) rfl (gk_cons (gm_X10_fewest_1 _ (List.mem_of_getElem? (i := 8) rfl)) rfl (gk_cons (gm_X10_fewest_1 _ (List.mem_of_getElem? (i := 9) rfl)) rfl (gk_cons (gm_X10_fewest_1 _ (List.mem_of_getElem? (i := 10) rfl)) rfl (gk_cons (gm_X10_fewest_1 _ (List.mem_of_getElem? (i := 11) rfl)) rfl (gk_cons (gm_X10_fewest_1 _ (List.mem_of_getElem? (i := 12) rfl)) rfl (gk_cons (gm_X10_fewest_1 _ (List.mem_of_getElem? (i := 13) rfl)) rfl (gk_cons (gm_X10_fewest_1 _ (List.mem_of_getElem? (i := 14) rfl)) rfl (gk_cons (gm_X10_fewest_1 _ (List.mem_of_getElem? (i := 15) rfl)) rfl (gk_cons (gm_X10_fewest_1 _ (List.mem_of_getElem? (i := 16) rfl)) rfl (gk_cons (gm_X10_fewest_1 _ (List.mem_of_getElem? (i := 17) rfl)) rfl (gk_cons (gm_X10_fewest_1 _ (List.mem_of_getElem? (i := 18) rfl)) rfl (gk_cons (gm_X10_fewest_1 _ (List.mem_of_getElem? (i := 19) rfl)) rfl (gk_cons (gm_X10_fewest_1 _ (List.mem_of_getElem? (i := 20) rfl)) rfl (gk_cons (gm_X10_fewest_1 _ (List.mem_of_getElem? (i := 21) rfl)) rfl gk_nil))))))))))))))))))))))))
theorem gk_X10_fewest_X8_find_r2 : GoodIn wsX10_fewest wsX8_find_r2 := (gk_cons (gm_X10_fewest_1 _ (List.mem_of_getElem? (i := 22) rfl)) rfl (gk_cons (gm_X10_fewest_1 _ (List.mem_of_getElem? (i := 23) rfl)) rfl (gk_cons (gm_X10_fewest_2 _ (List.mem_of_getElem? (i := 0) rfl)) rfl (gk_cons (gm_X10_fewest_2 _ (List.mem_of_getElem? (i := 1) rfl)) rfl (gk_cons (gm_X10_fewest_2 _ (List.mem_of_getElem? (i := 2) rfl)) rfl (gk_cons (gm_X10_fewest_2 _ (List.mem_of_getElem? (i := 3) rfl)) rfl (gk_cons (gm_X10_fewest_2 _ (List.mem_of_getElem? (i := 4) rfl)) rfl (gk_cons (gm_X10_fewest_2 _ (List.mem_of_getElem? (i := 5) rfl)) rfl (gk_cons (gm_X10_fewest_2 _ (List.mem_of_getElem? (i := 6) rfl)) rfl (gk_cons (gm_X10_fewest_2 _ (List.mem_of_getElem? (i := 7) rfl)) rfl (gk_cons (gm_X10_fewest_2 _ (List.mem_of_getElem? (i := 8) rfl)) rfl (gk_cons (gm_X10_fewest_2 _ (List.mem_of_getElem? (i := 9) rfl)) rfl (gk_cons (gm_X10_fewest_2 _ (List.mem_of_getElem? (i := 10) rfl)) rfl (gk_cons (gm_X10_fewest_2 _ (List.mem_of_getElem? (i := 11) rfl)) rfl (gk_cons (gm_X10_fewest_2 _ (List.mem_of_getElem? (i := 12) rfl)) rfl (gk_cons (gm_X10_fewest_2 _ (List.mem_of_getElem? (i := 13) rfl)) rfl (gk_cons (gm_X10_fewest_2 _ (List.mem_of_getElem? (i := 14) rfl)) rfl (gk_cons (gm_X10_fewest_2 _ (List.mem_of_getElem? (i := 15) rfl)) rfl (gk_cons (gm_X10_fewest_2 _ (List.mem_of_getElem? (i := 16) rfl)) rfl (gk_cons (gm_X10_fewest_2 _ (List.mem_of_getElem? (i := 17) rfl)) rfl (gk_cons (gm_X10_fewest_2 _ (List.mem_of_getElem? (i := 18) rfl)) rfl (gk_cons (gm_X10_fewest_2 _ (List.mem_of_getElem? (i := 19) rfl)) rfl (gk_cons (gm_X10_fewest_2 _ (List.mem_of_getElem? (i := 20) rfl)) rfl (gk_cons (gm_X10_fewest_2 _ (List.mem_of_getElem? (i := 21) rfl)) rfl gk_nil))))))))))))))))))))))))
theorem gk_X10_fewest_X8_find_r3 : GoodIn wsX10_fewest wsX8_find_r3 := (gk_cons (gm_X10_fewest_2 _ (List.mem_of_getElem? (i := 22) rfl)) rfl (gk_cons (gm_X10_fewest_2 _ (List.mem_of_getElem? (i := 23) rfl)) rfl (gk_cons (gm_X10_fewest_3 _ (List.mem_of_getElem? (i := 0) rfl)) rfl (gk_cons (gm_X10_fewest_3 _ (List.mem_of_getElem? (i := 1) rfl)) rfl (gk_cons (gm_X10_fewest_3 _ (List.mem_of_getElem? (i := 2) rfl)) rfl (gk_cons (gm_X10_fewest_3 _ (List.mem_of_getElem? (i := 3) rfl)) rfl (gk_cons (gm_X10_fewest_3 _ (List.mem_of_getElem? (i := 4) rfl)) rfl (gk_cons (gm_X10_fewest_3 _ (List.mem_of_getElem? (i := 5) rfl)) rfl (gk_cons (gm_X10_fewest_3 _ (List.mem_of_getElem? (i := 6) rfl)) rfl (gk_cons (gm_X10_fewest_3 _ (List.mem_of_getElem? (i := 7) rfl)) rfl (gk_cons (gm_X10_fewest_3 _ (List.mem_of_getElem? (i := 8) rfl)) rfl (gk_cons (gm_X10_fewest_3 _ (List.mem_of_getElem? (i := 9) rfl)) rfl (gk_cons (gm_X10_fewest_3 _ (List.mem_of_getElem? (i := 10) rfl)) rfl (gk_cons (gm_X10_fewest_3 _ (List.mem_of_getElem? (i := 11) rfl)) rfl (gk_cons (gm_X10_fewest_3 _ (List.mem_of_getElem? (i := 12) rfl)) rfl (gk_cons (gm_X10_fewest_3 _ (List.mem_of_getElem? (i := 13) rfl)) rfl (gk_cons (gm_X10_fewest_3 _ (List.mem_of_getElem? (i := 14) rfl)) rfl (gk_cons (gm_X10_fewest_3 _ (List.mem_of_getElem? (i := 15) rfl)) rfl (gk_cons (gm_X10_fewest_3 _ (List.mem_of_getElem? (i := 16) rfl)) rfl (gk_cons (gm_X10_fewest_3 _ (List.mem_of_getElem? (i := 17) rfl)) rfl (gk_cons (gm_X10_fewest_3 _ (List.mem_of_getElem? (i := 18) rfl)) rfl (gk_cons (gm_X10_fewest_3 _ (List.mem_of_getElem? (i := 19) rfl)) rfl (gk_cons (gm_X10_fewest_3 _ (List.mem_of_getElem? (i := 20) rfl)) rfl (gk_cons (gm_X10_fewest_3 _ (List.mem_of_getElem? (i := 21) rfl)) rfl gk_nil))))))))))))))))))))))))
theorem gk_X10_fewest_X8_find_r4 : GoodIn wsX10_fewest wsX8_find_r4 := (gk_cons (gm_X10_fewest_3 _ (List.mem_of_getElem? (i := 22) rfl)) rfl (gk_cons (gm_X10_fewest_3 _ (List.mem_of_getElem? (i := 23) rfl)) rfl (gk_cons (gm_X10_fewest_4 _ (List.mem_of_getElem? (i := 0) rfl)) rfl (gk_cons (gm_X10_fewest_4 _ (List.mem_of_getElem? (i := 1) rfl)) rfl (gk_cons (gm_X10_fewest_4 _ (List.mem_of_getElem? (i := 2) rfl)) rfl (gk_cons (gm_X10_fewest_4 _ (List.mem_of_getElem? (i := 3) rfl)) rfl (gk_cons (gm_X10_fewest_4 _ (List.mem_of_getElem? (i := 4) rfl)) rfl (gk_cons (gm_X10_fewest_4 _ (List.mem_of_getElem? (i := 5) rfl)) rfl (gk_cons (gm_X10_fewest_4 _ (List.mem_of_getElem? (i := 6) rfl)) rfl (gk_cons (gm_X10_fewest_4 _ (List.mem_of_getElem? (i := 7) rfl)) rfl (gk_cons (gm_X10_fewest_4 _ (List.mem_of_getElem? (i := 8) rfl)) rfl (gk_cons (gm_X10_fewest_4 _ (List.mem_of_getElem? (i := 9) rfl)) rfl (gk_cons (gm_X10_fewest_4 _ (List.mem_of_getElem? (i := 10) rfl)) rfl (gk_cons (gm_X10_fewest_4 _ (List.mem_of_getElem? (i := 11) rfl)) rfl (gk_cons (gm_X10_fewest_4 _ (List.mem_of_getElem? (i := 12) rfl)) rfl (gk_cons (gm_X10_fewest_4 _ (List.mem_of_getElem? (i := 13) rfl)) rfl (gk_cons (gm_X10_fewest_4 _ (List.mem_of_getElem? (i := 14) rfl)) rfl (gk_cons (gm_X10_fewest_4 _ (List.mem_of_getElem? (i := 15) rfl)) rfl (gk_cons (gm_X10_fewest_4 _ (List.mem_of_getElem? (i := 16) rfl)) rfl (gk_cons (gm_X10_fewest_4 _ (List.mem_of_getElem? (i := 17) rfl)) rfl (gk_cons (gm_X10_fewest_4 _ (List.mem_of_getElem? (i := 18) rfl)) rfl (gk_cons (gm_X10_fewest_4 _ (List.mem_of_getElem? (i := 19) rfl)) rfl (gk_cons (gm_X10_fewest_4 _ (List.mem_of_getElem? (i := 20) rfl)) rfl (gk_cons (gm_X10_fewest_4 _ (List.mem_of_getElem? (i := 21) rfl)) rfl gk_nil))))))))))))))))))))))))
theorem gk_X10_fewest_X8_find_r5 : GoodIn wsX10_fewest wsX8_find_r5 := (gk_cons (gm_X10_fewest_4 _ (List.mem_of_getElem? (i := 22) rfl)) rfl (gk_cons (gm_X10_fewest_4 _ (List.mem_of_getElem? (i := 23) rfl)) rfl (gk_cons (gm_X10_fewest_5 _ (List.mem_of_getElem? (i := 0) rfl)) rfl (gk_cons (gm_X10_fewest_5 _ (List.mem_of_getElem? (i := 1) rfl)) rfl (gk_cons (gm_X10_fewest_5 _ (List.mem_of_getElem? (i := 2) rfl)) rfl (gk_cons (gm_X10_fewest_5 _ (List.mem_of_getElem? (i := 3) rfl)) rfl (gk_cons (gm_X10_fewest_5 _ (List.mem_of_getElem? (i := 4) rfl)) rfl (gk_cons (gm_X10_fewest_5 _ (List.mem_of_getElem? (i := 5) rfl)) rfl (gk_cons (gm_X10_fewest_5 _ (List.mem_of_getElem? (i := 6) rfl)) rfl (gk_cons (gm_X10_fewest_5 _ (List.mem_of_getElem? (i := 7) rfl)) rfl (gk_cons (gm_X10_fewest_5 _ (List.mem_of_getElem? (i := 8) rfl)) rfl (gk_cons (gm_X10_fewest_5 _ (List.mem_of_getElem? (i := 9) rfl)) rfl (gk_cons (gm_X10_fewest_5 _ (List.mem_of_getElem? (i := 10) rfl)) rfl (gk_cons (gm_X10_fewest_5 _ (List.mem_of_getElem? (i := 11) rfl)) rfl (gk_cons (gm_X10_fewest_5 _ (List.mem_of_getElem? (i := 12) rfl)) rfl (gk_cons (gm_X10_fewest_5 _ (List.mem_of_getElem? (i := 13) rfl)) rfl (gk_cons (gm_X10_fewest_5 _ (List.mem_of_getElem? (i := 14) rfl)) rfl (gk_cons (gm_X10_fewest_5 _ (List.mem_of_getElem? (i := 15) rfl)) rfl (gk_cons (gm_X10_fewest_5 _ (List.mem_of_getElem? (i := 16) rfl)) rfl (gk_cons (gm_X10_fewest_5 _ (List.mem_of_getElem? (i := 17) rfl)) rfl (gk_cons (gm_X10_fewest_5 _ (List.mem_of_getElem? (i := 18) rfl)) rfl (gk_cons (gm_X10_fewest_5 _ (List.mem_of_getElem? (i := 19) rfl)) rfl (gk_cons (gm_X10_fewest_5 _ (List.mem_of_getElem? (i := 20) rfl)) rfl (gk_cons (gm_X10_fewest_5 _ (List.mem_of_getElem? (i := 21) rfl)) rfl gk_nil))))))))))))))))))))))))
theorem gk_X10_fewest_X8_find_r6 : GoodIn wsX10_fewest wsX8_find_r6 := (gk_cons (gm_X10_fewest_5 _ (List.mem_of_getElem? (i := 22) rfl)) rfl (gk_cons (gm_X10_fewest_5 _ (List.mem_of_getElem? (i := 23) rfl)) rfl (gk_cons (gm_X10_fewest_6 _ (List.mem_of_getElem? (i := 0) rfl)) rfl (gk_cons (gm_X10_fewest_6 _ (List.mem_of_getElem? (i := 1) rfl)) rfl (gk_cons (gm_X10_fewest_6 _ (List.mem_of_getElem? (i := 2) rfl)) rfl (gk_cons (gm_X10_fewest_6 _ (List.mem_of_getElem? (i := 3) rfl)) rfl (gk_cons (gm_X10_fewest_6 _ (List.mem_of_getElem? (i := 4) rfl)) rfl (gk_cons (gm_X10_fewest_6 _ (List.mem_of_getElem? (i := 5) rfl)) rfl (gk_cons (gm_X10_fewest_6 _ (List.mem_of_getElem? (i := 6) rfl)) rfl (gk_cons (gm_X10_fewest_6 _ (List.mem_of_getElem? (i := 7) rfl)) rfl (gk_cons (gm_X10_fewest_6 _ (List.mem_of_getElem? (i := 8) rfl)) rfl (gk_cons (gm_X10_fewest_6 _ (List.mem_of_getElem? (i := 9) rfl)) rfl (gk_cons (gm_X10_fewest_6 _ (List.mem_of_getElem? (i := 10) rfl)) rfl (gk_cons (gm_X10_fewest_6 _ (List.mem_of_getElem? (i := 11) rfl)) rfl (gk_cons (gm_X10_fewest_6 _ (List.mem_of_getElem? (i := 12) rfl)) rfl (gk_cons (gm_X10_fewest_6 _ (List.mem_of_getElem? (i := 13) rfl)) rfl (gk_cons (gm_X10_fewest_6 _ (List.mem_of_getElem? (i := 14) rfl)) rfl (gk_cons (gm_X10_fewest_6 _ (List.mem_of_getElem? (i := 15) rfl)) rfl (gk_cons (gm_X10_fewest_6 _ (List.mem_of_getElem? (i := 16) rfl)) rfl (gk_cons (gm_X10_fewest_6 _ (List.mem_of_getElem? (i := 17) rfl)) rfl (gk_cons (gm_X10_fewest_6 _ (List.mem_of_getElem? (i := 18) rfl)) rfl (gk_cons (gm_X10_fewest_6 _ (List.mem_of_getElem? (i := 19) rfl)) rfl (gk_cons (gm_X10_fewest_6 _ (List.mem_of_getElem? (i := 20) rfl)) rfl (gk_cons (gm_X10_fewest_6 _ (List.mem_of_getElem? (i := 21) rfl)) rfl gk_nil))))))))))))))))))))))))
theorem gk_X10_fewest_X8_find_r7 : GoodIn wsX10_fewest wsX8_find_r7 := (gk_cons (gm_X10_fewest_6 _ (List.mem_of_getElem? (i := 22) rfl)) rfl (gk_cons (gm_X10_fewest_6 _ (List.mem_of_getElem? (i := 23) rfl)) rfl (gk_cons (gm_X10_fewest_7 _ (List.mem_of_getElem? (i := 0) rfl)) rfl (gk_cons (gm_X10_fewest_7 _ (List.mem_of_getElem? (i := 1) rfl)) rfl (gk_cons (gm_X10_fewest_7 _ (List.mem_of_getElem? (i := 2) rfl)) rfl (gk_cons (gm_X10_fewest_7 _ (List.mem_of_getElem? (i := 3) rfl)) rfl (gk_cons (gm_X10_fewest_7 _ (List.mem_of_getElem? (i := 4) rfl)) rfl (gk_cons (gm_X10_fewest_7 _ (List.mem_of_getElem? (i := 5) rfl)) rfl (gk_cons (gm_X10_fewest_7 _ (List.mem_of_getElem? (i := 6) rfl)) rfl (gk_cons (gm_X10_fewest_7 _ (List.mem_of_getElem? (i := 7) rfl)) rfl (gk_cons (gm_X10_fewest_7 _ (List.mem_of_getElem? (i := 8) rfl)) rfl (gk_cons (gm_X10_fewest_7 _ (List.mem_of_getElem? (i := 9) rfl)) rfl (gk_cons (gm_X10_fewest_7 _ (List.mem_of_getElem? (i := 10) rfl)) rfl (gk_cons (gm_X10_fewest_7 _ (List.mem_of_getElem? (i := 11) rfl)) rfl (gk_cons (gm_X10_fewest_7 _ (List.mem_of_getElem? (i := 12) rfl)) rfl (gk_cons (gm_X10_fewest_7 _ (List.mem_of_getElem? (i := 13) rfl)) rfl (gk_cons (gm_X10_fewest_7 _ (List.mem_of_getElem? (i := 14) rfl)) rfl (gk_cons (gm_X10_fewest_7 _ (List.mem_of_getElem? (i := 15) rfl)) rfl (gk_cons (gm_X10_fewest_7 _ (List.mem_of_getElem? (i := 16) rfl)) rfl (gk_cons (gm_X10_fewest_7 _ (List.mem_of_getElem? (i := 17) rfl)) rfl (gk_cons (gm_X10_fewest_7 _ (List.mem_of_getElem? (i := 18) rfl)) rfl (gk_cons (gm_X10_fewest_7 _ (List.mem_of_getElem? (i := 19) rfl)) rfl (gk_cons (gm_X10_fewest_7 _ (List.mem_of_getElem? (i := 20) rfl)) rfl (gk_cons (gm_X10_fewest_7 _ (List.mem_of_getElem? (i := 21) rfl)) rfl gk_nil))))))))))))))))))))))))
theorem gk_X10_fewest_X8_find_r8 : GoodIn wsX10_fewest wsX8_find_r8 := (gk_cons (gm_X10_fewest_7 _ (List.mem_of_getElem? (i := 22) rfl)) rfl (gk_cons (gm_X10_fewest_7 _ (List.mem_of_getElem? (i := 23) rfl)) rfl (gk_cons (gm_X10_fewest_8 _ (List.mem_of_getElem? (i := 0) rfl)) rfl (gk_cons (gm_X10_fewest_8 _ (List.mem_of_getElem? (i := 1) rfl)) rfl (gk_cons (gm_X10_fewest_8 _ (List.mem_of_getElem? (i := 2) rfl)) rfl (gk_cons (gm_X10_fewest_8 _ (List.mem_of_getElem? (i := 3) rfl)) rfl (gk_cons (gm_X10_fewest_8 _ (List.mem_of_getElem? (i := 4) rfl)) rfl (gk_cons (gm_X10_fewest_8 _ (List.mem_of_getElem? (i := 5) rfl)) rfl (gk_cons (gm_X10_fewest_8 _ (List.mem_of_getElem? (i := 6) rfl)) rfl gk_nil)))))))))
theorem ggX10_fewest_X8_find : GoodIn wsX10_fewest wsX8_find := gk_cons (gm_X10_fewest_0 _ (List.mem_of_getElem? (i := 22) rfl)) rfl (goodIn_app (goodIn_app (goodIn_app (goodIn_app (goodIn_app (goodIn_app (goodIn_app (goodIn_app (goodIn_app gk_X10_fewest_X8_find_r1 (goodIn_app gk_X10_fewest_X8_find_r2 (goodIn_app gk_X10_fewest_X8_find_r3 (goodIn_app gk_X10_fewest_X8_find_r4 (goodIn_app gk_X10_fewest_X8_find_r5 (goodIn_app gk_X10_fewest_X8_find_r6 (goodIn_app gk_X10_fewest_X8_find_r7 gk_X10_fewest_X8_find_r8))))))) (goodIn_sub gm_X10_fewest_10 ag_wsX80)) (goodIn_sub gm_X10_fewest_11 ag_wsX70)) (goodIn_sub gm_X10_fewest_12 ag_wsX10)) (goodIn_sub gm_X10_fewest_13 ag_wsX50)) (goodIn_sub gm_X10_fewest_14 ag_wsX20)) (goodIn_sub gm_X10_fewest_15 ag_wsX90)) (goodIn_sub gm_X10_fewest_16 ag_wsX60)) (goodIn_sub gm_X10_fewest_17 ag_wsX40))
theorem gX10_fewest_X8_find : GoodIn wsX10_fewest (wsV RX10 256 RX8 yX8_find wsX8_find) := goodIn_app (gk_cons (gm_X10_fewest_0 _ (List.mem_of_getElem? (i := 18) rfl)) rfl (gk_cons (gm_X10_fewest_0 _ (List.mem_of_getElem? (i := 19) rfl)) rfl (gk_cons (gm_X10_fewest_0 _ (List.mem_of_getElem? (i := 20) rfl)) rfl (gk_cons (gm_X10_fewest_0 _ (List.mem_of_getElem? (i := 21) rfl)) rfl gk_nil)))) ggX10_fewest_X8_find
theorem ggX10_fewest_X7_copy : GoodIn wsX10_fewest wsX7_copy := gk_cons (gm_X10_fewest_8 _ (List.mem_of_getElem? (i := 10) rfl)) rfl (goodIn_app (goodIn_app (gk_cons (gm_X10_fewest_2 _ (List.mem_of_getElem? (i := 4) rfl)) rfl (gk_cons (gm_X10_fewest_2 _ (List.mem_of_getElem? (i := 3) rfl)) rfl (gk_cons (gm_X10_fewest_8 _ (List.mem_of_getElem? (i := 11) rfl)) rfl (gk_cons (gm_X10_fewest_8 _ (List.mem_of_getElem? (i := 12) rfl)) rfl (gk_cons (gm_X10_fewest_3 _ (List.mem_of_getElem? (i := 18) rfl)) rfl (gk_cons (gm_X10_fewest_8 _ (List.mem_of_getElem? (i := 13) rfl)) rfl (gk_cons (gm_X10_fewest_2 _ (List.mem_of_getElem? (i := 9) rfl)) rfl (gk_cons (gm_X10_fewest_2 _ (List.mem_of_getElem? (i := 10) rfl)) rfl (gk_cons (gm_X10_fewest_2 _ (List.mem_of_getElem? (i := 11) rfl)) rfl (gk_cons (gm_X10_fewest_2 _ (List.mem_of_getElem? (i := 12) rfl)) rfl (gk_cons (gm_X10_fewest_2 _ (List.mem_of_getElem? (i := 13) rfl)) rfl (gk_cons (gm_X10_fewest_2 _ (List.mem_of_getElem? (i := 14) rfl)) rfl (gk_cons (gm_X10_fewest_2 _ (List.mem_of_getElem? (i := 15) rfl)) rfl (gk_cons (gm_X10_fewest_2 _ (List.mem_of_getElem? (i := 16) rfl)) rfl (gk_cons (gm_X10_fewest_2 _ (List.mem_of_getElem? (i := 17) rfl)) rfl gk_nil))))))))))))))) (goodIn_sub gm_X10_fewest_11 ag_wsX70)) (goodIn_sub gm_X10_fewest_13 ag_wsX50))
theorem gX10_fewest_X7_copy : GoodIn wsX10_fewest (wsV RX10 214 RX7 yX7_copy wsX7_copy) := goodIn_app (gk_cons (gm_X10_fewest_8 _ (List.mem_of_getElem? (i := 7) rfl)) rfl (gk_cons (gm_X10_fewest_8 _ (List.mem_of_getElem? (i := 8) rfl)) rfl (gk_cons (gm_X10_fewest_8 _ (List.mem_of_getElem? (i := 9) rfl)) rfl (gk_cons (gm_X10_fewest_2 _ (List.mem_of_getElem? (i := 1) rfl)) rfl gk_nil)))) ggX10_fewest_X7_copy
theorem dX10_fewest_0 : decode cX10_fewest 0 = .ok (.aload_n 0, 1) := by decide +kernel
theorem dX10_fewest_1 : decode cX10_fewest 1 = .ok (.iload_n 1, 1) := by decide +kernel
theorem dX10_fewest_2 : decode cX10_fewest 2 = .ok (.invokevirtual 108, 3) := by decide +kernel
theorem dX10_fewest_5 : decode cX10_fewest 5 = .ok (.ifCond .eq 11, 3) := by decide +kernel
theorem dX10_fewest_8 : decode cX10_fewest 8 = .ok (.aload_n 0, 1) := by decide +kernel
theorem dX10_fewest_9 : decode cX10_fewest 9 = .ok (.iload_n 2, 1) := by decide +kernel
theorem dX10_fewest_10 : decode cX10_fewest 10 = .ok (.invokevirtual 90, 3) := by decide +kernel
theorem dX10_fewest_13 : decode cX10_fewest 13 = .ok (.ifCond .ne 5, 3) := by decide +kernel
theorem dX10_fewest_16 : decode cX10_fewest 16 = .ok (.iconst (-1), 1) := by decide +kernel
theorem dX10_fewest_17 : decode cX10_fewest 17 = .ok (.ireturn, 1) := by decide +kernel
theorem dX10_fewest_18 : decode cX10_fewest 18 = .ok (.aload_n 0, 1) := by decide +kernel
theorem dX10_fewest_19 : decode cX10_fewest 19 = .ok (.getfield 78, 3) := by decide +kernel
theorem dX10_fewest_22 : decode cX10_fewest 22 = .ok (.iload_n 2, 1) := by decide +kernel
theorem dX10_fewest_23 : decode cX10_fewest 23 = .ok (.invokevirtual 256, 3) := by decide +kernel
theorem dX10_fewest_26 : decode cX10_fewest 26 = .ok (.ifCond .ne 6, 3) := by decide +kernel
theorem dX10_fewest_29 : decode cX10_fewest 29 = .ok (.bipush (-3), 2) := by decide +kernel
theorem dX10_fewest_31 : decode cX10_fewest 31 = .ok (.ireturn, 1) := by decide +kernel
theorem dX10_fewest_32 : decode cX10_fewest 32 = .ok (.aload_n 0, 1) := by decide +kernel
theorem dX10_fewest_33 : decode cX10_fewest 33 = .ok (.getfield 19, 3) := by decide +kernel
theorem dX10_fewest_36 : decode cX10_fewest 36 = .ok (.iload_n 1, 1) := by decide +kernel
theorem dX10_fewest_37 : decode cX10_fewest 37 = .ok (.aaload, 1) := by decide +kernel
theorem dX10_fewest_38 : decode cX10_fewest 38 = .ok (.aload_n 0, 1) := by decide +kernel
theorem dX10_fewest_39 : decode cX10_fewest 39 = .ok (.getfield 78, 3) := by decide +kernel
theorem dX10_fewest_42 : decode cX10_fewest 42 = .ok (.getfield 259, 3) := by decide +kernel
theorem dX10_fewest_45 : decode cX10_fewest 45 = .ok (.invokevirtual 214, 3) := by decide +kernel
theorem dX10_fewest_48 : decode cX10_fewest 48 = .ok (.aload_n 0, 1) := by decide +kernel
theorem dX10_fewest_49 : decode cX10_fewest 49 = .ok (.getfield 19, 3) := by decide +kernel
theorem dX10_fewest_52 : decode cX10_fewest 52 = .ok (.iload_n 1, 1) := by decide +kernel
theorem dX10_fewest_53 : decode cX10_fewest 53 = .ok (.aaload, 1) := by decide +kernel
theorem dX10_fewest_54 : decode cX10_fewest 54 = .ok (.getfield 119, 3) := by decide +kernel
theorem dX10_fewest_57 : decode cX10_fewest 57 = .ok (.ireturn, 1) := by decide +kernel
theorem gm_X10_comes_0 : ∀ w ∈ wsX10_comes_r1, w ∈ wsX10_comes := fun w h => List.mem_cons_of_mem _ (List.mem_append_left _ (List.mem_append_left _ (List.mem_append_left _ (List.mem_append_left _ h))))
theorem gm_X10_comes_1 : ∀ w ∈ wsX10_comes_r2, w ∈ wsX10_comes := fun w h => List.mem_cons_of_mem _ (List.mem_append_left _ (List.mem_append_left _ (List.mem_append_left _ (List.mem_append_right _ h))))
theorem gm_X10_comes_2 : ∀ w ∈ wsX100, w ∈ wsX10_comes := fun w h => List.mem_cons_of_mem _ (List.mem_append_left _ (List.mem_append_left _ (List.mem_append_right _ h)))
theorem gm_X10_comes_3 : ∀ w ∈ wsX70, w ∈ wsX10_comes := fun w h => List.mem_cons_of_mem _ (List.mem_append_left _ (List.mem_append_right _ h))
theorem gm_X10_comes_4 : ∀ w ∈ wsX50, w ∈ wsX10_comes := fun w h => List.mem_cons_of_mem _ (List.mem_append_right _ h)
theorem ggX10_comes_X10_isPlate : GoodIn wsX10_comes wsX10_isPlate := gk_cons (gm_X10_comes_0 _ (List.mem_of_getElem? (i := 5) rfl)) rfl (goodIn_app (gk_cons (gm_X10_comes_0 _ (List.mem_of_getElem? (i := 6) rfl)) rfl (gk_cons (gm_X10_comes_0 _ (List.mem_of_getElem? (i := 7) rfl)) rfl (gk_cons (gm_X10_comes_0 _ (List.mem_of_getElem? (i := 8) rfl)) rfl (gk_cons (gm_X10_comes_0 _ (List.mem_of_getElem? (i := 4) rfl)) rfl (gk_cons (gm_X10_comes_0 _ (List.mem_of_getElem? (i := 9) rfl)) rfl gk_nil))))) (goodIn_sub gm_X10_comes_2 ag_wsX100))
theorem gX10_comes_X10_isPlate : GoodIn wsX10_comes (wsV RX10 108 RX10 yX10_isPlate wsX10_isPlate) := goodIn_app (gk_cons (gm_X10_comes_0 _ (List.mem_of_getElem? (i := 1) rfl)) rfl (gk_cons (gm_X10_comes_0 _ (List.mem_of_getElem? (i := 2) rfl)) rfl (gk_cons (gm_X10_comes_0 _ (List.mem_of_getElem? (i := 3) rfl)) rfl (gk_cons (gm_X10_comes_0 _ (List.mem_of_getElem? (i := 4) rfl)) rfl gk_nil)))) ggX10_comes_X10_isPlate
theorem ggX10_comes_X7_leftOver : GoodIn wsX10_comes wsX7_leftOver := gk_cons (gm_X10_comes_0 _ (List.mem_of_getElem? (i := 14) rfl)) rfl (goodIn_app (goodIn_app (gk_cons (gm_X10_comes_0 _ (List.mem_of_getElem? (i := 15) rfl)) rfl (gk_cons (gm_X10_comes_0 _ (List.mem_of_getElem? (i := 16) rfl)) rfl (gk_cons (gm_X10_comes_0 _ (List.mem_of_getElem? (i := 17) rfl)) rfl (gk_cons (gm_X10_comes_0 _ (List.mem_of_getElem? (i := 18) rfl)) rfl (gk_cons (gm_X10_comes_0 _ (List.mem_of_getElem? (i := 19) rfl)) rfl (gk_cons (gm_X10_comes_0 _ (List.mem_of_getElem? (i := 20) rfl)) rfl (gk_cons (gm_X10_comes_0 _ (List.mem_of_getElem? (i := 21) rfl)) rfl (gk_cons (gm_X10_comes_0 _ (List.mem_of_getElem? (i := 22) rfl)) rfl (gk_cons (gm_X10_comes_0 _ (List.mem_of_getElem? (i := 23) rfl)) rfl (gk_cons (gm_X10_comes_1 _ (List.mem_of_getElem? (i := 0) rfl)) rfl (gk_cons (gm_X10_comes_1 _ (List.mem_of_getElem? (i := 1) rfl)) rfl gk_nil))))))))))) (goodIn_sub gm_X10_comes_3 ag_wsX70)) (goodIn_sub gm_X10_comes_4 ag_wsX50))
theorem gX10_comes_X7_leftOver : GoodIn wsX10_comes (wsV RX10 262 RX7 yX7_leftOver wsX7_leftOver) := goodIn_app (gk_cons (gm_X10_comes_0 _ (List.mem_of_getElem? (i := 10) rfl)) rfl (gk_cons (gm_X10_comes_0 _ (List.mem_of_getElem? (i := 11) rfl)) rfl (gk_cons (gm_X10_comes_0 _ (List.mem_of_getElem? (i := 12) rfl)) rfl (gk_cons (gm_X10_comes_0 _ (List.mem_of_getElem? (i := 13) rfl)) rfl gk_nil)))) ggX10_comes_X7_leftOver
theorem dX10_comes_0 : decode cX10_comes 0 = .ok (.aload_n 0, 1) := by decide +kernel
theorem dX10_comes_1 : decode cX10_comes 1 = .ok (.iload_n 1, 1) := by decide +kernel
theorem dX10_comes_2 : decode cX10_comes 2 = .ok (.invokevirtual 108, 3) := by decide +kernel
theorem dX10_comes_5 : decode cX10_comes 5 = .ok (.ifCond .eq 11, 3) := by decide +kernel
theorem dX10_comes_8 : decode cX10_comes 8 = .ok (.aload_n 0, 1) := by decide +kernel
theorem dX10_comes_9 : decode cX10_comes 9 = .ok (.iload_n 2, 1) := by decide +kernel
theorem dX10_comes_10 : decode cX10_comes 10 = .ok (.invokevirtual 108, 3) := by decide +kernel
theorem dX10_comes_13 : decode cX10_comes 13 = .ok (.ifCond .ne 5, 3) := by decide +kernel
theorem dX10_comes_16 : decode cX10_comes 16 = .ok (.iconst (-1), 1) := by decide +kernel
theorem dX10_comes_17 : decode cX10_comes 17 = .ok (.ireturn, 1) := by decide +kernel
theorem dX10_comes_18 : decode cX10_comes 18 = .ok (.aload_n 0, 1) := by decide +kernel
theorem dX10_comes_19 : decode cX10_comes 19 = .ok (.getfield 19, 3) := by decide +kernel
theorem dX10_comes_22 : decode cX10_comes 22 = .ok (.iload_n 1, 1) := by decide +kernel
theorem dX10_comes_23 : decode cX10_comes 23 = .ok (.aaload, 1) := by decide +kernel
theorem dX10_comes_24 : decode cX10_comes 24 = .ok (.aload_n 0, 1) := by decide +kernel
theorem dX10_comes_25 : decode cX10_comes 25 = .ok (.getfield 19, 3) := by decide +kernel
theorem dX10_comes_28 : decode cX10_comes 28 = .ok (.iload_n 2, 1) := by decide +kernel
theorem dX10_comes_29 : decode cX10_comes 29 = .ok (.aaload, 1) := by decide +kernel
theorem dX10_comes_30 : decode cX10_comes 30 = .ok (.invokevirtual 262, 3) := by decide +kernel
theorem dX10_comes_33 : decode cX10_comes 33 = .ok (.iconst (-1), 1) := by decide +kernel
theorem dX10_comes_34 : decode cX10_comes 34 = .ok (.if_icmp .ne 7, 3) := by decide +kernel
theorem dX10_comes_37 : decode cX10_comes 37 = .ok (.iconst 0, 1) := by decide +kernel
theorem dX10_comes_38 : decode cX10_comes 38 = .ok (.goto 4, 3) := by decide +kernel
theorem dX10_comes_41 : decode cX10_comes 41 = .ok (.iconst 1, 1) := by decide +kernel
theorem dX10_comes_42 : decode cX10_comes 42 = .ok (.ireturn, 1) := by decide +kernel
theorem gm_X10_drop_0 : ∀ w ∈ wsX10_drop_r1, w ∈ wsX10_drop := fun w h => List.mem_cons_of_mem _ (List.mem_append_left _ (List.mem_append_left _ (List.mem_append_left _ (List.mem_append_left _ h))))
theorem gm_X10_drop_1 : ∀ w ∈ wsX10_drop_r2, w ∈ wsX10_drop := fun w h => List.mem_cons_of_mem _ (List.mem_append_left _ (List.mem_append_left _ (List.mem_append_left _ (List.mem_append_right _ h))))
theorem gm_X10_drop_2 : ∀ w ∈ wsX100, w ∈ wsX10_drop := fun w h => List.mem_cons_of_mem _ (List.mem_append_left _ (List.mem_append_left _ (List.mem_append_right _ h)))
theorem gm_X10_drop_3 : ∀ w ∈ wsX70, w ∈ wsX10_drop := fun w h => List.mem_cons_of_mem _ (List.mem_append_left _ (List.mem_append_right _ h))
theorem gm_X10_drop_4 : ∀ w ∈ wsX50, w ∈ wsX10_drop := fun w h => List.mem_cons_of_mem _ (List.mem_append_right _ h)
theorem ggX10_drop_X10_isPlate : GoodIn wsX10_drop wsX10_isPlate := gk_cons (gm_X10_drop_0 _ (List.mem_of_getElem? (i := 5) rfl)) rfl (goodIn_app (gk_cons (gm_X10_drop_0 _ (List.mem_of_getElem? (i := 6) rfl)) rfl (gk_cons (gm_X10_drop_0 _ (List.mem_of_getElem? (i := 7) rfl)) rfl (gk_cons (gm_X10_drop_0 _ (List.mem_of_getElem? (i := 8) rfl)) rfl (gk_cons (gm_X10_drop_0 _ (List.mem_of_getElem? (i := 4) rfl)) rfl (gk_cons (gm_X10_drop_0 _ (List.mem_of_getElem? (i := 9) rfl)) rfl gk_nil))))) (goodIn_sub gm_X10_drop_2 ag_wsX100))
theorem gX10_drop_X10_isPlate : GoodIn wsX10_drop (wsV RX10 108 RX10 yX10_isPlate wsX10_isPlate) := goodIn_app (gk_cons (gm_X10_drop_0 _ (List.mem_of_getElem? (i := 1) rfl)) rfl (gk_cons (gm_X10_drop_0 _ (List.mem_of_getElem? (i := 2) rfl)) rfl (gk_cons (gm_X10_drop_0 _ (List.mem_of_getElem? (i := 3) rfl)) rfl (gk_cons (gm_X10_drop_0 _ (List.mem_of_getElem? (i := 4) rfl)) rfl gk_nil)))) ggX10_drop_X10_isPlate
theorem ggX10_drop_X7_leftOver : GoodIn wsX10_drop wsX7_leftOver := gk_cons (gm_X10_drop_0 _ (List.mem_of_getElem? (i := 14) rfl)) rfl (goodIn_app (goodIn_app (gk_cons (gm_X10_drop_0 _ (List.mem_of_getElem? (i := 15) rfl)) rfl (gk_cons (gm_X10_drop_0 _ (List.mem_of_getElem? (i := 16) rfl)) rfl (gk_cons (gm_X10_drop_0 _ (List.mem_of_getElem? (i := 17) rfl)) rfl (gk_cons (gm_X10_drop_0 _ (List.mem_of_getElem? (i := 18) rfl)) rfl (gk_cons (gm_X10_drop_0 _ (List.mem_of_getElem? (i := 19) rfl)) rfl (gk_cons (gm_X10_drop_0 _ (List.mem_of_getElem? (i := 20) rfl)) rfl (gk_cons (gm_X10_drop_0 _ (List.mem_of_getElem? (i := 21) rfl)) rfl (gk_cons (gm_X10_drop_0 _ (List.mem_of_getElem? (i := 22) rfl)) rfl (gk_cons (gm_X10_drop_0 _ (List.mem_of_getElem? (i := 23) rfl)) rfl (gk_cons (gm_X10_drop_1 _ (List.mem_of_getElem? (i := 0) rfl)) rfl (gk_cons (gm_X10_drop_1 _ (List.mem_of_getElem? (i := 1) rfl)) rfl gk_nil))))))))))) (goodIn_sub gm_X10_drop_3 ag_wsX70)) (goodIn_sub gm_X10_drop_4 ag_wsX50))
theorem gX10_drop_X7_leftOver : GoodIn wsX10_drop (wsV RX10 262 RX7 yX7_leftOver wsX7_leftOver) := goodIn_app (gk_cons (gm_X10_drop_0 _ (List.mem_of_getElem? (i := 10) rfl)) rfl (gk_cons (gm_X10_drop_0 _ (List.mem_of_getElem? (i := 11) rfl)) rfl (gk_cons (gm_X10_drop_0 _ (List.mem_of_getElem? (i := 12) rfl)) rfl (gk_cons (gm_X10_drop_0 _ (List.mem_of_getElem? (i := 13) rfl)) rfl gk_nil)))) ggX10_drop_X7_leftOver
theorem dX10_drop_0 : decode cX10_drop 0 = .ok (.aload_n 0, 1) := by decide +kernel
theorem dX10_drop_1 : decode cX10_drop 1 = .ok (.iload_n 1, 1) := by decide +kernel
theorem dX10_drop_2 : decode cX10_drop 2 = .ok (.invokevirtual 108, 3) := by decide +kernel
theorem dX10_drop_5 : decode cX10_drop 5 = .ok (.ifCond .eq 11, 3) := by decide +kernel
theorem dX10_drop_8 : decode cX10_drop 8 = .ok (.aload_n 0, 1) := by decide +kernel
theorem dX10_drop_9 : decode cX10_drop 9 = .ok (.iload_n 2, 1) := by decide +kernel
theorem dX10_drop_10 : decode cX10_drop 10 = .ok (.invokevirtual 108, 3) := by decide +kernel
theorem dX10_drop_13 : decode cX10_drop 13 = .ok (.ifCond .ne 5, 3) := by decide +kernel
theorem dX10_drop_16 : decode cX10_drop 16 = .ok (.iconst (-1), 1) := by decide +kernel
theorem dX10_drop_17 : decode cX10_drop 17 = .ok (.ireturn, 1) := by decide +kernel
theorem dX10_drop_18 : decode cX10_drop 18 = .ok (.aload_n 0, 1) := by decide +kernel
theorem dX10_drop_19 : decode cX10_drop 19 = .ok (.getfield 19, 3) := by decide +kernel
theorem dX10_drop_22 : decode cX10_drop 22 = .ok (.iload_n 1, 1) := by decide +kernel
theorem dX10_drop_23 : decode cX10_drop 23 = .ok (.aaload, 1) := by decide +kernel
theorem dX10_drop_24 : decode cX10_drop 24 = .ok (.aload_n 0, 1) := by decide +kernel
theorem dX10_drop_25 : decode cX10_drop 25 = .ok (.getfield 19, 3) := by decide +kernel
theorem dX10_drop_28 : decode cX10_drop 28 = .ok (.iload_n 2, 1) := by decide +kernel
theorem dX10_drop_29 : decode cX10_drop 29 = .ok (.aaload, 1) := by decide +kernel
theorem dX10_drop_30 : decode cX10_drop 30 = .ok (.invokevirtual 262, 3) := by decide +kernel
theorem dX10_drop_33 : decode cX10_drop 33 = .ok (.ireturn, 1) := by decide +kernel
theorem gm_X10_count_0 : ∀ w ∈ wsX100, w ∈ wsX10_count := fun w h => List.mem_cons_of_mem _ (List.mem_append_left _ (List.mem_append_left _ (List.mem_append_left _ (List.mem_append_right _ h))))
theorem gm_X10_count_1 : ∀ w ∈ wsX10, w ∈ wsX10_count := fun w h => List.mem_cons_of_mem _ (List.mem_append_left _ (List.mem_append_left _ (List.mem_append_right _ h)))
theorem gm_X10_count_2 : ∀ w ∈ wsX70, w ∈ wsX10_count := fun w h => List.mem_cons_of_mem _ (List.mem_append_left _ (List.mem_append_right _ h))
theorem gm_X10_count_3 : ∀ w ∈ wsX50, w ∈ wsX10_count := fun w h => List.mem_cons_of_mem _ (List.mem_append_right _ h)
theorem ggX10_count_X10_isPlate : GoodIn wsX10_count wsX10_isPlate := gk_cons (List.mem_cons_of_mem _ (List.mem_append_left _ (List.mem_append_left _ (List.mem_append_left _ (List.mem_append_left _ (List.mem_of_getElem? (i := 10) rfl)))))) rfl (goodIn_app (gk_cons (List.mem_cons_of_mem _ (List.mem_append_left _ (List.mem_append_left _ (List.mem_append_left _ (List.mem_append_left _ (List.mem_of_getElem? (i := 1) rfl)))))) rfl (gk_cons (List.mem_cons_of_mem _ (List.mem_append_left _ (List.mem_append_left _ (List.mem_append_left _ (List.mem_append_left _ (List.mem_of_getElem? (i := 11) rfl)))))) rfl (gk_cons (List.mem_cons_of_mem _ (List.mem_append_left _ (List.mem_append_left _ (List.mem_append_left _ (List.mem_append_left _ (List.mem_of_getElem? (i := 12) rfl)))))) rfl (gk_cons (List.mem_cons_of_mem _ (List.mem_append_left _ (List.mem_append_left _ (List.mem_append_left _ (List.mem_append_left _ (List.mem_of_getElem? (i := 9) rfl)))))) rfl (gk_cons (List.mem_cons_of_mem _ (List.mem_append_left _ (List.mem_append_left _ (List.mem_append_left _ (List.mem_append_left _ (List.mem_of_getElem? (i := 13) rfl)))))) rfl gk_nil))))) (goodIn_sub gm_X10_count_0 ag_wsX100))
theorem gX10_count_X10_isPlate : GoodIn wsX10_count (wsV RX10 108 RX10 yX10_isPlate wsX10_isPlate) := goodIn_app (gk_cons (List.mem_cons_of_mem _ (List.mem_append_left _ (List.mem_append_left _ (List.mem_append_left _ (List.mem_append_left _ (List.mem_of_getElem? (i := 6) rfl)))))) rfl (gk_cons (List.mem_cons_of_mem _ (List.mem_append_left _ (List.mem_append_left _ (List.mem_append_left _ (List.mem_append_left _ (List.mem_of_getElem? (i := 7) rfl)))))) rfl (gk_cons (List.mem_cons_of_mem _ (List.mem_append_left _ (List.mem_append_left _ (List.mem_append_left _ (List.mem_append_left _ (List.mem_of_getElem? (i := 8) rfl)))))) rfl (gk_cons (List.mem_cons_of_mem _ (List.mem_append_left _ (List.mem_append_left _ (List.mem_append_left _ (List.mem_append_left _ (List.mem_of_getElem? (i := 9) rfl)))))) rfl gk_nil)))) ggX10_count_X10_isPlate
theorem ggX10_count_X7_thickness : GoodIn wsX10_count wsX7_thickness := gk_cons (List.mem_cons_of_mem _ (List.mem_append_left _ (List.mem_append_left _ (List.mem_append_left _ (List.mem_append_left _ (List.mem_of_getElem? (i := 18) rfl)))))) rfl (goodIn_app (goodIn_app (gk_cons (List.mem_cons_of_mem _ (List.mem_append_left _ (List.mem_append_left _ (List.mem_append_left _ (List.mem_append_left _ (List.mem_of_getElem? (i := 19) rfl)))))) rfl (gk_cons (List.mem_cons_of_mem _ (List.mem_append_left _ (List.mem_append_left _ (List.mem_append_left _ (List.mem_append_left _ (List.mem_of_getElem? (i := 20) rfl)))))) rfl (gk_cons (List.mem_cons_of_mem _ (List.mem_append_left _ (List.mem_append_left _ (List.mem_append_left _ (List.mem_append_left _ (List.mem_of_getElem? (i := 21) rfl)))))) rfl gk_nil))) (goodIn_sub gm_X10_count_2 ag_wsX70)) (goodIn_sub gm_X10_count_3 ag_wsX50))
theorem gX10_count_X7_thickness : GoodIn wsX10_count (wsV RX10 265 RX7 yX7_thickness wsX7_thickness) := goodIn_app (gk_cons (List.mem_cons_of_mem _ (List.mem_append_left _ (List.mem_append_left _ (List.mem_append_left _ (List.mem_append_left _ (List.mem_of_getElem? (i := 14) rfl)))))) rfl (gk_cons (List.mem_cons_of_mem _ (List.mem_append_left _ (List.mem_append_left _ (List.mem_append_left _ (List.mem_append_left _ (List.mem_of_getElem? (i := 15) rfl)))))) rfl (gk_cons (List.mem_cons_of_mem _ (List.mem_append_left _ (List.mem_append_left _ (List.mem_append_left _ (List.mem_append_left _ (List.mem_of_getElem? (i := 16) rfl)))))) rfl (gk_cons (List.mem_cons_of_mem _ (List.mem_append_left _ (List.mem_append_left _ (List.mem_append_left _ (List.mem_append_left _ (List.mem_of_getElem? (i := 17) rfl)))))) rfl gk_nil)))) ggX10_count_X7_thickness
theorem dX10_count_0 : decode cX10_count 0 = .ok (.iload_n 1, 1) := by decide +kernel
theorem dX10_count_1 : decode cX10_count 1 = .ok (.ifCond .ne 8, 3) := by decide +kernel
theorem dX10_count_4 : decode cX10_count 4 = .ok (.aload_n 0, 1) := by decide +kernel
theorem dX10_count_5 : decode cX10_count 5 = .ok (.getfield 56, 3) := by decide +kernel
theorem dX10_count_8 : decode cX10_count 8 = .ok (.ireturn, 1) := by decide +kernel
theorem dX10_count_9 : decode cX10_count 9 = .ok (.iload_n 1, 1) := by decide +kernel
theorem dX10_count_10 : decode cX10_count 10 = .ok (.iconst 1, 1) := by decide +kernel
theorem dX10_count_11 : decode cX10_count 11 = .ok (.if_icmp .ne 8, 3) := by decide +kernel
theorem dX10_count_14 : decode cX10_count 14 = .ok (.aload_n 0, 1) := by decide +kernel
theorem dX10_count_15 : decode cX10_count 15 = .ok (.getfield 60, 3) := by decide +kernel
theorem dX10_count_18 : decode cX10_count 18 = .ok (.ireturn, 1) := by decide +kernel
theorem dX10_count_19 : decode cX10_count 19 = .ok (.iload_n 1, 1) := by decide +kernel
theorem dX10_count_20 : decode cX10_count 20 = .ok (.iconst 2, 1) := by decide +kernel
theorem dX10_count_21 : decode cX10_count 21 = .ok (.if_icmp .ne 11, 3) := by decide +kernel
theorem dX10_count_24 : decode cX10_count 24 = .ok (.aload_n 0, 1) := by decide +kernel
theorem dX10_count_25 : decode cX10_count 25 = .ok (.getfield 26, 3) := by decide +kernel
theorem dX10_count_28 : decode cX10_count 28 = .ok (.getfield 254, 3) := by decide +kernel
theorem dX10_count_31 : decode cX10_count 31 = .ok (.ireturn, 1) := by decide +kernel
theorem dX10_count_32 : decode cX10_count 32 = .ok (.iload_n 1, 1) := by decide +kernel
theorem dX10_count_33 : decode cX10_count 33 = .ok (.bipush 10, 2) := by decide +kernel
theorem dX10_count_35 : decode cX10_count 35 = .ok (.if_icmp .lt 27, 3) := by decide +kernel
theorem dX10_count_38 : decode cX10_count 38 = .ok (.aload_n 0, 1) := by decide +kernel
theorem dX10_count_39 : decode cX10_count 39 = .ok (.iload_n 1, 1) := by decide +kernel
theorem dX10_count_40 : decode cX10_count 40 = .ok (.bipush 10, 2) := by decide +kernel
theorem dX10_count_42 : decode cX10_count 42 = .ok (.isub, 1) := by decide +kernel
theorem dX10_count_43 : decode cX10_count 43 = .ok (.invokevirtual 108, 3) := by decide +kernel
theorem dX10_count_46 : decode cX10_count 46 = .ok (.ifCond .eq 16, 3) := by decide +kernel
theorem dX10_count_49 : decode cX10_count 49 = .ok (.aload_n 0, 1) := by decide +kernel
theorem dX10_count_50 : decode cX10_count 50 = .ok (.getfield 19, 3) := by decide +kernel
theorem dX10_count_53 : decode cX10_count 53 = .ok (.iload_n 1, 1) := by decide +kernel
theorem dX10_count_54 : decode cX10_count 54 = .ok (.bipush 10, 2) := by decide +kernel
theorem dX10_count_56 : decode cX10_count 56 = .ok (.isub, 1) := by decide +kernel
theorem dX10_count_57 : decode cX10_count 57 = .ok (.aaload, 1) := by decide +kernel
theorem dX10_count_58 : decode cX10_count 58 = .ok (.getfield 119, 3) := by decide +kernel
theorem dX10_count_61 : decode cX10_count 61 = .ok (.ireturn, 1) := by decide +kernel
theorem dX10_count_62 : decode cX10_count 62 = .ok (.iload_n 1, 1) := by decide +kernel
theorem dX10_count_63 : decode cX10_count 63 = .ok (.bipush 20, 2) := by decide +kernel
theorem dX10_count_65 : decode cX10_count 65 = .ok (.if_icmp .lt 27, 3) := by decide +kernel
theorem dX10_count_68 : decode cX10_count 68 = .ok (.aload_n 0, 1) := by decide +kernel
theorem dX10_count_69 : decode cX10_count 69 = .ok (.iload_n 1, 1) := by decide +kernel
theorem dX10_count_70 : decode cX10_count 70 = .ok (.bipush 20, 2) := by decide +kernel
theorem dX10_count_72 : decode cX10_count 72 = .ok (.isub, 1) := by decide +kernel
theorem dX10_count_73 : decode cX10_count 73 = .ok (.invokevirtual 108, 3) := by decide +kernel
theorem dX10_count_76 : decode cX10_count 76 = .ok (.ifCond .eq 16, 3) := by decide +kernel
theorem dX10_count_79 : decode cX10_count 79 = .ok (.aload_n 0, 1) := by decide +kernel
theorem dX10_count_80 : decode cX10_count 80 = .ok (.getfield 19, 3) := by decide +kernel
theorem dX10_count_83 : decode cX10_count 83 = .ok (.iload_n 1, 1) := by decide +kernel
theorem dX10_count_84 : decode cX10_count 84 = .ok (.bipush 20, 2) := by decide +kernel
theorem dX10_count_86 : decode cX10_count 86 = .ok (.isub, 1) := by decide +kernel
theorem dX10_count_87 : decode cX10_count 87 = .ok (.aaload, 1) := by decide +kernel
theorem dX10_count_88 : decode cX10_count 88 = .ok (.invokevirtual 265, 3) := by decide +kernel
theorem dX10_count_91 : decode cX10_count 91 = .ok (.ireturn, 1) := by decide +kernel
theorem dX10_count_92 : decode cX10_count 92 = .ok (.iconst (-1), 1) := by decide +kernel
theorem dX10_count_93 : decode cX10_count 93 = .ok (.ireturn, 1) := by decide +kernel
theorem dX10_isWithin_0 : decode cX10_isWithin 0 = .ok (.iload_n 0, 1) := by decide +kernel
theorem dX10_isWithin_1 : decode cX10_isWithin 1 = .ok (.iload_n 1, 1) := by decide +kernel
theorem dX10_isWithin_2 : decode cX10_isWithin 2 = .ok (.if_icmp .lt 12, 3) := by decide +kernel
theorem dX10_isWithin_5 : decode cX10_isWithin 5 = .ok (.iload_n 0, 1) := by decide +kernel
theorem dX10_isWithin_6 : decode cX10_isWithin 6 = .ok (.iload_n 2, 1) := by decide +kernel
theorem dX10_isWithin_7 : decode cX10_isWithin 7 = .ok (.if_icmp .gt 7, 3) := by decide +kernel
theorem dX10_isWithin_10 : decode cX10_isWithin 10 = .ok (.iconst 1, 1) := by decide +kernel
theorem dX10_isWithin_11 : decode cX10_isWithin 11 = .ok (.goto 4, 3) := by decide +kernel
theorem dX10_isWithin_14 : decode cX10_isWithin 14 = .ok (.iconst 0, 1) := by decide +kernel
theorem dX10_isWithin_15 : decode cX10_isWithin 15 = .ok (.ireturn, 1) := by decide +kernel
theorem ggX10_isStiffness_X10_isWithin : GoodIn wsX10_isStiffness wsX10_isWithin := gk_cons (List.mem_cons_of_mem _ (List.mem_of_getElem? (i := 3) rfl)) rfl gk_nil
theorem gX10_isStiffness_X10_isWithin : GoodIn wsX10_isStiffness (va_wsS RX10 94 yX10_isWithin wsX10_isWithin) := goodIn_app (gk_cons (List.mem_cons_of_mem _ (List.mem_of_getElem? (i := 0) rfl)) rfl (gk_cons (List.mem_cons_of_mem _ (List.mem_of_getElem? (i := 1) rfl)) rfl (gk_cons (List.mem_cons_of_mem _ (List.mem_of_getElem? (i := 2) rfl)) rfl gk_nil))) ggX10_isStiffness_X10_isWithin
theorem dX10_isStiffness_0 : decode cX10_isStiffness 0 = .ok (.iload_n 0, 1) := by decide +kernel
theorem dX10_isStiffness_1 : decode cX10_isStiffness 1 = .ok (.iconst 1, 1) := by decide +kernel
theorem dX10_isStiffness_2 : decode cX10_isStiffness 2 = .ok (.sipush 200, 3) := by decide +kernel
theorem dX10_isStiffness_5 : decode cX10_isStiffness 5 = .ok (.invokestatic 94, 3) := by decide +kernel
theorem dX10_isStiffness_8 : decode cX10_isStiffness 8 = .ok (.ifCond .eq 49, 3) := by decide +kernel
theorem dX10_isStiffness_11 : decode cX10_isStiffness 11 = .ok (.iload_n 1, 1) := by decide +kernel
theorem dX10_isStiffness_12 : decode cX10_isStiffness 12 = .ok (.iconst 1, 1) := by decide +kernel
theorem dX10_isStiffness_13 : decode cX10_isStiffness 13 = .ok (.sipush 200, 3) := by decide +kernel
theorem dX10_isStiffness_16 : decode cX10_isStiffness 16 = .ok (.invokestatic 94, 3) := by decide +kernel
theorem dX10_isStiffness_19 : decode cX10_isStiffness 19 = .ok (.ifCond .eq 38, 3) := by decide +kernel
theorem dX10_isStiffness_22 : decode cX10_isStiffness 22 = .ok (.iload_n 2, 1) := by decide +kernel
theorem dX10_isStiffness_23 : decode cX10_isStiffness 23 = .ok (.iconst 0, 1) := by decide +kernel
theorem dX10_isStiffness_24 : decode cX10_isStiffness 24 = .ok (.sipush 200, 3) := by decide +kernel
theorem dX10_isStiffness_27 : decode cX10_isStiffness 27 = .ok (.invokestatic 94, 3) := by decide +kernel
theorem dX10_isStiffness_30 : decode cX10_isStiffness 30 = .ok (.ifCond .eq 27, 3) := by decide +kernel
theorem dX10_isStiffness_33 : decode cX10_isStiffness 33 = .ok (.iload_n 3, 1) := by decide +kernel
theorem dX10_isStiffness_34 : decode cX10_isStiffness 34 = .ok (.iconst 1, 1) := by decide +kernel
theorem dX10_isStiffness_35 : decode cX10_isStiffness 35 = .ok (.sipush 200, 3) := by decide +kernel
theorem dX10_isStiffness_38 : decode cX10_isStiffness 38 = .ok (.invokestatic 94, 3) := by decide +kernel
theorem dX10_isStiffness_41 : decode cX10_isStiffness 41 = .ok (.ifCond .eq 16, 3) := by decide +kernel
theorem dX10_isStiffness_44 : decode cX10_isStiffness 44 = .ok (.iload_n 2, 1) := by decide +kernel
theorem dX10_isStiffness_45 : decode cX10_isStiffness 45 = .ok (.iload_n 2, 1) := by decide +kernel
theorem dX10_isStiffness_46 : decode cX10_isStiffness 46 = .ok (.imul, 1) := by decide +kernel
theorem dX10_isStiffness_47 : decode cX10_isStiffness 47 = .ok (.iload_n 0, 1) := by decide +kernel
theorem dX10_isStiffness_48 : decode cX10_isStiffness 48 = .ok (.iload_n 1, 1) := by decide +kernel
theorem dX10_isStiffness_49 : decode cX10_isStiffness 49 = .ok (.imul, 1) := by decide +kernel
theorem dX10_isStiffness_50 : decode cX10_isStiffness 50 = .ok (.if_icmp .ge 7, 3) := by decide +kernel
theorem dX10_isStiffness_53 : decode cX10_isStiffness 53 = .ok (.iconst 1, 1) := by decide +kernel
theorem dX10_isStiffness_54 : decode cX10_isStiffness 54 = .ok (.goto 4, 3) := by decide +kernel
theorem dX10_isStiffness_57 : decode cX10_isStiffness 57 = .ok (.iconst 0, 1) := by decide +kernel
theorem dX10_isStiffness_58 : decode cX10_isStiffness 58 = .ok (.ireturn, 1) := by decide +kernel
theorem ggX10_isLoad_X10_isWithin : GoodIn wsX10_isLoad wsX10_isWithin := gk_cons (List.mem_cons_of_mem _ (List.mem_of_getElem? (i := 3) rfl)) rfl gk_nil
theorem gX10_isLoad_X10_isWithin : GoodIn wsX10_isLoad (va_wsS RX10 94 yX10_isWithin wsX10_isWithin) := goodIn_app (gk_cons (List.mem_cons_of_mem _ (List.mem_of_getElem? (i := 0) rfl)) rfl (gk_cons (List.mem_cons_of_mem _ (List.mem_of_getElem? (i := 1) rfl)) rfl (gk_cons (List.mem_cons_of_mem _ (List.mem_of_getElem? (i := 2) rfl)) rfl gk_nil))) ggX10_isLoad_X10_isWithin
theorem dX10_isLoad_0 : decode cX10_isLoad 0 = .ok (.iload_n 0, 1) := by decide +kernel
theorem dX10_isLoad_1 : decode cX10_isLoad 1 = .ok (.bipush (-100), 2) := by decide +kernel
theorem dX10_isLoad_3 : decode cX10_isLoad 3 = .ok (.bipush 100, 2) := by decide +kernel
theorem dX10_isLoad_5 : decode cX10_isLoad 5 = .ok (.invokestatic 94, 3) := by decide +kernel
theorem dX10_isLoad_8 : decode cX10_isLoad 8 = .ok (.ifCond .eq 29, 3) := by decide +kernel
theorem dX10_isLoad_11 : decode cX10_isLoad 11 = .ok (.iload_n 1, 1) := by decide +kernel
theorem dX10_isLoad_12 : decode cX10_isLoad 12 = .ok (.bipush (-100), 2) := by decide +kernel
theorem dX10_isLoad_14 : decode cX10_isLoad 14 = .ok (.bipush 100, 2) := by decide +kernel
theorem dX10_isLoad_16 : decode cX10_isLoad 16 = .ok (.invokestatic 94, 3) := by decide +kernel
theorem dX10_isLoad_19 : decode cX10_isLoad 19 = .ok (.ifCond .eq 18, 3) := by decide +kernel
theorem dX10_isLoad_22 : decode cX10_isLoad 22 = .ok (.iload_n 2, 1) := by decide +kernel
theorem dX10_isLoad_23 : decode cX10_isLoad 23 = .ok (.bipush (-100), 2) := by decide +kernel
theorem dX10_isLoad_25 : decode cX10_isLoad 25 = .ok (.bipush 100, 2) := by decide +kernel
theorem dX10_isLoad_27 : decode cX10_isLoad 27 = .ok (.invokestatic 94, 3) := by decide +kernel
theorem dX10_isLoad_30 : decode cX10_isLoad 30 = .ok (.ifCond .eq 7, 3) := by decide +kernel
theorem dX10_isLoad_33 : decode cX10_isLoad 33 = .ok (.iconst 1, 1) := by decide +kernel
theorem dX10_isLoad_34 : decode cX10_isLoad 34 = .ok (.goto 4, 3) := by decide +kernel
theorem dX10_isLoad_37 : decode cX10_isLoad 37 = .ok (.iconst 0, 1) := by decide +kernel
theorem dX10_isLoad_38 : decode cX10_isLoad 38 = .ok (.ireturn, 1) := by decide +kernel
theorem gm_X10_isStuff_0 : ∀ w ∈ wsX100, w ∈ wsX10_isStuff := fun w h => List.mem_cons_of_mem _ (List.mem_append_right _ h)
theorem ggX10_isStuff_X10_isWithin : GoodIn wsX10_isStuff wsX10_isWithin := gk_cons (List.mem_cons_of_mem _ (List.mem_append_left _ (List.mem_of_getElem? (i := 4) rfl))) rfl gk_nil
theorem gX10_isStuff_X10_isWithin : GoodIn wsX10_isStuff (va_wsS RX10 94 yX10_isWithin wsX10_isWithin) := goodIn_app (gk_cons (List.mem_cons_of_mem _ (List.mem_append_left _ (List.mem_of_getElem? (i := 1) rfl))) rfl (gk_cons (List.mem_cons_of_mem _ (List.mem_append_left _ (List.mem_of_getElem? (i := 2) rfl))) rfl (gk_cons (List.mem_cons_of_mem _ (List.mem_append_left _ (List.mem_of_getElem? (i := 3) rfl))) rfl gk_nil))) ggX10_isStuff_X10_isWithin
theorem dX10_isStuff_0 : decode cX10_isStuff 0 = .ok (.iload_n 1, 1) := by decide +kernel
theorem dX10_isStuff_1 : decode cX10_isStuff 1 = .ok (.iconst 0, 1) := by decide +kernel
theorem dX10_isStuff_2 : decode cX10_isStuff 2 = .ok (.aload_n 0, 1) := by decide +kernel
theorem dX10_isStuff_3 : decode cX10_isStuff 3 = .ok (.getfield 56, 3) := by decide +kernel
theorem dX10_isStuff_6 : decode cX10_isStuff 6 = .ok (.iconst 1, 1) := by decide +kernel
theorem dX10_isStuff_7 : decode cX10_isStuff 7 = .ok (.isub, 1) := by decide +kernel
theorem dX10_isStuff_8 : decode cX10_isStuff 8 = .ok (.invokestatic 94, 3) := by decide +kernel
theorem dX10_isStuff_11 : decode cX10_isStuff 11 = .ok (.ireturn, 1) := by decide +kernel
theorem gm_X10_isPlate_0 : ∀ w ∈ wsX100, w ∈ wsX10_isPlate := fun w h => List.mem_cons_of_mem _ (List.mem_append_right _ h)
theorem ggX10_isPlate_X10_isWithin : GoodIn wsX10_isPlate wsX10_isWithin := gk_cons (List.mem_cons_of_mem _ (List.mem_append_left _ (List.mem_of_getElem? (i := 4) rfl))) rfl gk_nil
theorem gX10_isPlate_X10_isWithin : GoodIn wsX10_isPlate (va_wsS RX10 94 yX10_isWithin wsX10_isWithin) := goodIn_app (gk_cons (List.mem_cons_of_mem _ (List.mem_append_left _ (List.mem_of_getElem? (i := 1) rfl))) rfl (gk_cons (List.mem_cons_of_mem _ (List.mem_append_left _ (List.mem_of_getElem? (i := 2) rfl))) rfl (gk_cons (List.mem_cons_of_mem _ (List.mem_append_left _ (List.mem_of_getElem? (i := 3) rfl))) rfl gk_nil))) ggX10_isPlate_X10_isWithin
theorem dX10_isPlate_0 : decode cX10_isPlate 0 = .ok (.iload_n 1, 1) := by decide +kernel
theorem dX10_isPlate_1 : decode cX10_isPlate 1 = .ok (.iconst 0, 1) := by decide +kernel
theorem dX10_isPlate_2 : decode cX10_isPlate 2 = .ok (.aload_n 0, 1) := by decide +kernel
theorem dX10_isPlate_3 : decode cX10_isPlate 3 = .ok (.getfield 60, 3) := by decide +kernel
theorem dX10_isPlate_6 : decode cX10_isPlate 6 = .ok (.iconst 1, 1) := by decide +kernel
theorem dX10_isPlate_7 : decode cX10_isPlate 7 = .ok (.isub, 1) := by decide +kernel
theorem dX10_isPlate_8 : decode cX10_isPlate 8 = .ok (.invokestatic 94, 3) := by decide +kernel
theorem dX10_isPlate_11 : decode cX10_isPlate 11 = .ok (.ireturn, 1) := by decide +kernel
theorem gm_X10_isLayer_0 : ∀ w ∈ wsX100, w ∈ wsX10_isLayer := fun w h => List.mem_cons_of_mem _ (List.mem_append_left _ (List.mem_append_right _ h))
theorem gm_X10_isLayer_1 : ∀ w ∈ wsX70, w ∈ wsX10_isLayer := fun w h => List.mem_cons_of_mem _ (List.mem_append_right _ h)
theorem ggX10_isLayer_X10_isPlate : GoodIn wsX10_isLayer wsX10_isPlate := gk_cons (List.mem_cons_of_mem _ (List.mem_append_left _ (List.mem_append_left _ (List.mem_of_getElem? (i := 6) rfl)))) rfl (goodIn_app (gk_cons (List.mem_cons_of_mem _ (List.mem_append_left _ (List.mem_append_left _ (List.mem_of_getElem? (i := 7) rfl)))) rfl (gk_cons (List.mem_cons_of_mem _ (List.mem_append_left _ (List.mem_append_left _ (List.mem_of_getElem? (i := 8) rfl)))) rfl (gk_cons (List.mem_cons_of_mem _ (List.mem_append_left _ (List.mem_append_left _ (List.mem_of_getElem? (i := 9) rfl)))) rfl (gk_cons (List.mem_cons_of_mem _ (List.mem_append_left _ (List.mem_append_left _ (List.mem_of_getElem? (i := 5) rfl)))) rfl (gk_cons (List.mem_cons_of_mem _ (List.mem_append_left _ (List.mem_append_left _ (List.mem_of_getElem? (i := 10) rfl)))) rfl gk_nil))))) (goodIn_sub gm_X10_isLayer_0 ag_wsX100))
theorem gX10_isLayer_X10_isPlate : GoodIn wsX10_isLayer (wsV RX10 108 RX10 yX10_isPlate wsX10_isPlate) := goodIn_app (gk_cons (List.mem_cons_of_mem _ (List.mem_append_left _ (List.mem_append_left _ (List.mem_of_getElem? (i := 2) rfl)))) rfl (gk_cons (List.mem_cons_of_mem _ (List.mem_append_left _ (List.mem_append_left _ (List.mem_of_getElem? (i := 3) rfl)))) rfl (gk_cons (List.mem_cons_of_mem _ (List.mem_append_left _ (List.mem_append_left _ (List.mem_of_getElem? (i := 4) rfl)))) rfl (gk_cons (List.mem_cons_of_mem _ (List.mem_append_left _ (List.mem_append_left _ (List.mem_of_getElem? (i := 5) rfl)))) rfl gk_nil)))) ggX10_isLayer_X10_isPlate
theorem ggX10_isLayer_X10_isWithin : GoodIn wsX10_isLayer wsX10_isWithin := gk_cons (List.mem_cons_of_mem _ (List.mem_append_left _ (List.mem_append_left _ (List.mem_of_getElem? (i := 10) rfl)))) rfl gk_nil
theorem gX10_isLayer_X10_isWithin : GoodIn wsX10_isLayer (va_wsS RX10 94 yX10_isWithin wsX10_isWithin) := goodIn_app (gk_cons (List.mem_cons_of_mem _ (List.mem_append_left _ (List.mem_append_left _ (List.mem_of_getElem? (i := 8) rfl)))) rfl (gk_cons (List.mem_cons_of_mem _ (List.mem_append_left _ (List.mem_append_left _ (List.mem_of_getElem? (i := 9) rfl)))) rfl (gk_cons (List.mem_cons_of_mem _ (List.mem_append_left _ (List.mem_append_left _ (List.mem_of_getElem? (i := 5) rfl)))) rfl gk_nil))) ggX10_isLayer_X10_isWithin
theorem dX10_isLayer_0 : decode cX10_isLayer 0 = .ok (.aload_n 0, 1) := by decide +kernel
theorem dX10_isLayer_1 : decode cX10_isLayer 1 = .ok (.iload_n 1, 1) := by decide +kernel
theorem dX10_isLayer_2 : decode cX10_isLayer 2 = .ok (.invokevirtual 108, 3) := by decide +kernel
theorem dX10_isLayer_5 : decode cX10_isLayer 5 = .ok (.ifCond .eq 26, 3) := by decide +kernel
theorem dX10_isLayer_8 : decode cX10_isLayer 8 = .ok (.iload_n 2, 1) := by decide +kernel
theorem dX10_isLayer_9 : decode cX10_isLayer 9 = .ok (.iconst 0, 1) := by decide +kernel
theorem dX10_isLayer_10 : decode cX10_isLayer 10 = .ok (.aload_n 0, 1) := by decide +kernel
theorem dX10_isLayer_11 : decode cX10_isLayer 11 = .ok (.getfield 19, 3) := by decide +kernel
theorem dX10_isLayer_14 : decode cX10_isLayer 14 = .ok (.iload_n 1, 1) := by decide +kernel
theorem dX10_isLayer_15 : decode cX10_isLayer 15 = .ok (.aaload, 1) := by decide +kernel
theorem dX10_isLayer_16 : decode cX10_isLayer 16 = .ok (.getfield 119, 3) := by decide +kernel
theorem dX10_isLayer_19 : decode cX10_isLayer 19 = .ok (.iconst 1, 1) := by decide +kernel
theorem dX10_isLayer_20 : decode cX10_isLayer 20 = .ok (.isub, 1) := by decide +kernel
theorem dX10_isLayer_21 : decode cX10_isLayer 21 = .ok (.invokestatic 94, 3) := by decide +kernel
theorem dX10_isLayer_24 : decode cX10_isLayer 24 = .ok (.ifCond .eq 7, 3) := by decide +kernel
theorem dX10_isLayer_27 : decode cX10_isLayer 27 = .ok (.iconst 1, 1) := by decide +kernel
theorem dX10_isLayer_28 : decode cX10_isLayer 28 = .ok (.goto 4, 3) := by decide +kernel
theorem dX10_isLayer_31 : decode cX10_isLayer 31 = .ok (.iconst 0, 1) := by decide +kernel
theorem dX10_isLayer_32 : decode cX10_isLayer 32 = .ok (.ireturn, 1) := by decide +kernel
theorem dX10_bitIf_0 : decode cX10_bitIf 0 = .ok (.iload_n 0, 1) := by decide +kernel
theorem dX10_bitIf_1 : decode cX10_bitIf 1 = .ok (.ifCond .eq 9, 3) := by decide +kernel
theorem dX10_bitIf_4 : decode cX10_bitIf 4 = .ok (.iconst 1, 1) := by decide +kernel
theorem dX10_bitIf_5 : decode cX10_bitIf 5 = .ok (.iload_n 1, 1) := by decide +kernel
theorem dX10_bitIf_6 : decode cX10_bitIf 6 = .ok (.ishl, 1) := by decide +kernel
theorem dX10_bitIf_7 : decode cX10_bitIf 7 = .ok (.goto 4, 3) := by decide +kernel
theorem dX10_bitIf_10 : decode cX10_bitIf 10 = .ok (.iconst 0, 1) := by decide +kernel
theorem dX10_bitIf_11 : decode cX10_bitIf 11 = .ok (.ireturn, 1) := by decide +kernel
theorem gm_X10_stretchPart_0 : ∀ w ∈ wsX10_stretchPart_r1, w ∈ wsX10_stretchPart := fun w h => List.mem_cons_of_mem _ (List.mem_append_left _ (List.mem_append_left _ (List.mem_append_left _ (List.mem_append_left _ h))))
theorem gm_X10_stretchPart_1 : ∀ w ∈ wsX10_stretchPart_r2, w ∈ wsX10_stretchPart := fun w h => List.mem_cons_of_mem _ (List.mem_append_left _ (List.mem_append_left _ (List.mem_append_left _ (List.mem_append_right _ h))))
theorem gm_X10_stretchPart_2 : ∀ w ∈ wsX100, w ∈ wsX10_stretchPart := fun w h => List.mem_cons_of_mem _ (List.mem_append_left _ (List.mem_append_left _ (List.mem_append_right _ h)))
theorem gm_X10_stretchPart_3 : ∀ w ∈ wsX20, w ∈ wsX10_stretchPart := fun w h => List.mem_cons_of_mem _ (List.mem_append_left _ (List.mem_append_right _ h))
theorem gm_X10_stretchPart_4 : ∀ w ∈ wsX30, w ∈ wsX10_stretchPart := fun w h => List.mem_cons_of_mem _ (List.mem_append_right _ h)
theorem ggX10_stretchPart_X10_isWithin : GoodIn wsX10_stretchPart wsX10_isWithin := gk_cons (gm_X10_stretchPart_0 _ (List.mem_of_getElem? (i := 8) rfl)) rfl gk_nil
theorem gX10_stretchPart_X10_isWithin : GoodIn wsX10_stretchPart (va_wsS RX10 94 yX10_isWithin wsX10_isWithin) := goodIn_app (gk_cons (gm_X10_stretchPart_0 _ (List.mem_of_getElem? (i := 5) rfl)) rfl (gk_cons (gm_X10_stretchPart_0 _ (List.mem_of_getElem? (i := 6) rfl)) rfl (gk_cons (gm_X10_stretchPart_0 _ (List.mem_of_getElem? (i := 7) rfl)) rfl gk_nil))) ggX10_stretchPart_X10_isWithin
theorem ggX10_stretchPart_X3_become : GoodIn wsX10_stretchPart wsX3_become := gk_cons (gm_X10_stretchPart_0 _ (List.mem_of_getElem? (i := 13) rfl)) rfl (goodIn_app (gk_cons (gm_X10_stretchPart_0 _ (List.mem_of_getElem? (i := 14) rfl)) rfl (gk_cons (gm_X10_stretchPart_0 _ (List.mem_of_getElem? (i := 15) rfl)) rfl (gk_cons (gm_X10_stretchPart_0 _ (List.mem_of_getElem? (i := 16) rfl)) rfl (gk_cons (gm_X10_stretchPart_0 _ (List.mem_of_getElem? (i := 17) rfl)) rfl (gk_cons (gm_X10_stretchPart_0 _ (List.mem_of_getElem? (i := 18) rfl)) rfl (gk_cons (gm_X10_stretchPart_0 _ (List.mem_of_getElem? (i := 19) rfl)) rfl (gk_cons (gm_X10_stretchPart_0 _ (List.mem_of_getElem? (i := 20) rfl)) rfl (gk_cons (gm_X10_stretchPart_0 _ (List.mem_of_getElem? (i := 21) rfl)) rfl (gk_cons (gm_X10_stretchPart_0 _ (List.mem_of_getElem? (i := 12) rfl)) rfl (gk_cons (gm_X10_stretchPart_0 _ (List.mem_of_getElem? (i := 22) rfl)) rfl gk_nil)))))))))) (goodIn_sub gm_X10_stretchPart_4 ag_wsX30))
theorem gX10_stretchPart_X3_become : GoodIn wsX10_stretchPart (wsV RX10 207 RX3 yX3_become wsX3_become) := goodIn_app (gk_cons (gm_X10_stretchPart_0 _ (List.mem_of_getElem? (i := 9) rfl)) rfl (gk_cons (gm_X10_stretchPart_0 _ (List.mem_of_getElem? (i := 10) rfl)) rfl (gk_cons (gm_X10_stretchPart_0 _ (List.mem_of_getElem? (i := 11) rfl)) rfl (gk_cons (gm_X10_stretchPart_0 _ (List.mem_of_getElem? (i := 12) rfl)) rfl gk_nil)))) ggX10_stretchPart_X3_become
theorem ggX10_stretchPart_X3_partOf : GoodIn wsX10_stretchPart wsX3_partOf := gk_cons (gm_X10_stretchPart_1 _ (List.mem_of_getElem? (i := 2) rfl)) rfl (goodIn_app (gk_cons (gm_X10_stretchPart_0 _ (List.mem_of_getElem? (i := 18) rfl)) rfl (gk_cons (gm_X10_stretchPart_0 _ (List.mem_of_getElem? (i := 19) rfl)) rfl (gk_cons (gm_X10_stretchPart_1 _ (List.mem_of_getElem? (i := 3) rfl)) rfl gk_nil))) (goodIn_sub gm_X10_stretchPart_4 ag_wsX30))
theorem gX10_stretchPart_X3_partOf : GoodIn wsX10_stretchPart (wsV RX10 210 RX3 yX3_partOf wsX3_partOf) := goodIn_app (gk_cons (gm_X10_stretchPart_0 _ (List.mem_of_getElem? (i := 23) rfl)) rfl (gk_cons (gm_X10_stretchPart_1 _ (List.mem_of_getElem? (i := 0) rfl)) rfl (gk_cons (gm_X10_stretchPart_1 _ (List.mem_of_getElem? (i := 1) rfl)) rfl (gk_cons (gm_X10_stretchPart_0 _ (List.mem_of_getElem? (i := 12) rfl)) rfl gk_nil)))) ggX10_stretchPart_X3_partOf
theorem dX10_stretchPart_0 : decode cX10_stretchPart 0 = .ok (.aload_n 0, 1) := by decide +kernel
theorem dX10_stretchPart_1 : decode cX10_stretchPart 1 = .ok (.getfield 69, 3) := by decide +kernel
theorem dX10_stretchPart_4 : decode cX10_stretchPart 4 = .ok (.getfield 172, 3) := by decide +kernel
theorem dX10_stretchPart_7 : decode cX10_stretchPart 7 = .ok (.lconst 0, 1) := by decide +kernel
theorem dX10_stretchPart_8 : decode cX10_stretchPart 8 = .ok (.lcmp, 1) := by decide +kernel
theorem dX10_stretchPart_9 : decode cX10_stretchPart 9 = .ok (.ifCond .eq 12, 3) := by decide +kernel
theorem dX10_stretchPart_12 : decode cX10_stretchPart 12 = .ok (.iload_n 1, 1) := by decide +kernel
theorem dX10_stretchPart_13 : decode cX10_stretchPart 13 = .ok (.iconst 0, 1) := by decide +kernel
theorem dX10_stretchPart_14 : decode cX10_stretchPart 14 = .ok (.iconst 2, 1) := by decide +kernel
theorem dX10_stretchPart_15 : decode cX10_stretchPart 15 = .ok (.invokestatic 94, 3) := by decide +kernel
theorem dX10_stretchPart_18 : decode cX10_stretchPart 18 = .ok (.ifCond .ne 7, 3) := by decide +kernel
theorem dX10_stretchPart_21 : decode cX10_stretchPart 21 = .ok (.ldc2_w 148, 3) := by decide +kernel
theorem dX10_stretchPart_24 : decode cX10_stretchPart 24 = .ok (.lreturn, 1) := by decide +kernel
theorem dX10_stretchPart_25 : decode cX10_stretchPart 25 = .ok (.aload_n 0, 1) := by decide +kernel
theorem dX10_stretchPart_26 : decode cX10_stretchPart 26 = .ok (.getfield 52, 3) := by decide +kernel
theorem dX10_stretchPart_29 : decode cX10_stretchPart 29 = .ok (.aload_n 0, 1) := by decide +kernel
theorem dX10_stretchPart_30 : decode cX10_stretchPart 30 = .ok (.getfield 69, 3) := by decide +kernel
theorem dX10_stretchPart_33 : decode cX10_stretchPart 33 = .ok (.getfield 268, 3) := by decide +kernel
theorem dX10_stretchPart_36 : decode cX10_stretchPart 36 = .ok (.iload_n 1, 1) := by decide +kernel
theorem dX10_stretchPart_37 : decode cX10_stretchPart 37 = .ok (.laload, 1) := by decide +kernel
theorem dX10_stretchPart_38 : decode cX10_stretchPart 38 = .ok (.aload_n 0, 1) := by decide +kernel
theorem dX10_stretchPart_39 : decode cX10_stretchPart 39 = .ok (.getfield 69, 3) := by decide +kernel
theorem dX10_stretchPart_42 : decode cX10_stretchPart 42 = .ok (.getfield 172, 3) := by decide +kernel
theorem dX10_stretchPart_45 : decode cX10_stretchPart 45 = .ok (.invokevirtual 207, 3) := by decide +kernel
theorem dX10_stretchPart_48 : decode cX10_stretchPart 48 = .ok (.aload_n 0, 1) := by decide +kernel
theorem dX10_stretchPart_49 : decode cX10_stretchPart 49 = .ok (.getfield 52, 3) := by decide +kernel
theorem dX10_stretchPart_52 : decode cX10_stretchPart 52 = .ok (.iload_n 2, 1) := by decide +kernel
theorem dX10_stretchPart_53 : decode cX10_stretchPart 53 = .ok (.invokevirtual 210, 3) := by decide +kernel
theorem dX10_stretchPart_56 : decode cX10_stretchPart 56 = .ok (.lreturn, 1) := by decide +kernel
theorem dX11_init_0 : decode cX11_init 0 = .ok (.aload_n 0, 1) := by decide +kernel
theorem dX11_init_1 : decode cX11_init 1 = .ok (.invokespecial 3, 3) := by decide +kernel
theorem dX11_init_4 : decode cX11_init 4 = .ok (.aload_n 0, 1) := by decide +kernel
theorem dX11_init_5 : decode cX11_init 5 = .ok (.bipush 12, 2) := by decide +kernel
theorem dX11_init_7 : decode cX11_init 7 = .ok (.putfield 9, 3) := by decide +kernel
theorem dX11_init_10 : decode cX11_init 10 = .ok (.aload_n 0, 1) := by decide +kernel
theorem dX11_init_11 : decode cX11_init 11 = .ok (.iconst 3, 1) := by decide +kernel
theorem dX11_init_12 : decode cX11_init 12 = .ok (.newarray .int, 2) := by decide +kernel
theorem dX11_init_14 : decode cX11_init 14 = .ok (.putfield 13, 3) := by decide +kernel
theorem dX11_init_17 : decode cX11_init 17 = .ok (.aload_n 0, 1) := by decide +kernel
theorem dX11_init_18 : decode cX11_init 18 = .ok (.iconst 3, 1) := by decide +kernel
theorem dX11_init_19 : decode cX11_init 19 = .ok (.newarray .int, 2) := by decide +kernel
theorem dX11_init_21 : decode cX11_init 21 = .ok (.putfield 17, 3) := by decide +kernel
theorem dX11_init_24 : decode cX11_init 24 = .ok (.aload_n 0, 1) := by decide +kernel
theorem dX11_init_25 : decode cX11_init 25 = .ok (.iconst 3, 1) := by decide +kernel
theorem dX11_init_26 : decode cX11_init 26 = .ok (.newarray .int, 2) := by decide +kernel
theorem dX11_init_28 : decode cX11_init 28 = .ok (.putfield 20, 3) := by decide +kernel
theorem dX11_init_31 : decode cX11_init 31 = .ok (.aload_n 0, 1) := by decide +kernel
theorem dX11_init_32 : decode cX11_init 32 = .ok (.iconst 3, 1) := by decide +kernel
theorem dX11_init_33 : decode cX11_init 33 = .ok (.newarray .int, 2) := by decide +kernel
theorem dX11_init_35 : decode cX11_init 35 = .ok (.putfield 23, 3) := by decide +kernel
theorem dX11_init_38 : decode cX11_init 38 = .ok (.aload_n 0, 1) := by decide +kernel
theorem dX11_init_39 : decode cX11_init 39 = .ok (.bipush 15, 2) := by decide +kernel
theorem dX11_init_41 : decode cX11_init 41 = .ok (.newarray .int, 2) := by decide +kernel
theorem dX11_init_43 : decode cX11_init 43 = .ok (.putfield 26, 3) := by decide +kernel
theorem dX11_init_46 : decode cX11_init 46 = .ok (.aload_n 0, 1) := by decide +kernel
theorem dX11_init_47 : decode cX11_init 47 = .ok (.iconst 3, 1) := by decide +kernel
theorem dX11_init_48 : decode cX11_init 48 = .ok (.newarray .int, 2) := by decide +kernel
theorem dX11_init_50 : decode cX11_init 50 = .ok (.putfield 29, 3) := by decide +kernel
theorem dX11_init_53 : decode cX11_init 53 = .ok (.aload_n 0, 1) := by decide +kernel
theorem dX11_init_54 : decode cX11_init 54 = .ok (.iconst 3, 1) := by decide +kernel
theorem dX11_init_55 : decode cX11_init 55 = .ok (.newarray .int, 2) := by decide +kernel
theorem dX11_init_57 : decode cX11_init 57 = .ok (.putfield 32, 3) := by decide +kernel
theorem dX11_init_60 : decode cX11_init 60 = .ok (.aload_n 0, 1) := by decide +kernel
theorem dX11_init_61 : decode cX11_init 61 = .ok (.iconst 5, 1) := by decide +kernel
theorem dX11_init_62 : decode cX11_init 62 = .ok (.newarray .int, 2) := by decide +kernel
theorem dX11_init_64 : decode cX11_init 64 = .ok (.putfield 35, 3) := by decide +kernel
theorem dX11_init_67 : decode cX11_init 67 = .ok (.aload_n 0, 1) := by decide +kernel
theorem dX11_init_68 : decode cX11_init 68 = .ok (.bipush 60, 2) := by decide +kernel
theorem dX11_init_70 : decode cX11_init 70 = .ok (.newarray .int, 2) := by decide +kernel
theorem dX11_init_72 : decode cX11_init 72 = .ok (.putfield 38, 3) := by decide +kernel
theorem dX11_init_75 : decode cX11_init 75 = .ok (.aload_n 0, 1) := by decide +kernel
theorem dX11_init_76 : decode cX11_init 76 = .ok (.bipush 60, 2) := by decide +kernel
theorem dX11_init_78 : decode cX11_init 78 = .ok (.newarray .int, 2) := by decide +kernel
theorem dX11_init_80 : decode cX11_init 80 = .ok (.putfield 41, 3) := by decide +kernel
theorem dX11_init_83 : decode cX11_init 83 = .ok (.aload_n 0, 1) := by decide +kernel
theorem dX11_init_84 : decode cX11_init 84 = .ok (.bipush 60, 2) := by decide +kernel
theorem dX11_init_86 : decode cX11_init 86 = .ok (.newarray .int, 2) := by decide +kernel
theorem dX11_init_88 : decode cX11_init 88 = .ok (.putfield 44, 3) := by decide +kernel
theorem dX11_init_91 : decode cX11_init 91 = .ok (.aload_n 0, 1) := by decide +kernel
theorem dX11_init_92 : decode cX11_init 92 = .ok (.bipush 60, 2) := by decide +kernel
theorem dX11_init_94 : decode cX11_init 94 = .ok (.newarray .int, 2) := by decide +kernel
theorem dX11_init_96 : decode cX11_init 96 = .ok (.putfield 47, 3) := by decide +kernel
theorem dX11_init_99 : decode cX11_init 99 = .ok (.aload_n 0, 1) := by decide +kernel
theorem dX11_init_100 : decode cX11_init 100 = .ok (.iconst 4, 1) := by decide +kernel
theorem dX11_init_101 : decode cX11_init 101 = .ok (.newarray .int, 2) := by decide +kernel
theorem dX11_init_103 : decode cX11_init 103 = .ok (.putfield 50, 3) := by decide +kernel
theorem dX11_init_106 : decode cX11_init 106 = .ok (.aload_n 0, 1) := by decide +kernel
theorem dX11_init_107 : decode cX11_init 107 = .ok (.iconst 4, 1) := by decide +kernel
theorem dX11_init_108 : decode cX11_init 108 = .ok (.newarray .int, 2) := by decide +kernel
theorem dX11_init_110 : decode cX11_init 110 = .ok (.putfield 53, 3) := by decide +kernel
theorem dX11_init_113 : decode cX11_init 113 = .ok (.aload_n 0, 1) := by decide +kernel
theorem dX11_init_114 : decode cX11_init 114 = .ok (.iconst 4, 1) := by decide +kernel
theorem dX11_init_115 : decode cX11_init 115 = .ok (.newarray .int, 2) := by decide +kernel
theorem dX11_init_117 : decode cX11_init 117 = .ok (.putfield 56, 3) := by decide +kernel
theorem dX11_init_120 : decode cX11_init 120 = .ok (.aload_n 0, 1) := by decide +kernel
theorem dX11_init_121 : decode cX11_init 121 = .ok (.bipush 30, 2) := by decide +kernel
theorem dX11_init_123 : decode cX11_init 123 = .ok (.newarray .int, 2) := by decide +kernel
theorem dX11_init_125 : decode cX11_init 125 = .ok (.putfield 59, 3) := by decide +kernel
theorem dX11_init_128 : decode cX11_init 128 = .ok (.aload_n 0, 1) := by decide +kernel
theorem dX11_init_129 : decode cX11_init 129 = .ok (.bipush 30, 2) := by decide +kernel
theorem dX11_init_131 : decode cX11_init 131 = .ok (.newarray .long, 2) := by decide +kernel
theorem dX11_init_133 : decode cX11_init 133 = .ok (.putfield 62, 3) := by decide +kernel
theorem dX11_init_136 : decode cX11_init 136 = .ok (.aload_n 0, 1) := by decide +kernel
theorem dX11_init_137 : decode cX11_init 137 = .ok (.bipush 30, 2) := by decide +kernel
theorem dX11_init_139 : decode cX11_init 139 = .ok (.newarray .long, 2) := by decide +kernel
theorem dX11_init_141 : decode cX11_init 141 = .ok (.putfield 66, 3) := by decide +kernel
theorem dX11_init_144 : decode cX11_init 144 = .ok (.return_, 1) := by decide +kernel
theorem dX11_isIn_0 : decode cX11_isIn 0 = .ok (.iload_n 0, 1) := by decide +kernel
theorem dX11_isIn_1 : decode cX11_isIn 1 = .ok (.iload_n 1, 1) := by decide +kernel
theorem dX11_isIn_2 : decode cX11_isIn 2 = .ok (.if_icmp .lt 12, 3) := by decide +kernel
theorem dX11_isIn_5 : decode cX11_isIn 5 = .ok (.iload_n 0, 1) := by decide +kernel
theorem dX11_isIn_6 : decode cX11_isIn 6 = .ok (.iload_n 2, 1) := by decide +kernel
theorem dX11_isIn_7 : decode cX11_isIn 7 = .ok (.if_icmp .gt 7, 3) := by decide +kernel
theorem dX11_isIn_10 : decode cX11_isIn 10 = .ok (.iconst 1, 1) := by decide +kernel
theorem dX11_isIn_11 : decode cX11_isIn 11 = .ok (.goto 4, 3) := by decide +kernel
theorem dX11_isIn_14 : decode cX11_isIn 14 = .ok (.iconst 0, 1) := by decide +kernel
theorem dX11_isIn_15 : decode cX11_isIn 15 = .ok (.ireturn, 1) := by decide +kernel
theorem gm_X11_stuff_0 : ∀ w ∈ wsX110, w ∈ wsX11_stuff := fun w h => List.mem_cons_of_mem _ (List.mem_append_right _ h)
theorem ggX11_stuff_X11_isIn : GoodIn wsX11_stuff wsX11_isIn := gk_cons (List.mem_cons_of_mem _ (List.mem_append_left _ (List.mem_of_getElem? (i := 9) rfl))) rfl gk_nil
theorem gX11_stuff_X11_isIn : GoodIn wsX11_stuff (va_wsS RX11 69 yX11_isIn wsX11_isIn) := goodIn_app (gk_cons (List.mem_cons_of_mem _ (List.mem_append_left _ (List.mem_of_getElem? (i := 6) rfl))) rfl (gk_cons (List.mem_cons_of_mem _ (List.mem_append_left _ (List.mem_of_getElem? (i := 7) rfl))) rfl (gk_cons (List.mem_cons_of_mem _ (List.mem_append_left _ (List.mem_of_getElem? (i := 8) rfl))) rfl gk_nil))) ggX11_stuff_X11_isIn
theorem dX11_stuff_0 : decode cX11_stuff 0 = .ok (.iload_n 1, 1) := by decide +kernel
theorem dX11_stuff_1 : decode cX11_stuff 1 = .ok (.iconst 1, 1) := by decide +kernel
theorem dX11_stuff_2 : decode cX11_stuff 2 = .ok (.sipush 200, 3) := by decide +kernel
theorem dX11_stuff_5 : decode cX11_stuff 5 = .ok (.invokestatic 69, 3) := by decide +kernel
theorem dX11_stuff_8 : decode cX11_stuff 8 = .ok (.ifCond .eq 46, 3) := by decide +kernel
theorem dX11_stuff_11 : decode cX11_stuff 11 = .ok (.iload_n 2, 1) := by decide +kernel
theorem dX11_stuff_12 : decode cX11_stuff 12 = .ok (.iconst 1, 1) := by decide +kernel
theorem dX11_stuff_13 : decode cX11_stuff 13 = .ok (.sipush 200, 3) := by decide +kernel
theorem dX11_stuff_16 : decode cX11_stuff 16 = .ok (.invokestatic 69, 3) := by decide +kernel
theorem dX11_stuff_19 : decode cX11_stuff 19 = .ok (.ifCond .eq 35, 3) := by decide +kernel
theorem dX11_stuff_22 : decode cX11_stuff 22 = .ok (.iload_n 3, 1) := by decide +kernel
theorem dX11_stuff_23 : decode cX11_stuff 23 = .ok (.iconst 0, 1) := by decide +kernel
theorem dX11_stuff_24 : decode cX11_stuff 24 = .ok (.sipush 200, 3) := by decide +kernel
theorem dX11_stuff_27 : decode cX11_stuff 27 = .ok (.invokestatic 69, 3) := by decide +kernel
theorem dX11_stuff_30 : decode cX11_stuff 30 = .ok (.ifCond .eq 24, 3) := by decide +kernel
theorem dX11_stuff_33 : decode cX11_stuff 33 = .ok (.iload 4, 2) := by decide +kernel
theorem dX11_stuff_35 : decode cX11_stuff 35 = .ok (.iconst 1, 1) := by decide +kernel
theorem dX11_stuff_36 : decode cX11_stuff 36 = .ok (.sipush 200, 3) := by decide +kernel
theorem dX11_stuff_39 : decode cX11_stuff 39 = .ok (.invokestatic 69, 3) := by decide +kernel
theorem dX11_stuff_42 : decode cX11_stuff 42 = .ok (.ifCond .eq 12, 3) := by decide +kernel
theorem dX11_stuff_45 : decode cX11_stuff 45 = .ok (.iload_n 3, 1) := by decide +kernel
theorem dX11_stuff_46 : decode cX11_stuff 46 = .ok (.iload_n 3, 1) := by decide +kernel
theorem dX11_stuff_47 : decode cX11_stuff 47 = .ok (.imul, 1) := by decide +kernel
theorem dX11_stuff_48 : decode cX11_stuff 48 = .ok (.iload_n 1, 1) := by decide +kernel
theorem dX11_stuff_49 : decode cX11_stuff 49 = .ok (.iload_n 2, 1) := by decide +kernel
theorem dX11_stuff_50 : decode cX11_stuff 50 = .ok (.imul, 1) := by decide +kernel
theorem dX11_stuff_51 : decode cX11_stuff 51 = .ok (.if_icmp .lt 6, 3) := by decide +kernel
theorem dX11_stuff_54 : decode cX11_stuff 54 = .ok (.bipush (-2), 2) := by decide +kernel
theorem dX11_stuff_56 : decode cX11_stuff 56 = .ok (.ireturn, 1) := by decide +kernel
theorem dX11_stuff_57 : decode cX11_stuff 57 = .ok (.aload_n 0, 1) := by decide +kernel
theorem dX11_stuff_58 : decode cX11_stuff 58 = .ok (.getfield 73, 3) := by decide +kernel
theorem dX11_stuff_61 : decode cX11_stuff 61 = .ok (.iconst 3, 1) := by decide +kernel
theorem dX11_stuff_62 : decode cX11_stuff 62 = .ok (.if_icmp .ne 6, 3) := by decide +kernel
theorem dX11_stuff_65 : decode cX11_stuff 65 = .ok (.bipush (-4), 2) := by decide +kernel
theorem dX11_stuff_67 : decode cX11_stuff 67 = .ok (.ireturn, 1) := by decide +kernel
theorem dX11_stuff_68 : decode cX11_stuff 68 = .ok (.aload_n 0, 1) := by decide +kernel
theorem dX11_stuff_69 : decode cX11_stuff 69 = .ok (.getfield 13, 3) := by decide +kernel
theorem dX11_stuff_72 : decode cX11_stuff 72 = .ok (.aload_n 0, 1) := by decide +kernel
theorem dX11_stuff_73 : decode cX11_stuff 73 = .ok (.getfield 73, 3) := by decide +kernel
theorem dX11_stuff_76 : decode cX11_stuff 76 = .ok (.iload_n 1, 1) := by decide +kernel
theorem dX11_stuff_77 : decode cX11_stuff 77 = .ok (.iastore, 1) := by decide +kernel
theorem dX11_stuff_78 : decode cX11_stuff 78 = .ok (.aload_n 0, 1) := by decide +kernel
theorem dX11_stuff_79 : decode cX11_stuff 79 = .ok (.getfield 17, 3) := by decide +kernel
theorem dX11_stuff_82 : decode cX11_stuff 82 = .ok (.aload_n 0, 1) := by decide +kernel
theorem dX11_stuff_83 : decode cX11_stuff 83 = .ok (.getfield 73, 3) := by decide +kernel
theorem dX11_stuff_86 : decode cX11_stuff 86 = .ok (.iload_n 2, 1) := by decide +kernel
theorem dX11_stuff_87 : decode cX11_stuff 87 = .ok (.iastore, 1) := by decide +kernel
theorem dX11_stuff_88 : decode cX11_stuff 88 = .ok (.aload_n 0, 1) := by decide +kernel
theorem dX11_stuff_89 : decode cX11_stuff 89 = .ok (.getfield 20, 3) := by decide +kernel
theorem dX11_stuff_92 : decode cX11_stuff 92 = .ok (.aload_n 0, 1) := by decide +kernel
theorem dX11_stuff_93 : decode cX11_stuff 93 = .ok (.getfield 73, 3) := by decide +kernel
theorem dX11_stuff_96 : decode cX11_stuff 96 = .ok (.iload_n 3, 1) := by decide +kernel
theorem dX11_stuff_97 : decode cX11_stuff 97 = .ok (.iastore, 1) := by decide +kernel
theorem dX11_stuff_98 : decode cX11_stuff 98 = .ok (.aload_n 0, 1) := by decide +kernel
theorem dX11_stuff_99 : decode cX11_stuff 99 = .ok (.getfield 23, 3) := by decide +kernel
theorem dX11_stuff_102 : decode cX11_stuff 102 = .ok (.aload_n 0, 1) := by decide +kernel
theorem dX11_stuff_103 : decode cX11_stuff 103 = .ok (.getfield 73, 3) := by decide +kernel
theorem dX11_stuff_106 : decode cX11_stuff 106 = .ok (.iload 4, 2) := by decide +kernel
theorem dX11_stuff_108 : decode cX11_stuff 108 = .ok (.iastore, 1) := by decide +kernel
theorem dX11_stuff_109 : decode cX11_stuff 109 = .ok (.iconst 0, 1) := by decide +kernel
theorem dX11_stuff_110 : decode cX11_stuff 110 = .ok (.istore 5, 2) := by decide +kernel
theorem dX11_stuff_112 : decode cX11_stuff 112 = .ok (.iload 5, 2) := by decide +kernel
theorem dX11_stuff_114 : decode cX11_stuff 114 = .ok (.iconst 5, 1) := by decide +kernel
theorem dX11_stuff_115 : decode cX11_stuff 115 = .ok (.if_icmp .ge 25, 3) := by decide +kernel
theorem dX11_stuff_118 : decode cX11_stuff 118 = .ok (.aload_n 0, 1) := by decide +kernel
theorem dX11_stuff_119 : decode cX11_stuff 119 = .ok (.getfield 26, 3) := by decide +kernel
theorem dX11_stuff_122 : decode cX11_stuff 122 = .ok (.iconst 5, 1) := by decide +kernel
theorem dX11_stuff_123 : decode cX11_stuff 123 = .ok (.aload_n 0, 1) := by decide +kernel
theorem dX11_stuff_124 : decode cX11_stuff 124 = .ok (.getfield 73, 3) := by decide +kernel
theorem dX11_stuff_127 : decode cX11_stuff 127 = .ok (.imul, 1) := by decide +kernel
theorem dX11_stuff_128 : decode cX11_stuff 128 = .ok (.iload 5, 2) := by decide +kernel
theorem dX11_stuff_130 : decode cX11_stuff 130 = .ok (.iadd, 1) := by decide +kernel
theorem dX11_stuff_131 : decode cX11_stuff 131 = .ok (.bipush 100, 2) := by decide +kernel
theorem dX11_stuff_133 : decode cX11_stuff 133 = .ok (.iastore, 1) := by decide +kernel
theorem dX11_stuff_134 : decode cX11_stuff 134 = .ok (.iinc 5 1, 3) := by decide +kernel
theorem dX11_stuff_137 : decode cX11_stuff 137 = .ok (.goto (-25), 3) := by decide +kernel
theorem dX11_stuff_140 : decode cX11_stuff 140 = .ok (.aload_n 0, 1) := by decide +kernel
theorem dX11_stuff_141 : decode cX11_stuff 141 = .ok (.dup, 1) := by decide +kernel
theorem dX11_stuff_142 : decode cX11_stuff 142 = .ok (.getfield 73, 3) := by decide +kernel
theorem dX11_stuff_145 : decode cX11_stuff 145 = .ok (.iconst 1, 1) := by decide +kernel
theorem dX11_stuff_146 : decode cX11_stuff 146 = .ok (.iadd, 1) := by decide +kernel
theorem dX11_stuff_147 : decode cX11_stuff 147 = .ok (.putfield 73, 3) := by decide +kernel
theorem dX11_stuff_150 : decode cX11_stuff 150 = .ok (.aload_n 0, 1) := by decide +kernel
theorem dX11_stuff_151 : decode cX11_stuff 151 = .ok (.getfield 73, 3) := by decide +kernel
theorem dX11_stuff_154 : decode cX11_stuff 154 = .ok (.iconst 1, 1) := by decide +kernel
theorem dX11_stuff_155 : decode cX11_stuff 155 = .ok (.isub, 1) := by decide +kernel
theorem dX11_stuff_156 : decode cX11_stuff 156 = .ok (.ireturn, 1) := by decide +kernel
theorem gm_X11_isStuff_0 : ∀ w ∈ wsX110, w ∈ wsX11_isStuff := fun w h => List.mem_cons_of_mem _ (List.mem_append_right _ h)
theorem ggX11_isStuff_X11_isIn : GoodIn wsX11_isStuff wsX11_isIn := gk_cons (List.mem_cons_of_mem _ (List.mem_append_left _ (List.mem_of_getElem? (i := 4) rfl))) rfl gk_nil
theorem gX11_isStuff_X11_isIn : GoodIn wsX11_isStuff (va_wsS RX11 69 yX11_isIn wsX11_isIn) := goodIn_app (gk_cons (List.mem_cons_of_mem _ (List.mem_append_left _ (List.mem_of_getElem? (i := 1) rfl))) rfl (gk_cons (List.mem_cons_of_mem _ (List.mem_append_left _ (List.mem_of_getElem? (i := 2) rfl))) rfl (gk_cons (List.mem_cons_of_mem _ (List.mem_append_left _ (List.mem_of_getElem? (i := 3) rfl))) rfl gk_nil))) ggX11_isStuff_X11_isIn
theorem dX11_isStuff_0 : decode cX11_isStuff 0 = .ok (.iload_n 1, 1) := by decide +kernel
theorem dX11_isStuff_1 : decode cX11_isStuff 1 = .ok (.iconst 0, 1) := by decide +kernel
theorem dX11_isStuff_2 : decode cX11_isStuff 2 = .ok (.aload_n 0, 1) := by decide +kernel
theorem dX11_isStuff_3 : decode cX11_isStuff 3 = .ok (.getfield 73, 3) := by decide +kernel
theorem dX11_isStuff_6 : decode cX11_isStuff 6 = .ok (.iconst 1, 1) := by decide +kernel
theorem dX11_isStuff_7 : decode cX11_isStuff 7 = .ok (.isub, 1) := by decide +kernel
theorem dX11_isStuff_8 : decode cX11_isStuff 8 = .ok (.invokestatic 69, 3) := by decide +kernel
theorem dX11_isStuff_11 : decode cX11_isStuff 11 = .ok (.ireturn, 1) := by decide +kernel
theorem gm_X11_isPlate_0 : ∀ w ∈ wsX110, w ∈ wsX11_isPlate := fun w h => List.mem_cons_of_mem _ (List.mem_append_right _ h)
theorem ggX11_isPlate_X11_isIn : GoodIn wsX11_isPlate wsX11_isIn := gk_cons (List.mem_cons_of_mem _ (List.mem_append_left _ (List.mem_of_getElem? (i := 4) rfl))) rfl gk_nil
theorem gX11_isPlate_X11_isIn : GoodIn wsX11_isPlate (va_wsS RX11 69 yX11_isIn wsX11_isIn) := goodIn_app (gk_cons (List.mem_cons_of_mem _ (List.mem_append_left _ (List.mem_of_getElem? (i := 1) rfl))) rfl (gk_cons (List.mem_cons_of_mem _ (List.mem_append_left _ (List.mem_of_getElem? (i := 2) rfl))) rfl (gk_cons (List.mem_cons_of_mem _ (List.mem_append_left _ (List.mem_of_getElem? (i := 3) rfl))) rfl gk_nil))) ggX11_isPlate_X11_isIn
theorem dX11_isPlate_0 : decode cX11_isPlate 0 = .ok (.iload_n 1, 1) := by decide +kernel
theorem dX11_isPlate_1 : decode cX11_isPlate 1 = .ok (.iconst 0, 1) := by decide +kernel
theorem dX11_isPlate_2 : decode cX11_isPlate 2 = .ok (.aload_n 0, 1) := by decide +kernel
theorem dX11_isPlate_3 : decode cX11_isPlate 3 = .ok (.getfield 76, 3) := by decide +kernel
theorem dX11_isPlate_6 : decode cX11_isPlate 6 = .ok (.iconst 1, 1) := by decide +kernel
theorem dX11_isPlate_7 : decode cX11_isPlate 7 = .ok (.isub, 1) := by decide +kernel
theorem dX11_isPlate_8 : decode cX11_isPlate 8 = .ok (.invokestatic 69, 3) := by decide +kernel
theorem dX11_isPlate_11 : decode cX11_isPlate 11 = .ok (.ireturn, 1) := by decide +kernel
set_option maxRecDepth 20000 in
theorem ag_wsX110 : (wsX110).all goodWord = true := by decide +kernel
theorem gm_X11_isLayer_0 : ∀ w ∈ wsX110, w ∈ wsX11_isLayer := fun w h => List.mem_cons_of_mem _ (List.mem_append_right _ h)
theorem ggX11_isLayer_X11_isPlate : GoodIn wsX11_isLayer wsX11_isPlate := gk_cons (List.mem_cons_of_mem _ (List.mem_append_left _ (List.mem_of_getElem? (i := 5) rfl))) rfl (goodIn_app (gk_cons (List.mem_cons_of_mem _ (List.mem_append_left _ (List.mem_of_getElem? (i := 6) rfl))) rfl (gk_cons (List.mem_cons_of_mem _ (List.mem_append_left _ (List.mem_of_getElem? (i := 7) rfl))) rfl (gk_cons (List.mem_cons_of_mem _ (List.mem_append_left _ (List.mem_of_getElem? (i := 8) rfl))) rfl (gk_cons (List.mem_cons_of_mem _ (List.mem_append_left _ (List.mem_of_getElem? (i := 4) rfl))) rfl (gk_cons (List.mem_cons_of_mem _ (List.mem_append_left _ (List.mem_of_getElem? (i := 9) rfl))) rfl gk_nil))))) (goodIn_sub gm_X11_isLayer_0 ag_wsX110))
theorem gX11_isLayer_X11_isPlate : GoodIn wsX11_isLayer (wsV RX11 79 RX11 yX11_isPlate wsX11_isPlate) := goodIn_app (gk_cons (List.mem_cons_of_mem _ (List.mem_append_left _ (List.mem_of_getElem? (i := 1) rfl))) rfl (gk_cons (List.mem_cons_of_mem _ (List.mem_append_left _ (List.mem_of_getElem? (i := 2) rfl))) rfl (gk_cons (List.mem_cons_of_mem _ (List.mem_append_left _ (List.mem_of_getElem? (i := 3) rfl))) rfl (gk_cons (List.mem_cons_of_mem _ (List.mem_append_left _ (List.mem_of_getElem? (i := 4) rfl))) rfl gk_nil)))) ggX11_isLayer_X11_isPlate
theorem ggX11_isLayer_X11_isIn : GoodIn wsX11_isLayer wsX11_isIn := gk_cons (List.mem_cons_of_mem _ (List.mem_append_left _ (List.mem_of_getElem? (i := 9) rfl))) rfl gk_nil
theorem gX11_isLayer_X11_isIn : GoodIn wsX11_isLayer (va_wsS RX11 69 yX11_isIn wsX11_isIn) := goodIn_app (gk_cons (List.mem_cons_of_mem _ (List.mem_append_left _ (List.mem_of_getElem? (i := 7) rfl))) rfl (gk_cons (List.mem_cons_of_mem _ (List.mem_append_left _ (List.mem_of_getElem? (i := 8) rfl))) rfl (gk_cons (List.mem_cons_of_mem _ (List.mem_append_left _ (List.mem_of_getElem? (i := 4) rfl))) rfl gk_nil))) ggX11_isLayer_X11_isIn
theorem dX11_isLayer_0 : decode cX11_isLayer 0 = .ok (.aload_n 0, 1) := by decide +kernel
theorem dX11_isLayer_1 : decode cX11_isLayer 1 = .ok (.iload_n 1, 1) := by decide +kernel
theorem dX11_isLayer_2 : decode cX11_isLayer 2 = .ok (.invokevirtual 79, 3) := by decide +kernel
theorem dX11_isLayer_5 : decode cX11_isLayer 5 = .ok (.ifCond .eq 23, 3) := by decide +kernel
theorem dX11_isLayer_8 : decode cX11_isLayer 8 = .ok (.iload_n 2, 1) := by decide +kernel
theorem dX11_isLayer_9 : decode cX11_isLayer 9 = .ok (.iconst 0, 1) := by decide +kernel
theorem dX11_isLayer_10 : decode cX11_isLayer 10 = .ok (.aload_n 0, 1) := by decide +kernel
theorem dX11_isLayer_11 : decode cX11_isLayer 11 = .ok (.getfield 35, 3) := by decide +kernel
theorem dX11_isLayer_14 : decode cX11_isLayer 14 = .ok (.iload_n 1, 1) := by decide +kernel
theorem dX11_isLayer_15 : decode cX11_isLayer 15 = .ok (.iaload, 1) := by decide +kernel
theorem dX11_isLayer_16 : decode cX11_isLayer 16 = .ok (.iconst 1, 1) := by decide +kernel
theorem dX11_isLayer_17 : decode cX11_isLayer 17 = .ok (.isub, 1) := by decide +kernel
theorem dX11_isLayer_18 : decode cX11_isLayer 18 = .ok (.invokestatic 69, 3) := by decide +kernel
theorem dX11_isLayer_21 : decode cX11_isLayer 21 = .ok (.ifCond .eq 7, 3) := by decide +kernel
theorem dX11_isLayer_24 : decode cX11_isLayer 24 = .ok (.iconst 1, 1) := by decide +kernel
theorem dX11_isLayer_25 : decode cX11_isLayer 25 = .ok (.goto 4, 3) := by decide +kernel
theorem dX11_isLayer_28 : decode cX11_isLayer 28 = .ok (.iconst 0, 1) := by decide +kernel
theorem dX11_isLayer_29 : decode cX11_isLayer 29 = .ok (.ireturn, 1) := by decide +kernel
theorem gm_X11_strength_0 : ∀ w ∈ wsX110, w ∈ wsX11_strength := fun w h => List.mem_cons_of_mem _ (List.mem_append_right _ h)
theorem ggX11_strength_X11_isStuff : GoodIn wsX11_strength wsX11_isStuff := gk_cons (List.mem_cons_of_mem _ (List.mem_append_left _ (List.mem_of_getElem? (i := 5) rfl))) rfl (goodIn_app (gk_cons (List.mem_cons_of_mem _ (List.mem_append_left _ (List.mem_of_getElem? (i := 6) rfl))) rfl (gk_cons (List.mem_cons_of_mem _ (List.mem_append_left _ (List.mem_of_getElem? (i := 7) rfl))) rfl (gk_cons (List.mem_cons_of_mem _ (List.mem_append_left _ (List.mem_of_getElem? (i := 8) rfl))) rfl (gk_cons (List.mem_cons_of_mem _ (List.mem_append_left _ (List.mem_of_getElem? (i := 4) rfl))) rfl (gk_cons (List.mem_cons_of_mem _ (List.mem_append_left _ (List.mem_of_getElem? (i := 9) rfl))) rfl gk_nil))))) (goodIn_sub gm_X11_strength_0 ag_wsX110))
theorem gX11_strength_X11_isStuff : GoodIn wsX11_strength (wsV RX11 83 RX11 yX11_isStuff wsX11_isStuff) := goodIn_app (gk_cons (List.mem_cons_of_mem _ (List.mem_append_left _ (List.mem_of_getElem? (i := 1) rfl))) rfl (gk_cons (List.mem_cons_of_mem _ (List.mem_append_left _ (List.mem_of_getElem? (i := 2) rfl))) rfl (gk_cons (List.mem_cons_of_mem _ (List.mem_append_left _ (List.mem_of_getElem? (i := 3) rfl))) rfl (gk_cons (List.mem_cons_of_mem _ (List.mem_append_left _ (List.mem_of_getElem? (i := 4) rfl))) rfl gk_nil)))) ggX11_strength_X11_isStuff
theorem ggX11_strength_X11_isIn : GoodIn wsX11_strength wsX11_isIn := gk_cons (List.mem_cons_of_mem _ (List.mem_append_left _ (List.mem_of_getElem? (i := 9) rfl))) rfl gk_nil
theorem gX11_strength_X11_isIn : GoodIn wsX11_strength (va_wsS RX11 69 yX11_isIn wsX11_isIn) := goodIn_app (gk_cons (List.mem_cons_of_mem _ (List.mem_append_left _ (List.mem_of_getElem? (i := 7) rfl))) rfl (gk_cons (List.mem_cons_of_mem _ (List.mem_append_left _ (List.mem_of_getElem? (i := 8) rfl))) rfl (gk_cons (List.mem_cons_of_mem _ (List.mem_append_left _ (List.mem_of_getElem? (i := 4) rfl))) rfl gk_nil))) ggX11_strength_X11_isIn
theorem dX11_strength_0 : decode cX11_strength 0 = .ok (.aload_n 0, 1) := by decide +kernel
theorem dX11_strength_1 : decode cX11_strength 1 = .ok (.iload_n 1, 1) := by decide +kernel
theorem dX11_strength_2 : decode cX11_strength 2 = .ok (.invokevirtual 83, 3) := by decide +kernel
theorem dX11_strength_5 : decode cX11_strength 5 = .ok (.ifCond .eq 12, 3) := by decide +kernel
theorem dX11_strength_8 : decode cX11_strength 8 = .ok (.iload_n 2, 1) := by decide +kernel
theorem dX11_strength_9 : decode cX11_strength 9 = .ok (.iconst 0, 1) := by decide +kernel
theorem dX11_strength_10 : decode cX11_strength 10 = .ok (.iconst 4, 1) := by decide +kernel
theorem dX11_strength_11 : decode cX11_strength 11 = .ok (.invokestatic 69, 3) := by decide +kernel
theorem dX11_strength_14 : decode cX11_strength 14 = .ok (.ifCond .ne 5, 3) := by decide +kernel
theorem dX11_strength_17 : decode cX11_strength 17 = .ok (.iconst (-1), 1) := by decide +kernel
theorem dX11_strength_18 : decode cX11_strength 18 = .ok (.ireturn, 1) := by decide +kernel
theorem dX11_strength_19 : decode cX11_strength 19 = .ok (.iload_n 3, 1) := by decide +kernel
theorem dX11_strength_20 : decode cX11_strength 20 = .ok (.iconst 1, 1) := by decide +kernel
theorem dX11_strength_21 : decode cX11_strength 21 = .ok (.sipush 1000, 3) := by decide +kernel
theorem dX11_strength_24 : decode cX11_strength 24 = .ok (.invokestatic 69, 3) := by decide +kernel
theorem dX11_strength_27 : decode cX11_strength 27 = .ok (.ifCond .ne 6, 3) := by decide +kernel
theorem dX11_strength_30 : decode cX11_strength 30 = .ok (.bipush (-2), 2) := by decide +kernel
theorem dX11_strength_32 : decode cX11_strength 32 = .ok (.ireturn, 1) := by decide +kernel
theorem dX11_strength_33 : decode cX11_strength 33 = .ok (.aload_n 0, 1) := by decide +kernel
theorem dX11_strength_34 : decode cX11_strength 34 = .ok (.getfield 26, 3) := by decide +kernel
theorem dX11_strength_37 : decode cX11_strength 37 = .ok (.iconst 5, 1) := by decide +kernel
theorem dX11_strength_38 : decode cX11_strength 38 = .ok (.iload_n 1, 1) := by decide +kernel
theorem dX11_strength_39 : decode cX11_strength 39 = .ok (.imul, 1) := by decide +kernel
theorem dX11_strength_40 : decode cX11_strength 40 = .ok (.iload_n 2, 1) := by decide +kernel
theorem dX11_strength_41 : decode cX11_strength 41 = .ok (.iadd, 1) := by decide +kernel
theorem dX11_strength_42 : decode cX11_strength 42 = .ok (.iaload, 1) := by decide +kernel
theorem dX11_strength_43 : decode cX11_strength 43 = .ok (.istore 4, 2) := by decide +kernel
theorem dX11_strength_45 : decode cX11_strength 45 = .ok (.aload_n 0, 1) := by decide +kernel
theorem dX11_strength_46 : decode cX11_strength 46 = .ok (.getfield 26, 3) := by decide +kernel
theorem dX11_strength_49 : decode cX11_strength 49 = .ok (.iconst 5, 1) := by decide +kernel
theorem dX11_strength_50 : decode cX11_strength 50 = .ok (.iload_n 1, 1) := by decide +kernel
theorem dX11_strength_51 : decode cX11_strength 51 = .ok (.imul, 1) := by decide +kernel
theorem dX11_strength_52 : decode cX11_strength 52 = .ok (.iload_n 2, 1) := by decide +kernel
theorem dX11_strength_53 : decode cX11_strength 53 = .ok (.iadd, 1) := by decide +kernel
theorem dX11_strength_54 : decode cX11_strength 54 = .ok (.iload_n 3, 1) := by decide +kernel
theorem dX11_strength_55 : decode cX11_strength 55 = .ok (.iastore, 1) := by decide +kernel
theorem dX11_strength_56 : decode cX11_strength 56 = .ok (.iload 4, 2) := by decide +kernel
theorem dX11_strength_58 : decode cX11_strength 58 = .ok (.ireturn, 1) := by decide +kernel
theorem gm_X11_growth_0 : ∀ w ∈ wsX110, w ∈ wsX11_growth := fun w h => List.mem_cons_of_mem _ (List.mem_append_right _ h)
theorem ggX11_growth_X11_isStuff : GoodIn wsX11_growth wsX11_isStuff := gk_cons (List.mem_cons_of_mem _ (List.mem_append_left _ (List.mem_of_getElem? (i := 6) rfl))) rfl (goodIn_app (gk_cons (List.mem_cons_of_mem _ (List.mem_append_left _ (List.mem_of_getElem? (i := 7) rfl))) rfl (gk_cons (List.mem_cons_of_mem _ (List.mem_append_left _ (List.mem_of_getElem? (i := 8) rfl))) rfl (gk_cons (List.mem_cons_of_mem _ (List.mem_append_left _ (List.mem_of_getElem? (i := 9) rfl))) rfl (gk_cons (List.mem_cons_of_mem _ (List.mem_append_left _ (List.mem_of_getElem? (i := 5) rfl))) rfl (gk_cons (List.mem_cons_of_mem _ (List.mem_append_left _ (List.mem_of_getElem? (i := 10) rfl))) rfl gk_nil))))) (goodIn_sub gm_X11_growth_0 ag_wsX110))
theorem gX11_growth_X11_isStuff : GoodIn wsX11_growth (wsV RX11 83 RX11 yX11_isStuff wsX11_isStuff) := goodIn_app (gk_cons (List.mem_cons_of_mem _ (List.mem_append_left _ (List.mem_of_getElem? (i := 2) rfl))) rfl (gk_cons (List.mem_cons_of_mem _ (List.mem_append_left _ (List.mem_of_getElem? (i := 3) rfl))) rfl (gk_cons (List.mem_cons_of_mem _ (List.mem_append_left _ (List.mem_of_getElem? (i := 4) rfl))) rfl (gk_cons (List.mem_cons_of_mem _ (List.mem_append_left _ (List.mem_of_getElem? (i := 5) rfl))) rfl gk_nil)))) ggX11_growth_X11_isStuff
theorem ggX11_growth_X11_isIn : GoodIn wsX11_growth wsX11_isIn := gk_cons (List.mem_cons_of_mem _ (List.mem_append_left _ (List.mem_of_getElem? (i := 10) rfl))) rfl gk_nil
theorem gX11_growth_X11_isIn : GoodIn wsX11_growth (va_wsS RX11 69 yX11_isIn wsX11_isIn) := goodIn_app (gk_cons (List.mem_cons_of_mem _ (List.mem_append_left _ (List.mem_of_getElem? (i := 8) rfl))) rfl (gk_cons (List.mem_cons_of_mem _ (List.mem_append_left _ (List.mem_of_getElem? (i := 9) rfl))) rfl (gk_cons (List.mem_cons_of_mem _ (List.mem_append_left _ (List.mem_of_getElem? (i := 5) rfl))) rfl gk_nil))) ggX11_growth_X11_isIn
theorem dX11_growth_0 : decode cX11_growth 0 = .ok (.aload_n 0, 1) := by decide +kernel
theorem dX11_growth_1 : decode cX11_growth 1 = .ok (.iload_n 1, 1) := by decide +kernel
theorem dX11_growth_2 : decode cX11_growth 2 = .ok (.invokevirtual 83, 3) := by decide +kernel
theorem dX11_growth_5 : decode cX11_growth 5 = .ok (.ifCond .ne 5, 3) := by decide +kernel
theorem dX11_growth_8 : decode cX11_growth 8 = .ok (.iconst (-1), 1) := by decide +kernel
theorem dX11_growth_9 : decode cX11_growth 9 = .ok (.ireturn, 1) := by decide +kernel
theorem dX11_growth_10 : decode cX11_growth 10 = .ok (.iload_n 2, 1) := by decide +kernel
theorem dX11_growth_11 : decode cX11_growth 11 = .ok (.bipush (-20), 2) := by decide +kernel
theorem dX11_growth_13 : decode cX11_growth 13 = .ok (.bipush 20, 2) := by decide +kernel
theorem dX11_growth_15 : decode cX11_growth 15 = .ok (.invokestatic 69, 3) := by decide +kernel
theorem dX11_growth_18 : decode cX11_growth 18 = .ok (.ifCond .eq 14, 3) := by decide +kernel
theorem dX11_growth_21 : decode cX11_growth 21 = .ok (.iload_n 3, 1) := by decide +kernel
theorem dX11_growth_22 : decode cX11_growth 22 = .ok (.bipush (-20), 2) := by decide +kernel
theorem dX11_growth_24 : decode cX11_growth 24 = .ok (.bipush 20, 2) := by decide +kernel
theorem dX11_growth_26 : decode cX11_growth 26 = .ok (.invokestatic 69, 3) := by decide +kernel
theorem dX11_growth_29 : decode cX11_growth 29 = .ok (.ifCond .ne 6, 3) := by decide +kernel
theorem dX11_growth_32 : decode cX11_growth 32 = .ok (.bipush (-2), 2) := by decide +kernel
theorem dX11_growth_34 : decode cX11_growth 34 = .ok (.ireturn, 1) := by decide +kernel
theorem dX11_growth_35 : decode cX11_growth 35 = .ok (.aload_n 0, 1) := by decide +kernel
theorem dX11_growth_36 : decode cX11_growth 36 = .ok (.getfield 29, 3) := by decide +kernel
theorem dX11_growth_39 : decode cX11_growth 39 = .ok (.iload_n 1, 1) := by decide +kernel
theorem dX11_growth_40 : decode cX11_growth 40 = .ok (.iload_n 2, 1) := by decide +kernel
theorem dX11_growth_41 : decode cX11_growth 41 = .ok (.iastore, 1) := by decide +kernel
theorem dX11_growth_42 : decode cX11_growth 42 = .ok (.aload_n 0, 1) := by decide +kernel
theorem dX11_growth_43 : decode cX11_growth 43 = .ok (.getfield 32, 3) := by decide +kernel
theorem dX11_growth_46 : decode cX11_growth 46 = .ok (.iload_n 1, 1) := by decide +kernel
theorem dX11_growth_47 : decode cX11_growth 47 = .ok (.iload_n 3, 1) := by decide +kernel
theorem dX11_growth_48 : decode cX11_growth 48 = .ok (.iastore, 1) := by decide +kernel
theorem dX11_growth_49 : decode cX11_growth 49 = .ok (.iconst 0, 1) := by decide +kernel
theorem dX11_growth_50 : decode cX11_growth 50 = .ok (.ireturn, 1) := by decide +kernel
theorem dX11_plate_0 : decode cX11_plate 0 = .ok (.aload_n 0, 1) := by decide +kernel
theorem dX11_plate_1 : decode cX11_plate 1 = .ok (.getfield 76, 3) := by decide +kernel
theorem dX11_plate_4 : decode cX11_plate 4 = .ok (.iconst 4, 1) := by decide +kernel
theorem dX11_plate_5 : decode cX11_plate 5 = .ok (.if_icmp .ne 6, 3) := by decide +kernel
theorem dX11_plate_8 : decode cX11_plate 8 = .ok (.bipush (-4), 2) := by decide +kernel
theorem dX11_plate_10 : decode cX11_plate 10 = .ok (.ireturn, 1) := by decide +kernel
theorem dX11_plate_11 : decode cX11_plate 11 = .ok (.aload_n 0, 1) := by decide +kernel
theorem dX11_plate_12 : decode cX11_plate 12 = .ok (.getfield 35, 3) := by decide +kernel
theorem dX11_plate_15 : decode cX11_plate 15 = .ok (.aload_n 0, 1) := by decide +kernel
theorem dX11_plate_16 : decode cX11_plate 16 = .ok (.getfield 76, 3) := by decide +kernel
theorem dX11_plate_19 : decode cX11_plate 19 = .ok (.iconst 0, 1) := by decide +kernel
theorem dX11_plate_20 : decode cX11_plate 20 = .ok (.iastore, 1) := by decide +kernel
theorem dX11_plate_21 : decode cX11_plate 21 = .ok (.aload_n 0, 1) := by decide +kernel
theorem dX11_plate_22 : decode cX11_plate 22 = .ok (.dup, 1) := by decide +kernel
theorem dX11_plate_23 : decode cX11_plate 23 = .ok (.getfield 76, 3) := by decide +kernel
theorem dX11_plate_26 : decode cX11_plate 26 = .ok (.iconst 1, 1) := by decide +kernel
theorem dX11_plate_27 : decode cX11_plate 27 = .ok (.iadd, 1) := by decide +kernel
theorem dX11_plate_28 : decode cX11_plate 28 = .ok (.putfield 76, 3) := by decide +kernel
theorem dX11_plate_31 : decode cX11_plate 31 = .ok (.aload_n 0, 1) := by decide +kernel
theorem dX11_plate_32 : decode cX11_plate 32 = .ok (.getfield 76, 3) := by decide +kernel
theorem dX11_plate_35 : decode cX11_plate 35 = .ok (.iconst 1, 1) := by decide +kernel
theorem dX11_plate_36 : decode cX11_plate 36 = .ok (.isub, 1) := by decide +kernel
theorem dX11_plate_37 : decode cX11_plate 37 = .ok (.ireturn, 1) := by decide +kernel
theorem dX11_spot_0 : decode cX11_spot 0 = .ok (.bipush 12, 2) := by decide +kernel
theorem dX11_spot_2 : decode cX11_spot 2 = .ok (.iload_n 0, 1) := by decide +kernel
theorem dX11_spot_3 : decode cX11_spot 3 = .ok (.imul, 1) := by decide +kernel
theorem dX11_spot_4 : decode cX11_spot 4 = .ok (.iload_n 1, 1) := by decide +kernel
theorem dX11_spot_5 : decode cX11_spot 5 = .ok (.iadd, 1) := by decide +kernel
theorem dX11_spot_6 : decode cX11_spot 6 = .ok (.ireturn, 1) := by decide +kernel
theorem gm_X11_puts_0 : ∀ w ∈ wsX110, w ∈ wsX11_puts := fun w h => List.mem_cons_of_mem _ (List.mem_append_right _ h)
theorem ggX11_puts_X11_spot : GoodIn wsX11_puts wsX11_spot := gk_cons (List.mem_cons_of_mem _ (List.mem_append_left _ (List.mem_of_getElem? (i := 8) rfl))) rfl gk_nil
theorem gX11_puts_X11_spot : GoodIn wsX11_puts (va_wsS RX11 86 yX11_spot wsX11_spot) := goodIn_app (gk_cons (List.mem_cons_of_mem _ (List.mem_append_left _ (List.mem_of_getElem? (i := 5) rfl))) rfl (gk_cons (List.mem_cons_of_mem _ (List.mem_append_left _ (List.mem_of_getElem? (i := 6) rfl))) rfl (gk_cons (List.mem_cons_of_mem _ (List.mem_append_left _ (List.mem_of_getElem? (i := 7) rfl))) rfl gk_nil))) ggX11_puts_X11_spot
theorem dX11_puts_0 : decode cX11_puts 0 = .ok (.iload_n 1, 1) := by decide +kernel
theorem dX11_puts_1 : decode cX11_puts 1 = .ok (.aload_n 0, 1) := by decide +kernel
theorem dX11_puts_2 : decode cX11_puts 2 = .ok (.getfield 35, 3) := by decide +kernel
theorem dX11_puts_5 : decode cX11_puts 5 = .ok (.iload_n 1, 1) := by decide +kernel
theorem dX11_puts_6 : decode cX11_puts 6 = .ok (.iaload, 1) := by decide +kernel
theorem dX11_puts_7 : decode cX11_puts 7 = .ok (.invokestatic 86, 3) := by decide +kernel
theorem dX11_puts_10 : decode cX11_puts 10 = .ok (.istore 6, 2) := by decide +kernel
theorem dX11_puts_12 : decode cX11_puts 12 = .ok (.aload_n 0, 1) := by decide +kernel
theorem dX11_puts_13 : decode cX11_puts 13 = .ok (.getfield 38, 3) := by decide +kernel
theorem dX11_puts_16 : decode cX11_puts 16 = .ok (.iload 6, 2) := by decide +kernel
theorem dX11_puts_18 : decode cX11_puts 18 = .ok (.iload_n 2, 1) := by decide +kernel
theorem dX11_puts_19 : decode cX11_puts 19 = .ok (.iastore, 1) := by decide +kernel
theorem dX11_puts_20 : decode cX11_puts 20 = .ok (.aload_n 0, 1) := by decide +kernel
theorem dX11_puts_21 : decode cX11_puts 21 = .ok (.getfield 41, 3) := by decide +kernel
theorem dX11_puts_24 : decode cX11_puts 24 = .ok (.iload 6, 2) := by decide +kernel
theorem dX11_puts_26 : decode cX11_puts 26 = .ok (.iload_n 3, 1) := by decide +kernel
theorem dX11_puts_27 : decode cX11_puts 27 = .ok (.iastore, 1) := by decide +kernel
theorem dX11_puts_28 : decode cX11_puts 28 = .ok (.aload_n 0, 1) := by decide +kernel
theorem dX11_puts_29 : decode cX11_puts 29 = .ok (.getfield 44, 3) := by decide +kernel
theorem dX11_puts_32 : decode cX11_puts 32 = .ok (.iload 6, 2) := by decide +kernel
theorem dX11_puts_34 : decode cX11_puts 34 = .ok (.iload 4, 2) := by decide +kernel
theorem dX11_puts_36 : decode cX11_puts 36 = .ok (.iastore, 1) := by decide +kernel
theorem dX11_puts_37 : decode cX11_puts 37 = .ok (.aload_n 0, 1) := by decide +kernel
theorem dX11_puts_38 : decode cX11_puts 38 = .ok (.getfield 47, 3) := by decide +kernel
theorem dX11_puts_41 : decode cX11_puts 41 = .ok (.iload 6, 2) := by decide +kernel
theorem dX11_puts_43 : decode cX11_puts 43 = .ok (.iload 5, 2) := by decide +kernel
theorem dX11_puts_45 : decode cX11_puts 45 = .ok (.iastore, 1) := by decide +kernel
theorem dX11_puts_46 : decode cX11_puts 46 = .ok (.aload_n 0, 1) := by decide +kernel
theorem dX11_puts_47 : decode cX11_puts 47 = .ok (.getfield 35, 3) := by decide +kernel
theorem dX11_puts_50 : decode cX11_puts 50 = .ok (.iload_n 1, 1) := by decide +kernel
theorem dX11_puts_51 : decode cX11_puts 51 = .ok (.dup2, 1) := by decide +kernel
theorem dX11_puts_52 : decode cX11_puts 52 = .ok (.iaload, 1) := by decide +kernel
theorem dX11_puts_53 : decode cX11_puts 53 = .ok (.iconst 1, 1) := by decide +kernel
theorem dX11_puts_54 : decode cX11_puts 54 = .ok (.iadd, 1) := by decide +kernel
theorem dX11_puts_55 : decode cX11_puts 55 = .ok (.iastore, 1) := by decide +kernel
theorem dX11_puts_56 : decode cX11_puts 56 = .ok (.return_, 1) := by decide +kernel
theorem gm_X11_lay_0 : ∀ w ∈ wsX11_lay_r1, w ∈ wsX11_lay := fun w h => List.mem_cons_of_mem _ (List.mem_append_left _ (List.mem_append_left _ h))
theorem gm_X11_lay_1 : ∀ w ∈ wsX11_lay_r2, w ∈ wsX11_lay := fun w h => List.mem_cons_of_mem _ (List.mem_append_left _ (List.mem_append_right _ h))
theorem gm_X11_lay_2 : ∀ w ∈ wsX110, w ∈ wsX11_lay := fun w h => List.mem_cons_of_mem _ (List.mem_append_right _ h)
theorem ggX11_lay_X11_isPlate : GoodIn wsX11_lay wsX11_isPlate := gk_cons (gm_X11_lay_0 _ (List.mem_of_getElem? (i := 5) rfl)) rfl (goodIn_app (gk_cons (gm_X11_lay_0 _ (List.mem_of_getElem? (i := 6) rfl)) rfl (gk_cons (gm_X11_lay_0 _ (List.mem_of_getElem? (i := 7) rfl)) rfl (gk_cons (gm_X11_lay_0 _ (List.mem_of_getElem? (i := 8) rfl)) rfl (gk_cons (gm_X11_lay_0 _ (List.mem_of_getElem? (i := 4) rfl)) rfl (gk_cons (gm_X11_lay_0 _ (List.mem_of_getElem? (i := 9) rfl)) rfl gk_nil))))) (goodIn_sub gm_X11_lay_2 ag_wsX110))
theorem gX11_lay_X11_isPlate : GoodIn wsX11_lay (wsV RX11 79 RX11 yX11_isPlate wsX11_isPlate) := goodIn_app (gk_cons (gm_X11_lay_0 _ (List.mem_of_getElem? (i := 1) rfl)) rfl (gk_cons (gm_X11_lay_0 _ (List.mem_of_getElem? (i := 2) rfl)) rfl (gk_cons (gm_X11_lay_0 _ (List.mem_of_getElem? (i := 3) rfl)) rfl (gk_cons (gm_X11_lay_0 _ (List.mem_of_getElem? (i := 4) rfl)) rfl gk_nil)))) ggX11_lay_X11_isPlate
theorem ggX11_lay_X11_isStuff : GoodIn wsX11_lay wsX11_isStuff := gk_cons (gm_X11_lay_0 _ (List.mem_of_getElem? (i := 13) rfl)) rfl (goodIn_app (gk_cons (gm_X11_lay_0 _ (List.mem_of_getElem? (i := 14) rfl)) rfl (gk_cons (gm_X11_lay_0 _ (List.mem_of_getElem? (i := 7) rfl)) rfl (gk_cons (gm_X11_lay_0 _ (List.mem_of_getElem? (i := 8) rfl)) rfl (gk_cons (gm_X11_lay_0 _ (List.mem_of_getElem? (i := 4) rfl)) rfl (gk_cons (gm_X11_lay_0 _ (List.mem_of_getElem? (i := 9) rfl)) rfl gk_nil))))) (goodIn_sub gm_X11_lay_2 ag_wsX110))
theorem gX11_lay_X11_isStuff : GoodIn wsX11_lay (wsV RX11 83 RX11 yX11_isStuff wsX11_isStuff) := goodIn_app (gk_cons (gm_X11_lay_0 _ (List.mem_of_getElem? (i := 10) rfl)) rfl (gk_cons (gm_X11_lay_0 _ (List.mem_of_getElem? (i := 11) rfl)) rfl (gk_cons (gm_X11_lay_0 _ (List.mem_of_getElem? (i := 12) rfl)) rfl (gk_cons (gm_X11_lay_0 _ (List.mem_of_getElem? (i := 4) rfl)) rfl gk_nil)))) ggX11_lay_X11_isStuff
theorem ggX11_lay_X11_isIn : GoodIn wsX11_lay wsX11_isIn := gk_cons (gm_X11_lay_0 _ (List.mem_of_getElem? (i := 9) rfl)) rfl gk_nil
theorem gX11_lay_X11_isIn : GoodIn wsX11_lay (va_wsS RX11 69 yX11_isIn wsX11_isIn) := goodIn_app (gk_cons (gm_X11_lay_0 _ (List.mem_of_getElem? (i := 7) rfl)) rfl (gk_cons (gm_X11_lay_0 _ (List.mem_of_getElem? (i := 8) rfl)) rfl (gk_cons (gm_X11_lay_0 _ (List.mem_of_getElem? (i := 4) rfl)) rfl gk_nil))) ggX11_lay_X11_isIn
theorem ggX11_lay_X11_puts : GoodIn wsX11_lay wsX11_puts := gk_cons (gm_X11_lay_0 _ (List.mem_of_getElem? (i := 18) rfl)) rfl (goodIn_app (gk_cons (gm_X11_lay_0 _ (List.mem_of_getElem? (i := 0) rfl)) rfl (gk_cons (gm_X11_lay_0 _ (List.mem_of_getElem? (i := 19) rfl)) rfl (gk_cons (gm_X11_lay_0 _ (List.mem_of_getElem? (i := 20) rfl)) rfl (gk_cons (gm_X11_lay_0 _ (List.mem_of_getElem? (i := 21) rfl)) rfl (gk_cons (gm_X11_lay_0 _ (List.mem_of_getElem? (i := 22) rfl)) rfl (gk_cons (gm_X11_lay_0 _ (List.mem_of_getElem? (i := 23) rfl)) rfl (gk_cons (gm_X11_lay_1 _ (List.mem_of_getElem? (i := 0) rfl)) rfl (gk_cons (gm_X11_lay_0 _ (List.mem_of_getElem? (i := 4) rfl)) rfl (gk_cons (gm_X11_lay_1 _ (List.mem_of_getElem? (i := 1) rfl)) rfl gk_nil))))))))) (goodIn_sub gm_X11_lay_2 ag_wsX110))
theorem gX11_lay_X11_puts : GoodIn wsX11_lay (wsV RX11 90 RX11 yX11_puts wsX11_puts) := goodIn_app (gk_cons (gm_X11_lay_0 _ (List.mem_of_getElem? (i := 15) rfl)) rfl (gk_cons (gm_X11_lay_0 _ (List.mem_of_getElem? (i := 16) rfl)) rfl (gk_cons (gm_X11_lay_0 _ (List.mem_of_getElem? (i := 17) rfl)) rfl (gk_cons (gm_X11_lay_0 _ (List.mem_of_getElem? (i := 4) rfl)) rfl gk_nil)))) ggX11_lay_X11_puts
theorem dX11_lay_0 : decode cX11_lay 0 = .ok (.aload_n 0, 1) := by decide +kernel
theorem dX11_lay_1 : decode cX11_lay 1 = .ok (.iload_n 1, 1) := by decide +kernel
theorem dX11_lay_2 : decode cX11_lay 2 = .ok (.invokevirtual 79, 3) := by decide +kernel
theorem dX11_lay_5 : decode cX11_lay 5 = .ok (.ifCond .eq 20, 3) := by decide +kernel
theorem dX11_lay_8 : decode cX11_lay 8 = .ok (.aload_n 0, 1) := by decide +kernel
theorem dX11_lay_9 : decode cX11_lay 9 = .ok (.iload_n 2, 1) := by decide +kernel
theorem dX11_lay_10 : decode cX11_lay 10 = .ok (.invokevirtual 83, 3) := by decide +kernel
theorem dX11_lay_13 : decode cX11_lay 13 = .ok (.ifCond .eq 12, 3) := by decide +kernel
theorem dX11_lay_16 : decode cX11_lay 16 = .ok (.iload_n 3, 1) := by decide +kernel
theorem dX11_lay_17 : decode cX11_lay 17 = .ok (.iconst 0, 1) := by decide +kernel
theorem dX11_lay_18 : decode cX11_lay 18 = .ok (.iconst 3, 1) := by decide +kernel
theorem dX11_lay_19 : decode cX11_lay 19 = .ok (.invokestatic 69, 3) := by decide +kernel
theorem dX11_lay_22 : decode cX11_lay 22 = .ok (.ifCond .ne 5, 3) := by decide +kernel
theorem dX11_lay_25 : decode cX11_lay 25 = .ok (.iconst (-1), 1) := by decide +kernel
theorem dX11_lay_26 : decode cX11_lay 26 = .ok (.ireturn, 1) := by decide +kernel
theorem dX11_lay_27 : decode cX11_lay 27 = .ok (.iload 4, 2) := by decide +kernel
theorem dX11_lay_29 : decode cX11_lay 29 = .ok (.iconst 1, 1) := by decide +kernel
theorem dX11_lay_30 : decode cX11_lay 30 = .ok (.iconst 3, 1) := by decide +kernel
theorem dX11_lay_31 : decode cX11_lay 31 = .ok (.invokestatic 69, 3) := by decide +kernel
theorem dX11_lay_34 : decode cX11_lay 34 = .ok (.ifCond .ne 6, 3) := by decide +kernel
theorem dX11_lay_37 : decode cX11_lay 37 = .ok (.bipush (-2), 2) := by decide +kernel
theorem dX11_lay_39 : decode cX11_lay 39 = .ok (.ireturn, 1) := by decide +kernel
theorem dX11_lay_40 : decode cX11_lay 40 = .ok (.aload_n 0, 1) := by decide +kernel
theorem dX11_lay_41 : decode cX11_lay 41 = .ok (.getfield 35, 3) := by decide +kernel
theorem dX11_lay_44 : decode cX11_lay 44 = .ok (.iload_n 1, 1) := by decide +kernel
theorem dX11_lay_45 : decode cX11_lay 45 = .ok (.iaload, 1) := by decide +kernel
theorem dX11_lay_46 : decode cX11_lay 46 = .ok (.bipush 12, 2) := by decide +kernel
theorem dX11_lay_48 : decode cX11_lay 48 = .ok (.if_icmp .ne 6, 3) := by decide +kernel
theorem dX11_lay_51 : decode cX11_lay 51 = .ok (.bipush (-4), 2) := by decide +kernel
theorem dX11_lay_53 : decode cX11_lay 53 = .ok (.ireturn, 1) := by decide +kernel
theorem dX11_lay_54 : decode cX11_lay 54 = .ok (.aload_n 0, 1) := by decide +kernel
theorem dX11_lay_55 : decode cX11_lay 55 = .ok (.iload_n 1, 1) := by decide +kernel
theorem dX11_lay_56 : decode cX11_lay 56 = .ok (.iload_n 2, 1) := by decide +kernel
theorem dX11_lay_57 : decode cX11_lay 57 = .ok (.iload_n 3, 1) := by decide +kernel
theorem dX11_lay_58 : decode cX11_lay 58 = .ok (.iload 4, 2) := by decide +kernel
theorem dX11_lay_60 : decode cX11_lay 60 = .ok (.iconst 0, 1) := by decide +kernel
theorem dX11_lay_61 : decode cX11_lay 61 = .ok (.invokevirtual 90, 3) := by decide +kernel
theorem dX11_lay_64 : decode cX11_lay 64 = .ok (.aload_n 0, 1) := by decide +kernel
theorem dX11_lay_65 : decode cX11_lay 65 = .ok (.getfield 35, 3) := by decide +kernel
theorem dX11_lay_68 : decode cX11_lay 68 = .ok (.iload_n 1, 1) := by decide +kernel
theorem dX11_lay_69 : decode cX11_lay 69 = .ok (.iaload, 1) := by decide +kernel
theorem dX11_lay_70 : decode cX11_lay 70 = .ok (.iconst 1, 1) := by decide +kernel
theorem dX11_lay_71 : decode cX11_lay 71 = .ok (.isub, 1) := by decide +kernel
theorem dX11_lay_72 : decode cX11_lay 72 = .ok (.ireturn, 1) := by decide +kernel
theorem gm_X11_peel_0 : ∀ w ∈ wsX110, w ∈ wsX11_peel := fun w h => List.mem_cons_of_mem _ (List.mem_append_right _ h)
theorem ggX11_peel_X11_isPlate : GoodIn wsX11_peel wsX11_isPlate := gk_cons (List.mem_cons_of_mem _ (List.mem_append_left _ (List.mem_of_getElem? (i := 5) rfl))) rfl (goodIn_app (gk_cons (List.mem_cons_of_mem _ (List.mem_append_left _ (List.mem_of_getElem? (i := 6) rfl))) rfl (gk_cons (List.mem_cons_of_mem _ (List.mem_append_left _ (List.mem_of_getElem? (i := 7) rfl))) rfl (gk_cons (List.mem_cons_of_mem _ (List.mem_append_left _ (List.mem_of_getElem? (i := 8) rfl))) rfl (gk_cons (List.mem_cons_of_mem _ (List.mem_append_left _ (List.mem_of_getElem? (i := 4) rfl))) rfl (gk_cons (List.mem_cons_of_mem _ (List.mem_append_left _ (List.mem_of_getElem? (i := 9) rfl))) rfl gk_nil))))) (goodIn_sub gm_X11_peel_0 ag_wsX110))
theorem gX11_peel_X11_isPlate : GoodIn wsX11_peel (wsV RX11 79 RX11 yX11_isPlate wsX11_isPlate) := goodIn_app (gk_cons (List.mem_cons_of_mem _ (List.mem_append_left _ (List.mem_of_getElem? (i := 1) rfl))) rfl (gk_cons (List.mem_cons_of_mem _ (List.mem_append_left _ (List.mem_of_getElem? (i := 2) rfl))) rfl (gk_cons (List.mem_cons_of_mem _ (List.mem_append_left _ (List.mem_of_getElem? (i := 3) rfl))) rfl (gk_cons (List.mem_cons_of_mem _ (List.mem_append_left _ (List.mem_of_getElem? (i := 4) rfl))) rfl gk_nil)))) ggX11_peel_X11_isPlate
theorem dX11_peel_0 : decode cX11_peel 0 = .ok (.aload_n 0, 1) := by decide +kernel
theorem dX11_peel_1 : decode cX11_peel 1 = .ok (.iload_n 1, 1) := by decide +kernel
theorem dX11_peel_2 : decode cX11_peel 2 = .ok (.invokevirtual 79, 3) := by decide +kernel
theorem dX11_peel_5 : decode cX11_peel 5 = .ok (.ifCond .ne 5, 3) := by decide +kernel
theorem dX11_peel_8 : decode cX11_peel 8 = .ok (.iconst (-1), 1) := by decide +kernel
theorem dX11_peel_9 : decode cX11_peel 9 = .ok (.ireturn, 1) := by decide +kernel
theorem dX11_peel_10 : decode cX11_peel 10 = .ok (.aload_n 0, 1) := by decide +kernel
theorem dX11_peel_11 : decode cX11_peel 11 = .ok (.getfield 35, 3) := by decide +kernel
theorem dX11_peel_14 : decode cX11_peel 14 = .ok (.iload_n 1, 1) := by decide +kernel
theorem dX11_peel_15 : decode cX11_peel 15 = .ok (.iaload, 1) := by decide +kernel
theorem dX11_peel_16 : decode cX11_peel 16 = .ok (.ifCond .ne 6, 3) := by decide +kernel
theorem dX11_peel_19 : decode cX11_peel 19 = .ok (.bipush (-3), 2) := by decide +kernel
theorem dX11_peel_21 : decode cX11_peel 21 = .ok (.ireturn, 1) := by decide +kernel
theorem dX11_peel_22 : decode cX11_peel 22 = .ok (.aload_n 0, 1) := by decide +kernel
theorem dX11_peel_23 : decode cX11_peel 23 = .ok (.getfield 35, 3) := by decide +kernel
theorem dX11_peel_26 : decode cX11_peel 26 = .ok (.iload_n 1, 1) := by decide +kernel
theorem dX11_peel_27 : decode cX11_peel 27 = .ok (.dup2, 1) := by decide +kernel
theorem dX11_peel_28 : decode cX11_peel 28 = .ok (.iaload, 1) := by decide +kernel
theorem dX11_peel_29 : decode cX11_peel 29 = .ok (.iconst 1, 1) := by decide +kernel
theorem dX11_peel_30 : decode cX11_peel 30 = .ok (.isub, 1) := by decide +kernel
theorem dX11_peel_31 : decode cX11_peel 31 = .ok (.iastore, 1) := by decide +kernel
theorem dX11_peel_32 : decode cX11_peel 32 = .ok (.aload_n 0, 1) := by decide +kernel
theorem dX11_peel_33 : decode cX11_peel 33 = .ok (.getfield 35, 3) := by decide +kernel
theorem dX11_peel_36 : decode cX11_peel 36 = .ok (.iload_n 1, 1) := by decide +kernel
theorem dX11_peel_37 : decode cX11_peel 37 = .ok (.iaload, 1) := by decide +kernel
theorem dX11_peel_38 : decode cX11_peel 38 = .ok (.ireturn, 1) := by decide +kernel
theorem gm_X11_hurt_0 : ∀ w ∈ wsX110, w ∈ wsX11_hurt := fun w h => List.mem_cons_of_mem _ (List.mem_append_right _ h)
theorem ggX11_hurt_X11_isLayer : GoodIn wsX11_hurt wsX11_isLayer := gk_cons (List.mem_cons_of_mem _ (List.mem_append_left _ (List.mem_of_getElem? (i := 5) rfl))) rfl (goodIn_app (gk_cons (List.mem_cons_of_mem _ (List.mem_append_left _ (List.mem_of_getElem? (i := 6) rfl))) rfl (gk_cons (List.mem_cons_of_mem _ (List.mem_append_left _ (List.mem_of_getElem? (i := 7) rfl))) rfl (gk_cons (List.mem_cons_of_mem _ (List.mem_append_left _ (List.mem_of_getElem? (i := 8) rfl))) rfl (gk_cons (List.mem_cons_of_mem _ (List.mem_append_left _ (List.mem_of_getElem? (i := 9) rfl))) rfl (gk_cons (List.mem_cons_of_mem _ (List.mem_append_left _ (List.mem_of_getElem? (i := 4) rfl))) rfl (gk_cons (List.mem_cons_of_mem _ (List.mem_append_left _ (List.mem_of_getElem? (i := 10) rfl))) rfl (gk_cons (List.mem_cons_of_mem _ (List.mem_append_left _ (List.mem_of_getElem? (i := 11) rfl))) rfl (gk_cons (List.mem_cons_of_mem _ (List.mem_append_left _ (List.mem_of_getElem? (i := 12) rfl))) rfl (gk_cons (List.mem_cons_of_mem _ (List.mem_append_left _ (List.mem_of_getElem? (i := 13) rfl))) rfl (gk_cons (List.mem_cons_of_mem _ (List.mem_append_left _ (List.mem_of_getElem? (i := 14) rfl))) rfl gk_nil)))))))))) (goodIn_sub gm_X11_hurt_0 ag_wsX110))
theorem gX11_hurt_X11_isLayer : GoodIn wsX11_hurt (wsV RX11 94 RX11 yX11_isLayer wsX11_isLayer) := goodIn_app (gk_cons (List.mem_cons_of_mem _ (List.mem_append_left _ (List.mem_of_getElem? (i := 1) rfl))) rfl (gk_cons (List.mem_cons_of_mem _ (List.mem_append_left _ (List.mem_of_getElem? (i := 2) rfl))) rfl (gk_cons (List.mem_cons_of_mem _ (List.mem_append_left _ (List.mem_of_getElem? (i := 3) rfl))) rfl (gk_cons (List.mem_cons_of_mem _ (List.mem_append_left _ (List.mem_of_getElem? (i := 4) rfl))) rfl gk_nil)))) ggX11_hurt_X11_isLayer
theorem ggX11_hurt_X11_isIn : GoodIn wsX11_hurt wsX11_isIn := gk_cons (List.mem_cons_of_mem _ (List.mem_append_left _ (List.mem_of_getElem? (i := 14) rfl))) rfl gk_nil
theorem gX11_hurt_X11_isIn : GoodIn wsX11_hurt (va_wsS RX11 69 yX11_isIn wsX11_isIn) := goodIn_app (gk_cons (List.mem_cons_of_mem _ (List.mem_append_left _ (List.mem_of_getElem? (i := 12) rfl))) rfl (gk_cons (List.mem_cons_of_mem _ (List.mem_append_left _ (List.mem_of_getElem? (i := 13) rfl))) rfl (gk_cons (List.mem_cons_of_mem _ (List.mem_append_left _ (List.mem_of_getElem? (i := 4) rfl))) rfl gk_nil))) ggX11_hurt_X11_isIn
theorem ggX11_hurt_X11_spot : GoodIn wsX11_hurt wsX11_spot := gk_cons (List.mem_cons_of_mem _ (List.mem_append_left _ (List.mem_of_getElem? (i := 17) rfl))) rfl gk_nil
theorem gX11_hurt_X11_spot : GoodIn wsX11_hurt (va_wsS RX11 86 yX11_spot wsX11_spot) := goodIn_app (gk_cons (List.mem_cons_of_mem _ (List.mem_append_left _ (List.mem_of_getElem? (i := 15) rfl))) rfl (gk_cons (List.mem_cons_of_mem _ (List.mem_append_left _ (List.mem_of_getElem? (i := 16) rfl))) rfl (gk_cons (List.mem_cons_of_mem _ (List.mem_append_left _ (List.mem_of_getElem? (i := 4) rfl))) rfl gk_nil))) ggX11_hurt_X11_spot
theorem dX11_hurt_0 : decode cX11_hurt 0 = .ok (.aload_n 0, 1) := by decide +kernel
theorem dX11_hurt_1 : decode cX11_hurt 1 = .ok (.iload_n 1, 1) := by decide +kernel
theorem dX11_hurt_2 : decode cX11_hurt 2 = .ok (.iload_n 2, 1) := by decide +kernel
theorem dX11_hurt_3 : decode cX11_hurt 3 = .ok (.invokevirtual 94, 3) := by decide +kernel
theorem dX11_hurt_6 : decode cX11_hurt 6 = .ok (.ifCond .ne 5, 3) := by decide +kernel
theorem dX11_hurt_9 : decode cX11_hurt 9 = .ok (.iconst (-1), 1) := by decide +kernel
theorem dX11_hurt_10 : decode cX11_hurt 10 = .ok (.ireturn, 1) := by decide +kernel
theorem dX11_hurt_11 : decode cX11_hurt 11 = .ok (.iload_n 3, 1) := by decide +kernel
theorem dX11_hurt_12 : decode cX11_hurt 12 = .ok (.iconst 0, 1) := by decide +kernel
theorem dX11_hurt_13 : decode cX11_hurt 13 = .ok (.iconst 2, 1) := by decide +kernel
theorem dX11_hurt_14 : decode cX11_hurt 14 = .ok (.invokestatic 69, 3) := by decide +kernel
theorem dX11_hurt_17 : decode cX11_hurt 17 = .ok (.ifCond .ne 6, 3) := by decide +kernel
theorem dX11_hurt_20 : decode cX11_hurt 20 = .ok (.bipush (-2), 2) := by decide +kernel
theorem dX11_hurt_22 : decode cX11_hurt 22 = .ok (.ireturn, 1) := by decide +kernel
theorem dX11_hurt_23 : decode cX11_hurt 23 = .ok (.aload_n 0, 1) := by decide +kernel
theorem dX11_hurt_24 : decode cX11_hurt 24 = .ok (.getfield 47, 3) := by decide +kernel
theorem dX11_hurt_27 : decode cX11_hurt 27 = .ok (.iload_n 1, 1) := by decide +kernel
theorem dX11_hurt_28 : decode cX11_hurt 28 = .ok (.iload_n 2, 1) := by decide +kernel
theorem dX11_hurt_29 : decode cX11_hurt 29 = .ok (.invokestatic 86, 3) := by decide +kernel
theorem dX11_hurt_32 : decode cX11_hurt 32 = .ok (.iaload, 1) := by decide +kernel
theorem dX11_hurt_33 : decode cX11_hurt 33 = .ok (.istore 4, 2) := by decide +kernel
theorem dX11_hurt_35 : decode cX11_hurt 35 = .ok (.aload_n 0, 1) := by decide +kernel
theorem dX11_hurt_36 : decode cX11_hurt 36 = .ok (.getfield 47, 3) := by decide +kernel
theorem dX11_hurt_39 : decode cX11_hurt 39 = .ok (.iload_n 1, 1) := by decide +kernel
theorem dX11_hurt_40 : decode cX11_hurt 40 = .ok (.iload_n 2, 1) := by decide +kernel
theorem dX11_hurt_41 : decode cX11_hurt 41 = .ok (.invokestatic 86, 3) := by decide +kernel
theorem dX11_hurt_44 : decode cX11_hurt 44 = .ok (.iload_n 3, 1) := by decide +kernel
theorem dX11_hurt_45 : decode cX11_hurt 45 = .ok (.iastore, 1) := by decide +kernel
theorem dX11_hurt_46 : decode cX11_hurt 46 = .ok (.iload 4, 2) := by decide +kernel
theorem dX11_hurt_48 : decode cX11_hurt 48 = .ok (.ireturn, 1) := by decide +kernel
theorem dX11_left_0 : decode cX11_left 0 = .ok (.aload_n 0, 1) := by decide +kernel
theorem dX11_left_1 : decode cX11_left 1 = .ok (.getfield 47, 3) := by decide +kernel
theorem dX11_left_4 : decode cX11_left 4 = .ok (.iload_n 1, 1) := by decide +kernel
theorem dX11_left_5 : decode cX11_left 5 = .ok (.iaload, 1) := by decide +kernel
theorem dX11_left_6 : decode cX11_left 6 = .ok (.iconst 2, 1) := by decide +kernel
theorem dX11_left_7 : decode cX11_left 7 = .ok (.if_icmp .eq 17, 3) := by decide +kernel
theorem dX11_left_10 : decode cX11_left 10 = .ok (.aload_n 0, 1) := by decide +kernel
theorem dX11_left_11 : decode cX11_left 11 = .ok (.getfield 47, 3) := by decide +kernel
theorem dX11_left_14 : decode cX11_left 14 = .ok (.iload_n 1, 1) := by decide +kernel
theorem dX11_left_15 : decode cX11_left 15 = .ok (.iaload, 1) := by decide +kernel
theorem dX11_left_16 : decode cX11_left 16 = .ok (.iconst 1, 1) := by decide +kernel
theorem dX11_left_17 : decode cX11_left 17 = .ok (.if_icmp .ne 9, 3) := by decide +kernel
theorem dX11_left_20 : decode cX11_left 20 = .ok (.iload_n 2, 1) := by decide +kernel
theorem dX11_left_21 : decode cX11_left 21 = .ok (.ifCond .le 5, 3) := by decide +kernel
theorem dX11_left_24 : decode cX11_left 24 = .ok (.iconst 0, 1) := by decide +kernel
theorem dX11_left_25 : decode cX11_left 25 = .ok (.ireturn, 1) := by decide +kernel
theorem dX11_left_26 : decode cX11_left 26 = .ok (.aload_n 0, 1) := by decide +kernel
theorem dX11_left_27 : decode cX11_left 27 = .ok (.getfield 38, 3) := by decide +kernel
theorem dX11_left_30 : decode cX11_left 30 = .ok (.iload_n 1, 1) := by decide +kernel
theorem dX11_left_31 : decode cX11_left 31 = .ok (.iaload, 1) := by decide +kernel
theorem dX11_left_32 : decode cX11_left 32 = .ok (.istore_n 3, 1) := by decide +kernel
theorem dX11_left_33 : decode cX11_left 33 = .ok (.iload_n 2, 1) := by decide +kernel
theorem dX11_left_34 : decode cX11_left 34 = .ok (.ifCond .ne 12, 3) := by decide +kernel
theorem dX11_left_37 : decode cX11_left 37 = .ok (.aload_n 0, 1) := by decide +kernel
theorem dX11_left_38 : decode cX11_left 38 = .ok (.getfield 13, 3) := by decide +kernel
theorem dX11_left_41 : decode cX11_left 41 = .ok (.iload_n 3, 1) := by decide +kernel
theorem dX11_left_42 : decode cX11_left 42 = .ok (.iaload, 1) := by decide +kernel
theorem dX11_left_43 : decode cX11_left 43 = .ok (.goto 37, 3) := by decide +kernel
theorem dX11_left_46 : decode cX11_left 46 = .ok (.iload_n 2, 1) := by decide +kernel
theorem dX11_left_47 : decode cX11_left 47 = .ok (.iconst 1, 1) := by decide +kernel
theorem dX11_left_48 : decode cX11_left 48 = .ok (.if_icmp .ne 12, 3) := by decide +kernel
theorem dX11_left_51 : decode cX11_left 51 = .ok (.aload_n 0, 1) := by decide +kernel
theorem dX11_left_52 : decode cX11_left 52 = .ok (.getfield 17, 3) := by decide +kernel
theorem dX11_left_55 : decode cX11_left 55 = .ok (.iload_n 3, 1) := by decide +kernel
theorem dX11_left_56 : decode cX11_left 56 = .ok (.iaload, 1) := by decide +kernel
theorem dX11_left_57 : decode cX11_left 57 = .ok (.goto 23, 3) := by decide +kernel
theorem dX11_left_60 : decode cX11_left 60 = .ok (.iload_n 2, 1) := by decide +kernel
theorem dX11_left_61 : decode cX11_left 61 = .ok (.iconst 2, 1) := by decide +kernel
theorem dX11_left_62 : decode cX11_left 62 = .ok (.if_icmp .ne 12, 3) := by decide +kernel
theorem dX11_left_65 : decode cX11_left 65 = .ok (.aload_n 0, 1) := by decide +kernel
theorem dX11_left_66 : decode cX11_left 66 = .ok (.getfield 20, 3) := by decide +kernel
theorem dX11_left_69 : decode cX11_left 69 = .ok (.iload_n 3, 1) := by decide +kernel
theorem dX11_left_70 : decode cX11_left 70 = .ok (.iaload, 1) := by decide +kernel
theorem dX11_left_71 : decode cX11_left 71 = .ok (.goto 9, 3) := by decide +kernel
theorem dX11_left_74 : decode cX11_left 74 = .ok (.aload_n 0, 1) := by decide +kernel
theorem dX11_left_75 : decode cX11_left 75 = .ok (.getfield 23, 3) := by decide +kernel
theorem dX11_left_78 : decode cX11_left 78 = .ok (.iload_n 3, 1) := by decide +kernel
theorem dX11_left_79 : decode cX11_left 79 = .ok (.iaload, 1) := by decide +kernel
theorem dX11_left_80 : decode cX11_left 80 = .ok (.ireturn, 1) := by decide +kernel
theorem gm_X11_turned_0 : ∀ w ∈ wsX110, w ∈ wsX11_turned := fun w h => List.mem_cons_of_mem _ (List.mem_append_right _ h)
theorem ggX11_turned_X11_left : GoodIn wsX11_turned wsX11_left := gk_cons (List.mem_cons_of_mem _ (List.mem_append_left _ (List.mem_of_getElem? (i := 5) rfl))) rfl (goodIn_app (gk_cons (List.mem_cons_of_mem _ (List.mem_append_left _ (List.mem_of_getElem? (i := 6) rfl))) rfl (gk_cons (List.mem_cons_of_mem _ (List.mem_append_left _ (List.mem_of_getElem? (i := 7) rfl))) rfl (gk_cons (List.mem_cons_of_mem _ (List.mem_append_left _ (List.mem_of_getElem? (i := 8) rfl))) rfl (gk_cons (List.mem_cons_of_mem _ (List.mem_append_left _ (List.mem_of_getElem? (i := 9) rfl))) rfl (gk_cons (List.mem_cons_of_mem _ (List.mem_append_left _ (List.mem_of_getElem? (i := 10) rfl))) rfl (gk_cons (List.mem_cons_of_mem _ (List.mem_append_left _ (List.mem_of_getElem? (i := 11) rfl))) rfl gk_nil)))))) (goodIn_sub gm_X11_turned_0 ag_wsX110))
theorem gX11_turned_X11_left : GoodIn wsX11_turned (wsV RX11 98 RX11 yX11_left wsX11_left) := goodIn_app (gk_cons (List.mem_cons_of_mem _ (List.mem_append_left _ (List.mem_of_getElem? (i := 1) rfl))) rfl (gk_cons (List.mem_cons_of_mem _ (List.mem_append_left _ (List.mem_of_getElem? (i := 2) rfl))) rfl (gk_cons (List.mem_cons_of_mem _ (List.mem_append_left _ (List.mem_of_getElem? (i := 3) rfl))) rfl (gk_cons (List.mem_cons_of_mem _ (List.mem_append_left _ (List.mem_of_getElem? (i := 4) rfl))) rfl gk_nil)))) ggX11_turned_X11_left
theorem dX11_turned_0 : decode cX11_turned 0 = .ok (.aload_n 0, 1) := by decide +kernel
theorem dX11_turned_1 : decode cX11_turned 1 = .ok (.iload_n 1, 1) := by decide +kernel
theorem dX11_turned_2 : decode cX11_turned 2 = .ok (.iconst 0, 1) := by decide +kernel
theorem dX11_turned_3 : decode cX11_turned 3 = .ok (.invokevirtual 98, 3) := by decide +kernel
theorem dX11_turned_6 : decode cX11_turned 6 = .ok (.istore_n 3, 1) := by decide +kernel
theorem dX11_turned_7 : decode cX11_turned 7 = .ok (.aload_n 0, 1) := by decide +kernel
theorem dX11_turned_8 : decode cX11_turned 8 = .ok (.iload_n 1, 1) := by decide +kernel
theorem dX11_turned_9 : decode cX11_turned 9 = .ok (.iconst 1, 1) := by decide +kernel
theorem dX11_turned_10 : decode cX11_turned 10 = .ok (.invokevirtual 98, 3) := by decide +kernel
theorem dX11_turned_13 : decode cX11_turned 13 = .ok (.istore 4, 2) := by decide +kernel
theorem dX11_turned_15 : decode cX11_turned 15 = .ok (.aload_n 0, 1) := by decide +kernel
theorem dX11_turned_16 : decode cX11_turned 16 = .ok (.iload_n 1, 1) := by decide +kernel
theorem dX11_turned_17 : decode cX11_turned 17 = .ok (.iconst 2, 1) := by decide +kernel
theorem dX11_turned_18 : decode cX11_turned 18 = .ok (.invokevirtual 98, 3) := by decide +kernel
theorem dX11_turned_21 : decode cX11_turned 21 = .ok (.istore 5, 2) := by decide +kernel
theorem dX11_turned_23 : decode cX11_turned 23 = .ok (.aload_n 0, 1) := by decide +kernel
theorem dX11_turned_24 : decode cX11_turned 24 = .ok (.iload_n 1, 1) := by decide +kernel
theorem dX11_turned_25 : decode cX11_turned 25 = .ok (.iconst 3, 1) := by decide +kernel
theorem dX11_turned_26 : decode cX11_turned 26 = .ok (.invokevirtual 98, 3) := by decide +kernel
theorem dX11_turned_29 : decode cX11_turned 29 = .ok (.istore 6, 2) := by decide +kernel
theorem dX11_turned_31 : decode cX11_turned 31 = .ok (.aload_n 0, 1) := by decide +kernel
theorem dX11_turned_32 : decode cX11_turned 32 = .ok (.getfield 41, 3) := by decide +kernel
theorem dX11_turned_35 : decode cX11_turned 35 = .ok (.iload_n 1, 1) := by decide +kernel
theorem dX11_turned_36 : decode cX11_turned 36 = .ok (.iaload, 1) := by decide +kernel
theorem dX11_turned_37 : decode cX11_turned 37 = .ok (.iconst 2, 1) := by decide +kernel
theorem dX11_turned_38 : decode cX11_turned 38 = .ok (.if_icmp .ge 78, 3) := by decide +kernel
theorem dX11_turned_41 : decode cX11_turned 41 = .ok (.iload_n 2, 1) := by decide +kernel
theorem dX11_turned_42 : decode cX11_turned 42 = .ok (.ifCond .ne 23, 3) := by decide +kernel
theorem dX11_turned_45 : decode cX11_turned 45 = .ok (.iconst 4, 1) := by decide +kernel
theorem dX11_turned_46 : decode cX11_turned 46 = .ok (.aload_n 0, 1) := by decide +kernel
theorem dX11_turned_47 : decode cX11_turned 47 = .ok (.getfield 41, 3) := by decide +kernel
theorem dX11_turned_50 : decode cX11_turned 50 = .ok (.iload_n 1, 1) := by decide +kernel
theorem dX11_turned_51 : decode cX11_turned 51 = .ok (.iaload, 1) := by decide +kernel
theorem dX11_turned_52 : decode cX11_turned 52 = .ok (.ifCond .ne 7, 3) := by decide +kernel
theorem dX11_turned_55 : decode cX11_turned 55 = .ok (.iload_n 3, 1) := by decide +kernel
theorem dX11_turned_56 : decode cX11_turned 56 = .ok (.goto 5, 3) := by decide +kernel
theorem dX11_turned_59 : decode cX11_turned 59 = .ok (.iload 4, 2) := by decide +kernel
theorem dX11_turned_61 : decode cX11_turned 61 = .ok (.imul, 1) := by decide +kernel
theorem dX11_turned_62 : decode cX11_turned 62 = .ok (.goto 53, 3) := by decide +kernel
theorem dX11_turned_65 : decode cX11_turned 65 = .ok (.iload_n 2, 1) := by decide +kernel
theorem dX11_turned_66 : decode cX11_turned 66 = .ok (.iconst 1, 1) := by decide +kernel
theorem dX11_turned_67 : decode cX11_turned 67 = .ok (.if_icmp .ne 23, 3) := by decide +kernel
theorem dX11_turned_70 : decode cX11_turned 70 = .ok (.iconst 4, 1) := by decide +kernel
theorem dX11_turned_71 : decode cX11_turned 71 = .ok (.aload_n 0, 1) := by decide +kernel
theorem dX11_turned_72 : decode cX11_turned 72 = .ok (.getfield 41, 3) := by decide +kernel
theorem dX11_turned_75 : decode cX11_turned 75 = .ok (.iload_n 1, 1) := by decide +kernel
theorem dX11_turned_76 : decode cX11_turned 76 = .ok (.iaload, 1) := by decide +kernel
theorem dX11_turned_77 : decode cX11_turned 77 = .ok (.ifCond .ne 8, 3) := by decide +kernel
theorem dX11_turned_80 : decode cX11_turned 80 = .ok (.iload 4, 2) := by decide +kernel
theorem dX11_turned_82 : decode cX11_turned 82 = .ok (.goto 4, 3) := by decide +kernel
theorem dX11_turned_85 : decode cX11_turned 85 = .ok (.iload_n 3, 1) := by decide +kernel
theorem dX11_turned_86 : decode cX11_turned 86 = .ok (.imul, 1) := by decide +kernel
theorem dX11_turned_87 : decode cX11_turned 87 = .ok (.goto 28, 3) := by decide +kernel
theorem dX11_turned_90 : decode cX11_turned 90 = .ok (.iload_n 2, 1) := by decide +kernel
theorem dX11_turned_91 : decode cX11_turned 91 = .ok (.iconst 2, 1) := by decide +kernel
theorem dX11_turned_92 : decode cX11_turned 92 = .ok (.if_icmp .ne 10, 3) := by decide +kernel
theorem dX11_turned_95 : decode cX11_turned 95 = .ok (.iconst 4, 1) := by decide +kernel
theorem dX11_turned_96 : decode cX11_turned 96 = .ok (.iload 5, 2) := by decide +kernel
theorem dX11_turned_98 : decode cX11_turned 98 = .ok (.imul, 1) := by decide +kernel
theorem dX11_turned_99 : decode cX11_turned 99 = .ok (.goto 16, 3) := by decide +kernel
theorem dX11_turned_102 : decode cX11_turned 102 = .ok (.iload_n 2, 1) := by decide +kernel
theorem dX11_turned_103 : decode cX11_turned 103 = .ok (.iconst 3, 1) := by decide +kernel
theorem dX11_turned_104 : decode cX11_turned 104 = .ok (.if_icmp .ne 10, 3) := by decide +kernel
theorem dX11_turned_107 : decode cX11_turned 107 = .ok (.iconst 4, 1) := by decide +kernel
theorem dX11_turned_108 : decode cX11_turned 108 = .ok (.iload 6, 2) := by decide +kernel
theorem dX11_turned_110 : decode cX11_turned 110 = .ok (.imul, 1) := by decide +kernel
theorem dX11_turned_111 : decode cX11_turned 111 = .ok (.goto 4, 3) := by decide +kernel
theorem dX11_turned_114 : decode cX11_turned 114 = .ok (.iconst 0, 1) := by decide +kernel
theorem dX11_turned_115 : decode cX11_turned 115 = .ok (.ireturn, 1) := by decide +kernel
theorem dX11_turned_116 : decode cX11_turned 116 = .ok (.iload_n 2, 1) := by decide +kernel
theorem dX11_turned_117 : decode cX11_turned 117 = .ok (.iconst 3, 1) := by decide +kernel
theorem dX11_turned_118 : decode cX11_turned 118 = .ok (.if_icmp .ge 31, 3) := by decide +kernel
theorem dX11_turned_121 : decode cX11_turned 121 = .ok (.iload_n 3, 1) := by decide +kernel
theorem dX11_turned_122 : decode cX11_turned 122 = .ok (.iload 4, 2) := by decide +kernel
theorem dX11_turned_124 : decode cX11_turned 124 = .ok (.iadd, 1) := by decide +kernel
theorem dX11_turned_125 : decode cX11_turned 125 = .ok (.iconst 2, 1) := by decide +kernel
theorem dX11_turned_126 : decode cX11_turned 126 = .ok (.iload 5, 2) := by decide +kernel
theorem dX11_turned_128 : decode cX11_turned 128 = .ok (.imul, 1) := by decide +kernel
theorem dX11_turned_129 : decode cX11_turned 129 = .ok (.iadd, 1) := by decide +kernel
theorem dX11_turned_130 : decode cX11_turned 130 = .ok (.iload_n 2, 1) := by decide +kernel
theorem dX11_turned_131 : decode cX11_turned 131 = .ok (.iconst 2, 1) := by decide +kernel
theorem dX11_turned_132 : decode cX11_turned 132 = .ok (.if_icmp .ne 11, 3) := by decide +kernel
theorem dX11_turned_135 : decode cX11_turned 135 = .ok (.bipush (-4), 2) := by decide +kernel
theorem dX11_turned_137 : decode cX11_turned 137 = .ok (.iload 6, 2) := by decide +kernel
theorem dX11_turned_139 : decode cX11_turned 139 = .ok (.imul, 1) := by decide +kernel
theorem dX11_turned_140 : decode cX11_turned 140 = .ok (.goto 7, 3) := by decide +kernel
theorem dX11_turned_143 : decode cX11_turned 143 = .ok (.iconst 4, 1) := by decide +kernel
theorem dX11_turned_144 : decode cX11_turned 144 = .ok (.iload 6, 2) := by decide +kernel
theorem dX11_turned_146 : decode cX11_turned 146 = .ok (.imul, 1) := by decide +kernel
theorem dX11_turned_147 : decode cX11_turned 147 = .ok (.iadd, 1) := by decide +kernel
theorem dX11_turned_148 : decode cX11_turned 148 = .ok (.ireturn, 1) := by decide +kernel
theorem dX11_turned_149 : decode cX11_turned 149 = .ok (.iload_n 2, 1) := by decide +kernel
theorem dX11_turned_150 : decode cX11_turned 150 = .ok (.iconst 3, 1) := by decide +kernel
theorem dX11_turned_151 : decode cX11_turned 151 = .ok (.if_icmp .ne 15, 3) := by decide +kernel
theorem dX11_turned_154 : decode cX11_turned 154 = .ok (.iload_n 3, 1) := by decide +kernel
theorem dX11_turned_155 : decode cX11_turned 155 = .ok (.iload 4, 2) := by decide +kernel
theorem dX11_turned_157 : decode cX11_turned 157 = .ok (.iadd, 1) := by decide +kernel
theorem dX11_turned_158 : decode cX11_turned 158 = .ok (.iconst 2, 1) := by decide +kernel
theorem dX11_turned_159 : decode cX11_turned 159 = .ok (.iload 5, 2) := by decide +kernel
theorem dX11_turned_161 : decode cX11_turned 161 = .ok (.imul, 1) := by decide +kernel
theorem dX11_turned_162 : decode cX11_turned 162 = .ok (.isub, 1) := by decide +kernel
theorem dX11_turned_163 : decode cX11_turned 163 = .ok (.goto 24, 3) := by decide +kernel
theorem dX11_turned_166 : decode cX11_turned 166 = .ok (.aload_n 0, 1) := by decide +kernel
theorem dX11_turned_167 : decode cX11_turned 167 = .ok (.getfield 41, 3) := by decide +kernel
theorem dX11_turned_170 : decode cX11_turned 170 = .ok (.iload_n 1, 1) := by decide +kernel
theorem dX11_turned_171 : decode cX11_turned 171 = .ok (.iaload, 1) := by decide +kernel
theorem dX11_turned_172 : decode cX11_turned 172 = .ok (.iconst 2, 1) := by decide +kernel
theorem dX11_turned_173 : decode cX11_turned 173 = .ok (.if_icmp .ne 10, 3) := by decide +kernel
theorem dX11_turned_176 : decode cX11_turned 176 = .ok (.iload_n 3, 1) := by decide +kernel
theorem dX11_turned_177 : decode cX11_turned 177 = .ok (.iload 4, 2) := by decide +kernel
theorem dX11_turned_179 : decode cX11_turned 179 = .ok (.isub, 1) := by decide +kernel
theorem dX11_turned_180 : decode cX11_turned 180 = .ok (.goto 7, 3) := by decide +kernel
theorem dX11_turned_183 : decode cX11_turned 183 = .ok (.iload 4, 2) := by decide +kernel
theorem dX11_turned_185 : decode cX11_turned 185 = .ok (.iload_n 3, 1) := by decide +kernel
theorem dX11_turned_186 : decode cX11_turned 186 = .ok (.isub, 1) := by decide +kernel
theorem dX11_turned_187 : decode cX11_turned 187 = .ok (.ireturn, 1) := by decide +kernel
theorem gm_X11_layer_0 : ∀ w ∈ wsX11_layer_r1, w ∈ wsX11_layer := fun w h => List.mem_cons_of_mem _ (List.mem_append_left _ (List.mem_append_left _ h))
theorem gm_X11_layer_1 : ∀ w ∈ wsX11_layer_r2, w ∈ wsX11_layer := fun w h => List.mem_cons_of_mem _ (List.mem_append_left _ (List.mem_append_right _ h))
theorem gm_X11_layer_2 : ∀ w ∈ wsX110, w ∈ wsX11_layer := fun w h => List.mem_cons_of_mem _ (List.mem_append_right _ h)
theorem ggX11_layer_X11_isLayer : GoodIn wsX11_layer wsX11_isLayer := gk_cons (gm_X11_layer_0 _ (List.mem_of_getElem? (i := 8) rfl)) rfl (goodIn_app (gk_cons (gm_X11_layer_0 _ (List.mem_of_getElem? (i := 9) rfl)) rfl (gk_cons (gm_X11_layer_0 _ (List.mem_of_getElem? (i := 10) rfl)) rfl (gk_cons (gm_X11_layer_0 _ (List.mem_of_getElem? (i := 11) rfl)) rfl (gk_cons (gm_X11_layer_0 _ (List.mem_of_getElem? (i := 12) rfl)) rfl (gk_cons (gm_X11_layer_0 _ (List.mem_of_getElem? (i := 7) rfl)) rfl (gk_cons (gm_X11_layer_0 _ (List.mem_of_getElem? (i := 13) rfl)) rfl (gk_cons (gm_X11_layer_0 _ (List.mem_of_getElem? (i := 14) rfl)) rfl (gk_cons (gm_X11_layer_0 _ (List.mem_of_getElem? (i := 15) rfl)) rfl (gk_cons (gm_X11_layer_0 _ (List.mem_of_getElem? (i := 16) rfl)) rfl (gk_cons (gm_X11_layer_0 _ (List.mem_of_getElem? (i := 17) rfl)) rfl gk_nil)))))))))) (goodIn_sub gm_X11_layer_2 ag_wsX110))
theorem gX11_layer_X11_isLayer : GoodIn wsX11_layer (wsV RX11 94 RX11 yX11_isLayer wsX11_isLayer) := goodIn_app (gk_cons (gm_X11_layer_0 _ (List.mem_of_getElem? (i := 4) rfl)) rfl (gk_cons (gm_X11_layer_0 _ (List.mem_of_getElem? (i := 5) rfl)) rfl (gk_cons (gm_X11_layer_0 _ (List.mem_of_getElem? (i := 6) rfl)) rfl (gk_cons (gm_X11_layer_0 _ (List.mem_of_getElem? (i := 7) rfl)) rfl gk_nil)))) ggX11_layer_X11_isLayer
theorem ggX11_layer_X11_isIn : GoodIn wsX11_layer wsX11_isIn := gk_cons (gm_X11_layer_0 _ (List.mem_of_getElem? (i := 17) rfl)) rfl gk_nil
theorem gX11_layer_X11_isIn : GoodIn wsX11_layer (va_wsS RX11 69 yX11_isIn wsX11_isIn) := goodIn_app (gk_cons (gm_X11_layer_0 _ (List.mem_of_getElem? (i := 15) rfl)) rfl (gk_cons (gm_X11_layer_0 _ (List.mem_of_getElem? (i := 16) rfl)) rfl (gk_cons (gm_X11_layer_0 _ (List.mem_of_getElem? (i := 7) rfl)) rfl gk_nil))) ggX11_layer_X11_isIn
theorem ggX11_layer_X11_spot : GoodIn wsX11_layer wsX11_spot := gk_cons (gm_X11_layer_0 _ (List.mem_of_getElem? (i := 20) rfl)) rfl gk_nil
theorem gX11_layer_X11_spot : GoodIn wsX11_layer (va_wsS RX11 86 yX11_spot wsX11_spot) := goodIn_app (gk_cons (gm_X11_layer_0 _ (List.mem_of_getElem? (i := 18) rfl)) rfl (gk_cons (gm_X11_layer_0 _ (List.mem_of_getElem? (i := 19) rfl)) rfl (gk_cons (gm_X11_layer_0 _ (List.mem_of_getElem? (i := 7) rfl)) rfl gk_nil))) ggX11_layer_X11_spot
theorem ggX11_layer_X11_turned : GoodIn wsX11_layer wsX11_turned := gk_cons (gm_X11_layer_1 _ (List.mem_of_getElem? (i := 0) rfl)) rfl (goodIn_app (gk_cons (gm_X11_layer_0 _ (List.mem_of_getElem? (i := 1) rfl)) rfl (gk_cons (gm_X11_layer_1 _ (List.mem_of_getElem? (i := 1) rfl)) rfl (gk_cons (gm_X11_layer_1 _ (List.mem_of_getElem? (i := 2) rfl)) rfl (gk_cons (gm_X11_layer_1 _ (List.mem_of_getElem? (i := 3) rfl)) rfl (gk_cons (gm_X11_layer_0 _ (List.mem_of_getElem? (i := 7) rfl)) rfl (gk_cons (gm_X11_layer_1 _ (List.mem_of_getElem? (i := 4) rfl)) rfl (gk_cons (gm_X11_layer_0 _ (List.mem_of_getElem? (i := 3) rfl)) rfl (gk_cons (gm_X11_layer_0 _ (List.mem_of_getElem? (i := 0) rfl)) rfl (gk_cons (gm_X11_layer_1 _ (List.mem_of_getElem? (i := 5) rfl)) rfl (gk_cons (gm_X11_layer_1 _ (List.mem_of_getElem? (i := 6) rfl)) rfl (gk_cons (gm_X11_layer_1 _ (List.mem_of_getElem? (i := 7) rfl)) rfl (gk_cons (gm_X11_layer_1 _ (List.mem_of_getElem? (i := 8) rfl)) rfl gk_nil)))))))))))) (goodIn_sub gm_X11_layer_2 ag_wsX110))
theorem gX11_layer_X11_turned : GoodIn wsX11_layer (wsV RX11 101 RX11 yX11_turned wsX11_turned) := goodIn_app (gk_cons (gm_X11_layer_0 _ (List.mem_of_getElem? (i := 21) rfl)) rfl (gk_cons (gm_X11_layer_0 _ (List.mem_of_getElem? (i := 22) rfl)) rfl (gk_cons (gm_X11_layer_0 _ (List.mem_of_getElem? (i := 23) rfl)) rfl (gk_cons (gm_X11_layer_0 _ (List.mem_of_getElem? (i := 7) rfl)) rfl gk_nil)))) ggX11_layer_X11_turned
theorem dX11_layer_0 : decode cX11_layer 0 = .ok (.aload_n 0, 1) := by decide +kernel
theorem dX11_layer_1 : decode cX11_layer 1 = .ok (.iload_n 1, 1) := by decide +kernel
theorem dX11_layer_2 : decode cX11_layer 2 = .ok (.iload_n 2, 1) := by decide +kernel
theorem dX11_layer_3 : decode cX11_layer 3 = .ok (.invokevirtual 94, 3) := by decide +kernel
theorem dX11_layer_6 : decode cX11_layer 6 = .ok (.ifCond .eq 13, 3) := by decide +kernel
theorem dX11_layer_9 : decode cX11_layer 9 = .ok (.iload_n 3, 1) := by decide +kernel
theorem dX11_layer_10 : decode cX11_layer 10 = .ok (.iconst 0, 1) := by decide +kernel
theorem dX11_layer_11 : decode cX11_layer 11 = .ok (.bipush 9, 2) := by decide +kernel
theorem dX11_layer_13 : decode cX11_layer 13 = .ok (.invokestatic 69, 3) := by decide +kernel
theorem dX11_layer_16 : decode cX11_layer 16 = .ok (.ifCond .ne 5, 3) := by decide +kernel
theorem dX11_layer_19 : decode cX11_layer 19 = .ok (.iconst (-1), 1) := by decide +kernel
theorem dX11_layer_20 : decode cX11_layer 20 = .ok (.ireturn, 1) := by decide +kernel
theorem dX11_layer_21 : decode cX11_layer 21 = .ok (.iload_n 1, 1) := by decide +kernel
theorem dX11_layer_22 : decode cX11_layer 22 = .ok (.iload_n 2, 1) := by decide +kernel
theorem dX11_layer_23 : decode cX11_layer 23 = .ok (.invokestatic 86, 3) := by decide +kernel
theorem dX11_layer_26 : decode cX11_layer 26 = .ok (.istore 4, 2) := by decide +kernel
theorem dX11_layer_28 : decode cX11_layer 28 = .ok (.iload_n 3, 1) := by decide +kernel
theorem dX11_layer_29 : decode cX11_layer 29 = .ok (.tableswitch 63 0 3 #[31, 39, 47, 55], 31) := by decide +kernel
theorem dX11_layer_60 : decode cX11_layer 60 = .ok (.aload_n 0, 1) := by decide +kernel
theorem dX11_layer_61 : decode cX11_layer 61 = .ok (.getfield 38, 3) := by decide +kernel
theorem dX11_layer_64 : decode cX11_layer 64 = .ok (.iload 4, 2) := by decide +kernel
theorem dX11_layer_66 : decode cX11_layer 66 = .ok (.iaload, 1) := by decide +kernel
theorem dX11_layer_67 : decode cX11_layer 67 = .ok (.ireturn, 1) := by decide +kernel
theorem dX11_layer_68 : decode cX11_layer 68 = .ok (.aload_n 0, 1) := by decide +kernel
theorem dX11_layer_69 : decode cX11_layer 69 = .ok (.getfield 41, 3) := by decide +kernel
theorem dX11_layer_72 : decode cX11_layer 72 = .ok (.iload 4, 2) := by decide +kernel
theorem dX11_layer_74 : decode cX11_layer 74 = .ok (.iaload, 1) := by decide +kernel
theorem dX11_layer_75 : decode cX11_layer 75 = .ok (.ireturn, 1) := by decide +kernel
theorem dX11_layer_76 : decode cX11_layer 76 = .ok (.aload_n 0, 1) := by decide +kernel
theorem dX11_layer_77 : decode cX11_layer 77 = .ok (.getfield 44, 3) := by decide +kernel
theorem dX11_layer_80 : decode cX11_layer 80 = .ok (.iload 4, 2) := by decide +kernel
theorem dX11_layer_82 : decode cX11_layer 82 = .ok (.iaload, 1) := by decide +kernel
theorem dX11_layer_83 : decode cX11_layer 83 = .ok (.ireturn, 1) := by decide +kernel
theorem dX11_layer_84 : decode cX11_layer 84 = .ok (.aload_n 0, 1) := by decide +kernel
theorem dX11_layer_85 : decode cX11_layer 85 = .ok (.getfield 47, 3) := by decide +kernel
theorem dX11_layer_88 : decode cX11_layer 88 = .ok (.iload 4, 2) := by decide +kernel
theorem dX11_layer_90 : decode cX11_layer 90 = .ok (.iaload, 1) := by decide +kernel
theorem dX11_layer_91 : decode cX11_layer 91 = .ok (.ireturn, 1) := by decide +kernel
theorem dX11_layer_92 : decode cX11_layer 92 = .ok (.aload_n 0, 1) := by decide +kernel
theorem dX11_layer_93 : decode cX11_layer 93 = .ok (.iload 4, 2) := by decide +kernel
theorem dX11_layer_95 : decode cX11_layer 95 = .ok (.iload_n 3, 1) := by decide +kernel
theorem dX11_layer_96 : decode cX11_layer 96 = .ok (.iconst 4, 1) := by decide +kernel
theorem dX11_layer_97 : decode cX11_layer 97 = .ok (.isub, 1) := by decide +kernel
theorem dX11_layer_98 : decode cX11_layer 98 = .ok (.invokevirtual 101, 3) := by decide +kernel
theorem dX11_layer_101 : decode cX11_layer 101 = .ok (.ireturn, 1) := by decide +kernel
theorem gm_X11_height_0 : ∀ w ∈ wsX110, w ∈ wsX11_height := fun w h => List.mem_cons_of_mem _ (List.mem_append_right _ h)
theorem ggX11_height_X11_spot : GoodIn wsX11_height wsX11_spot := gk_cons (List.mem_cons_of_mem _ (List.mem_append_left _ (List.mem_of_getElem? (i := 5) rfl))) rfl gk_nil
theorem gX11_height_X11_spot : GoodIn wsX11_height (va_wsS RX11 86 yX11_spot wsX11_spot) := goodIn_app (gk_cons (List.mem_cons_of_mem _ (List.mem_append_left _ (List.mem_of_getElem? (i := 2) rfl))) rfl (gk_cons (List.mem_cons_of_mem _ (List.mem_append_left _ (List.mem_of_getElem? (i := 3) rfl))) rfl (gk_cons (List.mem_cons_of_mem _ (List.mem_append_left _ (List.mem_of_getElem? (i := 4) rfl))) rfl gk_nil))) ggX11_height_X11_spot
theorem dX11_height_0 : decode cX11_height 0 = .ok (.iconst 0, 1) := by decide +kernel
theorem dX11_height_1 : decode cX11_height 1 = .ok (.istore_n 2, 1) := by decide +kernel
theorem dX11_height_2 : decode cX11_height 2 = .ok (.iconst 0, 1) := by decide +kernel
theorem dX11_height_3 : decode cX11_height 3 = .ok (.istore_n 3, 1) := by decide +kernel
theorem dX11_height_4 : decode cX11_height 4 = .ok (.iload_n 3, 1) := by decide +kernel
theorem dX11_height_5 : decode cX11_height 5 = .ok (.aload_n 0, 1) := by decide +kernel
theorem dX11_height_6 : decode cX11_height 6 = .ok (.getfield 35, 3) := by decide +kernel
theorem dX11_height_9 : decode cX11_height 9 = .ok (.iload_n 1, 1) := by decide +kernel
theorem dX11_height_10 : decode cX11_height 10 = .ok (.iaload, 1) := by decide +kernel
theorem dX11_height_11 : decode cX11_height 11 = .ok (.if_icmp .ge 22, 3) := by decide +kernel
theorem dX11_height_14 : decode cX11_height 14 = .ok (.iload_n 2, 1) := by decide +kernel
theorem dX11_height_15 : decode cX11_height 15 = .ok (.aload_n 0, 1) := by decide +kernel
theorem dX11_height_16 : decode cX11_height 16 = .ok (.getfield 44, 3) := by decide +kernel
theorem dX11_height_19 : decode cX11_height 19 = .ok (.iload_n 1, 1) := by decide +kernel
theorem dX11_height_20 : decode cX11_height 20 = .ok (.iload_n 3, 1) := by decide +kernel
theorem dX11_height_21 : decode cX11_height 21 = .ok (.invokestatic 86, 3) := by decide +kernel
theorem dX11_height_24 : decode cX11_height 24 = .ok (.iaload, 1) := by decide +kernel
theorem dX11_height_25 : decode cX11_height 25 = .ok (.iadd, 1) := by decide +kernel
theorem dX11_height_26 : decode cX11_height 26 = .ok (.istore_n 2, 1) := by decide +kernel
theorem dX11_height_27 : decode cX11_height 27 = .ok (.iinc 3 1, 3) := by decide +kernel
theorem dX11_height_30 : decode cX11_height 30 = .ok (.goto (-26), 3) := by decide +kernel
theorem dX11_height_33 : decode cX11_height 33 = .ok (.iload_n 2, 1) := by decide +kernel
theorem dX11_height_34 : decode cX11_height 34 = .ok (.ireturn, 1) := by decide +kernel
theorem gm_X11_tableOf_0 : ∀ w ∈ wsX11_tableOf_r1, w ∈ wsX11_tableOf := fun w h => List.mem_cons_of_mem _ (List.mem_append_left _ (List.mem_append_left _ h))
theorem gm_X11_tableOf_1 : ∀ w ∈ wsX11_tableOf_r2, w ∈ wsX11_tableOf := fun w h => List.mem_cons_of_mem _ (List.mem_append_left _ (List.mem_append_right _ h))
theorem gm_X11_tableOf_2 : ∀ w ∈ wsX110, w ∈ wsX11_tableOf := fun w h => List.mem_cons_of_mem _ (List.mem_append_right _ h)
theorem ggX11_tableOf_X11_height : GoodIn wsX11_tableOf wsX11_height := gk_cons (gm_X11_tableOf_0 _ (List.mem_of_getElem? (i := 6) rfl)) rfl (goodIn_app (gk_cons (gm_X11_tableOf_0 _ (List.mem_of_getElem? (i := 0) rfl)) rfl (gk_cons (gm_X11_tableOf_0 _ (List.mem_of_getElem? (i := 1) rfl)) rfl (gk_cons (gm_X11_tableOf_0 _ (List.mem_of_getElem? (i := 7) rfl)) rfl (gk_cons (gm_X11_tableOf_0 _ (List.mem_of_getElem? (i := 8) rfl)) rfl (gk_cons (gm_X11_tableOf_0 _ (List.mem_of_getElem? (i := 5) rfl)) rfl (gk_cons (gm_X11_tableOf_0 _ (List.mem_of_getElem? (i := 9) rfl)) rfl gk_nil)))))) (goodIn_sub gm_X11_tableOf_2 ag_wsX110))
