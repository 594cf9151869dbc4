theorem dX11_first_30 : decode cX11_first 30 = .ok (.lmul, 1) := by decide +kernel
theorem dX11_first_31 : decode cX11_first 31 = .ok (.ldc2_w 150, 3) := by decide +kernel
theorem dX11_first_34 : decode cX11_first 34 = .ok (.iload_n 3, 1) := by decide +kernel
theorem dX11_first_35 : decode cX11_first 35 = .ok (.i2l, 1) := by decide +kernel
theorem dX11_first_36 : decode cX11_first 36 = .ok (.lmul, 1) := by decide +kernel
theorem dX11_first_37 : decode cX11_first 37 = .ok (.ldc2_w 150, 3) := by decide +kernel
theorem dX11_first_40 : decode cX11_first 40 = .ok (.iload 4, 2) := by decide +kernel
theorem dX11_first_42 : decode cX11_first 42 = .ok (.i2l, 1) := by decide +kernel
theorem dX11_first_43 : decode cX11_first 43 = .ok (.lmul, 1) := by decide +kernel
theorem dX11_first_44 : decode cX11_first 44 = .ok (.invokevirtual 133, 3) := by decide +kernel
theorem dX11_first_47 : decode cX11_first 47 = .ok (.aload_n 0, 1) := by decide +kernel
theorem dX11_first_48 : decode cX11_first 48 = .ok (.iload_n 1, 1) := by decide +kernel
theorem dX11_first_49 : decode cX11_first 49 = .ok (.invokevirtual 179, 3) := by decide +kernel
theorem dX11_first_52 : decode cX11_first 52 = .ok (.ireturn, 1) := by decide +kernel
theorem gm_X11_factorOf_0 : ∀ w ∈ wsX110, w ∈ wsX11_factorOf := fun w h => List.mem_cons_of_mem _ (List.mem_append_right _ h)
theorem ggX11_factorOf_X11_divisor : GoodIn wsX11_factorOf wsX11_divisor := gk_cons (List.mem_cons_of_mem _ (List.mem_append_left _ (List.mem_of_getElem? (i := 7) rfl))) rfl gk_nil
theorem gX11_factorOf_X11_divisor : GoodIn wsX11_factorOf (va_wsS RX11 137 yX11_divisor wsX11_divisor) := goodIn_app (gk_cons (List.mem_cons_of_mem _ (List.mem_append_left _ (List.mem_of_getElem? (i := 4) rfl))) rfl (gk_cons (List.mem_cons_of_mem _ (List.mem_append_left _ (List.mem_of_getElem? (i := 5) rfl))) rfl (gk_cons (List.mem_cons_of_mem _ (List.mem_append_left _ (List.mem_of_getElem? (i := 6) rfl))) rfl gk_nil))) ggX11_factorOf_X11_divisor
theorem dX11_factorOf_0 : decode cX11_factorOf 0 = .ok (.aload_n 0, 1) := by decide +kernel
theorem dX11_factorOf_1 : decode cX11_factorOf 1 = .ok (.getfield 169, 3) := by decide +kernel
theorem dX11_factorOf_4 : decode cX11_factorOf 4 = .ok (.lstore_n 2, 1) := by decide +kernel
theorem dX11_factorOf_5 : decode cX11_factorOf 5 = .ok (.ldc2_w 156, 3) := by decide +kernel
theorem dX11_factorOf_8 : decode cX11_factorOf 8 = .ok (.aload_n 0, 1) := by decide +kernel
theorem dX11_factorOf_9 : decode cX11_factorOf 9 = .ok (.getfield 120, 3) := by decide +kernel
theorem dX11_factorOf_12 : decode cX11_factorOf 12 = .ok (.lmul, 1) := by decide +kernel
theorem dX11_factorOf_13 : decode cX11_factorOf 13 = .ok (.lstore 4, 2) := by decide +kernel
theorem dX11_factorOf_15 : decode cX11_factorOf 15 = .ok (.lload 4, 2) := by decide +kernel
theorem dX11_factorOf_17 : decode cX11_factorOf 17 = .ok (.lload_n 2, 1) := by decide +kernel
theorem dX11_factorOf_18 : decode cX11_factorOf 18 = .ok (.invokestatic 137, 3) := by decide +kernel
theorem dX11_factorOf_21 : decode cX11_factorOf 21 = .ok (.lstore 6, 2) := by decide +kernel
theorem dX11_factorOf_23 : decode cX11_factorOf 23 = .ok (.lload 4, 2) := by decide +kernel
theorem dX11_factorOf_25 : decode cX11_factorOf 25 = .ok (.lload 6, 2) := by decide +kernel
theorem dX11_factorOf_27 : decode cX11_factorOf 27 = .ok (.ldiv, 1) := by decide +kernel
theorem dX11_factorOf_28 : decode cX11_factorOf 28 = .ok (.lstore 4, 2) := by decide +kernel
theorem dX11_factorOf_30 : decode cX11_factorOf 30 = .ok (.lload_n 2, 1) := by decide +kernel
theorem dX11_factorOf_31 : decode cX11_factorOf 31 = .ok (.lload 6, 2) := by decide +kernel
theorem dX11_factorOf_33 : decode cX11_factorOf 33 = .ok (.ldiv, 1) := by decide +kernel
theorem dX11_factorOf_34 : decode cX11_factorOf 34 = .ok (.lstore_n 2, 1) := by decide +kernel
theorem dX11_factorOf_35 : decode cX11_factorOf 35 = .ok (.aload_n 0, 1) := by decide +kernel
theorem dX11_factorOf_36 : decode cX11_factorOf 36 = .ok (.getfield 172, 3) := by decide +kernel
theorem dX11_factorOf_39 : decode cX11_factorOf 39 = .ok (.i2l, 1) := by decide +kernel
theorem dX11_factorOf_40 : decode cX11_factorOf 40 = .ok (.lload_n 2, 1) := by decide +kernel
theorem dX11_factorOf_41 : decode cX11_factorOf 41 = .ok (.invokestatic 137, 3) := by decide +kernel
theorem dX11_factorOf_44 : decode cX11_factorOf 44 = .ok (.lstore 6, 2) := by decide +kernel
theorem dX11_factorOf_46 : decode cX11_factorOf 46 = .ok (.iload_n 1, 1) := by decide +kernel
theorem dX11_factorOf_47 : decode cX11_factorOf 47 = .ok (.ifCond .ne 17, 3) := by decide +kernel
theorem dX11_factorOf_50 : decode cX11_factorOf 50 = .ok (.lload 4, 2) := by decide +kernel
theorem dX11_factorOf_52 : decode cX11_factorOf 52 = .ok (.aload_n 0, 1) := by decide +kernel
theorem dX11_factorOf_53 : decode cX11_factorOf 53 = .ok (.getfield 172, 3) := by decide +kernel
theorem dX11_factorOf_56 : decode cX11_factorOf 56 = .ok (.i2l, 1) := by decide +kernel
theorem dX11_factorOf_57 : decode cX11_factorOf 57 = .ok (.lload 6, 2) := by decide +kernel
theorem dX11_factorOf_59 : decode cX11_factorOf 59 = .ok (.ldiv, 1) := by decide +kernel
theorem dX11_factorOf_60 : decode cX11_factorOf 60 = .ok (.lmul, 1) := by decide +kernel
theorem dX11_factorOf_61 : decode cX11_factorOf 61 = .ok (.goto 7, 3) := by decide +kernel
theorem dX11_factorOf_64 : decode cX11_factorOf 64 = .ok (.lload_n 2, 1) := by decide +kernel
theorem dX11_factorOf_65 : decode cX11_factorOf 65 = .ok (.lload 6, 2) := by decide +kernel
theorem dX11_factorOf_67 : decode cX11_factorOf 67 = .ok (.ldiv, 1) := by decide +kernel
theorem dX11_factorOf_68 : decode cX11_factorOf 68 = .ok (.lreturn, 1) := by decide +kernel
theorem gm_X11_factor_0 : ∀ w ∈ wsX11_factor_r1, w ∈ wsX11_factor := fun w h => List.mem_cons_of_mem _ (List.mem_append_left _ (List.mem_append_left _ h))
theorem gm_X11_factor_1 : ∀ w ∈ wsX11_factor_r2, w ∈ wsX11_factor := fun w h => List.mem_cons_of_mem _ (List.mem_append_left _ (List.mem_append_right _ (List.mem_append_left _ h)))
theorem gm_X11_factor_2 : ∀ w ∈ wsX11_factor_r3, w ∈ wsX11_factor := fun w h => List.mem_cons_of_mem _ (List.mem_append_left _ (List.mem_append_right _ (List.mem_append_right _ (List.mem_append_left _ h))))
theorem gm_X11_factor_3 : ∀ w ∈ wsX11_factor_r4, w ∈ wsX11_factor := fun w h => List.mem_cons_of_mem _ (List.mem_append_left _ (List.mem_append_right _ (List.mem_append_right _ (List.mem_append_right _ h))))
theorem gm_X11_factor_4 : ∀ w ∈ wsX110, w ∈ wsX11_factor := fun w h => List.mem_cons_of_mem _ (List.mem_append_right _ h)
theorem ggX11_factor_X11_isPlate : GoodIn wsX11_factor wsX11_isPlate := gk_cons (gm_X11_factor_0 _ (List.mem_of_getElem? (i := 6) rfl)) rfl (goodIn_app (gk_cons (gm_X11_factor_0 _ (List.mem_of_getElem? (i := 7) rfl)) rfl (gk_cons (gm_X11_factor_0 _ (List.mem_of_getElem? (i := 8) rfl)) rfl (gk_cons (gm_X11_factor_0 _ (List.mem_of_getElem? (i := 9) rfl)) rfl (gk_cons (gm_X11_factor_0 _ (List.mem_of_getElem? (i := 5) rfl)) rfl (gk_cons (gm_X11_factor_0 _ (List.mem_of_getElem? (i := 10) rfl)) rfl gk_nil))))) (goodIn_sub gm_X11_factor_4 ag_wsX110))
theorem gX11_factor_X11_isPlate : GoodIn wsX11_factor (wsV RX11 79 RX11 yX11_isPlate wsX11_isPlate) := goodIn_app (gk_cons (gm_X11_factor_0 _ (List.mem_of_getElem? (i := 2) rfl)) rfl (gk_cons (gm_X11_factor_0 _ (List.mem_of_getElem? (i := 3) rfl)) rfl (gk_cons (gm_X11_factor_0 _ (List.mem_of_getElem? (i := 4) rfl)) rfl (gk_cons (gm_X11_factor_0 _ (List.mem_of_getElem? (i := 5) rfl)) rfl gk_nil)))) ggX11_factor_X11_isPlate
theorem ggX11_factor_X11_isLoad : GoodIn wsX11_factor wsX11_isLoad := gk_cons (gm_X11_factor_0 _ (List.mem_of_getElem? (i := 13) rfl)) rfl (gk_cons (gm_X11_factor_0 _ (List.mem_of_getElem? (i := 8) rfl)) rfl (gk_cons (gm_X11_factor_0 _ (List.mem_of_getElem? (i := 9) rfl)) rfl (gk_cons (gm_X11_factor_0 _ (List.mem_of_getElem? (i := 5) rfl)) rfl (gk_cons (gm_X11_factor_0 _ (List.mem_of_getElem? (i := 10) rfl)) rfl gk_nil))))
theorem gX11_factor_X11_isLoad : GoodIn wsX11_factor (va_wsS RX11 147 yX11_isLoad wsX11_isLoad) := goodIn_app (gk_cons (gm_X11_factor_0 _ (List.mem_of_getElem? (i := 11) rfl)) rfl (gk_cons (gm_X11_factor_0 _ (List.mem_of_getElem? (i := 12) rfl)) rfl (gk_cons (gm_X11_factor_0 _ (List.mem_of_getElem? (i := 5) rfl)) rfl gk_nil))) ggX11_factor_X11_isLoad
theorem ggX11_factor_X11_isIn : GoodIn wsX11_factor wsX11_isIn := gk_cons (gm_X11_factor_0 _ (List.mem_of_getElem? (i := 10) rfl)) rfl gk_nil
theorem gX11_factor_X11_isIn : GoodIn wsX11_factor (va_wsS RX11 69 yX11_isIn wsX11_isIn) := goodIn_app (gk_cons (gm_X11_factor_0 _ (List.mem_of_getElem? (i := 8) rfl)) rfl (gk_cons (gm_X11_factor_0 _ (List.mem_of_getElem? (i := 9) rfl)) rfl (gk_cons (gm_X11_factor_0 _ (List.mem_of_getElem? (i := 5) rfl)) rfl gk_nil))) ggX11_factor_X11_isIn
theorem gk_X11_factor_X11_solve_r1 : GoodIn wsX11_factor wsX11_solve_r1 := (gk_cons (gm_X11_factor_0 _ (List.mem_of_getElem? (i := 18) rfl)) rfl (gk_cons (gm_X11_factor_0 _ (List.mem_of_getElem? (i := 19) rfl)) rfl (gk_cons (gm_X11_factor_0 _ (List.mem_of_getElem? (i := 20) rfl)) rfl (gk_cons (gm_X11_factor_0 _ (List.mem_of_getElem? (i := 21) rfl)) rfl (gk_cons (gm_X11_factor_0 _ (List.mem_of_getElem? (i := 22) rfl)) rfl (gk_cons (gm_X11_factor_0 _ (List.mem_of_getElem? (i := 23) rfl)) rfl (gk_cons (gm_X11_factor_1 _ (List.mem_of_getElem? (i := 0) rfl)) rfl (gk_cons (gm_X11_factor_0 _ (List.mem_of_getElem? (i := 5) rfl)) rfl (gk_cons (gm_X11_factor_1 _ (List.mem_of_getElem? (i := 1) rfl)) rfl (gk_cons (gm_X11_factor_1 _ (List.mem_of_getElem? (i := 2) rfl)) rfl (gk_cons (gm_X11_factor_1 _ (List.mem_of_getElem? (i := 3) rfl)) rfl (gk_cons (gm_X11_factor_1 _ (List.mem_of_getElem? (i := 4) rfl)) rfl (gk_cons (gm_X11_factor_1 _ (List.mem_of_getElem? (i := 5) rfl)) rfl (gk_cons (gm_X11_factor_1 _ (List.mem_of_getElem? (i := 6) rfl)) rfl (gk_cons (gm_X11_factor_1 _ (List.mem_of_getElem? (i := 7) rfl)) rfl (gk_cons (gm_X11_factor_1 _ (List.mem_of_getElem? (i := 8) rfl)) rfl (gk_cons (gm_X11_factor_1 _ (List.mem_of_getElem? (i := 9) rfl)) rfl (gk_cons (gm_X11_factor_1 _ (List.mem_of_getElem? (i := 10) rfl)) rfl (gk_cons (gm_X11_factor_1 _ (List.mem_of_getElem? (i := 11) rfl)) rfl (gk_cons (gm_X11_factor_1 _ (List.mem_of_getElem? (i := 12) rfl)) rfl (gk_cons (gm_X11_factor_1 _ (List.mem_of_getElem? (i := 13) rfl)) rfl (gk_cons (gm_X11_factor_1 _ (List.mem_of_getElem? (i := 14) rfl)) rfl (gk_cons (gm_X11_factor_1 _ (List.mem_of_getElem? (i := 15) rfl)) rfl (gk_cons (gm_X11_factor_1 _ (List.mem_of_getElem? (i := 16) rfl)) rfl gk_nil))))))))))))))))))))))))
theorem gk_X11_factor_X11_solve_r2 : GoodIn wsX11_factor wsX11_solve_r2 := (gk_cons (gm_X11_factor_1 _ (List.mem_of_getElem? (i := 17) rfl)) rfl (gk_cons (gm_X11_factor_1 _ (List.mem_of_getElem? (i := 18) rfl)) rfl (gk_cons (gm_X11_factor_1 _ (List.mem_of_getElem? (i := 19) rfl)) rfl (gk_cons (gm_X11_factor_1 _ (List.mem_of_getElem? (i := 20) rfl)) rfl (gk_cons (gm_X11_factor_1 _ (List.mem_of_getElem? (i := 21) rfl)) rfl (gk_cons (gm_X11_factor_1 _ (List.mem_of_getElem? (i := 22) rfl)) rfl (gk_cons (gm_X11_factor_1 _ (List.mem_of_getElem? (i := 23) rfl)) rfl (gk_cons (gm_X11_factor_2 _ (List.mem_of_getElem? (i := 0) rfl)) rfl (gk_cons (gm_X11_factor_2 _ (List.mem_of_getElem? (i := 1) rfl)) rfl gk_nil)))))))))
theorem ggX11_factor_X11_solve : GoodIn wsX11_factor wsX11_solve := gk_cons (gm_X11_factor_0 _ (List.mem_of_getElem? (i := 17) rfl)) rfl (goodIn_app (goodIn_app gk_X11_factor_X11_solve_r1 gk_X11_factor_X11_solve_r2) (goodIn_sub gm_X11_factor_4 ag_wsX110))
theorem gX11_factor_X11_solve : GoodIn wsX11_factor (wsV RX11 133 RX11 yX11_solve wsX11_solve) := goodIn_app (gk_cons (gm_X11_factor_0 _ (List.mem_of_getElem? (i := 14) rfl)) rfl (gk_cons (gm_X11_factor_0 _ (List.mem_of_getElem? (i := 15) rfl)) rfl (gk_cons (gm_X11_factor_0 _ (List.mem_of_getElem? (i := 16) rfl)) rfl (gk_cons (gm_X11_factor_0 _ (List.mem_of_getElem? (i := 5) rfl)) rfl gk_nil)))) ggX11_factor_X11_solve
theorem gk_X11_factor_X11_firstOf_r1 : GoodIn wsX11_factor wsX11_firstOf_r1 := (gk_cons (gm_X11_factor_1 _ (List.mem_of_getElem? (i := 2) rfl)) rfl (gk_cons (gm_X11_factor_0 _ (List.mem_of_getElem? (i := 18) rfl)) rfl (gk_cons (gm_X11_factor_2 _ (List.mem_of_getElem? (i := 6) rfl)) rfl (gk_cons (gm_X11_factor_2 _ (List.mem_of_getElem? (i := 7) rfl)) rfl (gk_cons (gm_X11_factor_1 _ (List.mem_of_getElem? (i := 8) rfl)) rfl (gk_cons (gm_X11_factor_1 _ (List.mem_of_getElem? (i := 9) rfl)) rfl (gk_cons (gm_X11_factor_0 _ (List.mem_of_getElem? (i := 5) rfl)) rfl (gk_cons (gm_X11_factor_1 _ (List.mem_of_getElem? (i := 10) rfl)) rfl (gk_cons (gm_X11_factor_2 _ (List.mem_of_getElem? (i := 8) rfl)) rfl (gk_cons (gm_X11_factor_2 _ (List.mem_of_getElem? (i := 9) rfl)) rfl (gk_cons (gm_X11_factor_2 _ (List.mem_of_getElem? (i := 10) rfl)) rfl (gk_cons (gm_X11_factor_2 _ (List.mem_of_getElem? (i := 11) rfl)) rfl (gk_cons (gm_X11_factor_2 _ (List.mem_of_getElem? (i := 12) rfl)) rfl (gk_cons (gm_X11_factor_2 _ (List.mem_of_getElem? (i := 13) rfl)) rfl (gk_cons (gm_X11_factor_2 _ (List.mem_of_getElem? (i := 14) rfl)) rfl (gk_cons (gm_X11_factor_2 _ (List.mem_of_getElem? (i := 15) rfl)) rfl (gk_cons (gm_X11_factor_1 _ (List.mem_of_getElem? (i := 15) rfl)) rfl (gk_cons (gm_X11_factor_2 _ (List.mem_of_getElem? (i := 16) rfl)) rfl (gk_cons (gm_X11_factor_0 _ (List.mem_of_getElem? (i := 19) rfl)) rfl (gk_cons (gm_X11_factor_0 _ (List.mem_of_getElem? (i := 20) rfl)) rfl (gk_cons (gm_X11_factor_0 _ (List.mem_of_getElem? (i := 21) rfl)) rfl (gk_cons (gm_X11_factor_2 _ (List.mem_of_getElem? (i := 17) rfl)) rfl (gk_cons (gm_X11_factor_1 _ (List.mem_of_getElem? (i := 16) rfl)) rfl (gk_cons (gm_X11_factor_1 _ (List.mem_of_getElem? (i := 17) rfl)) rfl gk_nil))))))))))))))))))))))))
theorem gk_X11_factor_X11_firstOf_r2 : GoodIn wsX11_factor wsX11_firstOf_r2 := (gk_cons (gm_X11_factor_1 _ (List.mem_of_getElem? (i := 18) rfl)) rfl (gk_cons (gm_X11_factor_1 _ (List.mem_of_getElem? (i := 19) rfl)) rfl (gk_cons (gm_X11_factor_1 _ (List.mem_of_getElem? (i := 20) rfl)) rfl (gk_cons (gm_X11_factor_1 _ (List.mem_of_getElem? (i := 21) rfl)) rfl (gk_cons (gm_X11_factor_1 _ (List.mem_of_getElem? (i := 22) rfl)) rfl (gk_cons (gm_X11_factor_1 _ (List.mem_of_getElem? (i := 23) rfl)) rfl (gk_cons (gm_X11_factor_2 _ (List.mem_of_getElem? (i := 0) rfl)) rfl (gk_cons (gm_X11_factor_2 _ (List.mem_of_getElem? (i := 1) rfl)) rfl (gk_cons (gm_X11_factor_2 _ (List.mem_of_getElem? (i := 18) rfl)) rfl (gk_cons (gm_X11_factor_2 _ (List.mem_of_getElem? (i := 19) rfl)) rfl (gk_cons (gm_X11_factor_2 _ (List.mem_of_getElem? (i := 20) rfl)) rfl (gk_cons (gm_X11_factor_2 _ (List.mem_of_getElem? (i := 21) rfl)) rfl (gk_cons (gm_X11_factor_2 _ (List.mem_of_getElem? (i := 22) rfl)) rfl (gk_cons (gm_X11_factor_2 _ (List.mem_of_getElem? (i := 23) rfl)) rfl (gk_cons (gm_X11_factor_3 _ (List.mem_of_getElem? (i := 0) rfl)) rfl (gk_cons (gm_X11_factor_3 _ (List.mem_of_getElem? (i := 1) rfl)) rfl gk_nil))))))))))))))))
theorem ggX11_factor_X11_firstOf : GoodIn wsX11_factor wsX11_firstOf := gk_cons (gm_X11_factor_2 _ (List.mem_of_getElem? (i := 5) rfl)) rfl (goodIn_app (goodIn_app gk_X11_factor_X11_firstOf_r1 gk_X11_factor_X11_firstOf_r2) (goodIn_sub gm_X11_factor_4 ag_wsX110))
theorem gX11_factor_X11_firstOf : GoodIn wsX11_factor (wsV RX11 179 RX11 yX11_firstOf wsX11_firstOf) := goodIn_app (gk_cons (gm_X11_factor_2 _ (List.mem_of_getElem? (i := 2) rfl)) rfl (gk_cons (gm_X11_factor_2 _ (List.mem_of_getElem? (i := 3) rfl)) rfl (gk_cons (gm_X11_factor_2 _ (List.mem_of_getElem? (i := 4) rfl)) rfl (gk_cons (gm_X11_factor_0 _ (List.mem_of_getElem? (i := 5) rfl)) rfl gk_nil)))) ggX11_factor_X11_firstOf
theorem ggX11_factor_X11_factorOf : GoodIn wsX11_factor wsX11_factorOf := gk_cons (gm_X11_factor_3 _ (List.mem_of_getElem? (i := 5) rfl)) rfl (goodIn_app (gk_cons (gm_X11_factor_2 _ (List.mem_of_getElem? (i := 6) rfl)) rfl (gk_cons (gm_X11_factor_2 _ (List.mem_of_getElem? (i := 16) rfl)) rfl (gk_cons (gm_X11_factor_0 _ (List.mem_of_getElem? (i := 18) rfl)) rfl (gk_cons (gm_X11_factor_2 _ (List.mem_of_getElem? (i := 7) rfl)) rfl (gk_cons (gm_X11_factor_3 _ (List.mem_of_getElem? (i := 6) rfl)) rfl (gk_cons (gm_X11_factor_3 _ (List.mem_of_getElem? (i := 7) rfl)) rfl (gk_cons (gm_X11_factor_0 _ (List.mem_of_getElem? (i := 5) rfl)) rfl (gk_cons (gm_X11_factor_3 _ (List.mem_of_getElem? (i := 8) rfl)) rfl gk_nil)))))))) (goodIn_sub gm_X11_factor_4 ag_wsX110))
theorem gX11_factor_X11_factorOf : GoodIn wsX11_factor (wsV RX11 186 RX11 yX11_factorOf wsX11_factorOf) := goodIn_app (gk_cons (gm_X11_factor_3 _ (List.mem_of_getElem? (i := 2) rfl)) rfl (gk_cons (gm_X11_factor_3 _ (List.mem_of_getElem? (i := 3) rfl)) rfl (gk_cons (gm_X11_factor_3 _ (List.mem_of_getElem? (i := 4) rfl)) rfl (gk_cons (gm_X11_factor_0 _ (List.mem_of_getElem? (i := 5) rfl)) rfl gk_nil)))) ggX11_factor_X11_factorOf
theorem dX11_factor_0 : decode cX11_factor 0 = .ok (.aload_n 0, 1) := by decide +kernel
theorem dX11_factor_1 : decode cX11_factor 1 = .ok (.iload_n 1, 1) := by decide +kernel
theorem dX11_factor_2 : decode cX11_factor 2 = .ok (.invokevirtual 79, 3) := by decide +kernel
theorem dX11_factor_5 : decode cX11_factor 5 = .ok (.ifCond .eq 23, 3) := by decide +kernel
theorem dX11_factor_8 : decode cX11_factor 8 = .ok (.iload_n 2, 1) := by decide +kernel
theorem dX11_factor_9 : decode cX11_factor 9 = .ok (.iload_n 3, 1) := by decide +kernel
theorem dX11_factor_10 : decode cX11_factor 10 = .ok (.iload 4, 2) := by decide +kernel
theorem dX11_factor_12 : decode cX11_factor 12 = .ok (.invokestatic 147, 3) := by decide +kernel
theorem dX11_factor_15 : decode cX11_factor 15 = .ok (.ifCond .eq 13, 3) := by decide +kernel
theorem dX11_factor_18 : decode cX11_factor 18 = .ok (.iload 5, 2) := by decide +kernel
theorem dX11_factor_20 : decode cX11_factor 20 = .ok (.iconst 0, 1) := by decide +kernel
theorem dX11_factor_21 : decode cX11_factor 21 = .ok (.iconst 1, 1) := by decide +kernel
theorem dX11_factor_22 : decode cX11_factor 22 = .ok (.invokestatic 69, 3) := by decide +kernel
theorem dX11_factor_25 : decode cX11_factor 25 = .ok (.ifCond .ne 7, 3) := by decide +kernel
theorem dX11_factor_28 : decode cX11_factor 28 = .ok (.ldc2_w 112, 3) := by decide +kernel
theorem dX11_factor_31 : decode cX11_factor 31 = .ok (.lreturn, 1) := by decide +kernel
theorem dX11_factor_32 : decode cX11_factor 32 = .ok (.aload_n 0, 1) := by decide +kernel
theorem dX11_factor_33 : decode cX11_factor 33 = .ok (.iload_n 1, 1) := by decide +kernel
theorem dX11_factor_34 : decode cX11_factor 34 = .ok (.ldc2_w 150, 3) := by decide +kernel
theorem dX11_factor_37 : decode cX11_factor 37 = .ok (.iload_n 2, 1) := by decide +kernel
theorem dX11_factor_38 : decode cX11_factor 38 = .ok (.i2l, 1) := by decide +kernel
theorem dX11_factor_39 : decode cX11_factor 39 = .ok (.lmul, 1) := by decide +kernel
theorem dX11_factor_40 : decode cX11_factor 40 = .ok (.ldc2_w 150, 3) := by decide +kernel
theorem dX11_factor_43 : decode cX11_factor 43 = .ok (.iload_n 3, 1) := by decide +kernel
theorem dX11_factor_44 : decode cX11_factor 44 = .ok (.i2l, 1) := by decide +kernel
theorem dX11_factor_45 : decode cX11_factor 45 = .ok (.lmul, 1) := by decide +kernel
theorem dX11_factor_46 : decode cX11_factor 46 = .ok (.ldc2_w 150, 3) := by decide +kernel
theorem dX11_factor_49 : decode cX11_factor 49 = .ok (.iload 4, 2) := by decide +kernel
theorem dX11_factor_51 : decode cX11_factor 51 = .ok (.i2l, 1) := by decide +kernel
theorem dX11_factor_52 : decode cX11_factor 52 = .ok (.lmul, 1) := by decide +kernel
theorem dX11_factor_53 : decode cX11_factor 53 = .ok (.invokevirtual 133, 3) := by decide +kernel
theorem dX11_factor_56 : decode cX11_factor 56 = .ok (.aload_n 0, 1) := by decide +kernel
theorem dX11_factor_57 : decode cX11_factor 57 = .ok (.iload_n 1, 1) := by decide +kernel
theorem dX11_factor_58 : decode cX11_factor 58 = .ok (.invokevirtual 179, 3) := by decide +kernel
theorem dX11_factor_61 : decode cX11_factor 61 = .ok (.iconst (-1), 1) := by decide +kernel
theorem dX11_factor_62 : decode cX11_factor 62 = .ok (.if_icmp .ne 9, 3) := by decide +kernel
theorem dX11_factor_65 : decode cX11_factor 65 = .ok (.ldc2_w 112, 3) := by decide +kernel
theorem dX11_factor_68 : decode cX11_factor 68 = .ok (.goto 9, 3) := by decide +kernel
theorem dX11_factor_71 : decode cX11_factor 71 = .ok (.aload_n 0, 1) := by decide +kernel
theorem dX11_factor_72 : decode cX11_factor 72 = .ok (.iload 5, 2) := by decide +kernel
theorem dX11_factor_74 : decode cX11_factor 74 = .ok (.invokevirtual 186, 3) := by decide +kernel
theorem dX11_factor_77 : decode cX11_factor 77 = .ok (.lreturn, 1) := by decide +kernel
theorem gm_X11_copies_0 : ∀ w ∈ wsX110, w ∈ wsX11_copies := fun w h => List.mem_cons_of_mem _ (List.mem_append_right _ h)
theorem ggX11_copies_X11_spot : GoodIn wsX11_copies wsX11_spot := gk_cons (List.mem_cons_of_mem _ (List.mem_append_left _ (List.mem_of_getElem? (i := 8) rfl))) rfl gk_nil
theorem gX11_copies_X11_spot : GoodIn wsX11_copies (va_wsS RX11 86 yX11_spot wsX11_spot) := goodIn_app (gk_cons (List.mem_cons_of_mem _ (List.mem_append_left _ (List.mem_of_getElem? (i := 5) rfl))) rfl (gk_cons (List.mem_cons_of_mem _ (List.mem_append_left _ (List.mem_of_getElem? (i := 6) rfl))) rfl (gk_cons (List.mem_cons_of_mem _ (List.mem_append_left _ (List.mem_of_getElem? (i := 7) rfl))) rfl gk_nil))) ggX11_copies_X11_spot
theorem ggX11_copies_X11_puts : GoodIn wsX11_copies wsX11_puts := gk_cons (List.mem_cons_of_mem _ (List.mem_append_left _ (List.mem_of_getElem? (i := 12) rfl))) rfl (goodIn_app (gk_cons (List.mem_cons_of_mem _ (List.mem_append_left _ (List.mem_of_getElem? (i := 0) rfl))) rfl (gk_cons (List.mem_cons_of_mem _ (List.mem_append_left _ (List.mem_of_getElem? (i := 1) rfl))) rfl (gk_cons (List.mem_cons_of_mem _ (List.mem_append_left _ (List.mem_of_getElem? (i := 2) rfl))) rfl (gk_cons (List.mem_cons_of_mem _ (List.mem_append_left _ (List.mem_of_getElem? (i := 3) rfl))) rfl (gk_cons (List.mem_cons_of_mem _ (List.mem_append_left _ (List.mem_of_getElem? (i := 4) rfl))) rfl (gk_cons (List.mem_cons_of_mem _ (List.mem_append_left _ (List.mem_of_getElem? (i := 5) rfl))) rfl (gk_cons (List.mem_cons_of_mem _ (List.mem_append_left _ (List.mem_of_getElem? (i := 6) rfl))) rfl (gk_cons (List.mem_cons_of_mem _ (List.mem_append_left _ (List.mem_of_getElem? (i := 7) rfl))) rfl (gk_cons (List.mem_cons_of_mem _ (List.mem_append_left _ (List.mem_of_getElem? (i := 8) rfl))) rfl gk_nil))))))))) (goodIn_sub gm_X11_copies_0 ag_wsX110))
theorem gX11_copies_X11_puts : GoodIn wsX11_copies (wsV RX11 90 RX11 yX11_puts wsX11_puts) := goodIn_app (gk_cons (List.mem_cons_of_mem _ (List.mem_append_left _ (List.mem_of_getElem? (i := 9) rfl))) rfl (gk_cons (List.mem_cons_of_mem _ (List.mem_append_left _ (List.mem_of_getElem? (i := 10) rfl))) rfl (gk_cons (List.mem_cons_of_mem _ (List.mem_append_left _ (List.mem_of_getElem? (i := 11) rfl))) rfl (gk_cons (List.mem_cons_of_mem _ (List.mem_append_left _ (List.mem_of_getElem? (i := 7) rfl))) rfl gk_nil)))) ggX11_copies_X11_puts
theorem dX11_copies_0 : decode cX11_copies 0 = .ok (.aload_n 0, 1) := by decide +kernel
theorem dX11_copies_1 : decode cX11_copies 1 = .ok (.getfield 35, 3) := by decide +kernel
theorem dX11_copies_4 : decode cX11_copies 4 = .ok (.iload_n 2, 1) := by decide +kernel
theorem dX11_copies_5 : decode cX11_copies 5 = .ok (.iconst 0, 1) := by decide +kernel
theorem dX11_copies_6 : decode cX11_copies 6 = .ok (.iastore, 1) := by decide +kernel
theorem dX11_copies_7 : decode cX11_copies 7 = .ok (.iconst 0, 1) := by decide +kernel
theorem dX11_copies_8 : decode cX11_copies 8 = .ok (.istore_n 3, 1) := by decide +kernel
theorem dX11_copies_9 : decode cX11_copies 9 = .ok (.iload_n 3, 1) := by decide +kernel
theorem dX11_copies_10 : decode cX11_copies 10 = .ok (.aload_n 0, 1) := by decide +kernel
theorem dX11_copies_11 : decode cX11_copies 11 = .ok (.getfield 35, 3) := by decide +kernel
theorem dX11_copies_14 : decode cX11_copies 14 = .ok (.iload_n 1, 1) := by decide +kernel
theorem dX11_copies_15 : decode cX11_copies 15 = .ok (.iaload, 1) := by decide +kernel
theorem dX11_copies_16 : decode cX11_copies 16 = .ok (.if_icmp .ge 54, 3) := by decide +kernel
theorem dX11_copies_19 : decode cX11_copies 19 = .ok (.aload_n 0, 1) := by decide +kernel
theorem dX11_copies_20 : decode cX11_copies 20 = .ok (.iload_n 2, 1) := by decide +kernel
theorem dX11_copies_21 : decode cX11_copies 21 = .ok (.aload_n 0, 1) := by decide +kernel
theorem dX11_copies_22 : decode cX11_copies 22 = .ok (.getfield 38, 3) := by decide +kernel
theorem dX11_copies_25 : decode cX11_copies 25 = .ok (.iload_n 1, 1) := by decide +kernel
theorem dX11_copies_26 : decode cX11_copies 26 = .ok (.iload_n 3, 1) := by decide +kernel
theorem dX11_copies_27 : decode cX11_copies 27 = .ok (.invokestatic 86, 3) := by decide +kernel
theorem dX11_copies_30 : decode cX11_copies 30 = .ok (.iaload, 1) := by decide +kernel
theorem dX11_copies_31 : decode cX11_copies 31 = .ok (.aload_n 0, 1) := by decide +kernel
theorem dX11_copies_32 : decode cX11_copies 32 = .ok (.getfield 41, 3) := by decide +kernel
theorem dX11_copies_35 : decode cX11_copies 35 = .ok (.iload_n 1, 1) := by decide +kernel
theorem dX11_copies_36 : decode cX11_copies 36 = .ok (.iload_n 3, 1) := by decide +kernel
theorem dX11_copies_37 : decode cX11_copies 37 = .ok (.invokestatic 86, 3) := by decide +kernel
theorem dX11_copies_40 : decode cX11_copies 40 = .ok (.iaload, 1) := by decide +kernel
theorem dX11_copies_41 : decode cX11_copies 41 = .ok (.aload_n 0, 1) := by decide +kernel
theorem dX11_copies_42 : decode cX11_copies 42 = .ok (.getfield 44, 3) := by decide +kernel
theorem dX11_copies_45 : decode cX11_copies 45 = .ok (.iload_n 1, 1) := by decide +kernel
theorem dX11_copies_46 : decode cX11_copies 46 = .ok (.iload_n 3, 1) := by decide +kernel
theorem dX11_copies_47 : decode cX11_copies 47 = .ok (.invokestatic 86, 3) := by decide +kernel
theorem dX11_copies_50 : decode cX11_copies 50 = .ok (.iaload, 1) := by decide +kernel
theorem dX11_copies_51 : decode cX11_copies 51 = .ok (.aload_n 0, 1) := by decide +kernel
theorem dX11_copies_52 : decode cX11_copies 52 = .ok (.getfield 47, 3) := by decide +kernel
theorem dX11_copies_55 : decode cX11_copies 55 = .ok (.iload_n 1, 1) := by decide +kernel
theorem dX11_copies_56 : decode cX11_copies 56 = .ok (.iload_n 3, 1) := by decide +kernel
theorem dX11_copies_57 : decode cX11_copies 57 = .ok (.invokestatic 86, 3) := by decide +kernel
theorem dX11_copies_60 : decode cX11_copies 60 = .ok (.iaload, 1) := by decide +kernel
theorem dX11_copies_61 : decode cX11_copies 61 = .ok (.invokevirtual 90, 3) := by decide +kernel
theorem dX11_copies_64 : decode cX11_copies 64 = .ok (.iinc 3 1, 3) := by decide +kernel
theorem dX11_copies_67 : decode cX11_copies 67 = .ok (.goto (-58), 3) := by decide +kernel
theorem dX11_copies_70 : decode cX11_copies 70 = .ok (.return_, 1) := by decide +kernel
theorem gm_X11_breaks_0 : ∀ w ∈ wsX11_breaks_r1, w ∈ wsX11_breaks := fun w h => List.mem_cons_of_mem _ (List.mem_append_left _ (List.mem_append_left _ h))
theorem gm_X11_breaks_1 : ∀ w ∈ wsX11_breaks_r2, w ∈ wsX11_breaks := fun w h => List.mem_cons_of_mem _ (List.mem_append_left _ (List.mem_append_right _ (List.mem_append_left _ h)))
theorem gm_X11_breaks_2 : ∀ w ∈ wsX11_breaks_r3, w ∈ wsX11_breaks := fun w h => List.mem_cons_of_mem _ (List.mem_append_left _ (List.mem_append_right _ (List.mem_append_right _ (List.mem_append_left _ h))))
theorem gm_X11_breaks_3 : ∀ w ∈ wsX11_breaks_r4, w ∈ wsX11_breaks := fun w h => List.mem_cons_of_mem _ (List.mem_append_left _ (List.mem_append_right _ (List.mem_append_right _ (List.mem_append_right _ h))))
theorem gm_X11_breaks_4 : ∀ w ∈ wsX110, w ∈ wsX11_breaks := fun w h => List.mem_cons_of_mem _ (List.mem_append_right _ h)
theorem ggX11_breaks_X11_isPlate : GoodIn wsX11_breaks wsX11_isPlate := gk_cons (gm_X11_breaks_0 _ (List.mem_of_getElem? (i := 10) rfl)) rfl (goodIn_app (gk_cons (gm_X11_breaks_0 _ (List.mem_of_getElem? (i := 11) rfl)) rfl (gk_cons (gm_X11_breaks_0 _ (List.mem_of_getElem? (i := 12) rfl)) rfl (gk_cons (gm_X11_breaks_0 _ (List.mem_of_getElem? (i := 13) rfl)) rfl (gk_cons (gm_X11_breaks_0 _ (List.mem_of_getElem? (i := 9) rfl)) rfl (gk_cons (gm_X11_breaks_0 _ (List.mem_of_getElem? (i := 14) rfl)) rfl gk_nil))))) (goodIn_sub gm_X11_breaks_4 ag_wsX110))
theorem gX11_breaks_X11_isPlate : GoodIn wsX11_breaks (wsV RX11 79 RX11 yX11_isPlate wsX11_isPlate) := goodIn_app (gk_cons (gm_X11_breaks_0 _ (List.mem_of_getElem? (i := 6) rfl)) rfl (gk_cons (gm_X11_breaks_0 _ (List.mem_of_getElem? (i := 7) rfl)) rfl (gk_cons (gm_X11_breaks_0 _ (List.mem_of_getElem? (i := 8) rfl)) rfl (gk_cons (gm_X11_breaks_0 _ (List.mem_of_getElem? (i := 9) rfl)) rfl gk_nil)))) ggX11_breaks_X11_isPlate
theorem ggX11_breaks_X11_isLoad : GoodIn wsX11_breaks wsX11_isLoad := gk_cons (gm_X11_breaks_0 _ (List.mem_of_getElem? (i := 17) rfl)) rfl (gk_cons (gm_X11_breaks_0 _ (List.mem_of_getElem? (i := 12) rfl)) rfl (gk_cons (gm_X11_breaks_0 _ (List.mem_of_getElem? (i := 13) rfl)) rfl (gk_cons (gm_X11_breaks_0 _ (List.mem_of_getElem? (i := 9) rfl)) rfl (gk_cons (gm_X11_breaks_0 _ (List.mem_of_getElem? (i := 14) rfl)) rfl gk_nil))))
theorem gX11_breaks_X11_isLoad : GoodIn wsX11_breaks (va_wsS RX11 147 yX11_isLoad wsX11_isLoad) := goodIn_app (gk_cons (gm_X11_breaks_0 _ (List.mem_of_getElem? (i := 15) rfl)) rfl (gk_cons (gm_X11_breaks_0 _ (List.mem_of_getElem? (i := 16) rfl)) rfl (gk_cons (gm_X11_breaks_0 _ (List.mem_of_getElem? (i := 9) rfl)) rfl gk_nil))) ggX11_breaks_X11_isLoad
theorem ggX11_breaks_X11_copies : GoodIn wsX11_breaks wsX11_copies := gk_cons (gm_X11_breaks_0 _ (List.mem_of_getElem? (i := 21) rfl)) rfl (goodIn_app (gk_cons (gm_X11_breaks_0 _ (List.mem_of_getElem? (i := 22) rfl)) rfl (gk_cons (gm_X11_breaks_0 _ (List.mem_of_getElem? (i := 23) rfl)) rfl (gk_cons (gm_X11_breaks_1 _ (List.mem_of_getElem? (i := 0) rfl)) rfl (gk_cons (gm_X11_breaks_1 _ (List.mem_of_getElem? (i := 1) rfl)) rfl (gk_cons (gm_X11_breaks_0 _ (List.mem_of_getElem? (i := 5) rfl)) rfl (gk_cons (gm_X11_breaks_1 _ (List.mem_of_getElem? (i := 2) rfl)) rfl (gk_cons (gm_X11_breaks_1 _ (List.mem_of_getElem? (i := 3) rfl)) rfl (gk_cons (gm_X11_breaks_0 _ (List.mem_of_getElem? (i := 9) rfl)) rfl (gk_cons (gm_X11_breaks_1 _ (List.mem_of_getElem? (i := 4) rfl)) rfl (gk_cons (gm_X11_breaks_1 _ (List.mem_of_getElem? (i := 5) rfl)) rfl (gk_cons (gm_X11_breaks_1 _ (List.mem_of_getElem? (i := 6) rfl)) rfl (gk_cons (gm_X11_breaks_1 _ (List.mem_of_getElem? (i := 7) rfl)) rfl (gk_cons (gm_X11_breaks_1 _ (List.mem_of_getElem? (i := 8) rfl)) rfl gk_nil))))))))))))) (goodIn_sub gm_X11_breaks_4 ag_wsX110))
theorem gX11_breaks_X11_copies : GoodIn wsX11_breaks (wsV RX11 190 RX11 yX11_copies wsX11_copies) := goodIn_app (gk_cons (gm_X11_breaks_0 _ (List.mem_of_getElem? (i := 18) rfl)) rfl (gk_cons (gm_X11_breaks_0 _ (List.mem_of_getElem? (i := 19) rfl)) rfl (gk_cons (gm_X11_breaks_0 _ (List.mem_of_getElem? (i := 20) rfl)) rfl (gk_cons (gm_X11_breaks_0 _ (List.mem_of_getElem? (i := 9) rfl)) rfl gk_nil)))) ggX11_breaks_X11_copies
theorem gk_X11_breaks_X11_solve_r1 : GoodIn wsX11_breaks wsX11_solve_r1 := (gk_cons (gm_X11_breaks_1 _ (List.mem_of_getElem? (i := 13) rfl)) rfl (gk_cons (gm_X11_breaks_1 _ (List.mem_of_getElem? (i := 14) rfl)) rfl (gk_cons (gm_X11_breaks_1 _ (List.mem_of_getElem? (i := 15) rfl)) rfl (gk_cons (gm_X11_breaks_1 _ (List.mem_of_getElem? (i := 16) rfl)) rfl (gk_cons (gm_X11_breaks_1 _ (List.mem_of_getElem? (i := 17) rfl)) rfl (gk_cons (gm_X11_breaks_1 _ (List.mem_of_getElem? (i := 18) rfl)) rfl (gk_cons (gm_X11_breaks_1 _ (List.mem_of_getElem? (i := 19) rfl)) rfl (gk_cons (gm_X11_breaks_0 _ (List.mem_of_getElem? (i := 9) rfl)) rfl (gk_cons (gm_X11_breaks_1 _ (List.mem_of_getElem? (i := 20) rfl)) rfl (gk_cons (gm_X11_breaks_0 _ (List.mem_of_getElem? (i := 22) rfl)) rfl (gk_cons (gm_X11_breaks_1 _ (List.mem_of_getElem? (i := 1) rfl)) rfl (gk_cons (gm_X11_breaks_1 _ (List.mem_of_getElem? (i := 21) rfl)) rfl (gk_cons (gm_X11_breaks_1 _ (List.mem_of_getElem? (i := 22) rfl)) rfl (gk_cons (gm_X11_breaks_1 _ (List.mem_of_getElem? (i := 23) rfl)) rfl (gk_cons (gm_X11_breaks_2 _ (List.mem_of_getElem? (i := 0) rfl)) rfl (gk_cons (gm_X11_breaks_1 _ (List.mem_of_getElem? (i := 2) rfl)) rfl (gk_cons (gm_X11_breaks_1 _ (List.mem_of_getElem? (i := 3) rfl)) rfl (gk_cons (gm_X11_breaks_1 _ (List.mem_of_getElem? (i := 4) rfl)) rfl (gk_cons (gm_X11_breaks_2 _ (List.mem_of_getElem? (i := 1) rfl)) rfl (gk_cons (gm_X11_breaks_2 _ (List.mem_of_getElem? (i := 2) rfl)) rfl (gk_cons (gm_X11_breaks_2 _ (List.mem_of_getElem? (i := 3) rfl)) rfl (gk_cons (gm_X11_breaks_2 _ (List.mem_of_getElem? (i := 4) rfl)) rfl (gk_cons (gm_X11_breaks_1 _ (List.mem_of_getElem? (i := 0) rfl)) rfl (gk_cons (gm_X11_breaks_2 _ (List.mem_of_getElem? (i := 5) rfl)) rfl gk_nil))))))))))))))))))))))))
theorem gk_X11_breaks_X11_solve_r2 : GoodIn wsX11_breaks wsX11_solve_r2 := (gk_cons (gm_X11_breaks_2 _ (List.mem_of_getElem? (i := 6) rfl)) rfl (gk_cons (gm_X11_breaks_2 _ (List.mem_of_getElem? (i := 7) rfl)) rfl (gk_cons (gm_X11_breaks_2 _ (List.mem_of_getElem? (i := 8) rfl)) rfl (gk_cons (gm_X11_breaks_0 _ (List.mem_of_getElem? (i := 5) rfl)) rfl (gk_cons (gm_X11_breaks_0 _ (List.mem_of_getElem? (i := 23) rfl)) rfl (gk_cons (gm_X11_breaks_2 _ (List.mem_of_getElem? (i := 9) rfl)) rfl (gk_cons (gm_X11_breaks_2 _ (List.mem_of_getElem? (i := 10) rfl)) rfl (gk_cons (gm_X11_breaks_2 _ (List.mem_of_getElem? (i := 11) rfl)) rfl (gk_cons (gm_X11_breaks_2 _ (List.mem_of_getElem? (i := 12) rfl)) rfl gk_nil)))))))))
theorem ggX11_breaks_X11_solve : GoodIn wsX11_breaks wsX11_solve := gk_cons (gm_X11_breaks_1 _ (List.mem_of_getElem? (i := 12) rfl)) rfl (goodIn_app (goodIn_app gk_X11_breaks_X11_solve_r1 gk_X11_breaks_X11_solve_r2) (goodIn_sub gm_X11_breaks_4 ag_wsX110))
theorem gX11_breaks_X11_solve : GoodIn wsX11_breaks (wsV RX11 133 RX11 yX11_solve wsX11_solve) := goodIn_app (gk_cons (gm_X11_breaks_1 _ (List.mem_of_getElem? (i := 9) rfl)) rfl (gk_cons (gm_X11_breaks_1 _ (List.mem_of_getElem? (i := 10) rfl)) rfl (gk_cons (gm_X11_breaks_1 _ (List.mem_of_getElem? (i := 11) rfl)) rfl (gk_cons (gm_X11_breaks_0 _ (List.mem_of_getElem? (i := 9) rfl)) rfl gk_nil)))) ggX11_breaks_X11_solve
theorem gk_X11_breaks_X11_firstOf_r1 : GoodIn wsX11_breaks wsX11_firstOf_r1 := (gk_cons (gm_X11_breaks_0 _ (List.mem_of_getElem? (i := 22) rfl)) rfl (gk_cons (gm_X11_breaks_1 _ (List.mem_of_getElem? (i := 13) rfl)) rfl (gk_cons (gm_X11_breaks_2 _ (List.mem_of_getElem? (i := 17) rfl)) rfl (gk_cons (gm_X11_breaks_2 _ (List.mem_of_getElem? (i := 18) rfl)) rfl (gk_cons (gm_X11_breaks_1 _ (List.mem_of_getElem? (i := 2) rfl)) rfl (gk_cons (gm_X11_breaks_1 _ (List.mem_of_getElem? (i := 3) rfl)) rfl (gk_cons (gm_X11_breaks_0 _ (List.mem_of_getElem? (i := 9) rfl)) rfl (gk_cons (gm_X11_breaks_1 _ (List.mem_of_getElem? (i := 4) rfl)) rfl (gk_cons (gm_X11_breaks_2 _ (List.mem_of_getElem? (i := 19) rfl)) rfl (gk_cons (gm_X11_breaks_2 _ (List.mem_of_getElem? (i := 20) rfl)) rfl (gk_cons (gm_X11_breaks_2 _ (List.mem_of_getElem? (i := 21) rfl)) rfl (gk_cons (gm_X11_breaks_2 _ (List.mem_of_getElem? (i := 22) rfl)) rfl (gk_cons (gm_X11_breaks_2 _ (List.mem_of_getElem? (i := 23) rfl)) rfl (gk_cons (gm_X11_breaks_3 _ (List.mem_of_getElem? (i := 0) rfl)) rfl (gk_cons (gm_X11_breaks_3 _ (List.mem_of_getElem? (i := 1) rfl)) rfl (gk_cons (gm_X11_breaks_3 _ (List.mem_of_getElem? (i := 2) rfl)) rfl (gk_cons (gm_X11_breaks_1 _ (List.mem_of_getElem? (i := 0) rfl)) rfl (gk_cons (gm_X11_breaks_3 _ (List.mem_of_getElem? (i := 3) rfl)) rfl (gk_cons (gm_X11_breaks_1 _ (List.mem_of_getElem? (i := 14) rfl)) rfl (gk_cons (gm_X11_breaks_1 _ (List.mem_of_getElem? (i := 15) rfl)) rfl (gk_cons (gm_X11_breaks_1 _ (List.mem_of_getElem? (i := 16) rfl)) rfl (gk_cons (gm_X11_breaks_3 _ (List.mem_of_getElem? (i := 4) rfl)) rfl (gk_cons (gm_X11_breaks_2 _ (List.mem_of_getElem? (i := 5) rfl)) rfl (gk_cons (gm_X11_breaks_2 _ (List.mem_of_getElem? (i := 6) rfl)) rfl gk_nil))))))))))))))))))))))))
theorem gk_X11_breaks_X11_firstOf_r2 : GoodIn wsX11_breaks wsX11_firstOf_r2 := (gk_cons (gm_X11_breaks_2 _ (List.mem_of_getElem? (i := 7) rfl)) rfl (gk_cons (gm_X11_breaks_2 _ (List.mem_of_getElem? (i := 8) rfl)) rfl (gk_cons (gm_X11_breaks_0 _ (List.mem_of_getElem? (i := 5) rfl)) rfl (gk_cons (gm_X11_breaks_0 _ (List.mem_of_getElem? (i := 23) rfl)) rfl (gk_cons (gm_X11_breaks_2 _ (List.mem_of_getElem? (i := 9) rfl)) rfl (gk_cons (gm_X11_breaks_2 _ (List.mem_of_getElem? (i := 10) rfl)) rfl (gk_cons (gm_X11_breaks_2 _ (List.mem_of_getElem? (i := 11) rfl)) rfl (gk_cons (gm_X11_breaks_2 _ (List.mem_of_getElem? (i := 12) rfl)) rfl (gk_cons (gm_X11_breaks_3 _ (List.mem_of_getElem? (i := 5) rfl)) rfl (gk_cons (gm_X11_breaks_3 _ (List.mem_of_getElem? (i := 6) rfl)) rfl (gk_cons (gm_X11_breaks_3 _ (List.mem_of_getElem? (i := 7) rfl)) rfl (gk_cons (gm_X11_breaks_3 _ (List.mem_of_getElem? (i := 8) rfl)) rfl (gk_cons (gm_X11_breaks_3 _ (List.mem_of_getElem? (i := 9) rfl)) rfl (gk_cons (gm_X11_breaks_3 _ (List.mem_of_getElem? (i := 10) rfl)) rfl (gk_cons (gm_X11_breaks_3 _ (List.mem_of_getElem? (i := 11) rfl)) rfl (gk_cons (gm_X11_breaks_3 _ (List.mem_of_getElem? (i := 12) rfl)) rfl gk_nil))))))))))))))))
theorem ggX11_breaks_X11_firstOf : GoodIn wsX11_breaks wsX11_firstOf := gk_cons (gm_X11_breaks_2 _ (List.mem_of_getElem? (i := 16) rfl)) rfl (goodIn_app (goodIn_app gk_X11_breaks_X11_firstOf_r1 gk_X11_breaks_X11_firstOf_r2) (goodIn_sub gm_X11_breaks_4 ag_wsX110))
theorem gX11_breaks_X11_firstOf : GoodIn wsX11_breaks (wsV RX11 179 RX11 yX11_firstOf wsX11_firstOf) := goodIn_app (gk_cons (gm_X11_breaks_2 _ (List.mem_of_getElem? (i := 13) rfl)) rfl (gk_cons (gm_X11_breaks_2 _ (List.mem_of_getElem? (i := 14) rfl)) rfl (gk_cons (gm_X11_breaks_2 _ (List.mem_of_getElem? (i := 15) rfl)) rfl (gk_cons (gm_X11_breaks_0 _ (List.mem_of_getElem? (i := 9) rfl)) rfl gk_nil)))) ggX11_breaks_X11_firstOf
theorem ggX11_breaks_X11_factorOf : GoodIn wsX11_breaks wsX11_factorOf := gk_cons (gm_X11_breaks_3 _ (List.mem_of_getElem? (i := 16) rfl)) rfl (goodIn_app (gk_cons (gm_X11_breaks_2 _ (List.mem_of_getElem? (i := 17) rfl)) rfl (gk_cons (gm_X11_breaks_3 _ (List.mem_of_getElem? (i := 3) rfl)) rfl (gk_cons (gm_X11_breaks_1 _ (List.mem_of_getElem? (i := 13) rfl)) rfl (gk_cons (gm_X11_breaks_2 _ (List.mem_of_getElem? (i := 18) rfl)) rfl (gk_cons (gm_X11_breaks_3 _ (List.mem_of_getElem? (i := 17) rfl)) rfl (gk_cons (gm_X11_breaks_3 _ (List.mem_of_getElem? (i := 18) rfl)) rfl (gk_cons (gm_X11_breaks_0 _ (List.mem_of_getElem? (i := 9) rfl)) rfl (gk_cons (gm_X11_breaks_3 _ (List.mem_of_getElem? (i := 19) rfl)) rfl gk_nil)))))))) (goodIn_sub gm_X11_breaks_4 ag_wsX110))
theorem gX11_breaks_X11_factorOf : GoodIn wsX11_breaks (wsV RX11 186 RX11 yX11_factorOf wsX11_factorOf) := goodIn_app (gk_cons (gm_X11_breaks_3 _ (List.mem_of_getElem? (i := 13) rfl)) rfl (gk_cons (gm_X11_breaks_3 _ (List.mem_of_getElem? (i := 14) rfl)) rfl (gk_cons (gm_X11_breaks_3 _ (List.mem_of_getElem? (i := 15) rfl)) rfl (gk_cons (gm_X11_breaks_0 _ (List.mem_of_getElem? (i := 9) rfl)) rfl gk_nil)))) ggX11_breaks_X11_factorOf
theorem ggX11_breaks_X11_spot : GoodIn wsX11_breaks wsX11_spot := gk_cons (gm_X11_breaks_1 _ (List.mem_of_getElem? (i := 4) rfl)) rfl gk_nil
theorem gX11_breaks_X11_spot : GoodIn wsX11_breaks (va_wsS RX11 86 yX11_spot wsX11_spot) := goodIn_app (gk_cons (gm_X11_breaks_1 _ (List.mem_of_getElem? (i := 2) rfl)) rfl (gk_cons (gm_X11_breaks_1 _ (List.mem_of_getElem? (i := 3) rfl)) rfl (gk_cons (gm_X11_breaks_0 _ (List.mem_of_getElem? (i := 9) rfl)) rfl gk_nil))) ggX11_breaks_X11_spot
theorem dX11_breaks_0 : decode cX11_breaks 0 = .ok (.aload_n 0, 1) := by decide +kernel
theorem dX11_breaks_1 : decode cX11_breaks 1 = .ok (.iload_n 1, 1) := by decide +kernel
theorem dX11_breaks_2 : decode cX11_breaks 2 = .ok (.invokevirtual 79, 3) := by decide +kernel
theorem dX11_breaks_5 : decode cX11_breaks 5 = .ok (.ifCond .ne 5, 3) := by decide +kernel
theorem dX11_breaks_8 : decode cX11_breaks 8 = .ok (.iconst (-1), 1) := by decide +kernel
theorem dX11_breaks_9 : decode cX11_breaks 9 = .ok (.ireturn, 1) := by decide +kernel
theorem dX11_breaks_10 : decode cX11_breaks 10 = .ok (.iload_n 2, 1) := by decide +kernel
theorem dX11_breaks_11 : decode cX11_breaks 11 = .ok (.iload_n 3, 1) := by decide +kernel
theorem dX11_breaks_12 : decode cX11_breaks 12 = .ok (.iload 4, 2) := by decide +kernel
theorem dX11_breaks_14 : decode cX11_breaks 14 = .ok (.invokestatic 147, 3) := by decide +kernel
theorem dX11_breaks_17 : decode cX11_breaks 17 = .ok (.ifCond .ne 6, 3) := by decide +kernel
theorem dX11_breaks_20 : decode cX11_breaks 20 = .ok (.bipush (-2), 2) := by decide +kernel
theorem dX11_breaks_22 : decode cX11_breaks 22 = .ok (.ireturn, 1) := by decide +kernel
theorem dX11_breaks_23 : decode cX11_breaks 23 = .ok (.aload_n 0, 1) := by decide +kernel
theorem dX11_breaks_24 : decode cX11_breaks 24 = .ok (.iload_n 1, 1) := by decide +kernel
theorem dX11_breaks_25 : decode cX11_breaks 25 = .ok (.iconst 4, 1) := by decide +kernel
theorem dX11_breaks_26 : decode cX11_breaks 26 = .ok (.invokevirtual 190, 3) := by decide +kernel
theorem dX11_breaks_29 : decode cX11_breaks 29 = .ok (.aload_n 0, 1) := by decide +kernel
theorem dX11_breaks_30 : decode cX11_breaks 30 = .ok (.iconst 0, 1) := by decide +kernel
theorem dX11_breaks_31 : decode cX11_breaks 31 = .ok (.putfield 194, 3) := by decide +kernel
theorem dX11_breaks_34 : decode cX11_breaks 34 = .ok (.iconst 1, 1) := by decide +kernel
theorem dX11_breaks_35 : decode cX11_breaks 35 = .ok (.istore 5, 2) := by decide +kernel
theorem dX11_breaks_37 : decode cX11_breaks 37 = .ok (.iload 5, 2) := by decide +kernel
theorem dX11_breaks_39 : decode cX11_breaks 39 = .ok (.ifCond .eq 135, 3) := by decide +kernel
theorem dX11_breaks_42 : decode cX11_breaks 42 = .ok (.aload_n 0, 1) := by decide +kernel
theorem dX11_breaks_43 : decode cX11_breaks 43 = .ok (.iconst 4, 1) := by decide +kernel
theorem dX11_breaks_44 : decode cX11_breaks 44 = .ok (.ldc2_w 150, 3) := by decide +kernel
theorem dX11_breaks_47 : decode cX11_breaks 47 = .ok (.iload_n 2, 1) := by decide +kernel
theorem dX11_breaks_48 : decode cX11_breaks 48 = .ok (.i2l, 1) := by decide +kernel
theorem dX11_breaks_49 : decode cX11_breaks 49 = .ok (.lmul, 1) := by decide +kernel
theorem dX11_breaks_50 : decode cX11_breaks 50 = .ok (.ldc2_w 150, 3) := by decide +kernel
theorem dX11_breaks_53 : decode cX11_breaks 53 = .ok (.iload_n 3, 1) := by decide +kernel
theorem dX11_breaks_54 : decode cX11_breaks 54 = .ok (.i2l, 1) := by decide +kernel
theorem dX11_breaks_55 : decode cX11_breaks 55 = .ok (.lmul, 1) := by decide +kernel
theorem dX11_breaks_56 : decode cX11_breaks 56 = .ok (.ldc2_w 150, 3) := by decide +kernel
theorem dX11_breaks_59 : decode cX11_breaks 59 = .ok (.iload 4, 2) := by decide +kernel
theorem dX11_breaks_61 : decode cX11_breaks 61 = .ok (.i2l, 1) := by decide +kernel
theorem dX11_breaks_62 : decode cX11_breaks 62 = .ok (.lmul, 1) := by decide +kernel
theorem dX11_breaks_63 : decode cX11_breaks 63 = .ok (.invokevirtual 133, 3) := by decide +kernel
theorem dX11_breaks_66 : decode cX11_breaks 66 = .ok (.aload_n 0, 1) := by decide +kernel
theorem dX11_breaks_67 : decode cX11_breaks 67 = .ok (.iconst 4, 1) := by decide +kernel
theorem dX11_breaks_68 : decode cX11_breaks 68 = .ok (.invokevirtual 179, 3) := by decide +kernel
theorem dX11_breaks_71 : decode cX11_breaks 71 = .ok (.istore 6, 2) := by decide +kernel
theorem dX11_breaks_73 : decode cX11_breaks 73 = .ok (.iload 6, 2) := by decide +kernel
theorem dX11_breaks_75 : decode cX11_breaks 75 = .ok (.iconst (-1), 1) := by decide +kernel
theorem dX11_breaks_76 : decode cX11_breaks 76 = .ok (.if_icmp .eq 7, 3) := by decide +kernel
theorem dX11_breaks_79 : decode cX11_breaks 79 = .ok (.iconst 1, 1) := by decide +kernel
theorem dX11_breaks_80 : decode cX11_breaks 80 = .ok (.goto 4, 3) := by decide +kernel
theorem dX11_breaks_83 : decode cX11_breaks 83 = .ok (.iconst 0, 1) := by decide +kernel
theorem dX11_breaks_84 : decode cX11_breaks 84 = .ok (.istore 5, 2) := by decide +kernel
theorem dX11_breaks_86 : decode cX11_breaks 86 = .ok (.iload 5, 2) := by decide +kernel
theorem dX11_breaks_88 : decode cX11_breaks 88 = .ok (.ifCond .ne 6, 3) := by decide +kernel
theorem dX11_breaks_91 : decode cX11_breaks 91 = .ok (.goto (-54), 3) := by decide +kernel
theorem dX11_breaks_94 : decode cX11_breaks 94 = .ok (.aload_n 0, 1) := by decide +kernel
theorem dX11_breaks_95 : decode cX11_breaks 95 = .ok (.getfield 59, 3) := by decide +kernel
theorem dX11_breaks_98 : decode cX11_breaks 98 = .ok (.aload_n 0, 1) := by decide +kernel
theorem dX11_breaks_99 : decode cX11_breaks 99 = .ok (.getfield 194, 3) := by decide +kernel
theorem dX11_breaks_102 : decode cX11_breaks 102 = .ok (.iload 6, 2) := by decide +kernel
theorem dX11_breaks_104 : decode cX11_breaks 104 = .ok (.iastore, 1) := by decide +kernel
theorem dX11_breaks_105 : decode cX11_breaks 105 = .ok (.aload_n 0, 1) := by decide +kernel
theorem dX11_breaks_106 : decode cX11_breaks 106 = .ok (.getfield 62, 3) := by decide +kernel
theorem dX11_breaks_109 : decode cX11_breaks 109 = .ok (.aload_n 0, 1) := by decide +kernel
theorem dX11_breaks_110 : decode cX11_breaks 110 = .ok (.getfield 194, 3) := by decide +kernel
theorem dX11_breaks_113 : decode cX11_breaks 113 = .ok (.aload_n 0, 1) := by decide +kernel
theorem dX11_breaks_114 : decode cX11_breaks 114 = .ok (.iconst 0, 1) := by decide +kernel
theorem dX11_breaks_115 : decode cX11_breaks 115 = .ok (.invokevirtual 186, 3) := by decide +kernel
theorem dX11_breaks_118 : decode cX11_breaks 118 = .ok (.lastore, 1) := by decide +kernel
theorem dX11_breaks_119 : decode cX11_breaks 119 = .ok (.aload_n 0, 1) := by decide +kernel
theorem dX11_breaks_120 : decode cX11_breaks 120 = .ok (.getfield 66, 3) := by decide +kernel
theorem dX11_breaks_123 : decode cX11_breaks 123 = .ok (.aload_n 0, 1) := by decide +kernel
theorem dX11_breaks_124 : decode cX11_breaks 124 = .ok (.getfield 194, 3) := by decide +kernel
theorem dX11_breaks_127 : decode cX11_breaks 127 = .ok (.aload_n 0, 1) := by decide +kernel
theorem dX11_breaks_128 : decode cX11_breaks 128 = .ok (.iconst 1, 1) := by decide +kernel
theorem dX11_breaks_129 : decode cX11_breaks 129 = .ok (.invokevirtual 186, 3) := by decide +kernel
theorem dX11_breaks_132 : decode cX11_breaks 132 = .ok (.lastore, 1) := by decide +kernel
theorem dX11_breaks_133 : decode cX11_breaks 133 = .ok (.aload_n 0, 1) := by decide +kernel
theorem dX11_breaks_134 : decode cX11_breaks 134 = .ok (.dup, 1) := by decide +kernel
theorem dX11_breaks_135 : decode cX11_breaks 135 = .ok (.getfield 194, 3) := by decide +kernel
theorem dX11_breaks_138 : decode cX11_breaks 138 = .ok (.iconst 1, 1) := by decide +kernel
theorem dX11_breaks_139 : decode cX11_breaks 139 = .ok (.iadd, 1) := by decide +kernel
theorem dX11_breaks_140 : decode cX11_breaks 140 = .ok (.putfield 194, 3) := by decide +kernel
theorem dX11_breaks_143 : decode cX11_breaks 143 = .ok (.aload_n 0, 1) := by decide +kernel
theorem dX11_breaks_144 : decode cX11_breaks 144 = .ok (.getfield 47, 3) := by decide +kernel
theorem dX11_breaks_147 : decode cX11_breaks 147 = .ok (.iconst 4, 1) := by decide +kernel
theorem dX11_breaks_148 : decode cX11_breaks 148 = .ok (.iload 6, 2) := by decide +kernel
theorem dX11_breaks_150 : decode cX11_breaks 150 = .ok (.bipush 10, 2) := by decide +kernel
theorem dX11_breaks_152 : decode cX11_breaks 152 = .ok (.idiv, 1) := by decide +kernel
theorem dX11_breaks_153 : decode cX11_breaks 153 = .ok (.invokestatic 86, 3) := by decide +kernel
theorem dX11_breaks_156 : decode cX11_breaks 156 = .ok (.iload 6, 2) := by decide +kernel
theorem dX11_breaks_158 : decode cX11_breaks 158 = .ok (.bipush 10, 2) := by decide +kernel
theorem dX11_breaks_160 : decode cX11_breaks 160 = .ok (.irem, 1) := by decide +kernel
theorem dX11_breaks_161 : decode cX11_breaks 161 = .ok (.iconst 2, 1) := by decide +kernel
theorem dX11_breaks_162 : decode cX11_breaks 162 = .ok (.if_icmp .ge 7, 3) := by decide +kernel
theorem dX11_breaks_165 : decode cX11_breaks 165 = .ok (.iconst 2, 1) := by decide +kernel
theorem dX11_breaks_166 : decode cX11_breaks 166 = .ok (.goto 4, 3) := by decide +kernel
theorem dX11_breaks_169 : decode cX11_breaks 169 = .ok (.iconst 1, 1) := by decide +kernel
theorem dX11_breaks_170 : decode cX11_breaks 170 = .ok (.iastore, 1) := by decide +kernel
theorem dX11_breaks_171 : decode cX11_breaks 171 = .ok (.goto (-134), 3) := by decide +kernel
theorem dX11_breaks_174 : decode cX11_breaks 174 = .ok (.aload_n 0, 1) := by decide +kernel
theorem dX11_breaks_175 : decode cX11_breaks 175 = .ok (.getfield 194, 3) := by decide +kernel
theorem dX11_breaks_178 : decode cX11_breaks 178 = .ok (.ireturn, 1) := by decide +kernel
theorem gm_X11_step_0 : ∀ w ∈ wsX110, w ∈ wsX11_step := fun w h => List.mem_cons_of_mem _ (List.mem_append_right _ h)
theorem ggX11_step_X11_isIn : GoodIn wsX11_step wsX11_isIn := gk_cons (List.mem_cons_of_mem _ (List.mem_append_left _ (List.mem_of_getElem? (i := 8) rfl))) rfl gk_nil
theorem gX11_step_X11_isIn : GoodIn wsX11_step (va_wsS RX11 69 yX11_isIn wsX11_isIn) := goodIn_app (gk_cons (List.mem_cons_of_mem _ (List.mem_append_left _ (List.mem_of_getElem? (i := 5) rfl))) rfl (gk_cons (List.mem_cons_of_mem _ (List.mem_append_left _ (List.mem_of_getElem? (i := 6) rfl))) rfl (gk_cons (List.mem_cons_of_mem _ (List.mem_append_left _ (List.mem_of_getElem? (i := 7) rfl))) rfl gk_nil))) ggX11_step_X11_isIn
theorem dX11_step_0 : decode cX11_step 0 = .ok (.iload_n 1, 1) := by decide +kernel
theorem dX11_step_1 : decode cX11_step 1 = .ok (.iconst 0, 1) := by decide +kernel
theorem dX11_step_2 : decode cX11_step 2 = .ok (.aload_n 0, 1) := by decide +kernel
theorem dX11_step_3 : decode cX11_step 3 = .ok (.getfield 194, 3) := by decide +kernel
theorem dX11_step_6 : decode cX11_step 6 = .ok (.iconst 1, 1) := by decide +kernel
theorem dX11_step_7 : decode cX11_step 7 = .ok (.isub, 1) := by decide +kernel
theorem dX11_step_8 : decode cX11_step 8 = .ok (.invokestatic 69, 3) := by decide +kernel
theorem dX11_step_11 : decode cX11_step 11 = .ok (.ifCond .eq 12, 3) := by decide +kernel
theorem dX11_step_14 : decode cX11_step 14 = .ok (.iload_n 2, 1) := by decide +kernel
theorem dX11_step_15 : decode cX11_step 15 = .ok (.iconst 0, 1) := by decide +kernel
theorem dX11_step_16 : decode cX11_step 16 = .ok (.iconst 2, 1) := by decide +kernel
theorem dX11_step_17 : decode cX11_step 17 = .ok (.invokestatic 69, 3) := by decide +kernel
theorem dX11_step_20 : decode cX11_step 20 = .ok (.ifCond .ne 7, 3) := by decide +kernel
theorem dX11_step_23 : decode cX11_step 23 = .ok (.ldc2_w 112, 3) := by decide +kernel
theorem dX11_step_26 : decode cX11_step 26 = .ok (.lreturn, 1) := by decide +kernel
theorem dX11_step_27 : decode cX11_step 27 = .ok (.iload_n 2, 1) := by decide +kernel
theorem dX11_step_28 : decode cX11_step 28 = .ok (.ifCond .ne 13, 3) := by decide +kernel
theorem dX11_step_31 : decode cX11_step 31 = .ok (.aload_n 0, 1) := by decide +kernel
theorem dX11_step_32 : decode cX11_step 32 = .ok (.getfield 59, 3) := by decide +kernel
theorem dX11_step_35 : decode cX11_step 35 = .ok (.iload_n 1, 1) := by decide +kernel
theorem dX11_step_36 : decode cX11_step 36 = .ok (.iaload, 1) := by decide +kernel
theorem dX11_step_37 : decode cX11_step 37 = .ok (.i2l, 1) := by decide +kernel
theorem dX11_step_38 : decode cX11_step 38 = .ok (.goto 23, 3) := by decide +kernel
theorem dX11_step_41 : decode cX11_step 41 = .ok (.iload_n 2, 1) := by decide +kernel
theorem dX11_step_42 : decode cX11_step 42 = .ok (.iconst 1, 1) := by decide +kernel
theorem dX11_step_43 : decode cX11_step 43 = .ok (.if_icmp .ne 12, 3) := by decide +kernel
theorem dX11_step_46 : decode cX11_step 46 = .ok (.aload_n 0, 1) := by decide +kernel
theorem dX11_step_47 : decode cX11_step 47 = .ok (.getfield 62, 3) := by decide +kernel
theorem dX11_step_50 : decode cX11_step 50 = .ok (.iload_n 1, 1) := by decide +kernel
theorem dX11_step_51 : decode cX11_step 51 = .ok (.laload, 1) := by decide +kernel
theorem dX11_step_52 : decode cX11_step 52 = .ok (.goto 9, 3) := by decide +kernel
theorem dX11_step_55 : decode cX11_step 55 = .ok (.aload_n 0, 1) := by decide +kernel
theorem dX11_step_56 : decode cX11_step 56 = .ok (.getfield 66, 3) := by decide +kernel
theorem dX11_step_59 : decode cX11_step 59 = .ok (.iload_n 1, 1) := by decide +kernel
theorem dX11_step_60 : decode cX11_step 60 = .ok (.laload, 1) := by decide +kernel
theorem dX11_step_61 : decode cX11_step 61 = .ok (.lreturn, 1) := by decide +kernel
theorem gm_X11_last_0 : ∀ w ∈ wsX110, w ∈ wsX11_last := fun w h => List.mem_cons_of_mem _ (List.mem_append_right _ h)
theorem ggX11_last_X11_isAbove : GoodIn wsX11_last wsX11_isAbove := gk_cons (List.mem_cons_of_mem _ (List.mem_append_left _ (List.mem_of_getElem? (i := 6) rfl))) rfl gk_nil
theorem gX11_last_X11_isAbove : GoodIn wsX11_last (va_wsS RX11 175 yX11_isAbove wsX11_isAbove) := goodIn_app (gk_cons (List.mem_cons_of_mem _ (List.mem_append_left _ (List.mem_of_getElem? (i := 3) rfl))) rfl (gk_cons (List.mem_cons_of_mem _ (List.mem_append_left _ (List.mem_of_getElem? (i := 4) rfl))) rfl (gk_cons (List.mem_cons_of_mem _ (List.mem_append_left _ (List.mem_of_getElem? (i := 5) rfl))) rfl gk_nil))) ggX11_last_X11_isAbove
theorem dX11_last_0 : decode cX11_last 0 = .ok (.iconst (-1), 1) := by decide +kernel
theorem dX11_last_1 : decode cX11_last 1 = .ok (.istore_n 1, 1) := by decide +kernel
theorem dX11_last_2 : decode cX11_last 2 = .ok (.iconst 0, 1) := by decide +kernel
theorem dX11_last_3 : decode cX11_last 3 = .ok (.istore_n 2, 1) := by decide +kernel
theorem dX11_last_4 : decode cX11_last 4 = .ok (.iload_n 2, 1) := by decide +kernel
theorem dX11_last_5 : decode cX11_last 5 = .ok (.aload_n 0, 1) := by decide +kernel
theorem dX11_last_6 : decode cX11_last 6 = .ok (.getfield 194, 3) := by decide +kernel
theorem dX11_last_9 : decode cX11_last 9 = .ok (.if_icmp .ge 46, 3) := by decide +kernel
theorem dX11_last_12 : decode cX11_last 12 = .ok (.iload_n 1, 1) := by decide +kernel
theorem dX11_last_13 : decode cX11_last 13 = .ok (.iconst (-1), 1) := by decide +kernel
theorem dX11_last_14 : decode cX11_last 14 = .ok (.if_icmp .eq 33, 3) := by decide +kernel
theorem dX11_last_17 : decode cX11_last 17 = .ok (.aload_n 0, 1) := by decide +kernel
theorem dX11_last_18 : decode cX11_last 18 = .ok (.getfield 62, 3) := by decide +kernel
theorem dX11_last_21 : decode cX11_last 21 = .ok (.iload_n 2, 1) := by decide +kernel
theorem dX11_last_22 : decode cX11_last 22 = .ok (.laload, 1) := by decide +kernel
theorem dX11_last_23 : decode cX11_last 23 = .ok (.aload_n 0, 1) := by decide +kernel
theorem dX11_last_24 : decode cX11_last 24 = .ok (.getfield 66, 3) := by decide +kernel
theorem dX11_last_27 : decode cX11_last 27 = .ok (.iload_n 2, 1) := by decide +kernel
theorem dX11_last_28 : decode cX11_last 28 = .ok (.laload, 1) := by decide +kernel
theorem dX11_last_29 : decode cX11_last 29 = .ok (.aload_n 0, 1) := by decide +kernel
theorem dX11_last_30 : decode cX11_last 30 = .ok (.getfield 62, 3) := by decide +kernel
theorem dX11_last_33 : decode cX11_last 33 = .ok (.iload_n 1, 1) := by decide +kernel
theorem dX11_last_34 : decode cX11_last 34 = .ok (.laload, 1) := by decide +kernel
theorem dX11_last_35 : decode cX11_last 35 = .ok (.aload_n 0, 1) := by decide +kernel
theorem dX11_last_36 : decode cX11_last 36 = .ok (.getfield 66, 3) := by decide +kernel
theorem dX11_last_39 : decode cX11_last 39 = .ok (.iload_n 1, 1) := by decide +kernel
theorem dX11_last_40 : decode cX11_last 40 = .ok (.laload, 1) := by decide +kernel
theorem dX11_last_41 : decode cX11_last 41 = .ok (.invokestatic 175, 3) := by decide +kernel
theorem dX11_last_44 : decode cX11_last 44 = .ok (.ifCond .eq 5, 3) := by decide +kernel
theorem dX11_last_47 : decode cX11_last 47 = .ok (.iload_n 2, 1) := by decide +kernel
theorem dX11_last_48 : decode cX11_last 48 = .ok (.istore_n 1, 1) := by decide +kernel
theorem dX11_last_49 : decode cX11_last 49 = .ok (.iinc 2 1, 3) := by decide +kernel
theorem dX11_last_52 : decode cX11_last 52 = .ok (.goto (-48), 3) := by decide +kernel
theorem dX11_last_55 : decode cX11_last 55 = .ok (.iload_n 1, 1) := by decide +kernel
theorem dX11_last_56 : decode cX11_last 56 = .ok (.ireturn, 1) := by decide +kernel
theorem gm_X11_rules_0 : ∀ w ∈ wsX110, w ∈ wsX11_rules := fun w h => List.mem_cons_of_mem _ (List.mem_append_right _ h)
theorem ggX11_rules_X11_isIn : GoodIn wsX11_rules wsX11_isIn := gk_cons (List.mem_cons_of_mem _ (List.mem_append_left _ (List.mem_of_getElem? (i := 6) rfl))) rfl gk_nil
theorem gX11_rules_X11_isIn : GoodIn wsX11_rules (va_wsS RX11 69 yX11_isIn wsX11_isIn) := goodIn_app (gk_cons (List.mem_cons_of_mem _ (List.mem_append_left _ (List.mem_of_getElem? (i := 3) rfl))) rfl (gk_cons (List.mem_cons_of_mem _ (List.mem_append_left _ (List.mem_of_getElem? (i := 4) rfl))) rfl (gk_cons (List.mem_cons_of_mem _ (List.mem_append_left _ (List.mem_of_getElem? (i := 5) rfl))) rfl gk_nil))) ggX11_rules_X11_isIn
theorem dX11_rules_0 : decode cX11_rules 0 = .ok (.iload_n 1, 1) := by decide +kernel
theorem dX11_rules_1 : decode cX11_rules 1 = .ok (.iconst 1, 1) := by decide +kernel
theorem dX11_rules_2 : decode cX11_rules 2 = .ok (.bipush 12, 2) := by decide +kernel
theorem dX11_rules_4 : decode cX11_rules 4 = .ok (.invokestatic 69, 3) := by decide +kernel
theorem dX11_rules_7 : decode cX11_rules 7 = .ok (.ifCond .eq 21, 3) := by decide +kernel
theorem dX11_rules_10 : decode cX11_rules 10 = .ok (.iload_n 2, 1) := by decide +kernel
theorem dX11_rules_11 : decode cX11_rules 11 = .ok (.iconst 0, 1) := by decide +kernel
theorem dX11_rules_12 : decode cX11_rules 12 = .ok (.iconst 1, 1) := by decide +kernel
theorem dX11_rules_13 : decode cX11_rules 13 = .ok (.invokestatic 69, 3) := by decide +kernel
theorem dX11_rules_16 : decode cX11_rules 16 = .ok (.ifCond .eq 12, 3) := by decide +kernel
theorem dX11_rules_19 : decode cX11_rules 19 = .ok (.iload_n 3, 1) := by decide +kernel
theorem dX11_rules_20 : decode cX11_rules 20 = .ok (.iconst 0, 1) := by decide +kernel
theorem dX11_rules_21 : decode cX11_rules 21 = .ok (.iconst 3, 1) := by decide +kernel
theorem dX11_rules_22 : decode cX11_rules 22 = .ok (.invokestatic 69, 3) := by decide +kernel
theorem dX11_rules_25 : decode cX11_rules 25 = .ok (.ifCond .ne 6, 3) := by decide +kernel
theorem dX11_rules_28 : decode cX11_rules 28 = .ok (.bipush (-2), 2) := by decide +kernel
theorem dX11_rules_30 : decode cX11_rules 30 = .ok (.ireturn, 1) := by decide +kernel
theorem dX11_rules_31 : decode cX11_rules 31 = .ok (.aload_n 0, 1) := by decide +kernel
theorem dX11_rules_32 : decode cX11_rules 32 = .ok (.iload_n 1, 1) := by decide +kernel
theorem dX11_rules_33 : decode cX11_rules 33 = .ok (.putfield 9, 3) := by decide +kernel
theorem dX11_rules_36 : decode cX11_rules 36 = .ok (.aload_n 0, 1) := by decide +kernel
theorem dX11_rules_37 : decode cX11_rules 37 = .ok (.iload_n 2, 1) := by decide +kernel
theorem dX11_rules_38 : decode cX11_rules 38 = .ok (.putfield 197, 3) := by decide +kernel
theorem dX11_rules_41 : decode cX11_rules 41 = .ok (.aload_n 0, 1) := by decide +kernel
theorem dX11_rules_42 : decode cX11_rules 42 = .ok (.iload_n 3, 1) := by decide +kernel
theorem dX11_rules_43 : decode cX11_rules 43 = .ok (.putfield 200, 3) := by decide +kernel
theorem dX11_rules_46 : decode cX11_rules 46 = .ok (.iconst 0, 1) := by decide +kernel
theorem dX11_rules_47 : decode cX11_rules 47 = .ok (.ireturn, 1) := by decide +kernel
theorem gm_X11_ruleOf_0 : ∀ w ∈ wsX110, w ∈ wsX11_ruleOf := fun w h => List.mem_cons_of_mem _ (List.mem_append_right _ h)
theorem ggX11_ruleOf_X11_spot : GoodIn wsX11_ruleOf wsX11_spot := gk_cons (List.mem_cons_of_mem _ (List.mem_append_left _ (List.mem_of_getElem? (i := 8) rfl))) rfl gk_nil
theorem gX11_ruleOf_X11_spot : GoodIn wsX11_ruleOf (va_wsS RX11 86 yX11_spot wsX11_spot) := goodIn_app (gk_cons (List.mem_cons_of_mem _ (List.mem_append_left _ (List.mem_of_getElem? (i := 5) rfl))) rfl (gk_cons (List.mem_cons_of_mem _ (List.mem_append_left _ (List.mem_of_getElem? (i := 6) rfl))) rfl (gk_cons (List.mem_cons_of_mem _ (List.mem_append_left _ (List.mem_of_getElem? (i := 7) rfl))) rfl gk_nil))) ggX11_ruleOf_X11_spot
theorem dX11_ruleOf_0 : decode cX11_ruleOf 0 = .ok (.iconst 0, 1) := by decide +kernel
theorem dX11_ruleOf_1 : decode cX11_ruleOf 1 = .ok (.istore_n 2, 1) := by decide +kernel
theorem dX11_ruleOf_2 : decode cX11_ruleOf 2 = .ok (.iconst 1, 1) := by decide +kernel
theorem dX11_ruleOf_3 : decode cX11_ruleOf 3 = .ok (.istore_n 3, 1) := by decide +kernel
theorem dX11_ruleOf_4 : decode cX11_ruleOf 4 = .ok (.iconst 1, 1) := by decide +kernel
theorem dX11_ruleOf_5 : decode cX11_ruleOf 5 = .ok (.istore 4, 2) := by decide +kernel
theorem dX11_ruleOf_7 : decode cX11_ruleOf 7 = .ok (.iconst 0, 1) := by decide +kernel
theorem dX11_ruleOf_8 : decode cX11_ruleOf 8 = .ok (.istore 5, 2) := by decide +kernel
theorem dX11_ruleOf_10 : decode cX11_ruleOf 10 = .ok (.iload 5, 2) := by decide +kernel
theorem dX11_ruleOf_12 : decode cX11_ruleOf 12 = .ok (.aload_n 0, 1) := by decide +kernel
theorem dX11_ruleOf_13 : decode cX11_ruleOf 13 = .ok (.getfield 35, 3) := by decide +kernel
theorem dX11_ruleOf_16 : decode cX11_ruleOf 16 = .ok (.iload_n 1, 1) := by decide +kernel
theorem dX11_ruleOf_17 : decode cX11_ruleOf 17 = .ok (.iaload, 1) := by decide +kernel
theorem dX11_ruleOf_18 : decode cX11_ruleOf 18 = .ok (.if_icmp .ge 105, 3) := by decide +kernel
theorem dX11_ruleOf_21 : decode cX11_ruleOf 21 = .ok (.aload_n 0, 1) := by decide +kernel
theorem dX11_ruleOf_22 : decode cX11_ruleOf 22 = .ok (.getfield 41, 3) := by decide +kernel
theorem dX11_ruleOf_25 : decode cX11_ruleOf 25 = .ok (.iload_n 1, 1) := by decide +kernel
theorem dX11_ruleOf_26 : decode cX11_ruleOf 26 = .ok (.iload 5, 2) := by decide +kernel
theorem dX11_ruleOf_28 : decode cX11_ruleOf 28 = .ok (.invokestatic 86, 3) := by decide +kernel
theorem dX11_ruleOf_31 : decode cX11_ruleOf 31 = .ok (.iaload, 1) := by decide +kernel
theorem dX11_ruleOf_32 : decode cX11_ruleOf 32 = .ok (.istore 6, 2) := by decide +kernel
theorem dX11_ruleOf_34 : decode cX11_ruleOf 34 = .ok (.iload 5, 2) := by decide +kernel
theorem dX11_ruleOf_36 : decode cX11_ruleOf 36 = .ok (.ifCond .le 19, 3) := by decide +kernel
theorem dX11_ruleOf_39 : decode cX11_ruleOf 39 = .ok (.aload_n 0, 1) := by decide +kernel
theorem dX11_ruleOf_40 : decode cX11_ruleOf 40 = .ok (.getfield 41, 3) := by decide +kernel
theorem dX11_ruleOf_43 : decode cX11_ruleOf 43 = .ok (.iload_n 1, 1) := by decide +kernel
theorem dX11_ruleOf_44 : decode cX11_ruleOf 44 = .ok (.iload 5, 2) := by decide +kernel
theorem dX11_ruleOf_46 : decode cX11_ruleOf 46 = .ok (.iconst 1, 1) := by decide +kernel
theorem dX11_ruleOf_47 : decode cX11_ruleOf 47 = .ok (.isub, 1) := by decide +kernel
theorem dX11_ruleOf_48 : decode cX11_ruleOf 48 = .ok (.invokestatic 86, 3) := by decide +kernel
theorem dX11_ruleOf_51 : decode cX11_ruleOf 51 = .ok (.iaload, 1) := by decide +kernel
theorem dX11_ruleOf_52 : decode cX11_ruleOf 52 = .ok (.goto 4, 3) := by decide +kernel
theorem dX11_ruleOf_55 : decode cX11_ruleOf 55 = .ok (.iconst (-1), 1) := by decide +kernel
theorem dX11_ruleOf_56 : decode cX11_ruleOf 56 = .ok (.istore 7, 2) := by decide +kernel
theorem dX11_ruleOf_58 : decode cX11_ruleOf 58 = .ok (.iload 6, 2) := by decide +kernel
theorem dX11_ruleOf_60 : decode cX11_ruleOf 60 = .ok (.iload 7, 2) := by decide +kernel
theorem dX11_ruleOf_62 : decode cX11_ruleOf 62 = .ok (.if_icmp .ne 9, 3) := by decide +kernel
theorem dX11_ruleOf_65 : decode cX11_ruleOf 65 = .ok (.iload_n 2, 1) := by decide +kernel
theorem dX11_ruleOf_66 : decode cX11_ruleOf 66 = .ok (.iconst 1, 1) := by decide +kernel
theorem dX11_ruleOf_67 : decode cX11_ruleOf 67 = .ok (.iadd, 1) := by decide +kernel
theorem dX11_ruleOf_68 : decode cX11_ruleOf 68 = .ok (.goto 4, 3) := by decide +kernel
theorem dX11_ruleOf_71 : decode cX11_ruleOf 71 = .ok (.iconst 1, 1) := by decide +kernel
theorem dX11_ruleOf_72 : decode cX11_ruleOf 72 = .ok (.istore_n 2, 1) := by decide +kernel
theorem dX11_ruleOf_73 : decode cX11_ruleOf 73 = .ok (.iload_n 3, 1) := by decide +kernel
theorem dX11_ruleOf_74 : decode cX11_ruleOf 74 = .ok (.ifCond .eq 15, 3) := by decide +kernel
theorem dX11_ruleOf_77 : decode cX11_ruleOf 77 = .ok (.iload_n 2, 1) := by decide +kernel
theorem dX11_ruleOf_78 : decode cX11_ruleOf 78 = .ok (.aload_n 0, 1) := by decide +kernel
theorem dX11_ruleOf_79 : decode cX11_ruleOf 79 = .ok (.getfield 9, 3) := by decide +kernel
theorem dX11_ruleOf_82 : decode cX11_ruleOf 82 = .ok (.if_icmp .gt 7, 3) := by decide +kernel
theorem dX11_ruleOf_85 : decode cX11_ruleOf 85 = .ok (.iconst 1, 1) := by decide +kernel
theorem dX11_ruleOf_86 : decode cX11_ruleOf 86 = .ok (.goto 4, 3) := by decide +kernel
theorem dX11_ruleOf_89 : decode cX11_ruleOf 89 = .ok (.iconst 0, 1) := by decide +kernel
theorem dX11_ruleOf_90 : decode cX11_ruleOf 90 = .ok (.istore_n 3, 1) := by decide +kernel
theorem dX11_ruleOf_91 : decode cX11_ruleOf 91 = .ok (.iload 4, 2) := by decide +kernel
theorem dX11_ruleOf_93 : decode cX11_ruleOf 93 = .ok (.ifCond .eq 21, 3) := by decide +kernel
theorem dX11_ruleOf_96 : decode cX11_ruleOf 96 = .ok (.iload 7, 2) := by decide +kernel
theorem dX11_ruleOf_98 : decode cX11_ruleOf 98 = .ok (.ifCond .lt 12, 3) := by decide +kernel
theorem dX11_ruleOf_101 : decode cX11_ruleOf 101 = .ok (.iload 7, 2) := by decide +kernel
theorem dX11_ruleOf_103 : decode cX11_ruleOf 103 = .ok (.iload 6, 2) := by decide +kernel
theorem dX11_ruleOf_105 : decode cX11_ruleOf 105 = .ok (.iadd, 1) := by decide +kernel
theorem dX11_ruleOf_106 : decode cX11_ruleOf 106 = .ok (.iconst 1, 1) := by decide +kernel
theorem dX11_ruleOf_107 : decode cX11_ruleOf 107 = .ok (.if_icmp .eq 7, 3) := by decide +kernel
theorem dX11_ruleOf_110 : decode cX11_ruleOf 110 = .ok (.iconst 1, 1) := by decide +kernel
theorem dX11_ruleOf_111 : decode cX11_ruleOf 111 = .ok (.goto 4, 3) := by decide +kernel
theorem dX11_ruleOf_114 : decode cX11_ruleOf 114 = .ok (.iconst 0, 1) := by decide +kernel
theorem dX11_ruleOf_115 : decode cX11_ruleOf 115 = .ok (.istore 4, 2) := by decide +kernel
theorem dX11_ruleOf_117 : decode cX11_ruleOf 117 = .ok (.iinc 5 1, 3) := by decide +kernel
theorem dX11_ruleOf_120 : decode cX11_ruleOf 120 = .ok (.goto (-110), 3) := by decide +kernel
theorem dX11_ruleOf_123 : decode cX11_ruleOf 123 = .ok (.iload_n 3, 1) := by decide +kernel
theorem dX11_ruleOf_124 : decode cX11_ruleOf 124 = .ok (.ifCond .ne 5, 3) := by decide +kernel
theorem dX11_ruleOf_127 : decode cX11_ruleOf 127 = .ok (.iconst 1, 1) := by decide +kernel
theorem dX11_ruleOf_128 : decode cX11_ruleOf 128 = .ok (.ireturn, 1) := by decide +kernel
theorem dX11_ruleOf_129 : decode cX11_ruleOf 129 = .ok (.aload_n 0, 1) := by decide +kernel
theorem dX11_ruleOf_130 : decode cX11_ruleOf 130 = .ok (.getfield 197, 3) := by decide +kernel
theorem dX11_ruleOf_133 : decode cX11_ruleOf 133 = .ok (.iconst 1, 1) := by decide +kernel
theorem dX11_ruleOf_134 : decode cX11_ruleOf 134 = .ok (.if_icmp .ne 10, 3) := by decide +kernel
theorem dX11_ruleOf_137 : decode cX11_ruleOf 137 = .ok (.iload 4, 2) := by decide +kernel
theorem dX11_ruleOf_139 : decode cX11_ruleOf 139 = .ok (.ifCond .ne 5, 3) := by decide +kernel
theorem dX11_ruleOf_142 : decode cX11_ruleOf 142 = .ok (.iconst 2, 1) := by decide +kernel
theorem dX11_ruleOf_143 : decode cX11_ruleOf 143 = .ok (.ireturn, 1) := by decide +kernel
theorem dX11_ruleOf_144 : decode cX11_ruleOf 144 = .ok (.iconst 0, 1) := by decide +kernel
theorem dX11_ruleOf_145 : decode cX11_ruleOf 145 = .ok (.istore 5, 2) := by decide +kernel
theorem dX11_ruleOf_147 : decode cX11_ruleOf 147 = .ok (.iload 5, 2) := by decide +kernel
theorem dX11_ruleOf_149 : decode cX11_ruleOf 149 = .ok (.iconst 4, 1) := by decide +kernel
theorem dX11_ruleOf_150 : decode cX11_ruleOf 150 = .ok (.if_icmp .ge 69, 3) := by decide +kernel
theorem dX11_ruleOf_153 : decode cX11_ruleOf 153 = .ok (.iconst 0, 1) := by decide +kernel
theorem dX11_ruleOf_154 : decode cX11_ruleOf 154 = .ok (.istore 6, 2) := by decide +kernel
theorem dX11_ruleOf_156 : decode cX11_ruleOf 156 = .ok (.iconst 0, 1) := by decide +kernel
theorem dX11_ruleOf_157 : decode cX11_ruleOf 157 = .ok (.istore 7, 2) := by decide +kernel
theorem dX11_ruleOf_159 : decode cX11_ruleOf 159 = .ok (.iload 7, 2) := by decide +kernel
theorem dX11_ruleOf_161 : decode cX11_ruleOf 161 = .ok (.aload_n 0, 1) := by decide +kernel
theorem dX11_ruleOf_162 : decode cX11_ruleOf 162 = .ok (.getfield 35, 3) := by decide +kernel
theorem dX11_ruleOf_165 : decode cX11_ruleOf 165 = .ok (.iload_n 1, 1) := by decide +kernel
theorem dX11_ruleOf_166 : decode cX11_ruleOf 166 = .ok (.iaload, 1) := by decide +kernel
theorem dX11_ruleOf_167 : decode cX11_ruleOf 167 = .ok (.if_icmp .ge 35, 3) := by decide +kernel
theorem dX11_ruleOf_170 : decode cX11_ruleOf 170 = .ok (.iload 6, 2) := by decide +kernel
theorem dX11_ruleOf_172 : decode cX11_ruleOf 172 = .ok (.aload_n 0, 1) := by decide +kernel
theorem dX11_ruleOf_173 : decode cX11_ruleOf 173 = .ok (.getfield 41, 3) := by decide +kernel
theorem dX11_ruleOf_176 : decode cX11_ruleOf 176 = .ok (.iload_n 1, 1) := by decide +kernel
theorem dX11_ruleOf_177 : decode cX11_ruleOf 177 = .ok (.iload 7, 2) := by decide +kernel
theorem dX11_ruleOf_179 : decode cX11_ruleOf 179 = .ok (.invokestatic 86, 3) := by decide +kernel
theorem dX11_ruleOf_182 : decode cX11_ruleOf 182 = .ok (.iaload, 1) := by decide +kernel
theorem dX11_ruleOf_183 : decode cX11_ruleOf 183 = .ok (.iload 5, 2) := by decide +kernel
theorem dX11_ruleOf_185 : decode cX11_ruleOf 185 = .ok (.if_icmp .ne 7, 3) := by decide +kernel
theorem dX11_ruleOf_188 : decode cX11_ruleOf 188 = .ok (.iconst 1, 1) := by decide +kernel
theorem dX11_ruleOf_189 : decode cX11_ruleOf 189 = .ok (.goto 4, 3) := by decide +kernel
theorem dX11_ruleOf_192 : decode cX11_ruleOf 192 = .ok (.iconst 0, 1) := by decide +kernel
theorem dX11_ruleOf_193 : decode cX11_ruleOf 193 = .ok (.iadd, 1) := by decide +kernel
theorem dX11_ruleOf_194 : decode cX11_ruleOf 194 = .ok (.istore 6, 2) := by decide +kernel
theorem dX11_ruleOf_196 : decode cX11_ruleOf 196 = .ok (.iinc 7 1, 3) := by decide +kernel
theorem dX11_ruleOf_199 : decode cX11_ruleOf 199 = .ok (.goto (-40), 3) := by decide +kernel
theorem dX11_ruleOf_202 : decode cX11_ruleOf 202 = .ok (.iload 6, 2) := by decide +kernel
theorem dX11_ruleOf_204 : decode cX11_ruleOf 204 = .ok (.aload_n 0, 1) := by decide +kernel
theorem dX11_ruleOf_205 : decode cX11_ruleOf 205 = .ok (.getfield 200, 3) := by decide +kernel
theorem dX11_ruleOf_208 : decode cX11_ruleOf 208 = .ok (.if_icmp .ge 5, 3) := by decide +kernel
theorem dX11_ruleOf_211 : decode cX11_ruleOf 211 = .ok (.iconst 3, 1) := by decide +kernel
theorem dX11_ruleOf_212 : decode cX11_ruleOf 212 = .ok (.ireturn, 1) := by decide +kernel
theorem dX11_ruleOf_213 : decode cX11_ruleOf 213 = .ok (.iinc 5 1, 3) := by decide +kernel
theorem dX11_ruleOf_216 : decode cX11_ruleOf 216 = .ok (.goto (-69), 3) := by decide +kernel
theorem dX11_ruleOf_219 : decode cX11_ruleOf 219 = .ok (.iconst 0, 1) := by decide +kernel
theorem dX11_ruleOf_220 : decode cX11_ruleOf 220 = .ok (.ireturn, 1) := by decide +kernel
theorem gm_X11_rule_0 : ∀ w ∈ wsX110, w ∈ wsX11_rule := fun w h => List.mem_cons_of_mem _ (List.mem_append_right _ h)
theorem ggX11_rule_X11_isPlate : GoodIn wsX11_rule wsX11_isPlate := gk_cons (List.mem_cons_of_mem _ (List.mem_append_left _ (List.mem_of_getElem? (i := 4) rfl))) rfl (goodIn_app (gk_cons (List.mem_cons_of_mem _ (List.mem_append_left _ (List.mem_of_getElem? (i := 5) rfl))) rfl (gk_cons (List.mem_cons_of_mem _ (List.mem_append_left _ (List.mem_of_getElem? (i := 6) rfl))) rfl (gk_cons (List.mem_cons_of_mem _ (List.mem_append_left _ (List.mem_of_getElem? (i := 7) rfl))) rfl (gk_cons (List.mem_cons_of_mem _ (List.mem_append_left _ (List.mem_of_getElem? (i := 3) rfl))) rfl (gk_cons (List.mem_cons_of_mem _ (List.mem_append_left _ (List.mem_of_getElem? (i := 8) rfl))) rfl gk_nil))))) (goodIn_sub gm_X11_rule_0 ag_wsX110))
theorem gX11_rule_X11_isPlate : GoodIn wsX11_rule (wsV RX11 79 RX11 yX11_isPlate wsX11_isPlate) := goodIn_app (gk_cons (List.mem_cons_of_mem _ (List.mem_append_left _ (List.mem_of_getElem? (i := 0) rfl))) rfl (gk_cons (List.mem_cons_of_mem _ (List.mem_append_left _ (List.mem_of_getElem? (i := 1) rfl))) rfl (gk_cons (List.mem_cons_of_mem _ (List.mem_append_left _ (List.mem_of_getElem? (i := 2) rfl))) rfl (gk_cons (List.mem_cons_of_mem _ (List.mem_append_left _ (List.mem_of_getElem? (i := 3) rfl))) rfl gk_nil)))) ggX11_rule_X11_isPlate
theorem ggX11_rule_X11_ruleOf : GoodIn wsX11_rule wsX11_ruleOf := gk_cons (List.mem_cons_of_mem _ (List.mem_append_left _ (List.mem_of_getElem? (i := 12) rfl))) rfl (goodIn_app (gk_cons (List.mem_cons_of_mem _ (List.mem_append_left _ (List.mem_of_getElem? (i := 13) rfl))) rfl (gk_cons (List.mem_cons_of_mem _ (List.mem_append_left _ (List.mem_of_getElem? (i := 14) rfl))) rfl (gk_cons (List.mem_cons_of_mem _ (List.mem_append_left _ (List.mem_of_getElem? (i := 15) rfl))) rfl (gk_cons (List.mem_cons_of_mem _ (List.mem_append_left _ (List.mem_of_getElem? (i := 16) rfl))) rfl (gk_cons (List.mem_cons_of_mem _ (List.mem_append_left _ (List.mem_of_getElem? (i := 17) rfl))) rfl (gk_cons (List.mem_cons_of_mem _ (List.mem_append_left _ (List.mem_of_getElem? (i := 18) rfl))) rfl (gk_cons (List.mem_cons_of_mem _ (List.mem_append_left _ (List.mem_of_getElem? (i := 19) rfl))) rfl (gk_cons (List.mem_cons_of_mem _ (List.mem_append_left _ (List.mem_of_getElem? (i := 3) rfl))) rfl (gk_cons (List.mem_cons_of_mem _ (List.mem_append_left _ (List.mem_of_getElem? (i := 20) rfl))) rfl gk_nil))))))))) (goodIn_sub gm_X11_rule_0 ag_wsX110))
theorem gX11_rule_X11_ruleOf : GoodIn wsX11_rule (wsV RX11 203 RX11 yX11_ruleOf wsX11_ruleOf) := goodIn_app (gk_cons (List.mem_cons_of_mem _ (List.mem_append_left _ (List.mem_of_getElem? (i := 9) rfl))) rfl (gk_cons (List.mem_cons_of_mem _ (List.mem_append_left _ (List.mem_of_getElem? (i := 10) rfl))) rfl (gk_cons (List.mem_cons_of_mem _ (List.mem_append_left _ (List.mem_of_getElem? (i := 11) rfl))) rfl (gk_cons (List.mem_cons_of_mem _ (List.mem_append_left _ (List.mem_of_getElem? (i := 3) rfl))) rfl gk_nil)))) ggX11_rule_X11_ruleOf
theorem dX11_rule_0 : decode cX11_rule 0 = .ok (.aload_n 0, 1) := by decide +kernel
theorem dX11_rule_1 : decode cX11_rule 1 = .ok (.iload_n 1, 1) := by decide +kernel
theorem dX11_rule_2 : decode cX11_rule 2 = .ok (.invokevirtual 79, 3) := by decide +kernel
theorem dX11_rule_5 : decode cX11_rule 5 = .ok (.ifCond .eq 11, 3) := by decide +kernel
theorem dX11_rule_8 : decode cX11_rule 8 = .ok (.aload_n 0, 1) := by decide +kernel
theorem dX11_rule_9 : decode cX11_rule 9 = .ok (.iload_n 1, 1) := by decide +kernel
theorem dX11_rule_10 : decode cX11_rule 10 = .ok (.invokevirtual 203, 3) := by decide +kernel
theorem dX11_rule_13 : decode cX11_rule 13 = .ok (.goto 4, 3) := by decide +kernel
theorem dX11_rule_16 : decode cX11_rule 16 = .ok (.iconst (-1), 1) := by decide +kernel
theorem dX11_rule_17 : decode cX11_rule 17 = .ok (.ireturn, 1) := by decide +kernel
theorem gm_X11_load_0 : ∀ w ∈ wsX110, w ∈ wsX11_load := fun w h => List.mem_cons_of_mem _ (List.mem_append_right _ h)
theorem ggX11_load_X11_isLoad : GoodIn wsX11_load wsX11_isLoad := gk_cons (List.mem_cons_of_mem _ (List.mem_append_left _ (List.mem_of_getElem? (i := 7) rfl))) rfl (gk_cons (List.mem_cons_of_mem _ (List.mem_append_left _ (List.mem_of_getElem? (i := 8) rfl))) rfl (gk_cons (List.mem_cons_of_mem _ (List.mem_append_left _ (List.mem_of_getElem? (i := 9) rfl))) rfl (gk_cons (List.mem_cons_of_mem _ (List.mem_append_left _ (List.mem_of_getElem? (i := 6) rfl))) rfl (gk_cons (List.mem_cons_of_mem _ (List.mem_append_left _ (List.mem_of_getElem? (i := 10) rfl))) rfl gk_nil))))
theorem gX11_load_X11_isLoad : GoodIn wsX11_load (va_wsS RX11 147 yX11_isLoad wsX11_isLoad) := goodIn_app (gk_cons (List.mem_cons_of_mem _ (List.mem_append_left _ (List.mem_of_getElem? (i := 4) rfl))) rfl (gk_cons (List.mem_cons_of_mem _ (List.mem_append_left _ (List.mem_of_getElem? (i := 5) rfl))) rfl (gk_cons (List.mem_cons_of_mem _ (List.mem_append_left _ (List.mem_of_getElem? (i := 6) rfl))) rfl gk_nil))) ggX11_load_X11_isLoad
theorem dX11_load_0 : decode cX11_load 0 = .ok (.iload_n 1, 1) := by decide +kernel
theorem dX11_load_1 : decode cX11_load 1 = .ok (.iload_n 2, 1) := by decide +kernel
theorem dX11_load_2 : decode cX11_load 2 = .ok (.iload_n 3, 1) := by decide +kernel
theorem dX11_load_3 : decode cX11_load 3 = .ok (.invokestatic 147, 3) := by decide +kernel
theorem dX11_load_6 : decode cX11_load 6 = .ok (.ifCond .ne 6, 3) := by decide +kernel
theorem dX11_load_9 : decode cX11_load 9 = .ok (.bipush (-2), 2) := by decide +kernel
theorem dX11_load_11 : decode cX11_load 11 = .ok (.ireturn, 1) := by decide +kernel
theorem dX11_load_12 : decode cX11_load 12 = .ok (.aload_n 0, 1) := by decide +kernel
theorem dX11_load_13 : decode cX11_load 13 = .ok (.getfield 206, 3) := by decide +kernel
theorem dX11_load_16 : decode cX11_load 16 = .ok (.iconst 4, 1) := by decide +kernel
theorem dX11_load_17 : decode cX11_load 17 = .ok (.if_icmp .ne 6, 3) := by decide +kernel
theorem dX11_load_20 : decode cX11_load 20 = .ok (.bipush (-4), 2) := by decide +kernel
theorem dX11_load_22 : decode cX11_load 22 = .ok (.ireturn, 1) := by decide +kernel
theorem dX11_load_23 : decode cX11_load 23 = .ok (.aload_n 0, 1) := by decide +kernel
theorem dX11_load_24 : decode cX11_load 24 = .ok (.getfield 50, 3) := by decide +kernel
theorem dX11_load_27 : decode cX11_load 27 = .ok (.aload_n 0, 1) := by decide +kernel
theorem dX11_load_28 : decode cX11_load 28 = .ok (.getfield 206, 3) := by decide +kernel
theorem dX11_load_31 : decode cX11_load 31 = .ok (.iload_n 1, 1) := by decide +kernel
theorem dX11_load_32 : decode cX11_load 32 = .ok (.iastore, 1) := by decide +kernel
theorem dX11_load_33 : decode cX11_load 33 = .ok (.aload_n 0, 1) := by decide +kernel
theorem dX11_load_34 : decode cX11_load 34 = .ok (.getfield 53, 3) := by decide +kernel
theorem dX11_load_37 : decode cX11_load 37 = .ok (.aload_n 0, 1) := by decide +kernel
theorem dX11_load_38 : decode cX11_load 38 = .ok (.getfield 206, 3) := by decide +kernel
theorem dX11_load_41 : decode cX11_load 41 = .ok (.iload_n 2, 1) := by decide +kernel
theorem dX11_load_42 : decode cX11_load 42 = .ok (.iastore, 1) := by decide +kernel
theorem dX11_load_43 : decode cX11_load 43 = .ok (.aload_n 0, 1) := by decide +kernel
theorem dX11_load_44 : decode cX11_load 44 = .ok (.getfield 56, 3) := by decide +kernel
theorem dX11_load_47 : decode cX11_load 47 = .ok (.aload_n 0, 1) := by decide +kernel
theorem dX11_load_48 : decode cX11_load 48 = .ok (.getfield 206, 3) := by decide +kernel
theorem dX11_load_51 : decode cX11_load 51 = .ok (.iload_n 3, 1) := by decide +kernel
theorem dX11_load_52 : decode cX11_load 52 = .ok (.iastore, 1) := by decide +kernel
theorem dX11_load_53 : decode cX11_load 53 = .ok (.aload_n 0, 1) := by decide +kernel
theorem dX11_load_54 : decode cX11_load 54 = .ok (.dup, 1) := by decide +kernel
theorem dX11_load_55 : decode cX11_load 55 = .ok (.getfield 206, 3) := by decide +kernel
theorem dX11_load_58 : decode cX11_load 58 = .ok (.iconst 1, 1) := by decide +kernel
theorem dX11_load_59 : decode cX11_load 59 = .ok (.iadd, 1) := by decide +kernel
theorem dX11_load_60 : decode cX11_load 60 = .ok (.putfield 206, 3) := by decide +kernel
theorem dX11_load_63 : decode cX11_load 63 = .ok (.aload_n 0, 1) := by decide +kernel
theorem dX11_load_64 : decode cX11_load 64 = .ok (.getfield 206, 3) := by decide +kernel
theorem dX11_load_67 : decode cX11_load 67 = .ok (.iconst 1, 1) := by decide +kernel
theorem dX11_load_68 : decode cX11_load 68 = .ok (.isub, 1) := by decide +kernel
theorem dX11_load_69 : decode cX11_load 69 = .ok (.ireturn, 1) := by decide +kernel
theorem dX11_unload_0 : decode cX11_unload 0 = .ok (.aload_n 0, 1) := by decide +kernel
theorem dX11_unload_1 : decode cX11_unload 1 = .ok (.getfield 206, 3) := by decide +kernel
theorem dX11_unload_4 : decode cX11_unload 4 = .ok (.istore_n 1, 1) := by decide +kernel
theorem dX11_unload_5 : decode cX11_unload 5 = .ok (.aload_n 0, 1) := by decide +kernel
theorem dX11_unload_6 : decode cX11_unload 6 = .ok (.iconst 0, 1) := by decide +kernel
theorem dX11_unload_7 : decode cX11_unload 7 = .ok (.putfield 206, 3) := by decide +kernel
theorem dX11_unload_10 : decode cX11_unload 10 = .ok (.iload_n 1, 1) := by decide +kernel
theorem dX11_unload_11 : decode cX11_unload 11 = .ok (.ireturn, 1) := by decide +kernel
theorem gm_X11_holdsAll_0 : ∀ w ∈ wsX11_holdsAll_r1, w ∈ wsX11_holdsAll := fun w h => List.mem_cons_of_mem _ (List.mem_append_left _ (List.mem_append_left _ h))
theorem gm_X11_holdsAll_1 : ∀ w ∈ wsX11_holdsAll_r2, w ∈ wsX11_holdsAll := fun w h => List.mem_cons_of_mem _ (List.mem_append_left _ (List.mem_append_right _ (List.mem_append_left _ h)))
theorem gm_X11_holdsAll_2 : ∀ w ∈ wsX11_holdsAll_r3, w ∈ wsX11_holdsAll := fun w h => List.mem_cons_of_mem _ (List.mem_append_left _ (List.mem_append_right _ (List.mem_append_right _ h)))
theorem gm_X11_holdsAll_3 : ∀ w ∈ wsX110, w ∈ wsX11_holdsAll := fun w h => List.mem_cons_of_mem _ (List.mem_append_right _ h)
theorem gk_X11_holdsAll_X11_isHeld_r1 : GoodIn wsX11_holdsAll wsX11_isHeld_r1 := (gk_cons (gm_X11_holdsAll_0 _ (List.mem_of_getElem? (i := 9) rfl)) rfl (gk_cons (gm_X11_holdsAll_0 _ (List.mem_of_getElem? (i := 10) rfl)) rfl (gk_cons (gm_X11_holdsAll_0 _ (List.mem_of_getElem? (i := 11) rfl)) rfl (gk_cons (gm_X11_holdsAll_0 _ (List.mem_of_getElem? (i := 12) rfl)) rfl (gk_cons (gm_X11_holdsAll_0 _ (List.mem_of_getElem? (i := 13) rfl)) rfl (gk_cons (gm_X11_holdsAll_0 _ (List.mem_of_getElem? (i := 14) rfl)) rfl (gk_cons (gm_X11_holdsAll_0 _ (List.mem_of_getElem? (i := 15) rfl)) rfl (gk_cons (gm_X11_holdsAll_0 _ (List.mem_of_getElem? (i := 16) rfl)) rfl (gk_cons (gm_X11_holdsAll_0 _ (List.mem_of_getElem? (i := 7) rfl)) rfl (gk_cons (gm_X11_holdsAll_0 _ (List.mem_of_getElem? (i := 17) rfl)) rfl (gk_cons (gm_X11_holdsAll_0 _ (List.mem_of_getElem? (i := 18) rfl)) rfl (gk_cons (gm_X11_holdsAll_0 _ (List.mem_of_getElem? (i := 19) rfl)) rfl (gk_cons (gm_X11_holdsAll_0 _ (List.mem_of_getElem? (i := 20) rfl)) rfl (gk_cons (gm_X11_holdsAll_0 _ (List.mem_of_getElem? (i := 21) rfl)) rfl (gk_cons (gm_X11_holdsAll_0 _ (List.mem_of_getElem? (i := 22) rfl)) rfl (gk_cons (gm_X11_holdsAll_0 _ (List.mem_of_getElem? (i := 23) rfl)) rfl (gk_cons (gm_X11_holdsAll_1 _ (List.mem_of_getElem? (i := 0) rfl)) rfl (gk_cons (gm_X11_holdsAll_1 _ (List.mem_of_getElem? (i := 1) rfl)) rfl (gk_cons (gm_X11_holdsAll_1 _ (List.mem_of_getElem? (i := 2) rfl)) rfl (gk_cons (gm_X11_holdsAll_1 _ (List.mem_of_getElem? (i := 3) rfl)) rfl (gk_cons (gm_X11_holdsAll_1 _ (List.mem_of_getElem? (i := 4) rfl)) rfl (gk_cons (gm_X11_holdsAll_1 _ (List.mem_of_getElem? (i := 5) rfl)) rfl (gk_cons (gm_X11_holdsAll_1 _ (List.mem_of_getElem? (i := 6) rfl)) rfl (gk_cons (gm_X11_holdsAll_1 _ (List.mem_of_getElem? (i := 7) rfl)) rfl gk_nil))))))))))))))))))))))))
theorem gk_X11_holdsAll_X11_isHeld_r2 : GoodIn wsX11_holdsAll wsX11_isHeld_r2 := (gk_cons (gm_X11_holdsAll_1 _ (List.mem_of_getElem? (i := 8) rfl)) rfl (gk_cons (gm_X11_holdsAll_1 _ (List.mem_of_getElem? (i := 9) rfl)) rfl (gk_cons (gm_X11_holdsAll_1 _ (List.mem_of_getElem? (i := 10) rfl)) rfl (gk_cons (gm_X11_holdsAll_1 _ (List.mem_of_getElem? (i := 11) rfl)) rfl (gk_cons (gm_X11_holdsAll_1 _ (List.mem_of_getElem? (i := 12) rfl)) rfl (gk_cons (gm_X11_holdsAll_1 _ (List.mem_of_getElem? (i := 13) rfl)) rfl (gk_cons (gm_X11_holdsAll_1 _ (List.mem_of_getElem? (i := 14) rfl)) rfl (gk_cons (gm_X11_holdsAll_1 _ (List.mem_of_getElem? (i := 15) rfl)) rfl (gk_cons (gm_X11_holdsAll_1 _ (List.mem_of_getElem? (i := 16) rfl)) rfl (gk_cons (gm_X11_holdsAll_1 _ (List.mem_of_getElem? (i := 17) rfl)) rfl (gk_cons (gm_X11_holdsAll_1 _ (List.mem_of_getElem? (i := 18) rfl)) rfl (gk_cons (gm_X11_holdsAll_1 _ (List.mem_of_getElem? (i := 19) rfl)) rfl (gk_cons (gm_X11_holdsAll_1 _ (List.mem_of_getElem? (i := 20) rfl)) rfl (gk_cons (gm_X11_holdsAll_1 _ (List.mem_of_getElem? (i := 21) rfl)) rfl (gk_cons (gm_X11_holdsAll_1 _ (List.mem_of_getElem? (i := 22) rfl)) rfl (gk_cons (gm_X11_holdsAll_1 _ (List.mem_of_getElem? (i := 23) rfl)) rfl (gk_cons (gm_X11_holdsAll_2 _ (List.mem_of_getElem? (i := 0) rfl)) rfl (gk_cons (gm_X11_holdsAll_2 _ (List.mem_of_getElem? (i := 1) rfl)) rfl (gk_cons (gm_X11_holdsAll_2 _ (List.mem_of_getElem? (i := 2) rfl)) rfl (gk_cons (gm_X11_holdsAll_2 _ (List.mem_of_getElem? (i := 3) rfl)) rfl (gk_cons (gm_X11_holdsAll_2 _ (List.mem_of_getElem? (i := 4) rfl)) rfl (gk_cons (gm_X11_holdsAll_2 _ (List.mem_of_getElem? (i := 5) rfl)) rfl (gk_cons (gm_X11_holdsAll_2 _ (List.mem_of_getElem? (i := 6) rfl)) rfl (gk_cons (gm_X11_holdsAll_2 _ (List.mem_of_getElem? (i := 7) rfl)) rfl gk_nil))))))))))))))))))))))))
theorem gk_X11_holdsAll_X11_isHeld_r3 : GoodIn wsX11_holdsAll wsX11_isHeld_r3 := (gk_cons (gm_X11_holdsAll_2 _ (List.mem_of_getElem? (i := 8) rfl)) rfl (gk_cons (gm_X11_holdsAll_2 _ (List.mem_of_getElem? (i := 9) rfl)) rfl (gk_cons (gm_X11_holdsAll_2 _ (List.mem_of_getElem? (i := 10) rfl)) rfl (gk_cons (gm_X11_holdsAll_2 _ (List.mem_of_getElem? (i := 11) rfl)) rfl (gk_cons (gm_X11_holdsAll_2 _ (List.mem_of_getElem? (i := 12) rfl)) rfl (gk_cons (gm_X11_holdsAll_2 _ (List.mem_of_getElem? (i := 13) rfl)) rfl (gk_cons (gm_X11_holdsAll_2 _ (List.mem_of_getElem? (i := 14) rfl)) rfl (gk_cons (gm_X11_holdsAll_2 _ (List.mem_of_getElem? (i := 15) rfl)) rfl (gk_cons (gm_X11_holdsAll_2 _ (List.mem_of_getElem? (i := 16) rfl)) rfl (gk_cons (gm_X11_holdsAll_2 _ (List.mem_of_getElem? (i := 17) rfl)) rfl (gk_cons (gm_X11_holdsAll_2 _ (List.mem_of_getElem? (i := 18) rfl)) rfl (gk_cons (gm_X11_holdsAll_2 _ (List.mem_of_getElem? (i := 19) rfl)) rfl (gk_cons (gm_X11_holdsAll_2 _ (List.mem_of_getElem? (i := 20) rfl)) rfl (gk_cons (gm_X11_holdsAll_2 _ (List.mem_of_getElem? (i := 21) rfl)) rfl gk_nil))))))))))))))
theorem ggX11_holdsAll_X11_isHeld : GoodIn wsX11_holdsAll wsX11_isHeld := gk_cons (gm_X11_holdsAll_0 _ (List.mem_of_getElem? (i := 8) rfl)) rfl (goodIn_app (goodIn_app gk_X11_holdsAll_X11_isHeld_r1 (goodIn_app gk_X11_holdsAll_X11_isHeld_r2 gk_X11_holdsAll_X11_isHeld_r3)) (goodIn_sub gm_X11_holdsAll_3 ag_wsX110))
theorem gX11_holdsAll_X11_isHeld : GoodIn wsX11_holdsAll (wsV RX11 182 RX11 yX11_isHeld wsX11_isHeld) := goodIn_app (gk_cons (gm_X11_holdsAll_0 _ (List.mem_of_getElem? (i := 4) rfl)) rfl (gk_cons (gm_X11_holdsAll_0 _ (List.mem_of_getElem? (i := 5) rfl)) rfl (gk_cons (gm_X11_holdsAll_0 _ (List.mem_of_getElem? (i := 6) rfl)) rfl (gk_cons (gm_X11_holdsAll_0 _ (List.mem_of_getElem? (i := 7) rfl)) rfl gk_nil)))) ggX11_holdsAll_X11_isHeld
theorem dX11_holdsAll_0 : decode cX11_holdsAll 0 = .ok (.iconst 0, 1) := by decide +kernel
theorem dX11_holdsAll_1 : decode cX11_holdsAll 1 = .ok (.istore_n 2, 1) := by decide +kernel
theorem dX11_holdsAll_2 : decode cX11_holdsAll 2 = .ok (.iload_n 2, 1) := by decide +kernel
theorem dX11_holdsAll_3 : decode cX11_holdsAll 3 = .ok (.aload_n 0, 1) := by decide +kernel
theorem dX11_holdsAll_4 : decode cX11_holdsAll 4 = .ok (.getfield 206, 3) := by decide +kernel
theorem dX11_holdsAll_7 : decode cX11_holdsAll 7 = .ok (.if_icmp .ge 37, 3) := by decide +kernel
theorem dX11_holdsAll_10 : decode cX11_holdsAll 10 = .ok (.aload_n 0, 1) := by decide +kernel
theorem dX11_holdsAll_11 : decode cX11_holdsAll 11 = .ok (.iload_n 1, 1) := by decide +kernel
theorem dX11_holdsAll_12 : decode cX11_holdsAll 12 = .ok (.aload_n 0, 1) := by decide +kernel
theorem dX11_holdsAll_13 : decode cX11_holdsAll 13 = .ok (.getfield 50, 3) := by decide +kernel
theorem dX11_holdsAll_16 : decode cX11_holdsAll 16 = .ok (.iload_n 2, 1) := by decide +kernel
theorem dX11_holdsAll_17 : decode cX11_holdsAll 17 = .ok (.iaload, 1) := by decide +kernel
theorem dX11_holdsAll_18 : decode cX11_holdsAll 18 = .ok (.aload_n 0, 1) := by decide +kernel
theorem dX11_holdsAll_19 : decode cX11_holdsAll 19 = .ok (.getfield 53, 3) := by decide +kernel
theorem dX11_holdsAll_22 : decode cX11_holdsAll 22 = .ok (.iload_n 2, 1) := by decide +kernel
theorem dX11_holdsAll_23 : decode cX11_holdsAll 23 = .ok (.iaload, 1) := by decide +kernel
theorem dX11_holdsAll_24 : decode cX11_holdsAll 24 = .ok (.aload_n 0, 1) := by decide +kernel
theorem dX11_holdsAll_25 : decode cX11_holdsAll 25 = .ok (.getfield 56, 3) := by decide +kernel
theorem dX11_holdsAll_28 : decode cX11_holdsAll 28 = .ok (.iload_n 2, 1) := by decide +kernel
theorem dX11_holdsAll_29 : decode cX11_holdsAll 29 = .ok (.iaload, 1) := by decide +kernel
theorem dX11_holdsAll_30 : decode cX11_holdsAll 30 = .ok (.invokevirtual 182, 3) := by decide +kernel
theorem dX11_holdsAll_33 : decode cX11_holdsAll 33 = .ok (.ifCond .ne 5, 3) := by decide +kernel
theorem dX11_holdsAll_36 : decode cX11_holdsAll 36 = .ok (.iconst 0, 1) := by decide +kernel
theorem dX11_holdsAll_37 : decode cX11_holdsAll 37 = .ok (.ireturn, 1) := by decide +kernel
theorem dX11_holdsAll_38 : decode cX11_holdsAll 38 = .ok (.iinc 2 1, 3) := by decide +kernel
theorem dX11_holdsAll_41 : decode cX11_holdsAll 41 = .ok (.goto (-39), 3) := by decide +kernel
theorem dX11_holdsAll_44 : decode cX11_holdsAll 44 = .ok (.iconst 1, 1) := by decide +kernel
theorem dX11_holdsAll_45 : decode cX11_holdsAll 45 = .ok (.ireturn, 1) := by decide +kernel
theorem gm_X11_fewest_0 : ∀ w ∈ wsX11_fewest_r1, w ∈ wsX11_fewest := fun w h => List.mem_cons_of_mem _ (List.mem_append_left _ (List.mem_append_left _ h))
theorem gm_X11_fewest_1 : ∀ w ∈ wsX11_fewest_r2, w ∈ wsX11_fewest := fun w h => List.mem_cons_of_mem _ (List.mem_append_left _ (List.mem_append_right _ (List.mem_append_left _ h)))
theorem gm_X11_fewest_2 : ∀ w ∈ wsX11_fewest_r3, w ∈ wsX11_fewest := fun w h => List.mem_cons_of_mem _ (List.mem_append_left _ (List.mem_append_right _ (List.mem_append_right _ (List.mem_append_left _ h))))
theorem gm_X11_fewest_3 : ∀ w ∈ wsX11_fewest_r4, w ∈ wsX11_fewest := fun w h => List.mem_cons_of_mem _ (List.mem_append_left _ (List.mem_append_right _ (List.mem_append_right _ (List.mem_append_right _ (List.mem_append_left _ h)))))
theorem gm_X11_fewest_4 : ∀ w ∈ wsX11_fewest_r5, w ∈ wsX11_fewest := fun w h => List.mem_cons_of_mem _ (List.mem_append_left _ (List.mem_append_right _ (List.mem_append_right _ (List.mem_append_right _ (List.mem_append_right _ h)))))
theorem gm_X11_fewest_5 : ∀ w ∈ wsX110, w ∈ wsX11_fewest := fun w h => List.mem_cons_of_mem _ (List.mem_append_right _ h)
theorem ggX11_fewest_X11_isPlate : GoodIn wsX11_fewest wsX11_isPlate := gk_cons (gm_X11_fewest_0 _ (List.mem_of_getElem? (i := 5) rfl)) rfl (goodIn_app (gk_cons (gm_X11_fewest_0 _ (List.mem_of_getElem? (i := 6) rfl)) rfl (gk_cons (gm_X11_fewest_0 _ (List.mem_of_getElem? (i := 7) rfl)) rfl (gk_cons (gm_X11_fewest_0 _ (List.mem_of_getElem? (i := 8) rfl)) rfl (gk_cons (gm_X11_fewest_0 _ (List.mem_of_getElem? (i := 4) rfl)) rfl (gk_cons (gm_X11_fewest_0 _ (List.mem_of_getElem? (i := 9) rfl)) rfl gk_nil))))) (goodIn_sub gm_X11_fewest_5 ag_wsX110))
theorem gX11_fewest_X11_isPlate : GoodIn wsX11_fewest (wsV RX11 79 RX11 yX11_isPlate wsX11_isPlate) := goodIn_app (gk_cons (gm_X11_fewest_0 _ (List.mem_of_getElem? (i := 1) rfl)) rfl (gk_cons (gm_X11_fewest_0 _ (List.mem_of_getElem? (i := 2) rfl)) rfl (gk_cons (gm_X11_fewest_0 _ (List.mem_of_getElem? (i := 3) rfl)) rfl (gk_cons (gm_X11_fewest_0 _ (List.mem_of_getElem? (i := 4) rfl)) rfl gk_nil)))) ggX11_fewest_X11_isPlate
theorem ggX11_fewest_X11_isStuff : GoodIn wsX11_fewest wsX11_isStuff := gk_cons (gm_X11_fewest_0 _ (List.mem_of_getElem? (i := 13) rfl)) rfl (goodIn_app (gk_cons (gm_X11_fewest_0 _ (List.mem_of_getElem? (i := 14) rfl)) rfl (gk_cons (gm_X11_fewest_0 _ (List.mem_of_getElem? (i := 7) rfl)) rfl (gk_cons (gm_X11_fewest_0 _ (List.mem_of_getElem? (i := 8) rfl)) rfl (gk_cons (gm_X11_fewest_0 _ (List.mem_of_getElem? (i := 4) rfl)) rfl (gk_cons (gm_X11_fewest_0 _ (List.mem_of_getElem? (i := 9) rfl)) rfl gk_nil))))) (goodIn_sub gm_X11_fewest_5 ag_wsX110))
theorem gX11_fewest_X11_isStuff : GoodIn wsX11_fewest (wsV RX11 83 RX11 yX11_isStuff wsX11_isStuff) := goodIn_app (gk_cons (gm_X11_fewest_0 _ (List.mem_of_getElem? (i := 10) rfl)) rfl (gk_cons (gm_X11_fewest_0 _ (List.mem_of_getElem? (i := 11) rfl)) rfl (gk_cons (gm_X11_fewest_0 _ (List.mem_of_getElem? (i := 12) rfl)) rfl (gk_cons (gm_X11_fewest_0 _ (List.mem_of_getElem? (i := 4) rfl)) rfl gk_nil)))) ggX11_fewest_X11_isStuff
theorem ggX11_fewest_X11_puts : GoodIn wsX11_fewest wsX11_puts := gk_cons (gm_X11_fewest_0 _ (List.mem_of_getElem? (i := 18) rfl)) rfl (goodIn_app (gk_cons (gm_X11_fewest_0 _ (List.mem_of_getElem? (i := 0) rfl)) rfl (gk_cons (gm_X11_fewest_0 _ (List.mem_of_getElem? (i := 19) rfl)) rfl (gk_cons (gm_X11_fewest_0 _ (List.mem_of_getElem? (i := 20) rfl)) rfl (gk_cons (gm_X11_fewest_0 _ (List.mem_of_getElem? (i := 21) rfl)) rfl (gk_cons (gm_X11_fewest_0 _ (List.mem_of_getElem? (i := 22) rfl)) rfl (gk_cons (gm_X11_fewest_0 _ (List.mem_of_getElem? (i := 23) rfl)) rfl (gk_cons (gm_X11_fewest_1 _ (List.mem_of_getElem? (i := 0) rfl)) rfl (gk_cons (gm_X11_fewest_0 _ (List.mem_of_getElem? (i := 4) rfl)) rfl (gk_cons (gm_X11_fewest_1 _ (List.mem_of_getElem? (i := 1) rfl)) rfl gk_nil))))))))) (goodIn_sub gm_X11_fewest_5 ag_wsX110))
theorem gX11_fewest_X11_puts : GoodIn wsX11_fewest (wsV RX11 90 RX11 yX11_puts wsX11_puts) := goodIn_app (gk_cons (gm_X11_fewest_0 _ (List.mem_of_getElem? (i := 15) rfl)) rfl (gk_cons (gm_X11_fewest_0 _ (List.mem_of_getElem? (i := 16) rfl)) rfl (gk_cons (gm_X11_fewest_0 _ (List.mem_of_getElem? (i := 17) rfl)) rfl (gk_cons (gm_X11_fewest_0 _ (List.mem_of_getElem? (i := 4) rfl)) rfl gk_nil)))) ggX11_fewest_X11_puts
theorem ggX11_fewest_X11_ruleOf : GoodIn wsX11_fewest wsX11_ruleOf := gk_cons (gm_X11_fewest_1 _ (List.mem_of_getElem? (i := 5) rfl)) rfl (goodIn_app (gk_cons (gm_X11_fewest_0 _ (List.mem_of_getElem? (i := 0) rfl)) rfl (gk_cons (gm_X11_fewest_0 _ (List.mem_of_getElem? (i := 20) rfl)) rfl (gk_cons (gm_X11_fewest_1 _ (List.mem_of_getElem? (i := 6) rfl)) rfl (gk_cons (gm_X11_fewest_1 _ (List.mem_of_getElem? (i := 7) rfl)) rfl (gk_cons (gm_X11_fewest_1 _ (List.mem_of_getElem? (i := 8) rfl)) rfl (gk_cons (gm_X11_fewest_0 _ (List.mem_of_getElem? (i := 23) rfl)) rfl (gk_cons (gm_X11_fewest_1 _ (List.mem_of_getElem? (i := 0) rfl)) rfl (gk_cons (gm_X11_fewest_0 _ (List.mem_of_getElem? (i := 4) rfl)) rfl (gk_cons (gm_X11_fewest_1 _ (List.mem_of_getElem? (i := 1) rfl)) rfl gk_nil))))))))) (goodIn_sub gm_X11_fewest_5 ag_wsX110))
theorem gX11_fewest_X11_ruleOf : GoodIn wsX11_fewest (wsV RX11 203 RX11 yX11_ruleOf wsX11_ruleOf) := goodIn_app (gk_cons (gm_X11_fewest_1 _ (List.mem_of_getElem? (i := 2) rfl)) rfl (gk_cons (gm_X11_fewest_1 _ (List.mem_of_getElem? (i := 3) rfl)) rfl (gk_cons (gm_X11_fewest_1 _ (List.mem_of_getElem? (i := 4) rfl)) rfl (gk_cons (gm_X11_fewest_0 _ (List.mem_of_getElem? (i := 4) rfl)) rfl gk_nil)))) ggX11_fewest_X11_ruleOf
theorem gk_X11_fewest_X11_holdsAll_r1 : GoodIn wsX11_fewest wsX11_holdsAll_r1 := (gk_cons (gm_X11_fewest_1 _ (List.mem_of_getElem? (i := 13) rfl)) rfl (gk_cons (gm_X11_fewest_1 _ (List.mem_of_getElem? (i := 14) rfl)) rfl (gk_cons (gm_X11_fewest_1 _ (List.mem_of_getElem? (i := 15) rfl)) rfl (gk_cons (gm_X11_fewest_1 _ (List.mem_of_getElem? (i := 16) rfl)) rfl (gk_cons (gm_X11_fewest_1 _ (List.mem_of_getElem? (i := 17) rfl)) rfl (gk_cons (gm_X11_fewest_1 _ (List.mem_of_getElem? (i := 18) rfl)) rfl (gk_cons (gm_X11_fewest_1 _ (List.mem_of_getElem? (i := 19) rfl)) rfl (gk_cons (gm_X11_fewest_0 _ (List.mem_of_getElem? (i := 4) rfl)) rfl (gk_cons (gm_X11_fewest_1 _ (List.mem_of_getElem? (i := 20) rfl)) rfl (gk_cons (gm_X11_fewest_1 _ (List.mem_of_getElem? (i := 21) rfl)) rfl (gk_cons (gm_X11_fewest_1 _ (List.mem_of_getElem? (i := 22) rfl)) rfl (gk_cons (gm_X11_fewest_1 _ (List.mem_of_getElem? (i := 23) rfl)) rfl (gk_cons (gm_X11_fewest_2 _ (List.mem_of_getElem? (i := 0) rfl)) rfl (gk_cons (gm_X11_fewest_2 _ (List.mem_of_getElem? (i := 1) rfl)) rfl (gk_cons (gm_X11_fewest_2 _ (List.mem_of_getElem? (i := 2) rfl)) rfl (gk_cons (gm_X11_fewest_2 _ (List.mem_of_getElem? (i := 3) rfl)) rfl (gk_cons (gm_X11_fewest_2 _ (List.mem_of_getElem? (i := 4) rfl)) rfl (gk_cons (gm_X11_fewest_2 _ (List.mem_of_getElem? (i := 5) rfl)) rfl (gk_cons (gm_X11_fewest_2 _ (List.mem_of_getElem? (i := 6) rfl)) rfl (gk_cons (gm_X11_fewest_2 _ (List.mem_of_getElem? (i := 7) rfl)) rfl (gk_cons (gm_X11_fewest_2 _ (List.mem_of_getElem? (i := 8) rfl)) rfl (gk_cons (gm_X11_fewest_2 _ (List.mem_of_getElem? (i := 9) rfl)) rfl (gk_cons (gm_X11_fewest_2 _ (List.mem_of_getElem? (i := 10) rfl)) rfl (gk_cons (gm_X11_fewest_2 _ (List.mem_of_getElem? (i := 11) rfl)) rfl gk_nil))))))))))))))))))))))))
theorem gk_X11_fewest_X11_holdsAll_r2 : GoodIn wsX11_fewest wsX11_holdsAll_r2 := (gk_cons (gm_X11_fewest_2 _ (List.mem_of_getElem? (i := 12) rfl)) rfl (gk_cons (gm_X11_fewest_0 _ (List.mem_of_getElem? (i := 0) rfl)) rfl (gk_cons (gm_X11_fewest_0 _ (List.mem_of_getElem? (i := 21) rfl)) rfl (gk_cons (gm_X11_fewest_2 _ (List.mem_of_getElem? (i := 13) rfl)) rfl (gk_cons (gm_X11_fewest_2 _ (List.mem_of_getElem? (i := 14) rfl)) rfl (gk_cons (gm_X11_fewest_2 _ (List.mem_of_getElem? (i := 15) rfl)) rfl (gk_cons (gm_X11_fewest_2 _ (List.mem_of_getElem? (i := 16) rfl)) rfl (gk_cons (gm_X11_fewest_0 _ (List.mem_of_getElem? (i := 23) rfl)) rfl (gk_cons (gm_X11_fewest_1 _ (List.mem_of_getElem? (i := 0) rfl)) rfl (gk_cons (gm_X11_fewest_1 _ (List.mem_of_getElem? (i := 1) rfl)) rfl (gk_cons (gm_X11_fewest_2 _ (List.mem_of_getElem? (i := 17) rfl)) rfl (gk_cons (gm_X11_fewest_2 _ (List.mem_of_getElem? (i := 18) rfl)) rfl (gk_cons (gm_X11_fewest_2 _ (List.mem_of_getElem? (i := 19) rfl)) rfl (gk_cons (gm_X11_fewest_2 _ (List.mem_of_getElem? (i := 20) rfl)) rfl (gk_cons (gm_X11_fewest_0 _ (List.mem_of_getElem? (i := 20) rfl)) rfl (gk_cons (gm_X11_fewest_2 _ (List.mem_of_getElem? (i := 21) rfl)) rfl (gk_cons (gm_X11_fewest_2 _ (List.mem_of_getElem? (i := 22) rfl)) rfl (gk_cons (gm_X11_fewest_2 _ (List.mem_of_getElem? (i := 23) rfl)) rfl (gk_cons (gm_X11_fewest_3 _ (List.mem_of_getElem? (i := 0) rfl)) rfl (gk_cons (gm_X11_fewest_0 _ (List.mem_of_getElem? (i := 22) rfl)) rfl (gk_cons (gm_X11_fewest_0 _ (List.mem_of_getElem? (i := 19) rfl)) rfl (gk_cons (gm_X11_fewest_3 _ (List.mem_of_getElem? (i := 1) rfl)) rfl (gk_cons (gm_X11_fewest_3 _ (List.mem_of_getElem? (i := 2) rfl)) rfl (gk_cons (gm_X11_fewest_3 _ (List.mem_of_getElem? (i := 3) rfl)) rfl gk_nil))))))))))))))))))))))))
theorem gk_X11_fewest_X11_holdsAll_r3 : GoodIn wsX11_fewest wsX11_holdsAll_r3 := (gk_cons (gm_X11_fewest_3 _ (List.mem_of_getElem? (i := 4) rfl)) rfl (gk_cons (gm_X11_fewest_3 _ (List.mem_of_getElem? (i := 5) rfl)) rfl (gk_cons (gm_X11_fewest_3 _ (List.mem_of_getElem? (i := 6) rfl)) rfl (gk_cons (gm_X11_fewest_3 _ (List.mem_of_getElem? (i := 7) rfl)) rfl (gk_cons (gm_X11_fewest_3 _ (List.mem_of_getElem? (i := 8) rfl)) rfl (gk_cons (gm_X11_fewest_3 _ (List.mem_of_getElem? (i := 9) rfl)) rfl (gk_cons (gm_X11_fewest_3 _ (List.mem_of_getElem? (i := 10) rfl)) rfl (gk_cons (gm_X11_fewest_3 _ (List.mem_of_getElem? (i := 11) rfl)) rfl (gk_cons (gm_X11_fewest_3 _ (List.mem_of_getElem? (i := 12) rfl)) rfl (gk_cons (gm_X11_fewest_3 _ (List.mem_of_getElem? (i := 13) rfl)) rfl (gk_cons (gm_X11_fewest_3 _ (List.mem_of_getElem? (i := 14) rfl)) rfl (gk_cons (gm_X11_fewest_3 _ (List.mem_of_getElem? (i := 15) rfl)) rfl (gk_cons (gm_X11_fewest_3 _ (List.mem_of_getElem? (i := 16) rfl)) rfl (gk_cons (gm_X11_fewest_3 _ (List.mem_of_getElem? (i := 17) rfl)) rfl (gk_cons (gm_X11_fewest_3 _ (List.mem_of_getElem? (i := 18) rfl)) rfl (gk_cons (gm_X11_fewest_3 _ (List.mem_of_getElem? (i := 19) rfl)) rfl (gk_cons (gm_X11_fewest_3 _ (List.mem_of_getElem? (i := 20) rfl)) rfl (gk_cons (gm_X11_fewest_3 _ (List.mem_of_getElem? (i := 21) rfl)) rfl (gk_cons (gm_X11_fewest_3 _ (List.mem_of_getElem? (i := 22) rfl)) rfl (gk_cons (gm_X11_fewest_3 _ (List.mem_of_getElem? (i := 23) rfl)) rfl (gk_cons (gm_X11_fewest_4 _ (List.mem_of_getElem? (i := 0) rfl)) rfl (gk_cons (gm_X11_fewest_4 _ (List.mem_of_getElem? (i := 1) rfl)) rfl gk_nil))))))))))))))))))))))
theorem ggX11_fewest_X11_holdsAll : GoodIn wsX11_fewest wsX11_holdsAll := gk_cons (gm_X11_fewest_1 _ (List.mem_of_getElem? (i := 12) rfl)) rfl (goodIn_app (goodIn_app gk_X11_fewest_X11_holdsAll_r1 (goodIn_app gk_X11_fewest_X11_holdsAll_r2 gk_X11_fewest_X11_holdsAll_r3)) (goodIn_sub gm_X11_fewest_5 ag_wsX110))
theorem gX11_fewest_X11_holdsAll : GoodIn wsX11_fewest (wsV RX11 209 RX11 yX11_holdsAll wsX11_holdsAll) := goodIn_app (gk_cons (gm_X11_fewest_1 _ (List.mem_of_getElem? (i := 9) rfl)) rfl (gk_cons (gm_X11_fewest_1 _ (List.mem_of_getElem? (i := 10) rfl)) rfl (gk_cons (gm_X11_fewest_1 _ (List.mem_of_getElem? (i := 11) rfl)) rfl (gk_cons (gm_X11_fewest_0 _ (List.mem_of_getElem? (i := 4) rfl)) rfl gk_nil)))) ggX11_fewest_X11_holdsAll
theorem ggX11_fewest_X11_copies : GoodIn wsX11_fewest wsX11_copies := gk_cons (gm_X11_fewest_4 _ (List.mem_of_getElem? (i := 5) rfl)) rfl (goodIn_app (gk_cons (gm_X11_fewest_0 _ (List.mem_of_getElem? (i := 0) rfl)) rfl (gk_cons (gm_X11_fewest_0 _ (List.mem_of_getElem? (i := 19) rfl)) rfl (gk_cons (gm_X11_fewest_0 _ (List.mem_of_getElem? (i := 20) rfl)) rfl (gk_cons (gm_X11_fewest_0 _ (List.mem_of_getElem? (i := 21) rfl)) rfl (gk_cons (gm_X11_fewest_0 _ (List.mem_of_getElem? (i := 22) rfl)) rfl (gk_cons (gm_X11_fewest_0 _ (List.mem_of_getElem? (i := 23) rfl)) rfl (gk_cons (gm_X11_fewest_1 _ (List.mem_of_getElem? (i := 0) rfl)) rfl (gk_cons (gm_X11_fewest_0 _ (List.mem_of_getElem? (i := 4) rfl)) rfl (gk_cons (gm_X11_fewest_1 _ (List.mem_of_getElem? (i := 1) rfl)) rfl (gk_cons (gm_X11_fewest_0 _ (List.mem_of_getElem? (i := 15) rfl)) rfl (gk_cons (gm_X11_fewest_0 _ (List.mem_of_getElem? (i := 16) rfl)) rfl (gk_cons (gm_X11_fewest_0 _ (List.mem_of_getElem? (i := 17) rfl)) rfl (gk_cons (gm_X11_fewest_0 _ (List.mem_of_getElem? (i := 18) rfl)) rfl gk_nil))))))))))))) (goodIn_sub gm_X11_fewest_5 ag_wsX110))
theorem gX11_fewest_X11_copies : GoodIn wsX11_fewest (wsV RX11 190 RX11 yX11_copies wsX11_copies) := goodIn_app (gk_cons (gm_X11_fewest_4 _ (List.mem_of_getElem? (i := 2) rfl)) rfl (gk_cons (gm_X11_fewest_4 _ (List.mem_of_getElem? (i := 3) rfl)) rfl (gk_cons (gm_X11_fewest_4 _ (List.mem_of_getElem? (i := 4) rfl)) rfl (gk_cons (gm_X11_fewest_0 _ (List.mem_of_getElem? (i := 4) rfl)) rfl gk_nil)))) ggX11_fewest_X11_copies
theorem dX11_fewest_0 : decode cX11_fewest 0 = .ok (.aload_n 0, 1) := by decide +kernel
theorem dX11_fewest_1 : decode cX11_fewest 1 = .ok (.iload_n 1, 1) := by decide +kernel
theorem dX11_fewest_2 : decode cX11_fewest 2 = .ok (.invokevirtual 79, 3) := by decide +kernel
theorem dX11_fewest_5 : decode cX11_fewest 5 = .ok (.ifCond .eq 11, 3) := by decide +kernel
theorem dX11_fewest_8 : decode cX11_fewest 8 = .ok (.aload_n 0, 1) := by decide +kernel
theorem dX11_fewest_9 : decode cX11_fewest 9 = .ok (.iload_n 2, 1) := by decide +kernel
theorem dX11_fewest_10 : decode cX11_fewest 10 = .ok (.invokevirtual 83, 3) := by decide +kernel
theorem dX11_fewest_13 : decode cX11_fewest 13 = .ok (.ifCond .ne 5, 3) := by decide +kernel
theorem dX11_fewest_16 : decode cX11_fewest 16 = .ok (.iconst (-1), 1) := by decide +kernel
theorem dX11_fewest_17 : decode cX11_fewest 17 = .ok (.ireturn, 1) := by decide +kernel
theorem dX11_fewest_18 : decode cX11_fewest 18 = .ok (.iconst 1, 1) := by decide +kernel
theorem dX11_fewest_19 : decode cX11_fewest 19 = .ok (.istore_n 3, 1) := by decide +kernel
theorem dX11_fewest_20 : decode cX11_fewest 20 = .ok (.iload_n 3, 1) := by decide +kernel
theorem dX11_fewest_21 : decode cX11_fewest 21 = .ok (.bipush 6, 2) := by decide +kernel
theorem dX11_fewest_23 : decode cX11_fewest 23 = .ok (.if_icmp .ge 123, 3) := by decide +kernel
theorem dX11_fewest_26 : decode cX11_fewest 26 = .ok (.iconst 0, 1) := by decide +kernel
theorem dX11_fewest_27 : decode cX11_fewest 27 = .ok (.istore 4, 2) := by decide +kernel
theorem dX11_fewest_29 : decode cX11_fewest 29 = .ok (.iload 4, 2) := by decide +kernel
theorem dX11_fewest_31 : decode cX11_fewest 31 = .ok (.iconst 1, 1) := by decide +kernel
theorem dX11_fewest_32 : decode cX11_fewest 32 = .ok (.iconst 2, 1) := by decide +kernel
theorem dX11_fewest_33 : decode cX11_fewest 33 = .ok (.iload_n 3, 1) := by decide +kernel
theorem dX11_fewest_34 : decode cX11_fewest 34 = .ok (.imul, 1) := by decide +kernel
theorem dX11_fewest_35 : decode cX11_fewest 35 = .ok (.ishl, 1) := by decide +kernel
theorem dX11_fewest_36 : decode cX11_fewest 36 = .ok (.if_icmp .ge 104, 3) := by decide +kernel
theorem dX11_fewest_39 : decode cX11_fewest 39 = .ok (.aload_n 0, 1) := by decide +kernel
theorem dX11_fewest_40 : decode cX11_fewest 40 = .ok (.getfield 35, 3) := by decide +kernel
theorem dX11_fewest_43 : decode cX11_fewest 43 = .ok (.iconst 4, 1) := by decide +kernel
theorem dX11_fewest_44 : decode cX11_fewest 44 = .ok (.iconst 0, 1) := by decide +kernel
theorem dX11_fewest_45 : decode cX11_fewest 45 = .ok (.iastore, 1) := by decide +kernel
theorem dX11_fewest_46 : decode cX11_fewest 46 = .ok (.iconst 0, 1) := by decide +kernel
theorem dX11_fewest_47 : decode cX11_fewest 47 = .ok (.istore 5, 2) := by decide +kernel
theorem dX11_fewest_49 : decode cX11_fewest 49 = .ok (.iload 5, 2) := by decide +kernel
theorem dX11_fewest_51 : decode cX11_fewest 51 = .ok (.iconst 2, 1) := by decide +kernel
theorem dX11_fewest_52 : decode cX11_fewest 52 = .ok (.iload_n 3, 1) := by decide +kernel
theorem dX11_fewest_53 : decode cX11_fewest 53 = .ok (.imul, 1) := by decide +kernel
theorem dX11_fewest_54 : decode cX11_fewest 54 = .ok (.if_icmp .ge 51, 3) := by decide +kernel
theorem dX11_fewest_57 : decode cX11_fewest 57 = .ok (.iload 5, 2) := by decide +kernel
theorem dX11_fewest_59 : decode cX11_fewest 59 = .ok (.iload_n 3, 1) := by decide +kernel
theorem dX11_fewest_60 : decode cX11_fewest 60 = .ok (.if_icmp .ge 8, 3) := by decide +kernel
theorem dX11_fewest_63 : decode cX11_fewest 63 = .ok (.iload 5, 2) := by decide +kernel
theorem dX11_fewest_65 : decode cX11_fewest 65 = .ok (.goto 11, 3) := by decide +kernel
theorem dX11_fewest_68 : decode cX11_fewest 68 = .ok (.iconst 2, 1) := by decide +kernel
theorem dX11_fewest_69 : decode cX11_fewest 69 = .ok (.iload_n 3, 1) := by decide +kernel
theorem dX11_fewest_70 : decode cX11_fewest 70 = .ok (.imul, 1) := by decide +kernel
theorem dX11_fewest_71 : decode cX11_fewest 71 = .ok (.iconst 1, 1) := by decide +kernel
theorem dX11_fewest_72 : decode cX11_fewest 72 = .ok (.isub, 1) := by decide +kernel
theorem dX11_fewest_73 : decode cX11_fewest 73 = .ok (.iload 5, 2) := by decide +kernel
theorem dX11_fewest_75 : decode cX11_fewest 75 = .ok (.isub, 1) := by decide +kernel
theorem dX11_fewest_76 : decode cX11_fewest 76 = .ok (.istore 6, 2) := by decide +kernel
theorem dX11_fewest_78 : decode cX11_fewest 78 = .ok (.aload_n 0, 1) := by decide +kernel
theorem dX11_fewest_79 : decode cX11_fewest 79 = .ok (.iconst 4, 1) := by decide +kernel
theorem dX11_fewest_80 : decode cX11_fewest 80 = .ok (.iload_n 2, 1) := by decide +kernel
theorem dX11_fewest_81 : decode cX11_fewest 81 = .ok (.iload 4, 2) := by decide +kernel
theorem dX11_fewest_83 : decode cX11_fewest 83 = .ok (.iconst 2, 1) := by decide +kernel
theorem dX11_fewest_84 : decode cX11_fewest 84 = .ok (.iload_n 3, 1) := by decide +kernel
theorem dX11_fewest_85 : decode cX11_fewest 85 = .ok (.iconst 1, 1) := by decide +kernel
theorem dX11_fewest_86 : decode cX11_fewest 86 = .ok (.isub, 1) := by decide +kernel
theorem dX11_fewest_87 : decode cX11_fewest 87 = .ok (.iload 6, 2) := by decide +kernel
theorem dX11_fewest_89 : decode cX11_fewest 89 = .ok (.isub, 1) := by decide +kernel
theorem dX11_fewest_90 : decode cX11_fewest 90 = .ok (.imul, 1) := by decide +kernel
theorem dX11_fewest_91 : decode cX11_fewest 91 = .ok (.ishr, 1) := by decide +kernel
theorem dX11_fewest_92 : decode cX11_fewest 92 = .ok (.iconst 3, 1) := by decide +kernel
theorem dX11_fewest_93 : decode cX11_fewest 93 = .ok (.iand, 1) := by decide +kernel
theorem dX11_fewest_94 : decode cX11_fewest 94 = .ok (.iconst 1, 1) := by decide +kernel
theorem dX11_fewest_95 : decode cX11_fewest 95 = .ok (.iconst 0, 1) := by decide +kernel
theorem dX11_fewest_96 : decode cX11_fewest 96 = .ok (.invokevirtual 90, 3) := by decide +kernel
theorem dX11_fewest_99 : decode cX11_fewest 99 = .ok (.iinc 5 1, 3) := by decide +kernel
theorem dX11_fewest_102 : decode cX11_fewest 102 = .ok (.goto (-53), 3) := by decide +kernel
theorem dX11_fewest_105 : decode cX11_fewest 105 = .ok (.aload_n 0, 1) := by decide +kernel
theorem dX11_fewest_106 : decode cX11_fewest 106 = .ok (.iconst 4, 1) := by decide +kernel
theorem dX11_fewest_107 : decode cX11_fewest 107 = .ok (.invokevirtual 203, 3) := by decide +kernel
theorem dX11_fewest_110 : decode cX11_fewest 110 = .ok (.ifCond .ne 24, 3) := by decide +kernel
theorem dX11_fewest_113 : decode cX11_fewest 113 = .ok (.aload_n 0, 1) := by decide +kernel
theorem dX11_fewest_114 : decode cX11_fewest 114 = .ok (.iconst 4, 1) := by decide +kernel
theorem dX11_fewest_115 : decode cX11_fewest 115 = .ok (.invokevirtual 209, 3) := by decide +kernel
theorem dX11_fewest_118 : decode cX11_fewest 118 = .ok (.ifCond .ne 6, 3) := by decide +kernel
theorem dX11_fewest_121 : decode cX11_fewest 121 = .ok (.goto 13, 3) := by decide +kernel
theorem dX11_fewest_124 : decode cX11_fewest 124 = .ok (.aload_n 0, 1) := by decide +kernel
theorem dX11_fewest_125 : decode cX11_fewest 125 = .ok (.iconst 4, 1) := by decide +kernel
theorem dX11_fewest_126 : decode cX11_fewest 126 = .ok (.iload_n 1, 1) := by decide +kernel
theorem dX11_fewest_127 : decode cX11_fewest 127 = .ok (.invokevirtual 190, 3) := by decide +kernel
theorem dX11_fewest_130 : decode cX11_fewest 130 = .ok (.iconst 2, 1) := by decide +kernel
theorem dX11_fewest_131 : decode cX11_fewest 131 = .ok (.iload_n 3, 1) := by decide +kernel
theorem dX11_fewest_132 : decode cX11_fewest 132 = .ok (.imul, 1) := by decide +kernel
theorem dX11_fewest_133 : decode cX11_fewest 133 = .ok (.ireturn, 1) := by decide +kernel
theorem dX11_fewest_134 : decode cX11_fewest 134 = .ok (.iinc 4 1, 3) := by decide +kernel
theorem dX11_fewest_137 : decode cX11_fewest 137 = .ok (.goto (-108), 3) := by decide +kernel
theorem dX11_fewest_140 : decode cX11_fewest 140 = .ok (.iinc 3 1, 3) := by decide +kernel
theorem dX11_fewest_143 : decode cX11_fewest 143 = .ok (.goto (-123), 3) := by decide +kernel
theorem dX11_fewest_146 : decode cX11_fewest 146 = .ok (.bipush (-3), 2) := by decide +kernel
theorem dX11_fewest_148 : decode cX11_fewest 148 = .ok (.ireturn, 1) := by decide +kernel
theorem gm_X11_dropOf_0 : ∀ w ∈ wsX110, w ∈ wsX11_dropOf := fun w h => List.mem_cons_of_mem _ (List.mem_append_right _ h)
theorem ggX11_dropOf_X11_spot : GoodIn wsX11_dropOf wsX11_spot := gk_cons (List.mem_cons_of_mem _ (List.mem_append_left _ (List.mem_of_getElem? (i := 4) rfl))) rfl gk_nil
theorem gX11_dropOf_X11_spot : GoodIn wsX11_dropOf (va_wsS RX11 86 yX11_spot wsX11_spot) := goodIn_app (gk_cons (List.mem_cons_of_mem _ (List.mem_append_left _ (List.mem_of_getElem? (i := 1) rfl))) rfl (gk_cons (List.mem_cons_of_mem _ (List.mem_append_left _ (List.mem_of_getElem? (i := 2) rfl))) rfl (gk_cons (List.mem_cons_of_mem _ (List.mem_append_left _ (List.mem_of_getElem? (i := 3) rfl))) rfl gk_nil))) ggX11_dropOf_X11_spot
theorem ggX11_dropOf_X11_isAlike : GoodIn wsX11_dropOf wsX11_isAlike := gk_cons (List.mem_cons_of_mem _ (List.mem_append_left _ (List.mem_of_getElem? (i := 8) rfl))) rfl (goodIn_app (gk_cons (List.mem_cons_of_mem _ (List.mem_append_left _ (List.mem_of_getElem? (i := 9) rfl))) rfl (gk_cons (List.mem_cons_of_mem _ (List.mem_append_left _ (List.mem_of_getElem? (i := 10) rfl))) rfl (gk_cons (List.mem_cons_of_mem _ (List.mem_append_left _ (List.mem_of_getElem? (i := 11) rfl))) rfl (gk_cons (List.mem_cons_of_mem _ (List.mem_append_left _ (List.mem_of_getElem? (i := 12) rfl))) rfl gk_nil)))) (goodIn_sub gm_X11_dropOf_0 ag_wsX110))
theorem gX11_dropOf_X11_isAlike : GoodIn wsX11_dropOf (wsV RX11 114 RX11 yX11_isAlike wsX11_isAlike) := goodIn_app (gk_cons (List.mem_cons_of_mem _ (List.mem_append_left _ (List.mem_of_getElem? (i := 5) rfl))) rfl (gk_cons (List.mem_cons_of_mem _ (List.mem_append_left _ (List.mem_of_getElem? (i := 6) rfl))) rfl (gk_cons (List.mem_cons_of_mem _ (List.mem_append_left _ (List.mem_of_getElem? (i := 7) rfl))) rfl (gk_cons (List.mem_cons_of_mem _ (List.mem_append_left _ (List.mem_of_getElem? (i := 3) rfl))) rfl gk_nil)))) ggX11_dropOf_X11_isAlike
theorem dX11_dropOf_0 : decode cX11_dropOf 0 = .ok (.iconst 0, 1) := by decide +kernel
theorem dX11_dropOf_1 : decode cX11_dropOf 1 = .ok (.istore_n 3, 1) := by decide +kernel
theorem dX11_dropOf_2 : decode cX11_dropOf 2 = .ok (.iconst 0, 1) := by decide +kernel
theorem dX11_dropOf_3 : decode cX11_dropOf 3 = .ok (.istore 4, 2) := by decide +kernel
theorem dX11_dropOf_5 : decode cX11_dropOf 5 = .ok (.iconst 0, 1) := by decide +kernel
theorem dX11_dropOf_6 : decode cX11_dropOf 6 = .ok (.istore 5, 2) := by decide +kernel
theorem dX11_dropOf_8 : decode cX11_dropOf 8 = .ok (.iload 5, 2) := by decide +kernel
theorem dX11_dropOf_10 : decode cX11_dropOf 10 = .ok (.aload_n 0, 1) := by decide +kernel
theorem dX11_dropOf_11 : decode cX11_dropOf 11 = .ok (.getfield 35, 3) := by decide +kernel
theorem dX11_dropOf_14 : decode cX11_dropOf 14 = .ok (.iload_n 1, 1) := by decide +kernel
theorem dX11_dropOf_15 : decode cX11_dropOf 15 = .ok (.iaload, 1) := by decide +kernel
theorem dX11_dropOf_16 : decode cX11_dropOf 16 = .ok (.if_icmp .ge 52, 3) := by decide +kernel
theorem dX11_dropOf_19 : decode cX11_dropOf 19 = .ok (.iload 4, 2) := by decide +kernel
theorem dX11_dropOf_21 : decode cX11_dropOf 21 = .ok (.aload_n 0, 1) := by decide +kernel
theorem dX11_dropOf_22 : decode cX11_dropOf 22 = .ok (.getfield 35, 3) := by decide +kernel
theorem dX11_dropOf_25 : decode cX11_dropOf 25 = .ok (.iload_n 2, 1) := by decide +kernel
theorem dX11_dropOf_26 : decode cX11_dropOf 26 = .ok (.iaload, 1) := by decide +kernel
theorem dX11_dropOf_27 : decode cX11_dropOf 27 = .ok (.if_icmp .ge 28, 3) := by decide +kernel
theorem dX11_dropOf_30 : decode cX11_dropOf 30 = .ok (.aload_n 0, 1) := by decide +kernel
theorem dX11_dropOf_31 : decode cX11_dropOf 31 = .ok (.iload_n 1, 1) := by decide +kernel
theorem dX11_dropOf_32 : decode cX11_dropOf 32 = .ok (.iload 5, 2) := by decide +kernel
theorem dX11_dropOf_34 : decode cX11_dropOf 34 = .ok (.invokestatic 86, 3) := by decide +kernel
theorem dX11_dropOf_37 : decode cX11_dropOf 37 = .ok (.iload_n 2, 1) := by decide +kernel
theorem dX11_dropOf_38 : decode cX11_dropOf 38 = .ok (.iload 4, 2) := by decide +kernel
theorem dX11_dropOf_40 : decode cX11_dropOf 40 = .ok (.invokestatic 86, 3) := by decide +kernel
theorem dX11_dropOf_43 : decode cX11_dropOf 43 = .ok (.invokevirtual 114, 3) := by decide +kernel
theorem dX11_dropOf_46 : decode cX11_dropOf 46 = .ok (.ifCond .eq 9, 3) := by decide +kernel
theorem dX11_dropOf_49 : decode cX11_dropOf 49 = .ok (.iinc 4 1, 3) := by decide +kernel
theorem dX11_dropOf_52 : decode cX11_dropOf 52 = .ok (.goto 10, 3) := by decide +kernel
theorem dX11_dropOf_55 : decode cX11_dropOf 55 = .ok (.iload_n 3, 1) := by decide +kernel
theorem dX11_dropOf_56 : decode cX11_dropOf 56 = .ok (.iconst 1, 1) := by decide +kernel
theorem dX11_dropOf_57 : decode cX11_dropOf 57 = .ok (.iload 5, 2) := by decide +kernel
theorem dX11_dropOf_59 : decode cX11_dropOf 59 = .ok (.ishl, 1) := by decide +kernel
theorem dX11_dropOf_60 : decode cX11_dropOf 60 = .ok (.ior, 1) := by decide +kernel
theorem dX11_dropOf_61 : decode cX11_dropOf 61 = .ok (.istore_n 3, 1) := by decide +kernel
theorem dX11_dropOf_62 : decode cX11_dropOf 62 = .ok (.iinc 5 1, 3) := by decide +kernel
theorem dX11_dropOf_65 : decode cX11_dropOf 65 = .ok (.goto (-57), 3) := by decide +kernel
theorem dX11_dropOf_68 : decode cX11_dropOf 68 = .ok (.iload 4, 2) := by decide +kernel
theorem dX11_dropOf_70 : decode cX11_dropOf 70 = .ok (.aload_n 0, 1) := by decide +kernel
theorem dX11_dropOf_71 : decode cX11_dropOf 71 = .ok (.getfield 35, 3) := by decide +kernel
theorem dX11_dropOf_74 : decode cX11_dropOf 74 = .ok (.iload_n 2, 1) := by decide +kernel
theorem dX11_dropOf_75 : decode cX11_dropOf 75 = .ok (.iaload, 1) := by decide +kernel
theorem dX11_dropOf_76 : decode cX11_dropOf 76 = .ok (.if_icmp .ne 7, 3) := by decide +kernel
theorem dX11_dropOf_79 : decode cX11_dropOf 79 = .ok (.iload_n 3, 1) := by decide +kernel
theorem dX11_dropOf_80 : decode cX11_dropOf 80 = .ok (.goto 4, 3) := by decide +kernel
theorem dX11_dropOf_83 : decode cX11_dropOf 83 = .ok (.iconst (-1), 1) := by decide +kernel
theorem dX11_dropOf_84 : decode cX11_dropOf 84 = .ok (.ireturn, 1) := by decide +kernel
theorem gm_X11_comes_0 : ∀ w ∈ wsX11_comes_r1, w ∈ wsX11_comes := fun w h => List.mem_cons_of_mem _ (List.mem_append_left _ (List.mem_append_left _ h))
theorem gm_X11_comes_1 : ∀ w ∈ wsX11_comes_r2, w ∈ wsX11_comes := fun w h => List.mem_cons_of_mem _ (List.mem_append_left _ (List.mem_append_right _ h))
theorem gm_X11_comes_2 : ∀ w ∈ wsX110, w ∈ wsX11_comes := fun w h => List.mem_cons_of_mem _ (List.mem_append_right _ h)
theorem ggX11_comes_X11_isPlate : GoodIn wsX11_comes wsX11_isPlate := gk_cons (gm_X11_comes_0 _ (List.mem_of_getElem? (i := 4) rfl)) rfl (goodIn_app (gk_cons (gm_X11_comes_0 _ (List.mem_of_getElem? (i := 5) rfl)) rfl (gk_cons (gm_X11_comes_0 _ (List.mem_of_getElem? (i := 6) rfl)) rfl (gk_cons (gm_X11_comes_0 _ (List.mem_of_getElem? (i := 7) rfl)) rfl (gk_cons (gm_X11_comes_0 _ (List.mem_of_getElem? (i := 3) rfl)) rfl (gk_cons (gm_X11_comes_0 _ (List.mem_of_getElem? (i := 8) rfl)) rfl gk_nil))))) (goodIn_sub gm_X11_comes_2 ag_wsX110))
theorem gX11_comes_X11_isPlate : GoodIn wsX11_comes (wsV RX11 79 RX11 yX11_isPlate wsX11_isPlate) := goodIn_app (gk_cons (gm_X11_comes_0 _ (List.mem_of_getElem? (i := 0) rfl)) rfl (gk_cons (gm_X11_comes_0 _ (List.mem_of_getElem? (i := 1) rfl)) rfl (gk_cons (gm_X11_comes_0 _ (List.mem_of_getElem? (i := 2) rfl)) rfl (gk_cons (gm_X11_comes_0 _ (List.mem_of_getElem? (i := 3) rfl)) rfl gk_nil)))) ggX11_comes_X11_isPlate
theorem ggX11_comes_X11_dropOf : GoodIn wsX11_comes wsX11_dropOf := gk_cons (gm_X11_comes_0 _ (List.mem_of_getElem? (i := 12) rfl)) rfl (goodIn_app (gk_cons (gm_X11_comes_0 _ (List.mem_of_getElem? (i := 13) rfl)) rfl (gk_cons (gm_X11_comes_0 _ (List.mem_of_getElem? (i := 14) rfl)) rfl (gk_cons (gm_X11_comes_0 _ (List.mem_of_getElem? (i := 15) rfl)) rfl (gk_cons (gm_X11_comes_0 _ (List.mem_of_getElem? (i := 3) rfl)) rfl (gk_cons (gm_X11_comes_0 _ (List.mem_of_getElem? (i := 16) rfl)) rfl (gk_cons (gm_X11_comes_0 _ (List.mem_of_getElem? (i := 17) rfl)) rfl (gk_cons (gm_X11_comes_0 _ (List.mem_of_getElem? (i := 18) rfl)) rfl (gk_cons (gm_X11_comes_0 _ (List.mem_of_getElem? (i := 19) rfl)) rfl (gk_cons (gm_X11_comes_0 _ (List.mem_of_getElem? (i := 20) rfl)) rfl (gk_cons (gm_X11_comes_0 _ (List.mem_of_getElem? (i := 21) rfl)) rfl (gk_cons (gm_X11_comes_0 _ (List.mem_of_getElem? (i := 22) rfl)) rfl (gk_cons (gm_X11_comes_0 _ (List.mem_of_getElem? (i := 23) rfl)) rfl (gk_cons (gm_X11_comes_1 _ (List.mem_of_getElem? (i := 0) rfl)) rfl gk_nil))))))))))))) (goodIn_sub gm_X11_comes_2 ag_wsX110))
theorem gX11_comes_X11_dropOf : GoodIn wsX11_comes (wsV RX11 212 RX11 yX11_dropOf wsX11_dropOf) := goodIn_app (gk_cons (gm_X11_comes_0 _ (List.mem_of_getElem? (i := 9) rfl)) rfl (gk_cons (gm_X11_comes_0 _ (List.mem_of_getElem? (i := 10) rfl)) rfl (gk_cons (gm_X11_comes_0 _ (List.mem_of_getElem? (i := 11) rfl)) rfl (gk_cons (gm_X11_comes_0 _ (List.mem_of_getElem? (i := 3) rfl)) rfl gk_nil)))) ggX11_comes_X11_dropOf
theorem dX11_comes_0 : decode cX11_comes 0 = .ok (.aload_n 0, 1) := by decide +kernel
theorem dX11_comes_1 : decode cX11_comes 1 = .ok (.iload_n 1, 1) := by decide +kernel
theorem dX11_comes_2 : decode cX11_comes 2 = .ok (.invokevirtual 79, 3) := by decide +kernel
theorem dX11_comes_5 : decode cX11_comes 5 = .ok (.ifCond .eq 11, 3) := by decide +kernel
theorem dX11_comes_8 : decode cX11_comes 8 = .ok (.aload_n 0, 1) := by decide +kernel
theorem dX11_comes_9 : decode cX11_comes 9 = .ok (.iload_n 2, 1) := by decide +kernel
theorem dX11_comes_10 : decode cX11_comes 10 = .ok (.invokevirtual 79, 3) := by decide +kernel
theorem dX11_comes_13 : decode cX11_comes 13 = .ok (.ifCond .ne 5, 3) := by decide +kernel
theorem dX11_comes_16 : decode cX11_comes 16 = .ok (.iconst (-1), 1) := by decide +kernel
theorem dX11_comes_17 : decode cX11_comes 17 = .ok (.ireturn, 1) := by decide +kernel
theorem dX11_comes_18 : decode cX11_comes 18 = .ok (.aload_n 0, 1) := by decide +kernel
theorem dX11_comes_19 : decode cX11_comes 19 = .ok (.iload_n 1, 1) := by decide +kernel
theorem dX11_comes_20 : decode cX11_comes 20 = .ok (.iload_n 2, 1) := by decide +kernel
theorem dX11_comes_21 : decode cX11_comes 21 = .ok (.invokevirtual 212, 3) := by decide +kernel
theorem dX11_comes_24 : decode cX11_comes 24 = .ok (.iconst (-1), 1) := by decide +kernel
theorem dX11_comes_25 : decode cX11_comes 25 = .ok (.if_icmp .ne 7, 3) := by decide +kernel
theorem dX11_comes_28 : decode cX11_comes 28 = .ok (.iconst 0, 1) := by decide +kernel
theorem dX11_comes_29 : decode cX11_comes 29 = .ok (.goto 4, 3) := by decide +kernel
theorem dX11_comes_32 : decode cX11_comes 32 = .ok (.iconst 1, 1) := by decide +kernel
theorem dX11_comes_33 : decode cX11_comes 33 = .ok (.ireturn, 1) := by decide +kernel
theorem gm_X11_drop_0 : ∀ w ∈ wsX11_drop_r1, w ∈ wsX11_drop := fun w h => List.mem_cons_of_mem _ (List.mem_append_left _ (List.mem_append_left _ h))
theorem gm_X11_drop_1 : ∀ w ∈ wsX11_drop_r2, w ∈ wsX11_drop := fun w h => List.mem_cons_of_mem _ (List.mem_append_left _ (List.mem_append_right _ h))
theorem gm_X11_drop_2 : ∀ w ∈ wsX110, w ∈ wsX11_drop := fun w h => List.mem_cons_of_mem _ (List.mem_append_right _ h)
theorem ggX11_drop_X11_isPlate : GoodIn wsX11_drop wsX11_isPlate := gk_cons (gm_X11_drop_0 _ (List.mem_of_getElem? (i := 4) rfl)) rfl (goodIn_app (gk_cons (gm_X11_drop_0 _ (List.mem_of_getElem? (i := 5) rfl)) rfl (gk_cons (gm_X11_drop_0 _ (List.mem_of_getElem? (i := 6) rfl)) rfl (gk_cons (gm_X11_drop_0 _ (List.mem_of_getElem? (i := 7) rfl)) rfl (gk_cons (gm_X11_drop_0 _ (List.mem_of_getElem? (i := 3) rfl)) rfl (gk_cons (gm_X11_drop_0 _ (List.mem_of_getElem? (i := 8) rfl)) rfl gk_nil))))) (goodIn_sub gm_X11_drop_2 ag_wsX110))
theorem gX11_drop_X11_isPlate : GoodIn wsX11_drop (wsV RX11 79 RX11 yX11_isPlate wsX11_isPlate) := goodIn_app (gk_cons (gm_X11_drop_0 _ (List.mem_of_getElem? (i := 0) rfl)) rfl (gk_cons (gm_X11_drop_0 _ (List.mem_of_getElem? (i := 1) rfl)) rfl (gk_cons (gm_X11_drop_0 _ (List.mem_of_getElem? (i := 2) rfl)) rfl (gk_cons (gm_X11_drop_0 _ (List.mem_of_getElem? (i := 3) rfl)) rfl gk_nil)))) ggX11_drop_X11_isPlate
theorem ggX11_drop_X11_dropOf : GoodIn wsX11_drop wsX11_dropOf := gk_cons (gm_X11_drop_0 _ (List.mem_of_getElem? (i := 12) rfl)) rfl (goodIn_app (gk_cons (gm_X11_drop_0 _ (List.mem_of_getElem? (i := 13) rfl)) rfl (gk_cons (gm_X11_drop_0 _ (List.mem_of_getElem? (i := 14) rfl)) rfl (gk_cons (gm_X11_drop_0 _ (List.mem_of_getElem? (i := 15) rfl)) rfl (gk_cons (gm_X11_drop_0 _ (List.mem_of_getElem? (i := 3) rfl)) rfl (gk_cons (gm_X11_drop_0 _ (List.mem_of_getElem? (i := 16) rfl)) rfl (gk_cons (gm_X11_drop_0 _ (List.mem_of_getElem? (i := 17) rfl)) rfl (gk_cons (gm_X11_drop_0 _ (List.mem_of_getElem? (i := 18) rfl)) rfl (gk_cons (gm_X11_drop_0 _ (List.mem_of_getElem? (i := 19) rfl)) rfl (gk_cons (gm_X11_drop_0 _ (List.mem_of_getElem? (i := 20) rfl)) rfl (gk_cons (gm_X11_drop_0 _ (List.mem_of_getElem? (i := 21) rfl)) rfl (gk_cons (gm_X11_drop_0 _ (List.mem_of_getElem? (i := 22) rfl)) rfl (gk_cons (gm_X11_drop_0 _ (List.mem_of_getElem? (i := 23) rfl)) rfl (gk_cons (gm_X11_drop_1 _ (List.mem_of_getElem? (i := 0) rfl)) rfl gk_nil))))))))))))) (goodIn_sub gm_X11_drop_2 ag_wsX110))
theorem gX11_drop_X11_dropOf : GoodIn wsX11_drop (wsV RX11 212 RX11 yX11_dropOf wsX11_dropOf) := goodIn_app (gk_cons (gm_X11_drop_0 _ (List.mem_of_getElem? (i := 9) rfl)) rfl (gk_cons (gm_X11_drop_0 _ (List.mem_of_getElem? (i := 10) rfl)) rfl (gk_cons (gm_X11_drop_0 _ (List.mem_of_getElem? (i := 11) rfl)) rfl (gk_cons (gm_X11_drop_0 _ (List.mem_of_getElem? (i := 3) rfl)) rfl gk_nil)))) ggX11_drop_X11_dropOf
theorem dX11_drop_0 : decode cX11_drop 0 = .ok (.aload_n 0, 1) := by decide +kernel
theorem dX11_drop_1 : decode cX11_drop 1 = .ok (.iload_n 1, 1) := by decide +kernel
theorem dX11_drop_2 : decode cX11_drop 2 = .ok (.invokevirtual 79, 3) := by decide +kernel
theorem dX11_drop_5 : decode cX11_drop 5 = .ok (.ifCond .eq 20, 3) := by decide +kernel
theorem dX11_drop_8 : decode cX11_drop 8 = .ok (.aload_n 0, 1) := by decide +kernel
theorem dX11_drop_9 : decode cX11_drop 9 = .ok (.iload_n 2, 1) := by decide +kernel
theorem dX11_drop_10 : decode cX11_drop 10 = .ok (.invokevirtual 79, 3) := by decide +kernel
theorem dX11_drop_13 : decode cX11_drop 13 = .ok (.ifCond .eq 12, 3) := by decide +kernel
theorem dX11_drop_16 : decode cX11_drop 16 = .ok (.aload_n 0, 1) := by decide +kernel
theorem dX11_drop_17 : decode cX11_drop 17 = .ok (.iload_n 1, 1) := by decide +kernel
theorem dX11_drop_18 : decode cX11_drop 18 = .ok (.iload_n 2, 1) := by decide +kernel
theorem dX11_drop_19 : decode cX11_drop 19 = .ok (.invokevirtual 212, 3) := by decide +kernel
theorem dX11_drop_22 : decode cX11_drop 22 = .ok (.goto 4, 3) := by decide +kernel
theorem dX11_drop_25 : decode cX11_drop 25 = .ok (.iconst (-1), 1) := by decide +kernel
theorem dX11_drop_26 : decode cX11_drop 26 = .ok (.ireturn, 1) := by decide +kernel
theorem gm_X11_count_0 : ∀ w ∈ wsX110, w ∈ wsX11_count := fun w h => List.mem_cons_of_mem _ (List.mem_append_right _ h)
theorem ggX11_count_X11_isPlate : GoodIn wsX11_count wsX11_isPlate := gk_cons (List.mem_cons_of_mem _ (List.mem_append_left _ (List.mem_of_getElem? (i := 8) rfl))) rfl (goodIn_app (gk_cons (List.mem_cons_of_mem _ (List.mem_append_left _ (List.mem_of_getElem? (i := 1) rfl))) rfl (gk_cons (List.mem_cons_of_mem _ (List.mem_append_left _ (List.mem_of_getElem? (i := 9) rfl))) rfl (gk_cons (List.mem_cons_of_mem _ (List.mem_append_left _ (List.mem_of_getElem? (i := 10) rfl))) rfl (gk_cons (List.mem_cons_of_mem _ (List.mem_append_left _ (List.mem_of_getElem? (i := 7) rfl))) rfl (gk_cons (List.mem_cons_of_mem _ (List.mem_append_left _ (List.mem_of_getElem? (i := 11) rfl))) rfl gk_nil))))) (goodIn_sub gm_X11_count_0 ag_wsX110))
theorem gX11_count_X11_isPlate : GoodIn wsX11_count (wsV RX11 79 RX11 yX11_isPlate wsX11_isPlate) := goodIn_app (gk_cons (List.mem_cons_of_mem _ (List.mem_append_left _ (List.mem_of_getElem? (i := 4) rfl))) rfl (gk_cons (List.mem_cons_of_mem _ (List.mem_append_left _ (List.mem_of_getElem? (i := 5) rfl))) rfl (gk_cons (List.mem_cons_of_mem _ (List.mem_append_left _ (List.mem_of_getElem? (i := 6) rfl))) rfl (gk_cons (List.mem_cons_of_mem _ (List.mem_append_left _ (List.mem_of_getElem? (i := 7) rfl))) rfl gk_nil)))) ggX11_count_X11_isPlate
theorem ggX11_count_X11_height : GoodIn wsX11_count wsX11_height := gk_cons (List.mem_cons_of_mem _ (List.mem_append_left _ (List.mem_of_getElem? (i := 15) rfl))) rfl (goodIn_app (gk_cons (List.mem_cons_of_mem _ (List.mem_append_left _ (List.mem_of_getElem? (i := 3) rfl))) rfl (gk_cons (List.mem_cons_of_mem _ (List.mem_append_left _ (List.mem_of_getElem? (i := 16) rfl))) rfl (gk_cons (List.mem_cons_of_mem _ (List.mem_append_left _ (List.mem_of_getElem? (i := 17) rfl))) rfl (gk_cons (List.mem_cons_of_mem _ (List.mem_append_left _ (List.mem_of_getElem? (i := 18) rfl))) rfl (gk_cons (List.mem_cons_of_mem _ (List.mem_append_left _ (List.mem_of_getElem? (i := 7) rfl))) rfl (gk_cons (List.mem_cons_of_mem _ (List.mem_append_left _ (List.mem_of_getElem? (i := 19) rfl))) rfl gk_nil)))))) (goodIn_sub gm_X11_count_0 ag_wsX110))
theorem gX11_count_X11_height : GoodIn wsX11_count (wsV RX11 104 RX11 yX11_height wsX11_height) := goodIn_app (gk_cons (List.mem_cons_of_mem _ (List.mem_append_left _ (List.mem_of_getElem? (i := 12) rfl))) rfl (gk_cons (List.mem_cons_of_mem _ (List.mem_append_left _ (List.mem_of_getElem? (i := 13) rfl))) rfl (gk_cons (List.mem_cons_of_mem _ (List.mem_append_left _ (List.mem_of_getElem? (i := 14) rfl))) rfl (gk_cons (List.mem_cons_of_mem _ (List.mem_append_left _ (List.mem_of_getElem? (i := 7) rfl))) rfl gk_nil)))) ggX11_count_X11_height
theorem dX11_count_0 : decode cX11_count 0 = .ok (.iload_n 1, 1) := by decide +kernel
theorem dX11_count_1 : decode cX11_count 1 = .ok (.ifCond .ne 8, 3) := by decide +kernel
theorem dX11_count_4 : decode cX11_count 4 = .ok (.aload_n 0, 1) := by decide +kernel
theorem dX11_count_5 : decode cX11_count 5 = .ok (.getfield 73, 3) := by decide +kernel
theorem dX11_count_8 : decode cX11_count 8 = .ok (.ireturn, 1) := by decide +kernel
theorem dX11_count_9 : decode cX11_count 9 = .ok (.iload_n 1, 1) := by decide +kernel
theorem dX11_count_10 : decode cX11_count 10 = .ok (.iconst 1, 1) := by decide +kernel
theorem dX11_count_11 : decode cX11_count 11 = .ok (.if_icmp .ne 8, 3) := by decide +kernel
theorem dX11_count_14 : decode cX11_count 14 = .ok (.aload_n 0, 1) := by decide +kernel
theorem dX11_count_15 : decode cX11_count 15 = .ok (.getfield 76, 3) := by decide +kernel
theorem dX11_count_18 : decode cX11_count 18 = .ok (.ireturn, 1) := by decide +kernel
theorem dX11_count_19 : decode cX11_count 19 = .ok (.iload_n 1, 1) := by decide +kernel
theorem dX11_count_20 : decode cX11_count 20 = .ok (.iconst 2, 1) := by decide +kernel
theorem dX11_count_21 : decode cX11_count 21 = .ok (.if_icmp .ne 8, 3) := by decide +kernel
theorem dX11_count_24 : decode cX11_count 24 = .ok (.aload_n 0, 1) := by decide +kernel
theorem dX11_count_25 : decode cX11_count 25 = .ok (.getfield 206, 3) := by decide +kernel
theorem dX11_count_28 : decode cX11_count 28 = .ok (.ireturn, 1) := by decide +kernel
theorem dX11_count_29 : decode cX11_count 29 = .ok (.aload_n 0, 1) := by decide +kernel
theorem dX11_count_30 : decode cX11_count 30 = .ok (.iload_n 1, 1) := by decide +kernel
theorem dX11_count_31 : decode cX11_count 31 = .ok (.bipush 10, 2) := by decide +kernel
theorem dX11_count_33 : decode cX11_count 33 = .ok (.isub, 1) := by decide +kernel
theorem dX11_count_34 : decode cX11_count 34 = .ok (.invokevirtual 79, 3) := by decide +kernel
theorem dX11_count_37 : decode cX11_count 37 = .ok (.ifCond .eq 13, 3) := by decide +kernel
theorem dX11_count_40 : decode cX11_count 40 = .ok (.aload_n 0, 1) := by decide +kernel
theorem dX11_count_41 : decode cX11_count 41 = .ok (.getfield 35, 3) := by decide +kernel
theorem dX11_count_44 : decode cX11_count 44 = .ok (.iload_n 1, 1) := by decide +kernel
theorem dX11_count_45 : decode cX11_count 45 = .ok (.bipush 10, 2) := by decide +kernel
theorem dX11_count_47 : decode cX11_count 47 = .ok (.isub, 1) := by decide +kernel
theorem dX11_count_48 : decode cX11_count 48 = .ok (.iaload, 1) := by decide +kernel
theorem dX11_count_49 : decode cX11_count 49 = .ok (.ireturn, 1) := by decide +kernel
theorem dX11_count_50 : decode cX11_count 50 = .ok (.aload_n 0, 1) := by decide +kernel
theorem dX11_count_51 : decode cX11_count 51 = .ok (.iload_n 1, 1) := by decide +kernel
theorem dX11_count_52 : decode cX11_count 52 = .ok (.bipush 20, 2) := by decide +kernel
theorem dX11_count_54 : decode cX11_count 54 = .ok (.isub, 1) := by decide +kernel
theorem dX11_count_55 : decode cX11_count 55 = .ok (.invokevirtual 79, 3) := by decide +kernel
theorem dX11_count_58 : decode cX11_count 58 = .ok (.ifCond .eq 14, 3) := by decide +kernel
theorem dX11_count_61 : decode cX11_count 61 = .ok (.aload_n 0, 1) := by decide +kernel
theorem dX11_count_62 : decode cX11_count 62 = .ok (.iload_n 1, 1) := by decide +kernel
theorem dX11_count_63 : decode cX11_count 63 = .ok (.bipush 20, 2) := by decide +kernel
theorem dX11_count_65 : decode cX11_count 65 = .ok (.isub, 1) := by decide +kernel
theorem dX11_count_66 : decode cX11_count 66 = .ok (.invokevirtual 104, 3) := by decide +kernel
theorem dX11_count_69 : decode cX11_count 69 = .ok (.goto 4, 3) := by decide +kernel
theorem dX11_count_72 : decode cX11_count 72 = .ok (.iconst (-1), 1) := by decide +kernel
theorem dX11_count_73 : decode cX11_count 73 = .ok (.ireturn, 1) := by decide +kernel
theorem dJ9_abs_067f4_0 : decode cJ9_abs_067f4 0 = .ok (.lload_n 0, 1) := by decide +kernel
theorem dJ9_abs_067f4_1 : decode cJ9_abs_067f4 1 = .ok (.lconst 0, 1) := by decide +kernel
theorem dJ9_abs_067f4_2 : decode cJ9_abs_067f4 2 = .ok (.lcmp, 1) := by decide +kernel
theorem dJ9_abs_067f4_3 : decode cJ9_abs_067f4 3 = .ok (.ifCond .ge 8, 3) := by decide +kernel
theorem dJ9_abs_067f4_6 : decode cJ9_abs_067f4 6 = .ok (.lload_n 0, 1) := by decide +kernel
theorem dJ9_abs_067f4_7 : decode cJ9_abs_067f4 7 = .ok (.lneg, 1) := by decide +kernel
theorem dJ9_abs_067f4_8 : decode cJ9_abs_067f4 8 = .ok (.goto 4, 3) := by decide +kernel
theorem dJ9_abs_067f4_11 : decode cJ9_abs_067f4 11 = .ok (.lload_n 0, 1) := by decide +kernel
theorem dJ9_abs_067f4_12 : decode cJ9_abs_067f4 12 = .ok (.lreturn, 1) := by decide +kernel
theorem dJ7_fill_d0a16_0 : decode cJ7_fill_d0a16 0 = .ok (.iconst 0, 1) := by decide +kernel
theorem dJ7_fill_d0a16_1 : decode cJ7_fill_d0a16 1 = .ok (.istore_n 3, 1) := by decide +kernel
theorem dJ7_fill_d0a16_2 : decode cJ7_fill_d0a16 2 = .ok (.aload_n 0, 1) := by decide +kernel
theorem dJ7_fill_d0a16_3 : decode cJ7_fill_d0a16 3 = .ok (.arraylength, 1) := by decide +kernel
theorem dJ7_fill_d0a16_4 : decode cJ7_fill_d0a16 4 = .ok (.istore 4, 2) := by decide +kernel
theorem dJ7_fill_d0a16_6 : decode cJ7_fill_d0a16 6 = .ok (.iload_n 3, 1) := by decide +kernel
theorem dJ7_fill_d0a16_7 : decode cJ7_fill_d0a16 7 = .ok (.iload 4, 2) := by decide +kernel
theorem dJ7_fill_d0a16_9 : decode cJ7_fill_d0a16 9 = .ok (.if_icmp .ge 13, 3) := by decide +kernel
theorem dJ7_fill_d0a16_12 : decode cJ7_fill_d0a16 12 = .ok (.aload_n 0, 1) := by decide +kernel
theorem dJ7_fill_d0a16_13 : decode cJ7_fill_d0a16 13 = .ok (.iload_n 3, 1) := by decide +kernel
theorem dJ7_fill_d0a16_14 : decode cJ7_fill_d0a16 14 = .ok (.lload_n 1, 1) := by decide +kernel
theorem dJ7_fill_d0a16_15 : decode cJ7_fill_d0a16 15 = .ok (.lastore, 1) := by decide +kernel
theorem dJ7_fill_d0a16_16 : decode cJ7_fill_d0a16 16 = .ok (.iinc 3 1, 3) := by decide +kernel
theorem dJ7_fill_d0a16_19 : decode cJ7_fill_d0a16 19 = .ok (.goto (-13), 3) := by decide +kernel
theorem dJ7_fill_d0a16_22 : decode cJ7_fill_d0a16 22 = .ok (.return_, 1) := by decide +kernel
theorem dJ7_fill_53178_0 : decode cJ7_fill_53178 0 = .ok (.iconst 0, 1) := by decide +kernel
theorem dJ7_fill_53178_1 : decode cJ7_fill_53178 1 = .ok (.istore_n 2, 1) := by decide +kernel
theorem dJ7_fill_53178_2 : decode cJ7_fill_53178 2 = .ok (.aload_n 0, 1) := by decide +kernel
theorem dJ7_fill_53178_3 : decode cJ7_fill_53178 3 = .ok (.arraylength, 1) := by decide +kernel
theorem dJ7_fill_53178_4 : decode cJ7_fill_53178 4 = .ok (.istore_n 3, 1) := by decide +kernel
theorem dJ7_fill_53178_5 : decode cJ7_fill_53178 5 = .ok (.iload_n 2, 1) := by decide +kernel
theorem dJ7_fill_53178_6 : decode cJ7_fill_53178 6 = .ok (.iload_n 3, 1) := by decide +kernel
theorem dJ7_fill_53178_7 : decode cJ7_fill_53178 7 = .ok (.if_icmp .ge 13, 3) := by decide +kernel
theorem dJ7_fill_53178_10 : decode cJ7_fill_53178 10 = .ok (.aload_n 0, 1) := by decide +kernel
theorem dJ7_fill_53178_11 : decode cJ7_fill_53178 11 = .ok (.iload_n 2, 1) := by decide +kernel
theorem dJ7_fill_53178_12 : decode cJ7_fill_53178 12 = .ok (.iload_n 1, 1) := by decide +kernel
theorem dJ7_fill_53178_13 : decode cJ7_fill_53178 13 = .ok (.iastore, 1) := by decide +kernel
theorem dJ7_fill_53178_14 : decode cJ7_fill_53178 14 = .ok (.iinc 2 1, 3) := by decide +kernel
theorem dJ7_fill_53178_17 : decode cJ7_fill_53178 17 = .ok (.goto (-12), 3) := by decide +kernel
theorem dJ7_fill_53178_20 : decode cJ7_fill_53178 20 = .ok (.return_, 1) := by decide +kernel
abbrev vwCl : List vw_C := [(RX0, TX0, 4), (RX1, TX1, 2), (RX2, TX2, 13), (RX3, TX3, 2), (RX4, TX4, 3), (RX5, TX5, 4), (RX6, TX6, 4), (RX7, TX7, 2), (RX8, TX8, 7), (RX9, TX9, 7), (RX10, TX10, 11), (RX11, TX11, 31)]
