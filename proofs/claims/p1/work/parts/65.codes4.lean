/-! decode rows -/
theorem dX8_save_0 : decode cX8_save 0 = .ok (.iload_n 1, 1) := by decide +kernel
theorem dX8_save_1 : decode cX8_save 1 = .ok (.ifCond .lt 8, 3) := by decide +kernel
theorem dX8_save_11 : decode cX8_save 11 = .ok (.ireturn, 1) := by decide +kernel
theorem dX8_save_12 : decode cX8_save 12 = .ok (.aload_n 0, 1) := by decide +kernel
theorem dX8_save_13 : decode cX8_save 13 = .ok (.getfield 37, 3) := by decide +kernel
theorem dX8_save_16 : decode cX8_save 16 = .ok (.iload_n 1, 1) := by decide +kernel
theorem dX8_save_17 : decode cX8_save 17 = .ok (.aaload, 1) := by decide +kernel
theorem dX8_save_18 : decode cX8_save 18 = .ok (.astore_n 2, 1) := by decide +kernel
theorem dX8_save_19 : decode cX8_save 19 = .ok (.aload_n 2, 1) := by decide +kernel
theorem dX8_save_20 : decode cX8_save 20 = .ok (.ifnonnull 18, 3) := by decide +kernel
theorem dX8_save_23 : decode cX8_save 23 = .ok (.new 30, 3) := by decide +kernel
theorem dX8_save_26 : decode cX8_save 26 = .ok (.dup, 1) := by decide +kernel
theorem dX8_save_27 : decode cX8_save 27 = .ok (.invokespecial 32, 3) := by decide +kernel
theorem dX8_save_30 : decode cX8_save 30 = .ok (.astore_n 2, 1) := by decide +kernel
theorem dX8_save_31 : decode cX8_save 31 = .ok (.aload_n 0, 1) := by decide +kernel
theorem dX8_save_32 : decode cX8_save 32 = .ok (.getfield 37, 3) := by decide +kernel
theorem dX8_save_35 : decode cX8_save 35 = .ok (.iload_n 1, 1) := by decide +kernel
theorem dX8_save_36 : decode cX8_save 36 = .ok (.aload_n 2, 1) := by decide +kernel
theorem dX8_save_37 : decode cX8_save 37 = .ok (.aastore, 1) := by decide +kernel
theorem dX8_save_38 : decode cX8_save 38 = .ok (.iconst 0, 1) := by decide +kernel
theorem dX8_save_39 : decode cX8_save 39 = .ok (.istore_n 3, 1) := by decide +kernel
theorem dX8_save_4 : decode cX8_save 4 = .ok (.iload_n 1, 1) := by decide +kernel
theorem dX8_save_40 : decode cX8_save 40 = .ok (.iload_n 3, 1) := by decide +kernel
theorem dX8_save_41 : decode cX8_save 41 = .ok (.bipush 14, 2) := by decide +kernel
theorem dX8_save_43 : decode cX8_save 43 = .ok (.if_icmp .ge 22, 3) := by decide +kernel
theorem dX8_save_46 : decode cX8_save 46 = .ok (.aload_n 2, 1) := by decide +kernel
theorem dX8_save_47 : decode cX8_save 47 = .ok (.iload_n 3, 1) := by decide +kernel
theorem dX8_save_48 : decode cX8_save 48 = .ok (.aload_n 0, 1) := by decide +kernel
theorem dX8_save_49 : decode cX8_save 49 = .ok (.getfield 33, 3) := by decide +kernel
theorem dX8_save_5 : decode cX8_save 5 = .ok (.iconst 2, 1) := by decide +kernel
theorem dX8_save_52 : decode cX8_save 52 = .ok (.iload_n 3, 1) := by decide +kernel
theorem dX8_save_53 : decode cX8_save 53 = .ok (.invokevirtual 107, 3) := by decide +kernel
theorem dX8_save_56 : decode cX8_save 56 = .ok (.invokevirtual 289, 3) := by decide +kernel
theorem dX8_save_59 : decode cX8_save 59 = .ok (.iinc 3 1, 3) := by decide +kernel
theorem dX8_save_6 : decode cX8_save 6 = .ok (.if_icmp .lt 6, 3) := by decide +kernel
theorem dX8_save_62 : decode cX8_save 62 = .ok (.goto (-22), 3) := by decide +kernel
theorem dX8_save_65 : decode cX8_save 65 = .ok (.aload_n 2, 1) := by decide +kernel
theorem dX8_save_66 : decode cX8_save 66 = .ok (.invokevirtual 115, 3) := by decide +kernel
theorem dX8_save_69 : decode cX8_save 69 = .ok (.ireturn, 1) := by decide +kernel
theorem dX8_save_9 : decode cX8_save 9 = .ok (.bipush (-2), 2) := by decide +kernel
theorem ggX8_save_X5_at : GoodIn wsX8_save wsX5_at := goodIn_r _ [16, 12, 47] (by decide +kernel) (by decide +kernel)
theorem ggX8_save_X5_init : GoodIn wsX8_save wsX5_init := goodIn_r _ [7, 8, 9, 10, 11, 12, 47] (by decide +kernel) (by decide +kernel)
theorem ggX8_save_X5_put : GoodIn wsX8_save wsX5_put := goodIn_r _ [20, 12, 47] (by decide +kernel) (by decide +kernel)
theorem ggX8_save_X5_size : GoodIn wsX8_save wsX5_size := goodIn_r _ [24, 25, 26, 27, 4, 28, 12, 29, 30, 31, 32, 33, 34, 35, 47] (by decide +kernel) (by decide +kernel)
theorem gX8_save_X5_at : GoodIn wsX8_save (wsV RX8 107 RX5 yX5_at wsX5_at) := goodIn_app (goodIn_of _ (by decide +kernel)) ggX8_save_X5_at
theorem gX8_save_X5_init_n32 : GoodIn wsX8_save (wsX5_init) := ggX8_save_X5_init
theorem gX8_save_X5_put : GoodIn wsX8_save (wsV RX8 289 RX5 yX5_put wsX5_put) := goodIn_app (goodIn_of _ (by decide +kernel)) ggX8_save_X5_put
theorem gX8_save_X5_size : GoodIn wsX8_save (wsV RX8 115 RX5 yX5_size wsX5_size) := goodIn_app (goodIn_of _ (by decide +kernel)) ggX8_save_X5_size
