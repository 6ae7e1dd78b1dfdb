theorem dJ6_init_d00df_0 : decode cJ6_init_d00df 0 = .ok (.aload_n 0, 1) := by decide +kernel
theorem dJ6_init_d00df_1 : decode cJ6_init_d00df 1 = .ok (.invokespecial 202, 3) := by decide +kernel
theorem dJ6_init_d00df_4 : decode cJ6_init_d00df 4 = .ok (.aload_n 0, 1) := by decide +kernel
theorem dJ6_init_d00df_5 : decode cJ6_init_d00df 5 = .ok (.iload_n 1, 1) := by decide +kernel
theorem dJ6_init_d00df_6 : decode cJ6_init_d00df 6 = .ok (.putfield 205, 3) := by decide +kernel
theorem dJ6_init_d00df_9 : decode cJ6_init_d00df 9 = .ok (.return_, 1) := by decide +kernel
theorem dJ6_valueOf_2dffe_0 : decode cJ6_valueOf_2dffe 0 = .ok (.iload_n 0, 1) := by decide +kernel
theorem dJ6_valueOf_2dffe_1 : decode cJ6_valueOf_2dffe 1 = .ok (.bipush (-128), 2) := by decide +kernel
theorem dJ6_valueOf_2dffe_3 : decode cJ6_valueOf_2dffe 3 = .ok (.if_icmp .lt 20, 3) := by decide +kernel
theorem dJ6_valueOf_2dffe_6 : decode cJ6_valueOf_2dffe 6 = .ok (.iload_n 0, 1) := by decide +kernel
theorem dJ6_valueOf_2dffe_7 : decode cJ6_valueOf_2dffe 7 = .ok (.getstatic 191, 3) := by decide +kernel
theorem dJ6_valueOf_2dffe_10 : decode cJ6_valueOf_2dffe 10 = .ok (.if_icmp .gt 13, 3) := by decide +kernel
theorem dJ6_valueOf_2dffe_13 : decode cJ6_valueOf_2dffe 13 = .ok (.getstatic 195, 3) := by decide +kernel
theorem dJ6_valueOf_2dffe_16 : decode cJ6_valueOf_2dffe 16 = .ok (.iload_n 0, 1) := by decide +kernel
theorem dJ6_valueOf_2dffe_17 : decode cJ6_valueOf_2dffe 17 = .ok (.sipush 128, 3) := by decide +kernel
theorem dJ6_valueOf_2dffe_20 : decode cJ6_valueOf_2dffe 20 = .ok (.iadd, 1) := by decide +kernel
theorem dJ6_valueOf_2dffe_21 : decode cJ6_valueOf_2dffe 21 = .ok (.aaload, 1) := by decide +kernel
theorem dJ6_valueOf_2dffe_22 : decode cJ6_valueOf_2dffe 22 = .ok (.areturn, 1) := by decide +kernel
theorem dJ6_valueOf_2dffe_23 : decode cJ6_valueOf_2dffe 23 = .ok (.new 1, 3) := by decide +kernel
theorem dJ6_valueOf_2dffe_26 : decode cJ6_valueOf_2dffe 26 = .ok (.dup, 1) := by decide +kernel
theorem dJ6_valueOf_2dffe_27 : decode cJ6_valueOf_2dffe 27 = .ok (.iload_n 0, 1) := by decide +kernel
theorem dJ6_valueOf_2dffe_28 : decode cJ6_valueOf_2dffe 28 = .ok (.invokespecial 199, 3) := by decide +kernel
theorem dJ6_valueOf_2dffe_31 : decode cJ6_valueOf_2dffe 31 = .ok (.areturn, 1) := by decide +kernel
theorem dJ7_fill_53178_0 : decode cJ7_fill_53178 0 = .ok (.iconst 0, 1) := by decide +kernel
theorem dJ7_fill_53178_1 : decode cJ7_fill_53178 1 = .ok (.istore_n 2, 1) := by decide +kernel
theorem dJ7_fill_53178_2 : decode cJ7_fill_53178 2 = .ok (.aload_n 0, 1) := by decide +kernel
theorem dJ7_fill_53178_3 : decode cJ7_fill_53178 3 = .ok (.arraylength, 1) := by decide +kernel
theorem dJ7_fill_53178_4 : decode cJ7_fill_53178 4 = .ok (.istore_n 3, 1) := by decide +kernel
theorem dJ7_fill_53178_5 : decode cJ7_fill_53178 5 = .ok (.iload_n 2, 1) := by decide +kernel
theorem dJ7_fill_53178_6 : decode cJ7_fill_53178 6 = .ok (.iload_n 3, 1) := by decide +kernel
theorem dJ7_fill_53178_7 : decode cJ7_fill_53178 7 = .ok (.if_icmp .ge 13, 3) := by decide +kernel
theorem dJ7_fill_53178_10 : decode cJ7_fill_53178 10 = .ok (.aload_n 0, 1) := by decide +kernel
theorem dJ7_fill_53178_11 : decode cJ7_fill_53178 11 = .ok (.iload_n 2, 1) := by decide +kernel
theorem dJ7_fill_53178_12 : decode cJ7_fill_53178 12 = .ok (.iload_n 1, 1) := by decide +kernel
theorem dJ7_fill_53178_13 : decode cJ7_fill_53178 13 = .ok (.iastore, 1) := by decide +kernel
theorem dJ7_fill_53178_14 : decode cJ7_fill_53178 14 = .ok (.iinc 2 1, 3) := by decide +kernel
theorem dJ7_fill_53178_17 : decode cJ7_fill_53178 17 = .ok (.goto (-12), 3) := by decide +kernel
theorem dJ7_fill_53178_20 : decode cJ7_fill_53178 20 = .ok (.return_, 1) := by decide +kernel
theorem dJx35411_hasNext_aae02_0 : decode cJx35411_hasNext_aae02 0 = .ok (.aload_n 0, 1) := by decide +kernel
theorem dJx35411_hasNext_aae02_1 : decode cJx35411_hasNext_aae02 1 = .ok (.getfield 25, 3) := by decide +kernel
theorem dJx35411_hasNext_aae02_4 : decode cJx35411_hasNext_aae02 4 = .ok (.aload_n 0, 1) := by decide +kernel
theorem dJx35411_hasNext_aae02_5 : decode cJx35411_hasNext_aae02 5 = .ok (.getfield 1, 3) := by decide +kernel
theorem dJx35411_hasNext_aae02_8 : decode cJx35411_hasNext_aae02 8 = .ok (.getfield 28, 3) := by decide +kernel
theorem dJx35411_hasNext_aae02_11 : decode cJx35411_hasNext_aae02 11 = .ok (.if_icmp .eq 7, 3) := by decide +kernel
theorem dJx35411_hasNext_aae02_18 : decode cJx35411_hasNext_aae02 18 = .ok (.iconst 0, 1) := by decide +kernel
theorem dJx35411_hasNext_aae02_19 : decode cJx35411_hasNext_aae02 19 = .ok (.ireturn, 1) := by decide +kernel
theorem dJx35411_init_45d68_0 : decode cJx35411_init_45d68 0 = .ok (.aload_n 0, 1) := by decide +kernel
theorem dJx35411_init_45d68_1 : decode cJx35411_init_45d68 1 = .ok (.aload_n 1, 1) := by decide +kernel
theorem dJx35411_init_45d68_2 : decode cJx35411_init_45d68 2 = .ok (.putfield 1, 3) := by decide +kernel
theorem dJx35411_init_45d68_5 : decode cJx35411_init_45d68 5 = .ok (.aload_n 0, 1) := by decide +kernel
theorem dJx35411_init_45d68_6 : decode cJx35411_init_45d68 6 = .ok (.invokespecial 7, 3) := by decide +kernel
theorem dJx35411_init_45d68_9 : decode cJx35411_init_45d68 9 = .ok (.aload_n 0, 1) := by decide +kernel
theorem dJx35411_init_45d68_10 : decode cJx35411_init_45d68 10 = .ok (.iconst (-1), 1) := by decide +kernel
theorem dJx35411_init_45d68_11 : decode cJx35411_init_45d68 11 = .ok (.putfield 13, 3) := by decide +kernel
theorem dJx35411_init_45d68_14 : decode cJx35411_init_45d68 14 = .ok (.aload_n 0, 1) := by decide +kernel
theorem dJx35411_init_45d68_15 : decode cJx35411_init_45d68 15 = .ok (.aload_n 0, 1) := by decide +kernel
theorem dJx35411_init_45d68_16 : decode cJx35411_init_45d68 16 = .ok (.getfield 1, 3) := by decide +kernel
theorem dJx35411_init_45d68_19 : decode cJx35411_init_45d68 19 = .ok (.getfield 17, 3) := by decide +kernel
theorem dJx35411_init_45d68_22 : decode cJx35411_init_45d68 22 = .ok (.putfield 22, 3) := by decide +kernel
theorem dJx35411_init_45d68_25 : decode cJx35411_init_45d68 25 = .ok (.return_, 1) := by decide +kernel
theorem dJx4a65c_add_72be8_0 : decode cJx4a65c_add_72be8 0 = .ok (.iload_n 3, 1) := by decide +kernel
theorem dJx4a65c_add_72be8_1 : decode cJx4a65c_add_72be8 1 = .ok (.aload_n 2, 1) := by decide +kernel
theorem dJx4a65c_add_72be8_2 : decode cJx4a65c_add_72be8 2 = .ok (.arraylength, 1) := by decide +kernel
theorem dJx4a65c_add_72be8_3 : decode cJx4a65c_add_72be8 3 = .ok (.if_icmp .ne 8, 3) := by decide +kernel
theorem dJx4a65c_add_72be8_6 : decode cJx4a65c_add_72be8 6 = .ok (.aload_n 0, 1) := by decide +kernel
theorem dJx4a65c_add_72be8_7 : decode cJx4a65c_add_72be8 7 = .ok (.invokevirtual 129, 3) := by decide +kernel
theorem dJx4a65c_add_72be8_10 : decode cJx4a65c_add_72be8 10 = .ok (.astore_n 2, 1) := by decide +kernel
theorem dJx4a65c_add_72be8_11 : decode cJx4a65c_add_72be8 11 = .ok (.aload_n 2, 1) := by decide +kernel
theorem dJx4a65c_add_72be8_12 : decode cJx4a65c_add_72be8 12 = .ok (.iload_n 3, 1) := by decide +kernel
theorem dJx4a65c_add_72be8_13 : decode cJx4a65c_add_72be8 13 = .ok (.aload_n 1, 1) := by decide +kernel
theorem dJx4a65c_add_72be8_14 : decode cJx4a65c_add_72be8 14 = .ok (.aastore, 1) := by decide +kernel
theorem dJx4a65c_add_72be8_15 : decode cJx4a65c_add_72be8 15 = .ok (.aload_n 0, 1) := by decide +kernel
theorem dJx4a65c_add_72be8_16 : decode cJx4a65c_add_72be8 16 = .ok (.iload_n 3, 1) := by decide +kernel
theorem dJx4a65c_add_72be8_17 : decode cJx4a65c_add_72be8 17 = .ok (.iconst 1, 1) := by decide +kernel
theorem dJx4a65c_add_72be8_18 : decode cJx4a65c_add_72be8 18 = .ok (.iadd, 1) := by decide +kernel
theorem dJx4a65c_add_72be8_19 : decode cJx4a65c_add_72be8 19 = .ok (.putfield 48, 3) := by decide +kernel
theorem dJx4a65c_add_72be8_22 : decode cJx4a65c_add_72be8 22 = .ok (.return_, 1) := by decide +kernel
theorem dJx4a65c_add_9ea2d_0 : decode cJx4a65c_add_9ea2d 0 = .ok (.aload_n 0, 1) := by decide +kernel
theorem dJx4a65c_add_9ea2d_1 : decode cJx4a65c_add_9ea2d 1 = .ok (.dup, 1) := by decide +kernel
theorem dJx4a65c_add_9ea2d_2 : decode cJx4a65c_add_9ea2d 2 = .ok (.getfield 63, 3) := by decide +kernel
theorem dJx4a65c_add_9ea2d_5 : decode cJx4a65c_add_9ea2d 5 = .ok (.iconst 1, 1) := by decide +kernel
theorem dJx4a65c_add_9ea2d_6 : decode cJx4a65c_add_9ea2d 6 = .ok (.iadd, 1) := by decide +kernel
theorem dJx4a65c_add_9ea2d_7 : decode cJx4a65c_add_9ea2d 7 = .ok (.putfield 63, 3) := by decide +kernel
theorem dJx4a65c_add_9ea2d_10 : decode cJx4a65c_add_9ea2d 10 = .ok (.aload_n 0, 1) := by decide +kernel
theorem dJx4a65c_add_9ea2d_11 : decode cJx4a65c_add_9ea2d 11 = .ok (.aload_n 1, 1) := by decide +kernel
theorem dJx4a65c_add_9ea2d_12 : decode cJx4a65c_add_9ea2d 12 = .ok (.aload_n 0, 1) := by decide +kernel
theorem dJx4a65c_add_9ea2d_13 : decode cJx4a65c_add_9ea2d 13 = .ok (.getfield 9, 3) := by decide +kernel
theorem dJx4a65c_add_9ea2d_16 : decode cJx4a65c_add_9ea2d 16 = .ok (.aload_n 0, 1) := by decide +kernel
theorem dJx4a65c_add_9ea2d_17 : decode cJx4a65c_add_9ea2d 17 = .ok (.getfield 48, 3) := by decide +kernel
theorem dJx4a65c_add_9ea2d_20 : decode cJx4a65c_add_9ea2d 20 = .ok (.invokevirtual 131, 3) := by decide +kernel
theorem dJx4a65c_add_9ea2d_23 : decode cJx4a65c_add_9ea2d 23 = .ok (.iconst 1, 1) := by decide +kernel
theorem dJx4a65c_add_9ea2d_24 : decode cJx4a65c_add_9ea2d 24 = .ok (.ireturn, 1) := by decide +kernel
theorem dJx4a65c_clear_da8c8_0 : decode cJx4a65c_clear_da8c8 0 = .ok (.aload_n 0, 1) := by decide +kernel
theorem dJx4a65c_clear_da8c8_1 : decode cJx4a65c_clear_da8c8 1 = .ok (.dup, 1) := by decide +kernel
theorem dJx4a65c_clear_da8c8_2 : decode cJx4a65c_clear_da8c8 2 = .ok (.getfield 63, 3) := by decide +kernel
theorem dJx4a65c_clear_da8c8_5 : decode cJx4a65c_clear_da8c8 5 = .ok (.iconst 1, 1) := by decide +kernel
theorem dJx4a65c_clear_da8c8_6 : decode cJx4a65c_clear_da8c8 6 = .ok (.iadd, 1) := by decide +kernel
theorem dJx4a65c_clear_da8c8_7 : decode cJx4a65c_clear_da8c8 7 = .ok (.putfield 63, 3) := by decide +kernel
theorem dJx4a65c_clear_da8c8_10 : decode cJx4a65c_clear_da8c8 10 = .ok (.aload_n 0, 1) := by decide +kernel
theorem dJx4a65c_clear_da8c8_11 : decode cJx4a65c_clear_da8c8 11 = .ok (.getfield 9, 3) := by decide +kernel
theorem dJx4a65c_clear_da8c8_14 : decode cJx4a65c_clear_da8c8 14 = .ok (.astore_n 1, 1) := by decide +kernel
theorem dJx4a65c_clear_da8c8_15 : decode cJx4a65c_clear_da8c8 15 = .ok (.aload_n 0, 1) := by decide +kernel
theorem dJx4a65c_clear_da8c8_16 : decode cJx4a65c_clear_da8c8 16 = .ok (.getfield 48, 3) := by decide +kernel
theorem dJx4a65c_clear_da8c8_19 : decode cJx4a65c_clear_da8c8 19 = .ok (.istore_n 2, 1) := by decide +kernel
theorem dJx4a65c_clear_da8c8_20 : decode cJx4a65c_clear_da8c8 20 = .ok (.aload_n 0, 1) := by decide +kernel
theorem dJx4a65c_clear_da8c8_21 : decode cJx4a65c_clear_da8c8 21 = .ok (.iconst 0, 1) := by decide +kernel
theorem dJx4a65c_clear_da8c8_22 : decode cJx4a65c_clear_da8c8 22 = .ok (.dup_x1, 1) := by decide +kernel
theorem dJx4a65c_clear_da8c8_23 : decode cJx4a65c_clear_da8c8 23 = .ok (.putfield 48, 3) := by decide +kernel
theorem dJx4a65c_clear_da8c8_26 : decode cJx4a65c_clear_da8c8 26 = .ok (.istore_n 3, 1) := by decide +kernel
theorem dJx4a65c_clear_da8c8_27 : decode cJx4a65c_clear_da8c8 27 = .ok (.iload_n 3, 1) := by decide +kernel
theorem dJx4a65c_clear_da8c8_28 : decode cJx4a65c_clear_da8c8 28 = .ok (.iload_n 2, 1) := by decide +kernel
theorem dJx4a65c_clear_da8c8_29 : decode cJx4a65c_clear_da8c8 29 = .ok (.if_icmp .ge 13, 3) := by decide +kernel
theorem dJx4a65c_clear_da8c8_42 : decode cJx4a65c_clear_da8c8 42 = .ok (.return_, 1) := by decide +kernel
theorem dJx4a65c_grow_92f84_0 : decode cJx4a65c_grow_92f84 0 = .ok (.aload_n 0, 1) := by decide +kernel
theorem dJx4a65c_grow_92f84_1 : decode cJx4a65c_grow_92f84 1 = .ok (.getfield 9, 3) := by decide +kernel
theorem dJx4a65c_grow_92f84_4 : decode cJx4a65c_grow_92f84 4 = .ok (.arraylength, 1) := by decide +kernel
theorem dJx4a65c_grow_92f84_5 : decode cJx4a65c_grow_92f84 5 = .ok (.istore_n 2, 1) := by decide +kernel
theorem dJx4a65c_grow_92f84_6 : decode cJx4a65c_grow_92f84 6 = .ok (.iload_n 2, 1) := by decide +kernel
theorem dJx4a65c_grow_92f84_7 : decode cJx4a65c_grow_92f84 7 = .ok (.ifCond .gt 13, 3) := by decide +kernel
theorem dJx4a65c_grow_92f84_10 : decode cJx4a65c_grow_92f84 10 = .ok (.aload_n 0, 1) := by decide +kernel
theorem dJx4a65c_grow_92f84_11 : decode cJx4a65c_grow_92f84 11 = .ok (.getfield 9, 3) := by decide +kernel
theorem dJx4a65c_grow_92f84_14 : decode cJx4a65c_grow_92f84 14 = .ok (.getstatic 39, 3) := by decide +kernel
theorem dJx4a65c_grow_92f84_17 : decode cJx4a65c_grow_92f84 17 = .ok (.if_acmp .eq 28, 3) := by decide +kernel
theorem dJx4a65c_grow_92f84_45 : decode cJx4a65c_grow_92f84 45 = .ok (.aload_n 0, 1) := by decide +kernel
theorem dJx4a65c_grow_92f84_46 : decode cJx4a65c_grow_92f84 46 = .ok (.bipush 10, 2) := by decide +kernel
theorem dJx4a65c_grow_92f84_48 : decode cJx4a65c_grow_92f84 48 = .ok (.iload_n 1, 1) := by decide +kernel
theorem dJx4a65c_grow_92f84_49 : decode cJx4a65c_grow_92f84 49 = .ok (.invokestatic 79, 3) := by decide +kernel
theorem dJx4a65c_grow_92f84_52 : decode cJx4a65c_grow_92f84 52 = .ok (.anewarray 7, 3) := by decide +kernel
theorem dJx4a65c_grow_92f84_55 : decode cJx4a65c_grow_92f84 55 = .ok (.dup_x1, 1) := by decide +kernel
theorem dJx4a65c_grow_92f84_56 : decode cJx4a65c_grow_92f84 56 = .ok (.putfield 9, 3) := by decide +kernel
theorem dJx4a65c_grow_92f84_59 : decode cJx4a65c_grow_92f84 59 = .ok (.areturn, 1) := by decide +kernel
theorem dJx4a65c_grow_d5877_0 : decode cJx4a65c_grow_d5877 0 = .ok (.aload_n 0, 1) := by decide +kernel
theorem dJx4a65c_grow_d5877_1 : decode cJx4a65c_grow_d5877 1 = .ok (.aload_n 0, 1) := by decide +kernel
theorem dJx4a65c_grow_d5877_2 : decode cJx4a65c_grow_d5877 2 = .ok (.getfield 48, 3) := by decide +kernel
theorem dJx4a65c_grow_d5877_5 : decode cJx4a65c_grow_d5877 5 = .ok (.iconst 1, 1) := by decide +kernel
theorem dJx4a65c_grow_d5877_6 : decode cJx4a65c_grow_d5877 6 = .ok (.iadd, 1) := by decide +kernel
theorem dJx4a65c_grow_d5877_7 : decode cJx4a65c_grow_d5877 7 = .ok (.invokevirtual 69, 3) := by decide +kernel
theorem dJx4a65c_grow_d5877_10 : decode cJx4a65c_grow_d5877 10 = .ok (.areturn, 1) := by decide +kernel
theorem dJx4a65c_init_da8c8_0 : decode cJx4a65c_init_da8c8 0 = .ok (.aload_n 0, 1) := by decide +kernel
theorem dJx4a65c_init_da8c8_1 : decode cJx4a65c_init_da8c8 1 = .ok (.invokespecial 1, 3) := by decide +kernel
theorem dJx4a65c_init_da8c8_4 : decode cJx4a65c_init_da8c8 4 = .ok (.aload_n 0, 1) := by decide +kernel
theorem dJx4a65c_init_da8c8_5 : decode cJx4a65c_init_da8c8 5 = .ok (.getstatic 39, 3) := by decide +kernel
theorem dJx4a65c_init_da8c8_8 : decode cJx4a65c_init_da8c8 8 = .ok (.putfield 9, 3) := by decide +kernel
theorem dJx4a65c_init_da8c8_11 : decode cJx4a65c_init_da8c8 11 = .ok (.return_, 1) := by decide +kernel
theorem dJx4a65c_isEmpty_aae02_0 : decode cJx4a65c_isEmpty_aae02 0 = .ok (.aload_n 0, 1) := by decide +kernel
theorem dJx4a65c_isEmpty_aae02_1 : decode cJx4a65c_isEmpty_aae02 1 = .ok (.getfield 48, 3) := by decide +kernel
theorem dJx4a65c_isEmpty_aae02_4 : decode cJx4a65c_isEmpty_aae02 4 = .ok (.ifCond .ne 7, 3) := by decide +kernel
theorem dJx4a65c_isEmpty_aae02_7 : decode cJx4a65c_isEmpty_aae02 7 = .ok (.iconst 1, 1) := by decide +kernel
theorem dJx4a65c_isEmpty_aae02_8 : decode cJx4a65c_isEmpty_aae02 8 = .ok (.goto 4, 3) := by decide +kernel
theorem dJx4a65c_isEmpty_aae02_12 : decode cJx4a65c_isEmpty_aae02 12 = .ok (.ireturn, 1) := by decide +kernel
theorem dJx4a65c_iterator_32c93_0 : decode cJx4a65c_iterator_32c93 0 = .ok (.new 267, 3) := by decide +kernel
theorem dJx4a65c_iterator_32c93_3 : decode cJx4a65c_iterator_32c93 3 = .ok (.dup, 1) := by decide +kernel
theorem dJx4a65c_iterator_32c93_4 : decode cJx4a65c_iterator_32c93 4 = .ok (.aload_n 0, 1) := by decide +kernel
theorem dJx4a65c_iterator_32c93_5 : decode cJx4a65c_iterator_32c93 5 = .ok (.invokespecial 269, 3) := by decide +kernel
theorem dJx4a65c_iterator_32c93_8 : decode cJx4a65c_iterator_32c93 8 = .ok (.areturn, 1) := by decide +kernel
theorem dJx4a65c_size_8abf5_0 : decode cJx4a65c_size_8abf5 0 = .ok (.aload_n 0, 1) := by decide +kernel
theorem dJx4a65c_size_8abf5_1 : decode cJx4a65c_size_8abf5 1 = .ok (.getfield 48, 3) := by decide +kernel
theorem dJx4a65c_size_8abf5_4 : decode cJx4a65c_size_8abf5 4 = .ok (.ireturn, 1) := by decide +kernel
theorem dJxa1e45_init_da8c8_0 : decode cJxa1e45_init_da8c8 0 = .ok (.aload_n 0, 1) := by decide +kernel
theorem dJxa1e45_init_da8c8_1 : decode cJxa1e45_init_da8c8 1 = .ok (.invokespecial 1, 3) := by decide +kernel
theorem dJxa1e45_init_da8c8_4 : decode cJxa1e45_init_da8c8 4 = .ok (.return_, 1) := by decide +kernel
theorem dJxc12de_init_da8c8_0 : decode cJxc12de_init_da8c8 0 = .ok (.aload_n 0, 1) := by decide +kernel
theorem dJxc12de_init_da8c8_1 : decode cJxc12de_init_da8c8 1 = .ok (.invokespecial 1, 3) := by decide +kernel
theorem dJxc12de_init_da8c8_4 : decode cJxc12de_init_da8c8 4 = .ok (.aload_n 0, 1) := by decide +kernel
theorem dJxc12de_init_da8c8_5 : decode cJxc12de_init_da8c8 5 = .ok (.iconst 0, 1) := by decide +kernel
theorem dJxc12de_init_da8c8_6 : decode cJxc12de_init_da8c8 6 = .ok (.putfield 7, 3) := by decide +kernel
theorem dJxc12de_init_da8c8_9 : decode cJxc12de_init_da8c8 9 = .ok (.return_, 1) := by decide +kernel
theorem dJxd2413_init_da8c8_0 : decode cJxd2413_init_da8c8 0 = .ok (.aload_n 0, 1) := by decide +kernel
theorem dJxd2413_init_da8c8_1 : decode cJxd2413_init_da8c8 1 = .ok (.invokespecial 1, 3) := by decide +kernel
theorem dJxd2413_init_da8c8_4 : decode cJxd2413_init_da8c8 4 = .ok (.return_, 1) := by decide +kernel
theorem dL_addControl_0 : decode cL_addControl 0 = .ok (.aload 4, 2) := by decide +kernel
theorem dL_addControl_2 : decode cL_addControl 2 = .ok (.iconst 0, 1) := by decide +kernel
theorem dL_addControl_3 : decode cL_addControl 3 = .ok (.aload_n 0, 1) := by decide +kernel
theorem dL_addControl_4 : decode cL_addControl 4 = .ok (.iload_n 1, 1) := by decide +kernel
theorem dL_addControl_5 : decode cL_addControl 5 = .ok (.iload_n 2, 1) := by decide +kernel
theorem dL_addControl_6 : decode cL_addControl 6 = .ok (.iload_n 3, 1) := by decide +kernel
theorem dL_addControl_7 : decode cL_addControl 7 = .ok (.invokevirtual 63, 3) := by decide +kernel
theorem dL_addControl_15 : decode cL_addControl 15 = .ok (.astore 5, 2) := by decide +kernel
theorem dL_addControl_17 : decode cL_addControl 17 = .ok (.iconst 1, 1) := by decide +kernel
theorem dL_addControl_18 : decode cL_addControl 18 = .ok (.ireturn, 1) := by decide +kernel
theorem dL_addMass_0 : decode cL_addMass 0 = .ok (.aload 5, 2) := by decide +kernel
theorem dL_addMass_2 : decode cL_addMass 2 = .ok (.iconst 0, 1) := by decide +kernel
theorem dL_addMass_3 : decode cL_addMass 3 = .ok (.aload_n 0, 1) := by decide +kernel
theorem dL_addMass_4 : decode cL_addMass 4 = .ok (.iload_n 1, 1) := by decide +kernel
theorem dL_addMass_5 : decode cL_addMass 5 = .ok (.iload_n 2, 1) := by decide +kernel
theorem dL_addMass_6 : decode cL_addMass 6 = .ok (.iload_n 3, 1) := by decide +kernel
theorem dL_addMass_7 : decode cL_addMass 7 = .ok (.iload 4, 2) := by decide +kernel
theorem dL_addMass_9 : decode cL_addMass 9 = .ok (.invokevirtual 15, 3) := by decide +kernel
theorem dL_addMass_17 : decode cL_addMass 17 = .ok (.astore 6, 2) := by decide +kernel
theorem dL_addMass_19 : decode cL_addMass 19 = .ok (.iconst 1, 1) := by decide +kernel
theorem dL_addMass_20 : decode cL_addMass 20 = .ok (.ireturn, 1) := by decide +kernel
theorem dL_addRun_0 : decode cL_addRun 0 = .ok (.aload 4, 2) := by decide +kernel
theorem dL_addRun_2 : decode cL_addRun 2 = .ok (.iconst 0, 1) := by decide +kernel
theorem dL_addRun_3 : decode cL_addRun 3 = .ok (.aload_n 0, 1) := by decide +kernel
theorem dL_addRun_4 : decode cL_addRun 4 = .ok (.iload_n 1, 1) := by decide +kernel
theorem dL_addRun_5 : decode cL_addRun 5 = .ok (.iload_n 2, 1) := by decide +kernel
theorem dL_addRun_6 : decode cL_addRun 6 = .ok (.iload_n 3, 1) := by decide +kernel
theorem dL_addRun_7 : decode cL_addRun 7 = .ok (.invokevirtual 59, 3) := by decide +kernel
theorem dL_addRun_15 : decode cL_addRun 15 = .ok (.astore 5, 2) := by decide +kernel
theorem dL_addRun_17 : decode cL_addRun 17 = .ok (.iconst 1, 1) := by decide +kernel
theorem dL_addRun_18 : decode cL_addRun 18 = .ok (.ireturn, 1) := by decide +kernel
theorem dL_addSensor_0 : decode cL_addSensor 0 = .ok (.aload 5, 2) := by decide +kernel
theorem dL_addSensor_2 : decode cL_addSensor 2 = .ok (.iconst 0, 1) := by decide +kernel
theorem dL_addSensor_3 : decode cL_addSensor 3 = .ok (.aload_n 0, 1) := by decide +kernel
theorem dL_addSensor_4 : decode cL_addSensor 4 = .ok (.iload_n 1, 1) := by decide +kernel
theorem dL_addSensor_5 : decode cL_addSensor 5 = .ok (.iload_n 2, 1) := by decide +kernel
theorem dL_addSensor_6 : decode cL_addSensor 6 = .ok (.iload_n 3, 1) := by decide +kernel
theorem dL_addSensor_7 : decode cL_addSensor 7 = .ok (.iload 4, 2) := by decide +kernel
theorem dL_addSensor_9 : decode cL_addSensor 9 = .ok (.invokevirtual 40, 3) := by decide +kernel
theorem dL_addSensor_17 : decode cL_addSensor 17 = .ok (.astore 6, 2) := by decide +kernel
theorem dL_addSensor_19 : decode cL_addSensor 19 = .ok (.iconst 1, 1) := by decide +kernel
theorem dL_addSensor_20 : decode cL_addSensor 20 = .ok (.ireturn, 1) := by decide +kernel
theorem dL_addSpecification_0 : decode cL_addSpecification 0 = .ok (.aload_n 1, 1) := by decide +kernel
theorem dL_addSpecification_1 : decode cL_addSpecification 1 = .ok (.iconst 0, 1) := by decide +kernel
theorem dL_addSpecification_2 : decode cL_addSpecification 2 = .ok (.aload_n 0, 1) := by decide +kernel
theorem dL_addSpecification_3 : decode cL_addSpecification 3 = .ok (.invokevirtual 50, 3) := by decide +kernel
theorem dL_addSpecification_6 : decode cL_addSpecification 6 = .ok (.i2l, 1) := by decide +kernel
theorem dL_addSpecification_7 : decode cL_addSpecification 7 = .ok (.lastore, 1) := by decide +kernel
theorem dL_addSpecification_8 : decode cL_addSpecification 8 = .ok (.goto 6, 3) := by decide +kernel
theorem dL_addSpecification_14 : decode cL_addSpecification 14 = .ok (.iconst 0, 1) := by decide +kernel
theorem dL_addSpecification_15 : decode cL_addSpecification 15 = .ok (.ireturn, 1) := by decide +kernel
theorem dL_addStructure_0 : decode cL_addStructure 0 = .ok (.aload_n 1, 1) := by decide +kernel
theorem dL_addStructure_1 : decode cL_addStructure 1 = .ok (.iconst 0, 1) := by decide +kernel
theorem dL_addStructure_2 : decode cL_addStructure 2 = .ok (.aload_n 0, 1) := by decide +kernel
theorem dL_addStructure_3 : decode cL_addStructure 3 = .ok (.invokevirtual 7, 3) := by decide +kernel
theorem dL_addStructure_6 : decode cL_addStructure 6 = .ok (.i2l, 1) := by decide +kernel
theorem dL_addStructure_7 : decode cL_addStructure 7 = .ok (.lastore, 1) := by decide +kernel
theorem dL_addStructure_8 : decode cL_addStructure 8 = .ok (.goto 6, 3) := by decide +kernel
theorem dL_addStructure_14 : decode cL_addStructure 14 = .ok (.iconst 0, 1) := by decide +kernel
theorem dL_addStructure_15 : decode cL_addStructure 15 = .ok (.ireturn, 1) := by decide +kernel
theorem dL_bandShare_0 : decode cL_bandShare 0 = .ok (.aload_n 2, 1) := by decide +kernel
theorem dL_bandShare_1 : decode cL_bandShare 1 = .ok (.iconst 0, 1) := by decide +kernel
theorem dL_bandShare_2 : decode cL_bandShare 2 = .ok (.aload_n 0, 1) := by decide +kernel
theorem dL_bandShare_3 : decode cL_bandShare 3 = .ok (.iload_n 1, 1) := by decide +kernel
theorem dL_bandShare_4 : decode cL_bandShare 4 = .ok (.invokevirtual 148, 3) := by decide +kernel
theorem dL_bandShare_12 : decode cL_bandShare 12 = .ok (.astore_n 3, 1) := by decide +kernel
theorem dL_bandShare_13 : decode cL_bandShare 13 = .ok (.iconst 1, 1) := by decide +kernel
theorem dL_bandShare_14 : decode cL_bandShare 14 = .ok (.ireturn, 1) := by decide +kernel
theorem dL_countEvents_0 : decode cL_countEvents 0 = .ok (.aload_n 2, 1) := by decide +kernel
theorem dL_countEvents_1 : decode cL_countEvents 1 = .ok (.iconst 0, 1) := by decide +kernel
theorem dL_countEvents_2 : decode cL_countEvents 2 = .ok (.aload_n 0, 1) := by decide +kernel
theorem dL_countEvents_3 : decode cL_countEvents 3 = .ok (.iload_n 1, 1) := by decide +kernel
theorem dL_countEvents_4 : decode cL_countEvents 4 = .ok (.invokevirtual 110, 3) := by decide +kernel
theorem dL_countEvents_12 : decode cL_countEvents 12 = .ok (.astore_n 3, 1) := by decide +kernel
theorem dL_countEvents_13 : decode cL_countEvents 13 = .ok (.iconst 1, 1) := by decide +kernel
theorem dL_countEvents_14 : decode cL_countEvents 14 = .ok (.ireturn, 1) := by decide +kernel
theorem dL_countOver_0 : decode cL_countOver 0 = .ok (.aload_n 2, 1) := by decide +kernel
theorem dL_countOver_1 : decode cL_countOver 1 = .ok (.iconst 0, 1) := by decide +kernel
theorem dL_countOver_2 : decode cL_countOver 2 = .ok (.aload_n 0, 1) := by decide +kernel
theorem dL_countOver_3 : decode cL_countOver 3 = .ok (.iload_n 1, 1) := by decide +kernel
theorem dL_countOver_4 : decode cL_countOver 4 = .ok (.invokevirtual 107, 3) := by decide +kernel
theorem dL_countOver_12 : decode cL_countOver 12 = .ok (.astore_n 3, 1) := by decide +kernel
theorem dL_countOver_13 : decode cL_countOver 13 = .ok (.iconst 1, 1) := by decide +kernel
theorem dL_countOver_14 : decode cL_countOver 14 = .ok (.ireturn, 1) := by decide +kernel
theorem dL_crack_0 : decode cL_crack 0 = .ok (.aload_n 3, 1) := by decide +kernel
theorem dL_crack_1 : decode cL_crack 1 = .ok (.iconst 0, 1) := by decide +kernel
theorem dL_crack_2 : decode cL_crack 2 = .ok (.aload_n 0, 1) := by decide +kernel
theorem dL_crack_3 : decode cL_crack 3 = .ok (.iload_n 1, 1) := by decide +kernel
theorem dL_crack_4 : decode cL_crack 4 = .ok (.iload_n 2, 1) := by decide +kernel
theorem dL_crack_5 : decode cL_crack 5 = .ok (.invokevirtual 23, 3) := by decide +kernel
theorem dL_crack_13 : decode cL_crack 13 = .ok (.astore 4, 2) := by decide +kernel
theorem dL_crack_15 : decode cL_crack 15 = .ok (.iconst 1, 1) := by decide +kernel
theorem dL_crack_16 : decode cL_crack 16 = .ok (.ireturn, 1) := by decide +kernel
theorem dL_differs_0 : decode cL_differs 0 = .ok (.aload_n 2, 1) := by decide +kernel
theorem dL_differs_1 : decode cL_differs 1 = .ok (.iconst 0, 1) := by decide +kernel
theorem dL_differs_2 : decode cL_differs 2 = .ok (.aload_n 0, 1) := by decide +kernel
theorem dL_differs_3 : decode cL_differs 3 = .ok (.iload_n 1, 1) := by decide +kernel
theorem dL_differs_4 : decode cL_differs 4 = .ok (.invokevirtual 144, 3) := by decide +kernel
theorem dL_differs_19 : decode cL_differs 19 = .ok (.astore_n 3, 1) := by decide +kernel
theorem dL_differs_20 : decode cL_differs 20 = .ok (.iconst 1, 1) := by decide +kernel
theorem dL_differs_21 : decode cL_differs 21 = .ok (.ireturn, 1) := by decide +kernel
theorem dL_getBand_0 : decode cL_getBand 0 = .ok (.aload_n 3, 1) := by decide +kernel
theorem dL_getBand_1 : decode cL_getBand 1 = .ok (.iconst 0, 1) := by decide +kernel
theorem dL_getBand_2 : decode cL_getBand 2 = .ok (.aload_n 0, 1) := by decide +kernel
theorem dL_getBand_3 : decode cL_getBand 3 = .ok (.iload_n 1, 1) := by decide +kernel
theorem dL_getBand_4 : decode cL_getBand 4 = .ok (.iload_n 2, 1) := by decide +kernel
theorem dL_getBand_5 : decode cL_getBand 5 = .ok (.invokevirtual 66, 3) := by decide +kernel
theorem dL_getBand_13 : decode cL_getBand 13 = .ok (.astore 4, 2) := by decide +kernel
theorem dL_getBand_15 : decode cL_getBand 15 = .ok (.iconst 1, 1) := by decide +kernel
theorem dL_getBand_16 : decode cL_getBand 16 = .ok (.ireturn, 1) := by decide +kernel
theorem dL_getCracks_0 : decode cL_getCracks 0 = .ok (.aload_n 2, 1) := by decide +kernel
theorem dL_getCracks_1 : decode cL_getCracks 1 = .ok (.iconst 0, 1) := by decide +kernel
theorem dL_getCracks_2 : decode cL_getCracks 2 = .ok (.aload_n 0, 1) := by decide +kernel
theorem dL_getCracks_3 : decode cL_getCracks 3 = .ok (.iload_n 1, 1) := by decide +kernel
theorem dL_getCracks_4 : decode cL_getCracks 4 = .ok (.invokevirtual 138, 3) := by decide +kernel
theorem dL_getCracks_12 : decode cL_getCracks 12 = .ok (.astore_n 3, 1) := by decide +kernel
theorem dL_getCracks_13 : decode cL_getCracks 13 = .ok (.iconst 1, 1) := by decide +kernel
theorem dL_getCracks_14 : decode cL_getCracks 14 = .ok (.ireturn, 1) := by decide +kernel
theorem dL_getDamage_0 : decode cL_getDamage 0 = .ok (.aload_n 2, 1) := by decide +kernel
theorem dL_getDamage_1 : decode cL_getDamage 1 = .ok (.iconst 0, 1) := by decide +kernel
theorem dL_getDamage_2 : decode cL_getDamage 2 = .ok (.aload_n 0, 1) := by decide +kernel
theorem dL_getDamage_3 : decode cL_getDamage 3 = .ok (.iload_n 1, 1) := by decide +kernel
theorem dL_getDamage_4 : decode cL_getDamage 4 = .ok (.invokevirtual 134, 3) := by decide +kernel
theorem dL_getDamage_11 : decode cL_getDamage 11 = .ok (.astore_n 3, 1) := by decide +kernel
theorem dL_getDamage_12 : decode cL_getDamage 12 = .ok (.iconst 1, 1) := by decide +kernel
theorem dL_getDamage_13 : decode cL_getDamage 13 = .ok (.ireturn, 1) := by decide +kernel
theorem dL_getDrive_0 : decode cL_getDrive 0 = .ok (.aload_n 3, 1) := by decide +kernel
theorem dL_getDrive_1 : decode cL_getDrive 1 = .ok (.iconst 0, 1) := by decide +kernel
theorem dL_getDrive_2 : decode cL_getDrive 2 = .ok (.aload_n 0, 1) := by decide +kernel
theorem dL_getDrive_3 : decode cL_getDrive 3 = .ok (.iload_n 1, 1) := by decide +kernel
theorem dL_getDrive_4 : decode cL_getDrive 4 = .ok (.iload_n 2, 1) := by decide +kernel
theorem dL_getDrive_5 : decode cL_getDrive 5 = .ok (.invokevirtual 76, 3) := by decide +kernel
theorem dL_getDrive_13 : decode cL_getDrive 13 = .ok (.astore 4, 2) := by decide +kernel
theorem dL_getDrive_15 : decode cL_getDrive 15 = .ok (.iconst 1, 1) := by decide +kernel
theorem dL_getDrive_16 : decode cL_getDrive 16 = .ok (.ireturn, 1) := by decide +kernel
theorem dL_getDue_0 : decode cL_getDue 0 = .ok (.aload_n 3, 1) := by decide +kernel
theorem dL_getDue_1 : decode cL_getDue 1 = .ok (.iconst 0, 1) := by decide +kernel
theorem dL_getDue_2 : decode cL_getDue 2 = .ok (.aload_n 0, 1) := by decide +kernel
theorem dL_getDue_3 : decode cL_getDue 3 = .ok (.iload_n 1, 1) := by decide +kernel
theorem dL_getDue_4 : decode cL_getDue 4 = .ok (.iload_n 2, 1) := by decide +kernel
theorem dL_getDue_5 : decode cL_getDue 5 = .ok (.invokevirtual 69, 3) := by decide +kernel
theorem dL_getDue_13 : decode cL_getDue 13 = .ok (.astore 4, 2) := by decide +kernel
theorem dL_getDue_15 : decode cL_getDue 15 = .ok (.iconst 1, 1) := by decide +kernel
theorem dL_getDue_16 : decode cL_getDue 16 = .ok (.ireturn, 1) := by decide +kernel
theorem dL_getEvent_0 : decode cL_getEvent 0 = .ok (.aload_n 3, 1) := by decide +kernel
theorem dL_getEvent_1 : decode cL_getEvent 1 = .ok (.iconst 0, 1) := by decide +kernel
theorem dL_getEvent_2 : decode cL_getEvent 2 = .ok (.aload_n 0, 1) := by decide +kernel
theorem dL_getEvent_3 : decode cL_getEvent 3 = .ok (.iload_n 1, 1) := by decide +kernel
theorem dL_getEvent_4 : decode cL_getEvent 4 = .ok (.iload_n 2, 1) := by decide +kernel
theorem dL_getEvent_5 : decode cL_getEvent 5 = .ok (.invokevirtual 113, 3) := by decide +kernel
theorem dL_getEvent_13 : decode cL_getEvent 13 = .ok (.astore 4, 2) := by decide +kernel
theorem dL_getEvent_15 : decode cL_getEvent 15 = .ok (.iconst 1, 1) := by decide +kernel
theorem dL_getEvent_16 : decode cL_getEvent 16 = .ok (.ireturn, 1) := by decide +kernel
theorem dL_getFelt_0 : decode cL_getFelt 0 = .ok (.aload_n 3, 1) := by decide +kernel
theorem dL_getFelt_1 : decode cL_getFelt 1 = .ok (.iconst 0, 1) := by decide +kernel
theorem dL_getFelt_2 : decode cL_getFelt 2 = .ok (.aload_n 0, 1) := by decide +kernel
theorem dL_getFelt_3 : decode cL_getFelt 3 = .ok (.iload_n 1, 1) := by decide +kernel
theorem dL_getFelt_4 : decode cL_getFelt 4 = .ok (.iload_n 2, 1) := by decide +kernel
theorem dL_getFelt_5 : decode cL_getFelt 5 = .ok (.invokevirtual 104, 3) := by decide +kernel
theorem dL_getFelt_13 : decode cL_getFelt 13 = .ok (.astore 4, 2) := by decide +kernel
theorem dL_getFelt_15 : decode cL_getFelt 15 = .ok (.iconst 1, 1) := by decide +kernel
theorem dL_getFelt_16 : decode cL_getFelt 16 = .ok (.ireturn, 1) := by decide +kernel
theorem dL_getMinutes_0 : decode cL_getMinutes 0 = .ok (.aload_n 2, 1) := by decide +kernel
theorem dL_getMinutes_1 : decode cL_getMinutes 1 = .ok (.iconst 0, 1) := by decide +kernel
theorem dL_getMinutes_2 : decode cL_getMinutes 2 = .ok (.aload_n 0, 1) := by decide +kernel
theorem dL_getMinutes_3 : decode cL_getMinutes 3 = .ok (.iload_n 1, 1) := by decide +kernel
theorem dL_getMinutes_4 : decode cL_getMinutes 4 = .ok (.invokevirtual 101, 3) := by decide +kernel
theorem dL_getMinutes_12 : decode cL_getMinutes 12 = .ok (.astore_n 3, 1) := by decide +kernel
theorem dL_getMinutes_13 : decode cL_getMinutes 13 = .ok (.iconst 1, 1) := by decide +kernel
theorem dL_getMinutes_14 : decode cL_getMinutes 14 = .ok (.ireturn, 1) := by decide +kernel
theorem dL_getResonance_0 : decode cL_getResonance 0 = .ok (.aload_n 2, 1) := by decide +kernel
theorem dL_getResonance_1 : decode cL_getResonance 1 = .ok (.iconst 0, 1) := by decide +kernel
theorem dL_getResonance_2 : decode cL_getResonance 2 = .ok (.aload_n 0, 1) := by decide +kernel
theorem dL_getResonance_3 : decode cL_getResonance 3 = .ok (.iload_n 1, 1) := by decide +kernel
theorem dL_getResonance_4 : decode cL_getResonance 4 = .ok (.invokevirtual 34, 3) := by decide +kernel
theorem dL_getResonance_12 : decode cL_getResonance 12 = .ok (.astore_n 3, 1) := by decide +kernel
theorem dL_getResonance_13 : decode cL_getResonance 13 = .ok (.iconst 1, 1) := by decide +kernel
theorem dL_getResonance_14 : decode cL_getResonance 14 = .ok (.ireturn, 1) := by decide +kernel
theorem dL_getResponse_0 : decode cL_getResponse 0 = .ok (.aload 4, 2) := by decide +kernel
theorem dL_getResponse_2 : decode cL_getResponse 2 = .ok (.iconst 0, 1) := by decide +kernel
theorem dL_getResponse_3 : decode cL_getResponse 3 = .ok (.aload_n 0, 1) := by decide +kernel
theorem dL_getResponse_4 : decode cL_getResponse 4 = .ok (.iload_n 1, 1) := by decide +kernel
theorem dL_getResponse_5 : decode cL_getResponse 5 = .ok (.iload_n 2, 1) := by decide +kernel
theorem dL_getResponse_6 : decode cL_getResponse 6 = .ok (.iload_n 3, 1) := by decide +kernel
theorem dL_getResponse_7 : decode cL_getResponse 7 = .ok (.invokevirtual 30, 3) := by decide +kernel
theorem dL_getResponse_15 : decode cL_getResponse 15 = .ok (.astore 5, 2) := by decide +kernel
theorem dL_getResponse_17 : decode cL_getResponse 17 = .ok (.iconst 1, 1) := by decide +kernel
theorem dL_getResponse_18 : decode cL_getResponse 18 = .ok (.ireturn, 1) := by decide +kernel
theorem dL_getSpectrum_0 : decode cL_getSpectrum 0 = .ok (.aload_n 2, 1) := by decide +kernel
theorem dL_getSpectrum_1 : decode cL_getSpectrum 1 = .ok (.iconst 0, 1) := by decide +kernel
theorem dL_getSpectrum_2 : decode cL_getSpectrum 2 = .ok (.aload_n 0, 1) := by decide +kernel
theorem dL_getSpectrum_3 : decode cL_getSpectrum 3 = .ok (.iload_n 1, 1) := by decide +kernel
theorem dL_getSpectrum_4 : decode cL_getSpectrum 4 = .ok (.invokevirtual 128, 3) := by decide +kernel
theorem dL_getSpectrum_12 : decode cL_getSpectrum 12 = .ok (.astore_n 3, 1) := by decide +kernel
theorem dL_getSpectrum_13 : decode cL_getSpectrum 13 = .ok (.iconst 1, 1) := by decide +kernel
theorem dL_getSpectrum_14 : decode cL_getSpectrum 14 = .ok (.ireturn, 1) := by decide +kernel
theorem dL_getSpectrum_15 : decode cL_getSpectrum 15 = .ok (.astore_n 3, 1) := by decide +kernel
theorem dL_getSpectrum_16 : decode cL_getSpectrum 16 = .ok (.iconst 2, 1) := by decide +kernel
theorem dL_getSpectrum_17 : decode cL_getSpectrum 17 = .ok (.ireturn, 1) := by decide +kernel
theorem dL_getSpring_0 : decode cL_getSpring 0 = .ok (.aload_n 3, 1) := by decide +kernel
theorem dL_getSpring_1 : decode cL_getSpring 1 = .ok (.iconst 0, 1) := by decide +kernel
theorem dL_getSpring_2 : decode cL_getSpring 2 = .ok (.aload_n 0, 1) := by decide +kernel
theorem dL_getSpring_3 : decode cL_getSpring 3 = .ok (.iload_n 1, 1) := by decide +kernel
theorem dL_getSpring_4 : decode cL_getSpring 4 = .ok (.iload_n 2, 1) := by decide +kernel
theorem dL_getSpring_5 : decode cL_getSpring 5 = .ok (.invokevirtual 27, 3) := by decide +kernel
theorem dL_getSpring_13 : decode cL_getSpring 13 = .ok (.astore 4, 2) := by decide +kernel
theorem dL_getSpring_15 : decode cL_getSpring 15 = .ok (.iconst 1, 1) := by decide +kernel
theorem dL_getSpring_16 : decode cL_getSpring 16 = .ok (.ireturn, 1) := by decide +kernel
theorem dL_getState_0 : decode cL_getState 0 = .ok (.aload_n 2, 1) := by decide +kernel
theorem dL_getState_1 : decode cL_getState 1 = .ok (.iconst 0, 1) := by decide +kernel
theorem dL_getState_2 : decode cL_getState 2 = .ok (.aload_n 0, 1) := by decide +kernel
theorem dL_getState_3 : decode cL_getState 3 = .ok (.iload_n 1, 1) := by decide +kernel
theorem dL_getState_4 : decode cL_getState 4 = .ok (.invokevirtual 82, 3) := by decide +kernel
theorem dL_getState_12 : decode cL_getState 12 = .ok (.astore_n 3, 1) := by decide +kernel
theorem dL_getState_13 : decode cL_getState 13 = .ok (.iconst 1, 1) := by decide +kernel
theorem dL_getState_14 : decode cL_getState 14 = .ok (.ireturn, 1) := by decide +kernel
theorem dL_isInBand_0 : decode cL_isInBand 0 = .ok (.aload_n 3, 1) := by decide +kernel
theorem dL_isInBand_1 : decode cL_isInBand 1 = .ok (.iconst 0, 1) := by decide +kernel
theorem dL_isInBand_2 : decode cL_isInBand 2 = .ok (.aload_n 0, 1) := by decide +kernel
theorem dL_isInBand_3 : decode cL_isInBand 3 = .ok (.iload_n 1, 1) := by decide +kernel
theorem dL_isInBand_4 : decode cL_isInBand 4 = .ok (.iload_n 2, 1) := by decide +kernel
theorem dL_isInBand_5 : decode cL_isInBand 5 = .ok (.invokevirtual 72, 3) := by decide +kernel
theorem dL_isInBand_20 : decode cL_isInBand 20 = .ok (.astore 4, 2) := by decide +kernel
theorem dL_isInBand_22 : decode cL_isInBand 22 = .ok (.iconst 1, 1) := by decide +kernel
theorem dL_isInBand_23 : decode cL_isInBand 23 = .ok (.ireturn, 1) := by decide +kernel
theorem dL_meanDrive_0 : decode cL_meanDrive 0 = .ok (.aload_n 2, 1) := by decide +kernel
theorem dL_meanDrive_1 : decode cL_meanDrive 1 = .ok (.iconst 0, 1) := by decide +kernel
theorem dL_meanDrive_2 : decode cL_meanDrive 2 = .ok (.aload_n 0, 1) := by decide +kernel
theorem dL_meanDrive_3 : decode cL_meanDrive 3 = .ok (.iload_n 1, 1) := by decide +kernel
theorem dL_meanDrive_4 : decode cL_meanDrive 4 = .ok (.invokevirtual 152, 3) := by decide +kernel
theorem dL_meanDrive_11 : decode cL_meanDrive 11 = .ok (.astore_n 3, 1) := by decide +kernel
theorem dL_meanDrive_12 : decode cL_meanDrive 12 = .ok (.iconst 1, 1) := by decide +kernel
theorem dL_meanDrive_13 : decode cL_meanDrive 13 = .ok (.ireturn, 1) := by decide +kernel
theorem dL_raise_0 : decode cL_raise 0 = .ok (.aload_n 2, 1) := by decide +kernel
theorem dL_raise_1 : decode cL_raise 1 = .ok (.iconst 0, 1) := by decide +kernel
theorem dL_raise_2 : decode cL_raise 2 = .ok (.aload_n 0, 1) := by decide +kernel
theorem dL_raise_3 : decode cL_raise 3 = .ok (.iload_n 1, 1) := by decide +kernel
theorem dL_raise_4 : decode cL_raise 4 = .ok (.invokevirtual 86, 3) := by decide +kernel
theorem dL_raise_12 : decode cL_raise 12 = .ok (.astore_n 3, 1) := by decide +kernel
theorem dL_raise_13 : decode cL_raise 13 = .ok (.iconst 1, 1) := by decide +kernel
theorem dL_raise_14 : decode cL_raise 14 = .ok (.ireturn, 1) := by decide +kernel
theorem dL_read_0 : decode cL_read 0 = .ok (.aload_n 3, 1) := by decide +kernel
theorem dL_read_1 : decode cL_read 1 = .ok (.iconst 0, 1) := by decide +kernel
theorem dL_read_2 : decode cL_read 2 = .ok (.aload_n 0, 1) := by decide +kernel
theorem dL_read_3 : decode cL_read 3 = .ok (.iload_n 1, 1) := by decide +kernel
theorem dL_read_4 : decode cL_read 4 = .ok (.iload_n 2, 1) := by decide +kernel
theorem dL_read_5 : decode cL_read 5 = .ok (.invokevirtual 47, 3) := by decide +kernel
theorem dL_read_13 : decode cL_read 13 = .ok (.astore 4, 2) := by decide +kernel
theorem dL_read_15 : decode cL_read 15 = .ok (.iconst 1, 1) := by decide +kernel
theorem dL_read_16 : decode cL_read 16 = .ok (.ireturn, 1) := by decide +kernel
theorem dL_setAbort_0 : decode cL_setAbort 0 = .ok (.aload_n 3, 1) := by decide +kernel
theorem dL_setAbort_1 : decode cL_setAbort 1 = .ok (.iconst 0, 1) := by decide +kernel
theorem dL_setAbort_2 : decode cL_setAbort 2 = .ok (.aload_n 0, 1) := by decide +kernel
theorem dL_setAbort_3 : decode cL_setAbort 3 = .ok (.iload_n 1, 1) := by decide +kernel
theorem dL_setAbort_4 : decode cL_setAbort 4 = .ok (.iload_n 2, 1) := by decide +kernel
theorem dL_setAbort_5 : decode cL_setAbort 5 = .ok (.invokevirtual 98, 3) := by decide +kernel
theorem dL_setAbort_13 : decode cL_setAbort 13 = .ok (.astore 4, 2) := by decide +kernel
theorem dL_setAbort_15 : decode cL_setAbort 15 = .ok (.iconst 1, 1) := by decide +kernel
theorem dL_setAbort_16 : decode cL_setAbort 16 = .ok (.ireturn, 1) := by decide +kernel
theorem dL_setLevel_0 : decode cL_setLevel 0 = .ok (.aload 4, 2) := by decide +kernel
theorem dL_setLevel_2 : decode cL_setLevel 2 = .ok (.iconst 0, 1) := by decide +kernel
theorem dL_setLevel_3 : decode cL_setLevel 3 = .ok (.aload_n 0, 1) := by decide +kernel
theorem dL_setLevel_4 : decode cL_setLevel 4 = .ok (.iload_n 1, 1) := by decide +kernel
theorem dL_setLevel_5 : decode cL_setLevel 5 = .ok (.iload_n 2, 1) := by decide +kernel
theorem dL_setLevel_6 : decode cL_setLevel 6 = .ok (.iload_n 3, 1) := by decide +kernel
theorem dL_setLevel_7 : decode cL_setLevel 7 = .ok (.invokevirtual 53, 3) := by decide +kernel
theorem dL_setLevel_15 : decode cL_setLevel 15 = .ok (.astore 5, 2) := by decide +kernel
theorem dL_setLevel_17 : decode cL_setLevel 17 = .ok (.iconst 1, 1) := by decide +kernel
theorem dL_setLevel_18 : decode cL_setLevel 18 = .ok (.ireturn, 1) := by decide +kernel
theorem dL_setLife_0 : decode cL_setLife 0 = .ok (.aload_n 3, 1) := by decide +kernel
theorem dL_setLife_1 : decode cL_setLife 1 = .ok (.iconst 0, 1) := by decide +kernel
theorem dL_setLife_2 : decode cL_setLife 2 = .ok (.aload_n 0, 1) := by decide +kernel
theorem dL_setLife_3 : decode cL_setLife 3 = .ok (.iload_n 1, 1) := by decide +kernel
theorem dL_setLife_4 : decode cL_setLife 4 = .ok (.iload_n 2, 1) := by decide +kernel
theorem dL_setLife_5 : decode cL_setLife 5 = .ok (.invokevirtual 131, 3) := by decide +kernel
theorem dL_setLife_13 : decode cL_setLife 13 = .ok (.astore 4, 2) := by decide +kernel
theorem dL_setLife_15 : decode cL_setLife 15 = .ok (.iconst 1, 1) := by decide +kernel
theorem dL_setLife_16 : decode cL_setLife 16 = .ok (.ireturn, 1) := by decide +kernel
theorem dL_setLoose_0 : decode cL_setLoose 0 = .ok (.aload_n 3, 1) := by decide +kernel
theorem dL_setLoose_1 : decode cL_setLoose 1 = .ok (.iconst 0, 1) := by decide +kernel
theorem dL_setLoose_2 : decode cL_setLoose 2 = .ok (.aload_n 0, 1) := by decide +kernel
theorem dL_setLoose_3 : decode cL_setLoose 3 = .ok (.iload_n 1, 1) := by decide +kernel
theorem dL_setLoose_4 : decode cL_setLoose 4 = .ok (.iload_n 2, 1) := by decide +kernel
theorem dL_setLoose_5 : decode cL_setLoose 5 = .ok (.invokevirtual 43, 3) := by decide +kernel
theorem dL_setLoose_20 : decode cL_setLoose 20 = .ok (.astore 4, 2) := by decide +kernel
theorem dL_setLoose_22 : decode cL_setLoose 22 = .ok (.iconst 1, 1) := by decide +kernel
theorem dL_setLoose_23 : decode cL_setLoose 23 = .ok (.ireturn, 1) := by decide +kernel
theorem dL_setNotch_0 : decode cL_setNotch 0 = .ok (.aload 4, 2) := by decide +kernel
theorem dL_setNotch_2 : decode cL_setNotch 2 = .ok (.iconst 0, 1) := by decide +kernel
theorem dL_setNotch_3 : decode cL_setNotch 3 = .ok (.aload_n 0, 1) := by decide +kernel
theorem dL_setNotch_4 : decode cL_setNotch 4 = .ok (.iload_n 1, 1) := by decide +kernel
theorem dL_setNotch_5 : decode cL_setNotch 5 = .ok (.iload_n 2, 1) := by decide +kernel
theorem dL_setNotch_6 : decode cL_setNotch 6 = .ok (.iload_n 3, 1) := by decide +kernel
theorem dL_setNotch_7 : decode cL_setNotch 7 = .ok (.invokevirtual 95, 3) := by decide +kernel
theorem dL_setNotch_15 : decode cL_setNotch 15 = .ok (.astore 5, 2) := by decide +kernel
theorem dL_setNotch_17 : decode cL_setNotch 17 = .ok (.iconst 1, 1) := by decide +kernel
theorem dL_setNotch_18 : decode cL_setNotch 18 = .ok (.ireturn, 1) := by decide +kernel
theorem dL_setTolerance_0 : decode cL_setTolerance 0 = .ok (.aload 4, 2) := by decide +kernel
theorem dL_setTolerance_2 : decode cL_setTolerance 2 = .ok (.iconst 0, 1) := by decide +kernel
theorem dL_setTolerance_3 : decode cL_setTolerance 3 = .ok (.aload_n 0, 1) := by decide +kernel
theorem dL_setTolerance_4 : decode cL_setTolerance 4 = .ok (.iload_n 1, 1) := by decide +kernel
theorem dL_setTolerance_5 : decode cL_setTolerance 5 = .ok (.iload_n 2, 1) := by decide +kernel
theorem dL_setTolerance_6 : decode cL_setTolerance 6 = .ok (.iload_n 3, 1) := by decide +kernel
theorem dL_setTolerance_7 : decode cL_setTolerance 7 = .ok (.invokevirtual 56, 3) := by decide +kernel
theorem dL_setTolerance_15 : decode cL_setTolerance 15 = .ok (.astore 5, 2) := by decide +kernel
theorem dL_setTolerance_17 : decode cL_setTolerance 17 = .ok (.iconst 1, 1) := by decide +kernel
theorem dL_setTolerance_18 : decode cL_setTolerance 18 = .ok (.ireturn, 1) := by decide +kernel
theorem dL_shock_0 : decode cL_shock 0 = .ok (.aload_n 2, 1) := by decide +kernel
theorem dL_shock_1 : decode cL_shock 1 = .ok (.iconst 0, 1) := by decide +kernel
theorem dL_shock_2 : decode cL_shock 2 = .ok (.aload_n 0, 1) := by decide +kernel
theorem dL_shock_3 : decode cL_shock 3 = .ok (.iload_n 1, 1) := by decide +kernel
theorem dL_shock_4 : decode cL_shock 4 = .ok (.invokevirtual 125, 3) := by decide +kernel
theorem dL_shock_12 : decode cL_shock 12 = .ok (.astore_n 3, 1) := by decide +kernel
theorem dL_shock_13 : decode cL_shock 13 = .ok (.iconst 1, 1) := by decide +kernel
theorem dL_shock_14 : decode cL_shock 14 = .ok (.ireturn, 1) := by decide +kernel
theorem dL_sign_0 : decode cL_sign 0 = .ok (.aload_n 3, 1) := by decide +kernel
theorem dL_sign_1 : decode cL_sign 1 = .ok (.iconst 0, 1) := by decide +kernel
theorem dL_sign_2 : decode cL_sign 2 = .ok (.aload_n 0, 1) := by decide +kernel
theorem dL_sign_3 : decode cL_sign 3 = .ok (.iload_n 1, 1) := by decide +kernel
theorem dL_sign_4 : decode cL_sign 4 = .ok (.iload_n 2, 1) := by decide +kernel
theorem dL_sign_5 : decode cL_sign 5 = .ok (.invokevirtual 92, 3) := by decide +kernel
theorem dL_sign_13 : decode cL_sign 13 = .ok (.astore 4, 2) := by decide +kernel
theorem dL_sign_15 : decode cL_sign 15 = .ok (.iconst 1, 1) := by decide +kernel
theorem dL_sign_16 : decode cL_sign 16 = .ok (.ireturn, 1) := by decide +kernel
theorem dL_sweep_0 : decode cL_sweep 0 = .ok (.aload 5, 2) := by decide +kernel
theorem dL_sweep_2 : decode cL_sweep 2 = .ok (.iconst 0, 1) := by decide +kernel
theorem dL_sweep_3 : decode cL_sweep 3 = .ok (.aload_n 0, 1) := by decide +kernel
theorem dL_sweep_4 : decode cL_sweep 4 = .ok (.iload_n 1, 1) := by decide +kernel
theorem dL_sweep_5 : decode cL_sweep 5 = .ok (.iload_n 2, 1) := by decide +kernel
theorem dL_sweep_6 : decode cL_sweep 6 = .ok (.iload_n 3, 1) := by decide +kernel
theorem dL_sweep_7 : decode cL_sweep 7 = .ok (.iload 4, 2) := by decide +kernel
theorem dL_sweep_9 : decode cL_sweep 9 = .ok (.invokevirtual 119, 3) := by decide +kernel
theorem dL_sweep_17 : decode cL_sweep 17 = .ok (.astore 6, 2) := by decide +kernel
theorem dL_sweep_19 : decode cL_sweep 19 = .ok (.iconst 1, 1) := by decide +kernel
theorem dL_sweep_20 : decode cL_sweep 20 = .ok (.ireturn, 1) := by decide +kernel
theorem dL_takeSignature_0 : decode cL_takeSignature 0 = .ok (.aload_n 2, 1) := by decide +kernel
theorem dL_takeSignature_1 : decode cL_takeSignature 1 = .ok (.iconst 0, 1) := by decide +kernel
theorem dL_takeSignature_2 : decode cL_takeSignature 2 = .ok (.aload_n 0, 1) := by decide +kernel
theorem dL_takeSignature_3 : decode cL_takeSignature 3 = .ok (.iload_n 1, 1) := by decide +kernel
theorem dL_takeSignature_4 : decode cL_takeSignature 4 = .ok (.invokevirtual 141, 3) := by decide +kernel
theorem dL_takeSignature_12 : decode cL_takeSignature 12 = .ok (.astore_n 3, 1) := by decide +kernel
theorem dL_takeSignature_13 : decode cL_takeSignature 13 = .ok (.iconst 1, 1) := by decide +kernel
theorem dL_takeSignature_14 : decode cL_takeSignature 14 = .ok (.ireturn, 1) := by decide +kernel
theorem dL_takeUp_0 : decode cL_takeUp 0 = .ok (.aload_n 2, 1) := by decide +kernel
theorem dL_takeUp_1 : decode cL_takeUp 1 = .ok (.iconst 0, 1) := by decide +kernel
theorem dL_takeUp_2 : decode cL_takeUp 2 = .ok (.aload_n 0, 1) := by decide +kernel
theorem dL_takeUp_3 : decode cL_takeUp 3 = .ok (.iload_n 1, 1) := by decide +kernel
theorem dL_takeUp_4 : decode cL_takeUp 4 = .ok (.invokevirtual 89, 3) := by decide +kernel
theorem dL_takeUp_12 : decode cL_takeUp 12 = .ok (.astore_n 3, 1) := by decide +kernel
theorem dL_takeUp_13 : decode cL_takeUp 13 = .ok (.iconst 1, 1) := by decide +kernel
theorem dL_takeUp_14 : decode cL_takeUp 14 = .ok (.ireturn, 1) := by decide +kernel
theorem dL_turnLoop_0 : decode cL_turnLoop 0 = .ok (.aload_n 2, 1) := by decide +kernel
theorem dL_turnLoop_1 : decode cL_turnLoop 1 = .ok (.iconst 0, 1) := by decide +kernel
theorem dL_turnLoop_2 : decode cL_turnLoop 2 = .ok (.aload_n 0, 1) := by decide +kernel
theorem dL_turnLoop_3 : decode cL_turnLoop 3 = .ok (.iload_n 1, 1) := by decide +kernel
theorem dL_turnLoop_4 : decode cL_turnLoop 4 = .ok (.invokevirtual 79, 3) := by decide +kernel
theorem dL_turnLoop_12 : decode cL_turnLoop 12 = .ok (.astore_n 3, 1) := by decide +kernel
theorem dL_turnLoop_13 : decode cL_turnLoop 13 = .ok (.iconst 1, 1) := by decide +kernel
theorem dL_turnLoop_14 : decode cL_turnLoop 14 = .ok (.ireturn, 1) := by decide +kernel
theorem dL_type_0 : decode cL_type 0 = .ok (.aload_n 2, 1) := by decide +kernel
theorem dL_type_1 : decode cL_type 1 = .ok (.iconst 0, 1) := by decide +kernel
theorem dL_type_2 : decode cL_type 2 = .ok (.aload_n 0, 1) := by decide +kernel
theorem dL_type_3 : decode cL_type 3 = .ok (.iload_n 1, 1) := by decide +kernel
theorem dL_type_4 : decode cL_type 4 = .ok (.invokevirtual 122, 3) := by decide +kernel
theorem dL_type_7 : decode cL_type 7 = .ok (.i2l, 1) := by decide +kernel
theorem dL_type_8 : decode cL_type 8 = .ok (.lastore, 1) := by decide +kernel
theorem dL_type_9 : decode cL_type 9 = .ok (.goto 9, 3) := by decide +kernel
theorem dL_type_12 : decode cL_type 12 = .ok (.astore_n 3, 1) := by decide +kernel
theorem dL_type_13 : decode cL_type 13 = .ok (.iconst 1, 1) := by decide +kernel
theorem dL_type_14 : decode cL_type 14 = .ok (.ireturn, 1) := by decide +kernel
theorem dL_type_18 : decode cL_type 18 = .ok (.iconst 0, 1) := by decide +kernel
theorem dL_type_19 : decode cL_type 19 = .ok (.ireturn, 1) := by decide +kernel
theorem dX0_init_0 : decode cX0_init 0 = .ok (.aload_n 0, 1) := by decide +kernel
theorem dX0_init_1 : decode cX0_init 1 = .ok (.invokespecial 3, 3) := by decide +kernel
theorem dX0_init_4 : decode cX0_init 4 = .ok (.aload_n 0, 1) := by decide +kernel
theorem dX0_init_5 : decode cX0_init 5 = .ok (.iconst 4, 1) := by decide +kernel
theorem dX0_init_6 : decode cX0_init 6 = .ok (.newarray .int, 2) := by decide +kernel
theorem dX0_init_8 : decode cX0_init 8 = .ok (.putfield 9, 3) := by decide +kernel
theorem dX0_init_11 : decode cX0_init 11 = .ok (.aload_n 0, 1) := by decide +kernel
theorem dX0_init_12 : decode cX0_init 12 = .ok (.iconst 4, 1) := by decide +kernel
theorem dX0_init_13 : decode cX0_init 13 = .ok (.newarray .int, 2) := by decide +kernel
theorem dX0_init_15 : decode cX0_init 15 = .ok (.putfield 15, 3) := by decide +kernel
theorem dX0_init_18 : decode cX0_init 18 = .ok (.aload_n 0, 1) := by decide +kernel
theorem dX0_init_19 : decode cX0_init 19 = .ok (.iconst 4, 1) := by decide +kernel
theorem dX0_init_20 : decode cX0_init 20 = .ok (.newarray .int, 2) := by decide +kernel
theorem dX0_init_22 : decode cX0_init 22 = .ok (.putfield 18, 3) := by decide +kernel
theorem dX0_init_25 : decode cX0_init 25 = .ok (.aload_n 0, 1) := by decide +kernel
theorem dX0_init_26 : decode cX0_init 26 = .ok (.iconst 4, 1) := by decide +kernel
theorem dX0_init_27 : decode cX0_init 27 = .ok (.newarray .int, 2) := by decide +kernel
theorem dX0_init_29 : decode cX0_init 29 = .ok (.putfield 21, 3) := by decide +kernel
theorem dX0_init_32 : decode cX0_init 32 = .ok (.aload_n 0, 1) := by decide +kernel
theorem dX0_init_33 : decode cX0_init 33 = .ok (.iconst 4, 1) := by decide +kernel
theorem dX0_init_34 : decode cX0_init 34 = .ok (.newarray .int, 2) := by decide +kernel
theorem dX0_init_36 : decode cX0_init 36 = .ok (.putfield 24, 3) := by decide +kernel
theorem dX0_init_39 : decode cX0_init 39 = .ok (.aload_n 0, 1) := by decide +kernel
theorem dX0_init_40 : decode cX0_init 40 = .ok (.iconst 4, 1) := by decide +kernel
theorem dX0_init_41 : decode cX0_init 41 = .ok (.newarray .long, 2) := by decide +kernel
theorem dX0_init_43 : decode cX0_init 43 = .ok (.putfield 27, 3) := by decide +kernel
theorem dX0_init_46 : decode cX0_init 46 = .ok (.aload_n 0, 1) := by decide +kernel
theorem dX0_init_47 : decode cX0_init 47 = .ok (.iconst 4, 1) := by decide +kernel
theorem dX0_init_48 : decode cX0_init 48 = .ok (.newarray .long, 2) := by decide +kernel
theorem dX0_init_50 : decode cX0_init 50 = .ok (.putfield 31, 3) := by decide +kernel
theorem dX0_init_53 : decode cX0_init 53 = .ok (.aload_n 0, 1) := by decide +kernel
theorem dX0_init_54 : decode cX0_init 54 = .ok (.iconst 4, 1) := by decide +kernel
theorem dX0_init_55 : decode cX0_init 55 = .ok (.newarray .long, 2) := by decide +kernel
theorem dX0_init_57 : decode cX0_init 57 = .ok (.putfield 34, 3) := by decide +kernel
theorem dX0_init_60 : decode cX0_init 60 = .ok (.aload_n 0, 1) := by decide +kernel
theorem dX0_init_61 : decode cX0_init 61 = .ok (.iconst 4, 1) := by decide +kernel
theorem dX0_init_62 : decode cX0_init 62 = .ok (.newarray .int, 2) := by decide +kernel
theorem dX0_init_64 : decode cX0_init 64 = .ok (.putfield 37, 3) := by decide +kernel
theorem dX0_init_67 : decode cX0_init 67 = .ok (.return_, 1) := by decide +kernel
theorem dX10_addControl_0 : decode cX10_addControl 0 = .ok (.aload_n 0, 1) := by decide +kernel
theorem dX10_addControl_1 : decode cX10_addControl 1 = .ok (.aload_n 0, 1) := by decide +kernel
theorem dX10_addControl_2 : decode cX10_addControl 2 = .ok (.iload_n 1, 1) := by decide +kernel
theorem dX10_addControl_3 : decode cX10_addControl 3 = .ok (.invokevirtual 142, 3) := by decide +kernel
theorem dX10_addControl_6 : decode cX10_addControl 6 = .ok (.ifCond .ne 11, 3) := by decide +kernel
theorem dX10_addControl_17 : decode cX10_addControl 17 = .ok (.iconst 1, 1) := by decide +kernel
theorem dX10_addControl_18 : decode cX10_addControl 18 = .ok (.goto 4, 3) := by decide +kernel
theorem dX10_addControl_22 : decode cX10_addControl 22 = .ok (.iconst 1, 1) := by decide +kernel
theorem dX10_addControl_23 : decode cX10_addControl 23 = .ok (.invokevirtual 60, 3) := by decide +kernel
theorem dX10_addControl_26 : decode cX10_addControl 26 = .ok (.ifCond .ne 26, 3) := by decide +kernel
theorem dX10_addControl_52 : decode cX10_addControl 52 = .ok (.iconst 0, 1) := by decide +kernel
theorem dX10_addControl_53 : decode cX10_addControl 53 = .ok (.ireturn, 1) := by decide +kernel
theorem dX10_addMass_0 : decode cX10_addMass 0 = .ok (.aload_n 0, 1) := by decide +kernel
theorem dX10_addMass_1 : decode cX10_addMass 1 = .ok (.aload_n 0, 1) := by decide +kernel
theorem dX10_addMass_2 : decode cX10_addMass 2 = .ok (.iload_n 1, 1) := by decide +kernel
theorem dX10_addMass_3 : decode cX10_addMass 3 = .ok (.invokevirtual 40, 3) := by decide +kernel
theorem dX10_addMass_6 : decode cX10_addMass 6 = .ok (.iconst 1, 1) := by decide +kernel
theorem dX10_addMass_7 : decode cX10_addMass 7 = .ok (.invokevirtual 60, 3) := by decide +kernel
theorem dX10_addMass_10 : decode cX10_addMass 10 = .ok (.ifCond .ne 82, 3) := by decide +kernel
theorem dX10_addMass_92 : decode cX10_addMass 92 = .ok (.iconst 0, 1) := by decide +kernel
theorem dX10_addMass_93 : decode cX10_addMass 93 = .ok (.ireturn, 1) := by decide +kernel
theorem dX10_addRun_0 : decode cX10_addRun 0 = .ok (.aload_n 0, 1) := by decide +kernel
theorem dX10_addRun_1 : decode cX10_addRun 1 = .ok (.aload_n 0, 1) := by decide +kernel
theorem dX10_addRun_2 : decode cX10_addRun 2 = .ok (.iload_n 1, 1) := by decide +kernel
theorem dX10_addRun_3 : decode cX10_addRun 3 = .ok (.invokevirtual 40, 3) := by decide +kernel
theorem dX10_addRun_6 : decode cX10_addRun 6 = .ok (.ifCond .ne 11, 3) := by decide +kernel
theorem dX10_addRun_17 : decode cX10_addRun 17 = .ok (.iconst 1, 1) := by decide +kernel
theorem dX10_addRun_18 : decode cX10_addRun 18 = .ok (.goto 4, 3) := by decide +kernel
theorem dX10_addRun_22 : decode cX10_addRun 22 = .ok (.iconst 1, 1) := by decide +kernel
theorem dX10_addRun_23 : decode cX10_addRun 23 = .ok (.invokevirtual 60, 3) := by decide +kernel
theorem dX10_addRun_26 : decode cX10_addRun 26 = .ok (.ifCond .ne 72, 3) := by decide +kernel
theorem dX10_addRun_98 : decode cX10_addRun 98 = .ok (.iconst 0, 1) := by decide +kernel
theorem dX10_addRun_99 : decode cX10_addRun 99 = .ok (.ireturn, 1) := by decide +kernel
theorem dX10_addSensor_0 : decode cX10_addSensor 0 = .ok (.aload_n 0, 1) := by decide +kernel
theorem dX10_addSensor_1 : decode cX10_addSensor 1 = .ok (.aload_n 0, 1) := by decide +kernel
theorem dX10_addSensor_2 : decode cX10_addSensor 2 = .ok (.iload_n 1, 1) := by decide +kernel
theorem dX10_addSensor_3 : decode cX10_addSensor 3 = .ok (.iload_n 2, 1) := by decide +kernel
theorem dX10_addSensor_4 : decode cX10_addSensor 4 = .ok (.invokevirtual 69, 3) := by decide +kernel
theorem dX10_addSensor_7 : decode cX10_addSensor 7 = .ok (.iconst 1, 1) := by decide +kernel
theorem dX10_addSensor_8 : decode cX10_addSensor 8 = .ok (.invokevirtual 60, 3) := by decide +kernel
theorem dX10_addSensor_11 : decode cX10_addSensor 11 = .ok (.ifCond .ne 64, 3) := by decide +kernel
theorem dX10_addSensor_75 : decode cX10_addSensor 75 = .ok (.iconst 0, 1) := by decide +kernel
theorem dX10_addSensor_76 : decode cX10_addSensor 76 = .ok (.ireturn, 1) := by decide +kernel
theorem dX10_addSpecification_0 : decode cX10_addSpecification 0 = .ok (.aload_n 0, 1) := by decide +kernel
theorem dX10_addSpecification_1 : decode cX10_addSpecification 1 = .ok (.aload_n 0, 1) := by decide +kernel
theorem dX10_addSpecification_2 : decode cX10_addSpecification 2 = .ok (.getfield 19, 3) := by decide +kernel
theorem dX10_addSpecification_5 : decode cX10_addSpecification 5 = .ok (.invokevirtual 32, 3) := by decide +kernel
theorem dX10_addSpecification_8 : decode cX10_addSpecification 8 = .ok (.iconst 4, 1) := by decide +kernel
theorem dX10_addSpecification_9 : decode cX10_addSpecification 9 = .ok (.if_icmp .ne 7, 3) := by decide +kernel
theorem dX10_addSpecification_16 : decode cX10_addSpecification 16 = .ok (.iconst 0, 1) := by decide +kernel
theorem dX10_addSpecification_17 : decode cX10_addSpecification 17 = .ok (.iconst 1, 1) := by decide +kernel
theorem dX10_addSpecification_18 : decode cX10_addSpecification 18 = .ok (.invokevirtual 60, 3) := by decide +kernel
theorem dX10_addSpecification_21 : decode cX10_addSpecification 21 = .ok (.ifCond .eq 5, 3) := by decide +kernel
theorem dX10_addSpecification_26 : decode cX10_addSpecification 26 = .ok (.iconst 2, 1) := by decide +kernel
theorem dX10_addSpecification_27 : decode cX10_addSpecification 27 = .ok (.bipush 8, 2) := by decide +kernel
theorem dX10_addSpecification_29 : decode cX10_addSpecification 29 = .ok (.multianewarray 123 2, 4) := by decide +kernel
theorem dX10_addSpecification_33 : decode cX10_addSpecification 33 = .ok (.astore_n 1, 1) := by decide +kernel
theorem dX10_addSpecification_34 : decode cX10_addSpecification 34 = .ok (.aload_n 1, 1) := by decide +kernel
theorem dX10_addSpecification_35 : decode cX10_addSpecification 35 = .ok (.iconst 1, 1) := by decide +kernel
theorem dX10_addSpecification_36 : decode cX10_addSpecification 36 = .ok (.aaload, 1) := by decide +kernel
theorem dX10_addSpecification_37 : decode cX10_addSpecification 37 = .ok (.bipush 10, 2) := by decide +kernel
theorem dX10_addSpecification_39 : decode cX10_addSpecification 39 = .ok (.invokestatic 125, 3) := by decide +kernel
theorem dX10_addSpecification_42 : decode cX10_addSpecification 42 = .ok (.aload_n 0, 1) := by decide +kernel
theorem dX10_addSpecification_43 : decode cX10_addSpecification 43 = .ok (.getfield 19, 3) := by decide +kernel
theorem dX10_addSpecification_46 : decode cX10_addSpecification 46 = .ok (.aload_n 1, 1) := by decide +kernel
theorem dX10_addSpecification_47 : decode cX10_addSpecification 47 = .ok (.invokevirtual 65, 3) := by decide +kernel
theorem dX10_addSpecification_50 : decode cX10_addSpecification 50 = .ok (.pop, 1) := by decide +kernel
theorem dX10_addSpecification_51 : decode cX10_addSpecification 51 = .ok (.aload_n 0, 1) := by decide +kernel
theorem dX10_addSpecification_52 : decode cX10_addSpecification 52 = .ok (.getfield 19, 3) := by decide +kernel
theorem dX10_addSpecification_55 : decode cX10_addSpecification 55 = .ok (.invokevirtual 32, 3) := by decide +kernel
theorem dX10_addSpecification_58 : decode cX10_addSpecification 58 = .ok (.iconst 1, 1) := by decide +kernel
theorem dX10_addSpecification_59 : decode cX10_addSpecification 59 = .ok (.isub, 1) := by decide +kernel
theorem dX10_addSpecification_60 : decode cX10_addSpecification 60 = .ok (.ireturn, 1) := by decide +kernel
theorem dX10_addStructure_0 : decode cX10_addStructure 0 = .ok (.aload_n 0, 1) := by decide +kernel
theorem dX10_addStructure_1 : decode cX10_addStructure 1 = .ok (.aload_n 0, 1) := by decide +kernel
theorem dX10_addStructure_2 : decode cX10_addStructure 2 = .ok (.getfield 10, 3) := by decide +kernel
theorem dX10_addStructure_5 : decode cX10_addStructure 5 = .ok (.invokevirtual 32, 3) := by decide +kernel
theorem dX10_addStructure_8 : decode cX10_addStructure 8 = .ok (.bipush 6, 2) := by decide +kernel
theorem dX10_addStructure_10 : decode cX10_addStructure 10 = .ok (.if_icmp .ne 7, 3) := by decide +kernel
theorem dX10_addStructure_17 : decode cX10_addStructure 17 = .ok (.iconst 0, 1) := by decide +kernel
theorem dX10_addStructure_18 : decode cX10_addStructure 18 = .ok (.iconst 1, 1) := by decide +kernel
theorem dX10_addStructure_19 : decode cX10_addStructure 19 = .ok (.invokevirtual 60, 3) := by decide +kernel
theorem dX10_addStructure_22 : decode cX10_addStructure 22 = .ok (.ifCond .eq 5, 3) := by decide +kernel
theorem dX10_addStructure_27 : decode cX10_addStructure 27 = .ok (.aload_n 0, 1) := by decide +kernel
theorem dX10_addStructure_28 : decode cX10_addStructure 28 = .ok (.getfield 10, 3) := by decide +kernel
theorem dX10_addStructure_31 : decode cX10_addStructure 31 = .ok (.new 48, 3) := by decide +kernel
theorem dX10_addStructure_34 : decode cX10_addStructure 34 = .ok (.dup, 1) := by decide +kernel
theorem dX10_addStructure_35 : decode cX10_addStructure 35 = .ok (.invokespecial 64, 3) := by decide +kernel
theorem dX10_addStructure_38 : decode cX10_addStructure 38 = .ok (.invokevirtual 65, 3) := by decide +kernel
theorem dX10_addStructure_41 : decode cX10_addStructure 41 = .ok (.pop, 1) := by decide +kernel
theorem dX10_addStructure_42 : decode cX10_addStructure 42 = .ok (.aload_n 0, 1) := by decide +kernel
theorem dX10_addStructure_43 : decode cX10_addStructure 43 = .ok (.getfield 10, 3) := by decide +kernel
theorem dX10_addStructure_46 : decode cX10_addStructure 46 = .ok (.invokevirtual 32, 3) := by decide +kernel
theorem dX10_addStructure_49 : decode cX10_addStructure 49 = .ok (.iconst 1, 1) := by decide +kernel
theorem dX10_addStructure_50 : decode cX10_addStructure 50 = .ok (.isub, 1) := by decide +kernel
theorem dX10_addStructure_51 : decode cX10_addStructure 51 = .ok (.ireturn, 1) := by decide +kernel
theorem dX10_bandShare_0 : decode cX10_bandShare 0 = .ok (.aload_n 0, 1) := by decide +kernel
theorem dX10_bandShare_1 : decode cX10_bandShare 1 = .ok (.aload_n 0, 1) := by decide +kernel
theorem dX10_bandShare_2 : decode cX10_bandShare 2 = .ok (.iload_n 1, 1) := by decide +kernel
theorem dX10_bandShare_3 : decode cX10_bandShare 3 = .ok (.invokevirtual 142, 3) := by decide +kernel
theorem dX10_bandShare_6 : decode cX10_bandShare 6 = .ok (.iconst 1, 1) := by decide +kernel
theorem dX10_bandShare_7 : decode cX10_bandShare 7 = .ok (.invokevirtual 60, 3) := by decide +kernel
theorem dX10_bandShare_10 : decode cX10_bandShare 10 = .ok (.ifCond .eq 7, 3) := by decide +kernel
theorem dX10_bandShare_13 : decode cX10_bandShare 13 = .ok (.fconst 0, 1) := by decide +kernel
theorem dX10_bandShare_14 : decode cX10_bandShare 14 = .ok (.goto 23, 3) := by decide +kernel
theorem dX10_bandShare_37 : decode cX10_bandShare 37 = .ok (.freturn, 1) := by decide +kernel
theorem dX10_checksum_0 : decode cX10_checksum 0 = .ok (.aload_n 0, 1) := by decide +kernel
theorem dX10_checksum_1 : decode cX10_checksum 1 = .ok (.iconst 0, 1) := by decide +kernel
theorem dX10_checksum_2 : decode cX10_checksum 2 = .ok (.putfield 28, 3) := by decide +kernel
theorem dX10_checksum_5 : decode cX10_checksum 5 = .ok (.ldc2_w 345, 3) := by decide +kernel
theorem dX10_checksum_8 : decode cX10_checksum 8 = .ok (.lstore_n 1, 1) := by decide +kernel
theorem dX10_checksum_9 : decode cX10_checksum 9 = .ok (.aload_n 0, 1) := by decide +kernel
theorem dX10_checksum_10 : decode cX10_checksum 10 = .ok (.getfield 10, 3) := by decide +kernel
theorem dX10_checksum_13 : decode cX10_checksum 13 = .ok (.invokevirtual 156, 3) := by decide +kernel
theorem dX10_checksum_16 : decode cX10_checksum 16 = .ok (.astore_n 3, 1) := by decide +kernel
theorem dX10_checksum_17 : decode cX10_checksum 17 = .ok (.aload_n 3, 1) := by decide +kernel
theorem dX10_checksum_18 : decode cX10_checksum 18 = .ok (.invokeinterface 160 1, 5) := by decide +kernel
theorem dX10_checksum_23 : decode cX10_checksum 23 = .ok (.ifCond .eq 58, 3) := by decide +kernel
theorem dX10_checksum_81 : decode cX10_checksum 81 = .ok (.aload_n 0, 1) := by decide +kernel
theorem dX10_checksum_82 : decode cX10_checksum 82 = .ok (.getfield 22, 3) := by decide +kernel
theorem dX10_checksum_85 : decode cX10_checksum 85 = .ok (.invokevirtual 156, 3) := by decide +kernel
theorem dX10_checksum_88 : decode cX10_checksum 88 = .ok (.astore_n 3, 1) := by decide +kernel
theorem dX10_checksum_89 : decode cX10_checksum 89 = .ok (.aload_n 3, 1) := by decide +kernel
theorem dX10_checksum_90 : decode cX10_checksum 90 = .ok (.invokeinterface 160 1, 5) := by decide +kernel
theorem dX10_checksum_95 : decode cX10_checksum 95 = .ok (.ifCond .eq 59, 3) := by decide +kernel
theorem dX10_checksum_154 : decode cX10_checksum 154 = .ok (.lload_n 1, 1) := by decide +kernel
theorem dX10_checksum_155 : decode cX10_checksum 155 = .ok (.lreturn, 1) := by decide +kernel
theorem dX10_countCycles_0 : decode cX10_countCycles 0 = .ok (.aload_n 0, 1) := by decide +kernel
theorem dX10_countCycles_1 : decode cX10_countCycles 1 = .ok (.iconst 0, 1) := by decide +kernel
theorem dX10_countCycles_2 : decode cX10_countCycles 2 = .ok (.putfield 28, 3) := by decide +kernel
theorem dX10_countCycles_5 : decode cX10_countCycles 5 = .ok (.new 7, 3) := by decide +kernel
theorem dX10_countCycles_8 : decode cX10_countCycles 8 = .ok (.dup, 1) := by decide +kernel
theorem dX10_countCycles_9 : decode cX10_countCycles 9 = .ok (.invokespecial 9, 3) := by decide +kernel
theorem dX10_countCycles_12 : decode cX10_countCycles 12 = .ok (.astore_n 1, 1) := by decide +kernel
theorem dX10_countCycles_13 : decode cX10_countCycles 13 = .ok (.aload_n 0, 1) := by decide +kernel
theorem dX10_countCycles_14 : decode cX10_countCycles 14 = .ok (.getfield 25, 3) := by decide +kernel
theorem dX10_countCycles_17 : decode cX10_countCycles 17 = .ok (.aload_n 1, 1) := by decide +kernel
theorem dX10_countCycles_18 : decode cX10_countCycles 18 = .ok (.invokestatic 318, 3) := by decide +kernel
theorem dX10_countCycles_21 : decode cX10_countCycles 21 = .ok (.astore_n 2, 1) := by decide +kernel
theorem dX10_countCycles_22 : decode cX10_countCycles 22 = .ok (.aload_n 2, 1) := by decide +kernel
theorem dX10_countCycles_23 : decode cX10_countCycles 23 = .ok (.invokevirtual 56, 3) := by decide +kernel
theorem dX10_countCycles_26 : decode cX10_countCycles 26 = .ok (.ifCond .eq 7, 3) := by decide +kernel
theorem dX10_countCycles_29 : decode cX10_countCycles 29 = .ok (.iconst 0, 1) := by decide +kernel
theorem dX10_countCycles_30 : decode cX10_countCycles 30 = .ok (.goto 7, 3) := by decide +kernel
theorem dX10_countCycles_37 : decode cX10_countCycles 37 = .ok (.ireturn, 1) := by decide +kernel
theorem dX10_countEvents_0 : decode cX10_countEvents 0 = .ok (.aload_n 0, 1) := by decide +kernel
theorem dX10_countEvents_1 : decode cX10_countEvents 1 = .ok (.aload_n 0, 1) := by decide +kernel
theorem dX10_countEvents_2 : decode cX10_countEvents 2 = .ok (.iload_n 1, 1) := by decide +kernel
theorem dX10_countEvents_3 : decode cX10_countEvents 3 = .ok (.invokevirtual 142, 3) := by decide +kernel
theorem dX10_countEvents_6 : decode cX10_countEvents 6 = .ok (.iconst 1, 1) := by decide +kernel
theorem dX10_countEvents_7 : decode cX10_countEvents 7 = .ok (.invokevirtual 60, 3) := by decide +kernel
theorem dX10_countEvents_10 : decode cX10_countEvents 10 = .ok (.ifCond .eq 7, 3) := by decide +kernel
theorem dX10_countEvents_13 : decode cX10_countEvents 13 = .ok (.iconst 0, 1) := by decide +kernel
theorem dX10_countEvents_14 : decode cX10_countEvents 14 = .ok (.goto 20, 3) := by decide +kernel
theorem dX10_countEvents_34 : decode cX10_countEvents 34 = .ok (.ireturn, 1) := by decide +kernel
theorem dX10_countOver_0 : decode cX10_countOver 0 = .ok (.aload_n 0, 1) := by decide +kernel
theorem dX10_countOver_1 : decode cX10_countOver 1 = .ok (.aload_n 0, 1) := by decide +kernel
theorem dX10_countOver_2 : decode cX10_countOver 2 = .ok (.iload_n 1, 1) := by decide +kernel
theorem dX10_countOver_3 : decode cX10_countOver 3 = .ok (.invokevirtual 142, 3) := by decide +kernel
theorem dX10_countOver_6 : decode cX10_countOver 6 = .ok (.iconst 1, 1) := by decide +kernel
theorem dX10_countOver_7 : decode cX10_countOver 7 = .ok (.invokevirtual 60, 3) := by decide +kernel
theorem dX10_countOver_10 : decode cX10_countOver 10 = .ok (.ifCond .eq 5, 3) := by decide +kernel
theorem dX10_countOver_13 : decode cX10_countOver 13 = .ok (.iconst 0, 1) := by decide +kernel
theorem dX10_countOver_14 : decode cX10_countOver 14 = .ok (.ireturn, 1) := by decide +kernel
theorem dX10_crack_0 : decode cX10_crack 0 = .ok (.aload_n 0, 1) := by decide +kernel
theorem dX10_crack_1 : decode cX10_crack 1 = .ok (.aload_n 0, 1) := by decide +kernel
theorem dX10_crack_2 : decode cX10_crack 2 = .ok (.iload_n 1, 1) := by decide +kernel
theorem dX10_crack_3 : decode cX10_crack 3 = .ok (.iload_n 2, 1) := by decide +kernel
theorem dX10_crack_4 : decode cX10_crack 4 = .ok (.invokevirtual 69, 3) := by decide +kernel
theorem dX10_crack_7 : decode cX10_crack 7 = .ok (.iconst 1, 1) := by decide +kernel
theorem dX10_crack_8 : decode cX10_crack 8 = .ok (.invokevirtual 60, 3) := by decide +kernel
theorem dX10_crack_11 : decode cX10_crack 11 = .ok (.ifCond .ne 44, 3) := by decide +kernel
theorem dX10_crack_55 : decode cX10_crack 55 = .ok (.iconst 0, 1) := by decide +kernel
theorem dX10_crack_56 : decode cX10_crack 56 = .ok (.ireturn, 1) := by decide +kernel
theorem dX10_damage_0 : decode cX10_damage 0 = .ok (.new 7, 3) := by decide +kernel
theorem dX10_damage_3 : decode cX10_damage 3 = .ok (.dup, 1) := by decide +kernel
theorem dX10_damage_4 : decode cX10_damage 4 = .ok (.invokespecial 9, 3) := by decide +kernel
theorem dX10_damage_7 : decode cX10_damage 7 = .ok (.astore_n 1, 1) := by decide +kernel
theorem dX10_damage_8 : decode cX10_damage 8 = .ok (.aload_n 0, 1) := by decide +kernel
theorem dX10_damage_9 : decode cX10_damage 9 = .ok (.aload_n 1, 1) := by decide +kernel
theorem dX10_damage_10 : decode cX10_damage 10 = .ok (.invokestatic 318, 3) := by decide +kernel
theorem dX10_damage_13 : decode cX10_damage 13 = .ok (.astore_n 2, 1) := by decide +kernel
theorem dX10_damage_14 : decode cX10_damage 14 = .ok (.lconst 0, 1) := by decide +kernel
theorem dX10_damage_15 : decode cX10_damage 15 = .ok (.lstore_n 3, 1) := by decide +kernel
theorem dX10_damage_16 : decode cX10_damage 16 = .ok (.lconst 0, 1) := by decide +kernel
theorem dX10_damage_17 : decode cX10_damage 17 = .ok (.lstore 5, 2) := by decide +kernel
theorem dX10_damage_19 : decode cX10_damage 19 = .ok (.aload_n 1, 1) := by decide +kernel
theorem dX10_damage_20 : decode cX10_damage 20 = .ok (.invokevirtual 156, 3) := by decide +kernel
theorem dX10_damage_23 : decode cX10_damage 23 = .ok (.astore 7, 2) := by decide +kernel
theorem dX10_damage_25 : decode cX10_damage 25 = .ok (.aload 7, 2) := by decide +kernel
theorem dX10_damage_27 : decode cX10_damage 27 = .ok (.invokeinterface 160 1, 5) := by decide +kernel
theorem dX10_damage_32 : decode cX10_damage 32 = .ok (.ifCond .eq 29, 3) := by decide +kernel
theorem dX10_damage_61 : decode cX10_damage 61 = .ok (.iconst 1, 1) := by decide +kernel
theorem dX10_damage_62 : decode cX10_damage 62 = .ok (.istore 7, 2) := by decide +kernel
theorem dX10_damage_64 : decode cX10_damage 64 = .ok (.iload 7, 2) := by decide +kernel
theorem dX10_damage_66 : decode cX10_damage 66 = .ok (.aload_n 2, 1) := by decide +kernel
theorem dX10_damage_67 : decode cX10_damage 67 = .ok (.invokevirtual 32, 3) := by decide +kernel
theorem dX10_damage_70 : decode cX10_damage 70 = .ok (.if_icmp .ge 23, 3) := by decide +kernel
theorem dX10_damage_93 : decode cX10_damage 93 = .ok (.lload_n 3, 1) := by decide +kernel
theorem dX10_damage_94 : decode cX10_damage 94 = .ok (.lload 5, 2) := by decide +kernel
theorem dX10_damage_96 : decode cX10_damage 96 = .ok (.ldc2_w 326, 3) := by decide +kernel
theorem dX10_damage_99 : decode cX10_damage 99 = .ok (.ldiv, 1) := by decide +kernel
theorem dX10_damage_100 : decode cX10_damage 100 = .ok (.ladd, 1) := by decide +kernel
theorem dX10_damage_101 : decode cX10_damage 101 = .ok (.lreturn, 1) := by decide +kernel
theorem dX10_damageOfRow_0 : decode cX10_damageOfRow 0 = .ok (.aload_n 0, 1) := by decide +kernel
theorem dX10_damageOfRow_1 : decode cX10_damageOfRow 1 = .ok (.iconst 0, 1) := by decide +kernel
theorem dX10_damageOfRow_2 : decode cX10_damageOfRow 2 = .ok (.putfield 28, 3) := by decide +kernel
theorem dX10_damageOfRow_5 : decode cX10_damageOfRow 5 = .ok (.aload_n 0, 1) := by decide +kernel
theorem dX10_damageOfRow_6 : decode cX10_damageOfRow 6 = .ok (.getfield 25, 3) := by decide +kernel
theorem dX10_damageOfRow_9 : decode cX10_damageOfRow 9 = .ok (.invokestatic 291, 3) := by decide +kernel
theorem dX10_damageOfRow_12 : decode cX10_damageOfRow 12 = .ok (.lreturn, 1) := by decide +kernel
theorem dX10_differs_0 : decode cX10_differs 0 = .ok (.aload_n 0, 1) := by decide +kernel
theorem dX10_differs_1 : decode cX10_differs 1 = .ok (.aload_n 0, 1) := by decide +kernel
theorem dX10_differs_2 : decode cX10_differs 2 = .ok (.iload_n 1, 1) := by decide +kernel
theorem dX10_differs_3 : decode cX10_differs 3 = .ok (.invokevirtual 40, 3) := by decide +kernel
theorem dX10_differs_6 : decode cX10_differs 6 = .ok (.iconst 1, 1) := by decide +kernel
theorem dX10_differs_7 : decode cX10_differs 7 = .ok (.invokevirtual 60, 3) := by decide +kernel
theorem dX10_differs_10 : decode cX10_differs 10 = .ok (.ifCond .ne 34, 3) := by decide +kernel
theorem dX10_differs_44 : decode cX10_differs 44 = .ok (.iconst 0, 1) := by decide +kernel
theorem dX10_differs_45 : decode cX10_differs 45 = .ok (.ireturn, 1) := by decide +kernel
theorem dX10_getBand_0 : decode cX10_getBand 0 = .ok (.aload_n 0, 1) := by decide +kernel
theorem dX10_getBand_1 : decode cX10_getBand 1 = .ok (.iload_n 1, 1) := by decide +kernel
theorem dX10_getBand_2 : decode cX10_getBand 2 = .ok (.iload_n 2, 1) := by decide +kernel
theorem dX10_getBand_3 : decode cX10_getBand 3 = .ok (.invokevirtual 215, 3) := by decide +kernel
theorem dX10_getBand_6 : decode cX10_getBand 6 = .ok (.ifCond .eq 7, 3) := by decide +kernel
theorem dX10_getBand_9 : decode cX10_getBand 9 = .ok (.iconst 0, 1) := by decide +kernel
theorem dX10_getBand_10 : decode cX10_getBand 10 = .ok (.goto 19, 3) := by decide +kernel
theorem dX10_getBand_29 : decode cX10_getBand 29 = .ok (.ireturn, 1) := by decide +kernel
theorem dX10_getCracks_0 : decode cX10_getCracks 0 = .ok (.aload_n 0, 1) := by decide +kernel
theorem dX10_getCracks_1 : decode cX10_getCracks 1 = .ok (.aload_n 0, 1) := by decide +kernel
theorem dX10_getCracks_2 : decode cX10_getCracks 2 = .ok (.iload_n 1, 1) := by decide +kernel
theorem dX10_getCracks_3 : decode cX10_getCracks 3 = .ok (.invokevirtual 40, 3) := by decide +kernel
theorem dX10_getCracks_6 : decode cX10_getCracks 6 = .ok (.iconst 1, 1) := by decide +kernel
theorem dX10_getCracks_7 : decode cX10_getCracks 7 = .ok (.invokevirtual 60, 3) := by decide +kernel
theorem dX10_getCracks_10 : decode cX10_getCracks 10 = .ok (.ifCond .eq 7, 3) := by decide +kernel
theorem dX10_getCracks_13 : decode cX10_getCracks 13 = .ok (.iconst 0, 1) := by decide +kernel
theorem dX10_getCracks_14 : decode cX10_getCracks 14 = .ok (.goto 17, 3) := by decide +kernel
theorem dX10_getCracks_31 : decode cX10_getCracks 31 = .ok (.ireturn, 1) := by decide +kernel
theorem dX10_getDamage_0 : decode cX10_getDamage 0 = .ok (.aload_n 0, 1) := by decide +kernel
theorem dX10_getDamage_1 : decode cX10_getDamage 1 = .ok (.aload_n 0, 1) := by decide +kernel
theorem dX10_getDamage_2 : decode cX10_getDamage 2 = .ok (.iload_n 1, 1) := by decide +kernel
theorem dX10_getDamage_3 : decode cX10_getDamage 3 = .ok (.invokevirtual 40, 3) := by decide +kernel
theorem dX10_getDamage_6 : decode cX10_getDamage 6 = .ok (.iconst 1, 1) := by decide +kernel
theorem dX10_getDamage_7 : decode cX10_getDamage 7 = .ok (.invokevirtual 60, 3) := by decide +kernel
theorem dX10_getDamage_10 : decode cX10_getDamage 10 = .ok (.ifCond .eq 7, 3) := by decide +kernel
theorem dX10_getDamage_13 : decode cX10_getDamage 13 = .ok (.lconst 0, 1) := by decide +kernel
theorem dX10_getDamage_14 : decode cX10_getDamage 14 = .ok (.goto 17, 3) := by decide +kernel
theorem dX10_getDamage_31 : decode cX10_getDamage 31 = .ok (.lreturn, 1) := by decide +kernel
theorem dX10_getDrive_0 : decode cX10_getDrive 0 = .ok (.aload_n 0, 1) := by decide +kernel
theorem dX10_getDrive_1 : decode cX10_getDrive 1 = .ok (.iload_n 1, 1) := by decide +kernel
theorem dX10_getDrive_2 : decode cX10_getDrive 2 = .ok (.iload_n 2, 1) := by decide +kernel
theorem dX10_getDrive_3 : decode cX10_getDrive 3 = .ok (.invokevirtual 215, 3) := by decide +kernel
theorem dX10_getDrive_6 : decode cX10_getDrive 6 = .ok (.ifCond .eq 7, 3) := by decide +kernel
theorem dX10_getDrive_9 : decode cX10_getDrive 9 = .ok (.iconst 0, 1) := by decide +kernel
theorem dX10_getDrive_10 : decode cX10_getDrive 10 = .ok (.goto 19, 3) := by decide +kernel
theorem dX10_getDrive_29 : decode cX10_getDrive 29 = .ok (.ireturn, 1) := by decide +kernel
theorem dX10_getDue_0 : decode cX10_getDue 0 = .ok (.aload_n 0, 1) := by decide +kernel
theorem dX10_getDue_1 : decode cX10_getDue 1 = .ok (.iload_n 1, 1) := by decide +kernel
theorem dX10_getDue_2 : decode cX10_getDue 2 = .ok (.iload_n 2, 1) := by decide +kernel
theorem dX10_getDue_3 : decode cX10_getDue 3 = .ok (.invokevirtual 215, 3) := by decide +kernel
theorem dX10_getDue_6 : decode cX10_getDue 6 = .ok (.ifCond .eq 7, 3) := by decide +kernel
theorem dX10_getDue_9 : decode cX10_getDue 9 = .ok (.iconst 0, 1) := by decide +kernel
theorem dX10_getDue_10 : decode cX10_getDue 10 = .ok (.goto 19, 3) := by decide +kernel
theorem dX10_getDue_29 : decode cX10_getDue 29 = .ok (.ireturn, 1) := by decide +kernel
theorem dX10_getEvent_0 : decode cX10_getEvent 0 = .ok (.aload_n 0, 1) := by decide +kernel
theorem dX10_getEvent_1 : decode cX10_getEvent 1 = .ok (.aload_n 0, 1) := by decide +kernel
theorem dX10_getEvent_2 : decode cX10_getEvent 2 = .ok (.iload_n 1, 1) := by decide +kernel
theorem dX10_getEvent_3 : decode cX10_getEvent 3 = .ok (.invokevirtual 142, 3) := by decide +kernel
theorem dX10_getEvent_6 : decode cX10_getEvent 6 = .ok (.iconst 1, 1) := by decide +kernel
theorem dX10_getEvent_7 : decode cX10_getEvent 7 = .ok (.invokevirtual 60, 3) := by decide +kernel
theorem dX10_getEvent_10 : decode cX10_getEvent 10 = .ok (.ifCond .ne 43, 3) := by decide +kernel
theorem dX10_getEvent_53 : decode cX10_getEvent 53 = .ok (.bipush 32, 2) := by decide +kernel
theorem dX10_getEvent_55 : decode cX10_getEvent 55 = .ok (.ireturn, 1) := by decide +kernel
theorem dX10_getFelt_0 : decode cX10_getFelt 0 = .ok (.aload_n 0, 1) := by decide +kernel
theorem dX10_getFelt_1 : decode cX10_getFelt 1 = .ok (.aload_n 0, 1) := by decide +kernel
theorem dX10_getFelt_2 : decode cX10_getFelt 2 = .ok (.iload_n 1, 1) := by decide +kernel
theorem dX10_getFelt_3 : decode cX10_getFelt 3 = .ok (.invokevirtual 40, 3) := by decide +kernel
theorem dX10_getFelt_6 : decode cX10_getFelt 6 = .ok (.iconst 1, 1) := by decide +kernel
theorem dX10_getFelt_7 : decode cX10_getFelt 7 = .ok (.invokevirtual 60, 3) := by decide +kernel
theorem dX10_getFelt_10 : decode cX10_getFelt 10 = .ok (.ifCond .ne 15, 3) := by decide +kernel
theorem dX10_getFelt_25 : decode cX10_getFelt 25 = .ok (.iconst 0, 1) := by decide +kernel
theorem dX10_getFelt_26 : decode cX10_getFelt 26 = .ok (.goto 19, 3) := by decide +kernel
theorem dX10_getFelt_45 : decode cX10_getFelt 45 = .ok (.ireturn, 1) := by decide +kernel
theorem dX10_getMinutes_0 : decode cX10_getMinutes 0 = .ok (.aload_n 0, 1) := by decide +kernel
theorem dX10_getMinutes_1 : decode cX10_getMinutes 1 = .ok (.aload_n 0, 1) := by decide +kernel
theorem dX10_getMinutes_2 : decode cX10_getMinutes 2 = .ok (.iload_n 1, 1) := by decide +kernel
theorem dX10_getMinutes_3 : decode cX10_getMinutes 3 = .ok (.invokevirtual 142, 3) := by decide +kernel
theorem dX10_getMinutes_6 : decode cX10_getMinutes 6 = .ok (.iconst 1, 1) := by decide +kernel
theorem dX10_getMinutes_7 : decode cX10_getMinutes 7 = .ok (.invokevirtual 60, 3) := by decide +kernel
theorem dX10_getMinutes_10 : decode cX10_getMinutes 10 = .ok (.ifCond .eq 7, 3) := by decide +kernel
theorem dX10_getMinutes_13 : decode cX10_getMinutes 13 = .ok (.iconst 0, 1) := by decide +kernel
theorem dX10_getMinutes_14 : decode cX10_getMinutes 14 = .ok (.goto 17, 3) := by decide +kernel
theorem dX10_getMinutes_31 : decode cX10_getMinutes 31 = .ok (.ireturn, 1) := by decide +kernel
theorem dX10_getResonance_0 : decode cX10_getResonance 0 = .ok (.aload_n 0, 1) := by decide +kernel
theorem dX10_getResonance_1 : decode cX10_getResonance 1 = .ok (.aload_n 0, 1) := by decide +kernel
theorem dX10_getResonance_2 : decode cX10_getResonance 2 = .ok (.iload_n 1, 1) := by decide +kernel
theorem dX10_getResonance_3 : decode cX10_getResonance 3 = .ok (.invokevirtual 40, 3) := by decide +kernel
theorem dX10_getResonance_6 : decode cX10_getResonance 6 = .ok (.iconst 1, 1) := by decide +kernel
theorem dX10_getResonance_7 : decode cX10_getResonance 7 = .ok (.invokevirtual 60, 3) := by decide +kernel
theorem dX10_getResonance_10 : decode cX10_getResonance 10 = .ok (.ifCond .ne 16, 3) := by decide +kernel
theorem dX10_getResonance_26 : decode cX10_getResonance 26 = .ok (.iconst 0, 1) := by decide +kernel
theorem dX10_getResonance_27 : decode cX10_getResonance 27 = .ok (.goto 8, 3) := by decide +kernel
theorem dX10_getResonance_35 : decode cX10_getResonance 35 = .ok (.ireturn, 1) := by decide +kernel
theorem dX10_getResponse_0 : decode cX10_getResponse 0 = .ok (.aload_n 0, 1) := by decide +kernel
theorem dX10_getResponse_1 : decode cX10_getResponse 1 = .ok (.aload_n 0, 1) := by decide +kernel
theorem dX10_getResponse_2 : decode cX10_getResponse 2 = .ok (.iload_n 1, 1) := by decide +kernel
theorem dX10_getResponse_3 : decode cX10_getResponse 3 = .ok (.iload_n 2, 1) := by decide +kernel
theorem dX10_getResponse_4 : decode cX10_getResponse 4 = .ok (.invokevirtual 69, 3) := by decide +kernel
theorem dX10_getResponse_7 : decode cX10_getResponse 7 = .ok (.iconst 1, 1) := by decide +kernel
theorem dX10_getResponse_8 : decode cX10_getResponse 8 = .ok (.invokevirtual 60, 3) := by decide +kernel
theorem dX10_getResponse_11 : decode cX10_getResponse 11 = .ok (.ifCond .ne 26, 3) := by decide +kernel
theorem dX10_getResponse_37 : decode cX10_getResponse 37 = .ok (.iconst 0, 1) := by decide +kernel
theorem dX10_getResponse_38 : decode cX10_getResponse 38 = .ok (.goto 10, 3) := by decide +kernel
theorem dX10_getResponse_48 : decode cX10_getResponse 48 = .ok (.ireturn, 1) := by decide +kernel
theorem dX10_getSpectrum_0 : decode cX10_getSpectrum 0 = .ok (.aload_n 0, 1) := by decide +kernel
theorem dX10_getSpectrum_1 : decode cX10_getSpectrum 1 = .ok (.iload_n 1, 1) := by decide +kernel
theorem dX10_getSpectrum_2 : decode cX10_getSpectrum 2 = .ok (.iconst 4, 1) := by decide +kernel
theorem dX10_getSpectrum_3 : decode cX10_getSpectrum 3 = .ok (.bipush 64, 2) := by decide +kernel
theorem dX10_getSpectrum_5 : decode cX10_getSpectrum 5 = .ok (.invokestatic 36, 3) := by decide +kernel
theorem dX10_getSpectrum_8 : decode cX10_getSpectrum 8 = .ok (.ifCond .ne 7, 3) := by decide +kernel
theorem dX10_getSpectrum_11 : decode cX10_getSpectrum 11 = .ok (.iconst 1, 1) := by decide +kernel
theorem dX10_getSpectrum_12 : decode cX10_getSpectrum 12 = .ok (.goto 4, 3) := by decide +kernel
theorem dX10_getSpectrum_15 : decode cX10_getSpectrum 15 = .ok (.iconst 0, 1) := by decide +kernel
theorem dX10_getSpectrum_16 : decode cX10_getSpectrum 16 = .ok (.iconst 1, 1) := by decide +kernel
theorem dX10_getSpectrum_17 : decode cX10_getSpectrum 17 = .ok (.invokevirtual 60, 3) := by decide +kernel
theorem dX10_getSpectrum_20 : decode cX10_getSpectrum 20 = .ok (.ifCond .ne 18, 3) := by decide +kernel
theorem dX10_getSpectrum_23 : decode cX10_getSpectrum 23 = .ok (.aload_n 0, 1) := by decide +kernel
theorem dX10_getSpectrum_24 : decode cX10_getSpectrum 24 = .ok (.aload_n 0, 1) := by decide +kernel
theorem dX10_getSpectrum_25 : decode cX10_getSpectrum 25 = .ok (.getfield 25, 3) := by decide +kernel
theorem dX10_getSpectrum_28 : decode cX10_getSpectrum 28 = .ok (.invokevirtual 56, 3) := by decide +kernel
theorem dX10_getSpectrum_31 : decode cX10_getSpectrum 31 = .ok (.iconst 2, 1) := by decide +kernel
theorem dX10_getSpectrum_32 : decode cX10_getSpectrum 32 = .ok (.invokevirtual 60, 3) := by decide +kernel
theorem dX10_getSpectrum_35 : decode cX10_getSpectrum 35 = .ok (.ifCond .eq 5, 3) := by decide +kernel
theorem dX10_getSpectrum_38 : decode cX10_getSpectrum 38 = .ok (.iconst 0, 1) := by decide +kernel
theorem dX10_getSpectrum_39 : decode cX10_getSpectrum 39 = .ok (.ireturn, 1) := by decide +kernel
theorem dX10_getSpring_0 : decode cX10_getSpring 0 = .ok (.aload_n 0, 1) := by decide +kernel
theorem dX10_getSpring_1 : decode cX10_getSpring 1 = .ok (.aload_n 0, 1) := by decide +kernel
theorem dX10_getSpring_2 : decode cX10_getSpring 2 = .ok (.iload_n 1, 1) := by decide +kernel
theorem dX10_getSpring_3 : decode cX10_getSpring 3 = .ok (.iload_n 2, 1) := by decide +kernel
theorem dX10_getSpring_4 : decode cX10_getSpring 4 = .ok (.invokevirtual 69, 3) := by decide +kernel
theorem dX10_getSpring_7 : decode cX10_getSpring 7 = .ok (.iconst 1, 1) := by decide +kernel
theorem dX10_getSpring_8 : decode cX10_getSpring 8 = .ok (.invokevirtual 60, 3) := by decide +kernel
theorem dX10_getSpring_11 : decode cX10_getSpring 11 = .ok (.ifCond .eq 7, 3) := by decide +kernel
theorem dX10_getSpring_14 : decode cX10_getSpring 14 = .ok (.iconst 0, 1) := by decide +kernel
theorem dX10_getSpring_15 : decode cX10_getSpring 15 = .ok (.goto 18, 3) := by decide +kernel
theorem dX10_getSpring_33 : decode cX10_getSpring 33 = .ok (.ireturn, 1) := by decide +kernel
theorem dX10_getState_0 : decode cX10_getState 0 = .ok (.aload_n 0, 1) := by decide +kernel
theorem dX10_getState_1 : decode cX10_getState 1 = .ok (.aload_n 0, 1) := by decide +kernel
theorem dX10_getState_2 : decode cX10_getState 2 = .ok (.iload_n 1, 1) := by decide +kernel
theorem dX10_getState_3 : decode cX10_getState 3 = .ok (.invokevirtual 142, 3) := by decide +kernel
theorem dX10_getState_6 : decode cX10_getState 6 = .ok (.iconst 1, 1) := by decide +kernel
theorem dX10_getState_7 : decode cX10_getState 7 = .ok (.invokevirtual 60, 3) := by decide +kernel
theorem dX10_getState_10 : decode cX10_getState 10 = .ok (.ifCond .eq 8, 3) := by decide +kernel
theorem dX10_getState_13 : decode cX10_getState 13 = .ok (.bipush 32, 2) := by decide +kernel
theorem dX10_getState_15 : decode cX10_getState 15 = .ok (.goto 17, 3) := by decide +kernel
theorem dX10_getState_32 : decode cX10_getState 32 = .ok (.ireturn, 1) := by decide +kernel
theorem dX10_init_0 : decode cX10_init 0 = .ok (.aload_n 0, 1) := by decide +kernel
theorem dX10_init_1 : decode cX10_init 1 = .ok (.invokespecial 1, 3) := by decide +kernel
theorem dX10_init_4 : decode cX10_init 4 = .ok (.aload_n 0, 1) := by decide +kernel
theorem dX10_init_5 : decode cX10_init 5 = .ok (.new 7, 3) := by decide +kernel
theorem dX10_init_8 : decode cX10_init 8 = .ok (.dup, 1) := by decide +kernel
theorem dX10_init_9 : decode cX10_init 9 = .ok (.invokespecial 9, 3) := by decide +kernel
theorem dX10_init_12 : decode cX10_init 12 = .ok (.putfield 10, 3) := by decide +kernel
theorem dX10_init_15 : decode cX10_init 15 = .ok (.aload_n 0, 1) := by decide +kernel
theorem dX10_init_16 : decode cX10_init 16 = .ok (.new 7, 3) := by decide +kernel
theorem dX10_init_19 : decode cX10_init 19 = .ok (.dup, 1) := by decide +kernel
theorem dX10_init_20 : decode cX10_init 20 = .ok (.invokespecial 9, 3) := by decide +kernel
theorem dX10_init_23 : decode cX10_init 23 = .ok (.putfield 16, 3) := by decide +kernel
theorem dX10_init_26 : decode cX10_init 26 = .ok (.aload_n 0, 1) := by decide +kernel
theorem dX10_init_27 : decode cX10_init 27 = .ok (.new 7, 3) := by decide +kernel
theorem dX10_init_30 : decode cX10_init 30 = .ok (.dup, 1) := by decide +kernel
theorem dX10_init_31 : decode cX10_init 31 = .ok (.invokespecial 9, 3) := by decide +kernel
theorem dX10_init_34 : decode cX10_init 34 = .ok (.putfield 19, 3) := by decide +kernel
theorem dX10_init_37 : decode cX10_init 37 = .ok (.aload_n 0, 1) := by decide +kernel
theorem dX10_init_38 : decode cX10_init 38 = .ok (.new 7, 3) := by decide +kernel
theorem dX10_init_41 : decode cX10_init 41 = .ok (.dup, 1) := by decide +kernel
theorem dX10_init_42 : decode cX10_init 42 = .ok (.invokespecial 9, 3) := by decide +kernel
theorem dX10_init_45 : decode cX10_init 45 = .ok (.putfield 22, 3) := by decide +kernel
theorem dX10_init_48 : decode cX10_init 48 = .ok (.aload_n 0, 1) := by decide +kernel
theorem dX10_init_49 : decode cX10_init 49 = .ok (.new 7, 3) := by decide +kernel
theorem dX10_init_52 : decode cX10_init 52 = .ok (.dup, 1) := by decide +kernel
theorem dX10_init_53 : decode cX10_init 53 = .ok (.invokespecial 9, 3) := by decide +kernel
theorem dX10_init_56 : decode cX10_init 56 = .ok (.putfield 25, 3) := by decide +kernel
theorem dX10_init_59 : decode cX10_init 59 = .ok (.return_, 1) := by decide +kernel
theorem dX10_isIn_0 : decode cX10_isIn 0 = .ok (.iload_n 0, 1) := by decide +kernel
theorem dX10_isIn_1 : decode cX10_isIn 1 = .ok (.iload_n 1, 1) := by decide +kernel
theorem dX10_isIn_2 : decode cX10_isIn 2 = .ok (.if_icmp .lt 12, 3) := by decide +kernel
theorem dX10_isIn_5 : decode cX10_isIn 5 = .ok (.iload_n 0, 1) := by decide +kernel
theorem dX10_isIn_6 : decode cX10_isIn 6 = .ok (.iload_n 2, 1) := by decide +kernel
theorem dX10_isIn_7 : decode cX10_isIn 7 = .ok (.if_icmp .gt 7, 3) := by decide +kernel
theorem dX10_isIn_10 : decode cX10_isIn 10 = .ok (.iconst 1, 1) := by decide +kernel
theorem dX10_isIn_11 : decode cX10_isIn 11 = .ok (.goto 4, 3) := by decide +kernel
theorem dX10_isIn_14 : decode cX10_isIn 14 = .ok (.iconst 0, 1) := by decide +kernel
theorem dX10_isIn_15 : decode cX10_isIn 15 = .ok (.ireturn, 1) := by decide +kernel
theorem dX10_isInBand__0 : decode cX10_isInBand_ 0 = .ok (.aload_n 0, 1) := by decide +kernel
theorem dX10_isInBand__1 : decode cX10_isInBand_ 1 = .ok (.iload_n 1, 1) := by decide +kernel
theorem dX10_isInBand__2 : decode cX10_isInBand_ 2 = .ok (.iload_n 2, 1) := by decide +kernel
theorem dX10_isInBand__3 : decode cX10_isInBand_ 3 = .ok (.invokevirtual 215, 3) := by decide +kernel
theorem dX10_isInBand__6 : decode cX10_isInBand_ 6 = .ok (.ifCond .ne 26, 3) := by decide +kernel
theorem dX10_isInBand__32 : decode cX10_isInBand_ 32 = .ok (.iconst 0, 1) := by decide +kernel
theorem dX10_isInBand__33 : decode cX10_isInBand_ 33 = .ok (.ireturn, 1) := by decide +kernel
theorem dX10_isNoBandOf_0 : decode cX10_isNoBandOf 0 = .ok (.aload_n 0, 1) := by decide +kernel
theorem dX10_isNoBandOf_1 : decode cX10_isNoBandOf 1 = .ok (.aload_n 0, 1) := by decide +kernel
theorem dX10_isNoBandOf_2 : decode cX10_isNoBandOf 2 = .ok (.iload_n 1, 1) := by decide +kernel
theorem dX10_isNoBandOf_3 : decode cX10_isNoBandOf 3 = .ok (.invokevirtual 142, 3) := by decide +kernel
theorem dX10_isNoBandOf_6 : decode cX10_isNoBandOf 6 = .ok (.iconst 1, 1) := by decide +kernel
theorem dX10_isNoBandOf_7 : decode cX10_isNoBandOf 7 = .ok (.invokevirtual 60, 3) := by decide +kernel
theorem dX10_isNoBandOf_10 : decode cX10_isNoBandOf 10 = .ok (.ifCond .ne 15, 3) := by decide +kernel
theorem dX10_isNoBandOf_25 : decode cX10_isNoBandOf 25 = .ok (.iconst 1, 1) := by decide +kernel
theorem dX10_isNoBandOf_26 : decode cX10_isNoBandOf 26 = .ok (.goto 4, 3) := by decide +kernel
theorem dX10_isNoBandOf_30 : decode cX10_isNoBandOf 30 = .ok (.ireturn, 1) := by decide +kernel
theorem dX10_isNoMass_0 : decode cX10_isNoMass 0 = .ok (.aload_n 0, 1) := by decide +kernel
theorem dX10_isNoMass_1 : decode cX10_isNoMass 1 = .ok (.iload_n 1, 1) := by decide +kernel
theorem dX10_isNoMass_2 : decode cX10_isNoMass 2 = .ok (.invokevirtual 40, 3) := by decide +kernel
theorem dX10_isNoMass_5 : decode cX10_isNoMass 5 = .ok (.ifCond .ne 25, 3) := by decide +kernel
theorem dX10_isNoMass_30 : decode cX10_isNoMass 30 = .ok (.iconst 1, 1) := by decide +kernel
theorem dX10_isNoMass_31 : decode cX10_isNoMass 31 = .ok (.goto 4, 3) := by decide +kernel
theorem dX10_isNoMass_35 : decode cX10_isNoMass 35 = .ok (.ireturn, 1) := by decide +kernel
theorem dX10_isNoRun_0 : decode cX10_isNoRun 0 = .ok (.iload_n 1, 1) := by decide +kernel
theorem dX10_isNoRun_1 : decode cX10_isNoRun 1 = .ok (.iconst 0, 1) := by decide +kernel
theorem dX10_isNoRun_2 : decode cX10_isNoRun 2 = .ok (.aload_n 0, 1) := by decide +kernel
theorem dX10_isNoRun_3 : decode cX10_isNoRun 3 = .ok (.getfield 22, 3) := by decide +kernel
theorem dX10_isNoRun_6 : decode cX10_isNoRun 6 = .ok (.invokevirtual 32, 3) := by decide +kernel
theorem dX10_isNoRun_9 : decode cX10_isNoRun 9 = .ok (.iconst 1, 1) := by decide +kernel
theorem dX10_isNoRun_10 : decode cX10_isNoRun 10 = .ok (.isub, 1) := by decide +kernel
theorem dX10_isNoRun_11 : decode cX10_isNoRun 11 = .ok (.invokestatic 36, 3) := by decide +kernel
theorem dX10_isNoRun_14 : decode cX10_isNoRun 14 = .ok (.ifCond .ne 7, 3) := by decide +kernel
theorem dX10_isNoRun_17 : decode cX10_isNoRun 17 = .ok (.iconst 1, 1) := by decide +kernel
theorem dX10_isNoRun_18 : decode cX10_isNoRun 18 = .ok (.goto 4, 3) := by decide +kernel
theorem dX10_isNoRun_22 : decode cX10_isNoRun 22 = .ok (.ireturn, 1) := by decide +kernel
theorem dX10_isNoSensor_0 : decode cX10_isNoSensor 0 = .ok (.iload_n 1, 1) := by decide +kernel
theorem dX10_isNoSensor_1 : decode cX10_isNoSensor 1 = .ok (.iconst 0, 1) := by decide +kernel
theorem dX10_isNoSensor_2 : decode cX10_isNoSensor 2 = .ok (.aload_n 0, 1) := by decide +kernel
theorem dX10_isNoSensor_3 : decode cX10_isNoSensor 3 = .ok (.getfield 16, 3) := by decide +kernel
theorem dX10_isNoSensor_6 : decode cX10_isNoSensor 6 = .ok (.invokevirtual 32, 3) := by decide +kernel
theorem dX10_isNoSensor_9 : decode cX10_isNoSensor 9 = .ok (.iconst 1, 1) := by decide +kernel
theorem dX10_isNoSensor_10 : decode cX10_isNoSensor 10 = .ok (.isub, 1) := by decide +kernel
theorem dX10_isNoSensor_11 : decode cX10_isNoSensor 11 = .ok (.invokestatic 36, 3) := by decide +kernel
theorem dX10_isNoSensor_14 : decode cX10_isNoSensor 14 = .ok (.ifCond .ne 7, 3) := by decide +kernel
theorem dX10_isNoSensor_17 : decode cX10_isNoSensor 17 = .ok (.iconst 1, 1) := by decide +kernel
theorem dX10_isNoSensor_18 : decode cX10_isNoSensor 18 = .ok (.goto 4, 3) := by decide +kernel
theorem dX10_isNoSensor_22 : decode cX10_isNoSensor 22 = .ok (.ireturn, 1) := by decide +kernel
theorem dX10_isNoSpecification_0 : decode cX10_isNoSpecification 0 = .ok (.iload_n 1, 1) := by decide +kernel
theorem dX10_isNoSpecification_1 : decode cX10_isNoSpecification 1 = .ok (.iconst 0, 1) := by decide +kernel
theorem dX10_isNoSpecification_2 : decode cX10_isNoSpecification 2 = .ok (.aload_n 0, 1) := by decide +kernel
theorem dX10_isNoSpecification_3 : decode cX10_isNoSpecification 3 = .ok (.getfield 19, 3) := by decide +kernel
theorem dX10_isNoSpecification_6 : decode cX10_isNoSpecification 6 = .ok (.invokevirtual 32, 3) := by decide +kernel
theorem dX10_isNoSpecification_9 : decode cX10_isNoSpecification 9 = .ok (.iconst 1, 1) := by decide +kernel
theorem dX10_isNoSpecification_10 : decode cX10_isNoSpecification 10 = .ok (.isub, 1) := by decide +kernel
theorem dX10_isNoSpecification_11 : decode cX10_isNoSpecification 11 = .ok (.invokestatic 36, 3) := by decide +kernel
theorem dX10_isNoSpecification_14 : decode cX10_isNoSpecification 14 = .ok (.ifCond .ne 7, 3) := by decide +kernel
theorem dX10_isNoSpecification_17 : decode cX10_isNoSpecification 17 = .ok (.iconst 1, 1) := by decide +kernel
theorem dX10_isNoSpecification_18 : decode cX10_isNoSpecification 18 = .ok (.goto 4, 3) := by decide +kernel
theorem dX10_isNoSpecification_22 : decode cX10_isNoSpecification 22 = .ok (.ireturn, 1) := by decide +kernel
theorem dX10_isNoStructure_0 : decode cX10_isNoStructure 0 = .ok (.iload_n 1, 1) := by decide +kernel
theorem dX10_isNoStructure_1 : decode cX10_isNoStructure 1 = .ok (.iconst 0, 1) := by decide +kernel
theorem dX10_isNoStructure_2 : decode cX10_isNoStructure 2 = .ok (.aload_n 0, 1) := by decide +kernel
theorem dX10_isNoStructure_3 : decode cX10_isNoStructure 3 = .ok (.getfield 10, 3) := by decide +kernel
theorem dX10_isNoStructure_6 : decode cX10_isNoStructure 6 = .ok (.invokevirtual 32, 3) := by decide +kernel
theorem dX10_isNoStructure_9 : decode cX10_isNoStructure 9 = .ok (.iconst 1, 1) := by decide +kernel
theorem dX10_isNoStructure_10 : decode cX10_isNoStructure 10 = .ok (.isub, 1) := by decide +kernel
theorem dX10_isNoStructure_11 : decode cX10_isNoStructure 11 = .ok (.invokestatic 36, 3) := by decide +kernel
theorem dX10_isNoStructure_14 : decode cX10_isNoStructure 14 = .ok (.ifCond .ne 7, 3) := by decide +kernel
theorem dX10_isNoStructure_17 : decode cX10_isNoStructure 17 = .ok (.iconst 1, 1) := by decide +kernel
theorem dX10_isNoStructure_18 : decode cX10_isNoStructure 18 = .ok (.goto 4, 3) := by decide +kernel
theorem dX10_isNoStructure_22 : decode cX10_isNoStructure 22 = .ok (.ireturn, 1) := by decide +kernel
theorem dX10_isSound_0 : decode cX10_isSound 0 = .ok (.aload_n 0, 1) := by decide +kernel
theorem dX10_isSound_1 : decode cX10_isSound 1 = .ok (.iconst 0, 1) := by decide +kernel
theorem dX10_isSound_2 : decode cX10_isSound 2 = .ok (.putfield 28, 3) := by decide +kernel
theorem dX10_isSound_5 : decode cX10_isSound 5 = .ok (.iconst 1, 1) := by decide +kernel
theorem dX10_isSound_6 : decode cX10_isSound 6 = .ok (.ireturn, 1) := by decide +kernel
theorem dX10_isThrown_0 : decode cX10_isThrown 0 = .ok (.aload_n 0, 1) := by decide +kernel
theorem dX10_isThrown_1 : decode cX10_isThrown 1 = .ok (.iload_n 1, 1) := by decide +kernel
theorem dX10_isThrown_2 : decode cX10_isThrown 2 = .ok (.ifCond .eq 7, 3) := by decide +kernel
theorem dX10_isThrown_5 : decode cX10_isThrown 5 = .ok (.iload_n 2, 1) := by decide +kernel
theorem dX10_isThrown_6 : decode cX10_isThrown 6 = .ok (.goto 4, 3) := by decide +kernel
theorem dX10_isThrown_9 : decode cX10_isThrown 9 = .ok (.iconst 0, 1) := by decide +kernel
theorem dX10_isThrown_10 : decode cX10_isThrown 10 = .ok (.putfield 28, 3) := by decide +kernel
theorem dX10_isThrown_13 : decode cX10_isThrown 13 = .ok (.iload_n 1, 1) := by decide +kernel
theorem dX10_isThrown_14 : decode cX10_isThrown 14 = .ok (.ireturn, 1) := by decide +kernel
theorem dX10_meanDrive_0 : decode cX10_meanDrive 0 = .ok (.aload_n 0, 1) := by decide +kernel
theorem dX10_meanDrive_1 : decode cX10_meanDrive 1 = .ok (.aload_n 0, 1) := by decide +kernel
theorem dX10_meanDrive_2 : decode cX10_meanDrive 2 = .ok (.iload_n 1, 1) := by decide +kernel
theorem dX10_meanDrive_3 : decode cX10_meanDrive 3 = .ok (.invokevirtual 142, 3) := by decide +kernel
theorem dX10_meanDrive_6 : decode cX10_meanDrive 6 = .ok (.iconst 1, 1) := by decide +kernel
theorem dX10_meanDrive_7 : decode cX10_meanDrive 7 = .ok (.invokevirtual 60, 3) := by decide +kernel
theorem dX10_meanDrive_10 : decode cX10_meanDrive 10 = .ok (.ifCond .eq 7, 3) := by decide +kernel
theorem dX10_meanDrive_13 : decode cX10_meanDrive 13 = .ok (.dconst 0, 1) := by decide +kernel
theorem dX10_meanDrive_14 : decode cX10_meanDrive 14 = .ok (.goto 25, 3) := by decide +kernel
theorem dX10_meanDrive_39 : decode cX10_meanDrive 39 = .ok (.dreturn, 1) := by decide +kernel
theorem dX10_rains_0 : decode cX10_rains 0 = .ok (.new 7, 3) := by decide +kernel
theorem dX10_rains_3 : decode cX10_rains 3 = .ok (.dup, 1) := by decide +kernel
theorem dX10_rains_4 : decode cX10_rains 4 = .ok (.invokespecial 9, 3) := by decide +kernel
theorem dX10_rains_7 : decode cX10_rains 7 = .ok (.astore_n 2, 1) := by decide +kernel
theorem dX10_rains_8 : decode cX10_rains 8 = .ok (.aload_n 0, 1) := by decide +kernel
theorem dX10_rains_9 : decode cX10_rains 9 = .ok (.invokestatic 307, 3) := by decide +kernel
theorem dX10_rains_12 : decode cX10_rains 12 = .ok (.invokevirtual 156, 3) := by decide +kernel
theorem dX10_rains_15 : decode cX10_rains 15 = .ok (.astore_n 3, 1) := by decide +kernel
theorem dX10_rains_16 : decode cX10_rains 16 = .ok (.aload_n 3, 1) := by decide +kernel
theorem dX10_rains_17 : decode cX10_rains 17 = .ok (.invokeinterface 160 1, 5) := by decide +kernel
theorem dX10_rains_22 : decode cX10_rains 22 = .ok (.ifCond .eq 118, 3) := by decide +kernel
theorem dX10_rains_140 : decode cX10_rains 140 = .ok (.aload_n 2, 1) := by decide +kernel
theorem dX10_rains_141 : decode cX10_rains 141 = .ok (.areturn, 1) := by decide +kernel
theorem dX10_raise_0 : decode cX10_raise 0 = .ok (.aload_n 0, 1) := by decide +kernel
theorem dX10_raise_1 : decode cX10_raise 1 = .ok (.aload_n 0, 1) := by decide +kernel
theorem dX10_raise_2 : decode cX10_raise 2 = .ok (.iload_n 1, 1) := by decide +kernel
theorem dX10_raise_3 : decode cX10_raise 3 = .ok (.invokevirtual 142, 3) := by decide +kernel
theorem dX10_raise_6 : decode cX10_raise 6 = .ok (.iconst 1, 1) := by decide +kernel
theorem dX10_raise_7 : decode cX10_raise 7 = .ok (.invokevirtual 60, 3) := by decide +kernel
theorem dX10_raise_10 : decode cX10_raise 10 = .ok (.ifCond .eq 5, 3) := by decide +kernel
theorem dX10_raise_13 : decode cX10_raise 13 = .ok (.iconst 0, 1) := by decide +kernel
theorem dX10_raise_14 : decode cX10_raise 14 = .ok (.ireturn, 1) := by decide +kernel
theorem dX10_read_0 : decode cX10_read 0 = .ok (.aload_n 0, 1) := by decide +kernel
theorem dX10_read_1 : decode cX10_read 1 = .ok (.aload_n 0, 1) := by decide +kernel
theorem dX10_read_2 : decode cX10_read 2 = .ok (.iload_n 1, 1) := by decide +kernel
theorem dX10_read_3 : decode cX10_read 3 = .ok (.invokevirtual 114, 3) := by decide +kernel
theorem dX10_read_6 : decode cX10_read 6 = .ok (.iconst 1, 1) := by decide +kernel
theorem dX10_read_7 : decode cX10_read 7 = .ok (.invokevirtual 60, 3) := by decide +kernel
theorem dX10_read_10 : decode cX10_read 10 = .ok (.ifCond .ne 26, 3) := by decide +kernel
theorem dX10_read_36 : decode cX10_read 36 = .ok (.iconst 0, 1) := by decide +kernel
theorem dX10_read_37 : decode cX10_read 37 = .ok (.goto 9, 3) := by decide +kernel
theorem dX10_read_46 : decode cX10_read 46 = .ok (.ireturn, 1) := by decide +kernel
theorem dX10_setAbort_0 : decode cX10_setAbort 0 = .ok (.aload_n 0, 1) := by decide +kernel
theorem dX10_setAbort_1 : decode cX10_setAbort 1 = .ok (.aload_n 0, 1) := by decide +kernel
theorem dX10_setAbort_2 : decode cX10_setAbort 2 = .ok (.iload_n 1, 1) := by decide +kernel
theorem dX10_setAbort_3 : decode cX10_setAbort 3 = .ok (.invokevirtual 142, 3) := by decide +kernel
theorem dX10_setAbort_6 : decode cX10_setAbort 6 = .ok (.iconst 1, 1) := by decide +kernel
theorem dX10_setAbort_7 : decode cX10_setAbort 7 = .ok (.invokevirtual 60, 3) := by decide +kernel
theorem dX10_setAbort_10 : decode cX10_setAbort 10 = .ok (.ifCond .ne 26, 3) := by decide +kernel
theorem dX10_setAbort_36 : decode cX10_setAbort 36 = .ok (.iconst 0, 1) := by decide +kernel
theorem dX10_setAbort_37 : decode cX10_setAbort 37 = .ok (.ireturn, 1) := by decide +kernel
theorem dX10_setLevel_0 : decode cX10_setLevel 0 = .ok (.aload_n 0, 1) := by decide +kernel
theorem dX10_setLevel_1 : decode cX10_setLevel 1 = .ok (.aload_n 0, 1) := by decide +kernel
theorem dX10_setLevel_2 : decode cX10_setLevel 2 = .ok (.iload_n 1, 1) := by decide +kernel
theorem dX10_setLevel_3 : decode cX10_setLevel 3 = .ok (.invokevirtual 131, 3) := by decide +kernel
theorem dX10_setLevel_6 : decode cX10_setLevel 6 = .ok (.iconst 1, 1) := by decide +kernel
theorem dX10_setLevel_7 : decode cX10_setLevel 7 = .ok (.invokevirtual 60, 3) := by decide +kernel
theorem dX10_setLevel_10 : decode cX10_setLevel 10 = .ok (.ifCond .ne 33, 3) := by decide +kernel
theorem dX10_setLevel_43 : decode cX10_setLevel 43 = .ok (.iconst 0, 1) := by decide +kernel
theorem dX10_setLevel_44 : decode cX10_setLevel 44 = .ok (.goto 11, 3) := by decide +kernel
theorem dX10_setLevel_55 : decode cX10_setLevel 55 = .ok (.ireturn, 1) := by decide +kernel
theorem dX10_setLife_0 : decode cX10_setLife 0 = .ok (.aload_n 0, 1) := by decide +kernel
theorem dX10_setLife_1 : decode cX10_setLife 1 = .ok (.aload_n 0, 1) := by decide +kernel
theorem dX10_setLife_2 : decode cX10_setLife 2 = .ok (.iload_n 1, 1) := by decide +kernel
theorem dX10_setLife_3 : decode cX10_setLife 3 = .ok (.invokevirtual 40, 3) := by decide +kernel
theorem dX10_setLife_6 : decode cX10_setLife 6 = .ok (.iconst 1, 1) := by decide +kernel
theorem dX10_setLife_7 : decode cX10_setLife 7 = .ok (.invokevirtual 60, 3) := by decide +kernel
theorem dX10_setLife_10 : decode cX10_setLife 10 = .ok (.ifCond .ne 27, 3) := by decide +kernel
theorem dX10_setLife_37 : decode cX10_setLife 37 = .ok (.iconst 0, 1) := by decide +kernel
theorem dX10_setLife_38 : decode cX10_setLife 38 = .ok (.ireturn, 1) := by decide +kernel
theorem dX10_setLoose_0 : decode cX10_setLoose 0 = .ok (.aload_n 0, 1) := by decide +kernel
theorem dX10_setLoose_1 : decode cX10_setLoose 1 = .ok (.aload_n 0, 1) := by decide +kernel
theorem dX10_setLoose_2 : decode cX10_setLoose 2 = .ok (.iload_n 1, 1) := by decide +kernel
theorem dX10_setLoose_3 : decode cX10_setLoose 3 = .ok (.invokevirtual 114, 3) := by decide +kernel
theorem dX10_setLoose_6 : decode cX10_setLoose 6 = .ok (.iconst 1, 1) := by decide +kernel
theorem dX10_setLoose_7 : decode cX10_setLoose 7 = .ok (.invokevirtual 60, 3) := by decide +kernel
theorem dX10_setLoose_10 : decode cX10_setLoose 10 = .ok (.ifCond .eq 5, 3) := by decide +kernel
theorem dX10_setLoose_13 : decode cX10_setLoose 13 = .ok (.iconst 0, 1) := by decide +kernel
theorem dX10_setLoose_14 : decode cX10_setLoose 14 = .ok (.ireturn, 1) := by decide +kernel
theorem dX10_setNotch_0 : decode cX10_setNotch 0 = .ok (.aload_n 0, 1) := by decide +kernel
theorem dX10_setNotch_1 : decode cX10_setNotch 1 = .ok (.aload_n 0, 1) := by decide +kernel
theorem dX10_setNotch_2 : decode cX10_setNotch 2 = .ok (.iload_n 1, 1) := by decide +kernel
theorem dX10_setNotch_3 : decode cX10_setNotch 3 = .ok (.invokevirtual 142, 3) := by decide +kernel
theorem dX10_setNotch_6 : decode cX10_setNotch 6 = .ok (.iconst 1, 1) := by decide +kernel
theorem dX10_setNotch_7 : decode cX10_setNotch 7 = .ok (.invokevirtual 60, 3) := by decide +kernel
theorem dX10_setNotch_10 : decode cX10_setNotch 10 = .ok (.ifCond .ne 65, 3) := by decide +kernel
theorem dX10_setNotch_75 : decode cX10_setNotch 75 = .ok (.iconst 0, 1) := by decide +kernel
theorem dX10_setNotch_76 : decode cX10_setNotch 76 = .ok (.ireturn, 1) := by decide +kernel
theorem dX10_setTolerance_0 : decode cX10_setTolerance 0 = .ok (.aload_n 0, 1) := by decide +kernel
theorem dX10_setTolerance_1 : decode cX10_setTolerance 1 = .ok (.aload_n 0, 1) := by decide +kernel
theorem dX10_setTolerance_2 : decode cX10_setTolerance 2 = .ok (.iload_n 1, 1) := by decide +kernel
theorem dX10_setTolerance_3 : decode cX10_setTolerance 3 = .ok (.invokevirtual 131, 3) := by decide +kernel
theorem dX10_setTolerance_6 : decode cX10_setTolerance 6 = .ok (.iconst 1, 1) := by decide +kernel
theorem dX10_setTolerance_7 : decode cX10_setTolerance 7 = .ok (.invokevirtual 60, 3) := by decide +kernel
theorem dX10_setTolerance_10 : decode cX10_setTolerance 10 = .ok (.ifCond .ne 33, 3) := by decide +kernel
theorem dX10_setTolerance_43 : decode cX10_setTolerance 43 = .ok (.iconst 0, 1) := by decide +kernel
theorem dX10_setTolerance_44 : decode cX10_setTolerance 44 = .ok (.goto 11, 3) := by decide +kernel
theorem dX10_setTolerance_55 : decode cX10_setTolerance 55 = .ok (.ireturn, 1) := by decide +kernel
theorem dX10_shock_0 : decode cX10_shock 0 = .ok (.aload_n 0, 1) := by decide +kernel
theorem dX10_shock_1 : decode cX10_shock 1 = .ok (.aload_n 0, 1) := by decide +kernel
theorem dX10_shock_2 : decode cX10_shock 2 = .ok (.iload_n 1, 1) := by decide +kernel
theorem dX10_shock_3 : decode cX10_shock 3 = .ok (.invokevirtual 40, 3) := by decide +kernel
theorem dX10_shock_6 : decode cX10_shock 6 = .ok (.iconst 1, 1) := by decide +kernel
theorem dX10_shock_7 : decode cX10_shock 7 = .ok (.invokevirtual 60, 3) := by decide +kernel
theorem dX10_shock_10 : decode cX10_shock 10 = .ok (.ifCond .ne 34, 3) := by decide +kernel
theorem dX10_shock_44 : decode cX10_shock 44 = .ok (.iconst 0, 1) := by decide +kernel
theorem dX10_shock_45 : decode cX10_shock 45 = .ok (.ireturn, 1) := by decide +kernel
theorem dX10_sign_0 : decode cX10_sign 0 = .ok (.aload_n 0, 1) := by decide +kernel
theorem dX10_sign_1 : decode cX10_sign 1 = .ok (.iload_n 1, 1) := by decide +kernel
theorem dX10_sign_2 : decode cX10_sign 2 = .ok (.iload_n 2, 1) := by decide +kernel
theorem dX10_sign_3 : decode cX10_sign 3 = .ok (.invokevirtual 215, 3) := by decide +kernel
theorem dX10_sign_6 : decode cX10_sign 6 = .ok (.ifCond .ne 37, 3) := by decide +kernel
theorem dX10_sign_43 : decode cX10_sign 43 = .ok (.iconst 0, 1) := by decide +kernel
theorem dX10_sign_44 : decode cX10_sign 44 = .ok (.ireturn, 1) := by decide +kernel
theorem dX10_sweep_0 : decode cX10_sweep 0 = .ok (.aload_n 0, 1) := by decide +kernel
theorem dX10_sweep_1 : decode cX10_sweep 1 = .ok (.aload_n 0, 1) := by decide +kernel
theorem dX10_sweep_2 : decode cX10_sweep 2 = .ok (.iload_n 1, 1) := by decide +kernel
theorem dX10_sweep_3 : decode cX10_sweep 3 = .ok (.invokevirtual 40, 3) := by decide +kernel
theorem dX10_sweep_6 : decode cX10_sweep 6 = .ok (.iconst 1, 1) := by decide +kernel
theorem dX10_sweep_7 : decode cX10_sweep 7 = .ok (.invokevirtual 60, 3) := by decide +kernel
theorem dX10_sweep_10 : decode cX10_sweep 10 = .ok (.ifCond .ne 60, 3) := by decide +kernel
theorem dX10_sweep_70 : decode cX10_sweep 70 = .ok (.iconst 0, 1) := by decide +kernel
theorem dX10_sweep_71 : decode cX10_sweep 71 = .ok (.ireturn, 1) := by decide +kernel
theorem dX10_takeSignature_0 : decode cX10_takeSignature 0 = .ok (.aload_n 0, 1) := by decide +kernel
theorem dX10_takeSignature_1 : decode cX10_takeSignature 1 = .ok (.aload_n 0, 1) := by decide +kernel
theorem dX10_takeSignature_2 : decode cX10_takeSignature 2 = .ok (.iload_n 1, 1) := by decide +kernel
theorem dX10_takeSignature_3 : decode cX10_takeSignature 3 = .ok (.invokevirtual 40, 3) := by decide +kernel
theorem dX10_takeSignature_6 : decode cX10_takeSignature 6 = .ok (.iconst 1, 1) := by decide +kernel
theorem dX10_takeSignature_7 : decode cX10_takeSignature 7 = .ok (.invokevirtual 60, 3) := by decide +kernel
theorem dX10_takeSignature_10 : decode cX10_takeSignature 10 = .ok (.ifCond .ne 16, 3) := by decide +kernel
theorem dX10_takeSignature_26 : decode cX10_takeSignature 26 = .ok (.iconst 0, 1) := by decide +kernel
theorem dX10_takeSignature_27 : decode cX10_takeSignature 27 = .ok (.ireturn, 1) := by decide +kernel
theorem dX10_takeUp_0 : decode cX10_takeUp 0 = .ok (.aload_n 0, 1) := by decide +kernel
theorem dX10_takeUp_1 : decode cX10_takeUp 1 = .ok (.aload_n 0, 1) := by decide +kernel
theorem dX10_takeUp_2 : decode cX10_takeUp 2 = .ok (.iload_n 1, 1) := by decide +kernel
theorem dX10_takeUp_3 : decode cX10_takeUp 3 = .ok (.invokevirtual 142, 3) := by decide +kernel
theorem dX10_takeUp_6 : decode cX10_takeUp 6 = .ok (.iconst 1, 1) := by decide +kernel
theorem dX10_takeUp_7 : decode cX10_takeUp 7 = .ok (.invokevirtual 60, 3) := by decide +kernel
theorem dX10_takeUp_10 : decode cX10_takeUp 10 = .ok (.ifCond .ne 35, 3) := by decide +kernel
theorem dX10_takeUp_45 : decode cX10_takeUp 45 = .ok (.iconst 0, 1) := by decide +kernel
theorem dX10_takeUp_46 : decode cX10_takeUp 46 = .ok (.ireturn, 1) := by decide +kernel
theorem dX10_thrown_0 : decode cX10_thrown 0 = .ok (.aload_n 0, 1) := by decide +kernel
theorem dX10_thrown_1 : decode cX10_thrown 1 = .ok (.getfield 28, 3) := by decide +kernel
theorem dX10_thrown_4 : decode cX10_thrown 4 = .ok (.ireturn, 1) := by decide +kernel
theorem dX10_turnLoop_0 : decode cX10_turnLoop 0 = .ok (.aload_n 0, 1) := by decide +kernel
theorem dX10_turnLoop_1 : decode cX10_turnLoop 1 = .ok (.aload_n 0, 1) := by decide +kernel
theorem dX10_turnLoop_2 : decode cX10_turnLoop 2 = .ok (.iload_n 1, 1) := by decide +kernel
theorem dX10_turnLoop_3 : decode cX10_turnLoop 3 = .ok (.invokevirtual 142, 3) := by decide +kernel
theorem dX10_turnLoop_6 : decode cX10_turnLoop 6 = .ok (.iconst 1, 1) := by decide +kernel
theorem dX10_turnLoop_7 : decode cX10_turnLoop 7 = .ok (.invokevirtual 60, 3) := by decide +kernel
theorem dX10_turnLoop_10 : decode cX10_turnLoop 10 = .ok (.ifCond .eq 5, 3) := by decide +kernel
theorem dX10_turnLoop_13 : decode cX10_turnLoop 13 = .ok (.iconst 0, 1) := by decide +kernel
theorem dX10_turnLoop_14 : decode cX10_turnLoop 14 = .ok (.ireturn, 1) := by decide +kernel
theorem dX10_turns_0 : decode cX10_turns 0 = .ok (.new 7, 3) := by decide +kernel
theorem dX10_turns_3 : decode cX10_turns 3 = .ok (.dup, 1) := by decide +kernel
theorem dX10_turns_4 : decode cX10_turns 4 = .ok (.invokespecial 9, 3) := by decide +kernel
theorem dX10_turns_7 : decode cX10_turns 7 = .ok (.astore_n 1, 1) := by decide +kernel
theorem dX10_turns_8 : decode cX10_turns 8 = .ok (.aload_n 0, 1) := by decide +kernel
theorem dX10_turns_9 : decode cX10_turns 9 = .ok (.invokevirtual 156, 3) := by decide +kernel
theorem dX10_turns_12 : decode cX10_turns 12 = .ok (.astore_n 2, 1) := by decide +kernel
theorem dX10_turns_13 : decode cX10_turns 13 = .ok (.aload_n 2, 1) := by decide +kernel
theorem dX10_turns_14 : decode cX10_turns 14 = .ok (.invokeinterface 160 1, 5) := by decide +kernel
theorem dX10_turns_19 : decode cX10_turns 19 = .ok (.ifCond .eq 141, 3) := by decide +kernel
theorem dX10_turns_160 : decode cX10_turns 160 = .ok (.aload_n 1, 1) := by decide +kernel
theorem dX10_turns_161 : decode cX10_turns 161 = .ok (.areturn, 1) := by decide +kernel
theorem dX10_type_0 : decode cX10_type 0 = .ok (.aload_n 0, 1) := by decide +kernel
theorem dX10_type_1 : decode cX10_type 1 = .ok (.iload_n 1, 1) := by decide +kernel
theorem dX10_type_2 : decode cX10_type 2 = .ok (.ldc_w 270, 3) := by decide +kernel
theorem dX10_type_5 : decode cX10_type 5 = .ok (.ldc 137, 2) := by decide +kernel
theorem dX10_type_7 : decode cX10_type 7 = .ok (.invokestatic 36, 3) := by decide +kernel
theorem dX10_type_10 : decode cX10_type 10 = .ok (.ifCond .ne 7, 3) := by decide +kernel
theorem dX10_type_13 : decode cX10_type 13 = .ok (.iconst 1, 1) := by decide +kernel
theorem dX10_type_14 : decode cX10_type 14 = .ok (.goto 4, 3) := by decide +kernel
theorem dX10_type_17 : decode cX10_type 17 = .ok (.iconst 0, 1) := by decide +kernel
theorem dX10_type_18 : decode cX10_type 18 = .ok (.iconst 1, 1) := by decide +kernel
theorem dX10_type_19 : decode cX10_type 19 = .ok (.invokevirtual 60, 3) := by decide +kernel
theorem dX10_type_22 : decode cX10_type 22 = .ok (.ifCond .ne 28, 3) := by decide +kernel
theorem dX10_type_25 : decode cX10_type 25 = .ok (.aload_n 0, 1) := by decide +kernel
theorem dX10_type_26 : decode cX10_type 26 = .ok (.aload_n 0, 1) := by decide +kernel
theorem dX10_type_27 : decode cX10_type 27 = .ok (.getfield 25, 3) := by decide +kernel
theorem dX10_type_30 : decode cX10_type 30 = .ok (.invokevirtual 32, 3) := by decide +kernel
theorem dX10_type_33 : decode cX10_type 33 = .ok (.bipush 24, 2) := by decide +kernel
theorem dX10_type_35 : decode cX10_type 35 = .ok (.if_icmp .ne 7, 3) := by decide +kernel
theorem dX10_type_42 : decode cX10_type 42 = .ok (.iconst 0, 1) := by decide +kernel
theorem dX10_type_43 : decode cX10_type 43 = .ok (.iconst 2, 1) := by decide +kernel
theorem dX10_type_44 : decode cX10_type 44 = .ok (.invokevirtual 60, 3) := by decide +kernel
theorem dX10_type_47 : decode cX10_type 47 = .ok (.ifCond .eq 5, 3) := by decide +kernel
theorem dX10_type_50 : decode cX10_type 50 = .ok (.iconst 0, 1) := by decide +kernel
theorem dX10_type_51 : decode cX10_type 51 = .ok (.ireturn, 1) := by decide +kernel
theorem dX10_type_52 : decode cX10_type 52 = .ok (.aload_n 0, 1) := by decide +kernel
theorem dX10_type_53 : decode cX10_type 53 = .ok (.getfield 25, 3) := by decide +kernel
theorem dX10_type_56 : decode cX10_type 56 = .ok (.iload_n 1, 1) := by decide +kernel
theorem dX10_type_57 : decode cX10_type 57 = .ok (.invokestatic 271, 3) := by decide +kernel
theorem dX10_type_60 : decode cX10_type 60 = .ok (.invokevirtual 65, 3) := by decide +kernel
theorem dX10_type_63 : decode cX10_type 63 = .ok (.pop, 1) := by decide +kernel
theorem dX10_type_64 : decode cX10_type 64 = .ok (.aload_n 0, 1) := by decide +kernel
theorem dX10_type_65 : decode cX10_type 65 = .ok (.getfield 25, 3) := by decide +kernel
theorem dX10_type_68 : decode cX10_type 68 = .ok (.invokevirtual 32, 3) := by decide +kernel
theorem dX10_type_71 : decode cX10_type 71 = .ok (.ireturn, 1) := by decide +kernel
theorem dX10_wipe_0 : decode cX10_wipe 0 = .ok (.aload_n 0, 1) := by decide +kernel
theorem dX10_wipe_1 : decode cX10_wipe 1 = .ok (.iconst 0, 1) := by decide +kernel
theorem dX10_wipe_2 : decode cX10_wipe 2 = .ok (.putfield 28, 3) := by decide +kernel
theorem dX10_wipe_5 : decode cX10_wipe 5 = .ok (.aload_n 0, 1) := by decide +kernel
theorem dX10_wipe_6 : decode cX10_wipe 6 = .ok (.getfield 25, 3) := by decide +kernel
theorem dX10_wipe_9 : decode cX10_wipe 9 = .ok (.invokevirtual 32, 3) := by decide +kernel
theorem dX10_wipe_12 : decode cX10_wipe 12 = .ok (.istore_n 1, 1) := by decide +kernel
theorem dX10_wipe_13 : decode cX10_wipe 13 = .ok (.aload_n 0, 1) := by decide +kernel
theorem dX10_wipe_14 : decode cX10_wipe 14 = .ok (.getfield 25, 3) := by decide +kernel
theorem dX10_wipe_17 : decode cX10_wipe 17 = .ok (.invokevirtual 275, 3) := by decide +kernel
theorem dX10_wipe_20 : decode cX10_wipe 20 = .ok (.iload_n 1, 1) := by decide +kernel
theorem dX10_wipe_21 : decode cX10_wipe 21 = .ok (.ireturn, 1) := by decide +kernel
theorem dX1_clear_0 : decode cX1_clear 0 = .ok (.aload_n 0, 1) := by decide +kernel
theorem dX1_clear_1 : decode cX1_clear 1 = .ok (.iconst 0, 1) := by decide +kernel
theorem dX1_clear_2 : decode cX1_clear 2 = .ok (.putfield 18, 3) := by decide +kernel
theorem dX1_clear_5 : decode cX1_clear 5 = .ok (.return_, 1) := by decide +kernel
theorem dX1_damage_0 : decode cX1_damage 0 = .ok (.aload_n 0, 1) := by decide +kernel
theorem dX1_damage_1 : decode cX1_damage 1 = .ok (.getfield 29, 3) := by decide +kernel
theorem dX1_damage_4 : decode cX1_damage 4 = .ok (.aload_n 0, 1) := by decide +kernel
theorem dX1_damage_5 : decode cX1_damage 5 = .ok (.getfield 33, 3) := by decide +kernel
theorem dX1_damage_8 : decode cX1_damage 8 = .ok (.ldc2_w 52, 3) := by decide +kernel
theorem dX1_damage_11 : decode cX1_damage 11 = .ok (.ldiv, 1) := by decide +kernel
theorem dX1_damage_12 : decode cX1_damage 12 = .ok (.ladd, 1) := by decide +kernel
theorem dX1_damage_13 : decode cX1_damage 13 = .ok (.lreturn, 1) := by decide +kernel
theorem dX1_gather_0 : decode cX1_gather 0 = .ok (.aload_n 0, 1) := by decide +kernel
theorem dX1_gather_1 : decode cX1_gather 1 = .ok (.iconst 0, 1) := by decide +kernel
theorem dX1_gather_2 : decode cX1_gather 2 = .ok (.putfield 26, 3) := by decide +kernel
theorem dX1_gather_5 : decode cX1_gather 5 = .ok (.aload_n 0, 1) := by decide +kernel
theorem dX1_gather_6 : decode cX1_gather 6 = .ok (.lconst 0, 1) := by decide +kernel
theorem dX1_gather_7 : decode cX1_gather 7 = .ok (.putfield 29, 3) := by decide +kernel
theorem dX1_gather_10 : decode cX1_gather 10 = .ok (.aload_n 0, 1) := by decide +kernel
theorem dX1_gather_11 : decode cX1_gather 11 = .ok (.lconst 0, 1) := by decide +kernel
theorem dX1_gather_12 : decode cX1_gather 12 = .ok (.putfield 33, 3) := by decide +kernel
theorem dX1_gather_15 : decode cX1_gather 15 = .ok (.iconst 0, 1) := by decide +kernel
theorem dX1_gather_16 : decode cX1_gather 16 = .ok (.istore_n 1, 1) := by decide +kernel
theorem dX1_gather_17 : decode cX1_gather 17 = .ok (.iconst 0, 1) := by decide +kernel
theorem dX1_gather_18 : decode cX1_gather 18 = .ok (.istore_n 2, 1) := by decide +kernel
theorem dX1_gather_19 : decode cX1_gather 19 = .ok (.iload_n 2, 1) := by decide +kernel
theorem dX1_gather_20 : decode cX1_gather 20 = .ok (.aload_n 0, 1) := by decide +kernel
theorem dX1_gather_21 : decode cX1_gather 21 = .ok (.getfield 18, 3) := by decide +kernel
theorem dX1_gather_24 : decode cX1_gather 24 = .ok (.if_icmp .ge 29, 3) := by decide +kernel
theorem dX1_gather_53 : decode cX1_gather 53 = .ok (.iconst 1, 1) := by decide +kernel
theorem dX1_gather_54 : decode cX1_gather 54 = .ok (.istore_n 2, 1) := by decide +kernel
theorem dX1_gather_55 : decode cX1_gather 55 = .ok (.iload_n 2, 1) := by decide +kernel
theorem dX1_gather_56 : decode cX1_gather 56 = .ok (.iload_n 1, 1) := by decide +kernel
theorem dX1_gather_57 : decode cX1_gather 57 = .ok (.if_icmp .ge 26, 3) := by decide +kernel
theorem dX1_gather_83 : decode cX1_gather 83 = .ok (.return_, 1) := by decide +kernel
theorem dX1_init_0 : decode cX1_init 0 = .ok (.aload_n 0, 1) := by decide +kernel
theorem dX1_init_1 : decode cX1_init 1 = .ok (.invokespecial 3, 3) := by decide +kernel
theorem dX1_init_4 : decode cX1_init 4 = .ok (.aload_n 0, 1) := by decide +kernel
theorem dX1_init_5 : decode cX1_init 5 = .ok (.bipush 89, 2) := by decide +kernel
theorem dX1_init_7 : decode cX1_init 7 = .ok (.newarray .int, 2) := by decide +kernel
theorem dX1_init_9 : decode cX1_init 9 = .ok (.putfield 9, 3) := by decide +kernel
theorem dX1_init_12 : decode cX1_init 12 = .ok (.aload_n 0, 1) := by decide +kernel
theorem dX1_init_13 : decode cX1_init 13 = .ok (.bipush 89, 2) := by decide +kernel
theorem dX1_init_15 : decode cX1_init 15 = .ok (.newarray .int, 2) := by decide +kernel
theorem dX1_init_17 : decode cX1_init 17 = .ok (.putfield 15, 3) := by decide +kernel
theorem dX1_init_20 : decode cX1_init 20 = .ok (.return_, 1) := by decide +kernel
theorem dX4_init_0 : decode cX4_init 0 = .ok (.aload_n 0, 1) := by decide +kernel
theorem dX4_init_1 : decode cX4_init 1 = .ok (.invokespecial 3, 3) := by decide +kernel
theorem dX4_init_4 : decode cX4_init 4 = .ok (.aload_n 0, 1) := by decide +kernel
theorem dX4_init_5 : decode cX4_init 5 = .ok (.bipush 8, 2) := by decide +kernel
theorem dX4_init_7 : decode cX4_init 7 = .ok (.newarray .int, 2) := by decide +kernel
theorem dX4_init_9 : decode cX4_init 9 = .ok (.putfield 9, 3) := by decide +kernel
theorem dX4_init_12 : decode cX4_init 12 = .ok (.aload_n 0, 1) := by decide +kernel
theorem dX4_init_13 : decode cX4_init 13 = .ok (.bipush 8, 2) := by decide +kernel
theorem dX4_init_15 : decode cX4_init 15 = .ok (.newarray .int, 2) := by decide +kernel
theorem dX4_init_17 : decode cX4_init 17 = .ok (.dup, 1) := by decide +kernel
theorem dX4_init_18 : decode cX4_init 18 = .ok (.iconst 0, 1) := by decide +kernel
theorem dX4_init_19 : decode cX4_init 19 = .ok (.bipush 10, 2) := by decide +kernel
theorem dX4_init_21 : decode cX4_init 21 = .ok (.iastore, 1) := by decide +kernel
theorem dX4_init_22 : decode cX4_init 22 = .ok (.dup, 1) := by decide +kernel
theorem dX4_init_23 : decode cX4_init 23 = .ok (.iconst 1, 1) := by decide +kernel
theorem dX4_init_24 : decode cX4_init 24 = .ok (.bipush 10, 2) := by decide +kernel
theorem dX4_init_26 : decode cX4_init 26 = .ok (.iastore, 1) := by decide +kernel
theorem dX4_init_27 : decode cX4_init 27 = .ok (.dup, 1) := by decide +kernel
theorem dX4_init_28 : decode cX4_init 28 = .ok (.iconst 2, 1) := by decide +kernel
theorem dX4_init_29 : decode cX4_init 29 = .ok (.bipush 10, 2) := by decide +kernel
theorem dX4_init_31 : decode cX4_init 31 = .ok (.iastore, 1) := by decide +kernel
theorem dX4_init_32 : decode cX4_init 32 = .ok (.dup, 1) := by decide +kernel
theorem dX4_init_33 : decode cX4_init 33 = .ok (.iconst 3, 1) := by decide +kernel
theorem dX4_init_34 : decode cX4_init 34 = .ok (.bipush 10, 2) := by decide +kernel
theorem dX4_init_36 : decode cX4_init 36 = .ok (.iastore, 1) := by decide +kernel
theorem dX4_init_37 : decode cX4_init 37 = .ok (.dup, 1) := by decide +kernel
theorem dX4_init_38 : decode cX4_init 38 = .ok (.iconst 4, 1) := by decide +kernel
theorem dX4_init_39 : decode cX4_init 39 = .ok (.bipush 10, 2) := by decide +kernel
theorem dX4_init_41 : decode cX4_init 41 = .ok (.iastore, 1) := by decide +kernel
theorem dX4_init_42 : decode cX4_init 42 = .ok (.dup, 1) := by decide +kernel
theorem dX4_init_43 : decode cX4_init 43 = .ok (.iconst 5, 1) := by decide +kernel
theorem dX4_init_44 : decode cX4_init 44 = .ok (.bipush 10, 2) := by decide +kernel
theorem dX4_init_46 : decode cX4_init 46 = .ok (.iastore, 1) := by decide +kernel
theorem dX4_init_47 : decode cX4_init 47 = .ok (.dup, 1) := by decide +kernel
theorem dX4_init_48 : decode cX4_init 48 = .ok (.bipush 6, 2) := by decide +kernel
theorem dX4_init_50 : decode cX4_init 50 = .ok (.bipush 10, 2) := by decide +kernel
theorem dX4_init_52 : decode cX4_init 52 = .ok (.iastore, 1) := by decide +kernel
theorem dX4_init_53 : decode cX4_init 53 = .ok (.dup, 1) := by decide +kernel
theorem dX4_init_54 : decode cX4_init 54 = .ok (.bipush 7, 2) := by decide +kernel
theorem dX4_init_56 : decode cX4_init 56 = .ok (.bipush 10, 2) := by decide +kernel
theorem dX4_init_58 : decode cX4_init 58 = .ok (.iastore, 1) := by decide +kernel
theorem dX4_init_59 : decode cX4_init 59 = .ok (.putfield 15, 3) := by decide +kernel
theorem dX4_init_62 : decode cX4_init 62 = .ok (.return_, 1) := by decide +kernel
theorem dX5_init_0 : decode cX5_init 0 = .ok (.aload_n 0, 1) := by decide +kernel
theorem dX5_init_1 : decode cX5_init 1 = .ok (.invokespecial 3, 3) := by decide +kernel
theorem dX5_init_4 : decode cX5_init 4 = .ok (.aload_n 0, 1) := by decide +kernel
theorem dX5_init_5 : decode cX5_init 5 = .ok (.new 9, 3) := by decide +kernel
theorem dX5_init_8 : decode cX5_init 8 = .ok (.dup, 1) := by decide +kernel
theorem dX5_init_9 : decode cX5_init 9 = .ok (.invokespecial 11, 3) := by decide +kernel
theorem dX5_init_12 : decode cX5_init 12 = .ok (.putfield 12, 3) := by decide +kernel
theorem dX5_init_15 : decode cX5_init 15 = .ok (.aload_n 0, 1) := by decide +kernel
theorem dX5_init_16 : decode cX5_init 16 = .ok (.bipush 8, 2) := by decide +kernel
theorem dX5_init_18 : decode cX5_init 18 = .ok (.newarray .int, 2) := by decide +kernel
theorem dX5_init_20 : decode cX5_init 20 = .ok (.putfield 18, 3) := by decide +kernel
theorem dX5_init_23 : decode cX5_init 23 = .ok (.aload_n 0, 1) := by decide +kernel
theorem dX5_init_24 : decode cX5_init 24 = .ok (.ldc 22, 2) := by decide +kernel
theorem dX5_init_26 : decode cX5_init 26 = .ok (.putfield 23, 3) := by decide +kernel
theorem dX5_init_29 : decode cX5_init 29 = .ok (.return_, 1) := by decide +kernel
theorem dX6_addControl_0 : decode cX6_addControl 0 = .ok (.aload_n 0, 1) := by decide +kernel
theorem dX6_addControl_1 : decode cX6_addControl 1 = .ok (.iload_n 1, 1) := by decide +kernel
theorem dX6_addControl_2 : decode cX6_addControl 2 = .ok (.invokevirtual 171, 3) := by decide +kernel
theorem dX6_addMass_0 : decode cX6_addMass 0 = .ok (.aload_n 0, 1) := by decide +kernel
theorem dX6_addMass_1 : decode cX6_addMass 1 = .ok (.iload_n 1, 1) := by decide +kernel
theorem dX6_addMass_2 : decode cX6_addMass 2 = .ok (.invokevirtual 61, 3) := by decide +kernel
theorem dX6_addRun_0 : decode cX6_addRun 0 = .ok (.aload_n 0, 1) := by decide +kernel
theorem dX6_addRun_1 : decode cX6_addRun 1 = .ok (.iload_n 1, 1) := by decide +kernel
theorem dX6_addRun_2 : decode cX6_addRun 2 = .ok (.invokevirtual 61, 3) := by decide +kernel
theorem dX6_addSensor_0 : decode cX6_addSensor 0 = .ok (.aload_n 0, 1) := by decide +kernel
theorem dX6_addSensor_1 : decode cX6_addSensor 1 = .ok (.iload_n 1, 1) := by decide +kernel
theorem dX6_addSensor_2 : decode cX6_addSensor 2 = .ok (.invokevirtual 61, 3) := by decide +kernel
theorem dX6_addSpecification_0 : decode cX6_addSpecification 0 = .ok (.aload_n 0, 1) := by decide +kernel
theorem dX6_addSpecification_1 : decode cX6_addSpecification 1 = .ok (.getfield 19, 3) := by decide +kernel
theorem dX6_addSpecification_4 : decode cX6_addSpecification 4 = .ok (.invokevirtual 43, 3) := by decide +kernel
theorem dX6_addSpecification_7 : decode cX6_addSpecification 7 = .ok (.iconst 4, 1) := by decide +kernel
theorem dX6_addSpecification_8 : decode cX6_addSpecification 8 = .ok (.if_icmp .lt 13, 3) := by decide +kernel
theorem dX6_addSpecification_21 : decode cX6_addSpecification 21 = .ok (.aload_n 0, 1) := by decide +kernel
theorem dX6_addSpecification_22 : decode cX6_addSpecification 22 = .ok (.getfield 19, 3) := by decide +kernel
theorem dX6_addSpecification_25 : decode cX6_addSpecification 25 = .ok (.new 142, 3) := by decide +kernel
theorem dX6_addSpecification_28 : decode cX6_addSpecification 28 = .ok (.dup, 1) := by decide +kernel
theorem dX6_addSpecification_29 : decode cX6_addSpecification 29 = .ok (.invokespecial 144, 3) := by decide +kernel
theorem dX6_addSpecification_32 : decode cX6_addSpecification 32 = .ok (.invokevirtual 57, 3) := by decide +kernel
theorem dX6_addSpecification_35 : decode cX6_addSpecification 35 = .ok (.pop, 1) := by decide +kernel
theorem dX6_addSpecification_36 : decode cX6_addSpecification 36 = .ok (.aload_n 0, 1) := by decide +kernel
theorem dX6_addSpecification_37 : decode cX6_addSpecification 37 = .ok (.getfield 19, 3) := by decide +kernel
theorem dX6_addSpecification_40 : decode cX6_addSpecification 40 = .ok (.invokevirtual 43, 3) := by decide +kernel
theorem dX6_addSpecification_43 : decode cX6_addSpecification 43 = .ok (.iconst 1, 1) := by decide +kernel
theorem dX6_addSpecification_44 : decode cX6_addSpecification 44 = .ok (.isub, 1) := by decide +kernel
theorem dX6_addSpecification_45 : decode cX6_addSpecification 45 = .ok (.ireturn, 1) := by decide +kernel
theorem dX6_addStructure_0 : decode cX6_addStructure 0 = .ok (.aload_n 0, 1) := by decide +kernel
theorem dX6_addStructure_1 : decode cX6_addStructure 1 = .ok (.getfield 10, 3) := by decide +kernel
theorem dX6_addStructure_4 : decode cX6_addStructure 4 = .ok (.invokevirtual 43, 3) := by decide +kernel
theorem dX6_addStructure_7 : decode cX6_addStructure 7 = .ok (.bipush 6, 2) := by decide +kernel
theorem dX6_addStructure_9 : decode cX6_addStructure 9 = .ok (.if_icmp .lt 13, 3) := by decide +kernel
theorem dX6_addStructure_22 : decode cX6_addStructure 22 = .ok (.aload_n 0, 1) := by decide +kernel
theorem dX6_addStructure_23 : decode cX6_addStructure 23 = .ok (.getfield 10, 3) := by decide +kernel
theorem dX6_addStructure_26 : decode cX6_addStructure 26 = .ok (.new 54, 3) := by decide +kernel
theorem dX6_addStructure_29 : decode cX6_addStructure 29 = .ok (.dup, 1) := by decide +kernel
theorem dX6_addStructure_30 : decode cX6_addStructure 30 = .ok (.invokespecial 56, 3) := by decide +kernel
theorem dX6_addStructure_33 : decode cX6_addStructure 33 = .ok (.invokevirtual 57, 3) := by decide +kernel
theorem dX6_addStructure_36 : decode cX6_addStructure 36 = .ok (.pop, 1) := by decide +kernel
theorem dX6_addStructure_37 : decode cX6_addStructure 37 = .ok (.aload_n 0, 1) := by decide +kernel
theorem dX6_addStructure_38 : decode cX6_addStructure 38 = .ok (.getfield 10, 3) := by decide +kernel
theorem dX6_addStructure_41 : decode cX6_addStructure 41 = .ok (.invokevirtual 43, 3) := by decide +kernel
theorem dX6_addStructure_44 : decode cX6_addStructure 44 = .ok (.iconst 1, 1) := by decide +kernel
theorem dX6_addStructure_45 : decode cX6_addStructure 45 = .ok (.isub, 1) := by decide +kernel
theorem dX6_addStructure_46 : decode cX6_addStructure 46 = .ok (.ireturn, 1) := by decide +kernel
theorem dX6_bandShare_0 : decode cX6_bandShare 0 = .ok (.aload_n 0, 1) := by decide +kernel
theorem dX6_bandShare_1 : decode cX6_bandShare 1 = .ok (.iload_n 1, 1) := by decide +kernel
theorem dX6_bandShare_2 : decode cX6_bandShare 2 = .ok (.invokevirtual 171, 3) := by decide +kernel
theorem dX6_checkPeriod_0 : decode cX6_checkPeriod 0 = .ok (.iload_n 0, 1) := by decide +kernel
theorem dX6_checkPeriod_1 : decode cX6_checkPeriod 1 = .ok (.iconst 4, 1) := by decide +kernel
theorem dX6_checkPeriod_2 : decode cX6_checkPeriod 2 = .ok (.bipush 64, 2) := by decide +kernel
theorem dX6_checkPeriod_4 : decode cX6_checkPeriod 4 = .ok (.invokestatic 68, 3) := by decide +kernel
theorem dX6_checkPeriod_7 : decode cX6_checkPeriod 7 = .ok (.return_, 1) := by decide +kernel
theorem dX6_checkRange_0 : decode cX6_checkRange 0 = .ok (.iload_n 0, 1) := by decide +kernel
theorem dX6_checkRange_1 : decode cX6_checkRange 1 = .ok (.iload_n 1, 1) := by decide +kernel
theorem dX6_checkRange_2 : decode cX6_checkRange 2 = .ok (.if_icmp .lt 8, 3) := by decide +kernel
theorem dX6_checkRange_5 : decode cX6_checkRange 5 = .ok (.iload_n 0, 1) := by decide +kernel
theorem dX6_checkRange_6 : decode cX6_checkRange 6 = .ok (.iload_n 2, 1) := by decide +kernel
theorem dX6_checkRange_7 : decode cX6_checkRange 7 = .ok (.if_icmp .le 14, 3) := by decide +kernel
theorem dX6_checkRange_10 : decode cX6_checkRange 10 = .ok (.new 159, 3) := by decide +kernel
theorem dX6_checkRange_13 : decode cX6_checkRange 13 = .ok (.dup, 1) := by decide +kernel
theorem dX6_checkRange_14 : decode cX6_checkRange 14 = .ok (.ldc_w 401, 3) := by decide +kernel
theorem dX6_checkRange_17 : decode cX6_checkRange 17 = .ok (.invokespecial 163, 3) := by decide +kernel
theorem dX6_checkRange_20 : decode cX6_checkRange 20 = .ok (.athrow, 1) := by decide +kernel
theorem dX6_checkRange_21 : decode cX6_checkRange 21 = .ok (.return_, 1) := by decide +kernel
theorem dX6_checkTyped_0 : decode cX6_checkTyped 0 = .ok (.aload_n 0, 1) := by decide +kernel
theorem dX6_checkTyped_1 : decode cX6_checkTyped 1 = .ok (.getfield 286, 3) := by decide +kernel
theorem dX6_checkTyped_4 : decode cX6_checkTyped 4 = .ok (.iconst 1, 1) := by decide +kernel
theorem dX6_checkTyped_5 : decode cX6_checkTyped 5 = .ok (.if_icmp .ge 14, 3) := by decide +kernel
theorem dX6_checkTyped_8 : decode cX6_checkTyped 8 = .ok (.new 180, 3) := by decide +kernel
theorem dX6_checkTyped_11 : decode cX6_checkTyped 11 = .ok (.dup, 1) := by decide +kernel
theorem dX6_checkTyped_12 : decode cX6_checkTyped 12 = .ok (.ldc_w 407, 3) := by decide +kernel
theorem dX6_checkTyped_15 : decode cX6_checkTyped 15 = .ok (.invokespecial 184, 3) := by decide +kernel
theorem dX6_checkTyped_18 : decode cX6_checkTyped 18 = .ok (.athrow, 1) := by decide +kernel
theorem dX6_checksum_0 : decode cX6_checksum 0 = .ok (.ldc2_w 376, 3) := by decide +kernel
theorem dX6_checksum_3 : decode cX6_checksum 3 = .ok (.lstore_n 1, 1) := by decide +kernel
theorem dX6_checksum_4 : decode cX6_checksum 4 = .ok (.iconst 0, 1) := by decide +kernel
theorem dX6_checksum_5 : decode cX6_checksum 5 = .ok (.istore_n 3, 1) := by decide +kernel
theorem dX6_checksum_6 : decode cX6_checksum 6 = .ok (.iload_n 3, 1) := by decide +kernel
theorem dX6_checksum_7 : decode cX6_checksum 7 = .ok (.aload_n 0, 1) := by decide +kernel
theorem dX6_checksum_8 : decode cX6_checksum 8 = .ok (.getfield 10, 3) := by decide +kernel
theorem dX6_checksum_11 : decode cX6_checksum 11 = .ok (.invokevirtual 43, 3) := by decide +kernel
theorem dX6_checksum_14 : decode cX6_checksum 14 = .ok (.if_icmp .ge 66, 3) := by decide +kernel
theorem dX6_checksum_80 : decode cX6_checksum 80 = .ok (.iconst 0, 1) := by decide +kernel
theorem dX6_checksum_81 : decode cX6_checksum 81 = .ok (.istore_n 3, 1) := by decide +kernel
theorem dX6_checksum_82 : decode cX6_checksum 82 = .ok (.iload_n 3, 1) := by decide +kernel
theorem dX6_checksum_83 : decode cX6_checksum 83 = .ok (.aload_n 0, 1) := by decide +kernel
theorem dX6_checksum_84 : decode cX6_checksum 84 = .ok (.getfield 22, 3) := by decide +kernel
theorem dX6_checksum_87 : decode cX6_checksum 87 = .ok (.invokevirtual 43, 3) := by decide +kernel
theorem dX6_checksum_90 : decode cX6_checksum 90 = .ok (.if_icmp .ge 61, 3) := by decide +kernel
theorem dX6_checksum_151 : decode cX6_checksum 151 = .ok (.lload_n 1, 1) := by decide +kernel
theorem dX6_checksum_152 : decode cX6_checksum 152 = .ok (.lreturn, 1) := by decide +kernel
theorem dX6_countCycles_0 : decode cX6_countCycles 0 = .ok (.aload_n 0, 1) := by decide +kernel
theorem dX6_countCycles_1 : decode cX6_countCycles 1 = .ok (.invokevirtual 340, 3) := by decide +kernel
theorem dX6_countCycles_4 : decode cX6_countCycles 4 = .ok (.aload_n 0, 1) := by decide +kernel
theorem dX6_countCycles_5 : decode cX6_countCycles 5 = .ok (.getfield 32, 3) := by decide +kernel
theorem dX6_countCycles_8 : decode cX6_countCycles 8 = .ok (.getfield 343, 3) := by decide +kernel
theorem dX6_countCycles_11 : decode cX6_countCycles 11 = .ok (.ireturn, 1) := by decide +kernel
theorem dX6_countEvents_0 : decode cX6_countEvents 0 = .ok (.aload_n 0, 1) := by decide +kernel
theorem dX6_countEvents_1 : decode cX6_countEvents 1 = .ok (.iload_n 1, 1) := by decide +kernel
theorem dX6_countEvents_2 : decode cX6_countEvents 2 = .ok (.invokevirtual 171, 3) := by decide +kernel
theorem dX6_countOver_0 : decode cX6_countOver 0 = .ok (.aload_n 0, 1) := by decide +kernel
theorem dX6_countOver_1 : decode cX6_countOver 1 = .ok (.iload_n 1, 1) := by decide +kernel
theorem dX6_countOver_2 : decode cX6_countOver 2 = .ok (.invokevirtual 171, 3) := by decide +kernel
theorem dX6_crack_0 : decode cX6_crack 0 = .ok (.aload_n 0, 1) := by decide +kernel
theorem dX6_crack_1 : decode cX6_crack 1 = .ok (.iload_n 1, 1) := by decide +kernel
theorem dX6_crack_2 : decode cX6_crack 2 = .ok (.invokevirtual 61, 3) := by decide +kernel
theorem dX6_damageOfRow_0 : decode cX6_damageOfRow 0 = .ok (.aload_n 0, 1) := by decide +kernel
theorem dX6_damageOfRow_1 : decode cX6_damageOfRow 1 = .ok (.invokevirtual 340, 3) := by decide +kernel
theorem dX6_damageOfRow_4 : decode cX6_damageOfRow 4 = .ok (.aload_n 0, 1) := by decide +kernel
theorem dX6_damageOfRow_5 : decode cX6_damageOfRow 5 = .ok (.getfield 32, 3) := by decide +kernel
theorem dX6_damageOfRow_8 : decode cX6_damageOfRow 8 = .ok (.invokevirtual 316, 3) := by decide +kernel
theorem dX6_damageOfRow_11 : decode cX6_damageOfRow 11 = .ok (.lreturn, 1) := by decide +kernel
theorem dX6_differs_0 : decode cX6_differs 0 = .ok (.aload_n 0, 1) := by decide +kernel
theorem dX6_differs_1 : decode cX6_differs 1 = .ok (.iload_n 1, 1) := by decide +kernel
theorem dX6_differs_2 : decode cX6_differs 2 = .ok (.invokevirtual 61, 3) := by decide +kernel
theorem dX6_gatherTyped_0 : decode cX6_gatherTyped 0 = .ok (.aload_n 0, 1) := by decide +kernel
theorem dX6_gatherTyped_1 : decode cX6_gatherTyped 1 = .ok (.getfield 32, 3) := by decide +kernel
theorem dX6_gatherTyped_4 : decode cX6_gatherTyped 4 = .ok (.invokevirtual 297, 3) := by decide +kernel
theorem dX6_gatherTyped_7 : decode cX6_gatherTyped 7 = .ok (.iconst 0, 1) := by decide +kernel
theorem dX6_gatherTyped_8 : decode cX6_gatherTyped 8 = .ok (.istore_n 1, 1) := by decide +kernel
theorem dX6_gatherTyped_9 : decode cX6_gatherTyped 9 = .ok (.iload_n 1, 1) := by decide +kernel
theorem dX6_gatherTyped_10 : decode cX6_gatherTyped 10 = .ok (.aload_n 0, 1) := by decide +kernel
theorem dX6_gatherTyped_11 : decode cX6_gatherTyped 11 = .ok (.getfield 286, 3) := by decide +kernel
theorem dX6_gatherTyped_14 : decode cX6_gatherTyped 14 = .ok (.if_icmp .ge 22, 3) := by decide +kernel
theorem dX6_gatherTyped_36 : decode cX6_gatherTyped 36 = .ok (.aload_n 0, 1) := by decide +kernel
theorem dX6_gatherTyped_37 : decode cX6_gatherTyped 37 = .ok (.getfield 32, 3) := by decide +kernel
theorem dX6_gatherTyped_40 : decode cX6_gatherTyped 40 = .ok (.invokevirtual 313, 3) := by decide +kernel
theorem dX6_gatherTyped_43 : decode cX6_gatherTyped 43 = .ok (.return_, 1) := by decide +kernel
theorem dX6_getBand_0 : decode cX6_getBand 0 = .ok (.aload_n 0, 1) := by decide +kernel
theorem dX6_getBand_1 : decode cX6_getBand 1 = .ok (.iload_n 1, 1) := by decide +kernel
theorem dX6_getBand_2 : decode cX6_getBand 2 = .ok (.invokevirtual 171, 3) := by decide +kernel
theorem dX6_getCracks_0 : decode cX6_getCracks 0 = .ok (.aload_n 0, 1) := by decide +kernel
theorem dX6_getCracks_1 : decode cX6_getCracks 1 = .ok (.iload_n 1, 1) := by decide +kernel
theorem dX6_getCracks_2 : decode cX6_getCracks 2 = .ok (.invokevirtual 61, 3) := by decide +kernel
theorem dX6_getDamage_0 : decode cX6_getDamage 0 = .ok (.aload_n 0, 1) := by decide +kernel
theorem dX6_getDamage_1 : decode cX6_getDamage 1 = .ok (.iload_n 1, 1) := by decide +kernel
theorem dX6_getDamage_2 : decode cX6_getDamage 2 = .ok (.invokevirtual 61, 3) := by decide +kernel
theorem dX6_getDrive_0 : decode cX6_getDrive 0 = .ok (.aload_n 0, 1) := by decide +kernel
theorem dX6_getDrive_1 : decode cX6_getDrive 1 = .ok (.iload_n 1, 1) := by decide +kernel
theorem dX6_getDrive_2 : decode cX6_getDrive 2 = .ok (.invokevirtual 171, 3) := by decide +kernel
theorem dX6_getDue_0 : decode cX6_getDue 0 = .ok (.aload_n 0, 1) := by decide +kernel
theorem dX6_getDue_1 : decode cX6_getDue 1 = .ok (.iload_n 1, 1) := by decide +kernel
theorem dX6_getDue_2 : decode cX6_getDue 2 = .ok (.invokevirtual 171, 3) := by decide +kernel
theorem dX6_getEvent_0 : decode cX6_getEvent 0 = .ok (.aload_n 0, 1) := by decide +kernel
theorem dX6_getEvent_1 : decode cX6_getEvent 1 = .ok (.iload_n 1, 1) := by decide +kernel
theorem dX6_getEvent_2 : decode cX6_getEvent 2 = .ok (.invokevirtual 171, 3) := by decide +kernel
theorem dX6_getFelt_0 : decode cX6_getFelt 0 = .ok (.aload_n 0, 1) := by decide +kernel
theorem dX6_getFelt_1 : decode cX6_getFelt 1 = .ok (.iload_n 1, 1) := by decide +kernel
theorem dX6_getFelt_2 : decode cX6_getFelt 2 = .ok (.invokevirtual 61, 3) := by decide +kernel
theorem dX6_getMinutes_0 : decode cX6_getMinutes 0 = .ok (.aload_n 0, 1) := by decide +kernel
theorem dX6_getMinutes_1 : decode cX6_getMinutes 1 = .ok (.iload_n 1, 1) := by decide +kernel
theorem dX6_getMinutes_2 : decode cX6_getMinutes 2 = .ok (.invokevirtual 171, 3) := by decide +kernel
theorem dX6_getResonance_0 : decode cX6_getResonance 0 = .ok (.aload_n 0, 1) := by decide +kernel
theorem dX6_getResonance_1 : decode cX6_getResonance 1 = .ok (.iload_n 1, 1) := by decide +kernel
theorem dX6_getResonance_2 : decode cX6_getResonance 2 = .ok (.invokevirtual 61, 3) := by decide +kernel
theorem dX6_getResponse_0 : decode cX6_getResponse 0 = .ok (.aload_n 0, 1) := by decide +kernel
theorem dX6_getResponse_1 : decode cX6_getResponse 1 = .ok (.iload_n 1, 1) := by decide +kernel
theorem dX6_getResponse_2 : decode cX6_getResponse 2 = .ok (.invokevirtual 61, 3) := by decide +kernel
theorem dX6_getSpectrum_0 : decode cX6_getSpectrum 0 = .ok (.iload_n 1, 1) := by decide +kernel
theorem dX6_getSpectrum_1 : decode cX6_getSpectrum 1 = .ok (.invokestatic 97, 3) := by decide +kernel
theorem dX6_getSpectrum_4 : decode cX6_getSpectrum 4 = .ok (.aload_n 0, 1) := by decide +kernel
theorem dX6_getSpectrum_5 : decode cX6_getSpectrum 5 = .ok (.invokevirtual 291, 3) := by decide +kernel
theorem dX6_getSpring_0 : decode cX6_getSpring 0 = .ok (.aload_n 0, 1) := by decide +kernel
theorem dX6_getSpring_1 : decode cX6_getSpring 1 = .ok (.iload_n 1, 1) := by decide +kernel
theorem dX6_getSpring_2 : decode cX6_getSpring 2 = .ok (.invokevirtual 61, 3) := by decide +kernel
theorem dX6_getState_0 : decode cX6_getState 0 = .ok (.aload_n 0, 1) := by decide +kernel
theorem dX6_getState_1 : decode cX6_getState 1 = .ok (.iload_n 1, 1) := by decide +kernel
theorem dX6_getState_2 : decode cX6_getState 2 = .ok (.invokevirtual 171, 3) := by decide +kernel
theorem dX6_init_0 : decode cX6_init 0 = .ok (.aload_n 0, 1) := by decide +kernel
theorem dX6_init_1 : decode cX6_init 1 = .ok (.invokespecial 1, 3) := by decide +kernel
theorem dX6_init_4 : decode cX6_init 4 = .ok (.aload_n 0, 1) := by decide +kernel
theorem dX6_init_5 : decode cX6_init 5 = .ok (.new 7, 3) := by decide +kernel
theorem dX6_init_8 : decode cX6_init 8 = .ok (.dup, 1) := by decide +kernel
theorem dX6_init_9 : decode cX6_init 9 = .ok (.invokespecial 9, 3) := by decide +kernel
theorem dX6_init_12 : decode cX6_init 12 = .ok (.putfield 10, 3) := by decide +kernel
theorem dX6_init_15 : decode cX6_init 15 = .ok (.aload_n 0, 1) := by decide +kernel
theorem dX6_init_16 : decode cX6_init 16 = .ok (.new 7, 3) := by decide +kernel
theorem dX6_init_19 : decode cX6_init 19 = .ok (.dup, 1) := by decide +kernel
theorem dX6_init_20 : decode cX6_init 20 = .ok (.invokespecial 9, 3) := by decide +kernel
theorem dX6_init_23 : decode cX6_init 23 = .ok (.putfield 16, 3) := by decide +kernel
theorem dX6_init_26 : decode cX6_init 26 = .ok (.aload_n 0, 1) := by decide +kernel
theorem dX6_init_27 : decode cX6_init 27 = .ok (.new 7, 3) := by decide +kernel
theorem dX6_init_30 : decode cX6_init 30 = .ok (.dup, 1) := by decide +kernel
theorem dX6_init_31 : decode cX6_init 31 = .ok (.invokespecial 9, 3) := by decide +kernel
theorem dX6_init_34 : decode cX6_init 34 = .ok (.putfield 19, 3) := by decide +kernel
theorem dX6_init_37 : decode cX6_init 37 = .ok (.aload_n 0, 1) := by decide +kernel
theorem dX6_init_38 : decode cX6_init 38 = .ok (.new 7, 3) := by decide +kernel
theorem dX6_init_41 : decode cX6_init 41 = .ok (.dup, 1) := by decide +kernel
theorem dX6_init_42 : decode cX6_init 42 = .ok (.invokespecial 9, 3) := by decide +kernel
theorem dX6_init_45 : decode cX6_init 45 = .ok (.putfield 22, 3) := by decide +kernel
theorem dX6_init_48 : decode cX6_init 48 = .ok (.aload_n 0, 1) := by decide +kernel
theorem dX6_init_49 : decode cX6_init 49 = .ok (.bipush 24, 2) := by decide +kernel
theorem dX6_init_51 : decode cX6_init 51 = .ok (.newarray .int, 2) := by decide +kernel
theorem dX6_init_53 : decode cX6_init 53 = .ok (.putfield 25, 3) := by decide +kernel
theorem dX6_init_56 : decode cX6_init 56 = .ok (.aload_n 0, 1) := by decide +kernel
theorem dX6_init_57 : decode cX6_init 57 = .ok (.new 29, 3) := by decide +kernel
theorem dX6_init_60 : decode cX6_init 60 = .ok (.dup, 1) := by decide +kernel
theorem dX6_init_61 : decode cX6_init 61 = .ok (.invokespecial 31, 3) := by decide +kernel
theorem dX6_init_64 : decode cX6_init 64 = .ok (.putfield 32, 3) := by decide +kernel
theorem dX6_init_67 : decode cX6_init 67 = .ok (.aload_n 0, 1) := by decide +kernel
theorem dX6_init_68 : decode cX6_init 68 = .ok (.new 36, 3) := by decide +kernel
theorem dX6_init_71 : decode cX6_init 71 = .ok (.dup, 1) := by decide +kernel
theorem dX6_init_72 : decode cX6_init 72 = .ok (.invokespecial 38, 3) := by decide +kernel
theorem dX6_init_75 : decode cX6_init 75 = .ok (.putfield 39, 3) := by decide +kernel
theorem dX6_init_78 : decode cX6_init 78 = .ok (.return_, 1) := by decide +kernel
theorem dX6_isInBand_0 : decode cX6_isInBand 0 = .ok (.aload_n 0, 1) := by decide +kernel
theorem dX6_isInBand_1 : decode cX6_isInBand 1 = .ok (.iload_n 1, 1) := by decide +kernel
theorem dX6_isInBand_2 : decode cX6_isInBand 2 = .ok (.invokevirtual 171, 3) := by decide +kernel
theorem dX6_isSound_0 : decode cX6_isSound 0 = .ok (.iconst 1, 1) := by decide +kernel
theorem dX6_isSound_1 : decode cX6_isSound 1 = .ok (.istore_n 1, 1) := by decide +kernel
theorem dX6_isSound_2 : decode cX6_isSound 2 = .ok (.iconst 0, 1) := by decide +kernel
theorem dX6_isSound_3 : decode cX6_isSound 3 = .ok (.istore_n 2, 1) := by decide +kernel
theorem dX6_isSound_4 : decode cX6_isSound 4 = .ok (.iload_n 2, 1) := by decide +kernel
theorem dX6_isSound_5 : decode cX6_isSound 5 = .ok (.aload_n 0, 1) := by decide +kernel
theorem dX6_isSound_6 : decode cX6_isSound 6 = .ok (.getfield 10, 3) := by decide +kernel
theorem dX6_isSound_9 : decode cX6_isSound 9 = .ok (.invokevirtual 43, 3) := by decide +kernel
theorem dX6_isSound_12 : decode cX6_isSound 12 = .ok (.if_icmp .ge 36, 3) := by decide +kernel
theorem dX6_isSound_48 : decode cX6_isSound 48 = .ok (.iconst 0, 1) := by decide +kernel
theorem dX6_isSound_49 : decode cX6_isSound 49 = .ok (.istore_n 2, 1) := by decide +kernel
theorem dX6_isSound_50 : decode cX6_isSound 50 = .ok (.iload_n 2, 1) := by decide +kernel
theorem dX6_isSound_51 : decode cX6_isSound 51 = .ok (.aload_n 0, 1) := by decide +kernel
theorem dX6_isSound_52 : decode cX6_isSound 52 = .ok (.getfield 22, 3) := by decide +kernel
theorem dX6_isSound_55 : decode cX6_isSound 55 = .ok (.invokevirtual 43, 3) := by decide +kernel
theorem dX6_isSound_58 : decode cX6_isSound 58 = .ok (.if_icmp .ge 36, 3) := by decide +kernel
theorem dX6_isSound_94 : decode cX6_isSound 94 = .ok (.iload_n 1, 1) := by decide +kernel
theorem dX6_isSound_95 : decode cX6_isSound 95 = .ok (.ireturn, 1) := by decide +kernel
theorem dX6_meanDrive_0 : decode cX6_meanDrive 0 = .ok (.aload_n 0, 1) := by decide +kernel
theorem dX6_meanDrive_1 : decode cX6_meanDrive 1 = .ok (.iload_n 1, 1) := by decide +kernel
theorem dX6_meanDrive_2 : decode cX6_meanDrive 2 = .ok (.invokevirtual 171, 3) := by decide +kernel
theorem dX6_raise_0 : decode cX6_raise 0 = .ok (.aload_n 0, 1) := by decide +kernel
theorem dX6_raise_1 : decode cX6_raise 1 = .ok (.iload_n 1, 1) := by decide +kernel
theorem dX6_raise_2 : decode cX6_raise 2 = .ok (.invokevirtual 171, 3) := by decide +kernel
theorem dX6_read_0 : decode cX6_read 0 = .ok (.aload_n 0, 1) := by decide +kernel
theorem dX6_read_1 : decode cX6_read 1 = .ok (.iload_n 1, 1) := by decide +kernel
theorem dX6_read_2 : decode cX6_read 2 = .ok (.invokevirtual 121, 3) := by decide +kernel
theorem dX6_runAt_0 : decode cX6_runAt 0 = .ok (.iload_n 1, 1) := by decide +kernel
theorem dX6_runAt_1 : decode cX6_runAt 1 = .ok (.ifCond .lt 14, 3) := by decide +kernel
theorem dX6_runAt_4 : decode cX6_runAt 4 = .ok (.iload_n 1, 1) := by decide +kernel
theorem dX6_runAt_5 : decode cX6_runAt 5 = .ok (.aload_n 0, 1) := by decide +kernel
theorem dX6_runAt_6 : decode cX6_runAt 6 = .ok (.getfield 22, 3) := by decide +kernel
theorem dX6_runAt_9 : decode cX6_runAt 9 = .ok (.invokevirtual 43, 3) := by decide +kernel
theorem dX6_runAt_12 : decode cX6_runAt 12 = .ok (.if_icmp .lt 14, 3) := by decide +kernel
theorem dX6_runAt_15 : decode cX6_runAt 15 = .ok (.new 388, 3) := by decide +kernel
theorem dX6_runAt_18 : decode cX6_runAt 18 = .ok (.dup, 1) := by decide +kernel
theorem dX6_runAt_19 : decode cX6_runAt 19 = .ok (.ldc_w 397, 3) := by decide +kernel
theorem dX6_runAt_22 : decode cX6_runAt 22 = .ok (.invokespecial 392, 3) := by decide +kernel
theorem dX6_runAt_25 : decode cX6_runAt 25 = .ok (.athrow, 1) := by decide +kernel
theorem dX6_sensorAt_0 : decode cX6_sensorAt 0 = .ok (.iload_n 1, 1) := by decide +kernel
theorem dX6_sensorAt_1 : decode cX6_sensorAt 1 = .ok (.ifCond .lt 14, 3) := by decide +kernel
theorem dX6_sensorAt_4 : decode cX6_sensorAt 4 = .ok (.iload_n 1, 1) := by decide +kernel
theorem dX6_sensorAt_5 : decode cX6_sensorAt 5 = .ok (.aload_n 0, 1) := by decide +kernel
theorem dX6_sensorAt_6 : decode cX6_sensorAt 6 = .ok (.getfield 16, 3) := by decide +kernel
theorem dX6_sensorAt_9 : decode cX6_sensorAt 9 = .ok (.invokevirtual 43, 3) := by decide +kernel
theorem dX6_sensorAt_12 : decode cX6_sensorAt 12 = .ok (.if_icmp .lt 14, 3) := by decide +kernel
theorem dX6_sensorAt_15 : decode cX6_sensorAt 15 = .ok (.new 388, 3) := by decide +kernel
theorem dX6_sensorAt_18 : decode cX6_sensorAt 18 = .ok (.dup, 1) := by decide +kernel
theorem dX6_sensorAt_19 : decode cX6_sensorAt 19 = .ok (.ldc_w 393, 3) := by decide +kernel
theorem dX6_sensorAt_22 : decode cX6_sensorAt 22 = .ok (.invokespecial 392, 3) := by decide +kernel
theorem dX6_sensorAt_25 : decode cX6_sensorAt 25 = .ok (.athrow, 1) := by decide +kernel
theorem dX6_setAbort_0 : decode cX6_setAbort 0 = .ok (.aload_n 0, 1) := by decide +kernel
theorem dX6_setAbort_1 : decode cX6_setAbort 1 = .ok (.iload_n 1, 1) := by decide +kernel
theorem dX6_setAbort_2 : decode cX6_setAbort 2 = .ok (.invokevirtual 171, 3) := by decide +kernel
theorem dX6_setLevel_0 : decode cX6_setLevel 0 = .ok (.aload_n 0, 1) := by decide +kernel
theorem dX6_setLevel_1 : decode cX6_setLevel 1 = .ok (.iload_n 1, 1) := by decide +kernel
theorem dX6_setLevel_2 : decode cX6_setLevel 2 = .ok (.invokevirtual 145, 3) := by decide +kernel
theorem dX6_setLife_0 : decode cX6_setLife 0 = .ok (.aload_n 0, 1) := by decide +kernel
theorem dX6_setLife_1 : decode cX6_setLife 1 = .ok (.iload_n 1, 1) := by decide +kernel
theorem dX6_setLife_2 : decode cX6_setLife 2 = .ok (.invokevirtual 61, 3) := by decide +kernel
theorem dX6_setLoose_0 : decode cX6_setLoose 0 = .ok (.aload_n 0, 1) := by decide +kernel
theorem dX6_setLoose_1 : decode cX6_setLoose 1 = .ok (.iload_n 1, 1) := by decide +kernel
theorem dX6_setLoose_2 : decode cX6_setLoose 2 = .ok (.invokevirtual 121, 3) := by decide +kernel
theorem dX6_setNotch_0 : decode cX6_setNotch 0 = .ok (.aload_n 0, 1) := by decide +kernel
theorem dX6_setNotch_1 : decode cX6_setNotch 1 = .ok (.iload_n 1, 1) := by decide +kernel
theorem dX6_setNotch_2 : decode cX6_setNotch 2 = .ok (.invokevirtual 171, 3) := by decide +kernel
theorem dX6_setTolerance_0 : decode cX6_setTolerance 0 = .ok (.aload_n 0, 1) := by decide +kernel
theorem dX6_setTolerance_1 : decode cX6_setTolerance 1 = .ok (.iload_n 1, 1) := by decide +kernel
theorem dX6_setTolerance_2 : decode cX6_setTolerance 2 = .ok (.invokevirtual 145, 3) := by decide +kernel
theorem dX6_shock_0 : decode cX6_shock 0 = .ok (.aload_n 0, 1) := by decide +kernel
theorem dX6_shock_1 : decode cX6_shock 1 = .ok (.iload_n 1, 1) := by decide +kernel
theorem dX6_shock_2 : decode cX6_shock 2 = .ok (.invokevirtual 61, 3) := by decide +kernel
theorem dX6_sign_0 : decode cX6_sign 0 = .ok (.aload_n 0, 1) := by decide +kernel
theorem dX6_sign_1 : decode cX6_sign 1 = .ok (.iload_n 1, 1) := by decide +kernel
theorem dX6_sign_2 : decode cX6_sign 2 = .ok (.invokevirtual 171, 3) := by decide +kernel
theorem dX6_specificationAt_0 : decode cX6_specificationAt 0 = .ok (.iload_n 1, 1) := by decide +kernel
theorem dX6_specificationAt_1 : decode cX6_specificationAt 1 = .ok (.ifCond .lt 14, 3) := by decide +kernel
theorem dX6_specificationAt_4 : decode cX6_specificationAt 4 = .ok (.iload_n 1, 1) := by decide +kernel
theorem dX6_specificationAt_5 : decode cX6_specificationAt 5 = .ok (.aload_n 0, 1) := by decide +kernel
theorem dX6_specificationAt_6 : decode cX6_specificationAt 6 = .ok (.getfield 19, 3) := by decide +kernel
theorem dX6_specificationAt_9 : decode cX6_specificationAt 9 = .ok (.invokevirtual 43, 3) := by decide +kernel
theorem dX6_specificationAt_12 : decode cX6_specificationAt 12 = .ok (.if_icmp .lt 14, 3) := by decide +kernel
theorem dX6_specificationAt_15 : decode cX6_specificationAt 15 = .ok (.new 388, 3) := by decide +kernel
theorem dX6_specificationAt_18 : decode cX6_specificationAt 18 = .ok (.dup, 1) := by decide +kernel
theorem dX6_specificationAt_19 : decode cX6_specificationAt 19 = .ok (.ldc_w 395, 3) := by decide +kernel
theorem dX6_specificationAt_22 : decode cX6_specificationAt 22 = .ok (.invokespecial 392, 3) := by decide +kernel
theorem dX6_specificationAt_25 : decode cX6_specificationAt 25 = .ok (.athrow, 1) := by decide +kernel
theorem dX6_structureAt_0 : decode cX6_structureAt 0 = .ok (.iload_n 1, 1) := by decide +kernel
theorem dX6_structureAt_1 : decode cX6_structureAt 1 = .ok (.ifCond .lt 14, 3) := by decide +kernel
theorem dX6_structureAt_4 : decode cX6_structureAt 4 = .ok (.iload_n 1, 1) := by decide +kernel
theorem dX6_structureAt_5 : decode cX6_structureAt 5 = .ok (.aload_n 0, 1) := by decide +kernel
theorem dX6_structureAt_6 : decode cX6_structureAt 6 = .ok (.getfield 10, 3) := by decide +kernel
theorem dX6_structureAt_9 : decode cX6_structureAt 9 = .ok (.invokevirtual 43, 3) := by decide +kernel
theorem dX6_structureAt_12 : decode cX6_structureAt 12 = .ok (.if_icmp .lt 14, 3) := by decide +kernel
theorem dX6_structureAt_15 : decode cX6_structureAt 15 = .ok (.new 388, 3) := by decide +kernel
theorem dX6_structureAt_18 : decode cX6_structureAt 18 = .ok (.dup, 1) := by decide +kernel
theorem dX6_structureAt_19 : decode cX6_structureAt 19 = .ok (.ldc_w 390, 3) := by decide +kernel
theorem dX6_structureAt_22 : decode cX6_structureAt 22 = .ok (.invokespecial 392, 3) := by decide +kernel
theorem dX6_structureAt_25 : decode cX6_structureAt 25 = .ok (.athrow, 1) := by decide +kernel
theorem dX6_sweep_0 : decode cX6_sweep 0 = .ok (.aload_n 0, 1) := by decide +kernel
theorem dX6_sweep_1 : decode cX6_sweep 1 = .ok (.iload_n 1, 1) := by decide +kernel
theorem dX6_sweep_2 : decode cX6_sweep 2 = .ok (.invokevirtual 61, 3) := by decide +kernel
theorem dX6_takeSignature_0 : decode cX6_takeSignature 0 = .ok (.aload_n 0, 1) := by decide +kernel
theorem dX6_takeSignature_1 : decode cX6_takeSignature 1 = .ok (.iload_n 1, 1) := by decide +kernel
theorem dX6_takeSignature_2 : decode cX6_takeSignature 2 = .ok (.invokevirtual 61, 3) := by decide +kernel
theorem dX6_takeUp_0 : decode cX6_takeUp 0 = .ok (.aload_n 0, 1) := by decide +kernel
theorem dX6_takeUp_1 : decode cX6_takeUp 1 = .ok (.iload_n 1, 1) := by decide +kernel
theorem dX6_takeUp_2 : decode cX6_takeUp 2 = .ok (.invokevirtual 171, 3) := by decide +kernel
theorem dX6_turnLoop_0 : decode cX6_turnLoop 0 = .ok (.aload_n 0, 1) := by decide +kernel
theorem dX6_turnLoop_1 : decode cX6_turnLoop 1 = .ok (.iload_n 1, 1) := by decide +kernel
theorem dX6_turnLoop_2 : decode cX6_turnLoop 2 = .ok (.invokevirtual 171, 3) := by decide +kernel
theorem dX6_type_0 : decode cX6_type 0 = .ok (.iload_n 1, 1) := by decide +kernel
theorem dX6_type_1 : decode cX6_type 1 = .ok (.ldc_w 285, 3) := by decide +kernel
theorem dX6_type_4 : decode cX6_type 4 = .ok (.ldc 152, 2) := by decide +kernel
theorem dX6_type_6 : decode cX6_type 6 = .ok (.invokestatic 68, 3) := by decide +kernel
theorem dX6_type_9 : decode cX6_type 9 = .ok (.aload_n 0, 1) := by decide +kernel
theorem dX6_type_10 : decode cX6_type 10 = .ok (.getfield 286, 3) := by decide +kernel
theorem dX6_type_13 : decode cX6_type 13 = .ok (.bipush 24, 2) := by decide +kernel
theorem dX6_type_15 : decode cX6_type 15 = .ok (.if_icmp .lt 14, 3) := by decide +kernel
theorem dX6_type_29 : decode cX6_type 29 = .ok (.aload_n 0, 1) := by decide +kernel
theorem dX6_type_30 : decode cX6_type 30 = .ok (.getfield 25, 3) := by decide +kernel
theorem dX6_type_33 : decode cX6_type 33 = .ok (.aload_n 0, 1) := by decide +kernel
theorem dX6_type_34 : decode cX6_type 34 = .ok (.getfield 286, 3) := by decide +kernel
theorem dX6_type_37 : decode cX6_type 37 = .ok (.iload_n 1, 1) := by decide +kernel
theorem dX6_type_38 : decode cX6_type 38 = .ok (.iastore, 1) := by decide +kernel
theorem dX6_type_39 : decode cX6_type 39 = .ok (.aload_n 0, 1) := by decide +kernel
theorem dX6_type_40 : decode cX6_type 40 = .ok (.dup, 1) := by decide +kernel
theorem dX6_type_41 : decode cX6_type 41 = .ok (.getfield 286, 3) := by decide +kernel
theorem dX6_type_44 : decode cX6_type 44 = .ok (.iconst 1, 1) := by decide +kernel
theorem dX6_type_45 : decode cX6_type 45 = .ok (.iadd, 1) := by decide +kernel
theorem dX6_type_46 : decode cX6_type 46 = .ok (.putfield 286, 3) := by decide +kernel
theorem dX6_type_49 : decode cX6_type 49 = .ok (.aload_n 0, 1) := by decide +kernel
theorem dX6_type_50 : decode cX6_type 50 = .ok (.getfield 286, 3) := by decide +kernel
theorem dX6_type_53 : decode cX6_type 53 = .ok (.ireturn, 1) := by decide +kernel
theorem dX6_wipe_0 : decode cX6_wipe 0 = .ok (.aload_n 0, 1) := by decide +kernel
theorem dX6_wipe_1 : decode cX6_wipe 1 = .ok (.getfield 286, 3) := by decide +kernel
theorem dX6_wipe_4 : decode cX6_wipe 4 = .ok (.istore_n 1, 1) := by decide +kernel
theorem dX6_wipe_5 : decode cX6_wipe 5 = .ok (.aload_n 0, 1) := by decide +kernel
theorem dX6_wipe_6 : decode cX6_wipe 6 = .ok (.iconst 0, 1) := by decide +kernel
theorem dX6_wipe_7 : decode cX6_wipe 7 = .ok (.putfield 286, 3) := by decide +kernel
theorem dX6_wipe_10 : decode cX6_wipe 10 = .ok (.iload_n 1, 1) := by decide +kernel
theorem dX6_wipe_11 : decode cX6_wipe 11 = .ok (.ireturn, 1) := by decide +kernel
theorem dX9_init_0 : decode cX9_init 0 = .ok (.aload_n 0, 1) := by decide +kernel
theorem dX9_init_1 : decode cX9_init 1 = .ok (.invokespecial 3, 3) := by decide +kernel
theorem dX9_init_4 : decode cX9_init 4 = .ok (.aload_n 0, 1) := by decide +kernel
theorem dX9_init_5 : decode cX9_init 5 = .ok (.new 9, 3) := by decide +kernel
theorem dX9_init_8 : decode cX9_init 8 = .ok (.dup, 1) := by decide +kernel
theorem dX9_init_9 : decode cX9_init 9 = .ok (.invokespecial 11, 3) := by decide +kernel
theorem dX9_init_12 : decode cX9_init 12 = .ok (.putfield 12, 3) := by decide +kernel
theorem dX9_init_15 : decode cX9_init 15 = .ok (.aload_n 0, 1) := by decide +kernel
theorem dX9_init_16 : decode cX9_init 16 = .ok (.bipush 8, 2) := by decide +kernel
theorem dX9_init_18 : decode cX9_init 18 = .ok (.newarray .int, 2) := by decide +kernel
theorem dX9_init_20 : decode cX9_init 20 = .ok (.putfield 18, 3) := by decide +kernel
theorem dX9_init_23 : decode cX9_init 23 = .ok (.aload_n 0, 1) := by decide +kernel
theorem dX9_init_24 : decode cX9_init 24 = .ok (.ldc 22, 2) := by decide +kernel
theorem dX9_init_26 : decode cX9_init 26 = .ok (.putfield 23, 3) := by decide +kernel
theorem dX9_init_29 : decode cX9_init 29 = .ok (.aload_n 0, 1) := by decide +kernel
theorem dX9_init_30 : decode cX9_init 30 = .ok (.iconst (-1), 1) := by decide +kernel
theorem dX9_init_31 : decode cX9_init 31 = .ok (.putfield 27, 3) := by decide +kernel
theorem dX9_init_34 : decode cX9_init 34 = .ok (.return_, 1) := by decide +kernel
