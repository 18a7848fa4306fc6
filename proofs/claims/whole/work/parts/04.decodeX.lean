section
theorem dX0_init_0 : decode cX0_init 0 = .ok (.aload_n 0, 1) := by decide +kernel
theorem dX0_init_1 : decode cX0_init 1 = .ok (.invokespecial 3, 3) := by decide +kernel
theorem dX0_init_4 : decode cX0_init 4 = .ok (.aload_n 0, 1) := by decide +kernel
theorem dX0_init_5 : decode cX0_init 5 = .ok (.sipush 1024, 3) := by decide +kernel
theorem dX0_init_8 : decode cX0_init 8 = .ok (.newarray .int, 2) := by decide +kernel
theorem dX0_init_10 : decode cX0_init 10 = .ok (.putfield 9, 3) := by decide +kernel
theorem dX0_init_13 : decode cX0_init 13 = .ok (.aload_n 0, 1) := by decide +kernel
theorem dX0_init_14 : decode cX0_init 14 = .ok (.iconst 5, 1) := by decide +kernel
theorem dX0_init_15 : decode cX0_init 15 = .ok (.putfield 15, 3) := by decide +kernel
theorem dX0_init_18 : decode cX0_init 18 = .ok (.return_, 1) := by decide +kernel
theorem dX0_read_0 : decode cX0_read 0 = .ok (.aload_n 0, 1) := by decide +kernel
theorem dX0_read_1 : decode cX0_read 1 = .ok (.getfield 9, 3) := by decide +kernel
theorem dX0_read_4 : decode cX0_read 4 = .ok (.aload_n 0, 1) := by decide +kernel
theorem dX0_read_5 : decode cX0_read 5 = .ok (.getfield 19, 3) := by decide +kernel
theorem dX0_read_8 : decode cX0_read 8 = .ok (.sipush 1023, 3) := by decide +kernel
theorem dX0_read_11 : decode cX0_read 11 = .ok (.iand, 1) := by decide +kernel
theorem dX0_read_12 : decode cX0_read 12 = .ok (.iaload, 1) := by decide +kernel
theorem dX0_read_13 : decode cX0_read 13 = .ok (.ireturn, 1) := by decide +kernel
theorem dX0_write_0 : decode cX0_write 0 = .ok (.aload_n 0, 1) := by decide +kernel
theorem dX0_write_1 : decode cX0_write 1 = .ok (.getfield 9, 3) := by decide +kernel
theorem dX0_write_4 : decode cX0_write 4 = .ok (.aload_n 0, 1) := by decide +kernel
theorem dX0_write_5 : decode cX0_write 5 = .ok (.getfield 19, 3) := by decide +kernel
theorem dX0_write_8 : decode cX0_write 8 = .ok (.sipush 1023, 3) := by decide +kernel
theorem dX0_write_11 : decode cX0_write 11 = .ok (.iand, 1) := by decide +kernel
theorem dX0_write_12 : decode cX0_write 12 = .ok (.iload_n 1, 1) := by decide +kernel
theorem dX0_write_13 : decode cX0_write 13 = .ok (.iastore, 1) := by decide +kernel
theorem dX0_write_14 : decode cX0_write 14 = .ok (.return_, 1) := by decide +kernel
theorem dX0_begin_0 : decode cX0_begin 0 = .ok (.aload_n 0, 1) := by decide +kernel
theorem dX0_begin_1 : decode cX0_begin 1 = .ok (.iload_n 1, 1) := by decide +kernel
theorem dX0_begin_2 : decode cX0_begin 2 = .ok (.putfield 19, 3) := by decide +kernel
theorem dX0_begin_5 : decode cX0_begin 5 = .ok (.aload_n 0, 1) := by decide +kernel
theorem dX0_begin_6 : decode cX0_begin 6 = .ok (.iconst 0, 1) := by decide +kernel
theorem dX0_begin_7 : decode cX0_begin 7 = .ok (.putfield 15, 3) := by decide +kernel
theorem dX0_begin_10 : decode cX0_begin 10 = .ok (.return_, 1) := by decide +kernel
theorem dX0_rest_0 : decode cX0_rest 0 = .ok (.aload_n 0, 1) := by decide +kernel
theorem dX0_rest_1 : decode cX0_rest 1 = .ok (.getfield 15, 3) := by decide +kernel
theorem dX0_rest_4 : decode cX0_rest 4 = .ok (.iconst 5, 1) := by decide +kernel
theorem dX0_rest_5 : decode cX0_rest 5 = .ok (.if_icmp .ge 13, 3) := by decide +kernel
theorem dX0_rest_8 : decode cX0_rest 8 = .ok (.aload_n 0, 1) := by decide +kernel
theorem dX0_rest_9 : decode cX0_rest 9 = .ok (.dup, 1) := by decide +kernel
theorem dX0_rest_10 : decode cX0_rest 10 = .ok (.getfield 15, 3) := by decide +kernel
theorem dX0_rest_13 : decode cX0_rest 13 = .ok (.iconst 1, 1) := by decide +kernel
theorem dX0_rest_14 : decode cX0_rest 14 = .ok (.iadd, 1) := by decide +kernel
theorem dX0_rest_15 : decode cX0_rest 15 = .ok (.putfield 15, 3) := by decide +kernel
theorem dX0_rest_18 : decode cX0_rest 18 = .ok (.return_, 1) := by decide +kernel
theorem dX1_init_0 : decode cX1_init 0 = .ok (.aload_n 0, 1) := by decide +kernel
theorem dX1_init_1 : decode cX1_init 1 = .ok (.invokespecial 3, 3) := by decide +kernel
theorem dX1_init_4 : decode cX1_init 4 = .ok (.aload_n 0, 1) := by decide +kernel
theorem dX1_init_5 : decode cX1_init 5 = .ok (.sipush 500, 3) := by decide +kernel
theorem dX1_init_8 : decode cX1_init 8 = .ok (.newarray .int, 2) := by decide +kernel
theorem dX1_init_10 : decode cX1_init 10 = .ok (.putfield 9, 3) := by decide +kernel
theorem dX1_init_13 : decode cX1_init 13 = .ok (.return_, 1) := by decide +kernel
theorem dX1_send_0 : decode cX1_send 0 = .ok (.aload_n 0, 1) := by decide +kernel
theorem dX1_send_1 : decode cX1_send 1 = .ok (.getfield 15, 3) := by decide +kernel
theorem dX1_send_4 : decode cX1_send 4 = .ok (.sipush 500, 3) := by decide +kernel
theorem dX1_send_7 : decode cX1_send 7 = .ok (.if_icmp .ge 23, 3) := by decide +kernel
theorem dX1_send_10 : decode cX1_send 10 = .ok (.aload_n 0, 1) := by decide +kernel
theorem dX1_send_11 : decode cX1_send 11 = .ok (.getfield 9, 3) := by decide +kernel
theorem dX1_send_14 : decode cX1_send 14 = .ok (.aload_n 0, 1) := by decide +kernel
theorem dX1_send_15 : decode cX1_send 15 = .ok (.getfield 15, 3) := by decide +kernel
theorem dX1_send_18 : decode cX1_send 18 = .ok (.iload_n 1, 1) := by decide +kernel
theorem dX1_send_19 : decode cX1_send 19 = .ok (.iastore, 1) := by decide +kernel
theorem dX1_send_20 : decode cX1_send 20 = .ok (.aload_n 0, 1) := by decide +kernel
theorem dX1_send_21 : decode cX1_send 21 = .ok (.dup, 1) := by decide +kernel
theorem dX1_send_22 : decode cX1_send 22 = .ok (.getfield 15, 3) := by decide +kernel
theorem dX1_send_25 : decode cX1_send 25 = .ok (.iconst 1, 1) := by decide +kernel
theorem dX1_send_26 : decode cX1_send 26 = .ok (.iadd, 1) := by decide +kernel
theorem dX1_send_27 : decode cX1_send 27 = .ok (.putfield 15, 3) := by decide +kernel
theorem dX1_send_30 : decode cX1_send 30 = .ok (.aload_n 0, 1) := by decide +kernel
theorem dX1_send_31 : decode cX1_send 31 = .ok (.dup, 1) := by decide +kernel
theorem dX1_send_32 : decode cX1_send 32 = .ok (.getfield 19, 3) := by decide +kernel
theorem dX1_send_35 : decode cX1_send 35 = .ok (.iconst 1, 1) := by decide +kernel
theorem dX1_send_36 : decode cX1_send 36 = .ok (.iadd, 1) := by decide +kernel
theorem dX1_send_37 : decode cX1_send 37 = .ok (.putfield 19, 3) := by decide +kernel
theorem dX1_send_40 : decode cX1_send 40 = .ok (.return_, 1) := by decide +kernel
theorem dX2_init_0 : decode cX2_init 0 = .ok (.aload_n 0, 1) := by decide +kernel
theorem dX2_init_1 : decode cX2_init 1 = .ok (.invokespecial 3, 3) := by decide +kernel
theorem dX2_init_4 : decode cX2_init 4 = .ok (.aload_n 0, 1) := by decide +kernel
theorem dX2_init_5 : decode cX2_init 5 = .ok (.bipush 16, 2) := by decide +kernel
theorem dX2_init_7 : decode cX2_init 7 = .ok (.newarray .int, 2) := by decide +kernel
theorem dX2_init_9 : decode cX2_init 9 = .ok (.putfield 9, 3) := by decide +kernel
theorem dX2_init_12 : decode cX2_init 12 = .ok (.aload_n 0, 1) := by decide +kernel
theorem dX2_init_13 : decode cX2_init 13 = .ok (.bipush 16, 2) := by decide +kernel
theorem dX2_init_15 : decode cX2_init 15 = .ok (.newarray .int, 2) := by decide +kernel
theorem dX2_init_17 : decode cX2_init 17 = .ok (.putfield 15, 3) := by decide +kernel
theorem dX2_init_20 : decode cX2_init 20 = .ok (.aload_n 0, 1) := by decide +kernel
theorem dX2_init_21 : decode cX2_init 21 = .ok (.bipush 16, 2) := by decide +kernel
theorem dX2_init_23 : decode cX2_init 23 = .ok (.newarray .int, 2) := by decide +kernel
theorem dX2_init_25 : decode cX2_init 25 = .ok (.putfield 18, 3) := by decide +kernel
theorem dX2_init_28 : decode cX2_init 28 = .ok (.aload_n 0, 1) := by decide +kernel
theorem dX2_init_29 : decode cX2_init 29 = .ok (.bipush 16, 2) := by decide +kernel
theorem dX2_init_31 : decode cX2_init 31 = .ok (.newarray .boolean, 2) := by decide +kernel
theorem dX2_init_33 : decode cX2_init 33 = .ok (.putfield 21, 3) := by decide +kernel
theorem dX2_init_36 : decode cX2_init 36 = .ok (.aload_n 0, 1) := by decide +kernel
theorem dX2_init_37 : decode cX2_init 37 = .ok (.getfield 21, 3) := by decide +kernel
theorem dX2_init_40 : decode cX2_init 40 = .ok (.iconst 0, 1) := by decide +kernel
theorem dX2_init_41 : decode cX2_init 41 = .ok (.iconst 1, 1) := by decide +kernel
theorem dX2_init_42 : decode cX2_init 42 = .ok (.bastore, 1) := by decide +kernel
theorem dX2_init_43 : decode cX2_init 43 = .ok (.return_, 1) := by decide +kernel
theorem dX2_rouse_0 : decode cX2_rouse 0 = .ok (.aload_n 0, 1) := by decide +kernel
theorem dX2_rouse_1 : decode cX2_rouse 1 = .ok (.getfield 21, 3) := by decide +kernel
theorem dX2_rouse_4 : decode cX2_rouse 4 = .ok (.iload_n 1, 1) := by decide +kernel
theorem dX2_rouse_5 : decode cX2_rouse 5 = .ok (.baload, 1) := by decide +kernel
theorem dX2_rouse_6 : decode cX2_rouse 6 = .ok (.istore_n 2, 1) := by decide +kernel
theorem dX2_rouse_7 : decode cX2_rouse 7 = .ok (.aload_n 0, 1) := by decide +kernel
theorem dX2_rouse_8 : decode cX2_rouse 8 = .ok (.getfield 21, 3) := by decide +kernel
theorem dX2_rouse_11 : decode cX2_rouse 11 = .ok (.iload_n 1, 1) := by decide +kernel
theorem dX2_rouse_12 : decode cX2_rouse 12 = .ok (.iconst 1, 1) := by decide +kernel
theorem dX2_rouse_13 : decode cX2_rouse 13 = .ok (.bastore, 1) := by decide +kernel
theorem dX2_rouse_14 : decode cX2_rouse 14 = .ok (.iload_n 2, 1) := by decide +kernel
theorem dX2_rouse_15 : decode cX2_rouse 15 = .ok (.ireturn, 1) := by decide +kernel
theorem dX2_goOn_0 : decode cX2_goOn 0 = .ok (.aload_n 0, 1) := by decide +kernel
theorem dX2_goOn_1 : decode cX2_goOn 1 = .ok (.getfield 9, 3) := by decide +kernel
theorem dX2_goOn_4 : decode cX2_goOn 4 = .ok (.aload_n 0, 1) := by decide +kernel
theorem dX2_goOn_5 : decode cX2_goOn 5 = .ok (.getfield 25, 3) := by decide +kernel
theorem dX2_goOn_8 : decode cX2_goOn 8 = .ok (.iload_n 1, 1) := by decide +kernel
theorem dX2_goOn_9 : decode cX2_goOn 9 = .ok (.aload_n 0, 1) := by decide +kernel
theorem dX2_goOn_10 : decode cX2_goOn 10 = .ok (.getfield 15, 3) := by decide +kernel
theorem dX2_goOn_13 : decode cX2_goOn 13 = .ok (.aload_n 0, 1) := by decide +kernel
theorem dX2_goOn_14 : decode cX2_goOn 14 = .ok (.getfield 25, 3) := by decide +kernel
theorem dX2_goOn_17 : decode cX2_goOn 17 = .ok (.iaload, 1) := by decide +kernel
theorem dX2_goOn_18 : decode cX2_goOn 18 = .ok (.ior, 1) := by decide +kernel
theorem dX2_goOn_19 : decode cX2_goOn 19 = .ok (.iastore, 1) := by decide +kernel
theorem dX2_goOn_20 : decode cX2_goOn 20 = .ok (.aload_n 0, 1) := by decide +kernel
theorem dX2_goOn_21 : decode cX2_goOn 21 = .ok (.getfield 15, 3) := by decide +kernel
theorem dX2_goOn_24 : decode cX2_goOn 24 = .ok (.aload_n 0, 1) := by decide +kernel
theorem dX2_goOn_25 : decode cX2_goOn 25 = .ok (.getfield 25, 3) := by decide +kernel
theorem dX2_goOn_28 : decode cX2_goOn 28 = .ok (.iload_n 2, 1) := by decide +kernel
theorem dX2_goOn_29 : decode cX2_goOn 29 = .ok (.iastore, 1) := by decide +kernel
theorem dX2_goOn_30 : decode cX2_goOn 30 = .ok (.aload_n 0, 1) := by decide +kernel
theorem dX2_goOn_31 : decode cX2_goOn 31 = .ok (.getfield 18, 3) := by decide +kernel
theorem dX2_goOn_34 : decode cX2_goOn 34 = .ok (.aload_n 0, 1) := by decide +kernel
theorem dX2_goOn_35 : decode cX2_goOn 35 = .ok (.getfield 25, 3) := by decide +kernel
theorem dX2_goOn_38 : decode cX2_goOn 38 = .ok (.dup2, 1) := by decide +kernel
theorem dX2_goOn_39 : decode cX2_goOn 39 = .ok (.iaload, 1) := by decide +kernel
theorem dX2_goOn_40 : decode cX2_goOn 40 = .ok (.iconst 1, 1) := by decide +kernel
theorem dX2_goOn_41 : decode cX2_goOn 41 = .ok (.iadd, 1) := by decide +kernel
theorem dX2_goOn_42 : decode cX2_goOn 42 = .ok (.iastore, 1) := by decide +kernel
theorem dX2_goOn_43 : decode cX2_goOn 43 = .ok (.iload_n 3, 1) := by decide +kernel
theorem dX2_goOn_44 : decode cX2_goOn 44 = .ok (.iconst 3, 1) := by decide +kernel
theorem dX2_goOn_45 : decode cX2_goOn 45 = .ok (.if_icmp .ne 20, 3) := by decide +kernel
theorem dX2_goOn_48 : decode cX2_goOn 48 = .ok (.aload_n 0, 1) := by decide +kernel
theorem dX2_goOn_49 : decode cX2_goOn 49 = .ok (.getfield 25, 3) := by decide +kernel
theorem dX2_goOn_52 : decode cX2_goOn 52 = .ok (.ifCond .eq 13, 3) := by decide +kernel
theorem dX2_goOn_55 : decode cX2_goOn 55 = .ok (.aload_n 0, 1) := by decide +kernel
theorem dX2_goOn_56 : decode cX2_goOn 56 = .ok (.getfield 21, 3) := by decide +kernel
theorem dX2_goOn_59 : decode cX2_goOn 59 = .ok (.aload_n 0, 1) := by decide +kernel
theorem dX2_goOn_60 : decode cX2_goOn 60 = .ok (.getfield 25, 3) := by decide +kernel
theorem dX2_goOn_63 : decode cX2_goOn 63 = .ok (.iconst 0, 1) := by decide +kernel
theorem dX2_goOn_64 : decode cX2_goOn 64 = .ok (.bastore, 1) := by decide +kernel
theorem dX2_goOn_65 : decode cX2_goOn 65 = .ok (.aload_n 0, 1) := by decide +kernel
theorem dX2_goOn_66 : decode cX2_goOn 66 = .ok (.getfield 29, 3) := by decide +kernel
theorem dX2_goOn_69 : decode cX2_goOn 69 = .ok (.ifCond .eq 11, 3) := by decide +kernel
theorem dX2_goOn_72 : decode cX2_goOn 72 = .ok (.aload_n 0, 1) := by decide +kernel
theorem dX2_goOn_73 : decode cX2_goOn 73 = .ok (.aload_n 0, 1) := by decide +kernel
theorem dX2_goOn_74 : decode cX2_goOn 74 = .ok (.invokevirtual 33, 3) := by decide +kernel
theorem dX2_goOn_77 : decode cX2_goOn 77 = .ok (.invokevirtual 37, 3) := by decide +kernel
theorem dX2_goOn_80 : decode cX2_goOn 80 = .ok (.aload_n 0, 1) := by decide +kernel
theorem dX2_goOn_81 : decode cX2_goOn 81 = .ok (.iload_n 3, 1) := by decide +kernel
theorem dX2_goOn_82 : decode cX2_goOn 82 = .ok (.iconst 2, 1) := by decide +kernel
theorem dX2_goOn_83 : decode cX2_goOn 83 = .ok (.if_icmp .ne 7, 3) := by decide +kernel
theorem dX2_goOn_86 : decode cX2_goOn 86 = .ok (.iconst 1, 1) := by decide +kernel
theorem dX2_goOn_87 : decode cX2_goOn 87 = .ok (.goto 4, 3) := by decide +kernel
theorem dX2_goOn_90 : decode cX2_goOn 90 = .ok (.iconst 0, 1) := by decide +kernel
theorem dX2_goOn_91 : decode cX2_goOn 91 = .ok (.putfield 29, 3) := by decide +kernel
theorem dX2_goOn_94 : decode cX2_goOn 94 = .ok (.return_, 1) := by decide +kernel
theorem dX2_giveTo_0 : decode cX2_giveTo 0 = .ok (.iload_n 1, 1) := by decide +kernel
theorem dX2_giveTo_1 : decode cX2_giveTo 1 = .ok (.aload_n 0, 1) := by decide +kernel
theorem dX2_giveTo_2 : decode cX2_giveTo 2 = .ok (.getfield 25, 3) := by decide +kernel
theorem dX2_giveTo_5 : decode cX2_giveTo 5 = .ok (.if_icmp .eq 18, 3) := by decide +kernel
theorem dX2_giveTo_8 : decode cX2_giveTo 8 = .ok (.aload_n 0, 1) := by decide +kernel
theorem dX2_giveTo_9 : decode cX2_giveTo 9 = .ok (.iload_n 1, 1) := by decide +kernel
theorem dX2_giveTo_10 : decode cX2_giveTo 10 = .ok (.putfield 25, 3) := by decide +kernel
theorem dX2_giveTo_13 : decode cX2_giveTo 13 = .ok (.aload_n 0, 1) := by decide +kernel
theorem dX2_giveTo_14 : decode cX2_giveTo 14 = .ok (.dup, 1) := by decide +kernel
theorem dX2_giveTo_15 : decode cX2_giveTo 15 = .ok (.getfield 41, 3) := by decide +kernel
theorem dX2_giveTo_18 : decode cX2_giveTo 18 = .ok (.iconst 1, 1) := by decide +kernel
theorem dX2_giveTo_19 : decode cX2_giveTo 19 = .ok (.iadd, 1) := by decide +kernel
theorem dX2_giveTo_20 : decode cX2_giveTo 20 = .ok (.putfield 41, 3) := by decide +kernel
theorem dX2_giveTo_23 : decode cX2_giveTo 23 = .ok (.return_, 1) := by decide +kernel
theorem dX2_greatestWoken_0 : decode cX2_greatestWoken 0 = .ok (.bipush 15, 2) := by decide +kernel
theorem dX2_greatestWoken_2 : decode cX2_greatestWoken 2 = .ok (.istore_n 1, 1) := by decide +kernel
theorem dX2_greatestWoken_3 : decode cX2_greatestWoken 3 = .ok (.iload_n 1, 1) := by decide +kernel
theorem dX2_greatestWoken_4 : decode cX2_greatestWoken 4 = .ok (.ifCond .le 20, 3) := by decide +kernel
theorem dX2_greatestWoken_7 : decode cX2_greatestWoken 7 = .ok (.aload_n 0, 1) := by decide +kernel
theorem dX2_greatestWoken_8 : decode cX2_greatestWoken 8 = .ok (.getfield 21, 3) := by decide +kernel
theorem dX2_greatestWoken_11 : decode cX2_greatestWoken 11 = .ok (.iload_n 1, 1) := by decide +kernel
theorem dX2_greatestWoken_12 : decode cX2_greatestWoken 12 = .ok (.baload, 1) := by decide +kernel
theorem dX2_greatestWoken_13 : decode cX2_greatestWoken 13 = .ok (.ifCond .eq 5, 3) := by decide +kernel
theorem dX2_greatestWoken_16 : decode cX2_greatestWoken 16 = .ok (.iload_n 1, 1) := by decide +kernel
theorem dX2_greatestWoken_17 : decode cX2_greatestWoken 17 = .ok (.ireturn, 1) := by decide +kernel
theorem dX2_greatestWoken_18 : decode cX2_greatestWoken 18 = .ok (.iinc 1 (-1), 3) := by decide +kernel
theorem dX2_greatestWoken_21 : decode cX2_greatestWoken 21 = .ok (.goto (-18), 3) := by decide +kernel
theorem dX2_greatestWoken_24 : decode cX2_greatestWoken 24 = .ok (.iconst 0, 1) := by decide +kernel
theorem dX2_greatestWoken_25 : decode cX2_greatestWoken 25 = .ok (.ireturn, 1) := by decide +kernel
theorem dX3_init_0 : decode cX3_init 0 = .ok (.aload_n 0, 1) := by decide +kernel
theorem dX3_init_1 : decode cX3_init 1 = .ok (.invokespecial 3, 3) := by decide +kernel
theorem dX3_init_4 : decode cX3_init 4 = .ok (.aload_n 0, 1) := by decide +kernel
theorem dX3_init_5 : decode cX3_init 5 = .ok (.bipush 32, 2) := by decide +kernel
theorem dX3_init_7 : decode cX3_init 7 = .ok (.newarray .int, 2) := by decide +kernel
theorem dX3_init_9 : decode cX3_init 9 = .ok (.putfield 9, 3) := by decide +kernel
theorem dX3_init_12 : decode cX3_init 12 = .ok (.aload_n 0, 1) := by decide +kernel
theorem dX3_init_13 : decode cX3_init 13 = .ok (.sipush 256, 3) := by decide +kernel
theorem dX3_init_16 : decode cX3_init 16 = .ok (.newarray .int, 2) := by decide +kernel
theorem dX3_init_18 : decode cX3_init 18 = .ok (.putfield 13, 3) := by decide +kernel
theorem dX3_init_21 : decode cX3_init 21 = .ok (.aload_n 0, 1) := by decide +kernel
theorem dX3_init_22 : decode cX3_init 22 = .ok (.sipush 1024, 3) := by decide +kernel
theorem dX3_init_25 : decode cX3_init 25 = .ok (.newarray .int, 2) := by decide +kernel
theorem dX3_init_27 : decode cX3_init 27 = .ok (.putfield 16, 3) := by decide +kernel
theorem dX3_init_30 : decode cX3_init 30 = .ok (.aload_n 0, 1) := by decide +kernel
theorem dX3_init_31 : decode cX3_init 31 = .ok (.new 19, 3) := by decide +kernel
theorem dX3_init_34 : decode cX3_init 34 = .ok (.dup, 1) := by decide +kernel
theorem dX3_init_35 : decode cX3_init 35 = .ok (.invokespecial 21, 3) := by decide +kernel
theorem dX3_init_38 : decode cX3_init 38 = .ok (.putfield 22, 3) := by decide +kernel
theorem dX3_init_41 : decode cX3_init 41 = .ok (.aload_n 0, 1) := by decide +kernel
theorem dX3_init_42 : decode cX3_init 42 = .ok (.new 26, 3) := by decide +kernel
theorem dX3_init_45 : decode cX3_init 45 = .ok (.dup, 1) := by decide +kernel
theorem dX3_init_46 : decode cX3_init 46 = .ok (.invokespecial 28, 3) := by decide +kernel
theorem dX3_init_49 : decode cX3_init 49 = .ok (.putfield 29, 3) := by decide +kernel
theorem dX3_init_52 : decode cX3_init 52 = .ok (.aload_n 0, 1) := by decide +kernel
theorem dX3_init_53 : decode cX3_init 53 = .ok (.new 33, 3) := by decide +kernel
theorem dX3_init_56 : decode cX3_init 56 = .ok (.dup, 1) := by decide +kernel
theorem dX3_init_57 : decode cX3_init 57 = .ok (.invokespecial 35, 3) := by decide +kernel
theorem dX3_init_60 : decode cX3_init 60 = .ok (.putfield 36, 3) := by decide +kernel
theorem dX3_init_63 : decode cX3_init 63 = .ok (.return_, 1) := by decide +kernel
theorem dX3_store_0 : decode cX3_store 0 = .ok (.aload_n 0, 1) := by decide +kernel
theorem dX3_store_1 : decode cX3_store 1 = .ok (.getfield 16, 3) := by decide +kernel
theorem dX3_store_4 : decode cX3_store 4 = .ok (.iload_n 1, 1) := by decide +kernel
theorem dX3_store_5 : decode cX3_store 5 = .ok (.iload_n 2, 1) := by decide +kernel
theorem dX3_store_6 : decode cX3_store 6 = .ok (.invokestatic 40, 3) := by decide +kernel
theorem dX3_store_9 : decode cX3_store 9 = .ok (.ireturn, 1) := by decide +kernel
theorem dX3_constant_0 : decode cX3_constant 0 = .ok (.aload_n 0, 1) := by decide +kernel
theorem dX3_constant_1 : decode cX3_constant 1 = .ok (.getfield 13, 3) := by decide +kernel
theorem dX3_constant_4 : decode cX3_constant 4 = .ok (.iload_n 1, 1) := by decide +kernel
theorem dX3_constant_5 : decode cX3_constant 5 = .ok (.iload_n 2, 1) := by decide +kernel
theorem dX3_constant_6 : decode cX3_constant 6 = .ok (.ldc 44, 2) := by decide +kernel
theorem dX3_constant_8 : decode cX3_constant 8 = .ok (.iand, 1) := by decide +kernel
theorem dX3_constant_9 : decode cX3_constant 9 = .ok (.invokestatic 40, 3) := by decide +kernel
theorem dX3_constant_12 : decode cX3_constant 12 = .ok (.ireturn, 1) := by decide +kernel
theorem dX3_poke_0 : decode cX3_poke 0 = .ok (.aload_n 0, 1) := by decide +kernel
theorem dX3_poke_1 : decode cX3_poke 1 = .ok (.getfield 22, 3) := by decide +kernel
theorem dX3_poke_4 : decode cX3_poke 4 = .ok (.getfield 45, 3) := by decide +kernel
theorem dX3_poke_7 : decode cX3_poke 7 = .ok (.iload_n 1, 1) := by decide +kernel
theorem dX3_poke_8 : decode cX3_poke 8 = .ok (.iload_n 2, 1) := by decide +kernel
theorem dX3_poke_9 : decode cX3_poke 9 = .ok (.ldc 44, 2) := by decide +kernel
theorem dX3_poke_11 : decode cX3_poke 11 = .ok (.iand, 1) := by decide +kernel
theorem dX3_poke_12 : decode cX3_poke 12 = .ok (.invokestatic 40, 3) := by decide +kernel
theorem dX3_poke_15 : decode cX3_poke 15 = .ok (.ireturn, 1) := by decide +kernel
theorem dX3_set_0 : decode cX3_set 0 = .ok (.aload_n 0, 1) := by decide +kernel
theorem dX3_set_1 : decode cX3_set 1 = .ok (.getfield 9, 3) := by decide +kernel
theorem dX3_set_4 : decode cX3_set 4 = .ok (.iload_n 1, 1) := by decide +kernel
theorem dX3_set_5 : decode cX3_set 5 = .ok (.iload_n 2, 1) := by decide +kernel
theorem dX3_set_6 : decode cX3_set 6 = .ok (.ldc 44, 2) := by decide +kernel
theorem dX3_set_8 : decode cX3_set 8 = .ok (.iand, 1) := by decide +kernel
theorem dX3_set_9 : decode cX3_set 9 = .ok (.invokestatic 40, 3) := by decide +kernel
theorem dX3_set_12 : decode cX3_set 12 = .ok (.ireturn, 1) := by decide +kernel
theorem dX3_port_0 : decode cX3_port 0 = .ok (.aload_n 0, 1) := by decide +kernel
theorem dX3_port_1 : decode cX3_port 1 = .ok (.iload_n 1, 1) := by decide +kernel
theorem dX3_port_2 : decode cX3_port 2 = .ok (.ldc 44, 2) := by decide +kernel
theorem dX3_port_4 : decode cX3_port 4 = .ok (.iand, 1) := by decide +kernel
theorem dX3_port_5 : decode cX3_port 5 = .ok (.putfield 48, 3) := by decide +kernel
theorem dX3_port_8 : decode cX3_port 8 = .ok (.return_, 1) := by decide +kernel
theorem dX3_wake_0 : decode cX3_wake 0 = .ok (.iload_n 1, 1) := by decide +kernel
theorem dX3_wake_1 : decode cX3_wake 1 = .ok (.invokestatic 52, 3) := by decide +kernel
theorem dX3_wake_4 : decode cX3_wake 4 = .ok (.ifCond .eq 18, 3) := by decide +kernel
theorem dX3_wake_7 : decode cX3_wake 7 = .ok (.aload_n 0, 1) := by decide +kernel
theorem dX3_wake_8 : decode cX3_wake 8 = .ok (.getfield 29, 3) := by decide +kernel
theorem dX3_wake_11 : decode cX3_wake 11 = .ok (.iload_n 1, 1) := by decide +kernel
theorem dX3_wake_12 : decode cX3_wake 12 = .ok (.invokevirtual 56, 3) := by decide +kernel
theorem dX3_wake_15 : decode cX3_wake 15 = .ok (.ifCond .eq 7, 3) := by decide +kernel
theorem dX3_wake_18 : decode cX3_wake 18 = .ok (.iconst 1, 1) := by decide +kernel
theorem dX3_wake_19 : decode cX3_wake 19 = .ok (.goto 4, 3) := by decide +kernel
theorem dX3_wake_22 : decode cX3_wake 22 = .ok (.iconst 0, 1) := by decide +kernel
theorem dX3_wake_23 : decode cX3_wake 23 = .ok (.ireturn, 1) := by decide +kernel
theorem dX3_start_0 : decode cX3_start 0 = .ok (.iload_n 1, 1) := by decide +kernel
theorem dX3_start_1 : decode cX3_start 1 = .ok (.invokestatic 52, 3) := by decide +kernel
theorem dX3_start_4 : decode cX3_start 4 = .ok (.ifCond .eq 14, 3) := by decide +kernel
theorem dX3_start_7 : decode cX3_start 7 = .ok (.iload_n 2, 1) := by decide +kernel
theorem dX3_start_8 : decode cX3_start 8 = .ok (.ifCond .lt 10, 3) := by decide +kernel
theorem dX3_start_11 : decode cX3_start 11 = .ok (.iload_n 2, 1) := by decide +kernel
theorem dX3_start_12 : decode cX3_start 12 = .ok (.sipush 1024, 3) := by decide +kernel
theorem dX3_start_15 : decode cX3_start 15 = .ok (.if_icmp .lt 5, 3) := by decide +kernel
theorem dX3_start_18 : decode cX3_start 18 = .ok (.iconst 0, 1) := by decide +kernel
theorem dX3_start_19 : decode cX3_start 19 = .ok (.ireturn, 1) := by decide +kernel
theorem dX3_start_20 : decode cX3_start 20 = .ok (.aload_n 0, 1) := by decide +kernel
theorem dX3_start_21 : decode cX3_start 21 = .ok (.getfield 29, 3) := by decide +kernel
theorem dX3_start_24 : decode cX3_start 24 = .ok (.getfield 59, 3) := by decide +kernel
theorem dX3_start_27 : decode cX3_start 27 = .ok (.iload_n 1, 1) := by decide +kernel
theorem dX3_start_28 : decode cX3_start 28 = .ok (.iload_n 2, 1) := by decide +kernel
theorem dX3_start_29 : decode cX3_start 29 = .ok (.iastore, 1) := by decide +kernel
theorem dX3_start_30 : decode cX3_start 30 = .ok (.aload_n 0, 1) := by decide +kernel
theorem dX3_start_31 : decode cX3_start 31 = .ok (.getfield 29, 3) := by decide +kernel
theorem dX3_start_34 : decode cX3_start 34 = .ok (.getfield 62, 3) := by decide +kernel
theorem dX3_start_37 : decode cX3_start 37 = .ok (.iload_n 1, 1) := by decide +kernel
theorem dX3_start_38 : decode cX3_start 38 = .ok (.iconst 0, 1) := by decide +kernel
theorem dX3_start_39 : decode cX3_start 39 = .ok (.iastore, 1) := by decide +kernel
theorem dX3_start_40 : decode cX3_start 40 = .ok (.iconst 1, 1) := by decide +kernel
theorem dX3_start_41 : decode cX3_start 41 = .ok (.ireturn, 1) := by decide +kernel
theorem dX3_run_0 : decode cX3_run 0 = .ok (.iload_n 1, 1) := by decide +kernel
theorem dX3_run_1 : decode cX3_run 1 = .ok (.iconst 1, 1) := by decide +kernel
theorem dX3_run_2 : decode cX3_run 2 = .ok (.if_icmp .lt 10, 3) := by decide +kernel
theorem dX3_run_5 : decode cX3_run 5 = .ok (.iload_n 1, 1) := by decide +kernel
theorem dX3_run_6 : decode cX3_run 6 = .ok (.sipush 5000, 3) := by decide +kernel
theorem dX3_run_9 : decode cX3_run 9 = .ok (.if_icmp .le 5, 3) := by decide +kernel
theorem dX3_run_12 : decode cX3_run 12 = .ok (.iconst (-1), 1) := by decide +kernel
theorem dX3_run_13 : decode cX3_run 13 = .ok (.ireturn, 1) := by decide +kernel
theorem dX3_run_14 : decode cX3_run 14 = .ok (.iconst 0, 1) := by decide +kernel
theorem dX3_run_15 : decode cX3_run 15 = .ok (.istore_n 2, 1) := by decide +kernel
theorem dX3_run_16 : decode cX3_run 16 = .ok (.iconst 0, 1) := by decide +kernel
theorem dX3_run_17 : decode cX3_run 17 = .ok (.istore_n 3, 1) := by decide +kernel
theorem dX3_run_18 : decode cX3_run 18 = .ok (.iload_n 3, 1) := by decide +kernel
theorem dX3_run_19 : decode cX3_run 19 = .ok (.iload_n 1, 1) := by decide +kernel
theorem dX3_run_20 : decode cX3_run 20 = .ok (.if_icmp .ge 19, 3) := by decide +kernel
theorem dX3_run_23 : decode cX3_run 23 = .ok (.aload_n 0, 1) := by decide +kernel
theorem dX3_run_24 : decode cX3_run 24 = .ok (.invokevirtual 65, 3) := by decide +kernel
theorem dX3_run_27 : decode cX3_run 27 = .ok (.ifCond .eq 6, 3) := by decide +kernel
theorem dX3_run_30 : decode cX3_run 30 = .ok (.iinc 2 1, 3) := by decide +kernel
theorem dX3_run_33 : decode cX3_run 33 = .ok (.iinc 3 1, 3) := by decide +kernel
theorem dX3_run_36 : decode cX3_run 36 = .ok (.goto (-18), 3) := by decide +kernel
theorem dX3_run_39 : decode cX3_run 39 = .ok (.iload_n 2, 1) := by decide +kernel
theorem dX3_run_40 : decode cX3_run 40 = .ok (.ireturn, 1) := by decide +kernel
theorem dX3_register_0 : decode cX3_register 0 = .ok (.iload_n 1, 1) := by decide +kernel
theorem dX3_register_1 : decode cX3_register 1 = .ok (.tableswitch 54 32 35 #[31, 36, 41, 46], 31) := by decide +kernel
theorem dX3_register_32 : decode cX3_register 32 = .ok (.aload_n 0, 1) := by decide +kernel
theorem dX3_register_33 : decode cX3_register 33 = .ok (.getfield 69, 3) := by decide +kernel
theorem dX3_register_36 : decode cX3_register 36 = .ok (.ireturn, 1) := by decide +kernel
theorem dX3_register_37 : decode cX3_register 37 = .ok (.aload_n 0, 1) := by decide +kernel
theorem dX3_register_38 : decode cX3_register 38 = .ok (.getfield 72, 3) := by decide +kernel
theorem dX3_register_41 : decode cX3_register 41 = .ok (.ireturn, 1) := by decide +kernel
theorem dX3_register_42 : decode cX3_register 42 = .ok (.aload_n 0, 1) := by decide +kernel
theorem dX3_register_43 : decode cX3_register 43 = .ok (.getfield 75, 3) := by decide +kernel
theorem dX3_register_46 : decode cX3_register 46 = .ok (.ireturn, 1) := by decide +kernel
theorem dX3_register_47 : decode cX3_register 47 = .ok (.aload_n 0, 1) := by decide +kernel
theorem dX3_register_48 : decode cX3_register 48 = .ok (.getfield 22, 3) := by decide +kernel
theorem dX3_register_51 : decode cX3_register 51 = .ok (.getfield 78, 3) := by decide +kernel
theorem dX3_register_54 : decode cX3_register 54 = .ok (.ireturn, 1) := by decide +kernel
theorem dX3_register_55 : decode cX3_register 55 = .ok (.aload_n 0, 1) := by decide +kernel
theorem dX3_register_56 : decode cX3_register 56 = .ok (.getfield 9, 3) := by decide +kernel
theorem dX3_register_59 : decode cX3_register 59 = .ok (.iload_n 1, 1) := by decide +kernel
theorem dX3_register_60 : decode cX3_register 60 = .ok (.invokestatic 81, 3) := by decide +kernel
theorem dX3_register_63 : decode cX3_register 63 = .ok (.ireturn, 1) := by decide +kernel
theorem dX3_peek_0 : decode cX3_peek 0 = .ok (.aload_n 0, 1) := by decide +kernel
theorem dX3_peek_1 : decode cX3_peek 1 = .ok (.getfield 22, 3) := by decide +kernel
theorem dX3_peek_4 : decode cX3_peek 4 = .ok (.getfield 45, 3) := by decide +kernel
theorem dX3_peek_7 : decode cX3_peek 7 = .ok (.iload_n 1, 1) := by decide +kernel
theorem dX3_peek_8 : decode cX3_peek 8 = .ok (.invokestatic 81, 3) := by decide +kernel
theorem dX3_peek_11 : decode cX3_peek 11 = .ok (.ireturn, 1) := by decide +kernel
theorem dX3_task_0 : decode cX3_task 0 = .ok (.iload_n 1, 1) := by decide +kernel
theorem dX3_task_1 : decode cX3_task 1 = .ok (.invokestatic 52, 3) := by decide +kernel
theorem dX3_task_4 : decode cX3_task 4 = .ok (.ifCond .ne 5, 3) := by decide +kernel
theorem dX3_task_7 : decode cX3_task 7 = .ok (.iconst (-1), 1) := by decide +kernel
theorem dX3_task_8 : decode cX3_task 8 = .ok (.ireturn, 1) := by decide +kernel
theorem dX3_task_9 : decode cX3_task 9 = .ok (.iload_n 2, 1) := by decide +kernel
theorem dX3_task_10 : decode cX3_task 10 = .ok (.tableswitch 78 0 3 #[30, 40, 50, 68], 30) := by decide +kernel
theorem dX3_task_40 : decode cX3_task 40 = .ok (.aload_n 0, 1) := by decide +kernel
theorem dX3_task_41 : decode cX3_task 41 = .ok (.getfield 29, 3) := by decide +kernel
theorem dX3_task_44 : decode cX3_task 44 = .ok (.getfield 59, 3) := by decide +kernel
theorem dX3_task_47 : decode cX3_task 47 = .ok (.iload_n 1, 1) := by decide +kernel
theorem dX3_task_48 : decode cX3_task 48 = .ok (.iaload, 1) := by decide +kernel
theorem dX3_task_49 : decode cX3_task 49 = .ok (.ireturn, 1) := by decide +kernel
theorem dX3_task_50 : decode cX3_task 50 = .ok (.aload_n 0, 1) := by decide +kernel
theorem dX3_task_51 : decode cX3_task 51 = .ok (.getfield 29, 3) := by decide +kernel
theorem dX3_task_54 : decode cX3_task 54 = .ok (.getfield 62, 3) := by decide +kernel
theorem dX3_task_57 : decode cX3_task 57 = .ok (.iload_n 1, 1) := by decide +kernel
theorem dX3_task_58 : decode cX3_task 58 = .ok (.iaload, 1) := by decide +kernel
theorem dX3_task_59 : decode cX3_task 59 = .ok (.ireturn, 1) := by decide +kernel
theorem dX3_task_60 : decode cX3_task 60 = .ok (.aload_n 0, 1) := by decide +kernel
theorem dX3_task_61 : decode cX3_task 61 = .ok (.getfield 29, 3) := by decide +kernel
theorem dX3_task_64 : decode cX3_task 64 = .ok (.getfield 85, 3) := by decide +kernel
theorem dX3_task_67 : decode cX3_task 67 = .ok (.iload_n 1, 1) := by decide +kernel
theorem dX3_task_68 : decode cX3_task 68 = .ok (.baload, 1) := by decide +kernel
theorem dX3_task_69 : decode cX3_task 69 = .ok (.ifCond .eq 7, 3) := by decide +kernel
theorem dX3_task_72 : decode cX3_task 72 = .ok (.iconst 1, 1) := by decide +kernel
theorem dX3_task_73 : decode cX3_task 73 = .ok (.goto 4, 3) := by decide +kernel
theorem dX3_task_76 : decode cX3_task 76 = .ok (.iconst 0, 1) := by decide +kernel
theorem dX3_task_77 : decode cX3_task 77 = .ok (.ireturn, 1) := by decide +kernel
theorem dX3_task_78 : decode cX3_task 78 = .ok (.aload_n 0, 1) := by decide +kernel
theorem dX3_task_79 : decode cX3_task 79 = .ok (.getfield 29, 3) := by decide +kernel
theorem dX3_task_82 : decode cX3_task 82 = .ok (.getfield 89, 3) := by decide +kernel
theorem dX3_task_85 : decode cX3_task 85 = .ok (.iload_n 1, 1) := by decide +kernel
theorem dX3_task_86 : decode cX3_task 86 = .ok (.iaload, 1) := by decide +kernel
theorem dX3_task_87 : decode cX3_task 87 = .ok (.ireturn, 1) := by decide +kernel
theorem dX3_task_88 : decode cX3_task 88 = .ok (.iconst (-1), 1) := by decide +kernel
theorem dX3_task_89 : decode cX3_task 89 = .ok (.ireturn, 1) := by decide +kernel
theorem dX3_now_0 : decode cX3_now 0 = .ok (.aload_n 0, 1) := by decide +kernel
theorem dX3_now_1 : decode cX3_now 1 = .ok (.getfield 29, 3) := by decide +kernel
theorem dX3_now_4 : decode cX3_now 4 = .ok (.getfield 92, 3) := by decide +kernel
theorem dX3_now_7 : decode cX3_now 7 = .ok (.ireturn, 1) := by decide +kernel
theorem dX3_out_0 : decode cX3_out 0 = .ok (.iload_n 1, 1) := by decide +kernel
theorem dX3_out_1 : decode cX3_out 1 = .ok (.aload_n 0, 1) := by decide +kernel
theorem dX3_out_2 : decode cX3_out 2 = .ok (.getfield 36, 3) := by decide +kernel
theorem dX3_out_5 : decode cX3_out 5 = .ok (.getfield 95, 3) := by decide +kernel
theorem dX3_out_8 : decode cX3_out 8 = .ok (.if_icmp .ge 17, 3) := by decide +kernel
theorem dX3_out_11 : decode cX3_out 11 = .ok (.aload_n 0, 1) := by decide +kernel
theorem dX3_out_12 : decode cX3_out 12 = .ok (.getfield 36, 3) := by decide +kernel
theorem dX3_out_15 : decode cX3_out 15 = .ok (.getfield 98, 3) := by decide +kernel
theorem dX3_out_18 : decode cX3_out 18 = .ok (.iload_n 1, 1) := by decide +kernel
theorem dX3_out_19 : decode cX3_out 19 = .ok (.invokestatic 81, 3) := by decide +kernel
theorem dX3_out_22 : decode cX3_out 22 = .ok (.goto 4, 3) := by decide +kernel
theorem dX3_out_25 : decode cX3_out 25 = .ok (.iconst (-1), 1) := by decide +kernel
theorem dX3_out_26 : decode cX3_out 26 = .ok (.ireturn, 1) := by decide +kernel
theorem dX3_count_0 : decode cX3_count 0 = .ok (.iload_n 1, 1) := by decide +kernel
theorem dX3_count_1 : decode cX3_count 1 = .ok (.tableswitch 57 0 3 #[31, 36, 41, 49], 31) := by decide +kernel
theorem dX3_count_32 : decode cX3_count 32 = .ok (.aload_n 0, 1) := by decide +kernel
theorem dX3_count_33 : decode cX3_count 33 = .ok (.getfield 99, 3) := by decide +kernel
theorem dX3_count_36 : decode cX3_count 36 = .ok (.ireturn, 1) := by decide +kernel
theorem dX3_count_37 : decode cX3_count 37 = .ok (.aload_n 0, 1) := by decide +kernel
theorem dX3_count_38 : decode cX3_count 38 = .ok (.getfield 102, 3) := by decide +kernel
theorem dX3_count_41 : decode cX3_count 41 = .ok (.ireturn, 1) := by decide +kernel
theorem dX3_count_42 : decode cX3_count 42 = .ok (.aload_n 0, 1) := by decide +kernel
theorem dX3_count_43 : decode cX3_count 43 = .ok (.getfield 36, 3) := by decide +kernel
theorem dX3_count_46 : decode cX3_count 46 = .ok (.getfield 105, 3) := by decide +kernel
theorem dX3_count_49 : decode cX3_count 49 = .ok (.ireturn, 1) := by decide +kernel
theorem dX3_count_50 : decode cX3_count 50 = .ok (.aload_n 0, 1) := by decide +kernel
theorem dX3_count_51 : decode cX3_count 51 = .ok (.getfield 29, 3) := by decide +kernel
theorem dX3_count_54 : decode cX3_count 54 = .ok (.getfield 108, 3) := by decide +kernel
theorem dX3_count_57 : decode cX3_count 57 = .ok (.ireturn, 1) := by decide +kernel
theorem dX3_count_58 : decode cX3_count 58 = .ok (.iconst (-1), 1) := by decide +kernel
theorem dX3_count_59 : decode cX3_count 59 = .ok (.ireturn, 1) := by decide +kernel
theorem dX3_isTask_0 : decode cX3_isTask 0 = .ok (.iload_n 0, 1) := by decide +kernel
theorem dX3_isTask_1 : decode cX3_isTask 1 = .ok (.ifCond .lt 13, 3) := by decide +kernel
theorem dX3_isTask_4 : decode cX3_isTask 4 = .ok (.iload_n 0, 1) := by decide +kernel
theorem dX3_isTask_5 : decode cX3_isTask 5 = .ok (.bipush 16, 2) := by decide +kernel
theorem dX3_isTask_7 : decode cX3_isTask 7 = .ok (.if_icmp .ge 7, 3) := by decide +kernel
theorem dX3_isTask_10 : decode cX3_isTask 10 = .ok (.iconst 1, 1) := by decide +kernel
theorem dX3_isTask_11 : decode cX3_isTask 11 = .ok (.goto 4, 3) := by decide +kernel
theorem dX3_isTask_14 : decode cX3_isTask 14 = .ok (.iconst 0, 1) := by decide +kernel
theorem dX3_isTask_15 : decode cX3_isTask 15 = .ok (.ireturn, 1) := by decide +kernel
theorem dX3_keep_0 : decode cX3_keep 0 = .ok (.iload_n 1, 1) := by decide +kernel
theorem dX3_keep_1 : decode cX3_keep 1 = .ok (.ifCond .lt 9, 3) := by decide +kernel
theorem dX3_keep_4 : decode cX3_keep 4 = .ok (.iload_n 1, 1) := by decide +kernel
theorem dX3_keep_5 : decode cX3_keep 5 = .ok (.aload_n 0, 1) := by decide +kernel
theorem dX3_keep_6 : decode cX3_keep 6 = .ok (.arraylength, 1) := by decide +kernel
theorem dX3_keep_7 : decode cX3_keep 7 = .ok (.if_icmp .lt 5, 3) := by decide +kernel
theorem dX3_keep_10 : decode cX3_keep 10 = .ok (.iconst 0, 1) := by decide +kernel
theorem dX3_keep_11 : decode cX3_keep 11 = .ok (.ireturn, 1) := by decide +kernel
theorem dX3_keep_12 : decode cX3_keep 12 = .ok (.aload_n 0, 1) := by decide +kernel
theorem dX3_keep_13 : decode cX3_keep 13 = .ok (.iload_n 1, 1) := by decide +kernel
theorem dX3_keep_14 : decode cX3_keep 14 = .ok (.iload_n 2, 1) := by decide +kernel
theorem dX3_keep_15 : decode cX3_keep 15 = .ok (.iastore, 1) := by decide +kernel
theorem dX3_keep_16 : decode cX3_keep 16 = .ok (.iconst 1, 1) := by decide +kernel
theorem dX3_keep_17 : decode cX3_keep 17 = .ok (.ireturn, 1) := by decide +kernel
theorem dX3_ask_0 : decode cX3_ask 0 = .ok (.iload_n 1, 1) := by decide +kernel
theorem dX3_ask_1 : decode cX3_ask 1 = .ok (.ifCond .lt 15, 3) := by decide +kernel
theorem dX3_ask_4 : decode cX3_ask 4 = .ok (.iload_n 1, 1) := by decide +kernel
theorem dX3_ask_5 : decode cX3_ask 5 = .ok (.aload_n 0, 1) := by decide +kernel
theorem dX3_ask_6 : decode cX3_ask 6 = .ok (.arraylength, 1) := by decide +kernel
theorem dX3_ask_7 : decode cX3_ask 7 = .ok (.if_icmp .ge 9, 3) := by decide +kernel
theorem dX3_ask_10 : decode cX3_ask 10 = .ok (.aload_n 0, 1) := by decide +kernel
theorem dX3_ask_11 : decode cX3_ask 11 = .ok (.iload_n 1, 1) := by decide +kernel
theorem dX3_ask_12 : decode cX3_ask 12 = .ok (.iaload, 1) := by decide +kernel
theorem dX3_ask_13 : decode cX3_ask 13 = .ok (.goto 4, 3) := by decide +kernel
theorem dX3_ask_16 : decode cX3_ask 16 = .ok (.iconst (-1), 1) := by decide +kernel
theorem dX3_ask_17 : decode cX3_ask 17 = .ok (.ireturn, 1) := by decide +kernel
theorem dX3_cycle_0 : decode cX3_cycle 0 = .ok (.aload_n 0, 1) := by decide +kernel
theorem dX3_cycle_1 : decode cX3_cycle 1 = .ok (.getfield 16, 3) := by decide +kernel
theorem dX3_cycle_4 : decode cX3_cycle 4 = .ok (.aload_n 0, 1) := by decide +kernel
theorem dX3_cycle_5 : decode cX3_cycle 5 = .ok (.getfield 29, 3) := by decide +kernel
theorem dX3_cycle_8 : decode cX3_cycle 8 = .ok (.getfield 59, 3) := by decide +kernel
theorem dX3_cycle_11 : decode cX3_cycle 11 = .ok (.aload_n 0, 1) := by decide +kernel
theorem dX3_cycle_12 : decode cX3_cycle 12 = .ok (.getfield 29, 3) := by decide +kernel
theorem dX3_cycle_15 : decode cX3_cycle 15 = .ok (.getfield 92, 3) := by decide +kernel
theorem dX3_cycle_18 : decode cX3_cycle 18 = .ok (.iaload, 1) := by decide +kernel
theorem dX3_cycle_19 : decode cX3_cycle 19 = .ok (.iaload, 1) := by decide +kernel
theorem dX3_cycle_20 : decode cX3_cycle 20 = .ok (.istore_n 1, 1) := by decide +kernel
theorem dX3_cycle_21 : decode cX3_cycle 21 = .ok (.aload_n 0, 1) := by decide +kernel
theorem dX3_cycle_22 : decode cX3_cycle 22 = .ok (.iload_n 1, 1) := by decide +kernel
theorem dX3_cycle_23 : decode cX3_cycle 23 = .ok (.invokevirtual 111, 3) := by decide +kernel
theorem dX3_cycle_26 : decode cX3_cycle 26 = .ok (.ifCond .ne 7, 3) := by decide +kernel
theorem dX3_cycle_29 : decode cX3_cycle 29 = .ok (.iconst 1, 1) := by decide +kernel
theorem dX3_cycle_30 : decode cX3_cycle 30 = .ok (.goto 4, 3) := by decide +kernel
theorem dX3_cycle_33 : decode cX3_cycle 33 = .ok (.iconst 0, 1) := by decide +kernel
theorem dX3_cycle_34 : decode cX3_cycle 34 = .ok (.istore_n 2, 1) := by decide +kernel
theorem dX3_cycle_35 : decode cX3_cycle 35 = .ok (.iload_n 2, 1) := by decide +kernel
theorem dX3_cycle_36 : decode cX3_cycle 36 = .ok (.ifCond .eq 11, 3) := by decide +kernel
theorem dX3_cycle_39 : decode cX3_cycle 39 = .ok (.aload_n 0, 1) := by decide +kernel
theorem dX3_cycle_40 : decode cX3_cycle 40 = .ok (.iload_n 1, 1) := by decide +kernel
theorem dX3_cycle_41 : decode cX3_cycle 41 = .ok (.invokevirtual 114, 3) := by decide +kernel
theorem dX3_cycle_44 : decode cX3_cycle 44 = .ok (.goto 13, 3) := by decide +kernel
theorem dX3_cycle_47 : decode cX3_cycle 47 = .ok (.aload_n 0, 1) := by decide +kernel
theorem dX3_cycle_48 : decode cX3_cycle 48 = .ok (.dup, 1) := by decide +kernel
theorem dX3_cycle_49 : decode cX3_cycle 49 = .ok (.getfield 102, 3) := by decide +kernel
theorem dX3_cycle_52 : decode cX3_cycle 52 = .ok (.iconst 1, 1) := by decide +kernel
theorem dX3_cycle_53 : decode cX3_cycle 53 = .ok (.iadd, 1) := by decide +kernel
theorem dX3_cycle_54 : decode cX3_cycle 54 = .ok (.putfield 102, 3) := by decide +kernel
theorem dX3_cycle_57 : decode cX3_cycle 57 = .ok (.aload_n 0, 1) := by decide +kernel
theorem dX3_cycle_58 : decode cX3_cycle 58 = .ok (.getfield 22, 3) := by decide +kernel
theorem dX3_cycle_61 : decode cX3_cycle 61 = .ok (.invokevirtual 118, 3) := by decide +kernel
theorem dX3_cycle_64 : decode cX3_cycle 64 = .ok (.aload_n 0, 1) := by decide +kernel
theorem dX3_cycle_65 : decode cX3_cycle 65 = .ok (.dup, 1) := by decide +kernel
theorem dX3_cycle_66 : decode cX3_cycle 66 = .ok (.getfield 99, 3) := by decide +kernel
theorem dX3_cycle_69 : decode cX3_cycle 69 = .ok (.iconst 1, 1) := by decide +kernel
theorem dX3_cycle_70 : decode cX3_cycle 70 = .ok (.iadd, 1) := by decide +kernel
theorem dX3_cycle_71 : decode cX3_cycle 71 = .ok (.putfield 99, 3) := by decide +kernel
theorem dX3_cycle_74 : decode cX3_cycle 74 = .ok (.iload_n 2, 1) := by decide +kernel
theorem dX3_cycle_75 : decode cX3_cycle 75 = .ok (.ireturn, 1) := by decide +kernel
theorem dX3_mustWait_0 : decode cX3_mustWait 0 = .ok (.aload_n 0, 1) := by decide +kernel
theorem dX3_mustWait_1 : decode cX3_mustWait 1 = .ok (.getfield 22, 3) := by decide +kernel
theorem dX3_mustWait_4 : decode cX3_mustWait 4 = .ok (.getfield 121, 3) := by decide +kernel
theorem dX3_mustWait_7 : decode cX3_mustWait 7 = .ok (.istore_n 2, 1) := by decide +kernel
theorem dX3_mustWait_8 : decode cX3_mustWait 8 = .ok (.iload_n 1, 1) := by decide +kernel
theorem dX3_mustWait_9 : decode cX3_mustWait 9 = .ok (.invokestatic 124, 3) := by decide +kernel
theorem dX3_mustWait_12 : decode cX3_mustWait 12 = .ok (.iconst 5, 1) := by decide +kernel
theorem dX3_mustWait_13 : decode cX3_mustWait 13 = .ok (.if_icmp .ne 14, 3) := by decide +kernel
theorem dX3_mustWait_16 : decode cX3_mustWait 16 = .ok (.iload_n 1, 1) := by decide +kernel
theorem dX3_mustWait_17 : decode cX3_mustWait 17 = .ok (.invokestatic 128, 3) := by decide +kernel
theorem dX3_mustWait_20 : decode cX3_mustWait 20 = .ok (.ifCond .ne 7, 3) := by decide +kernel
theorem dX3_mustWait_23 : decode cX3_mustWait 23 = .ok (.iconst 1, 1) := by decide +kernel
theorem dX3_mustWait_24 : decode cX3_mustWait 24 = .ok (.goto 4, 3) := by decide +kernel
theorem dX3_mustWait_27 : decode cX3_mustWait 27 = .ok (.iconst 0, 1) := by decide +kernel
theorem dX3_mustWait_28 : decode cX3_mustWait 28 = .ok (.istore_n 3, 1) := by decide +kernel
theorem dX3_mustWait_29 : decode cX3_mustWait 29 = .ok (.iload_n 1, 1) := by decide +kernel
theorem dX3_mustWait_30 : decode cX3_mustWait 30 = .ok (.invokestatic 131, 3) := by decide +kernel
theorem dX3_mustWait_33 : decode cX3_mustWait 33 = .ok (.iconst 1, 1) := by decide +kernel
theorem dX3_mustWait_34 : decode cX3_mustWait 34 = .ok (.if_icmp .ne 8, 3) := by decide +kernel
theorem dX3_mustWait_37 : decode cX3_mustWait 37 = .ok (.iload_n 2, 1) := by decide +kernel
theorem dX3_mustWait_38 : decode cX3_mustWait 38 = .ok (.iconst 5, 1) := by decide +kernel
theorem dX3_mustWait_39 : decode cX3_mustWait 39 = .ok (.if_icmp .lt 26, 3) := by decide +kernel
theorem dX3_mustWait_42 : decode cX3_mustWait 42 = .ok (.iload_n 3, 1) := by decide +kernel
theorem dX3_mustWait_43 : decode cX3_mustWait 43 = .ok (.ifCond .eq 8, 3) := by decide +kernel
theorem dX3_mustWait_46 : decode cX3_mustWait 46 = .ok (.iload_n 2, 1) := by decide +kernel
theorem dX3_mustWait_47 : decode cX3_mustWait 47 = .ok (.iconst 4, 1) := by decide +kernel
theorem dX3_mustWait_48 : decode cX3_mustWait 48 = .ok (.if_icmp .lt 17, 3) := by decide +kernel
theorem dX3_mustWait_51 : decode cX3_mustWait 51 = .ok (.iload_n 1, 1) := by decide +kernel
theorem dX3_mustWait_52 : decode cX3_mustWait 52 = .ok (.invokestatic 134, 3) := by decide +kernel
theorem dX3_mustWait_55 : decode cX3_mustWait 55 = .ok (.bipush 6, 2) := by decide +kernel
theorem dX3_mustWait_57 : decode cX3_mustWait 57 = .ok (.if_icmp .ne 12, 3) := by decide +kernel
theorem dX3_mustWait_60 : decode cX3_mustWait 60 = .ok (.iload_n 2, 1) := by decide +kernel
theorem dX3_mustWait_61 : decode cX3_mustWait 61 = .ok (.iconst 2, 1) := by decide +kernel
theorem dX3_mustWait_62 : decode cX3_mustWait 62 = .ok (.if_icmp .ge 7, 3) := by decide +kernel
theorem dX3_mustWait_65 : decode cX3_mustWait 65 = .ok (.iconst 1, 1) := by decide +kernel
theorem dX3_mustWait_66 : decode cX3_mustWait 66 = .ok (.goto 4, 3) := by decide +kernel
theorem dX3_mustWait_69 : decode cX3_mustWait 69 = .ok (.iconst 0, 1) := by decide +kernel
theorem dX3_mustWait_70 : decode cX3_mustWait 70 = .ok (.ireturn, 1) := by decide +kernel
theorem dX3_perform_0 : decode cX3_perform 0 = .ok (.iload_n 1, 1) := by decide +kernel
theorem dX3_perform_1 : decode cX3_perform 1 = .ok (.invokestatic 137, 3) := by decide +kernel
theorem dX3_perform_4 : decode cX3_perform 4 = .ok (.istore_n 2, 1) := by decide +kernel
theorem dX3_perform_5 : decode cX3_perform 5 = .ok (.iload_n 1, 1) := by decide +kernel
theorem dX3_perform_6 : decode cX3_perform 6 = .ok (.invokestatic 131, 3) := by decide +kernel
theorem dX3_perform_9 : decode cX3_perform 9 = .ok (.istore_n 3, 1) := by decide +kernel
theorem dX3_perform_10 : decode cX3_perform 10 = .ok (.aload_n 0, 1) := by decide +kernel
theorem dX3_perform_11 : decode cX3_perform 11 = .ok (.iload_n 3, 1) := by decide +kernel
theorem dX3_perform_12 : decode cX3_perform 12 = .ok (.invokevirtual 140, 3) := by decide +kernel
theorem dX3_perform_15 : decode cX3_perform 15 = .ok (.istore 4, 2) := by decide +kernel
theorem dX3_perform_17 : decode cX3_perform 17 = .ok (.aload_n 0, 1) := by decide +kernel
theorem dX3_perform_18 : decode cX3_perform 18 = .ok (.iload_n 1, 1) := by decide +kernel
theorem dX3_perform_19 : decode cX3_perform 19 = .ok (.invokevirtual 143, 3) := by decide +kernel
theorem dX3_perform_22 : decode cX3_perform 22 = .ok (.istore 5, 2) := by decide +kernel
theorem dX3_perform_24 : decode cX3_perform 24 = .ok (.aload_n 0, 1) := by decide +kernel
theorem dX3_perform_25 : decode cX3_perform 25 = .ok (.iload_n 2, 1) := by decide +kernel
theorem dX3_perform_26 : decode cX3_perform 26 = .ok (.iload 5, 2) := by decide +kernel
theorem dX3_perform_28 : decode cX3_perform 28 = .ok (.invokevirtual 146, 3) := by decide +kernel
theorem dX3_perform_31 : decode cX3_perform 31 = .ok (.istore 6, 2) := by decide +kernel
theorem dX3_perform_33 : decode cX3_perform 33 = .ok (.iload 6, 2) := by decide +kernel
theorem dX3_perform_35 : decode cX3_perform 35 = .ok (.ldc 44, 2) := by decide +kernel
theorem dX3_perform_37 : decode cX3_perform 37 = .ok (.iand, 1) := by decide +kernel
theorem dX3_perform_38 : decode cX3_perform 38 = .ok (.istore 7, 2) := by decide +kernel
theorem dX3_perform_40 : decode cX3_perform 40 = .ok (.aload_n 0, 1) := by decide +kernel
theorem dX3_perform_41 : decode cX3_perform 41 = .ok (.iload_n 1, 1) := by decide +kernel
theorem dX3_perform_42 : decode cX3_perform 42 = .ok (.invokestatic 134, 3) := by decide +kernel
theorem dX3_perform_45 : decode cX3_perform 45 = .ok (.iload 5, 2) := by decide +kernel
theorem dX3_perform_47 : decode cX3_perform 47 = .ok (.iload 4, 2) := by decide +kernel
theorem dX3_perform_49 : decode cX3_perform 49 = .ok (.invokevirtual 150, 3) := by decide +kernel
theorem dX3_perform_52 : decode cX3_perform 52 = .ok (.istore 8, 2) := by decide +kernel
theorem dX3_perform_54 : decode cX3_perform 54 = .ok (.iload_n 1, 1) := by decide +kernel
theorem dX3_perform_55 : decode cX3_perform 55 = .ok (.invokestatic 124, 3) := by decide +kernel
theorem dX3_perform_58 : decode cX3_perform 58 = .ok (.iconst 1, 1) := by decide +kernel
theorem dX3_perform_59 : decode cX3_perform 59 = .ok (.if_icmp .ne 21, 3) := by decide +kernel
theorem dX3_perform_62 : decode cX3_perform 62 = .ok (.iload_n 1, 1) := by decide +kernel
theorem dX3_perform_63 : decode cX3_perform 63 = .ok (.invokestatic 128, 3) := by decide +kernel
theorem dX3_perform_66 : decode cX3_perform 66 = .ok (.ifCond .ne 14, 3) := by decide +kernel
theorem dX3_perform_69 : decode cX3_perform 69 = .ok (.aload_n 0, 1) := by decide +kernel
theorem dX3_perform_70 : decode cX3_perform 70 = .ok (.getfield 9, 3) := by decide +kernel
theorem dX3_perform_73 : decode cX3_perform 73 = .ok (.iload_n 1, 1) := by decide +kernel
theorem dX3_perform_74 : decode cX3_perform 74 = .ok (.invokestatic 154, 3) := by decide +kernel
theorem dX3_perform_77 : decode cX3_perform 77 = .ok (.iload 4, 2) := by decide +kernel
theorem dX3_perform_79 : decode cX3_perform 79 = .ok (.iastore, 1) := by decide +kernel
theorem dX3_perform_80 : decode cX3_perform 80 = .ok (.iload_n 1, 1) := by decide +kernel
theorem dX3_perform_81 : decode cX3_perform 81 = .ok (.invokestatic 157, 3) := by decide +kernel
theorem dX3_perform_84 : decode cX3_perform 84 = .ok (.ifCond .eq 21, 3) := by decide +kernel
theorem dX3_perform_87 : decode cX3_perform 87 = .ok (.aload_n 0, 1) := by decide +kernel
theorem dX3_perform_88 : decode cX3_perform 88 = .ok (.iload_n 2, 1) := by decide +kernel
theorem dX3_perform_89 : decode cX3_perform 89 = .ok (.invokestatic 160, 3) := by decide +kernel
theorem dX3_perform_92 : decode cX3_perform 92 = .ok (.ifCond .eq 8, 3) := by decide +kernel
theorem dX3_perform_95 : decode cX3_perform 95 = .ok (.iload 7, 2) := by decide +kernel
theorem dX3_perform_97 : decode cX3_perform 97 = .ok (.goto 5, 3) := by decide +kernel
theorem dX3_perform_100 : decode cX3_perform 100 = .ok (.iload 5, 2) := by decide +kernel
theorem dX3_perform_102 : decode cX3_perform 102 = .ok (.putfield 69, 3) := by decide +kernel
theorem dX3_perform_105 : decode cX3_perform 105 = .ok (.iload_n 1, 1) := by decide +kernel
theorem dX3_perform_106 : decode cX3_perform 106 = .ok (.invokestatic 163, 3) := by decide +kernel
theorem dX3_perform_109 : decode cX3_perform 109 = .ok (.ifCond .eq 18, 3) := by decide +kernel
theorem dX3_perform_112 : decode cX3_perform 112 = .ok (.aload_n 0, 1) := by decide +kernel
theorem dX3_perform_113 : decode cX3_perform 113 = .ok (.iload 7, 2) := by decide +kernel
theorem dX3_perform_115 : decode cX3_perform 115 = .ok (.putfield 72, 3) := by decide +kernel
theorem dX3_perform_118 : decode cX3_perform 118 = .ok (.aload_n 0, 1) := by decide +kernel
theorem dX3_perform_119 : decode cX3_perform 119 = .ok (.iload 6, 2) := by decide +kernel
theorem dX3_perform_121 : decode cX3_perform 121 = .ok (.bipush 16, 2) := by decide +kernel
theorem dX3_perform_123 : decode cX3_perform 123 = .ok (.ishr, 1) := by decide +kernel
theorem dX3_perform_124 : decode cX3_perform 124 = .ok (.putfield 75, 3) := by decide +kernel
theorem dX3_perform_127 : decode cX3_perform 127 = .ok (.aload_n 0, 1) := by decide +kernel
theorem dX3_perform_128 : decode cX3_perform 128 = .ok (.iload_n 1, 1) := by decide +kernel
theorem dX3_perform_129 : decode cX3_perform 129 = .ok (.iload 5, 2) := by decide +kernel
theorem dX3_perform_131 : decode cX3_perform 131 = .ok (.iload 7, 2) := by decide +kernel
theorem dX3_perform_133 : decode cX3_perform 133 = .ok (.invokevirtual 166, 3) := by decide +kernel
theorem dX3_perform_136 : decode cX3_perform 136 = .ok (.iload_n 3, 1) := by decide +kernel
theorem dX3_perform_137 : decode cX3_perform 137 = .ok (.bipush 8, 2) := by decide +kernel
theorem dX3_perform_139 : decode cX3_perform 139 = .ok (.if_icmp .ne 12, 3) := by decide +kernel
theorem dX3_perform_142 : decode cX3_perform 142 = .ok (.aload_n 0, 1) := by decide +kernel
theorem dX3_perform_143 : decode cX3_perform 143 = .ok (.getfield 36, 3) := by decide +kernel
theorem dX3_perform_146 : decode cX3_perform 146 = .ok (.iload 5, 2) := by decide +kernel
theorem dX3_perform_148 : decode cX3_perform 148 = .ok (.invokevirtual 170, 3) := by decide +kernel
theorem dX3_perform_151 : decode cX3_perform 151 = .ok (.aload_n 0, 1) := by decide +kernel
theorem dX3_perform_152 : decode cX3_perform 152 = .ok (.getfield 29, 3) := by decide +kernel
theorem dX3_perform_155 : decode cX3_perform 155 = .ok (.iload_n 1, 1) := by decide +kernel
theorem dX3_perform_156 : decode cX3_perform 156 = .ok (.invokestatic 173, 3) := by decide +kernel
theorem dX3_perform_159 : decode cX3_perform 159 = .ok (.iload 8, 2) := by decide +kernel
theorem dX3_perform_161 : decode cX3_perform 161 = .ok (.iload_n 3, 1) := by decide +kernel
theorem dX3_perform_162 : decode cX3_perform 162 = .ok (.invokevirtual 176, 3) := by decide +kernel
theorem dX3_perform_165 : decode cX3_perform 165 = .ok (.return_, 1) := by decide +kernel
theorem dX3_useMemory_0 : decode cX3_useMemory 0 = .ok (.iload_n 1, 1) := by decide +kernel
theorem dX3_useMemory_1 : decode cX3_useMemory 1 = .ok (.invokestatic 134, 3) := by decide +kernel
theorem dX3_useMemory_4 : decode cX3_useMemory 4 = .ok (.bipush 6, 2) := by decide +kernel
theorem dX3_useMemory_6 : decode cX3_useMemory 6 = .ok (.if_icmp .ne 11, 3) := by decide +kernel
theorem dX3_useMemory_9 : decode cX3_useMemory 9 = .ok (.aload_n 0, 1) := by decide +kernel
theorem dX3_useMemory_10 : decode cX3_useMemory 10 = .ok (.getfield 22, 3) := by decide +kernel
theorem dX3_useMemory_13 : decode cX3_useMemory 13 = .ok (.iload_n 2, 1) := by decide +kernel
theorem dX3_useMemory_14 : decode cX3_useMemory 14 = .ok (.invokevirtual 179, 3) := by decide +kernel
theorem dX3_useMemory_17 : decode cX3_useMemory 17 = .ok (.iload_n 1, 1) := by decide +kernel
theorem dX3_useMemory_18 : decode cX3_useMemory 18 = .ok (.invokestatic 131, 3) := by decide +kernel
theorem dX3_useMemory_21 : decode cX3_useMemory 21 = .ok (.iconst 1, 1) := by decide +kernel
theorem dX3_useMemory_22 : decode cX3_useMemory 22 = .ok (.if_icmp .ne 11, 3) := by decide +kernel
theorem dX3_useMemory_25 : decode cX3_useMemory 25 = .ok (.aload_n 0, 1) := by decide +kernel
theorem dX3_useMemory_26 : decode cX3_useMemory 26 = .ok (.getfield 22, 3) := by decide +kernel
theorem dX3_useMemory_29 : decode cX3_useMemory 29 = .ok (.iload_n 3, 1) := by decide +kernel
theorem dX3_useMemory_30 : decode cX3_useMemory 30 = .ok (.invokevirtual 182, 3) := by decide +kernel
theorem dX3_useMemory_33 : decode cX3_useMemory 33 = .ok (.return_, 1) := by decide +kernel
theorem dX3_shiftedL_0 : decode cX3_shiftedL 0 = .ok (.iload_n 1, 1) := by decide +kernel
theorem dX3_shiftedL_1 : decode cX3_shiftedL 1 = .ok (.tableswitch 63 4 6 #[27, 37, 44], 27) := by decide +kernel
theorem dX3_shiftedL_28 : decode cX3_shiftedL 28 = .ok (.aload_n 0, 1) := by decide +kernel
theorem dX3_shiftedL_29 : decode cX3_shiftedL 29 = .ok (.getfield 72, 3) := by decide +kernel
theorem dX3_shiftedL_32 : decode cX3_shiftedL 32 = .ok (.iconst 1, 1) := by decide +kernel
theorem dX3_shiftedL_33 : decode cX3_shiftedL 33 = .ok (.ishl, 1) := by decide +kernel
theorem dX3_shiftedL_34 : decode cX3_shiftedL 34 = .ok (.ldc 44, 2) := by decide +kernel
theorem dX3_shiftedL_36 : decode cX3_shiftedL 36 = .ok (.iand, 1) := by decide +kernel
theorem dX3_shiftedL_37 : decode cX3_shiftedL 37 = .ok (.ireturn, 1) := by decide +kernel
theorem dX3_shiftedL_38 : decode cX3_shiftedL 38 = .ok (.aload_n 0, 1) := by decide +kernel
theorem dX3_shiftedL_39 : decode cX3_shiftedL 39 = .ok (.getfield 72, 3) := by decide +kernel
theorem dX3_shiftedL_42 : decode cX3_shiftedL 42 = .ok (.iconst 1, 1) := by decide +kernel
theorem dX3_shiftedL_43 : decode cX3_shiftedL 43 = .ok (.ishr, 1) := by decide +kernel
theorem dX3_shiftedL_44 : decode cX3_shiftedL 44 = .ok (.ireturn, 1) := by decide +kernel
theorem dX3_shiftedL_45 : decode cX3_shiftedL 45 = .ok (.aload_n 0, 1) := by decide +kernel
theorem dX3_shiftedL_46 : decode cX3_shiftedL 46 = .ok (.getfield 72, 3) := by decide +kernel
theorem dX3_shiftedL_49 : decode cX3_shiftedL 49 = .ok (.bipush 8, 2) := by decide +kernel
theorem dX3_shiftedL_51 : decode cX3_shiftedL 51 = .ok (.ishl, 1) := by decide +kernel
theorem dX3_shiftedL_52 : decode cX3_shiftedL 52 = .ok (.aload_n 0, 1) := by decide +kernel
theorem dX3_shiftedL_53 : decode cX3_shiftedL 53 = .ok (.getfield 72, 3) := by decide +kernel
theorem dX3_shiftedL_56 : decode cX3_shiftedL 56 = .ok (.bipush 8, 2) := by decide +kernel
theorem dX3_shiftedL_58 : decode cX3_shiftedL 58 = .ok (.ishr, 1) := by decide +kernel
theorem dX3_shiftedL_59 : decode cX3_shiftedL 59 = .ok (.ior, 1) := by decide +kernel
theorem dX3_shiftedL_60 : decode cX3_shiftedL 60 = .ok (.ldc 44, 2) := by decide +kernel
theorem dX3_shiftedL_62 : decode cX3_shiftedL 62 = .ok (.iand, 1) := by decide +kernel
theorem dX3_shiftedL_63 : decode cX3_shiftedL 63 = .ok (.ireturn, 1) := by decide +kernel
theorem dX3_shiftedL_64 : decode cX3_shiftedL 64 = .ok (.aload_n 0, 1) := by decide +kernel
theorem dX3_shiftedL_65 : decode cX3_shiftedL 65 = .ok (.getfield 72, 3) := by decide +kernel
theorem dX3_shiftedL_68 : decode cX3_shiftedL 68 = .ok (.ireturn, 1) := by decide +kernel
theorem dX3_busOf_0 : decode cX3_busOf 0 = .ok (.iload_n 1, 1) := by decide +kernel
theorem dX3_busOf_1 : decode cX3_busOf 1 = .ok (.invokestatic 154, 3) := by decide +kernel
theorem dX3_busOf_4 : decode cX3_busOf 4 = .ok (.istore_n 2, 1) := by decide +kernel
theorem dX3_busOf_5 : decode cX3_busOf 5 = .ok (.iload_n 1, 1) := by decide +kernel
theorem dX3_busOf_6 : decode cX3_busOf 6 = .ok (.invokestatic 124, 3) := by decide +kernel
theorem dX3_busOf_9 : decode cX3_busOf 9 = .ok (.istore_n 3, 1) := by decide +kernel
theorem dX3_busOf_10 : decode cX3_busOf 10 = .ok (.iload_n 1, 1) := by decide +kernel
theorem dX3_busOf_11 : decode cX3_busOf 11 = .ok (.invokestatic 128, 3) := by decide +kernel
theorem dX3_busOf_14 : decode cX3_busOf 14 = .ok (.ifCond .eq 15, 3) := by decide +kernel
theorem dX3_busOf_17 : decode cX3_busOf 17 = .ok (.aload_n 0, 1) := by decide +kernel
theorem dX3_busOf_18 : decode cX3_busOf 18 = .ok (.getfield 13, 3) := by decide +kernel
theorem dX3_busOf_21 : decode cX3_busOf 21 = .ok (.bipush 8, 2) := by decide +kernel
theorem dX3_busOf_23 : decode cX3_busOf 23 = .ok (.iload_n 2, 1) := by decide +kernel
theorem dX3_busOf_24 : decode cX3_busOf 24 = .ok (.imul, 1) := by decide +kernel
theorem dX3_busOf_25 : decode cX3_busOf 25 = .ok (.iload_n 3, 1) := by decide +kernel
theorem dX3_busOf_26 : decode cX3_busOf 26 = .ok (.iadd, 1) := by decide +kernel
theorem dX3_busOf_27 : decode cX3_busOf 27 = .ok (.iaload, 1) := by decide +kernel
theorem dX3_busOf_28 : decode cX3_busOf 28 = .ok (.ireturn, 1) := by decide +kernel
theorem dX3_busOf_29 : decode cX3_busOf 29 = .ok (.iload_n 3, 1) := by decide +kernel
theorem dX3_busOf_30 : decode cX3_busOf 30 = .ok (.tableswitch 80 0 6 #[42, 49, 51, 54, 59, 67, 75], 42) := by decide +kernel
theorem dX3_busOf_72 : decode cX3_busOf 72 = .ok (.aload_n 0, 1) := by decide +kernel
theorem dX3_busOf_73 : decode cX3_busOf 73 = .ok (.getfield 9, 3) := by decide +kernel
theorem dX3_busOf_76 : decode cX3_busOf 76 = .ok (.iload_n 2, 1) := by decide +kernel
theorem dX3_busOf_77 : decode cX3_busOf 77 = .ok (.iaload, 1) := by decide +kernel
theorem dX3_busOf_78 : decode cX3_busOf 78 = .ok (.ireturn, 1) := by decide +kernel
theorem dX3_busOf_79 : decode cX3_busOf 79 = .ok (.iconst 0, 1) := by decide +kernel
theorem dX3_busOf_80 : decode cX3_busOf 80 = .ok (.ireturn, 1) := by decide +kernel
theorem dX3_busOf_81 : decode cX3_busOf 81 = .ok (.ldc 44, 2) := by decide +kernel
theorem dX3_busOf_83 : decode cX3_busOf 83 = .ok (.ireturn, 1) := by decide +kernel
theorem dX3_busOf_84 : decode cX3_busOf 84 = .ok (.aload_n 0, 1) := by decide +kernel
theorem dX3_busOf_85 : decode cX3_busOf 85 = .ok (.getfield 48, 3) := by decide +kernel
theorem dX3_busOf_88 : decode cX3_busOf 88 = .ok (.ireturn, 1) := by decide +kernel
theorem dX3_busOf_89 : decode cX3_busOf 89 = .ok (.aload_n 0, 1) := by decide +kernel
theorem dX3_busOf_90 : decode cX3_busOf 90 = .ok (.getfield 29, 3) := by decide +kernel
theorem dX3_busOf_93 : decode cX3_busOf 93 = .ok (.getfield 92, 3) := by decide +kernel
theorem dX3_busOf_96 : decode cX3_busOf 96 = .ok (.ireturn, 1) := by decide +kernel
theorem dX3_busOf_97 : decode cX3_busOf 97 = .ok (.aload_n 0, 1) := by decide +kernel
theorem dX3_busOf_98 : decode cX3_busOf 98 = .ok (.getfield 22, 3) := by decide +kernel
theorem dX3_busOf_101 : decode cX3_busOf 101 = .ok (.invokevirtual 185, 3) := by decide +kernel
theorem dX3_busOf_104 : decode cX3_busOf 104 = .ok (.ireturn, 1) := by decide +kernel
theorem dX3_busOf_105 : decode cX3_busOf 105 = .ok (.aload_n 0, 1) := by decide +kernel
theorem dX3_busOf_106 : decode cX3_busOf 106 = .ok (.getfield 72, 3) := by decide +kernel
theorem dX3_busOf_109 : decode cX3_busOf 109 = .ok (.ireturn, 1) := by decide +kernel
theorem dX3_busOf_110 : decode cX3_busOf 110 = .ok (.aload_n 0, 1) := by decide +kernel
theorem dX3_busOf_111 : decode cX3_busOf 111 = .ok (.getfield 22, 3) := by decide +kernel
theorem dX3_busOf_114 : decode cX3_busOf 114 = .ok (.getfield 78, 3) := by decide +kernel
theorem dX3_busOf_117 : decode cX3_busOf 117 = .ok (.ireturn, 1) := by decide +kernel
theorem dX3_sumOf_0 : decode cX3_sumOf 0 = .ok (.aload_n 0, 1) := by decide +kernel
theorem dX3_sumOf_1 : decode cX3_sumOf 1 = .ok (.getfield 69, 3) := by decide +kernel
theorem dX3_sumOf_4 : decode cX3_sumOf 4 = .ok (.iconst (-1), 1) := by decide +kernel
theorem dX3_sumOf_5 : decode cX3_sumOf 5 = .ok (.ixor, 1) := by decide +kernel
theorem dX3_sumOf_6 : decode cX3_sumOf 6 = .ok (.ldc 44, 2) := by decide +kernel
theorem dX3_sumOf_8 : decode cX3_sumOf 8 = .ok (.iand, 1) := by decide +kernel
theorem dX3_sumOf_9 : decode cX3_sumOf 9 = .ok (.istore_n 3, 1) := by decide +kernel
theorem dX3_sumOf_10 : decode cX3_sumOf 10 = .ok (.iload_n 1, 1) := by decide +kernel
theorem dX3_sumOf_11 : decode cX3_sumOf 11 = .ok (.tableswitch 143 0 13 #[69, 71, 76, 83, 90, 97, 101, 106, 113, 119, 123, 132, 83, 139], 69) := by decide +kernel
theorem dX3_sumOf_80 : decode cX3_sumOf 80 = .ok (.iload_n 2, 1) := by decide +kernel
theorem dX3_sumOf_81 : decode cX3_sumOf 81 = .ok (.ireturn, 1) := by decide +kernel
theorem dX3_sumOf_82 : decode cX3_sumOf 82 = .ok (.aload_n 0, 1) := by decide +kernel
theorem dX3_sumOf_83 : decode cX3_sumOf 83 = .ok (.getfield 69, 3) := by decide +kernel
theorem dX3_sumOf_86 : decode cX3_sumOf 86 = .ok (.ireturn, 1) := by decide +kernel
theorem dX3_sumOf_87 : decode cX3_sumOf 87 = .ok (.iload_n 2, 1) := by decide +kernel
theorem dX3_sumOf_88 : decode cX3_sumOf 88 = .ok (.aload_n 0, 1) := by decide +kernel
theorem dX3_sumOf_89 : decode cX3_sumOf 89 = .ok (.getfield 69, 3) := by decide +kernel
theorem dX3_sumOf_92 : decode cX3_sumOf 92 = .ok (.ior, 1) := by decide +kernel
theorem dX3_sumOf_93 : decode cX3_sumOf 93 = .ok (.ireturn, 1) := by decide +kernel
theorem dX3_sumOf_94 : decode cX3_sumOf 94 = .ok (.iload_n 2, 1) := by decide +kernel
theorem dX3_sumOf_95 : decode cX3_sumOf 95 = .ok (.aload_n 0, 1) := by decide +kernel
theorem dX3_sumOf_96 : decode cX3_sumOf 96 = .ok (.getfield 69, 3) := by decide +kernel
theorem dX3_sumOf_99 : decode cX3_sumOf 99 = .ok (.iand, 1) := by decide +kernel
theorem dX3_sumOf_100 : decode cX3_sumOf 100 = .ok (.ireturn, 1) := by decide +kernel
theorem dX3_sumOf_101 : decode cX3_sumOf 101 = .ok (.iload_n 2, 1) := by decide +kernel
theorem dX3_sumOf_102 : decode cX3_sumOf 102 = .ok (.aload_n 0, 1) := by decide +kernel
theorem dX3_sumOf_103 : decode cX3_sumOf 103 = .ok (.getfield 69, 3) := by decide +kernel
theorem dX3_sumOf_106 : decode cX3_sumOf 106 = .ok (.ixor, 1) := by decide +kernel
theorem dX3_sumOf_107 : decode cX3_sumOf 107 = .ok (.ireturn, 1) := by decide +kernel
theorem dX3_sumOf_108 : decode cX3_sumOf 108 = .ok (.iload_n 2, 1) := by decide +kernel
theorem dX3_sumOf_109 : decode cX3_sumOf 109 = .ok (.iconst 1, 1) := by decide +kernel
theorem dX3_sumOf_110 : decode cX3_sumOf 110 = .ok (.iadd, 1) := by decide +kernel
theorem dX3_sumOf_111 : decode cX3_sumOf 111 = .ok (.ireturn, 1) := by decide +kernel
theorem dX3_sumOf_112 : decode cX3_sumOf 112 = .ok (.iload_n 2, 1) := by decide +kernel
theorem dX3_sumOf_113 : decode cX3_sumOf 113 = .ok (.ldc 44, 2) := by decide +kernel
theorem dX3_sumOf_115 : decode cX3_sumOf 115 = .ok (.iadd, 1) := by decide +kernel
theorem dX3_sumOf_116 : decode cX3_sumOf 116 = .ok (.ireturn, 1) := by decide +kernel
theorem dX3_sumOf_117 : decode cX3_sumOf 117 = .ok (.iload_n 2, 1) := by decide +kernel
theorem dX3_sumOf_118 : decode cX3_sumOf 118 = .ok (.aload_n 0, 1) := by decide +kernel
theorem dX3_sumOf_119 : decode cX3_sumOf 119 = .ok (.getfield 69, 3) := by decide +kernel
theorem dX3_sumOf_122 : decode cX3_sumOf 122 = .ok (.iadd, 1) := by decide +kernel
theorem dX3_sumOf_123 : decode cX3_sumOf 123 = .ok (.ireturn, 1) := by decide +kernel
theorem dX3_sumOf_124 : decode cX3_sumOf 124 = .ok (.iload_n 2, 1) := by decide +kernel
theorem dX3_sumOf_125 : decode cX3_sumOf 125 = .ok (.iload_n 3, 1) := by decide +kernel
theorem dX3_sumOf_126 : decode cX3_sumOf 126 = .ok (.iadd, 1) := by decide +kernel
theorem dX3_sumOf_127 : decode cX3_sumOf 127 = .ok (.iconst 1, 1) := by decide +kernel
theorem dX3_sumOf_128 : decode cX3_sumOf 128 = .ok (.iadd, 1) := by decide +kernel
theorem dX3_sumOf_129 : decode cX3_sumOf 129 = .ok (.ireturn, 1) := by decide +kernel
theorem dX3_sumOf_130 : decode cX3_sumOf 130 = .ok (.iload_n 2, 1) := by decide +kernel
theorem dX3_sumOf_131 : decode cX3_sumOf 131 = .ok (.iload_n 3, 1) := by decide +kernel
theorem dX3_sumOf_132 : decode cX3_sumOf 132 = .ok (.iadd, 1) := by decide +kernel
theorem dX3_sumOf_133 : decode cX3_sumOf 133 = .ok (.ireturn, 1) := by decide +kernel
theorem dX3_sumOf_134 : decode cX3_sumOf 134 = .ok (.iload_n 2, 1) := by decide +kernel
theorem dX3_sumOf_135 : decode cX3_sumOf 135 = .ok (.aload_n 0, 1) := by decide +kernel
theorem dX3_sumOf_136 : decode cX3_sumOf 136 = .ok (.getfield 69, 3) := by decide +kernel
theorem dX3_sumOf_139 : decode cX3_sumOf 139 = .ok (.iadd, 1) := by decide +kernel
theorem dX3_sumOf_140 : decode cX3_sumOf 140 = .ok (.iconst 1, 1) := by decide +kernel
theorem dX3_sumOf_141 : decode cX3_sumOf 141 = .ok (.iadd, 1) := by decide +kernel
theorem dX3_sumOf_142 : decode cX3_sumOf 142 = .ok (.ireturn, 1) := by decide +kernel
theorem dX3_sumOf_143 : decode cX3_sumOf 143 = .ok (.iload_n 2, 1) := by decide +kernel
theorem dX3_sumOf_144 : decode cX3_sumOf 144 = .ok (.aload_n 0, 1) := by decide +kernel
theorem dX3_sumOf_145 : decode cX3_sumOf 145 = .ok (.getfield 75, 3) := by decide +kernel
theorem dX3_sumOf_148 : decode cX3_sumOf 148 = .ok (.iadd, 1) := by decide +kernel
theorem dX3_sumOf_149 : decode cX3_sumOf 149 = .ok (.ireturn, 1) := by decide +kernel
theorem dX3_sumOf_150 : decode cX3_sumOf 150 = .ok (.iload_n 2, 1) := by decide +kernel
theorem dX3_sumOf_151 : decode cX3_sumOf 151 = .ok (.iload_n 3, 1) := by decide +kernel
theorem dX3_sumOf_152 : decode cX3_sumOf 152 = .ok (.iand, 1) := by decide +kernel
theorem dX3_sumOf_153 : decode cX3_sumOf 153 = .ok (.ireturn, 1) := by decide +kernel
theorem dX3_sumOf_154 : decode cX3_sumOf 154 = .ok (.iconst 0, 1) := by decide +kernel
theorem dX3_sumOf_155 : decode cX3_sumOf 155 = .ok (.ireturn, 1) := by decide +kernel
theorem dX3_givesAluToT_0 : decode cX3_givesAluToT 0 = .ok (.iload_n 0, 1) := by decide +kernel
theorem dX3_givesAluToT_1 : decode cX3_givesAluToT 1 = .ok (.tableswitch 69 0 12 #[67, 69, 67, 69, 69, 67, 67, 69, 69, 69, 67, 67, 67], 67) := by decide +kernel
theorem dX3_givesAluToT_68 : decode cX3_givesAluToT 68 = .ok (.iconst 1, 1) := by decide +kernel
theorem dX3_givesAluToT_69 : decode cX3_givesAluToT 69 = .ok (.ireturn, 1) := by decide +kernel
theorem dX3_givesAluToT_70 : decode cX3_givesAluToT 70 = .ok (.iconst 0, 1) := by decide +kernel
theorem dX3_givesAluToT_71 : decode cX3_givesAluToT 71 = .ok (.ireturn, 1) := by decide +kernel
theorem dX3_changeOf_0 : decode cX3_changeOf 0 = .ok (.iload_n 1, 1) := by decide +kernel
theorem dX3_changeOf_1 : decode cX3_changeOf 1 = .ok (.tableswitch 90 1 8 #[47, 57, 62, 72, 78, 90, 90, 83], 47) := by decide +kernel
theorem dX3_changeOf_48 : decode cX3_changeOf 48 = .ok (.iload_n 2, 1) := by decide +kernel
theorem dX3_changeOf_49 : decode cX3_changeOf 49 = .ok (.ifCond .ne 7, 3) := by decide +kernel
theorem dX3_changeOf_52 : decode cX3_changeOf 52 = .ok (.iconst 1, 1) := by decide +kernel
theorem dX3_changeOf_53 : decode cX3_changeOf 53 = .ok (.goto 4, 3) := by decide +kernel
theorem dX3_changeOf_56 : decode cX3_changeOf 56 = .ok (.iconst 0, 1) := by decide +kernel
theorem dX3_changeOf_57 : decode cX3_changeOf 57 = .ok (.ireturn, 1) := by decide +kernel
theorem dX3_changeOf_58 : decode cX3_changeOf 58 = .ok (.iload_n 3, 1) := by decide +kernel
theorem dX3_changeOf_59 : decode cX3_changeOf 59 = .ok (.bipush 15, 2) := by decide +kernel
theorem dX3_changeOf_61 : decode cX3_changeOf 61 = .ok (.ishr, 1) := by decide +kernel
theorem dX3_changeOf_62 : decode cX3_changeOf 62 = .ok (.ireturn, 1) := by decide +kernel
theorem dX3_changeOf_63 : decode cX3_changeOf 63 = .ok (.iload_n 3, 1) := by decide +kernel
theorem dX3_changeOf_64 : decode cX3_changeOf 64 = .ok (.ifCond .ne 7, 3) := by decide +kernel
theorem dX3_changeOf_67 : decode cX3_changeOf 67 = .ok (.iconst 1, 1) := by decide +kernel
theorem dX3_changeOf_68 : decode cX3_changeOf 68 = .ok (.goto 4, 3) := by decide +kernel
theorem dX3_changeOf_71 : decode cX3_changeOf 71 = .ok (.iconst 0, 1) := by decide +kernel
theorem dX3_changeOf_72 : decode cX3_changeOf 72 = .ok (.ireturn, 1) := by decide +kernel
theorem dX3_changeOf_73 : decode cX3_changeOf 73 = .ok (.iload_n 2, 1) := by decide +kernel
theorem dX3_changeOf_74 : decode cX3_changeOf 74 = .ok (.sipush 1023, 3) := by decide +kernel
theorem dX3_changeOf_77 : decode cX3_changeOf 77 = .ok (.iand, 1) := by decide +kernel
theorem dX3_changeOf_78 : decode cX3_changeOf 78 = .ok (.ireturn, 1) := by decide +kernel
theorem dX3_changeOf_79 : decode cX3_changeOf 79 = .ok (.aload_n 0, 1) := by decide +kernel
theorem dX3_changeOf_80 : decode cX3_changeOf 80 = .ok (.getfield 75, 3) := by decide +kernel
theorem dX3_changeOf_83 : decode cX3_changeOf 83 = .ok (.ireturn, 1) := by decide +kernel
theorem dX3_changeOf_84 : decode cX3_changeOf 84 = .ok (.aload_n 0, 1) := by decide +kernel
theorem dX3_changeOf_85 : decode cX3_changeOf 85 = .ok (.getfield 48, 3) := by decide +kernel
theorem dX3_changeOf_88 : decode cX3_changeOf 88 = .ok (.iconst 1, 1) := by decide +kernel
theorem dX3_changeOf_89 : decode cX3_changeOf 89 = .ok (.iand, 1) := by decide +kernel
theorem dX3_changeOf_90 : decode cX3_changeOf 90 = .ok (.ireturn, 1) := by decide +kernel
theorem dX3_changeOf_91 : decode cX3_changeOf 91 = .ok (.iconst 0, 1) := by decide +kernel
theorem dX3_changeOf_92 : decode cX3_changeOf 92 = .ok (.ireturn, 1) := by decide +kernel
theorem dX3_rselOf_0 : decode cX3_rselOf 0 = .ok (.iload_n 0, 1) := by decide +kernel
theorem dX3_rselOf_1 : decode cX3_rselOf 1 = .ok (.bipush 27, 2) := by decide +kernel
theorem dX3_rselOf_3 : decode cX3_rselOf 3 = .ok (.iushr, 1) := by decide +kernel
theorem dX3_rselOf_4 : decode cX3_rselOf 4 = .ok (.ireturn, 1) := by decide +kernel
theorem dX3_alufOf_0 : decode cX3_alufOf 0 = .ok (.iload_n 0, 1) := by decide +kernel
theorem dX3_alufOf_1 : decode cX3_alufOf 1 = .ok (.bipush 23, 2) := by decide +kernel
theorem dX3_alufOf_3 : decode cX3_alufOf 3 = .ok (.ishr, 1) := by decide +kernel
theorem dX3_alufOf_4 : decode cX3_alufOf 4 = .ok (.bipush 15, 2) := by decide +kernel
theorem dX3_alufOf_6 : decode cX3_alufOf 6 = .ok (.iand, 1) := by decide +kernel
theorem dX3_alufOf_7 : decode cX3_alufOf 7 = .ok (.ireturn, 1) := by decide +kernel
theorem dX3_bsOf_0 : decode cX3_bsOf 0 = .ok (.iload_n 0, 1) := by decide +kernel
theorem dX3_bsOf_1 : decode cX3_bsOf 1 = .ok (.bipush 20, 2) := by decide +kernel
theorem dX3_bsOf_3 : decode cX3_bsOf 3 = .ok (.ishr, 1) := by decide +kernel
theorem dX3_bsOf_4 : decode cX3_bsOf 4 = .ok (.bipush 7, 2) := by decide +kernel
theorem dX3_bsOf_6 : decode cX3_bsOf 6 = .ok (.iand, 1) := by decide +kernel
theorem dX3_bsOf_7 : decode cX3_bsOf 7 = .ok (.ireturn, 1) := by decide +kernel
theorem dX3_f1Of_0 : decode cX3_f1Of 0 = .ok (.iload_n 0, 1) := by decide +kernel
theorem dX3_f1Of_1 : decode cX3_f1Of 1 = .ok (.bipush 16, 2) := by decide +kernel
theorem dX3_f1Of_3 : decode cX3_f1Of 3 = .ok (.ishr, 1) := by decide +kernel
theorem dX3_f1Of_4 : decode cX3_f1Of 4 = .ok (.bipush 15, 2) := by decide +kernel
theorem dX3_f1Of_6 : decode cX3_f1Of 6 = .ok (.iand, 1) := by decide +kernel
theorem dX3_f1Of_7 : decode cX3_f1Of 7 = .ok (.ireturn, 1) := by decide +kernel
theorem dX3_f2Of_0 : decode cX3_f2Of 0 = .ok (.iload_n 0, 1) := by decide +kernel
theorem dX3_f2Of_1 : decode cX3_f2Of 1 = .ok (.bipush 12, 2) := by decide +kernel
theorem dX3_f2Of_3 : decode cX3_f2Of 3 = .ok (.ishr, 1) := by decide +kernel
theorem dX3_f2Of_4 : decode cX3_f2Of 4 = .ok (.bipush 15, 2) := by decide +kernel
theorem dX3_f2Of_6 : decode cX3_f2Of 6 = .ok (.iand, 1) := by decide +kernel
theorem dX3_f2Of_7 : decode cX3_f2Of 7 = .ok (.ireturn, 1) := by decide +kernel
theorem dX3_loadsT_0 : decode cX3_loadsT 0 = .ok (.iload_n 0, 1) := by decide +kernel
theorem dX3_loadsT_1 : decode cX3_loadsT 1 = .ok (.bipush 11, 2) := by decide +kernel
theorem dX3_loadsT_3 : decode cX3_loadsT 3 = .ok (.ishr, 1) := by decide +kernel
theorem dX3_loadsT_4 : decode cX3_loadsT 4 = .ok (.iconst 1, 1) := by decide +kernel
theorem dX3_loadsT_5 : decode cX3_loadsT 5 = .ok (.iand, 1) := by decide +kernel
theorem dX3_loadsT_6 : decode cX3_loadsT 6 = .ok (.iconst 1, 1) := by decide +kernel
theorem dX3_loadsT_7 : decode cX3_loadsT 7 = .ok (.if_icmp .ne 7, 3) := by decide +kernel
theorem dX3_loadsT_10 : decode cX3_loadsT 10 = .ok (.iconst 1, 1) := by decide +kernel
theorem dX3_loadsT_11 : decode cX3_loadsT 11 = .ok (.goto 4, 3) := by decide +kernel
theorem dX3_loadsT_14 : decode cX3_loadsT 14 = .ok (.iconst 0, 1) := by decide +kernel
theorem dX3_loadsT_15 : decode cX3_loadsT 15 = .ok (.ireturn, 1) := by decide +kernel
theorem dX3_loadsL_0 : decode cX3_loadsL 0 = .ok (.iload_n 0, 1) := by decide +kernel
theorem dX3_loadsL_1 : decode cX3_loadsL 1 = .ok (.bipush 10, 2) := by decide +kernel
theorem dX3_loadsL_3 : decode cX3_loadsL 3 = .ok (.ishr, 1) := by decide +kernel
theorem dX3_loadsL_4 : decode cX3_loadsL 4 = .ok (.iconst 1, 1) := by decide +kernel
theorem dX3_loadsL_5 : decode cX3_loadsL 5 = .ok (.iand, 1) := by decide +kernel
theorem dX3_loadsL_6 : decode cX3_loadsL 6 = .ok (.iconst 1, 1) := by decide +kernel
theorem dX3_loadsL_7 : decode cX3_loadsL 7 = .ok (.if_icmp .ne 7, 3) := by decide +kernel
theorem dX3_loadsL_10 : decode cX3_loadsL 10 = .ok (.iconst 1, 1) := by decide +kernel
theorem dX3_loadsL_11 : decode cX3_loadsL 11 = .ok (.goto 4, 3) := by decide +kernel
theorem dX3_loadsL_14 : decode cX3_loadsL 14 = .ok (.iconst 0, 1) := by decide +kernel
theorem dX3_loadsL_15 : decode cX3_loadsL 15 = .ok (.ireturn, 1) := by decide +kernel
theorem dX3_nextOf_0 : decode cX3_nextOf 0 = .ok (.iload_n 0, 1) := by decide +kernel
theorem dX3_nextOf_1 : decode cX3_nextOf 1 = .ok (.sipush 1023, 3) := by decide +kernel
theorem dX3_nextOf_4 : decode cX3_nextOf 4 = .ok (.iand, 1) := by decide +kernel
theorem dX3_nextOf_5 : decode cX3_nextOf 5 = .ok (.ireturn, 1) := by decide +kernel
theorem dX3_hasConstant_0 : decode cX3_hasConstant 0 = .ok (.iload_n 0, 1) := by decide +kernel
theorem dX3_hasConstant_1 : decode cX3_hasConstant 1 = .ok (.invokestatic 131, 3) := by decide +kernel
theorem dX3_hasConstant_4 : decode cX3_hasConstant 4 = .ok (.bipush 7, 2) := by decide +kernel
theorem dX3_hasConstant_6 : decode cX3_hasConstant 6 = .ok (.if_icmp .eq 12, 3) := by decide +kernel
theorem dX3_hasConstant_9 : decode cX3_hasConstant 9 = .ok (.iload_n 0, 1) := by decide +kernel
theorem dX3_hasConstant_10 : decode cX3_hasConstant 10 = .ok (.invokestatic 134, 3) := by decide +kernel
theorem dX3_hasConstant_13 : decode cX3_hasConstant 13 = .ok (.bipush 7, 2) := by decide +kernel
theorem dX3_hasConstant_15 : decode cX3_hasConstant 15 = .ok (.if_icmp .ne 7, 3) := by decide +kernel
theorem dX3_hasConstant_18 : decode cX3_hasConstant 18 = .ok (.iconst 1, 1) := by decide +kernel
theorem dX3_hasConstant_19 : decode cX3_hasConstant 19 = .ok (.goto 4, 3) := by decide +kernel
theorem dX3_hasConstant_22 : decode cX3_hasConstant 22 = .ok (.iconst 0, 1) := by decide +kernel
theorem dX3_hasConstant_23 : decode cX3_hasConstant 23 = .ok (.ireturn, 1) := by decide +kernel
end
