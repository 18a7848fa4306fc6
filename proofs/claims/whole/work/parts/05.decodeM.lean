section
theorem dX4_init_0 : decode cX4_init 0 = .ok (.aload_n 0, 1) := by decide +kernel
theorem dX4_init_1 : decode cX4_init 1 = .ok (.invokespecial 1, 3) := by decide +kernel
theorem dX4_init_4 : decode cX4_init 4 = .ok (.aload_n 0, 1) := by decide +kernel
theorem dX4_init_5 : decode cX4_init 5 = .ok (.sipush 1024, 3) := by decide +kernel
theorem dX4_init_8 : decode cX4_init 8 = .ok (.newarray .int, 2) := by decide +kernel
theorem dX4_init_10 : decode cX4_init 10 = .ok (.putfield 7, 3) := by decide +kernel
theorem dX4_init_13 : decode cX4_init 13 = .ok (.aload_n 0, 1) := by decide +kernel
theorem dX4_init_14 : decode cX4_init 14 = .ok (.sipush 256, 3) := by decide +kernel
theorem dX4_init_17 : decode cX4_init 17 = .ok (.newarray .int, 2) := by decide +kernel
theorem dX4_init_19 : decode cX4_init 19 = .ok (.putfield 13, 3) := by decide +kernel
theorem dX4_init_22 : decode cX4_init 22 = .ok (.aload_n 0, 1) := by decide +kernel
theorem dX4_init_23 : decode cX4_init 23 = .ok (.sipush 1024, 3) := by decide +kernel
theorem dX4_init_26 : decode cX4_init 26 = .ok (.newarray .int, 2) := by decide +kernel
theorem dX4_init_28 : decode cX4_init 28 = .ok (.putfield 16, 3) := by decide +kernel
theorem dX4_init_31 : decode cX4_init 31 = .ok (.aload_n 0, 1) := by decide +kernel
theorem dX4_init_32 : decode cX4_init 32 = .ok (.bipush 32, 2) := by decide +kernel
theorem dX4_init_34 : decode cX4_init 34 = .ok (.newarray .int, 2) := by decide +kernel
theorem dX4_init_36 : decode cX4_init 36 = .ok (.putfield 19, 3) := by decide +kernel
theorem dX4_init_39 : decode cX4_init 39 = .ok (.aload_n 0, 1) := by decide +kernel
theorem dX4_init_40 : decode cX4_init 40 = .ok (.bipush 16, 2) := by decide +kernel
theorem dX4_init_42 : decode cX4_init 42 = .ok (.newarray .int, 2) := by decide +kernel
theorem dX4_init_44 : decode cX4_init 44 = .ok (.putfield 22, 3) := by decide +kernel
theorem dX4_init_47 : decode cX4_init 47 = .ok (.aload_n 0, 1) := by decide +kernel
theorem dX4_init_48 : decode cX4_init 48 = .ok (.bipush 16, 2) := by decide +kernel
theorem dX4_init_50 : decode cX4_init 50 = .ok (.newarray .int, 2) := by decide +kernel
theorem dX4_init_52 : decode cX4_init 52 = .ok (.putfield 25, 3) := by decide +kernel
theorem dX4_init_55 : decode cX4_init 55 = .ok (.aload_n 0, 1) := by decide +kernel
theorem dX4_init_56 : decode cX4_init 56 = .ok (.bipush 16, 2) := by decide +kernel
theorem dX4_init_58 : decode cX4_init 58 = .ok (.newarray .boolean, 2) := by decide +kernel
theorem dX4_init_60 : decode cX4_init 60 = .ok (.putfield 28, 3) := by decide +kernel
theorem dX4_init_63 : decode cX4_init 63 = .ok (.aload_n 0, 1) := by decide +kernel
theorem dX4_init_64 : decode cX4_init 64 = .ok (.bipush 16, 2) := by decide +kernel
theorem dX4_init_66 : decode cX4_init 66 = .ok (.newarray .int, 2) := by decide +kernel
theorem dX4_init_68 : decode cX4_init 68 = .ok (.putfield 32, 3) := by decide +kernel
theorem dX4_init_71 : decode cX4_init 71 = .ok (.aload_n 0, 1) := by decide +kernel
theorem dX4_init_72 : decode cX4_init 72 = .ok (.bipush (-100), 2) := by decide +kernel
theorem dX4_init_74 : decode cX4_init 74 = .ok (.putfield 35, 3) := by decide +kernel
theorem dX4_init_77 : decode cX4_init 77 = .ok (.aload_n 0, 1) := by decide +kernel
theorem dX4_init_78 : decode cX4_init 78 = .ok (.sipush 500, 3) := by decide +kernel
theorem dX4_init_81 : decode cX4_init 81 = .ok (.newarray .int, 2) := by decide +kernel
theorem dX4_init_83 : decode cX4_init 83 = .ok (.putfield 39, 3) := by decide +kernel
theorem dX4_init_86 : decode cX4_init 86 = .ok (.aload_n 0, 1) := by decide +kernel
theorem dX4_init_87 : decode cX4_init 87 = .ok (.getfield 28, 3) := by decide +kernel
theorem dX4_init_90 : decode cX4_init 90 = .ok (.iconst 0, 1) := by decide +kernel
theorem dX4_init_91 : decode cX4_init 91 = .ok (.iconst 1, 1) := by decide +kernel
theorem dX4_init_92 : decode cX4_init 92 = .ok (.bastore, 1) := by decide +kernel
theorem dX4_init_93 : decode cX4_init 93 = .ok (.return_, 1) := by decide +kernel
theorem dX4_within_0 : decode cX4_within 0 = .ok (.iload_n 0, 1) := by decide +kernel
theorem dX4_within_1 : decode cX4_within 1 = .ok (.ifCond .lt 12, 3) := by decide +kernel
theorem dX4_within_4 : decode cX4_within 4 = .ok (.iload_n 0, 1) := by decide +kernel
theorem dX4_within_5 : decode cX4_within 5 = .ok (.iload_n 1, 1) := by decide +kernel
theorem dX4_within_6 : decode cX4_within 6 = .ok (.if_icmp .gt 7, 3) := by decide +kernel
theorem dX4_within_9 : decode cX4_within 9 = .ok (.iconst 1, 1) := by decide +kernel
theorem dX4_within_10 : decode cX4_within 10 = .ok (.goto 4, 3) := by decide +kernel
theorem dX4_within_13 : decode cX4_within 13 = .ok (.iconst 0, 1) := by decide +kernel
theorem dX4_within_14 : decode cX4_within 14 = .ok (.ireturn, 1) := by decide +kernel
theorem dX4_store_0 : decode cX4_store 0 = .ok (.iload_n 1, 1) := by decide +kernel
theorem dX4_store_1 : decode cX4_store 1 = .ok (.sipush 1023, 3) := by decide +kernel
theorem dX4_store_4 : decode cX4_store 4 = .ok (.invokestatic 42, 3) := by decide +kernel
theorem dX4_store_7 : decode cX4_store 7 = .ok (.ifCond .ne 5, 3) := by decide +kernel
theorem dX4_store_10 : decode cX4_store 10 = .ok (.iconst 0, 1) := by decide +kernel
theorem dX4_store_11 : decode cX4_store 11 = .ok (.ireturn, 1) := by decide +kernel
theorem dX4_store_12 : decode cX4_store 12 = .ok (.aload_n 0, 1) := by decide +kernel
theorem dX4_store_13 : decode cX4_store 13 = .ok (.getfield 7, 3) := by decide +kernel
theorem dX4_store_16 : decode cX4_store 16 = .ok (.iload_n 1, 1) := by decide +kernel
theorem dX4_store_17 : decode cX4_store 17 = .ok (.iload_n 2, 1) := by decide +kernel
theorem dX4_store_18 : decode cX4_store 18 = .ok (.iastore, 1) := by decide +kernel
theorem dX4_store_19 : decode cX4_store 19 = .ok (.iconst 1, 1) := by decide +kernel
theorem dX4_store_20 : decode cX4_store 20 = .ok (.ireturn, 1) := by decide +kernel
theorem dX4_constant_0 : decode cX4_constant 0 = .ok (.iload_n 1, 1) := by decide +kernel
theorem dX4_constant_1 : decode cX4_constant 1 = .ok (.sipush 255, 3) := by decide +kernel
theorem dX4_constant_4 : decode cX4_constant 4 = .ok (.invokestatic 42, 3) := by decide +kernel
theorem dX4_constant_7 : decode cX4_constant 7 = .ok (.ifCond .ne 5, 3) := by decide +kernel
theorem dX4_constant_10 : decode cX4_constant 10 = .ok (.iconst 0, 1) := by decide +kernel
theorem dX4_constant_11 : decode cX4_constant 11 = .ok (.ireturn, 1) := by decide +kernel
theorem dX4_constant_12 : decode cX4_constant 12 = .ok (.aload_n 0, 1) := by decide +kernel
theorem dX4_constant_13 : decode cX4_constant 13 = .ok (.getfield 13, 3) := by decide +kernel
theorem dX4_constant_16 : decode cX4_constant 16 = .ok (.iload_n 1, 1) := by decide +kernel
theorem dX4_constant_17 : decode cX4_constant 17 = .ok (.iload_n 2, 1) := by decide +kernel
theorem dX4_constant_18 : decode cX4_constant 18 = .ok (.ldc 46, 2) := by decide +kernel
theorem dX4_constant_20 : decode cX4_constant 20 = .ok (.iand, 1) := by decide +kernel
theorem dX4_constant_21 : decode cX4_constant 21 = .ok (.iastore, 1) := by decide +kernel
theorem dX4_constant_22 : decode cX4_constant 22 = .ok (.iconst 1, 1) := by decide +kernel
theorem dX4_constant_23 : decode cX4_constant 23 = .ok (.ireturn, 1) := by decide +kernel
theorem dX4_poke_0 : decode cX4_poke 0 = .ok (.iload_n 1, 1) := by decide +kernel
theorem dX4_poke_1 : decode cX4_poke 1 = .ok (.sipush 1023, 3) := by decide +kernel
theorem dX4_poke_4 : decode cX4_poke 4 = .ok (.invokestatic 42, 3) := by decide +kernel
theorem dX4_poke_7 : decode cX4_poke 7 = .ok (.ifCond .ne 5, 3) := by decide +kernel
theorem dX4_poke_10 : decode cX4_poke 10 = .ok (.iconst 0, 1) := by decide +kernel
theorem dX4_poke_11 : decode cX4_poke 11 = .ok (.ireturn, 1) := by decide +kernel
theorem dX4_poke_12 : decode cX4_poke 12 = .ok (.aload_n 0, 1) := by decide +kernel
theorem dX4_poke_13 : decode cX4_poke 13 = .ok (.getfield 16, 3) := by decide +kernel
theorem dX4_poke_16 : decode cX4_poke 16 = .ok (.iload_n 1, 1) := by decide +kernel
theorem dX4_poke_17 : decode cX4_poke 17 = .ok (.iload_n 2, 1) := by decide +kernel
theorem dX4_poke_18 : decode cX4_poke 18 = .ok (.ldc 46, 2) := by decide +kernel
theorem dX4_poke_20 : decode cX4_poke 20 = .ok (.iand, 1) := by decide +kernel
theorem dX4_poke_21 : decode cX4_poke 21 = .ok (.iastore, 1) := by decide +kernel
theorem dX4_poke_22 : decode cX4_poke 22 = .ok (.iconst 1, 1) := by decide +kernel
theorem dX4_poke_23 : decode cX4_poke 23 = .ok (.ireturn, 1) := by decide +kernel
theorem dX4_set_0 : decode cX4_set 0 = .ok (.iload_n 1, 1) := by decide +kernel
theorem dX4_set_1 : decode cX4_set 1 = .ok (.bipush 31, 2) := by decide +kernel
theorem dX4_set_3 : decode cX4_set 3 = .ok (.invokestatic 42, 3) := by decide +kernel
theorem dX4_set_6 : decode cX4_set 6 = .ok (.ifCond .ne 5, 3) := by decide +kernel
theorem dX4_set_9 : decode cX4_set 9 = .ok (.iconst 0, 1) := by decide +kernel
theorem dX4_set_10 : decode cX4_set 10 = .ok (.ireturn, 1) := by decide +kernel
theorem dX4_set_11 : decode cX4_set 11 = .ok (.aload_n 0, 1) := by decide +kernel
theorem dX4_set_12 : decode cX4_set 12 = .ok (.getfield 19, 3) := by decide +kernel
theorem dX4_set_15 : decode cX4_set 15 = .ok (.iload_n 1, 1) := by decide +kernel
theorem dX4_set_16 : decode cX4_set 16 = .ok (.iload_n 2, 1) := by decide +kernel
theorem dX4_set_17 : decode cX4_set 17 = .ok (.ldc 46, 2) := by decide +kernel
theorem dX4_set_19 : decode cX4_set 19 = .ok (.iand, 1) := by decide +kernel
theorem dX4_set_20 : decode cX4_set 20 = .ok (.iastore, 1) := by decide +kernel
theorem dX4_set_21 : decode cX4_set 21 = .ok (.iconst 1, 1) := by decide +kernel
theorem dX4_set_22 : decode cX4_set 22 = .ok (.ireturn, 1) := by decide +kernel
theorem dX4_port_0 : decode cX4_port 0 = .ok (.aload_n 0, 1) := by decide +kernel
theorem dX4_port_1 : decode cX4_port 1 = .ok (.iload_n 1, 1) := by decide +kernel
theorem dX4_port_2 : decode cX4_port 2 = .ok (.ldc 46, 2) := by decide +kernel
theorem dX4_port_4 : decode cX4_port 4 = .ok (.iand, 1) := by decide +kernel
theorem dX4_port_5 : decode cX4_port 5 = .ok (.putfield 47, 3) := by decide +kernel
theorem dX4_port_8 : decode cX4_port 8 = .ok (.return_, 1) := by decide +kernel
theorem dX4_wake_0 : decode cX4_wake 0 = .ok (.iload_n 1, 1) := by decide +kernel
theorem dX4_wake_1 : decode cX4_wake 1 = .ok (.bipush 15, 2) := by decide +kernel
theorem dX4_wake_3 : decode cX4_wake 3 = .ok (.invokestatic 42, 3) := by decide +kernel
theorem dX4_wake_6 : decode cX4_wake 6 = .ok (.ifCond .ne 5, 3) := by decide +kernel
theorem dX4_wake_9 : decode cX4_wake 9 = .ok (.iconst 0, 1) := by decide +kernel
theorem dX4_wake_10 : decode cX4_wake 10 = .ok (.ireturn, 1) := by decide +kernel
theorem dX4_wake_11 : decode cX4_wake 11 = .ok (.aload_n 0, 1) := by decide +kernel
theorem dX4_wake_12 : decode cX4_wake 12 = .ok (.getfield 28, 3) := by decide +kernel
theorem dX4_wake_15 : decode cX4_wake 15 = .ok (.iload_n 1, 1) := by decide +kernel
theorem dX4_wake_16 : decode cX4_wake 16 = .ok (.baload, 1) := by decide +kernel
theorem dX4_wake_17 : decode cX4_wake 17 = .ok (.istore_n 2, 1) := by decide +kernel
theorem dX4_wake_18 : decode cX4_wake 18 = .ok (.aload_n 0, 1) := by decide +kernel
theorem dX4_wake_19 : decode cX4_wake 19 = .ok (.getfield 28, 3) := by decide +kernel
theorem dX4_wake_22 : decode cX4_wake 22 = .ok (.iload_n 1, 1) := by decide +kernel
theorem dX4_wake_23 : decode cX4_wake 23 = .ok (.iconst 1, 1) := by decide +kernel
theorem dX4_wake_24 : decode cX4_wake 24 = .ok (.bastore, 1) := by decide +kernel
theorem dX4_wake_25 : decode cX4_wake 25 = .ok (.iload_n 2, 1) := by decide +kernel
theorem dX4_wake_26 : decode cX4_wake 26 = .ok (.ireturn, 1) := by decide +kernel
theorem dX4_start_0 : decode cX4_start 0 = .ok (.iload_n 1, 1) := by decide +kernel
theorem dX4_start_1 : decode cX4_start 1 = .ok (.bipush 15, 2) := by decide +kernel
theorem dX4_start_3 : decode cX4_start 3 = .ok (.invokestatic 42, 3) := by decide +kernel
theorem dX4_start_6 : decode cX4_start 6 = .ok (.ifCond .eq 13, 3) := by decide +kernel
theorem dX4_start_9 : decode cX4_start 9 = .ok (.iload_n 2, 1) := by decide +kernel
theorem dX4_start_10 : decode cX4_start 10 = .ok (.sipush 1023, 3) := by decide +kernel
theorem dX4_start_13 : decode cX4_start 13 = .ok (.invokestatic 42, 3) := by decide +kernel
theorem dX4_start_16 : decode cX4_start 16 = .ok (.ifCond .ne 5, 3) := by decide +kernel
theorem dX4_start_19 : decode cX4_start 19 = .ok (.iconst 0, 1) := by decide +kernel
theorem dX4_start_20 : decode cX4_start 20 = .ok (.ireturn, 1) := by decide +kernel
theorem dX4_start_21 : decode cX4_start 21 = .ok (.aload_n 0, 1) := by decide +kernel
theorem dX4_start_22 : decode cX4_start 22 = .ok (.getfield 22, 3) := by decide +kernel
theorem dX4_start_25 : decode cX4_start 25 = .ok (.iload_n 1, 1) := by decide +kernel
theorem dX4_start_26 : decode cX4_start 26 = .ok (.iload_n 2, 1) := by decide +kernel
theorem dX4_start_27 : decode cX4_start 27 = .ok (.iastore, 1) := by decide +kernel
theorem dX4_start_28 : decode cX4_start 28 = .ok (.aload_n 0, 1) := by decide +kernel
theorem dX4_start_29 : decode cX4_start 29 = .ok (.getfield 25, 3) := by decide +kernel
theorem dX4_start_32 : decode cX4_start 32 = .ok (.iload_n 1, 1) := by decide +kernel
theorem dX4_start_33 : decode cX4_start 33 = .ok (.iconst 0, 1) := by decide +kernel
theorem dX4_start_34 : decode cX4_start 34 = .ok (.iastore, 1) := by decide +kernel
theorem dX4_start_35 : decode cX4_start 35 = .ok (.iconst 1, 1) := by decide +kernel
theorem dX4_start_36 : decode cX4_start 36 = .ok (.ireturn, 1) := by decide +kernel
theorem dX4_hasConstant_0 : decode cX4_hasConstant 0 = .ok (.aload_n 0, 1) := by decide +kernel
theorem dX4_hasConstant_1 : decode cX4_hasConstant 1 = .ok (.getfield 50, 3) := by decide +kernel
theorem dX4_hasConstant_4 : decode cX4_hasConstant 4 = .ok (.bipush 7, 2) := by decide +kernel
theorem dX4_hasConstant_6 : decode cX4_hasConstant 6 = .ok (.if_icmp .eq 12, 3) := by decide +kernel
theorem dX4_hasConstant_9 : decode cX4_hasConstant 9 = .ok (.aload_n 0, 1) := by decide +kernel
theorem dX4_hasConstant_10 : decode cX4_hasConstant 10 = .ok (.getfield 53, 3) := by decide +kernel
theorem dX4_hasConstant_13 : decode cX4_hasConstant 13 = .ok (.bipush 7, 2) := by decide +kernel
theorem dX4_hasConstant_15 : decode cX4_hasConstant 15 = .ok (.if_icmp .ne 7, 3) := by decide +kernel
theorem dX4_hasConstant_18 : decode cX4_hasConstant 18 = .ok (.iconst 1, 1) := by decide +kernel
theorem dX4_hasConstant_19 : decode cX4_hasConstant 19 = .ok (.goto 4, 3) := by decide +kernel
theorem dX4_hasConstant_22 : decode cX4_hasConstant 22 = .ok (.iconst 0, 1) := by decide +kernel
theorem dX4_hasConstant_23 : decode cX4_hasConstant 23 = .ok (.ireturn, 1) := by decide +kernel
theorem dX4_waits_0 : decode cX4_waits 0 = .ok (.aload_n 0, 1) := by decide +kernel
theorem dX4_waits_1 : decode cX4_waits 1 = .ok (.getfield 56, 3) := by decide +kernel
theorem dX4_waits_4 : decode cX4_waits 4 = .ok (.aload_n 0, 1) := by decide +kernel
theorem dX4_waits_5 : decode cX4_waits 5 = .ok (.getfield 35, 3) := by decide +kernel
theorem dX4_waits_8 : decode cX4_waits 8 = .ok (.isub, 1) := by decide +kernel
theorem dX4_waits_9 : decode cX4_waits 9 = .ok (.istore_n 1, 1) := by decide +kernel
theorem dX4_waits_10 : decode cX4_waits 10 = .ok (.aload_n 0, 1) := by decide +kernel
theorem dX4_waits_11 : decode cX4_waits 11 = .ok (.getfield 50, 3) := by decide +kernel
theorem dX4_waits_14 : decode cX4_waits 14 = .ok (.iconst 1, 1) := by decide +kernel
theorem dX4_waits_15 : decode cX4_waits 15 = .ok (.if_icmp .ne 8, 3) := by decide +kernel
theorem dX4_waits_18 : decode cX4_waits 18 = .ok (.iload_n 1, 1) := by decide +kernel
theorem dX4_waits_19 : decode cX4_waits 19 = .ok (.iconst 5, 1) := by decide +kernel
theorem dX4_waits_20 : decode cX4_waits 20 = .ok (.if_icmp .lt 37, 3) := by decide +kernel
theorem dX4_waits_23 : decode cX4_waits 23 = .ok (.aload_n 0, 1) := by decide +kernel
theorem dX4_waits_24 : decode cX4_waits 24 = .ok (.getfield 59, 3) := by decide +kernel
theorem dX4_waits_27 : decode cX4_waits 27 = .ok (.iconst 5, 1) := by decide +kernel
theorem dX4_waits_28 : decode cX4_waits 28 = .ok (.if_icmp .ne 15, 3) := by decide +kernel
theorem dX4_waits_31 : decode cX4_waits 31 = .ok (.aload_n 0, 1) := by decide +kernel
theorem dX4_waits_32 : decode cX4_waits 32 = .ok (.invokevirtual 62, 3) := by decide +kernel
theorem dX4_waits_35 : decode cX4_waits 35 = .ok (.ifCond .ne 8, 3) := by decide +kernel
theorem dX4_waits_38 : decode cX4_waits 38 = .ok (.iload_n 1, 1) := by decide +kernel
theorem dX4_waits_39 : decode cX4_waits 39 = .ok (.iconst 4, 1) := by decide +kernel
theorem dX4_waits_40 : decode cX4_waits 40 = .ok (.if_icmp .lt 17, 3) := by decide +kernel
theorem dX4_waits_43 : decode cX4_waits 43 = .ok (.aload_n 0, 1) := by decide +kernel
theorem dX4_waits_44 : decode cX4_waits 44 = .ok (.getfield 53, 3) := by decide +kernel
theorem dX4_waits_47 : decode cX4_waits 47 = .ok (.bipush 6, 2) := by decide +kernel
theorem dX4_waits_49 : decode cX4_waits 49 = .ok (.if_icmp .ne 12, 3) := by decide +kernel
theorem dX4_waits_52 : decode cX4_waits 52 = .ok (.iload_n 1, 1) := by decide +kernel
theorem dX4_waits_53 : decode cX4_waits 53 = .ok (.iconst 2, 1) := by decide +kernel
theorem dX4_waits_54 : decode cX4_waits 54 = .ok (.if_icmp .ge 7, 3) := by decide +kernel
theorem dX4_waits_57 : decode cX4_waits 57 = .ok (.iconst 1, 1) := by decide +kernel
theorem dX4_waits_58 : decode cX4_waits 58 = .ok (.goto 4, 3) := by decide +kernel
theorem dX4_waits_61 : decode cX4_waits 61 = .ok (.iconst 0, 1) := by decide +kernel
theorem dX4_waits_62 : decode cX4_waits 62 = .ok (.ireturn, 1) := by decide +kernel
theorem dX4_shifted_0 : decode cX4_shifted 0 = .ok (.aload_n 0, 1) := by decide +kernel
theorem dX4_shifted_1 : decode cX4_shifted 1 = .ok (.getfield 50, 3) := by decide +kernel
theorem dX4_shifted_4 : decode cX4_shifted 4 = .ok (.tableswitch 67 4 6 #[28, 38, 45], 28) := by decide +kernel
theorem dX4_shifted_32 : decode cX4_shifted 32 = .ok (.iconst 2, 1) := by decide +kernel
theorem dX4_shifted_33 : decode cX4_shifted 33 = .ok (.aload_n 0, 1) := by decide +kernel
theorem dX4_shifted_34 : decode cX4_shifted 34 = .ok (.getfield 66, 3) := by decide +kernel
theorem dX4_shifted_37 : decode cX4_shifted 37 = .ok (.imul, 1) := by decide +kernel
theorem dX4_shifted_38 : decode cX4_shifted 38 = .ok (.ldc 46, 2) := by decide +kernel
theorem dX4_shifted_40 : decode cX4_shifted 40 = .ok (.iand, 1) := by decide +kernel
theorem dX4_shifted_41 : decode cX4_shifted 41 = .ok (.ireturn, 1) := by decide +kernel
theorem dX4_shifted_42 : decode cX4_shifted 42 = .ok (.aload_n 0, 1) := by decide +kernel
theorem dX4_shifted_43 : decode cX4_shifted 43 = .ok (.getfield 66, 3) := by decide +kernel
theorem dX4_shifted_46 : decode cX4_shifted 46 = .ok (.iconst 2, 1) := by decide +kernel
theorem dX4_shifted_47 : decode cX4_shifted 47 = .ok (.idiv, 1) := by decide +kernel
theorem dX4_shifted_48 : decode cX4_shifted 48 = .ok (.ireturn, 1) := by decide +kernel
theorem dX4_shifted_49 : decode cX4_shifted 49 = .ok (.aload_n 0, 1) := by decide +kernel
theorem dX4_shifted_50 : decode cX4_shifted 50 = .ok (.getfield 66, 3) := by decide +kernel
theorem dX4_shifted_53 : decode cX4_shifted 53 = .ok (.sipush 256, 3) := by decide +kernel
theorem dX4_shifted_56 : decode cX4_shifted 56 = .ok (.irem, 1) := by decide +kernel
theorem dX4_shifted_57 : decode cX4_shifted 57 = .ok (.sipush 256, 3) := by decide +kernel
theorem dX4_shifted_60 : decode cX4_shifted 60 = .ok (.imul, 1) := by decide +kernel
theorem dX4_shifted_61 : decode cX4_shifted 61 = .ok (.aload_n 0, 1) := by decide +kernel
theorem dX4_shifted_62 : decode cX4_shifted 62 = .ok (.getfield 66, 3) := by decide +kernel
theorem dX4_shifted_65 : decode cX4_shifted 65 = .ok (.sipush 256, 3) := by decide +kernel
theorem dX4_shifted_68 : decode cX4_shifted 68 = .ok (.idiv, 1) := by decide +kernel
theorem dX4_shifted_69 : decode cX4_shifted 69 = .ok (.iadd, 1) := by decide +kernel
theorem dX4_shifted_70 : decode cX4_shifted 70 = .ok (.ireturn, 1) := by decide +kernel
theorem dX4_shifted_71 : decode cX4_shifted 71 = .ok (.aload_n 0, 1) := by decide +kernel
theorem dX4_shifted_72 : decode cX4_shifted 72 = .ok (.getfield 66, 3) := by decide +kernel
theorem dX4_shifted_75 : decode cX4_shifted 75 = .ok (.ireturn, 1) := by decide +kernel
theorem dX4_bus_0 : decode cX4_bus 0 = .ok (.aload_n 0, 1) := by decide +kernel
theorem dX4_bus_1 : decode cX4_bus 1 = .ok (.invokevirtual 62, 3) := by decide +kernel
theorem dX4_bus_4 : decode cX4_bus 4 = .ok (.ifCond .eq 21, 3) := by decide +kernel
theorem dX4_bus_7 : decode cX4_bus 7 = .ok (.aload_n 0, 1) := by decide +kernel
theorem dX4_bus_8 : decode cX4_bus 8 = .ok (.getfield 13, 3) := by decide +kernel
theorem dX4_bus_11 : decode cX4_bus 11 = .ok (.bipush 8, 2) := by decide +kernel
theorem dX4_bus_13 : decode cX4_bus 13 = .ok (.aload_n 0, 1) := by decide +kernel
theorem dX4_bus_14 : decode cX4_bus 14 = .ok (.getfield 69, 3) := by decide +kernel
theorem dX4_bus_17 : decode cX4_bus 17 = .ok (.imul, 1) := by decide +kernel
theorem dX4_bus_18 : decode cX4_bus 18 = .ok (.aload_n 0, 1) := by decide +kernel
theorem dX4_bus_19 : decode cX4_bus 19 = .ok (.getfield 59, 3) := by decide +kernel
theorem dX4_bus_22 : decode cX4_bus 22 = .ok (.iadd, 1) := by decide +kernel
theorem dX4_bus_23 : decode cX4_bus 23 = .ok (.iaload, 1) := by decide +kernel
theorem dX4_bus_24 : decode cX4_bus 24 = .ok (.ireturn, 1) := by decide +kernel
theorem dX4_bus_25 : decode cX4_bus 25 = .ok (.aload_n 0, 1) := by decide +kernel
theorem dX4_bus_26 : decode cX4_bus 26 = .ok (.getfield 59, 3) := by decide +kernel
theorem dX4_bus_29 : decode cX4_bus 29 = .ok (.tableswitch 87 0 6 #[43, 53, 55, 58, 63, 68, 82], 43) := by decide +kernel
theorem dX4_bus_72 : decode cX4_bus 72 = .ok (.aload_n 0, 1) := by decide +kernel
theorem dX4_bus_73 : decode cX4_bus 73 = .ok (.getfield 19, 3) := by decide +kernel
theorem dX4_bus_76 : decode cX4_bus 76 = .ok (.aload_n 0, 1) := by decide +kernel
theorem dX4_bus_77 : decode cX4_bus 77 = .ok (.getfield 69, 3) := by decide +kernel
theorem dX4_bus_80 : decode cX4_bus 80 = .ok (.iaload, 1) := by decide +kernel
theorem dX4_bus_81 : decode cX4_bus 81 = .ok (.ireturn, 1) := by decide +kernel
theorem dX4_bus_82 : decode cX4_bus 82 = .ok (.iconst 0, 1) := by decide +kernel
theorem dX4_bus_83 : decode cX4_bus 83 = .ok (.ireturn, 1) := by decide +kernel
theorem dX4_bus_84 : decode cX4_bus 84 = .ok (.ldc 46, 2) := by decide +kernel
theorem dX4_bus_86 : decode cX4_bus 86 = .ok (.ireturn, 1) := by decide +kernel
theorem dX4_bus_87 : decode cX4_bus 87 = .ok (.aload_n 0, 1) := by decide +kernel
theorem dX4_bus_88 : decode cX4_bus 88 = .ok (.getfield 47, 3) := by decide +kernel
theorem dX4_bus_91 : decode cX4_bus 91 = .ok (.ireturn, 1) := by decide +kernel
theorem dX4_bus_92 : decode cX4_bus 92 = .ok (.aload_n 0, 1) := by decide +kernel
theorem dX4_bus_93 : decode cX4_bus 93 = .ok (.getfield 72, 3) := by decide +kernel
theorem dX4_bus_96 : decode cX4_bus 96 = .ok (.ireturn, 1) := by decide +kernel
theorem dX4_bus_97 : decode cX4_bus 97 = .ok (.aload_n 0, 1) := by decide +kernel
theorem dX4_bus_98 : decode cX4_bus 98 = .ok (.getfield 16, 3) := by decide +kernel
theorem dX4_bus_101 : decode cX4_bus 101 = .ok (.aload_n 0, 1) := by decide +kernel
theorem dX4_bus_102 : decode cX4_bus 102 = .ok (.getfield 75, 3) := by decide +kernel
theorem dX4_bus_105 : decode cX4_bus 105 = .ok (.sipush 1024, 3) := by decide +kernel
theorem dX4_bus_108 : decode cX4_bus 108 = .ok (.irem, 1) := by decide +kernel
theorem dX4_bus_109 : decode cX4_bus 109 = .ok (.iaload, 1) := by decide +kernel
theorem dX4_bus_110 : decode cX4_bus 110 = .ok (.ireturn, 1) := by decide +kernel
theorem dX4_bus_111 : decode cX4_bus 111 = .ok (.aload_n 0, 1) := by decide +kernel
theorem dX4_bus_112 : decode cX4_bus 112 = .ok (.getfield 66, 3) := by decide +kernel
theorem dX4_bus_115 : decode cX4_bus 115 = .ok (.ireturn, 1) := by decide +kernel
theorem dX4_bus_116 : decode cX4_bus 116 = .ok (.aload_n 0, 1) := by decide +kernel
theorem dX4_bus_117 : decode cX4_bus 117 = .ok (.getfield 75, 3) := by decide +kernel
theorem dX4_bus_120 : decode cX4_bus 120 = .ok (.ireturn, 1) := by decide +kernel
theorem dX4_add_0 : decode cX4_add 0 = .ok (.aload_n 0, 1) := by decide +kernel
theorem dX4_add_1 : decode cX4_add 1 = .ok (.iload_n 1, 1) := by decide +kernel
theorem dX4_add_2 : decode cX4_add 2 = .ok (.ldc 46, 2) := by decide +kernel
theorem dX4_add_4 : decode cX4_add 4 = .ok (.iand, 1) := by decide +kernel
theorem dX4_add_5 : decode cX4_add 5 = .ok (.putfield 78, 3) := by decide +kernel
theorem dX4_add_8 : decode cX4_add 8 = .ok (.aload_n 0, 1) := by decide +kernel
theorem dX4_add_9 : decode cX4_add 9 = .ok (.iload_n 1, 1) := by decide +kernel
theorem dX4_add_10 : decode cX4_add 10 = .ok (.bipush 16, 2) := by decide +kernel
theorem dX4_add_12 : decode cX4_add 12 = .ok (.ishr, 1) := by decide +kernel
theorem dX4_add_13 : decode cX4_add 13 = .ok (.iconst 1, 1) := by decide +kernel
theorem dX4_add_14 : decode cX4_add 14 = .ok (.iand, 1) := by decide +kernel
theorem dX4_add_15 : decode cX4_add 15 = .ok (.putfield 81, 3) := by decide +kernel
theorem dX4_add_18 : decode cX4_add 18 = .ok (.return_, 1) := by decide +kernel
theorem dX4_take_0 : decode cX4_take 0 = .ok (.aload_n 0, 1) := by decide +kernel
theorem dX4_take_1 : decode cX4_take 1 = .ok (.iload_n 1, 1) := by decide +kernel
theorem dX4_take_2 : decode cX4_take 2 = .ok (.iload_n 2, 1) := by decide +kernel
theorem dX4_take_3 : decode cX4_take 3 = .ok (.isub, 1) := by decide +kernel
theorem dX4_take_4 : decode cX4_take 4 = .ok (.ldc 46, 2) := by decide +kernel
theorem dX4_take_6 : decode cX4_take 6 = .ok (.iand, 1) := by decide +kernel
theorem dX4_take_7 : decode cX4_take 7 = .ok (.putfield 78, 3) := by decide +kernel
theorem dX4_take_10 : decode cX4_take 10 = .ok (.aload_n 0, 1) := by decide +kernel
theorem dX4_take_11 : decode cX4_take 11 = .ok (.iload_n 1, 1) := by decide +kernel
theorem dX4_take_12 : decode cX4_take 12 = .ok (.iload_n 2, 1) := by decide +kernel
theorem dX4_take_13 : decode cX4_take 13 = .ok (.if_icmp .lt 7, 3) := by decide +kernel
theorem dX4_take_16 : decode cX4_take 16 = .ok (.iconst 1, 1) := by decide +kernel
theorem dX4_take_17 : decode cX4_take 17 = .ok (.goto 4, 3) := by decide +kernel
theorem dX4_take_20 : decode cX4_take 20 = .ok (.iconst 0, 1) := by decide +kernel
theorem dX4_take_21 : decode cX4_take 21 = .ok (.putfield 81, 3) := by decide +kernel
theorem dX4_take_24 : decode cX4_take 24 = .ok (.return_, 1) := by decide +kernel
theorem dX4_reckon_0 : decode cX4_reckon 0 = .ok (.aload_n 0, 1) := by decide +kernel
theorem dX4_reckon_1 : decode cX4_reckon 1 = .ok (.iconst 0, 1) := by decide +kernel
theorem dX4_reckon_2 : decode cX4_reckon 2 = .ok (.putfield 81, 3) := by decide +kernel
theorem dX4_reckon_5 : decode cX4_reckon 5 = .ok (.aload_n 0, 1) := by decide +kernel
theorem dX4_reckon_6 : decode cX4_reckon 6 = .ok (.getfield 84, 3) := by decide +kernel
theorem dX4_reckon_9 : decode cX4_reckon 9 = .ok (.tableswitch 231 0 13 #[71, 79, 90, 103, 116, 129, 139, 148, 161, 173, 187, 202, 103, 215], 71) := by decide +kernel
theorem dX4_reckon_80 : decode cX4_reckon 80 = .ok (.aload_n 0, 1) := by decide +kernel
theorem dX4_reckon_81 : decode cX4_reckon 81 = .ok (.iload_n 1, 1) := by decide +kernel
theorem dX4_reckon_82 : decode cX4_reckon 82 = .ok (.putfield 78, 3) := by decide +kernel
theorem dX4_reckon_85 : decode cX4_reckon 85 = .ok (.goto 160, 3) := by decide +kernel
theorem dX4_reckon_88 : decode cX4_reckon 88 = .ok (.aload_n 0, 1) := by decide +kernel
theorem dX4_reckon_89 : decode cX4_reckon 89 = .ok (.aload_n 0, 1) := by decide +kernel
theorem dX4_reckon_90 : decode cX4_reckon 90 = .ok (.getfield 87, 3) := by decide +kernel
theorem dX4_reckon_93 : decode cX4_reckon 93 = .ok (.putfield 78, 3) := by decide +kernel
theorem dX4_reckon_96 : decode cX4_reckon 96 = .ok (.goto 149, 3) := by decide +kernel
theorem dX4_reckon_99 : decode cX4_reckon 99 = .ok (.aload_n 0, 1) := by decide +kernel
theorem dX4_reckon_100 : decode cX4_reckon 100 = .ok (.iload_n 1, 1) := by decide +kernel
theorem dX4_reckon_101 : decode cX4_reckon 101 = .ok (.aload_n 0, 1) := by decide +kernel
theorem dX4_reckon_102 : decode cX4_reckon 102 = .ok (.getfield 87, 3) := by decide +kernel
theorem dX4_reckon_105 : decode cX4_reckon 105 = .ok (.ior, 1) := by decide +kernel
theorem dX4_reckon_106 : decode cX4_reckon 106 = .ok (.putfield 78, 3) := by decide +kernel
theorem dX4_reckon_109 : decode cX4_reckon 109 = .ok (.goto 136, 3) := by decide +kernel
theorem dX4_reckon_112 : decode cX4_reckon 112 = .ok (.aload_n 0, 1) := by decide +kernel
theorem dX4_reckon_113 : decode cX4_reckon 113 = .ok (.iload_n 1, 1) := by decide +kernel
theorem dX4_reckon_114 : decode cX4_reckon 114 = .ok (.aload_n 0, 1) := by decide +kernel
theorem dX4_reckon_115 : decode cX4_reckon 115 = .ok (.getfield 87, 3) := by decide +kernel
theorem dX4_reckon_118 : decode cX4_reckon 118 = .ok (.iand, 1) := by decide +kernel
theorem dX4_reckon_119 : decode cX4_reckon 119 = .ok (.putfield 78, 3) := by decide +kernel
theorem dX4_reckon_122 : decode cX4_reckon 122 = .ok (.goto 123, 3) := by decide +kernel
theorem dX4_reckon_125 : decode cX4_reckon 125 = .ok (.aload_n 0, 1) := by decide +kernel
theorem dX4_reckon_126 : decode cX4_reckon 126 = .ok (.iload_n 1, 1) := by decide +kernel
theorem dX4_reckon_127 : decode cX4_reckon 127 = .ok (.aload_n 0, 1) := by decide +kernel
theorem dX4_reckon_128 : decode cX4_reckon 128 = .ok (.getfield 87, 3) := by decide +kernel
theorem dX4_reckon_131 : decode cX4_reckon 131 = .ok (.ixor, 1) := by decide +kernel
theorem dX4_reckon_132 : decode cX4_reckon 132 = .ok (.putfield 78, 3) := by decide +kernel
theorem dX4_reckon_135 : decode cX4_reckon 135 = .ok (.goto 110, 3) := by decide +kernel
theorem dX4_reckon_138 : decode cX4_reckon 138 = .ok (.aload_n 0, 1) := by decide +kernel
theorem dX4_reckon_139 : decode cX4_reckon 139 = .ok (.iload_n 1, 1) := by decide +kernel
theorem dX4_reckon_140 : decode cX4_reckon 140 = .ok (.iconst 1, 1) := by decide +kernel
theorem dX4_reckon_141 : decode cX4_reckon 141 = .ok (.iadd, 1) := by decide +kernel
theorem dX4_reckon_142 : decode cX4_reckon 142 = .ok (.invokevirtual 90, 3) := by decide +kernel
theorem dX4_reckon_145 : decode cX4_reckon 145 = .ok (.goto 100, 3) := by decide +kernel
theorem dX4_reckon_148 : decode cX4_reckon 148 = .ok (.aload_n 0, 1) := by decide +kernel
theorem dX4_reckon_149 : decode cX4_reckon 149 = .ok (.iload_n 1, 1) := by decide +kernel
theorem dX4_reckon_150 : decode cX4_reckon 150 = .ok (.iconst 1, 1) := by decide +kernel
theorem dX4_reckon_151 : decode cX4_reckon 151 = .ok (.invokevirtual 94, 3) := by decide +kernel
theorem dX4_reckon_154 : decode cX4_reckon 154 = .ok (.goto 91, 3) := by decide +kernel
theorem dX4_reckon_157 : decode cX4_reckon 157 = .ok (.aload_n 0, 1) := by decide +kernel
theorem dX4_reckon_158 : decode cX4_reckon 158 = .ok (.iload_n 1, 1) := by decide +kernel
theorem dX4_reckon_159 : decode cX4_reckon 159 = .ok (.aload_n 0, 1) := by decide +kernel
theorem dX4_reckon_160 : decode cX4_reckon 160 = .ok (.getfield 87, 3) := by decide +kernel
theorem dX4_reckon_163 : decode cX4_reckon 163 = .ok (.iadd, 1) := by decide +kernel
theorem dX4_reckon_164 : decode cX4_reckon 164 = .ok (.invokevirtual 90, 3) := by decide +kernel
theorem dX4_reckon_167 : decode cX4_reckon 167 = .ok (.goto 78, 3) := by decide +kernel
theorem dX4_reckon_170 : decode cX4_reckon 170 = .ok (.aload_n 0, 1) := by decide +kernel
theorem dX4_reckon_171 : decode cX4_reckon 171 = .ok (.iload_n 1, 1) := by decide +kernel
theorem dX4_reckon_172 : decode cX4_reckon 172 = .ok (.aload_n 0, 1) := by decide +kernel
theorem dX4_reckon_173 : decode cX4_reckon 173 = .ok (.getfield 87, 3) := by decide +kernel
theorem dX4_reckon_176 : decode cX4_reckon 176 = .ok (.invokevirtual 94, 3) := by decide +kernel
theorem dX4_reckon_179 : decode cX4_reckon 179 = .ok (.goto 66, 3) := by decide +kernel
theorem dX4_reckon_182 : decode cX4_reckon 182 = .ok (.aload_n 0, 1) := by decide +kernel
theorem dX4_reckon_183 : decode cX4_reckon 183 = .ok (.iload_n 1, 1) := by decide +kernel
theorem dX4_reckon_184 : decode cX4_reckon 184 = .ok (.aload_n 0, 1) := by decide +kernel
theorem dX4_reckon_185 : decode cX4_reckon 185 = .ok (.getfield 87, 3) := by decide +kernel
theorem dX4_reckon_188 : decode cX4_reckon 188 = .ok (.iconst 1, 1) := by decide +kernel
theorem dX4_reckon_189 : decode cX4_reckon 189 = .ok (.iadd, 1) := by decide +kernel
theorem dX4_reckon_190 : decode cX4_reckon 190 = .ok (.invokevirtual 94, 3) := by decide +kernel
theorem dX4_reckon_193 : decode cX4_reckon 193 = .ok (.goto 52, 3) := by decide +kernel
theorem dX4_reckon_196 : decode cX4_reckon 196 = .ok (.aload_n 0, 1) := by decide +kernel
theorem dX4_reckon_197 : decode cX4_reckon 197 = .ok (.iload_n 1, 1) := by decide +kernel
theorem dX4_reckon_198 : decode cX4_reckon 198 = .ok (.aload_n 0, 1) := by decide +kernel
theorem dX4_reckon_199 : decode cX4_reckon 199 = .ok (.getfield 87, 3) := by decide +kernel
theorem dX4_reckon_202 : decode cX4_reckon 202 = .ok (.iadd, 1) := by decide +kernel
theorem dX4_reckon_203 : decode cX4_reckon 203 = .ok (.iconst 1, 1) := by decide +kernel
theorem dX4_reckon_204 : decode cX4_reckon 204 = .ok (.iadd, 1) := by decide +kernel
theorem dX4_reckon_205 : decode cX4_reckon 205 = .ok (.invokevirtual 90, 3) := by decide +kernel
theorem dX4_reckon_208 : decode cX4_reckon 208 = .ok (.goto 37, 3) := by decide +kernel
theorem dX4_reckon_211 : decode cX4_reckon 211 = .ok (.aload_n 0, 1) := by decide +kernel
theorem dX4_reckon_212 : decode cX4_reckon 212 = .ok (.iload_n 1, 1) := by decide +kernel
theorem dX4_reckon_213 : decode cX4_reckon 213 = .ok (.aload_n 0, 1) := by decide +kernel
theorem dX4_reckon_214 : decode cX4_reckon 214 = .ok (.getfield 98, 3) := by decide +kernel
theorem dX4_reckon_217 : decode cX4_reckon 217 = .ok (.iadd, 1) := by decide +kernel
theorem dX4_reckon_218 : decode cX4_reckon 218 = .ok (.invokevirtual 90, 3) := by decide +kernel
theorem dX4_reckon_221 : decode cX4_reckon 221 = .ok (.goto 24, 3) := by decide +kernel
theorem dX4_reckon_224 : decode cX4_reckon 224 = .ok (.aload_n 0, 1) := by decide +kernel
theorem dX4_reckon_225 : decode cX4_reckon 225 = .ok (.iload_n 1, 1) := by decide +kernel
theorem dX4_reckon_226 : decode cX4_reckon 226 = .ok (.ldc 46, 2) := by decide +kernel
theorem dX4_reckon_228 : decode cX4_reckon 228 = .ok (.aload_n 0, 1) := by decide +kernel
theorem dX4_reckon_229 : decode cX4_reckon 229 = .ok (.getfield 87, 3) := by decide +kernel
theorem dX4_reckon_232 : decode cX4_reckon 232 = .ok (.isub, 1) := by decide +kernel
theorem dX4_reckon_233 : decode cX4_reckon 233 = .ok (.iand, 1) := by decide +kernel
theorem dX4_reckon_234 : decode cX4_reckon 234 = .ok (.putfield 78, 3) := by decide +kernel
theorem dX4_reckon_237 : decode cX4_reckon 237 = .ok (.goto 8, 3) := by decide +kernel
theorem dX4_reckon_240 : decode cX4_reckon 240 = .ok (.aload_n 0, 1) := by decide +kernel
theorem dX4_reckon_241 : decode cX4_reckon 241 = .ok (.iconst 0, 1) := by decide +kernel
theorem dX4_reckon_242 : decode cX4_reckon 242 = .ok (.putfield 78, 3) := by decide +kernel
theorem dX4_reckon_245 : decode cX4_reckon 245 = .ok (.return_, 1) := by decide +kernel
theorem dX4_isOfAlu_0 : decode cX4_isOfAlu 0 = .ok (.aload_n 0, 1) := by decide +kernel
theorem dX4_isOfAlu_1 : decode cX4_isOfAlu 1 = .ok (.getfield 84, 3) := by decide +kernel
theorem dX4_isOfAlu_4 : decode cX4_isOfAlu 4 = .ok (.ifCond .eq 46, 3) := by decide +kernel
theorem dX4_isOfAlu_7 : decode cX4_isOfAlu 7 = .ok (.aload_n 0, 1) := by decide +kernel
theorem dX4_isOfAlu_8 : decode cX4_isOfAlu 8 = .ok (.getfield 84, 3) := by decide +kernel
theorem dX4_isOfAlu_11 : decode cX4_isOfAlu 11 = .ok (.iconst 2, 1) := by decide +kernel
theorem dX4_isOfAlu_12 : decode cX4_isOfAlu 12 = .ok (.if_icmp .eq 38, 3) := by decide +kernel
theorem dX4_isOfAlu_15 : decode cX4_isOfAlu 15 = .ok (.aload_n 0, 1) := by decide +kernel
theorem dX4_isOfAlu_16 : decode cX4_isOfAlu 16 = .ok (.getfield 84, 3) := by decide +kernel
theorem dX4_isOfAlu_19 : decode cX4_isOfAlu 19 = .ok (.iconst 5, 1) := by decide +kernel
theorem dX4_isOfAlu_20 : decode cX4_isOfAlu 20 = .ok (.if_icmp .eq 30, 3) := by decide +kernel
theorem dX4_isOfAlu_23 : decode cX4_isOfAlu 23 = .ok (.aload_n 0, 1) := by decide +kernel
theorem dX4_isOfAlu_24 : decode cX4_isOfAlu 24 = .ok (.getfield 84, 3) := by decide +kernel
theorem dX4_isOfAlu_27 : decode cX4_isOfAlu 27 = .ok (.bipush 6, 2) := by decide +kernel
theorem dX4_isOfAlu_29 : decode cX4_isOfAlu 29 = .ok (.if_icmp .eq 21, 3) := by decide +kernel
theorem dX4_isOfAlu_32 : decode cX4_isOfAlu 32 = .ok (.aload_n 0, 1) := by decide +kernel
theorem dX4_isOfAlu_33 : decode cX4_isOfAlu 33 = .ok (.getfield 84, 3) := by decide +kernel
theorem dX4_isOfAlu_36 : decode cX4_isOfAlu 36 = .ok (.bipush 10, 2) := by decide +kernel
theorem dX4_isOfAlu_38 : decode cX4_isOfAlu 38 = .ok (.if_icmp .lt 16, 3) := by decide +kernel
theorem dX4_isOfAlu_41 : decode cX4_isOfAlu 41 = .ok (.aload_n 0, 1) := by decide +kernel
theorem dX4_isOfAlu_42 : decode cX4_isOfAlu 42 = .ok (.getfield 84, 3) := by decide +kernel
theorem dX4_isOfAlu_45 : decode cX4_isOfAlu 45 = .ok (.bipush 12, 2) := by decide +kernel
theorem dX4_isOfAlu_47 : decode cX4_isOfAlu 47 = .ok (.if_icmp .gt 7, 3) := by decide +kernel
theorem dX4_isOfAlu_50 : decode cX4_isOfAlu 50 = .ok (.iconst 1, 1) := by decide +kernel
theorem dX4_isOfAlu_51 : decode cX4_isOfAlu 51 = .ok (.goto 4, 3) := by decide +kernel
theorem dX4_isOfAlu_54 : decode cX4_isOfAlu 54 = .ok (.iconst 0, 1) := by decide +kernel
theorem dX4_isOfAlu_55 : decode cX4_isOfAlu 55 = .ok (.ireturn, 1) := by decide +kernel
theorem dX4_change_0 : decode cX4_change 0 = .ok (.aload_n 0, 1) := by decide +kernel
theorem dX4_change_1 : decode cX4_change 1 = .ok (.getfield 53, 3) := by decide +kernel
theorem dX4_change_4 : decode cX4_change 4 = .ok (.tableswitch 91 1 8 #[48, 58, 63, 73, 79, 91, 91, 84], 48) := by decide +kernel
theorem dX4_change_52 : decode cX4_change 52 = .ok (.iload_n 1, 1) := by decide +kernel
theorem dX4_change_53 : decode cX4_change 53 = .ok (.ifCond .ne 7, 3) := by decide +kernel
theorem dX4_change_56 : decode cX4_change 56 = .ok (.iconst 1, 1) := by decide +kernel
theorem dX4_change_57 : decode cX4_change 57 = .ok (.goto 4, 3) := by decide +kernel
theorem dX4_change_60 : decode cX4_change 60 = .ok (.iconst 0, 1) := by decide +kernel
theorem dX4_change_61 : decode cX4_change 61 = .ok (.ireturn, 1) := by decide +kernel
theorem dX4_change_62 : decode cX4_change 62 = .ok (.iload_n 2, 1) := by decide +kernel
theorem dX4_change_63 : decode cX4_change 63 = .ok (.bipush 15, 2) := by decide +kernel
theorem dX4_change_65 : decode cX4_change 65 = .ok (.ishr, 1) := by decide +kernel
theorem dX4_change_66 : decode cX4_change 66 = .ok (.ireturn, 1) := by decide +kernel
theorem dX4_change_67 : decode cX4_change 67 = .ok (.iload_n 2, 1) := by decide +kernel
theorem dX4_change_68 : decode cX4_change 68 = .ok (.ifCond .ne 7, 3) := by decide +kernel
theorem dX4_change_71 : decode cX4_change 71 = .ok (.iconst 1, 1) := by decide +kernel
theorem dX4_change_72 : decode cX4_change 72 = .ok (.goto 4, 3) := by decide +kernel
theorem dX4_change_75 : decode cX4_change 75 = .ok (.iconst 0, 1) := by decide +kernel
theorem dX4_change_76 : decode cX4_change 76 = .ok (.ireturn, 1) := by decide +kernel
theorem dX4_change_77 : decode cX4_change 77 = .ok (.iload_n 1, 1) := by decide +kernel
theorem dX4_change_78 : decode cX4_change 78 = .ok (.sipush 1024, 3) := by decide +kernel
theorem dX4_change_81 : decode cX4_change 81 = .ok (.irem, 1) := by decide +kernel
theorem dX4_change_82 : decode cX4_change 82 = .ok (.ireturn, 1) := by decide +kernel
theorem dX4_change_83 : decode cX4_change 83 = .ok (.aload_n 0, 1) := by decide +kernel
theorem dX4_change_84 : decode cX4_change 84 = .ok (.getfield 98, 3) := by decide +kernel
theorem dX4_change_87 : decode cX4_change 87 = .ok (.ireturn, 1) := by decide +kernel
theorem dX4_change_88 : decode cX4_change 88 = .ok (.aload_n 0, 1) := by decide +kernel
theorem dX4_change_89 : decode cX4_change 89 = .ok (.getfield 47, 3) := by decide +kernel
theorem dX4_change_92 : decode cX4_change 92 = .ok (.iconst 2, 1) := by decide +kernel
theorem dX4_change_93 : decode cX4_change 93 = .ok (.irem, 1) := by decide +kernel
theorem dX4_change_94 : decode cX4_change 94 = .ok (.ireturn, 1) := by decide +kernel
theorem dX4_change_95 : decode cX4_change 95 = .ok (.iconst 0, 1) := by decide +kernel
theorem dX4_change_96 : decode cX4_change 96 = .ok (.ireturn, 1) := by decide +kernel
theorem dX4_act_0 : decode cX4_act 0 = .ok (.aload_n 0, 1) := by decide +kernel
theorem dX4_act_1 : decode cX4_act 1 = .ok (.invokevirtual 101, 3) := by decide +kernel
theorem dX4_act_4 : decode cX4_act 4 = .ok (.istore_n 2, 1) := by decide +kernel
theorem dX4_act_5 : decode cX4_act 5 = .ok (.aload_n 0, 1) := by decide +kernel
theorem dX4_act_6 : decode cX4_act 6 = .ok (.invokevirtual 105, 3) := by decide +kernel
theorem dX4_act_9 : decode cX4_act 9 = .ok (.istore_n 3, 1) := by decide +kernel
theorem dX4_act_10 : decode cX4_act 10 = .ok (.aload_n 0, 1) := by decide +kernel
theorem dX4_act_11 : decode cX4_act 11 = .ok (.iload_n 3, 1) := by decide +kernel
theorem dX4_act_12 : decode cX4_act 12 = .ok (.invokevirtual 108, 3) := by decide +kernel
theorem dX4_act_15 : decode cX4_act 15 = .ok (.aload_n 0, 1) := by decide +kernel
theorem dX4_act_16 : decode cX4_act 16 = .ok (.iload_n 3, 1) := by decide +kernel
theorem dX4_act_17 : decode cX4_act 17 = .ok (.iload_n 2, 1) := by decide +kernel
theorem dX4_act_18 : decode cX4_act 18 = .ok (.invokevirtual 111, 3) := by decide +kernel
theorem dX4_act_21 : decode cX4_act 21 = .ok (.istore 4, 2) := by decide +kernel
theorem dX4_act_23 : decode cX4_act 23 = .ok (.aload_n 0, 1) := by decide +kernel
theorem dX4_act_24 : decode cX4_act 24 = .ok (.getfield 59, 3) := by decide +kernel
theorem dX4_act_27 : decode cX4_act 27 = .ok (.iconst 1, 1) := by decide +kernel
theorem dX4_act_28 : decode cX4_act 28 = .ok (.if_icmp .ne 20, 3) := by decide +kernel
theorem dX4_act_31 : decode cX4_act 31 = .ok (.aload_n 0, 1) := by decide +kernel
theorem dX4_act_32 : decode cX4_act 32 = .ok (.invokevirtual 62, 3) := by decide +kernel
theorem dX4_act_35 : decode cX4_act 35 = .ok (.ifCond .ne 13, 3) := by decide +kernel
theorem dX4_act_38 : decode cX4_act 38 = .ok (.aload_n 0, 1) := by decide +kernel
theorem dX4_act_39 : decode cX4_act 39 = .ok (.getfield 19, 3) := by decide +kernel
theorem dX4_act_42 : decode cX4_act 42 = .ok (.aload_n 0, 1) := by decide +kernel
theorem dX4_act_43 : decode cX4_act 43 = .ok (.getfield 69, 3) := by decide +kernel
theorem dX4_act_46 : decode cX4_act 46 = .ok (.iload_n 2, 1) := by decide +kernel
theorem dX4_act_47 : decode cX4_act 47 = .ok (.iastore, 1) := by decide +kernel
theorem dX4_act_48 : decode cX4_act 48 = .ok (.aload_n 0, 1) := by decide +kernel
theorem dX4_act_49 : decode cX4_act 49 = .ok (.getfield 53, 3) := by decide +kernel
theorem dX4_act_52 : decode cX4_act 52 = .ok (.bipush 6, 2) := by decide +kernel
theorem dX4_act_54 : decode cX4_act 54 = .ok (.if_icmp .ne 17, 3) := by decide +kernel
theorem dX4_act_57 : decode cX4_act 57 = .ok (.aload_n 0, 1) := by decide +kernel
theorem dX4_act_58 : decode cX4_act 58 = .ok (.getfield 16, 3) := by decide +kernel
theorem dX4_act_61 : decode cX4_act 61 = .ok (.aload_n 0, 1) := by decide +kernel
theorem dX4_act_62 : decode cX4_act 62 = .ok (.getfield 75, 3) := by decide +kernel
theorem dX4_act_65 : decode cX4_act 65 = .ok (.sipush 1024, 3) := by decide +kernel
theorem dX4_act_68 : decode cX4_act 68 = .ok (.irem, 1) := by decide +kernel
theorem dX4_act_69 : decode cX4_act 69 = .ok (.iload_n 3, 1) := by decide +kernel
theorem dX4_act_70 : decode cX4_act 70 = .ok (.iastore, 1) := by decide +kernel
theorem dX4_act_71 : decode cX4_act 71 = .ok (.iload_n 1, 1) := by decide +kernel
theorem dX4_act_72 : decode cX4_act 72 = .ok (.bipush 11, 2) := by decide +kernel
theorem dX4_act_74 : decode cX4_act 74 = .ok (.ishr, 1) := by decide +kernel
theorem dX4_act_75 : decode cX4_act 75 = .ok (.iconst 1, 1) := by decide +kernel
theorem dX4_act_76 : decode cX4_act 76 = .ok (.iand, 1) := by decide +kernel
theorem dX4_act_77 : decode cX4_act 77 = .ok (.iconst 1, 1) := by decide +kernel
theorem dX4_act_78 : decode cX4_act 78 = .ok (.if_icmp .ne 22, 3) := by decide +kernel
theorem dX4_act_81 : decode cX4_act 81 = .ok (.aload_n 0, 1) := by decide +kernel
theorem dX4_act_82 : decode cX4_act 82 = .ok (.aload_n 0, 1) := by decide +kernel
theorem dX4_act_83 : decode cX4_act 83 = .ok (.invokevirtual 115, 3) := by decide +kernel
theorem dX4_act_86 : decode cX4_act 86 = .ok (.ifCond .eq 10, 3) := by decide +kernel
theorem dX4_act_89 : decode cX4_act 89 = .ok (.aload_n 0, 1) := by decide +kernel
theorem dX4_act_90 : decode cX4_act 90 = .ok (.getfield 78, 3) := by decide +kernel
theorem dX4_act_93 : decode cX4_act 93 = .ok (.goto 4, 3) := by decide +kernel
theorem dX4_act_96 : decode cX4_act 96 = .ok (.iload_n 3, 1) := by decide +kernel
theorem dX4_act_97 : decode cX4_act 97 = .ok (.putfield 87, 3) := by decide +kernel
theorem dX4_act_100 : decode cX4_act 100 = .ok (.iload_n 1, 1) := by decide +kernel
theorem dX4_act_101 : decode cX4_act 101 = .ok (.bipush 10, 2) := by decide +kernel
theorem dX4_act_103 : decode cX4_act 103 = .ok (.ishr, 1) := by decide +kernel
theorem dX4_act_104 : decode cX4_act 104 = .ok (.iconst 1, 1) := by decide +kernel
theorem dX4_act_105 : decode cX4_act 105 = .ok (.iand, 1) := by decide +kernel
theorem dX4_act_106 : decode cX4_act 106 = .ok (.iconst 1, 1) := by decide +kernel
theorem dX4_act_107 : decode cX4_act 107 = .ok (.if_icmp .ne 19, 3) := by decide +kernel
theorem dX4_act_110 : decode cX4_act 110 = .ok (.aload_n 0, 1) := by decide +kernel
theorem dX4_act_111 : decode cX4_act 111 = .ok (.aload_n 0, 1) := by decide +kernel
theorem dX4_act_112 : decode cX4_act 112 = .ok (.getfield 78, 3) := by decide +kernel
theorem dX4_act_115 : decode cX4_act 115 = .ok (.putfield 66, 3) := by decide +kernel
theorem dX4_act_118 : decode cX4_act 118 = .ok (.aload_n 0, 1) := by decide +kernel
theorem dX4_act_119 : decode cX4_act 119 = .ok (.aload_n 0, 1) := by decide +kernel
theorem dX4_act_120 : decode cX4_act 120 = .ok (.getfield 81, 3) := by decide +kernel
theorem dX4_act_123 : decode cX4_act 123 = .ok (.putfield 98, 3) := by decide +kernel
theorem dX4_act_126 : decode cX4_act 126 = .ok (.aload_n 0, 1) := by decide +kernel
theorem dX4_act_127 : decode cX4_act 127 = .ok (.getfield 50, 3) := by decide +kernel
theorem dX4_act_130 : decode cX4_act 130 = .ok (.iconst 1, 1) := by decide +kernel
theorem dX4_act_131 : decode cX4_act 131 = .ok (.if_icmp .ne 19, 3) := by decide +kernel
theorem dX4_act_134 : decode cX4_act 134 = .ok (.aload_n 0, 1) := by decide +kernel
theorem dX4_act_135 : decode cX4_act 135 = .ok (.aload_n 0, 1) := by decide +kernel
theorem dX4_act_136 : decode cX4_act 136 = .ok (.getfield 78, 3) := by decide +kernel
theorem dX4_act_139 : decode cX4_act 139 = .ok (.putfield 75, 3) := by decide +kernel
theorem dX4_act_142 : decode cX4_act 142 = .ok (.aload_n 0, 1) := by decide +kernel
theorem dX4_act_143 : decode cX4_act 143 = .ok (.aload_n 0, 1) := by decide +kernel
theorem dX4_act_144 : decode cX4_act 144 = .ok (.getfield 56, 3) := by decide +kernel
theorem dX4_act_147 : decode cX4_act 147 = .ok (.putfield 35, 3) := by decide +kernel
theorem dX4_act_150 : decode cX4_act 150 = .ok (.aload_n 0, 1) := by decide +kernel
theorem dX4_act_151 : decode cX4_act 151 = .ok (.getfield 50, 3) := by decide +kernel
theorem dX4_act_154 : decode cX4_act 154 = .ok (.iconst 3, 1) := by decide +kernel
theorem dX4_act_155 : decode cX4_act 155 = .ok (.if_icmp .ne 20, 3) := by decide +kernel
theorem dX4_act_158 : decode cX4_act 158 = .ok (.aload_n 0, 1) := by decide +kernel
theorem dX4_act_159 : decode cX4_act 159 = .ok (.getfield 72, 3) := by decide +kernel
theorem dX4_act_162 : decode cX4_act 162 = .ok (.ifCond .le 13, 3) := by decide +kernel
theorem dX4_act_165 : decode cX4_act 165 = .ok (.aload_n 0, 1) := by decide +kernel
theorem dX4_act_166 : decode cX4_act 166 = .ok (.getfield 28, 3) := by decide +kernel
theorem dX4_act_169 : decode cX4_act 169 = .ok (.aload_n 0, 1) := by decide +kernel
theorem dX4_act_170 : decode cX4_act 170 = .ok (.getfield 72, 3) := by decide +kernel
theorem dX4_act_173 : decode cX4_act 173 = .ok (.iconst 0, 1) := by decide +kernel
theorem dX4_act_174 : decode cX4_act 174 = .ok (.bastore, 1) := by decide +kernel
theorem dX4_act_175 : decode cX4_act 175 = .ok (.aload_n 0, 1) := by decide +kernel
theorem dX4_act_176 : decode cX4_act 176 = .ok (.getfield 50, 3) := by decide +kernel
theorem dX4_act_179 : decode cX4_act 179 = .ok (.bipush 8, 2) := by decide +kernel
theorem dX4_act_181 : decode cX4_act 181 = .ok (.if_icmp .ne 33, 3) := by decide +kernel
theorem dX4_act_184 : decode cX4_act 184 = .ok (.aload_n 0, 1) := by decide +kernel
theorem dX4_act_185 : decode cX4_act 185 = .ok (.getfield 118, 3) := by decide +kernel
theorem dX4_act_188 : decode cX4_act 188 = .ok (.sipush 500, 3) := by decide +kernel
theorem dX4_act_191 : decode cX4_act 191 = .ok (.if_icmp .ge 13, 3) := by decide +kernel
theorem dX4_act_194 : decode cX4_act 194 = .ok (.aload_n 0, 1) := by decide +kernel
theorem dX4_act_195 : decode cX4_act 195 = .ok (.getfield 39, 3) := by decide +kernel
theorem dX4_act_198 : decode cX4_act 198 = .ok (.aload_n 0, 1) := by decide +kernel
theorem dX4_act_199 : decode cX4_act 199 = .ok (.getfield 118, 3) := by decide +kernel
theorem dX4_act_202 : decode cX4_act 202 = .ok (.iload_n 3, 1) := by decide +kernel
theorem dX4_act_203 : decode cX4_act 203 = .ok (.iastore, 1) := by decide +kernel
theorem dX4_act_204 : decode cX4_act 204 = .ok (.aload_n 0, 1) := by decide +kernel
theorem dX4_act_205 : decode cX4_act 205 = .ok (.dup, 1) := by decide +kernel
theorem dX4_act_206 : decode cX4_act 206 = .ok (.getfield 118, 3) := by decide +kernel
theorem dX4_act_209 : decode cX4_act 209 = .ok (.iconst 1, 1) := by decide +kernel
theorem dX4_act_210 : decode cX4_act 210 = .ok (.iadd, 1) := by decide +kernel
theorem dX4_act_211 : decode cX4_act 211 = .ok (.putfield 118, 3) := by decide +kernel
theorem dX4_act_214 : decode cX4_act 214 = .ok (.aload_n 0, 1) := by decide +kernel
theorem dX4_act_215 : decode cX4_act 215 = .ok (.getfield 22, 3) := by decide +kernel
theorem dX4_act_218 : decode cX4_act 218 = .ok (.aload_n 0, 1) := by decide +kernel
theorem dX4_act_219 : decode cX4_act 219 = .ok (.getfield 72, 3) := by decide +kernel
theorem dX4_act_222 : decode cX4_act 222 = .ok (.iload_n 1, 1) := by decide +kernel
theorem dX4_act_223 : decode cX4_act 223 = .ok (.sipush 1023, 3) := by decide +kernel
theorem dX4_act_226 : decode cX4_act 226 = .ok (.iand, 1) := by decide +kernel
theorem dX4_act_227 : decode cX4_act 227 = .ok (.aload_n 0, 1) := by decide +kernel
theorem dX4_act_228 : decode cX4_act 228 = .ok (.getfield 25, 3) := by decide +kernel
theorem dX4_act_231 : decode cX4_act 231 = .ok (.aload_n 0, 1) := by decide +kernel
theorem dX4_act_232 : decode cX4_act 232 = .ok (.getfield 72, 3) := by decide +kernel
theorem dX4_act_235 : decode cX4_act 235 = .ok (.iaload, 1) := by decide +kernel
theorem dX4_act_236 : decode cX4_act 236 = .ok (.ior, 1) := by decide +kernel
theorem dX4_act_237 : decode cX4_act 237 = .ok (.iastore, 1) := by decide +kernel
theorem dX4_act_238 : decode cX4_act 238 = .ok (.aload_n 0, 1) := by decide +kernel
theorem dX4_act_239 : decode cX4_act 239 = .ok (.getfield 25, 3) := by decide +kernel
theorem dX4_act_242 : decode cX4_act 242 = .ok (.aload_n 0, 1) := by decide +kernel
theorem dX4_act_243 : decode cX4_act 243 = .ok (.getfield 72, 3) := by decide +kernel
theorem dX4_act_246 : decode cX4_act 246 = .ok (.iload 4, 2) := by decide +kernel
theorem dX4_act_248 : decode cX4_act 248 = .ok (.iastore, 1) := by decide +kernel
theorem dX4_act_249 : decode cX4_act 249 = .ok (.aload_n 0, 1) := by decide +kernel
theorem dX4_act_250 : decode cX4_act 250 = .ok (.getfield 32, 3) := by decide +kernel
theorem dX4_act_253 : decode cX4_act 253 = .ok (.aload_n 0, 1) := by decide +kernel
theorem dX4_act_254 : decode cX4_act 254 = .ok (.getfield 72, 3) := by decide +kernel
theorem dX4_act_257 : decode cX4_act 257 = .ok (.dup2, 1) := by decide +kernel
theorem dX4_act_258 : decode cX4_act 258 = .ok (.iaload, 1) := by decide +kernel
theorem dX4_act_259 : decode cX4_act 259 = .ok (.iconst 1, 1) := by decide +kernel
theorem dX4_act_260 : decode cX4_act 260 = .ok (.iadd, 1) := by decide +kernel
theorem dX4_act_261 : decode cX4_act 261 = .ok (.iastore, 1) := by decide +kernel
theorem dX4_act_262 : decode cX4_act 262 = .ok (.return_, 1) := by decide +kernel
theorem dX4_give_0 : decode cX4_give 0 = .ok (.aload_n 0, 1) := by decide +kernel
theorem dX4_give_1 : decode cX4_give 1 = .ok (.getfield 121, 3) := by decide +kernel
theorem dX4_give_4 : decode cX4_give 4 = .ok (.istore_n 2, 1) := by decide +kernel
theorem dX4_give_5 : decode cX4_give 5 = .ok (.aload_n 0, 1) := by decide +kernel
theorem dX4_give_6 : decode cX4_give 6 = .ok (.iload_n 1, 1) := by decide +kernel
theorem dX4_give_7 : decode cX4_give 7 = .ok (.putfield 121, 3) := by decide +kernel
theorem dX4_give_10 : decode cX4_give 10 = .ok (.iload_n 2, 1) := by decide +kernel
theorem dX4_give_11 : decode cX4_give 11 = .ok (.ifCond .eq 51, 3) := by decide +kernel
theorem dX4_give_14 : decode cX4_give 14 = .ok (.bipush 15, 2) := by decide +kernel
theorem dX4_give_16 : decode cX4_give 16 = .ok (.istore_n 3, 1) := by decide +kernel
theorem dX4_give_17 : decode cX4_give 17 = .ok (.aload_n 0, 1) := by decide +kernel
theorem dX4_give_18 : decode cX4_give 18 = .ok (.getfield 28, 3) := by decide +kernel
theorem dX4_give_21 : decode cX4_give 21 = .ok (.iload_n 3, 1) := by decide +kernel
theorem dX4_give_22 : decode cX4_give 22 = .ok (.baload, 1) := by decide +kernel
theorem dX4_give_23 : decode cX4_give 23 = .ok (.ifCond .ne 9, 3) := by decide +kernel
theorem dX4_give_26 : decode cX4_give 26 = .ok (.iinc 3 (-1), 3) := by decide +kernel
theorem dX4_give_29 : decode cX4_give 29 = .ok (.goto (-12), 3) := by decide +kernel
theorem dX4_give_32 : decode cX4_give 32 = .ok (.aload_n 0, 1) := by decide +kernel
theorem dX4_give_33 : decode cX4_give 33 = .ok (.iload_n 3, 1) := by decide +kernel
theorem dX4_give_34 : decode cX4_give 34 = .ok (.aload_n 0, 1) := by decide +kernel
theorem dX4_give_35 : decode cX4_give 35 = .ok (.getfield 72, 3) := by decide +kernel
theorem dX4_give_38 : decode cX4_give 38 = .ok (.if_icmp .ne 10, 3) := by decide +kernel
theorem dX4_give_41 : decode cX4_give 41 = .ok (.aload_n 0, 1) := by decide +kernel
theorem dX4_give_42 : decode cX4_give 42 = .ok (.getfield 125, 3) := by decide +kernel
theorem dX4_give_45 : decode cX4_give 45 = .ok (.goto 9, 3) := by decide +kernel
theorem dX4_give_48 : decode cX4_give 48 = .ok (.aload_n 0, 1) := by decide +kernel
theorem dX4_give_49 : decode cX4_give 49 = .ok (.getfield 125, 3) := by decide +kernel
theorem dX4_give_52 : decode cX4_give 52 = .ok (.iconst 1, 1) := by decide +kernel
theorem dX4_give_53 : decode cX4_give 53 = .ok (.iadd, 1) := by decide +kernel
theorem dX4_give_54 : decode cX4_give 54 = .ok (.putfield 125, 3) := by decide +kernel
theorem dX4_give_57 : decode cX4_give 57 = .ok (.aload_n 0, 1) := by decide +kernel
theorem dX4_give_58 : decode cX4_give 58 = .ok (.iload_n 3, 1) := by decide +kernel
theorem dX4_give_59 : decode cX4_give 59 = .ok (.putfield 72, 3) := by decide +kernel
theorem dX4_give_62 : decode cX4_give 62 = .ok (.return_, 1) := by decide +kernel
theorem dX4_run_0 : decode cX4_run 0 = .ok (.iload_n 1, 1) := by decide +kernel
theorem dX4_run_1 : decode cX4_run 1 = .ok (.iconst 1, 1) := by decide +kernel
theorem dX4_run_2 : decode cX4_run 2 = .ok (.if_icmp .lt 10, 3) := by decide +kernel
theorem dX4_run_5 : decode cX4_run 5 = .ok (.iload_n 1, 1) := by decide +kernel
theorem dX4_run_6 : decode cX4_run 6 = .ok (.sipush 5000, 3) := by decide +kernel
theorem dX4_run_9 : decode cX4_run 9 = .ok (.if_icmp .le 5, 3) := by decide +kernel
theorem dX4_run_12 : decode cX4_run 12 = .ok (.iconst (-1), 1) := by decide +kernel
theorem dX4_run_13 : decode cX4_run 13 = .ok (.ireturn, 1) := by decide +kernel
theorem dX4_run_14 : decode cX4_run 14 = .ok (.iconst 0, 1) := by decide +kernel
theorem dX4_run_15 : decode cX4_run 15 = .ok (.istore_n 2, 1) := by decide +kernel
theorem dX4_run_16 : decode cX4_run 16 = .ok (.iconst 0, 1) := by decide +kernel
theorem dX4_run_17 : decode cX4_run 17 = .ok (.istore_n 3, 1) := by decide +kernel
theorem dX4_run_18 : decode cX4_run 18 = .ok (.iload_n 3, 1) := by decide +kernel
theorem dX4_run_19 : decode cX4_run 19 = .ok (.iload_n 1, 1) := by decide +kernel
theorem dX4_run_20 : decode cX4_run 20 = .ok (.if_icmp .ge 138, 3) := by decide +kernel
theorem dX4_run_23 : decode cX4_run 23 = .ok (.aload_n 0, 1) := by decide +kernel
theorem dX4_run_24 : decode cX4_run 24 = .ok (.getfield 7, 3) := by decide +kernel
theorem dX4_run_27 : decode cX4_run 27 = .ok (.aload_n 0, 1) := by decide +kernel
theorem dX4_run_28 : decode cX4_run 28 = .ok (.getfield 22, 3) := by decide +kernel
theorem dX4_run_31 : decode cX4_run 31 = .ok (.aload_n 0, 1) := by decide +kernel
theorem dX4_run_32 : decode cX4_run 32 = .ok (.getfield 72, 3) := by decide +kernel
theorem dX4_run_35 : decode cX4_run 35 = .ok (.iaload, 1) := by decide +kernel
theorem dX4_run_36 : decode cX4_run 36 = .ok (.iaload, 1) := by decide +kernel
theorem dX4_run_37 : decode cX4_run 37 = .ok (.istore 4, 2) := by decide +kernel
theorem dX4_run_39 : decode cX4_run 39 = .ok (.aload_n 0, 1) := by decide +kernel
theorem dX4_run_40 : decode cX4_run 40 = .ok (.iload 4, 2) := by decide +kernel
theorem dX4_run_42 : decode cX4_run 42 = .ok (.bipush 27, 2) := by decide +kernel
theorem dX4_run_44 : decode cX4_run 44 = .ok (.iushr, 1) := by decide +kernel
theorem dX4_run_45 : decode cX4_run 45 = .ok (.putfield 69, 3) := by decide +kernel
theorem dX4_run_48 : decode cX4_run 48 = .ok (.aload_n 0, 1) := by decide +kernel
theorem dX4_run_49 : decode cX4_run 49 = .ok (.iload 4, 2) := by decide +kernel
theorem dX4_run_51 : decode cX4_run 51 = .ok (.bipush 23, 2) := by decide +kernel
theorem dX4_run_53 : decode cX4_run 53 = .ok (.iushr, 1) := by decide +kernel
theorem dX4_run_54 : decode cX4_run 54 = .ok (.bipush 15, 2) := by decide +kernel
theorem dX4_run_56 : decode cX4_run 56 = .ok (.iand, 1) := by decide +kernel
theorem dX4_run_57 : decode cX4_run 57 = .ok (.putfield 84, 3) := by decide +kernel
theorem dX4_run_60 : decode cX4_run 60 = .ok (.aload_n 0, 1) := by decide +kernel
theorem dX4_run_61 : decode cX4_run 61 = .ok (.iload 4, 2) := by decide +kernel
theorem dX4_run_63 : decode cX4_run 63 = .ok (.bipush 20, 2) := by decide +kernel
theorem dX4_run_65 : decode cX4_run 65 = .ok (.iushr, 1) := by decide +kernel
theorem dX4_run_66 : decode cX4_run 66 = .ok (.bipush 7, 2) := by decide +kernel
theorem dX4_run_68 : decode cX4_run 68 = .ok (.iand, 1) := by decide +kernel
theorem dX4_run_69 : decode cX4_run 69 = .ok (.putfield 59, 3) := by decide +kernel
theorem dX4_run_72 : decode cX4_run 72 = .ok (.aload_n 0, 1) := by decide +kernel
theorem dX4_run_73 : decode cX4_run 73 = .ok (.iload 4, 2) := by decide +kernel
theorem dX4_run_75 : decode cX4_run 75 = .ok (.bipush 16, 2) := by decide +kernel
theorem dX4_run_77 : decode cX4_run 77 = .ok (.iushr, 1) := by decide +kernel
theorem dX4_run_78 : decode cX4_run 78 = .ok (.bipush 15, 2) := by decide +kernel
theorem dX4_run_80 : decode cX4_run 80 = .ok (.iand, 1) := by decide +kernel
theorem dX4_run_81 : decode cX4_run 81 = .ok (.putfield 50, 3) := by decide +kernel
theorem dX4_run_84 : decode cX4_run 84 = .ok (.aload_n 0, 1) := by decide +kernel
theorem dX4_run_85 : decode cX4_run 85 = .ok (.iload 4, 2) := by decide +kernel
theorem dX4_run_87 : decode cX4_run 87 = .ok (.bipush 12, 2) := by decide +kernel
theorem dX4_run_89 : decode cX4_run 89 = .ok (.iushr, 1) := by decide +kernel
theorem dX4_run_90 : decode cX4_run 90 = .ok (.bipush 15, 2) := by decide +kernel
theorem dX4_run_92 : decode cX4_run 92 = .ok (.iand, 1) := by decide +kernel
theorem dX4_run_93 : decode cX4_run 93 = .ok (.putfield 53, 3) := by decide +kernel
theorem dX4_run_96 : decode cX4_run 96 = .ok (.aload_n 0, 1) := by decide +kernel
theorem dX4_run_97 : decode cX4_run 97 = .ok (.invokevirtual 128, 3) := by decide +kernel
theorem dX4_run_100 : decode cX4_run 100 = .ok (.ifCond .eq 16, 3) := by decide +kernel
theorem dX4_run_103 : decode cX4_run 103 = .ok (.aload_n 0, 1) := by decide +kernel
theorem dX4_run_104 : decode cX4_run 104 = .ok (.dup, 1) := by decide +kernel
theorem dX4_run_105 : decode cX4_run 105 = .ok (.getfield 131, 3) := by decide +kernel
theorem dX4_run_108 : decode cX4_run 108 = .ok (.iconst 1, 1) := by decide +kernel
theorem dX4_run_109 : decode cX4_run 109 = .ok (.iadd, 1) := by decide +kernel
theorem dX4_run_110 : decode cX4_run 110 = .ok (.putfield 131, 3) := by decide +kernel
theorem dX4_run_113 : decode cX4_run 113 = .ok (.goto 29, 3) := by decide +kernel
theorem dX4_run_116 : decode cX4_run 116 = .ok (.iinc 2 1, 3) := by decide +kernel
theorem dX4_run_119 : decode cX4_run 119 = .ok (.aload_n 0, 1) := by decide +kernel
theorem dX4_run_120 : decode cX4_run 120 = .ok (.iload 4, 2) := by decide +kernel
theorem dX4_run_122 : decode cX4_run 122 = .ok (.invokevirtual 134, 3) := by decide +kernel
theorem dX4_run_125 : decode cX4_run 125 = .ok (.aload_n 0, 1) := by decide +kernel
theorem dX4_run_126 : decode cX4_run 126 = .ok (.aload_n 0, 1) := by decide +kernel
theorem dX4_run_127 : decode cX4_run 127 = .ok (.getfield 50, 3) := by decide +kernel
theorem dX4_run_130 : decode cX4_run 130 = .ok (.iconst 2, 1) := by decide +kernel
theorem dX4_run_131 : decode cX4_run 131 = .ok (.if_icmp .ne 7, 3) := by decide +kernel
theorem dX4_run_134 : decode cX4_run 134 = .ok (.iconst 1, 1) := by decide +kernel
theorem dX4_run_135 : decode cX4_run 135 = .ok (.goto 4, 3) := by decide +kernel
theorem dX4_run_138 : decode cX4_run 138 = .ok (.iconst 0, 1) := by decide +kernel
theorem dX4_run_139 : decode cX4_run 139 = .ok (.invokevirtual 137, 3) := by decide +kernel
theorem dX4_run_142 : decode cX4_run 142 = .ok (.aload_n 0, 1) := by decide +kernel
theorem dX4_run_143 : decode cX4_run 143 = .ok (.dup, 1) := by decide +kernel
theorem dX4_run_144 : decode cX4_run 144 = .ok (.getfield 56, 3) := by decide +kernel
theorem dX4_run_147 : decode cX4_run 147 = .ok (.iconst 1, 1) := by decide +kernel
theorem dX4_run_148 : decode cX4_run 148 = .ok (.iadd, 1) := by decide +kernel
theorem dX4_run_149 : decode cX4_run 149 = .ok (.putfield 56, 3) := by decide +kernel
theorem dX4_run_152 : decode cX4_run 152 = .ok (.iinc 3 1, 3) := by decide +kernel
theorem dX4_run_155 : decode cX4_run 155 = .ok (.goto (-137), 3) := by decide +kernel
theorem dX4_run_158 : decode cX4_run 158 = .ok (.iload_n 2, 1) := by decide +kernel
theorem dX4_run_159 : decode cX4_run 159 = .ok (.ireturn, 1) := by decide +kernel
theorem dX4_register_0 : decode cX4_register 0 = .ok (.iload_n 1, 1) := by decide +kernel
theorem dX4_register_1 : decode cX4_register 1 = .ok (.bipush 31, 2) := by decide +kernel
theorem dX4_register_3 : decode cX4_register 3 = .ok (.invokestatic 42, 3) := by decide +kernel
theorem dX4_register_6 : decode cX4_register 6 = .ok (.ifCond .eq 12, 3) := by decide +kernel
theorem dX4_register_9 : decode cX4_register 9 = .ok (.aload_n 0, 1) := by decide +kernel
theorem dX4_register_10 : decode cX4_register 10 = .ok (.getfield 19, 3) := by decide +kernel
theorem dX4_register_13 : decode cX4_register 13 = .ok (.iload_n 1, 1) := by decide +kernel
theorem dX4_register_14 : decode cX4_register 14 = .ok (.iaload, 1) := by decide +kernel
theorem dX4_register_15 : decode cX4_register 15 = .ok (.goto 56, 3) := by decide +kernel
theorem dX4_register_18 : decode cX4_register 18 = .ok (.iload_n 1, 1) := by decide +kernel
theorem dX4_register_19 : decode cX4_register 19 = .ok (.bipush 32, 2) := by decide +kernel
theorem dX4_register_21 : decode cX4_register 21 = .ok (.if_icmp .ne 10, 3) := by decide +kernel
theorem dX4_register_24 : decode cX4_register 24 = .ok (.aload_n 0, 1) := by decide +kernel
theorem dX4_register_25 : decode cX4_register 25 = .ok (.getfield 87, 3) := by decide +kernel
theorem dX4_register_28 : decode cX4_register 28 = .ok (.goto 43, 3) := by decide +kernel
theorem dX4_register_31 : decode cX4_register 31 = .ok (.iload_n 1, 1) := by decide +kernel
theorem dX4_register_32 : decode cX4_register 32 = .ok (.bipush 33, 2) := by decide +kernel
theorem dX4_register_34 : decode cX4_register 34 = .ok (.if_icmp .ne 10, 3) := by decide +kernel
theorem dX4_register_37 : decode cX4_register 37 = .ok (.aload_n 0, 1) := by decide +kernel
theorem dX4_register_38 : decode cX4_register 38 = .ok (.getfield 66, 3) := by decide +kernel
theorem dX4_register_41 : decode cX4_register 41 = .ok (.goto 30, 3) := by decide +kernel
theorem dX4_register_44 : decode cX4_register 44 = .ok (.iload_n 1, 1) := by decide +kernel
theorem dX4_register_45 : decode cX4_register 45 = .ok (.bipush 34, 2) := by decide +kernel
theorem dX4_register_47 : decode cX4_register 47 = .ok (.if_icmp .ne 10, 3) := by decide +kernel
theorem dX4_register_50 : decode cX4_register 50 = .ok (.aload_n 0, 1) := by decide +kernel
theorem dX4_register_51 : decode cX4_register 51 = .ok (.getfield 98, 3) := by decide +kernel
theorem dX4_register_54 : decode cX4_register 54 = .ok (.goto 17, 3) := by decide +kernel
theorem dX4_register_57 : decode cX4_register 57 = .ok (.iload_n 1, 1) := by decide +kernel
theorem dX4_register_58 : decode cX4_register 58 = .ok (.bipush 35, 2) := by decide +kernel
theorem dX4_register_60 : decode cX4_register 60 = .ok (.if_icmp .ne 10, 3) := by decide +kernel
theorem dX4_register_63 : decode cX4_register 63 = .ok (.aload_n 0, 1) := by decide +kernel
theorem dX4_register_64 : decode cX4_register 64 = .ok (.getfield 75, 3) := by decide +kernel
theorem dX4_register_67 : decode cX4_register 67 = .ok (.goto 4, 3) := by decide +kernel
theorem dX4_register_70 : decode cX4_register 70 = .ok (.iconst (-1), 1) := by decide +kernel
theorem dX4_register_71 : decode cX4_register 71 = .ok (.ireturn, 1) := by decide +kernel
theorem dX4_peek_0 : decode cX4_peek 0 = .ok (.iload_n 1, 1) := by decide +kernel
theorem dX4_peek_1 : decode cX4_peek 1 = .ok (.sipush 1023, 3) := by decide +kernel
theorem dX4_peek_4 : decode cX4_peek 4 = .ok (.invokestatic 42, 3) := by decide +kernel
theorem dX4_peek_7 : decode cX4_peek 7 = .ok (.ifCond .eq 12, 3) := by decide +kernel
theorem dX4_peek_10 : decode cX4_peek 10 = .ok (.aload_n 0, 1) := by decide +kernel
theorem dX4_peek_11 : decode cX4_peek 11 = .ok (.getfield 16, 3) := by decide +kernel
theorem dX4_peek_14 : decode cX4_peek 14 = .ok (.iload_n 1, 1) := by decide +kernel
theorem dX4_peek_15 : decode cX4_peek 15 = .ok (.iaload, 1) := by decide +kernel
theorem dX4_peek_16 : decode cX4_peek 16 = .ok (.goto 4, 3) := by decide +kernel
theorem dX4_peek_19 : decode cX4_peek 19 = .ok (.iconst (-1), 1) := by decide +kernel
theorem dX4_peek_20 : decode cX4_peek 20 = .ok (.ireturn, 1) := by decide +kernel
theorem dX4_task_0 : decode cX4_task 0 = .ok (.iload_n 1, 1) := by decide +kernel
theorem dX4_task_1 : decode cX4_task 1 = .ok (.bipush 15, 2) := by decide +kernel
theorem dX4_task_3 : decode cX4_task 3 = .ok (.invokestatic 42, 3) := by decide +kernel
theorem dX4_task_6 : decode cX4_task 6 = .ok (.ifCond .eq 11, 3) := by decide +kernel
theorem dX4_task_9 : decode cX4_task 9 = .ok (.iload_n 2, 1) := by decide +kernel
theorem dX4_task_10 : decode cX4_task 10 = .ok (.iconst 3, 1) := by decide +kernel
theorem dX4_task_11 : decode cX4_task 11 = .ok (.invokestatic 42, 3) := by decide +kernel
theorem dX4_task_14 : decode cX4_task 14 = .ok (.ifCond .ne 5, 3) := by decide +kernel
theorem dX4_task_17 : decode cX4_task 17 = .ok (.iconst (-1), 1) := by decide +kernel
theorem dX4_task_18 : decode cX4_task 18 = .ok (.ireturn, 1) := by decide +kernel
theorem dX4_task_19 : decode cX4_task 19 = .ok (.iload_n 2, 1) := by decide +kernel
theorem dX4_task_20 : decode cX4_task 20 = .ok (.ifCond .ne 12, 3) := by decide +kernel
theorem dX4_task_23 : decode cX4_task 23 = .ok (.aload_n 0, 1) := by decide +kernel
theorem dX4_task_24 : decode cX4_task 24 = .ok (.getfield 22, 3) := by decide +kernel
theorem dX4_task_27 : decode cX4_task 27 = .ok (.iload_n 1, 1) := by decide +kernel
theorem dX4_task_28 : decode cX4_task 28 = .ok (.iaload, 1) := by decide +kernel
theorem dX4_task_29 : decode cX4_task 29 = .ok (.goto 45, 3) := by decide +kernel
theorem dX4_task_32 : decode cX4_task 32 = .ok (.iload_n 2, 1) := by decide +kernel
theorem dX4_task_33 : decode cX4_task 33 = .ok (.iconst 1, 1) := by decide +kernel
theorem dX4_task_34 : decode cX4_task 34 = .ok (.if_icmp .ne 12, 3) := by decide +kernel
theorem dX4_task_37 : decode cX4_task 37 = .ok (.aload_n 0, 1) := by decide +kernel
theorem dX4_task_38 : decode cX4_task 38 = .ok (.getfield 25, 3) := by decide +kernel
theorem dX4_task_41 : decode cX4_task 41 = .ok (.iload_n 1, 1) := by decide +kernel
theorem dX4_task_42 : decode cX4_task 42 = .ok (.iaload, 1) := by decide +kernel
theorem dX4_task_43 : decode cX4_task 43 = .ok (.goto 31, 3) := by decide +kernel
theorem dX4_task_46 : decode cX4_task 46 = .ok (.iload_n 2, 1) := by decide +kernel
theorem dX4_task_47 : decode cX4_task 47 = .ok (.iconst 2, 1) := by decide +kernel
theorem dX4_task_48 : decode cX4_task 48 = .ok (.if_icmp .ne 20, 3) := by decide +kernel
theorem dX4_task_51 : decode cX4_task 51 = .ok (.aload_n 0, 1) := by decide +kernel
theorem dX4_task_52 : decode cX4_task 52 = .ok (.getfield 28, 3) := by decide +kernel
theorem dX4_task_55 : decode cX4_task 55 = .ok (.iload_n 1, 1) := by decide +kernel
theorem dX4_task_56 : decode cX4_task 56 = .ok (.baload, 1) := by decide +kernel
theorem dX4_task_57 : decode cX4_task 57 = .ok (.ifCond .eq 7, 3) := by decide +kernel
theorem dX4_task_60 : decode cX4_task 60 = .ok (.iconst 1, 1) := by decide +kernel
theorem dX4_task_61 : decode cX4_task 61 = .ok (.goto 13, 3) := by decide +kernel
theorem dX4_task_64 : decode cX4_task 64 = .ok (.iconst 0, 1) := by decide +kernel
theorem dX4_task_65 : decode cX4_task 65 = .ok (.goto 9, 3) := by decide +kernel
theorem dX4_task_68 : decode cX4_task 68 = .ok (.aload_n 0, 1) := by decide +kernel
theorem dX4_task_69 : decode cX4_task 69 = .ok (.getfield 32, 3) := by decide +kernel
theorem dX4_task_72 : decode cX4_task 72 = .ok (.iload_n 1, 1) := by decide +kernel
theorem dX4_task_73 : decode cX4_task 73 = .ok (.iaload, 1) := by decide +kernel
theorem dX4_task_74 : decode cX4_task 74 = .ok (.ireturn, 1) := by decide +kernel
theorem dX4_now_0 : decode cX4_now 0 = .ok (.aload_n 0, 1) := by decide +kernel
theorem dX4_now_1 : decode cX4_now 1 = .ok (.getfield 72, 3) := by decide +kernel
theorem dX4_now_4 : decode cX4_now 4 = .ok (.ireturn, 1) := by decide +kernel
theorem dX4_out_0 : decode cX4_out 0 = .ok (.iload_n 1, 1) := by decide +kernel
theorem dX4_out_1 : decode cX4_out 1 = .ok (.ifCond .lt 27, 3) := by decide +kernel
theorem dX4_out_4 : decode cX4_out 4 = .ok (.iload_n 1, 1) := by decide +kernel
theorem dX4_out_5 : decode cX4_out 5 = .ok (.aload_n 0, 1) := by decide +kernel
theorem dX4_out_6 : decode cX4_out 6 = .ok (.getfield 118, 3) := by decide +kernel
theorem dX4_out_9 : decode cX4_out 9 = .ok (.if_icmp .ge 19, 3) := by decide +kernel
theorem dX4_out_12 : decode cX4_out 12 = .ok (.iload_n 1, 1) := by decide +kernel
theorem dX4_out_13 : decode cX4_out 13 = .ok (.sipush 500, 3) := by decide +kernel
theorem dX4_out_16 : decode cX4_out 16 = .ok (.if_icmp .ge 12, 3) := by decide +kernel
theorem dX4_out_19 : decode cX4_out 19 = .ok (.aload_n 0, 1) := by decide +kernel
theorem dX4_out_20 : decode cX4_out 20 = .ok (.getfield 39, 3) := by decide +kernel
theorem dX4_out_23 : decode cX4_out 23 = .ok (.iload_n 1, 1) := by decide +kernel
theorem dX4_out_24 : decode cX4_out 24 = .ok (.iaload, 1) := by decide +kernel
theorem dX4_out_25 : decode cX4_out 25 = .ok (.goto 4, 3) := by decide +kernel
theorem dX4_out_28 : decode cX4_out 28 = .ok (.iconst (-1), 1) := by decide +kernel
theorem dX4_out_29 : decode cX4_out 29 = .ok (.ireturn, 1) := by decide +kernel
theorem dX4_count_0 : decode cX4_count 0 = .ok (.iload_n 1, 1) := by decide +kernel
theorem dX4_count_1 : decode cX4_count 1 = .ok (.tableswitch 51 0 3 #[31, 36, 41, 46], 31) := by decide +kernel
theorem dX4_count_32 : decode cX4_count 32 = .ok (.aload_n 0, 1) := by decide +kernel
theorem dX4_count_33 : decode cX4_count 33 = .ok (.getfield 56, 3) := by decide +kernel
theorem dX4_count_36 : decode cX4_count 36 = .ok (.ireturn, 1) := by decide +kernel
theorem dX4_count_37 : decode cX4_count 37 = .ok (.aload_n 0, 1) := by decide +kernel
theorem dX4_count_38 : decode cX4_count 38 = .ok (.getfield 131, 3) := by decide +kernel
theorem dX4_count_41 : decode cX4_count 41 = .ok (.ireturn, 1) := by decide +kernel
theorem dX4_count_42 : decode cX4_count 42 = .ok (.aload_n 0, 1) := by decide +kernel
theorem dX4_count_43 : decode cX4_count 43 = .ok (.getfield 118, 3) := by decide +kernel
theorem dX4_count_46 : decode cX4_count 46 = .ok (.ireturn, 1) := by decide +kernel
theorem dX4_count_47 : decode cX4_count 47 = .ok (.aload_n 0, 1) := by decide +kernel
theorem dX4_count_48 : decode cX4_count 48 = .ok (.getfield 125, 3) := by decide +kernel
theorem dX4_count_51 : decode cX4_count 51 = .ok (.ireturn, 1) := by decide +kernel
theorem dX4_count_52 : decode cX4_count 52 = .ok (.iconst (-1), 1) := by decide +kernel
theorem dX4_count_53 : decode cX4_count 53 = .ok (.ireturn, 1) := by decide +kernel
end
