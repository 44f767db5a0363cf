/-! decode rows -/
theorem d_Signs_init_0 : decode b_Signs_init 0 = .ok (.aload_n 0, 1) := by decide +kernel
theorem d_Signs_init_1 : decode b_Signs_init 1 = .ok (.invokespecial 3, 3) := by decide +kernel
theorem d_Signs_init_4 : decode b_Signs_init 4 = .ok (.aload_n 0, 1) := by decide +kernel
theorem d_Signs_init_5 : decode b_Signs_init 5 = .ok (.iload_n 1, 1) := by decide +kernel
theorem d_Signs_init_6 : decode b_Signs_init 6 = .ok (.newarray .char, 2) := by decide +kernel
theorem d_Signs_init_8 : decode b_Signs_init 8 = .ok (.putfield 9, 3) := by decide +kernel
theorem d_Signs_init_11 : decode b_Signs_init 11 = .ok (.aload_n 0, 1) := by decide +kernel
theorem d_Signs_init_12 : decode b_Signs_init 12 = .ok (.iconst 0, 1) := by decide +kernel
theorem d_Signs_init_13 : decode b_Signs_init 13 = .ok (.putfield 15, 3) := by decide +kernel
theorem d_Signs_init_16 : decode b_Signs_init 16 = .ok (.return_, 1) := by decide +kernel
theorem d_Signs_hasRoomFor_0 : decode b_Signs_hasRoomFor 0 = .ok (.iload_n 1, 1) := by decide +kernel
theorem d_Signs_hasRoomFor_1 : decode b_Signs_hasRoomFor 1 = .ok (.aload_n 0, 1) := by decide +kernel
theorem d_Signs_hasRoomFor_2 : decode b_Signs_hasRoomFor 2 = .ok (.getfield 9, 3) := by decide +kernel
theorem d_Signs_hasRoomFor_5 : decode b_Signs_hasRoomFor 5 = .ok (.arraylength, 1) := by decide +kernel
theorem d_Signs_hasRoomFor_6 : decode b_Signs_hasRoomFor 6 = .ok (.aload_n 0, 1) := by decide +kernel
theorem d_Signs_hasRoomFor_7 : decode b_Signs_hasRoomFor 7 = .ok (.getfield 15, 3) := by decide +kernel
theorem d_Signs_hasRoomFor_10 : decode b_Signs_hasRoomFor 10 = .ok (.isub, 1) := by decide +kernel
theorem d_Signs_hasRoomFor_11 : decode b_Signs_hasRoomFor 11 = .ok (.if_icmp .gt 7, 3) := by decide +kernel
theorem d_Signs_hasRoomFor_14 : decode b_Signs_hasRoomFor 14 = .ok (.iconst 1, 1) := by decide +kernel
theorem d_Signs_hasRoomFor_15 : decode b_Signs_hasRoomFor 15 = .ok (.goto 4, 3) := by decide +kernel
theorem d_Signs_hasRoomFor_18 : decode b_Signs_hasRoomFor 18 = .ok (.iconst 0, 1) := by decide +kernel
theorem d_Signs_hasRoomFor_19 : decode b_Signs_hasRoomFor 19 = .ok (.ireturn, 1) := by decide +kernel
theorem d_Signs_append_0 : decode b_Signs_append 0 = .ok (.aload_n 0, 1) := by decide +kernel
theorem d_Signs_append_1 : decode b_Signs_append 1 = .ok (.getfield 15, 3) := by decide +kernel
theorem d_Signs_append_4 : decode b_Signs_append 4 = .ok (.aload_n 0, 1) := by decide +kernel
theorem d_Signs_append_5 : decode b_Signs_append 5 = .ok (.getfield 9, 3) := by decide +kernel
theorem d_Signs_append_8 : decode b_Signs_append 8 = .ok (.arraylength, 1) := by decide +kernel
theorem d_Signs_append_9 : decode b_Signs_append 9 = .ok (.if_icmp .ge 23, 3) := by decide +kernel
theorem d_Signs_append_12 : decode b_Signs_append 12 = .ok (.aload_n 0, 1) := by decide +kernel
theorem d_Signs_append_13 : decode b_Signs_append 13 = .ok (.getfield 9, 3) := by decide +kernel
theorem d_Signs_append_16 : decode b_Signs_append 16 = .ok (.aload_n 0, 1) := by decide +kernel
theorem d_Signs_append_17 : decode b_Signs_append 17 = .ok (.getfield 15, 3) := by decide +kernel
theorem d_Signs_append_20 : decode b_Signs_append 20 = .ok (.iload_n 1, 1) := by decide +kernel
theorem d_Signs_append_21 : decode b_Signs_append 21 = .ok (.castore, 1) := by decide +kernel
theorem d_Signs_append_22 : decode b_Signs_append 22 = .ok (.aload_n 0, 1) := by decide +kernel
theorem d_Signs_append_23 : decode b_Signs_append 23 = .ok (.dup, 1) := by decide +kernel
theorem d_Signs_append_24 : decode b_Signs_append 24 = .ok (.getfield 15, 3) := by decide +kernel
theorem d_Signs_append_27 : decode b_Signs_append 27 = .ok (.iconst 1, 1) := by decide +kernel
theorem d_Signs_append_28 : decode b_Signs_append 28 = .ok (.iadd, 1) := by decide +kernel
theorem d_Signs_append_29 : decode b_Signs_append 29 = .ok (.putfield 15, 3) := by decide +kernel
theorem d_Signs_append_32 : decode b_Signs_append 32 = .ok (.return_, 1) := by decide +kernel
theorem d_Signs_length_0 : decode b_Signs_length 0 = .ok (.aload_n 0, 1) := by decide +kernel
theorem d_Signs_length_1 : decode b_Signs_length 1 = .ok (.getfield 15, 3) := by decide +kernel
theorem d_Signs_length_4 : decode b_Signs_length 4 = .ok (.ireturn, 1) := by decide +kernel
theorem d_Signs_takeAll_0 : decode b_Signs_takeAll 0 = .ok (.aload_n 0, 1) := by decide +kernel
theorem d_Signs_takeAll_1 : decode b_Signs_takeAll 1 = .ok (.getfield 15, 3) := by decide +kernel
theorem d_Signs_takeAll_4 : decode b_Signs_takeAll 4 = .ok (.istore_n 1, 1) := by decide +kernel
theorem d_Signs_takeAll_5 : decode b_Signs_takeAll 5 = .ok (.aload_n 0, 1) := by decide +kernel
theorem d_Signs_takeAll_6 : decode b_Signs_takeAll 6 = .ok (.iconst 0, 1) := by decide +kernel
theorem d_Signs_takeAll_7 : decode b_Signs_takeAll 7 = .ok (.putfield 15, 3) := by decide +kernel
theorem d_Signs_takeAll_10 : decode b_Signs_takeAll 10 = .ok (.iload_n 1, 1) := by decide +kernel
theorem d_Signs_takeAll_11 : decode b_Signs_takeAll 11 = .ok (.ireturn, 1) := by decide +kernel
theorem d_Signs_at_0 : decode b_Signs_at 0 = .ok (.iload_n 1, 1) := by decide +kernel
theorem d_Signs_at_1 : decode b_Signs_at 1 = .ok (.ifCond .lt 20, 3) := by decide +kernel
theorem d_Signs_at_4 : decode b_Signs_at 4 = .ok (.iload_n 1, 1) := by decide +kernel
theorem d_Signs_at_5 : decode b_Signs_at 5 = .ok (.aload_n 0, 1) := by decide +kernel
theorem d_Signs_at_6 : decode b_Signs_at 6 = .ok (.getfield 15, 3) := by decide +kernel
theorem d_Signs_at_9 : decode b_Signs_at 9 = .ok (.if_icmp .ge 12, 3) := by decide +kernel
theorem d_Signs_at_12 : decode b_Signs_at 12 = .ok (.aload_n 0, 1) := by decide +kernel
theorem d_Signs_at_13 : decode b_Signs_at 13 = .ok (.getfield 9, 3) := by decide +kernel
theorem d_Signs_at_16 : decode b_Signs_at 16 = .ok (.iload_n 1, 1) := by decide +kernel
theorem d_Signs_at_17 : decode b_Signs_at 17 = .ok (.caload, 1) := by decide +kernel
theorem d_Signs_at_18 : decode b_Signs_at 18 = .ok (.goto 4, 3) := by decide +kernel
theorem d_Signs_at_21 : decode b_Signs_at 21 = .ok (.iconst (-1), 1) := by decide +kernel
theorem d_Signs_at_22 : decode b_Signs_at 22 = .ok (.ireturn, 1) := by decide +kernel
theorem d_Signs_find_0 : decode b_Signs_find 0 = .ok (.iload_n 2, 1) := by decide +kernel
theorem d_Signs_find_1 : decode b_Signs_find 1 = .ok (.istore 4, 2) := by decide +kernel
theorem d_Signs_find_3 : decode b_Signs_find 3 = .ok (.iload 4, 2) := by decide +kernel
theorem d_Signs_find_5 : decode b_Signs_find 5 = .ok (.iload_n 3, 1) := by decide +kernel
theorem d_Signs_find_6 : decode b_Signs_find 6 = .ok (.if_icmp .ge 22, 3) := by decide +kernel
theorem d_Signs_find_9 : decode b_Signs_find 9 = .ok (.aload_n 0, 1) := by decide +kernel
theorem d_Signs_find_10 : decode b_Signs_find 10 = .ok (.iload 4, 2) := by decide +kernel
theorem d_Signs_find_12 : decode b_Signs_find 12 = .ok (.invokevirtual 26, 3) := by decide +kernel
theorem d_Signs_find_15 : decode b_Signs_find 15 = .ok (.iload_n 1, 1) := by decide +kernel
theorem d_Signs_find_16 : decode b_Signs_find 16 = .ok (.if_icmp .ne 6, 3) := by decide +kernel
theorem d_Signs_find_19 : decode b_Signs_find 19 = .ok (.iload 4, 2) := by decide +kernel
theorem d_Signs_find_21 : decode b_Signs_find 21 = .ok (.ireturn, 1) := by decide +kernel
theorem d_Signs_find_22 : decode b_Signs_find 22 = .ok (.iinc 4 1, 3) := by decide +kernel
theorem d_Signs_find_25 : decode b_Signs_find 25 = .ok (.goto (-22), 3) := by decide +kernel
theorem d_Signs_find_28 : decode b_Signs_find 28 = .ok (.iload_n 3, 1) := by decide +kernel
theorem d_Signs_find_29 : decode b_Signs_find 29 = .ok (.ireturn, 1) := by decide +kernel
theorem d_PieceReader_readLimit_0 : decode b_PieceReader_readLimit 0 = .ok (.aload_n 0, 1) := by decide +kernel
theorem d_PieceReader_readLimit_1 : decode b_PieceReader_readLimit 1 = .ok (.aload_n 0, 1) := by decide +kernel
theorem d_PieceReader_readLimit_2 : decode b_PieceReader_readLimit 2 = .ok (.iload_n 1, 1) := by decide +kernel
theorem d_PieceReader_readLimit_3 : decode b_PieceReader_readLimit 3 = .ok (.invokevirtual 76, 3) := by decide +kernel
theorem d_PieceReader_readLimit_6 : decode b_PieceReader_readLimit 6 = .ok (.putfield 37, 3) := by decide +kernel
theorem d_PieceReader_readLimit_9 : decode b_PieceReader_readLimit 9 = .ok (.aload_n 0, 1) := by decide +kernel
theorem d_PieceReader_readLimit_10 : decode b_PieceReader_readLimit 10 = .ok (.getfield 37, 3) := by decide +kernel
theorem d_PieceReader_readLimit_13 : decode b_PieceReader_readLimit 13 = .ok (.bipush (-2), 2) := by decide +kernel
theorem d_PieceReader_readLimit_15 : decode b_PieceReader_readLimit 15 = .ok (.if_icmp .eq 17, 3) := by decide +kernel
theorem d_PieceReader_readLimit_18 : decode b_PieceReader_readLimit 18 = .ok (.aload_n 0, 1) := by decide +kernel
theorem d_PieceReader_readLimit_19 : decode b_PieceReader_readLimit 19 = .ok (.iload_n 1, 1) := by decide +kernel
theorem d_PieceReader_readLimit_20 : decode b_PieceReader_readLimit 20 = .ok (.iconst 1, 1) := by decide +kernel
theorem d_PieceReader_readLimit_21 : decode b_PieceReader_readLimit 21 = .ok (.iadd, 1) := by decide +kernel
theorem d_PieceReader_readLimit_22 : decode b_PieceReader_readLimit 22 = .ok (.invokevirtual 79, 3) := by decide +kernel
theorem d_PieceReader_readLimit_25 : decode b_PieceReader_readLimit 25 = .ok (.ifCond .eq 7, 3) := by decide +kernel
theorem d_PieceReader_readLimit_28 : decode b_PieceReader_readLimit 28 = .ok (.iconst 1, 1) := by decide +kernel
theorem d_PieceReader_readLimit_29 : decode b_PieceReader_readLimit 29 = .ok (.goto 4, 3) := by decide +kernel
theorem d_PieceReader_readLimit_32 : decode b_PieceReader_readLimit 32 = .ok (.iconst 0, 1) := by decide +kernel
theorem d_PieceReader_readLimit_33 : decode b_PieceReader_readLimit 33 = .ok (.ireturn, 1) := by decide +kernel
theorem d_PieceReader_limitNamed_0 : decode b_PieceReader_limitNamed 0 = .ok (.aload_n 0, 1) := by decide +kernel
theorem d_PieceReader_limitNamed_1 : decode b_PieceReader_limitNamed 1 = .ok (.getfield 9, 3) := by decide +kernel
theorem d_PieceReader_limitNamed_4 : decode b_PieceReader_limitNamed 4 = .ok (.ldc 82, 2) := by decide +kernel
theorem d_PieceReader_limitNamed_6 : decode b_PieceReader_limitNamed 6 = .ok (.aload_n 0, 1) := by decide +kernel
theorem d_PieceReader_limitNamed_7 : decode b_PieceReader_limitNamed 7 = .ok (.getfield 61, 3) := by decide +kernel
theorem d_PieceReader_limitNamed_10 : decode b_PieceReader_limitNamed 10 = .ok (.iload_n 1, 1) := by decide +kernel
theorem d_PieceReader_limitNamed_11 : decode b_PieceReader_limitNamed 11 = .ok (.invokevirtual 84, 3) := by decide +kernel
theorem d_PieceReader_limitNamed_14 : decode b_PieceReader_limitNamed 14 = .ok (.ifCond .eq 5, 3) := by decide +kernel
theorem d_PieceReader_limitNamed_17 : decode b_PieceReader_limitNamed 17 = .ok (.iconst 0, 1) := by decide +kernel
theorem d_PieceReader_limitNamed_18 : decode b_PieceReader_limitNamed 18 = .ok (.ireturn, 1) := by decide +kernel
theorem d_PieceReader_limitNamed_19 : decode b_PieceReader_limitNamed 19 = .ok (.aload_n 0, 1) := by decide +kernel
theorem d_PieceReader_limitNamed_20 : decode b_PieceReader_limitNamed 20 = .ok (.getfield 9, 3) := by decide +kernel
theorem d_PieceReader_limitNamed_23 : decode b_PieceReader_limitNamed 23 = .ok (.ldc 88, 2) := by decide +kernel
theorem d_PieceReader_limitNamed_25 : decode b_PieceReader_limitNamed 25 = .ok (.aload_n 0, 1) := by decide +kernel
theorem d_PieceReader_limitNamed_26 : decode b_PieceReader_limitNamed 26 = .ok (.getfield 61, 3) := by decide +kernel
theorem d_PieceReader_limitNamed_29 : decode b_PieceReader_limitNamed 29 = .ok (.iload_n 1, 1) := by decide +kernel
theorem d_PieceReader_limitNamed_30 : decode b_PieceReader_limitNamed 30 = .ok (.invokevirtual 84, 3) := by decide +kernel
theorem d_PieceReader_limitNamed_33 : decode b_PieceReader_limitNamed 33 = .ok (.ifCond .eq 5, 3) := by decide +kernel
theorem d_PieceReader_limitNamed_36 : decode b_PieceReader_limitNamed 36 = .ok (.iconst 1, 1) := by decide +kernel
theorem d_PieceReader_limitNamed_37 : decode b_PieceReader_limitNamed 37 = .ok (.ireturn, 1) := by decide +kernel
theorem d_PieceReader_limitNamed_38 : decode b_PieceReader_limitNamed 38 = .ok (.aload_n 0, 1) := by decide +kernel
theorem d_PieceReader_limitNamed_39 : decode b_PieceReader_limitNamed 39 = .ok (.getfield 9, 3) := by decide +kernel
theorem d_PieceReader_limitNamed_42 : decode b_PieceReader_limitNamed 42 = .ok (.ldc 90, 2) := by decide +kernel
theorem d_PieceReader_limitNamed_44 : decode b_PieceReader_limitNamed 44 = .ok (.aload_n 0, 1) := by decide +kernel
theorem d_PieceReader_limitNamed_45 : decode b_PieceReader_limitNamed 45 = .ok (.getfield 61, 3) := by decide +kernel
theorem d_PieceReader_limitNamed_48 : decode b_PieceReader_limitNamed 48 = .ok (.iload_n 1, 1) := by decide +kernel
theorem d_PieceReader_limitNamed_49 : decode b_PieceReader_limitNamed 49 = .ok (.invokevirtual 84, 3) := by decide +kernel
theorem d_PieceReader_limitNamed_52 : decode b_PieceReader_limitNamed 52 = .ok (.ifCond .eq 5, 3) := by decide +kernel
theorem d_PieceReader_limitNamed_55 : decode b_PieceReader_limitNamed 55 = .ok (.iconst 2, 1) := by decide +kernel
theorem d_PieceReader_limitNamed_56 : decode b_PieceReader_limitNamed 56 = .ok (.ireturn, 1) := by decide +kernel
theorem d_PieceReader_limitNamed_57 : decode b_PieceReader_limitNamed 57 = .ok (.aload_n 0, 1) := by decide +kernel
theorem d_PieceReader_limitNamed_58 : decode b_PieceReader_limitNamed 58 = .ok (.getfield 9, 3) := by decide +kernel
theorem d_PieceReader_limitNamed_61 : decode b_PieceReader_limitNamed 61 = .ok (.ldc 92, 2) := by decide +kernel
theorem d_PieceReader_limitNamed_63 : decode b_PieceReader_limitNamed 63 = .ok (.aload_n 0, 1) := by decide +kernel
theorem d_PieceReader_limitNamed_64 : decode b_PieceReader_limitNamed 64 = .ok (.getfield 61, 3) := by decide +kernel
theorem d_PieceReader_limitNamed_67 : decode b_PieceReader_limitNamed 67 = .ok (.iload_n 1, 1) := by decide +kernel
theorem d_PieceReader_limitNamed_68 : decode b_PieceReader_limitNamed 68 = .ok (.invokevirtual 84, 3) := by decide +kernel
theorem d_PieceReader_limitNamed_71 : decode b_PieceReader_limitNamed 71 = .ok (.ifCond .eq 7, 3) := by decide +kernel
theorem d_PieceReader_limitNamed_74 : decode b_PieceReader_limitNamed 74 = .ok (.iconst 3, 1) := by decide +kernel
theorem d_PieceReader_limitNamed_75 : decode b_PieceReader_limitNamed 75 = .ok (.goto 5, 3) := by decide +kernel
theorem d_PieceReader_limitNamed_78 : decode b_PieceReader_limitNamed 78 = .ok (.bipush (-2), 2) := by decide +kernel
theorem d_PieceReader_limitNamed_80 : decode b_PieceReader_limitNamed 80 = .ok (.ireturn, 1) := by decide +kernel
theorem d_Signs_hasWord_0 : decode b_Signs_hasWord 0 = .ok (.aload_n 1, 1) := by decide +kernel
theorem d_Signs_hasWord_1 : decode b_Signs_hasWord 1 = .ok (.invokevirtual 34, 3) := by decide +kernel
theorem d_Signs_hasWord_4 : decode b_Signs_hasWord 4 = .ok (.iload_n 3, 1) := by decide +kernel
theorem d_Signs_hasWord_5 : decode b_Signs_hasWord 5 = .ok (.iload_n 2, 1) := by decide +kernel
theorem d_Signs_hasWord_6 : decode b_Signs_hasWord 6 = .ok (.isub, 1) := by decide +kernel
theorem d_Signs_hasWord_7 : decode b_Signs_hasWord 7 = .ok (.if_icmp .eq 5, 3) := by decide +kernel
theorem d_Signs_hasWord_10 : decode b_Signs_hasWord 10 = .ok (.iconst 0, 1) := by decide +kernel
theorem d_Signs_hasWord_11 : decode b_Signs_hasWord 11 = .ok (.ireturn, 1) := by decide +kernel
theorem d_Signs_hasWord_12 : decode b_Signs_hasWord 12 = .ok (.iconst 0, 1) := by decide +kernel
theorem d_Signs_hasWord_13 : decode b_Signs_hasWord 13 = .ok (.istore 4, 2) := by decide +kernel
theorem d_Signs_hasWord_15 : decode b_Signs_hasWord 15 = .ok (.iload 4, 2) := by decide +kernel
theorem d_Signs_hasWord_17 : decode b_Signs_hasWord 17 = .ok (.aload_n 1, 1) := by decide +kernel
theorem d_Signs_hasWord_18 : decode b_Signs_hasWord 18 = .ok (.invokevirtual 34, 3) := by decide +kernel
theorem d_Signs_hasWord_21 : decode b_Signs_hasWord 21 = .ok (.if_icmp .ge 28, 3) := by decide +kernel
theorem d_Signs_hasWord_24 : decode b_Signs_hasWord 24 = .ok (.aload_n 0, 1) := by decide +kernel
theorem d_Signs_hasWord_25 : decode b_Signs_hasWord 25 = .ok (.iload_n 2, 1) := by decide +kernel
theorem d_Signs_hasWord_26 : decode b_Signs_hasWord 26 = .ok (.iload 4, 2) := by decide +kernel
theorem d_Signs_hasWord_28 : decode b_Signs_hasWord 28 = .ok (.iadd, 1) := by decide +kernel
theorem d_Signs_hasWord_29 : decode b_Signs_hasWord 29 = .ok (.invokevirtual 26, 3) := by decide +kernel
theorem d_Signs_hasWord_32 : decode b_Signs_hasWord 32 = .ok (.aload_n 1, 1) := by decide +kernel
theorem d_Signs_hasWord_33 : decode b_Signs_hasWord 33 = .ok (.iload 4, 2) := by decide +kernel
theorem d_Signs_hasWord_35 : decode b_Signs_hasWord 35 = .ok (.invokevirtual 39, 3) := by decide +kernel
theorem d_Signs_hasWord_38 : decode b_Signs_hasWord 38 = .ok (.if_icmp .eq 5, 3) := by decide +kernel
theorem d_Signs_hasWord_41 : decode b_Signs_hasWord 41 = .ok (.iconst 0, 1) := by decide +kernel
theorem d_Signs_hasWord_42 : decode b_Signs_hasWord 42 = .ok (.ireturn, 1) := by decide +kernel
theorem d_Signs_hasWord_43 : decode b_Signs_hasWord 43 = .ok (.iinc 4 1, 3) := by decide +kernel
theorem d_Signs_hasWord_46 : decode b_Signs_hasWord 46 = .ok (.goto (-31), 3) := by decide +kernel
theorem d_Signs_hasWord_49 : decode b_Signs_hasWord 49 = .ok (.iconst 1, 1) := by decide +kernel
theorem d_Signs_hasWord_50 : decode b_Signs_hasWord 50 = .ok (.ireturn, 1) := by decide +kernel
theorem d_String_length_0 : decode b_String_length 0 = .ok (.aload_n 0, 1) := by decide +kernel
theorem d_String_length_1 : decode b_String_length 1 = .ok (.getfield 9, 3) := by decide +kernel
theorem d_String_length_4 : decode b_String_length 4 = .ok (.arraylength, 1) := by decide +kernel
theorem d_String_length_5 : decode b_String_length 5 = .ok (.aload_n 0, 1) := by decide +kernel
theorem d_String_length_6 : decode b_String_length 6 = .ok (.invokevirtual 335, 3) := by decide +kernel
theorem d_String_length_9 : decode b_String_length 9 = .ok (.ishr, 1) := by decide +kernel
theorem d_String_length_10 : decode b_String_length 10 = .ok (.ireturn, 1) := by decide +kernel
theorem d_String_coder_0 : decode b_String_coder 0 = .ok (.getstatic 38, 3) := by decide +kernel
theorem d_String_coder_3 : decode b_String_coder 3 = .ok (.ifCond .eq 10, 3) := by decide +kernel
theorem d_String_coder_6 : decode b_String_coder 6 = .ok (.aload_n 0, 1) := by decide +kernel
theorem d_String_coder_7 : decode b_String_coder 7 = .ok (.getfield 15, 3) := by decide +kernel
theorem d_String_coder_10 : decode b_String_coder 10 = .ok (.goto 4, 3) := by decide +kernel
theorem d_String_coder_13 : decode b_String_coder 13 = .ok (.iconst 1, 1) := by decide +kernel
theorem d_String_coder_14 : decode b_String_coder 14 = .ok (.ireturn, 1) := by decide +kernel
theorem d_String_charAt_0 : decode b_String_charAt 0 = .ok (.aload_n 0, 1) := by decide +kernel
theorem d_String_charAt_1 : decode b_String_charAt 1 = .ok (.invokevirtual 492, 3) := by decide +kernel
theorem d_String_charAt_4 : decode b_String_charAt 4 = .ok (.ifCond .eq 12, 3) := by decide +kernel
theorem d_String_charAt_7 : decode b_String_charAt 7 = .ok (.aload_n 0, 1) := by decide +kernel
theorem d_String_charAt_8 : decode b_String_charAt 8 = .ok (.getfield 9, 3) := by decide +kernel
theorem d_String_charAt_11 : decode b_String_charAt 11 = .ok (.iload_n 1, 1) := by decide +kernel
theorem d_String_charAt_12 : decode b_String_charAt 12 = .ok (.invokestatic 495, 3) := by decide +kernel
theorem d_String_charAt_15 : decode b_String_charAt 15 = .ok (.ireturn, 1) := by decide +kernel
theorem d_String_charAt_16 : decode b_String_charAt 16 = .ok (.aload_n 0, 1) := by decide +kernel
theorem d_String_charAt_17 : decode b_String_charAt 17 = .ok (.getfield 9, 3) := by decide +kernel
theorem d_String_charAt_20 : decode b_String_charAt 20 = .ok (.iload_n 1, 1) := by decide +kernel
theorem d_String_charAt_21 : decode b_String_charAt 21 = .ok (.invokestatic 498, 3) := by decide +kernel
theorem d_String_charAt_24 : decode b_String_charAt 24 = .ok (.ireturn, 1) := by decide +kernel
theorem d_String_isLatin1_0 : decode b_String_isLatin1 0 = .ok (.getstatic 38, 3) := by decide +kernel
theorem d_String_isLatin1_3 : decode b_String_isLatin1 3 = .ok (.ifCond .eq 14, 3) := by decide +kernel
theorem d_String_isLatin1_6 : decode b_String_isLatin1 6 = .ok (.aload_n 0, 1) := by decide +kernel
theorem d_String_isLatin1_7 : decode b_String_isLatin1 7 = .ok (.getfield 15, 3) := by decide +kernel
theorem d_String_isLatin1_10 : decode b_String_isLatin1 10 = .ok (.ifCond .ne 7, 3) := by decide +kernel
theorem d_String_isLatin1_13 : decode b_String_isLatin1 13 = .ok (.iconst 1, 1) := by decide +kernel
theorem d_String_isLatin1_14 : decode b_String_isLatin1 14 = .ok (.goto 4, 3) := by decide +kernel
theorem d_String_isLatin1_17 : decode b_String_isLatin1 17 = .ok (.iconst 0, 1) := by decide +kernel
theorem d_String_isLatin1_18 : decode b_String_isLatin1 18 = .ok (.ireturn, 1) := by decide +kernel
theorem d_Latin1_charAt_0 : decode b_Latin1_charAt 0 = .ok (.iload_n 1, 1) := by decide +kernel
theorem d_Latin1_charAt_1 : decode b_Latin1_charAt 1 = .ok (.aload_n 0, 1) := by decide +kernel
theorem d_Latin1_charAt_2 : decode b_Latin1_charAt 2 = .ok (.arraylength, 1) := by decide +kernel
theorem d_Latin1_charAt_3 : decode b_Latin1_charAt 3 = .ok (.invokestatic 9, 3) := by decide +kernel
theorem d_Latin1_charAt_6 : decode b_Latin1_charAt 6 = .ok (.aload_n 0, 1) := by decide +kernel
theorem d_Latin1_charAt_7 : decode b_Latin1_charAt 7 = .ok (.iload_n 1, 1) := by decide +kernel
theorem d_Latin1_charAt_8 : decode b_Latin1_charAt 8 = .ok (.baload, 1) := by decide +kernel
theorem d_Latin1_charAt_9 : decode b_Latin1_charAt 9 = .ok (.sipush 255, 3) := by decide +kernel
theorem d_Latin1_charAt_12 : decode b_Latin1_charAt 12 = .ok (.iand, 1) := by decide +kernel
theorem d_Latin1_charAt_13 : decode b_Latin1_charAt 13 = .ok (.i2c, 1) := by decide +kernel
theorem d_Latin1_charAt_14 : decode b_Latin1_charAt 14 = .ok (.ireturn, 1) := by decide +kernel
theorem d_String_checkIndex_0 : decode b_String_checkIndex 0 = .ok (.iload_n 0, 1) := by decide +kernel
theorem d_String_checkIndex_1 : decode b_String_checkIndex 1 = .ok (.iload_n 1, 1) := by decide +kernel
theorem d_String_checkIndex_2 : decode b_String_checkIndex 2 = .ok (.getstatic 1053, 3) := by decide +kernel
theorem d_String_checkIndex_5 : decode b_String_checkIndex 5 = .ok (.invokestatic 1059, 3) := by decide +kernel
theorem d_String_checkIndex_8 : decode b_String_checkIndex 8 = .ok (.pop, 1) := by decide +kernel
theorem d_String_checkIndex_9 : decode b_String_checkIndex 9 = .ok (.return_, 1) := by decide +kernel
theorem d_Precond_checkIndex_0 : decode b_Precond_checkIndex 0 = .ok (.iload_n 0, 1) := by decide +kernel
theorem d_Precond_checkIndex_1 : decode b_Precond_checkIndex 1 = .ok (.ifCond .lt 8, 3) := by decide +kernel
theorem d_Precond_checkIndex_4 : decode b_Precond_checkIndex 4 = .ok (.iload_n 0, 1) := by decide +kernel
theorem d_Precond_checkIndex_5 : decode b_Precond_checkIndex 5 = .ok (.iload_n 1, 1) := by decide +kernel
theorem d_Precond_checkIndex_6 : decode b_Precond_checkIndex 6 = .ok (.if_icmp .lt 10, 3) := by decide +kernel
theorem d_Precond_checkIndex_9 : decode b_Precond_checkIndex 9 = .ok (.aload_n 2, 1) := by decide +kernel
theorem d_Precond_checkIndex_10 : decode b_Precond_checkIndex 10 = .ok (.iload_n 0, 1) := by decide +kernel
theorem d_Precond_checkIndex_11 : decode b_Precond_checkIndex 11 = .ok (.iload_n 1, 1) := by decide +kernel
theorem d_Precond_checkIndex_12 : decode b_Precond_checkIndex 12 = .ok (.invokestatic 95, 3) := by decide +kernel
theorem d_Precond_checkIndex_15 : decode b_Precond_checkIndex 15 = .ok (.athrow, 1) := by decide +kernel
theorem d_Precond_checkIndex_16 : decode b_Precond_checkIndex 16 = .ok (.iload_n 0, 1) := by decide +kernel
theorem d_Precond_checkIndex_17 : decode b_Precond_checkIndex 17 = .ok (.ireturn, 1) := by decide +kernel
theorem d_PieceReader_readNumber_0 : decode b_PieceReader_readNumber 0 = .ok (.aload_n 0, 1) := by decide +kernel
theorem d_PieceReader_readNumber_1 : decode b_PieceReader_readNumber 1 = .ok (.getfield 51, 3) := by decide +kernel
theorem d_PieceReader_readNumber_4 : decode b_PieceReader_readNumber 4 = .ok (.iload_n 1, 1) := by decide +kernel
theorem d_PieceReader_readNumber_5 : decode b_PieceReader_readNumber 5 = .ok (.isub, 1) := by decide +kernel
theorem d_PieceReader_readNumber_6 : decode b_PieceReader_readNumber 6 = .ok (.istore_n 2, 1) := by decide +kernel
theorem d_PieceReader_readNumber_7 : decode b_PieceReader_readNumber 7 = .ok (.iload_n 2, 1) := by decide +kernel
theorem d_PieceReader_readNumber_8 : decode b_PieceReader_readNumber 8 = .ok (.iconst 1, 1) := by decide +kernel
theorem d_PieceReader_readNumber_9 : decode b_PieceReader_readNumber 9 = .ok (.if_icmp .lt 9, 3) := by decide +kernel
theorem d_PieceReader_readNumber_12 : decode b_PieceReader_readNumber 12 = .ok (.iload_n 2, 1) := by decide +kernel
theorem d_PieceReader_readNumber_13 : decode b_PieceReader_readNumber 13 = .ok (.bipush 9, 2) := by decide +kernel
theorem d_PieceReader_readNumber_15 : decode b_PieceReader_readNumber 15 = .ok (.if_icmp .le 5, 3) := by decide +kernel
theorem d_PieceReader_readNumber_18 : decode b_PieceReader_readNumber 18 = .ok (.iconst 0, 1) := by decide +kernel
theorem d_PieceReader_readNumber_19 : decode b_PieceReader_readNumber 19 = .ok (.ireturn, 1) := by decide +kernel
theorem d_PieceReader_readNumber_20 : decode b_PieceReader_readNumber 20 = .ok (.aload_n 0, 1) := by decide +kernel
theorem d_PieceReader_readNumber_21 : decode b_PieceReader_readNumber 21 = .ok (.iconst 0, 1) := by decide +kernel
theorem d_PieceReader_readNumber_22 : decode b_PieceReader_readNumber 22 = .ok (.putfield 40, 3) := by decide +kernel
theorem d_PieceReader_readNumber_25 : decode b_PieceReader_readNumber 25 = .ok (.iload_n 1, 1) := by decide +kernel
theorem d_PieceReader_readNumber_26 : decode b_PieceReader_readNumber 26 = .ok (.istore_n 3, 1) := by decide +kernel
theorem d_PieceReader_readNumber_27 : decode b_PieceReader_readNumber 27 = .ok (.iload_n 3, 1) := by decide +kernel
theorem d_PieceReader_readNumber_28 : decode b_PieceReader_readNumber 28 = .ok (.aload_n 0, 1) := by decide +kernel
theorem d_PieceReader_readNumber_29 : decode b_PieceReader_readNumber 29 = .ok (.getfield 51, 3) := by decide +kernel
theorem d_PieceReader_readNumber_32 : decode b_PieceReader_readNumber 32 = .ok (.if_icmp .ge 52, 3) := by decide +kernel
theorem d_PieceReader_readNumber_35 : decode b_PieceReader_readNumber 35 = .ok (.aload_n 0, 1) := by decide +kernel
theorem d_PieceReader_readNumber_36 : decode b_PieceReader_readNumber 36 = .ok (.getfield 9, 3) := by decide +kernel
theorem d_PieceReader_readNumber_39 : decode b_PieceReader_readNumber 39 = .ok (.iload_n 3, 1) := by decide +kernel
theorem d_PieceReader_readNumber_40 : decode b_PieceReader_readNumber 40 = .ok (.invokevirtual 57, 3) := by decide +kernel
theorem d_PieceReader_readNumber_43 : decode b_PieceReader_readNumber 43 = .ok (.istore 4, 2) := by decide +kernel
theorem d_PieceReader_readNumber_45 : decode b_PieceReader_readNumber 45 = .ok (.iload 4, 2) := by decide +kernel
theorem d_PieceReader_readNumber_47 : decode b_PieceReader_readNumber 47 = .ok (.bipush 48, 2) := by decide +kernel
theorem d_PieceReader_readNumber_49 : decode b_PieceReader_readNumber 49 = .ok (.if_icmp .lt 10, 3) := by decide +kernel
theorem d_PieceReader_readNumber_52 : decode b_PieceReader_readNumber 52 = .ok (.iload 4, 2) := by decide +kernel
theorem d_PieceReader_readNumber_54 : decode b_PieceReader_readNumber 54 = .ok (.bipush 57, 2) := by decide +kernel
theorem d_PieceReader_readNumber_56 : decode b_PieceReader_readNumber 56 = .ok (.if_icmp .le 5, 3) := by decide +kernel
theorem d_PieceReader_readNumber_59 : decode b_PieceReader_readNumber 59 = .ok (.iconst 0, 1) := by decide +kernel
theorem d_PieceReader_readNumber_60 : decode b_PieceReader_readNumber 60 = .ok (.ireturn, 1) := by decide +kernel
theorem d_PieceReader_readNumber_61 : decode b_PieceReader_readNumber 61 = .ok (.aload_n 0, 1) := by decide +kernel
theorem d_PieceReader_readNumber_62 : decode b_PieceReader_readNumber 62 = .ok (.aload_n 0, 1) := by decide +kernel
theorem d_PieceReader_readNumber_63 : decode b_PieceReader_readNumber 63 = .ok (.getfield 40, 3) := by decide +kernel
theorem d_PieceReader_readNumber_66 : decode b_PieceReader_readNumber 66 = .ok (.bipush 10, 2) := by decide +kernel
theorem d_PieceReader_readNumber_68 : decode b_PieceReader_readNumber 68 = .ok (.imul, 1) := by decide +kernel
theorem d_PieceReader_readNumber_69 : decode b_PieceReader_readNumber 69 = .ok (.iload 4, 2) := by decide +kernel
theorem d_PieceReader_readNumber_71 : decode b_PieceReader_readNumber 71 = .ok (.bipush 48, 2) := by decide +kernel
theorem d_PieceReader_readNumber_73 : decode b_PieceReader_readNumber 73 = .ok (.isub, 1) := by decide +kernel
theorem d_PieceReader_readNumber_74 : decode b_PieceReader_readNumber 74 = .ok (.iadd, 1) := by decide +kernel
theorem d_PieceReader_readNumber_75 : decode b_PieceReader_readNumber 75 = .ok (.putfield 40, 3) := by decide +kernel
theorem d_PieceReader_readNumber_78 : decode b_PieceReader_readNumber 78 = .ok (.iinc 3 1, 3) := by decide +kernel
theorem d_PieceReader_readNumber_81 : decode b_PieceReader_readNumber 81 = .ok (.goto (-54), 3) := by decide +kernel
theorem d_PieceReader_readNumber_84 : decode b_PieceReader_readNumber 84 = .ok (.iconst 1, 1) := by decide +kernel
theorem d_PieceReader_readNumber_85 : decode b_PieceReader_readNumber 85 = .ok (.ireturn, 1) := by decide +kernel
theorem d_PieceReader_readName_0 : decode b_PieceReader_readName 0 = .ok (.aload_n 0, 1) := by decide +kernel
theorem d_PieceReader_readName_1 : decode b_PieceReader_readName 1 = .ok (.getfield 9, 3) := by decide +kernel
theorem d_PieceReader_readName_4 : decode b_PieceReader_readName 4 = .ok (.ldc 110, 2) := by decide +kernel
theorem d_PieceReader_readName_6 : decode b_PieceReader_readName 6 = .ok (.aload_n 0, 1) := by decide +kernel
theorem d_PieceReader_readName_7 : decode b_PieceReader_readName 7 = .ok (.getfield 104, 3) := by decide +kernel
theorem d_PieceReader_readName_10 : decode b_PieceReader_readName 10 = .ok (.aload_n 0, 1) := by decide +kernel
theorem d_PieceReader_readName_11 : decode b_PieceReader_readName 11 = .ok (.getfield 51, 3) := by decide +kernel
theorem d_PieceReader_readName_14 : decode b_PieceReader_readName 14 = .ok (.iconst 3, 1) := by decide +kernel
theorem d_PieceReader_readName_15 : decode b_PieceReader_readName 15 = .ok (.isub, 1) := by decide +kernel
theorem d_PieceReader_readName_16 : decode b_PieceReader_readName 16 = .ok (.invokestatic 112, 3) := by decide +kernel
theorem d_PieceReader_readName_19 : decode b_PieceReader_readName 19 = .ok (.aload_n 0, 1) := by decide +kernel
theorem d_PieceReader_readName_20 : decode b_PieceReader_readName 20 = .ok (.getfield 51, 3) := by decide +kernel
theorem d_PieceReader_readName_23 : decode b_PieceReader_readName 23 = .ok (.invokevirtual 84, 3) := by decide +kernel
theorem d_PieceReader_readName_26 : decode b_PieceReader_readName 26 = .ok (.ifCond .eq 37, 3) := by decide +kernel
theorem d_PieceReader_readName_29 : decode b_PieceReader_readName 29 = .ok (.aload_n 0, 1) := by decide +kernel
theorem d_PieceReader_readName_30 : decode b_PieceReader_readName 30 = .ok (.iconst 2, 1) := by decide +kernel
theorem d_PieceReader_readName_31 : decode b_PieceReader_readName 31 = .ok (.putfield 118, 3) := by decide +kernel
theorem d_PieceReader_readName_34 : decode b_PieceReader_readName 34 = .ok (.aload_n 0, 1) := by decide +kernel
theorem d_PieceReader_readName_35 : decode b_PieceReader_readName 35 = .ok (.aload_n 0, 1) := by decide +kernel
theorem d_PieceReader_readName_36 : decode b_PieceReader_readName 36 = .ok (.getfield 51, 3) := by decide +kernel
theorem d_PieceReader_readName_39 : decode b_PieceReader_readName 39 = .ok (.iconst 2, 1) := by decide +kernel
theorem d_PieceReader_readName_40 : decode b_PieceReader_readName 40 = .ok (.isub, 1) := by decide +kernel
theorem d_PieceReader_readName_41 : decode b_PieceReader_readName 41 = .ok (.putfield 121, 3) := by decide +kernel
theorem d_PieceReader_readName_44 : decode b_PieceReader_readName 44 = .ok (.aload_n 0, 1) := by decide +kernel
theorem d_PieceReader_readName_45 : decode b_PieceReader_readName 45 = .ok (.getfield 121, 3) := by decide +kernel
theorem d_PieceReader_readName_48 : decode b_PieceReader_readName 48 = .ok (.aload_n 0, 1) := by decide +kernel
theorem d_PieceReader_readName_49 : decode b_PieceReader_readName 49 = .ok (.getfield 104, 3) := by decide +kernel
theorem d_PieceReader_readName_52 : decode b_PieceReader_readName 52 = .ok (.isub, 1) := by decide +kernel
theorem d_PieceReader_readName_53 : decode b_PieceReader_readName 53 = .ok (.iconst 2, 1) := by decide +kernel
theorem d_PieceReader_readName_54 : decode b_PieceReader_readName 54 = .ok (.if_icmp .lt 7, 3) := by decide +kernel
theorem d_PieceReader_readName_57 : decode b_PieceReader_readName 57 = .ok (.iconst 1, 1) := by decide +kernel
theorem d_PieceReader_readName_58 : decode b_PieceReader_readName 58 = .ok (.goto 4, 3) := by decide +kernel
theorem d_PieceReader_readName_61 : decode b_PieceReader_readName 61 = .ok (.iconst 0, 1) := by decide +kernel
theorem d_PieceReader_readName_62 : decode b_PieceReader_readName 62 = .ok (.ireturn, 1) := by decide +kernel
theorem d_PieceReader_readName_63 : decode b_PieceReader_readName 63 = .ok (.aload_n 0, 1) := by decide +kernel
theorem d_PieceReader_readName_64 : decode b_PieceReader_readName 64 = .ok (.getfield 9, 3) := by decide +kernel
theorem d_PieceReader_readName_67 : decode b_PieceReader_readName 67 = .ok (.ldc 124, 2) := by decide +kernel
theorem d_PieceReader_readName_69 : decode b_PieceReader_readName 69 = .ok (.aload_n 0, 1) := by decide +kernel
theorem d_PieceReader_readName_70 : decode b_PieceReader_readName 70 = .ok (.getfield 104, 3) := by decide +kernel
theorem d_PieceReader_readName_73 : decode b_PieceReader_readName 73 = .ok (.aload_n 0, 1) := by decide +kernel
theorem d_PieceReader_readName_74 : decode b_PieceReader_readName 74 = .ok (.getfield 51, 3) := by decide +kernel
theorem d_PieceReader_readName_77 : decode b_PieceReader_readName 77 = .ok (.iconst 2, 1) := by decide +kernel
theorem d_PieceReader_readName_78 : decode b_PieceReader_readName 78 = .ok (.isub, 1) := by decide +kernel
theorem d_PieceReader_readName_79 : decode b_PieceReader_readName 79 = .ok (.invokestatic 112, 3) := by decide +kernel
theorem d_PieceReader_readName_82 : decode b_PieceReader_readName 82 = .ok (.aload_n 0, 1) := by decide +kernel
theorem d_PieceReader_readName_83 : decode b_PieceReader_readName 83 = .ok (.getfield 51, 3) := by decide +kernel
theorem d_PieceReader_readName_86 : decode b_PieceReader_readName 86 = .ok (.invokevirtual 84, 3) := by decide +kernel
theorem d_PieceReader_readName_89 : decode b_PieceReader_readName 89 = .ok (.ifCond .eq 37, 3) := by decide +kernel
theorem d_PieceReader_readName_92 : decode b_PieceReader_readName 92 = .ok (.aload_n 0, 1) := by decide +kernel
theorem d_PieceReader_readName_93 : decode b_PieceReader_readName 93 = .ok (.iconst 1, 1) := by decide +kernel
theorem d_PieceReader_readName_94 : decode b_PieceReader_readName 94 = .ok (.putfield 118, 3) := by decide +kernel
theorem d_PieceReader_readName_97 : decode b_PieceReader_readName 97 = .ok (.aload_n 0, 1) := by decide +kernel
theorem d_PieceReader_readName_98 : decode b_PieceReader_readName 98 = .ok (.aload_n 0, 1) := by decide +kernel
theorem d_PieceReader_readName_99 : decode b_PieceReader_readName 99 = .ok (.getfield 51, 3) := by decide +kernel
theorem d_PieceReader_readName_102 : decode b_PieceReader_readName 102 = .ok (.iconst 1, 1) := by decide +kernel
theorem d_PieceReader_readName_103 : decode b_PieceReader_readName 103 = .ok (.isub, 1) := by decide +kernel
theorem d_PieceReader_readName_104 : decode b_PieceReader_readName 104 = .ok (.putfield 121, 3) := by decide +kernel
theorem d_PieceReader_readName_107 : decode b_PieceReader_readName 107 = .ok (.aload_n 0, 1) := by decide +kernel
theorem d_PieceReader_readName_108 : decode b_PieceReader_readName 108 = .ok (.getfield 121, 3) := by decide +kernel
theorem d_PieceReader_readName_111 : decode b_PieceReader_readName 111 = .ok (.aload_n 0, 1) := by decide +kernel
theorem d_PieceReader_readName_112 : decode b_PieceReader_readName 112 = .ok (.getfield 104, 3) := by decide +kernel
theorem d_PieceReader_readName_115 : decode b_PieceReader_readName 115 = .ok (.isub, 1) := by decide +kernel
theorem d_PieceReader_readName_116 : decode b_PieceReader_readName 116 = .ok (.iconst 2, 1) := by decide +kernel
theorem d_PieceReader_readName_117 : decode b_PieceReader_readName 117 = .ok (.if_icmp .lt 7, 3) := by decide +kernel
theorem d_PieceReader_readName_120 : decode b_PieceReader_readName 120 = .ok (.iconst 1, 1) := by decide +kernel
theorem d_PieceReader_readName_121 : decode b_PieceReader_readName 121 = .ok (.goto 4, 3) := by decide +kernel
theorem d_PieceReader_readName_124 : decode b_PieceReader_readName 124 = .ok (.iconst 0, 1) := by decide +kernel
theorem d_PieceReader_readName_125 : decode b_PieceReader_readName 125 = .ok (.ireturn, 1) := by decide +kernel
theorem d_PieceReader_readName_126 : decode b_PieceReader_readName 126 = .ok (.aload_n 0, 1) := by decide +kernel
theorem d_PieceReader_readName_127 : decode b_PieceReader_readName 127 = .ok (.getfield 9, 3) := by decide +kernel
theorem d_PieceReader_readName_130 : decode b_PieceReader_readName 130 = .ok (.ldc 126, 2) := by decide +kernel
theorem d_PieceReader_readName_132 : decode b_PieceReader_readName 132 = .ok (.aload_n 0, 1) := by decide +kernel
theorem d_PieceReader_readName_133 : decode b_PieceReader_readName 133 = .ok (.getfield 104, 3) := by decide +kernel
theorem d_PieceReader_readName_136 : decode b_PieceReader_readName 136 = .ok (.aload_n 0, 1) := by decide +kernel
theorem d_PieceReader_readName_137 : decode b_PieceReader_readName 137 = .ok (.getfield 51, 3) := by decide +kernel
theorem d_PieceReader_readName_140 : decode b_PieceReader_readName 140 = .ok (.iconst 1, 1) := by decide +kernel
theorem d_PieceReader_readName_141 : decode b_PieceReader_readName 141 = .ok (.isub, 1) := by decide +kernel
theorem d_PieceReader_readName_142 : decode b_PieceReader_readName 142 = .ok (.invokestatic 112, 3) := by decide +kernel
theorem d_PieceReader_readName_145 : decode b_PieceReader_readName 145 = .ok (.aload_n 0, 1) := by decide +kernel
theorem d_PieceReader_readName_146 : decode b_PieceReader_readName 146 = .ok (.getfield 51, 3) := by decide +kernel
theorem d_PieceReader_readName_149 : decode b_PieceReader_readName 149 = .ok (.invokevirtual 84, 3) := by decide +kernel
theorem d_PieceReader_readName_152 : decode b_PieceReader_readName 152 = .ok (.ifCond .eq 20, 3) := by decide +kernel
theorem d_PieceReader_readName_155 : decode b_PieceReader_readName 155 = .ok (.aload_n 0, 1) := by decide +kernel
theorem d_PieceReader_readName_156 : decode b_PieceReader_readName 156 = .ok (.iconst 3, 1) := by decide +kernel
theorem d_PieceReader_readName_157 : decode b_PieceReader_readName 157 = .ok (.putfield 118, 3) := by decide +kernel
theorem d_PieceReader_readName_160 : decode b_PieceReader_readName 160 = .ok (.aload_n 0, 1) := by decide +kernel
theorem d_PieceReader_readName_161 : decode b_PieceReader_readName 161 = .ok (.aload_n 0, 1) := by decide +kernel
theorem d_PieceReader_readName_162 : decode b_PieceReader_readName 162 = .ok (.getfield 51, 3) := by decide +kernel
theorem d_PieceReader_readName_165 : decode b_PieceReader_readName 165 = .ok (.iconst 1, 1) := by decide +kernel
theorem d_PieceReader_readName_166 : decode b_PieceReader_readName 166 = .ok (.isub, 1) := by decide +kernel
theorem d_PieceReader_readName_167 : decode b_PieceReader_readName 167 = .ok (.putfield 121, 3) := by decide +kernel
theorem d_PieceReader_readName_170 : decode b_PieceReader_readName 170 = .ok (.iconst 1, 1) := by decide +kernel
theorem d_PieceReader_readName_171 : decode b_PieceReader_readName 171 = .ok (.ireturn, 1) := by decide +kernel
theorem d_PieceReader_readName_172 : decode b_PieceReader_readName 172 = .ok (.aload_n 0, 1) := by decide +kernel
theorem d_PieceReader_readName_173 : decode b_PieceReader_readName 173 = .ok (.iconst 0, 1) := by decide +kernel
theorem d_PieceReader_readName_174 : decode b_PieceReader_readName 174 = .ok (.putfield 118, 3) := by decide +kernel
theorem d_PieceReader_readName_177 : decode b_PieceReader_readName 177 = .ok (.aload_n 0, 1) := by decide +kernel
theorem d_PieceReader_readName_178 : decode b_PieceReader_readName 178 = .ok (.aload_n 0, 1) := by decide +kernel
theorem d_PieceReader_readName_179 : decode b_PieceReader_readName 179 = .ok (.getfield 51, 3) := by decide +kernel
theorem d_PieceReader_readName_182 : decode b_PieceReader_readName 182 = .ok (.putfield 121, 3) := by decide +kernel
theorem d_PieceReader_readName_185 : decode b_PieceReader_readName 185 = .ok (.aload_n 0, 1) := by decide +kernel
theorem d_PieceReader_readName_186 : decode b_PieceReader_readName 186 = .ok (.getfield 121, 3) := by decide +kernel
theorem d_PieceReader_readName_189 : decode b_PieceReader_readName 189 = .ok (.aload_n 0, 1) := by decide +kernel
theorem d_PieceReader_readName_190 : decode b_PieceReader_readName 190 = .ok (.getfield 104, 3) := by decide +kernel
theorem d_PieceReader_readName_193 : decode b_PieceReader_readName 193 = .ok (.if_icmp .le 7, 3) := by decide +kernel
theorem d_PieceReader_readName_196 : decode b_PieceReader_readName 196 = .ok (.iconst 1, 1) := by decide +kernel
theorem d_PieceReader_readName_197 : decode b_PieceReader_readName 197 = .ok (.goto 4, 3) := by decide +kernel
theorem d_PieceReader_readName_200 : decode b_PieceReader_readName 200 = .ok (.iconst 0, 1) := by decide +kernel
theorem d_PieceReader_readName_201 : decode b_PieceReader_readName 201 = .ok (.ireturn, 1) := by decide +kernel
theorem d_Signs_copy_0 : decode b_Signs_copy 0 = .ok (.new 10, 3) := by decide +kernel
theorem d_Signs_copy_3 : decode b_Signs_copy 3 = .ok (.dup, 1) := by decide +kernel
theorem d_Signs_copy_4 : decode b_Signs_copy 4 = .ok (.aload_n 0, 1) := by decide +kernel
theorem d_Signs_copy_5 : decode b_Signs_copy 5 = .ok (.getfield 15, 3) := by decide +kernel
theorem d_Signs_copy_8 : decode b_Signs_copy 8 = .ok (.invokespecial 19, 3) := by decide +kernel
theorem d_Signs_copy_11 : decode b_Signs_copy 11 = .ok (.astore_n 1, 1) := by decide +kernel
theorem d_Signs_copy_12 : decode b_Signs_copy 12 = .ok (.iconst 0, 1) := by decide +kernel
theorem d_Signs_copy_13 : decode b_Signs_copy 13 = .ok (.istore_n 2, 1) := by decide +kernel
theorem d_Signs_copy_14 : decode b_Signs_copy 14 = .ok (.iload_n 2, 1) := by decide +kernel
theorem d_Signs_copy_15 : decode b_Signs_copy 15 = .ok (.aload_n 0, 1) := by decide +kernel
theorem d_Signs_copy_16 : decode b_Signs_copy 16 = .ok (.getfield 15, 3) := by decide +kernel
theorem d_Signs_copy_19 : decode b_Signs_copy 19 = .ok (.if_icmp .ge 19, 3) := by decide +kernel
theorem d_Signs_copy_22 : decode b_Signs_copy 22 = .ok (.aload_n 1, 1) := by decide +kernel
theorem d_Signs_copy_23 : decode b_Signs_copy 23 = .ok (.aload_n 0, 1) := by decide +kernel
theorem d_Signs_copy_24 : decode b_Signs_copy 24 = .ok (.getfield 9, 3) := by decide +kernel
theorem d_Signs_copy_27 : decode b_Signs_copy 27 = .ok (.iload_n 2, 1) := by decide +kernel
theorem d_Signs_copy_28 : decode b_Signs_copy 28 = .ok (.caload, 1) := by decide +kernel
theorem d_Signs_copy_29 : decode b_Signs_copy 29 = .ok (.invokevirtual 22, 3) := by decide +kernel
theorem d_Signs_copy_32 : decode b_Signs_copy 32 = .ok (.iinc 2 1, 3) := by decide +kernel
theorem d_Signs_copy_35 : decode b_Signs_copy 35 = .ok (.goto (-21), 3) := by decide +kernel
theorem d_Signs_copy_38 : decode b_Signs_copy 38 = .ok (.aload_n 1, 1) := by decide +kernel
theorem d_Signs_copy_39 : decode b_Signs_copy 39 = .ok (.areturn, 1) := by decide +kernel
theorem d_Signs_beginsWithPart_0 : decode b_Signs_beginsWithPart 0 = .ok (.iload_n 3, 1) := by decide +kernel
theorem d_Signs_beginsWithPart_1 : decode b_Signs_beginsWithPart 1 = .ok (.iload_n 2, 1) := by decide +kernel
theorem d_Signs_beginsWithPart_2 : decode b_Signs_beginsWithPart 2 = .ok (.isub, 1) := by decide +kernel
theorem d_Signs_beginsWithPart_3 : decode b_Signs_beginsWithPart 3 = .ok (.aload_n 0, 1) := by decide +kernel
theorem d_Signs_beginsWithPart_4 : decode b_Signs_beginsWithPart 4 = .ok (.getfield 15, 3) := by decide +kernel
theorem d_Signs_beginsWithPart_7 : decode b_Signs_beginsWithPart 7 = .ok (.if_icmp .le 5, 3) := by decide +kernel
theorem d_Signs_beginsWithPart_10 : decode b_Signs_beginsWithPart 10 = .ok (.iconst 0, 1) := by decide +kernel
theorem d_Signs_beginsWithPart_11 : decode b_Signs_beginsWithPart 11 = .ok (.ireturn, 1) := by decide +kernel
theorem d_Signs_beginsWithPart_12 : decode b_Signs_beginsWithPart 12 = .ok (.iload_n 2, 1) := by decide +kernel
theorem d_Signs_beginsWithPart_13 : decode b_Signs_beginsWithPart 13 = .ok (.istore 4, 2) := by decide +kernel
theorem d_Signs_beginsWithPart_15 : decode b_Signs_beginsWithPart 15 = .ok (.iload 4, 2) := by decide +kernel
theorem d_Signs_beginsWithPart_17 : decode b_Signs_beginsWithPart 17 = .ok (.iload_n 3, 1) := by decide +kernel
theorem d_Signs_beginsWithPart_18 : decode b_Signs_beginsWithPart 18 = .ok (.if_icmp .ge 28, 3) := by decide +kernel
theorem d_Signs_beginsWithPart_21 : decode b_Signs_beginsWithPart 21 = .ok (.aload_n 0, 1) := by decide +kernel
theorem d_Signs_beginsWithPart_22 : decode b_Signs_beginsWithPart 22 = .ok (.iload 4, 2) := by decide +kernel
theorem d_Signs_beginsWithPart_24 : decode b_Signs_beginsWithPart 24 = .ok (.iload_n 2, 1) := by decide +kernel
theorem d_Signs_beginsWithPart_25 : decode b_Signs_beginsWithPart 25 = .ok (.isub, 1) := by decide +kernel
theorem d_Signs_beginsWithPart_26 : decode b_Signs_beginsWithPart 26 = .ok (.invokevirtual 26, 3) := by decide +kernel
theorem d_Signs_beginsWithPart_29 : decode b_Signs_beginsWithPart 29 = .ok (.aload_n 1, 1) := by decide +kernel
theorem d_Signs_beginsWithPart_30 : decode b_Signs_beginsWithPart 30 = .ok (.iload 4, 2) := by decide +kernel
theorem d_Signs_beginsWithPart_32 : decode b_Signs_beginsWithPart 32 = .ok (.invokevirtual 26, 3) := by decide +kernel
theorem d_Signs_beginsWithPart_35 : decode b_Signs_beginsWithPart 35 = .ok (.if_icmp .eq 5, 3) := by decide +kernel
theorem d_Signs_beginsWithPart_38 : decode b_Signs_beginsWithPart 38 = .ok (.iconst 0, 1) := by decide +kernel
theorem d_Signs_beginsWithPart_39 : decode b_Signs_beginsWithPart 39 = .ok (.ireturn, 1) := by decide +kernel
theorem d_Signs_beginsWithPart_40 : decode b_Signs_beginsWithPart 40 = .ok (.iinc 4 1, 3) := by decide +kernel
theorem d_Signs_beginsWithPart_43 : decode b_Signs_beginsWithPart 43 = .ok (.goto (-28), 3) := by decide +kernel
theorem d_Signs_beginsWithPart_46 : decode b_Signs_beginsWithPart 46 = .ok (.iconst 1, 1) := by decide +kernel
theorem d_Signs_beginsWithPart_47 : decode b_Signs_beginsWithPart 47 = .ok (.ireturn, 1) := by decide +kernel
theorem d_ClassPattern_matches_0 : decode b_ClassPattern_matches 0 = .ok (.aload_n 0, 1) := by decide +kernel
theorem d_ClassPattern_matches_1 : decode b_ClassPattern_matches 1 = .ok (.invokevirtual 43, 3) := by decide +kernel
theorem d_ClassPattern_matches_4 : decode b_ClassPattern_matches 4 = .ok (.ifCond .eq 27, 3) := by decide +kernel
theorem d_ClassPattern_matches_7 : decode b_ClassPattern_matches 7 = .ok (.aload_n 1, 1) := by decide +kernel
theorem d_ClassPattern_matches_8 : decode b_ClassPattern_matches 8 = .ok (.getfield 47, 3) := by decide +kernel
theorem d_ClassPattern_matches_11 : decode b_ClassPattern_matches 11 = .ok (.aload_n 0, 1) := by decide +kernel
theorem d_ClassPattern_matches_12 : decode b_ClassPattern_matches 12 = .ok (.getfield 9, 3) := by decide +kernel
theorem d_ClassPattern_matches_15 : decode b_ClassPattern_matches 15 = .ok (.aload_n 0, 1) := by decide +kernel
theorem d_ClassPattern_matches_16 : decode b_ClassPattern_matches 16 = .ok (.getfield 30, 3) := by decide +kernel
theorem d_ClassPattern_matches_19 : decode b_ClassPattern_matches 19 = .ok (.aload_n 0, 1) := by decide +kernel
theorem d_ClassPattern_matches_20 : decode b_ClassPattern_matches 20 = .ok (.getfield 34, 3) := by decide +kernel
theorem d_ClassPattern_matches_23 : decode b_ClassPattern_matches 23 = .ok (.invokevirtual 52, 3) := by decide +kernel
theorem d_ClassPattern_matches_26 : decode b_ClassPattern_matches 26 = .ok (.ifCond .ne 5, 3) := by decide +kernel
theorem d_ClassPattern_matches_29 : decode b_ClassPattern_matches 29 = .ok (.iconst 0, 1) := by decide +kernel
theorem d_ClassPattern_matches_30 : decode b_ClassPattern_matches 30 = .ok (.ireturn, 1) := by decide +kernel
theorem d_ClassPattern_matches_31 : decode b_ClassPattern_matches 31 = .ok (.aload_n 0, 1) := by decide +kernel
theorem d_ClassPattern_matches_32 : decode b_ClassPattern_matches 32 = .ok (.getfield 26, 3) := by decide +kernel
theorem d_ClassPattern_matches_35 : decode b_ClassPattern_matches 35 = .ok (.lookupswitch 81 #[(0, 25), (1, 45)], 25) := by decide +kernel
theorem d_ClassPattern_matches_60 : decode b_ClassPattern_matches 60 = .ok (.aload_n 1, 1) := by decide +kernel
theorem d_ClassPattern_matches_61 : decode b_ClassPattern_matches 61 = .ok (.getfield 58, 3) := by decide +kernel
theorem d_ClassPattern_matches_64 : decode b_ClassPattern_matches 64 = .ok (.aload_n 0, 1) := by decide +kernel
theorem d_ClassPattern_matches_65 : decode b_ClassPattern_matches 65 = .ok (.getfield 9, 3) := by decide +kernel
theorem d_ClassPattern_matches_68 : decode b_ClassPattern_matches 68 = .ok (.aload_n 0, 1) := by decide +kernel
theorem d_ClassPattern_matches_69 : decode b_ClassPattern_matches 69 = .ok (.getfield 38, 3) := by decide +kernel
theorem d_ClassPattern_matches_72 : decode b_ClassPattern_matches 72 = .ok (.aload_n 0, 1) := by decide +kernel
theorem d_ClassPattern_matches_73 : decode b_ClassPattern_matches 73 = .ok (.getfield 42, 3) := by decide +kernel
theorem d_ClassPattern_matches_76 : decode b_ClassPattern_matches 76 = .ok (.invokevirtual 52, 3) := by decide +kernel
theorem d_ClassPattern_matches_79 : decode b_ClassPattern_matches 79 = .ok (.ireturn, 1) := by decide +kernel
theorem d_ClassPattern_matches_80 : decode b_ClassPattern_matches 80 = .ok (.aload_n 0, 1) := by decide +kernel
theorem d_ClassPattern_matches_81 : decode b_ClassPattern_matches 81 = .ok (.aload_n 1, 1) := by decide +kernel
theorem d_ClassPattern_matches_82 : decode b_ClassPattern_matches 82 = .ok (.getfield 58, 3) := by decide +kernel
theorem d_ClassPattern_matches_85 : decode b_ClassPattern_matches 85 = .ok (.invokevirtual 61, 3) := by decide +kernel
theorem d_ClassPattern_matches_88 : decode b_ClassPattern_matches 88 = .ok (.ifCond .eq 26, 3) := by decide +kernel
theorem d_ClassPattern_matches_91 : decode b_ClassPattern_matches 91 = .ok (.aload_n 1, 1) := by decide +kernel
theorem d_ClassPattern_matches_92 : decode b_ClassPattern_matches 92 = .ok (.getfield 58, 3) := by decide +kernel
theorem d_ClassPattern_matches_95 : decode b_ClassPattern_matches 95 = .ok (.aload_n 0, 1) := by decide +kernel
theorem d_ClassPattern_matches_96 : decode b_ClassPattern_matches 96 = .ok (.getfield 42, 3) := by decide +kernel
theorem d_ClassPattern_matches_99 : decode b_ClassPattern_matches 99 = .ok (.aload_n 0, 1) := by decide +kernel
theorem d_ClassPattern_matches_100 : decode b_ClassPattern_matches 100 = .ok (.getfield 38, 3) := by decide +kernel
theorem d_ClassPattern_matches_103 : decode b_ClassPattern_matches 103 = .ok (.isub, 1) := by decide +kernel
theorem d_ClassPattern_matches_104 : decode b_ClassPattern_matches 104 = .ok (.invokestatic 65, 3) := by decide +kernel
theorem d_ClassPattern_matches_107 : decode b_ClassPattern_matches 107 = .ok (.ifCond .ne 7, 3) := by decide +kernel
theorem d_ClassPattern_matches_110 : decode b_ClassPattern_matches 110 = .ok (.iconst 1, 1) := by decide +kernel
theorem d_ClassPattern_matches_111 : decode b_ClassPattern_matches 111 = .ok (.goto 4, 3) := by decide +kernel
theorem d_ClassPattern_matches_114 : decode b_ClassPattern_matches 114 = .ok (.iconst 0, 1) := by decide +kernel
theorem d_ClassPattern_matches_115 : decode b_ClassPattern_matches 115 = .ok (.ireturn, 1) := by decide +kernel
theorem d_ClassPattern_matches_116 : decode b_ClassPattern_matches 116 = .ok (.aload_n 0, 1) := by decide +kernel
theorem d_ClassPattern_matches_117 : decode b_ClassPattern_matches 117 = .ok (.aload_n 1, 1) := by decide +kernel
theorem d_ClassPattern_matches_118 : decode b_ClassPattern_matches 118 = .ok (.getfield 58, 3) := by decide +kernel
theorem d_ClassPattern_matches_121 : decode b_ClassPattern_matches 121 = .ok (.invokevirtual 61, 3) := by decide +kernel
theorem d_ClassPattern_matches_124 : decode b_ClassPattern_matches 124 = .ok (.ireturn, 1) := by decide +kernel
theorem d_ClassPattern_hasModule_0 : decode b_ClassPattern_hasModule 0 = .ok (.aload_n 0, 1) := by decide +kernel
theorem d_ClassPattern_hasModule_1 : decode b_ClassPattern_hasModule 1 = .ok (.getfield 34, 3) := by decide +kernel
theorem d_ClassPattern_hasModule_4 : decode b_ClassPattern_hasModule 4 = .ok (.aload_n 0, 1) := by decide +kernel
theorem d_ClassPattern_hasModule_5 : decode b_ClassPattern_hasModule 5 = .ok (.getfield 30, 3) := by decide +kernel
theorem d_ClassPattern_hasModule_8 : decode b_ClassPattern_hasModule 8 = .ok (.if_icmp .le 7, 3) := by decide +kernel
theorem d_ClassPattern_hasModule_11 : decode b_ClassPattern_hasModule 11 = .ok (.iconst 1, 1) := by decide +kernel
theorem d_ClassPattern_hasModule_12 : decode b_ClassPattern_hasModule 12 = .ok (.goto 4, 3) := by decide +kernel
theorem d_ClassPattern_hasModule_15 : decode b_ClassPattern_hasModule 15 = .ok (.iconst 0, 1) := by decide +kernel
theorem d_ClassPattern_hasModule_16 : decode b_ClassPattern_hasModule 16 = .ok (.ireturn, 1) := by decide +kernel
theorem d_Signs_isPart_0 : decode b_Signs_isPart 0 = .ok (.aload_n 0, 1) := by decide +kernel
theorem d_Signs_isPart_1 : decode b_Signs_isPart 1 = .ok (.getfield 15, 3) := by decide +kernel
theorem d_Signs_isPart_4 : decode b_Signs_isPart 4 = .ok (.iload_n 3, 1) := by decide +kernel
theorem d_Signs_isPart_5 : decode b_Signs_isPart 5 = .ok (.iload_n 2, 1) := by decide +kernel
theorem d_Signs_isPart_6 : decode b_Signs_isPart 6 = .ok (.isub, 1) := by decide +kernel
theorem d_Signs_isPart_7 : decode b_Signs_isPart 7 = .ok (.if_icmp .ne 17, 3) := by decide +kernel
theorem d_Signs_isPart_10 : decode b_Signs_isPart 10 = .ok (.aload_n 0, 1) := by decide +kernel
theorem d_Signs_isPart_11 : decode b_Signs_isPart 11 = .ok (.aload_n 1, 1) := by decide +kernel
theorem d_Signs_isPart_12 : decode b_Signs_isPart 12 = .ok (.iload_n 2, 1) := by decide +kernel
theorem d_Signs_isPart_13 : decode b_Signs_isPart 13 = .ok (.iload_n 3, 1) := by decide +kernel
theorem d_Signs_isPart_14 : decode b_Signs_isPart 14 = .ok (.invokevirtual 30, 3) := by decide +kernel
theorem d_Signs_isPart_17 : decode b_Signs_isPart 17 = .ok (.ifCond .eq 7, 3) := by decide +kernel
theorem d_Signs_isPart_20 : decode b_Signs_isPart 20 = .ok (.iconst 1, 1) := by decide +kernel
theorem d_Signs_isPart_21 : decode b_Signs_isPart 21 = .ok (.goto 4, 3) := by decide +kernel
theorem d_Signs_isPart_24 : decode b_Signs_isPart 24 = .ok (.iconst 0, 1) := by decide +kernel
theorem d_Signs_isPart_25 : decode b_Signs_isPart 25 = .ok (.ireturn, 1) := by decide +kernel
theorem d_ClassPattern_beginsName_0 : decode b_ClassPattern_beginsName 0 = .ok (.aload_n 1, 1) := by decide +kernel
theorem d_ClassPattern_beginsName_1 : decode b_ClassPattern_beginsName 1 = .ok (.aload_n 0, 1) := by decide +kernel
theorem d_ClassPattern_beginsName_2 : decode b_ClassPattern_beginsName 2 = .ok (.getfield 9, 3) := by decide +kernel
theorem d_ClassPattern_beginsName_5 : decode b_ClassPattern_beginsName 5 = .ok (.aload_n 0, 1) := by decide +kernel
theorem d_ClassPattern_beginsName_6 : decode b_ClassPattern_beginsName 6 = .ok (.getfield 38, 3) := by decide +kernel
theorem d_ClassPattern_beginsName_9 : decode b_ClassPattern_beginsName 9 = .ok (.aload_n 0, 1) := by decide +kernel
theorem d_ClassPattern_beginsName_10 : decode b_ClassPattern_beginsName 10 = .ok (.getfield 42, 3) := by decide +kernel
theorem d_ClassPattern_beginsName_13 : decode b_ClassPattern_beginsName 13 = .ok (.invokevirtual 69, 3) := by decide +kernel
theorem d_ClassPattern_beginsName_16 : decode b_ClassPattern_beginsName 16 = .ok (.ireturn, 1) := by decide +kernel
theorem d_ClassPattern_hasDotBehind_0 : decode b_ClassPattern_hasDotBehind 0 = .ok (.aload_n 0, 1) := by decide +kernel
theorem d_ClassPattern_hasDotBehind_1 : decode b_ClassPattern_hasDotBehind 1 = .ok (.bipush 46, 2) := by decide +kernel
theorem d_ClassPattern_hasDotBehind_3 : decode b_ClassPattern_hasDotBehind 3 = .ok (.iload_n 1, 1) := by decide +kernel
theorem d_ClassPattern_hasDotBehind_4 : decode b_ClassPattern_hasDotBehind 4 = .ok (.aload_n 0, 1) := by decide +kernel
theorem d_ClassPattern_hasDotBehind_5 : decode b_ClassPattern_hasDotBehind 5 = .ok (.invokevirtual 72, 3) := by decide +kernel
theorem d_ClassPattern_hasDotBehind_8 : decode b_ClassPattern_hasDotBehind 8 = .ok (.invokevirtual 76, 3) := by decide +kernel
theorem d_ClassPattern_hasDotBehind_11 : decode b_ClassPattern_hasDotBehind 11 = .ok (.aload_n 0, 1) := by decide +kernel
theorem d_ClassPattern_hasDotBehind_12 : decode b_ClassPattern_hasDotBehind 12 = .ok (.invokevirtual 72, 3) := by decide +kernel
theorem d_ClassPattern_hasDotBehind_15 : decode b_ClassPattern_hasDotBehind 15 = .ok (.if_icmp .ge 7, 3) := by decide +kernel
theorem d_ClassPattern_hasDotBehind_18 : decode b_ClassPattern_hasDotBehind 18 = .ok (.iconst 1, 1) := by decide +kernel
theorem d_ClassPattern_hasDotBehind_19 : decode b_ClassPattern_hasDotBehind 19 = .ok (.goto 4, 3) := by decide +kernel
theorem d_ClassPattern_hasDotBehind_22 : decode b_ClassPattern_hasDotBehind 22 = .ok (.iconst 0, 1) := by decide +kernel
theorem d_ClassPattern_hasDotBehind_23 : decode b_ClassPattern_hasDotBehind 23 = .ok (.ireturn, 1) := by decide +kernel
theorem d_ClassPattern_verdict_0 : decode b_ClassPattern_verdict 0 = .ok (.aload_n 0, 1) := by decide +kernel
theorem d_ClassPattern_verdict_1 : decode b_ClassPattern_verdict 1 = .ok (.getfield 21, 3) := by decide +kernel
theorem d_ClassPattern_verdict_4 : decode b_ClassPattern_verdict 4 = .ok (.ifCond .eq 7, 3) := by decide +kernel
theorem d_ClassPattern_verdict_7 : decode b_ClassPattern_verdict 7 = .ok (.iconst 2, 1) := by decide +kernel
theorem d_ClassPattern_verdict_8 : decode b_ClassPattern_verdict 8 = .ok (.goto 4, 3) := by decide +kernel
theorem d_ClassPattern_verdict_11 : decode b_ClassPattern_verdict 11 = .ok (.iconst 1, 1) := by decide +kernel
theorem d_ClassPattern_verdict_12 : decode b_ClassPattern_verdict 12 = .ok (.ireturn, 1) := by decide +kernel
theorem d_ClassPattern_fullShape_0 : decode b_ClassPattern_fullShape 0 = .ok (.aload_n 0, 1) := by decide +kernel
theorem d_ClassPattern_fullShape_1 : decode b_ClassPattern_fullShape 1 = .ok (.invokevirtual 43, 3) := by decide +kernel
theorem d_ClassPattern_fullShape_4 : decode b_ClassPattern_fullShape 4 = .ok (.ifCond .eq 13, 3) := by decide +kernel
theorem d_ClassPattern_fullShape_7 : decode b_ClassPattern_fullShape 7 = .ok (.bipush 10, 2) := by decide +kernel
theorem d_ClassPattern_fullShape_9 : decode b_ClassPattern_fullShape 9 = .ok (.aload_n 0, 1) := by decide +kernel
theorem d_ClassPattern_fullShape_10 : decode b_ClassPattern_fullShape 10 = .ok (.getfield 26, 3) := by decide +kernel
theorem d_ClassPattern_fullShape_13 : decode b_ClassPattern_fullShape 13 = .ok (.iadd, 1) := by decide +kernel
theorem d_ClassPattern_fullShape_14 : decode b_ClassPattern_fullShape 14 = .ok (.goto 7, 3) := by decide +kernel
theorem d_ClassPattern_fullShape_17 : decode b_ClassPattern_fullShape 17 = .ok (.aload_n 0, 1) := by decide +kernel
theorem d_ClassPattern_fullShape_18 : decode b_ClassPattern_fullShape 18 = .ok (.getfield 26, 3) := by decide +kernel
theorem d_ClassPattern_fullShape_21 : decode b_ClassPattern_fullShape 21 = .ok (.ireturn, 1) := by decide +kernel
