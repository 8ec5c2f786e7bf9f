theorem dX0_init_0 : decode cX0_init 0 = .ok (.aload_n 0, 1) := by decide +kernel
theorem dX0_init_1 : decode cX0_init 1 = .ok (.invokespecial 3, 3) := by decide +kernel
theorem dX0_init_4 : decode cX0_init 4 = .ok (.aload_n 0, 1) := by decide +kernel
theorem dX0_init_5 : decode cX0_init 5 = .ok (.sipush 256, 3) := by decide +kernel
theorem dX0_init_8 : decode cX0_init 8 = .ok (.newarray .int, 2) := by decide +kernel
theorem dX0_init_10 : decode cX0_init 10 = .ok (.putfield 9, 3) := by decide +kernel
theorem dX0_init_13 : decode cX0_init 13 = .ok (.return_, 1) := by decide +kernel
theorem dX0_becomeLong_0 : decode cX0_becomeLong 0 = .ok (.iload_n 1, 1) := by decide +kernel
theorem dX0_becomeLong_1 : decode cX0_becomeLong 1 = .ok (.ifCond .lt 10, 3) := by decide +kernel
theorem dX0_becomeLong_4 : decode cX0_becomeLong 4 = .ok (.iload_n 1, 1) := by decide +kernel
theorem dX0_becomeLong_5 : decode cX0_becomeLong 5 = .ok (.sipush 256, 3) := by decide +kernel
theorem dX0_becomeLong_8 : decode cX0_becomeLong 8 = .ok (.if_icmp .le 4, 3) := by decide +kernel
theorem dX0_becomeLong_11 : decode cX0_becomeLong 11 = .ok (.return_, 1) := by decide +kernel
theorem dX0_becomeLong_12 : decode cX0_becomeLong 12 = .ok (.aload_n 0, 1) := by decide +kernel
theorem dX0_becomeLong_13 : decode cX0_becomeLong 13 = .ok (.getfield 15, 3) := by decide +kernel
theorem dX0_becomeLong_16 : decode cX0_becomeLong 16 = .ok (.istore_n 2, 1) := by decide +kernel
theorem dX0_becomeLong_17 : decode cX0_becomeLong 17 = .ok (.iload_n 2, 1) := by decide +kernel
theorem dX0_becomeLong_18 : decode cX0_becomeLong 18 = .ok (.iload_n 1, 1) := by decide +kernel
theorem dX0_becomeLong_19 : decode cX0_becomeLong 19 = .ok (.if_icmp .ge 16, 3) := by decide +kernel
theorem dX0_becomeLong_22 : decode cX0_becomeLong 22 = .ok (.aload_n 0, 1) := by decide +kernel
theorem dX0_becomeLong_23 : decode cX0_becomeLong 23 = .ok (.getfield 9, 3) := by decide +kernel
theorem dX0_becomeLong_26 : decode cX0_becomeLong 26 = .ok (.iload_n 2, 1) := by decide +kernel
theorem dX0_becomeLong_27 : decode cX0_becomeLong 27 = .ok (.iconst 0, 1) := by decide +kernel
theorem dX0_becomeLong_28 : decode cX0_becomeLong 28 = .ok (.iastore, 1) := by decide +kernel
theorem dX0_becomeLong_29 : decode cX0_becomeLong 29 = .ok (.iinc 2 1, 3) := by decide +kernel
theorem dX0_becomeLong_32 : decode cX0_becomeLong 32 = .ok (.goto (-15), 3) := by decide +kernel
theorem dX0_becomeLong_35 : decode cX0_becomeLong 35 = .ok (.aload_n 0, 1) := by decide +kernel
theorem dX0_becomeLong_36 : decode cX0_becomeLong 36 = .ok (.iload_n 1, 1) := by decide +kernel
theorem dX0_becomeLong_37 : decode cX0_becomeLong 37 = .ok (.putfield 15, 3) := by decide +kernel
theorem dX0_becomeLong_40 : decode cX0_becomeLong 40 = .ok (.return_, 1) := by decide +kernel
theorem dX0_textOf_0 : decode cX0_textOf 0 = .ok (.iload_n 1, 1) := by decide +kernel
theorem dX0_textOf_1 : decode cX0_textOf 1 = .ok (.ifCond .lt 16, 3) := by decide +kernel
theorem dX0_textOf_4 : decode cX0_textOf 4 = .ok (.iload_n 2, 1) := by decide +kernel
theorem dX0_textOf_5 : decode cX0_textOf 5 = .ok (.iload_n 1, 1) := by decide +kernel
theorem dX0_textOf_6 : decode cX0_textOf 6 = .ok (.if_icmp .lt 11, 3) := by decide +kernel
theorem dX0_textOf_9 : decode cX0_textOf 9 = .ok (.iload_n 2, 1) := by decide +kernel
theorem dX0_textOf_10 : decode cX0_textOf 10 = .ok (.aload_n 0, 1) := by decide +kernel
theorem dX0_textOf_11 : decode cX0_textOf 11 = .ok (.getfield 15, 3) := by decide +kernel
theorem dX0_textOf_14 : decode cX0_textOf 14 = .ok (.if_icmp .le 6, 3) := by decide +kernel
theorem dX0_textOf_17 : decode cX0_textOf 17 = .ok (.ldc 50, 2) := by decide +kernel
theorem dX0_textOf_19 : decode cX0_textOf 19 = .ok (.areturn, 1) := by decide +kernel
theorem dX0_textOf_20 : decode cX0_textOf 20 = .ok (.iload_n 2, 1) := by decide +kernel
theorem dX0_textOf_21 : decode cX0_textOf 21 = .ok (.iload_n 1, 1) := by decide +kernel
theorem dX0_textOf_22 : decode cX0_textOf 22 = .ok (.isub, 1) := by decide +kernel
theorem dX0_textOf_23 : decode cX0_textOf 23 = .ok (.newarray .char, 2) := by decide +kernel
theorem dX0_textOf_25 : decode cX0_textOf 25 = .ok (.astore_n 3, 1) := by decide +kernel
theorem dX0_textOf_26 : decode cX0_textOf 26 = .ok (.iconst 0, 1) := by decide +kernel
theorem dX0_textOf_27 : decode cX0_textOf 27 = .ok (.istore 4, 2) := by decide +kernel
theorem dX0_textOf_29 : decode cX0_textOf 29 = .ok (.iload 4, 2) := by decide +kernel
theorem dX0_textOf_31 : decode cX0_textOf 31 = .ok (.aload_n 3, 1) := by decide +kernel
theorem dX0_textOf_32 : decode cX0_textOf 32 = .ok (.arraylength, 1) := by decide +kernel
theorem dX0_textOf_33 : decode cX0_textOf 33 = .ok (.if_icmp .ge 23, 3) := by decide +kernel
theorem dX0_textOf_36 : decode cX0_textOf 36 = .ok (.aload_n 3, 1) := by decide +kernel
theorem dX0_textOf_37 : decode cX0_textOf 37 = .ok (.iload 4, 2) := by decide +kernel
theorem dX0_textOf_39 : decode cX0_textOf 39 = .ok (.aload_n 0, 1) := by decide +kernel
theorem dX0_textOf_40 : decode cX0_textOf 40 = .ok (.getfield 9, 3) := by decide +kernel
theorem dX0_textOf_43 : decode cX0_textOf 43 = .ok (.iload_n 1, 1) := by decide +kernel
theorem dX0_textOf_44 : decode cX0_textOf 44 = .ok (.iload 4, 2) := by decide +kernel
theorem dX0_textOf_46 : decode cX0_textOf 46 = .ok (.iadd, 1) := by decide +kernel
theorem dX0_textOf_47 : decode cX0_textOf 47 = .ok (.iaload, 1) := by decide +kernel
theorem dX0_textOf_48 : decode cX0_textOf 48 = .ok (.i2c, 1) := by decide +kernel
theorem dX0_textOf_49 : decode cX0_textOf 49 = .ok (.castore, 1) := by decide +kernel
theorem dX0_textOf_50 : decode cX0_textOf 50 = .ok (.iinc 4 1, 3) := by decide +kernel
theorem dX0_textOf_53 : decode cX0_textOf 53 = .ok (.goto (-24), 3) := by decide +kernel
theorem dX0_textOf_56 : decode cX0_textOf 56 = .ok (.new 30, 3) := by decide +kernel
theorem dX0_textOf_59 : decode cX0_textOf 59 = .ok (.dup, 1) := by decide +kernel
theorem dX0_textOf_60 : decode cX0_textOf 60 = .ok (.aload_n 3, 1) := by decide +kernel
theorem dX0_textOf_61 : decode cX0_textOf 61 = .ok (.invokespecial 52, 3) := by decide +kernel
theorem dX0_textOf_64 : decode cX0_textOf 64 = .ok (.areturn, 1) := by decide +kernel
theorem dX1_init_0 : decode cX1_init 0 = .ok (.aload_n 0, 1) := by decide +kernel
theorem dX1_init_1 : decode cX1_init 1 = .ok (.invokespecial 1, 3) := by decide +kernel
theorem dX1_init_4 : decode cX1_init 4 = .ok (.aload_n 0, 1) := by decide +kernel
theorem dX1_init_5 : decode cX1_init 5 = .ok (.iconst 4, 1) := by decide +kernel
theorem dX1_init_6 : decode cX1_init 6 = .ok (.anewarray 9, 3) := by decide +kernel
theorem dX1_init_9 : decode cX1_init 9 = .ok (.putfield 11, 3) := by decide +kernel
theorem dX1_init_12 : decode cX1_init 12 = .ok (.iconst 0, 1) := by decide +kernel
theorem dX1_init_13 : decode cX1_init 13 = .ok (.istore_n 1, 1) := by decide +kernel
theorem dX1_init_14 : decode cX1_init 14 = .ok (.iload_n 1, 1) := by decide +kernel
theorem dX1_init_15 : decode cX1_init 15 = .ok (.iconst 4, 1) := by decide +kernel
theorem dX1_init_16 : decode cX1_init 16 = .ok (.if_icmp .ge 22, 3) := by decide +kernel
theorem dX1_init_19 : decode cX1_init 19 = .ok (.aload_n 0, 1) := by decide +kernel
theorem dX1_init_20 : decode cX1_init 20 = .ok (.getfield 11, 3) := by decide +kernel
theorem dX1_init_23 : decode cX1_init 23 = .ok (.iload_n 1, 1) := by decide +kernel
theorem dX1_init_24 : decode cX1_init 24 = .ok (.new 9, 3) := by decide +kernel
theorem dX1_init_27 : decode cX1_init 27 = .ok (.dup, 1) := by decide +kernel
theorem dX1_init_28 : decode cX1_init 28 = .ok (.invokespecial 15, 3) := by decide +kernel
theorem dX1_init_31 : decode cX1_init 31 = .ok (.aastore, 1) := by decide +kernel
theorem dX1_init_32 : decode cX1_init 32 = .ok (.iinc 1 1, 3) := by decide +kernel
theorem dX1_init_35 : decode cX1_init 35 = .ok (.goto (-21), 3) := by decide +kernel
theorem dX1_init_38 : decode cX1_init 38 = .ok (.aload_n 0, 1) := by decide +kernel
theorem dX1_init_39 : decode cX1_init 39 = .ok (.new 9, 3) := by decide +kernel
theorem dX1_init_42 : decode cX1_init 42 = .ok (.dup, 1) := by decide +kernel
theorem dX1_init_43 : decode cX1_init 43 = .ok (.invokespecial 15, 3) := by decide +kernel
theorem dX1_init_46 : decode cX1_init 46 = .ok (.putfield 16, 3) := by decide +kernel
theorem dX1_init_49 : decode cX1_init 49 = .ok (.aload_n 0, 1) := by decide +kernel
theorem dX1_init_50 : decode cX1_init 50 = .ok (.new 9, 3) := by decide +kernel
theorem dX1_init_53 : decode cX1_init 53 = .ok (.dup, 1) := by decide +kernel
theorem dX1_init_54 : decode cX1_init 54 = .ok (.invokespecial 15, 3) := by decide +kernel
theorem dX1_init_57 : decode cX1_init 57 = .ok (.putfield 20, 3) := by decide +kernel
theorem dX1_init_60 : decode cX1_init 60 = .ok (.aload_n 0, 1) := by decide +kernel
theorem dX1_init_61 : decode cX1_init 61 = .ok (.new 9, 3) := by decide +kernel
theorem dX1_init_64 : decode cX1_init 64 = .ok (.dup, 1) := by decide +kernel
theorem dX1_init_65 : decode cX1_init 65 = .ok (.invokespecial 15, 3) := by decide +kernel
theorem dX1_init_68 : decode cX1_init 68 = .ok (.putfield 23, 3) := by decide +kernel
theorem dX1_init_71 : decode cX1_init 71 = .ok (.return_, 1) := by decide +kernel
theorem dX1_setLength_0 : decode cX1_setLength 0 = .ok (.aload_n 0, 1) := by decide +kernel
theorem dX1_setLength_1 : decode cX1_setLength 1 = .ok (.iload_n 1, 1) := by decide +kernel
theorem dX1_setLength_2 : decode cX1_setLength 2 = .ok (.invokevirtual 26, 3) := by decide +kernel
theorem dX1_setLength_5 : decode cX1_setLength 5 = .ok (.astore_n 3, 1) := by decide +kernel
theorem dX1_setLength_6 : decode cX1_setLength 6 = .ok (.iload_n 2, 1) := by decide +kernel
theorem dX1_setLength_7 : decode cX1_setLength 7 = .ok (.invokestatic 112, 3) := by decide +kernel
theorem dX1_setLength_10 : decode cX1_setLength 10 = .ok (.aload_n 3, 1) := by decide +kernel
theorem dX1_setLength_11 : decode cX1_setLength 11 = .ok (.getfield 92, 3) := by decide +kernel
theorem dX1_setLength_14 : decode cX1_setLength 14 = .ok (.istore 4, 2) := by decide +kernel
theorem dX1_setLength_16 : decode cX1_setLength 16 = .ok (.aload_n 3, 1) := by decide +kernel
theorem dX1_setLength_17 : decode cX1_setLength 17 = .ok (.iload_n 2, 1) := by decide +kernel
theorem dX1_setLength_18 : decode cX1_setLength 18 = .ok (.invokevirtual 115, 3) := by decide +kernel
theorem dX1_setLength_21 : decode cX1_setLength 21 = .ok (.iload 4, 2) := by decide +kernel
theorem dX1_setLength_23 : decode cX1_setLength 23 = .ok (.ireturn, 1) := by decide +kernel
theorem dX1_text_0 : decode cX1_text 0 = .ok (.aload_n 0, 1) := by decide +kernel
theorem dX1_text_1 : decode cX1_text 1 = .ok (.iload_n 1, 1) := by decide +kernel
theorem dX1_text_2 : decode cX1_text 2 = .ok (.invokevirtual 26, 3) := by decide +kernel
theorem dX1_text_5 : decode cX1_text 5 = .ok (.astore_n 2, 1) := by decide +kernel
theorem dX1_text_6 : decode cX1_text 6 = .ok (.aload_n 2, 1) := by decide +kernel
theorem dX1_text_7 : decode cX1_text 7 = .ok (.iconst 0, 1) := by decide +kernel
theorem dX1_text_8 : decode cX1_text 8 = .ok (.aload_n 2, 1) := by decide +kernel
theorem dX1_text_9 : decode cX1_text 9 = .ok (.getfield 92, 3) := by decide +kernel
theorem dX1_text_12 : decode cX1_text 12 = .ok (.invokevirtual 137, 3) := by decide +kernel
theorem dX1_text_15 : decode cX1_text 15 = .ok (.areturn, 1) := by decide +kernel
theorem dX1_checkTape_0 : decode cX1_checkTape 0 = .ok (.iload_n 0, 1) := by decide +kernel
theorem dX1_checkTape_1 : decode cX1_checkTape 1 = .ok (.ifCond .lt 8, 3) := by decide +kernel
theorem dX1_checkTape_4 : decode cX1_checkTape 4 = .ok (.iload_n 0, 1) := by decide +kernel
theorem dX1_checkTape_5 : decode cX1_checkTape 5 = .ok (.iconst 4, 1) := by decide +kernel
theorem dX1_checkTape_6 : decode cX1_checkTape 6 = .ok (.if_icmp .lt 13, 3) := by decide +kernel
theorem dX1_checkTape_9 : decode cX1_checkTape 9 = .ok (.new 236, 3) := by decide +kernel
theorem dX1_checkTape_12 : decode cX1_checkTape 12 = .ok (.dup, 1) := by decide +kernel
theorem dX1_checkTape_13 : decode cX1_checkTape 13 = .ok (.ldc 238, 2) := by decide +kernel
theorem dX1_checkTape_15 : decode cX1_checkTape 15 = .ok (.invokespecial 240, 3) := by decide +kernel
theorem dX1_checkTape_18 : decode cX1_checkTape 18 = .ok (.athrow, 1) := by decide +kernel
theorem dX1_checkTape_19 : decode cX1_checkTape 19 = .ok (.return_, 1) := by decide +kernel
theorem dX1_checkLength_0 : decode cX1_checkLength 0 = .ok (.iload_n 0, 1) := by decide +kernel
theorem dX1_checkLength_1 : decode cX1_checkLength 1 = .ok (.ifCond .lt 10, 3) := by decide +kernel
theorem dX1_checkLength_4 : decode cX1_checkLength 4 = .ok (.iload_n 0, 1) := by decide +kernel
theorem dX1_checkLength_5 : decode cX1_checkLength 5 = .ok (.sipush 200, 3) := by decide +kernel
theorem dX1_checkLength_8 : decode cX1_checkLength 8 = .ok (.if_icmp .le 13, 3) := by decide +kernel
theorem dX1_checkLength_11 : decode cX1_checkLength 11 = .ok (.new 185, 3) := by decide +kernel
theorem dX1_checkLength_14 : decode cX1_checkLength 14 = .ok (.dup, 1) := by decide +kernel
theorem dX1_checkLength_15 : decode cX1_checkLength 15 = .ok (.ldc 253, 2) := by decide +kernel
theorem dX1_checkLength_17 : decode cX1_checkLength 17 = .ok (.invokespecial 189, 3) := by decide +kernel
theorem dX1_checkLength_20 : decode cX1_checkLength 20 = .ok (.athrow, 1) := by decide +kernel
theorem dX1_checkLength_21 : decode cX1_checkLength 21 = .ok (.return_, 1) := by decide +kernel
theorem dX1_tapeOf_0 : decode cX1_tapeOf 0 = .ok (.iload_n 1, 1) := by decide +kernel
theorem dX1_tapeOf_1 : decode cX1_tapeOf 1 = .ok (.invokestatic 128, 3) := by decide +kernel
theorem dX1_tapeOf_4 : decode cX1_tapeOf 4 = .ok (.aload_n 0, 1) := by decide +kernel
theorem dX1_tapeOf_5 : decode cX1_tapeOf 5 = .ok (.getfield 11, 3) := by decide +kernel
theorem dX1_tapeOf_8 : decode cX1_tapeOf 8 = .ok (.iload_n 1, 1) := by decide +kernel
theorem dX1_tapeOf_9 : decode cX1_tapeOf 9 = .ok (.aaload, 1) := by decide +kernel
theorem dX1_tapeOf_10 : decode cX1_tapeOf 10 = .ok (.areturn, 1) := by decide +kernel
theorem dX2_init_0 : decode cX2_init 0 = .ok (.aload_n 0, 1) := by decide +kernel
theorem dX2_init_1 : decode cX2_init 1 = .ok (.invokespecial 1, 3) := by decide +kernel
theorem dX2_init_4 : decode cX2_init 4 = .ok (.return_, 1) := by decide +kernel
theorem dX3_init_0 : decode cX3_init 0 = .ok (.aload_n 0, 1) := by decide +kernel
theorem dX3_init_1 : decode cX3_init 1 = .ok (.invokespecial 1, 3) := by decide +kernel
theorem dX3_init_4 : decode cX3_init 4 = .ok (.aload_n 0, 1) := by decide +kernel
theorem dX3_init_5 : decode cX3_init 5 = .ok (.iconst 4, 1) := by decide +kernel
theorem dX3_init_6 : decode cX3_init 6 = .ok (.iconst 0, 1) := by decide +kernel
theorem dX3_init_7 : decode cX3_init 7 = .ok (.multianewarray 9 2, 4) := by decide +kernel
theorem dX3_init_11 : decode cX3_init 11 = .ok (.putfield 11, 3) := by decide +kernel
theorem dX3_init_14 : decode cX3_init 14 = .ok (.aload_n 0, 1) := by decide +kernel
theorem dX3_init_15 : decode cX3_init 15 = .ok (.iconst 0, 1) := by decide +kernel
theorem dX3_init_16 : decode cX3_init 16 = .ok (.newarray .int, 2) := by decide +kernel
theorem dX3_init_18 : decode cX3_init 18 = .ok (.putfield 14, 3) := by decide +kernel
theorem dX3_init_21 : decode cX3_init 21 = .ok (.return_, 1) := by decide +kernel
theorem dX3_thrown_0 : decode cX3_thrown 0 = .ok (.aload_n 0, 1) := by decide +kernel
theorem dX3_thrown_1 : decode cX3_thrown 1 = .ok (.getfield 18, 3) := by decide +kernel
theorem dX3_thrown_4 : decode cX3_thrown 4 = .ok (.ireturn, 1) := by decide +kernel
theorem dX3_isIn_0 : decode cX3_isIn 0 = .ok (.lload_n 0, 1) := by decide +kernel
theorem dX3_isIn_1 : decode cX3_isIn 1 = .ok (.lload_n 2, 1) := by decide +kernel
theorem dX3_isIn_2 : decode cX3_isIn 2 = .ok (.lcmp, 1) := by decide +kernel
theorem dX3_isIn_3 : decode cX3_isIn 3 = .ok (.ifCond .lt 14, 3) := by decide +kernel
theorem dX3_isIn_6 : decode cX3_isIn 6 = .ok (.lload_n 0, 1) := by decide +kernel
theorem dX3_isIn_7 : decode cX3_isIn 7 = .ok (.lload 4, 2) := by decide +kernel
theorem dX3_isIn_9 : decode cX3_isIn 9 = .ok (.lcmp, 1) := by decide +kernel
theorem dX3_isIn_10 : decode cX3_isIn 10 = .ok (.ifCond .gt 7, 3) := by decide +kernel
theorem dX3_isIn_13 : decode cX3_isIn 13 = .ok (.iconst 1, 1) := by decide +kernel
theorem dX3_isIn_14 : decode cX3_isIn 14 = .ok (.goto 4, 3) := by decide +kernel
theorem dX3_isIn_17 : decode cX3_isIn 17 = .ok (.iconst 0, 1) := by decide +kernel
theorem dX3_isIn_18 : decode cX3_isIn 18 = .ok (.ireturn, 1) := by decide +kernel
theorem dX3_refuse_0 : decode cX3_refuse 0 = .ok (.iload_n 1, 1) := by decide +kernel
theorem dX3_refuse_1 : decode cX3_refuse 1 = .ok (.ifCond .eq 15, 3) := by decide +kernel
theorem dX3_refuse_4 : decode cX3_refuse 4 = .ok (.aload_n 0, 1) := by decide +kernel
theorem dX3_refuse_5 : decode cX3_refuse 5 = .ok (.getfield 18, 3) := by decide +kernel
theorem dX3_refuse_8 : decode cX3_refuse 8 = .ok (.ifCond .ne 8, 3) := by decide +kernel
theorem dX3_refuse_11 : decode cX3_refuse 11 = .ok (.aload_n 0, 1) := by decide +kernel
theorem dX3_refuse_12 : decode cX3_refuse 12 = .ok (.iload_n 2, 1) := by decide +kernel
theorem dX3_refuse_13 : decode cX3_refuse 13 = .ok (.putfield 18, 3) := by decide +kernel
theorem dX3_refuse_16 : decode cX3_refuse 16 = .ok (.aload_n 0, 1) := by decide +kernel
theorem dX3_refuse_17 : decode cX3_refuse 17 = .ok (.getfield 18, 3) := by decide +kernel
theorem dX3_refuse_20 : decode cX3_refuse 20 = .ok (.ifCond .le 7, 3) := by decide +kernel
theorem dX3_refuse_23 : decode cX3_refuse 23 = .ok (.iconst 1, 1) := by decide +kernel
theorem dX3_refuse_24 : decode cX3_refuse 24 = .ok (.goto 4, 3) := by decide +kernel
theorem dX3_refuse_27 : decode cX3_refuse 27 = .ok (.iconst 0, 1) := by decide +kernel
theorem dX3_refuse_28 : decode cX3_refuse 28 = .ok (.ireturn, 1) := by decide +kernel
theorem dX3_start_0 : decode cX3_start 0 = .ok (.aload_n 0, 1) := by decide +kernel
theorem dX3_start_1 : decode cX3_start 1 = .ok (.iconst 0, 1) := by decide +kernel
theorem dX3_start_2 : decode cX3_start 2 = .ok (.putfield 18, 3) := by decide +kernel
theorem dX3_start_5 : decode cX3_start 5 = .ok (.aload_n 0, 1) := by decide +kernel
theorem dX3_start_6 : decode cX3_start 6 = .ok (.iload_n 1, 1) := by decide +kernel
theorem dX3_start_7 : decode cX3_start 7 = .ok (.iload_n 2, 1) := by decide +kernel
theorem dX3_start_8 : decode cX3_start 8 = .ok (.invokevirtual 22, 3) := by decide +kernel
theorem dX3_start_11 : decode cX3_start 11 = .ok (.ireturn, 1) := by decide +kernel
theorem dX3_isNoTape_0 : decode cX3_isNoTape 0 = .ok (.iload_n 0, 1) := by decide +kernel
theorem dX3_isNoTape_1 : decode cX3_isNoTape 1 = .ok (.i2l, 1) := by decide +kernel
theorem dX3_isNoTape_2 : decode cX3_isNoTape 2 = .ok (.lconst 0, 1) := by decide +kernel
theorem dX3_isNoTape_3 : decode cX3_isNoTape 3 = .ok (.ldc2_w 26, 3) := by decide +kernel
theorem dX3_isNoTape_6 : decode cX3_isNoTape 6 = .ok (.invokestatic 28, 3) := by decide +kernel
theorem dX3_isNoTape_9 : decode cX3_isNoTape 9 = .ok (.ifCond .ne 7, 3) := by decide +kernel
theorem dX3_isNoTape_12 : decode cX3_isNoTape 12 = .ok (.iconst 1, 1) := by decide +kernel
theorem dX3_isNoTape_13 : decode cX3_isNoTape 13 = .ok (.goto 4, 3) := by decide +kernel
theorem dX3_isNoTape_16 : decode cX3_isNoTape 16 = .ok (.iconst 0, 1) := by decide +kernel
theorem dX3_isNoTape_17 : decode cX3_isNoTape 17 = .ok (.ireturn, 1) := by decide +kernel
theorem dX3_text_0 : decode cX3_text 0 = .ok (.ldc 50, 2) := by decide +kernel
theorem dX3_text_2 : decode cX3_text 2 = .ok (.astore_n 1, 1) := by decide +kernel
theorem dX3_text_3 : decode cX3_text 3 = .ok (.aload_n 0, 1) := by decide +kernel
theorem dX3_text_4 : decode cX3_text 4 = .ok (.astore_n 2, 1) := by decide +kernel
theorem dX3_text_5 : decode cX3_text 5 = .ok (.aload_n 2, 1) := by decide +kernel
theorem dX3_text_6 : decode cX3_text 6 = .ok (.arraylength, 1) := by decide +kernel
theorem dX3_text_7 : decode cX3_text 7 = .ok (.istore_n 3, 1) := by decide +kernel
theorem dX3_text_8 : decode cX3_text 8 = .ok (.iconst 0, 1) := by decide +kernel
theorem dX3_text_9 : decode cX3_text 9 = .ok (.istore 4, 2) := by decide +kernel
theorem dX3_text_11 : decode cX3_text 11 = .ok (.iload 4, 2) := by decide +kernel
theorem dX3_text_13 : decode cX3_text 13 = .ok (.iload_n 3, 1) := by decide +kernel
theorem dX3_text_14 : decode cX3_text 14 = .ok (.if_icmp .ge 36, 3) := by decide +kernel
theorem dX3_text_17 : decode cX3_text 17 = .ok (.aload_n 2, 1) := by decide +kernel
theorem dX3_text_18 : decode cX3_text 18 = .ok (.iload 4, 2) := by decide +kernel
theorem dX3_text_20 : decode cX3_text 20 = .ok (.iaload, 1) := by decide +kernel
theorem dX3_text_21 : decode cX3_text 21 = .ok (.istore 5, 2) := by decide +kernel
theorem dX3_text_23 : decode cX3_text 23 = .ok (.new 52, 3) := by decide +kernel
theorem dX3_text_26 : decode cX3_text 26 = .ok (.dup, 1) := by decide +kernel
theorem dX3_text_27 : decode cX3_text 27 = .ok (.invokespecial 54, 3) := by decide +kernel
theorem dX3_text_30 : decode cX3_text 30 = .ok (.aload_n 1, 1) := by decide +kernel
theorem dX3_text_31 : decode cX3_text 31 = .ok (.invokevirtual 55, 3) := by decide +kernel
theorem dX3_text_34 : decode cX3_text 34 = .ok (.iload 5, 2) := by decide +kernel
theorem dX3_text_36 : decode cX3_text 36 = .ok (.i2c, 1) := by decide +kernel
theorem dX3_text_37 : decode cX3_text 37 = .ok (.invokevirtual 59, 3) := by decide +kernel
theorem dX3_text_40 : decode cX3_text 40 = .ok (.invokevirtual 62, 3) := by decide +kernel
theorem dX3_text_43 : decode cX3_text 43 = .ok (.astore_n 1, 1) := by decide +kernel
theorem dX3_text_44 : decode cX3_text 44 = .ok (.iinc 4 1, 3) := by decide +kernel
theorem dX3_text_47 : decode cX3_text 47 = .ok (.goto (-36), 3) := by decide +kernel
theorem dX3_text_50 : decode cX3_text 50 = .ok (.aload_n 1, 1) := by decide +kernel
theorem dX3_text_51 : decode cX3_text 51 = .ok (.areturn, 1) := by decide +kernel
theorem dX3_part_0 : decode cX3_part 0 = .ok (.iload_n 2, 1) := by decide +kernel
theorem dX3_part_1 : decode cX3_part 1 = .ok (.iload_n 1, 1) := by decide +kernel
theorem dX3_part_2 : decode cX3_part 2 = .ok (.isub, 1) := by decide +kernel
theorem dX3_part_3 : decode cX3_part 3 = .ok (.newarray .int, 2) := by decide +kernel
theorem dX3_part_5 : decode cX3_part 5 = .ok (.astore_n 3, 1) := by decide +kernel
theorem dX3_part_6 : decode cX3_part 6 = .ok (.iload_n 1, 1) := by decide +kernel
theorem dX3_part_7 : decode cX3_part 7 = .ok (.istore 4, 2) := by decide +kernel
theorem dX3_part_9 : decode cX3_part 9 = .ok (.iload 4, 2) := by decide +kernel
theorem dX3_part_11 : decode cX3_part 11 = .ok (.iload_n 2, 1) := by decide +kernel
theorem dX3_part_12 : decode cX3_part 12 = .ok (.if_icmp .ge 19, 3) := by decide +kernel
theorem dX3_part_15 : decode cX3_part 15 = .ok (.aload_n 3, 1) := by decide +kernel
theorem dX3_part_16 : decode cX3_part 16 = .ok (.iload 4, 2) := by decide +kernel
theorem dX3_part_18 : decode cX3_part 18 = .ok (.iload_n 1, 1) := by decide +kernel
theorem dX3_part_19 : decode cX3_part 19 = .ok (.isub, 1) := by decide +kernel
theorem dX3_part_20 : decode cX3_part 20 = .ok (.aload_n 0, 1) := by decide +kernel
theorem dX3_part_21 : decode cX3_part 21 = .ok (.iload 4, 2) := by decide +kernel
theorem dX3_part_23 : decode cX3_part 23 = .ok (.iaload, 1) := by decide +kernel
theorem dX3_part_24 : decode cX3_part 24 = .ok (.iastore, 1) := by decide +kernel
theorem dX3_part_25 : decode cX3_part 25 = .ok (.iinc 4 1, 3) := by decide +kernel
theorem dX3_part_28 : decode cX3_part 28 = .ok (.goto (-19), 3) := by decide +kernel
theorem dX3_part_31 : decode cX3_part 31 = .ok (.aload_n 3, 1) := by decide +kernel
theorem dX3_part_32 : decode cX3_part 32 = .ok (.areturn, 1) := by decide +kernel
theorem dX3_joined_0 : decode cX3_joined 0 = .ok (.aload_n 0, 1) := by decide +kernel
theorem dX3_joined_1 : decode cX3_joined 1 = .ok (.arraylength, 1) := by decide +kernel
theorem dX3_joined_2 : decode cX3_joined 2 = .ok (.aload_n 1, 1) := by decide +kernel
theorem dX3_joined_3 : decode cX3_joined 3 = .ok (.arraylength, 1) := by decide +kernel
theorem dX3_joined_4 : decode cX3_joined 4 = .ok (.iadd, 1) := by decide +kernel
theorem dX3_joined_5 : decode cX3_joined 5 = .ok (.newarray .int, 2) := by decide +kernel
theorem dX3_joined_7 : decode cX3_joined 7 = .ok (.astore_n 2, 1) := by decide +kernel
theorem dX3_joined_8 : decode cX3_joined 8 = .ok (.iconst 0, 1) := by decide +kernel
theorem dX3_joined_9 : decode cX3_joined 9 = .ok (.istore_n 3, 1) := by decide +kernel
theorem dX3_joined_10 : decode cX3_joined 10 = .ok (.iload_n 3, 1) := by decide +kernel
theorem dX3_joined_11 : decode cX3_joined 11 = .ok (.aload_n 2, 1) := by decide +kernel
theorem dX3_joined_12 : decode cX3_joined 12 = .ok (.arraylength, 1) := by decide +kernel
theorem dX3_joined_13 : decode cX3_joined 13 = .ok (.if_icmp .ge 30, 3) := by decide +kernel
theorem dX3_joined_16 : decode cX3_joined 16 = .ok (.aload_n 2, 1) := by decide +kernel
theorem dX3_joined_17 : decode cX3_joined 17 = .ok (.iload_n 3, 1) := by decide +kernel
theorem dX3_joined_18 : decode cX3_joined 18 = .ok (.iload_n 3, 1) := by decide +kernel
theorem dX3_joined_19 : decode cX3_joined 19 = .ok (.aload_n 0, 1) := by decide +kernel
theorem dX3_joined_20 : decode cX3_joined 20 = .ok (.arraylength, 1) := by decide +kernel
theorem dX3_joined_21 : decode cX3_joined 21 = .ok (.if_icmp .ge 9, 3) := by decide +kernel
theorem dX3_joined_24 : decode cX3_joined 24 = .ok (.aload_n 0, 1) := by decide +kernel
theorem dX3_joined_25 : decode cX3_joined 25 = .ok (.iload_n 3, 1) := by decide +kernel
theorem dX3_joined_26 : decode cX3_joined 26 = .ok (.iaload, 1) := by decide +kernel
theorem dX3_joined_27 : decode cX3_joined 27 = .ok (.goto 9, 3) := by decide +kernel
theorem dX3_joined_30 : decode cX3_joined 30 = .ok (.aload_n 1, 1) := by decide +kernel
theorem dX3_joined_31 : decode cX3_joined 31 = .ok (.iload_n 3, 1) := by decide +kernel
theorem dX3_joined_32 : decode cX3_joined 32 = .ok (.aload_n 0, 1) := by decide +kernel
theorem dX3_joined_33 : decode cX3_joined 33 = .ok (.arraylength, 1) := by decide +kernel
theorem dX3_joined_34 : decode cX3_joined 34 = .ok (.isub, 1) := by decide +kernel
theorem dX3_joined_35 : decode cX3_joined 35 = .ok (.iaload, 1) := by decide +kernel
theorem dX3_joined_36 : decode cX3_joined 36 = .ok (.iastore, 1) := by decide +kernel
theorem dX3_joined_37 : decode cX3_joined 37 = .ok (.iinc 3 1, 3) := by decide +kernel
theorem dX3_joined_40 : decode cX3_joined 40 = .ok (.goto (-30), 3) := by decide +kernel
theorem dX3_joined_43 : decode cX3_joined 43 = .ok (.aload_n 2, 1) := by decide +kernel
theorem dX3_joined_44 : decode cX3_joined 44 = .ok (.areturn, 1) := by decide +kernel
theorem dX3_setLength_0 : decode cX3_setLength 0 = .ok (.aload_n 0, 1) := by decide +kernel
theorem dX3_setLength_1 : decode cX3_setLength 1 = .ok (.iload_n 1, 1) := by decide +kernel
theorem dX3_setLength_2 : decode cX3_setLength 2 = .ok (.invokestatic 36, 3) := by decide +kernel
theorem dX3_setLength_5 : decode cX3_setLength 5 = .ok (.iconst 1, 1) := by decide +kernel
theorem dX3_setLength_6 : decode cX3_setLength 6 = .ok (.invokevirtual 104, 3) := by decide +kernel
theorem dX3_setLength_9 : decode cX3_setLength 9 = .ok (.ifCond .ne 28, 3) := by decide +kernel
theorem dX3_setLength_12 : decode cX3_setLength 12 = .ok (.aload_n 0, 1) := by decide +kernel
theorem dX3_setLength_13 : decode cX3_setLength 13 = .ok (.iload_n 2, 1) := by decide +kernel
theorem dX3_setLength_14 : decode cX3_setLength 14 = .ok (.i2l, 1) := by decide +kernel
theorem dX3_setLength_15 : decode cX3_setLength 15 = .ok (.lconst 0, 1) := by decide +kernel
theorem dX3_setLength_16 : decode cX3_setLength 16 = .ok (.ldc2_w 143, 3) := by decide +kernel
theorem dX3_setLength_19 : decode cX3_setLength 19 = .ok (.invokestatic 28, 3) := by decide +kernel
theorem dX3_setLength_22 : decode cX3_setLength 22 = .ok (.ifCond .ne 7, 3) := by decide +kernel
theorem dX3_setLength_25 : decode cX3_setLength 25 = .ok (.iconst 1, 1) := by decide +kernel
theorem dX3_setLength_26 : decode cX3_setLength 26 = .ok (.goto 4, 3) := by decide +kernel
theorem dX3_setLength_29 : decode cX3_setLength 29 = .ok (.iconst 0, 1) := by decide +kernel
theorem dX3_setLength_30 : decode cX3_setLength 30 = .ok (.iconst 2, 1) := by decide +kernel
theorem dX3_setLength_31 : decode cX3_setLength 31 = .ok (.invokevirtual 22, 3) := by decide +kernel
theorem dX3_setLength_34 : decode cX3_setLength 34 = .ok (.ifCond .eq 5, 3) := by decide +kernel
theorem dX3_setLength_37 : decode cX3_setLength 37 = .ok (.iconst 0, 1) := by decide +kernel
theorem dX3_setLength_38 : decode cX3_setLength 38 = .ok (.ireturn, 1) := by decide +kernel
theorem dX3_setLength_39 : decode cX3_setLength 39 = .ok (.aload_n 0, 1) := by decide +kernel
theorem dX3_setLength_40 : decode cX3_setLength 40 = .ok (.getfield 11, 3) := by decide +kernel
theorem dX3_setLength_43 : decode cX3_setLength 43 = .ok (.iload_n 1, 1) := by decide +kernel
theorem dX3_setLength_44 : decode cX3_setLength 44 = .ok (.aaload, 1) := by decide +kernel
theorem dX3_setLength_45 : decode cX3_setLength 45 = .ok (.arraylength, 1) := by decide +kernel
theorem dX3_setLength_46 : decode cX3_setLength 46 = .ok (.istore_n 3, 1) := by decide +kernel
theorem dX3_setLength_47 : decode cX3_setLength 47 = .ok (.aload_n 0, 1) := by decide +kernel
theorem dX3_setLength_48 : decode cX3_setLength 48 = .ok (.getfield 11, 3) := by decide +kernel
theorem dX3_setLength_51 : decode cX3_setLength 51 = .ok (.iload_n 1, 1) := by decide +kernel
theorem dX3_setLength_52 : decode cX3_setLength 52 = .ok (.aload_n 0, 1) := by decide +kernel
theorem dX3_setLength_53 : decode cX3_setLength 53 = .ok (.getfield 11, 3) := by decide +kernel
theorem dX3_setLength_56 : decode cX3_setLength 56 = .ok (.iload_n 1, 1) := by decide +kernel
theorem dX3_setLength_57 : decode cX3_setLength 57 = .ok (.aaload, 1) := by decide +kernel
theorem dX3_setLength_58 : decode cX3_setLength 58 = .ok (.sipush 200, 3) := by decide +kernel
theorem dX3_setLength_61 : decode cX3_setLength 61 = .ok (.newarray .int, 2) := by decide +kernel
theorem dX3_setLength_63 : decode cX3_setLength 63 = .ok (.invokestatic 96, 3) := by decide +kernel
theorem dX3_setLength_66 : decode cX3_setLength 66 = .ok (.iconst 0, 1) := by decide +kernel
theorem dX3_setLength_67 : decode cX3_setLength 67 = .ok (.iload_n 2, 1) := by decide +kernel
theorem dX3_setLength_68 : decode cX3_setLength 68 = .ok (.invokestatic 89, 3) := by decide +kernel
theorem dX3_setLength_71 : decode cX3_setLength 71 = .ok (.aastore, 1) := by decide +kernel
theorem dX3_setLength_72 : decode cX3_setLength 72 = .ok (.iload_n 3, 1) := by decide +kernel
theorem dX3_setLength_73 : decode cX3_setLength 73 = .ok (.ireturn, 1) := by decide +kernel
theorem dX3_text__0 : decode cX3_text_ 0 = .ok (.aload_n 0, 1) := by decide +kernel
theorem dX3_text__1 : decode cX3_text_ 1 = .ok (.iload_n 1, 1) := by decide +kernel
theorem dX3_text__2 : decode cX3_text_ 2 = .ok (.invokestatic 36, 3) := by decide +kernel
theorem dX3_text__5 : decode cX3_text_ 5 = .ok (.iconst 1, 1) := by decide +kernel
theorem dX3_text__6 : decode cX3_text_ 6 = .ok (.invokevirtual 104, 3) := by decide +kernel
theorem dX3_text__9 : decode cX3_text_ 9 = .ok (.ifCond .eq 8, 3) := by decide +kernel
theorem dX3_text__12 : decode cX3_text_ 12 = .ok (.ldc 50, 2) := by decide +kernel
theorem dX3_text__14 : decode cX3_text_ 14 = .ok (.goto 12, 3) := by decide +kernel
theorem dX3_text__17 : decode cX3_text_ 17 = .ok (.aload_n 0, 1) := by decide +kernel
theorem dX3_text__18 : decode cX3_text_ 18 = .ok (.getfield 11, 3) := by decide +kernel
theorem dX3_text__21 : decode cX3_text_ 21 = .ok (.iload_n 1, 1) := by decide +kernel
theorem dX3_text__22 : decode cX3_text_ 22 = .ok (.aaload, 1) := by decide +kernel
theorem dX3_text__23 : decode cX3_text_ 23 = .ok (.invokestatic 161, 3) := by decide +kernel
theorem dX3_text__26 : decode cX3_text_ 26 = .ok (.areturn, 1) := by decide +kernel
theorem dJ5_init_d00df_0 : decode cJ5_init_d00df 0 = .ok (.aload_n 0, 1) := by decide +kernel
theorem dJ5_init_d00df_1 : decode cJ5_init_d00df 1 = .ok (.invokespecial 3, 3) := by decide +kernel
theorem dJ5_init_d00df_4 : decode cJ5_init_d00df 4 = .ok (.getstatic 18, 3) := by decide +kernel
theorem dJ5_init_d00df_7 : decode cJ5_init_d00df 7 = .ok (.ifCond .eq 18, 3) := by decide +kernel
theorem dJ5_init_d00df_10 : decode cJ5_init_d00df 10 = .ok (.aload_n 0, 1) := by decide +kernel
theorem dJ5_init_d00df_11 : decode cJ5_init_d00df 11 = .ok (.iload_n 1, 1) := by decide +kernel
theorem dJ5_init_d00df_12 : decode cJ5_init_d00df 12 = .ok (.newarray .byte, 2) := by decide +kernel
theorem dJ5_init_d00df_14 : decode cJ5_init_d00df 14 = .ok (.putfield 15, 3) := by decide +kernel
theorem dJ5_init_d00df_17 : decode cJ5_init_d00df 17 = .ok (.aload_n 0, 1) := by decide +kernel
theorem dJ5_init_d00df_18 : decode cJ5_init_d00df 18 = .ok (.iconst 0, 1) := by decide +kernel
theorem dJ5_init_d00df_19 : decode cJ5_init_d00df 19 = .ok (.putfield 22, 3) := by decide +kernel
theorem dJ5_init_d00df_22 : decode cJ5_init_d00df 22 = .ok (.goto 16, 3) := by decide +kernel
theorem dJ5_init_d00df_25 : decode cJ5_init_d00df 25 = .ok (.aload_n 0, 1) := by decide +kernel
theorem dJ5_init_d00df_26 : decode cJ5_init_d00df 26 = .ok (.iload_n 1, 1) := by decide +kernel
theorem dJ5_init_d00df_27 : decode cJ5_init_d00df 27 = .ok (.invokestatic 26, 3) := by decide +kernel
theorem dJ5_init_d00df_30 : decode cJ5_init_d00df 30 = .ok (.putfield 15, 3) := by decide +kernel
theorem dJ5_init_d00df_33 : decode cJ5_init_d00df 33 = .ok (.aload_n 0, 1) := by decide +kernel
theorem dJ5_init_d00df_34 : decode cJ5_init_d00df 34 = .ok (.iconst 1, 1) := by decide +kernel
theorem dJ5_init_d00df_35 : decode cJ5_init_d00df 35 = .ok (.putfield 22, 3) := by decide +kernel
theorem dJ5_init_d00df_38 : decode cJ5_init_d00df 38 = .ok (.return_, 1) := by decide +kernel
theorem dJ5_length_8abf5_0 : decode cJ5_length_8abf5 0 = .ok (.aload_n 0, 1) := by decide +kernel
theorem dJ5_length_8abf5_1 : decode cJ5_length_8abf5 1 = .ok (.getfield 79, 3) := by decide +kernel
theorem dJ5_length_8abf5_4 : decode cJ5_length_8abf5 4 = .ok (.ireturn, 1) := by decide +kernel
theorem dJ5_ensureCapacityInternal_d00df_0 : decode cJ5_ensureCapacityInternal_d00df 0 = .ok (.aload_n 0, 1) := by decide +kernel
theorem dJ5_ensureCapacityInternal_d00df_1 : decode cJ5_ensureCapacityInternal_d00df 1 = .ok (.getfield 15, 3) := by decide +kernel
theorem dJ5_ensureCapacityInternal_d00df_4 : decode cJ5_ensureCapacityInternal_d00df 4 = .ok (.arraylength, 1) := by decide +kernel
theorem dJ5_ensureCapacityInternal_d00df_5 : decode cJ5_ensureCapacityInternal_d00df 5 = .ok (.aload_n 0, 1) := by decide +kernel
theorem dJ5_ensureCapacityInternal_d00df_6 : decode cJ5_ensureCapacityInternal_d00df 6 = .ok (.getfield 22, 3) := by decide +kernel
theorem dJ5_ensureCapacityInternal_d00df_9 : decode cJ5_ensureCapacityInternal_d00df 9 = .ok (.ishr, 1) := by decide +kernel
theorem dJ5_ensureCapacityInternal_d00df_10 : decode cJ5_ensureCapacityInternal_d00df 10 = .ok (.istore_n 2, 1) := by decide +kernel
theorem dJ5_ensureCapacityInternal_d00df_11 : decode cJ5_ensureCapacityInternal_d00df 11 = .ok (.iload_n 1, 1) := by decide +kernel
theorem dJ5_ensureCapacityInternal_d00df_12 : decode cJ5_ensureCapacityInternal_d00df 12 = .ok (.iload_n 2, 1) := by decide +kernel
theorem dJ5_ensureCapacityInternal_d00df_13 : decode cJ5_ensureCapacityInternal_d00df 13 = .ok (.isub, 1) := by decide +kernel
theorem dJ5_ensureCapacityInternal_d00df_14 : decode cJ5_ensureCapacityInternal_d00df 14 = .ok (.ifCond .le 24, 3) := by decide +kernel
theorem dJ5_ensureCapacityInternal_d00df_17 : decode cJ5_ensureCapacityInternal_d00df 17 = .ok (.aload_n 0, 1) := by decide +kernel
theorem dJ5_ensureCapacityInternal_d00df_18 : decode cJ5_ensureCapacityInternal_d00df 18 = .ok (.aload_n 0, 1) := by decide +kernel
theorem dJ5_ensureCapacityInternal_d00df_19 : decode cJ5_ensureCapacityInternal_d00df 19 = .ok (.getfield 15, 3) := by decide +kernel
theorem dJ5_ensureCapacityInternal_d00df_22 : decode cJ5_ensureCapacityInternal_d00df 22 = .ok (.aload_n 0, 1) := by decide +kernel
theorem dJ5_ensureCapacityInternal_d00df_23 : decode cJ5_ensureCapacityInternal_d00df 23 = .ok (.iload_n 1, 1) := by decide +kernel
theorem dJ5_ensureCapacityInternal_d00df_24 : decode cJ5_ensureCapacityInternal_d00df 24 = .ok (.invokevirtual 104, 3) := by decide +kernel
theorem dJ5_ensureCapacityInternal_d00df_27 : decode cJ5_ensureCapacityInternal_d00df 27 = .ok (.aload_n 0, 1) := by decide +kernel
theorem dJ5_ensureCapacityInternal_d00df_28 : decode cJ5_ensureCapacityInternal_d00df 28 = .ok (.getfield 22, 3) := by decide +kernel
theorem dJ5_ensureCapacityInternal_d00df_31 : decode cJ5_ensureCapacityInternal_d00df 31 = .ok (.ishl, 1) := by decide +kernel
theorem dJ5_ensureCapacityInternal_d00df_32 : decode cJ5_ensureCapacityInternal_d00df 32 = .ok (.invokestatic 108, 3) := by decide +kernel
theorem dJ5_ensureCapacityInternal_d00df_35 : decode cJ5_ensureCapacityInternal_d00df 35 = .ok (.putfield 15, 3) := by decide +kernel
theorem dJ5_ensureCapacityInternal_d00df_38 : decode cJ5_ensureCapacityInternal_d00df 38 = .ok (.return_, 1) := by decide +kernel
theorem dJ5_newCapacity_0f7a4_0 : decode cJ5_newCapacity_0f7a4 0 = .ok (.aload_n 0, 1) := by decide +kernel
theorem dJ5_newCapacity_0f7a4_1 : decode cJ5_newCapacity_0f7a4 1 = .ok (.getfield 15, 3) := by decide +kernel
theorem dJ5_newCapacity_0f7a4_4 : decode cJ5_newCapacity_0f7a4 4 = .ok (.arraylength, 1) := by decide +kernel
theorem dJ5_newCapacity_0f7a4_5 : decode cJ5_newCapacity_0f7a4 5 = .ok (.istore_n 2, 1) := by decide +kernel
theorem dJ5_newCapacity_0f7a4_6 : decode cJ5_newCapacity_0f7a4 6 = .ok (.iload_n 1, 1) := by decide +kernel
theorem dJ5_newCapacity_0f7a4_7 : decode cJ5_newCapacity_0f7a4 7 = .ok (.aload_n 0, 1) := by decide +kernel
theorem dJ5_newCapacity_0f7a4_8 : decode cJ5_newCapacity_0f7a4 8 = .ok (.getfield 22, 3) := by decide +kernel
theorem dJ5_newCapacity_0f7a4_11 : decode cJ5_newCapacity_0f7a4 11 = .ok (.ishl, 1) := by decide +kernel
theorem dJ5_newCapacity_0f7a4_12 : decode cJ5_newCapacity_0f7a4 12 = .ok (.istore_n 3, 1) := by decide +kernel
theorem dJ5_newCapacity_0f7a4_13 : decode cJ5_newCapacity_0f7a4 13 = .ok (.iload_n 3, 1) := by decide +kernel
theorem dJ5_newCapacity_0f7a4_14 : decode cJ5_newCapacity_0f7a4 14 = .ok (.iload_n 2, 1) := by decide +kernel
theorem dJ5_newCapacity_0f7a4_15 : decode cJ5_newCapacity_0f7a4 15 = .ok (.isub, 1) := by decide +kernel
theorem dJ5_newCapacity_0f7a4_16 : decode cJ5_newCapacity_0f7a4 16 = .ok (.istore 4, 2) := by decide +kernel
theorem dJ5_newCapacity_0f7a4_18 : decode cJ5_newCapacity_0f7a4 18 = .ok (.iload_n 2, 1) := by decide +kernel
theorem dJ5_newCapacity_0f7a4_19 : decode cJ5_newCapacity_0f7a4 19 = .ok (.iload 4, 2) := by decide +kernel
theorem dJ5_newCapacity_0f7a4_21 : decode cJ5_newCapacity_0f7a4 21 = .ok (.iload_n 2, 1) := by decide +kernel
theorem dJ5_newCapacity_0f7a4_22 : decode cJ5_newCapacity_0f7a4 22 = .ok (.iconst 2, 1) := by decide +kernel
theorem dJ5_newCapacity_0f7a4_23 : decode cJ5_newCapacity_0f7a4 23 = .ok (.aload_n 0, 1) := by decide +kernel
theorem dJ5_newCapacity_0f7a4_24 : decode cJ5_newCapacity_0f7a4 24 = .ok (.getfield 22, 3) := by decide +kernel
theorem dJ5_newCapacity_0f7a4_27 : decode cJ5_newCapacity_0f7a4 27 = .ok (.ishl, 1) := by decide +kernel
theorem dJ5_newCapacity_0f7a4_28 : decode cJ5_newCapacity_0f7a4 28 = .ok (.iadd, 1) := by decide +kernel
theorem dJ5_newCapacity_0f7a4_29 : decode cJ5_newCapacity_0f7a4 29 = .ok (.invokestatic 114, 3) := by decide +kernel
theorem dJ5_newCapacity_0f7a4_32 : decode cJ5_newCapacity_0f7a4 32 = .ok (.istore 5, 2) := by decide +kernel
theorem dJ5_newCapacity_0f7a4_34 : decode cJ5_newCapacity_0f7a4 34 = .ok (.iload 5, 2) := by decide +kernel
theorem dJ5_newCapacity_0f7a4_36 : decode cJ5_newCapacity_0f7a4 36 = .ok (.ldc 39, 2) := by decide +kernel
theorem dJ5_newCapacity_0f7a4_38 : decode cJ5_newCapacity_0f7a4 38 = .ok (.if_icmp .ne 13, 3) := by decide +kernel
theorem dJ5_newCapacity_0f7a4_41 : decode cJ5_newCapacity_0f7a4 41 = .ok (.new 120, 3) := by decide +kernel
theorem dJ5_newCapacity_0f7a4_44 : decode cJ5_newCapacity_0f7a4 44 = .ok (.dup, 1) := by decide +kernel
theorem dJ5_newCapacity_0f7a4_45 : decode cJ5_newCapacity_0f7a4 45 = .ok (.ldc 122, 2) := by decide +kernel
theorem dJ5_newCapacity_0f7a4_47 : decode cJ5_newCapacity_0f7a4 47 = .ok (.invokespecial 124, 3) := by decide +kernel
theorem dJ5_newCapacity_0f7a4_50 : decode cJ5_newCapacity_0f7a4 50 = .ok (.athrow, 1) := by decide +kernel
theorem dJ5_newCapacity_0f7a4_51 : decode cJ5_newCapacity_0f7a4 51 = .ok (.iload 5, 2) := by decide +kernel
theorem dJ5_newCapacity_0f7a4_53 : decode cJ5_newCapacity_0f7a4 53 = .ok (.aload_n 0, 1) := by decide +kernel
theorem dJ5_newCapacity_0f7a4_54 : decode cJ5_newCapacity_0f7a4 54 = .ok (.getfield 22, 3) := by decide +kernel
theorem dJ5_newCapacity_0f7a4_57 : decode cJ5_newCapacity_0f7a4 57 = .ok (.ishr, 1) := by decide +kernel
theorem dJ5_newCapacity_0f7a4_58 : decode cJ5_newCapacity_0f7a4 58 = .ok (.ireturn, 1) := by decide +kernel
theorem dJ5_append_cf1ce_0 : decode cJ5_append_cf1ce 0 = .ok (.aload_n 1, 1) := by decide +kernel
theorem dJ5_append_cf1ce_1 : decode cJ5_append_cf1ce 1 = .ok (.ifnonnull 8, 3) := by decide +kernel
theorem dJ5_append_cf1ce_4 : decode cJ5_append_cf1ce 4 = .ok (.aload_n 0, 1) := by decide +kernel
theorem dJ5_append_cf1ce_5 : decode cJ5_append_cf1ce 5 = .ok (.invokevirtual 204, 3) := by decide +kernel
theorem dJ5_append_cf1ce_8 : decode cJ5_append_cf1ce 8 = .ok (.areturn, 1) := by decide +kernel
theorem dJ5_append_cf1ce_9 : decode cJ5_append_cf1ce 9 = .ok (.aload_n 1, 1) := by decide +kernel
theorem dJ5_append_cf1ce_10 : decode cJ5_append_cf1ce 10 = .ok (.invokevirtual 32, 3) := by decide +kernel
theorem dJ5_append_cf1ce_13 : decode cJ5_append_cf1ce 13 = .ok (.istore_n 2, 1) := by decide +kernel
theorem dJ5_append_cf1ce_14 : decode cJ5_append_cf1ce 14 = .ok (.aload_n 0, 1) := by decide +kernel
theorem dJ5_append_cf1ce_15 : decode cJ5_append_cf1ce 15 = .ok (.aload_n 0, 1) := by decide +kernel
theorem dJ5_append_cf1ce_16 : decode cJ5_append_cf1ce 16 = .ok (.getfield 79, 3) := by decide +kernel
theorem dJ5_append_cf1ce_19 : decode cJ5_append_cf1ce 19 = .ok (.iload_n 2, 1) := by decide +kernel
theorem dJ5_append_cf1ce_20 : decode cJ5_append_cf1ce 20 = .ok (.iadd, 1) := by decide +kernel
theorem dJ5_append_cf1ce_21 : decode cJ5_append_cf1ce 21 = .ok (.invokevirtual 100, 3) := by decide +kernel
theorem dJ5_append_cf1ce_24 : decode cJ5_append_cf1ce 24 = .ok (.aload_n 0, 1) := by decide +kernel
theorem dJ5_append_cf1ce_25 : decode cJ5_append_cf1ce 25 = .ok (.aload_n 0, 1) := by decide +kernel
theorem dJ5_append_cf1ce_26 : decode cJ5_append_cf1ce 26 = .ok (.getfield 79, 3) := by decide +kernel
theorem dJ5_append_cf1ce_29 : decode cJ5_append_cf1ce 29 = .ok (.aload_n 1, 1) := by decide +kernel
theorem dJ5_append_cf1ce_30 : decode cJ5_append_cf1ce 30 = .ok (.invokevirtual 208, 3) := by decide +kernel
theorem dJ5_append_cf1ce_33 : decode cJ5_append_cf1ce 33 = .ok (.aload_n 0, 1) := by decide +kernel
theorem dJ5_append_cf1ce_34 : decode cJ5_append_cf1ce 34 = .ok (.dup, 1) := by decide +kernel
theorem dJ5_append_cf1ce_35 : decode cJ5_append_cf1ce 35 = .ok (.getfield 79, 3) := by decide +kernel
theorem dJ5_append_cf1ce_38 : decode cJ5_append_cf1ce 38 = .ok (.iload_n 2, 1) := by decide +kernel
theorem dJ5_append_cf1ce_39 : decode cJ5_append_cf1ce 39 = .ok (.iadd, 1) := by decide +kernel
theorem dJ5_append_cf1ce_40 : decode cJ5_append_cf1ce 40 = .ok (.putfield 79, 3) := by decide +kernel
theorem dJ5_append_cf1ce_43 : decode cJ5_append_cf1ce 43 = .ok (.aload_n 0, 1) := by decide +kernel
theorem dJ5_append_cf1ce_44 : decode cJ5_append_cf1ce 44 = .ok (.areturn, 1) := by decide +kernel
theorem dJ5_append_3fe6f_0 : decode cJ5_append_3fe6f 0 = .ok (.aload_n 0, 1) := by decide +kernel
theorem dJ5_append_3fe6f_1 : decode cJ5_append_3fe6f 1 = .ok (.aload_n 0, 1) := by decide +kernel
theorem dJ5_append_3fe6f_2 : decode cJ5_append_3fe6f 2 = .ok (.getfield 79, 3) := by decide +kernel
theorem dJ5_append_3fe6f_5 : decode cJ5_append_3fe6f 5 = .ok (.iconst 1, 1) := by decide +kernel
theorem dJ5_append_3fe6f_6 : decode cJ5_append_3fe6f 6 = .ok (.iadd, 1) := by decide +kernel
theorem dJ5_append_3fe6f_7 : decode cJ5_append_3fe6f 7 = .ok (.invokevirtual 100, 3) := by decide +kernel
theorem dJ5_append_3fe6f_10 : decode cJ5_append_3fe6f 10 = .ok (.aload_n 0, 1) := by decide +kernel
theorem dJ5_append_3fe6f_11 : decode cJ5_append_3fe6f 11 = .ok (.invokevirtual 83, 3) := by decide +kernel
theorem dJ5_append_3fe6f_14 : decode cJ5_append_3fe6f 14 = .ok (.ifCond .eq 31, 3) := by decide +kernel
theorem dJ5_append_3fe6f_17 : decode cJ5_append_3fe6f 17 = .ok (.iload_n 1, 1) := by decide +kernel
theorem dJ5_append_3fe6f_18 : decode cJ5_append_3fe6f 18 = .ok (.invokestatic 191, 3) := by decide +kernel
theorem dJ5_append_3fe6f_21 : decode cJ5_append_3fe6f 21 = .ok (.ifCond .eq 24, 3) := by decide +kernel
theorem dJ5_append_3fe6f_24 : decode cJ5_append_3fe6f 24 = .ok (.aload_n 0, 1) := by decide +kernel
theorem dJ5_append_3fe6f_25 : decode cJ5_append_3fe6f 25 = .ok (.getfield 15, 3) := by decide +kernel
theorem dJ5_append_3fe6f_28 : decode cJ5_append_3fe6f 28 = .ok (.aload_n 0, 1) := by decide +kernel
theorem dJ5_append_3fe6f_29 : decode cJ5_append_3fe6f 29 = .ok (.dup, 1) := by decide +kernel
theorem dJ5_append_3fe6f_30 : decode cJ5_append_3fe6f 30 = .ok (.getfield 79, 3) := by decide +kernel
theorem dJ5_append_3fe6f_33 : decode cJ5_append_3fe6f 33 = .ok (.dup_x1, 1) := by decide +kernel
theorem dJ5_append_3fe6f_34 : decode cJ5_append_3fe6f 34 = .ok (.iconst 1, 1) := by decide +kernel
theorem dJ5_append_3fe6f_35 : decode cJ5_append_3fe6f 35 = .ok (.iadd, 1) := by decide +kernel
theorem dJ5_append_3fe6f_36 : decode cJ5_append_3fe6f 36 = .ok (.putfield 79, 3) := by decide +kernel
theorem dJ5_append_3fe6f_39 : decode cJ5_append_3fe6f 39 = .ok (.iload_n 1, 1) := by decide +kernel
theorem dJ5_append_3fe6f_40 : decode cJ5_append_3fe6f 40 = .ok (.i2b, 1) := by decide +kernel
theorem dJ5_append_3fe6f_41 : decode cJ5_append_3fe6f 41 = .ok (.bastore, 1) := by decide +kernel
theorem dJ5_append_3fe6f_42 : decode cJ5_append_3fe6f 42 = .ok (.goto 33, 3) := by decide +kernel
theorem dJ5_append_3fe6f_45 : decode cJ5_append_3fe6f 45 = .ok (.aload_n 0, 1) := by decide +kernel
theorem dJ5_append_3fe6f_46 : decode cJ5_append_3fe6f 46 = .ok (.invokevirtual 83, 3) := by decide +kernel
theorem dJ5_append_3fe6f_49 : decode cJ5_append_3fe6f 49 = .ok (.ifCond .eq 7, 3) := by decide +kernel
theorem dJ5_append_3fe6f_52 : decode cJ5_append_3fe6f 52 = .ok (.aload_n 0, 1) := by decide +kernel
theorem dJ5_append_3fe6f_53 : decode cJ5_append_3fe6f 53 = .ok (.invokevirtual 195, 3) := by decide +kernel
theorem dJ5_append_3fe6f_56 : decode cJ5_append_3fe6f 56 = .ok (.aload_n 0, 1) := by decide +kernel
theorem dJ5_append_3fe6f_57 : decode cJ5_append_3fe6f 57 = .ok (.getfield 15, 3) := by decide +kernel
theorem dJ5_append_3fe6f_60 : decode cJ5_append_3fe6f 60 = .ok (.aload_n 0, 1) := by decide +kernel
theorem dJ5_append_3fe6f_61 : decode cJ5_append_3fe6f 61 = .ok (.dup, 1) := by decide +kernel
theorem dJ5_append_3fe6f_62 : decode cJ5_append_3fe6f 62 = .ok (.getfield 79, 3) := by decide +kernel
theorem dJ5_append_3fe6f_65 : decode cJ5_append_3fe6f 65 = .ok (.dup_x1, 1) := by decide +kernel
theorem dJ5_append_3fe6f_66 : decode cJ5_append_3fe6f 66 = .ok (.iconst 1, 1) := by decide +kernel
theorem dJ5_append_3fe6f_67 : decode cJ5_append_3fe6f 67 = .ok (.iadd, 1) := by decide +kernel
theorem dJ5_append_3fe6f_68 : decode cJ5_append_3fe6f 68 = .ok (.putfield 79, 3) := by decide +kernel
theorem dJ5_append_3fe6f_71 : decode cJ5_append_3fe6f 71 = .ok (.iload_n 1, 1) := by decide +kernel
theorem dJ5_append_3fe6f_72 : decode cJ5_append_3fe6f 72 = .ok (.invokestatic 197, 3) := by decide +kernel
theorem dJ5_append_3fe6f_75 : decode cJ5_append_3fe6f 75 = .ok (.aload_n 0, 1) := by decide +kernel
theorem dJ5_append_3fe6f_76 : decode cJ5_append_3fe6f 76 = .ok (.areturn, 1) := by decide +kernel
theorem dJ5_getValue_6d5f1_0 : decode cJ5_getValue_6d5f1 0 = .ok (.aload_n 0, 1) := by decide +kernel
theorem dJ5_getValue_6d5f1_1 : decode cJ5_getValue_6d5f1 1 = .ok (.getfield 15, 3) := by decide +kernel
theorem dJ5_getValue_6d5f1_4 : decode cJ5_getValue_6d5f1 4 = .ok (.areturn, 1) := by decide +kernel
theorem dJ5_isLatin1_aae02_0 : decode cJ5_isLatin1_aae02 0 = .ok (.getstatic 18, 3) := by decide +kernel
theorem dJ5_isLatin1_aae02_3 : decode cJ5_isLatin1_aae02 3 = .ok (.ifCond .eq 14, 3) := by decide +kernel
theorem dJ5_isLatin1_aae02_6 : decode cJ5_isLatin1_aae02 6 = .ok (.aload_n 0, 1) := by decide +kernel
