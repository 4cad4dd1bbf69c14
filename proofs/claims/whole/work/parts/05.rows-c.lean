abbrev b_Dsk_init : ByteArray := prog_1_method_1_code
def y_Dsk_init : MethodName := ⟨R_Dsk, "<init>", "()V"⟩
theorem d_Dsk_init_0 : decode b_Dsk_init 0 = .ok (.aload_n 0, 1) := by decide +kernel
theorem d_Dsk_init_1 : decode b_Dsk_init 1 = .ok (.invokespecial 1, 3) := by decide +kernel
theorem d_Dsk_init_4 : decode b_Dsk_init 4 = .ok (.aload_n 0, 1) := by decide +kernel
theorem d_Dsk_init_5 : decode b_Dsk_init 5 = .ok (.new 7, 3) := by decide +kernel
theorem d_Dsk_init_8 : decode b_Dsk_init 8 = .ok (.dup, 1) := by decide +kernel
theorem d_Dsk_init_9 : decode b_Dsk_init 9 = .ok (.invokespecial 9, 3) := by decide +kernel
theorem d_Dsk_init_12 : decode b_Dsk_init 12 = .ok (.putfield 10, 3) := by decide +kernel
theorem d_Dsk_init_15 : decode b_Dsk_init 15 = .ok (.aload_n 0, 1) := by decide +kernel
theorem d_Dsk_init_16 : decode b_Dsk_init 16 = .ok (.new 16, 3) := by decide +kernel
theorem d_Dsk_init_19 : decode b_Dsk_init 19 = .ok (.dup, 1) := by decide +kernel
theorem d_Dsk_init_20 : decode b_Dsk_init 20 = .ok (.invokespecial 18, 3) := by decide +kernel
theorem d_Dsk_init_23 : decode b_Dsk_init 23 = .ok (.putfield 19, 3) := by decide +kernel
theorem d_Dsk_init_26 : decode b_Dsk_init 26 = .ok (.aload_n 0, 1) := by decide +kernel
theorem d_Dsk_init_27 : decode b_Dsk_init 27 = .ok (.aload_n 0, 1) := by decide +kernel
theorem d_Dsk_init_28 : decode b_Dsk_init 28 = .ok (.getfield 19, 3) := by decide +kernel
theorem d_Dsk_init_31 : decode b_Dsk_init 31 = .ok (.getfield 23, 3) := by decide +kernel
theorem d_Dsk_init_34 : decode b_Dsk_init 34 = .ok (.putfield 26, 3) := by decide +kernel
theorem d_Dsk_init_37 : decode b_Dsk_init 37 = .ok (.aload_n 0, 1) := by decide +kernel
theorem d_Dsk_init_38 : decode b_Dsk_init 38 = .ok (.new 29, 3) := by decide +kernel
theorem d_Dsk_init_41 : decode b_Dsk_init 41 = .ok (.dup, 1) := by decide +kernel
theorem d_Dsk_init_42 : decode b_Dsk_init 42 = .ok (.invokespecial 31, 3) := by decide +kernel
theorem d_Dsk_init_45 : decode b_Dsk_init 45 = .ok (.putfield 32, 3) := by decide +kernel
theorem d_Dsk_init_48 : decode b_Dsk_init 48 = .ok (.aload_n 0, 1) := by decide +kernel
theorem d_Dsk_init_49 : decode b_Dsk_init 49 = .ok (.bipush 12, 2) := by decide +kernel
theorem d_Dsk_init_51 : decode b_Dsk_init 51 = .ok (.anewarray 36, 3) := by decide +kernel
theorem d_Dsk_init_54 : decode b_Dsk_init 54 = .ok (.putfield 38, 3) := by decide +kernel
theorem d_Dsk_init_57 : decode b_Dsk_init 57 = .ok (.aload_n 0, 1) := by decide +kernel
theorem d_Dsk_init_58 : decode b_Dsk_init 58 = .ok (.iconst 0, 1) := by decide +kernel
theorem d_Dsk_init_59 : decode b_Dsk_init 59 = .ok (.putfield 42, 3) := by decide +kernel
theorem d_Dsk_init_62 : decode b_Dsk_init 62 = .ok (.aload_n 0, 1) := by decide +kernel
theorem d_Dsk_init_63 : decode b_Dsk_init 63 = .ok (.iconst 0, 1) := by decide +kernel
theorem d_Dsk_init_64 : decode b_Dsk_init 64 = .ok (.putfield 46, 3) := by decide +kernel
theorem d_Dsk_init_67 : decode b_Dsk_init 67 = .ok (.aload_n 0, 1) := by decide +kernel
theorem d_Dsk_init_68 : decode b_Dsk_init 68 = .ok (.iconst (-1), 1) := by decide +kernel
theorem d_Dsk_init_69 : decode b_Dsk_init 69 = .ok (.putfield 50, 3) := by decide +kernel
theorem d_Dsk_init_72 : decode b_Dsk_init 72 = .ok (.aload_n 0, 1) := by decide +kernel
theorem d_Dsk_init_73 : decode b_Dsk_init 73 = .ok (.sipush 384, 3) := by decide +kernel
theorem d_Dsk_init_76 : decode b_Dsk_init 76 = .ok (.newarray .byte, 2) := by decide +kernel
theorem d_Dsk_init_78 : decode b_Dsk_init 78 = .ok (.putfield 53, 3) := by decide +kernel
theorem d_Dsk_init_81 : decode b_Dsk_init 81 = .ok (.aload_n 0, 1) := by decide +kernel
theorem d_Dsk_init_82 : decode b_Dsk_init 82 = .ok (.bipush 32, 2) := by decide +kernel
theorem d_Dsk_init_84 : decode b_Dsk_init 84 = .ok (.newarray .byte, 2) := by decide +kernel
theorem d_Dsk_init_86 : decode b_Dsk_init 86 = .ok (.putfield 57, 3) := by decide +kernel
theorem d_Dsk_init_89 : decode b_Dsk_init 89 = .ok (.aload_n 0, 1) := by decide +kernel
theorem d_Dsk_init_90 : decode b_Dsk_init 90 = .ok (.new 60, 3) := by decide +kernel
theorem d_Dsk_init_93 : decode b_Dsk_init 93 = .ok (.dup, 1) := by decide +kernel
theorem d_Dsk_init_94 : decode b_Dsk_init 94 = .ok (.invokespecial 62, 3) := by decide +kernel
theorem d_Dsk_init_97 : decode b_Dsk_init 97 = .ok (.putfield 63, 3) := by decide +kernel
theorem d_Dsk_init_100 : decode b_Dsk_init 100 = .ok (.iconst 0, 1) := by decide +kernel
theorem d_Dsk_init_101 : decode b_Dsk_init 101 = .ok (.istore_n 1, 1) := by decide +kernel
theorem d_Dsk_init_102 : decode b_Dsk_init 102 = .ok (.iload_n 1, 1) := by decide +kernel
theorem d_Dsk_init_103 : decode b_Dsk_init 103 = .ok (.bipush 12, 2) := by decide +kernel
theorem d_Dsk_init_105 : decode b_Dsk_init 105 = .ok (.if_icmp .ge 22, 3) := by decide +kernel
theorem d_Dsk_init_108 : decode b_Dsk_init 108 = .ok (.aload_n 0, 1) := by decide +kernel
theorem d_Dsk_init_109 : decode b_Dsk_init 109 = .ok (.getfield 38, 3) := by decide +kernel
theorem d_Dsk_init_112 : decode b_Dsk_init 112 = .ok (.iload_n 1, 1) := by decide +kernel
theorem d_Dsk_init_113 : decode b_Dsk_init 113 = .ok (.new 36, 3) := by decide +kernel
theorem d_Dsk_init_116 : decode b_Dsk_init 116 = .ok (.dup, 1) := by decide +kernel
theorem d_Dsk_init_117 : decode b_Dsk_init 117 = .ok (.invokespecial 67, 3) := by decide +kernel
theorem d_Dsk_init_120 : decode b_Dsk_init 120 = .ok (.aastore, 1) := by decide +kernel
theorem d_Dsk_init_121 : decode b_Dsk_init 121 = .ok (.iinc 1 1, 3) := by decide +kernel
theorem d_Dsk_init_124 : decode b_Dsk_init 124 = .ok (.goto (-22), 3) := by decide +kernel
theorem d_Dsk_init_127 : decode b_Dsk_init 127 = .ok (.return_, 1) := by decide +kernel
abbrev b_Dsk_put : ByteArray := prog_1_method_2_code
def y_Dsk_put : MethodName := ⟨R_Dsk, "put", "(JI)Z"⟩
theorem d_Dsk_put_0 : decode b_Dsk_put 0 = .ok (.iload_n 3, 1) := by decide +kernel
theorem d_Dsk_put_1 : decode b_Dsk_put 1 = .ok (.iconst 1, 1) := by decide +kernel
theorem d_Dsk_put_2 : decode b_Dsk_put 2 = .ok (.if_icmp .lt 20, 3) := by decide +kernel
theorem d_Dsk_put_5 : decode b_Dsk_put 5 = .ok (.iload_n 3, 1) := by decide +kernel
theorem d_Dsk_put_6 : decode b_Dsk_put 6 = .ok (.bipush 8, 2) := by decide +kernel
theorem d_Dsk_put_8 : decode b_Dsk_put 8 = .ok (.if_icmp .gt 14, 3) := by decide +kernel
theorem d_Dsk_put_11 : decode b_Dsk_put 11 = .ok (.aload_n 0, 1) := by decide +kernel
theorem d_Dsk_put_12 : decode b_Dsk_put 12 = .ok (.getfield 10, 3) := by decide +kernel
theorem d_Dsk_put_15 : decode b_Dsk_put 15 = .ok (.iload_n 3, 1) := by decide +kernel
theorem d_Dsk_put_16 : decode b_Dsk_put 16 = .ok (.invokevirtual 68, 3) := by decide +kernel
theorem d_Dsk_put_19 : decode b_Dsk_put 19 = .ok (.ifCond .ne 5, 3) := by decide +kernel
theorem d_Dsk_put_22 : decode b_Dsk_put 22 = .ok (.iconst 0, 1) := by decide +kernel
theorem d_Dsk_put_23 : decode b_Dsk_put 23 = .ok (.ireturn, 1) := by decide +kernel
theorem d_Dsk_put_24 : decode b_Dsk_put 24 = .ok (.aload_n 0, 1) := by decide +kernel
theorem d_Dsk_put_25 : decode b_Dsk_put 25 = .ok (.getfield 10, 3) := by decide +kernel
theorem d_Dsk_put_28 : decode b_Dsk_put 28 = .ok (.lload_n 1, 1) := by decide +kernel
theorem d_Dsk_put_29 : decode b_Dsk_put 29 = .ok (.iload_n 3, 1) := by decide +kernel
theorem d_Dsk_put_30 : decode b_Dsk_put 30 = .ok (.invokevirtual 72, 3) := by decide +kernel
theorem d_Dsk_put_33 : decode b_Dsk_put 33 = .ok (.iconst 1, 1) := by decide +kernel
theorem d_Dsk_put_34 : decode b_Dsk_put 34 = .ok (.ireturn, 1) := by decide +kernel
abbrev b_Dsk_low : ByteArray := prog_1_method_3_code
def y_Dsk_low : MethodName := ⟨R_Dsk, "low", "(JI)Z"⟩
theorem d_Dsk_low_0 : decode b_Dsk_low 0 = .ok (.iload_n 3, 1) := by decide +kernel
theorem d_Dsk_low_1 : decode b_Dsk_low 1 = .ok (.iconst 1, 1) := by decide +kernel
theorem d_Dsk_low_2 : decode b_Dsk_low 2 = .ok (.if_icmp .lt 20, 3) := by decide +kernel
theorem d_Dsk_low_5 : decode b_Dsk_low 5 = .ok (.iload_n 3, 1) := by decide +kernel
theorem d_Dsk_low_6 : decode b_Dsk_low 6 = .ok (.bipush 8, 2) := by decide +kernel
theorem d_Dsk_low_8 : decode b_Dsk_low 8 = .ok (.if_icmp .gt 14, 3) := by decide +kernel
theorem d_Dsk_low_11 : decode b_Dsk_low 11 = .ok (.aload_n 0, 1) := by decide +kernel
theorem d_Dsk_low_12 : decode b_Dsk_low 12 = .ok (.getfield 10, 3) := by decide +kernel
theorem d_Dsk_low_15 : decode b_Dsk_low 15 = .ok (.iload_n 3, 1) := by decide +kernel
theorem d_Dsk_low_16 : decode b_Dsk_low 16 = .ok (.invokevirtual 68, 3) := by decide +kernel
theorem d_Dsk_low_19 : decode b_Dsk_low 19 = .ok (.ifCond .ne 5, 3) := by decide +kernel
theorem d_Dsk_low_22 : decode b_Dsk_low 22 = .ok (.iconst 0, 1) := by decide +kernel
theorem d_Dsk_low_23 : decode b_Dsk_low 23 = .ok (.ireturn, 1) := by decide +kernel
theorem d_Dsk_low_24 : decode b_Dsk_low 24 = .ok (.aload_n 0, 1) := by decide +kernel
theorem d_Dsk_low_25 : decode b_Dsk_low 25 = .ok (.getfield 10, 3) := by decide +kernel
theorem d_Dsk_low_28 : decode b_Dsk_low 28 = .ok (.lload_n 1, 1) := by decide +kernel
theorem d_Dsk_low_29 : decode b_Dsk_low 29 = .ok (.iload_n 3, 1) := by decide +kernel
theorem d_Dsk_low_30 : decode b_Dsk_low 30 = .ok (.invokevirtual 76, 3) := by decide +kernel
theorem d_Dsk_low_33 : decode b_Dsk_low 33 = .ok (.iconst 1, 1) := by decide +kernel
theorem d_Dsk_low_34 : decode b_Dsk_low 34 = .ok (.ireturn, 1) := by decide +kernel
abbrev b_Dsk_compact : ByteArray := prog_1_method_4_code
def y_Dsk_compact : MethodName := ⟨R_Dsk, "compact", "(J)Z"⟩
theorem d_Dsk_compact_0 : decode b_Dsk_compact 0 = .ok (.lload_n 1, 1) := by decide +kernel
theorem d_Dsk_compact_1 : decode b_Dsk_compact 1 = .ok (.invokestatic 79, 3) := by decide +kernel
theorem d_Dsk_compact_4 : decode b_Dsk_compact 4 = .ok (.istore_n 3, 1) := by decide +kernel
theorem d_Dsk_compact_5 : decode b_Dsk_compact 5 = .ok (.aload_n 0, 1) := by decide +kernel
theorem d_Dsk_compact_6 : decode b_Dsk_compact 6 = .ok (.getfield 10, 3) := by decide +kernel
theorem d_Dsk_compact_9 : decode b_Dsk_compact 9 = .ok (.iconst 1, 1) := by decide +kernel
theorem d_Dsk_compact_10 : decode b_Dsk_compact 10 = .ok (.iload_n 3, 1) := by decide +kernel
theorem d_Dsk_compact_11 : decode b_Dsk_compact 11 = .ok (.iadd, 1) := by decide +kernel
theorem d_Dsk_compact_12 : decode b_Dsk_compact 12 = .ok (.invokevirtual 68, 3) := by decide +kernel
theorem d_Dsk_compact_15 : decode b_Dsk_compact 15 = .ok (.ifCond .ne 5, 3) := by decide +kernel
theorem d_Dsk_compact_18 : decode b_Dsk_compact 18 = .ok (.iconst 0, 1) := by decide +kernel
theorem d_Dsk_compact_19 : decode b_Dsk_compact 19 = .ok (.ireturn, 1) := by decide +kernel
theorem d_Dsk_compact_20 : decode b_Dsk_compact 20 = .ok (.iload_n 3, 1) := by decide +kernel
theorem d_Dsk_compact_21 : decode b_Dsk_compact 21 = .ok (.ifCond .le 28, 3) := by decide +kernel
theorem d_Dsk_compact_24 : decode b_Dsk_compact 24 = .ok (.aload_n 0, 1) := by decide +kernel
theorem d_Dsk_compact_25 : decode b_Dsk_compact 25 = .ok (.getfield 10, 3) := by decide +kernel
theorem d_Dsk_compact_28 : decode b_Dsk_compact 28 = .ok (.iload_n 3, 1) := by decide +kernel
theorem d_Dsk_compact_29 : decode b_Dsk_compact 29 = .ok (.invokestatic 83, 3) := by decide +kernel
theorem d_Dsk_compact_32 : decode b_Dsk_compact 32 = .ok (.i2l, 1) := by decide +kernel
theorem d_Dsk_compact_33 : decode b_Dsk_compact 33 = .ok (.iconst 1, 1) := by decide +kernel
theorem d_Dsk_compact_34 : decode b_Dsk_compact 34 = .ok (.invokevirtual 76, 3) := by decide +kernel
theorem d_Dsk_compact_37 : decode b_Dsk_compact 37 = .ok (.aload_n 0, 1) := by decide +kernel
theorem d_Dsk_compact_38 : decode b_Dsk_compact 38 = .ok (.getfield 10, 3) := by decide +kernel
theorem d_Dsk_compact_41 : decode b_Dsk_compact 41 = .ok (.lload_n 1, 1) := by decide +kernel
theorem d_Dsk_compact_42 : decode b_Dsk_compact 42 = .ok (.iload_n 3, 1) := by decide +kernel
theorem d_Dsk_compact_43 : decode b_Dsk_compact 43 = .ok (.invokevirtual 76, 3) := by decide +kernel
theorem d_Dsk_compact_46 : decode b_Dsk_compact 46 = .ok (.goto 12, 3) := by decide +kernel
theorem d_Dsk_compact_49 : decode b_Dsk_compact 49 = .ok (.aload_n 0, 1) := by decide +kernel
theorem d_Dsk_compact_50 : decode b_Dsk_compact 50 = .ok (.getfield 10, 3) := by decide +kernel
theorem d_Dsk_compact_53 : decode b_Dsk_compact 53 = .ok (.lload_n 1, 1) := by decide +kernel
theorem d_Dsk_compact_54 : decode b_Dsk_compact 54 = .ok (.iconst 1, 1) := by decide +kernel
theorem d_Dsk_compact_55 : decode b_Dsk_compact 55 = .ok (.invokevirtual 76, 3) := by decide +kernel
theorem d_Dsk_compact_58 : decode b_Dsk_compact 58 = .ok (.iconst 1, 1) := by decide +kernel
theorem d_Dsk_compact_59 : decode b_Dsk_compact 59 = .ok (.ireturn, 1) := by decide +kernel
abbrev b_Dsk_read : ByteArray := prog_1_method_5_code
def y_Dsk_read : MethodName := ⟨R_Dsk, "read", "(Z)I"⟩
theorem d_Dsk_read_0 : decode b_Dsk_read 0 = .ok (.aload_n 0, 1) := by decide +kernel
theorem d_Dsk_read_1 : decode b_Dsk_read 1 = .ok (.getfield 26, 3) := by decide +kernel
theorem d_Dsk_read_4 : decode b_Dsk_read 4 = .ok (.aload_n 0, 1) := by decide +kernel
theorem d_Dsk_read_5 : decode b_Dsk_read 5 = .ok (.getfield 10, 3) := by decide +kernel
theorem d_Dsk_read_8 : decode b_Dsk_read 8 = .ok (.invokevirtual 87, 3) := by decide +kernel
theorem d_Dsk_read_11 : decode b_Dsk_read 11 = .ok (.aload_n 0, 1) := by decide +kernel
theorem d_Dsk_read_12 : decode b_Dsk_read 12 = .ok (.getfield 10, 3) := by decide +kernel
theorem d_Dsk_read_15 : decode b_Dsk_read 15 = .ok (.invokevirtual 91, 3) := by decide +kernel
theorem d_Dsk_read_18 : decode b_Dsk_read 18 = .ok (.aload_n 0, 1) := by decide +kernel
theorem d_Dsk_read_19 : decode b_Dsk_read 19 = .ok (.getfield 19, 3) := by decide +kernel
theorem d_Dsk_read_22 : decode b_Dsk_read 22 = .ok (.invokevirtual 94, 3) := by decide +kernel
theorem d_Dsk_read_25 : decode b_Dsk_read 25 = .ok (.iconst 1, 1) := by decide +kernel
theorem d_Dsk_read_26 : decode b_Dsk_read 26 = .ok (.istore_n 2, 1) := by decide +kernel
theorem d_Dsk_read_27 : decode b_Dsk_read 27 = .ok (.iload_n 1, 1) := by decide +kernel
theorem d_Dsk_read_28 : decode b_Dsk_read 28 = .ok (.ifCond .eq 18, 3) := by decide +kernel
theorem d_Dsk_read_31 : decode b_Dsk_read 31 = .ok (.aload_n 0, 1) := by decide +kernel
theorem d_Dsk_read_32 : decode b_Dsk_read 32 = .ok (.getfield 19, 3) := by decide +kernel
theorem d_Dsk_read_35 : decode b_Dsk_read 35 = .ok (.aload_n 0, 1) := by decide +kernel
theorem d_Dsk_read_36 : decode b_Dsk_read 36 = .ok (.getfield 38, 3) := by decide +kernel
theorem d_Dsk_read_39 : decode b_Dsk_read 39 = .ok (.invokevirtual 97, 3) := by decide +kernel
theorem d_Dsk_read_42 : decode b_Dsk_read 42 = .ok (.istore_n 2, 1) := by decide +kernel
theorem d_Dsk_read_43 : decode b_Dsk_read 43 = .ok (.goto 16, 3) := by decide +kernel
theorem d_Dsk_read_46 : decode b_Dsk_read 46 = .ok (.aload_n 0, 1) := by decide +kernel
theorem d_Dsk_read_47 : decode b_Dsk_read 47 = .ok (.getfield 19, 3) := by decide +kernel
theorem d_Dsk_read_50 : decode b_Dsk_read 50 = .ok (.aload_n 0, 1) := by decide +kernel
theorem d_Dsk_read_51 : decode b_Dsk_read 51 = .ok (.getfield 38, 3) := by decide +kernel
theorem d_Dsk_read_54 : decode b_Dsk_read 54 = .ok (.iconst 0, 1) := by decide +kernel
theorem d_Dsk_read_55 : decode b_Dsk_read 55 = .ok (.aaload, 1) := by decide +kernel
theorem d_Dsk_read_56 : decode b_Dsk_read 56 = .ok (.invokevirtual 101, 3) := by decide +kernel
theorem d_Dsk_read_59 : decode b_Dsk_read 59 = .ok (.aload_n 0, 1) := by decide +kernel
theorem d_Dsk_read_60 : decode b_Dsk_read 60 = .ok (.getfield 19, 3) := by decide +kernel
theorem d_Dsk_read_63 : decode b_Dsk_read 63 = .ok (.invokevirtual 105, 3) := by decide +kernel
theorem d_Dsk_read_66 : decode b_Dsk_read 66 = .ok (.aload_n 0, 1) := by decide +kernel
theorem d_Dsk_read_67 : decode b_Dsk_read 67 = .ok (.aload_n 0, 1) := by decide +kernel
theorem d_Dsk_read_68 : decode b_Dsk_read 68 = .ok (.getfield 19, 3) := by decide +kernel
theorem d_Dsk_read_71 : decode b_Dsk_read 71 = .ok (.getfield 108, 3) := by decide +kernel
theorem d_Dsk_read_74 : decode b_Dsk_read 74 = .ok (.putfield 50, 3) := by decide +kernel
theorem d_Dsk_read_77 : decode b_Dsk_read 77 = .ok (.aload_n 0, 1) := by decide +kernel
theorem d_Dsk_read_78 : decode b_Dsk_read 78 = .ok (.getfield 19, 3) := by decide +kernel
theorem d_Dsk_read_81 : decode b_Dsk_read 81 = .ok (.getfield 109, 3) := by decide +kernel
theorem d_Dsk_read_84 : decode b_Dsk_read 84 = .ok (.ifCond .eq 17, 3) := by decide +kernel
theorem d_Dsk_read_87 : decode b_Dsk_read 87 = .ok (.aload_n 0, 1) := by decide +kernel
theorem d_Dsk_read_88 : decode b_Dsk_read 88 = .ok (.invokevirtual 112, 3) := by decide +kernel
theorem d_Dsk_read_91 : decode b_Dsk_read 91 = .ok (.iconst (-1), 1) := by decide +kernel
theorem d_Dsk_read_92 : decode b_Dsk_read 92 = .ok (.aload_n 0, 1) := by decide +kernel
theorem d_Dsk_read_93 : decode b_Dsk_read 93 = .ok (.getfield 19, 3) := by decide +kernel
theorem d_Dsk_read_96 : decode b_Dsk_read 96 = .ok (.getfield 109, 3) := by decide +kernel
theorem d_Dsk_read_99 : decode b_Dsk_read 99 = .ok (.isub, 1) := by decide +kernel
theorem d_Dsk_read_100 : decode b_Dsk_read 100 = .ok (.ireturn, 1) := by decide +kernel
theorem d_Dsk_read_101 : decode b_Dsk_read 101 = .ok (.aload_n 0, 1) := by decide +kernel
theorem d_Dsk_read_102 : decode b_Dsk_read 102 = .ok (.iload_n 2, 1) := by decide +kernel
theorem d_Dsk_read_103 : decode b_Dsk_read 103 = .ok (.putfield 42, 3) := by decide +kernel
theorem d_Dsk_read_106 : decode b_Dsk_read 106 = .ok (.aload_n 0, 1) := by decide +kernel
theorem d_Dsk_read_107 : decode b_Dsk_read 107 = .ok (.iload_n 1, 1) := by decide +kernel
theorem d_Dsk_read_108 : decode b_Dsk_read 108 = .ok (.putfield 46, 3) := by decide +kernel
theorem d_Dsk_read_111 : decode b_Dsk_read 111 = .ok (.aload_n 0, 1) := by decide +kernel
theorem d_Dsk_read_112 : decode b_Dsk_read 112 = .ok (.invokevirtual 115, 3) := by decide +kernel
theorem d_Dsk_read_115 : decode b_Dsk_read 115 = .ok (.iload_n 1, 1) := by decide +kernel
theorem d_Dsk_read_116 : decode b_Dsk_read 116 = .ok (.ifCond .eq 44, 3) := by decide +kernel
theorem d_Dsk_read_119 : decode b_Dsk_read 119 = .ok (.aload_n 0, 1) := by decide +kernel
theorem d_Dsk_read_120 : decode b_Dsk_read 120 = .ok (.getfield 32, 3) := by decide +kernel
theorem d_Dsk_read_123 : decode b_Dsk_read 123 = .ok (.aload_n 0, 1) := by decide +kernel
theorem d_Dsk_read_124 : decode b_Dsk_read 124 = .ok (.getfield 26, 3) := by decide +kernel
theorem d_Dsk_read_127 : decode b_Dsk_read 127 = .ok (.getfield 118, 3) := by decide +kernel
theorem d_Dsk_read_130 : decode b_Dsk_read 130 = .ok (.iconst 0, 1) := by decide +kernel
theorem d_Dsk_read_131 : decode b_Dsk_read 131 = .ok (.bipush 80, 2) := by decide +kernel
theorem d_Dsk_read_133 : decode b_Dsk_read 133 = .ok (.aload_n 0, 1) := by decide +kernel
theorem d_Dsk_read_134 : decode b_Dsk_read 134 = .ok (.getfield 57, 3) := by decide +kernel
theorem d_Dsk_read_137 : decode b_Dsk_read 137 = .ok (.iconst 0, 1) := by decide +kernel
theorem d_Dsk_read_138 : decode b_Dsk_read 138 = .ok (.invokevirtual 121, 3) := by decide +kernel
theorem d_Dsk_read_141 : decode b_Dsk_read 141 = .ok (.aload_n 0, 1) := by decide +kernel
theorem d_Dsk_read_142 : decode b_Dsk_read 142 = .ok (.getfield 63, 3) := by decide +kernel
theorem d_Dsk_read_145 : decode b_Dsk_read 145 = .ok (.aload_n 0, 1) := by decide +kernel
theorem d_Dsk_read_146 : decode b_Dsk_read 146 = .ok (.getfield 53, 3) := by decide +kernel
theorem d_Dsk_read_149 : decode b_Dsk_read 149 = .ok (.aload_n 0, 1) := by decide +kernel
theorem d_Dsk_read_150 : decode b_Dsk_read 150 = .ok (.getfield 42, 3) := by decide +kernel
theorem d_Dsk_read_153 : decode b_Dsk_read 153 = .ok (.aload_n 0, 1) := by decide +kernel
theorem d_Dsk_read_154 : decode b_Dsk_read 154 = .ok (.getfield 32, 3) := by decide +kernel
theorem d_Dsk_read_157 : decode b_Dsk_read 157 = .ok (.invokevirtual 125, 3) := by decide +kernel
theorem d_Dsk_read_160 : decode b_Dsk_read 160 = .ok (.iload_n 2, 1) := by decide +kernel
theorem d_Dsk_read_161 : decode b_Dsk_read 161 = .ok (.ireturn, 1) := by decide +kernel
abbrev b_Dsk_place : ByteArray := prog_1_method_6_code
def y_Dsk_place : MethodName := ⟨R_Dsk, "place", "()I"⟩
theorem d_Dsk_place_0 : decode b_Dsk_place 0 = .ok (.aload_n 0, 1) := by decide +kernel
theorem d_Dsk_place_1 : decode b_Dsk_place 1 = .ok (.getfield 50, 3) := by decide +kernel
theorem d_Dsk_place_4 : decode b_Dsk_place 4 = .ok (.ireturn, 1) := by decide +kernel
abbrev b_Dsk_byteOf : ByteArray := prog_1_method_7_code
def y_Dsk_byteOf : MethodName := ⟨R_Dsk, "byteOf", "(I)I"⟩
theorem d_Dsk_byteOf_0 : decode b_Dsk_byteOf 0 = .ok (.aload_n 0, 1) := by decide +kernel
theorem d_Dsk_byteOf_1 : decode b_Dsk_byteOf 1 = .ok (.getfield 26, 3) := by decide +kernel
theorem d_Dsk_byteOf_4 : decode b_Dsk_byteOf 4 = .ok (.iload_n 1, 1) := by decide +kernel
theorem d_Dsk_byteOf_5 : decode b_Dsk_byteOf 5 = .ok (.invokevirtual 129, 3) := by decide +kernel
theorem d_Dsk_byteOf_8 : decode b_Dsk_byteOf 8 = .ok (.ireturn, 1) := by decide +kernel
abbrev b_Dsk_head : ByteArray := prog_1_method_8_code
def y_Dsk_head : MethodName := ⟨R_Dsk, "head", "(I)J"⟩
theorem d_Dsk_head_0 : decode b_Dsk_head 0 = .ok (.aload_n 0, 1) := by decide +kernel
theorem d_Dsk_head_1 : decode b_Dsk_head 1 = .ok (.getfield 46, 3) := by decide +kernel
theorem d_Dsk_head_4 : decode b_Dsk_head 4 = .ok (.ifCond .ne 7, 3) := by decide +kernel
theorem d_Dsk_head_7 : decode b_Dsk_head 7 = .ok (.ldc2_w 132, 3) := by decide +kernel
theorem d_Dsk_head_10 : decode b_Dsk_head 10 = .ok (.lreturn, 1) := by decide +kernel
theorem d_Dsk_head_11 : decode b_Dsk_head 11 = .ok (.iload_n 1, 1) := by decide +kernel
theorem d_Dsk_head_12 : decode b_Dsk_head 12 = .ok (.tableswitch 75 0 3 #[32, 42, 53, 64], 32) := by decide +kernel
theorem d_Dsk_head_44 : decode b_Dsk_head 44 = .ok (.aload_n 0, 1) := by decide +kernel
theorem d_Dsk_head_45 : decode b_Dsk_head 45 = .ok (.getfield 26, 3) := by decide +kernel
theorem d_Dsk_head_48 : decode b_Dsk_head 48 = .ok (.iconst 0, 1) := by decide +kernel
theorem d_Dsk_head_49 : decode b_Dsk_head 49 = .ok (.iconst 4, 1) := by decide +kernel
theorem d_Dsk_head_50 : decode b_Dsk_head 50 = .ok (.invokevirtual 134, 3) := by decide +kernel
theorem d_Dsk_head_53 : decode b_Dsk_head 53 = .ok (.lreturn, 1) := by decide +kernel
theorem d_Dsk_head_54 : decode b_Dsk_head 54 = .ok (.aload_n 0, 1) := by decide +kernel
theorem d_Dsk_head_55 : decode b_Dsk_head 55 = .ok (.getfield 26, 3) := by decide +kernel
theorem d_Dsk_head_58 : decode b_Dsk_head 58 = .ok (.bipush 68, 2) := by decide +kernel
theorem d_Dsk_head_60 : decode b_Dsk_head 60 = .ok (.iconst 4, 1) := by decide +kernel
theorem d_Dsk_head_61 : decode b_Dsk_head 61 = .ok (.invokevirtual 134, 3) := by decide +kernel
theorem d_Dsk_head_64 : decode b_Dsk_head 64 = .ok (.lreturn, 1) := by decide +kernel
theorem d_Dsk_head_65 : decode b_Dsk_head 65 = .ok (.aload_n 0, 1) := by decide +kernel
theorem d_Dsk_head_66 : decode b_Dsk_head 66 = .ok (.getfield 26, 3) := by decide +kernel
theorem d_Dsk_head_69 : decode b_Dsk_head 69 = .ok (.bipush 72, 2) := by decide +kernel
theorem d_Dsk_head_71 : decode b_Dsk_head 71 = .ok (.iconst 4, 1) := by decide +kernel
theorem d_Dsk_head_72 : decode b_Dsk_head 72 = .ok (.invokevirtual 134, 3) := by decide +kernel
theorem d_Dsk_head_75 : decode b_Dsk_head 75 = .ok (.lreturn, 1) := by decide +kernel
theorem d_Dsk_head_76 : decode b_Dsk_head 76 = .ok (.aload_n 0, 1) := by decide +kernel
theorem d_Dsk_head_77 : decode b_Dsk_head 77 = .ok (.getfield 26, 3) := by decide +kernel
theorem d_Dsk_head_80 : decode b_Dsk_head 80 = .ok (.bipush 76, 2) := by decide +kernel
theorem d_Dsk_head_82 : decode b_Dsk_head 82 = .ok (.iconst 4, 1) := by decide +kernel
theorem d_Dsk_head_83 : decode b_Dsk_head 83 = .ok (.invokevirtual 134, 3) := by decide +kernel
theorem d_Dsk_head_86 : decode b_Dsk_head 86 = .ok (.lreturn, 1) := by decide +kernel
theorem d_Dsk_head_87 : decode b_Dsk_head 87 = .ok (.ldc2_w 132, 3) := by decide +kernel
theorem d_Dsk_head_90 : decode b_Dsk_head 90 = .ok (.lreturn, 1) := by decide +kernel
abbrev b_Dsk_look : ByteArray := prog_1_method_9_code
def y_Dsk_look : MethodName := ⟨R_Dsk, "look", "(II)J"⟩
theorem d_Dsk_look_0 : decode b_Dsk_look 0 = .ok (.aload_n 0, 1) := by decide +kernel
theorem d_Dsk_look_1 : decode b_Dsk_look 1 = .ok (.iload_n 1, 1) := by decide +kernel
theorem d_Dsk_look_2 : decode b_Dsk_look 2 = .ok (.invokevirtual 138, 3) := by decide +kernel
theorem d_Dsk_look_5 : decode b_Dsk_look 5 = .ok (.ifCond .ne 7, 3) := by decide +kernel
theorem d_Dsk_look_8 : decode b_Dsk_look 8 = .ok (.ldc2_w 132, 3) := by decide +kernel
theorem d_Dsk_look_11 : decode b_Dsk_look 11 = .ok (.lreturn, 1) := by decide +kernel
theorem d_Dsk_look_12 : decode b_Dsk_look 12 = .ok (.aload_n 0, 1) := by decide +kernel
theorem d_Dsk_look_13 : decode b_Dsk_look 13 = .ok (.getfield 38, 3) := by decide +kernel
theorem d_Dsk_look_16 : decode b_Dsk_look 16 = .ok (.iload_n 1, 1) := by decide +kernel
theorem d_Dsk_look_17 : decode b_Dsk_look 17 = .ok (.aaload, 1) := by decide +kernel
theorem d_Dsk_look_18 : decode b_Dsk_look 18 = .ok (.astore_n 3, 1) := by decide +kernel
theorem d_Dsk_look_19 : decode b_Dsk_look 19 = .ok (.iload_n 2, 1) := by decide +kernel
theorem d_Dsk_look_20 : decode b_Dsk_look 20 = .ok (.tableswitch 97 0 5 #[40, 53, 59, 65, 80, 86], 40) := by decide +kernel
theorem d_Dsk_look_60 : decode b_Dsk_look 60 = .ok (.aload_n 0, 1) := by decide +kernel
theorem d_Dsk_look_61 : decode b_Dsk_look 61 = .ok (.getfield 26, 3) := by decide +kernel
theorem d_Dsk_look_64 : decode b_Dsk_look 64 = .ok (.aload_n 3, 1) := by decide +kernel
theorem d_Dsk_look_65 : decode b_Dsk_look 65 = .ok (.getfield 141, 3) := by decide +kernel
theorem d_Dsk_look_68 : decode b_Dsk_look 68 = .ok (.iconst 4, 1) := by decide +kernel
theorem d_Dsk_look_69 : decode b_Dsk_look 69 = .ok (.invokevirtual 134, 3) := by decide +kernel
theorem d_Dsk_look_72 : decode b_Dsk_look 72 = .ok (.lreturn, 1) := by decide +kernel
theorem d_Dsk_look_73 : decode b_Dsk_look 73 = .ok (.aload_n 3, 1) := by decide +kernel
theorem d_Dsk_look_74 : decode b_Dsk_look 74 = .ok (.getfield 143, 3) := by decide +kernel
theorem d_Dsk_look_77 : decode b_Dsk_look 77 = .ok (.i2l, 1) := by decide +kernel
theorem d_Dsk_look_78 : decode b_Dsk_look 78 = .ok (.lreturn, 1) := by decide +kernel
theorem d_Dsk_look_79 : decode b_Dsk_look 79 = .ok (.aload_n 3, 1) := by decide +kernel
theorem d_Dsk_look_80 : decode b_Dsk_look 80 = .ok (.getfield 146, 3) := by decide +kernel
theorem d_Dsk_look_83 : decode b_Dsk_look 83 = .ok (.i2l, 1) := by decide +kernel
theorem d_Dsk_look_84 : decode b_Dsk_look 84 = .ok (.lreturn, 1) := by decide +kernel
theorem d_Dsk_look_85 : decode b_Dsk_look 85 = .ok (.aload_n 0, 1) := by decide +kernel
theorem d_Dsk_look_86 : decode b_Dsk_look 86 = .ok (.getfield 26, 3) := by decide +kernel
theorem d_Dsk_look_89 : decode b_Dsk_look 89 = .ok (.aload_n 3, 1) := by decide +kernel
theorem d_Dsk_look_90 : decode b_Dsk_look 90 = .ok (.getfield 149, 3) := by decide +kernel
theorem d_Dsk_look_93 : decode b_Dsk_look 93 = .ok (.iconst 4, 1) := by decide +kernel
theorem d_Dsk_look_94 : decode b_Dsk_look 94 = .ok (.isub, 1) := by decide +kernel
theorem d_Dsk_look_95 : decode b_Dsk_look 95 = .ok (.iconst 4, 1) := by decide +kernel
theorem d_Dsk_look_96 : decode b_Dsk_look 96 = .ok (.invokevirtual 134, 3) := by decide +kernel
theorem d_Dsk_look_99 : decode b_Dsk_look 99 = .ok (.lreturn, 1) := by decide +kernel
theorem d_Dsk_look_100 : decode b_Dsk_look 100 = .ok (.aload_n 3, 1) := by decide +kernel
theorem d_Dsk_look_101 : decode b_Dsk_look 101 = .ok (.getfield 141, 3) := by decide +kernel
theorem d_Dsk_look_104 : decode b_Dsk_look 104 = .ok (.i2l, 1) := by decide +kernel
theorem d_Dsk_look_105 : decode b_Dsk_look 105 = .ok (.lreturn, 1) := by decide +kernel
theorem d_Dsk_look_106 : decode b_Dsk_look 106 = .ok (.aload_n 3, 1) := by decide +kernel
theorem d_Dsk_look_107 : decode b_Dsk_look 107 = .ok (.getfield 149, 3) := by decide +kernel
theorem d_Dsk_look_110 : decode b_Dsk_look 110 = .ok (.aload_n 3, 1) := by decide +kernel
theorem d_Dsk_look_111 : decode b_Dsk_look 111 = .ok (.getfield 141, 3) := by decide +kernel
theorem d_Dsk_look_114 : decode b_Dsk_look 114 = .ok (.isub, 1) := by decide +kernel
theorem d_Dsk_look_115 : decode b_Dsk_look 115 = .ok (.i2l, 1) := by decide +kernel
theorem d_Dsk_look_116 : decode b_Dsk_look 116 = .ok (.lreturn, 1) := by decide +kernel
theorem d_Dsk_look_117 : decode b_Dsk_look 117 = .ok (.ldc2_w 132, 3) := by decide +kernel
theorem d_Dsk_look_120 : decode b_Dsk_look 120 = .ok (.lreturn, 1) := by decide +kernel
abbrev b_Dsk_input : ByteArray := prog_1_method_10_code
def y_Dsk_input : MethodName := ⟨R_Dsk, "input", "(III)J"⟩
theorem d_Dsk_input_0 : decode b_Dsk_input 0 = .ok (.aload_n 0, 1) := by decide +kernel
theorem d_Dsk_input_1 : decode b_Dsk_input 1 = .ok (.iload_n 1, 1) := by decide +kernel
theorem d_Dsk_input_2 : decode b_Dsk_input 2 = .ok (.invokevirtual 138, 3) := by decide +kernel
theorem d_Dsk_input_5 : decode b_Dsk_input 5 = .ok (.ifCond .eq 20, 3) := by decide +kernel
theorem d_Dsk_input_8 : decode b_Dsk_input 8 = .ok (.iload_n 2, 1) := by decide +kernel
theorem d_Dsk_input_9 : decode b_Dsk_input 9 = .ok (.ifCond .lt 16, 3) := by decide +kernel
theorem d_Dsk_input_12 : decode b_Dsk_input 12 = .ok (.iload_n 2, 1) := by decide +kernel
theorem d_Dsk_input_13 : decode b_Dsk_input 13 = .ok (.aload_n 0, 1) := by decide +kernel
theorem d_Dsk_input_14 : decode b_Dsk_input 14 = .ok (.getfield 38, 3) := by decide +kernel
theorem d_Dsk_input_17 : decode b_Dsk_input 17 = .ok (.iload_n 1, 1) := by decide +kernel
theorem d_Dsk_input_18 : decode b_Dsk_input 18 = .ok (.aaload, 1) := by decide +kernel
theorem d_Dsk_input_19 : decode b_Dsk_input 19 = .ok (.getfield 143, 3) := by decide +kernel
theorem d_Dsk_input_22 : decode b_Dsk_input 22 = .ok (.if_icmp .lt 7, 3) := by decide +kernel
theorem d_Dsk_input_25 : decode b_Dsk_input 25 = .ok (.ldc2_w 132, 3) := by decide +kernel
theorem d_Dsk_input_28 : decode b_Dsk_input 28 = .ok (.lreturn, 1) := by decide +kernel
theorem d_Dsk_input_29 : decode b_Dsk_input 29 = .ok (.aload_n 0, 1) := by decide +kernel
theorem d_Dsk_input_30 : decode b_Dsk_input 30 = .ok (.getfield 38, 3) := by decide +kernel
theorem d_Dsk_input_33 : decode b_Dsk_input 33 = .ok (.iload_n 1, 1) := by decide +kernel
theorem d_Dsk_input_34 : decode b_Dsk_input 34 = .ok (.aaload, 1) := by decide +kernel
theorem d_Dsk_input_35 : decode b_Dsk_input 35 = .ok (.astore 4, 2) := by decide +kernel
theorem d_Dsk_input_37 : decode b_Dsk_input 37 = .ok (.aload 4, 2) := by decide +kernel
theorem d_Dsk_input_39 : decode b_Dsk_input 39 = .ok (.getfield 152, 3) := by decide +kernel
theorem d_Dsk_input_42 : decode b_Dsk_input 42 = .ok (.iload_n 2, 1) := by decide +kernel
theorem d_Dsk_input_43 : decode b_Dsk_input 43 = .ok (.iaload, 1) := by decide +kernel
theorem d_Dsk_input_44 : decode b_Dsk_input 44 = .ok (.istore 5, 2) := by decide +kernel
theorem d_Dsk_input_46 : decode b_Dsk_input 46 = .ok (.aload 4, 2) := by decide +kernel
theorem d_Dsk_input_48 : decode b_Dsk_input 48 = .ok (.getfield 156, 3) := by decide +kernel
theorem d_Dsk_input_51 : decode b_Dsk_input 51 = .ok (.iload_n 2, 1) := by decide +kernel
theorem d_Dsk_input_52 : decode b_Dsk_input 52 = .ok (.iaload, 1) := by decide +kernel
theorem d_Dsk_input_53 : decode b_Dsk_input 53 = .ok (.istore 6, 2) := by decide +kernel
theorem d_Dsk_input_55 : decode b_Dsk_input 55 = .ok (.aload 4, 2) := by decide +kernel
theorem d_Dsk_input_57 : decode b_Dsk_input 57 = .ok (.getfield 159, 3) := by decide +kernel
theorem d_Dsk_input_60 : decode b_Dsk_input 60 = .ok (.iload_n 2, 1) := by decide +kernel
theorem d_Dsk_input_61 : decode b_Dsk_input 61 = .ok (.iaload, 1) := by decide +kernel
theorem d_Dsk_input_62 : decode b_Dsk_input 62 = .ok (.istore 7, 2) := by decide +kernel
theorem d_Dsk_input_64 : decode b_Dsk_input 64 = .ok (.iload_n 3, 1) := by decide +kernel
theorem d_Dsk_input_65 : decode b_Dsk_input 65 = .ok (.tableswitch 75 0 4 #[35, 39, 53, 57, 61], 35) := by decide +kernel
theorem d_Dsk_input_100 : decode b_Dsk_input 100 = .ok (.iload 5, 2) := by decide +kernel
theorem d_Dsk_input_102 : decode b_Dsk_input 102 = .ok (.i2l, 1) := by decide +kernel
theorem d_Dsk_input_103 : decode b_Dsk_input 103 = .ok (.lreturn, 1) := by decide +kernel
theorem d_Dsk_input_104 : decode b_Dsk_input 104 = .ok (.aload_n 0, 1) := by decide +kernel
theorem d_Dsk_input_105 : decode b_Dsk_input 105 = .ok (.getfield 26, 3) := by decide +kernel
theorem d_Dsk_input_108 : decode b_Dsk_input 108 = .ok (.iload 5, 2) := by decide +kernel
theorem d_Dsk_input_110 : decode b_Dsk_input 110 = .ok (.bipush 32, 2) := by decide +kernel
theorem d_Dsk_input_112 : decode b_Dsk_input 112 = .ok (.iadd, 1) := by decide +kernel
theorem d_Dsk_input_113 : decode b_Dsk_input 113 = .ok (.iconst 4, 1) := by decide +kernel
theorem d_Dsk_input_114 : decode b_Dsk_input 114 = .ok (.invokevirtual 134, 3) := by decide +kernel
theorem d_Dsk_input_117 : decode b_Dsk_input 117 = .ok (.lreturn, 1) := by decide +kernel
theorem d_Dsk_input_118 : decode b_Dsk_input 118 = .ok (.iload 6, 2) := by decide +kernel
theorem d_Dsk_input_120 : decode b_Dsk_input 120 = .ok (.i2l, 1) := by decide +kernel
theorem d_Dsk_input_121 : decode b_Dsk_input 121 = .ok (.lreturn, 1) := by decide +kernel
theorem d_Dsk_input_122 : decode b_Dsk_input 122 = .ok (.iload 7, 2) := by decide +kernel
theorem d_Dsk_input_124 : decode b_Dsk_input 124 = .ok (.i2l, 1) := by decide +kernel
theorem d_Dsk_input_125 : decode b_Dsk_input 125 = .ok (.lreturn, 1) := by decide +kernel
theorem d_Dsk_input_126 : decode b_Dsk_input 126 = .ok (.aload_n 0, 1) := by decide +kernel
theorem d_Dsk_input_127 : decode b_Dsk_input 127 = .ok (.getfield 26, 3) := by decide +kernel
theorem d_Dsk_input_130 : decode b_Dsk_input 130 = .ok (.iload 6, 2) := by decide +kernel
theorem d_Dsk_input_132 : decode b_Dsk_input 132 = .ok (.iload 7, 2) := by decide +kernel
theorem d_Dsk_input_134 : decode b_Dsk_input 134 = .ok (.iadd, 1) := by decide +kernel
theorem d_Dsk_input_135 : decode b_Dsk_input 135 = .ok (.iconst 4, 1) := by decide +kernel
theorem d_Dsk_input_136 : decode b_Dsk_input 136 = .ok (.invokevirtual 134, 3) := by decide +kernel
theorem d_Dsk_input_139 : decode b_Dsk_input 139 = .ok (.lreturn, 1) := by decide +kernel
theorem d_Dsk_input_140 : decode b_Dsk_input 140 = .ok (.ldc2_w 132, 3) := by decide +kernel
theorem d_Dsk_input_143 : decode b_Dsk_input 143 = .ok (.lreturn, 1) := by decide +kernel
abbrev b_Dsk_output : ByteArray := prog_1_method_11_code
def y_Dsk_output : MethodName := ⟨R_Dsk, "output", "(III)J"⟩
theorem d_Dsk_output_0 : decode b_Dsk_output 0 = .ok (.aload_n 0, 1) := by decide +kernel
theorem d_Dsk_output_1 : decode b_Dsk_output 1 = .ok (.iload_n 1, 1) := by decide +kernel
theorem d_Dsk_output_2 : decode b_Dsk_output 2 = .ok (.invokevirtual 138, 3) := by decide +kernel
theorem d_Dsk_output_5 : decode b_Dsk_output 5 = .ok (.ifCond .eq 20, 3) := by decide +kernel
theorem d_Dsk_output_8 : decode b_Dsk_output 8 = .ok (.iload_n 2, 1) := by decide +kernel
theorem d_Dsk_output_9 : decode b_Dsk_output 9 = .ok (.ifCond .lt 16, 3) := by decide +kernel
theorem d_Dsk_output_12 : decode b_Dsk_output 12 = .ok (.iload_n 2, 1) := by decide +kernel
theorem d_Dsk_output_13 : decode b_Dsk_output 13 = .ok (.aload_n 0, 1) := by decide +kernel
theorem d_Dsk_output_14 : decode b_Dsk_output 14 = .ok (.getfield 38, 3) := by decide +kernel
theorem d_Dsk_output_17 : decode b_Dsk_output 17 = .ok (.iload_n 1, 1) := by decide +kernel
theorem d_Dsk_output_18 : decode b_Dsk_output 18 = .ok (.aaload, 1) := by decide +kernel
theorem d_Dsk_output_19 : decode b_Dsk_output 19 = .ok (.getfield 146, 3) := by decide +kernel
theorem d_Dsk_output_22 : decode b_Dsk_output 22 = .ok (.if_icmp .lt 7, 3) := by decide +kernel
theorem d_Dsk_output_25 : decode b_Dsk_output 25 = .ok (.ldc2_w 132, 3) := by decide +kernel
theorem d_Dsk_output_28 : decode b_Dsk_output 28 = .ok (.lreturn, 1) := by decide +kernel
theorem d_Dsk_output_29 : decode b_Dsk_output 29 = .ok (.aload_n 0, 1) := by decide +kernel
theorem d_Dsk_output_30 : decode b_Dsk_output 30 = .ok (.getfield 38, 3) := by decide +kernel
theorem d_Dsk_output_33 : decode b_Dsk_output 33 = .ok (.iload_n 1, 1) := by decide +kernel
theorem d_Dsk_output_34 : decode b_Dsk_output 34 = .ok (.aaload, 1) := by decide +kernel
theorem d_Dsk_output_35 : decode b_Dsk_output 35 = .ok (.astore 4, 2) := by decide +kernel
theorem d_Dsk_output_37 : decode b_Dsk_output 37 = .ok (.iload_n 3, 1) := by decide +kernel
theorem d_Dsk_output_38 : decode b_Dsk_output 38 = .ok (.tableswitch 61 0 2 #[26, 43, 52], 26) := by decide +kernel
theorem d_Dsk_output_64 : decode b_Dsk_output 64 = .ok (.aload_n 0, 1) := by decide +kernel
theorem d_Dsk_output_65 : decode b_Dsk_output 65 = .ok (.getfield 26, 3) := by decide +kernel
theorem d_Dsk_output_68 : decode b_Dsk_output 68 = .ok (.aload 4, 2) := by decide +kernel
theorem d_Dsk_output_70 : decode b_Dsk_output 70 = .ok (.getfield 162, 3) := by decide +kernel
theorem d_Dsk_output_73 : decode b_Dsk_output 73 = .ok (.iload_n 2, 1) := by decide +kernel
theorem d_Dsk_output_74 : decode b_Dsk_output 74 = .ok (.iaload, 1) := by decide +kernel
theorem d_Dsk_output_75 : decode b_Dsk_output 75 = .ok (.bipush 8, 2) := by decide +kernel
theorem d_Dsk_output_77 : decode b_Dsk_output 77 = .ok (.invokevirtual 134, 3) := by decide +kernel
theorem d_Dsk_output_80 : decode b_Dsk_output 80 = .ok (.lreturn, 1) := by decide +kernel
theorem d_Dsk_output_81 : decode b_Dsk_output 81 = .ok (.aload 4, 2) := by decide +kernel
theorem d_Dsk_output_83 : decode b_Dsk_output 83 = .ok (.getfield 165, 3) := by decide +kernel
theorem d_Dsk_output_86 : decode b_Dsk_output 86 = .ok (.iload_n 2, 1) := by decide +kernel
theorem d_Dsk_output_87 : decode b_Dsk_output 87 = .ok (.iaload, 1) := by decide +kernel
theorem d_Dsk_output_88 : decode b_Dsk_output 88 = .ok (.i2l, 1) := by decide +kernel
theorem d_Dsk_output_89 : decode b_Dsk_output 89 = .ok (.lreturn, 1) := by decide +kernel
theorem d_Dsk_output_90 : decode b_Dsk_output 90 = .ok (.aload 4, 2) := by decide +kernel
theorem d_Dsk_output_92 : decode b_Dsk_output 92 = .ok (.getfield 168, 3) := by decide +kernel
theorem d_Dsk_output_95 : decode b_Dsk_output 95 = .ok (.iload_n 2, 1) := by decide +kernel
theorem d_Dsk_output_96 : decode b_Dsk_output 96 = .ok (.iaload, 1) := by decide +kernel
theorem d_Dsk_output_97 : decode b_Dsk_output 97 = .ok (.i2l, 1) := by decide +kernel
theorem d_Dsk_output_98 : decode b_Dsk_output 98 = .ok (.lreturn, 1) := by decide +kernel
theorem d_Dsk_output_99 : decode b_Dsk_output 99 = .ok (.ldc2_w 132, 3) := by decide +kernel
theorem d_Dsk_output_102 : decode b_Dsk_output 102 = .ok (.lreturn, 1) := by decide +kernel
abbrev b_Dsk_name : ByteArray := prog_1_method_12_code
def y_Dsk_name : MethodName := ⟨R_Dsk, "name", "(II)J"⟩
theorem d_Dsk_name_0 : decode b_Dsk_name 0 = .ok (.iload_n 2, 1) := by decide +kernel
theorem d_Dsk_name_1 : decode b_Dsk_name 1 = .ok (.ifCond .lt 8, 3) := by decide +kernel
theorem d_Dsk_name_4 : decode b_Dsk_name 4 = .ok (.iload_n 2, 1) := by decide +kernel
theorem d_Dsk_name_5 : decode b_Dsk_name 5 = .ok (.iconst 3, 1) := by decide +kernel
theorem d_Dsk_name_6 : decode b_Dsk_name 6 = .ok (.if_icmp .le 5, 3) := by decide +kernel
theorem d_Dsk_name_9 : decode b_Dsk_name 9 = .ok (.lconst 0, 1) := by decide +kernel
theorem d_Dsk_name_10 : decode b_Dsk_name 10 = .ok (.lreturn, 1) := by decide +kernel
theorem d_Dsk_name_11 : decode b_Dsk_name 11 = .ok (.aload_n 0, 1) := by decide +kernel
theorem d_Dsk_name_12 : decode b_Dsk_name 12 = .ok (.iload_n 1, 1) := by decide +kernel
theorem d_Dsk_name_13 : decode b_Dsk_name 13 = .ok (.invokevirtual 138, 3) := by decide +kernel
theorem d_Dsk_name_16 : decode b_Dsk_name 16 = .ok (.ifCond .eq 20, 3) := by decide +kernel
theorem d_Dsk_name_19 : decode b_Dsk_name 19 = .ok (.aload_n 0, 1) := by decide +kernel
theorem d_Dsk_name_20 : decode b_Dsk_name 20 = .ok (.getfield 53, 3) := by decide +kernel
theorem d_Dsk_name_23 : decode b_Dsk_name 23 = .ok (.iload_n 1, 1) := by decide +kernel
theorem d_Dsk_name_24 : decode b_Dsk_name 24 = .ok (.bipush 32, 2) := by decide +kernel
theorem d_Dsk_name_26 : decode b_Dsk_name 26 = .ok (.imul, 1) := by decide +kernel
theorem d_Dsk_name_27 : decode b_Dsk_name 27 = .ok (.bipush 8, 2) := by decide +kernel
theorem d_Dsk_name_29 : decode b_Dsk_name 29 = .ok (.iload_n 2, 1) := by decide +kernel
theorem d_Dsk_name_30 : decode b_Dsk_name 30 = .ok (.imul, 1) := by decide +kernel
theorem d_Dsk_name_31 : decode b_Dsk_name 31 = .ok (.iadd, 1) := by decide +kernel
theorem d_Dsk_name_32 : decode b_Dsk_name 32 = .ok (.invokestatic 171, 3) := by decide +kernel
theorem d_Dsk_name_35 : decode b_Dsk_name 35 = .ok (.lreturn, 1) := by decide +kernel
theorem d_Dsk_name_36 : decode b_Dsk_name 36 = .ok (.aload_n 0, 1) := by decide +kernel
theorem d_Dsk_name_37 : decode b_Dsk_name 37 = .ok (.getfield 46, 3) := by decide +kernel
theorem d_Dsk_name_40 : decode b_Dsk_name 40 = .ok (.ifCond .ne 5, 3) := by decide +kernel
theorem d_Dsk_name_43 : decode b_Dsk_name 43 = .ok (.lconst 0, 1) := by decide +kernel
theorem d_Dsk_name_44 : decode b_Dsk_name 44 = .ok (.lreturn, 1) := by decide +kernel
theorem d_Dsk_name_45 : decode b_Dsk_name 45 = .ok (.iload_n 1, 1) := by decide +kernel
theorem d_Dsk_name_46 : decode b_Dsk_name 46 = .ok (.tableswitch 71 (-3) (-1) #[56, 38, 26], 26) := by decide +kernel
theorem d_Dsk_name_72 : decode b_Dsk_name 72 = .ok (.aload_n 0, 1) := by decide +kernel
theorem d_Dsk_name_73 : decode b_Dsk_name 73 = .ok (.getfield 57, 3) := by decide +kernel
theorem d_Dsk_name_76 : decode b_Dsk_name 76 = .ok (.bipush 8, 2) := by decide +kernel
theorem d_Dsk_name_78 : decode b_Dsk_name 78 = .ok (.iload_n 2, 1) := by decide +kernel
theorem d_Dsk_name_79 : decode b_Dsk_name 79 = .ok (.imul, 1) := by decide +kernel
theorem d_Dsk_name_80 : decode b_Dsk_name 80 = .ok (.invokestatic 171, 3) := by decide +kernel
theorem d_Dsk_name_83 : decode b_Dsk_name 83 = .ok (.lreturn, 1) := by decide +kernel
theorem d_Dsk_name_84 : decode b_Dsk_name 84 = .ok (.aload_n 0, 1) := by decide +kernel
theorem d_Dsk_name_85 : decode b_Dsk_name 85 = .ok (.getfield 26, 3) := by decide +kernel
theorem d_Dsk_name_88 : decode b_Dsk_name 88 = .ok (.getfield 118, 3) := by decide +kernel
theorem d_Dsk_name_91 : decode b_Dsk_name 91 = .ok (.bipush 36, 2) := by decide +kernel
theorem d_Dsk_name_93 : decode b_Dsk_name 93 = .ok (.bipush 8, 2) := by decide +kernel
theorem d_Dsk_name_95 : decode b_Dsk_name 95 = .ok (.iload_n 2, 1) := by decide +kernel
theorem d_Dsk_name_96 : decode b_Dsk_name 96 = .ok (.imul, 1) := by decide +kernel
theorem d_Dsk_name_97 : decode b_Dsk_name 97 = .ok (.iadd, 1) := by decide +kernel
theorem d_Dsk_name_98 : decode b_Dsk_name 98 = .ok (.invokestatic 171, 3) := by decide +kernel
theorem d_Dsk_name_101 : decode b_Dsk_name 101 = .ok (.lreturn, 1) := by decide +kernel
theorem d_Dsk_name_102 : decode b_Dsk_name 102 = .ok (.aload_n 0, 1) := by decide +kernel
theorem d_Dsk_name_103 : decode b_Dsk_name 103 = .ok (.getfield 63, 3) := by decide +kernel
theorem d_Dsk_name_106 : decode b_Dsk_name 106 = .ok (.getfield 175, 3) := by decide +kernel
theorem d_Dsk_name_109 : decode b_Dsk_name 109 = .ok (.bipush 8, 2) := by decide +kernel
theorem d_Dsk_name_111 : decode b_Dsk_name 111 = .ok (.iload_n 2, 1) := by decide +kernel
theorem d_Dsk_name_112 : decode b_Dsk_name 112 = .ok (.imul, 1) := by decide +kernel
theorem d_Dsk_name_113 : decode b_Dsk_name 113 = .ok (.invokestatic 171, 3) := by decide +kernel
theorem d_Dsk_name_116 : decode b_Dsk_name 116 = .ok (.lreturn, 1) := by decide +kernel
theorem d_Dsk_name_117 : decode b_Dsk_name 117 = .ok (.lconst 0, 1) := by decide +kernel
theorem d_Dsk_name_118 : decode b_Dsk_name 118 = .ok (.lreturn, 1) := by decide +kernel
abbrev b_Dsk_isDoubtful : ByteArray := prog_1_method_13_code
def y_Dsk_isDoubtful : MethodName := ⟨R_Dsk, "isDoubtful", "()Z"⟩
theorem d_Dsk_isDoubtful_0 : decode b_Dsk_isDoubtful 0 = .ok (.aload_n 0, 1) := by decide +kernel
theorem d_Dsk_isDoubtful_1 : decode b_Dsk_isDoubtful 1 = .ok (.getfield 46, 3) := by decide +kernel
theorem d_Dsk_isDoubtful_4 : decode b_Dsk_isDoubtful 4 = .ok (.ifCond .eq 17, 3) := by decide +kernel
theorem d_Dsk_isDoubtful_7 : decode b_Dsk_isDoubtful 7 = .ok (.aload_n 0, 1) := by decide +kernel
theorem d_Dsk_isDoubtful_8 : decode b_Dsk_isDoubtful 8 = .ok (.getfield 63, 3) := by decide +kernel
theorem d_Dsk_isDoubtful_11 : decode b_Dsk_isDoubtful 11 = .ok (.getfield 178, 3) := by decide +kernel
theorem d_Dsk_isDoubtful_14 : decode b_Dsk_isDoubtful 14 = .ok (.ifCond .eq 7, 3) := by decide +kernel
theorem d_Dsk_isDoubtful_17 : decode b_Dsk_isDoubtful 17 = .ok (.iconst 1, 1) := by decide +kernel
theorem d_Dsk_isDoubtful_18 : decode b_Dsk_isDoubtful 18 = .ok (.goto 4, 3) := by decide +kernel
theorem d_Dsk_isDoubtful_21 : decode b_Dsk_isDoubtful 21 = .ok (.iconst 0, 1) := by decide +kernel
theorem d_Dsk_isDoubtful_22 : decode b_Dsk_isDoubtful 22 = .ok (.ireturn, 1) := by decide +kernel
abbrev b_Dsk_forget : ByteArray := prog_1_method_14_code
def y_Dsk_forget : MethodName := ⟨R_Dsk, "forget", "()V"⟩
theorem d_Dsk_forget_0 : decode b_Dsk_forget 0 = .ok (.aload_n 0, 1) := by decide +kernel
theorem d_Dsk_forget_1 : decode b_Dsk_forget 1 = .ok (.getfield 26, 3) := by decide +kernel
theorem d_Dsk_forget_4 : decode b_Dsk_forget 4 = .ok (.invokevirtual 91, 3) := by decide +kernel
theorem d_Dsk_forget_7 : decode b_Dsk_forget 7 = .ok (.aload_n 0, 1) := by decide +kernel
theorem d_Dsk_forget_8 : decode b_Dsk_forget 8 = .ok (.iconst 0, 1) := by decide +kernel
theorem d_Dsk_forget_9 : decode b_Dsk_forget 9 = .ok (.putfield 42, 3) := by decide +kernel
theorem d_Dsk_forget_12 : decode b_Dsk_forget 12 = .ok (.aload_n 0, 1) := by decide +kernel
theorem d_Dsk_forget_13 : decode b_Dsk_forget 13 = .ok (.iconst 0, 1) := by decide +kernel
theorem d_Dsk_forget_14 : decode b_Dsk_forget 14 = .ok (.putfield 46, 3) := by decide +kernel
theorem d_Dsk_forget_17 : decode b_Dsk_forget 17 = .ok (.return_, 1) := by decide +kernel
abbrev b_Dsk_hasTransaction : ByteArray := prog_1_method_15_code
def y_Dsk_hasTransaction : MethodName := ⟨R_Dsk, "hasTransaction", "(I)Z"⟩
theorem d_Dsk_hasTransaction_0 : decode b_Dsk_hasTransaction 0 = .ok (.iload_n 1, 1) := by decide +kernel
theorem d_Dsk_hasTransaction_1 : decode b_Dsk_hasTransaction 1 = .ok (.ifCond .lt 21, 3) := by decide +kernel
theorem d_Dsk_hasTransaction_4 : decode b_Dsk_hasTransaction 4 = .ok (.iload_n 1, 1) := by decide +kernel
theorem d_Dsk_hasTransaction_5 : decode b_Dsk_hasTransaction 5 = .ok (.aload_n 0, 1) := by decide +kernel
theorem d_Dsk_hasTransaction_6 : decode b_Dsk_hasTransaction 6 = .ok (.getfield 42, 3) := by decide +kernel
theorem d_Dsk_hasTransaction_9 : decode b_Dsk_hasTransaction 9 = .ok (.if_icmp .ge 13, 3) := by decide +kernel
theorem d_Dsk_hasTransaction_12 : decode b_Dsk_hasTransaction 12 = .ok (.iload_n 1, 1) := by decide +kernel
theorem d_Dsk_hasTransaction_13 : decode b_Dsk_hasTransaction 13 = .ok (.bipush 12, 2) := by decide +kernel
theorem d_Dsk_hasTransaction_15 : decode b_Dsk_hasTransaction 15 = .ok (.if_icmp .ge 7, 3) := by decide +kernel
theorem d_Dsk_hasTransaction_18 : decode b_Dsk_hasTransaction 18 = .ok (.iconst 1, 1) := by decide +kernel
theorem d_Dsk_hasTransaction_19 : decode b_Dsk_hasTransaction 19 = .ok (.goto 4, 3) := by decide +kernel
theorem d_Dsk_hasTransaction_22 : decode b_Dsk_hasTransaction 22 = .ok (.iconst 0, 1) := by decide +kernel
theorem d_Dsk_hasTransaction_23 : decode b_Dsk_hasTransaction 23 = .ok (.ireturn, 1) := by decide +kernel
abbrev b_Dsk_nameTransactions : ByteArray := prog_1_method_16_code
def y_Dsk_nameTransactions : MethodName := ⟨R_Dsk, "nameTransactions", "()V"⟩
theorem d_Dsk_nameTransactions_0 : decode b_Dsk_nameTransactions 0 = .ok (.iconst 0, 1) := by decide +kernel
theorem d_Dsk_nameTransactions_1 : decode b_Dsk_nameTransactions 1 = .ok (.istore_n 1, 1) := by decide +kernel
theorem d_Dsk_nameTransactions_2 : decode b_Dsk_nameTransactions 2 = .ok (.iload_n 1, 1) := by decide +kernel
theorem d_Dsk_nameTransactions_3 : decode b_Dsk_nameTransactions 3 = .ok (.aload_n 0, 1) := by decide +kernel
theorem d_Dsk_nameTransactions_4 : decode b_Dsk_nameTransactions 4 = .ok (.getfield 42, 3) := by decide +kernel
theorem d_Dsk_nameTransactions_7 : decode b_Dsk_nameTransactions 7 = .ok (.if_icmp .ge 61, 3) := by decide +kernel
theorem d_Dsk_nameTransactions_10 : decode b_Dsk_nameTransactions 10 = .ok (.iload_n 1, 1) := by decide +kernel
theorem d_Dsk_nameTransactions_11 : decode b_Dsk_nameTransactions 11 = .ok (.bipush 12, 2) := by decide +kernel
theorem d_Dsk_nameTransactions_13 : decode b_Dsk_nameTransactions 13 = .ok (.if_icmp .ge 55, 3) := by decide +kernel
theorem d_Dsk_nameTransactions_16 : decode b_Dsk_nameTransactions 16 = .ok (.aload_n 0, 1) := by decide +kernel
theorem d_Dsk_nameTransactions_17 : decode b_Dsk_nameTransactions 17 = .ok (.getfield 38, 3) := by decide +kernel
theorem d_Dsk_nameTransactions_20 : decode b_Dsk_nameTransactions 20 = .ok (.iload_n 1, 1) := by decide +kernel
theorem d_Dsk_nameTransactions_21 : decode b_Dsk_nameTransactions 21 = .ok (.aaload, 1) := by decide +kernel
theorem d_Dsk_nameTransactions_22 : decode b_Dsk_nameTransactions 22 = .ok (.getfield 141, 3) := by decide +kernel
theorem d_Dsk_nameTransactions_25 : decode b_Dsk_nameTransactions 25 = .ok (.istore_n 2, 1) := by decide +kernel
theorem d_Dsk_nameTransactions_26 : decode b_Dsk_nameTransactions 26 = .ok (.aload_n 0, 1) := by decide +kernel
theorem d_Dsk_nameTransactions_27 : decode b_Dsk_nameTransactions 27 = .ok (.getfield 38, 3) := by decide +kernel
theorem d_Dsk_nameTransactions_30 : decode b_Dsk_nameTransactions 30 = .ok (.iload_n 1, 1) := by decide +kernel
theorem d_Dsk_nameTransactions_31 : decode b_Dsk_nameTransactions 31 = .ok (.aaload, 1) := by decide +kernel
theorem d_Dsk_nameTransactions_32 : decode b_Dsk_nameTransactions 32 = .ok (.getfield 149, 3) := by decide +kernel
theorem d_Dsk_nameTransactions_35 : decode b_Dsk_nameTransactions 35 = .ok (.iload_n 2, 1) := by decide +kernel
theorem d_Dsk_nameTransactions_36 : decode b_Dsk_nameTransactions 36 = .ok (.isub, 1) := by decide +kernel
theorem d_Dsk_nameTransactions_37 : decode b_Dsk_nameTransactions 37 = .ok (.istore_n 3, 1) := by decide +kernel
theorem d_Dsk_nameTransactions_38 : decode b_Dsk_nameTransactions 38 = .ok (.aload_n 0, 1) := by decide +kernel
theorem d_Dsk_nameTransactions_39 : decode b_Dsk_nameTransactions 39 = .ok (.getfield 32, 3) := by decide +kernel
theorem d_Dsk_nameTransactions_42 : decode b_Dsk_nameTransactions 42 = .ok (.aload_n 0, 1) := by decide +kernel
theorem d_Dsk_nameTransactions_43 : decode b_Dsk_nameTransactions 43 = .ok (.getfield 26, 3) := by decide +kernel
theorem d_Dsk_nameTransactions_46 : decode b_Dsk_nameTransactions 46 = .ok (.getfield 118, 3) := by decide +kernel
theorem d_Dsk_nameTransactions_49 : decode b_Dsk_nameTransactions 49 = .ok (.iload_n 2, 1) := by decide +kernel
theorem d_Dsk_nameTransactions_50 : decode b_Dsk_nameTransactions 50 = .ok (.iload_n 3, 1) := by decide +kernel
theorem d_Dsk_nameTransactions_51 : decode b_Dsk_nameTransactions 51 = .ok (.aload_n 0, 1) := by decide +kernel
theorem d_Dsk_nameTransactions_52 : decode b_Dsk_nameTransactions 52 = .ok (.getfield 53, 3) := by decide +kernel
theorem d_Dsk_nameTransactions_55 : decode b_Dsk_nameTransactions 55 = .ok (.iload_n 1, 1) := by decide +kernel
theorem d_Dsk_nameTransactions_56 : decode b_Dsk_nameTransactions 56 = .ok (.bipush 32, 2) := by decide +kernel
theorem d_Dsk_nameTransactions_58 : decode b_Dsk_nameTransactions 58 = .ok (.imul, 1) := by decide +kernel
theorem d_Dsk_nameTransactions_59 : decode b_Dsk_nameTransactions 59 = .ok (.invokevirtual 121, 3) := by decide +kernel
theorem d_Dsk_nameTransactions_62 : decode b_Dsk_nameTransactions 62 = .ok (.iinc 1 1, 3) := by decide +kernel
theorem d_Dsk_nameTransactions_65 : decode b_Dsk_nameTransactions 65 = .ok (.goto (-63), 3) := by decide +kernel
theorem d_Dsk_nameTransactions_68 : decode b_Dsk_nameTransactions 68 = .ok (.return_, 1) := by decide +kernel
abbrev b_Dsk_eightBytes : ByteArray := prog_1_method_17_code
def y_Dsk_eightBytes : MethodName := ⟨R_Dsk, "eightBytes", "([BI)J"⟩
theorem d_Dsk_eightBytes_0 : decode b_Dsk_eightBytes 0 = .ok (.iload_n 1, 1) := by decide +kernel
theorem d_Dsk_eightBytes_1 : decode b_Dsk_eightBytes 1 = .ok (.ifCond .lt 12, 3) := by decide +kernel
theorem d_Dsk_eightBytes_4 : decode b_Dsk_eightBytes 4 = .ok (.iload_n 1, 1) := by decide +kernel
theorem d_Dsk_eightBytes_5 : decode b_Dsk_eightBytes 5 = .ok (.aload_n 0, 1) := by decide +kernel
theorem d_Dsk_eightBytes_6 : decode b_Dsk_eightBytes 6 = .ok (.arraylength, 1) := by decide +kernel
theorem d_Dsk_eightBytes_7 : decode b_Dsk_eightBytes 7 = .ok (.bipush 8, 2) := by decide +kernel
theorem d_Dsk_eightBytes_9 : decode b_Dsk_eightBytes 9 = .ok (.isub, 1) := by decide +kernel
theorem d_Dsk_eightBytes_10 : decode b_Dsk_eightBytes 10 = .ok (.if_icmp .le 5, 3) := by decide +kernel
theorem d_Dsk_eightBytes_13 : decode b_Dsk_eightBytes 13 = .ok (.lconst 0, 1) := by decide +kernel
theorem d_Dsk_eightBytes_14 : decode b_Dsk_eightBytes 14 = .ok (.lreturn, 1) := by decide +kernel
theorem d_Dsk_eightBytes_15 : decode b_Dsk_eightBytes 15 = .ok (.lconst 0, 1) := by decide +kernel
theorem d_Dsk_eightBytes_16 : decode b_Dsk_eightBytes 16 = .ok (.lstore_n 2, 1) := by decide +kernel
theorem d_Dsk_eightBytes_17 : decode b_Dsk_eightBytes 17 = .ok (.iconst 0, 1) := by decide +kernel
theorem d_Dsk_eightBytes_18 : decode b_Dsk_eightBytes 18 = .ok (.istore 4, 2) := by decide +kernel
theorem d_Dsk_eightBytes_20 : decode b_Dsk_eightBytes 20 = .ok (.iload 4, 2) := by decide +kernel
theorem d_Dsk_eightBytes_22 : decode b_Dsk_eightBytes 22 = .ok (.bipush 8, 2) := by decide +kernel
theorem d_Dsk_eightBytes_24 : decode b_Dsk_eightBytes 24 = .ok (.if_icmp .ge 26, 3) := by decide +kernel
theorem d_Dsk_eightBytes_27 : decode b_Dsk_eightBytes 27 = .ok (.lload_n 2, 1) := by decide +kernel
theorem d_Dsk_eightBytes_28 : decode b_Dsk_eightBytes 28 = .ok (.bipush 8, 2) := by decide +kernel
theorem d_Dsk_eightBytes_30 : decode b_Dsk_eightBytes 30 = .ok (.lshl, 1) := by decide +kernel
theorem d_Dsk_eightBytes_31 : decode b_Dsk_eightBytes 31 = .ok (.aload_n 0, 1) := by decide +kernel
theorem d_Dsk_eightBytes_32 : decode b_Dsk_eightBytes 32 = .ok (.iload_n 1, 1) := by decide +kernel
theorem d_Dsk_eightBytes_33 : decode b_Dsk_eightBytes 33 = .ok (.iload 4, 2) := by decide +kernel
theorem d_Dsk_eightBytes_35 : decode b_Dsk_eightBytes 35 = .ok (.iadd, 1) := by decide +kernel
theorem d_Dsk_eightBytes_36 : decode b_Dsk_eightBytes 36 = .ok (.baload, 1) := by decide +kernel
theorem d_Dsk_eightBytes_37 : decode b_Dsk_eightBytes 37 = .ok (.sipush 255, 3) := by decide +kernel
theorem d_Dsk_eightBytes_40 : decode b_Dsk_eightBytes 40 = .ok (.iand, 1) := by decide +kernel
theorem d_Dsk_eightBytes_41 : decode b_Dsk_eightBytes 41 = .ok (.i2l, 1) := by decide +kernel
theorem d_Dsk_eightBytes_42 : decode b_Dsk_eightBytes 42 = .ok (.lor, 1) := by decide +kernel
theorem d_Dsk_eightBytes_43 : decode b_Dsk_eightBytes 43 = .ok (.lstore_n 2, 1) := by decide +kernel
theorem d_Dsk_eightBytes_44 : decode b_Dsk_eightBytes 44 = .ok (.iinc 4 1, 3) := by decide +kernel
theorem d_Dsk_eightBytes_47 : decode b_Dsk_eightBytes 47 = .ok (.goto (-27), 3) := by decide +kernel
theorem d_Dsk_eightBytes_50 : decode b_Dsk_eightBytes 50 = .ok (.lload_n 2, 1) := by decide +kernel
theorem d_Dsk_eightBytes_51 : decode b_Dsk_eightBytes 51 = .ok (.lreturn, 1) := by decide +kernel
abbrev b_Dsk_widthOfSize : ByteArray := prog_1_method_18_code
def y_Dsk_widthOfSize : MethodName := ⟨R_Dsk, "widthOfSize", "(J)I"⟩
theorem d_Dsk_widthOfSize_0 : decode b_Dsk_widthOfSize 0 = .ok (.lload_n 0, 1) := by decide +kernel
theorem d_Dsk_widthOfSize_1 : decode b_Dsk_widthOfSize 1 = .ok (.bipush 32, 2) := by decide +kernel
theorem d_Dsk_widthOfSize_3 : decode b_Dsk_widthOfSize 3 = .ok (.lushr, 1) := by decide +kernel
theorem d_Dsk_widthOfSize_4 : decode b_Dsk_widthOfSize 4 = .ok (.lconst 0, 1) := by decide +kernel
theorem d_Dsk_widthOfSize_5 : decode b_Dsk_widthOfSize 5 = .ok (.lcmp, 1) := by decide +kernel
theorem d_Dsk_widthOfSize_6 : decode b_Dsk_widthOfSize 6 = .ok (.ifCond .eq 6, 3) := by decide +kernel
theorem d_Dsk_widthOfSize_9 : decode b_Dsk_widthOfSize 9 = .ok (.bipush 8, 2) := by decide +kernel
theorem d_Dsk_widthOfSize_11 : decode b_Dsk_widthOfSize 11 = .ok (.ireturn, 1) := by decide +kernel
theorem d_Dsk_widthOfSize_12 : decode b_Dsk_widthOfSize 12 = .ok (.lload_n 0, 1) := by decide +kernel
theorem d_Dsk_widthOfSize_13 : decode b_Dsk_widthOfSize 13 = .ok (.bipush 16, 2) := by decide +kernel
theorem d_Dsk_widthOfSize_15 : decode b_Dsk_widthOfSize 15 = .ok (.lushr, 1) := by decide +kernel
theorem d_Dsk_widthOfSize_16 : decode b_Dsk_widthOfSize 16 = .ok (.lconst 0, 1) := by decide +kernel
theorem d_Dsk_widthOfSize_17 : decode b_Dsk_widthOfSize 17 = .ok (.lcmp, 1) := by decide +kernel
theorem d_Dsk_widthOfSize_18 : decode b_Dsk_widthOfSize 18 = .ok (.ifCond .eq 5, 3) := by decide +kernel
theorem d_Dsk_widthOfSize_21 : decode b_Dsk_widthOfSize 21 = .ok (.iconst 4, 1) := by decide +kernel
theorem d_Dsk_widthOfSize_22 : decode b_Dsk_widthOfSize 22 = .ok (.ireturn, 1) := by decide +kernel
theorem d_Dsk_widthOfSize_23 : decode b_Dsk_widthOfSize 23 = .ok (.lload_n 0, 1) := by decide +kernel
theorem d_Dsk_widthOfSize_24 : decode b_Dsk_widthOfSize 24 = .ok (.ldc2_w 181, 3) := by decide +kernel
theorem d_Dsk_widthOfSize_27 : decode b_Dsk_widthOfSize 27 = .ok (.lcmp, 1) := by decide +kernel
theorem d_Dsk_widthOfSize_28 : decode b_Dsk_widthOfSize 28 = .ok (.ifCond .ge 7, 3) := by decide +kernel
theorem d_Dsk_widthOfSize_31 : decode b_Dsk_widthOfSize 31 = .ok (.iconst 0, 1) := by decide +kernel
theorem d_Dsk_widthOfSize_32 : decode b_Dsk_widthOfSize 32 = .ok (.goto 4, 3) := by decide +kernel
theorem d_Dsk_widthOfSize_35 : decode b_Dsk_widthOfSize 35 = .ok (.iconst 2, 1) := by decide +kernel
theorem d_Dsk_widthOfSize_36 : decode b_Dsk_widthOfSize 36 = .ok (.ireturn, 1) := by decide +kernel
abbrev b_Dsk_markOfWidth : ByteArray := prog_1_method_19_code
def y_Dsk_markOfWidth : MethodName := ⟨R_Dsk, "markOfWidth", "(I)I"⟩
theorem d_Dsk_markOfWidth_0 : decode b_Dsk_markOfWidth 0 = .ok (.iload_n 0, 1) := by decide +kernel
theorem d_Dsk_markOfWidth_1 : decode b_Dsk_markOfWidth 1 = .ok (.bipush 8, 2) := by decide +kernel
theorem d_Dsk_markOfWidth_3 : decode b_Dsk_markOfWidth 3 = .ok (.if_icmp .ne 7, 3) := by decide +kernel
theorem d_Dsk_markOfWidth_6 : decode b_Dsk_markOfWidth 6 = .ok (.sipush 255, 3) := by decide +kernel
theorem d_Dsk_markOfWidth_9 : decode b_Dsk_markOfWidth 9 = .ok (.ireturn, 1) := by decide +kernel
theorem d_Dsk_markOfWidth_10 : decode b_Dsk_markOfWidth 10 = .ok (.iload_n 0, 1) := by decide +kernel
theorem d_Dsk_markOfWidth_11 : decode b_Dsk_markOfWidth 11 = .ok (.iconst 4, 1) := by decide +kernel
theorem d_Dsk_markOfWidth_12 : decode b_Dsk_markOfWidth 12 = .ok (.if_icmp .ne 9, 3) := by decide +kernel
theorem d_Dsk_markOfWidth_15 : decode b_Dsk_markOfWidth 15 = .ok (.sipush 254, 3) := by decide +kernel
theorem d_Dsk_markOfWidth_18 : decode b_Dsk_markOfWidth 18 = .ok (.goto 6, 3) := by decide +kernel
theorem d_Dsk_markOfWidth_21 : decode b_Dsk_markOfWidth 21 = .ok (.sipush 253, 3) := by decide +kernel
theorem d_Dsk_markOfWidth_24 : decode b_Dsk_markOfWidth 24 = .ok (.ireturn, 1) := by decide +kernel
abbrev b_Dsk_widthOfMark : ByteArray := prog_1_method_20_code
def y_Dsk_widthOfMark : MethodName := ⟨R_Dsk, "widthOfMark", "(I)I"⟩
theorem d_Dsk_widthOfMark_0 : decode b_Dsk_widthOfMark 0 = .ok (.iload_n 0, 1) := by decide +kernel
theorem d_Dsk_widthOfMark_1 : decode b_Dsk_widthOfMark 1 = .ok (.tableswitch 34 253 255 #[27, 29, 31], 27) := by decide +kernel
theorem d_Dsk_widthOfMark_28 : decode b_Dsk_widthOfMark 28 = .ok (.iconst 2, 1) := by decide +kernel
theorem d_Dsk_widthOfMark_29 : decode b_Dsk_widthOfMark 29 = .ok (.ireturn, 1) := by decide +kernel
theorem d_Dsk_widthOfMark_30 : decode b_Dsk_widthOfMark 30 = .ok (.iconst 4, 1) := by decide +kernel
theorem d_Dsk_widthOfMark_31 : decode b_Dsk_widthOfMark 31 = .ok (.ireturn, 1) := by decide +kernel
theorem d_Dsk_widthOfMark_32 : decode b_Dsk_widthOfMark 32 = .ok (.bipush 8, 2) := by decide +kernel
theorem d_Dsk_widthOfMark_34 : decode b_Dsk_widthOfMark 34 = .ok (.ireturn, 1) := by decide +kernel
theorem d_Dsk_widthOfMark_35 : decode b_Dsk_widthOfMark 35 = .ok (.iconst 0, 1) := by decide +kernel
theorem d_Dsk_widthOfMark_36 : decode b_Dsk_widthOfMark 36 = .ok (.ireturn, 1) := by decide +kernel
