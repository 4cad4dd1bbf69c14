abbrev b_Row_init : ByteArray := prog_2_method_1_code
def y_Row_init : MethodName := ⟨R_Row, "<init>", "()V"⟩
theorem d_Row_init_0 : decode b_Row_init 0 = .ok (.aload_n 0, 1) := by decide +kernel
theorem d_Row_init_1 : decode b_Row_init 1 = .ok (.invokespecial 3, 3) := by decide +kernel
theorem d_Row_init_4 : decode b_Row_init 4 = .ok (.aload_n 0, 1) := by decide +kernel
theorem d_Row_init_5 : decode b_Row_init 5 = .ok (.sipush 384, 3) := by decide +kernel
theorem d_Row_init_8 : decode b_Row_init 8 = .ok (.newarray .byte, 2) := by decide +kernel
theorem d_Row_init_10 : decode b_Row_init 10 = .ok (.putfield 9, 3) := by decide +kernel
theorem d_Row_init_13 : decode b_Row_init 13 = .ok (.aload_n 0, 1) := by decide +kernel
theorem d_Row_init_14 : decode b_Row_init 14 = .ok (.iconst 0, 1) := by decide +kernel
theorem d_Row_init_15 : decode b_Row_init 15 = .ok (.putfield 15, 3) := by decide +kernel
theorem d_Row_init_18 : decode b_Row_init 18 = .ok (.return_, 1) := by decide +kernel
abbrev b_Row_putTogether : ByteArray := prog_2_method_2_code
def y_Row_putTogether : MethodName := ⟨R_Row, "putTogether", "([BILWireDesk$Namer;)V"⟩
theorem d_Row_putTogether_0 : decode b_Row_putTogether 0 = .ok (.aload_n 0, 1) := by decide +kernel
theorem d_Row_putTogether_1 : decode b_Row_putTogether 1 = .ok (.iconst 0, 1) := by decide +kernel
theorem d_Row_putTogether_2 : decode b_Row_putTogether 2 = .ok (.putfield 15, 3) := by decide +kernel
theorem d_Row_putTogether_5 : decode b_Row_putTogether 5 = .ok (.iconst 0, 1) := by decide +kernel
theorem d_Row_putTogether_6 : decode b_Row_putTogether 6 = .ok (.istore 4, 2) := by decide +kernel
theorem d_Row_putTogether_8 : decode b_Row_putTogether 8 = .ok (.iload 4, 2) := by decide +kernel
theorem d_Row_putTogether_10 : decode b_Row_putTogether 10 = .ok (.bipush 32, 2) := by decide +kernel
theorem d_Row_putTogether_12 : decode b_Row_putTogether 12 = .ok (.if_icmp .ge 17, 3) := by decide +kernel
theorem d_Row_putTogether_15 : decode b_Row_putTogether 15 = .ok (.aload_n 0, 1) := by decide +kernel
theorem d_Row_putTogether_16 : decode b_Row_putTogether 16 = .ok (.getfield 9, 3) := by decide +kernel
theorem d_Row_putTogether_19 : decode b_Row_putTogether 19 = .ok (.iload 4, 2) := by decide +kernel
theorem d_Row_putTogether_21 : decode b_Row_putTogether 21 = .ok (.iconst 0, 1) := by decide +kernel
theorem d_Row_putTogether_22 : decode b_Row_putTogether 22 = .ok (.bastore, 1) := by decide +kernel
theorem d_Row_putTogether_23 : decode b_Row_putTogether 23 = .ok (.iinc 4 1, 3) := by decide +kernel
theorem d_Row_putTogether_26 : decode b_Row_putTogether 26 = .ok (.goto (-18), 3) := by decide +kernel
theorem d_Row_putTogether_29 : decode b_Row_putTogether 29 = .ok (.iconst 0, 1) := by decide +kernel
theorem d_Row_putTogether_30 : decode b_Row_putTogether 30 = .ok (.istore 4, 2) := by decide +kernel
theorem d_Row_putTogether_32 : decode b_Row_putTogether 32 = .ok (.iload 4, 2) := by decide +kernel
theorem d_Row_putTogether_34 : decode b_Row_putTogether 34 = .ok (.iload_n 2, 1) := by decide +kernel
theorem d_Row_putTogether_35 : decode b_Row_putTogether 35 = .ok (.bipush 32, 2) := by decide +kernel
theorem d_Row_putTogether_37 : decode b_Row_putTogether 37 = .ok (.imul, 1) := by decide +kernel
theorem d_Row_putTogether_38 : decode b_Row_putTogether 38 = .ok (.if_icmp .ge 37, 3) := by decide +kernel
theorem d_Row_putTogether_41 : decode b_Row_putTogether 41 = .ok (.iload 4, 2) := by decide +kernel
theorem d_Row_putTogether_43 : decode b_Row_putTogether 43 = .ok (.aload_n 0, 1) := by decide +kernel
theorem d_Row_putTogether_44 : decode b_Row_putTogether 44 = .ok (.getfield 9, 3) := by decide +kernel
theorem d_Row_putTogether_47 : decode b_Row_putTogether 47 = .ok (.arraylength, 1) := by decide +kernel
theorem d_Row_putTogether_48 : decode b_Row_putTogether 48 = .ok (.if_icmp .ge 27, 3) := by decide +kernel
theorem d_Row_putTogether_51 : decode b_Row_putTogether 51 = .ok (.iload 4, 2) := by decide +kernel
theorem d_Row_putTogether_53 : decode b_Row_putTogether 53 = .ok (.aload_n 1, 1) := by decide +kernel
theorem d_Row_putTogether_54 : decode b_Row_putTogether 54 = .ok (.arraylength, 1) := by decide +kernel
theorem d_Row_putTogether_55 : decode b_Row_putTogether 55 = .ok (.if_icmp .ge 20, 3) := by decide +kernel
theorem d_Row_putTogether_58 : decode b_Row_putTogether 58 = .ok (.aload_n 0, 1) := by decide +kernel
theorem d_Row_putTogether_59 : decode b_Row_putTogether 59 = .ok (.getfield 9, 3) := by decide +kernel
theorem d_Row_putTogether_62 : decode b_Row_putTogether 62 = .ok (.iload 4, 2) := by decide +kernel
theorem d_Row_putTogether_64 : decode b_Row_putTogether 64 = .ok (.aload_n 1, 1) := by decide +kernel
theorem d_Row_putTogether_65 : decode b_Row_putTogether 65 = .ok (.iload 4, 2) := by decide +kernel
theorem d_Row_putTogether_67 : decode b_Row_putTogether 67 = .ok (.baload, 1) := by decide +kernel
theorem d_Row_putTogether_68 : decode b_Row_putTogether 68 = .ok (.bastore, 1) := by decide +kernel
theorem d_Row_putTogether_69 : decode b_Row_putTogether 69 = .ok (.iinc 4 1, 3) := by decide +kernel
theorem d_Row_putTogether_72 : decode b_Row_putTogether 72 = .ok (.goto (-40), 3) := by decide +kernel
theorem d_Row_putTogether_75 : decode b_Row_putTogether 75 = .ok (.iload_n 2, 1) := by decide +kernel
theorem d_Row_putTogether_76 : decode b_Row_putTogether 76 = .ok (.istore 4, 2) := by decide +kernel
theorem d_Row_putTogether_78 : decode b_Row_putTogether 78 = .ok (.iload 4, 2) := by decide +kernel
theorem d_Row_putTogether_80 : decode b_Row_putTogether 80 = .ok (.iconst 1, 1) := by decide +kernel
theorem d_Row_putTogether_81 : decode b_Row_putTogether 81 = .ok (.if_icmp .le 21, 3) := by decide +kernel
theorem d_Row_putTogether_84 : decode b_Row_putTogether 84 = .ok (.aload_n 0, 1) := by decide +kernel
theorem d_Row_putTogether_85 : decode b_Row_putTogether 85 = .ok (.iload 4, 2) := by decide +kernel
theorem d_Row_putTogether_87 : decode b_Row_putTogether 87 = .ok (.aload_n 3, 1) := by decide +kernel
theorem d_Row_putTogether_88 : decode b_Row_putTogether 88 = .ok (.invokevirtual 19, 3) := by decide +kernel
theorem d_Row_putTogether_91 : decode b_Row_putTogether 91 = .ok (.iload 4, 2) := by decide +kernel
theorem d_Row_putTogether_93 : decode b_Row_putTogether 93 = .ok (.iconst 1, 1) := by decide +kernel
theorem d_Row_putTogether_94 : decode b_Row_putTogether 94 = .ok (.iadd, 1) := by decide +kernel
theorem d_Row_putTogether_95 : decode b_Row_putTogether 95 = .ok (.iconst 2, 1) := by decide +kernel
theorem d_Row_putTogether_96 : decode b_Row_putTogether 96 = .ok (.idiv, 1) := by decide +kernel
theorem d_Row_putTogether_97 : decode b_Row_putTogether 97 = .ok (.istore 4, 2) := by decide +kernel
theorem d_Row_putTogether_99 : decode b_Row_putTogether 99 = .ok (.goto (-21), 3) := by decide +kernel
theorem d_Row_putTogether_102 : decode b_Row_putTogether 102 = .ok (.return_, 1) := by decide +kernel
abbrev b_Row_putPairsTogether : ByteArray := prog_2_method_3_code
def y_Row_putPairsTogether : MethodName := ⟨R_Row, "putPairsTogether", "(ILWireDesk$Namer;)V"⟩
theorem d_Row_putPairsTogether_0 : decode b_Row_putPairsTogether 0 = .ok (.iload_n 1, 1) := by decide +kernel
theorem d_Row_putPairsTogether_1 : decode b_Row_putPairsTogether 1 = .ok (.iconst 1, 1) := by decide +kernel
theorem d_Row_putPairsTogether_2 : decode b_Row_putPairsTogether 2 = .ok (.iadd, 1) := by decide +kernel
theorem d_Row_putPairsTogether_3 : decode b_Row_putPairsTogether 3 = .ok (.iconst 2, 1) := by decide +kernel
theorem d_Row_putPairsTogether_4 : decode b_Row_putPairsTogether 4 = .ok (.idiv, 1) := by decide +kernel
theorem d_Row_putPairsTogether_5 : decode b_Row_putPairsTogether 5 = .ok (.istore_n 3, 1) := by decide +kernel
theorem d_Row_putPairsTogether_6 : decode b_Row_putPairsTogether 6 = .ok (.iconst 0, 1) := by decide +kernel
theorem d_Row_putPairsTogether_7 : decode b_Row_putPairsTogether 7 = .ok (.istore 4, 2) := by decide +kernel
theorem d_Row_putPairsTogether_9 : decode b_Row_putPairsTogether 9 = .ok (.iload 4, 2) := by decide +kernel
theorem d_Row_putPairsTogether_11 : decode b_Row_putPairsTogether 11 = .ok (.iload_n 3, 1) := by decide +kernel
theorem d_Row_putPairsTogether_12 : decode b_Row_putPairsTogether 12 = .ok (.if_icmp .ge 70, 3) := by decide +kernel
theorem d_Row_putPairsTogether_15 : decode b_Row_putPairsTogether 15 = .ok (.iconst 2, 1) := by decide +kernel
theorem d_Row_putPairsTogether_16 : decode b_Row_putPairsTogether 16 = .ok (.iload 4, 2) := by decide +kernel
theorem d_Row_putPairsTogether_18 : decode b_Row_putPairsTogether 18 = .ok (.imul, 1) := by decide +kernel
theorem d_Row_putPairsTogether_19 : decode b_Row_putPairsTogether 19 = .ok (.istore 5, 2) := by decide +kernel
theorem d_Row_putPairsTogether_21 : decode b_Row_putPairsTogether 21 = .ok (.iload 5, 2) := by decide +kernel
theorem d_Row_putPairsTogether_23 : decode b_Row_putPairsTogether 23 = .ok (.iconst 1, 1) := by decide +kernel
theorem d_Row_putPairsTogether_24 : decode b_Row_putPairsTogether 24 = .ok (.iadd, 1) := by decide +kernel
theorem d_Row_putPairsTogether_25 : decode b_Row_putPairsTogether 25 = .ok (.iload_n 1, 1) := by decide +kernel
theorem d_Row_putPairsTogether_26 : decode b_Row_putPairsTogether 26 = .ok (.if_icmp .ne 12, 3) := by decide +kernel
theorem d_Row_putPairsTogether_29 : decode b_Row_putPairsTogether 29 = .ok (.aload_n 0, 1) := by decide +kernel
theorem d_Row_putPairsTogether_30 : decode b_Row_putPairsTogether 30 = .ok (.iload 5, 2) := by decide +kernel
theorem d_Row_putPairsTogether_32 : decode b_Row_putPairsTogether 32 = .ok (.invokevirtual 23, 3) := by decide +kernel
theorem d_Row_putPairsTogether_35 : decode b_Row_putPairsTogether 35 = .ok (.goto 17, 3) := by decide +kernel
theorem d_Row_putPairsTogether_38 : decode b_Row_putPairsTogether 38 = .ok (.aload_n 0, 1) := by decide +kernel
theorem d_Row_putPairsTogether_39 : decode b_Row_putPairsTogether 39 = .ok (.iload 5, 2) := by decide +kernel
theorem d_Row_putPairsTogether_41 : decode b_Row_putPairsTogether 41 = .ok (.invokevirtual 27, 3) := by decide +kernel
theorem d_Row_putPairsTogether_44 : decode b_Row_putPairsTogether 44 = .ok (.ifCond .eq 8, 3) := by decide +kernel
theorem d_Row_putPairsTogether_47 : decode b_Row_putPairsTogether 47 = .ok (.aload_n 0, 1) := by decide +kernel
theorem d_Row_putPairsTogether_48 : decode b_Row_putPairsTogether 48 = .ok (.iconst 1, 1) := by decide +kernel
theorem d_Row_putPairsTogether_49 : decode b_Row_putPairsTogether 49 = .ok (.putfield 15, 3) := by decide +kernel
theorem d_Row_putPairsTogether_52 : decode b_Row_putPairsTogether 52 = .ok (.aload_n 2, 1) := by decide +kernel
theorem d_Row_putPairsTogether_53 : decode b_Row_putPairsTogether 53 = .ok (.aload_n 0, 1) := by decide +kernel
theorem d_Row_putPairsTogether_54 : decode b_Row_putPairsTogether 54 = .ok (.getfield 9, 3) := by decide +kernel
theorem d_Row_putPairsTogether_57 : decode b_Row_putPairsTogether 57 = .ok (.iload 5, 2) := by decide +kernel
theorem d_Row_putPairsTogether_59 : decode b_Row_putPairsTogether 59 = .ok (.bipush 32, 2) := by decide +kernel
theorem d_Row_putPairsTogether_61 : decode b_Row_putPairsTogether 61 = .ok (.imul, 1) := by decide +kernel
theorem d_Row_putPairsTogether_62 : decode b_Row_putPairsTogether 62 = .ok (.bipush 64, 2) := by decide +kernel
theorem d_Row_putPairsTogether_64 : decode b_Row_putPairsTogether 64 = .ok (.aload_n 0, 1) := by decide +kernel
theorem d_Row_putPairsTogether_65 : decode b_Row_putPairsTogether 65 = .ok (.getfield 9, 3) := by decide +kernel
theorem d_Row_putPairsTogether_68 : decode b_Row_putPairsTogether 68 = .ok (.iload 4, 2) := by decide +kernel
theorem d_Row_putPairsTogether_70 : decode b_Row_putPairsTogether 70 = .ok (.bipush 32, 2) := by decide +kernel
theorem d_Row_putPairsTogether_72 : decode b_Row_putPairsTogether 72 = .ok (.imul, 1) := by decide +kernel
theorem d_Row_putPairsTogether_73 : decode b_Row_putPairsTogether 73 = .ok (.invokevirtual 31, 3) := by decide +kernel
theorem d_Row_putPairsTogether_76 : decode b_Row_putPairsTogether 76 = .ok (.iinc 4 1, 3) := by decide +kernel
theorem d_Row_putPairsTogether_79 : decode b_Row_putPairsTogether 79 = .ok (.goto (-70), 3) := by decide +kernel
theorem d_Row_putPairsTogether_82 : decode b_Row_putPairsTogether 82 = .ok (.return_, 1) := by decide +kernel
abbrev b_Row_repeat : ByteArray := prog_2_method_4_code
def y_Row_repeat : MethodName := ⟨R_Row, "repeat", "(I)V"⟩
theorem d_Row_repeat_0 : decode b_Row_repeat 0 = .ok (.iload_n 1, 1) := by decide +kernel
theorem d_Row_repeat_1 : decode b_Row_repeat 1 = .ok (.bipush 32, 2) := by decide +kernel
theorem d_Row_repeat_3 : decode b_Row_repeat 3 = .ok (.imul, 1) := by decide +kernel
theorem d_Row_repeat_4 : decode b_Row_repeat 4 = .ok (.istore_n 2, 1) := by decide +kernel
theorem d_Row_repeat_5 : decode b_Row_repeat 5 = .ok (.iload_n 2, 1) := by decide +kernel
theorem d_Row_repeat_6 : decode b_Row_repeat 6 = .ok (.ifCond .lt 15, 3) := by decide +kernel
theorem d_Row_repeat_9 : decode b_Row_repeat 9 = .ok (.iload_n 2, 1) := by decide +kernel
theorem d_Row_repeat_10 : decode b_Row_repeat 10 = .ok (.aload_n 0, 1) := by decide +kernel
theorem d_Row_repeat_11 : decode b_Row_repeat 11 = .ok (.getfield 9, 3) := by decide +kernel
theorem d_Row_repeat_14 : decode b_Row_repeat 14 = .ok (.arraylength, 1) := by decide +kernel
theorem d_Row_repeat_15 : decode b_Row_repeat 15 = .ok (.bipush 64, 2) := by decide +kernel
theorem d_Row_repeat_17 : decode b_Row_repeat 17 = .ok (.isub, 1) := by decide +kernel
theorem d_Row_repeat_18 : decode b_Row_repeat 18 = .ok (.if_icmp .le 4, 3) := by decide +kernel
theorem d_Row_repeat_21 : decode b_Row_repeat 21 = .ok (.return_, 1) := by decide +kernel
theorem d_Row_repeat_22 : decode b_Row_repeat 22 = .ok (.iconst 0, 1) := by decide +kernel
theorem d_Row_repeat_23 : decode b_Row_repeat 23 = .ok (.istore_n 3, 1) := by decide +kernel
theorem d_Row_repeat_24 : decode b_Row_repeat 24 = .ok (.iload_n 3, 1) := by decide +kernel
theorem d_Row_repeat_25 : decode b_Row_repeat 25 = .ok (.bipush 32, 2) := by decide +kernel
theorem d_Row_repeat_27 : decode b_Row_repeat 27 = .ok (.if_icmp .ge 28, 3) := by decide +kernel
theorem d_Row_repeat_30 : decode b_Row_repeat 30 = .ok (.aload_n 0, 1) := by decide +kernel
theorem d_Row_repeat_31 : decode b_Row_repeat 31 = .ok (.getfield 9, 3) := by decide +kernel
theorem d_Row_repeat_34 : decode b_Row_repeat 34 = .ok (.iload_n 2, 1) := by decide +kernel
theorem d_Row_repeat_35 : decode b_Row_repeat 35 = .ok (.bipush 32, 2) := by decide +kernel
theorem d_Row_repeat_37 : decode b_Row_repeat 37 = .ok (.iadd, 1) := by decide +kernel
theorem d_Row_repeat_38 : decode b_Row_repeat 38 = .ok (.iload_n 3, 1) := by decide +kernel
theorem d_Row_repeat_39 : decode b_Row_repeat 39 = .ok (.iadd, 1) := by decide +kernel
theorem d_Row_repeat_40 : decode b_Row_repeat 40 = .ok (.aload_n 0, 1) := by decide +kernel
theorem d_Row_repeat_41 : decode b_Row_repeat 41 = .ok (.getfield 9, 3) := by decide +kernel
theorem d_Row_repeat_44 : decode b_Row_repeat 44 = .ok (.iload_n 2, 1) := by decide +kernel
theorem d_Row_repeat_45 : decode b_Row_repeat 45 = .ok (.iload_n 3, 1) := by decide +kernel
theorem d_Row_repeat_46 : decode b_Row_repeat 46 = .ok (.iadd, 1) := by decide +kernel
theorem d_Row_repeat_47 : decode b_Row_repeat 47 = .ok (.baload, 1) := by decide +kernel
theorem d_Row_repeat_48 : decode b_Row_repeat 48 = .ok (.bastore, 1) := by decide +kernel
theorem d_Row_repeat_49 : decode b_Row_repeat 49 = .ok (.iinc 3 1, 3) := by decide +kernel
theorem d_Row_repeat_52 : decode b_Row_repeat 52 = .ok (.goto (-28), 3) := by decide +kernel
theorem d_Row_repeat_55 : decode b_Row_repeat 55 = .ok (.return_, 1) := by decide +kernel
abbrev b_Row_alike : ByteArray := prog_2_method_5_code
def y_Row_alike : MethodName := ⟨R_Row, "alike", "(I)Z"⟩
theorem d_Row_alike_0 : decode b_Row_alike 0 = .ok (.iload_n 1, 1) := by decide +kernel
theorem d_Row_alike_1 : decode b_Row_alike 1 = .ok (.bipush 32, 2) := by decide +kernel
theorem d_Row_alike_3 : decode b_Row_alike 3 = .ok (.imul, 1) := by decide +kernel
theorem d_Row_alike_4 : decode b_Row_alike 4 = .ok (.istore_n 2, 1) := by decide +kernel
theorem d_Row_alike_5 : decode b_Row_alike 5 = .ok (.iload_n 2, 1) := by decide +kernel
theorem d_Row_alike_6 : decode b_Row_alike 6 = .ok (.ifCond .lt 15, 3) := by decide +kernel
theorem d_Row_alike_9 : decode b_Row_alike 9 = .ok (.iload_n 2, 1) := by decide +kernel
theorem d_Row_alike_10 : decode b_Row_alike 10 = .ok (.aload_n 0, 1) := by decide +kernel
theorem d_Row_alike_11 : decode b_Row_alike 11 = .ok (.getfield 9, 3) := by decide +kernel
theorem d_Row_alike_14 : decode b_Row_alike 14 = .ok (.arraylength, 1) := by decide +kernel
theorem d_Row_alike_15 : decode b_Row_alike 15 = .ok (.bipush 64, 2) := by decide +kernel
theorem d_Row_alike_17 : decode b_Row_alike 17 = .ok (.isub, 1) := by decide +kernel
theorem d_Row_alike_18 : decode b_Row_alike 18 = .ok (.if_icmp .le 5, 3) := by decide +kernel
theorem d_Row_alike_21 : decode b_Row_alike 21 = .ok (.iconst 0, 1) := by decide +kernel
theorem d_Row_alike_22 : decode b_Row_alike 22 = .ok (.ireturn, 1) := by decide +kernel
theorem d_Row_alike_23 : decode b_Row_alike 23 = .ok (.iconst 0, 1) := by decide +kernel
theorem d_Row_alike_24 : decode b_Row_alike 24 = .ok (.istore_n 3, 1) := by decide +kernel
theorem d_Row_alike_25 : decode b_Row_alike 25 = .ok (.iload_n 3, 1) := by decide +kernel
theorem d_Row_alike_26 : decode b_Row_alike 26 = .ok (.bipush 32, 2) := by decide +kernel
theorem d_Row_alike_28 : decode b_Row_alike 28 = .ok (.if_icmp .ge 33, 3) := by decide +kernel
theorem d_Row_alike_31 : decode b_Row_alike 31 = .ok (.aload_n 0, 1) := by decide +kernel
theorem d_Row_alike_32 : decode b_Row_alike 32 = .ok (.getfield 9, 3) := by decide +kernel
theorem d_Row_alike_35 : decode b_Row_alike 35 = .ok (.iload_n 2, 1) := by decide +kernel
theorem d_Row_alike_36 : decode b_Row_alike 36 = .ok (.iload_n 3, 1) := by decide +kernel
theorem d_Row_alike_37 : decode b_Row_alike 37 = .ok (.iadd, 1) := by decide +kernel
theorem d_Row_alike_38 : decode b_Row_alike 38 = .ok (.baload, 1) := by decide +kernel
theorem d_Row_alike_39 : decode b_Row_alike 39 = .ok (.aload_n 0, 1) := by decide +kernel
theorem d_Row_alike_40 : decode b_Row_alike 40 = .ok (.getfield 9, 3) := by decide +kernel
theorem d_Row_alike_43 : decode b_Row_alike 43 = .ok (.iload_n 2, 1) := by decide +kernel
theorem d_Row_alike_44 : decode b_Row_alike 44 = .ok (.bipush 32, 2) := by decide +kernel
theorem d_Row_alike_46 : decode b_Row_alike 46 = .ok (.iadd, 1) := by decide +kernel
theorem d_Row_alike_47 : decode b_Row_alike 47 = .ok (.iload_n 3, 1) := by decide +kernel
theorem d_Row_alike_48 : decode b_Row_alike 48 = .ok (.iadd, 1) := by decide +kernel
theorem d_Row_alike_49 : decode b_Row_alike 49 = .ok (.baload, 1) := by decide +kernel
theorem d_Row_alike_50 : decode b_Row_alike 50 = .ok (.if_icmp .eq 5, 3) := by decide +kernel
theorem d_Row_alike_53 : decode b_Row_alike 53 = .ok (.iconst 0, 1) := by decide +kernel
theorem d_Row_alike_54 : decode b_Row_alike 54 = .ok (.ireturn, 1) := by decide +kernel
theorem d_Row_alike_55 : decode b_Row_alike 55 = .ok (.iinc 3 1, 3) := by decide +kernel
theorem d_Row_alike_58 : decode b_Row_alike 58 = .ok (.goto (-33), 3) := by decide +kernel
theorem d_Row_alike_61 : decode b_Row_alike 61 = .ok (.iconst 1, 1) := by decide +kernel
theorem d_Row_alike_62 : decode b_Row_alike 62 = .ok (.ireturn, 1) := by decide +kernel
abbrev b_Nam_init : ByteArray := prog_3_method_1_code
def y_Nam_init : MethodName := ⟨R_Nam, "<init>", "()V"⟩
theorem d_Nam_init_0 : decode b_Nam_init 0 = .ok (.aload_n 0, 1) := by decide +kernel
theorem d_Nam_init_1 : decode b_Nam_init 1 = .ok (.invokespecial 3, 3) := by decide +kernel
theorem d_Nam_init_4 : decode b_Nam_init 4 = .ok (.aload_n 0, 1) := by decide +kernel
theorem d_Nam_init_5 : decode b_Nam_init 5 = .ok (.bipush 8, 2) := by decide +kernel
theorem d_Nam_init_7 : decode b_Nam_init 7 = .ok (.newarray .int, 2) := by decide +kernel
theorem d_Nam_init_9 : decode b_Nam_init 9 = .ok (.putfield 9, 3) := by decide +kernel
theorem d_Nam_init_12 : decode b_Nam_init 12 = .ok (.aload_n 0, 1) := by decide +kernel
theorem d_Nam_init_13 : decode b_Nam_init 13 = .ok (.bipush 64, 2) := by decide +kernel
theorem d_Nam_init_15 : decode b_Nam_init 15 = .ok (.newarray .int, 2) := by decide +kernel
theorem d_Nam_init_17 : decode b_Nam_init 17 = .ok (.putfield 15, 3) := by decide +kernel
theorem d_Nam_init_20 : decode b_Nam_init 20 = .ok (.aload_n 0, 1) := by decide +kernel
theorem d_Nam_init_21 : decode b_Nam_init 21 = .ok (.bipush 32, 2) := by decide +kernel
theorem d_Nam_init_23 : decode b_Nam_init 23 = .ok (.newarray .byte, 2) := by decide +kernel
theorem d_Nam_init_25 : decode b_Nam_init 25 = .ok (.putfield 18, 3) := by decide +kernel
theorem d_Nam_init_28 : decode b_Nam_init 28 = .ok (.return_, 1) := by decide +kernel
abbrev b_Nam_writeName : ByteArray := prog_3_method_2_code
def y_Nam_writeName : MethodName := ⟨R_Nam, "writeName", "([BII[BI)V"⟩
theorem d_Nam_writeName_0 : decode b_Nam_writeName 0 = .ok (.iload_n 2, 1) := by decide +kernel
theorem d_Nam_writeName_1 : decode b_Nam_writeName 1 = .ok (.ifCond .lt 15, 3) := by decide +kernel
theorem d_Nam_writeName_4 : decode b_Nam_writeName 4 = .ok (.iload_n 3, 1) := by decide +kernel
theorem d_Nam_writeName_5 : decode b_Nam_writeName 5 = .ok (.ifCond .lt 11, 3) := by decide +kernel
theorem d_Nam_writeName_8 : decode b_Nam_writeName 8 = .ok (.iload_n 2, 1) := by decide +kernel
theorem d_Nam_writeName_9 : decode b_Nam_writeName 9 = .ok (.aload_n 1, 1) := by decide +kernel
theorem d_Nam_writeName_10 : decode b_Nam_writeName 10 = .ok (.arraylength, 1) := by decide +kernel
theorem d_Nam_writeName_11 : decode b_Nam_writeName 11 = .ok (.iload_n 3, 1) := by decide +kernel
theorem d_Nam_writeName_12 : decode b_Nam_writeName 12 = .ok (.isub, 1) := by decide +kernel
theorem d_Nam_writeName_13 : decode b_Nam_writeName 13 = .ok (.if_icmp .le 4, 3) := by decide +kernel
theorem d_Nam_writeName_16 : decode b_Nam_writeName 16 = .ok (.return_, 1) := by decide +kernel
theorem d_Nam_writeName_17 : decode b_Nam_writeName 17 = .ok (.aload_n 0, 1) := by decide +kernel
theorem d_Nam_writeName_18 : decode b_Nam_writeName 18 = .ok (.aload_n 1, 1) := by decide +kernel
theorem d_Nam_writeName_19 : decode b_Nam_writeName 19 = .ok (.iload_n 2, 1) := by decide +kernel
theorem d_Nam_writeName_20 : decode b_Nam_writeName 20 = .ok (.iload_n 3, 1) := by decide +kernel
theorem d_Nam_writeName_21 : decode b_Nam_writeName 21 = .ok (.invokevirtual 22, 3) := by decide +kernel
theorem d_Nam_writeName_24 : decode b_Nam_writeName 24 = .ok (.aload_n 0, 1) := by decide +kernel
theorem d_Nam_writeName_25 : decode b_Nam_writeName 25 = .ok (.aload_n 0, 1) := by decide +kernel
theorem d_Nam_writeName_26 : decode b_Nam_writeName 26 = .ok (.getfield 18, 3) := by decide +kernel
theorem d_Nam_writeName_29 : decode b_Nam_writeName 29 = .ok (.iconst 0, 1) := by decide +kernel
theorem d_Nam_writeName_30 : decode b_Nam_writeName 30 = .ok (.invokevirtual 26, 3) := by decide +kernel
theorem d_Nam_writeName_33 : decode b_Nam_writeName 33 = .ok (.aload_n 0, 1) := by decide +kernel
theorem d_Nam_writeName_34 : decode b_Nam_writeName 34 = .ok (.aload_n 0, 1) := by decide +kernel
theorem d_Nam_writeName_35 : decode b_Nam_writeName 35 = .ok (.getfield 18, 3) := by decide +kernel
theorem d_Nam_writeName_38 : decode b_Nam_writeName 38 = .ok (.iconst 0, 1) := by decide +kernel
theorem d_Nam_writeName_39 : decode b_Nam_writeName 39 = .ok (.bipush 32, 2) := by decide +kernel
theorem d_Nam_writeName_41 : decode b_Nam_writeName 41 = .ok (.invokevirtual 22, 3) := by decide +kernel
theorem d_Nam_writeName_44 : decode b_Nam_writeName 44 = .ok (.aload_n 0, 1) := by decide +kernel
theorem d_Nam_writeName_45 : decode b_Nam_writeName 45 = .ok (.aload 4, 2) := by decide +kernel
theorem d_Nam_writeName_47 : decode b_Nam_writeName 47 = .ok (.iload 5, 2) := by decide +kernel
theorem d_Nam_writeName_49 : decode b_Nam_writeName 49 = .ok (.invokevirtual 26, 3) := by decide +kernel
theorem d_Nam_writeName_52 : decode b_Nam_writeName 52 = .ok (.return_, 1) := by decide +kernel
abbrev b_Nam_digest : ByteArray := prog_3_method_3_code
def y_Nam_digest : MethodName := ⟨R_Nam, "digest", "([BII)V"⟩
theorem d_Nam_digest_0 : decode b_Nam_digest 0 = .ok (.iconst 0, 1) := by decide +kernel
theorem d_Nam_digest_1 : decode b_Nam_digest 1 = .ok (.istore 4, 2) := by decide +kernel
theorem d_Nam_digest_3 : decode b_Nam_digest 3 = .ok (.iload 4, 2) := by decide +kernel
theorem d_Nam_digest_5 : decode b_Nam_digest 5 = .ok (.bipush 8, 2) := by decide +kernel
theorem d_Nam_digest_7 : decode b_Nam_digest 7 = .ok (.if_icmp .ge 22, 3) := by decide +kernel
theorem d_Nam_digest_10 : decode b_Nam_digest 10 = .ok (.aload_n 0, 1) := by decide +kernel
theorem d_Nam_digest_11 : decode b_Nam_digest 11 = .ok (.getfield 9, 3) := by decide +kernel
theorem d_Nam_digest_14 : decode b_Nam_digest 14 = .ok (.iload 4, 2) := by decide +kernel
theorem d_Nam_digest_16 : decode b_Nam_digest 16 = .ok (.getstatic 30, 3) := by decide +kernel
theorem d_Nam_digest_19 : decode b_Nam_digest 19 = .ok (.iload 4, 2) := by decide +kernel
theorem d_Nam_digest_21 : decode b_Nam_digest 21 = .ok (.iaload, 1) := by decide +kernel
theorem d_Nam_digest_22 : decode b_Nam_digest 22 = .ok (.iastore, 1) := by decide +kernel
theorem d_Nam_digest_23 : decode b_Nam_digest 23 = .ok (.iinc 4 1, 3) := by decide +kernel
theorem d_Nam_digest_26 : decode b_Nam_digest 26 = .ok (.goto (-23), 3) := by decide +kernel
theorem d_Nam_digest_29 : decode b_Nam_digest 29 = .ok (.iload_n 3, 1) := by decide +kernel
theorem d_Nam_digest_30 : decode b_Nam_digest 30 = .ok (.bipush 8, 2) := by decide +kernel
theorem d_Nam_digest_32 : decode b_Nam_digest 32 = .ok (.iadd, 1) := by decide +kernel
theorem d_Nam_digest_33 : decode b_Nam_digest 33 = .ok (.bipush 64, 2) := by decide +kernel
theorem d_Nam_digest_35 : decode b_Nam_digest 35 = .ok (.idiv, 1) := by decide +kernel
theorem d_Nam_digest_36 : decode b_Nam_digest 36 = .ok (.iconst 1, 1) := by decide +kernel
theorem d_Nam_digest_37 : decode b_Nam_digest 37 = .ok (.iadd, 1) := by decide +kernel
theorem d_Nam_digest_38 : decode b_Nam_digest 38 = .ok (.istore 4, 2) := by decide +kernel
theorem d_Nam_digest_40 : decode b_Nam_digest 40 = .ok (.iconst 0, 1) := by decide +kernel
theorem d_Nam_digest_41 : decode b_Nam_digest 41 = .ok (.istore 5, 2) := by decide +kernel
theorem d_Nam_digest_43 : decode b_Nam_digest 43 = .ok (.iload 5, 2) := by decide +kernel
theorem d_Nam_digest_45 : decode b_Nam_digest 45 = .ok (.iload 4, 2) := by decide +kernel
theorem d_Nam_digest_47 : decode b_Nam_digest 47 = .ok (.if_icmp .ge 73, 3) := by decide +kernel
theorem d_Nam_digest_50 : decode b_Nam_digest 50 = .ok (.iconst 0, 1) := by decide +kernel
theorem d_Nam_digest_51 : decode b_Nam_digest 51 = .ok (.istore 6, 2) := by decide +kernel
theorem d_Nam_digest_53 : decode b_Nam_digest 53 = .ok (.iload 6, 2) := by decide +kernel
theorem d_Nam_digest_55 : decode b_Nam_digest 55 = .ok (.bipush 64, 2) := by decide +kernel
theorem d_Nam_digest_57 : decode b_Nam_digest 57 = .ok (.if_icmp .ge 49, 3) := by decide +kernel
theorem d_Nam_digest_60 : decode b_Nam_digest 60 = .ok (.aload_n 1, 1) := by decide +kernel
theorem d_Nam_digest_61 : decode b_Nam_digest 61 = .ok (.iload_n 2, 1) := by decide +kernel
theorem d_Nam_digest_62 : decode b_Nam_digest 62 = .ok (.iload_n 3, 1) := by decide +kernel
theorem d_Nam_digest_63 : decode b_Nam_digest 63 = .ok (.iload 5, 2) := by decide +kernel
theorem d_Nam_digest_65 : decode b_Nam_digest 65 = .ok (.bipush 64, 2) := by decide +kernel
theorem d_Nam_digest_67 : decode b_Nam_digest 67 = .ok (.imul, 1) := by decide +kernel
theorem d_Nam_digest_68 : decode b_Nam_digest 68 = .ok (.iload 6, 2) := by decide +kernel
theorem d_Nam_digest_70 : decode b_Nam_digest 70 = .ok (.iadd, 1) := by decide +kernel
theorem d_Nam_digest_71 : decode b_Nam_digest 71 = .ok (.invokestatic 33, 3) := by decide +kernel
theorem d_Nam_digest_74 : decode b_Nam_digest 74 = .ok (.istore 7, 2) := by decide +kernel
theorem d_Nam_digest_76 : decode b_Nam_digest 76 = .ok (.aload_n 0, 1) := by decide +kernel
theorem d_Nam_digest_77 : decode b_Nam_digest 77 = .ok (.getfield 15, 3) := by decide +kernel
theorem d_Nam_digest_80 : decode b_Nam_digest 80 = .ok (.iload 6, 2) := by decide +kernel
theorem d_Nam_digest_82 : decode b_Nam_digest 82 = .ok (.iconst 4, 1) := by decide +kernel
theorem d_Nam_digest_83 : decode b_Nam_digest 83 = .ok (.idiv, 1) := by decide +kernel
theorem d_Nam_digest_84 : decode b_Nam_digest 84 = .ok (.aload_n 0, 1) := by decide +kernel
theorem d_Nam_digest_85 : decode b_Nam_digest 85 = .ok (.getfield 15, 3) := by decide +kernel
theorem d_Nam_digest_88 : decode b_Nam_digest 88 = .ok (.iload 6, 2) := by decide +kernel
theorem d_Nam_digest_90 : decode b_Nam_digest 90 = .ok (.iconst 4, 1) := by decide +kernel
theorem d_Nam_digest_91 : decode b_Nam_digest 91 = .ok (.idiv, 1) := by decide +kernel
theorem d_Nam_digest_92 : decode b_Nam_digest 92 = .ok (.iaload, 1) := by decide +kernel
theorem d_Nam_digest_93 : decode b_Nam_digest 93 = .ok (.bipush 8, 2) := by decide +kernel
theorem d_Nam_digest_95 : decode b_Nam_digest 95 = .ok (.ishl, 1) := by decide +kernel
theorem d_Nam_digest_96 : decode b_Nam_digest 96 = .ok (.iload 7, 2) := by decide +kernel
theorem d_Nam_digest_98 : decode b_Nam_digest 98 = .ok (.ior, 1) := by decide +kernel
theorem d_Nam_digest_99 : decode b_Nam_digest 99 = .ok (.iastore, 1) := by decide +kernel
theorem d_Nam_digest_100 : decode b_Nam_digest 100 = .ok (.iinc 6 1, 3) := by decide +kernel
theorem d_Nam_digest_103 : decode b_Nam_digest 103 = .ok (.goto (-50), 3) := by decide +kernel
theorem d_Nam_digest_106 : decode b_Nam_digest 106 = .ok (.aload_n 0, 1) := by decide +kernel
theorem d_Nam_digest_107 : decode b_Nam_digest 107 = .ok (.invokevirtual 37, 3) := by decide +kernel
theorem d_Nam_digest_110 : decode b_Nam_digest 110 = .ok (.aload_n 0, 1) := by decide +kernel
theorem d_Nam_digest_111 : decode b_Nam_digest 111 = .ok (.invokevirtual 40, 3) := by decide +kernel
theorem d_Nam_digest_114 : decode b_Nam_digest 114 = .ok (.iinc 5 1, 3) := by decide +kernel
theorem d_Nam_digest_117 : decode b_Nam_digest 117 = .ok (.goto (-74), 3) := by decide +kernel
theorem d_Nam_digest_120 : decode b_Nam_digest 120 = .ok (.return_, 1) := by decide +kernel
abbrev b_Nam_paddedByte : ByteArray := prog_3_method_4_code
def y_Nam_paddedByte : MethodName := ⟨R_Nam, "paddedByte", "([BIII)I"⟩
theorem d_Nam_paddedByte_0 : decode b_Nam_paddedByte 0 = .ok (.iload_n 3, 1) := by decide +kernel
theorem d_Nam_paddedByte_1 : decode b_Nam_paddedByte 1 = .ok (.iload_n 2, 1) := by decide +kernel
theorem d_Nam_paddedByte_2 : decode b_Nam_paddedByte 2 = .ok (.if_icmp .ge 13, 3) := by decide +kernel
theorem d_Nam_paddedByte_5 : decode b_Nam_paddedByte 5 = .ok (.aload_n 0, 1) := by decide +kernel
theorem d_Nam_paddedByte_6 : decode b_Nam_paddedByte 6 = .ok (.iload_n 1, 1) := by decide +kernel
theorem d_Nam_paddedByte_7 : decode b_Nam_paddedByte 7 = .ok (.iload_n 3, 1) := by decide +kernel
theorem d_Nam_paddedByte_8 : decode b_Nam_paddedByte 8 = .ok (.iadd, 1) := by decide +kernel
theorem d_Nam_paddedByte_9 : decode b_Nam_paddedByte 9 = .ok (.baload, 1) := by decide +kernel
theorem d_Nam_paddedByte_10 : decode b_Nam_paddedByte 10 = .ok (.sipush 255, 3) := by decide +kernel
theorem d_Nam_paddedByte_13 : decode b_Nam_paddedByte 13 = .ok (.iand, 1) := by decide +kernel
theorem d_Nam_paddedByte_14 : decode b_Nam_paddedByte 14 = .ok (.ireturn, 1) := by decide +kernel
theorem d_Nam_paddedByte_15 : decode b_Nam_paddedByte 15 = .ok (.iload_n 3, 1) := by decide +kernel
theorem d_Nam_paddedByte_16 : decode b_Nam_paddedByte 16 = .ok (.iload_n 2, 1) := by decide +kernel
theorem d_Nam_paddedByte_17 : decode b_Nam_paddedByte 17 = .ok (.if_icmp .ne 7, 3) := by decide +kernel
theorem d_Nam_paddedByte_20 : decode b_Nam_paddedByte 20 = .ok (.sipush 128, 3) := by decide +kernel
theorem d_Nam_paddedByte_23 : decode b_Nam_paddedByte 23 = .ok (.ireturn, 1) := by decide +kernel
theorem d_Nam_paddedByte_24 : decode b_Nam_paddedByte 24 = .ok (.iload_n 2, 1) := by decide +kernel
theorem d_Nam_paddedByte_25 : decode b_Nam_paddedByte 25 = .ok (.bipush 8, 2) := by decide +kernel
theorem d_Nam_paddedByte_27 : decode b_Nam_paddedByte 27 = .ok (.iadd, 1) := by decide +kernel
theorem d_Nam_paddedByte_28 : decode b_Nam_paddedByte 28 = .ok (.bipush 64, 2) := by decide +kernel
theorem d_Nam_paddedByte_30 : decode b_Nam_paddedByte 30 = .ok (.idiv, 1) := by decide +kernel
theorem d_Nam_paddedByte_31 : decode b_Nam_paddedByte 31 = .ok (.iconst 1, 1) := by decide +kernel
theorem d_Nam_paddedByte_32 : decode b_Nam_paddedByte 32 = .ok (.iadd, 1) := by decide +kernel
theorem d_Nam_paddedByte_33 : decode b_Nam_paddedByte 33 = .ok (.bipush 64, 2) := by decide +kernel
theorem d_Nam_paddedByte_35 : decode b_Nam_paddedByte 35 = .ok (.imul, 1) := by decide +kernel
theorem d_Nam_paddedByte_36 : decode b_Nam_paddedByte 36 = .ok (.iconst 1, 1) := by decide +kernel
theorem d_Nam_paddedByte_37 : decode b_Nam_paddedByte 37 = .ok (.isub, 1) := by decide +kernel
theorem d_Nam_paddedByte_38 : decode b_Nam_paddedByte 38 = .ok (.istore 4, 2) := by decide +kernel
theorem d_Nam_paddedByte_40 : decode b_Nam_paddedByte 40 = .ok (.iload_n 3, 1) := by decide +kernel
theorem d_Nam_paddedByte_41 : decode b_Nam_paddedByte 41 = .ok (.iload 4, 2) := by decide +kernel
theorem d_Nam_paddedByte_43 : decode b_Nam_paddedByte 43 = .ok (.iconst 4, 1) := by decide +kernel
theorem d_Nam_paddedByte_44 : decode b_Nam_paddedByte 44 = .ok (.isub, 1) := by decide +kernel
theorem d_Nam_paddedByte_45 : decode b_Nam_paddedByte 45 = .ok (.if_icmp .le 22, 3) := by decide +kernel
theorem d_Nam_paddedByte_48 : decode b_Nam_paddedByte 48 = .ok (.iload_n 2, 1) := by decide +kernel
theorem d_Nam_paddedByte_49 : decode b_Nam_paddedByte 49 = .ok (.bipush 8, 2) := by decide +kernel
theorem d_Nam_paddedByte_51 : decode b_Nam_paddedByte 51 = .ok (.imul, 1) := by decide +kernel
theorem d_Nam_paddedByte_52 : decode b_Nam_paddedByte 52 = .ok (.bipush 8, 2) := by decide +kernel
theorem d_Nam_paddedByte_54 : decode b_Nam_paddedByte 54 = .ok (.iload 4, 2) := by decide +kernel
theorem d_Nam_paddedByte_56 : decode b_Nam_paddedByte 56 = .ok (.iload_n 3, 1) := by decide +kernel
theorem d_Nam_paddedByte_57 : decode b_Nam_paddedByte 57 = .ok (.isub, 1) := by decide +kernel
theorem d_Nam_paddedByte_58 : decode b_Nam_paddedByte 58 = .ok (.imul, 1) := by decide +kernel
theorem d_Nam_paddedByte_59 : decode b_Nam_paddedByte 59 = .ok (.iushr, 1) := by decide +kernel
theorem d_Nam_paddedByte_60 : decode b_Nam_paddedByte 60 = .ok (.sipush 255, 3) := by decide +kernel
theorem d_Nam_paddedByte_63 : decode b_Nam_paddedByte 63 = .ok (.iand, 1) := by decide +kernel
theorem d_Nam_paddedByte_64 : decode b_Nam_paddedByte 64 = .ok (.goto 4, 3) := by decide +kernel
theorem d_Nam_paddedByte_67 : decode b_Nam_paddedByte 67 = .ok (.iconst 0, 1) := by decide +kernel
theorem d_Nam_paddedByte_68 : decode b_Nam_paddedByte 68 = .ok (.ireturn, 1) := by decide +kernel
abbrev b_Nam_stretchSchedule : ByteArray := prog_3_method_5_code
def y_Nam_stretchSchedule : MethodName := ⟨R_Nam, "stretchSchedule", "()V"⟩
theorem d_Nam_stretchSchedule_0 : decode b_Nam_stretchSchedule 0 = .ok (.bipush 16, 2) := by decide +kernel
theorem d_Nam_stretchSchedule_2 : decode b_Nam_stretchSchedule 2 = .ok (.istore_n 1, 1) := by decide +kernel
theorem d_Nam_stretchSchedule_3 : decode b_Nam_stretchSchedule 3 = .ok (.iload_n 1, 1) := by decide +kernel
theorem d_Nam_stretchSchedule_4 : decode b_Nam_stretchSchedule 4 = .ok (.bipush 64, 2) := by decide +kernel
theorem d_Nam_stretchSchedule_6 : decode b_Nam_stretchSchedule 6 = .ok (.if_icmp .ge 98, 3) := by decide +kernel
theorem d_Nam_stretchSchedule_9 : decode b_Nam_stretchSchedule 9 = .ok (.aload_n 0, 1) := by decide +kernel
theorem d_Nam_stretchSchedule_10 : decode b_Nam_stretchSchedule 10 = .ok (.getfield 15, 3) := by decide +kernel
theorem d_Nam_stretchSchedule_13 : decode b_Nam_stretchSchedule 13 = .ok (.iload_n 1, 1) := by decide +kernel
theorem d_Nam_stretchSchedule_14 : decode b_Nam_stretchSchedule 14 = .ok (.iconst 2, 1) := by decide +kernel
theorem d_Nam_stretchSchedule_15 : decode b_Nam_stretchSchedule 15 = .ok (.isub, 1) := by decide +kernel
theorem d_Nam_stretchSchedule_16 : decode b_Nam_stretchSchedule 16 = .ok (.iaload, 1) := by decide +kernel
theorem d_Nam_stretchSchedule_17 : decode b_Nam_stretchSchedule 17 = .ok (.istore_n 2, 1) := by decide +kernel
theorem d_Nam_stretchSchedule_18 : decode b_Nam_stretchSchedule 18 = .ok (.aload_n 0, 1) := by decide +kernel
theorem d_Nam_stretchSchedule_19 : decode b_Nam_stretchSchedule 19 = .ok (.getfield 15, 3) := by decide +kernel
theorem d_Nam_stretchSchedule_22 : decode b_Nam_stretchSchedule 22 = .ok (.iload_n 1, 1) := by decide +kernel
theorem d_Nam_stretchSchedule_23 : decode b_Nam_stretchSchedule 23 = .ok (.bipush 15, 2) := by decide +kernel
theorem d_Nam_stretchSchedule_25 : decode b_Nam_stretchSchedule 25 = .ok (.isub, 1) := by decide +kernel
theorem d_Nam_stretchSchedule_26 : decode b_Nam_stretchSchedule 26 = .ok (.iaload, 1) := by decide +kernel
theorem d_Nam_stretchSchedule_27 : decode b_Nam_stretchSchedule 27 = .ok (.istore_n 3, 1) := by decide +kernel
theorem d_Nam_stretchSchedule_28 : decode b_Nam_stretchSchedule 28 = .ok (.iload_n 2, 1) := by decide +kernel
theorem d_Nam_stretchSchedule_29 : decode b_Nam_stretchSchedule 29 = .ok (.bipush 17, 2) := by decide +kernel
theorem d_Nam_stretchSchedule_31 : decode b_Nam_stretchSchedule 31 = .ok (.invokestatic 43, 3) := by decide +kernel
theorem d_Nam_stretchSchedule_34 : decode b_Nam_stretchSchedule 34 = .ok (.iload_n 2, 1) := by decide +kernel
theorem d_Nam_stretchSchedule_35 : decode b_Nam_stretchSchedule 35 = .ok (.bipush 19, 2) := by decide +kernel
theorem d_Nam_stretchSchedule_37 : decode b_Nam_stretchSchedule 37 = .ok (.invokestatic 43, 3) := by decide +kernel
theorem d_Nam_stretchSchedule_40 : decode b_Nam_stretchSchedule 40 = .ok (.ixor, 1) := by decide +kernel
theorem d_Nam_stretchSchedule_41 : decode b_Nam_stretchSchedule 41 = .ok (.iload_n 2, 1) := by decide +kernel
theorem d_Nam_stretchSchedule_42 : decode b_Nam_stretchSchedule 42 = .ok (.bipush 10, 2) := by decide +kernel
theorem d_Nam_stretchSchedule_44 : decode b_Nam_stretchSchedule 44 = .ok (.iushr, 1) := by decide +kernel
theorem d_Nam_stretchSchedule_45 : decode b_Nam_stretchSchedule 45 = .ok (.ixor, 1) := by decide +kernel
theorem d_Nam_stretchSchedule_46 : decode b_Nam_stretchSchedule 46 = .ok (.istore 4, 2) := by decide +kernel
theorem d_Nam_stretchSchedule_48 : decode b_Nam_stretchSchedule 48 = .ok (.iload_n 3, 1) := by decide +kernel
theorem d_Nam_stretchSchedule_49 : decode b_Nam_stretchSchedule 49 = .ok (.bipush 7, 2) := by decide +kernel
theorem d_Nam_stretchSchedule_51 : decode b_Nam_stretchSchedule 51 = .ok (.invokestatic 43, 3) := by decide +kernel
theorem d_Nam_stretchSchedule_54 : decode b_Nam_stretchSchedule 54 = .ok (.iload_n 3, 1) := by decide +kernel
theorem d_Nam_stretchSchedule_55 : decode b_Nam_stretchSchedule 55 = .ok (.bipush 18, 2) := by decide +kernel
theorem d_Nam_stretchSchedule_57 : decode b_Nam_stretchSchedule 57 = .ok (.invokestatic 43, 3) := by decide +kernel
theorem d_Nam_stretchSchedule_60 : decode b_Nam_stretchSchedule 60 = .ok (.ixor, 1) := by decide +kernel
theorem d_Nam_stretchSchedule_61 : decode b_Nam_stretchSchedule 61 = .ok (.iload_n 3, 1) := by decide +kernel
theorem d_Nam_stretchSchedule_62 : decode b_Nam_stretchSchedule 62 = .ok (.iconst 3, 1) := by decide +kernel
theorem d_Nam_stretchSchedule_63 : decode b_Nam_stretchSchedule 63 = .ok (.iushr, 1) := by decide +kernel
theorem d_Nam_stretchSchedule_64 : decode b_Nam_stretchSchedule 64 = .ok (.ixor, 1) := by decide +kernel
theorem d_Nam_stretchSchedule_65 : decode b_Nam_stretchSchedule 65 = .ok (.istore 5, 2) := by decide +kernel
theorem d_Nam_stretchSchedule_67 : decode b_Nam_stretchSchedule 67 = .ok (.aload_n 0, 1) := by decide +kernel
theorem d_Nam_stretchSchedule_68 : decode b_Nam_stretchSchedule 68 = .ok (.getfield 15, 3) := by decide +kernel
theorem d_Nam_stretchSchedule_71 : decode b_Nam_stretchSchedule 71 = .ok (.iload_n 1, 1) := by decide +kernel
theorem d_Nam_stretchSchedule_72 : decode b_Nam_stretchSchedule 72 = .ok (.iload 4, 2) := by decide +kernel
theorem d_Nam_stretchSchedule_74 : decode b_Nam_stretchSchedule 74 = .ok (.aload_n 0, 1) := by decide +kernel
theorem d_Nam_stretchSchedule_75 : decode b_Nam_stretchSchedule 75 = .ok (.getfield 15, 3) := by decide +kernel
theorem d_Nam_stretchSchedule_78 : decode b_Nam_stretchSchedule 78 = .ok (.iload_n 1, 1) := by decide +kernel
theorem d_Nam_stretchSchedule_79 : decode b_Nam_stretchSchedule 79 = .ok (.bipush 7, 2) := by decide +kernel
theorem d_Nam_stretchSchedule_81 : decode b_Nam_stretchSchedule 81 = .ok (.isub, 1) := by decide +kernel
theorem d_Nam_stretchSchedule_82 : decode b_Nam_stretchSchedule 82 = .ok (.iaload, 1) := by decide +kernel
theorem d_Nam_stretchSchedule_83 : decode b_Nam_stretchSchedule 83 = .ok (.iadd, 1) := by decide +kernel
theorem d_Nam_stretchSchedule_84 : decode b_Nam_stretchSchedule 84 = .ok (.iload 5, 2) := by decide +kernel
theorem d_Nam_stretchSchedule_86 : decode b_Nam_stretchSchedule 86 = .ok (.iadd, 1) := by decide +kernel
theorem d_Nam_stretchSchedule_87 : decode b_Nam_stretchSchedule 87 = .ok (.aload_n 0, 1) := by decide +kernel
theorem d_Nam_stretchSchedule_88 : decode b_Nam_stretchSchedule 88 = .ok (.getfield 15, 3) := by decide +kernel
theorem d_Nam_stretchSchedule_91 : decode b_Nam_stretchSchedule 91 = .ok (.iload_n 1, 1) := by decide +kernel
theorem d_Nam_stretchSchedule_92 : decode b_Nam_stretchSchedule 92 = .ok (.bipush 16, 2) := by decide +kernel
theorem d_Nam_stretchSchedule_94 : decode b_Nam_stretchSchedule 94 = .ok (.isub, 1) := by decide +kernel
theorem d_Nam_stretchSchedule_95 : decode b_Nam_stretchSchedule 95 = .ok (.iaload, 1) := by decide +kernel
theorem d_Nam_stretchSchedule_96 : decode b_Nam_stretchSchedule 96 = .ok (.iadd, 1) := by decide +kernel
theorem d_Nam_stretchSchedule_97 : decode b_Nam_stretchSchedule 97 = .ok (.iastore, 1) := by decide +kernel
theorem d_Nam_stretchSchedule_98 : decode b_Nam_stretchSchedule 98 = .ok (.iinc 1 1, 3) := by decide +kernel
theorem d_Nam_stretchSchedule_101 : decode b_Nam_stretchSchedule 101 = .ok (.goto (-98), 3) := by decide +kernel
theorem d_Nam_stretchSchedule_104 : decode b_Nam_stretchSchedule 104 = .ok (.return_, 1) := by decide +kernel
abbrev b_Nam_mixChunk : ByteArray := prog_3_method_6_code
def y_Nam_mixChunk : MethodName := ⟨R_Nam, "mixChunk", "()V"⟩
theorem d_Nam_mixChunk_0 : decode b_Nam_mixChunk 0 = .ok (.aload_n 0, 1) := by decide +kernel
theorem d_Nam_mixChunk_1 : decode b_Nam_mixChunk 1 = .ok (.getfield 9, 3) := by decide +kernel
theorem d_Nam_mixChunk_4 : decode b_Nam_mixChunk 4 = .ok (.iconst 0, 1) := by decide +kernel
theorem d_Nam_mixChunk_5 : decode b_Nam_mixChunk 5 = .ok (.iaload, 1) := by decide +kernel
theorem d_Nam_mixChunk_6 : decode b_Nam_mixChunk 6 = .ok (.istore_n 1, 1) := by decide +kernel
theorem d_Nam_mixChunk_7 : decode b_Nam_mixChunk 7 = .ok (.aload_n 0, 1) := by decide +kernel
theorem d_Nam_mixChunk_8 : decode b_Nam_mixChunk 8 = .ok (.getfield 9, 3) := by decide +kernel
theorem d_Nam_mixChunk_11 : decode b_Nam_mixChunk 11 = .ok (.iconst 1, 1) := by decide +kernel
theorem d_Nam_mixChunk_12 : decode b_Nam_mixChunk 12 = .ok (.iaload, 1) := by decide +kernel
theorem d_Nam_mixChunk_13 : decode b_Nam_mixChunk 13 = .ok (.istore_n 2, 1) := by decide +kernel
theorem d_Nam_mixChunk_14 : decode b_Nam_mixChunk 14 = .ok (.aload_n 0, 1) := by decide +kernel
theorem d_Nam_mixChunk_15 : decode b_Nam_mixChunk 15 = .ok (.getfield 9, 3) := by decide +kernel
theorem d_Nam_mixChunk_18 : decode b_Nam_mixChunk 18 = .ok (.iconst 2, 1) := by decide +kernel
theorem d_Nam_mixChunk_19 : decode b_Nam_mixChunk 19 = .ok (.iaload, 1) := by decide +kernel
theorem d_Nam_mixChunk_20 : decode b_Nam_mixChunk 20 = .ok (.istore_n 3, 1) := by decide +kernel
theorem d_Nam_mixChunk_21 : decode b_Nam_mixChunk 21 = .ok (.aload_n 0, 1) := by decide +kernel
theorem d_Nam_mixChunk_22 : decode b_Nam_mixChunk 22 = .ok (.getfield 9, 3) := by decide +kernel
theorem d_Nam_mixChunk_25 : decode b_Nam_mixChunk 25 = .ok (.iconst 3, 1) := by decide +kernel
theorem d_Nam_mixChunk_26 : decode b_Nam_mixChunk 26 = .ok (.iaload, 1) := by decide +kernel
theorem d_Nam_mixChunk_27 : decode b_Nam_mixChunk 27 = .ok (.istore 4, 2) := by decide +kernel
theorem d_Nam_mixChunk_29 : decode b_Nam_mixChunk 29 = .ok (.aload_n 0, 1) := by decide +kernel
theorem d_Nam_mixChunk_30 : decode b_Nam_mixChunk 30 = .ok (.getfield 9, 3) := by decide +kernel
theorem d_Nam_mixChunk_33 : decode b_Nam_mixChunk 33 = .ok (.iconst 4, 1) := by decide +kernel
theorem d_Nam_mixChunk_34 : decode b_Nam_mixChunk 34 = .ok (.iaload, 1) := by decide +kernel
theorem d_Nam_mixChunk_35 : decode b_Nam_mixChunk 35 = .ok (.istore 5, 2) := by decide +kernel
theorem d_Nam_mixChunk_37 : decode b_Nam_mixChunk 37 = .ok (.aload_n 0, 1) := by decide +kernel
theorem d_Nam_mixChunk_38 : decode b_Nam_mixChunk 38 = .ok (.getfield 9, 3) := by decide +kernel
theorem d_Nam_mixChunk_41 : decode b_Nam_mixChunk 41 = .ok (.iconst 5, 1) := by decide +kernel
theorem d_Nam_mixChunk_42 : decode b_Nam_mixChunk 42 = .ok (.iaload, 1) := by decide +kernel
theorem d_Nam_mixChunk_43 : decode b_Nam_mixChunk 43 = .ok (.istore 6, 2) := by decide +kernel
theorem d_Nam_mixChunk_45 : decode b_Nam_mixChunk 45 = .ok (.aload_n 0, 1) := by decide +kernel
theorem d_Nam_mixChunk_46 : decode b_Nam_mixChunk 46 = .ok (.getfield 9, 3) := by decide +kernel
theorem d_Nam_mixChunk_49 : decode b_Nam_mixChunk 49 = .ok (.bipush 6, 2) := by decide +kernel
theorem d_Nam_mixChunk_51 : decode b_Nam_mixChunk 51 = .ok (.iaload, 1) := by decide +kernel
theorem d_Nam_mixChunk_52 : decode b_Nam_mixChunk 52 = .ok (.istore 7, 2) := by decide +kernel
theorem d_Nam_mixChunk_54 : decode b_Nam_mixChunk 54 = .ok (.aload_n 0, 1) := by decide +kernel
theorem d_Nam_mixChunk_55 : decode b_Nam_mixChunk 55 = .ok (.getfield 9, 3) := by decide +kernel
theorem d_Nam_mixChunk_58 : decode b_Nam_mixChunk 58 = .ok (.bipush 7, 2) := by decide +kernel
theorem d_Nam_mixChunk_60 : decode b_Nam_mixChunk 60 = .ok (.iaload, 1) := by decide +kernel
theorem d_Nam_mixChunk_61 : decode b_Nam_mixChunk 61 = .ok (.istore 8, 2) := by decide +kernel
theorem d_Nam_mixChunk_63 : decode b_Nam_mixChunk 63 = .ok (.iconst 0, 1) := by decide +kernel
theorem d_Nam_mixChunk_64 : decode b_Nam_mixChunk 64 = .ok (.istore 9, 2) := by decide +kernel
theorem d_Nam_mixChunk_66 : decode b_Nam_mixChunk 66 = .ok (.iload 9, 2) := by decide +kernel
theorem d_Nam_mixChunk_68 : decode b_Nam_mixChunk 68 = .ok (.bipush 64, 2) := by decide +kernel
theorem d_Nam_mixChunk_70 : decode b_Nam_mixChunk 70 = .ok (.if_icmp .ge 143, 3) := by decide +kernel
theorem d_Nam_mixChunk_73 : decode b_Nam_mixChunk 73 = .ok (.iload 5, 2) := by decide +kernel
theorem d_Nam_mixChunk_75 : decode b_Nam_mixChunk 75 = .ok (.iload 6, 2) := by decide +kernel
theorem d_Nam_mixChunk_77 : decode b_Nam_mixChunk 77 = .ok (.iand, 1) := by decide +kernel
theorem d_Nam_mixChunk_78 : decode b_Nam_mixChunk 78 = .ok (.iload 5, 2) := by decide +kernel
theorem d_Nam_mixChunk_80 : decode b_Nam_mixChunk 80 = .ok (.iconst (-1), 1) := by decide +kernel
theorem d_Nam_mixChunk_81 : decode b_Nam_mixChunk 81 = .ok (.ixor, 1) := by decide +kernel
theorem d_Nam_mixChunk_82 : decode b_Nam_mixChunk 82 = .ok (.iload 7, 2) := by decide +kernel
theorem d_Nam_mixChunk_84 : decode b_Nam_mixChunk 84 = .ok (.iand, 1) := by decide +kernel
theorem d_Nam_mixChunk_85 : decode b_Nam_mixChunk 85 = .ok (.ixor, 1) := by decide +kernel
theorem d_Nam_mixChunk_86 : decode b_Nam_mixChunk 86 = .ok (.istore 10, 2) := by decide +kernel
theorem d_Nam_mixChunk_88 : decode b_Nam_mixChunk 88 = .ok (.iload_n 1, 1) := by decide +kernel
theorem d_Nam_mixChunk_89 : decode b_Nam_mixChunk 89 = .ok (.iload_n 2, 1) := by decide +kernel
theorem d_Nam_mixChunk_90 : decode b_Nam_mixChunk 90 = .ok (.iand, 1) := by decide +kernel
theorem d_Nam_mixChunk_91 : decode b_Nam_mixChunk 91 = .ok (.iload_n 1, 1) := by decide +kernel
theorem d_Nam_mixChunk_92 : decode b_Nam_mixChunk 92 = .ok (.iload_n 3, 1) := by decide +kernel
theorem d_Nam_mixChunk_93 : decode b_Nam_mixChunk 93 = .ok (.iand, 1) := by decide +kernel
theorem d_Nam_mixChunk_94 : decode b_Nam_mixChunk 94 = .ok (.ixor, 1) := by decide +kernel
theorem d_Nam_mixChunk_95 : decode b_Nam_mixChunk 95 = .ok (.iload_n 2, 1) := by decide +kernel
theorem d_Nam_mixChunk_96 : decode b_Nam_mixChunk 96 = .ok (.iload_n 3, 1) := by decide +kernel
theorem d_Nam_mixChunk_97 : decode b_Nam_mixChunk 97 = .ok (.iand, 1) := by decide +kernel
theorem d_Nam_mixChunk_98 : decode b_Nam_mixChunk 98 = .ok (.ixor, 1) := by decide +kernel
theorem d_Nam_mixChunk_99 : decode b_Nam_mixChunk 99 = .ok (.istore 11, 2) := by decide +kernel
theorem d_Nam_mixChunk_101 : decode b_Nam_mixChunk 101 = .ok (.iload 5, 2) := by decide +kernel
theorem d_Nam_mixChunk_103 : decode b_Nam_mixChunk 103 = .ok (.bipush 6, 2) := by decide +kernel
theorem d_Nam_mixChunk_105 : decode b_Nam_mixChunk 105 = .ok (.invokestatic 43, 3) := by decide +kernel
theorem d_Nam_mixChunk_108 : decode b_Nam_mixChunk 108 = .ok (.iload 5, 2) := by decide +kernel
theorem d_Nam_mixChunk_110 : decode b_Nam_mixChunk 110 = .ok (.bipush 11, 2) := by decide +kernel
theorem d_Nam_mixChunk_112 : decode b_Nam_mixChunk 112 = .ok (.invokestatic 43, 3) := by decide +kernel
theorem d_Nam_mixChunk_115 : decode b_Nam_mixChunk 115 = .ok (.ixor, 1) := by decide +kernel
theorem d_Nam_mixChunk_116 : decode b_Nam_mixChunk 116 = .ok (.iload 5, 2) := by decide +kernel
theorem d_Nam_mixChunk_118 : decode b_Nam_mixChunk 118 = .ok (.bipush 25, 2) := by decide +kernel
theorem d_Nam_mixChunk_120 : decode b_Nam_mixChunk 120 = .ok (.invokestatic 43, 3) := by decide +kernel
theorem d_Nam_mixChunk_123 : decode b_Nam_mixChunk 123 = .ok (.ixor, 1) := by decide +kernel
theorem d_Nam_mixChunk_124 : decode b_Nam_mixChunk 124 = .ok (.istore 12, 2) := by decide +kernel
theorem d_Nam_mixChunk_126 : decode b_Nam_mixChunk 126 = .ok (.iload_n 1, 1) := by decide +kernel
theorem d_Nam_mixChunk_127 : decode b_Nam_mixChunk 127 = .ok (.iconst 2, 1) := by decide +kernel
theorem d_Nam_mixChunk_128 : decode b_Nam_mixChunk 128 = .ok (.invokestatic 43, 3) := by decide +kernel
theorem d_Nam_mixChunk_131 : decode b_Nam_mixChunk 131 = .ok (.iload_n 1, 1) := by decide +kernel
theorem d_Nam_mixChunk_132 : decode b_Nam_mixChunk 132 = .ok (.bipush 13, 2) := by decide +kernel
theorem d_Nam_mixChunk_134 : decode b_Nam_mixChunk 134 = .ok (.invokestatic 43, 3) := by decide +kernel
theorem d_Nam_mixChunk_137 : decode b_Nam_mixChunk 137 = .ok (.ixor, 1) := by decide +kernel
theorem d_Nam_mixChunk_138 : decode b_Nam_mixChunk 138 = .ok (.iload_n 1, 1) := by decide +kernel
theorem d_Nam_mixChunk_139 : decode b_Nam_mixChunk 139 = .ok (.bipush 22, 2) := by decide +kernel
theorem d_Nam_mixChunk_141 : decode b_Nam_mixChunk 141 = .ok (.invokestatic 43, 3) := by decide +kernel
theorem d_Nam_mixChunk_144 : decode b_Nam_mixChunk 144 = .ok (.ixor, 1) := by decide +kernel
theorem d_Nam_mixChunk_145 : decode b_Nam_mixChunk 145 = .ok (.istore 13, 2) := by decide +kernel
theorem d_Nam_mixChunk_147 : decode b_Nam_mixChunk 147 = .ok (.iload 8, 2) := by decide +kernel
theorem d_Nam_mixChunk_149 : decode b_Nam_mixChunk 149 = .ok (.iload 12, 2) := by decide +kernel
theorem d_Nam_mixChunk_151 : decode b_Nam_mixChunk 151 = .ok (.iadd, 1) := by decide +kernel
theorem d_Nam_mixChunk_152 : decode b_Nam_mixChunk 152 = .ok (.iload 10, 2) := by decide +kernel
theorem d_Nam_mixChunk_154 : decode b_Nam_mixChunk 154 = .ok (.iadd, 1) := by decide +kernel
theorem d_Nam_mixChunk_155 : decode b_Nam_mixChunk 155 = .ok (.getstatic 47, 3) := by decide +kernel
theorem d_Nam_mixChunk_158 : decode b_Nam_mixChunk 158 = .ok (.iload 9, 2) := by decide +kernel
theorem d_Nam_mixChunk_160 : decode b_Nam_mixChunk 160 = .ok (.iaload, 1) := by decide +kernel
theorem d_Nam_mixChunk_161 : decode b_Nam_mixChunk 161 = .ok (.iadd, 1) := by decide +kernel
theorem d_Nam_mixChunk_162 : decode b_Nam_mixChunk 162 = .ok (.aload_n 0, 1) := by decide +kernel
theorem d_Nam_mixChunk_163 : decode b_Nam_mixChunk 163 = .ok (.getfield 15, 3) := by decide +kernel
theorem d_Nam_mixChunk_166 : decode b_Nam_mixChunk 166 = .ok (.iload 9, 2) := by decide +kernel
theorem d_Nam_mixChunk_168 : decode b_Nam_mixChunk 168 = .ok (.iaload, 1) := by decide +kernel
theorem d_Nam_mixChunk_169 : decode b_Nam_mixChunk 169 = .ok (.iadd, 1) := by decide +kernel
theorem d_Nam_mixChunk_170 : decode b_Nam_mixChunk 170 = .ok (.istore 14, 2) := by decide +kernel
theorem d_Nam_mixChunk_172 : decode b_Nam_mixChunk 172 = .ok (.iload 7, 2) := by decide +kernel
theorem d_Nam_mixChunk_174 : decode b_Nam_mixChunk 174 = .ok (.istore 8, 2) := by decide +kernel
theorem d_Nam_mixChunk_176 : decode b_Nam_mixChunk 176 = .ok (.iload 6, 2) := by decide +kernel
theorem d_Nam_mixChunk_178 : decode b_Nam_mixChunk 178 = .ok (.istore 7, 2) := by decide +kernel
theorem d_Nam_mixChunk_180 : decode b_Nam_mixChunk 180 = .ok (.iload 5, 2) := by decide +kernel
theorem d_Nam_mixChunk_182 : decode b_Nam_mixChunk 182 = .ok (.istore 6, 2) := by decide +kernel
theorem d_Nam_mixChunk_184 : decode b_Nam_mixChunk 184 = .ok (.iload 4, 2) := by decide +kernel
theorem d_Nam_mixChunk_186 : decode b_Nam_mixChunk 186 = .ok (.iload 14, 2) := by decide +kernel
theorem d_Nam_mixChunk_188 : decode b_Nam_mixChunk 188 = .ok (.iadd, 1) := by decide +kernel
theorem d_Nam_mixChunk_189 : decode b_Nam_mixChunk 189 = .ok (.istore 5, 2) := by decide +kernel
theorem d_Nam_mixChunk_191 : decode b_Nam_mixChunk 191 = .ok (.iload_n 3, 1) := by decide +kernel
theorem d_Nam_mixChunk_192 : decode b_Nam_mixChunk 192 = .ok (.istore 4, 2) := by decide +kernel
theorem d_Nam_mixChunk_194 : decode b_Nam_mixChunk 194 = .ok (.iload_n 2, 1) := by decide +kernel
theorem d_Nam_mixChunk_195 : decode b_Nam_mixChunk 195 = .ok (.istore_n 3, 1) := by decide +kernel
theorem d_Nam_mixChunk_196 : decode b_Nam_mixChunk 196 = .ok (.iload_n 1, 1) := by decide +kernel
theorem d_Nam_mixChunk_197 : decode b_Nam_mixChunk 197 = .ok (.istore_n 2, 1) := by decide +kernel
theorem d_Nam_mixChunk_198 : decode b_Nam_mixChunk 198 = .ok (.iload 14, 2) := by decide +kernel
theorem d_Nam_mixChunk_200 : decode b_Nam_mixChunk 200 = .ok (.iload 13, 2) := by decide +kernel
theorem d_Nam_mixChunk_202 : decode b_Nam_mixChunk 202 = .ok (.iadd, 1) := by decide +kernel
theorem d_Nam_mixChunk_203 : decode b_Nam_mixChunk 203 = .ok (.iload 11, 2) := by decide +kernel
theorem d_Nam_mixChunk_205 : decode b_Nam_mixChunk 205 = .ok (.iadd, 1) := by decide +kernel
theorem d_Nam_mixChunk_206 : decode b_Nam_mixChunk 206 = .ok (.istore_n 1, 1) := by decide +kernel
theorem d_Nam_mixChunk_207 : decode b_Nam_mixChunk 207 = .ok (.iinc 9 1, 3) := by decide +kernel
theorem d_Nam_mixChunk_210 : decode b_Nam_mixChunk 210 = .ok (.goto (-144), 3) := by decide +kernel
theorem d_Nam_mixChunk_213 : decode b_Nam_mixChunk 213 = .ok (.aload_n 0, 1) := by decide +kernel
theorem d_Nam_mixChunk_214 : decode b_Nam_mixChunk 214 = .ok (.getfield 9, 3) := by decide +kernel
theorem d_Nam_mixChunk_217 : decode b_Nam_mixChunk 217 = .ok (.iconst 0, 1) := by decide +kernel
theorem d_Nam_mixChunk_218 : decode b_Nam_mixChunk 218 = .ok (.dup2, 1) := by decide +kernel
theorem d_Nam_mixChunk_219 : decode b_Nam_mixChunk 219 = .ok (.iaload, 1) := by decide +kernel
theorem d_Nam_mixChunk_220 : decode b_Nam_mixChunk 220 = .ok (.iload_n 1, 1) := by decide +kernel
theorem d_Nam_mixChunk_221 : decode b_Nam_mixChunk 221 = .ok (.iadd, 1) := by decide +kernel
theorem d_Nam_mixChunk_222 : decode b_Nam_mixChunk 222 = .ok (.iastore, 1) := by decide +kernel
theorem d_Nam_mixChunk_223 : decode b_Nam_mixChunk 223 = .ok (.aload_n 0, 1) := by decide +kernel
theorem d_Nam_mixChunk_224 : decode b_Nam_mixChunk 224 = .ok (.getfield 9, 3) := by decide +kernel
theorem d_Nam_mixChunk_227 : decode b_Nam_mixChunk 227 = .ok (.iconst 1, 1) := by decide +kernel
theorem d_Nam_mixChunk_228 : decode b_Nam_mixChunk 228 = .ok (.dup2, 1) := by decide +kernel
theorem d_Nam_mixChunk_229 : decode b_Nam_mixChunk 229 = .ok (.iaload, 1) := by decide +kernel
theorem d_Nam_mixChunk_230 : decode b_Nam_mixChunk 230 = .ok (.iload_n 2, 1) := by decide +kernel
theorem d_Nam_mixChunk_231 : decode b_Nam_mixChunk 231 = .ok (.iadd, 1) := by decide +kernel
theorem d_Nam_mixChunk_232 : decode b_Nam_mixChunk 232 = .ok (.iastore, 1) := by decide +kernel
theorem d_Nam_mixChunk_233 : decode b_Nam_mixChunk 233 = .ok (.aload_n 0, 1) := by decide +kernel
theorem d_Nam_mixChunk_234 : decode b_Nam_mixChunk 234 = .ok (.getfield 9, 3) := by decide +kernel
theorem d_Nam_mixChunk_237 : decode b_Nam_mixChunk 237 = .ok (.iconst 2, 1) := by decide +kernel
theorem d_Nam_mixChunk_238 : decode b_Nam_mixChunk 238 = .ok (.dup2, 1) := by decide +kernel
theorem d_Nam_mixChunk_239 : decode b_Nam_mixChunk 239 = .ok (.iaload, 1) := by decide +kernel
theorem d_Nam_mixChunk_240 : decode b_Nam_mixChunk 240 = .ok (.iload_n 3, 1) := by decide +kernel
theorem d_Nam_mixChunk_241 : decode b_Nam_mixChunk 241 = .ok (.iadd, 1) := by decide +kernel
theorem d_Nam_mixChunk_242 : decode b_Nam_mixChunk 242 = .ok (.iastore, 1) := by decide +kernel
theorem d_Nam_mixChunk_243 : decode b_Nam_mixChunk 243 = .ok (.aload_n 0, 1) := by decide +kernel
theorem d_Nam_mixChunk_244 : decode b_Nam_mixChunk 244 = .ok (.getfield 9, 3) := by decide +kernel
theorem d_Nam_mixChunk_247 : decode b_Nam_mixChunk 247 = .ok (.iconst 3, 1) := by decide +kernel
theorem d_Nam_mixChunk_248 : decode b_Nam_mixChunk 248 = .ok (.dup2, 1) := by decide +kernel
theorem d_Nam_mixChunk_249 : decode b_Nam_mixChunk 249 = .ok (.iaload, 1) := by decide +kernel
theorem d_Nam_mixChunk_250 : decode b_Nam_mixChunk 250 = .ok (.iload 4, 2) := by decide +kernel
theorem d_Nam_mixChunk_252 : decode b_Nam_mixChunk 252 = .ok (.iadd, 1) := by decide +kernel
theorem d_Nam_mixChunk_253 : decode b_Nam_mixChunk 253 = .ok (.iastore, 1) := by decide +kernel
theorem d_Nam_mixChunk_254 : decode b_Nam_mixChunk 254 = .ok (.aload_n 0, 1) := by decide +kernel
theorem d_Nam_mixChunk_255 : decode b_Nam_mixChunk 255 = .ok (.getfield 9, 3) := by decide +kernel
theorem d_Nam_mixChunk_258 : decode b_Nam_mixChunk 258 = .ok (.iconst 4, 1) := by decide +kernel
theorem d_Nam_mixChunk_259 : decode b_Nam_mixChunk 259 = .ok (.dup2, 1) := by decide +kernel
theorem d_Nam_mixChunk_260 : decode b_Nam_mixChunk 260 = .ok (.iaload, 1) := by decide +kernel
theorem d_Nam_mixChunk_261 : decode b_Nam_mixChunk 261 = .ok (.iload 5, 2) := by decide +kernel
theorem d_Nam_mixChunk_263 : decode b_Nam_mixChunk 263 = .ok (.iadd, 1) := by decide +kernel
theorem d_Nam_mixChunk_264 : decode b_Nam_mixChunk 264 = .ok (.iastore, 1) := by decide +kernel
theorem d_Nam_mixChunk_265 : decode b_Nam_mixChunk 265 = .ok (.aload_n 0, 1) := by decide +kernel
theorem d_Nam_mixChunk_266 : decode b_Nam_mixChunk 266 = .ok (.getfield 9, 3) := by decide +kernel
theorem d_Nam_mixChunk_269 : decode b_Nam_mixChunk 269 = .ok (.iconst 5, 1) := by decide +kernel
theorem d_Nam_mixChunk_270 : decode b_Nam_mixChunk 270 = .ok (.dup2, 1) := by decide +kernel
theorem d_Nam_mixChunk_271 : decode b_Nam_mixChunk 271 = .ok (.iaload, 1) := by decide +kernel
theorem d_Nam_mixChunk_272 : decode b_Nam_mixChunk 272 = .ok (.iload 6, 2) := by decide +kernel
theorem d_Nam_mixChunk_274 : decode b_Nam_mixChunk 274 = .ok (.iadd, 1) := by decide +kernel
theorem d_Nam_mixChunk_275 : decode b_Nam_mixChunk 275 = .ok (.iastore, 1) := by decide +kernel
theorem d_Nam_mixChunk_276 : decode b_Nam_mixChunk 276 = .ok (.aload_n 0, 1) := by decide +kernel
theorem d_Nam_mixChunk_277 : decode b_Nam_mixChunk 277 = .ok (.getfield 9, 3) := by decide +kernel
theorem d_Nam_mixChunk_280 : decode b_Nam_mixChunk 280 = .ok (.bipush 6, 2) := by decide +kernel
theorem d_Nam_mixChunk_282 : decode b_Nam_mixChunk 282 = .ok (.dup2, 1) := by decide +kernel
theorem d_Nam_mixChunk_283 : decode b_Nam_mixChunk 283 = .ok (.iaload, 1) := by decide +kernel
theorem d_Nam_mixChunk_284 : decode b_Nam_mixChunk 284 = .ok (.iload 7, 2) := by decide +kernel
theorem d_Nam_mixChunk_286 : decode b_Nam_mixChunk 286 = .ok (.iadd, 1) := by decide +kernel
theorem d_Nam_mixChunk_287 : decode b_Nam_mixChunk 287 = .ok (.iastore, 1) := by decide +kernel
theorem d_Nam_mixChunk_288 : decode b_Nam_mixChunk 288 = .ok (.aload_n 0, 1) := by decide +kernel
theorem d_Nam_mixChunk_289 : decode b_Nam_mixChunk 289 = .ok (.getfield 9, 3) := by decide +kernel
theorem d_Nam_mixChunk_292 : decode b_Nam_mixChunk 292 = .ok (.bipush 7, 2) := by decide +kernel
theorem d_Nam_mixChunk_294 : decode b_Nam_mixChunk 294 = .ok (.dup2, 1) := by decide +kernel
theorem d_Nam_mixChunk_295 : decode b_Nam_mixChunk 295 = .ok (.iaload, 1) := by decide +kernel
theorem d_Nam_mixChunk_296 : decode b_Nam_mixChunk 296 = .ok (.iload 8, 2) := by decide +kernel
theorem d_Nam_mixChunk_298 : decode b_Nam_mixChunk 298 = .ok (.iadd, 1) := by decide +kernel
theorem d_Nam_mixChunk_299 : decode b_Nam_mixChunk 299 = .ok (.iastore, 1) := by decide +kernel
theorem d_Nam_mixChunk_300 : decode b_Nam_mixChunk 300 = .ok (.return_, 1) := by decide +kernel
abbrev b_Nam_turn : ByteArray := prog_3_method_7_code
def y_Nam_turn : MethodName := ⟨R_Nam, "turn", "(II)I"⟩
theorem d_Nam_turn_0 : decode b_Nam_turn 0 = .ok (.iload_n 0, 1) := by decide +kernel
theorem d_Nam_turn_1 : decode b_Nam_turn 1 = .ok (.iload_n 1, 1) := by decide +kernel
theorem d_Nam_turn_2 : decode b_Nam_turn 2 = .ok (.iushr, 1) := by decide +kernel
theorem d_Nam_turn_3 : decode b_Nam_turn 3 = .ok (.iload_n 0, 1) := by decide +kernel
theorem d_Nam_turn_4 : decode b_Nam_turn 4 = .ok (.bipush 32, 2) := by decide +kernel
theorem d_Nam_turn_6 : decode b_Nam_turn 6 = .ok (.iload_n 1, 1) := by decide +kernel
theorem d_Nam_turn_7 : decode b_Nam_turn 7 = .ok (.isub, 1) := by decide +kernel
theorem d_Nam_turn_8 : decode b_Nam_turn 8 = .ok (.ishl, 1) := by decide +kernel
theorem d_Nam_turn_9 : decode b_Nam_turn 9 = .ok (.ior, 1) := by decide +kernel
theorem d_Nam_turn_10 : decode b_Nam_turn 10 = .ok (.ireturn, 1) := by decide +kernel
abbrev b_Nam_writeState : ByteArray := prog_3_method_8_code
def y_Nam_writeState : MethodName := ⟨R_Nam, "writeState", "([BI)V"⟩
theorem d_Nam_writeState_0 : decode b_Nam_writeState 0 = .ok (.iload_n 2, 1) := by decide +kernel
theorem d_Nam_writeState_1 : decode b_Nam_writeState 1 = .ok (.ifCond .lt 12, 3) := by decide +kernel
theorem d_Nam_writeState_4 : decode b_Nam_writeState 4 = .ok (.iload_n 2, 1) := by decide +kernel
theorem d_Nam_writeState_5 : decode b_Nam_writeState 5 = .ok (.aload_n 1, 1) := by decide +kernel
theorem d_Nam_writeState_6 : decode b_Nam_writeState 6 = .ok (.arraylength, 1) := by decide +kernel
theorem d_Nam_writeState_7 : decode b_Nam_writeState 7 = .ok (.bipush 32, 2) := by decide +kernel
theorem d_Nam_writeState_9 : decode b_Nam_writeState 9 = .ok (.isub, 1) := by decide +kernel
theorem d_Nam_writeState_10 : decode b_Nam_writeState 10 = .ok (.if_icmp .le 4, 3) := by decide +kernel
theorem d_Nam_writeState_13 : decode b_Nam_writeState 13 = .ok (.return_, 1) := by decide +kernel
theorem d_Nam_writeState_14 : decode b_Nam_writeState 14 = .ok (.iconst 0, 1) := by decide +kernel
theorem d_Nam_writeState_15 : decode b_Nam_writeState 15 = .ok (.istore_n 3, 1) := by decide +kernel
theorem d_Nam_writeState_16 : decode b_Nam_writeState 16 = .ok (.iload_n 3, 1) := by decide +kernel
theorem d_Nam_writeState_17 : decode b_Nam_writeState 17 = .ok (.bipush 32, 2) := by decide +kernel
theorem d_Nam_writeState_19 : decode b_Nam_writeState 19 = .ok (.if_icmp .ge 33, 3) := by decide +kernel
theorem d_Nam_writeState_22 : decode b_Nam_writeState 22 = .ok (.aload_n 1, 1) := by decide +kernel
theorem d_Nam_writeState_23 : decode b_Nam_writeState 23 = .ok (.iload_n 2, 1) := by decide +kernel
theorem d_Nam_writeState_24 : decode b_Nam_writeState 24 = .ok (.iload_n 3, 1) := by decide +kernel
theorem d_Nam_writeState_25 : decode b_Nam_writeState 25 = .ok (.iadd, 1) := by decide +kernel
theorem d_Nam_writeState_26 : decode b_Nam_writeState 26 = .ok (.aload_n 0, 1) := by decide +kernel
theorem d_Nam_writeState_27 : decode b_Nam_writeState 27 = .ok (.getfield 9, 3) := by decide +kernel
theorem d_Nam_writeState_30 : decode b_Nam_writeState 30 = .ok (.iload_n 3, 1) := by decide +kernel
theorem d_Nam_writeState_31 : decode b_Nam_writeState 31 = .ok (.iconst 4, 1) := by decide +kernel
theorem d_Nam_writeState_32 : decode b_Nam_writeState 32 = .ok (.idiv, 1) := by decide +kernel
theorem d_Nam_writeState_33 : decode b_Nam_writeState 33 = .ok (.iaload, 1) := by decide +kernel
theorem d_Nam_writeState_34 : decode b_Nam_writeState 34 = .ok (.bipush 24, 2) := by decide +kernel
theorem d_Nam_writeState_36 : decode b_Nam_writeState 36 = .ok (.bipush 8, 2) := by decide +kernel
theorem d_Nam_writeState_38 : decode b_Nam_writeState 38 = .ok (.iload_n 3, 1) := by decide +kernel
theorem d_Nam_writeState_39 : decode b_Nam_writeState 39 = .ok (.iconst 4, 1) := by decide +kernel
theorem d_Nam_writeState_40 : decode b_Nam_writeState 40 = .ok (.irem, 1) := by decide +kernel
theorem d_Nam_writeState_41 : decode b_Nam_writeState 41 = .ok (.imul, 1) := by decide +kernel
theorem d_Nam_writeState_42 : decode b_Nam_writeState 42 = .ok (.isub, 1) := by decide +kernel
theorem d_Nam_writeState_43 : decode b_Nam_writeState 43 = .ok (.iushr, 1) := by decide +kernel
theorem d_Nam_writeState_44 : decode b_Nam_writeState 44 = .ok (.i2b, 1) := by decide +kernel
theorem d_Nam_writeState_45 : decode b_Nam_writeState 45 = .ok (.bastore, 1) := by decide +kernel
theorem d_Nam_writeState_46 : decode b_Nam_writeState 46 = .ok (.iinc 3 1, 3) := by decide +kernel
theorem d_Nam_writeState_49 : decode b_Nam_writeState 49 = .ok (.goto (-33), 3) := by decide +kernel
theorem d_Nam_writeState_52 : decode b_Nam_writeState 52 = .ok (.return_, 1) := by decide +kernel
