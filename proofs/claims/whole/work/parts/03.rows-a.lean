abbrev b_Rea_init : ByteArray := prog_4_method_1_code
def y_Rea_init : MethodName := ⟨R_Rea, "<init>", "()V"⟩
theorem d_Rea_init_0 : decode b_Rea_init 0 = .ok (.aload_n 0, 1) := by decide +kernel
theorem d_Rea_init_1 : decode b_Rea_init 1 = .ok (.invokespecial 3, 3) := by decide +kernel
theorem d_Rea_init_4 : decode b_Rea_init 4 = .ok (.aload_n 0, 1) := by decide +kernel
theorem d_Rea_init_5 : decode b_Rea_init 5 = .ok (.new 9, 3) := by decide +kernel
theorem d_Rea_init_8 : decode b_Rea_init 8 = .ok (.dup, 1) := by decide +kernel
theorem d_Rea_init_9 : decode b_Rea_init 9 = .ok (.invokespecial 11, 3) := by decide +kernel
theorem d_Rea_init_12 : decode b_Rea_init 12 = .ok (.putfield 12, 3) := by decide +kernel
theorem d_Rea_init_15 : decode b_Rea_init 15 = .ok (.aload_n 0, 1) := by decide +kernel
theorem d_Rea_init_16 : decode b_Rea_init 16 = .ok (.iconst 0, 1) := by decide +kernel
theorem d_Rea_init_17 : decode b_Rea_init 17 = .ok (.putfield 18, 3) := by decide +kernel
theorem d_Rea_init_20 : decode b_Rea_init 20 = .ok (.aload_n 0, 1) := by decide +kernel
theorem d_Rea_init_21 : decode b_Rea_init 21 = .ok (.iconst 0, 1) := by decide +kernel
theorem d_Rea_init_22 : decode b_Rea_init 22 = .ok (.putfield 22, 3) := by decide +kernel
theorem d_Rea_init_25 : decode b_Rea_init 25 = .ok (.aload_n 0, 1) := by decide +kernel
theorem d_Rea_init_26 : decode b_Rea_init 26 = .ok (.iconst (-1), 1) := by decide +kernel
theorem d_Rea_init_27 : decode b_Rea_init 27 = .ok (.putfield 25, 3) := by decide +kernel
theorem d_Rea_init_30 : decode b_Rea_init 30 = .ok (.return_, 1) := by decide +kernel
abbrev b_Rea_begin : ByteArray := prog_4_method_2_code
def y_Rea_begin : MethodName := ⟨R_Rea, "begin", "()V"⟩
theorem d_Rea_begin_0 : decode b_Rea_begin 0 = .ok (.aload_n 0, 1) := by decide +kernel
theorem d_Rea_begin_1 : decode b_Rea_begin 1 = .ok (.iconst 0, 1) := by decide +kernel
theorem d_Rea_begin_2 : decode b_Rea_begin 2 = .ok (.putfield 18, 3) := by decide +kernel
theorem d_Rea_begin_5 : decode b_Rea_begin 5 = .ok (.aload_n 0, 1) := by decide +kernel
theorem d_Rea_begin_6 : decode b_Rea_begin 6 = .ok (.iconst 0, 1) := by decide +kernel
theorem d_Rea_begin_7 : decode b_Rea_begin 7 = .ok (.putfield 22, 3) := by decide +kernel
theorem d_Rea_begin_10 : decode b_Rea_begin 10 = .ok (.aload_n 0, 1) := by decide +kernel
theorem d_Rea_begin_11 : decode b_Rea_begin 11 = .ok (.iconst (-1), 1) := by decide +kernel
theorem d_Rea_begin_12 : decode b_Rea_begin 12 = .ok (.putfield 25, 3) := by decide +kernel
theorem d_Rea_begin_15 : decode b_Rea_begin 15 = .ok (.return_, 1) := by decide +kernel
abbrev b_Rea_finish : ByteArray := prog_4_method_3_code
def y_Rea_finish : MethodName := ⟨R_Rea, "finish", "()V"⟩
theorem d_Rea_finish_0 : decode b_Rea_finish 0 = .ok (.aload_n 0, 1) := by decide +kernel
theorem d_Rea_finish_1 : decode b_Rea_finish 1 = .ok (.getfield 18, 3) := by decide +kernel
theorem d_Rea_finish_4 : decode b_Rea_finish 4 = .ok (.aload_n 0, 1) := by decide +kernel
theorem d_Rea_finish_5 : decode b_Rea_finish 5 = .ok (.getfield 12, 3) := by decide +kernel
theorem d_Rea_finish_8 : decode b_Rea_finish 8 = .ok (.getfield 28, 3) := by decide +kernel
theorem d_Rea_finish_11 : decode b_Rea_finish 11 = .ok (.if_icmp .ge 12, 3) := by decide +kernel
theorem d_Rea_finish_14 : decode b_Rea_finish 14 = .ok (.aload_n 0, 1) := by decide +kernel
theorem d_Rea_finish_15 : decode b_Rea_finish 15 = .ok (.iconst 4, 1) := by decide +kernel
theorem d_Rea_finish_16 : decode b_Rea_finish 16 = .ok (.aload_n 0, 1) := by decide +kernel
theorem d_Rea_finish_17 : decode b_Rea_finish 17 = .ok (.getfield 18, 3) := by decide +kernel
theorem d_Rea_finish_20 : decode b_Rea_finish 20 = .ok (.invokevirtual 31, 3) := by decide +kernel
theorem d_Rea_finish_23 : decode b_Rea_finish 23 = .ok (.return_, 1) := by decide +kernel
abbrev b_Rea_takeBlock : ByteArray := prog_4_method_4_code
def y_Rea_takeBlock : MethodName := ⟨R_Rea, "takeBlock", "([LWireDesk$Transaction;)I"⟩
theorem d_Rea_takeBlock_0 : decode b_Rea_takeBlock 0 = .ok (.aload_n 0, 1) := by decide +kernel
theorem d_Rea_takeBlock_1 : decode b_Rea_takeBlock 1 = .ok (.bipush 80, 2) := by decide +kernel
theorem d_Rea_takeBlock_3 : decode b_Rea_takeBlock 3 = .ok (.invokevirtual 35, 3) := by decide +kernel
theorem d_Rea_takeBlock_6 : decode b_Rea_takeBlock 6 = .ok (.aload_n 0, 1) := by decide +kernel
theorem d_Rea_takeBlock_7 : decode b_Rea_takeBlock 7 = .ok (.bipush 12, 2) := by decide +kernel
theorem d_Rea_takeBlock_9 : decode b_Rea_takeBlock 9 = .ok (.invokevirtual 39, 3) := by decide +kernel
theorem d_Rea_takeBlock_12 : decode b_Rea_takeBlock 12 = .ok (.istore_n 2, 1) := by decide +kernel
theorem d_Rea_takeBlock_13 : decode b_Rea_takeBlock 13 = .ok (.iconst 0, 1) := by decide +kernel
theorem d_Rea_takeBlock_14 : decode b_Rea_takeBlock 14 = .ok (.istore_n 3, 1) := by decide +kernel
theorem d_Rea_takeBlock_15 : decode b_Rea_takeBlock 15 = .ok (.iload_n 3, 1) := by decide +kernel
theorem d_Rea_takeBlock_16 : decode b_Rea_takeBlock 16 = .ok (.iload_n 2, 1) := by decide +kernel
theorem d_Rea_takeBlock_17 : decode b_Rea_takeBlock 17 = .ok (.if_icmp .ge 29, 3) := by decide +kernel
theorem d_Rea_takeBlock_20 : decode b_Rea_takeBlock 20 = .ok (.iload_n 3, 1) := by decide +kernel
theorem d_Rea_takeBlock_21 : decode b_Rea_takeBlock 21 = .ok (.aload_n 1, 1) := by decide +kernel
theorem d_Rea_takeBlock_22 : decode b_Rea_takeBlock 22 = .ok (.arraylength, 1) := by decide +kernel
theorem d_Rea_takeBlock_23 : decode b_Rea_takeBlock 23 = .ok (.if_icmp .ge 23, 3) := by decide +kernel
theorem d_Rea_takeBlock_26 : decode b_Rea_takeBlock 26 = .ok (.aload_n 0, 1) := by decide +kernel
theorem d_Rea_takeBlock_27 : decode b_Rea_takeBlock 27 = .ok (.getfield 22, 3) := by decide +kernel
theorem d_Rea_takeBlock_30 : decode b_Rea_takeBlock 30 = .ok (.ifCond .ne 16, 3) := by decide +kernel
theorem d_Rea_takeBlock_33 : decode b_Rea_takeBlock 33 = .ok (.aload_n 0, 1) := by decide +kernel
theorem d_Rea_takeBlock_34 : decode b_Rea_takeBlock 34 = .ok (.aload_n 1, 1) := by decide +kernel
theorem d_Rea_takeBlock_35 : decode b_Rea_takeBlock 35 = .ok (.iload_n 3, 1) := by decide +kernel
theorem d_Rea_takeBlock_36 : decode b_Rea_takeBlock 36 = .ok (.aaload, 1) := by decide +kernel
theorem d_Rea_takeBlock_37 : decode b_Rea_takeBlock 37 = .ok (.invokevirtual 43, 3) := by decide +kernel
theorem d_Rea_takeBlock_40 : decode b_Rea_takeBlock 40 = .ok (.iinc 3 1, 3) := by decide +kernel
theorem d_Rea_takeBlock_43 : decode b_Rea_takeBlock 43 = .ok (.goto (-28), 3) := by decide +kernel
theorem d_Rea_takeBlock_46 : decode b_Rea_takeBlock 46 = .ok (.iload_n 2, 1) := by decide +kernel
theorem d_Rea_takeBlock_47 : decode b_Rea_takeBlock 47 = .ok (.ireturn, 1) := by decide +kernel
abbrev b_Rea_takeTransaction : ByteArray := prog_4_method_5_code
def y_Rea_takeTransaction : MethodName := ⟨R_Rea, "takeTransaction", "(LWireDesk$Transaction;)V"⟩
theorem d_Rea_takeTransaction_0 : decode b_Rea_takeTransaction 0 = .ok (.aload_n 1, 1) := by decide +kernel
theorem d_Rea_takeTransaction_1 : decode b_Rea_takeTransaction 1 = .ok (.aload_n 0, 1) := by decide +kernel
theorem d_Rea_takeTransaction_2 : decode b_Rea_takeTransaction 2 = .ok (.getfield 18, 3) := by decide +kernel
theorem d_Rea_takeTransaction_5 : decode b_Rea_takeTransaction 5 = .ok (.putfield 47, 3) := by decide +kernel
theorem d_Rea_takeTransaction_8 : decode b_Rea_takeTransaction 8 = .ok (.aload_n 0, 1) := by decide +kernel
theorem d_Rea_takeTransaction_9 : decode b_Rea_takeTransaction 9 = .ok (.iconst 4, 1) := by decide +kernel
theorem d_Rea_takeTransaction_10 : decode b_Rea_takeTransaction 10 = .ok (.invokevirtual 35, 3) := by decide +kernel
theorem d_Rea_takeTransaction_13 : decode b_Rea_takeTransaction 13 = .ok (.aload_n 1, 1) := by decide +kernel
theorem d_Rea_takeTransaction_14 : decode b_Rea_takeTransaction 14 = .ok (.aload_n 0, 1) := by decide +kernel
theorem d_Rea_takeTransaction_15 : decode b_Rea_takeTransaction 15 = .ok (.bipush 8, 2) := by decide +kernel
theorem d_Rea_takeTransaction_17 : decode b_Rea_takeTransaction 17 = .ok (.invokevirtual 39, 3) := by decide +kernel
theorem d_Rea_takeTransaction_20 : decode b_Rea_takeTransaction 20 = .ok (.putfield 52, 3) := by decide +kernel
theorem d_Rea_takeTransaction_23 : decode b_Rea_takeTransaction 23 = .ok (.iconst 0, 1) := by decide +kernel
theorem d_Rea_takeTransaction_24 : decode b_Rea_takeTransaction 24 = .ok (.istore_n 2, 1) := by decide +kernel
theorem d_Rea_takeTransaction_25 : decode b_Rea_takeTransaction 25 = .ok (.iload_n 2, 1) := by decide +kernel
theorem d_Rea_takeTransaction_26 : decode b_Rea_takeTransaction 26 = .ok (.aload_n 1, 1) := by decide +kernel
theorem d_Rea_takeTransaction_27 : decode b_Rea_takeTransaction 27 = .ok (.getfield 52, 3) := by decide +kernel
theorem d_Rea_takeTransaction_30 : decode b_Rea_takeTransaction 30 = .ok (.if_icmp .ge 21, 3) := by decide +kernel
theorem d_Rea_takeTransaction_33 : decode b_Rea_takeTransaction 33 = .ok (.iload_n 2, 1) := by decide +kernel
theorem d_Rea_takeTransaction_34 : decode b_Rea_takeTransaction 34 = .ok (.bipush 8, 2) := by decide +kernel
theorem d_Rea_takeTransaction_36 : decode b_Rea_takeTransaction 36 = .ok (.if_icmp .ge 15, 3) := by decide +kernel
theorem d_Rea_takeTransaction_39 : decode b_Rea_takeTransaction 39 = .ok (.aload_n 0, 1) := by decide +kernel
theorem d_Rea_takeTransaction_40 : decode b_Rea_takeTransaction 40 = .ok (.aload_n 1, 1) := by decide +kernel
theorem d_Rea_takeTransaction_41 : decode b_Rea_takeTransaction 41 = .ok (.iload_n 2, 1) := by decide +kernel
theorem d_Rea_takeTransaction_42 : decode b_Rea_takeTransaction 42 = .ok (.invokevirtual 55, 3) := by decide +kernel
theorem d_Rea_takeTransaction_45 : decode b_Rea_takeTransaction 45 = .ok (.iinc 2 1, 3) := by decide +kernel
theorem d_Rea_takeTransaction_48 : decode b_Rea_takeTransaction 48 = .ok (.goto (-23), 3) := by decide +kernel
theorem d_Rea_takeTransaction_51 : decode b_Rea_takeTransaction 51 = .ok (.aload_n 1, 1) := by decide +kernel
theorem d_Rea_takeTransaction_52 : decode b_Rea_takeTransaction 52 = .ok (.aload_n 0, 1) := by decide +kernel
theorem d_Rea_takeTransaction_53 : decode b_Rea_takeTransaction 53 = .ok (.bipush 8, 2) := by decide +kernel
theorem d_Rea_takeTransaction_55 : decode b_Rea_takeTransaction 55 = .ok (.invokevirtual 39, 3) := by decide +kernel
theorem d_Rea_takeTransaction_58 : decode b_Rea_takeTransaction 58 = .ok (.putfield 59, 3) := by decide +kernel
theorem d_Rea_takeTransaction_61 : decode b_Rea_takeTransaction 61 = .ok (.iconst 0, 1) := by decide +kernel
theorem d_Rea_takeTransaction_62 : decode b_Rea_takeTransaction 62 = .ok (.istore_n 2, 1) := by decide +kernel
theorem d_Rea_takeTransaction_63 : decode b_Rea_takeTransaction 63 = .ok (.iload_n 2, 1) := by decide +kernel
theorem d_Rea_takeTransaction_64 : decode b_Rea_takeTransaction 64 = .ok (.aload_n 1, 1) := by decide +kernel
theorem d_Rea_takeTransaction_65 : decode b_Rea_takeTransaction 65 = .ok (.getfield 59, 3) := by decide +kernel
theorem d_Rea_takeTransaction_68 : decode b_Rea_takeTransaction 68 = .ok (.if_icmp .ge 21, 3) := by decide +kernel
theorem d_Rea_takeTransaction_71 : decode b_Rea_takeTransaction 71 = .ok (.iload_n 2, 1) := by decide +kernel
theorem d_Rea_takeTransaction_72 : decode b_Rea_takeTransaction 72 = .ok (.bipush 8, 2) := by decide +kernel
theorem d_Rea_takeTransaction_74 : decode b_Rea_takeTransaction 74 = .ok (.if_icmp .ge 15, 3) := by decide +kernel
theorem d_Rea_takeTransaction_77 : decode b_Rea_takeTransaction 77 = .ok (.aload_n 0, 1) := by decide +kernel
theorem d_Rea_takeTransaction_78 : decode b_Rea_takeTransaction 78 = .ok (.aload_n 1, 1) := by decide +kernel
theorem d_Rea_takeTransaction_79 : decode b_Rea_takeTransaction 79 = .ok (.iload_n 2, 1) := by decide +kernel
theorem d_Rea_takeTransaction_80 : decode b_Rea_takeTransaction 80 = .ok (.invokevirtual 62, 3) := by decide +kernel
theorem d_Rea_takeTransaction_83 : decode b_Rea_takeTransaction 83 = .ok (.iinc 2 1, 3) := by decide +kernel
theorem d_Rea_takeTransaction_86 : decode b_Rea_takeTransaction 86 = .ok (.goto (-23), 3) := by decide +kernel
theorem d_Rea_takeTransaction_89 : decode b_Rea_takeTransaction 89 = .ok (.aload_n 0, 1) := by decide +kernel
theorem d_Rea_takeTransaction_90 : decode b_Rea_takeTransaction 90 = .ok (.iconst 4, 1) := by decide +kernel
theorem d_Rea_takeTransaction_91 : decode b_Rea_takeTransaction 91 = .ok (.invokevirtual 35, 3) := by decide +kernel
theorem d_Rea_takeTransaction_94 : decode b_Rea_takeTransaction 94 = .ok (.aload_n 1, 1) := by decide +kernel
theorem d_Rea_takeTransaction_95 : decode b_Rea_takeTransaction 95 = .ok (.aload_n 0, 1) := by decide +kernel
theorem d_Rea_takeTransaction_96 : decode b_Rea_takeTransaction 96 = .ok (.getfield 18, 3) := by decide +kernel
theorem d_Rea_takeTransaction_99 : decode b_Rea_takeTransaction 99 = .ok (.putfield 65, 3) := by decide +kernel
theorem d_Rea_takeTransaction_102 : decode b_Rea_takeTransaction 102 = .ok (.return_, 1) := by decide +kernel
abbrev b_Rea_takeInput : ByteArray := prog_4_method_6_code
def y_Rea_takeInput : MethodName := ⟨R_Rea, "takeInput", "(LWireDesk$Transaction;I)V"⟩
theorem d_Rea_takeInput_0 : decode b_Rea_takeInput 0 = .ok (.aload_n 1, 1) := by decide +kernel
theorem d_Rea_takeInput_1 : decode b_Rea_takeInput 1 = .ok (.getfield 68, 3) := by decide +kernel
theorem d_Rea_takeInput_4 : decode b_Rea_takeInput 4 = .ok (.iload_n 2, 1) := by decide +kernel
theorem d_Rea_takeInput_5 : decode b_Rea_takeInput 5 = .ok (.aload_n 0, 1) := by decide +kernel
theorem d_Rea_takeInput_6 : decode b_Rea_takeInput 6 = .ok (.getfield 18, 3) := by decide +kernel
theorem d_Rea_takeInput_9 : decode b_Rea_takeInput 9 = .ok (.iastore, 1) := by decide +kernel
theorem d_Rea_takeInput_10 : decode b_Rea_takeInput 10 = .ok (.aload_n 0, 1) := by decide +kernel
theorem d_Rea_takeInput_11 : decode b_Rea_takeInput 11 = .ok (.bipush 36, 2) := by decide +kernel
theorem d_Rea_takeInput_13 : decode b_Rea_takeInput 13 = .ok (.invokevirtual 35, 3) := by decide +kernel
theorem d_Rea_takeInput_16 : decode b_Rea_takeInput 16 = .ok (.aload_n 0, 1) := by decide +kernel
theorem d_Rea_takeInput_17 : decode b_Rea_takeInput 17 = .ok (.sipush 200, 3) := by decide +kernel
theorem d_Rea_takeInput_20 : decode b_Rea_takeInput 20 = .ok (.invokevirtual 39, 3) := by decide +kernel
theorem d_Rea_takeInput_23 : decode b_Rea_takeInput 23 = .ok (.istore_n 3, 1) := by decide +kernel
theorem d_Rea_takeInput_24 : decode b_Rea_takeInput 24 = .ok (.aload_n 1, 1) := by decide +kernel
theorem d_Rea_takeInput_25 : decode b_Rea_takeInput 25 = .ok (.getfield 72, 3) := by decide +kernel
theorem d_Rea_takeInput_28 : decode b_Rea_takeInput 28 = .ok (.iload_n 2, 1) := by decide +kernel
theorem d_Rea_takeInput_29 : decode b_Rea_takeInput 29 = .ok (.aload_n 0, 1) := by decide +kernel
theorem d_Rea_takeInput_30 : decode b_Rea_takeInput 30 = .ok (.getfield 18, 3) := by decide +kernel
theorem d_Rea_takeInput_33 : decode b_Rea_takeInput 33 = .ok (.iastore, 1) := by decide +kernel
theorem d_Rea_takeInput_34 : decode b_Rea_takeInput 34 = .ok (.aload_n 1, 1) := by decide +kernel
theorem d_Rea_takeInput_35 : decode b_Rea_takeInput 35 = .ok (.getfield 75, 3) := by decide +kernel
theorem d_Rea_takeInput_38 : decode b_Rea_takeInput 38 = .ok (.iload_n 2, 1) := by decide +kernel
theorem d_Rea_takeInput_39 : decode b_Rea_takeInput 39 = .ok (.iload_n 3, 1) := by decide +kernel
theorem d_Rea_takeInput_40 : decode b_Rea_takeInput 40 = .ok (.iastore, 1) := by decide +kernel
theorem d_Rea_takeInput_41 : decode b_Rea_takeInput 41 = .ok (.aload_n 0, 1) := by decide +kernel
theorem d_Rea_takeInput_42 : decode b_Rea_takeInput 42 = .ok (.iload_n 3, 1) := by decide +kernel
theorem d_Rea_takeInput_43 : decode b_Rea_takeInput 43 = .ok (.iconst 4, 1) := by decide +kernel
theorem d_Rea_takeInput_44 : decode b_Rea_takeInput 44 = .ok (.iadd, 1) := by decide +kernel
theorem d_Rea_takeInput_45 : decode b_Rea_takeInput 45 = .ok (.invokevirtual 35, 3) := by decide +kernel
theorem d_Rea_takeInput_48 : decode b_Rea_takeInput 48 = .ok (.return_, 1) := by decide +kernel
abbrev b_Rea_takeOutput : ByteArray := prog_4_method_7_code
def y_Rea_takeOutput : MethodName := ⟨R_Rea, "takeOutput", "(LWireDesk$Transaction;I)V"⟩
theorem d_Rea_takeOutput_0 : decode b_Rea_takeOutput 0 = .ok (.aload_n 1, 1) := by decide +kernel
theorem d_Rea_takeOutput_1 : decode b_Rea_takeOutput 1 = .ok (.getfield 78, 3) := by decide +kernel
theorem d_Rea_takeOutput_4 : decode b_Rea_takeOutput 4 = .ok (.iload_n 2, 1) := by decide +kernel
theorem d_Rea_takeOutput_5 : decode b_Rea_takeOutput 5 = .ok (.aload_n 0, 1) := by decide +kernel
theorem d_Rea_takeOutput_6 : decode b_Rea_takeOutput 6 = .ok (.getfield 18, 3) := by decide +kernel
theorem d_Rea_takeOutput_9 : decode b_Rea_takeOutput 9 = .ok (.iastore, 1) := by decide +kernel
theorem d_Rea_takeOutput_10 : decode b_Rea_takeOutput 10 = .ok (.aload_n 0, 1) := by decide +kernel
theorem d_Rea_takeOutput_11 : decode b_Rea_takeOutput 11 = .ok (.bipush 8, 2) := by decide +kernel
theorem d_Rea_takeOutput_13 : decode b_Rea_takeOutput 13 = .ok (.invokevirtual 35, 3) := by decide +kernel
theorem d_Rea_takeOutput_16 : decode b_Rea_takeOutput 16 = .ok (.aload_n 0, 1) := by decide +kernel
theorem d_Rea_takeOutput_17 : decode b_Rea_takeOutput 17 = .ok (.sipush 200, 3) := by decide +kernel
theorem d_Rea_takeOutput_20 : decode b_Rea_takeOutput 20 = .ok (.invokevirtual 39, 3) := by decide +kernel
theorem d_Rea_takeOutput_23 : decode b_Rea_takeOutput 23 = .ok (.istore_n 3, 1) := by decide +kernel
theorem d_Rea_takeOutput_24 : decode b_Rea_takeOutput 24 = .ok (.aload_n 1, 1) := by decide +kernel
theorem d_Rea_takeOutput_25 : decode b_Rea_takeOutput 25 = .ok (.getfield 81, 3) := by decide +kernel
theorem d_Rea_takeOutput_28 : decode b_Rea_takeOutput 28 = .ok (.iload_n 2, 1) := by decide +kernel
theorem d_Rea_takeOutput_29 : decode b_Rea_takeOutput 29 = .ok (.aload_n 0, 1) := by decide +kernel
theorem d_Rea_takeOutput_30 : decode b_Rea_takeOutput 30 = .ok (.getfield 18, 3) := by decide +kernel
theorem d_Rea_takeOutput_33 : decode b_Rea_takeOutput 33 = .ok (.iastore, 1) := by decide +kernel
theorem d_Rea_takeOutput_34 : decode b_Rea_takeOutput 34 = .ok (.aload_n 1, 1) := by decide +kernel
theorem d_Rea_takeOutput_35 : decode b_Rea_takeOutput 35 = .ok (.getfield 84, 3) := by decide +kernel
theorem d_Rea_takeOutput_38 : decode b_Rea_takeOutput 38 = .ok (.iload_n 2, 1) := by decide +kernel
theorem d_Rea_takeOutput_39 : decode b_Rea_takeOutput 39 = .ok (.iload_n 3, 1) := by decide +kernel
theorem d_Rea_takeOutput_40 : decode b_Rea_takeOutput 40 = .ok (.iastore, 1) := by decide +kernel
theorem d_Rea_takeOutput_41 : decode b_Rea_takeOutput 41 = .ok (.aload_n 0, 1) := by decide +kernel
theorem d_Rea_takeOutput_42 : decode b_Rea_takeOutput 42 = .ok (.iload_n 3, 1) := by decide +kernel
theorem d_Rea_takeOutput_43 : decode b_Rea_takeOutput 43 = .ok (.invokevirtual 35, 3) := by decide +kernel
theorem d_Rea_takeOutput_46 : decode b_Rea_takeOutput 46 = .ok (.return_, 1) := by decide +kernel
abbrev b_Rea_skip : ByteArray := prog_4_method_8_code
def y_Rea_skip : MethodName := ⟨R_Rea, "skip", "(I)V"⟩
theorem d_Rea_skip_0 : decode b_Rea_skip 0 = .ok (.aload_n 0, 1) := by decide +kernel
theorem d_Rea_skip_1 : decode b_Rea_skip 1 = .ok (.getfield 22, 3) := by decide +kernel
theorem d_Rea_skip_4 : decode b_Rea_skip 4 = .ok (.ifCond .eq 4, 3) := by decide +kernel
theorem d_Rea_skip_7 : decode b_Rea_skip 7 = .ok (.return_, 1) := by decide +kernel
theorem d_Rea_skip_8 : decode b_Rea_skip 8 = .ok (.iload_n 1, 1) := by decide +kernel
theorem d_Rea_skip_9 : decode b_Rea_skip 9 = .ok (.aload_n 0, 1) := by decide +kernel
theorem d_Rea_skip_10 : decode b_Rea_skip 10 = .ok (.getfield 12, 3) := by decide +kernel
theorem d_Rea_skip_13 : decode b_Rea_skip 13 = .ok (.getfield 28, 3) := by decide +kernel
theorem d_Rea_skip_16 : decode b_Rea_skip 16 = .ok (.aload_n 0, 1) := by decide +kernel
theorem d_Rea_skip_17 : decode b_Rea_skip 17 = .ok (.getfield 18, 3) := by decide +kernel
theorem d_Rea_skip_20 : decode b_Rea_skip 20 = .ok (.isub, 1) := by decide +kernel
theorem d_Rea_skip_21 : decode b_Rea_skip 21 = .ok (.if_icmp .le 16, 3) := by decide +kernel
theorem d_Rea_skip_24 : decode b_Rea_skip 24 = .ok (.aload_n 0, 1) := by decide +kernel
theorem d_Rea_skip_25 : decode b_Rea_skip 25 = .ok (.iconst 1, 1) := by decide +kernel
theorem d_Rea_skip_26 : decode b_Rea_skip 26 = .ok (.aload_n 0, 1) := by decide +kernel
theorem d_Rea_skip_27 : decode b_Rea_skip 27 = .ok (.getfield 12, 3) := by decide +kernel
theorem d_Rea_skip_30 : decode b_Rea_skip 30 = .ok (.getfield 28, 3) := by decide +kernel
theorem d_Rea_skip_33 : decode b_Rea_skip 33 = .ok (.invokevirtual 31, 3) := by decide +kernel
theorem d_Rea_skip_36 : decode b_Rea_skip 36 = .ok (.return_, 1) := by decide +kernel
theorem d_Rea_skip_37 : decode b_Rea_skip 37 = .ok (.aload_n 0, 1) := by decide +kernel
theorem d_Rea_skip_38 : decode b_Rea_skip 38 = .ok (.dup, 1) := by decide +kernel
theorem d_Rea_skip_39 : decode b_Rea_skip 39 = .ok (.getfield 18, 3) := by decide +kernel
theorem d_Rea_skip_42 : decode b_Rea_skip 42 = .ok (.iload_n 1, 1) := by decide +kernel
theorem d_Rea_skip_43 : decode b_Rea_skip 43 = .ok (.iadd, 1) := by decide +kernel
theorem d_Rea_skip_44 : decode b_Rea_skip 44 = .ok (.putfield 18, 3) := by decide +kernel
theorem d_Rea_skip_47 : decode b_Rea_skip 47 = .ok (.return_, 1) := by decide +kernel
abbrev b_Rea_takeSize : ByteArray := prog_4_method_9_code
def y_Rea_takeSize : MethodName := ⟨R_Rea, "takeSize", "(I)I"⟩
theorem d_Rea_takeSize_0 : decode b_Rea_takeSize 0 = .ok (.aload_n 0, 1) := by decide +kernel
theorem d_Rea_takeSize_1 : decode b_Rea_takeSize 1 = .ok (.getfield 18, 3) := by decide +kernel
theorem d_Rea_takeSize_4 : decode b_Rea_takeSize 4 = .ok (.istore_n 2, 1) := by decide +kernel
theorem d_Rea_takeSize_5 : decode b_Rea_takeSize 5 = .ok (.aload_n 0, 1) := by decide +kernel
theorem d_Rea_takeSize_6 : decode b_Rea_takeSize 6 = .ok (.iconst 1, 1) := by decide +kernel
theorem d_Rea_takeSize_7 : decode b_Rea_takeSize 7 = .ok (.invokevirtual 35, 3) := by decide +kernel
theorem d_Rea_takeSize_10 : decode b_Rea_takeSize 10 = .ok (.aload_n 0, 1) := by decide +kernel
theorem d_Rea_takeSize_11 : decode b_Rea_takeSize 11 = .ok (.getfield 22, 3) := by decide +kernel
theorem d_Rea_takeSize_14 : decode b_Rea_takeSize 14 = .ok (.ifCond .eq 5, 3) := by decide +kernel
theorem d_Rea_takeSize_17 : decode b_Rea_takeSize 17 = .ok (.iconst 0, 1) := by decide +kernel
theorem d_Rea_takeSize_18 : decode b_Rea_takeSize 18 = .ok (.ireturn, 1) := by decide +kernel
theorem d_Rea_takeSize_19 : decode b_Rea_takeSize 19 = .ok (.aload_n 0, 1) := by decide +kernel
theorem d_Rea_takeSize_20 : decode b_Rea_takeSize 20 = .ok (.getfield 12, 3) := by decide +kernel
theorem d_Rea_takeSize_23 : decode b_Rea_takeSize 23 = .ok (.iload_n 2, 1) := by decide +kernel
theorem d_Rea_takeSize_24 : decode b_Rea_takeSize 24 = .ok (.invokevirtual 87, 3) := by decide +kernel
theorem d_Rea_takeSize_27 : decode b_Rea_takeSize 27 = .ok (.istore_n 3, 1) := by decide +kernel
theorem d_Rea_takeSize_28 : decode b_Rea_takeSize 28 = .ok (.iload_n 3, 1) := by decide +kernel
theorem d_Rea_takeSize_29 : decode b_Rea_takeSize 29 = .ok (.invokestatic 90, 3) := by decide +kernel
theorem d_Rea_takeSize_32 : decode b_Rea_takeSize 32 = .ok (.istore 4, 2) := by decide +kernel
theorem d_Rea_takeSize_34 : decode b_Rea_takeSize 34 = .ok (.aload_n 0, 1) := by decide +kernel
theorem d_Rea_takeSize_35 : decode b_Rea_takeSize 35 = .ok (.iload 4, 2) := by decide +kernel
theorem d_Rea_takeSize_37 : decode b_Rea_takeSize 37 = .ok (.invokevirtual 35, 3) := by decide +kernel
theorem d_Rea_takeSize_40 : decode b_Rea_takeSize 40 = .ok (.aload_n 0, 1) := by decide +kernel
theorem d_Rea_takeSize_41 : decode b_Rea_takeSize 41 = .ok (.getfield 22, 3) := by decide +kernel
theorem d_Rea_takeSize_44 : decode b_Rea_takeSize 44 = .ok (.ifCond .eq 5, 3) := by decide +kernel
theorem d_Rea_takeSize_47 : decode b_Rea_takeSize 47 = .ok (.iconst 0, 1) := by decide +kernel
theorem d_Rea_takeSize_48 : decode b_Rea_takeSize 48 = .ok (.ireturn, 1) := by decide +kernel
theorem d_Rea_takeSize_49 : decode b_Rea_takeSize 49 = .ok (.iload 4, 2) := by decide +kernel
theorem d_Rea_takeSize_51 : decode b_Rea_takeSize 51 = .ok (.ifCond .ne 8, 3) := by decide +kernel
theorem d_Rea_takeSize_54 : decode b_Rea_takeSize 54 = .ok (.iload_n 3, 1) := by decide +kernel
theorem d_Rea_takeSize_55 : decode b_Rea_takeSize 55 = .ok (.i2l, 1) := by decide +kernel
theorem d_Rea_takeSize_56 : decode b_Rea_takeSize 56 = .ok (.goto 15, 3) := by decide +kernel
theorem d_Rea_takeSize_59 : decode b_Rea_takeSize 59 = .ok (.aload_n 0, 1) := by decide +kernel
theorem d_Rea_takeSize_60 : decode b_Rea_takeSize 60 = .ok (.getfield 12, 3) := by decide +kernel
theorem d_Rea_takeSize_63 : decode b_Rea_takeSize 63 = .ok (.iload_n 2, 1) := by decide +kernel
theorem d_Rea_takeSize_64 : decode b_Rea_takeSize 64 = .ok (.iconst 1, 1) := by decide +kernel
theorem d_Rea_takeSize_65 : decode b_Rea_takeSize 65 = .ok (.iadd, 1) := by decide +kernel
theorem d_Rea_takeSize_66 : decode b_Rea_takeSize 66 = .ok (.iload 4, 2) := by decide +kernel
theorem d_Rea_takeSize_68 : decode b_Rea_takeSize 68 = .ok (.invokevirtual 93, 3) := by decide +kernel
theorem d_Rea_takeSize_71 : decode b_Rea_takeSize 71 = .ok (.lstore 5, 2) := by decide +kernel
theorem d_Rea_takeSize_73 : decode b_Rea_takeSize 73 = .ok (.lload 5, 2) := by decide +kernel
theorem d_Rea_takeSize_75 : decode b_Rea_takeSize 75 = .ok (.invokestatic 97, 3) := by decide +kernel
theorem d_Rea_takeSize_78 : decode b_Rea_takeSize 78 = .ok (.iload 4, 2) := by decide +kernel
theorem d_Rea_takeSize_80 : decode b_Rea_takeSize 80 = .ok (.if_icmp .ge 11, 3) := by decide +kernel
theorem d_Rea_takeSize_83 : decode b_Rea_takeSize 83 = .ok (.aload_n 0, 1) := by decide +kernel
theorem d_Rea_takeSize_84 : decode b_Rea_takeSize 84 = .ok (.iconst 2, 1) := by decide +kernel
theorem d_Rea_takeSize_85 : decode b_Rea_takeSize 85 = .ok (.iload_n 2, 1) := by decide +kernel
theorem d_Rea_takeSize_86 : decode b_Rea_takeSize 86 = .ok (.invokevirtual 31, 3) := by decide +kernel
theorem d_Rea_takeSize_89 : decode b_Rea_takeSize 89 = .ok (.iconst 0, 1) := by decide +kernel
theorem d_Rea_takeSize_90 : decode b_Rea_takeSize 90 = .ok (.ireturn, 1) := by decide +kernel
theorem d_Rea_takeSize_91 : decode b_Rea_takeSize 91 = .ok (.lload 5, 2) := by decide +kernel
theorem d_Rea_takeSize_93 : decode b_Rea_takeSize 93 = .ok (.lconst 0, 1) := by decide +kernel
theorem d_Rea_takeSize_94 : decode b_Rea_takeSize 94 = .ok (.lcmp, 1) := by decide +kernel
theorem d_Rea_takeSize_95 : decode b_Rea_takeSize 95 = .ok (.ifCond .lt 11, 3) := by decide +kernel
theorem d_Rea_takeSize_98 : decode b_Rea_takeSize 98 = .ok (.lload 5, 2) := by decide +kernel
theorem d_Rea_takeSize_100 : decode b_Rea_takeSize 100 = .ok (.iload_n 1, 1) := by decide +kernel
theorem d_Rea_takeSize_101 : decode b_Rea_takeSize 101 = .ok (.i2l, 1) := by decide +kernel
theorem d_Rea_takeSize_102 : decode b_Rea_takeSize 102 = .ok (.lcmp, 1) := by decide +kernel
theorem d_Rea_takeSize_103 : decode b_Rea_takeSize 103 = .ok (.ifCond .le 11, 3) := by decide +kernel
theorem d_Rea_takeSize_106 : decode b_Rea_takeSize 106 = .ok (.aload_n 0, 1) := by decide +kernel
theorem d_Rea_takeSize_107 : decode b_Rea_takeSize 107 = .ok (.iconst 3, 1) := by decide +kernel
theorem d_Rea_takeSize_108 : decode b_Rea_takeSize 108 = .ok (.iload_n 2, 1) := by decide +kernel
theorem d_Rea_takeSize_109 : decode b_Rea_takeSize 109 = .ok (.invokevirtual 31, 3) := by decide +kernel
theorem d_Rea_takeSize_112 : decode b_Rea_takeSize 112 = .ok (.iconst 0, 1) := by decide +kernel
theorem d_Rea_takeSize_113 : decode b_Rea_takeSize 113 = .ok (.ireturn, 1) := by decide +kernel
theorem d_Rea_takeSize_114 : decode b_Rea_takeSize 114 = .ok (.lload 5, 2) := by decide +kernel
theorem d_Rea_takeSize_116 : decode b_Rea_takeSize 116 = .ok (.l2i, 1) := by decide +kernel
theorem d_Rea_takeSize_117 : decode b_Rea_takeSize 117 = .ok (.ireturn, 1) := by decide +kernel
abbrev b_Rea_fail : ByteArray := prog_4_method_10_code
def y_Rea_fail : MethodName := ⟨R_Rea, "fail", "(II)V"⟩
theorem d_Rea_fail_0 : decode b_Rea_fail 0 = .ok (.aload_n 0, 1) := by decide +kernel
theorem d_Rea_fail_1 : decode b_Rea_fail 1 = .ok (.getfield 22, 3) := by decide +kernel
theorem d_Rea_fail_4 : decode b_Rea_fail 4 = .ok (.ifCond .ne 13, 3) := by decide +kernel
theorem d_Rea_fail_7 : decode b_Rea_fail 7 = .ok (.aload_n 0, 1) := by decide +kernel
theorem d_Rea_fail_8 : decode b_Rea_fail 8 = .ok (.iload_n 1, 1) := by decide +kernel
theorem d_Rea_fail_9 : decode b_Rea_fail 9 = .ok (.putfield 22, 3) := by decide +kernel
theorem d_Rea_fail_12 : decode b_Rea_fail 12 = .ok (.aload_n 0, 1) := by decide +kernel
theorem d_Rea_fail_13 : decode b_Rea_fail 13 = .ok (.iload_n 2, 1) := by decide +kernel
theorem d_Rea_fail_14 : decode b_Rea_fail 14 = .ok (.putfield 25, 3) := by decide +kernel
theorem d_Rea_fail_17 : decode b_Rea_fail 17 = .ok (.return_, 1) := by decide +kernel
abbrev b_Txt_init : ByteArray := prog_5_method_1_code
def y_Txt_init : MethodName := ⟨R_Txt, "<init>", "()V"⟩
theorem d_Txt_init_0 : decode b_Txt_init 0 = .ok (.aload_n 0, 1) := by decide +kernel
theorem d_Txt_init_1 : decode b_Txt_init 1 = .ok (.invokespecial 3, 3) := by decide +kernel
theorem d_Txt_init_4 : decode b_Txt_init 4 = .ok (.aload_n 0, 1) := by decide +kernel
theorem d_Txt_init_5 : decode b_Txt_init 5 = .ok (.sipush 2000, 3) := by decide +kernel
theorem d_Txt_init_8 : decode b_Txt_init 8 = .ok (.newarray .byte, 2) := by decide +kernel
theorem d_Txt_init_10 : decode b_Txt_init 10 = .ok (.putfield 9, 3) := by decide +kernel
theorem d_Txt_init_13 : decode b_Txt_init 13 = .ok (.aload_n 0, 1) := by decide +kernel
theorem d_Txt_init_14 : decode b_Txt_init 14 = .ok (.iconst 0, 1) := by decide +kernel
theorem d_Txt_init_15 : decode b_Txt_init 15 = .ok (.putfield 15, 3) := by decide +kernel
theorem d_Txt_init_18 : decode b_Txt_init 18 = .ok (.return_, 1) := by decide +kernel
abbrev b_Txt_clear : ByteArray := prog_5_method_2_code
def y_Txt_clear : MethodName := ⟨R_Txt, "clear", "()V"⟩
theorem d_Txt_clear_0 : decode b_Txt_clear 0 = .ok (.aload_n 0, 1) := by decide +kernel
theorem d_Txt_clear_1 : decode b_Txt_clear 1 = .ok (.iconst 0, 1) := by decide +kernel
theorem d_Txt_clear_2 : decode b_Txt_clear 2 = .ok (.putfield 15, 3) := by decide +kernel
theorem d_Txt_clear_5 : decode b_Txt_clear 5 = .ok (.return_, 1) := by decide +kernel
abbrev b_Txt_copy : ByteArray := prog_5_method_3_code
def y_Txt_copy : MethodName := ⟨R_Txt, "copy", "(LWireDesk$Text;)V"⟩
theorem d_Txt_copy_0 : decode b_Txt_copy 0 = .ok (.iconst 0, 1) := by decide +kernel
theorem d_Txt_copy_1 : decode b_Txt_copy 1 = .ok (.istore_n 2, 1) := by decide +kernel
theorem d_Txt_copy_2 : decode b_Txt_copy 2 = .ok (.iload_n 2, 1) := by decide +kernel
theorem d_Txt_copy_3 : decode b_Txt_copy 3 = .ok (.aload_n 1, 1) := by decide +kernel
theorem d_Txt_copy_4 : decode b_Txt_copy 4 = .ok (.getfield 15, 3) := by decide +kernel
theorem d_Txt_copy_7 : decode b_Txt_copy 7 = .ok (.if_icmp .ge 28, 3) := by decide +kernel
theorem d_Txt_copy_10 : decode b_Txt_copy 10 = .ok (.iload_n 2, 1) := by decide +kernel
theorem d_Txt_copy_11 : decode b_Txt_copy 11 = .ok (.sipush 2000, 3) := by decide +kernel
theorem d_Txt_copy_14 : decode b_Txt_copy 14 = .ok (.if_icmp .ge 21, 3) := by decide +kernel
theorem d_Txt_copy_17 : decode b_Txt_copy 17 = .ok (.aload_n 0, 1) := by decide +kernel
theorem d_Txt_copy_18 : decode b_Txt_copy 18 = .ok (.getfield 9, 3) := by decide +kernel
theorem d_Txt_copy_21 : decode b_Txt_copy 21 = .ok (.iload_n 2, 1) := by decide +kernel
theorem d_Txt_copy_22 : decode b_Txt_copy 22 = .ok (.aload_n 1, 1) := by decide +kernel
theorem d_Txt_copy_23 : decode b_Txt_copy 23 = .ok (.getfield 9, 3) := by decide +kernel
theorem d_Txt_copy_26 : decode b_Txt_copy 26 = .ok (.iload_n 2, 1) := by decide +kernel
theorem d_Txt_copy_27 : decode b_Txt_copy 27 = .ok (.baload, 1) := by decide +kernel
theorem d_Txt_copy_28 : decode b_Txt_copy 28 = .ok (.bastore, 1) := by decide +kernel
theorem d_Txt_copy_29 : decode b_Txt_copy 29 = .ok (.iinc 2 1, 3) := by decide +kernel
theorem d_Txt_copy_32 : decode b_Txt_copy 32 = .ok (.goto (-30), 3) := by decide +kernel
theorem d_Txt_copy_35 : decode b_Txt_copy 35 = .ok (.aload_n 0, 1) := by decide +kernel
theorem d_Txt_copy_36 : decode b_Txt_copy 36 = .ok (.aload_n 1, 1) := by decide +kernel
theorem d_Txt_copy_37 : decode b_Txt_copy 37 = .ok (.getfield 15, 3) := by decide +kernel
theorem d_Txt_copy_40 : decode b_Txt_copy 40 = .ok (.putfield 15, 3) := by decide +kernel
theorem d_Txt_copy_43 : decode b_Txt_copy 43 = .ok (.return_, 1) := by decide +kernel
abbrev b_Txt_hasRoom : ByteArray := prog_5_method_4_code
def y_Txt_hasRoom : MethodName := ⟨R_Txt, "hasRoom", "(I)Z"⟩
theorem d_Txt_hasRoom_0 : decode b_Txt_hasRoom 0 = .ok (.iload_n 1, 1) := by decide +kernel
theorem d_Txt_hasRoom_1 : decode b_Txt_hasRoom 1 = .ok (.ifCond .lt 19, 3) := by decide +kernel
theorem d_Txt_hasRoom_4 : decode b_Txt_hasRoom 4 = .ok (.iload_n 1, 1) := by decide +kernel
theorem d_Txt_hasRoom_5 : decode b_Txt_hasRoom 5 = .ok (.sipush 2000, 3) := by decide +kernel
theorem d_Txt_hasRoom_8 : decode b_Txt_hasRoom 8 = .ok (.aload_n 0, 1) := by decide +kernel
theorem d_Txt_hasRoom_9 : decode b_Txt_hasRoom 9 = .ok (.getfield 15, 3) := by decide +kernel
theorem d_Txt_hasRoom_12 : decode b_Txt_hasRoom 12 = .ok (.isub, 1) := by decide +kernel
theorem d_Txt_hasRoom_13 : decode b_Txt_hasRoom 13 = .ok (.if_icmp .gt 7, 3) := by decide +kernel
theorem d_Txt_hasRoom_16 : decode b_Txt_hasRoom 16 = .ok (.iconst 1, 1) := by decide +kernel
theorem d_Txt_hasRoom_17 : decode b_Txt_hasRoom 17 = .ok (.goto 4, 3) := by decide +kernel
theorem d_Txt_hasRoom_20 : decode b_Txt_hasRoom 20 = .ok (.iconst 0, 1) := by decide +kernel
theorem d_Txt_hasRoom_21 : decode b_Txt_hasRoom 21 = .ok (.ireturn, 1) := by decide +kernel
abbrev b_Txt_addHighFirst : ByteArray := prog_5_method_5_code
def y_Txt_addHighFirst : MethodName := ⟨R_Txt, "addHighFirst", "(JI)V"⟩
theorem d_Txt_addHighFirst_0 : decode b_Txt_addHighFirst 0 = .ok (.iload_n 3, 1) := by decide +kernel
theorem d_Txt_addHighFirst_1 : decode b_Txt_addHighFirst 1 = .ok (.iconst 1, 1) := by decide +kernel
theorem d_Txt_addHighFirst_2 : decode b_Txt_addHighFirst 2 = .ok (.isub, 1) := by decide +kernel
theorem d_Txt_addHighFirst_3 : decode b_Txt_addHighFirst 3 = .ok (.istore 4, 2) := by decide +kernel
theorem d_Txt_addHighFirst_5 : decode b_Txt_addHighFirst 5 = .ok (.iload 4, 2) := by decide +kernel
theorem d_Txt_addHighFirst_7 : decode b_Txt_addHighFirst 7 = .ok (.ifCond .lt 22, 3) := by decide +kernel
theorem d_Txt_addHighFirst_10 : decode b_Txt_addHighFirst 10 = .ok (.aload_n 0, 1) := by decide +kernel
theorem d_Txt_addHighFirst_11 : decode b_Txt_addHighFirst 11 = .ok (.lload_n 1, 1) := by decide +kernel
theorem d_Txt_addHighFirst_12 : decode b_Txt_addHighFirst 12 = .ok (.bipush 8, 2) := by decide +kernel
theorem d_Txt_addHighFirst_14 : decode b_Txt_addHighFirst 14 = .ok (.iload 4, 2) := by decide +kernel
theorem d_Txt_addHighFirst_16 : decode b_Txt_addHighFirst 16 = .ok (.imul, 1) := by decide +kernel
theorem d_Txt_addHighFirst_17 : decode b_Txt_addHighFirst 17 = .ok (.lushr, 1) := by decide +kernel
theorem d_Txt_addHighFirst_18 : decode b_Txt_addHighFirst 18 = .ok (.l2i, 1) := by decide +kernel
theorem d_Txt_addHighFirst_19 : decode b_Txt_addHighFirst 19 = .ok (.i2b, 1) := by decide +kernel
theorem d_Txt_addHighFirst_20 : decode b_Txt_addHighFirst 20 = .ok (.invokevirtual 19, 3) := by decide +kernel
theorem d_Txt_addHighFirst_23 : decode b_Txt_addHighFirst 23 = .ok (.iinc 4 (-1), 3) := by decide +kernel
theorem d_Txt_addHighFirst_26 : decode b_Txt_addHighFirst 26 = .ok (.goto (-21), 3) := by decide +kernel
theorem d_Txt_addHighFirst_29 : decode b_Txt_addHighFirst 29 = .ok (.return_, 1) := by decide +kernel
abbrev b_Txt_addLowFirst : ByteArray := prog_5_method_6_code
def y_Txt_addLowFirst : MethodName := ⟨R_Txt, "addLowFirst", "(JI)V"⟩
theorem d_Txt_addLowFirst_0 : decode b_Txt_addLowFirst 0 = .ok (.iconst 0, 1) := by decide +kernel
theorem d_Txt_addLowFirst_1 : decode b_Txt_addLowFirst 1 = .ok (.istore 4, 2) := by decide +kernel
theorem d_Txt_addLowFirst_3 : decode b_Txt_addLowFirst 3 = .ok (.iload 4, 2) := by decide +kernel
theorem d_Txt_addLowFirst_5 : decode b_Txt_addLowFirst 5 = .ok (.iload_n 3, 1) := by decide +kernel
theorem d_Txt_addLowFirst_6 : decode b_Txt_addLowFirst 6 = .ok (.if_icmp .ge 22, 3) := by decide +kernel
theorem d_Txt_addLowFirst_9 : decode b_Txt_addLowFirst 9 = .ok (.aload_n 0, 1) := by decide +kernel
theorem d_Txt_addLowFirst_10 : decode b_Txt_addLowFirst 10 = .ok (.lload_n 1, 1) := by decide +kernel
theorem d_Txt_addLowFirst_11 : decode b_Txt_addLowFirst 11 = .ok (.bipush 8, 2) := by decide +kernel
theorem d_Txt_addLowFirst_13 : decode b_Txt_addLowFirst 13 = .ok (.iload 4, 2) := by decide +kernel
theorem d_Txt_addLowFirst_15 : decode b_Txt_addLowFirst 15 = .ok (.imul, 1) := by decide +kernel
theorem d_Txt_addLowFirst_16 : decode b_Txt_addLowFirst 16 = .ok (.lushr, 1) := by decide +kernel
theorem d_Txt_addLowFirst_17 : decode b_Txt_addLowFirst 17 = .ok (.l2i, 1) := by decide +kernel
theorem d_Txt_addLowFirst_18 : decode b_Txt_addLowFirst 18 = .ok (.i2b, 1) := by decide +kernel
theorem d_Txt_addLowFirst_19 : decode b_Txt_addLowFirst 19 = .ok (.invokevirtual 19, 3) := by decide +kernel
theorem d_Txt_addLowFirst_22 : decode b_Txt_addLowFirst 22 = .ok (.iinc 4 1, 3) := by decide +kernel
theorem d_Txt_addLowFirst_25 : decode b_Txt_addLowFirst 25 = .ok (.goto (-22), 3) := by decide +kernel
theorem d_Txt_addLowFirst_28 : decode b_Txt_addLowFirst 28 = .ok (.return_, 1) := by decide +kernel
abbrev b_Txt_add : ByteArray := prog_5_method_7_code
def y_Txt_add : MethodName := ⟨R_Txt, "add", "(B)V"⟩
theorem d_Txt_add_0 : decode b_Txt_add 0 = .ok (.aload_n 0, 1) := by decide +kernel
theorem d_Txt_add_1 : decode b_Txt_add 1 = .ok (.getfield 15, 3) := by decide +kernel
theorem d_Txt_add_4 : decode b_Txt_add 4 = .ok (.ifCond .lt 33, 3) := by decide +kernel
theorem d_Txt_add_7 : decode b_Txt_add 7 = .ok (.aload_n 0, 1) := by decide +kernel
theorem d_Txt_add_8 : decode b_Txt_add 8 = .ok (.getfield 15, 3) := by decide +kernel
theorem d_Txt_add_11 : decode b_Txt_add 11 = .ok (.sipush 2000, 3) := by decide +kernel
theorem d_Txt_add_14 : decode b_Txt_add 14 = .ok (.if_icmp .ge 23, 3) := by decide +kernel
theorem d_Txt_add_17 : decode b_Txt_add 17 = .ok (.aload_n 0, 1) := by decide +kernel
theorem d_Txt_add_18 : decode b_Txt_add 18 = .ok (.getfield 9, 3) := by decide +kernel
theorem d_Txt_add_21 : decode b_Txt_add 21 = .ok (.aload_n 0, 1) := by decide +kernel
theorem d_Txt_add_22 : decode b_Txt_add 22 = .ok (.getfield 15, 3) := by decide +kernel
theorem d_Txt_add_25 : decode b_Txt_add 25 = .ok (.iload_n 1, 1) := by decide +kernel
theorem d_Txt_add_26 : decode b_Txt_add 26 = .ok (.bastore, 1) := by decide +kernel
theorem d_Txt_add_27 : decode b_Txt_add 27 = .ok (.aload_n 0, 1) := by decide +kernel
theorem d_Txt_add_28 : decode b_Txt_add 28 = .ok (.dup, 1) := by decide +kernel
theorem d_Txt_add_29 : decode b_Txt_add 29 = .ok (.getfield 15, 3) := by decide +kernel
theorem d_Txt_add_32 : decode b_Txt_add 32 = .ok (.iconst 1, 1) := by decide +kernel
theorem d_Txt_add_33 : decode b_Txt_add 33 = .ok (.iadd, 1) := by decide +kernel
theorem d_Txt_add_34 : decode b_Txt_add 34 = .ok (.putfield 15, 3) := by decide +kernel
theorem d_Txt_add_37 : decode b_Txt_add 37 = .ok (.return_, 1) := by decide +kernel
abbrev b_Txt_at : ByteArray := prog_5_method_8_code
def y_Txt_at : MethodName := ⟨R_Txt, "at", "(I)I"⟩
theorem d_Txt_at_0 : decode b_Txt_at 0 = .ok (.iload_n 1, 1) := by decide +kernel
theorem d_Txt_at_1 : decode b_Txt_at 1 = .ok (.ifCond .lt 24, 3) := by decide +kernel
theorem d_Txt_at_4 : decode b_Txt_at 4 = .ok (.iload_n 1, 1) := by decide +kernel
theorem d_Txt_at_5 : decode b_Txt_at 5 = .ok (.aload_n 0, 1) := by decide +kernel
theorem d_Txt_at_6 : decode b_Txt_at 6 = .ok (.getfield 15, 3) := by decide +kernel
theorem d_Txt_at_9 : decode b_Txt_at 9 = .ok (.if_icmp .ge 16, 3) := by decide +kernel
theorem d_Txt_at_12 : decode b_Txt_at 12 = .ok (.aload_n 0, 1) := by decide +kernel
theorem d_Txt_at_13 : decode b_Txt_at 13 = .ok (.getfield 9, 3) := by decide +kernel
theorem d_Txt_at_16 : decode b_Txt_at 16 = .ok (.iload_n 1, 1) := by decide +kernel
theorem d_Txt_at_17 : decode b_Txt_at 17 = .ok (.baload, 1) := by decide +kernel
theorem d_Txt_at_18 : decode b_Txt_at 18 = .ok (.sipush 255, 3) := by decide +kernel
theorem d_Txt_at_21 : decode b_Txt_at 21 = .ok (.iand, 1) := by decide +kernel
theorem d_Txt_at_22 : decode b_Txt_at 22 = .ok (.goto 4, 3) := by decide +kernel
theorem d_Txt_at_25 : decode b_Txt_at 25 = .ok (.iconst (-1), 1) := by decide +kernel
theorem d_Txt_at_26 : decode b_Txt_at 26 = .ok (.ireturn, 1) := by decide +kernel
abbrev b_Txt_lowFirst : ByteArray := prog_5_method_9_code
def y_Txt_lowFirst : MethodName := ⟨R_Txt, "lowFirst", "(II)J"⟩
theorem d_Txt_lowFirst_0 : decode b_Txt_lowFirst 0 = .ok (.iload_n 1, 1) := by decide +kernel
theorem d_Txt_lowFirst_1 : decode b_Txt_lowFirst 1 = .ok (.ifCond .lt 17, 3) := by decide +kernel
theorem d_Txt_lowFirst_4 : decode b_Txt_lowFirst 4 = .ok (.iload_n 2, 1) := by decide +kernel
theorem d_Txt_lowFirst_5 : decode b_Txt_lowFirst 5 = .ok (.ifCond .lt 13, 3) := by decide +kernel
theorem d_Txt_lowFirst_8 : decode b_Txt_lowFirst 8 = .ok (.iload_n 1, 1) := by decide +kernel
theorem d_Txt_lowFirst_9 : decode b_Txt_lowFirst 9 = .ok (.aload_n 0, 1) := by decide +kernel
theorem d_Txt_lowFirst_10 : decode b_Txt_lowFirst 10 = .ok (.getfield 15, 3) := by decide +kernel
theorem d_Txt_lowFirst_13 : decode b_Txt_lowFirst 13 = .ok (.iload_n 2, 1) := by decide +kernel
theorem d_Txt_lowFirst_14 : decode b_Txt_lowFirst 14 = .ok (.isub, 1) := by decide +kernel
theorem d_Txt_lowFirst_15 : decode b_Txt_lowFirst 15 = .ok (.if_icmp .le 7, 3) := by decide +kernel
theorem d_Txt_lowFirst_18 : decode b_Txt_lowFirst 18 = .ok (.ldc2_w 23, 3) := by decide +kernel
theorem d_Txt_lowFirst_21 : decode b_Txt_lowFirst 21 = .ok (.lreturn, 1) := by decide +kernel
theorem d_Txt_lowFirst_22 : decode b_Txt_lowFirst 22 = .ok (.lconst 0, 1) := by decide +kernel
theorem d_Txt_lowFirst_23 : decode b_Txt_lowFirst 23 = .ok (.lstore_n 3, 1) := by decide +kernel
theorem d_Txt_lowFirst_24 : decode b_Txt_lowFirst 24 = .ok (.iload_n 2, 1) := by decide +kernel
theorem d_Txt_lowFirst_25 : decode b_Txt_lowFirst 25 = .ok (.iconst 1, 1) := by decide +kernel
theorem d_Txt_lowFirst_26 : decode b_Txt_lowFirst 26 = .ok (.isub, 1) := by decide +kernel
theorem d_Txt_lowFirst_27 : decode b_Txt_lowFirst 27 = .ok (.istore 5, 2) := by decide +kernel
theorem d_Txt_lowFirst_29 : decode b_Txt_lowFirst 29 = .ok (.iload 5, 2) := by decide +kernel
theorem d_Txt_lowFirst_31 : decode b_Txt_lowFirst 31 = .ok (.ifCond .lt 29, 3) := by decide +kernel
theorem d_Txt_lowFirst_34 : decode b_Txt_lowFirst 34 = .ok (.lload_n 3, 1) := by decide +kernel
theorem d_Txt_lowFirst_35 : decode b_Txt_lowFirst 35 = .ok (.bipush 8, 2) := by decide +kernel
theorem d_Txt_lowFirst_37 : decode b_Txt_lowFirst 37 = .ok (.lshl, 1) := by decide +kernel
theorem d_Txt_lowFirst_38 : decode b_Txt_lowFirst 38 = .ok (.aload_n 0, 1) := by decide +kernel
theorem d_Txt_lowFirst_39 : decode b_Txt_lowFirst 39 = .ok (.getfield 9, 3) := by decide +kernel
theorem d_Txt_lowFirst_42 : decode b_Txt_lowFirst 42 = .ok (.iload_n 1, 1) := by decide +kernel
theorem d_Txt_lowFirst_43 : decode b_Txt_lowFirst 43 = .ok (.iload 5, 2) := by decide +kernel
theorem d_Txt_lowFirst_45 : decode b_Txt_lowFirst 45 = .ok (.iadd, 1) := by decide +kernel
theorem d_Txt_lowFirst_46 : decode b_Txt_lowFirst 46 = .ok (.baload, 1) := by decide +kernel
theorem d_Txt_lowFirst_47 : decode b_Txt_lowFirst 47 = .ok (.sipush 255, 3) := by decide +kernel
theorem d_Txt_lowFirst_50 : decode b_Txt_lowFirst 50 = .ok (.iand, 1) := by decide +kernel
theorem d_Txt_lowFirst_51 : decode b_Txt_lowFirst 51 = .ok (.i2l, 1) := by decide +kernel
theorem d_Txt_lowFirst_52 : decode b_Txt_lowFirst 52 = .ok (.lor, 1) := by decide +kernel
theorem d_Txt_lowFirst_53 : decode b_Txt_lowFirst 53 = .ok (.lstore_n 3, 1) := by decide +kernel
theorem d_Txt_lowFirst_54 : decode b_Txt_lowFirst 54 = .ok (.iinc 5 (-1), 3) := by decide +kernel
theorem d_Txt_lowFirst_57 : decode b_Txt_lowFirst 57 = .ok (.goto (-28), 3) := by decide +kernel
theorem d_Txt_lowFirst_60 : decode b_Txt_lowFirst 60 = .ok (.lload_n 3, 1) := by decide +kernel
theorem d_Txt_lowFirst_61 : decode b_Txt_lowFirst 61 = .ok (.lreturn, 1) := by decide +kernel
abbrev b_Tra_init : ByteArray := prog_6_method_1_code
def y_Tra_init : MethodName := ⟨R_Tra, "<init>", "()V"⟩
theorem d_Tra_init_0 : decode b_Tra_init 0 = .ok (.aload_n 0, 1) := by decide +kernel
theorem d_Tra_init_1 : decode b_Tra_init 1 = .ok (.invokespecial 3, 3) := by decide +kernel
theorem d_Tra_init_4 : decode b_Tra_init 4 = .ok (.aload_n 0, 1) := by decide +kernel
theorem d_Tra_init_5 : decode b_Tra_init 5 = .ok (.iconst 0, 1) := by decide +kernel
theorem d_Tra_init_6 : decode b_Tra_init 6 = .ok (.putfield 9, 3) := by decide +kernel
theorem d_Tra_init_9 : decode b_Tra_init 9 = .ok (.aload_n 0, 1) := by decide +kernel
theorem d_Tra_init_10 : decode b_Tra_init 10 = .ok (.iconst 0, 1) := by decide +kernel
theorem d_Tra_init_11 : decode b_Tra_init 11 = .ok (.putfield 15, 3) := by decide +kernel
theorem d_Tra_init_14 : decode b_Tra_init 14 = .ok (.aload_n 0, 1) := by decide +kernel
theorem d_Tra_init_15 : decode b_Tra_init 15 = .ok (.iconst 0, 1) := by decide +kernel
theorem d_Tra_init_16 : decode b_Tra_init 16 = .ok (.putfield 18, 3) := by decide +kernel
theorem d_Tra_init_19 : decode b_Tra_init 19 = .ok (.aload_n 0, 1) := by decide +kernel
theorem d_Tra_init_20 : decode b_Tra_init 20 = .ok (.iconst 0, 1) := by decide +kernel
theorem d_Tra_init_21 : decode b_Tra_init 21 = .ok (.putfield 21, 3) := by decide +kernel
theorem d_Tra_init_24 : decode b_Tra_init 24 = .ok (.aload_n 0, 1) := by decide +kernel
theorem d_Tra_init_25 : decode b_Tra_init 25 = .ok (.bipush 8, 2) := by decide +kernel
theorem d_Tra_init_27 : decode b_Tra_init 27 = .ok (.newarray .int, 2) := by decide +kernel
theorem d_Tra_init_29 : decode b_Tra_init 29 = .ok (.putfield 24, 3) := by decide +kernel
theorem d_Tra_init_32 : decode b_Tra_init 32 = .ok (.aload_n 0, 1) := by decide +kernel
theorem d_Tra_init_33 : decode b_Tra_init 33 = .ok (.bipush 8, 2) := by decide +kernel
theorem d_Tra_init_35 : decode b_Tra_init 35 = .ok (.newarray .int, 2) := by decide +kernel
theorem d_Tra_init_37 : decode b_Tra_init 37 = .ok (.putfield 28, 3) := by decide +kernel
theorem d_Tra_init_40 : decode b_Tra_init 40 = .ok (.aload_n 0, 1) := by decide +kernel
theorem d_Tra_init_41 : decode b_Tra_init 41 = .ok (.bipush 8, 2) := by decide +kernel
theorem d_Tra_init_43 : decode b_Tra_init 43 = .ok (.newarray .int, 2) := by decide +kernel
theorem d_Tra_init_45 : decode b_Tra_init 45 = .ok (.putfield 31, 3) := by decide +kernel
theorem d_Tra_init_48 : decode b_Tra_init 48 = .ok (.aload_n 0, 1) := by decide +kernel
theorem d_Tra_init_49 : decode b_Tra_init 49 = .ok (.bipush 8, 2) := by decide +kernel
theorem d_Tra_init_51 : decode b_Tra_init 51 = .ok (.newarray .int, 2) := by decide +kernel
theorem d_Tra_init_53 : decode b_Tra_init 53 = .ok (.putfield 34, 3) := by decide +kernel
theorem d_Tra_init_56 : decode b_Tra_init 56 = .ok (.aload_n 0, 1) := by decide +kernel
theorem d_Tra_init_57 : decode b_Tra_init 57 = .ok (.bipush 8, 2) := by decide +kernel
theorem d_Tra_init_59 : decode b_Tra_init 59 = .ok (.newarray .int, 2) := by decide +kernel
theorem d_Tra_init_61 : decode b_Tra_init 61 = .ok (.putfield 37, 3) := by decide +kernel
theorem d_Tra_init_64 : decode b_Tra_init 64 = .ok (.aload_n 0, 1) := by decide +kernel
theorem d_Tra_init_65 : decode b_Tra_init 65 = .ok (.bipush 8, 2) := by decide +kernel
theorem d_Tra_init_67 : decode b_Tra_init 67 = .ok (.newarray .int, 2) := by decide +kernel
theorem d_Tra_init_69 : decode b_Tra_init 69 = .ok (.putfield 40, 3) := by decide +kernel
theorem d_Tra_init_72 : decode b_Tra_init 72 = .ok (.return_, 1) := by decide +kernel
