theorem F_Dsk_10 : j_F "WireDesk" 10 5 0 := ⟨R_Dsk, T_Dsk, 11, i_Dsk, rfl, by decide, TB_of 146 (by decide +kernel) rfl⟩
theorem Fp_Dsk_10 : j_Fp "WireDesk" 10 5 0 (.object "WireDesk$Text") true := ⟨R_Dsk, T_Dsk, 11, t_Dsk, i_Dsk, rfl, by decide, TB_of 146 (by decide +kernel) rfl, t_Dsk_ok, n_Dsk, rfl, by decide +kernel, fun _ => rfl⟩
theorem F_Dsk_19 : j_F "WireDesk" 19 5 1 := ⟨R_Dsk, T_Dsk, 11, i_Dsk, rfl, by decide, TB_of 147 (by decide +kernel) rfl⟩
theorem Fp_Dsk_19 : j_Fp "WireDesk" 19 5 1 (.object "WireDesk$Reader") true := ⟨R_Dsk, T_Dsk, 11, t_Dsk, i_Dsk, rfl, by decide, TB_of 147 (by decide +kernel) rfl, t_Dsk_ok, n_Dsk, rfl, by decide +kernel, fun _ => rfl⟩
theorem F_Dsk_23 : j_F "WireDesk" 23 2 0 := ⟨R_Rea, T_Rea, 4, i_Rea, rfl, by decide, TB_of 41 (by decide +kernel) rfl⟩
theorem F_Dsk_26 : j_F "WireDesk" 26 5 2 := ⟨R_Dsk, T_Dsk, 11, i_Dsk, rfl, by decide, TB_of 148 (by decide +kernel) rfl⟩
theorem Fp_Dsk_26 : j_Fp "WireDesk" 26 5 2 (.object "WireDesk$Text") true := ⟨R_Dsk, T_Dsk, 11, t_Dsk, i_Dsk, rfl, by decide, TB_of 148 (by decide +kernel) rfl, t_Dsk_ok, n_Dsk, rfl, by decide +kernel, fun _ => rfl⟩
theorem F_Dsk_32 : j_F "WireDesk" 32 5 3 := ⟨R_Dsk, T_Dsk, 11, i_Dsk, rfl, by decide, TB_of 149 (by decide +kernel) rfl⟩
theorem Fp_Dsk_32 : j_Fp "WireDesk" 32 5 3 (.object "WireDesk$Namer") true := ⟨R_Dsk, T_Dsk, 11, t_Dsk, i_Dsk, rfl, by decide, TB_of 149 (by decide +kernel) rfl, t_Dsk_ok, n_Dsk, rfl, by decide +kernel, fun _ => rfl⟩
theorem F_Dsk_38 : j_F "WireDesk" 38 5 4 := ⟨R_Dsk, T_Dsk, 11, i_Dsk, rfl, by decide, TB_of 150 (by decide +kernel) rfl⟩
theorem Fp_Dsk_38 : j_Fp "WireDesk" 38 5 4 (.array (.object "WireDesk$Transaction")) true := ⟨R_Dsk, T_Dsk, 11, t_Dsk, i_Dsk, rfl, by decide, TB_of 150 (by decide +kernel) rfl, t_Dsk_ok, n_Dsk, rfl, by decide +kernel, fun _ => rfl⟩
theorem F_Dsk_42 : j_F "WireDesk" 42 5 5 := ⟨R_Dsk, T_Dsk, 11, i_Dsk, rfl, by decide, TB_of 151 (by decide +kernel) rfl⟩
theorem Fp_Dsk_42 : j_Fp "WireDesk" 42 5 5 (.int) false := ⟨R_Dsk, T_Dsk, 11, t_Dsk, i_Dsk, rfl, by decide, TB_of 151 (by decide +kernel) rfl, t_Dsk_ok, n_Dsk, rfl, by decide +kernel, fun h => by cases h⟩
theorem F_Dsk_46 : j_F "WireDesk" 46 5 6 := ⟨R_Dsk, T_Dsk, 11, i_Dsk, rfl, by decide, TB_of 152 (by decide +kernel) rfl⟩
theorem Fp_Dsk_46 : j_Fp "WireDesk" 46 5 6 (.boolean) false := ⟨R_Dsk, T_Dsk, 11, t_Dsk, i_Dsk, rfl, by decide, TB_of 152 (by decide +kernel) rfl, t_Dsk_ok, n_Dsk, rfl, by decide +kernel, fun h => by cases h⟩
theorem F_Dsk_50 : j_F "WireDesk" 50 5 7 := ⟨R_Dsk, T_Dsk, 11, i_Dsk, rfl, by decide, TB_of 153 (by decide +kernel) rfl⟩
theorem Fp_Dsk_50 : j_Fp "WireDesk" 50 5 7 (.int) false := ⟨R_Dsk, T_Dsk, 11, t_Dsk, i_Dsk, rfl, by decide, TB_of 153 (by decide +kernel) rfl, t_Dsk_ok, n_Dsk, rfl, by decide +kernel, fun h => by cases h⟩
theorem F_Dsk_53 : j_F "WireDesk" 53 5 8 := ⟨R_Dsk, T_Dsk, 11, i_Dsk, rfl, by decide, TB_of 154 (by decide +kernel) rfl⟩
theorem Fp_Dsk_53 : j_Fp "WireDesk" 53 5 8 (.array .byte) true := ⟨R_Dsk, T_Dsk, 11, t_Dsk, i_Dsk, rfl, by decide, TB_of 154 (by decide +kernel) rfl, t_Dsk_ok, n_Dsk, rfl, by decide +kernel, fun _ => rfl⟩
theorem F_Dsk_57 : j_F "WireDesk" 57 5 9 := ⟨R_Dsk, T_Dsk, 11, i_Dsk, rfl, by decide, TB_of 155 (by decide +kernel) rfl⟩
theorem Fp_Dsk_57 : j_Fp "WireDesk" 57 5 9 (.array .byte) true := ⟨R_Dsk, T_Dsk, 11, t_Dsk, i_Dsk, rfl, by decide, TB_of 155 (by decide +kernel) rfl, t_Dsk_ok, n_Dsk, rfl, by decide +kernel, fun _ => rfl⟩
theorem F_Dsk_63 : j_F "WireDesk" 63 5 10 := ⟨R_Dsk, T_Dsk, 11, i_Dsk, rfl, by decide, TB_of 156 (by decide +kernel) rfl⟩
theorem Fp_Dsk_63 : j_Fp "WireDesk" 63 5 10 (.object "WireDesk$NameRow") true := ⟨R_Dsk, T_Dsk, 11, t_Dsk, i_Dsk, rfl, by decide, TB_of 156 (by decide +kernel) rfl, t_Dsk_ok, n_Dsk, rfl, by decide +kernel, fun _ => rfl⟩
theorem F_Dsk_108 : j_F "WireDesk" 108 2 3 := ⟨R_Rea, T_Rea, 4, i_Rea, rfl, by decide, TB_of 46 (by decide +kernel) rfl⟩
theorem F_Dsk_109 : j_F "WireDesk" 109 2 2 := ⟨R_Rea, T_Rea, 4, i_Rea, rfl, by decide, TB_of 44 (by decide +kernel) rfl⟩
theorem F_Dsk_118 : j_F "WireDesk" 118 3 0 := ⟨R_Txt, T_Txt, 2, i_Txt, rfl, by decide, TB_of 23 (by decide +kernel) rfl⟩
theorem F_Dsk_141 : j_F "WireDesk" 141 4 0 := ⟨R_Tra, T_Tra, 10, i_Tra, rfl, by decide, TB_of 97 (by decide +kernel) rfl⟩
theorem F_Dsk_143 : j_F "WireDesk" 143 4 2 := ⟨R_Tra, T_Tra, 10, i_Tra, rfl, by decide, TB_of 103 (by decide +kernel) rfl⟩
theorem F_Dsk_146 : j_F "WireDesk" 146 4 3 := ⟨R_Tra, T_Tra, 10, i_Tra, rfl, by decide, TB_of 106 (by decide +kernel) rfl⟩
theorem F_Dsk_149 : j_F "WireDesk" 149 4 1 := ⟨R_Tra, T_Tra, 10, i_Tra, rfl, by decide, TB_of 100 (by decide +kernel) rfl⟩
theorem F_Dsk_152 : j_F "WireDesk" 152 4 4 := ⟨R_Tra, T_Tra, 10, i_Tra, rfl, by decide, TB_of 109 (by decide +kernel) rfl⟩
theorem F_Dsk_156 : j_F "WireDesk" 156 4 5 := ⟨R_Tra, T_Tra, 10, i_Tra, rfl, by decide, TB_of 112 (by decide +kernel) rfl⟩
theorem F_Dsk_159 : j_F "WireDesk" 159 4 6 := ⟨R_Tra, T_Tra, 10, i_Tra, rfl, by decide, TB_of 115 (by decide +kernel) rfl⟩
theorem F_Dsk_162 : j_F "WireDesk" 162 4 7 := ⟨R_Tra, T_Tra, 10, i_Tra, rfl, by decide, TB_of 118 (by decide +kernel) rfl⟩
theorem F_Dsk_165 : j_F "WireDesk" 165 4 8 := ⟨R_Tra, T_Tra, 10, i_Tra, rfl, by decide, TB_of 121 (by decide +kernel) rfl⟩
theorem F_Dsk_168 : j_F "WireDesk" 168 4 9 := ⟨R_Tra, T_Tra, 10, i_Tra, rfl, by decide, TB_of 124 (by decide +kernel) rfl⟩
theorem F_Dsk_175 : j_F "WireDesk" 175 0 0 := ⟨R_Row, T_Row, 2, i_Row, rfl, by decide, TB_of 82 (by decide +kernel) rfl⟩
theorem F_Dsk_178 : j_F "WireDesk" 178 0 1 := ⟨R_Row, T_Row, 2, i_Row, rfl, by decide, TB_of 84 (by decide +kernel) rfl⟩
theorem F_Row_9 : j_F "WireDesk$NameRow" 9 0 0 := ⟨R_Row, T_Row, 2, i_Row, rfl, by decide, TB_of 81 (by decide +kernel) rfl⟩
theorem Fp_Row_9 : j_Fp "WireDesk$NameRow" 9 0 0 (.array .byte) true := ⟨R_Row, T_Row, 2, t_Row, i_Row, rfl, by decide, TB_of 81 (by decide +kernel) rfl, t_Row_ok, n_Row, rfl, by decide +kernel, fun _ => rfl⟩
theorem F_Row_15 : j_F "WireDesk$NameRow" 15 0 1 := ⟨R_Row, T_Row, 2, i_Row, rfl, by decide, TB_of 83 (by decide +kernel) rfl⟩
theorem Fp_Row_15 : j_Fp "WireDesk$NameRow" 15 0 1 (.boolean) false := ⟨R_Row, T_Row, 2, t_Row, i_Row, rfl, by decide, TB_of 83 (by decide +kernel) rfl, t_Row_ok, n_Row, rfl, by decide +kernel, fun h => by cases h⟩
theorem F_Nam_9 : j_F "WireDesk$Namer" 9 1 0 := ⟨R_Nam, T_Nam, 3, i_Nam, rfl, by decide, TB_of 62 (by decide +kernel) rfl⟩
theorem Fp_Nam_9 : j_Fp "WireDesk$Namer" 9 1 0 (.array .int) true := ⟨R_Nam, T_Nam, 3, t_Nam, i_Nam, rfl, by decide, TB_of 62 (by decide +kernel) rfl, t_Nam_ok, n_Nam, rfl, by decide +kernel, fun _ => rfl⟩
theorem F_Nam_15 : j_F "WireDesk$Namer" 15 1 1 := ⟨R_Nam, T_Nam, 3, i_Nam, rfl, by decide, TB_of 63 (by decide +kernel) rfl⟩
theorem Fp_Nam_15 : j_Fp "WireDesk$Namer" 15 1 1 (.array .int) true := ⟨R_Nam, T_Nam, 3, t_Nam, i_Nam, rfl, by decide, TB_of 63 (by decide +kernel) rfl, t_Nam_ok, n_Nam, rfl, by decide +kernel, fun _ => rfl⟩
theorem F_Nam_18 : j_F "WireDesk$Namer" 18 1 2 := ⟨R_Nam, T_Nam, 3, i_Nam, rfl, by decide, TB_of 64 (by decide +kernel) rfl⟩
theorem Fp_Nam_18 : j_Fp "WireDesk$Namer" 18 1 2 (.array .byte) true := ⟨R_Nam, T_Nam, 3, t_Nam, i_Nam, rfl, by decide, TB_of 64 (by decide +kernel) rfl, t_Nam_ok, n_Nam, rfl, by decide +kernel, fun _ => rfl⟩
theorem F_Rea_12 : j_F "WireDesk$Reader" 12 2 0 := ⟨R_Rea, T_Rea, 4, i_Rea, rfl, by decide, TB_of 40 (by decide +kernel) rfl⟩
theorem Fp_Rea_12 : j_Fp "WireDesk$Reader" 12 2 0 (.object "WireDesk$Text") true := ⟨R_Rea, T_Rea, 4, t_Rea, i_Rea, rfl, by decide, TB_of 40 (by decide +kernel) rfl, t_Rea_ok, n_Rea, rfl, by decide +kernel, fun _ => rfl⟩
theorem F_Rea_18 : j_F "WireDesk$Reader" 18 2 1 := ⟨R_Rea, T_Rea, 4, i_Rea, rfl, by decide, TB_of 42 (by decide +kernel) rfl⟩
theorem Fp_Rea_18 : j_Fp "WireDesk$Reader" 18 2 1 (.int) false := ⟨R_Rea, T_Rea, 4, t_Rea, i_Rea, rfl, by decide, TB_of 42 (by decide +kernel) rfl, t_Rea_ok, n_Rea, rfl, by decide +kernel, fun h => by cases h⟩
theorem F_Rea_22 : j_F "WireDesk$Reader" 22 2 2 := ⟨R_Rea, T_Rea, 4, i_Rea, rfl, by decide, TB_of 43 (by decide +kernel) rfl⟩
theorem Fp_Rea_22 : j_Fp "WireDesk$Reader" 22 2 2 (.int) false := ⟨R_Rea, T_Rea, 4, t_Rea, i_Rea, rfl, by decide, TB_of 43 (by decide +kernel) rfl, t_Rea_ok, n_Rea, rfl, by decide +kernel, fun h => by cases h⟩
theorem F_Rea_25 : j_F "WireDesk$Reader" 25 2 3 := ⟨R_Rea, T_Rea, 4, i_Rea, rfl, by decide, TB_of 45 (by decide +kernel) rfl⟩
theorem Fp_Rea_25 : j_Fp "WireDesk$Reader" 25 2 3 (.int) false := ⟨R_Rea, T_Rea, 4, t_Rea, i_Rea, rfl, by decide, TB_of 45 (by decide +kernel) rfl, t_Rea_ok, n_Rea, rfl, by decide +kernel, fun h => by cases h⟩
theorem F_Rea_28 : j_F "WireDesk$Reader" 28 3 1 := ⟨R_Txt, T_Txt, 2, i_Txt, rfl, by decide, TB_of 25 (by decide +kernel) rfl⟩
theorem F_Rea_47 : j_F "WireDesk$Reader" 47 4 0 := ⟨R_Tra, T_Tra, 10, i_Tra, rfl, by decide, TB_of 96 (by decide +kernel) rfl⟩
theorem Fp_Rea_47 : j_Fp "WireDesk$Reader" 47 4 0 (.int) false := ⟨R_Tra, T_Tra, 10, t_Tra, i_Tra, rfl, by decide, TB_of 96 (by decide +kernel) rfl, t_Tra_ok, n_Tra, rfl, by decide +kernel, fun h => by cases h⟩
theorem F_Rea_52 : j_F "WireDesk$Reader" 52 4 2 := ⟨R_Tra, T_Tra, 10, i_Tra, rfl, by decide, TB_of 102 (by decide +kernel) rfl⟩
theorem Fp_Rea_52 : j_Fp "WireDesk$Reader" 52 4 2 (.int) false := ⟨R_Tra, T_Tra, 10, t_Tra, i_Tra, rfl, by decide, TB_of 102 (by decide +kernel) rfl, t_Tra_ok, n_Tra, rfl, by decide +kernel, fun h => by cases h⟩
theorem F_Rea_59 : j_F "WireDesk$Reader" 59 4 3 := ⟨R_Tra, T_Tra, 10, i_Tra, rfl, by decide, TB_of 105 (by decide +kernel) rfl⟩
theorem Fp_Rea_59 : j_Fp "WireDesk$Reader" 59 4 3 (.int) false := ⟨R_Tra, T_Tra, 10, t_Tra, i_Tra, rfl, by decide, TB_of 105 (by decide +kernel) rfl, t_Tra_ok, n_Tra, rfl, by decide +kernel, fun h => by cases h⟩
theorem F_Rea_65 : j_F "WireDesk$Reader" 65 4 1 := ⟨R_Tra, T_Tra, 10, i_Tra, rfl, by decide, TB_of 99 (by decide +kernel) rfl⟩
theorem Fp_Rea_65 : j_Fp "WireDesk$Reader" 65 4 1 (.int) false := ⟨R_Tra, T_Tra, 10, t_Tra, i_Tra, rfl, by decide, TB_of 99 (by decide +kernel) rfl, t_Tra_ok, n_Tra, rfl, by decide +kernel, fun h => by cases h⟩
theorem F_Rea_68 : j_F "WireDesk$Reader" 68 4 4 := ⟨R_Tra, T_Tra, 10, i_Tra, rfl, by decide, TB_of 108 (by decide +kernel) rfl⟩
theorem F_Rea_72 : j_F "WireDesk$Reader" 72 4 5 := ⟨R_Tra, T_Tra, 10, i_Tra, rfl, by decide, TB_of 111 (by decide +kernel) rfl⟩
theorem F_Rea_75 : j_F "WireDesk$Reader" 75 4 6 := ⟨R_Tra, T_Tra, 10, i_Tra, rfl, by decide, TB_of 114 (by decide +kernel) rfl⟩
theorem F_Rea_78 : j_F "WireDesk$Reader" 78 4 7 := ⟨R_Tra, T_Tra, 10, i_Tra, rfl, by decide, TB_of 117 (by decide +kernel) rfl⟩
theorem F_Rea_81 : j_F "WireDesk$Reader" 81 4 8 := ⟨R_Tra, T_Tra, 10, i_Tra, rfl, by decide, TB_of 120 (by decide +kernel) rfl⟩
theorem F_Rea_84 : j_F "WireDesk$Reader" 84 4 9 := ⟨R_Tra, T_Tra, 10, i_Tra, rfl, by decide, TB_of 123 (by decide +kernel) rfl⟩
theorem F_Txt_9 : j_F "WireDesk$Text" 9 3 0 := ⟨R_Txt, T_Txt, 2, i_Txt, rfl, by decide, TB_of 22 (by decide +kernel) rfl⟩
theorem Fp_Txt_9 : j_Fp "WireDesk$Text" 9 3 0 (.array .byte) true := ⟨R_Txt, T_Txt, 2, t_Txt, i_Txt, rfl, by decide, TB_of 22 (by decide +kernel) rfl, t_Txt_ok, n_Txt, rfl, by decide +kernel, fun _ => rfl⟩
theorem F_Txt_15 : j_F "WireDesk$Text" 15 3 1 := ⟨R_Txt, T_Txt, 2, i_Txt, rfl, by decide, TB_of 24 (by decide +kernel) rfl⟩
theorem Fp_Txt_15 : j_Fp "WireDesk$Text" 15 3 1 (.int) false := ⟨R_Txt, T_Txt, 2, t_Txt, i_Txt, rfl, by decide, TB_of 24 (by decide +kernel) rfl, t_Txt_ok, n_Txt, rfl, by decide +kernel, fun h => by cases h⟩
theorem F_Tra_9 : j_F "WireDesk$Transaction" 9 4 0 := ⟨R_Tra, T_Tra, 10, i_Tra, rfl, by decide, TB_of 95 (by decide +kernel) rfl⟩
theorem Fp_Tra_9 : j_Fp "WireDesk$Transaction" 9 4 0 (.int) false := ⟨R_Tra, T_Tra, 10, t_Tra, i_Tra, rfl, by decide, TB_of 95 (by decide +kernel) rfl, t_Tra_ok, n_Tra, rfl, by decide +kernel, fun h => by cases h⟩
theorem F_Tra_15 : j_F "WireDesk$Transaction" 15 4 1 := ⟨R_Tra, T_Tra, 10, i_Tra, rfl, by decide, TB_of 98 (by decide +kernel) rfl⟩
theorem Fp_Tra_15 : j_Fp "WireDesk$Transaction" 15 4 1 (.int) false := ⟨R_Tra, T_Tra, 10, t_Tra, i_Tra, rfl, by decide, TB_of 98 (by decide +kernel) rfl, t_Tra_ok, n_Tra, rfl, by decide +kernel, fun h => by cases h⟩
theorem F_Tra_18 : j_F "WireDesk$Transaction" 18 4 2 := ⟨R_Tra, T_Tra, 10, i_Tra, rfl, by decide, TB_of 101 (by decide +kernel) rfl⟩
theorem Fp_Tra_18 : j_Fp "WireDesk$Transaction" 18 4 2 (.int) false := ⟨R_Tra, T_Tra, 10, t_Tra, i_Tra, rfl, by decide, TB_of 101 (by decide +kernel) rfl, t_Tra_ok, n_Tra, rfl, by decide +kernel, fun h => by cases h⟩
theorem F_Tra_21 : j_F "WireDesk$Transaction" 21 4 3 := ⟨R_Tra, T_Tra, 10, i_Tra, rfl, by decide, TB_of 104 (by decide +kernel) rfl⟩
theorem Fp_Tra_21 : j_Fp "WireDesk$Transaction" 21 4 3 (.int) false := ⟨R_Tra, T_Tra, 10, t_Tra, i_Tra, rfl, by decide, TB_of 104 (by decide +kernel) rfl, t_Tra_ok, n_Tra, rfl, by decide +kernel, fun h => by cases h⟩
theorem F_Tra_24 : j_F "WireDesk$Transaction" 24 4 4 := ⟨R_Tra, T_Tra, 10, i_Tra, rfl, by decide, TB_of 107 (by decide +kernel) rfl⟩
theorem Fp_Tra_24 : j_Fp "WireDesk$Transaction" 24 4 4 (.array .int) true := ⟨R_Tra, T_Tra, 10, t_Tra, i_Tra, rfl, by decide, TB_of 107 (by decide +kernel) rfl, t_Tra_ok, n_Tra, rfl, by decide +kernel, fun _ => rfl⟩
theorem F_Tra_28 : j_F "WireDesk$Transaction" 28 4 5 := ⟨R_Tra, T_Tra, 10, i_Tra, rfl, by decide, TB_of 110 (by decide +kernel) rfl⟩
theorem Fp_Tra_28 : j_Fp "WireDesk$Transaction" 28 4 5 (.array .int) true := ⟨R_Tra, T_Tra, 10, t_Tra, i_Tra, rfl, by decide, TB_of 110 (by decide +kernel) rfl, t_Tra_ok, n_Tra, rfl, by decide +kernel, fun _ => rfl⟩
theorem F_Tra_31 : j_F "WireDesk$Transaction" 31 4 6 := ⟨R_Tra, T_Tra, 10, i_Tra, rfl, by decide, TB_of 113 (by decide +kernel) rfl⟩
theorem Fp_Tra_31 : j_Fp "WireDesk$Transaction" 31 4 6 (.array .int) true := ⟨R_Tra, T_Tra, 10, t_Tra, i_Tra, rfl, by decide, TB_of 113 (by decide +kernel) rfl, t_Tra_ok, n_Tra, rfl, by decide +kernel, fun _ => rfl⟩
theorem F_Tra_34 : j_F "WireDesk$Transaction" 34 4 7 := ⟨R_Tra, T_Tra, 10, i_Tra, rfl, by decide, TB_of 116 (by decide +kernel) rfl⟩
theorem Fp_Tra_34 : j_Fp "WireDesk$Transaction" 34 4 7 (.array .int) true := ⟨R_Tra, T_Tra, 10, t_Tra, i_Tra, rfl, by decide, TB_of 116 (by decide +kernel) rfl, t_Tra_ok, n_Tra, rfl, by decide +kernel, fun _ => rfl⟩
theorem F_Tra_37 : j_F "WireDesk$Transaction" 37 4 8 := ⟨R_Tra, T_Tra, 10, i_Tra, rfl, by decide, TB_of 119 (by decide +kernel) rfl⟩
theorem Fp_Tra_37 : j_Fp "WireDesk$Transaction" 37 4 8 (.array .int) true := ⟨R_Tra, T_Tra, 10, t_Tra, i_Tra, rfl, by decide, TB_of 119 (by decide +kernel) rfl, t_Tra_ok, n_Tra, rfl, by decide +kernel, fun _ => rfl⟩
theorem F_Tra_40 : j_F "WireDesk$Transaction" 40 4 9 := ⟨R_Tra, T_Tra, 10, i_Tra, rfl, by decide, TB_of 122 (by decide +kernel) rfl⟩
theorem Fp_Tra_40 : j_Fp "WireDesk$Transaction" 40 4 9 (.array .int) true := ⟨R_Tra, T_Tra, 10, t_Tra, i_Tra, rfl, by decide, TB_of 122 (by decide +kernel) rfl, t_Tra_ok, n_Tra, rfl, by decide +kernel, fun _ => rfl⟩
theorem F_Mod_7 : j_F "WireDeskModel" 7 6 0 := ⟨R_Mod, T_Mod, 32, i_Mod, rfl, by decide, TB_of 394 (by decide +kernel) rfl⟩
theorem Fp_Mod_7 : j_Fp "WireDeskModel" 7 6 0 (.array .int) true := ⟨R_Mod, T_Mod, 32, t_Mod, i_Mod, rfl, by decide, TB_of 394 (by decide +kernel) rfl, t_Mod_ok, n_Mod, rfl, by decide +kernel, fun _ => rfl⟩
theorem F_Mod_13 : j_F "WireDeskModel" 13 6 2 := ⟨R_Mod, T_Mod, 32, i_Mod, rfl, by decide, TB_of 396 (by decide +kernel) rfl⟩
theorem Fp_Mod_13 : j_Fp "WireDeskModel" 13 6 2 (.array .int) true := ⟨R_Mod, T_Mod, 32, t_Mod, i_Mod, rfl, by decide, TB_of 396 (by decide +kernel) rfl, t_Mod_ok, n_Mod, rfl, by decide +kernel, fun _ => rfl⟩
theorem F_Mod_16 : j_F "WireDeskModel" 16 6 6 := ⟨R_Mod, T_Mod, 32, i_Mod, rfl, by decide, TB_of 400 (by decide +kernel) rfl⟩
theorem Fp_Mod_16 : j_Fp "WireDeskModel" 16 6 6 (.int) false := ⟨R_Mod, T_Mod, 32, t_Mod, i_Mod, rfl, by decide, TB_of 400 (by decide +kernel) rfl, t_Mod_ok, n_Mod, rfl, by decide +kernel, fun h => by cases h⟩
theorem F_Mod_20 : j_F "WireDeskModel" 20 6 10 := ⟨R_Mod, T_Mod, 32, i_Mod, rfl, by decide, TB_of 404 (by decide +kernel) rfl⟩
theorem Fp_Mod_20 : j_Fp "WireDeskModel" 20 6 10 (.array .int) true := ⟨R_Mod, T_Mod, 32, t_Mod, i_Mod, rfl, by decide, TB_of 404 (by decide +kernel) rfl, t_Mod_ok, n_Mod, rfl, by decide +kernel, fun _ => rfl⟩
theorem F_Mod_23 : j_F "WireDeskModel" 23 6 11 := ⟨R_Mod, T_Mod, 32, i_Mod, rfl, by decide, TB_of 405 (by decide +kernel) rfl⟩
theorem Fp_Mod_23 : j_Fp "WireDeskModel" 23 6 11 (.array .int) true := ⟨R_Mod, T_Mod, 32, t_Mod, i_Mod, rfl, by decide, TB_of 405 (by decide +kernel) rfl, t_Mod_ok, n_Mod, rfl, by decide +kernel, fun _ => rfl⟩
theorem F_Mod_26 : j_F "WireDeskModel" 26 6 12 := ⟨R_Mod, T_Mod, 32, i_Mod, rfl, by decide, TB_of 406 (by decide +kernel) rfl⟩
theorem Fp_Mod_26 : j_Fp "WireDeskModel" 26 6 12 (.array .int) true := ⟨R_Mod, T_Mod, 32, t_Mod, i_Mod, rfl, by decide, TB_of 406 (by decide +kernel) rfl, t_Mod_ok, n_Mod, rfl, by decide +kernel, fun _ => rfl⟩
theorem F_Mod_29 : j_F "WireDeskModel" 29 6 13 := ⟨R_Mod, T_Mod, 32, i_Mod, rfl, by decide, TB_of 407 (by decide +kernel) rfl⟩
theorem Fp_Mod_29 : j_Fp "WireDeskModel" 29 6 13 (.array .int) true := ⟨R_Mod, T_Mod, 32, t_Mod, i_Mod, rfl, by decide, TB_of 407 (by decide +kernel) rfl, t_Mod_ok, n_Mod, rfl, by decide +kernel, fun _ => rfl⟩
theorem F_Mod_32 : j_F "WireDeskModel" 32 6 14 := ⟨R_Mod, T_Mod, 32, i_Mod, rfl, by decide, TB_of 408 (by decide +kernel) rfl⟩
theorem Fp_Mod_32 : j_Fp "WireDeskModel" 32 6 14 (.array .int) true := ⟨R_Mod, T_Mod, 32, t_Mod, i_Mod, rfl, by decide, TB_of 408 (by decide +kernel) rfl, t_Mod_ok, n_Mod, rfl, by decide +kernel, fun _ => rfl⟩
theorem F_Mod_35 : j_F "WireDeskModel" 35 6 15 := ⟨R_Mod, T_Mod, 32, i_Mod, rfl, by decide, TB_of 409 (by decide +kernel) rfl⟩
theorem Fp_Mod_35 : j_Fp "WireDeskModel" 35 6 15 (.array .int) true := ⟨R_Mod, T_Mod, 32, t_Mod, i_Mod, rfl, by decide, TB_of 409 (by decide +kernel) rfl, t_Mod_ok, n_Mod, rfl, by decide +kernel, fun _ => rfl⟩
theorem F_Mod_38 : j_F "WireDeskModel" 38 6 16 := ⟨R_Mod, T_Mod, 32, i_Mod, rfl, by decide, TB_of 410 (by decide +kernel) rfl⟩
theorem Fp_Mod_38 : j_Fp "WireDeskModel" 38 6 16 (.array .int) true := ⟨R_Mod, T_Mod, 32, t_Mod, i_Mod, rfl, by decide, TB_of 410 (by decide +kernel) rfl, t_Mod_ok, n_Mod, rfl, by decide +kernel, fun _ => rfl⟩
theorem F_Mod_41 : j_F "WireDeskModel" 41 6 17 := ⟨R_Mod, T_Mod, 32, i_Mod, rfl, by decide, TB_of 411 (by decide +kernel) rfl⟩
theorem Fp_Mod_41 : j_Fp "WireDeskModel" 41 6 17 (.array .int) true := ⟨R_Mod, T_Mod, 32, t_Mod, i_Mod, rfl, by decide, TB_of 411 (by decide +kernel) rfl, t_Mod_ok, n_Mod, rfl, by decide +kernel, fun _ => rfl⟩
theorem F_Mod_44 : j_F "WireDeskModel" 44 6 18 := ⟨R_Mod, T_Mod, 32, i_Mod, rfl, by decide, TB_of 412 (by decide +kernel) rfl⟩
theorem Fp_Mod_44 : j_Fp "WireDeskModel" 44 6 18 (.array .int) true := ⟨R_Mod, T_Mod, 32, t_Mod, i_Mod, rfl, by decide, TB_of 412 (by decide +kernel) rfl, t_Mod_ok, n_Mod, rfl, by decide +kernel, fun _ => rfl⟩
theorem F_Mod_47 : j_F "WireDeskModel" 47 6 19 := ⟨R_Mod, T_Mod, 32, i_Mod, rfl, by decide, TB_of 413 (by decide +kernel) rfl⟩
theorem Fp_Mod_47 : j_Fp "WireDeskModel" 47 6 19 (.array .int) true := ⟨R_Mod, T_Mod, 32, t_Mod, i_Mod, rfl, by decide, TB_of 413 (by decide +kernel) rfl, t_Mod_ok, n_Mod, rfl, by decide +kernel, fun _ => rfl⟩
theorem F_Mod_50 : j_F "WireDeskModel" 50 6 20 := ⟨R_Mod, T_Mod, 32, i_Mod, rfl, by decide, TB_of 414 (by decide +kernel) rfl⟩
theorem Fp_Mod_50 : j_Fp "WireDeskModel" 50 6 20 (.array .int) true := ⟨R_Mod, T_Mod, 32, t_Mod, i_Mod, rfl, by decide, TB_of 414 (by decide +kernel) rfl, t_Mod_ok, n_Mod, rfl, by decide +kernel, fun _ => rfl⟩
theorem F_Mod_53 : j_F "WireDeskModel" 53 6 21 := ⟨R_Mod, T_Mod, 32, i_Mod, rfl, by decide, TB_of 415 (by decide +kernel) rfl⟩
theorem Fp_Mod_53 : j_Fp "WireDeskModel" 53 6 21 (.array .int) true := ⟨R_Mod, T_Mod, 32, t_Mod, i_Mod, rfl, by decide, TB_of 415 (by decide +kernel) rfl, t_Mod_ok, n_Mod, rfl, by decide +kernel, fun _ => rfl⟩
theorem F_Mod_56 : j_F "WireDeskModel" 56 6 22 := ⟨R_Mod, T_Mod, 32, i_Mod, rfl, by decide, TB_of 416 (by decide +kernel) rfl⟩
theorem Fp_Mod_56 : j_Fp "WireDeskModel" 56 6 22 (.array .int) true := ⟨R_Mod, T_Mod, 32, t_Mod, i_Mod, rfl, by decide, TB_of 416 (by decide +kernel) rfl, t_Mod_ok, n_Mod, rfl, by decide +kernel, fun _ => rfl⟩
theorem F_Mod_59 : j_F "WireDeskModel" 59 6 24 := ⟨R_Mod, T_Mod, 32, i_Mod, rfl, by decide, TB_of 418 (by decide +kernel) rfl⟩
theorem Fp_Mod_59 : j_Fp "WireDeskModel" 59 6 24 (.array .int) true := ⟨R_Mod, T_Mod, 32, t_Mod, i_Mod, rfl, by decide, TB_of 418 (by decide +kernel) rfl, t_Mod_ok, n_Mod, rfl, by decide +kernel, fun _ => rfl⟩
theorem F_Mod_62 : j_F "WireDeskModel" 62 6 25 := ⟨R_Mod, T_Mod, 32, i_Mod, rfl, by decide, TB_of 419 (by decide +kernel) rfl⟩
theorem Fp_Mod_62 : j_Fp "WireDeskModel" 62 6 25 (.array .int) true := ⟨R_Mod, T_Mod, 32, t_Mod, i_Mod, rfl, by decide, TB_of 419 (by decide +kernel) rfl, t_Mod_ok, n_Mod, rfl, by decide +kernel, fun _ => rfl⟩
theorem F_Mod_65 : j_F "WireDeskModel" 65 6 26 := ⟨R_Mod, T_Mod, 32, i_Mod, rfl, by decide, TB_of 420 (by decide +kernel) rfl⟩
theorem Fp_Mod_65 : j_Fp "WireDeskModel" 65 6 26 (.array .long) true := ⟨R_Mod, T_Mod, 32, t_Mod, i_Mod, rfl, by decide, TB_of 420 (by decide +kernel) rfl, t_Mod_ok, n_Mod, rfl, by decide +kernel, fun _ => rfl⟩
theorem F_Mod_69 : j_F "WireDeskModel" 69 6 27 := ⟨R_Mod, T_Mod, 32, i_Mod, rfl, by decide, TB_of 421 (by decide +kernel) rfl⟩
theorem Fp_Mod_69 : j_Fp "WireDeskModel" 69 6 27 (.array .long) true := ⟨R_Mod, T_Mod, 32, t_Mod, i_Mod, rfl, by decide, TB_of 421 (by decide +kernel) rfl, t_Mod_ok, n_Mod, rfl, by decide +kernel, fun _ => rfl⟩
theorem F_Mod_72 : j_F "WireDeskModel" 72 6 28 := ⟨R_Mod, T_Mod, 32, i_Mod, rfl, by decide, TB_of 422 (by decide +kernel) rfl⟩
theorem Fp_Mod_72 : j_Fp "WireDeskModel" 72 6 28 (.array .long) true := ⟨R_Mod, T_Mod, 32, t_Mod, i_Mod, rfl, by decide, TB_of 422 (by decide +kernel) rfl, t_Mod_ok, n_Mod, rfl, by decide +kernel, fun _ => rfl⟩
theorem F_Mod_75 : j_F "WireDeskModel" 75 6 29 := ⟨R_Mod, T_Mod, 32, i_Mod, rfl, by decide, TB_of 423 (by decide +kernel) rfl⟩
theorem Fp_Mod_75 : j_Fp "WireDeskModel" 75 6 29 (.array .long) true := ⟨R_Mod, T_Mod, 32, t_Mod, i_Mod, rfl, by decide, TB_of 423 (by decide +kernel) rfl, t_Mod_ok, n_Mod, rfl, by decide +kernel, fun _ => rfl⟩
theorem F_Mod_78 : j_F "WireDeskModel" 78 6 30 := ⟨R_Mod, T_Mod, 32, i_Mod, rfl, by decide, TB_of 424 (by decide +kernel) rfl⟩
theorem Fp_Mod_78 : j_Fp "WireDeskModel" 78 6 30 (.array .long) true := ⟨R_Mod, T_Mod, 32, t_Mod, i_Mod, rfl, by decide, TB_of 424 (by decide +kernel) rfl, t_Mod_ok, n_Mod, rfl, by decide +kernel, fun _ => rfl⟩
theorem F_Mod_81 : j_F "WireDeskModel" 81 6 31 := ⟨R_Mod, T_Mod, 32, i_Mod, rfl, by decide, TB_of 425 (by decide +kernel) rfl⟩
theorem Fp_Mod_81 : j_Fp "WireDeskModel" 81 6 31 (.array .long) true := ⟨R_Mod, T_Mod, 32, t_Mod, i_Mod, rfl, by decide, TB_of 425 (by decide +kernel) rfl, t_Mod_ok, n_Mod, rfl, by decide +kernel, fun _ => rfl⟩
theorem F_Mod_130 : j_F "WireDeskModel" 130 6 5 := ⟨R_Mod, T_Mod, 32, i_Mod, rfl, by decide, TB_of 399 (by decide +kernel) rfl⟩
theorem Fp_Mod_130 : j_Fp "WireDeskModel" 130 6 5 (.int) false := ⟨R_Mod, T_Mod, 32, t_Mod, i_Mod, rfl, by decide, TB_of 399 (by decide +kernel) rfl, t_Mod_ok, n_Mod, rfl, by decide +kernel, fun h => by cases h⟩
theorem F_Mod_133 : j_F "WireDeskModel" 133 6 23 := ⟨R_Mod, T_Mod, 32, i_Mod, rfl, by decide, TB_of 417 (by decide +kernel) rfl⟩
theorem Fp_Mod_133 : j_Fp "WireDeskModel" 133 6 23 (.boolean) false := ⟨R_Mod, T_Mod, 32, t_Mod, i_Mod, rfl, by decide, TB_of 417 (by decide +kernel) rfl, t_Mod_ok, n_Mod, rfl, by decide +kernel, fun h => by cases h⟩
theorem F_Mod_137 : j_F "WireDeskModel" 137 6 8 := ⟨R_Mod, T_Mod, 32, i_Mod, rfl, by decide, TB_of 402 (by decide +kernel) rfl⟩
theorem Fp_Mod_137 : j_Fp "WireDeskModel" 137 6 8 (.int) false := ⟨R_Mod, T_Mod, 32, t_Mod, i_Mod, rfl, by decide, TB_of 402 (by decide +kernel) rfl, t_Mod_ok, n_Mod, rfl, by decide +kernel, fun h => by cases h⟩
theorem F_Mod_140 : j_F "WireDeskModel" 140 6 9 := ⟨R_Mod, T_Mod, 32, i_Mod, rfl, by decide, TB_of 403 (by decide +kernel) rfl⟩
theorem Fp_Mod_140 : j_Fp "WireDeskModel" 140 6 9 (.int) false := ⟨R_Mod, T_Mod, 32, t_Mod, i_Mod, rfl, by decide, TB_of 403 (by decide +kernel) rfl, t_Mod_ok, n_Mod, rfl, by decide +kernel, fun h => by cases h⟩
theorem F_Mod_143 : j_F "WireDeskModel" 143 6 7 := ⟨R_Mod, T_Mod, 32, i_Mod, rfl, by decide, TB_of 401 (by decide +kernel) rfl⟩
theorem Fp_Mod_143 : j_Fp "WireDeskModel" 143 6 7 (.int) false := ⟨R_Mod, T_Mod, 32, t_Mod, i_Mod, rfl, by decide, TB_of 401 (by decide +kernel) rfl, t_Mod_ok, n_Mod, rfl, by decide +kernel, fun h => by cases h⟩
theorem F_Mod_146 : j_F "WireDeskModel" 146 6 3 := ⟨R_Mod, T_Mod, 32, i_Mod, rfl, by decide, TB_of 397 (by decide +kernel) rfl⟩
theorem Fp_Mod_146 : j_Fp "WireDeskModel" 146 6 3 (.int) false := ⟨R_Mod, T_Mod, 32, t_Mod, i_Mod, rfl, by decide, TB_of 397 (by decide +kernel) rfl, t_Mod_ok, n_Mod, rfl, by decide +kernel, fun h => by cases h⟩
theorem F_Mod_169 : j_F "WireDeskModel" 169 6 1 := ⟨R_Mod, T_Mod, 32, i_Mod, rfl, by decide, TB_of 395 (by decide +kernel) rfl⟩
theorem Fp_Mod_169 : j_Fp "WireDeskModel" 169 6 1 (.int) false := ⟨R_Mod, T_Mod, 32, t_Mod, i_Mod, rfl, by decide, TB_of 395 (by decide +kernel) rfl, t_Mod_ok, n_Mod, rfl, by decide +kernel, fun h => by cases h⟩
theorem F_Mod_172 : j_F "WireDeskModel" 172 6 4 := ⟨R_Mod, T_Mod, 32, i_Mod, rfl, by decide, TB_of 398 (by decide +kernel) rfl⟩
theorem Fp_Mod_172 : j_Fp "WireDeskModel" 172 6 4 (.boolean) false := ⟨R_Mod, T_Mod, 32, t_Mod, i_Mod, rfl, by decide, TB_of 398 (by decide +kernel) rfl, t_Mod_ok, n_Mod, rfl, by decide +kernel, fun h => by cases h⟩
theorem Y_Dsk_init : j_Y y_Dsk_init b_Dsk_init 2 none 0 := ⟨TB_of 12 (by decide +kernel) rfl, TB_of 1 (by decide +kernel) rfl, by decide +kernel, by decide +kernel, by decide +kernel⟩
theorem im_Dsk_init : Cond.instanceMethod y_Dsk_init ∈ TB := TB_of 11 (by decide +kernel) rfl
theorem Y_Dsk_put : j_Y y_Dsk_put b_Dsk_put 4 (some .boolean) 2 := ⟨TB_of 183 (by decide +kernel) rfl, TB_of 1 (by decide +kernel) rfl, by decide +kernel, by decide +kernel, by decide +kernel⟩
theorem im_Dsk_put : Cond.instanceMethod y_Dsk_put ∈ TB := TB_of 181 (by decide +kernel) rfl
theorem sl_Dsk_put : Cond.selects y_Dsk_put.cls y_Dsk_put y_Dsk_put ∈ TB := TB_of 182 (by decide +kernel) rfl
theorem Y_Dsk_low : j_Y y_Dsk_low b_Dsk_low 4 (some .boolean) 2 := ⟨TB_of 199 (by decide +kernel) rfl, TB_of 1 (by decide +kernel) rfl, by decide +kernel, by decide +kernel, by decide +kernel⟩
theorem im_Dsk_low : Cond.instanceMethod y_Dsk_low ∈ TB := TB_of 197 (by decide +kernel) rfl
theorem sl_Dsk_low : Cond.selects y_Dsk_low.cls y_Dsk_low y_Dsk_low ∈ TB := TB_of 198 (by decide +kernel) rfl
theorem Y_Dsk_compact : j_Y y_Dsk_compact b_Dsk_compact 4 (some .boolean) 1 := ⟨TB_of 207 (by decide +kernel) rfl, TB_of 1 (by decide +kernel) rfl, by decide +kernel, by decide +kernel, by decide +kernel⟩
theorem im_Dsk_compact : Cond.instanceMethod y_Dsk_compact ∈ TB := TB_of 205 (by decide +kernel) rfl
theorem sl_Dsk_compact : Cond.selects y_Dsk_compact.cls y_Dsk_compact y_Dsk_compact ∈ TB := TB_of 206 (by decide +kernel) rfl
theorem Y_Dsk_read : j_Y y_Dsk_read b_Dsk_read 3 (some .int) 1 := ⟨TB_of 218 (by decide +kernel) rfl, TB_of 1 (by decide +kernel) rfl, by decide +kernel, by decide +kernel, by decide +kernel⟩
theorem im_Dsk_read : Cond.instanceMethod y_Dsk_read ∈ TB := TB_of 216 (by decide +kernel) rfl
theorem sl_Dsk_read : Cond.selects y_Dsk_read.cls y_Dsk_read y_Dsk_read ∈ TB := TB_of 217 (by decide +kernel) rfl
theorem Y_Dsk_place : j_Y y_Dsk_place b_Dsk_place 1 (some .int) 0 := ⟨TB_of 335 (by decide +kernel) rfl, TB_of 1 (by decide +kernel) rfl, by decide +kernel, by decide +kernel, by decide +kernel⟩
theorem im_Dsk_place : Cond.instanceMethod y_Dsk_place ∈ TB := TB_of 333 (by decide +kernel) rfl
theorem sl_Dsk_place : Cond.selects y_Dsk_place.cls y_Dsk_place y_Dsk_place ∈ TB := TB_of 334 (by decide +kernel) rfl
theorem Y_Dsk_byteOf : j_Y y_Dsk_byteOf b_Dsk_byteOf 2 (some .int) 1 := ⟨TB_of 339 (by decide +kernel) rfl, TB_of 1 (by decide +kernel) rfl, by decide +kernel, by decide +kernel, by decide +kernel⟩
theorem im_Dsk_byteOf : Cond.instanceMethod y_Dsk_byteOf ∈ TB := TB_of 337 (by decide +kernel) rfl
theorem sl_Dsk_byteOf : Cond.selects y_Dsk_byteOf.cls y_Dsk_byteOf y_Dsk_byteOf ∈ TB := TB_of 338 (by decide +kernel) rfl
theorem Y_Dsk_head : j_Y y_Dsk_head b_Dsk_head 2 (some .long) 1 := ⟨TB_of 344 (by decide +kernel) rfl, TB_of 1 (by decide +kernel) rfl, by decide +kernel, by decide +kernel, by decide +kernel⟩
theorem im_Dsk_head : Cond.instanceMethod y_Dsk_head ∈ TB := TB_of 342 (by decide +kernel) rfl
theorem sl_Dsk_head : Cond.selects y_Dsk_head.cls y_Dsk_head y_Dsk_head ∈ TB := TB_of 343 (by decide +kernel) rfl
theorem Y_Dsk_look : j_Y y_Dsk_look b_Dsk_look 4 (some .long) 2 := ⟨TB_of 350 (by decide +kernel) rfl, TB_of 1 (by decide +kernel) rfl, by decide +kernel, by decide +kernel, by decide +kernel⟩
theorem im_Dsk_look : Cond.instanceMethod y_Dsk_look ∈ TB := TB_of 348 (by decide +kernel) rfl
theorem sl_Dsk_look : Cond.selects y_Dsk_look.cls y_Dsk_look y_Dsk_look ∈ TB := TB_of 349 (by decide +kernel) rfl
theorem Y_Dsk_input : j_Y y_Dsk_input b_Dsk_input 8 (some .long) 3 := ⟨TB_of 358 (by decide +kernel) rfl, TB_of 1 (by decide +kernel) rfl, by decide +kernel, by decide +kernel, by decide +kernel⟩
theorem im_Dsk_input : Cond.instanceMethod y_Dsk_input ∈ TB := TB_of 356 (by decide +kernel) rfl
theorem sl_Dsk_input : Cond.selects y_Dsk_input.cls y_Dsk_input y_Dsk_input ∈ TB := TB_of 357 (by decide +kernel) rfl
theorem Y_Dsk_output : j_Y y_Dsk_output b_Dsk_output 5 (some .long) 3 := ⟨TB_of 362 (by decide +kernel) rfl, TB_of 1 (by decide +kernel) rfl, by decide +kernel, by decide +kernel, by decide +kernel⟩
theorem im_Dsk_output : Cond.instanceMethod y_Dsk_output ∈ TB := TB_of 360 (by decide +kernel) rfl
theorem sl_Dsk_output : Cond.selects y_Dsk_output.cls y_Dsk_output y_Dsk_output ∈ TB := TB_of 361 (by decide +kernel) rfl
theorem Y_Dsk_name : j_Y y_Dsk_name b_Dsk_name 3 (some .long) 2 := ⟨TB_of 366 (by decide +kernel) rfl, TB_of 1 (by decide +kernel) rfl, by decide +kernel, by decide +kernel, by decide +kernel⟩
theorem im_Dsk_name : Cond.instanceMethod y_Dsk_name ∈ TB := TB_of 364 (by decide +kernel) rfl
theorem sl_Dsk_name : Cond.selects y_Dsk_name.cls y_Dsk_name y_Dsk_name ∈ TB := TB_of 365 (by decide +kernel) rfl
theorem Y_Dsk_isDoubtful : j_Y y_Dsk_isDoubtful b_Dsk_isDoubtful 1 (some .boolean) 0 := ⟨TB_of 373 (by decide +kernel) rfl, TB_of 1 (by decide +kernel) rfl, by decide +kernel, by decide +kernel, by decide +kernel⟩
theorem im_Dsk_isDoubtful : Cond.instanceMethod y_Dsk_isDoubtful ∈ TB := TB_of 371 (by decide +kernel) rfl
theorem sl_Dsk_isDoubtful : Cond.selects y_Dsk_isDoubtful.cls y_Dsk_isDoubtful y_Dsk_isDoubtful ∈ TB := TB_of 372 (by decide +kernel) rfl
theorem Y_Dsk_forget : j_Y y_Dsk_forget b_Dsk_forget 1 none 0 := ⟨TB_of 280 (by decide +kernel) rfl, TB_of 1 (by decide +kernel) rfl, by decide +kernel, by decide +kernel, by decide +kernel⟩
theorem im_Dsk_forget : Cond.instanceMethod y_Dsk_forget ∈ TB := TB_of 279 (by decide +kernel) rfl
theorem sl_Dsk_forget : Cond.selects y_Dsk_forget.cls y_Dsk_forget y_Dsk_forget ∈ TB := TB_sel (q := (y_Dsk_forget, 11)) 6 (by decide +kernel)
theorem Y_Dsk_hasTransaction : j_Y y_Dsk_hasTransaction b_Dsk_hasTransaction 2 (some .boolean) 1 := ⟨TB_of 354 (by decide +kernel) rfl, TB_of 1 (by decide +kernel) rfl, by decide +kernel, by decide +kernel, by decide +kernel⟩
theorem im_Dsk_hasTransaction : Cond.instanceMethod y_Dsk_hasTransaction ∈ TB := TB_of 353 (by decide +kernel) rfl
theorem sl_Dsk_hasTransaction : Cond.selects y_Dsk_hasTransaction.cls y_Dsk_hasTransaction y_Dsk_hasTransaction ∈ TB := TB_sel (q := (y_Dsk_hasTransaction, 11)) 15 (by decide +kernel)
theorem Y_Dsk_nameTransactions : j_Y y_Dsk_nameTransactions b_Dsk_nameTransactions 4 none 0 := ⟨TB_of 284 (by decide +kernel) rfl, TB_of 1 (by decide +kernel) rfl, by decide +kernel, by decide +kernel, by decide +kernel⟩
theorem im_Dsk_nameTransactions : Cond.instanceMethod y_Dsk_nameTransactions ∈ TB := TB_of 283 (by decide +kernel) rfl
theorem sl_Dsk_nameTransactions : Cond.selects y_Dsk_nameTransactions.cls y_Dsk_nameTransactions y_Dsk_nameTransactions ∈ TB := TB_sel (q := (y_Dsk_nameTransactions, 11)) 7 (by decide +kernel)
theorem Y_Dsk_eightBytes : j_Y y_Dsk_eightBytes b_Dsk_eightBytes 5 (some .long) 2 := ⟨TB_of 369 (by decide +kernel) rfl, TB_of 1 (by decide +kernel) rfl, by decide +kernel, by decide +kernel, by decide +kernel⟩
theorem sta_Dsk_eightBytes : Cond.static y_Dsk_eightBytes ∈ TB := TB_of 368 (by decide +kernel) rfl
theorem Y_Dsk_widthOfSize : j_Y y_Dsk_widthOfSize b_Dsk_widthOfSize 2 (some .int) 1 := ⟨TB_of 210 (by decide +kernel) rfl, TB_of 1 (by decide +kernel) rfl, by decide +kernel, by decide +kernel, by decide +kernel⟩
theorem sta_Dsk_widthOfSize : Cond.static y_Dsk_widthOfSize ∈ TB := TB_of 209 (by decide +kernel) rfl
theorem Y_Dsk_markOfWidth : j_Y y_Dsk_markOfWidth b_Dsk_markOfWidth 1 (some .int) 1 := ⟨TB_of 214 (by decide +kernel) rfl, TB_of 1 (by decide +kernel) rfl, by decide +kernel, by decide +kernel, by decide +kernel⟩
theorem sta_Dsk_markOfWidth : Cond.static y_Dsk_markOfWidth ∈ TB := TB_of 213 (by decide +kernel) rfl
theorem Y_Dsk_widthOfMark : j_Y y_Dsk_widthOfMark b_Dsk_widthOfMark 1 (some .int) 1 := ⟨TB_of 253 (by decide +kernel) rfl, TB_of 1 (by decide +kernel) rfl, by decide +kernel, by decide +kernel, by decide +kernel⟩
theorem sta_Dsk_widthOfMark : Cond.static y_Dsk_widthOfMark ∈ TB := TB_of 252 (by decide +kernel) rfl
theorem Y_Mod_init : j_Y y_Mod_init b_Mod_init 3 none 0 := ⟨TB_of 378 (by decide +kernel) rfl, TB_of 7 (by decide +kernel) rfl, by decide +kernel, by decide +kernel, by decide +kernel⟩
theorem im_Mod_init : Cond.instanceMethod y_Mod_init ∈ TB := TB_of 377 (by decide +kernel) rfl
theorem Y_Mod_isPrime : j_Y y_Mod_isPrime b_Mod_isPrime 2 (some .boolean) 1 := ⟨TB_of 382 (by decide +kernel) rfl, TB_of 7 (by decide +kernel) rfl, by decide +kernel, by decide +kernel, by decide +kernel⟩
theorem sta_Mod_isPrime : Cond.static y_Mod_isPrime ∈ TB := TB_of 381 (by decide +kernel) rfl
theorem Y_Mod_rootOf : j_Y y_Mod_rootOf b_Mod_rootOf 6 (some .long) 2 := ⟨TB_of 386 (by decide +kernel) rfl, TB_of 7 (by decide +kernel) rfl, by decide +kernel, by decide +kernel, by decide +kernel⟩
theorem im_Mod_rootOf : Cond.instanceMethod y_Mod_rootOf ∈ TB := TB_of 385 (by decide +kernel) rfl
theorem sl_Mod_rootOf : Cond.selects y_Mod_rootOf.cls y_Mod_rootOf y_Mod_rootOf ∈ TB := TB_sel (q := (y_Mod_rootOf, 32)) 16 (by decide +kernel)
theorem Y_Mod_fits : j_Y y_Mod_fits b_Mod_fits 9 (some .boolean) 3 := ⟨TB_of 390 (by decide +kernel) rfl, TB_of 7 (by decide +kernel) rfl, by decide +kernel, by decide +kernel, by decide +kernel⟩
theorem im_Mod_fits : Cond.instanceMethod y_Mod_fits ∈ TB := TB_of 389 (by decide +kernel) rfl
theorem sl_Mod_fits : Cond.selects y_Mod_fits.cls y_Mod_fits y_Mod_fits ∈ TB := TB_sel (q := (y_Mod_fits, 32)) 17 (by decide +kernel)
theorem Y_Mod_turn : j_Y y_Mod_turn b_Mod_turn 3 (some .long) 2 := ⟨TB_of 554 (by decide +kernel) rfl, TB_of 7 (by decide +kernel) rfl, by decide +kernel, by decide +kernel, by decide +kernel⟩
theorem sta_Mod_turn : Cond.static y_Mod_turn ∈ TB := TB_of 553 (by decide +kernel) rfl
theorem Y_Mod_not : j_Y y_Mod_not b_Mod_not 2 (some .long) 1 := ⟨TB_of 558 (by decide +kernel) rfl, TB_of 7 (by decide +kernel) rfl, by decide +kernel, by decide +kernel, by decide +kernel⟩
theorem sta_Mod_not : Cond.static y_Mod_not ∈ TB := TB_of 557 (by decide +kernel) rfl
theorem Y_Mod_digestOf : j_Y y_Mod_digestOf b_Mod_digestOf 4 none 1 := ⟨TB_of 545 (by decide +kernel) rfl, TB_of 7 (by decide +kernel) rfl, by decide +kernel, by decide +kernel, by decide +kernel⟩
theorem im_Mod_digestOf : Cond.instanceMethod y_Mod_digestOf ∈ TB := TB_of 544 (by decide +kernel) rfl
theorem sl_Mod_digestOf : Cond.selects y_Mod_digestOf.cls y_Mod_digestOf y_Mod_digestOf ∈ TB := TB_sel (q := (y_Mod_digestOf, 32)) 26 (by decide +kernel)
theorem Y_Mod_block : j_Y y_Mod_block b_Mod_block 12 none 1 := ⟨TB_of 550 (by decide +kernel) rfl, TB_of 7 (by decide +kernel) rfl, by decide +kernel, by decide +kernel, by decide +kernel⟩
theorem im_Mod_block : Cond.instanceMethod y_Mod_block ∈ TB := TB_of 549 (by decide +kernel) rfl
theorem sl_Mod_block : Cond.selects y_Mod_block.cls y_Mod_block y_Mod_block ∈ TB := TB_sel (q := (y_Mod_block, 32)) 27 (by decide +kernel)
theorem Y_Mod_nameOf : j_Y y_Mod_nameOf b_Mod_nameOf 5 none 3 := ⟨TB_of 537 (by decide +kernel) rfl, TB_of 7 (by decide +kernel) rfl, by decide +kernel, by decide +kernel, by decide +kernel⟩
theorem im_Mod_nameOf : Cond.instanceMethod y_Mod_nameOf ∈ TB := TB_of 536 (by decide +kernel) rfl
theorem sl_Mod_nameOf : Cond.selects y_Mod_nameOf.cls y_Mod_nameOf y_Mod_nameOf ∈ TB := TB_sel (q := (y_Mod_nameOf, 32)) 24 (by decide +kernel)
theorem Y_Mod_twice : j_Y y_Mod_twice b_Mod_twice 3 none 1 := ⟨TB_of 541 (by decide +kernel) rfl, TB_of 7 (by decide +kernel) rfl, by decide +kernel, by decide +kernel, by decide +kernel⟩
theorem im_Mod_twice : Cond.instanceMethod y_Mod_twice ∈ TB := TB_of 540 (by decide +kernel) rfl
theorem sl_Mod_twice : Cond.selects y_Mod_twice.cls y_Mod_twice y_Mod_twice ∈ TB := TB_sel (q := (y_Mod_twice, 32)) 25 (by decide +kernel)
theorem Y_Mod_join : j_Y y_Mod_join b_Mod_join 6 none 0 := ⟨TB_of 563 (by decide +kernel) rfl, TB_of 7 (by decide +kernel) rfl, by decide +kernel, by decide +kernel, by decide +kernel⟩
theorem im_Mod_join : Cond.instanceMethod y_Mod_join ∈ TB := TB_of 562 (by decide +kernel) rfl
theorem sl_Mod_join : Cond.selects y_Mod_join.cls y_Mod_join y_Mod_join ∈ TB := TB_sel (q := (y_Mod_join, 32)) 28 (by decide +kernel)
theorem Y_Mod_fails : j_Y y_Mod_fails b_Mod_fails 3 none 2 := ⟨TB_of 521 (by decide +kernel) rfl, TB_of 7 (by decide +kernel) rfl, by decide +kernel, by decide +kernel, by decide +kernel⟩
theorem im_Mod_fails : Cond.instanceMethod y_Mod_fails ∈ TB := TB_of 520 (by decide +kernel) rfl
theorem sl_Mod_fails : Cond.selects y_Mod_fails.cls y_Mod_fails y_Mod_fails ∈ TB := TB_sel (q := (y_Mod_fails, 32)) 20 (by decide +kernel)
theorem Y_Mod_pass : j_Y y_Mod_pass b_Mod_pass 2 none 1 := ⟨TB_of 517 (by decide +kernel) rfl, TB_of 7 (by decide +kernel) rfl, by decide +kernel, by decide +kernel, by decide +kernel⟩
theorem im_Mod_pass : Cond.instanceMethod y_Mod_pass ∈ TB := TB_of 516 (by decide +kernel) rfl
theorem sl_Mod_pass : Cond.selects y_Mod_pass.cls y_Mod_pass y_Mod_pass ∈ TB := TB_sel (q := (y_Mod_pass, 32)) 19 (by decide +kernel)
theorem Y_Mod_lowAt : j_Y y_Mod_lowAt b_Mod_lowAt 6 (some .long) 2 := ⟨TB_of 529 (by decide +kernel) rfl, TB_of 7 (by decide +kernel) rfl, by decide +kernel, by decide +kernel, by decide +kernel⟩
theorem im_Mod_lowAt : Cond.instanceMethod y_Mod_lowAt ∈ TB := TB_of 528 (by decide +kernel) rfl
theorem sl_Mod_lowAt : Cond.selects y_Mod_lowAt.cls y_Mod_lowAt y_Mod_lowAt ∈ TB := TB_sel (q := (y_Mod_lowAt, 32)) 22 (by decide +kernel)
theorem Y_Mod_sizeOf : j_Y y_Mod_sizeOf b_Mod_sizeOf 8 (some .int) 1 := ⟨TB_of 525 (by decide +kernel) rfl, TB_of 7 (by decide +kernel) rfl, by decide +kernel, by decide +kernel, by decide +kernel⟩
theorem im_Mod_sizeOf : Cond.instanceMethod y_Mod_sizeOf ∈ TB := TB_of 524 (by decide +kernel) rfl
theorem sl_Mod_sizeOf : Cond.selects y_Mod_sizeOf.cls y_Mod_sizeOf y_Mod_sizeOf ∈ TB := TB_sel (q := (y_Mod_sizeOf, 32)) 21 (by decide +kernel)
theorem Y_Mod_transaction : j_Y y_Mod_transaction b_Mod_transaction 3 none 1 := ⟨TB_of 533 (by decide +kernel) rfl, TB_of 7 (by decide +kernel) rfl, by decide +kernel, by decide +kernel, by decide +kernel⟩
theorem im_Mod_transaction : Cond.instanceMethod y_Mod_transaction ∈ TB := TB_of 532 (by decide +kernel) rfl
theorem sl_Mod_transaction : Cond.selects y_Mod_transaction.cls y_Mod_transaction y_Mod_transaction ∈ TB := TB_sel (q := (y_Mod_transaction, 32)) 23 (by decide +kernel)
theorem Y_Mod_put : j_Y y_Mod_put b_Mod_put 4 (some .boolean) 2 := ⟨TB_of 495 (by decide +kernel) rfl, TB_of 7 (by decide +kernel) rfl, by decide +kernel, by decide +kernel, by decide +kernel⟩
theorem im_Mod_put : Cond.instanceMethod y_Mod_put ∈ TB := TB_of 493 (by decide +kernel) rfl
theorem sl_Mod_put : Cond.selects y_Mod_put.cls y_Mod_put y_Mod_put ∈ TB := TB_of 494 (by decide +kernel) rfl
theorem Y_Mod_low : j_Y y_Mod_low b_Mod_low 4 (some .boolean) 2 := ⟨TB_of 504 (by decide +kernel) rfl, TB_of 7 (by decide +kernel) rfl, by decide +kernel, by decide +kernel, by decide +kernel⟩
theorem im_Mod_low : Cond.instanceMethod y_Mod_low ∈ TB := TB_of 502 (by decide +kernel) rfl
theorem sl_Mod_low : Cond.selects y_Mod_low.cls y_Mod_low y_Mod_low ∈ TB := TB_of 503 (by decide +kernel) rfl
theorem Y_Mod_lay : j_Y y_Mod_lay b_Mod_lay 6 (some .boolean) 3 := ⟨TB_of 499 (by decide +kernel) rfl, TB_of 7 (by decide +kernel) rfl, by decide +kernel, by decide +kernel, by decide +kernel⟩
theorem im_Mod_lay : Cond.instanceMethod y_Mod_lay ∈ TB := TB_of 498 (by decide +kernel) rfl
theorem sl_Mod_lay : Cond.selects y_Mod_lay.cls y_Mod_lay y_Mod_lay ∈ TB := TB_sel (q := (y_Mod_lay, 32)) 18 (by decide +kernel)
theorem Y_Mod_compact : j_Y y_Mod_compact b_Mod_compact 4 (some .boolean) 1 := ⟨TB_of 508 (by decide +kernel) rfl, TB_of 7 (by decide +kernel) rfl, by decide +kernel, by decide +kernel, by decide +kernel⟩
theorem im_Mod_compact : Cond.instanceMethod y_Mod_compact ∈ TB := TB_of 506 (by decide +kernel) rfl
theorem sl_Mod_compact : Cond.selects y_Mod_compact.cls y_Mod_compact y_Mod_compact ∈ TB := TB_of 507 (by decide +kernel) rfl
theorem Y_Mod_read : j_Y y_Mod_read b_Mod_read 4 (some .int) 1 := ⟨TB_of 513 (by decide +kernel) rfl, TB_of 7 (by decide +kernel) rfl, by decide +kernel, by decide +kernel, by decide +kernel⟩
theorem im_Mod_read : Cond.instanceMethod y_Mod_read ∈ TB := TB_of 511 (by decide +kernel) rfl
theorem sl_Mod_read : Cond.selects y_Mod_read.cls y_Mod_read y_Mod_read ∈ TB := TB_of 512 (by decide +kernel) rfl
theorem Y_Mod_place : j_Y y_Mod_place b_Mod_place 1 (some .int) 0 := ⟨TB_of 567 (by decide +kernel) rfl, TB_of 7 (by decide +kernel) rfl, by decide +kernel, by decide +kernel, by decide +kernel⟩
theorem im_Mod_place : Cond.instanceMethod y_Mod_place ∈ TB := TB_of 565 (by decide +kernel) rfl
theorem sl_Mod_place : Cond.selects y_Mod_place.cls y_Mod_place y_Mod_place ∈ TB := TB_of 566 (by decide +kernel) rfl
theorem Y_Mod_byteOf : j_Y y_Mod_byteOf b_Mod_byteOf 2 (some .int) 1 := ⟨TB_of 571 (by decide +kernel) rfl, TB_of 7 (by decide +kernel) rfl, by decide +kernel, by decide +kernel, by decide +kernel⟩
theorem im_Mod_byteOf : Cond.instanceMethod y_Mod_byteOf ∈ TB := TB_of 569 (by decide +kernel) rfl
theorem sl_Mod_byteOf : Cond.selects y_Mod_byteOf.cls y_Mod_byteOf y_Mod_byteOf ∈ TB := TB_of 570 (by decide +kernel) rfl
theorem Y_Mod_head : j_Y y_Mod_head b_Mod_head 2 (some .long) 1 := ⟨TB_of 575 (by decide +kernel) rfl, TB_of 7 (by decide +kernel) rfl, by decide +kernel, by decide +kernel, by decide +kernel⟩
theorem im_Mod_head : Cond.instanceMethod y_Mod_head ∈ TB := TB_of 573 (by decide +kernel) rfl
theorem sl_Mod_head : Cond.selects y_Mod_head.cls y_Mod_head y_Mod_head ∈ TB := TB_of 574 (by decide +kernel) rfl
theorem Y_Mod_isTransaction : j_Y y_Mod_isTransaction b_Mod_isTransaction 2 (some .boolean) 1 := ⟨TB_of 584 (by decide +kernel) rfl, TB_of 7 (by decide +kernel) rfl, by decide +kernel, by decide +kernel, by decide +kernel⟩
theorem im_Mod_isTransaction : Cond.instanceMethod y_Mod_isTransaction ∈ TB := TB_of 583 (by decide +kernel) rfl
theorem sl_Mod_isTransaction : Cond.selects y_Mod_isTransaction.cls y_Mod_isTransaction y_Mod_isTransaction ∈ TB := TB_sel (q := (y_Mod_isTransaction, 32)) 29 (by decide +kernel)
theorem Y_Mod_look : j_Y y_Mod_look b_Mod_look 3 (some .long) 2 := ⟨TB_of 580 (by decide +kernel) rfl, TB_of 7 (by decide +kernel) rfl, by decide +kernel, by decide +kernel, by decide +kernel⟩
theorem im_Mod_look : Cond.instanceMethod y_Mod_look ∈ TB := TB_of 578 (by decide +kernel) rfl
theorem sl_Mod_look : Cond.selects y_Mod_look.cls y_Mod_look y_Mod_look ∈ TB := TB_of 579 (by decide +kernel) rfl
theorem Y_Mod_input : j_Y y_Mod_input b_Mod_input 5 (some .long) 3 := ⟨TB_of 588 (by decide +kernel) rfl, TB_of 7 (by decide +kernel) rfl, by decide +kernel, by decide +kernel, by decide +kernel⟩
theorem im_Mod_input : Cond.instanceMethod y_Mod_input ∈ TB := TB_of 586 (by decide +kernel) rfl
theorem sl_Mod_input : Cond.selects y_Mod_input.cls y_Mod_input y_Mod_input ∈ TB := TB_of 587 (by decide +kernel) rfl
theorem Y_Mod_output : j_Y y_Mod_output b_Mod_output 5 (some .long) 3 := ⟨TB_of 592 (by decide +kernel) rfl, TB_of 7 (by decide +kernel) rfl, by decide +kernel, by decide +kernel, by decide +kernel⟩
theorem im_Mod_output : Cond.instanceMethod y_Mod_output ∈ TB := TB_of 590 (by decide +kernel) rfl
theorem sl_Mod_output : Cond.selects y_Mod_output.cls y_Mod_output y_Mod_output ∈ TB := TB_of 591 (by decide +kernel) rfl
theorem Y_Mod_name : j_Y y_Mod_name b_Mod_name 6 (some .long) 2 := ⟨TB_of 596 (by decide +kernel) rfl, TB_of 7 (by decide +kernel) rfl, by decide +kernel, by decide +kernel, by decide +kernel⟩
theorem im_Mod_name : Cond.instanceMethod y_Mod_name ∈ TB := TB_of 594 (by decide +kernel) rfl
theorem sl_Mod_name : Cond.selects y_Mod_name.cls y_Mod_name y_Mod_name ∈ TB := TB_of 595 (by decide +kernel) rfl
theorem Y_Mod_isDoubtful : j_Y y_Mod_isDoubtful b_Mod_isDoubtful 1 (some .boolean) 0 := ⟨TB_of 600 (by decide +kernel) rfl, TB_of 7 (by decide +kernel) rfl, by decide +kernel, by decide +kernel, by decide +kernel⟩
theorem im_Mod_isDoubtful : Cond.instanceMethod y_Mod_isDoubtful ∈ TB := TB_of 598 (by decide +kernel) rfl
theorem sl_Mod_isDoubtful : Cond.selects y_Mod_isDoubtful.cls y_Mod_isDoubtful y_Mod_isDoubtful ∈ TB := TB_of 599 (by decide +kernel) rfl
theorem Y_Row_init : j_Y y_Row_init b_Row_init 1 none 0 := ⟨TB_of 79 (by decide +kernel) rfl, TB_of 5 (by decide +kernel) rfl, by decide +kernel, by decide +kernel, by decide +kernel⟩
theorem im_Row_init : Cond.instanceMethod y_Row_init ∈ TB := TB_of 78 (by decide +kernel) rfl
theorem Y_Row_putTogether : j_Y y_Row_putTogether b_Row_putTogether 5 none 3 := ⟨TB_of 318 (by decide +kernel) rfl, TB_of 5 (by decide +kernel) rfl, by decide +kernel, by decide +kernel, by decide +kernel⟩
theorem im_Row_putTogether : Cond.instanceMethod y_Row_putTogether ∈ TB := TB_of 316 (by decide +kernel) rfl
theorem sl_Row_putTogether : Cond.selects y_Row_putTogether.cls y_Row_putTogether y_Row_putTogether ∈ TB := TB_of 317 (by decide +kernel) rfl
theorem Y_Row_putPairsTogether : j_Y y_Row_putPairsTogether b_Row_putPairsTogether 6 none 2 := ⟨TB_of 322 (by decide +kernel) rfl, TB_of 5 (by decide +kernel) rfl, by decide +kernel, by decide +kernel, by decide +kernel⟩
theorem im_Row_putPairsTogether : Cond.instanceMethod y_Row_putPairsTogether ∈ TB := TB_of 321 (by decide +kernel) rfl
theorem sl_Row_putPairsTogether : Cond.selects y_Row_putPairsTogether.cls y_Row_putPairsTogether y_Row_putPairsTogether ∈ TB := TB_sel (q := (y_Row_putPairsTogether, 2)) 12 (by decide +kernel)
theorem Y_Row_repeat : j_Y y_Row_repeat b_Row_repeat 4 none 1 := ⟨TB_of 326 (by decide +kernel) rfl, TB_of 5 (by decide +kernel) rfl, by decide +kernel, by decide +kernel, by decide +kernel⟩
theorem im_Row_repeat : Cond.instanceMethod y_Row_repeat ∈ TB := TB_of 325 (by decide +kernel) rfl
theorem sl_Row_repeat : Cond.selects y_Row_repeat.cls y_Row_repeat y_Row_repeat ∈ TB := TB_sel (q := (y_Row_repeat, 2)) 13 (by decide +kernel)
theorem Y_Row_alike : j_Y y_Row_alike b_Row_alike 4 (some .boolean) 1 := ⟨TB_of 330 (by decide +kernel) rfl, TB_of 5 (by decide +kernel) rfl, by decide +kernel, by decide +kernel, by decide +kernel⟩
theorem im_Row_alike : Cond.instanceMethod y_Row_alike ∈ TB := TB_of 329 (by decide +kernel) rfl
theorem sl_Row_alike : Cond.selects y_Row_alike.cls y_Row_alike y_Row_alike ∈ TB := TB_sel (q := (y_Row_alike, 2)) 14 (by decide +kernel)
theorem Y_Nam_init : j_Y y_Nam_init b_Nam_init 1 none 0 := ⟨TB_of 60 (by decide +kernel) rfl, TB_of 4 (by decide +kernel) rfl, by decide +kernel, by decide +kernel, by decide +kernel⟩
theorem im_Nam_init : Cond.instanceMethod y_Nam_init ∈ TB := TB_of 59 (by decide +kernel) rfl
theorem Y_Nam_writeName : j_Y y_Nam_writeName b_Nam_writeName 6 none 5 := ⟨TB_of 288 (by decide +kernel) rfl, TB_of 4 (by decide +kernel) rfl, by decide +kernel, by decide +kernel, by decide +kernel⟩
theorem im_Nam_writeName : Cond.instanceMethod y_Nam_writeName ∈ TB := TB_of 286 (by decide +kernel) rfl
theorem sl_Nam_writeName : Cond.selects y_Nam_writeName.cls y_Nam_writeName y_Nam_writeName ∈ TB := TB_of 287 (by decide +kernel) rfl
theorem Y_Nam_digest : j_Y y_Nam_digest b_Nam_digest 8 none 3 := ⟨TB_of 292 (by decide +kernel) rfl, TB_of 4 (by decide +kernel) rfl, by decide +kernel, by decide +kernel, by decide +kernel⟩
theorem im_Nam_digest : Cond.instanceMethod y_Nam_digest ∈ TB := TB_of 291 (by decide +kernel) rfl
theorem sl_Nam_digest : Cond.selects y_Nam_digest.cls y_Nam_digest y_Nam_digest ∈ TB := TB_sel (q := (y_Nam_digest, 3)) 8 (by decide +kernel)
theorem Y_Nam_paddedByte : j_Y y_Nam_paddedByte b_Nam_paddedByte 5 (some .int) 4 := ⟨TB_of 297 (by decide +kernel) rfl, TB_of 4 (by decide +kernel) rfl, by decide +kernel, by decide +kernel, by decide +kernel⟩
theorem sta_Nam_paddedByte : Cond.static y_Nam_paddedByte ∈ TB := TB_of 296 (by decide +kernel) rfl
theorem Y_Nam_stretchSchedule : j_Y y_Nam_stretchSchedule b_Nam_stretchSchedule 6 none 0 := ⟨TB_of 301 (by decide +kernel) rfl, TB_of 4 (by decide +kernel) rfl, by decide +kernel, by decide +kernel, by decide +kernel⟩
theorem im_Nam_stretchSchedule : Cond.instanceMethod y_Nam_stretchSchedule ∈ TB := TB_of 300 (by decide +kernel) rfl
theorem sl_Nam_stretchSchedule : Cond.selects y_Nam_stretchSchedule.cls y_Nam_stretchSchedule y_Nam_stretchSchedule ∈ TB := TB_sel (q := (y_Nam_stretchSchedule, 3)) 9 (by decide +kernel)
theorem Y_Nam_mixChunk : j_Y y_Nam_mixChunk b_Nam_mixChunk 15 none 0 := ⟨TB_of 308 (by decide +kernel) rfl, TB_of 4 (by decide +kernel) rfl, by decide +kernel, by decide +kernel, by decide +kernel⟩
theorem im_Nam_mixChunk : Cond.instanceMethod y_Nam_mixChunk ∈ TB := TB_of 307 (by decide +kernel) rfl
theorem sl_Nam_mixChunk : Cond.selects y_Nam_mixChunk.cls y_Nam_mixChunk y_Nam_mixChunk ∈ TB := TB_sel (q := (y_Nam_mixChunk, 3)) 10 (by decide +kernel)
theorem Y_Nam_turn : j_Y y_Nam_turn b_Nam_turn 2 (some .int) 2 := ⟨TB_of 304 (by decide +kernel) rfl, TB_of 4 (by decide +kernel) rfl, by decide +kernel, by decide +kernel, by decide +kernel⟩
theorem sta_Nam_turn : Cond.static y_Nam_turn ∈ TB := TB_of 303 (by decide +kernel) rfl
theorem Y_Nam_writeState : j_Y y_Nam_writeState b_Nam_writeState 4 none 2 := ⟨TB_of 314 (by decide +kernel) rfl, TB_of 4 (by decide +kernel) rfl, by decide +kernel, by decide +kernel, by decide +kernel⟩
theorem im_Nam_writeState : Cond.instanceMethod y_Nam_writeState ∈ TB := TB_of 313 (by decide +kernel) rfl
theorem sl_Nam_writeState : Cond.selects y_Nam_writeState.cls y_Nam_writeState y_Nam_writeState ∈ TB := TB_sel (q := (y_Nam_writeState, 3)) 11 (by decide +kernel)
theorem Y_Rea_init : j_Y y_Rea_init b_Rea_init 1 none 0 := ⟨TB_of 36 (by decide +kernel) rfl, TB_of 3 (by decide +kernel) rfl, by decide +kernel, by decide +kernel, by decide +kernel⟩
theorem im_Rea_init : Cond.instanceMethod y_Rea_init ∈ TB := TB_of 35 (by decide +kernel) rfl
theorem Y_Rea_begin : j_Y y_Rea_begin b_Rea_begin 1 none 0 := ⟨TB_of 230 (by decide +kernel) rfl, TB_of 3 (by decide +kernel) rfl, by decide +kernel, by decide +kernel, by decide +kernel⟩
theorem im_Rea_begin : Cond.instanceMethod y_Rea_begin ∈ TB := TB_of 228 (by decide +kernel) rfl
theorem sl_Rea_begin : Cond.selects y_Rea_begin.cls y_Rea_begin y_Rea_begin ∈ TB := TB_of 229 (by decide +kernel) rfl
theorem Y_Rea_finish : j_Y y_Rea_finish b_Rea_finish 1 none 0 := ⟨TB_of 276 (by decide +kernel) rfl, TB_of 3 (by decide +kernel) rfl, by decide +kernel, by decide +kernel, by decide +kernel⟩
theorem im_Rea_finish : Cond.instanceMethod y_Rea_finish ∈ TB := TB_of 274 (by decide +kernel) rfl
theorem sl_Rea_finish : Cond.selects y_Rea_finish.cls y_Rea_finish y_Rea_finish ∈ TB := TB_of 275 (by decide +kernel) rfl
theorem Y_Rea_takeBlock : j_Y y_Rea_takeBlock b_Rea_takeBlock 4 (some .int) 1 := ⟨TB_of 234 (by decide +kernel) rfl, TB_of 3 (by decide +kernel) rfl, by decide +kernel, by decide +kernel, by decide +kernel⟩
theorem im_Rea_takeBlock : Cond.instanceMethod y_Rea_takeBlock ∈ TB := TB_of 232 (by decide +kernel) rfl
theorem sl_Rea_takeBlock : Cond.selects y_Rea_takeBlock.cls y_Rea_takeBlock y_Rea_takeBlock ∈ TB := TB_of 233 (by decide +kernel) rfl
theorem Y_Rea_takeTransaction : j_Y y_Rea_takeTransaction b_Rea_takeTransaction 3 none 1 := ⟨TB_of 263 (by decide +kernel) rfl, TB_of 3 (by decide +kernel) rfl, by decide +kernel, by decide +kernel, by decide +kernel⟩
theorem im_Rea_takeTransaction : Cond.instanceMethod y_Rea_takeTransaction ∈ TB := TB_of 261 (by decide +kernel) rfl
theorem sl_Rea_takeTransaction : Cond.selects y_Rea_takeTransaction.cls y_Rea_takeTransaction y_Rea_takeTransaction ∈ TB := TB_of 262 (by decide +kernel) rfl
theorem Y_Rea_takeInput : j_Y y_Rea_takeInput b_Rea_takeInput 4 none 2 := ⟨TB_of 267 (by decide +kernel) rfl, TB_of 3 (by decide +kernel) rfl, by decide +kernel, by decide +kernel, by decide +kernel⟩
theorem im_Rea_takeInput : Cond.instanceMethod y_Rea_takeInput ∈ TB := TB_of 266 (by decide +kernel) rfl
theorem sl_Rea_takeInput : Cond.selects y_Rea_takeInput.cls y_Rea_takeInput y_Rea_takeInput ∈ TB := TB_sel (q := (y_Rea_takeInput, 4)) 4 (by decide +kernel)
theorem Y_Rea_takeOutput : j_Y y_Rea_takeOutput b_Rea_takeOutput 4 none 2 := ⟨TB_of 271 (by decide +kernel) rfl, TB_of 3 (by decide +kernel) rfl, by decide +kernel, by decide +kernel, by decide +kernel⟩
theorem im_Rea_takeOutput : Cond.instanceMethod y_Rea_takeOutput ∈ TB := TB_of 270 (by decide +kernel) rfl
theorem sl_Rea_takeOutput : Cond.selects y_Rea_takeOutput.cls y_Rea_takeOutput y_Rea_takeOutput ∈ TB := TB_sel (q := (y_Rea_takeOutput, 4)) 5 (by decide +kernel)
theorem Y_Rea_skip : j_Y y_Rea_skip b_Rea_skip 2 none 1 := ⟨TB_of 238 (by decide +kernel) rfl, TB_of 3 (by decide +kernel) rfl, by decide +kernel, by decide +kernel, by decide +kernel⟩
theorem im_Rea_skip : Cond.instanceMethod y_Rea_skip ∈ TB := TB_of 237 (by decide +kernel) rfl
theorem sl_Rea_skip : Cond.selects y_Rea_skip.cls y_Rea_skip y_Rea_skip ∈ TB := TB_sel (q := (y_Rea_skip, 4)) 1 (by decide +kernel)
theorem Y_Rea_takeSize : j_Y y_Rea_takeSize b_Rea_takeSize 7 (some .int) 1 := ⟨TB_of 246 (by decide +kernel) rfl, TB_of 3 (by decide +kernel) rfl, by decide +kernel, by decide +kernel, by decide +kernel⟩
theorem im_Rea_takeSize : Cond.instanceMethod y_Rea_takeSize ∈ TB := TB_of 245 (by decide +kernel) rfl
theorem sl_Rea_takeSize : Cond.selects y_Rea_takeSize.cls y_Rea_takeSize y_Rea_takeSize ∈ TB := TB_sel (q := (y_Rea_takeSize, 4)) 3 (by decide +kernel)
theorem Y_Rea_fail : j_Y y_Rea_fail b_Rea_fail 3 none 2 := ⟨TB_of 242 (by decide +kernel) rfl, TB_of 3 (by decide +kernel) rfl, by decide +kernel, by decide +kernel, by decide +kernel⟩
theorem im_Rea_fail : Cond.instanceMethod y_Rea_fail ∈ TB := TB_of 241 (by decide +kernel) rfl
theorem sl_Rea_fail : Cond.selects y_Rea_fail.cls y_Rea_fail y_Rea_fail ∈ TB := TB_sel (q := (y_Rea_fail, 4)) 2 (by decide +kernel)
theorem Y_Txt_init : j_Y y_Txt_init b_Txt_init 1 none 0 := ⟨TB_of 20 (by decide +kernel) rfl, TB_of 2 (by decide +kernel) rfl, by decide +kernel, by decide +kernel, by decide +kernel⟩
theorem im_Txt_init : Cond.instanceMethod y_Txt_init ∈ TB := TB_of 19 (by decide +kernel) rfl
theorem Y_Txt_clear : j_Y y_Txt_clear b_Txt_clear 1 none 0 := ⟨TB_of 226 (by decide +kernel) rfl, TB_of 2 (by decide +kernel) rfl, by decide +kernel, by decide +kernel, by decide +kernel⟩
theorem im_Txt_clear : Cond.instanceMethod y_Txt_clear ∈ TB := TB_of 224 (by decide +kernel) rfl
theorem sl_Txt_clear : Cond.selects y_Txt_clear.cls y_Txt_clear y_Txt_clear ∈ TB := TB_of 225 (by decide +kernel) rfl
theorem Y_Txt_copy : j_Y y_Txt_copy b_Txt_copy 3 none 1 := ⟨TB_of 222 (by decide +kernel) rfl, TB_of 2 (by decide +kernel) rfl, by decide +kernel, by decide +kernel, by decide +kernel⟩
theorem im_Txt_copy : Cond.instanceMethod y_Txt_copy ∈ TB := TB_of 220 (by decide +kernel) rfl
theorem sl_Txt_copy : Cond.selects y_Txt_copy.cls y_Txt_copy y_Txt_copy ∈ TB := TB_of 221 (by decide +kernel) rfl
theorem Y_Txt_hasRoom : j_Y y_Txt_hasRoom b_Txt_hasRoom 2 (some .boolean) 1 := ⟨TB_of 187 (by decide +kernel) rfl, TB_of 2 (by decide +kernel) rfl, by decide +kernel, by decide +kernel, by decide +kernel⟩
theorem im_Txt_hasRoom : Cond.instanceMethod y_Txt_hasRoom ∈ TB := TB_of 185 (by decide +kernel) rfl
theorem sl_Txt_hasRoom : Cond.selects y_Txt_hasRoom.cls y_Txt_hasRoom y_Txt_hasRoom ∈ TB := TB_of 186 (by decide +kernel) rfl
theorem Y_Txt_addHighFirst : j_Y y_Txt_addHighFirst b_Txt_addHighFirst 5 none 2 := ⟨TB_of 191 (by decide +kernel) rfl, TB_of 2 (by decide +kernel) rfl, by decide +kernel, by decide +kernel, by decide +kernel⟩
theorem im_Txt_addHighFirst : Cond.instanceMethod y_Txt_addHighFirst ∈ TB := TB_of 189 (by decide +kernel) rfl
theorem sl_Txt_addHighFirst : Cond.selects y_Txt_addHighFirst.cls y_Txt_addHighFirst y_Txt_addHighFirst ∈ TB := TB_of 190 (by decide +kernel) rfl
theorem Y_Txt_addLowFirst : j_Y y_Txt_addLowFirst b_Txt_addLowFirst 5 none 2 := ⟨TB_of 203 (by decide +kernel) rfl, TB_of 2 (by decide +kernel) rfl, by decide +kernel, by decide +kernel, by decide +kernel⟩
theorem im_Txt_addLowFirst : Cond.instanceMethod y_Txt_addLowFirst ∈ TB := TB_of 201 (by decide +kernel) rfl
theorem sl_Txt_addLowFirst : Cond.selects y_Txt_addLowFirst.cls y_Txt_addLowFirst y_Txt_addLowFirst ∈ TB := TB_of 202 (by decide +kernel) rfl
theorem Y_Txt_add : j_Y y_Txt_add b_Txt_add 2 none 1 := ⟨TB_of 195 (by decide +kernel) rfl, TB_of 2 (by decide +kernel) rfl, by decide +kernel, by decide +kernel, by decide +kernel⟩
theorem im_Txt_add : Cond.instanceMethod y_Txt_add ∈ TB := TB_of 194 (by decide +kernel) rfl
theorem sl_Txt_add : Cond.selects y_Txt_add.cls y_Txt_add y_Txt_add ∈ TB := TB_sel (q := (y_Txt_add, 2)) 0 (by decide +kernel)
theorem Y_Txt_at : j_Y y_Txt_at b_Txt_at 2 (some .int) 1 := ⟨TB_of 250 (by decide +kernel) rfl, TB_of 2 (by decide +kernel) rfl, by decide +kernel, by decide +kernel, by decide +kernel⟩
theorem im_Txt_at : Cond.instanceMethod y_Txt_at ∈ TB := TB_of 248 (by decide +kernel) rfl
theorem sl_Txt_at : Cond.selects y_Txt_at.cls y_Txt_at y_Txt_at ∈ TB := TB_of 249 (by decide +kernel) rfl
theorem Y_Txt_lowFirst : j_Y y_Txt_lowFirst b_Txt_lowFirst 6 (some .long) 2 := ⟨TB_of 257 (by decide +kernel) rfl, TB_of 2 (by decide +kernel) rfl, by decide +kernel, by decide +kernel, by decide +kernel⟩
theorem im_Txt_lowFirst : Cond.instanceMethod y_Txt_lowFirst ∈ TB := TB_of 255 (by decide +kernel) rfl
theorem sl_Txt_lowFirst : Cond.selects y_Txt_lowFirst.cls y_Txt_lowFirst y_Txt_lowFirst ∈ TB := TB_of 256 (by decide +kernel) rfl
theorem Y_Tra_init : j_Y y_Tra_init b_Tra_init 1 none 0 := ⟨TB_of 93 (by decide +kernel) rfl, TB_of 6 (by decide +kernel) rfl, by decide +kernel, by decide +kernel, by decide +kernel⟩
theorem im_Tra_init : Cond.instanceMethod y_Tra_init ∈ TB := TB_of 92 (by decide +kernel) rfl
theorem oi_Dsk_1 : Cond.methodLink "WireDesk" 1 objectInit ∈ TB := TB_of 13 (by decide +kernel) rfl
theorem ml_Dsk_68 : Cond.methodLink "WireDesk" 68 y_Txt_hasRoom ∈ TB := TB_of 184 (by decide +kernel) rfl
theorem ml_Dsk_72 : Cond.methodLink "WireDesk" 72 y_Txt_addHighFirst ∈ TB := TB_of 188 (by decide +kernel) rfl
theorem ml_Dsk_76 : Cond.methodLink "WireDesk" 76 y_Txt_addLowFirst ∈ TB := TB_of 200 (by decide +kernel) rfl
theorem ml_Dsk_79 : Cond.methodLink "WireDesk" 79 y_Dsk_widthOfSize ∈ TB := TB_of 208 (by decide +kernel) rfl
theorem ml_Dsk_83 : Cond.methodLink "WireDesk" 83 y_Dsk_markOfWidth ∈ TB := TB_of 212 (by decide +kernel) rfl
theorem ml_Dsk_87 : Cond.methodLink "WireDesk" 87 y_Txt_copy ∈ TB := TB_of 219 (by decide +kernel) rfl
theorem ml_Dsk_91 : Cond.methodLink "WireDesk" 91 y_Txt_clear ∈ TB := TB_of 223 (by decide +kernel) rfl
theorem ml_Dsk_94 : Cond.methodLink "WireDesk" 94 y_Rea_begin ∈ TB := TB_of 227 (by decide +kernel) rfl
theorem ml_Dsk_97 : Cond.methodLink "WireDesk" 97 y_Rea_takeBlock ∈ TB := TB_of 231 (by decide +kernel) rfl
theorem ml_Dsk_101 : Cond.methodLink "WireDesk" 101 y_Rea_takeTransaction ∈ TB := TB_of 272 (by decide +kernel) rfl
theorem ml_Dsk_105 : Cond.methodLink "WireDesk" 105 y_Rea_finish ∈ TB := TB_of 273 (by decide +kernel) rfl
theorem ml_Dsk_112 : Cond.methodLink "WireDesk" 112 y_Dsk_forget ∈ TB := TB_of 277 (by decide +kernel) rfl
theorem ml_Dsk_115 : Cond.methodLink "WireDesk" 115 y_Dsk_nameTransactions ∈ TB := TB_of 281 (by decide +kernel) rfl
theorem ml_Dsk_121 : Cond.methodLink "WireDesk" 121 y_Nam_writeName ∈ TB := TB_of 285 (by decide +kernel) rfl
theorem ml_Dsk_125 : Cond.methodLink "WireDesk" 125 y_Row_putTogether ∈ TB := TB_of 315 (by decide +kernel) rfl
theorem ml_Dsk_129 : Cond.methodLink "WireDesk" 129 y_Txt_at ∈ TB := TB_of 340 (by decide +kernel) rfl
theorem ml_Dsk_134 : Cond.methodLink "WireDesk" 134 y_Txt_lowFirst ∈ TB := TB_of 346 (by decide +kernel) rfl
theorem ml_Dsk_138 : Cond.methodLink "WireDesk" 138 y_Dsk_hasTransaction ∈ TB := TB_of 351 (by decide +kernel) rfl
theorem ml_Dsk_171 : Cond.methodLink "WireDesk" 171 y_Dsk_eightBytes ∈ TB := TB_of 367 (by decide +kernel) rfl
theorem oi_Row_3 : Cond.methodLink "WireDesk$NameRow" 3 objectInit ∈ TB := TB_of 80 (by decide +kernel) rfl
theorem ml_Row_19 : Cond.methodLink "WireDesk$NameRow" 19 y_Row_putPairsTogether ∈ TB := TB_of 319 (by decide +kernel) rfl
theorem ml_Row_23 : Cond.methodLink "WireDesk$NameRow" 23 y_Row_repeat ∈ TB := TB_of 323 (by decide +kernel) rfl
theorem ml_Row_27 : Cond.methodLink "WireDesk$NameRow" 27 y_Row_alike ∈ TB := TB_of 327 (by decide +kernel) rfl
theorem ml_Row_31 : Cond.methodLink "WireDesk$NameRow" 31 y_Nam_writeName ∈ TB := TB_of 331 (by decide +kernel) rfl
theorem oi_Nam_3 : Cond.methodLink "WireDesk$Namer" 3 objectInit ∈ TB := TB_of 61 (by decide +kernel) rfl
theorem ml_Nam_22 : Cond.methodLink "WireDesk$Namer" 22 y_Nam_digest ∈ TB := TB_of 289 (by decide +kernel) rfl
theorem ml_Nam_26 : Cond.methodLink "WireDesk$Namer" 26 y_Nam_writeState ∈ TB := TB_of 311 (by decide +kernel) rfl
theorem ml_Nam_33 : Cond.methodLink "WireDesk$Namer" 33 y_Nam_paddedByte ∈ TB := TB_of 295 (by decide +kernel) rfl
theorem ml_Nam_37 : Cond.methodLink "WireDesk$Namer" 37 y_Nam_stretchSchedule ∈ TB := TB_of 298 (by decide +kernel) rfl
theorem ml_Nam_40 : Cond.methodLink "WireDesk$Namer" 40 y_Nam_mixChunk ∈ TB := TB_of 305 (by decide +kernel) rfl
theorem ml_Nam_43 : Cond.methodLink "WireDesk$Namer" 43 y_Nam_turn ∈ TB := TB_of 302 (by decide +kernel) rfl
theorem oi_Rea_3 : Cond.methodLink "WireDesk$Reader" 3 objectInit ∈ TB := TB_of 37 (by decide +kernel) rfl
theorem ml_Rea_31 : Cond.methodLink "WireDesk$Reader" 31 y_Rea_fail ∈ TB := TB_of 239 (by decide +kernel) rfl
theorem ml_Rea_35 : Cond.methodLink "WireDesk$Reader" 35 y_Rea_skip ∈ TB := TB_of 235 (by decide +kernel) rfl
theorem ml_Rea_39 : Cond.methodLink "WireDesk$Reader" 39 y_Rea_takeSize ∈ TB := TB_of 243 (by decide +kernel) rfl
theorem ml_Rea_43 : Cond.methodLink "WireDesk$Reader" 43 y_Rea_takeTransaction ∈ TB := TB_of 260 (by decide +kernel) rfl
theorem ml_Rea_55 : Cond.methodLink "WireDesk$Reader" 55 y_Rea_takeInput ∈ TB := TB_of 264 (by decide +kernel) rfl
theorem ml_Rea_62 : Cond.methodLink "WireDesk$Reader" 62 y_Rea_takeOutput ∈ TB := TB_of 268 (by decide +kernel) rfl
theorem ml_Rea_87 : Cond.methodLink "WireDesk$Reader" 87 y_Txt_at ∈ TB := TB_of 247 (by decide +kernel) rfl
theorem ml_Rea_93 : Cond.methodLink "WireDesk$Reader" 93 y_Txt_lowFirst ∈ TB := TB_of 254 (by decide +kernel) rfl
theorem oi_Txt_3 : Cond.methodLink "WireDesk$Text" 3 objectInit ∈ TB := TB_of 21 (by decide +kernel) rfl
theorem ml_Txt_19 : Cond.methodLink "WireDesk$Text" 19 y_Txt_add ∈ TB := TB_of 192 (by decide +kernel) rfl
theorem oi_Tra_3 : Cond.methodLink "WireDesk$Transaction" 3 objectInit ∈ TB := TB_of 94 (by decide +kernel) rfl
theorem ml_Law_9 : Cond.methodLink "WireDeskLaw" 9 y_Dsk_init ∈ TB := TB_of 10 (by decide +kernel) rfl
theorem ml_Law_12 : Cond.methodLink "WireDeskLaw" 12 y_Mod_init ∈ TB := TB_of 376 (by decide +kernel) rfl
theorem ml_Law_15 : Cond.methodLink "WireDeskLaw" 15 y_Dsk_put ∈ TB := TB_of 180 (by decide +kernel) rfl
theorem ml_Law_19 : Cond.methodLink "WireDeskLaw" 19 y_Mod_put ∈ TB := TB_of 492 (by decide +kernel) rfl
theorem ml_Law_20 : Cond.methodLink "WireDeskLaw" 20 y_Dsk_low ∈ TB := TB_of 196 (by decide +kernel) rfl
theorem ml_Law_23 : Cond.methodLink "WireDeskLaw" 23 y_Mod_low ∈ TB := TB_of 501 (by decide +kernel) rfl
theorem ml_Law_24 : Cond.methodLink "WireDeskLaw" 24 y_Dsk_compact ∈ TB := TB_of 204 (by decide +kernel) rfl
theorem ml_Law_28 : Cond.methodLink "WireDeskLaw" 28 y_Mod_compact ∈ TB := TB_of 505 (by decide +kernel) rfl
theorem ml_Law_29 : Cond.methodLink "WireDeskLaw" 29 y_Dsk_read ∈ TB := TB_of 215 (by decide +kernel) rfl
theorem ml_Law_33 : Cond.methodLink "WireDeskLaw" 33 y_Mod_read ∈ TB := TB_of 510 (by decide +kernel) rfl
theorem ml_Law_34 : Cond.methodLink "WireDeskLaw" 34 y_Dsk_place ∈ TB := TB_of 332 (by decide +kernel) rfl
theorem ml_Law_38 : Cond.methodLink "WireDeskLaw" 38 y_Mod_place ∈ TB := TB_of 564 (by decide +kernel) rfl
theorem ml_Law_39 : Cond.methodLink "WireDeskLaw" 39 y_Dsk_byteOf ∈ TB := TB_of 336 (by decide +kernel) rfl
theorem ml_Law_43 : Cond.methodLink "WireDeskLaw" 43 y_Mod_byteOf ∈ TB := TB_of 568 (by decide +kernel) rfl
theorem ml_Law_44 : Cond.methodLink "WireDeskLaw" 44 y_Dsk_head ∈ TB := TB_of 341 (by decide +kernel) rfl
theorem ml_Law_48 : Cond.methodLink "WireDeskLaw" 48 y_Mod_head ∈ TB := TB_of 572 (by decide +kernel) rfl
theorem ml_Law_49 : Cond.methodLink "WireDeskLaw" 49 y_Dsk_look ∈ TB := TB_of 347 (by decide +kernel) rfl
theorem ml_Law_53 : Cond.methodLink "WireDeskLaw" 53 y_Mod_look ∈ TB := TB_of 577 (by decide +kernel) rfl
theorem ml_Law_54 : Cond.methodLink "WireDeskLaw" 54 y_Dsk_input ∈ TB := TB_of 355 (by decide +kernel) rfl
theorem ml_Law_58 : Cond.methodLink "WireDeskLaw" 58 y_Mod_input ∈ TB := TB_of 585 (by decide +kernel) rfl
theorem ml_Law_59 : Cond.methodLink "WireDeskLaw" 59 y_Dsk_output ∈ TB := TB_of 359 (by decide +kernel) rfl
theorem ml_Law_62 : Cond.methodLink "WireDeskLaw" 62 y_Mod_output ∈ TB := TB_of 589 (by decide +kernel) rfl
theorem ml_Law_63 : Cond.methodLink "WireDeskLaw" 63 y_Dsk_name ∈ TB := TB_of 363 (by decide +kernel) rfl
theorem ml_Law_66 : Cond.methodLink "WireDeskLaw" 66 y_Mod_name ∈ TB := TB_of 593 (by decide +kernel) rfl
theorem ml_Law_67 : Cond.methodLink "WireDeskLaw" 67 y_Dsk_isDoubtful ∈ TB := TB_of 370 (by decide +kernel) rfl
theorem ml_Law_71 : Cond.methodLink "WireDeskLaw" 71 y_Mod_isDoubtful ∈ TB := TB_of 597 (by decide +kernel) rfl
theorem oi_Mod_1 : Cond.methodLink "WireDeskModel" 1 objectInit ∈ TB := TB_of 379 (by decide +kernel) rfl
theorem ml_Mod_84 : Cond.methodLink "WireDeskModel" 84 y_Mod_isPrime ∈ TB := TB_of 380 (by decide +kernel) rfl
theorem ml_Mod_88 : Cond.methodLink "WireDeskModel" 88 y_Mod_rootOf ∈ TB := TB_of 383 (by decide +kernel) rfl
theorem ml_Mod_94 : Cond.methodLink "WireDeskModel" 94 y_Mod_fits ∈ TB := TB_of 387 (by decide +kernel) rfl
theorem ml_Mod_108 : Cond.methodLink "WireDeskModel" 108 y_Mod_block ∈ TB := TB_of 547 (by decide +kernel) rfl
theorem ml_Mod_114 : Cond.methodLink "WireDeskModel" 114 y_Mod_turn ∈ TB := TB_of 552 (by decide +kernel) rfl
theorem ml_Mod_120 : Cond.methodLink "WireDeskModel" 120 y_Mod_not ∈ TB := TB_of 556 (by decide +kernel) rfl
theorem ml_Mod_124 : Cond.methodLink "WireDeskModel" 124 y_Mod_twice ∈ TB := TB_of 538 (by decide +kernel) rfl
theorem ml_Mod_127 : Cond.methodLink "WireDeskModel" 127 y_Mod_digestOf ∈ TB := TB_of 542 (by decide +kernel) rfl
theorem ml_Mod_149 : Cond.methodLink "WireDeskModel" 149 y_Mod_fails ∈ TB := TB_of 518 (by decide +kernel) rfl
theorem ml_Mod_153 : Cond.methodLink "WireDeskModel" 153 y_Mod_pass ∈ TB := TB_of 514 (by decide +kernel) rfl
theorem ml_Mod_156 : Cond.methodLink "WireDeskModel" 156 y_Mod_lowAt ∈ TB := TB_of 526 (by decide +kernel) rfl
theorem ml_Mod_161 : Cond.methodLink "WireDeskModel" 161 y_Mod_sizeOf ∈ TB := TB_of 522 (by decide +kernel) rfl
theorem ml_Mod_165 : Cond.methodLink "WireDeskModel" 165 y_Mod_lay ∈ TB := TB_of 496 (by decide +kernel) rfl
theorem ml_Mod_175 : Cond.methodLink "WireDeskModel" 175 y_Mod_transaction ∈ TB := TB_of 530 (by decide +kernel) rfl
theorem ml_Mod_178 : Cond.methodLink "WireDeskModel" 178 y_Mod_nameOf ∈ TB := TB_of 534 (by decide +kernel) rfl
theorem ml_Mod_182 : Cond.methodLink "WireDeskModel" 182 y_Mod_join ∈ TB := TB_of 560 (by decide +kernel) rfl
theorem ml_Mod_187 : Cond.methodLink "WireDeskModel" 187 y_Mod_isTransaction ∈ TB := TB_of 581 (by decide +kernel) rfl
theorem oi_i : Cond.instanceMethod objectInit ∈ TB := TB_of 14 (by decide +kernel) rfl
theorem oi_c : Cond.code objectInit ⟨#[0xb1]⟩ 1 none ∈ TB := TB_of 15 (by decide +kernel) rfl
theorem ml_Dsk_9 : Cond.methodLinkNest "WireDesk" 9 y_Txt_init "WireDesk" ∈ jN := by decide +kernel
theorem ml_Dsk_18 : Cond.methodLinkNest "WireDesk" 18 y_Rea_init "WireDesk" ∈ jN := by decide +kernel
theorem ml_Dsk_31 : Cond.methodLinkNest "WireDesk" 31 y_Nam_init "WireDesk" ∈ jN := by decide +kernel
theorem ml_Dsk_62 : Cond.methodLinkNest "WireDesk" 62 y_Row_init "WireDesk" ∈ jN := by decide +kernel
theorem ml_Dsk_67 : Cond.methodLinkNest "WireDesk" 67 y_Tra_init "WireDesk" ∈ jN := by decide +kernel
theorem ml_Rea_11 : Cond.methodLinkNest "WireDesk$Reader" 11 y_Txt_init "WireDesk" ∈ jN := by decide +kernel
theorem ml_Rea_90 : Cond.methodLinkNest "WireDesk$Reader" 90 y_Dsk_widthOfMark "WireDesk" ∈ jN := by decide +kernel
theorem ml_Rea_97 : Cond.methodLinkNest "WireDesk$Reader" 97 y_Dsk_widthOfSize "WireDesk" ∈ jN := by decide +kernel
theorem k_Dsk_132 : Cond.constantLong "WireDesk" 132 (-1) ∈ TB := TB_of 345 (by decide +kernel) rfl
theorem k_Dsk_181 : Cond.constantLong "WireDesk" 181 (253) ∈ TB := TB_of 211 (by decide +kernel) rfl
theorem k_Txt_23 : Cond.constantLong "WireDesk$Text" 23 (-1) ∈ TB := TB_of 258 (by decide +kernel) rfl
theorem k_Law_13 : Cond.constantLong "WireDeskLaw" 13 (4294967295) ∈ TB := TB_of 601 (by decide +kernel) rfl
theorem k_Mod_92 : Cond.constantLong "WireDeskModel" 92 (4294967296) ∈ TB := TB_of 393 (by decide +kernel) rfl
theorem k_Mod_98 : Cond.constantLong "WireDeskModel" 98 (65535) ∈ TB := TB_of 391 (by decide +kernel) rfl
theorem k_Mod_100 : Cond.constantLong "WireDeskModel" 100 (65536) ∈ TB := TB_of 392 (by decide +kernel) rfl
theorem k_Mod_102 : Cond.constantLong "WireDeskModel" 102 (4294967295) ∈ TB := TB_of 559 (by decide +kernel) rfl
theorem k_Mod_104 : Cond.constantLong "WireDeskModel" 104 (8) ∈ TB := TB_of 546 (by decide +kernel) rfl
theorem k_Mod_106 : Cond.constantLong "WireDeskModel" 106 (255) ∈ TB := TB_of 500 (by decide +kernel) rfl
theorem k_Mod_112 : Cond.constantLong "WireDeskModel" 112 (256) ∈ TB := TB_of 551 (by decide +kernel) rfl
theorem k_Mod_118 : Cond.constantLong "WireDeskModel" 118 (1024) ∈ TB := TB_of 555 (by decide +kernel) rfl
theorem k_Mod_159 : Cond.constantLong "WireDeskModel" 159 (253) ∈ TB := TB_of 509 (by decide +kernel) rfl
theorem k_Mod_185 : Cond.constantLong "WireDeskModel" 185 (-1) ∈ TB := TB_of 576 (by decide +kernel) rfl
theorem cl_Dsk_7 : Cond.classLink "WireDesk" 7 "WireDesk$Text" ∈ TB := TB_of 16 (by decide +kernel) rfl
theorem N_Dsk_7 : j_N "WireDesk" 7 3 2 [.null, .int 0] := ⟨R_Txt, T_Txt, t_Txt, i_Txt, rfl, t_Txt_ok, TB_of 16 (by decide +kernel) rfl, TB_of 17 (by decide +kernel) rfl, TB_of 2 (by decide +kernel) rfl, by decide +kernel⟩
theorem cl_Dsk_16 : Cond.classLink "WireDesk" 16 "WireDesk$Reader" ∈ TB := TB_of 32 (by decide +kernel) rfl
theorem N_Dsk_16 : j_N "WireDesk" 16 2 4 [.null, .int 0, .int 0, .int 0] := ⟨R_Rea, T_Rea, t_Rea, i_Rea, rfl, t_Rea_ok, TB_of 32 (by decide +kernel) rfl, TB_of 33 (by decide +kernel) rfl, TB_of 3 (by decide +kernel) rfl, by decide +kernel⟩
theorem cl_Dsk_29 : Cond.classLink "WireDesk" 29 "WireDesk$Namer" ∈ TB := TB_of 56 (by decide +kernel) rfl
theorem N_Dsk_29 : j_N "WireDesk" 29 1 3 [.null, .null, .null] := ⟨R_Nam, T_Nam, t_Nam, i_Nam, rfl, t_Nam_ok, TB_of 56 (by decide +kernel) rfl, TB_of 57 (by decide +kernel) rfl, TB_of 4 (by decide +kernel) rfl, by decide +kernel⟩
theorem cl_Dsk_36 : Cond.classLink "WireDesk" 36 "WireDesk$Transaction" ∈ TB := TB_of 73 (by decide +kernel) rfl
theorem N_Dsk_36 : j_N "WireDesk" 36 4 10 [.int 0, .int 0, .int 0, .int 0, .null, .null, .null, .null, .null, .null] := ⟨R_Tra, T_Tra, t_Tra, i_Tra, rfl, t_Tra_ok, TB_of 73 (by decide +kernel) rfl, TB_of 90 (by decide +kernel) rfl, TB_of 6 (by decide +kernel) rfl, by decide +kernel⟩
theorem cl_Dsk_60 : Cond.classLink "WireDesk" 60 "WireDesk$NameRow" ∈ TB := TB_of 75 (by decide +kernel) rfl
theorem N_Dsk_60 : j_N "WireDesk" 60 0 2 [.null, .int 0] := ⟨R_Row, T_Row, t_Row, i_Row, rfl, t_Row_ok, TB_of 75 (by decide +kernel) rfl, TB_of 76 (by decide +kernel) rfl, TB_of 5 (by decide +kernel) rfl, by decide +kernel⟩
theorem cl_Rea_9 : Cond.classLink "WireDesk$Reader" 9 "WireDesk$Text" ∈ TB := TB_of 38 (by decide +kernel) rfl
theorem N_Rea_9 : j_N "WireDesk$Reader" 9 3 2 [.null, .int 0] := ⟨R_Txt, T_Txt, t_Txt, i_Txt, rfl, t_Txt_ok, TB_of 38 (by decide +kernel) rfl, TB_of 17 (by decide +kernel) rfl, TB_of 2 (by decide +kernel) rfl, by decide +kernel⟩
theorem cl_Law_7 : Cond.classLink "WireDeskLaw" 7 "WireDesk" ∈ TB := TB_of 8 (by decide +kernel) rfl
theorem N_Law_7 : j_N "WireDeskLaw" 7 5 11 [.null, .null, .null, .null, .null, .int 0, .int 0, .int 0, .null, .null, .null] := ⟨R_Dsk, T_Dsk, t_Dsk, i_Dsk, rfl, t_Dsk_ok, TB_of 8 (by decide +kernel) rfl, TB_of 9 (by decide +kernel) rfl, TB_of 1 (by decide +kernel) rfl, by decide +kernel⟩
theorem cl_Law_10 : Cond.classLink "WireDeskLaw" 10 "WireDeskModel" ∈ TB := TB_of 374 (by decide +kernel) rfl
theorem N_Law_10 : j_N "WireDeskLaw" 10 6 32 [.null, .int 0, .null, .int 0, .int 0, .int 0, .int 0, .int 0, .int 0, .int 0, .null, .null, .null, .null, .null, .null, .null, .null, .null, .null, .null, .null, .null, .int 0, .null, .null, .null, .null, .null, .null, .null, .null] := ⟨R_Mod, T_Mod, t_Mod, i_Mod, rfl, t_Mod_ok, TB_of 374 (by decide +kernel) rfl, TB_of 375 (by decide +kernel) rfl, TB_of 7 (by decide +kernel) rfl, by decide +kernel⟩
theorem ac_byte : Cond.arrayClass .byte ∈ TB := TB_of 31 (by decide +kernel) rfl
theorem ac_int : Cond.arrayClass .int ∈ TB := TB_of 72 (by decide +kernel) rfl
theorem ac_long : Cond.arrayClass .long ∈ TB := TB_of 491 (by decide +kernel) rfl
theorem fs_Nam_30 : Cond.fieldLink "WireDesk$Namer" 30 "WireDesk$Namer" "START" "[I" ∈ TB := TB_of 293 (by decide +kernel) rfl
theorem fs_Nam_47 : Cond.fieldLink "WireDesk$Namer" 47 "WireDesk$Namer" "ROUND" "[I" ∈ TB := TB_of 309 (by decide +kernel) rfl
