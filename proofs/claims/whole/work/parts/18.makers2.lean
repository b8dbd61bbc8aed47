theorem li_D_11 : zLkI "DebtDoors" 11 y_To_init 0 := ⟨Or.inl ⟨"DebtDoors", List.mem_of_getElem? (i := 169) (by decide +kernel)⟩, (zTb_in 170 (by decide +kernel) (by decide +kernel)), rfl, (zTb_in 140 (by decide +kernel) (by decide +kernel)), (zTb_in 171 (by decide +kernel) (by decide +kernel)), by decide +kernel, by decide +kernel, rfl⟩
theorem fl_D_12 : zFl "DebtDoors" 12 11 0 := ⟨_, rfl, by decide, (zTb_in 534 (by decide +kernel) (by decide +kernel)), rfl⟩
theorem fl_D_16 : zFl "DebtDoors" 16 11 1 := ⟨_, rfl, by decide, (zTb_in 535 (by decide +kernel) (by decide +kernel)), rfl⟩
theorem fl_D_20 : zFl "DebtDoors" 20 11 2 := ⟨_, rfl, by decide, (zTb_in 536 (by decide +kernel) (by decide +kernel)), rfl⟩
theorem li_D_26 : zLkI "DebtDoors" 26 y_Le_init 0 := ⟨Or.inl ⟨"DebtDoors", List.mem_of_getElem? (i := 292) (by decide +kernel)⟩, (zTb_in 176 (by decide +kernel) (by decide +kernel)), rfl, (zTb_in 141 (by decide +kernel) (by decide +kernel)), (zTb_in 177 (by decide +kernel) (by decide +kernel)), by decide +kernel, by decide +kernel, rfl⟩
theorem fl_D_27 : zFl "DebtDoors" 27 11 3 := ⟨_, rfl, by decide, (zTb_in 537 (by decide +kernel) (by decide +kernel)), rfl⟩
theorem li_D_33 : zLkI "DebtDoors" 33 y_Un_init 0 := ⟨Or.inr (zTb_in 295 (by decide +kernel) (by decide +kernel)), (zTb_in 296 (by decide +kernel) (by decide +kernel)), rfl, (zTb_in 142 (by decide +kernel) (by decide +kernel)), (zTb_in 297 (by decide +kernel) (by decide +kernel)), by decide +kernel, by decide +kernel, rfl⟩
theorem fl_D_34 : zFl "DebtDoors" 34 11 4 := ⟨_, rfl, by decide, (zTb_in 538 (by decide +kernel) (by decide +kernel)), rfl⟩
theorem fl_D_38 : zFl "DebtDoors" 38 11 5 := ⟨_, rfl, by decide, (zTb_in 539 (by decide +kernel) (by decide +kernel)), rfl⟩
theorem li_D_43 : zLkI "DebtDoors" 43 y_Re_init 0 := ⟨Or.inl ⟨"DebtDoors", List.mem_of_getElem? (i := 319) (by decide +kernel)⟩, (zTb_in 320 (by decide +kernel) (by decide +kernel)), rfl, (zTb_in 143 (by decide +kernel) (by decide +kernel)), (zTb_in 321 (by decide +kernel) (by decide +kernel)), by decide +kernel, by decide +kernel, rfl⟩
theorem fl_D_44 : zFl "DebtDoors" 44 11 6 := ⟨_, rfl, by decide, (zTb_in 540 (by decide +kernel) (by decide +kernel)), rfl⟩
theorem li_D_50 : zLkI "DebtDoors" 50 y_Ru_init 0 := ⟨Or.inl ⟨"DebtDoors", List.mem_of_getElem? (i := 363) (by decide +kernel)⟩, (zTb_in 364 (by decide +kernel) (by decide +kernel)), rfl, (zTb_in 144 (by decide +kernel) (by decide +kernel)), (zTb_in 365 (by decide +kernel) (by decide +kernel)), by decide +kernel, by decide +kernel, rfl⟩
theorem fl_D_51 : zFl "DebtDoors" 51 11 7 := ⟨_, rfl, by decide, (zTb_in 541 (by decide +kernel) (by decide +kernel)), rfl⟩
theorem li_D_57 : zLkI "DebtDoors" 57 y_Ln_init 0 := ⟨Or.inl ⟨"DebtDoors", List.mem_of_getElem? (i := 394) (by decide +kernel)⟩, (zTb_in 395 (by decide +kernel) (by decide +kernel)), rfl, (zTb_in 146 (by decide +kernel) (by decide +kernel)), (zTb_in 396 (by decide +kernel) (by decide +kernel)), by decide +kernel, by decide +kernel, rfl⟩
theorem fl_D_58 : zFl "DebtDoors" 58 11 8 := ⟨_, rfl, by decide, (zTb_in 542 (by decide +kernel) (by decide +kernel)), rfl⟩
theorem li_D_64 : zLkI "DebtDoors" 64 y_Pl_init 0 := ⟨Or.inl ⟨"DebtDoors", List.mem_of_getElem? (i := 424) (by decide +kernel)⟩, (zTb_in 425 (by decide +kernel) (by decide +kernel)), rfl, (zTb_in 147 (by decide +kernel) (by decide +kernel)), (zTb_in 426 (by decide +kernel) (by decide +kernel)), by decide +kernel, by decide +kernel, rfl⟩
theorem fl_D_65 : zFl "DebtDoors" 65 11 9 := ⟨_, rfl, by decide, (zTb_in 543 (by decide +kernel) (by decide +kernel)), rfl⟩
theorem li_D_71 : zLkI "DebtDoors" 71 y_Th_init 0 := ⟨Or.inl ⟨"DebtDoors", List.mem_of_getElem? (i := 459) (by decide +kernel)⟩, (zTb_in 460 (by decide +kernel) (by decide +kernel)), rfl, (zTb_in 148 (by decide +kernel) (by decide +kernel)), (zTb_in 461 (by decide +kernel) (by decide +kernel)), by decide +kernel, by decide +kernel, rfl⟩
theorem fl_D_72 : zFl "DebtDoors" 72 11 10 := ⟨_, rfl, by decide, (zTb_in 544 (by decide +kernel) (by decide +kernel)), rfl⟩
theorem li_D_78 : zLkI "DebtDoors" 78 y_Cl_init 0 := ⟨Or.inl ⟨"DebtDoors", List.mem_of_getElem? (i := 495) (by decide +kernel)⟩, (zTb_in 496 (by decide +kernel) (by decide +kernel)), rfl, (zTb_in 149 (by decide +kernel) (by decide +kernel)), (zTb_in 497 (by decide +kernel) (by decide +kernel)), by decide +kernel, by decide +kernel, rfl⟩
theorem fl_D_79 : zFl "DebtDoors" 79 11 11 := ⟨_, rfl, by decide, (zTb_in 545 (by decide +kernel) (by decide +kernel)), rfl⟩
theorem li_D_85 : zLkI "DebtDoors" 85 y_Mo_init 0 := ⟨Or.inl ⟨"DebtDoors", List.mem_of_getElem? (i := 519) (by decide +kernel)⟩, (zTb_in 520 (by decide +kernel) (by decide +kernel)), rfl, (zTb_in 150 (by decide +kernel) (by decide +kernel)), (zTb_in 521 (by decide +kernel) (by decide +kernel)), by decide +kernel, by decide +kernel, rfl⟩
theorem fl_D_86 : zFl "DebtDoors" 86 11 12 := ⟨_, rfl, by decide, (zTb_in 546 (by decide +kernel) (by decide +kernel)), rfl⟩
theorem fl_D_90 : zFl "DebtDoors" 90 11 13 := ⟨_, rfl, by decide, (zTb_in 547 (by decide +kernel) (by decide +kernel)), rfl⟩
theorem fl_D_94 : zFl "DebtDoors" 94 11 14 := ⟨_, rfl, by decide, (zTb_in 548 (by decide +kernel) (by decide +kernel)), rfl⟩
theorem fl_D_97 : zFl "DebtDoors" 97 11 17 := ⟨_, rfl, by decide, (zTb_in 551 (by decide +kernel) (by decide +kernel)), rfl⟩
theorem fp_11_17 : zFp 11 17 0 := ⟨_, rfl, rfl, rfl, by decide⟩
theorem fl_D_101 : zFl "DebtDoors" 101 11 19 := ⟨_, rfl, by decide, (zTb_in 553 (by decide +kernel) (by decide +kernel)), rfl⟩
theorem fp_11_19 : zFp 11 19 0 := ⟨_, rfl, rfl, rfl, by decide⟩
def y_D_init : zMt := (⟨"DebtDoors", "<init>", "()V"⟩, prog_1_method_1_code, 2, none)
def R_D_init : List zSh := zT0.take 355
def V_D_init : List (Nat × Int × Int) := [(0, 19, (-1)), (0, 17, (-1)), (321, 3, (-1)), (70, 11, (-1)), (36, 11, (-1)), (1, 11, (-1))]
theorem d_D_init_0 : decode prog_1_method_1_code 0 = .ok (.aload_n 0, 1) := by decide +kernel
theorem d_D_init_1 : decode prog_1_method_1_code 1 = .ok (.invokespecial 3, 3) := by decide +kernel
theorem d_D_init_4 : decode prog_1_method_1_code 4 = .ok (.aload_n 0, 1) := by decide +kernel
theorem d_D_init_5 : decode prog_1_method_1_code 5 = .ok (.new 9, 3) := by decide +kernel
theorem d_D_init_8 : decode prog_1_method_1_code 8 = .ok (.dup, 1) := by decide +kernel
theorem d_D_init_9 : decode prog_1_method_1_code 9 = .ok (.invokespecial 11, 3) := by decide +kernel
theorem d_D_init_12 : decode prog_1_method_1_code 12 = .ok (.putfield 12, 3) := by decide +kernel
theorem d_D_init_15 : decode prog_1_method_1_code 15 = .ok (.aload_n 0, 1) := by decide +kernel
theorem d_D_init_16 : decode prog_1_method_1_code 16 = .ok (.iconst 2, 1) := by decide +kernel
theorem d_D_init_17 : decode prog_1_method_1_code 17 = .ok (.anewarray 9, 3) := by decide +kernel
theorem d_D_init_20 : decode prog_1_method_1_code 20 = .ok (.putfield 16, 3) := by decide +kernel
theorem d_D_init_23 : decode prog_1_method_1_code 23 = .ok (.iconst 0, 1) := by decide +kernel
theorem d_D_init_24 : decode prog_1_method_1_code 24 = .ok (.istore_n 1, 1) := by decide +kernel
theorem d_D_init_25 : decode prog_1_method_1_code 25 = .ok (.iload_n 1, 1) := by decide +kernel
theorem d_D_init_26 : decode prog_1_method_1_code 26 = .ok (.iconst 2, 1) := by decide +kernel
theorem d_D_init_27 : decode prog_1_method_1_code 27 = .ok (.if_icmp .ge 22, 3) := by decide +kernel
theorem d_D_init_30 : decode prog_1_method_1_code 30 = .ok (.aload_n 0, 1) := by decide +kernel
theorem d_D_init_31 : decode prog_1_method_1_code 31 = .ok (.getfield 16, 3) := by decide +kernel
theorem d_D_init_34 : decode prog_1_method_1_code 34 = .ok (.iload_n 1, 1) := by decide +kernel
theorem d_D_init_35 : decode prog_1_method_1_code 35 = .ok (.new 9, 3) := by decide +kernel
theorem d_D_init_38 : decode prog_1_method_1_code 38 = .ok (.dup, 1) := by decide +kernel
theorem d_D_init_39 : decode prog_1_method_1_code 39 = .ok (.invokespecial 11, 3) := by decide +kernel
theorem d_D_init_42 : decode prog_1_method_1_code 42 = .ok (.aastore, 1) := by decide +kernel
theorem d_D_init_43 : decode prog_1_method_1_code 43 = .ok (.iinc 1 1, 3) := by decide +kernel
theorem d_D_init_46 : decode prog_1_method_1_code 46 = .ok (.goto (-21), 3) := by decide +kernel
theorem d_D_init_49 : decode prog_1_method_1_code 49 = .ok (.aload_n 0, 1) := by decide +kernel
theorem d_D_init_50 : decode prog_1_method_1_code 50 = .ok (.iconst 2, 1) := by decide +kernel
theorem d_D_init_51 : decode prog_1_method_1_code 51 = .ok (.newarray .boolean, 2) := by decide +kernel
theorem d_D_init_53 : decode prog_1_method_1_code 53 = .ok (.putfield 20, 3) := by decide +kernel
theorem d_D_init_56 : decode prog_1_method_1_code 56 = .ok (.aload_n 0, 1) := by decide +kernel
theorem d_D_init_57 : decode prog_1_method_1_code 57 = .ok (.new 24, 3) := by decide +kernel
theorem d_D_init_60 : decode prog_1_method_1_code 60 = .ok (.dup, 1) := by decide +kernel
theorem d_D_init_61 : decode prog_1_method_1_code 61 = .ok (.invokespecial 26, 3) := by decide +kernel
theorem d_D_init_64 : decode prog_1_method_1_code 64 = .ok (.putfield 27, 3) := by decide +kernel
theorem d_D_init_67 : decode prog_1_method_1_code 67 = .ok (.aload_n 0, 1) := by decide +kernel
theorem d_D_init_68 : decode prog_1_method_1_code 68 = .ok (.new 31, 3) := by decide +kernel
theorem d_D_init_71 : decode prog_1_method_1_code 71 = .ok (.dup, 1) := by decide +kernel
theorem d_D_init_72 : decode prog_1_method_1_code 72 = .ok (.invokespecial 33, 3) := by decide +kernel
theorem d_D_init_75 : decode prog_1_method_1_code 75 = .ok (.putfield 34, 3) := by decide +kernel
theorem d_D_init_78 : decode prog_1_method_1_code 78 = .ok (.aload_n 0, 1) := by decide +kernel
theorem d_D_init_79 : decode prog_1_method_1_code 79 = .ok (.new 31, 3) := by decide +kernel
theorem d_D_init_82 : decode prog_1_method_1_code 82 = .ok (.dup, 1) := by decide +kernel
theorem d_D_init_83 : decode prog_1_method_1_code 83 = .ok (.invokespecial 33, 3) := by decide +kernel
theorem d_D_init_86 : decode prog_1_method_1_code 86 = .ok (.putfield 38, 3) := by decide +kernel
theorem d_D_init_89 : decode prog_1_method_1_code 89 = .ok (.aload_n 0, 1) := by decide +kernel
theorem d_D_init_90 : decode prog_1_method_1_code 90 = .ok (.new 41, 3) := by decide +kernel
theorem d_D_init_93 : decode prog_1_method_1_code 93 = .ok (.dup, 1) := by decide +kernel
theorem d_D_init_94 : decode prog_1_method_1_code 94 = .ok (.invokespecial 43, 3) := by decide +kernel
theorem d_D_init_97 : decode prog_1_method_1_code 97 = .ok (.putfield 44, 3) := by decide +kernel
theorem d_D_init_100 : decode prog_1_method_1_code 100 = .ok (.aload_n 0, 1) := by decide +kernel
theorem d_D_init_101 : decode prog_1_method_1_code 101 = .ok (.new 48, 3) := by decide +kernel
theorem d_D_init_104 : decode prog_1_method_1_code 104 = .ok (.dup, 1) := by decide +kernel
theorem d_D_init_105 : decode prog_1_method_1_code 105 = .ok (.invokespecial 50, 3) := by decide +kernel
theorem d_D_init_108 : decode prog_1_method_1_code 108 = .ok (.putfield 51, 3) := by decide +kernel
theorem d_D_init_111 : decode prog_1_method_1_code 111 = .ok (.aload_n 0, 1) := by decide +kernel
theorem d_D_init_112 : decode prog_1_method_1_code 112 = .ok (.new 55, 3) := by decide +kernel
theorem d_D_init_115 : decode prog_1_method_1_code 115 = .ok (.dup, 1) := by decide +kernel
theorem d_D_init_116 : decode prog_1_method_1_code 116 = .ok (.invokespecial 57, 3) := by decide +kernel
theorem d_D_init_119 : decode prog_1_method_1_code 119 = .ok (.putfield 58, 3) := by decide +kernel
theorem d_D_init_122 : decode prog_1_method_1_code 122 = .ok (.aload_n 0, 1) := by decide +kernel
theorem d_D_init_123 : decode prog_1_method_1_code 123 = .ok (.new 62, 3) := by decide +kernel
theorem d_D_init_126 : decode prog_1_method_1_code 126 = .ok (.dup, 1) := by decide +kernel
theorem d_D_init_127 : decode prog_1_method_1_code 127 = .ok (.invokespecial 64, 3) := by decide +kernel
theorem d_D_init_130 : decode prog_1_method_1_code 130 = .ok (.putfield 65, 3) := by decide +kernel
theorem d_D_init_133 : decode prog_1_method_1_code 133 = .ok (.aload_n 0, 1) := by decide +kernel
theorem d_D_init_134 : decode prog_1_method_1_code 134 = .ok (.new 69, 3) := by decide +kernel
theorem d_D_init_137 : decode prog_1_method_1_code 137 = .ok (.dup, 1) := by decide +kernel
theorem d_D_init_138 : decode prog_1_method_1_code 138 = .ok (.invokespecial 71, 3) := by decide +kernel
theorem d_D_init_141 : decode prog_1_method_1_code 141 = .ok (.putfield 72, 3) := by decide +kernel
theorem d_D_init_144 : decode prog_1_method_1_code 144 = .ok (.aload_n 0, 1) := by decide +kernel
theorem d_D_init_145 : decode prog_1_method_1_code 145 = .ok (.new 76, 3) := by decide +kernel
theorem d_D_init_148 : decode prog_1_method_1_code 148 = .ok (.dup, 1) := by decide +kernel
theorem d_D_init_149 : decode prog_1_method_1_code 149 = .ok (.invokespecial 78, 3) := by decide +kernel
theorem d_D_init_152 : decode prog_1_method_1_code 152 = .ok (.putfield 79, 3) := by decide +kernel
theorem d_D_init_155 : decode prog_1_method_1_code 155 = .ok (.aload_n 0, 1) := by decide +kernel
theorem d_D_init_156 : decode prog_1_method_1_code 156 = .ok (.new 83, 3) := by decide +kernel
theorem d_D_init_159 : decode prog_1_method_1_code 159 = .ok (.dup, 1) := by decide +kernel
theorem d_D_init_160 : decode prog_1_method_1_code 160 = .ok (.invokespecial 85, 3) := by decide +kernel
theorem d_D_init_163 : decode prog_1_method_1_code 163 = .ok (.putfield 86, 3) := by decide +kernel
theorem d_D_init_166 : decode prog_1_method_1_code 166 = .ok (.aload_n 0, 1) := by decide +kernel
theorem d_D_init_167 : decode prog_1_method_1_code 167 = .ok (.bipush 49, 2) := by decide +kernel
theorem d_D_init_169 : decode prog_1_method_1_code 169 = .ok (.newarray .int, 2) := by decide +kernel
theorem d_D_init_171 : decode prog_1_method_1_code 171 = .ok (.putfield 90, 3) := by decide +kernel
theorem d_D_init_174 : decode prog_1_method_1_code 174 = .ok (.aload_n 0, 1) := by decide +kernel
theorem d_D_init_175 : decode prog_1_method_1_code 175 = .ok (.bipush 7, 2) := by decide +kernel
theorem d_D_init_177 : decode prog_1_method_1_code 177 = .ok (.newarray .int, 2) := by decide +kernel
theorem d_D_init_179 : decode prog_1_method_1_code 179 = .ok (.putfield 94, 3) := by decide +kernel
theorem d_D_init_182 : decode prog_1_method_1_code 182 = .ok (.aload_n 0, 1) := by decide +kernel
theorem d_D_init_183 : decode prog_1_method_1_code 183 = .ok (.iconst (-1), 1) := by decide +kernel
theorem d_D_init_184 : decode prog_1_method_1_code 184 = .ok (.putfield 97, 3) := by decide +kernel
theorem d_D_init_187 : decode prog_1_method_1_code 187 = .ok (.aload_n 0, 1) := by decide +kernel
theorem d_D_init_188 : decode prog_1_method_1_code 188 = .ok (.iconst (-1), 1) := by decide +kernel
theorem d_D_init_189 : decode prog_1_method_1_code 189 = .ok (.putfield 101, 3) := by decide +kernel
theorem d_D_init_192 : decode prog_1_method_1_code 192 = .ok (.return_, 1) := by decide +kernel
def R_D_init_1 : List zSh := [.inl (11, [.inr (some 1), .inr (some 35), .inr (some 104), .inr (some 105), .inr (some 111), .inr (some 216), .inr none, .inr none, .inr none, .inr none, .inr none, .inr none, .inr none, .inr none, .inr none, .inl 0, .inl 0, .inl 0, .inl 0, .inl 0]),
  .inl (9, [.inr (some 2), .inr (some 8), .inr (some 9), .inr (some 10), .inr (some 19), .inr (some 28), .inl 0, .inl 0, .inl 0, .inl 0, .inl 0, .inl 0]),
  .inl (1, [.inr (some 3), .inr (some 4), .inr (some 5), .inr (some 6), .inr (some 7), .inl 0, .inl 0]),
  .inr (0, 7, []),
  .inr (0, 16, []),
  .inr (0, 16, []),
  .inr (0, 16, []),
  .inr (0, 16, []),
  .inr (0, 7, []),
  .inr (0, 7, []),
  .inr (4, 8, [some 11, some 12, some 13, some 14, some 15, some 16, some 17, some 18]),
  .inr (0, 4, []),
  .inr (0, 4, []),
  .inr (0, 4, []),
  .inr (0, 4, []),
  .inr (0, 4, []),
  .inr (0, 4, []),
  .inr (0, 4, []),
  .inr (0, 4, []),
  .inr (4, 8, [some 20, some 21, some 22, some 23, some 24, some 25, some 26, some 27]),
  .inr (0, 4, []),
  .inr (0, 4, []),
  .inr (0, 4, []),
  .inr (0, 4, []),
  .inr (0, 4, []),
  .inr (0, 4, []),
  .inr (0, 4, []),
  .inr (0, 4, []),
  .inr (4, 6, [some 29, some 30, some 31, some 32, some 33, some 34]),
  .inr (0, 385, []),
  .inr (0, 385, []),
  .inr (0, 385, []),
  .inr (0, 385, []),
  .inr (0, 385, []),
  .inr (0, 385, []),
  .inr (5, 2, [some 36, some 70]),
  .inl (9, [.inr (some 37), .inr (some 43), .inr (some 44), .inr (some 45), .inr (some 54), .inr (some 63), .inl 0, .inl 0, .inl 0, .inl 0, .inl 0, .inl 0]),
  .inl (1, [.inr (some 38), .inr (some 39), .inr (some 40), .inr (some 41), .inr (some 42), .inl 0, .inl 0]),
  .inr (0, 7, []),
  .inr (0, 16, []),
  .inr (0, 16, []),
  .inr (0, 16, []),
  .inr (0, 16, []),
  .inr (0, 7, []),
  .inr (0, 7, []),
  .inr (4, 8, [some 46, some 47, some 48, some 49, some 50, some 51, some 52, some 53]),
  .inr (0, 4, []),
  .inr (0, 4, []),
  .inr (0, 4, []),
  .inr (0, 4, []),
  .inr (0, 4, []),
  .inr (0, 4, []),
  .inr (0, 4, []),
  .inr (0, 4, []),
  .inr (4, 8, [some 55, some 56, some 57, some 58, some 59, some 60, some 61, some 62]),
  .inr (0, 4, []),
  .inr (0, 4, []),
  .inr (0, 4, []),
  .inr (0, 4, []),
  .inr (0, 4, []),
  .inr (0, 4, []),
  .inr (0, 4, []),
  .inr (0, 4, []),
  .inr (4, 6, [some 64, some 65, some 66, some 67, some 68, some 69]),
  .inr (0, 385, []),
  .inr (0, 385, []),
  .inr (0, 385, []),
  .inr (0, 385, []),
  .inr (0, 385, []),
  .inr (0, 385, []),
  .inl (9, [.inr (some 71), .inr (some 77), .inr (some 78), .inr (some 79), .inr (some 88), .inr (some 97), .inl 0, .inl 0, .inl 0, .inl 0, .inl 0, .inl 0]),
  .inl (1, [.inr (some 72), .inr (some 73), .inr (some 74), .inr (some 75), .inr (some 76), .inl 0, .inl 0]),
  .inr (0, 7, []),
  .inr (0, 16, []),
  .inr (0, 16, []),
  .inr (0, 16, []),
  .inr (0, 16, []),
  .inr (0, 7, []),
  .inr (0, 7, []),
  .inr (4, 8, [some 80, some 81, some 82, some 83, some 84, some 85, some 86, some 87]),
  .inr (0, 4, []),
  .inr (0, 4, []),
  .inr (0, 4, []),
  .inr (0, 4, []),
  .inr (0, 4, []),
  .inr (0, 4, []),
  .inr (0, 4, []),
  .inr (0, 4, []),
  .inr (4, 8, [some 89, some 90, some 91, some 92, some 93, some 94, some 95, some 96]),
  .inr (0, 4, []),
  .inr (0, 4, []),
  .inr (0, 4, []),
  .inr (0, 4, []),
  .inr (0, 4, []),
  .inr (0, 4, []),
  .inr (0, 4, []),
  .inr (0, 4, []),
  .inr (4, 6, [some 98, some 99, some 100, some 101, some 102, some 103]),
  .inr (0, 385, []),
  .inr (0, 385, []),
  .inr (0, 385, []),
  .inr (0, 385, []),
  .inr (0, 385, []),
  .inr (0, 385, []),
  .inr (2, 2, []),
  .inl (1, [.inr (some 106), .inr (some 107), .inr (some 108), .inr (some 109), .inr (some 110), .inl 0, .inl 0]),
  .inr (0, 7, []),
  .inr (0, 16, []),
  .inr (0, 16, []),
  .inr (0, 16, []),
  .inr (0, 16, []),
  .inl (10, [.inr (some 112), .inr (some 113), .inl 0, .inl 0]),
  .inr (6, 17, [some 114, some 120, some 126, some 132, some 138, some 144, some 150, some 156, some 162, some 168, some 174, some 180, some 186, some 192, some 198, some 204, some 210]),
  .inr (0, 17, []),
  .inl (1, [.inr (some 115), .inr (some 116), .inr (some 117), .inr (some 118), .inr (some 119), .inl 0, .inl 0]),
  .inr (0, 7, []),
  .inr (0, 16, []),
  .inr (0, 16, []),
  .inr (0, 16, []),
  .inr (0, 16, []),
  .inl (1, [.inr (some 121), .inr (some 122), .inr (some 123), .inr (some 124), .inr (some 125), .inl 0, .inl 0]),
  .inr (0, 7, []),
  .inr (0, 16, []),
  .inr (0, 16, []),
  .inr (0, 16, []),
  .inr (0, 16, []),
  .inl (1, [.inr (some 127), .inr (some 128), .inr (some 129), .inr (some 130), .inr (some 131), .inl 0, .inl 0]),
  .inr (0, 7, []),
  .inr (0, 16, []),
  .inr (0, 16, []),
  .inr (0, 16, []),
  .inr (0, 16, []),
  .inl (1, [.inr (some 133), .inr (some 134), .inr (some 135), .inr (some 136), .inr (some 137), .inl 0, .inl 0]),
  .inr (0, 7, []),
  .inr (0, 16, []),
  .inr (0, 16, []),
  .inr (0, 16, []),
  .inr (0, 16, []),
  .inl (1, [.inr (some 139), .inr (some 140), .inr (some 141), .inr (some 142), .inr (some 143), .inl 0, .inl 0]),
  .inr (0, 7, []),
  .inr (0, 16, []),
  .inr (0, 16, []),
  .inr (0, 16, []),
  .inr (0, 16, []),
  .inl (1, [.inr (some 145), .inr (some 146), .inr (some 147), .inr (some 148), .inr (some 149), .inl 0, .inl 0]),
  .inr (0, 7, []),
  .inr (0, 16, []),
  .inr (0, 16, []),
  .inr (0, 16, []),
  .inr (0, 16, []),
  .inl (1, [.inr (some 151), .inr (some 152), .inr (some 153), .inr (some 154), .inr (some 155), .inl 0, .inl 0]),
  .inr (0, 7, []),
  .inr (0, 16, []),
  .inr (0, 16, []),
  .inr (0, 16, []),
  .inr (0, 16, []),
  .inl (1, [.inr (some 157), .inr (some 158), .inr (some 159), .inr (some 160), .inr (some 161), .inl 0, .inl 0]),
  .inr (0, 7, []),
  .inr (0, 16, []),
  .inr (0, 16, []),
  .inr (0, 16, []),
  .inr (0, 16, []),
  .inl (1, [.inr (some 163), .inr (some 164), .inr (some 165), .inr (some 166), .inr (some 167), .inl 0, .inl 0]),
  .inr (0, 7, []),
  .inr (0, 16, []),
  .inr (0, 16, []),
  .inr (0, 16, []),
  .inr (0, 16, []),
  .inl (1, [.inr (some 169), .inr (some 170), .inr (some 171), .inr (some 172), .inr (some 173), .inl 0, .inl 0]),
  .inr (0, 7, []),
  .inr (0, 16, []),
  .inr (0, 16, []),
  .inr (0, 16, []),
  .inr (0, 16, []),
  .inl (1, [.inr (some 175), .inr (some 176), .inr (some 177), .inr (some 178), .inr (some 179), .inl 0, .inl 0]),
  .inr (0, 7, []),
  .inr (0, 16, []),
  .inr (0, 16, []),
  .inr (0, 16, []),
  .inr (0, 16, []),
  .inl (1, [.inr (some 181), .inr (some 182), .inr (some 183), .inr (some 184), .inr (some 185), .inl 0, .inl 0]),
  .inr (0, 7, []),
  .inr (0, 16, []),
  .inr (0, 16, []),
  .inr (0, 16, []),
  .inr (0, 16, []),
  .inl (1, [.inr (some 187), .inr (some 188), .inr (some 189), .inr (some 190), .inr (some 191), .inl 0, .inl 0]),
  .inr (0, 7, []),
  .inr (0, 16, []),
  .inr (0, 16, []),
  .inr (0, 16, []),
  .inr (0, 16, []),
  .inl (1, [.inr (some 193), .inr (some 194), .inr (some 195), .inr (some 196), .inr (some 197), .inl 0, .inl 0]),
  .inr (0, 7, []),
  .inr (0, 16, []),
  .inr (0, 16, []),
  .inr (0, 16, []),
  .inr (0, 16, []),
  .inl (1, [.inr (some 199), .inr (some 200), .inr (some 201), .inr (some 202), .inr (some 203), .inl 0, .inl 0]),
  .inr (0, 7, []),
  .inr (0, 16, []),
  .inr (0, 16, []),
  .inr (0, 16, []),
  .inr (0, 16, []),
  .inl (1, [.inr (some 205), .inr (some 206), .inr (some 207), .inr (some 208), .inr (some 209), .inl 0, .inl 0]),
  .inr (0, 7, []),
  .inr (0, 16, []),
  .inr (0, 16, []),
  .inr (0, 16, []),
  .inr (0, 16, []),
  .inl (1, [.inr (some 211), .inr (some 212), .inr (some 213), .inr (some 214), .inr (some 215), .inl 0, .inl 0]),
  .inr (0, 7, []),
  .inr (0, 16, []),
  .inr (0, 16, []),
  .inr (0, 16, []),
  .inr (0, 16, []),
  .inl (10, [.inr (some 217), .inr (some 218), .inl 0, .inl 0]),
  .inr (6, 17, [some 219, some 225, some 231, some 237, some 243, some 249, some 255, some 261, some 267, some 273, some 279, some 285, some 291, some 297, some 303, some 309, some 315]),
  .inr (0, 17, []),
  .inl (1, [.inr (some 220), .inr (some 221), .inr (some 222), .inr (some 223), .inr (some 224), .inl 0, .inl 0]),
  .inr (0, 7, []),
  .inr (0, 16, []),
  .inr (0, 16, []),
  .inr (0, 16, []),
  .inr (0, 16, []),
  .inl (1, [.inr (some 226), .inr (some 227), .inr (some 228), .inr (some 229), .inr (some 230), .inl 0, .inl 0]),
  .inr (0, 7, []),
  .inr (0, 16, []),
  .inr (0, 16, []),
  .inr (0, 16, []),
  .inr (0, 16, []),
  .inl (1, [.inr (some 232), .inr (some 233), .inr (some 234), .inr (some 235), .inr (some 236), .inl 0, .inl 0]),
  .inr (0, 7, []),
  .inr (0, 16, []),
  .inr (0, 16, []),
  .inr (0, 16, []),
  .inr (0, 16, []),
  .inl (1, [.inr (some 238), .inr (some 239), .inr (some 240), .inr (some 241), .inr (some 242), .inl 0, .inl 0]),
  .inr (0, 7, []),
  .inr (0, 16, []),
  .inr (0, 16, []),
  .inr (0, 16, []),
  .inr (0, 16, []),
  .inl (1, [.inr (some 244), .inr (some 245), .inr (some 246), .inr (some 247), .inr (some 248), .inl 0, .inl 0]),
  .inr (0, 7, []),
  .inr (0, 16, []),
  .inr (0, 16, []),
  .inr (0, 16, []),
  .inr (0, 16, []),
  .inl (1, [.inr (some 250), .inr (some 251), .inr (some 252), .inr (some 253), .inr (some 254), .inl 0, .inl 0]),
  .inr (0, 7, []),
  .inr (0, 16, []),
  .inr (0, 16, []),
  .inr (0, 16, []),
  .inr (0, 16, []),
  .inl (1, [.inr (some 256), .inr (some 257), .inr (some 258), .inr (some 259), .inr (some 260), .inl 0, .inl 0]),
  .inr (0, 7, []),
  .inr (0, 16, []),
  .inr (0, 16, []),
  .inr (0, 16, []),
  .inr (0, 16, []),
  .inl (1, [.inr (some 262), .inr (some 263), .inr (some 264), .inr (some 265), .inr (some 266), .inl 0, .inl 0]),
  .inr (0, 7, []),
  .inr (0, 16, []),
  .inr (0, 16, []),
  .inr (0, 16, []),
  .inr (0, 16, []),
  .inl (1, [.inr (some 268), .inr (some 269), .inr (some 270), .inr (some 271), .inr (some 272), .inl 0, .inl 0]),
  .inr (0, 7, []),
  .inr (0, 16, []),
  .inr (0, 16, []),
  .inr (0, 16, []),
  .inr (0, 16, []),
  .inl (1, [.inr (some 274), .inr (some 275), .inr (some 276), .inr (some 277), .inr (some 278), .inl 0, .inl 0]),
  .inr (0, 7, []),
  .inr (0, 16, []),
  .inr (0, 16, []),
  .inr (0, 16, []),
  .inr (0, 16, []),
  .inl (1, [.inr (some 280), .inr (some 281), .inr (some 282), .inr (some 283), .inr (some 284), .inl 0, .inl 0]),
  .inr (0, 7, []),
  .inr (0, 16, []),
  .inr (0, 16, []),
  .inr (0, 16, []),
  .inr (0, 16, []),
  .inl (1, [.inr (some 286), .inr (some 287), .inr (some 288), .inr (some 289), .inr (some 290), .inl 0, .inl 0]),
  .inr (0, 7, []),
  .inr (0, 16, []),
  .inr (0, 16, []),
  .inr (0, 16, []),
  .inr (0, 16, []),
  .inl (1, [.inr (some 292), .inr (some 293), .inr (some 294), .inr (some 295), .inr (some 296), .inl 0, .inl 0]),
  .inr (0, 7, []),
  .inr (0, 16, []),
  .inr (0, 16, []),
  .inr (0, 16, []),
  .inr (0, 16, []),
  .inl (1, [.inr (some 298), .inr (some 299), .inr (some 300), .inr (some 301), .inr (some 302), .inl 0, .inl 0]),
  .inr (0, 7, []),
  .inr (0, 16, []),
  .inr (0, 16, []),
  .inr (0, 16, []),
  .inr (0, 16, []),
  .inl (1, [.inr (some 304), .inr (some 305), .inr (some 306), .inr (some 307), .inr (some 308), .inl 0, .inl 0]),
  .inr (0, 7, []),
  .inr (0, 16, []),
  .inr (0, 16, []),
  .inr (0, 16, []),
  .inr (0, 16, []),
  .inl (1, [.inr (some 310), .inr (some 311), .inr (some 312), .inr (some 313), .inr (some 314), .inl 0, .inl 0]),
  .inr (0, 7, []),
  .inr (0, 16, []),
  .inr (0, 16, []),
  .inr (0, 16, []),
  .inr (0, 16, []),
  .inl (1, [.inr (some 316), .inr (some 317), .inr (some 318), .inr (some 319), .inr (some 320), .inl 0, .inl 0]),
  .inr (0, 7, []),
  .inr (0, 16, []),
  .inr (0, 16, []),
  .inr (0, 16, []),
  .inr (0, 16, [])]
def V_D_init_1 : List (Nat × Int × Int) := [(70, 11, (-1)), (36, 11, (-1)), (1, 11, (-1))]
theorem k_D_init_0 {d mc ms : Nat} (hd : 3 ≤ d) (hm : mc = 354) (hs : ms = 14453) {Γ : zCx} {n : Nat} {P : List zSh} {μ : zMem} {ad0 : Nat → Nat} (X : zX Γ "DebtDoors" prog_1_method_1_code 2 d) (hc : zHc Γ n P μ mc ms) (hnm : (x_M Γ).name = "<init>") (kk : zH Γ 2 n P ad0 μ 320 10310 R_D_init_1 V_D_init_1 90 [vr 0, vi 2] [vr 0]) : zH Γ 2 n P ad0 μ 0 0 [.inl (11, [.inr none, .inr none, .inr none, .inr none, .inr none, .inr none, .inr none, .inr none, .inr none, .inr none, .inr none, .inr none, .inr none, .inr none, .inr none, .inl 0, .inl 0, .inl 0, .inl 0, .inl 0])] [] 0 [vr 0, vx 0] [] := by
  subst hm
  subst hs
  refine zn_aload0 (pc := 0) X d_D_init_0 ?_
  refine zn_obj (pc := 1) X (zTb_in 164 (by decide +kernel) (by decide +kernel)) d_D_init_1 (Nat.le_trans (Nat.le_of_ble_eq_true rfl) hd) (by decide) ?_
  refine zn_aload0 (pc := 4) X d_D_init_4 ?_
  refine zn_new (pc := 5) (ce := 0) (sl := 0) (m := 1) (k := 12) (ci := 9) (fs := [.inr none, .inr none, .inr none, .inr none, .inr none, .inr none, .inl 0, .inl 0, .inl 0, .inl 0, .inl 0, .inl 0]) X hc d_D_init_5 rfl (zTb_in 167 (by decide +kernel) (by decide +kernel)) (zTb_in 168 (by decide +kernel) (by decide +kernel)) (zTb_in 140 (by decide +kernel) (by decide +kernel)) ⟨by decide +kernel, by decide +kernel, rfl⟩ (by decide +kernel) ?_
  refine zn_dup (pc := 8) X d_D_init_8 ?_
  refine zn_init (pc := 9) (ce := 1) (sl := 12) (m := 1) X hc li_D_11 (Nat.le_trans (Nat.le_of_ble_eq_true rfl) hd) (k_To_init (d := 2) (by decide)) d_D_init_9 (by decide +kernel) (by decide +kernel) ?_
  refine zn_putR (pc := 12) X hc hnm fl_D_12 rfl rfl rfl (fun _ => ⟨rfl, rfl⟩) d_D_init_12 (by decide +kernel) ?_
  refine zn_aload0 (pc := 15) X d_D_init_15 ?_
  refine zn_const (pc := 16) X d_D_init_16 (zI_d rfl) ?_
  refine zn_anew (pc := 17) (ce := 34) (sl := 2500) (m := 35) (N := 2) (t := 5) X hc (Or.inl rfl) d_D_init_17 (fun _ => rfl) rfl (zTb_in 167 (by decide +kernel) (by decide +kernel)) rfl (by decide +kernel) ?_
  refine zn_putR (pc := 20) X hc hnm fl_D_16 rfl rfl rfl (fun _ => ⟨rfl, rfl⟩) d_D_init_20 (by decide +kernel) ?_
  refine zn_const (pc := 23) X d_D_init_23 (zI_d rfl) ?_
  refine zn_store1 (pc := 24) X d_D_init_24 (by decide) (Or.inl rfl) ?_
  refine zn_load1 (pc := 25) X d_D_init_25 ?_
  refine zn_const (pc := 26) X d_D_init_26 (zI_d rfl) ?_
  refine zn_ngt (pc := 27) (tgt := 49) X d_D_init_27 (by decide) (by decide) ?_
  refine zn_aload0 (pc := 30) X d_D_init_30 ?_
  refine zn_getR (pc := 31) (m := 35) X hc fl_D_16 d_D_init_31 (by decide +kernel) ?_
  refine zn_load1 (pc := 34) X d_D_init_34 ?_
  refine zn_new (pc := 35) (ce := 35) (sl := 2502) (m := 36) (k := 12) (ci := 9) (fs := [.inr none, .inr none, .inr none, .inr none, .inr none, .inr none, .inl 0, .inl 0, .inl 0, .inl 0, .inl 0, .inl 0]) X hc d_D_init_35 rfl (zTb_in 167 (by decide +kernel) (by decide +kernel)) (zTb_in 168 (by decide +kernel) (by decide +kernel)) (zTb_in 140 (by decide +kernel) (by decide +kernel)) ⟨by decide +kernel, by decide +kernel, rfl⟩ (by decide +kernel) ?_
  refine zn_dup (pc := 38) X d_D_init_38 ?_
  refine zn_init (pc := 39) (ce := 36) (sl := 2514) (m := 36) X hc li_D_11 (Nat.le_trans (Nat.le_of_ble_eq_true rfl) hd) (k_To_init (d := 2) (by decide)) d_D_init_39 (by decide +kernel) (by decide +kernel) ?_
  refine zn_aast (pc := 42) (t := 5) (ci := 9) (j := 0) X hc (fun _ => rfl) rfl rfl d_D_init_42 rfl (by decide +kernel) ?_
  refine zn_inc (pc := 43) (x := 0) (c := 1) X d_D_init_43 rfl (by decide) (zI_d rfl) ?_
  refine zn_goto (pc := 46) (tgt := 25) X d_D_init_46 (by decide) ?_
  refine zn_load1 (pc := 25) X d_D_init_25 ?_
  refine zn_const (pc := 26) X d_D_init_26 (zI_d rfl) ?_
  refine zn_ngt (pc := 27) (tgt := 49) X d_D_init_27 (by decide) (by decide) ?_
  refine zn_aload0 (pc := 30) X d_D_init_30 ?_
  refine zn_getR (pc := 31) (m := 35) X hc fl_D_16 d_D_init_31 (by decide +kernel) ?_
  refine zn_load1 (pc := 34) X d_D_init_34 ?_
  refine zn_new (pc := 35) (ce := 69) (sl := 5002) (m := 70) (k := 12) (ci := 9) (fs := [.inr none, .inr none, .inr none, .inr none, .inr none, .inr none, .inl 0, .inl 0, .inl 0, .inl 0, .inl 0, .inl 0]) X hc d_D_init_35 rfl (zTb_in 167 (by decide +kernel) (by decide +kernel)) (zTb_in 168 (by decide +kernel) (by decide +kernel)) (zTb_in 140 (by decide +kernel) (by decide +kernel)) ⟨by decide +kernel, by decide +kernel, rfl⟩ (by decide +kernel) ?_
  refine zn_dup (pc := 38) X d_D_init_38 ?_
  refine zn_init (pc := 39) (ce := 70) (sl := 5014) (m := 70) X hc li_D_11 (Nat.le_trans (Nat.le_of_ble_eq_true rfl) hd) (k_To_init (d := 2) (by decide)) d_D_init_39 (by decide +kernel) (by decide +kernel) ?_
  refine zn_aast (pc := 42) (t := 5) (ci := 9) (j := 1) X hc (fun _ => rfl) rfl rfl d_D_init_42 rfl (by decide +kernel) ?_
  refine zn_inc (pc := 43) (x := 1) (c := 2) X d_D_init_43 rfl (by decide) (zI_d rfl) ?_
  refine zn_goto (pc := 46) (tgt := 25) X d_D_init_46 (by decide) ?_
  refine zn_load1 (pc := 25) X d_D_init_25 ?_
  refine zn_const (pc := 26) X d_D_init_26 (zI_d rfl) ?_
  refine zn_ge (pc := 27) (tgt := 49) X d_D_init_27 (by decide) (by decide) ?_
  refine zn_aload0 (pc := 49) X d_D_init_49 ?_
  refine zn_const (pc := 50) X d_D_init_50 (zI_d rfl) ?_
  refine zn_newZ (pc := 51) (ce := 103) (sl := 7502) (m := 104) (N := 2) X hc d_D_init_51 rfl (by decide +kernel) ?_
  refine zn_putR (pc := 53) X hc hnm fl_D_20 rfl rfl rfl (fun _ => ⟨rfl, rfl⟩) d_D_init_53 (by decide +kernel) ?_
  refine zn_aload0 (pc := 56) X d_D_init_56 ?_
  refine zn_new (pc := 57) (ce := 104) (sl := 7504) (m := 105) (k := 7) (ci := 1) (fs := [.inr none, .inr none, .inr none, .inr none, .inr none, .inl 0, .inl 0]) X hc d_D_init_57 rfl (zTb_in 291 (by decide +kernel) (by decide +kernel)) (zTb_in 174 (by decide +kernel) (by decide +kernel)) (zTb_in 141 (by decide +kernel) (by decide +kernel)) ⟨by decide +kernel, by decide +kernel, rfl⟩ (by decide +kernel) ?_
  refine zn_dup (pc := 60) X d_D_init_60 ?_
  refine zn_init (pc := 61) (ce := 105) (sl := 7511) (m := 105) X hc li_D_26 (Nat.le_trans (Nat.le_of_ble_eq_true rfl) hd) (k_Le_init (d := 1) (by decide)) d_D_init_61 (by decide +kernel) (by decide +kernel) ?_
  refine zn_putR (pc := 64) X hc hnm fl_D_27 rfl rfl rfl (fun _ => ⟨rfl, rfl⟩) d_D_init_64 (by decide +kernel) ?_
  refine zn_aload0 (pc := 67) X d_D_init_67 ?_
  refine zn_new (pc := 68) (ce := 110) (sl := 7582) (m := 111) (k := 4) (ci := 10) (fs := [.inr none, .inr none, .inl 0, .inl 0]) X hc d_D_init_68 rfl (zTb_in 293 (by decide +kernel) (by decide +kernel)) (zTb_in 294 (by decide +kernel) (by decide +kernel)) (zTb_in 142 (by decide +kernel) (by decide +kernel)) ⟨by decide +kernel, by decide +kernel, rfl⟩ (by decide +kernel) ?_
  refine zn_dup (pc := 71) X d_D_init_71 ?_
  refine zn_init (pc := 72) (ce := 111) (sl := 7586) (m := 111) X hc li_D_33 (Nat.le_trans (Nat.le_of_ble_eq_true rfl) hd) (k_Un_init (d := 2) (by decide)) d_D_init_72 (by decide +kernel) (by decide +kernel) ?_
  refine zn_putR (pc := 75) X hc hnm fl_D_34 rfl rfl rfl (fun _ => ⟨rfl, rfl⟩) d_D_init_75 (by decide +kernel) ?_
  refine zn_aload0 (pc := 78) X d_D_init_78 ?_
  refine zn_new (pc := 79) (ce := 215) (sl := 8946) (m := 216) (k := 4) (ci := 10) (fs := [.inr none, .inr none, .inl 0, .inl 0]) X hc d_D_init_79 rfl (zTb_in 293 (by decide +kernel) (by decide +kernel)) (zTb_in 294 (by decide +kernel) (by decide +kernel)) (zTb_in 142 (by decide +kernel) (by decide +kernel)) ⟨by decide +kernel, by decide +kernel, rfl⟩ (by decide +kernel) ?_
  refine zn_dup (pc := 82) X d_D_init_82 ?_
  refine zn_init (pc := 83) (ce := 216) (sl := 8950) (m := 216) X hc li_D_33 (Nat.le_trans (Nat.le_of_ble_eq_true rfl) hd) (k_Un_init (d := 2) (by decide)) d_D_init_83 (by decide +kernel) (by decide +kernel) ?_
  refine zn_putR (pc := 86) X hc hnm fl_D_38 rfl rfl rfl (fun _ => ⟨rfl, rfl⟩) d_D_init_86 (by decide +kernel) ?_
  refine zn_aload0 (pc := 89) X d_D_init_89 ?_
  exact zn_end (by decide +kernel) (by decide +kernel) rfl rfl kk
theorem k_D_init {d : Nat} (hd : 3 ≤ d) : zMk d 354 14453 y_D_init 11 [.inr none, .inr none, .inr none, .inr none, .inr none, .inr none, .inr none, .inr none, .inr none, .inr none, .inr none, .inr none, .inr none, .inr none, .inr none, .inl 0, .inl 0, .inl 0, .inl 0, .inl 0] R_D_init V_D_init := by
  refine zMk.of (k := 1) (by decide +kernel) ⟨by decide +kernel, rfl, rfl⟩ rfl (by decide) (fun Γ n P μ ad0 X hc hnm ret => ?_)
  have X : zX Γ "DebtDoors" prog_1_method_1_code 2 d := X
  refine k_D_init_0 hd rfl rfl X hc hnm ?_
  refine zn_new (pc := 90) (ce := 320) (sl := 10310) (m := 321) (k := 11) (ci := 6) (fs := [.inr none, .inr none, .inl 0, .inl 0, .inl 1, .inl 0, .inl 0, .inl 0, .inl 0, .inl 0, .inl 0]) X hc d_D_init_90 rfl (zTb_in 317 (by decide +kernel) (by decide +kernel)) (zTb_in 318 (by decide +kernel) (by decide +kernel)) (zTb_in 143 (by decide +kernel) (by decide +kernel)) ⟨by decide +kernel, by decide +kernel, rfl⟩ (by decide +kernel) ?_
  refine zn_dup (pc := 93) X d_D_init_93 ?_
  refine zn_init (pc := 94) (ce := 321) (sl := 10321) (m := 321) X hc li_D_43 (Nat.le_trans (Nat.le_of_ble_eq_true rfl) hd) (k_Re_init (d := 1) (by decide)) d_D_init_94 (by decide +kernel) (by decide +kernel) ?_
  refine zn_putR (pc := 97) X hc hnm fl_D_44 rfl rfl rfl (fun _ => ⟨rfl, rfl⟩) d_D_init_97 (by decide +kernel) ?_
  refine zn_aload0 (pc := 100) X d_D_init_100 ?_
  refine zn_new (pc := 101) (ce := 323) (sl := 11106) (m := 324) (k := 1) (ci := 7) (fs := [.inr none]) X hc d_D_init_101 rfl (zTb_in 361 (by decide +kernel) (by decide +kernel)) (zTb_in 362 (by decide +kernel) (by decide +kernel)) (zTb_in 144 (by decide +kernel) (by decide +kernel)) ⟨by decide +kernel, by decide +kernel, rfl⟩ (by decide +kernel) ?_
  refine zn_dup (pc := 104) X d_D_init_104 ?_
  refine zn_init (pc := 105) (ce := 324) (sl := 11107) (m := 324) X hc li_D_50 (Nat.le_trans (Nat.le_of_ble_eq_true rfl) hd) (k_Ru_init (d := 2) (by decide)) d_D_init_105 (by decide +kernel) (by decide +kernel) ?_
  refine zn_putR (pc := 108) X hc hnm fl_D_51 rfl rfl rfl (fun _ => ⟨rfl, rfl⟩) d_D_init_108 (by decide +kernel) ?_
  refine zn_aload0 (pc := 111) X d_D_init_111 ?_
  refine zn_new (pc := 112) (ce := 327) (sl := 11234) (m := 328) (k := 7) (ci := 2) (fs := [.inr none, .inr none, .inr none, .inr none, .inr none, .inl 0, .inl 0]) X hc d_D_init_112 rfl (zTb_in 392 (by decide +kernel) (by decide +kernel)) (zTb_in 393 (by decide +kernel) (by decide +kernel)) (zTb_in 146 (by decide +kernel) (by decide +kernel)) ⟨by decide +kernel, by decide +kernel, rfl⟩ (by decide +kernel) ?_
  refine zn_dup (pc := 115) X d_D_init_115 ?_
  refine zn_init (pc := 116) (ce := 328) (sl := 11241) (m := 328) X hc li_D_57 (Nat.le_trans (Nat.le_of_ble_eq_true rfl) hd) (k_Ln_init (d := 1) (by decide)) d_D_init_116 (by decide +kernel) (by decide +kernel) ?_
  refine zn_putR (pc := 119) X hc hnm fl_D_58 rfl rfl rfl (fun _ => ⟨rfl, rfl⟩) d_D_init_119 (by decide +kernel) ?_
  refine zn_aload0 (pc := 122) X d_D_init_122 ?_
  refine zn_new (pc := 123) (ce := 333) (sl := 11529) (m := 334) (k := 9) (ci := 5) (fs := [.inr none, .inr none, .inr none, .inr none, .inr none, .inr none, .inr none, .inl 1, .inr none]) X hc d_D_init_123 rfl (zTb_in 422 (by decide +kernel) (by decide +kernel)) (zTb_in 423 (by decide +kernel) (by decide +kernel)) (zTb_in 147 (by decide +kernel) (by decide +kernel)) ⟨by decide +kernel, by decide +kernel, rfl⟩ (by decide +kernel) ?_
  refine zn_dup (pc := 126) X d_D_init_126 ?_
  refine zn_init (pc := 127) (ce := 334) (sl := 11538) (m := 334) X hc li_D_64 (Nat.le_trans (Nat.le_of_ble_eq_true rfl) hd) (k_Pl_init (d := 1) (by decide)) d_D_init_127 (by decide +kernel) (by decide +kernel) ?_
  refine zn_putR (pc := 130) X hc hnm fl_D_65 rfl rfl rfl (fun _ => ⟨rfl, rfl⟩) d_D_init_130 (by decide +kernel) ?_
  refine zn_aload0 (pc := 133) X d_D_init_133 ?_
  refine zn_new (pc := 134) (ce := 342) (sl := 14178) (m := 343) (k := 9) (ci := 8) (fs := [.inr none, .inr none, .inl 0, .inl 0, .inl 0, .inl 0, .inl 1, .inl 0, .inl 0]) X hc d_D_init_134 rfl (zTb_in 457 (by decide +kernel) (by decide +kernel)) (zTb_in 458 (by decide +kernel) (by decide +kernel)) (zTb_in 148 (by decide +kernel) (by decide +kernel)) ⟨by decide +kernel, by decide +kernel, rfl⟩ (by decide +kernel) ?_
  refine zn_dup (pc := 137) X d_D_init_137 ?_
  refine zn_init (pc := 138) (ce := 343) (sl := 14187) (m := 343) X hc li_D_71 (Nat.le_trans (Nat.le_of_ble_eq_true rfl) hd) (k_Th_init (d := 1) (by decide)) d_D_init_138 (by decide +kernel) (by decide +kernel) ?_
  refine zn_putR (pc := 141) X hc hnm fl_D_72 rfl rfl rfl (fun _ => ⟨rfl, rfl⟩) d_D_init_141 (by decide +kernel) ?_
  refine zn_aload0 (pc := 144) X d_D_init_144 ?_
  refine zn_new (pc := 145) (ce := 345) (sl := 14219) (m := 346) (k := 5) (ci := 0) (fs := [.inr none, .inr none, .inr none, .inr none, .inl 0]) X hc d_D_init_145 rfl (zTb_in 493 (by decide +kernel) (by decide +kernel)) (zTb_in 494 (by decide +kernel) (by decide +kernel)) (zTb_in 149 (by decide +kernel) (by decide +kernel)) ⟨by decide +kernel, by decide +kernel, rfl⟩ (by decide +kernel) ?_
  refine zn_dup (pc := 148) X d_D_init_148 ?_
  refine zn_init (pc := 149) (ce := 346) (sl := 14224) (m := 346) X hc li_D_78 (Nat.le_trans (Nat.le_of_ble_eq_true rfl) hd) (k_Cl_init (d := 1) (by decide)) d_D_init_149 (by decide +kernel) (by decide +kernel) ?_
  refine zn_putR (pc := 152) X hc hnm fl_D_79 rfl rfl rfl (fun _ => ⟨rfl, rfl⟩) d_D_init_152 (by decide +kernel) ?_
  refine zn_aload0 (pc := 155) X d_D_init_155 ?_
  refine zn_new (pc := 156) (ce := 350) (sl := 14373) (m := 351) (k := 3) (ci := 4) (fs := [.inr none, .inl 0, .inl 0]) X hc d_D_init_156 rfl (zTb_in 517 (by decide +kernel) (by decide +kernel)) (zTb_in 518 (by decide +kernel) (by decide +kernel)) (zTb_in 150 (by decide +kernel) (by decide +kernel)) ⟨by decide +kernel, by decide +kernel, rfl⟩ (by decide +kernel) ?_
  refine zn_dup (pc := 159) X d_D_init_159 ?_
  refine zn_init (pc := 160) (ce := 351) (sl := 14376) (m := 351) X hc li_D_85 (Nat.le_trans (Nat.le_of_ble_eq_true rfl) hd) (k_Mo_init (d := 1) (by decide)) d_D_init_160 (by decide +kernel) (by decide +kernel) ?_
  refine zn_putR (pc := 163) X hc hnm fl_D_86 rfl rfl rfl (fun _ => ⟨rfl, rfl⟩) d_D_init_163 (by decide +kernel) ?_
  refine zn_aload0 (pc := 166) X d_D_init_166 ?_
  refine zn_bipush (pc := 167) X d_D_init_167 rfl (zI_d rfl) ?_
  refine zn_newI (pc := 169) (ce := 352) (sl := 14397) (m := 353) (N := 49) X hc d_D_init_169 rfl (by decide +kernel) ?_
  refine zn_putR (pc := 171) X hc hnm fl_D_90 rfl rfl rfl (fun _ => ⟨rfl, rfl⟩) d_D_init_171 (by decide +kernel) ?_
  refine zn_aload0 (pc := 174) X d_D_init_174 ?_
  refine zn_bipush (pc := 175) X d_D_init_175 rfl (zI_d rfl) ?_
  refine zn_newI (pc := 177) (ce := 353) (sl := 14446) (m := 354) (N := 7) X hc d_D_init_177 rfl (by decide +kernel) ?_
  refine zn_putR (pc := 179) X hc hnm fl_D_94 rfl rfl rfl (fun _ => ⟨rfl, rfl⟩) d_D_init_179 (by decide +kernel) ?_
  refine zn_aload0 (pc := 182) X d_D_init_182 ?_
  refine zn_const (pc := 183) X d_D_init_183 (zI_d rfl) ?_
  refine zn_putI (pc := 184) X hc fl_D_97 fp_11_17 d_D_init_184 (by decide +kernel) ?_
  refine zn_aload0 (pc := 187) X d_D_init_187 ?_
  refine zn_const (pc := 188) X d_D_init_188 (zI_d rfl) ?_
  refine zn_putI (pc := 189) X hc fl_D_101 fp_11_19 d_D_init_189 (by decide +kernel) ?_
  exact zn_end (by decide +kernel) (by decide +kernel) rfl rfl (ret d_D_init_192)
theorem fl_M_7 : zFl "DebtDoorsModel" 7 12 1 := ⟨_, rfl, by decide, (zTb_in 1327 (by decide +kernel) (by decide +kernel)), rfl⟩
theorem fl_M_24 : zFl "DebtDoorsModel" 24 12 2 := ⟨_, rfl, by decide, (zTb_in 1328 (by decide +kernel) (by decide +kernel)), rfl⟩
theorem fl_M_27 : zFl "DebtDoorsModel" 27 12 3 := ⟨_, rfl, by decide, (zTb_in 1329 (by decide +kernel) (by decide +kernel)), rfl⟩
theorem fl_M_30 : zFl "DebtDoorsModel" 30 12 4 := ⟨_, rfl, by decide, (zTb_in 1330 (by decide +kernel) (by decide +kernel)), rfl⟩
theorem fl_M_34 : zFl "DebtDoorsModel" 34 12 5 := ⟨_, rfl, by decide, (zTb_in 1331 (by decide +kernel) (by decide +kernel)), rfl⟩
theorem fl_M_37 : zFl "DebtDoorsModel" 37 12 7 := ⟨_, rfl, by decide, (zTb_in 1333 (by decide +kernel) (by decide +kernel)), rfl⟩
theorem fl_M_41 : zFl "DebtDoorsModel" 41 12 9 := ⟨_, rfl, by decide, (zTb_in 1335 (by decide +kernel) (by decide +kernel)), rfl⟩
theorem fl_M_44 : zFl "DebtDoorsModel" 44 12 10 := ⟨_, rfl, by decide, (zTb_in 1336 (by decide +kernel) (by decide +kernel)), rfl⟩
theorem fl_M_47 : zFl "DebtDoorsModel" 47 12 12 := ⟨_, rfl, by decide, (zTb_in 1338 (by decide +kernel) (by decide +kernel)), rfl⟩
theorem fp_12_12 : zFp 12 12 0 := ⟨_, rfl, rfl, rfl, by decide⟩
theorem fl_M_50 : zFl "DebtDoorsModel" 50 12 13 := ⟨_, rfl, by decide, (zTb_in 1339 (by decide +kernel) (by decide +kernel)), rfl⟩
theorem fl_M_53 : zFl "DebtDoorsModel" 53 12 14 := ⟨_, rfl, by decide, (zTb_in 1340 (by decide +kernel) (by decide +kernel)), rfl⟩
theorem fl_M_56 : zFl "DebtDoorsModel" 56 12 15 := ⟨_, rfl, by decide, (zTb_in 1341 (by decide +kernel) (by decide +kernel)), rfl⟩
theorem fl_M_59 : zFl "DebtDoorsModel" 59 12 24 := ⟨_, rfl, by decide, (zTb_in 1350 (by decide +kernel) (by decide +kernel)), rfl⟩
theorem fl_M_62 : zFl "DebtDoorsModel" 62 12 25 := ⟨_, rfl, by decide, (zTb_in 1351 (by decide +kernel) (by decide +kernel)), rfl⟩
theorem fl_M_65 : zFl "DebtDoorsModel" 65 12 26 := ⟨_, rfl, by decide, (zTb_in 1352 (by decide +kernel) (by decide +kernel)), rfl⟩
theorem fl_M_68 : zFl "DebtDoorsModel" 68 12 27 := ⟨_, rfl, by decide, (zTb_in 1353 (by decide +kernel) (by decide +kernel)), rfl⟩
theorem fl_M_71 : zFl "DebtDoorsModel" 71 12 29 := ⟨_, rfl, by decide, (zTb_in 1355 (by decide +kernel) (by decide +kernel)), rfl⟩
theorem fl_M_74 : zFl "DebtDoorsModel" 74 12 30 := ⟨_, rfl, by decide, (zTb_in 1356 (by decide +kernel) (by decide +kernel)), rfl⟩
theorem fl_M_77 : zFl "DebtDoorsModel" 77 12 31 := ⟨_, rfl, by decide, (zTb_in 1357 (by decide +kernel) (by decide +kernel)), rfl⟩
theorem fl_M_80 : zFl "DebtDoorsModel" 80 12 32 := ⟨_, rfl, by decide, (zTb_in 1358 (by decide +kernel) (by decide +kernel)), rfl⟩
theorem fl_M_83 : zFl "DebtDoorsModel" 83 12 33 := ⟨_, rfl, by decide, (zTb_in 1359 (by decide +kernel) (by decide +kernel)), rfl⟩
theorem fl_M_86 : zFl "DebtDoorsModel" 86 12 35 := ⟨_, rfl, by decide, (zTb_in 1361 (by decide +kernel) (by decide +kernel)), rfl⟩
theorem fl_M_89 : zFl "DebtDoorsModel" 89 12 36 := ⟨_, rfl, by decide, (zTb_in 1362 (by decide +kernel) (by decide +kernel)), rfl⟩
theorem fl_M_92 : zFl "DebtDoorsModel" 92 12 40 := ⟨_, rfl, by decide, (zTb_in 1366 (by decide +kernel) (by decide +kernel)), rfl⟩
theorem fl_M_95 : zFl "DebtDoorsModel" 95 12 41 := ⟨_, rfl, by decide, (zTb_in 1367 (by decide +kernel) (by decide +kernel)), rfl⟩
theorem fl_M_98 : zFl "DebtDoorsModel" 98 12 42 := ⟨_, rfl, by decide, (zTb_in 1368 (by decide +kernel) (by decide +kernel)), rfl⟩
theorem fl_M_101 : zFl "DebtDoorsModel" 101 12 45 := ⟨_, rfl, by decide, (zTb_in 1371 (by decide +kernel) (by decide +kernel)), rfl⟩
theorem fl_M_104 : zFl "DebtDoorsModel" 104 12 46 := ⟨_, rfl, by decide, (zTb_in 1372 (by decide +kernel) (by decide +kernel)), rfl⟩
theorem fl_M_107 : zFl "DebtDoorsModel" 107 12 47 := ⟨_, rfl, by decide, (zTb_in 1373 (by decide +kernel) (by decide +kernel)), rfl⟩
theorem fp_12_47 : zFp 12 47 0 := ⟨_, rfl, rfl, rfl, by decide⟩
theorem fl_M_110 : zFl "DebtDoorsModel" 110 12 55 := ⟨_, rfl, by decide, (zTb_in 1381 (by decide +kernel) (by decide +kernel)), rfl⟩
theorem fl_M_114 : zFl "DebtDoorsModel" 114 12 56 := ⟨_, rfl, by decide, (zTb_in 1382 (by decide +kernel) (by decide +kernel)), rfl⟩
theorem fl_M_117 : zFl "DebtDoorsModel" 117 12 57 := ⟨_, rfl, by decide, (zTb_in 1383 (by decide +kernel) (by decide +kernel)), rfl⟩
theorem fl_M_120 : zFl "DebtDoorsModel" 120 12 58 := ⟨_, rfl, by decide, (zTb_in 1384 (by decide +kernel) (by decide +kernel)), rfl⟩
def y_M_init : zMt := (⟨"DebtDoorsModel", "<init>", "()V"⟩, prog_14_method_8_code, 1, none)
def R_M_init : List zSh := [.inl (12, [.inl 0, .inr (some 1), .inr (some 2), .inr (some 3), .inr (some 4), .inr (some 5), .inl 0, .inr (some 6), .inl 1, .inr (some 7), .inr (some 8), .inl 0, .inl 0, .inr (some 9), .inr (some 10), .inr (some 11), .inl 0, .inl 0, .inl 0, .inl 0, .inl 0, .inl 0, .inl 1, .inl 1, .inr (some 12), .inr (some 13), .inr (some 14), .inr (some 15), .inl 0, .inr (some 16), .inr (some 17), .inr (some 18), .inr (some 19), .inr (some 20), .inl 0, .inr (some 21), .inr (some 22), .inl 0, .inl 0, .inl 0, .inr (some 23), .inr (some 24), .inr (some 25), .inl 0, .inl 0, .inr (some 26), .inr (some 27), .inl 0, .inl 0, .inl 0, .inl 0, .inl 0, .inl 0, .inl 1, .inl 1, .inr (some 28), .inr (some 29), .inr (some 30), .inr (some 31), .inl 0, .inl 0]),
  .inr (0, 7, []),
  .inr (0, 5764, []),
  .inr (0, 11528, []),
  .inr (2, 2, []),
  .inr (0, 803, []),
  .inr (1, 147, []),
  .inr (1, 400, []),
  .inr (0, 5, []),
  .inr (0, 401, []),
  .inr (0, 401, []),
  .inr (0, 401, []),
  .inr (0, 10, []),
  .inr (0, 4, []),
  .inr (0, 1184, []),
  .inr (0, 1184, []),
  .inr (0, 8, []),
  .inr (0, 8, []),
  .inr (0, 8, []),
  .inr (0, 8, []),
  .inr (0, 256, []),
  .inr (0, 8, []),
  .inr (0, 8, []),
  .inr (0, 16, []),
  .inr (0, 7, []),
  .inr (0, 7, []),
  .inr (0, 49, []),
  .inr (0, 256, []),
  .inr (3, 3, []),
  .inr (0, 7, []),
  .inr (0, 7, []),
  .inr (0, 7, [])]
def V_M_init : List (Nat × Int × Int) := [(2, 156, (-1)), (0, 47, (-1)), (0, 12, (-1)), (6, 146, 32), (6, 145, 115), (6, 144, 101), (6, 143, 109), (6, 142, 105), (6, 141, 116), (6, 140, 32), (6, 139, 102), (6, 138, 111), (6, 137, 32), (6, 136, 111), (6, 135, 116), (6, 134, 32), (6, 133, 116), (6, 132, 105), (6, 131, 97), (6, 130, 119), (6, 129, 32), (6, 128, 121), (6, 127, 97), (6, 126, 112), (6, 125, 101), (6, 124, 114), (6, 123, 32), (6, 122, 100), (6, 121, 110), (6, 120, 101), (6, 119, 108), (6, 118, 32), (6, 117, 100), (6, 116, 101), (6, 115, 119), (6, 114, 111), (6, 113, 32), (6, 112, 101), (6, 111, 115), (6, 110, 114), (6, 109, 117), (6, 108, 112), (6, 107, 32), (6, 106, 116), (6, 105, 115), (6, 104, 97), (6, 103, 108), (6, 102, 32), (6, 101, 101), (6, 100, 110), (6, 99, 111), (6, 98, 100), (6, 97, 32), (6, 96, 115), (6, 95, 116), (6, 94, 98), (6, 93, 101), (6, 92, 100), (6, 91, 32), (6, 90, 100), (6, 89, 111), (6, 88, 111), (6, 87, 109), (6, 86, 32), (6, 85, 121), (6, 84, 97), (6, 83, 100), (6, 82, 32), (6, 81, 101), (6, 80, 103), (6, 79, 97), (6, 78, 32), (6, 77, 116), (6, 76, 110), (6, 75, 117), (6, 74, 111), (6, 73, 109), (6, 72, 97), (6, 71, 32), (6, 70, 121), (6, 69, 114), (6, 68, 97), (6, 67, 119), (6, 66, 32), (6, 65, 115), (6, 64, 109), (6, 63, 111), (6, 62, 111), (6, 61, 114), (6, 60, 32), (6, 59, 107), (6, 58, 99), (6, 57, 97), (6, 56, 98), (6, 55, 32), (6, 54, 115), (6, 53, 101), (6, 52, 119), (6, 51, 111), (6, 50, 32), (6, 49, 114), (6, 48, 111), (6, 47, 116), (6, 46, 105), (6, 45, 115), (6, 44, 105), (6, 43, 118), (6, 42, 32), (6, 41, 114), (6, 40, 101), (6, 39, 110), (6, 38, 119), (6, 37, 111), (6, 36, 32), (6, 35, 116), (6, 34, 111), (6, 33, 110), (6, 32, 32), (6, 31, 100), (6, 30, 110), (6, 29, 97), (6, 28, 32), (6, 27, 114), (6, 26, 111), (6, 25, 32), (6, 24, 102), (6, 23, 105), (6, 22, 32), (6, 21, 115), (6, 20, 114), (6, 19, 97), (6, 18, 98), (6, 17, 32), (6, 16, 115), (6, 15, 108), (6, 14, 108), (6, 13, 101), (6, 12, 115), (6, 11, 32), (6, 10, 115), (6, 9, 119), (6, 8, 111), (6, 7, 114), (6, 6, 103), (6, 5, 32), (6, 4, 104), (6, 3, 116), (6, 2, 112), (6, 1, 101), (6, 0, 100)]
theorem d_M_init_0 : decode prog_14_method_8_code 0 = .ok (.aload_n 0, 1) := by decide +kernel
theorem d_M_init_1 : decode prog_14_method_8_code 1 = .ok (.invokespecial 18, 3) := by decide +kernel
theorem d_M_init_4 : decode prog_14_method_8_code 4 = .ok (.aload_n 0, 1) := by decide +kernel
theorem d_M_init_5 : decode prog_14_method_8_code 5 = .ok (.bipush 7, 2) := by decide +kernel
theorem d_M_init_7 : decode prog_14_method_8_code 7 = .ok (.newarray .int, 2) := by decide +kernel
theorem d_M_init_9 : decode prog_14_method_8_code 9 = .ok (.putfield 7, 3) := by decide +kernel
theorem d_M_init_12 : decode prog_14_method_8_code 12 = .ok (.aload_n 0, 1) := by decide +kernel
theorem d_M_init_13 : decode prog_14_method_8_code 13 = .ok (.sipush 5764, 3) := by decide +kernel
theorem d_M_init_16 : decode prog_14_method_8_code 16 = .ok (.newarray .int, 2) := by decide +kernel
theorem d_M_init_18 : decode prog_14_method_8_code 18 = .ok (.putfield 24, 3) := by decide +kernel
theorem d_M_init_21 : decode prog_14_method_8_code 21 = .ok (.aload_n 0, 1) := by decide +kernel
theorem d_M_init_22 : decode prog_14_method_8_code 22 = .ok (.sipush 11528, 3) := by decide +kernel
theorem d_M_init_25 : decode prog_14_method_8_code 25 = .ok (.newarray .int, 2) := by decide +kernel
theorem d_M_init_27 : decode prog_14_method_8_code 27 = .ok (.putfield 27, 3) := by decide +kernel
theorem d_M_init_30 : decode prog_14_method_8_code 30 = .ok (.aload_n 0, 1) := by decide +kernel
theorem d_M_init_31 : decode prog_14_method_8_code 31 = .ok (.iconst 2, 1) := by decide +kernel
theorem d_M_init_32 : decode prog_14_method_8_code 32 = .ok (.newarray .boolean, 2) := by decide +kernel
theorem d_M_init_34 : decode prog_14_method_8_code 34 = .ok (.putfield 30, 3) := by decide +kernel
theorem d_M_init_37 : decode prog_14_method_8_code 37 = .ok (.aload_n 0, 1) := by decide +kernel
theorem d_M_init_38 : decode prog_14_method_8_code 38 = .ok (.sipush 803, 3) := by decide +kernel
theorem d_M_init_41 : decode prog_14_method_8_code 41 = .ok (.newarray .int, 2) := by decide +kernel
theorem d_M_init_43 : decode prog_14_method_8_code 43 = .ok (.putfield 34, 3) := by decide +kernel
theorem d_M_init_46 : decode prog_14_method_8_code 46 = .ok (.aload_n 0, 1) := by decide +kernel
theorem d_M_init_47 : decode prog_14_method_8_code 47 = .ok (.sipush 147, 3) := by decide +kernel
theorem d_M_init_50 : decode prog_14_method_8_code 50 = .ok (.newarray .byte, 2) := by decide +kernel
theorem d_M_init_52 : decode prog_14_method_8_code 52 = .ok (.dup, 1) := by decide +kernel
theorem d_M_init_53 : decode prog_14_method_8_code 53 = .ok (.iconst 0, 1) := by decide +kernel
theorem d_M_init_54 : decode prog_14_method_8_code 54 = .ok (.bipush 100, 2) := by decide +kernel
theorem d_M_init_56 : decode prog_14_method_8_code 56 = .ok (.bastore, 1) := by decide +kernel
theorem d_M_init_57 : decode prog_14_method_8_code 57 = .ok (.dup, 1) := by decide +kernel
theorem d_M_init_58 : decode prog_14_method_8_code 58 = .ok (.iconst 1, 1) := by decide +kernel
theorem d_M_init_59 : decode prog_14_method_8_code 59 = .ok (.bipush 101, 2) := by decide +kernel
theorem d_M_init_61 : decode prog_14_method_8_code 61 = .ok (.bastore, 1) := by decide +kernel
theorem d_M_init_62 : decode prog_14_method_8_code 62 = .ok (.dup, 1) := by decide +kernel
theorem d_M_init_63 : decode prog_14_method_8_code 63 = .ok (.iconst 2, 1) := by decide +kernel
theorem d_M_init_64 : decode prog_14_method_8_code 64 = .ok (.bipush 112, 2) := by decide +kernel
theorem d_M_init_66 : decode prog_14_method_8_code 66 = .ok (.bastore, 1) := by decide +kernel
theorem d_M_init_67 : decode prog_14_method_8_code 67 = .ok (.dup, 1) := by decide +kernel
theorem d_M_init_68 : decode prog_14_method_8_code 68 = .ok (.iconst 3, 1) := by decide +kernel
theorem d_M_init_69 : decode prog_14_method_8_code 69 = .ok (.bipush 116, 2) := by decide +kernel
theorem d_M_init_71 : decode prog_14_method_8_code 71 = .ok (.bastore, 1) := by decide +kernel
theorem d_M_init_72 : decode prog_14_method_8_code 72 = .ok (.dup, 1) := by decide +kernel
theorem d_M_init_73 : decode prog_14_method_8_code 73 = .ok (.iconst 4, 1) := by decide +kernel
theorem d_M_init_74 : decode prog_14_method_8_code 74 = .ok (.bipush 104, 2) := by decide +kernel
theorem d_M_init_76 : decode prog_14_method_8_code 76 = .ok (.bastore, 1) := by decide +kernel
theorem d_M_init_77 : decode prog_14_method_8_code 77 = .ok (.dup, 1) := by decide +kernel
theorem d_M_init_78 : decode prog_14_method_8_code 78 = .ok (.iconst 5, 1) := by decide +kernel
theorem d_M_init_79 : decode prog_14_method_8_code 79 = .ok (.bipush 32, 2) := by decide +kernel
theorem d_M_init_81 : decode prog_14_method_8_code 81 = .ok (.bastore, 1) := by decide +kernel
theorem d_M_init_82 : decode prog_14_method_8_code 82 = .ok (.dup, 1) := by decide +kernel
theorem d_M_init_83 : decode prog_14_method_8_code 83 = .ok (.bipush 6, 2) := by decide +kernel
theorem d_M_init_85 : decode prog_14_method_8_code 85 = .ok (.bipush 103, 2) := by decide +kernel
theorem d_M_init_87 : decode prog_14_method_8_code 87 = .ok (.bastore, 1) := by decide +kernel
theorem d_M_init_88 : decode prog_14_method_8_code 88 = .ok (.dup, 1) := by decide +kernel
theorem d_M_init_89 : decode prog_14_method_8_code 89 = .ok (.bipush 7, 2) := by decide +kernel
theorem d_M_init_91 : decode prog_14_method_8_code 91 = .ok (.bipush 114, 2) := by decide +kernel
theorem d_M_init_93 : decode prog_14_method_8_code 93 = .ok (.bastore, 1) := by decide +kernel
theorem d_M_init_94 : decode prog_14_method_8_code 94 = .ok (.dup, 1) := by decide +kernel
theorem d_M_init_95 : decode prog_14_method_8_code 95 = .ok (.bipush 8, 2) := by decide +kernel
theorem d_M_init_97 : decode prog_14_method_8_code 97 = .ok (.bipush 111, 2) := by decide +kernel
theorem d_M_init_99 : decode prog_14_method_8_code 99 = .ok (.bastore, 1) := by decide +kernel
theorem d_M_init_100 : decode prog_14_method_8_code 100 = .ok (.dup, 1) := by decide +kernel
theorem d_M_init_101 : decode prog_14_method_8_code 101 = .ok (.bipush 9, 2) := by decide +kernel
theorem d_M_init_103 : decode prog_14_method_8_code 103 = .ok (.bipush 119, 2) := by decide +kernel
theorem d_M_init_105 : decode prog_14_method_8_code 105 = .ok (.bastore, 1) := by decide +kernel
theorem d_M_init_106 : decode prog_14_method_8_code 106 = .ok (.dup, 1) := by decide +kernel
theorem d_M_init_107 : decode prog_14_method_8_code 107 = .ok (.bipush 10, 2) := by decide +kernel
theorem d_M_init_109 : decode prog_14_method_8_code 109 = .ok (.bipush 115, 2) := by decide +kernel
theorem d_M_init_111 : decode prog_14_method_8_code 111 = .ok (.bastore, 1) := by decide +kernel
theorem d_M_init_112 : decode prog_14_method_8_code 112 = .ok (.dup, 1) := by decide +kernel
theorem d_M_init_113 : decode prog_14_method_8_code 113 = .ok (.bipush 11, 2) := by decide +kernel
theorem d_M_init_115 : decode prog_14_method_8_code 115 = .ok (.bipush 32, 2) := by decide +kernel
theorem d_M_init_117 : decode prog_14_method_8_code 117 = .ok (.bastore, 1) := by decide +kernel
theorem d_M_init_118 : decode prog_14_method_8_code 118 = .ok (.dup, 1) := by decide +kernel
theorem d_M_init_119 : decode prog_14_method_8_code 119 = .ok (.bipush 12, 2) := by decide +kernel
theorem d_M_init_121 : decode prog_14_method_8_code 121 = .ok (.bipush 115, 2) := by decide +kernel
theorem d_M_init_123 : decode prog_14_method_8_code 123 = .ok (.bastore, 1) := by decide +kernel
theorem d_M_init_124 : decode prog_14_method_8_code 124 = .ok (.dup, 1) := by decide +kernel
theorem d_M_init_125 : decode prog_14_method_8_code 125 = .ok (.bipush 13, 2) := by decide +kernel
theorem d_M_init_127 : decode prog_14_method_8_code 127 = .ok (.bipush 101, 2) := by decide +kernel
theorem d_M_init_129 : decode prog_14_method_8_code 129 = .ok (.bastore, 1) := by decide +kernel
theorem d_M_init_130 : decode prog_14_method_8_code 130 = .ok (.dup, 1) := by decide +kernel
theorem d_M_init_131 : decode prog_14_method_8_code 131 = .ok (.bipush 14, 2) := by decide +kernel
theorem d_M_init_133 : decode prog_14_method_8_code 133 = .ok (.bipush 108, 2) := by decide +kernel
theorem d_M_init_135 : decode prog_14_method_8_code 135 = .ok (.bastore, 1) := by decide +kernel
theorem d_M_init_136 : decode prog_14_method_8_code 136 = .ok (.dup, 1) := by decide +kernel
theorem d_M_init_137 : decode prog_14_method_8_code 137 = .ok (.bipush 15, 2) := by decide +kernel
theorem d_M_init_139 : decode prog_14_method_8_code 139 = .ok (.bipush 108, 2) := by decide +kernel
theorem d_M_init_141 : decode prog_14_method_8_code 141 = .ok (.bastore, 1) := by decide +kernel
theorem d_M_init_142 : decode prog_14_method_8_code 142 = .ok (.dup, 1) := by decide +kernel
theorem d_M_init_143 : decode prog_14_method_8_code 143 = .ok (.bipush 16, 2) := by decide +kernel
theorem d_M_init_145 : decode prog_14_method_8_code 145 = .ok (.bipush 115, 2) := by decide +kernel
theorem d_M_init_147 : decode prog_14_method_8_code 147 = .ok (.bastore, 1) := by decide +kernel
theorem d_M_init_148 : decode prog_14_method_8_code 148 = .ok (.dup, 1) := by decide +kernel
theorem d_M_init_149 : decode prog_14_method_8_code 149 = .ok (.bipush 17, 2) := by decide +kernel
theorem d_M_init_151 : decode prog_14_method_8_code 151 = .ok (.bipush 32, 2) := by decide +kernel
theorem d_M_init_153 : decode prog_14_method_8_code 153 = .ok (.bastore, 1) := by decide +kernel
theorem d_M_init_154 : decode prog_14_method_8_code 154 = .ok (.dup, 1) := by decide +kernel
theorem d_M_init_155 : decode prog_14_method_8_code 155 = .ok (.bipush 18, 2) := by decide +kernel
theorem d_M_init_157 : decode prog_14_method_8_code 157 = .ok (.bipush 98, 2) := by decide +kernel
theorem d_M_init_159 : decode prog_14_method_8_code 159 = .ok (.bastore, 1) := by decide +kernel
theorem d_M_init_160 : decode prog_14_method_8_code 160 = .ok (.dup, 1) := by decide +kernel
theorem d_M_init_161 : decode prog_14_method_8_code 161 = .ok (.bipush 19, 2) := by decide +kernel
theorem d_M_init_163 : decode prog_14_method_8_code 163 = .ok (.bipush 97, 2) := by decide +kernel
theorem d_M_init_165 : decode prog_14_method_8_code 165 = .ok (.bastore, 1) := by decide +kernel
theorem d_M_init_166 : decode prog_14_method_8_code 166 = .ok (.dup, 1) := by decide +kernel
theorem d_M_init_167 : decode prog_14_method_8_code 167 = .ok (.bipush 20, 2) := by decide +kernel
theorem d_M_init_169 : decode prog_14_method_8_code 169 = .ok (.bipush 114, 2) := by decide +kernel
theorem d_M_init_171 : decode prog_14_method_8_code 171 = .ok (.bastore, 1) := by decide +kernel
theorem d_M_init_172 : decode prog_14_method_8_code 172 = .ok (.dup, 1) := by decide +kernel
theorem d_M_init_173 : decode prog_14_method_8_code 173 = .ok (.bipush 21, 2) := by decide +kernel
theorem d_M_init_175 : decode prog_14_method_8_code 175 = .ok (.bipush 115, 2) := by decide +kernel
theorem d_M_init_177 : decode prog_14_method_8_code 177 = .ok (.bastore, 1) := by decide +kernel
theorem d_M_init_178 : decode prog_14_method_8_code 178 = .ok (.dup, 1) := by decide +kernel
theorem d_M_init_179 : decode prog_14_method_8_code 179 = .ok (.bipush 22, 2) := by decide +kernel
theorem d_M_init_181 : decode prog_14_method_8_code 181 = .ok (.bipush 32, 2) := by decide +kernel
theorem d_M_init_183 : decode prog_14_method_8_code 183 = .ok (.bastore, 1) := by decide +kernel
theorem d_M_init_184 : decode prog_14_method_8_code 184 = .ok (.dup, 1) := by decide +kernel
theorem d_M_init_185 : decode prog_14_method_8_code 185 = .ok (.bipush 23, 2) := by decide +kernel
theorem d_M_init_187 : decode prog_14_method_8_code 187 = .ok (.bipush 105, 2) := by decide +kernel
theorem d_M_init_189 : decode prog_14_method_8_code 189 = .ok (.bastore, 1) := by decide +kernel
theorem d_M_init_190 : decode prog_14_method_8_code 190 = .ok (.dup, 1) := by decide +kernel
theorem d_M_init_191 : decode prog_14_method_8_code 191 = .ok (.bipush 24, 2) := by decide +kernel
theorem d_M_init_193 : decode prog_14_method_8_code 193 = .ok (.bipush 102, 2) := by decide +kernel
theorem d_M_init_195 : decode prog_14_method_8_code 195 = .ok (.bastore, 1) := by decide +kernel
theorem d_M_init_196 : decode prog_14_method_8_code 196 = .ok (.dup, 1) := by decide +kernel
theorem d_M_init_197 : decode prog_14_method_8_code 197 = .ok (.bipush 25, 2) := by decide +kernel
theorem d_M_init_199 : decode prog_14_method_8_code 199 = .ok (.bipush 32, 2) := by decide +kernel
theorem d_M_init_201 : decode prog_14_method_8_code 201 = .ok (.bastore, 1) := by decide +kernel
theorem d_M_init_202 : decode prog_14_method_8_code 202 = .ok (.dup, 1) := by decide +kernel
theorem d_M_init_203 : decode prog_14_method_8_code 203 = .ok (.bipush 26, 2) := by decide +kernel
theorem d_M_init_205 : decode prog_14_method_8_code 205 = .ok (.bipush 111, 2) := by decide +kernel
theorem d_M_init_207 : decode prog_14_method_8_code 207 = .ok (.bastore, 1) := by decide +kernel
theorem d_M_init_208 : decode prog_14_method_8_code 208 = .ok (.dup, 1) := by decide +kernel
theorem d_M_init_209 : decode prog_14_method_8_code 209 = .ok (.bipush 27, 2) := by decide +kernel
theorem d_M_init_211 : decode prog_14_method_8_code 211 = .ok (.bipush 114, 2) := by decide +kernel
theorem d_M_init_213 : decode prog_14_method_8_code 213 = .ok (.bastore, 1) := by decide +kernel
theorem d_M_init_214 : decode prog_14_method_8_code 214 = .ok (.dup, 1) := by decide +kernel
theorem d_M_init_215 : decode prog_14_method_8_code 215 = .ok (.bipush 28, 2) := by decide +kernel
theorem d_M_init_217 : decode prog_14_method_8_code 217 = .ok (.bipush 32, 2) := by decide +kernel
theorem d_M_init_219 : decode prog_14_method_8_code 219 = .ok (.bastore, 1) := by decide +kernel
theorem d_M_init_220 : decode prog_14_method_8_code 220 = .ok (.dup, 1) := by decide +kernel
theorem d_M_init_221 : decode prog_14_method_8_code 221 = .ok (.bipush 29, 2) := by decide +kernel
theorem d_M_init_223 : decode prog_14_method_8_code 223 = .ok (.bipush 97, 2) := by decide +kernel
theorem d_M_init_225 : decode prog_14_method_8_code 225 = .ok (.bastore, 1) := by decide +kernel
theorem d_M_init_226 : decode prog_14_method_8_code 226 = .ok (.dup, 1) := by decide +kernel
theorem d_M_init_227 : decode prog_14_method_8_code 227 = .ok (.bipush 30, 2) := by decide +kernel
theorem d_M_init_229 : decode prog_14_method_8_code 229 = .ok (.bipush 110, 2) := by decide +kernel
theorem d_M_init_231 : decode prog_14_method_8_code 231 = .ok (.bastore, 1) := by decide +kernel
theorem d_M_init_232 : decode prog_14_method_8_code 232 = .ok (.dup, 1) := by decide +kernel
theorem d_M_init_233 : decode prog_14_method_8_code 233 = .ok (.bipush 31, 2) := by decide +kernel
theorem d_M_init_235 : decode prog_14_method_8_code 235 = .ok (.bipush 100, 2) := by decide +kernel
theorem d_M_init_237 : decode prog_14_method_8_code 237 = .ok (.bastore, 1) := by decide +kernel
theorem d_M_init_238 : decode prog_14_method_8_code 238 = .ok (.dup, 1) := by decide +kernel
theorem d_M_init_239 : decode prog_14_method_8_code 239 = .ok (.bipush 32, 2) := by decide +kernel
theorem d_M_init_241 : decode prog_14_method_8_code 241 = .ok (.bipush 32, 2) := by decide +kernel
theorem d_M_init_243 : decode prog_14_method_8_code 243 = .ok (.bastore, 1) := by decide +kernel
theorem d_M_init_244 : decode prog_14_method_8_code 244 = .ok (.dup, 1) := by decide +kernel
theorem d_M_init_245 : decode prog_14_method_8_code 245 = .ok (.bipush 33, 2) := by decide +kernel
theorem d_M_init_247 : decode prog_14_method_8_code 247 = .ok (.bipush 110, 2) := by decide +kernel
theorem d_M_init_249 : decode prog_14_method_8_code 249 = .ok (.bastore, 1) := by decide +kernel
theorem d_M_init_250 : decode prog_14_method_8_code 250 = .ok (.dup, 1) := by decide +kernel
theorem d_M_init_251 : decode prog_14_method_8_code 251 = .ok (.bipush 34, 2) := by decide +kernel
theorem d_M_init_253 : decode prog_14_method_8_code 253 = .ok (.bipush 111, 2) := by decide +kernel
theorem d_M_init_255 : decode prog_14_method_8_code 255 = .ok (.bastore, 1) := by decide +kernel
theorem d_M_init_256 : decode prog_14_method_8_code 256 = .ok (.dup, 1) := by decide +kernel
theorem d_M_init_257 : decode prog_14_method_8_code 257 = .ok (.bipush 35, 2) := by decide +kernel
theorem d_M_init_259 : decode prog_14_method_8_code 259 = .ok (.bipush 116, 2) := by decide +kernel
theorem d_M_init_261 : decode prog_14_method_8_code 261 = .ok (.bastore, 1) := by decide +kernel
theorem d_M_init_262 : decode prog_14_method_8_code 262 = .ok (.dup, 1) := by decide +kernel
theorem d_M_init_263 : decode prog_14_method_8_code 263 = .ok (.bipush 36, 2) := by decide +kernel
theorem d_M_init_265 : decode prog_14_method_8_code 265 = .ok (.bipush 32, 2) := by decide +kernel
theorem d_M_init_267 : decode prog_14_method_8_code 267 = .ok (.bastore, 1) := by decide +kernel
theorem d_M_init_268 : decode prog_14_method_8_code 268 = .ok (.dup, 1) := by decide +kernel
theorem d_M_init_269 : decode prog_14_method_8_code 269 = .ok (.bipush 37, 2) := by decide +kernel
theorem d_M_init_271 : decode prog_14_method_8_code 271 = .ok (.bipush 111, 2) := by decide +kernel
theorem d_M_init_273 : decode prog_14_method_8_code 273 = .ok (.bastore, 1) := by decide +kernel
theorem d_M_init_274 : decode prog_14_method_8_code 274 = .ok (.dup, 1) := by decide +kernel
theorem d_M_init_275 : decode prog_14_method_8_code 275 = .ok (.bipush 38, 2) := by decide +kernel
theorem d_M_init_277 : decode prog_14_method_8_code 277 = .ok (.bipush 119, 2) := by decide +kernel
theorem d_M_init_279 : decode prog_14_method_8_code 279 = .ok (.bastore, 1) := by decide +kernel
theorem d_M_init_280 : decode prog_14_method_8_code 280 = .ok (.dup, 1) := by decide +kernel
theorem d_M_init_281 : decode prog_14_method_8_code 281 = .ok (.bipush 39, 2) := by decide +kernel
theorem d_M_init_283 : decode prog_14_method_8_code 283 = .ok (.bipush 110, 2) := by decide +kernel
theorem d_M_init_285 : decode prog_14_method_8_code 285 = .ok (.bastore, 1) := by decide +kernel
theorem d_M_init_286 : decode prog_14_method_8_code 286 = .ok (.dup, 1) := by decide +kernel
theorem d_M_init_287 : decode prog_14_method_8_code 287 = .ok (.bipush 40, 2) := by decide +kernel
theorem d_M_init_289 : decode prog_14_method_8_code 289 = .ok (.bipush 101, 2) := by decide +kernel
theorem d_M_init_291 : decode prog_14_method_8_code 291 = .ok (.bastore, 1) := by decide +kernel
theorem d_M_init_292 : decode prog_14_method_8_code 292 = .ok (.dup, 1) := by decide +kernel
theorem d_M_init_293 : decode prog_14_method_8_code 293 = .ok (.bipush 41, 2) := by decide +kernel
theorem d_M_init_295 : decode prog_14_method_8_code 295 = .ok (.bipush 114, 2) := by decide +kernel
theorem d_M_init_297 : decode prog_14_method_8_code 297 = .ok (.bastore, 1) := by decide +kernel
theorem d_M_init_298 : decode prog_14_method_8_code 298 = .ok (.dup, 1) := by decide +kernel
theorem d_M_init_299 : decode prog_14_method_8_code 299 = .ok (.bipush 42, 2) := by decide +kernel
theorem d_M_init_301 : decode prog_14_method_8_code 301 = .ok (.bipush 32, 2) := by decide +kernel
theorem d_M_init_303 : decode prog_14_method_8_code 303 = .ok (.bastore, 1) := by decide +kernel
theorem d_M_init_304 : decode prog_14_method_8_code 304 = .ok (.dup, 1) := by decide +kernel
theorem d_M_init_305 : decode prog_14_method_8_code 305 = .ok (.bipush 43, 2) := by decide +kernel
theorem d_M_init_307 : decode prog_14_method_8_code 307 = .ok (.bipush 118, 2) := by decide +kernel
theorem d_M_init_309 : decode prog_14_method_8_code 309 = .ok (.bastore, 1) := by decide +kernel
theorem d_M_init_310 : decode prog_14_method_8_code 310 = .ok (.dup, 1) := by decide +kernel
theorem d_M_init_311 : decode prog_14_method_8_code 311 = .ok (.bipush 44, 2) := by decide +kernel
theorem d_M_init_313 : decode prog_14_method_8_code 313 = .ok (.bipush 105, 2) := by decide +kernel
theorem d_M_init_315 : decode prog_14_method_8_code 315 = .ok (.bastore, 1) := by decide +kernel
theorem d_M_init_316 : decode prog_14_method_8_code 316 = .ok (.dup, 1) := by decide +kernel
theorem d_M_init_317 : decode prog_14_method_8_code 317 = .ok (.bipush 45, 2) := by decide +kernel
theorem d_M_init_319 : decode prog_14_method_8_code 319 = .ok (.bipush 115, 2) := by decide +kernel
theorem d_M_init_321 : decode prog_14_method_8_code 321 = .ok (.bastore, 1) := by decide +kernel
theorem d_M_init_322 : decode prog_14_method_8_code 322 = .ok (.dup, 1) := by decide +kernel
theorem d_M_init_323 : decode prog_14_method_8_code 323 = .ok (.bipush 46, 2) := by decide +kernel
theorem d_M_init_325 : decode prog_14_method_8_code 325 = .ok (.bipush 105, 2) := by decide +kernel
theorem d_M_init_327 : decode prog_14_method_8_code 327 = .ok (.bastore, 1) := by decide +kernel
theorem d_M_init_328 : decode prog_14_method_8_code 328 = .ok (.dup, 1) := by decide +kernel
theorem d_M_init_329 : decode prog_14_method_8_code 329 = .ok (.bipush 47, 2) := by decide +kernel
theorem d_M_init_331 : decode prog_14_method_8_code 331 = .ok (.bipush 116, 2) := by decide +kernel
theorem d_M_init_333 : decode prog_14_method_8_code 333 = .ok (.bastore, 1) := by decide +kernel
theorem d_M_init_334 : decode prog_14_method_8_code 334 = .ok (.dup, 1) := by decide +kernel
theorem d_M_init_335 : decode prog_14_method_8_code 335 = .ok (.bipush 48, 2) := by decide +kernel
theorem d_M_init_337 : decode prog_14_method_8_code 337 = .ok (.bipush 111, 2) := by decide +kernel
theorem d_M_init_339 : decode prog_14_method_8_code 339 = .ok (.bastore, 1) := by decide +kernel
theorem d_M_init_340 : decode prog_14_method_8_code 340 = .ok (.dup, 1) := by decide +kernel
theorem d_M_init_341 : decode prog_14_method_8_code 341 = .ok (.bipush 49, 2) := by decide +kernel
theorem d_M_init_343 : decode prog_14_method_8_code 343 = .ok (.bipush 114, 2) := by decide +kernel
theorem d_M_init_345 : decode prog_14_method_8_code 345 = .ok (.bastore, 1) := by decide +kernel
theorem d_M_init_346 : decode prog_14_method_8_code 346 = .ok (.dup, 1) := by decide +kernel
theorem d_M_init_347 : decode prog_14_method_8_code 347 = .ok (.bipush 50, 2) := by decide +kernel
theorem d_M_init_349 : decode prog_14_method_8_code 349 = .ok (.bipush 32, 2) := by decide +kernel
theorem d_M_init_351 : decode prog_14_method_8_code 351 = .ok (.bastore, 1) := by decide +kernel
theorem d_M_init_352 : decode prog_14_method_8_code 352 = .ok (.dup, 1) := by decide +kernel
theorem d_M_init_353 : decode prog_14_method_8_code 353 = .ok (.bipush 51, 2) := by decide +kernel
theorem d_M_init_355 : decode prog_14_method_8_code 355 = .ok (.bipush 111, 2) := by decide +kernel
theorem d_M_init_357 : decode prog_14_method_8_code 357 = .ok (.bastore, 1) := by decide +kernel
theorem d_M_init_358 : decode prog_14_method_8_code 358 = .ok (.dup, 1) := by decide +kernel
theorem d_M_init_359 : decode prog_14_method_8_code 359 = .ok (.bipush 52, 2) := by decide +kernel
theorem d_M_init_361 : decode prog_14_method_8_code 361 = .ok (.bipush 119, 2) := by decide +kernel
theorem d_M_init_363 : decode prog_14_method_8_code 363 = .ok (.bastore, 1) := by decide +kernel
theorem d_M_init_364 : decode prog_14_method_8_code 364 = .ok (.dup, 1) := by decide +kernel
theorem d_M_init_365 : decode prog_14_method_8_code 365 = .ok (.bipush 53, 2) := by decide +kernel
theorem d_M_init_367 : decode prog_14_method_8_code 367 = .ok (.bipush 101, 2) := by decide +kernel
theorem d_M_init_369 : decode prog_14_method_8_code 369 = .ok (.bastore, 1) := by decide +kernel
theorem d_M_init_370 : decode prog_14_method_8_code 370 = .ok (.dup, 1) := by decide +kernel
theorem d_M_init_371 : decode prog_14_method_8_code 371 = .ok (.bipush 54, 2) := by decide +kernel
theorem d_M_init_373 : decode prog_14_method_8_code 373 = .ok (.bipush 115, 2) := by decide +kernel
theorem d_M_init_375 : decode prog_14_method_8_code 375 = .ok (.bastore, 1) := by decide +kernel
theorem d_M_init_376 : decode prog_14_method_8_code 376 = .ok (.dup, 1) := by decide +kernel
theorem d_M_init_377 : decode prog_14_method_8_code 377 = .ok (.bipush 55, 2) := by decide +kernel
theorem d_M_init_379 : decode prog_14_method_8_code 379 = .ok (.bipush 32, 2) := by decide +kernel
theorem d_M_init_381 : decode prog_14_method_8_code 381 = .ok (.bastore, 1) := by decide +kernel
theorem d_M_init_382 : decode prog_14_method_8_code 382 = .ok (.dup, 1) := by decide +kernel
theorem d_M_init_383 : decode prog_14_method_8_code 383 = .ok (.bipush 56, 2) := by decide +kernel
theorem d_M_init_385 : decode prog_14_method_8_code 385 = .ok (.bipush 98, 2) := by decide +kernel
theorem d_M_init_387 : decode prog_14_method_8_code 387 = .ok (.bastore, 1) := by decide +kernel
theorem d_M_init_388 : decode prog_14_method_8_code 388 = .ok (.dup, 1) := by decide +kernel
theorem d_M_init_389 : decode prog_14_method_8_code 389 = .ok (.bipush 57, 2) := by decide +kernel
theorem d_M_init_391 : decode prog_14_method_8_code 391 = .ok (.bipush 97, 2) := by decide +kernel
theorem d_M_init_393 : decode prog_14_method_8_code 393 = .ok (.bastore, 1) := by decide +kernel
theorem d_M_init_394 : decode prog_14_method_8_code 394 = .ok (.dup, 1) := by decide +kernel
theorem d_M_init_395 : decode prog_14_method_8_code 395 = .ok (.bipush 58, 2) := by decide +kernel
theorem d_M_init_397 : decode prog_14_method_8_code 397 = .ok (.bipush 99, 2) := by decide +kernel
theorem d_M_init_399 : decode prog_14_method_8_code 399 = .ok (.bastore, 1) := by decide +kernel
theorem d_M_init_400 : decode prog_14_method_8_code 400 = .ok (.dup, 1) := by decide +kernel
theorem d_M_init_401 : decode prog_14_method_8_code 401 = .ok (.bipush 59, 2) := by decide +kernel
theorem d_M_init_403 : decode prog_14_method_8_code 403 = .ok (.bipush 107, 2) := by decide +kernel
theorem d_M_init_405 : decode prog_14_method_8_code 405 = .ok (.bastore, 1) := by decide +kernel
theorem d_M_init_406 : decode prog_14_method_8_code 406 = .ok (.dup, 1) := by decide +kernel
theorem d_M_init_407 : decode prog_14_method_8_code 407 = .ok (.bipush 60, 2) := by decide +kernel
theorem d_M_init_409 : decode prog_14_method_8_code 409 = .ok (.bipush 32, 2) := by decide +kernel
theorem d_M_init_411 : decode prog_14_method_8_code 411 = .ok (.bastore, 1) := by decide +kernel
theorem d_M_init_412 : decode prog_14_method_8_code 412 = .ok (.dup, 1) := by decide +kernel
theorem d_M_init_413 : decode prog_14_method_8_code 413 = .ok (.bipush 61, 2) := by decide +kernel
theorem d_M_init_415 : decode prog_14_method_8_code 415 = .ok (.bipush 114, 2) := by decide +kernel
theorem d_M_init_417 : decode prog_14_method_8_code 417 = .ok (.bastore, 1) := by decide +kernel
theorem d_M_init_418 : decode prog_14_method_8_code 418 = .ok (.dup, 1) := by decide +kernel
theorem d_M_init_419 : decode prog_14_method_8_code 419 = .ok (.bipush 62, 2) := by decide +kernel
theorem d_M_init_421 : decode prog_14_method_8_code 421 = .ok (.bipush 111, 2) := by decide +kernel
theorem d_M_init_423 : decode prog_14_method_8_code 423 = .ok (.bastore, 1) := by decide +kernel
theorem d_M_init_424 : decode prog_14_method_8_code 424 = .ok (.dup, 1) := by decide +kernel
theorem d_M_init_425 : decode prog_14_method_8_code 425 = .ok (.bipush 63, 2) := by decide +kernel
theorem d_M_init_427 : decode prog_14_method_8_code 427 = .ok (.bipush 111, 2) := by decide +kernel
theorem d_M_init_429 : decode prog_14_method_8_code 429 = .ok (.bastore, 1) := by decide +kernel
theorem d_M_init_430 : decode prog_14_method_8_code 430 = .ok (.dup, 1) := by decide +kernel
theorem d_M_init_431 : decode prog_14_method_8_code 431 = .ok (.bipush 64, 2) := by decide +kernel
theorem d_M_init_433 : decode prog_14_method_8_code 433 = .ok (.bipush 109, 2) := by decide +kernel
theorem d_M_init_435 : decode prog_14_method_8_code 435 = .ok (.bastore, 1) := by decide +kernel
theorem d_M_init_436 : decode prog_14_method_8_code 436 = .ok (.dup, 1) := by decide +kernel
theorem d_M_init_437 : decode prog_14_method_8_code 437 = .ok (.bipush 65, 2) := by decide +kernel
theorem d_M_init_439 : decode prog_14_method_8_code 439 = .ok (.bipush 115, 2) := by decide +kernel
theorem d_M_init_441 : decode prog_14_method_8_code 441 = .ok (.bastore, 1) := by decide +kernel
theorem d_M_init_442 : decode prog_14_method_8_code 442 = .ok (.dup, 1) := by decide +kernel
theorem d_M_init_443 : decode prog_14_method_8_code 443 = .ok (.bipush 66, 2) := by decide +kernel
theorem d_M_init_445 : decode prog_14_method_8_code 445 = .ok (.bipush 32, 2) := by decide +kernel
theorem d_M_init_447 : decode prog_14_method_8_code 447 = .ok (.bastore, 1) := by decide +kernel
theorem d_M_init_448 : decode prog_14_method_8_code 448 = .ok (.dup, 1) := by decide +kernel
theorem d_M_init_449 : decode prog_14_method_8_code 449 = .ok (.bipush 67, 2) := by decide +kernel
theorem d_M_init_451 : decode prog_14_method_8_code 451 = .ok (.bipush 119, 2) := by decide +kernel
theorem d_M_init_453 : decode prog_14_method_8_code 453 = .ok (.bastore, 1) := by decide +kernel
theorem d_M_init_454 : decode prog_14_method_8_code 454 = .ok (.dup, 1) := by decide +kernel
theorem d_M_init_455 : decode prog_14_method_8_code 455 = .ok (.bipush 68, 2) := by decide +kernel
theorem d_M_init_457 : decode prog_14_method_8_code 457 = .ok (.bipush 97, 2) := by decide +kernel
theorem d_M_init_459 : decode prog_14_method_8_code 459 = .ok (.bastore, 1) := by decide +kernel
theorem d_M_init_460 : decode prog_14_method_8_code 460 = .ok (.dup, 1) := by decide +kernel
theorem d_M_init_461 : decode prog_14_method_8_code 461 = .ok (.bipush 69, 2) := by decide +kernel
theorem d_M_init_463 : decode prog_14_method_8_code 463 = .ok (.bipush 114, 2) := by decide +kernel
theorem d_M_init_465 : decode prog_14_method_8_code 465 = .ok (.bastore, 1) := by decide +kernel
theorem d_M_init_466 : decode prog_14_method_8_code 466 = .ok (.dup, 1) := by decide +kernel
theorem d_M_init_467 : decode prog_14_method_8_code 467 = .ok (.bipush 70, 2) := by decide +kernel
theorem d_M_init_469 : decode prog_14_method_8_code 469 = .ok (.bipush 121, 2) := by decide +kernel
theorem d_M_init_471 : decode prog_14_method_8_code 471 = .ok (.bastore, 1) := by decide +kernel
theorem d_M_init_472 : decode prog_14_method_8_code 472 = .ok (.dup, 1) := by decide +kernel
theorem d_M_init_473 : decode prog_14_method_8_code 473 = .ok (.bipush 71, 2) := by decide +kernel
theorem d_M_init_475 : decode prog_14_method_8_code 475 = .ok (.bipush 32, 2) := by decide +kernel
theorem d_M_init_477 : decode prog_14_method_8_code 477 = .ok (.bastore, 1) := by decide +kernel
theorem d_M_init_478 : decode prog_14_method_8_code 478 = .ok (.dup, 1) := by decide +kernel
theorem d_M_init_479 : decode prog_14_method_8_code 479 = .ok (.bipush 72, 2) := by decide +kernel
theorem d_M_init_481 : decode prog_14_method_8_code 481 = .ok (.bipush 97, 2) := by decide +kernel
theorem d_M_init_483 : decode prog_14_method_8_code 483 = .ok (.bastore, 1) := by decide +kernel
theorem d_M_init_484 : decode prog_14_method_8_code 484 = .ok (.dup, 1) := by decide +kernel
theorem d_M_init_485 : decode prog_14_method_8_code 485 = .ok (.bipush 73, 2) := by decide +kernel
theorem d_M_init_487 : decode prog_14_method_8_code 487 = .ok (.bipush 109, 2) := by decide +kernel
theorem d_M_init_489 : decode prog_14_method_8_code 489 = .ok (.bastore, 1) := by decide +kernel
theorem d_M_init_490 : decode prog_14_method_8_code 490 = .ok (.dup, 1) := by decide +kernel
theorem d_M_init_491 : decode prog_14_method_8_code 491 = .ok (.bipush 74, 2) := by decide +kernel
theorem d_M_init_493 : decode prog_14_method_8_code 493 = .ok (.bipush 111, 2) := by decide +kernel
theorem d_M_init_495 : decode prog_14_method_8_code 495 = .ok (.bastore, 1) := by decide +kernel
theorem d_M_init_496 : decode prog_14_method_8_code 496 = .ok (.dup, 1) := by decide +kernel
theorem d_M_init_497 : decode prog_14_method_8_code 497 = .ok (.bipush 75, 2) := by decide +kernel
theorem d_M_init_499 : decode prog_14_method_8_code 499 = .ok (.bipush 117, 2) := by decide +kernel
theorem d_M_init_501 : decode prog_14_method_8_code 501 = .ok (.bastore, 1) := by decide +kernel
theorem d_M_init_502 : decode prog_14_method_8_code 502 = .ok (.dup, 1) := by decide +kernel
theorem d_M_init_503 : decode prog_14_method_8_code 503 = .ok (.bipush 76, 2) := by decide +kernel
theorem d_M_init_505 : decode prog_14_method_8_code 505 = .ok (.bipush 110, 2) := by decide +kernel
theorem d_M_init_507 : decode prog_14_method_8_code 507 = .ok (.bastore, 1) := by decide +kernel
theorem d_M_init_508 : decode prog_14_method_8_code 508 = .ok (.dup, 1) := by decide +kernel
theorem d_M_init_509 : decode prog_14_method_8_code 509 = .ok (.bipush 77, 2) := by decide +kernel
theorem d_M_init_511 : decode prog_14_method_8_code 511 = .ok (.bipush 116, 2) := by decide +kernel
theorem d_M_init_513 : decode prog_14_method_8_code 513 = .ok (.bastore, 1) := by decide +kernel
theorem d_M_init_514 : decode prog_14_method_8_code 514 = .ok (.dup, 1) := by decide +kernel
theorem d_M_init_515 : decode prog_14_method_8_code 515 = .ok (.bipush 78, 2) := by decide +kernel
theorem d_M_init_517 : decode prog_14_method_8_code 517 = .ok (.bipush 32, 2) := by decide +kernel
theorem d_M_init_519 : decode prog_14_method_8_code 519 = .ok (.bastore, 1) := by decide +kernel
theorem d_M_init_520 : decode prog_14_method_8_code 520 = .ok (.dup, 1) := by decide +kernel
theorem d_M_init_521 : decode prog_14_method_8_code 521 = .ok (.bipush 79, 2) := by decide +kernel
theorem d_M_init_523 : decode prog_14_method_8_code 523 = .ok (.bipush 97, 2) := by decide +kernel
theorem d_M_init_525 : decode prog_14_method_8_code 525 = .ok (.bastore, 1) := by decide +kernel
theorem d_M_init_526 : decode prog_14_method_8_code 526 = .ok (.dup, 1) := by decide +kernel
theorem d_M_init_527 : decode prog_14_method_8_code 527 = .ok (.bipush 80, 2) := by decide +kernel
theorem d_M_init_529 : decode prog_14_method_8_code 529 = .ok (.bipush 103, 2) := by decide +kernel
theorem d_M_init_531 : decode prog_14_method_8_code 531 = .ok (.bastore, 1) := by decide +kernel
theorem d_M_init_532 : decode prog_14_method_8_code 532 = .ok (.dup, 1) := by decide +kernel
theorem d_M_init_533 : decode prog_14_method_8_code 533 = .ok (.bipush 81, 2) := by decide +kernel
theorem d_M_init_535 : decode prog_14_method_8_code 535 = .ok (.bipush 101, 2) := by decide +kernel
theorem d_M_init_537 : decode prog_14_method_8_code 537 = .ok (.bastore, 1) := by decide +kernel
theorem d_M_init_538 : decode prog_14_method_8_code 538 = .ok (.dup, 1) := by decide +kernel
theorem d_M_init_539 : decode prog_14_method_8_code 539 = .ok (.bipush 82, 2) := by decide +kernel
theorem d_M_init_541 : decode prog_14_method_8_code 541 = .ok (.bipush 32, 2) := by decide +kernel
theorem d_M_init_543 : decode prog_14_method_8_code 543 = .ok (.bastore, 1) := by decide +kernel
theorem d_M_init_544 : decode prog_14_method_8_code 544 = .ok (.dup, 1) := by decide +kernel
theorem d_M_init_545 : decode prog_14_method_8_code 545 = .ok (.bipush 83, 2) := by decide +kernel
theorem d_M_init_547 : decode prog_14_method_8_code 547 = .ok (.bipush 100, 2) := by decide +kernel
theorem d_M_init_549 : decode prog_14_method_8_code 549 = .ok (.bastore, 1) := by decide +kernel
theorem d_M_init_550 : decode prog_14_method_8_code 550 = .ok (.dup, 1) := by decide +kernel
theorem d_M_init_551 : decode prog_14_method_8_code 551 = .ok (.bipush 84, 2) := by decide +kernel
theorem d_M_init_553 : decode prog_14_method_8_code 553 = .ok (.bipush 97, 2) := by decide +kernel
theorem d_M_init_555 : decode prog_14_method_8_code 555 = .ok (.bastore, 1) := by decide +kernel
theorem d_M_init_556 : decode prog_14_method_8_code 556 = .ok (.dup, 1) := by decide +kernel
theorem d_M_init_557 : decode prog_14_method_8_code 557 = .ok (.bipush 85, 2) := by decide +kernel
theorem d_M_init_559 : decode prog_14_method_8_code 559 = .ok (.bipush 121, 2) := by decide +kernel
theorem d_M_init_561 : decode prog_14_method_8_code 561 = .ok (.bastore, 1) := by decide +kernel
theorem d_M_init_562 : decode prog_14_method_8_code 562 = .ok (.dup, 1) := by decide +kernel
theorem d_M_init_563 : decode prog_14_method_8_code 563 = .ok (.bipush 86, 2) := by decide +kernel
theorem d_M_init_565 : decode prog_14_method_8_code 565 = .ok (.bipush 32, 2) := by decide +kernel
theorem d_M_init_567 : decode prog_14_method_8_code 567 = .ok (.bastore, 1) := by decide +kernel
theorem d_M_init_568 : decode prog_14_method_8_code 568 = .ok (.dup, 1) := by decide +kernel
theorem d_M_init_569 : decode prog_14_method_8_code 569 = .ok (.bipush 87, 2) := by decide +kernel
theorem d_M_init_571 : decode prog_14_method_8_code 571 = .ok (.bipush 109, 2) := by decide +kernel
theorem d_M_init_573 : decode prog_14_method_8_code 573 = .ok (.bastore, 1) := by decide +kernel
theorem d_M_init_574 : decode prog_14_method_8_code 574 = .ok (.dup, 1) := by decide +kernel
theorem d_M_init_575 : decode prog_14_method_8_code 575 = .ok (.bipush 88, 2) := by decide +kernel
theorem d_M_init_577 : decode prog_14_method_8_code 577 = .ok (.bipush 111, 2) := by decide +kernel
theorem d_M_init_579 : decode prog_14_method_8_code 579 = .ok (.bastore, 1) := by decide +kernel
theorem d_M_init_580 : decode prog_14_method_8_code 580 = .ok (.dup, 1) := by decide +kernel
theorem d_M_init_581 : decode prog_14_method_8_code 581 = .ok (.bipush 89, 2) := by decide +kernel
theorem d_M_init_583 : decode prog_14_method_8_code 583 = .ok (.bipush 111, 2) := by decide +kernel
theorem d_M_init_585 : decode prog_14_method_8_code 585 = .ok (.bastore, 1) := by decide +kernel
theorem d_M_init_586 : decode prog_14_method_8_code 586 = .ok (.dup, 1) := by decide +kernel
theorem d_M_init_587 : decode prog_14_method_8_code 587 = .ok (.bipush 90, 2) := by decide +kernel
theorem d_M_init_589 : decode prog_14_method_8_code 589 = .ok (.bipush 100, 2) := by decide +kernel
theorem d_M_init_591 : decode prog_14_method_8_code 591 = .ok (.bastore, 1) := by decide +kernel
theorem d_M_init_592 : decode prog_14_method_8_code 592 = .ok (.dup, 1) := by decide +kernel
theorem d_M_init_593 : decode prog_14_method_8_code 593 = .ok (.bipush 91, 2) := by decide +kernel
theorem d_M_init_595 : decode prog_14_method_8_code 595 = .ok (.bipush 32, 2) := by decide +kernel
theorem d_M_init_597 : decode prog_14_method_8_code 597 = .ok (.bastore, 1) := by decide +kernel
theorem d_M_init_598 : decode prog_14_method_8_code 598 = .ok (.dup, 1) := by decide +kernel
theorem d_M_init_599 : decode prog_14_method_8_code 599 = .ok (.bipush 92, 2) := by decide +kernel
theorem d_M_init_601 : decode prog_14_method_8_code 601 = .ok (.bipush 100, 2) := by decide +kernel
theorem d_M_init_603 : decode prog_14_method_8_code 603 = .ok (.bastore, 1) := by decide +kernel
theorem d_M_init_604 : decode prog_14_method_8_code 604 = .ok (.dup, 1) := by decide +kernel
theorem d_M_init_605 : decode prog_14_method_8_code 605 = .ok (.bipush 93, 2) := by decide +kernel
theorem d_M_init_607 : decode prog_14_method_8_code 607 = .ok (.bipush 101, 2) := by decide +kernel
theorem d_M_init_609 : decode prog_14_method_8_code 609 = .ok (.bastore, 1) := by decide +kernel
theorem d_M_init_610 : decode prog_14_method_8_code 610 = .ok (.dup, 1) := by decide +kernel
theorem d_M_init_611 : decode prog_14_method_8_code 611 = .ok (.bipush 94, 2) := by decide +kernel
theorem d_M_init_613 : decode prog_14_method_8_code 613 = .ok (.bipush 98, 2) := by decide +kernel
theorem d_M_init_615 : decode prog_14_method_8_code 615 = .ok (.bastore, 1) := by decide +kernel
theorem d_M_init_616 : decode prog_14_method_8_code 616 = .ok (.dup, 1) := by decide +kernel
theorem d_M_init_617 : decode prog_14_method_8_code 617 = .ok (.bipush 95, 2) := by decide +kernel
theorem d_M_init_619 : decode prog_14_method_8_code 619 = .ok (.bipush 116, 2) := by decide +kernel
theorem d_M_init_621 : decode prog_14_method_8_code 621 = .ok (.bastore, 1) := by decide +kernel
theorem d_M_init_622 : decode prog_14_method_8_code 622 = .ok (.dup, 1) := by decide +kernel
theorem d_M_init_623 : decode prog_14_method_8_code 623 = .ok (.bipush 96, 2) := by decide +kernel
theorem d_M_init_625 : decode prog_14_method_8_code 625 = .ok (.bipush 115, 2) := by decide +kernel
theorem d_M_init_627 : decode prog_14_method_8_code 627 = .ok (.bastore, 1) := by decide +kernel
theorem d_M_init_628 : decode prog_14_method_8_code 628 = .ok (.dup, 1) := by decide +kernel
theorem d_M_init_629 : decode prog_14_method_8_code 629 = .ok (.bipush 97, 2) := by decide +kernel
theorem d_M_init_631 : decode prog_14_method_8_code 631 = .ok (.bipush 32, 2) := by decide +kernel
theorem d_M_init_633 : decode prog_14_method_8_code 633 = .ok (.bastore, 1) := by decide +kernel
theorem d_M_init_634 : decode prog_14_method_8_code 634 = .ok (.dup, 1) := by decide +kernel
theorem d_M_init_635 : decode prog_14_method_8_code 635 = .ok (.bipush 98, 2) := by decide +kernel
theorem d_M_init_637 : decode prog_14_method_8_code 637 = .ok (.bipush 100, 2) := by decide +kernel
theorem d_M_init_639 : decode prog_14_method_8_code 639 = .ok (.bastore, 1) := by decide +kernel
theorem d_M_init_640 : decode prog_14_method_8_code 640 = .ok (.dup, 1) := by decide +kernel
theorem d_M_init_641 : decode prog_14_method_8_code 641 = .ok (.bipush 99, 2) := by decide +kernel
theorem d_M_init_643 : decode prog_14_method_8_code 643 = .ok (.bipush 111, 2) := by decide +kernel
theorem d_M_init_645 : decode prog_14_method_8_code 645 = .ok (.bastore, 1) := by decide +kernel
theorem d_M_init_646 : decode prog_14_method_8_code 646 = .ok (.dup, 1) := by decide +kernel
theorem d_M_init_647 : decode prog_14_method_8_code 647 = .ok (.bipush 100, 2) := by decide +kernel
theorem d_M_init_649 : decode prog_14_method_8_code 649 = .ok (.bipush 110, 2) := by decide +kernel
theorem d_M_init_651 : decode prog_14_method_8_code 651 = .ok (.bastore, 1) := by decide +kernel
theorem d_M_init_652 : decode prog_14_method_8_code 652 = .ok (.dup, 1) := by decide +kernel
theorem d_M_init_653 : decode prog_14_method_8_code 653 = .ok (.bipush 101, 2) := by decide +kernel
theorem d_M_init_655 : decode prog_14_method_8_code 655 = .ok (.bipush 101, 2) := by decide +kernel
theorem d_M_init_657 : decode prog_14_method_8_code 657 = .ok (.bastore, 1) := by decide +kernel
theorem d_M_init_658 : decode prog_14_method_8_code 658 = .ok (.dup, 1) := by decide +kernel
theorem d_M_init_659 : decode prog_14_method_8_code 659 = .ok (.bipush 102, 2) := by decide +kernel
theorem d_M_init_661 : decode prog_14_method_8_code 661 = .ok (.bipush 32, 2) := by decide +kernel
theorem d_M_init_663 : decode prog_14_method_8_code 663 = .ok (.bastore, 1) := by decide +kernel
theorem d_M_init_664 : decode prog_14_method_8_code 664 = .ok (.dup, 1) := by decide +kernel
theorem d_M_init_665 : decode prog_14_method_8_code 665 = .ok (.bipush 103, 2) := by decide +kernel
theorem d_M_init_667 : decode prog_14_method_8_code 667 = .ok (.bipush 108, 2) := by decide +kernel
theorem d_M_init_669 : decode prog_14_method_8_code 669 = .ok (.bastore, 1) := by decide +kernel
theorem d_M_init_670 : decode prog_14_method_8_code 670 = .ok (.dup, 1) := by decide +kernel
theorem d_M_init_671 : decode prog_14_method_8_code 671 = .ok (.bipush 104, 2) := by decide +kernel
theorem d_M_init_673 : decode prog_14_method_8_code 673 = .ok (.bipush 97, 2) := by decide +kernel
theorem d_M_init_675 : decode prog_14_method_8_code 675 = .ok (.bastore, 1) := by decide +kernel
theorem d_M_init_676 : decode prog_14_method_8_code 676 = .ok (.dup, 1) := by decide +kernel
theorem d_M_init_677 : decode prog_14_method_8_code 677 = .ok (.bipush 105, 2) := by decide +kernel
theorem d_M_init_679 : decode prog_14_method_8_code 679 = .ok (.bipush 115, 2) := by decide +kernel
theorem d_M_init_681 : decode prog_14_method_8_code 681 = .ok (.bastore, 1) := by decide +kernel
theorem d_M_init_682 : decode prog_14_method_8_code 682 = .ok (.dup, 1) := by decide +kernel
theorem d_M_init_683 : decode prog_14_method_8_code 683 = .ok (.bipush 106, 2) := by decide +kernel
theorem d_M_init_685 : decode prog_14_method_8_code 685 = .ok (.bipush 116, 2) := by decide +kernel
theorem d_M_init_687 : decode prog_14_method_8_code 687 = .ok (.bastore, 1) := by decide +kernel
theorem d_M_init_688 : decode prog_14_method_8_code 688 = .ok (.dup, 1) := by decide +kernel
theorem d_M_init_689 : decode prog_14_method_8_code 689 = .ok (.bipush 107, 2) := by decide +kernel
theorem d_M_init_691 : decode prog_14_method_8_code 691 = .ok (.bipush 32, 2) := by decide +kernel
theorem d_M_init_693 : decode prog_14_method_8_code 693 = .ok (.bastore, 1) := by decide +kernel
theorem d_M_init_694 : decode prog_14_method_8_code 694 = .ok (.dup, 1) := by decide +kernel
theorem d_M_init_695 : decode prog_14_method_8_code 695 = .ok (.bipush 108, 2) := by decide +kernel
theorem d_M_init_697 : decode prog_14_method_8_code 697 = .ok (.bipush 112, 2) := by decide +kernel
theorem d_M_init_699 : decode prog_14_method_8_code 699 = .ok (.bastore, 1) := by decide +kernel
theorem d_M_init_700 : decode prog_14_method_8_code 700 = .ok (.dup, 1) := by decide +kernel
theorem d_M_init_701 : decode prog_14_method_8_code 701 = .ok (.bipush 109, 2) := by decide +kernel
theorem d_M_init_703 : decode prog_14_method_8_code 703 = .ok (.bipush 117, 2) := by decide +kernel
theorem d_M_init_705 : decode prog_14_method_8_code 705 = .ok (.bastore, 1) := by decide +kernel
theorem d_M_init_706 : decode prog_14_method_8_code 706 = .ok (.dup, 1) := by decide +kernel
theorem d_M_init_707 : decode prog_14_method_8_code 707 = .ok (.bipush 110, 2) := by decide +kernel
theorem d_M_init_709 : decode prog_14_method_8_code 709 = .ok (.bipush 114, 2) := by decide +kernel
theorem d_M_init_711 : decode prog_14_method_8_code 711 = .ok (.bastore, 1) := by decide +kernel
theorem d_M_init_712 : decode prog_14_method_8_code 712 = .ok (.dup, 1) := by decide +kernel
theorem d_M_init_713 : decode prog_14_method_8_code 713 = .ok (.bipush 111, 2) := by decide +kernel
theorem d_M_init_715 : decode prog_14_method_8_code 715 = .ok (.bipush 115, 2) := by decide +kernel
theorem d_M_init_717 : decode prog_14_method_8_code 717 = .ok (.bastore, 1) := by decide +kernel
theorem d_M_init_718 : decode prog_14_method_8_code 718 = .ok (.dup, 1) := by decide +kernel
theorem d_M_init_719 : decode prog_14_method_8_code 719 = .ok (.bipush 112, 2) := by decide +kernel
theorem d_M_init_721 : decode prog_14_method_8_code 721 = .ok (.bipush 101, 2) := by decide +kernel
theorem d_M_init_723 : decode prog_14_method_8_code 723 = .ok (.bastore, 1) := by decide +kernel
theorem d_M_init_724 : decode prog_14_method_8_code 724 = .ok (.dup, 1) := by decide +kernel
theorem d_M_init_725 : decode prog_14_method_8_code 725 = .ok (.bipush 113, 2) := by decide +kernel
theorem d_M_init_727 : decode prog_14_method_8_code 727 = .ok (.bipush 32, 2) := by decide +kernel
theorem d_M_init_729 : decode prog_14_method_8_code 729 = .ok (.bastore, 1) := by decide +kernel
theorem d_M_init_730 : decode prog_14_method_8_code 730 = .ok (.dup, 1) := by decide +kernel
theorem d_M_init_731 : decode prog_14_method_8_code 731 = .ok (.bipush 114, 2) := by decide +kernel
theorem d_M_init_733 : decode prog_14_method_8_code 733 = .ok (.bipush 111, 2) := by decide +kernel
theorem d_M_init_735 : decode prog_14_method_8_code 735 = .ok (.bastore, 1) := by decide +kernel
theorem d_M_init_736 : decode prog_14_method_8_code 736 = .ok (.dup, 1) := by decide +kernel
theorem d_M_init_737 : decode prog_14_method_8_code 737 = .ok (.bipush 115, 2) := by decide +kernel
theorem d_M_init_739 : decode prog_14_method_8_code 739 = .ok (.bipush 119, 2) := by decide +kernel
theorem d_M_init_741 : decode prog_14_method_8_code 741 = .ok (.bastore, 1) := by decide +kernel
theorem d_M_init_742 : decode prog_14_method_8_code 742 = .ok (.dup, 1) := by decide +kernel
theorem d_M_init_743 : decode prog_14_method_8_code 743 = .ok (.bipush 116, 2) := by decide +kernel
theorem d_M_init_745 : decode prog_14_method_8_code 745 = .ok (.bipush 101, 2) := by decide +kernel
theorem d_M_init_747 : decode prog_14_method_8_code 747 = .ok (.bastore, 1) := by decide +kernel
theorem d_M_init_748 : decode prog_14_method_8_code 748 = .ok (.dup, 1) := by decide +kernel
theorem d_M_init_749 : decode prog_14_method_8_code 749 = .ok (.bipush 117, 2) := by decide +kernel
theorem d_M_init_751 : decode prog_14_method_8_code 751 = .ok (.bipush 100, 2) := by decide +kernel
theorem d_M_init_753 : decode prog_14_method_8_code 753 = .ok (.bastore, 1) := by decide +kernel
theorem d_M_init_754 : decode prog_14_method_8_code 754 = .ok (.dup, 1) := by decide +kernel
theorem d_M_init_755 : decode prog_14_method_8_code 755 = .ok (.bipush 118, 2) := by decide +kernel
theorem d_M_init_757 : decode prog_14_method_8_code 757 = .ok (.bipush 32, 2) := by decide +kernel
theorem d_M_init_759 : decode prog_14_method_8_code 759 = .ok (.bastore, 1) := by decide +kernel
theorem d_M_init_760 : decode prog_14_method_8_code 760 = .ok (.dup, 1) := by decide +kernel
theorem d_M_init_761 : decode prog_14_method_8_code 761 = .ok (.bipush 119, 2) := by decide +kernel
theorem d_M_init_763 : decode prog_14_method_8_code 763 = .ok (.bipush 108, 2) := by decide +kernel
theorem d_M_init_765 : decode prog_14_method_8_code 765 = .ok (.bastore, 1) := by decide +kernel
theorem d_M_init_766 : decode prog_14_method_8_code 766 = .ok (.dup, 1) := by decide +kernel
theorem d_M_init_767 : decode prog_14_method_8_code 767 = .ok (.bipush 120, 2) := by decide +kernel
theorem d_M_init_769 : decode prog_14_method_8_code 769 = .ok (.bipush 101, 2) := by decide +kernel
theorem d_M_init_771 : decode prog_14_method_8_code 771 = .ok (.bastore, 1) := by decide +kernel
theorem d_M_init_772 : decode prog_14_method_8_code 772 = .ok (.dup, 1) := by decide +kernel
theorem d_M_init_773 : decode prog_14_method_8_code 773 = .ok (.bipush 121, 2) := by decide +kernel
theorem d_M_init_775 : decode prog_14_method_8_code 775 = .ok (.bipush 110, 2) := by decide +kernel
theorem d_M_init_777 : decode prog_14_method_8_code 777 = .ok (.bastore, 1) := by decide +kernel
theorem d_M_init_778 : decode prog_14_method_8_code 778 = .ok (.dup, 1) := by decide +kernel
theorem d_M_init_779 : decode prog_14_method_8_code 779 = .ok (.bipush 122, 2) := by decide +kernel
theorem d_M_init_781 : decode prog_14_method_8_code 781 = .ok (.bipush 100, 2) := by decide +kernel
theorem d_M_init_783 : decode prog_14_method_8_code 783 = .ok (.bastore, 1) := by decide +kernel
theorem d_M_init_784 : decode prog_14_method_8_code 784 = .ok (.dup, 1) := by decide +kernel
theorem d_M_init_785 : decode prog_14_method_8_code 785 = .ok (.bipush 123, 2) := by decide +kernel
theorem d_M_init_787 : decode prog_14_method_8_code 787 = .ok (.bipush 32, 2) := by decide +kernel
theorem d_M_init_789 : decode prog_14_method_8_code 789 = .ok (.bastore, 1) := by decide +kernel
theorem d_M_init_790 : decode prog_14_method_8_code 790 = .ok (.dup, 1) := by decide +kernel
theorem d_M_init_791 : decode prog_14_method_8_code 791 = .ok (.bipush 124, 2) := by decide +kernel
theorem d_M_init_793 : decode prog_14_method_8_code 793 = .ok (.bipush 114, 2) := by decide +kernel
theorem d_M_init_795 : decode prog_14_method_8_code 795 = .ok (.bastore, 1) := by decide +kernel
theorem d_M_init_796 : decode prog_14_method_8_code 796 = .ok (.dup, 1) := by decide +kernel
theorem d_M_init_797 : decode prog_14_method_8_code 797 = .ok (.bipush 125, 2) := by decide +kernel
theorem d_M_init_799 : decode prog_14_method_8_code 799 = .ok (.bipush 101, 2) := by decide +kernel
theorem d_M_init_801 : decode prog_14_method_8_code 801 = .ok (.bastore, 1) := by decide +kernel
theorem d_M_init_802 : decode prog_14_method_8_code 802 = .ok (.dup, 1) := by decide +kernel
theorem d_M_init_803 : decode prog_14_method_8_code 803 = .ok (.bipush 126, 2) := by decide +kernel
theorem d_M_init_805 : decode prog_14_method_8_code 805 = .ok (.bipush 112, 2) := by decide +kernel
theorem d_M_init_807 : decode prog_14_method_8_code 807 = .ok (.bastore, 1) := by decide +kernel
theorem d_M_init_808 : decode prog_14_method_8_code 808 = .ok (.dup, 1) := by decide +kernel
theorem d_M_init_809 : decode prog_14_method_8_code 809 = .ok (.bipush 127, 2) := by decide +kernel
theorem d_M_init_811 : decode prog_14_method_8_code 811 = .ok (.bipush 97, 2) := by decide +kernel
theorem d_M_init_813 : decode prog_14_method_8_code 813 = .ok (.bastore, 1) := by decide +kernel
theorem d_M_init_814 : decode prog_14_method_8_code 814 = .ok (.dup, 1) := by decide +kernel
theorem d_M_init_815 : decode prog_14_method_8_code 815 = .ok (.sipush 128, 3) := by decide +kernel
theorem d_M_init_818 : decode prog_14_method_8_code 818 = .ok (.bipush 121, 2) := by decide +kernel
theorem d_M_init_820 : decode prog_14_method_8_code 820 = .ok (.bastore, 1) := by decide +kernel
theorem d_M_init_821 : decode prog_14_method_8_code 821 = .ok (.dup, 1) := by decide +kernel
theorem d_M_init_822 : decode prog_14_method_8_code 822 = .ok (.sipush 129, 3) := by decide +kernel
theorem d_M_init_825 : decode prog_14_method_8_code 825 = .ok (.bipush 32, 2) := by decide +kernel
theorem d_M_init_827 : decode prog_14_method_8_code 827 = .ok (.bastore, 1) := by decide +kernel
theorem d_M_init_828 : decode prog_14_method_8_code 828 = .ok (.dup, 1) := by decide +kernel
theorem d_M_init_829 : decode prog_14_method_8_code 829 = .ok (.sipush 130, 3) := by decide +kernel
theorem d_M_init_832 : decode prog_14_method_8_code 832 = .ok (.bipush 119, 2) := by decide +kernel
theorem d_M_init_834 : decode prog_14_method_8_code 834 = .ok (.bastore, 1) := by decide +kernel
theorem d_M_init_835 : decode prog_14_method_8_code 835 = .ok (.dup, 1) := by decide +kernel
theorem d_M_init_836 : decode prog_14_method_8_code 836 = .ok (.sipush 131, 3) := by decide +kernel
theorem d_M_init_839 : decode prog_14_method_8_code 839 = .ok (.bipush 97, 2) := by decide +kernel
theorem d_M_init_841 : decode prog_14_method_8_code 841 = .ok (.bastore, 1) := by decide +kernel
theorem d_M_init_842 : decode prog_14_method_8_code 842 = .ok (.dup, 1) := by decide +kernel
theorem d_M_init_843 : decode prog_14_method_8_code 843 = .ok (.sipush 132, 3) := by decide +kernel
theorem d_M_init_846 : decode prog_14_method_8_code 846 = .ok (.bipush 105, 2) := by decide +kernel
theorem d_M_init_848 : decode prog_14_method_8_code 848 = .ok (.bastore, 1) := by decide +kernel
theorem d_M_init_849 : decode prog_14_method_8_code 849 = .ok (.dup, 1) := by decide +kernel
theorem d_M_init_850 : decode prog_14_method_8_code 850 = .ok (.sipush 133, 3) := by decide +kernel
theorem d_M_init_853 : decode prog_14_method_8_code 853 = .ok (.bipush 116, 2) := by decide +kernel
theorem d_M_init_855 : decode prog_14_method_8_code 855 = .ok (.bastore, 1) := by decide +kernel
theorem d_M_init_856 : decode prog_14_method_8_code 856 = .ok (.dup, 1) := by decide +kernel
theorem d_M_init_857 : decode prog_14_method_8_code 857 = .ok (.sipush 134, 3) := by decide +kernel
theorem d_M_init_860 : decode prog_14_method_8_code 860 = .ok (.bipush 32, 2) := by decide +kernel
theorem d_M_init_862 : decode prog_14_method_8_code 862 = .ok (.bastore, 1) := by decide +kernel
theorem d_M_init_863 : decode prog_14_method_8_code 863 = .ok (.dup, 1) := by decide +kernel
theorem d_M_init_864 : decode prog_14_method_8_code 864 = .ok (.sipush 135, 3) := by decide +kernel
theorem d_M_init_867 : decode prog_14_method_8_code 867 = .ok (.bipush 116, 2) := by decide +kernel
theorem d_M_init_869 : decode prog_14_method_8_code 869 = .ok (.bastore, 1) := by decide +kernel
theorem d_M_init_870 : decode prog_14_method_8_code 870 = .ok (.dup, 1) := by decide +kernel
theorem d_M_init_871 : decode prog_14_method_8_code 871 = .ok (.sipush 136, 3) := by decide +kernel
theorem d_M_init_874 : decode prog_14_method_8_code 874 = .ok (.bipush 111, 2) := by decide +kernel
theorem d_M_init_876 : decode prog_14_method_8_code 876 = .ok (.bastore, 1) := by decide +kernel
theorem d_M_init_877 : decode prog_14_method_8_code 877 = .ok (.dup, 1) := by decide +kernel
theorem d_M_init_878 : decode prog_14_method_8_code 878 = .ok (.sipush 137, 3) := by decide +kernel
theorem d_M_init_881 : decode prog_14_method_8_code 881 = .ok (.bipush 32, 2) := by decide +kernel
theorem d_M_init_883 : decode prog_14_method_8_code 883 = .ok (.bastore, 1) := by decide +kernel
theorem d_M_init_884 : decode prog_14_method_8_code 884 = .ok (.dup, 1) := by decide +kernel
theorem d_M_init_885 : decode prog_14_method_8_code 885 = .ok (.sipush 138, 3) := by decide +kernel
theorem d_M_init_888 : decode prog_14_method_8_code 888 = .ok (.bipush 111, 2) := by decide +kernel
theorem d_M_init_890 : decode prog_14_method_8_code 890 = .ok (.bastore, 1) := by decide +kernel
theorem d_M_init_891 : decode prog_14_method_8_code 891 = .ok (.dup, 1) := by decide +kernel
theorem d_M_init_892 : decode prog_14_method_8_code 892 = .ok (.sipush 139, 3) := by decide +kernel
theorem d_M_init_895 : decode prog_14_method_8_code 895 = .ok (.bipush 102, 2) := by decide +kernel
theorem d_M_init_897 : decode prog_14_method_8_code 897 = .ok (.bastore, 1) := by decide +kernel
theorem d_M_init_898 : decode prog_14_method_8_code 898 = .ok (.dup, 1) := by decide +kernel
theorem d_M_init_899 : decode prog_14_method_8_code 899 = .ok (.sipush 140, 3) := by decide +kernel
theorem d_M_init_902 : decode prog_14_method_8_code 902 = .ok (.bipush 32, 2) := by decide +kernel
theorem d_M_init_904 : decode prog_14_method_8_code 904 = .ok (.bastore, 1) := by decide +kernel
theorem d_M_init_905 : decode prog_14_method_8_code 905 = .ok (.dup, 1) := by decide +kernel
theorem d_M_init_906 : decode prog_14_method_8_code 906 = .ok (.sipush 141, 3) := by decide +kernel
theorem d_M_init_909 : decode prog_14_method_8_code 909 = .ok (.bipush 116, 2) := by decide +kernel
theorem d_M_init_911 : decode prog_14_method_8_code 911 = .ok (.bastore, 1) := by decide +kernel
theorem d_M_init_912 : decode prog_14_method_8_code 912 = .ok (.dup, 1) := by decide +kernel
theorem d_M_init_913 : decode prog_14_method_8_code 913 = .ok (.sipush 142, 3) := by decide +kernel
theorem d_M_init_916 : decode prog_14_method_8_code 916 = .ok (.bipush 105, 2) := by decide +kernel
theorem d_M_init_918 : decode prog_14_method_8_code 918 = .ok (.bastore, 1) := by decide +kernel
theorem d_M_init_919 : decode prog_14_method_8_code 919 = .ok (.dup, 1) := by decide +kernel
theorem d_M_init_920 : decode prog_14_method_8_code 920 = .ok (.sipush 143, 3) := by decide +kernel
theorem d_M_init_923 : decode prog_14_method_8_code 923 = .ok (.bipush 109, 2) := by decide +kernel
theorem d_M_init_925 : decode prog_14_method_8_code 925 = .ok (.bastore, 1) := by decide +kernel
theorem d_M_init_926 : decode prog_14_method_8_code 926 = .ok (.dup, 1) := by decide +kernel
theorem d_M_init_927 : decode prog_14_method_8_code 927 = .ok (.sipush 144, 3) := by decide +kernel
theorem d_M_init_930 : decode prog_14_method_8_code 930 = .ok (.bipush 101, 2) := by decide +kernel
theorem d_M_init_932 : decode prog_14_method_8_code 932 = .ok (.bastore, 1) := by decide +kernel
theorem d_M_init_933 : decode prog_14_method_8_code 933 = .ok (.dup, 1) := by decide +kernel
theorem d_M_init_934 : decode prog_14_method_8_code 934 = .ok (.sipush 145, 3) := by decide +kernel
theorem d_M_init_937 : decode prog_14_method_8_code 937 = .ok (.bipush 115, 2) := by decide +kernel
theorem d_M_init_939 : decode prog_14_method_8_code 939 = .ok (.bastore, 1) := by decide +kernel
theorem d_M_init_940 : decode prog_14_method_8_code 940 = .ok (.dup, 1) := by decide +kernel
theorem d_M_init_941 : decode prog_14_method_8_code 941 = .ok (.sipush 146, 3) := by decide +kernel
theorem d_M_init_944 : decode prog_14_method_8_code 944 = .ok (.bipush 32, 2) := by decide +kernel
theorem d_M_init_946 : decode prog_14_method_8_code 946 = .ok (.bastore, 1) := by decide +kernel
theorem d_M_init_947 : decode prog_14_method_8_code 947 = .ok (.putfield 37, 3) := by decide +kernel
theorem d_M_init_950 : decode prog_14_method_8_code 950 = .ok (.aload_n 0, 1) := by decide +kernel
theorem d_M_init_951 : decode prog_14_method_8_code 951 = .ok (.sipush 400, 3) := by decide +kernel
theorem d_M_init_954 : decode prog_14_method_8_code 954 = .ok (.newarray .byte, 2) := by decide +kernel
theorem d_M_init_956 : decode prog_14_method_8_code 956 = .ok (.putfield 41, 3) := by decide +kernel
theorem d_M_init_959 : decode prog_14_method_8_code 959 = .ok (.aload_n 0, 1) := by decide +kernel
theorem d_M_init_960 : decode prog_14_method_8_code 960 = .ok (.iconst 5, 1) := by decide +kernel
theorem d_M_init_961 : decode prog_14_method_8_code 961 = .ok (.newarray .int, 2) := by decide +kernel
theorem d_M_init_963 : decode prog_14_method_8_code 963 = .ok (.putfield 44, 3) := by decide +kernel
theorem d_M_init_966 : decode prog_14_method_8_code 966 = .ok (.aload_n 0, 1) := by decide +kernel
theorem d_M_init_967 : decode prog_14_method_8_code 967 = .ok (.iconst (-1), 1) := by decide +kernel
theorem d_M_init_968 : decode prog_14_method_8_code 968 = .ok (.putfield 47, 3) := by decide +kernel
theorem d_M_init_971 : decode prog_14_method_8_code 971 = .ok (.aload_n 0, 1) := by decide +kernel
theorem d_M_init_972 : decode prog_14_method_8_code 972 = .ok (.sipush 401, 3) := by decide +kernel
theorem d_M_init_975 : decode prog_14_method_8_code 975 = .ok (.newarray .int, 2) := by decide +kernel
theorem d_M_init_977 : decode prog_14_method_8_code 977 = .ok (.putfield 50, 3) := by decide +kernel
theorem d_M_init_980 : decode prog_14_method_8_code 980 = .ok (.aload_n 0, 1) := by decide +kernel
theorem d_M_init_981 : decode prog_14_method_8_code 981 = .ok (.sipush 401, 3) := by decide +kernel
theorem d_M_init_984 : decode prog_14_method_8_code 984 = .ok (.newarray .int, 2) := by decide +kernel
theorem d_M_init_986 : decode prog_14_method_8_code 986 = .ok (.putfield 53, 3) := by decide +kernel
theorem d_M_init_989 : decode prog_14_method_8_code 989 = .ok (.aload_n 0, 1) := by decide +kernel
theorem d_M_init_990 : decode prog_14_method_8_code 990 = .ok (.sipush 401, 3) := by decide +kernel
theorem d_M_init_993 : decode prog_14_method_8_code 993 = .ok (.newarray .int, 2) := by decide +kernel
theorem d_M_init_995 : decode prog_14_method_8_code 995 = .ok (.putfield 56, 3) := by decide +kernel
theorem d_M_init_998 : decode prog_14_method_8_code 998 = .ok (.aload_n 0, 1) := by decide +kernel
theorem d_M_init_999 : decode prog_14_method_8_code 999 = .ok (.bipush 10, 2) := by decide +kernel
theorem d_M_init_1001 : decode prog_14_method_8_code 1001 = .ok (.newarray .int, 2) := by decide +kernel
theorem d_M_init_1003 : decode prog_14_method_8_code 1003 = .ok (.putfield 59, 3) := by decide +kernel
theorem d_M_init_1006 : decode prog_14_method_8_code 1006 = .ok (.aload_n 0, 1) := by decide +kernel
theorem d_M_init_1007 : decode prog_14_method_8_code 1007 = .ok (.iconst 4, 1) := by decide +kernel
theorem d_M_init_1008 : decode prog_14_method_8_code 1008 = .ok (.newarray .int, 2) := by decide +kernel
theorem d_M_init_1010 : decode prog_14_method_8_code 1010 = .ok (.putfield 62, 3) := by decide +kernel
theorem d_M_init_1013 : decode prog_14_method_8_code 1013 = .ok (.aload_n 0, 1) := by decide +kernel
theorem d_M_init_1014 : decode prog_14_method_8_code 1014 = .ok (.sipush 1184, 3) := by decide +kernel
theorem d_M_init_1017 : decode prog_14_method_8_code 1017 = .ok (.newarray .int, 2) := by decide +kernel
theorem d_M_init_1019 : decode prog_14_method_8_code 1019 = .ok (.putfield 65, 3) := by decide +kernel
theorem d_M_init_1022 : decode prog_14_method_8_code 1022 = .ok (.aload_n 0, 1) := by decide +kernel
theorem d_M_init_1023 : decode prog_14_method_8_code 1023 = .ok (.sipush 1184, 3) := by decide +kernel
theorem d_M_init_1026 : decode prog_14_method_8_code 1026 = .ok (.newarray .int, 2) := by decide +kernel
theorem d_M_init_1028 : decode prog_14_method_8_code 1028 = .ok (.putfield 68, 3) := by decide +kernel
theorem d_M_init_1031 : decode prog_14_method_8_code 1031 = .ok (.aload_n 0, 1) := by decide +kernel
theorem d_M_init_1032 : decode prog_14_method_8_code 1032 = .ok (.bipush 8, 2) := by decide +kernel
theorem d_M_init_1034 : decode prog_14_method_8_code 1034 = .ok (.newarray .int, 2) := by decide +kernel
theorem d_M_init_1036 : decode prog_14_method_8_code 1036 = .ok (.putfield 71, 3) := by decide +kernel
theorem d_M_init_1039 : decode prog_14_method_8_code 1039 = .ok (.aload_n 0, 1) := by decide +kernel
theorem d_M_init_1040 : decode prog_14_method_8_code 1040 = .ok (.bipush 8, 2) := by decide +kernel
theorem d_M_init_1042 : decode prog_14_method_8_code 1042 = .ok (.newarray .int, 2) := by decide +kernel
theorem d_M_init_1044 : decode prog_14_method_8_code 1044 = .ok (.putfield 74, 3) := by decide +kernel
theorem d_M_init_1047 : decode prog_14_method_8_code 1047 = .ok (.aload_n 0, 1) := by decide +kernel
theorem d_M_init_1048 : decode prog_14_method_8_code 1048 = .ok (.bipush 8, 2) := by decide +kernel
theorem d_M_init_1050 : decode prog_14_method_8_code 1050 = .ok (.newarray .int, 2) := by decide +kernel
theorem d_M_init_1052 : decode prog_14_method_8_code 1052 = .ok (.putfield 77, 3) := by decide +kernel
theorem d_M_init_1055 : decode prog_14_method_8_code 1055 = .ok (.aload_n 0, 1) := by decide +kernel
theorem d_M_init_1056 : decode prog_14_method_8_code 1056 = .ok (.bipush 8, 2) := by decide +kernel
theorem d_M_init_1058 : decode prog_14_method_8_code 1058 = .ok (.newarray .int, 2) := by decide +kernel
theorem d_M_init_1060 : decode prog_14_method_8_code 1060 = .ok (.putfield 80, 3) := by decide +kernel
theorem d_M_init_1063 : decode prog_14_method_8_code 1063 = .ok (.aload_n 0, 1) := by decide +kernel
theorem d_M_init_1064 : decode prog_14_method_8_code 1064 = .ok (.sipush 256, 3) := by decide +kernel
theorem d_M_init_1067 : decode prog_14_method_8_code 1067 = .ok (.newarray .int, 2) := by decide +kernel
theorem d_M_init_1069 : decode prog_14_method_8_code 1069 = .ok (.putfield 83, 3) := by decide +kernel
theorem d_M_init_1072 : decode prog_14_method_8_code 1072 = .ok (.aload_n 0, 1) := by decide +kernel
theorem d_M_init_1073 : decode prog_14_method_8_code 1073 = .ok (.bipush 8, 2) := by decide +kernel
theorem d_M_init_1075 : decode prog_14_method_8_code 1075 = .ok (.newarray .int, 2) := by decide +kernel
theorem d_M_init_1077 : decode prog_14_method_8_code 1077 = .ok (.putfield 86, 3) := by decide +kernel
theorem d_M_init_1080 : decode prog_14_method_8_code 1080 = .ok (.aload_n 0, 1) := by decide +kernel
theorem d_M_init_1081 : decode prog_14_method_8_code 1081 = .ok (.bipush 8, 2) := by decide +kernel
theorem d_M_init_1083 : decode prog_14_method_8_code 1083 = .ok (.newarray .int, 2) := by decide +kernel
theorem d_M_init_1085 : decode prog_14_method_8_code 1085 = .ok (.putfield 89, 3) := by decide +kernel
theorem d_M_init_1088 : decode prog_14_method_8_code 1088 = .ok (.aload_n 0, 1) := by decide +kernel
theorem d_M_init_1089 : decode prog_14_method_8_code 1089 = .ok (.bipush 16, 2) := by decide +kernel
theorem d_M_init_1091 : decode prog_14_method_8_code 1091 = .ok (.newarray .int, 2) := by decide +kernel
theorem d_M_init_1093 : decode prog_14_method_8_code 1093 = .ok (.putfield 92, 3) := by decide +kernel
theorem d_M_init_1096 : decode prog_14_method_8_code 1096 = .ok (.aload_n 0, 1) := by decide +kernel
theorem d_M_init_1097 : decode prog_14_method_8_code 1097 = .ok (.bipush 7, 2) := by decide +kernel
theorem d_M_init_1099 : decode prog_14_method_8_code 1099 = .ok (.newarray .int, 2) := by decide +kernel
theorem d_M_init_1101 : decode prog_14_method_8_code 1101 = .ok (.putfield 95, 3) := by decide +kernel
theorem d_M_init_1104 : decode prog_14_method_8_code 1104 = .ok (.aload_n 0, 1) := by decide +kernel
theorem d_M_init_1105 : decode prog_14_method_8_code 1105 = .ok (.bipush 7, 2) := by decide +kernel
theorem d_M_init_1107 : decode prog_14_method_8_code 1107 = .ok (.newarray .int, 2) := by decide +kernel
theorem d_M_init_1109 : decode prog_14_method_8_code 1109 = .ok (.putfield 98, 3) := by decide +kernel
theorem d_M_init_1112 : decode prog_14_method_8_code 1112 = .ok (.aload_n 0, 1) := by decide +kernel
theorem d_M_init_1113 : decode prog_14_method_8_code 1113 = .ok (.bipush 49, 2) := by decide +kernel
theorem d_M_init_1115 : decode prog_14_method_8_code 1115 = .ok (.newarray .int, 2) := by decide +kernel
theorem d_M_init_1117 : decode prog_14_method_8_code 1117 = .ok (.putfield 101, 3) := by decide +kernel
theorem d_M_init_1120 : decode prog_14_method_8_code 1120 = .ok (.aload_n 0, 1) := by decide +kernel
theorem d_M_init_1121 : decode prog_14_method_8_code 1121 = .ok (.sipush 256, 3) := by decide +kernel
theorem d_M_init_1124 : decode prog_14_method_8_code 1124 = .ok (.newarray .int, 2) := by decide +kernel
theorem d_M_init_1126 : decode prog_14_method_8_code 1126 = .ok (.putfield 104, 3) := by decide +kernel
theorem d_M_init_1129 : decode prog_14_method_8_code 1129 = .ok (.aload_n 0, 1) := by decide +kernel
theorem d_M_init_1130 : decode prog_14_method_8_code 1130 = .ok (.iconst (-1), 1) := by decide +kernel
theorem d_M_init_1131 : decode prog_14_method_8_code 1131 = .ok (.putfield 107, 3) := by decide +kernel
theorem d_M_init_1134 : decode prog_14_method_8_code 1134 = .ok (.aload_n 0, 1) := by decide +kernel
theorem d_M_init_1135 : decode prog_14_method_8_code 1135 = .ok (.iconst 3, 1) := by decide +kernel
theorem d_M_init_1136 : decode prog_14_method_8_code 1136 = .ok (.newarray .long, 2) := by decide +kernel
theorem d_M_init_1138 : decode prog_14_method_8_code 1138 = .ok (.putfield 110, 3) := by decide +kernel
theorem d_M_init_1141 : decode prog_14_method_8_code 1141 = .ok (.aload_n 0, 1) := by decide +kernel
theorem d_M_init_1142 : decode prog_14_method_8_code 1142 = .ok (.bipush 7, 2) := by decide +kernel
theorem d_M_init_1144 : decode prog_14_method_8_code 1144 = .ok (.newarray .int, 2) := by decide +kernel
theorem d_M_init_1146 : decode prog_14_method_8_code 1146 = .ok (.putfield 114, 3) := by decide +kernel
theorem d_M_init_1149 : decode prog_14_method_8_code 1149 = .ok (.aload_n 0, 1) := by decide +kernel
theorem d_M_init_1150 : decode prog_14_method_8_code 1150 = .ok (.bipush 7, 2) := by decide +kernel
theorem d_M_init_1152 : decode prog_14_method_8_code 1152 = .ok (.newarray .int, 2) := by decide +kernel
theorem d_M_init_1154 : decode prog_14_method_8_code 1154 = .ok (.putfield 117, 3) := by decide +kernel
theorem d_M_init_1157 : decode prog_14_method_8_code 1157 = .ok (.aload_n 0, 1) := by decide +kernel
theorem d_M_init_1158 : decode prog_14_method_8_code 1158 = .ok (.bipush 7, 2) := by decide +kernel
theorem d_M_init_1160 : decode prog_14_method_8_code 1160 = .ok (.newarray .int, 2) := by decide +kernel
theorem d_M_init_1162 : decode prog_14_method_8_code 1162 = .ok (.putfield 120, 3) := by decide +kernel
theorem d_M_init_1165 : decode prog_14_method_8_code 1165 = .ok (.aload_n 0, 1) := by decide +kernel
theorem d_M_init_1166 : decode prog_14_method_8_code 1166 = .ok (.getfield 24, 3) := by decide +kernel
theorem d_M_init_1169 : decode prog_14_method_8_code 1169 = .ok (.sipush 156, 3) := by decide +kernel
theorem d_M_init_1172 : decode prog_14_method_8_code 1172 = .ok (.iconst (-1), 1) := by decide +kernel
theorem d_M_init_1173 : decode prog_14_method_8_code 1173 = .ok (.iastore, 1) := by decide +kernel
theorem d_M_init_1174 : decode prog_14_method_8_code 1174 = .ok (.return_, 1) := by decide +kernel
def R_M_init_1 : List zSh := [.inl (12, [.inl 0, .inr (some 1), .inr (some 2), .inr (some 3), .inr (some 4), .inr (some 5), .inl 0, .inr none, .inl 1, .inr none, .inr none, .inl 0, .inl 0, .inr none, .inr none, .inr none, .inl 0, .inl 0, .inl 0, .inl 0, .inl 0, .inl 0, .inl 1, .inl 1, .inr none, .inr none, .inr none, .inr none, .inl 0, .inr none, .inr none, .inr none, .inr none, .inr none, .inl 0, .inr none, .inr none, .inl 0, .inl 0, .inl 0, .inr none, .inr none, .inr none, .inl 0, .inl 0, .inr none, .inr none, .inl 0, .inl 0, .inl 0, .inl 0, .inl 0, .inl 0, .inl 1, .inl 1, .inr none, .inr none, .inr none, .inr none, .inl 0, .inl 0]),
  .inr (0, 7, []),
  .inr (0, 5764, []),
  .inr (0, 11528, []),
  .inr (2, 2, []),
  .inr (0, 803, []),
  .inr (1, 147, [])]
def V_M_init_1 : List (Nat × Int × Int) := [(6, 12, 115), (6, 11, 32), (6, 10, 115), (6, 9, 119), (6, 8, 111), (6, 7, 114), (6, 6, 103), (6, 5, 32), (6, 4, 104), (6, 3, 116), (6, 2, 112), (6, 1, 101), (6, 0, 100)]
def R_M_init_2 : List zSh := [.inl (12, [.inl 0, .inr (some 1), .inr (some 2), .inr (some 3), .inr (some 4), .inr (some 5), .inl 0, .inr none, .inl 1, .inr none, .inr none, .inl 0, .inl 0, .inr none, .inr none, .inr none, .inl 0, .inl 0, .inl 0, .inl 0, .inl 0, .inl 0, .inl 1, .inl 1, .inr none, .inr none, .inr none, .inr none, .inl 0, .inr none, .inr none, .inr none, .inr none, .inr none, .inl 0, .inr none, .inr none, .inl 0, .inl 0, .inl 0, .inr none, .inr none, .inr none, .inl 0, .inl 0, .inr none, .inr none, .inl 0, .inl 0, .inl 0, .inl 0, .inl 0, .inl 0, .inl 1, .inl 1, .inr none, .inr none, .inr none, .inr none, .inl 0, .inl 0]),
  .inr (0, 7, []),
  .inr (0, 5764, []),
  .inr (0, 11528, []),
  .inr (2, 2, []),
  .inr (0, 803, []),
  .inr (1, 147, [])]
def V_M_init_2 : List (Nat × Int × Int) := [(6, 32, 32), (6, 31, 100), (6, 30, 110), (6, 29, 97), (6, 28, 32), (6, 27, 114), (6, 26, 111), (6, 25, 32), (6, 24, 102), (6, 23, 105), (6, 22, 32), (6, 21, 115), (6, 20, 114), (6, 19, 97), (6, 18, 98), (6, 17, 32), (6, 16, 115), (6, 15, 108), (6, 14, 108), (6, 13, 101), (6, 12, 115), (6, 11, 32), (6, 10, 115), (6, 9, 119), (6, 8, 111), (6, 7, 114), (6, 6, 103), (6, 5, 32), (6, 4, 104), (6, 3, 116), (6, 2, 112), (6, 1, 101), (6, 0, 100)]
def R_M_init_3 : List zSh := [.inl (12, [.inl 0, .inr (some 1), .inr (some 2), .inr (some 3), .inr (some 4), .inr (some 5), .inl 0, .inr none, .inl 1, .inr none, .inr none, .inl 0, .inl 0, .inr none, .inr none, .inr none, .inl 0, .inl 0, .inl 0, .inl 0, .inl 0, .inl 0, .inl 1, .inl 1, .inr none, .inr none, .inr none, .inr none, .inl 0, .inr none, .inr none, .inr none, .inr none, .inr none, .inl 0, .inr none, .inr none, .inl 0, .inl 0, .inl 0, .inr none, .inr none, .inr none, .inl 0, .inl 0, .inr none, .inr none, .inl 0, .inl 0, .inl 0, .inl 0, .inl 0, .inl 0, .inl 1, .inl 1, .inr none, .inr none, .inr none, .inr none, .inl 0, .inl 0]),
  .inr (0, 7, []),
  .inr (0, 5764, []),
  .inr (0, 11528, []),
  .inr (2, 2, []),
  .inr (0, 803, []),
  .inr (1, 147, [])]
def V_M_init_3 : List (Nat × Int × Int) := [(6, 52, 119), (6, 51, 111), (6, 50, 32), (6, 49, 114), (6, 48, 111), (6, 47, 116), (6, 46, 105), (6, 45, 115), (6, 44, 105), (6, 43, 118), (6, 42, 32), (6, 41, 114), (6, 40, 101), (6, 39, 110), (6, 38, 119), (6, 37, 111), (6, 36, 32), (6, 35, 116), (6, 34, 111), (6, 33, 110), (6, 32, 32), (6, 31, 100), (6, 30, 110), (6, 29, 97), (6, 28, 32), (6, 27, 114), (6, 26, 111), (6, 25, 32), (6, 24, 102), (6, 23, 105), (6, 22, 32), (6, 21, 115), (6, 20, 114), (6, 19, 97), (6, 18, 98), (6, 17, 32), (6, 16, 115), (6, 15, 108), (6, 14, 108), (6, 13, 101), (6, 12, 115), (6, 11, 32), (6, 10, 115), (6, 9, 119), (6, 8, 111), (6, 7, 114), (6, 6, 103), (6, 5, 32), (6, 4, 104), (6, 3, 116), (6, 2, 112), (6, 1, 101), (6, 0, 100)]
def R_M_init_4 : List zSh := [.inl (12, [.inl 0, .inr (some 1), .inr (some 2), .inr (some 3), .inr (some 4), .inr (some 5), .inl 0, .inr none, .inl 1, .inr none, .inr none, .inl 0, .inl 0, .inr none, .inr none, .inr none, .inl 0, .inl 0, .inl 0, .inl 0, .inl 0, .inl 0, .inl 1, .inl 1, .inr none, .inr none, .inr none, .inr none, .inl 0, .inr none, .inr none, .inr none, .inr none, .inr none, .inl 0, .inr none, .inr none, .inl 0, .inl 0, .inl 0, .inr none, .inr none, .inr none, .inl 0, .inl 0, .inr none, .inr none, .inl 0, .inl 0, .inl 0, .inl 0, .inl 0, .inl 0, .inl 1, .inl 1, .inr none, .inr none, .inr none, .inr none, .inl 0, .inl 0]),
  .inr (0, 7, []),
  .inr (0, 5764, []),
  .inr (0, 11528, []),
  .inr (2, 2, []),
  .inr (0, 803, []),
  .inr (1, 147, [])]
def V_M_init_4 : List (Nat × Int × Int) := [(6, 72, 97), (6, 71, 32), (6, 70, 121), (6, 69, 114), (6, 68, 97), (6, 67, 119), (6, 66, 32), (6, 65, 115), (6, 64, 109), (6, 63, 111), (6, 62, 111), (6, 61, 114), (6, 60, 32), (6, 59, 107), (6, 58, 99), (6, 57, 97), (6, 56, 98), (6, 55, 32), (6, 54, 115), (6, 53, 101), (6, 52, 119), (6, 51, 111), (6, 50, 32), (6, 49, 114), (6, 48, 111), (6, 47, 116), (6, 46, 105), (6, 45, 115), (6, 44, 105), (6, 43, 118), (6, 42, 32), (6, 41, 114), (6, 40, 101), (6, 39, 110), (6, 38, 119), (6, 37, 111), (6, 36, 32), (6, 35, 116), (6, 34, 111), (6, 33, 110), (6, 32, 32), (6, 31, 100), (6, 30, 110), (6, 29, 97), (6, 28, 32), (6, 27, 114), (6, 26, 111), (6, 25, 32), (6, 24, 102), (6, 23, 105), (6, 22, 32), (6, 21, 115), (6, 20, 114), (6, 19, 97), (6, 18, 98), (6, 17, 32), (6, 16, 115), (6, 15, 108), (6, 14, 108), (6, 13, 101), (6, 12, 115), (6, 11, 32), (6, 10, 115), (6, 9, 119), (6, 8, 111), (6, 7, 114), (6, 6, 103), (6, 5, 32), (6, 4, 104), (6, 3, 116), (6, 2, 112), (6, 1, 101), (6, 0, 100)]
def R_M_init_5 : List zSh := [.inl (12, [.inl 0, .inr (some 1), .inr (some 2), .inr (some 3), .inr (some 4), .inr (some 5), .inl 0, .inr none, .inl 1, .inr none, .inr none, .inl 0, .inl 0, .inr none, .inr none, .inr none, .inl 0, .inl 0, .inl 0, .inl 0, .inl 0, .inl 0, .inl 1, .inl 1, .inr none, .inr none, .inr none, .inr none, .inl 0, .inr none, .inr none, .inr none, .inr none, .inr none, .inl 0, .inr none, .inr none, .inl 0, .inl 0, .inl 0, .inr none, .inr none, .inr none, .inl 0, .inl 0, .inr none, .inr none, .inl 0, .inl 0, .inl 0, .inl 0, .inl 0, .inl 0, .inl 1, .inl 1, .inr none, .inr none, .inr none, .inr none, .inl 0, .inl 0]),
  .inr (0, 7, []),
  .inr (0, 5764, []),
  .inr (0, 11528, []),
  .inr (2, 2, []),
  .inr (0, 803, []),
  .inr (1, 147, [])]
def V_M_init_5 : List (Nat × Int × Int) := [(6, 92, 100), (6, 91, 32), (6, 90, 100), (6, 89, 111), (6, 88, 111), (6, 87, 109), (6, 86, 32), (6, 85, 121), (6, 84, 97), (6, 83, 100), (6, 82, 32), (6, 81, 101), (6, 80, 103), (6, 79, 97), (6, 78, 32), (6, 77, 116), (6, 76, 110), (6, 75, 117), (6, 74, 111), (6, 73, 109), (6, 72, 97), (6, 71, 32), (6, 70, 121), (6, 69, 114), (6, 68, 97), (6, 67, 119), (6, 66, 32), (6, 65, 115), (6, 64, 109), (6, 63, 111), (6, 62, 111), (6, 61, 114), (6, 60, 32), (6, 59, 107), (6, 58, 99), (6, 57, 97), (6, 56, 98), (6, 55, 32), (6, 54, 115), (6, 53, 101), (6, 52, 119), (6, 51, 111), (6, 50, 32), (6, 49, 114), (6, 48, 111), (6, 47, 116), (6, 46, 105), (6, 45, 115), (6, 44, 105), (6, 43, 118), (6, 42, 32), (6, 41, 114), (6, 40, 101), (6, 39, 110), (6, 38, 119), (6, 37, 111), (6, 36, 32), (6, 35, 116), (6, 34, 111), (6, 33, 110), (6, 32, 32), (6, 31, 100), (6, 30, 110), (6, 29, 97), (6, 28, 32), (6, 27, 114), (6, 26, 111), (6, 25, 32), (6, 24, 102), (6, 23, 105), (6, 22, 32), (6, 21, 115), (6, 20, 114), (6, 19, 97), (6, 18, 98), (6, 17, 32), (6, 16, 115), (6, 15, 108), (6, 14, 108), (6, 13, 101), (6, 12, 115), (6, 11, 32), (6, 10, 115), (6, 9, 119), (6, 8, 111), (6, 7, 114), (6, 6, 103), (6, 5, 32), (6, 4, 104), (6, 3, 116), (6, 2, 112), (6, 1, 101), (6, 0, 100)]
def R_M_init_6 : List zSh := [.inl (12, [.inl 0, .inr (some 1), .inr (some 2), .inr (some 3), .inr (some 4), .inr (some 5), .inl 0, .inr none, .inl 1, .inr none, .inr none, .inl 0, .inl 0, .inr none, .inr none, .inr none, .inl 0, .inl 0, .inl 0, .inl 0, .inl 0, .inl 0, .inl 1, .inl 1, .inr none, .inr none, .inr none, .inr none, .inl 0, .inr none, .inr none, .inr none, .inr none, .inr none, .inl 0, .inr none, .inr none, .inl 0, .inl 0, .inl 0, .inr none, .inr none, .inr none, .inl 0, .inl 0, .inr none, .inr none, .inl 0, .inl 0, .inl 0, .inl 0, .inl 0, .inl 0, .inl 1, .inl 1, .inr none, .inr none, .inr none, .inr none, .inl 0, .inl 0]),
  .inr (0, 7, []),
  .inr (0, 5764, []),
  .inr (0, 11528, []),
  .inr (2, 2, []),
  .inr (0, 803, []),
  .inr (1, 147, [])]
def V_M_init_6 : List (Nat × Int × Int) := [(6, 112, 101), (6, 111, 115), (6, 110, 114), (6, 109, 117), (6, 108, 112), (6, 107, 32), (6, 106, 116), (6, 105, 115), (6, 104, 97), (6, 103, 108), (6, 102, 32), (6, 101, 101), (6, 100, 110), (6, 99, 111), (6, 98, 100), (6, 97, 32), (6, 96, 115), (6, 95, 116), (6, 94, 98), (6, 93, 101), (6, 92, 100), (6, 91, 32), (6, 90, 100), (6, 89, 111), (6, 88, 111), (6, 87, 109), (6, 86, 32), (6, 85, 121), (6, 84, 97), (6, 83, 100), (6, 82, 32), (6, 81, 101), (6, 80, 103), (6, 79, 97), (6, 78, 32), (6, 77, 116), (6, 76, 110), (6, 75, 117), (6, 74, 111), (6, 73, 109), (6, 72, 97), (6, 71, 32), (6, 70, 121), (6, 69, 114), (6, 68, 97), (6, 67, 119), (6, 66, 32), (6, 65, 115), (6, 64, 109), (6, 63, 111), (6, 62, 111), (6, 61, 114), (6, 60, 32), (6, 59, 107), (6, 58, 99), (6, 57, 97), (6, 56, 98), (6, 55, 32), (6, 54, 115), (6, 53, 101), (6, 52, 119), (6, 51, 111), (6, 50, 32), (6, 49, 114), (6, 48, 111), (6, 47, 116), (6, 46, 105), (6, 45, 115), (6, 44, 105), (6, 43, 118), (6, 42, 32), (6, 41, 114), (6, 40, 101), (6, 39, 110), (6, 38, 119), (6, 37, 111), (6, 36, 32), (6, 35, 116), (6, 34, 111), (6, 33, 110), (6, 32, 32), (6, 31, 100), (6, 30, 110), (6, 29, 97), (6, 28, 32), (6, 27, 114), (6, 26, 111), (6, 25, 32), (6, 24, 102), (6, 23, 105), (6, 22, 32), (6, 21, 115), (6, 20, 114), (6, 19, 97), (6, 18, 98), (6, 17, 32), (6, 16, 115), (6, 15, 108), (6, 14, 108), (6, 13, 101), (6, 12, 115), (6, 11, 32), (6, 10, 115), (6, 9, 119), (6, 8, 111), (6, 7, 114), (6, 6, 103), (6, 5, 32), (6, 4, 104), (6, 3, 116), (6, 2, 112), (6, 1, 101), (6, 0, 100)]
def R_M_init_7 : List zSh := [.inl (12, [.inl 0, .inr (some 1), .inr (some 2), .inr (some 3), .inr (some 4), .inr (some 5), .inl 0, .inr none, .inl 1, .inr none, .inr none, .inl 0, .inl 0, .inr none, .inr none, .inr none, .inl 0, .inl 0, .inl 0, .inl 0, .inl 0, .inl 0, .inl 1, .inl 1, .inr none, .inr none, .inr none, .inr none, .inl 0, .inr none, .inr none, .inr none, .inr none, .inr none, .inl 0, .inr none, .inr none, .inl 0, .inl 0, .inl 0, .inr none, .inr none, .inr none, .inl 0, .inl 0, .inr none, .inr none, .inl 0, .inl 0, .inl 0, .inl 0, .inl 0, .inl 0, .inl 1, .inl 1, .inr none, .inr none, .inr none, .inr none, .inl 0, .inl 0]),
  .inr (0, 7, []),
  .inr (0, 5764, []),
  .inr (0, 11528, []),
  .inr (2, 2, []),
  .inr (0, 803, []),
  .inr (1, 147, [])]
def V_M_init_7 : List (Nat × Int × Int) := [(6, 132, 105), (6, 131, 97), (6, 130, 119), (6, 129, 32), (6, 128, 121), (6, 127, 97), (6, 126, 112), (6, 125, 101), (6, 124, 114), (6, 123, 32), (6, 122, 100), (6, 121, 110), (6, 120, 101), (6, 119, 108), (6, 118, 32), (6, 117, 100), (6, 116, 101), (6, 115, 119), (6, 114, 111), (6, 113, 32), (6, 112, 101), (6, 111, 115), (6, 110, 114), (6, 109, 117), (6, 108, 112), (6, 107, 32), (6, 106, 116), (6, 105, 115), (6, 104, 97), (6, 103, 108), (6, 102, 32), (6, 101, 101), (6, 100, 110), (6, 99, 111), (6, 98, 100), (6, 97, 32), (6, 96, 115), (6, 95, 116), (6, 94, 98), (6, 93, 101), (6, 92, 100), (6, 91, 32), (6, 90, 100), (6, 89, 111), (6, 88, 111), (6, 87, 109), (6, 86, 32), (6, 85, 121), (6, 84, 97), (6, 83, 100), (6, 82, 32), (6, 81, 101), (6, 80, 103), (6, 79, 97), (6, 78, 32), (6, 77, 116), (6, 76, 110), (6, 75, 117), (6, 74, 111), (6, 73, 109), (6, 72, 97), (6, 71, 32), (6, 70, 121), (6, 69, 114), (6, 68, 97), (6, 67, 119), (6, 66, 32), (6, 65, 115), (6, 64, 109), (6, 63, 111), (6, 62, 111), (6, 61, 114), (6, 60, 32), (6, 59, 107), (6, 58, 99), (6, 57, 97), (6, 56, 98), (6, 55, 32), (6, 54, 115), (6, 53, 101), (6, 52, 119), (6, 51, 111), (6, 50, 32), (6, 49, 114), (6, 48, 111), (6, 47, 116), (6, 46, 105), (6, 45, 115), (6, 44, 105), (6, 43, 118), (6, 42, 32), (6, 41, 114), (6, 40, 101), (6, 39, 110), (6, 38, 119), (6, 37, 111), (6, 36, 32), (6, 35, 116), (6, 34, 111), (6, 33, 110), (6, 32, 32), (6, 31, 100), (6, 30, 110), (6, 29, 97), (6, 28, 32), (6, 27, 114), (6, 26, 111), (6, 25, 32), (6, 24, 102), (6, 23, 105), (6, 22, 32), (6, 21, 115), (6, 20, 114), (6, 19, 97), (6, 18, 98), (6, 17, 32), (6, 16, 115), (6, 15, 108), (6, 14, 108), (6, 13, 101), (6, 12, 115), (6, 11, 32), (6, 10, 115), (6, 9, 119), (6, 8, 111), (6, 7, 114), (6, 6, 103), (6, 5, 32), (6, 4, 104), (6, 3, 116), (6, 2, 112), (6, 1, 101), (6, 0, 100)]
def R_M_init_8 : List zSh := [.inl (12, [.inl 0, .inr (some 1), .inr (some 2), .inr (some 3), .inr (some 4), .inr (some 5), .inl 0, .inr (some 6), .inl 1, .inr (some 7), .inr (some 8), .inl 0, .inl 0, .inr (some 9), .inr (some 10), .inr (some 11), .inl 0, .inl 0, .inl 0, .inl 0, .inl 0, .inl 0, .inl 1, .inl 1, .inr none, .inr none, .inr none, .inr none, .inl 0, .inr none, .inr none, .inr none, .inr none, .inr none, .inl 0, .inr none, .inr none, .inl 0, .inl 0, .inl 0, .inr none, .inr none, .inr none, .inl 0, .inl 0, .inr none, .inr none, .inl 0, .inl 0, .inl 0, .inl 0, .inl 0, .inl 0, .inl 1, .inl 1, .inr none, .inr none, .inr none, .inr none, .inl 0, .inl 0]),
  .inr (0, 7, []),
  .inr (0, 5764, []),
  .inr (0, 11528, []),
  .inr (2, 2, []),
  .inr (0, 803, []),
  .inr (1, 147, []),
  .inr (1, 400, []),
  .inr (0, 5, []),
  .inr (0, 401, []),
  .inr (0, 401, []),
  .inr (0, 401, []),
  .inr (0, 10, [])]
def V_M_init_8 : List (Nat × Int × Int) := [(0, 12, (-1)), (6, 146, 32), (6, 145, 115), (6, 144, 101), (6, 143, 109), (6, 142, 105), (6, 141, 116), (6, 140, 32), (6, 139, 102), (6, 138, 111), (6, 137, 32), (6, 136, 111), (6, 135, 116), (6, 134, 32), (6, 133, 116), (6, 132, 105), (6, 131, 97), (6, 130, 119), (6, 129, 32), (6, 128, 121), (6, 127, 97), (6, 126, 112), (6, 125, 101), (6, 124, 114), (6, 123, 32), (6, 122, 100), (6, 121, 110), (6, 120, 101), (6, 119, 108), (6, 118, 32), (6, 117, 100), (6, 116, 101), (6, 115, 119), (6, 114, 111), (6, 113, 32), (6, 112, 101), (6, 111, 115), (6, 110, 114), (6, 109, 117), (6, 108, 112), (6, 107, 32), (6, 106, 116), (6, 105, 115), (6, 104, 97), (6, 103, 108), (6, 102, 32), (6, 101, 101), (6, 100, 110), (6, 99, 111), (6, 98, 100), (6, 97, 32), (6, 96, 115), (6, 95, 116), (6, 94, 98), (6, 93, 101), (6, 92, 100), (6, 91, 32), (6, 90, 100), (6, 89, 111), (6, 88, 111), (6, 87, 109), (6, 86, 32), (6, 85, 121), (6, 84, 97), (6, 83, 100), (6, 82, 32), (6, 81, 101), (6, 80, 103), (6, 79, 97), (6, 78, 32), (6, 77, 116), (6, 76, 110), (6, 75, 117), (6, 74, 111), (6, 73, 109), (6, 72, 97), (6, 71, 32), (6, 70, 121), (6, 69, 114), (6, 68, 97), (6, 67, 119), (6, 66, 32), (6, 65, 115), (6, 64, 109), (6, 63, 111), (6, 62, 111), (6, 61, 114), (6, 60, 32), (6, 59, 107), (6, 58, 99), (6, 57, 97), (6, 56, 98), (6, 55, 32), (6, 54, 115), (6, 53, 101), (6, 52, 119), (6, 51, 111), (6, 50, 32), (6, 49, 114), (6, 48, 111), (6, 47, 116), (6, 46, 105), (6, 45, 115), (6, 44, 105), (6, 43, 118), (6, 42, 32), (6, 41, 114), (6, 40, 101), (6, 39, 110), (6, 38, 119), (6, 37, 111), (6, 36, 32), (6, 35, 116), (6, 34, 111), (6, 33, 110), (6, 32, 32), (6, 31, 100), (6, 30, 110), (6, 29, 97), (6, 28, 32), (6, 27, 114), (6, 26, 111), (6, 25, 32), (6, 24, 102), (6, 23, 105), (6, 22, 32), (6, 21, 115), (6, 20, 114), (6, 19, 97), (6, 18, 98), (6, 17, 32), (6, 16, 115), (6, 15, 108), (6, 14, 108), (6, 13, 101), (6, 12, 115), (6, 11, 32), (6, 10, 115), (6, 9, 119), (6, 8, 111), (6, 7, 114), (6, 6, 103), (6, 5, 32), (6, 4, 104), (6, 3, 116), (6, 2, 112), (6, 1, 101), (6, 0, 100)]
def R_M_init_9 : List zSh := [.inl (12, [.inl 0, .inr (some 1), .inr (some 2), .inr (some 3), .inr (some 4), .inr (some 5), .inl 0, .inr (some 6), .inl 1, .inr (some 7), .inr (some 8), .inl 0, .inl 0, .inr (some 9), .inr (some 10), .inr (some 11), .inl 0, .inl 0, .inl 0, .inl 0, .inl 0, .inl 0, .inl 1, .inl 1, .inr (some 12), .inr (some 13), .inr (some 14), .inr (some 15), .inl 0, .inr (some 16), .inr (some 17), .inr (some 18), .inr (some 19), .inr (some 20), .inl 0, .inr (some 21), .inr (some 22), .inl 0, .inl 0, .inl 0, .inr (some 23), .inr (some 24), .inr (some 25), .inl 0, .inl 0, .inr (some 26), .inr (some 27), .inl 0, .inl 0, .inl 0, .inl 0, .inl 0, .inl 0, .inl 1, .inl 1, .inr (some 28), .inr (some 29), .inr (some 30), .inr (some 31), .inl 0, .inl 0]),
  .inr (0, 7, []),
  .inr (0, 5764, []),
  .inr (0, 11528, []),
  .inr (2, 2, []),
  .inr (0, 803, []),
  .inr (1, 147, []),
  .inr (1, 400, []),
  .inr (0, 5, []),
  .inr (0, 401, []),
  .inr (0, 401, []),
  .inr (0, 401, []),
  .inr (0, 10, []),
  .inr (0, 4, []),
  .inr (0, 1184, []),
  .inr (0, 1184, []),
  .inr (0, 8, []),
  .inr (0, 8, []),
  .inr (0, 8, []),
  .inr (0, 8, []),
  .inr (0, 256, []),
  .inr (0, 8, []),
  .inr (0, 8, []),
  .inr (0, 16, []),
  .inr (0, 7, []),
  .inr (0, 7, []),
  .inr (0, 49, []),
  .inr (0, 256, []),
  .inr (3, 3, []),
  .inr (0, 7, []),
  .inr (0, 7, []),
  .inr (0, 7, [])]
def V_M_init_9 : List (Nat × Int × Int) := [(0, 47, (-1)), (0, 12, (-1)), (6, 146, 32), (6, 145, 115), (6, 144, 101), (6, 143, 109), (6, 142, 105), (6, 141, 116), (6, 140, 32), (6, 139, 102), (6, 138, 111), (6, 137, 32), (6, 136, 111), (6, 135, 116), (6, 134, 32), (6, 133, 116), (6, 132, 105), (6, 131, 97), (6, 130, 119), (6, 129, 32), (6, 128, 121), (6, 127, 97), (6, 126, 112), (6, 125, 101), (6, 124, 114), (6, 123, 32), (6, 122, 100), (6, 121, 110), (6, 120, 101), (6, 119, 108), (6, 118, 32), (6, 117, 100), (6, 116, 101), (6, 115, 119), (6, 114, 111), (6, 113, 32), (6, 112, 101), (6, 111, 115), (6, 110, 114), (6, 109, 117), (6, 108, 112), (6, 107, 32), (6, 106, 116), (6, 105, 115), (6, 104, 97), (6, 103, 108), (6, 102, 32), (6, 101, 101), (6, 100, 110), (6, 99, 111), (6, 98, 100), (6, 97, 32), (6, 96, 115), (6, 95, 116), (6, 94, 98), (6, 93, 101), (6, 92, 100), (6, 91, 32), (6, 90, 100), (6, 89, 111), (6, 88, 111), (6, 87, 109), (6, 86, 32), (6, 85, 121), (6, 84, 97), (6, 83, 100), (6, 82, 32), (6, 81, 101), (6, 80, 103), (6, 79, 97), (6, 78, 32), (6, 77, 116), (6, 76, 110), (6, 75, 117), (6, 74, 111), (6, 73, 109), (6, 72, 97), (6, 71, 32), (6, 70, 121), (6, 69, 114), (6, 68, 97), (6, 67, 119), (6, 66, 32), (6, 65, 115), (6, 64, 109), (6, 63, 111), (6, 62, 111), (6, 61, 114), (6, 60, 32), (6, 59, 107), (6, 58, 99), (6, 57, 97), (6, 56, 98), (6, 55, 32), (6, 54, 115), (6, 53, 101), (6, 52, 119), (6, 51, 111), (6, 50, 32), (6, 49, 114), (6, 48, 111), (6, 47, 116), (6, 46, 105), (6, 45, 115), (6, 44, 105), (6, 43, 118), (6, 42, 32), (6, 41, 114), (6, 40, 101), (6, 39, 110), (6, 38, 119), (6, 37, 111), (6, 36, 32), (6, 35, 116), (6, 34, 111), (6, 33, 110), (6, 32, 32), (6, 31, 100), (6, 30, 110), (6, 29, 97), (6, 28, 32), (6, 27, 114), (6, 26, 111), (6, 25, 32), (6, 24, 102), (6, 23, 105), (6, 22, 32), (6, 21, 115), (6, 20, 114), (6, 19, 97), (6, 18, 98), (6, 17, 32), (6, 16, 115), (6, 15, 108), (6, 14, 108), (6, 13, 101), (6, 12, 115), (6, 11, 32), (6, 10, 115), (6, 9, 119), (6, 8, 111), (6, 7, 114), (6, 6, 103), (6, 5, 32), (6, 4, 104), (6, 3, 116), (6, 2, 112), (6, 1, 101), (6, 0, 100)]
theorem k_M_init_0 {d mc ms : Nat} (hd : 1 ≤ d) (hm : mc = 31) (hs : ms = 22904) {Γ : zCx} {n : Nat} {P : List zSh} {μ : zMem} {ad0 : Nat → Nat} (X : zX Γ "DebtDoorsModel" prog_14_method_8_code 1 d) (hc : zHc Γ n P μ mc ms) (hnm : (x_M Γ).name = "<init>") (kk : zH Γ 1 n P ad0 μ 6 18251 R_M_init_1 V_M_init_1 129 [vr 0] [vi 101, vi 13, vr 6, vr 6, vr 0]) : zH Γ 1 n P ad0 μ 0 0 [.inl (12, [.inl 0, .inr none, .inr none, .inr none, .inr none, .inr none, .inl 0, .inr none, .inl 1, .inr none, .inr none, .inl 0, .inl 0, .inr none, .inr none, .inr none, .inl 0, .inl 0, .inl 0, .inl 0, .inl 0, .inl 0, .inl 1, .inl 1, .inr none, .inr none, .inr none, .inr none, .inl 0, .inr none, .inr none, .inr none, .inr none, .inr none, .inl 0, .inr none, .inr none, .inl 0, .inl 0, .inl 0, .inr none, .inr none, .inr none, .inl 0, .inl 0, .inr none, .inr none, .inl 0, .inl 0, .inl 0, .inl 0, .inl 0, .inl 0, .inl 1, .inl 1, .inr none, .inr none, .inr none, .inr none, .inl 0, .inl 0])] [] 0 [vr 0] [] := by
  subst hm
  subst hs
  refine zn_aload0 (pc := 0) X d_M_init_0 ?_
  refine zn_obj (pc := 1) X (zTb_in 1325 (by decide +kernel) (by decide +kernel)) d_M_init_1 (Nat.le_trans (Nat.le_of_ble_eq_true rfl) hd) (by decide) ?_
  refine zn_aload0 (pc := 4) X d_M_init_4 ?_
  refine zn_bipush (pc := 5) X d_M_init_5 rfl (zI_d rfl) ?_
  refine zn_newI (pc := 7) (ce := 0) (sl := 0) (m := 1) (N := 7) X hc d_M_init_7 rfl (by decide +kernel) ?_
  refine zn_putR (pc := 9) X hc hnm fl_M_7 rfl rfl rfl (fun _ => ⟨rfl, rfl⟩) d_M_init_9 (by decide +kernel) ?_
  refine zn_aload0 (pc := 12) X d_M_init_12 ?_
  refine zn_sipush (pc := 13) X d_M_init_13 rfl (zI_d rfl) ?_
  refine zn_newI (pc := 16) (ce := 1) (sl := 7) (m := 2) (N := 5764) X hc d_M_init_16 rfl (by decide +kernel) ?_
  refine zn_putR (pc := 18) X hc hnm fl_M_24 rfl rfl rfl (fun _ => ⟨rfl, rfl⟩) d_M_init_18 (by decide +kernel) ?_
  refine zn_aload0 (pc := 21) X d_M_init_21 ?_
  refine zn_sipush (pc := 22) X d_M_init_22 rfl (zI_d rfl) ?_
  refine zn_newI (pc := 25) (ce := 2) (sl := 5771) (m := 3) (N := 11528) X hc d_M_init_25 rfl (by decide +kernel) ?_
  refine zn_putR (pc := 27) X hc hnm fl_M_27 rfl rfl rfl (fun _ => ⟨rfl, rfl⟩) d_M_init_27 (by decide +kernel) ?_
  refine zn_aload0 (pc := 30) X d_M_init_30 ?_
  refine zn_const (pc := 31) X d_M_init_31 (zI_d rfl) ?_
  refine zn_newZ (pc := 32) (ce := 3) (sl := 17299) (m := 4) (N := 2) X hc d_M_init_32 rfl (by decide +kernel) ?_
  refine zn_putR (pc := 34) X hc hnm fl_M_30 rfl rfl rfl (fun _ => ⟨rfl, rfl⟩) d_M_init_34 (by decide +kernel) ?_
  refine zn_aload0 (pc := 37) X d_M_init_37 ?_
  refine zn_sipush (pc := 38) X d_M_init_38 rfl (zI_d rfl) ?_
  refine zn_newI (pc := 41) (ce := 4) (sl := 17301) (m := 5) (N := 803) X hc d_M_init_41 rfl (by decide +kernel) ?_
  refine zn_putR (pc := 43) X hc hnm fl_M_34 rfl rfl rfl (fun _ => ⟨rfl, rfl⟩) d_M_init_43 (by decide +kernel) ?_
  refine zn_aload0 (pc := 46) X d_M_init_46 ?_
  refine zn_sipush (pc := 47) X d_M_init_47 rfl (zI_d rfl) ?_
  refine zn_newB (pc := 50) (ce := 5) (sl := 18104) (m := 6) (N := 147) X hc d_M_init_50 rfl (by decide +kernel) ?_
  refine zn_dup (pc := 52) X d_M_init_52 ?_
  refine zn_const (pc := 53) X d_M_init_53 (zI_d rfl) ?_
  refine zn_bipush (pc := 54) X d_M_init_54 rfl (zI_d rfl) ?_
  refine zn_bast (pc := 56) (j := 0) X hc d_M_init_56 rfl (by decide) (by decide +kernel) ?_
  refine zn_dup (pc := 57) X d_M_init_57 ?_
  refine zn_const (pc := 58) X d_M_init_58 (zI_d rfl) ?_
  refine zn_bipush (pc := 59) X d_M_init_59 rfl (zI_d rfl) ?_
  refine zn_bast (pc := 61) (j := 1) X hc d_M_init_61 rfl (by decide) (by decide +kernel) ?_
  refine zn_dup (pc := 62) X d_M_init_62 ?_
  refine zn_const (pc := 63) X d_M_init_63 (zI_d rfl) ?_
  refine zn_bipush (pc := 64) X d_M_init_64 rfl (zI_d rfl) ?_
  refine zn_bast (pc := 66) (j := 2) X hc d_M_init_66 rfl (by decide) (by decide +kernel) ?_
  refine zn_dup (pc := 67) X d_M_init_67 ?_
  refine zn_const (pc := 68) X d_M_init_68 (zI_d rfl) ?_
  refine zn_bipush (pc := 69) X d_M_init_69 rfl (zI_d rfl) ?_
  refine zn_bast (pc := 71) (j := 3) X hc d_M_init_71 rfl (by decide) (by decide +kernel) ?_
  refine zn_dup (pc := 72) X d_M_init_72 ?_
  refine zn_const (pc := 73) X d_M_init_73 (zI_d rfl) ?_
  refine zn_bipush (pc := 74) X d_M_init_74 rfl (zI_d rfl) ?_
  refine zn_bast (pc := 76) (j := 4) X hc d_M_init_76 rfl (by decide) (by decide +kernel) ?_
  refine zn_dup (pc := 77) X d_M_init_77 ?_
  refine zn_const (pc := 78) X d_M_init_78 (zI_d rfl) ?_
  refine zn_bipush (pc := 79) X d_M_init_79 rfl (zI_d rfl) ?_
  refine zn_bast (pc := 81) (j := 5) X hc d_M_init_81 rfl (by decide) (by decide +kernel) ?_
  refine zn_dup (pc := 82) X d_M_init_82 ?_
  refine zn_bipush (pc := 83) X d_M_init_83 rfl (zI_d rfl) ?_
  refine zn_bipush (pc := 85) X d_M_init_85 rfl (zI_d rfl) ?_
  refine zn_bast (pc := 87) (j := 6) X hc d_M_init_87 rfl (by decide) (by decide +kernel) ?_
  refine zn_dup (pc := 88) X d_M_init_88 ?_
  refine zn_bipush (pc := 89) X d_M_init_89 rfl (zI_d rfl) ?_
  refine zn_bipush (pc := 91) X d_M_init_91 rfl (zI_d rfl) ?_
  refine zn_bast (pc := 93) (j := 7) X hc d_M_init_93 rfl (by decide) (by decide +kernel) ?_
  refine zn_dup (pc := 94) X d_M_init_94 ?_
  refine zn_bipush (pc := 95) X d_M_init_95 rfl (zI_d rfl) ?_
  refine zn_bipush (pc := 97) X d_M_init_97 rfl (zI_d rfl) ?_
  refine zn_bast (pc := 99) (j := 8) X hc d_M_init_99 rfl (by decide) (by decide +kernel) ?_
  refine zn_dup (pc := 100) X d_M_init_100 ?_
  refine zn_bipush (pc := 101) X d_M_init_101 rfl (zI_d rfl) ?_
  refine zn_bipush (pc := 103) X d_M_init_103 rfl (zI_d rfl) ?_
  refine zn_bast (pc := 105) (j := 9) X hc d_M_init_105 rfl (by decide) (by decide +kernel) ?_
  refine zn_dup (pc := 106) X d_M_init_106 ?_
  refine zn_bipush (pc := 107) X d_M_init_107 rfl (zI_d rfl) ?_
  refine zn_bipush (pc := 109) X d_M_init_109 rfl (zI_d rfl) ?_
  refine zn_bast (pc := 111) (j := 10) X hc d_M_init_111 rfl (by decide) (by decide +kernel) ?_
  refine zn_dup (pc := 112) X d_M_init_112 ?_
  refine zn_bipush (pc := 113) X d_M_init_113 rfl (zI_d rfl) ?_
  refine zn_bipush (pc := 115) X d_M_init_115 rfl (zI_d rfl) ?_
  refine zn_bast (pc := 117) (j := 11) X hc d_M_init_117 rfl (by decide) (by decide +kernel) ?_
  refine zn_dup (pc := 118) X d_M_init_118 ?_
  refine zn_bipush (pc := 119) X d_M_init_119 rfl (zI_d rfl) ?_
  refine zn_bipush (pc := 121) X d_M_init_121 rfl (zI_d rfl) ?_
  refine zn_bast (pc := 123) (j := 12) X hc d_M_init_123 rfl (by decide) (by decide +kernel) ?_
  refine zn_dup (pc := 124) X d_M_init_124 ?_
  refine zn_bipush (pc := 125) X d_M_init_125 rfl (zI_d rfl) ?_
  refine zn_bipush (pc := 127) X d_M_init_127 rfl (zI_d rfl) ?_
  exact zn_end (by decide +kernel) (by decide +kernel) rfl rfl kk
theorem k_M_init_1 {d mc ms : Nat} (hd : 1 ≤ d) (hm : mc = 31) (hs : ms = 22904) {Γ : zCx} {n : Nat} {P : List zSh} {μ : zMem} {ad0 : Nat → Nat} (X : zX Γ "DebtDoorsModel" prog_14_method_8_code 1 d) (hc : zHc Γ n P μ mc ms) (hnm : (x_M Γ).name = "<init>") (kk : zH Γ 1 n P ad0 μ 6 18251 R_M_init_2 V_M_init_2 249 [vr 0] [vi 110, vi 33, vr 6, vr 6, vr 0]) : zH Γ 1 n P ad0 μ 6 18251 R_M_init_1 V_M_init_1 129 [vr 0] [vi 101, vi 13, vr 6, vr 6, vr 0] := by
  subst hm
  subst hs
  refine zn_bast (pc := 129) (j := 13) X hc d_M_init_129 rfl (by decide) (by decide +kernel) ?_
  refine zn_dup (pc := 130) X d_M_init_130 ?_
  refine zn_bipush (pc := 131) X d_M_init_131 rfl (zI_d rfl) ?_
  refine zn_bipush (pc := 133) X d_M_init_133 rfl (zI_d rfl) ?_
  refine zn_bast (pc := 135) (j := 14) X hc d_M_init_135 rfl (by decide) (by decide +kernel) ?_
  refine zn_dup (pc := 136) X d_M_init_136 ?_
  refine zn_bipush (pc := 137) X d_M_init_137 rfl (zI_d rfl) ?_
  refine zn_bipush (pc := 139) X d_M_init_139 rfl (zI_d rfl) ?_
  refine zn_bast (pc := 141) (j := 15) X hc d_M_init_141 rfl (by decide) (by decide +kernel) ?_
  refine zn_dup (pc := 142) X d_M_init_142 ?_
  refine zn_bipush (pc := 143) X d_M_init_143 rfl (zI_d rfl) ?_
  refine zn_bipush (pc := 145) X d_M_init_145 rfl (zI_d rfl) ?_
  refine zn_bast (pc := 147) (j := 16) X hc d_M_init_147 rfl (by decide) (by decide +kernel) ?_
  refine zn_dup (pc := 148) X d_M_init_148 ?_
  refine zn_bipush (pc := 149) X d_M_init_149 rfl (zI_d rfl) ?_
  refine zn_bipush (pc := 151) X d_M_init_151 rfl (zI_d rfl) ?_
  refine zn_bast (pc := 153) (j := 17) X hc d_M_init_153 rfl (by decide) (by decide +kernel) ?_
  refine zn_dup (pc := 154) X d_M_init_154 ?_
  refine zn_bipush (pc := 155) X d_M_init_155 rfl (zI_d rfl) ?_
  refine zn_bipush (pc := 157) X d_M_init_157 rfl (zI_d rfl) ?_
  refine zn_bast (pc := 159) (j := 18) X hc d_M_init_159 rfl (by decide) (by decide +kernel) ?_
  refine zn_dup (pc := 160) X d_M_init_160 ?_
  refine zn_bipush (pc := 161) X d_M_init_161 rfl (zI_d rfl) ?_
  refine zn_bipush (pc := 163) X d_M_init_163 rfl (zI_d rfl) ?_
  refine zn_bast (pc := 165) (j := 19) X hc d_M_init_165 rfl (by decide) (by decide +kernel) ?_
  refine zn_dup (pc := 166) X d_M_init_166 ?_
  refine zn_bipush (pc := 167) X d_M_init_167 rfl (zI_d rfl) ?_
  refine zn_bipush (pc := 169) X d_M_init_169 rfl (zI_d rfl) ?_
  refine zn_bast (pc := 171) (j := 20) X hc d_M_init_171 rfl (by decide) (by decide +kernel) ?_
  refine zn_dup (pc := 172) X d_M_init_172 ?_
  refine zn_bipush (pc := 173) X d_M_init_173 rfl (zI_d rfl) ?_
  refine zn_bipush (pc := 175) X d_M_init_175 rfl (zI_d rfl) ?_
  refine zn_bast (pc := 177) (j := 21) X hc d_M_init_177 rfl (by decide) (by decide +kernel) ?_
  refine zn_dup (pc := 178) X d_M_init_178 ?_
  refine zn_bipush (pc := 179) X d_M_init_179 rfl (zI_d rfl) ?_
  refine zn_bipush (pc := 181) X d_M_init_181 rfl (zI_d rfl) ?_
  refine zn_bast (pc := 183) (j := 22) X hc d_M_init_183 rfl (by decide) (by decide +kernel) ?_
  refine zn_dup (pc := 184) X d_M_init_184 ?_
  refine zn_bipush (pc := 185) X d_M_init_185 rfl (zI_d rfl) ?_
  refine zn_bipush (pc := 187) X d_M_init_187 rfl (zI_d rfl) ?_
  refine zn_bast (pc := 189) (j := 23) X hc d_M_init_189 rfl (by decide) (by decide +kernel) ?_
  refine zn_dup (pc := 190) X d_M_init_190 ?_
  refine zn_bipush (pc := 191) X d_M_init_191 rfl (zI_d rfl) ?_
  refine zn_bipush (pc := 193) X d_M_init_193 rfl (zI_d rfl) ?_
  refine zn_bast (pc := 195) (j := 24) X hc d_M_init_195 rfl (by decide) (by decide +kernel) ?_
  refine zn_dup (pc := 196) X d_M_init_196 ?_
  refine zn_bipush (pc := 197) X d_M_init_197 rfl (zI_d rfl) ?_
  refine zn_bipush (pc := 199) X d_M_init_199 rfl (zI_d rfl) ?_
  refine zn_bast (pc := 201) (j := 25) X hc d_M_init_201 rfl (by decide) (by decide +kernel) ?_
  refine zn_dup (pc := 202) X d_M_init_202 ?_
  refine zn_bipush (pc := 203) X d_M_init_203 rfl (zI_d rfl) ?_
  refine zn_bipush (pc := 205) X d_M_init_205 rfl (zI_d rfl) ?_
  refine zn_bast (pc := 207) (j := 26) X hc d_M_init_207 rfl (by decide) (by decide +kernel) ?_
  refine zn_dup (pc := 208) X d_M_init_208 ?_
  refine zn_bipush (pc := 209) X d_M_init_209 rfl (zI_d rfl) ?_
  refine zn_bipush (pc := 211) X d_M_init_211 rfl (zI_d rfl) ?_
  refine zn_bast (pc := 213) (j := 27) X hc d_M_init_213 rfl (by decide) (by decide +kernel) ?_
  refine zn_dup (pc := 214) X d_M_init_214 ?_
  refine zn_bipush (pc := 215) X d_M_init_215 rfl (zI_d rfl) ?_
  refine zn_bipush (pc := 217) X d_M_init_217 rfl (zI_d rfl) ?_
  refine zn_bast (pc := 219) (j := 28) X hc d_M_init_219 rfl (by decide) (by decide +kernel) ?_
  refine zn_dup (pc := 220) X d_M_init_220 ?_
  refine zn_bipush (pc := 221) X d_M_init_221 rfl (zI_d rfl) ?_
  refine zn_bipush (pc := 223) X d_M_init_223 rfl (zI_d rfl) ?_
  refine zn_bast (pc := 225) (j := 29) X hc d_M_init_225 rfl (by decide) (by decide +kernel) ?_
  refine zn_dup (pc := 226) X d_M_init_226 ?_
  refine zn_bipush (pc := 227) X d_M_init_227 rfl (zI_d rfl) ?_
  refine zn_bipush (pc := 229) X d_M_init_229 rfl (zI_d rfl) ?_
  refine zn_bast (pc := 231) (j := 30) X hc d_M_init_231 rfl (by decide) (by decide +kernel) ?_
  refine zn_dup (pc := 232) X d_M_init_232 ?_
  refine zn_bipush (pc := 233) X d_M_init_233 rfl (zI_d rfl) ?_
  refine zn_bipush (pc := 235) X d_M_init_235 rfl (zI_d rfl) ?_
  refine zn_bast (pc := 237) (j := 31) X hc d_M_init_237 rfl (by decide) (by decide +kernel) ?_
  refine zn_dup (pc := 238) X d_M_init_238 ?_
  refine zn_bipush (pc := 239) X d_M_init_239 rfl (zI_d rfl) ?_
  refine zn_bipush (pc := 241) X d_M_init_241 rfl (zI_d rfl) ?_
  refine zn_bast (pc := 243) (j := 32) X hc d_M_init_243 rfl (by decide) (by decide +kernel) ?_
  refine zn_dup (pc := 244) X d_M_init_244 ?_
  refine zn_bipush (pc := 245) X d_M_init_245 rfl (zI_d rfl) ?_
  refine zn_bipush (pc := 247) X d_M_init_247 rfl (zI_d rfl) ?_
  exact zn_end (by decide +kernel) (by decide +kernel) rfl rfl kk
theorem k_M_init_2 {d mc ms : Nat} (hd : 1 ≤ d) (hm : mc = 31) (hs : ms = 22904) {Γ : zCx} {n : Nat} {P : List zSh} {μ : zMem} {ad0 : Nat → Nat} (X : zX Γ "DebtDoorsModel" prog_14_method_8_code 1 d) (hc : zHc Γ n P μ mc ms) (hnm : (x_M Γ).name = "<init>") (kk : zH Γ 1 n P ad0 μ 6 18251 R_M_init_3 V_M_init_3 369 [vr 0] [vi 101, vi 53, vr 6, vr 6, vr 0]) : zH Γ 1 n P ad0 μ 6 18251 R_M_init_2 V_M_init_2 249 [vr 0] [vi 110, vi 33, vr 6, vr 6, vr 0] := by
  subst hm
  subst hs
  refine zn_bast (pc := 249) (j := 33) X hc d_M_init_249 rfl (by decide) (by decide +kernel) ?_
  refine zn_dup (pc := 250) X d_M_init_250 ?_
  refine zn_bipush (pc := 251) X d_M_init_251 rfl (zI_d rfl) ?_
  refine zn_bipush (pc := 253) X d_M_init_253 rfl (zI_d rfl) ?_
  refine zn_bast (pc := 255) (j := 34) X hc d_M_init_255 rfl (by decide) (by decide +kernel) ?_
  refine zn_dup (pc := 256) X d_M_init_256 ?_
  refine zn_bipush (pc := 257) X d_M_init_257 rfl (zI_d rfl) ?_
  refine zn_bipush (pc := 259) X d_M_init_259 rfl (zI_d rfl) ?_
  refine zn_bast (pc := 261) (j := 35) X hc d_M_init_261 rfl (by decide) (by decide +kernel) ?_
  refine zn_dup (pc := 262) X d_M_init_262 ?_
  refine zn_bipush (pc := 263) X d_M_init_263 rfl (zI_d rfl) ?_
  refine zn_bipush (pc := 265) X d_M_init_265 rfl (zI_d rfl) ?_
  refine zn_bast (pc := 267) (j := 36) X hc d_M_init_267 rfl (by decide) (by decide +kernel) ?_
  refine zn_dup (pc := 268) X d_M_init_268 ?_
  refine zn_bipush (pc := 269) X d_M_init_269 rfl (zI_d rfl) ?_
  refine zn_bipush (pc := 271) X d_M_init_271 rfl (zI_d rfl) ?_
  refine zn_bast (pc := 273) (j := 37) X hc d_M_init_273 rfl (by decide) (by decide +kernel) ?_
  refine zn_dup (pc := 274) X d_M_init_274 ?_
  refine zn_bipush (pc := 275) X d_M_init_275 rfl (zI_d rfl) ?_
  refine zn_bipush (pc := 277) X d_M_init_277 rfl (zI_d rfl) ?_
  refine zn_bast (pc := 279) (j := 38) X hc d_M_init_279 rfl (by decide) (by decide +kernel) ?_
  refine zn_dup (pc := 280) X d_M_init_280 ?_
  refine zn_bipush (pc := 281) X d_M_init_281 rfl (zI_d rfl) ?_
  refine zn_bipush (pc := 283) X d_M_init_283 rfl (zI_d rfl) ?_
  refine zn_bast (pc := 285) (j := 39) X hc d_M_init_285 rfl (by decide) (by decide +kernel) ?_
  refine zn_dup (pc := 286) X d_M_init_286 ?_
  refine zn_bipush (pc := 287) X d_M_init_287 rfl (zI_d rfl) ?_
  refine zn_bipush (pc := 289) X d_M_init_289 rfl (zI_d rfl) ?_
  refine zn_bast (pc := 291) (j := 40) X hc d_M_init_291 rfl (by decide) (by decide +kernel) ?_
  refine zn_dup (pc := 292) X d_M_init_292 ?_
  refine zn_bipush (pc := 293) X d_M_init_293 rfl (zI_d rfl) ?_
  refine zn_bipush (pc := 295) X d_M_init_295 rfl (zI_d rfl) ?_
  refine zn_bast (pc := 297) (j := 41) X hc d_M_init_297 rfl (by decide) (by decide +kernel) ?_
  refine zn_dup (pc := 298) X d_M_init_298 ?_
  refine zn_bipush (pc := 299) X d_M_init_299 rfl (zI_d rfl) ?_
  refine zn_bipush (pc := 301) X d_M_init_301 rfl (zI_d rfl) ?_
  refine zn_bast (pc := 303) (j := 42) X hc d_M_init_303 rfl (by decide) (by decide +kernel) ?_
  refine zn_dup (pc := 304) X d_M_init_304 ?_
  refine zn_bipush (pc := 305) X d_M_init_305 rfl (zI_d rfl) ?_
  refine zn_bipush (pc := 307) X d_M_init_307 rfl (zI_d rfl) ?_
  refine zn_bast (pc := 309) (j := 43) X hc d_M_init_309 rfl (by decide) (by decide +kernel) ?_
  refine zn_dup (pc := 310) X d_M_init_310 ?_
  refine zn_bipush (pc := 311) X d_M_init_311 rfl (zI_d rfl) ?_
  refine zn_bipush (pc := 313) X d_M_init_313 rfl (zI_d rfl) ?_
  refine zn_bast (pc := 315) (j := 44) X hc d_M_init_315 rfl (by decide) (by decide +kernel) ?_
  refine zn_dup (pc := 316) X d_M_init_316 ?_
  refine zn_bipush (pc := 317) X d_M_init_317 rfl (zI_d rfl) ?_
  refine zn_bipush (pc := 319) X d_M_init_319 rfl (zI_d rfl) ?_
  refine zn_bast (pc := 321) (j := 45) X hc d_M_init_321 rfl (by decide) (by decide +kernel) ?_
  refine zn_dup (pc := 322) X d_M_init_322 ?_
  refine zn_bipush (pc := 323) X d_M_init_323 rfl (zI_d rfl) ?_
  refine zn_bipush (pc := 325) X d_M_init_325 rfl (zI_d rfl) ?_
  refine zn_bast (pc := 327) (j := 46) X hc d_M_init_327 rfl (by decide) (by decide +kernel) ?_
  refine zn_dup (pc := 328) X d_M_init_328 ?_
  refine zn_bipush (pc := 329) X d_M_init_329 rfl (zI_d rfl) ?_
  refine zn_bipush (pc := 331) X d_M_init_331 rfl (zI_d rfl) ?_
  refine zn_bast (pc := 333) (j := 47) X hc d_M_init_333 rfl (by decide) (by decide +kernel) ?_
  refine zn_dup (pc := 334) X d_M_init_334 ?_
  refine zn_bipush (pc := 335) X d_M_init_335 rfl (zI_d rfl) ?_
  refine zn_bipush (pc := 337) X d_M_init_337 rfl (zI_d rfl) ?_
  refine zn_bast (pc := 339) (j := 48) X hc d_M_init_339 rfl (by decide) (by decide +kernel) ?_
  refine zn_dup (pc := 340) X d_M_init_340 ?_
  refine zn_bipush (pc := 341) X d_M_init_341 rfl (zI_d rfl) ?_
  refine zn_bipush (pc := 343) X d_M_init_343 rfl (zI_d rfl) ?_
  refine zn_bast (pc := 345) (j := 49) X hc d_M_init_345 rfl (by decide) (by decide +kernel) ?_
  refine zn_dup (pc := 346) X d_M_init_346 ?_
  refine zn_bipush (pc := 347) X d_M_init_347 rfl (zI_d rfl) ?_
  refine zn_bipush (pc := 349) X d_M_init_349 rfl (zI_d rfl) ?_
  refine zn_bast (pc := 351) (j := 50) X hc d_M_init_351 rfl (by decide) (by decide +kernel) ?_
  refine zn_dup (pc := 352) X d_M_init_352 ?_
  refine zn_bipush (pc := 353) X d_M_init_353 rfl (zI_d rfl) ?_
  refine zn_bipush (pc := 355) X d_M_init_355 rfl (zI_d rfl) ?_
  refine zn_bast (pc := 357) (j := 51) X hc d_M_init_357 rfl (by decide) (by decide +kernel) ?_
  refine zn_dup (pc := 358) X d_M_init_358 ?_
  refine zn_bipush (pc := 359) X d_M_init_359 rfl (zI_d rfl) ?_
  refine zn_bipush (pc := 361) X d_M_init_361 rfl (zI_d rfl) ?_
  refine zn_bast (pc := 363) (j := 52) X hc d_M_init_363 rfl (by decide) (by decide +kernel) ?_
  refine zn_dup (pc := 364) X d_M_init_364 ?_
  refine zn_bipush (pc := 365) X d_M_init_365 rfl (zI_d rfl) ?_
  refine zn_bipush (pc := 367) X d_M_init_367 rfl (zI_d rfl) ?_
  exact zn_end (by decide +kernel) (by decide +kernel) rfl rfl kk
theorem k_M_init_3 {d mc ms : Nat} (hd : 1 ≤ d) (hm : mc = 31) (hs : ms = 22904) {Γ : zCx} {n : Nat} {P : List zSh} {μ : zMem} {ad0 : Nat → Nat} (X : zX Γ "DebtDoorsModel" prog_14_method_8_code 1 d) (hc : zHc Γ n P μ mc ms) (hnm : (x_M Γ).name = "<init>") (kk : zH Γ 1 n P ad0 μ 6 18251 R_M_init_4 V_M_init_4 489 [vr 0] [vi 109, vi 73, vr 6, vr 6, vr 0]) : zH Γ 1 n P ad0 μ 6 18251 R_M_init_3 V_M_init_3 369 [vr 0] [vi 101, vi 53, vr 6, vr 6, vr 0] := by
  subst hm
  subst hs
  refine zn_bast (pc := 369) (j := 53) X hc d_M_init_369 rfl (by decide) (by decide +kernel) ?_
  refine zn_dup (pc := 370) X d_M_init_370 ?_
  refine zn_bipush (pc := 371) X d_M_init_371 rfl (zI_d rfl) ?_
  refine zn_bipush (pc := 373) X d_M_init_373 rfl (zI_d rfl) ?_
  refine zn_bast (pc := 375) (j := 54) X hc d_M_init_375 rfl (by decide) (by decide +kernel) ?_
  refine zn_dup (pc := 376) X d_M_init_376 ?_
  refine zn_bipush (pc := 377) X d_M_init_377 rfl (zI_d rfl) ?_
  refine zn_bipush (pc := 379) X d_M_init_379 rfl (zI_d rfl) ?_
  refine zn_bast (pc := 381) (j := 55) X hc d_M_init_381 rfl (by decide) (by decide +kernel) ?_
  refine zn_dup (pc := 382) X d_M_init_382 ?_
  refine zn_bipush (pc := 383) X d_M_init_383 rfl (zI_d rfl) ?_
  refine zn_bipush (pc := 385) X d_M_init_385 rfl (zI_d rfl) ?_
  refine zn_bast (pc := 387) (j := 56) X hc d_M_init_387 rfl (by decide) (by decide +kernel) ?_
  refine zn_dup (pc := 388) X d_M_init_388 ?_
  refine zn_bipush (pc := 389) X d_M_init_389 rfl (zI_d rfl) ?_
  refine zn_bipush (pc := 391) X d_M_init_391 rfl (zI_d rfl) ?_
  refine zn_bast (pc := 393) (j := 57) X hc d_M_init_393 rfl (by decide) (by decide +kernel) ?_
  refine zn_dup (pc := 394) X d_M_init_394 ?_
  refine zn_bipush (pc := 395) X d_M_init_395 rfl (zI_d rfl) ?_
  refine zn_bipush (pc := 397) X d_M_init_397 rfl (zI_d rfl) ?_
  refine zn_bast (pc := 399) (j := 58) X hc d_M_init_399 rfl (by decide) (by decide +kernel) ?_
  refine zn_dup (pc := 400) X d_M_init_400 ?_
  refine zn_bipush (pc := 401) X d_M_init_401 rfl (zI_d rfl) ?_
  refine zn_bipush (pc := 403) X d_M_init_403 rfl (zI_d rfl) ?_
  refine zn_bast (pc := 405) (j := 59) X hc d_M_init_405 rfl (by decide) (by decide +kernel) ?_
  refine zn_dup (pc := 406) X d_M_init_406 ?_
  refine zn_bipush (pc := 407) X d_M_init_407 rfl (zI_d rfl) ?_
  refine zn_bipush (pc := 409) X d_M_init_409 rfl (zI_d rfl) ?_
  refine zn_bast (pc := 411) (j := 60) X hc d_M_init_411 rfl (by decide) (by decide +kernel) ?_
  refine zn_dup (pc := 412) X d_M_init_412 ?_
  refine zn_bipush (pc := 413) X d_M_init_413 rfl (zI_d rfl) ?_
  refine zn_bipush (pc := 415) X d_M_init_415 rfl (zI_d rfl) ?_
  refine zn_bast (pc := 417) (j := 61) X hc d_M_init_417 rfl (by decide) (by decide +kernel) ?_
  refine zn_dup (pc := 418) X d_M_init_418 ?_
  refine zn_bipush (pc := 419) X d_M_init_419 rfl (zI_d rfl) ?_
  refine zn_bipush (pc := 421) X d_M_init_421 rfl (zI_d rfl) ?_
  refine zn_bast (pc := 423) (j := 62) X hc d_M_init_423 rfl (by decide) (by decide +kernel) ?_
  refine zn_dup (pc := 424) X d_M_init_424 ?_
  refine zn_bipush (pc := 425) X d_M_init_425 rfl (zI_d rfl) ?_
  refine zn_bipush (pc := 427) X d_M_init_427 rfl (zI_d rfl) ?_
  refine zn_bast (pc := 429) (j := 63) X hc d_M_init_429 rfl (by decide) (by decide +kernel) ?_
  refine zn_dup (pc := 430) X d_M_init_430 ?_
  refine zn_bipush (pc := 431) X d_M_init_431 rfl (zI_d rfl) ?_
  refine zn_bipush (pc := 433) X d_M_init_433 rfl (zI_d rfl) ?_
  refine zn_bast (pc := 435) (j := 64) X hc d_M_init_435 rfl (by decide) (by decide +kernel) ?_
  refine zn_dup (pc := 436) X d_M_init_436 ?_
  refine zn_bipush (pc := 437) X d_M_init_437 rfl (zI_d rfl) ?_
  refine zn_bipush (pc := 439) X d_M_init_439 rfl (zI_d rfl) ?_
  refine zn_bast (pc := 441) (j := 65) X hc d_M_init_441 rfl (by decide) (by decide +kernel) ?_
  refine zn_dup (pc := 442) X d_M_init_442 ?_
  refine zn_bipush (pc := 443) X d_M_init_443 rfl (zI_d rfl) ?_
  refine zn_bipush (pc := 445) X d_M_init_445 rfl (zI_d rfl) ?_
  refine zn_bast (pc := 447) (j := 66) X hc d_M_init_447 rfl (by decide) (by decide +kernel) ?_
  refine zn_dup (pc := 448) X d_M_init_448 ?_
  refine zn_bipush (pc := 449) X d_M_init_449 rfl (zI_d rfl) ?_
  refine zn_bipush (pc := 451) X d_M_init_451 rfl (zI_d rfl) ?_
  refine zn_bast (pc := 453) (j := 67) X hc d_M_init_453 rfl (by decide) (by decide +kernel) ?_
  refine zn_dup (pc := 454) X d_M_init_454 ?_
  refine zn_bipush (pc := 455) X d_M_init_455 rfl (zI_d rfl) ?_
  refine zn_bipush (pc := 457) X d_M_init_457 rfl (zI_d rfl) ?_
  refine zn_bast (pc := 459) (j := 68) X hc d_M_init_459 rfl (by decide) (by decide +kernel) ?_
  refine zn_dup (pc := 460) X d_M_init_460 ?_
  refine zn_bipush (pc := 461) X d_M_init_461 rfl (zI_d rfl) ?_
  refine zn_bipush (pc := 463) X d_M_init_463 rfl (zI_d rfl) ?_
  refine zn_bast (pc := 465) (j := 69) X hc d_M_init_465 rfl (by decide) (by decide +kernel) ?_
  refine zn_dup (pc := 466) X d_M_init_466 ?_
  refine zn_bipush (pc := 467) X d_M_init_467 rfl (zI_d rfl) ?_
  refine zn_bipush (pc := 469) X d_M_init_469 rfl (zI_d rfl) ?_
  refine zn_bast (pc := 471) (j := 70) X hc d_M_init_471 rfl (by decide) (by decide +kernel) ?_
  refine zn_dup (pc := 472) X d_M_init_472 ?_
  refine zn_bipush (pc := 473) X d_M_init_473 rfl (zI_d rfl) ?_
  refine zn_bipush (pc := 475) X d_M_init_475 rfl (zI_d rfl) ?_
  refine zn_bast (pc := 477) (j := 71) X hc d_M_init_477 rfl (by decide) (by decide +kernel) ?_
  refine zn_dup (pc := 478) X d_M_init_478 ?_
  refine zn_bipush (pc := 479) X d_M_init_479 rfl (zI_d rfl) ?_
  refine zn_bipush (pc := 481) X d_M_init_481 rfl (zI_d rfl) ?_
  refine zn_bast (pc := 483) (j := 72) X hc d_M_init_483 rfl (by decide) (by decide +kernel) ?_
  refine zn_dup (pc := 484) X d_M_init_484 ?_
  refine zn_bipush (pc := 485) X d_M_init_485 rfl (zI_d rfl) ?_
  refine zn_bipush (pc := 487) X d_M_init_487 rfl (zI_d rfl) ?_
  exact zn_end (by decide +kernel) (by decide +kernel) rfl rfl kk
theorem k_M_init_4 {d mc ms : Nat} (hd : 1 ≤ d) (hm : mc = 31) (hs : ms = 22904) {Γ : zCx} {n : Nat} {P : List zSh} {μ : zMem} {ad0 : Nat → Nat} (X : zX Γ "DebtDoorsModel" prog_14_method_8_code 1 d) (hc : zHc Γ n P μ mc ms) (hnm : (x_M Γ).name = "<init>") (kk : zH Γ 1 n P ad0 μ 6 18251 R_M_init_5 V_M_init_5 609 [vr 0] [vi 101, vi 93, vr 6, vr 6, vr 0]) : zH Γ 1 n P ad0 μ 6 18251 R_M_init_4 V_M_init_4 489 [vr 0] [vi 109, vi 73, vr 6, vr 6, vr 0] := by
  subst hm
  subst hs
  refine zn_bast (pc := 489) (j := 73) X hc d_M_init_489 rfl (by decide) (by decide +kernel) ?_
  refine zn_dup (pc := 490) X d_M_init_490 ?_
  refine zn_bipush (pc := 491) X d_M_init_491 rfl (zI_d rfl) ?_
  refine zn_bipush (pc := 493) X d_M_init_493 rfl (zI_d rfl) ?_
  refine zn_bast (pc := 495) (j := 74) X hc d_M_init_495 rfl (by decide) (by decide +kernel) ?_
  refine zn_dup (pc := 496) X d_M_init_496 ?_
  refine zn_bipush (pc := 497) X d_M_init_497 rfl (zI_d rfl) ?_
  refine zn_bipush (pc := 499) X d_M_init_499 rfl (zI_d rfl) ?_
  refine zn_bast (pc := 501) (j := 75) X hc d_M_init_501 rfl (by decide) (by decide +kernel) ?_
  refine zn_dup (pc := 502) X d_M_init_502 ?_
  refine zn_bipush (pc := 503) X d_M_init_503 rfl (zI_d rfl) ?_
  refine zn_bipush (pc := 505) X d_M_init_505 rfl (zI_d rfl) ?_
  refine zn_bast (pc := 507) (j := 76) X hc d_M_init_507 rfl (by decide) (by decide +kernel) ?_
  refine zn_dup (pc := 508) X d_M_init_508 ?_
  refine zn_bipush (pc := 509) X d_M_init_509 rfl (zI_d rfl) ?_
  refine zn_bipush (pc := 511) X d_M_init_511 rfl (zI_d rfl) ?_
  refine zn_bast (pc := 513) (j := 77) X hc d_M_init_513 rfl (by decide) (by decide +kernel) ?_
  refine zn_dup (pc := 514) X d_M_init_514 ?_
  refine zn_bipush (pc := 515) X d_M_init_515 rfl (zI_d rfl) ?_
  refine zn_bipush (pc := 517) X d_M_init_517 rfl (zI_d rfl) ?_
  refine zn_bast (pc := 519) (j := 78) X hc d_M_init_519 rfl (by decide) (by decide +kernel) ?_
  refine zn_dup (pc := 520) X d_M_init_520 ?_
  refine zn_bipush (pc := 521) X d_M_init_521 rfl (zI_d rfl) ?_
  refine zn_bipush (pc := 523) X d_M_init_523 rfl (zI_d rfl) ?_
  refine zn_bast (pc := 525) (j := 79) X hc d_M_init_525 rfl (by decide) (by decide +kernel) ?_
  refine zn_dup (pc := 526) X d_M_init_526 ?_
  refine zn_bipush (pc := 527) X d_M_init_527 rfl (zI_d rfl) ?_
  refine zn_bipush (pc := 529) X d_M_init_529 rfl (zI_d rfl) ?_
  refine zn_bast (pc := 531) (j := 80) X hc d_M_init_531 rfl (by decide) (by decide +kernel) ?_
  refine zn_dup (pc := 532) X d_M_init_532 ?_
  refine zn_bipush (pc := 533) X d_M_init_533 rfl (zI_d rfl) ?_
  refine zn_bipush (pc := 535) X d_M_init_535 rfl (zI_d rfl) ?_
  refine zn_bast (pc := 537) (j := 81) X hc d_M_init_537 rfl (by decide) (by decide +kernel) ?_
  refine zn_dup (pc := 538) X d_M_init_538 ?_
  refine zn_bipush (pc := 539) X d_M_init_539 rfl (zI_d rfl) ?_
  refine zn_bipush (pc := 541) X d_M_init_541 rfl (zI_d rfl) ?_
  refine zn_bast (pc := 543) (j := 82) X hc d_M_init_543 rfl (by decide) (by decide +kernel) ?_
  refine zn_dup (pc := 544) X d_M_init_544 ?_
  refine zn_bipush (pc := 545) X d_M_init_545 rfl (zI_d rfl) ?_
  refine zn_bipush (pc := 547) X d_M_init_547 rfl (zI_d rfl) ?_
  refine zn_bast (pc := 549) (j := 83) X hc d_M_init_549 rfl (by decide) (by decide +kernel) ?_
  refine zn_dup (pc := 550) X d_M_init_550 ?_
  refine zn_bipush (pc := 551) X d_M_init_551 rfl (zI_d rfl) ?_
  refine zn_bipush (pc := 553) X d_M_init_553 rfl (zI_d rfl) ?_
  refine zn_bast (pc := 555) (j := 84) X hc d_M_init_555 rfl (by decide) (by decide +kernel) ?_
  refine zn_dup (pc := 556) X d_M_init_556 ?_
  refine zn_bipush (pc := 557) X d_M_init_557 rfl (zI_d rfl) ?_
  refine zn_bipush (pc := 559) X d_M_init_559 rfl (zI_d rfl) ?_
  refine zn_bast (pc := 561) (j := 85) X hc d_M_init_561 rfl (by decide) (by decide +kernel) ?_
  refine zn_dup (pc := 562) X d_M_init_562 ?_
  refine zn_bipush (pc := 563) X d_M_init_563 rfl (zI_d rfl) ?_
  refine zn_bipush (pc := 565) X d_M_init_565 rfl (zI_d rfl) ?_
  refine zn_bast (pc := 567) (j := 86) X hc d_M_init_567 rfl (by decide) (by decide +kernel) ?_
  refine zn_dup (pc := 568) X d_M_init_568 ?_
  refine zn_bipush (pc := 569) X d_M_init_569 rfl (zI_d rfl) ?_
  refine zn_bipush (pc := 571) X d_M_init_571 rfl (zI_d rfl) ?_
  refine zn_bast (pc := 573) (j := 87) X hc d_M_init_573 rfl (by decide) (by decide +kernel) ?_
  refine zn_dup (pc := 574) X d_M_init_574 ?_
  refine zn_bipush (pc := 575) X d_M_init_575 rfl (zI_d rfl) ?_
  refine zn_bipush (pc := 577) X d_M_init_577 rfl (zI_d rfl) ?_
  refine zn_bast (pc := 579) (j := 88) X hc d_M_init_579 rfl (by decide) (by decide +kernel) ?_
  refine zn_dup (pc := 580) X d_M_init_580 ?_
  refine zn_bipush (pc := 581) X d_M_init_581 rfl (zI_d rfl) ?_
  refine zn_bipush (pc := 583) X d_M_init_583 rfl (zI_d rfl) ?_
  refine zn_bast (pc := 585) (j := 89) X hc d_M_init_585 rfl (by decide) (by decide +kernel) ?_
  refine zn_dup (pc := 586) X d_M_init_586 ?_
  refine zn_bipush (pc := 587) X d_M_init_587 rfl (zI_d rfl) ?_
  refine zn_bipush (pc := 589) X d_M_init_589 rfl (zI_d rfl) ?_
  refine zn_bast (pc := 591) (j := 90) X hc d_M_init_591 rfl (by decide) (by decide +kernel) ?_
  refine zn_dup (pc := 592) X d_M_init_592 ?_
  refine zn_bipush (pc := 593) X d_M_init_593 rfl (zI_d rfl) ?_
  refine zn_bipush (pc := 595) X d_M_init_595 rfl (zI_d rfl) ?_
  refine zn_bast (pc := 597) (j := 91) X hc d_M_init_597 rfl (by decide) (by decide +kernel) ?_
  refine zn_dup (pc := 598) X d_M_init_598 ?_
  refine zn_bipush (pc := 599) X d_M_init_599 rfl (zI_d rfl) ?_
  refine zn_bipush (pc := 601) X d_M_init_601 rfl (zI_d rfl) ?_
  refine zn_bast (pc := 603) (j := 92) X hc d_M_init_603 rfl (by decide) (by decide +kernel) ?_
  refine zn_dup (pc := 604) X d_M_init_604 ?_
  refine zn_bipush (pc := 605) X d_M_init_605 rfl (zI_d rfl) ?_
  refine zn_bipush (pc := 607) X d_M_init_607 rfl (zI_d rfl) ?_
  exact zn_end (by decide +kernel) (by decide +kernel) rfl rfl kk
theorem k_M_init_5 {d mc ms : Nat} (hd : 1 ≤ d) (hm : mc = 31) (hs : ms = 22904) {Γ : zCx} {n : Nat} {P : List zSh} {μ : zMem} {ad0 : Nat → Nat} (X : zX Γ "DebtDoorsModel" prog_14_method_8_code 1 d) (hc : zHc Γ n P μ mc ms) (hnm : (x_M Γ).name = "<init>") (kk : zH Γ 1 n P ad0 μ 6 18251 R_M_init_6 V_M_init_6 729 [vr 0] [vi 32, vi 113, vr 6, vr 6, vr 0]) : zH Γ 1 n P ad0 μ 6 18251 R_M_init_5 V_M_init_5 609 [vr 0] [vi 101, vi 93, vr 6, vr 6, vr 0] := by
  subst hm
  subst hs
  refine zn_bast (pc := 609) (j := 93) X hc d_M_init_609 rfl (by decide) (by decide +kernel) ?_
  refine zn_dup (pc := 610) X d_M_init_610 ?_
  refine zn_bipush (pc := 611) X d_M_init_611 rfl (zI_d rfl) ?_
  refine zn_bipush (pc := 613) X d_M_init_613 rfl (zI_d rfl) ?_
  refine zn_bast (pc := 615) (j := 94) X hc d_M_init_615 rfl (by decide) (by decide +kernel) ?_
  refine zn_dup (pc := 616) X d_M_init_616 ?_
  refine zn_bipush (pc := 617) X d_M_init_617 rfl (zI_d rfl) ?_
  refine zn_bipush (pc := 619) X d_M_init_619 rfl (zI_d rfl) ?_
  refine zn_bast (pc := 621) (j := 95) X hc d_M_init_621 rfl (by decide) (by decide +kernel) ?_
  refine zn_dup (pc := 622) X d_M_init_622 ?_
  refine zn_bipush (pc := 623) X d_M_init_623 rfl (zI_d rfl) ?_
  refine zn_bipush (pc := 625) X d_M_init_625 rfl (zI_d rfl) ?_
  refine zn_bast (pc := 627) (j := 96) X hc d_M_init_627 rfl (by decide) (by decide +kernel) ?_
  refine zn_dup (pc := 628) X d_M_init_628 ?_
  refine zn_bipush (pc := 629) X d_M_init_629 rfl (zI_d rfl) ?_
  refine zn_bipush (pc := 631) X d_M_init_631 rfl (zI_d rfl) ?_
  refine zn_bast (pc := 633) (j := 97) X hc d_M_init_633 rfl (by decide) (by decide +kernel) ?_
  refine zn_dup (pc := 634) X d_M_init_634 ?_
  refine zn_bipush (pc := 635) X d_M_init_635 rfl (zI_d rfl) ?_
  refine zn_bipush (pc := 637) X d_M_init_637 rfl (zI_d rfl) ?_
  refine zn_bast (pc := 639) (j := 98) X hc d_M_init_639 rfl (by decide) (by decide +kernel) ?_
  refine zn_dup (pc := 640) X d_M_init_640 ?_
  refine zn_bipush (pc := 641) X d_M_init_641 rfl (zI_d rfl) ?_
  refine zn_bipush (pc := 643) X d_M_init_643 rfl (zI_d rfl) ?_
  refine zn_bast (pc := 645) (j := 99) X hc d_M_init_645 rfl (by decide) (by decide +kernel) ?_
  refine zn_dup (pc := 646) X d_M_init_646 ?_
  refine zn_bipush (pc := 647) X d_M_init_647 rfl (zI_d rfl) ?_
  refine zn_bipush (pc := 649) X d_M_init_649 rfl (zI_d rfl) ?_
  refine zn_bast (pc := 651) (j := 100) X hc d_M_init_651 rfl (by decide) (by decide +kernel) ?_
  refine zn_dup (pc := 652) X d_M_init_652 ?_
  refine zn_bipush (pc := 653) X d_M_init_653 rfl (zI_d rfl) ?_
  refine zn_bipush (pc := 655) X d_M_init_655 rfl (zI_d rfl) ?_
  refine zn_bast (pc := 657) (j := 101) X hc d_M_init_657 rfl (by decide) (by decide +kernel) ?_
  refine zn_dup (pc := 658) X d_M_init_658 ?_
  refine zn_bipush (pc := 659) X d_M_init_659 rfl (zI_d rfl) ?_
  refine zn_bipush (pc := 661) X d_M_init_661 rfl (zI_d rfl) ?_
  refine zn_bast (pc := 663) (j := 102) X hc d_M_init_663 rfl (by decide) (by decide +kernel) ?_
  refine zn_dup (pc := 664) X d_M_init_664 ?_
  refine zn_bipush (pc := 665) X d_M_init_665 rfl (zI_d rfl) ?_
  refine zn_bipush (pc := 667) X d_M_init_667 rfl (zI_d rfl) ?_
  refine zn_bast (pc := 669) (j := 103) X hc d_M_init_669 rfl (by decide) (by decide +kernel) ?_
  refine zn_dup (pc := 670) X d_M_init_670 ?_
  refine zn_bipush (pc := 671) X d_M_init_671 rfl (zI_d rfl) ?_
  refine zn_bipush (pc := 673) X d_M_init_673 rfl (zI_d rfl) ?_
  refine zn_bast (pc := 675) (j := 104) X hc d_M_init_675 rfl (by decide) (by decide +kernel) ?_
  refine zn_dup (pc := 676) X d_M_init_676 ?_
  refine zn_bipush (pc := 677) X d_M_init_677 rfl (zI_d rfl) ?_
  refine zn_bipush (pc := 679) X d_M_init_679 rfl (zI_d rfl) ?_
  refine zn_bast (pc := 681) (j := 105) X hc d_M_init_681 rfl (by decide) (by decide +kernel) ?_
  refine zn_dup (pc := 682) X d_M_init_682 ?_
  refine zn_bipush (pc := 683) X d_M_init_683 rfl (zI_d rfl) ?_
  refine zn_bipush (pc := 685) X d_M_init_685 rfl (zI_d rfl) ?_
  refine zn_bast (pc := 687) (j := 106) X hc d_M_init_687 rfl (by decide) (by decide +kernel) ?_
  refine zn_dup (pc := 688) X d_M_init_688 ?_
  refine zn_bipush (pc := 689) X d_M_init_689 rfl (zI_d rfl) ?_
  refine zn_bipush (pc := 691) X d_M_init_691 rfl (zI_d rfl) ?_
  refine zn_bast (pc := 693) (j := 107) X hc d_M_init_693 rfl (by decide) (by decide +kernel) ?_
  refine zn_dup (pc := 694) X d_M_init_694 ?_
  refine zn_bipush (pc := 695) X d_M_init_695 rfl (zI_d rfl) ?_
  refine zn_bipush (pc := 697) X d_M_init_697 rfl (zI_d rfl) ?_
  refine zn_bast (pc := 699) (j := 108) X hc d_M_init_699 rfl (by decide) (by decide +kernel) ?_
  refine zn_dup (pc := 700) X d_M_init_700 ?_
  refine zn_bipush (pc := 701) X d_M_init_701 rfl (zI_d rfl) ?_
  refine zn_bipush (pc := 703) X d_M_init_703 rfl (zI_d rfl) ?_
  refine zn_bast (pc := 705) (j := 109) X hc d_M_init_705 rfl (by decide) (by decide +kernel) ?_
  refine zn_dup (pc := 706) X d_M_init_706 ?_
  refine zn_bipush (pc := 707) X d_M_init_707 rfl (zI_d rfl) ?_
  refine zn_bipush (pc := 709) X d_M_init_709 rfl (zI_d rfl) ?_
  refine zn_bast (pc := 711) (j := 110) X hc d_M_init_711 rfl (by decide) (by decide +kernel) ?_
  refine zn_dup (pc := 712) X d_M_init_712 ?_
  refine zn_bipush (pc := 713) X d_M_init_713 rfl (zI_d rfl) ?_
  refine zn_bipush (pc := 715) X d_M_init_715 rfl (zI_d rfl) ?_
  refine zn_bast (pc := 717) (j := 111) X hc d_M_init_717 rfl (by decide) (by decide +kernel) ?_
  refine zn_dup (pc := 718) X d_M_init_718 ?_
  refine zn_bipush (pc := 719) X d_M_init_719 rfl (zI_d rfl) ?_
  refine zn_bipush (pc := 721) X d_M_init_721 rfl (zI_d rfl) ?_
  refine zn_bast (pc := 723) (j := 112) X hc d_M_init_723 rfl (by decide) (by decide +kernel) ?_
  refine zn_dup (pc := 724) X d_M_init_724 ?_
  refine zn_bipush (pc := 725) X d_M_init_725 rfl (zI_d rfl) ?_
  refine zn_bipush (pc := 727) X d_M_init_727 rfl (zI_d rfl) ?_
  exact zn_end (by decide +kernel) (by decide +kernel) rfl rfl kk
theorem k_M_init_6 {d mc ms : Nat} (hd : 1 ≤ d) (hm : mc = 31) (hs : ms = 22904) {Γ : zCx} {n : Nat} {P : List zSh} {μ : zMem} {ad0 : Nat → Nat} (X : zX Γ "DebtDoorsModel" prog_14_method_8_code 1 d) (hc : zHc Γ n P μ mc ms) (hnm : (x_M Γ).name = "<init>") (kk : zH Γ 1 n P ad0 μ 6 18251 R_M_init_7 V_M_init_7 855 [vr 0] [vi 116, vi 133, vr 6, vr 6, vr 0]) : zH Γ 1 n P ad0 μ 6 18251 R_M_init_6 V_M_init_6 729 [vr 0] [vi 32, vi 113, vr 6, vr 6, vr 0] := by
  subst hm
  subst hs
  refine zn_bast (pc := 729) (j := 113) X hc d_M_init_729 rfl (by decide) (by decide +kernel) ?_
  refine zn_dup (pc := 730) X d_M_init_730 ?_
  refine zn_bipush (pc := 731) X d_M_init_731 rfl (zI_d rfl) ?_
  refine zn_bipush (pc := 733) X d_M_init_733 rfl (zI_d rfl) ?_
  refine zn_bast (pc := 735) (j := 114) X hc d_M_init_735 rfl (by decide) (by decide +kernel) ?_
  refine zn_dup (pc := 736) X d_M_init_736 ?_
  refine zn_bipush (pc := 737) X d_M_init_737 rfl (zI_d rfl) ?_
  refine zn_bipush (pc := 739) X d_M_init_739 rfl (zI_d rfl) ?_
  refine zn_bast (pc := 741) (j := 115) X hc d_M_init_741 rfl (by decide) (by decide +kernel) ?_
  refine zn_dup (pc := 742) X d_M_init_742 ?_
  refine zn_bipush (pc := 743) X d_M_init_743 rfl (zI_d rfl) ?_
  refine zn_bipush (pc := 745) X d_M_init_745 rfl (zI_d rfl) ?_
  refine zn_bast (pc := 747) (j := 116) X hc d_M_init_747 rfl (by decide) (by decide +kernel) ?_
  refine zn_dup (pc := 748) X d_M_init_748 ?_
  refine zn_bipush (pc := 749) X d_M_init_749 rfl (zI_d rfl) ?_
  refine zn_bipush (pc := 751) X d_M_init_751 rfl (zI_d rfl) ?_
  refine zn_bast (pc := 753) (j := 117) X hc d_M_init_753 rfl (by decide) (by decide +kernel) ?_
  refine zn_dup (pc := 754) X d_M_init_754 ?_
  refine zn_bipush (pc := 755) X d_M_init_755 rfl (zI_d rfl) ?_
  refine zn_bipush (pc := 757) X d_M_init_757 rfl (zI_d rfl) ?_
  refine zn_bast (pc := 759) (j := 118) X hc d_M_init_759 rfl (by decide) (by decide +kernel) ?_
  refine zn_dup (pc := 760) X d_M_init_760 ?_
  refine zn_bipush (pc := 761) X d_M_init_761 rfl (zI_d rfl) ?_
  refine zn_bipush (pc := 763) X d_M_init_763 rfl (zI_d rfl) ?_
  refine zn_bast (pc := 765) (j := 119) X hc d_M_init_765 rfl (by decide) (by decide +kernel) ?_
  refine zn_dup (pc := 766) X d_M_init_766 ?_
  refine zn_bipush (pc := 767) X d_M_init_767 rfl (zI_d rfl) ?_
  refine zn_bipush (pc := 769) X d_M_init_769 rfl (zI_d rfl) ?_
  refine zn_bast (pc := 771) (j := 120) X hc d_M_init_771 rfl (by decide) (by decide +kernel) ?_
  refine zn_dup (pc := 772) X d_M_init_772 ?_
  refine zn_bipush (pc := 773) X d_M_init_773 rfl (zI_d rfl) ?_
  refine zn_bipush (pc := 775) X d_M_init_775 rfl (zI_d rfl) ?_
  refine zn_bast (pc := 777) (j := 121) X hc d_M_init_777 rfl (by decide) (by decide +kernel) ?_
  refine zn_dup (pc := 778) X d_M_init_778 ?_
  refine zn_bipush (pc := 779) X d_M_init_779 rfl (zI_d rfl) ?_
  refine zn_bipush (pc := 781) X d_M_init_781 rfl (zI_d rfl) ?_
  refine zn_bast (pc := 783) (j := 122) X hc d_M_init_783 rfl (by decide) (by decide +kernel) ?_
  refine zn_dup (pc := 784) X d_M_init_784 ?_
  refine zn_bipush (pc := 785) X d_M_init_785 rfl (zI_d rfl) ?_
  refine zn_bipush (pc := 787) X d_M_init_787 rfl (zI_d rfl) ?_
  refine zn_bast (pc := 789) (j := 123) X hc d_M_init_789 rfl (by decide) (by decide +kernel) ?_
  refine zn_dup (pc := 790) X d_M_init_790 ?_
  refine zn_bipush (pc := 791) X d_M_init_791 rfl (zI_d rfl) ?_
  refine zn_bipush (pc := 793) X d_M_init_793 rfl (zI_d rfl) ?_
  refine zn_bast (pc := 795) (j := 124) X hc d_M_init_795 rfl (by decide) (by decide +kernel) ?_
  refine zn_dup (pc := 796) X d_M_init_796 ?_
  refine zn_bipush (pc := 797) X d_M_init_797 rfl (zI_d rfl) ?_
  refine zn_bipush (pc := 799) X d_M_init_799 rfl (zI_d rfl) ?_
  refine zn_bast (pc := 801) (j := 125) X hc d_M_init_801 rfl (by decide) (by decide +kernel) ?_
  refine zn_dup (pc := 802) X d_M_init_802 ?_
  refine zn_bipush (pc := 803) X d_M_init_803 rfl (zI_d rfl) ?_
  refine zn_bipush (pc := 805) X d_M_init_805 rfl (zI_d rfl) ?_
  refine zn_bast (pc := 807) (j := 126) X hc d_M_init_807 rfl (by decide) (by decide +kernel) ?_
  refine zn_dup (pc := 808) X d_M_init_808 ?_
  refine zn_bipush (pc := 809) X d_M_init_809 rfl (zI_d rfl) ?_
  refine zn_bipush (pc := 811) X d_M_init_811 rfl (zI_d rfl) ?_
  refine zn_bast (pc := 813) (j := 127) X hc d_M_init_813 rfl (by decide) (by decide +kernel) ?_
  refine zn_dup (pc := 814) X d_M_init_814 ?_
  refine zn_sipush (pc := 815) X d_M_init_815 rfl (zI_d rfl) ?_
  refine zn_bipush (pc := 818) X d_M_init_818 rfl (zI_d rfl) ?_
  refine zn_bast (pc := 820) (j := 128) X hc d_M_init_820 rfl (by decide) (by decide +kernel) ?_
  refine zn_dup (pc := 821) X d_M_init_821 ?_
  refine zn_sipush (pc := 822) X d_M_init_822 rfl (zI_d rfl) ?_
  refine zn_bipush (pc := 825) X d_M_init_825 rfl (zI_d rfl) ?_
  refine zn_bast (pc := 827) (j := 129) X hc d_M_init_827 rfl (by decide) (by decide +kernel) ?_
  refine zn_dup (pc := 828) X d_M_init_828 ?_
  refine zn_sipush (pc := 829) X d_M_init_829 rfl (zI_d rfl) ?_
  refine zn_bipush (pc := 832) X d_M_init_832 rfl (zI_d rfl) ?_
  refine zn_bast (pc := 834) (j := 130) X hc d_M_init_834 rfl (by decide) (by decide +kernel) ?_
  refine zn_dup (pc := 835) X d_M_init_835 ?_
  refine zn_sipush (pc := 836) X d_M_init_836 rfl (zI_d rfl) ?_
  refine zn_bipush (pc := 839) X d_M_init_839 rfl (zI_d rfl) ?_
  refine zn_bast (pc := 841) (j := 131) X hc d_M_init_841 rfl (by decide) (by decide +kernel) ?_
  refine zn_dup (pc := 842) X d_M_init_842 ?_
  refine zn_sipush (pc := 843) X d_M_init_843 rfl (zI_d rfl) ?_
  refine zn_bipush (pc := 846) X d_M_init_846 rfl (zI_d rfl) ?_
  refine zn_bast (pc := 848) (j := 132) X hc d_M_init_848 rfl (by decide) (by decide +kernel) ?_
  refine zn_dup (pc := 849) X d_M_init_849 ?_
  refine zn_sipush (pc := 850) X d_M_init_850 rfl (zI_d rfl) ?_
  refine zn_bipush (pc := 853) X d_M_init_853 rfl (zI_d rfl) ?_
  exact zn_end (by decide +kernel) (by decide +kernel) rfl rfl kk
theorem k_M_init_7 {d mc ms : Nat} (hd : 1 ≤ d) (hm : mc = 31) (hs : ms = 22904) {Γ : zCx} {n : Nat} {P : List zSh} {μ : zMem} {ad0 : Nat → Nat} (X : zX Γ "DebtDoorsModel" prog_14_method_8_code 1 d) (hc : zHc Γ n P μ mc ms) (hnm : (x_M Γ).name = "<init>") (kk : zH Γ 1 n P ad0 μ 12 19869 R_M_init_8 V_M_init_8 1003 [vr 0] [vr 12, vr 0]) : zH Γ 1 n P ad0 μ 6 18251 R_M_init_7 V_M_init_7 855 [vr 0] [vi 116, vi 133, vr 6, vr 6, vr 0] := by
  subst hm
  subst hs
  refine zn_bast (pc := 855) (j := 133) X hc d_M_init_855 rfl (by decide) (by decide +kernel) ?_
  refine zn_dup (pc := 856) X d_M_init_856 ?_
  refine zn_sipush (pc := 857) X d_M_init_857 rfl (zI_d rfl) ?_
  refine zn_bipush (pc := 860) X d_M_init_860 rfl (zI_d rfl) ?_
  refine zn_bast (pc := 862) (j := 134) X hc d_M_init_862 rfl (by decide) (by decide +kernel) ?_
  refine zn_dup (pc := 863) X d_M_init_863 ?_
  refine zn_sipush (pc := 864) X d_M_init_864 rfl (zI_d rfl) ?_
  refine zn_bipush (pc := 867) X d_M_init_867 rfl (zI_d rfl) ?_
  refine zn_bast (pc := 869) (j := 135) X hc d_M_init_869 rfl (by decide) (by decide +kernel) ?_
  refine zn_dup (pc := 870) X d_M_init_870 ?_
  refine zn_sipush (pc := 871) X d_M_init_871 rfl (zI_d rfl) ?_
  refine zn_bipush (pc := 874) X d_M_init_874 rfl (zI_d rfl) ?_
  refine zn_bast (pc := 876) (j := 136) X hc d_M_init_876 rfl (by decide) (by decide +kernel) ?_
  refine zn_dup (pc := 877) X d_M_init_877 ?_
  refine zn_sipush (pc := 878) X d_M_init_878 rfl (zI_d rfl) ?_
  refine zn_bipush (pc := 881) X d_M_init_881 rfl (zI_d rfl) ?_
  refine zn_bast (pc := 883) (j := 137) X hc d_M_init_883 rfl (by decide) (by decide +kernel) ?_
  refine zn_dup (pc := 884) X d_M_init_884 ?_
  refine zn_sipush (pc := 885) X d_M_init_885 rfl (zI_d rfl) ?_
  refine zn_bipush (pc := 888) X d_M_init_888 rfl (zI_d rfl) ?_
  refine zn_bast (pc := 890) (j := 138) X hc d_M_init_890 rfl (by decide) (by decide +kernel) ?_
  refine zn_dup (pc := 891) X d_M_init_891 ?_
  refine zn_sipush (pc := 892) X d_M_init_892 rfl (zI_d rfl) ?_
  refine zn_bipush (pc := 895) X d_M_init_895 rfl (zI_d rfl) ?_
  refine zn_bast (pc := 897) (j := 139) X hc d_M_init_897 rfl (by decide) (by decide +kernel) ?_
  refine zn_dup (pc := 898) X d_M_init_898 ?_
  refine zn_sipush (pc := 899) X d_M_init_899 rfl (zI_d rfl) ?_
  refine zn_bipush (pc := 902) X d_M_init_902 rfl (zI_d rfl) ?_
  refine zn_bast (pc := 904) (j := 140) X hc d_M_init_904 rfl (by decide) (by decide +kernel) ?_
  refine zn_dup (pc := 905) X d_M_init_905 ?_
  refine zn_sipush (pc := 906) X d_M_init_906 rfl (zI_d rfl) ?_
  refine zn_bipush (pc := 909) X d_M_init_909 rfl (zI_d rfl) ?_
  refine zn_bast (pc := 911) (j := 141) X hc d_M_init_911 rfl (by decide) (by decide +kernel) ?_
  refine zn_dup (pc := 912) X d_M_init_912 ?_
  refine zn_sipush (pc := 913) X d_M_init_913 rfl (zI_d rfl) ?_
  refine zn_bipush (pc := 916) X d_M_init_916 rfl (zI_d rfl) ?_
  refine zn_bast (pc := 918) (j := 142) X hc d_M_init_918 rfl (by decide) (by decide +kernel) ?_
  refine zn_dup (pc := 919) X d_M_init_919 ?_
  refine zn_sipush (pc := 920) X d_M_init_920 rfl (zI_d rfl) ?_
  refine zn_bipush (pc := 923) X d_M_init_923 rfl (zI_d rfl) ?_
  refine zn_bast (pc := 925) (j := 143) X hc d_M_init_925 rfl (by decide) (by decide +kernel) ?_
  refine zn_dup (pc := 926) X d_M_init_926 ?_
  refine zn_sipush (pc := 927) X d_M_init_927 rfl (zI_d rfl) ?_
  refine zn_bipush (pc := 930) X d_M_init_930 rfl (zI_d rfl) ?_
  refine zn_bast (pc := 932) (j := 144) X hc d_M_init_932 rfl (by decide) (by decide +kernel) ?_
  refine zn_dup (pc := 933) X d_M_init_933 ?_
  refine zn_sipush (pc := 934) X d_M_init_934 rfl (zI_d rfl) ?_
  refine zn_bipush (pc := 937) X d_M_init_937 rfl (zI_d rfl) ?_
  refine zn_bast (pc := 939) (j := 145) X hc d_M_init_939 rfl (by decide) (by decide +kernel) ?_
  refine zn_dup (pc := 940) X d_M_init_940 ?_
  refine zn_sipush (pc := 941) X d_M_init_941 rfl (zI_d rfl) ?_
  refine zn_bipush (pc := 944) X d_M_init_944 rfl (zI_d rfl) ?_
  refine zn_bast (pc := 946) (j := 146) X hc d_M_init_946 rfl (by decide) (by decide +kernel) ?_
  refine zn_putR (pc := 947) X hc hnm fl_M_37 rfl rfl rfl (fun _ => ⟨rfl, rfl⟩) d_M_init_947 (by decide +kernel) ?_
  refine zn_aload0 (pc := 950) X d_M_init_950 ?_
  refine zn_sipush (pc := 951) X d_M_init_951 rfl (zI_d rfl) ?_
  refine zn_newB (pc := 954) (ce := 6) (sl := 18251) (m := 7) (N := 400) X hc d_M_init_954 rfl (by decide +kernel) ?_
  refine zn_putR (pc := 956) X hc hnm fl_M_41 rfl rfl rfl (fun _ => ⟨rfl, rfl⟩) d_M_init_956 (by decide +kernel) ?_
  refine zn_aload0 (pc := 959) X d_M_init_959 ?_
  refine zn_const (pc := 960) X d_M_init_960 (zI_d rfl) ?_
  refine zn_newI (pc := 961) (ce := 7) (sl := 18651) (m := 8) (N := 5) X hc d_M_init_961 rfl (by decide +kernel) ?_
  refine zn_putR (pc := 963) X hc hnm fl_M_44 rfl rfl rfl (fun _ => ⟨rfl, rfl⟩) d_M_init_963 (by decide +kernel) ?_
  refine zn_aload0 (pc := 966) X d_M_init_966 ?_
  refine zn_const (pc := 967) X d_M_init_967 (zI_d rfl) ?_
  refine zn_putI (pc := 968) X hc fl_M_47 fp_12_12 d_M_init_968 (by decide +kernel) ?_
  refine zn_aload0 (pc := 971) X d_M_init_971 ?_
  refine zn_sipush (pc := 972) X d_M_init_972 rfl (zI_d rfl) ?_
  refine zn_newI (pc := 975) (ce := 8) (sl := 18656) (m := 9) (N := 401) X hc d_M_init_975 rfl (by decide +kernel) ?_
  refine zn_putR (pc := 977) X hc hnm fl_M_50 rfl rfl rfl (fun _ => ⟨rfl, rfl⟩) d_M_init_977 (by decide +kernel) ?_
  refine zn_aload0 (pc := 980) X d_M_init_980 ?_
  refine zn_sipush (pc := 981) X d_M_init_981 rfl (zI_d rfl) ?_
  refine zn_newI (pc := 984) (ce := 9) (sl := 19057) (m := 10) (N := 401) X hc d_M_init_984 rfl (by decide +kernel) ?_
  refine zn_putR (pc := 986) X hc hnm fl_M_53 rfl rfl rfl (fun _ => ⟨rfl, rfl⟩) d_M_init_986 (by decide +kernel) ?_
  refine zn_aload0 (pc := 989) X d_M_init_989 ?_
  refine zn_sipush (pc := 990) X d_M_init_990 rfl (zI_d rfl) ?_
  refine zn_newI (pc := 993) (ce := 10) (sl := 19458) (m := 11) (N := 401) X hc d_M_init_993 rfl (by decide +kernel) ?_
  refine zn_putR (pc := 995) X hc hnm fl_M_56 rfl rfl rfl (fun _ => ⟨rfl, rfl⟩) d_M_init_995 (by decide +kernel) ?_
  refine zn_aload0 (pc := 998) X d_M_init_998 ?_
  refine zn_bipush (pc := 999) X d_M_init_999 rfl (zI_d rfl) ?_
  refine zn_newI (pc := 1001) (ce := 11) (sl := 19859) (m := 12) (N := 10) X hc d_M_init_1001 rfl (by decide +kernel) ?_
  exact zn_end (by decide +kernel) (by decide +kernel) rfl rfl kk
theorem k_M_init_8 {d mc ms : Nat} (hd : 1 ≤ d) (hm : mc = 31) (hs : ms = 22904) {Γ : zCx} {n : Nat} {P : List zSh} {μ : zMem} {ad0 : Nat → Nat} (X : zX Γ "DebtDoorsModel" prog_14_method_8_code 1 d) (hc : zHc Γ n P μ mc ms) (hnm : (x_M Γ).name = "<init>") (kk : zH Γ 1 n P ad0 μ 31 22904 R_M_init_9 V_M_init_9 1165 [vr 0] []) : zH Γ 1 n P ad0 μ 12 19869 R_M_init_8 V_M_init_8 1003 [vr 0] [vr 12, vr 0] := by
  subst hm
  subst hs
  refine zn_putR (pc := 1003) X hc hnm fl_M_59 rfl rfl rfl (fun _ => ⟨rfl, rfl⟩) d_M_init_1003 (by decide +kernel) ?_
  refine zn_aload0 (pc := 1006) X d_M_init_1006 ?_
  refine zn_const (pc := 1007) X d_M_init_1007 (zI_d rfl) ?_
  refine zn_newI (pc := 1008) (ce := 12) (sl := 19869) (m := 13) (N := 4) X hc d_M_init_1008 rfl (by decide +kernel) ?_
  refine zn_putR (pc := 1010) X hc hnm fl_M_62 rfl rfl rfl (fun _ => ⟨rfl, rfl⟩) d_M_init_1010 (by decide +kernel) ?_
  refine zn_aload0 (pc := 1013) X d_M_init_1013 ?_
  refine zn_sipush (pc := 1014) X d_M_init_1014 rfl (zI_d rfl) ?_
  refine zn_newI (pc := 1017) (ce := 13) (sl := 19873) (m := 14) (N := 1184) X hc d_M_init_1017 rfl (by decide +kernel) ?_
  refine zn_putR (pc := 1019) X hc hnm fl_M_65 rfl rfl rfl (fun _ => ⟨rfl, rfl⟩) d_M_init_1019 (by decide +kernel) ?_
  refine zn_aload0 (pc := 1022) X d_M_init_1022 ?_
  refine zn_sipush (pc := 1023) X d_M_init_1023 rfl (zI_d rfl) ?_
  refine zn_newI (pc := 1026) (ce := 14) (sl := 21057) (m := 15) (N := 1184) X hc d_M_init_1026 rfl (by decide +kernel) ?_
  refine zn_putR (pc := 1028) X hc hnm fl_M_68 rfl rfl rfl (fun _ => ⟨rfl, rfl⟩) d_M_init_1028 (by decide +kernel) ?_
  refine zn_aload0 (pc := 1031) X d_M_init_1031 ?_
  refine zn_bipush (pc := 1032) X d_M_init_1032 rfl (zI_d rfl) ?_
  refine zn_newI (pc := 1034) (ce := 15) (sl := 22241) (m := 16) (N := 8) X hc d_M_init_1034 rfl (by decide +kernel) ?_
  refine zn_putR (pc := 1036) X hc hnm fl_M_71 rfl rfl rfl (fun _ => ⟨rfl, rfl⟩) d_M_init_1036 (by decide +kernel) ?_
  refine zn_aload0 (pc := 1039) X d_M_init_1039 ?_
  refine zn_bipush (pc := 1040) X d_M_init_1040 rfl (zI_d rfl) ?_
  refine zn_newI (pc := 1042) (ce := 16) (sl := 22249) (m := 17) (N := 8) X hc d_M_init_1042 rfl (by decide +kernel) ?_
  refine zn_putR (pc := 1044) X hc hnm fl_M_74 rfl rfl rfl (fun _ => ⟨rfl, rfl⟩) d_M_init_1044 (by decide +kernel) ?_
  refine zn_aload0 (pc := 1047) X d_M_init_1047 ?_
  refine zn_bipush (pc := 1048) X d_M_init_1048 rfl (zI_d rfl) ?_
  refine zn_newI (pc := 1050) (ce := 17) (sl := 22257) (m := 18) (N := 8) X hc d_M_init_1050 rfl (by decide +kernel) ?_
  refine zn_putR (pc := 1052) X hc hnm fl_M_77 rfl rfl rfl (fun _ => ⟨rfl, rfl⟩) d_M_init_1052 (by decide +kernel) ?_
  refine zn_aload0 (pc := 1055) X d_M_init_1055 ?_
  refine zn_bipush (pc := 1056) X d_M_init_1056 rfl (zI_d rfl) ?_
  refine zn_newI (pc := 1058) (ce := 18) (sl := 22265) (m := 19) (N := 8) X hc d_M_init_1058 rfl (by decide +kernel) ?_
  refine zn_putR (pc := 1060) X hc hnm fl_M_80 rfl rfl rfl (fun _ => ⟨rfl, rfl⟩) d_M_init_1060 (by decide +kernel) ?_
  refine zn_aload0 (pc := 1063) X d_M_init_1063 ?_
  refine zn_sipush (pc := 1064) X d_M_init_1064 rfl (zI_d rfl) ?_
  refine zn_newI (pc := 1067) (ce := 19) (sl := 22273) (m := 20) (N := 256) X hc d_M_init_1067 rfl (by decide +kernel) ?_
  refine zn_putR (pc := 1069) X hc hnm fl_M_83 rfl rfl rfl (fun _ => ⟨rfl, rfl⟩) d_M_init_1069 (by decide +kernel) ?_
  refine zn_aload0 (pc := 1072) X d_M_init_1072 ?_
  refine zn_bipush (pc := 1073) X d_M_init_1073 rfl (zI_d rfl) ?_
  refine zn_newI (pc := 1075) (ce := 20) (sl := 22529) (m := 21) (N := 8) X hc d_M_init_1075 rfl (by decide +kernel) ?_
  refine zn_putR (pc := 1077) X hc hnm fl_M_86 rfl rfl rfl (fun _ => ⟨rfl, rfl⟩) d_M_init_1077 (by decide +kernel) ?_
  refine zn_aload0 (pc := 1080) X d_M_init_1080 ?_
  refine zn_bipush (pc := 1081) X d_M_init_1081 rfl (zI_d rfl) ?_
  refine zn_newI (pc := 1083) (ce := 21) (sl := 22537) (m := 22) (N := 8) X hc d_M_init_1083 rfl (by decide +kernel) ?_
  refine zn_putR (pc := 1085) X hc hnm fl_M_89 rfl rfl rfl (fun _ => ⟨rfl, rfl⟩) d_M_init_1085 (by decide +kernel) ?_
  refine zn_aload0 (pc := 1088) X d_M_init_1088 ?_
  refine zn_bipush (pc := 1089) X d_M_init_1089 rfl (zI_d rfl) ?_
  refine zn_newI (pc := 1091) (ce := 22) (sl := 22545) (m := 23) (N := 16) X hc d_M_init_1091 rfl (by decide +kernel) ?_
  refine zn_putR (pc := 1093) X hc hnm fl_M_92 rfl rfl rfl (fun _ => ⟨rfl, rfl⟩) d_M_init_1093 (by decide +kernel) ?_
  refine zn_aload0 (pc := 1096) X d_M_init_1096 ?_
  refine zn_bipush (pc := 1097) X d_M_init_1097 rfl (zI_d rfl) ?_
  refine zn_newI (pc := 1099) (ce := 23) (sl := 22561) (m := 24) (N := 7) X hc d_M_init_1099 rfl (by decide +kernel) ?_
  refine zn_putR (pc := 1101) X hc hnm fl_M_95 rfl rfl rfl (fun _ => ⟨rfl, rfl⟩) d_M_init_1101 (by decide +kernel) ?_
  refine zn_aload0 (pc := 1104) X d_M_init_1104 ?_
  refine zn_bipush (pc := 1105) X d_M_init_1105 rfl (zI_d rfl) ?_
  refine zn_newI (pc := 1107) (ce := 24) (sl := 22568) (m := 25) (N := 7) X hc d_M_init_1107 rfl (by decide +kernel) ?_
  refine zn_putR (pc := 1109) X hc hnm fl_M_98 rfl rfl rfl (fun _ => ⟨rfl, rfl⟩) d_M_init_1109 (by decide +kernel) ?_
  refine zn_aload0 (pc := 1112) X d_M_init_1112 ?_
  refine zn_bipush (pc := 1113) X d_M_init_1113 rfl (zI_d rfl) ?_
  refine zn_newI (pc := 1115) (ce := 25) (sl := 22575) (m := 26) (N := 49) X hc d_M_init_1115 rfl (by decide +kernel) ?_
  refine zn_putR (pc := 1117) X hc hnm fl_M_101 rfl rfl rfl (fun _ => ⟨rfl, rfl⟩) d_M_init_1117 (by decide +kernel) ?_
  refine zn_aload0 (pc := 1120) X d_M_init_1120 ?_
  refine zn_sipush (pc := 1121) X d_M_init_1121 rfl (zI_d rfl) ?_
  refine zn_newI (pc := 1124) (ce := 26) (sl := 22624) (m := 27) (N := 256) X hc d_M_init_1124 rfl (by decide +kernel) ?_
  refine zn_putR (pc := 1126) X hc hnm fl_M_104 rfl rfl rfl (fun _ => ⟨rfl, rfl⟩) d_M_init_1126 (by decide +kernel) ?_
  refine zn_aload0 (pc := 1129) X d_M_init_1129 ?_
  refine zn_const (pc := 1130) X d_M_init_1130 (zI_d rfl) ?_
  refine zn_putI (pc := 1131) X hc fl_M_107 fp_12_47 d_M_init_1131 (by decide +kernel) ?_
  refine zn_aload0 (pc := 1134) X d_M_init_1134 ?_
  refine zn_const (pc := 1135) X d_M_init_1135 (zI_d rfl) ?_
  refine zn_newL (pc := 1136) (ce := 27) (sl := 22880) (m := 28) (N := 3) X hc d_M_init_1136 rfl (by decide +kernel) ?_
  refine zn_putR (pc := 1138) X hc hnm fl_M_110 rfl rfl rfl (fun _ => ⟨rfl, rfl⟩) d_M_init_1138 (by decide +kernel) ?_
  refine zn_aload0 (pc := 1141) X d_M_init_1141 ?_
  refine zn_bipush (pc := 1142) X d_M_init_1142 rfl (zI_d rfl) ?_
  refine zn_newI (pc := 1144) (ce := 28) (sl := 22883) (m := 29) (N := 7) X hc d_M_init_1144 rfl (by decide +kernel) ?_
  refine zn_putR (pc := 1146) X hc hnm fl_M_114 rfl rfl rfl (fun _ => ⟨rfl, rfl⟩) d_M_init_1146 (by decide +kernel) ?_
  refine zn_aload0 (pc := 1149) X d_M_init_1149 ?_
  refine zn_bipush (pc := 1150) X d_M_init_1150 rfl (zI_d rfl) ?_
  refine zn_newI (pc := 1152) (ce := 29) (sl := 22890) (m := 30) (N := 7) X hc d_M_init_1152 rfl (by decide +kernel) ?_
  refine zn_putR (pc := 1154) X hc hnm fl_M_117 rfl rfl rfl (fun _ => ⟨rfl, rfl⟩) d_M_init_1154 (by decide +kernel) ?_
  refine zn_aload0 (pc := 1157) X d_M_init_1157 ?_
  refine zn_bipush (pc := 1158) X d_M_init_1158 rfl (zI_d rfl) ?_
  refine zn_newI (pc := 1160) (ce := 30) (sl := 22897) (m := 31) (N := 7) X hc d_M_init_1160 rfl (by decide +kernel) ?_
  refine zn_putR (pc := 1162) X hc hnm fl_M_120 rfl rfl rfl (fun _ => ⟨rfl, rfl⟩) d_M_init_1162 (by decide +kernel) ?_
  exact zn_end (by decide +kernel) (by decide +kernel) rfl rfl kk
theorem k_M_init {d : Nat} (hd : 1 ≤ d) : zMk d 31 22904 y_M_init 12 [.inl 0, .inr none, .inr none, .inr none, .inr none, .inr none, .inl 0, .inr none, .inl 1, .inr none, .inr none, .inl 0, .inl 0, .inr none, .inr none, .inr none, .inl 0, .inl 0, .inl 0, .inl 0, .inl 0, .inl 0, .inl 1, .inl 1, .inr none, .inr none, .inr none, .inr none, .inl 0, .inr none, .inr none, .inr none, .inr none, .inr none, .inl 0, .inr none, .inr none, .inl 0, .inl 0, .inl 0, .inr none, .inr none, .inr none, .inl 0, .inl 0, .inr none, .inr none, .inl 0, .inl 0, .inl 0, .inl 0, .inl 0, .inl 0, .inl 1, .inl 1, .inr none, .inr none, .inr none, .inr none, .inl 0, .inl 0] R_M_init V_M_init := by
  refine zMk.of (k := 0) (by decide +kernel) ⟨by decide +kernel, rfl, rfl⟩ rfl (by decide) (fun Γ n P μ ad0 X hc hnm ret => ?_)
  have X : zX Γ "DebtDoorsModel" prog_14_method_8_code 1 d := X
  refine k_M_init_0 hd rfl rfl X hc hnm ?_
  refine k_M_init_1 hd rfl rfl X hc hnm ?_
  refine k_M_init_2 hd rfl rfl X hc hnm ?_
  refine k_M_init_3 hd rfl rfl X hc hnm ?_
  refine k_M_init_4 hd rfl rfl X hc hnm ?_
  refine k_M_init_5 hd rfl rfl X hc hnm ?_
  refine k_M_init_6 hd rfl rfl X hc hnm ?_
  refine k_M_init_7 hd rfl rfl X hc hnm ?_
  refine k_M_init_8 hd rfl rfl X hc hnm ?_
  refine zn_aload0 (pc := 1165) X d_M_init_1165 ?_
  refine zn_getR (pc := 1166) (m := 2) X hc fl_M_24 d_M_init_1166 (by decide +kernel) ?_
  refine zn_sipush (pc := 1169) X d_M_init_1169 rfl (zI_d rfl) ?_
  refine zn_const (pc := 1172) X d_M_init_1172 (zI_d rfl) ?_
  refine zn_iast (pc := 1173) (j := 156) X hc d_M_init_1173 rfl (by decide +kernel) ?_
  exact zn_end (by decide +kernel) (by decide +kernel) rfl rfl (ret d_M_init_1174)

