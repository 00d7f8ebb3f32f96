theorem dX12_init_0 : decode cX12_init 0 = .ok (.aload_n 0, 1) := by decide +kernel
theorem dX12_init_1 : decode cX12_init 1 = .ok (.invokespecial 1, 3) := by decide +kernel
theorem dX12_init_4 : decode cX12_init 4 = .ok (.aload_n 0, 1) := by decide +kernel
theorem dX12_init_5 : decode cX12_init 5 = .ok (.sipush 267, 3) := by decide +kernel
theorem dX12_init_8 : decode cX12_init 8 = .ok (.newarray .int, 2) := by decide +kernel
theorem dX12_init_10 : decode cX12_init 10 = .ok (.putfield 7, 3) := by decide +kernel
theorem dX12_init_13 : decode cX12_init 13 = .ok (.aload_n 0, 1) := by decide +kernel
theorem dX12_init_14 : decode cX12_init 14 = .ok (.sipush 267, 3) := by decide +kernel
theorem dX12_init_17 : decode cX12_init 17 = .ok (.newarray .int, 2) := by decide +kernel
theorem dX12_init_19 : decode cX12_init 19 = .ok (.putfield 13, 3) := by decide +kernel
theorem dX12_init_22 : decode cX12_init 22 = .ok (.aload_n 0, 1) := by decide +kernel
theorem dX12_init_23 : decode cX12_init 23 = .ok (.sipush 267, 3) := by decide +kernel
theorem dX12_init_26 : decode cX12_init 26 = .ok (.newarray .int, 2) := by decide +kernel
theorem dX12_init_28 : decode cX12_init 28 = .ok (.putfield 16, 3) := by decide +kernel
theorem dX12_init_31 : decode cX12_init 31 = .ok (.aload_n 0, 1) := by decide +kernel
theorem dX12_init_32 : decode cX12_init 32 = .ok (.sipush 267, 3) := by decide +kernel
theorem dX12_init_35 : decode cX12_init 35 = .ok (.newarray .int, 2) := by decide +kernel
theorem dX12_init_37 : decode cX12_init 37 = .ok (.putfield 19, 3) := by decide +kernel
theorem dX12_init_40 : decode cX12_init 40 = .ok (.aload_n 0, 1) := by decide +kernel
theorem dX12_init_41 : decode cX12_init 41 = .ok (.bipush 6, 2) := by decide +kernel
theorem dX12_init_43 : decode cX12_init 43 = .ok (.newarray .int, 2) := by decide +kernel
theorem dX12_init_45 : decode cX12_init 45 = .ok (.putfield 22, 3) := by decide +kernel
theorem dX12_init_48 : decode cX12_init 48 = .ok (.aload_n 0, 1) := by decide +kernel
theorem dX12_init_49 : decode cX12_init 49 = .ok (.bipush 36, 2) := by decide +kernel
theorem dX12_init_51 : decode cX12_init 51 = .ok (.newarray .int, 2) := by decide +kernel
theorem dX12_init_53 : decode cX12_init 53 = .ok (.putfield 25, 3) := by decide +kernel
theorem dX12_init_56 : decode cX12_init 56 = .ok (.aload_n 0, 1) := by decide +kernel
theorem dX12_init_57 : decode cX12_init 57 = .ok (.sipush 3600, 3) := by decide +kernel
theorem dX12_init_60 : decode cX12_init 60 = .ok (.newarray .int, 2) := by decide +kernel
theorem dX12_init_62 : decode cX12_init 62 = .ok (.putfield 28, 3) := by decide +kernel
theorem dX12_init_65 : decode cX12_init 65 = .ok (.aload_n 0, 1) := by decide +kernel
theorem dX12_init_66 : decode cX12_init 66 = .ok (.iconst 4, 1) := by decide +kernel
theorem dX12_init_67 : decode cX12_init 67 = .ok (.newarray .int, 2) := by decide +kernel
theorem dX12_init_69 : decode cX12_init 69 = .ok (.putfield 31, 3) := by decide +kernel
theorem dX12_init_72 : decode cX12_init 72 = .ok (.aload_n 0, 1) := by decide +kernel
theorem dX12_init_73 : decode cX12_init 73 = .ok (.iconst 4, 1) := by decide +kernel
theorem dX12_init_74 : decode cX12_init 74 = .ok (.newarray .int, 2) := by decide +kernel
theorem dX12_init_76 : decode cX12_init 76 = .ok (.putfield 34, 3) := by decide +kernel
theorem dX12_init_79 : decode cX12_init 79 = .ok (.aload_n 0, 1) := by decide +kernel
theorem dX12_init_80 : decode cX12_init 80 = .ok (.sipush 160, 3) := by decide +kernel
theorem dX12_init_83 : decode cX12_init 83 = .ok (.newarray .int, 2) := by decide +kernel
theorem dX12_init_85 : decode cX12_init 85 = .ok (.putfield 37, 3) := by decide +kernel
theorem dX12_init_88 : decode cX12_init 88 = .ok (.aload_n 0, 1) := by decide +kernel
theorem dX12_init_89 : decode cX12_init 89 = .ok (.bipush 40, 2) := by decide +kernel
theorem dX12_init_91 : decode cX12_init 91 = .ok (.newarray .int, 2) := by decide +kernel
theorem dX12_init_93 : decode cX12_init 93 = .ok (.putfield 40, 3) := by decide +kernel
theorem dX12_init_96 : decode cX12_init 96 = .ok (.aload_n 0, 1) := by decide +kernel
theorem dX12_init_97 : decode cX12_init 97 = .ok (.bipush 6, 2) := by decide +kernel
theorem dX12_init_99 : decode cX12_init 99 = .ok (.newarray .int, 2) := by decide +kernel
theorem dX12_init_101 : decode cX12_init 101 = .ok (.putfield 43, 3) := by decide +kernel
theorem dX12_init_104 : decode cX12_init 104 = .ok (.aload_n 0, 1) := by decide +kernel
theorem dX12_init_105 : decode cX12_init 105 = .ok (.bipush 6, 2) := by decide +kernel
theorem dX12_init_107 : decode cX12_init 107 = .ok (.newarray .int, 2) := by decide +kernel
theorem dX12_init_109 : decode cX12_init 109 = .ok (.putfield 46, 3) := by decide +kernel
theorem dX12_init_112 : decode cX12_init 112 = .ok (.aload_n 0, 1) := by decide +kernel
theorem dX12_init_113 : decode cX12_init 113 = .ok (.bipush 40, 2) := by decide +kernel
theorem dX12_init_115 : decode cX12_init 115 = .ok (.newarray .int, 2) := by decide +kernel
theorem dX12_init_117 : decode cX12_init 117 = .ok (.putfield 49, 3) := by decide +kernel
theorem dX12_init_120 : decode cX12_init 120 = .ok (.aload_n 0, 1) := by decide +kernel
theorem dX12_init_121 : decode cX12_init 121 = .ok (.getfield 7, 3) := by decide +kernel
theorem dX12_init_124 : decode cX12_init 124 = .ok (.bipush 7, 2) := by decide +kernel
theorem dX12_init_126 : decode cX12_init 126 = .ok (.iconst 1, 1) := by decide +kernel
theorem dX12_init_127 : decode cX12_init 127 = .ok (.iastore, 1) := by decide +kernel
theorem dX12_init_128 : decode cX12_init 128 = .ok (.aload_n 0, 1) := by decide +kernel
theorem dX12_init_129 : decode cX12_init 129 = .ok (.getfield 7, 3) := by decide +kernel
theorem dX12_init_132 : decode cX12_init 132 = .ok (.bipush 11, 2) := by decide +kernel
theorem dX12_init_134 : decode cX12_init 134 = .ok (.iconst (-1), 1) := by decide +kernel
theorem dX12_init_135 : decode cX12_init 135 = .ok (.iastore, 1) := by decide +kernel
theorem dX12_init_136 : decode cX12_init 136 = .ok (.aload_n 0, 1) := by decide +kernel
theorem dX12_init_137 : decode cX12_init 137 = .ok (.getfield 7, 3) := by decide +kernel
theorem dX12_init_140 : decode cX12_init 140 = .ok (.bipush 12, 2) := by decide +kernel
theorem dX12_init_142 : decode cX12_init 142 = .ok (.iconst (-1), 1) := by decide +kernel
theorem dX12_init_143 : decode cX12_init 143 = .ok (.iastore, 1) := by decide +kernel
theorem dX12_init_144 : decode cX12_init 144 = .ok (.aload_n 0, 1) := by decide +kernel
theorem dX12_init_145 : decode cX12_init 145 = .ok (.getfield 7, 3) := by decide +kernel
theorem dX12_init_148 : decode cX12_init 148 = .ok (.iconst 3, 1) := by decide +kernel
theorem dX12_init_149 : decode cX12_init 149 = .ok (.iconst 3, 1) := by decide +kernel
theorem dX12_init_150 : decode cX12_init 150 = .ok (.iastore, 1) := by decide +kernel
theorem dX12_init_151 : decode cX12_init 151 = .ok (.aload_n 0, 1) := by decide +kernel
theorem dX12_init_152 : decode cX12_init 152 = .ok (.getfield 7, 3) := by decide +kernel
theorem dX12_init_155 : decode cX12_init 155 = .ok (.iconst 4, 1) := by decide +kernel
theorem dX12_init_156 : decode cX12_init 156 = .ok (.bipush 20, 2) := by decide +kernel
theorem dX12_init_158 : decode cX12_init 158 = .ok (.iastore, 1) := by decide +kernel
theorem dX12_init_159 : decode cX12_init 159 = .ok (.aload_n 0, 1) := by decide +kernel
theorem dX12_init_160 : decode cX12_init 160 = .ok (.getfield 7, 3) := by decide +kernel
theorem dX12_init_163 : decode cX12_init 163 = .ok (.bipush 6, 2) := by decide +kernel
theorem dX12_init_165 : decode cX12_init 165 = .ok (.bipush 20, 2) := by decide +kernel
theorem dX12_init_167 : decode cX12_init 167 = .ok (.iastore, 1) := by decide +kernel
theorem dX12_init_168 : decode cX12_init 168 = .ok (.aload_n 0, 1) := by decide +kernel
theorem dX12_init_169 : decode cX12_init 169 = .ok (.iconst 4, 1) := by decide +kernel
theorem dX12_init_170 : decode cX12_init 170 = .ok (.iconst 4, 1) := by decide +kernel
theorem dX12_init_171 : decode cX12_init 171 = .ok (.invokevirtual 52, 3) := by decide +kernel
theorem dX12_init_174 : decode cX12_init 174 = .ok (.return_, 1) := by decide +kernel
theorem dX12_in_0 : decode cX12_in 0 = .ok (.iload_n 0, 1) := by decide +kernel
theorem dX12_in_1 : decode cX12_in 1 = .ok (.iload_n 1, 1) := by decide +kernel
theorem dX12_in_2 : decode cX12_in 2 = .ok (.if_icmp .lt 12, 3) := by decide +kernel
theorem dX12_in_5 : decode cX12_in 5 = .ok (.iload_n 0, 1) := by decide +kernel
theorem dX12_in_6 : decode cX12_in 6 = .ok (.iload_n 2, 1) := by decide +kernel
theorem dX12_in_7 : decode cX12_in 7 = .ok (.if_icmp .gt 7, 3) := by decide +kernel
theorem dX12_in_10 : decode cX12_in 10 = .ok (.iconst 1, 1) := by decide +kernel
theorem dX12_in_11 : decode cX12_in 11 = .ok (.goto 4, 3) := by decide +kernel
theorem dX12_in_14 : decode cX12_in 14 = .ok (.iconst 0, 1) := by decide +kernel
theorem dX12_in_15 : decode cX12_in 15 = .ok (.ireturn, 1) := by decide +kernel
theorem dX12_errs_0 : decode cX12_errs 0 = .ok (.aload_n 0, 1) := by decide +kernel
theorem dX12_errs_1 : decode cX12_errs 1 = .ok (.getfield 22, 3) := by decide +kernel
theorem dX12_errs_4 : decode cX12_errs 4 = .ok (.ldc 56, 2) := by decide +kernel
theorem dX12_errs_6 : decode cX12_errs 6 = .ok (.iload_n 1, 1) := by decide +kernel
theorem dX12_errs_7 : decode cX12_errs 7 = .ok (.isub, 1) := by decide +kernel
theorem dX12_errs_8 : decode cX12_errs 8 = .ok (.dup2, 1) := by decide +kernel
theorem dX12_errs_9 : decode cX12_errs 9 = .ok (.iaload, 1) := by decide +kernel
theorem dX12_errs_10 : decode cX12_errs 10 = .ok (.iconst 1, 1) := by decide +kernel
theorem dX12_errs_11 : decode cX12_errs 11 = .ok (.iadd, 1) := by decide +kernel
theorem dX12_errs_12 : decode cX12_errs 12 = .ok (.iastore, 1) := by decide +kernel
theorem dX12_errs_13 : decode cX12_errs 13 = .ok (.iload_n 1, 1) := by decide +kernel
theorem dX12_errs_14 : decode cX12_errs 14 = .ok (.ireturn, 1) := by decide +kernel
theorem dX12_held_0 : decode cX12_held 0 = .ok (.iload_n 0, 1) := by decide +kernel
theorem dX12_held_1 : decode cX12_held 1 = .ok (.iload_n 1, 1) := by decide +kernel
theorem dX12_held_2 : decode cX12_held 2 = .ok (.if_icmp .ge 7, 3) := by decide +kernel
theorem dX12_held_5 : decode cX12_held 5 = .ok (.iload_n 1, 1) := by decide +kernel
theorem dX12_held_6 : decode cX12_held 6 = .ok (.goto 13, 3) := by decide +kernel
theorem dX12_held_9 : decode cX12_held 9 = .ok (.iload_n 0, 1) := by decide +kernel
theorem dX12_held_10 : decode cX12_held 10 = .ok (.iload_n 2, 1) := by decide +kernel
theorem dX12_held_11 : decode cX12_held 11 = .ok (.if_icmp .le 7, 3) := by decide +kernel
theorem dX12_held_14 : decode cX12_held 14 = .ok (.iload_n 2, 1) := by decide +kernel
theorem dX12_held_15 : decode cX12_held 15 = .ok (.goto 4, 3) := by decide +kernel
theorem dX12_held_18 : decode cX12_held 18 = .ok (.iload_n 0, 1) := by decide +kernel
theorem dX12_held_19 : decode cX12_held 19 = .ok (.ireturn, 1) := by decide +kernel
theorem dX12_moveAll_0 : decode cX12_moveAll 0 = .ok (.iconst 0, 1) := by decide +kernel
theorem dX12_moveAll_1 : decode cX12_moveAll 1 = .ok (.istore_n 3, 1) := by decide +kernel
theorem dX12_moveAll_2 : decode cX12_moveAll 2 = .ok (.iload_n 3, 1) := by decide +kernel
theorem dX12_moveAll_3 : decode cX12_moveAll 3 = .ok (.sipush 267, 3) := by decide +kernel
theorem dX12_moveAll_6 : decode cX12_moveAll 6 = .ok (.if_icmp .ge 15, 3) := by decide +kernel
theorem dX12_moveAll_9 : decode cX12_moveAll 9 = .ok (.aload_n 2, 1) := by decide +kernel
theorem dX12_moveAll_10 : decode cX12_moveAll 10 = .ok (.iload_n 3, 1) := by decide +kernel
theorem dX12_moveAll_11 : decode cX12_moveAll 11 = .ok (.aload_n 1, 1) := by decide +kernel
theorem dX12_moveAll_12 : decode cX12_moveAll 12 = .ok (.iload_n 3, 1) := by decide +kernel
theorem dX12_moveAll_13 : decode cX12_moveAll 13 = .ok (.iaload, 1) := by decide +kernel
theorem dX12_moveAll_14 : decode cX12_moveAll 14 = .ok (.iastore, 1) := by decide +kernel
theorem dX12_moveAll_15 : decode cX12_moveAll 15 = .ok (.iinc 3 1, 3) := by decide +kernel
theorem dX12_moveAll_18 : decode cX12_moveAll 18 = .ok (.goto (-16), 3) := by decide +kernel
theorem dX12_moveAll_21 : decode cX12_moveAll 21 = .ok (.return_, 1) := by decide +kernel
theorem dX12_bare_0 : decode cX12_bare 0 = .ok (.aload_n 0, 1) := by decide +kernel
theorem dX12_bare_1 : decode cX12_bare 1 = .ok (.getfield 7, 3) := by decide +kernel
theorem dX12_bare_4 : decode cX12_bare 4 = .ok (.iconst 0, 1) := by decide +kernel
theorem dX12_bare_5 : decode cX12_bare 5 = .ok (.iload_n 1, 1) := by decide +kernel
theorem dX12_bare_6 : decode cX12_bare 6 = .ok (.iastore, 1) := by decide +kernel
theorem dX12_bare_7 : decode cX12_bare 7 = .ok (.aload_n 0, 1) := by decide +kernel
theorem dX12_bare_8 : decode cX12_bare 8 = .ok (.getfield 7, 3) := by decide +kernel
theorem dX12_bare_11 : decode cX12_bare 11 = .ok (.iconst 1, 1) := by decide +kernel
theorem dX12_bare_12 : decode cX12_bare 12 = .ok (.iload_n 2, 1) := by decide +kernel
theorem dX12_bare_13 : decode cX12_bare 13 = .ok (.iastore, 1) := by decide +kernel
theorem dX12_bare_14 : decode cX12_bare 14 = .ok (.iconst 0, 1) := by decide +kernel
theorem dX12_bare_15 : decode cX12_bare 15 = .ok (.istore_n 3, 1) := by decide +kernel
theorem dX12_bare_16 : decode cX12_bare 16 = .ok (.iload_n 3, 1) := by decide +kernel
theorem dX12_bare_17 : decode cX12_bare 17 = .ok (.bipush 36, 2) := by decide +kernel
theorem dX12_bare_19 : decode cX12_bare 19 = .ok (.if_icmp .ge 35, 3) := by decide +kernel
theorem dX12_bare_22 : decode cX12_bare 22 = .ok (.aload_n 0, 1) := by decide +kernel
theorem dX12_bare_23 : decode cX12_bare 23 = .ok (.getfield 7, 3) := by decide +kernel
theorem dX12_bare_26 : decode cX12_bare 26 = .ok (.bipush 25, 2) := by decide +kernel
theorem dX12_bare_28 : decode cX12_bare 28 = .ok (.iconst 2, 1) := by decide +kernel
theorem dX12_bare_29 : decode cX12_bare 29 = .ok (.iload_n 3, 1) := by decide +kernel
theorem dX12_bare_30 : decode cX12_bare 30 = .ok (.imul, 1) := by decide +kernel
theorem dX12_bare_31 : decode cX12_bare 31 = .ok (.iadd, 1) := by decide +kernel
theorem dX12_bare_32 : decode cX12_bare 32 = .ok (.iconst (-1), 1) := by decide +kernel
theorem dX12_bare_33 : decode cX12_bare 33 = .ok (.iastore, 1) := by decide +kernel
theorem dX12_bare_34 : decode cX12_bare 34 = .ok (.aload_n 0, 1) := by decide +kernel
theorem dX12_bare_35 : decode cX12_bare 35 = .ok (.getfield 7, 3) := by decide +kernel
theorem dX12_bare_38 : decode cX12_bare 38 = .ok (.bipush 25, 2) := by decide +kernel
theorem dX12_bare_40 : decode cX12_bare 40 = .ok (.iconst 2, 1) := by decide +kernel
theorem dX12_bare_41 : decode cX12_bare 41 = .ok (.iload_n 3, 1) := by decide +kernel
theorem dX12_bare_42 : decode cX12_bare 42 = .ok (.imul, 1) := by decide +kernel
theorem dX12_bare_43 : decode cX12_bare 43 = .ok (.iadd, 1) := by decide +kernel
theorem dX12_bare_44 : decode cX12_bare 44 = .ok (.iconst 1, 1) := by decide +kernel
theorem dX12_bare_45 : decode cX12_bare 45 = .ok (.iadd, 1) := by decide +kernel
theorem dX12_bare_46 : decode cX12_bare 46 = .ok (.iconst 0, 1) := by decide +kernel
theorem dX12_bare_47 : decode cX12_bare 47 = .ok (.iastore, 1) := by decide +kernel
theorem dX12_bare_48 : decode cX12_bare 48 = .ok (.iinc 3 1, 3) := by decide +kernel
theorem dX12_bare_51 : decode cX12_bare 51 = .ok (.goto (-35), 3) := by decide +kernel
theorem dX12_bare_54 : decode cX12_bare 54 = .ok (.return_, 1) := by decide +kernel
theorem dX12_cells_0 : decode cX12_cells 0 = .ok (.aload_n 0, 1) := by decide +kernel
theorem dX12_cells_1 : decode cX12_cells 1 = .ok (.getfield 7, 3) := by decide +kernel
theorem dX12_cells_4 : decode cX12_cells 4 = .ok (.iconst 0, 1) := by decide +kernel
theorem dX12_cells_5 : decode cX12_cells 5 = .ok (.iaload, 1) := by decide +kernel
theorem dX12_cells_6 : decode cX12_cells 6 = .ok (.aload_n 0, 1) := by decide +kernel
theorem dX12_cells_7 : decode cX12_cells 7 = .ok (.getfield 7, 3) := by decide +kernel
theorem dX12_cells_10 : decode cX12_cells 10 = .ok (.iconst 1, 1) := by decide +kernel
theorem dX12_cells_11 : decode cX12_cells 11 = .ok (.iaload, 1) := by decide +kernel
theorem dX12_cells_12 : decode cX12_cells 12 = .ok (.imul, 1) := by decide +kernel
theorem dX12_cells_13 : decode cX12_cells 13 = .ok (.ireturn, 1) := by decide +kernel
theorem dX12_whenOf_0 : decode cX12_whenOf 0 = .ok (.aload_n 0, 1) := by decide +kernel
theorem dX12_whenOf_1 : decode cX12_whenOf 1 = .ok (.getfield 7, 3) := by decide +kernel
theorem dX12_whenOf_4 : decode cX12_whenOf 4 = .ok (.bipush 25, 2) := by decide +kernel
theorem dX12_whenOf_6 : decode cX12_whenOf 6 = .ok (.iconst 2, 1) := by decide +kernel
theorem dX12_whenOf_7 : decode cX12_whenOf 7 = .ok (.iload_n 1, 1) := by decide +kernel
theorem dX12_whenOf_8 : decode cX12_whenOf 8 = .ok (.imul, 1) := by decide +kernel
theorem dX12_whenOf_9 : decode cX12_whenOf 9 = .ok (.iadd, 1) := by decide +kernel
theorem dX12_whenOf_10 : decode cX12_whenOf 10 = .ok (.iaload, 1) := by decide +kernel
theorem dX12_whenOf_11 : decode cX12_whenOf 11 = .ok (.ireturn, 1) := by decide +kernel
theorem dX12_whiteOf_0 : decode cX12_whiteOf 0 = .ok (.aload_n 0, 1) := by decide +kernel
theorem dX12_whiteOf_1 : decode cX12_whiteOf 1 = .ok (.getfield 7, 3) := by decide +kernel
theorem dX12_whiteOf_4 : decode cX12_whiteOf 4 = .ok (.bipush 25, 2) := by decide +kernel
theorem dX12_whiteOf_6 : decode cX12_whiteOf 6 = .ok (.iconst 2, 1) := by decide +kernel
theorem dX12_whiteOf_7 : decode cX12_whiteOf 7 = .ok (.iload_n 1, 1) := by decide +kernel
theorem dX12_whiteOf_8 : decode cX12_whiteOf 8 = .ok (.imul, 1) := by decide +kernel
theorem dX12_whiteOf_9 : decode cX12_whiteOf 9 = .ok (.iadd, 1) := by decide +kernel
theorem dX12_whiteOf_10 : decode cX12_whiteOf 10 = .ok (.iconst 1, 1) := by decide +kernel
theorem dX12_whiteOf_11 : decode cX12_whiteOf 11 = .ok (.iadd, 1) := by decide +kernel
theorem dX12_whiteOf_12 : decode cX12_whiteOf 12 = .ok (.iaload, 1) := by decide +kernel
theorem dX12_whiteOf_13 : decode cX12_whiteOf 13 = .ok (.ireturn, 1) := by decide +kernel
theorem dX12_ceiling_0 : decode cX12_ceiling 0 = .ok (.iload_n 1, 1) := by decide +kernel
theorem dX12_ceiling_1 : decode cX12_ceiling 1 = .ok (.iconst 1, 1) := by decide +kernel
theorem dX12_ceiling_2 : decode cX12_ceiling 2 = .ok (.bipush 6, 2) := by decide +kernel
theorem dX12_ceiling_4 : decode cX12_ceiling 4 = .ok (.invokestatic 57, 3) := by decide +kernel
theorem dX12_ceiling_7 : decode cX12_ceiling 7 = .ok (.ifCond .eq 13, 3) := by decide +kernel
theorem dX12_ceiling_10 : decode cX12_ceiling 10 = .ok (.iload_n 2, 1) := by decide +kernel
theorem dX12_ceiling_11 : decode cX12_ceiling 11 = .ok (.iconst 1, 1) := by decide +kernel
theorem dX12_ceiling_12 : decode cX12_ceiling 12 = .ok (.bipush 6, 2) := by decide +kernel
theorem dX12_ceiling_14 : decode cX12_ceiling 14 = .ok (.invokestatic 57, 3) := by decide +kernel
theorem dX12_ceiling_17 : decode cX12_ceiling 17 = .ok (.ifCond .ne 10, 3) := by decide +kernel
theorem dX12_ceiling_20 : decode cX12_ceiling 20 = .ok (.aload_n 0, 1) := by decide +kernel
theorem dX12_ceiling_21 : decode cX12_ceiling 21 = .ok (.ldc 61, 2) := by decide +kernel
theorem dX12_ceiling_23 : decode cX12_ceiling 23 = .ok (.invokevirtual 62, 3) := by decide +kernel
theorem dX12_ceiling_26 : decode cX12_ceiling 26 = .ok (.ireturn, 1) := by decide +kernel
theorem dX12_ceiling_27 : decode cX12_ceiling 27 = .ok (.aload_n 0, 1) := by decide +kernel
theorem dX12_ceiling_28 : decode cX12_ceiling 28 = .ok (.iload_n 1, 1) := by decide +kernel
theorem dX12_ceiling_29 : decode cX12_ceiling 29 = .ok (.iload_n 2, 1) := by decide +kernel
theorem dX12_ceiling_30 : decode cX12_ceiling 30 = .ok (.invokevirtual 52, 3) := by decide +kernel
theorem dX12_ceiling_33 : decode cX12_ceiling 33 = .ok (.aload_n 0, 1) := by decide +kernel
theorem dX12_ceiling_34 : decode cX12_ceiling 34 = .ok (.invokevirtual 66, 3) := by decide +kernel
theorem dX12_ceiling_37 : decode cX12_ceiling 37 = .ok (.ireturn, 1) := by decide +kernel
theorem dX12_set_0 : decode cX12_set 0 = .ok (.iload_n 1, 1) := by decide +kernel
theorem dX12_set_1 : decode cX12_set 1 = .ok (.ifCond .ne 13, 3) := by decide +kernel
theorem dX12_set_4 : decode cX12_set 4 = .ok (.iload_n 2, 1) := by decide +kernel
theorem dX12_set_5 : decode cX12_set 5 = .ok (.iconst 0, 1) := by decide +kernel
theorem dX12_set_6 : decode cX12_set 6 = .ok (.bipush 9, 2) := by decide +kernel
theorem dX12_set_8 : decode cX12_set 8 = .ok (.invokestatic 57, 3) := by decide +kernel
theorem dX12_set_11 : decode cX12_set 11 = .ok (.goto 43, 3) := by decide +kernel
theorem dX12_set_14 : decode cX12_set 14 = .ok (.iload_n 1, 1) := by decide +kernel
theorem dX12_set_15 : decode cX12_set 15 = .ok (.iconst 1, 1) := by decide +kernel
theorem dX12_set_16 : decode cX12_set 16 = .ok (.if_icmp .eq 8, 3) := by decide +kernel
theorem dX12_set_19 : decode cX12_set 19 = .ok (.iload_n 1, 1) := by decide +kernel
theorem dX12_set_20 : decode cX12_set 20 = .ok (.iconst 2, 1) := by decide +kernel
theorem dX12_set_21 : decode cX12_set 21 = .ok (.if_icmp .ne 13, 3) := by decide +kernel
theorem dX12_set_24 : decode cX12_set 24 = .ok (.iload_n 2, 1) := by decide +kernel
theorem dX12_set_25 : decode cX12_set 25 = .ok (.iconst 0, 1) := by decide +kernel
theorem dX12_set_26 : decode cX12_set 26 = .ok (.bipush 99, 2) := by decide +kernel
theorem dX12_set_28 : decode cX12_set 28 = .ok (.invokestatic 57, 3) := by decide +kernel
theorem dX12_set_31 : decode cX12_set 31 = .ok (.goto 23, 3) := by decide +kernel
theorem dX12_set_34 : decode cX12_set 34 = .ok (.iload_n 1, 1) := by decide +kernel
theorem dX12_set_35 : decode cX12_set 35 = .ok (.iconst 3, 1) := by decide +kernel
theorem dX12_set_36 : decode cX12_set 36 = .ok (.if_icmp .ne 17, 3) := by decide +kernel
theorem dX12_set_39 : decode cX12_set 39 = .ok (.iload_n 2, 1) := by decide +kernel
theorem dX12_set_40 : decode cX12_set 40 = .ok (.iconst 1, 1) := by decide +kernel
theorem dX12_set_41 : decode cX12_set 41 = .ok (.bipush 99, 2) := by decide +kernel
theorem dX12_set_43 : decode cX12_set 43 = .ok (.invokestatic 57, 3) := by decide +kernel
theorem dX12_set_46 : decode cX12_set 46 = .ok (.ifCond .eq 7, 3) := by decide +kernel
theorem dX12_set_49 : decode cX12_set 49 = .ok (.iconst 1, 1) := by decide +kernel
theorem dX12_set_50 : decode cX12_set 50 = .ok (.goto 4, 3) := by decide +kernel
theorem dX12_set_53 : decode cX12_set 53 = .ok (.iconst 0, 1) := by decide +kernel
theorem dX12_set_54 : decode cX12_set 54 = .ok (.istore_n 3, 1) := by decide +kernel
theorem dX12_set_55 : decode cX12_set 55 = .ok (.iload_n 3, 1) := by decide +kernel
theorem dX12_set_56 : decode cX12_set 56 = .ok (.ifCond .ne 10, 3) := by decide +kernel
theorem dX12_set_59 : decode cX12_set 59 = .ok (.aload_n 0, 1) := by decide +kernel
theorem dX12_set_60 : decode cX12_set 60 = .ok (.ldc 61, 2) := by decide +kernel
theorem dX12_set_62 : decode cX12_set 62 = .ok (.invokevirtual 62, 3) := by decide +kernel
theorem dX12_set_65 : decode cX12_set 65 = .ok (.ireturn, 1) := by decide +kernel
theorem dX12_set_66 : decode cX12_set 66 = .ok (.aload_n 0, 1) := by decide +kernel
theorem dX12_set_67 : decode cX12_set 67 = .ok (.getfield 7, 3) := by decide +kernel
theorem dX12_set_70 : decode cX12_set 70 = .ok (.iconst 3, 1) := by decide +kernel
theorem dX12_set_71 : decode cX12_set 71 = .ok (.iload_n 1, 1) := by decide +kernel
theorem dX12_set_72 : decode cX12_set 72 = .ok (.iadd, 1) := by decide +kernel
theorem dX12_set_73 : decode cX12_set 73 = .ok (.iaload, 1) := by decide +kernel
theorem dX12_set_74 : decode cX12_set 74 = .ok (.istore 4, 2) := by decide +kernel
theorem dX12_set_76 : decode cX12_set 76 = .ok (.aload_n 0, 1) := by decide +kernel
theorem dX12_set_77 : decode cX12_set 77 = .ok (.getfield 7, 3) := by decide +kernel
theorem dX12_set_80 : decode cX12_set 80 = .ok (.iconst 3, 1) := by decide +kernel
theorem dX12_set_81 : decode cX12_set 81 = .ok (.iload_n 1, 1) := by decide +kernel
theorem dX12_set_82 : decode cX12_set 82 = .ok (.iadd, 1) := by decide +kernel
theorem dX12_set_83 : decode cX12_set 83 = .ok (.iload_n 2, 1) := by decide +kernel
theorem dX12_set_84 : decode cX12_set 84 = .ok (.iastore, 1) := by decide +kernel
theorem dX12_set_85 : decode cX12_set 85 = .ok (.iload 4, 2) := by decide +kernel
theorem dX12_set_87 : decode cX12_set 87 = .ok (.ireturn, 1) := by decide +kernel
theorem dX12_isCell_0 : decode cX12_isCell 0 = .ok (.iload_n 1, 1) := by decide +kernel
theorem dX12_isCell_1 : decode cX12_isCell 1 = .ok (.iconst 0, 1) := by decide +kernel
theorem dX12_isCell_2 : decode cX12_isCell 2 = .ok (.aload_n 0, 1) := by decide +kernel
theorem dX12_isCell_3 : decode cX12_isCell 3 = .ok (.invokevirtual 66, 3) := by decide +kernel
theorem dX12_isCell_6 : decode cX12_isCell 6 = .ok (.iconst 1, 1) := by decide +kernel
theorem dX12_isCell_7 : decode cX12_isCell 7 = .ok (.isub, 1) := by decide +kernel
theorem dX12_isCell_8 : decode cX12_isCell 8 = .ok (.invokestatic 57, 3) := by decide +kernel
theorem dX12_isCell_11 : decode cX12_isCell 11 = .ok (.ireturn, 1) := by decide +kernel
theorem dX12_isStrip_0 : decode cX12_isStrip 0 = .ok (.iload_n 1, 1) := by decide +kernel
theorem dX12_isStrip_1 : decode cX12_isStrip 1 = .ok (.iconst 0, 1) := by decide +kernel
theorem dX12_isStrip_2 : decode cX12_isStrip 2 = .ok (.aload_n 0, 1) := by decide +kernel
theorem dX12_isStrip_3 : decode cX12_isStrip 3 = .ok (.getfield 7, 3) := by decide +kernel
theorem dX12_isStrip_6 : decode cX12_isStrip 6 = .ok (.iconst 1, 1) := by decide +kernel
theorem dX12_isStrip_7 : decode cX12_isStrip 7 = .ok (.iaload, 1) := by decide +kernel
theorem dX12_isStrip_8 : decode cX12_isStrip 8 = .ok (.iconst 1, 1) := by decide +kernel
theorem dX12_isStrip_9 : decode cX12_isStrip 9 = .ok (.isub, 1) := by decide +kernel
theorem dX12_isStrip_10 : decode cX12_isStrip 10 = .ok (.invokestatic 57, 3) := by decide +kernel
theorem dX12_isStrip_13 : decode cX12_isStrip 13 = .ok (.ireturn, 1) := by decide +kernel
theorem dX12_driesAt_0 : decode cX12_driesAt 0 = .ok (.aload_n 0, 1) := by decide +kernel
theorem dX12_driesAt_1 : decode cX12_driesAt 1 = .ok (.getfield 70, 3) := by decide +kernel
theorem dX12_driesAt_4 : decode cX12_driesAt 4 = .ok (.ifCond .eq 12, 3) := by decide +kernel
theorem dX12_driesAt_7 : decode cX12_driesAt 7 = .ok (.aload_n 0, 1) := by decide +kernel
theorem dX12_driesAt_8 : decode cX12_driesAt 8 = .ok (.getfield 25, 3) := by decide +kernel
theorem dX12_driesAt_11 : decode cX12_driesAt 11 = .ok (.iload_n 1, 1) := by decide +kernel
theorem dX12_driesAt_12 : decode cX12_driesAt 12 = .ok (.iaload, 1) := by decide +kernel
theorem dX12_driesAt_13 : decode cX12_driesAt 13 = .ok (.goto 30, 3) := by decide +kernel
theorem dX12_driesAt_16 : decode cX12_driesAt 16 = .ok (.aload_n 0, 1) := by decide +kernel
theorem dX12_driesAt_17 : decode cX12_driesAt 17 = .ok (.iconst 0, 1) := by decide +kernel
theorem dX12_driesAt_18 : decode cX12_driesAt 18 = .ok (.iload_n 1, 1) := by decide +kernel
theorem dX12_driesAt_19 : decode cX12_driesAt 19 = .ok (.aload_n 0, 1) := by decide +kernel
theorem dX12_driesAt_20 : decode cX12_driesAt 20 = .ok (.getfield 7, 3) := by decide +kernel
theorem dX12_driesAt_23 : decode cX12_driesAt 23 = .ok (.iconst 1, 1) := by decide +kernel
theorem dX12_driesAt_24 : decode cX12_driesAt 24 = .ok (.iaload, 1) := by decide +kernel
theorem dX12_driesAt_25 : decode cX12_driesAt 25 = .ok (.idiv, 1) := by decide +kernel
theorem dX12_driesAt_26 : decode cX12_driesAt 26 = .ok (.iload_n 1, 1) := by decide +kernel
theorem dX12_driesAt_27 : decode cX12_driesAt 27 = .ok (.aload_n 0, 1) := by decide +kernel
theorem dX12_driesAt_28 : decode cX12_driesAt 28 = .ok (.getfield 7, 3) := by decide +kernel
theorem dX12_driesAt_31 : decode cX12_driesAt 31 = .ok (.iconst 1, 1) := by decide +kernel
theorem dX12_driesAt_32 : decode cX12_driesAt 32 = .ok (.iaload, 1) := by decide +kernel
theorem dX12_driesAt_33 : decode cX12_driesAt 33 = .ok (.irem, 1) := by decide +kernel
theorem dX12_driesAt_34 : decode cX12_driesAt 34 = .ok (.aload_n 0, 1) := by decide +kernel
theorem dX12_driesAt_35 : decode cX12_driesAt 35 = .ok (.getfield 7, 3) := by decide +kernel
theorem dX12_driesAt_38 : decode cX12_driesAt 38 = .ok (.iconst 3, 1) := by decide +kernel
theorem dX12_driesAt_39 : decode cX12_driesAt 39 = .ok (.iaload, 1) := by decide +kernel
theorem dX12_driesAt_40 : decode cX12_driesAt 40 = .ok (.invokevirtual 74, 3) := by decide +kernel
theorem dX12_driesAt_43 : decode cX12_driesAt 43 = .ok (.ireturn, 1) := by decide +kernel
theorem dX12_shows_0 : decode cX12_shows 0 = .ok (.bipush 100, 2) := by decide +kernel
theorem dX12_shows_2 : decode cX12_shows 2 = .ok (.iload_n 1, 1) := by decide +kernel
theorem dX12_shows_3 : decode cX12_shows 3 = .ok (.imul, 1) := by decide +kernel
theorem dX12_shows_4 : decode cX12_shows 4 = .ok (.iload_n 2, 1) := by decide +kernel
theorem dX12_shows_5 : decode cX12_shows 5 = .ok (.iadd, 1) := by decide +kernel
theorem dX12_shows_6 : decode cX12_shows 6 = .ok (.istore_n 3, 1) := by decide +kernel
theorem dX12_shows_7 : decode cX12_shows 7 = .ok (.aload_n 0, 1) := by decide +kernel
theorem dX12_shows_8 : decode cX12_shows 8 = .ok (.getfield 70, 3) := by decide +kernel
theorem dX12_shows_11 : decode cX12_shows 11 = .ok (.ifCond .eq 12, 3) := by decide +kernel
theorem dX12_shows_14 : decode cX12_shows 14 = .ok (.aload_n 0, 1) := by decide +kernel
theorem dX12_shows_15 : decode cX12_shows 15 = .ok (.getfield 28, 3) := by decide +kernel
theorem dX12_shows_18 : decode cX12_shows 18 = .ok (.iload_n 3, 1) := by decide +kernel
theorem dX12_shows_19 : decode cX12_shows 19 = .ok (.iaload, 1) := by decide +kernel
theorem dX12_shows_20 : decode cX12_shows 20 = .ok (.ifCond .ge 31, 3) := by decide +kernel
theorem dX12_shows_23 : decode cX12_shows 23 = .ok (.aload_n 0, 1) := by decide +kernel
theorem dX12_shows_24 : decode cX12_shows 24 = .ok (.getfield 28, 3) := by decide +kernel
theorem dX12_shows_27 : decode cX12_shows 27 = .ok (.iload_n 3, 1) := by decide +kernel
theorem dX12_shows_28 : decode cX12_shows 28 = .ok (.aload_n 0, 1) := by decide +kernel
theorem dX12_shows_29 : decode cX12_shows 29 = .ok (.iconst 1, 1) := by decide +kernel
theorem dX12_shows_30 : decode cX12_shows 30 = .ok (.iload_n 1, 1) := by decide +kernel
theorem dX12_shows_31 : decode cX12_shows 31 = .ok (.aload_n 0, 1) := by decide +kernel
theorem dX12_shows_32 : decode cX12_shows 32 = .ok (.getfield 7, 3) := by decide +kernel
theorem dX12_shows_35 : decode cX12_shows 35 = .ok (.iconst 1, 1) := by decide +kernel
theorem dX12_shows_36 : decode cX12_shows 36 = .ok (.iaload, 1) := by decide +kernel
theorem dX12_shows_37 : decode cX12_shows 37 = .ok (.idiv, 1) := by decide +kernel
theorem dX12_shows_38 : decode cX12_shows 38 = .ok (.iload_n 1, 1) := by decide +kernel
theorem dX12_shows_39 : decode cX12_shows 39 = .ok (.aload_n 0, 1) := by decide +kernel
theorem dX12_shows_40 : decode cX12_shows 40 = .ok (.getfield 7, 3) := by decide +kernel
theorem dX12_shows_43 : decode cX12_shows 43 = .ok (.iconst 1, 1) := by decide +kernel
theorem dX12_shows_44 : decode cX12_shows 44 = .ok (.iaload, 1) := by decide +kernel
theorem dX12_shows_45 : decode cX12_shows 45 = .ok (.irem, 1) := by decide +kernel
theorem dX12_shows_46 : decode cX12_shows 46 = .ok (.iload_n 2, 1) := by decide +kernel
theorem dX12_shows_47 : decode cX12_shows 47 = .ok (.invokevirtual 74, 3) := by decide +kernel
theorem dX12_shows_50 : decode cX12_shows 50 = .ok (.iastore, 1) := by decide +kernel
theorem dX12_shows_51 : decode cX12_shows 51 = .ok (.aload_n 0, 1) := by decide +kernel
theorem dX12_shows_52 : decode cX12_shows 52 = .ok (.getfield 28, 3) := by decide +kernel
theorem dX12_shows_55 : decode cX12_shows 55 = .ok (.iload_n 3, 1) := by decide +kernel
theorem dX12_shows_56 : decode cX12_shows 56 = .ok (.iaload, 1) := by decide +kernel
theorem dX12_shows_57 : decode cX12_shows 57 = .ok (.ireturn, 1) := by decide +kernel
theorem dX12_tables_0 : decode cX12_tables 0 = .ok (.iconst 0, 1) := by decide +kernel
theorem dX12_tables_1 : decode cX12_tables 1 = .ok (.istore_n 1, 1) := by decide +kernel
theorem dX12_tables_2 : decode cX12_tables 2 = .ok (.iload_n 1, 1) := by decide +kernel
theorem dX12_tables_3 : decode cX12_tables 3 = .ok (.aload_n 0, 1) := by decide +kernel
theorem dX12_tables_4 : decode cX12_tables 4 = .ok (.invokevirtual 66, 3) := by decide +kernel
theorem dX12_tables_7 : decode cX12_tables 7 = .ok (.if_icmp .ge 20, 3) := by decide +kernel
theorem dX12_tables_10 : decode cX12_tables 10 = .ok (.aload_n 0, 1) := by decide +kernel
theorem dX12_tables_11 : decode cX12_tables 11 = .ok (.getfield 25, 3) := by decide +kernel
theorem dX12_tables_14 : decode cX12_tables 14 = .ok (.iload_n 1, 1) := by decide +kernel
theorem dX12_tables_15 : decode cX12_tables 15 = .ok (.aload_n 0, 1) := by decide +kernel
theorem dX12_tables_16 : decode cX12_tables 16 = .ok (.iload_n 1, 1) := by decide +kernel
theorem dX12_tables_17 : decode cX12_tables 17 = .ok (.invokevirtual 78, 3) := by decide +kernel
theorem dX12_tables_20 : decode cX12_tables 20 = .ok (.iastore, 1) := by decide +kernel
theorem dX12_tables_21 : decode cX12_tables 21 = .ok (.iinc 1 1, 3) := by decide +kernel
theorem dX12_tables_24 : decode cX12_tables 24 = .ok (.goto (-22), 3) := by decide +kernel
theorem dX12_tables_27 : decode cX12_tables 27 = .ok (.iconst 0, 1) := by decide +kernel
theorem dX12_tables_28 : decode cX12_tables 28 = .ok (.istore_n 1, 1) := by decide +kernel
theorem dX12_tables_29 : decode cX12_tables 29 = .ok (.iload_n 1, 1) := by decide +kernel
theorem dX12_tables_30 : decode cX12_tables 30 = .ok (.sipush 3600, 3) := by decide +kernel
theorem dX12_tables_33 : decode cX12_tables 33 = .ok (.if_icmp .ge 16, 3) := by decide +kernel
theorem dX12_tables_36 : decode cX12_tables 36 = .ok (.aload_n 0, 1) := by decide +kernel
theorem dX12_tables_37 : decode cX12_tables 37 = .ok (.getfield 28, 3) := by decide +kernel
theorem dX12_tables_40 : decode cX12_tables 40 = .ok (.iload_n 1, 1) := by decide +kernel
theorem dX12_tables_41 : decode cX12_tables 41 = .ok (.iconst (-1), 1) := by decide +kernel
theorem dX12_tables_42 : decode cX12_tables 42 = .ok (.iastore, 1) := by decide +kernel
theorem dX12_tables_43 : decode cX12_tables 43 = .ok (.iinc 1 1, 3) := by decide +kernel
theorem dX12_tables_46 : decode cX12_tables 46 = .ok (.goto (-17), 3) := by decide +kernel
theorem dX12_tables_49 : decode cX12_tables 49 = .ok (.aload_n 0, 1) := by decide +kernel
theorem dX12_tables_50 : decode cX12_tables 50 = .ok (.iconst 1, 1) := by decide +kernel
theorem dX12_tables_51 : decode cX12_tables 51 = .ok (.putfield 70, 3) := by decide +kernel
theorem dX12_tables_54 : decode cX12_tables 54 = .ok (.return_, 1) := by decide +kernel
theorem dX12_isSeam_0 : decode cX12_isSeam 0 = .ok (.aload_n 0, 1) := by decide +kernel
theorem dX12_isSeam_1 : decode cX12_isSeam 1 = .ok (.iload_n 1, 1) := by decide +kernel
theorem dX12_isSeam_2 : decode cX12_isSeam 2 = .ok (.invokevirtual 81, 3) := by decide +kernel
theorem dX12_isSeam_5 : decode cX12_isSeam 5 = .ok (.istore_n 2, 1) := by decide +kernel
theorem dX12_isSeam_6 : decode cX12_isSeam 6 = .ok (.aload_n 0, 1) := by decide +kernel
theorem dX12_isSeam_7 : decode cX12_isSeam 7 = .ok (.iload_n 1, 1) := by decide +kernel
theorem dX12_isSeam_8 : decode cX12_isSeam 8 = .ok (.iconst 1, 1) := by decide +kernel
theorem dX12_isSeam_9 : decode cX12_isSeam 9 = .ok (.iadd, 1) := by decide +kernel
theorem dX12_isSeam_10 : decode cX12_isSeam 10 = .ok (.invokevirtual 81, 3) := by decide +kernel
theorem dX12_isSeam_13 : decode cX12_isSeam 13 = .ok (.istore_n 3, 1) := by decide +kernel
theorem dX12_isSeam_14 : decode cX12_isSeam 14 = .ok (.iload_n 2, 1) := by decide +kernel
theorem dX12_isSeam_15 : decode cX12_isSeam 15 = .ok (.ifCond .lt 7, 3) := by decide +kernel
theorem dX12_isSeam_18 : decode cX12_isSeam 18 = .ok (.iload_n 3, 1) := by decide +kernel
theorem dX12_isSeam_19 : decode cX12_isSeam 19 = .ok (.ifCond .ge 5, 3) := by decide +kernel
theorem dX12_isSeam_22 : decode cX12_isSeam 22 = .ok (.iconst 0, 1) := by decide +kernel
theorem dX12_isSeam_23 : decode cX12_isSeam 23 = .ok (.ireturn, 1) := by decide +kernel
theorem dX12_isSeam_24 : decode cX12_isSeam 24 = .ok (.aload_n 0, 1) := by decide +kernel
theorem dX12_isSeam_25 : decode cX12_isSeam 25 = .ok (.iload_n 1, 1) := by decide +kernel
theorem dX12_isSeam_26 : decode cX12_isSeam 26 = .ok (.invokevirtual 84, 3) := by decide +kernel
theorem dX12_isSeam_29 : decode cX12_isSeam 29 = .ok (.aload_n 0, 1) := by decide +kernel
theorem dX12_isSeam_30 : decode cX12_isSeam 30 = .ok (.iload_n 1, 1) := by decide +kernel
theorem dX12_isSeam_31 : decode cX12_isSeam 31 = .ok (.iconst 1, 1) := by decide +kernel
theorem dX12_isSeam_32 : decode cX12_isSeam 32 = .ok (.iadd, 1) := by decide +kernel
theorem dX12_isSeam_33 : decode cX12_isSeam 33 = .ok (.invokevirtual 84, 3) := by decide +kernel
theorem dX12_isSeam_36 : decode cX12_isSeam 36 = .ok (.if_icmp .ne 40, 3) := by decide +kernel
theorem dX12_isSeam_39 : decode cX12_isSeam 39 = .ok (.iload_n 2, 1) := by decide +kernel
theorem dX12_isSeam_40 : decode cX12_isSeam 40 = .ok (.iload_n 3, 1) := by decide +kernel
theorem dX12_isSeam_41 : decode cX12_isSeam 41 = .ok (.if_icmp .eq 39, 3) := by decide +kernel
theorem dX12_isSeam_44 : decode cX12_isSeam 44 = .ok (.iload_n 2, 1) := by decide +kernel
theorem dX12_isSeam_45 : decode cX12_isSeam 45 = .ok (.iload_n 3, 1) := by decide +kernel
theorem dX12_isSeam_46 : decode cX12_isSeam 46 = .ok (.if_icmp .ge 17, 3) := by decide +kernel
theorem dX12_isSeam_49 : decode cX12_isSeam 49 = .ok (.iload_n 3, 1) := by decide +kernel
theorem dX12_isSeam_50 : decode cX12_isSeam 50 = .ok (.iload_n 2, 1) := by decide +kernel
theorem dX12_isSeam_51 : decode cX12_isSeam 51 = .ok (.isub, 1) := by decide +kernel
theorem dX12_isSeam_52 : decode cX12_isSeam 52 = .ok (.aload_n 0, 1) := by decide +kernel
theorem dX12_isSeam_53 : decode cX12_isSeam 53 = .ok (.iload_n 1, 1) := by decide +kernel
theorem dX12_isSeam_54 : decode cX12_isSeam 54 = .ok (.invokevirtual 78, 3) := by decide +kernel
theorem dX12_isSeam_57 : decode cX12_isSeam 57 = .ok (.if_icmp .le 23, 3) := by decide +kernel
theorem dX12_isSeam_60 : decode cX12_isSeam 60 = .ok (.goto 16, 3) := by decide +kernel
theorem dX12_isSeam_63 : decode cX12_isSeam 63 = .ok (.iload_n 2, 1) := by decide +kernel
theorem dX12_isSeam_64 : decode cX12_isSeam 64 = .ok (.iload_n 3, 1) := by decide +kernel
theorem dX12_isSeam_65 : decode cX12_isSeam 65 = .ok (.isub, 1) := by decide +kernel
theorem dX12_isSeam_66 : decode cX12_isSeam 66 = .ok (.aload_n 0, 1) := by decide +kernel
theorem dX12_isSeam_67 : decode cX12_isSeam 67 = .ok (.iload_n 1, 1) := by decide +kernel
theorem dX12_isSeam_68 : decode cX12_isSeam 68 = .ok (.iconst 1, 1) := by decide +kernel
theorem dX12_isSeam_69 : decode cX12_isSeam 69 = .ok (.iadd, 1) := by decide +kernel
theorem dX12_isSeam_70 : decode cX12_isSeam 70 = .ok (.invokevirtual 78, 3) := by decide +kernel
theorem dX12_isSeam_73 : decode cX12_isSeam 73 = .ok (.if_icmp .le 7, 3) := by decide +kernel
theorem dX12_isSeam_76 : decode cX12_isSeam 76 = .ok (.iconst 1, 1) := by decide +kernel
theorem dX12_isSeam_77 : decode cX12_isSeam 77 = .ok (.goto 4, 3) := by decide +kernel
theorem dX12_isSeam_80 : decode cX12_isSeam 80 = .ok (.iconst 0, 1) := by decide +kernel
theorem dX12_isSeam_81 : decode cX12_isSeam 81 = .ok (.ireturn, 1) := by decide +kernel
theorem dX12_seamAt_0 : decode cX12_seamAt 0 = .ok (.iload_n 1, 1) := by decide +kernel
theorem dX12_seamAt_1 : decode cX12_seamAt 1 = .ok (.aload_n 0, 1) := by decide +kernel
theorem dX12_seamAt_2 : decode cX12_seamAt 2 = .ok (.getfield 7, 3) := by decide +kernel
theorem dX12_seamAt_5 : decode cX12_seamAt 5 = .ok (.iconst 1, 1) := by decide +kernel
theorem dX12_seamAt_6 : decode cX12_seamAt 6 = .ok (.iaload, 1) := by decide +kernel
theorem dX12_seamAt_7 : decode cX12_seamAt 7 = .ok (.irem, 1) := by decide +kernel
theorem dX12_seamAt_8 : decode cX12_seamAt 8 = .ok (.aload_n 0, 1) := by decide +kernel
theorem dX12_seamAt_9 : decode cX12_seamAt 9 = .ok (.getfield 7, 3) := by decide +kernel
theorem dX12_seamAt_12 : decode cX12_seamAt 12 = .ok (.iconst 1, 1) := by decide +kernel
theorem dX12_seamAt_13 : decode cX12_seamAt 13 = .ok (.iaload, 1) := by decide +kernel
theorem dX12_seamAt_14 : decode cX12_seamAt 14 = .ok (.iconst 1, 1) := by decide +kernel
theorem dX12_seamAt_15 : decode cX12_seamAt 15 = .ok (.isub, 1) := by decide +kernel
theorem dX12_seamAt_16 : decode cX12_seamAt 16 = .ok (.if_icmp .ge 15, 3) := by decide +kernel
theorem dX12_seamAt_19 : decode cX12_seamAt 19 = .ok (.aload_n 0, 1) := by decide +kernel
theorem dX12_seamAt_20 : decode cX12_seamAt 20 = .ok (.iload_n 1, 1) := by decide +kernel
theorem dX12_seamAt_21 : decode cX12_seamAt 21 = .ok (.invokevirtual 87, 3) := by decide +kernel
theorem dX12_seamAt_24 : decode cX12_seamAt 24 = .ok (.ifCond .eq 7, 3) := by decide +kernel
theorem dX12_seamAt_27 : decode cX12_seamAt 27 = .ok (.iconst 1, 1) := by decide +kernel
theorem dX12_seamAt_28 : decode cX12_seamAt 28 = .ok (.goto 4, 3) := by decide +kernel
theorem dX12_seamAt_31 : decode cX12_seamAt 31 = .ok (.iconst 0, 1) := by decide +kernel
theorem dX12_seamAt_32 : decode cX12_seamAt 32 = .ok (.ireturn, 1) := by decide +kernel
theorem dX12_ofCell_0 : decode cX12_ofCell 0 = .ok (.aload_n 0, 1) := by decide +kernel
theorem dX12_ofCell_1 : decode cX12_ofCell 1 = .ok (.iload_n 1, 1) := by decide +kernel
theorem dX12_ofCell_2 : decode cX12_ofCell 2 = .ok (.invokevirtual 91, 3) := by decide +kernel
theorem dX12_ofCell_5 : decode cX12_ofCell 5 = .ok (.ifCond .eq 12, 3) := by decide +kernel
theorem dX12_ofCell_8 : decode cX12_ofCell 8 = .ok (.iload_n 2, 1) := by decide +kernel
theorem dX12_ofCell_9 : decode cX12_ofCell 9 = .ok (.iconst 0, 1) := by decide +kernel
theorem dX12_ofCell_10 : decode cX12_ofCell 10 = .ok (.iconst 3, 1) := by decide +kernel
theorem dX12_ofCell_11 : decode cX12_ofCell 11 = .ok (.invokestatic 57, 3) := by decide +kernel
theorem dX12_ofCell_14 : decode cX12_ofCell 14 = .ok (.ifCond .ne 10, 3) := by decide +kernel
theorem dX12_ofCell_17 : decode cX12_ofCell 17 = .ok (.aload_n 0, 1) := by decide +kernel
theorem dX12_ofCell_18 : decode cX12_ofCell 18 = .ok (.ldc 61, 2) := by decide +kernel
theorem dX12_ofCell_20 : decode cX12_ofCell 20 = .ok (.invokevirtual 62, 3) := by decide +kernel
theorem dX12_ofCell_23 : decode cX12_ofCell 23 = .ok (.ireturn, 1) := by decide +kernel
theorem dX12_ofCell_24 : decode cX12_ofCell 24 = .ok (.iload_n 2, 1) := by decide +kernel
theorem dX12_ofCell_25 : decode cX12_ofCell 25 = .ok (.ifCond .ne 11, 3) := by decide +kernel
theorem dX12_ofCell_28 : decode cX12_ofCell 28 = .ok (.aload_n 0, 1) := by decide +kernel
theorem dX12_ofCell_29 : decode cX12_ofCell 29 = .ok (.iload_n 1, 1) := by decide +kernel
theorem dX12_ofCell_30 : decode cX12_ofCell 30 = .ok (.invokevirtual 81, 3) := by decide +kernel
theorem dX12_ofCell_33 : decode cX12_ofCell 33 = .ok (.goto 34, 3) := by decide +kernel
theorem dX12_ofCell_36 : decode cX12_ofCell 36 = .ok (.iload_n 2, 1) := by decide +kernel
theorem dX12_ofCell_37 : decode cX12_ofCell 37 = .ok (.iconst 1, 1) := by decide +kernel
theorem dX12_ofCell_38 : decode cX12_ofCell 38 = .ok (.if_icmp .ne 11, 3) := by decide +kernel
theorem dX12_ofCell_41 : decode cX12_ofCell 41 = .ok (.aload_n 0, 1) := by decide +kernel
theorem dX12_ofCell_42 : decode cX12_ofCell 42 = .ok (.iload_n 1, 1) := by decide +kernel
theorem dX12_ofCell_43 : decode cX12_ofCell 43 = .ok (.invokevirtual 84, 3) := by decide +kernel
theorem dX12_ofCell_46 : decode cX12_ofCell 46 = .ok (.goto 21, 3) := by decide +kernel
theorem dX12_ofCell_49 : decode cX12_ofCell 49 = .ok (.iload_n 2, 1) := by decide +kernel
theorem dX12_ofCell_50 : decode cX12_ofCell 50 = .ok (.iconst 2, 1) := by decide +kernel
theorem dX12_ofCell_51 : decode cX12_ofCell 51 = .ok (.if_icmp .ne 11, 3) := by decide +kernel
theorem dX12_ofCell_54 : decode cX12_ofCell 54 = .ok (.aload_n 0, 1) := by decide +kernel
theorem dX12_ofCell_55 : decode cX12_ofCell 55 = .ok (.iload_n 1, 1) := by decide +kernel
theorem dX12_ofCell_56 : decode cX12_ofCell 56 = .ok (.invokevirtual 78, 3) := by decide +kernel
theorem dX12_ofCell_59 : decode cX12_ofCell 59 = .ok (.goto 8, 3) := by decide +kernel
theorem dX12_ofCell_62 : decode cX12_ofCell 62 = .ok (.aload_n 0, 1) := by decide +kernel
theorem dX12_ofCell_63 : decode cX12_ofCell 63 = .ok (.iload_n 1, 1) := by decide +kernel
theorem dX12_ofCell_64 : decode cX12_ofCell 64 = .ok (.invokevirtual 94, 3) := by decide +kernel
theorem dX12_ofCell_67 : decode cX12_ofCell 67 = .ok (.ireturn, 1) := by decide +kernel
theorem dX12_isHand_0 : decode cX12_isHand 0 = .ok (.iload_n 1, 1) := by decide +kernel
theorem dX12_isHand_1 : decode cX12_isHand 1 = .ok (.iconst 0, 1) := by decide +kernel
theorem dX12_isHand_2 : decode cX12_isHand 2 = .ok (.aload_n 0, 1) := by decide +kernel
theorem dX12_isHand_3 : decode cX12_isHand 3 = .ok (.getfield 7, 3) := by decide +kernel
theorem dX12_isHand_6 : decode cX12_isHand 6 = .ok (.bipush 8, 2) := by decide +kernel
theorem dX12_isHand_8 : decode cX12_isHand 8 = .ok (.iaload, 1) := by decide +kernel
theorem dX12_isHand_9 : decode cX12_isHand 9 = .ok (.iconst 1, 1) := by decide +kernel
theorem dX12_isHand_10 : decode cX12_isHand 10 = .ok (.isub, 1) := by decide +kernel
theorem dX12_isHand_11 : decode cX12_isHand 11 = .ok (.invokestatic 57, 3) := by decide +kernel
theorem dX12_isHand_14 : decode cX12_isHand 14 = .ok (.ireturn, 1) := by decide +kernel
theorem dX12_kindOf_0 : decode cX12_kindOf 0 = .ok (.aload_n 0, 1) := by decide +kernel
theorem dX12_kindOf_1 : decode cX12_kindOf 1 = .ok (.getfield 7, 3) := by decide +kernel
theorem dX12_kindOf_4 : decode cX12_kindOf 4 = .ok (.bipush 13, 2) := by decide +kernel
theorem dX12_kindOf_6 : decode cX12_kindOf 6 = .ok (.iconst 2, 1) := by decide +kernel
theorem dX12_kindOf_7 : decode cX12_kindOf 7 = .ok (.iload_n 1, 1) := by decide +kernel
theorem dX12_kindOf_8 : decode cX12_kindOf 8 = .ok (.imul, 1) := by decide +kernel
theorem dX12_kindOf_9 : decode cX12_kindOf 9 = .ok (.iadd, 1) := by decide +kernel
theorem dX12_kindOf_10 : decode cX12_kindOf 10 = .ok (.iaload, 1) := by decide +kernel
theorem dX12_kindOf_11 : decode cX12_kindOf 11 = .ok (.ireturn, 1) := by decide +kernel
theorem dX12_mOf_0 : decode cX12_mOf 0 = .ok (.aload_n 0, 1) := by decide +kernel
theorem dX12_mOf_1 : decode cX12_mOf 1 = .ok (.getfield 7, 3) := by decide +kernel
theorem dX12_mOf_4 : decode cX12_mOf 4 = .ok (.bipush 13, 2) := by decide +kernel
theorem dX12_mOf_6 : decode cX12_mOf 6 = .ok (.iconst 2, 1) := by decide +kernel
theorem dX12_mOf_7 : decode cX12_mOf 7 = .ok (.iload_n 1, 1) := by decide +kernel
theorem dX12_mOf_8 : decode cX12_mOf 8 = .ok (.imul, 1) := by decide +kernel
theorem dX12_mOf_9 : decode cX12_mOf 9 = .ok (.iadd, 1) := by decide +kernel
theorem dX12_mOf_10 : decode cX12_mOf 10 = .ok (.iconst 1, 1) := by decide +kernel
theorem dX12_mOf_11 : decode cX12_mOf 11 = .ok (.iadd, 1) := by decide +kernel
theorem dX12_mOf_12 : decode cX12_mOf 12 = .ok (.iaload, 1) := by decide +kernel
theorem dX12_mOf_13 : decode cX12_mOf 13 = .ok (.ireturn, 1) := by decide +kernel
theorem dX12_hand_0 : decode cX12_hand 0 = .ok (.iload_n 1, 1) := by decide +kernel
theorem dX12_hand_1 : decode cX12_hand 1 = .ok (.iconst 0, 1) := by decide +kernel
theorem dX12_hand_2 : decode cX12_hand 2 = .ok (.bipush 69, 2) := by decide +kernel
theorem dX12_hand_4 : decode cX12_hand 4 = .ok (.invokestatic 57, 3) := by decide +kernel
theorem dX12_hand_7 : decode cX12_hand 7 = .ok (.ifCond .ne 10, 3) := by decide +kernel
theorem dX12_hand_10 : decode cX12_hand 10 = .ok (.aload_n 0, 1) := by decide +kernel
theorem dX12_hand_11 : decode cX12_hand 11 = .ok (.ldc 61, 2) := by decide +kernel
theorem dX12_hand_13 : decode cX12_hand 13 = .ok (.invokevirtual 62, 3) := by decide +kernel
theorem dX12_hand_16 : decode cX12_hand 16 = .ok (.ireturn, 1) := by decide +kernel
theorem dX12_hand_17 : decode cX12_hand 17 = .ok (.aload_n 0, 1) := by decide +kernel
theorem dX12_hand_18 : decode cX12_hand 18 = .ok (.getfield 7, 3) := by decide +kernel
theorem dX12_hand_21 : decode cX12_hand 21 = .ok (.bipush 8, 2) := by decide +kernel
theorem dX12_hand_23 : decode cX12_hand 23 = .ok (.iaload, 1) := by decide +kernel
theorem dX12_hand_24 : decode cX12_hand 24 = .ok (.bipush 6, 2) := by decide +kernel
theorem dX12_hand_26 : decode cX12_hand 26 = .ok (.if_icmp .ne 10, 3) := by decide +kernel
theorem dX12_hand_29 : decode cX12_hand 29 = .ok (.aload_n 0, 1) := by decide +kernel
theorem dX12_hand_30 : decode cX12_hand 30 = .ok (.ldc 97, 2) := by decide +kernel
theorem dX12_hand_32 : decode cX12_hand 32 = .ok (.invokevirtual 62, 3) := by decide +kernel
theorem dX12_hand_35 : decode cX12_hand 35 = .ok (.ireturn, 1) := by decide +kernel
theorem dX12_hand_36 : decode cX12_hand 36 = .ok (.aload_n 0, 1) := by decide +kernel
theorem dX12_hand_37 : decode cX12_hand 37 = .ok (.getfield 7, 3) := by decide +kernel
theorem dX12_hand_40 : decode cX12_hand 40 = .ok (.bipush 8, 2) := by decide +kernel
theorem dX12_hand_42 : decode cX12_hand 42 = .ok (.iaload, 1) := by decide +kernel
theorem dX12_hand_43 : decode cX12_hand 43 = .ok (.istore_n 2, 1) := by decide +kernel
theorem dX12_hand_44 : decode cX12_hand 44 = .ok (.aload_n 0, 1) := by decide +kernel
theorem dX12_hand_45 : decode cX12_hand 45 = .ok (.getfield 7, 3) := by decide +kernel
theorem dX12_hand_48 : decode cX12_hand 48 = .ok (.bipush 13, 2) := by decide +kernel
theorem dX12_hand_50 : decode cX12_hand 50 = .ok (.iconst 2, 1) := by decide +kernel
theorem dX12_hand_51 : decode cX12_hand 51 = .ok (.iload_n 2, 1) := by decide +kernel
theorem dX12_hand_52 : decode cX12_hand 52 = .ok (.imul, 1) := by decide +kernel
theorem dX12_hand_53 : decode cX12_hand 53 = .ok (.iadd, 1) := by decide +kernel
theorem dX12_hand_54 : decode cX12_hand 54 = .ok (.iload_n 1, 1) := by decide +kernel
theorem dX12_hand_55 : decode cX12_hand 55 = .ok (.bipush 10, 2) := by decide +kernel
theorem dX12_hand_57 : decode cX12_hand 57 = .ok (.idiv, 1) := by decide +kernel
theorem dX12_hand_58 : decode cX12_hand 58 = .ok (.iastore, 1) := by decide +kernel
theorem dX12_hand_59 : decode cX12_hand 59 = .ok (.aload_n 0, 1) := by decide +kernel
theorem dX12_hand_60 : decode cX12_hand 60 = .ok (.getfield 7, 3) := by decide +kernel
theorem dX12_hand_63 : decode cX12_hand 63 = .ok (.bipush 13, 2) := by decide +kernel
theorem dX12_hand_65 : decode cX12_hand 65 = .ok (.iconst 2, 1) := by decide +kernel
theorem dX12_hand_66 : decode cX12_hand 66 = .ok (.iload_n 2, 1) := by decide +kernel
theorem dX12_hand_67 : decode cX12_hand 67 = .ok (.imul, 1) := by decide +kernel
theorem dX12_hand_68 : decode cX12_hand 68 = .ok (.iadd, 1) := by decide +kernel
theorem dX12_hand_69 : decode cX12_hand 69 = .ok (.iconst 1, 1) := by decide +kernel
theorem dX12_hand_70 : decode cX12_hand 70 = .ok (.iadd, 1) := by decide +kernel
theorem dX12_hand_71 : decode cX12_hand 71 = .ok (.iload_n 1, 1) := by decide +kernel
theorem dX12_hand_72 : decode cX12_hand 72 = .ok (.bipush 10, 2) := by decide +kernel
theorem dX12_hand_74 : decode cX12_hand 74 = .ok (.irem, 1) := by decide +kernel
theorem dX12_hand_75 : decode cX12_hand 75 = .ok (.iastore, 1) := by decide +kernel
theorem dX12_hand_76 : decode cX12_hand 76 = .ok (.aload_n 0, 1) := by decide +kernel
theorem dX12_hand_77 : decode cX12_hand 77 = .ok (.getfield 7, 3) := by decide +kernel
theorem dX12_hand_80 : decode cX12_hand 80 = .ok (.bipush 8, 2) := by decide +kernel
theorem dX12_hand_82 : decode cX12_hand 82 = .ok (.dup2, 1) := by decide +kernel
theorem dX12_hand_83 : decode cX12_hand 83 = .ok (.iaload, 1) := by decide +kernel
theorem dX12_hand_84 : decode cX12_hand 84 = .ok (.iconst 1, 1) := by decide +kernel
theorem dX12_hand_85 : decode cX12_hand 85 = .ok (.iadd, 1) := by decide +kernel
theorem dX12_hand_86 : decode cX12_hand 86 = .ok (.iastore, 1) := by decide +kernel
theorem dX12_hand_87 : decode cX12_hand 87 = .ok (.iload_n 2, 1) := by decide +kernel
theorem dX12_hand_88 : decode cX12_hand 88 = .ok (.ireturn, 1) := by decide +kernel
theorem dX12_paceOf_0 : decode cX12_paceOf 0 = .ok (.iload_n 0, 1) := by decide +kernel
theorem dX12_paceOf_1 : decode cX12_paceOf 1 = .ok (.tableswitch 61 1 6 #[39, 41, 43, 49, 55, 43], 39) := by decide +kernel
theorem dX12_paceOf_40 : decode cX12_paceOf 40 = .ok (.iconst 3, 1) := by decide +kernel
theorem dX12_paceOf_41 : decode cX12_paceOf 41 = .ok (.ireturn, 1) := by decide +kernel
theorem dX12_paceOf_42 : decode cX12_paceOf 42 = .ok (.iconst 1, 1) := by decide +kernel
theorem dX12_paceOf_43 : decode cX12_paceOf 43 = .ok (.ireturn, 1) := by decide +kernel
theorem dX12_paceOf_44 : decode cX12_paceOf 44 = .ok (.iconst 1, 1) := by decide +kernel
theorem dX12_paceOf_45 : decode cX12_paceOf 45 = .ok (.iload_n 2, 1) := by decide +kernel
theorem dX12_paceOf_46 : decode cX12_paceOf 46 = .ok (.iconst 2, 1) := by decide +kernel
theorem dX12_paceOf_47 : decode cX12_paceOf 47 = .ok (.irem, 1) := by decide +kernel
theorem dX12_paceOf_48 : decode cX12_paceOf 48 = .ok (.isub, 1) := by decide +kernel
theorem dX12_paceOf_49 : decode cX12_paceOf 49 = .ok (.ireturn, 1) := by decide +kernel
theorem dX12_paceOf_50 : decode cX12_paceOf 50 = .ok (.iconst 3, 1) := by decide +kernel
theorem dX12_paceOf_51 : decode cX12_paceOf 51 = .ok (.iload_n 1, 1) := by decide +kernel
theorem dX12_paceOf_52 : decode cX12_paceOf 52 = .ok (.iconst 4, 1) := by decide +kernel
theorem dX12_paceOf_53 : decode cX12_paceOf 53 = .ok (.idiv, 1) := by decide +kernel
theorem dX12_paceOf_54 : decode cX12_paceOf 54 = .ok (.iadd, 1) := by decide +kernel
theorem dX12_paceOf_55 : decode cX12_paceOf 55 = .ok (.ireturn, 1) := by decide +kernel
theorem dX12_paceOf_56 : decode cX12_paceOf 56 = .ok (.iconst 1, 1) := by decide +kernel
theorem dX12_paceOf_57 : decode cX12_paceOf 57 = .ok (.iload_n 2, 1) := by decide +kernel
theorem dX12_paceOf_58 : decode cX12_paceOf 58 = .ok (.iconst 3, 1) := by decide +kernel
theorem dX12_paceOf_59 : decode cX12_paceOf 59 = .ok (.idiv, 1) := by decide +kernel
theorem dX12_paceOf_60 : decode cX12_paceOf 60 = .ok (.iadd, 1) := by decide +kernel
theorem dX12_paceOf_61 : decode cX12_paceOf 61 = .ok (.ireturn, 1) := by decide +kernel
theorem dX12_paceOf_62 : decode cX12_paceOf 62 = .ok (.iconst 2, 1) := by decide +kernel
theorem dX12_paceOf_63 : decode cX12_paceOf 63 = .ok (.ireturn, 1) := by decide +kernel
theorem dX12_loadOf_0 : decode cX12_loadOf 0 = .ok (.iload_n 0, 1) := by decide +kernel
theorem dX12_loadOf_1 : decode cX12_loadOf 1 = .ok (.iconst 2, 1) := by decide +kernel
theorem dX12_loadOf_2 : decode cX12_loadOf 2 = .ok (.if_icmp .ne 11, 3) := by decide +kernel
theorem dX12_loadOf_5 : decode cX12_loadOf 5 = .ok (.iconst 3, 1) := by decide +kernel
theorem dX12_loadOf_6 : decode cX12_loadOf 6 = .ok (.iload_n 1, 1) := by decide +kernel
theorem dX12_loadOf_7 : decode cX12_loadOf 7 = .ok (.iconst 3, 1) := by decide +kernel
theorem dX12_loadOf_8 : decode cX12_loadOf 8 = .ok (.irem, 1) := by decide +kernel
theorem dX12_loadOf_9 : decode cX12_loadOf 9 = .ok (.iadd, 1) := by decide +kernel
theorem dX12_loadOf_10 : decode cX12_loadOf 10 = .ok (.goto 37, 3) := by decide +kernel
theorem dX12_loadOf_13 : decode cX12_loadOf 13 = .ok (.iload_n 0, 1) := by decide +kernel
theorem dX12_loadOf_14 : decode cX12_loadOf 14 = .ok (.iconst 5, 1) := by decide +kernel
theorem dX12_loadOf_15 : decode cX12_loadOf 15 = .ok (.if_icmp .ne 11, 3) := by decide +kernel
theorem dX12_loadOf_18 : decode cX12_loadOf 18 = .ok (.iconst 2, 1) := by decide +kernel
theorem dX12_loadOf_19 : decode cX12_loadOf 19 = .ok (.iload_n 1, 1) := by decide +kernel
theorem dX12_loadOf_20 : decode cX12_loadOf 20 = .ok (.iconst 3, 1) := by decide +kernel
theorem dX12_loadOf_21 : decode cX12_loadOf 21 = .ok (.irem, 1) := by decide +kernel
theorem dX12_loadOf_22 : decode cX12_loadOf 22 = .ok (.iadd, 1) := by decide +kernel
theorem dX12_loadOf_23 : decode cX12_loadOf 23 = .ok (.goto 24, 3) := by decide +kernel
theorem dX12_loadOf_26 : decode cX12_loadOf 26 = .ok (.iload_n 0, 1) := by decide +kernel
theorem dX12_loadOf_27 : decode cX12_loadOf 27 = .ok (.iconst 3, 1) := by decide +kernel
theorem dX12_loadOf_28 : decode cX12_loadOf 28 = .ok (.if_icmp .ne 8, 3) := by decide +kernel
theorem dX12_loadOf_31 : decode cX12_loadOf 31 = .ok (.bipush 9, 2) := by decide +kernel
theorem dX12_loadOf_33 : decode cX12_loadOf 33 = .ok (.goto 14, 3) := by decide +kernel
theorem dX12_loadOf_36 : decode cX12_loadOf 36 = .ok (.iload_n 0, 1) := by decide +kernel
theorem dX12_loadOf_37 : decode cX12_loadOf 37 = .ok (.bipush 6, 2) := by decide +kernel
theorem dX12_loadOf_39 : decode cX12_loadOf 39 = .ok (.if_icmp .ne 7, 3) := by decide +kernel
theorem dX12_loadOf_42 : decode cX12_loadOf 42 = .ok (.iconst 4, 1) := by decide +kernel
theorem dX12_loadOf_43 : decode cX12_loadOf 43 = .ok (.goto 4, 3) := by decide +kernel
theorem dX12_loadOf_46 : decode cX12_loadOf 46 = .ok (.iconst 2, 1) := by decide +kernel
theorem dX12_loadOf_47 : decode cX12_loadOf 47 = .ok (.ireturn, 1) := by decide +kernel
theorem dX12_usesOf_0 : decode cX12_usesOf 0 = .ok (.iload_n 0, 1) := by decide +kernel
theorem dX12_usesOf_1 : decode cX12_usesOf 1 = .ok (.iconst 3, 1) := by decide +kernel
theorem dX12_usesOf_2 : decode cX12_usesOf 2 = .ok (.if_icmp .ne 7, 3) := by decide +kernel
theorem dX12_usesOf_5 : decode cX12_usesOf 5 = .ok (.iconst 2, 1) := by decide +kernel
theorem dX12_usesOf_6 : decode cX12_usesOf 6 = .ok (.goto 18, 3) := by decide +kernel
theorem dX12_usesOf_9 : decode cX12_usesOf 9 = .ok (.iload_n 0, 1) := by decide +kernel
theorem dX12_usesOf_10 : decode cX12_usesOf 10 = .ok (.bipush 6, 2) := by decide +kernel
theorem dX12_usesOf_12 : decode cX12_usesOf 12 = .ok (.if_icmp .ne 11, 3) := by decide +kernel
theorem dX12_usesOf_15 : decode cX12_usesOf 15 = .ok (.iconst 2, 1) := by decide +kernel
theorem dX12_usesOf_16 : decode cX12_usesOf 16 = .ok (.iload_n 1, 1) := by decide +kernel
theorem dX12_usesOf_17 : decode cX12_usesOf 17 = .ok (.iconst 2, 1) := by decide +kernel
theorem dX12_usesOf_18 : decode cX12_usesOf 18 = .ok (.irem, 1) := by decide +kernel
theorem dX12_usesOf_19 : decode cX12_usesOf 19 = .ok (.iadd, 1) := by decide +kernel
theorem dX12_usesOf_20 : decode cX12_usesOf 20 = .ok (.goto 4, 3) := by decide +kernel
theorem dX12_usesOf_23 : decode cX12_usesOf 23 = .ok (.iconst 1, 1) := by decide +kernel
theorem dX12_usesOf_24 : decode cX12_usesOf 24 = .ok (.ireturn, 1) := by decide +kernel
theorem dX12_ofHand_0 : decode cX12_ofHand 0 = .ok (.aload_n 0, 1) := by decide +kernel
theorem dX12_ofHand_1 : decode cX12_ofHand 1 = .ok (.iload_n 1, 1) := by decide +kernel
theorem dX12_ofHand_2 : decode cX12_ofHand 2 = .ok (.invokevirtual 98, 3) := by decide +kernel
theorem dX12_ofHand_5 : decode cX12_ofHand 5 = .ok (.ifCond .eq 12, 3) := by decide +kernel
theorem dX12_ofHand_8 : decode cX12_ofHand 8 = .ok (.iload_n 2, 1) := by decide +kernel
theorem dX12_ofHand_9 : decode cX12_ofHand 9 = .ok (.iconst 0, 1) := by decide +kernel
theorem dX12_ofHand_10 : decode cX12_ofHand 10 = .ok (.iconst 5, 1) := by decide +kernel
theorem dX12_ofHand_11 : decode cX12_ofHand 11 = .ok (.invokestatic 57, 3) := by decide +kernel
theorem dX12_ofHand_14 : decode cX12_ofHand 14 = .ok (.ifCond .ne 10, 3) := by decide +kernel
theorem dX12_ofHand_17 : decode cX12_ofHand 17 = .ok (.aload_n 0, 1) := by decide +kernel
theorem dX12_ofHand_18 : decode cX12_ofHand 18 = .ok (.ldc 61, 2) := by decide +kernel
theorem dX12_ofHand_20 : decode cX12_ofHand 20 = .ok (.invokevirtual 62, 3) := by decide +kernel
theorem dX12_ofHand_23 : decode cX12_ofHand 23 = .ok (.ireturn, 1) := by decide +kernel
theorem dX12_ofHand_24 : decode cX12_ofHand 24 = .ok (.aload_n 0, 1) := by decide +kernel
theorem dX12_ofHand_25 : decode cX12_ofHand 25 = .ok (.iload_n 1, 1) := by decide +kernel
theorem dX12_ofHand_26 : decode cX12_ofHand 26 = .ok (.invokevirtual 101, 3) := by decide +kernel
theorem dX12_ofHand_29 : decode cX12_ofHand 29 = .ok (.istore_n 3, 1) := by decide +kernel
theorem dX12_ofHand_30 : decode cX12_ofHand 30 = .ok (.aload_n 0, 1) := by decide +kernel
theorem dX12_ofHand_31 : decode cX12_ofHand 31 = .ok (.iload_n 1, 1) := by decide +kernel
theorem dX12_ofHand_32 : decode cX12_ofHand 32 = .ok (.invokevirtual 104, 3) := by decide +kernel
theorem dX12_ofHand_35 : decode cX12_ofHand 35 = .ok (.istore 4, 2) := by decide +kernel
theorem dX12_ofHand_37 : decode cX12_ofHand 37 = .ok (.iload_n 2, 1) := by decide +kernel
theorem dX12_ofHand_38 : decode cX12_ofHand 38 = .ok (.tableswitch 62 0 4 #[34, 36, 39, 47, 55], 34) := by decide +kernel
theorem dX12_ofHand_72 : decode cX12_ofHand 72 = .ok (.iload_n 3, 1) := by decide +kernel
theorem dX12_ofHand_73 : decode cX12_ofHand 73 = .ok (.ireturn, 1) := by decide +kernel
theorem dX12_ofHand_74 : decode cX12_ofHand 74 = .ok (.iload 4, 2) := by decide +kernel
theorem dX12_ofHand_76 : decode cX12_ofHand 76 = .ok (.ireturn, 1) := by decide +kernel
theorem dX12_ofHand_77 : decode cX12_ofHand 77 = .ok (.iload_n 3, 1) := by decide +kernel
theorem dX12_ofHand_78 : decode cX12_ofHand 78 = .ok (.iload 4, 2) := by decide +kernel
theorem dX12_ofHand_80 : decode cX12_ofHand 80 = .ok (.iconst 0, 1) := by decide +kernel
theorem dX12_ofHand_81 : decode cX12_ofHand 81 = .ok (.invokestatic 107, 3) := by decide +kernel
theorem dX12_ofHand_84 : decode cX12_ofHand 84 = .ok (.ireturn, 1) := by decide +kernel
theorem dX12_ofHand_85 : decode cX12_ofHand 85 = .ok (.iload_n 3, 1) := by decide +kernel
theorem dX12_ofHand_86 : decode cX12_ofHand 86 = .ok (.iload 4, 2) := by decide +kernel
theorem dX12_ofHand_88 : decode cX12_ofHand 88 = .ok (.iconst 3, 1) := by decide +kernel
theorem dX12_ofHand_89 : decode cX12_ofHand 89 = .ok (.invokestatic 107, 3) := by decide +kernel
theorem dX12_ofHand_92 : decode cX12_ofHand 92 = .ok (.ireturn, 1) := by decide +kernel
theorem dX12_ofHand_93 : decode cX12_ofHand 93 = .ok (.iload_n 3, 1) := by decide +kernel
theorem dX12_ofHand_94 : decode cX12_ofHand 94 = .ok (.iload 4, 2) := by decide +kernel
theorem dX12_ofHand_96 : decode cX12_ofHand 96 = .ok (.invokestatic 111, 3) := by decide +kernel
theorem dX12_ofHand_99 : decode cX12_ofHand 99 = .ok (.ireturn, 1) := by decide +kernel
theorem dX12_ofHand_100 : decode cX12_ofHand 100 = .ok (.iload_n 3, 1) := by decide +kernel
theorem dX12_ofHand_101 : decode cX12_ofHand 101 = .ok (.iload 4, 2) := by decide +kernel
theorem dX12_ofHand_103 : decode cX12_ofHand 103 = .ok (.invokestatic 115, 3) := by decide +kernel
theorem dX12_ofHand_106 : decode cX12_ofHand 106 = .ok (.ireturn, 1) := by decide +kernel
theorem dX12_become_0 : decode cX12_become 0 = .ok (.aload_n 0, 1) := by decide +kernel
theorem dX12_become_1 : decode cX12_become 1 = .ok (.iload_n 1, 1) := by decide +kernel
theorem dX12_become_2 : decode cX12_become 2 = .ok (.invokevirtual 98, 3) := by decide +kernel
theorem dX12_become_5 : decode cX12_become 5 = .ok (.ifCond .eq 13, 3) := by decide +kernel
theorem dX12_become_8 : decode cX12_become 8 = .ok (.iload_n 2, 1) := by decide +kernel
theorem dX12_become_9 : decode cX12_become 9 = .ok (.iconst 0, 1) := by decide +kernel
theorem dX12_become_10 : decode cX12_become 10 = .ok (.bipush 69, 2) := by decide +kernel
theorem dX12_become_12 : decode cX12_become 12 = .ok (.invokestatic 57, 3) := by decide +kernel
theorem dX12_become_15 : decode cX12_become 15 = .ok (.ifCond .ne 10, 3) := by decide +kernel
theorem dX12_become_18 : decode cX12_become 18 = .ok (.aload_n 0, 1) := by decide +kernel
theorem dX12_become_19 : decode cX12_become 19 = .ok (.ldc 61, 2) := by decide +kernel
theorem dX12_become_21 : decode cX12_become 21 = .ok (.invokevirtual 62, 3) := by decide +kernel
theorem dX12_become_24 : decode cX12_become 24 = .ok (.ireturn, 1) := by decide +kernel
theorem dX12_become_25 : decode cX12_become 25 = .ok (.aload_n 0, 1) := by decide +kernel
theorem dX12_become_26 : decode cX12_become 26 = .ok (.iload_n 1, 1) := by decide +kernel
theorem dX12_become_27 : decode cX12_become 27 = .ok (.invokevirtual 101, 3) := by decide +kernel
theorem dX12_become_30 : decode cX12_become 30 = .ok (.istore_n 3, 1) := by decide +kernel
theorem dX12_become_31 : decode cX12_become 31 = .ok (.aload_n 0, 1) := by decide +kernel
theorem dX12_become_32 : decode cX12_become 32 = .ok (.getfield 7, 3) := by decide +kernel
theorem dX12_become_35 : decode cX12_become 35 = .ok (.bipush 13, 2) := by decide +kernel
theorem dX12_become_37 : decode cX12_become 37 = .ok (.iconst 2, 1) := by decide +kernel
theorem dX12_become_38 : decode cX12_become 38 = .ok (.iload_n 1, 1) := by decide +kernel
theorem dX12_become_39 : decode cX12_become 39 = .ok (.imul, 1) := by decide +kernel
theorem dX12_become_40 : decode cX12_become 40 = .ok (.iadd, 1) := by decide +kernel
theorem dX12_become_41 : decode cX12_become 41 = .ok (.iload_n 2, 1) := by decide +kernel
theorem dX12_become_42 : decode cX12_become 42 = .ok (.bipush 10, 2) := by decide +kernel
theorem dX12_become_44 : decode cX12_become 44 = .ok (.idiv, 1) := by decide +kernel
theorem dX12_become_45 : decode cX12_become 45 = .ok (.iastore, 1) := by decide +kernel
theorem dX12_become_46 : decode cX12_become 46 = .ok (.aload_n 0, 1) := by decide +kernel
theorem dX12_become_47 : decode cX12_become 47 = .ok (.getfield 7, 3) := by decide +kernel
theorem dX12_become_50 : decode cX12_become 50 = .ok (.bipush 13, 2) := by decide +kernel
theorem dX12_become_52 : decode cX12_become 52 = .ok (.iconst 2, 1) := by decide +kernel
theorem dX12_become_53 : decode cX12_become 53 = .ok (.iload_n 1, 1) := by decide +kernel
theorem dX12_become_54 : decode cX12_become 54 = .ok (.imul, 1) := by decide +kernel
theorem dX12_become_55 : decode cX12_become 55 = .ok (.iadd, 1) := by decide +kernel
theorem dX12_become_56 : decode cX12_become 56 = .ok (.iconst 1, 1) := by decide +kernel
theorem dX12_become_57 : decode cX12_become 57 = .ok (.iadd, 1) := by decide +kernel
theorem dX12_become_58 : decode cX12_become 58 = .ok (.iload_n 2, 1) := by decide +kernel
theorem dX12_become_59 : decode cX12_become 59 = .ok (.bipush 10, 2) := by decide +kernel
theorem dX12_become_61 : decode cX12_become 61 = .ok (.irem, 1) := by decide +kernel
theorem dX12_become_62 : decode cX12_become 62 = .ok (.iastore, 1) := by decide +kernel
theorem dX12_become_63 : decode cX12_become 63 = .ok (.iload_n 3, 1) := by decide +kernel
theorem dX12_become_64 : decode cX12_become 64 = .ok (.ireturn, 1) := by decide +kernel
theorem dX12_above_0 : decode cX12_above 0 = .ok (.iload_n 0, 1) := by decide +kernel
theorem dX12_above_1 : decode cX12_above 1 = .ok (.ifCond .ne 7, 3) := by decide +kernel
theorem dX12_above_4 : decode cX12_above 4 = .ok (.iconst (-1), 1) := by decide +kernel
theorem dX12_above_5 : decode cX12_above 5 = .ok (.goto 32, 3) := by decide +kernel
theorem dX12_above_8 : decode cX12_above 8 = .ok (.iload_n 0, 1) := by decide +kernel
theorem dX12_above_9 : decode cX12_above 9 = .ok (.iconst 4, 1) := by decide +kernel
theorem dX12_above_10 : decode cX12_above 10 = .ok (.if_icmp .ne 7, 3) := by decide +kernel
theorem dX12_above_13 : decode cX12_above 13 = .ok (.iconst 1, 1) := by decide +kernel
theorem dX12_above_14 : decode cX12_above 14 = .ok (.goto 23, 3) := by decide +kernel
theorem dX12_above_17 : decode cX12_above 17 = .ok (.iload_n 0, 1) := by decide +kernel
theorem dX12_above_18 : decode cX12_above 18 = .ok (.iconst 5, 1) := by decide +kernel
theorem dX12_above_19 : decode cX12_above 19 = .ok (.if_icmp .ne 7, 3) := by decide +kernel
theorem dX12_above_22 : decode cX12_above 22 = .ok (.iconst 2, 1) := by decide +kernel
theorem dX12_above_23 : decode cX12_above 23 = .ok (.goto 14, 3) := by decide +kernel
theorem dX12_above_26 : decode cX12_above 26 = .ok (.iload_n 0, 1) := by decide +kernel
theorem dX12_above_27 : decode cX12_above 27 = .ok (.bipush 6, 2) := by decide +kernel
theorem dX12_above_29 : decode cX12_above 29 = .ok (.if_icmp .ne 7, 3) := by decide +kernel
theorem dX12_above_32 : decode cX12_above 32 = .ok (.iconst 3, 1) := by decide +kernel
theorem dX12_above_33 : decode cX12_above 33 = .ok (.goto 4, 3) := by decide +kernel
theorem dX12_above_36 : decode cX12_above 36 = .ok (.iconst 0, 1) := by decide +kernel
theorem dX12_above_37 : decode cX12_above 37 = .ok (.ireturn, 1) := by decide +kernel
theorem dX12_as_0 : decode cX12_as 0 = .ok (.aload_n 0, 1) := by decide +kernel
theorem dX12_as_1 : decode cX12_as 1 = .ok (.iload_n 1, 1) := by decide +kernel
theorem dX12_as_2 : decode cX12_as 2 = .ok (.invokevirtual 98, 3) := by decide +kernel
theorem dX12_as_5 : decode cX12_as 5 = .ok (.ifCond .eq 13, 3) := by decide +kernel
theorem dX12_as_8 : decode cX12_as 8 = .ok (.iload_n 2, 1) := by decide +kernel
theorem dX12_as_9 : decode cX12_as 9 = .ok (.iconst 0, 1) := by decide +kernel
theorem dX12_as_10 : decode cX12_as 10 = .ok (.bipush 6, 2) := by decide +kernel
theorem dX12_as_12 : decode cX12_as 12 = .ok (.invokestatic 57, 3) := by decide +kernel
theorem dX12_as_15 : decode cX12_as 15 = .ok (.ifCond .ne 10, 3) := by decide +kernel
theorem dX12_as_18 : decode cX12_as 18 = .ok (.aload_n 0, 1) := by decide +kernel
theorem dX12_as_19 : decode cX12_as 19 = .ok (.ldc 61, 2) := by decide +kernel
theorem dX12_as_21 : decode cX12_as 21 = .ok (.invokevirtual 62, 3) := by decide +kernel
theorem dX12_as_24 : decode cX12_as 24 = .ok (.ireturn, 1) := by decide +kernel
theorem dX12_as_25 : decode cX12_as 25 = .ok (.aload_n 0, 1) := by decide +kernel
theorem dX12_as_26 : decode cX12_as 26 = .ok (.iload_n 1, 1) := by decide +kernel
theorem dX12_as_27 : decode cX12_as 27 = .ok (.invokevirtual 101, 3) := by decide +kernel
theorem dX12_as_30 : decode cX12_as 30 = .ok (.istore_n 3, 1) := by decide +kernel
theorem dX12_as_31 : decode cX12_as 31 = .ok (.iload_n 3, 1) := by decide +kernel
theorem dX12_as_32 : decode cX12_as 32 = .ok (.ifCond .lt 16, 3) := by decide +kernel
theorem dX12_as_35 : decode cX12_as 35 = .ok (.iload_n 3, 1) := by decide +kernel
theorem dX12_as_36 : decode cX12_as 36 = .ok (.iload_n 2, 1) := by decide +kernel
theorem dX12_as_37 : decode cX12_as 37 = .ok (.if_icmp .eq 11, 3) := by decide +kernel
theorem dX12_as_40 : decode cX12_as 40 = .ok (.iload_n 3, 1) := by decide +kernel
theorem dX12_as_41 : decode cX12_as 41 = .ok (.invokestatic 118, 3) := by decide +kernel
theorem dX12_as_44 : decode cX12_as 44 = .ok (.istore_n 3, 1) := by decide +kernel
theorem dX12_as_45 : decode cX12_as 45 = .ok (.goto (-14), 3) := by decide +kernel
theorem dX12_as_48 : decode cX12_as 48 = .ok (.iload_n 3, 1) := by decide +kernel
theorem dX12_as_49 : decode cX12_as 49 = .ok (.ifCond .ge 12, 3) := by decide +kernel
theorem dX12_as_52 : decode cX12_as 52 = .ok (.aload_n 0, 1) := by decide +kernel
theorem dX12_as_53 : decode cX12_as 53 = .ok (.ldc 121, 2) := by decide +kernel
theorem dX12_as_55 : decode cX12_as 55 = .ok (.invokevirtual 62, 3) := by decide +kernel
theorem dX12_as_58 : decode cX12_as 58 = .ok (.goto 8, 3) := by decide +kernel
theorem dX12_as_61 : decode cX12_as 61 = .ok (.aload_n 0, 1) := by decide +kernel
theorem dX12_as_62 : decode cX12_as 62 = .ok (.iload_n 1, 1) := by decide +kernel
theorem dX12_as_63 : decode cX12_as 63 = .ok (.invokevirtual 104, 3) := by decide +kernel
theorem dX12_as_66 : decode cX12_as 66 = .ok (.ireturn, 1) := by decide +kernel
theorem dX12_byteAt_0 : decode cX12_byteAt 0 = .ok (.iload_n 1, 1) := by decide +kernel
theorem dX12_byteAt_1 : decode cX12_byteAt 1 = .ok (.aload_n 0, 1) := by decide +kernel
theorem dX12_byteAt_2 : decode cX12_byteAt 2 = .ok (.getfield 122, 3) := by decide +kernel
theorem dX12_byteAt_5 : decode cX12_byteAt 5 = .ok (.if_icmp .ge 24, 3) := by decide +kernel
theorem dX12_byteAt_8 : decode cX12_byteAt 8 = .ok (.aload_n 0, 1) := by decide +kernel
theorem dX12_byteAt_9 : decode cX12_byteAt 9 = .ok (.getfield 7, 3) := by decide +kernel
theorem dX12_byteAt_12 : decode cX12_byteAt 12 = .ok (.sipush 167, 3) := by decide +kernel
theorem dX12_byteAt_15 : decode cX12_byteAt 15 = .ok (.bipush 50, 2) := by decide +kernel
theorem dX12_byteAt_17 : decode cX12_byteAt 17 = .ok (.aload_n 0, 1) := by decide +kernel
theorem dX12_byteAt_18 : decode cX12_byteAt 18 = .ok (.getfield 126, 3) := by decide +kernel
theorem dX12_byteAt_21 : decode cX12_byteAt 21 = .ok (.imul, 1) := by decide +kernel
theorem dX12_byteAt_22 : decode cX12_byteAt 22 = .ok (.iadd, 1) := by decide +kernel
theorem dX12_byteAt_23 : decode cX12_byteAt 23 = .ok (.iload_n 1, 1) := by decide +kernel
theorem dX12_byteAt_24 : decode cX12_byteAt 24 = .ok (.iadd, 1) := by decide +kernel
theorem dX12_byteAt_25 : decode cX12_byteAt 25 = .ok (.iaload, 1) := by decide +kernel
theorem dX12_byteAt_26 : decode cX12_byteAt 26 = .ok (.goto 4, 3) := by decide +kernel
theorem dX12_byteAt_29 : decode cX12_byteAt 29 = .ok (.iconst (-1), 1) := by decide +kernel
theorem dX12_byteAt_30 : decode cX12_byteAt 30 = .ok (.ireturn, 1) := by decide +kernel
theorem dX12_isDigit_0 : decode cX12_isDigit 0 = .ok (.iload_n 0, 1) := by decide +kernel
theorem dX12_isDigit_1 : decode cX12_isDigit 1 = .ok (.bipush 48, 2) := by decide +kernel
theorem dX12_isDigit_3 : decode cX12_isDigit 3 = .ok (.bipush 57, 2) := by decide +kernel
theorem dX12_isDigit_5 : decode cX12_isDigit 5 = .ok (.invokestatic 57, 3) := by decide +kernel
theorem dX12_isDigit_8 : decode cX12_isDigit 8 = .ok (.ireturn, 1) := by decide +kernel
theorem dX12_fails_0 : decode cX12_fails 0 = .ok (.aload_n 0, 1) := by decide +kernel
theorem dX12_fails_1 : decode cX12_fails 1 = .ok (.iconst 0, 1) := by decide +kernel
theorem dX12_fails_2 : decode cX12_fails 2 = .ok (.putfield 129, 3) := by decide +kernel
theorem dX12_fails_5 : decode cX12_fails 5 = .ok (.iconst 0, 1) := by decide +kernel
theorem dX12_fails_6 : decode cX12_fails 6 = .ok (.ireturn, 1) := by decide +kernel
theorem dX12_number_0 : decode cX12_number 0 = .ok (.iconst 0, 1) := by decide +kernel
theorem dX12_number_1 : decode cX12_number 1 = .ok (.istore_n 1, 1) := by decide +kernel
theorem dX12_number_2 : decode cX12_number 2 = .ok (.iconst 0, 1) := by decide +kernel
theorem dX12_number_3 : decode cX12_number 3 = .ok (.istore_n 2, 1) := by decide +kernel
theorem dX12_number_4 : decode cX12_number 4 = .ok (.iload_n 2, 1) := by decide +kernel
theorem dX12_number_5 : decode cX12_number 5 = .ok (.iconst 4, 1) := by decide +kernel
theorem dX12_number_6 : decode cX12_number 6 = .ok (.if_icmp .ge 50, 3) := by decide +kernel
theorem dX12_number_9 : decode cX12_number 9 = .ok (.aload_n 0, 1) := by decide +kernel
theorem dX12_number_10 : decode cX12_number 10 = .ok (.aload_n 0, 1) := by decide +kernel
theorem dX12_number_11 : decode cX12_number 11 = .ok (.getfield 132, 3) := by decide +kernel
theorem dX12_number_14 : decode cX12_number 14 = .ok (.invokevirtual 135, 3) := by decide +kernel
theorem dX12_number_17 : decode cX12_number 17 = .ok (.invokestatic 138, 3) := by decide +kernel
theorem dX12_number_20 : decode cX12_number 20 = .ok (.ifCond .eq 36, 3) := by decide +kernel
theorem dX12_number_23 : decode cX12_number 23 = .ok (.bipush 10, 2) := by decide +kernel
theorem dX12_number_25 : decode cX12_number 25 = .ok (.iload_n 1, 1) := by decide +kernel
theorem dX12_number_26 : decode cX12_number 26 = .ok (.imul, 1) := by decide +kernel
theorem dX12_number_27 : decode cX12_number 27 = .ok (.aload_n 0, 1) := by decide +kernel
theorem dX12_number_28 : decode cX12_number 28 = .ok (.aload_n 0, 1) := by decide +kernel
theorem dX12_number_29 : decode cX12_number 29 = .ok (.getfield 132, 3) := by decide +kernel
theorem dX12_number_32 : decode cX12_number 32 = .ok (.invokevirtual 135, 3) := by decide +kernel
theorem dX12_number_35 : decode cX12_number 35 = .ok (.iadd, 1) := by decide +kernel
theorem dX12_number_36 : decode cX12_number 36 = .ok (.bipush 48, 2) := by decide +kernel
theorem dX12_number_38 : decode cX12_number 38 = .ok (.isub, 1) := by decide +kernel
theorem dX12_number_39 : decode cX12_number 39 = .ok (.istore_n 1, 1) := by decide +kernel
theorem dX12_number_40 : decode cX12_number 40 = .ok (.aload_n 0, 1) := by decide +kernel
theorem dX12_number_41 : decode cX12_number 41 = .ok (.dup, 1) := by decide +kernel
theorem dX12_number_42 : decode cX12_number 42 = .ok (.getfield 132, 3) := by decide +kernel
theorem dX12_number_45 : decode cX12_number 45 = .ok (.iconst 1, 1) := by decide +kernel
theorem dX12_number_46 : decode cX12_number 46 = .ok (.iadd, 1) := by decide +kernel
theorem dX12_number_47 : decode cX12_number 47 = .ok (.putfield 132, 3) := by decide +kernel
theorem dX12_number_50 : decode cX12_number 50 = .ok (.iinc 2 1, 3) := by decide +kernel
theorem dX12_number_53 : decode cX12_number 53 = .ok (.goto (-49), 3) := by decide +kernel
theorem dX12_number_56 : decode cX12_number 56 = .ok (.iload_n 1, 1) := by decide +kernel
theorem dX12_number_57 : decode cX12_number 57 = .ok (.ireturn, 1) := by decide +kernel
theorem dX12_named_0 : decode cX12_named 0 = .ok (.iload_n 1, 1) := by decide +kernel
theorem dX12_named_1 : decode cX12_named 1 = .ok (.bipush 114, 2) := by decide +kernel
theorem dX12_named_3 : decode cX12_named 3 = .ok (.if_icmp .ne 7, 3) := by decide +kernel
theorem dX12_named_6 : decode cX12_named 6 = .ok (.iconst 1, 1) := by decide +kernel
theorem dX12_named_7 : decode cX12_named 7 = .ok (.goto 4, 3) := by decide +kernel
theorem dX12_named_10 : decode cX12_named 10 = .ok (.iconst 0, 1) := by decide +kernel
theorem dX12_named_11 : decode cX12_named 11 = .ok (.istore_n 2, 1) := by decide +kernel
theorem dX12_named_12 : decode cX12_named 12 = .ok (.iload_n 1, 1) := by decide +kernel
theorem dX12_named_13 : decode cX12_named 13 = .ok (.bipush 115, 2) := by decide +kernel
theorem dX12_named_15 : decode cX12_named 15 = .ok (.if_icmp .ne 7, 3) := by decide +kernel
theorem dX12_named_18 : decode cX12_named 18 = .ok (.iconst 1, 1) := by decide +kernel
theorem dX12_named_19 : decode cX12_named 19 = .ok (.goto 4, 3) := by decide +kernel
theorem dX12_named_22 : decode cX12_named 22 = .ok (.iconst 0, 1) := by decide +kernel
theorem dX12_named_23 : decode cX12_named 23 = .ok (.istore_n 3, 1) := by decide +kernel
theorem dX12_named_24 : decode cX12_named 24 = .ok (.iload_n 1, 1) := by decide +kernel
theorem dX12_named_25 : decode cX12_named 25 = .ok (.aload_n 0, 1) := by decide +kernel
theorem dX12_named_26 : decode cX12_named 26 = .ok (.getfield 126, 3) := by decide +kernel
theorem dX12_named_29 : decode cX12_named 29 = .ok (.ifCond .ne 8, 3) := by decide +kernel
theorem dX12_named_32 : decode cX12_named 32 = .ok (.bipush 104, 2) := by decide +kernel
theorem dX12_named_34 : decode cX12_named 34 = .ok (.goto 5, 3) := by decide +kernel
theorem dX12_named_37 : decode cX12_named 37 = .ok (.bipush 119, 2) := by decide +kernel
theorem dX12_named_39 : decode cX12_named 39 = .ok (.if_icmp .ne 7, 3) := by decide +kernel
theorem dX12_named_42 : decode cX12_named 42 = .ok (.iconst 1, 1) := by decide +kernel
theorem dX12_named_43 : decode cX12_named 43 = .ok (.goto 4, 3) := by decide +kernel
theorem dX12_named_46 : decode cX12_named 46 = .ok (.iconst 0, 1) := by decide +kernel
theorem dX12_named_47 : decode cX12_named 47 = .ok (.istore 4, 2) := by decide +kernel
theorem dX12_named_49 : decode cX12_named 49 = .ok (.iload_n 2, 1) := by decide +kernel
theorem dX12_named_50 : decode cX12_named 50 = .ok (.ifCond .ne 17, 3) := by decide +kernel
theorem dX12_named_53 : decode cX12_named 53 = .ok (.iload_n 3, 1) := by decide +kernel
theorem dX12_named_54 : decode cX12_named 54 = .ok (.ifCond .ne 13, 3) := by decide +kernel
theorem dX12_named_57 : decode cX12_named 57 = .ok (.iload 4, 2) := by decide +kernel
theorem dX12_named_59 : decode cX12_named 59 = .ok (.ifCond .ne 8, 3) := by decide +kernel
theorem dX12_named_62 : decode cX12_named 62 = .ok (.aload_n 0, 1) := by decide +kernel
theorem dX12_named_63 : decode cX12_named 63 = .ok (.invokevirtual 141, 3) := by decide +kernel
theorem dX12_named_66 : decode cX12_named 66 = .ok (.ireturn, 1) := by decide +kernel
theorem dX12_named_67 : decode cX12_named 67 = .ok (.aload_n 0, 1) := by decide +kernel
theorem dX12_named_68 : decode cX12_named 68 = .ok (.dup, 1) := by decide +kernel
theorem dX12_named_69 : decode cX12_named 69 = .ok (.getfield 132, 3) := by decide +kernel
theorem dX12_named_72 : decode cX12_named 72 = .ok (.iconst 1, 1) := by decide +kernel
theorem dX12_named_73 : decode cX12_named 73 = .ok (.iadd, 1) := by decide +kernel
theorem dX12_named_74 : decode cX12_named 74 = .ok (.putfield 132, 3) := by decide +kernel
theorem dX12_named_77 : decode cX12_named 77 = .ok (.iload_n 2, 1) := by decide +kernel
theorem dX12_named_78 : decode cX12_named 78 = .ok (.ifCond .eq 10, 3) := by decide +kernel
theorem dX12_named_81 : decode cX12_named 81 = .ok (.aload_n 0, 1) := by decide +kernel
theorem dX12_named_82 : decode cX12_named 82 = .ok (.getfield 144, 3) := by decide +kernel
theorem dX12_named_85 : decode cX12_named 85 = .ok (.goto 18, 3) := by decide +kernel
theorem dX12_named_88 : decode cX12_named 88 = .ok (.iload_n 3, 1) := by decide +kernel
theorem dX12_named_89 : decode cX12_named 89 = .ok (.ifCond .eq 10, 3) := by decide +kernel
theorem dX12_named_92 : decode cX12_named 92 = .ok (.aload_n 0, 1) := by decide +kernel
theorem dX12_named_93 : decode cX12_named 93 = .ok (.getfield 147, 3) := by decide +kernel
theorem dX12_named_96 : decode cX12_named 96 = .ok (.goto 7, 3) := by decide +kernel
theorem dX12_named_99 : decode cX12_named 99 = .ok (.aload_n 0, 1) := by decide +kernel
theorem dX12_named_100 : decode cX12_named 100 = .ok (.getfield 150, 3) := by decide +kernel
theorem dX12_named_103 : decode cX12_named 103 = .ok (.ireturn, 1) := by decide +kernel
theorem dX12_factor_0 : decode cX12_factor 0 = .ok (.aload_n 0, 1) := by decide +kernel
theorem dX12_factor_1 : decode cX12_factor 1 = .ok (.aload_n 0, 1) := by decide +kernel
theorem dX12_factor_2 : decode cX12_factor 2 = .ok (.getfield 132, 3) := by decide +kernel
theorem dX12_factor_5 : decode cX12_factor 5 = .ok (.invokevirtual 135, 3) := by decide +kernel
theorem dX12_factor_8 : decode cX12_factor 8 = .ok (.istore_n 1, 1) := by decide +kernel
theorem dX12_factor_9 : decode cX12_factor 9 = .ok (.iload_n 1, 1) := by decide +kernel
theorem dX12_factor_10 : decode cX12_factor 10 = .ok (.invokestatic 138, 3) := by decide +kernel
theorem dX12_factor_13 : decode cX12_factor 13 = .ok (.ifCond .eq 8, 3) := by decide +kernel
theorem dX12_factor_16 : decode cX12_factor 16 = .ok (.aload_n 0, 1) := by decide +kernel
theorem dX12_factor_17 : decode cX12_factor 17 = .ok (.invokevirtual 153, 3) := by decide +kernel
theorem dX12_factor_20 : decode cX12_factor 20 = .ok (.ireturn, 1) := by decide +kernel
theorem dX12_factor_21 : decode cX12_factor 21 = .ok (.iload_n 1, 1) := by decide +kernel
theorem dX12_factor_22 : decode cX12_factor 22 = .ok (.bipush 33, 2) := by decide +kernel
theorem dX12_factor_24 : decode cX12_factor 24 = .ok (.if_icmp .eq 15, 3) := by decide +kernel
theorem dX12_factor_27 : decode cX12_factor 27 = .ok (.iload_n 1, 1) := by decide +kernel
theorem dX12_factor_28 : decode cX12_factor 28 = .ok (.bipush 40, 2) := by decide +kernel
theorem dX12_factor_30 : decode cX12_factor 30 = .ok (.if_icmp .eq 9, 3) := by decide +kernel
theorem dX12_factor_33 : decode cX12_factor 33 = .ok (.aload_n 0, 1) := by decide +kernel
theorem dX12_factor_34 : decode cX12_factor 34 = .ok (.iload_n 1, 1) := by decide +kernel
theorem dX12_factor_35 : decode cX12_factor 35 = .ok (.invokevirtual 156, 3) := by decide +kernel
theorem dX12_factor_38 : decode cX12_factor 38 = .ok (.ireturn, 1) := by decide +kernel
theorem dX12_factor_39 : decode cX12_factor 39 = .ok (.aload_n 0, 1) := by decide +kernel
theorem dX12_factor_40 : decode cX12_factor 40 = .ok (.getfield 159, 3) := by decide +kernel
theorem dX12_factor_43 : decode cX12_factor 43 = .ok (.iconst 5, 1) := by decide +kernel
theorem dX12_factor_44 : decode cX12_factor 44 = .ok (.if_icmp .ne 8, 3) := by decide +kernel
theorem dX12_factor_47 : decode cX12_factor 47 = .ok (.aload_n 0, 1) := by decide +kernel
theorem dX12_factor_48 : decode cX12_factor 48 = .ok (.invokevirtual 141, 3) := by decide +kernel
theorem dX12_factor_51 : decode cX12_factor 51 = .ok (.ireturn, 1) := by decide +kernel
theorem dX12_factor_52 : decode cX12_factor 52 = .ok (.aload_n 0, 1) := by decide +kernel
theorem dX12_factor_53 : decode cX12_factor 53 = .ok (.dup, 1) := by decide +kernel
theorem dX12_factor_54 : decode cX12_factor 54 = .ok (.getfield 159, 3) := by decide +kernel
theorem dX12_factor_57 : decode cX12_factor 57 = .ok (.iconst 1, 1) := by decide +kernel
theorem dX12_factor_58 : decode cX12_factor 58 = .ok (.iadd, 1) := by decide +kernel
theorem dX12_factor_59 : decode cX12_factor 59 = .ok (.putfield 159, 3) := by decide +kernel
theorem dX12_factor_62 : decode cX12_factor 62 = .ok (.aload_n 0, 1) := by decide +kernel
theorem dX12_factor_63 : decode cX12_factor 63 = .ok (.dup, 1) := by decide +kernel
theorem dX12_factor_64 : decode cX12_factor 64 = .ok (.getfield 132, 3) := by decide +kernel
theorem dX12_factor_67 : decode cX12_factor 67 = .ok (.iconst 1, 1) := by decide +kernel
theorem dX12_factor_68 : decode cX12_factor 68 = .ok (.iadd, 1) := by decide +kernel
theorem dX12_factor_69 : decode cX12_factor 69 = .ok (.putfield 132, 3) := by decide +kernel
theorem dX12_factor_72 : decode cX12_factor 72 = .ok (.iload_n 1, 1) := by decide +kernel
theorem dX12_factor_73 : decode cX12_factor 73 = .ok (.bipush 33, 2) := by decide +kernel
theorem dX12_factor_75 : decode cX12_factor 75 = .ok (.if_icmp .ne 10, 3) := by decide +kernel
theorem dX12_factor_78 : decode cX12_factor 78 = .ok (.aload_n 0, 1) := by decide +kernel
theorem dX12_factor_79 : decode cX12_factor 79 = .ok (.invokevirtual 162, 3) := by decide +kernel
theorem dX12_factor_82 : decode cX12_factor 82 = .ok (.goto 7, 3) := by decide +kernel
theorem dX12_factor_85 : decode cX12_factor 85 = .ok (.aload_n 0, 1) := by decide +kernel
theorem dX12_factor_86 : decode cX12_factor 86 = .ok (.invokevirtual 165, 3) := by decide +kernel
theorem dX12_factor_89 : decode cX12_factor 89 = .ok (.istore_n 2, 1) := by decide +kernel
theorem dX12_factor_90 : decode cX12_factor 90 = .ok (.aload_n 0, 1) := by decide +kernel
theorem dX12_factor_91 : decode cX12_factor 91 = .ok (.dup, 1) := by decide +kernel
theorem dX12_factor_92 : decode cX12_factor 92 = .ok (.getfield 159, 3) := by decide +kernel
theorem dX12_factor_95 : decode cX12_factor 95 = .ok (.iconst 1, 1) := by decide +kernel
theorem dX12_factor_96 : decode cX12_factor 96 = .ok (.isub, 1) := by decide +kernel
theorem dX12_factor_97 : decode cX12_factor 97 = .ok (.putfield 159, 3) := by decide +kernel
theorem dX12_factor_100 : decode cX12_factor 100 = .ok (.iload_n 1, 1) := by decide +kernel
theorem dX12_factor_101 : decode cX12_factor 101 = .ok (.bipush 33, 2) := by decide +kernel
theorem dX12_factor_103 : decode cX12_factor 103 = .ok (.if_icmp .ne 13, 3) := by decide +kernel
theorem dX12_factor_106 : decode cX12_factor 106 = .ok (.iload_n 2, 1) := by decide +kernel
theorem dX12_factor_107 : decode cX12_factor 107 = .ok (.ifCond .ne 7, 3) := by decide +kernel
theorem dX12_factor_110 : decode cX12_factor 110 = .ok (.iconst 1, 1) := by decide +kernel
theorem dX12_factor_111 : decode cX12_factor 111 = .ok (.goto 4, 3) := by decide +kernel
theorem dX12_factor_114 : decode cX12_factor 114 = .ok (.iconst 0, 1) := by decide +kernel
theorem dX12_factor_115 : decode cX12_factor 115 = .ok (.ireturn, 1) := by decide +kernel
theorem dX12_factor_116 : decode cX12_factor 116 = .ok (.aload_n 0, 1) := by decide +kernel
theorem dX12_factor_117 : decode cX12_factor 117 = .ok (.getfield 129, 3) := by decide +kernel
theorem dX12_factor_120 : decode cX12_factor 120 = .ok (.ifCond .eq 28, 3) := by decide +kernel
theorem dX12_factor_123 : decode cX12_factor 123 = .ok (.aload_n 0, 1) := by decide +kernel
theorem dX12_factor_124 : decode cX12_factor 124 = .ok (.aload_n 0, 1) := by decide +kernel
theorem dX12_factor_125 : decode cX12_factor 125 = .ok (.getfield 132, 3) := by decide +kernel
theorem dX12_factor_128 : decode cX12_factor 128 = .ok (.invokevirtual 135, 3) := by decide +kernel
theorem dX12_factor_131 : decode cX12_factor 131 = .ok (.bipush 41, 2) := by decide +kernel
theorem dX12_factor_133 : decode cX12_factor 133 = .ok (.if_icmp .ne 15, 3) := by decide +kernel
theorem dX12_factor_136 : decode cX12_factor 136 = .ok (.aload_n 0, 1) := by decide +kernel
theorem dX12_factor_137 : decode cX12_factor 137 = .ok (.dup, 1) := by decide +kernel
theorem dX12_factor_138 : decode cX12_factor 138 = .ok (.getfield 132, 3) := by decide +kernel
theorem dX12_factor_141 : decode cX12_factor 141 = .ok (.iconst 1, 1) := by decide +kernel
theorem dX12_factor_142 : decode cX12_factor 142 = .ok (.iadd, 1) := by decide +kernel
theorem dX12_factor_143 : decode cX12_factor 143 = .ok (.putfield 132, 3) := by decide +kernel
theorem dX12_factor_146 : decode cX12_factor 146 = .ok (.iload_n 2, 1) := by decide +kernel
theorem dX12_factor_147 : decode cX12_factor 147 = .ok (.ireturn, 1) := by decide +kernel
theorem dX12_factor_148 : decode cX12_factor 148 = .ok (.aload_n 0, 1) := by decide +kernel
theorem dX12_factor_149 : decode cX12_factor 149 = .ok (.invokevirtual 141, 3) := by decide +kernel
theorem dX12_factor_152 : decode cX12_factor 152 = .ok (.ireturn, 1) := by decide +kernel
theorem dX12_product_0 : decode cX12_product 0 = .ok (.aload_n 0, 1) := by decide +kernel
theorem dX12_product_1 : decode cX12_product 1 = .ok (.invokevirtual 162, 3) := by decide +kernel
theorem dX12_product_4 : decode cX12_product 4 = .ok (.istore_n 1, 1) := by decide +kernel
theorem dX12_product_5 : decode cX12_product 5 = .ok (.aload_n 0, 1) := by decide +kernel
theorem dX12_product_6 : decode cX12_product 6 = .ok (.getfield 129, 3) := by decide +kernel
theorem dX12_product_9 : decode cX12_product 9 = .ok (.ifCond .eq 105, 3) := by decide +kernel
theorem dX12_product_12 : decode cX12_product 12 = .ok (.aload_n 0, 1) := by decide +kernel
theorem dX12_product_13 : decode cX12_product 13 = .ok (.aload_n 0, 1) := by decide +kernel
theorem dX12_product_14 : decode cX12_product 14 = .ok (.getfield 132, 3) := by decide +kernel
theorem dX12_product_17 : decode cX12_product 17 = .ok (.invokevirtual 135, 3) := by decide +kernel
theorem dX12_product_20 : decode cX12_product 20 = .ok (.bipush 42, 2) := by decide +kernel
theorem dX12_product_22 : decode cX12_product 22 = .ok (.if_icmp .eq 29, 3) := by decide +kernel
theorem dX12_product_25 : decode cX12_product 25 = .ok (.aload_n 0, 1) := by decide +kernel
theorem dX12_product_26 : decode cX12_product 26 = .ok (.aload_n 0, 1) := by decide +kernel
theorem dX12_product_27 : decode cX12_product 27 = .ok (.getfield 132, 3) := by decide +kernel
theorem dX12_product_30 : decode cX12_product 30 = .ok (.invokevirtual 135, 3) := by decide +kernel
theorem dX12_product_33 : decode cX12_product 33 = .ok (.bipush 47, 2) := by decide +kernel
theorem dX12_product_35 : decode cX12_product 35 = .ok (.if_icmp .eq 16, 3) := by decide +kernel
theorem dX12_product_38 : decode cX12_product 38 = .ok (.aload_n 0, 1) := by decide +kernel
theorem dX12_product_39 : decode cX12_product 39 = .ok (.aload_n 0, 1) := by decide +kernel
theorem dX12_product_40 : decode cX12_product 40 = .ok (.getfield 132, 3) := by decide +kernel
theorem dX12_product_43 : decode cX12_product 43 = .ok (.invokevirtual 135, 3) := by decide +kernel
theorem dX12_product_46 : decode cX12_product 46 = .ok (.bipush 37, 2) := by decide +kernel
theorem dX12_product_48 : decode cX12_product 48 = .ok (.if_icmp .ne 66, 3) := by decide +kernel
theorem dX12_product_51 : decode cX12_product 51 = .ok (.aload_n 0, 1) := by decide +kernel
theorem dX12_product_52 : decode cX12_product 52 = .ok (.aload_n 0, 1) := by decide +kernel
theorem dX12_product_53 : decode cX12_product 53 = .ok (.getfield 132, 3) := by decide +kernel
theorem dX12_product_56 : decode cX12_product 56 = .ok (.invokevirtual 135, 3) := by decide +kernel
theorem dX12_product_59 : decode cX12_product 59 = .ok (.istore_n 2, 1) := by decide +kernel
theorem dX12_product_60 : decode cX12_product 60 = .ok (.aload_n 0, 1) := by decide +kernel
theorem dX12_product_61 : decode cX12_product 61 = .ok (.dup, 1) := by decide +kernel
theorem dX12_product_62 : decode cX12_product 62 = .ok (.getfield 132, 3) := by decide +kernel
theorem dX12_product_65 : decode cX12_product 65 = .ok (.iconst 1, 1) := by decide +kernel
theorem dX12_product_66 : decode cX12_product 66 = .ok (.iadd, 1) := by decide +kernel
theorem dX12_product_67 : decode cX12_product 67 = .ok (.putfield 132, 3) := by decide +kernel
theorem dX12_product_70 : decode cX12_product 70 = .ok (.aload_n 0, 1) := by decide +kernel
theorem dX12_product_71 : decode cX12_product 71 = .ok (.invokevirtual 162, 3) := by decide +kernel
theorem dX12_product_74 : decode cX12_product 74 = .ok (.istore_n 3, 1) := by decide +kernel
theorem dX12_product_75 : decode cX12_product 75 = .ok (.iload_n 2, 1) := by decide +kernel
theorem dX12_product_76 : decode cX12_product 76 = .ok (.bipush 42, 2) := by decide +kernel
theorem dX12_product_78 : decode cX12_product 78 = .ok (.if_icmp .ne 9, 3) := by decide +kernel
theorem dX12_product_81 : decode cX12_product 81 = .ok (.iload_n 1, 1) := by decide +kernel
theorem dX12_product_82 : decode cX12_product 82 = .ok (.iload_n 3, 1) := by decide +kernel
theorem dX12_product_83 : decode cX12_product 83 = .ok (.imul, 1) := by decide +kernel
theorem dX12_product_84 : decode cX12_product 84 = .ok (.goto 26, 3) := by decide +kernel
theorem dX12_product_87 : decode cX12_product 87 = .ok (.iload_n 3, 1) := by decide +kernel
theorem dX12_product_88 : decode cX12_product 88 = .ok (.ifCond .ne 7, 3) := by decide +kernel
theorem dX12_product_91 : decode cX12_product 91 = .ok (.iconst 0, 1) := by decide +kernel
theorem dX12_product_92 : decode cX12_product 92 = .ok (.goto 18, 3) := by decide +kernel
theorem dX12_product_95 : decode cX12_product 95 = .ok (.iload_n 2, 1) := by decide +kernel
theorem dX12_product_96 : decode cX12_product 96 = .ok (.bipush 47, 2) := by decide +kernel
theorem dX12_product_98 : decode cX12_product 98 = .ok (.if_icmp .ne 9, 3) := by decide +kernel
theorem dX12_product_101 : decode cX12_product 101 = .ok (.iload_n 1, 1) := by decide +kernel
theorem dX12_product_102 : decode cX12_product 102 = .ok (.iload_n 3, 1) := by decide +kernel
theorem dX12_product_103 : decode cX12_product 103 = .ok (.idiv, 1) := by decide +kernel
theorem dX12_product_104 : decode cX12_product 104 = .ok (.goto 6, 3) := by decide +kernel
theorem dX12_product_107 : decode cX12_product 107 = .ok (.iload_n 1, 1) := by decide +kernel
theorem dX12_product_108 : decode cX12_product 108 = .ok (.iload_n 3, 1) := by decide +kernel
theorem dX12_product_109 : decode cX12_product 109 = .ok (.irem, 1) := by decide +kernel
theorem dX12_product_110 : decode cX12_product 110 = .ok (.istore_n 1, 1) := by decide +kernel
theorem dX12_product_111 : decode cX12_product 111 = .ok (.goto (-106), 3) := by decide +kernel
theorem dX12_product_114 : decode cX12_product 114 = .ok (.iload_n 1, 1) := by decide +kernel
theorem dX12_product_115 : decode cX12_product 115 = .ok (.ireturn, 1) := by decide +kernel
theorem dX12_sum_0 : decode cX12_sum 0 = .ok (.aload_n 0, 1) := by decide +kernel
theorem dX12_sum_1 : decode cX12_sum 1 = .ok (.invokevirtual 168, 3) := by decide +kernel
theorem dX12_sum_4 : decode cX12_sum 4 = .ok (.istore_n 1, 1) := by decide +kernel
theorem dX12_sum_5 : decode cX12_sum 5 = .ok (.aload_n 0, 1) := by decide +kernel
theorem dX12_sum_6 : decode cX12_sum 6 = .ok (.getfield 129, 3) := by decide +kernel
theorem dX12_sum_9 : decode cX12_sum 9 = .ok (.ifCond .eq 72, 3) := by decide +kernel
theorem dX12_sum_12 : decode cX12_sum 12 = .ok (.aload_n 0, 1) := by decide +kernel
theorem dX12_sum_13 : decode cX12_sum 13 = .ok (.aload_n 0, 1) := by decide +kernel
theorem dX12_sum_14 : decode cX12_sum 14 = .ok (.getfield 132, 3) := by decide +kernel
theorem dX12_sum_17 : decode cX12_sum 17 = .ok (.invokevirtual 135, 3) := by decide +kernel
theorem dX12_sum_20 : decode cX12_sum 20 = .ok (.bipush 43, 2) := by decide +kernel
theorem dX12_sum_22 : decode cX12_sum 22 = .ok (.if_icmp .eq 16, 3) := by decide +kernel
theorem dX12_sum_25 : decode cX12_sum 25 = .ok (.aload_n 0, 1) := by decide +kernel
theorem dX12_sum_26 : decode cX12_sum 26 = .ok (.aload_n 0, 1) := by decide +kernel
theorem dX12_sum_27 : decode cX12_sum 27 = .ok (.getfield 132, 3) := by decide +kernel
theorem dX12_sum_30 : decode cX12_sum 30 = .ok (.invokevirtual 135, 3) := by decide +kernel
theorem dX12_sum_33 : decode cX12_sum 33 = .ok (.bipush 45, 2) := by decide +kernel
theorem dX12_sum_35 : decode cX12_sum 35 = .ok (.if_icmp .ne 46, 3) := by decide +kernel
theorem dX12_sum_38 : decode cX12_sum 38 = .ok (.aload_n 0, 1) := by decide +kernel
theorem dX12_sum_39 : decode cX12_sum 39 = .ok (.aload_n 0, 1) := by decide +kernel
theorem dX12_sum_40 : decode cX12_sum 40 = .ok (.getfield 132, 3) := by decide +kernel
theorem dX12_sum_43 : decode cX12_sum 43 = .ok (.invokevirtual 135, 3) := by decide +kernel
theorem dX12_sum_46 : decode cX12_sum 46 = .ok (.istore_n 2, 1) := by decide +kernel
theorem dX12_sum_47 : decode cX12_sum 47 = .ok (.aload_n 0, 1) := by decide +kernel
theorem dX12_sum_48 : decode cX12_sum 48 = .ok (.dup, 1) := by decide +kernel
theorem dX12_sum_49 : decode cX12_sum 49 = .ok (.getfield 132, 3) := by decide +kernel
theorem dX12_sum_52 : decode cX12_sum 52 = .ok (.iconst 1, 1) := by decide +kernel
theorem dX12_sum_53 : decode cX12_sum 53 = .ok (.iadd, 1) := by decide +kernel
theorem dX12_sum_54 : decode cX12_sum 54 = .ok (.putfield 132, 3) := by decide +kernel
theorem dX12_sum_57 : decode cX12_sum 57 = .ok (.aload_n 0, 1) := by decide +kernel
theorem dX12_sum_58 : decode cX12_sum 58 = .ok (.invokevirtual 168, 3) := by decide +kernel
theorem dX12_sum_61 : decode cX12_sum 61 = .ok (.istore_n 3, 1) := by decide +kernel
theorem dX12_sum_62 : decode cX12_sum 62 = .ok (.iload_n 2, 1) := by decide +kernel
theorem dX12_sum_63 : decode cX12_sum 63 = .ok (.bipush 43, 2) := by decide +kernel
theorem dX12_sum_65 : decode cX12_sum 65 = .ok (.if_icmp .ne 9, 3) := by decide +kernel
theorem dX12_sum_68 : decode cX12_sum 68 = .ok (.iload_n 1, 1) := by decide +kernel
theorem dX12_sum_69 : decode cX12_sum 69 = .ok (.iload_n 3, 1) := by decide +kernel
theorem dX12_sum_70 : decode cX12_sum 70 = .ok (.iadd, 1) := by decide +kernel
theorem dX12_sum_71 : decode cX12_sum 71 = .ok (.goto 6, 3) := by decide +kernel
theorem dX12_sum_74 : decode cX12_sum 74 = .ok (.iload_n 1, 1) := by decide +kernel
theorem dX12_sum_75 : decode cX12_sum 75 = .ok (.iload_n 3, 1) := by decide +kernel
theorem dX12_sum_76 : decode cX12_sum 76 = .ok (.isub, 1) := by decide +kernel
theorem dX12_sum_77 : decode cX12_sum 77 = .ok (.istore_n 1, 1) := by decide +kernel
theorem dX12_sum_78 : decode cX12_sum 78 = .ok (.goto (-73), 3) := by decide +kernel
theorem dX12_sum_81 : decode cX12_sum 81 = .ok (.iload_n 1, 1) := by decide +kernel
theorem dX12_sum_82 : decode cX12_sum 82 = .ok (.ireturn, 1) := by decide +kernel
theorem dX12_compared_0 : decode cX12_compared 0 = .ok (.aload_n 0, 1) := by decide +kernel
theorem dX12_compared_1 : decode cX12_compared 1 = .ok (.invokevirtual 171, 3) := by decide +kernel
theorem dX12_compared_4 : decode cX12_compared 4 = .ok (.istore_n 1, 1) := by decide +kernel
theorem dX12_compared_5 : decode cX12_compared 5 = .ok (.aload_n 0, 1) := by decide +kernel
theorem dX12_compared_6 : decode cX12_compared 6 = .ok (.getfield 129, 3) := by decide +kernel
theorem dX12_compared_9 : decode cX12_compared 9 = .ok (.ifCond .eq 14, 3) := by decide +kernel
theorem dX12_compared_12 : decode cX12_compared 12 = .ok (.aload_n 0, 1) := by decide +kernel
theorem dX12_compared_13 : decode cX12_compared 13 = .ok (.aload_n 0, 1) := by decide +kernel
theorem dX12_compared_14 : decode cX12_compared 14 = .ok (.getfield 132, 3) := by decide +kernel
theorem dX12_compared_17 : decode cX12_compared 17 = .ok (.invokevirtual 135, 3) := by decide +kernel
theorem dX12_compared_20 : decode cX12_compared 20 = .ok (.goto 4, 3) := by decide +kernel
theorem dX12_compared_23 : decode cX12_compared 23 = .ok (.iconst (-1), 1) := by decide +kernel
theorem dX12_compared_24 : decode cX12_compared 24 = .ok (.istore_n 2, 1) := by decide +kernel
theorem dX12_compared_25 : decode cX12_compared 25 = .ok (.iload_n 2, 1) := by decide +kernel
theorem dX12_compared_26 : decode cX12_compared 26 = .ok (.bipush 60, 2) := by decide +kernel
theorem dX12_compared_28 : decode cX12_compared 28 = .ok (.if_icmp .eq 17, 3) := by decide +kernel
theorem dX12_compared_31 : decode cX12_compared 31 = .ok (.iload_n 2, 1) := by decide +kernel
theorem dX12_compared_32 : decode cX12_compared 32 = .ok (.bipush 61, 2) := by decide +kernel
theorem dX12_compared_34 : decode cX12_compared 34 = .ok (.if_icmp .eq 11, 3) := by decide +kernel
theorem dX12_compared_37 : decode cX12_compared 37 = .ok (.iload_n 2, 1) := by decide +kernel
theorem dX12_compared_38 : decode cX12_compared 38 = .ok (.bipush 62, 2) := by decide +kernel
theorem dX12_compared_40 : decode cX12_compared 40 = .ok (.if_icmp .eq 5, 3) := by decide +kernel
theorem dX12_compared_43 : decode cX12_compared 43 = .ok (.iload_n 1, 1) := by decide +kernel
theorem dX12_compared_44 : decode cX12_compared 44 = .ok (.ireturn, 1) := by decide +kernel
theorem dX12_compared_45 : decode cX12_compared 45 = .ok (.aload_n 0, 1) := by decide +kernel
theorem dX12_compared_46 : decode cX12_compared 46 = .ok (.dup, 1) := by decide +kernel
theorem dX12_compared_47 : decode cX12_compared 47 = .ok (.getfield 132, 3) := by decide +kernel
theorem dX12_compared_50 : decode cX12_compared 50 = .ok (.iconst 1, 1) := by decide +kernel
theorem dX12_compared_51 : decode cX12_compared 51 = .ok (.iadd, 1) := by decide +kernel
theorem dX12_compared_52 : decode cX12_compared 52 = .ok (.putfield 132, 3) := by decide +kernel
theorem dX12_compared_55 : decode cX12_compared 55 = .ok (.aload_n 0, 1) := by decide +kernel
theorem dX12_compared_56 : decode cX12_compared 56 = .ok (.invokevirtual 171, 3) := by decide +kernel
theorem dX12_compared_59 : decode cX12_compared 59 = .ok (.istore_n 3, 1) := by decide +kernel
theorem dX12_compared_60 : decode cX12_compared 60 = .ok (.iload_n 2, 1) := by decide +kernel
theorem dX12_compared_61 : decode cX12_compared 61 = .ok (.bipush 60, 2) := by decide +kernel
theorem dX12_compared_63 : decode cX12_compared 63 = .ok (.if_icmp .ne 16, 3) := by decide +kernel
theorem dX12_compared_66 : decode cX12_compared 66 = .ok (.iload_n 1, 1) := by decide +kernel
theorem dX12_compared_67 : decode cX12_compared 67 = .ok (.iload_n 3, 1) := by decide +kernel
theorem dX12_compared_68 : decode cX12_compared 68 = .ok (.if_icmp .ge 7, 3) := by decide +kernel
theorem dX12_compared_71 : decode cX12_compared 71 = .ok (.iconst 1, 1) := by decide +kernel
theorem dX12_compared_72 : decode cX12_compared 72 = .ok (.goto 36, 3) := by decide +kernel
theorem dX12_compared_75 : decode cX12_compared 75 = .ok (.iconst 0, 1) := by decide +kernel
theorem dX12_compared_76 : decode cX12_compared 76 = .ok (.goto 32, 3) := by decide +kernel
theorem dX12_compared_79 : decode cX12_compared 79 = .ok (.iload_n 2, 1) := by decide +kernel
theorem dX12_compared_80 : decode cX12_compared 80 = .ok (.bipush 61, 2) := by decide +kernel
theorem dX12_compared_82 : decode cX12_compared 82 = .ok (.if_icmp .ne 16, 3) := by decide +kernel
theorem dX12_compared_85 : decode cX12_compared 85 = .ok (.iload_n 1, 1) := by decide +kernel
theorem dX12_compared_86 : decode cX12_compared 86 = .ok (.iload_n 3, 1) := by decide +kernel
theorem dX12_compared_87 : decode cX12_compared 87 = .ok (.if_icmp .ne 7, 3) := by decide +kernel
theorem dX12_compared_90 : decode cX12_compared 90 = .ok (.iconst 1, 1) := by decide +kernel
theorem dX12_compared_91 : decode cX12_compared 91 = .ok (.goto 17, 3) := by decide +kernel
theorem dX12_compared_94 : decode cX12_compared 94 = .ok (.iconst 0, 1) := by decide +kernel
theorem dX12_compared_95 : decode cX12_compared 95 = .ok (.goto 13, 3) := by decide +kernel
theorem dX12_compared_98 : decode cX12_compared 98 = .ok (.iload_n 1, 1) := by decide +kernel
theorem dX12_compared_99 : decode cX12_compared 99 = .ok (.iload_n 3, 1) := by decide +kernel
theorem dX12_compared_100 : decode cX12_compared 100 = .ok (.if_icmp .le 7, 3) := by decide +kernel
theorem dX12_compared_103 : decode cX12_compared 103 = .ok (.iconst 1, 1) := by decide +kernel
theorem dX12_compared_104 : decode cX12_compared 104 = .ok (.goto 4, 3) := by decide +kernel
theorem dX12_compared_107 : decode cX12_compared 107 = .ok (.iconst 0, 1) := by decide +kernel
theorem dX12_compared_108 : decode cX12_compared 108 = .ok (.istore 4, 2) := by decide +kernel
theorem dX12_compared_110 : decode cX12_compared 110 = .ok (.iload 4, 2) := by decide +kernel
theorem dX12_compared_112 : decode cX12_compared 112 = .ok (.ifCond .eq 7, 3) := by decide +kernel
theorem dX12_compared_115 : decode cX12_compared 115 = .ok (.iconst 1, 1) := by decide +kernel
theorem dX12_compared_116 : decode cX12_compared 116 = .ok (.goto 4, 3) := by decide +kernel
theorem dX12_compared_119 : decode cX12_compared 119 = .ok (.iconst 0, 1) := by decide +kernel
theorem dX12_compared_120 : decode cX12_compared 120 = .ok (.ireturn, 1) := by decide +kernel
theorem dX12_both_0 : decode cX12_both 0 = .ok (.aload_n 0, 1) := by decide +kernel
theorem dX12_both_1 : decode cX12_both 1 = .ok (.invokevirtual 174, 3) := by decide +kernel
theorem dX12_both_4 : decode cX12_both 4 = .ok (.istore_n 1, 1) := by decide +kernel
theorem dX12_both_5 : decode cX12_both 5 = .ok (.aload_n 0, 1) := by decide +kernel
theorem dX12_both_6 : decode cX12_both 6 = .ok (.getfield 129, 3) := by decide +kernel
theorem dX12_both_9 : decode cX12_both 9 = .ok (.ifCond .eq 48, 3) := by decide +kernel
theorem dX12_both_12 : decode cX12_both 12 = .ok (.aload_n 0, 1) := by decide +kernel
theorem dX12_both_13 : decode cX12_both 13 = .ok (.aload_n 0, 1) := by decide +kernel
theorem dX12_both_14 : decode cX12_both 14 = .ok (.getfield 132, 3) := by decide +kernel
theorem dX12_both_17 : decode cX12_both 17 = .ok (.invokevirtual 135, 3) := by decide +kernel
theorem dX12_both_20 : decode cX12_both 20 = .ok (.bipush 38, 2) := by decide +kernel
theorem dX12_both_22 : decode cX12_both 22 = .ok (.if_icmp .ne 35, 3) := by decide +kernel
theorem dX12_both_25 : decode cX12_both 25 = .ok (.aload_n 0, 1) := by decide +kernel
theorem dX12_both_26 : decode cX12_both 26 = .ok (.dup, 1) := by decide +kernel
theorem dX12_both_27 : decode cX12_both 27 = .ok (.getfield 132, 3) := by decide +kernel
theorem dX12_both_30 : decode cX12_both 30 = .ok (.iconst 1, 1) := by decide +kernel
theorem dX12_both_31 : decode cX12_both 31 = .ok (.iadd, 1) := by decide +kernel
theorem dX12_both_32 : decode cX12_both 32 = .ok (.putfield 132, 3) := by decide +kernel
theorem dX12_both_35 : decode cX12_both 35 = .ok (.aload_n 0, 1) := by decide +kernel
theorem dX12_both_36 : decode cX12_both 36 = .ok (.invokevirtual 174, 3) := by decide +kernel
theorem dX12_both_39 : decode cX12_both 39 = .ok (.istore_n 2, 1) := by decide +kernel
theorem dX12_both_40 : decode cX12_both 40 = .ok (.iload_n 1, 1) := by decide +kernel
theorem dX12_both_41 : decode cX12_both 41 = .ok (.ifCond .eq 11, 3) := by decide +kernel
theorem dX12_both_44 : decode cX12_both 44 = .ok (.iload_n 2, 1) := by decide +kernel
theorem dX12_both_45 : decode cX12_both 45 = .ok (.ifCond .eq 7, 3) := by decide +kernel
theorem dX12_both_48 : decode cX12_both 48 = .ok (.iconst 1, 1) := by decide +kernel
theorem dX12_both_49 : decode cX12_both 49 = .ok (.goto 4, 3) := by decide +kernel
theorem dX12_both_52 : decode cX12_both 52 = .ok (.iconst 0, 1) := by decide +kernel
theorem dX12_both_53 : decode cX12_both 53 = .ok (.istore_n 1, 1) := by decide +kernel
theorem dX12_both_54 : decode cX12_both 54 = .ok (.goto (-49), 3) := by decide +kernel
theorem dX12_both_57 : decode cX12_both 57 = .ok (.iload_n 1, 1) := by decide +kernel
theorem dX12_both_58 : decode cX12_both 58 = .ok (.ireturn, 1) := by decide +kernel
theorem dX12_whole_0 : decode cX12_whole 0 = .ok (.aload_n 0, 1) := by decide +kernel
theorem dX12_whole_1 : decode cX12_whole 1 = .ok (.invokevirtual 177, 3) := by decide +kernel
theorem dX12_whole_4 : decode cX12_whole 4 = .ok (.istore_n 1, 1) := by decide +kernel
theorem dX12_whole_5 : decode cX12_whole 5 = .ok (.aload_n 0, 1) := by decide +kernel
theorem dX12_whole_6 : decode cX12_whole 6 = .ok (.getfield 129, 3) := by decide +kernel
theorem dX12_whole_9 : decode cX12_whole 9 = .ok (.ifCond .eq 48, 3) := by decide +kernel
theorem dX12_whole_12 : decode cX12_whole 12 = .ok (.aload_n 0, 1) := by decide +kernel
theorem dX12_whole_13 : decode cX12_whole 13 = .ok (.aload_n 0, 1) := by decide +kernel
theorem dX12_whole_14 : decode cX12_whole 14 = .ok (.getfield 132, 3) := by decide +kernel
theorem dX12_whole_17 : decode cX12_whole 17 = .ok (.invokevirtual 135, 3) := by decide +kernel
theorem dX12_whole_20 : decode cX12_whole 20 = .ok (.bipush 124, 2) := by decide +kernel
theorem dX12_whole_22 : decode cX12_whole 22 = .ok (.if_icmp .ne 35, 3) := by decide +kernel
theorem dX12_whole_25 : decode cX12_whole 25 = .ok (.aload_n 0, 1) := by decide +kernel
theorem dX12_whole_26 : decode cX12_whole 26 = .ok (.dup, 1) := by decide +kernel
theorem dX12_whole_27 : decode cX12_whole 27 = .ok (.getfield 132, 3) := by decide +kernel
theorem dX12_whole_30 : decode cX12_whole 30 = .ok (.iconst 1, 1) := by decide +kernel
theorem dX12_whole_31 : decode cX12_whole 31 = .ok (.iadd, 1) := by decide +kernel
theorem dX12_whole_32 : decode cX12_whole 32 = .ok (.putfield 132, 3) := by decide +kernel
theorem dX12_whole_35 : decode cX12_whole 35 = .ok (.aload_n 0, 1) := by decide +kernel
theorem dX12_whole_36 : decode cX12_whole 36 = .ok (.invokevirtual 177, 3) := by decide +kernel
theorem dX12_whole_39 : decode cX12_whole 39 = .ok (.istore_n 2, 1) := by decide +kernel
theorem dX12_whole_40 : decode cX12_whole 40 = .ok (.iload_n 1, 1) := by decide +kernel
theorem dX12_whole_41 : decode cX12_whole 41 = .ok (.ifCond .ne 7, 3) := by decide +kernel
theorem dX12_whole_44 : decode cX12_whole 44 = .ok (.iload_n 2, 1) := by decide +kernel
theorem dX12_whole_45 : decode cX12_whole 45 = .ok (.ifCond .eq 7, 3) := by decide +kernel
theorem dX12_whole_48 : decode cX12_whole 48 = .ok (.iconst 1, 1) := by decide +kernel
theorem dX12_whole_49 : decode cX12_whole 49 = .ok (.goto 4, 3) := by decide +kernel
theorem dX12_whole_52 : decode cX12_whole 52 = .ok (.iconst 0, 1) := by decide +kernel
theorem dX12_whole_53 : decode cX12_whole 53 = .ok (.istore_n 1, 1) := by decide +kernel
theorem dX12_whole_54 : decode cX12_whole 54 = .ok (.goto (-49), 3) := by decide +kernel
theorem dX12_whole_57 : decode cX12_whole 57 = .ok (.iload_n 1, 1) := by decide +kernel
theorem dX12_whole_58 : decode cX12_whole 58 = .ok (.ireturn, 1) := by decide +kernel
theorem dX12_walks_0 : decode cX12_walks 0 = .ok (.aload_n 0, 1) := by decide +kernel
theorem dX12_walks_1 : decode cX12_walks 1 = .ok (.iload_n 1, 1) := by decide +kernel
theorem dX12_walks_2 : decode cX12_walks 2 = .ok (.putfield 126, 3) := by decide +kernel
theorem dX12_walks_5 : decode cX12_walks 5 = .ok (.aload_n 0, 1) := by decide +kernel
theorem dX12_walks_6 : decode cX12_walks 6 = .ok (.iconst 0, 1) := by decide +kernel
theorem dX12_walks_7 : decode cX12_walks 7 = .ok (.putfield 132, 3) := by decide +kernel
theorem dX12_walks_10 : decode cX12_walks 10 = .ok (.aload_n 0, 1) := by decide +kernel
theorem dX12_walks_11 : decode cX12_walks 11 = .ok (.aload_n 0, 1) := by decide +kernel
theorem dX12_walks_12 : decode cX12_walks 12 = .ok (.getfield 7, 3) := by decide +kernel
theorem dX12_walks_15 : decode cX12_walks 15 = .ok (.bipush 11, 2) := by decide +kernel
theorem dX12_walks_17 : decode cX12_walks 17 = .ok (.iload_n 1, 1) := by decide +kernel
theorem dX12_walks_18 : decode cX12_walks 18 = .ok (.iadd, 1) := by decide +kernel
theorem dX12_walks_19 : decode cX12_walks 19 = .ok (.iaload, 1) := by decide +kernel
theorem dX12_walks_20 : decode cX12_walks 20 = .ok (.putfield 122, 3) := by decide +kernel
theorem dX12_walks_23 : decode cX12_walks 23 = .ok (.aload_n 0, 1) := by decide +kernel
theorem dX12_walks_24 : decode cX12_walks 24 = .ok (.iconst 0, 1) := by decide +kernel
theorem dX12_walks_25 : decode cX12_walks 25 = .ok (.putfield 159, 3) := by decide +kernel
theorem dX12_walks_28 : decode cX12_walks 28 = .ok (.aload_n 0, 1) := by decide +kernel
theorem dX12_walks_29 : decode cX12_walks 29 = .ok (.iconst 1, 1) := by decide +kernel
theorem dX12_walks_30 : decode cX12_walks 30 = .ok (.putfield 129, 3) := by decide +kernel
theorem dX12_walks_33 : decode cX12_walks 33 = .ok (.aload_n 0, 1) := by decide +kernel
theorem dX12_walks_34 : decode cX12_walks 34 = .ok (.iload_n 2, 1) := by decide +kernel
theorem dX12_walks_35 : decode cX12_walks 35 = .ok (.putfield 144, 3) := by decide +kernel
theorem dX12_walks_38 : decode cX12_walks 38 = .ok (.aload_n 0, 1) := by decide +kernel
theorem dX12_walks_39 : decode cX12_walks 39 = .ok (.iload_n 3, 1) := by decide +kernel
theorem dX12_walks_40 : decode cX12_walks 40 = .ok (.putfield 147, 3) := by decide +kernel
theorem dX12_walks_43 : decode cX12_walks 43 = .ok (.aload_n 0, 1) := by decide +kernel
theorem dX12_walks_44 : decode cX12_walks 44 = .ok (.iload 4, 2) := by decide +kernel
theorem dX12_walks_46 : decode cX12_walks 46 = .ok (.putfield 150, 3) := by decide +kernel
theorem dX12_walks_49 : decode cX12_walks 49 = .ok (.aload_n 0, 1) := by decide +kernel
theorem dX12_walks_50 : decode cX12_walks 50 = .ok (.invokevirtual 165, 3) := by decide +kernel
theorem dX12_walks_53 : decode cX12_walks 53 = .ok (.istore 5, 2) := by decide +kernel
theorem dX12_walks_55 : decode cX12_walks 55 = .ok (.aload_n 0, 1) := by decide +kernel
theorem dX12_walks_56 : decode cX12_walks 56 = .ok (.aload_n 0, 1) := by decide +kernel
theorem dX12_walks_57 : decode cX12_walks 57 = .ok (.getfield 129, 3) := by decide +kernel
theorem dX12_walks_60 : decode cX12_walks 60 = .ok (.ifCond .eq 18, 3) := by decide +kernel
theorem dX12_walks_63 : decode cX12_walks 63 = .ok (.aload_n 0, 1) := by decide +kernel
theorem dX12_walks_64 : decode cX12_walks 64 = .ok (.getfield 132, 3) := by decide +kernel
theorem dX12_walks_67 : decode cX12_walks 67 = .ok (.aload_n 0, 1) := by decide +kernel
theorem dX12_walks_68 : decode cX12_walks 68 = .ok (.getfield 122, 3) := by decide +kernel
theorem dX12_walks_71 : decode cX12_walks 71 = .ok (.if_icmp .ne 7, 3) := by decide +kernel
theorem dX12_walks_74 : decode cX12_walks 74 = .ok (.iconst 1, 1) := by decide +kernel
theorem dX12_walks_75 : decode cX12_walks 75 = .ok (.goto 4, 3) := by decide +kernel
theorem dX12_walks_78 : decode cX12_walks 78 = .ok (.iconst 0, 1) := by decide +kernel
theorem dX12_walks_79 : decode cX12_walks 79 = .ok (.putfield 129, 3) := by decide +kernel
theorem dX12_walks_82 : decode cX12_walks 82 = .ok (.iload 5, 2) := by decide +kernel
theorem dX12_walks_84 : decode cX12_walks 84 = .ok (.ireturn, 1) := by decide +kernel
theorem dX12_lawOf_0 : decode cX12_lawOf 0 = .ok (.aload_n 0, 1) := by decide +kernel
theorem dX12_lawOf_1 : decode cX12_lawOf 1 = .ok (.getfield 7, 3) := by decide +kernel
theorem dX12_lawOf_4 : decode cX12_lawOf 4 = .ok (.bipush 11, 2) := by decide +kernel
theorem dX12_lawOf_6 : decode cX12_lawOf 6 = .ok (.iload_n 1, 1) := by decide +kernel
theorem dX12_lawOf_7 : decode cX12_lawOf 7 = .ok (.iadd, 1) := by decide +kernel
theorem dX12_lawOf_8 : decode cX12_lawOf 8 = .ok (.iaload, 1) := by decide +kernel
theorem dX12_lawOf_9 : decode cX12_lawOf 9 = .ok (.ifCond .ge 26, 3) := by decide +kernel
theorem dX12_lawOf_12 : decode cX12_lawOf 12 = .ok (.iload_n 1, 1) := by decide +kernel
theorem dX12_lawOf_13 : decode cX12_lawOf 13 = .ok (.ifCond .ne 11, 3) := by decide +kernel
theorem dX12_lawOf_16 : decode cX12_lawOf 16 = .ok (.bipush 10, 2) := by decide +kernel
theorem dX12_lawOf_18 : decode cX12_lawOf 18 = .ok (.iload 4, 2) := by decide +kernel
theorem dX12_lawOf_20 : decode cX12_lawOf 20 = .ok (.isub, 1) := by decide +kernel
theorem dX12_lawOf_21 : decode cX12_lawOf 21 = .ok (.goto 7, 3) := by decide +kernel
theorem dX12_lawOf_24 : decode cX12_lawOf 24 = .ok (.iconst 1, 1) := by decide +kernel
theorem dX12_lawOf_25 : decode cX12_lawOf 25 = .ok (.iload 4, 2) := by decide +kernel
theorem dX12_lawOf_27 : decode cX12_lawOf 27 = .ok (.iadd, 1) := by decide +kernel
theorem dX12_lawOf_28 : decode cX12_lawOf 28 = .ok (.iconst 0, 1) := by decide +kernel
theorem dX12_lawOf_29 : decode cX12_lawOf 29 = .ok (.bipush 99, 2) := by decide +kernel
theorem dX12_lawOf_31 : decode cX12_lawOf 31 = .ok (.invokestatic 180, 3) := by decide +kernel
theorem dX12_lawOf_34 : decode cX12_lawOf 34 = .ok (.ireturn, 1) := by decide +kernel
theorem dX12_lawOf_35 : decode cX12_lawOf 35 = .ok (.aload_n 0, 1) := by decide +kernel
theorem dX12_lawOf_36 : decode cX12_lawOf 36 = .ok (.iload_n 1, 1) := by decide +kernel
theorem dX12_lawOf_37 : decode cX12_lawOf 37 = .ok (.iload_n 2, 1) := by decide +kernel
theorem dX12_lawOf_38 : decode cX12_lawOf 38 = .ok (.iload_n 3, 1) := by decide +kernel
theorem dX12_lawOf_39 : decode cX12_lawOf 39 = .ok (.iload 4, 2) := by decide +kernel
theorem dX12_lawOf_41 : decode cX12_lawOf 41 = .ok (.invokevirtual 183, 3) := by decide +kernel
theorem dX12_lawOf_44 : decode cX12_lawOf 44 = .ok (.iconst 0, 1) := by decide +kernel
theorem dX12_lawOf_45 : decode cX12_lawOf 45 = .ok (.bipush 99, 2) := by decide +kernel
theorem dX12_lawOf_47 : decode cX12_lawOf 47 = .ok (.invokestatic 180, 3) := by decide +kernel
theorem dX12_lawOf_50 : decode cX12_lawOf 50 = .ok (.ireturn, 1) := by decide +kernel
theorem dX12_law_0 : decode cX12_law 0 = .ok (.iload_n 1, 1) := by decide +kernel
theorem dX12_law_1 : decode cX12_law 1 = .ok (.iconst 0, 1) := by decide +kernel
theorem dX12_law_2 : decode cX12_law 2 = .ok (.iconst 1, 1) := by decide +kernel
theorem dX12_law_3 : decode cX12_law 3 = .ok (.invokestatic 57, 3) := by decide +kernel
theorem dX12_law_6 : decode cX12_law 6 = .ok (.ifCond .eq 15, 3) := by decide +kernel
theorem dX12_law_9 : decode cX12_law 9 = .ok (.aload_n 0, 1) := by decide +kernel
theorem dX12_law_10 : decode cX12_law 10 = .ok (.iload_n 1, 1) := by decide +kernel
theorem dX12_law_11 : decode cX12_law 11 = .ok (.iload_n 2, 1) := by decide +kernel
theorem dX12_law_12 : decode cX12_law 12 = .ok (.iload_n 3, 1) := by decide +kernel
theorem dX12_law_13 : decode cX12_law 13 = .ok (.iload 4, 2) := by decide +kernel
theorem dX12_law_15 : decode cX12_law 15 = .ok (.invokevirtual 74, 3) := by decide +kernel
theorem dX12_law_18 : decode cX12_law 18 = .ok (.goto 9, 3) := by decide +kernel
theorem dX12_law_21 : decode cX12_law 21 = .ok (.aload_n 0, 1) := by decide +kernel
theorem dX12_law_22 : decode cX12_law 22 = .ok (.ldc 61, 2) := by decide +kernel
theorem dX12_law_24 : decode cX12_law 24 = .ok (.invokevirtual 62, 3) := by decide +kernel
theorem dX12_law_27 : decode cX12_law 27 = .ok (.ireturn, 1) := by decide +kernel
theorem dX12_feed_0 : decode cX12_feed 0 = .ok (.iload_n 3, 1) := by decide +kernel
theorem dX12_feed_1 : decode cX12_feed 1 = .ok (.iconst 1, 1) := by decide +kernel
theorem dX12_feed_2 : decode cX12_feed 2 = .ok (.bipush 8, 2) := by decide +kernel
theorem dX12_feed_4 : decode cX12_feed 4 = .ok (.invokestatic 57, 3) := by decide +kernel
theorem dX12_feed_7 : decode cX12_feed 7 = .ok (.ifCond .ne 10, 3) := by decide +kernel
theorem dX12_feed_10 : decode cX12_feed 10 = .ok (.aload_n 0, 1) := by decide +kernel
theorem dX12_feed_11 : decode cX12_feed 11 = .ok (.ldc 61, 2) := by decide +kernel
theorem dX12_feed_13 : decode cX12_feed 13 = .ok (.invokevirtual 62, 3) := by decide +kernel
theorem dX12_feed_16 : decode cX12_feed 16 = .ok (.ireturn, 1) := by decide +kernel
theorem dX12_feed_17 : decode cX12_feed 17 = .ok (.aload_n 0, 1) := by decide +kernel
theorem dX12_feed_18 : decode cX12_feed 18 = .ok (.getfield 7, 3) := by decide +kernel
theorem dX12_feed_21 : decode cX12_feed 21 = .ok (.bipush 9, 2) := by decide +kernel
theorem dX12_feed_23 : decode cX12_feed 23 = .ok (.iaload, 1) := by decide +kernel
theorem dX12_feed_24 : decode cX12_feed 24 = .ok (.iload_n 3, 1) := by decide +kernel
theorem dX12_feed_25 : decode cX12_feed 25 = .ok (.iadd, 1) := by decide +kernel
theorem dX12_feed_26 : decode cX12_feed 26 = .ok (.bipush 50, 2) := by decide +kernel
theorem dX12_feed_28 : decode cX12_feed 28 = .ok (.if_icmp .le 10, 3) := by decide +kernel
theorem dX12_feed_31 : decode cX12_feed 31 = .ok (.aload_n 0, 1) := by decide +kernel
theorem dX12_feed_32 : decode cX12_feed 32 = .ok (.ldc 97, 2) := by decide +kernel
theorem dX12_feed_34 : decode cX12_feed 34 = .ok (.invokevirtual 62, 3) := by decide +kernel
theorem dX12_feed_37 : decode cX12_feed 37 = .ok (.ireturn, 1) := by decide +kernel
theorem dX12_feed_38 : decode cX12_feed 38 = .ok (.iconst 0, 1) := by decide +kernel
theorem dX12_feed_39 : decode cX12_feed 39 = .ok (.istore 4, 2) := by decide +kernel
theorem dX12_feed_41 : decode cX12_feed 41 = .ok (.iload 4, 2) := by decide +kernel
theorem dX12_feed_43 : decode cX12_feed 43 = .ok (.iload_n 3, 1) := by decide +kernel
theorem dX12_feed_44 : decode cX12_feed 44 = .ok (.if_icmp .ge 47, 3) := by decide +kernel
theorem dX12_feed_47 : decode cX12_feed 47 = .ok (.aload_n 0, 1) := by decide +kernel
theorem dX12_feed_48 : decode cX12_feed 48 = .ok (.getfield 7, 3) := by decide +kernel
theorem dX12_feed_51 : decode cX12_feed 51 = .ok (.bipush 97, 2) := by decide +kernel
theorem dX12_feed_53 : decode cX12_feed 53 = .ok (.aload_n 0, 1) := by decide +kernel
theorem dX12_feed_54 : decode cX12_feed 54 = .ok (.getfield 7, 3) := by decide +kernel
theorem dX12_feed_57 : decode cX12_feed 57 = .ok (.bipush 9, 2) := by decide +kernel
theorem dX12_feed_59 : decode cX12_feed 59 = .ok (.iaload, 1) := by decide +kernel
theorem dX12_feed_60 : decode cX12_feed 60 = .ok (.iadd, 1) := by decide +kernel
theorem dX12_feed_61 : decode cX12_feed 61 = .ok (.lload_n 1, 1) := by decide +kernel
theorem dX12_feed_62 : decode cX12_feed 62 = .ok (.bipush 8, 2) := by decide +kernel
theorem dX12_feed_64 : decode cX12_feed 64 = .ok (.iload 4, 2) := by decide +kernel
theorem dX12_feed_66 : decode cX12_feed 66 = .ok (.imul, 1) := by decide +kernel
theorem dX12_feed_67 : decode cX12_feed 67 = .ok (.lshr, 1) := by decide +kernel
theorem dX12_feed_68 : decode cX12_feed 68 = .ok (.ldc2_w 186, 3) := by decide +kernel
theorem dX12_feed_71 : decode cX12_feed 71 = .ok (.land, 1) := by decide +kernel
theorem dX12_feed_72 : decode cX12_feed 72 = .ok (.l2i, 1) := by decide +kernel
theorem dX12_feed_73 : decode cX12_feed 73 = .ok (.iastore, 1) := by decide +kernel
theorem dX12_feed_74 : decode cX12_feed 74 = .ok (.aload_n 0, 1) := by decide +kernel
theorem dX12_feed_75 : decode cX12_feed 75 = .ok (.getfield 7, 3) := by decide +kernel
theorem dX12_feed_78 : decode cX12_feed 78 = .ok (.bipush 9, 2) := by decide +kernel
theorem dX12_feed_80 : decode cX12_feed 80 = .ok (.dup2, 1) := by decide +kernel
theorem dX12_feed_81 : decode cX12_feed 81 = .ok (.iaload, 1) := by decide +kernel
theorem dX12_feed_82 : decode cX12_feed 82 = .ok (.iconst 1, 1) := by decide +kernel
theorem dX12_feed_83 : decode cX12_feed 83 = .ok (.iadd, 1) := by decide +kernel
theorem dX12_feed_84 : decode cX12_feed 84 = .ok (.iastore, 1) := by decide +kernel
theorem dX12_feed_85 : decode cX12_feed 85 = .ok (.iinc 4 1, 3) := by decide +kernel
theorem dX12_feed_88 : decode cX12_feed 88 = .ok (.goto (-47), 3) := by decide +kernel
theorem dX12_feed_91 : decode cX12_feed 91 = .ok (.aload_n 0, 1) := by decide +kernel
theorem dX12_feed_92 : decode cX12_feed 92 = .ok (.getfield 7, 3) := by decide +kernel
theorem dX12_feed_95 : decode cX12_feed 95 = .ok (.bipush 9, 2) := by decide +kernel
theorem dX12_feed_97 : decode cX12_feed 97 = .ok (.iaload, 1) := by decide +kernel
theorem dX12_feed_98 : decode cX12_feed 98 = .ok (.ireturn, 1) := by decide +kernel
theorem dX12_text_0 : decode cX12_text 0 = .ok (.iload_n 1, 1) := by decide +kernel
theorem dX12_text_1 : decode cX12_text 1 = .ok (.iconst 0, 1) := by decide +kernel
theorem dX12_text_2 : decode cX12_text 2 = .ok (.iconst 1, 1) := by decide +kernel
theorem dX12_text_3 : decode cX12_text 3 = .ok (.invokestatic 57, 3) := by decide +kernel
theorem dX12_text_6 : decode cX12_text 6 = .ok (.ifCond .ne 10, 3) := by decide +kernel
theorem dX12_text_9 : decode cX12_text 9 = .ok (.aload_n 0, 1) := by decide +kernel
theorem dX12_text_10 : decode cX12_text 10 = .ok (.ldc 61, 2) := by decide +kernel
theorem dX12_text_12 : decode cX12_text 12 = .ok (.invokevirtual 62, 3) := by decide +kernel
theorem dX12_text_15 : decode cX12_text 15 = .ok (.ireturn, 1) := by decide +kernel
theorem dX12_text_16 : decode cX12_text 16 = .ok (.aload_n 0, 1) := by decide +kernel
theorem dX12_text_17 : decode cX12_text 17 = .ok (.aload_n 0, 1) := by decide +kernel
theorem dX12_text_18 : decode cX12_text 18 = .ok (.getfield 7, 3) := by decide +kernel
theorem dX12_text_21 : decode cX12_text 21 = .ok (.aload_n 0, 1) := by decide +kernel
theorem dX12_text_22 : decode cX12_text 22 = .ok (.getfield 19, 3) := by decide +kernel
theorem dX12_text_25 : decode cX12_text 25 = .ok (.invokevirtual 188, 3) := by decide +kernel
theorem dX12_text_28 : decode cX12_text 28 = .ok (.iconst 0, 1) := by decide +kernel
theorem dX12_text_29 : decode cX12_text 29 = .ok (.istore_n 2, 1) := by decide +kernel
theorem dX12_text_30 : decode cX12_text 30 = .ok (.iload_n 2, 1) := by decide +kernel
theorem dX12_text_31 : decode cX12_text 31 = .ok (.bipush 50, 2) := by decide +kernel
theorem dX12_text_33 : decode cX12_text 33 = .ok (.if_icmp .ge 33, 3) := by decide +kernel
theorem dX12_text_36 : decode cX12_text 36 = .ok (.aload_n 0, 1) := by decide +kernel
theorem dX12_text_37 : decode cX12_text 37 = .ok (.getfield 7, 3) := by decide +kernel
theorem dX12_text_40 : decode cX12_text 40 = .ok (.sipush 167, 3) := by decide +kernel
theorem dX12_text_43 : decode cX12_text 43 = .ok (.bipush 50, 2) := by decide +kernel
theorem dX12_text_45 : decode cX12_text 45 = .ok (.iload_n 1, 1) := by decide +kernel
theorem dX12_text_46 : decode cX12_text 46 = .ok (.imul, 1) := by decide +kernel
theorem dX12_text_47 : decode cX12_text 47 = .ok (.iadd, 1) := by decide +kernel
theorem dX12_text_48 : decode cX12_text 48 = .ok (.iload_n 2, 1) := by decide +kernel
theorem dX12_text_49 : decode cX12_text 49 = .ok (.iadd, 1) := by decide +kernel
theorem dX12_text_50 : decode cX12_text 50 = .ok (.aload_n 0, 1) := by decide +kernel
theorem dX12_text_51 : decode cX12_text 51 = .ok (.getfield 7, 3) := by decide +kernel
theorem dX12_text_54 : decode cX12_text 54 = .ok (.bipush 97, 2) := by decide +kernel
theorem dX12_text_56 : decode cX12_text 56 = .ok (.iload_n 2, 1) := by decide +kernel
theorem dX12_text_57 : decode cX12_text 57 = .ok (.iadd, 1) := by decide +kernel
theorem dX12_text_58 : decode cX12_text 58 = .ok (.iaload, 1) := by decide +kernel
theorem dX12_text_59 : decode cX12_text 59 = .ok (.iastore, 1) := by decide +kernel
theorem dX12_text_60 : decode cX12_text 60 = .ok (.iinc 2 1, 3) := by decide +kernel
theorem dX12_text_63 : decode cX12_text 63 = .ok (.goto (-33), 3) := by decide +kernel
theorem dX12_text_66 : decode cX12_text 66 = .ok (.aload_n 0, 1) := by decide +kernel
theorem dX12_text_67 : decode cX12_text 67 = .ok (.getfield 7, 3) := by decide +kernel
theorem dX12_text_70 : decode cX12_text 70 = .ok (.bipush 11, 2) := by decide +kernel
theorem dX12_text_72 : decode cX12_text 72 = .ok (.iload_n 1, 1) := by decide +kernel
theorem dX12_text_73 : decode cX12_text 73 = .ok (.iadd, 1) := by decide +kernel
theorem dX12_text_74 : decode cX12_text 74 = .ok (.aload_n 0, 1) := by decide +kernel
theorem dX12_text_75 : decode cX12_text 75 = .ok (.getfield 7, 3) := by decide +kernel
theorem dX12_text_78 : decode cX12_text 78 = .ok (.bipush 9, 2) := by decide +kernel
theorem dX12_text_80 : decode cX12_text 80 = .ok (.iaload, 1) := by decide +kernel
theorem dX12_text_81 : decode cX12_text 81 = .ok (.iastore, 1) := by decide +kernel
theorem dX12_text_82 : decode cX12_text 82 = .ok (.aload_n 0, 1) := by decide +kernel
theorem dX12_text_83 : decode cX12_text 83 = .ok (.iload_n 1, 1) := by decide +kernel
theorem dX12_text_84 : decode cX12_text 84 = .ok (.iconst 1, 1) := by decide +kernel
theorem dX12_text_85 : decode cX12_text 85 = .ok (.iconst 1, 1) := by decide +kernel
theorem dX12_text_86 : decode cX12_text 86 = .ok (.iconst 1, 1) := by decide +kernel
theorem dX12_text_87 : decode cX12_text 87 = .ok (.invokevirtual 183, 3) := by decide +kernel
theorem dX12_text_90 : decode cX12_text 90 = .ok (.istore_n 2, 1) := by decide +kernel
theorem dX12_text_91 : decode cX12_text 91 = .ok (.aload_n 0, 1) := by decide +kernel
theorem dX12_text_92 : decode cX12_text 92 = .ok (.getfield 129, 3) := by decide +kernel
theorem dX12_text_95 : decode cX12_text 95 = .ok (.ifCond .eq 12, 3) := by decide +kernel
theorem dX12_text_98 : decode cX12_text 98 = .ok (.iload_n 2, 1) := by decide +kernel
theorem dX12_text_99 : decode cX12_text 99 = .ok (.iload_n 2, 1) := by decide +kernel
theorem dX12_text_100 : decode cX12_text 100 = .ok (.if_icmp .ne 7, 3) := by decide +kernel
theorem dX12_text_103 : decode cX12_text 103 = .ok (.iconst 1, 1) := by decide +kernel
theorem dX12_text_104 : decode cX12_text 104 = .ok (.goto 4, 3) := by decide +kernel
theorem dX12_text_107 : decode cX12_text 107 = .ok (.iconst 0, 1) := by decide +kernel
theorem dX12_text_108 : decode cX12_text 108 = .ok (.istore_n 3, 1) := by decide +kernel
theorem dX12_text_109 : decode cX12_text 109 = .ok (.aload_n 0, 1) := by decide +kernel
theorem dX12_text_110 : decode cX12_text 110 = .ok (.getfield 132, 3) := by decide +kernel
theorem dX12_text_113 : decode cX12_text 113 = .ok (.istore 4, 2) := by decide +kernel
theorem dX12_text_115 : decode cX12_text 115 = .ok (.iload_n 3, 1) := by decide +kernel
theorem dX12_text_116 : decode cX12_text 116 = .ok (.ifCond .ne 15, 3) := by decide +kernel
theorem dX12_text_119 : decode cX12_text 119 = .ok (.aload_n 0, 1) := by decide +kernel
theorem dX12_text_120 : decode cX12_text 120 = .ok (.aload_n 0, 1) := by decide +kernel
theorem dX12_text_121 : decode cX12_text 121 = .ok (.getfield 19, 3) := by decide +kernel
theorem dX12_text_124 : decode cX12_text 124 = .ok (.aload_n 0, 1) := by decide +kernel
theorem dX12_text_125 : decode cX12_text 125 = .ok (.getfield 7, 3) := by decide +kernel
theorem dX12_text_128 : decode cX12_text 128 = .ok (.invokevirtual 188, 3) := by decide +kernel
theorem dX12_text_131 : decode cX12_text 131 = .ok (.aload_n 0, 1) := by decide +kernel
theorem dX12_text_132 : decode cX12_text 132 = .ok (.getfield 7, 3) := by decide +kernel
theorem dX12_text_135 : decode cX12_text 135 = .ok (.bipush 9, 2) := by decide +kernel
theorem dX12_text_137 : decode cX12_text 137 = .ok (.iconst 0, 1) := by decide +kernel
theorem dX12_text_138 : decode cX12_text 138 = .ok (.iastore, 1) := by decide +kernel
theorem dX12_text_139 : decode cX12_text 139 = .ok (.iload_n 3, 1) := by decide +kernel
theorem dX12_text_140 : decode cX12_text 140 = .ok (.ifCond .eq 7, 3) := by decide +kernel
theorem dX12_text_143 : decode cX12_text 143 = .ok (.iconst 1, 1) := by decide +kernel
theorem dX12_text_144 : decode cX12_text 144 = .ok (.goto 8, 3) := by decide +kernel
theorem dX12_text_147 : decode cX12_text 147 = .ok (.bipush (-10), 2) := by decide +kernel
theorem dX12_text_149 : decode cX12_text 149 = .ok (.iload 4, 2) := by decide +kernel
theorem dX12_text_151 : decode cX12_text 151 = .ok (.isub, 1) := by decide +kernel
theorem dX12_text_152 : decode cX12_text 152 = .ok (.ireturn, 1) := by decide +kernel
theorem dX12_rolls_0 : decode cX12_rolls 0 = .ok (.iload_n 1, 1) := by decide +kernel
theorem dX12_rolls_1 : decode cX12_rolls 1 = .ok (.iload_n 2, 1) := by decide +kernel
theorem dX12_rolls_2 : decode cX12_rolls 2 = .ok (.invokestatic 111, 3) := by decide +kernel
theorem dX12_rolls_5 : decode cX12_rolls 5 = .ok (.istore 5, 2) := by decide +kernel
theorem dX12_rolls_7 : decode cX12_rolls 7 = .ok (.iload_n 1, 1) := by decide +kernel
theorem dX12_rolls_8 : decode cX12_rolls 8 = .ok (.iload_n 2, 1) := by decide +kernel
theorem dX12_rolls_9 : decode cX12_rolls 9 = .ok (.invokestatic 115, 3) := by decide +kernel
theorem dX12_rolls_12 : decode cX12_rolls 12 = .ok (.istore 6, 2) := by decide +kernel
theorem dX12_rolls_14 : decode cX12_rolls 14 = .ok (.iconst 0, 1) := by decide +kernel
theorem dX12_rolls_15 : decode cX12_rolls 15 = .ok (.istore 7, 2) := by decide +kernel
theorem dX12_rolls_17 : decode cX12_rolls 17 = .ok (.iload 7, 2) := by decide +kernel
theorem dX12_rolls_19 : decode cX12_rolls 19 = .ok (.aload_n 0, 1) := by decide +kernel
theorem dX12_rolls_20 : decode cX12_rolls 20 = .ok (.getfield 7, 3) := by decide +kernel
theorem dX12_rolls_23 : decode cX12_rolls 23 = .ok (.iconst 0, 1) := by decide +kernel
theorem dX12_rolls_24 : decode cX12_rolls 24 = .ok (.iaload, 1) := by decide +kernel
theorem dX12_rolls_25 : decode cX12_rolls 25 = .ok (.if_icmp .ge 190, 3) := by decide +kernel
theorem dX12_rolls_28 : decode cX12_rolls 28 = .ok (.iload 7, 2) := by decide +kernel
theorem dX12_rolls_30 : decode cX12_rolls 30 = .ok (.ifCond .le 21, 3) := by decide +kernel
theorem dX12_rolls_33 : decode cX12_rolls 33 = .ok (.iload 7, 2) := by decide +kernel
theorem dX12_rolls_35 : decode cX12_rolls 35 = .ok (.iload 5, 2) := by decide +kernel
theorem dX12_rolls_37 : decode cX12_rolls 37 = .ok (.irem, 1) := by decide +kernel
theorem dX12_rolls_38 : decode cX12_rolls 38 = .ok (.ifCond .ne 13, 3) := by decide +kernel
theorem dX12_rolls_41 : decode cX12_rolls 41 = .ok (.aload_n 0, 1) := by decide +kernel
theorem dX12_rolls_42 : decode cX12_rolls 42 = .ok (.getfield 7, 3) := by decide +kernel
theorem dX12_rolls_45 : decode cX12_rolls 45 = .ok (.iconst 2, 1) := by decide +kernel
theorem dX12_rolls_46 : decode cX12_rolls 46 = .ok (.dup2, 1) := by decide +kernel
theorem dX12_rolls_47 : decode cX12_rolls 47 = .ok (.iaload, 1) := by decide +kernel
theorem dX12_rolls_48 : decode cX12_rolls 48 = .ok (.iconst 1, 1) := by decide +kernel
theorem dX12_rolls_49 : decode cX12_rolls 49 = .ok (.iadd, 1) := by decide +kernel
theorem dX12_rolls_50 : decode cX12_rolls 50 = .ok (.iastore, 1) := by decide +kernel
theorem dX12_rolls_51 : decode cX12_rolls 51 = .ok (.aload_n 0, 1) := by decide +kernel
theorem dX12_rolls_52 : decode cX12_rolls 52 = .ok (.getfield 7, 3) := by decide +kernel
theorem dX12_rolls_55 : decode cX12_rolls 55 = .ok (.iconst 4, 1) := by decide +kernel
theorem dX12_rolls_56 : decode cX12_rolls 56 = .ok (.iaload, 1) := by decide +kernel
theorem dX12_rolls_57 : decode cX12_rolls 57 = .ok (.iload 6, 2) := by decide +kernel
theorem dX12_rolls_59 : decode cX12_rolls 59 = .ok (.if_icmp .ge 43, 3) := by decide +kernel
theorem dX12_rolls_62 : decode cX12_rolls 62 = .ok (.aload_n 0, 1) := by decide +kernel
theorem dX12_rolls_63 : decode cX12_rolls 63 = .ok (.getfield 7, 3) := by decide +kernel
theorem dX12_rolls_66 : decode cX12_rolls 66 = .ok (.iconst 4, 1) := by decide +kernel
theorem dX12_rolls_67 : decode cX12_rolls 67 = .ok (.aload_n 0, 1) := by decide +kernel
theorem dX12_rolls_68 : decode cX12_rolls 68 = .ok (.getfield 7, 3) := by decide +kernel
theorem dX12_rolls_71 : decode cX12_rolls 71 = .ok (.bipush 6, 2) := by decide +kernel
theorem dX12_rolls_73 : decode cX12_rolls 73 = .ok (.iaload, 1) := by decide +kernel
theorem dX12_rolls_74 : decode cX12_rolls 74 = .ok (.iastore, 1) := by decide +kernel
theorem dX12_rolls_75 : decode cX12_rolls 75 = .ok (.aload_n 0, 1) := by decide +kernel
theorem dX12_rolls_76 : decode cX12_rolls 76 = .ok (.getfield 7, 3) := by decide +kernel
theorem dX12_rolls_79 : decode cX12_rolls 79 = .ok (.iconst 5, 1) := by decide +kernel
theorem dX12_rolls_80 : decode cX12_rolls 80 = .ok (.aload_n 0, 1) := by decide +kernel
theorem dX12_rolls_81 : decode cX12_rolls 81 = .ok (.getfield 7, 3) := by decide +kernel
theorem dX12_rolls_84 : decode cX12_rolls 84 = .ok (.iconst 5, 1) := by decide +kernel
theorem dX12_rolls_85 : decode cX12_rolls 85 = .ok (.iaload, 1) := by decide +kernel
theorem dX12_rolls_86 : decode cX12_rolls 86 = .ok (.iconst 1, 1) := by decide +kernel
theorem dX12_rolls_87 : decode cX12_rolls 87 = .ok (.iadd, 1) := by decide +kernel
theorem dX12_rolls_88 : decode cX12_rolls 88 = .ok (.bipush 100, 2) := by decide +kernel
theorem dX12_rolls_90 : decode cX12_rolls 90 = .ok (.irem, 1) := by decide +kernel
theorem dX12_rolls_91 : decode cX12_rolls 91 = .ok (.iastore, 1) := by decide +kernel
theorem dX12_rolls_92 : decode cX12_rolls 92 = .ok (.aload_n 0, 1) := by decide +kernel
theorem dX12_rolls_93 : decode cX12_rolls 93 = .ok (.dup, 1) := by decide +kernel
theorem dX12_rolls_94 : decode cX12_rolls 94 = .ok (.getfield 192, 3) := by decide +kernel
theorem dX12_rolls_97 : decode cX12_rolls 97 = .ok (.iconst 1, 1) := by decide +kernel
theorem dX12_rolls_98 : decode cX12_rolls 98 = .ok (.iadd, 1) := by decide +kernel
theorem dX12_rolls_99 : decode cX12_rolls 99 = .ok (.putfield 192, 3) := by decide +kernel
theorem dX12_rolls_102 : decode cX12_rolls 102 = .ok (.aload_n 0, 1) := by decide +kernel
theorem dX12_rolls_103 : decode cX12_rolls 103 = .ok (.getfield 7, 3) := by decide +kernel
theorem dX12_rolls_106 : decode cX12_rolls 106 = .ok (.iconst 4, 1) := by decide +kernel
theorem dX12_rolls_107 : decode cX12_rolls 107 = .ok (.aload_n 0, 1) := by decide +kernel
theorem dX12_rolls_108 : decode cX12_rolls 108 = .ok (.getfield 7, 3) := by decide +kernel
theorem dX12_rolls_111 : decode cX12_rolls 111 = .ok (.iconst 4, 1) := by decide +kernel
theorem dX12_rolls_112 : decode cX12_rolls 112 = .ok (.iaload, 1) := by decide +kernel
theorem dX12_rolls_113 : decode cX12_rolls 113 = .ok (.iload 6, 2) := by decide +kernel
theorem dX12_rolls_115 : decode cX12_rolls 115 = .ok (.isub, 1) := by decide +kernel
theorem dX12_rolls_116 : decode cX12_rolls 116 = .ok (.iconst 0, 1) := by decide +kernel
theorem dX12_rolls_117 : decode cX12_rolls 117 = .ok (.bipush 99, 2) := by decide +kernel
theorem dX12_rolls_119 : decode cX12_rolls 119 = .ok (.invokestatic 180, 3) := by decide +kernel
theorem dX12_rolls_122 : decode cX12_rolls 122 = .ok (.iastore, 1) := by decide +kernel
theorem dX12_rolls_123 : decode cX12_rolls 123 = .ok (.aload_n 0, 1) := by decide +kernel
theorem dX12_rolls_124 : decode cX12_rolls 124 = .ok (.getfield 7, 3) := by decide +kernel
theorem dX12_rolls_127 : decode cX12_rolls 127 = .ok (.iconst 2, 1) := by decide +kernel
theorem dX12_rolls_128 : decode cX12_rolls 128 = .ok (.dup2, 1) := by decide +kernel
theorem dX12_rolls_129 : decode cX12_rolls 129 = .ok (.iaload, 1) := by decide +kernel
theorem dX12_rolls_130 : decode cX12_rolls 130 = .ok (.iload_n 1, 1) := by decide +kernel
theorem dX12_rolls_131 : decode cX12_rolls 131 = .ok (.iload_n 2, 1) := by decide +kernel
theorem dX12_rolls_132 : decode cX12_rolls 132 = .ok (.iload 7, 2) := by decide +kernel
theorem dX12_rolls_134 : decode cX12_rolls 134 = .ok (.invokestatic 107, 3) := by decide +kernel
theorem dX12_rolls_137 : decode cX12_rolls 137 = .ok (.iadd, 1) := by decide +kernel
theorem dX12_rolls_138 : decode cX12_rolls 138 = .ok (.iastore, 1) := by decide +kernel
theorem dX12_rolls_139 : decode cX12_rolls 139 = .ok (.iload 4, 2) := by decide +kernel
theorem dX12_rolls_141 : decode cX12_rolls 141 = .ok (.ifCond .ne 8, 3) := by decide +kernel
theorem dX12_rolls_144 : decode cX12_rolls 144 = .ok (.iload 7, 2) := by decide +kernel
theorem dX12_rolls_146 : decode cX12_rolls 146 = .ok (.goto 14, 3) := by decide +kernel
theorem dX12_rolls_149 : decode cX12_rolls 149 = .ok (.aload_n 0, 1) := by decide +kernel
theorem dX12_rolls_150 : decode cX12_rolls 150 = .ok (.getfield 7, 3) := by decide +kernel
theorem dX12_rolls_153 : decode cX12_rolls 153 = .ok (.iconst 0, 1) := by decide +kernel
theorem dX12_rolls_154 : decode cX12_rolls 154 = .ok (.iaload, 1) := by decide +kernel
theorem dX12_rolls_155 : decode cX12_rolls 155 = .ok (.iconst 1, 1) := by decide +kernel
theorem dX12_rolls_156 : decode cX12_rolls 156 = .ok (.isub, 1) := by decide +kernel
theorem dX12_rolls_157 : decode cX12_rolls 157 = .ok (.iload 7, 2) := by decide +kernel
theorem dX12_rolls_159 : decode cX12_rolls 159 = .ok (.isub, 1) := by decide +kernel
theorem dX12_rolls_160 : decode cX12_rolls 160 = .ok (.aload_n 0, 1) := by decide +kernel
theorem dX12_rolls_161 : decode cX12_rolls 161 = .ok (.getfield 7, 3) := by decide +kernel
theorem dX12_rolls_164 : decode cX12_rolls 164 = .ok (.iconst 1, 1) := by decide +kernel
theorem dX12_rolls_165 : decode cX12_rolls 165 = .ok (.iaload, 1) := by decide +kernel
theorem dX12_rolls_166 : decode cX12_rolls 166 = .ok (.imul, 1) := by decide +kernel
theorem dX12_rolls_167 : decode cX12_rolls 167 = .ok (.iload_n 3, 1) := by decide +kernel
theorem dX12_rolls_168 : decode cX12_rolls 168 = .ok (.iadd, 1) := by decide +kernel
theorem dX12_rolls_169 : decode cX12_rolls 169 = .ok (.istore 8, 2) := by decide +kernel
theorem dX12_rolls_171 : decode cX12_rolls 171 = .ok (.aload_n 0, 1) := by decide +kernel
theorem dX12_rolls_172 : decode cX12_rolls 172 = .ok (.getfield 7, 3) := by decide +kernel
theorem dX12_rolls_175 : decode cX12_rolls 175 = .ok (.bipush 25, 2) := by decide +kernel
theorem dX12_rolls_177 : decode cX12_rolls 177 = .ok (.iconst 2, 1) := by decide +kernel
theorem dX12_rolls_178 : decode cX12_rolls 178 = .ok (.iload 8, 2) := by decide +kernel
theorem dX12_rolls_180 : decode cX12_rolls 180 = .ok (.imul, 1) := by decide +kernel
theorem dX12_rolls_181 : decode cX12_rolls 181 = .ok (.iadd, 1) := by decide +kernel
theorem dX12_rolls_182 : decode cX12_rolls 182 = .ok (.aload_n 0, 1) := by decide +kernel
theorem dX12_rolls_183 : decode cX12_rolls 183 = .ok (.getfield 7, 3) := by decide +kernel
theorem dX12_rolls_186 : decode cX12_rolls 186 = .ok (.iconst 2, 1) := by decide +kernel
theorem dX12_rolls_187 : decode cX12_rolls 187 = .ok (.iaload, 1) := by decide +kernel
theorem dX12_rolls_188 : decode cX12_rolls 188 = .ok (.iastore, 1) := by decide +kernel
theorem dX12_rolls_189 : decode cX12_rolls 189 = .ok (.aload_n 0, 1) := by decide +kernel
theorem dX12_rolls_190 : decode cX12_rolls 190 = .ok (.getfield 7, 3) := by decide +kernel
theorem dX12_rolls_193 : decode cX12_rolls 193 = .ok (.bipush 25, 2) := by decide +kernel
theorem dX12_rolls_195 : decode cX12_rolls 195 = .ok (.iconst 2, 1) := by decide +kernel
theorem dX12_rolls_196 : decode cX12_rolls 196 = .ok (.iload 8, 2) := by decide +kernel
theorem dX12_rolls_198 : decode cX12_rolls 198 = .ok (.imul, 1) := by decide +kernel
theorem dX12_rolls_199 : decode cX12_rolls 199 = .ok (.iadd, 1) := by decide +kernel
theorem dX12_rolls_200 : decode cX12_rolls 200 = .ok (.iconst 1, 1) := by decide +kernel
theorem dX12_rolls_201 : decode cX12_rolls 201 = .ok (.iadd, 1) := by decide +kernel
theorem dX12_rolls_202 : decode cX12_rolls 202 = .ok (.aload_n 0, 1) := by decide +kernel
theorem dX12_rolls_203 : decode cX12_rolls 203 = .ok (.getfield 7, 3) := by decide +kernel
theorem dX12_rolls_206 : decode cX12_rolls 206 = .ok (.iconst 5, 1) := by decide +kernel
theorem dX12_rolls_207 : decode cX12_rolls 207 = .ok (.iaload, 1) := by decide +kernel
theorem dX12_rolls_208 : decode cX12_rolls 208 = .ok (.iastore, 1) := by decide +kernel
theorem dX12_rolls_209 : decode cX12_rolls 209 = .ok (.iinc 7 1, 3) := by decide +kernel
theorem dX12_rolls_212 : decode cX12_rolls 212 = .ok (.goto (-195), 3) := by decide +kernel
theorem dX12_rolls_215 : decode cX12_rolls 215 = .ok (.return_, 1) := by decide +kernel
theorem dX12_rollsBy_0 : decode cX12_rollsBy 0 = .ok (.aload_n 0, 1) := by decide +kernel
theorem dX12_rollsBy_1 : decode cX12_rollsBy 1 = .ok (.aload_n 0, 1) := by decide +kernel
theorem dX12_rollsBy_2 : decode cX12_rollsBy 2 = .ok (.iload_n 1, 1) := by decide +kernel
theorem dX12_rollsBy_3 : decode cX12_rollsBy 3 = .ok (.invokevirtual 101, 3) := by decide +kernel
theorem dX12_rollsBy_6 : decode cX12_rollsBy 6 = .ok (.aload_n 0, 1) := by decide +kernel
theorem dX12_rollsBy_7 : decode cX12_rollsBy 7 = .ok (.iload_n 1, 1) := by decide +kernel
theorem dX12_rollsBy_8 : decode cX12_rollsBy 8 = .ok (.invokevirtual 104, 3) := by decide +kernel
theorem dX12_rollsBy_11 : decode cX12_rollsBy 11 = .ok (.iload_n 2, 1) := by decide +kernel
theorem dX12_rollsBy_12 : decode cX12_rollsBy 12 = .ok (.iload_n 3, 1) := by decide +kernel
theorem dX12_rollsBy_13 : decode cX12_rollsBy 13 = .ok (.invokevirtual 195, 3) := by decide +kernel
theorem dX12_rollsBy_16 : decode cX12_rollsBy 16 = .ok (.return_, 1) := by decide +kernel
theorem dX12_roll_0 : decode cX12_roll 0 = .ok (.aload_n 0, 1) := by decide +kernel
theorem dX12_roll_1 : decode cX12_roll 1 = .ok (.iload_n 1, 1) := by decide +kernel
theorem dX12_roll_2 : decode cX12_roll 2 = .ok (.invokevirtual 98, 3) := by decide +kernel
theorem dX12_roll_5 : decode cX12_roll 5 = .ok (.ifCond .eq 20, 3) := by decide +kernel
theorem dX12_roll_8 : decode cX12_roll 8 = .ok (.aload_n 0, 1) := by decide +kernel
theorem dX12_roll_9 : decode cX12_roll 9 = .ok (.iload_n 2, 1) := by decide +kernel
theorem dX12_roll_10 : decode cX12_roll 10 = .ok (.invokevirtual 199, 3) := by decide +kernel
theorem dX12_roll_13 : decode cX12_roll 13 = .ok (.ifCond .eq 12, 3) := by decide +kernel
theorem dX12_roll_16 : decode cX12_roll 16 = .ok (.iload_n 3, 1) := by decide +kernel
theorem dX12_roll_17 : decode cX12_roll 17 = .ok (.iconst 0, 1) := by decide +kernel
theorem dX12_roll_18 : decode cX12_roll 18 = .ok (.iconst 1, 1) := by decide +kernel
theorem dX12_roll_19 : decode cX12_roll 19 = .ok (.invokestatic 57, 3) := by decide +kernel
theorem dX12_roll_22 : decode cX12_roll 22 = .ok (.ifCond .ne 10, 3) := by decide +kernel
theorem dX12_roll_25 : decode cX12_roll 25 = .ok (.aload_n 0, 1) := by decide +kernel
theorem dX12_roll_26 : decode cX12_roll 26 = .ok (.ldc 61, 2) := by decide +kernel
theorem dX12_roll_28 : decode cX12_roll 28 = .ok (.invokevirtual 62, 3) := by decide +kernel
theorem dX12_roll_31 : decode cX12_roll 31 = .ok (.ireturn, 1) := by decide +kernel
theorem dX12_roll_32 : decode cX12_roll 32 = .ok (.aload_n 0, 1) := by decide +kernel
theorem dX12_roll_33 : decode cX12_roll 33 = .ok (.getfield 7, 3) := by decide +kernel
theorem dX12_roll_36 : decode cX12_roll 36 = .ok (.iconst 2, 1) := by decide +kernel
theorem dX12_roll_37 : decode cX12_roll 37 = .ok (.iaload, 1) := by decide +kernel
theorem dX12_roll_38 : decode cX12_roll 38 = .ok (.sipush 9900, 3) := by decide +kernel
theorem dX12_roll_41 : decode cX12_roll 41 = .ok (.if_icmp .le 10, 3) := by decide +kernel
theorem dX12_roll_44 : decode cX12_roll 44 = .ok (.aload_n 0, 1) := by decide +kernel
theorem dX12_roll_45 : decode cX12_roll 45 = .ok (.ldc 202, 2) := by decide +kernel
theorem dX12_roll_47 : decode cX12_roll 47 = .ok (.invokevirtual 62, 3) := by decide +kernel
theorem dX12_roll_50 : decode cX12_roll 50 = .ok (.ireturn, 1) := by decide +kernel
theorem dX12_roll_51 : decode cX12_roll 51 = .ok (.aload_n 0, 1) := by decide +kernel
theorem dX12_roll_52 : decode cX12_roll 52 = .ok (.iload_n 1, 1) := by decide +kernel
theorem dX12_roll_53 : decode cX12_roll 53 = .ok (.iload_n 2, 1) := by decide +kernel
theorem dX12_roll_54 : decode cX12_roll 54 = .ok (.iload_n 3, 1) := by decide +kernel
theorem dX12_roll_55 : decode cX12_roll 55 = .ok (.invokevirtual 203, 3) := by decide +kernel
theorem dX12_roll_58 : decode cX12_roll 58 = .ok (.aload_n 0, 1) := by decide +kernel
theorem dX12_roll_59 : decode cX12_roll 59 = .ok (.getfield 7, 3) := by decide +kernel
theorem dX12_roll_62 : decode cX12_roll 62 = .ok (.iconst 2, 1) := by decide +kernel
theorem dX12_roll_63 : decode cX12_roll 63 = .ok (.iaload, 1) := by decide +kernel
theorem dX12_roll_64 : decode cX12_roll 64 = .ok (.ireturn, 1) := by decide +kernel
theorem dX12_minutes_0 : decode cX12_minutes 0 = .ok (.iload_n 1, 1) := by decide +kernel
theorem dX12_minutes_1 : decode cX12_minutes 1 = .ok (.iconst 1, 1) := by decide +kernel
theorem dX12_minutes_2 : decode cX12_minutes 2 = .ok (.sipush 500, 3) := by decide +kernel
theorem dX12_minutes_5 : decode cX12_minutes 5 = .ok (.invokestatic 57, 3) := by decide +kernel
theorem dX12_minutes_8 : decode cX12_minutes 8 = .ok (.ifCond .ne 10, 3) := by decide +kernel
theorem dX12_minutes_11 : decode cX12_minutes 11 = .ok (.aload_n 0, 1) := by decide +kernel
theorem dX12_minutes_12 : decode cX12_minutes 12 = .ok (.ldc 61, 2) := by decide +kernel
theorem dX12_minutes_14 : decode cX12_minutes 14 = .ok (.invokevirtual 62, 3) := by decide +kernel
theorem dX12_minutes_17 : decode cX12_minutes 17 = .ok (.ireturn, 1) := by decide +kernel
theorem dX12_minutes_18 : decode cX12_minutes 18 = .ok (.aload_n 0, 1) := by decide +kernel
theorem dX12_minutes_19 : decode cX12_minutes 19 = .ok (.getfield 7, 3) := by decide +kernel
theorem dX12_minutes_22 : decode cX12_minutes 22 = .ok (.iconst 2, 1) := by decide +kernel
theorem dX12_minutes_23 : decode cX12_minutes 23 = .ok (.iaload, 1) := by decide +kernel
theorem dX12_minutes_24 : decode cX12_minutes 24 = .ok (.iload_n 1, 1) := by decide +kernel
theorem dX12_minutes_25 : decode cX12_minutes 25 = .ok (.iadd, 1) := by decide +kernel
theorem dX12_minutes_26 : decode cX12_minutes 26 = .ok (.sipush 9999, 3) := by decide +kernel
theorem dX12_minutes_29 : decode cX12_minutes 29 = .ok (.if_icmp .le 10, 3) := by decide +kernel
theorem dX12_minutes_32 : decode cX12_minutes 32 = .ok (.aload_n 0, 1) := by decide +kernel
theorem dX12_minutes_33 : decode cX12_minutes 33 = .ok (.ldc 202, 2) := by decide +kernel
theorem dX12_minutes_35 : decode cX12_minutes 35 = .ok (.invokevirtual 62, 3) := by decide +kernel
theorem dX12_minutes_38 : decode cX12_minutes 38 = .ok (.ireturn, 1) := by decide +kernel
theorem dX12_minutes_39 : decode cX12_minutes 39 = .ok (.aload_n 0, 1) := by decide +kernel
theorem dX12_minutes_40 : decode cX12_minutes 40 = .ok (.getfield 7, 3) := by decide +kernel
theorem dX12_minutes_43 : decode cX12_minutes 43 = .ok (.iconst 2, 1) := by decide +kernel
theorem dX12_minutes_44 : decode cX12_minutes 44 = .ok (.dup2, 1) := by decide +kernel
theorem dX12_minutes_45 : decode cX12_minutes 45 = .ok (.iaload, 1) := by decide +kernel
theorem dX12_minutes_46 : decode cX12_minutes 46 = .ok (.iload_n 1, 1) := by decide +kernel
theorem dX12_minutes_47 : decode cX12_minutes 47 = .ok (.iadd, 1) := by decide +kernel
theorem dX12_minutes_48 : decode cX12_minutes 48 = .ok (.iastore, 1) := by decide +kernel
theorem dX12_minutes_49 : decode cX12_minutes 49 = .ok (.aload_n 0, 1) := by decide +kernel
theorem dX12_minutes_50 : decode cX12_minutes 50 = .ok (.getfield 7, 3) := by decide +kernel
theorem dX12_minutes_53 : decode cX12_minutes 53 = .ok (.iconst 2, 1) := by decide +kernel
theorem dX12_minutes_54 : decode cX12_minutes 54 = .ok (.iaload, 1) := by decide +kernel
theorem dX12_minutes_55 : decode cX12_minutes 55 = .ok (.ireturn, 1) := by decide +kernel
theorem dX12_drawn_0 : decode cX12_drawn 0 = .ok (.aload_n 0, 1) := by decide +kernel
theorem dX12_drawn_1 : decode cX12_drawn 1 = .ok (.getfield 7, 3) := by decide +kernel
theorem dX12_drawn_4 : decode cX12_drawn 4 = .ok (.bipush 7, 2) := by decide +kernel
theorem dX12_drawn_6 : decode cX12_drawn 6 = .ok (.aload_n 0, 1) := by decide +kernel
theorem dX12_drawn_7 : decode cX12_drawn 7 = .ok (.getfield 7, 3) := by decide +kernel
theorem dX12_drawn_10 : decode cX12_drawn 10 = .ok (.bipush 7, 2) := by decide +kernel
theorem dX12_drawn_12 : decode cX12_drawn 12 = .ok (.iaload, 1) := by decide +kernel
theorem dX12_drawn_13 : decode cX12_drawn 13 = .ok (.ldc 207, 2) := by decide +kernel
theorem dX12_drawn_15 : decode cX12_drawn 15 = .ok (.imul, 1) := by decide +kernel
theorem dX12_drawn_16 : decode cX12_drawn 16 = .ok (.sipush 12345, 3) := by decide +kernel
theorem dX12_drawn_19 : decode cX12_drawn 19 = .ok (.iadd, 1) := by decide +kernel
theorem dX12_drawn_20 : decode cX12_drawn 20 = .ok (.iastore, 1) := by decide +kernel
theorem dX12_drawn_21 : decode cX12_drawn 21 = .ok (.aload_n 0, 1) := by decide +kernel
theorem dX12_drawn_22 : decode cX12_drawn 22 = .ok (.getfield 7, 3) := by decide +kernel
theorem dX12_drawn_25 : decode cX12_drawn 25 = .ok (.bipush 7, 2) := by decide +kernel
theorem dX12_drawn_27 : decode cX12_drawn 27 = .ok (.iaload, 1) := by decide +kernel
theorem dX12_drawn_28 : decode cX12_drawn 28 = .ok (.bipush 8, 2) := by decide +kernel
theorem dX12_drawn_30 : decode cX12_drawn 30 = .ok (.iushr, 1) := by decide +kernel
theorem dX12_drawn_31 : decode cX12_drawn 31 = .ok (.iload_n 1, 1) := by decide +kernel
theorem dX12_drawn_32 : decode cX12_drawn 32 = .ok (.irem, 1) := by decide +kernel
theorem dX12_drawn_33 : decode cX12_drawn 33 = .ok (.ireturn, 1) := by decide +kernel
theorem dX12_days_0 : decode cX12_days 0 = .ok (.iload_n 1, 1) := by decide +kernel
theorem dX12_days_1 : decode cX12_days 1 = .ok (.iconst 1, 1) := by decide +kernel
theorem dX12_days_2 : decode cX12_days 2 = .ok (.bipush 30, 2) := by decide +kernel
theorem dX12_days_4 : decode cX12_days 4 = .ok (.invokestatic 57, 3) := by decide +kernel
theorem dX12_days_7 : decode cX12_days 7 = .ok (.ifCond .ne 10, 3) := by decide +kernel
theorem dX12_days_10 : decode cX12_days 10 = .ok (.aload_n 0, 1) := by decide +kernel
theorem dX12_days_11 : decode cX12_days 11 = .ok (.ldc 61, 2) := by decide +kernel
theorem dX12_days_13 : decode cX12_days 13 = .ok (.invokevirtual 62, 3) := by decide +kernel
theorem dX12_days_16 : decode cX12_days 16 = .ok (.ireturn, 1) := by decide +kernel
theorem dX12_days_17 : decode cX12_days 17 = .ok (.aload_n 0, 1) := by decide +kernel
theorem dX12_days_18 : decode cX12_days 18 = .ok (.getfield 7, 3) := by decide +kernel
theorem dX12_days_21 : decode cX12_days 21 = .ok (.bipush 8, 2) := by decide +kernel
theorem dX12_days_23 : decode cX12_days 23 = .ok (.iaload, 1) := by decide +kernel
theorem dX12_days_24 : decode cX12_days 24 = .ok (.ifCond .ne 10, 3) := by decide +kernel
theorem dX12_days_27 : decode cX12_days 27 = .ok (.aload_n 0, 1) := by decide +kernel
theorem dX12_days_28 : decode cX12_days 28 = .ok (.ldc 202, 2) := by decide +kernel
theorem dX12_days_30 : decode cX12_days 30 = .ok (.invokevirtual 62, 3) := by decide +kernel
theorem dX12_days_33 : decode cX12_days 33 = .ok (.ireturn, 1) := by decide +kernel
theorem dX12_days_34 : decode cX12_days 34 = .ok (.iconst 0, 1) := by decide +kernel
theorem dX12_days_35 : decode cX12_days 35 = .ok (.istore_n 2, 1) := by decide +kernel
theorem dX12_days_36 : decode cX12_days 36 = .ok (.iload_n 2, 1) := by decide +kernel
theorem dX12_days_37 : decode cX12_days 37 = .ok (.iload_n 1, 1) := by decide +kernel
theorem dX12_days_38 : decode cX12_days 38 = .ok (.if_icmp .ge 87, 3) := by decide +kernel
theorem dX12_days_41 : decode cX12_days 41 = .ok (.aload_n 0, 1) := by decide +kernel
theorem dX12_days_42 : decode cX12_days 42 = .ok (.aload_n 0, 1) := by decide +kernel
theorem dX12_days_43 : decode cX12_days 43 = .ok (.getfield 7, 3) := by decide +kernel
theorem dX12_days_46 : decode cX12_days 46 = .ok (.bipush 8, 2) := by decide +kernel
theorem dX12_days_48 : decode cX12_days 48 = .ok (.iaload, 1) := by decide +kernel
theorem dX12_days_49 : decode cX12_days 49 = .ok (.invokevirtual 208, 3) := by decide +kernel
theorem dX12_days_52 : decode cX12_days 52 = .ok (.istore_n 3, 1) := by decide +kernel
theorem dX12_days_53 : decode cX12_days 53 = .ok (.aload_n 0, 1) := by decide +kernel
theorem dX12_days_54 : decode cX12_days 54 = .ok (.aload_n 0, 1) := by decide +kernel
theorem dX12_days_55 : decode cX12_days 55 = .ok (.getfield 7, 3) := by decide +kernel
theorem dX12_days_58 : decode cX12_days 58 = .ok (.iconst 1, 1) := by decide +kernel
theorem dX12_days_59 : decode cX12_days 59 = .ok (.iaload, 1) := by decide +kernel
theorem dX12_days_60 : decode cX12_days 60 = .ok (.invokevirtual 208, 3) := by decide +kernel
theorem dX12_days_63 : decode cX12_days 63 = .ok (.istore 4, 2) := by decide +kernel
theorem dX12_days_65 : decode cX12_days 65 = .ok (.aload_n 0, 1) := by decide +kernel
theorem dX12_days_66 : decode cX12_days 66 = .ok (.iconst 2, 1) := by decide +kernel
theorem dX12_days_67 : decode cX12_days 67 = .ok (.invokevirtual 208, 3) := by decide +kernel
theorem dX12_days_70 : decode cX12_days 70 = .ok (.istore 5, 2) := by decide +kernel
theorem dX12_days_72 : decode cX12_days 72 = .ok (.aload_n 0, 1) := by decide +kernel
theorem dX12_days_73 : decode cX12_days 73 = .ok (.getfield 7, 3) := by decide +kernel
theorem dX12_days_76 : decode cX12_days 76 = .ok (.iconst 2, 1) := by decide +kernel
theorem dX12_days_77 : decode cX12_days 77 = .ok (.aload_n 0, 1) := by decide +kernel
theorem dX12_days_78 : decode cX12_days 78 = .ok (.getfield 7, 3) := by decide +kernel
theorem dX12_days_81 : decode cX12_days 81 = .ok (.iconst 2, 1) := by decide +kernel
theorem dX12_days_82 : decode cX12_days 82 = .ok (.iaload, 1) := by decide +kernel
theorem dX12_days_83 : decode cX12_days 83 = .ok (.aload_n 0, 1) := by decide +kernel
theorem dX12_days_84 : decode cX12_days 84 = .ok (.bipush 8, 2) := by decide +kernel
theorem dX12_days_86 : decode cX12_days 86 = .ok (.invokevirtual 208, 3) := by decide +kernel
theorem dX12_days_89 : decode cX12_days 89 = .ok (.iadd, 1) := by decide +kernel
theorem dX12_days_90 : decode cX12_days 90 = .ok (.iconst 0, 1) := by decide +kernel
theorem dX12_days_91 : decode cX12_days 91 = .ok (.sipush 9999, 3) := by decide +kernel
theorem dX12_days_94 : decode cX12_days 94 = .ok (.invokestatic 180, 3) := by decide +kernel
theorem dX12_days_97 : decode cX12_days 97 = .ok (.iastore, 1) := by decide +kernel
theorem dX12_days_98 : decode cX12_days 98 = .ok (.aload_n 0, 1) := by decide +kernel
theorem dX12_days_99 : decode cX12_days 99 = .ok (.getfield 7, 3) := by decide +kernel
theorem dX12_days_102 : decode cX12_days 102 = .ok (.iconst 2, 1) := by decide +kernel
theorem dX12_days_103 : decode cX12_days 103 = .ok (.iaload, 1) := by decide +kernel
theorem dX12_days_104 : decode cX12_days 104 = .ok (.sipush 9900, 3) := by decide +kernel
theorem dX12_days_107 : decode cX12_days 107 = .ok (.if_icmp .gt 12, 3) := by decide +kernel
theorem dX12_days_110 : decode cX12_days 110 = .ok (.aload_n 0, 1) := by decide +kernel
theorem dX12_days_111 : decode cX12_days 111 = .ok (.iload_n 3, 1) := by decide +kernel
theorem dX12_days_112 : decode cX12_days 112 = .ok (.iload 4, 2) := by decide +kernel
theorem dX12_days_114 : decode cX12_days 114 = .ok (.iload 5, 2) := by decide +kernel
theorem dX12_days_116 : decode cX12_days 116 = .ok (.invokevirtual 203, 3) := by decide +kernel
theorem dX12_days_119 : decode cX12_days 119 = .ok (.iinc 2 1, 3) := by decide +kernel
theorem dX12_days_122 : decode cX12_days 122 = .ok (.goto (-86), 3) := by decide +kernel
theorem dX12_days_125 : decode cX12_days 125 = .ok (.aload_n 0, 1) := by decide +kernel
theorem dX12_days_126 : decode cX12_days 126 = .ok (.invokevirtual 211, 3) := by decide +kernel
theorem dX12_days_129 : decode cX12_days 129 = .ok (.ireturn, 1) := by decide +kernel
theorem dX12_seen_0 : decode cX12_seen 0 = .ok (.iconst 0, 1) := by decide +kernel
theorem dX12_seen_1 : decode cX12_seen 1 = .ok (.istore_n 1, 1) := by decide +kernel
theorem dX12_seen_2 : decode cX12_seen 2 = .ok (.iconst 0, 1) := by decide +kernel
theorem dX12_seen_3 : decode cX12_seen 3 = .ok (.istore_n 2, 1) := by decide +kernel
theorem dX12_seen_4 : decode cX12_seen 4 = .ok (.iload_n 2, 1) := by decide +kernel
theorem dX12_seen_5 : decode cX12_seen 5 = .ok (.aload_n 0, 1) := by decide +kernel
theorem dX12_seen_6 : decode cX12_seen 6 = .ok (.invokevirtual 66, 3) := by decide +kernel
theorem dX12_seen_9 : decode cX12_seen 9 = .ok (.if_icmp .ge 50, 3) := by decide +kernel
theorem dX12_seen_12 : decode cX12_seen 12 = .ok (.aload_n 0, 1) := by decide +kernel
theorem dX12_seen_13 : decode cX12_seen 13 = .ok (.iload_n 2, 1) := by decide +kernel
theorem dX12_seen_14 : decode cX12_seen 14 = .ok (.invokevirtual 94, 3) := by decide +kernel
theorem dX12_seen_17 : decode cX12_seen 17 = .ok (.iconst 1, 1) := by decide +kernel
theorem dX12_seen_18 : decode cX12_seen 18 = .ok (.if_icmp .ne 35, 3) := by decide +kernel
theorem dX12_seen_21 : decode cX12_seen 21 = .ok (.aload_n 0, 1) := by decide +kernel
theorem dX12_seen_22 : decode cX12_seen 22 = .ok (.iload_n 2, 1) := by decide +kernel
theorem dX12_seen_23 : decode cX12_seen 23 = .ok (.invokevirtual 84, 3) := by decide +kernel
theorem dX12_seen_26 : decode cX12_seen 26 = .ok (.aload_n 0, 1) := by decide +kernel
theorem dX12_seen_27 : decode cX12_seen 27 = .ok (.iload_n 2, 1) := by decide +kernel
theorem dX12_seen_28 : decode cX12_seen 28 = .ok (.iconst 1, 1) := by decide +kernel
theorem dX12_seen_29 : decode cX12_seen 29 = .ok (.iadd, 1) := by decide +kernel
theorem dX12_seen_30 : decode cX12_seen 30 = .ok (.invokevirtual 84, 3) := by decide +kernel
theorem dX12_seen_33 : decode cX12_seen 33 = .ok (.isub, 1) := by decide +kernel
theorem dX12_seen_34 : decode cX12_seen 34 = .ok (.istore_n 3, 1) := by decide +kernel
theorem dX12_seen_35 : decode cX12_seen 35 = .ok (.iload_n 1, 1) := by decide +kernel
theorem dX12_seen_36 : decode cX12_seen 36 = .ok (.aload_n 0, 1) := by decide +kernel
theorem dX12_seen_37 : decode cX12_seen 37 = .ok (.iload_n 2, 1) := by decide +kernel
theorem dX12_seen_38 : decode cX12_seen 38 = .ok (.iload_n 3, 1) := by decide +kernel
theorem dX12_seen_39 : decode cX12_seen 39 = .ok (.ifCond .ge 8, 3) := by decide +kernel
theorem dX12_seen_42 : decode cX12_seen 42 = .ok (.iload_n 3, 1) := by decide +kernel
theorem dX12_seen_43 : decode cX12_seen 43 = .ok (.ineg, 1) := by decide +kernel
theorem dX12_seen_44 : decode cX12_seen 44 = .ok (.goto 4, 3) := by decide +kernel
theorem dX12_seen_47 : decode cX12_seen 47 = .ok (.iload_n 3, 1) := by decide +kernel
theorem dX12_seen_48 : decode cX12_seen 48 = .ok (.invokevirtual 214, 3) := by decide +kernel
theorem dX12_seen_51 : decode cX12_seen 51 = .ok (.iadd, 1) := by decide +kernel
theorem dX12_seen_52 : decode cX12_seen 52 = .ok (.istore_n 1, 1) := by decide +kernel
theorem dX12_seen_53 : decode cX12_seen 53 = .ok (.iinc 2 1, 3) := by decide +kernel
theorem dX12_seen_56 : decode cX12_seen 56 = .ok (.goto (-52), 3) := by decide +kernel
theorem dX12_seen_59 : decode cX12_seen 59 = .ok (.iload_n 1, 1) := by decide +kernel
theorem dX12_seen_60 : decode cX12_seen 60 = .ok (.ireturn, 1) := by decide +kernel
theorem dX12_seams_0 : decode cX12_seams 0 = .ok (.iload_n 1, 1) := by decide +kernel
theorem dX12_seams_1 : decode cX12_seams 1 = .ok (.iconst 0, 1) := by decide +kernel
theorem dX12_seams_2 : decode cX12_seams 2 = .ok (.iconst 1, 1) := by decide +kernel
theorem dX12_seams_3 : decode cX12_seams 3 = .ok (.invokestatic 57, 3) := by decide +kernel
theorem dX12_seams_6 : decode cX12_seams 6 = .ok (.ifCond .ne 10, 3) := by decide +kernel
theorem dX12_seams_9 : decode cX12_seams 9 = .ok (.aload_n 0, 1) := by decide +kernel
theorem dX12_seams_10 : decode cX12_seams 10 = .ok (.ldc 61, 2) := by decide +kernel
theorem dX12_seams_12 : decode cX12_seams 12 = .ok (.invokevirtual 62, 3) := by decide +kernel
theorem dX12_seams_15 : decode cX12_seams 15 = .ok (.ireturn, 1) := by decide +kernel
theorem dX12_seams_16 : decode cX12_seams 16 = .ok (.iconst 0, 1) := by decide +kernel
theorem dX12_seams_17 : decode cX12_seams 17 = .ok (.istore_n 2, 1) := by decide +kernel
theorem dX12_seams_18 : decode cX12_seams 18 = .ok (.iconst 0, 1) := by decide +kernel
theorem dX12_seams_19 : decode cX12_seams 19 = .ok (.istore_n 3, 1) := by decide +kernel
theorem dX12_seams_20 : decode cX12_seams 20 = .ok (.iload_n 3, 1) := by decide +kernel
theorem dX12_seams_21 : decode cX12_seams 21 = .ok (.aload_n 0, 1) := by decide +kernel
theorem dX12_seams_22 : decode cX12_seams 22 = .ok (.invokevirtual 66, 3) := by decide +kernel
theorem dX12_seams_25 : decode cX12_seams 25 = .ok (.if_icmp .ge 17, 3) := by decide +kernel
theorem dX12_seams_28 : decode cX12_seams 28 = .ok (.iload_n 2, 1) := by decide +kernel
theorem dX12_seams_29 : decode cX12_seams 29 = .ok (.aload_n 0, 1) := by decide +kernel
theorem dX12_seams_30 : decode cX12_seams 30 = .ok (.iload_n 3, 1) := by decide +kernel
theorem dX12_seams_31 : decode cX12_seams 31 = .ok (.invokevirtual 94, 3) := by decide +kernel
theorem dX12_seams_34 : decode cX12_seams 34 = .ok (.iadd, 1) := by decide +kernel
theorem dX12_seams_35 : decode cX12_seams 35 = .ok (.istore_n 2, 1) := by decide +kernel
theorem dX12_seams_36 : decode cX12_seams 36 = .ok (.iinc 3 1, 3) := by decide +kernel
theorem dX12_seams_39 : decode cX12_seams 39 = .ok (.goto (-19), 3) := by decide +kernel
theorem dX12_seams_42 : decode cX12_seams 42 = .ok (.iload_n 1, 1) := by decide +kernel
theorem dX12_seams_43 : decode cX12_seams 43 = .ok (.ifCond .ne 7, 3) := by decide +kernel
theorem dX12_seams_46 : decode cX12_seams 46 = .ok (.iload_n 2, 1) := by decide +kernel
theorem dX12_seams_47 : decode cX12_seams 47 = .ok (.goto 7, 3) := by decide +kernel
theorem dX12_seams_50 : decode cX12_seams 50 = .ok (.aload_n 0, 1) := by decide +kernel
theorem dX12_seams_51 : decode cX12_seams 51 = .ok (.invokevirtual 211, 3) := by decide +kernel
theorem dX12_seams_54 : decode cX12_seams 54 = .ok (.ireturn, 1) := by decide +kernel
theorem dX12_isSheet_0 : decode cX12_isSheet 0 = .ok (.iload_n 0, 1) := by decide +kernel
theorem dX12_isSheet_1 : decode cX12_isSheet 1 = .ok (.iconst 0, 1) := by decide +kernel
theorem dX12_isSheet_2 : decode cX12_isSheet 2 = .ok (.iconst 3, 1) := by decide +kernel
theorem dX12_isSheet_3 : decode cX12_isSheet 3 = .ok (.invokestatic 57, 3) := by decide +kernel
theorem dX12_isSheet_6 : decode cX12_isSheet 6 = .ok (.ireturn, 1) := by decide +kernel
theorem dX12_seenBy_0 : decode cX12_seenBy 0 = .ok (.aload_n 0, 1) := by decide +kernel
theorem dX12_seenBy_1 : decode cX12_seenBy 1 = .ok (.aload_n 0, 1) := by decide +kernel
theorem dX12_seenBy_2 : decode cX12_seenBy 2 = .ok (.getfield 7, 3) := by decide +kernel
theorem dX12_seenBy_5 : decode cX12_seenBy 5 = .ok (.aload_n 0, 1) := by decide +kernel
theorem dX12_seenBy_6 : decode cX12_seenBy 6 = .ok (.getfield 16, 3) := by decide +kernel
theorem dX12_seenBy_9 : decode cX12_seenBy 9 = .ok (.invokevirtual 188, 3) := by decide +kernel
theorem dX12_seenBy_12 : decode cX12_seenBy 12 = .ok (.iconst 0, 1) := by decide +kernel
theorem dX12_seenBy_13 : decode cX12_seenBy 13 = .ok (.istore_n 2, 1) := by decide +kernel
theorem dX12_seenBy_14 : decode cX12_seenBy 14 = .ok (.iload_n 2, 1) := by decide +kernel
theorem dX12_seenBy_15 : decode cX12_seenBy 15 = .ok (.aload_n 0, 1) := by decide +kernel
theorem dX12_seenBy_16 : decode cX12_seenBy 16 = .ok (.getfield 7, 3) := by decide +kernel
theorem dX12_seenBy_19 : decode cX12_seenBy 19 = .ok (.iconst 1, 1) := by decide +kernel
theorem dX12_seenBy_20 : decode cX12_seenBy 20 = .ok (.iaload, 1) := by decide +kernel
theorem dX12_seenBy_21 : decode cX12_seenBy 21 = .ok (.if_icmp .ge 21, 3) := by decide +kernel
theorem dX12_seenBy_24 : decode cX12_seenBy 24 = .ok (.aload_n 0, 1) := by decide +kernel
theorem dX12_seenBy_25 : decode cX12_seenBy 25 = .ok (.iload_n 1, 1) := by decide +kernel
theorem dX12_seenBy_26 : decode cX12_seenBy 26 = .ok (.aload_n 0, 1) := by decide +kernel
theorem dX12_seenBy_27 : decode cX12_seenBy 27 = .ok (.getfield 43, 3) := by decide +kernel
theorem dX12_seenBy_30 : decode cX12_seenBy 30 = .ok (.iload_n 2, 1) := by decide +kernel
theorem dX12_seenBy_31 : decode cX12_seenBy 31 = .ok (.iaload, 1) := by decide +kernel
theorem dX12_seenBy_32 : decode cX12_seenBy 32 = .ok (.iconst 0, 1) := by decide +kernel
theorem dX12_seenBy_33 : decode cX12_seenBy 33 = .ok (.invokevirtual 203, 3) := by decide +kernel
theorem dX12_seenBy_36 : decode cX12_seenBy 36 = .ok (.iinc 2 1, 3) := by decide +kernel
theorem dX12_seenBy_39 : decode cX12_seenBy 39 = .ok (.goto (-25), 3) := by decide +kernel
theorem dX12_seenBy_42 : decode cX12_seenBy 42 = .ok (.aload_n 0, 1) := by decide +kernel
theorem dX12_seenBy_43 : decode cX12_seenBy 43 = .ok (.invokevirtual 211, 3) := by decide +kernel
theorem dX12_seenBy_46 : decode cX12_seenBy 46 = .ok (.istore_n 2, 1) := by decide +kernel
theorem dX12_seenBy_47 : decode cX12_seenBy 47 = .ok (.aload_n 0, 1) := by decide +kernel
theorem dX12_seenBy_48 : decode cX12_seenBy 48 = .ok (.aload_n 0, 1) := by decide +kernel
theorem dX12_seenBy_49 : decode cX12_seenBy 49 = .ok (.getfield 16, 3) := by decide +kernel
theorem dX12_seenBy_52 : decode cX12_seenBy 52 = .ok (.aload_n 0, 1) := by decide +kernel
theorem dX12_seenBy_53 : decode cX12_seenBy 53 = .ok (.getfield 7, 3) := by decide +kernel
theorem dX12_seenBy_56 : decode cX12_seenBy 56 = .ok (.invokevirtual 188, 3) := by decide +kernel
theorem dX12_seenBy_59 : decode cX12_seenBy 59 = .ok (.iload_n 2, 1) := by decide +kernel
theorem dX12_seenBy_60 : decode cX12_seenBy 60 = .ok (.ireturn, 1) := by decide +kernel
theorem dX12_done_0 : decode cX12_done 0 = .ok (.aload_n 0, 1) := by decide +kernel
theorem dX12_done_1 : decode cX12_done 1 = .ok (.iload_n 1, 1) := by decide +kernel
theorem dX12_done_2 : decode cX12_done 2 = .ok (.invokevirtual 98, 3) := by decide +kernel
theorem dX12_done_5 : decode cX12_done 5 = .ok (.ifCond .eq 10, 3) := by decide +kernel
theorem dX12_done_8 : decode cX12_done 8 = .ok (.iload_n 2, 1) := by decide +kernel
theorem dX12_done_9 : decode cX12_done 9 = .ok (.invokestatic 217, 3) := by decide +kernel
theorem dX12_done_12 : decode cX12_done 12 = .ok (.ifCond .ne 10, 3) := by decide +kernel
theorem dX12_done_15 : decode cX12_done 15 = .ok (.aload_n 0, 1) := by decide +kernel
theorem dX12_done_16 : decode cX12_done 16 = .ok (.ldc 61, 2) := by decide +kernel
theorem dX12_done_18 : decode cX12_done 18 = .ok (.invokevirtual 62, 3) := by decide +kernel
theorem dX12_done_21 : decode cX12_done 21 = .ok (.ireturn, 1) := by decide +kernel
theorem dX12_done_22 : decode cX12_done 22 = .ok (.aload_n 0, 1) := by decide +kernel
theorem dX12_done_23 : decode cX12_done 23 = .ok (.getfield 31, 3) := by decide +kernel
theorem dX12_done_26 : decode cX12_done 26 = .ok (.iload_n 2, 1) := by decide +kernel
theorem dX12_done_27 : decode cX12_done 27 = .ok (.iaload, 1) := by decide +kernel
theorem dX12_done_28 : decode cX12_done 28 = .ok (.ifCond .ne 10, 3) := by decide +kernel
theorem dX12_done_31 : decode cX12_done 31 = .ok (.aload_n 0, 1) := by decide +kernel
theorem dX12_done_32 : decode cX12_done 32 = .ok (.ldc 220, 2) := by decide +kernel
theorem dX12_done_34 : decode cX12_done 34 = .ok (.invokevirtual 62, 3) := by decide +kernel
theorem dX12_done_37 : decode cX12_done 37 = .ok (.ireturn, 1) := by decide +kernel
theorem dX12_done_38 : decode cX12_done 38 = .ok (.iconst 0, 1) := by decide +kernel
theorem dX12_done_39 : decode cX12_done 39 = .ok (.istore_n 3, 1) := by decide +kernel
theorem dX12_done_40 : decode cX12_done 40 = .ok (.iconst 0, 1) := by decide +kernel
theorem dX12_done_41 : decode cX12_done 41 = .ok (.istore 4, 2) := by decide +kernel
theorem dX12_done_43 : decode cX12_done 43 = .ok (.iload 4, 2) := by decide +kernel
theorem dX12_done_45 : decode cX12_done 45 = .ok (.aload_n 0, 1) := by decide +kernel
theorem dX12_done_46 : decode cX12_done 46 = .ok (.getfield 34, 3) := by decide +kernel
theorem dX12_done_49 : decode cX12_done 49 = .ok (.iload_n 2, 1) := by decide +kernel
theorem dX12_done_50 : decode cX12_done 50 = .ok (.iaload, 1) := by decide +kernel
theorem dX12_done_51 : decode cX12_done 51 = .ok (.if_icmp .ge 65, 3) := by decide +kernel
theorem dX12_done_54 : decode cX12_done 54 = .ok (.iload 4, 2) := by decide +kernel
theorem dX12_done_56 : decode cX12_done 56 = .ok (.bipush 6, 2) := by decide +kernel
theorem dX12_done_58 : decode cX12_done 58 = .ok (.if_icmp .ge 58, 3) := by decide +kernel
theorem dX12_done_61 : decode cX12_done 61 = .ok (.aload_n 0, 1) := by decide +kernel
theorem dX12_done_62 : decode cX12_done 62 = .ok (.getfield 43, 3) := by decide +kernel
theorem dX12_done_65 : decode cX12_done 65 = .ok (.iload 4, 2) := by decide +kernel
theorem dX12_done_67 : decode cX12_done 67 = .ok (.aload_n 0, 1) := by decide +kernel
theorem dX12_done_68 : decode cX12_done 68 = .ok (.getfield 37, 3) := by decide +kernel
theorem dX12_done_71 : decode cX12_done 71 = .ok (.bipush 40, 2) := by decide +kernel
theorem dX12_done_73 : decode cX12_done 73 = .ok (.iload_n 2, 1) := by decide +kernel
theorem dX12_done_74 : decode cX12_done 74 = .ok (.imul, 1) := by decide +kernel
theorem dX12_done_75 : decode cX12_done 75 = .ok (.iload 4, 2) := by decide +kernel
theorem dX12_done_77 : decode cX12_done 77 = .ok (.iadd, 1) := by decide +kernel
theorem dX12_done_78 : decode cX12_done 78 = .ok (.iaload, 1) := by decide +kernel
theorem dX12_done_79 : decode cX12_done 79 = .ok (.iastore, 1) := by decide +kernel
theorem dX12_done_80 : decode cX12_done 80 = .ok (.iload_n 3, 1) := by decide +kernel
theorem dX12_done_81 : decode cX12_done 81 = .ok (.aload_n 0, 1) := by decide +kernel
theorem dX12_done_82 : decode cX12_done 82 = .ok (.aload_n 0, 1) := by decide +kernel
theorem dX12_done_83 : decode cX12_done 83 = .ok (.getfield 43, 3) := by decide +kernel
theorem dX12_done_86 : decode cX12_done 86 = .ok (.iload 4, 2) := by decide +kernel
theorem dX12_done_88 : decode cX12_done 88 = .ok (.iaload, 1) := by decide +kernel
theorem dX12_done_89 : decode cX12_done 89 = .ok (.invokevirtual 199, 3) := by decide +kernel
theorem dX12_done_92 : decode cX12_done 92 = .ok (.ifCond .eq 15, 3) := by decide +kernel
theorem dX12_done_95 : decode cX12_done 95 = .ok (.iconst 1, 1) := by decide +kernel
theorem dX12_done_96 : decode cX12_done 96 = .ok (.aload_n 0, 1) := by decide +kernel
theorem dX12_done_97 : decode cX12_done 97 = .ok (.getfield 43, 3) := by decide +kernel
theorem dX12_done_100 : decode cX12_done 100 = .ok (.iload 4, 2) := by decide +kernel
theorem dX12_done_102 : decode cX12_done 102 = .ok (.iaload, 1) := by decide +kernel
theorem dX12_done_103 : decode cX12_done 103 = .ok (.ishl, 1) := by decide +kernel
theorem dX12_done_104 : decode cX12_done 104 = .ok (.goto 4, 3) := by decide +kernel
theorem dX12_done_107 : decode cX12_done 107 = .ok (.iconst 0, 1) := by decide +kernel
theorem dX12_done_108 : decode cX12_done 108 = .ok (.ior, 1) := by decide +kernel
theorem dX12_done_109 : decode cX12_done 109 = .ok (.istore_n 3, 1) := by decide +kernel
theorem dX12_done_110 : decode cX12_done 110 = .ok (.iinc 4 1, 3) := by decide +kernel
theorem dX12_done_113 : decode cX12_done 113 = .ok (.goto (-70), 3) := by decide +kernel
theorem dX12_done_116 : decode cX12_done 116 = .ok (.aload_n 0, 1) := by decide +kernel
theorem dX12_done_117 : decode cX12_done 117 = .ok (.getfield 34, 3) := by decide +kernel
theorem dX12_done_120 : decode cX12_done 120 = .ok (.iload_n 2, 1) := by decide +kernel
theorem dX12_done_121 : decode cX12_done 121 = .ok (.iaload, 1) := by decide +kernel
theorem dX12_done_122 : decode cX12_done 122 = .ok (.aload_n 0, 1) := by decide +kernel
theorem dX12_done_123 : decode cX12_done 123 = .ok (.getfield 7, 3) := by decide +kernel
theorem dX12_done_126 : decode cX12_done 126 = .ok (.iconst 1, 1) := by decide +kernel
theorem dX12_done_127 : decode cX12_done 127 = .ok (.iaload, 1) := by decide +kernel
theorem dX12_done_128 : decode cX12_done 128 = .ok (.if_icmp .ne 17, 3) := by decide +kernel
theorem dX12_done_131 : decode cX12_done 131 = .ok (.iload_n 3, 1) := by decide +kernel
theorem dX12_done_132 : decode cX12_done 132 = .ok (.iconst 1, 1) := by decide +kernel
theorem dX12_done_133 : decode cX12_done 133 = .ok (.aload_n 0, 1) := by decide +kernel
theorem dX12_done_134 : decode cX12_done 134 = .ok (.getfield 7, 3) := by decide +kernel
theorem dX12_done_137 : decode cX12_done 137 = .ok (.iconst 1, 1) := by decide +kernel
theorem dX12_done_138 : decode cX12_done 138 = .ok (.iaload, 1) := by decide +kernel
theorem dX12_done_139 : decode cX12_done 139 = .ok (.ishl, 1) := by decide +kernel
theorem dX12_done_140 : decode cX12_done 140 = .ok (.iconst 1, 1) := by decide +kernel
theorem dX12_done_141 : decode cX12_done 141 = .ok (.isub, 1) := by decide +kernel
theorem dX12_done_142 : decode cX12_done 142 = .ok (.if_icmp .eq 10, 3) := by decide +kernel
theorem dX12_done_145 : decode cX12_done 145 = .ok (.aload_n 0, 1) := by decide +kernel
theorem dX12_done_146 : decode cX12_done 146 = .ok (.ldc 202, 2) := by decide +kernel
theorem dX12_done_148 : decode cX12_done 148 = .ok (.invokevirtual 62, 3) := by decide +kernel
theorem dX12_done_151 : decode cX12_done 151 = .ok (.ireturn, 1) := by decide +kernel
theorem dX12_done_152 : decode cX12_done 152 = .ok (.aload_n 0, 1) := by decide +kernel
theorem dX12_done_153 : decode cX12_done 153 = .ok (.iload_n 1, 1) := by decide +kernel
theorem dX12_done_154 : decode cX12_done 154 = .ok (.invokevirtual 221, 3) := by decide +kernel
theorem dX12_done_157 : decode cX12_done 157 = .ok (.ireturn, 1) := by decide +kernel
theorem dX12_goesOn_0 : decode cX12_goesOn 0 = .ok (.aload_n 0, 1) := by decide +kernel
theorem dX12_goesOn_1 : decode cX12_goesOn 1 = .ok (.getfield 7, 3) := by decide +kernel
theorem dX12_goesOn_4 : decode cX12_goesOn 4 = .ok (.iconst 1, 1) := by decide +kernel
theorem dX12_goesOn_5 : decode cX12_goesOn 5 = .ok (.iaload, 1) := by decide +kernel
theorem dX12_goesOn_6 : decode cX12_goesOn 6 = .ok (.istore_n 1, 1) := by decide +kernel
theorem dX12_goesOn_7 : decode cX12_goesOn 7 = .ok (.iload_n 1, 1) := by decide +kernel
theorem dX12_goesOn_8 : decode cX12_goesOn 8 = .ok (.iconst 2, 1) := by decide +kernel
theorem dX12_goesOn_9 : decode cX12_goesOn 9 = .ok (.isub, 1) := by decide +kernel
theorem dX12_goesOn_10 : decode cX12_goesOn 10 = .ok (.istore_n 2, 1) := by decide +kernel
theorem dX12_goesOn_11 : decode cX12_goesOn 11 = .ok (.iload_n 2, 1) := by decide +kernel
theorem dX12_goesOn_12 : decode cX12_goesOn 12 = .ok (.ifCond .lt 26, 3) := by decide +kernel
theorem dX12_goesOn_15 : decode cX12_goesOn 15 = .ok (.aload_n 0, 1) := by decide +kernel
theorem dX12_goesOn_16 : decode cX12_goesOn 16 = .ok (.getfield 43, 3) := by decide +kernel
theorem dX12_goesOn_19 : decode cX12_goesOn 19 = .ok (.iload_n 2, 1) := by decide +kernel
theorem dX12_goesOn_20 : decode cX12_goesOn 20 = .ok (.iaload, 1) := by decide +kernel
theorem dX12_goesOn_21 : decode cX12_goesOn 21 = .ok (.aload_n 0, 1) := by decide +kernel
theorem dX12_goesOn_22 : decode cX12_goesOn 22 = .ok (.getfield 43, 3) := by decide +kernel
theorem dX12_goesOn_25 : decode cX12_goesOn 25 = .ok (.iload_n 2, 1) := by decide +kernel
theorem dX12_goesOn_26 : decode cX12_goesOn 26 = .ok (.iconst 1, 1) := by decide +kernel
theorem dX12_goesOn_27 : decode cX12_goesOn 27 = .ok (.iadd, 1) := by decide +kernel
theorem dX12_goesOn_28 : decode cX12_goesOn 28 = .ok (.iaload, 1) := by decide +kernel
theorem dX12_goesOn_29 : decode cX12_goesOn 29 = .ok (.if_icmp .le 9, 3) := by decide +kernel
theorem dX12_goesOn_32 : decode cX12_goesOn 32 = .ok (.iinc 2 (-1), 3) := by decide +kernel
theorem dX12_goesOn_35 : decode cX12_goesOn 35 = .ok (.goto (-24), 3) := by decide +kernel
theorem dX12_goesOn_38 : decode cX12_goesOn 38 = .ok (.iload_n 2, 1) := by decide +kernel
theorem dX12_goesOn_39 : decode cX12_goesOn 39 = .ok (.ifCond .ge 5, 3) := by decide +kernel
theorem dX12_goesOn_42 : decode cX12_goesOn 42 = .ok (.iconst 0, 1) := by decide +kernel
theorem dX12_goesOn_43 : decode cX12_goesOn 43 = .ok (.ireturn, 1) := by decide +kernel
theorem dX12_goesOn_44 : decode cX12_goesOn 44 = .ok (.iload_n 1, 1) := by decide +kernel
theorem dX12_goesOn_45 : decode cX12_goesOn 45 = .ok (.iconst 1, 1) := by decide +kernel
theorem dX12_goesOn_46 : decode cX12_goesOn 46 = .ok (.isub, 1) := by decide +kernel
theorem dX12_goesOn_47 : decode cX12_goesOn 47 = .ok (.istore_n 3, 1) := by decide +kernel
theorem dX12_goesOn_48 : decode cX12_goesOn 48 = .ok (.aload_n 0, 1) := by decide +kernel
theorem dX12_goesOn_49 : decode cX12_goesOn 49 = .ok (.getfield 43, 3) := by decide +kernel
theorem dX12_goesOn_52 : decode cX12_goesOn 52 = .ok (.iload_n 3, 1) := by decide +kernel
theorem dX12_goesOn_53 : decode cX12_goesOn 53 = .ok (.iaload, 1) := by decide +kernel
theorem dX12_goesOn_54 : decode cX12_goesOn 54 = .ok (.aload_n 0, 1) := by decide +kernel
theorem dX12_goesOn_55 : decode cX12_goesOn 55 = .ok (.getfield 43, 3) := by decide +kernel
theorem dX12_goesOn_58 : decode cX12_goesOn 58 = .ok (.iload_n 2, 1) := by decide +kernel
theorem dX12_goesOn_59 : decode cX12_goesOn 59 = .ok (.iaload, 1) := by decide +kernel
theorem dX12_goesOn_60 : decode cX12_goesOn 60 = .ok (.if_icmp .ge 9, 3) := by decide +kernel
theorem dX12_goesOn_63 : decode cX12_goesOn 63 = .ok (.iinc 3 (-1), 3) := by decide +kernel
theorem dX12_goesOn_66 : decode cX12_goesOn 66 = .ok (.goto (-18), 3) := by decide +kernel
theorem dX12_goesOn_69 : decode cX12_goesOn 69 = .ok (.aload_n 0, 1) := by decide +kernel
theorem dX12_goesOn_70 : decode cX12_goesOn 70 = .ok (.getfield 43, 3) := by decide +kernel
theorem dX12_goesOn_73 : decode cX12_goesOn 73 = .ok (.iload_n 2, 1) := by decide +kernel
theorem dX12_goesOn_74 : decode cX12_goesOn 74 = .ok (.iaload, 1) := by decide +kernel
theorem dX12_goesOn_75 : decode cX12_goesOn 75 = .ok (.istore 4, 2) := by decide +kernel
theorem dX12_goesOn_77 : decode cX12_goesOn 77 = .ok (.aload_n 0, 1) := by decide +kernel
theorem dX12_goesOn_78 : decode cX12_goesOn 78 = .ok (.getfield 43, 3) := by decide +kernel
theorem dX12_goesOn_81 : decode cX12_goesOn 81 = .ok (.iload_n 2, 1) := by decide +kernel
theorem dX12_goesOn_82 : decode cX12_goesOn 82 = .ok (.aload_n 0, 1) := by decide +kernel
theorem dX12_goesOn_83 : decode cX12_goesOn 83 = .ok (.getfield 43, 3) := by decide +kernel
theorem dX12_goesOn_86 : decode cX12_goesOn 86 = .ok (.iload_n 3, 1) := by decide +kernel
theorem dX12_goesOn_87 : decode cX12_goesOn 87 = .ok (.iaload, 1) := by decide +kernel
theorem dX12_goesOn_88 : decode cX12_goesOn 88 = .ok (.iastore, 1) := by decide +kernel
theorem dX12_goesOn_89 : decode cX12_goesOn 89 = .ok (.aload_n 0, 1) := by decide +kernel
theorem dX12_goesOn_90 : decode cX12_goesOn 90 = .ok (.getfield 43, 3) := by decide +kernel
theorem dX12_goesOn_93 : decode cX12_goesOn 93 = .ok (.iload_n 3, 1) := by decide +kernel
theorem dX12_goesOn_94 : decode cX12_goesOn 94 = .ok (.iload 4, 2) := by decide +kernel
theorem dX12_goesOn_96 : decode cX12_goesOn 96 = .ok (.iastore, 1) := by decide +kernel
theorem dX12_goesOn_97 : decode cX12_goesOn 97 = .ok (.iload_n 2, 1) := by decide +kernel
theorem dX12_goesOn_98 : decode cX12_goesOn 98 = .ok (.iconst 1, 1) := by decide +kernel
theorem dX12_goesOn_99 : decode cX12_goesOn 99 = .ok (.iadd, 1) := by decide +kernel
theorem dX12_goesOn_100 : decode cX12_goesOn 100 = .ok (.istore 5, 2) := by decide +kernel
theorem dX12_goesOn_102 : decode cX12_goesOn 102 = .ok (.iload_n 1, 1) := by decide +kernel
theorem dX12_goesOn_103 : decode cX12_goesOn 103 = .ok (.iconst 1, 1) := by decide +kernel
theorem dX12_goesOn_104 : decode cX12_goesOn 104 = .ok (.isub, 1) := by decide +kernel
theorem dX12_goesOn_105 : decode cX12_goesOn 105 = .ok (.istore 6, 2) := by decide +kernel
theorem dX12_goesOn_107 : decode cX12_goesOn 107 = .ok (.iload 5, 2) := by decide +kernel
theorem dX12_goesOn_109 : decode cX12_goesOn 109 = .ok (.iload 6, 2) := by decide +kernel
theorem dX12_goesOn_111 : decode cX12_goesOn 111 = .ok (.if_icmp .ge 44, 3) := by decide +kernel
theorem dX12_goesOn_114 : decode cX12_goesOn 114 = .ok (.aload_n 0, 1) := by decide +kernel
theorem dX12_goesOn_115 : decode cX12_goesOn 115 = .ok (.getfield 43, 3) := by decide +kernel
theorem dX12_goesOn_118 : decode cX12_goesOn 118 = .ok (.iload 5, 2) := by decide +kernel
theorem dX12_goesOn_120 : decode cX12_goesOn 120 = .ok (.iaload, 1) := by decide +kernel
theorem dX12_goesOn_121 : decode cX12_goesOn 121 = .ok (.istore 4, 2) := by decide +kernel
theorem dX12_goesOn_123 : decode cX12_goesOn 123 = .ok (.aload_n 0, 1) := by decide +kernel
theorem dX12_goesOn_124 : decode cX12_goesOn 124 = .ok (.getfield 43, 3) := by decide +kernel
theorem dX12_goesOn_127 : decode cX12_goesOn 127 = .ok (.iload 5, 2) := by decide +kernel
theorem dX12_goesOn_129 : decode cX12_goesOn 129 = .ok (.aload_n 0, 1) := by decide +kernel
theorem dX12_goesOn_130 : decode cX12_goesOn 130 = .ok (.getfield 43, 3) := by decide +kernel
theorem dX12_goesOn_133 : decode cX12_goesOn 133 = .ok (.iload 6, 2) := by decide +kernel
theorem dX12_goesOn_135 : decode cX12_goesOn 135 = .ok (.iaload, 1) := by decide +kernel
theorem dX12_goesOn_136 : decode cX12_goesOn 136 = .ok (.iastore, 1) := by decide +kernel
theorem dX12_goesOn_137 : decode cX12_goesOn 137 = .ok (.aload_n 0, 1) := by decide +kernel
theorem dX12_goesOn_138 : decode cX12_goesOn 138 = .ok (.getfield 43, 3) := by decide +kernel
theorem dX12_goesOn_141 : decode cX12_goesOn 141 = .ok (.iload 6, 2) := by decide +kernel
theorem dX12_goesOn_143 : decode cX12_goesOn 143 = .ok (.iload 4, 2) := by decide +kernel
theorem dX12_goesOn_145 : decode cX12_goesOn 145 = .ok (.iastore, 1) := by decide +kernel
theorem dX12_goesOn_146 : decode cX12_goesOn 146 = .ok (.iinc 5 1, 3) := by decide +kernel
theorem dX12_goesOn_149 : decode cX12_goesOn 149 = .ok (.iinc 6 (-1), 3) := by decide +kernel
theorem dX12_goesOn_152 : decode cX12_goesOn 152 = .ok (.goto (-45), 3) := by decide +kernel
theorem dX12_goesOn_155 : decode cX12_goesOn 155 = .ok (.iconst 1, 1) := by decide +kernel
theorem dX12_goesOn_156 : decode cX12_goesOn 156 = .ok (.ireturn, 1) := by decide +kernel
theorem dX12_leastSeen_0 : decode cX12_leastSeen 0 = .ok (.iconst 0, 1) := by decide +kernel
theorem dX12_leastSeen_1 : decode cX12_leastSeen 1 = .ok (.istore_n 2, 1) := by decide +kernel
theorem dX12_leastSeen_2 : decode cX12_leastSeen 2 = .ok (.iload_n 2, 1) := by decide +kernel
theorem dX12_leastSeen_3 : decode cX12_leastSeen 3 = .ok (.aload_n 0, 1) := by decide +kernel
theorem dX12_leastSeen_4 : decode cX12_leastSeen 4 = .ok (.getfield 7, 3) := by decide +kernel
theorem dX12_leastSeen_7 : decode cX12_leastSeen 7 = .ok (.iconst 1, 1) := by decide +kernel
theorem dX12_leastSeen_8 : decode cX12_leastSeen 8 = .ok (.iaload, 1) := by decide +kernel
theorem dX12_leastSeen_9 : decode cX12_leastSeen 9 = .ok (.if_icmp .ge 16, 3) := by decide +kernel
theorem dX12_leastSeen_12 : decode cX12_leastSeen 12 = .ok (.aload_n 0, 1) := by decide +kernel
theorem dX12_leastSeen_13 : decode cX12_leastSeen 13 = .ok (.getfield 43, 3) := by decide +kernel
theorem dX12_leastSeen_16 : decode cX12_leastSeen 16 = .ok (.iload_n 2, 1) := by decide +kernel
theorem dX12_leastSeen_17 : decode cX12_leastSeen 17 = .ok (.iload_n 2, 1) := by decide +kernel
theorem dX12_leastSeen_18 : decode cX12_leastSeen 18 = .ok (.iastore, 1) := by decide +kernel
theorem dX12_leastSeen_19 : decode cX12_leastSeen 19 = .ok (.iinc 2 1, 3) := by decide +kernel
theorem dX12_leastSeen_22 : decode cX12_leastSeen 22 = .ok (.goto (-20), 3) := by decide +kernel
theorem dX12_leastSeen_25 : decode cX12_leastSeen 25 = .ok (.iconst (-1), 1) := by decide +kernel
theorem dX12_leastSeen_26 : decode cX12_leastSeen 26 = .ok (.istore_n 2, 1) := by decide +kernel
theorem dX12_leastSeen_27 : decode cX12_leastSeen 27 = .ok (.iconst 1, 1) := by decide +kernel
theorem dX12_leastSeen_28 : decode cX12_leastSeen 28 = .ok (.istore_n 3, 1) := by decide +kernel
theorem dX12_leastSeen_29 : decode cX12_leastSeen 29 = .ok (.aload_n 0, 1) := by decide +kernel
theorem dX12_leastSeen_30 : decode cX12_leastSeen 30 = .ok (.invokevirtual 224, 3) := by decide +kernel
theorem dX12_leastSeen_33 : decode cX12_leastSeen 33 = .ok (.iload_n 3, 1) := by decide +kernel
theorem dX12_leastSeen_34 : decode cX12_leastSeen 34 = .ok (.ifCond .eq 77, 3) := by decide +kernel
theorem dX12_leastSeen_37 : decode cX12_leastSeen 37 = .ok (.aload_n 0, 1) := by decide +kernel
theorem dX12_leastSeen_38 : decode cX12_leastSeen 38 = .ok (.iload_n 1, 1) := by decide +kernel
theorem dX12_leastSeen_39 : decode cX12_leastSeen 39 = .ok (.invokevirtual 221, 3) := by decide +kernel
theorem dX12_leastSeen_42 : decode cX12_leastSeen 42 = .ok (.istore 4, 2) := by decide +kernel
theorem dX12_leastSeen_44 : decode cX12_leastSeen 44 = .ok (.iload_n 2, 1) := by decide +kernel
theorem dX12_leastSeen_45 : decode cX12_leastSeen 45 = .ok (.ifCond .lt 9, 3) := by decide +kernel
theorem dX12_leastSeen_48 : decode cX12_leastSeen 48 = .ok (.iload 4, 2) := by decide +kernel
theorem dX12_leastSeen_50 : decode cX12_leastSeen 50 = .ok (.iload_n 2, 1) := by decide +kernel
theorem dX12_leastSeen_51 : decode cX12_leastSeen 51 = .ok (.if_icmp .ge 40, 3) := by decide +kernel
theorem dX12_leastSeen_54 : decode cX12_leastSeen 54 = .ok (.iload 4, 2) := by decide +kernel
theorem dX12_leastSeen_56 : decode cX12_leastSeen 56 = .ok (.istore_n 2, 1) := by decide +kernel
theorem dX12_leastSeen_57 : decode cX12_leastSeen 57 = .ok (.iconst 0, 1) := by decide +kernel
theorem dX12_leastSeen_58 : decode cX12_leastSeen 58 = .ok (.istore 5, 2) := by decide +kernel
theorem dX12_leastSeen_60 : decode cX12_leastSeen 60 = .ok (.iload 5, 2) := by decide +kernel
theorem dX12_leastSeen_62 : decode cX12_leastSeen 62 = .ok (.aload_n 0, 1) := by decide +kernel
theorem dX12_leastSeen_63 : decode cX12_leastSeen 63 = .ok (.getfield 7, 3) := by decide +kernel
theorem dX12_leastSeen_66 : decode cX12_leastSeen 66 = .ok (.iconst 1, 1) := by decide +kernel
theorem dX12_leastSeen_67 : decode cX12_leastSeen 67 = .ok (.iaload, 1) := by decide +kernel
theorem dX12_leastSeen_68 : decode cX12_leastSeen 68 = .ok (.if_icmp .ge 23, 3) := by decide +kernel
theorem dX12_leastSeen_71 : decode cX12_leastSeen 71 = .ok (.aload_n 0, 1) := by decide +kernel
theorem dX12_leastSeen_72 : decode cX12_leastSeen 72 = .ok (.getfield 46, 3) := by decide +kernel
theorem dX12_leastSeen_75 : decode cX12_leastSeen 75 = .ok (.iload 5, 2) := by decide +kernel
theorem dX12_leastSeen_77 : decode cX12_leastSeen 77 = .ok (.aload_n 0, 1) := by decide +kernel
theorem dX12_leastSeen_78 : decode cX12_leastSeen 78 = .ok (.getfield 43, 3) := by decide +kernel
theorem dX12_leastSeen_81 : decode cX12_leastSeen 81 = .ok (.iload 5, 2) := by decide +kernel
theorem dX12_leastSeen_83 : decode cX12_leastSeen 83 = .ok (.iaload, 1) := by decide +kernel
theorem dX12_leastSeen_84 : decode cX12_leastSeen 84 = .ok (.iastore, 1) := by decide +kernel
theorem dX12_leastSeen_85 : decode cX12_leastSeen 85 = .ok (.iinc 5 1, 3) := by decide +kernel
theorem dX12_leastSeen_88 : decode cX12_leastSeen 88 = .ok (.goto (-28), 3) := by decide +kernel
theorem dX12_leastSeen_91 : decode cX12_leastSeen 91 = .ok (.iload_n 2, 1) := by decide +kernel
theorem dX12_leastSeen_92 : decode cX12_leastSeen 92 = .ok (.ifCond .le 14, 3) := by decide +kernel
theorem dX12_leastSeen_95 : decode cX12_leastSeen 95 = .ok (.aload_n 0, 1) := by decide +kernel
theorem dX12_leastSeen_96 : decode cX12_leastSeen 96 = .ok (.invokevirtual 227, 3) := by decide +kernel
theorem dX12_leastSeen_99 : decode cX12_leastSeen 99 = .ok (.ifCond .eq 7, 3) := by decide +kernel
theorem dX12_leastSeen_102 : decode cX12_leastSeen 102 = .ok (.iconst 1, 1) := by decide +kernel
theorem dX12_leastSeen_103 : decode cX12_leastSeen 103 = .ok (.goto 4, 3) := by decide +kernel
theorem dX12_leastSeen_106 : decode cX12_leastSeen 106 = .ok (.iconst 0, 1) := by decide +kernel
theorem dX12_leastSeen_107 : decode cX12_leastSeen 107 = .ok (.istore_n 3, 1) := by decide +kernel
theorem dX12_leastSeen_108 : decode cX12_leastSeen 108 = .ok (.goto (-75), 3) := by decide +kernel
theorem dX12_leastSeen_111 : decode cX12_leastSeen 111 = .ok (.aload_n 0, 1) := by decide +kernel
theorem dX12_leastSeen_112 : decode cX12_leastSeen 112 = .ok (.iconst 0, 1) := by decide +kernel
theorem dX12_leastSeen_113 : decode cX12_leastSeen 113 = .ok (.putfield 70, 3) := by decide +kernel
theorem dX12_leastSeen_116 : decode cX12_leastSeen 116 = .ok (.iload_n 2, 1) := by decide +kernel
theorem dX12_leastSeen_117 : decode cX12_leastSeen 117 = .ok (.ireturn, 1) := by decide +kernel
theorem dX12_order_0 : decode cX12_order 0 = .ok (.aload_n 0, 1) := by decide +kernel
theorem dX12_order_1 : decode cX12_order 1 = .ok (.iload_n 1, 1) := by decide +kernel
theorem dX12_order_2 : decode cX12_order 2 = .ok (.invokevirtual 98, 3) := by decide +kernel
theorem dX12_order_5 : decode cX12_order 5 = .ok (.ifCond .eq 19, 3) := by decide +kernel
theorem dX12_order_8 : decode cX12_order 8 = .ok (.iload_n 2, 1) := by decide +kernel
theorem dX12_order_9 : decode cX12_order 9 = .ok (.iconst (-1), 1) := by decide +kernel
theorem dX12_order_10 : decode cX12_order 10 = .ok (.aload_n 0, 1) := by decide +kernel
theorem dX12_order_11 : decode cX12_order 11 = .ok (.getfield 7, 3) := by decide +kernel
theorem dX12_order_14 : decode cX12_order 14 = .ok (.iconst 1, 1) := by decide +kernel
theorem dX12_order_15 : decode cX12_order 15 = .ok (.iaload, 1) := by decide +kernel
theorem dX12_order_16 : decode cX12_order 16 = .ok (.iconst 1, 1) := by decide +kernel
theorem dX12_order_17 : decode cX12_order 17 = .ok (.isub, 1) := by decide +kernel
theorem dX12_order_18 : decode cX12_order 18 = .ok (.invokestatic 57, 3) := by decide +kernel
theorem dX12_order_21 : decode cX12_order 21 = .ok (.ifCond .ne 10, 3) := by decide +kernel
theorem dX12_order_24 : decode cX12_order 24 = .ok (.aload_n 0, 1) := by decide +kernel
theorem dX12_order_25 : decode cX12_order 25 = .ok (.ldc 61, 2) := by decide +kernel
theorem dX12_order_27 : decode cX12_order 27 = .ok (.invokevirtual 62, 3) := by decide +kernel
theorem dX12_order_30 : decode cX12_order 30 = .ok (.ireturn, 1) := by decide +kernel
theorem dX12_order_31 : decode cX12_order 31 = .ok (.aload_n 0, 1) := by decide +kernel
theorem dX12_order_32 : decode cX12_order 32 = .ok (.iload_n 1, 1) := by decide +kernel
theorem dX12_order_33 : decode cX12_order 33 = .ok (.invokevirtual 231, 3) := by decide +kernel
theorem dX12_order_36 : decode cX12_order 36 = .ok (.istore_n 3, 1) := by decide +kernel
theorem dX12_order_37 : decode cX12_order 37 = .ok (.iload_n 2, 1) := by decide +kernel
theorem dX12_order_38 : decode cX12_order 38 = .ok (.ifCond .ge 7, 3) := by decide +kernel
theorem dX12_order_41 : decode cX12_order 41 = .ok (.iload_n 3, 1) := by decide +kernel
theorem dX12_order_42 : decode cX12_order 42 = .ok (.goto 9, 3) := by decide +kernel
theorem dX12_order_45 : decode cX12_order 45 = .ok (.aload_n 0, 1) := by decide +kernel
theorem dX12_order_46 : decode cX12_order 46 = .ok (.getfield 46, 3) := by decide +kernel
theorem dX12_order_49 : decode cX12_order 49 = .ok (.iload_n 2, 1) := by decide +kernel
theorem dX12_order_50 : decode cX12_order 50 = .ok (.iaload, 1) := by decide +kernel
theorem dX12_order_51 : decode cX12_order 51 = .ok (.ireturn, 1) := by decide +kernel
theorem dX12_clean_0 : decode cX12_clean 0 = .ok (.aload_n 0, 1) := by decide +kernel
theorem dX12_clean_1 : decode cX12_clean 1 = .ok (.iload_n 1, 1) := by decide +kernel
theorem dX12_clean_2 : decode cX12_clean 2 = .ok (.invokevirtual 98, 3) := by decide +kernel
theorem dX12_clean_5 : decode cX12_clean 5 = .ok (.ifCond .eq 12, 3) := by decide +kernel
theorem dX12_clean_8 : decode cX12_clean 8 = .ok (.iload_n 2, 1) := by decide +kernel
theorem dX12_clean_9 : decode cX12_clean 9 = .ok (.iconst 0, 1) := by decide +kernel
theorem dX12_clean_10 : decode cX12_clean 10 = .ok (.iconst 1, 1) := by decide +kernel
theorem dX12_clean_11 : decode cX12_clean 11 = .ok (.invokestatic 57, 3) := by decide +kernel
theorem dX12_clean_14 : decode cX12_clean 14 = .ok (.ifCond .ne 10, 3) := by decide +kernel
theorem dX12_clean_17 : decode cX12_clean 17 = .ok (.aload_n 0, 1) := by decide +kernel
theorem dX12_clean_18 : decode cX12_clean 18 = .ok (.ldc 61, 2) := by decide +kernel
theorem dX12_clean_20 : decode cX12_clean 20 = .ok (.invokevirtual 62, 3) := by decide +kernel
theorem dX12_clean_23 : decode cX12_clean 23 = .ok (.ireturn, 1) := by decide +kernel
theorem dX12_clean_24 : decode cX12_clean 24 = .ok (.aload_n 0, 1) := by decide +kernel
theorem dX12_clean_25 : decode cX12_clean 25 = .ok (.getfield 7, 3) := by decide +kernel
theorem dX12_clean_28 : decode cX12_clean 28 = .ok (.iconst 3, 1) := by decide +kernel
theorem dX12_clean_29 : decode cX12_clean 29 = .ok (.iaload, 1) := by decide +kernel
theorem dX12_clean_30 : decode cX12_clean 30 = .ok (.istore_n 3, 1) := by decide +kernel
theorem dX12_clean_31 : decode cX12_clean 31 = .ok (.iconst (-1), 1) := by decide +kernel
theorem dX12_clean_32 : decode cX12_clean 32 = .ok (.istore 4, 2) := by decide +kernel
theorem dX12_clean_34 : decode cX12_clean 34 = .ok (.iconst (-1), 1) := by decide +kernel
theorem dX12_clean_35 : decode cX12_clean 35 = .ok (.istore 5, 2) := by decide +kernel
theorem dX12_clean_37 : decode cX12_clean 37 = .ok (.iconst 0, 1) := by decide +kernel
theorem dX12_clean_38 : decode cX12_clean 38 = .ok (.istore 6, 2) := by decide +kernel
theorem dX12_clean_40 : decode cX12_clean 40 = .ok (.iload 6, 2) := by decide +kernel
theorem dX12_clean_42 : decode cX12_clean 42 = .ok (.bipush 9, 2) := by decide +kernel
theorem dX12_clean_44 : decode cX12_clean 44 = .ok (.if_icmp .gt 43, 3) := by decide +kernel
theorem dX12_clean_47 : decode cX12_clean 47 = .ok (.aload_n 0, 1) := by decide +kernel
theorem dX12_clean_48 : decode cX12_clean 48 = .ok (.getfield 7, 3) := by decide +kernel
theorem dX12_clean_51 : decode cX12_clean 51 = .ok (.iconst 3, 1) := by decide +kernel
theorem dX12_clean_52 : decode cX12_clean 52 = .ok (.iload 6, 2) := by decide +kernel
theorem dX12_clean_54 : decode cX12_clean 54 = .ok (.iastore, 1) := by decide +kernel
theorem dX12_clean_55 : decode cX12_clean 55 = .ok (.aload_n 0, 1) := by decide +kernel
theorem dX12_clean_56 : decode cX12_clean 56 = .ok (.iload_n 1, 1) := by decide +kernel
theorem dX12_clean_57 : decode cX12_clean 57 = .ok (.invokevirtual 231, 3) := by decide +kernel
theorem dX12_clean_60 : decode cX12_clean 60 = .ok (.ifCond .ne 21, 3) := by decide +kernel
theorem dX12_clean_63 : decode cX12_clean 63 = .ok (.iload 4, 2) := by decide +kernel
theorem dX12_clean_65 : decode cX12_clean 65 = .ok (.ifCond .ge 8, 3) := by decide +kernel
theorem dX12_clean_68 : decode cX12_clean 68 = .ok (.iload 6, 2) := by decide +kernel
theorem dX12_clean_70 : decode cX12_clean 70 = .ok (.goto 5, 3) := by decide +kernel
theorem dX12_clean_73 : decode cX12_clean 73 = .ok (.iload 4, 2) := by decide +kernel
theorem dX12_clean_75 : decode cX12_clean 75 = .ok (.istore 4, 2) := by decide +kernel
theorem dX12_clean_77 : decode cX12_clean 77 = .ok (.iload 6, 2) := by decide +kernel
theorem dX12_clean_79 : decode cX12_clean 79 = .ok (.istore 5, 2) := by decide +kernel
theorem dX12_clean_81 : decode cX12_clean 81 = .ok (.iinc 6 1, 3) := by decide +kernel
theorem dX12_clean_84 : decode cX12_clean 84 = .ok (.goto (-44), 3) := by decide +kernel
theorem dX12_clean_87 : decode cX12_clean 87 = .ok (.aload_n 0, 1) := by decide +kernel
theorem dX12_clean_88 : decode cX12_clean 88 = .ok (.getfield 7, 3) := by decide +kernel
theorem dX12_clean_91 : decode cX12_clean 91 = .ok (.iconst 3, 1) := by decide +kernel
theorem dX12_clean_92 : decode cX12_clean 92 = .ok (.iload_n 3, 1) := by decide +kernel
theorem dX12_clean_93 : decode cX12_clean 93 = .ok (.iastore, 1) := by decide +kernel
theorem dX12_clean_94 : decode cX12_clean 94 = .ok (.iload 4, 2) := by decide +kernel
theorem dX12_clean_96 : decode cX12_clean 96 = .ok (.ifCond .ge 10, 3) := by decide +kernel
theorem dX12_clean_99 : decode cX12_clean 99 = .ok (.aload_n 0, 1) := by decide +kernel
theorem dX12_clean_100 : decode cX12_clean 100 = .ok (.ldc 220, 2) := by decide +kernel
theorem dX12_clean_102 : decode cX12_clean 102 = .ok (.invokevirtual 62, 3) := by decide +kernel
theorem dX12_clean_105 : decode cX12_clean 105 = .ok (.ireturn, 1) := by decide +kernel
theorem dX12_clean_106 : decode cX12_clean 106 = .ok (.iload_n 2, 1) := by decide +kernel
theorem dX12_clean_107 : decode cX12_clean 107 = .ok (.ifCond .ne 8, 3) := by decide +kernel
theorem dX12_clean_110 : decode cX12_clean 110 = .ok (.iload 4, 2) := by decide +kernel
theorem dX12_clean_112 : decode cX12_clean 112 = .ok (.goto 5, 3) := by decide +kernel
theorem dX12_clean_115 : decode cX12_clean 115 = .ok (.iload 5, 2) := by decide +kernel
theorem dX12_clean_117 : decode cX12_clean 117 = .ok (.ireturn, 1) := by decide +kernel
theorem dX12_seenAway_0 : decode cX12_seenAway 0 = .ok (.aload_n 0, 1) := by decide +kernel
theorem dX12_seenAway_1 : decode cX12_seenAway 1 = .ok (.aload_n 0, 1) := by decide +kernel
theorem dX12_seenAway_2 : decode cX12_seenAway 2 = .ok (.getfield 7, 3) := by decide +kernel
theorem dX12_seenAway_5 : decode cX12_seenAway 5 = .ok (.aload_n 0, 1) := by decide +kernel
theorem dX12_seenAway_6 : decode cX12_seenAway 6 = .ok (.getfield 16, 3) := by decide +kernel
theorem dX12_seenAway_9 : decode cX12_seenAway 9 = .ok (.invokevirtual 188, 3) := by decide +kernel
theorem dX12_seenAway_12 : decode cX12_seenAway 12 = .ok (.iconst 0, 1) := by decide +kernel
theorem dX12_seenAway_13 : decode cX12_seenAway 13 = .ok (.istore 4, 2) := by decide +kernel
theorem dX12_seenAway_15 : decode cX12_seenAway 15 = .ok (.iload 4, 2) := by decide +kernel
theorem dX12_seenAway_17 : decode cX12_seenAway 17 = .ok (.aload_n 0, 1) := by decide +kernel
theorem dX12_seenAway_18 : decode cX12_seenAway 18 = .ok (.getfield 7, 3) := by decide +kernel
theorem dX12_seenAway_21 : decode cX12_seenAway 21 = .ok (.iconst 1, 1) := by decide +kernel
theorem dX12_seenAway_22 : decode cX12_seenAway 22 = .ok (.iaload, 1) := by decide +kernel
theorem dX12_seenAway_23 : decode cX12_seenAway 23 = .ok (.if_icmp .ge 34, 3) := by decide +kernel
theorem dX12_seenAway_26 : decode cX12_seenAway 26 = .ok (.aload_n 0, 1) := by decide +kernel
theorem dX12_seenAway_27 : decode cX12_seenAway 27 = .ok (.getfield 7, 3) := by decide +kernel
theorem dX12_seenAway_30 : decode cX12_seenAway 30 = .ok (.iconst 2, 1) := by decide +kernel
theorem dX12_seenAway_31 : decode cX12_seenAway 31 = .ok (.dup2, 1) := by decide +kernel
theorem dX12_seenAway_32 : decode cX12_seenAway 32 = .ok (.iaload, 1) := by decide +kernel
theorem dX12_seenAway_33 : decode cX12_seenAway 33 = .ok (.iload_n 2, 1) := by decide +kernel
theorem dX12_seenAway_34 : decode cX12_seenAway 34 = .ok (.iload 4, 2) := by decide +kernel
theorem dX12_seenAway_36 : decode cX12_seenAway 36 = .ok (.ishr, 1) := by decide +kernel
theorem dX12_seenAway_37 : decode cX12_seenAway 37 = .ok (.iconst 1, 1) := by decide +kernel
theorem dX12_seenAway_38 : decode cX12_seenAway 38 = .ok (.iand, 1) := by decide +kernel
theorem dX12_seenAway_39 : decode cX12_seenAway 39 = .ok (.iload_n 3, 1) := by decide +kernel
theorem dX12_seenAway_40 : decode cX12_seenAway 40 = .ok (.imul, 1) := by decide +kernel
theorem dX12_seenAway_41 : decode cX12_seenAway 41 = .ok (.iadd, 1) := by decide +kernel
theorem dX12_seenAway_42 : decode cX12_seenAway 42 = .ok (.iastore, 1) := by decide +kernel
theorem dX12_seenAway_43 : decode cX12_seenAway 43 = .ok (.aload_n 0, 1) := by decide +kernel
theorem dX12_seenAway_44 : decode cX12_seenAway 44 = .ok (.iload_n 1, 1) := by decide +kernel
theorem dX12_seenAway_45 : decode cX12_seenAway 45 = .ok (.iload 4, 2) := by decide +kernel
theorem dX12_seenAway_47 : decode cX12_seenAway 47 = .ok (.iconst 0, 1) := by decide +kernel
theorem dX12_seenAway_48 : decode cX12_seenAway 48 = .ok (.invokevirtual 203, 3) := by decide +kernel
theorem dX12_seenAway_51 : decode cX12_seenAway 51 = .ok (.iinc 4 1, 3) := by decide +kernel
theorem dX12_seenAway_54 : decode cX12_seenAway 54 = .ok (.goto (-39), 3) := by decide +kernel
theorem dX12_seenAway_57 : decode cX12_seenAway 57 = .ok (.aload_n 0, 1) := by decide +kernel
theorem dX12_seenAway_58 : decode cX12_seenAway 58 = .ok (.invokevirtual 211, 3) := by decide +kernel
theorem dX12_seenAway_61 : decode cX12_seenAway 61 = .ok (.istore 4, 2) := by decide +kernel
theorem dX12_seenAway_63 : decode cX12_seenAway 63 = .ok (.aload_n 0, 1) := by decide +kernel
theorem dX12_seenAway_64 : decode cX12_seenAway 64 = .ok (.aload_n 0, 1) := by decide +kernel
theorem dX12_seenAway_65 : decode cX12_seenAway 65 = .ok (.getfield 16, 3) := by decide +kernel
theorem dX12_seenAway_68 : decode cX12_seenAway 68 = .ok (.aload_n 0, 1) := by decide +kernel
theorem dX12_seenAway_69 : decode cX12_seenAway 69 = .ok (.getfield 7, 3) := by decide +kernel
theorem dX12_seenAway_72 : decode cX12_seenAway 72 = .ok (.invokevirtual 188, 3) := by decide +kernel
theorem dX12_seenAway_75 : decode cX12_seenAway 75 = .ok (.iload 4, 2) := by decide +kernel
theorem dX12_seenAway_77 : decode cX12_seenAway 77 = .ok (.ireturn, 1) := by decide +kernel
theorem dX12_isLater_0 : decode cX12_isLater 0 = .ok (.iload_n 1, 1) := by decide +kernel
theorem dX12_isLater_1 : decode cX12_isLater 1 = .ok (.iconst 1, 1) := by decide +kernel
theorem dX12_isLater_2 : decode cX12_isLater 2 = .ok (.aload_n 0, 1) := by decide +kernel
theorem dX12_isLater_3 : decode cX12_isLater 3 = .ok (.getfield 7, 3) := by decide +kernel
theorem dX12_isLater_6 : decode cX12_isLater 6 = .ok (.iconst 1, 1) := by decide +kernel
theorem dX12_isLater_7 : decode cX12_isLater 7 = .ok (.iaload, 1) := by decide +kernel
theorem dX12_isLater_8 : decode cX12_isLater 8 = .ok (.iconst 1, 1) := by decide +kernel
theorem dX12_isLater_9 : decode cX12_isLater 9 = .ok (.isub, 1) := by decide +kernel
theorem dX12_isLater_10 : decode cX12_isLater 10 = .ok (.invokestatic 57, 3) := by decide +kernel
theorem dX12_isLater_13 : decode cX12_isLater 13 = .ok (.ireturn, 1) := by decide +kernel
theorem dX12_called_0 : decode cX12_called 0 = .ok (.aload_n 0, 1) := by decide +kernel
theorem dX12_called_1 : decode cX12_called 1 = .ok (.iload_n 1, 1) := by decide +kernel
theorem dX12_called_2 : decode cX12_called 2 = .ok (.invokevirtual 98, 3) := by decide +kernel
theorem dX12_called_5 : decode cX12_called 5 = .ok (.ifCond .eq 34, 3) := by decide +kernel
theorem dX12_called_8 : decode cX12_called 8 = .ok (.aload_n 0, 1) := by decide +kernel
theorem dX12_called_9 : decode cX12_called 9 = .ok (.iload_n 2, 1) := by decide +kernel
theorem dX12_called_10 : decode cX12_called 10 = .ok (.invokevirtual 234, 3) := by decide +kernel
theorem dX12_called_13 : decode cX12_called 13 = .ok (.ifCond .eq 26, 3) := by decide +kernel
theorem dX12_called_16 : decode cX12_called 16 = .ok (.iload_n 3, 1) := by decide +kernel
theorem dX12_called_17 : decode cX12_called 17 = .ok (.iconst 0, 1) := by decide +kernel
theorem dX12_called_18 : decode cX12_called 18 = .ok (.sipush 500, 3) := by decide +kernel
theorem dX12_called_21 : decode cX12_called 21 = .ok (.invokestatic 57, 3) := by decide +kernel
theorem dX12_called_24 : decode cX12_called 24 = .ok (.ifCond .eq 15, 3) := by decide +kernel
theorem dX12_called_27 : decode cX12_called 27 = .ok (.aload_n 0, 1) := by decide +kernel
theorem dX12_called_28 : decode cX12_called 28 = .ok (.iload_n 1, 1) := by decide +kernel
theorem dX12_called_29 : decode cX12_called 29 = .ok (.iconst 1, 1) := by decide +kernel
theorem dX12_called_30 : decode cX12_called 30 = .ok (.iload_n 2, 1) := by decide +kernel
theorem dX12_called_31 : decode cX12_called 31 = .ok (.ishl, 1) := by decide +kernel
theorem dX12_called_32 : decode cX12_called 32 = .ok (.iload_n 3, 1) := by decide +kernel
theorem dX12_called_33 : decode cX12_called 33 = .ok (.invokevirtual 237, 3) := by decide +kernel
theorem dX12_called_36 : decode cX12_called 36 = .ok (.goto 9, 3) := by decide +kernel
theorem dX12_called_39 : decode cX12_called 39 = .ok (.aload_n 0, 1) := by decide +kernel
theorem dX12_called_40 : decode cX12_called 40 = .ok (.ldc 61, 2) := by decide +kernel
theorem dX12_called_42 : decode cX12_called 42 = .ok (.invokevirtual 62, 3) := by decide +kernel
theorem dX12_called_45 : decode cX12_called 45 = .ok (.ireturn, 1) := by decide +kernel
theorem dX12_worst_0 : decode cX12_worst 0 = .ok (.aload_n 0, 1) := by decide +kernel
theorem dX12_worst_1 : decode cX12_worst 1 = .ok (.iload_n 1, 1) := by decide +kernel
theorem dX12_worst_2 : decode cX12_worst 2 = .ok (.invokevirtual 98, 3) := by decide +kernel
theorem dX12_worst_5 : decode cX12_worst 5 = .ok (.ifCond .eq 23, 3) := by decide +kernel
theorem dX12_worst_8 : decode cX12_worst 8 = .ok (.iload_n 2, 1) := by decide +kernel
theorem dX12_worst_9 : decode cX12_worst 9 = .ok (.iconst 0, 1) := by decide +kernel
theorem dX12_worst_10 : decode cX12_worst 10 = .ok (.sipush 500, 3) := by decide +kernel
theorem dX12_worst_13 : decode cX12_worst 13 = .ok (.invokestatic 57, 3) := by decide +kernel
theorem dX12_worst_16 : decode cX12_worst 16 = .ok (.ifCond .eq 12, 3) := by decide +kernel
theorem dX12_worst_19 : decode cX12_worst 19 = .ok (.iload_n 3, 1) := by decide +kernel
theorem dX12_worst_20 : decode cX12_worst 20 = .ok (.iconst 0, 1) := by decide +kernel
theorem dX12_worst_21 : decode cX12_worst 21 = .ok (.iconst 1, 1) := by decide +kernel
theorem dX12_worst_22 : decode cX12_worst 22 = .ok (.invokestatic 57, 3) := by decide +kernel
theorem dX12_worst_25 : decode cX12_worst 25 = .ok (.ifCond .ne 10, 3) := by decide +kernel
theorem dX12_worst_28 : decode cX12_worst 28 = .ok (.aload_n 0, 1) := by decide +kernel
theorem dX12_worst_29 : decode cX12_worst 29 = .ok (.ldc 61, 2) := by decide +kernel
theorem dX12_worst_31 : decode cX12_worst 31 = .ok (.invokevirtual 62, 3) := by decide +kernel
theorem dX12_worst_34 : decode cX12_worst 34 = .ok (.ireturn, 1) := by decide +kernel
theorem dX12_worst_35 : decode cX12_worst 35 = .ok (.aload_n 0, 1) := by decide +kernel
theorem dX12_worst_36 : decode cX12_worst 36 = .ok (.getfield 7, 3) := by decide +kernel
theorem dX12_worst_39 : decode cX12_worst 39 = .ok (.iconst 1, 1) := by decide +kernel
theorem dX12_worst_40 : decode cX12_worst 40 = .ok (.iaload, 1) := by decide +kernel
theorem dX12_worst_41 : decode cX12_worst 41 = .ok (.iconst 1, 1) := by decide +kernel
theorem dX12_worst_42 : decode cX12_worst 42 = .ok (.if_icmp .ne 10, 3) := by decide +kernel
theorem dX12_worst_45 : decode cX12_worst 45 = .ok (.aload_n 0, 1) := by decide +kernel
theorem dX12_worst_46 : decode cX12_worst 46 = .ok (.ldc 220, 2) := by decide +kernel
theorem dX12_worst_48 : decode cX12_worst 48 = .ok (.invokevirtual 62, 3) := by decide +kernel
theorem dX12_worst_51 : decode cX12_worst 51 = .ok (.ireturn, 1) := by decide +kernel
theorem dX12_worst_52 : decode cX12_worst 52 = .ok (.iconst 0, 1) := by decide +kernel
theorem dX12_worst_53 : decode cX12_worst 53 = .ok (.istore 4, 2) := by decide +kernel
theorem dX12_worst_55 : decode cX12_worst 55 = .ok (.iconst (-1), 1) := by decide +kernel
theorem dX12_worst_56 : decode cX12_worst 56 = .ok (.istore 5, 2) := by decide +kernel
theorem dX12_worst_58 : decode cX12_worst 58 = .ok (.iconst 1, 1) := by decide +kernel
theorem dX12_worst_59 : decode cX12_worst 59 = .ok (.istore 6, 2) := by decide +kernel
theorem dX12_worst_61 : decode cX12_worst 61 = .ok (.iload 6, 2) := by decide +kernel
theorem dX12_worst_63 : decode cX12_worst 63 = .ok (.aload_n 0, 1) := by decide +kernel
theorem dX12_worst_64 : decode cX12_worst 64 = .ok (.getfield 7, 3) := by decide +kernel
theorem dX12_worst_67 : decode cX12_worst 67 = .ok (.iconst 1, 1) := by decide +kernel
theorem dX12_worst_68 : decode cX12_worst 68 = .ok (.iaload, 1) := by decide +kernel
theorem dX12_worst_69 : decode cX12_worst 69 = .ok (.if_icmp .ge 53, 3) := by decide +kernel
theorem dX12_worst_72 : decode cX12_worst 72 = .ok (.aload_n 0, 1) := by decide +kernel
theorem dX12_worst_73 : decode cX12_worst 73 = .ok (.iload_n 1, 1) := by decide +kernel
theorem dX12_worst_74 : decode cX12_worst 74 = .ok (.iconst 1, 1) := by decide +kernel
theorem dX12_worst_75 : decode cX12_worst 75 = .ok (.iload 6, 2) := by decide +kernel
theorem dX12_worst_77 : decode cX12_worst 77 = .ok (.ishl, 1) := by decide +kernel
theorem dX12_worst_78 : decode cX12_worst 78 = .ok (.iload_n 2, 1) := by decide +kernel
theorem dX12_worst_79 : decode cX12_worst 79 = .ok (.invokevirtual 237, 3) := by decide +kernel
theorem dX12_worst_82 : decode cX12_worst 82 = .ok (.istore 7, 2) := by decide +kernel
theorem dX12_worst_84 : decode cX12_worst 84 = .ok (.iload 7, 2) := by decide +kernel
theorem dX12_worst_86 : decode cX12_worst 86 = .ok (.iload 5, 2) := by decide +kernel
theorem dX12_worst_88 : decode cX12_worst 88 = .ok (.if_icmp .le 8, 3) := by decide +kernel
theorem dX12_worst_91 : decode cX12_worst 91 = .ok (.iload 6, 2) := by decide +kernel
theorem dX12_worst_93 : decode cX12_worst 93 = .ok (.goto 5, 3) := by decide +kernel
theorem dX12_worst_96 : decode cX12_worst 96 = .ok (.iload 4, 2) := by decide +kernel
theorem dX12_worst_98 : decode cX12_worst 98 = .ok (.istore 4, 2) := by decide +kernel
theorem dX12_worst_100 : decode cX12_worst 100 = .ok (.iload 7, 2) := by decide +kernel
theorem dX12_worst_102 : decode cX12_worst 102 = .ok (.iload 5, 2) := by decide +kernel
theorem dX12_worst_104 : decode cX12_worst 104 = .ok (.if_icmp .le 8, 3) := by decide +kernel
theorem dX12_worst_107 : decode cX12_worst 107 = .ok (.iload 7, 2) := by decide +kernel
theorem dX12_worst_109 : decode cX12_worst 109 = .ok (.goto 5, 3) := by decide +kernel
theorem dX12_worst_112 : decode cX12_worst 112 = .ok (.iload 5, 2) := by decide +kernel
theorem dX12_worst_114 : decode cX12_worst 114 = .ok (.istore 5, 2) := by decide +kernel
theorem dX12_worst_116 : decode cX12_worst 116 = .ok (.iinc 6 1, 3) := by decide +kernel
theorem dX12_worst_119 : decode cX12_worst 119 = .ok (.goto (-58), 3) := by decide +kernel
theorem dX12_worst_122 : decode cX12_worst 122 = .ok (.iload_n 3, 1) := by decide +kernel
theorem dX12_worst_123 : decode cX12_worst 123 = .ok (.ifCond .ne 8, 3) := by decide +kernel
theorem dX12_worst_126 : decode cX12_worst 126 = .ok (.iload 4, 2) := by decide +kernel
theorem dX12_worst_128 : decode cX12_worst 128 = .ok (.goto 5, 3) := by decide +kernel
theorem dX12_worst_131 : decode cX12_worst 131 = .ok (.iload 5, 2) := by decide +kernel
theorem dX12_worst_133 : decode cX12_worst 133 = .ok (.ireturn, 1) := by decide +kernel
theorem dX12_howLong_0 : decode cX12_howLong 0 = .ok (.aload_n 0, 1) := by decide +kernel
theorem dX12_howLong_1 : decode cX12_howLong 1 = .ok (.iload_n 1, 1) := by decide +kernel
theorem dX12_howLong_2 : decode cX12_howLong 2 = .ok (.invokevirtual 98, 3) := by decide +kernel
theorem dX12_howLong_5 : decode cX12_howLong 5 = .ok (.ifCond .eq 11, 3) := by decide +kernel
theorem dX12_howLong_8 : decode cX12_howLong 8 = .ok (.aload_n 0, 1) := by decide +kernel
theorem dX12_howLong_9 : decode cX12_howLong 9 = .ok (.iload_n 2, 1) := by decide +kernel
theorem dX12_howLong_10 : decode cX12_howLong 10 = .ok (.invokevirtual 234, 3) := by decide +kernel
theorem dX12_howLong_13 : decode cX12_howLong 13 = .ok (.ifCond .ne 10, 3) := by decide +kernel
theorem dX12_howLong_16 : decode cX12_howLong 16 = .ok (.aload_n 0, 1) := by decide +kernel
theorem dX12_howLong_17 : decode cX12_howLong 17 = .ok (.ldc 61, 2) := by decide +kernel
theorem dX12_howLong_19 : decode cX12_howLong 19 = .ok (.invokevirtual 62, 3) := by decide +kernel
theorem dX12_howLong_22 : decode cX12_howLong 22 = .ok (.ireturn, 1) := by decide +kernel
theorem dX12_howLong_23 : decode cX12_howLong 23 = .ok (.aload_n 0, 1) := by decide +kernel
theorem dX12_howLong_24 : decode cX12_howLong 24 = .ok (.iload_n 1, 1) := by decide +kernel
theorem dX12_howLong_25 : decode cX12_howLong 25 = .ok (.iconst 0, 1) := by decide +kernel
theorem dX12_howLong_26 : decode cX12_howLong 26 = .ok (.iconst 0, 1) := by decide +kernel
theorem dX12_howLong_27 : decode cX12_howLong 27 = .ok (.invokevirtual 237, 3) := by decide +kernel
theorem dX12_howLong_30 : decode cX12_howLong 30 = .ok (.istore_n 3, 1) := by decide +kernel
theorem dX12_howLong_31 : decode cX12_howLong 31 = .ok (.sipush 500, 3) := by decide +kernel
theorem dX12_howLong_34 : decode cX12_howLong 34 = .ok (.istore 4, 2) := by decide +kernel
theorem dX12_howLong_36 : decode cX12_howLong 36 = .ok (.iload 4, 2) := by decide +kernel
theorem dX12_howLong_38 : decode cX12_howLong 38 = .ok (.ifCond .le 23, 3) := by decide +kernel
theorem dX12_howLong_41 : decode cX12_howLong 41 = .ok (.aload_n 0, 1) := by decide +kernel
theorem dX12_howLong_42 : decode cX12_howLong 42 = .ok (.iload_n 1, 1) := by decide +kernel
theorem dX12_howLong_43 : decode cX12_howLong 43 = .ok (.iconst 1, 1) := by decide +kernel
theorem dX12_howLong_44 : decode cX12_howLong 44 = .ok (.iload_n 2, 1) := by decide +kernel
theorem dX12_howLong_45 : decode cX12_howLong 45 = .ok (.ishl, 1) := by decide +kernel
theorem dX12_howLong_46 : decode cX12_howLong 46 = .ok (.iload 4, 2) := by decide +kernel
theorem dX12_howLong_48 : decode cX12_howLong 48 = .ok (.invokevirtual 237, 3) := by decide +kernel
theorem dX12_howLong_51 : decode cX12_howLong 51 = .ok (.iload_n 3, 1) := by decide +kernel
theorem dX12_howLong_52 : decode cX12_howLong 52 = .ok (.if_icmp .le 9, 3) := by decide +kernel
theorem dX12_howLong_55 : decode cX12_howLong 55 = .ok (.iinc 4 (-1), 3) := by decide +kernel
theorem dX12_howLong_58 : decode cX12_howLong 58 = .ok (.goto (-22), 3) := by decide +kernel
theorem dX12_howLong_61 : decode cX12_howLong 61 = .ok (.iload 4, 2) := by decide +kernel
theorem dX12_howLong_63 : decode cX12_howLong 63 = .ok (.ireturn, 1) := by decide +kernel
theorem dX12_cans_0 : decode cX12_cans 0 = .ok (.aload_n 0, 1) := by decide +kernel
theorem dX12_cans_1 : decode cX12_cans 1 = .ok (.iload_n 1, 1) := by decide +kernel
theorem dX12_cans_2 : decode cX12_cans 2 = .ok (.invokevirtual 98, 3) := by decide +kernel
theorem dX12_cans_5 : decode cX12_cans 5 = .ok (.ifCond .ne 10, 3) := by decide +kernel
theorem dX12_cans_8 : decode cX12_cans 8 = .ok (.aload_n 0, 1) := by decide +kernel
theorem dX12_cans_9 : decode cX12_cans 9 = .ok (.ldc 61, 2) := by decide +kernel
theorem dX12_cans_11 : decode cX12_cans 11 = .ok (.invokevirtual 62, 3) := by decide +kernel
theorem dX12_cans_14 : decode cX12_cans 14 = .ok (.ireturn, 1) := by decide +kernel
theorem dX12_cans_15 : decode cX12_cans 15 = .ok (.aload_n 0, 1) := by decide +kernel
theorem dX12_cans_16 : decode cX12_cans 16 = .ok (.aload_n 0, 1) := by decide +kernel
theorem dX12_cans_17 : decode cX12_cans 17 = .ok (.getfield 7, 3) := by decide +kernel
theorem dX12_cans_20 : decode cX12_cans 20 = .ok (.aload_n 0, 1) := by decide +kernel
theorem dX12_cans_21 : decode cX12_cans 21 = .ok (.getfield 16, 3) := by decide +kernel
theorem dX12_cans_24 : decode cX12_cans 24 = .ok (.invokevirtual 188, 3) := by decide +kernel
theorem dX12_cans_27 : decode cX12_cans 27 = .ok (.aload_n 0, 1) := by decide +kernel
theorem dX12_cans_28 : decode cX12_cans 28 = .ok (.iconst 0, 1) := by decide +kernel
theorem dX12_cans_29 : decode cX12_cans 29 = .ok (.putfield 192, 3) := by decide +kernel
theorem dX12_cans_32 : decode cX12_cans 32 = .ok (.iconst 0, 1) := by decide +kernel
theorem dX12_cans_33 : decode cX12_cans 33 = .ok (.istore_n 2, 1) := by decide +kernel
theorem dX12_cans_34 : decode cX12_cans 34 = .ok (.iload_n 2, 1) := by decide +kernel
theorem dX12_cans_35 : decode cX12_cans 35 = .ok (.aload_n 0, 1) := by decide +kernel
theorem dX12_cans_36 : decode cX12_cans 36 = .ok (.getfield 7, 3) := by decide +kernel
theorem dX12_cans_39 : decode cX12_cans 39 = .ok (.iconst 1, 1) := by decide +kernel
theorem dX12_cans_40 : decode cX12_cans 40 = .ok (.iaload, 1) := by decide +kernel
theorem dX12_cans_41 : decode cX12_cans 41 = .ok (.if_icmp .ge 16, 3) := by decide +kernel
theorem dX12_cans_44 : decode cX12_cans 44 = .ok (.aload_n 0, 1) := by decide +kernel
theorem dX12_cans_45 : decode cX12_cans 45 = .ok (.iload_n 1, 1) := by decide +kernel
theorem dX12_cans_46 : decode cX12_cans 46 = .ok (.iload_n 2, 1) := by decide +kernel
theorem dX12_cans_47 : decode cX12_cans 47 = .ok (.iconst 0, 1) := by decide +kernel
theorem dX12_cans_48 : decode cX12_cans 48 = .ok (.invokevirtual 203, 3) := by decide +kernel
theorem dX12_cans_51 : decode cX12_cans 51 = .ok (.iinc 2 1, 3) := by decide +kernel
theorem dX12_cans_54 : decode cX12_cans 54 = .ok (.goto (-20), 3) := by decide +kernel
theorem dX12_cans_57 : decode cX12_cans 57 = .ok (.aload_n 0, 1) := by decide +kernel
theorem dX12_cans_58 : decode cX12_cans 58 = .ok (.aload_n 0, 1) := by decide +kernel
theorem dX12_cans_59 : decode cX12_cans 59 = .ok (.getfield 16, 3) := by decide +kernel
theorem dX12_cans_62 : decode cX12_cans 62 = .ok (.aload_n 0, 1) := by decide +kernel
theorem dX12_cans_63 : decode cX12_cans 63 = .ok (.getfield 7, 3) := by decide +kernel
theorem dX12_cans_66 : decode cX12_cans 66 = .ok (.invokevirtual 188, 3) := by decide +kernel
theorem dX12_cans_69 : decode cX12_cans 69 = .ok (.aload_n 0, 1) := by decide +kernel
theorem dX12_cans_70 : decode cX12_cans 70 = .ok (.getfield 192, 3) := by decide +kernel
theorem dX12_cans_73 : decode cX12_cans 73 = .ok (.ireturn, 1) := by decide +kernel
theorem dX12_rollsSo_0 : decode cX12_rollsSo 0 = .ok (.aload_n 0, 1) := by decide +kernel
theorem dX12_rollsSo_1 : decode cX12_rollsSo 1 = .ok (.aload_n 0, 1) := by decide +kernel
theorem dX12_rollsSo_2 : decode cX12_rollsSo 2 = .ok (.getfield 7, 3) := by decide +kernel
theorem dX12_rollsSo_5 : decode cX12_rollsSo 5 = .ok (.aload_n 0, 1) := by decide +kernel
theorem dX12_rollsSo_6 : decode cX12_rollsSo 6 = .ok (.getfield 16, 3) := by decide +kernel
theorem dX12_rollsSo_9 : decode cX12_rollsSo 9 = .ok (.invokevirtual 188, 3) := by decide +kernel
theorem dX12_rollsSo_12 : decode cX12_rollsSo 12 = .ok (.aload_n 0, 1) := by decide +kernel
theorem dX12_rollsSo_13 : decode cX12_rollsSo 13 = .ok (.iload_n 1, 1) := by decide +kernel
theorem dX12_rollsSo_14 : decode cX12_rollsSo 14 = .ok (.iload_n 2, 1) := by decide +kernel
theorem dX12_rollsSo_15 : decode cX12_rollsSo 15 = .ok (.iload_n 3, 1) := by decide +kernel
theorem dX12_rollsSo_16 : decode cX12_rollsSo 16 = .ok (.iconst 0, 1) := by decide +kernel
theorem dX12_rollsSo_17 : decode cX12_rollsSo 17 = .ok (.invokevirtual 195, 3) := by decide +kernel
theorem dX12_rollsSo_20 : decode cX12_rollsSo 20 = .ok (.iconst 1, 1) := by decide +kernel
theorem dX12_rollsSo_21 : decode cX12_rollsSo 21 = .ok (.istore 5, 2) := by decide +kernel
theorem dX12_rollsSo_23 : decode cX12_rollsSo 23 = .ok (.iconst 0, 1) := by decide +kernel
theorem dX12_rollsSo_24 : decode cX12_rollsSo 24 = .ok (.istore 6, 2) := by decide +kernel
theorem dX12_rollsSo_26 : decode cX12_rollsSo 26 = .ok (.iload 6, 2) := by decide +kernel
theorem dX12_rollsSo_28 : decode cX12_rollsSo 28 = .ok (.aload_n 0, 1) := by decide +kernel
theorem dX12_rollsSo_29 : decode cX12_rollsSo 29 = .ok (.getfield 7, 3) := by decide +kernel
theorem dX12_rollsSo_32 : decode cX12_rollsSo 32 = .ok (.iconst 0, 1) := by decide +kernel
theorem dX12_rollsSo_33 : decode cX12_rollsSo 33 = .ok (.iaload, 1) := by decide +kernel
theorem dX12_rollsSo_34 : decode cX12_rollsSo 34 = .ok (.if_icmp .ge 52, 3) := by decide +kernel
theorem dX12_rollsSo_37 : decode cX12_rollsSo 37 = .ok (.iload 5, 2) := by decide +kernel
theorem dX12_rollsSo_39 : decode cX12_rollsSo 39 = .ok (.ifCond .eq 38, 3) := by decide +kernel
theorem dX12_rollsSo_42 : decode cX12_rollsSo 42 = .ok (.aload_n 0, 1) := by decide +kernel
theorem dX12_rollsSo_43 : decode cX12_rollsSo 43 = .ok (.iload 6, 2) := by decide +kernel
theorem dX12_rollsSo_45 : decode cX12_rollsSo 45 = .ok (.aload_n 0, 1) := by decide +kernel
theorem dX12_rollsSo_46 : decode cX12_rollsSo 46 = .ok (.getfield 7, 3) := by decide +kernel
theorem dX12_rollsSo_49 : decode cX12_rollsSo 49 = .ok (.iconst 1, 1) := by decide +kernel
theorem dX12_rollsSo_50 : decode cX12_rollsSo 50 = .ok (.iaload, 1) := by decide +kernel
theorem dX12_rollsSo_51 : decode cX12_rollsSo 51 = .ok (.imul, 1) := by decide +kernel
theorem dX12_rollsSo_52 : decode cX12_rollsSo 52 = .ok (.iload_n 3, 1) := by decide +kernel
theorem dX12_rollsSo_53 : decode cX12_rollsSo 53 = .ok (.iadd, 1) := by decide +kernel
theorem dX12_rollsSo_54 : decode cX12_rollsSo 54 = .ok (.invokevirtual 81, 3) := by decide +kernel
theorem dX12_rollsSo_57 : decode cX12_rollsSo 57 = .ok (.aload_n 0, 1) := by decide +kernel
theorem dX12_rollsSo_58 : decode cX12_rollsSo 58 = .ok (.getfield 37, 3) := by decide +kernel
theorem dX12_rollsSo_61 : decode cX12_rollsSo 61 = .ok (.bipush 40, 2) := by decide +kernel
theorem dX12_rollsSo_63 : decode cX12_rollsSo 63 = .ok (.iload 4, 2) := by decide +kernel
theorem dX12_rollsSo_65 : decode cX12_rollsSo 65 = .ok (.imul, 1) := by decide +kernel
theorem dX12_rollsSo_66 : decode cX12_rollsSo 66 = .ok (.iload 6, 2) := by decide +kernel
theorem dX12_rollsSo_68 : decode cX12_rollsSo 68 = .ok (.iadd, 1) := by decide +kernel
theorem dX12_rollsSo_69 : decode cX12_rollsSo 69 = .ok (.iaload, 1) := by decide +kernel
theorem dX12_rollsSo_70 : decode cX12_rollsSo 70 = .ok (.if_icmp .ne 7, 3) := by decide +kernel
theorem dX12_rollsSo_73 : decode cX12_rollsSo 73 = .ok (.iconst 1, 1) := by decide +kernel
theorem dX12_rollsSo_74 : decode cX12_rollsSo 74 = .ok (.goto 4, 3) := by decide +kernel
theorem dX12_rollsSo_77 : decode cX12_rollsSo 77 = .ok (.iconst 0, 1) := by decide +kernel
theorem dX12_rollsSo_78 : decode cX12_rollsSo 78 = .ok (.istore 5, 2) := by decide +kernel
theorem dX12_rollsSo_80 : decode cX12_rollsSo 80 = .ok (.iinc 6 1, 3) := by decide +kernel
theorem dX12_rollsSo_83 : decode cX12_rollsSo 83 = .ok (.goto (-57), 3) := by decide +kernel
theorem dX12_rollsSo_86 : decode cX12_rollsSo 86 = .ok (.aload_n 0, 1) := by decide +kernel
theorem dX12_rollsSo_87 : decode cX12_rollsSo 87 = .ok (.aload_n 0, 1) := by decide +kernel
theorem dX12_rollsSo_88 : decode cX12_rollsSo 88 = .ok (.getfield 16, 3) := by decide +kernel
theorem dX12_rollsSo_91 : decode cX12_rollsSo 91 = .ok (.aload_n 0, 1) := by decide +kernel
theorem dX12_rollsSo_92 : decode cX12_rollsSo 92 = .ok (.getfield 7, 3) := by decide +kernel
theorem dX12_rollsSo_95 : decode cX12_rollsSo 95 = .ok (.invokevirtual 188, 3) := by decide +kernel
theorem dX12_rollsSo_98 : decode cX12_rollsSo 98 = .ok (.iload 5, 2) := by decide +kernel
theorem dX12_rollsSo_100 : decode cX12_rollsSo 100 = .ok (.ireturn, 1) := by decide +kernel
theorem dX12_whose_0 : decode cX12_whose 0 = .ok (.aload_n 0, 1) := by decide +kernel
theorem dX12_whose_1 : decode cX12_whose 1 = .ok (.iload_n 1, 1) := by decide +kernel
theorem dX12_whose_2 : decode cX12_whose 2 = .ok (.invokevirtual 98, 3) := by decide +kernel
theorem dX12_whose_5 : decode cX12_whose 5 = .ok (.ifCond .eq 18, 3) := by decide +kernel
theorem dX12_whose_8 : decode cX12_whose 8 = .ok (.aload_n 0, 1) := by decide +kernel
theorem dX12_whose_9 : decode cX12_whose 9 = .ok (.iload_n 2, 1) := by decide +kernel
theorem dX12_whose_10 : decode cX12_whose 10 = .ok (.invokevirtual 199, 3) := by decide +kernel
theorem dX12_whose_13 : decode cX12_whose 13 = .ok (.ifCond .eq 10, 3) := by decide +kernel
theorem dX12_whose_16 : decode cX12_whose 16 = .ok (.iload_n 3, 1) := by decide +kernel
theorem dX12_whose_17 : decode cX12_whose 17 = .ok (.invokestatic 217, 3) := by decide +kernel
theorem dX12_whose_20 : decode cX12_whose 20 = .ok (.ifCond .ne 10, 3) := by decide +kernel
theorem dX12_whose_23 : decode cX12_whose 23 = .ok (.aload_n 0, 1) := by decide +kernel
theorem dX12_whose_24 : decode cX12_whose 24 = .ok (.ldc 61, 2) := by decide +kernel
theorem dX12_whose_26 : decode cX12_whose 26 = .ok (.invokevirtual 62, 3) := by decide +kernel
theorem dX12_whose_29 : decode cX12_whose 29 = .ok (.ireturn, 1) := by decide +kernel
theorem dX12_whose_30 : decode cX12_whose 30 = .ok (.aload_n 0, 1) := by decide +kernel
theorem dX12_whose_31 : decode cX12_whose 31 = .ok (.getfield 31, 3) := by decide +kernel
theorem dX12_whose_34 : decode cX12_whose 34 = .ok (.iload_n 3, 1) := by decide +kernel
theorem dX12_whose_35 : decode cX12_whose 35 = .ok (.iaload, 1) := by decide +kernel
theorem dX12_whose_36 : decode cX12_whose 36 = .ok (.ifCond .eq 18, 3) := by decide +kernel
theorem dX12_whose_39 : decode cX12_whose 39 = .ok (.aload_n 0, 1) := by decide +kernel
theorem dX12_whose_40 : decode cX12_whose 40 = .ok (.getfield 34, 3) := by decide +kernel
theorem dX12_whose_43 : decode cX12_whose 43 = .ok (.iload_n 3, 1) := by decide +kernel
theorem dX12_whose_44 : decode cX12_whose 44 = .ok (.iaload, 1) := by decide +kernel
theorem dX12_whose_45 : decode cX12_whose 45 = .ok (.aload_n 0, 1) := by decide +kernel
theorem dX12_whose_46 : decode cX12_whose 46 = .ok (.getfield 7, 3) := by decide +kernel
theorem dX12_whose_49 : decode cX12_whose 49 = .ok (.iconst 0, 1) := by decide +kernel
theorem dX12_whose_50 : decode cX12_whose 50 = .ok (.iaload, 1) := by decide +kernel
theorem dX12_whose_51 : decode cX12_whose 51 = .ok (.if_icmp .eq 10, 3) := by decide +kernel
theorem dX12_whose_54 : decode cX12_whose 54 = .ok (.aload_n 0, 1) := by decide +kernel
theorem dX12_whose_55 : decode cX12_whose 55 = .ok (.ldc 220, 2) := by decide +kernel
theorem dX12_whose_57 : decode cX12_whose 57 = .ok (.invokevirtual 62, 3) := by decide +kernel
theorem dX12_whose_60 : decode cX12_whose 60 = .ok (.ireturn, 1) := by decide +kernel
theorem dX12_whose_61 : decode cX12_whose 61 = .ok (.iconst 0, 1) := by decide +kernel
theorem dX12_whose_62 : decode cX12_whose 62 = .ok (.istore 4, 2) := by decide +kernel
theorem dX12_whose_64 : decode cX12_whose 64 = .ok (.iload 4, 2) := by decide +kernel
theorem dX12_whose_66 : decode cX12_whose 66 = .ok (.bipush 6, 2) := by decide +kernel
theorem dX12_whose_68 : decode cX12_whose 68 = .ok (.if_icmp .gt 25, 3) := by decide +kernel
theorem dX12_whose_71 : decode cX12_whose 71 = .ok (.aload_n 0, 1) := by decide +kernel
theorem dX12_whose_72 : decode cX12_whose 72 = .ok (.iload 4, 2) := by decide +kernel
theorem dX12_whose_74 : decode cX12_whose 74 = .ok (.aload_n 0, 1) := by decide +kernel
theorem dX12_whose_75 : decode cX12_whose 75 = .ok (.iload_n 1, 1) := by decide +kernel
theorem dX12_whose_76 : decode cX12_whose 76 = .ok (.invokevirtual 104, 3) := by decide +kernel
theorem dX12_whose_79 : decode cX12_whose 79 = .ok (.iload_n 2, 1) := by decide +kernel
theorem dX12_whose_80 : decode cX12_whose 80 = .ok (.iload_n 3, 1) := by decide +kernel
theorem dX12_whose_81 : decode cX12_whose 81 = .ok (.invokevirtual 240, 3) := by decide +kernel
theorem dX12_whose_84 : decode cX12_whose 84 = .ok (.ifCond .ne 9, 3) := by decide +kernel
theorem dX12_whose_87 : decode cX12_whose 87 = .ok (.iinc 4 1, 3) := by decide +kernel
theorem dX12_whose_90 : decode cX12_whose 90 = .ok (.goto (-26), 3) := by decide +kernel
theorem dX12_whose_93 : decode cX12_whose 93 = .ok (.iload 4, 2) := by decide +kernel
theorem dX12_whose_95 : decode cX12_whose 95 = .ok (.bipush 6, 2) := by decide +kernel
theorem dX12_whose_97 : decode cX12_whose 97 = .ok (.if_icmp .le 12, 3) := by decide +kernel
theorem dX12_whose_100 : decode cX12_whose 100 = .ok (.aload_n 0, 1) := by decide +kernel
theorem dX12_whose_101 : decode cX12_whose 101 = .ok (.ldc 220, 2) := by decide +kernel
theorem dX12_whose_103 : decode cX12_whose 103 = .ok (.invokevirtual 62, 3) := by decide +kernel
theorem dX12_whose_106 : decode cX12_whose 106 = .ok (.goto 5, 3) := by decide +kernel
theorem dX12_whose_109 : decode cX12_whose 109 = .ok (.iload 4, 2) := by decide +kernel
theorem dX12_whose_111 : decode cX12_whose 111 = .ok (.ireturn, 1) := by decide +kernel
theorem dX12_odds_0 : decode cX12_odds 0 = .ok (.aload_n 0, 1) := by decide +kernel
theorem dX12_odds_1 : decode cX12_odds 1 = .ok (.iload_n 1, 1) := by decide +kernel
theorem dX12_odds_2 : decode cX12_odds 2 = .ok (.invokevirtual 98, 3) := by decide +kernel
theorem dX12_odds_5 : decode cX12_odds 5 = .ok (.ifCond .eq 35, 3) := by decide +kernel
theorem dX12_odds_8 : decode cX12_odds 8 = .ok (.iload_n 2, 1) := by decide +kernel
theorem dX12_odds_9 : decode cX12_odds 9 = .ok (.iconst 0, 1) := by decide +kernel
theorem dX12_odds_10 : decode cX12_odds 10 = .ok (.sipush 500, 3) := by decide +kernel
theorem dX12_odds_13 : decode cX12_odds 13 = .ok (.invokestatic 57, 3) := by decide +kernel
theorem dX12_odds_16 : decode cX12_odds 16 = .ok (.ifCond .eq 24, 3) := by decide +kernel
theorem dX12_odds_19 : decode cX12_odds 19 = .ok (.iload_n 3, 1) := by decide +kernel
theorem dX12_odds_20 : decode cX12_odds 20 = .ok (.iconst 0, 1) := by decide +kernel
theorem dX12_odds_21 : decode cX12_odds 21 = .ok (.sipush 9999, 3) := by decide +kernel
theorem dX12_odds_24 : decode cX12_odds 24 = .ok (.invokestatic 57, 3) := by decide +kernel
theorem dX12_odds_27 : decode cX12_odds 27 = .ok (.ifCond .eq 13, 3) := by decide +kernel
theorem dX12_odds_30 : decode cX12_odds 30 = .ok (.iload 4, 2) := by decide +kernel
theorem dX12_odds_32 : decode cX12_odds 32 = .ok (.iconst 0, 1) := by decide +kernel
theorem dX12_odds_33 : decode cX12_odds 33 = .ok (.iconst 1, 1) := by decide +kernel
theorem dX12_odds_34 : decode cX12_odds 34 = .ok (.invokestatic 57, 3) := by decide +kernel
theorem dX12_odds_37 : decode cX12_odds 37 = .ok (.ifCond .ne 10, 3) := by decide +kernel
theorem dX12_odds_40 : decode cX12_odds 40 = .ok (.aload_n 0, 1) := by decide +kernel
theorem dX12_odds_41 : decode cX12_odds 41 = .ok (.ldc 61, 2) := by decide +kernel
theorem dX12_odds_43 : decode cX12_odds 43 = .ok (.invokevirtual 62, 3) := by decide +kernel
theorem dX12_odds_46 : decode cX12_odds 46 = .ok (.ireturn, 1) := by decide +kernel
theorem dX12_odds_47 : decode cX12_odds 47 = .ok (.iconst 1, 1) := by decide +kernel
theorem dX12_odds_48 : decode cX12_odds 48 = .ok (.aload_n 0, 1) := by decide +kernel
theorem dX12_odds_49 : decode cX12_odds 49 = .ok (.getfield 7, 3) := by decide +kernel
theorem dX12_odds_52 : decode cX12_odds 52 = .ok (.iconst 1, 1) := by decide +kernel
theorem dX12_odds_53 : decode cX12_odds 53 = .ok (.iaload, 1) := by decide +kernel
theorem dX12_odds_54 : decode cX12_odds 54 = .ok (.iconst 1, 1) := by decide +kernel
theorem dX12_odds_55 : decode cX12_odds 55 = .ok (.isub, 1) := by decide +kernel
theorem dX12_odds_56 : decode cX12_odds 56 = .ok (.ishl, 1) := by decide +kernel
theorem dX12_odds_57 : decode cX12_odds 57 = .ok (.istore 5, 2) := by decide +kernel
theorem dX12_odds_59 : decode cX12_odds 59 = .ok (.iconst 0, 1) := by decide +kernel
theorem dX12_odds_60 : decode cX12_odds 60 = .ok (.istore 6, 2) := by decide +kernel
theorem dX12_odds_62 : decode cX12_odds 62 = .ok (.iconst 0, 1) := by decide +kernel
theorem dX12_odds_63 : decode cX12_odds 63 = .ok (.istore 7, 2) := by decide +kernel
theorem dX12_odds_65 : decode cX12_odds 65 = .ok (.iload 7, 2) := by decide +kernel
theorem dX12_odds_67 : decode cX12_odds 67 = .ok (.iload 5, 2) := by decide +kernel
theorem dX12_odds_69 : decode cX12_odds 69 = .ok (.if_icmp .ge 33, 3) := by decide +kernel
theorem dX12_odds_72 : decode cX12_odds 72 = .ok (.iload 6, 2) := by decide +kernel
theorem dX12_odds_74 : decode cX12_odds 74 = .ok (.aload_n 0, 1) := by decide +kernel
theorem dX12_odds_75 : decode cX12_odds 75 = .ok (.iload_n 1, 1) := by decide +kernel
theorem dX12_odds_76 : decode cX12_odds 76 = .ok (.iconst 2, 1) := by decide +kernel
theorem dX12_odds_77 : decode cX12_odds 77 = .ok (.iload 7, 2) := by decide +kernel
theorem dX12_odds_79 : decode cX12_odds 79 = .ok (.imul, 1) := by decide +kernel
theorem dX12_odds_80 : decode cX12_odds 80 = .ok (.iload_n 2, 1) := by decide +kernel
theorem dX12_odds_81 : decode cX12_odds 81 = .ok (.invokevirtual 237, 3) := by decide +kernel
theorem dX12_odds_84 : decode cX12_odds 84 = .ok (.iload_n 3, 1) := by decide +kernel
theorem dX12_odds_85 : decode cX12_odds 85 = .ok (.if_icmp .gt 7, 3) := by decide +kernel
theorem dX12_odds_88 : decode cX12_odds 88 = .ok (.iconst 1, 1) := by decide +kernel
theorem dX12_odds_89 : decode cX12_odds 89 = .ok (.goto 4, 3) := by decide +kernel
theorem dX12_odds_92 : decode cX12_odds 92 = .ok (.iconst 0, 1) := by decide +kernel
theorem dX12_odds_93 : decode cX12_odds 93 = .ok (.iadd, 1) := by decide +kernel
theorem dX12_odds_94 : decode cX12_odds 94 = .ok (.istore 6, 2) := by decide +kernel
theorem dX12_odds_96 : decode cX12_odds 96 = .ok (.iinc 7 1, 3) := by decide +kernel
theorem dX12_odds_99 : decode cX12_odds 99 = .ok (.goto (-34), 3) := by decide +kernel
theorem dX12_odds_102 : decode cX12_odds 102 = .ok (.iload 6, 2) := by decide +kernel
theorem dX12_odds_104 : decode cX12_odds 104 = .ok (.ifCond .ne 7, 3) := by decide +kernel
theorem dX12_odds_107 : decode cX12_odds 107 = .ok (.iconst 1, 1) := by decide +kernel
theorem dX12_odds_108 : decode cX12_odds 108 = .ok (.goto 5, 3) := by decide +kernel
theorem dX12_odds_111 : decode cX12_odds 111 = .ok (.iload 5, 2) := by decide +kernel
theorem dX12_odds_113 : decode cX12_odds 113 = .ok (.istore 7, 2) := by decide +kernel
theorem dX12_odds_115 : decode cX12_odds 115 = .ok (.iload 7, 2) := by decide +kernel
theorem dX12_odds_117 : decode cX12_odds 117 = .ok (.iconst 1, 1) := by decide +kernel
theorem dX12_odds_118 : decode cX12_odds 118 = .ok (.if_icmp .le 25, 3) := by decide +kernel
theorem dX12_odds_121 : decode cX12_odds 121 = .ok (.iload 6, 2) := by decide +kernel
theorem dX12_odds_123 : decode cX12_odds 123 = .ok (.iconst 2, 1) := by decide +kernel
theorem dX12_odds_124 : decode cX12_odds 124 = .ok (.irem, 1) := by decide +kernel
theorem dX12_odds_125 : decode cX12_odds 125 = .ok (.ifCond .ne 18, 3) := by decide +kernel
theorem dX12_odds_128 : decode cX12_odds 128 = .ok (.iload 6, 2) := by decide +kernel
theorem dX12_odds_130 : decode cX12_odds 130 = .ok (.iconst 2, 1) := by decide +kernel
theorem dX12_odds_131 : decode cX12_odds 131 = .ok (.idiv, 1) := by decide +kernel
theorem dX12_odds_132 : decode cX12_odds 132 = .ok (.istore 6, 2) := by decide +kernel
theorem dX12_odds_134 : decode cX12_odds 134 = .ok (.iload 7, 2) := by decide +kernel
theorem dX12_odds_136 : decode cX12_odds 136 = .ok (.iconst 2, 1) := by decide +kernel
theorem dX12_odds_137 : decode cX12_odds 137 = .ok (.idiv, 1) := by decide +kernel
theorem dX12_odds_138 : decode cX12_odds 138 = .ok (.istore 7, 2) := by decide +kernel
theorem dX12_odds_140 : decode cX12_odds 140 = .ok (.goto (-25), 3) := by decide +kernel
theorem dX12_odds_143 : decode cX12_odds 143 = .ok (.iload 4, 2) := by decide +kernel
theorem dX12_odds_145 : decode cX12_odds 145 = .ok (.ifCond .ne 8, 3) := by decide +kernel
theorem dX12_odds_148 : decode cX12_odds 148 = .ok (.iload 6, 2) := by decide +kernel
theorem dX12_odds_150 : decode cX12_odds 150 = .ok (.goto 5, 3) := by decide +kernel
theorem dX12_odds_153 : decode cX12_odds 153 = .ok (.iload 7, 2) := by decide +kernel
theorem dX12_odds_155 : decode cX12_odds 155 = .ok (.ireturn, 1) := by decide +kernel
theorem dX12_seed_0 : decode cX12_seed 0 = .ok (.aload_n 0, 1) := by decide +kernel
theorem dX12_seed_1 : decode cX12_seed 1 = .ok (.getfield 7, 3) := by decide +kernel
theorem dX12_seed_4 : decode cX12_seed 4 = .ok (.bipush 7, 2) := by decide +kernel
theorem dX12_seed_6 : decode cX12_seed 6 = .ok (.iaload, 1) := by decide +kernel
theorem dX12_seed_7 : decode cX12_seed 7 = .ok (.istore_n 2, 1) := by decide +kernel
theorem dX12_seed_8 : decode cX12_seed 8 = .ok (.aload_n 0, 1) := by decide +kernel
theorem dX12_seed_9 : decode cX12_seed 9 = .ok (.getfield 7, 3) := by decide +kernel
theorem dX12_seed_12 : decode cX12_seed 12 = .ok (.bipush 7, 2) := by decide +kernel
theorem dX12_seed_14 : decode cX12_seed 14 = .ok (.iload_n 1, 1) := by decide +kernel
theorem dX12_seed_15 : decode cX12_seed 15 = .ok (.iastore, 1) := by decide +kernel
theorem dX12_seed_16 : decode cX12_seed 16 = .ok (.iload_n 2, 1) := by decide +kernel
theorem dX12_seed_17 : decode cX12_seed 17 = .ok (.ireturn, 1) := by decide +kernel
theorem dX12_ran_0 : decode cX12_ran 0 = .ok (.aload_n 0, 1) := by decide +kernel
theorem dX12_ran_1 : decode cX12_ran 1 = .ok (.getfield 244, 3) := by decide +kernel
theorem dX12_ran_4 : decode cX12_ran 4 = .ok (.bipush 40, 2) := by decide +kernel
theorem dX12_ran_6 : decode cX12_ran 6 = .ok (.if_icmp .ge 23, 3) := by decide +kernel
theorem dX12_ran_9 : decode cX12_ran 9 = .ok (.aload_n 0, 1) := by decide +kernel
theorem dX12_ran_10 : decode cX12_ran 10 = .ok (.getfield 49, 3) := by decide +kernel
theorem dX12_ran_13 : decode cX12_ran 13 = .ok (.aload_n 0, 1) := by decide +kernel
theorem dX12_ran_14 : decode cX12_ran 14 = .ok (.getfield 244, 3) := by decide +kernel
theorem dX12_ran_17 : decode cX12_ran 17 = .ok (.iload_n 1, 1) := by decide +kernel
theorem dX12_ran_18 : decode cX12_ran 18 = .ok (.iastore, 1) := by decide +kernel
theorem dX12_ran_19 : decode cX12_ran 19 = .ok (.aload_n 0, 1) := by decide +kernel
theorem dX12_ran_20 : decode cX12_ran 20 = .ok (.dup, 1) := by decide +kernel
theorem dX12_ran_21 : decode cX12_ran 21 = .ok (.getfield 244, 3) := by decide +kernel
theorem dX12_ran_24 : decode cX12_ran 24 = .ok (.iconst 1, 1) := by decide +kernel
theorem dX12_ran_25 : decode cX12_ran 25 = .ok (.iadd, 1) := by decide +kernel
theorem dX12_ran_26 : decode cX12_ran 26 = .ok (.putfield 244, 3) := by decide +kernel
theorem dX12_ran_29 : decode cX12_ran 29 = .ok (.return_, 1) := by decide +kernel
theorem dX12_loadsIn_0 : decode cX12_loadsIn 0 = .ok (.iload_n 1, 1) := by decide +kernel
theorem dX12_loadsIn_1 : decode cX12_loadsIn 1 = .ok (.ifCond .ne 16, 3) := by decide +kernel
theorem dX12_loadsIn_4 : decode cX12_loadsIn 4 = .ok (.aload_n 0, 1) := by decide +kernel
theorem dX12_loadsIn_5 : decode cX12_loadsIn 5 = .ok (.bipush 10, 2) := by decide +kernel
theorem dX12_loadsIn_7 : decode cX12_loadsIn 7 = .ok (.invokevirtual 247, 3) := by decide +kernel
theorem dX12_loadsIn_10 : decode cX12_loadsIn 10 = .ok (.iload_n 2, 1) := by decide +kernel
theorem dX12_loadsIn_11 : decode cX12_loadsIn 11 = .ok (.aload_n 0, 1) := by decide +kernel
theorem dX12_loadsIn_12 : decode cX12_loadsIn 12 = .ok (.getfield 251, 3) := by decide +kernel
theorem dX12_loadsIn_15 : decode cX12_loadsIn 15 = .ok (.iadd, 1) := by decide +kernel
theorem dX12_loadsIn_16 : decode cX12_loadsIn 16 = .ok (.ireturn, 1) := by decide +kernel
theorem dX12_loadsIn_17 : decode cX12_loadsIn 17 = .ok (.iload_n 1, 1) := by decide +kernel
theorem dX12_loadsIn_18 : decode cX12_loadsIn 18 = .ok (.iconst 3, 1) := by decide +kernel
theorem dX12_loadsIn_19 : decode cX12_loadsIn 19 = .ok (.if_icmp .ne 18, 3) := by decide +kernel
theorem dX12_loadsIn_22 : decode cX12_loadsIn 22 = .ok (.aload_n 0, 1) := by decide +kernel
theorem dX12_loadsIn_23 : decode cX12_loadsIn 23 = .ok (.bipush 40, 2) := by decide +kernel
theorem dX12_loadsIn_25 : decode cX12_loadsIn 25 = .ok (.invokevirtual 247, 3) := by decide +kernel
theorem dX12_loadsIn_28 : decode cX12_loadsIn 28 = .ok (.aload_n 0, 1) := by decide +kernel
theorem dX12_loadsIn_29 : decode cX12_loadsIn 29 = .ok (.iconst 0, 1) := by decide +kernel
theorem dX12_loadsIn_30 : decode cX12_loadsIn 30 = .ok (.iload_n 2, 1) := by decide +kernel
theorem dX12_loadsIn_31 : decode cX12_loadsIn 31 = .ok (.invokevirtual 254, 3) := by decide +kernel
theorem dX12_loadsIn_34 : decode cX12_loadsIn 34 = .ok (.iconst 3, 1) := by decide +kernel
theorem dX12_loadsIn_35 : decode cX12_loadsIn 35 = .ok (.imul, 1) := by decide +kernel
theorem dX12_loadsIn_36 : decode cX12_loadsIn 36 = .ok (.ireturn, 1) := by decide +kernel
theorem dX12_loadsIn_37 : decode cX12_loadsIn 37 = .ok (.aload_n 0, 1) := by decide +kernel
theorem dX12_loadsIn_38 : decode cX12_loadsIn 38 = .ok (.iload_n 1, 1) := by decide +kernel
theorem dX12_loadsIn_39 : decode cX12_loadsIn 39 = .ok (.invokestatic 118, 3) := by decide +kernel
theorem dX12_loadsIn_42 : decode cX12_loadsIn 42 = .ok (.iload_n 2, 1) := by decide +kernel
theorem dX12_loadsIn_43 : decode cX12_loadsIn 43 = .ok (.invokevirtual 254, 3) := by decide +kernel
theorem dX12_loadsIn_46 : decode cX12_loadsIn 46 = .ok (.ireturn, 1) := by decide +kernel
theorem dX12_driesIn_0 : decode cX12_driesIn 0 = .ok (.iload_n 1, 1) := by decide +kernel
theorem dX12_driesIn_1 : decode cX12_driesIn 1 = .ok (.ifCond .ne 16, 3) := by decide +kernel
theorem dX12_driesIn_4 : decode cX12_driesIn 4 = .ok (.aload_n 0, 1) := by decide +kernel
theorem dX12_driesIn_5 : decode cX12_driesIn 5 = .ok (.bipush 12, 2) := by decide +kernel
theorem dX12_driesIn_7 : decode cX12_driesIn 7 = .ok (.invokevirtual 247, 3) := by decide +kernel
theorem dX12_driesIn_10 : decode cX12_driesIn 10 = .ok (.iload_n 2, 1) := by decide +kernel
theorem dX12_driesIn_11 : decode cX12_driesIn 11 = .ok (.aload_n 0, 1) := by decide +kernel
theorem dX12_driesIn_12 : decode cX12_driesIn 12 = .ok (.getfield 257, 3) := by decide +kernel
theorem dX12_driesIn_15 : decode cX12_driesIn 15 = .ok (.isub, 1) := by decide +kernel
theorem dX12_driesIn_16 : decode cX12_driesIn 16 = .ok (.ireturn, 1) := by decide +kernel
theorem dX12_driesIn_17 : decode cX12_driesIn 17 = .ok (.iload_n 1, 1) := by decide +kernel
theorem dX12_driesIn_18 : decode cX12_driesIn 18 = .ok (.iconst 1, 1) := by decide +kernel
theorem dX12_driesIn_19 : decode cX12_driesIn 19 = .ok (.if_icmp .ne 17, 3) := by decide +kernel
theorem dX12_driesIn_22 : decode cX12_driesIn 22 = .ok (.aload_n 0, 1) := by decide +kernel
theorem dX12_driesIn_23 : decode cX12_driesIn 23 = .ok (.bipush 20, 2) := by decide +kernel
theorem dX12_driesIn_25 : decode cX12_driesIn 25 = .ok (.invokevirtual 247, 3) := by decide +kernel
theorem dX12_driesIn_28 : decode cX12_driesIn 28 = .ok (.aload_n 0, 1) := by decide +kernel
theorem dX12_driesIn_29 : decode cX12_driesIn 29 = .ok (.iconst 0, 1) := by decide +kernel
theorem dX12_driesIn_30 : decode cX12_driesIn 30 = .ok (.iload_n 2, 1) := by decide +kernel
theorem dX12_driesIn_31 : decode cX12_driesIn 31 = .ok (.invokevirtual 260, 3) := by decide +kernel
theorem dX12_driesIn_34 : decode cX12_driesIn 34 = .ok (.ineg, 1) := by decide +kernel
theorem dX12_driesIn_35 : decode cX12_driesIn 35 = .ok (.ireturn, 1) := by decide +kernel
theorem dX12_driesIn_36 : decode cX12_driesIn 36 = .ok (.iload_n 1, 1) := by decide +kernel
theorem dX12_driesIn_37 : decode cX12_driesIn 37 = .ok (.iconst 4, 1) := by decide +kernel
theorem dX12_driesIn_38 : decode cX12_driesIn 38 = .ok (.if_icmp .ne 21, 3) := by decide +kernel
theorem dX12_driesIn_41 : decode cX12_driesIn 41 = .ok (.aload_n 0, 1) := by decide +kernel
theorem dX12_driesIn_42 : decode cX12_driesIn 42 = .ok (.bipush 50, 2) := by decide +kernel
theorem dX12_driesIn_44 : decode cX12_driesIn 44 = .ok (.invokevirtual 247, 3) := by decide +kernel
theorem dX12_driesIn_47 : decode cX12_driesIn 47 = .ok (.aload_n 0, 1) := by decide +kernel
theorem dX12_driesIn_48 : decode cX12_driesIn 48 = .ok (.iconst 1, 1) := by decide +kernel
theorem dX12_driesIn_49 : decode cX12_driesIn 49 = .ok (.iload_n 2, 1) := by decide +kernel
theorem dX12_driesIn_50 : decode cX12_driesIn 50 = .ok (.invokevirtual 260, 3) := by decide +kernel
theorem dX12_driesIn_53 : decode cX12_driesIn 53 = .ok (.aload_n 0, 1) := by decide +kernel
theorem dX12_driesIn_54 : decode cX12_driesIn 54 = .ok (.getfield 251, 3) := by decide +kernel
theorem dX12_driesIn_57 : decode cX12_driesIn 57 = .ok (.ixor, 1) := by decide +kernel
theorem dX12_driesIn_58 : decode cX12_driesIn 58 = .ok (.ireturn, 1) := by decide +kernel
theorem dX12_driesIn_59 : decode cX12_driesIn 59 = .ok (.aload_n 0, 1) := by decide +kernel
theorem dX12_driesIn_60 : decode cX12_driesIn 60 = .ok (.iload_n 1, 1) := by decide +kernel
theorem dX12_driesIn_61 : decode cX12_driesIn 61 = .ok (.invokestatic 118, 3) := by decide +kernel
theorem dX12_driesIn_64 : decode cX12_driesIn 64 = .ok (.iload_n 2, 1) := by decide +kernel
theorem dX12_driesIn_65 : decode cX12_driesIn 65 = .ok (.invokevirtual 260, 3) := by decide +kernel
theorem dX12_driesIn_68 : decode cX12_driesIn 68 = .ok (.ireturn, 1) := by decide +kernel
theorem dX12_rollsIn_0 : decode cX12_rollsIn 0 = .ok (.iload_n 1, 1) := by decide +kernel
theorem dX12_rollsIn_1 : decode cX12_rollsIn 1 = .ok (.ifCond .ne 21, 3) := by decide +kernel
theorem dX12_rollsIn_4 : decode cX12_rollsIn 4 = .ok (.aload_n 0, 1) := by decide +kernel
theorem dX12_rollsIn_5 : decode cX12_rollsIn 5 = .ok (.bipush 11, 2) := by decide +kernel
theorem dX12_rollsIn_7 : decode cX12_rollsIn 7 = .ok (.invokevirtual 247, 3) := by decide +kernel
theorem dX12_rollsIn_10 : decode cX12_rollsIn 10 = .ok (.aload_n 0, 1) := by decide +kernel
theorem dX12_rollsIn_11 : decode cX12_rollsIn 11 = .ok (.aload_n 0, 1) := by decide +kernel
theorem dX12_rollsIn_12 : decode cX12_rollsIn 12 = .ok (.getfield 263, 3) := by decide +kernel
theorem dX12_rollsIn_15 : decode cX12_rollsIn 15 = .ok (.iload_n 2, 1) := by decide +kernel
theorem dX12_rollsIn_16 : decode cX12_rollsIn 16 = .ok (.invokevirtual 254, 3) := by decide +kernel
theorem dX12_rollsIn_19 : decode cX12_rollsIn 19 = .ok (.iconst 2, 1) := by decide +kernel
theorem dX12_rollsIn_20 : decode cX12_rollsIn 20 = .ok (.imul, 1) := by decide +kernel
theorem dX12_rollsIn_21 : decode cX12_rollsIn 21 = .ok (.ireturn, 1) := by decide +kernel
theorem dX12_rollsIn_22 : decode cX12_rollsIn 22 = .ok (.iload_n 1, 1) := by decide +kernel
theorem dX12_rollsIn_23 : decode cX12_rollsIn 23 = .ok (.iconst 2, 1) := by decide +kernel
theorem dX12_rollsIn_24 : decode cX12_rollsIn 24 = .ok (.if_icmp .ne 28, 3) := by decide +kernel
theorem dX12_rollsIn_27 : decode cX12_rollsIn 27 = .ok (.aload_n 0, 1) := by decide +kernel
theorem dX12_rollsIn_28 : decode cX12_rollsIn 28 = .ok (.bipush 30, 2) := by decide +kernel
theorem dX12_rollsIn_30 : decode cX12_rollsIn 30 = .ok (.invokevirtual 247, 3) := by decide +kernel
theorem dX12_rollsIn_33 : decode cX12_rollsIn 33 = .ok (.aload_n 0, 1) := by decide +kernel
theorem dX12_rollsIn_34 : decode cX12_rollsIn 34 = .ok (.iconst 0, 1) := by decide +kernel
theorem dX12_rollsIn_35 : decode cX12_rollsIn 35 = .ok (.iload_n 2, 1) := by decide +kernel
theorem dX12_rollsIn_36 : decode cX12_rollsIn 36 = .ok (.invokevirtual 266, 3) := by decide +kernel
theorem dX12_rollsIn_39 : decode cX12_rollsIn 39 = .ok (.istore_n 3, 1) := by decide +kernel
theorem dX12_rollsIn_40 : decode cX12_rollsIn 40 = .ok (.iload_n 3, 1) := by decide +kernel
theorem dX12_rollsIn_41 : decode cX12_rollsIn 41 = .ok (.aload_n 0, 1) := by decide +kernel
theorem dX12_rollsIn_42 : decode cX12_rollsIn 42 = .ok (.aload_n 0, 1) := by decide +kernel
theorem dX12_rollsIn_43 : decode cX12_rollsIn 43 = .ok (.getfield 263, 3) := by decide +kernel
theorem dX12_rollsIn_46 : decode cX12_rollsIn 46 = .ok (.iconst 1, 1) := by decide +kernel
theorem dX12_rollsIn_47 : decode cX12_rollsIn 47 = .ok (.invokevirtual 260, 3) := by decide +kernel
theorem dX12_rollsIn_50 : decode cX12_rollsIn 50 = .ok (.isub, 1) := by decide +kernel
theorem dX12_rollsIn_51 : decode cX12_rollsIn 51 = .ok (.ireturn, 1) := by decide +kernel
theorem dX12_rollsIn_52 : decode cX12_rollsIn 52 = .ok (.iload_n 1, 1) := by decide +kernel
theorem dX12_rollsIn_53 : decode cX12_rollsIn 53 = .ok (.iconst 5, 1) := by decide +kernel
theorem dX12_rollsIn_54 : decode cX12_rollsIn 54 = .ok (.if_icmp .ne 18, 3) := by decide +kernel
theorem dX12_rollsIn_57 : decode cX12_rollsIn 57 = .ok (.aload_n 0, 1) := by decide +kernel
theorem dX12_rollsIn_58 : decode cX12_rollsIn 58 = .ok (.bipush 60, 2) := by decide +kernel
theorem dX12_rollsIn_60 : decode cX12_rollsIn 60 = .ok (.invokevirtual 247, 3) := by decide +kernel
theorem dX12_rollsIn_63 : decode cX12_rollsIn 63 = .ok (.aload_n 0, 1) := by decide +kernel
theorem dX12_rollsIn_64 : decode cX12_rollsIn 64 = .ok (.iconst 2, 1) := by decide +kernel
theorem dX12_rollsIn_65 : decode cX12_rollsIn 65 = .ok (.iload_n 2, 1) := by decide +kernel
theorem dX12_rollsIn_66 : decode cX12_rollsIn 66 = .ok (.iconst 1, 1) := by decide +kernel
theorem dX12_rollsIn_67 : decode cX12_rollsIn 67 = .ok (.iadd, 1) := by decide +kernel
theorem dX12_rollsIn_68 : decode cX12_rollsIn 68 = .ok (.invokevirtual 266, 3) := by decide +kernel
theorem dX12_rollsIn_71 : decode cX12_rollsIn 71 = .ok (.ireturn, 1) := by decide +kernel
theorem dX12_rollsIn_72 : decode cX12_rollsIn 72 = .ok (.aload_n 0, 1) := by decide +kernel
theorem dX12_rollsIn_73 : decode cX12_rollsIn 73 = .ok (.iload_n 1, 1) := by decide +kernel
theorem dX12_rollsIn_74 : decode cX12_rollsIn 74 = .ok (.invokestatic 118, 3) := by decide +kernel
theorem dX12_rollsIn_77 : decode cX12_rollsIn 77 = .ok (.iload_n 2, 1) := by decide +kernel
theorem dX12_rollsIn_78 : decode cX12_rollsIn 78 = .ok (.invokevirtual 266, 3) := by decide +kernel
theorem dX12_rollsIn_81 : decode cX12_rollsIn 81 = .ok (.ireturn, 1) := by decide +kernel
theorem dX12_tellsIn_0 : decode cX12_tellsIn 0 = .ok (.iload_n 1, 1) := by decide +kernel
theorem dX12_tellsIn_1 : decode cX12_tellsIn 1 = .ok (.ifCond .ne 31, 3) := by decide +kernel
theorem dX12_tellsIn_4 : decode cX12_tellsIn 4 = .ok (.aload_n 0, 1) := by decide +kernel
theorem dX12_tellsIn_5 : decode cX12_tellsIn 5 = .ok (.bipush 13, 2) := by decide +kernel
theorem dX12_tellsIn_7 : decode cX12_tellsIn 7 = .ok (.invokevirtual 247, 3) := by decide +kernel
theorem dX12_tellsIn_10 : decode cX12_tellsIn 10 = .ok (.aload_n 0, 1) := by decide +kernel
theorem dX12_tellsIn_11 : decode cX12_tellsIn 11 = .ok (.aload_n 0, 1) := by decide +kernel
theorem dX12_tellsIn_12 : decode cX12_tellsIn 12 = .ok (.getfield 263, 3) := by decide +kernel
theorem dX12_tellsIn_15 : decode cX12_tellsIn 15 = .ok (.iload_n 2, 1) := by decide +kernel
theorem dX12_tellsIn_16 : decode cX12_tellsIn 16 = .ok (.invokevirtual 266, 3) := by decide +kernel
theorem dX12_tellsIn_19 : decode cX12_tellsIn 19 = .ok (.istore_n 3, 1) := by decide +kernel
theorem dX12_tellsIn_20 : decode cX12_tellsIn 20 = .ok (.iload_n 3, 1) := by decide +kernel
theorem dX12_tellsIn_21 : decode cX12_tellsIn 21 = .ok (.aload_n 0, 1) := by decide +kernel
theorem dX12_tellsIn_22 : decode cX12_tellsIn 22 = .ok (.aload_n 0, 1) := by decide +kernel
theorem dX12_tellsIn_23 : decode cX12_tellsIn 23 = .ok (.getfield 263, 3) := by decide +kernel
theorem dX12_tellsIn_26 : decode cX12_tellsIn 26 = .ok (.iload_n 2, 1) := by decide +kernel
theorem dX12_tellsIn_27 : decode cX12_tellsIn 27 = .ok (.invokevirtual 260, 3) := by decide +kernel
theorem dX12_tellsIn_30 : decode cX12_tellsIn 30 = .ok (.ixor, 1) := by decide +kernel
theorem dX12_tellsIn_31 : decode cX12_tellsIn 31 = .ok (.ireturn, 1) := by decide +kernel
theorem dX12_tellsIn_32 : decode cX12_tellsIn 32 = .ok (.iload_n 1, 1) := by decide +kernel
theorem dX12_tellsIn_33 : decode cX12_tellsIn 33 = .ok (.iconst 4, 1) := by decide +kernel
theorem dX12_tellsIn_34 : decode cX12_tellsIn 34 = .ok (.if_icmp .ne 28, 3) := by decide +kernel
theorem dX12_tellsIn_37 : decode cX12_tellsIn 37 = .ok (.aload_n 0, 1) := by decide +kernel
theorem dX12_tellsIn_38 : decode cX12_tellsIn 38 = .ok (.bipush 51, 2) := by decide +kernel
theorem dX12_tellsIn_40 : decode cX12_tellsIn 40 = .ok (.invokevirtual 247, 3) := by decide +kernel
theorem dX12_tellsIn_43 : decode cX12_tellsIn 43 = .ok (.aload_n 0, 1) := by decide +kernel
theorem dX12_tellsIn_44 : decode cX12_tellsIn 44 = .ok (.aload_n 0, 1) := by decide +kernel
theorem dX12_tellsIn_45 : decode cX12_tellsIn 45 = .ok (.getfield 263, 3) := by decide +kernel
theorem dX12_tellsIn_48 : decode cX12_tellsIn 48 = .ok (.iload_n 2, 1) := by decide +kernel
theorem dX12_tellsIn_49 : decode cX12_tellsIn 49 = .ok (.invokevirtual 266, 3) := by decide +kernel
theorem dX12_tellsIn_52 : decode cX12_tellsIn 52 = .ok (.istore_n 3, 1) := by decide +kernel
theorem dX12_tellsIn_53 : decode cX12_tellsIn 53 = .ok (.iload_n 3, 1) := by decide +kernel
theorem dX12_tellsIn_54 : decode cX12_tellsIn 54 = .ok (.aload_n 0, 1) := by decide +kernel
theorem dX12_tellsIn_55 : decode cX12_tellsIn 55 = .ok (.iconst 1, 1) := by decide +kernel
theorem dX12_tellsIn_56 : decode cX12_tellsIn 56 = .ok (.iload_n 2, 1) := by decide +kernel
theorem dX12_tellsIn_57 : decode cX12_tellsIn 57 = .ok (.invokevirtual 269, 3) := by decide +kernel
theorem dX12_tellsIn_60 : decode cX12_tellsIn 60 = .ok (.isub, 1) := by decide +kernel
theorem dX12_tellsIn_61 : decode cX12_tellsIn 61 = .ok (.ireturn, 1) := by decide +kernel
theorem dX12_tellsIn_62 : decode cX12_tellsIn 62 = .ok (.iload_n 1, 1) := by decide +kernel
theorem dX12_tellsIn_63 : decode cX12_tellsIn 63 = .ok (.bipush 6, 2) := by decide +kernel
theorem dX12_tellsIn_65 : decode cX12_tellsIn 65 = .ok (.if_icmp .ne 28, 3) := by decide +kernel
theorem dX12_tellsIn_68 : decode cX12_tellsIn 68 = .ok (.aload_n 0, 1) := by decide +kernel
theorem dX12_tellsIn_69 : decode cX12_tellsIn 69 = .ok (.bipush 70, 2) := by decide +kernel
theorem dX12_tellsIn_71 : decode cX12_tellsIn 71 = .ok (.invokevirtual 247, 3) := by decide +kernel
theorem dX12_tellsIn_74 : decode cX12_tellsIn 74 = .ok (.aload_n 0, 1) := by decide +kernel
theorem dX12_tellsIn_75 : decode cX12_tellsIn 75 = .ok (.iconst 3, 1) := by decide +kernel
theorem dX12_tellsIn_76 : decode cX12_tellsIn 76 = .ok (.iload_n 2, 1) := by decide +kernel
theorem dX12_tellsIn_77 : decode cX12_tellsIn 77 = .ok (.invokevirtual 269, 3) := by decide +kernel
theorem dX12_tellsIn_80 : decode cX12_tellsIn 80 = .ok (.istore_n 3, 1) := by decide +kernel
theorem dX12_tellsIn_81 : decode cX12_tellsIn 81 = .ok (.iload_n 3, 1) := by decide +kernel
theorem dX12_tellsIn_82 : decode cX12_tellsIn 82 = .ok (.aload_n 0, 1) := by decide +kernel
theorem dX12_tellsIn_83 : decode cX12_tellsIn 83 = .ok (.aload_n 0, 1) := by decide +kernel
theorem dX12_tellsIn_84 : decode cX12_tellsIn 84 = .ok (.getfield 263, 3) := by decide +kernel
theorem dX12_tellsIn_87 : decode cX12_tellsIn 87 = .ok (.iconst 2, 1) := by decide +kernel
theorem dX12_tellsIn_88 : decode cX12_tellsIn 88 = .ok (.invokevirtual 254, 3) := by decide +kernel
theorem dX12_tellsIn_91 : decode cX12_tellsIn 91 = .ok (.isub, 1) := by decide +kernel
theorem dX12_tellsIn_92 : decode cX12_tellsIn 92 = .ok (.ireturn, 1) := by decide +kernel
theorem dX12_tellsIn_93 : decode cX12_tellsIn 93 = .ok (.aload_n 0, 1) := by decide +kernel
theorem dX12_tellsIn_94 : decode cX12_tellsIn 94 = .ok (.iload_n 1, 1) := by decide +kernel
theorem dX12_tellsIn_95 : decode cX12_tellsIn 95 = .ok (.invokestatic 118, 3) := by decide +kernel
theorem dX12_tellsIn_98 : decode cX12_tellsIn 98 = .ok (.iload_n 2, 1) := by decide +kernel
theorem dX12_tellsIn_99 : decode cX12_tellsIn 99 = .ok (.invokevirtual 269, 3) := by decide +kernel
theorem dX12_tellsIn_102 : decode cX12_tellsIn 102 = .ok (.ireturn, 1) := by decide +kernel
theorem dX12_voice_0 : decode cX12_voice 0 = .ok (.aload_n 0, 1) := by decide +kernel
theorem dX12_voice_1 : decode cX12_voice 1 = .ok (.iload_n 1, 1) := by decide +kernel
theorem dX12_voice_2 : decode cX12_voice 2 = .ok (.invokevirtual 98, 3) := by decide +kernel
theorem dX12_voice_5 : decode cX12_voice 5 = .ok (.ifCond .eq 12, 3) := by decide +kernel
theorem dX12_voice_8 : decode cX12_voice 8 = .ok (.iload_n 2, 1) := by decide +kernel
theorem dX12_voice_9 : decode cX12_voice 9 = .ok (.iconst 0, 1) := by decide +kernel
theorem dX12_voice_10 : decode cX12_voice 10 = .ok (.iconst 3, 1) := by decide +kernel
theorem dX12_voice_11 : decode cX12_voice 11 = .ok (.invokestatic 57, 3) := by decide +kernel
theorem dX12_voice_14 : decode cX12_voice 14 = .ok (.ifCond .ne 10, 3) := by decide +kernel
theorem dX12_voice_17 : decode cX12_voice 17 = .ok (.aload_n 0, 1) := by decide +kernel
theorem dX12_voice_18 : decode cX12_voice 18 = .ok (.ldc 61, 2) := by decide +kernel
theorem dX12_voice_20 : decode cX12_voice 20 = .ok (.invokevirtual 62, 3) := by decide +kernel
theorem dX12_voice_23 : decode cX12_voice 23 = .ok (.ireturn, 1) := by decide +kernel
theorem dX12_voice_24 : decode cX12_voice 24 = .ok (.aload_n 0, 1) := by decide +kernel
theorem dX12_voice_25 : decode cX12_voice 25 = .ok (.iconst 0, 1) := by decide +kernel
theorem dX12_voice_26 : decode cX12_voice 26 = .ok (.putfield 244, 3) := by decide +kernel
theorem dX12_voice_29 : decode cX12_voice 29 = .ok (.aload_n 0, 1) := by decide +kernel
theorem dX12_voice_30 : decode cX12_voice 30 = .ok (.aload_n 0, 1) := by decide +kernel
theorem dX12_voice_31 : decode cX12_voice 31 = .ok (.iload_n 1, 1) := by decide +kernel
theorem dX12_voice_32 : decode cX12_voice 32 = .ok (.invokevirtual 101, 3) := by decide +kernel
theorem dX12_voice_35 : decode cX12_voice 35 = .ok (.putfield 263, 3) := by decide +kernel
theorem dX12_voice_38 : decode cX12_voice 38 = .ok (.aload_n 0, 1) := by decide +kernel
theorem dX12_voice_39 : decode cX12_voice 39 = .ok (.iload_n 1, 1) := by decide +kernel
theorem dX12_voice_40 : decode cX12_voice 40 = .ok (.putfield 251, 3) := by decide +kernel
theorem dX12_voice_43 : decode cX12_voice 43 = .ok (.aload_n 0, 1) := by decide +kernel
theorem dX12_voice_44 : decode cX12_voice 44 = .ok (.aload_n 0, 1) := by decide +kernel
theorem dX12_voice_45 : decode cX12_voice 45 = .ok (.iload_n 1, 1) := by decide +kernel
theorem dX12_voice_46 : decode cX12_voice 46 = .ok (.invokevirtual 104, 3) := by decide +kernel
theorem dX12_voice_49 : decode cX12_voice 49 = .ok (.putfield 257, 3) := by decide +kernel
theorem dX12_voice_52 : decode cX12_voice 52 = .ok (.iload_n 2, 1) := by decide +kernel
theorem dX12_voice_53 : decode cX12_voice 53 = .ok (.tableswitch 57 0 2 #[27, 37, 47], 27) := by decide +kernel
theorem dX12_voice_80 : decode cX12_voice 80 = .ok (.aload_n 0, 1) := by decide +kernel
theorem dX12_voice_81 : decode cX12_voice 81 = .ok (.aload_n 0, 1) := by decide +kernel
theorem dX12_voice_82 : decode cX12_voice 82 = .ok (.getfield 263, 3) := by decide +kernel
theorem dX12_voice_85 : decode cX12_voice 85 = .ok (.iload_n 3, 1) := by decide +kernel
theorem dX12_voice_86 : decode cX12_voice 86 = .ok (.invokevirtual 254, 3) := by decide +kernel
theorem dX12_voice_89 : decode cX12_voice 89 = .ok (.ireturn, 1) := by decide +kernel
theorem dX12_voice_90 : decode cX12_voice 90 = .ok (.aload_n 0, 1) := by decide +kernel
theorem dX12_voice_91 : decode cX12_voice 91 = .ok (.aload_n 0, 1) := by decide +kernel
theorem dX12_voice_92 : decode cX12_voice 92 = .ok (.getfield 263, 3) := by decide +kernel
theorem dX12_voice_95 : decode cX12_voice 95 = .ok (.iload_n 3, 1) := by decide +kernel
theorem dX12_voice_96 : decode cX12_voice 96 = .ok (.invokevirtual 266, 3) := by decide +kernel
theorem dX12_voice_99 : decode cX12_voice 99 = .ok (.ireturn, 1) := by decide +kernel
theorem dX12_voice_100 : decode cX12_voice 100 = .ok (.aload_n 0, 1) := by decide +kernel
theorem dX12_voice_101 : decode cX12_voice 101 = .ok (.aload_n 0, 1) := by decide +kernel
theorem dX12_voice_102 : decode cX12_voice 102 = .ok (.getfield 263, 3) := by decide +kernel
theorem dX12_voice_105 : decode cX12_voice 105 = .ok (.iload_n 3, 1) := by decide +kernel
theorem dX12_voice_106 : decode cX12_voice 106 = .ok (.invokevirtual 260, 3) := by decide +kernel
theorem dX12_voice_109 : decode cX12_voice 109 = .ok (.ireturn, 1) := by decide +kernel
theorem dX12_voice_110 : decode cX12_voice 110 = .ok (.aload_n 0, 1) := by decide +kernel
theorem dX12_voice_111 : decode cX12_voice 111 = .ok (.aload_n 0, 1) := by decide +kernel
theorem dX12_voice_112 : decode cX12_voice 112 = .ok (.getfield 263, 3) := by decide +kernel
theorem dX12_voice_115 : decode cX12_voice 115 = .ok (.iload_n 3, 1) := by decide +kernel
theorem dX12_voice_116 : decode cX12_voice 116 = .ok (.invokevirtual 269, 3) := by decide +kernel
theorem dX12_voice_119 : decode cX12_voice 119 = .ok (.ireturn, 1) := by decide +kernel
theorem dX12_trace_0 : decode cX12_trace 0 = .ok (.iload_n 1, 1) := by decide +kernel
theorem dX12_trace_1 : decode cX12_trace 1 = .ok (.iconst 0, 1) := by decide +kernel
theorem dX12_trace_2 : decode cX12_trace 2 = .ok (.aload_n 0, 1) := by decide +kernel
theorem dX12_trace_3 : decode cX12_trace 3 = .ok (.getfield 244, 3) := by decide +kernel
theorem dX12_trace_6 : decode cX12_trace 6 = .ok (.iconst 1, 1) := by decide +kernel
theorem dX12_trace_7 : decode cX12_trace 7 = .ok (.isub, 1) := by decide +kernel
theorem dX12_trace_8 : decode cX12_trace 8 = .ok (.invokestatic 57, 3) := by decide +kernel
theorem dX12_trace_11 : decode cX12_trace 11 = .ok (.ifCond .eq 12, 3) := by decide +kernel
theorem dX12_trace_14 : decode cX12_trace 14 = .ok (.aload_n 0, 1) := by decide +kernel
theorem dX12_trace_15 : decode cX12_trace 15 = .ok (.getfield 49, 3) := by decide +kernel
theorem dX12_trace_18 : decode cX12_trace 18 = .ok (.iload_n 1, 1) := by decide +kernel
theorem dX12_trace_19 : decode cX12_trace 19 = .ok (.iaload, 1) := by decide +kernel
theorem dX12_trace_20 : decode cX12_trace 20 = .ok (.goto 9, 3) := by decide +kernel
theorem dX12_trace_23 : decode cX12_trace 23 = .ok (.aload_n 0, 1) := by decide +kernel
theorem dX12_trace_24 : decode cX12_trace 24 = .ok (.ldc 220, 2) := by decide +kernel
theorem dX12_trace_26 : decode cX12_trace 26 = .ok (.invokevirtual 62, 3) := by decide +kernel
theorem dX12_trace_29 : decode cX12_trace 29 = .ok (.ireturn, 1) := by decide +kernel
theorem dX12_narrow_0 : decode cX12_narrow 0 = .ok (.iload_n 0, 1) := by decide +kernel
theorem dX12_narrow_1 : decode cX12_narrow 1 = .ok (.bipush 8, 2) := by decide +kernel
theorem dX12_narrow_3 : decode cX12_narrow 3 = .ok (.if_icmp .ne 8, 3) := by decide +kernel
theorem dX12_narrow_6 : decode cX12_narrow 6 = .ok (.iload_n 1, 1) := by decide +kernel
theorem dX12_narrow_7 : decode cX12_narrow 7 = .ok (.i2b, 1) := by decide +kernel
theorem dX12_narrow_8 : decode cX12_narrow 8 = .ok (.goto 15, 3) := by decide +kernel
theorem dX12_narrow_11 : decode cX12_narrow 11 = .ok (.iload_n 0, 1) := by decide +kernel
theorem dX12_narrow_12 : decode cX12_narrow 12 = .ok (.bipush 16, 2) := by decide +kernel
theorem dX12_narrow_14 : decode cX12_narrow 14 = .ok (.if_icmp .ne 8, 3) := by decide +kernel
theorem dX12_narrow_17 : decode cX12_narrow 17 = .ok (.iload_n 1, 1) := by decide +kernel
theorem dX12_narrow_18 : decode cX12_narrow 18 = .ok (.i2s, 1) := by decide +kernel
theorem dX12_narrow_19 : decode cX12_narrow 19 = .ok (.goto 4, 3) := by decide +kernel
theorem dX12_narrow_22 : decode cX12_narrow 22 = .ok (.iload_n 1, 1) := by decide +kernel
theorem dX12_narrow_23 : decode cX12_narrow 23 = .ok (.ireturn, 1) := by decide +kernel
theorem dX12_sheet_0 : decode cX12_sheet 0 = .ok (.iload_n 1, 1) := by decide +kernel
theorem dX12_sheet_1 : decode cX12_sheet 1 = .ok (.invokestatic 217, 3) := by decide +kernel
theorem dX12_sheet_4 : decode cX12_sheet 4 = .ok (.ifCond .eq 25, 3) := by decide +kernel
theorem dX12_sheet_7 : decode cX12_sheet 7 = .ok (.iload_n 2, 1) := by decide +kernel
theorem dX12_sheet_8 : decode cX12_sheet 8 = .ok (.ifCond .eq 28, 3) := by decide +kernel
theorem dX12_sheet_11 : decode cX12_sheet 11 = .ok (.iload_n 2, 1) := by decide +kernel
theorem dX12_sheet_12 : decode cX12_sheet 12 = .ok (.bipush 8, 2) := by decide +kernel
theorem dX12_sheet_14 : decode cX12_sheet 14 = .ok (.if_icmp .eq 22, 3) := by decide +kernel
theorem dX12_sheet_17 : decode cX12_sheet 17 = .ok (.iload_n 2, 1) := by decide +kernel
theorem dX12_sheet_18 : decode cX12_sheet 18 = .ok (.bipush 16, 2) := by decide +kernel
theorem dX12_sheet_20 : decode cX12_sheet 20 = .ok (.if_icmp .eq 16, 3) := by decide +kernel
theorem dX12_sheet_23 : decode cX12_sheet 23 = .ok (.iload_n 2, 1) := by decide +kernel
theorem dX12_sheet_24 : decode cX12_sheet 24 = .ok (.bipush 32, 2) := by decide +kernel
theorem dX12_sheet_26 : decode cX12_sheet 26 = .ok (.if_icmp .eq 10, 3) := by decide +kernel
theorem dX12_sheet_29 : decode cX12_sheet 29 = .ok (.aload_n 0, 1) := by decide +kernel
theorem dX12_sheet_30 : decode cX12_sheet 30 = .ok (.ldc 61, 2) := by decide +kernel
theorem dX12_sheet_32 : decode cX12_sheet 32 = .ok (.invokevirtual 62, 3) := by decide +kernel
theorem dX12_sheet_35 : decode cX12_sheet 35 = .ok (.ireturn, 1) := by decide +kernel
theorem dX12_sheet_36 : decode cX12_sheet 36 = .ok (.iload_n 2, 1) := by decide +kernel
theorem dX12_sheet_37 : decode cX12_sheet 37 = .ok (.ifCond .eq 14, 3) := by decide +kernel
theorem dX12_sheet_40 : decode cX12_sheet 40 = .ok (.iload_n 3, 1) := by decide +kernel
theorem dX12_sheet_41 : decode cX12_sheet 41 = .ok (.ifCond .ge 10, 3) := by decide +kernel
theorem dX12_sheet_44 : decode cX12_sheet 44 = .ok (.aload_n 0, 1) := by decide +kernel
theorem dX12_sheet_45 : decode cX12_sheet 45 = .ok (.ldc 202, 2) := by decide +kernel
theorem dX12_sheet_47 : decode cX12_sheet 47 = .ok (.invokevirtual 62, 3) := by decide +kernel
theorem dX12_sheet_50 : decode cX12_sheet 50 = .ok (.ireturn, 1) := by decide +kernel
theorem dX12_sheet_51 : decode cX12_sheet 51 = .ok (.iload_n 2, 1) := by decide +kernel
theorem dX12_sheet_52 : decode cX12_sheet 52 = .ok (.ifCond .eq 16, 3) := by decide +kernel
theorem dX12_sheet_55 : decode cX12_sheet 55 = .ok (.iload_n 3, 1) := by decide +kernel
theorem dX12_sheet_56 : decode cX12_sheet 56 = .ok (.bipush 40, 2) := by decide +kernel
theorem dX12_sheet_58 : decode cX12_sheet 58 = .ok (.if_icmp .le 10, 3) := by decide +kernel
theorem dX12_sheet_61 : decode cX12_sheet 61 = .ok (.aload_n 0, 1) := by decide +kernel
theorem dX12_sheet_62 : decode cX12_sheet 62 = .ok (.ldc 61, 2) := by decide +kernel
theorem dX12_sheet_64 : decode cX12_sheet 64 = .ok (.invokevirtual 62, 3) := by decide +kernel
theorem dX12_sheet_67 : decode cX12_sheet 67 = .ok (.ireturn, 1) := by decide +kernel
theorem dX12_sheet_68 : decode cX12_sheet 68 = .ok (.aload_n 0, 1) := by decide +kernel
theorem dX12_sheet_69 : decode cX12_sheet 69 = .ok (.getfield 31, 3) := by decide +kernel
theorem dX12_sheet_72 : decode cX12_sheet 72 = .ok (.iload_n 1, 1) := by decide +kernel
theorem dX12_sheet_73 : decode cX12_sheet 73 = .ok (.iload_n 2, 1) := by decide +kernel
theorem dX12_sheet_74 : decode cX12_sheet 74 = .ok (.iastore, 1) := by decide +kernel
theorem dX12_sheet_75 : decode cX12_sheet 75 = .ok (.aload_n 0, 1) := by decide +kernel
theorem dX12_sheet_76 : decode cX12_sheet 76 = .ok (.getfield 34, 3) := by decide +kernel
theorem dX12_sheet_79 : decode cX12_sheet 79 = .ok (.iload_n 1, 1) := by decide +kernel
theorem dX12_sheet_80 : decode cX12_sheet 80 = .ok (.iload_n 2, 1) := by decide +kernel
theorem dX12_sheet_81 : decode cX12_sheet 81 = .ok (.ifCond .ne 7, 3) := by decide +kernel
theorem dX12_sheet_84 : decode cX12_sheet 84 = .ok (.iconst 0, 1) := by decide +kernel
theorem dX12_sheet_85 : decode cX12_sheet 85 = .ok (.goto 4, 3) := by decide +kernel
theorem dX12_sheet_88 : decode cX12_sheet 88 = .ok (.iload_n 3, 1) := by decide +kernel
theorem dX12_sheet_89 : decode cX12_sheet 89 = .ok (.iastore, 1) := by decide +kernel
theorem dX12_sheet_90 : decode cX12_sheet 90 = .ok (.iconst 0, 1) := by decide +kernel
theorem dX12_sheet_91 : decode cX12_sheet 91 = .ok (.istore 4, 2) := by decide +kernel
theorem dX12_sheet_93 : decode cX12_sheet 93 = .ok (.iload 4, 2) := by decide +kernel
theorem dX12_sheet_95 : decode cX12_sheet 95 = .ok (.bipush 40, 2) := by decide +kernel
theorem dX12_sheet_97 : decode cX12_sheet 97 = .ok (.if_icmp .ge 22, 3) := by decide +kernel
theorem dX12_sheet_100 : decode cX12_sheet 100 = .ok (.aload_n 0, 1) := by decide +kernel
theorem dX12_sheet_101 : decode cX12_sheet 101 = .ok (.getfield 37, 3) := by decide +kernel
theorem dX12_sheet_104 : decode cX12_sheet 104 = .ok (.bipush 40, 2) := by decide +kernel
theorem dX12_sheet_106 : decode cX12_sheet 106 = .ok (.iload_n 1, 1) := by decide +kernel
theorem dX12_sheet_107 : decode cX12_sheet 107 = .ok (.imul, 1) := by decide +kernel
theorem dX12_sheet_108 : decode cX12_sheet 108 = .ok (.iload 4, 2) := by decide +kernel
theorem dX12_sheet_110 : decode cX12_sheet 110 = .ok (.iadd, 1) := by decide +kernel
theorem dX12_sheet_111 : decode cX12_sheet 111 = .ok (.iconst 0, 1) := by decide +kernel
theorem dX12_sheet_112 : decode cX12_sheet 112 = .ok (.iastore, 1) := by decide +kernel
theorem dX12_sheet_113 : decode cX12_sheet 113 = .ok (.iinc 4 1, 3) := by decide +kernel
theorem dX12_sheet_116 : decode cX12_sheet 116 = .ok (.goto (-23), 3) := by decide +kernel
theorem dX12_sheet_119 : decode cX12_sheet 119 = .ok (.iconst 1, 1) := by decide +kernel
theorem dX12_sheet_120 : decode cX12_sheet 120 = .ok (.ireturn, 1) := by decide +kernel
theorem dX12_put_0 : decode cX12_put 0 = .ok (.iload_n 1, 1) := by decide +kernel
theorem dX12_put_1 : decode cX12_put 1 = .ok (.invokestatic 217, 3) := by decide +kernel
theorem dX12_put_4 : decode cX12_put 4 = .ok (.ifCond .ne 10, 3) := by decide +kernel
theorem dX12_put_7 : decode cX12_put 7 = .ok (.aload_n 0, 1) := by decide +kernel
theorem dX12_put_8 : decode cX12_put 8 = .ok (.ldc 61, 2) := by decide +kernel
theorem dX12_put_10 : decode cX12_put 10 = .ok (.invokevirtual 62, 3) := by decide +kernel
theorem dX12_put_13 : decode cX12_put 13 = .ok (.ireturn, 1) := by decide +kernel
theorem dX12_put_14 : decode cX12_put 14 = .ok (.aload_n 0, 1) := by decide +kernel
theorem dX12_put_15 : decode cX12_put 15 = .ok (.getfield 31, 3) := by decide +kernel
theorem dX12_put_18 : decode cX12_put 18 = .ok (.iload_n 1, 1) := by decide +kernel
theorem dX12_put_19 : decode cX12_put 19 = .ok (.iaload, 1) := by decide +kernel
theorem dX12_put_20 : decode cX12_put 20 = .ok (.ifCond .ne 10, 3) := by decide +kernel
theorem dX12_put_23 : decode cX12_put 23 = .ok (.aload_n 0, 1) := by decide +kernel
theorem dX12_put_24 : decode cX12_put 24 = .ok (.ldc 220, 2) := by decide +kernel
theorem dX12_put_26 : decode cX12_put 26 = .ok (.invokevirtual 62, 3) := by decide +kernel
theorem dX12_put_29 : decode cX12_put 29 = .ok (.ireturn, 1) := by decide +kernel
theorem dX12_put_30 : decode cX12_put 30 = .ok (.iload_n 2, 1) := by decide +kernel
theorem dX12_put_31 : decode cX12_put 31 = .ok (.iconst 0, 1) := by decide +kernel
theorem dX12_put_32 : decode cX12_put 32 = .ok (.aload_n 0, 1) := by decide +kernel
theorem dX12_put_33 : decode cX12_put 33 = .ok (.getfield 34, 3) := by decide +kernel
theorem dX12_put_36 : decode cX12_put 36 = .ok (.iload_n 1, 1) := by decide +kernel
theorem dX12_put_37 : decode cX12_put 37 = .ok (.iaload, 1) := by decide +kernel
theorem dX12_put_38 : decode cX12_put 38 = .ok (.iconst 1, 1) := by decide +kernel
theorem dX12_put_39 : decode cX12_put 39 = .ok (.isub, 1) := by decide +kernel
theorem dX12_put_40 : decode cX12_put 40 = .ok (.invokestatic 57, 3) := by decide +kernel
theorem dX12_put_43 : decode cX12_put 43 = .ok (.ifCond .ne 10, 3) := by decide +kernel
theorem dX12_put_46 : decode cX12_put 46 = .ok (.aload_n 0, 1) := by decide +kernel
theorem dX12_put_47 : decode cX12_put 47 = .ok (.ldc 61, 2) := by decide +kernel
theorem dX12_put_49 : decode cX12_put 49 = .ok (.invokevirtual 62, 3) := by decide +kernel
theorem dX12_put_52 : decode cX12_put 52 = .ok (.ireturn, 1) := by decide +kernel
theorem dX12_put_53 : decode cX12_put 53 = .ok (.aload_n 0, 1) := by decide +kernel
theorem dX12_put_54 : decode cX12_put 54 = .ok (.getfield 37, 3) := by decide +kernel
theorem dX12_put_57 : decode cX12_put 57 = .ok (.bipush 40, 2) := by decide +kernel
theorem dX12_put_59 : decode cX12_put 59 = .ok (.iload_n 1, 1) := by decide +kernel
theorem dX12_put_60 : decode cX12_put 60 = .ok (.imul, 1) := by decide +kernel
theorem dX12_put_61 : decode cX12_put 61 = .ok (.iload_n 2, 1) := by decide +kernel
theorem dX12_put_62 : decode cX12_put 62 = .ok (.iadd, 1) := by decide +kernel
theorem dX12_put_63 : decode cX12_put 63 = .ok (.aload_n 0, 1) := by decide +kernel
theorem dX12_put_64 : decode cX12_put 64 = .ok (.getfield 31, 3) := by decide +kernel
theorem dX12_put_67 : decode cX12_put 67 = .ok (.iload_n 1, 1) := by decide +kernel
theorem dX12_put_68 : decode cX12_put 68 = .ok (.iaload, 1) := by decide +kernel
theorem dX12_put_69 : decode cX12_put 69 = .ok (.iload_n 3, 1) := by decide +kernel
theorem dX12_put_70 : decode cX12_put 70 = .ok (.invokestatic 272, 3) := by decide +kernel
theorem dX12_put_73 : decode cX12_put 73 = .ok (.iastore, 1) := by decide +kernel
theorem dX12_put_74 : decode cX12_put 74 = .ok (.iconst 1, 1) := by decide +kernel
theorem dX12_put_75 : decode cX12_put 75 = .ok (.ireturn, 1) := by decide +kernel
theorem dX12_move_0 : decode cX12_move 0 = .ok (.iload_n 1, 1) := by decide +kernel
theorem dX12_move_1 : decode cX12_move 1 = .ok (.invokestatic 217, 3) := by decide +kernel
theorem dX12_move_4 : decode cX12_move 4 = .ok (.ifCond .eq 10, 3) := by decide +kernel
theorem dX12_move_7 : decode cX12_move 7 = .ok (.iload_n 3, 1) := by decide +kernel
theorem dX12_move_8 : decode cX12_move 8 = .ok (.invokestatic 217, 3) := by decide +kernel
theorem dX12_move_11 : decode cX12_move 11 = .ok (.ifCond .ne 10, 3) := by decide +kernel
theorem dX12_move_14 : decode cX12_move 14 = .ok (.aload_n 0, 1) := by decide +kernel
theorem dX12_move_15 : decode cX12_move 15 = .ok (.ldc 61, 2) := by decide +kernel
theorem dX12_move_17 : decode cX12_move 17 = .ok (.invokevirtual 62, 3) := by decide +kernel
theorem dX12_move_20 : decode cX12_move 20 = .ok (.ireturn, 1) := by decide +kernel
theorem dX12_move_21 : decode cX12_move 21 = .ok (.aload_n 0, 1) := by decide +kernel
theorem dX12_move_22 : decode cX12_move 22 = .ok (.getfield 31, 3) := by decide +kernel
theorem dX12_move_25 : decode cX12_move 25 = .ok (.iload_n 1, 1) := by decide +kernel
theorem dX12_move_26 : decode cX12_move 26 = .ok (.iaload, 1) := by decide +kernel
theorem dX12_move_27 : decode cX12_move 27 = .ok (.ifCond .eq 12, 3) := by decide +kernel
theorem dX12_move_30 : decode cX12_move 30 = .ok (.aload_n 0, 1) := by decide +kernel
theorem dX12_move_31 : decode cX12_move 31 = .ok (.getfield 31, 3) := by decide +kernel
theorem dX12_move_34 : decode cX12_move 34 = .ok (.iload_n 3, 1) := by decide +kernel
theorem dX12_move_35 : decode cX12_move 35 = .ok (.iaload, 1) := by decide +kernel
theorem dX12_move_36 : decode cX12_move 36 = .ok (.ifCond .ne 10, 3) := by decide +kernel
theorem dX12_move_39 : decode cX12_move 39 = .ok (.aload_n 0, 1) := by decide +kernel
theorem dX12_move_40 : decode cX12_move 40 = .ok (.ldc 220, 2) := by decide +kernel
theorem dX12_move_42 : decode cX12_move 42 = .ok (.invokevirtual 62, 3) := by decide +kernel
theorem dX12_move_45 : decode cX12_move 45 = .ok (.ireturn, 1) := by decide +kernel
theorem dX12_move_46 : decode cX12_move 46 = .ok (.aload_n 0, 1) := by decide +kernel
theorem dX12_move_47 : decode cX12_move 47 = .ok (.getfield 31, 3) := by decide +kernel
theorem dX12_move_50 : decode cX12_move 50 = .ok (.iload_n 1, 1) := by decide +kernel
theorem dX12_move_51 : decode cX12_move 51 = .ok (.iaload, 1) := by decide +kernel
theorem dX12_move_52 : decode cX12_move 52 = .ok (.aload_n 0, 1) := by decide +kernel
theorem dX12_move_53 : decode cX12_move 53 = .ok (.getfield 31, 3) := by decide +kernel
theorem dX12_move_56 : decode cX12_move 56 = .ok (.iload_n 3, 1) := by decide +kernel
theorem dX12_move_57 : decode cX12_move 57 = .ok (.iaload, 1) := by decide +kernel
theorem dX12_move_58 : decode cX12_move 58 = .ok (.if_icmp .eq 10, 3) := by decide +kernel
theorem dX12_move_61 : decode cX12_move 61 = .ok (.aload_n 0, 1) := by decide +kernel
theorem dX12_move_62 : decode cX12_move 62 = .ok (.ldc 121, 2) := by decide +kernel
theorem dX12_move_64 : decode cX12_move 64 = .ok (.invokevirtual 62, 3) := by decide +kernel
theorem dX12_move_67 : decode cX12_move 67 = .ok (.ireturn, 1) := by decide +kernel
theorem dX12_move_68 : decode cX12_move 68 = .ok (.iload 5, 2) := by decide +kernel
theorem dX12_move_70 : decode cX12_move 70 = .ok (.ifCond .lt 39, 3) := by decide +kernel
theorem dX12_move_73 : decode cX12_move 73 = .ok (.iload_n 2, 1) := by decide +kernel
theorem dX12_move_74 : decode cX12_move 74 = .ok (.ifCond .lt 35, 3) := by decide +kernel
theorem dX12_move_77 : decode cX12_move 77 = .ok (.iload 4, 2) := by decide +kernel
theorem dX12_move_79 : decode cX12_move 79 = .ok (.ifCond .lt 30, 3) := by decide +kernel
theorem dX12_move_82 : decode cX12_move 82 = .ok (.iload_n 2, 1) := by decide +kernel
theorem dX12_move_83 : decode cX12_move 83 = .ok (.aload_n 0, 1) := by decide +kernel
theorem dX12_move_84 : decode cX12_move 84 = .ok (.getfield 34, 3) := by decide +kernel
theorem dX12_move_87 : decode cX12_move 87 = .ok (.iload_n 1, 1) := by decide +kernel
theorem dX12_move_88 : decode cX12_move 88 = .ok (.iaload, 1) := by decide +kernel
theorem dX12_move_89 : decode cX12_move 89 = .ok (.iload 5, 2) := by decide +kernel
theorem dX12_move_91 : decode cX12_move 91 = .ok (.isub, 1) := by decide +kernel
theorem dX12_move_92 : decode cX12_move 92 = .ok (.if_icmp .gt 17, 3) := by decide +kernel
theorem dX12_move_95 : decode cX12_move 95 = .ok (.iload 4, 2) := by decide +kernel
theorem dX12_move_97 : decode cX12_move 97 = .ok (.aload_n 0, 1) := by decide +kernel
theorem dX12_move_98 : decode cX12_move 98 = .ok (.getfield 34, 3) := by decide +kernel
theorem dX12_move_101 : decode cX12_move 101 = .ok (.iload_n 3, 1) := by decide +kernel
theorem dX12_move_102 : decode cX12_move 102 = .ok (.iaload, 1) := by decide +kernel
theorem dX12_move_103 : decode cX12_move 103 = .ok (.iload 5, 2) := by decide +kernel
theorem dX12_move_105 : decode cX12_move 105 = .ok (.isub, 1) := by decide +kernel
theorem dX12_move_106 : decode cX12_move 106 = .ok (.if_icmp .le 10, 3) := by decide +kernel
theorem dX12_move_109 : decode cX12_move 109 = .ok (.aload_n 0, 1) := by decide +kernel
theorem dX12_move_110 : decode cX12_move 110 = .ok (.ldc 61, 2) := by decide +kernel
theorem dX12_move_112 : decode cX12_move 112 = .ok (.invokevirtual 62, 3) := by decide +kernel
theorem dX12_move_115 : decode cX12_move 115 = .ok (.ireturn, 1) := by decide +kernel
theorem dX12_move_116 : decode cX12_move 116 = .ok (.iconst 0, 1) := by decide +kernel
theorem dX12_move_117 : decode cX12_move 117 = .ok (.istore 6, 2) := by decide +kernel
theorem dX12_move_119 : decode cX12_move 119 = .ok (.iload 6, 2) := by decide +kernel
theorem dX12_move_121 : decode cX12_move 121 = .ok (.iload 5, 2) := by decide +kernel
theorem dX12_move_123 : decode cX12_move 123 = .ok (.if_icmp .ge 30, 3) := by decide +kernel
theorem dX12_move_126 : decode cX12_move 126 = .ok (.aload_n 0, 1) := by decide +kernel
theorem dX12_move_127 : decode cX12_move 127 = .ok (.getfield 40, 3) := by decide +kernel
theorem dX12_move_130 : decode cX12_move 130 = .ok (.iload 6, 2) := by decide +kernel
theorem dX12_move_132 : decode cX12_move 132 = .ok (.aload_n 0, 1) := by decide +kernel
theorem dX12_move_133 : decode cX12_move 133 = .ok (.getfield 37, 3) := by decide +kernel
theorem dX12_move_136 : decode cX12_move 136 = .ok (.bipush 40, 2) := by decide +kernel
theorem dX12_move_138 : decode cX12_move 138 = .ok (.iload_n 1, 1) := by decide +kernel
theorem dX12_move_139 : decode cX12_move 139 = .ok (.imul, 1) := by decide +kernel
theorem dX12_move_140 : decode cX12_move 140 = .ok (.iload_n 2, 1) := by decide +kernel
theorem dX12_move_141 : decode cX12_move 141 = .ok (.iadd, 1) := by decide +kernel
theorem dX12_move_142 : decode cX12_move 142 = .ok (.iload 6, 2) := by decide +kernel
theorem dX12_move_144 : decode cX12_move 144 = .ok (.iadd, 1) := by decide +kernel
theorem dX12_move_145 : decode cX12_move 145 = .ok (.iaload, 1) := by decide +kernel
theorem dX12_move_146 : decode cX12_move 146 = .ok (.iastore, 1) := by decide +kernel
theorem dX12_move_147 : decode cX12_move 147 = .ok (.iinc 6 1, 3) := by decide +kernel
theorem dX12_move_150 : decode cX12_move 150 = .ok (.goto (-31), 3) := by decide +kernel
theorem dX12_move_153 : decode cX12_move 153 = .ok (.iconst 0, 1) := by decide +kernel
theorem dX12_move_154 : decode cX12_move 154 = .ok (.istore 6, 2) := by decide +kernel
theorem dX12_move_156 : decode cX12_move 156 = .ok (.iload 6, 2) := by decide +kernel
theorem dX12_move_158 : decode cX12_move 158 = .ok (.iload 5, 2) := by decide +kernel
theorem dX12_move_160 : decode cX12_move 160 = .ok (.if_icmp .ge 31, 3) := by decide +kernel
theorem dX12_move_163 : decode cX12_move 163 = .ok (.aload_n 0, 1) := by decide +kernel
theorem dX12_move_164 : decode cX12_move 164 = .ok (.getfield 37, 3) := by decide +kernel
theorem dX12_move_167 : decode cX12_move 167 = .ok (.bipush 40, 2) := by decide +kernel
theorem dX12_move_169 : decode cX12_move 169 = .ok (.iload_n 3, 1) := by decide +kernel
theorem dX12_move_170 : decode cX12_move 170 = .ok (.imul, 1) := by decide +kernel
theorem dX12_move_171 : decode cX12_move 171 = .ok (.iload 4, 2) := by decide +kernel
theorem dX12_move_173 : decode cX12_move 173 = .ok (.iadd, 1) := by decide +kernel
theorem dX12_move_174 : decode cX12_move 174 = .ok (.iload 6, 2) := by decide +kernel
theorem dX12_move_176 : decode cX12_move 176 = .ok (.iadd, 1) := by decide +kernel
theorem dX12_move_177 : decode cX12_move 177 = .ok (.aload_n 0, 1) := by decide +kernel
theorem dX12_move_178 : decode cX12_move 178 = .ok (.getfield 40, 3) := by decide +kernel
theorem dX12_move_181 : decode cX12_move 181 = .ok (.iload 6, 2) := by decide +kernel
theorem dX12_move_183 : decode cX12_move 183 = .ok (.iaload, 1) := by decide +kernel
theorem dX12_move_184 : decode cX12_move 184 = .ok (.iastore, 1) := by decide +kernel
theorem dX12_move_185 : decode cX12_move 185 = .ok (.iinc 6 1, 3) := by decide +kernel
theorem dX12_move_188 : decode cX12_move 188 = .ok (.goto (-32), 3) := by decide +kernel
theorem dX12_move_191 : decode cX12_move 191 = .ok (.iload 5, 2) := by decide +kernel
theorem dX12_move_193 : decode cX12_move 193 = .ok (.ireturn, 1) := by decide +kernel
theorem dX12_whites_0 : decode cX12_whites 0 = .ok (.iload_n 1, 1) := by decide +kernel
theorem dX12_whites_1 : decode cX12_whites 1 = .ok (.invokestatic 217, 3) := by decide +kernel
theorem dX12_whites_4 : decode cX12_whites 4 = .ok (.ifCond .ne 10, 3) := by decide +kernel
theorem dX12_whites_7 : decode cX12_whites 7 = .ok (.aload_n 0, 1) := by decide +kernel
theorem dX12_whites_8 : decode cX12_whites 8 = .ok (.ldc 61, 2) := by decide +kernel
theorem dX12_whites_10 : decode cX12_whites 10 = .ok (.invokevirtual 62, 3) := by decide +kernel
theorem dX12_whites_13 : decode cX12_whites 13 = .ok (.ireturn, 1) := by decide +kernel
theorem dX12_whites_14 : decode cX12_whites 14 = .ok (.aload_n 0, 1) := by decide +kernel
theorem dX12_whites_15 : decode cX12_whites 15 = .ok (.getfield 31, 3) := by decide +kernel
theorem dX12_whites_18 : decode cX12_whites 18 = .ok (.iload_n 1, 1) := by decide +kernel
theorem dX12_whites_19 : decode cX12_whites 19 = .ok (.iaload, 1) := by decide +kernel
theorem dX12_whites_20 : decode cX12_whites 20 = .ok (.ifCond .ne 10, 3) := by decide +kernel
theorem dX12_whites_23 : decode cX12_whites 23 = .ok (.aload_n 0, 1) := by decide +kernel
theorem dX12_whites_24 : decode cX12_whites 24 = .ok (.ldc 220, 2) := by decide +kernel
theorem dX12_whites_26 : decode cX12_whites 26 = .ok (.invokevirtual 62, 3) := by decide +kernel
theorem dX12_whites_29 : decode cX12_whites 29 = .ok (.ireturn, 1) := by decide +kernel
theorem dX12_whites_30 : decode cX12_whites 30 = .ok (.iconst 0, 1) := by decide +kernel
theorem dX12_whites_31 : decode cX12_whites 31 = .ok (.istore_n 2, 1) := by decide +kernel
theorem dX12_whites_32 : decode cX12_whites 32 = .ok (.iload_n 2, 1) := by decide +kernel
theorem dX12_whites_33 : decode cX12_whites 33 = .ok (.aload_n 0, 1) := by decide +kernel
theorem dX12_whites_34 : decode cX12_whites 34 = .ok (.getfield 34, 3) := by decide +kernel
theorem dX12_whites_37 : decode cX12_whites 37 = .ok (.iload_n 1, 1) := by decide +kernel
theorem dX12_whites_38 : decode cX12_whites 38 = .ok (.iaload, 1) := by decide +kernel
theorem dX12_whites_39 : decode cX12_whites 39 = .ok (.if_icmp .ge 61, 3) := by decide +kernel
theorem dX12_whites_42 : decode cX12_whites 42 = .ok (.iload_n 2, 1) := by decide +kernel
theorem dX12_whites_43 : decode cX12_whites 43 = .ok (.aload_n 0, 1) := by decide +kernel
theorem dX12_whites_44 : decode cX12_whites 44 = .ok (.invokevirtual 66, 3) := by decide +kernel
theorem dX12_whites_47 : decode cX12_whites 47 = .ok (.if_icmp .ge 53, 3) := by decide +kernel
theorem dX12_whites_50 : decode cX12_whites 50 = .ok (.aload_n 0, 1) := by decide +kernel
theorem dX12_whites_51 : decode cX12_whites 51 = .ok (.getfield 37, 3) := by decide +kernel
theorem dX12_whites_54 : decode cX12_whites 54 = .ok (.bipush 40, 2) := by decide +kernel
theorem dX12_whites_56 : decode cX12_whites 56 = .ok (.iload_n 1, 1) := by decide +kernel
theorem dX12_whites_57 : decode cX12_whites 57 = .ok (.imul, 1) := by decide +kernel
theorem dX12_whites_58 : decode cX12_whites 58 = .ok (.iload_n 2, 1) := by decide +kernel
theorem dX12_whites_59 : decode cX12_whites 59 = .ok (.iadd, 1) := by decide +kernel
theorem dX12_whites_60 : decode cX12_whites 60 = .ok (.iaload, 1) := by decide +kernel
theorem dX12_whites_61 : decode cX12_whites 61 = .ok (.iconst 0, 1) := by decide +kernel
theorem dX12_whites_62 : decode cX12_whites 62 = .ok (.bipush 99, 2) := by decide +kernel
theorem dX12_whites_64 : decode cX12_whites 64 = .ok (.invokestatic 57, 3) := by decide +kernel
theorem dX12_whites_67 : decode cX12_whites 67 = .ok (.ifCond .eq 33, 3) := by decide +kernel
theorem dX12_whites_70 : decode cX12_whites 70 = .ok (.aload_n 0, 1) := by decide +kernel
theorem dX12_whites_71 : decode cX12_whites 71 = .ok (.getfield 7, 3) := by decide +kernel
theorem dX12_whites_74 : decode cX12_whites 74 = .ok (.bipush 25, 2) := by decide +kernel
theorem dX12_whites_76 : decode cX12_whites 76 = .ok (.iconst 2, 1) := by decide +kernel
theorem dX12_whites_77 : decode cX12_whites 77 = .ok (.iload_n 2, 1) := by decide +kernel
theorem dX12_whites_78 : decode cX12_whites 78 = .ok (.imul, 1) := by decide +kernel
theorem dX12_whites_79 : decode cX12_whites 79 = .ok (.iadd, 1) := by decide +kernel
theorem dX12_whites_80 : decode cX12_whites 80 = .ok (.iconst 1, 1) := by decide +kernel
theorem dX12_whites_81 : decode cX12_whites 81 = .ok (.iadd, 1) := by decide +kernel
theorem dX12_whites_82 : decode cX12_whites 82 = .ok (.aload_n 0, 1) := by decide +kernel
theorem dX12_whites_83 : decode cX12_whites 83 = .ok (.getfield 37, 3) := by decide +kernel
theorem dX12_whites_86 : decode cX12_whites 86 = .ok (.bipush 40, 2) := by decide +kernel
theorem dX12_whites_88 : decode cX12_whites 88 = .ok (.iload_n 1, 1) := by decide +kernel
theorem dX12_whites_89 : decode cX12_whites 89 = .ok (.imul, 1) := by decide +kernel
theorem dX12_whites_90 : decode cX12_whites 90 = .ok (.iload_n 2, 1) := by decide +kernel
theorem dX12_whites_91 : decode cX12_whites 91 = .ok (.iadd, 1) := by decide +kernel
theorem dX12_whites_92 : decode cX12_whites 92 = .ok (.iaload, 1) := by decide +kernel
theorem dX12_whites_93 : decode cX12_whites 93 = .ok (.iastore, 1) := by decide +kernel
theorem dX12_whites_94 : decode cX12_whites 94 = .ok (.iinc 2 1, 3) := by decide +kernel
theorem dX12_whites_97 : decode cX12_whites 97 = .ok (.goto (-65), 3) := by decide +kernel
theorem dX12_whites_100 : decode cX12_whites 100 = .ok (.iload_n 2, 1) := by decide +kernel
theorem dX12_whites_101 : decode cX12_whites 101 = .ok (.ireturn, 1) := by decide +kernel
theorem dX12_judge_0 : decode cX12_judge 0 = .ok (.iload_n 1, 1) := by decide +kernel
theorem dX12_judge_1 : decode cX12_judge 1 = .ok (.invokestatic 217, 3) := by decide +kernel
theorem dX12_judge_4 : decode cX12_judge 4 = .ok (.ifCond .ne 10, 3) := by decide +kernel
theorem dX12_judge_7 : decode cX12_judge 7 = .ok (.aload_n 0, 1) := by decide +kernel
theorem dX12_judge_8 : decode cX12_judge 8 = .ok (.ldc 61, 2) := by decide +kernel
theorem dX12_judge_10 : decode cX12_judge 10 = .ok (.invokevirtual 62, 3) := by decide +kernel
theorem dX12_judge_13 : decode cX12_judge 13 = .ok (.ireturn, 1) := by decide +kernel
theorem dX12_judge_14 : decode cX12_judge 14 = .ok (.aload_n 0, 1) := by decide +kernel
theorem dX12_judge_15 : decode cX12_judge 15 = .ok (.getfield 31, 3) := by decide +kernel
theorem dX12_judge_18 : decode cX12_judge 18 = .ok (.iload_n 1, 1) := by decide +kernel
theorem dX12_judge_19 : decode cX12_judge 19 = .ok (.iaload, 1) := by decide +kernel
theorem dX12_judge_20 : decode cX12_judge 20 = .ok (.ifCond .ne 10, 3) := by decide +kernel
theorem dX12_judge_23 : decode cX12_judge 23 = .ok (.aload_n 0, 1) := by decide +kernel
theorem dX12_judge_24 : decode cX12_judge 24 = .ok (.ldc 220, 2) := by decide +kernel
theorem dX12_judge_26 : decode cX12_judge 26 = .ok (.invokevirtual 62, 3) := by decide +kernel
theorem dX12_judge_29 : decode cX12_judge 29 = .ok (.ireturn, 1) := by decide +kernel
theorem dX12_judge_30 : decode cX12_judge 30 = .ok (.iconst 0, 1) := by decide +kernel
theorem dX12_judge_31 : decode cX12_judge 31 = .ok (.istore_n 2, 1) := by decide +kernel
theorem dX12_judge_32 : decode cX12_judge 32 = .ok (.iload_n 2, 1) := by decide +kernel
theorem dX12_judge_33 : decode cX12_judge 33 = .ok (.aload_n 0, 1) := by decide +kernel
theorem dX12_judge_34 : decode cX12_judge 34 = .ok (.getfield 34, 3) := by decide +kernel
theorem dX12_judge_37 : decode cX12_judge 37 = .ok (.iload_n 1, 1) := by decide +kernel
theorem dX12_judge_38 : decode cX12_judge 38 = .ok (.iaload, 1) := by decide +kernel
theorem dX12_judge_39 : decode cX12_judge 39 = .ok (.if_icmp .ge 36, 3) := by decide +kernel
theorem dX12_judge_42 : decode cX12_judge 42 = .ok (.iload_n 2, 1) := by decide +kernel
theorem dX12_judge_43 : decode cX12_judge 43 = .ok (.aload_n 0, 1) := by decide +kernel
theorem dX12_judge_44 : decode cX12_judge 44 = .ok (.invokevirtual 66, 3) := by decide +kernel
theorem dX12_judge_47 : decode cX12_judge 47 = .ok (.if_icmp .ge 28, 3) := by decide +kernel
theorem dX12_judge_50 : decode cX12_judge 50 = .ok (.aload_n 0, 1) := by decide +kernel
theorem dX12_judge_51 : decode cX12_judge 51 = .ok (.getfield 37, 3) := by decide +kernel
theorem dX12_judge_54 : decode cX12_judge 54 = .ok (.bipush 40, 2) := by decide +kernel
theorem dX12_judge_56 : decode cX12_judge 56 = .ok (.iload_n 1, 1) := by decide +kernel
theorem dX12_judge_57 : decode cX12_judge 57 = .ok (.imul, 1) := by decide +kernel
theorem dX12_judge_58 : decode cX12_judge 58 = .ok (.iload_n 2, 1) := by decide +kernel
theorem dX12_judge_59 : decode cX12_judge 59 = .ok (.iadd, 1) := by decide +kernel
theorem dX12_judge_60 : decode cX12_judge 60 = .ok (.iaload, 1) := by decide +kernel
theorem dX12_judge_61 : decode cX12_judge 61 = .ok (.aload_n 0, 1) := by decide +kernel
theorem dX12_judge_62 : decode cX12_judge 62 = .ok (.iload_n 2, 1) := by decide +kernel
theorem dX12_judge_63 : decode cX12_judge 63 = .ok (.invokevirtual 81, 3) := by decide +kernel
theorem dX12_judge_66 : decode cX12_judge 66 = .ok (.if_icmp .ne 9, 3) := by decide +kernel
theorem dX12_judge_69 : decode cX12_judge 69 = .ok (.iinc 2 1, 3) := by decide +kernel
theorem dX12_judge_72 : decode cX12_judge 72 = .ok (.goto (-40), 3) := by decide +kernel
theorem dX12_judge_75 : decode cX12_judge 75 = .ok (.iload_n 2, 1) := by decide +kernel
theorem dX12_judge_76 : decode cX12_judge 76 = .ok (.aload_n 0, 1) := by decide +kernel
theorem dX12_judge_77 : decode cX12_judge 77 = .ok (.getfield 34, 3) := by decide +kernel
theorem dX12_judge_80 : decode cX12_judge 80 = .ok (.iload_n 1, 1) := by decide +kernel
theorem dX12_judge_81 : decode cX12_judge 81 = .ok (.iaload, 1) := by decide +kernel
theorem dX12_judge_82 : decode cX12_judge 82 = .ok (.if_icmp .ne 15, 3) := by decide +kernel
theorem dX12_judge_85 : decode cX12_judge 85 = .ok (.iload_n 2, 1) := by decide +kernel
theorem dX12_judge_86 : decode cX12_judge 86 = .ok (.aload_n 0, 1) := by decide +kernel
theorem dX12_judge_87 : decode cX12_judge 87 = .ok (.invokevirtual 66, 3) := by decide +kernel
theorem dX12_judge_90 : decode cX12_judge 90 = .ok (.if_icmp .ne 7, 3) := by decide +kernel
theorem dX12_judge_93 : decode cX12_judge 93 = .ok (.iconst (-1), 1) := by decide +kernel
theorem dX12_judge_94 : decode cX12_judge 94 = .ok (.goto 4, 3) := by decide +kernel
theorem dX12_judge_97 : decode cX12_judge 97 = .ok (.iload_n 2, 1) := by decide +kernel
theorem dX12_judge_98 : decode cX12_judge 98 = .ok (.ireturn, 1) := by decide +kernel
theorem dX12_image_0 : decode cX12_image 0 = .ok (.aload_n 0, 1) := by decide +kernel
theorem dX12_image_1 : decode cX12_image 1 = .ok (.aload_n 0, 1) := by decide +kernel
theorem dX12_image_2 : decode cX12_image 2 = .ok (.getfield 7, 3) := by decide +kernel
theorem dX12_image_5 : decode cX12_image 5 = .ok (.aload_n 0, 1) := by decide +kernel
theorem dX12_image_6 : decode cX12_image 6 = .ok (.getfield 13, 3) := by decide +kernel
theorem dX12_image_9 : decode cX12_image 9 = .ok (.invokevirtual 188, 3) := by decide +kernel
theorem dX12_image_12 : decode cX12_image 12 = .ok (.aload_n 0, 1) := by decide +kernel
theorem dX12_image_13 : decode cX12_image 13 = .ok (.iconst 1, 1) := by decide +kernel
theorem dX12_image_14 : decode cX12_image 14 = .ok (.putfield 275, 3) := by decide +kernel
theorem dX12_image_17 : decode cX12_image 17 = .ok (.aload_n 0, 1) := by decide +kernel
theorem dX12_image_18 : decode cX12_image 18 = .ok (.dup, 1) := by decide +kernel
theorem dX12_image_19 : decode cX12_image 19 = .ok (.getfield 278, 3) := by decide +kernel
theorem dX12_image_22 : decode cX12_image 22 = .ok (.iconst 1, 1) := by decide +kernel
theorem dX12_image_23 : decode cX12_image 23 = .ok (.iadd, 1) := by decide +kernel
theorem dX12_image_24 : decode cX12_image 24 = .ok (.putfield 278, 3) := by decide +kernel
theorem dX12_image_27 : decode cX12_image 27 = .ok (.aload_n 0, 1) := by decide +kernel
theorem dX12_image_28 : decode cX12_image 28 = .ok (.getfield 278, 3) := by decide +kernel
theorem dX12_image_31 : decode cX12_image 31 = .ok (.ireturn, 1) := by decide +kernel
theorem dX12_restore_0 : decode cX12_restore 0 = .ok (.aload_n 0, 1) := by decide +kernel
theorem dX12_restore_1 : decode cX12_restore 1 = .ok (.getfield 275, 3) := by decide +kernel
theorem dX12_restore_4 : decode cX12_restore 4 = .ok (.ifCond .ne 10, 3) := by decide +kernel
theorem dX12_restore_7 : decode cX12_restore 7 = .ok (.aload_n 0, 1) := by decide +kernel
theorem dX12_restore_8 : decode cX12_restore 8 = .ok (.ldc 220, 2) := by decide +kernel
theorem dX12_restore_10 : decode cX12_restore 10 = .ok (.invokevirtual 62, 3) := by decide +kernel
theorem dX12_restore_13 : decode cX12_restore 13 = .ok (.ireturn, 1) := by decide +kernel
theorem dX12_restore_14 : decode cX12_restore 14 = .ok (.aload_n 0, 1) := by decide +kernel
theorem dX12_restore_15 : decode cX12_restore 15 = .ok (.aload_n 0, 1) := by decide +kernel
theorem dX12_restore_16 : decode cX12_restore 16 = .ok (.getfield 13, 3) := by decide +kernel
theorem dX12_restore_19 : decode cX12_restore 19 = .ok (.aload_n 0, 1) := by decide +kernel
theorem dX12_restore_20 : decode cX12_restore 20 = .ok (.getfield 7, 3) := by decide +kernel
theorem dX12_restore_23 : decode cX12_restore 23 = .ok (.invokevirtual 188, 3) := by decide +kernel
theorem dX12_restore_26 : decode cX12_restore 26 = .ok (.aload_n 0, 1) := by decide +kernel
theorem dX12_restore_27 : decode cX12_restore 27 = .ok (.getfield 7, 3) := by decide +kernel
theorem dX12_restore_30 : decode cX12_restore 30 = .ok (.iconst 2, 1) := by decide +kernel
theorem dX12_restore_31 : decode cX12_restore 31 = .ok (.iaload, 1) := by decide +kernel
theorem dX12_restore_32 : decode cX12_restore 32 = .ok (.ireturn, 1) := by decide +kernel
theorem dX12_tell_0 : decode cX12_tell 0 = .ok (.aload_n 0, 1) := by decide +kernel
theorem dX12_tell_1 : decode cX12_tell 1 = .ok (.getfield 7, 3) := by decide +kernel
theorem dX12_tell_4 : decode cX12_tell 4 = .ok (.bipush 10, 2) := by decide +kernel
theorem dX12_tell_6 : decode cX12_tell 6 = .ok (.iaload, 1) := by decide +kernel
theorem dX12_tell_7 : decode cX12_tell 7 = .ok (.bipush 20, 2) := by decide +kernel
theorem dX12_tell_9 : decode cX12_tell 9 = .ok (.if_icmp .ne 10, 3) := by decide +kernel
theorem dX12_tell_12 : decode cX12_tell 12 = .ok (.aload_n 0, 1) := by decide +kernel
theorem dX12_tell_13 : decode cX12_tell 13 = .ok (.ldc 97, 2) := by decide +kernel
theorem dX12_tell_15 : decode cX12_tell 15 = .ok (.invokevirtual 62, 3) := by decide +kernel
theorem dX12_tell_18 : decode cX12_tell 18 = .ok (.ireturn, 1) := by decide +kernel
theorem dX12_tell_19 : decode cX12_tell 19 = .ok (.aload_n 0, 1) := by decide +kernel
theorem dX12_tell_20 : decode cX12_tell 20 = .ok (.getfield 7, 3) := by decide +kernel
theorem dX12_tell_23 : decode cX12_tell 23 = .ok (.sipush 147, 3) := by decide +kernel
theorem dX12_tell_26 : decode cX12_tell 26 = .ok (.aload_n 0, 1) := by decide +kernel
theorem dX12_tell_27 : decode cX12_tell 27 = .ok (.getfield 7, 3) := by decide +kernel
theorem dX12_tell_30 : decode cX12_tell 30 = .ok (.bipush 10, 2) := by decide +kernel
theorem dX12_tell_32 : decode cX12_tell 32 = .ok (.iaload, 1) := by decide +kernel
theorem dX12_tell_33 : decode cX12_tell 33 = .ok (.iadd, 1) := by decide +kernel
theorem dX12_tell_34 : decode cX12_tell 34 = .ok (.iload_n 1, 1) := by decide +kernel
theorem dX12_tell_35 : decode cX12_tell 35 = .ok (.iastore, 1) := by decide +kernel
theorem dX12_tell_36 : decode cX12_tell 36 = .ok (.aload_n 0, 1) := by decide +kernel
theorem dX12_tell_37 : decode cX12_tell 37 = .ok (.getfield 7, 3) := by decide +kernel
theorem dX12_tell_40 : decode cX12_tell 40 = .ok (.bipush 10, 2) := by decide +kernel
theorem dX12_tell_42 : decode cX12_tell 42 = .ok (.dup2, 1) := by decide +kernel
theorem dX12_tell_43 : decode cX12_tell 43 = .ok (.iaload, 1) := by decide +kernel
theorem dX12_tell_44 : decode cX12_tell 44 = .ok (.iconst 1, 1) := by decide +kernel
theorem dX12_tell_45 : decode cX12_tell 45 = .ok (.iadd, 1) := by decide +kernel
theorem dX12_tell_46 : decode cX12_tell 46 = .ok (.iastore, 1) := by decide +kernel
theorem dX12_tell_47 : decode cX12_tell 47 = .ok (.aload_n 0, 1) := by decide +kernel
theorem dX12_tell_48 : decode cX12_tell 48 = .ok (.getfield 7, 3) := by decide +kernel
theorem dX12_tell_51 : decode cX12_tell 51 = .ok (.bipush 10, 2) := by decide +kernel
theorem dX12_tell_53 : decode cX12_tell 53 = .ok (.iaload, 1) := by decide +kernel
theorem dX12_tell_54 : decode cX12_tell 54 = .ok (.ireturn, 1) := by decide +kernel
theorem dX12_check_0 : decode cX12_check 0 = .ok (.aload_n 0, 1) := by decide +kernel
theorem dX12_check_1 : decode cX12_check 1 = .ok (.getfield 7, 3) := by decide +kernel
theorem dX12_check_4 : decode cX12_check 4 = .ok (.bipush 10, 2) := by decide +kernel
theorem dX12_check_6 : decode cX12_check 6 = .ok (.iaload, 1) := by decide +kernel
theorem dX12_check_7 : decode cX12_check 7 = .ok (.istore_n 1, 1) := by decide +kernel
theorem dX12_check_8 : decode cX12_check 8 = .ok (.aload_n 0, 1) := by decide +kernel
theorem dX12_check_9 : decode cX12_check 9 = .ok (.getfield 7, 3) := by decide +kernel
theorem dX12_check_12 : decode cX12_check 12 = .ok (.bipush 10, 2) := by decide +kernel
theorem dX12_check_14 : decode cX12_check 14 = .ok (.iconst 0, 1) := by decide +kernel
theorem dX12_check_15 : decode cX12_check 15 = .ok (.iastore, 1) := by decide +kernel
theorem dX12_check_16 : decode cX12_check 16 = .ok (.aload_n 0, 1) := by decide +kernel
theorem dX12_check_17 : decode cX12_check 17 = .ok (.aload_n 0, 1) := by decide +kernel
theorem dX12_check_18 : decode cX12_check 18 = .ok (.getfield 7, 3) := by decide +kernel
theorem dX12_check_21 : decode cX12_check 21 = .ok (.aload_n 0, 1) := by decide +kernel
theorem dX12_check_22 : decode cX12_check 22 = .ok (.getfield 16, 3) := by decide +kernel
theorem dX12_check_25 : decode cX12_check 25 = .ok (.invokevirtual 188, 3) := by decide +kernel
theorem dX12_check_28 : decode cX12_check 28 = .ok (.iconst 0, 1) := by decide +kernel
theorem dX12_check_29 : decode cX12_check 29 = .ok (.istore_n 2, 1) := by decide +kernel
theorem dX12_check_30 : decode cX12_check 30 = .ok (.iconst 1, 1) := by decide +kernel
theorem dX12_check_31 : decode cX12_check 31 = .ok (.istore_n 3, 1) := by decide +kernel
theorem dX12_check_32 : decode cX12_check 32 = .ok (.iload_n 2, 1) := by decide +kernel
theorem dX12_check_33 : decode cX12_check 33 = .ok (.iload_n 1, 1) := by decide +kernel
theorem dX12_check_34 : decode cX12_check 34 = .ok (.if_icmp .ge 79, 3) := by decide +kernel
theorem dX12_check_37 : decode cX12_check 37 = .ok (.iload_n 3, 1) := by decide +kernel
theorem dX12_check_38 : decode cX12_check 38 = .ok (.ifCond .eq 75, 3) := by decide +kernel
theorem dX12_check_41 : decode cX12_check 41 = .ok (.aload_n 0, 1) := by decide +kernel
theorem dX12_check_42 : decode cX12_check 42 = .ok (.getfield 7, 3) := by decide +kernel
theorem dX12_check_45 : decode cX12_check 45 = .ok (.bipush 8, 2) := by decide +kernel
theorem dX12_check_47 : decode cX12_check 47 = .ok (.iaload, 1) := by decide +kernel
theorem dX12_check_48 : decode cX12_check 48 = .ok (.ifCond .le 7, 3) := by decide +kernel
theorem dX12_check_51 : decode cX12_check 51 = .ok (.iconst 1, 1) := by decide +kernel
theorem dX12_check_52 : decode cX12_check 52 = .ok (.goto 4, 3) := by decide +kernel
theorem dX12_check_55 : decode cX12_check 55 = .ok (.iconst 0, 1) := by decide +kernel
theorem dX12_check_56 : decode cX12_check 56 = .ok (.istore_n 3, 1) := by decide +kernel
theorem dX12_check_57 : decode cX12_check 57 = .ok (.iload_n 3, 1) := by decide +kernel
theorem dX12_check_58 : decode cX12_check 58 = .ok (.ifCond .eq 40, 3) := by decide +kernel
theorem dX12_check_61 : decode cX12_check 61 = .ok (.aload_n 0, 1) := by decide +kernel
theorem dX12_check_62 : decode cX12_check 62 = .ok (.iconst 0, 1) := by decide +kernel
theorem dX12_check_63 : decode cX12_check 63 = .ok (.iload_n 2, 1) := by decide +kernel
theorem dX12_check_64 : decode cX12_check 64 = .ok (.aload_n 0, 1) := by decide +kernel
theorem dX12_check_65 : decode cX12_check 65 = .ok (.getfield 7, 3) := by decide +kernel
theorem dX12_check_68 : decode cX12_check 68 = .ok (.iconst 1, 1) := by decide +kernel
theorem dX12_check_69 : decode cX12_check 69 = .ok (.iaload, 1) := by decide +kernel
theorem dX12_check_70 : decode cX12_check 70 = .ok (.irem, 1) := by decide +kernel
theorem dX12_check_71 : decode cX12_check 71 = .ok (.iconst 0, 1) := by decide +kernel
theorem dX12_check_72 : decode cX12_check 72 = .ok (.invokevirtual 203, 3) := by decide +kernel
theorem dX12_check_75 : decode cX12_check 75 = .ok (.aload_n 0, 1) := by decide +kernel
theorem dX12_check_76 : decode cX12_check 76 = .ok (.invokevirtual 211, 3) := by decide +kernel
theorem dX12_check_79 : decode cX12_check 79 = .ok (.aload_n 0, 1) := by decide +kernel
theorem dX12_check_80 : decode cX12_check 80 = .ok (.getfield 16, 3) := by decide +kernel
theorem dX12_check_83 : decode cX12_check 83 = .ok (.sipush 147, 3) := by decide +kernel
theorem dX12_check_86 : decode cX12_check 86 = .ok (.iload_n 2, 1) := by decide +kernel
theorem dX12_check_87 : decode cX12_check 87 = .ok (.iadd, 1) := by decide +kernel
theorem dX12_check_88 : decode cX12_check 88 = .ok (.iaload, 1) := by decide +kernel
theorem dX12_check_89 : decode cX12_check 89 = .ok (.if_icmp .ne 7, 3) := by decide +kernel
theorem dX12_check_92 : decode cX12_check 92 = .ok (.iconst 1, 1) := by decide +kernel
theorem dX12_check_93 : decode cX12_check 93 = .ok (.goto 4, 3) := by decide +kernel
theorem dX12_check_96 : decode cX12_check 96 = .ok (.iconst 0, 1) := by decide +kernel
theorem dX12_check_97 : decode cX12_check 97 = .ok (.istore_n 3, 1) := by decide +kernel
theorem dX12_check_98 : decode cX12_check 98 = .ok (.iload_n 2, 1) := by decide +kernel
theorem dX12_check_99 : decode cX12_check 99 = .ok (.iload_n 3, 1) := by decide +kernel
theorem dX12_check_100 : decode cX12_check 100 = .ok (.ifCond .eq 7, 3) := by decide +kernel
theorem dX12_check_103 : decode cX12_check 103 = .ok (.iconst 1, 1) := by decide +kernel
theorem dX12_check_104 : decode cX12_check 104 = .ok (.goto 4, 3) := by decide +kernel
theorem dX12_check_107 : decode cX12_check 107 = .ok (.iconst 0, 1) := by decide +kernel
theorem dX12_check_108 : decode cX12_check 108 = .ok (.iadd, 1) := by decide +kernel
theorem dX12_check_109 : decode cX12_check 109 = .ok (.istore_n 2, 1) := by decide +kernel
theorem dX12_check_110 : decode cX12_check 110 = .ok (.goto (-78), 3) := by decide +kernel
theorem dX12_check_113 : decode cX12_check 113 = .ok (.aload_n 0, 1) := by decide +kernel
theorem dX12_check_114 : decode cX12_check 114 = .ok (.aload_n 0, 1) := by decide +kernel
theorem dX12_check_115 : decode cX12_check 115 = .ok (.getfield 16, 3) := by decide +kernel
theorem dX12_check_118 : decode cX12_check 118 = .ok (.aload_n 0, 1) := by decide +kernel
theorem dX12_check_119 : decode cX12_check 119 = .ok (.getfield 7, 3) := by decide +kernel
theorem dX12_check_122 : decode cX12_check 122 = .ok (.invokevirtual 188, 3) := by decide +kernel
theorem dX12_check_125 : decode cX12_check 125 = .ok (.iload_n 3, 1) := by decide +kernel
theorem dX12_check_126 : decode cX12_check 126 = .ok (.ifCond .eq 7, 3) := by decide +kernel
theorem dX12_check_129 : decode cX12_check 129 = .ok (.iconst 0, 1) := by decide +kernel
theorem dX12_check_130 : decode cX12_check 130 = .ok (.goto 6, 3) := by decide +kernel
theorem dX12_check_133 : decode cX12_check 133 = .ok (.iconst 1, 1) := by decide +kernel
theorem dX12_check_134 : decode cX12_check 134 = .ok (.iload_n 2, 1) := by decide +kernel
theorem dX12_check_135 : decode cX12_check 135 = .ok (.iadd, 1) := by decide +kernel
theorem dX12_check_136 : decode cX12_check 136 = .ok (.ireturn, 1) := by decide +kernel
theorem dX12_rolledMany_0 : decode cX12_rolledMany 0 = .ok (.iconst 0, 1) := by decide +kernel
theorem dX12_rolledMany_1 : decode cX12_rolledMany 1 = .ok (.istore_n 1, 1) := by decide +kernel
theorem dX12_rolledMany_2 : decode cX12_rolledMany 2 = .ok (.iconst 0, 1) := by decide +kernel
theorem dX12_rolledMany_3 : decode cX12_rolledMany 3 = .ok (.istore_n 2, 1) := by decide +kernel
theorem dX12_rolledMany_4 : decode cX12_rolledMany 4 = .ok (.iload_n 2, 1) := by decide +kernel
theorem dX12_rolledMany_5 : decode cX12_rolledMany 5 = .ok (.aload_n 0, 1) := by decide +kernel
theorem dX12_rolledMany_6 : decode cX12_rolledMany 6 = .ok (.invokevirtual 66, 3) := by decide +kernel
theorem dX12_rolledMany_9 : decode cX12_rolledMany 9 = .ok (.if_icmp .ge 25, 3) := by decide +kernel
theorem dX12_rolledMany_12 : decode cX12_rolledMany 12 = .ok (.iload_n 1, 1) := by decide +kernel
theorem dX12_rolledMany_13 : decode cX12_rolledMany 13 = .ok (.aload_n 0, 1) := by decide +kernel
theorem dX12_rolledMany_14 : decode cX12_rolledMany 14 = .ok (.iload_n 2, 1) := by decide +kernel
theorem dX12_rolledMany_15 : decode cX12_rolledMany 15 = .ok (.invokevirtual 81, 3) := by decide +kernel
theorem dX12_rolledMany_18 : decode cX12_rolledMany 18 = .ok (.ifCond .lt 7, 3) := by decide +kernel
theorem dX12_rolledMany_21 : decode cX12_rolledMany 21 = .ok (.iconst 1, 1) := by decide +kernel
theorem dX12_rolledMany_22 : decode cX12_rolledMany 22 = .ok (.goto 4, 3) := by decide +kernel
theorem dX12_rolledMany_25 : decode cX12_rolledMany 25 = .ok (.iconst 0, 1) := by decide +kernel
theorem dX12_rolledMany_26 : decode cX12_rolledMany 26 = .ok (.iadd, 1) := by decide +kernel
theorem dX12_rolledMany_27 : decode cX12_rolledMany 27 = .ok (.istore_n 1, 1) := by decide +kernel
theorem dX12_rolledMany_28 : decode cX12_rolledMany 28 = .ok (.iinc 2 1, 3) := by decide +kernel
theorem dX12_rolledMany_31 : decode cX12_rolledMany 31 = .ok (.goto (-27), 3) := by decide +kernel
theorem dX12_rolledMany_34 : decode cX12_rolledMany 34 = .ok (.iload_n 1, 1) := by decide +kernel
theorem dX12_rolledMany_35 : decode cX12_rolledMany 35 = .ok (.ireturn, 1) := by decide +kernel
theorem dX12_count_0 : decode cX12_count 0 = .ok (.iload_n 1, 1) := by decide +kernel
theorem dX12_count_1 : decode cX12_count 1 = .ok (.tableswitch 146 0 11 #[63, 68, 76, 83, 88, 95, 102, 110, 117, 125, 133, 138], 63) := by decide +kernel
theorem dX12_count_64 : decode cX12_count 64 = .ok (.aload_n 0, 1) := by decide +kernel
theorem dX12_count_65 : decode cX12_count 65 = .ok (.invokevirtual 66, 3) := by decide +kernel
theorem dX12_count_68 : decode cX12_count 68 = .ok (.ireturn, 1) := by decide +kernel
theorem dX12_count_69 : decode cX12_count 69 = .ok (.aload_n 0, 1) := by decide +kernel
theorem dX12_count_70 : decode cX12_count 70 = .ok (.getfield 7, 3) := by decide +kernel
theorem dX12_count_73 : decode cX12_count 73 = .ok (.bipush 8, 2) := by decide +kernel
theorem dX12_count_75 : decode cX12_count 75 = .ok (.iaload, 1) := by decide +kernel
theorem dX12_count_76 : decode cX12_count 76 = .ok (.ireturn, 1) := by decide +kernel
theorem dX12_count_77 : decode cX12_count 77 = .ok (.aload_n 0, 1) := by decide +kernel
theorem dX12_count_78 : decode cX12_count 78 = .ok (.getfield 7, 3) := by decide +kernel
theorem dX12_count_81 : decode cX12_count 81 = .ok (.iconst 2, 1) := by decide +kernel
theorem dX12_count_82 : decode cX12_count 82 = .ok (.iaload, 1) := by decide +kernel
theorem dX12_count_83 : decode cX12_count 83 = .ok (.ireturn, 1) := by decide +kernel
theorem dX12_count_84 : decode cX12_count 84 = .ok (.aload_n 0, 1) := by decide +kernel
theorem dX12_count_85 : decode cX12_count 85 = .ok (.invokevirtual 281, 3) := by decide +kernel
theorem dX12_count_88 : decode cX12_count 88 = .ok (.ireturn, 1) := by decide +kernel
theorem dX12_count_89 : decode cX12_count 89 = .ok (.aload_n 0, 1) := by decide +kernel
theorem dX12_count_90 : decode cX12_count 90 = .ok (.getfield 7, 3) := by decide +kernel
theorem dX12_count_93 : decode cX12_count 93 = .ok (.iconst 4, 1) := by decide +kernel
theorem dX12_count_94 : decode cX12_count 94 = .ok (.iaload, 1) := by decide +kernel
theorem dX12_count_95 : decode cX12_count 95 = .ok (.ireturn, 1) := by decide +kernel
theorem dX12_count_96 : decode cX12_count 96 = .ok (.aload_n 0, 1) := by decide +kernel
theorem dX12_count_97 : decode cX12_count 97 = .ok (.getfield 7, 3) := by decide +kernel
theorem dX12_count_100 : decode cX12_count 100 = .ok (.iconst 5, 1) := by decide +kernel
theorem dX12_count_101 : decode cX12_count 101 = .ok (.iaload, 1) := by decide +kernel
theorem dX12_count_102 : decode cX12_count 102 = .ok (.ireturn, 1) := by decide +kernel
theorem dX12_count_103 : decode cX12_count 103 = .ok (.aload_n 0, 1) := by decide +kernel
theorem dX12_count_104 : decode cX12_count 104 = .ok (.getfield 7, 3) := by decide +kernel
theorem dX12_count_107 : decode cX12_count 107 = .ok (.bipush 6, 2) := by decide +kernel
theorem dX12_count_109 : decode cX12_count 109 = .ok (.iaload, 1) := by decide +kernel
theorem dX12_count_110 : decode cX12_count 110 = .ok (.ireturn, 1) := by decide +kernel
theorem dX12_count_111 : decode cX12_count 111 = .ok (.aload_n 0, 1) := by decide +kernel
theorem dX12_count_112 : decode cX12_count 112 = .ok (.getfield 7, 3) := by decide +kernel
theorem dX12_count_115 : decode cX12_count 115 = .ok (.iconst 3, 1) := by decide +kernel
theorem dX12_count_116 : decode cX12_count 116 = .ok (.iaload, 1) := by decide +kernel
theorem dX12_count_117 : decode cX12_count 117 = .ok (.ireturn, 1) := by decide +kernel
theorem dX12_count_118 : decode cX12_count 118 = .ok (.aload_n 0, 1) := by decide +kernel
theorem dX12_count_119 : decode cX12_count 119 = .ok (.getfield 7, 3) := by decide +kernel
theorem dX12_count_122 : decode cX12_count 122 = .ok (.bipush 9, 2) := by decide +kernel
theorem dX12_count_124 : decode cX12_count 124 = .ok (.iaload, 1) := by decide +kernel
theorem dX12_count_125 : decode cX12_count 125 = .ok (.ireturn, 1) := by decide +kernel
theorem dX12_count_126 : decode cX12_count 126 = .ok (.aload_n 0, 1) := by decide +kernel
theorem dX12_count_127 : decode cX12_count 127 = .ok (.getfield 7, 3) := by decide +kernel
theorem dX12_count_130 : decode cX12_count 130 = .ok (.bipush 10, 2) := by decide +kernel
theorem dX12_count_132 : decode cX12_count 132 = .ok (.iaload, 1) := by decide +kernel
theorem dX12_count_133 : decode cX12_count 133 = .ok (.ireturn, 1) := by decide +kernel
theorem dX12_count_134 : decode cX12_count 134 = .ok (.aload_n 0, 1) := by decide +kernel
theorem dX12_count_135 : decode cX12_count 135 = .ok (.getfield 244, 3) := by decide +kernel
theorem dX12_count_138 : decode cX12_count 138 = .ok (.ireturn, 1) := by decide +kernel
theorem dX12_count_139 : decode cX12_count 139 = .ok (.aload_n 0, 1) := by decide +kernel
theorem dX12_count_140 : decode cX12_count 140 = .ok (.getfield 7, 3) := by decide +kernel
theorem dX12_count_143 : decode cX12_count 143 = .ok (.bipush 7, 2) := by decide +kernel
theorem dX12_count_145 : decode cX12_count 145 = .ok (.iaload, 1) := by decide +kernel
theorem dX12_count_146 : decode cX12_count 146 = .ok (.ireturn, 1) := by decide +kernel
theorem dX12_count_147 : decode cX12_count 147 = .ok (.aload_n 0, 1) := by decide +kernel
theorem dX12_count_148 : decode cX12_count 148 = .ok (.ldc 61, 2) := by decide +kernel
theorem dX12_count_150 : decode cX12_count 150 = .ok (.invokevirtual 62, 3) := by decide +kernel
theorem dX12_count_153 : decode cX12_count 153 = .ok (.ireturn, 1) := by decide +kernel
theorem dX12_told_0 : decode cX12_told 0 = .ok (.iload_n 1, 1) := by decide +kernel
theorem dX12_told_1 : decode cX12_told 1 = .ok (.iconst 1, 1) := by decide +kernel
theorem dX12_told_2 : decode cX12_told 2 = .ok (.iconst 5, 1) := by decide +kernel
theorem dX12_told_3 : decode cX12_told 3 = .ok (.invokestatic 57, 3) := by decide +kernel
theorem dX12_told_6 : decode cX12_told 6 = .ok (.ifCond .eq 12, 3) := by decide +kernel
theorem dX12_told_9 : decode cX12_told 9 = .ok (.aload_n 0, 1) := by decide +kernel
theorem dX12_told_10 : decode cX12_told 10 = .ok (.getfield 22, 3) := by decide +kernel
theorem dX12_told_13 : decode cX12_told 13 = .ok (.iload_n 1, 1) := by decide +kernel
theorem dX12_told_14 : decode cX12_told 14 = .ok (.iaload, 1) := by decide +kernel
theorem dX12_told_15 : decode cX12_told 15 = .ok (.goto 9, 3) := by decide +kernel
theorem dX12_told_18 : decode cX12_told 18 = .ok (.aload_n 0, 1) := by decide +kernel
theorem dX12_told_19 : decode cX12_told 19 = .ok (.ldc 61, 2) := by decide +kernel
theorem dX12_told_21 : decode cX12_told 21 = .ok (.invokevirtual 62, 3) := by decide +kernel
theorem dX12_told_24 : decode cX12_told 24 = .ok (.ireturn, 1) := by decide +kernel
