theorem dX2_init_0 : decode cX2_init 0 = .ok (.aload_n 0, 1) := by decide +kernel
theorem dX2_init_1 : decode cX2_init 1 = .ok (.invokespecial 1, 3) := by decide +kernel
theorem dX2_init_4 : decode cX2_init 4 = .ok (.aload_n 0, 1) := by decide +kernel
theorem dX2_init_5 : decode cX2_init 5 = .ok (.bipush 6, 2) := by decide +kernel
theorem dX2_init_7 : decode cX2_init 7 = .ok (.newarray .long, 2) := by decide +kernel
theorem dX2_init_9 : decode cX2_init 9 = .ok (.putfield 7, 3) := by decide +kernel
theorem dX2_init_12 : decode cX2_init 12 = .ok (.aload_n 0, 1) := by decide +kernel
theorem dX2_init_13 : decode cX2_init 13 = .ok (.bipush 6, 2) := by decide +kernel
theorem dX2_init_15 : decode cX2_init 15 = .ok (.newarray .int, 2) := by decide +kernel
theorem dX2_init_17 : decode cX2_init 17 = .ok (.putfield 13, 3) := by decide +kernel
theorem dX2_init_20 : decode cX2_init 20 = .ok (.aload_n 0, 1) := by decide +kernel
theorem dX2_init_21 : decode cX2_init 21 = .ok (.sipush 202, 3) := by decide +kernel
theorem dX2_init_24 : decode cX2_init 24 = .ok (.newarray .int, 2) := by decide +kernel
theorem dX2_init_26 : decode cX2_init 26 = .ok (.putfield 17, 3) := by decide +kernel
theorem dX2_init_29 : decode cX2_init 29 = .ok (.aload_n 0, 1) := by decide +kernel
theorem dX2_init_30 : decode cX2_init 30 = .ok (.sipush 202, 3) := by decide +kernel
theorem dX2_init_33 : decode cX2_init 33 = .ok (.newarray .int, 2) := by decide +kernel
theorem dX2_init_35 : decode cX2_init 35 = .ok (.putfield 20, 3) := by decide +kernel
theorem dX2_init_38 : decode cX2_init 38 = .ok (.aload_n 0, 1) := by decide +kernel
theorem dX2_init_39 : decode cX2_init 39 = .ok (.sipush 202, 3) := by decide +kernel
theorem dX2_init_42 : decode cX2_init 42 = .ok (.newarray .int, 2) := by decide +kernel
theorem dX2_init_44 : decode cX2_init 44 = .ok (.putfield 23, 3) := by decide +kernel
theorem dX2_init_47 : decode cX2_init 47 = .ok (.aload_n 0, 1) := by decide +kernel
theorem dX2_init_48 : decode cX2_init 48 = .ok (.sipush 202, 3) := by decide +kernel
theorem dX2_init_51 : decode cX2_init 51 = .ok (.newarray .int, 2) := by decide +kernel
theorem dX2_init_53 : decode cX2_init 53 = .ok (.putfield 26, 3) := by decide +kernel
theorem dX2_init_56 : decode cX2_init 56 = .ok (.aload_n 0, 1) := by decide +kernel
theorem dX2_init_57 : decode cX2_init 57 = .ok (.sipush 202, 3) := by decide +kernel
theorem dX2_init_60 : decode cX2_init 60 = .ok (.newarray .long, 2) := by decide +kernel
theorem dX2_init_62 : decode cX2_init 62 = .ok (.putfield 29, 3) := by decide +kernel
theorem dX2_init_65 : decode cX2_init 65 = .ok (.aload_n 0, 1) := by decide +kernel
theorem dX2_init_66 : decode cX2_init 66 = .ok (.sipush 202, 3) := by decide +kernel
theorem dX2_init_69 : decode cX2_init 69 = .ok (.newarray .int, 2) := by decide +kernel
theorem dX2_init_71 : decode cX2_init 71 = .ok (.putfield 32, 3) := by decide +kernel
theorem dX2_init_74 : decode cX2_init 74 = .ok (.aload_n 0, 1) := by decide +kernel
theorem dX2_init_75 : decode cX2_init 75 = .ok (.sipush 202, 3) := by decide +kernel
theorem dX2_init_78 : decode cX2_init 78 = .ok (.newarray .int, 2) := by decide +kernel
theorem dX2_init_80 : decode cX2_init 80 = .ok (.putfield 35, 3) := by decide +kernel
theorem dX2_init_83 : decode cX2_init 83 = .ok (.aload_n 0, 1) := by decide +kernel
theorem dX2_init_84 : decode cX2_init 84 = .ok (.sipush 202, 3) := by decide +kernel
theorem dX2_init_87 : decode cX2_init 87 = .ok (.newarray .int, 2) := by decide +kernel
theorem dX2_init_89 : decode cX2_init 89 = .ok (.putfield 38, 3) := by decide +kernel
theorem dX2_init_92 : decode cX2_init 92 = .ok (.aload_n 0, 1) := by decide +kernel
theorem dX2_init_93 : decode cX2_init 93 = .ok (.bipush 10, 2) := by decide +kernel
theorem dX2_init_95 : decode cX2_init 95 = .ok (.newarray .int, 2) := by decide +kernel
theorem dX2_init_97 : decode cX2_init 97 = .ok (.putfield 41, 3) := by decide +kernel
theorem dX2_init_100 : decode cX2_init 100 = .ok (.aload_n 0, 1) := by decide +kernel
theorem dX2_init_101 : decode cX2_init 101 = .ok (.bipush 40, 2) := by decide +kernel
theorem dX2_init_103 : decode cX2_init 103 = .ok (.newarray .int, 2) := by decide +kernel
theorem dX2_init_105 : decode cX2_init 105 = .ok (.putfield 44, 3) := by decide +kernel
theorem dX2_init_108 : decode cX2_init 108 = .ok (.aload_n 0, 1) := by decide +kernel
theorem dX2_init_109 : decode cX2_init 109 = .ok (.bipush 40, 2) := by decide +kernel
theorem dX2_init_111 : decode cX2_init 111 = .ok (.newarray .long, 2) := by decide +kernel
theorem dX2_init_113 : decode cX2_init 113 = .ok (.putfield 47, 3) := by decide +kernel
theorem dX2_init_116 : decode cX2_init 116 = .ok (.aload_n 0, 1) := by decide +kernel
theorem dX2_init_117 : decode cX2_init 117 = .ok (.bipush 30, 2) := by decide +kernel
theorem dX2_init_119 : decode cX2_init 119 = .ok (.newarray .int, 2) := by decide +kernel
theorem dX2_init_121 : decode cX2_init 121 = .ok (.putfield 50, 3) := by decide +kernel
theorem dX2_init_124 : decode cX2_init 124 = .ok (.aload_n 0, 1) := by decide +kernel
theorem dX2_init_125 : decode cX2_init 125 = .ok (.bipush 30, 2) := by decide +kernel
theorem dX2_init_127 : decode cX2_init 127 = .ok (.newarray .int, 2) := by decide +kernel
theorem dX2_init_129 : decode cX2_init 129 = .ok (.putfield 53, 3) := by decide +kernel
theorem dX2_init_132 : decode cX2_init 132 = .ok (.aload_n 0, 1) := by decide +kernel
theorem dX2_init_133 : decode cX2_init 133 = .ok (.bipush 30, 2) := by decide +kernel
theorem dX2_init_135 : decode cX2_init 135 = .ok (.newarray .long, 2) := by decide +kernel
theorem dX2_init_137 : decode cX2_init 137 = .ok (.putfield 56, 3) := by decide +kernel
theorem dX2_init_140 : decode cX2_init 140 = .ok (.aload_n 0, 1) := by decide +kernel
theorem dX2_init_141 : decode cX2_init 141 = .ok (.bipush 8, 2) := by decide +kernel
theorem dX2_init_143 : decode cX2_init 143 = .ok (.newarray .int, 2) := by decide +kernel
theorem dX2_init_145 : decode cX2_init 145 = .ok (.putfield 59, 3) := by decide +kernel
theorem dX2_init_148 : decode cX2_init 148 = .ok (.aload_n 0, 1) := by decide +kernel
theorem dX2_init_149 : decode cX2_init 149 = .ok (.bipush 8, 2) := by decide +kernel
theorem dX2_init_151 : decode cX2_init 151 = .ok (.newarray .int, 2) := by decide +kernel
theorem dX2_init_153 : decode cX2_init 153 = .ok (.putfield 62, 3) := by decide +kernel
theorem dX2_init_156 : decode cX2_init 156 = .ok (.aload_n 0, 1) := by decide +kernel
theorem dX2_init_157 : decode cX2_init 157 = .ok (.bipush 8, 2) := by decide +kernel
theorem dX2_init_159 : decode cX2_init 159 = .ok (.newarray .long, 2) := by decide +kernel
theorem dX2_init_161 : decode cX2_init 161 = .ok (.putfield 65, 3) := by decide +kernel
theorem dX2_init_164 : decode cX2_init 164 = .ok (.aload_n 0, 1) := by decide +kernel
theorem dX2_init_165 : decode cX2_init 165 = .ok (.getfield 17, 3) := by decide +kernel
theorem dX2_init_168 : decode cX2_init 168 = .ok (.iconst 0, 1) := by decide +kernel
theorem dX2_init_169 : decode cX2_init 169 = .ok (.iconst 0, 1) := by decide +kernel
theorem dX2_init_170 : decode cX2_init 170 = .ok (.iastore, 1) := by decide +kernel
theorem dX2_init_171 : decode cX2_init 171 = .ok (.aload_n 0, 1) := by decide +kernel
theorem dX2_init_172 : decode cX2_init 172 = .ok (.getfield 17, 3) := by decide +kernel
theorem dX2_init_175 : decode cX2_init 175 = .ok (.iconst 1, 1) := by decide +kernel
theorem dX2_init_176 : decode cX2_init 176 = .ok (.bipush 12, 2) := by decide +kernel
theorem dX2_init_178 : decode cX2_init 178 = .ok (.iastore, 1) := by decide +kernel
theorem dX2_init_179 : decode cX2_init 179 = .ok (.aload_n 0, 1) := by decide +kernel
theorem dX2_init_180 : decode cX2_init 180 = .ok (.getfield 23, 3) := by decide +kernel
theorem dX2_init_183 : decode cX2_init 183 = .ok (.iconst 1, 1) := by decide +kernel
theorem dX2_init_184 : decode cX2_init 184 = .ok (.iconst 1, 1) := by decide +kernel
theorem dX2_init_185 : decode cX2_init 185 = .ok (.iastore, 1) := by decide +kernel
theorem dX2_init_186 : decode cX2_init 186 = .ok (.aload_n 0, 1) := by decide +kernel
theorem dX2_init_187 : decode cX2_init 187 = .ok (.iconst 2, 1) := by decide +kernel
theorem dX2_init_188 : decode cX2_init 188 = .ok (.putfield 68, 3) := by decide +kernel
theorem dX2_init_191 : decode cX2_init 191 = .ok (.iconst 0, 1) := by decide +kernel
theorem dX2_init_192 : decode cX2_init 192 = .ok (.istore_n 1, 1) := by decide +kernel
theorem dX2_init_193 : decode cX2_init 193 = .ok (.iload_n 1, 1) := by decide +kernel
theorem dX2_init_194 : decode cX2_init 194 = .ok (.bipush 10, 2) := by decide +kernel
theorem dX2_init_196 : decode cX2_init 196 = .ok (.if_icmp .ge 25, 3) := by decide +kernel
theorem dX2_init_199 : decode cX2_init 199 = .ok (.aload_n 0, 1) := by decide +kernel
theorem dX2_init_200 : decode cX2_init 200 = .ok (.getfield 41, 3) := by decide +kernel
theorem dX2_init_203 : decode cX2_init 203 = .ok (.iload_n 1, 1) := by decide +kernel
theorem dX2_init_204 : decode cX2_init 204 = .ok (.iload_n 1, 1) := by decide +kernel
theorem dX2_init_205 : decode cX2_init 205 = .ok (.iconst 2, 1) := by decide +kernel
theorem dX2_init_206 : decode cX2_init 206 = .ok (.if_icmp .ge 7, 3) := by decide +kernel
theorem dX2_init_209 : decode cX2_init 209 = .ok (.iload_n 1, 1) := by decide +kernel
theorem dX2_init_210 : decode cX2_init 210 = .ok (.goto 4, 3) := by decide +kernel
theorem dX2_init_213 : decode cX2_init 213 = .ok (.iconst (-1), 1) := by decide +kernel
theorem dX2_init_214 : decode cX2_init 214 = .ok (.iastore, 1) := by decide +kernel
theorem dX2_init_215 : decode cX2_init 215 = .ok (.iinc 1 1, 3) := by decide +kernel
theorem dX2_init_218 : decode cX2_init 218 = .ok (.goto (-25), 3) := by decide +kernel
theorem dX2_init_221 : decode cX2_init 221 = .ok (.return_, 1) := by decide +kernel
theorem dX2_in_0 : decode cX2_in 0 = .ok (.iload_n 0, 1) := by decide +kernel
theorem dX2_in_1 : decode cX2_in 1 = .ok (.iload_n 1, 1) := by decide +kernel
theorem dX2_in_2 : decode cX2_in 2 = .ok (.if_icmp .lt 12, 3) := by decide +kernel
theorem dX2_in_5 : decode cX2_in 5 = .ok (.iload_n 0, 1) := by decide +kernel
theorem dX2_in_6 : decode cX2_in 6 = .ok (.iload_n 2, 1) := by decide +kernel
theorem dX2_in_7 : decode cX2_in 7 = .ok (.if_icmp .gt 7, 3) := by decide +kernel
theorem dX2_in_10 : decode cX2_in 10 = .ok (.iconst 1, 1) := by decide +kernel
theorem dX2_in_11 : decode cX2_in 11 = .ok (.goto 4, 3) := by decide +kernel
theorem dX2_in_14 : decode cX2_in 14 = .ok (.iconst 0, 1) := by decide +kernel
theorem dX2_in_15 : decode cX2_in 15 = .ok (.ireturn, 1) := by decide +kernel
set_option maxRecDepth 20000 in
theorem ggX2_isKind_X2_in : GoodIn wsX2_isKind wsX2_in := goodIn_r _ [4] (by decide +kernel) (by decide +kernel)
set_option maxRecDepth 20000 in
theorem gX2_isKind_X2_in : GoodIn wsX2_isKind (va_wsS RX2 72 yX2_in wsX2_in) := goodIn_app (goodIn_of _ (by decide +kernel)) ggX2_isKind_X2_in
theorem dX2_isKind_0 : decode cX2_isKind 0 = .ok (.iload_n 0, 1) := by decide +kernel
theorem dX2_isKind_1 : decode cX2_isKind 1 = .ok (.iconst 0, 1) := by decide +kernel
theorem dX2_isKind_2 : decode cX2_isKind 2 = .ok (.bipush 9, 2) := by decide +kernel
theorem dX2_isKind_4 : decode cX2_isKind 4 = .ok (.invokestatic 72, 3) := by decide +kernel
theorem dX2_isKind_7 : decode cX2_isKind 7 = .ok (.ireturn, 1) := by decide +kernel
set_option maxRecDepth 20000 in
theorem ggX2_isBox_X2_in : GoodIn wsX2_isBox wsX2_in := goodIn_r _ [4] (by decide +kernel) (by decide +kernel)
set_option maxRecDepth 20000 in
theorem gX2_isBox_X2_in : GoodIn wsX2_isBox (va_wsS RX2 72 yX2_in wsX2_in) := goodIn_app (goodIn_of _ (by decide +kernel)) ggX2_isBox_X2_in
theorem dX2_isBox_0 : decode cX2_isBox 0 = .ok (.iload_n 0, 1) := by decide +kernel
theorem dX2_isBox_1 : decode cX2_isBox 1 = .ok (.iconst 0, 1) := by decide +kernel
theorem dX2_isBox_2 : decode cX2_isBox 2 = .ok (.iconst 5, 1) := by decide +kernel
theorem dX2_isBox_3 : decode cX2_isBox 3 = .ok (.invokestatic 72, 3) := by decide +kernel
theorem dX2_isBox_6 : decode cX2_isBox 6 = .ok (.ireturn, 1) := by decide +kernel
set_option maxRecDepth 20000 in
theorem ggX2_areKnown_X2_isBox : GoodIn wsX2_areKnown wsX2_isBox := goodIn_r _ [4, 5, 6, 3, 7] (by decide +kernel) (by decide +kernel)
set_option maxRecDepth 20000 in
theorem gX2_areKnown_X2_isBox : GoodIn wsX2_areKnown (va_wsS RX2 76 yX2_isBox wsX2_isBox) := goodIn_app (goodIn_of _ (by decide +kernel)) ggX2_areKnown_X2_isBox
set_option maxRecDepth 20000 in
theorem ggX2_areKnown_X2_isKind : GoodIn wsX2_areKnown wsX2_isKind := goodIn_r _ [10, 5, 6, 3, 7] (by decide +kernel) (by decide +kernel)
set_option maxRecDepth 20000 in
theorem gX2_areKnown_X2_isKind : GoodIn wsX2_areKnown (va_wsS RX2 80 yX2_isKind wsX2_isKind) := goodIn_app (goodIn_of _ (by decide +kernel)) ggX2_areKnown_X2_isKind
theorem dX2_areKnown_0 : decode cX2_areKnown 0 = .ok (.iload_n 0, 1) := by decide +kernel
theorem dX2_areKnown_1 : decode cX2_areKnown 1 = .ok (.tableswitch 93 0 11 #[63, 88, 88, 88, 93, 93, 63, 88, 68, 93, 63, 63], 63) := by decide +kernel
theorem dX2_areKnown_64 : decode cX2_areKnown 64 = .ok (.iload_n 1, 1) := by decide +kernel
theorem dX2_areKnown_65 : decode cX2_areKnown 65 = .ok (.invokestatic 76, 3) := by decide +kernel
theorem dX2_areKnown_68 : decode cX2_areKnown 68 = .ok (.ireturn, 1) := by decide +kernel
theorem dX2_areKnown_69 : decode cX2_areKnown 69 = .ok (.iload_n 1, 1) := by decide +kernel
theorem dX2_areKnown_70 : decode cX2_areKnown 70 = .ok (.invokestatic 76, 3) := by decide +kernel
theorem dX2_areKnown_73 : decode cX2_areKnown 73 = .ok (.ifCond .eq 14, 3) := by decide +kernel
theorem dX2_areKnown_76 : decode cX2_areKnown 76 = .ok (.iload_n 2, 1) := by decide +kernel
theorem dX2_areKnown_77 : decode cX2_areKnown 77 = .ok (.invokestatic 76, 3) := by decide +kernel
theorem dX2_areKnown_80 : decode cX2_areKnown 80 = .ok (.ifCond .eq 7, 3) := by decide +kernel
theorem dX2_areKnown_83 : decode cX2_areKnown 83 = .ok (.iconst 1, 1) := by decide +kernel
theorem dX2_areKnown_84 : decode cX2_areKnown 84 = .ok (.goto 4, 3) := by decide +kernel
theorem dX2_areKnown_87 : decode cX2_areKnown 87 = .ok (.iconst 0, 1) := by decide +kernel
theorem dX2_areKnown_88 : decode cX2_areKnown 88 = .ok (.ireturn, 1) := by decide +kernel
theorem dX2_areKnown_89 : decode cX2_areKnown 89 = .ok (.iload_n 1, 1) := by decide +kernel
theorem dX2_areKnown_90 : decode cX2_areKnown 90 = .ok (.invokestatic 80, 3) := by decide +kernel
theorem dX2_areKnown_93 : decode cX2_areKnown 93 = .ok (.ireturn, 1) := by decide +kernel
theorem dX2_areKnown_94 : decode cX2_areKnown 94 = .ok (.iconst 1, 1) := by decide +kernel
theorem dX2_areKnown_95 : decode cX2_areKnown 95 = .ok (.ireturn, 1) := by decide +kernel
set_option maxRecDepth 20000 in
theorem ggX2_handle_X2_in : GoodIn wsX2_handle wsX2_in := goodIn_r _ [14] (by decide +kernel) (by decide +kernel)
set_option maxRecDepth 20000 in
theorem gX2_handle_X2_in : GoodIn wsX2_handle (va_wsS RX2 72 yX2_in wsX2_in) := goodIn_app (goodIn_of _ (by decide +kernel)) ggX2_handle_X2_in
set_option maxRecDepth 20000 in
theorem ggX2_handle_X2_isKind : GoodIn wsX2_handle wsX2_isKind := goodIn_r _ [17, 11, 12, 13, 14] (by decide +kernel) (by decide +kernel)
set_option maxRecDepth 20000 in
theorem gX2_handle_X2_isKind : GoodIn wsX2_handle (va_wsS RX2 80 yX2_isKind wsX2_isKind) := goodIn_app (goodIn_of _ (by decide +kernel)) ggX2_handle_X2_isKind
set_option maxRecDepth 20000 in
theorem ggX2_handle_X2_areKnown : GoodIn wsX2_handle wsX2_areKnown := goodIn_r _ [20, 21, 22, 13, 23, 11, 12, 14, 15, 16, 17] (by decide +kernel) (by decide +kernel)
set_option maxRecDepth 20000 in
theorem gX2_handle_X2_areKnown : GoodIn wsX2_handle (va_wsS RX2 83 yX2_areKnown wsX2_areKnown) := goodIn_app (goodIn_of _ (by decide +kernel)) ggX2_handle_X2_areKnown
theorem dX2_handle_0 : decode cX2_handle 0 = .ok (.iload_n 2, 1) := by decide +kernel
theorem dX2_handle_1 : decode cX2_handle 1 = .ok (.iconst 0, 1) := by decide +kernel
theorem dX2_handle_2 : decode cX2_handle 2 = .ok (.bipush 11, 2) := by decide +kernel
theorem dX2_handle_4 : decode cX2_handle 4 = .ok (.invokestatic 72, 3) := by decide +kernel
theorem dX2_handle_7 : decode cX2_handle 7 = .ok (.ifCond .ne 6, 3) := by decide +kernel
theorem dX2_handle_10 : decode cX2_handle 10 = .ok (.bipush (-3), 2) := by decide +kernel
theorem dX2_handle_12 : decode cX2_handle 12 = .ok (.ireturn, 1) := by decide +kernel
theorem dX2_handle_13 : decode cX2_handle 13 = .ok (.iload_n 1, 1) := by decide +kernel
theorem dX2_handle_14 : decode cX2_handle 14 = .ok (.invokestatic 80, 3) := by decide +kernel
theorem dX2_handle_17 : decode cX2_handle 17 = .ok (.ifCond .eq 13, 3) := by decide +kernel
theorem dX2_handle_20 : decode cX2_handle 20 = .ok (.iload_n 2, 1) := by decide +kernel
theorem dX2_handle_21 : decode cX2_handle 21 = .ok (.iload_n 3, 1) := by decide +kernel
theorem dX2_handle_22 : decode cX2_handle 22 = .ok (.iload 4, 2) := by decide +kernel
theorem dX2_handle_24 : decode cX2_handle 24 = .ok (.invokestatic 83, 3) := by decide +kernel
theorem dX2_handle_27 : decode cX2_handle 27 = .ok (.ifCond .ne 6, 3) := by decide +kernel
theorem dX2_handle_30 : decode cX2_handle 30 = .ok (.bipush (-2), 2) := by decide +kernel
theorem dX2_handle_32 : decode cX2_handle 32 = .ok (.ireturn, 1) := by decide +kernel
theorem dX2_handle_33 : decode cX2_handle 33 = .ok (.iload_n 2, 1) := by decide +kernel
theorem dX2_handle_34 : decode cX2_handle 34 = .ok (.iconst 5, 1) := by decide +kernel
theorem dX2_handle_35 : decode cX2_handle 35 = .ok (.if_icmp .ne 17, 3) := by decide +kernel
theorem dX2_handle_38 : decode cX2_handle 38 = .ok (.iload 4, 2) := by decide +kernel
theorem dX2_handle_40 : decode cX2_handle 40 = .ok (.iconst 0, 1) := by decide +kernel
theorem dX2_handle_41 : decode cX2_handle 41 = .ok (.bipush 100, 2) := by decide +kernel
theorem dX2_handle_43 : decode cX2_handle 43 = .ok (.invokestatic 72, 3) := by decide +kernel
theorem dX2_handle_46 : decode cX2_handle 46 = .ok (.ifCond .ne 6, 3) := by decide +kernel
theorem dX2_handle_49 : decode cX2_handle 49 = .ok (.bipush (-3), 2) := by decide +kernel
theorem dX2_handle_51 : decode cX2_handle 51 = .ok (.ireturn, 1) := by decide +kernel
theorem dX2_handle_52 : decode cX2_handle 52 = .ok (.aload_n 0, 1) := by decide +kernel
theorem dX2_handle_53 : decode cX2_handle 53 = .ok (.getfield 68, 3) := by decide +kernel
theorem dX2_handle_56 : decode cX2_handle 56 = .ok (.sipush 202, 3) := by decide +kernel
theorem dX2_handle_59 : decode cX2_handle 59 = .ok (.if_icmp .ne 6, 3) := by decide +kernel
theorem dX2_handle_62 : decode cX2_handle 62 = .ok (.bipush (-4), 2) := by decide +kernel
theorem dX2_handle_64 : decode cX2_handle 64 = .ok (.ireturn, 1) := by decide +kernel
theorem dX2_handle_65 : decode cX2_handle 65 = .ok (.aload_n 0, 1) := by decide +kernel
theorem dX2_handle_66 : decode cX2_handle 66 = .ok (.getfield 68, 3) := by decide +kernel
theorem dX2_handle_69 : decode cX2_handle 69 = .ok (.istore 7, 2) := by decide +kernel
theorem dX2_handle_71 : decode cX2_handle 71 = .ok (.aload_n 0, 1) := by decide +kernel
theorem dX2_handle_72 : decode cX2_handle 72 = .ok (.getfield 17, 3) := by decide +kernel
theorem dX2_handle_75 : decode cX2_handle 75 = .ok (.iload 7, 2) := by decide +kernel
theorem dX2_handle_77 : decode cX2_handle 77 = .ok (.iload_n 2, 1) := by decide +kernel
theorem dX2_handle_78 : decode cX2_handle 78 = .ok (.iastore, 1) := by decide +kernel
theorem dX2_handle_79 : decode cX2_handle 79 = .ok (.aload_n 0, 1) := by decide +kernel
theorem dX2_handle_80 : decode cX2_handle 80 = .ok (.getfield 20, 3) := by decide +kernel
theorem dX2_handle_83 : decode cX2_handle 83 = .ok (.iload 7, 2) := by decide +kernel
theorem dX2_handle_85 : decode cX2_handle 85 = .ok (.iload_n 1, 1) := by decide +kernel
theorem dX2_handle_86 : decode cX2_handle 86 = .ok (.iastore, 1) := by decide +kernel
theorem dX2_handle_87 : decode cX2_handle 87 = .ok (.aload_n 0, 1) := by decide +kernel
theorem dX2_handle_88 : decode cX2_handle 88 = .ok (.getfield 23, 3) := by decide +kernel
theorem dX2_handle_91 : decode cX2_handle 91 = .ok (.iload 7, 2) := by decide +kernel
theorem dX2_handle_93 : decode cX2_handle 93 = .ok (.iload_n 3, 1) := by decide +kernel
theorem dX2_handle_94 : decode cX2_handle 94 = .ok (.iastore, 1) := by decide +kernel
theorem dX2_handle_95 : decode cX2_handle 95 = .ok (.aload_n 0, 1) := by decide +kernel
theorem dX2_handle_96 : decode cX2_handle 96 = .ok (.getfield 26, 3) := by decide +kernel
theorem dX2_handle_99 : decode cX2_handle 99 = .ok (.iload 7, 2) := by decide +kernel
theorem dX2_handle_101 : decode cX2_handle 101 = .ok (.iload 4, 2) := by decide +kernel
theorem dX2_handle_103 : decode cX2_handle 103 = .ok (.iastore, 1) := by decide +kernel
theorem dX2_handle_104 : decode cX2_handle 104 = .ok (.aload_n 0, 1) := by decide +kernel
theorem dX2_handle_105 : decode cX2_handle 105 = .ok (.getfield 29, 3) := by decide +kernel
theorem dX2_handle_108 : decode cX2_handle 108 = .ok (.iload 7, 2) := by decide +kernel
theorem dX2_handle_110 : decode cX2_handle 110 = .ok (.lload 5, 2) := by decide +kernel
theorem dX2_handle_112 : decode cX2_handle 112 = .ok (.lastore, 1) := by decide +kernel
theorem dX2_handle_113 : decode cX2_handle 113 = .ok (.aload_n 0, 1) := by decide +kernel
theorem dX2_handle_114 : decode cX2_handle 114 = .ok (.getfield 32, 3) := by decide +kernel
theorem dX2_handle_117 : decode cX2_handle 117 = .ok (.iload 7, 2) := by decide +kernel
theorem dX2_handle_119 : decode cX2_handle 119 = .ok (.aload_n 0, 1) := by decide +kernel
theorem dX2_handle_120 : decode cX2_handle 120 = .ok (.getfield 41, 3) := by decide +kernel
theorem dX2_handle_123 : decode cX2_handle 123 = .ok (.iload_n 1, 1) := by decide +kernel
theorem dX2_handle_124 : decode cX2_handle 124 = .ok (.iaload, 1) := by decide +kernel
theorem dX2_handle_125 : decode cX2_handle 125 = .ok (.iastore, 1) := by decide +kernel
theorem dX2_handle_126 : decode cX2_handle 126 = .ok (.aload_n 0, 1) := by decide +kernel
theorem dX2_handle_127 : decode cX2_handle 127 = .ok (.getfield 35, 3) := by decide +kernel
theorem dX2_handle_130 : decode cX2_handle 130 = .ok (.iload 7, 2) := by decide +kernel
theorem dX2_handle_132 : decode cX2_handle 132 = .ok (.iload_n 2, 1) := by decide +kernel
theorem dX2_handle_133 : decode cX2_handle 133 = .ok (.iconst 2, 1) := by decide +kernel
theorem dX2_handle_134 : decode cX2_handle 134 = .ok (.if_icmp .eq 9, 3) := by decide +kernel
theorem dX2_handle_137 : decode cX2_handle 137 = .ok (.iload_n 2, 1) := by decide +kernel
theorem dX2_handle_138 : decode cX2_handle 138 = .ok (.bipush 7, 2) := by decide +kernel
theorem dX2_handle_140 : decode cX2_handle 140 = .ok (.if_icmp .ne 12, 3) := by decide +kernel
theorem dX2_handle_143 : decode cX2_handle 143 = .ok (.aload_n 0, 1) := by decide +kernel
theorem dX2_handle_144 : decode cX2_handle 144 = .ok (.getfield 41, 3) := by decide +kernel
theorem dX2_handle_147 : decode cX2_handle 147 = .ok (.iload_n 3, 1) := by decide +kernel
theorem dX2_handle_148 : decode cX2_handle 148 = .ok (.iaload, 1) := by decide +kernel
theorem dX2_handle_149 : decode cX2_handle 149 = .ok (.goto 4, 3) := by decide +kernel
theorem dX2_handle_152 : decode cX2_handle 152 = .ok (.iconst (-1), 1) := by decide +kernel
theorem dX2_handle_153 : decode cX2_handle 153 = .ok (.iastore, 1) := by decide +kernel
theorem dX2_handle_154 : decode cX2_handle 154 = .ok (.aload_n 0, 1) := by decide +kernel
theorem dX2_handle_155 : decode cX2_handle 155 = .ok (.getfield 38, 3) := by decide +kernel
theorem dX2_handle_158 : decode cX2_handle 158 = .ok (.iload 7, 2) := by decide +kernel
theorem dX2_handle_160 : decode cX2_handle 160 = .ok (.iconst 0, 1) := by decide +kernel
theorem dX2_handle_161 : decode cX2_handle 161 = .ok (.iastore, 1) := by decide +kernel
theorem dX2_handle_162 : decode cX2_handle 162 = .ok (.aload_n 0, 1) := by decide +kernel
theorem dX2_handle_163 : decode cX2_handle 163 = .ok (.getfield 41, 3) := by decide +kernel
theorem dX2_handle_166 : decode cX2_handle 166 = .ok (.iload_n 1, 1) := by decide +kernel
theorem dX2_handle_167 : decode cX2_handle 167 = .ok (.iload 7, 2) := by decide +kernel
theorem dX2_handle_169 : decode cX2_handle 169 = .ok (.iastore, 1) := by decide +kernel
theorem dX2_handle_170 : decode cX2_handle 170 = .ok (.aload_n 0, 1) := by decide +kernel
theorem dX2_handle_171 : decode cX2_handle 171 = .ok (.dup, 1) := by decide +kernel
theorem dX2_handle_172 : decode cX2_handle 172 = .ok (.getfield 68, 3) := by decide +kernel
theorem dX2_handle_175 : decode cX2_handle 175 = .ok (.iconst 1, 1) := by decide +kernel
theorem dX2_handle_176 : decode cX2_handle 176 = .ok (.iadd, 1) := by decide +kernel
theorem dX2_handle_177 : decode cX2_handle 177 = .ok (.putfield 68, 3) := by decide +kernel
theorem dX2_handle_180 : decode cX2_handle 180 = .ok (.aload_n 0, 1) := by decide +kernel
theorem dX2_handle_181 : decode cX2_handle 181 = .ok (.getfield 32, 3) := by decide +kernel
theorem dX2_handle_184 : decode cX2_handle 184 = .ok (.iload 7, 2) := by decide +kernel
theorem dX2_handle_186 : decode cX2_handle 186 = .ok (.iaload, 1) := by decide +kernel
theorem dX2_handle_187 : decode cX2_handle 187 = .ok (.ifCond .lt 7, 3) := by decide +kernel
theorem dX2_handle_190 : decode cX2_handle 190 = .ok (.iconst 1, 1) := by decide +kernel
theorem dX2_handle_191 : decode cX2_handle 191 = .ok (.goto 4, 3) := by decide +kernel
theorem dX2_handle_194 : decode cX2_handle 194 = .ok (.iconst 0, 1) := by decide +kernel
theorem dX2_handle_195 : decode cX2_handle 195 = .ok (.ireturn, 1) := by decide +kernel
set_option maxRecDepth 20000 in
theorem ggX2_drop_X2_isKind : GoodIn wsX2_drop wsX2_isKind := goodIn_r _ [5, 6, 7, 4, 8] (by decide +kernel) (by decide +kernel)
set_option maxRecDepth 20000 in
theorem gX2_drop_X2_isKind : GoodIn wsX2_drop (va_wsS RX2 80 yX2_isKind wsX2_isKind) := goodIn_app (goodIn_of _ (by decide +kernel)) ggX2_drop_X2_isKind
theorem dX2_drop_0 : decode cX2_drop 0 = .ok (.iload_n 1, 1) := by decide +kernel
theorem dX2_drop_1 : decode cX2_drop 1 = .ok (.invokestatic 80, 3) := by decide +kernel
theorem dX2_drop_4 : decode cX2_drop 4 = .ok (.ifCond .ne 6, 3) := by decide +kernel
theorem dX2_drop_7 : decode cX2_drop 7 = .ok (.bipush (-2), 2) := by decide +kernel
theorem dX2_drop_9 : decode cX2_drop 9 = .ok (.ireturn, 1) := by decide +kernel
theorem dX2_drop_10 : decode cX2_drop 10 = .ok (.aload_n 0, 1) := by decide +kernel
theorem dX2_drop_11 : decode cX2_drop 11 = .ok (.getfield 41, 3) := by decide +kernel
theorem dX2_drop_14 : decode cX2_drop 14 = .ok (.iload_n 1, 1) := by decide +kernel
theorem dX2_drop_15 : decode cX2_drop 15 = .ok (.iaload, 1) := by decide +kernel
theorem dX2_drop_16 : decode cX2_drop 16 = .ok (.ifCond .lt 7, 3) := by decide +kernel
theorem dX2_drop_19 : decode cX2_drop 19 = .ok (.iconst 1, 1) := by decide +kernel
theorem dX2_drop_20 : decode cX2_drop 20 = .ok (.goto 4, 3) := by decide +kernel
theorem dX2_drop_23 : decode cX2_drop 23 = .ok (.iconst 0, 1) := by decide +kernel
theorem dX2_drop_24 : decode cX2_drop 24 = .ok (.istore_n 2, 1) := by decide +kernel
theorem dX2_drop_25 : decode cX2_drop 25 = .ok (.aload_n 0, 1) := by decide +kernel
theorem dX2_drop_26 : decode cX2_drop 26 = .ok (.getfield 41, 3) := by decide +kernel
theorem dX2_drop_29 : decode cX2_drop 29 = .ok (.iload_n 1, 1) := by decide +kernel
theorem dX2_drop_30 : decode cX2_drop 30 = .ok (.iconst (-1), 1) := by decide +kernel
theorem dX2_drop_31 : decode cX2_drop 31 = .ok (.iastore, 1) := by decide +kernel
theorem dX2_drop_32 : decode cX2_drop 32 = .ok (.iload_n 2, 1) := by decide +kernel
theorem dX2_drop_33 : decode cX2_drop 33 = .ok (.ireturn, 1) := by decide +kernel
set_option maxRecDepth 20000 in
theorem ggX2_has_X2_isKind : GoodIn wsX2_has wsX2_isKind := goodIn_r _ [5, 6, 7, 4, 8] (by decide +kernel) (by decide +kernel)
set_option maxRecDepth 20000 in
theorem gX2_has_X2_isKind : GoodIn wsX2_has (va_wsS RX2 80 yX2_isKind wsX2_isKind) := goodIn_app (goodIn_of _ (by decide +kernel)) ggX2_has_X2_isKind
theorem dX2_has_0 : decode cX2_has 0 = .ok (.iload_n 1, 1) := by decide +kernel
theorem dX2_has_1 : decode cX2_has 1 = .ok (.invokestatic 80, 3) := by decide +kernel
theorem dX2_has_4 : decode cX2_has 4 = .ok (.ifCond .ne 8, 3) := by decide +kernel
theorem dX2_has_7 : decode cX2_has 7 = .ok (.bipush (-2), 2) := by decide +kernel
theorem dX2_has_9 : decode cX2_has 9 = .ok (.goto 17, 3) := by decide +kernel
theorem dX2_has_12 : decode cX2_has 12 = .ok (.aload_n 0, 1) := by decide +kernel
theorem dX2_has_13 : decode cX2_has 13 = .ok (.getfield 41, 3) := by decide +kernel
theorem dX2_has_16 : decode cX2_has 16 = .ok (.iload_n 1, 1) := by decide +kernel
theorem dX2_has_17 : decode cX2_has 17 = .ok (.iaload, 1) := by decide +kernel
theorem dX2_has_18 : decode cX2_has 18 = .ok (.ifCond .lt 7, 3) := by decide +kernel
theorem dX2_has_21 : decode cX2_has 21 = .ok (.iconst 1, 1) := by decide +kernel
theorem dX2_has_22 : decode cX2_has 22 = .ok (.goto 4, 3) := by decide +kernel
theorem dX2_has_25 : decode cX2_has 25 = .ok (.iconst 0, 1) := by decide +kernel
theorem dX2_has_26 : decode cX2_has 26 = .ok (.ireturn, 1) := by decide +kernel
set_option maxRecDepth 20000 in
theorem ggX2_post_X2_isKind : GoodIn wsX2_post wsX2_isKind := goodIn_r _ [5, 6, 7, 4, 8] (by decide +kernel) (by decide +kernel)
set_option maxRecDepth 20000 in
theorem gX2_post_X2_isKind : GoodIn wsX2_post (va_wsS RX2 80 yX2_isKind wsX2_isKind) := goodIn_app (goodIn_of _ (by decide +kernel)) ggX2_post_X2_isKind
set_option maxRecDepth 20000 in
theorem ggX2_post_X2_comes : GoodIn wsX2_post wsX2_comes := goodIn_r _ [12, 13, 1, 14, 15, 16, 17, 18, 19, 20, 21, 22, 23, 24, 25, 26, 27, 28, 29, 30, 31, 32, 33, 34, 35, 36, 37, 38, 39, 40, 41, 42] (by decide +kernel) (by decide +kernel)
set_option maxRecDepth 20000 in
theorem gX2_post_X2_comes : GoodIn wsX2_post (wsV RX2 89 RX2 yX2_comes wsX2_comes) := goodIn_app (goodIn_of _ (by decide +kernel)) ggX2_post_X2_comes
theorem dX2_post_0 : decode cX2_post 0 = .ok (.iload_n 1, 1) := by decide +kernel
theorem dX2_post_1 : decode cX2_post 1 = .ok (.invokestatic 80, 3) := by decide +kernel
theorem dX2_post_4 : decode cX2_post 4 = .ok (.ifCond .ne 6, 3) := by decide +kernel
theorem dX2_post_7 : decode cX2_post 7 = .ok (.bipush (-2), 2) := by decide +kernel
theorem dX2_post_9 : decode cX2_post 9 = .ok (.ireturn, 1) := by decide +kernel
theorem dX2_post_10 : decode cX2_post 10 = .ok (.aload_n 0, 1) := by decide +kernel
theorem dX2_post_11 : decode cX2_post 11 = .ok (.getfield 86, 3) := by decide +kernel
theorem dX2_post_14 : decode cX2_post 14 = .ok (.bipush 40, 2) := by decide +kernel
theorem dX2_post_16 : decode cX2_post 16 = .ok (.if_icmp .ne 6, 3) := by decide +kernel
theorem dX2_post_19 : decode cX2_post 19 = .ok (.bipush (-4), 2) := by decide +kernel
theorem dX2_post_21 : decode cX2_post 21 = .ok (.ireturn, 1) := by decide +kernel
theorem dX2_post_22 : decode cX2_post 22 = .ok (.aload_n 0, 1) := by decide +kernel
theorem dX2_post_23 : decode cX2_post 23 = .ok (.iload_n 1, 1) := by decide +kernel
theorem dX2_post_24 : decode cX2_post 24 = .ok (.lload_n 2, 1) := by decide +kernel
theorem dX2_post_25 : decode cX2_post 25 = .ok (.invokevirtual 89, 3) := by decide +kernel
theorem dX2_post_28 : decode cX2_post 28 = .ok (.aload_n 0, 1) := by decide +kernel
theorem dX2_post_29 : decode cX2_post 29 = .ok (.getfield 86, 3) := by decide +kernel
theorem dX2_post_32 : decode cX2_post 32 = .ok (.ireturn, 1) := by decide +kernel
theorem dX2_comes_0 : decode cX2_comes 0 = .ok (.aload_n 0, 1) := by decide +kernel
theorem dX2_comes_1 : decode cX2_comes 1 = .ok (.getfield 44, 3) := by decide +kernel
theorem dX2_comes_4 : decode cX2_comes 4 = .ok (.aload_n 0, 1) := by decide +kernel
theorem dX2_comes_5 : decode cX2_comes 5 = .ok (.getfield 86, 3) := by decide +kernel
theorem dX2_comes_8 : decode cX2_comes 8 = .ok (.iload_n 1, 1) := by decide +kernel
theorem dX2_comes_9 : decode cX2_comes 9 = .ok (.iastore, 1) := by decide +kernel
theorem dX2_comes_10 : decode cX2_comes 10 = .ok (.aload_n 0, 1) := by decide +kernel
theorem dX2_comes_11 : decode cX2_comes 11 = .ok (.getfield 47, 3) := by decide +kernel
theorem dX2_comes_14 : decode cX2_comes 14 = .ok (.aload_n 0, 1) := by decide +kernel
theorem dX2_comes_15 : decode cX2_comes 15 = .ok (.getfield 86, 3) := by decide +kernel
theorem dX2_comes_18 : decode cX2_comes 18 = .ok (.lload_n 2, 1) := by decide +kernel
theorem dX2_comes_19 : decode cX2_comes 19 = .ok (.lastore, 1) := by decide +kernel
theorem dX2_comes_20 : decode cX2_comes 20 = .ok (.aload_n 0, 1) := by decide +kernel
theorem dX2_comes_21 : decode cX2_comes 21 = .ok (.dup, 1) := by decide +kernel
theorem dX2_comes_22 : decode cX2_comes 22 = .ok (.getfield 86, 3) := by decide +kernel
theorem dX2_comes_25 : decode cX2_comes 25 = .ok (.iconst 1, 1) := by decide +kernel
theorem dX2_comes_26 : decode cX2_comes 26 = .ok (.iadd, 1) := by decide +kernel
theorem dX2_comes_27 : decode cX2_comes 27 = .ok (.putfield 86, 3) := by decide +kernel
theorem dX2_comes_30 : decode cX2_comes 30 = .ok (.return_, 1) := by decide +kernel
theorem dX2_keep_0 : decode cX2_keep 0 = .ok (.aload_n 0, 1) := by decide +kernel
theorem dX2_keep_1 : decode cX2_keep 1 = .ok (.getfield 7, 3) := by decide +kernel
theorem dX2_keep_4 : decode cX2_keep 4 = .ok (.iload_n 1, 1) := by decide +kernel
theorem dX2_keep_5 : decode cX2_keep 5 = .ok (.dup2, 1) := by decide +kernel
theorem dX2_keep_6 : decode cX2_keep 6 = .ok (.laload, 1) := by decide +kernel
theorem dX2_keep_7 : decode cX2_keep 7 = .ok (.lload_n 2, 1) := by decide +kernel
theorem dX2_keep_8 : decode cX2_keep 8 = .ok (.ladd, 1) := by decide +kernel
theorem dX2_keep_9 : decode cX2_keep 9 = .ok (.lastore, 1) := by decide +kernel
theorem dX2_keep_10 : decode cX2_keep 10 = .ok (.aload_n 0, 1) := by decide +kernel
theorem dX2_keep_11 : decode cX2_keep 11 = .ok (.getfield 13, 3) := by decide +kernel
theorem dX2_keep_14 : decode cX2_keep 14 = .ok (.iload_n 1, 1) := by decide +kernel
theorem dX2_keep_15 : decode cX2_keep 15 = .ok (.dup2, 1) := by decide +kernel
theorem dX2_keep_16 : decode cX2_keep 16 = .ok (.iaload, 1) := by decide +kernel
theorem dX2_keep_17 : decode cX2_keep 17 = .ok (.iconst 1, 1) := by decide +kernel
theorem dX2_keep_18 : decode cX2_keep 18 = .ok (.iadd, 1) := by decide +kernel
theorem dX2_keep_19 : decode cX2_keep 19 = .ok (.iastore, 1) := by decide +kernel
theorem dX2_keep_20 : decode cX2_keep 20 = .ok (.return_, 1) := by decide +kernel
theorem dX2_call_0 : decode cX2_call 0 = .ok (.aload_n 0, 1) := by decide +kernel
theorem dX2_call_1 : decode cX2_call 1 = .ok (.iconst 0, 1) := by decide +kernel
theorem dX2_call_2 : decode cX2_call 2 = .ok (.putfield 93, 3) := by decide +kernel
theorem dX2_call_5 : decode cX2_call 5 = .ok (.aload_n 0, 1) := by decide +kernel
theorem dX2_call_6 : decode cX2_call 6 = .ok (.getfield 96, 3) := by decide +kernel
theorem dX2_call_9 : decode cX2_call 9 = .ok (.bipush 8, 2) := by decide +kernel
theorem dX2_call_11 : decode cX2_call 11 = .ok (.if_icmp .eq 12, 3) := by decide +kernel
theorem dX2_call_14 : decode cX2_call 14 = .ok (.aload_n 0, 1) := by decide +kernel
theorem dX2_call_15 : decode cX2_call 15 = .ok (.getfield 99, 3) := by decide +kernel
theorem dX2_call_18 : decode cX2_call 18 = .ok (.bipush 16, 2) := by decide +kernel
theorem dX2_call_20 : decode cX2_call 20 = .ok (.if_icmp .ne 10, 3) := by decide +kernel
theorem dX2_call_23 : decode cX2_call 23 = .ok (.aload_n 0, 1) := by decide +kernel
theorem dX2_call_24 : decode cX2_call 24 = .ok (.bipush 6, 2) := by decide +kernel
theorem dX2_call_26 : decode cX2_call 26 = .ok (.putfield 93, 3) := by decide +kernel
theorem dX2_call_29 : decode cX2_call 29 = .ok (.return_, 1) := by decide +kernel
theorem dX2_call_30 : decode cX2_call 30 = .ok (.aload_n 0, 1) := by decide +kernel
theorem dX2_call_31 : decode cX2_call 31 = .ok (.dup, 1) := by decide +kernel
theorem dX2_call_32 : decode cX2_call 32 = .ok (.getfield 99, 3) := by decide +kernel
theorem dX2_call_35 : decode cX2_call 35 = .ok (.iconst 1, 1) := by decide +kernel
theorem dX2_call_36 : decode cX2_call 36 = .ok (.iadd, 1) := by decide +kernel
theorem dX2_call_37 : decode cX2_call 37 = .ok (.putfield 99, 3) := by decide +kernel
theorem dX2_call_40 : decode cX2_call 40 = .ok (.iload_n 1, 1) := by decide +kernel
theorem dX2_call_41 : decode cX2_call 41 = .ok (.ifCond .ge 9, 3) := by decide +kernel
theorem dX2_call_44 : decode cX2_call 44 = .ok (.aload_n 0, 1) := by decide +kernel
theorem dX2_call_45 : decode cX2_call 45 = .ok (.iconst 1, 1) := by decide +kernel
theorem dX2_call_46 : decode cX2_call 46 = .ok (.putfield 93, 3) := by decide +kernel
theorem dX2_call_49 : decode cX2_call 49 = .ok (.return_, 1) := by decide +kernel
theorem dX2_call_50 : decode cX2_call 50 = .ok (.aload_n 0, 1) := by decide +kernel
theorem dX2_call_51 : decode cX2_call 51 = .ok (.getfield 59, 3) := by decide +kernel
theorem dX2_call_54 : decode cX2_call 54 = .ok (.aload_n 0, 1) := by decide +kernel
theorem dX2_call_55 : decode cX2_call 55 = .ok (.getfield 96, 3) := by decide +kernel
theorem dX2_call_58 : decode cX2_call 58 = .ok (.iload_n 1, 1) := by decide +kernel
theorem dX2_call_59 : decode cX2_call 59 = .ok (.iastore, 1) := by decide +kernel
theorem dX2_call_60 : decode cX2_call 60 = .ok (.aload_n 0, 1) := by decide +kernel
theorem dX2_call_61 : decode cX2_call 61 = .ok (.getfield 62, 3) := by decide +kernel
theorem dX2_call_64 : decode cX2_call 64 = .ok (.aload_n 0, 1) := by decide +kernel
theorem dX2_call_65 : decode cX2_call 65 = .ok (.getfield 96, 3) := by decide +kernel
theorem dX2_call_68 : decode cX2_call 68 = .ok (.iconst 0, 1) := by decide +kernel
theorem dX2_call_69 : decode cX2_call 69 = .ok (.iastore, 1) := by decide +kernel
theorem dX2_call_70 : decode cX2_call 70 = .ok (.aload_n 0, 1) := by decide +kernel
theorem dX2_call_71 : decode cX2_call 71 = .ok (.getfield 65, 3) := by decide +kernel
theorem dX2_call_74 : decode cX2_call 74 = .ok (.aload_n 0, 1) := by decide +kernel
theorem dX2_call_75 : decode cX2_call 75 = .ok (.getfield 96, 3) := by decide +kernel
theorem dX2_call_78 : decode cX2_call 78 = .ok (.lload_n 2, 1) := by decide +kernel
theorem dX2_call_79 : decode cX2_call 79 = .ok (.lastore, 1) := by decide +kernel
theorem dX2_call_80 : decode cX2_call 80 = .ok (.aload_n 0, 1) := by decide +kernel
theorem dX2_call_81 : decode cX2_call 81 = .ok (.dup, 1) := by decide +kernel
theorem dX2_call_82 : decode cX2_call 82 = .ok (.getfield 96, 3) := by decide +kernel
theorem dX2_call_85 : decode cX2_call 85 = .ok (.iconst 1, 1) := by decide +kernel
theorem dX2_call_86 : decode cX2_call 86 = .ok (.iadd, 1) := by decide +kernel
theorem dX2_call_87 : decode cX2_call 87 = .ok (.putfield 96, 3) := by decide +kernel
theorem dX2_call_90 : decode cX2_call 90 = .ok (.return_, 1) := by decide +kernel
theorem dX2_ends_0 : decode cX2_ends 0 = .ok (.aload_n 0, 1) := by decide +kernel
theorem dX2_ends_1 : decode cX2_ends 1 = .ok (.dup, 1) := by decide +kernel
theorem dX2_ends_2 : decode cX2_ends 2 = .ok (.getfield 96, 3) := by decide +kernel
theorem dX2_ends_5 : decode cX2_ends 5 = .ok (.iconst 1, 1) := by decide +kernel
theorem dX2_ends_6 : decode cX2_ends 6 = .ok (.isub, 1) := by decide +kernel
theorem dX2_ends_7 : decode cX2_ends 7 = .ok (.putfield 96, 3) := by decide +kernel
theorem dX2_ends_10 : decode cX2_ends 10 = .ok (.aload_n 0, 1) := by decide +kernel
theorem dX2_ends_11 : decode cX2_ends 11 = .ok (.iload_n 1, 1) := by decide +kernel
theorem dX2_ends_12 : decode cX2_ends 12 = .ok (.putfield 93, 3) := by decide +kernel
theorem dX2_ends_15 : decode cX2_ends 15 = .ok (.return_, 1) := by decide +kernel
set_option maxRecDepth 20000 in
theorem ggX2_goOn_X2_call : GoodIn wsX2_goOn wsX2_call := goodIn_r _ [6, 7, 8, 9, 10, 1, 11, 12, 13, 14, 15, 16, 17, 18, 19, 20, 21, 22, 23, 24, 25, 26, 27, 28, 29, 30, 31, 32, 33, 34, 35, 36, 37, 38, 39] (by decide +kernel) (by decide +kernel)
set_option maxRecDepth 20000 in
theorem gX2_goOn_X2_call : GoodIn wsX2_goOn (wsV RX2 102 RX2 yX2_call wsX2_call) := goodIn_app (goodIn_of _ (by decide +kernel)) ggX2_goOn_X2_call
theorem dX2_goOn_0 : decode cX2_goOn 0 = .ok (.aload_n 0, 1) := by decide +kernel
theorem dX2_goOn_1 : decode cX2_goOn 1 = .ok (.getfield 62, 3) := by decide +kernel
theorem dX2_goOn_4 : decode cX2_goOn 4 = .ok (.iload_n 1, 1) := by decide +kernel
theorem dX2_goOn_5 : decode cX2_goOn 5 = .ok (.dup2, 1) := by decide +kernel
theorem dX2_goOn_6 : decode cX2_goOn 6 = .ok (.iaload, 1) := by decide +kernel
theorem dX2_goOn_7 : decode cX2_goOn 7 = .ok (.iconst 1, 1) := by decide +kernel
theorem dX2_goOn_8 : decode cX2_goOn 8 = .ok (.iadd, 1) := by decide +kernel
theorem dX2_goOn_9 : decode cX2_goOn 9 = .ok (.iastore, 1) := by decide +kernel
theorem dX2_goOn_10 : decode cX2_goOn 10 = .ok (.aload_n 0, 1) := by decide +kernel
theorem dX2_goOn_11 : decode cX2_goOn 11 = .ok (.iload_n 2, 1) := by decide +kernel
theorem dX2_goOn_12 : decode cX2_goOn 12 = .ok (.lload_n 3, 1) := by decide +kernel
theorem dX2_goOn_13 : decode cX2_goOn 13 = .ok (.invokevirtual 102, 3) := by decide +kernel
theorem dX2_goOn_16 : decode cX2_goOn 16 = .ok (.return_, 1) := by decide +kernel
set_option maxRecDepth 20000 in
theorem ggX2_go_X2_call : GoodIn wsX2_go wsX2_call := goodIn_r _ [11, 12, 1, 2, 4, 3, 5, 65, 66, 67, 68, 69, 70, 71, 72, 73, 74, 75, 76, 77, 78, 79, 80, 81, 82, 83, 84, 85, 86, 87, 88, 89, 90, 91, 92] (by decide +kernel) (by decide +kernel)
set_option maxRecDepth 20000 in
theorem gX2_go_X2_call : GoodIn wsX2_go (wsV RX2 102 RX2 yX2_call wsX2_call) := goodIn_app (goodIn_of _ (by decide +kernel)) ggX2_go_X2_call
set_option maxRecDepth 20000 in
theorem ggX2_go_X2_begins : GoodIn wsX2_go wsX2_begins := goodIn_r _ [16, 17, 18, 19, 20, 21, 22, 23, 24, 25, 26, 27, 28, 29, 30, 10, 31, 32, 33, 34, 35, 1, 12, 36, 37, 38, 39, 40, 41, 42, 43, 44, 45, 46, 47, 48, 49, 50, 3, 7, 8, 9, 11, 2, 4, 5, 51, 52, 53, 54, 55, 56, 57, 58, 59, 60, 65, 66, 67, 68, 69, 70, 71, 72, 73, 74, 75, 76, 77, 78, 79, 80, 81, 82, 83, 84, 85, 86, 87, 88, 89, 90, 91, 92] (by decide +kernel) (by decide +kernel)
set_option maxRecDepth 20000 in
theorem gX2_go_X2_begins : GoodIn wsX2_go (wsV RX2 105 RX2 yX2_begins wsX2_begins) := goodIn_app (goodIn_of _ (by decide +kernel)) ggX2_go_X2_begins
set_option maxRecDepth 20000 in
theorem ggX2_go_X2_behind : GoodIn wsX2_go wsX2_behind := goodIn_r _ [64, 19, 12, 17, 3, 20, 1, 28, 29, 30, 10, 31, 26, 27, 32, 33, 34, 35, 47, 48, 49, 50, 7, 8, 9, 11, 2, 4, 5, 65, 66, 67, 68, 69, 70, 71, 72, 73, 74, 75, 76, 77, 78, 79, 80, 81, 82, 83, 84, 85, 86, 87, 88, 89, 90, 91, 92] (by decide +kernel) (by decide +kernel)
set_option maxRecDepth 20000 in
theorem gX2_go_X2_behind : GoodIn wsX2_go (wsV RX2 109 RX2 yX2_behind wsX2_behind) := goodIn_app (goodIn_of _ (by decide +kernel)) ggX2_go_X2_behind
theorem dX2_go_0 : decode cX2_go 0 = .ok (.aload_n 0, 1) := by decide +kernel
theorem dX2_go_1 : decode cX2_go 1 = .ok (.iconst 0, 1) := by decide +kernel
theorem dX2_go_2 : decode cX2_go 2 = .ok (.putfield 96, 3) := by decide +kernel
theorem dX2_go_5 : decode cX2_go 5 = .ok (.aload_n 0, 1) := by decide +kernel
theorem dX2_go_6 : decode cX2_go 6 = .ok (.iconst 0, 1) := by decide +kernel
theorem dX2_go_7 : decode cX2_go 7 = .ok (.putfield 99, 3) := by decide +kernel
theorem dX2_go_10 : decode cX2_go 10 = .ok (.aload_n 0, 1) := by decide +kernel
theorem dX2_go_11 : decode cX2_go 11 = .ok (.iload_n 1, 1) := by decide +kernel
theorem dX2_go_12 : decode cX2_go 12 = .ok (.lload_n 2, 1) := by decide +kernel
theorem dX2_go_13 : decode cX2_go 13 = .ok (.invokevirtual 102, 3) := by decide +kernel
theorem dX2_go_16 : decode cX2_go 16 = .ok (.aload_n 0, 1) := by decide +kernel
theorem dX2_go_17 : decode cX2_go 17 = .ok (.getfield 96, 3) := by decide +kernel
theorem dX2_go_20 : decode cX2_go 20 = .ok (.ifCond .le 67, 3) := by decide +kernel
theorem dX2_go_23 : decode cX2_go 23 = .ok (.aload_n 0, 1) := by decide +kernel
theorem dX2_go_24 : decode cX2_go 24 = .ok (.getfield 96, 3) := by decide +kernel
theorem dX2_go_27 : decode cX2_go 27 = .ok (.iconst 1, 1) := by decide +kernel
theorem dX2_go_28 : decode cX2_go 28 = .ok (.isub, 1) := by decide +kernel
theorem dX2_go_29 : decode cX2_go 29 = .ok (.istore 4, 2) := by decide +kernel
theorem dX2_go_31 : decode cX2_go 31 = .ok (.aload_n 0, 1) := by decide +kernel
theorem dX2_go_32 : decode cX2_go 32 = .ok (.getfield 62, 3) := by decide +kernel
theorem dX2_go_35 : decode cX2_go 35 = .ok (.iload 4, 2) := by decide +kernel
theorem dX2_go_37 : decode cX2_go 37 = .ok (.iaload, 1) := by decide +kernel
theorem dX2_go_38 : decode cX2_go 38 = .ok (.ifCond .ne 26, 3) := by decide +kernel
theorem dX2_go_41 : decode cX2_go 41 = .ok (.aload_n 0, 1) := by decide +kernel
theorem dX2_go_42 : decode cX2_go 42 = .ok (.iload 4, 2) := by decide +kernel
theorem dX2_go_44 : decode cX2_go 44 = .ok (.aload_n 0, 1) := by decide +kernel
theorem dX2_go_45 : decode cX2_go 45 = .ok (.getfield 59, 3) := by decide +kernel
theorem dX2_go_48 : decode cX2_go 48 = .ok (.iload 4, 2) := by decide +kernel
theorem dX2_go_50 : decode cX2_go 50 = .ok (.iaload, 1) := by decide +kernel
theorem dX2_go_51 : decode cX2_go 51 = .ok (.aload_n 0, 1) := by decide +kernel
theorem dX2_go_52 : decode cX2_go 52 = .ok (.getfield 65, 3) := by decide +kernel
theorem dX2_go_55 : decode cX2_go 55 = .ok (.iload 4, 2) := by decide +kernel
theorem dX2_go_57 : decode cX2_go 57 = .ok (.laload, 1) := by decide +kernel
theorem dX2_go_58 : decode cX2_go 58 = .ok (.invokevirtual 105, 3) := by decide +kernel
theorem dX2_go_61 : decode cX2_go 61 = .ok (.goto 23, 3) := by decide +kernel
theorem dX2_go_64 : decode cX2_go 64 = .ok (.aload_n 0, 1) := by decide +kernel
theorem dX2_go_65 : decode cX2_go 65 = .ok (.iload 4, 2) := by decide +kernel
theorem dX2_go_67 : decode cX2_go 67 = .ok (.aload_n 0, 1) := by decide +kernel
theorem dX2_go_68 : decode cX2_go 68 = .ok (.getfield 59, 3) := by decide +kernel
theorem dX2_go_71 : decode cX2_go 71 = .ok (.iload 4, 2) := by decide +kernel
theorem dX2_go_73 : decode cX2_go 73 = .ok (.iaload, 1) := by decide +kernel
theorem dX2_go_74 : decode cX2_go 74 = .ok (.aload_n 0, 1) := by decide +kernel
theorem dX2_go_75 : decode cX2_go 75 = .ok (.getfield 65, 3) := by decide +kernel
theorem dX2_go_78 : decode cX2_go 78 = .ok (.iload 4, 2) := by decide +kernel
theorem dX2_go_80 : decode cX2_go 80 = .ok (.laload, 1) := by decide +kernel
theorem dX2_go_81 : decode cX2_go 81 = .ok (.invokevirtual 109, 3) := by decide +kernel
theorem dX2_go_84 : decode cX2_go 84 = .ok (.goto (-68), 3) := by decide +kernel
theorem dX2_go_87 : decode cX2_go 87 = .ok (.aload_n 0, 1) := by decide +kernel
theorem dX2_go_88 : decode cX2_go 88 = .ok (.dup, 1) := by decide +kernel
theorem dX2_go_89 : decode cX2_go 89 = .ok (.getfield 112, 3) := by decide +kernel
theorem dX2_go_92 : decode cX2_go 92 = .ok (.aload_n 0, 1) := by decide +kernel
theorem dX2_go_93 : decode cX2_go 93 = .ok (.getfield 99, 3) := by decide +kernel
theorem dX2_go_96 : decode cX2_go 96 = .ok (.iadd, 1) := by decide +kernel
theorem dX2_go_97 : decode cX2_go 97 = .ok (.putfield 112, 3) := by decide +kernel
theorem dX2_go_100 : decode cX2_go 100 = .ok (.return_, 1) := by decide +kernel
set_option maxRecDepth 20000 in
theorem ggX2_behind_X2_keep : GoodIn wsX2_behind wsX2_keep := goodIn_r _ [11, 12, 13, 29, 30, 31, 32, 33, 34, 35, 36, 37, 38, 39, 40, 41, 42, 43, 44, 45, 46, 47, 48, 49, 50, 51, 52, 53, 54, 55, 56] (by decide +kernel) (by decide +kernel)
set_option maxRecDepth 20000 in
theorem gX2_behind_X2_keep : GoodIn wsX2_behind (wsV RX2 115 RX2 yX2_keep wsX2_keep) := goodIn_app (goodIn_of _ (by decide +kernel)) ggX2_behind_X2_keep
set_option maxRecDepth 20000 in
theorem ggX2_behind_X2_ends : GoodIn wsX2_behind wsX2_ends := goodIn_r _ [17, 6, 2, 29, 30, 31, 32, 33, 34, 35, 36, 37, 38, 39, 40, 41, 42, 43, 44, 45, 46, 47, 48, 49, 50, 51, 52, 53, 54, 55, 56] (by decide +kernel) (by decide +kernel)
set_option maxRecDepth 20000 in
theorem gX2_behind_X2_ends : GoodIn wsX2_behind (wsV RX2 118 RX2 yX2_ends wsX2_ends) := goodIn_app (goodIn_of _ (by decide +kernel)) ggX2_behind_X2_ends
set_option maxRecDepth 20000 in
theorem ggX2_behind_X2_goOn : GoodIn wsX2_behind wsX2_goOn := goodIn_r _ [21, 4, 22, 23, 24, 10, 25, 2, 6, 26, 27, 28, 29, 30, 31, 32, 33, 34, 35, 36, 37, 38, 39, 40, 41, 42, 43, 44, 45, 46, 47, 48, 49, 50, 51, 52, 53, 54, 55, 56] (by decide +kernel) (by decide +kernel)
set_option maxRecDepth 20000 in
theorem gX2_behind_X2_goOn : GoodIn wsX2_behind (wsV RX2 122 RX2 yX2_goOn wsX2_goOn) := goodIn_app (goodIn_of _ (by decide +kernel)) ggX2_behind_X2_goOn
theorem dX2_behind_0 : decode cX2_behind 0 = .ok (.aload_n 0, 1) := by decide +kernel
theorem dX2_behind_1 : decode cX2_behind 1 = .ok (.getfield 17, 3) := by decide +kernel
theorem dX2_behind_4 : decode cX2_behind 4 = .ok (.iload_n 2, 1) := by decide +kernel
theorem dX2_behind_5 : decode cX2_behind 5 = .ok (.iaload, 1) := by decide +kernel
theorem dX2_behind_6 : decode cX2_behind 6 = .ok (.bipush 10, 2) := by decide +kernel
theorem dX2_behind_8 : decode cX2_behind 8 = .ok (.if_icmp .ne 42, 3) := by decide +kernel
theorem dX2_behind_11 : decode cX2_behind 11 = .ok (.aload_n 0, 1) := by decide +kernel
theorem dX2_behind_12 : decode cX2_behind 12 = .ok (.getfield 93, 3) := by decide +kernel
theorem dX2_behind_15 : decode cX2_behind 15 = .ok (.ifCond .eq 35, 3) := by decide +kernel
theorem dX2_behind_18 : decode cX2_behind 18 = .ok (.aload_n 0, 1) := by decide +kernel
theorem dX2_behind_19 : decode cX2_behind 19 = .ok (.getfield 93, 3) := by decide +kernel
theorem dX2_behind_22 : decode cX2_behind 22 = .ok (.bipush 6, 2) := by decide +kernel
theorem dX2_behind_24 : decode cX2_behind 24 = .ok (.if_icmp .eq 26, 3) := by decide +kernel
theorem dX2_behind_27 : decode cX2_behind 27 = .ok (.aload_n 0, 1) := by decide +kernel
theorem dX2_behind_28 : decode cX2_behind 28 = .ok (.aload_n 0, 1) := by decide +kernel
theorem dX2_behind_29 : decode cX2_behind 29 = .ok (.getfield 23, 3) := by decide +kernel
theorem dX2_behind_32 : decode cX2_behind 32 = .ok (.iload_n 2, 1) := by decide +kernel
theorem dX2_behind_33 : decode cX2_behind 33 = .ok (.iaload, 1) := by decide +kernel
theorem dX2_behind_34 : decode cX2_behind 34 = .ok (.aload_n 0, 1) := by decide +kernel
theorem dX2_behind_35 : decode cX2_behind 35 = .ok (.getfield 93, 3) := by decide +kernel
theorem dX2_behind_38 : decode cX2_behind 38 = .ok (.i2l, 1) := by decide +kernel
theorem dX2_behind_39 : decode cX2_behind 39 = .ok (.invokevirtual 115, 3) := by decide +kernel
theorem dX2_behind_42 : decode cX2_behind 42 = .ok (.aload_n 0, 1) := by decide +kernel
theorem dX2_behind_43 : decode cX2_behind 43 = .ok (.iconst 0, 1) := by decide +kernel
theorem dX2_behind_44 : decode cX2_behind 44 = .ok (.invokevirtual 118, 3) := by decide +kernel
theorem dX2_behind_47 : decode cX2_behind 47 = .ok (.goto 56, 3) := by decide +kernel
theorem dX2_behind_50 : decode cX2_behind 50 = .ok (.aload_n 0, 1) := by decide +kernel
theorem dX2_behind_51 : decode cX2_behind 51 = .ok (.getfield 17, 3) := by decide +kernel
theorem dX2_behind_54 : decode cX2_behind 54 = .ok (.iload_n 2, 1) := by decide +kernel
theorem dX2_behind_55 : decode cX2_behind 55 = .ok (.iaload, 1) := by decide +kernel
theorem dX2_behind_56 : decode cX2_behind 56 = .ok (.bipush 7, 2) := by decide +kernel
theorem dX2_behind_58 : decode cX2_behind 58 = .ok (.if_icmp .ne 35, 3) := by decide +kernel
theorem dX2_behind_61 : decode cX2_behind 61 = .ok (.aload_n 0, 1) := by decide +kernel
theorem dX2_behind_62 : decode cX2_behind 62 = .ok (.getfield 62, 3) := by decide +kernel
theorem dX2_behind_65 : decode cX2_behind 65 = .ok (.iload_n 1, 1) := by decide +kernel
theorem dX2_behind_66 : decode cX2_behind 66 = .ok (.iaload, 1) := by decide +kernel
theorem dX2_behind_67 : decode cX2_behind 67 = .ok (.iconst 1, 1) := by decide +kernel
theorem dX2_behind_68 : decode cX2_behind 68 = .ok (.if_icmp .ne 25, 3) := by decide +kernel
theorem dX2_behind_71 : decode cX2_behind 71 = .ok (.aload_n 0, 1) := by decide +kernel
theorem dX2_behind_72 : decode cX2_behind 72 = .ok (.getfield 93, 3) := by decide +kernel
theorem dX2_behind_75 : decode cX2_behind 75 = .ok (.ifCond .ne 18, 3) := by decide +kernel
theorem dX2_behind_78 : decode cX2_behind 78 = .ok (.aload_n 0, 1) := by decide +kernel
theorem dX2_behind_79 : decode cX2_behind 79 = .ok (.iload_n 1, 1) := by decide +kernel
theorem dX2_behind_80 : decode cX2_behind 80 = .ok (.aload_n 0, 1) := by decide +kernel
theorem dX2_behind_81 : decode cX2_behind 81 = .ok (.getfield 35, 3) := by decide +kernel
theorem dX2_behind_84 : decode cX2_behind 84 = .ok (.iload_n 2, 1) := by decide +kernel
theorem dX2_behind_85 : decode cX2_behind 85 = .ok (.iaload, 1) := by decide +kernel
theorem dX2_behind_86 : decode cX2_behind 86 = .ok (.lload_n 3, 1) := by decide +kernel
theorem dX2_behind_87 : decode cX2_behind 87 = .ok (.invokevirtual 122, 3) := by decide +kernel
theorem dX2_behind_90 : decode cX2_behind 90 = .ok (.goto 13, 3) := by decide +kernel
theorem dX2_behind_93 : decode cX2_behind 93 = .ok (.aload_n 0, 1) := by decide +kernel
theorem dX2_behind_94 : decode cX2_behind 94 = .ok (.dup, 1) := by decide +kernel
theorem dX2_behind_95 : decode cX2_behind 95 = .ok (.getfield 96, 3) := by decide +kernel
theorem dX2_behind_98 : decode cX2_behind 98 = .ok (.iconst 1, 1) := by decide +kernel
theorem dX2_behind_99 : decode cX2_behind 99 = .ok (.isub, 1) := by decide +kernel
theorem dX2_behind_100 : decode cX2_behind 100 = .ok (.putfield 96, 3) := by decide +kernel
theorem dX2_behind_103 : decode cX2_behind 103 = .ok (.return_, 1) := by decide +kernel
set_option maxRecDepth 20000 in
theorem ggX2_begins_X2_keep : GoodIn wsX2_begins wsX2_keep := goodIn_r _ [16, 10, 11, 56, 57, 58, 59, 60, 61, 62, 63, 64, 65, 66, 67, 68, 69, 70, 71, 72, 73, 74, 75, 76, 77, 78, 79, 80, 81, 82, 83] (by decide +kernel) (by decide +kernel)
set_option maxRecDepth 20000 in
theorem gX2_begins_X2_keep : GoodIn wsX2_begins (wsV RX2 115 RX2 yX2_keep wsX2_keep) := goodIn_app (goodIn_of _ (by decide +kernel)) ggX2_begins_X2_keep
set_option maxRecDepth 20000 in
theorem ggX2_begins_X2_ends : GoodIn wsX2_begins wsX2_ends := goodIn_r _ [20, 21, 22, 56, 57, 58, 59, 60, 61, 62, 63, 64, 65, 66, 67, 68, 69, 70, 71, 72, 73, 74, 75, 76, 77, 78, 79, 80, 81, 82, 83] (by decide +kernel) (by decide +kernel)
set_option maxRecDepth 20000 in
theorem gX2_begins_X2_ends : GoodIn wsX2_begins (wsV RX2 118 RX2 yX2_ends wsX2_ends) := goodIn_app (goodIn_of _ (by decide +kernel)) ggX2_begins_X2_ends
set_option maxRecDepth 20000 in
theorem ggX2_begins_X2_sends : GoodIn wsX2_begins wsX2_sends := goodIn_r _ [26, 27, 17, 18, 19, 15, 20, 21, 22, 28, 29, 30, 31, 32, 33, 56, 57, 58, 59, 60, 61, 62, 63, 64, 65, 66, 67, 68, 69, 70, 71, 72, 73, 74, 75, 76, 77, 78, 79, 80, 81, 82, 83] (by decide +kernel) (by decide +kernel)
set_option maxRecDepth 20000 in
theorem gX2_begins_X2_sends : GoodIn wsX2_begins (wsV RX2 125 RX2 yX2_sends wsX2_sends) := goodIn_app (goodIn_of _ (by decide +kernel)) ggX2_begins_X2_sends
set_option maxRecDepth 20000 in
theorem ggX2_begins_X2_goOn : GoodIn wsX2_begins wsX2_goOn := goodIn_r _ [37, 38, 39, 40, 41, 15, 42, 22, 21, 43, 44, 45, 56, 57, 58, 59, 60, 61, 62, 63, 64, 65, 66, 67, 68, 69, 70, 71, 72, 73, 74, 75, 76, 77, 78, 79, 80, 81, 82, 83] (by decide +kernel) (by decide +kernel)
set_option maxRecDepth 20000 in
theorem gX2_begins_X2_goOn : GoodIn wsX2_begins (wsV RX2 122 RX2 yX2_goOn wsX2_goOn) := goodIn_app (goodIn_of _ (by decide +kernel)) ggX2_begins_X2_goOn
set_option maxRecDepth 20000 in
theorem ggX2_begins_X2_shares : GoodIn wsX2_begins wsX2_shares := goodIn_r _ [49, 17, 18, 19, 15, 20, 21, 22, 12, 13, 14, 16, 10, 11, 56, 57, 58, 59, 60, 61, 62, 63, 64, 65, 66, 67, 68, 69, 70, 71, 72, 73, 74, 75, 76, 77, 78, 79, 80, 81, 82, 83] (by decide +kernel) (by decide +kernel)
set_option maxRecDepth 20000 in
theorem gX2_begins_X2_shares : GoodIn wsX2_begins (wsV RX2 128 RX2 yX2_shares wsX2_shares) := goodIn_app (goodIn_of _ (by decide +kernel)) ggX2_begins_X2_shares
set_option maxRecDepth 20000 in
theorem ggX2_begins_X2_isBox : GoodIn wsX2_begins wsX2_isBox := goodIn_r _ [52, 53, 54, 15, 55] (by decide +kernel) (by decide +kernel)
set_option maxRecDepth 20000 in
theorem gX2_begins_X2_isBox : GoodIn wsX2_begins (va_wsS RX2 76 yX2_isBox wsX2_isBox) := goodIn_app (goodIn_of _ (by decide +kernel)) ggX2_begins_X2_isBox
theorem dX2_begins_0 : decode cX2_begins 0 = .ok (.aload_n 0, 1) := by decide +kernel
theorem dX2_begins_1 : decode cX2_begins 1 = .ok (.getfield 23, 3) := by decide +kernel
theorem dX2_begins_4 : decode cX2_begins 4 = .ok (.iload_n 2, 1) := by decide +kernel
theorem dX2_begins_5 : decode cX2_begins 5 = .ok (.iaload, 1) := by decide +kernel
theorem dX2_begins_6 : decode cX2_begins 6 = .ok (.istore 5, 2) := by decide +kernel
theorem dX2_begins_8 : decode cX2_begins 8 = .ok (.aload_n 0, 1) := by decide +kernel
theorem dX2_begins_9 : decode cX2_begins 9 = .ok (.getfield 29, 3) := by decide +kernel
theorem dX2_begins_12 : decode cX2_begins 12 = .ok (.iload_n 2, 1) := by decide +kernel
theorem dX2_begins_13 : decode cX2_begins 13 = .ok (.laload, 1) := by decide +kernel
theorem dX2_begins_14 : decode cX2_begins 14 = .ok (.lstore 6, 2) := by decide +kernel
theorem dX2_begins_16 : decode cX2_begins 16 = .ok (.aload_n 0, 1) := by decide +kernel
theorem dX2_begins_17 : decode cX2_begins 17 = .ok (.getfield 17, 3) := by decide +kernel
theorem dX2_begins_20 : decode cX2_begins 20 = .ok (.iload_n 2, 1) := by decide +kernel
theorem dX2_begins_21 : decode cX2_begins 21 = .ok (.iaload, 1) := by decide +kernel
theorem dX2_begins_22 : decode cX2_begins 22 = .ok (.tableswitch 402 0 12 #[66, 81, 94, 112, 131, 180, 228, 402, 260, 278, 402, 317, 371], 66) := by decide +kernel
theorem dX2_begins_88 : decode cX2_begins 88 = .ok (.aload_n 0, 1) := by decide +kernel
theorem dX2_begins_89 : decode cX2_begins 89 = .ok (.iload 5, 2) := by decide +kernel
theorem dX2_begins_91 : decode cX2_begins 91 = .ok (.lload_n 3, 1) := by decide +kernel
theorem dX2_begins_92 : decode cX2_begins 92 = .ok (.invokevirtual 115, 3) := by decide +kernel
theorem dX2_begins_95 : decode cX2_begins 95 = .ok (.aload_n 0, 1) := by decide +kernel
theorem dX2_begins_96 : decode cX2_begins 96 = .ok (.iconst 0, 1) := by decide +kernel
theorem dX2_begins_97 : decode cX2_begins 97 = .ok (.invokevirtual 118, 3) := by decide +kernel
theorem dX2_begins_100 : decode cX2_begins 100 = .ok (.goto 336, 3) := by decide +kernel
theorem dX2_begins_103 : decode cX2_begins 103 = .ok (.aload_n 0, 1) := by decide +kernel
theorem dX2_begins_104 : decode cX2_begins 104 = .ok (.iload 5, 2) := by decide +kernel
theorem dX2_begins_106 : decode cX2_begins 106 = .ok (.lload_n 3, 1) := by decide +kernel
theorem dX2_begins_107 : decode cX2_begins 107 = .ok (.lload 6, 2) := by decide +kernel
theorem dX2_begins_109 : decode cX2_begins 109 = .ok (.ladd, 1) := by decide +kernel
theorem dX2_begins_110 : decode cX2_begins 110 = .ok (.invokevirtual 125, 3) := by decide +kernel
theorem dX2_begins_113 : decode cX2_begins 113 = .ok (.goto 323, 3) := by decide +kernel
theorem dX2_begins_116 : decode cX2_begins 116 = .ok (.aload_n 0, 1) := by decide +kernel
theorem dX2_begins_117 : decode cX2_begins 117 = .ok (.iload_n 1, 1) := by decide +kernel
theorem dX2_begins_118 : decode cX2_begins 118 = .ok (.aload_n 0, 1) := by decide +kernel
theorem dX2_begins_119 : decode cX2_begins 119 = .ok (.getfield 35, 3) := by decide +kernel
theorem dX2_begins_122 : decode cX2_begins 122 = .ok (.iload_n 2, 1) := by decide +kernel
theorem dX2_begins_123 : decode cX2_begins 123 = .ok (.iaload, 1) := by decide +kernel
theorem dX2_begins_124 : decode cX2_begins 124 = .ok (.lload_n 3, 1) := by decide +kernel
theorem dX2_begins_125 : decode cX2_begins 125 = .ok (.lload 6, 2) := by decide +kernel
theorem dX2_begins_127 : decode cX2_begins 127 = .ok (.ladd, 1) := by decide +kernel
theorem dX2_begins_128 : decode cX2_begins 128 = .ok (.invokevirtual 122, 3) := by decide +kernel
theorem dX2_begins_131 : decode cX2_begins 131 = .ok (.goto 305, 3) := by decide +kernel
theorem dX2_begins_134 : decode cX2_begins 134 = .ok (.aload_n 0, 1) := by decide +kernel
theorem dX2_begins_135 : decode cX2_begins 135 = .ok (.iload_n 1, 1) := by decide +kernel
theorem dX2_begins_136 : decode cX2_begins 136 = .ok (.aload_n 0, 1) := by decide +kernel
theorem dX2_begins_137 : decode cX2_begins 137 = .ok (.getfield 41, 3) := by decide +kernel
theorem dX2_begins_140 : decode cX2_begins 140 = .ok (.iload 5, 2) := by decide +kernel
theorem dX2_begins_142 : decode cX2_begins 142 = .ok (.iaload, 1) := by decide +kernel
theorem dX2_begins_143 : decode cX2_begins 143 = .ok (.lload_n 3, 1) := by decide +kernel
theorem dX2_begins_144 : decode cX2_begins 144 = .ok (.lload 6, 2) := by decide +kernel
theorem dX2_begins_146 : decode cX2_begins 146 = .ok (.ladd, 1) := by decide +kernel
theorem dX2_begins_147 : decode cX2_begins 147 = .ok (.invokevirtual 122, 3) := by decide +kernel
theorem dX2_begins_150 : decode cX2_begins 150 = .ok (.goto 286, 3) := by decide +kernel
theorem dX2_begins_153 : decode cX2_begins 153 = .ok (.lload 6, 2) := by decide +kernel
theorem dX2_begins_155 : decode cX2_begins 155 = .ok (.lconst 0, 1) := by decide +kernel
theorem dX2_begins_156 : decode cX2_begins 156 = .ok (.lcmp, 1) := by decide +kernel
theorem dX2_begins_157 : decode cX2_begins 157 = .ok (.ifCond .ne 11, 3) := by decide +kernel
theorem dX2_begins_160 : decode cX2_begins 160 = .ok (.aload_n 0, 1) := by decide +kernel
theorem dX2_begins_161 : decode cX2_begins 161 = .ok (.iconst 2, 1) := by decide +kernel
theorem dX2_begins_162 : decode cX2_begins 162 = .ok (.invokevirtual 118, 3) := by decide +kernel
theorem dX2_begins_165 : decode cX2_begins 165 = .ok (.goto 271, 3) := by decide +kernel
theorem dX2_begins_168 : decode cX2_begins 168 = .ok (.lload_n 3, 1) := by decide +kernel
theorem dX2_begins_169 : decode cX2_begins 169 = .ok (.lload 6, 2) := by decide +kernel
theorem dX2_begins_171 : decode cX2_begins 171 = .ok (.lrem, 1) := by decide +kernel
theorem dX2_begins_172 : decode cX2_begins 172 = .ok (.iload 5, 2) := by decide +kernel
theorem dX2_begins_174 : decode cX2_begins 174 = .ok (.i2l, 1) := by decide +kernel
theorem dX2_begins_175 : decode cX2_begins 175 = .ok (.lcmp, 1) := by decide +kernel
theorem dX2_begins_176 : decode cX2_begins 176 = .ok (.ifCond .ne 18, 3) := by decide +kernel
theorem dX2_begins_179 : decode cX2_begins 179 = .ok (.aload_n 0, 1) := by decide +kernel
theorem dX2_begins_180 : decode cX2_begins 180 = .ok (.iload_n 1, 1) := by decide +kernel
theorem dX2_begins_181 : decode cX2_begins 181 = .ok (.aload_n 0, 1) := by decide +kernel
theorem dX2_begins_182 : decode cX2_begins 182 = .ok (.getfield 32, 3) := by decide +kernel
theorem dX2_begins_185 : decode cX2_begins 185 = .ok (.iload_n 2, 1) := by decide +kernel
theorem dX2_begins_186 : decode cX2_begins 186 = .ok (.iaload, 1) := by decide +kernel
theorem dX2_begins_187 : decode cX2_begins 187 = .ok (.lload_n 3, 1) := by decide +kernel
theorem dX2_begins_188 : decode cX2_begins 188 = .ok (.invokevirtual 122, 3) := by decide +kernel
theorem dX2_begins_191 : decode cX2_begins 191 = .ok (.goto 245, 3) := by decide +kernel
theorem dX2_begins_194 : decode cX2_begins 194 = .ok (.aload_n 0, 1) := by decide +kernel
theorem dX2_begins_195 : decode cX2_begins 195 = .ok (.iconst 0, 1) := by decide +kernel
theorem dX2_begins_196 : decode cX2_begins 196 = .ok (.invokevirtual 118, 3) := by decide +kernel
theorem dX2_begins_199 : decode cX2_begins 199 = .ok (.goto 237, 3) := by decide +kernel
theorem dX2_begins_202 : decode cX2_begins 202 = .ok (.aload_n 0, 1) := by decide +kernel
theorem dX2_begins_203 : decode cX2_begins 203 = .ok (.getfield 38, 3) := by decide +kernel
theorem dX2_begins_206 : decode cX2_begins 206 = .ok (.iload_n 2, 1) := by decide +kernel
theorem dX2_begins_207 : decode cX2_begins 207 = .ok (.iaload, 1) := by decide +kernel
theorem dX2_begins_208 : decode cX2_begins 208 = .ok (.aload_n 0, 1) := by decide +kernel
theorem dX2_begins_209 : decode cX2_begins 209 = .ok (.getfield 26, 3) := by decide +kernel
theorem dX2_begins_212 : decode cX2_begins 212 = .ok (.iload_n 2, 1) := by decide +kernel
theorem dX2_begins_213 : decode cX2_begins 213 = .ok (.iaload, 1) := by decide +kernel
theorem dX2_begins_214 : decode cX2_begins 214 = .ok (.if_icmp .ne 11, 3) := by decide +kernel
theorem dX2_begins_217 : decode cX2_begins 217 = .ok (.aload_n 0, 1) := by decide +kernel
theorem dX2_begins_218 : decode cX2_begins 218 = .ok (.iconst 4, 1) := by decide +kernel
theorem dX2_begins_219 : decode cX2_begins 219 = .ok (.invokevirtual 118, 3) := by decide +kernel
theorem dX2_begins_222 : decode cX2_begins 222 = .ok (.goto 214, 3) := by decide +kernel
theorem dX2_begins_225 : decode cX2_begins 225 = .ok (.aload_n 0, 1) := by decide +kernel
theorem dX2_begins_226 : decode cX2_begins 226 = .ok (.getfield 38, 3) := by decide +kernel
theorem dX2_begins_229 : decode cX2_begins 229 = .ok (.iload_n 2, 1) := by decide +kernel
theorem dX2_begins_230 : decode cX2_begins 230 = .ok (.dup2, 1) := by decide +kernel
theorem dX2_begins_231 : decode cX2_begins 231 = .ok (.iaload, 1) := by decide +kernel
theorem dX2_begins_232 : decode cX2_begins 232 = .ok (.iconst 1, 1) := by decide +kernel
theorem dX2_begins_233 : decode cX2_begins 233 = .ok (.iadd, 1) := by decide +kernel
theorem dX2_begins_234 : decode cX2_begins 234 = .ok (.iastore, 1) := by decide +kernel
theorem dX2_begins_235 : decode cX2_begins 235 = .ok (.aload_n 0, 1) := by decide +kernel
theorem dX2_begins_236 : decode cX2_begins 236 = .ok (.iload_n 1, 1) := by decide +kernel
theorem dX2_begins_237 : decode cX2_begins 237 = .ok (.aload_n 0, 1) := by decide +kernel
theorem dX2_begins_238 : decode cX2_begins 238 = .ok (.getfield 32, 3) := by decide +kernel
theorem dX2_begins_241 : decode cX2_begins 241 = .ok (.iload_n 2, 1) := by decide +kernel
theorem dX2_begins_242 : decode cX2_begins 242 = .ok (.iaload, 1) := by decide +kernel
theorem dX2_begins_243 : decode cX2_begins 243 = .ok (.lload_n 3, 1) := by decide +kernel
theorem dX2_begins_244 : decode cX2_begins 244 = .ok (.invokevirtual 122, 3) := by decide +kernel
theorem dX2_begins_247 : decode cX2_begins 247 = .ok (.goto 189, 3) := by decide +kernel
theorem dX2_begins_250 : decode cX2_begins 250 = .ok (.aload_n 0, 1) := by decide +kernel
theorem dX2_begins_251 : decode cX2_begins 251 = .ok (.iload 5, 2) := by decide +kernel
theorem dX2_begins_253 : decode cX2_begins 253 = .ok (.lload_n 3, 1) := by decide +kernel
theorem dX2_begins_254 : decode cX2_begins 254 = .ok (.invokevirtual 115, 3) := by decide +kernel
theorem dX2_begins_257 : decode cX2_begins 257 = .ok (.aload_n 0, 1) := by decide +kernel
theorem dX2_begins_258 : decode cX2_begins 258 = .ok (.getfield 41, 3) := by decide +kernel
theorem dX2_begins_261 : decode cX2_begins 261 = .ok (.aload_n 0, 1) := by decide +kernel
theorem dX2_begins_262 : decode cX2_begins 262 = .ok (.getfield 20, 3) := by decide +kernel
theorem dX2_begins_265 : decode cX2_begins 265 = .ok (.iload_n 2, 1) := by decide +kernel
theorem dX2_begins_266 : decode cX2_begins 266 = .ok (.iaload, 1) := by decide +kernel
theorem dX2_begins_267 : decode cX2_begins 267 = .ok (.aload_n 0, 1) := by decide +kernel
theorem dX2_begins_268 : decode cX2_begins 268 = .ok (.getfield 32, 3) := by decide +kernel
theorem dX2_begins_271 : decode cX2_begins 271 = .ok (.iload_n 2, 1) := by decide +kernel
theorem dX2_begins_272 : decode cX2_begins 272 = .ok (.iaload, 1) := by decide +kernel
theorem dX2_begins_273 : decode cX2_begins 273 = .ok (.iastore, 1) := by decide +kernel
theorem dX2_begins_274 : decode cX2_begins 274 = .ok (.aload_n 0, 1) := by decide +kernel
theorem dX2_begins_275 : decode cX2_begins 275 = .ok (.iconst 0, 1) := by decide +kernel
theorem dX2_begins_276 : decode cX2_begins 276 = .ok (.invokevirtual 118, 3) := by decide +kernel
theorem dX2_begins_279 : decode cX2_begins 279 = .ok (.goto 157, 3) := by decide +kernel
theorem dX2_begins_282 : decode cX2_begins 282 = .ok (.aload_n 0, 1) := by decide +kernel
theorem dX2_begins_283 : decode cX2_begins 283 = .ok (.iload 5, 2) := by decide +kernel
theorem dX2_begins_285 : decode cX2_begins 285 = .ok (.aload_n 0, 1) := by decide +kernel
theorem dX2_begins_286 : decode cX2_begins 286 = .ok (.getfield 26, 3) := by decide +kernel
theorem dX2_begins_289 : decode cX2_begins 289 = .ok (.iload_n 2, 1) := by decide +kernel
theorem dX2_begins_290 : decode cX2_begins 290 = .ok (.iaload, 1) := by decide +kernel
theorem dX2_begins_291 : decode cX2_begins 291 = .ok (.lload_n 3, 1) := by decide +kernel
theorem dX2_begins_292 : decode cX2_begins 292 = .ok (.lload 6, 2) := by decide +kernel
theorem dX2_begins_294 : decode cX2_begins 294 = .ok (.invokevirtual 128, 3) := by decide +kernel
theorem dX2_begins_297 : decode cX2_begins 297 = .ok (.goto 139, 3) := by decide +kernel
theorem dX2_begins_300 : decode cX2_begins 300 = .ok (.lload_n 3, 1) := by decide +kernel
theorem dX2_begins_301 : decode cX2_begins 301 = .ok (.l2i, 1) := by decide +kernel
theorem dX2_begins_302 : decode cX2_begins 302 = .ok (.istore 8, 2) := by decide +kernel
theorem dX2_begins_304 : decode cX2_begins 304 = .ok (.iload 8, 2) := by decide +kernel
theorem dX2_begins_306 : decode cX2_begins 306 = .ok (.invokestatic 76, 3) := by decide +kernel
theorem dX2_begins_309 : decode cX2_begins 309 = .ok (.ifCond .eq 10, 3) := by decide +kernel
theorem dX2_begins_312 : decode cX2_begins 312 = .ok (.aload_n 0, 1) := by decide +kernel
theorem dX2_begins_313 : decode cX2_begins 313 = .ok (.iload 8, 2) := by decide +kernel
theorem dX2_begins_315 : decode cX2_begins 315 = .ok (.lconst 1, 1) := by decide +kernel
theorem dX2_begins_316 : decode cX2_begins 316 = .ok (.invokevirtual 115, 3) := by decide +kernel
theorem dX2_begins_319 : decode cX2_begins 319 = .ok (.aload_n 0, 1) := by decide +kernel
theorem dX2_begins_320 : decode cX2_begins 320 = .ok (.iload 8, 2) := by decide +kernel
theorem dX2_begins_322 : decode cX2_begins 322 = .ok (.invokestatic 76, 3) := by decide +kernel
theorem dX2_begins_325 : decode cX2_begins 325 = .ok (.ifCond .eq 7, 3) := by decide +kernel
theorem dX2_begins_328 : decode cX2_begins 328 = .ok (.iconst 0, 1) := by decide +kernel
theorem dX2_begins_329 : decode cX2_begins 329 = .ok (.goto 4, 3) := by decide +kernel
theorem dX2_begins_332 : decode cX2_begins 332 = .ok (.iconst 3, 1) := by decide +kernel
theorem dX2_begins_333 : decode cX2_begins 333 = .ok (.invokevirtual 118, 3) := by decide +kernel
theorem dX2_begins_336 : decode cX2_begins 336 = .ok (.goto 100, 3) := by decide +kernel
theorem dX2_begins_339 : decode cX2_begins 339 = .ok (.aload_n 0, 1) := by decide +kernel
theorem dX2_begins_340 : decode cX2_begins 340 = .ok (.iload 5, 2) := by decide +kernel
theorem dX2_begins_342 : decode cX2_begins 342 = .ok (.lload_n 3, 1) := by decide +kernel
theorem dX2_begins_343 : decode cX2_begins 343 = .ok (.invokevirtual 115, 3) := by decide +kernel
theorem dX2_begins_346 : decode cX2_begins 346 = .ok (.aload_n 0, 1) := by decide +kernel
theorem dX2_begins_347 : decode cX2_begins 347 = .ok (.getfield 32, 3) := by decide +kernel
theorem dX2_begins_350 : decode cX2_begins 350 = .ok (.iload_n 2, 1) := by decide +kernel
theorem dX2_begins_351 : decode cX2_begins 351 = .ok (.iaload, 1) := by decide +kernel
theorem dX2_begins_352 : decode cX2_begins 352 = .ok (.ifCond .ge 11, 3) := by decide +kernel
theorem dX2_begins_355 : decode cX2_begins 355 = .ok (.aload_n 0, 1) := by decide +kernel
theorem dX2_begins_356 : decode cX2_begins 356 = .ok (.iconst 0, 1) := by decide +kernel
theorem dX2_begins_357 : decode cX2_begins 357 = .ok (.invokevirtual 118, 3) := by decide +kernel
theorem dX2_begins_360 : decode cX2_begins 360 = .ok (.goto 76, 3) := by decide +kernel
theorem dX2_begins_363 : decode cX2_begins 363 = .ok (.aload_n 0, 1) := by decide +kernel
theorem dX2_begins_364 : decode cX2_begins 364 = .ok (.iload_n 1, 1) := by decide +kernel
theorem dX2_begins_365 : decode cX2_begins 365 = .ok (.aload_n 0, 1) := by decide +kernel
theorem dX2_begins_366 : decode cX2_begins 366 = .ok (.getfield 32, 3) := by decide +kernel
theorem dX2_begins_369 : decode cX2_begins 369 = .ok (.iload_n 2, 1) := by decide +kernel
theorem dX2_begins_370 : decode cX2_begins 370 = .ok (.iaload, 1) := by decide +kernel
theorem dX2_begins_371 : decode cX2_begins 371 = .ok (.aload_n 0, 1) := by decide +kernel
theorem dX2_begins_372 : decode cX2_begins 372 = .ok (.getfield 7, 3) := by decide +kernel
theorem dX2_begins_375 : decode cX2_begins 375 = .ok (.iload 5, 2) := by decide +kernel
theorem dX2_begins_377 : decode cX2_begins 377 = .ok (.laload, 1) := by decide +kernel
theorem dX2_begins_378 : decode cX2_begins 378 = .ok (.aload_n 0, 1) := by decide +kernel
theorem dX2_begins_379 : decode cX2_begins 379 = .ok (.getfield 13, 3) := by decide +kernel
theorem dX2_begins_382 : decode cX2_begins 382 = .ok (.iload 5, 2) := by decide +kernel
theorem dX2_begins_384 : decode cX2_begins 384 = .ok (.iaload, 1) := by decide +kernel
theorem dX2_begins_385 : decode cX2_begins 385 = .ok (.i2l, 1) := by decide +kernel
theorem dX2_begins_386 : decode cX2_begins 386 = .ok (.ldiv, 1) := by decide +kernel
theorem dX2_begins_387 : decode cX2_begins 387 = .ok (.invokevirtual 122, 3) := by decide +kernel
theorem dX2_begins_390 : decode cX2_begins 390 = .ok (.goto 46, 3) := by decide +kernel
theorem dX2_begins_393 : decode cX2_begins 393 = .ok (.aload_n 0, 1) := by decide +kernel
theorem dX2_begins_394 : decode cX2_begins 394 = .ok (.iconst 1, 1) := by decide +kernel
theorem dX2_begins_395 : decode cX2_begins 395 = .ok (.lload_n 3, 1) := by decide +kernel
theorem dX2_begins_396 : decode cX2_begins 396 = .ok (.invokevirtual 115, 3) := by decide +kernel
theorem dX2_begins_399 : decode cX2_begins 399 = .ok (.lload_n 3, 1) := by decide +kernel
theorem dX2_begins_400 : decode cX2_begins 400 = .ok (.lconst 1, 1) := by decide +kernel
theorem dX2_begins_401 : decode cX2_begins 401 = .ok (.lcmp, 1) := by decide +kernel
theorem dX2_begins_402 : decode cX2_begins 402 = .ok (.ifCond .le 14, 3) := by decide +kernel
theorem dX2_begins_405 : decode cX2_begins 405 = .ok (.aload_n 0, 1) := by decide +kernel
theorem dX2_begins_406 : decode cX2_begins 406 = .ok (.iconst 0, 1) := by decide +kernel
theorem dX2_begins_407 : decode cX2_begins 407 = .ok (.lload_n 3, 1) := by decide +kernel
theorem dX2_begins_408 : decode cX2_begins 408 = .ok (.lconst 1, 1) := by decide +kernel
theorem dX2_begins_409 : decode cX2_begins 409 = .ok (.lsub, 1) := by decide +kernel
theorem dX2_begins_410 : decode cX2_begins 410 = .ok (.invokevirtual 125, 3) := by decide +kernel
theorem dX2_begins_413 : decode cX2_begins 413 = .ok (.goto 23, 3) := by decide +kernel
theorem dX2_begins_416 : decode cX2_begins 416 = .ok (.aload_n 0, 1) := by decide +kernel
theorem dX2_begins_417 : decode cX2_begins 417 = .ok (.iconst 0, 1) := by decide +kernel
theorem dX2_begins_418 : decode cX2_begins 418 = .ok (.invokevirtual 118, 3) := by decide +kernel
theorem dX2_begins_421 : decode cX2_begins 421 = .ok (.goto 15, 3) := by decide +kernel
theorem dX2_begins_424 : decode cX2_begins 424 = .ok (.aload_n 0, 1) := by decide +kernel
theorem dX2_begins_425 : decode cX2_begins 425 = .ok (.iload_n 1, 1) := by decide +kernel
theorem dX2_begins_426 : decode cX2_begins 426 = .ok (.aload_n 0, 1) := by decide +kernel
theorem dX2_begins_427 : decode cX2_begins 427 = .ok (.getfield 32, 3) := by decide +kernel
theorem dX2_begins_430 : decode cX2_begins 430 = .ok (.iload_n 2, 1) := by decide +kernel
theorem dX2_begins_431 : decode cX2_begins 431 = .ok (.iaload, 1) := by decide +kernel
theorem dX2_begins_432 : decode cX2_begins 432 = .ok (.lload_n 3, 1) := by decide +kernel
theorem dX2_begins_433 : decode cX2_begins 433 = .ok (.invokevirtual 122, 3) := by decide +kernel
theorem dX2_begins_436 : decode cX2_begins 436 = .ok (.return_, 1) := by decide +kernel
set_option maxRecDepth 20000 in
theorem ggX2_sends_X2_ends : GoodIn wsX2_sends wsX2_ends := goodIn_r _ [6, 7, 8, 15, 16, 17, 18, 19, 20, 21, 22, 23, 24, 25, 26, 27, 28, 29, 30, 31, 32, 33, 34, 35, 36, 37, 38, 39, 40, 41, 42] (by decide +kernel) (by decide +kernel)
set_option maxRecDepth 20000 in
theorem gX2_sends_X2_ends : GoodIn wsX2_sends (wsV RX2 118 RX2 yX2_ends wsX2_ends) := goodIn_app (goodIn_of _ (by decide +kernel)) ggX2_sends_X2_ends
set_option maxRecDepth 20000 in
theorem ggX2_sends_X2_comes : GoodIn wsX2_sends wsX2_comes := goodIn_r _ [12, 13, 1, 14, 15, 16, 17, 18, 19, 20, 21, 22, 23, 24, 25, 26, 27, 28, 29, 30, 31, 32, 33, 34, 35, 36, 37, 38, 39, 40, 41, 42] (by decide +kernel) (by decide +kernel)
set_option maxRecDepth 20000 in
theorem gX2_sends_X2_comes : GoodIn wsX2_sends (wsV RX2 89 RX2 yX2_comes wsX2_comes) := goodIn_app (goodIn_of _ (by decide +kernel)) ggX2_sends_X2_comes
theorem dX2_sends_0 : decode cX2_sends 0 = .ok (.aload_n 0, 1) := by decide +kernel
theorem dX2_sends_1 : decode cX2_sends 1 = .ok (.getfield 86, 3) := by decide +kernel
theorem dX2_sends_4 : decode cX2_sends 4 = .ok (.bipush 40, 2) := by decide +kernel
theorem dX2_sends_6 : decode cX2_sends 6 = .ok (.if_icmp .ne 11, 3) := by decide +kernel
theorem dX2_sends_9 : decode cX2_sends 9 = .ok (.aload_n 0, 1) := by decide +kernel
theorem dX2_sends_10 : decode cX2_sends 10 = .ok (.iconst 5, 1) := by decide +kernel
theorem dX2_sends_11 : decode cX2_sends 11 = .ok (.invokevirtual 118, 3) := by decide +kernel
theorem dX2_sends_14 : decode cX2_sends 14 = .ok (.goto 14, 3) := by decide +kernel
theorem dX2_sends_17 : decode cX2_sends 17 = .ok (.aload_n 0, 1) := by decide +kernel
theorem dX2_sends_18 : decode cX2_sends 18 = .ok (.iload_n 1, 1) := by decide +kernel
theorem dX2_sends_19 : decode cX2_sends 19 = .ok (.lload_n 2, 1) := by decide +kernel
theorem dX2_sends_20 : decode cX2_sends 20 = .ok (.invokevirtual 89, 3) := by decide +kernel
theorem dX2_sends_23 : decode cX2_sends 23 = .ok (.aload_n 0, 1) := by decide +kernel
theorem dX2_sends_24 : decode cX2_sends 24 = .ok (.iconst 0, 1) := by decide +kernel
theorem dX2_sends_25 : decode cX2_sends 25 = .ok (.invokevirtual 118, 3) := by decide +kernel
theorem dX2_sends_28 : decode cX2_sends 28 = .ok (.return_, 1) := by decide +kernel
set_option maxRecDepth 20000 in
theorem ggX2_shares_X2_ends : GoodIn wsX2_shares wsX2_ends := goodIn_r _ [5, 6, 7, 14, 15, 16, 17, 18, 19, 20, 21, 22, 23, 24, 25, 26, 27, 28, 29, 30, 31, 32, 33, 34, 35, 36, 37, 38, 39, 40, 41] (by decide +kernel) (by decide +kernel)
set_option maxRecDepth 20000 in
theorem gX2_shares_X2_ends : GoodIn wsX2_shares (wsV RX2 118 RX2 yX2_ends wsX2_ends) := goodIn_app (goodIn_of _ (by decide +kernel)) ggX2_shares_X2_ends
set_option maxRecDepth 20000 in
theorem ggX2_shares_X2_keep : GoodIn wsX2_shares wsX2_keep := goodIn_r _ [11, 12, 13, 14, 15, 16, 17, 18, 19, 20, 21, 22, 23, 24, 25, 26, 27, 28, 29, 30, 31, 32, 33, 34, 35, 36, 37, 38, 39, 40, 41] (by decide +kernel) (by decide +kernel)
set_option maxRecDepth 20000 in
theorem gX2_shares_X2_keep : GoodIn wsX2_shares (wsV RX2 115 RX2 yX2_keep wsX2_keep) := goodIn_app (goodIn_of _ (by decide +kernel)) ggX2_shares_X2_keep
theorem dX2_shares_0 : decode cX2_shares 0 = .ok (.lload 5, 2) := by decide +kernel
theorem dX2_shares_2 : decode cX2_shares 2 = .ok (.lconst 0, 1) := by decide +kernel
theorem dX2_shares_3 : decode cX2_shares 3 = .ok (.lcmp, 1) := by decide +kernel
theorem dX2_shares_4 : decode cX2_shares 4 = .ok (.ifCond .ne 11, 3) := by decide +kernel
theorem dX2_shares_7 : decode cX2_shares 7 = .ok (.aload_n 0, 1) := by decide +kernel
theorem dX2_shares_8 : decode cX2_shares 8 = .ok (.iconst 2, 1) := by decide +kernel
theorem dX2_shares_9 : decode cX2_shares 9 = .ok (.invokevirtual 118, 3) := by decide +kernel
theorem dX2_shares_12 : decode cX2_shares 12 = .ok (.goto 26, 3) := by decide +kernel
theorem dX2_shares_15 : decode cX2_shares 15 = .ok (.aload_n 0, 1) := by decide +kernel
theorem dX2_shares_16 : decode cX2_shares 16 = .ok (.iload_n 1, 1) := by decide +kernel
theorem dX2_shares_17 : decode cX2_shares 17 = .ok (.lload_n 3, 1) := by decide +kernel
theorem dX2_shares_18 : decode cX2_shares 18 = .ok (.lload 5, 2) := by decide +kernel
theorem dX2_shares_20 : decode cX2_shares 20 = .ok (.ldiv, 1) := by decide +kernel
theorem dX2_shares_21 : decode cX2_shares 21 = .ok (.invokevirtual 115, 3) := by decide +kernel
theorem dX2_shares_24 : decode cX2_shares 24 = .ok (.aload_n 0, 1) := by decide +kernel
theorem dX2_shares_25 : decode cX2_shares 25 = .ok (.iload_n 2, 1) := by decide +kernel
theorem dX2_shares_26 : decode cX2_shares 26 = .ok (.lload_n 3, 1) := by decide +kernel
theorem dX2_shares_27 : decode cX2_shares 27 = .ok (.lload 5, 2) := by decide +kernel
theorem dX2_shares_29 : decode cX2_shares 29 = .ok (.lrem, 1) := by decide +kernel
theorem dX2_shares_30 : decode cX2_shares 30 = .ok (.invokevirtual 115, 3) := by decide +kernel
theorem dX2_shares_33 : decode cX2_shares 33 = .ok (.aload_n 0, 1) := by decide +kernel
theorem dX2_shares_34 : decode cX2_shares 34 = .ok (.iconst 0, 1) := by decide +kernel
theorem dX2_shares_35 : decode cX2_shares 35 = .ok (.invokevirtual 118, 3) := by decide +kernel
theorem dX2_shares_38 : decode cX2_shares 38 = .ok (.return_, 1) := by decide +kernel
set_option maxRecDepth 20000 in
theorem ggX2_take_X2_in : GoodIn wsX2_take wsX2_in := goodIn_r _ [11] (by decide +kernel) (by decide +kernel)
set_option maxRecDepth 20000 in
theorem gX2_take_X2_in : GoodIn wsX2_take (va_wsS RX2 72 yX2_in wsX2_in) := goodIn_app (goodIn_of _ (by decide +kernel)) ggX2_take_X2_in
set_option maxRecDepth 20000 in
theorem ggX2_take_X2_go : GoodIn wsX2_take wsX2_go := goodIn_r _ [15, 16, 17, 18, 19, 20, 1, 21, 22, 23, 10, 24, 7, 25, 26, 27, 28, 29, 30, 31, 32, 6, 33, 34, 35, 36, 37, 38, 39, 40, 41, 42, 43, 44, 45, 46, 47, 48, 49, 50, 2, 51, 52, 53, 54, 3, 4, 55, 56, 57, 58, 59, 60, 61, 62, 63, 64, 65, 8, 9, 11, 66, 67, 68, 69, 79, 80, 81, 82, 83, 84, 85, 86, 87, 88, 89, 90, 91, 92, 93, 94, 95, 96, 97, 98, 99, 100, 101, 102, 103, 104, 105, 106] (by decide +kernel) (by decide +kernel)
set_option maxRecDepth 20000 in
theorem gX2_take_X2_go : GoodIn wsX2_take (wsV RX2 135 RX2 yX2_go wsX2_go) := goodIn_app (goodIn_of _ (by decide +kernel)) ggX2_take_X2_go
set_option maxRecDepth 20000 in
theorem ggX2_take_X2_falls : GoodIn wsX2_take wsX2_falls := goodIn_r _ [73, 74, 75, 76, 77, 7, 78, 79, 80, 81, 82, 83, 84, 85, 86, 87, 88, 89, 90, 91, 92, 93, 94, 95, 96, 97, 98, 99, 100, 101, 102, 103, 104, 105, 106] (by decide +kernel) (by decide +kernel)
set_option maxRecDepth 20000 in
theorem gX2_take_X2_falls : GoodIn wsX2_take (wsV RX2 138 RX2 yX2_falls wsX2_falls) := goodIn_app (goodIn_of _ (by decide +kernel)) ggX2_take_X2_falls
theorem dX2_take_0 : decode cX2_take 0 = .ok (.iload_n 1, 1) := by decide +kernel
theorem dX2_take_1 : decode cX2_take 1 = .ok (.iconst 1, 1) := by decide +kernel
theorem dX2_take_2 : decode cX2_take 2 = .ok (.bipush 6, 2) := by decide +kernel
theorem dX2_take_4 : decode cX2_take 4 = .ok (.invokestatic 72, 3) := by decide +kernel
theorem dX2_take_7 : decode cX2_take 7 = .ok (.ifCond .ne 6, 3) := by decide +kernel
theorem dX2_take_10 : decode cX2_take 10 = .ok (.bipush (-3), 2) := by decide +kernel
theorem dX2_take_12 : decode cX2_take 12 = .ok (.ireturn, 1) := by decide +kernel
theorem dX2_take_13 : decode cX2_take 13 = .ok (.aload_n 0, 1) := by decide +kernel
theorem dX2_take_14 : decode cX2_take 14 = .ok (.iconst 0, 1) := by decide +kernel
theorem dX2_take_15 : decode cX2_take 15 = .ok (.putfield 112, 3) := by decide +kernel
theorem dX2_take_18 : decode cX2_take 18 = .ok (.iconst 0, 1) := by decide +kernel
theorem dX2_take_19 : decode cX2_take 19 = .ok (.istore_n 2, 1) := by decide +kernel
theorem dX2_take_20 : decode cX2_take 20 = .ok (.iload_n 2, 1) := by decide +kernel
theorem dX2_take_21 : decode cX2_take 21 = .ok (.iload_n 1, 1) := by decide +kernel
theorem dX2_take_22 : decode cX2_take 22 = .ok (.if_icmp .ge 127, 3) := by decide +kernel
theorem dX2_take_25 : decode cX2_take 25 = .ok (.aload_n 0, 1) := by decide +kernel
theorem dX2_take_26 : decode cX2_take 26 = .ok (.getfield 86, 3) := by decide +kernel
theorem dX2_take_29 : decode cX2_take 29 = .ok (.ifCond .le 120, 3) := by decide +kernel
theorem dX2_take_32 : decode cX2_take 32 = .ok (.aload_n 0, 1) := by decide +kernel
theorem dX2_take_33 : decode cX2_take 33 = .ok (.getfield 44, 3) := by decide +kernel
theorem dX2_take_36 : decode cX2_take 36 = .ok (.iconst 0, 1) := by decide +kernel
theorem dX2_take_37 : decode cX2_take 37 = .ok (.iaload, 1) := by decide +kernel
theorem dX2_take_38 : decode cX2_take 38 = .ok (.istore_n 3, 1) := by decide +kernel
theorem dX2_take_39 : decode cX2_take 39 = .ok (.aload_n 0, 1) := by decide +kernel
theorem dX2_take_40 : decode cX2_take 40 = .ok (.getfield 47, 3) := by decide +kernel
theorem dX2_take_43 : decode cX2_take 43 = .ok (.iconst 0, 1) := by decide +kernel
theorem dX2_take_44 : decode cX2_take 44 = .ok (.laload, 1) := by decide +kernel
theorem dX2_take_45 : decode cX2_take 45 = .ok (.lstore 4, 2) := by decide +kernel
theorem dX2_take_47 : decode cX2_take 47 = .ok (.aload_n 0, 1) := by decide +kernel
theorem dX2_take_48 : decode cX2_take 48 = .ok (.dup, 1) := by decide +kernel
theorem dX2_take_49 : decode cX2_take 49 = .ok (.getfield 86, 3) := by decide +kernel
theorem dX2_take_52 : decode cX2_take 52 = .ok (.iconst 1, 1) := by decide +kernel
theorem dX2_take_53 : decode cX2_take 53 = .ok (.isub, 1) := by decide +kernel
theorem dX2_take_54 : decode cX2_take 54 = .ok (.putfield 86, 3) := by decide +kernel
theorem dX2_take_57 : decode cX2_take 57 = .ok (.iconst 0, 1) := by decide +kernel
theorem dX2_take_58 : decode cX2_take 58 = .ok (.istore 6, 2) := by decide +kernel
theorem dX2_take_60 : decode cX2_take 60 = .ok (.iload 6, 2) := by decide +kernel
theorem dX2_take_62 : decode cX2_take 62 = .ok (.aload_n 0, 1) := by decide +kernel
theorem dX2_take_63 : decode cX2_take 63 = .ok (.getfield 86, 3) := by decide +kernel
theorem dX2_take_66 : decode cX2_take 66 = .ok (.if_icmp .ge 41, 3) := by decide +kernel
theorem dX2_take_69 : decode cX2_take 69 = .ok (.aload_n 0, 1) := by decide +kernel
theorem dX2_take_70 : decode cX2_take 70 = .ok (.getfield 44, 3) := by decide +kernel
theorem dX2_take_73 : decode cX2_take 73 = .ok (.iload 6, 2) := by decide +kernel
theorem dX2_take_75 : decode cX2_take 75 = .ok (.aload_n 0, 1) := by decide +kernel
theorem dX2_take_76 : decode cX2_take 76 = .ok (.getfield 44, 3) := by decide +kernel
theorem dX2_take_79 : decode cX2_take 79 = .ok (.iload 6, 2) := by decide +kernel
theorem dX2_take_81 : decode cX2_take 81 = .ok (.iconst 1, 1) := by decide +kernel
theorem dX2_take_82 : decode cX2_take 82 = .ok (.iadd, 1) := by decide +kernel
theorem dX2_take_83 : decode cX2_take 83 = .ok (.iaload, 1) := by decide +kernel
theorem dX2_take_84 : decode cX2_take 84 = .ok (.iastore, 1) := by decide +kernel
theorem dX2_take_85 : decode cX2_take 85 = .ok (.aload_n 0, 1) := by decide +kernel
theorem dX2_take_86 : decode cX2_take 86 = .ok (.getfield 47, 3) := by decide +kernel
theorem dX2_take_89 : decode cX2_take 89 = .ok (.iload 6, 2) := by decide +kernel
theorem dX2_take_91 : decode cX2_take 91 = .ok (.aload_n 0, 1) := by decide +kernel
theorem dX2_take_92 : decode cX2_take 92 = .ok (.getfield 47, 3) := by decide +kernel
theorem dX2_take_95 : decode cX2_take 95 = .ok (.iload 6, 2) := by decide +kernel
theorem dX2_take_97 : decode cX2_take 97 = .ok (.iconst 1, 1) := by decide +kernel
theorem dX2_take_98 : decode cX2_take 98 = .ok (.iadd, 1) := by decide +kernel
theorem dX2_take_99 : decode cX2_take 99 = .ok (.laload, 1) := by decide +kernel
theorem dX2_take_100 : decode cX2_take 100 = .ok (.lastore, 1) := by decide +kernel
theorem dX2_take_101 : decode cX2_take 101 = .ok (.iinc 6 1, 3) := by decide +kernel
theorem dX2_take_104 : decode cX2_take 104 = .ok (.goto (-44), 3) := by decide +kernel
theorem dX2_take_107 : decode cX2_take 107 = .ok (.iinc 2 1, 3) := by decide +kernel
theorem dX2_take_110 : decode cX2_take 110 = .ok (.aload_n 0, 1) := by decide +kernel
theorem dX2_take_111 : decode cX2_take 111 = .ok (.dup, 1) := by decide +kernel
theorem dX2_take_112 : decode cX2_take 112 = .ok (.getfield 132, 3) := by decide +kernel
theorem dX2_take_115 : decode cX2_take 115 = .ok (.iconst 1, 1) := by decide +kernel
theorem dX2_take_116 : decode cX2_take 116 = .ok (.iadd, 1) := by decide +kernel
theorem dX2_take_117 : decode cX2_take 117 = .ok (.putfield 132, 3) := by decide +kernel
theorem dX2_take_120 : decode cX2_take 120 = .ok (.aload_n 0, 1) := by decide +kernel
theorem dX2_take_121 : decode cX2_take 121 = .ok (.aload_n 0, 1) := by decide +kernel
theorem dX2_take_122 : decode cX2_take 122 = .ok (.getfield 41, 3) := by decide +kernel
theorem dX2_take_125 : decode cX2_take 125 = .ok (.iload_n 3, 1) := by decide +kernel
theorem dX2_take_126 : decode cX2_take 126 = .ok (.iaload, 1) := by decide +kernel
theorem dX2_take_127 : decode cX2_take 127 = .ok (.lload 4, 2) := by decide +kernel
theorem dX2_take_129 : decode cX2_take 129 = .ok (.invokevirtual 135, 3) := by decide +kernel
theorem dX2_take_132 : decode cX2_take 132 = .ok (.aload_n 0, 1) := by decide +kernel
theorem dX2_take_133 : decode cX2_take 133 = .ok (.getfield 93, 3) := by decide +kernel
theorem dX2_take_136 : decode cX2_take 136 = .ok (.ifCond .eq 10, 3) := by decide +kernel
theorem dX2_take_139 : decode cX2_take 139 = .ok (.aload_n 0, 1) := by decide +kernel
theorem dX2_take_140 : decode cX2_take 140 = .ok (.iload_n 3, 1) := by decide +kernel
theorem dX2_take_141 : decode cX2_take 141 = .ok (.lload 4, 2) := by decide +kernel
theorem dX2_take_143 : decode cX2_take 143 = .ok (.invokevirtual 138, 3) := by decide +kernel
theorem dX2_take_146 : decode cX2_take 146 = .ok (.goto (-126), 3) := by decide +kernel
theorem dX2_take_149 : decode cX2_take 149 = .ok (.iload_n 2, 1) := by decide +kernel
theorem dX2_take_150 : decode cX2_take 150 = .ok (.ireturn, 1) := by decide +kernel
theorem dX2_falls_0 : decode cX2_falls 0 = .ok (.aload_n 0, 1) := by decide +kernel
theorem dX2_falls_1 : decode cX2_falls 1 = .ok (.dup, 1) := by decide +kernel
theorem dX2_falls_2 : decode cX2_falls 2 = .ok (.getfield 141, 3) := by decide +kernel
theorem dX2_falls_5 : decode cX2_falls 5 = .ok (.iconst 1, 1) := by decide +kernel
theorem dX2_falls_6 : decode cX2_falls 6 = .ok (.iadd, 1) := by decide +kernel
theorem dX2_falls_7 : decode cX2_falls 7 = .ok (.putfield 141, 3) := by decide +kernel
theorem dX2_falls_10 : decode cX2_falls 10 = .ok (.aload_n 0, 1) := by decide +kernel
theorem dX2_falls_11 : decode cX2_falls 11 = .ok (.getfield 144, 3) := by decide +kernel
theorem dX2_falls_14 : decode cX2_falls 14 = .ok (.bipush 30, 2) := by decide +kernel
theorem dX2_falls_16 : decode cX2_falls 16 = .ok (.if_icmp .ge 46, 3) := by decide +kernel
theorem dX2_falls_19 : decode cX2_falls 19 = .ok (.aload_n 0, 1) := by decide +kernel
theorem dX2_falls_20 : decode cX2_falls 20 = .ok (.getfield 50, 3) := by decide +kernel
theorem dX2_falls_23 : decode cX2_falls 23 = .ok (.aload_n 0, 1) := by decide +kernel
theorem dX2_falls_24 : decode cX2_falls 24 = .ok (.getfield 144, 3) := by decide +kernel
theorem dX2_falls_27 : decode cX2_falls 27 = .ok (.iload_n 1, 1) := by decide +kernel
theorem dX2_falls_28 : decode cX2_falls 28 = .ok (.iastore, 1) := by decide +kernel
theorem dX2_falls_29 : decode cX2_falls 29 = .ok (.aload_n 0, 1) := by decide +kernel
theorem dX2_falls_30 : decode cX2_falls 30 = .ok (.getfield 53, 3) := by decide +kernel
theorem dX2_falls_33 : decode cX2_falls 33 = .ok (.aload_n 0, 1) := by decide +kernel
theorem dX2_falls_34 : decode cX2_falls 34 = .ok (.getfield 144, 3) := by decide +kernel
theorem dX2_falls_37 : decode cX2_falls 37 = .ok (.aload_n 0, 1) := by decide +kernel
theorem dX2_falls_38 : decode cX2_falls 38 = .ok (.getfield 93, 3) := by decide +kernel
theorem dX2_falls_41 : decode cX2_falls 41 = .ok (.iastore, 1) := by decide +kernel
theorem dX2_falls_42 : decode cX2_falls 42 = .ok (.aload_n 0, 1) := by decide +kernel
theorem dX2_falls_43 : decode cX2_falls 43 = .ok (.getfield 56, 3) := by decide +kernel
theorem dX2_falls_46 : decode cX2_falls 46 = .ok (.aload_n 0, 1) := by decide +kernel
theorem dX2_falls_47 : decode cX2_falls 47 = .ok (.getfield 144, 3) := by decide +kernel
theorem dX2_falls_50 : decode cX2_falls 50 = .ok (.lload_n 2, 1) := by decide +kernel
theorem dX2_falls_51 : decode cX2_falls 51 = .ok (.lastore, 1) := by decide +kernel
theorem dX2_falls_52 : decode cX2_falls 52 = .ok (.aload_n 0, 1) := by decide +kernel
theorem dX2_falls_53 : decode cX2_falls 53 = .ok (.dup, 1) := by decide +kernel
theorem dX2_falls_54 : decode cX2_falls 54 = .ok (.getfield 144, 3) := by decide +kernel
theorem dX2_falls_57 : decode cX2_falls 57 = .ok (.iconst 1, 1) := by decide +kernel
theorem dX2_falls_58 : decode cX2_falls 58 = .ok (.iadd, 1) := by decide +kernel
theorem dX2_falls_59 : decode cX2_falls 59 = .ok (.putfield 144, 3) := by decide +kernel
theorem dX2_falls_62 : decode cX2_falls 62 = .ok (.return_, 1) := by decide +kernel
set_option maxRecDepth 20000 in
theorem ggX2_give_X2_isKind : GoodIn wsX2_give wsX2_isKind := goodIn_r _ [7, 8, 9, 6, 10] (by decide +kernel) (by decide +kernel)
set_option maxRecDepth 20000 in
theorem gX2_give_X2_isKind : GoodIn wsX2_give (va_wsS RX2 80 yX2_isKind wsX2_isKind) := goodIn_app (goodIn_of _ (by decide +kernel)) ggX2_give_X2_isKind
set_option maxRecDepth 20000 in
theorem ggX2_give_X2_go : GoodIn wsX2_give wsX2_go := goodIn_r _ [14, 15, 16, 17, 18, 19, 1, 20, 21, 22, 6, 23, 3, 24, 25, 26, 27, 28, 29, 30, 31, 2, 32, 33, 34, 35, 36, 37, 38, 39, 40, 41, 42, 43, 44, 45, 46, 47, 48, 49, 50, 51, 52, 53, 54, 55, 56, 57, 58, 59, 60, 61, 62, 63, 64, 65, 66, 67, 8, 9, 10, 68, 69, 70, 71, 72, 73, 74, 75, 76, 77, 78, 79, 80, 81, 82, 83, 84, 85, 86, 87, 88, 89, 90, 91, 92, 93, 94, 95, 96, 97, 98, 99] (by decide +kernel) (by decide +kernel)
set_option maxRecDepth 20000 in
theorem gX2_give_X2_go : GoodIn wsX2_give (wsV RX2 135 RX2 yX2_go wsX2_go) := goodIn_app (goodIn_of _ (by decide +kernel)) ggX2_give_X2_go
theorem dX2_give_0 : decode cX2_give 0 = .ok (.iload_n 1, 1) := by decide +kernel
theorem dX2_give_1 : decode cX2_give 1 = .ok (.invokestatic 80, 3) := by decide +kernel
theorem dX2_give_4 : decode cX2_give 4 = .ok (.ifCond .ne 6, 3) := by decide +kernel
theorem dX2_give_7 : decode cX2_give 7 = .ok (.bipush (-2), 2) := by decide +kernel
theorem dX2_give_9 : decode cX2_give 9 = .ok (.ireturn, 1) := by decide +kernel
theorem dX2_give_10 : decode cX2_give 10 = .ok (.aload_n 0, 1) := by decide +kernel
theorem dX2_give_11 : decode cX2_give 11 = .ok (.iconst 0, 1) := by decide +kernel
theorem dX2_give_12 : decode cX2_give 12 = .ok (.putfield 112, 3) := by decide +kernel
theorem dX2_give_15 : decode cX2_give 15 = .ok (.aload_n 0, 1) := by decide +kernel
theorem dX2_give_16 : decode cX2_give 16 = .ok (.aload_n 0, 1) := by decide +kernel
theorem dX2_give_17 : decode cX2_give 17 = .ok (.getfield 41, 3) := by decide +kernel
theorem dX2_give_20 : decode cX2_give 20 = .ok (.iload_n 1, 1) := by decide +kernel
theorem dX2_give_21 : decode cX2_give 21 = .ok (.iaload, 1) := by decide +kernel
theorem dX2_give_22 : decode cX2_give 22 = .ok (.lload_n 2, 1) := by decide +kernel
theorem dX2_give_23 : decode cX2_give 23 = .ok (.invokevirtual 135, 3) := by decide +kernel
theorem dX2_give_26 : decode cX2_give 26 = .ok (.aload_n 0, 1) := by decide +kernel
theorem dX2_give_27 : decode cX2_give 27 = .ok (.getfield 93, 3) := by decide +kernel
theorem dX2_give_30 : decode cX2_give 30 = .ok (.ifCond .eq 13, 3) := by decide +kernel
theorem dX2_give_33 : decode cX2_give 33 = .ok (.bipush (-10), 2) := by decide +kernel
theorem dX2_give_35 : decode cX2_give 35 = .ok (.aload_n 0, 1) := by decide +kernel
theorem dX2_give_36 : decode cX2_give 36 = .ok (.getfield 93, 3) := by decide +kernel
theorem dX2_give_39 : decode cX2_give 39 = .ok (.isub, 1) := by decide +kernel
theorem dX2_give_40 : decode cX2_give 40 = .ok (.goto 4, 3) := by decide +kernel
theorem dX2_give_43 : decode cX2_give 43 = .ok (.iconst 1, 1) := by decide +kernel
theorem dX2_give_44 : decode cX2_give 44 = .ok (.ireturn, 1) := by decide +kernel
set_option maxRecDepth 20000 in
theorem ggX2_sum_X2_isBox : GoodIn wsX2_sum wsX2_isBox := goodIn_r _ [5, 6, 7, 4, 8] (by decide +kernel) (by decide +kernel)
set_option maxRecDepth 20000 in
theorem gX2_sum_X2_isBox : GoodIn wsX2_sum (va_wsS RX2 76 yX2_isBox wsX2_isBox) := goodIn_app (goodIn_of _ (by decide +kernel)) ggX2_sum_X2_isBox
theorem dX2_sum_0 : decode cX2_sum 0 = .ok (.iload_n 1, 1) := by decide +kernel
theorem dX2_sum_1 : decode cX2_sum 1 = .ok (.invokestatic 76, 3) := by decide +kernel
theorem dX2_sum_4 : decode cX2_sum 4 = .ok (.ifCond .eq 12, 3) := by decide +kernel
theorem dX2_sum_7 : decode cX2_sum 7 = .ok (.aload_n 0, 1) := by decide +kernel
theorem dX2_sum_8 : decode cX2_sum 8 = .ok (.getfield 7, 3) := by decide +kernel
theorem dX2_sum_11 : decode cX2_sum 11 = .ok (.iload_n 1, 1) := by decide +kernel
theorem dX2_sum_12 : decode cX2_sum 12 = .ok (.laload, 1) := by decide +kernel
theorem dX2_sum_13 : decode cX2_sum 13 = .ok (.goto 4, 3) := by decide +kernel
theorem dX2_sum_16 : decode cX2_sum 16 = .ok (.lconst 0, 1) := by decide +kernel
theorem dX2_sum_17 : decode cX2_sum 17 = .ok (.lreturn, 1) := by decide +kernel
set_option maxRecDepth 20000 in
theorem ggX2_counted_X2_isBox : GoodIn wsX2_counted wsX2_isBox := goodIn_r _ [5, 6, 7, 4, 8] (by decide +kernel) (by decide +kernel)
set_option maxRecDepth 20000 in
theorem gX2_counted_X2_isBox : GoodIn wsX2_counted (va_wsS RX2 76 yX2_isBox wsX2_isBox) := goodIn_app (goodIn_of _ (by decide +kernel)) ggX2_counted_X2_isBox
theorem dX2_counted_0 : decode cX2_counted 0 = .ok (.iload_n 1, 1) := by decide +kernel
theorem dX2_counted_1 : decode cX2_counted 1 = .ok (.invokestatic 76, 3) := by decide +kernel
theorem dX2_counted_4 : decode cX2_counted 4 = .ok (.ifCond .eq 12, 3) := by decide +kernel
theorem dX2_counted_7 : decode cX2_counted 7 = .ok (.aload_n 0, 1) := by decide +kernel
theorem dX2_counted_8 : decode cX2_counted 8 = .ok (.getfield 13, 3) := by decide +kernel
theorem dX2_counted_11 : decode cX2_counted 11 = .ok (.iload_n 1, 1) := by decide +kernel
theorem dX2_counted_12 : decode cX2_counted 12 = .ok (.iaload, 1) := by decide +kernel
theorem dX2_counted_13 : decode cX2_counted 13 = .ok (.goto 5, 3) := by decide +kernel
theorem dX2_counted_16 : decode cX2_counted 16 = .ok (.bipush (-2), 2) := by decide +kernel
theorem dX2_counted_18 : decode cX2_counted 18 = .ok (.ireturn, 1) := by decide +kernel
set_option maxRecDepth 20000 in
theorem ggX2_failed_X2_in : GoodIn wsX2_failed wsX2_in := goodIn_r _ [7] (by decide +kernel) (by decide +kernel)
set_option maxRecDepth 20000 in
theorem gX2_failed_X2_in : GoodIn wsX2_failed (va_wsS RX2 72 yX2_in wsX2_in) := goodIn_app (goodIn_of _ (by decide +kernel)) ggX2_failed_X2_in
theorem dX2_failed_0 : decode cX2_failed 0 = .ok (.iload_n 2, 1) := by decide +kernel
theorem dX2_failed_1 : decode cX2_failed 1 = .ok (.iconst 0, 1) := by decide +kernel
theorem dX2_failed_2 : decode cX2_failed 2 = .ok (.iconst 1, 1) := by decide +kernel
theorem dX2_failed_3 : decode cX2_failed 3 = .ok (.invokestatic 72, 3) := by decide +kernel
theorem dX2_failed_6 : decode cX2_failed 6 = .ok (.ifCond .ne 6, 3) := by decide +kernel
theorem dX2_failed_9 : decode cX2_failed 9 = .ok (.bipush (-3), 2) := by decide +kernel
theorem dX2_failed_11 : decode cX2_failed 11 = .ok (.ireturn, 1) := by decide +kernel
theorem dX2_failed_12 : decode cX2_failed 12 = .ok (.iload_n 1, 1) := by decide +kernel
theorem dX2_failed_13 : decode cX2_failed 13 = .ok (.iconst 0, 1) := by decide +kernel
theorem dX2_failed_14 : decode cX2_failed 14 = .ok (.aload_n 0, 1) := by decide +kernel
theorem dX2_failed_15 : decode cX2_failed 15 = .ok (.getfield 144, 3) := by decide +kernel
theorem dX2_failed_18 : decode cX2_failed 18 = .ok (.iconst 1, 1) := by decide +kernel
theorem dX2_failed_19 : decode cX2_failed 19 = .ok (.isub, 1) := by decide +kernel
theorem dX2_failed_20 : decode cX2_failed 20 = .ok (.invokestatic 72, 3) := by decide +kernel
theorem dX2_failed_23 : decode cX2_failed 23 = .ok (.ifCond .ne 5, 3) := by decide +kernel
theorem dX2_failed_26 : decode cX2_failed 26 = .ok (.iconst (-1), 1) := by decide +kernel
theorem dX2_failed_27 : decode cX2_failed 27 = .ok (.ireturn, 1) := by decide +kernel
theorem dX2_failed_28 : decode cX2_failed 28 = .ok (.iload_n 2, 1) := by decide +kernel
theorem dX2_failed_29 : decode cX2_failed 29 = .ok (.ifCond .ne 12, 3) := by decide +kernel
theorem dX2_failed_32 : decode cX2_failed 32 = .ok (.aload_n 0, 1) := by decide +kernel
theorem dX2_failed_33 : decode cX2_failed 33 = .ok (.getfield 50, 3) := by decide +kernel
theorem dX2_failed_36 : decode cX2_failed 36 = .ok (.iload_n 1, 1) := by decide +kernel
theorem dX2_failed_37 : decode cX2_failed 37 = .ok (.iaload, 1) := by decide +kernel
theorem dX2_failed_38 : decode cX2_failed 38 = .ok (.goto 9, 3) := by decide +kernel
theorem dX2_failed_41 : decode cX2_failed 41 = .ok (.aload_n 0, 1) := by decide +kernel
theorem dX2_failed_42 : decode cX2_failed 42 = .ok (.getfield 53, 3) := by decide +kernel
theorem dX2_failed_45 : decode cX2_failed 45 = .ok (.iload_n 1, 1) := by decide +kernel
theorem dX2_failed_46 : decode cX2_failed 46 = .ok (.iaload, 1) := by decide +kernel
theorem dX2_failed_47 : decode cX2_failed 47 = .ok (.ireturn, 1) := by decide +kernel
set_option maxRecDepth 20000 in
theorem ggX2_value_X2_in : GoodIn wsX2_value wsX2_in := goodIn_r _ [6] (by decide +kernel) (by decide +kernel)
set_option maxRecDepth 20000 in
theorem gX2_value_X2_in : GoodIn wsX2_value (va_wsS RX2 72 yX2_in wsX2_in) := goodIn_app (goodIn_of _ (by decide +kernel)) ggX2_value_X2_in
theorem dX2_value_0 : decode cX2_value 0 = .ok (.iload_n 1, 1) := by decide +kernel
theorem dX2_value_1 : decode cX2_value 1 = .ok (.iconst 0, 1) := by decide +kernel
theorem dX2_value_2 : decode cX2_value 2 = .ok (.aload_n 0, 1) := by decide +kernel
theorem dX2_value_3 : decode cX2_value 3 = .ok (.getfield 144, 3) := by decide +kernel
theorem dX2_value_6 : decode cX2_value 6 = .ok (.iconst 1, 1) := by decide +kernel
theorem dX2_value_7 : decode cX2_value 7 = .ok (.isub, 1) := by decide +kernel
theorem dX2_value_8 : decode cX2_value 8 = .ok (.invokestatic 72, 3) := by decide +kernel
theorem dX2_value_11 : decode cX2_value 11 = .ok (.ifCond .eq 12, 3) := by decide +kernel
theorem dX2_value_14 : decode cX2_value 14 = .ok (.aload_n 0, 1) := by decide +kernel
theorem dX2_value_15 : decode cX2_value 15 = .ok (.getfield 56, 3) := by decide +kernel
theorem dX2_value_18 : decode cX2_value 18 = .ok (.iload_n 1, 1) := by decide +kernel
theorem dX2_value_19 : decode cX2_value 19 = .ok (.laload, 1) := by decide +kernel
theorem dX2_value_20 : decode cX2_value 20 = .ok (.goto 4, 3) := by decide +kernel
theorem dX2_value_23 : decode cX2_value 23 = .ok (.lconst 0, 1) := by decide +kernel
theorem dX2_value_24 : decode cX2_value 24 = .ok (.lreturn, 1) := by decide +kernel
theorem dX2_count_0 : decode cX2_count 0 = .ok (.iload_n 1, 1) := by decide +kernel
theorem dX2_count_1 : decode cX2_count 1 = .ok (.tableswitch 62 0 4 #[35, 40, 45, 52, 57], 35) := by decide +kernel
theorem dX2_count_36 : decode cX2_count 36 = .ok (.aload_n 0, 1) := by decide +kernel
theorem dX2_count_37 : decode cX2_count 37 = .ok (.getfield 86, 3) := by decide +kernel
theorem dX2_count_40 : decode cX2_count 40 = .ok (.ireturn, 1) := by decide +kernel
theorem dX2_count_41 : decode cX2_count 41 = .ok (.aload_n 0, 1) := by decide +kernel
theorem dX2_count_42 : decode cX2_count 42 = .ok (.getfield 132, 3) := by decide +kernel
theorem dX2_count_45 : decode cX2_count 45 = .ok (.ireturn, 1) := by decide +kernel
theorem dX2_count_46 : decode cX2_count 46 = .ok (.aload_n 0, 1) := by decide +kernel
theorem dX2_count_47 : decode cX2_count 47 = .ok (.getfield 68, 3) := by decide +kernel
theorem dX2_count_50 : decode cX2_count 50 = .ok (.iconst 2, 1) := by decide +kernel
theorem dX2_count_51 : decode cX2_count 51 = .ok (.isub, 1) := by decide +kernel
theorem dX2_count_52 : decode cX2_count 52 = .ok (.ireturn, 1) := by decide +kernel
theorem dX2_count_53 : decode cX2_count 53 = .ok (.aload_n 0, 1) := by decide +kernel
theorem dX2_count_54 : decode cX2_count 54 = .ok (.getfield 141, 3) := by decide +kernel
theorem dX2_count_57 : decode cX2_count 57 = .ok (.ireturn, 1) := by decide +kernel
theorem dX2_count_58 : decode cX2_count 58 = .ok (.aload_n 0, 1) := by decide +kernel
theorem dX2_count_59 : decode cX2_count 59 = .ok (.getfield 112, 3) := by decide +kernel
theorem dX2_count_62 : decode cX2_count 62 = .ok (.ireturn, 1) := by decide +kernel
theorem dX2_count_63 : decode cX2_count 63 = .ok (.bipush (-3), 2) := by decide +kernel
theorem dX2_count_65 : decode cX2_count 65 = .ok (.ireturn, 1) := by decide +kernel
