theorem d_Mod_init_0 : decode b_Mod_init 0 = .ok (.aload_n 0, 1) := by decide +kernel
theorem d_Mod_init_1 : decode b_Mod_init 1 = .ok (.invokespecial 1, 3) := by decide +kernel
theorem d_Mod_init_4 : decode b_Mod_init 4 = .ok (.aload_n 0, 1) := by decide +kernel
theorem d_Mod_init_5 : decode b_Mod_init 5 = .ok (.bipush 6, 2) := by decide +kernel
theorem d_Mod_init_7 : decode b_Mod_init 7 = .ok (.newarray .int, 2) := by decide +kernel
theorem d_Mod_init_9 : decode b_Mod_init 9 = .ok (.putfield 7, 3) := by decide +kernel
theorem d_Mod_init_12 : decode b_Mod_init 12 = .ok (.aload_n 0, 1) := by decide +kernel
theorem d_Mod_init_13 : decode b_Mod_init 13 = .ok (.bipush 6, 2) := by decide +kernel
theorem d_Mod_init_15 : decode b_Mod_init 15 = .ok (.newarray .int, 2) := by decide +kernel
theorem d_Mod_init_17 : decode b_Mod_init 17 = .ok (.putfield 13, 3) := by decide +kernel
theorem d_Mod_init_20 : decode b_Mod_init 20 = .ok (.aload_n 0, 1) := by decide +kernel
theorem d_Mod_init_21 : decode b_Mod_init 21 = .ok (.bipush 6, 2) := by decide +kernel
theorem d_Mod_init_23 : decode b_Mod_init 23 = .ok (.newarray .int, 2) := by decide +kernel
theorem d_Mod_init_25 : decode b_Mod_init 25 = .ok (.putfield 16, 3) := by decide +kernel
theorem d_Mod_init_28 : decode b_Mod_init 28 = .ok (.aload_n 0, 1) := by decide +kernel
theorem d_Mod_init_29 : decode b_Mod_init 29 = .ok (.bipush 24, 2) := by decide +kernel
theorem d_Mod_init_31 : decode b_Mod_init 31 = .ok (.newarray .int, 2) := by decide +kernel
theorem d_Mod_init_33 : decode b_Mod_init 33 = .ok (.putfield 19, 3) := by decide +kernel
theorem d_Mod_init_36 : decode b_Mod_init 36 = .ok (.aload_n 0, 1) := by decide +kernel
theorem d_Mod_init_37 : decode b_Mod_init 37 = .ok (.bipush 6, 2) := by decide +kernel
theorem d_Mod_init_39 : decode b_Mod_init 39 = .ok (.newarray .int, 2) := by decide +kernel
theorem d_Mod_init_41 : decode b_Mod_init 41 = .ok (.putfield 22, 3) := by decide +kernel
theorem d_Mod_init_44 : decode b_Mod_init 44 = .ok (.aload_n 0, 1) := by decide +kernel
theorem d_Mod_init_45 : decode b_Mod_init 45 = .ok (.bipush 20, 2) := by decide +kernel
theorem d_Mod_init_47 : decode b_Mod_init 47 = .ok (.newarray .int, 2) := by decide +kernel
theorem d_Mod_init_49 : decode b_Mod_init 49 = .ok (.putfield 25, 3) := by decide +kernel
theorem d_Mod_init_52 : decode b_Mod_init 52 = .ok (.aload_n 0, 1) := by decide +kernel
theorem d_Mod_init_53 : decode b_Mod_init 53 = .ok (.bipush 20, 2) := by decide +kernel
theorem d_Mod_init_55 : decode b_Mod_init 55 = .ok (.newarray .int, 2) := by decide +kernel
theorem d_Mod_init_57 : decode b_Mod_init 57 = .ok (.putfield 28, 3) := by decide +kernel
theorem d_Mod_init_60 : decode b_Mod_init 60 = .ok (.aload_n 0, 1) := by decide +kernel
theorem d_Mod_init_61 : decode b_Mod_init 61 = .ok (.bipush 80, 2) := by decide +kernel
theorem d_Mod_init_63 : decode b_Mod_init 63 = .ok (.newarray .int, 2) := by decide +kernel
theorem d_Mod_init_65 : decode b_Mod_init 65 = .ok (.putfield 31, 3) := by decide +kernel
theorem d_Mod_init_68 : decode b_Mod_init 68 = .ok (.aload_n 0, 1) := by decide +kernel
theorem d_Mod_init_69 : decode b_Mod_init 69 = .ok (.bipush 80, 2) := by decide +kernel
theorem d_Mod_init_71 : decode b_Mod_init 71 = .ok (.newarray .int, 2) := by decide +kernel
theorem d_Mod_init_73 : decode b_Mod_init 73 = .ok (.putfield 34, 3) := by decide +kernel
theorem d_Mod_init_76 : decode b_Mod_init 76 = .ok (.aload_n 0, 1) := by decide +kernel
theorem d_Mod_init_77 : decode b_Mod_init 77 = .ok (.bipush 80, 2) := by decide +kernel
theorem d_Mod_init_79 : decode b_Mod_init 79 = .ok (.newarray .int, 2) := by decide +kernel
theorem d_Mod_init_81 : decode b_Mod_init 81 = .ok (.putfield 37, 3) := by decide +kernel
theorem d_Mod_init_84 : decode b_Mod_init 84 = .ok (.aload_n 0, 1) := by decide +kernel
theorem d_Mod_init_85 : decode b_Mod_init 85 = .ok (.bipush 12, 2) := by decide +kernel
theorem d_Mod_init_87 : decode b_Mod_init 87 = .ok (.newarray .int, 2) := by decide +kernel
theorem d_Mod_init_89 : decode b_Mod_init 89 = .ok (.putfield 40, 3) := by decide +kernel
theorem d_Mod_init_92 : decode b_Mod_init 92 = .ok (.aload_n 0, 1) := by decide +kernel
theorem d_Mod_init_93 : decode b_Mod_init 93 = .ok (.iconst 3, 1) := by decide +kernel
theorem d_Mod_init_94 : decode b_Mod_init 94 = .ok (.newarray .int, 2) := by decide +kernel
theorem d_Mod_init_96 : decode b_Mod_init 96 = .ok (.putfield 43, 3) := by decide +kernel
theorem d_Mod_init_99 : decode b_Mod_init 99 = .ok (.aload_n 0, 1) := by decide +kernel
theorem d_Mod_init_100 : decode b_Mod_init 100 = .ok (.iconst 1, 1) := by decide +kernel
theorem d_Mod_init_101 : decode b_Mod_init 101 = .ok (.putfield 46, 3) := by decide +kernel
theorem d_Mod_init_104 : decode b_Mod_init 104 = .ok (.iconst 0, 1) := by decide +kernel
theorem d_Mod_init_105 : decode b_Mod_init 105 = .ok (.istore_n 1, 1) := by decide +kernel
theorem d_Mod_init_106 : decode b_Mod_init 106 = .ok (.iload_n 1, 1) := by decide +kernel
theorem d_Mod_init_107 : decode b_Mod_init 107 = .ok (.bipush 80, 2) := by decide +kernel
theorem d_Mod_init_109 : decode b_Mod_init 109 = .ok (.if_icmp .ge 16, 3) := by decide +kernel
theorem d_Mod_init_112 : decode b_Mod_init 112 = .ok (.aload_n 0, 1) := by decide +kernel
theorem d_Mod_init_113 : decode b_Mod_init 113 = .ok (.getfield 31, 3) := by decide +kernel
theorem d_Mod_init_116 : decode b_Mod_init 116 = .ok (.iload_n 1, 1) := by decide +kernel
theorem d_Mod_init_117 : decode b_Mod_init 117 = .ok (.iconst (-1), 1) := by decide +kernel
theorem d_Mod_init_118 : decode b_Mod_init 118 = .ok (.iastore, 1) := by decide +kernel
theorem d_Mod_init_119 : decode b_Mod_init 119 = .ok (.iinc 1 1, 3) := by decide +kernel
theorem d_Mod_init_122 : decode b_Mod_init 122 = .ok (.goto (-16), 3) := by decide +kernel
theorem d_Mod_init_125 : decode b_Mod_init 125 = .ok (.iconst 0, 1) := by decide +kernel
theorem d_Mod_init_126 : decode b_Mod_init 126 = .ok (.istore_n 1, 1) := by decide +kernel
theorem d_Mod_init_127 : decode b_Mod_init 127 = .ok (.iload_n 1, 1) := by decide +kernel
theorem d_Mod_init_128 : decode b_Mod_init 128 = .ok (.bipush 24, 2) := by decide +kernel
theorem d_Mod_init_130 : decode b_Mod_init 130 = .ok (.if_icmp .ge 16, 3) := by decide +kernel
theorem d_Mod_init_133 : decode b_Mod_init 133 = .ok (.aload_n 0, 1) := by decide +kernel
theorem d_Mod_init_134 : decode b_Mod_init 134 = .ok (.getfield 19, 3) := by decide +kernel
theorem d_Mod_init_137 : decode b_Mod_init 137 = .ok (.iload_n 1, 1) := by decide +kernel
theorem d_Mod_init_138 : decode b_Mod_init 138 = .ok (.iconst (-1), 1) := by decide +kernel
theorem d_Mod_init_139 : decode b_Mod_init 139 = .ok (.iastore, 1) := by decide +kernel
theorem d_Mod_init_140 : decode b_Mod_init 140 = .ok (.iinc 1 1, 3) := by decide +kernel
theorem d_Mod_init_143 : decode b_Mod_init 143 = .ok (.goto (-16), 3) := by decide +kernel
theorem d_Mod_init_146 : decode b_Mod_init 146 = .ok (.iconst 0, 1) := by decide +kernel
theorem d_Mod_init_147 : decode b_Mod_init 147 = .ok (.istore_n 1, 1) := by decide +kernel
theorem d_Mod_init_148 : decode b_Mod_init 148 = .ok (.iload_n 1, 1) := by decide +kernel
theorem d_Mod_init_149 : decode b_Mod_init 149 = .ok (.bipush 6, 2) := by decide +kernel
theorem d_Mod_init_151 : decode b_Mod_init 151 = .ok (.if_icmp .ge 16, 3) := by decide +kernel
theorem d_Mod_init_154 : decode b_Mod_init 154 = .ok (.aload_n 0, 1) := by decide +kernel
theorem d_Mod_init_155 : decode b_Mod_init 155 = .ok (.getfield 16, 3) := by decide +kernel
theorem d_Mod_init_158 : decode b_Mod_init 158 = .ok (.iload_n 1, 1) := by decide +kernel
theorem d_Mod_init_159 : decode b_Mod_init 159 = .ok (.iconst (-1), 1) := by decide +kernel
theorem d_Mod_init_160 : decode b_Mod_init 160 = .ok (.iastore, 1) := by decide +kernel
theorem d_Mod_init_161 : decode b_Mod_init 161 = .ok (.iinc 1 1, 3) := by decide +kernel
theorem d_Mod_init_164 : decode b_Mod_init 164 = .ok (.goto (-16), 3) := by decide +kernel
theorem d_Mod_init_167 : decode b_Mod_init 167 = .ok (.aload_n 0, 1) := by decide +kernel
theorem d_Mod_init_168 : decode b_Mod_init 168 = .ok (.getfield 7, 3) := by decide +kernel
theorem d_Mod_init_171 : decode b_Mod_init 171 = .ok (.iconst 1, 1) := by decide +kernel
theorem d_Mod_init_172 : decode b_Mod_init 172 = .ok (.iconst 3, 1) := by decide +kernel
theorem d_Mod_init_173 : decode b_Mod_init 173 = .ok (.iastore, 1) := by decide +kernel
theorem d_Mod_init_174 : decode b_Mod_init 174 = .ok (.aload_n 0, 1) := by decide +kernel
theorem d_Mod_init_175 : decode b_Mod_init 175 = .ok (.getfield 16, 3) := by decide +kernel
theorem d_Mod_init_178 : decode b_Mod_init 178 = .ok (.iconst 1, 1) := by decide +kernel
theorem d_Mod_init_179 : decode b_Mod_init 179 = .ok (.iconst 0, 1) := by decide +kernel
theorem d_Mod_init_180 : decode b_Mod_init 180 = .ok (.iastore, 1) := by decide +kernel
theorem d_Mod_init_181 : decode b_Mod_init 181 = .ok (.aload_n 0, 1) := by decide +kernel
theorem d_Mod_init_182 : decode b_Mod_init 182 = .ok (.getfield 25, 3) := by decide +kernel
theorem d_Mod_init_185 : decode b_Mod_init 185 = .ok (.iconst 0, 1) := by decide +kernel
theorem d_Mod_init_186 : decode b_Mod_init 186 = .ok (.iconst 1, 1) := by decide +kernel
theorem d_Mod_init_187 : decode b_Mod_init 187 = .ok (.iastore, 1) := by decide +kernel
theorem d_Mod_init_188 : decode b_Mod_init 188 = .ok (.aload_n 0, 1) := by decide +kernel
theorem d_Mod_init_189 : decode b_Mod_init 189 = .ok (.getfield 28, 3) := by decide +kernel
theorem d_Mod_init_192 : decode b_Mod_init 192 = .ok (.iconst 0, 1) := by decide +kernel
theorem d_Mod_init_193 : decode b_Mod_init 193 = .ok (.iconst 1, 1) := by decide +kernel
theorem d_Mod_init_194 : decode b_Mod_init 194 = .ok (.iastore, 1) := by decide +kernel
theorem d_Mod_init_195 : decode b_Mod_init 195 = .ok (.return_, 1) := by decide +kernel
theorem d_Mod_thrown_0 : decode b_Mod_thrown 0 = .ok (.aload_n 0, 1) := by decide +kernel
theorem d_Mod_thrown_1 : decode b_Mod_thrown 1 = .ok (.getfield 50, 3) := by decide +kernel
theorem d_Mod_thrown_4 : decode b_Mod_thrown 4 = .ok (.ireturn, 1) := by decide +kernel
theorem d_Mod_spawn_0 : decode b_Mod_spawn 0 = .ok (.aload_n 0, 1) := by decide +kernel
theorem d_Mod_spawn_1 : decode b_Mod_spawn 1 = .ok (.iconst 0, 1) := by decide +kernel
theorem d_Mod_spawn_2 : decode b_Mod_spawn 2 = .ok (.putfield 50, 3) := by decide +kernel
theorem d_Mod_spawn_5 : decode b_Mod_spawn 5 = .ok (.iload_n 1, 1) := by decide +kernel
theorem d_Mod_spawn_6 : decode b_Mod_spawn 6 = .ok (.invokestatic 61, 3) := by decide +kernel
theorem d_Mod_spawn_9 : decode b_Mod_spawn 9 = .ok (.ifCond .eq 10, 3) := by decide +kernel
theorem d_Mod_spawn_12 : decode b_Mod_spawn 12 = .ok (.iload_n 2, 1) := by decide +kernel
theorem d_Mod_spawn_13 : decode b_Mod_spawn 13 = .ok (.invokestatic 64, 3) := by decide +kernel
theorem d_Mod_spawn_16 : decode b_Mod_spawn 16 = .ok (.ifCond .ne 9, 3) := by decide +kernel
theorem d_Mod_spawn_19 : decode b_Mod_spawn 19 = .ok (.aload_n 0, 1) := by decide +kernel
theorem d_Mod_spawn_20 : decode b_Mod_spawn 20 = .ok (.iconst 1, 1) := by decide +kernel
theorem d_Mod_spawn_21 : decode b_Mod_spawn 21 = .ok (.invokevirtual 67, 3) := by decide +kernel
theorem d_Mod_spawn_24 : decode b_Mod_spawn 24 = .ok (.ireturn, 1) := by decide +kernel
theorem d_Mod_spawn_25 : decode b_Mod_spawn 25 = .ok (.aload_n 0, 1) := by decide +kernel
theorem d_Mod_spawn_26 : decode b_Mod_spawn 26 = .ok (.getfield 7, 3) := by decide +kernel
theorem d_Mod_spawn_29 : decode b_Mod_spawn 29 = .ok (.iload_n 1, 1) := by decide +kernel
theorem d_Mod_spawn_30 : decode b_Mod_spawn 30 = .ok (.iaload, 1) := by decide +kernel
theorem d_Mod_spawn_31 : decode b_Mod_spawn 31 = .ok (.ifCond .ne 12, 3) := by decide +kernel
theorem d_Mod_spawn_34 : decode b_Mod_spawn 34 = .ok (.aload_n 0, 1) := by decide +kernel
theorem d_Mod_spawn_35 : decode b_Mod_spawn 35 = .ok (.getfield 25, 3) := by decide +kernel
theorem d_Mod_spawn_38 : decode b_Mod_spawn 38 = .ok (.iload_n 2, 1) := by decide +kernel
theorem d_Mod_spawn_39 : decode b_Mod_spawn 39 = .ok (.iaload, 1) := by decide +kernel
theorem d_Mod_spawn_40 : decode b_Mod_spawn 40 = .ok (.ifCond .eq 9, 3) := by decide +kernel
theorem d_Mod_spawn_43 : decode b_Mod_spawn 43 = .ok (.aload_n 0, 1) := by decide +kernel
theorem d_Mod_spawn_44 : decode b_Mod_spawn 44 = .ok (.iconst 2, 1) := by decide +kernel
theorem d_Mod_spawn_45 : decode b_Mod_spawn 45 = .ok (.invokevirtual 67, 3) := by decide +kernel
theorem d_Mod_spawn_48 : decode b_Mod_spawn 48 = .ok (.ireturn, 1) := by decide +kernel
theorem d_Mod_spawn_49 : decode b_Mod_spawn 49 = .ok (.aload_n 0, 1) := by decide +kernel
theorem d_Mod_spawn_50 : decode b_Mod_spawn 50 = .ok (.getfield 7, 3) := by decide +kernel
theorem d_Mod_spawn_53 : decode b_Mod_spawn 53 = .ok (.iload_n 1, 1) := by decide +kernel
theorem d_Mod_spawn_54 : decode b_Mod_spawn 54 = .ok (.iconst 1, 1) := by decide +kernel
theorem d_Mod_spawn_55 : decode b_Mod_spawn 55 = .ok (.iastore, 1) := by decide +kernel
theorem d_Mod_spawn_56 : decode b_Mod_spawn 56 = .ok (.aload_n 0, 1) := by decide +kernel
theorem d_Mod_spawn_57 : decode b_Mod_spawn 57 = .ok (.getfield 13, 3) := by decide +kernel
theorem d_Mod_spawn_60 : decode b_Mod_spawn 60 = .ok (.iload_n 1, 1) := by decide +kernel
theorem d_Mod_spawn_61 : decode b_Mod_spawn 61 = .ok (.aload_n 0, 1) := by decide +kernel
theorem d_Mod_spawn_62 : decode b_Mod_spawn 62 = .ok (.getfield 46, 3) := by decide +kernel
theorem d_Mod_spawn_65 : decode b_Mod_spawn 65 = .ok (.iastore, 1) := by decide +kernel
theorem d_Mod_spawn_66 : decode b_Mod_spawn 66 = .ok (.aload_n 0, 1) := by decide +kernel
theorem d_Mod_spawn_67 : decode b_Mod_spawn 67 = .ok (.getfield 16, 3) := by decide +kernel
theorem d_Mod_spawn_70 : decode b_Mod_spawn 70 = .ok (.iload_n 1, 1) := by decide +kernel
theorem d_Mod_spawn_71 : decode b_Mod_spawn 71 = .ok (.iload_n 2, 1) := by decide +kernel
theorem d_Mod_spawn_72 : decode b_Mod_spawn 72 = .ok (.iastore, 1) := by decide +kernel
theorem d_Mod_spawn_73 : decode b_Mod_spawn 73 = .ok (.aload_n 0, 1) := by decide +kernel
theorem d_Mod_spawn_74 : decode b_Mod_spawn 74 = .ok (.iload_n 2, 1) := by decide +kernel
theorem d_Mod_spawn_75 : decode b_Mod_spawn 75 = .ok (.iconst 1, 1) := by decide +kernel
theorem d_Mod_spawn_76 : decode b_Mod_spawn 76 = .ok (.iload_n 1, 1) := by decide +kernel
theorem d_Mod_spawn_77 : decode b_Mod_spawn 77 = .ok (.invokevirtual 71, 3) := by decide +kernel
theorem d_Mod_spawn_80 : decode b_Mod_spawn 80 = .ok (.iconst 1, 1) := by decide +kernel
theorem d_Mod_spawn_81 : decode b_Mod_spawn 81 = .ok (.ireturn, 1) := by decide +kernel
theorem d_Mod_isProcess_0 : decode b_Mod_isProcess 0 = .ok (.iload_n 0, 1) := by decide +kernel
theorem d_Mod_isProcess_1 : decode b_Mod_isProcess 1 = .ok (.iconst 1, 1) := by decide +kernel
theorem d_Mod_isProcess_2 : decode b_Mod_isProcess 2 = .ok (.iconst 5, 1) := by decide +kernel
theorem d_Mod_isProcess_3 : decode b_Mod_isProcess 3 = .ok (.invokestatic 53, 3) := by decide +kernel
theorem d_Mod_isProcess_6 : decode b_Mod_isProcess 6 = .ok (.ireturn, 1) := by decide +kernel
theorem d_Mod_in_0 : decode b_Mod_in 0 = .ok (.iload_n 0, 1) := by decide +kernel
theorem d_Mod_in_1 : decode b_Mod_in 1 = .ok (.iload_n 1, 1) := by decide +kernel
theorem d_Mod_in_2 : decode b_Mod_in 2 = .ok (.if_icmp .lt 12, 3) := by decide +kernel
theorem d_Mod_in_5 : decode b_Mod_in 5 = .ok (.iload_n 0, 1) := by decide +kernel
theorem d_Mod_in_6 : decode b_Mod_in 6 = .ok (.iload_n 2, 1) := by decide +kernel
theorem d_Mod_in_7 : decode b_Mod_in 7 = .ok (.if_icmp .gt 7, 3) := by decide +kernel
theorem d_Mod_in_10 : decode b_Mod_in 10 = .ok (.iconst 1, 1) := by decide +kernel
theorem d_Mod_in_11 : decode b_Mod_in 11 = .ok (.goto 4, 3) := by decide +kernel
theorem d_Mod_in_14 : decode b_Mod_in 14 = .ok (.iconst 0, 1) := by decide +kernel
theorem d_Mod_in_15 : decode b_Mod_in 15 = .ok (.ireturn, 1) := by decide +kernel
theorem d_Mod_isPage_0 : decode b_Mod_isPage 0 = .ok (.iload_n 0, 1) := by decide +kernel
theorem d_Mod_isPage_1 : decode b_Mod_isPage 1 = .ok (.iconst 0, 1) := by decide +kernel
theorem d_Mod_isPage_2 : decode b_Mod_isPage 2 = .ok (.bipush 19, 2) := by decide +kernel
theorem d_Mod_isPage_4 : decode b_Mod_isPage 4 = .ok (.invokestatic 53, 3) := by decide +kernel
theorem d_Mod_isPage_7 : decode b_Mod_isPage 7 = .ok (.ireturn, 1) := by decide +kernel
theorem d_Mod_raise_0 : decode b_Mod_raise 0 = .ok (.aload_n 0, 1) := by decide +kernel
theorem d_Mod_raise_1 : decode b_Mod_raise 1 = .ok (.iload_n 1, 1) := by decide +kernel
theorem d_Mod_raise_2 : decode b_Mod_raise 2 = .ok (.putfield 50, 3) := by decide +kernel
theorem d_Mod_raise_5 : decode b_Mod_raise 5 = .ok (.iconst 0, 1) := by decide +kernel
theorem d_Mod_raise_6 : decode b_Mod_raise 6 = .ok (.ireturn, 1) := by decide +kernel
theorem d_Mod_become_0 : decode b_Mod_become 0 = .ok (.aload_n 0, 1) := by decide +kernel
theorem d_Mod_become_1 : decode b_Mod_become 1 = .ok (.getfield 25, 3) := by decide +kernel
theorem d_Mod_become_4 : decode b_Mod_become 4 = .ok (.iload_n 1, 1) := by decide +kernel
theorem d_Mod_become_5 : decode b_Mod_become 5 = .ok (.iload_n 2, 1) := by decide +kernel
theorem d_Mod_become_6 : decode b_Mod_become 6 = .ok (.iastore, 1) := by decide +kernel
theorem d_Mod_become_7 : decode b_Mod_become 7 = .ok (.aload_n 0, 1) := by decide +kernel
theorem d_Mod_become_8 : decode b_Mod_become 8 = .ok (.getfield 28, 3) := by decide +kernel
theorem d_Mod_become_11 : decode b_Mod_become 11 = .ok (.iload_n 1, 1) := by decide +kernel
theorem d_Mod_become_12 : decode b_Mod_become 12 = .ok (.iload_n 3, 1) := by decide +kernel
theorem d_Mod_become_13 : decode b_Mod_become 13 = .ok (.iastore, 1) := by decide +kernel
theorem d_Mod_become_14 : decode b_Mod_become 14 = .ok (.iconst 4, 1) := by decide +kernel
theorem d_Mod_become_15 : decode b_Mod_become 15 = .ok (.iload_n 1, 1) := by decide +kernel
theorem d_Mod_become_16 : decode b_Mod_become 16 = .ok (.imul, 1) := by decide +kernel
theorem d_Mod_become_17 : decode b_Mod_become 17 = .ok (.istore 4, 2) := by decide +kernel
theorem d_Mod_become_19 : decode b_Mod_become 19 = .ok (.iload 4, 2) := by decide +kernel
theorem d_Mod_become_21 : decode b_Mod_become 21 = .ok (.iconst 4, 1) := by decide +kernel
theorem d_Mod_become_22 : decode b_Mod_become 22 = .ok (.iload_n 1, 1) := by decide +kernel
theorem d_Mod_become_23 : decode b_Mod_become 23 = .ok (.imul, 1) := by decide +kernel
theorem d_Mod_become_24 : decode b_Mod_become 24 = .ok (.iconst 4, 1) := by decide +kernel
theorem d_Mod_become_25 : decode b_Mod_become 25 = .ok (.iadd, 1) := by decide +kernel
theorem d_Mod_become_26 : decode b_Mod_become 26 = .ok (.if_icmp .ge 33, 3) := by decide +kernel
theorem d_Mod_become_29 : decode b_Mod_become 29 = .ok (.aload_n 0, 1) := by decide +kernel
theorem d_Mod_become_30 : decode b_Mod_become 30 = .ok (.getfield 31, 3) := by decide +kernel
theorem d_Mod_become_33 : decode b_Mod_become 33 = .ok (.iload 4, 2) := by decide +kernel
theorem d_Mod_become_35 : decode b_Mod_become 35 = .ok (.iconst (-1), 1) := by decide +kernel
theorem d_Mod_become_36 : decode b_Mod_become 36 = .ok (.iastore, 1) := by decide +kernel
theorem d_Mod_become_37 : decode b_Mod_become 37 = .ok (.aload_n 0, 1) := by decide +kernel
theorem d_Mod_become_38 : decode b_Mod_become 38 = .ok (.getfield 34, 3) := by decide +kernel
theorem d_Mod_become_41 : decode b_Mod_become 41 = .ok (.iload 4, 2) := by decide +kernel
theorem d_Mod_become_43 : decode b_Mod_become 43 = .ok (.iconst 0, 1) := by decide +kernel
theorem d_Mod_become_44 : decode b_Mod_become 44 = .ok (.iastore, 1) := by decide +kernel
theorem d_Mod_become_45 : decode b_Mod_become 45 = .ok (.aload_n 0, 1) := by decide +kernel
theorem d_Mod_become_46 : decode b_Mod_become 46 = .ok (.getfield 37, 3) := by decide +kernel
theorem d_Mod_become_49 : decode b_Mod_become 49 = .ok (.iload 4, 2) := by decide +kernel
theorem d_Mod_become_51 : decode b_Mod_become 51 = .ok (.iconst 0, 1) := by decide +kernel
theorem d_Mod_become_52 : decode b_Mod_become 52 = .ok (.iastore, 1) := by decide +kernel
theorem d_Mod_become_53 : decode b_Mod_become 53 = .ok (.iinc 4 1, 3) := by decide +kernel
theorem d_Mod_become_56 : decode b_Mod_become 56 = .ok (.goto (-37), 3) := by decide +kernel
theorem d_Mod_become_59 : decode b_Mod_become 59 = .ok (.return_, 1) := by decide +kernel
theorem d_Mod_table_0 : decode b_Mod_table 0 = .ok (.aload_n 0, 1) := by decide +kernel
theorem d_Mod_table_1 : decode b_Mod_table 1 = .ok (.iconst 0, 1) := by decide +kernel
theorem d_Mod_table_2 : decode b_Mod_table 2 = .ok (.putfield 50, 3) := by decide +kernel
theorem d_Mod_table_5 : decode b_Mod_table 5 = .ok (.aload_n 0, 1) := by decide +kernel
theorem d_Mod_table_6 : decode b_Mod_table 6 = .ok (.iload_n 1, 1) := by decide +kernel
theorem d_Mod_table_7 : decode b_Mod_table 7 = .ok (.iload_n 2, 1) := by decide +kernel
theorem d_Mod_table_8 : decode b_Mod_table 8 = .ok (.iload_n 3, 1) := by decide +kernel
theorem d_Mod_table_9 : decode b_Mod_table 9 = .ok (.iload 4, 2) := by decide +kernel
theorem d_Mod_table_11 : decode b_Mod_table 11 = .ok (.iconst 2, 1) := by decide +kernel
theorem d_Mod_table_12 : decode b_Mod_table 12 = .ok (.invokevirtual 79, 3) := by decide +kernel
theorem d_Mod_table_15 : decode b_Mod_table 15 = .ok (.ireturn, 1) := by decide +kernel
theorem d_Mod_hang_0 : decode b_Mod_hang 0 = .ok (.iload_n 1, 1) := by decide +kernel
theorem d_Mod_hang_1 : decode b_Mod_hang 1 = .ok (.invokestatic 64, 3) := by decide +kernel
theorem d_Mod_hang_4 : decode b_Mod_hang 4 = .ok (.ifCond .eq 29, 3) := by decide +kernel
theorem d_Mod_hang_7 : decode b_Mod_hang 7 = .ok (.iload_n 2, 1) := by decide +kernel
theorem d_Mod_hang_8 : decode b_Mod_hang 8 = .ok (.iconst 0, 1) := by decide +kernel
theorem d_Mod_hang_9 : decode b_Mod_hang 9 = .ok (.iconst 3, 1) := by decide +kernel
theorem d_Mod_hang_10 : decode b_Mod_hang 10 = .ok (.invokestatic 53, 3) := by decide +kernel
theorem d_Mod_hang_13 : decode b_Mod_hang 13 = .ok (.ifCond .eq 20, 3) := by decide +kernel
theorem d_Mod_hang_16 : decode b_Mod_hang 16 = .ok (.iload_n 3, 1) := by decide +kernel
theorem d_Mod_hang_17 : decode b_Mod_hang 17 = .ok (.invokestatic 64, 3) := by decide +kernel
theorem d_Mod_hang_20 : decode b_Mod_hang 20 = .ok (.ifCond .eq 13, 3) := by decide +kernel
theorem d_Mod_hang_23 : decode b_Mod_hang 23 = .ok (.iload 4, 2) := by decide +kernel
theorem d_Mod_hang_25 : decode b_Mod_hang 25 = .ok (.iconst 1, 1) := by decide +kernel
theorem d_Mod_hang_26 : decode b_Mod_hang 26 = .ok (.iconst 3, 1) := by decide +kernel
theorem d_Mod_hang_27 : decode b_Mod_hang 27 = .ok (.invokestatic 53, 3) := by decide +kernel
theorem d_Mod_hang_30 : decode b_Mod_hang 30 = .ok (.ifCond .ne 9, 3) := by decide +kernel
theorem d_Mod_hang_33 : decode b_Mod_hang 33 = .ok (.aload_n 0, 1) := by decide +kernel
theorem d_Mod_hang_34 : decode b_Mod_hang 34 = .ok (.iconst 1, 1) := by decide +kernel
theorem d_Mod_hang_35 : decode b_Mod_hang 35 = .ok (.invokevirtual 67, 3) := by decide +kernel
theorem d_Mod_hang_38 : decode b_Mod_hang 38 = .ok (.ireturn, 1) := by decide +kernel
theorem d_Mod_hang_39 : decode b_Mod_hang 39 = .ok (.aload_n 0, 1) := by decide +kernel
theorem d_Mod_hang_40 : decode b_Mod_hang 40 = .ok (.iload_n 1, 1) := by decide +kernel
theorem d_Mod_hang_41 : decode b_Mod_hang 41 = .ok (.iload 5, 2) := by decide +kernel
theorem d_Mod_hang_43 : decode b_Mod_hang 43 = .ok (.iconst 1, 1) := by decide +kernel
theorem d_Mod_hang_44 : decode b_Mod_hang 44 = .ok (.isub, 1) := by decide +kernel
theorem d_Mod_hang_45 : decode b_Mod_hang 45 = .ok (.invokevirtual 75, 3) := by decide +kernel
theorem d_Mod_hang_48 : decode b_Mod_hang 48 = .ok (.ifCond .ne 9, 3) := by decide +kernel
theorem d_Mod_hang_51 : decode b_Mod_hang 51 = .ok (.aload_n 0, 1) := by decide +kernel
theorem d_Mod_hang_52 : decode b_Mod_hang 52 = .ok (.iconst 2, 1) := by decide +kernel
theorem d_Mod_hang_53 : decode b_Mod_hang 53 = .ok (.invokevirtual 67, 3) := by decide +kernel
theorem d_Mod_hang_56 : decode b_Mod_hang 56 = .ok (.ireturn, 1) := by decide +kernel
theorem d_Mod_hang_57 : decode b_Mod_hang 57 = .ok (.aload_n 0, 1) := by decide +kernel
theorem d_Mod_hang_58 : decode b_Mod_hang 58 = .ok (.getfield 25, 3) := by decide +kernel
theorem d_Mod_hang_61 : decode b_Mod_hang 61 = .ok (.iload_n 3, 1) := by decide +kernel
theorem d_Mod_hang_62 : decode b_Mod_hang 62 = .ok (.iaload, 1) := by decide +kernel
theorem d_Mod_hang_63 : decode b_Mod_hang 63 = .ok (.ifCond .ne 16, 3) := by decide +kernel
theorem d_Mod_hang_66 : decode b_Mod_hang 66 = .ok (.aload_n 0, 1) := by decide +kernel
theorem d_Mod_hang_67 : decode b_Mod_hang 67 = .ok (.getfield 31, 3) := by decide +kernel
theorem d_Mod_hang_70 : decode b_Mod_hang 70 = .ok (.iconst 4, 1) := by decide +kernel
theorem d_Mod_hang_71 : decode b_Mod_hang 71 = .ok (.iload_n 1, 1) := by decide +kernel
theorem d_Mod_hang_72 : decode b_Mod_hang 72 = .ok (.imul, 1) := by decide +kernel
theorem d_Mod_hang_73 : decode b_Mod_hang 73 = .ok (.iload_n 2, 1) := by decide +kernel
theorem d_Mod_hang_74 : decode b_Mod_hang 74 = .ok (.iadd, 1) := by decide +kernel
theorem d_Mod_hang_75 : decode b_Mod_hang 75 = .ok (.iaload, 1) := by decide +kernel
theorem d_Mod_hang_76 : decode b_Mod_hang 76 = .ok (.ifCond .lt 9, 3) := by decide +kernel
theorem d_Mod_hang_79 : decode b_Mod_hang 79 = .ok (.aload_n 0, 1) := by decide +kernel
theorem d_Mod_hang_80 : decode b_Mod_hang 80 = .ok (.iconst 3, 1) := by decide +kernel
theorem d_Mod_hang_81 : decode b_Mod_hang 81 = .ok (.invokevirtual 67, 3) := by decide +kernel
theorem d_Mod_hang_84 : decode b_Mod_hang 84 = .ok (.ireturn, 1) := by decide +kernel
theorem d_Mod_hang_85 : decode b_Mod_hang 85 = .ok (.aload_n 0, 1) := by decide +kernel
theorem d_Mod_hang_86 : decode b_Mod_hang 86 = .ok (.iload_n 3, 1) := by decide +kernel
theorem d_Mod_hang_87 : decode b_Mod_hang 87 = .ok (.iload 5, 2) := by decide +kernel
theorem d_Mod_hang_89 : decode b_Mod_hang 89 = .ok (.aload_n 0, 1) := by decide +kernel
theorem d_Mod_hang_90 : decode b_Mod_hang 90 = .ok (.getfield 28, 3) := by decide +kernel
theorem d_Mod_hang_93 : decode b_Mod_hang 93 = .ok (.iload_n 1, 1) := by decide +kernel
theorem d_Mod_hang_94 : decode b_Mod_hang 94 = .ok (.iaload, 1) := by decide +kernel
theorem d_Mod_hang_95 : decode b_Mod_hang 95 = .ok (.invokevirtual 71, 3) := by decide +kernel
theorem d_Mod_hang_98 : decode b_Mod_hang 98 = .ok (.aload_n 0, 1) := by decide +kernel
theorem d_Mod_hang_99 : decode b_Mod_hang 99 = .ok (.getfield 31, 3) := by decide +kernel
theorem d_Mod_hang_102 : decode b_Mod_hang 102 = .ok (.iconst 4, 1) := by decide +kernel
theorem d_Mod_hang_103 : decode b_Mod_hang 103 = .ok (.iload_n 1, 1) := by decide +kernel
theorem d_Mod_hang_104 : decode b_Mod_hang 104 = .ok (.imul, 1) := by decide +kernel
theorem d_Mod_hang_105 : decode b_Mod_hang 105 = .ok (.iload_n 2, 1) := by decide +kernel
theorem d_Mod_hang_106 : decode b_Mod_hang 106 = .ok (.iadd, 1) := by decide +kernel
theorem d_Mod_hang_107 : decode b_Mod_hang 107 = .ok (.iload_n 3, 1) := by decide +kernel
theorem d_Mod_hang_108 : decode b_Mod_hang 108 = .ok (.iastore, 1) := by decide +kernel
theorem d_Mod_hang_109 : decode b_Mod_hang 109 = .ok (.aload_n 0, 1) := by decide +kernel
theorem d_Mod_hang_110 : decode b_Mod_hang 110 = .ok (.getfield 34, 3) := by decide +kernel
theorem d_Mod_hang_113 : decode b_Mod_hang 113 = .ok (.iconst 4, 1) := by decide +kernel
theorem d_Mod_hang_114 : decode b_Mod_hang 114 = .ok (.iload_n 1, 1) := by decide +kernel
theorem d_Mod_hang_115 : decode b_Mod_hang 115 = .ok (.imul, 1) := by decide +kernel
theorem d_Mod_hang_116 : decode b_Mod_hang 116 = .ok (.iload_n 2, 1) := by decide +kernel
theorem d_Mod_hang_117 : decode b_Mod_hang 117 = .ok (.iadd, 1) := by decide +kernel
theorem d_Mod_hang_118 : decode b_Mod_hang 118 = .ok (.iload 4, 2) := by decide +kernel
theorem d_Mod_hang_120 : decode b_Mod_hang 120 = .ok (.iastore, 1) := by decide +kernel
theorem d_Mod_hang_121 : decode b_Mod_hang 121 = .ok (.iconst 1, 1) := by decide +kernel
theorem d_Mod_hang_122 : decode b_Mod_hang 122 = .ok (.ireturn, 1) := by decide +kernel
theorem d_Mod_minePage_0 : decode b_Mod_minePage 0 = .ok (.aload_n 0, 1) := by decide +kernel
theorem d_Mod_minePage_1 : decode b_Mod_minePage 1 = .ok (.getfield 25, 3) := by decide +kernel
theorem d_Mod_minePage_4 : decode b_Mod_minePage 4 = .ok (.iload_n 1, 1) := by decide +kernel
theorem d_Mod_minePage_5 : decode b_Mod_minePage 5 = .ok (.iaload, 1) := by decide +kernel
theorem d_Mod_minePage_6 : decode b_Mod_minePage 6 = .ok (.iload_n 2, 1) := by decide +kernel
theorem d_Mod_minePage_7 : decode b_Mod_minePage 7 = .ok (.if_icmp .ne 20, 3) := by decide +kernel
theorem d_Mod_minePage_10 : decode b_Mod_minePage 10 = .ok (.aload_n 0, 1) := by decide +kernel
theorem d_Mod_minePage_11 : decode b_Mod_minePage 11 = .ok (.aload_n 0, 1) := by decide +kernel
theorem d_Mod_minePage_12 : decode b_Mod_minePage 12 = .ok (.getfield 28, 3) := by decide +kernel
theorem d_Mod_minePage_15 : decode b_Mod_minePage 15 = .ok (.iload_n 1, 1) := by decide +kernel
theorem d_Mod_minePage_16 : decode b_Mod_minePage 16 = .ok (.iaload, 1) := by decide +kernel
theorem d_Mod_minePage_17 : decode b_Mod_minePage 17 = .ok (.invokevirtual 57, 3) := by decide +kernel
theorem d_Mod_minePage_20 : decode b_Mod_minePage 20 = .ok (.ifCond .eq 7, 3) := by decide +kernel
theorem d_Mod_minePage_23 : decode b_Mod_minePage 23 = .ok (.iconst 1, 1) := by decide +kernel
theorem d_Mod_minePage_24 : decode b_Mod_minePage 24 = .ok (.goto 4, 3) := by decide +kernel
theorem d_Mod_minePage_27 : decode b_Mod_minePage 27 = .ok (.iconst 0, 1) := by decide +kernel
theorem d_Mod_minePage_28 : decode b_Mod_minePage 28 = .ok (.ireturn, 1) := by decide +kernel
theorem d_Mod_mine_0 : decode b_Mod_mine 0 = .ok (.iload_n 1, 1) := by decide +kernel
theorem d_Mod_mine_1 : decode b_Mod_mine 1 = .ok (.aload_n 0, 1) := by decide +kernel
theorem d_Mod_mine_2 : decode b_Mod_mine 2 = .ok (.getfield 46, 3) := by decide +kernel
theorem d_Mod_mine_5 : decode b_Mod_mine 5 = .ok (.if_icmp .eq 36, 3) := by decide +kernel
theorem d_Mod_mine_8 : decode b_Mod_mine 8 = .ok (.aload_n 0, 1) := by decide +kernel
theorem d_Mod_mine_9 : decode b_Mod_mine 9 = .ok (.getfield 7, 3) := by decide +kernel
theorem d_Mod_mine_12 : decode b_Mod_mine 12 = .ok (.iload_n 1, 1) := by decide +kernel
theorem d_Mod_mine_13 : decode b_Mod_mine 13 = .ok (.iaload, 1) := by decide +kernel
theorem d_Mod_mine_14 : decode b_Mod_mine 14 = .ok (.iconst 1, 1) := by decide +kernel
theorem d_Mod_mine_15 : decode b_Mod_mine 15 = .ok (.if_icmp .eq 13, 3) := by decide +kernel
theorem d_Mod_mine_18 : decode b_Mod_mine 18 = .ok (.aload_n 0, 1) := by decide +kernel
theorem d_Mod_mine_19 : decode b_Mod_mine 19 = .ok (.getfield 7, 3) := by decide +kernel
theorem d_Mod_mine_22 : decode b_Mod_mine 22 = .ok (.iload_n 1, 1) := by decide +kernel
theorem d_Mod_mine_23 : decode b_Mod_mine 23 = .ok (.iaload, 1) := by decide +kernel
theorem d_Mod_mine_24 : decode b_Mod_mine 24 = .ok (.iconst 5, 1) := by decide +kernel
theorem d_Mod_mine_25 : decode b_Mod_mine 25 = .ok (.if_icmp .ne 20, 3) := by decide +kernel
theorem d_Mod_mine_28 : decode b_Mod_mine 28 = .ok (.aload_n 0, 1) := by decide +kernel
theorem d_Mod_mine_29 : decode b_Mod_mine 29 = .ok (.getfield 13, 3) := by decide +kernel
theorem d_Mod_mine_32 : decode b_Mod_mine 32 = .ok (.iload_n 1, 1) := by decide +kernel
theorem d_Mod_mine_33 : decode b_Mod_mine 33 = .ok (.iaload, 1) := by decide +kernel
theorem d_Mod_mine_34 : decode b_Mod_mine 34 = .ok (.aload_n 0, 1) := by decide +kernel
theorem d_Mod_mine_35 : decode b_Mod_mine 35 = .ok (.getfield 46, 3) := by decide +kernel
theorem d_Mod_mine_38 : decode b_Mod_mine 38 = .ok (.if_icmp .ne 7, 3) := by decide +kernel
theorem d_Mod_mine_41 : decode b_Mod_mine 41 = .ok (.iconst 1, 1) := by decide +kernel
theorem d_Mod_mine_42 : decode b_Mod_mine 42 = .ok (.goto 4, 3) := by decide +kernel
theorem d_Mod_mine_45 : decode b_Mod_mine 45 = .ok (.iconst 0, 1) := by decide +kernel
theorem d_Mod_mine_46 : decode b_Mod_mine 46 = .ok (.ireturn, 1) := by decide +kernel
theorem d_Mod_frame_0 : decode b_Mod_frame 0 = .ok (.aload_n 0, 1) := by decide +kernel
theorem d_Mod_frame_1 : decode b_Mod_frame 1 = .ok (.iconst 0, 1) := by decide +kernel
theorem d_Mod_frame_2 : decode b_Mod_frame 2 = .ok (.putfield 50, 3) := by decide +kernel
theorem d_Mod_frame_5 : decode b_Mod_frame 5 = .ok (.aload_n 0, 1) := by decide +kernel
theorem d_Mod_frame_6 : decode b_Mod_frame 6 = .ok (.iload_n 1, 1) := by decide +kernel
theorem d_Mod_frame_7 : decode b_Mod_frame 7 = .ok (.iload_n 2, 1) := by decide +kernel
theorem d_Mod_frame_8 : decode b_Mod_frame 8 = .ok (.iload_n 3, 1) := by decide +kernel
theorem d_Mod_frame_9 : decode b_Mod_frame 9 = .ok (.iload 4, 2) := by decide +kernel
theorem d_Mod_frame_11 : decode b_Mod_frame 11 = .ok (.iconst 3, 1) := by decide +kernel
theorem d_Mod_frame_12 : decode b_Mod_frame 12 = .ok (.invokevirtual 79, 3) := by decide +kernel
theorem d_Mod_frame_15 : decode b_Mod_frame 15 = .ok (.ireturn, 1) := by decide +kernel
theorem d_Mod_protect_0 : decode b_Mod_protect 0 = .ok (.aload_n 0, 1) := by decide +kernel
theorem d_Mod_protect_1 : decode b_Mod_protect 1 = .ok (.iconst 0, 1) := by decide +kernel
theorem d_Mod_protect_2 : decode b_Mod_protect 2 = .ok (.putfield 50, 3) := by decide +kernel
theorem d_Mod_protect_5 : decode b_Mod_protect 5 = .ok (.iload_n 1, 1) := by decide +kernel
theorem d_Mod_protect_6 : decode b_Mod_protect 6 = .ok (.invokestatic 64, 3) := by decide +kernel
theorem d_Mod_protect_9 : decode b_Mod_protect 9 = .ok (.ifCond .eq 21, 3) := by decide +kernel
theorem d_Mod_protect_12 : decode b_Mod_protect 12 = .ok (.iload_n 2, 1) := by decide +kernel
theorem d_Mod_protect_13 : decode b_Mod_protect 13 = .ok (.iconst 0, 1) := by decide +kernel
theorem d_Mod_protect_14 : decode b_Mod_protect 14 = .ok (.iconst 3, 1) := by decide +kernel
theorem d_Mod_protect_15 : decode b_Mod_protect 15 = .ok (.invokestatic 53, 3) := by decide +kernel
theorem d_Mod_protect_18 : decode b_Mod_protect 18 = .ok (.ifCond .eq 12, 3) := by decide +kernel
theorem d_Mod_protect_21 : decode b_Mod_protect 21 = .ok (.iload_n 3, 1) := by decide +kernel
theorem d_Mod_protect_22 : decode b_Mod_protect 22 = .ok (.iconst 1, 1) := by decide +kernel
theorem d_Mod_protect_23 : decode b_Mod_protect 23 = .ok (.iconst 3, 1) := by decide +kernel
theorem d_Mod_protect_24 : decode b_Mod_protect 24 = .ok (.invokestatic 53, 3) := by decide +kernel
theorem d_Mod_protect_27 : decode b_Mod_protect 27 = .ok (.ifCond .ne 9, 3) := by decide +kernel
theorem d_Mod_protect_30 : decode b_Mod_protect 30 = .ok (.aload_n 0, 1) := by decide +kernel
theorem d_Mod_protect_31 : decode b_Mod_protect 31 = .ok (.iconst 1, 1) := by decide +kernel
theorem d_Mod_protect_32 : decode b_Mod_protect 32 = .ok (.invokevirtual 67, 3) := by decide +kernel
theorem d_Mod_protect_35 : decode b_Mod_protect 35 = .ok (.ireturn, 1) := by decide +kernel
theorem d_Mod_protect_36 : decode b_Mod_protect 36 = .ok (.aload_n 0, 1) := by decide +kernel
theorem d_Mod_protect_37 : decode b_Mod_protect 37 = .ok (.iload_n 1, 1) := by decide +kernel
theorem d_Mod_protect_38 : decode b_Mod_protect 38 = .ok (.invokevirtual 83, 3) := by decide +kernel
theorem d_Mod_protect_41 : decode b_Mod_protect 41 = .ok (.ifCond .ne 9, 3) := by decide +kernel
theorem d_Mod_protect_44 : decode b_Mod_protect 44 = .ok (.aload_n 0, 1) := by decide +kernel
theorem d_Mod_protect_45 : decode b_Mod_protect 45 = .ok (.iconst 2, 1) := by decide +kernel
theorem d_Mod_protect_46 : decode b_Mod_protect 46 = .ok (.invokevirtual 67, 3) := by decide +kernel
theorem d_Mod_protect_49 : decode b_Mod_protect 49 = .ok (.ireturn, 1) := by decide +kernel
theorem d_Mod_protect_50 : decode b_Mod_protect 50 = .ok (.aload_n 0, 1) := by decide +kernel
theorem d_Mod_protect_51 : decode b_Mod_protect 51 = .ok (.getfield 31, 3) := by decide +kernel
theorem d_Mod_protect_54 : decode b_Mod_protect 54 = .ok (.iconst 4, 1) := by decide +kernel
theorem d_Mod_protect_55 : decode b_Mod_protect 55 = .ok (.iload_n 1, 1) := by decide +kernel
theorem d_Mod_protect_56 : decode b_Mod_protect 56 = .ok (.imul, 1) := by decide +kernel
theorem d_Mod_protect_57 : decode b_Mod_protect 57 = .ok (.iload_n 2, 1) := by decide +kernel
theorem d_Mod_protect_58 : decode b_Mod_protect 58 = .ok (.iadd, 1) := by decide +kernel
theorem d_Mod_protect_59 : decode b_Mod_protect 59 = .ok (.iaload, 1) := by decide +kernel
theorem d_Mod_protect_60 : decode b_Mod_protect 60 = .ok (.ifCond .ge 9, 3) := by decide +kernel
theorem d_Mod_protect_63 : decode b_Mod_protect 63 = .ok (.aload_n 0, 1) := by decide +kernel
theorem d_Mod_protect_64 : decode b_Mod_protect 64 = .ok (.iconst 3, 1) := by decide +kernel
theorem d_Mod_protect_65 : decode b_Mod_protect 65 = .ok (.invokevirtual 67, 3) := by decide +kernel
theorem d_Mod_protect_68 : decode b_Mod_protect 68 = .ok (.ireturn, 1) := by decide +kernel
theorem d_Mod_protect_69 : decode b_Mod_protect 69 = .ok (.aload_n 0, 1) := by decide +kernel
theorem d_Mod_protect_70 : decode b_Mod_protect 70 = .ok (.getfield 34, 3) := by decide +kernel
theorem d_Mod_protect_73 : decode b_Mod_protect 73 = .ok (.iconst 4, 1) := by decide +kernel
theorem d_Mod_protect_74 : decode b_Mod_protect 74 = .ok (.iload_n 1, 1) := by decide +kernel
theorem d_Mod_protect_75 : decode b_Mod_protect 75 = .ok (.imul, 1) := by decide +kernel
theorem d_Mod_protect_76 : decode b_Mod_protect 76 = .ok (.iload_n 2, 1) := by decide +kernel
theorem d_Mod_protect_77 : decode b_Mod_protect 77 = .ok (.iadd, 1) := by decide +kernel
theorem d_Mod_protect_78 : decode b_Mod_protect 78 = .ok (.iaload, 1) := by decide +kernel
theorem d_Mod_protect_79 : decode b_Mod_protect 79 = .ok (.istore 4, 2) := by decide +kernel
theorem d_Mod_protect_81 : decode b_Mod_protect 81 = .ok (.aload_n 0, 1) := by decide +kernel
theorem d_Mod_protect_82 : decode b_Mod_protect 82 = .ok (.getfield 34, 3) := by decide +kernel
theorem d_Mod_protect_85 : decode b_Mod_protect 85 = .ok (.iconst 4, 1) := by decide +kernel
theorem d_Mod_protect_86 : decode b_Mod_protect 86 = .ok (.iload_n 1, 1) := by decide +kernel
theorem d_Mod_protect_87 : decode b_Mod_protect 87 = .ok (.imul, 1) := by decide +kernel
theorem d_Mod_protect_88 : decode b_Mod_protect 88 = .ok (.iload_n 2, 1) := by decide +kernel
theorem d_Mod_protect_89 : decode b_Mod_protect 89 = .ok (.iadd, 1) := by decide +kernel
theorem d_Mod_protect_90 : decode b_Mod_protect 90 = .ok (.iload_n 3, 1) := by decide +kernel
theorem d_Mod_protect_91 : decode b_Mod_protect 91 = .ok (.iastore, 1) := by decide +kernel
theorem d_Mod_protect_92 : decode b_Mod_protect 92 = .ok (.iload 4, 2) := by decide +kernel
theorem d_Mod_protect_94 : decode b_Mod_protect 94 = .ok (.ireturn, 1) := by decide +kernel
theorem d_Mod_holder_0 : decode b_Mod_holder 0 = .ok (.aload_n 0, 1) := by decide +kernel
theorem d_Mod_holder_1 : decode b_Mod_holder 1 = .ok (.iload_n 1, 1) := by decide +kernel
theorem d_Mod_holder_2 : decode b_Mod_holder 2 = .ok (.iconst 1, 1) := by decide +kernel
theorem d_Mod_holder_3 : decode b_Mod_holder 3 = .ok (.invokevirtual 75, 3) := by decide +kernel
theorem d_Mod_holder_6 : decode b_Mod_holder 6 = .ok (.ifCond .ne 12, 3) := by decide +kernel
theorem d_Mod_holder_9 : decode b_Mod_holder 9 = .ok (.aload_n 0, 1) := by decide +kernel
theorem d_Mod_holder_10 : decode b_Mod_holder 10 = .ok (.iload_n 1, 1) := by decide +kernel
theorem d_Mod_holder_11 : decode b_Mod_holder 11 = .ok (.iconst 2, 1) := by decide +kernel
theorem d_Mod_holder_12 : decode b_Mod_holder 12 = .ok (.invokevirtual 75, 3) := by decide +kernel
theorem d_Mod_holder_15 : decode b_Mod_holder 15 = .ok (.ifCond .eq 7, 3) := by decide +kernel
theorem d_Mod_holder_18 : decode b_Mod_holder 18 = .ok (.iconst 1, 1) := by decide +kernel
theorem d_Mod_holder_19 : decode b_Mod_holder 19 = .ok (.goto 4, 3) := by decide +kernel
theorem d_Mod_holder_22 : decode b_Mod_holder 22 = .ok (.iconst 0, 1) := by decide +kernel
theorem d_Mod_holder_23 : decode b_Mod_holder 23 = .ok (.ireturn, 1) := by decide +kernel
theorem d_Mod_copy_0 : decode b_Mod_copy 0 = .ok (.aload_n 0, 1) := by decide +kernel
theorem d_Mod_copy_1 : decode b_Mod_copy 1 = .ok (.iconst 0, 1) := by decide +kernel
theorem d_Mod_copy_2 : decode b_Mod_copy 2 = .ok (.putfield 50, 3) := by decide +kernel
theorem d_Mod_copy_5 : decode b_Mod_copy 5 = .ok (.iload_n 1, 1) := by decide +kernel
theorem d_Mod_copy_6 : decode b_Mod_copy 6 = .ok (.invokestatic 64, 3) := by decide +kernel
theorem d_Mod_copy_9 : decode b_Mod_copy 9 = .ok (.ifCond .eq 10, 3) := by decide +kernel
theorem d_Mod_copy_12 : decode b_Mod_copy 12 = .ok (.iload_n 2, 1) := by decide +kernel
theorem d_Mod_copy_13 : decode b_Mod_copy 13 = .ok (.invokestatic 64, 3) := by decide +kernel
theorem d_Mod_copy_16 : decode b_Mod_copy 16 = .ok (.ifCond .ne 9, 3) := by decide +kernel
theorem d_Mod_copy_19 : decode b_Mod_copy 19 = .ok (.aload_n 0, 1) := by decide +kernel
theorem d_Mod_copy_20 : decode b_Mod_copy 20 = .ok (.iconst 1, 1) := by decide +kernel
theorem d_Mod_copy_21 : decode b_Mod_copy 21 = .ok (.invokevirtual 67, 3) := by decide +kernel
theorem d_Mod_copy_24 : decode b_Mod_copy 24 = .ok (.ireturn, 1) := by decide +kernel
theorem d_Mod_copy_25 : decode b_Mod_copy 25 = .ok (.aload_n 0, 1) := by decide +kernel
theorem d_Mod_copy_26 : decode b_Mod_copy 26 = .ok (.iload_n 1, 1) := by decide +kernel
theorem d_Mod_copy_27 : decode b_Mod_copy 27 = .ok (.iconst 3, 1) := by decide +kernel
theorem d_Mod_copy_28 : decode b_Mod_copy 28 = .ok (.invokevirtual 75, 3) := by decide +kernel
theorem d_Mod_copy_31 : decode b_Mod_copy 31 = .ok (.ifCond .eq 12, 3) := by decide +kernel
theorem d_Mod_copy_34 : decode b_Mod_copy 34 = .ok (.aload_n 0, 1) := by decide +kernel
theorem d_Mod_copy_35 : decode b_Mod_copy 35 = .ok (.iload_n 2, 1) := by decide +kernel
theorem d_Mod_copy_36 : decode b_Mod_copy 36 = .ok (.iconst 3, 1) := by decide +kernel
theorem d_Mod_copy_37 : decode b_Mod_copy 37 = .ok (.invokevirtual 75, 3) := by decide +kernel
theorem d_Mod_copy_40 : decode b_Mod_copy 40 = .ok (.ifCond .ne 9, 3) := by decide +kernel
theorem d_Mod_copy_43 : decode b_Mod_copy 43 = .ok (.aload_n 0, 1) := by decide +kernel
theorem d_Mod_copy_44 : decode b_Mod_copy 44 = .ok (.iconst 2, 1) := by decide +kernel
theorem d_Mod_copy_45 : decode b_Mod_copy 45 = .ok (.invokevirtual 67, 3) := by decide +kernel
theorem d_Mod_copy_48 : decode b_Mod_copy 48 = .ok (.ireturn, 1) := by decide +kernel
theorem d_Mod_copy_49 : decode b_Mod_copy 49 = .ok (.iconst 0, 1) := by decide +kernel
theorem d_Mod_copy_50 : decode b_Mod_copy 50 = .ok (.istore_n 3, 1) := by decide +kernel
theorem d_Mod_copy_51 : decode b_Mod_copy 51 = .ok (.iload_n 3, 1) := by decide +kernel
theorem d_Mod_copy_52 : decode b_Mod_copy 52 = .ok (.iconst 4, 1) := by decide +kernel
theorem d_Mod_copy_53 : decode b_Mod_copy 53 = .ok (.if_icmp .ge 29, 3) := by decide +kernel
theorem d_Mod_copy_56 : decode b_Mod_copy 56 = .ok (.aload_n 0, 1) := by decide +kernel
theorem d_Mod_copy_57 : decode b_Mod_copy 57 = .ok (.getfield 37, 3) := by decide +kernel
theorem d_Mod_copy_60 : decode b_Mod_copy 60 = .ok (.iconst 4, 1) := by decide +kernel
theorem d_Mod_copy_61 : decode b_Mod_copy 61 = .ok (.iload_n 2, 1) := by decide +kernel
theorem d_Mod_copy_62 : decode b_Mod_copy 62 = .ok (.imul, 1) := by decide +kernel
theorem d_Mod_copy_63 : decode b_Mod_copy 63 = .ok (.iload_n 3, 1) := by decide +kernel
theorem d_Mod_copy_64 : decode b_Mod_copy 64 = .ok (.iadd, 1) := by decide +kernel
theorem d_Mod_copy_65 : decode b_Mod_copy 65 = .ok (.aload_n 0, 1) := by decide +kernel
theorem d_Mod_copy_66 : decode b_Mod_copy 66 = .ok (.getfield 37, 3) := by decide +kernel
theorem d_Mod_copy_69 : decode b_Mod_copy 69 = .ok (.iconst 4, 1) := by decide +kernel
theorem d_Mod_copy_70 : decode b_Mod_copy 70 = .ok (.iload_n 1, 1) := by decide +kernel
theorem d_Mod_copy_71 : decode b_Mod_copy 71 = .ok (.imul, 1) := by decide +kernel
theorem d_Mod_copy_72 : decode b_Mod_copy 72 = .ok (.iload_n 3, 1) := by decide +kernel
theorem d_Mod_copy_73 : decode b_Mod_copy 73 = .ok (.iadd, 1) := by decide +kernel
theorem d_Mod_copy_74 : decode b_Mod_copy 74 = .ok (.iaload, 1) := by decide +kernel
theorem d_Mod_copy_75 : decode b_Mod_copy 75 = .ok (.iastore, 1) := by decide +kernel
theorem d_Mod_copy_76 : decode b_Mod_copy 76 = .ok (.iinc 3 1, 3) := by decide +kernel
theorem d_Mod_copy_79 : decode b_Mod_copy 79 = .ok (.goto (-28), 3) := by decide +kernel
theorem d_Mod_copy_82 : decode b_Mod_copy 82 = .ok (.iconst 1, 1) := by decide +kernel
theorem d_Mod_copy_83 : decode b_Mod_copy 83 = .ok (.ireturn, 1) := by decide +kernel
theorem d_Mod_release_0 : decode b_Mod_release 0 = .ok (.aload_n 0, 1) := by decide +kernel
theorem d_Mod_release_1 : decode b_Mod_release 1 = .ok (.iconst 0, 1) := by decide +kernel
theorem d_Mod_release_2 : decode b_Mod_release 2 = .ok (.putfield 50, 3) := by decide +kernel
theorem d_Mod_release_5 : decode b_Mod_release 5 = .ok (.iload_n 1, 1) := by decide +kernel
theorem d_Mod_release_6 : decode b_Mod_release 6 = .ok (.invokestatic 64, 3) := by decide +kernel
theorem d_Mod_release_9 : decode b_Mod_release 9 = .ok (.ifCond .eq 12, 3) := by decide +kernel
theorem d_Mod_release_12 : decode b_Mod_release 12 = .ok (.iload_n 2, 1) := by decide +kernel
theorem d_Mod_release_13 : decode b_Mod_release 13 = .ok (.iconst 0, 1) := by decide +kernel
theorem d_Mod_release_14 : decode b_Mod_release 14 = .ok (.iconst 3, 1) := by decide +kernel
theorem d_Mod_release_15 : decode b_Mod_release 15 = .ok (.invokestatic 53, 3) := by decide +kernel
theorem d_Mod_release_18 : decode b_Mod_release 18 = .ok (.ifCond .ne 9, 3) := by decide +kernel
theorem d_Mod_release_21 : decode b_Mod_release 21 = .ok (.aload_n 0, 1) := by decide +kernel
theorem d_Mod_release_22 : decode b_Mod_release 22 = .ok (.iconst 1, 1) := by decide +kernel
theorem d_Mod_release_23 : decode b_Mod_release 23 = .ok (.invokevirtual 67, 3) := by decide +kernel
theorem d_Mod_release_26 : decode b_Mod_release 26 = .ok (.ireturn, 1) := by decide +kernel
theorem d_Mod_release_27 : decode b_Mod_release 27 = .ok (.aload_n 0, 1) := by decide +kernel
theorem d_Mod_release_28 : decode b_Mod_release 28 = .ok (.iload_n 1, 1) := by decide +kernel
theorem d_Mod_release_29 : decode b_Mod_release 29 = .ok (.invokevirtual 83, 3) := by decide +kernel
theorem d_Mod_release_32 : decode b_Mod_release 32 = .ok (.ifCond .ne 9, 3) := by decide +kernel
theorem d_Mod_release_35 : decode b_Mod_release 35 = .ok (.aload_n 0, 1) := by decide +kernel
theorem d_Mod_release_36 : decode b_Mod_release 36 = .ok (.iconst 2, 1) := by decide +kernel
theorem d_Mod_release_37 : decode b_Mod_release 37 = .ok (.invokevirtual 67, 3) := by decide +kernel
theorem d_Mod_release_40 : decode b_Mod_release 40 = .ok (.ireturn, 1) := by decide +kernel
theorem d_Mod_release_41 : decode b_Mod_release 41 = .ok (.aload_n 0, 1) := by decide +kernel
theorem d_Mod_release_42 : decode b_Mod_release 42 = .ok (.getfield 31, 3) := by decide +kernel
theorem d_Mod_release_45 : decode b_Mod_release 45 = .ok (.iconst 4, 1) := by decide +kernel
theorem d_Mod_release_46 : decode b_Mod_release 46 = .ok (.iload_n 1, 1) := by decide +kernel
theorem d_Mod_release_47 : decode b_Mod_release 47 = .ok (.imul, 1) := by decide +kernel
theorem d_Mod_release_48 : decode b_Mod_release 48 = .ok (.iload_n 2, 1) := by decide +kernel
theorem d_Mod_release_49 : decode b_Mod_release 49 = .ok (.iadd, 1) := by decide +kernel
theorem d_Mod_release_50 : decode b_Mod_release 50 = .ok (.iaload, 1) := by decide +kernel
theorem d_Mod_release_51 : decode b_Mod_release 51 = .ok (.istore_n 3, 1) := by decide +kernel
theorem d_Mod_release_52 : decode b_Mod_release 52 = .ok (.iload_n 3, 1) := by decide +kernel
theorem d_Mod_release_53 : decode b_Mod_release 53 = .ok (.ifCond .ge 9, 3) := by decide +kernel
theorem d_Mod_release_56 : decode b_Mod_release 56 = .ok (.aload_n 0, 1) := by decide +kernel
theorem d_Mod_release_57 : decode b_Mod_release 57 = .ok (.iconst 3, 1) := by decide +kernel
theorem d_Mod_release_58 : decode b_Mod_release 58 = .ok (.invokevirtual 67, 3) := by decide +kernel
theorem d_Mod_release_61 : decode b_Mod_release 61 = .ok (.ireturn, 1) := by decide +kernel
theorem d_Mod_release_62 : decode b_Mod_release 62 = .ok (.aload_n 0, 1) := by decide +kernel
theorem d_Mod_release_63 : decode b_Mod_release 63 = .ok (.getfield 25, 3) := by decide +kernel
theorem d_Mod_release_66 : decode b_Mod_release 66 = .ok (.iload_n 3, 1) := by decide +kernel
theorem d_Mod_release_67 : decode b_Mod_release 67 = .ok (.iaload, 1) := by decide +kernel
theorem d_Mod_release_68 : decode b_Mod_release 68 = .ok (.iconst 2, 1) := by decide +kernel
theorem d_Mod_release_69 : decode b_Mod_release 69 = .ok (.if_icmp .ne 17, 3) := by decide +kernel
theorem d_Mod_release_72 : decode b_Mod_release 72 = .ok (.aload_n 0, 1) := by decide +kernel
theorem d_Mod_release_73 : decode b_Mod_release 73 = .ok (.iload_n 3, 1) := by decide +kernel
theorem d_Mod_release_74 : decode b_Mod_release 74 = .ok (.invokevirtual 86, 3) := by decide +kernel
theorem d_Mod_release_77 : decode b_Mod_release 77 = .ok (.ifCond .le 9, 3) := by decide +kernel
theorem d_Mod_release_80 : decode b_Mod_release 80 = .ok (.aload_n 0, 1) := by decide +kernel
theorem d_Mod_release_81 : decode b_Mod_release 81 = .ok (.iconst 4, 1) := by decide +kernel
theorem d_Mod_release_82 : decode b_Mod_release 82 = .ok (.invokevirtual 67, 3) := by decide +kernel
theorem d_Mod_release_85 : decode b_Mod_release 85 = .ok (.ireturn, 1) := by decide +kernel
theorem d_Mod_release_86 : decode b_Mod_release 86 = .ok (.aload_n 0, 1) := by decide +kernel
theorem d_Mod_release_87 : decode b_Mod_release 87 = .ok (.iload_n 3, 1) := by decide +kernel
theorem d_Mod_release_88 : decode b_Mod_release 88 = .ok (.iconst 0, 1) := by decide +kernel
theorem d_Mod_release_89 : decode b_Mod_release 89 = .ok (.iconst 0, 1) := by decide +kernel
theorem d_Mod_release_90 : decode b_Mod_release 90 = .ok (.invokevirtual 71, 3) := by decide +kernel
theorem d_Mod_release_93 : decode b_Mod_release 93 = .ok (.aload_n 0, 1) := by decide +kernel
theorem d_Mod_release_94 : decode b_Mod_release 94 = .ok (.getfield 31, 3) := by decide +kernel
theorem d_Mod_release_97 : decode b_Mod_release 97 = .ok (.iconst 4, 1) := by decide +kernel
theorem d_Mod_release_98 : decode b_Mod_release 98 = .ok (.iload_n 1, 1) := by decide +kernel
theorem d_Mod_release_99 : decode b_Mod_release 99 = .ok (.imul, 1) := by decide +kernel
theorem d_Mod_release_100 : decode b_Mod_release 100 = .ok (.iload_n 2, 1) := by decide +kernel
theorem d_Mod_release_101 : decode b_Mod_release 101 = .ok (.iadd, 1) := by decide +kernel
theorem d_Mod_release_102 : decode b_Mod_release 102 = .ok (.iconst (-1), 1) := by decide +kernel
theorem d_Mod_release_103 : decode b_Mod_release 103 = .ok (.iastore, 1) := by decide +kernel
theorem d_Mod_release_104 : decode b_Mod_release 104 = .ok (.iload_n 3, 1) := by decide +kernel
theorem d_Mod_release_105 : decode b_Mod_release 105 = .ok (.ireturn, 1) := by decide +kernel
theorem d_Mod_filled_0 : decode b_Mod_filled 0 = .ok (.iconst 0, 1) := by decide +kernel
theorem d_Mod_filled_1 : decode b_Mod_filled 1 = .ok (.istore_n 2, 1) := by decide +kernel
theorem d_Mod_filled_2 : decode b_Mod_filled 2 = .ok (.iconst 4, 1) := by decide +kernel
theorem d_Mod_filled_3 : decode b_Mod_filled 3 = .ok (.iload_n 1, 1) := by decide +kernel
theorem d_Mod_filled_4 : decode b_Mod_filled 4 = .ok (.imul, 1) := by decide +kernel
theorem d_Mod_filled_5 : decode b_Mod_filled 5 = .ok (.istore_n 3, 1) := by decide +kernel
theorem d_Mod_filled_6 : decode b_Mod_filled 6 = .ok (.iload_n 3, 1) := by decide +kernel
theorem d_Mod_filled_7 : decode b_Mod_filled 7 = .ok (.iconst 4, 1) := by decide +kernel
theorem d_Mod_filled_8 : decode b_Mod_filled 8 = .ok (.iload_n 1, 1) := by decide +kernel
theorem d_Mod_filled_9 : decode b_Mod_filled 9 = .ok (.imul, 1) := by decide +kernel
theorem d_Mod_filled_10 : decode b_Mod_filled 10 = .ok (.iconst 4, 1) := by decide +kernel
theorem d_Mod_filled_11 : decode b_Mod_filled 11 = .ok (.iadd, 1) := by decide +kernel
theorem d_Mod_filled_12 : decode b_Mod_filled 12 = .ok (.if_icmp .ge 21, 3) := by decide +kernel
theorem d_Mod_filled_15 : decode b_Mod_filled 15 = .ok (.aload_n 0, 1) := by decide +kernel
theorem d_Mod_filled_16 : decode b_Mod_filled 16 = .ok (.getfield 31, 3) := by decide +kernel
theorem d_Mod_filled_19 : decode b_Mod_filled 19 = .ok (.iload_n 3, 1) := by decide +kernel
theorem d_Mod_filled_20 : decode b_Mod_filled 20 = .ok (.iaload, 1) := by decide +kernel
theorem d_Mod_filled_21 : decode b_Mod_filled 21 = .ok (.ifCond .lt 6, 3) := by decide +kernel
theorem d_Mod_filled_24 : decode b_Mod_filled 24 = .ok (.iinc 2 1, 3) := by decide +kernel
theorem d_Mod_filled_27 : decode b_Mod_filled 27 = .ok (.iinc 3 1, 3) := by decide +kernel
theorem d_Mod_filled_30 : decode b_Mod_filled 30 = .ok (.goto (-24), 3) := by decide +kernel
theorem d_Mod_filled_33 : decode b_Mod_filled 33 = .ok (.iload_n 2, 1) := by decide +kernel
theorem d_Mod_filled_34 : decode b_Mod_filled 34 = .ok (.ireturn, 1) := by decide +kernel
theorem d_Mod_start_0 : decode b_Mod_start 0 = .ok (.aload_n 0, 1) := by decide +kernel
theorem d_Mod_start_1 : decode b_Mod_start 1 = .ok (.iconst 0, 1) := by decide +kernel
theorem d_Mod_start_2 : decode b_Mod_start 2 = .ok (.putfield 50, 3) := by decide +kernel
theorem d_Mod_start_5 : decode b_Mod_start 5 = .ok (.iload_n 1, 1) := by decide +kernel
theorem d_Mod_start_6 : decode b_Mod_start 6 = .ok (.invokestatic 61, 3) := by decide +kernel
theorem d_Mod_start_9 : decode b_Mod_start 9 = .ok (.ifCond .ne 9, 3) := by decide +kernel
theorem d_Mod_start_12 : decode b_Mod_start 12 = .ok (.aload_n 0, 1) := by decide +kernel
theorem d_Mod_start_13 : decode b_Mod_start 13 = .ok (.iconst 1, 1) := by decide +kernel
theorem d_Mod_start_14 : decode b_Mod_start 14 = .ok (.invokevirtual 67, 3) := by decide +kernel
theorem d_Mod_start_17 : decode b_Mod_start 17 = .ok (.ireturn, 1) := by decide +kernel
theorem d_Mod_start_18 : decode b_Mod_start 18 = .ok (.aload_n 0, 1) := by decide +kernel
theorem d_Mod_start_19 : decode b_Mod_start 19 = .ok (.getfield 7, 3) := by decide +kernel
theorem d_Mod_start_22 : decode b_Mod_start 22 = .ok (.iload_n 1, 1) := by decide +kernel
theorem d_Mod_start_23 : decode b_Mod_start 23 = .ok (.iaload, 1) := by decide +kernel
theorem d_Mod_start_24 : decode b_Mod_start 24 = .ok (.iconst 1, 1) := by decide +kernel
theorem d_Mod_start_25 : decode b_Mod_start 25 = .ok (.if_icmp .ne 16, 3) := by decide +kernel
theorem d_Mod_start_28 : decode b_Mod_start 28 = .ok (.aload_n 0, 1) := by decide +kernel
theorem d_Mod_start_29 : decode b_Mod_start 29 = .ok (.getfield 13, 3) := by decide +kernel
theorem d_Mod_start_32 : decode b_Mod_start 32 = .ok (.iload_n 1, 1) := by decide +kernel
theorem d_Mod_start_33 : decode b_Mod_start 33 = .ok (.iaload, 1) := by decide +kernel
theorem d_Mod_start_34 : decode b_Mod_start 34 = .ok (.aload_n 0, 1) := by decide +kernel
theorem d_Mod_start_35 : decode b_Mod_start 35 = .ok (.getfield 46, 3) := by decide +kernel
theorem d_Mod_start_38 : decode b_Mod_start 38 = .ok (.if_icmp .eq 9, 3) := by decide +kernel
theorem d_Mod_start_41 : decode b_Mod_start 41 = .ok (.aload_n 0, 1) := by decide +kernel
theorem d_Mod_start_42 : decode b_Mod_start 42 = .ok (.iconst 2, 1) := by decide +kernel
theorem d_Mod_start_43 : decode b_Mod_start 43 = .ok (.invokevirtual 67, 3) := by decide +kernel
theorem d_Mod_start_46 : decode b_Mod_start 46 = .ok (.ireturn, 1) := by decide +kernel
theorem d_Mod_start_47 : decode b_Mod_start 47 = .ok (.aload_n 0, 1) := by decide +kernel
theorem d_Mod_start_48 : decode b_Mod_start 48 = .ok (.getfield 7, 3) := by decide +kernel
theorem d_Mod_start_51 : decode b_Mod_start 51 = .ok (.iload_n 1, 1) := by decide +kernel
theorem d_Mod_start_52 : decode b_Mod_start 52 = .ok (.iconst 2, 1) := by decide +kernel
theorem d_Mod_start_53 : decode b_Mod_start 53 = .ok (.iastore, 1) := by decide +kernel
theorem d_Mod_start_54 : decode b_Mod_start 54 = .ok (.iconst 1, 1) := by decide +kernel
theorem d_Mod_start_55 : decode b_Mod_start 55 = .ok (.ireturn, 1) := by decide +kernel
theorem d_Mod_give_0 : decode b_Mod_give 0 = .ok (.aload_n 0, 1) := by decide +kernel
theorem d_Mod_give_1 : decode b_Mod_give 1 = .ok (.iconst 0, 1) := by decide +kernel
theorem d_Mod_give_2 : decode b_Mod_give 2 = .ok (.putfield 50, 3) := by decide +kernel
theorem d_Mod_give_5 : decode b_Mod_give 5 = .ok (.iload_n 1, 1) := by decide +kernel
theorem d_Mod_give_6 : decode b_Mod_give 6 = .ok (.invokestatic 61, 3) := by decide +kernel
theorem d_Mod_give_9 : decode b_Mod_give 9 = .ok (.ifCond .ne 9, 3) := by decide +kernel
theorem d_Mod_give_12 : decode b_Mod_give 12 = .ok (.aload_n 0, 1) := by decide +kernel
theorem d_Mod_give_13 : decode b_Mod_give 13 = .ok (.iconst 1, 1) := by decide +kernel
theorem d_Mod_give_14 : decode b_Mod_give 14 = .ok (.invokevirtual 67, 3) := by decide +kernel
theorem d_Mod_give_17 : decode b_Mod_give 17 = .ok (.ireturn, 1) := by decide +kernel
theorem d_Mod_give_18 : decode b_Mod_give 18 = .ok (.aload_n 0, 1) := by decide +kernel
theorem d_Mod_give_19 : decode b_Mod_give 19 = .ok (.getfield 7, 3) := by decide +kernel
theorem d_Mod_give_22 : decode b_Mod_give 22 = .ok (.iload_n 1, 1) := by decide +kernel
theorem d_Mod_give_23 : decode b_Mod_give 23 = .ok (.iaload, 1) := by decide +kernel
theorem d_Mod_give_24 : decode b_Mod_give 24 = .ok (.iconst 2, 1) := by decide +kernel
theorem d_Mod_give_25 : decode b_Mod_give 25 = .ok (.if_icmp .ne 12, 3) := by decide +kernel
theorem d_Mod_give_28 : decode b_Mod_give 28 = .ok (.aload_n 0, 1) := by decide +kernel
theorem d_Mod_give_29 : decode b_Mod_give 29 = .ok (.iload_n 1, 1) := by decide +kernel
theorem d_Mod_give_30 : decode b_Mod_give 30 = .ok (.iconst 2, 1) := by decide +kernel
theorem d_Mod_give_31 : decode b_Mod_give 31 = .ok (.invokevirtual 89, 3) := by decide +kernel
theorem d_Mod_give_34 : decode b_Mod_give 34 = .ok (.goto 8, 3) := by decide +kernel
theorem d_Mod_give_37 : decode b_Mod_give 37 = .ok (.aload_n 0, 1) := by decide +kernel
theorem d_Mod_give_38 : decode b_Mod_give 38 = .ok (.iconst 2, 1) := by decide +kernel
theorem d_Mod_give_39 : decode b_Mod_give 39 = .ok (.invokevirtual 67, 3) := by decide +kernel
theorem d_Mod_give_42 : decode b_Mod_give 42 = .ok (.ireturn, 1) := by decide +kernel
theorem d_Mod_hand_0 : decode b_Mod_hand 0 = .ok (.aload_n 0, 1) := by decide +kernel
theorem d_Mod_hand_1 : decode b_Mod_hand 1 = .ok (.getfield 46, 3) := by decide +kernel
theorem d_Mod_hand_4 : decode b_Mod_hand 4 = .ok (.istore_n 3, 1) := by decide +kernel
theorem d_Mod_hand_5 : decode b_Mod_hand 5 = .ok (.aload_n 0, 1) := by decide +kernel
theorem d_Mod_hand_6 : decode b_Mod_hand 6 = .ok (.getfield 7, 3) := by decide +kernel
theorem d_Mod_hand_9 : decode b_Mod_hand 9 = .ok (.aload_n 0, 1) := by decide +kernel
theorem d_Mod_hand_10 : decode b_Mod_hand 10 = .ok (.getfield 46, 3) := by decide +kernel
theorem d_Mod_hand_13 : decode b_Mod_hand 13 = .ok (.iload_n 2, 1) := by decide +kernel
theorem d_Mod_hand_14 : decode b_Mod_hand 14 = .ok (.iastore, 1) := by decide +kernel
theorem d_Mod_hand_15 : decode b_Mod_hand 15 = .ok (.aload_n 0, 1) := by decide +kernel
theorem d_Mod_hand_16 : decode b_Mod_hand 16 = .ok (.getfield 7, 3) := by decide +kernel
theorem d_Mod_hand_19 : decode b_Mod_hand 19 = .ok (.iload_n 1, 1) := by decide +kernel
theorem d_Mod_hand_20 : decode b_Mod_hand 20 = .ok (.iconst 3, 1) := by decide +kernel
theorem d_Mod_hand_21 : decode b_Mod_hand 21 = .ok (.iastore, 1) := by decide +kernel
theorem d_Mod_hand_22 : decode b_Mod_hand 22 = .ok (.aload_n 0, 1) := by decide +kernel
theorem d_Mod_hand_23 : decode b_Mod_hand 23 = .ok (.iload_n 1, 1) := by decide +kernel
theorem d_Mod_hand_24 : decode b_Mod_hand 24 = .ok (.putfield 46, 3) := by decide +kernel
theorem d_Mod_hand_27 : decode b_Mod_hand 27 = .ok (.iload_n 3, 1) := by decide +kernel
theorem d_Mod_hand_28 : decode b_Mod_hand 28 = .ok (.ireturn, 1) := by decide +kernel
theorem d_Mod_kill_0 : decode b_Mod_kill 0 = .ok (.aload_n 0, 1) := by decide +kernel
theorem d_Mod_kill_1 : decode b_Mod_kill 1 = .ok (.iconst 0, 1) := by decide +kernel
theorem d_Mod_kill_2 : decode b_Mod_kill 2 = .ok (.putfield 50, 3) := by decide +kernel
theorem d_Mod_kill_5 : decode b_Mod_kill 5 = .ok (.iload_n 1, 1) := by decide +kernel
theorem d_Mod_kill_6 : decode b_Mod_kill 6 = .ok (.invokestatic 61, 3) := by decide +kernel
theorem d_Mod_kill_9 : decode b_Mod_kill 9 = .ok (.ifCond .ne 9, 3) := by decide +kernel
theorem d_Mod_kill_12 : decode b_Mod_kill 12 = .ok (.aload_n 0, 1) := by decide +kernel
theorem d_Mod_kill_13 : decode b_Mod_kill 13 = .ok (.iconst 1, 1) := by decide +kernel
theorem d_Mod_kill_14 : decode b_Mod_kill 14 = .ok (.invokevirtual 67, 3) := by decide +kernel
theorem d_Mod_kill_17 : decode b_Mod_kill 17 = .ok (.ireturn, 1) := by decide +kernel
theorem d_Mod_kill_18 : decode b_Mod_kill 18 = .ok (.iload_n 1, 1) := by decide +kernel
theorem d_Mod_kill_19 : decode b_Mod_kill 19 = .ok (.iconst 1, 1) := by decide +kernel
theorem d_Mod_kill_20 : decode b_Mod_kill 20 = .ok (.if_icmp .ne 9, 3) := by decide +kernel
theorem d_Mod_kill_23 : decode b_Mod_kill 23 = .ok (.aload_n 0, 1) := by decide +kernel
theorem d_Mod_kill_24 : decode b_Mod_kill 24 = .ok (.iconst 2, 1) := by decide +kernel
theorem d_Mod_kill_25 : decode b_Mod_kill 25 = .ok (.invokevirtual 67, 3) := by decide +kernel
theorem d_Mod_kill_28 : decode b_Mod_kill 28 = .ok (.ireturn, 1) := by decide +kernel
theorem d_Mod_kill_29 : decode b_Mod_kill 29 = .ok (.iload_n 1, 1) := by decide +kernel
theorem d_Mod_kill_30 : decode b_Mod_kill 30 = .ok (.aload_n 0, 1) := by decide +kernel
theorem d_Mod_kill_31 : decode b_Mod_kill 31 = .ok (.getfield 46, 3) := by decide +kernel
theorem d_Mod_kill_34 : decode b_Mod_kill 34 = .ok (.if_icmp .eq 16, 3) := by decide +kernel
theorem d_Mod_kill_37 : decode b_Mod_kill 37 = .ok (.aload_n 0, 1) := by decide +kernel
theorem d_Mod_kill_38 : decode b_Mod_kill 38 = .ok (.getfield 13, 3) := by decide +kernel
theorem d_Mod_kill_41 : decode b_Mod_kill 41 = .ok (.iload_n 1, 1) := by decide +kernel
theorem d_Mod_kill_42 : decode b_Mod_kill 42 = .ok (.iaload, 1) := by decide +kernel
theorem d_Mod_kill_43 : decode b_Mod_kill 43 = .ok (.aload_n 0, 1) := by decide +kernel
theorem d_Mod_kill_44 : decode b_Mod_kill 44 = .ok (.getfield 46, 3) := by decide +kernel
theorem d_Mod_kill_47 : decode b_Mod_kill 47 = .ok (.if_icmp .ne 22, 3) := by decide +kernel
theorem d_Mod_kill_50 : decode b_Mod_kill 50 = .ok (.aload_n 0, 1) := by decide +kernel
theorem d_Mod_kill_51 : decode b_Mod_kill 51 = .ok (.getfield 7, 3) := by decide +kernel
theorem d_Mod_kill_54 : decode b_Mod_kill 54 = .ok (.iload_n 1, 1) := by decide +kernel
theorem d_Mod_kill_55 : decode b_Mod_kill 55 = .ok (.iaload, 1) := by decide +kernel
theorem d_Mod_kill_56 : decode b_Mod_kill 56 = .ok (.ifCond .eq 13, 3) := by decide +kernel
theorem d_Mod_kill_59 : decode b_Mod_kill 59 = .ok (.aload_n 0, 1) := by decide +kernel
theorem d_Mod_kill_60 : decode b_Mod_kill 60 = .ok (.getfield 7, 3) := by decide +kernel
theorem d_Mod_kill_63 : decode b_Mod_kill 63 = .ok (.iload_n 1, 1) := by decide +kernel
theorem d_Mod_kill_64 : decode b_Mod_kill 64 = .ok (.iaload, 1) := by decide +kernel
theorem d_Mod_kill_65 : decode b_Mod_kill 65 = .ok (.iconst 5, 1) := by decide +kernel
theorem d_Mod_kill_66 : decode b_Mod_kill 66 = .ok (.if_icmp .ne 9, 3) := by decide +kernel
theorem d_Mod_kill_69 : decode b_Mod_kill 69 = .ok (.aload_n 0, 1) := by decide +kernel
theorem d_Mod_kill_70 : decode b_Mod_kill 70 = .ok (.iconst 3, 1) := by decide +kernel
theorem d_Mod_kill_71 : decode b_Mod_kill 71 = .ok (.invokevirtual 67, 3) := by decide +kernel
theorem d_Mod_kill_74 : decode b_Mod_kill 74 = .ok (.ireturn, 1) := by decide +kernel
theorem d_Mod_kill_75 : decode b_Mod_kill 75 = .ok (.iload_n 1, 1) := by decide +kernel
theorem d_Mod_kill_76 : decode b_Mod_kill 76 = .ok (.aload_n 0, 1) := by decide +kernel
theorem d_Mod_kill_77 : decode b_Mod_kill 77 = .ok (.getfield 46, 3) := by decide +kernel
theorem d_Mod_kill_80 : decode b_Mod_kill 80 = .ok (.if_icmp .ne 26, 3) := by decide +kernel
theorem d_Mod_kill_83 : decode b_Mod_kill 83 = .ok (.aload_n 0, 1) := by decide +kernel
theorem d_Mod_kill_84 : decode b_Mod_kill 84 = .ok (.iload_n 1, 1) := by decide +kernel
theorem d_Mod_kill_85 : decode b_Mod_kill 85 = .ok (.invokevirtual 93, 3) := by decide +kernel
theorem d_Mod_kill_88 : decode b_Mod_kill 88 = .ok (.istore_n 2, 1) := by decide +kernel
theorem d_Mod_kill_89 : decode b_Mod_kill 89 = .ok (.iload_n 2, 1) := by decide +kernel
theorem d_Mod_kill_90 : decode b_Mod_kill 90 = .ok (.ifCond .ne 9, 3) := by decide +kernel
theorem d_Mod_kill_93 : decode b_Mod_kill 93 = .ok (.aload_n 0, 1) := by decide +kernel
theorem d_Mod_kill_94 : decode b_Mod_kill 94 = .ok (.iconst 3, 1) := by decide +kernel
theorem d_Mod_kill_95 : decode b_Mod_kill 95 = .ok (.invokevirtual 67, 3) := by decide +kernel
theorem d_Mod_kill_98 : decode b_Mod_kill 98 = .ok (.ireturn, 1) := by decide +kernel
theorem d_Mod_kill_99 : decode b_Mod_kill 99 = .ok (.aload_n 0, 1) := by decide +kernel
theorem d_Mod_kill_100 : decode b_Mod_kill 100 = .ok (.iload_n 2, 1) := by decide +kernel
theorem d_Mod_kill_101 : decode b_Mod_kill 101 = .ok (.iconst 5, 1) := by decide +kernel
theorem d_Mod_kill_102 : decode b_Mod_kill 102 = .ok (.invokevirtual 89, 3) := by decide +kernel
theorem d_Mod_kill_105 : decode b_Mod_kill 105 = .ok (.pop, 1) := by decide +kernel
theorem d_Mod_kill_106 : decode b_Mod_kill 106 = .ok (.aload_n 0, 1) := by decide +kernel
theorem d_Mod_kill_107 : decode b_Mod_kill 107 = .ok (.getfield 7, 3) := by decide +kernel
theorem d_Mod_kill_110 : decode b_Mod_kill 110 = .ok (.iload_n 1, 1) := by decide +kernel
theorem d_Mod_kill_111 : decode b_Mod_kill 111 = .ok (.iconst 5, 1) := by decide +kernel
theorem d_Mod_kill_112 : decode b_Mod_kill 112 = .ok (.iastore, 1) := by decide +kernel
theorem d_Mod_kill_113 : decode b_Mod_kill 113 = .ok (.aload_n 0, 1) := by decide +kernel
theorem d_Mod_kill_114 : decode b_Mod_kill 114 = .ok (.iload_n 1, 1) := by decide +kernel
theorem d_Mod_kill_115 : decode b_Mod_kill 115 = .ok (.invokevirtual 96, 3) := by decide +kernel
theorem d_Mod_kill_118 : decode b_Mod_kill 118 = .ok (.ireturn, 1) := by decide +kernel
theorem d_Mod_nextReady_0 : decode b_Mod_nextReady 0 = .ok (.iconst 1, 1) := by decide +kernel
theorem d_Mod_nextReady_1 : decode b_Mod_nextReady 1 = .ok (.istore_n 2, 1) := by decide +kernel
theorem d_Mod_nextReady_2 : decode b_Mod_nextReady 2 = .ok (.iload_n 2, 1) := by decide +kernel
theorem d_Mod_nextReady_3 : decode b_Mod_nextReady 3 = .ok (.iconst 5, 1) := by decide +kernel
theorem d_Mod_nextReady_4 : decode b_Mod_nextReady 4 = .ok (.if_icmp .gt 31, 3) := by decide +kernel
theorem d_Mod_nextReady_7 : decode b_Mod_nextReady 7 = .ok (.iload_n 1, 1) := by decide +kernel
theorem d_Mod_nextReady_8 : decode b_Mod_nextReady 8 = .ok (.iconst 1, 1) := by decide +kernel
theorem d_Mod_nextReady_9 : decode b_Mod_nextReady 9 = .ok (.isub, 1) := by decide +kernel
theorem d_Mod_nextReady_10 : decode b_Mod_nextReady 10 = .ok (.iload_n 2, 1) := by decide +kernel
theorem d_Mod_nextReady_11 : decode b_Mod_nextReady 11 = .ok (.iadd, 1) := by decide +kernel
theorem d_Mod_nextReady_12 : decode b_Mod_nextReady 12 = .ok (.iconst 5, 1) := by decide +kernel
theorem d_Mod_nextReady_13 : decode b_Mod_nextReady 13 = .ok (.irem, 1) := by decide +kernel
theorem d_Mod_nextReady_14 : decode b_Mod_nextReady 14 = .ok (.iconst 1, 1) := by decide +kernel
theorem d_Mod_nextReady_15 : decode b_Mod_nextReady 15 = .ok (.iadd, 1) := by decide +kernel
theorem d_Mod_nextReady_16 : decode b_Mod_nextReady 16 = .ok (.istore_n 3, 1) := by decide +kernel
theorem d_Mod_nextReady_17 : decode b_Mod_nextReady 17 = .ok (.aload_n 0, 1) := by decide +kernel
theorem d_Mod_nextReady_18 : decode b_Mod_nextReady 18 = .ok (.getfield 7, 3) := by decide +kernel
theorem d_Mod_nextReady_21 : decode b_Mod_nextReady 21 = .ok (.iload_n 3, 1) := by decide +kernel
theorem d_Mod_nextReady_22 : decode b_Mod_nextReady 22 = .ok (.iaload, 1) := by decide +kernel
theorem d_Mod_nextReady_23 : decode b_Mod_nextReady 23 = .ok (.iconst 2, 1) := by decide +kernel
theorem d_Mod_nextReady_24 : decode b_Mod_nextReady 24 = .ok (.if_icmp .ne 5, 3) := by decide +kernel
theorem d_Mod_nextReady_27 : decode b_Mod_nextReady 27 = .ok (.iload_n 3, 1) := by decide +kernel
theorem d_Mod_nextReady_28 : decode b_Mod_nextReady 28 = .ok (.ireturn, 1) := by decide +kernel
theorem d_Mod_nextReady_29 : decode b_Mod_nextReady 29 = .ok (.iinc 2 1, 3) := by decide +kernel
theorem d_Mod_nextReady_32 : decode b_Mod_nextReady 32 = .ok (.goto (-30), 3) := by decide +kernel
theorem d_Mod_nextReady_35 : decode b_Mod_nextReady 35 = .ok (.iconst 0, 1) := by decide +kernel
theorem d_Mod_nextReady_36 : decode b_Mod_nextReady 36 = .ok (.ireturn, 1) := by decide +kernel
theorem d_Mod_descriptors_0 : decode b_Mod_descriptors 0 = .ok (.iconst 0, 1) := by decide +kernel
theorem d_Mod_descriptors_1 : decode b_Mod_descriptors 1 = .ok (.istore_n 2, 1) := by decide +kernel
theorem d_Mod_descriptors_2 : decode b_Mod_descriptors 2 = .ok (.iconst 4, 1) := by decide +kernel
theorem d_Mod_descriptors_3 : decode b_Mod_descriptors 3 = .ok (.iload_n 1, 1) := by decide +kernel
theorem d_Mod_descriptors_4 : decode b_Mod_descriptors 4 = .ok (.imul, 1) := by decide +kernel
theorem d_Mod_descriptors_5 : decode b_Mod_descriptors 5 = .ok (.istore_n 3, 1) := by decide +kernel
theorem d_Mod_descriptors_6 : decode b_Mod_descriptors 6 = .ok (.iload_n 3, 1) := by decide +kernel
theorem d_Mod_descriptors_7 : decode b_Mod_descriptors 7 = .ok (.iconst 4, 1) := by decide +kernel
theorem d_Mod_descriptors_8 : decode b_Mod_descriptors 8 = .ok (.iload_n 1, 1) := by decide +kernel
theorem d_Mod_descriptors_9 : decode b_Mod_descriptors 9 = .ok (.imul, 1) := by decide +kernel
theorem d_Mod_descriptors_10 : decode b_Mod_descriptors 10 = .ok (.iconst 4, 1) := by decide +kernel
theorem d_Mod_descriptors_11 : decode b_Mod_descriptors 11 = .ok (.iadd, 1) := by decide +kernel
theorem d_Mod_descriptors_12 : decode b_Mod_descriptors 12 = .ok (.if_icmp .ge 21, 3) := by decide +kernel
theorem d_Mod_descriptors_15 : decode b_Mod_descriptors 15 = .ok (.aload_n 0, 1) := by decide +kernel
theorem d_Mod_descriptors_16 : decode b_Mod_descriptors 16 = .ok (.getfield 19, 3) := by decide +kernel
theorem d_Mod_descriptors_19 : decode b_Mod_descriptors 19 = .ok (.iload_n 3, 1) := by decide +kernel
theorem d_Mod_descriptors_20 : decode b_Mod_descriptors 20 = .ok (.iaload, 1) := by decide +kernel
theorem d_Mod_descriptors_21 : decode b_Mod_descriptors 21 = .ok (.ifCond .lt 6, 3) := by decide +kernel
theorem d_Mod_descriptors_24 : decode b_Mod_descriptors 24 = .ok (.iinc 2 1, 3) := by decide +kernel
theorem d_Mod_descriptors_27 : decode b_Mod_descriptors 27 = .ok (.iinc 3 1, 3) := by decide +kernel
theorem d_Mod_descriptors_30 : decode b_Mod_descriptors 30 = .ok (.goto (-24), 3) := by decide +kernel
theorem d_Mod_descriptors_33 : decode b_Mod_descriptors 33 = .ok (.iload_n 2, 1) := by decide +kernel
theorem d_Mod_descriptors_34 : decode b_Mod_descriptors 34 = .ok (.ireturn, 1) := by decide +kernel
theorem d_Mod_reap_0 : decode b_Mod_reap 0 = .ok (.aload_n 0, 1) := by decide +kernel
theorem d_Mod_reap_1 : decode b_Mod_reap 1 = .ok (.iconst 0, 1) := by decide +kernel
theorem d_Mod_reap_2 : decode b_Mod_reap 2 = .ok (.putfield 50, 3) := by decide +kernel
theorem d_Mod_reap_5 : decode b_Mod_reap 5 = .ok (.iload_n 1, 1) := by decide +kernel
theorem d_Mod_reap_6 : decode b_Mod_reap 6 = .ok (.invokestatic 61, 3) := by decide +kernel
theorem d_Mod_reap_9 : decode b_Mod_reap 9 = .ok (.ifCond .ne 9, 3) := by decide +kernel
theorem d_Mod_reap_12 : decode b_Mod_reap 12 = .ok (.aload_n 0, 1) := by decide +kernel
theorem d_Mod_reap_13 : decode b_Mod_reap 13 = .ok (.iconst 1, 1) := by decide +kernel
theorem d_Mod_reap_14 : decode b_Mod_reap 14 = .ok (.invokevirtual 67, 3) := by decide +kernel
theorem d_Mod_reap_17 : decode b_Mod_reap 17 = .ok (.ireturn, 1) := by decide +kernel
theorem d_Mod_reap_18 : decode b_Mod_reap 18 = .ok (.aload_n 0, 1) := by decide +kernel
theorem d_Mod_reap_19 : decode b_Mod_reap 19 = .ok (.getfield 7, 3) := by decide +kernel
theorem d_Mod_reap_22 : decode b_Mod_reap 22 = .ok (.iload_n 1, 1) := by decide +kernel
theorem d_Mod_reap_23 : decode b_Mod_reap 23 = .ok (.iaload, 1) := by decide +kernel
theorem d_Mod_reap_24 : decode b_Mod_reap 24 = .ok (.iconst 5, 1) := by decide +kernel
theorem d_Mod_reap_25 : decode b_Mod_reap 25 = .ok (.if_icmp .ne 46, 3) := by decide +kernel
theorem d_Mod_reap_28 : decode b_Mod_reap 28 = .ok (.aload_n 0, 1) := by decide +kernel
theorem d_Mod_reap_29 : decode b_Mod_reap 29 = .ok (.getfield 13, 3) := by decide +kernel
theorem d_Mod_reap_32 : decode b_Mod_reap 32 = .ok (.iload_n 1, 1) := by decide +kernel
theorem d_Mod_reap_33 : decode b_Mod_reap 33 = .ok (.iaload, 1) := by decide +kernel
theorem d_Mod_reap_34 : decode b_Mod_reap 34 = .ok (.aload_n 0, 1) := by decide +kernel
theorem d_Mod_reap_35 : decode b_Mod_reap 35 = .ok (.getfield 46, 3) := by decide +kernel
theorem d_Mod_reap_38 : decode b_Mod_reap 38 = .ok (.if_icmp .ne 33, 3) := by decide +kernel
theorem d_Mod_reap_41 : decode b_Mod_reap 41 = .ok (.aload_n 0, 1) := by decide +kernel
theorem d_Mod_reap_42 : decode b_Mod_reap 42 = .ok (.iload_n 1, 1) := by decide +kernel
theorem d_Mod_reap_43 : decode b_Mod_reap 43 = .ok (.invokevirtual 99, 3) := by decide +kernel
theorem d_Mod_reap_46 : decode b_Mod_reap 46 = .ok (.iconst 1, 1) := by decide +kernel
theorem d_Mod_reap_47 : decode b_Mod_reap 47 = .ok (.if_icmp .gt 24, 3) := by decide +kernel
theorem d_Mod_reap_50 : decode b_Mod_reap 50 = .ok (.aload_n 0, 1) := by decide +kernel
theorem d_Mod_reap_51 : decode b_Mod_reap 51 = .ok (.aload_n 0, 1) := by decide +kernel
theorem d_Mod_reap_52 : decode b_Mod_reap 52 = .ok (.getfield 16, 3) := by decide +kernel
theorem d_Mod_reap_55 : decode b_Mod_reap 55 = .ok (.iload_n 1, 1) := by decide +kernel
theorem d_Mod_reap_56 : decode b_Mod_reap 56 = .ok (.iaload, 1) := by decide +kernel
theorem d_Mod_reap_57 : decode b_Mod_reap 57 = .ok (.invokevirtual 86, 3) := by decide +kernel
theorem d_Mod_reap_60 : decode b_Mod_reap 60 = .ok (.ifCond .gt 11, 3) := by decide +kernel
theorem d_Mod_reap_63 : decode b_Mod_reap 63 = .ok (.aload_n 0, 1) := by decide +kernel
theorem d_Mod_reap_64 : decode b_Mod_reap 64 = .ok (.iload_n 1, 1) := by decide +kernel
theorem d_Mod_reap_65 : decode b_Mod_reap 65 = .ok (.invokevirtual 96, 3) := by decide +kernel
theorem d_Mod_reap_68 : decode b_Mod_reap 68 = .ok (.ifCond .le 9, 3) := by decide +kernel
theorem d_Mod_reap_71 : decode b_Mod_reap 71 = .ok (.aload_n 0, 1) := by decide +kernel
theorem d_Mod_reap_72 : decode b_Mod_reap 72 = .ok (.iconst 2, 1) := by decide +kernel
theorem d_Mod_reap_73 : decode b_Mod_reap 73 = .ok (.invokevirtual 67, 3) := by decide +kernel
theorem d_Mod_reap_76 : decode b_Mod_reap 76 = .ok (.ireturn, 1) := by decide +kernel
theorem d_Mod_reap_77 : decode b_Mod_reap 77 = .ok (.iconst 0, 1) := by decide +kernel
theorem d_Mod_reap_78 : decode b_Mod_reap 78 = .ok (.istore_n 2, 1) := by decide +kernel
theorem d_Mod_reap_79 : decode b_Mod_reap 79 = .ok (.iconst 1, 1) := by decide +kernel
theorem d_Mod_reap_80 : decode b_Mod_reap 80 = .ok (.istore_n 3, 1) := by decide +kernel
theorem d_Mod_reap_81 : decode b_Mod_reap 81 = .ok (.iload_n 3, 1) := by decide +kernel
theorem d_Mod_reap_82 : decode b_Mod_reap 82 = .ok (.bipush 6, 2) := by decide +kernel
theorem d_Mod_reap_84 : decode b_Mod_reap 84 = .ok (.if_icmp .ge 41, 3) := by decide +kernel
theorem d_Mod_reap_87 : decode b_Mod_reap 87 = .ok (.aload_n 0, 1) := by decide +kernel
theorem d_Mod_reap_88 : decode b_Mod_reap 88 = .ok (.getfield 7, 3) := by decide +kernel
theorem d_Mod_reap_91 : decode b_Mod_reap 91 = .ok (.iload_n 3, 1) := by decide +kernel
theorem d_Mod_reap_92 : decode b_Mod_reap 92 = .ok (.iaload, 1) := by decide +kernel
theorem d_Mod_reap_93 : decode b_Mod_reap 93 = .ok (.ifCond .eq 26, 3) := by decide +kernel
theorem d_Mod_reap_96 : decode b_Mod_reap 96 = .ok (.aload_n 0, 1) := by decide +kernel
theorem d_Mod_reap_97 : decode b_Mod_reap 97 = .ok (.getfield 13, 3) := by decide +kernel
theorem d_Mod_reap_100 : decode b_Mod_reap 100 = .ok (.iload_n 3, 1) := by decide +kernel
theorem d_Mod_reap_101 : decode b_Mod_reap 101 = .ok (.iaload, 1) := by decide +kernel
theorem d_Mod_reap_102 : decode b_Mod_reap 102 = .ok (.iload_n 1, 1) := by decide +kernel
theorem d_Mod_reap_103 : decode b_Mod_reap 103 = .ok (.if_icmp .eq 6, 3) := by decide +kernel
theorem d_Mod_reap_106 : decode b_Mod_reap 106 = .ok (.goto 13, 3) := by decide +kernel
theorem d_Mod_reap_109 : decode b_Mod_reap 109 = .ok (.aload_n 0, 1) := by decide +kernel
theorem d_Mod_reap_110 : decode b_Mod_reap 110 = .ok (.getfield 13, 3) := by decide +kernel
theorem d_Mod_reap_113 : decode b_Mod_reap 113 = .ok (.iload_n 3, 1) := by decide +kernel
theorem d_Mod_reap_114 : decode b_Mod_reap 114 = .ok (.iconst 1, 1) := by decide +kernel
theorem d_Mod_reap_115 : decode b_Mod_reap 115 = .ok (.iastore, 1) := by decide +kernel
theorem d_Mod_reap_116 : decode b_Mod_reap 116 = .ok (.iinc 2 1, 3) := by decide +kernel
theorem d_Mod_reap_119 : decode b_Mod_reap 119 = .ok (.iinc 3 1, 3) := by decide +kernel
theorem d_Mod_reap_122 : decode b_Mod_reap 122 = .ok (.goto (-41), 3) := by decide +kernel
theorem d_Mod_reap_125 : decode b_Mod_reap 125 = .ok (.aload_n 0, 1) := by decide +kernel
theorem d_Mod_reap_126 : decode b_Mod_reap 126 = .ok (.aload_n 0, 1) := by decide +kernel
theorem d_Mod_reap_127 : decode b_Mod_reap 127 = .ok (.getfield 16, 3) := by decide +kernel
theorem d_Mod_reap_130 : decode b_Mod_reap 130 = .ok (.iload_n 1, 1) := by decide +kernel
theorem d_Mod_reap_131 : decode b_Mod_reap 131 = .ok (.iaload, 1) := by decide +kernel
theorem d_Mod_reap_132 : decode b_Mod_reap 132 = .ok (.iconst 0, 1) := by decide +kernel
theorem d_Mod_reap_133 : decode b_Mod_reap 133 = .ok (.iconst 0, 1) := by decide +kernel
theorem d_Mod_reap_134 : decode b_Mod_reap 134 = .ok (.invokevirtual 71, 3) := by decide +kernel
theorem d_Mod_reap_137 : decode b_Mod_reap 137 = .ok (.aload_n 0, 1) := by decide +kernel
theorem d_Mod_reap_138 : decode b_Mod_reap 138 = .ok (.getfield 7, 3) := by decide +kernel
theorem d_Mod_reap_141 : decode b_Mod_reap 141 = .ok (.iload_n 1, 1) := by decide +kernel
theorem d_Mod_reap_142 : decode b_Mod_reap 142 = .ok (.iconst 0, 1) := by decide +kernel
theorem d_Mod_reap_143 : decode b_Mod_reap 143 = .ok (.iastore, 1) := by decide +kernel
theorem d_Mod_reap_144 : decode b_Mod_reap 144 = .ok (.aload_n 0, 1) := by decide +kernel
theorem d_Mod_reap_145 : decode b_Mod_reap 145 = .ok (.getfield 13, 3) := by decide +kernel
theorem d_Mod_reap_148 : decode b_Mod_reap 148 = .ok (.iload_n 1, 1) := by decide +kernel
theorem d_Mod_reap_149 : decode b_Mod_reap 149 = .ok (.iconst 0, 1) := by decide +kernel
theorem d_Mod_reap_150 : decode b_Mod_reap 150 = .ok (.iastore, 1) := by decide +kernel
theorem d_Mod_reap_151 : decode b_Mod_reap 151 = .ok (.aload_n 0, 1) := by decide +kernel
theorem d_Mod_reap_152 : decode b_Mod_reap 152 = .ok (.getfield 16, 3) := by decide +kernel
theorem d_Mod_reap_155 : decode b_Mod_reap 155 = .ok (.iload_n 1, 1) := by decide +kernel
theorem d_Mod_reap_156 : decode b_Mod_reap 156 = .ok (.iconst (-1), 1) := by decide +kernel
theorem d_Mod_reap_157 : decode b_Mod_reap 157 = .ok (.iastore, 1) := by decide +kernel
theorem d_Mod_reap_158 : decode b_Mod_reap 158 = .ok (.iload_n 2, 1) := by decide +kernel
theorem d_Mod_reap_159 : decode b_Mod_reap 159 = .ok (.ireturn, 1) := by decide +kernel
theorem d_Mod_owned_0 : decode b_Mod_owned 0 = .ok (.iconst 0, 1) := by decide +kernel
theorem d_Mod_owned_1 : decode b_Mod_owned 1 = .ok (.istore_n 2, 1) := by decide +kernel
theorem d_Mod_owned_2 : decode b_Mod_owned 2 = .ok (.iconst 0, 1) := by decide +kernel
theorem d_Mod_owned_3 : decode b_Mod_owned 3 = .ok (.istore_n 3, 1) := by decide +kernel
theorem d_Mod_owned_4 : decode b_Mod_owned 4 = .ok (.iload_n 3, 1) := by decide +kernel
theorem d_Mod_owned_5 : decode b_Mod_owned 5 = .ok (.bipush 20, 2) := by decide +kernel
theorem d_Mod_owned_7 : decode b_Mod_owned 7 = .ok (.if_icmp .ge 31, 3) := by decide +kernel
theorem d_Mod_owned_10 : decode b_Mod_owned 10 = .ok (.aload_n 0, 1) := by decide +kernel
theorem d_Mod_owned_11 : decode b_Mod_owned 11 = .ok (.getfield 25, 3) := by decide +kernel
theorem d_Mod_owned_14 : decode b_Mod_owned 14 = .ok (.iload_n 3, 1) := by decide +kernel
theorem d_Mod_owned_15 : decode b_Mod_owned 15 = .ok (.iaload, 1) := by decide +kernel
theorem d_Mod_owned_16 : decode b_Mod_owned 16 = .ok (.ifCond .le 16, 3) := by decide +kernel
theorem d_Mod_owned_19 : decode b_Mod_owned 19 = .ok (.aload_n 0, 1) := by decide +kernel
theorem d_Mod_owned_20 : decode b_Mod_owned 20 = .ok (.getfield 28, 3) := by decide +kernel
theorem d_Mod_owned_23 : decode b_Mod_owned 23 = .ok (.iload_n 3, 1) := by decide +kernel
theorem d_Mod_owned_24 : decode b_Mod_owned 24 = .ok (.iaload, 1) := by decide +kernel
theorem d_Mod_owned_25 : decode b_Mod_owned 25 = .ok (.iload_n 1, 1) := by decide +kernel
theorem d_Mod_owned_26 : decode b_Mod_owned 26 = .ok (.if_icmp .ne 6, 3) := by decide +kernel
theorem d_Mod_owned_29 : decode b_Mod_owned 29 = .ok (.iinc 2 1, 3) := by decide +kernel
theorem d_Mod_owned_32 : decode b_Mod_owned 32 = .ok (.iinc 3 1, 3) := by decide +kernel
theorem d_Mod_owned_35 : decode b_Mod_owned 35 = .ok (.goto (-31), 3) := by decide +kernel
theorem d_Mod_owned_38 : decode b_Mod_owned 38 = .ok (.iload_n 2, 1) := by decide +kernel
theorem d_Mod_owned_39 : decode b_Mod_owned 39 = .ok (.ireturn, 1) := by decide +kernel
theorem d_Mod_open_0 : decode b_Mod_open 0 = .ok (.aload_n 0, 1) := by decide +kernel
theorem d_Mod_open_1 : decode b_Mod_open 1 = .ok (.iconst 0, 1) := by decide +kernel
theorem d_Mod_open_2 : decode b_Mod_open 2 = .ok (.putfield 50, 3) := by decide +kernel
theorem d_Mod_open_5 : decode b_Mod_open 5 = .ok (.iload_n 1, 1) := by decide +kernel
theorem d_Mod_open_6 : decode b_Mod_open 6 = .ok (.invokestatic 61, 3) := by decide +kernel
theorem d_Mod_open_9 : decode b_Mod_open 9 = .ok (.ifCond .eq 21, 3) := by decide +kernel
theorem d_Mod_open_12 : decode b_Mod_open 12 = .ok (.iload_n 2, 1) := by decide +kernel
theorem d_Mod_open_13 : decode b_Mod_open 13 = .ok (.iconst 0, 1) := by decide +kernel
theorem d_Mod_open_14 : decode b_Mod_open 14 = .ok (.iconst 3, 1) := by decide +kernel
theorem d_Mod_open_15 : decode b_Mod_open 15 = .ok (.invokestatic 53, 3) := by decide +kernel
theorem d_Mod_open_18 : decode b_Mod_open 18 = .ok (.ifCond .eq 12, 3) := by decide +kernel
theorem d_Mod_open_21 : decode b_Mod_open 21 = .ok (.iload_n 3, 1) := by decide +kernel
theorem d_Mod_open_22 : decode b_Mod_open 22 = .ok (.iconst 0, 1) := by decide +kernel
theorem d_Mod_open_23 : decode b_Mod_open 23 = .ok (.iconst 2, 1) := by decide +kernel
theorem d_Mod_open_24 : decode b_Mod_open 24 = .ok (.invokestatic 53, 3) := by decide +kernel
theorem d_Mod_open_27 : decode b_Mod_open 27 = .ok (.ifCond .ne 9, 3) := by decide +kernel
theorem d_Mod_open_30 : decode b_Mod_open 30 = .ok (.aload_n 0, 1) := by decide +kernel
theorem d_Mod_open_31 : decode b_Mod_open 31 = .ok (.iconst 1, 1) := by decide +kernel
theorem d_Mod_open_32 : decode b_Mod_open 32 = .ok (.invokevirtual 67, 3) := by decide +kernel
theorem d_Mod_open_35 : decode b_Mod_open 35 = .ok (.ireturn, 1) := by decide +kernel
theorem d_Mod_open_36 : decode b_Mod_open 36 = .ok (.aload_n 0, 1) := by decide +kernel
theorem d_Mod_open_37 : decode b_Mod_open 37 = .ok (.iload_n 1, 1) := by decide +kernel
theorem d_Mod_open_38 : decode b_Mod_open 38 = .ok (.invokevirtual 57, 3) := by decide +kernel
theorem d_Mod_open_41 : decode b_Mod_open 41 = .ok (.ifCond .ne 9, 3) := by decide +kernel
theorem d_Mod_open_44 : decode b_Mod_open 44 = .ok (.aload_n 0, 1) := by decide +kernel
theorem d_Mod_open_45 : decode b_Mod_open 45 = .ok (.iconst 2, 1) := by decide +kernel
theorem d_Mod_open_46 : decode b_Mod_open 46 = .ok (.invokevirtual 67, 3) := by decide +kernel
theorem d_Mod_open_49 : decode b_Mod_open 49 = .ok (.ireturn, 1) := by decide +kernel
theorem d_Mod_open_50 : decode b_Mod_open 50 = .ok (.aload_n 0, 1) := by decide +kernel
theorem d_Mod_open_51 : decode b_Mod_open 51 = .ok (.getfield 19, 3) := by decide +kernel
theorem d_Mod_open_54 : decode b_Mod_open 54 = .ok (.iconst 4, 1) := by decide +kernel
theorem d_Mod_open_55 : decode b_Mod_open 55 = .ok (.iload_n 1, 1) := by decide +kernel
theorem d_Mod_open_56 : decode b_Mod_open 56 = .ok (.imul, 1) := by decide +kernel
theorem d_Mod_open_57 : decode b_Mod_open 57 = .ok (.iload_n 2, 1) := by decide +kernel
theorem d_Mod_open_58 : decode b_Mod_open 58 = .ok (.iadd, 1) := by decide +kernel
theorem d_Mod_open_59 : decode b_Mod_open 59 = .ok (.iaload, 1) := by decide +kernel
theorem d_Mod_open_60 : decode b_Mod_open 60 = .ok (.ifCond .ge 11, 3) := by decide +kernel
theorem d_Mod_open_63 : decode b_Mod_open 63 = .ok (.aload_n 0, 1) := by decide +kernel
theorem d_Mod_open_64 : decode b_Mod_open 64 = .ok (.iload_n 3, 1) := by decide +kernel
theorem d_Mod_open_65 : decode b_Mod_open 65 = .ok (.invokevirtual 102, 3) := by decide +kernel
theorem d_Mod_open_68 : decode b_Mod_open 68 = .ok (.ifCond .le 9, 3) := by decide +kernel
theorem d_Mod_open_71 : decode b_Mod_open 71 = .ok (.aload_n 0, 1) := by decide +kernel
theorem d_Mod_open_72 : decode b_Mod_open 72 = .ok (.iconst 3, 1) := by decide +kernel
theorem d_Mod_open_73 : decode b_Mod_open 73 = .ok (.invokevirtual 67, 3) := by decide +kernel
theorem d_Mod_open_76 : decode b_Mod_open 76 = .ok (.ireturn, 1) := by decide +kernel
theorem d_Mod_open_77 : decode b_Mod_open 77 = .ok (.aload_n 0, 1) := by decide +kernel
theorem d_Mod_open_78 : decode b_Mod_open 78 = .ok (.getfield 19, 3) := by decide +kernel
theorem d_Mod_open_81 : decode b_Mod_open 81 = .ok (.iconst 4, 1) := by decide +kernel
theorem d_Mod_open_82 : decode b_Mod_open 82 = .ok (.iload_n 1, 1) := by decide +kernel
theorem d_Mod_open_83 : decode b_Mod_open 83 = .ok (.imul, 1) := by decide +kernel
theorem d_Mod_open_84 : decode b_Mod_open 84 = .ok (.iload_n 2, 1) := by decide +kernel
theorem d_Mod_open_85 : decode b_Mod_open 85 = .ok (.iadd, 1) := by decide +kernel
theorem d_Mod_open_86 : decode b_Mod_open 86 = .ok (.iload_n 3, 1) := by decide +kernel
theorem d_Mod_open_87 : decode b_Mod_open 87 = .ok (.iastore, 1) := by decide +kernel
theorem d_Mod_open_88 : decode b_Mod_open 88 = .ok (.aload_n 0, 1) := by decide +kernel
theorem d_Mod_open_89 : decode b_Mod_open 89 = .ok (.getfield 43, 3) := by decide +kernel
theorem d_Mod_open_92 : decode b_Mod_open 92 = .ok (.iload_n 3, 1) := by decide +kernel
theorem d_Mod_open_93 : decode b_Mod_open 93 = .ok (.iconst 0, 1) := by decide +kernel
theorem d_Mod_open_94 : decode b_Mod_open 94 = .ok (.iastore, 1) := by decide +kernel
theorem d_Mod_open_95 : decode b_Mod_open 95 = .ok (.iconst 1, 1) := by decide +kernel
theorem d_Mod_open_96 : decode b_Mod_open 96 = .ok (.ireturn, 1) := by decide +kernel
theorem d_Mod_countOf_0 : decode b_Mod_countOf 0 = .ok (.iconst 0, 1) := by decide +kernel
theorem d_Mod_countOf_1 : decode b_Mod_countOf 1 = .ok (.istore_n 2, 1) := by decide +kernel
theorem d_Mod_countOf_2 : decode b_Mod_countOf 2 = .ok (.iconst 4, 1) := by decide +kernel
theorem d_Mod_countOf_3 : decode b_Mod_countOf 3 = .ok (.istore_n 3, 1) := by decide +kernel
theorem d_Mod_countOf_4 : decode b_Mod_countOf 4 = .ok (.iload_n 3, 1) := by decide +kernel
theorem d_Mod_countOf_5 : decode b_Mod_countOf 5 = .ok (.bipush 24, 2) := by decide +kernel
theorem d_Mod_countOf_7 : decode b_Mod_countOf 7 = .ok (.if_icmp .ge 22, 3) := by decide +kernel
theorem d_Mod_countOf_10 : decode b_Mod_countOf 10 = .ok (.aload_n 0, 1) := by decide +kernel
theorem d_Mod_countOf_11 : decode b_Mod_countOf 11 = .ok (.getfield 19, 3) := by decide +kernel
theorem d_Mod_countOf_14 : decode b_Mod_countOf 14 = .ok (.iload_n 3, 1) := by decide +kernel
theorem d_Mod_countOf_15 : decode b_Mod_countOf 15 = .ok (.iaload, 1) := by decide +kernel
theorem d_Mod_countOf_16 : decode b_Mod_countOf 16 = .ok (.iload_n 1, 1) := by decide +kernel
theorem d_Mod_countOf_17 : decode b_Mod_countOf 17 = .ok (.if_icmp .ne 6, 3) := by decide +kernel
theorem d_Mod_countOf_20 : decode b_Mod_countOf 20 = .ok (.iinc 2 1, 3) := by decide +kernel
theorem d_Mod_countOf_23 : decode b_Mod_countOf 23 = .ok (.iinc 3 1, 3) := by decide +kernel
theorem d_Mod_countOf_26 : decode b_Mod_countOf 26 = .ok (.goto (-22), 3) := by decide +kernel
theorem d_Mod_countOf_29 : decode b_Mod_countOf 29 = .ok (.iload_n 2, 1) := by decide +kernel
theorem d_Mod_countOf_30 : decode b_Mod_countOf 30 = .ok (.ireturn, 1) := by decide +kernel
theorem d_Mod_share_0 : decode b_Mod_share 0 = .ok (.aload_n 0, 1) := by decide +kernel
theorem d_Mod_share_1 : decode b_Mod_share 1 = .ok (.iconst 0, 1) := by decide +kernel
theorem d_Mod_share_2 : decode b_Mod_share 2 = .ok (.putfield 50, 3) := by decide +kernel
theorem d_Mod_share_5 : decode b_Mod_share 5 = .ok (.iload_n 1, 1) := by decide +kernel
theorem d_Mod_share_6 : decode b_Mod_share 6 = .ok (.iconst 0, 1) := by decide +kernel
theorem d_Mod_share_7 : decode b_Mod_share 7 = .ok (.iconst 3, 1) := by decide +kernel
theorem d_Mod_share_8 : decode b_Mod_share 8 = .ok (.invokestatic 53, 3) := by decide +kernel
theorem d_Mod_share_11 : decode b_Mod_share 11 = .ok (.ifCond .eq 19, 3) := by decide +kernel
theorem d_Mod_share_14 : decode b_Mod_share 14 = .ok (.iload_n 2, 1) := by decide +kernel
theorem d_Mod_share_15 : decode b_Mod_share 15 = .ok (.invokestatic 61, 3) := by decide +kernel
theorem d_Mod_share_18 : decode b_Mod_share 18 = .ok (.ifCond .eq 12, 3) := by decide +kernel
theorem d_Mod_share_21 : decode b_Mod_share 21 = .ok (.iload_n 3, 1) := by decide +kernel
theorem d_Mod_share_22 : decode b_Mod_share 22 = .ok (.iconst 0, 1) := by decide +kernel
theorem d_Mod_share_23 : decode b_Mod_share 23 = .ok (.iconst 3, 1) := by decide +kernel
theorem d_Mod_share_24 : decode b_Mod_share 24 = .ok (.invokestatic 53, 3) := by decide +kernel
theorem d_Mod_share_27 : decode b_Mod_share 27 = .ok (.ifCond .ne 9, 3) := by decide +kernel
theorem d_Mod_share_30 : decode b_Mod_share 30 = .ok (.aload_n 0, 1) := by decide +kernel
theorem d_Mod_share_31 : decode b_Mod_share 31 = .ok (.iconst 1, 1) := by decide +kernel
theorem d_Mod_share_32 : decode b_Mod_share 32 = .ok (.invokevirtual 67, 3) := by decide +kernel
theorem d_Mod_share_35 : decode b_Mod_share 35 = .ok (.ireturn, 1) := by decide +kernel
theorem d_Mod_share_36 : decode b_Mod_share 36 = .ok (.aload_n 0, 1) := by decide +kernel
theorem d_Mod_share_37 : decode b_Mod_share 37 = .ok (.iload_n 2, 1) := by decide +kernel
theorem d_Mod_share_38 : decode b_Mod_share 38 = .ok (.invokevirtual 57, 3) := by decide +kernel
theorem d_Mod_share_41 : decode b_Mod_share 41 = .ok (.ifCond .ne 9, 3) := by decide +kernel
theorem d_Mod_share_44 : decode b_Mod_share 44 = .ok (.aload_n 0, 1) := by decide +kernel
theorem d_Mod_share_45 : decode b_Mod_share 45 = .ok (.iconst 2, 1) := by decide +kernel
theorem d_Mod_share_46 : decode b_Mod_share 46 = .ok (.invokevirtual 67, 3) := by decide +kernel
theorem d_Mod_share_49 : decode b_Mod_share 49 = .ok (.ireturn, 1) := by decide +kernel
theorem d_Mod_share_50 : decode b_Mod_share 50 = .ok (.aload_n 0, 1) := by decide +kernel
theorem d_Mod_share_51 : decode b_Mod_share 51 = .ok (.getfield 19, 3) := by decide +kernel
theorem d_Mod_share_54 : decode b_Mod_share 54 = .ok (.iconst 4, 1) := by decide +kernel
theorem d_Mod_share_55 : decode b_Mod_share 55 = .ok (.aload_n 0, 1) := by decide +kernel
theorem d_Mod_share_56 : decode b_Mod_share 56 = .ok (.getfield 46, 3) := by decide +kernel
theorem d_Mod_share_59 : decode b_Mod_share 59 = .ok (.imul, 1) := by decide +kernel
theorem d_Mod_share_60 : decode b_Mod_share 60 = .ok (.iload_n 1, 1) := by decide +kernel
theorem d_Mod_share_61 : decode b_Mod_share 61 = .ok (.iadd, 1) := by decide +kernel
theorem d_Mod_share_62 : decode b_Mod_share 62 = .ok (.iaload, 1) := by decide +kernel
theorem d_Mod_share_63 : decode b_Mod_share 63 = .ok (.istore 4, 2) := by decide +kernel
theorem d_Mod_share_65 : decode b_Mod_share 65 = .ok (.iload 4, 2) := by decide +kernel
theorem d_Mod_share_67 : decode b_Mod_share 67 = .ok (.ifCond .ge 9, 3) := by decide +kernel
theorem d_Mod_share_70 : decode b_Mod_share 70 = .ok (.aload_n 0, 1) := by decide +kernel
theorem d_Mod_share_71 : decode b_Mod_share 71 = .ok (.iconst 3, 1) := by decide +kernel
theorem d_Mod_share_72 : decode b_Mod_share 72 = .ok (.invokevirtual 67, 3) := by decide +kernel
theorem d_Mod_share_75 : decode b_Mod_share 75 = .ok (.ireturn, 1) := by decide +kernel
theorem d_Mod_share_76 : decode b_Mod_share 76 = .ok (.aload_n 0, 1) := by decide +kernel
theorem d_Mod_share_77 : decode b_Mod_share 77 = .ok (.getfield 19, 3) := by decide +kernel
theorem d_Mod_share_80 : decode b_Mod_share 80 = .ok (.iconst 4, 1) := by decide +kernel
theorem d_Mod_share_81 : decode b_Mod_share 81 = .ok (.iload_n 2, 1) := by decide +kernel
theorem d_Mod_share_82 : decode b_Mod_share 82 = .ok (.imul, 1) := by decide +kernel
theorem d_Mod_share_83 : decode b_Mod_share 83 = .ok (.iload_n 3, 1) := by decide +kernel
theorem d_Mod_share_84 : decode b_Mod_share 84 = .ok (.iadd, 1) := by decide +kernel
theorem d_Mod_share_85 : decode b_Mod_share 85 = .ok (.iaload, 1) := by decide +kernel
theorem d_Mod_share_86 : decode b_Mod_share 86 = .ok (.ifCond .lt 9, 3) := by decide +kernel
theorem d_Mod_share_89 : decode b_Mod_share 89 = .ok (.aload_n 0, 1) := by decide +kernel
theorem d_Mod_share_90 : decode b_Mod_share 90 = .ok (.iconst 4, 1) := by decide +kernel
theorem d_Mod_share_91 : decode b_Mod_share 91 = .ok (.invokevirtual 67, 3) := by decide +kernel
theorem d_Mod_share_94 : decode b_Mod_share 94 = .ok (.ireturn, 1) := by decide +kernel
theorem d_Mod_share_95 : decode b_Mod_share 95 = .ok (.aload_n 0, 1) := by decide +kernel
theorem d_Mod_share_96 : decode b_Mod_share 96 = .ok (.getfield 19, 3) := by decide +kernel
theorem d_Mod_share_99 : decode b_Mod_share 99 = .ok (.iconst 4, 1) := by decide +kernel
theorem d_Mod_share_100 : decode b_Mod_share 100 = .ok (.iload_n 2, 1) := by decide +kernel
theorem d_Mod_share_101 : decode b_Mod_share 101 = .ok (.imul, 1) := by decide +kernel
theorem d_Mod_share_102 : decode b_Mod_share 102 = .ok (.iload_n 3, 1) := by decide +kernel
theorem d_Mod_share_103 : decode b_Mod_share 103 = .ok (.iadd, 1) := by decide +kernel
theorem d_Mod_share_104 : decode b_Mod_share 104 = .ok (.iload 4, 2) := by decide +kernel
theorem d_Mod_share_106 : decode b_Mod_share 106 = .ok (.iastore, 1) := by decide +kernel
theorem d_Mod_share_107 : decode b_Mod_share 107 = .ok (.aload_n 0, 1) := by decide +kernel
theorem d_Mod_share_108 : decode b_Mod_share 108 = .ok (.iload 4, 2) := by decide +kernel
theorem d_Mod_share_110 : decode b_Mod_share 110 = .ok (.invokevirtual 102, 3) := by decide +kernel
theorem d_Mod_share_113 : decode b_Mod_share 113 = .ok (.ireturn, 1) := by decide +kernel
theorem d_Mod_close_0 : decode b_Mod_close 0 = .ok (.aload_n 0, 1) := by decide +kernel
theorem d_Mod_close_1 : decode b_Mod_close 1 = .ok (.iconst 0, 1) := by decide +kernel
theorem d_Mod_close_2 : decode b_Mod_close 2 = .ok (.putfield 50, 3) := by decide +kernel
theorem d_Mod_close_5 : decode b_Mod_close 5 = .ok (.iload_n 1, 1) := by decide +kernel
theorem d_Mod_close_6 : decode b_Mod_close 6 = .ok (.invokestatic 61, 3) := by decide +kernel
theorem d_Mod_close_9 : decode b_Mod_close 9 = .ok (.ifCond .eq 12, 3) := by decide +kernel
theorem d_Mod_close_12 : decode b_Mod_close 12 = .ok (.iload_n 2, 1) := by decide +kernel
theorem d_Mod_close_13 : decode b_Mod_close 13 = .ok (.iconst 0, 1) := by decide +kernel
theorem d_Mod_close_14 : decode b_Mod_close 14 = .ok (.iconst 3, 1) := by decide +kernel
theorem d_Mod_close_15 : decode b_Mod_close 15 = .ok (.invokestatic 53, 3) := by decide +kernel
theorem d_Mod_close_18 : decode b_Mod_close 18 = .ok (.ifCond .ne 9, 3) := by decide +kernel
theorem d_Mod_close_21 : decode b_Mod_close 21 = .ok (.aload_n 0, 1) := by decide +kernel
theorem d_Mod_close_22 : decode b_Mod_close 22 = .ok (.iconst 1, 1) := by decide +kernel
theorem d_Mod_close_23 : decode b_Mod_close 23 = .ok (.invokevirtual 67, 3) := by decide +kernel
theorem d_Mod_close_26 : decode b_Mod_close 26 = .ok (.ireturn, 1) := by decide +kernel
theorem d_Mod_close_27 : decode b_Mod_close 27 = .ok (.aload_n 0, 1) := by decide +kernel
theorem d_Mod_close_28 : decode b_Mod_close 28 = .ok (.iload_n 1, 1) := by decide +kernel
theorem d_Mod_close_29 : decode b_Mod_close 29 = .ok (.invokevirtual 57, 3) := by decide +kernel
theorem d_Mod_close_32 : decode b_Mod_close 32 = .ok (.ifCond .ne 9, 3) := by decide +kernel
theorem d_Mod_close_35 : decode b_Mod_close 35 = .ok (.aload_n 0, 1) := by decide +kernel
theorem d_Mod_close_36 : decode b_Mod_close 36 = .ok (.iconst 2, 1) := by decide +kernel
theorem d_Mod_close_37 : decode b_Mod_close 37 = .ok (.invokevirtual 67, 3) := by decide +kernel
theorem d_Mod_close_40 : decode b_Mod_close 40 = .ok (.ireturn, 1) := by decide +kernel
theorem d_Mod_close_41 : decode b_Mod_close 41 = .ok (.aload_n 0, 1) := by decide +kernel
theorem d_Mod_close_42 : decode b_Mod_close 42 = .ok (.getfield 19, 3) := by decide +kernel
theorem d_Mod_close_45 : decode b_Mod_close 45 = .ok (.iconst 4, 1) := by decide +kernel
theorem d_Mod_close_46 : decode b_Mod_close 46 = .ok (.iload_n 1, 1) := by decide +kernel
theorem d_Mod_close_47 : decode b_Mod_close 47 = .ok (.imul, 1) := by decide +kernel
theorem d_Mod_close_48 : decode b_Mod_close 48 = .ok (.iload_n 2, 1) := by decide +kernel
theorem d_Mod_close_49 : decode b_Mod_close 49 = .ok (.iadd, 1) := by decide +kernel
theorem d_Mod_close_50 : decode b_Mod_close 50 = .ok (.iaload, 1) := by decide +kernel
theorem d_Mod_close_51 : decode b_Mod_close 51 = .ok (.istore_n 3, 1) := by decide +kernel
theorem d_Mod_close_52 : decode b_Mod_close 52 = .ok (.iload_n 3, 1) := by decide +kernel
theorem d_Mod_close_53 : decode b_Mod_close 53 = .ok (.ifCond .ge 9, 3) := by decide +kernel
theorem d_Mod_close_56 : decode b_Mod_close 56 = .ok (.aload_n 0, 1) := by decide +kernel
theorem d_Mod_close_57 : decode b_Mod_close 57 = .ok (.iconst 3, 1) := by decide +kernel
theorem d_Mod_close_58 : decode b_Mod_close 58 = .ok (.invokevirtual 67, 3) := by decide +kernel
theorem d_Mod_close_61 : decode b_Mod_close 61 = .ok (.ireturn, 1) := by decide +kernel
theorem d_Mod_close_62 : decode b_Mod_close 62 = .ok (.aload_n 0, 1) := by decide +kernel
theorem d_Mod_close_63 : decode b_Mod_close 63 = .ok (.getfield 19, 3) := by decide +kernel
theorem d_Mod_close_66 : decode b_Mod_close 66 = .ok (.iconst 4, 1) := by decide +kernel
theorem d_Mod_close_67 : decode b_Mod_close 67 = .ok (.iload_n 1, 1) := by decide +kernel
theorem d_Mod_close_68 : decode b_Mod_close 68 = .ok (.imul, 1) := by decide +kernel
theorem d_Mod_close_69 : decode b_Mod_close 69 = .ok (.iload_n 2, 1) := by decide +kernel
theorem d_Mod_close_70 : decode b_Mod_close 70 = .ok (.iadd, 1) := by decide +kernel
theorem d_Mod_close_71 : decode b_Mod_close 71 = .ok (.iconst (-1), 1) := by decide +kernel
theorem d_Mod_close_72 : decode b_Mod_close 72 = .ok (.iastore, 1) := by decide +kernel
theorem d_Mod_close_73 : decode b_Mod_close 73 = .ok (.aload_n 0, 1) := by decide +kernel
theorem d_Mod_close_74 : decode b_Mod_close 74 = .ok (.iload_n 3, 1) := by decide +kernel
theorem d_Mod_close_75 : decode b_Mod_close 75 = .ok (.invokevirtual 102, 3) := by decide +kernel
theorem d_Mod_close_78 : decode b_Mod_close 78 = .ok (.ireturn, 1) := by decide +kernel
theorem d_Mod_put_0 : decode b_Mod_put 0 = .ok (.aload_n 0, 1) := by decide +kernel
theorem d_Mod_put_1 : decode b_Mod_put 1 = .ok (.iconst 0, 1) := by decide +kernel
theorem d_Mod_put_2 : decode b_Mod_put 2 = .ok (.putfield 50, 3) := by decide +kernel
theorem d_Mod_put_5 : decode b_Mod_put 5 = .ok (.iload_n 1, 1) := by decide +kernel
theorem d_Mod_put_6 : decode b_Mod_put 6 = .ok (.iconst 0, 1) := by decide +kernel
theorem d_Mod_put_7 : decode b_Mod_put 7 = .ok (.iconst 3, 1) := by decide +kernel
theorem d_Mod_put_8 : decode b_Mod_put 8 = .ok (.invokestatic 53, 3) := by decide +kernel
theorem d_Mod_put_11 : decode b_Mod_put 11 = .ok (.ifCond .eq 13, 3) := by decide +kernel
theorem d_Mod_put_14 : decode b_Mod_put 14 = .ok (.iload_n 2, 1) := by decide +kernel
theorem d_Mod_put_15 : decode b_Mod_put 15 = .ok (.iconst 0, 1) := by decide +kernel
theorem d_Mod_put_16 : decode b_Mod_put 16 = .ok (.bipush 63, 2) := by decide +kernel
theorem d_Mod_put_18 : decode b_Mod_put 18 = .ok (.invokestatic 53, 3) := by decide +kernel
theorem d_Mod_put_21 : decode b_Mod_put 21 = .ok (.ifCond .ne 9, 3) := by decide +kernel
theorem d_Mod_put_24 : decode b_Mod_put 24 = .ok (.aload_n 0, 1) := by decide +kernel
theorem d_Mod_put_25 : decode b_Mod_put 25 = .ok (.iconst 1, 1) := by decide +kernel
theorem d_Mod_put_26 : decode b_Mod_put 26 = .ok (.invokevirtual 67, 3) := by decide +kernel
theorem d_Mod_put_29 : decode b_Mod_put 29 = .ok (.ireturn, 1) := by decide +kernel
theorem d_Mod_put_30 : decode b_Mod_put 30 = .ok (.aload_n 0, 1) := by decide +kernel
theorem d_Mod_put_31 : decode b_Mod_put 31 = .ok (.getfield 19, 3) := by decide +kernel
theorem d_Mod_put_34 : decode b_Mod_put 34 = .ok (.iconst 4, 1) := by decide +kernel
theorem d_Mod_put_35 : decode b_Mod_put 35 = .ok (.aload_n 0, 1) := by decide +kernel
theorem d_Mod_put_36 : decode b_Mod_put 36 = .ok (.getfield 46, 3) := by decide +kernel
theorem d_Mod_put_39 : decode b_Mod_put 39 = .ok (.imul, 1) := by decide +kernel
theorem d_Mod_put_40 : decode b_Mod_put 40 = .ok (.iload_n 1, 1) := by decide +kernel
theorem d_Mod_put_41 : decode b_Mod_put 41 = .ok (.iadd, 1) := by decide +kernel
theorem d_Mod_put_42 : decode b_Mod_put 42 = .ok (.iaload, 1) := by decide +kernel
theorem d_Mod_put_43 : decode b_Mod_put 43 = .ok (.istore_n 3, 1) := by decide +kernel
theorem d_Mod_put_44 : decode b_Mod_put 44 = .ok (.iload_n 3, 1) := by decide +kernel
theorem d_Mod_put_45 : decode b_Mod_put 45 = .ok (.ifCond .ge 9, 3) := by decide +kernel
theorem d_Mod_put_48 : decode b_Mod_put 48 = .ok (.aload_n 0, 1) := by decide +kernel
theorem d_Mod_put_49 : decode b_Mod_put 49 = .ok (.iconst 2, 1) := by decide +kernel
theorem d_Mod_put_50 : decode b_Mod_put 50 = .ok (.invokevirtual 67, 3) := by decide +kernel
theorem d_Mod_put_53 : decode b_Mod_put 53 = .ok (.ireturn, 1) := by decide +kernel
theorem d_Mod_put_54 : decode b_Mod_put 54 = .ok (.aload_n 0, 1) := by decide +kernel
theorem d_Mod_put_55 : decode b_Mod_put 55 = .ok (.iload_n 2, 1) := by decide +kernel
theorem d_Mod_put_56 : decode b_Mod_put 56 = .ok (.iconst 1, 1) := by decide +kernel
theorem d_Mod_put_57 : decode b_Mod_put 57 = .ok (.invokevirtual 111, 3) := by decide +kernel
theorem d_Mod_put_60 : decode b_Mod_put 60 = .ok (.istore 4, 2) := by decide +kernel
theorem d_Mod_put_62 : decode b_Mod_put 62 = .ok (.iload 4, 2) := by decide +kernel
theorem d_Mod_put_64 : decode b_Mod_put 64 = .ok (.ifCond .ge 12, 3) := by decide +kernel
theorem d_Mod_put_67 : decode b_Mod_put 67 = .ok (.aload_n 0, 1) := by decide +kernel
theorem d_Mod_put_68 : decode b_Mod_put 68 = .ok (.aload_n 0, 1) := by decide +kernel
theorem d_Mod_put_69 : decode b_Mod_put 69 = .ok (.getfield 108, 3) := by decide +kernel
theorem d_Mod_put_72 : decode b_Mod_put 72 = .ok (.invokevirtual 67, 3) := by decide +kernel
theorem d_Mod_put_75 : decode b_Mod_put 75 = .ok (.ireturn, 1) := by decide +kernel
theorem d_Mod_put_76 : decode b_Mod_put 76 = .ok (.aload_n 0, 1) := by decide +kernel
theorem d_Mod_put_77 : decode b_Mod_put 77 = .ok (.getfield 43, 3) := by decide +kernel
theorem d_Mod_put_80 : decode b_Mod_put 80 = .ok (.iload_n 3, 1) := by decide +kernel
theorem d_Mod_put_81 : decode b_Mod_put 81 = .ok (.iaload, 1) := by decide +kernel
theorem d_Mod_put_82 : decode b_Mod_put 82 = .ok (.iconst 4, 1) := by decide +kernel
theorem d_Mod_put_83 : decode b_Mod_put 83 = .ok (.if_icmp .ne 9, 3) := by decide +kernel
theorem d_Mod_put_86 : decode b_Mod_put 86 = .ok (.aload_n 0, 1) := by decide +kernel
theorem d_Mod_put_87 : decode b_Mod_put 87 = .ok (.iconst 4, 1) := by decide +kernel
theorem d_Mod_put_88 : decode b_Mod_put 88 = .ok (.invokevirtual 67, 3) := by decide +kernel
theorem d_Mod_put_91 : decode b_Mod_put 91 = .ok (.ireturn, 1) := by decide +kernel
theorem d_Mod_put_92 : decode b_Mod_put 92 = .ok (.aload_n 0, 1) := by decide +kernel
theorem d_Mod_put_93 : decode b_Mod_put 93 = .ok (.getfield 40, 3) := by decide +kernel
theorem d_Mod_put_96 : decode b_Mod_put 96 = .ok (.iconst 4, 1) := by decide +kernel
theorem d_Mod_put_97 : decode b_Mod_put 97 = .ok (.iload_n 3, 1) := by decide +kernel
theorem d_Mod_put_98 : decode b_Mod_put 98 = .ok (.imul, 1) := by decide +kernel
theorem d_Mod_put_99 : decode b_Mod_put 99 = .ok (.aload_n 0, 1) := by decide +kernel
theorem d_Mod_put_100 : decode b_Mod_put 100 = .ok (.getfield 43, 3) := by decide +kernel
theorem d_Mod_put_103 : decode b_Mod_put 103 = .ok (.iload_n 3, 1) := by decide +kernel
theorem d_Mod_put_104 : decode b_Mod_put 104 = .ok (.iaload, 1) := by decide +kernel
theorem d_Mod_put_105 : decode b_Mod_put 105 = .ok (.iadd, 1) := by decide +kernel
theorem d_Mod_put_106 : decode b_Mod_put 106 = .ok (.aload_n 0, 1) := by decide +kernel
theorem d_Mod_put_107 : decode b_Mod_put 107 = .ok (.getfield 37, 3) := by decide +kernel
theorem d_Mod_put_110 : decode b_Mod_put 110 = .ok (.iload 4, 2) := by decide +kernel
theorem d_Mod_put_112 : decode b_Mod_put 112 = .ok (.iaload, 1) := by decide +kernel
theorem d_Mod_put_113 : decode b_Mod_put 113 = .ok (.iastore, 1) := by decide +kernel
theorem d_Mod_put_114 : decode b_Mod_put 114 = .ok (.aload_n 0, 1) := by decide +kernel
theorem d_Mod_put_115 : decode b_Mod_put 115 = .ok (.getfield 43, 3) := by decide +kernel
theorem d_Mod_put_118 : decode b_Mod_put 118 = .ok (.iload_n 3, 1) := by decide +kernel
theorem d_Mod_put_119 : decode b_Mod_put 119 = .ok (.dup2, 1) := by decide +kernel
theorem d_Mod_put_120 : decode b_Mod_put 120 = .ok (.iaload, 1) := by decide +kernel
theorem d_Mod_put_121 : decode b_Mod_put 121 = .ok (.iconst 1, 1) := by decide +kernel
theorem d_Mod_put_122 : decode b_Mod_put 122 = .ok (.iadd, 1) := by decide +kernel
theorem d_Mod_put_123 : decode b_Mod_put 123 = .ok (.iastore, 1) := by decide +kernel
theorem d_Mod_put_124 : decode b_Mod_put 124 = .ok (.aload_n 0, 1) := by decide +kernel
theorem d_Mod_put_125 : decode b_Mod_put 125 = .ok (.getfield 43, 3) := by decide +kernel
theorem d_Mod_put_128 : decode b_Mod_put 128 = .ok (.iload_n 3, 1) := by decide +kernel
theorem d_Mod_put_129 : decode b_Mod_put 129 = .ok (.iaload, 1) := by decide +kernel
theorem d_Mod_put_130 : decode b_Mod_put 130 = .ok (.ireturn, 1) := by decide +kernel
theorem d_Mod_walk_0 : decode b_Mod_walk 0 = .ok (.aload_n 0, 1) := by decide +kernel
theorem d_Mod_walk_1 : decode b_Mod_walk 1 = .ok (.aload_n 0, 1) := by decide +kernel
theorem d_Mod_walk_2 : decode b_Mod_walk 2 = .ok (.getfield 46, 3) := by decide +kernel
theorem d_Mod_walk_5 : decode b_Mod_walk 5 = .ok (.iload_n 1, 1) := by decide +kernel
theorem d_Mod_walk_6 : decode b_Mod_walk 6 = .ok (.invokevirtual 105, 3) := by decide +kernel
theorem d_Mod_walk_9 : decode b_Mod_walk 9 = .ok (.istore_n 3, 1) := by decide +kernel
theorem d_Mod_walk_10 : decode b_Mod_walk 10 = .ok (.aload_n 0, 1) := by decide +kernel
theorem d_Mod_walk_11 : decode b_Mod_walk 11 = .ok (.iconst 2, 1) := by decide +kernel
theorem d_Mod_walk_12 : decode b_Mod_walk 12 = .ok (.putfield 108, 3) := by decide +kernel
theorem d_Mod_walk_15 : decode b_Mod_walk 15 = .ok (.iload_n 3, 1) := by decide +kernel
theorem d_Mod_walk_16 : decode b_Mod_walk 16 = .ok (.ifCond .lt 12, 3) := by decide +kernel
theorem d_Mod_walk_19 : decode b_Mod_walk 19 = .ok (.aload_n 0, 1) := by decide +kernel
theorem d_Mod_walk_20 : decode b_Mod_walk 20 = .ok (.getfield 31, 3) := by decide +kernel
theorem d_Mod_walk_23 : decode b_Mod_walk 23 = .ok (.iload_n 3, 1) := by decide +kernel
theorem d_Mod_walk_24 : decode b_Mod_walk 24 = .ok (.iaload, 1) := by decide +kernel
theorem d_Mod_walk_25 : decode b_Mod_walk 25 = .ok (.ifCond .ge 5, 3) := by decide +kernel
theorem d_Mod_walk_28 : decode b_Mod_walk 28 = .ok (.iconst (-1), 1) := by decide +kernel
theorem d_Mod_walk_29 : decode b_Mod_walk 29 = .ok (.ireturn, 1) := by decide +kernel
theorem d_Mod_walk_30 : decode b_Mod_walk 30 = .ok (.aload_n 0, 1) := by decide +kernel
theorem d_Mod_walk_31 : decode b_Mod_walk 31 = .ok (.iconst 3, 1) := by decide +kernel
theorem d_Mod_walk_32 : decode b_Mod_walk 32 = .ok (.putfield 108, 3) := by decide +kernel
theorem d_Mod_walk_35 : decode b_Mod_walk 35 = .ok (.aload_n 0, 1) := by decide +kernel
theorem d_Mod_walk_36 : decode b_Mod_walk 36 = .ok (.getfield 34, 3) := by decide +kernel
theorem d_Mod_walk_39 : decode b_Mod_walk 39 = .ok (.iload_n 3, 1) := by decide +kernel
theorem d_Mod_walk_40 : decode b_Mod_walk 40 = .ok (.iaload, 1) := by decide +kernel
theorem d_Mod_walk_41 : decode b_Mod_walk 41 = .ok (.aload_n 0, 1) := by decide +kernel
theorem d_Mod_walk_42 : decode b_Mod_walk 42 = .ok (.getfield 34, 3) := by decide +kernel
theorem d_Mod_walk_45 : decode b_Mod_walk 45 = .ok (.iconst 4, 1) := by decide +kernel
theorem d_Mod_walk_46 : decode b_Mod_walk 46 = .ok (.aload_n 0, 1) := by decide +kernel
theorem d_Mod_walk_47 : decode b_Mod_walk 47 = .ok (.getfield 16, 3) := by decide +kernel
theorem d_Mod_walk_50 : decode b_Mod_walk 50 = .ok (.aload_n 0, 1) := by decide +kernel
theorem d_Mod_walk_51 : decode b_Mod_walk 51 = .ok (.getfield 46, 3) := by decide +kernel
theorem d_Mod_walk_54 : decode b_Mod_walk 54 = .ok (.iaload, 1) := by decide +kernel
theorem d_Mod_walk_55 : decode b_Mod_walk 55 = .ok (.imul, 1) := by decide +kernel
theorem d_Mod_walk_56 : decode b_Mod_walk 56 = .ok (.iload_n 1, 1) := by decide +kernel
theorem d_Mod_walk_57 : decode b_Mod_walk 57 = .ok (.bipush 16, 2) := by decide +kernel
theorem d_Mod_walk_59 : decode b_Mod_walk 59 = .ok (.idiv, 1) := by decide +kernel
theorem d_Mod_walk_60 : decode b_Mod_walk 60 = .ok (.iadd, 1) := by decide +kernel
theorem d_Mod_walk_61 : decode b_Mod_walk 61 = .ok (.iaload, 1) := by decide +kernel
theorem d_Mod_walk_62 : decode b_Mod_walk 62 = .ok (.iand, 1) := by decide +kernel
theorem d_Mod_walk_63 : decode b_Mod_walk 63 = .ok (.iload_n 2, 1) := by decide +kernel
theorem d_Mod_walk_64 : decode b_Mod_walk 64 = .ok (.iand, 1) := by decide +kernel
theorem d_Mod_walk_65 : decode b_Mod_walk 65 = .ok (.ifCond .ne 5, 3) := by decide +kernel
theorem d_Mod_walk_68 : decode b_Mod_walk 68 = .ok (.iconst (-1), 1) := by decide +kernel
theorem d_Mod_walk_69 : decode b_Mod_walk 69 = .ok (.ireturn, 1) := by decide +kernel
theorem d_Mod_walk_70 : decode b_Mod_walk 70 = .ok (.aload_n 0, 1) := by decide +kernel
theorem d_Mod_walk_71 : decode b_Mod_walk 71 = .ok (.iconst 0, 1) := by decide +kernel
theorem d_Mod_walk_72 : decode b_Mod_walk 72 = .ok (.putfield 108, 3) := by decide +kernel
theorem d_Mod_walk_75 : decode b_Mod_walk 75 = .ok (.iconst 4, 1) := by decide +kernel
theorem d_Mod_walk_76 : decode b_Mod_walk 76 = .ok (.aload_n 0, 1) := by decide +kernel
theorem d_Mod_walk_77 : decode b_Mod_walk 77 = .ok (.getfield 31, 3) := by decide +kernel
theorem d_Mod_walk_80 : decode b_Mod_walk 80 = .ok (.iload_n 3, 1) := by decide +kernel
theorem d_Mod_walk_81 : decode b_Mod_walk 81 = .ok (.iaload, 1) := by decide +kernel
theorem d_Mod_walk_82 : decode b_Mod_walk 82 = .ok (.imul, 1) := by decide +kernel
theorem d_Mod_walk_83 : decode b_Mod_walk 83 = .ok (.iload_n 1, 1) := by decide +kernel
theorem d_Mod_walk_84 : decode b_Mod_walk 84 = .ok (.iconst 4, 1) := by decide +kernel
theorem d_Mod_walk_85 : decode b_Mod_walk 85 = .ok (.irem, 1) := by decide +kernel
theorem d_Mod_walk_86 : decode b_Mod_walk 86 = .ok (.iadd, 1) := by decide +kernel
theorem d_Mod_walk_87 : decode b_Mod_walk 87 = .ok (.ireturn, 1) := by decide +kernel
theorem d_Mod_frameEntry_0 : decode b_Mod_frameEntry 0 = .ok (.aload_n 0, 1) := by decide +kernel
theorem d_Mod_frameEntry_1 : decode b_Mod_frameEntry 1 = .ok (.getfield 31, 3) := by decide +kernel
theorem d_Mod_frameEntry_4 : decode b_Mod_frameEntry 4 = .ok (.iconst 4, 1) := by decide +kernel
theorem d_Mod_frameEntry_5 : decode b_Mod_frameEntry 5 = .ok (.aload_n 0, 1) := by decide +kernel
theorem d_Mod_frameEntry_6 : decode b_Mod_frameEntry 6 = .ok (.getfield 16, 3) := by decide +kernel
theorem d_Mod_frameEntry_9 : decode b_Mod_frameEntry 9 = .ok (.iload_n 1, 1) := by decide +kernel
theorem d_Mod_frameEntry_10 : decode b_Mod_frameEntry 10 = .ok (.iaload, 1) := by decide +kernel
theorem d_Mod_frameEntry_11 : decode b_Mod_frameEntry 11 = .ok (.imul, 1) := by decide +kernel
theorem d_Mod_frameEntry_12 : decode b_Mod_frameEntry 12 = .ok (.iload_n 2, 1) := by decide +kernel
theorem d_Mod_frameEntry_13 : decode b_Mod_frameEntry 13 = .ok (.bipush 16, 2) := by decide +kernel
theorem d_Mod_frameEntry_15 : decode b_Mod_frameEntry 15 = .ok (.idiv, 1) := by decide +kernel
theorem d_Mod_frameEntry_16 : decode b_Mod_frameEntry 16 = .ok (.iadd, 1) := by decide +kernel
theorem d_Mod_frameEntry_17 : decode b_Mod_frameEntry 17 = .ok (.iaload, 1) := by decide +kernel
theorem d_Mod_frameEntry_18 : decode b_Mod_frameEntry 18 = .ok (.istore_n 3, 1) := by decide +kernel
theorem d_Mod_frameEntry_19 : decode b_Mod_frameEntry 19 = .ok (.iload_n 3, 1) := by decide +kernel
theorem d_Mod_frameEntry_20 : decode b_Mod_frameEntry 20 = .ok (.ifCond .ge 7, 3) := by decide +kernel
theorem d_Mod_frameEntry_23 : decode b_Mod_frameEntry 23 = .ok (.iconst (-1), 1) := by decide +kernel
theorem d_Mod_frameEntry_24 : decode b_Mod_frameEntry 24 = .ok (.goto 12, 3) := by decide +kernel
theorem d_Mod_frameEntry_27 : decode b_Mod_frameEntry 27 = .ok (.iconst 4, 1) := by decide +kernel
theorem d_Mod_frameEntry_28 : decode b_Mod_frameEntry 28 = .ok (.iload_n 3, 1) := by decide +kernel
theorem d_Mod_frameEntry_29 : decode b_Mod_frameEntry 29 = .ok (.imul, 1) := by decide +kernel
theorem d_Mod_frameEntry_30 : decode b_Mod_frameEntry 30 = .ok (.iload_n 2, 1) := by decide +kernel
theorem d_Mod_frameEntry_31 : decode b_Mod_frameEntry 31 = .ok (.iconst 4, 1) := by decide +kernel
theorem d_Mod_frameEntry_32 : decode b_Mod_frameEntry 32 = .ok (.idiv, 1) := by decide +kernel
theorem d_Mod_frameEntry_33 : decode b_Mod_frameEntry 33 = .ok (.iconst 4, 1) := by decide +kernel
theorem d_Mod_frameEntry_34 : decode b_Mod_frameEntry 34 = .ok (.irem, 1) := by decide +kernel
theorem d_Mod_frameEntry_35 : decode b_Mod_frameEntry 35 = .ok (.iadd, 1) := by decide +kernel
theorem d_Mod_frameEntry_36 : decode b_Mod_frameEntry 36 = .ok (.ireturn, 1) := by decide +kernel
theorem d_Mod_take_0 : decode b_Mod_take 0 = .ok (.aload_n 0, 1) := by decide +kernel
theorem d_Mod_take_1 : decode b_Mod_take 1 = .ok (.iconst 0, 1) := by decide +kernel
theorem d_Mod_take_2 : decode b_Mod_take 2 = .ok (.putfield 50, 3) := by decide +kernel
theorem d_Mod_take_5 : decode b_Mod_take 5 = .ok (.iload_n 1, 1) := by decide +kernel
theorem d_Mod_take_6 : decode b_Mod_take 6 = .ok (.iconst 0, 1) := by decide +kernel
theorem d_Mod_take_7 : decode b_Mod_take 7 = .ok (.iconst 3, 1) := by decide +kernel
theorem d_Mod_take_8 : decode b_Mod_take 8 = .ok (.invokestatic 53, 3) := by decide +kernel
theorem d_Mod_take_11 : decode b_Mod_take 11 = .ok (.ifCond .eq 13, 3) := by decide +kernel
theorem d_Mod_take_14 : decode b_Mod_take 14 = .ok (.iload_n 2, 1) := by decide +kernel
theorem d_Mod_take_15 : decode b_Mod_take 15 = .ok (.iconst 0, 1) := by decide +kernel
theorem d_Mod_take_16 : decode b_Mod_take 16 = .ok (.bipush 63, 2) := by decide +kernel
theorem d_Mod_take_18 : decode b_Mod_take 18 = .ok (.invokestatic 53, 3) := by decide +kernel
theorem d_Mod_take_21 : decode b_Mod_take 21 = .ok (.ifCond .ne 9, 3) := by decide +kernel
theorem d_Mod_take_24 : decode b_Mod_take 24 = .ok (.aload_n 0, 1) := by decide +kernel
theorem d_Mod_take_25 : decode b_Mod_take 25 = .ok (.iconst 1, 1) := by decide +kernel
theorem d_Mod_take_26 : decode b_Mod_take 26 = .ok (.invokevirtual 67, 3) := by decide +kernel
theorem d_Mod_take_29 : decode b_Mod_take 29 = .ok (.ireturn, 1) := by decide +kernel
theorem d_Mod_take_30 : decode b_Mod_take 30 = .ok (.aload_n 0, 1) := by decide +kernel
theorem d_Mod_take_31 : decode b_Mod_take 31 = .ok (.getfield 19, 3) := by decide +kernel
theorem d_Mod_take_34 : decode b_Mod_take 34 = .ok (.iconst 4, 1) := by decide +kernel
theorem d_Mod_take_35 : decode b_Mod_take 35 = .ok (.aload_n 0, 1) := by decide +kernel
theorem d_Mod_take_36 : decode b_Mod_take 36 = .ok (.getfield 46, 3) := by decide +kernel
theorem d_Mod_take_39 : decode b_Mod_take 39 = .ok (.imul, 1) := by decide +kernel
theorem d_Mod_take_40 : decode b_Mod_take 40 = .ok (.iload_n 1, 1) := by decide +kernel
theorem d_Mod_take_41 : decode b_Mod_take 41 = .ok (.iadd, 1) := by decide +kernel
theorem d_Mod_take_42 : decode b_Mod_take 42 = .ok (.iaload, 1) := by decide +kernel
theorem d_Mod_take_43 : decode b_Mod_take 43 = .ok (.istore_n 3, 1) := by decide +kernel
theorem d_Mod_take_44 : decode b_Mod_take 44 = .ok (.iload_n 3, 1) := by decide +kernel
theorem d_Mod_take_45 : decode b_Mod_take 45 = .ok (.ifCond .ge 9, 3) := by decide +kernel
theorem d_Mod_take_48 : decode b_Mod_take 48 = .ok (.aload_n 0, 1) := by decide +kernel
theorem d_Mod_take_49 : decode b_Mod_take 49 = .ok (.iconst 2, 1) := by decide +kernel
theorem d_Mod_take_50 : decode b_Mod_take 50 = .ok (.invokevirtual 67, 3) := by decide +kernel
theorem d_Mod_take_53 : decode b_Mod_take 53 = .ok (.ireturn, 1) := by decide +kernel
theorem d_Mod_take_54 : decode b_Mod_take 54 = .ok (.aload_n 0, 1) := by decide +kernel
theorem d_Mod_take_55 : decode b_Mod_take 55 = .ok (.iload_n 2, 1) := by decide +kernel
theorem d_Mod_take_56 : decode b_Mod_take 56 = .ok (.iconst 2, 1) := by decide +kernel
theorem d_Mod_take_57 : decode b_Mod_take 57 = .ok (.invokevirtual 111, 3) := by decide +kernel
theorem d_Mod_take_60 : decode b_Mod_take 60 = .ok (.istore 4, 2) := by decide +kernel
theorem d_Mod_take_62 : decode b_Mod_take 62 = .ok (.iload 4, 2) := by decide +kernel
theorem d_Mod_take_64 : decode b_Mod_take 64 = .ok (.ifCond .ge 12, 3) := by decide +kernel
theorem d_Mod_take_67 : decode b_Mod_take 67 = .ok (.aload_n 0, 1) := by decide +kernel
theorem d_Mod_take_68 : decode b_Mod_take 68 = .ok (.aload_n 0, 1) := by decide +kernel
theorem d_Mod_take_69 : decode b_Mod_take 69 = .ok (.getfield 108, 3) := by decide +kernel
theorem d_Mod_take_72 : decode b_Mod_take 72 = .ok (.invokevirtual 67, 3) := by decide +kernel
theorem d_Mod_take_75 : decode b_Mod_take 75 = .ok (.ireturn, 1) := by decide +kernel
theorem d_Mod_take_76 : decode b_Mod_take 76 = .ok (.aload_n 0, 1) := by decide +kernel
theorem d_Mod_take_77 : decode b_Mod_take 77 = .ok (.getfield 43, 3) := by decide +kernel
theorem d_Mod_take_80 : decode b_Mod_take 80 = .ok (.iload_n 3, 1) := by decide +kernel
theorem d_Mod_take_81 : decode b_Mod_take 81 = .ok (.iaload, 1) := by decide +kernel
theorem d_Mod_take_82 : decode b_Mod_take 82 = .ok (.ifCond .ne 9, 3) := by decide +kernel
theorem d_Mod_take_85 : decode b_Mod_take 85 = .ok (.aload_n 0, 1) := by decide +kernel
theorem d_Mod_take_86 : decode b_Mod_take 86 = .ok (.iconst 4, 1) := by decide +kernel
theorem d_Mod_take_87 : decode b_Mod_take 87 = .ok (.invokevirtual 67, 3) := by decide +kernel
theorem d_Mod_take_90 : decode b_Mod_take 90 = .ok (.ireturn, 1) := by decide +kernel
theorem d_Mod_take_91 : decode b_Mod_take 91 = .ok (.aload_n 0, 1) := by decide +kernel
theorem d_Mod_take_92 : decode b_Mod_take 92 = .ok (.getfield 37, 3) := by decide +kernel
theorem d_Mod_take_95 : decode b_Mod_take 95 = .ok (.iload 4, 2) := by decide +kernel
theorem d_Mod_take_97 : decode b_Mod_take 97 = .ok (.aload_n 0, 1) := by decide +kernel
theorem d_Mod_take_98 : decode b_Mod_take 98 = .ok (.getfield 40, 3) := by decide +kernel
theorem d_Mod_take_101 : decode b_Mod_take 101 = .ok (.iconst 4, 1) := by decide +kernel
theorem d_Mod_take_102 : decode b_Mod_take 102 = .ok (.iload_n 3, 1) := by decide +kernel
theorem d_Mod_take_103 : decode b_Mod_take 103 = .ok (.imul, 1) := by decide +kernel
theorem d_Mod_take_104 : decode b_Mod_take 104 = .ok (.iaload, 1) := by decide +kernel
theorem d_Mod_take_105 : decode b_Mod_take 105 = .ok (.iastore, 1) := by decide +kernel
theorem d_Mod_take_106 : decode b_Mod_take 106 = .ok (.aload_n 0, 1) := by decide +kernel
theorem d_Mod_take_107 : decode b_Mod_take 107 = .ok (.getfield 43, 3) := by decide +kernel
theorem d_Mod_take_110 : decode b_Mod_take 110 = .ok (.iload_n 3, 1) := by decide +kernel
theorem d_Mod_take_111 : decode b_Mod_take 111 = .ok (.dup2, 1) := by decide +kernel
theorem d_Mod_take_112 : decode b_Mod_take 112 = .ok (.iaload, 1) := by decide +kernel
theorem d_Mod_take_113 : decode b_Mod_take 113 = .ok (.iconst 1, 1) := by decide +kernel
theorem d_Mod_take_114 : decode b_Mod_take 114 = .ok (.isub, 1) := by decide +kernel
theorem d_Mod_take_115 : decode b_Mod_take 115 = .ok (.iastore, 1) := by decide +kernel
theorem d_Mod_take_116 : decode b_Mod_take 116 = .ok (.iconst 4, 1) := by decide +kernel
theorem d_Mod_take_117 : decode b_Mod_take 117 = .ok (.iload_n 3, 1) := by decide +kernel
theorem d_Mod_take_118 : decode b_Mod_take 118 = .ok (.imul, 1) := by decide +kernel
theorem d_Mod_take_119 : decode b_Mod_take 119 = .ok (.istore 5, 2) := by decide +kernel
theorem d_Mod_take_121 : decode b_Mod_take 121 = .ok (.iload 5, 2) := by decide +kernel
theorem d_Mod_take_123 : decode b_Mod_take 123 = .ok (.iconst 4, 1) := by decide +kernel
theorem d_Mod_take_124 : decode b_Mod_take 124 = .ok (.iload_n 3, 1) := by decide +kernel
theorem d_Mod_take_125 : decode b_Mod_take 125 = .ok (.imul, 1) := by decide +kernel
theorem d_Mod_take_126 : decode b_Mod_take 126 = .ok (.aload_n 0, 1) := by decide +kernel
theorem d_Mod_take_127 : decode b_Mod_take 127 = .ok (.getfield 43, 3) := by decide +kernel
theorem d_Mod_take_130 : decode b_Mod_take 130 = .ok (.iload_n 3, 1) := by decide +kernel
theorem d_Mod_take_131 : decode b_Mod_take 131 = .ok (.iaload, 1) := by decide +kernel
theorem d_Mod_take_132 : decode b_Mod_take 132 = .ok (.iadd, 1) := by decide +kernel
theorem d_Mod_take_133 : decode b_Mod_take 133 = .ok (.if_icmp .ge 25, 3) := by decide +kernel
theorem d_Mod_take_136 : decode b_Mod_take 136 = .ok (.aload_n 0, 1) := by decide +kernel
theorem d_Mod_take_137 : decode b_Mod_take 137 = .ok (.getfield 40, 3) := by decide +kernel
theorem d_Mod_take_140 : decode b_Mod_take 140 = .ok (.iload 5, 2) := by decide +kernel
theorem d_Mod_take_142 : decode b_Mod_take 142 = .ok (.aload_n 0, 1) := by decide +kernel
theorem d_Mod_take_143 : decode b_Mod_take 143 = .ok (.getfield 40, 3) := by decide +kernel
theorem d_Mod_take_146 : decode b_Mod_take 146 = .ok (.iload 5, 2) := by decide +kernel
theorem d_Mod_take_148 : decode b_Mod_take 148 = .ok (.iconst 1, 1) := by decide +kernel
theorem d_Mod_take_149 : decode b_Mod_take 149 = .ok (.iadd, 1) := by decide +kernel
theorem d_Mod_take_150 : decode b_Mod_take 150 = .ok (.iaload, 1) := by decide +kernel
theorem d_Mod_take_151 : decode b_Mod_take 151 = .ok (.iastore, 1) := by decide +kernel
theorem d_Mod_take_152 : decode b_Mod_take 152 = .ok (.iinc 5 1, 3) := by decide +kernel
theorem d_Mod_take_155 : decode b_Mod_take 155 = .ok (.goto (-34), 3) := by decide +kernel
theorem d_Mod_take_158 : decode b_Mod_take 158 = .ok (.aload_n 0, 1) := by decide +kernel
theorem d_Mod_take_159 : decode b_Mod_take 159 = .ok (.getfield 37, 3) := by decide +kernel
theorem d_Mod_take_162 : decode b_Mod_take 162 = .ok (.iload 4, 2) := by decide +kernel
theorem d_Mod_take_164 : decode b_Mod_take 164 = .ok (.iaload, 1) := by decide +kernel
theorem d_Mod_take_165 : decode b_Mod_take 165 = .ok (.ireturn, 1) := by decide +kernel
theorem d_Mod_read_0 : decode b_Mod_read 0 = .ok (.aload_n 0, 1) := by decide +kernel
theorem d_Mod_read_1 : decode b_Mod_read 1 = .ok (.iconst 0, 1) := by decide +kernel
theorem d_Mod_read_2 : decode b_Mod_read 2 = .ok (.putfield 50, 3) := by decide +kernel
theorem d_Mod_read_5 : decode b_Mod_read 5 = .ok (.iload_n 1, 1) := by decide +kernel
theorem d_Mod_read_6 : decode b_Mod_read 6 = .ok (.iconst 0, 1) := by decide +kernel
theorem d_Mod_read_7 : decode b_Mod_read 7 = .ok (.bipush 63, 2) := by decide +kernel
theorem d_Mod_read_9 : decode b_Mod_read 9 = .ok (.invokestatic 53, 3) := by decide +kernel
theorem d_Mod_read_12 : decode b_Mod_read 12 = .ok (.ifCond .ne 9, 3) := by decide +kernel
theorem d_Mod_read_15 : decode b_Mod_read 15 = .ok (.aload_n 0, 1) := by decide +kernel
theorem d_Mod_read_16 : decode b_Mod_read 16 = .ok (.iconst 1, 1) := by decide +kernel
theorem d_Mod_read_17 : decode b_Mod_read 17 = .ok (.invokevirtual 67, 3) := by decide +kernel
theorem d_Mod_read_20 : decode b_Mod_read 20 = .ok (.ireturn, 1) := by decide +kernel
theorem d_Mod_read_21 : decode b_Mod_read 21 = .ok (.aload_n 0, 1) := by decide +kernel
theorem d_Mod_read_22 : decode b_Mod_read 22 = .ok (.iload_n 1, 1) := by decide +kernel
theorem d_Mod_read_23 : decode b_Mod_read 23 = .ok (.iconst 1, 1) := by decide +kernel
theorem d_Mod_read_24 : decode b_Mod_read 24 = .ok (.invokevirtual 111, 3) := by decide +kernel
theorem d_Mod_read_27 : decode b_Mod_read 27 = .ok (.istore_n 2, 1) := by decide +kernel
theorem d_Mod_read_28 : decode b_Mod_read 28 = .ok (.iload_n 2, 1) := by decide +kernel
theorem d_Mod_read_29 : decode b_Mod_read 29 = .ok (.ifCond .ge 14, 3) := by decide +kernel
theorem d_Mod_read_32 : decode b_Mod_read 32 = .ok (.aload_n 0, 1) := by decide +kernel
theorem d_Mod_read_33 : decode b_Mod_read 33 = .ok (.aload_n 0, 1) := by decide +kernel
theorem d_Mod_read_34 : decode b_Mod_read 34 = .ok (.getfield 108, 3) := by decide +kernel
theorem d_Mod_read_37 : decode b_Mod_read 37 = .ok (.invokevirtual 67, 3) := by decide +kernel
theorem d_Mod_read_40 : decode b_Mod_read 40 = .ok (.goto 9, 3) := by decide +kernel
theorem d_Mod_read_43 : decode b_Mod_read 43 = .ok (.aload_n 0, 1) := by decide +kernel
theorem d_Mod_read_44 : decode b_Mod_read 44 = .ok (.getfield 37, 3) := by decide +kernel
theorem d_Mod_read_47 : decode b_Mod_read 47 = .ok (.iload_n 2, 1) := by decide +kernel
theorem d_Mod_read_48 : decode b_Mod_read 48 = .ok (.iaload, 1) := by decide +kernel
theorem d_Mod_read_49 : decode b_Mod_read 49 = .ok (.ireturn, 1) := by decide +kernel
theorem d_Mod_write_0 : decode b_Mod_write 0 = .ok (.aload_n 0, 1) := by decide +kernel
theorem d_Mod_write_1 : decode b_Mod_write 1 = .ok (.iconst 0, 1) := by decide +kernel
theorem d_Mod_write_2 : decode b_Mod_write 2 = .ok (.putfield 50, 3) := by decide +kernel
theorem d_Mod_write_5 : decode b_Mod_write 5 = .ok (.iload_n 1, 1) := by decide +kernel
theorem d_Mod_write_6 : decode b_Mod_write 6 = .ok (.iconst 0, 1) := by decide +kernel
theorem d_Mod_write_7 : decode b_Mod_write 7 = .ok (.bipush 63, 2) := by decide +kernel
theorem d_Mod_write_9 : decode b_Mod_write 9 = .ok (.invokestatic 53, 3) := by decide +kernel
theorem d_Mod_write_12 : decode b_Mod_write 12 = .ok (.ifCond .ne 9, 3) := by decide +kernel
theorem d_Mod_write_15 : decode b_Mod_write 15 = .ok (.aload_n 0, 1) := by decide +kernel
theorem d_Mod_write_16 : decode b_Mod_write 16 = .ok (.iconst 1, 1) := by decide +kernel
theorem d_Mod_write_17 : decode b_Mod_write 17 = .ok (.invokevirtual 67, 3) := by decide +kernel
theorem d_Mod_write_20 : decode b_Mod_write 20 = .ok (.ireturn, 1) := by decide +kernel
theorem d_Mod_write_21 : decode b_Mod_write 21 = .ok (.aload_n 0, 1) := by decide +kernel
theorem d_Mod_write_22 : decode b_Mod_write 22 = .ok (.iload_n 1, 1) := by decide +kernel
theorem d_Mod_write_23 : decode b_Mod_write 23 = .ok (.iconst 2, 1) := by decide +kernel
theorem d_Mod_write_24 : decode b_Mod_write 24 = .ok (.invokevirtual 111, 3) := by decide +kernel
theorem d_Mod_write_27 : decode b_Mod_write 27 = .ok (.istore_n 3, 1) := by decide +kernel
theorem d_Mod_write_28 : decode b_Mod_write 28 = .ok (.iload_n 3, 1) := by decide +kernel
theorem d_Mod_write_29 : decode b_Mod_write 29 = .ok (.ifCond .ge 12, 3) := by decide +kernel
theorem d_Mod_write_32 : decode b_Mod_write 32 = .ok (.aload_n 0, 1) := by decide +kernel
theorem d_Mod_write_33 : decode b_Mod_write 33 = .ok (.aload_n 0, 1) := by decide +kernel
theorem d_Mod_write_34 : decode b_Mod_write 34 = .ok (.getfield 108, 3) := by decide +kernel
theorem d_Mod_write_37 : decode b_Mod_write 37 = .ok (.invokevirtual 67, 3) := by decide +kernel
theorem d_Mod_write_40 : decode b_Mod_write 40 = .ok (.ireturn, 1) := by decide +kernel
theorem d_Mod_write_41 : decode b_Mod_write 41 = .ok (.aload_n 0, 1) := by decide +kernel
theorem d_Mod_write_42 : decode b_Mod_write 42 = .ok (.getfield 37, 3) := by decide +kernel
theorem d_Mod_write_45 : decode b_Mod_write 45 = .ok (.iload_n 3, 1) := by decide +kernel
theorem d_Mod_write_46 : decode b_Mod_write 46 = .ok (.iaload, 1) := by decide +kernel
theorem d_Mod_write_47 : decode b_Mod_write 47 = .ok (.istore 4, 2) := by decide +kernel
theorem d_Mod_write_49 : decode b_Mod_write 49 = .ok (.aload_n 0, 1) := by decide +kernel
theorem d_Mod_write_50 : decode b_Mod_write 50 = .ok (.getfield 37, 3) := by decide +kernel
theorem d_Mod_write_53 : decode b_Mod_write 53 = .ok (.iload_n 3, 1) := by decide +kernel
theorem d_Mod_write_54 : decode b_Mod_write 54 = .ok (.iload_n 2, 1) := by decide +kernel
theorem d_Mod_write_55 : decode b_Mod_write 55 = .ok (.iastore, 1) := by decide +kernel
theorem d_Mod_write_56 : decode b_Mod_write 56 = .ok (.iload 4, 2) := by decide +kernel
theorem d_Mod_write_58 : decode b_Mod_write 58 = .ok (.ireturn, 1) := by decide +kernel
theorem d_Mod_expect_0 : decode b_Mod_expect 0 = .ok (.aload_n 0, 1) := by decide +kernel
theorem d_Mod_expect_1 : decode b_Mod_expect 1 = .ok (.iconst 0, 1) := by decide +kernel
theorem d_Mod_expect_2 : decode b_Mod_expect 2 = .ok (.putfield 50, 3) := by decide +kernel
theorem d_Mod_expect_5 : decode b_Mod_expect 5 = .ok (.iload_n 1, 1) := by decide +kernel
theorem d_Mod_expect_6 : decode b_Mod_expect 6 = .ok (.invokestatic 61, 3) := by decide +kernel
theorem d_Mod_expect_9 : decode b_Mod_expect 9 = .ok (.ifCond .eq 13, 3) := by decide +kernel
theorem d_Mod_expect_12 : decode b_Mod_expect 12 = .ok (.iload_n 2, 1) := by decide +kernel
theorem d_Mod_expect_13 : decode b_Mod_expect 13 = .ok (.iconst 0, 1) := by decide +kernel
theorem d_Mod_expect_14 : decode b_Mod_expect 14 = .ok (.bipush 63, 2) := by decide +kernel
theorem d_Mod_expect_16 : decode b_Mod_expect 16 = .ok (.invokestatic 53, 3) := by decide +kernel
theorem d_Mod_expect_19 : decode b_Mod_expect 19 = .ok (.ifCond .ne 9, 3) := by decide +kernel
theorem d_Mod_expect_22 : decode b_Mod_expect 22 = .ok (.aload_n 0, 1) := by decide +kernel
theorem d_Mod_expect_23 : decode b_Mod_expect 23 = .ok (.iconst 1, 1) := by decide +kernel
theorem d_Mod_expect_24 : decode b_Mod_expect 24 = .ok (.invokevirtual 67, 3) := by decide +kernel
theorem d_Mod_expect_27 : decode b_Mod_expect 27 = .ok (.ireturn, 1) := by decide +kernel
theorem d_Mod_expect_28 : decode b_Mod_expect 28 = .ok (.aload_n 0, 1) := by decide +kernel
theorem d_Mod_expect_29 : decode b_Mod_expect 29 = .ok (.getfield 7, 3) := by decide +kernel
theorem d_Mod_expect_32 : decode b_Mod_expect 32 = .ok (.iload_n 1, 1) := by decide +kernel
theorem d_Mod_expect_33 : decode b_Mod_expect 33 = .ok (.iaload, 1) := by decide +kernel
theorem d_Mod_expect_34 : decode b_Mod_expect 34 = .ok (.iconst 2, 1) := by decide +kernel
theorem d_Mod_expect_35 : decode b_Mod_expect 35 = .ok (.if_icmp .eq 9, 3) := by decide +kernel
theorem d_Mod_expect_38 : decode b_Mod_expect 38 = .ok (.aload_n 0, 1) := by decide +kernel
theorem d_Mod_expect_39 : decode b_Mod_expect 39 = .ok (.iconst 2, 1) := by decide +kernel
theorem d_Mod_expect_40 : decode b_Mod_expect 40 = .ok (.invokevirtual 67, 3) := by decide +kernel
theorem d_Mod_expect_43 : decode b_Mod_expect 43 = .ok (.ireturn, 1) := by decide +kernel
theorem d_Mod_expect_44 : decode b_Mod_expect 44 = .ok (.aload_n 0, 1) := by decide +kernel
theorem d_Mod_expect_45 : decode b_Mod_expect 45 = .ok (.aload_n 0, 1) := by decide +kernel
theorem d_Mod_expect_46 : decode b_Mod_expect 46 = .ok (.getfield 46, 3) := by decide +kernel
theorem d_Mod_expect_49 : decode b_Mod_expect 49 = .ok (.iload_n 2, 1) := by decide +kernel
theorem d_Mod_expect_50 : decode b_Mod_expect 50 = .ok (.invokevirtual 105, 3) := by decide +kernel
theorem d_Mod_expect_53 : decode b_Mod_expect 53 = .ok (.istore_n 3, 1) := by decide +kernel
theorem d_Mod_expect_54 : decode b_Mod_expect 54 = .ok (.iload_n 3, 1) := by decide +kernel
theorem d_Mod_expect_55 : decode b_Mod_expect 55 = .ok (.ifCond .ge 9, 3) := by decide +kernel
theorem d_Mod_expect_58 : decode b_Mod_expect 58 = .ok (.aload_n 0, 1) := by decide +kernel
theorem d_Mod_expect_59 : decode b_Mod_expect 59 = .ok (.iconst 3, 1) := by decide +kernel
theorem d_Mod_expect_60 : decode b_Mod_expect 60 = .ok (.invokevirtual 67, 3) := by decide +kernel
theorem d_Mod_expect_63 : decode b_Mod_expect 63 = .ok (.ireturn, 1) := by decide +kernel
theorem d_Mod_expect_64 : decode b_Mod_expect 64 = .ok (.aload_n 0, 1) := by decide +kernel
theorem d_Mod_expect_65 : decode b_Mod_expect 65 = .ok (.getfield 31, 3) := by decide +kernel
theorem d_Mod_expect_68 : decode b_Mod_expect 68 = .ok (.iload_n 3, 1) := by decide +kernel
theorem d_Mod_expect_69 : decode b_Mod_expect 69 = .ok (.iaload, 1) := by decide +kernel
theorem d_Mod_expect_70 : decode b_Mod_expect 70 = .ok (.ifCond .lt 9, 3) := by decide +kernel
theorem d_Mod_expect_73 : decode b_Mod_expect 73 = .ok (.aload_n 0, 1) := by decide +kernel
theorem d_Mod_expect_74 : decode b_Mod_expect 74 = .ok (.iconst 4, 1) := by decide +kernel
theorem d_Mod_expect_75 : decode b_Mod_expect 75 = .ok (.invokevirtual 67, 3) := by decide +kernel
theorem d_Mod_expect_78 : decode b_Mod_expect 78 = .ok (.ireturn, 1) := by decide +kernel
theorem d_Mod_expect_79 : decode b_Mod_expect 79 = .ok (.aload_n 0, 1) := by decide +kernel
theorem d_Mod_expect_80 : decode b_Mod_expect 80 = .ok (.getfield 22, 3) := by decide +kernel
theorem d_Mod_expect_83 : decode b_Mod_expect 83 = .ok (.aload_n 0, 1) := by decide +kernel
theorem d_Mod_expect_84 : decode b_Mod_expect 84 = .ok (.getfield 46, 3) := by decide +kernel
theorem d_Mod_expect_87 : decode b_Mod_expect 87 = .ok (.iload_n 2, 1) := by decide +kernel
theorem d_Mod_expect_88 : decode b_Mod_expect 88 = .ok (.iastore, 1) := by decide +kernel
theorem d_Mod_expect_89 : decode b_Mod_expect 89 = .ok (.aload_n 0, 1) := by decide +kernel
theorem d_Mod_expect_90 : decode b_Mod_expect 90 = .ok (.iload_n 1, 1) := by decide +kernel
theorem d_Mod_expect_91 : decode b_Mod_expect 91 = .ok (.iconst 4, 1) := by decide +kernel
theorem d_Mod_expect_92 : decode b_Mod_expect 92 = .ok (.invokevirtual 89, 3) := by decide +kernel
theorem d_Mod_expect_95 : decode b_Mod_expect 95 = .ok (.pop, 1) := by decide +kernel
theorem d_Mod_expect_96 : decode b_Mod_expect 96 = .ok (.iload_n 1, 1) := by decide +kernel
theorem d_Mod_expect_97 : decode b_Mod_expect 97 = .ok (.ireturn, 1) := by decide +kernel
theorem d_Mod_send_0 : decode b_Mod_send 0 = .ok (.aload_n 0, 1) := by decide +kernel
theorem d_Mod_send_1 : decode b_Mod_send 1 = .ok (.iconst 0, 1) := by decide +kernel
theorem d_Mod_send_2 : decode b_Mod_send 2 = .ok (.putfield 50, 3) := by decide +kernel
theorem d_Mod_send_5 : decode b_Mod_send 5 = .ok (.iload_n 1, 1) := by decide +kernel
theorem d_Mod_send_6 : decode b_Mod_send 6 = .ok (.invokestatic 61, 3) := by decide +kernel
theorem d_Mod_send_9 : decode b_Mod_send 9 = .ok (.ifCond .eq 13, 3) := by decide +kernel
theorem d_Mod_send_12 : decode b_Mod_send 12 = .ok (.iload_n 2, 1) := by decide +kernel
theorem d_Mod_send_13 : decode b_Mod_send 13 = .ok (.iconst 0, 1) := by decide +kernel
theorem d_Mod_send_14 : decode b_Mod_send 14 = .ok (.bipush 63, 2) := by decide +kernel
theorem d_Mod_send_16 : decode b_Mod_send 16 = .ok (.invokestatic 53, 3) := by decide +kernel
theorem d_Mod_send_19 : decode b_Mod_send 19 = .ok (.ifCond .ne 9, 3) := by decide +kernel
theorem d_Mod_send_22 : decode b_Mod_send 22 = .ok (.aload_n 0, 1) := by decide +kernel
theorem d_Mod_send_23 : decode b_Mod_send 23 = .ok (.iconst 1, 1) := by decide +kernel
theorem d_Mod_send_24 : decode b_Mod_send 24 = .ok (.invokevirtual 67, 3) := by decide +kernel
theorem d_Mod_send_27 : decode b_Mod_send 27 = .ok (.ireturn, 1) := by decide +kernel
theorem d_Mod_send_28 : decode b_Mod_send 28 = .ok (.aload_n 0, 1) := by decide +kernel
theorem d_Mod_send_29 : decode b_Mod_send 29 = .ok (.getfield 7, 3) := by decide +kernel
theorem d_Mod_send_32 : decode b_Mod_send 32 = .ok (.iload_n 1, 1) := by decide +kernel
theorem d_Mod_send_33 : decode b_Mod_send 33 = .ok (.iaload, 1) := by decide +kernel
theorem d_Mod_send_34 : decode b_Mod_send 34 = .ok (.iconst 4, 1) := by decide +kernel
theorem d_Mod_send_35 : decode b_Mod_send 35 = .ok (.if_icmp .eq 9, 3) := by decide +kernel
theorem d_Mod_send_38 : decode b_Mod_send 38 = .ok (.aload_n 0, 1) := by decide +kernel
theorem d_Mod_send_39 : decode b_Mod_send 39 = .ok (.iconst 2, 1) := by decide +kernel
theorem d_Mod_send_40 : decode b_Mod_send 40 = .ok (.invokevirtual 67, 3) := by decide +kernel
theorem d_Mod_send_43 : decode b_Mod_send 43 = .ok (.ireturn, 1) := by decide +kernel
theorem d_Mod_send_44 : decode b_Mod_send 44 = .ok (.aload_n 0, 1) := by decide +kernel
theorem d_Mod_send_45 : decode b_Mod_send 45 = .ok (.aload_n 0, 1) := by decide +kernel
theorem d_Mod_send_46 : decode b_Mod_send 46 = .ok (.getfield 46, 3) := by decide +kernel
theorem d_Mod_send_49 : decode b_Mod_send 49 = .ok (.iload_n 2, 1) := by decide +kernel
theorem d_Mod_send_50 : decode b_Mod_send 50 = .ok (.invokevirtual 105, 3) := by decide +kernel
theorem d_Mod_send_53 : decode b_Mod_send 53 = .ok (.istore_n 3, 1) := by decide +kernel
theorem d_Mod_send_54 : decode b_Mod_send 54 = .ok (.iload_n 3, 1) := by decide +kernel
theorem d_Mod_send_55 : decode b_Mod_send 55 = .ok (.ifCond .lt 12, 3) := by decide +kernel
theorem d_Mod_send_58 : decode b_Mod_send 58 = .ok (.aload_n 0, 1) := by decide +kernel
theorem d_Mod_send_59 : decode b_Mod_send 59 = .ok (.getfield 31, 3) := by decide +kernel
theorem d_Mod_send_62 : decode b_Mod_send 62 = .ok (.iload_n 3, 1) := by decide +kernel
theorem d_Mod_send_63 : decode b_Mod_send 63 = .ok (.iaload, 1) := by decide +kernel
theorem d_Mod_send_64 : decode b_Mod_send 64 = .ok (.ifCond .ge 9, 3) := by decide +kernel
theorem d_Mod_send_67 : decode b_Mod_send 67 = .ok (.aload_n 0, 1) := by decide +kernel
theorem d_Mod_send_68 : decode b_Mod_send 68 = .ok (.iconst 3, 1) := by decide +kernel
theorem d_Mod_send_69 : decode b_Mod_send 69 = .ok (.invokevirtual 67, 3) := by decide +kernel
theorem d_Mod_send_72 : decode b_Mod_send 72 = .ok (.ireturn, 1) := by decide +kernel
theorem d_Mod_send_73 : decode b_Mod_send 73 = .ok (.aload_n 0, 1) := by decide +kernel
theorem d_Mod_send_74 : decode b_Mod_send 74 = .ok (.iload_n 1, 1) := by decide +kernel
theorem d_Mod_send_75 : decode b_Mod_send 75 = .ok (.aload_n 0, 1) := by decide +kernel
theorem d_Mod_send_76 : decode b_Mod_send 76 = .ok (.getfield 22, 3) := by decide +kernel
theorem d_Mod_send_79 : decode b_Mod_send 79 = .ok (.iload_n 1, 1) := by decide +kernel
theorem d_Mod_send_80 : decode b_Mod_send 80 = .ok (.iaload, 1) := by decide +kernel
theorem d_Mod_send_81 : decode b_Mod_send 81 = .ok (.invokevirtual 105, 3) := by decide +kernel
theorem d_Mod_send_84 : decode b_Mod_send 84 = .ok (.istore 4, 2) := by decide +kernel
theorem d_Mod_send_86 : decode b_Mod_send 86 = .ok (.aload_n 0, 1) := by decide +kernel
theorem d_Mod_send_87 : decode b_Mod_send 87 = .ok (.getfield 31, 3) := by decide +kernel
theorem d_Mod_send_90 : decode b_Mod_send 90 = .ok (.iload_n 3, 1) := by decide +kernel
theorem d_Mod_send_91 : decode b_Mod_send 91 = .ok (.iaload, 1) := by decide +kernel
theorem d_Mod_send_92 : decode b_Mod_send 92 = .ok (.istore 5, 2) := by decide +kernel
theorem d_Mod_send_94 : decode b_Mod_send 94 = .ok (.aload_n 0, 1) := by decide +kernel
theorem d_Mod_send_95 : decode b_Mod_send 95 = .ok (.getfield 31, 3) := by decide +kernel
theorem d_Mod_send_98 : decode b_Mod_send 98 = .ok (.iload 4, 2) := by decide +kernel
theorem d_Mod_send_100 : decode b_Mod_send 100 = .ok (.iload 5, 2) := by decide +kernel
theorem d_Mod_send_102 : decode b_Mod_send 102 = .ok (.iastore, 1) := by decide +kernel
theorem d_Mod_send_103 : decode b_Mod_send 103 = .ok (.aload_n 0, 1) := by decide +kernel
theorem d_Mod_send_104 : decode b_Mod_send 104 = .ok (.getfield 34, 3) := by decide +kernel
theorem d_Mod_send_107 : decode b_Mod_send 107 = .ok (.iload 4, 2) := by decide +kernel
theorem d_Mod_send_109 : decode b_Mod_send 109 = .ok (.aload_n 0, 1) := by decide +kernel
theorem d_Mod_send_110 : decode b_Mod_send 110 = .ok (.getfield 34, 3) := by decide +kernel
theorem d_Mod_send_113 : decode b_Mod_send 113 = .ok (.iload_n 3, 1) := by decide +kernel
theorem d_Mod_send_114 : decode b_Mod_send 114 = .ok (.iaload, 1) := by decide +kernel
theorem d_Mod_send_115 : decode b_Mod_send 115 = .ok (.iastore, 1) := by decide +kernel
theorem d_Mod_send_116 : decode b_Mod_send 116 = .ok (.aload_n 0, 1) := by decide +kernel
theorem d_Mod_send_117 : decode b_Mod_send 117 = .ok (.getfield 31, 3) := by decide +kernel
theorem d_Mod_send_120 : decode b_Mod_send 120 = .ok (.iload_n 3, 1) := by decide +kernel
theorem d_Mod_send_121 : decode b_Mod_send 121 = .ok (.iconst (-1), 1) := by decide +kernel
theorem d_Mod_send_122 : decode b_Mod_send 122 = .ok (.iastore, 1) := by decide +kernel
theorem d_Mod_send_123 : decode b_Mod_send 123 = .ok (.aload_n 0, 1) := by decide +kernel
theorem d_Mod_send_124 : decode b_Mod_send 124 = .ok (.getfield 28, 3) := by decide +kernel
theorem d_Mod_send_127 : decode b_Mod_send 127 = .ok (.iload 5, 2) := by decide +kernel
theorem d_Mod_send_129 : decode b_Mod_send 129 = .ok (.iload_n 1, 1) := by decide +kernel
theorem d_Mod_send_130 : decode b_Mod_send 130 = .ok (.iastore, 1) := by decide +kernel
theorem d_Mod_send_131 : decode b_Mod_send 131 = .ok (.aload_n 0, 1) := by decide +kernel
theorem d_Mod_send_132 : decode b_Mod_send 132 = .ok (.getfield 7, 3) := by decide +kernel
theorem d_Mod_send_135 : decode b_Mod_send 135 = .ok (.iload_n 1, 1) := by decide +kernel
theorem d_Mod_send_136 : decode b_Mod_send 136 = .ok (.iconst 2, 1) := by decide +kernel
theorem d_Mod_send_137 : decode b_Mod_send 137 = .ok (.iastore, 1) := by decide +kernel
theorem d_Mod_send_138 : decode b_Mod_send 138 = .ok (.iload 5, 2) := by decide +kernel
theorem d_Mod_send_140 : decode b_Mod_send 140 = .ok (.ireturn, 1) := by decide +kernel
theorem d_Mod_process_0 : decode b_Mod_process 0 = .ok (.aload_n 0, 1) := by decide +kernel
theorem d_Mod_process_1 : decode b_Mod_process 1 = .ok (.iconst 0, 1) := by decide +kernel
theorem d_Mod_process_2 : decode b_Mod_process 2 = .ok (.putfield 50, 3) := by decide +kernel
theorem d_Mod_process_5 : decode b_Mod_process 5 = .ok (.iload_n 1, 1) := by decide +kernel
theorem d_Mod_process_6 : decode b_Mod_process 6 = .ok (.invokestatic 61, 3) := by decide +kernel
theorem d_Mod_process_9 : decode b_Mod_process 9 = .ok (.ifCond .ne 9, 3) := by decide +kernel
theorem d_Mod_process_12 : decode b_Mod_process 12 = .ok (.aload_n 0, 1) := by decide +kernel
theorem d_Mod_process_13 : decode b_Mod_process 13 = .ok (.iconst 1, 1) := by decide +kernel
theorem d_Mod_process_14 : decode b_Mod_process 14 = .ok (.invokevirtual 67, 3) := by decide +kernel
theorem d_Mod_process_17 : decode b_Mod_process 17 = .ok (.ireturn, 1) := by decide +kernel
theorem d_Mod_process_18 : decode b_Mod_process 18 = .ok (.iload_n 2, 1) := by decide +kernel
theorem d_Mod_process_19 : decode b_Mod_process 19 = .ok (.tableswitch 66 0 4 #[33, 40, 47, 54, 60], 33) := by decide +kernel
theorem d_Mod_process_52 : decode b_Mod_process 52 = .ok (.aload_n 0, 1) := by decide +kernel
theorem d_Mod_process_53 : decode b_Mod_process 53 = .ok (.getfield 7, 3) := by decide +kernel
theorem d_Mod_process_56 : decode b_Mod_process 56 = .ok (.iload_n 1, 1) := by decide +kernel
theorem d_Mod_process_57 : decode b_Mod_process 57 = .ok (.iaload, 1) := by decide +kernel
theorem d_Mod_process_58 : decode b_Mod_process 58 = .ok (.ireturn, 1) := by decide +kernel
theorem d_Mod_process_59 : decode b_Mod_process 59 = .ok (.aload_n 0, 1) := by decide +kernel
theorem d_Mod_process_60 : decode b_Mod_process 60 = .ok (.getfield 13, 3) := by decide +kernel
theorem d_Mod_process_63 : decode b_Mod_process 63 = .ok (.iload_n 1, 1) := by decide +kernel
theorem d_Mod_process_64 : decode b_Mod_process 64 = .ok (.iaload, 1) := by decide +kernel
theorem d_Mod_process_65 : decode b_Mod_process 65 = .ok (.ireturn, 1) := by decide +kernel
theorem d_Mod_process_66 : decode b_Mod_process 66 = .ok (.aload_n 0, 1) := by decide +kernel
theorem d_Mod_process_67 : decode b_Mod_process 67 = .ok (.getfield 16, 3) := by decide +kernel
theorem d_Mod_process_70 : decode b_Mod_process 70 = .ok (.iload_n 1, 1) := by decide +kernel
theorem d_Mod_process_71 : decode b_Mod_process 71 = .ok (.iaload, 1) := by decide +kernel
theorem d_Mod_process_72 : decode b_Mod_process 72 = .ok (.ireturn, 1) := by decide +kernel
theorem d_Mod_process_73 : decode b_Mod_process 73 = .ok (.aload_n 0, 1) := by decide +kernel
theorem d_Mod_process_74 : decode b_Mod_process 74 = .ok (.iload_n 1, 1) := by decide +kernel
theorem d_Mod_process_75 : decode b_Mod_process 75 = .ok (.invokevirtual 99, 3) := by decide +kernel
theorem d_Mod_process_78 : decode b_Mod_process 78 = .ok (.ireturn, 1) := by decide +kernel
theorem d_Mod_process_79 : decode b_Mod_process 79 = .ok (.aload_n 0, 1) := by decide +kernel
theorem d_Mod_process_80 : decode b_Mod_process 80 = .ok (.iload_n 1, 1) := by decide +kernel
theorem d_Mod_process_81 : decode b_Mod_process 81 = .ok (.invokevirtual 96, 3) := by decide +kernel
theorem d_Mod_process_84 : decode b_Mod_process 84 = .ok (.ireturn, 1) := by decide +kernel
theorem d_Mod_process_85 : decode b_Mod_process 85 = .ok (.aload_n 0, 1) := by decide +kernel
theorem d_Mod_process_86 : decode b_Mod_process 86 = .ok (.iconst 1, 1) := by decide +kernel
theorem d_Mod_process_87 : decode b_Mod_process 87 = .ok (.invokevirtual 67, 3) := by decide +kernel
theorem d_Mod_process_90 : decode b_Mod_process 90 = .ok (.ireturn, 1) := by decide +kernel
theorem d_Mod_page_0 : decode b_Mod_page 0 = .ok (.aload_n 0, 1) := by decide +kernel
theorem d_Mod_page_1 : decode b_Mod_page 1 = .ok (.iconst 0, 1) := by decide +kernel
theorem d_Mod_page_2 : decode b_Mod_page 2 = .ok (.putfield 50, 3) := by decide +kernel
theorem d_Mod_page_5 : decode b_Mod_page 5 = .ok (.iload_n 1, 1) := by decide +kernel
theorem d_Mod_page_6 : decode b_Mod_page 6 = .ok (.invokestatic 64, 3) := by decide +kernel
theorem d_Mod_page_9 : decode b_Mod_page 9 = .ok (.ifCond .eq 12, 3) := by decide +kernel
theorem d_Mod_page_12 : decode b_Mod_page 12 = .ok (.iload_n 2, 1) := by decide +kernel
theorem d_Mod_page_13 : decode b_Mod_page 13 = .ok (.iconst 0, 1) := by decide +kernel
theorem d_Mod_page_14 : decode b_Mod_page 14 = .ok (.iconst 2, 1) := by decide +kernel
theorem d_Mod_page_15 : decode b_Mod_page 15 = .ok (.invokestatic 53, 3) := by decide +kernel
theorem d_Mod_page_18 : decode b_Mod_page 18 = .ok (.ifCond .ne 9, 3) := by decide +kernel
theorem d_Mod_page_21 : decode b_Mod_page 21 = .ok (.aload_n 0, 1) := by decide +kernel
theorem d_Mod_page_22 : decode b_Mod_page 22 = .ok (.iconst 1, 1) := by decide +kernel
theorem d_Mod_page_23 : decode b_Mod_page 23 = .ok (.invokevirtual 67, 3) := by decide +kernel
theorem d_Mod_page_26 : decode b_Mod_page 26 = .ok (.ireturn, 1) := by decide +kernel
theorem d_Mod_page_27 : decode b_Mod_page 27 = .ok (.iload_n 2, 1) := by decide +kernel
theorem d_Mod_page_28 : decode b_Mod_page 28 = .ok (.ifCond .ne 12, 3) := by decide +kernel
theorem d_Mod_page_31 : decode b_Mod_page 31 = .ok (.aload_n 0, 1) := by decide +kernel
theorem d_Mod_page_32 : decode b_Mod_page 32 = .ok (.getfield 25, 3) := by decide +kernel
theorem d_Mod_page_35 : decode b_Mod_page 35 = .ok (.iload_n 1, 1) := by decide +kernel
theorem d_Mod_page_36 : decode b_Mod_page 36 = .ok (.iaload, 1) := by decide +kernel
theorem d_Mod_page_37 : decode b_Mod_page 37 = .ok (.goto 22, 3) := by decide +kernel
theorem d_Mod_page_40 : decode b_Mod_page 40 = .ok (.iload_n 2, 1) := by decide +kernel
theorem d_Mod_page_41 : decode b_Mod_page 41 = .ok (.iconst 1, 1) := by decide +kernel
theorem d_Mod_page_42 : decode b_Mod_page 42 = .ok (.if_icmp .ne 12, 3) := by decide +kernel
theorem d_Mod_page_45 : decode b_Mod_page 45 = .ok (.aload_n 0, 1) := by decide +kernel
theorem d_Mod_page_46 : decode b_Mod_page 46 = .ok (.getfield 28, 3) := by decide +kernel
theorem d_Mod_page_49 : decode b_Mod_page 49 = .ok (.iload_n 1, 1) := by decide +kernel
theorem d_Mod_page_50 : decode b_Mod_page 50 = .ok (.iaload, 1) := by decide +kernel
theorem d_Mod_page_51 : decode b_Mod_page 51 = .ok (.goto 8, 3) := by decide +kernel
theorem d_Mod_page_54 : decode b_Mod_page 54 = .ok (.aload_n 0, 1) := by decide +kernel
theorem d_Mod_page_55 : decode b_Mod_page 55 = .ok (.iload_n 1, 1) := by decide +kernel
theorem d_Mod_page_56 : decode b_Mod_page 56 = .ok (.invokevirtual 86, 3) := by decide +kernel
theorem d_Mod_page_59 : decode b_Mod_page 59 = .ok (.ireturn, 1) := by decide +kernel
theorem d_Mod_count_0 : decode b_Mod_count 0 = .ok (.aload_n 0, 1) := by decide +kernel
theorem d_Mod_count_1 : decode b_Mod_count 1 = .ok (.iconst 0, 1) := by decide +kernel
theorem d_Mod_count_2 : decode b_Mod_count 2 = .ok (.putfield 50, 3) := by decide +kernel
theorem d_Mod_count_5 : decode b_Mod_count 5 = .ok (.iconst 0, 1) := by decide +kernel
theorem d_Mod_count_6 : decode b_Mod_count 6 = .ok (.istore_n 2, 1) := by decide +kernel
theorem d_Mod_count_7 : decode b_Mod_count 7 = .ok (.iload_n 1, 1) := by decide +kernel
theorem d_Mod_count_8 : decode b_Mod_count 8 = .ok (.tableswitch 125 0 3 #[32, 37, 65, 93], 32) := by decide +kernel
theorem d_Mod_count_40 : decode b_Mod_count 40 = .ok (.aload_n 0, 1) := by decide +kernel
theorem d_Mod_count_41 : decode b_Mod_count 41 = .ok (.getfield 46, 3) := by decide +kernel
theorem d_Mod_count_44 : decode b_Mod_count 44 = .ok (.ireturn, 1) := by decide +kernel
theorem d_Mod_count_45 : decode b_Mod_count 45 = .ok (.iconst 0, 1) := by decide +kernel
theorem d_Mod_count_46 : decode b_Mod_count 46 = .ok (.istore_n 3, 1) := by decide +kernel
theorem d_Mod_count_47 : decode b_Mod_count 47 = .ok (.iload_n 3, 1) := by decide +kernel
theorem d_Mod_count_48 : decode b_Mod_count 48 = .ok (.bipush 20, 2) := by decide +kernel
theorem d_Mod_count_50 : decode b_Mod_count 50 = .ok (.if_icmp .ge 21, 3) := by decide +kernel
theorem d_Mod_count_53 : decode b_Mod_count 53 = .ok (.aload_n 0, 1) := by decide +kernel
theorem d_Mod_count_54 : decode b_Mod_count 54 = .ok (.getfield 25, 3) := by decide +kernel
theorem d_Mod_count_57 : decode b_Mod_count 57 = .ok (.iload_n 3, 1) := by decide +kernel
theorem d_Mod_count_58 : decode b_Mod_count 58 = .ok (.iaload, 1) := by decide +kernel
theorem d_Mod_count_59 : decode b_Mod_count 59 = .ok (.ifCond .ne 6, 3) := by decide +kernel
theorem d_Mod_count_62 : decode b_Mod_count 62 = .ok (.iinc 2 1, 3) := by decide +kernel
theorem d_Mod_count_65 : decode b_Mod_count 65 = .ok (.iinc 3 1, 3) := by decide +kernel
theorem d_Mod_count_68 : decode b_Mod_count 68 = .ok (.goto (-21), 3) := by decide +kernel
theorem d_Mod_count_71 : decode b_Mod_count 71 = .ok (.iload_n 2, 1) := by decide +kernel
theorem d_Mod_count_72 : decode b_Mod_count 72 = .ok (.ireturn, 1) := by decide +kernel
theorem d_Mod_count_73 : decode b_Mod_count 73 = .ok (.iconst 1, 1) := by decide +kernel
theorem d_Mod_count_74 : decode b_Mod_count 74 = .ok (.istore_n 3, 1) := by decide +kernel
theorem d_Mod_count_75 : decode b_Mod_count 75 = .ok (.iload_n 3, 1) := by decide +kernel
theorem d_Mod_count_76 : decode b_Mod_count 76 = .ok (.bipush 6, 2) := by decide +kernel
theorem d_Mod_count_78 : decode b_Mod_count 78 = .ok (.if_icmp .ge 21, 3) := by decide +kernel
theorem d_Mod_count_81 : decode b_Mod_count 81 = .ok (.aload_n 0, 1) := by decide +kernel
theorem d_Mod_count_82 : decode b_Mod_count 82 = .ok (.getfield 7, 3) := by decide +kernel
theorem d_Mod_count_85 : decode b_Mod_count 85 = .ok (.iload_n 3, 1) := by decide +kernel
theorem d_Mod_count_86 : decode b_Mod_count 86 = .ok (.iaload, 1) := by decide +kernel
theorem d_Mod_count_87 : decode b_Mod_count 87 = .ok (.ifCond .le 6, 3) := by decide +kernel
theorem d_Mod_count_90 : decode b_Mod_count 90 = .ok (.iinc 2 1, 3) := by decide +kernel
theorem d_Mod_count_93 : decode b_Mod_count 93 = .ok (.iinc 3 1, 3) := by decide +kernel
theorem d_Mod_count_96 : decode b_Mod_count 96 = .ok (.goto (-21), 3) := by decide +kernel
theorem d_Mod_count_99 : decode b_Mod_count 99 = .ok (.iload_n 2, 1) := by decide +kernel
theorem d_Mod_count_100 : decode b_Mod_count 100 = .ok (.ireturn, 1) := by decide +kernel
theorem d_Mod_count_101 : decode b_Mod_count 101 = .ok (.iconst 0, 1) := by decide +kernel
theorem d_Mod_count_102 : decode b_Mod_count 102 = .ok (.istore_n 3, 1) := by decide +kernel
theorem d_Mod_count_103 : decode b_Mod_count 103 = .ok (.iload_n 3, 1) := by decide +kernel
theorem d_Mod_count_104 : decode b_Mod_count 104 = .ok (.iconst 3, 1) := by decide +kernel
theorem d_Mod_count_105 : decode b_Mod_count 105 = .ok (.if_icmp .ge 26, 3) := by decide +kernel
theorem d_Mod_count_108 : decode b_Mod_count 108 = .ok (.aload_n 0, 1) := by decide +kernel
theorem d_Mod_count_109 : decode b_Mod_count 109 = .ok (.iload_n 3, 1) := by decide +kernel
theorem d_Mod_count_110 : decode b_Mod_count 110 = .ok (.invokevirtual 102, 3) := by decide +kernel
theorem d_Mod_count_113 : decode b_Mod_count 113 = .ok (.ifCond .le 12, 3) := by decide +kernel
theorem d_Mod_count_116 : decode b_Mod_count 116 = .ok (.iload_n 2, 1) := by decide +kernel
theorem d_Mod_count_117 : decode b_Mod_count 117 = .ok (.aload_n 0, 1) := by decide +kernel
theorem d_Mod_count_118 : decode b_Mod_count 118 = .ok (.getfield 43, 3) := by decide +kernel
theorem d_Mod_count_121 : decode b_Mod_count 121 = .ok (.iload_n 3, 1) := by decide +kernel
theorem d_Mod_count_122 : decode b_Mod_count 122 = .ok (.iaload, 1) := by decide +kernel
theorem d_Mod_count_123 : decode b_Mod_count 123 = .ok (.iadd, 1) := by decide +kernel
theorem d_Mod_count_124 : decode b_Mod_count 124 = .ok (.istore_n 2, 1) := by decide +kernel
theorem d_Mod_count_125 : decode b_Mod_count 125 = .ok (.iinc 3 1, 3) := by decide +kernel
theorem d_Mod_count_128 : decode b_Mod_count 128 = .ok (.goto (-25), 3) := by decide +kernel
theorem d_Mod_count_131 : decode b_Mod_count 131 = .ok (.iload_n 2, 1) := by decide +kernel
theorem d_Mod_count_132 : decode b_Mod_count 132 = .ok (.ireturn, 1) := by decide +kernel
theorem d_Mod_count_133 : decode b_Mod_count 133 = .ok (.aload_n 0, 1) := by decide +kernel
theorem d_Mod_count_134 : decode b_Mod_count 134 = .ok (.iconst 1, 1) := by decide +kernel
theorem d_Mod_count_135 : decode b_Mod_count 135 = .ok (.invokevirtual 67, 3) := by decide +kernel
theorem d_Mod_count_138 : decode b_Mod_count 138 = .ok (.ireturn, 1) := by decide +kernel
