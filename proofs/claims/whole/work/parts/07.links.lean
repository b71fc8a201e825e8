section LNK
theorem mem_sel (i : Nat) {q : MethodName × Nat} (h : lw_privs[i]? = some q) : Jvm.Cond.selects q.1.cls q.1 q.1 ∈ lw_g := List.mem_filter.mpr ⟨List.mem_append_left _ (List.mem_map.mpr ⟨q, List.mem_of_getElem? h, rfl⟩), rfl⟩
theorem kc0 : KC 0 RX0 TX0 4 tyX0 := ⟨rfl, by decide +kernel, tyX0_ok, nmX0⟩
theorem kc1 : KC 1 RX1 TX1 4 tyX1 := ⟨rfl, by decide +kernel, tyX1_ok, nmX1⟩
theorem kc2 : KC 2 RX2 TX2 4 tyX2 := ⟨rfl, by decide +kernel, tyX2_ok, nmX2⟩
theorem kc3 : KC 3 RX3 TX3 9 tyX3 := ⟨rfl, by decide +kernel, tyX3_ok, nmX3⟩
theorem kc4 : KC 4 RX4 TX4 10 tyX4 := ⟨rfl, by decide +kernel, tyX4_ok, nmX4⟩
theorem kc5 : KC 5 RX5 TX5 4 tyX5 := ⟨rfl, by decide +kernel, tyX5_ok, nmX5⟩
theorem kc6 : KC 6 RX8 TX8 14 tyX8 := ⟨rfl, by decide +kernel, tyX8_ok, nmX8⟩
theorem kc7 : KC 7 RX10 TX10 17 tyX10 := ⟨rfl, by decide +kernel, tyX10_ok, nmX10⟩
theorem kc8 : KC 8 RX11 TX11 63 tyX11 := ⟨rfl, by decide +kernel, tyX11_ok, nmX11⟩
theorem ml_L_15 : ML RL 15 yX10_init := Or.inl (mem_g 27 (by decide +kernel) rfl)
theorem ml_X10_9 : ML RX10 9 yX4_init := Or.inr ⟨"MurmurSheds", mem_n 35 (by decide +kernel) rfl⟩
theorem fl_X4_9 : FL RX4 9 4 0 (.array .int) true := ⟨_, _, _, _, kc4, by decide, rfl, rfl, Or.inl (mem_g 41 (by decide +kernel) rfl)⟩
theorem fl_X4_28 : FL RX4 28 4 1 .int false := ⟨_, _, _, _, kc4, by decide, rfl, rfl, Or.inl (mem_g 42 (by decide +kernel) rfl)⟩
theorem fl_X10_85 : FL RX10 85 4 1 .int false := ⟨_, _, _, _, kc4, by decide, rfl, rfl, Or.inr ⟨"MurmurSheds", mem_n 43 (by decide +kernel) rfl⟩⟩
theorem fl_X4_36 : FL RX4 36 4 2 .int false := ⟨_, _, _, _, kc4, by decide, rfl, rfl, Or.inl (mem_g 44 (by decide +kernel) rfl)⟩
theorem fl_X4_55 : FL RX4 55 4 3 .int false := ⟨_, _, _, _, kc4, by decide, rfl, rfl, Or.inl (mem_g 45 (by decide +kernel) rfl)⟩
theorem fl_X4_49 : FL RX4 49 4 4 .int false := ⟨_, _, _, _, kc4, by decide, rfl, rfl, Or.inl (mem_g 46 (by decide +kernel) rfl)⟩
theorem fl_X4_52 : FL RX4 52 4 5 .int false := ⟨_, _, _, _, kc4, by decide, rfl, rfl, Or.inl (mem_g 47 (by decide +kernel) rfl)⟩
theorem fl_X4_85 : FL RX4 85 4 6 .int false := ⟨_, _, _, _, kc4, by decide, rfl, rfl, Or.inl (mem_g 48 (by decide +kernel) rfl)⟩
theorem fl_X9_171 : FL RX9 171 4 6 .int false := ⟨_, _, _, _, kc4, by decide, rfl, rfl, Or.inr ⟨"MurmurSheds", mem_n 49 (by decide +kernel) rfl⟩⟩
theorem fl_X4_72 : FL RX4 72 4 7 .long false := ⟨_, _, _, _, kc4, by decide, rfl, rfl, Or.inl (mem_g 50 (by decide +kernel) rfl)⟩
theorem fl_X4_21 : FL RX4 21 4 8 (.object "MurmurSheds$Word") false := ⟨_, _, _, _, kc4, by decide, rfl, rfl, Or.inl (mem_g 51 (by decide +kernel) rfl)⟩
theorem fl_X6_33 : FL RX6 33 4 9 .int false := ⟨_, _, _, _, kc4, by decide, rfl, rfl, Or.inr ⟨"MurmurSheds", mem_n 52 (by decide +kernel) rfl⟩⟩
theorem fl_X9_93 : FL RX9 93 4 9 .int false := ⟨_, _, _, _, kc4, by decide, rfl, rfl, Or.inr ⟨"MurmurSheds", mem_n 53 (by decide +kernel) rfl⟩⟩
theorem fl_X4_39 : FL RX4 39 4 9 .int false := ⟨_, _, _, _, kc4, by decide, rfl, rfl, Or.inl (mem_g 54 (by decide +kernel) rfl)⟩
theorem ml_X10_18 : ML RX10 18 yX8_init := Or.inr ⟨"MurmurSheds", mem_n 79 (by decide +kernel) rfl⟩
theorem ml_X8_46 : ML RX8 46 yX0_init := Or.inr ⟨"MurmurSheds", mem_n 85 (by decide +kernel) rfl⟩
theorem fl_X0_9 : FL RX0 9 0 0 (.array .int) true := ⟨_, _, _, _, kc0, by decide, rfl, rfl, Or.inl (mem_g 89 (by decide +kernel) rfl)⟩
theorem fl_X0_21 : FL RX0 21 0 1 .int false := ⟨_, _, _, _, kc0, by decide, rfl, rfl, Or.inl (mem_g 90 (by decide +kernel) rfl)⟩
theorem fl_X9_70 : FL RX9 70 0 1 .int false := ⟨_, _, _, _, kc0, by decide, rfl, rfl, Or.inr ⟨"MurmurSheds", mem_n 91 (by decide +kernel) rfl⟩⟩
theorem fl_X8_63 : FL RX8 63 0 1 .int false := ⟨_, _, _, _, kc0, by decide, rfl, rfl, Or.inr ⟨"MurmurSheds", mem_n 92 (by decide +kernel) rfl⟩⟩
theorem fl_X0_15 : FL RX0 15 0 2 (.array .int) true := ⟨_, _, _, _, kc0, by decide, rfl, rfl, Or.inl (mem_g 93 (by decide +kernel) rfl)⟩
theorem fl_X0_18 : FL RX0 18 0 3 (.array .int) true := ⟨_, _, _, _, kc0, by decide, rfl, rfl, Or.inl (mem_g 94 (by decide +kernel) rfl)⟩
theorem fl_X8_9 : FL RX8 9 6 0 (.array .long) true := ⟨_, _, _, _, kc6, by decide, rfl, rfl, Or.inl (mem_g 105 (by decide +kernel) rfl)⟩
theorem fl_X8_15 : FL RX8 15 6 1 (.array .int) true := ⟨_, _, _, _, kc6, by decide, rfl, rfl, Or.inl (mem_g 106 (by decide +kernel) rfl)⟩
theorem fl_X3_88 : FL RX3 88 6 1 (.array .int) true := ⟨_, _, _, _, kc6, by decide, rfl, rfl, Or.inr ⟨"MurmurSheds", mem_n 107 (by decide +kernel) rfl⟩⟩
theorem fl_X10_134 : FL RX10 134 6 1 (.array .int) true := ⟨_, _, _, _, kc6, by decide, rfl, rfl, Or.inr ⟨"MurmurSheds", mem_n 108 (by decide +kernel) rfl⟩⟩
theorem fl_X8_19 : FL RX8 19 6 2 (.array .int) true := ⟨_, _, _, _, kc6, by decide, rfl, rfl, Or.inl (mem_g 109 (by decide +kernel) rfl)⟩
theorem fl_X3_43 : FL RX3 43 6 2 (.array .int) true := ⟨_, _, _, _, kc6, by decide, rfl, rfl, Or.inr ⟨"MurmurSheds", mem_n 110 (by decide +kernel) rfl⟩⟩
theorem fl_X8_22 : FL RX8 22 6 3 (.array .int) true := ⟨_, _, _, _, kc6, by decide, rfl, rfl, Or.inl (mem_g 111 (by decide +kernel) rfl)⟩
theorem fl_X3_48 : FL RX3 48 6 3 (.array .int) true := ⟨_, _, _, _, kc6, by decide, rfl, rfl, Or.inr ⟨"MurmurSheds", mem_n 112 (by decide +kernel) rfl⟩⟩
theorem fl_X8_25 : FL RX8 25 6 4 (.array .int) true := ⟨_, _, _, _, kc6, by decide, rfl, rfl, Or.inl (mem_g 113 (by decide +kernel) rfl)⟩
theorem fl_X3_91 : FL RX3 91 6 4 (.array .int) true := ⟨_, _, _, _, kc6, by decide, rfl, rfl, Or.inr ⟨"MurmurSheds", mem_n 114 (by decide +kernel) rfl⟩⟩
theorem fl_X10_153 : FL RX10 153 6 4 (.array .int) true := ⟨_, _, _, _, kc6, by decide, rfl, rfl, Or.inr ⟨"MurmurSheds", mem_n 115 (by decide +kernel) rfl⟩⟩
theorem fl_X8_51 : FL RX8 51 6 5 .int false := ⟨_, _, _, _, kc6, by decide, rfl, rfl, Or.inl (mem_g 116 (by decide +kernel) rfl)⟩
theorem fl_X3_30 : FL RX3 30 6 5 .int false := ⟨_, _, _, _, kc6, by decide, rfl, rfl, Or.inr ⟨"MurmurSheds", mem_n 117 (by decide +kernel) rfl⟩⟩
theorem fl_X9_96 : FL RX9 96 6 5 .int false := ⟨_, _, _, _, kc6, by decide, rfl, rfl, Or.inr ⟨"MurmurSheds", mem_n 118 (by decide +kernel) rfl⟩⟩
theorem fl_X10_74 : FL RX10 74 6 5 .int false := ⟨_, _, _, _, kc6, by decide, rfl, rfl, Or.inr ⟨"MurmurSheds", mem_n 119 (by decide +kernel) rfl⟩⟩
theorem fl_X8_28 : FL RX8 28 6 6 (.array .long) true := ⟨_, _, _, _, kc6, by decide, rfl, rfl, Or.inl (mem_g 120 (by decide +kernel) rfl)⟩
theorem fl_X8_31 : FL RX8 31 6 7 (.array .int) true := ⟨_, _, _, _, kc6, by decide, rfl, rfl, Or.inl (mem_g 121 (by decide +kernel) rfl)⟩
theorem fl_X10_163 : FL RX10 163 6 7 (.array .int) true := ⟨_, _, _, _, kc6, by decide, rfl, rfl, Or.inr ⟨"MurmurSheds", mem_n 122 (by decide +kernel) rfl⟩⟩
theorem fl_X8_34 : FL RX8 34 6 8 (.array .int) true := ⟨_, _, _, _, kc6, by decide, rfl, rfl, Or.inl (mem_g 123 (by decide +kernel) rfl)⟩
theorem fl_X10_166 : FL RX10 166 6 8 (.array .int) true := ⟨_, _, _, _, kc6, by decide, rfl, rfl, Or.inr ⟨"MurmurSheds", mem_n 124 (by decide +kernel) rfl⟩⟩
theorem fl_X8_54 : FL RX8 54 6 9 .int false := ⟨_, _, _, _, kc6, by decide, rfl, rfl, Or.inl (mem_g 125 (by decide +kernel) rfl)⟩
theorem fl_X9_149 : FL RX9 149 6 9 .int false := ⟨_, _, _, _, kc6, by decide, rfl, rfl, Or.inr ⟨"MurmurSheds", mem_n 126 (by decide +kernel) rfl⟩⟩
theorem fl_X10_78 : FL RX10 78 6 9 .int false := ⟨_, _, _, _, kc6, by decide, rfl, rfl, Or.inr ⟨"MurmurSheds", mem_n 127 (by decide +kernel) rfl⟩⟩
theorem fl_X8_37 : FL RX8 37 6 10 (.array .int) true := ⟨_, _, _, _, kc6, by decide, rfl, rfl, Or.inl (mem_g 128 (by decide +kernel) rfl)⟩
theorem fl_X8_57 : FL RX8 57 6 11 .int false := ⟨_, _, _, _, kc6, by decide, rfl, rfl, Or.inl (mem_g 129 (by decide +kernel) rfl)⟩
theorem fl_X9_162 : FL RX9 162 6 11 .int false := ⟨_, _, _, _, kc6, by decide, rfl, rfl, Or.inr ⟨"MurmurSheds", mem_n 130 (by decide +kernel) rfl⟩⟩
theorem fl_X8_40 : FL RX8 40 6 12 .int false := ⟨_, _, _, _, kc6, by decide, rfl, rfl, Or.inl (mem_g 131 (by decide +kernel) rfl)⟩
theorem fl_X3_98 : FL RX3 98 6 12 .int false := ⟨_, _, _, _, kc6, by decide, rfl, rfl, Or.inr ⟨"MurmurSheds", mem_n 132 (by decide +kernel) rfl⟩⟩
theorem fl_X9_178 : FL RX9 178 6 12 .int false := ⟨_, _, _, _, kc6, by decide, rfl, rfl, Or.inr ⟨"MurmurSheds", mem_n 133 (by decide +kernel) rfl⟩⟩
theorem fl_X10_175 : FL RX10 175 6 12 .int false := ⟨_, _, _, _, kc6, by decide, rfl, rfl, Or.inr ⟨"MurmurSheds", mem_n 134 (by decide +kernel) rfl⟩⟩
theorem fl_X8_47 : FL RX8 47 6 13 (.object "MurmurSheds$Law") true := ⟨_, _, _, _, kc6, by decide, rfl, rfl, Or.inl (mem_g 135 (by decide +kernel) rfl)⟩
theorem fl_X9_66 : FL RX9 66 6 13 (.object "MurmurSheds$Law") true := ⟨_, _, _, _, kc6, by decide, rfl, rfl, Or.inr ⟨"MurmurSheds", mem_n 136 (by decide +kernel) rfl⟩⟩
theorem fl_X3_75 : FL RX3 75 6 13 (.object "MurmurSheds$Law") true := ⟨_, _, _, _, kc6, by decide, rfl, rfl, Or.inr ⟨"MurmurSheds", mem_n 137 (by decide +kernel) rfl⟩⟩
theorem ml_X10_28 : ML RX10 28 yX5_init := Or.inr ⟨"MurmurSheds", mem_n 169 (by decide +kernel) rfl⟩
theorem fl_X5_9 : FL RX5 9 5 0 (.array .int) true := ⟨_, _, _, _, kc5, by decide, rfl, rfl, Or.inl (mem_g 173 (by decide +kernel) rfl)⟩
theorem fl_X5_15 : FL RX5 15 5 1 (.array .int) true := ⟨_, _, _, _, kc5, by decide, rfl, rfl, Or.inl (mem_g 174 (by decide +kernel) rfl)⟩
theorem fl_X5_18 : FL RX5 18 5 2 (.array .int) true := ⟨_, _, _, _, kc5, by decide, rfl, rfl, Or.inl (mem_g 175 (by decide +kernel) rfl)⟩
theorem fl_X5_21 : FL RX5 21 5 3 .int false := ⟨_, _, _, _, kc5, by decide, rfl, rfl, Or.inl (mem_g 176 (by decide +kernel) rfl)⟩
theorem fl_X6_44 : FL RX6 44 5 3 .int false := ⟨_, _, _, _, kc5, by decide, rfl, rfl, Or.inr ⟨"MurmurSheds", mem_n 177 (by decide +kernel) rfl⟩⟩
theorem fl_X10_188 : FL RX10 188 5 3 .int false := ⟨_, _, _, _, kc5, by decide, rfl, rfl, Or.inr ⟨"MurmurSheds", mem_n 178 (by decide +kernel) rfl⟩⟩
theorem ml_X10_38 : ML RX10 38 yX3_init := Or.inr ⟨"MurmurSheds", mem_n 190 (by decide +kernel) rfl⟩
theorem fl_X3_36 : FL RX3 36 3 0 .int false := ⟨_, _, _, _, kc3, by decide, rfl, rfl, Or.inl (mem_g 194 (by decide +kernel) rfl)⟩
theorem fl_X3_37 : FL RX3 37 3 1 .int false := ⟨_, _, _, _, kc3, by decide, rfl, rfl, Or.inl (mem_g 195 (by decide +kernel) rfl)⟩
theorem fl_X5_37 : FL RX5 37 3 1 .int false := ⟨_, _, _, _, kc3, by decide, rfl, rfl, Or.inr ⟨"MurmurSheds", mem_n 196 (by decide +kernel) rfl⟩⟩
theorem fl_X10_169 : FL RX10 169 3 1 .int false := ⟨_, _, _, _, kc3, by decide, rfl, rfl, Or.inr ⟨"MurmurSheds", mem_n 197 (by decide +kernel) rfl⟩⟩
theorem fl_X3_40 : FL RX3 40 3 2 .int false := ⟨_, _, _, _, kc3, by decide, rfl, rfl, Or.inl (mem_g 198 (by decide +kernel) rfl)⟩
theorem fl_X10_182 : FL RX10 182 3 2 .int false := ⟨_, _, _, _, kc3, by decide, rfl, rfl, Or.inr ⟨"MurmurSheds", mem_n 199 (by decide +kernel) rfl⟩⟩
theorem fl_X3_9 : FL RX3 9 3 3 (.array .int) true := ⟨_, _, _, _, kc3, by decide, rfl, rfl, Or.inl (mem_g 200 (by decide +kernel) rfl)⟩
theorem fl_X10_147 : FL RX10 147 3 3 (.array .int) true := ⟨_, _, _, _, kc3, by decide, rfl, rfl, Or.inr ⟨"MurmurSheds", mem_n 201 (by decide +kernel) rfl⟩⟩
theorem fl_X3_15 : FL RX3 15 3 4 (.array .int) true := ⟨_, _, _, _, kc3, by decide, rfl, rfl, Or.inl (mem_g 202 (by decide +kernel) rfl)⟩
theorem fl_X10_141 : FL RX10 141 3 4 (.array .int) true := ⟨_, _, _, _, kc3, by decide, rfl, rfl, Or.inr ⟨"MurmurSheds", mem_n 203 (by decide +kernel) rfl⟩⟩
theorem fl_X3_18 : FL RX3 18 3 5 (.array .int) true := ⟨_, _, _, _, kc3, by decide, rfl, rfl, Or.inl (mem_g 204 (by decide +kernel) rfl)⟩
theorem fl_X10_144 : FL RX10 144 3 5 (.array .int) true := ⟨_, _, _, _, kc3, by decide, rfl, rfl, Or.inr ⟨"MurmurSheds", mem_n 205 (by decide +kernel) rfl⟩⟩
theorem fl_X3_21 : FL RX3 21 3 6 (.array .int) true := ⟨_, _, _, _, kc3, by decide, rfl, rfl, Or.inl (mem_g 206 (by decide +kernel) rfl)⟩
theorem fl_X10_316 : FL RX10 316 3 6 (.array .int) true := ⟨_, _, _, _, kc3, by decide, rfl, rfl, Or.inr ⟨"MurmurSheds", mem_n 207 (by decide +kernel) rfl⟩⟩
theorem fl_X3_24 : FL RX3 24 3 7 (.array .int) true := ⟨_, _, _, _, kc3, by decide, rfl, rfl, Or.inl (mem_g 208 (by decide +kernel) rfl)⟩
theorem fl_X3_27 : FL RX3 27 3 8 (.array .int) true := ⟨_, _, _, _, kc3, by decide, rfl, rfl, Or.inl (mem_g 209 (by decide +kernel) rfl)⟩
theorem fl_X10_258 : FL RX10 258 3 8 (.array .int) true := ⟨_, _, _, _, kc3, by decide, rfl, rfl, Or.inr ⟨"MurmurSheds", mem_n 210 (by decide +kernel) rfl⟩⟩
theorem ml_X10_48 : ML RX10 48 yX2_init := Or.inr ⟨"MurmurSheds", mem_n 232 (by decide +kernel) rfl⟩
theorem fl_X2_9 : FL RX2 9 2 0 (.array .int) true := ⟨_, _, _, _, kc2, by decide, rfl, rfl, Or.inl (mem_g 236 (by decide +kernel) rfl)⟩
theorem fl_X10_336 : FL RX10 336 2 0 (.array .int) true := ⟨_, _, _, _, kc2, by decide, rfl, rfl, Or.inr ⟨"MurmurSheds", mem_n 237 (by decide +kernel) rfl⟩⟩
theorem fl_X2_15 : FL RX2 15 2 1 (.array .int) true := ⟨_, _, _, _, kc2, by decide, rfl, rfl, Or.inl (mem_g 238 (by decide +kernel) rfl)⟩
theorem fl_X10_341 : FL RX10 341 2 1 (.array .int) true := ⟨_, _, _, _, kc2, by decide, rfl, rfl, Or.inr ⟨"MurmurSheds", mem_n 239 (by decide +kernel) rfl⟩⟩
theorem fl_X2_18 : FL RX2 18 2 2 (.array .int) true := ⟨_, _, _, _, kc2, by decide, rfl, rfl, Or.inl (mem_g 240 (by decide +kernel) rfl)⟩
theorem fl_X10_344 : FL RX10 344 2 2 (.array .int) true := ⟨_, _, _, _, kc2, by decide, rfl, rfl, Or.inr ⟨"MurmurSheds", mem_n 241 (by decide +kernel) rfl⟩⟩
theorem fl_X2_21 : FL RX2 21 2 3 .int false := ⟨_, _, _, _, kc2, by decide, rfl, rfl, Or.inl (mem_g 242 (by decide +kernel) rfl)⟩
theorem fl_X10_191 : FL RX10 191 2 3 .int false := ⟨_, _, _, _, kc2, by decide, rfl, rfl, Or.inr ⟨"MurmurSheds", mem_n 243 (by decide +kernel) rfl⟩⟩
theorem ml_X10_73 : ML RX10 73 yX1_init := Or.inr ⟨"MurmurSheds", mem_n 257 (by decide +kernel) rfl⟩
theorem ml_X1_9 : ML RX1 9 yX3_init := Or.inr ⟨"MurmurSheds", mem_n 262 (by decide +kernel) rfl⟩
theorem ml_X1_18 : ML RX1 18 yX5_init := Or.inr ⟨"MurmurSheds", mem_n 264 (by decide +kernel) rfl⟩
theorem ml_X1_25 : ML RX1 25 yX2_init := Or.inr ⟨"MurmurSheds", mem_n 266 (by decide +kernel) rfl⟩
theorem fl_X10_121 : FL RX10 121 1 0 .boolean false := ⟨_, _, _, _, kc1, by decide, rfl, rfl, Or.inr ⟨"MurmurSheds", mem_n 267 (by decide +kernel) rfl⟩⟩
theorem fl_X1_10 : FL RX1 10 1 1 (.object "MurmurSheds$Standing") true := ⟨_, _, _, _, kc1, by decide, rfl, rfl, Or.inl (mem_g 268 (by decide +kernel) rfl)⟩
theorem fl_X10_234 : FL RX10 234 1 1 (.object "MurmurSheds$Standing") true := ⟨_, _, _, _, kc1, by decide, rfl, rfl, Or.inr ⟨"MurmurSheds", mem_n 269 (by decide +kernel) rfl⟩⟩
theorem fl_X1_19 : FL RX1 19 1 2 (.object "MurmurSheds$Week") true := ⟨_, _, _, _, kc1, by decide, rfl, rfl, Or.inl (mem_g 270 (by decide +kernel) rfl)⟩
theorem fl_X10_237 : FL RX10 237 1 2 (.object "MurmurSheds$Week") true := ⟨_, _, _, _, kc1, by decide, rfl, rfl, Or.inr ⟨"MurmurSheds", mem_n 271 (by decide +kernel) rfl⟩⟩
theorem fl_X1_26 : FL RX1 26 1 3 (.object "MurmurSheds$Seen") true := ⟨_, _, _, _, kc1, by decide, rfl, rfl, Or.inl (mem_g 272 (by decide +kernel) rfl)⟩
theorem fl_X10_241 : FL RX10 241 1 3 (.object "MurmurSheds$Seen") true := ⟨_, _, _, _, kc1, by decide, rfl, rfl, Or.inr ⟨"MurmurSheds", mem_n 273 (by decide +kernel) rfl⟩⟩
theorem fl_X10_10 : FL RX10 10 7 0 (.object "MurmurSheds$Tokens") true := ⟨_, _, _, _, kc7, by decide, rfl, rfl, Or.inl (mem_g 283 (by decide +kernel) rfl)⟩
theorem fl_X10_19 : FL RX10 19 7 1 (.object "MurmurSheds$Yard") false := ⟨_, _, _, _, kc7, by decide, rfl, rfl, Or.inl (mem_g 284 (by decide +kernel) rfl)⟩
theorem fl_X10_23 : FL RX10 23 7 2 (.object "MurmurSheds$Yard") false := ⟨_, _, _, _, kc7, by decide, rfl, rfl, Or.inl (mem_g 285 (by decide +kernel) rfl)⟩
theorem fl_X10_29 : FL RX10 29 7 3 (.object "MurmurSheds$Week") false := ⟨_, _, _, _, kc7, by decide, rfl, rfl, Or.inl (mem_g 286 (by decide +kernel) rfl)⟩
theorem fl_X10_33 : FL RX10 33 7 4 (.object "MurmurSheds$Week") false := ⟨_, _, _, _, kc7, by decide, rfl, rfl, Or.inl (mem_g 287 (by decide +kernel) rfl)⟩
theorem fl_X10_39 : FL RX10 39 7 5 (.object "MurmurSheds$Standing") true := ⟨_, _, _, _, kc7, by decide, rfl, rfl, Or.inl (mem_g 288 (by decide +kernel) rfl)⟩
theorem fl_X10_43 : FL RX10 43 7 6 (.object "MurmurSheds$Standing") true := ⟨_, _, _, _, kc7, by decide, rfl, rfl, Or.inl (mem_g 289 (by decide +kernel) rfl)⟩
theorem fl_X10_49 : FL RX10 49 7 7 (.object "MurmurSheds$Seen") true := ⟨_, _, _, _, kc7, by decide, rfl, rfl, Or.inl (mem_g 290 (by decide +kernel) rfl)⟩
theorem fl_X10_55 : FL RX10 55 7 8 (.array (.object "MurmurSheds$Mark")) true := ⟨_, _, _, _, kc7, by decide, rfl, rfl, Or.inl (mem_g 291 (by decide +kernel) rfl)⟩
theorem fl_X10_59 : FL RX10 59 7 9 (.array (.object "MurmurSheds$Standing")) true := ⟨_, _, _, _, kc7, by decide, rfl, rfl, Or.inl (mem_g 292 (by decide +kernel) rfl)⟩
theorem fl_X10_217 : FL RX10 217 7 10 .int false := ⟨_, _, _, _, kc7, by decide, rfl, rfl, Or.inl (mem_g 293 (by decide +kernel) rfl)⟩
theorem fl_X10_114 : FL RX10 114 7 11 .int false := ⟨_, _, _, _, kc7, by decide, rfl, rfl, Or.inl (mem_g 294 (by decide +kernel) rfl)⟩
theorem fl_X10_63 : FL RX10 63 7 12 (.array .int) true := ⟨_, _, _, _, kc7, by decide, rfl, rfl, Or.inl (mem_g 295 (by decide +kernel) rfl)⟩
theorem fl_X10_67 : FL RX10 67 7 13 (.array .int) true := ⟨_, _, _, _, kc7, by decide, rfl, rfl, Or.inl (mem_g 296 (by decide +kernel) rfl)⟩
theorem fl_X10_70 : FL RX10 70 7 14 (.array .int) true := ⟨_, _, _, _, kc7, by decide, rfl, rfl, Or.inl (mem_g 297 (by decide +kernel) rfl)⟩
theorem fl_X10_280 : FL RX10 280 7 15 .int false := ⟨_, _, _, _, kc7, by decide, rfl, rfl, Or.inl (mem_g 298 (by decide +kernel) rfl)⟩
theorem fl_X10_374 : FL RX10 374 7 16 .long false := ⟨_, _, _, _, kc7, by decide, rfl, rfl, Or.inl (mem_g 299 (by decide +kernel) rfl)⟩
theorem ml_L_21 : ML RL 21 yX10_feed := Or.inl (mem_g 335 (by decide +kernel) rfl)
theorem ml_X10_81 : ML RX10 81 yX10_feedWord := Or.inl (mem_g 339 (by decide +kernel) rfl)
theorem kl_X10_88 : Jvm.Cond.constantLong RX10 88 (255) ∈ lw_g := mem_g 343 (by decide +kernel) rfl
theorem ml_X10_90 : ML RX10 90 yX4_append := Or.inr ⟨"MurmurSheds", mem_n 344 (by decide +kernel) rfl⟩
theorem ml_X4_24 : ML RX4 24 yX10_within := Or.inr ⟨"MurmurSheds", mem_n 348 (by decide +kernel) rfl⟩
theorem ml_X4_32 : ML RX4 32 yX10_put := Or.inr ⟨"MurmurSheds", mem_n 351 (by decide +kernel) rfl⟩
theorem ml_L_26 : ML RL 26 yX10_yard := Or.inl (mem_g 354 (by decide +kernel) rfl)
theorem ml_X10_94 : ML RX10 94 yX9_read := Or.inr ⟨"MurmurSheds", mem_n 358 (by decide +kernel) rfl⟩
theorem ml_X9_9 : ML RX9 9 yX8_clear := Or.inr ⟨"MurmurSheds", mem_n 361 (by decide +kernel) rfl⟩
theorem ml_X8_60 : ML RX8 60 yX0_clear := Or.inr ⟨"MurmurSheds", mem_n 365 (by decide +kernel) rfl⟩
theorem ml_X9_14 : ML RX9 14 yX4_begin := Or.inr ⟨"MurmurSheds", mem_n 369 (by decide +kernel) rfl⟩
theorem ml_X4_42 : ML RX4 42 yX4_advance := Or.inl (mem_g 373 (by decide +kernel) rfl)
theorem ml_X4_45 : ML RX4 45 yX10_at := Or.inr ⟨"MurmurSheds", mem_n 377 (by decide +kernel) rfl⟩
theorem ml_X4_58 : ML RX4 58 yX4_readWord := Or.inl (mem_g 380 (by decide +kernel) rfl)
theorem kl_X4_76 : Jvm.Cond.constantLong RX4 76 (27) ∈ lw_g := mem_g 384 (by decide +kernel) rfl
theorem kl_X4_78 : Jvm.Cond.constantLong RX4 78 (97) ∈ lw_g := mem_g 385 (by decide +kernel) rfl
theorem ml_X4_61 : ML RX4 61 yX4_readNumber := Or.inl (mem_g 388 (by decide +kernel) rfl)
theorem ml_X4_66 : ML RX4 66 yJ0_indexOf_0f7a4 := Or.inl (mem_g 393 (by decide +kernel) rfl)
theorem ml_J0_633 : ML RJ0 633 yJ0_indexOf_7cf53 := Or.inl (mem_g 397 (by decide +kernel) rfl)
theorem ml_J0_492 : ML RJ0 492 yJ0_isLatin1_aae02 := Or.inl (mem_g 401 (by decide +kernel) rfl)
theorem ml_J0_505 : ML RJ0 505 yJ0_length_8abf5 := Or.inl (mem_g 407 (by decide +kernel) rfl)
theorem ml_J0_335 : ML RJ0 335 yJ0_coder_7d493 := Or.inl (mem_g 411 (by decide +kernel) rfl)
theorem ml_J0_637 : ML RJ0 637 yJ1_indexOf_4cfef := Or.inl (mem_g 415 (by decide +kernel) rfl)
theorem ml_J1_88 : ML RJ1 88 yJ1_canEncode_9a6ad := Or.inl (mem_g 418 (by decide +kernel) rfl)
theorem ml_J1_92 : ML RJ1 92 yJ9_max_7cf53 := Or.inl (mem_g 421 (by decide +kernel) rfl)
theorem ml_J1_38 : ML RJ1 38 yJ9_min_7cf53 := Or.inl (mem_g 424 (by decide +kernel) rfl)
theorem ml_J1_95 : ML RJ1 95 yJ1_indexOfChar_4cfef := Or.inl (mem_g 427 (by decide +kernel) rfl)
theorem ml_J0_640 : ML RJ0 640 yJ2_indexOf_4cfef := Or.inl (mem_g 430 (by decide +kernel) rfl)
theorem ml_J2_224 : ML RJ2 224 yJ9_max_7cf53 := Or.inl (mem_g 433 (by decide +kernel) rfl)
theorem ml_J2_183 : ML RJ2 183 yJ9_min_7cf53 := Or.inl (mem_g 434 (by decide +kernel) rfl)
theorem ki_J2_227 : Jvm.Cond.constant RJ2 227 (65536) ∈ lw_g := mem_g 435 (by decide +kernel) rfl
theorem ml_J2_228 : ML RJ2 228 yJ2_indexOfChar_4cfef := Or.inl (mem_g 436 (by decide +kernel) rfl)
theorem ml_J2_96 : ML RJ2 96 yJ2_checkBoundsBeginEnd_d044e := Or.inl (mem_g 439 (by decide +kernel) rfl)
theorem ml_J2_48 : ML RJ2 48 yJ2_length_9d52b := Or.inl (mem_g 442 (by decide +kernel) rfl)
theorem ml_J2_241 : ML RJ2 241 yJ0_checkBoundsBeginEnd_23922 := Or.inl (mem_g 445 (by decide +kernel) rfl)
theorem ml_J0_1062 : ML RJ0 1062 yJ3_checkFromToIndex_8c36e := Or.inl (mem_g 450 (by decide +kernel) rfl)
theorem ml_J2_244 : ML RJ2 244 yJ2_indexOfCharUnsafe_4cfef := Or.inl (mem_g 453 (by decide +kernel) rfl)
theorem ml_J2_71 : ML RJ2 71 yJ2_getChar_3b067 := Or.inl (mem_g 456 (by decide +kernel) rfl)
theorem ml_J2_232 : ML RJ2 232 yJ2_indexOfSupplementary_4cfef := Or.inl (mem_g 465 (by decide +kernel) rfl)
theorem ml_J2_164 : ML RJ2 164 yJ11_isValidCodePoint_9a6ad := Or.inl (mem_g 468 (by decide +kernel) rfl)
theorem ml_J2_157 : ML RJ2 157 yJ11_highSurrogate_5068e := Or.inl (mem_g 471 (by decide +kernel) rfl)
theorem ki_J11_110 : Jvm.Cond.constant RJ11 110 (55232) ∈ lw_g := mem_g 474 (by decide +kernel) rfl
theorem ml_J2_161 : ML RJ2 161 yJ11_lowSurrogate_5068e := Or.inl (mem_g 475 (by decide +kernel) rfl)
theorem ki_J11_76 : Jvm.Cond.constant RJ11 76 (56320) ∈ lw_g := mem_g 478 (by decide +kernel) rfl
theorem ml_X9_19 : ML RX9 19 yX4_goesOn := Or.inr ⟨"MurmurSheds", mem_n 479 (by decide +kernel) rfl⟩
theorem ml_X9_29 : ML RX9 29 yX4_isWord := Or.inr ⟨"MurmurSheds", mem_n 485 (by decide +kernel) rfl⟩
theorem ml_X9_33 : ML RX9 33 yX9_readShed := Or.inl (mem_g 489 (by decide +kernel) rfl)
theorem ml_X9_76 : ML RX9 76 yX4_fail := Or.inr ⟨"MurmurSheds", mem_n 492 (by decide +kernel) rfl⟩
theorem ml_X9_80 : ML RX9 80 yX4_advance := Or.inr ⟨"MurmurSheds", mem_n 496 (by decide +kernel) rfl⟩
theorem ml_X9_99 : ML RX9 99 yX4_takeNewName := Or.inr ⟨"MurmurSheds", mem_n 497 (by decide +kernel) rfl⟩
theorem ml_X4_108 : ML RX4 108 yX4_isName := Or.inl (mem_g 501 (by decide +kernel) rfl)
theorem ml_X4_96 : ML RX4 96 yX4_fail := Or.inl (mem_g 505 (by decide +kernel) rfl)
theorem ml_X4_111 : ML RX4 111 yX8_shedNamed := Or.inr ⟨"MurmurSheds", mem_n 506 (by decide +kernel) rfl⟩
theorem ml_X8_81 : ML RX8 81 yX10_at_ := Or.inr ⟨"MurmurSheds", mem_n 510 (by decide +kernel) rfl⟩
theorem ml_X4_117 : ML RX4 117 yX8_hasStageNamed := Or.inr ⟨"MurmurSheds", mem_n 513 (by decide +kernel) rfl⟩
theorem ml_X9_103 : ML RX9 103 yX9_takeKind := Or.inl (mem_g 517 (by decide +kernel) rfl)
theorem ml_X9_110 : ML RX9 110 yX4_takeWord := Or.inr ⟨"MurmurSheds", mem_n 530 (by decide +kernel) rfl⟩
theorem ml_X4_92 : ML RX4 92 yX4_isWord := Or.inl (mem_g 534 (by decide +kernel) rfl)
theorem ml_X9_114 : ML RX9 114 yX4_takeNumber := Or.inr ⟨"MurmurSheds", mem_n 535 (by decide +kernel) rfl⟩
theorem ml_X4_104 : ML RX4 104 yX4_isNumber := Or.inl (mem_g 539 (by decide +kernel) rfl)
theorem ml_X9_121 : ML RX9 121 yX8_addShed := Or.inr ⟨"MurmurSheds", mem_n 545 (by decide +kernel) rfl⟩
theorem ml_X8_70 : ML RX8 70 yX10_put_ := Or.inr ⟨"MurmurSheds", mem_n 549 (by decide +kernel) rfl⟩
theorem ml_X8_74 : ML RX8 74 yX10_put := Or.inr ⟨"MurmurSheds", mem_n 552 (by decide +kernel) rfl⟩
theorem ml_X9_42 : ML RX9 42 yX9_readNear := Or.inl (mem_g 555 (by decide +kernel) rfl)
theorem ml_X9_137 : ML RX9 137 yX4_shedHere := Or.inr ⟨"MurmurSheds", mem_n 558 (by decide +kernel) rfl⟩
theorem ml_X9_141 : ML RX9 141 yX8_areNear := Or.inr ⟨"MurmurSheds", mem_n 562 (by decide +kernel) rfl⟩
theorem ml_X8_77 : ML RX8 77 yX10_at := Or.inr ⟨"MurmurSheds", mem_n 566 (by decide +kernel) rfl⟩
theorem ml_X9_145 : ML RX9 145 yX8_addNear := Or.inr ⟨"MurmurSheds", mem_n 567 (by decide +kernel) rfl⟩
theorem ml_X9_48 : ML RX9 48 yX9_readStage := Or.inl (mem_g 573 (by decide +kernel) rfl)
theorem ml_X9_158 : ML RX9 158 yX8_addStage := Or.inr ⟨"MurmurSheds", mem_n 580 (by decide +kernel) rfl⟩
theorem ml_X9_54 : ML RX9 54 yX9_readFrost := Or.inl (mem_g 586 (by decide +kernel) rfl)
theorem ml_X9_165 : ML RX9 165 yX8_addFrost := Or.inr ⟨"MurmurSheds", mem_n 589 (by decide +kernel) rfl⟩
theorem ml_X9_168 : ML RX9 168 yX4_isNumber := Or.inr ⟨"MurmurSheds", mem_n 593 (by decide +kernel) rfl⟩
theorem ml_X9_174 : ML RX9 174 yX10_within := Or.inr ⟨"MurmurSheds", mem_n 594 (by decide +kernel) rfl⟩
theorem ml_X9_60 : ML RX9 60 yX9_readRoof := Or.inl (mem_g 597 (by decide +kernel) rfl)
theorem ml_X9_83 : ML RX9 83 yX9_readLaw := Or.inl (mem_g 602 (by decide +kernel) rfl)
theorem ml_X9_181 : ML RX9 181 yX9_readPart := Or.inl (mem_g 605 (by decide +kernel) rfl)
theorem ml_X9_202 : ML RX9 202 yX9_leafHere := Or.inl (mem_g 608 (by decide +kernel) rfl)
theorem ml_X9_198 : ML RX9 198 yX4_isSign := Or.inr ⟨"MurmurSheds", mem_n 621 (by decide +kernel) rfl⟩
theorem ml_X9_189 : ML RX9 189 yX0_add := Or.inr ⟨"MurmurSheds", mem_n 625 (by decide +kernel) rfl⟩
theorem ml_X0_25 : ML RX0 25 yX10_put := Or.inr ⟨"MurmurSheds", mem_n 629 (by decide +kernel) rfl⟩
theorem ml_X9_87 : ML RX9 87 yX4_takeSign := Or.inr ⟨"MurmurSheds", mem_n 630 (by decide +kernel) rfl⟩
theorem ml_X4_100 : ML RX4 100 yX4_isSign := Or.inl (mem_g 634 (by decide +kernel) rfl)
theorem ml_X9_185 : ML RX9 185 yX9_joinerHere := Or.inl (mem_g 635 (by decide +kernel) rfl)
theorem ml_X9_90 : ML RX9 90 yX8_fillUp := Or.inr ⟨"MurmurSheds", mem_n 642 (by decide +kernel) rfl⟩
theorem ml_X8_66 : ML RX8 66 yX0_add := Or.inr ⟨"MurmurSheds", mem_n 646 (by decide +kernel) rfl⟩
theorem ml_X10_100 : ML RX10 100 yX4_empty := Or.inr ⟨"MurmurSheds", mem_n 647 (by decide +kernel) rfl⟩
theorem ml_X10_103 : ML RX10 103 yX10_beginYard := Or.inl (mem_g 651 (by decide +kernel) rfl)
theorem ml_X10_106 : ML RX10 106 yX3_begin := Or.inr ⟨"MurmurSheds", mem_n 655 (by decide +kernel) rfl⟩
theorem ml_X3_44 : ML RX3 44 yX10_copyRow := Or.inr ⟨"MurmurSheds", mem_n 659 (by decide +kernel) rfl⟩
theorem ml_X3_49 : ML RX3 49 yX10_put := Or.inr ⟨"MurmurSheds", mem_n 662 (by decide +kernel) rfl⟩
theorem ml_X10_110 : ML RX10 110 yX5_clear := Or.inr ⟨"MurmurSheds", mem_n 663 (by decide +kernel) rfl⟩
theorem ml_X10_113 : ML RX10 113 yX2_clear := Or.inr ⟨"MurmurSheds", mem_n 667 (by decide +kernel) rfl⟩
theorem ml_X10_117 : ML RX10 117 yX10_markAt := Or.inl (mem_g 671 (by decide +kernel) rfl)
theorem ml_L_31 : ML RL 31 yX10_week := Or.inl (mem_g 676 (by decide +kernel) rfl)
theorem ml_X10_125 : ML RX10 125 yX6_read := Or.inr ⟨"MurmurSheds", mem_n 680 (by decide +kernel) rfl⟩
theorem ml_X6_9 : ML RX6 9 yX5_clear := Or.inr ⟨"MurmurSheds", mem_n 683 (by decide +kernel) rfl⟩
theorem ml_X6_14 : ML RX6 14 yX4_begin := Or.inr ⟨"MurmurSheds", mem_n 684 (by decide +kernel) rfl⟩
theorem ml_X6_19 : ML RX6 19 yX4_goesOn := Or.inr ⟨"MurmurSheds", mem_n 685 (by decide +kernel) rfl⟩
theorem ml_X6_23 : ML RX6 23 yX6_readLine := Or.inl (mem_g 686 (by decide +kernel) rfl)
theorem ml_X6_37 : ML RX6 37 yX6_deedHere := Or.inl (mem_g 689 (by decide +kernel) rfl)
theorem ml_X6_68 : ML RX6 68 yX4_isWord := Or.inr ⟨"MurmurSheds", mem_n 694 (by decide +kernel) rfl⟩
theorem ml_X6_41 : ML RX6 41 yX4_fail := Or.inr ⟨"MurmurSheds", mem_n 700 (by decide +kernel) rfl⟩
theorem ml_X6_47 : ML RX6 47 yX4_advance := Or.inr ⟨"MurmurSheds", mem_n 701 (by decide +kernel) rfl⟩
theorem ml_X6_50 : ML RX6 50 yX4_shedHere := Or.inr ⟨"MurmurSheds", mem_n 702 (by decide +kernel) rfl⟩
theorem ml_X6_54 : ML RX6 54 yX4_takeNumber := Or.inr ⟨"MurmurSheds", mem_n 703 (by decide +kernel) rfl⟩
theorem ml_X6_58 : ML RX6 58 yX5_add := Or.inr ⟨"MurmurSheds", mem_n 704 (by decide +kernel) rfl⟩
theorem ml_X5_25 : ML RX5 25 yX10_put := Or.inr ⟨"MurmurSheds", mem_n 708 (by decide +kernel) rfl⟩
theorem ml_X6_29 : ML RX6 29 yX4_takeSign := Or.inr ⟨"MurmurSheds", mem_n 709 (by decide +kernel) rfl⟩
theorem ml_L_35 : ML RL 35 yX10_shed := Or.inl (mem_g 710 (by decide +kernel) rfl)
theorem ml_X10_130 : ML RX10 130 yX10_isShed := Or.inl (mem_g 714 (by decide +kernel) rfl)
theorem ml_X10_137 : ML RX10 137 yX10_at := Or.inl (mem_g 718 (by decide +kernel) rfl)
theorem ml_X10_150 : ML RX10 150 yX3_isLit := Or.inr ⟨"MurmurSheds", mem_n 719 (by decide +kernel) rfl⟩
theorem ml_X10_156 : ML RX10 156 yX3_murmur := Or.inr ⟨"MurmurSheds", mem_n 723 (by decide +kernel) rfl⟩
theorem ml_X3_53 : ML RX3 53 yX10_at := Or.inr ⟨"MurmurSheds", mem_n 727 (by decide +kernel) rfl⟩
theorem ml_X3_105 : ML RX3 105 yX3_murmurOf := Or.inl (mem_g 728 (by decide +kernel) rfl)
theorem ml_X3_85 : ML RX3 85 yJ9_min_7cf53 := Or.inl (mem_g 731 (by decide +kernel) rfl)
theorem ml_L_40 : ML RL 40 yX10_stage := Or.inl (mem_g 732 (by decide +kernel) rfl)
theorem ml_X10_160 : ML RX10 160 yX10_isStage := Or.inl (mem_g 736 (by decide +kernel) rfl)
theorem ml_L_191 : ML RL 191 yX10_count := Or.inl (mem_g 740 (by decide +kernel) rfl)
theorem ml_X10_172 : ML RX10 172 yX8_frostOf := Or.inr ⟨"MurmurSheds", mem_n 744 (by decide +kernel) rfl⟩
theorem ml_X10_178 : ML RX10 178 yX3_crownsOfAll := Or.inr ⟨"MurmurSheds", mem_n 748 (by decide +kernel) rfl⟩
theorem ml_X10_185 : ML RX10 185 yX10_riots := Or.inl (mem_g 752 (by decide +kernel) rfl)
theorem ml_L_44 : ML RL 44 yX10_night := Or.inl (mem_g 756 (by decide +kernel) rfl)
theorem ml_X10_192 : ML RX10 192 yX10_remember := Or.inl (mem_g 760 (by decide +kernel) rfl)
theorem ml_X10_220 : ML RX10 220 yX10_pastAt := Or.inl (mem_g 764 (by decide +kernel) rfl)
theorem ml_X10_224 : ML RX10 224 yX3_copyFrom := Or.inr ⟨"MurmurSheds", mem_n 768 (by decide +kernel) rfl⟩
theorem ml_X10_228 : ML RX10 228 yJ9_min_7cf53 := Or.inl (mem_g 772 (by decide +kernel) rfl)
theorem ml_X10_195 : ML RX10 195 yX3_pass := Or.inr ⟨"MurmurSheds", mem_n 773 (by decide +kernel) rfl⟩
theorem ml_X3_57 : ML RX3 57 yX3_growth := Or.inl (mem_g 777 (by decide +kernel) rfl)
theorem ml_X3_65 : ML RX3 65 yX3_isLit := Or.inl (mem_g 781 (by decide +kernel) rfl)
theorem ml_X3_69 : ML RX3 69 yJ9_max_7cf53 := Or.inl (mem_g 782 (by decide +kernel) rfl)
theorem ml_X3_79 : ML RX3 79 yX0_amount := Or.inr ⟨"MurmurSheds", mem_n 783 (by decide +kernel) rfl⟩
theorem ml_X0_29 : ML RX0 29 yX10_at := Or.inr ⟨"MurmurSheds", mem_n 787 (by decide +kernel) rfl⟩
theorem ml_X0_33 : ML RX0 33 yX0_joined := Or.inl (mem_g 788 (by decide +kernel) rfl)
theorem ml_X3_94 : ML RX3 94 yX3_greaterNear := Or.inl (mem_g 791 (by decide +kernel) rfl)
theorem ml_X3_61 : ML RX3 61 yX3_passOnHearsay := Or.inl (mem_g 795 (by decide +kernel) rfl)
theorem ml_X3_101 : ML RX3 101 yX8_areNear := Or.inr ⟨"MurmurSheds", mem_n 799 (by decide +kernel) rfl⟩
theorem ml_L_48 : ML RL 48 yX10_heat := Or.inl (mem_g 800 (by decide +kernel) rfl)
theorem ml_X10_199 : ML RX10 199 yX10_within := Or.inl (mem_g 804 (by decide +kernel) rfl)
theorem ml_X10_203 : ML RX10 203 yX3_heatTo := Or.inr ⟨"MurmurSheds", mem_n 805 (by decide +kernel) rfl⟩
theorem ml_L_52 : ML RL 52 yX10_light := Or.inl (mem_g 809 (by decide +kernel) rfl)
theorem ml_X10_207 : ML RX10 207 yX3_lightUp := Or.inr ⟨"MurmurSheds", mem_n 813 (by decide +kernel) rfl⟩
theorem ml_L_57 : ML RL 57 yX10_pull := Or.inl (mem_g 817 (by decide +kernel) rfl)
theorem ml_X10_210 : ML RX10 210 yX3_canLose := Or.inr ⟨"MurmurSheds", mem_n 821 (by decide +kernel) rfl⟩
theorem ml_X10_214 : ML RX10 214 yX3_lose := Or.inr ⟨"MurmurSheds", mem_n 825 (by decide +kernel) rfl⟩
theorem ml_L_61 : ML RL 61 yX10_undo := Or.inl (mem_g 829 (by decide +kernel) rfl)
theorem ml_L_186 : ML RL 186 yX10_mark := Or.inl (mem_g 833 (by decide +kernel) rfl)
theorem ml_X10_238 : ML RX10 238 yX5_copyFrom := Or.inr ⟨"MurmurSheds", mem_n 837 (by decide +kernel) rfl⟩
theorem ml_X5_29 : ML RX5 29 yX10_copyRow := Or.inr ⟨"MurmurSheds", mem_n 841 (by decide +kernel) rfl⟩
theorem ml_X10_242 : ML RX10 242 yX2_copyFrom := Or.inr ⟨"MurmurSheds", mem_n 842 (by decide +kernel) rfl⟩
theorem ml_X2_29 : ML RX2 29 yX10_copyRow := Or.inr ⟨"MurmurSheds", mem_n 846 (by decide +kernel) rfl⟩
theorem ml_L_66 : ML RL 66 yX10_judged := Or.inl (mem_g 847 (by decide +kernel) rfl)
theorem ml_X10_245 : ML RX10 245 yX5_carryOut := Or.inr ⟨"MurmurSheds", mem_n 851 (by decide +kernel) rfl⟩
theorem ml_X5_33 : ML RX5 33 yX10_at := Or.inr ⟨"MurmurSheds", mem_n 855 (by decide +kernel) rfl⟩
theorem ml_X5_42 : ML RX5 42 yX8_frostOf := Or.inr ⟨"MurmurSheds", mem_n 856 (by decide +kernel) rfl⟩
theorem ml_X5_48 : ML RX5 48 yX3_pass := Or.inr ⟨"MurmurSheds", mem_n 857 (by decide +kernel) rfl⟩
theorem ml_X5_52 : ML RX5 52 yX3_heatTo := Or.inr ⟨"MurmurSheds", mem_n 858 (by decide +kernel) rfl⟩
theorem ml_X5_56 : ML RX5 56 yX3_lightUp := Or.inr ⟨"MurmurSheds", mem_n 859 (by decide +kernel) rfl⟩
theorem ml_X5_60 : ML RX5 60 yX3_canLose := Or.inr ⟨"MurmurSheds", mem_n 860 (by decide +kernel) rfl⟩
theorem ml_X5_64 : ML RX5 64 yX3_lose := Or.inr ⟨"MurmurSheds", mem_n 861 (by decide +kernel) rfl⟩
theorem ml_L_71 : ML RL 71 yX10_later := Or.inl (mem_g 862 (by decide +kernel) rfl)
theorem ml_X10_255 : ML RX10 255 yX10_tryNights := Or.inl (mem_g 866 (by decide +kernel) rfl)
theorem ml_X10_249 : ML RX10 249 yX10_beginTrial := Or.inl (mem_g 870 (by decide +kernel) rfl)
theorem ml_X10_252 : ML RX10 252 yX10_passTrial := Or.inl (mem_g 874 (by decide +kernel) rfl)
theorem ml_L_75 : ML RL 75 yX10_creak := Or.inl (mem_g 878 (by decide +kernel) rfl)
theorem ml_L_79 : ML RL 79 yX10_pops := Or.inl (mem_g 882 (by decide +kernel) rfl)
theorem ml_L_83 : ML RL 83 yX10_first := Or.inl (mem_g 886 (by decide +kernel) rfl)
theorem ml_X10_261 : ML RX10 261 yX10_lowest := Or.inl (mem_g 890 (by decide +kernel) rfl)
theorem ml_L_87 : ML RL 87 yX10_riot := Or.inl (mem_g 893 (by decide +kernel) rfl)
theorem ml_L_91 : ML RL 91 yX10_calm := Or.inl (mem_g 897 (by decide +kernel) rfl)
theorem ml_X10_264 : ML RX10 264 yX3_murmurOf := Or.inr ⟨"MurmurSheds", mem_n 901 (by decide +kernel) rfl⟩
theorem ml_L_95 : ML RL 95 yX10_roofed := Or.inl (mem_g 902 (by decide +kernel) rfl)
theorem ml_X10_267 : ML RX10 267 yX3_allAtRoof := Or.inr ⟨"MurmurSheds", mem_n 906 (by decide +kernel) rfl⟩
theorem ml_L_148 : ML RL 148 yX10_yields := Or.inl (mem_g 910 (by decide +kernel) rfl)
theorem ml_X10_270 : ML RX10 270 yX3_murmursOfAll := Or.inr ⟨"MurmurSheds", mem_n 914 (by decide +kernel) rfl⟩
theorem ml_X3_108 : ML RX3 108 yX3_murmur := Or.inl (mem_g 918 (by decide +kernel) rfl)
theorem ml_L_140 : ML RL 140 yX10_loud := Or.inl (mem_g 919 (by decide +kernel) rfl)
theorem ml_L_144 : ML RL 144 yX10_tall := Or.inl (mem_g 923 (by decide +kernel) rfl)
theorem ml_L_99 : ML RL 99 yX10_had := Or.inl (mem_g 927 (by decide +kernel) rfl)
theorem ml_X10_276 : ML RX10 276 yX10_hadIn := Or.inl (mem_g 931 (by decide +kernel) rfl)
theorem ml_X10_273 : ML RX10 273 yX8_suits := Or.inr ⟨"MurmurSheds", mem_n 935 (by decide +kernel) rfl⟩
theorem ml_X8_84 : ML RX8 84 yX10_within := Or.inr ⟨"MurmurSheds", mem_n 939 (by decide +kernel) rfl⟩
theorem ml_L_103 : ML RL 103 yX10_waits := Or.inl (mem_g 940 (by decide +kernel) rfl)
theorem ml_L_107 : ML RL 107 yX10_plays := Or.inl (mem_g 944 (by decide +kernel) rfl)
theorem ml_X10_283 : ML RX10 283 yX10_giveFrom := Or.inl (mem_g 948 (by decide +kernel) rfl)
theorem ml_X10_287 : ML RX10 287 yX10_copyRow := Or.inl (mem_g 952 (by decide +kernel) rfl)
theorem ml_X10_291 : ML RX10 291 yX10_giveEach := Or.inl (mem_g 953 (by decide +kernel) rfl)
theorem ml_X10_294 : ML RX10 294 yX10_put := Or.inl (mem_g 957 (by decide +kernel) rfl)
theorem ml_L_111 : ML RL 111 yX10_blend := Or.inl (mem_g 958 (by decide +kernel) rfl)
theorem ml_X10_298 : ML RX10 298 yJ6_bitCount_0f7a4 := Or.inl (mem_g 962 (by decide +kernel) rfl)
theorem ki_J6_265 : Jvm.Cond.constant RJ6 265 (1431655765) ∈ lw_g := mem_g 965 (by decide +kernel) rfl
theorem ki_J6_266 : Jvm.Cond.constant RJ6 266 (858993459) ∈ lw_g := mem_g 966 (by decide +kernel) rfl
theorem ki_J6_267 : Jvm.Cond.constant RJ6 267 (252645135) ∈ lw_g := mem_g 967 (by decide +kernel) rfl
theorem ml_X10_303 : ML RX10 303 yX10_blends := Or.inl (mem_g 968 (by decide +kernel) rfl)
theorem ml_L_115 : ML RL 115 yX10_aim := Or.inl (mem_g 972 (by decide +kernel) rfl)
theorem ml_X10_306 : ML RX10 306 yX10_comesInTime := Or.inl (mem_g 976 (by decide +kernel) rfl)
theorem ml_L_120 : ML RL 120 yX10_reach := Or.inl (mem_g 980 (by decide +kernel) rfl)
theorem ml_X10_313 : ML RX10 313 yX10_reachOf := Or.inl (mem_g 984 (by decide +kernel) rfl)
theorem ml_X10_310 : ML RX10 310 yX8_withNear := Or.inr ⟨"MurmurSheds", mem_n 988 (by decide +kernel) rfl⟩
theorem ml_L_124 : ML RL 124 yX10_far := Or.inl (mem_g 992 (by decide +kernel) rfl)
theorem ml_L_128 : ML RL 128 yX10_parts := Or.inl (mem_g 996 (by decide +kernel) rfl)
theorem ml_L_132 : ML RL 132 yX10_heard := Or.inl (mem_g 1000 (by decide +kernel) rfl)
theorem ml_L_136 : ML RL 136 yX10_news := Or.inl (mem_g 1004 (by decide +kernel) rfl)
theorem ml_X10_319 : ML RX10 319 yX10_allHaveHeard := Or.inl (mem_g 1008 (by decide +kernel) rfl)
theorem ml_L_152 : ML RL 152 yX10_see := Or.inl (mem_g 1012 (by decide +kernel) rfl)
theorem ml_X10_323 : ML RX10 323 yX2_add := Or.inr ⟨"MurmurSheds", mem_n 1016 (by decide +kernel) rfl⟩
theorem ml_X2_25 : ML RX2 25 yX10_put := Or.inr ⟨"MurmurSheds", mem_n 1020 (by decide +kernel) rfl⟩
theorem ml_L_157 : ML RL 157 yX10_who := Or.inl (mem_g 1021 (by decide +kernel) rfl)
theorem ml_X10_327 : ML RX10 327 yX10_listen := Or.inl (mem_g 1025 (by decide +kernel) rfl)
theorem ml_X10_330 : ML RX10 330 yX10_suspects := Or.inl (mem_g 1029 (by decide +kernel) rfl)
theorem ml_X10_333 : ML RX10 333 yX10_isSuspect := Or.inl (mem_g 1033 (by decide +kernel) rfl)
theorem ml_X10_338 : ML RX10 338 yX10_creakAhead := Or.inl (mem_g 1037 (by decide +kernel) rfl)
theorem ml_L_161 : ML RL 161 yX10_ask := Or.inl (mem_g 1041 (by decide +kernel) rfl)
theorem ml_X10_347 : ML RX10 347 yX10_creaking := Or.inl (mem_g 1045 (by decide +kernel) rfl)
theorem ml_X10_351 : ML RX10 351 yJ9_max_7cf53 := Or.inl (mem_g 1049 (by decide +kernel) rfl)
theorem ml_L_165 : ML RL 165 yX10_stick := Or.inl (mem_g 1050 (by decide +kernel) rfl)
theorem ml_L_169 : ML RL 169 yX10_chance := Or.inl (mem_g 1054 (by decide +kernel) rfl)
theorem ml_X10_354 : ML RX10 354 yX10_likelihoodAtRoof := Or.inl (mem_g 1058 (by decide +kernel) rfl)
theorem ml_L_182 : ML RL 182 yX10_weeks := Or.inl (mem_g 1062 (by decide +kernel) rfl)
theorem ml_X10_378 : ML RX10 378 yX10_meddle := Or.inl (mem_g 1066 (by decide +kernel) rfl)
theorem ml_X10_381 : ML RX10 381 yX10_draw := Or.inl (mem_g 1070 (by decide +kernel) rfl)
theorem kl_X10_384 : Jvm.Cond.constantLong RX10 384 (1103515245) ∈ lw_g := mem_g 1074 (by decide +kernel) rfl
theorem kl_X10_386 : Jvm.Cond.constantLong RX10 386 (12345) ∈ lw_g := mem_g 1075 (by decide +kernel) rfl
theorem kl_X10_388 : Jvm.Cond.constantLong RX10 388 (2147483648) ∈ lw_g := mem_g 1076 (by decide +kernel) rfl
theorem kl_X10_390 : Jvm.Cond.constantLong RX10 390 (65536) ∈ lw_g := mem_g 1077 (by decide +kernel) rfl
theorem ml_L_173 : ML RL 173 yL_rests := Or.inl (mem_g 1078 (by decide +kernel) rfl)
theorem ml_L_7 : ML RL 7 yX10_rests := Or.inl (mem_g 1082 (by decide +kernel) rfl)
theorem ml_X10_365 : ML RX10 365 yX10_isAtRest := Or.inl (mem_g 1151 (by decide +kernel) rfl)
theorem ml_X10_370 : ML RX10 370 yX10_keeps := Or.inl (mem_g 1154 (by decide +kernel) rfl)
theorem ml_L_18 : ML RL 18 yX11_init := Or.inl (mem_g 1160 (by decide +kernel) rfl)
theorem ml_X11_150 : ML RX11 150 yX11_fresh0 := Or.inl (mem_g 1164 (by decide +kernel) rfl)
theorem fl_X11_153 : FL RX11 153 8 0 .int false := ⟨_, _, _, _, kc8, by decide, rfl, rfl, Or.inl (mem_g 1168 (by decide +kernel) rfl)⟩
theorem fl_X11_159 : FL RX11 159 8 1 .int false := ⟨_, _, _, _, kc8, by decide, rfl, rfl, Or.inl (mem_g 1169 (by decide +kernel) rfl)⟩
theorem fl_X11_7 : FL RX11 7 8 2 (.array .int) true := ⟨_, _, _, _, kc8, by decide, rfl, rfl, Or.inl (mem_g 1170 (by decide +kernel) rfl)⟩
theorem fl_X11_162 : FL RX11 162 8 3 .int false := ⟨_, _, _, _, kc8, by decide, rfl, rfl, Or.inl (mem_g 1171 (by decide +kernel) rfl)⟩
theorem fl_X11_165 : FL RX11 165 8 4 .int false := ⟨_, _, _, _, kc8, by decide, rfl, rfl, Or.inl (mem_g 1172 (by decide +kernel) rfl)⟩
theorem fl_X11_168 : FL RX11 168 8 5 .int false := ⟨_, _, _, _, kc8, by decide, rfl, rfl, Or.inl (mem_g 1173 (by decide +kernel) rfl)⟩
theorem fl_X11_178 : FL RX11 178 8 6 .int false := ⟨_, _, _, _, kc8, by decide, rfl, rfl, Or.inl (mem_g 1174 (by decide +kernel) rfl)⟩
theorem fl_X11_171 : FL RX11 171 8 7 .long false := ⟨_, _, _, _, kc8, by decide, rfl, rfl, Or.inl (mem_g 1175 (by decide +kernel) rfl)⟩
theorem fl_X11_175 : FL RX11 175 8 8 .int false := ⟨_, _, _, _, kc8, by decide, rfl, rfl, Or.inl (mem_g 1176 (by decide +kernel) rfl)⟩
theorem fl_X11_189 : FL RX11 189 8 9 .int false := ⟨_, _, _, _, kc8, by decide, rfl, rfl, Or.inl (mem_g 1177 (by decide +kernel) rfl)⟩
theorem fl_X11_13 : FL RX11 13 8 10 (.array .int) true := ⟨_, _, _, _, kc8, by decide, rfl, rfl, Or.inl (mem_g 1178 (by decide +kernel) rfl)⟩
theorem fl_X11_16 : FL RX11 16 8 11 (.array .long) true := ⟨_, _, _, _, kc8, by decide, rfl, rfl, Or.inl (mem_g 1179 (by decide +kernel) rfl)⟩
theorem fl_X11_20 : FL RX11 20 8 12 (.array .long) true := ⟨_, _, _, _, kc8, by decide, rfl, rfl, Or.inl (mem_g 1180 (by decide +kernel) rfl)⟩
theorem fl_X11_23 : FL RX11 23 8 13 (.array .int) true := ⟨_, _, _, _, kc8, by decide, rfl, rfl, Or.inl (mem_g 1181 (by decide +kernel) rfl)⟩
theorem fl_X11_26 : FL RX11 26 8 14 (.array .int) true := ⟨_, _, _, _, kc8, by decide, rfl, rfl, Or.inl (mem_g 1182 (by decide +kernel) rfl)⟩
theorem fl_X11_29 : FL RX11 29 8 15 (.array .int) true := ⟨_, _, _, _, kc8, by decide, rfl, rfl, Or.inl (mem_g 1183 (by decide +kernel) rfl)⟩
theorem fl_X11_32 : FL RX11 32 8 16 (.array .int) true := ⟨_, _, _, _, kc8, by decide, rfl, rfl, Or.inl (mem_g 1184 (by decide +kernel) rfl)⟩
theorem fl_X11_35 : FL RX11 35 8 17 (.array .int) true := ⟨_, _, _, _, kc8, by decide, rfl, rfl, Or.inl (mem_g 1185 (by decide +kernel) rfl)⟩
theorem fl_X11_38 : FL RX11 38 8 18 (.array .int) true := ⟨_, _, _, _, kc8, by decide, rfl, rfl, Or.inl (mem_g 1186 (by decide +kernel) rfl)⟩
theorem fl_X11_41 : FL RX11 41 8 19 (.array .int) true := ⟨_, _, _, _, kc8, by decide, rfl, rfl, Or.inl (mem_g 1187 (by decide +kernel) rfl)⟩
theorem fl_X11_44 : FL RX11 44 8 20 (.array .int) true := ⟨_, _, _, _, kc8, by decide, rfl, rfl, Or.inl (mem_g 1188 (by decide +kernel) rfl)⟩
theorem fl_X11_47 : FL RX11 47 8 21 (.array .int) true := ⟨_, _, _, _, kc8, by decide, rfl, rfl, Or.inl (mem_g 1189 (by decide +kernel) rfl)⟩
theorem fl_X11_50 : FL RX11 50 8 22 (.array .int) true := ⟨_, _, _, _, kc8, by decide, rfl, rfl, Or.inl (mem_g 1190 (by decide +kernel) rfl)⟩
theorem fl_X11_192 : FL RX11 192 8 23 .int false := ⟨_, _, _, _, kc8, by decide, rfl, rfl, Or.inl (mem_g 1191 (by decide +kernel) rfl)⟩
theorem fl_X11_311 : FL RX11 311 8 24 .boolean false := ⟨_, _, _, _, kc8, by decide, rfl, rfl, Or.inl (mem_g 1192 (by decide +kernel) rfl)⟩
theorem fl_X11_53 : FL RX11 53 8 25 (.array .int) true := ⟨_, _, _, _, kc8, by decide, rfl, rfl, Or.inl (mem_g 1193 (by decide +kernel) rfl)⟩
theorem fl_X11_56 : FL RX11 56 8 26 (.array .boolean) true := ⟨_, _, _, _, kc8, by decide, rfl, rfl, Or.inl (mem_g 1194 (by decide +kernel) rfl)⟩
theorem fl_X11_60 : FL RX11 60 8 27 (.array .int) true := ⟨_, _, _, _, kc8, by decide, rfl, rfl, Or.inl (mem_g 1195 (by decide +kernel) rfl)⟩
theorem fl_X11_63 : FL RX11 63 8 28 (.array .int) true := ⟨_, _, _, _, kc8, by decide, rfl, rfl, Or.inl (mem_g 1196 (by decide +kernel) rfl)⟩
theorem fl_X11_66 : FL RX11 66 8 29 (.array .int) true := ⟨_, _, _, _, kc8, by decide, rfl, rfl, Or.inl (mem_g 1197 (by decide +kernel) rfl)⟩
theorem fl_X11_69 : FL RX11 69 8 30 (.array .int) true := ⟨_, _, _, _, kc8, by decide, rfl, rfl, Or.inl (mem_g 1198 (by decide +kernel) rfl)⟩
theorem fl_X11_72 : FL RX11 72 8 31 (.array .int) true := ⟨_, _, _, _, kc8, by decide, rfl, rfl, Or.inl (mem_g 1199 (by decide +kernel) rfl)⟩
theorem fl_X11_75 : FL RX11 75 8 32 (.array .int) true := ⟨_, _, _, _, kc8, by decide, rfl, rfl, Or.inl (mem_g 1200 (by decide +kernel) rfl)⟩
theorem fl_X11_78 : FL RX11 78 8 33 (.array .int) true := ⟨_, _, _, _, kc8, by decide, rfl, rfl, Or.inl (mem_g 1201 (by decide +kernel) rfl)⟩
theorem fl_X11_81 : FL RX11 81 8 34 (.array .int) true := ⟨_, _, _, _, kc8, by decide, rfl, rfl, Or.inl (mem_g 1202 (by decide +kernel) rfl)⟩
theorem fl_X11_84 : FL RX11 84 8 35 (.array .int) true := ⟨_, _, _, _, kc8, by decide, rfl, rfl, Or.inl (mem_g 1203 (by decide +kernel) rfl)⟩
theorem fl_X11_87 : FL RX11 87 8 36 (.array .int) true := ⟨_, _, _, _, kc8, by decide, rfl, rfl, Or.inl (mem_g 1204 (by decide +kernel) rfl)⟩
theorem fl_X11_278 : FL RX11 278 8 37 .int false := ⟨_, _, _, _, kc8, by decide, rfl, rfl, Or.inl (mem_g 1205 (by decide +kernel) rfl)⟩
theorem fl_X11_295 : FL RX11 295 8 38 .long false := ⟨_, _, _, _, kc8, by decide, rfl, rfl, Or.inl (mem_g 1206 (by decide +kernel) rfl)⟩
theorem fl_X11_90 : FL RX11 90 8 39 (.array .int) true := ⟨_, _, _, _, kc8, by decide, rfl, rfl, Or.inl (mem_g 1207 (by decide +kernel) rfl)⟩
theorem fl_X11_93 : FL RX11 93 8 40 (.array .int) true := ⟨_, _, _, _, kc8, by decide, rfl, rfl, Or.inl (mem_g 1208 (by decide +kernel) rfl)⟩
theorem fl_X11_96 : FL RX11 96 8 41 (.array .int) true := ⟨_, _, _, _, kc8, by decide, rfl, rfl, Or.inl (mem_g 1209 (by decide +kernel) rfl)⟩
theorem fl_X11_99 : FL RX11 99 8 42 (.array .int) true := ⟨_, _, _, _, kc8, by decide, rfl, rfl, Or.inl (mem_g 1210 (by decide +kernel) rfl)⟩
theorem fl_X11_102 : FL RX11 102 8 43 (.array .int) true := ⟨_, _, _, _, kc8, by decide, rfl, rfl, Or.inl (mem_g 1211 (by decide +kernel) rfl)⟩
theorem fl_X11_105 : FL RX11 105 8 44 (.array .int) true := ⟨_, _, _, _, kc8, by decide, rfl, rfl, Or.inl (mem_g 1212 (by decide +kernel) rfl)⟩
theorem fl_X11_108 : FL RX11 108 8 45 (.array .int) true := ⟨_, _, _, _, kc8, by decide, rfl, rfl, Or.inl (mem_g 1213 (by decide +kernel) rfl)⟩
theorem fl_X11_111 : FL RX11 111 8 46 (.array .boolean) true := ⟨_, _, _, _, kc8, by decide, rfl, rfl, Or.inl (mem_g 1214 (by decide +kernel) rfl)⟩
theorem fl_X11_114 : FL RX11 114 8 47 (.array .int) true := ⟨_, _, _, _, kc8, by decide, rfl, rfl, Or.inl (mem_g 1215 (by decide +kernel) rfl)⟩
theorem fl_X11_117 : FL RX11 117 8 48 (.array .int) true := ⟨_, _, _, _, kc8, by decide, rfl, rfl, Or.inl (mem_g 1216 (by decide +kernel) rfl)⟩
theorem fl_X11_120 : FL RX11 120 8 49 (.array .int) true := ⟨_, _, _, _, kc8, by decide, rfl, rfl, Or.inl (mem_g 1217 (by decide +kernel) rfl)⟩
theorem fl_X11_123 : FL RX11 123 8 50 (.array .int) true := ⟨_, _, _, _, kc8, by decide, rfl, rfl, Or.inl (mem_g 1218 (by decide +kernel) rfl)⟩
theorem fl_X11_126 : FL RX11 126 8 51 (.array .int) true := ⟨_, _, _, _, kc8, by decide, rfl, rfl, Or.inl (mem_g 1219 (by decide +kernel) rfl)⟩
theorem fl_X11_129 : FL RX11 129 8 52 (.array .int) true := ⟨_, _, _, _, kc8, by decide, rfl, rfl, Or.inl (mem_g 1220 (by decide +kernel) rfl)⟩
theorem fl_X11_132 : FL RX11 132 8 53 (.array .boolean) true := ⟨_, _, _, _, kc8, by decide, rfl, rfl, Or.inl (mem_g 1221 (by decide +kernel) rfl)⟩
theorem fl_X11_353 : FL RX11 353 8 54 .int false := ⟨_, _, _, _, kc8, by decide, rfl, rfl, Or.inl (mem_g 1222 (by decide +kernel) rfl)⟩
theorem fl_X11_135 : FL RX11 135 8 55 (.array .int) true := ⟨_, _, _, _, kc8, by decide, rfl, rfl, Or.inl (mem_g 1223 (by decide +kernel) rfl)⟩
theorem fl_X11_138 : FL RX11 138 8 56 (.array .int) true := ⟨_, _, _, _, kc8, by decide, rfl, rfl, Or.inl (mem_g 1224 (by decide +kernel) rfl)⟩
theorem fl_X11_422 : FL RX11 422 8 57 .int false := ⟨_, _, _, _, kc8, by decide, rfl, rfl, Or.inl (mem_g 1225 (by decide +kernel) rfl)⟩
theorem fl_X11_141 : FL RX11 141 8 58 (.array .int) true := ⟨_, _, _, _, kc8, by decide, rfl, rfl, Or.inl (mem_g 1226 (by decide +kernel) rfl)⟩
theorem fl_X11_144 : FL RX11 144 8 59 (.array .int) true := ⟨_, _, _, _, kc8, by decide, rfl, rfl, Or.inl (mem_g 1227 (by decide +kernel) rfl)⟩
theorem fl_X11_440 : FL RX11 440 8 60 .int false := ⟨_, _, _, _, kc8, by decide, rfl, rfl, Or.inl (mem_g 1228 (by decide +kernel) rfl)⟩
theorem fl_X11_147 : FL RX11 147 8 61 (.array .int) true := ⟨_, _, _, _, kc8, by decide, rfl, rfl, Or.inl (mem_g 1229 (by decide +kernel) rfl)⟩
theorem fl_X11_476 : FL RX11 476 8 62 .long false := ⟨_, _, _, _, kc8, by decide, rfl, rfl, Or.inl (mem_g 1230 (by decide +kernel) rfl)⟩
theorem ml_L_179 : ML RL 179 yX11_thrown := Or.inl (mem_g 1359 (by decide +kernel) rfl)
theorem ml_L_25 : ML RL 25 yX11_feed := Or.inl (mem_g 1363 (by decide +kernel) rfl)
theorem kl_X11_157 : Jvm.Cond.constantLong RX11 157 (255) ∈ lw_g := mem_g 1367 (by decide +kernel) rfl
theorem ml_L_30 : ML RL 30 yX11_yard := Or.inl (mem_g 1368 (by decide +kernel) rfl)
theorem ml_X11_347 : ML RX11 347 yX11_readsAll := Or.inl (mem_g 1372 (by decide +kernel) rfl)
theorem ml_X11_318 : ML RX11 318 yX11_begins := Or.inl (mem_g 1376 (by decide +kernel) rfl)
theorem ml_X11_224 : ML RX11 224 yX11_nextToken := Or.inl (mem_g 1380 (by decide +kernel) rfl)
theorem ml_X11_181 : ML RX11 181 yX11_signAt := Or.inl (mem_g 1384 (by decide +kernel) rfl)
theorem kl_X11_185 : Jvm.Cond.constantLong RX11 185 (27) ∈ lw_g := mem_g 1388 (by decide +kernel) rfl
theorem kl_X11_187 : Jvm.Cond.constantLong RX11 187 (96) ∈ lw_g := mem_g 1389 (by decide +kernel) rfl
theorem kl_X11_240 : Jvm.Cond.constantLong RX11 240 (379948) ∈ lw_g := mem_g 1390 (by decide +kernel) rfl
theorem ml_X11_209 : ML RX11 209 yX11_isWord := Or.inl (mem_g 1391 (by decide +kernel) rfl)
theorem ml_X11_321 : ML RX11 321 yX11_readsShed := Or.inl (mem_g 1395 (by decide +kernel) rfl)
theorem ml_X11_217 : ML RX11 217 yX11_fails := Or.inl (mem_g 1399 (by decide +kernel) rfl)
theorem ml_X11_298 : ML RX11 298 yX11_needsNew := Or.inl (mem_g 1403 (by decide +kernel) rfl)
theorem ml_X11_285 : ML RX11 285 yX11_isKept := Or.inl (mem_g 1407 (by decide +kernel) rfl)
theorem kl_X11_242 : Jvm.Cond.constantLong RX11 242 (161156) ∈ lw_g := mem_g 1411 (by decide +kernel) rfl
theorem kl_X11_244 : Jvm.Cond.constantLong RX11 244 (52925068) ∈ lw_g := mem_g 1412 (by decide +kernel) rfl
theorem kl_X11_246 : Jvm.Cond.constantLong RX11 246 (279252) ∈ lw_g := mem_g 1413 (by decide +kernel) rfl
theorem kl_X11_248 : Jvm.Cond.constantLong RX11 248 (10491962) ∈ lw_g := mem_g 1414 (by decide +kernel) rfl
theorem kl_X11_250 : Jvm.Cond.constantLong RX11 250 (12253591) ∈ lw_g := mem_g 1415 (by decide +kernel) rfl
theorem kl_X11_252 : Jvm.Cond.constantLong RX11 252 (555) ∈ lw_g := mem_g 1416 (by decide +kernel) rfl
theorem kl_X11_254 : Jvm.Cond.constantLong RX11 254 (3554408) ∈ lw_g := mem_g 1417 (by decide +kernel) rfl
theorem kl_X11_256 : Jvm.Cond.constantLong RX11 256 (365640) ∈ lw_g := mem_g 1418 (by decide +kernel) rfl
theorem kl_X11_258 : Jvm.Cond.constantLong RX11 258 (4085956) ∈ lw_g := mem_g 1419 (by decide +kernel) rfl
theorem kl_X11_260 : Jvm.Cond.constantLong RX11 260 (7622660) ∈ lw_g := mem_g 1420 (by decide +kernel) rfl
theorem kl_X11_262 : Jvm.Cond.constantLong RX11 262 (6559778) ∈ lw_g := mem_g 1421 (by decide +kernel) rfl
theorem kl_X11_264 : Jvm.Cond.constantLong RX11 264 (330573) ∈ lw_g := mem_g 1422 (by decide +kernel) rfl
theorem kl_X11_266 : Jvm.Cond.constantLong RX11 266 (8740238) ∈ lw_g := mem_g 1423 (by decide +kernel) rfl
theorem kl_X11_268 : Jvm.Cond.constantLong RX11 268 (2690359) ∈ lw_g := mem_g 1424 (by decide +kernel) rfl
theorem kl_X11_270 : Jvm.Cond.constantLong RX11 270 (14092) ∈ lw_g := mem_g 1425 (by decide +kernel) rfl
theorem kl_X11_272 : Jvm.Cond.constantLong RX11 272 (459598) ∈ lw_g := mem_g 1426 (by decide +kernel) rfl
theorem kl_X11_207 : Jvm.Cond.constantLong RX11 207 (10631) ∈ lw_g := mem_g 1427 (by decide +kernel) rfl
theorem kl_X11_227 : Jvm.Cond.constantLong RX11 227 (1111) ∈ lw_g := mem_g 1428 (by decide +kernel) rfl
theorem kl_X11_229 : Jvm.Cond.constantLong RX11 229 (423) ∈ lw_g := mem_g 1429 (by decide +kernel) rfl
theorem ml_X11_289 : ML RX11 289 yX11_shedNamed := Or.inl (mem_g 1430 (by decide +kernel) rfl)
theorem ml_X11_292 : ML RX11 292 yX11_stageNamed := Or.inl (mem_g 1434 (by decide +kernel) rfl)
theorem ml_X11_301 : ML RX11 301 yX11_needsBoth := Or.inl (mem_g 1438 (by decide +kernel) rfl)
theorem ml_X11_281 : ML RX11 281 yX11_needsNumber := Or.inl (mem_g 1442 (by decide +kernel) rfl)
theorem ml_X11_274 : ML RX11 274 yX11_within := Or.inl (mem_g 1446 (by decide +kernel) rfl)
theorem ml_X11_305 : ML RX11 305 yX11_closes := Or.inl (mem_g 1449 (by decide +kernel) rfl)
theorem ml_X11_213 : ML RX11 213 yX11_isSign := Or.inl (mem_g 1453 (by decide +kernel) rfl)
theorem ml_X11_324 : ML RX11 324 yX11_readsNear := Or.inl (mem_g 1457 (by decide +kernel) rfl)
theorem ml_X11_308 : ML RX11 308 yX11_needsShed := Or.inl (mem_g 1461 (by decide +kernel) rfl)
theorem ml_X11_327 : ML RX11 327 yX11_readsStage := Or.inl (mem_g 1465 (by decide +kernel) rfl)
theorem ml_X11_330 : ML RX11 330 yX11_readsFrost := Or.inl (mem_g 1469 (by decide +kernel) rfl)
theorem ml_X11_333 : ML RX11 333 yX11_readsRoof := Or.inl (mem_g 1473 (by decide +kernel) rfl)
theorem ml_X11_336 : ML RX11 336 yX11_readsGrows := Or.inl (mem_g 1477 (by decide +kernel) rfl)
theorem ml_X11_315 : ML RX11 315 yX11_reads := Or.inl (mem_g 1481 (by decide +kernel) rfl)
theorem ml_X11_203 : ML RX11 203 yX11_fact := Or.inl (mem_g 1485 (by decide +kernel) rfl)
theorem kl_X11_195 : Jvm.Cond.constantLong RX11 195 (453937) ∈ lw_g := mem_g 1489 (by decide +kernel) rfl
theorem kl_X11_197 : Jvm.Cond.constantLong RX11 197 (394725) ∈ lw_g := mem_g 1490 (by decide +kernel) rfl
theorem kl_X11_199 : Jvm.Cond.constantLong RX11 199 (257011) ∈ lw_g := mem_g 1491 (by decide +kernel) rfl
theorem kl_X11_201 : Jvm.Cond.constantLong RX11 201 (80006) ∈ lw_g := mem_g 1492 (by decide +kernel) rfl
theorem ml_X11_220 : ML RX11 220 yX11_puts := Or.inl (mem_g 1493 (by decide +kernel) rfl)
theorem ml_X11_350 : ML RX11 350 yX11_lays := Or.inl (mem_g 1497 (by decide +kernel) rfl)
theorem ml_X11_339 : ML RX11 339 yX11_shifts := Or.inl (mem_g 1501 (by decide +kernel) rfl)
theorem ml_X11_343 : ML RX11 343 yX11_shiftsNames := Or.inl (mem_g 1504 (by decide +kernel) rfl)
theorem ml_L_34 : ML RL 34 yX11_week := Or.inl (mem_g 1507 (by decide +kernel) rfl)
theorem ml_X11_356 : ML RX11 356 yX11_readsLine := Or.inl (mem_g 1511 (by decide +kernel) rfl)
theorem ml_X11_359 : ML RX11 359 yX11_laysLines := Or.inl (mem_g 1515 (by decide +kernel) rfl)
theorem ml_L_39 : ML RL 39 yX11_shed := Or.inl (mem_g 1519 (by decide +kernel) rfl)
theorem ml_X11_397 : ML RX11 397 yX11_isShed := Or.inl (mem_g 1523 (by decide +kernel) rfl)
theorem ml_X11_394 : ML RX11 394 yX11_murmurOf := Or.inl (mem_g 1527 (by decide +kernel) rfl)
theorem ml_X11_382 : ML RX11 382 yJ9_min_7cf53 := Or.inl (mem_g 1531 (by decide +kernel) rfl)
theorem ml_L_43 : ML RL 43 yX11_stage := Or.inl (mem_g 1532 (by decide +kernel) rfl)
theorem ml_X11_400 : ML RX11 400 yX11_isStage := Or.inl (mem_g 1536 (by decide +kernel) rfl)
theorem ml_L_47 : ML RL 47 yX11_night := Or.inl (mem_g 1540 (by decide +kernel) rfl)
theorem ml_X11_407 : ML RX11 407 yX11_keeps := Or.inl (mem_g 1544 (by decide +kernel) rfl)
theorem ml_X11_403 : ML RX11 403 yX11_copies := Or.inl (mem_g 1548 (by decide +kernel) rfl)
theorem ml_X11_410 : ML RX11 410 yX11_passesAsTold := Or.inl (mem_g 1551 (by decide +kernel) rfl)
theorem ml_X11_388 : ML RX11 388 yX11_frostOf := Or.inl (mem_g 1555 (by decide +kernel) rfl)
theorem ml_X11_391 : ML RX11 391 yX11_passes := Or.inl (mem_g 1559 (by decide +kernel) rfl)
theorem ml_X11_385 : ML RX11 385 yX11_growth := Or.inl (mem_g 1563 (by decide +kernel) rfl)
theorem ml_X11_363 : ML RX11 363 yX11_isLit := Or.inl (mem_g 1567 (by decide +kernel) rfl)
theorem ml_X11_366 : ML RX11 366 yJ9_max_7cf53 := Or.inl (mem_g 1571 (by decide +kernel) rfl)
theorem ml_X11_372 : ML RX11 372 yX11_worked := Or.inl (mem_g 1572 (by decide +kernel) rfl)
theorem ml_X11_234 : ML RX11 234 yX11_opens := Or.inl (mem_g 1576 (by decide +kernel) rfl)
theorem ml_X11_231 : ML RX11 231 yX11_sums := Or.inl (mem_g 1580 (by decide +kernel) rfl)
theorem ml_X11_237 : ML RX11 237 yX11_tests := Or.inl (mem_g 1584 (by decide +kernel) rfl)
theorem ml_X11_375 : ML RX11 375 yX11_between := Or.inl (mem_g 1588 (by decide +kernel) rfl)
theorem ml_X11_379 : ML RX11 379 yX11_moreNear := Or.inl (mem_g 1591 (by decide +kernel) rfl)
theorem ml_L_51 : ML RL 51 yX11_heat := Or.inl (mem_g 1595 (by decide +kernel) rfl)
theorem ml_L_56 : ML RL 56 yX11_light := Or.inl (mem_g 1599 (by decide +kernel) rfl)
theorem ml_L_60 : ML RL 60 yX11_pull := Or.inl (mem_g 1603 (by decide +kernel) rfl)
theorem ml_X11_413 : ML RX11 413 yX11_canPull := Or.inl (mem_g 1607 (by decide +kernel) rfl)
theorem ml_X11_416 : ML RX11 416 yX11_pulls := Or.inl (mem_g 1611 (by decide +kernel) rfl)
theorem ml_L_65 : ML RL 65 yX11_undo := Or.inl (mem_g 1615 (by decide +kernel) rfl)
theorem ml_L_70 : ML RL 70 yX11_judged := Or.inl (mem_g 1619 (by decide +kernel) rfl)
theorem ml_X11_419 : ML RX11 419 yX11_allCrowns := Or.inl (mem_g 1623 (by decide +kernel) rfl)
theorem ml_L_74 : ML RL 74 yX11_later := Or.inl (mem_g 1627 (by decide +kernel) rfl)
theorem ml_L_78 : ML RL 78 yX11_creak := Or.inl (mem_g 1631 (by decide +kernel) rfl)
theorem ml_L_82 : ML RL 82 yX11_pops := Or.inl (mem_g 1635 (by decide +kernel) rfl)
theorem ml_X11_425 : ML RX11 425 yX11_popsOf := Or.inl (mem_g 1639 (by decide +kernel) rfl)
theorem ml_L_86 : ML RL 86 yX11_first := Or.inl (mem_g 1643 (by decide +kernel) rfl)
theorem ml_X11_428 : ML RX11 428 yX11_lowest := Or.inl (mem_g 1647 (by decide +kernel) rfl)
theorem ml_L_90 : ML RL 90 yX11_riot := Or.inl (mem_g 1650 (by decide +kernel) rfl)
theorem ml_L_94 : ML RL 94 yX11_calm := Or.inl (mem_g 1654 (by decide +kernel) rfl)
theorem ml_L_98 : ML RL 98 yX11_roofed := Or.inl (mem_g 1658 (by decide +kernel) rfl)
theorem ml_X11_431 : ML RX11 431 yX11_areRoofed := Or.inl (mem_g 1662 (by decide +kernel) rfl)
theorem ml_L_102 : ML RL 102 yX11_had := Or.inl (mem_g 1666 (by decide +kernel) rfl)
theorem ml_X11_437 : ML RX11 437 yX11_hadBy := Or.inl (mem_g 1670 (by decide +kernel) rfl)
theorem ml_X11_434 : ML RX11 434 yX11_canHave := Or.inl (mem_g 1674 (by decide +kernel) rfl)
theorem ml_L_106 : ML RL 106 yX11_waits := Or.inl (mem_g 1678 (by decide +kernel) rfl)
theorem ml_L_110 : ML RL 110 yX11_plays := Or.inl (mem_g 1682 (by decide +kernel) rfl)
theorem ml_X11_443 : ML RX11 443 yX11_givesOut := Or.inl (mem_g 1686 (by decide +kernel) rfl)
theorem ml_L_114 : ML RL 114 yX11_blend := Or.inl (mem_g 1690 (by decide +kernel) rfl)
theorem ml_X11_447 : ML RX11 447 yX11_bits := Or.inl (mem_g 1694 (by decide +kernel) rfl)
theorem ml_L_119 : ML RL 119 yX11_aim := Or.inl (mem_g 1697 (by decide +kernel) rfl)
theorem ml_L_123 : ML RL 123 yX11_reach := Or.inl (mem_g 1701 (by decide +kernel) rfl)
theorem ml_X11_450 : ML RX11 450 yX11_reachOf := Or.inl (mem_g 1705 (by decide +kernel) rfl)
theorem ml_L_127 : ML RL 127 yX11_far := Or.inl (mem_g 1709 (by decide +kernel) rfl)
theorem ml_L_131 : ML RL 131 yX11_parts := Or.inl (mem_g 1713 (by decide +kernel) rfl)
theorem ml_L_135 : ML RL 135 yX11_heard := Or.inl (mem_g 1717 (by decide +kernel) rfl)
theorem ml_L_139 : ML RL 139 yX11_news := Or.inl (mem_g 1721 (by decide +kernel) rfl)
theorem ml_X11_453 : ML RX11 453 yX11_haveAllHeard := Or.inl (mem_g 1725 (by decide +kernel) rfl)
theorem ml_L_143 : ML RL 143 yX11_loud := Or.inl (mem_g 1729 (by decide +kernel) rfl)
theorem ml_L_147 : ML RL 147 yX11_tall := Or.inl (mem_g 1733 (by decide +kernel) rfl)
theorem ml_L_151 : ML RL 151 yX11_yields := Or.inl (mem_g 1737 (by decide +kernel) rfl)
theorem ml_X11_456 : ML RX11 456 yX11_allMurmurs := Or.inl (mem_g 1741 (by decide +kernel) rfl)
theorem ml_L_156 : ML RL 156 yX11_see := Or.inl (mem_g 1745 (by decide +kernel) rfl)
theorem ml_L_160 : ML RL 160 yX11_who := Or.inl (mem_g 1749 (by decide +kernel) rfl)
theorem ml_X11_459 : ML RX11 459 yX11_laysCreaks := Or.inl (mem_g 1753 (by decide +kernel) rfl)
theorem ml_X11_462 : ML RX11 462 yX11_isAsSeen := Or.inl (mem_g 1757 (by decide +kernel) rfl)
theorem ml_L_164 : ML RL 164 yX11_ask := Or.inl (mem_g 1761 (by decide +kernel) rfl)
theorem ml_X11_465 : ML RX11 465 yX11_who := Or.inl (mem_g 1765 (by decide +kernel) rfl)
theorem ml_L_168 : ML RL 168 yX11_stick := Or.inl (mem_g 1766 (by decide +kernel) rfl)
theorem ml_L_172 : ML RL 172 yX11_chance := Or.inl (mem_g 1770 (by decide +kernel) rfl)
theorem kl_X11_468 : Jvm.Cond.constantLong RX11 468 (10) ∈ lw_g := mem_g 1774 (by decide +kernel) rfl
theorem kl_X11_470 : Jvm.Cond.constantLong RX11 470 (1000000) ∈ lw_g := mem_g 1775 (by decide +kernel) rfl
theorem ml_L_178 : ML RL 178 yX11_rests := Or.inl (mem_g 1776 (by decide +kernel) rfl)
theorem ml_X11_472 : ML RX11 472 yX11_getsBy := Or.inl (mem_g 1780 (by decide +kernel) rfl)
theorem ml_L_185 : ML RL 185 yX11_weeks := Or.inl (mem_g 1783 (by decide +kernel) rfl)
theorem ml_X11_490 : ML RX11 490 yX11_livesNight := Or.inl (mem_g 1787 (by decide +kernel) rfl)
theorem ml_X11_487 : ML RX11 487 yX11_draws := Or.inl (mem_g 1791 (by decide +kernel) rfl)
theorem kl_X11_479 : Jvm.Cond.constantLong RX11 479 (1103515245) ∈ lw_g := mem_g 1795 (by decide +kernel) rfl
theorem kl_X11_481 : Jvm.Cond.constantLong RX11 481 (12345) ∈ lw_g := mem_g 1796 (by decide +kernel) rfl
theorem kl_X11_483 : Jvm.Cond.constantLong RX11 483 (2147483648) ∈ lw_g := mem_g 1797 (by decide +kernel) rfl
theorem kl_X11_485 : Jvm.Cond.constantLong RX11 485 (65536) ∈ lw_g := mem_g 1798 (by decide +kernel) rfl
theorem ml_L_190 : ML RL 190 yX11_mark := Or.inl (mem_g 1799 (by decide +kernel) rfl)
theorem ml_X11_493 : ML RX11 493 yX11_laysSeen := Or.inl (mem_g 1803 (by decide +kernel) rfl)
theorem ml_L_194 : ML RL 194 yX11_count := Or.inl (mem_g 1807 (by decide +kernel) rfl)
theorem ml_X11_496 : ML RX11 496 yX11_riotsNow := Or.inl (mem_g 1811 (by decide +kernel) rfl)
theorem kl_L_19 : Jvm.Cond.constantLong RL 19 (4294967295) ∈ lw_g := mem_g 1815 (by decide +kernel) rfl
abbrev mX10_init : Mi := (yX10_init, cX10_init, 2, (Option.none))
abbrev mX4_init : Mi := (yX4_init, cX4_init, 1, (Option.none))
abbrev mX8_init : Mi := (yX8_init, cX8_init, 1, (Option.none))
abbrev mX0_init : Mi := (yX0_init, cX0_init, 1, (Option.none))
abbrev mX5_init : Mi := (yX5_init, cX5_init, 1, (Option.none))
abbrev mX3_init : Mi := (yX3_init, cX3_init, 1, (Option.none))
abbrev mX2_init : Mi := (yX2_init, cX2_init, 1, (Option.none))
abbrev mX1_init : Mi := (yX1_init, cX1_init, 1, (Option.none))
abbrev mX10_feed : Mi := (yX10_feed, cX10_feed, 7, (Option.some Jvm.ClassFile.FieldType.int))
theorem mo_X10_feed : MOV mX10_feed 3 := ⟨⟨mem_g 338 (by decide +kernel) rfl, mem_g 1 (by decide +kernel) rfl, ⟨by decide +kernel, by decide +kernel, by decide +kernel⟩, by decide⟩, mem_g 336 (by decide +kernel) rfl, mem_g 337 (by decide +kernel) rfl⟩
abbrev mX10_feedWord : Mi := (yX10_feedWord, cX10_feedWord, 4, (Option.none))
theorem mo_X10_feedWord : MOV mX10_feedWord 1 := ⟨⟨mem_g 342 (by decide +kernel) rfl, mem_g 1 (by decide +kernel) rfl, ⟨by decide +kernel, by decide +kernel, by decide +kernel⟩, by decide⟩, mem_g 341 (by decide +kernel) rfl, mem_sel 0 (q := (yX10_feedWord, 17)) (by decide +kernel)⟩
abbrev mX4_append : Mi := (yX4_append, cX4_append, 3, (Option.none))
theorem mo_X4_append : MOV mX4_append 1 := ⟨⟨mem_g 347 (by decide +kernel) rfl, mem_g 2 (by decide +kernel) rfl, ⟨by decide +kernel, by decide +kernel, by decide +kernel⟩, by decide⟩, mem_g 346 (by decide +kernel) rfl, mem_sel 1 (q := (yX4_append, 10)) (by decide +kernel)⟩
abbrev mX10_within : Mi := (yX10_within, cX10_within, 3, (Option.some Jvm.ClassFile.FieldType.boolean))
theorem mo_X10_within : MOS mX10_within 3 := ⟨⟨mem_g 350 (by decide +kernel) rfl, mem_g 1 (by decide +kernel) rfl, ⟨by decide +kernel, by decide +kernel, by decide +kernel⟩, by decide⟩, mem_g 349 (by decide +kernel) rfl⟩
abbrev mX10_put : Mi := (yX10_put, cX10_put, 3, (Option.none))
theorem mo_X10_put : MOS mX10_put 3 := ⟨⟨mem_g 353 (by decide +kernel) rfl, mem_g 1 (by decide +kernel) rfl, ⟨by decide +kernel, by decide +kernel, by decide +kernel⟩, by decide⟩, mem_g 352 (by decide +kernel) rfl⟩
abbrev mX10_yard : Mi := (yX10_yard, cX10_yard, 3, (Option.some Jvm.ClassFile.FieldType.int))
theorem mo_X10_yard : MOV mX10_yard 0 := ⟨⟨mem_g 357 (by decide +kernel) rfl, mem_g 1 (by decide +kernel) rfl, ⟨by decide +kernel, by decide +kernel, by decide +kernel⟩, by decide⟩, mem_g 355 (by decide +kernel) rfl, mem_g 356 (by decide +kernel) rfl⟩
abbrev mX9_read : Mi := (yX9_read, cX9_read, 3, (Option.some Jvm.ClassFile.FieldType.int))
theorem mo_X9_read : MOS mX9_read 2 := ⟨⟨mem_g 360 (by decide +kernel) rfl, mem_g 12 (by decide +kernel) rfl, ⟨by decide +kernel, by decide +kernel, by decide +kernel⟩, by decide⟩, mem_g 359 (by decide +kernel) rfl⟩
abbrev mX8_clear : Mi := (yX8_clear, cX8_clear, 1, (Option.none))
theorem mo_X8_clear : MOV mX8_clear 0 := ⟨⟨mem_g 364 (by decide +kernel) rfl, mem_g 5 (by decide +kernel) rfl, ⟨by decide +kernel, by decide +kernel, by decide +kernel⟩, by decide⟩, mem_g 363 (by decide +kernel) rfl, mem_sel 2 (q := (yX8_clear, 14)) (by decide +kernel)⟩
abbrev mX0_clear : Mi := (yX0_clear, cX0_clear, 1, (Option.none))
theorem mo_X0_clear : MOV mX0_clear 0 := ⟨⟨mem_g 368 (by decide +kernel) rfl, mem_g 6 (by decide +kernel) rfl, ⟨by decide +kernel, by decide +kernel, by decide +kernel⟩, by decide⟩, mem_g 367 (by decide +kernel) rfl, mem_sel 3 (q := (yX0_clear, 4)) (by decide +kernel)⟩
abbrev mX4_begin : Mi := (yX4_begin, cX4_begin, 1, (Option.none))
theorem mo_X4_begin : MOV mX4_begin 0 := ⟨⟨mem_g 372 (by decide +kernel) rfl, mem_g 2 (by decide +kernel) rfl, ⟨by decide +kernel, by decide +kernel, by decide +kernel⟩, by decide⟩, mem_g 371 (by decide +kernel) rfl, mem_sel 4 (q := (yX4_begin, 10)) (by decide +kernel)⟩
abbrev mX4_advance : Mi := (yX4_advance, cX4_advance, 1, (Option.none))
theorem mo_X4_advance : MOV mX4_advance 0 := ⟨⟨mem_g 376 (by decide +kernel) rfl, mem_g 2 (by decide +kernel) rfl, ⟨by decide +kernel, by decide +kernel, by decide +kernel⟩, by decide⟩, mem_g 375 (by decide +kernel) rfl, mem_sel 5 (q := (yX4_advance, 10)) (by decide +kernel)⟩
abbrev mX10_at : Mi := (yX10_at, cX10_at, 2, (Option.some Jvm.ClassFile.FieldType.int))
theorem mo_X10_at : MOS mX10_at 2 := ⟨⟨mem_g 379 (by decide +kernel) rfl, mem_g 1 (by decide +kernel) rfl, ⟨by decide +kernel, by decide +kernel, by decide +kernel⟩, by decide⟩, mem_g 378 (by decide +kernel) rfl⟩
abbrev mX4_readWord : Mi := (yX4_readWord, cX4_readWord, 5, (Option.none))
theorem mo_X4_readWord : MOV mX4_readWord 0 := ⟨⟨mem_g 383 (by decide +kernel) rfl, mem_g 2 (by decide +kernel) rfl, ⟨by decide +kernel, by decide +kernel, by decide +kernel⟩, by decide⟩, mem_g 382 (by decide +kernel) rfl, mem_sel 6 (q := (yX4_readWord, 10)) (by decide +kernel)⟩
abbrev mX4_readNumber : Mi := (yX4_readNumber, cX4_readNumber, 1, (Option.none))
theorem mo_X4_readNumber : MOV mX4_readNumber 0 := ⟨⟨mem_g 391 (by decide +kernel) rfl, mem_g 2 (by decide +kernel) rfl, ⟨by decide +kernel, by decide +kernel, by decide +kernel⟩, by decide⟩, mem_g 390 (by decide +kernel) rfl, mem_sel 7 (q := (yX4_readNumber, 10)) (by decide +kernel)⟩
abbrev mJ0_indexOf_0f7a4 : Mi := (yJ0_indexOf_0f7a4, cJ0_indexOf_0f7a4, 2, (Option.some Jvm.ClassFile.FieldType.int))
theorem mo_J0_indexOf_0f7a4 : MOV mJ0_indexOf_0f7a4 1 := ⟨⟨mem_g 396 (by decide +kernel) rfl, mem_g 13 (by decide +kernel) rfl, ⟨by decide +kernel, by decide +kernel, by decide +kernel⟩, by decide⟩, mem_g 394 (by decide +kernel) rfl, mem_g 395 (by decide +kernel) rfl⟩
abbrev mJ0_indexOf_7cf53 : Mi := (yJ0_indexOf_7cf53, cJ0_indexOf_7cf53, 3, (Option.some Jvm.ClassFile.FieldType.int))
theorem mo_J0_indexOf_7cf53 : MOV mJ0_indexOf_7cf53 2 := ⟨⟨mem_g 400 (by decide +kernel) rfl, mem_g 13 (by decide +kernel) rfl, ⟨by decide +kernel, by decide +kernel, by decide +kernel⟩, by decide⟩, mem_g 398 (by decide +kernel) rfl, mem_g 399 (by decide +kernel) rfl⟩
abbrev mJ0_isLatin1_aae02 : Mi := (yJ0_isLatin1_aae02, cJ0_isLatin1_aae02, 1, (Option.some Jvm.ClassFile.FieldType.boolean))
theorem mo_J0_isLatin1_aae02 : MOV mJ0_isLatin1_aae02 0 := ⟨⟨mem_g 404 (by decide +kernel) rfl, mem_g 13 (by decide +kernel) rfl, ⟨by decide +kernel, by decide +kernel, by decide +kernel⟩, by decide⟩, mem_g 402 (by decide +kernel) rfl, mem_g 403 (by decide +kernel) rfl⟩
abbrev mJ0_length_8abf5 : Mi := (yJ0_length_8abf5, cJ0_length_8abf5, 1, (Option.some Jvm.ClassFile.FieldType.int))
theorem mo_J0_length_8abf5 : MOV mJ0_length_8abf5 0 := ⟨⟨mem_g 410 (by decide +kernel) rfl, mem_g 13 (by decide +kernel) rfl, ⟨by decide +kernel, by decide +kernel, by decide +kernel⟩, by decide⟩, mem_g 408 (by decide +kernel) rfl, mem_g 409 (by decide +kernel) rfl⟩
abbrev mJ0_coder_7d493 : Mi := (yJ0_coder_7d493, cJ0_coder_7d493, 1, (Option.some Jvm.ClassFile.FieldType.byte))
theorem mo_J0_coder_7d493 : MOV mJ0_coder_7d493 0 := ⟨⟨mem_g 414 (by decide +kernel) rfl, mem_g 13 (by decide +kernel) rfl, ⟨by decide +kernel, by decide +kernel, by decide +kernel⟩, by decide⟩, mem_g 412 (by decide +kernel) rfl, mem_g 413 (by decide +kernel) rfl⟩
abbrev mJ1_indexOf_4cfef : Mi := (yJ1_indexOf_4cfef, cJ1_indexOf_4cfef, 4, (Option.some Jvm.ClassFile.FieldType.int))
theorem mo_J1_indexOf_4cfef : MOS mJ1_indexOf_4cfef 4 := ⟨⟨mem_g 417 (by decide +kernel) rfl, mem_g 14 (by decide +kernel) rfl, ⟨by decide +kernel, by decide +kernel, by decide +kernel⟩, by decide⟩, mem_g 416 (by decide +kernel) rfl⟩
abbrev mJ1_canEncode_9a6ad : Mi := (yJ1_canEncode_9a6ad, cJ1_canEncode_9a6ad, 1, (Option.some Jvm.ClassFile.FieldType.boolean))
theorem mo_J1_canEncode_9a6ad : MOS mJ1_canEncode_9a6ad 1 := ⟨⟨mem_g 420 (by decide +kernel) rfl, mem_g 14 (by decide +kernel) rfl, ⟨by decide +kernel, by decide +kernel, by decide +kernel⟩, by decide⟩, mem_g 419 (by decide +kernel) rfl⟩
abbrev mJ9_max_7cf53 : Mi := (yJ9_max_7cf53, cJ9_max_7cf53, 2, (Option.some Jvm.ClassFile.FieldType.int))
theorem mo_J9_max_7cf53 : MOS mJ9_max_7cf53 2 := ⟨⟨mem_g 423 (by decide +kernel) rfl, mem_g 15 (by decide +kernel) rfl, ⟨by decide +kernel, by decide +kernel, by decide +kernel⟩, by decide⟩, mem_g 422 (by decide +kernel) rfl⟩
abbrev mJ9_min_7cf53 : Mi := (yJ9_min_7cf53, cJ9_min_7cf53, 2, (Option.some Jvm.ClassFile.FieldType.int))
theorem mo_J9_min_7cf53 : MOS mJ9_min_7cf53 2 := ⟨⟨mem_g 426 (by decide +kernel) rfl, mem_g 15 (by decide +kernel) rfl, ⟨by decide +kernel, by decide +kernel, by decide +kernel⟩, by decide⟩, mem_g 425 (by decide +kernel) rfl⟩
abbrev mJ1_indexOfChar_4cfef : Mi := (yJ1_indexOfChar_4cfef, cJ1_indexOfChar_4cfef, 6, (Option.some Jvm.ClassFile.FieldType.int))
theorem mo_J1_indexOfChar_4cfef : MOS mJ1_indexOfChar_4cfef 4 := ⟨⟨mem_g 429 (by decide +kernel) rfl, mem_g 14 (by decide +kernel) rfl, ⟨by decide +kernel, by decide +kernel, by decide +kernel⟩, by decide⟩, mem_g 428 (by decide +kernel) rfl⟩
abbrev mJ2_indexOf_4cfef : Mi := (yJ2_indexOf_4cfef, cJ2_indexOf_4cfef, 4, (Option.some Jvm.ClassFile.FieldType.int))
theorem mo_J2_indexOf_4cfef : MOS mJ2_indexOf_4cfef 4 := ⟨⟨mem_g 432 (by decide +kernel) rfl, mem_g 16 (by decide +kernel) rfl, ⟨by decide +kernel, by decide +kernel, by decide +kernel⟩, by decide⟩, mem_g 431 (by decide +kernel) rfl⟩
abbrev mJ2_indexOfChar_4cfef : Mi := (yJ2_indexOfChar_4cfef, cJ2_indexOfChar_4cfef, 4, (Option.some Jvm.ClassFile.FieldType.int))
theorem mo_J2_indexOfChar_4cfef : MOS mJ2_indexOfChar_4cfef 4 := ⟨⟨mem_g 438 (by decide +kernel) rfl, mem_g 16 (by decide +kernel) rfl, ⟨by decide +kernel, by decide +kernel, by decide +kernel⟩, by decide⟩, mem_g 437 (by decide +kernel) rfl⟩
abbrev mJ2_checkBoundsBeginEnd_d044e : Mi := (yJ2_checkBoundsBeginEnd_d044e, cJ2_checkBoundsBeginEnd_d044e, 3, (Option.none))
theorem mo_J2_checkBoundsBeginEnd_d044e : MOS mJ2_checkBoundsBeginEnd_d044e 3 := ⟨⟨mem_g 441 (by decide +kernel) rfl, mem_g 16 (by decide +kernel) rfl, ⟨by decide +kernel, by decide +kernel, by decide +kernel⟩, by decide⟩, mem_g 440 (by decide +kernel) rfl⟩
abbrev mJ2_length_9d52b : Mi := (yJ2_length_9d52b, cJ2_length_9d52b, 1, (Option.some Jvm.ClassFile.FieldType.int))
theorem mo_J2_length_9d52b : MOS mJ2_length_9d52b 1 := ⟨⟨mem_g 444 (by decide +kernel) rfl, mem_g 16 (by decide +kernel) rfl, ⟨by decide +kernel, by decide +kernel, by decide +kernel⟩, by decide⟩, mem_g 443 (by decide +kernel) rfl⟩
abbrev mJ0_checkBoundsBeginEnd_23922 : Mi := (yJ0_checkBoundsBeginEnd_23922, cJ0_checkBoundsBeginEnd_23922, 3, (Option.none))
theorem mo_J0_checkBoundsBeginEnd_23922 : MOS mJ0_checkBoundsBeginEnd_23922 3 := ⟨⟨mem_g 447 (by decide +kernel) rfl, mem_g 13 (by decide +kernel) rfl, ⟨by decide +kernel, by decide +kernel, by decide +kernel⟩, by decide⟩, mem_g 446 (by decide +kernel) rfl⟩
abbrev mJ3_checkFromToIndex_8c36e : Mi := (yJ3_checkFromToIndex_8c36e, cJ3_checkFromToIndex_8c36e, 4, (Option.some Jvm.ClassFile.FieldType.int))
theorem mo_J3_checkFromToIndex_8c36e : MOS mJ3_checkFromToIndex_8c36e 4 := ⟨⟨mem_g 452 (by decide +kernel) rfl, mem_g 17 (by decide +kernel) rfl, ⟨by decide +kernel, by decide +kernel, by decide +kernel⟩, by decide⟩, mem_g 451 (by decide +kernel) rfl⟩
abbrev mJ2_indexOfCharUnsafe_4cfef : Mi := (yJ2_indexOfCharUnsafe_4cfef, cJ2_indexOfCharUnsafe_4cfef, 5, (Option.some Jvm.ClassFile.FieldType.int))
theorem mo_J2_indexOfCharUnsafe_4cfef : MOS mJ2_indexOfCharUnsafe_4cfef 4 := ⟨⟨mem_g 455 (by decide +kernel) rfl, mem_g 16 (by decide +kernel) rfl, ⟨by decide +kernel, by decide +kernel, by decide +kernel⟩, by decide⟩, mem_g 454 (by decide +kernel) rfl⟩
abbrev mJ2_getChar_3b067 : Mi := (yJ2_getChar_3b067, cJ2_getChar_3b067, 2, (Option.some Jvm.ClassFile.FieldType.char))
theorem mo_J2_getChar_3b067 : MOS mJ2_getChar_3b067 2 := ⟨⟨mem_g 458 (by decide +kernel) rfl, mem_g 16 (by decide +kernel) rfl, ⟨by decide +kernel, by decide +kernel, by decide +kernel⟩, by decide⟩, mem_g 457 (by decide +kernel) rfl⟩
abbrev mJ2_indexOfSupplementary_4cfef : Mi := (yJ2_indexOfSupplementary_4cfef, cJ2_indexOfSupplementary_4cfef, 7, (Option.some Jvm.ClassFile.FieldType.int))
theorem mo_J2_indexOfSupplementary_4cfef : MOS mJ2_indexOfSupplementary_4cfef 4 := ⟨⟨mem_g 467 (by decide +kernel) rfl, mem_g 16 (by decide +kernel) rfl, ⟨by decide +kernel, by decide +kernel, by decide +kernel⟩, by decide⟩, mem_g 466 (by decide +kernel) rfl⟩
abbrev mJ11_isValidCodePoint_9a6ad : Mi := (yJ11_isValidCodePoint_9a6ad, cJ11_isValidCodePoint_9a6ad, 2, (Option.some Jvm.ClassFile.FieldType.boolean))
theorem mo_J11_isValidCodePoint_9a6ad : MOS mJ11_isValidCodePoint_9a6ad 1 := ⟨⟨mem_g 470 (by decide +kernel) rfl, mem_g 18 (by decide +kernel) rfl, ⟨by decide +kernel, by decide +kernel, by decide +kernel⟩, by decide⟩, mem_g 469 (by decide +kernel) rfl⟩
abbrev mJ11_highSurrogate_5068e : Mi := (yJ11_highSurrogate_5068e, cJ11_highSurrogate_5068e, 1, (Option.some Jvm.ClassFile.FieldType.char))
theorem mo_J11_highSurrogate_5068e : MOS mJ11_highSurrogate_5068e 1 := ⟨⟨mem_g 473 (by decide +kernel) rfl, mem_g 18 (by decide +kernel) rfl, ⟨by decide +kernel, by decide +kernel, by decide +kernel⟩, by decide⟩, mem_g 472 (by decide +kernel) rfl⟩
abbrev mJ11_lowSurrogate_5068e : Mi := (yJ11_lowSurrogate_5068e, cJ11_lowSurrogate_5068e, 1, (Option.some Jvm.ClassFile.FieldType.char))
theorem mo_J11_lowSurrogate_5068e : MOS mJ11_lowSurrogate_5068e 1 := ⟨⟨mem_g 477 (by decide +kernel) rfl, mem_g 18 (by decide +kernel) rfl, ⟨by decide +kernel, by decide +kernel, by decide +kernel⟩, by decide⟩, mem_g 476 (by decide +kernel) rfl⟩
abbrev mX4_goesOn : Mi := (yX4_goesOn, cX4_goesOn, 1, (Option.some Jvm.ClassFile.FieldType.boolean))
theorem mo_X4_goesOn : MOV mX4_goesOn 0 := ⟨⟨mem_g 482 (by decide +kernel) rfl, mem_g 2 (by decide +kernel) rfl, ⟨by decide +kernel, by decide +kernel, by decide +kernel⟩, by decide⟩, mem_g 481 (by decide +kernel) rfl, mem_sel 8 (q := (yX4_goesOn, 10)) (by decide +kernel)⟩
abbrev mX4_isWord : Mi := (yX4_isWord, cX4_isWord, 2, (Option.some Jvm.ClassFile.FieldType.boolean))
theorem mo_X4_isWord : MOV mX4_isWord 1 := ⟨⟨mem_g 488 (by decide +kernel) rfl, mem_g 2 (by decide +kernel) rfl, ⟨by decide +kernel, by decide +kernel, by decide +kernel⟩, by decide⟩, mem_g 487 (by decide +kernel) rfl, mem_sel 9 (q := (yX4_isWord, 10)) (by decide +kernel)⟩
abbrev mX9_readShed : Mi := (yX9_readShed, cX9_readShed, 7, (Option.none))
theorem mo_X9_readShed : MOS mX9_readShed 2 := ⟨⟨mem_g 491 (by decide +kernel) rfl, mem_g 12 (by decide +kernel) rfl, ⟨by decide +kernel, by decide +kernel, by decide +kernel⟩, by decide⟩, mem_g 490 (by decide +kernel) rfl⟩
abbrev mX4_fail : Mi := (yX4_fail, cX4_fail, 2, (Option.none))
theorem mo_X4_fail : MOV mX4_fail 1 := ⟨⟨mem_g 495 (by decide +kernel) rfl, mem_g 2 (by decide +kernel) rfl, ⟨by decide +kernel, by decide +kernel, by decide +kernel⟩, by decide⟩, mem_g 494 (by decide +kernel) rfl, mem_sel 10 (q := (yX4_fail, 10)) (by decide +kernel)⟩
abbrev mX4_takeNewName : Mi := (yX4_takeNewName, cX4_takeNewName, 4, (Option.some Jvm.ClassFile.FieldType.long))
theorem mo_X4_takeNewName : MOV mX4_takeNewName 1 := ⟨⟨mem_g 500 (by decide +kernel) rfl, mem_g 2 (by decide +kernel) rfl, ⟨by decide +kernel, by decide +kernel, by decide +kernel⟩, by decide⟩, mem_g 499 (by decide +kernel) rfl, mem_sel 11 (q := (yX4_takeNewName, 10)) (by decide +kernel)⟩
abbrev mX4_isName : Mi := (yX4_isName, cX4_isName, 1, (Option.some Jvm.ClassFile.FieldType.boolean))
theorem mo_X4_isName : MOV mX4_isName 0 := ⟨⟨mem_g 504 (by decide +kernel) rfl, mem_g 2 (by decide +kernel) rfl, ⟨by decide +kernel, by decide +kernel, by decide +kernel⟩, by decide⟩, mem_g 503 (by decide +kernel) rfl, mem_sel 12 (q := (yX4_isName, 10)) (by decide +kernel)⟩
abbrev mX8_shedNamed : Mi := (yX8_shedNamed, cX8_shedNamed, 4, (Option.some Jvm.ClassFile.FieldType.int))
theorem mo_X8_shedNamed : MOV mX8_shedNamed 1 := ⟨⟨mem_g 509 (by decide +kernel) rfl, mem_g 5 (by decide +kernel) rfl, ⟨by decide +kernel, by decide +kernel, by decide +kernel⟩, by decide⟩, mem_g 508 (by decide +kernel) rfl, mem_sel 13 (q := (yX8_shedNamed, 14)) (by decide +kernel)⟩
abbrev mX10_at_ : Mi := (yX10_at_, cX10_at_, 2, (Option.some Jvm.ClassFile.FieldType.long))
theorem mo_X10_at_ : MOS mX10_at_ 2 := ⟨⟨mem_g 512 (by decide +kernel) rfl, mem_g 1 (by decide +kernel) rfl, ⟨by decide +kernel, by decide +kernel, by decide +kernel⟩, by decide⟩, mem_g 511 (by decide +kernel) rfl⟩
abbrev mX8_hasStageNamed : Mi := (yX8_hasStageNamed, cX8_hasStageNamed, 4, (Option.some Jvm.ClassFile.FieldType.boolean))
theorem mo_X8_hasStageNamed : MOV mX8_hasStageNamed 1 := ⟨⟨mem_g 516 (by decide +kernel) rfl, mem_g 5 (by decide +kernel) rfl, ⟨by decide +kernel, by decide +kernel, by decide +kernel⟩, by decide⟩, mem_g 515 (by decide +kernel) rfl, mem_sel 14 (q := (yX8_hasStageNamed, 14)) (by decide +kernel)⟩
abbrev mX9_takeKind : Mi := (yX9_takeKind, cX9_takeKind, 2, (Option.some Jvm.ClassFile.FieldType.int))
theorem mo_X9_takeKind : MOS mX9_takeKind 1 := ⟨⟨mem_g 519 (by decide +kernel) rfl, mem_g 12 (by decide +kernel) rfl, ⟨by decide +kernel, by decide +kernel, by decide +kernel⟩, by decide⟩, mem_g 518 (by decide +kernel) rfl⟩
abbrev mX4_takeWord : Mi := (yX4_takeWord, cX4_takeWord, 2, (Option.none))
theorem mo_X4_takeWord : MOV mX4_takeWord 1 := ⟨⟨mem_g 533 (by decide +kernel) rfl, mem_g 2 (by decide +kernel) rfl, ⟨by decide +kernel, by decide +kernel, by decide +kernel⟩, by decide⟩, mem_g 532 (by decide +kernel) rfl, mem_sel 15 (q := (yX4_takeWord, 10)) (by decide +kernel)⟩
abbrev mX4_takeNumber : Mi := (yX4_takeNumber, cX4_takeNumber, 4, (Option.some Jvm.ClassFile.FieldType.int))
theorem mo_X4_takeNumber : MOV mX4_takeNumber 2 := ⟨⟨mem_g 538 (by decide +kernel) rfl, mem_g 2 (by decide +kernel) rfl, ⟨by decide +kernel, by decide +kernel, by decide +kernel⟩, by decide⟩, mem_g 537 (by decide +kernel) rfl, mem_sel 16 (q := (yX4_takeNumber, 10)) (by decide +kernel)⟩
abbrev mX4_isNumber : Mi := (yX4_isNumber, cX4_isNumber, 1, (Option.some Jvm.ClassFile.FieldType.boolean))
theorem mo_X4_isNumber : MOV mX4_isNumber 0 := ⟨⟨mem_g 542 (by decide +kernel) rfl, mem_g 2 (by decide +kernel) rfl, ⟨by decide +kernel, by decide +kernel, by decide +kernel⟩, by decide⟩, mem_g 541 (by decide +kernel) rfl, mem_sel 17 (q := (yX4_isNumber, 10)) (by decide +kernel)⟩
abbrev mX8_addShed : Mi := (yX8_addShed, cX8_addShed, 6, (Option.none))
theorem mo_X8_addShed : MOV mX8_addShed 4 := ⟨⟨mem_g 548 (by decide +kernel) rfl, mem_g 5 (by decide +kernel) rfl, ⟨by decide +kernel, by decide +kernel, by decide +kernel⟩, by decide⟩, mem_g 547 (by decide +kernel) rfl, mem_sel 18 (q := (yX8_addShed, 14)) (by decide +kernel)⟩
abbrev mX10_put_ : Mi := (yX10_put_, cX10_put_, 4, (Option.none))
theorem mo_X10_put_ : MOS mX10_put_ 3 := ⟨⟨mem_g 551 (by decide +kernel) rfl, mem_g 1 (by decide +kernel) rfl, ⟨by decide +kernel, by decide +kernel, by decide +kernel⟩, by decide⟩, mem_g 550 (by decide +kernel) rfl⟩
abbrev mX9_readNear : Mi := (yX9_readNear, cX9_readNear, 4, (Option.none))
theorem mo_X9_readNear : MOS mX9_readNear 2 := ⟨⟨mem_g 557 (by decide +kernel) rfl, mem_g 12 (by decide +kernel) rfl, ⟨by decide +kernel, by decide +kernel, by decide +kernel⟩, by decide⟩, mem_g 556 (by decide +kernel) rfl⟩
abbrev mX4_shedHere : Mi := (yX4_shedHere, cX4_shedHere, 3, (Option.some Jvm.ClassFile.FieldType.int))
theorem mo_X4_shedHere : MOV mX4_shedHere 1 := ⟨⟨mem_g 561 (by decide +kernel) rfl, mem_g 2 (by decide +kernel) rfl, ⟨by decide +kernel, by decide +kernel, by decide +kernel⟩, by decide⟩, mem_g 560 (by decide +kernel) rfl, mem_sel 19 (q := (yX4_shedHere, 10)) (by decide +kernel)⟩
abbrev mX8_areNear : Mi := (yX8_areNear, cX8_areNear, 3, (Option.some Jvm.ClassFile.FieldType.boolean))
theorem mo_X8_areNear : MOV mX8_areNear 2 := ⟨⟨mem_g 565 (by decide +kernel) rfl, mem_g 5 (by decide +kernel) rfl, ⟨by decide +kernel, by decide +kernel, by decide +kernel⟩, by decide⟩, mem_g 564 (by decide +kernel) rfl, mem_sel 20 (q := (yX8_areNear, 14)) (by decide +kernel)⟩
abbrev mX8_addNear : Mi := (yX8_addNear, cX8_addNear, 3, (Option.none))
theorem mo_X8_addNear : MOV mX8_addNear 2 := ⟨⟨mem_g 570 (by decide +kernel) rfl, mem_g 5 (by decide +kernel) rfl, ⟨by decide +kernel, by decide +kernel, by decide +kernel⟩, by decide⟩, mem_g 569 (by decide +kernel) rfl, mem_sel 21 (q := (yX8_addNear, 14)) (by decide +kernel)⟩
abbrev mX9_readStage : Mi := (yX9_readStage, cX9_readStage, 6, (Option.none))
theorem mo_X9_readStage : MOS mX9_readStage 2 := ⟨⟨mem_g 575 (by decide +kernel) rfl, mem_g 12 (by decide +kernel) rfl, ⟨by decide +kernel, by decide +kernel, by decide +kernel⟩, by decide⟩, mem_g 574 (by decide +kernel) rfl⟩
abbrev mX8_addStage : Mi := (yX8_addStage, cX8_addStage, 5, (Option.none))
theorem mo_X8_addStage : MOV mX8_addStage 3 := ⟨⟨mem_g 583 (by decide +kernel) rfl, mem_g 5 (by decide +kernel) rfl, ⟨by decide +kernel, by decide +kernel, by decide +kernel⟩, by decide⟩, mem_g 582 (by decide +kernel) rfl, mem_sel 22 (q := (yX8_addStage, 14)) (by decide +kernel)⟩
abbrev mX9_readFrost : Mi := (yX9_readFrost, cX9_readFrost, 3, (Option.none))
theorem mo_X9_readFrost : MOS mX9_readFrost 2 := ⟨⟨mem_g 588 (by decide +kernel) rfl, mem_g 12 (by decide +kernel) rfl, ⟨by decide +kernel, by decide +kernel, by decide +kernel⟩, by decide⟩, mem_g 587 (by decide +kernel) rfl⟩
abbrev mX8_addFrost : Mi := (yX8_addFrost, cX8_addFrost, 2, (Option.none))
theorem mo_X8_addFrost : MOV mX8_addFrost 1 := ⟨⟨mem_g 592 (by decide +kernel) rfl, mem_g 5 (by decide +kernel) rfl, ⟨by decide +kernel, by decide +kernel, by decide +kernel⟩, by decide⟩, mem_g 591 (by decide +kernel) rfl, mem_sel 23 (q := (yX8_addFrost, 14)) (by decide +kernel)⟩
abbrev mX9_readRoof : Mi := (yX9_readRoof, cX9_readRoof, 2, (Option.none))
theorem mo_X9_readRoof : MOS mX9_readRoof 2 := ⟨⟨mem_g 599 (by decide +kernel) rfl, mem_g 12 (by decide +kernel) rfl, ⟨by decide +kernel, by decide +kernel, by decide +kernel⟩, by decide⟩, mem_g 598 (by decide +kernel) rfl⟩
abbrev mX9_readLaw : Mi := (yX9_readLaw, cX9_readLaw, 6, (Option.none))
theorem mo_X9_readLaw : MOS mX9_readLaw 4 := ⟨⟨mem_g 604 (by decide +kernel) rfl, mem_g 12 (by decide +kernel) rfl, ⟨by decide +kernel, by decide +kernel, by decide +kernel⟩, by decide⟩, mem_g 603 (by decide +kernel) rfl⟩
abbrev mX9_readPart : Mi := (yX9_readPart, cX9_readPart, 6, (Option.none))
theorem mo_X9_readPart : MOS mX9_readPart 3 := ⟨⟨mem_g 607 (by decide +kernel) rfl, mem_g 12 (by decide +kernel) rfl, ⟨by decide +kernel, by decide +kernel, by decide +kernel⟩, by decide⟩, mem_g 606 (by decide +kernel) rfl⟩
abbrev mX9_leafHere : Mi := (yX9_leafHere, cX9_leafHere, 1, (Option.some Jvm.ClassFile.FieldType.int))
theorem mo_X9_leafHere : MOS mX9_leafHere 1 := ⟨⟨mem_g 610 (by decide +kernel) rfl, mem_g 12 (by decide +kernel) rfl, ⟨by decide +kernel, by decide +kernel, by decide +kernel⟩, by decide⟩, mem_g 609 (by decide +kernel) rfl⟩
abbrev mX4_isSign : Mi := (yX4_isSign, cX4_isSign, 2, (Option.some Jvm.ClassFile.FieldType.boolean))
theorem mo_X4_isSign : MOV mX4_isSign 1 := ⟨⟨mem_g 624 (by decide +kernel) rfl, mem_g 2 (by decide +kernel) rfl, ⟨by decide +kernel, by decide +kernel, by decide +kernel⟩, by decide⟩, mem_g 623 (by decide +kernel) rfl, mem_sel 24 (q := (yX4_isSign, 10)) (by decide +kernel)⟩
abbrev mX0_add : Mi := (yX0_add, cX0_add, 2, (Option.none))
theorem mo_X0_add : MOV mX0_add 1 := ⟨⟨mem_g 628 (by decide +kernel) rfl, mem_g 6 (by decide +kernel) rfl, ⟨by decide +kernel, by decide +kernel, by decide +kernel⟩, by decide⟩, mem_g 627 (by decide +kernel) rfl, mem_sel 25 (q := (yX0_add, 4)) (by decide +kernel)⟩
abbrev mX4_takeSign : Mi := (yX4_takeSign, cX4_takeSign, 2, (Option.none))
theorem mo_X4_takeSign : MOV mX4_takeSign 1 := ⟨⟨mem_g 633 (by decide +kernel) rfl, mem_g 2 (by decide +kernel) rfl, ⟨by decide +kernel, by decide +kernel, by decide +kernel⟩, by decide⟩, mem_g 632 (by decide +kernel) rfl, mem_sel 26 (q := (yX4_takeSign, 10)) (by decide +kernel)⟩
abbrev mX9_joinerHere : Mi := (yX9_joinerHere, cX9_joinerHere, 2, (Option.some Jvm.ClassFile.FieldType.int))
theorem mo_X9_joinerHere : MOS mX9_joinerHere 2 := ⟨⟨mem_g 637 (by decide +kernel) rfl, mem_g 12 (by decide +kernel) rfl, ⟨by decide +kernel, by decide +kernel, by decide +kernel⟩, by decide⟩, mem_g 636 (by decide +kernel) rfl⟩
abbrev mX8_fillUp : Mi := (yX8_fillUp, cX8_fillUp, 1, (Option.none))
theorem mo_X8_fillUp : MOV mX8_fillUp 0 := ⟨⟨mem_g 645 (by decide +kernel) rfl, mem_g 5 (by decide +kernel) rfl, ⟨by decide +kernel, by decide +kernel, by decide +kernel⟩, by decide⟩, mem_g 644 (by decide +kernel) rfl, mem_sel 27 (q := (yX8_fillUp, 14)) (by decide +kernel)⟩
abbrev mX4_empty : Mi := (yX4_empty, cX4_empty, 1, (Option.none))
theorem mo_X4_empty : MOV mX4_empty 0 := ⟨⟨mem_g 650 (by decide +kernel) rfl, mem_g 2 (by decide +kernel) rfl, ⟨by decide +kernel, by decide +kernel, by decide +kernel⟩, by decide⟩, mem_g 649 (by decide +kernel) rfl, mem_sel 28 (q := (yX4_empty, 10)) (by decide +kernel)⟩
abbrev mX10_beginYard : Mi := (yX10_beginYard, cX10_beginYard, 3, (Option.none))
theorem mo_X10_beginYard : MOV mX10_beginYard 0 := ⟨⟨mem_g 654 (by decide +kernel) rfl, mem_g 1 (by decide +kernel) rfl, ⟨by decide +kernel, by decide +kernel, by decide +kernel⟩, by decide⟩, mem_g 653 (by decide +kernel) rfl, mem_sel 29 (q := (yX10_beginYard, 17)) (by decide +kernel)⟩
abbrev mX3_begin : Mi := (yX3_begin, cX3_begin, 3, (Option.none))
theorem mo_X3_begin : MOV mX3_begin 1 := ⟨⟨mem_g 658 (by decide +kernel) rfl, mem_g 8 (by decide +kernel) rfl, ⟨by decide +kernel, by decide +kernel, by decide +kernel⟩, by decide⟩, mem_g 657 (by decide +kernel) rfl, mem_sel 30 (q := (yX3_begin, 9)) (by decide +kernel)⟩
abbrev mX10_copyRow : Mi := (yX10_copyRow, cX10_copyRow, 3, (Option.none))
theorem mo_X10_copyRow : MOS mX10_copyRow 2 := ⟨⟨mem_g 661 (by decide +kernel) rfl, mem_g 1 (by decide +kernel) rfl, ⟨by decide +kernel, by decide +kernel, by decide +kernel⟩, by decide⟩, mem_g 660 (by decide +kernel) rfl⟩
abbrev mX5_clear : Mi := (yX5_clear, cX5_clear, 1, (Option.none))
theorem mo_X5_clear : MOV mX5_clear 0 := ⟨⟨mem_g 666 (by decide +kernel) rfl, mem_g 7 (by decide +kernel) rfl, ⟨by decide +kernel, by decide +kernel, by decide +kernel⟩, by decide⟩, mem_g 665 (by decide +kernel) rfl, mem_sel 31 (q := (yX5_clear, 4)) (by decide +kernel)⟩
abbrev mX2_clear : Mi := (yX2_clear, cX2_clear, 1, (Option.none))
theorem mo_X2_clear : MOV mX2_clear 0 := ⟨⟨mem_g 670 (by decide +kernel) rfl, mem_g 9 (by decide +kernel) rfl, ⟨by decide +kernel, by decide +kernel, by decide +kernel⟩, by decide⟩, mem_g 669 (by decide +kernel) rfl, mem_sel 32 (q := (yX2_clear, 4)) (by decide +kernel)⟩
abbrev mX10_markAt : Mi := (yX10_markAt, cX10_markAt, 2, (Option.some (Jvm.ClassFile.FieldType.object "MurmurSheds$Mark")))
theorem mo_X10_markAt : MOV mX10_markAt 1 := ⟨⟨mem_g 674 (by decide +kernel) rfl, mem_g 1 (by decide +kernel) rfl, ⟨by decide +kernel, by decide +kernel, by decide +kernel⟩, by decide⟩, mem_g 673 (by decide +kernel) rfl, mem_sel 33 (q := (yX10_markAt, 17)) (by decide +kernel)⟩
abbrev mX10_week : Mi := (yX10_week, cX10_week, 3, (Option.some Jvm.ClassFile.FieldType.int))
theorem mo_X10_week : MOV mX10_week 0 := ⟨⟨mem_g 679 (by decide +kernel) rfl, mem_g 1 (by decide +kernel) rfl, ⟨by decide +kernel, by decide +kernel, by decide +kernel⟩, by decide⟩, mem_g 677 (by decide +kernel) rfl, mem_g 678 (by decide +kernel) rfl⟩
abbrev mX6_read : Mi := (yX6_read, cX6_read, 4, (Option.some Jvm.ClassFile.FieldType.int))
theorem mo_X6_read : MOS mX6_read 3 := ⟨⟨mem_g 682 (by decide +kernel) rfl, mem_g 19 (by decide +kernel) rfl, ⟨by decide +kernel, by decide +kernel, by decide +kernel⟩, by decide⟩, mem_g 681 (by decide +kernel) rfl⟩
abbrev mX6_readLine : Mi := (yX6_readLine, cX6_readLine, 6, (Option.none))
theorem mo_X6_readLine : MOS mX6_readLine 3 := ⟨⟨mem_g 688 (by decide +kernel) rfl, mem_g 19 (by decide +kernel) rfl, ⟨by decide +kernel, by decide +kernel, by decide +kernel⟩, by decide⟩, mem_g 687 (by decide +kernel) rfl⟩
abbrev mX6_deedHere : Mi := (yX6_deedHere, cX6_deedHere, 1, (Option.some Jvm.ClassFile.FieldType.int))
theorem mo_X6_deedHere : MOS mX6_deedHere 1 := ⟨⟨mem_g 691 (by decide +kernel) rfl, mem_g 19 (by decide +kernel) rfl, ⟨by decide +kernel, by decide +kernel, by decide +kernel⟩, by decide⟩, mem_g 690 (by decide +kernel) rfl⟩
abbrev mX5_add : Mi := (yX5_add, cX5_add, 4, (Option.none))
theorem mo_X5_add : MOV mX5_add 3 := ⟨⟨mem_g 707 (by decide +kernel) rfl, mem_g 7 (by decide +kernel) rfl, ⟨by decide +kernel, by decide +kernel, by decide +kernel⟩, by decide⟩, mem_g 706 (by decide +kernel) rfl, mem_sel 34 (q := (yX5_add, 4)) (by decide +kernel)⟩
abbrev mX10_shed : Mi := (yX10_shed, cX10_shed, 3, (Option.some Jvm.ClassFile.FieldType.int))
theorem mo_X10_shed : MOV mX10_shed 2 := ⟨⟨mem_g 713 (by decide +kernel) rfl, mem_g 1 (by decide +kernel) rfl, ⟨by decide +kernel, by decide +kernel, by decide +kernel⟩, by decide⟩, mem_g 711 (by decide +kernel) rfl, mem_g 712 (by decide +kernel) rfl⟩
abbrev mX10_isShed : Mi := (yX10_isShed, cX10_isShed, 2, (Option.some Jvm.ClassFile.FieldType.boolean))
theorem mo_X10_isShed : MOV mX10_isShed 1 := ⟨⟨mem_g 717 (by decide +kernel) rfl, mem_g 1 (by decide +kernel) rfl, ⟨by decide +kernel, by decide +kernel, by decide +kernel⟩, by decide⟩, mem_g 716 (by decide +kernel) rfl, mem_sel 35 (q := (yX10_isShed, 17)) (by decide +kernel)⟩
abbrev mX3_isLit : Mi := (yX3_isLit, cX3_isLit, 2, (Option.some Jvm.ClassFile.FieldType.boolean))
theorem mo_X3_isLit : MOV mX3_isLit 1 := ⟨⟨mem_g 722 (by decide +kernel) rfl, mem_g 8 (by decide +kernel) rfl, ⟨by decide +kernel, by decide +kernel, by decide +kernel⟩, by decide⟩, mem_g 721 (by decide +kernel) rfl, mem_sel 36 (q := (yX3_isLit, 9)) (by decide +kernel)⟩
abbrev mX3_murmur : Mi := (yX3_murmur, cX3_murmur, 2, (Option.some Jvm.ClassFile.FieldType.int))
theorem mo_X3_murmur : MOV mX3_murmur 1 := ⟨⟨mem_g 726 (by decide +kernel) rfl, mem_g 8 (by decide +kernel) rfl, ⟨by decide +kernel, by decide +kernel, by decide +kernel⟩, by decide⟩, mem_g 725 (by decide +kernel) rfl, mem_sel 37 (q := (yX3_murmur, 9)) (by decide +kernel)⟩
abbrev mX3_murmurOf : Mi := (yX3_murmurOf, cX3_murmurOf, 2, (Option.some Jvm.ClassFile.FieldType.int))
theorem mo_X3_murmurOf : MOS mX3_murmurOf 2 := ⟨⟨mem_g 730 (by decide +kernel) rfl, mem_g 8 (by decide +kernel) rfl, ⟨by decide +kernel, by decide +kernel, by decide +kernel⟩, by decide⟩, mem_g 729 (by decide +kernel) rfl⟩
abbrev mX10_stage : Mi := (yX10_stage, cX10_stage, 3, (Option.some Jvm.ClassFile.FieldType.int))
theorem mo_X10_stage : MOV mX10_stage 2 := ⟨⟨mem_g 735 (by decide +kernel) rfl, mem_g 1 (by decide +kernel) rfl, ⟨by decide +kernel, by decide +kernel, by decide +kernel⟩, by decide⟩, mem_g 733 (by decide +kernel) rfl, mem_g 734 (by decide +kernel) rfl⟩
abbrev mX10_isStage : Mi := (yX10_isStage, cX10_isStage, 2, (Option.some Jvm.ClassFile.FieldType.boolean))
theorem mo_X10_isStage : MOV mX10_isStage 1 := ⟨⟨mem_g 739 (by decide +kernel) rfl, mem_g 1 (by decide +kernel) rfl, ⟨by decide +kernel, by decide +kernel, by decide +kernel⟩, by decide⟩, mem_g 738 (by decide +kernel) rfl, mem_sel 38 (q := (yX10_isStage, 17)) (by decide +kernel)⟩
abbrev mX10_count : Mi := (yX10_count, cX10_count, 2, (Option.some Jvm.ClassFile.FieldType.int))
theorem mo_X10_count : MOV mX10_count 1 := ⟨⟨mem_g 743 (by decide +kernel) rfl, mem_g 1 (by decide +kernel) rfl, ⟨by decide +kernel, by decide +kernel, by decide +kernel⟩, by decide⟩, mem_g 741 (by decide +kernel) rfl, mem_g 742 (by decide +kernel) rfl⟩
abbrev mX8_frostOf : Mi := (yX8_frostOf, cX8_frostOf, 2, (Option.some Jvm.ClassFile.FieldType.int))
theorem mo_X8_frostOf : MOV mX8_frostOf 1 := ⟨⟨mem_g 747 (by decide +kernel) rfl, mem_g 5 (by decide +kernel) rfl, ⟨by decide +kernel, by decide +kernel, by decide +kernel⟩, by decide⟩, mem_g 746 (by decide +kernel) rfl, mem_sel 39 (q := (yX8_frostOf, 14)) (by decide +kernel)⟩
abbrev mX3_crownsOfAll : Mi := (yX3_crownsOfAll, cX3_crownsOfAll, 3, (Option.some Jvm.ClassFile.FieldType.int))
theorem mo_X3_crownsOfAll : MOV mX3_crownsOfAll 0 := ⟨⟨mem_g 751 (by decide +kernel) rfl, mem_g 8 (by decide +kernel) rfl, ⟨by decide +kernel, by decide +kernel, by decide +kernel⟩, by decide⟩, mem_g 750 (by decide +kernel) rfl, mem_sel 40 (q := (yX3_crownsOfAll, 9)) (by decide +kernel)⟩
abbrev mX10_riots : Mi := (yX10_riots, cX10_riots, 3, (Option.some Jvm.ClassFile.FieldType.int))
theorem mo_X10_riots : MOV mX10_riots 0 := ⟨⟨mem_g 755 (by decide +kernel) rfl, mem_g 1 (by decide +kernel) rfl, ⟨by decide +kernel, by decide +kernel, by decide +kernel⟩, by decide⟩, mem_g 754 (by decide +kernel) rfl, mem_sel 41 (q := (yX10_riots, 17)) (by decide +kernel)⟩
abbrev mX10_night : Mi := (yX10_night, cX10_night, 1, (Option.some Jvm.ClassFile.FieldType.int))
theorem mo_X10_night : MOV mX10_night 0 := ⟨⟨mem_g 759 (by decide +kernel) rfl, mem_g 1 (by decide +kernel) rfl, ⟨by decide +kernel, by decide +kernel, by decide +kernel⟩, by decide⟩, mem_g 757 (by decide +kernel) rfl, mem_g 758 (by decide +kernel) rfl⟩
abbrev mX10_remember : Mi := (yX10_remember, cX10_remember, 2, (Option.none))
theorem mo_X10_remember : MOV mX10_remember 0 := ⟨⟨mem_g 763 (by decide +kernel) rfl, mem_g 1 (by decide +kernel) rfl, ⟨by decide +kernel, by decide +kernel, by decide +kernel⟩, by decide⟩, mem_g 762 (by decide +kernel) rfl, mem_sel 42 (q := (yX10_remember, 17)) (by decide +kernel)⟩
abbrev mX10_pastAt : Mi := (yX10_pastAt, cX10_pastAt, 2, (Option.some (Jvm.ClassFile.FieldType.object "MurmurSheds$Standing")))
theorem mo_X10_pastAt : MOV mX10_pastAt 1 := ⟨⟨mem_g 767 (by decide +kernel) rfl, mem_g 1 (by decide +kernel) rfl, ⟨by decide +kernel, by decide +kernel, by decide +kernel⟩, by decide⟩, mem_g 766 (by decide +kernel) rfl, mem_sel 43 (q := (yX10_pastAt, 17)) (by decide +kernel)⟩
abbrev mX3_copyFrom : Mi := (yX3_copyFrom, cX3_copyFrom, 2, (Option.none))
theorem mo_X3_copyFrom : MOV mX3_copyFrom 1 := ⟨⟨mem_g 771 (by decide +kernel) rfl, mem_g 8 (by decide +kernel) rfl, ⟨by decide +kernel, by decide +kernel, by decide +kernel⟩, by decide⟩, mem_g 770 (by decide +kernel) rfl, mem_sel 44 (q := (yX3_copyFrom, 9)) (by decide +kernel)⟩
abbrev mX3_pass : Mi := (yX3_pass, cX3_pass, 7, (Option.some Jvm.ClassFile.FieldType.int))
theorem mo_X3_pass : MOV mX3_pass 2 := ⟨⟨mem_g 776 (by decide +kernel) rfl, mem_g 8 (by decide +kernel) rfl, ⟨by decide +kernel, by decide +kernel, by decide +kernel⟩, by decide⟩, mem_g 775 (by decide +kernel) rfl, mem_sel 45 (q := (yX3_pass, 9)) (by decide +kernel)⟩
abbrev mX3_growth : Mi := (yX3_growth, cX3_growth, 9, (Option.some Jvm.ClassFile.FieldType.int))
theorem mo_X3_growth : MOV mX3_growth 3 := ⟨⟨mem_g 780 (by decide +kernel) rfl, mem_g 8 (by decide +kernel) rfl, ⟨by decide +kernel, by decide +kernel, by decide +kernel⟩, by decide⟩, mem_g 779 (by decide +kernel) rfl, mem_sel 46 (q := (yX3_growth, 9)) (by decide +kernel)⟩
abbrev mX0_amount : Mi := (yX0_amount, cX0_amount, 8, (Option.some Jvm.ClassFile.FieldType.int))
theorem mo_X0_amount : MOV mX0_amount 4 := ⟨⟨mem_g 786 (by decide +kernel) rfl, mem_g 6 (by decide +kernel) rfl, ⟨by decide +kernel, by decide +kernel, by decide +kernel⟩, by decide⟩, mem_g 785 (by decide +kernel) rfl, mem_sel 47 (q := (yX0_amount, 4)) (by decide +kernel)⟩
abbrev mX0_joined : Mi := (yX0_joined, cX0_joined, 3, (Option.some Jvm.ClassFile.FieldType.int))
theorem mo_X0_joined : MOS mX0_joined 3 := ⟨⟨mem_g 790 (by decide +kernel) rfl, mem_g 6 (by decide +kernel) rfl, ⟨by decide +kernel, by decide +kernel, by decide +kernel⟩, by decide⟩, mem_g 789 (by decide +kernel) rfl⟩
abbrev mX3_greaterNear : Mi := (yX3_greaterNear, cX3_greaterNear, 6, (Option.some Jvm.ClassFile.FieldType.int))
theorem mo_X3_greaterNear : MOV mX3_greaterNear 2 := ⟨⟨mem_g 794 (by decide +kernel) rfl, mem_g 8 (by decide +kernel) rfl, ⟨by decide +kernel, by decide +kernel, by decide +kernel⟩, by decide⟩, mem_g 793 (by decide +kernel) rfl, mem_sel 48 (q := (yX3_greaterNear, 9)) (by decide +kernel)⟩
abbrev mX3_passOnHearsay : Mi := (yX3_passOnHearsay, cX3_passOnHearsay, 4, (Option.none))
theorem mo_X3_passOnHearsay : MOV mX3_passOnHearsay 1 := ⟨⟨mem_g 798 (by decide +kernel) rfl, mem_g 8 (by decide +kernel) rfl, ⟨by decide +kernel, by decide +kernel, by decide +kernel⟩, by decide⟩, mem_g 797 (by decide +kernel) rfl, mem_sel 49 (q := (yX3_passOnHearsay, 9)) (by decide +kernel)⟩
abbrev mX10_heat : Mi := (yX10_heat, cX10_heat, 4, (Option.some Jvm.ClassFile.FieldType.int))
theorem mo_X10_heat : MOV mX10_heat 2 := ⟨⟨mem_g 803 (by decide +kernel) rfl, mem_g 1 (by decide +kernel) rfl, ⟨by decide +kernel, by decide +kernel, by decide +kernel⟩, by decide⟩, mem_g 801 (by decide +kernel) rfl, mem_g 802 (by decide +kernel) rfl⟩
abbrev mX3_heatTo : Mi := (yX3_heatTo, cX3_heatTo, 3, (Option.none))
theorem mo_X3_heatTo : MOV mX3_heatTo 2 := ⟨⟨mem_g 808 (by decide +kernel) rfl, mem_g 8 (by decide +kernel) rfl, ⟨by decide +kernel, by decide +kernel, by decide +kernel⟩, by decide⟩, mem_g 807 (by decide +kernel) rfl, mem_sel 50 (q := (yX3_heatTo, 9)) (by decide +kernel)⟩
abbrev mX10_light : Mi := (yX10_light, cX10_light, 2, (Option.some Jvm.ClassFile.FieldType.boolean))
theorem mo_X10_light : MOV mX10_light 1 := ⟨⟨mem_g 812 (by decide +kernel) rfl, mem_g 1 (by decide +kernel) rfl, ⟨by decide +kernel, by decide +kernel, by decide +kernel⟩, by decide⟩, mem_g 810 (by decide +kernel) rfl, mem_g 811 (by decide +kernel) rfl⟩
abbrev mX3_lightUp : Mi := (yX3_lightUp, cX3_lightUp, 3, (Option.some Jvm.ClassFile.FieldType.boolean))
theorem mo_X3_lightUp : MOV mX3_lightUp 1 := ⟨⟨mem_g 816 (by decide +kernel) rfl, mem_g 8 (by decide +kernel) rfl, ⟨by decide +kernel, by decide +kernel, by decide +kernel⟩, by decide⟩, mem_g 815 (by decide +kernel) rfl, mem_sel 51 (q := (yX3_lightUp, 9)) (by decide +kernel)⟩
abbrev mX10_pull : Mi := (yX10_pull, cX10_pull, 3, (Option.some Jvm.ClassFile.FieldType.int))
theorem mo_X10_pull : MOV mX10_pull 2 := ⟨⟨mem_g 820 (by decide +kernel) rfl, mem_g 1 (by decide +kernel) rfl, ⟨by decide +kernel, by decide +kernel, by decide +kernel⟩, by decide⟩, mem_g 818 (by decide +kernel) rfl, mem_g 819 (by decide +kernel) rfl⟩
abbrev mX3_canLose : Mi := (yX3_canLose, cX3_canLose, 3, (Option.some Jvm.ClassFile.FieldType.boolean))
theorem mo_X3_canLose : MOV mX3_canLose 2 := ⟨⟨mem_g 824 (by decide +kernel) rfl, mem_g 8 (by decide +kernel) rfl, ⟨by decide +kernel, by decide +kernel, by decide +kernel⟩, by decide⟩, mem_g 823 (by decide +kernel) rfl, mem_sel 52 (q := (yX3_canLose, 9)) (by decide +kernel)⟩
abbrev mX3_lose : Mi := (yX3_lose, cX3_lose, 3, (Option.none))
theorem mo_X3_lose : MOV mX3_lose 2 := ⟨⟨mem_g 828 (by decide +kernel) rfl, mem_g 8 (by decide +kernel) rfl, ⟨by decide +kernel, by decide +kernel, by decide +kernel⟩, by decide⟩, mem_g 827 (by decide +kernel) rfl, mem_sel 53 (q := (yX3_lose, 9)) (by decide +kernel)⟩
abbrev mX10_undo : Mi := (yX10_undo, cX10_undo, 2, (Option.some Jvm.ClassFile.FieldType.boolean))
theorem mo_X10_undo : MOV mX10_undo 0 := ⟨⟨mem_g 832 (by decide +kernel) rfl, mem_g 1 (by decide +kernel) rfl, ⟨by decide +kernel, by decide +kernel, by decide +kernel⟩, by decide⟩, mem_g 830 (by decide +kernel) rfl, mem_g 831 (by decide +kernel) rfl⟩
abbrev mX10_mark : Mi := (yX10_mark, cX10_mark, 4, (Option.some Jvm.ClassFile.FieldType.boolean))
theorem mo_X10_mark : MOV mX10_mark 2 := ⟨⟨mem_g 836 (by decide +kernel) rfl, mem_g 1 (by decide +kernel) rfl, ⟨by decide +kernel, by decide +kernel, by decide +kernel⟩, by decide⟩, mem_g 834 (by decide +kernel) rfl, mem_g 835 (by decide +kernel) rfl⟩
abbrev mX5_copyFrom : Mi := (yX5_copyFrom, cX5_copyFrom, 2, (Option.none))
theorem mo_X5_copyFrom : MOV mX5_copyFrom 1 := ⟨⟨mem_g 840 (by decide +kernel) rfl, mem_g 7 (by decide +kernel) rfl, ⟨by decide +kernel, by decide +kernel, by decide +kernel⟩, by decide⟩, mem_g 839 (by decide +kernel) rfl, mem_sel 54 (q := (yX5_copyFrom, 4)) (by decide +kernel)⟩
abbrev mX2_copyFrom : Mi := (yX2_copyFrom, cX2_copyFrom, 2, (Option.none))
theorem mo_X2_copyFrom : MOV mX2_copyFrom 1 := ⟨⟨mem_g 845 (by decide +kernel) rfl, mem_g 9 (by decide +kernel) rfl, ⟨by decide +kernel, by decide +kernel, by decide +kernel⟩, by decide⟩, mem_g 844 (by decide +kernel) rfl, mem_sel 55 (q := (yX2_copyFrom, 4)) (by decide +kernel)⟩
abbrev mX10_judged : Mi := (yX10_judged, cX10_judged, 6, (Option.some Jvm.ClassFile.FieldType.int))
theorem mo_X10_judged : MOV mX10_judged 1 := ⟨⟨mem_g 850 (by decide +kernel) rfl, mem_g 1 (by decide +kernel) rfl, ⟨by decide +kernel, by decide +kernel, by decide +kernel⟩, by decide⟩, mem_g 848 (by decide +kernel) rfl, mem_g 849 (by decide +kernel) rfl⟩
abbrev mX5_carryOut : Mi := (yX5_carryOut, cX5_carryOut, 7, (Option.some Jvm.ClassFile.FieldType.int))
theorem mo_X5_carryOut : MOV mX5_carryOut 3 := ⟨⟨mem_g 854 (by decide +kernel) rfl, mem_g 7 (by decide +kernel) rfl, ⟨by decide +kernel, by decide +kernel, by decide +kernel⟩, by decide⟩, mem_g 853 (by decide +kernel) rfl, mem_sel 56 (q := (yX5_carryOut, 4)) (by decide +kernel)⟩
abbrev mX10_later : Mi := (yX10_later, cX10_later, 3, (Option.some Jvm.ClassFile.FieldType.int))
theorem mo_X10_later : MOV mX10_later 2 := ⟨⟨mem_g 865 (by decide +kernel) rfl, mem_g 1 (by decide +kernel) rfl, ⟨by decide +kernel, by decide +kernel, by decide +kernel⟩, by decide⟩, mem_g 863 (by decide +kernel) rfl, mem_g 864 (by decide +kernel) rfl⟩
abbrev mX10_tryNights : Mi := (yX10_tryNights, cX10_tryNights, 3, (Option.none))
theorem mo_X10_tryNights : MOV mX10_tryNights 1 := ⟨⟨mem_g 869 (by decide +kernel) rfl, mem_g 1 (by decide +kernel) rfl, ⟨by decide +kernel, by decide +kernel, by decide +kernel⟩, by decide⟩, mem_g 868 (by decide +kernel) rfl, mem_sel 57 (q := (yX10_tryNights, 17)) (by decide +kernel)⟩
abbrev mX10_beginTrial : Mi := (yX10_beginTrial, cX10_beginTrial, 1, (Option.none))
theorem mo_X10_beginTrial : MOV mX10_beginTrial 0 := ⟨⟨mem_g 873 (by decide +kernel) rfl, mem_g 1 (by decide +kernel) rfl, ⟨by decide +kernel, by decide +kernel, by decide +kernel⟩, by decide⟩, mem_g 872 (by decide +kernel) rfl, mem_sel 58 (q := (yX10_beginTrial, 17)) (by decide +kernel)⟩
abbrev mX10_passTrial : Mi := (yX10_passTrial, cX10_passTrial, 1, (Option.some Jvm.ClassFile.FieldType.int))
theorem mo_X10_passTrial : MOV mX10_passTrial 0 := ⟨⟨mem_g 877 (by decide +kernel) rfl, mem_g 1 (by decide +kernel) rfl, ⟨by decide +kernel, by decide +kernel, by decide +kernel⟩, by decide⟩, mem_g 876 (by decide +kernel) rfl, mem_sel 59 (q := (yX10_passTrial, 17)) (by decide +kernel)⟩
abbrev mX10_creak : Mi := (yX10_creak, cX10_creak, 3, (Option.some Jvm.ClassFile.FieldType.int))
theorem mo_X10_creak : MOV mX10_creak 2 := ⟨⟨mem_g 881 (by decide +kernel) rfl, mem_g 1 (by decide +kernel) rfl, ⟨by decide +kernel, by decide +kernel, by decide +kernel⟩, by decide⟩, mem_g 879 (by decide +kernel) rfl, mem_g 880 (by decide +kernel) rfl⟩
abbrev mX10_pops : Mi := (yX10_pops, cX10_pops, 3, (Option.some Jvm.ClassFile.FieldType.int))
theorem mo_X10_pops : MOV mX10_pops 1 := ⟨⟨mem_g 885 (by decide +kernel) rfl, mem_g 1 (by decide +kernel) rfl, ⟨by decide +kernel, by decide +kernel, by decide +kernel⟩, by decide⟩, mem_g 883 (by decide +kernel) rfl, mem_g 884 (by decide +kernel) rfl⟩
abbrev mX10_first : Mi := (yX10_first, cX10_first, 3, (Option.some Jvm.ClassFile.FieldType.int))
theorem mo_X10_first : MOV mX10_first 0 := ⟨⟨mem_g 889 (by decide +kernel) rfl, mem_g 1 (by decide +kernel) rfl, ⟨by decide +kernel, by decide +kernel, by decide +kernel⟩, by decide⟩, mem_g 887 (by decide +kernel) rfl, mem_g 888 (by decide +kernel) rfl⟩
abbrev mX10_lowest : Mi := (yX10_lowest, cX10_lowest, 2, (Option.some Jvm.ClassFile.FieldType.int))
theorem mo_X10_lowest : MOS mX10_lowest 1 := ⟨⟨mem_g 892 (by decide +kernel) rfl, mem_g 1 (by decide +kernel) rfl, ⟨by decide +kernel, by decide +kernel, by decide +kernel⟩, by decide⟩, mem_g 891 (by decide +kernel) rfl⟩
abbrev mX10_riot : Mi := (yX10_riot, cX10_riot, 3, (Option.some Jvm.ClassFile.FieldType.int))
theorem mo_X10_riot : MOV mX10_riot 1 := ⟨⟨mem_g 896 (by decide +kernel) rfl, mem_g 1 (by decide +kernel) rfl, ⟨by decide +kernel, by decide +kernel, by decide +kernel⟩, by decide⟩, mem_g 894 (by decide +kernel) rfl, mem_g 895 (by decide +kernel) rfl⟩
abbrev mX10_calm : Mi := (yX10_calm, cX10_calm, 5, (Option.some Jvm.ClassFile.FieldType.int))
theorem mo_X10_calm : MOV mX10_calm 1 := ⟨⟨mem_g 900 (by decide +kernel) rfl, mem_g 1 (by decide +kernel) rfl, ⟨by decide +kernel, by decide +kernel, by decide +kernel⟩, by decide⟩, mem_g 898 (by decide +kernel) rfl, mem_g 899 (by decide +kernel) rfl⟩
abbrev mX10_roofed : Mi := (yX10_roofed, cX10_roofed, 2, (Option.some Jvm.ClassFile.FieldType.int))
theorem mo_X10_roofed : MOV mX10_roofed 0 := ⟨⟨mem_g 905 (by decide +kernel) rfl, mem_g 1 (by decide +kernel) rfl, ⟨by decide +kernel, by decide +kernel, by decide +kernel⟩, by decide⟩, mem_g 903 (by decide +kernel) rfl, mem_g 904 (by decide +kernel) rfl⟩
abbrev mX3_allAtRoof : Mi := (yX3_allAtRoof, cX3_allAtRoof, 3, (Option.some Jvm.ClassFile.FieldType.boolean))
theorem mo_X3_allAtRoof : MOV mX3_allAtRoof 1 := ⟨⟨mem_g 909 (by decide +kernel) rfl, mem_g 8 (by decide +kernel) rfl, ⟨by decide +kernel, by decide +kernel, by decide +kernel⟩, by decide⟩, mem_g 908 (by decide +kernel) rfl, mem_sel 60 (q := (yX3_allAtRoof, 9)) (by decide +kernel)⟩
abbrev mX10_yields : Mi := (yX10_yields, cX10_yields, 2, (Option.some Jvm.ClassFile.FieldType.int))
theorem mo_X10_yields : MOV mX10_yields 1 := ⟨⟨mem_g 913 (by decide +kernel) rfl, mem_g 1 (by decide +kernel) rfl, ⟨by decide +kernel, by decide +kernel, by decide +kernel⟩, by decide⟩, mem_g 911 (by decide +kernel) rfl, mem_g 912 (by decide +kernel) rfl⟩
abbrev mX3_murmursOfAll : Mi := (yX3_murmursOfAll, cX3_murmursOfAll, 3, (Option.some Jvm.ClassFile.FieldType.int))
theorem mo_X3_murmursOfAll : MOV mX3_murmursOfAll 0 := ⟨⟨mem_g 917 (by decide +kernel) rfl, mem_g 8 (by decide +kernel) rfl, ⟨by decide +kernel, by decide +kernel, by decide +kernel⟩, by decide⟩, mem_g 916 (by decide +kernel) rfl, mem_sel 61 (q := (yX3_murmursOfAll, 9)) (by decide +kernel)⟩
abbrev mX10_loud : Mi := (yX10_loud, cX10_loud, 3, (Option.some Jvm.ClassFile.FieldType.int))
theorem mo_X10_loud : MOV mX10_loud 0 := ⟨⟨mem_g 922 (by decide +kernel) rfl, mem_g 1 (by decide +kernel) rfl, ⟨by decide +kernel, by decide +kernel, by decide +kernel⟩, by decide⟩, mem_g 920 (by decide +kernel) rfl, mem_g 921 (by decide +kernel) rfl⟩
abbrev mX10_tall : Mi := (yX10_tall, cX10_tall, 3, (Option.some Jvm.ClassFile.FieldType.int))
theorem mo_X10_tall : MOV mX10_tall 0 := ⟨⟨mem_g 926 (by decide +kernel) rfl, mem_g 1 (by decide +kernel) rfl, ⟨by decide +kernel, by decide +kernel, by decide +kernel⟩, by decide⟩, mem_g 924 (by decide +kernel) rfl, mem_g 925 (by decide +kernel) rfl⟩
abbrev mX10_had : Mi := (yX10_had, cX10_had, 2, (Option.some Jvm.ClassFile.FieldType.int))
theorem mo_X10_had : MOV mX10_had 1 := ⟨⟨mem_g 930 (by decide +kernel) rfl, mem_g 1 (by decide +kernel) rfl, ⟨by decide +kernel, by decide +kernel, by decide +kernel⟩, by decide⟩, mem_g 928 (by decide +kernel) rfl, mem_g 929 (by decide +kernel) rfl⟩
abbrev mX10_hadIn : Mi := (yX10_hadIn, cX10_hadIn, 5, (Option.some Jvm.ClassFile.FieldType.int))
theorem mo_X10_hadIn : MOV mX10_hadIn 2 := ⟨⟨mem_g 934 (by decide +kernel) rfl, mem_g 1 (by decide +kernel) rfl, ⟨by decide +kernel, by decide +kernel, by decide +kernel⟩, by decide⟩, mem_g 933 (by decide +kernel) rfl, mem_sel 62 (q := (yX10_hadIn, 17)) (by decide +kernel)⟩
abbrev mX8_suits : Mi := (yX8_suits, cX8_suits, 3, (Option.some Jvm.ClassFile.FieldType.boolean))
theorem mo_X8_suits : MOV mX8_suits 2 := ⟨⟨mem_g 938 (by decide +kernel) rfl, mem_g 5 (by decide +kernel) rfl, ⟨by decide +kernel, by decide +kernel, by decide +kernel⟩, by decide⟩, mem_g 937 (by decide +kernel) rfl, mem_sel 63 (q := (yX8_suits, 14)) (by decide +kernel)⟩
abbrev mX10_waits : Mi := (yX10_waits, cX10_waits, 3, (Option.some Jvm.ClassFile.FieldType.int))
theorem mo_X10_waits : MOV mX10_waits 1 := ⟨⟨mem_g 943 (by decide +kernel) rfl, mem_g 1 (by decide +kernel) rfl, ⟨by decide +kernel, by decide +kernel, by decide +kernel⟩, by decide⟩, mem_g 941 (by decide +kernel) rfl, mem_g 942 (by decide +kernel) rfl⟩
abbrev mX10_plays : Mi := (yX10_plays, cX10_plays, 2, (Option.some Jvm.ClassFile.FieldType.int))
theorem mo_X10_plays : MOV mX10_plays 1 := ⟨⟨mem_g 947 (by decide +kernel) rfl, mem_g 1 (by decide +kernel) rfl, ⟨by decide +kernel, by decide +kernel, by decide +kernel⟩, by decide⟩, mem_g 945 (by decide +kernel) rfl, mem_g 946 (by decide +kernel) rfl⟩
abbrev mX10_giveFrom : Mi := (yX10_giveFrom, cX10_giveFrom, 4, (Option.none))
theorem mo_X10_giveFrom : MOV mX10_giveFrom 3 := ⟨⟨mem_g 951 (by decide +kernel) rfl, mem_g 1 (by decide +kernel) rfl, ⟨by decide +kernel, by decide +kernel, by decide +kernel⟩, by decide⟩, mem_g 950 (by decide +kernel) rfl, mem_sel 64 (q := (yX10_giveFrom, 17)) (by decide +kernel)⟩
abbrev mX10_giveEach : Mi := (yX10_giveEach, cX10_giveEach, 6, (Option.none))
theorem mo_X10_giveEach : MOV mX10_giveEach 3 := ⟨⟨mem_g 956 (by decide +kernel) rfl, mem_g 1 (by decide +kernel) rfl, ⟨by decide +kernel, by decide +kernel, by decide +kernel⟩, by decide⟩, mem_g 955 (by decide +kernel) rfl, mem_sel 65 (q := (yX10_giveEach, 17)) (by decide +kernel)⟩
abbrev mX10_blend : Mi := (yX10_blend, cX10_blend, 5, (Option.some Jvm.ClassFile.FieldType.int))
theorem mo_X10_blend : MOV mX10_blend 1 := ⟨⟨mem_g 961 (by decide +kernel) rfl, mem_g 1 (by decide +kernel) rfl, ⟨by decide +kernel, by decide +kernel, by decide +kernel⟩, by decide⟩, mem_g 959 (by decide +kernel) rfl, mem_g 960 (by decide +kernel) rfl⟩
abbrev mJ6_bitCount_0f7a4 : Mi := (yJ6_bitCount_0f7a4, cJ6_bitCount_0f7a4, 1, (Option.some Jvm.ClassFile.FieldType.int))
theorem mo_J6_bitCount_0f7a4 : MOS mJ6_bitCount_0f7a4 1 := ⟨⟨mem_g 964 (by decide +kernel) rfl, mem_g 20 (by decide +kernel) rfl, ⟨by decide +kernel, by decide +kernel, by decide +kernel⟩, by decide⟩, mem_g 963 (by decide +kernel) rfl⟩
abbrev mX10_blends : Mi := (yX10_blends, cX10_blends, 5, (Option.some Jvm.ClassFile.FieldType.boolean))
theorem mo_X10_blends : MOV mX10_blends 2 := ⟨⟨mem_g 971 (by decide +kernel) rfl, mem_g 1 (by decide +kernel) rfl, ⟨by decide +kernel, by decide +kernel, by decide +kernel⟩, by decide⟩, mem_g 970 (by decide +kernel) rfl, mem_sel 66 (q := (yX10_blends, 17)) (by decide +kernel)⟩
abbrev mX10_aim : Mi := (yX10_aim, cX10_aim, 6, (Option.some Jvm.ClassFile.FieldType.int))
theorem mo_X10_aim : MOV mX10_aim 3 := ⟨⟨mem_g 975 (by decide +kernel) rfl, mem_g 1 (by decide +kernel) rfl, ⟨by decide +kernel, by decide +kernel, by decide +kernel⟩, by decide⟩, mem_g 973 (by decide +kernel) rfl, mem_g 974 (by decide +kernel) rfl⟩
abbrev mX10_comesInTime : Mi := (yX10_comesInTime, cX10_comesInTime, 6, (Option.some Jvm.ClassFile.FieldType.boolean))
theorem mo_X10_comesInTime : MOV mX10_comesInTime 4 := ⟨⟨mem_g 979 (by decide +kernel) rfl, mem_g 1 (by decide +kernel) rfl, ⟨by decide +kernel, by decide +kernel, by decide +kernel⟩, by decide⟩, mem_g 978 (by decide +kernel) rfl, mem_sel 67 (q := (yX10_comesInTime, 17)) (by decide +kernel)⟩
abbrev mX10_reach : Mi := (yX10_reach, cX10_reach, 2, (Option.some Jvm.ClassFile.FieldType.int))
theorem mo_X10_reach : MOV mX10_reach 1 := ⟨⟨mem_g 983 (by decide +kernel) rfl, mem_g 1 (by decide +kernel) rfl, ⟨by decide +kernel, by decide +kernel, by decide +kernel⟩, by decide⟩, mem_g 981 (by decide +kernel) rfl, mem_g 982 (by decide +kernel) rfl⟩
abbrev mX10_reachOf : Mi := (yX10_reachOf, cX10_reachOf, 4, (Option.some Jvm.ClassFile.FieldType.int))
theorem mo_X10_reachOf : MOV mX10_reachOf 1 := ⟨⟨mem_g 987 (by decide +kernel) rfl, mem_g 1 (by decide +kernel) rfl, ⟨by decide +kernel, by decide +kernel, by decide +kernel⟩, by decide⟩, mem_g 986 (by decide +kernel) rfl, mem_sel 68 (q := (yX10_reachOf, 17)) (by decide +kernel)⟩
abbrev mX8_withNear : Mi := (yX8_withNear, cX8_withNear, 4, (Option.some Jvm.ClassFile.FieldType.int))
theorem mo_X8_withNear : MOV mX8_withNear 1 := ⟨⟨mem_g 991 (by decide +kernel) rfl, mem_g 5 (by decide +kernel) rfl, ⟨by decide +kernel, by decide +kernel, by decide +kernel⟩, by decide⟩, mem_g 990 (by decide +kernel) rfl, mem_sel 69 (q := (yX8_withNear, 14)) (by decide +kernel)⟩
abbrev mX10_far : Mi := (yX10_far, cX10_far, 5, (Option.some Jvm.ClassFile.FieldType.int))
theorem mo_X10_far : MOV mX10_far 2 := ⟨⟨mem_g 995 (by decide +kernel) rfl, mem_g 1 (by decide +kernel) rfl, ⟨by decide +kernel, by decide +kernel, by decide +kernel⟩, by decide⟩, mem_g 993 (by decide +kernel) rfl, mem_g 994 (by decide +kernel) rfl⟩
abbrev mX10_parts : Mi := (yX10_parts, cX10_parts, 3, (Option.some Jvm.ClassFile.FieldType.int))
theorem mo_X10_parts : MOV mX10_parts 0 := ⟨⟨mem_g 999 (by decide +kernel) rfl, mem_g 1 (by decide +kernel) rfl, ⟨by decide +kernel, by decide +kernel, by decide +kernel⟩, by decide⟩, mem_g 997 (by decide +kernel) rfl, mem_g 998 (by decide +kernel) rfl⟩
abbrev mX10_heard : Mi := (yX10_heard, cX10_heard, 2, (Option.some Jvm.ClassFile.FieldType.int))
theorem mo_X10_heard : MOV mX10_heard 1 := ⟨⟨mem_g 1003 (by decide +kernel) rfl, mem_g 1 (by decide +kernel) rfl, ⟨by decide +kernel, by decide +kernel, by decide +kernel⟩, by decide⟩, mem_g 1001 (by decide +kernel) rfl, mem_g 1002 (by decide +kernel) rfl⟩
abbrev mX10_news : Mi := (yX10_news, cX10_news, 2, (Option.some Jvm.ClassFile.FieldType.int))
theorem mo_X10_news : MOV mX10_news 0 := ⟨⟨mem_g 1007 (by decide +kernel) rfl, mem_g 1 (by decide +kernel) rfl, ⟨by decide +kernel, by decide +kernel, by decide +kernel⟩, by decide⟩, mem_g 1005 (by decide +kernel) rfl, mem_g 1006 (by decide +kernel) rfl⟩
abbrev mX10_allHaveHeard : Mi := (yX10_allHaveHeard, cX10_allHaveHeard, 2, (Option.some Jvm.ClassFile.FieldType.boolean))
theorem mo_X10_allHaveHeard : MOV mX10_allHaveHeard 0 := ⟨⟨mem_g 1011 (by decide +kernel) rfl, mem_g 1 (by decide +kernel) rfl, ⟨by decide +kernel, by decide +kernel, by decide +kernel⟩, by decide⟩, mem_g 1010 (by decide +kernel) rfl, mem_sel 70 (q := (yX10_allHaveHeard, 17)) (by decide +kernel)⟩
abbrev mX10_see : Mi := (yX10_see, cX10_see, 4, (Option.some Jvm.ClassFile.FieldType.boolean))
theorem mo_X10_see : MOV mX10_see 3 := ⟨⟨mem_g 1015 (by decide +kernel) rfl, mem_g 1 (by decide +kernel) rfl, ⟨by decide +kernel, by decide +kernel, by decide +kernel⟩, by decide⟩, mem_g 1013 (by decide +kernel) rfl, mem_g 1014 (by decide +kernel) rfl⟩
abbrev mX2_add : Mi := (yX2_add, cX2_add, 4, (Option.some Jvm.ClassFile.FieldType.boolean))
theorem mo_X2_add : MOV mX2_add 3 := ⟨⟨mem_g 1019 (by decide +kernel) rfl, mem_g 9 (by decide +kernel) rfl, ⟨by decide +kernel, by decide +kernel, by decide +kernel⟩, by decide⟩, mem_g 1018 (by decide +kernel) rfl, mem_sel 71 (q := (yX2_add, 4)) (by decide +kernel)⟩
abbrev mX10_who : Mi := (yX10_who, cX10_who, 1, (Option.some Jvm.ClassFile.FieldType.int))
theorem mo_X10_who : MOV mX10_who 0 := ⟨⟨mem_g 1024 (by decide +kernel) rfl, mem_g 1 (by decide +kernel) rfl, ⟨by decide +kernel, by decide +kernel, by decide +kernel⟩, by decide⟩, mem_g 1022 (by decide +kernel) rfl, mem_g 1023 (by decide +kernel) rfl⟩
abbrev mX10_listen : Mi := (yX10_listen, cX10_listen, 3, (Option.none))
theorem mo_X10_listen : MOV mX10_listen 0 := ⟨⟨mem_g 1028 (by decide +kernel) rfl, mem_g 1 (by decide +kernel) rfl, ⟨by decide +kernel, by decide +kernel, by decide +kernel⟩, by decide⟩, mem_g 1027 (by decide +kernel) rfl, mem_sel 72 (q := (yX10_listen, 17)) (by decide +kernel)⟩
abbrev mX10_suspects : Mi := (yX10_suspects, cX10_suspects, 3, (Option.some Jvm.ClassFile.FieldType.int))
theorem mo_X10_suspects : MOV mX10_suspects 0 := ⟨⟨mem_g 1032 (by decide +kernel) rfl, mem_g 1 (by decide +kernel) rfl, ⟨by decide +kernel, by decide +kernel, by decide +kernel⟩, by decide⟩, mem_g 1031 (by decide +kernel) rfl, mem_sel 73 (q := (yX10_suspects, 17)) (by decide +kernel)⟩
abbrev mX10_isSuspect : Mi := (yX10_isSuspect, cX10_isSuspect, 4, (Option.some Jvm.ClassFile.FieldType.boolean))
theorem mo_X10_isSuspect : MOV mX10_isSuspect 1 := ⟨⟨mem_g 1036 (by decide +kernel) rfl, mem_g 1 (by decide +kernel) rfl, ⟨by decide +kernel, by decide +kernel, by decide +kernel⟩, by decide⟩, mem_g 1035 (by decide +kernel) rfl, mem_sel 74 (q := (yX10_isSuspect, 17)) (by decide +kernel)⟩
abbrev mX10_creakAhead : Mi := (yX10_creakAhead, cX10_creakAhead, 3, (Option.some Jvm.ClassFile.FieldType.int))
theorem mo_X10_creakAhead : MOV mX10_creakAhead 2 := ⟨⟨mem_g 1040 (by decide +kernel) rfl, mem_g 1 (by decide +kernel) rfl, ⟨by decide +kernel, by decide +kernel, by decide +kernel⟩, by decide⟩, mem_g 1039 (by decide +kernel) rfl, mem_sel 75 (q := (yX10_creakAhead, 17)) (by decide +kernel)⟩
abbrev mX10_ask : Mi := (yX10_ask, cX10_ask, 9, (Option.some Jvm.ClassFile.FieldType.int))
theorem mo_X10_ask : MOV mX10_ask 0 := ⟨⟨mem_g 1044 (by decide +kernel) rfl, mem_g 1 (by decide +kernel) rfl, ⟨by decide +kernel, by decide +kernel, by decide +kernel⟩, by decide⟩, mem_g 1042 (by decide +kernel) rfl, mem_g 1043 (by decide +kernel) rfl⟩
abbrev mX10_creaking : Mi := (yX10_creaking, cX10_creaking, 6, (Option.some Jvm.ClassFile.FieldType.int))
theorem mo_X10_creaking : MOV mX10_creaking 3 := ⟨⟨mem_g 1048 (by decide +kernel) rfl, mem_g 1 (by decide +kernel) rfl, ⟨by decide +kernel, by decide +kernel, by decide +kernel⟩, by decide⟩, mem_g 1047 (by decide +kernel) rfl, mem_sel 76 (q := (yX10_creaking, 17)) (by decide +kernel)⟩
abbrev mX10_stick : Mi := (yX10_stick, cX10_stick, 5, (Option.some Jvm.ClassFile.FieldType.int))
theorem mo_X10_stick : MOV mX10_stick 0 := ⟨⟨mem_g 1053 (by decide +kernel) rfl, mem_g 1 (by decide +kernel) rfl, ⟨by decide +kernel, by decide +kernel, by decide +kernel⟩, by decide⟩, mem_g 1051 (by decide +kernel) rfl, mem_g 1052 (by decide +kernel) rfl⟩
abbrev mX10_chance : Mi := (yX10_chance, cX10_chance, 6, (Option.some Jvm.ClassFile.FieldType.int))
theorem mo_X10_chance : MOV mX10_chance 3 := ⟨⟨mem_g 1057 (by decide +kernel) rfl, mem_g 1 (by decide +kernel) rfl, ⟨by decide +kernel, by decide +kernel, by decide +kernel⟩, by decide⟩, mem_g 1055 (by decide +kernel) rfl, mem_g 1056 (by decide +kernel) rfl⟩
abbrev mX10_likelihoodAtRoof : Mi := (yX10_likelihoodAtRoof, cX10_likelihoodAtRoof, 8, (Option.some Jvm.ClassFile.FieldType.int))
theorem mo_X10_likelihoodAtRoof : MOV mX10_likelihoodAtRoof 4 := ⟨⟨mem_g 1061 (by decide +kernel) rfl, mem_g 1 (by decide +kernel) rfl, ⟨by decide +kernel, by decide +kernel, by decide +kernel⟩, by decide⟩, mem_g 1060 (by decide +kernel) rfl, mem_sel 77 (q := (yX10_likelihoodAtRoof, 17)) (by decide +kernel)⟩
abbrev mX10_weeks : Mi := (yX10_weeks, cX10_weeks, 6, (Option.some Jvm.ClassFile.FieldType.int))
theorem mo_X10_weeks : MOV mX10_weeks 3 := ⟨⟨mem_g 1065 (by decide +kernel) rfl, mem_g 1 (by decide +kernel) rfl, ⟨by decide +kernel, by decide +kernel, by decide +kernel⟩, by decide⟩, mem_g 1063 (by decide +kernel) rfl, mem_g 1064 (by decide +kernel) rfl⟩
abbrev mX10_meddle : Mi := (yX10_meddle, cX10_meddle, 4, (Option.none))
theorem mo_X10_meddle : MOV mX10_meddle 0 := ⟨⟨mem_g 1069 (by decide +kernel) rfl, mem_g 1 (by decide +kernel) rfl, ⟨by decide +kernel, by decide +kernel, by decide +kernel⟩, by decide⟩, mem_g 1068 (by decide +kernel) rfl, mem_sel 78 (q := (yX10_meddle, 17)) (by decide +kernel)⟩
abbrev mX10_draw : Mi := (yX10_draw, cX10_draw, 2, (Option.some Jvm.ClassFile.FieldType.int))
theorem mo_X10_draw : MOV mX10_draw 1 := ⟨⟨mem_g 1073 (by decide +kernel) rfl, mem_g 1 (by decide +kernel) rfl, ⟨by decide +kernel, by decide +kernel, by decide +kernel⟩, by decide⟩, mem_g 1072 (by decide +kernel) rfl, mem_sel 79 (q := (yX10_draw, 17)) (by decide +kernel)⟩
abbrev mL_rests : Mi := (yL_rests, cL_rests, 7, (Option.some Jvm.ClassFile.FieldType.int))
abbrev mX10_rests : Mi := (yX10_rests, cX10_rests, 7, (Option.some Jvm.ClassFile.FieldType.int))
theorem mo_X10_rests : MOV mX10_rests 4 := ⟨⟨mem_g 1085 (by decide +kernel) rfl, mem_g 1 (by decide +kernel) rfl, ⟨by decide +kernel, by decide +kernel, by decide +kernel⟩, by decide⟩, mem_g 1083 (by decide +kernel) rfl, mem_g 1084 (by decide +kernel) rfl⟩
abbrev mX10_isAtRest : Mi := (yX10_isAtRest, cX10_isAtRest, 6, (Option.some Jvm.ClassFile.FieldType.boolean))
theorem mo_X10_isAtRest : MOS mX10_isAtRest 4 := ⟨⟨mem_g 1153 (by decide +kernel) rfl, mem_g 1 (by decide +kernel) rfl, ⟨by decide +kernel, by decide +kernel, by decide +kernel⟩, by decide⟩, mem_g 1152 (by decide +kernel) rfl⟩
abbrev mX10_keeps : Mi := (yX10_keeps, cX10_keeps, 7, (Option.some Jvm.ClassFile.FieldType.boolean))
theorem mo_X10_keeps : MOS mX10_keeps 5 := ⟨⟨mem_g 1156 (by decide +kernel) rfl, mem_g 1 (by decide +kernel) rfl, ⟨by decide +kernel, by decide +kernel, by decide +kernel⟩, by decide⟩, mem_g 1155 (by decide +kernel) rfl⟩
abbrev mX11_init : Mi := (yX11_init, cX11_init, 1, (Option.none))
abbrev mX11_fresh0 : Mi := (yX11_fresh0, cX11_fresh0, 2, (Option.none))
theorem mo_X11_fresh0 : MOV mX11_fresh0 0 := ⟨⟨mem_g 1167 (by decide +kernel) rfl, mem_g 11 (by decide +kernel) rfl, ⟨by decide +kernel, by decide +kernel, by decide +kernel⟩, by decide⟩, mem_g 1166 (by decide +kernel) rfl, mem_sel 81 (q := (yX11_fresh0, 63)) (by decide +kernel)⟩
abbrev mX11_thrown : Mi := (yX11_thrown, cX11_thrown, 1, (Option.some Jvm.ClassFile.FieldType.int))
theorem mo_X11_thrown : MOV mX11_thrown 0 := ⟨⟨mem_g 1362 (by decide +kernel) rfl, mem_g 11 (by decide +kernel) rfl, ⟨by decide +kernel, by decide +kernel, by decide +kernel⟩, by decide⟩, mem_g 1360 (by decide +kernel) rfl, mem_g 1361 (by decide +kernel) rfl⟩
abbrev mX11_feed : Mi := (yX11_feed, cX11_feed, 11, (Option.some Jvm.ClassFile.FieldType.int))
theorem mo_X11_feed : MOV mX11_feed 3 := ⟨⟨mem_g 1366 (by decide +kernel) rfl, mem_g 11 (by decide +kernel) rfl, ⟨by decide +kernel, by decide +kernel, by decide +kernel⟩, by decide⟩, mem_g 1364 (by decide +kernel) rfl, mem_g 1365 (by decide +kernel) rfl⟩
abbrev mX11_yard : Mi := (yX11_yard, cX11_yard, 2, (Option.some Jvm.ClassFile.FieldType.int))
theorem mo_X11_yard : MOV mX11_yard 0 := ⟨⟨mem_g 1371 (by decide +kernel) rfl, mem_g 11 (by decide +kernel) rfl, ⟨by decide +kernel, by decide +kernel, by decide +kernel⟩, by decide⟩, mem_g 1369 (by decide +kernel) rfl, mem_g 1370 (by decide +kernel) rfl⟩
abbrev mX11_readsAll : Mi := (yX11_readsAll, cX11_readsAll, 2, (Option.some Jvm.ClassFile.FieldType.boolean))
theorem mo_X11_readsAll : MOV mX11_readsAll 0 := ⟨⟨mem_g 1375 (by decide +kernel) rfl, mem_g 11 (by decide +kernel) rfl, ⟨by decide +kernel, by decide +kernel, by decide +kernel⟩, by decide⟩, mem_g 1374 (by decide +kernel) rfl, mem_sel 82 (q := (yX11_readsAll, 63)) (by decide +kernel)⟩
abbrev mX11_begins : Mi := (yX11_begins, cX11_begins, 1, (Option.none))
theorem mo_X11_begins : MOV mX11_begins 0 := ⟨⟨mem_g 1379 (by decide +kernel) rfl, mem_g 11 (by decide +kernel) rfl, ⟨by decide +kernel, by decide +kernel, by decide +kernel⟩, by decide⟩, mem_g 1378 (by decide +kernel) rfl, mem_sel 83 (q := (yX11_begins, 63)) (by decide +kernel)⟩
abbrev mX11_nextToken : Mi := (yX11_nextToken, cX11_nextToken, 2, (Option.none))
theorem mo_X11_nextToken : MOV mX11_nextToken 0 := ⟨⟨mem_g 1383 (by decide +kernel) rfl, mem_g 11 (by decide +kernel) rfl, ⟨by decide +kernel, by decide +kernel, by decide +kernel⟩, by decide⟩, mem_g 1382 (by decide +kernel) rfl, mem_sel 84 (q := (yX11_nextToken, 63)) (by decide +kernel)⟩
abbrev mX11_signAt : Mi := (yX11_signAt, cX11_signAt, 2, (Option.some Jvm.ClassFile.FieldType.int))
theorem mo_X11_signAt : MOV mX11_signAt 1 := ⟨⟨mem_g 1387 (by decide +kernel) rfl, mem_g 11 (by decide +kernel) rfl, ⟨by decide +kernel, by decide +kernel, by decide +kernel⟩, by decide⟩, mem_g 1386 (by decide +kernel) rfl, mem_sel 85 (q := (yX11_signAt, 63)) (by decide +kernel)⟩
abbrev mX11_isWord : Mi := (yX11_isWord, cX11_isWord, 3, (Option.some Jvm.ClassFile.FieldType.boolean))
theorem mo_X11_isWord : MOV mX11_isWord 1 := ⟨⟨mem_g 1394 (by decide +kernel) rfl, mem_g 11 (by decide +kernel) rfl, ⟨by decide +kernel, by decide +kernel, by decide +kernel⟩, by decide⟩, mem_g 1393 (by decide +kernel) rfl, mem_sel 86 (q := (yX11_isWord, 63)) (by decide +kernel)⟩
abbrev mX11_readsShed : Mi := (yX11_readsShed, cX11_readsShed, 2, (Option.some Jvm.ClassFile.FieldType.boolean))
theorem mo_X11_readsShed : MOV mX11_readsShed 0 := ⟨⟨mem_g 1398 (by decide +kernel) rfl, mem_g 11 (by decide +kernel) rfl, ⟨by decide +kernel, by decide +kernel, by decide +kernel⟩, by decide⟩, mem_g 1397 (by decide +kernel) rfl, mem_sel 87 (q := (yX11_readsShed, 63)) (by decide +kernel)⟩
abbrev mX11_fails : Mi := (yX11_fails, cX11_fails, 2, (Option.some Jvm.ClassFile.FieldType.boolean))
theorem mo_X11_fails : MOV mX11_fails 1 := ⟨⟨mem_g 1402 (by decide +kernel) rfl, mem_g 11 (by decide +kernel) rfl, ⟨by decide +kernel, by decide +kernel, by decide +kernel⟩, by decide⟩, mem_g 1401 (by decide +kernel) rfl, mem_sel 88 (q := (yX11_fails, 63)) (by decide +kernel)⟩
abbrev mX11_needsNew : Mi := (yX11_needsNew, cX11_needsNew, 1, (Option.some Jvm.ClassFile.FieldType.boolean))
theorem mo_X11_needsNew : MOV mX11_needsNew 0 := ⟨⟨mem_g 1406 (by decide +kernel) rfl, mem_g 11 (by decide +kernel) rfl, ⟨by decide +kernel, by decide +kernel, by decide +kernel⟩, by decide⟩, mem_g 1405 (by decide +kernel) rfl, mem_sel 89 (q := (yX11_needsNew, 63)) (by decide +kernel)⟩
abbrev mX11_isKept : Mi := (yX11_isKept, cX11_isKept, 1, (Option.some Jvm.ClassFile.FieldType.boolean))
theorem mo_X11_isKept : MOV mX11_isKept 0 := ⟨⟨mem_g 1410 (by decide +kernel) rfl, mem_g 11 (by decide +kernel) rfl, ⟨by decide +kernel, by decide +kernel, by decide +kernel⟩, by decide⟩, mem_g 1409 (by decide +kernel) rfl, mem_sel 90 (q := (yX11_isKept, 63)) (by decide +kernel)⟩
abbrev mX11_shedNamed : Mi := (yX11_shedNamed, cX11_shedNamed, 3, (Option.some Jvm.ClassFile.FieldType.int))
theorem mo_X11_shedNamed : MOV mX11_shedNamed 1 := ⟨⟨mem_g 1433 (by decide +kernel) rfl, mem_g 11 (by decide +kernel) rfl, ⟨by decide +kernel, by decide +kernel, by decide +kernel⟩, by decide⟩, mem_g 1432 (by decide +kernel) rfl, mem_sel 91 (q := (yX11_shedNamed, 63)) (by decide +kernel)⟩
abbrev mX11_stageNamed : Mi := (yX11_stageNamed, cX11_stageNamed, 3, (Option.some Jvm.ClassFile.FieldType.int))
theorem mo_X11_stageNamed : MOV mX11_stageNamed 1 := ⟨⟨mem_g 1437 (by decide +kernel) rfl, mem_g 11 (by decide +kernel) rfl, ⟨by decide +kernel, by decide +kernel, by decide +kernel⟩, by decide⟩, mem_g 1436 (by decide +kernel) rfl, mem_sel 92 (q := (yX11_stageNamed, 63)) (by decide +kernel)⟩
abbrev mX11_needsBoth : Mi := (yX11_needsBoth, cX11_needsBoth, 5, (Option.some Jvm.ClassFile.FieldType.boolean))
theorem mo_X11_needsBoth : MOV mX11_needsBoth 3 := ⟨⟨mem_g 1441 (by decide +kernel) rfl, mem_g 11 (by decide +kernel) rfl, ⟨by decide +kernel, by decide +kernel, by decide +kernel⟩, by decide⟩, mem_g 1440 (by decide +kernel) rfl, mem_sel 93 (q := (yX11_needsBoth, 63)) (by decide +kernel)⟩
abbrev mX11_needsNumber : Mi := (yX11_needsNumber, cX11_needsNumber, 3, (Option.some Jvm.ClassFile.FieldType.boolean))
theorem mo_X11_needsNumber : MOV mX11_needsNumber 2 := ⟨⟨mem_g 1445 (by decide +kernel) rfl, mem_g 11 (by decide +kernel) rfl, ⟨by decide +kernel, by decide +kernel, by decide +kernel⟩, by decide⟩, mem_g 1444 (by decide +kernel) rfl, mem_sel 94 (q := (yX11_needsNumber, 63)) (by decide +kernel)⟩
abbrev mX11_within : Mi := (yX11_within, cX11_within, 3, (Option.some Jvm.ClassFile.FieldType.boolean))
theorem mo_X11_within : MOS mX11_within 3 := ⟨⟨mem_g 1448 (by decide +kernel) rfl, mem_g 11 (by decide +kernel) rfl, ⟨by decide +kernel, by decide +kernel, by decide +kernel⟩, by decide⟩, mem_g 1447 (by decide +kernel) rfl⟩
abbrev mX11_closes : Mi := (yX11_closes, cX11_closes, 1, (Option.some Jvm.ClassFile.FieldType.boolean))
theorem mo_X11_closes : MOV mX11_closes 0 := ⟨⟨mem_g 1452 (by decide +kernel) rfl, mem_g 11 (by decide +kernel) rfl, ⟨by decide +kernel, by decide +kernel, by decide +kernel⟩, by decide⟩, mem_g 1451 (by decide +kernel) rfl, mem_sel 95 (q := (yX11_closes, 63)) (by decide +kernel)⟩
abbrev mX11_isSign : Mi := (yX11_isSign, cX11_isSign, 2, (Option.some Jvm.ClassFile.FieldType.boolean))
theorem mo_X11_isSign : MOV mX11_isSign 1 := ⟨⟨mem_g 1456 (by decide +kernel) rfl, mem_g 11 (by decide +kernel) rfl, ⟨by decide +kernel, by decide +kernel, by decide +kernel⟩, by decide⟩, mem_g 1455 (by decide +kernel) rfl, mem_sel 96 (q := (yX11_isSign, 63)) (by decide +kernel)⟩
abbrev mX11_readsNear : Mi := (yX11_readsNear, cX11_readsNear, 2, (Option.some Jvm.ClassFile.FieldType.boolean))
theorem mo_X11_readsNear : MOV mX11_readsNear 0 := ⟨⟨mem_g 1460 (by decide +kernel) rfl, mem_g 11 (by decide +kernel) rfl, ⟨by decide +kernel, by decide +kernel, by decide +kernel⟩, by decide⟩, mem_g 1459 (by decide +kernel) rfl, mem_sel 97 (q := (yX11_readsNear, 63)) (by decide +kernel)⟩
abbrev mX11_needsShed : Mi := (yX11_needsShed, cX11_needsShed, 2, (Option.some Jvm.ClassFile.FieldType.boolean))
theorem mo_X11_needsShed : MOV mX11_needsShed 1 := ⟨⟨mem_g 1464 (by decide +kernel) rfl, mem_g 11 (by decide +kernel) rfl, ⟨by decide +kernel, by decide +kernel, by decide +kernel⟩, by decide⟩, mem_g 1463 (by decide +kernel) rfl, mem_sel 98 (q := (yX11_needsShed, 63)) (by decide +kernel)⟩
abbrev mX11_readsStage : Mi := (yX11_readsStage, cX11_readsStage, 2, (Option.some Jvm.ClassFile.FieldType.boolean))
theorem mo_X11_readsStage : MOV mX11_readsStage 0 := ⟨⟨mem_g 1468 (by decide +kernel) rfl, mem_g 11 (by decide +kernel) rfl, ⟨by decide +kernel, by decide +kernel, by decide +kernel⟩, by decide⟩, mem_g 1467 (by decide +kernel) rfl, mem_sel 99 (q := (yX11_readsStage, 63)) (by decide +kernel)⟩
abbrev mX11_readsFrost : Mi := (yX11_readsFrost, cX11_readsFrost, 1, (Option.some Jvm.ClassFile.FieldType.boolean))
theorem mo_X11_readsFrost : MOV mX11_readsFrost 0 := ⟨⟨mem_g 1472 (by decide +kernel) rfl, mem_g 11 (by decide +kernel) rfl, ⟨by decide +kernel, by decide +kernel, by decide +kernel⟩, by decide⟩, mem_g 1471 (by decide +kernel) rfl, mem_sel 100 (q := (yX11_readsFrost, 63)) (by decide +kernel)⟩
abbrev mX11_readsRoof : Mi := (yX11_readsRoof, cX11_readsRoof, 1, (Option.some Jvm.ClassFile.FieldType.boolean))
theorem mo_X11_readsRoof : MOV mX11_readsRoof 0 := ⟨⟨mem_g 1476 (by decide +kernel) rfl, mem_g 11 (by decide +kernel) rfl, ⟨by decide +kernel, by decide +kernel, by decide +kernel⟩, by decide⟩, mem_g 1475 (by decide +kernel) rfl, mem_sel 101 (q := (yX11_readsRoof, 63)) (by decide +kernel)⟩
abbrev mX11_readsGrows : Mi := (yX11_readsGrows, cX11_readsGrows, 1, (Option.some Jvm.ClassFile.FieldType.boolean))
theorem mo_X11_readsGrows : MOV mX11_readsGrows 0 := ⟨⟨mem_g 1480 (by decide +kernel) rfl, mem_g 11 (by decide +kernel) rfl, ⟨by decide +kernel, by decide +kernel, by decide +kernel⟩, by decide⟩, mem_g 1479 (by decide +kernel) rfl, mem_sel 102 (q := (yX11_readsGrows, 63)) (by decide +kernel)⟩
abbrev mX11_reads : Mi := (yX11_reads, cX11_reads, 6, (Option.some Jvm.ClassFile.FieldType.boolean))
theorem mo_X11_reads : MOV mX11_reads 0 := ⟨⟨mem_g 1484 (by decide +kernel) rfl, mem_g 11 (by decide +kernel) rfl, ⟨by decide +kernel, by decide +kernel, by decide +kernel⟩, by decide⟩, mem_g 1483 (by decide +kernel) rfl, mem_sel 103 (q := (yX11_reads, 63)) (by decide +kernel)⟩
abbrev mX11_fact : Mi := (yX11_fact, cX11_fact, 1, (Option.some Jvm.ClassFile.FieldType.int))
theorem mo_X11_fact : MOV mX11_fact 0 := ⟨⟨mem_g 1488 (by decide +kernel) rfl, mem_g 11 (by decide +kernel) rfl, ⟨by decide +kernel, by decide +kernel, by decide +kernel⟩, by decide⟩, mem_g 1487 (by decide +kernel) rfl, mem_sel 104 (q := (yX11_fact, 63)) (by decide +kernel)⟩
abbrev mX11_puts : Mi := (yX11_puts, cX11_puts, 2, (Option.none))
theorem mo_X11_puts : MOV mX11_puts 1 := ⟨⟨mem_g 1496 (by decide +kernel) rfl, mem_g 11 (by decide +kernel) rfl, ⟨by decide +kernel, by decide +kernel, by decide +kernel⟩, by decide⟩, mem_g 1495 (by decide +kernel) rfl, mem_sel 105 (q := (yX11_puts, 63)) (by decide +kernel)⟩
abbrev mX11_lays : Mi := (yX11_lays, cX11_lays, 1, (Option.none))
theorem mo_X11_lays : MOV mX11_lays 0 := ⟨⟨mem_g 1500 (by decide +kernel) rfl, mem_g 11 (by decide +kernel) rfl, ⟨by decide +kernel, by decide +kernel, by decide +kernel⟩, by decide⟩, mem_g 1499 (by decide +kernel) rfl, mem_sel 106 (q := (yX11_lays, 63)) (by decide +kernel)⟩
abbrev mX11_shifts : Mi := (yX11_shifts, cX11_shifts, 3, (Option.none))
theorem mo_X11_shifts : MOS mX11_shifts 2 := ⟨⟨mem_g 1503 (by decide +kernel) rfl, mem_g 11 (by decide +kernel) rfl, ⟨by decide +kernel, by decide +kernel, by decide +kernel⟩, by decide⟩, mem_g 1502 (by decide +kernel) rfl⟩
abbrev mX11_shiftsNames : Mi := (yX11_shiftsNames, cX11_shiftsNames, 3, (Option.none))
theorem mo_X11_shiftsNames : MOS mX11_shiftsNames 2 := ⟨⟨mem_g 1506 (by decide +kernel) rfl, mem_g 11 (by decide +kernel) rfl, ⟨by decide +kernel, by decide +kernel, by decide +kernel⟩, by decide⟩, mem_g 1505 (by decide +kernel) rfl⟩
abbrev mX11_week : Mi := (yX11_week, cX11_week, 1, (Option.some Jvm.ClassFile.FieldType.int))
theorem mo_X11_week : MOV mX11_week 0 := ⟨⟨mem_g 1510 (by decide +kernel) rfl, mem_g 11 (by decide +kernel) rfl, ⟨by decide +kernel, by decide +kernel, by decide +kernel⟩, by decide⟩, mem_g 1508 (by decide +kernel) rfl, mem_g 1509 (by decide +kernel) rfl⟩
abbrev mX11_readsLine : Mi := (yX11_readsLine, cX11_readsLine, 3, (Option.some Jvm.ClassFile.FieldType.boolean))
theorem mo_X11_readsLine : MOV mX11_readsLine 0 := ⟨⟨mem_g 1514 (by decide +kernel) rfl, mem_g 11 (by decide +kernel) rfl, ⟨by decide +kernel, by decide +kernel, by decide +kernel⟩, by decide⟩, mem_g 1513 (by decide +kernel) rfl, mem_sel 107 (q := (yX11_readsLine, 63)) (by decide +kernel)⟩
abbrev mX11_laysLines : Mi := (yX11_laysLines, cX11_laysLines, 4, (Option.none))
theorem mo_X11_laysLines : MOV mX11_laysLines 2 := ⟨⟨mem_g 1518 (by decide +kernel) rfl, mem_g 11 (by decide +kernel) rfl, ⟨by decide +kernel, by decide +kernel, by decide +kernel⟩, by decide⟩, mem_g 1517 (by decide +kernel) rfl, mem_sel 108 (q := (yX11_laysLines, 63)) (by decide +kernel)⟩
abbrev mX11_shed : Mi := (yX11_shed, cX11_shed, 3, (Option.some Jvm.ClassFile.FieldType.int))
theorem mo_X11_shed : MOV mX11_shed 2 := ⟨⟨mem_g 1522 (by decide +kernel) rfl, mem_g 11 (by decide +kernel) rfl, ⟨by decide +kernel, by decide +kernel, by decide +kernel⟩, by decide⟩, mem_g 1520 (by decide +kernel) rfl, mem_g 1521 (by decide +kernel) rfl⟩
abbrev mX11_isShed : Mi := (yX11_isShed, cX11_isShed, 2, (Option.some Jvm.ClassFile.FieldType.boolean))
theorem mo_X11_isShed : MOV mX11_isShed 1 := ⟨⟨mem_g 1526 (by decide +kernel) rfl, mem_g 11 (by decide +kernel) rfl, ⟨by decide +kernel, by decide +kernel, by decide +kernel⟩, by decide⟩, mem_g 1525 (by decide +kernel) rfl, mem_sel 109 (q := (yX11_isShed, 63)) (by decide +kernel)⟩
abbrev mX11_murmurOf : Mi := (yX11_murmurOf, cX11_murmurOf, 2, (Option.some Jvm.ClassFile.FieldType.int))
theorem mo_X11_murmurOf : MOV mX11_murmurOf 1 := ⟨⟨mem_g 1530 (by decide +kernel) rfl, mem_g 11 (by decide +kernel) rfl, ⟨by decide +kernel, by decide +kernel, by decide +kernel⟩, by decide⟩, mem_g 1529 (by decide +kernel) rfl, mem_sel 110 (q := (yX11_murmurOf, 63)) (by decide +kernel)⟩
abbrev mX11_stage : Mi := (yX11_stage, cX11_stage, 3, (Option.some Jvm.ClassFile.FieldType.int))
theorem mo_X11_stage : MOV mX11_stage 2 := ⟨⟨mem_g 1535 (by decide +kernel) rfl, mem_g 11 (by decide +kernel) rfl, ⟨by decide +kernel, by decide +kernel, by decide +kernel⟩, by decide⟩, mem_g 1533 (by decide +kernel) rfl, mem_g 1534 (by decide +kernel) rfl⟩
abbrev mX11_isStage : Mi := (yX11_isStage, cX11_isStage, 2, (Option.some Jvm.ClassFile.FieldType.boolean))
theorem mo_X11_isStage : MOV mX11_isStage 1 := ⟨⟨mem_g 1539 (by decide +kernel) rfl, mem_g 11 (by decide +kernel) rfl, ⟨by decide +kernel, by decide +kernel, by decide +kernel⟩, by decide⟩, mem_g 1538 (by decide +kernel) rfl, mem_sel 111 (q := (yX11_isStage, 63)) (by decide +kernel)⟩
abbrev mX11_night : Mi := (yX11_night, cX11_night, 1, (Option.some Jvm.ClassFile.FieldType.int))
theorem mo_X11_night : MOV mX11_night 0 := ⟨⟨mem_g 1543 (by decide +kernel) rfl, mem_g 11 (by decide +kernel) rfl, ⟨by decide +kernel, by decide +kernel, by decide +kernel⟩, by decide⟩, mem_g 1541 (by decide +kernel) rfl, mem_g 1542 (by decide +kernel) rfl⟩
abbrev mX11_keeps : Mi := (yX11_keeps, cX11_keeps, 2, (Option.none))
theorem mo_X11_keeps : MOV mX11_keeps 0 := ⟨⟨mem_g 1547 (by decide +kernel) rfl, mem_g 11 (by decide +kernel) rfl, ⟨by decide +kernel, by decide +kernel, by decide +kernel⟩, by decide⟩, mem_g 1546 (by decide +kernel) rfl, mem_sel 112 (q := (yX11_keeps, 63)) (by decide +kernel)⟩
abbrev mX11_copies : Mi := (yX11_copies, cX11_copies, 5, (Option.none))
theorem mo_X11_copies : MOS mX11_copies 4 := ⟨⟨mem_g 1550 (by decide +kernel) rfl, mem_g 11 (by decide +kernel) rfl, ⟨by decide +kernel, by decide +kernel, by decide +kernel⟩, by decide⟩, mem_g 1549 (by decide +kernel) rfl⟩
abbrev mX11_passesAsTold : Mi := (yX11_passesAsTold, cX11_passesAsTold, 1, (Option.some Jvm.ClassFile.FieldType.int))
theorem mo_X11_passesAsTold : MOV mX11_passesAsTold 0 := ⟨⟨mem_g 1554 (by decide +kernel) rfl, mem_g 11 (by decide +kernel) rfl, ⟨by decide +kernel, by decide +kernel, by decide +kernel⟩, by decide⟩, mem_g 1553 (by decide +kernel) rfl, mem_sel 113 (q := (yX11_passesAsTold, 63)) (by decide +kernel)⟩
abbrev mX11_frostOf : Mi := (yX11_frostOf, cX11_frostOf, 2, (Option.some Jvm.ClassFile.FieldType.int))
theorem mo_X11_frostOf : MOV mX11_frostOf 1 := ⟨⟨mem_g 1558 (by decide +kernel) rfl, mem_g 11 (by decide +kernel) rfl, ⟨by decide +kernel, by decide +kernel, by decide +kernel⟩, by decide⟩, mem_g 1557 (by decide +kernel) rfl, mem_sel 114 (q := (yX11_frostOf, 63)) (by decide +kernel)⟩
abbrev mX11_passes : Mi := (yX11_passes, cX11_passes, 5, (Option.some Jvm.ClassFile.FieldType.int))
theorem mo_X11_passes : MOV mX11_passes 1 := ⟨⟨mem_g 1562 (by decide +kernel) rfl, mem_g 11 (by decide +kernel) rfl, ⟨by decide +kernel, by decide +kernel, by decide +kernel⟩, by decide⟩, mem_g 1561 (by decide +kernel) rfl, mem_sel 115 (q := (yX11_passes, 63)) (by decide +kernel)⟩
abbrev mX11_growth : Mi := (yX11_growth, cX11_growth, 4, (Option.some Jvm.ClassFile.FieldType.int))
theorem mo_X11_growth : MOV mX11_growth 2 := ⟨⟨mem_g 1566 (by decide +kernel) rfl, mem_g 11 (by decide +kernel) rfl, ⟨by decide +kernel, by decide +kernel, by decide +kernel⟩, by decide⟩, mem_g 1565 (by decide +kernel) rfl, mem_sel 116 (q := (yX11_growth, 63)) (by decide +kernel)⟩
abbrev mX11_isLit : Mi := (yX11_isLit, cX11_isLit, 2, (Option.some Jvm.ClassFile.FieldType.boolean))
theorem mo_X11_isLit : MOV mX11_isLit 1 := ⟨⟨mem_g 1570 (by decide +kernel) rfl, mem_g 11 (by decide +kernel) rfl, ⟨by decide +kernel, by decide +kernel, by decide +kernel⟩, by decide⟩, mem_g 1569 (by decide +kernel) rfl, mem_sel 117 (q := (yX11_isLit, 63)) (by decide +kernel)⟩
abbrev mX11_worked : Mi := (yX11_worked, cX11_worked, 6, (Option.some Jvm.ClassFile.FieldType.int))
theorem mo_X11_worked : MOV mX11_worked 1 := ⟨⟨mem_g 1575 (by decide +kernel) rfl, mem_g 11 (by decide +kernel) rfl, ⟨by decide +kernel, by decide +kernel, by decide +kernel⟩, by decide⟩, mem_g 1574 (by decide +kernel) rfl, mem_sel 118 (q := (yX11_worked, 63)) (by decide +kernel)⟩
abbrev mX11_opens : Mi := (yX11_opens, cX11_opens, 2, (Option.none))
theorem mo_X11_opens : MOV mX11_opens 1 := ⟨⟨mem_g 1579 (by decide +kernel) rfl, mem_g 11 (by decide +kernel) rfl, ⟨by decide +kernel, by decide +kernel, by decide +kernel⟩, by decide⟩, mem_g 1578 (by decide +kernel) rfl, mem_sel 119 (q := (yX11_opens, 63)) (by decide +kernel)⟩
abbrev mX11_sums : Mi := (yX11_sums, cX11_sums, 2, (Option.none))
theorem mo_X11_sums : MOV mX11_sums 1 := ⟨⟨mem_g 1583 (by decide +kernel) rfl, mem_g 11 (by decide +kernel) rfl, ⟨by decide +kernel, by decide +kernel, by decide +kernel⟩, by decide⟩, mem_g 1582 (by decide +kernel) rfl, mem_sel 120 (q := (yX11_sums, 63)) (by decide +kernel)⟩
abbrev mX11_tests : Mi := (yX11_tests, cX11_tests, 3, (Option.none))
theorem mo_X11_tests : MOV mX11_tests 1 := ⟨⟨mem_g 1587 (by decide +kernel) rfl, mem_g 11 (by decide +kernel) rfl, ⟨by decide +kernel, by decide +kernel, by decide +kernel⟩, by decide⟩, mem_g 1586 (by decide +kernel) rfl, mem_sel 121 (q := (yX11_tests, 63)) (by decide +kernel)⟩
abbrev mX11_between : Mi := (yX11_between, cX11_between, 3, (Option.some Jvm.ClassFile.FieldType.int))
theorem mo_X11_between : MOS mX11_between 3 := ⟨⟨mem_g 1590 (by decide +kernel) rfl, mem_g 11 (by decide +kernel) rfl, ⟨by decide +kernel, by decide +kernel, by decide +kernel⟩, by decide⟩, mem_g 1589 (by decide +kernel) rfl⟩
abbrev mX11_moreNear : Mi := (yX11_moreNear, cX11_moreNear, 4, (Option.some Jvm.ClassFile.FieldType.int))
theorem mo_X11_moreNear : MOV mX11_moreNear 1 := ⟨⟨mem_g 1594 (by decide +kernel) rfl, mem_g 11 (by decide +kernel) rfl, ⟨by decide +kernel, by decide +kernel, by decide +kernel⟩, by decide⟩, mem_g 1593 (by decide +kernel) rfl, mem_sel 122 (q := (yX11_moreNear, 63)) (by decide +kernel)⟩
abbrev mX11_heat : Mi := (yX11_heat, cX11_heat, 4, (Option.some Jvm.ClassFile.FieldType.int))
theorem mo_X11_heat : MOV mX11_heat 2 := ⟨⟨mem_g 1598 (by decide +kernel) rfl, mem_g 11 (by decide +kernel) rfl, ⟨by decide +kernel, by decide +kernel, by decide +kernel⟩, by decide⟩, mem_g 1596 (by decide +kernel) rfl, mem_g 1597 (by decide +kernel) rfl⟩
abbrev mX11_light : Mi := (yX11_light, cX11_light, 2, (Option.some Jvm.ClassFile.FieldType.boolean))
theorem mo_X11_light : MOV mX11_light 1 := ⟨⟨mem_g 1602 (by decide +kernel) rfl, mem_g 11 (by decide +kernel) rfl, ⟨by decide +kernel, by decide +kernel, by decide +kernel⟩, by decide⟩, mem_g 1600 (by decide +kernel) rfl, mem_g 1601 (by decide +kernel) rfl⟩
abbrev mX11_pull : Mi := (yX11_pull, cX11_pull, 3, (Option.some Jvm.ClassFile.FieldType.int))
theorem mo_X11_pull : MOV mX11_pull 2 := ⟨⟨mem_g 1606 (by decide +kernel) rfl, mem_g 11 (by decide +kernel) rfl, ⟨by decide +kernel, by decide +kernel, by decide +kernel⟩, by decide⟩, mem_g 1604 (by decide +kernel) rfl, mem_g 1605 (by decide +kernel) rfl⟩
abbrev mX11_canPull : Mi := (yX11_canPull, cX11_canPull, 3, (Option.some Jvm.ClassFile.FieldType.boolean))
theorem mo_X11_canPull : MOV mX11_canPull 2 := ⟨⟨mem_g 1610 (by decide +kernel) rfl, mem_g 11 (by decide +kernel) rfl, ⟨by decide +kernel, by decide +kernel, by decide +kernel⟩, by decide⟩, mem_g 1609 (by decide +kernel) rfl, mem_sel 123 (q := (yX11_canPull, 63)) (by decide +kernel)⟩
abbrev mX11_pulls : Mi := (yX11_pulls, cX11_pulls, 3, (Option.none))
theorem mo_X11_pulls : MOV mX11_pulls 2 := ⟨⟨mem_g 1614 (by decide +kernel) rfl, mem_g 11 (by decide +kernel) rfl, ⟨by decide +kernel, by decide +kernel, by decide +kernel⟩, by decide⟩, mem_g 1613 (by decide +kernel) rfl, mem_sel 124 (q := (yX11_pulls, 63)) (by decide +kernel)⟩
abbrev mX11_undo : Mi := (yX11_undo, cX11_undo, 1, (Option.some Jvm.ClassFile.FieldType.boolean))
theorem mo_X11_undo : MOV mX11_undo 0 := ⟨⟨mem_g 1618 (by decide +kernel) rfl, mem_g 11 (by decide +kernel) rfl, ⟨by decide +kernel, by decide +kernel, by decide +kernel⟩, by decide⟩, mem_g 1616 (by decide +kernel) rfl, mem_g 1617 (by decide +kernel) rfl⟩
abbrev mX11_judged : Mi := (yX11_judged, cX11_judged, 7, (Option.some Jvm.ClassFile.FieldType.int))
theorem mo_X11_judged : MOV mX11_judged 1 := ⟨⟨mem_g 1622 (by decide +kernel) rfl, mem_g 11 (by decide +kernel) rfl, ⟨by decide +kernel, by decide +kernel, by decide +kernel⟩, by decide⟩, mem_g 1620 (by decide +kernel) rfl, mem_g 1621 (by decide +kernel) rfl⟩
abbrev mX11_allCrowns : Mi := (yX11_allCrowns, cX11_allCrowns, 3, (Option.some Jvm.ClassFile.FieldType.int))
theorem mo_X11_allCrowns : MOV mX11_allCrowns 0 := ⟨⟨mem_g 1626 (by decide +kernel) rfl, mem_g 11 (by decide +kernel) rfl, ⟨by decide +kernel, by decide +kernel, by decide +kernel⟩, by decide⟩, mem_g 1625 (by decide +kernel) rfl, mem_sel 125 (q := (yX11_allCrowns, 63)) (by decide +kernel)⟩
abbrev mX11_later : Mi := (yX11_later, cX11_later, 4, (Option.some Jvm.ClassFile.FieldType.int))
theorem mo_X11_later : MOV mX11_later 2 := ⟨⟨mem_g 1630 (by decide +kernel) rfl, mem_g 11 (by decide +kernel) rfl, ⟨by decide +kernel, by decide +kernel, by decide +kernel⟩, by decide⟩, mem_g 1628 (by decide +kernel) rfl, mem_g 1629 (by decide +kernel) rfl⟩
abbrev mX11_creak : Mi := (yX11_creak, cX11_creak, 4, (Option.some Jvm.ClassFile.FieldType.int))
theorem mo_X11_creak : MOV mX11_creak 2 := ⟨⟨mem_g 1634 (by decide +kernel) rfl, mem_g 11 (by decide +kernel) rfl, ⟨by decide +kernel, by decide +kernel, by decide +kernel⟩, by decide⟩, mem_g 1632 (by decide +kernel) rfl, mem_g 1633 (by decide +kernel) rfl⟩
abbrev mX11_pops : Mi := (yX11_pops, cX11_pops, 2, (Option.some Jvm.ClassFile.FieldType.int))
theorem mo_X11_pops : MOV mX11_pops 1 := ⟨⟨mem_g 1638 (by decide +kernel) rfl, mem_g 11 (by decide +kernel) rfl, ⟨by decide +kernel, by decide +kernel, by decide +kernel⟩, by decide⟩, mem_g 1636 (by decide +kernel) rfl, mem_g 1637 (by decide +kernel) rfl⟩
abbrev mX11_popsOf : Mi := (yX11_popsOf, cX11_popsOf, 4, (Option.some Jvm.ClassFile.FieldType.int))
theorem mo_X11_popsOf : MOV mX11_popsOf 1 := ⟨⟨mem_g 1642 (by decide +kernel) rfl, mem_g 11 (by decide +kernel) rfl, ⟨by decide +kernel, by decide +kernel, by decide +kernel⟩, by decide⟩, mem_g 1641 (by decide +kernel) rfl, mem_sel 126 (q := (yX11_popsOf, 63)) (by decide +kernel)⟩
abbrev mX11_first : Mi := (yX11_first, cX11_first, 1, (Option.some Jvm.ClassFile.FieldType.int))
theorem mo_X11_first : MOV mX11_first 0 := ⟨⟨mem_g 1646 (by decide +kernel) rfl, mem_g 11 (by decide +kernel) rfl, ⟨by decide +kernel, by decide +kernel, by decide +kernel⟩, by decide⟩, mem_g 1644 (by decide +kernel) rfl, mem_g 1645 (by decide +kernel) rfl⟩
abbrev mX11_lowest : Mi := (yX11_lowest, cX11_lowest, 2, (Option.some Jvm.ClassFile.FieldType.int))
theorem mo_X11_lowest : MOS mX11_lowest 1 := ⟨⟨mem_g 1649 (by decide +kernel) rfl, mem_g 11 (by decide +kernel) rfl, ⟨by decide +kernel, by decide +kernel, by decide +kernel⟩, by decide⟩, mem_g 1648 (by decide +kernel) rfl⟩
abbrev mX11_riot : Mi := (yX11_riot, cX11_riot, 3, (Option.some Jvm.ClassFile.FieldType.int))
theorem mo_X11_riot : MOV mX11_riot 1 := ⟨⟨mem_g 1653 (by decide +kernel) rfl, mem_g 11 (by decide +kernel) rfl, ⟨by decide +kernel, by decide +kernel, by decide +kernel⟩, by decide⟩, mem_g 1651 (by decide +kernel) rfl, mem_g 1652 (by decide +kernel) rfl⟩
abbrev mX11_calm : Mi := (yX11_calm, cX11_calm, 3, (Option.some Jvm.ClassFile.FieldType.int))
theorem mo_X11_calm : MOV mX11_calm 1 := ⟨⟨mem_g 1657 (by decide +kernel) rfl, mem_g 11 (by decide +kernel) rfl, ⟨by decide +kernel, by decide +kernel, by decide +kernel⟩, by decide⟩, mem_g 1655 (by decide +kernel) rfl, mem_g 1656 (by decide +kernel) rfl⟩
abbrev mX11_roofed : Mi := (yX11_roofed, cX11_roofed, 2, (Option.some Jvm.ClassFile.FieldType.int))
theorem mo_X11_roofed : MOV mX11_roofed 0 := ⟨⟨mem_g 1661 (by decide +kernel) rfl, mem_g 11 (by decide +kernel) rfl, ⟨by decide +kernel, by decide +kernel, by decide +kernel⟩, by decide⟩, mem_g 1659 (by decide +kernel) rfl, mem_g 1660 (by decide +kernel) rfl⟩
abbrev mX11_areRoofed : Mi := (yX11_areRoofed, cX11_areRoofed, 2, (Option.some Jvm.ClassFile.FieldType.boolean))
theorem mo_X11_areRoofed : MOV mX11_areRoofed 0 := ⟨⟨mem_g 1665 (by decide +kernel) rfl, mem_g 11 (by decide +kernel) rfl, ⟨by decide +kernel, by decide +kernel, by decide +kernel⟩, by decide⟩, mem_g 1664 (by decide +kernel) rfl, mem_sel 127 (q := (yX11_areRoofed, 63)) (by decide +kernel)⟩
abbrev mX11_had : Mi := (yX11_had, cX11_had, 2, (Option.some Jvm.ClassFile.FieldType.int))
theorem mo_X11_had : MOV mX11_had 1 := ⟨⟨mem_g 1669 (by decide +kernel) rfl, mem_g 11 (by decide +kernel) rfl, ⟨by decide +kernel, by decide +kernel, by decide +kernel⟩, by decide⟩, mem_g 1667 (by decide +kernel) rfl, mem_g 1668 (by decide +kernel) rfl⟩
abbrev mX11_hadBy : Mi := (yX11_hadBy, cX11_hadBy, 4, (Option.some Jvm.ClassFile.FieldType.int))
theorem mo_X11_hadBy : MOV mX11_hadBy 1 := ⟨⟨mem_g 1673 (by decide +kernel) rfl, mem_g 11 (by decide +kernel) rfl, ⟨by decide +kernel, by decide +kernel, by decide +kernel⟩, by decide⟩, mem_g 1672 (by decide +kernel) rfl, mem_sel 128 (q := (yX11_hadBy, 63)) (by decide +kernel)⟩
abbrev mX11_canHave : Mi := (yX11_canHave, cX11_canHave, 3, (Option.some Jvm.ClassFile.FieldType.boolean))
theorem mo_X11_canHave : MOV mX11_canHave 2 := ⟨⟨mem_g 1677 (by decide +kernel) rfl, mem_g 11 (by decide +kernel) rfl, ⟨by decide +kernel, by decide +kernel, by decide +kernel⟩, by decide⟩, mem_g 1676 (by decide +kernel) rfl, mem_sel 129 (q := (yX11_canHave, 63)) (by decide +kernel)⟩
abbrev mX11_waits : Mi := (yX11_waits, cX11_waits, 3, (Option.some Jvm.ClassFile.FieldType.int))
theorem mo_X11_waits : MOV mX11_waits 1 := ⟨⟨mem_g 1681 (by decide +kernel) rfl, mem_g 11 (by decide +kernel) rfl, ⟨by decide +kernel, by decide +kernel, by decide +kernel⟩, by decide⟩, mem_g 1679 (by decide +kernel) rfl, mem_g 1680 (by decide +kernel) rfl⟩
abbrev mX11_plays : Mi := (yX11_plays, cX11_plays, 2, (Option.some Jvm.ClassFile.FieldType.int))
theorem mo_X11_plays : MOV mX11_plays 1 := ⟨⟨mem_g 1685 (by decide +kernel) rfl, mem_g 11 (by decide +kernel) rfl, ⟨by decide +kernel, by decide +kernel, by decide +kernel⟩, by decide⟩, mem_g 1683 (by decide +kernel) rfl, mem_g 1684 (by decide +kernel) rfl⟩
abbrev mX11_givesOut : Mi := (yX11_givesOut, cX11_givesOut, 6, (Option.none))
theorem mo_X11_givesOut : MOV mX11_givesOut 3 := ⟨⟨mem_g 1689 (by decide +kernel) rfl, mem_g 11 (by decide +kernel) rfl, ⟨by decide +kernel, by decide +kernel, by decide +kernel⟩, by decide⟩, mem_g 1688 (by decide +kernel) rfl, mem_sel 130 (q := (yX11_givesOut, 63)) (by decide +kernel)⟩
abbrev mX11_blend : Mi := (yX11_blend, cX11_blend, 7, (Option.some Jvm.ClassFile.FieldType.int))
theorem mo_X11_blend : MOV mX11_blend 1 := ⟨⟨mem_g 1693 (by decide +kernel) rfl, mem_g 11 (by decide +kernel) rfl, ⟨by decide +kernel, by decide +kernel, by decide +kernel⟩, by decide⟩, mem_g 1691 (by decide +kernel) rfl, mem_g 1692 (by decide +kernel) rfl⟩
abbrev mX11_bits : Mi := (yX11_bits, cX11_bits, 3, (Option.some Jvm.ClassFile.FieldType.int))
theorem mo_X11_bits : MOS mX11_bits 1 := ⟨⟨mem_g 1696 (by decide +kernel) rfl, mem_g 11 (by decide +kernel) rfl, ⟨by decide +kernel, by decide +kernel, by decide +kernel⟩, by decide⟩, mem_g 1695 (by decide +kernel) rfl⟩
abbrev mX11_aim : Mi := (yX11_aim, cX11_aim, 7, (Option.some Jvm.ClassFile.FieldType.int))
theorem mo_X11_aim : MOV mX11_aim 3 := ⟨⟨mem_g 1700 (by decide +kernel) rfl, mem_g 11 (by decide +kernel) rfl, ⟨by decide +kernel, by decide +kernel, by decide +kernel⟩, by decide⟩, mem_g 1698 (by decide +kernel) rfl, mem_g 1699 (by decide +kernel) rfl⟩
abbrev mX11_reach : Mi := (yX11_reach, cX11_reach, 2, (Option.some Jvm.ClassFile.FieldType.int))
theorem mo_X11_reach : MOV mX11_reach 1 := ⟨⟨mem_g 1704 (by decide +kernel) rfl, mem_g 11 (by decide +kernel) rfl, ⟨by decide +kernel, by decide +kernel, by decide +kernel⟩, by decide⟩, mem_g 1702 (by decide +kernel) rfl, mem_g 1703 (by decide +kernel) rfl⟩
abbrev mX11_reachOf : Mi := (yX11_reachOf, cX11_reachOf, 5, (Option.some Jvm.ClassFile.FieldType.int))
theorem mo_X11_reachOf : MOV mX11_reachOf 1 := ⟨⟨mem_g 1708 (by decide +kernel) rfl, mem_g 11 (by decide +kernel) rfl, ⟨by decide +kernel, by decide +kernel, by decide +kernel⟩, by decide⟩, mem_g 1707 (by decide +kernel) rfl, mem_sel 131 (q := (yX11_reachOf, 63)) (by decide +kernel)⟩
abbrev mX11_far : Mi := (yX11_far, cX11_far, 7, (Option.some Jvm.ClassFile.FieldType.int))
theorem mo_X11_far : MOV mX11_far 2 := ⟨⟨mem_g 1712 (by decide +kernel) rfl, mem_g 11 (by decide +kernel) rfl, ⟨by decide +kernel, by decide +kernel, by decide +kernel⟩, by decide⟩, mem_g 1710 (by decide +kernel) rfl, mem_g 1711 (by decide +kernel) rfl⟩
abbrev mX11_parts : Mi := (yX11_parts, cX11_parts, 3, (Option.some Jvm.ClassFile.FieldType.int))
theorem mo_X11_parts : MOV mX11_parts 0 := ⟨⟨mem_g 1716 (by decide +kernel) rfl, mem_g 11 (by decide +kernel) rfl, ⟨by decide +kernel, by decide +kernel, by decide +kernel⟩, by decide⟩, mem_g 1714 (by decide +kernel) rfl, mem_g 1715 (by decide +kernel) rfl⟩
abbrev mX11_heard : Mi := (yX11_heard, cX11_heard, 2, (Option.some Jvm.ClassFile.FieldType.int))
theorem mo_X11_heard : MOV mX11_heard 1 := ⟨⟨mem_g 1720 (by decide +kernel) rfl, mem_g 11 (by decide +kernel) rfl, ⟨by decide +kernel, by decide +kernel, by decide +kernel⟩, by decide⟩, mem_g 1718 (by decide +kernel) rfl, mem_g 1719 (by decide +kernel) rfl⟩
abbrev mX11_news : Mi := (yX11_news, cX11_news, 2, (Option.some Jvm.ClassFile.FieldType.int))
theorem mo_X11_news : MOV mX11_news 0 := ⟨⟨mem_g 1724 (by decide +kernel) rfl, mem_g 11 (by decide +kernel) rfl, ⟨by decide +kernel, by decide +kernel, by decide +kernel⟩, by decide⟩, mem_g 1722 (by decide +kernel) rfl, mem_g 1723 (by decide +kernel) rfl⟩
abbrev mX11_haveAllHeard : Mi := (yX11_haveAllHeard, cX11_haveAllHeard, 2, (Option.some Jvm.ClassFile.FieldType.boolean))
theorem mo_X11_haveAllHeard : MOV mX11_haveAllHeard 0 := ⟨⟨mem_g 1728 (by decide +kernel) rfl, mem_g 11 (by decide +kernel) rfl, ⟨by decide +kernel, by decide +kernel, by decide +kernel⟩, by decide⟩, mem_g 1727 (by decide +kernel) rfl, mem_sel 132 (q := (yX11_haveAllHeard, 63)) (by decide +kernel)⟩
abbrev mX11_loud : Mi := (yX11_loud, cX11_loud, 3, (Option.some Jvm.ClassFile.FieldType.int))
theorem mo_X11_loud : MOV mX11_loud 0 := ⟨⟨mem_g 1732 (by decide +kernel) rfl, mem_g 11 (by decide +kernel) rfl, ⟨by decide +kernel, by decide +kernel, by decide +kernel⟩, by decide⟩, mem_g 1730 (by decide +kernel) rfl, mem_g 1731 (by decide +kernel) rfl⟩
abbrev mX11_tall : Mi := (yX11_tall, cX11_tall, 3, (Option.some Jvm.ClassFile.FieldType.int))
theorem mo_X11_tall : MOV mX11_tall 0 := ⟨⟨mem_g 1736 (by decide +kernel) rfl, mem_g 11 (by decide +kernel) rfl, ⟨by decide +kernel, by decide +kernel, by decide +kernel⟩, by decide⟩, mem_g 1734 (by decide +kernel) rfl, mem_g 1735 (by decide +kernel) rfl⟩
abbrev mX11_yields : Mi := (yX11_yields, cX11_yields, 3, (Option.some Jvm.ClassFile.FieldType.int))
theorem mo_X11_yields : MOV mX11_yields 1 := ⟨⟨mem_g 1740 (by decide +kernel) rfl, mem_g 11 (by decide +kernel) rfl, ⟨by decide +kernel, by decide +kernel, by decide +kernel⟩, by decide⟩, mem_g 1738 (by decide +kernel) rfl, mem_g 1739 (by decide +kernel) rfl⟩
abbrev mX11_allMurmurs : Mi := (yX11_allMurmurs, cX11_allMurmurs, 3, (Option.some Jvm.ClassFile.FieldType.int))
theorem mo_X11_allMurmurs : MOV mX11_allMurmurs 0 := ⟨⟨mem_g 1744 (by decide +kernel) rfl, mem_g 11 (by decide +kernel) rfl, ⟨by decide +kernel, by decide +kernel, by decide +kernel⟩, by decide⟩, mem_g 1743 (by decide +kernel) rfl, mem_sel 133 (q := (yX11_allMurmurs, 63)) (by decide +kernel)⟩
abbrev mX11_see : Mi := (yX11_see, cX11_see, 4, (Option.some Jvm.ClassFile.FieldType.boolean))
theorem mo_X11_see : MOV mX11_see 3 := ⟨⟨mem_g 1748 (by decide +kernel) rfl, mem_g 11 (by decide +kernel) rfl, ⟨by decide +kernel, by decide +kernel, by decide +kernel⟩, by decide⟩, mem_g 1746 (by decide +kernel) rfl, mem_g 1747 (by decide +kernel) rfl⟩
abbrev mX11_who : Mi := (yX11_who, cX11_who, 3, (Option.some Jvm.ClassFile.FieldType.int))
theorem mo_X11_who : MOV mX11_who 0 := ⟨⟨mem_g 1752 (by decide +kernel) rfl, mem_g 11 (by decide +kernel) rfl, ⟨by decide +kernel, by decide +kernel, by decide +kernel⟩, by decide⟩, mem_g 1750 (by decide +kernel) rfl, mem_g 1751 (by decide +kernel) rfl⟩
abbrev mX11_laysCreaks : Mi := (yX11_laysCreaks, cX11_laysCreaks, 3, (Option.none))
theorem mo_X11_laysCreaks : MOV mX11_laysCreaks 0 := ⟨⟨mem_g 1756 (by decide +kernel) rfl, mem_g 11 (by decide +kernel) rfl, ⟨by decide +kernel, by decide +kernel, by decide +kernel⟩, by decide⟩, mem_g 1755 (by decide +kernel) rfl, mem_sel 134 (q := (yX11_laysCreaks, 63)) (by decide +kernel)⟩
abbrev mX11_isAsSeen : Mi := (yX11_isAsSeen, cX11_isAsSeen, 3, (Option.some Jvm.ClassFile.FieldType.boolean))
theorem mo_X11_isAsSeen : MOV mX11_isAsSeen 1 := ⟨⟨mem_g 1760 (by decide +kernel) rfl, mem_g 11 (by decide +kernel) rfl, ⟨by decide +kernel, by decide +kernel, by decide +kernel⟩, by decide⟩, mem_g 1759 (by decide +kernel) rfl, mem_sel 135 (q := (yX11_isAsSeen, 63)) (by decide +kernel)⟩
abbrev mX11_ask : Mi := (yX11_ask, cX11_ask, 9, (Option.some Jvm.ClassFile.FieldType.int))
theorem mo_X11_ask : MOV mX11_ask 0 := ⟨⟨mem_g 1764 (by decide +kernel) rfl, mem_g 11 (by decide +kernel) rfl, ⟨by decide +kernel, by decide +kernel, by decide +kernel⟩, by decide⟩, mem_g 1762 (by decide +kernel) rfl, mem_g 1763 (by decide +kernel) rfl⟩
abbrev mX11_stick : Mi := (yX11_stick, cX11_stick, 5, (Option.some Jvm.ClassFile.FieldType.int))
theorem mo_X11_stick : MOV mX11_stick 0 := ⟨⟨mem_g 1769 (by decide +kernel) rfl, mem_g 11 (by decide +kernel) rfl, ⟨by decide +kernel, by decide +kernel, by decide +kernel⟩, by decide⟩, mem_g 1767 (by decide +kernel) rfl, mem_g 1768 (by decide +kernel) rfl⟩
abbrev mX11_chance : Mi := (yX11_chance, cX11_chance, 13, (Option.some Jvm.ClassFile.FieldType.int))
theorem mo_X11_chance : MOV mX11_chance 3 := ⟨⟨mem_g 1773 (by decide +kernel) rfl, mem_g 11 (by decide +kernel) rfl, ⟨by decide +kernel, by decide +kernel, by decide +kernel⟩, by decide⟩, mem_g 1771 (by decide +kernel) rfl, mem_g 1772 (by decide +kernel) rfl⟩
abbrev mX11_rests : Mi := (yX11_rests, cX11_rests, 9, (Option.some Jvm.ClassFile.FieldType.int))
theorem mo_X11_rests : MOV mX11_rests 4 := ⟨⟨mem_g 1779 (by decide +kernel) rfl, mem_g 11 (by decide +kernel) rfl, ⟨by decide +kernel, by decide +kernel, by decide +kernel⟩, by decide⟩, mem_g 1777 (by decide +kernel) rfl, mem_g 1778 (by decide +kernel) rfl⟩
abbrev mX11_getsBy : Mi := (yX11_getsBy, cX11_getsBy, 5, (Option.some Jvm.ClassFile.FieldType.int))
theorem mo_X11_getsBy : MOS mX11_getsBy 5 := ⟨⟨mem_g 1782 (by decide +kernel) rfl, mem_g 11 (by decide +kernel) rfl, ⟨by decide +kernel, by decide +kernel, by decide +kernel⟩, by decide⟩, mem_g 1781 (by decide +kernel) rfl⟩
abbrev mX11_weeks : Mi := (yX11_weeks, cX11_weeks, 7, (Option.some Jvm.ClassFile.FieldType.int))
theorem mo_X11_weeks : MOV mX11_weeks 3 := ⟨⟨mem_g 1786 (by decide +kernel) rfl, mem_g 11 (by decide +kernel) rfl, ⟨by decide +kernel, by decide +kernel, by decide +kernel⟩, by decide⟩, mem_g 1784 (by decide +kernel) rfl, mem_g 1785 (by decide +kernel) rfl⟩
abbrev mX11_livesNight : Mi := (yX11_livesNight, cX11_livesNight, 4, (Option.some Jvm.ClassFile.FieldType.int))
theorem mo_X11_livesNight : MOV mX11_livesNight 0 := ⟨⟨mem_g 1790 (by decide +kernel) rfl, mem_g 11 (by decide +kernel) rfl, ⟨by decide +kernel, by decide +kernel, by decide +kernel⟩, by decide⟩, mem_g 1789 (by decide +kernel) rfl, mem_sel 136 (q := (yX11_livesNight, 63)) (by decide +kernel)⟩
abbrev mX11_draws : Mi := (yX11_draws, cX11_draws, 2, (Option.some Jvm.ClassFile.FieldType.int))
theorem mo_X11_draws : MOV mX11_draws 1 := ⟨⟨mem_g 1794 (by decide +kernel) rfl, mem_g 11 (by decide +kernel) rfl, ⟨by decide +kernel, by decide +kernel, by decide +kernel⟩, by decide⟩, mem_g 1793 (by decide +kernel) rfl, mem_sel 137 (q := (yX11_draws, 63)) (by decide +kernel)⟩
abbrev mX11_mark : Mi := (yX11_mark, cX11_mark, 5, (Option.some Jvm.ClassFile.FieldType.boolean))
theorem mo_X11_mark : MOV mX11_mark 2 := ⟨⟨mem_g 1802 (by decide +kernel) rfl, mem_g 11 (by decide +kernel) rfl, ⟨by decide +kernel, by decide +kernel, by decide +kernel⟩, by decide⟩, mem_g 1800 (by decide +kernel) rfl, mem_g 1801 (by decide +kernel) rfl⟩
abbrev mX11_laysSeen : Mi := (yX11_laysSeen, cX11_laysSeen, 4, (Option.none))
theorem mo_X11_laysSeen : MOV mX11_laysSeen 2 := ⟨⟨mem_g 1806 (by decide +kernel) rfl, mem_g 11 (by decide +kernel) rfl, ⟨by decide +kernel, by decide +kernel, by decide +kernel⟩, by decide⟩, mem_g 1805 (by decide +kernel) rfl, mem_sel 138 (q := (yX11_laysSeen, 63)) (by decide +kernel)⟩
abbrev mX11_count : Mi := (yX11_count, cX11_count, 2, (Option.some Jvm.ClassFile.FieldType.int))
theorem mo_X11_count : MOV mX11_count 1 := ⟨⟨mem_g 1810 (by decide +kernel) rfl, mem_g 11 (by decide +kernel) rfl, ⟨by decide +kernel, by decide +kernel, by decide +kernel⟩, by decide⟩, mem_g 1808 (by decide +kernel) rfl, mem_g 1809 (by decide +kernel) rfl⟩
abbrev mX11_riotsNow : Mi := (yX11_riotsNow, cX11_riotsNow, 3, (Option.some Jvm.ClassFile.FieldType.int))
theorem mo_X11_riotsNow : MOV mX11_riotsNow 0 := ⟨⟨mem_g 1814 (by decide +kernel) rfl, mem_g 11 (by decide +kernel) rfl, ⟨by decide +kernel, by decide +kernel, by decide +kernel⟩, by decide⟩, mem_g 1813 (by decide +kernel) rfl, mem_sel 139 (q := (yX11_riotsNow, 63)) (by decide +kernel)⟩
end LNK
