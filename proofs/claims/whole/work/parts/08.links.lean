theorem tq {w : Cond} (i : Nat) (h : tables_1[i]? = some w) : w ∈ lw_tbl := List.mem_append_right _ (List.mem_of_getElem? h)
theorem tsel {q : MethodName × Nat} (i : Nat) (h : lw_privs[i]? = some q) : Cond.selects q.1.cls q.1 q.1 ∈ lw_tbl := List.mem_append_left _ (List.mem_map.mpr ⟨q, List.mem_of_getElem? h, rfl⟩)
set_option maxRecDepth 20000 in
theorem wcX0 : wC 0 RX0 TX0 5 tyX0 := ⟨rfl, by decide +kernel, tyX0_ok, nmX0⟩
set_option maxRecDepth 20000 in
theorem wcX1 : wC 1 RX1 TX1 9 tyX1 := ⟨rfl, by decide +kernel, tyX1_ok, nmX1⟩
set_option maxRecDepth 20000 in
theorem wcX2 : wC 2 RX2 TX2 7 tyX2 := ⟨rfl, by decide +kernel, tyX2_ok, nmX2⟩
set_option maxRecDepth 20000 in
theorem wcX3 : wC 3 RX3 TX3 6 tyX3 := ⟨rfl, by decide +kernel, tyX3_ok, nmX3⟩
set_option maxRecDepth 20000 in
theorem wcX4 : wC 4 RX4 TX4 4 tyX4 := ⟨rfl, by decide +kernel, tyX4_ok, nmX4⟩
set_option maxRecDepth 20000 in
theorem wcX5 : wC 5 RX5 TX5 10 tyX5 := ⟨rfl, by decide +kernel, tyX5_ok, nmX5⟩
set_option maxRecDepth 20000 in
theorem wcX6 : wC 6 RX6 TX6 10 tyX6 := ⟨rfl, by decide +kernel, tyX6_ok, nmX6⟩
set_option maxRecDepth 20000 in
theorem wcX7 : wC 7 RX7 TX7 7 tyX7 := ⟨rfl, by decide +kernel, tyX7_ok, nmX7⟩
set_option maxRecDepth 20000 in
theorem wcX8 : wC 8 RX8 TX8 2 tyX8 := ⟨rfl, by decide +kernel, tyX8_ok, nmX8⟩
set_option maxRecDepth 20000 in
theorem wcX9 : wC 9 RX9 TX9 16 tyX9 := ⟨rfl, by decide +kernel, tyX9_ok, nmX9⟩
set_option maxRecDepth 20000 in
theorem wcX10 : wC 10 RX10 TX10 44 tyX10 := ⟨rfl, by decide +kernel, tyX10_ok, nmX10⟩
theorem fX9_9 : wF RX9 9 9 0 (.array .byte) true := ⟨RX9, TX9, 16, tyX9, wcX9, by decide, rfl, rfl, rfl, Or.inl (tq 329 (by decide +kernel))⟩
theorem fX9_16 : wF RX9 16 9 1 (.object "LevelBits$Run") true := ⟨RX9, TX9, 16, tyX9, wcX9, by decide, rfl, rfl, rfl, Or.inl (tq 330 (by decide +kernel))⟩
theorem fX9_23 : wF RX9 23 9 2 (.array (.object "LevelBits$Image")) true := ⟨RX9, TX9, 16, tyX9, wcX9, by decide, rfl, rfl, rfl, Or.inl (tq 331 (by decide +kernel))⟩
theorem fX9_30 : wF RX9 30 9 3 (.object "LevelBits$Weights") true := ⟨RX9, TX9, 16, tyX9, wcX9, by decide, rfl, rfl, rfl, Or.inl (tq 332 (by decide +kernel))⟩
theorem fX9_37 : wF RX9 37 9 4 (.object "LevelBits$Cycle") true := ⟨RX9, TX9, 16, tyX9, wcX9, by decide, rfl, rfl, rfl, Or.inl (tq 333 (by decide +kernel))⟩
theorem fX9_44 : wF RX9 44 9 5 (.object "LevelBits$Core") true := ⟨RX9, TX9, 16, tyX9, wcX9, by decide, rfl, rfl, rfl, Or.inl (tq 334 (by decide +kernel))⟩
theorem fX9_48 : wF RX9 48 9 6 (.object "LevelBits$Core") true := ⟨RX9, TX9, 16, tyX9, wcX9, by decide, rfl, rfl, rfl, Or.inl (tq 335 (by decide +kernel))⟩
theorem fX9_54 : wF RX9 54 9 7 (.object "LevelBits$Plan") false := ⟨RX9, TX9, 16, tyX9, wcX9, by decide, rfl, rfl, rfl, Or.inl (tq 336 (by decide +kernel))⟩
theorem fX9_58 : wF RX9 58 9 8 (.object "LevelBits$Plan") false := ⟨RX9, TX9, 16, tyX9, wcX9, by decide, rfl, rfl, rfl, Or.inl (tq 337 (by decide +kernel))⟩
theorem fX9_66 : wF RX9 66 9 9 (.object "LevelBits$Reader") true := ⟨RX9, TX9, 16, tyX9, wcX9, by decide, rfl, rfl, rfl, Or.inl (tq 338 (by decide +kernel))⟩
theorem fX9_70 : wF RX9 70 9 12 (.int) false := ⟨RX9, TX9, 16, tyX9, wcX9, by decide, rfl, rfl, rfl, Or.inl (tq 341 (by decide +kernel))⟩
theorem fX9_74 : wF RX9 74 9 14 (.int) false := ⟨RX9, TX9, 16, tyX9, wcX9, by decide, rfl, rfl, rfl, Or.inl (tq 343 (by decide +kernel))⟩
theorem fX9_77 : wF RX9 77 9 11 (.int) false := ⟨RX9, TX9, 16, tyX9, wcX9, by decide, rfl, rfl, rfl, Or.inl (tq 340 (by decide +kernel))⟩
theorem fX9_92 : wF RX9 92 5 8 (.int) false := ⟨RX5, TX5, 10, tyX5, wcX5, by decide, rfl, rfl, rfl, Or.inr ⟨"LevelBits", tq 305 (by decide +kernel)⟩⟩
theorem fX9_95 : wF RX9 95 9 13 (.int) false := ⟨RX9, TX9, 16, tyX9, wcX9, by decide, rfl, rfl, rfl, Or.inl (tq 342 (by decide +kernel))⟩
theorem fX9_98 : wF RX9 98 5 9 (.int) false := ⟨RX5, TX5, 10, tyX5, wcX5, by decide, rfl, rfl, rfl, Or.inr ⟨"LevelBits", tq 306 (by decide +kernel)⟩⟩
theorem fX9_102 : wF RX9 102 4 2 (.int) false := ⟨RX4, TX4, 4, tyX4, wcX4, by decide, rfl, rfl, rfl, Or.inr ⟨"LevelBits", tq 278 (by decide +kernel)⟩⟩
theorem fX9_109 : wF RX9 109 9 10 (.boolean) false := ⟨RX9, TX9, 16, tyX9, wcX9, by decide, rfl, rfl, rfl, Or.inl (tq 339 (by decide +kernel))⟩
theorem fX9_113 : wF RX9 113 4 3 (.int) false := ⟨RX4, TX4, 4, tyX4, wcX4, by decide, rfl, rfl, rfl, Or.inr ⟨"LevelBits", tq 280 (by decide +kernel)⟩⟩
theorem fX9_149 : wF RX9 149 6 5 (.boolean) false := ⟨RX6, TX6, 10, tyX6, wcX6, by decide, rfl, rfl, rfl, Or.inr ⟨"LevelBits", tq 146 (by decide +kernel)⟩⟩
theorem fX9_152 : wF RX9 152 6 9 (.int) false := ⟨RX6, TX6, 10, tyX6, wcX6, by decide, rfl, rfl, rfl, Or.inr ⟨"LevelBits", tq 155 (by decide +kernel)⟩⟩
theorem fX9_162 : wF RX9 162 6 0 (.object "LevelBits$Core") true := ⟨RX6, TX6, 10, tyX6, wcX6, by decide, rfl, rfl, rfl, Or.inr ⟨"LevelBits", tq 137 (by decide +kernel)⟩⟩
theorem fX9_165 : wF RX9 165 0 0 (.array .int) true := ⟨RX0, TX0, 5, tyX0, wcX0, by decide, rfl, rfl, rfl, Or.inr ⟨"LevelBits", tq 84 (by decide +kernel)⟩⟩
theorem fX9_169 : wF RX9 169 6 3 (.array .int) true := ⟨RX6, TX6, 10, tyX6, wcX6, by decide, rfl, rfl, rfl, Or.inr ⟨"LevelBits", tq 142 (by decide +kernel)⟩⟩
theorem fX9_176 : wF RX9 176 6 1 (.array .byte) true := ⟨RX6, TX6, 10, tyX6, wcX6, by decide, rfl, rfl, rfl, Or.inr ⟨"LevelBits", tq 139 (by decide +kernel)⟩⟩
theorem fX9_246 : wF RX9 246 1 2 (.int) false := ⟨RX1, TX1, 9, tyX1, wcX1, by decide, rfl, rfl, rfl, Or.inr ⟨"LevelBits", tq 234 (by decide +kernel)⟩⟩
theorem fX9_254 : wF RX9 254 3 2 (.int) false := ⟨RX3, TX3, 6, tyX3, wcX3, by decide, rfl, rfl, rfl, Or.inr ⟨"LevelBits", tq 57 (by decide +kernel)⟩⟩
theorem fX9_289 : wF RX9 289 2 0 (.boolean) false := ⟨RX2, TX2, 7, tyX2, wcX2, by decide, rfl, rfl, rfl, Or.inr ⟨"LevelBits", tq 185 (by decide +kernel)⟩⟩
theorem fX9_296 : wF RX9 296 2 6 (.int) false := ⟨RX2, TX2, 7, tyX2, wcX2, by decide, rfl, rfl, rfl, Or.inr ⟨"LevelBits", tq 192 (by decide +kernel)⟩⟩
theorem fX9_306 : wF RX9 306 9 15 (.int) false := ⟨RX9, TX9, 16, tyX9, wcX9, by decide, rfl, rfl, rfl, Or.inl (tq 344 (by decide +kernel))⟩
theorem fX9_313 : wF RX9 313 1 4 (.int) false := ⟨RX1, TX1, 9, tyX1, wcX1, by decide, rfl, rfl, rfl, Or.inr ⟨"LevelBits", tq 237 (by decide +kernel)⟩⟩
theorem fX9_316 : wF RX9 316 0 4 (.int) false := ⟨RX0, TX0, 5, tyX0, wcX0, by decide, rfl, rfl, rfl, Or.inr ⟨"LevelBits", tq 93 (by decide +kernel)⟩⟩
theorem fX0_9 : wF RX0 9 0 0 (.array .int) true := ⟨RX0, TX0, 5, tyX0, wcX0, by decide, rfl, rfl, rfl, Or.inl (tq 81 (by decide +kernel))⟩
theorem fX0_18 : wF RX0 18 0 1 (.object "LevelBits$Loop") false := ⟨RX0, TX0, 5, tyX0, wcX0, by decide, rfl, rfl, rfl, Or.inl (tq 85 (by decide +kernel))⟩
theorem fX0_22 : wF RX0 22 0 3 (.int) false := ⟨RX0, TX0, 5, tyX0, wcX0, by decide, rfl, rfl, rfl, Or.inl (tq 88 (by decide +kernel))⟩
theorem fX0_26 : wF RX0 26 3 4 (.int) false := ⟨RX3, TX3, 6, tyX3, wcX3, by decide, rfl, rfl, rfl, Or.inr ⟨"LevelBits", tq 61 (by decide +kernel)⟩⟩
theorem fX0_29 : wF RX0 29 0 2 (.int) false := ⟨RX0, TX0, 5, tyX0, wcX0, by decide, rfl, rfl, rfl, Or.inl (tq 87 (by decide +kernel))⟩
theorem fX0_30 : wF RX0 30 0 4 (.int) false := ⟨RX0, TX0, 5, tyX0, wcX0, by decide, rfl, rfl, rfl, Or.inl (tq 90 (by decide +kernel))⟩
theorem fX0_54 : wF RX0 54 3 2 (.int) false := ⟨RX3, TX3, 6, tyX3, wcX3, by decide, rfl, rfl, rfl, Or.inr ⟨"LevelBits", tq 55 (by decide +kernel)⟩⟩
theorem fX0_57 : wF RX0 57 3 0 (.array .int) true := ⟨RX3, TX3, 6, tyX3, wcX3, by decide, rfl, rfl, rfl, Or.inr ⟨"LevelBits", tq 50 (by decide +kernel)⟩⟩
theorem fX0_67 : wF RX0 67 3 3 (.int) false := ⟨RX3, TX3, 6, tyX3, wcX3, by decide, rfl, rfl, rfl, Or.inr ⟨"LevelBits", tq 60 (by decide +kernel)⟩⟩
theorem fX1_12 : wF RX1 12 1 0 (.object "LevelBits$Core") true := ⟨RX1, TX1, 9, tyX1, wcX1, by decide, rfl, rfl, rfl, Or.inl (tq 231 (by decide +kernel))⟩
theorem fX1_18 : wF RX1 18 1 1 (.array .int) true := ⟨RX1, TX1, 9, tyX1, wcX1, by decide, rfl, rfl, rfl, Or.inl (tq 232 (by decide +kernel))⟩
theorem fX1_37 : wF RX1 37 0 4 (.int) false := ⟨RX0, TX0, 5, tyX0, wcX0, by decide, rfl, rfl, rfl, Or.inr ⟨"LevelBits", tq 91 (by decide +kernel)⟩⟩
theorem fX1_41 : wF RX1 41 1 4 (.int) false := ⟨RX1, TX1, 9, tyX1, wcX1, by decide, rfl, rfl, rfl, Or.inl (tq 236 (by decide +kernel))⟩
theorem fX1_42 : wF RX1 42 1 6 (.int) false := ⟨RX1, TX1, 9, tyX1, wcX1, by decide, rfl, rfl, rfl, Or.inl (tq 239 (by decide +kernel))⟩
theorem fX1_45 : wF RX1 45 1 7 (.int) false := ⟨RX1, TX1, 9, tyX1, wcX1, by decide, rfl, rfl, rfl, Or.inl (tq 240 (by decide +kernel))⟩
theorem fX1_48 : wF RX1 48 1 8 (.int) false := ⟨RX1, TX1, 9, tyX1, wcX1, by decide, rfl, rfl, rfl, Or.inl (tq 241 (by decide +kernel))⟩
theorem fX1_57 : wF RX1 57 0 0 (.array .int) true := ⟨RX0, TX0, 5, tyX0, wcX0, by decide, rfl, rfl, rfl, Or.inr ⟨"LevelBits", tq 82 (by decide +kernel)⟩⟩
theorem fX1_66 : wF RX1 66 1 2 (.int) false := ⟨RX1, TX1, 9, tyX1, wcX1, by decide, rfl, rfl, rfl, Or.inl (tq 233 (by decide +kernel))⟩
theorem fX1_69 : wF RX1 69 1 3 (.int) false := ⟨RX1, TX1, 9, tyX1, wcX1, by decide, rfl, rfl, rfl, Or.inl (tq 235 (by decide +kernel))⟩
theorem fX1_72 : wF RX1 72 1 5 (.int) false := ⟨RX1, TX1, 9, tyX1, wcX1, by decide, rfl, rfl, rfl, Or.inl (tq 238 (by decide +kernel))⟩
theorem fX2_7 : wF RX2 7 2 0 (.boolean) false := ⟨RX2, TX2, 7, tyX2, wcX2, by decide, rfl, rfl, rfl, Or.inl (tq 184 (by decide +kernel))⟩
theorem fX2_13 : wF RX2 13 6 5 (.boolean) false := ⟨RX6, TX6, 10, tyX6, wcX6, by decide, rfl, rfl, rfl, Or.inr ⟨"LevelBits", tq 144 (by decide +kernel)⟩⟩
theorem fX2_18 : wF RX2 18 2 1 (.boolean) false := ⟨RX2, TX2, 7, tyX2, wcX2, by decide, rfl, rfl, rfl, Or.inl (tq 186 (by decide +kernel))⟩
theorem fX2_19 : wF RX2 19 6 6 (.int) false := ⟨RX6, TX6, 10, tyX6, wcX6, by decide, rfl, rfl, rfl, Or.inr ⟨"LevelBits", tq 147 (by decide +kernel)⟩⟩
theorem fX2_23 : wF RX2 23 2 2 (.int) false := ⟨RX2, TX2, 7, tyX2, wcX2, by decide, rfl, rfl, rfl, Or.inl (tq 187 (by decide +kernel))⟩
theorem fX2_24 : wF RX2 24 6 7 (.int) false := ⟨RX6, TX6, 10, tyX6, wcX6, by decide, rfl, rfl, rfl, Or.inr ⟨"LevelBits", tq 149 (by decide +kernel)⟩⟩
theorem fX2_27 : wF RX2 27 2 3 (.int) false := ⟨RX2, TX2, 7, tyX2, wcX2, by decide, rfl, rfl, rfl, Or.inl (tq 188 (by decide +kernel))⟩
theorem fX2_28 : wF RX2 28 6 8 (.int) false := ⟨RX6, TX6, 10, tyX6, wcX6, by decide, rfl, rfl, rfl, Or.inr ⟨"LevelBits", tq 151 (by decide +kernel)⟩⟩
theorem fX2_31 : wF RX2 31 2 4 (.int) false := ⟨RX2, TX2, 7, tyX2, wcX2, by decide, rfl, rfl, rfl, Or.inl (tq 189 (by decide +kernel))⟩
theorem fX2_32 : wF RX2 32 6 9 (.int) false := ⟨RX6, TX6, 10, tyX6, wcX6, by decide, rfl, rfl, rfl, Or.inr ⟨"LevelBits", tq 153 (by decide +kernel)⟩⟩
theorem fX2_35 : wF RX2 35 2 5 (.int) false := ⟨RX2, TX2, 7, tyX2, wcX2, by decide, rfl, rfl, rfl, Or.inl (tq 190 (by decide +kernel))⟩
theorem fX2_36 : wF RX2 36 2 6 (.int) false := ⟨RX2, TX2, 7, tyX2, wcX2, by decide, rfl, rfl, rfl, Or.inl (tq 191 (by decide +kernel))⟩
theorem fX3_9 : wF RX3 9 3 0 (.array .int) true := ⟨RX3, TX3, 6, tyX3, wcX3, by decide, rfl, rfl, rfl, Or.inl (tq 49 (by decide +kernel))⟩
theorem fX3_21 : wF RX3 21 3 1 (.int) false := ⟨RX3, TX3, 6, tyX3, wcX3, by decide, rfl, rfl, rfl, Or.inl (tq 51 (by decide +kernel))⟩
theorem fX3_25 : wF RX3 25 3 2 (.int) false := ⟨RX3, TX3, 6, tyX3, wcX3, by decide, rfl, rfl, rfl, Or.inl (tq 54 (by decide +kernel))⟩
theorem fX3_28 : wF RX3 28 3 3 (.int) false := ⟨RX3, TX3, 6, tyX3, wcX3, by decide, rfl, rfl, rfl, Or.inl (tq 58 (by decide +kernel))⟩
theorem fX3_31 : wF RX3 31 3 4 (.int) false := ⟨RX3, TX3, 6, tyX3, wcX3, by decide, rfl, rfl, rfl, Or.inl (tq 62 (by decide +kernel))⟩
theorem fX3_34 : wF RX3 34 3 5 (.boolean) false := ⟨RX3, TX3, 6, tyX3, wcX3, by decide, rfl, rfl, rfl, Or.inl (tq 64 (by decide +kernel))⟩
theorem fX4_12 : wF RX4 12 4 0 (.array (.object "LevelBits$Loop")) true := ⟨RX4, TX4, 4, tyX4, wcX4, by decide, rfl, rfl, rfl, Or.inl (tq 275 (by decide +kernel))⟩
theorem fX4_21 : wF RX4 21 4 1 (.array (.object "LevelBits$Wave")) true := ⟨RX4, TX4, 4, tyX4, wcX4, by decide, rfl, rfl, rfl, Or.inl (tq 276 (by decide +kernel))⟩
theorem fX4_25 : wF RX4 25 4 2 (.int) false := ⟨RX4, TX4, 4, tyX4, wcX4, by decide, rfl, rfl, rfl, Or.inl (tq 277 (by decide +kernel))⟩
theorem fX4_29 : wF RX4 29 4 3 (.int) false := ⟨RX4, TX4, 4, tyX4, wcX4, by decide, rfl, rfl, rfl, Or.inl (tq 279 (by decide +kernel))⟩
theorem fX4_40 : wF RX4 40 3 1 (.int) false := ⟨RX3, TX3, 6, tyX3, wcX3, by decide, rfl, rfl, rfl, Or.inr ⟨"LevelBits", tq 53 (by decide +kernel)⟩⟩
theorem fX4_47 : wF RX4 47 7 4 (.int) false := ⟨RX7, TX7, 7, tyX7, wcX7, by decide, rfl, rfl, rfl, Or.inr ⟨"LevelBits", tq 117 (by decide +kernel)⟩⟩
theorem fX5_9 : wF RX5 9 5 0 (.array .byte) true := ⟨RX5, TX5, 10, tyX5, wcX5, by decide, rfl, rfl, rfl, Or.inl (tq 296 (by decide +kernel))⟩
theorem fX5_15 : wF RX5 15 5 1 (.object "LevelBits$Plan") false := ⟨RX5, TX5, 10, tyX5, wcX5, by decide, rfl, rfl, rfl, Or.inl (tq 297 (by decide +kernel))⟩
theorem fX5_30 : wF RX5 30 5 2 (.int) false := ⟨RX5, TX5, 10, tyX5, wcX5, by decide, rfl, rfl, rfl, Or.inl (tq 298 (by decide +kernel))⟩
theorem fX5_34 : wF RX5 34 5 3 (.int) false := ⟨RX5, TX5, 10, tyX5, wcX5, by decide, rfl, rfl, rfl, Or.inl (tq 299 (by decide +kernel))⟩
theorem fX5_37 : wF RX5 37 5 8 (.int) false := ⟨RX5, TX5, 10, tyX5, wcX5, by decide, rfl, rfl, rfl, Or.inl (tq 304 (by decide +kernel))⟩
theorem fX5_62 : wF RX5 62 5 4 (.int) false := ⟨RX5, TX5, 10, tyX5, wcX5, by decide, rfl, rfl, rfl, Or.inl (tq 300 (by decide +kernel))⟩
theorem fX5_76 : wF RX5 76 5 7 (.int) false := ⟨RX5, TX5, 10, tyX5, wcX5, by decide, rfl, rfl, rfl, Or.inl (tq 303 (by decide +kernel))⟩
theorem fX5_79 : wF RX5 79 3 1 (.int) false := ⟨RX3, TX3, 6, tyX3, wcX3, by decide, rfl, rfl, rfl, Or.inr ⟨"LevelBits", tq 52 (by decide +kernel)⟩⟩
theorem fX5_99 : wF RX5 99 3 3 (.int) false := ⟨RX3, TX3, 6, tyX3, wcX3, by decide, rfl, rfl, rfl, Or.inr ⟨"LevelBits", tq 59 (by decide +kernel)⟩⟩
theorem fX5_103 : wF RX5 103 3 5 (.boolean) false := ⟨RX3, TX3, 6, tyX3, wcX3, by decide, rfl, rfl, rfl, Or.inr ⟨"LevelBits", tq 65 (by decide +kernel)⟩⟩
theorem fX5_111 : wF RX5 111 5 5 (.int) false := ⟨RX5, TX5, 10, tyX5, wcX5, by decide, rfl, rfl, rfl, Or.inl (tq 301 (by decide +kernel))⟩
theorem fX5_120 : wF RX5 120 3 4 (.int) false := ⟨RX3, TX3, 6, tyX3, wcX3, by decide, rfl, rfl, rfl, Or.inr ⟨"LevelBits", tq 63 (by decide +kernel)⟩⟩
theorem fX5_126 : wF RX5 126 7 4 (.int) false := ⟨RX7, TX7, 7, tyX7, wcX7, by decide, rfl, rfl, rfl, Or.inr ⟨"LevelBits", tq 116 (by decide +kernel)⟩⟩
theorem fX5_142 : wF RX5 142 7 5 (.int) false := ⟨RX7, TX7, 7, tyX7, wcX7, by decide, rfl, rfl, rfl, Or.inr ⟨"LevelBits", tq 119 (by decide +kernel)⟩⟩
theorem fX5_158 : wF RX5 158 5 6 (.int) false := ⟨RX5, TX5, 10, tyX5, wcX5, by decide, rfl, rfl, rfl, Or.inl (tq 302 (by decide +kernel))⟩
theorem fX5_168 : wF RX5 168 5 9 (.int) false := ⟨RX5, TX5, 10, tyX5, wcX5, by decide, rfl, rfl, rfl, Or.inl (tq 307 (by decide +kernel))⟩
theorem fX6_12 : wF RX6 12 6 0 (.object "LevelBits$Core") true := ⟨RX6, TX6, 10, tyX6, wcX6, by decide, rfl, rfl, rfl, Or.inl (tq 136 (by decide +kernel))⟩
theorem fX6_18 : wF RX6 18 6 1 (.array .byte) true := ⟨RX6, TX6, 10, tyX6, wcX6, by decide, rfl, rfl, rfl, Or.inl (tq 138 (by decide +kernel))⟩
theorem fX6_22 : wF RX6 22 6 2 (.array .int) true := ⟨RX6, TX6, 10, tyX6, wcX6, by decide, rfl, rfl, rfl, Or.inl (tq 140 (by decide +kernel))⟩
theorem fX6_26 : wF RX6 26 6 3 (.array .int) true := ⟨RX6, TX6, 10, tyX6, wcX6, by decide, rfl, rfl, rfl, Or.inl (tq 141 (by decide +kernel))⟩
theorem fX6_32 : wF RX6 32 6 4 (.object "LevelBits$Wave") false := ⟨RX6, TX6, 10, tyX6, wcX6, by decide, rfl, rfl, rfl, Or.inl (tq 143 (by decide +kernel))⟩
theorem fX6_50 : wF RX6 50 6 6 (.int) false := ⟨RX6, TX6, 10, tyX6, wcX6, by decide, rfl, rfl, rfl, Or.inl (tq 148 (by decide +kernel))⟩
theorem fX6_54 : wF RX6 54 6 7 (.int) false := ⟨RX6, TX6, 10, tyX6, wcX6, by decide, rfl, rfl, rfl, Or.inl (tq 150 (by decide +kernel))⟩
theorem fX6_57 : wF RX6 57 6 8 (.int) false := ⟨RX6, TX6, 10, tyX6, wcX6, by decide, rfl, rfl, rfl, Or.inl (tq 152 (by decide +kernel))⟩
theorem fX6_60 : wF RX6 60 6 9 (.int) false := ⟨RX6, TX6, 10, tyX6, wcX6, by decide, rfl, rfl, rfl, Or.inl (tq 154 (by decide +kernel))⟩
theorem fX6_69 : wF RX6 69 6 5 (.boolean) false := ⟨RX6, TX6, 10, tyX6, wcX6, by decide, rfl, rfl, rfl, Or.inl (tq 145 (by decide +kernel))⟩
theorem fX6_83 : wF RX6 83 0 0 (.array .int) true := ⟨RX0, TX0, 5, tyX0, wcX0, by decide, rfl, rfl, rfl, Or.inr ⟨"LevelBits", tq 83 (by decide +kernel)⟩⟩
theorem fX6_95 : wF RX6 95 0 3 (.int) false := ⟨RX0, TX0, 5, tyX0, wcX0, by decide, rfl, rfl, rfl, Or.inr ⟨"LevelBits", tq 89 (by decide +kernel)⟩⟩
theorem fX6_98 : wF RX6 98 0 4 (.int) false := ⟨RX0, TX0, 5, tyX0, wcX0, by decide, rfl, rfl, rfl, Or.inr ⟨"LevelBits", tq 92 (by decide +kernel)⟩⟩
theorem fX6_101 : wF RX6 101 0 1 (.object "LevelBits$Loop") false := ⟨RX0, TX0, 5, tyX0, wcX0, by decide, rfl, rfl, rfl, Or.inr ⟨"LevelBits", tq 86 (by decide +kernel)⟩⟩
theorem fX6_105 : wF RX6 105 3 2 (.int) false := ⟨RX3, TX3, 6, tyX3, wcX3, by decide, rfl, rfl, rfl, Or.inr ⟨"LevelBits", tq 56 (by decide +kernel)⟩⟩
theorem fX6_114 : wF RX6 114 8 1 (.int) false := ⟨RX8, TX8, 2, tyX8, wcX8, by decide, rfl, rfl, rfl, Or.inr ⟨"LevelBits", tq 217 (by decide +kernel)⟩⟩
theorem fX6_119 : wF RX6 119 8 0 (.array .int) true := ⟨RX8, TX8, 2, tyX8, wcX8, by decide, rfl, rfl, rfl, Or.inr ⟨"LevelBits", tq 215 (by decide +kernel)⟩⟩
theorem fX7_9 : wF RX7 9 7 0 (.array .int) true := ⟨RX7, TX7, 7, tyX7, wcX7, by decide, rfl, rfl, rfl, Or.inl (tq 111 (by decide +kernel))⟩
theorem fX7_15 : wF RX7 15 7 1 (.array .int) true := ⟨RX7, TX7, 7, tyX7, wcX7, by decide, rfl, rfl, rfl, Or.inl (tq 112 (by decide +kernel))⟩
theorem fX7_18 : wF RX7 18 7 2 (.array .int) true := ⟨RX7, TX7, 7, tyX7, wcX7, by decide, rfl, rfl, rfl, Or.inl (tq 113 (by decide +kernel))⟩
theorem fX7_21 : wF RX7 21 7 3 (.array .int) true := ⟨RX7, TX7, 7, tyX7, wcX7, by decide, rfl, rfl, rfl, Or.inl (tq 114 (by decide +kernel))⟩
theorem fX7_24 : wF RX7 24 7 4 (.int) false := ⟨RX7, TX7, 7, tyX7, wcX7, by decide, rfl, rfl, rfl, Or.inl (tq 115 (by decide +kernel))⟩
theorem fX7_28 : wF RX7 28 7 5 (.int) false := ⟨RX7, TX7, 7, tyX7, wcX7, by decide, rfl, rfl, rfl, Or.inl (tq 118 (by decide +kernel))⟩
theorem fX7_31 : wF RX7 31 7 6 (.int) false := ⟨RX7, TX7, 7, tyX7, wcX7, by decide, rfl, rfl, rfl, Or.inl (tq 120 (by decide +kernel))⟩
theorem fX8_9 : wF RX8 9 8 0 (.array .int) true := ⟨RX8, TX8, 2, tyX8, wcX8, by decide, rfl, rfl, rfl, Or.inl (tq 214 (by decide +kernel))⟩
theorem fX8_21 : wF RX8 21 8 1 (.int) false := ⟨RX8, TX8, 2, tyX8, wcX8, by decide, rfl, rfl, rfl, Or.inl (tq 216 (by decide +kernel))⟩
theorem fX10_9 : wF RX10 9 10 2 (.int) false := ⟨RX10, TX10, 44, tyX10, wcX10, by decide, rfl, rfl, rfl, Or.inl (tq 1052 (by decide +kernel))⟩
theorem fX10_13 : wF RX10 13 10 3 (.array .int) true := ⟨RX10, TX10, 44, tyX10, wcX10, by decide, rfl, rfl, rfl, Or.inl (tq 1053 (by decide +kernel))⟩
theorem fX10_17 : wF RX10 17 10 14 (.array .long) true := ⟨RX10, TX10, 44, tyX10, wcX10, by decide, rfl, rfl, rfl, Or.inl (tq 1064 (by decide +kernel))⟩
theorem fX10_21 : wF RX10 21 10 15 (.array .long) true := ⟨RX10, TX10, 44, tyX10, wcX10, by decide, rfl, rfl, rfl, Or.inl (tq 1065 (by decide +kernel))⟩
theorem fX10_24 : wF RX10 24 10 16 (.array .int) true := ⟨RX10, TX10, 44, tyX10, wcX10, by decide, rfl, rfl, rfl, Or.inl (tq 1066 (by decide +kernel))⟩
theorem fX10_27 : wF RX10 27 10 17 (.array .int) true := ⟨RX10, TX10, 44, tyX10, wcX10, by decide, rfl, rfl, rfl, Or.inl (tq 1067 (by decide +kernel))⟩
theorem fX10_30 : wF RX10 30 10 18 (.array .int) true := ⟨RX10, TX10, 44, tyX10, wcX10, by decide, rfl, rfl, rfl, Or.inl (tq 1068 (by decide +kernel))⟩
theorem fX10_33 : wF RX10 33 10 19 (.array .int) true := ⟨RX10, TX10, 44, tyX10, wcX10, by decide, rfl, rfl, rfl, Or.inl (tq 1069 (by decide +kernel))⟩
theorem fX10_36 : wF RX10 36 10 20 (.array .int) true := ⟨RX10, TX10, 44, tyX10, wcX10, by decide, rfl, rfl, rfl, Or.inl (tq 1070 (by decide +kernel))⟩
theorem fX10_39 : wF RX10 39 10 21 (.array .boolean) true := ⟨RX10, TX10, 44, tyX10, wcX10, by decide, rfl, rfl, rfl, Or.inl (tq 1071 (by decide +kernel))⟩
theorem fX10_43 : wF RX10 43 10 22 (.array .int) true := ⟨RX10, TX10, 44, tyX10, wcX10, by decide, rfl, rfl, rfl, Or.inl (tq 1072 (by decide +kernel))⟩
theorem fX10_46 : wF RX10 46 10 23 (.array .int) true := ⟨RX10, TX10, 44, tyX10, wcX10, by decide, rfl, rfl, rfl, Or.inl (tq 1073 (by decide +kernel))⟩
theorem fX10_49 : wF RX10 49 10 24 (.array .int) true := ⟨RX10, TX10, 44, tyX10, wcX10, by decide, rfl, rfl, rfl, Or.inl (tq 1074 (by decide +kernel))⟩
theorem fX10_52 : wF RX10 52 10 25 (.array .int) true := ⟨RX10, TX10, 44, tyX10, wcX10, by decide, rfl, rfl, rfl, Or.inl (tq 1075 (by decide +kernel))⟩
theorem fX10_55 : wF RX10 55 10 31 (.array .int) true := ⟨RX10, TX10, 44, tyX10, wcX10, by decide, rfl, rfl, rfl, Or.inl (tq 1081 (by decide +kernel))⟩
theorem fX10_58 : wF RX10 58 10 32 (.array .int) true := ⟨RX10, TX10, 44, tyX10, wcX10, by decide, rfl, rfl, rfl, Or.inl (tq 1082 (by decide +kernel))⟩
theorem fX10_61 : wF RX10 61 10 33 (.array .int) true := ⟨RX10, TX10, 44, tyX10, wcX10, by decide, rfl, rfl, rfl, Or.inl (tq 1083 (by decide +kernel))⟩
theorem fX10_64 : wF RX10 64 10 34 (.array .int) true := ⟨RX10, TX10, 44, tyX10, wcX10, by decide, rfl, rfl, rfl, Or.inl (tq 1084 (by decide +kernel))⟩
theorem fX10_67 : wF RX10 67 10 35 (.array .byte) true := ⟨RX10, TX10, 44, tyX10, wcX10, by decide, rfl, rfl, rfl, Or.inl (tq 1085 (by decide +kernel))⟩
theorem fX10_71 : wF RX10 71 10 36 (.array .byte) true := ⟨RX10, TX10, 44, tyX10, wcX10, by decide, rfl, rfl, rfl, Or.inl (tq 1086 (by decide +kernel))⟩
theorem fX10_74 : wF RX10 74 10 37 (.array .boolean) true := ⟨RX10, TX10, 44, tyX10, wcX10, by decide, rfl, rfl, rfl, Or.inl (tq 1087 (by decide +kernel))⟩
theorem fX10_77 : wF RX10 77 10 38 (.array .int) true := ⟨RX10, TX10, 44, tyX10, wcX10, by decide, rfl, rfl, rfl, Or.inl (tq 1088 (by decide +kernel))⟩
theorem fX10_80 : wF RX10 80 10 39 (.int) false := ⟨RX10, TX10, 44, tyX10, wcX10, by decide, rfl, rfl, rfl, Or.inl (tq 1089 (by decide +kernel))⟩
theorem fX10_83 : wF RX10 83 10 40 (.array .int) true := ⟨RX10, TX10, 44, tyX10, wcX10, by decide, rfl, rfl, rfl, Or.inl (tq 1090 (by decide +kernel))⟩
theorem fX10_86 : wF RX10 86 10 41 (.array .int) true := ⟨RX10, TX10, 44, tyX10, wcX10, by decide, rfl, rfl, rfl, Or.inl (tq 1091 (by decide +kernel))⟩
theorem fX10_89 : wF RX10 89 10 0 (.int) false := ⟨RX10, TX10, 44, tyX10, wcX10, by decide, rfl, rfl, rfl, Or.inl (tq 1050 (by decide +kernel))⟩
theorem fX10_92 : wF RX10 92 10 1 (.int) false := ⟨RX10, TX10, 44, tyX10, wcX10, by decide, rfl, rfl, rfl, Or.inl (tq 1051 (by decide +kernel))⟩
theorem fX10_96 : wF RX10 96 10 4 (.int) false := ⟨RX10, TX10, 44, tyX10, wcX10, by decide, rfl, rfl, rfl, Or.inl (tq 1054 (by decide +kernel))⟩
theorem fX10_99 : wF RX10 99 10 7 (.int) false := ⟨RX10, TX10, 44, tyX10, wcX10, by decide, rfl, rfl, rfl, Or.inl (tq 1057 (by decide +kernel))⟩
theorem fX10_102 : wF RX10 102 10 10 (.int) false := ⟨RX10, TX10, 44, tyX10, wcX10, by decide, rfl, rfl, rfl, Or.inl (tq 1060 (by decide +kernel))⟩
theorem fX10_105 : wF RX10 105 10 8 (.int) false := ⟨RX10, TX10, 44, tyX10, wcX10, by decide, rfl, rfl, rfl, Or.inl (tq 1058 (by decide +kernel))⟩
theorem fX10_108 : wF RX10 108 10 5 (.int) false := ⟨RX10, TX10, 44, tyX10, wcX10, by decide, rfl, rfl, rfl, Or.inl (tq 1055 (by decide +kernel))⟩
theorem fX10_115 : wF RX10 115 10 6 (.int) false := ⟨RX10, TX10, 44, tyX10, wcX10, by decide, rfl, rfl, rfl, Or.inl (tq 1056 (by decide +kernel))⟩
theorem fX10_118 : wF RX10 118 10 9 (.int) false := ⟨RX10, TX10, 44, tyX10, wcX10, by decide, rfl, rfl, rfl, Or.inl (tq 1059 (by decide +kernel))⟩
theorem fX10_125 : wF RX10 125 10 13 (.long) false := ⟨RX10, TX10, 44, tyX10, wcX10, by decide, rfl, rfl, rfl, Or.inl (tq 1063 (by decide +kernel))⟩
theorem fX10_136 : wF RX10 136 10 12 (.int) false := ⟨RX10, TX10, 44, tyX10, wcX10, by decide, rfl, rfl, rfl, Or.inl (tq 1062 (by decide +kernel))⟩
theorem fX10_139 : wF RX10 139 10 11 (.int) false := ⟨RX10, TX10, 44, tyX10, wcX10, by decide, rfl, rfl, rfl, Or.inl (tq 1061 (by decide +kernel))⟩
theorem fX10_199 : wF RX10 199 10 28 (.int) false := ⟨RX10, TX10, 44, tyX10, wcX10, by decide, rfl, rfl, rfl, Or.inl (tq 1078 (by decide +kernel))⟩
theorem fX10_202 : wF RX10 202 10 29 (.int) false := ⟨RX10, TX10, 44, tyX10, wcX10, by decide, rfl, rfl, rfl, Or.inl (tq 1079 (by decide +kernel))⟩
theorem fX10_238 : wF RX10 238 10 26 (.int) false := ⟨RX10, TX10, 44, tyX10, wcX10, by decide, rfl, rfl, rfl, Or.inl (tq 1076 (by decide +kernel))⟩
theorem fX10_244 : wF RX10 244 10 27 (.int) false := ⟨RX10, TX10, 44, tyX10, wcX10, by decide, rfl, rfl, rfl, Or.inl (tq 1077 (by decide +kernel))⟩
theorem fX10_247 : wF RX10 247 10 30 (.boolean) false := ⟨RX10, TX10, 44, tyX10, wcX10, by decide, rfl, rfl, rfl, Or.inl (tq 1080 (by decide +kernel))⟩
theorem fX10_318 : wF RX10 318 10 43 (.int) false := ⟨RX10, TX10, 44, tyX10, wcX10, by decide, rfl, rfl, rfl, Or.inl (tq 1093 (by decide +kernel))⟩
theorem fX10_325 : wF RX10 325 10 42 (.int) false := ⟨RX10, TX10, 44, tyX10, wcX10, by decide, rfl, rfl, rfl, Or.inl (tq 1092 (by decide +kernel))⟩
theorem kX9_init : Cond.code yX9_init cX9_init 1 none ∈ lw_tbl := tq 27 (by decide +kernel)
theorem vX9_init : wYi yX9_init 0 := ⟨⟨tq 1 (by decide +kernel), ⟨by decide +kernel, by decide +kernel⟩, by decide +kernel⟩, tq 26 (by decide +kernel), rfl⟩
theorem kX6_init : Cond.code yX6_init cX6_init 1 none ∈ lw_tbl := tq 35 (by decide +kernel)
theorem vX6_init : wYi yX6_init 0 := ⟨⟨tq 2 (by decide +kernel), ⟨by decide +kernel, by decide +kernel⟩, by decide +kernel⟩, tq 34 (by decide +kernel), rfl⟩
theorem kX0_init : Cond.code yX0_init cX0_init 1 none ∈ lw_tbl := tq 41 (by decide +kernel)
theorem vX0_init : wYi yX0_init 0 := ⟨⟨tq 3 (by decide +kernel), ⟨by decide +kernel, by decide +kernel⟩, by decide +kernel⟩, tq 40 (by decide +kernel), rfl⟩
theorem kX3_init : Cond.code yX3_init cX3_init 1 none ∈ lw_tbl := tq 47 (by decide +kernel)
theorem vX3_init : wYi yX3_init 0 := ⟨⟨tq 4 (by decide +kernel), ⟨by decide +kernel, by decide +kernel⟩, by decide +kernel⟩, tq 46 (by decide +kernel), rfl⟩
theorem kX7_init : Cond.code yX7_init cX7_init 1 none ∈ lw_tbl := tq 109 (by decide +kernel)
theorem vX7_init : wYi yX7_init 0 := ⟨⟨tq 5 (by decide +kernel), ⟨by decide +kernel, by decide +kernel⟩, by decide +kernel⟩, tq 108 (by decide +kernel), rfl⟩
theorem kX2_init : Cond.code yX2_init cX2_init 1 none ∈ lw_tbl := tq 182 (by decide +kernel)
theorem vX2_init : wYi yX2_init 0 := ⟨⟨tq 6 (by decide +kernel), ⟨by decide +kernel, by decide +kernel⟩, by decide +kernel⟩, tq 181 (by decide +kernel), rfl⟩
theorem kX8_init : Cond.code yX8_init cX8_init 1 none ∈ lw_tbl := tq 212 (by decide +kernel)
theorem vX8_init : wYi yX8_init 0 := ⟨⟨tq 7 (by decide +kernel), ⟨by decide +kernel, by decide +kernel⟩, by decide +kernel⟩, tq 211 (by decide +kernel), rfl⟩
theorem kX1_init : Cond.code yX1_init cX1_init 1 none ∈ lw_tbl := tq 227 (by decide +kernel)
theorem vX1_init : wYi yX1_init 0 := ⟨⟨tq 8 (by decide +kernel), ⟨by decide +kernel, by decide +kernel⟩, by decide +kernel⟩, tq 226 (by decide +kernel), rfl⟩
theorem kX4_init : Cond.code yX4_init cX4_init 1 none ∈ lw_tbl := tq 267 (by decide +kernel)
theorem vX4_init : wYi yX4_init 0 := ⟨⟨tq 9 (by decide +kernel), ⟨by decide +kernel, by decide +kernel⟩, by decide +kernel⟩, tq 266 (by decide +kernel), rfl⟩
theorem kX5_init : Cond.code yX5_init cX5_init 3 none ∈ lw_tbl := tq 294 (by decide +kernel)
theorem vX5_init : wYi yX5_init 2 := ⟨⟨tq 10 (by decide +kernel), ⟨by decide +kernel, by decide +kernel⟩, by decide +kernel⟩, tq 293 (by decide +kernel), rfl⟩
theorem kX9_feed : Cond.code yX9_feed cX9_feed 6 (some .int) ∈ lw_tbl := tq 381 (by decide +kernel)
theorem vX9_feed : wYv yX9_feed 5 := ⟨⟨tq 1 (by decide +kernel), ⟨by decide +kernel, by decide +kernel⟩, by decide +kernel⟩, tq 379 (by decide +kernel), tq 380 (by decide +kernel)⟩
theorem kX9_tapeNumber : Cond.code yX9_tapeNumber cX9_tapeNumber 3 none ∈ lw_tbl := tq 385 (by decide +kernel)
theorem vX9_tapeNumber : wYv yX9_tapeNumber 1 := ⟨⟨tq 1 (by decide +kernel), ⟨by decide +kernel, by decide +kernel⟩, by decide +kernel⟩, tq 384 (by decide +kernel), tsel (q := (yX9_tapeNumber, 16)) 0 (by decide +kernel)⟩
theorem kX9_text : Cond.code yX9_text cX9_text 3 (some .int) ∈ lw_tbl := tq 389 (by decide +kernel)
theorem vX9_text : wYv yX9_text 1 := ⟨⟨tq 1 (by decide +kernel), ⟨by decide +kernel, by decide +kernel⟩, by decide +kernel⟩, tq 387 (by decide +kernel), tq 388 (by decide +kernel)⟩
theorem kX9_refused : Cond.code yX9_refused cX9_refused 3 (some .int) ∈ lw_tbl := tq 393 (by decide +kernel)
theorem vX9_refused : wYv yX9_refused 2 := ⟨⟨tq 1 (by decide +kernel), ⟨by decide +kernel, by decide +kernel⟩, by decide +kernel⟩, tq 392 (by decide +kernel), tsel (q := (yX9_refused, 16)) 1 (by decide +kernel)⟩
theorem kX5_readText : Cond.code yX5_readText cX5_readText 5 (some .boolean) ∈ lw_tbl := tq 397 (by decide +kernel)
theorem vX5_readText : wYv yX5_readText 2 := ⟨⟨tq 10 (by decide +kernel), ⟨by decide +kernel, by decide +kernel⟩, by decide +kernel⟩, tq 396 (by decide +kernel), tsel (q := (yX5_readText, 10)) 2 (by decide +kernel)⟩
theorem kX4_clear : Cond.code yX4_clear cX4_clear 1 none ∈ lw_tbl := tq 401 (by decide +kernel)
theorem vX4_clear : wYv yX4_clear 0 := ⟨⟨tq 9 (by decide +kernel), ⟨by decide +kernel, by decide +kernel⟩, by decide +kernel⟩, tq 400 (by decide +kernel), tsel (q := (yX4_clear, 4)) 3 (by decide +kernel)⟩
theorem kJ9_min_7cf53 : Cond.code yJ9_min_7cf53 cJ9_min_7cf53 2 (some .int) ∈ lw_tbl := tq 404 (by decide +kernel)
theorem vJ9_min_7cf53 : wYs yJ9_min_7cf53 2 := ⟨⟨tq 12 (by decide +kernel), ⟨by decide +kernel, by decide +kernel⟩, by decide +kernel⟩, tq 403 (by decide +kernel)⟩
theorem kX5_step : Cond.code yX5_step cX5_step 1 none ∈ lw_tbl := tq 408 (by decide +kernel)
theorem vX5_step : wYv yX5_step 0 := ⟨⟨tq 10 (by decide +kernel), ⟨by decide +kernel, by decide +kernel⟩, by decide +kernel⟩, tq 407 (by decide +kernel), tsel (q := (yX5_step, 10)) 4 (by decide +kernel)⟩
theorem kX5_scanWord : Cond.code yX5_scanWord cX5_scanWord 2 none ∈ lw_tbl := tq 412 (by decide +kernel)
theorem vX5_scanWord : wYv yX5_scanWord 0 := ⟨⟨tq 10 (by decide +kernel), ⟨by decide +kernel, by decide +kernel⟩, by decide +kernel⟩, tq 411 (by decide +kernel), tsel (q := (yX5_scanWord, 10)) 5 (by decide +kernel)⟩
theorem kX5_scanWhole : Cond.code yX5_scanWhole cX5_scanWhole 2 none ∈ lw_tbl := tq 416 (by decide +kernel)
theorem vX5_scanWhole : wYv yX5_scanWhole 0 := ⟨⟨tq 10 (by decide +kernel), ⟨by decide +kernel, by decide +kernel⟩, by decide +kernel⟩, tq 415 (by decide +kernel), tsel (q := (yX5_scanWhole, 10)) 6 (by decide +kernel)⟩
theorem kX5_isWord : Cond.code yX5_isWord cX5_isWord 2 (some .boolean) ∈ lw_tbl := tq 421 (by decide +kernel)
theorem vX5_isWord : wYv yX5_isWord 1 := ⟨⟨tq 10 (by decide +kernel), ⟨by decide +kernel, by decide +kernel⟩, by decide +kernel⟩, tq 420 (by decide +kernel), tsel (q := (yX5_isWord, 10)) 7 (by decide +kernel)⟩
theorem kX9_packed : Cond.code yX9_packed cX9_packed 3 (some .int) ∈ lw_tbl := tq 424 (by decide +kernel)
theorem vX9_packed : wYs yX9_packed 1 := ⟨⟨tq 1 (by decide +kernel), ⟨by decide +kernel, by decide +kernel⟩, by decide +kernel⟩, tq 423 (by decide +kernel)⟩
theorem kJ0_length_8abf5 : Cond.code yJ0_length_8abf5 cJ0_length_8abf5 1 (some .int) ∈ lw_tbl := tq 428 (by decide +kernel)
theorem vJ0_length_8abf5 : wYv yJ0_length_8abf5 0 := ⟨⟨tq 13 (by decide +kernel), ⟨by decide +kernel, by decide +kernel⟩, by decide +kernel⟩, tq 426 (by decide +kernel), tq 427 (by decide +kernel)⟩
theorem kJ0_coder_7d493 : Cond.code yJ0_coder_7d493 cJ0_coder_7d493 1 (some .byte) ∈ lw_tbl := tq 432 (by decide +kernel)
theorem vJ0_coder_7d493 : wYv yJ0_coder_7d493 0 := ⟨⟨tq 13 (by decide +kernel), ⟨by decide +kernel, by decide +kernel⟩, by decide +kernel⟩, tq 430 (by decide +kernel), tq 431 (by decide +kernel)⟩
theorem kJ0_charAt_5068e : Cond.code yJ0_charAt_5068e cJ0_charAt_5068e 2 (some .char) ∈ lw_tbl := tq 438 (by decide +kernel)
theorem vJ0_charAt_5068e : wYv yJ0_charAt_5068e 1 := ⟨⟨tq 13 (by decide +kernel), ⟨by decide +kernel, by decide +kernel⟩, by decide +kernel⟩, tq 436 (by decide +kernel), tq 437 (by decide +kernel)⟩
theorem kJ0_isLatin1_aae02 : Cond.code yJ0_isLatin1_aae02 cJ0_isLatin1_aae02 1 (some .boolean) ∈ lw_tbl := tq 442 (by decide +kernel)
theorem vJ0_isLatin1_aae02 : wYv yJ0_isLatin1_aae02 0 := ⟨⟨tq 13 (by decide +kernel), ⟨by decide +kernel, by decide +kernel⟩, by decide +kernel⟩, tq 440 (by decide +kernel), tq 441 (by decide +kernel)⟩
theorem kJ1_charAt_3b067 : Cond.code yJ1_charAt_3b067 cJ1_charAt_3b067 2 (some .char) ∈ lw_tbl := tq 445 (by decide +kernel)
theorem vJ1_charAt_3b067 : wYs yJ1_charAt_3b067 2 := ⟨⟨tq 14 (by decide +kernel), ⟨by decide +kernel, by decide +kernel⟩, by decide +kernel⟩, tq 444 (by decide +kernel)⟩
theorem kJ0_checkIndex_df160 : Cond.code yJ0_checkIndex_df160 cJ0_checkIndex_df160 2 none ∈ lw_tbl := tq 448 (by decide +kernel)
theorem vJ0_checkIndex_df160 : wYs yJ0_checkIndex_df160 2 := ⟨⟨tq 13 (by decide +kernel), ⟨by decide +kernel, by decide +kernel⟩, by decide +kernel⟩, tq 447 (by decide +kernel)⟩
theorem kJ3_checkIndex_8e157 : Cond.code yJ3_checkIndex_8e157 cJ3_checkIndex_8e157 3 (some .int) ∈ lw_tbl := tq 453 (by decide +kernel)
theorem vJ3_checkIndex_8e157 : wYs yJ3_checkIndex_8e157 3 := ⟨⟨tq 15 (by decide +kernel), ⟨by decide +kernel, by decide +kernel⟩, by decide +kernel⟩, tq 452 (by decide +kernel)⟩
theorem kJ2_charAt_3b067 : Cond.code yJ2_charAt_3b067 cJ2_charAt_3b067 2 (some .char) ∈ lw_tbl := tq 456 (by decide +kernel)
theorem vJ2_charAt_3b067 : wYs yJ2_charAt_3b067 2 := ⟨⟨tq 16 (by decide +kernel), ⟨by decide +kernel, by decide +kernel⟩, by decide +kernel⟩, tq 455 (by decide +kernel)⟩
theorem kJ2_checkIndex_2214a : Cond.code yJ2_checkIndex_2214a cJ2_checkIndex_2214a 2 none ∈ lw_tbl := tq 459 (by decide +kernel)
theorem vJ2_checkIndex_2214a : wYs yJ2_checkIndex_2214a 2 := ⟨⟨tq 16 (by decide +kernel), ⟨by decide +kernel, by decide +kernel⟩, by decide +kernel⟩, tq 458 (by decide +kernel)⟩
theorem kJ2_length_9d52b : Cond.code yJ2_length_9d52b cJ2_length_9d52b 1 (some .int) ∈ lw_tbl := tq 462 (by decide +kernel)
theorem vJ2_length_9d52b : wYs yJ2_length_9d52b 1 := ⟨⟨tq 16 (by decide +kernel), ⟨by decide +kernel, by decide +kernel⟩, by decide +kernel⟩, tq 461 (by decide +kernel)⟩
theorem kJ2_getChar_3b067 : Cond.code yJ2_getChar_3b067 cJ2_getChar_3b067 2 (some .char) ∈ lw_tbl := tq 466 (by decide +kernel)
theorem vJ2_getChar_3b067 : wYs yJ2_getChar_3b067 2 := ⟨⟨tq 16 (by decide +kernel), ⟨by decide +kernel, by decide +kernel⟩, by decide +kernel⟩, tq 465 (by decide +kernel)⟩
theorem kX5_readLoop : Cond.code yX5_readLoop cX5_readLoop 2 (some .boolean) ∈ lw_tbl := tq 476 (by decide +kernel)
theorem vX5_readLoop : wYv yX5_readLoop 0 := ⟨⟨tq 10 (by decide +kernel), ⟨by decide +kernel, by decide +kernel⟩, by decide +kernel⟩, tq 475 (by decide +kernel), tsel (q := (yX5_readLoop, 10)) 8 (by decide +kernel)⟩
theorem kX4_addLoop : Cond.code yX4_addLoop cX4_addLoop 2 (some (.object "LevelBits$Loop")) ∈ lw_tbl := tq 480 (by decide +kernel)
theorem vX4_addLoop : wYv yX4_addLoop 0 := ⟨⟨tq 9 (by decide +kernel), ⟨by decide +kernel, by decide +kernel⟩, by decide +kernel⟩, tq 479 (by decide +kernel), tsel (q := (yX4_addLoop, 4)) 9 (by decide +kernel)⟩
theorem kX3_clear : Cond.code yX3_clear cX3_clear 1 none ∈ lw_tbl := tq 484 (by decide +kernel)
theorem vX3_clear : wYv yX3_clear 0 := ⟨⟨tq 4 (by decide +kernel), ⟨by decide +kernel, by decide +kernel⟩, by decide +kernel⟩, tq 483 (by decide +kernel), tsel (q := (yX3_clear, 6)) 10 (by decide +kernel)⟩
theorem kJ7_fill_53178 : Cond.code yJ7_fill_53178 cJ7_fill_53178 4 none ∈ lw_tbl := tq 487 (by decide +kernel)
theorem vJ7_fill_53178 : wYs yJ7_fill_53178 2 := ⟨⟨tq 17 (by decide +kernel), ⟨by decide +kernel, by decide +kernel⟩, by decide +kernel⟩, tq 486 (by decide +kernel)⟩
theorem kX5_failed : Cond.code yX5_failed cX5_failed 2 (some .boolean) ∈ lw_tbl := tq 491 (by decide +kernel)
theorem vX5_failed : wYv yX5_failed 1 := ⟨⟨tq 10 (by decide +kernel), ⟨by decide +kernel, by decide +kernel⟩, by decide +kernel⟩, tq 490 (by decide +kernel), tsel (q := (yX5_failed, 10)) 11 (by decide +kernel)⟩
theorem kX5_failedAt : Cond.code yX5_failedAt cX5_failedAt 3 (some .boolean) ∈ lw_tbl := tq 495 (by decide +kernel)
theorem vX5_failedAt : wYv yX5_failedAt 2 := ⟨⟨tq 10 (by decide +kernel), ⟨by decide +kernel, by decide +kernel⟩, by decide +kernel⟩, tq 494 (by decide +kernel), tsel (q := (yX5_failedAt, 10)) 12 (by decide +kernel)⟩
theorem kX5_takeName : Cond.code yX5_takeName cX5_takeName 1 (some .boolean) ∈ lw_tbl := tq 499 (by decide +kernel)
theorem vX5_takeName : wYv yX5_takeName 0 := ⟨⟨tq 10 (by decide +kernel), ⟨by decide +kernel, by decide +kernel⟩, by decide +kernel⟩, tq 498 (by decide +kernel), tsel (q := (yX5_takeName, 10)) 13 (by decide +kernel)⟩
theorem kX5_isReserved : Cond.code yX5_isReserved cX5_isReserved 1 (some .boolean) ∈ lw_tbl := tq 503 (by decide +kernel)
theorem vX5_isReserved : wYv yX5_isReserved 0 := ⟨⟨tq 10 (by decide +kernel), ⟨by decide +kernel, by decide +kernel⟩, by decide +kernel⟩, tq 502 (by decide +kernel), tsel (q := (yX5_isReserved, 10)) 14 (by decide +kernel)⟩
theorem kX4_hasName : Cond.code yX4_hasName cX4_hasName 3 (some .boolean) ∈ lw_tbl := tq 518 (by decide +kernel)
theorem vX4_hasName : wYv yX4_hasName 1 := ⟨⟨tq 9 (by decide +kernel), ⟨by decide +kernel, by decide +kernel⟩, by decide +kernel⟩, tq 517 (by decide +kernel), tsel (q := (yX4_hasName, 4)) 15 (by decide +kernel)⟩
theorem kX4_nameOf : Cond.code yX4_nameOf cX4_nameOf 4 (some .int) ∈ lw_tbl := tq 522 (by decide +kernel)
theorem vX4_nameOf : wYv yX4_nameOf 2 := ⟨⟨tq 9 (by decide +kernel), ⟨by decide +kernel, by decide +kernel⟩, by decide +kernel⟩, tq 521 (by decide +kernel), tsel (q := (yX4_nameOf, 4)) 16 (by decide +kernel)⟩
theorem kX4_loopAt : Cond.code yX4_loopAt cX4_loopAt 2 (some (.object "LevelBits$Loop")) ∈ lw_tbl := tq 526 (by decide +kernel)
theorem vX4_loopAt : wYv yX4_loopAt 1 := ⟨⟨tq 9 (by decide +kernel), ⟨by decide +kernel, by decide +kernel⟩, by decide +kernel⟩, tq 525 (by decide +kernel), tsel (q := (yX4_loopAt, 4)) 17 (by decide +kernel)⟩
theorem kX4_waveAt : Cond.code yX4_waveAt cX4_waveAt 2 (some (.object "LevelBits$Wave")) ∈ lw_tbl := tq 530 (by decide +kernel)
theorem vX4_waveAt : wYv yX4_waveAt 1 := ⟨⟨tq 9 (by decide +kernel), ⟨by decide +kernel, by decide +kernel⟩, by decide +kernel⟩, tq 529 (by decide +kernel), tsel (q := (yX4_waveAt, 4)) 18 (by decide +kernel)⟩
theorem kX5_takeWord : Cond.code yX5_takeWord cX5_takeWord 2 (some .boolean) ∈ lw_tbl := tq 534 (by decide +kernel)
theorem vX5_takeWord : wYv yX5_takeWord 1 := ⟨⟨tq 10 (by decide +kernel), ⟨by decide +kernel, by decide +kernel⟩, by decide +kernel⟩, tq 533 (by decide +kernel), tsel (q := (yX5_takeWord, 10)) 19 (by decide +kernel)⟩
theorem kX5_readFactors : Cond.code yX5_readFactors cX5_readFactors 5 (some .boolean) ∈ lw_tbl := tq 538 (by decide +kernel)
theorem vX5_readFactors : wYv yX5_readFactors 1 := ⟨⟨tq 10 (by decide +kernel), ⟨by decide +kernel, by decide +kernel⟩, by decide +kernel⟩, tq 537 (by decide +kernel), tsel (q := (yX5_readFactors, 10)) 20 (by decide +kernel)⟩
theorem kX5_takeNumber : Cond.code yX5_takeNumber cX5_takeNumber 4 (some .boolean) ∈ lw_tbl := tq 542 (by decide +kernel)
theorem vX5_takeNumber : wYv yX5_takeNumber 2 := ⟨⟨tq 10 (by decide +kernel), ⟨by decide +kernel, by decide +kernel⟩, by decide +kernel⟩, tq 541 (by decide +kernel), tsel (q := (yX5_takeNumber, 10)) 21 (by decide +kernel)⟩
theorem kX5_isMark : Cond.code yX5_isMark cX5_isMark 2 (some .boolean) ∈ lw_tbl := tq 546 (by decide +kernel)
theorem vX5_isMark : wYv yX5_isMark 1 := ⟨⟨tq 10 (by decide +kernel), ⟨by decide +kernel, by decide +kernel⟩, by decide +kernel⟩, tq 545 (by decide +kernel), tsel (q := (yX5_isMark, 10)) 22 (by decide +kernel)⟩
theorem kX3_addStage : Cond.code yX3_addStage cX3_addStage 2 (some .boolean) ∈ lw_tbl := tq 550 (by decide +kernel)
theorem vX3_addStage : wYv yX3_addStage 1 := ⟨⟨tq 4 (by decide +kernel), ⟨by decide +kernel, by decide +kernel⟩, by decide +kernel⟩, tq 549 (by decide +kernel), tsel (q := (yX3_addStage, 6)) 23 (by decide +kernel)⟩
theorem kX5_readNoise : Cond.code yX5_readNoise cX5_readNoise 2 (some .boolean) ∈ lw_tbl := tq 554 (by decide +kernel)
theorem vX5_readNoise : wYv yX5_readNoise 1 := ⟨⟨tq 10 (by decide +kernel), ⟨by decide +kernel, by decide +kernel⟩, by decide +kernel⟩, tq 553 (by decide +kernel), tsel (q := (yX5_readNoise, 10)) 24 (by decide +kernel)⟩
theorem kX5_readWave : Cond.code yX5_readWave cX5_readWave 4 (some .boolean) ∈ lw_tbl := tq 558 (by decide +kernel)
theorem vX5_readWave : wYv yX5_readWave 0 := ⟨⟨tq 10 (by decide +kernel), ⟨by decide +kernel, by decide +kernel⟩, by decide +kernel⟩, tq 557 (by decide +kernel), tsel (q := (yX5_readWave, 10)) 25 (by decide +kernel)⟩
theorem kX4_addWave : Cond.code yX4_addWave cX4_addWave 2 (some (.object "LevelBits$Wave")) ∈ lw_tbl := tq 562 (by decide +kernel)
theorem vX4_addWave : wYv yX4_addWave 0 := ⟨⟨tq 9 (by decide +kernel), ⟨by decide +kernel, by decide +kernel⟩, by decide +kernel⟩, tq 561 (by decide +kernel), tsel (q := (yX4_addWave, 4)) 26 (by decide +kernel)⟩
theorem kX7_clear : Cond.code yX7_clear cX7_clear 1 none ∈ lw_tbl := tq 566 (by decide +kernel)
theorem vX7_clear : wYv yX7_clear 0 := ⟨⟨tq 5 (by decide +kernel), ⟨by decide +kernel, by decide +kernel⟩, by decide +kernel⟩, tq 565 (by decide +kernel), tsel (q := (yX7_clear, 7)) 27 (by decide +kernel)⟩
theorem kX5_readPiece : Cond.code yX5_readPiece cX5_readPiece 5 (some .boolean) ∈ lw_tbl := tq 570 (by decide +kernel)
theorem vX5_readPiece : wYv yX5_readPiece 1 := ⟨⟨tq 10 (by decide +kernel), ⟨by decide +kernel, by decide +kernel⟩, by decide +kernel⟩, tq 569 (by decide +kernel), tsel (q := (yX5_readPiece, 10)) 28 (by decide +kernel)⟩
theorem kX7_addPiece : Cond.code yX7_addPiece cX7_addPiece 5 none ∈ lw_tbl := tq 574 (by decide +kernel)
theorem vX7_addPiece : wYv yX7_addPiece 4 := ⟨⟨tq 5 (by decide +kernel), ⟨by decide +kernel, by decide +kernel⟩, by decide +kernel⟩, tq 573 (by decide +kernel), tsel (q := (yX7_addPiece, 7)) 29 (by decide +kernel)⟩
theorem kX5_takeMark : Cond.code yX5_takeMark cX5_takeMark 2 (some .boolean) ∈ lw_tbl := tq 578 (by decide +kernel)
theorem vX5_takeMark : wYv yX5_takeMark 1 := ⟨⟨tq 10 (by decide +kernel), ⟨by decide +kernel, by decide +kernel⟩, by decide +kernel⟩, tq 577 (by decide +kernel), tsel (q := (yX5_takeMark, 10)) 30 (by decide +kernel)⟩
theorem kX9_takeSpare : Cond.code yX9_takeSpare cX9_takeSpare 3 none ∈ lw_tbl := tq 582 (by decide +kernel)
theorem vX9_takeSpare : wYv yX9_takeSpare 0 := ⟨⟨tq 1 (by decide +kernel), ⟨by decide +kernel, by decide +kernel⟩, by decide +kernel⟩, tq 581 (by decide +kernel), tsel (q := (yX9_takeSpare, 16)) 31 (by decide +kernel)⟩
theorem kX9_granted : Cond.code yX9_granted cX9_granted 2 (some .int) ∈ lw_tbl := tq 586 (by decide +kernel)
theorem vX9_granted : wYv yX9_granted 1 := ⟨⟨tq 1 (by decide +kernel), ⟨by decide +kernel, by decide +kernel⟩, by decide +kernel⟩, tq 585 (by decide +kernel), tsel (q := (yX9_granted, 16)) 32 (by decide +kernel)⟩
theorem kX9_fault : Cond.code yX9_fault cX9_fault 1 (some .int) ∈ lw_tbl := tq 590 (by decide +kernel)
theorem vX9_fault : wYv yX9_fault 0 := ⟨⟨tq 1 (by decide +kernel), ⟨by decide +kernel, by decide +kernel⟩, by decide +kernel⟩, tq 588 (by decide +kernel), tq 589 (by decide +kernel)⟩
theorem kX9_where : Cond.code yX9_where cX9_where 1 (some .int) ∈ lw_tbl := tq 594 (by decide +kernel)
theorem vX9_where : wYv yX9_where 0 := ⟨⟨tq 1 (by decide +kernel), ⟨by decide +kernel, by decide +kernel⟩, by decide +kernel⟩, tq 592 (by decide +kernel), tq 593 (by decide +kernel)⟩
theorem kX9_about : Cond.code yX9_about cX9_about 2 (some .int) ∈ lw_tbl := tq 598 (by decide +kernel)
theorem vX9_about : wYv yX9_about 1 := ⟨⟨tq 1 (by decide +kernel), ⟨by decide +kernel, by decide +kernel⟩, by decide +kernel⟩, tq 596 (by decide +kernel), tq 597 (by decide +kernel)⟩
theorem kX9_loop : Cond.code yX9_loop cX9_loop 4 (some .int) ∈ lw_tbl := tq 602 (by decide +kernel)
theorem vX9_loop : wYv yX9_loop 2 := ⟨⟨tq 1 (by decide +kernel), ⟨by decide +kernel, by decide +kernel⟩, by decide +kernel⟩, tq 600 (by decide +kernel), tq 601 (by decide +kernel)⟩
theorem kX3_property : Cond.code yX3_property cX3_property 2 (some .int) ∈ lw_tbl := tq 607 (by decide +kernel)
theorem vX3_property : wYv yX3_property 1 := ⟨⟨tq 4 (by decide +kernel), ⟨by decide +kernel, by decide +kernel⟩, by decide +kernel⟩, tq 606 (by decide +kernel), tsel (q := (yX3_property, 6)) 33 (by decide +kernel)⟩
theorem kX9_wave : Cond.code yX9_wave cX9_wave 4 (some .int) ∈ lw_tbl := tq 611 (by decide +kernel)
theorem vX9_wave : wYv yX9_wave 2 := ⟨⟨tq 1 (by decide +kernel), ⟨by decide +kernel, by decide +kernel⟩, by decide +kernel⟩, tq 609 (by decide +kernel), tq 610 (by decide +kernel)⟩
theorem kX7_property : Cond.code yX7_property cX7_property 2 (some .int) ∈ lw_tbl := tq 617 (by decide +kernel)
theorem vX7_property : wYv yX7_property 1 := ⟨⟨tq 5 (by decide +kernel), ⟨by decide +kernel, by decide +kernel⟩, by decide +kernel⟩, tq 616 (by decide +kernel), tsel (q := (yX7_property, 7)) 34 (by decide +kernel)⟩
theorem kX7_least : Cond.code yX7_least cX7_least 3 (some .int) ∈ lw_tbl := tq 621 (by decide +kernel)
theorem vX7_least : wYv yX7_least 0 := ⟨⟨tq 5 (by decide +kernel), ⟨by decide +kernel, by decide +kernel⟩, by decide +kernel⟩, tq 620 (by decide +kernel), tsel (q := (yX7_least, 7)) 35 (by decide +kernel)⟩
theorem kX7_levelAt : Cond.code yX7_levelAt cX7_levelAt 4 (some .int) ∈ lw_tbl := tq 625 (by decide +kernel)
theorem vX7_levelAt : wYv yX7_levelAt 1 := ⟨⟨tq 5 (by decide +kernel), ⟨by decide +kernel, by decide +kernel⟩, by decide +kernel⟩, tq 624 (by decide +kernel), tsel (q := (yX7_levelAt, 7)) 36 (by decide +kernel)⟩
theorem kJ9_floorMod_7cf53 : Cond.code yJ9_floorMod_7cf53 cJ9_floorMod_7cf53 3 (some .int) ∈ lw_tbl := tq 628 (by decide +kernel)
theorem vJ9_floorMod_7cf53 : wYs yJ9_floorMod_7cf53 2 := ⟨⟨tq 12 (by decide +kernel), ⟨by decide +kernel, by decide +kernel⟩, by decide +kernel⟩, tq 627 (by decide +kernel)⟩
theorem kX7_levelIn : Cond.code yX7_levelIn cX7_levelIn 7 (some .int) ∈ lw_tbl := tq 632 (by decide +kernel)
theorem vX7_levelIn : wYv yX7_levelIn 2 := ⟨⟨tq 5 (by decide +kernel), ⟨by decide +kernel, by decide +kernel⟩, by decide +kernel⟩, tq 631 (by decide +kernel), tsel (q := (yX7_levelIn, 7)) 37 (by decide +kernel)⟩
theorem kJ9_floorDiv_7cf53 : Cond.code yJ9_floorDiv_7cf53 cJ9_floorDiv_7cf53 3 (some .int) ∈ lw_tbl := tq 635 (by decide +kernel)
theorem vJ9_floorDiv_7cf53 : wYs yJ9_floorDiv_7cf53 2 := ⟨⟨tq 12 (by decide +kernel), ⟨by decide +kernel, by decide +kernel⟩, by decide +kernel⟩, tq 634 (by decide +kernel)⟩
theorem kX7_greatest : Cond.code yX7_greatest cX7_greatest 3 (some .int) ∈ lw_tbl := tq 640 (by decide +kernel)
theorem vX7_greatest : wYv yX7_greatest 0 := ⟨⟨tq 5 (by decide +kernel), ⟨by decide +kernel, by decide +kernel⟩, by decide +kernel⟩, tq 639 (by decide +kernel), tsel (q := (yX7_greatest, 7)) 38 (by decide +kernel)⟩
theorem kJ9_max_7cf53 : Cond.code yJ9_max_7cf53 cJ9_max_7cf53 2 (some .int) ∈ lw_tbl := tq 643 (by decide +kernel)
theorem vJ9_max_7cf53 : wYs yJ9_max_7cf53 2 := ⟨⟨tq 12 (by decide +kernel), ⟨by decide +kernel, by decide +kernel⟩, by decide +kernel⟩, tq 642 (by decide +kernel)⟩
theorem kX9_level : Cond.code yX9_level cX9_level 4 (some .int) ∈ lw_tbl := tq 647 (by decide +kernel)
theorem vX9_level : wYv yX9_level 2 := ⟨⟨tq 1 (by decide +kernel), ⟨by decide +kernel, by decide +kernel⟩, by decide +kernel⟩, tq 645 (by decide +kernel), tq 646 (by decide +kernel)⟩
theorem kX9_seed : Cond.code yX9_seed cX9_seed 2 (some .boolean) ∈ lw_tbl := tq 652 (by decide +kernel)
theorem vX9_seed : wYv yX9_seed 1 := ⟨⟨tq 1 (by decide +kernel), ⟨by decide +kernel, by decide +kernel⟩, by decide +kernel⟩, tq 650 (by decide +kernel), tq 651 (by decide +kernel)⟩
theorem kX9_isRefused : Cond.code yX9_isRefused cX9_isRefused 2 (some .boolean) ∈ lw_tbl := tq 657 (by decide +kernel)
theorem vX9_isRefused : wYv yX9_isRefused 1 := ⟨⟨tq 1 (by decide +kernel), ⟨by decide +kernel, by decide +kernel⟩, by decide +kernel⟩, tq 656 (by decide +kernel), tsel (q := (yX9_isRefused, 16)) 39 (by decide +kernel)⟩
theorem kX9_isGranted : Cond.code yX9_isGranted cX9_isGranted 1 (some .boolean) ∈ lw_tbl := tq 661 (by decide +kernel)
theorem vX9_isGranted : wYv yX9_isGranted 0 := ⟨⟨tq 1 (by decide +kernel), ⟨by decide +kernel, by decide +kernel⟩, by decide +kernel⟩, tq 660 (by decide +kernel), tsel (q := (yX9_isGranted, 16)) 40 (by decide +kernel)⟩
theorem kX9_begin : Cond.code yX9_begin cX9_begin 3 (some .boolean) ∈ lw_tbl := tq 665 (by decide +kernel)
theorem vX9_begin : wYv yX9_begin 2 := ⟨⟨tq 1 (by decide +kernel), ⟨by decide +kernel, by decide +kernel⟩, by decide +kernel⟩, tq 663 (by decide +kernel), tq 664 (by decide +kernel)⟩
theorem kX6_start : Cond.code yX6_start cX6_start 7 none ∈ lw_tbl := tq 669 (by decide +kernel)
theorem vX6_start : wYv yX6_start 4 := ⟨⟨tq 2 (by decide +kernel), ⟨by decide +kernel, by decide +kernel⟩, by decide +kernel⟩, tq 668 (by decide +kernel), tsel (q := (yX6_start, 10)) 41 (by decide +kernel)⟩
theorem kX0_start : Cond.code yX0_start cX0_start 3 none ∈ lw_tbl := tq 675 (by decide +kernel)
theorem vX0_start : wYv yX0_start 2 := ⟨⟨tq 3 (by decide +kernel), ⟨by decide +kernel, by decide +kernel⟩, by decide +kernel⟩, tq 674 (by decide +kernel), tsel (q := (yX0_start, 5)) 42 (by decide +kernel)⟩
theorem kX9_run : Cond.code yX9_run cX9_run 2 (some .int) ∈ lw_tbl := tq 681 (by decide +kernel)
theorem vX9_run : wYv yX9_run 1 := ⟨⟨tq 1 (by decide +kernel), ⟨by decide +kernel, by decide +kernel⟩, by decide +kernel⟩, tq 679 (by decide +kernel), tq 680 (by decide +kernel)⟩
theorem kX6_go : Cond.code yX6_go cX6_go 6 (some .int) ∈ lw_tbl := tq 685 (by decide +kernel)
theorem vX6_go : wYv yX6_go 1 := ⟨⟨tq 2 (by decide +kernel), ⟨by decide +kernel, by decide +kernel⟩, by decide +kernel⟩, tq 684 (by decide +kernel), tsel (q := (yX6_go, 10)) 43 (by decide +kernel)⟩
theorem kX0_clock : Cond.code yX0_clock cX0_clock 5 (some .int) ∈ lw_tbl := tq 690 (by decide +kernel)
theorem vX0_clock : wYv yX0_clock 1 := ⟨⟨tq 3 (by decide +kernel), ⟨by decide +kernel, by decide +kernel⟩, by decide +kernel⟩, tq 689 (by decide +kernel), tsel (q := (yX0_clock, 5)) 44 (by decide +kernel)⟩
theorem kX0_lastSum : Cond.code yX0_lastSum cX0_lastSum 1 (some .int) ∈ lw_tbl := tq 694 (by decide +kernel)
theorem vX0_lastSum : wYv yX0_lastSum 0 := ⟨⟨tq 3 (by decide +kernel), ⟨by decide +kernel, by decide +kernel⟩, by decide +kernel⟩, tq 693 (by decide +kernel), tsel (q := (yX0_lastSum, 5)) 45 (by decide +kernel)⟩
theorem kX0_stirred : Cond.code yX0_stirred cX0_stirred 2 (some .int) ∈ lw_tbl := tq 698 (by decide +kernel)
theorem vX0_stirred : wYv yX0_stirred 0 := ⟨⟨tq 3 (by decide +kernel), ⟨by decide +kernel, by decide +kernel⟩, by decide +kernel⟩, tq 697 (by decide +kernel), tsel (q := (yX0_stirred, 5)) 46 (by decide +kernel)⟩
theorem kX3_valueOf : Cond.code yX3_valueOf cX3_valueOf 2 (some .int) ∈ lw_tbl := tq 703 (by decide +kernel)
theorem vX3_valueOf : wYv yX3_valueOf 1 := ⟨⟨tq 4 (by decide +kernel), ⟨by decide +kernel, by decide +kernel⟩, by decide +kernel⟩, tq 702 (by decide +kernel), tsel (q := (yX3_valueOf, 6)) 47 (by decide +kernel)⟩
theorem kX0_held : Cond.code yX0_held cX0_held 3 (some .int) ∈ lw_tbl := tq 707 (by decide +kernel)
theorem vX0_held : wYv yX0_held 1 := ⟨⟨tq 3 (by decide +kernel), ⟨by decide +kernel, by decide +kernel⟩, by decide +kernel⟩, tq 706 (by decide +kernel), tsel (q := (yX0_held, 5)) 48 (by decide +kernel)⟩
theorem kX6_noteSizes : Cond.code yX6_noteSizes cX6_noteSizes 2 none ∈ lw_tbl := tq 713 (by decide +kernel)
theorem vX6_noteSizes : wYv yX6_noteSizes 0 := ⟨⟨tq 2 (by decide +kernel), ⟨by decide +kernel, by decide +kernel⟩, by decide +kernel⟩, tq 712 (by decide +kernel), tsel (q := (yX6_noteSizes, 10)) 49 (by decide +kernel)⟩
theorem kJ9_abs_0f7a4 : Cond.code yJ9_abs_0f7a4 cJ9_abs_0f7a4 1 (some .int) ∈ lw_tbl := tq 716 (by decide +kernel)
theorem vJ9_abs_0f7a4 : wYs yJ9_abs_0f7a4 1 := ⟨⟨tq 12 (by decide +kernel), ⟨by decide +kernel, by decide +kernel⟩, by decide +kernel⟩, tq 715 (by decide +kernel)⟩
theorem kX9_now : Cond.code yX9_now cX9_now 2 (some .int) ∈ lw_tbl := tq 721 (by decide +kernel)
theorem vX9_now : wYv yX9_now 1 := ⟨⟨tq 1 (by decide +kernel), ⟨by decide +kernel, by decide +kernel⟩, by decide +kernel⟩, tq 719 (by decide +kernel), tq 720 (by decide +kernel)⟩
theorem kX6_property : Cond.code yX6_property cX6_property 2 (some .int) ∈ lw_tbl := tq 725 (by decide +kernel)
theorem vX6_property : wYv yX6_property 1 := ⟨⟨tq 2 (by decide +kernel), ⟨by decide +kernel, by decide +kernel⟩, by decide +kernel⟩, tq 724 (by decide +kernel), tsel (q := (yX6_property, 10)) 50 (by decide +kernel)⟩
theorem kX9_sum : Cond.code yX9_sum cX9_sum 2 (some .int) ∈ lw_tbl := tq 729 (by decide +kernel)
theorem vX9_sum : wYv yX9_sum 1 := ⟨⟨tq 1 (by decide +kernel), ⟨by decide +kernel, by decide +kernel⟩, by decide +kernel⟩, tq 727 (by decide +kernel), tq 728 (by decide +kernel)⟩
theorem kX6_hasStage : Cond.code yX6_hasStage cX6_hasStage 2 (some .boolean) ∈ lw_tbl := tq 733 (by decide +kernel)
theorem vX6_hasStage : wYv yX6_hasStage 1 := ⟨⟨tq 2 (by decide +kernel), ⟨by decide +kernel, by decide +kernel⟩, by decide +kernel⟩, tq 732 (by decide +kernel), tsel (q := (yX6_hasStage, 10)) 51 (by decide +kernel)⟩
theorem kX9_size : Cond.code yX9_size cX9_size 2 (some .int) ∈ lw_tbl := tq 737 (by decide +kernel)
theorem vX9_size : wYv yX9_size 1 := ⟨⟨tq 1 (by decide +kernel), ⟨by decide +kernel, by decide +kernel⟩, by decide +kernel⟩, tq 735 (by decide +kernel), tq 736 (by decide +kernel)⟩
theorem kX9_out : Cond.code yX9_out cX9_out 2 (some .int) ∈ lw_tbl := tq 741 (by decide +kernel)
theorem vX9_out : wYv yX9_out 1 := ⟨⟨tq 1 (by decide +kernel), ⟨by decide +kernel, by decide +kernel⟩, by decide +kernel⟩, tq 739 (by decide +kernel), tq 740 (by decide +kernel)⟩
theorem kX6_hasStretch : Cond.code yX6_hasStretch cX6_hasStretch 3 (some .boolean) ∈ lw_tbl := tq 745 (by decide +kernel)
theorem vX6_hasStretch : wYv yX6_hasStretch 2 := ⟨⟨tq 2 (by decide +kernel), ⟨by decide +kernel, by decide +kernel⟩, by decide +kernel⟩, tq 744 (by decide +kernel), tsel (q := (yX6_hasStretch, 10)) 52 (by decide +kernel)⟩
theorem kX9_often : Cond.code yX9_often cX9_often 4 (some .int) ∈ lw_tbl := tq 749 (by decide +kernel)
theorem vX9_often : wYv yX9_often 3 := ⟨⟨tq 1 (by decide +kernel), ⟨by decide +kernel, by decide +kernel⟩, by decide +kernel⟩, tq 747 (by decide +kernel), tq 748 (by decide +kernel)⟩
theorem kX9_isValue : Cond.code yX9_isValue cX9_isValue 1 (some .boolean) ∈ lw_tbl := tq 752 (by decide +kernel)
theorem vX9_isValue : wYs yX9_isValue 1 := ⟨⟨tq 1 (by decide +kernel), ⟨by decide +kernel, by decide +kernel⟩, by decide +kernel⟩, tq 751 (by decide +kernel)⟩
theorem kX6_countOf : Cond.code yX6_countOf cX6_countOf 6 (some .int) ∈ lw_tbl := tq 756 (by decide +kernel)
theorem vX6_countOf : wYv yX6_countOf 3 := ⟨⟨tq 2 (by decide +kernel), ⟨by decide +kernel, by decide +kernel⟩, by decide +kernel⟩, tq 755 (by decide +kernel), tsel (q := (yX6_countOf, 10)) 53 (by decide +kernel)⟩
theorem kX9_astray : Cond.code yX9_astray cX9_astray 3 (some .int) ∈ lw_tbl := tq 760 (by decide +kernel)
theorem vX9_astray : wYv yX9_astray 2 := ⟨⟨tq 1 (by decide +kernel), ⟨by decide +kernel, by decide +kernel⟩, by decide +kernel⟩, tq 758 (by decide +kernel), tq 759 (by decide +kernel)⟩
theorem kX6_gapsAdded : Cond.code yX6_gapsAdded cX6_gapsAdded 5 (some .int) ∈ lw_tbl := tq 764 (by decide +kernel)
theorem vX6_gapsAdded : wYv yX6_gapsAdded 2 := ⟨⟨tq 2 (by decide +kernel), ⟨by decide +kernel, by decide +kernel⟩, by decide +kernel⟩, tq 763 (by decide +kernel), tsel (q := (yX6_gapsAdded, 10)) 54 (by decide +kernel)⟩
theorem kX9_rows : Cond.code yX9_rows cX9_rows 4 (some .int) ∈ lw_tbl := tq 768 (by decide +kernel)
theorem vX9_rows : wYv yX9_rows 3 := ⟨⟨tq 1 (by decide +kernel), ⟨by decide +kernel, by decide +kernel⟩, by decide +kernel⟩, tq 766 (by decide +kernel), tq 767 (by decide +kernel)⟩
theorem kX6_longestRow : Cond.code yX6_longestRow cX6_longestRow 6 (some .int) ∈ lw_tbl := tq 772 (by decide +kernel)
theorem vX6_longestRow : wYv yX6_longestRow 2 := ⟨⟨tq 2 (by decide +kernel), ⟨by decide +kernel, by decide +kernel⟩, by decide +kernel⟩, tq 771 (by decide +kernel), tsel (q := (yX6_longestRow, 10)) 55 (by decide +kernel)⟩
theorem kX6_changes : Cond.code yX6_changes cX6_changes 5 (some .int) ∈ lw_tbl := tq 776 (by decide +kernel)
theorem vX6_changes : wYv yX6_changes 2 := ⟨⟨tq 2 (by decide +kernel), ⟨by decide +kernel, by decide +kernel⟩, by decide +kernel⟩, tq 775 (by decide +kernel), tsel (q := (yX6_changes, 10)) 56 (by decide +kernel)⟩
theorem kX9_like : Cond.code yX9_like cX9_like 4 (some .int) ∈ lw_tbl := tq 780 (by decide +kernel)
theorem vX9_like : wYv yX9_like 3 := ⟨⟨tq 1 (by decide +kernel), ⟨by decide +kernel, by decide +kernel⟩, by decide +kernel⟩, tq 778 (by decide +kernel), tq 779 (by decide +kernel)⟩
theorem kX6_likePairs : Cond.code yX6_likePairs cX6_likePairs 6 (some .int) ∈ lw_tbl := tq 784 (by decide +kernel)
theorem vX6_likePairs : wYv yX6_likePairs 3 := ⟨⟨tq 2 (by decide +kernel), ⟨by decide +kernel, by decide +kernel⟩, by decide +kernel⟩, tq 783 (by decide +kernel), tsel (q := (yX6_likePairs, 10)) 57 (by decide +kernel)⟩
theorem kX9_tone : Cond.code yX9_tone cX9_tone 4 (some .int) ∈ lw_tbl := tq 788 (by decide +kernel)
theorem vX9_tone : wYv yX9_tone 3 := ⟨⟨tq 1 (by decide +kernel), ⟨by decide +kernel, by decide +kernel⟩, by decide +kernel⟩, tq 786 (by decide +kernel), tq 787 (by decide +kernel)⟩
theorem kX6_bestLag : Cond.code yX6_bestLag cX6_bestLag 10 (some .int) ∈ lw_tbl := tq 792 (by decide +kernel)
theorem vX6_bestLag : wYv yX6_bestLag 3 := ⟨⟨tq 2 (by decide +kernel), ⟨by decide +kernel, by decide +kernel⟩, by decide +kernel⟩, tq 791 (by decide +kernel), tsel (q := (yX6_bestLag, 10)) 58 (by decide +kernel)⟩
theorem kX9_nth : Cond.code yX9_nth cX9_nth 3 (some .int) ∈ lw_tbl := tq 797 (by decide +kernel)
theorem vX9_nth : wYv yX9_nth 2 := ⟨⟨tq 1 (by decide +kernel), ⟨by decide +kernel, by decide +kernel⟩, by decide +kernel⟩, tq 795 (by decide +kernel), tq 796 (by decide +kernel)⟩
theorem kX6_clockOf : Cond.code yX6_clockOf cX6_clockOf 5 (some .int) ∈ lw_tbl := tq 801 (by decide +kernel)
theorem vX6_clockOf : wYv yX6_clockOf 2 := ⟨⟨tq 2 (by decide +kernel), ⟨by decide +kernel, by decide +kernel⟩, by decide +kernel⟩, tq 800 (by decide +kernel), tsel (q := (yX6_clockOf, 10)) 59 (by decide +kernel)⟩
theorem kX9_mean : Cond.code yX9_mean cX9_mean 7 (some .int) ∈ lw_tbl := tq 805 (by decide +kernel)
theorem vX9_mean : wYv yX9_mean 3 := ⟨⟨tq 1 (by decide +kernel), ⟨by decide +kernel, by decide +kernel⟩, by decide +kernel⟩, tq 803 (by decide +kernel), tq 804 (by decide +kernel)⟩
theorem kX6_outsAdded : Cond.code yX6_outsAdded cX6_outsAdded 5 (some .int) ∈ lw_tbl := tq 809 (by decide +kernel)
theorem vX6_outsAdded : wYv yX6_outsAdded 2 := ⟨⟨tq 2 (by decide +kernel), ⟨by decide +kernel, by decide +kernel⟩, by decide +kernel⟩, tq 808 (by decide +kernel), tsel (q := (yX6_outsAdded, 10)) 60 (by decide +kernel)⟩
theorem kX9_greatestDivisor : Cond.code yX9_greatestDivisor cX9_greatestDivisor 6 (some .int) ∈ lw_tbl := tq 813 (by decide +kernel)
theorem vX9_greatestDivisor : wYs yX9_greatestDivisor 2 := ⟨⟨tq 1 (by decide +kernel), ⟨by decide +kernel, by decide +kernel⟩, by decide +kernel⟩, tq 812 (by decide +kernel)⟩
theorem kX9_octet : Cond.code yX9_octet cX9_octet 2 (some .int) ∈ lw_tbl := tq 818 (by decide +kernel)
theorem vX9_octet : wYv yX9_octet 1 := ⟨⟨tq 1 (by decide +kernel), ⟨by decide +kernel, by decide +kernel⟩, by decide +kernel⟩, tq 816 (by decide +kernel), tq 817 (by decide +kernel)⟩
theorem kX6_eightBits : Cond.code yX6_eightBits cX6_eightBits 4 (some .int) ∈ lw_tbl := tq 822 (by decide +kernel)
theorem vX6_eightBits : wYv yX6_eightBits 1 := ⟨⟨tq 2 (by decide +kernel), ⟨by decide +kernel, by decide +kernel⟩, by decide +kernel⟩, tq 821 (by decide +kernel), tsel (q := (yX6_eightBits, 10)) 61 (by decide +kernel)⟩
theorem kX9_summed : Cond.code yX9_summed cX9_summed 3 (some .int) ∈ lw_tbl := tq 826 (by decide +kernel)
theorem vX9_summed : wYv yX9_summed 2 := ⟨⟨tq 1 (by decide +kernel), ⟨by decide +kernel, by decide +kernel⟩, by decide +kernel⟩, tq 824 (by decide +kernel), tq 825 (by decide +kernel)⟩
theorem kX9_isSumming : Cond.code yX9_isSumming cX9_isSumming 2 (some .boolean) ∈ lw_tbl := tq 829 (by decide +kernel)
theorem vX9_isSumming : wYs yX9_isSumming 2 := ⟨⟨tq 1 (by decide +kernel), ⟨by decide +kernel, by decide +kernel⟩, by decide +kernel⟩, tq 828 (by decide +kernel)⟩
theorem kX6_summedMany : Cond.code yX6_summedMany cX6_summedMany 4 (some .int) ∈ lw_tbl := tq 833 (by decide +kernel)
theorem vX6_summedMany : wYv yX6_summedMany 2 := ⟨⟨tq 2 (by decide +kernel), ⟨by decide +kernel, by decide +kernel⟩, by decide +kernel⟩, tq 832 (by decide +kernel), tsel (q := (yX6_summedMany, 10)) 62 (by decide +kernel)⟩
theorem kX9_summedAt : Cond.code yX9_summedAt cX9_summedAt 4 (some .int) ∈ lw_tbl := tq 837 (by decide +kernel)
theorem vX9_summedAt : wYv yX9_summedAt 3 := ⟨⟨tq 1 (by decide +kernel), ⟨by decide +kernel, by decide +kernel⟩, by decide +kernel⟩, tq 835 (by decide +kernel), tq 836 (by decide +kernel)⟩
theorem kX8_prepare : Cond.code yX8_prepare cX8_prepare 4 none ∈ lw_tbl := tq 841 (by decide +kernel)
theorem vX8_prepare : wYv yX8_prepare 2 := ⟨⟨tq 7 (by decide +kernel), ⟨by decide +kernel, by decide +kernel⟩, by decide +kernel⟩, tq 840 (by decide +kernel), tsel (q := (yX8_prepare, 2)) 63 (by decide +kernel)⟩
theorem kX8_addUp : Cond.code yX8_addUp cX8_addUp 5 none ∈ lw_tbl := tq 846 (by decide +kernel)
theorem vX8_addUp : wYv yX8_addUp 1 := ⟨⟨tq 7 (by decide +kernel), ⟨by decide +kernel, by decide +kernel⟩, by decide +kernel⟩, tq 845 (by decide +kernel), tsel (q := (yX8_addUp, 2)) 64 (by decide +kernel)⟩
theorem kX6_weighedOuts : Cond.code yX6_weighedOuts cX6_weighedOuts 5 (some .int) ∈ lw_tbl := tq 850 (by decide +kernel)
theorem vX6_weighedOuts : wYv yX6_weighedOuts 2 := ⟨⟨tq 2 (by decide +kernel), ⟨by decide +kernel, by decide +kernel⟩, by decide +kernel⟩, tq 849 (by decide +kernel), tsel (q := (yX6_weighedOuts, 10)) 65 (by decide +kernel)⟩
theorem kX9_worst : Cond.code yX9_worst cX9_worst 6 (some .int) ∈ lw_tbl := tq 854 (by decide +kernel)
theorem vX9_worst : wYv yX9_worst 2 := ⟨⟨tq 1 (by decide +kernel), ⟨by decide +kernel, by decide +kernel⟩, by decide +kernel⟩, tq 852 (by decide +kernel), tq 853 (by decide +kernel)⟩
theorem kX6_weighedGaps : Cond.code yX6_weighedGaps cX6_weighedGaps 5 (some .int) ∈ lw_tbl := tq 858 (by decide +kernel)
theorem vX6_weighedGaps : wYv yX6_weighedGaps 2 := ⟨⟨tq 2 (by decide +kernel), ⟨by decide +kernel, by decide +kernel⟩, by decide +kernel⟩, tq 857 (by decide +kernel), tsel (q := (yX6_weighedGaps, 10)) 66 (by decide +kernel)⟩
theorem kX9_cycle : Cond.code yX9_cycle cX9_cycle 5 (some .int) ∈ lw_tbl := tq 862 (by decide +kernel)
theorem vX9_cycle : wYv yX9_cycle 3 := ⟨⟨tq 1 (by decide +kernel), ⟨by decide +kernel, by decide +kernel⟩, by decide +kernel⟩, tq 860 (by decide +kernel), tq 861 (by decide +kernel)⟩
theorem kX9_isLevel : Cond.code yX9_isLevel cX9_isLevel 2 (some .boolean) ∈ lw_tbl := tq 865 (by decide +kernel)
theorem vX9_isLevel : wYs yX9_isLevel 1 := ⟨⟨tq 1 (by decide +kernel), ⟨by decide +kernel, by decide +kernel⟩, by decide +kernel⟩, tq 864 (by decide +kernel)⟩
theorem kX1_find : Cond.code yX1_find cX1_find 5 (some .boolean) ∈ lw_tbl := tq 871 (by decide +kernel)
theorem vX1_find : wYv yX1_find 2 := ⟨⟨tq 8 (by decide +kernel), ⟨by decide +kernel, by decide +kernel⟩, by decide +kernel⟩, tq 870 (by decide +kernel), tsel (q := (yX1_find, 9)) 67 (by decide +kernel)⟩
theorem kX0_startQuiet : Cond.code yX0_startQuiet cX0_startQuiet 2 none ∈ lw_tbl := tq 875 (by decide +kernel)
theorem vX0_startQuiet : wYv yX0_startQuiet 1 := ⟨⟨tq 3 (by decide +kernel), ⟨by decide +kernel, by decide +kernel⟩, by decide +kernel⟩, tq 874 (by decide +kernel), tsel (q := (yX0_startQuiet, 5)) 68 (by decide +kernel)⟩
theorem kX1_drop : Cond.code yX1_drop cX1_drop 1 none ∈ lw_tbl := tq 880 (by decide +kernel)
theorem vX1_drop : wYv yX1_drop 0 := ⟨⟨tq 8 (by decide +kernel), ⟨by decide +kernel, by decide +kernel⟩, by decide +kernel⟩, tq 879 (by decide +kernel), tsel (q := (yX1_drop, 9)) 69 (by decide +kernel)⟩
theorem kX1_walk : Cond.code yX1_walk cX1_walk 3 none ∈ lw_tbl := tq 887 (by decide +kernel)
theorem vX1_walk : wYv yX1_walk 1 := ⟨⟨tq 8 (by decide +kernel), ⟨by decide +kernel, by decide +kernel⟩, by decide +kernel⟩, tq 886 (by decide +kernel), tsel (q := (yX1_walk, 9)) 70 (by decide +kernel)⟩
theorem kX0_isAt : Cond.code yX0_isAt cX0_isAt 3 (some .boolean) ∈ lw_tbl := tq 895 (by decide +kernel)
theorem vX0_isAt : wYv yX0_isAt 1 := ⟨⟨tq 3 (by decide +kernel), ⟨by decide +kernel, by decide +kernel⟩, by decide +kernel⟩, tq 894 (by decide +kernel), tsel (q := (yX0_isAt, 5)) 71 (by decide +kernel)⟩
theorem kX9_clocksAhead : Cond.code yX9_clocksAhead cX9_clocksAhead 5 (some .int) ∈ lw_tbl := tq 900 (by decide +kernel)
theorem vX9_clocksAhead : wYv yX9_clocksAhead 3 := ⟨⟨tq 1 (by decide +kernel), ⟨by decide +kernel, by decide +kernel⟩, by decide +kernel⟩, tq 899 (by decide +kernel), tsel (q := (yX9_clocksAhead, 16)) 72 (by decide +kernel)⟩
theorem kX0_clockOften : Cond.code yX0_clockOften cX0_clockOften 4 none ∈ lw_tbl := tq 905 (by decide +kernel)
theorem vX0_clockOften : wYv yX0_clockOften 2 := ⟨⟨tq 3 (by decide +kernel), ⟨by decide +kernel, by decide +kernel⟩, by decide +kernel⟩, tq 904 (by decide +kernel), tsel (q := (yX0_clockOften, 5)) 73 (by decide +kernel)⟩
theorem kX1_property : Cond.code yX1_property cX1_property 2 (some .int) ∈ lw_tbl := tq 912 (by decide +kernel)
theorem vX1_property : wYv yX1_property 1 := ⟨⟨tq 8 (by decide +kernel), ⟨by decide +kernel, by decide +kernel⟩, by decide +kernel⟩, tq 911 (by decide +kernel), tsel (q := (yX1_property, 9)) 74 (by decide +kernel)⟩
theorem kX9_fed : Cond.code yX9_fed cX9_fed 6 (some .int) ∈ lw_tbl := tq 916 (by decide +kernel)
theorem vX9_fed : wYv yX9_fed 4 := ⟨⟨tq 1 (by decide +kernel), ⟨by decide +kernel, by decide +kernel⟩, by decide +kernel⟩, tq 914 (by decide +kernel), tq 915 (by decide +kernel)⟩
theorem kX9_sweep : Cond.code yX9_sweep cX9_sweep 7 (some .int) ∈ lw_tbl := tq 920 (by decide +kernel)
theorem vX9_sweep : wYv yX9_sweep 5 := ⟨⟨tq 1 (by decide +kernel), ⟨by decide +kernel, by decide +kernel⟩, by decide +kernel⟩, tq 918 (by decide +kernel), tq 919 (by decide +kernel)⟩
theorem kX9_isSweep : Cond.code yX9_isSweep cX9_isSweep 3 (some .boolean) ∈ lw_tbl := tq 923 (by decide +kernel)
theorem vX9_isSweep : wYs yX9_isSweep 3 := ⟨⟨tq 1 (by decide +kernel), ⟨by decide +kernel, by decide +kernel⟩, by decide +kernel⟩, tq 922 (by decide +kernel)⟩
theorem kX9_longestOf : Cond.code yX9_longestOf cX9_longestOf 9 (some .int) ∈ lw_tbl := tq 927 (by decide +kernel)
theorem vX9_longestOf : wYv yX9_longestOf 4 := ⟨⟨tq 1 (by decide +kernel), ⟨by decide +kernel, by decide +kernel⟩, by decide +kernel⟩, tq 926 (by decide +kernel), tsel (q := (yX9_longestOf, 16)) 75 (by decide +kernel)⟩
theorem kX9_cyclesOf : Cond.code yX9_cyclesOf cX9_cyclesOf 8 (some .int) ∈ lw_tbl := tq 931 (by decide +kernel)
theorem vX9_cyclesOf : wYv yX9_cyclesOf 5 := ⟨⟨tq 1 (by decide +kernel), ⟨by decide +kernel, by decide +kernel⟩, by decide +kernel⟩, tq 930 (by decide +kernel), tsel (q := (yX9_cyclesOf, 16)) 76 (by decide +kernel)⟩
theorem kX9_steady : Cond.code yX9_steady cX9_steady 5 (some .int) ∈ lw_tbl := tq 935 (by decide +kernel)
theorem vX9_steady : wYv yX9_steady 1 := ⟨⟨tq 1 (by decide +kernel), ⟨by decide +kernel, by decide +kernel⟩, by decide +kernel⟩, tq 933 (by decide +kernel), tq 934 (by decide +kernel)⟩
theorem kX9_staysUnclipped : Cond.code yX9_staysUnclipped cX9_staysUnclipped 4 (some .boolean) ∈ lw_tbl := tq 939 (by decide +kernel)
theorem vX9_staysUnclipped : wYv yX9_staysUnclipped 2 := ⟨⟨tq 1 (by decide +kernel), ⟨by decide +kernel, by decide +kernel⟩, by decide +kernel⟩, tq 938 (by decide +kernel), tsel (q := (yX9_staysUnclipped, 16)) 77 (by decide +kernel)⟩
theorem kX9_apart : Cond.code yX9_apart cX9_apart 11 (some .int) ∈ lw_tbl := tq 943 (by decide +kernel)
theorem vX9_apart : wYv yX9_apart 4 := ⟨⟨tq 1 (by decide +kernel), ⟨by decide +kernel, by decide +kernel⟩, by decide +kernel⟩, tq 941 (by decide +kernel), tq 942 (by decide +kernel)⟩
theorem kX9_keep : Cond.code yX9_keep cX9_keep 2 (some .boolean) ∈ lw_tbl := tq 948 (by decide +kernel)
theorem vX9_keep : wYv yX9_keep 1 := ⟨⟨tq 1 (by decide +kernel), ⟨by decide +kernel, by decide +kernel⟩, by decide +kernel⟩, tq 946 (by decide +kernel), tq 947 (by decide +kernel)⟩
theorem kX2_take : Cond.code yX2_take cX2_take 3 none ∈ lw_tbl := tq 952 (by decide +kernel)
theorem vX2_take : wYv yX2_take 2 := ⟨⟨tq 6 (by decide +kernel), ⟨by decide +kernel, by decide +kernel⟩, by decide +kernel⟩, tq 951 (by decide +kernel), tsel (q := (yX2_take, 7)) 78 (by decide +kernel)⟩
theorem kX9_back : Cond.code yX9_back cX9_back 2 (some .boolean) ∈ lw_tbl := tq 956 (by decide +kernel)
theorem vX9_back : wYv yX9_back 1 := ⟨⟨tq 1 (by decide +kernel), ⟨by decide +kernel, by decide +kernel⟩, by decide +kernel⟩, tq 954 (by decide +kernel), tq 955 (by decide +kernel)⟩
theorem kX2_give : Cond.code yX2_give cX2_give 3 none ∈ lw_tbl := tq 960 (by decide +kernel)
theorem vX2_give : wYv yX2_give 2 := ⟨⟨tq 6 (by decide +kernel), ⟨by decide +kernel, by decide +kernel⟩, by decide +kernel⟩, tq 959 (by decide +kernel), tsel (q := (yX2_give, 7)) 79 (by decide +kernel)⟩
theorem kX9_bytes : Cond.code yX9_bytes cX9_bytes 1 (some .int) ∈ lw_tbl := tq 966 (by decide +kernel)
theorem vX9_bytes : wYv yX9_bytes 0 := ⟨⟨tq 1 (by decide +kernel), ⟨by decide +kernel, by decide +kernel⟩, by decide +kernel⟩, tq 964 (by decide +kernel), tq 965 (by decide +kernel)⟩
theorem kX9_trouble : Cond.code yX9_trouble cX9_trouble 1 (some .int) ∈ lw_tbl := tq 970 (by decide +kernel)
theorem vX9_trouble : wYv yX9_trouble 0 := ⟨⟨tq 1 (by decide +kernel), ⟨by decide +kernel, by decide +kernel⟩, by decide +kernel⟩, tq 968 (by decide +kernel), tq 969 (by decide +kernel)⟩
theorem kX9_letter : Cond.code yX9_letter cX9_letter 6 (some .int) ∈ lw_tbl := tq 978 (by decide +kernel)
theorem vX9_letter : wYv yX9_letter 3 := ⟨⟨tq 1 (by decide +kernel), ⟨by decide +kernel, by decide +kernel⟩, by decide +kernel⟩, tq 976 (by decide +kernel), tq 977 (by decide +kernel)⟩
theorem kX9_letterOf : Cond.code yX9_letterOf cX9_letterOf 2 (some .int) ∈ lw_tbl := tq 982 (by decide +kernel)
theorem vX9_letterOf : wYs yX9_letterOf 2 := ⟨⟨tq 1 (by decide +kernel), ⟨by decide +kernel, by decide +kernel⟩, by decide +kernel⟩, tq 981 (by decide +kernel)⟩
theorem kX10_init : Cond.code yX10_init cX10_init 1 none ∈ lw_tbl := tq 1048 (by decide +kernel)
theorem vX10_init : wYi yX10_init 0 := ⟨⟨tq 11 (by decide +kernel), ⟨by decide +kernel, by decide +kernel⟩, by decide +kernel⟩, tq 1047 (by decide +kernel), rfl⟩
theorem kX10_thrown : Cond.code yX10_thrown cX10_thrown 1 (some .int) ∈ lw_tbl := tq 1188 (by decide +kernel)
theorem vX10_thrown : wYv yX10_thrown 0 := ⟨⟨tq 11 (by decide +kernel), ⟨by decide +kernel, by decide +kernel⟩, by decide +kernel⟩, tq 1186 (by decide +kernel), tq 1187 (by decide +kernel)⟩
theorem kX10_feed : Cond.code yX10_feed cX10_feed 8 (some .int) ∈ lw_tbl := tq 1192 (by decide +kernel)
theorem vX10_feed : wYv yX10_feed 5 := ⟨⟨tq 11 (by decide +kernel), ⟨by decide +kernel, by decide +kernel⟩, by decide +kernel⟩, tq 1190 (by decide +kernel), tq 1191 (by decide +kernel)⟩
theorem kX10_fault : Cond.code yX10_fault cX10_fault 1 (some .int) ∈ lw_tbl := tq 1196 (by decide +kernel)
theorem vX10_fault : wYv yX10_fault 0 := ⟨⟨tq 11 (by decide +kernel), ⟨by decide +kernel, by decide +kernel⟩, by decide +kernel⟩, tq 1194 (by decide +kernel), tq 1195 (by decide +kernel)⟩
theorem kX10_where : Cond.code yX10_where cX10_where 1 (some .int) ∈ lw_tbl := tq 1200 (by decide +kernel)
theorem vX10_where : wYv yX10_where 0 := ⟨⟨tq 11 (by decide +kernel), ⟨by decide +kernel, by decide +kernel⟩, by decide +kernel⟩, tq 1198 (by decide +kernel), tq 1199 (by decide +kernel)⟩
theorem kX10_text : Cond.code yX10_text cX10_text 2 (some .int) ∈ lw_tbl := tq 1204 (by decide +kernel)
theorem vX10_text : wYv yX10_text 1 := ⟨⟨tq 11 (by decide +kernel), ⟨by decide +kernel, by decide +kernel⟩, by decide +kernel⟩, tq 1202 (by decide +kernel), tq 1203 (by decide +kernel)⟩
theorem kX10_in : Cond.code yX10_in cX10_in 3 (some .boolean) ∈ lw_tbl := tq 1207 (by decide +kernel)
theorem vX10_in : wYs yX10_in 3 := ⟨⟨tq 11 (by decide +kernel), ⟨by decide +kernel, by decide +kernel⟩, by decide +kernel⟩, tq 1206 (by decide +kernel)⟩
theorem kX10_refused : Cond.code yX10_refused cX10_refused 2 (some .int) ∈ lw_tbl := tq 1211 (by decide +kernel)
theorem vX10_refused : wYv yX10_refused 1 := ⟨⟨tq 11 (by decide +kernel), ⟨by decide +kernel, by decide +kernel⟩, by decide +kernel⟩, tq 1210 (by decide +kernel), tsel (q := (yX10_refused, 44)) 81 (by decide +kernel)⟩
theorem kX10_goOn : Cond.code yX10_goOn cX10_goOn 1 none ∈ lw_tbl := tq 1215 (by decide +kernel)
theorem vX10_goOn : wYv yX10_goOn 0 := ⟨⟨tq 11 (by decide +kernel), ⟨by decide +kernel, by decide +kernel⟩, by decide +kernel⟩, tq 1214 (by decide +kernel), tsel (q := (yX10_goOn, 44)) 82 (by decide +kernel)⟩
theorem kX10_isLetterAt : Cond.code yX10_isLetterAt cX10_isLetterAt 2 (some .boolean) ∈ lw_tbl := tq 1219 (by decide +kernel)
theorem vX10_isLetterAt : wYv yX10_isLetterAt 1 := ⟨⟨tq 11 (by decide +kernel), ⟨by decide +kernel, by decide +kernel⟩, by decide +kernel⟩, tq 1218 (by decide +kernel), tsel (q := (yX10_isLetterAt, 44)) 83 (by decide +kernel)⟩
theorem kX10_isDigitAt : Cond.code yX10_isDigitAt cX10_isDigitAt 2 (some .boolean) ∈ lw_tbl := tq 1225 (by decide +kernel)
theorem vX10_isDigitAt : wYv yX10_isDigitAt 1 := ⟨⟨tq 11 (by decide +kernel), ⟨by decide +kernel, by decide +kernel⟩, by decide +kernel⟩, tq 1224 (by decide +kernel), tsel (q := (yX10_isDigitAt, 44)) 84 (by decide +kernel)⟩
theorem kX10_readLine : Cond.code yX10_readLine cX10_readLine 1 none ∈ lw_tbl := tq 1229 (by decide +kernel)
theorem vX10_readLine : wYv yX10_readLine 0 := ⟨⟨tq 11 (by decide +kernel), ⟨by decide +kernel, by decide +kernel⟩, by decide +kernel⟩, tq 1228 (by decide +kernel), tsel (q := (yX10_readLine, 44)) 85 (by decide +kernel)⟩
theorem kX10_isWord : Cond.code yX10_isWord cX10_isWord 2 (some .boolean) ∈ lw_tbl := tq 1234 (by decide +kernel)
theorem vX10_isWord : wYv yX10_isWord 1 := ⟨⟨tq 11 (by decide +kernel), ⟨by decide +kernel, by decide +kernel⟩, by decide +kernel⟩, tq 1233 (by decide +kernel), tsel (q := (yX10_isWord, 44)) 86 (by decide +kernel)⟩
theorem kX10_wordOf : Cond.code yX10_wordOf cX10_wordOf 4 (some .long) ∈ lw_tbl := tq 1237 (by decide +kernel)
theorem vX10_wordOf : wYs yX10_wordOf 1 := ⟨⟨tq 11 (by decide +kernel), ⟨by decide +kernel, by decide +kernel⟩, by decide +kernel⟩, tq 1236 (by decide +kernel)⟩
theorem kX10_readLoop : Cond.code yX10_readLoop cX10_readLoop 6 none ∈ lw_tbl := tq 1243 (by decide +kernel)
theorem vX10_readLoop : wYv yX10_readLoop 0 := ⟨⟨tq 11 (by decide +kernel), ⟨by decide +kernel, by decide +kernel⟩, by decide +kernel⟩, tq 1242 (by decide +kernel), tsel (q := (yX10_readLoop, 44)) 87 (by decide +kernel)⟩
theorem kX10_flaw : Cond.code yX10_flaw cX10_flaw 2 none ∈ lw_tbl := tq 1247 (by decide +kernel)
theorem vX10_flaw : wYv yX10_flaw 1 := ⟨⟨tq 11 (by decide +kernel), ⟨by decide +kernel, by decide +kernel⟩, by decide +kernel⟩, tq 1246 (by decide +kernel), tsel (q := (yX10_flaw, 44)) 88 (by decide +kernel)⟩
theorem kX10_readNew : Cond.code yX10_readNew cX10_readNew 3 (some .long) ∈ lw_tbl := tq 1251 (by decide +kernel)
theorem vX10_readNew : wYv yX10_readNew 0 := ⟨⟨tq 11 (by decide +kernel), ⟨by decide +kernel, by decide +kernel⟩, by decide +kernel⟩, tq 1250 (by decide +kernel), tsel (q := (yX10_readNew, 44)) 89 (by decide +kernel)⟩
theorem kX10_isOwn : Cond.code yX10_isOwn cX10_isOwn 2 (some .boolean) ∈ lw_tbl := tq 1255 (by decide +kernel)
theorem vX10_isOwn : wYv yX10_isOwn 0 := ⟨⟨tq 11 (by decide +kernel), ⟨by decide +kernel, by decide +kernel⟩, by decide +kernel⟩, tq 1254 (by decide +kernel), tsel (q := (yX10_isOwn, 44)) 90 (by decide +kernel)⟩
theorem kX10_needs : Cond.code yX10_needs cX10_needs 2 none ∈ lw_tbl := tq 1270 (by decide +kernel)
theorem vX10_needs : wYv yX10_needs 1 := ⟨⟨tq 11 (by decide +kernel), ⟨by decide +kernel, by decide +kernel⟩, by decide +kernel⟩, tq 1269 (by decide +kernel), tsel (q := (yX10_needs, 44)) 91 (by decide +kernel)⟩
theorem kX10_readWhole : Cond.code yX10_readWhole cX10_readWhole 4 (some .int) ∈ lw_tbl := tq 1274 (by decide +kernel)
theorem vX10_readWhole : wYv yX10_readWhole 2 := ⟨⟨tq 11 (by decide +kernel), ⟨by decide +kernel, by decide +kernel⟩, by decide +kernel⟩, tq 1273 (by decide +kernel), tsel (q := (yX10_readWhole, 44)) 92 (by decide +kernel)⟩
theorem kX10_passes : Cond.code yX10_passes cX10_passes 2 (some .boolean) ∈ lw_tbl := tq 1278 (by decide +kernel)
theorem vX10_passes : wYv yX10_passes 1 := ⟨⟨tq 11 (by decide +kernel), ⟨by decide +kernel, by decide +kernel⟩, by decide +kernel⟩, tq 1277 (by decide +kernel), tsel (q := (yX10_passes, 44)) 93 (by decide +kernel)⟩
theorem kX10_readWave : Cond.code yX10_readWave cX10_readWave 4 none ∈ lw_tbl := tq 1282 (by decide +kernel)
theorem vX10_readWave : wYv yX10_readWave 0 := ⟨⟨tq 11 (by decide +kernel), ⟨by decide +kernel, by decide +kernel⟩, by decide +kernel⟩, tq 1281 (by decide +kernel), tsel (q := (yX10_readWave, 44)) 94 (by decide +kernel)⟩
theorem kX10_readPiece : Cond.code yX10_readPiece cX10_readPiece 8 none ∈ lw_tbl := tq 1286 (by decide +kernel)
theorem vX10_readPiece : wYv yX10_readPiece 1 := ⟨⟨tq 11 (by decide +kernel), ⟨by decide +kernel, by decide +kernel⟩, by decide +kernel⟩, tq 1285 (by decide +kernel), tsel (q := (yX10_readPiece, 44)) 95 (by decide +kernel)⟩
theorem kX10_readInt : Cond.code yX10_readInt cX10_readInt 3 (some .int) ∈ lw_tbl := tq 1290 (by decide +kernel)
theorem vX10_readInt : wYv yX10_readInt 0 := ⟨⟨tq 11 (by decide +kernel), ⟨by decide +kernel, by decide +kernel⟩, by decide +kernel⟩, tq 1289 (by decide +kernel), tsel (q := (yX10_readInt, 44)) 96 (by decide +kernel)⟩
theorem kX10_isSign : Cond.code yX10_isSign cX10_isSign 2 (some .boolean) ∈ lw_tbl := tq 1294 (by decide +kernel)
theorem vX10_isSign : wYv yX10_isSign 1 := ⟨⟨tq 11 (by decide +kernel), ⟨by decide +kernel, by decide +kernel⟩, by decide +kernel⟩, tq 1293 (by decide +kernel), tsel (q := (yX10_isSign, 44)) 97 (by decide +kernel)⟩
theorem kX10_holds : Cond.code yX10_holds cX10_holds 2 none ∈ lw_tbl := tq 1298 (by decide +kernel)
theorem vX10_holds : wYv yX10_holds 0 := ⟨⟨tq 11 (by decide +kernel), ⟨by decide +kernel, by decide +kernel⟩, by decide +kernel⟩, tq 1297 (by decide +kernel), tsel (q := (yX10_holds, 44)) 98 (by decide +kernel)⟩
theorem kX10_good : Cond.code yX10_good cX10_good 2 (some .int) ∈ lw_tbl := tq 1302 (by decide +kernel)
theorem vX10_good : wYv yX10_good 1 := ⟨⟨tq 11 (by decide +kernel), ⟨by decide +kernel, by decide +kernel⟩, by decide +kernel⟩, tq 1301 (by decide +kernel), tsel (q := (yX10_good, 44)) 99 (by decide +kernel)⟩
theorem kX10_about : Cond.code yX10_about cX10_about 2 (some .int) ∈ lw_tbl := tq 1306 (by decide +kernel)
theorem vX10_about : wYv yX10_about 1 := ⟨⟨tq 11 (by decide +kernel), ⟨by decide +kernel, by decide +kernel⟩, by decide +kernel⟩, tq 1304 (by decide +kernel), tq 1305 (by decide +kernel)⟩
theorem kX10_loop : Cond.code yX10_loop cX10_loop 3 (some .int) ∈ lw_tbl := tq 1310 (by decide +kernel)
theorem vX10_loop : wYv yX10_loop 2 := ⟨⟨tq 11 (by decide +kernel), ⟨by decide +kernel, by decide +kernel⟩, by decide +kernel⟩, tq 1308 (by decide +kernel), tq 1309 (by decide +kernel)⟩
theorem kX10_isLoop : Cond.code yX10_isLoop cX10_isLoop 2 (some .boolean) ∈ lw_tbl := tq 1314 (by decide +kernel)
theorem vX10_isLoop : wYv yX10_isLoop 1 := ⟨⟨tq 11 (by decide +kernel), ⟨by decide +kernel, by decide +kernel⟩, by decide +kernel⟩, tq 1313 (by decide +kernel), tsel (q := (yX10_isLoop, 44)) 100 (by decide +kernel)⟩
theorem kX10_wave : Cond.code yX10_wave cX10_wave 6 (some .int) ∈ lw_tbl := tq 1318 (by decide +kernel)
theorem vX10_wave : wYv yX10_wave 2 := ⟨⟨tq 11 (by decide +kernel), ⟨by decide +kernel, by decide +kernel⟩, by decide +kernel⟩, tq 1316 (by decide +kernel), tq 1317 (by decide +kernel)⟩
theorem kX10_isWave : Cond.code yX10_isWave cX10_isWave 2 (some .boolean) ∈ lw_tbl := tq 1322 (by decide +kernel)
theorem vX10_isWave : wYv yX10_isWave 1 := ⟨⟨tq 11 (by decide +kernel), ⟨by decide +kernel, by decide +kernel⟩, by decide +kernel⟩, tq 1321 (by decide +kernel), tsel (q := (yX10_isWave, 44)) 101 (by decide +kernel)⟩
theorem kX10_lost : Cond.code yX10_lost cX10_lost 2 (some .int) ∈ lw_tbl := tq 1326 (by decide +kernel)
theorem vX10_lost : wYv yX10_lost 1 := ⟨⟨tq 11 (by decide +kernel), ⟨by decide +kernel, by decide +kernel⟩, by decide +kernel⟩, tq 1325 (by decide +kernel), tsel (q := (yX10_lost, 44)) 102 (by decide +kernel)⟩
theorem kX10_longOf : Cond.code yX10_longOf cX10_longOf 4 (some .int) ∈ lw_tbl := tq 1331 (by decide +kernel)
theorem vX10_longOf : wYv yX10_longOf 1 := ⟨⟨tq 11 (by decide +kernel), ⟨by decide +kernel, by decide +kernel⟩, by decide +kernel⟩, tq 1330 (by decide +kernel), tsel (q := (yX10_longOf, 44)) 103 (by decide +kernel)⟩
theorem kX10_levelOf : Cond.code yX10_levelOf cX10_levelOf 5 (some .int) ∈ lw_tbl := tq 1335 (by decide +kernel)
theorem vX10_levelOf : wYv yX10_levelOf 2 := ⟨⟨tq 11 (by decide +kernel), ⟨by decide +kernel, by decide +kernel⟩, by decide +kernel⟩, tq 1334 (by decide +kernel), tsel (q := (yX10_levelOf, 44)) 104 (by decide +kernel)⟩
theorem kX10_levelIn : Cond.code yX10_levelIn cX10_levelIn 5 (some .int) ∈ lw_tbl := tq 1339 (by decide +kernel)
theorem vX10_levelIn : wYv yX10_levelIn 2 := ⟨⟨tq 11 (by decide +kernel), ⟨by decide +kernel, by decide +kernel⟩, by decide +kernel⟩, tq 1338 (by decide +kernel), tsel (q := (yX10_levelIn, 44)) 105 (by decide +kernel)⟩
theorem kX10_down : Cond.code yX10_down cX10_down 3 (some .int) ∈ lw_tbl := tq 1342 (by decide +kernel)
theorem vX10_down : wYs yX10_down 2 := ⟨⟨tq 11 (by decide +kernel), ⟨by decide +kernel, by decide +kernel⟩, by decide +kernel⟩, tq 1341 (by decide +kernel)⟩
theorem kX10_level : Cond.code yX10_level cX10_level 3 (some .int) ∈ lw_tbl := tq 1346 (by decide +kernel)
theorem vX10_level : wYv yX10_level 2 := ⟨⟨tq 11 (by decide +kernel), ⟨by decide +kernel, by decide +kernel⟩, by decide +kernel⟩, tq 1344 (by decide +kernel), tq 1345 (by decide +kernel)⟩
theorem kX10_seed : Cond.code yX10_seed cX10_seed 2 (some .boolean) ∈ lw_tbl := tq 1350 (by decide +kernel)
theorem vX10_seed : wYv yX10_seed 1 := ⟨⟨tq 11 (by decide +kernel), ⟨by decide +kernel, by decide +kernel⟩, by decide +kernel⟩, tq 1348 (by decide +kernel), tq 1349 (by decide +kernel)⟩
theorem kX10_done : Cond.code yX10_done cX10_done 2 (some .boolean) ∈ lw_tbl := tq 1355 (by decide +kernel)
theorem vX10_done : wYv yX10_done 1 := ⟨⟨tq 11 (by decide +kernel), ⟨by decide +kernel, by decide +kernel⟩, by decide +kernel⟩, tq 1354 (by decide +kernel), tsel (q := (yX10_done, 44)) 106 (by decide +kernel)⟩
theorem kX10_begin : Cond.code yX10_begin cX10_begin 3 (some .boolean) ∈ lw_tbl := tq 1359 (by decide +kernel)
theorem vX10_begin : wYv yX10_begin 2 := ⟨⟨tq 11 (by decide +kernel), ⟨by decide +kernel, by decide +kernel⟩, by decide +kernel⟩, tq 1357 (by decide +kernel), tq 1358 (by decide +kernel)⟩
theorem kX10_starts : Cond.code yX10_starts cX10_starts 5 none ∈ lw_tbl := tq 1363 (by decide +kernel)
theorem vX10_starts : wYv yX10_starts 3 := ⟨⟨tq 11 (by decide +kernel), ⟨by decide +kernel, by decide +kernel⟩, by decide +kernel⟩, tq 1362 (by decide +kernel), tsel (q := (yX10_starts, 44)) 107 (by decide +kernel)⟩
theorem kX10_run : Cond.code yX10_run cX10_run 6 (some .int) ∈ lw_tbl := tq 1367 (by decide +kernel)
theorem vX10_run : wYv yX10_run 1 := ⟨⟨tq 11 (by decide +kernel), ⟨by decide +kernel, by decide +kernel⟩, by decide +kernel⟩, tq 1365 (by decide +kernel), tq 1366 (by decide +kernel)⟩
theorem kX10_hasRun : Cond.code yX10_hasRun cX10_hasRun 1 (some .boolean) ∈ lw_tbl := tq 1371 (by decide +kernel)
theorem vX10_hasRun : wYv yX10_hasRun 0 := ⟨⟨tq 11 (by decide +kernel), ⟨by decide +kernel, by decide +kernel⟩, by decide +kernel⟩, tq 1370 (by decide +kernel), tsel (q := (yX10_hasRun, 44)) 108 (by decide +kernel)⟩
theorem kX10_clock : Cond.code yX10_clock cX10_clock 11 (some .int) ∈ lw_tbl := tq 1375 (by decide +kernel)
theorem vX10_clock : wYv yX10_clock 3 := ⟨⟨tq 11 (by decide +kernel), ⟨by decide +kernel, by decide +kernel⟩, by decide +kernel⟩, tq 1374 (by decide +kernel), tsel (q := (yX10_clock, 44)) 109 (by decide +kernel)⟩
theorem kX10_without : Cond.code yX10_without cX10_without 1 (some .int) ∈ lw_tbl := tq 1379 (by decide +kernel)
theorem vX10_without : wYs yX10_without 1 := ⟨⟨tq 11 (by decide +kernel), ⟨by decide +kernel, by decide +kernel⟩, by decide +kernel⟩, tq 1378 (by decide +kernel)⟩
theorem kX10_now : Cond.code yX10_now cX10_now 2 (some .int) ∈ lw_tbl := tq 1383 (by decide +kernel)
theorem vX10_now : wYv yX10_now 1 := ⟨⟨tq 11 (by decide +kernel), ⟨by decide +kernel, by decide +kernel⟩, by decide +kernel⟩, tq 1381 (by decide +kernel), tq 1382 (by decide +kernel)⟩
theorem kX10_sum : Cond.code yX10_sum cX10_sum 2 (some .int) ∈ lw_tbl := tq 1387 (by decide +kernel)
theorem vX10_sum : wYv yX10_sum 1 := ⟨⟨tq 11 (by decide +kernel), ⟨by decide +kernel, by decide +kernel⟩, by decide +kernel⟩, tq 1385 (by decide +kernel), tq 1386 (by decide +kernel)⟩
theorem kX10_isStage : Cond.code yX10_isStage cX10_isStage 2 (some .boolean) ∈ lw_tbl := tq 1391 (by decide +kernel)
theorem vX10_isStage : wYv yX10_isStage 1 := ⟨⟨tq 11 (by decide +kernel), ⟨by decide +kernel, by decide +kernel⟩, by decide +kernel⟩, tq 1390 (by decide +kernel), tsel (q := (yX10_isStage, 44)) 110 (by decide +kernel)⟩
theorem kX10_size : Cond.code yX10_size cX10_size 2 (some .int) ∈ lw_tbl := tq 1395 (by decide +kernel)
theorem vX10_size : wYv yX10_size 1 := ⟨⟨tq 11 (by decide +kernel), ⟨by decide +kernel, by decide +kernel⟩, by decide +kernel⟩, tq 1393 (by decide +kernel), tq 1394 (by decide +kernel)⟩
theorem kX10_out : Cond.code yX10_out cX10_out 2 (some .int) ∈ lw_tbl := tq 1399 (by decide +kernel)
theorem vX10_out : wYv yX10_out 1 := ⟨⟨tq 11 (by decide +kernel), ⟨by decide +kernel, by decide +kernel⟩, by decide +kernel⟩, tq 1397 (by decide +kernel), tq 1398 (by decide +kernel)⟩
theorem kX10_isClock : Cond.code yX10_isClock cX10_isClock 2 (some .boolean) ∈ lw_tbl := tq 1403 (by decide +kernel)
theorem vX10_isClock : wYv yX10_isClock 1 := ⟨⟨tq 11 (by decide +kernel), ⟨by decide +kernel, by decide +kernel⟩, by decide +kernel⟩, tq 1402 (by decide +kernel), tsel (q := (yX10_isClock, 44)) 111 (by decide +kernel)⟩
theorem kX10_nth : Cond.code yX10_nth cX10_nth 5 (some .int) ∈ lw_tbl := tq 1407 (by decide +kernel)
theorem vX10_nth : wYv yX10_nth 2 := ⟨⟨tq 11 (by decide +kernel), ⟨by decide +kernel, by decide +kernel⟩, by decide +kernel⟩, tq 1405 (by decide +kernel), tq 1406 (by decide +kernel)⟩
theorem kX10_mean : Cond.code yX10_mean cX10_mean 6 (some .int) ∈ lw_tbl := tq 1411 (by decide +kernel)
theorem vX10_mean : wYv yX10_mean 3 := ⟨⟨tq 11 (by decide +kernel), ⟨by decide +kernel, by decide +kernel⟩, by decide +kernel⟩, tq 1409 (by decide +kernel), tq 1410 (by decide +kernel)⟩
theorem kX10_isStretch : Cond.code yX10_isStretch cX10_isStretch 3 (some .boolean) ∈ lw_tbl := tq 1415 (by decide +kernel)
theorem vX10_isStretch : wYv yX10_isStretch 2 := ⟨⟨tq 11 (by decide +kernel), ⟨by decide +kernel, by decide +kernel⟩, by decide +kernel⟩, tq 1414 (by decide +kernel), tsel (q := (yX10_isStretch, 44)) 112 (by decide +kernel)⟩
theorem kX10_common : Cond.code yX10_common cX10_common 5 (some .int) ∈ lw_tbl := tq 1418 (by decide +kernel)
theorem vX10_common : wYs yX10_common 2 := ⟨⟨tq 11 (by decide +kernel), ⟨by decide +kernel, by decide +kernel⟩, by decide +kernel⟩, tq 1417 (by decide +kernel)⟩
theorem kX10_often : Cond.code yX10_often cX10_often 6 (some .int) ∈ lw_tbl := tq 1422 (by decide +kernel)
theorem vX10_often : wYv yX10_often 3 := ⟨⟨tq 11 (by decide +kernel), ⟨by decide +kernel, by decide +kernel⟩, by decide +kernel⟩, tq 1420 (by decide +kernel), tq 1421 (by decide +kernel)⟩
theorem kX10_astray : Cond.code yX10_astray cX10_astray 5 (some .int) ∈ lw_tbl := tq 1426 (by decide +kernel)
theorem vX10_astray : wYv yX10_astray 2 := ⟨⟨tq 11 (by decide +kernel), ⟨by decide +kernel, by decide +kernel⟩, by decide +kernel⟩, tq 1424 (by decide +kernel), tq 1425 (by decide +kernel)⟩
theorem kX10_rows : Cond.code yX10_rows cX10_rows 9 (some .int) ∈ lw_tbl := tq 1430 (by decide +kernel)
theorem vX10_rows : wYv yX10_rows 3 := ⟨⟨tq 11 (by decide +kernel), ⟨by decide +kernel, by decide +kernel⟩, by decide +kernel⟩, tq 1428 (by decide +kernel), tq 1429 (by decide +kernel)⟩
theorem kX10_like : Cond.code yX10_like cX10_like 4 (some .int) ∈ lw_tbl := tq 1434 (by decide +kernel)
theorem vX10_like : wYv yX10_like 3 := ⟨⟨tq 11 (by decide +kernel), ⟨by decide +kernel, by decide +kernel⟩, by decide +kernel⟩, tq 1432 (by decide +kernel), tq 1433 (by decide +kernel)⟩
theorem kX10_likeBy : Cond.code yX10_likeBy cX10_likeBy 6 (some .int) ∈ lw_tbl := tq 1438 (by decide +kernel)
theorem vX10_likeBy : wYv yX10_likeBy 3 := ⟨⟨tq 11 (by decide +kernel), ⟨by decide +kernel, by decide +kernel⟩, by decide +kernel⟩, tq 1437 (by decide +kernel), tsel (q := (yX10_likeBy, 44)) 113 (by decide +kernel)⟩
theorem kX10_tone : Cond.code yX10_tone cX10_tone 10 (some .int) ∈ lw_tbl := tq 1442 (by decide +kernel)
theorem vX10_tone : wYv yX10_tone 3 := ⟨⟨tq 11 (by decide +kernel), ⟨by decide +kernel, by decide +kernel⟩, by decide +kernel⟩, tq 1440 (by decide +kernel), tq 1441 (by decide +kernel)⟩
theorem kX10_octet : Cond.code yX10_octet cX10_octet 4 (some .int) ∈ lw_tbl := tq 1446 (by decide +kernel)
theorem vX10_octet : wYv yX10_octet 1 := ⟨⟨tq 11 (by decide +kernel), ⟨by decide +kernel, by decide +kernel⟩, by decide +kernel⟩, tq 1444 (by decide +kernel), tq 1445 (by decide +kernel)⟩
theorem kX10_summed : Cond.code yX10_summed cX10_summed 4 (some .int) ∈ lw_tbl := tq 1450 (by decide +kernel)
theorem vX10_summed : wYv yX10_summed 2 := ⟨⟨tq 11 (by decide +kernel), ⟨by decide +kernel, by decide +kernel⟩, by decide +kernel⟩, tq 1448 (by decide +kernel), tq 1449 (by decide +kernel)⟩
theorem kX10_refusesSummed : Cond.code yX10_refusesSummed cX10_refusesSummed 3 (some .int) ∈ lw_tbl := tq 1454 (by decide +kernel)
theorem vX10_refusesSummed : wYv yX10_refusesSummed 2 := ⟨⟨tq 11 (by decide +kernel), ⟨by decide +kernel, by decide +kernel⟩, by decide +kernel⟩, tq 1453 (by decide +kernel), tsel (q := (yX10_refusesSummed, 44)) 114 (by decide +kernel)⟩
theorem kX10_summedMany : Cond.code yX10_summedMany cX10_summedMany 4 (some .int) ∈ lw_tbl := tq 1458 (by decide +kernel)
theorem vX10_summedMany : wYv yX10_summedMany 2 := ⟨⟨tq 11 (by decide +kernel), ⟨by decide +kernel, by decide +kernel⟩, by decide +kernel⟩, tq 1457 (by decide +kernel), tsel (q := (yX10_summedMany, 44)) 115 (by decide +kernel)⟩
theorem kX10_summedAt : Cond.code yX10_summedAt cX10_summedAt 5 (some .int) ∈ lw_tbl := tq 1462 (by decide +kernel)
theorem vX10_summedAt : wYv yX10_summedAt 3 := ⟨⟨tq 11 (by decide +kernel), ⟨by decide +kernel, by decide +kernel⟩, by decide +kernel⟩, tq 1460 (by decide +kernel), tq 1461 (by decide +kernel)⟩
theorem kX10_laysSummed : Cond.code yX10_laysSummed cX10_laysSummed 9 none ∈ lw_tbl := tq 1466 (by decide +kernel)
theorem vX10_laysSummed : wYv yX10_laysSummed 3 := ⟨⟨tq 11 (by decide +kernel), ⟨by decide +kernel, by decide +kernel⟩, by decide +kernel⟩, tq 1465 (by decide +kernel), tsel (q := (yX10_laysSummed, 44)) 116 (by decide +kernel)⟩
theorem kX10_worst : Cond.code yX10_worst cX10_worst 8 (some .int) ∈ lw_tbl := tq 1470 (by decide +kernel)
theorem vX10_worst : wYv yX10_worst 2 := ⟨⟨tq 11 (by decide +kernel), ⟨by decide +kernel, by decide +kernel⟩, by decide +kernel⟩, tq 1468 (by decide +kernel), tq 1469 (by decide +kernel)⟩
theorem kX10_cycle : Cond.code yX10_cycle cX10_cycle 4 (some .int) ∈ lw_tbl := tq 1474 (by decide +kernel)
theorem vX10_cycle : wYv yX10_cycle 3 := ⟨⟨tq 11 (by decide +kernel), ⟨by decide +kernel, by decide +kernel⟩, by decide +kernel⟩, tq 1472 (by decide +kernel), tq 1473 (by decide +kernel)⟩
theorem kX10_cycles : Cond.code yX10_cycles cX10_cycles 6 (some .boolean) ∈ lw_tbl := tq 1478 (by decide +kernel)
theorem vX10_cycles : wYv yX10_cycles 2 := ⟨⟨tq 11 (by decide +kernel), ⟨by decide +kernel, by decide +kernel⟩, by decide +kernel⟩, tq 1477 (by decide +kernel), tsel (q := (yX10_cycles, 44)) 117 (by decide +kernel)⟩
theorem kX10_areLike : Cond.code yX10_areLike cX10_areLike 3 (some .boolean) ∈ lw_tbl := tq 1482 (by decide +kernel)
theorem vX10_areLike : wYv yX10_areLike 2 := ⟨⟨tq 11 (by decide +kernel), ⟨by decide +kernel, by decide +kernel⟩, by decide +kernel⟩, tq 1481 (by decide +kernel), tsel (q := (yX10_areLike, 44)) 118 (by decide +kernel)⟩
theorem kX10_cycleOf : Cond.code yX10_cycleOf cX10_cycleOf 12 (some .int) ∈ lw_tbl := tq 1486 (by decide +kernel)
theorem vX10_cycleOf : wYv yX10_cycleOf 3 := ⟨⟨tq 11 (by decide +kernel), ⟨by decide +kernel, by decide +kernel⟩, by decide +kernel⟩, tq 1485 (by decide +kernel), tsel (q := (yX10_cycleOf, 44)) 119 (by decide +kernel)⟩
theorem kX10_fed : Cond.code yX10_fed cX10_fed 7 (some .int) ∈ lw_tbl := tq 1490 (by decide +kernel)
theorem vX10_fed : wYv yX10_fed 4 := ⟨⟨tq 11 (by decide +kernel), ⟨by decide +kernel, by decide +kernel⟩, by decide +kernel⟩, tq 1488 (by decide +kernel), tq 1489 (by decide +kernel)⟩
theorem kX10_sweep : Cond.code yX10_sweep cX10_sweep 13 (some .int) ∈ lw_tbl := tq 1494 (by decide +kernel)
theorem vX10_sweep : wYv yX10_sweep 5 := ⟨⟨tq 11 (by decide +kernel), ⟨by decide +kernel, by decide +kernel⟩, by decide +kernel⟩, tq 1492 (by decide +kernel), tq 1493 (by decide +kernel)⟩
theorem kX10_steady : Cond.code yX10_steady cX10_steady 3 (some .int) ∈ lw_tbl := tq 1500 (by decide +kernel)
theorem vX10_steady : wYv yX10_steady 1 := ⟨⟨tq 11 (by decide +kernel), ⟨by decide +kernel, by decide +kernel⟩, by decide +kernel⟩, tq 1498 (by decide +kernel), tq 1499 (by decide +kernel)⟩
theorem kX10_isSteadyAt : Cond.code yX10_isSteadyAt cX10_isSteadyAt 5 (some .boolean) ∈ lw_tbl := tq 1504 (by decide +kernel)
theorem vX10_isSteadyAt : wYv yX10_isSteadyAt 2 := ⟨⟨tq 11 (by decide +kernel), ⟨by decide +kernel, by decide +kernel⟩, by decide +kernel⟩, tq 1503 (by decide +kernel), tsel (q := (yX10_isSteadyAt, 44)) 120 (by decide +kernel)⟩
theorem kX10_apart : Cond.code yX10_apart cX10_apart 9 (some .int) ∈ lw_tbl := tq 1508 (by decide +kernel)
theorem vX10_apart : wYv yX10_apart 4 := ⟨⟨tq 11 (by decide +kernel), ⟨by decide +kernel, by decide +kernel⟩, by decide +kernel⟩, tq 1506 (by decide +kernel), tq 1507 (by decide +kernel)⟩
theorem kX10_keep : Cond.code yX10_keep cX10_keep 3 (some .boolean) ∈ lw_tbl := tq 1512 (by decide +kernel)
theorem vX10_keep : wYv yX10_keep 1 := ⟨⟨tq 11 (by decide +kernel), ⟨by decide +kernel, by decide +kernel⟩, by decide +kernel⟩, tq 1510 (by decide +kernel), tq 1511 (by decide +kernel)⟩
theorem kX10_back : Cond.code yX10_back cX10_back 3 (some .boolean) ∈ lw_tbl := tq 1516 (by decide +kernel)
theorem vX10_back : wYv yX10_back 1 := ⟨⟨tq 11 (by decide +kernel), ⟨by decide +kernel, by decide +kernel⟩, by decide +kernel⟩, tq 1514 (by decide +kernel), tq 1515 (by decide +kernel)⟩
theorem kX10_letter : Cond.code yX10_letter cX10_letter 10 (some .int) ∈ lw_tbl := tq 1520 (by decide +kernel)
theorem vX10_letter : wYv yX10_letter 3 := ⟨⟨tq 11 (by decide +kernel), ⟨by decide +kernel, by decide +kernel⟩, by decide +kernel⟩, tq 1518 (by decide +kernel), tq 1519 (by decide +kernel)⟩
theorem kX10_lettersIn : Cond.code yX10_lettersIn cX10_lettersIn 5 (some .int) ∈ lw_tbl := tq 1523 (by decide +kernel)
theorem vX10_lettersIn : wYs yX10_lettersIn 1 := ⟨⟨tq 11 (by decide +kernel), ⟨by decide +kernel, by decide +kernel⟩, by decide +kernel⟩, tq 1522 (by decide +kernel)⟩
theorem kX10_bytes : Cond.code yX10_bytes cX10_bytes 1 (some .int) ∈ lw_tbl := tq 1527 (by decide +kernel)
theorem vX10_bytes : wYv yX10_bytes 0 := ⟨⟨tq 11 (by decide +kernel), ⟨by decide +kernel, by decide +kernel⟩, by decide +kernel⟩, tq 1525 (by decide +kernel), tq 1526 (by decide +kernel)⟩
theorem kX10_trouble : Cond.code yX10_trouble cX10_trouble 1 (some .int) ∈ lw_tbl := tq 1531 (by decide +kernel)
theorem vX10_trouble : wYv yX10_trouble 0 := ⟨⟨tq 11 (by decide +kernel), ⟨by decide +kernel, by decide +kernel⟩, by decide +kernel⟩, tq 1529 (by decide +kernel), tq 1530 (by decide +kernel)⟩
theorem lX9_15 : wLk RX9 15 yX6_init := Or.inr ⟨"LevelBits", tq 33 (by decide +kernel)⟩
theorem lX9_22 : wLk RX9 22 yX2_init := Or.inr ⟨"LevelBits", tq 180 (by decide +kernel)⟩
theorem lX9_29 : wLk RX9 29 yX8_init := Or.inr ⟨"LevelBits", tq 210 (by decide +kernel)⟩
theorem lX9_36 : wLk RX9 36 yX1_init := Or.inr ⟨"LevelBits", tq 225 (by decide +kernel)⟩
theorem lX9_43 : wLk RX9 43 yX0_init := Or.inr ⟨"LevelBits", tq 262 (by decide +kernel)⟩
theorem lX9_53 : wLk RX9 53 yX4_init := Or.inr ⟨"LevelBits", tq 265 (by decide +kernel)⟩
theorem lX9_63 : wLk RX9 63 yX5_init := Or.inr ⟨"LevelBits", tq 292 (by decide +kernel)⟩
theorem lX9_80 : wLk RX9 80 yX9_tapeNumber := Or.inl (tq 382 (by decide +kernel))
theorem lX9_84 : wLk RX9 84 yX9_refused := Or.inl (tq 390 (by decide +kernel))
theorem lX9_88 : wLk RX9 88 yX5_readText := Or.inr ⟨"LevelBits", tq 394 (by decide +kernel)⟩
theorem lX9_99 : wLk RX9 99 yX9_takeSpare := Or.inl (tq 579 (by decide +kernel))
theorem lX9_105 : wLk RX9 105 yX9_granted := Or.inl (tq 583 (by decide +kernel))
theorem lX9_116 : wLk RX9 116 yX4_loopAt := Or.inr ⟨"LevelBits", tq 603 (by decide +kernel)⟩
theorem lX9_120 : wLk RX9 120 yX3_property := Or.inr ⟨"LevelBits", tq 604 (by decide +kernel)⟩
theorem lX9_125 : wLk RX9 125 yX4_waveAt := Or.inr ⟨"LevelBits", tq 612 (by decide +kernel)⟩
theorem lX9_130 : wLk RX9 130 yX7_property := Or.inr ⟨"LevelBits", tq 614 (by decide +kernel)⟩
theorem lX9_133 : wLk RX9 133 yX7_levelAt := Or.inr ⟨"LevelBits", tq 648 (by decide +kernel)⟩
theorem lX9_137 : wLk RX9 137 yX9_isRefused := Or.inl (tq 654 (by decide +kernel))
theorem lX9_141 : wLk RX9 141 yX9_isGranted := Or.inl (tq 658 (by decide +kernel))
theorem lX9_145 : wLk RX9 145 yX6_start := Or.inr ⟨"LevelBits", tq 666 (by decide +kernel)⟩
theorem lX9_155 : wLk RX9 155 yX6_go := Or.inr ⟨"LevelBits", tq 682 (by decide +kernel)⟩
theorem lX9_158 : wLk RX9 158 yX6_property := Or.inr ⟨"LevelBits", tq 722 (by decide +kernel)⟩
theorem lX9_159 : wLk RX9 159 yX6_hasStage := Or.inr ⟨"LevelBits", tq 730 (by decide +kernel)⟩
theorem lX9_172 : wLk RX9 172 yX6_hasStretch := Or.inr ⟨"LevelBits", tq 742 (by decide +kernel)⟩
theorem lX9_179 : wLk RX9 179 yX9_isValue := Or.inl (tq 750 (by decide +kernel))
theorem lX9_182 : wLk RX9 182 yX6_countOf := Or.inr ⟨"LevelBits", tq 753 (by decide +kernel)⟩
theorem lX9_186 : wLk RX9 186 yX6_gapsAdded := Or.inr ⟨"LevelBits", tq 761 (by decide +kernel)⟩
theorem lX9_189 : wLk RX9 189 yX6_longestRow := Or.inr ⟨"LevelBits", tq 769 (by decide +kernel)⟩
theorem lX9_192 : wLk RX9 192 yX6_changes := Or.inr ⟨"LevelBits", tq 773 (by decide +kernel)⟩
theorem lX9_195 : wLk RX9 195 yX6_likePairs := Or.inr ⟨"LevelBits", tq 781 (by decide +kernel)⟩
theorem lX9_198 : wLk RX9 198 yX6_bestLag := Or.inr ⟨"LevelBits", tq 789 (by decide +kernel)⟩
theorem lX9_201 : wLk RX9 201 yX6_clockOf := Or.inr ⟨"LevelBits", tq 798 (by decide +kernel)⟩
theorem lX9_204 : wLk RX9 204 yX6_outsAdded := Or.inr ⟨"LevelBits", tq 806 (by decide +kernel)⟩
theorem lX9_207 : wLk RX9 207 yJ9_abs_0f7a4 := Or.inl (tq 810 (by decide +kernel))
theorem lX9_212 : wLk RX9 212 yX9_greatestDivisor := Or.inl (tq 811 (by decide +kernel))
theorem lX9_215 : wLk RX9 215 yX6_eightBits := Or.inr ⟨"LevelBits", tq 819 (by decide +kernel)⟩
theorem lX9_218 : wLk RX9 218 yX9_isSumming := Or.inl (tq 827 (by decide +kernel))
theorem lX9_221 : wLk RX9 221 yX6_summedMany := Or.inr ⟨"LevelBits", tq 830 (by decide +kernel)⟩
theorem lX9_224 : wLk RX9 224 yX8_prepare := Or.inr ⟨"LevelBits", tq 838 (by decide +kernel)⟩
theorem lX9_228 : wLk RX9 228 yX6_weighedOuts := Or.inr ⟨"LevelBits", tq 847 (by decide +kernel)⟩
theorem lX9_232 : wLk RX9 232 yX6_weighedGaps := Or.inr ⟨"LevelBits", tq 855 (by decide +kernel)⟩
theorem lX9_235 : wLk RX9 235 yJ9_max_7cf53 := Or.inl (tq 814 (by decide +kernel))
theorem lX9_238 : wLk RX9 238 yX9_isLevel := Or.inl (tq 863 (by decide +kernel))
theorem lX9_242 : wLk RX9 242 yX1_find := Or.inr ⟨"LevelBits", tq 868 (by decide +kernel)⟩
theorem lX9_249 : wLk RX9 249 yX9_clocksAhead := Or.inl (tq 897 (by decide +kernel))
theorem lX9_253 : wLk RX9 253 yX1_property := Or.inr ⟨"LevelBits", tq 909 (by decide +kernel)⟩
theorem lX9_257 : wLk RX9 257 yX0_startQuiet := Or.inr ⟨"LevelBits", tq 901 (by decide +kernel)⟩
theorem lX9_261 : wLk RX9 261 yX0_clockOften := Or.inr ⟨"LevelBits", tq 902 (by decide +kernel)⟩
theorem lX9_264 : wLk RX9 264 yX9_isSweep := Or.inl (tq 921 (by decide +kernel))
theorem lX9_268 : wLk RX9 268 yX9_longestOf := Or.inl (tq 924 (by decide +kernel))
theorem lX9_272 : wLk RX9 272 yX9_cyclesOf := Or.inl (tq 928 (by decide +kernel))
theorem lX9_276 : wLk RX9 276 yX9_staysUnclipped := Or.inl (tq 936 (by decide +kernel))
theorem lX9_279 : wLk RX9 279 yX0_start := Or.inr ⟨"LevelBits", tq 944 (by decide +kernel)⟩
theorem lX9_282 : wLk RX9 282 yX0_clock := Or.inr ⟨"LevelBits", tq 908 (by decide +kernel)⟩
theorem lX9_285 : wLk RX9 285 yX2_take := Or.inr ⟨"LevelBits", tq 949 (by decide +kernel)⟩
theorem lX9_292 : wLk RX9 292 yX2_give := Or.inr ⟨"LevelBits", tq 957 (by decide +kernel)⟩
theorem lX9_297 : wLk RX9 297 yX4_nameOf := Or.inr ⟨"LevelBits", tq 979 (by decide +kernel)⟩
theorem lX9_300 : wLk RX9 300 yX9_letterOf := Or.inl (tq 980 (by decide +kernel))
theorem lX9_309 : wLk RX9 309 yX0_isAt := Or.inr ⟨"LevelBits", tq 907 (by decide +kernel)⟩
theorem lX9_321 : wLk RX9 321 yJ0_length_8abf5 := Or.inl (tq 425 (by decide +kernel))
theorem lX9_327 : wLk RX9 327 yJ0_charAt_5068e := Or.inl (tq 435 (by decide +kernel))
theorem lX0_17 : wLk RX0 17 yX3_init := Or.inr ⟨"LevelBits", tq 45 (by decide +kernel)⟩
theorem lX0_33 : wLk RX0 33 yJ7_fill_53178 := Or.inl (tq 676 (by decide +kernel))
theorem lX0_39 : wLk RX0 39 yX0_start := Or.inl (tq 876 (by decide +kernel))
theorem lX0_43 : wLk RX0 43 yX0_lastSum := Or.inl (tq 691 (by decide +kernel))
theorem lX0_47 : wLk RX0 47 yX0_stirred := Or.inl (tq 695 (by decide +kernel))
theorem lX0_50 : wLk RX0 50 yX3_valueOf := Or.inr ⟨"LevelBits", tq 700 (by decide +kernel)⟩
theorem lX0_60 : wLk RX0 60 yX0_held := Or.inl (tq 704 (by decide +kernel))
theorem lX0_63 : wLk RX0 63 yX0_clock := Or.inl (tq 906 (by decide +kernel))
theorem lX0_70 : wLk RX0 70 yJ9_min_7cf53 := Or.inl (tq 708 (by decide +kernel))
theorem lX0_76 : wLk RX0 76 yJ9_max_7cf53 := Or.inl (tq 709 (by decide +kernel))
theorem lX1_11 : wLk RX1 11 yX0_init := Or.inr ⟨"LevelBits", tq 230 (by decide +kernel)⟩
theorem lX1_22 : wLk RX1 22 yX0_startQuiet := Or.inr ⟨"LevelBits", tq 872 (by decide +kernel)⟩
theorem lX1_26 : wLk RX1 26 yX1_drop := Or.inl (tq 877 (by decide +kernel))
theorem lX1_29 : wLk RX1 29 yX1_walk := Or.inl (tq 884 (by decide +kernel))
theorem lX1_33 : wLk RX1 33 yX0_isAt := Or.inr ⟨"LevelBits", tq 892 (by decide +kernel)⟩
theorem lX1_51 : wLk RX1 51 yJ9_min_7cf53 := Or.inl (tq 896 (by decide +kernel))
theorem lX1_75 : wLk RX1 75 yX0_lastSum := Or.inr ⟨"LevelBits", tq 888 (by decide +kernel)⟩
theorem lX1_79 : wLk RX1 79 yJ9_abs_0f7a4 := Or.inl (tq 889 (by decide +kernel))
theorem lX1_83 : wLk RX1 83 yJ9_max_7cf53 := Or.inl (tq 890 (by decide +kernel))
theorem lX1_86 : wLk RX1 86 yX0_clock := Or.inr ⟨"LevelBits", tq 891 (by decide +kernel)⟩
theorem lX2_39 : wLk RX2 39 yX6_start := Or.inr ⟨"LevelBits", tq 961 (by decide +kernel)⟩
theorem lX2_43 : wLk RX2 43 yX6_go := Or.inr ⟨"LevelBits", tq 962 (by decide +kernel)⟩
theorem lX3_15 : wLk RX3 15 yJ7_fill_53178 := Or.inl (tq 485 (by decide +kernel))
theorem lX4_11 : wLk RX4 11 yX3_init := Or.inr ⟨"LevelBits", tq 271 (by decide +kernel)⟩
theorem lX4_20 : wLk RX4 20 yX7_init := Or.inr ⟨"LevelBits", tq 274 (by decide +kernel)⟩
theorem lX4_32 : wLk RX4 32 yX3_clear := Or.inr ⟨"LevelBits", tq 481 (by decide +kernel)⟩
theorem lX4_35 : wLk RX4 35 yX7_clear := Or.inr ⟨"LevelBits", tq 563 (by decide +kernel)⟩
theorem lX4_36 : wLk RX4 36 yX4_loopAt := Or.inl (tq 523 (by decide +kernel))
theorem lX4_43 : wLk RX4 43 yX4_waveAt := Or.inl (tq 527 (by decide +kernel))
theorem lX4_48 : wLk RX4 48 yX4_nameOf := Or.inl (tq 519 (by decide +kernel))
theorem lX5_19 : wLk RX5 19 yX4_clear := Or.inr ⟨"LevelBits", tq 398 (by decide +kernel)⟩
theorem lX5_24 : wLk RX5 24 yJ9_min_7cf53 := Or.inl (tq 402 (by decide +kernel))
theorem lX5_40 : wLk RX5 40 yX5_step := Or.inl (tq 405 (by decide +kernel))
theorem lX5_45 : wLk RX5 45 yX5_isWord := Or.inl (tq 418 (by decide +kernel))
theorem lX5_49 : wLk RX5 49 yX5_readLoop := Or.inl (tq 473 (by decide +kernel))
theorem lX5_55 : wLk RX5 55 yX5_readWave := Or.inl (tq 555 (by decide +kernel))
theorem lX5_58 : wLk RX5 58 yX5_failed := Or.inl (tq 488 (by decide +kernel))
theorem lX5_65 : wLk RX5 65 yX5_takeMark := Or.inl (tq 575 (by decide +kernel))
theorem lX5_69 : wLk RX5 69 yX4_addLoop := Or.inr ⟨"LevelBits", tq 477 (by decide +kernel)⟩
theorem lX5_73 : wLk RX5 73 yX5_takeName := Or.inl (tq 496 (by decide +kernel))
theorem lX5_86 : wLk RX5 86 yX5_takeWord := Or.inl (tq 531 (by decide +kernel))
theorem lX5_89 : wLk RX5 89 yX5_readFactors := Or.inl (tq 535 (by decide +kernel))
theorem lX5_95 : wLk RX5 95 yX5_takeNumber := Or.inl (tq 539 (by decide +kernel))
theorem lX5_108 : wLk RX5 108 yX5_readNoise := Or.inl (tq 551 (by decide +kernel))
theorem lX5_114 : wLk RX5 114 yX3_addStage := Or.inr ⟨"LevelBits", tq 547 (by decide +kernel)⟩
theorem lX5_117 : wLk RX5 117 yX5_failedAt := Or.inl (tq 492 (by decide +kernel))
theorem lX5_122 : wLk RX5 122 yX4_addWave := Or.inr ⟨"LevelBits", tq 559 (by decide +kernel)⟩
theorem lX5_129 : wLk RX5 129 yX5_readPiece := Or.inl (tq 567 (by decide +kernel))
theorem lX5_133 : wLk RX5 133 yX5_isMark := Or.inl (tq 543 (by decide +kernel))
theorem lX5_151 : wLk RX5 151 yX7_addPiece := Or.inr ⟨"LevelBits", tq 571 (by decide +kernel)⟩
theorem lX5_155 : wLk RX5 155 yX5_isReserved := Or.inl (tq 500 (by decide +kernel))
theorem lX5_161 : wLk RX5 161 yX4_hasName := Or.inr ⟨"LevelBits", tq 515 (by decide +kernel)⟩
theorem lX5_164 : wLk RX5 164 yX9_packed := Or.inr ⟨"LevelBits", tq 422 (by decide +kernel)⟩
theorem lX5_171 : wLk RX5 171 yX5_scanWord := Or.inl (tq 409 (by decide +kernel))
theorem lX5_174 : wLk RX5 174 yX5_scanWhole := Or.inl (tq 413 (by decide +kernel))
theorem lX6_11 : wLk RX6 11 yX0_init := Or.inr ⟨"LevelBits", tq 39 (by decide +kernel)⟩
theorem lX6_31 : wLk RX6 31 yX7_init := Or.inr ⟨"LevelBits", tq 107 (by decide +kernel)⟩
theorem lX6_36 : wLk RX6 36 yX4_loopAt := Or.inr ⟨"LevelBits", tq 670 (by decide +kernel)⟩
theorem lX6_42 : wLk RX6 42 yX4_waveAt := Or.inr ⟨"LevelBits", tq 671 (by decide +kernel)⟩
theorem lX6_46 : wLk RX6 46 yX0_start := Or.inr ⟨"LevelBits", tq 672 (by decide +kernel)⟩
theorem lX6_63 : wLk RX6 63 yJ7_fill_53178 := Or.inl (tq 677 (by decide +kernel))
theorem lX6_73 : wLk RX6 73 yX7_levelAt := Or.inr ⟨"LevelBits", tq 686 (by decide +kernel)⟩
theorem lX6_77 : wLk RX6 77 yX0_clock := Or.inr ⟨"LevelBits", tq 687 (by decide +kernel)⟩
theorem lX6_80 : wLk RX6 80 yX6_noteSizes := Or.inl (tq 710 (by decide +kernel))
theorem lX6_86 : wLk RX6 86 yJ9_abs_0f7a4 := Or.inl (tq 714 (by decide +kernel))
theorem lX6_91 : wLk RX6 91 yJ9_max_7cf53 := Or.inl (tq 717 (by decide +kernel))
theorem lX6_110 : wLk RX6 110 yX6_likePairs := Or.inl (tq 793 (by decide +kernel))
theorem lX7_34 : wLk RX7 34 yX7_least := Or.inl (tq 618 (by decide +kernel))
theorem lX7_38 : wLk RX7 38 yX7_greatest := Or.inl (tq 637 (by decide +kernel))
theorem lX7_41 : wLk RX7 41 yX7_levelAt := Or.inl (tq 622 (by decide +kernel))
theorem lX7_45 : wLk RX7 45 yJ9_min_7cf53 := Or.inl (tq 636 (by decide +kernel))
theorem lX7_51 : wLk RX7 51 yJ9_max_7cf53 := Or.inl (tq 641 (by decide +kernel))
theorem lX7_54 : wLk RX7 54 yJ9_floorMod_7cf53 := Or.inl (tq 626 (by decide +kernel))
theorem lX7_57 : wLk RX7 57 yX7_levelIn := Or.inl (tq 629 (by decide +kernel))
theorem lX7_60 : wLk RX7 60 yJ9_floorDiv_7cf53 := Or.inl (tq 633 (by decide +kernel))
theorem lX8_15 : wLk RX8 15 yJ7_fill_53178 := Or.inl (tq 842 (by decide +kernel))
theorem lX8_25 : wLk RX8 25 yX8_addUp := Or.inl (tq 843 (by decide +kernel))
theorem lL_7 : wLk RL 7 yX9_letter := Or.inl (tq 975 (by decide +kernel))
theorem lL_15 : wLk RL 15 yX9_init := Or.inl (tq 25 (by decide +kernel))
theorem lL_18 : wLk RL 18 yX10_init := Or.inl (tq 1046 (by decide +kernel))
theorem lL_19 : wLk RL 19 yX9_feed := Or.inl (tq 378 (by decide +kernel))
theorem lL_23 : wLk RL 23 yX10_feed := Or.inl (tq 1189 (by decide +kernel))
theorem lL_24 : wLk RL 24 yX9_text := Or.inl (tq 386 (by decide +kernel))
theorem lL_28 : wLk RL 28 yX10_text := Or.inl (tq 1201 (by decide +kernel))
theorem lL_29 : wLk RL 29 yX9_fault := Or.inl (tq 587 (by decide +kernel))
theorem lL_33 : wLk RL 33 yX10_fault := Or.inl (tq 1193 (by decide +kernel))
theorem lL_34 : wLk RL 34 yX9_where := Or.inl (tq 591 (by decide +kernel))
theorem lL_37 : wLk RL 37 yX10_where := Or.inl (tq 1197 (by decide +kernel))
theorem lL_38 : wLk RL 38 yX9_about := Or.inl (tq 595 (by decide +kernel))
theorem lL_41 : wLk RL 41 yX10_about := Or.inl (tq 1303 (by decide +kernel))
theorem lL_42 : wLk RL 42 yX9_loop := Or.inl (tq 599 (by decide +kernel))
theorem lL_46 : wLk RL 46 yX10_loop := Or.inl (tq 1307 (by decide +kernel))
theorem lL_47 : wLk RL 47 yX9_wave := Or.inl (tq 608 (by decide +kernel))
theorem lL_50 : wLk RL 50 yX10_wave := Or.inl (tq 1315 (by decide +kernel))
theorem lL_51 : wLk RL 51 yX9_level := Or.inl (tq 644 (by decide +kernel))
theorem lL_54 : wLk RL 54 yX10_level := Or.inl (tq 1343 (by decide +kernel))
theorem lL_55 : wLk RL 55 yX9_seed := Or.inl (tq 649 (by decide +kernel))
theorem lL_59 : wLk RL 59 yX10_seed := Or.inl (tq 1347 (by decide +kernel))
theorem lL_60 : wLk RL 60 yX9_begin := Or.inl (tq 662 (by decide +kernel))
theorem lL_64 : wLk RL 64 yX10_begin := Or.inl (tq 1356 (by decide +kernel))
theorem lL_65 : wLk RL 65 yX9_run := Or.inl (tq 678 (by decide +kernel))
theorem lL_68 : wLk RL 68 yX10_run := Or.inl (tq 1364 (by decide +kernel))
theorem lL_69 : wLk RL 69 yX9_now := Or.inl (tq 718 (by decide +kernel))
theorem lL_72 : wLk RL 72 yX10_now := Or.inl (tq 1380 (by decide +kernel))
theorem lL_73 : wLk RL 73 yX9_sum := Or.inl (tq 726 (by decide +kernel))
theorem lL_76 : wLk RL 76 yX10_sum := Or.inl (tq 1384 (by decide +kernel))
theorem lL_77 : wLk RL 77 yX9_size := Or.inl (tq 734 (by decide +kernel))
theorem lL_80 : wLk RL 80 yX10_size := Or.inl (tq 1392 (by decide +kernel))
theorem lL_81 : wLk RL 81 yX9_out := Or.inl (tq 738 (by decide +kernel))
theorem lL_84 : wLk RL 84 yX10_out := Or.inl (tq 1396 (by decide +kernel))
theorem lL_85 : wLk RL 85 yX9_often := Or.inl (tq 746 (by decide +kernel))
theorem lL_88 : wLk RL 88 yX10_often := Or.inl (tq 1419 (by decide +kernel))
theorem lL_89 : wLk RL 89 yX9_astray := Or.inl (tq 757 (by decide +kernel))
theorem lL_92 : wLk RL 92 yX10_astray := Or.inl (tq 1423 (by decide +kernel))
theorem lL_93 : wLk RL 93 yX9_rows := Or.inl (tq 765 (by decide +kernel))
theorem lL_96 : wLk RL 96 yX10_rows := Or.inl (tq 1427 (by decide +kernel))
theorem lL_97 : wLk RL 97 yX9_like := Or.inl (tq 777 (by decide +kernel))
theorem lL_100 : wLk RL 100 yX10_like := Or.inl (tq 1431 (by decide +kernel))
theorem lL_101 : wLk RL 101 yX9_tone := Or.inl (tq 785 (by decide +kernel))
theorem lL_104 : wLk RL 104 yX10_tone := Or.inl (tq 1439 (by decide +kernel))
theorem lL_105 : wLk RL 105 yX9_nth := Or.inl (tq 794 (by decide +kernel))
theorem lL_108 : wLk RL 108 yX10_nth := Or.inl (tq 1404 (by decide +kernel))
theorem lL_109 : wLk RL 109 yX9_mean := Or.inl (tq 802 (by decide +kernel))
theorem lL_112 : wLk RL 112 yX10_mean := Or.inl (tq 1408 (by decide +kernel))
theorem lL_113 : wLk RL 113 yX9_octet := Or.inl (tq 815 (by decide +kernel))
theorem lL_116 : wLk RL 116 yX10_octet := Or.inl (tq 1443 (by decide +kernel))
theorem lL_117 : wLk RL 117 yX9_summed := Or.inl (tq 823 (by decide +kernel))
theorem lL_120 : wLk RL 120 yX10_summed := Or.inl (tq 1447 (by decide +kernel))
theorem lL_121 : wLk RL 121 yX9_summedAt := Or.inl (tq 834 (by decide +kernel))
theorem lL_124 : wLk RL 124 yX10_summedAt := Or.inl (tq 1459 (by decide +kernel))
theorem lL_125 : wLk RL 125 yX9_worst := Or.inl (tq 851 (by decide +kernel))
theorem lL_128 : wLk RL 128 yX10_worst := Or.inl (tq 1467 (by decide +kernel))
theorem lL_129 : wLk RL 129 yX9_cycle := Or.inl (tq 859 (by decide +kernel))
theorem lL_132 : wLk RL 132 yX10_cycle := Or.inl (tq 1471 (by decide +kernel))
theorem lL_133 : wLk RL 133 yX9_fed := Or.inl (tq 913 (by decide +kernel))
theorem lL_137 : wLk RL 137 yX10_fed := Or.inl (tq 1487 (by decide +kernel))
theorem lL_138 : wLk RL 138 yX9_sweep := Or.inl (tq 917 (by decide +kernel))
theorem lL_141 : wLk RL 141 yX10_sweep := Or.inl (tq 1491 (by decide +kernel))
theorem lL_142 : wLk RL 142 yX9_steady := Or.inl (tq 932 (by decide +kernel))
theorem lL_145 : wLk RL 145 yX10_steady := Or.inl (tq 1497 (by decide +kernel))
theorem lL_146 : wLk RL 146 yX9_apart := Or.inl (tq 940 (by decide +kernel))
theorem lL_149 : wLk RL 149 yX10_apart := Or.inl (tq 1505 (by decide +kernel))
theorem lL_150 : wLk RL 150 yX9_keep := Or.inl (tq 945 (by decide +kernel))
theorem lL_153 : wLk RL 153 yX10_keep := Or.inl (tq 1509 (by decide +kernel))
theorem lL_154 : wLk RL 154 yX9_back := Or.inl (tq 953 (by decide +kernel))
theorem lL_157 : wLk RL 157 yX10_back := Or.inl (tq 1513 (by decide +kernel))
theorem lL_158 : wLk RL 158 yL_letter := Or.inl (tq 971 (by decide +kernel))
theorem lL_163 : wLk RL 163 yX10_letter := Or.inl (tq 1517 (by decide +kernel))
theorem lL_164 : wLk RL 164 yX10_thrown := Or.inl (tq 1185 (by decide +kernel))
theorem lL_167 : wLk RL 167 yX9_bytes := Or.inl (tq 963 (by decide +kernel))
theorem lL_170 : wLk RL 170 yX10_bytes := Or.inl (tq 1524 (by decide +kernel))
theorem lL_171 : wLk RL 171 yX9_trouble := Or.inl (tq 967 (by decide +kernel))
theorem lL_174 : wLk RL 174 yX10_trouble := Or.inl (tq 1528 (by decide +kernel))
theorem lX10_111 : wLk RX10 111 yX10_in := Or.inl (tq 1205 (by decide +kernel))
theorem lX10_121 : wLk RX10 121 yX10_isLetterAt := Or.inl (tq 1216 (by decide +kernel))
theorem lX10_133 : wLk RX10 133 yX10_isDigitAt := Or.inl (tq 1222 (by decide +kernel))
theorem lX10_142 : wLk RX10 142 yJ0_length_8abf5 := Or.inl (tq 1238 (by decide +kernel))
theorem lX10_148 : wLk RX10 148 yJ0_charAt_5068e := Or.inl (tq 1239 (by decide +kernel))
theorem lX10_152 : wLk RX10 152 yX10_wordOf := Or.inl (tq 1235 (by decide +kernel))
theorem lX10_156 : wLk RX10 156 yX10_isWord := Or.inl (tq 1231 (by decide +kernel))
theorem lX10_160 : wLk RX10 160 yX10_flaw := Or.inl (tq 1244 (by decide +kernel))
theorem lX10_164 : wLk RX10 164 yX10_goOn := Or.inl (tq 1212 (by decide +kernel))
theorem lX10_188 : wLk RX10 188 yX10_isSign := Or.inl (tq 1291 (by decide +kernel))
theorem lX10_191 : wLk RX10 191 yX10_readWhole := Or.inl (tq 1271 (by decide +kernel))
theorem lX10_195 : wLk RX10 195 yX10_isOwn := Or.inl (tq 1252 (by decide +kernel))
theorem lX10_205 : wLk RX10 205 yX10_readNew := Or.inl (tq 1248 (by decide +kernel))
theorem lX10_209 : wLk RX10 209 yX10_needs := Or.inl (tq 1267 (by decide +kernel))
theorem lX10_213 : wLk RX10 213 yX10_passes := Or.inl (tq 1275 (by decide +kernel))
theorem lX10_216 : wLk RX10 216 yX10_readInt := Or.inl (tq 1287 (by decide +kernel))
theorem lX10_219 : wLk RX10 219 yX10_readPiece := Or.inl (tq 1283 (by decide +kernel))
theorem lX10_222 : wLk RX10 222 yX10_readLoop := Or.inl (tq 1240 (by decide +kernel))
theorem lX10_225 : wLk RX10 225 yX10_readWave := Or.inl (tq 1279 (by decide +kernel))
theorem lX10_228 : wLk RX10 228 yX10_refused := Or.inl (tq 1208 (by decide +kernel))
theorem lX10_232 : wLk RX10 232 yX10_readLine := Or.inl (tq 1226 (by decide +kernel))
theorem lX10_235 : wLk RX10 235 yX10_holds := Or.inl (tq 1295 (by decide +kernel))
theorem lX10_241 : wLk RX10 241 yX10_good := Or.inl (tq 1299 (by decide +kernel))
theorem lX10_251 : wLk RX10 251 yX10_isLoop := Or.inl (tq 1311 (by decide +kernel))
theorem lX10_254 : wLk RX10 254 yX10_down := Or.inl (tq 1340 (by decide +kernel))
theorem lX10_257 : wLk RX10 257 yX10_longOf := Or.inl (tq 1328 (by decide +kernel))
theorem lX10_260 : wLk RX10 260 yX10_levelIn := Or.inl (tq 1336 (by decide +kernel))
theorem lX10_263 : wLk RX10 263 yX10_isWave := Or.inl (tq 1319 (by decide +kernel))
theorem lX10_266 : wLk RX10 266 yX10_lost := Or.inl (tq 1323 (by decide +kernel))
theorem lX10_269 : wLk RX10 269 yX10_levelOf := Or.inl (tq 1332 (by decide +kernel))
theorem lX10_273 : wLk RX10 273 yX10_without := Or.inl (tq 1377 (by decide +kernel))
theorem lX10_277 : wLk RX10 277 yX10_done := Or.inl (tq 1352 (by decide +kernel))
theorem lX10_280 : wLk RX10 280 yX10_starts := Or.inl (tq 1360 (by decide +kernel))
theorem lX10_284 : wLk RX10 284 yX10_hasRun := Or.inl (tq 1368 (by decide +kernel))
theorem lX10_287 : wLk RX10 287 yX10_clock := Or.inl (tq 1372 (by decide +kernel))
theorem lX10_291 : wLk RX10 291 yX10_isStage := Or.inl (tq 1388 (by decide +kernel))
theorem lX10_294 : wLk RX10 294 yX10_isClock := Or.inl (tq 1400 (by decide +kernel))
theorem lX10_297 : wLk RX10 297 yX10_isStretch := Or.inl (tq 1412 (by decide +kernel))
theorem lX10_301 : wLk RX10 301 yX10_common := Or.inl (tq 1416 (by decide +kernel))
theorem lX10_304 : wLk RX10 304 yX10_likeBy := Or.inl (tq 1435 (by decide +kernel))
theorem lX10_308 : wLk RX10 308 yX10_refusesSummed := Or.inl (tq 1451 (by decide +kernel))
theorem lX10_311 : wLk RX10 311 yX10_summedMany := Or.inl (tq 1455 (by decide +kernel))
theorem lX10_314 : wLk RX10 314 yX10_laysSummed := Or.inl (tq 1463 (by decide +kernel))
theorem lX10_321 : wLk RX10 321 yX10_areLike := Or.inl (tq 1479 (by decide +kernel))
theorem lX10_328 : wLk RX10 328 yX10_cycles := Or.inl (tq 1475 (by decide +kernel))
theorem lX10_331 : wLk RX10 331 yX10_cycleOf := Or.inl (tq 1483 (by decide +kernel))
theorem lX10_338 : wLk RX10 338 yX10_isSteadyAt := Or.inl (tq 1501 (by decide +kernel))
theorem lX10_341 : wLk RX10 341 yX10_lettersIn := Or.inl (tq 1521 (by decide +kernel))
theorem lJ0_335 : wLk RJ0 335 yJ0_coder_7d493 := Or.inl (tq 429 (by decide +kernel))
theorem lJ0_492 : wLk RJ0 492 yJ0_isLatin1_aae02 := Or.inl (tq 439 (by decide +kernel))
theorem lJ0_495 : wLk RJ0 495 yJ1_charAt_3b067 := Or.inl (tq 443 (by decide +kernel))
theorem lJ0_498 : wLk RJ0 498 yJ2_charAt_3b067 := Or.inl (tq 454 (by decide +kernel))
theorem lJ0_1059 : wLk RJ0 1059 yJ3_checkIndex_8e157 := Or.inl (tq 451 (by decide +kernel))
theorem lJ1_9 : wLk RJ1 9 yJ0_checkIndex_df160 := Or.inl (tq 446 (by decide +kernel))
theorem lJ2_48 : wLk RJ2 48 yJ2_length_9d52b := Or.inl (tq 460 (by decide +kernel))
theorem lJ2_67 : wLk RJ2 67 yJ2_checkIndex_2214a := Or.inl (tq 457 (by decide +kernel))
theorem lJ2_71 : wLk RJ2 71 yJ2_getChar_3b067 := Or.inl (tq 464 (by decide +kernel))
theorem lJ2_414 : wLk RJ2 414 yJ0_checkIndex_df160 := Or.inl (tq 463 (by decide +kernel))
theorem nX9_129 : Cond.constant RX9 129 (-1000000000) ∈ lw_tbl := tq 613 (by decide +kernel)
theorem nX9_136 : Cond.constant RX9 136 (65535) ∈ lw_tbl := tq 653 (by decide +kernel)
theorem nX0_66 : Cond.constant RX0 66 (32768) ∈ lw_tbl := tq 699 (by decide +kernel)
theorem nX10_95 : Cond.constant RX10 95 (-1000000000) ∈ lw_tbl := tq 1327 (by decide +kernel)
theorem nX10_276 : Cond.constant RX10 276 (65535) ∈ lw_tbl := tq 1351 (by decide +kernel)
theorem nX10_272 : Cond.constant RX10 272 (32768) ∈ lw_tbl := tq 1376 (by decide +kernel)
theorem nX9_317 : Cond.constantLong RX9 317 (-1000) ∈ lw_tbl := tq 866 (by decide +kernel)
theorem nX9_319 : Cond.constantLong RX9 319 (1000) ∈ lw_tbl := tq 867 (by decide +kernel)
theorem nX10_129 : Cond.constantLong RX10 129 (32) ∈ lw_tbl := tq 1220 (by decide +kernel)
theorem nX10_131 : Cond.constantLong RX10 131 (97) ∈ lw_tbl := tq 1221 (by decide +kernel)
theorem nX10_334 : Cond.constantLong RX10 334 (-1000) ∈ lw_tbl := tq 1495 (by decide +kernel)
theorem nX10_336 : Cond.constantLong RX10 336 (1000) ∈ lw_tbl := tq 1496 (by decide +kernel)
theorem qL_8 : Cond.classLink RL 8 RX9 ∈ lw_tbl := tq 23 (by decide +kernel)
theorem qX9_13 : Cond.classLink RX9 13 RX6 ∈ lw_tbl := tq 31 (by decide +kernel)
theorem qX6_9 : Cond.classLink RX6 9 RX0 ∈ lw_tbl := tq 37 (by decide +kernel)
theorem qX0_15 : Cond.classLink RX0 15 RX3 ∈ lw_tbl := tq 43 (by decide +kernel)
theorem qX6_29 : Cond.classLink RX6 29 RX7 ∈ lw_tbl := tq 105 (by decide +kernel)
theorem qX9_20 : Cond.classLink RX9 20 RX2 ∈ lw_tbl := tq 177 (by decide +kernel)
theorem qX9_27 : Cond.classLink RX9 27 RX8 ∈ lw_tbl := tq 208 (by decide +kernel)
theorem qX9_34 : Cond.classLink RX9 34 RX1 ∈ lw_tbl := tq 223 (by decide +kernel)
theorem qX1_9 : Cond.classLink RX1 9 RX0 ∈ lw_tbl := tq 229 (by decide +kernel)
theorem qX9_41 : Cond.classLink RX9 41 RX0 ∈ lw_tbl := tq 261 (by decide +kernel)
theorem qX9_51 : Cond.classLink RX9 51 RX4 ∈ lw_tbl := tq 263 (by decide +kernel)
theorem qX4_9 : Cond.classLink RX4 9 RX3 ∈ lw_tbl := tq 269 (by decide +kernel)
theorem qX4_18 : Cond.classLink RX4 18 RX7 ∈ lw_tbl := tq 272 (by decide +kernel)
theorem qX9_61 : Cond.classLink RX9 61 RX5 ∈ lw_tbl := tq 290 (by decide +kernel)
theorem qL_13 : Cond.classLink RL 13 "java/util/NoSuchElementException" ∈ lw_tbl := tq 974 (by decide +kernel)
theorem qX9_303 : Cond.classLink RX9 303 "java/util/NoSuchElementException" ∈ lw_tbl := tq 983 (by decide +kernel)
theorem qL_16 : Cond.classLink RL 16 RX10 ∈ lw_tbl := tq 1044 (by decide +kernel)
theorem iX0 : Cond.instantiable RX0 5 ∈ lw_tbl := tq 38 (by decide +kernel)
theorem zX0 : Cond.initialized RX0 ∈ lw_tbl := tq 3 (by decide +kernel)
theorem iX1 : Cond.instantiable RX1 9 ∈ lw_tbl := tq 224 (by decide +kernel)
theorem zX1 : Cond.initialized RX1 ∈ lw_tbl := tq 8 (by decide +kernel)
theorem iX2 : Cond.instantiable RX2 7 ∈ lw_tbl := tq 179 (by decide +kernel)
theorem zX2 : Cond.initialized RX2 ∈ lw_tbl := tq 6 (by decide +kernel)
theorem iX3 : Cond.instantiable RX3 6 ∈ lw_tbl := tq 44 (by decide +kernel)
theorem zX3 : Cond.initialized RX3 ∈ lw_tbl := tq 4 (by decide +kernel)
theorem iX4 : Cond.instantiable RX4 4 ∈ lw_tbl := tq 264 (by decide +kernel)
theorem zX4 : Cond.initialized RX4 ∈ lw_tbl := tq 9 (by decide +kernel)
theorem iX5 : Cond.instantiable RX5 10 ∈ lw_tbl := tq 291 (by decide +kernel)
theorem zX5 : Cond.initialized RX5 ∈ lw_tbl := tq 10 (by decide +kernel)
theorem iX6 : Cond.instantiable RX6 10 ∈ lw_tbl := tq 32 (by decide +kernel)
theorem zX6 : Cond.initialized RX6 ∈ lw_tbl := tq 2 (by decide +kernel)
theorem iX7 : Cond.instantiable RX7 7 ∈ lw_tbl := tq 106 (by decide +kernel)
theorem zX7 : Cond.initialized RX7 ∈ lw_tbl := tq 5 (by decide +kernel)
theorem iX8 : Cond.instantiable RX8 2 ∈ lw_tbl := tq 209 (by decide +kernel)
theorem zX8 : Cond.initialized RX8 ∈ lw_tbl := tq 7 (by decide +kernel)
theorem iX9 : Cond.instantiable RX9 16 ∈ lw_tbl := tq 24 (by decide +kernel)
theorem zX9 : Cond.initialized RX9 ∈ lw_tbl := tq 1 (by decide +kernel)
theorem iX10 : Cond.instantiable RX10 44 ∈ lw_tbl := tq 1045 (by decide +kernel)
theorem zX10 : Cond.initialized RX10 ∈ lw_tbl := tq 11 (by decide +kernel)
theorem oiX9_1 : Cond.methodLink RX9 1 Lib.objectInit ∈ lw_tbl := tq 28 (by decide +kernel)
theorem oi_i : Cond.instanceMethod Lib.objectInit ∈ lw_tbl := tq 29 (by decide +kernel)
theorem oi_c : Cond.code Lib.objectInit ⟨#[0xb1]⟩ 1 none ∈ lw_tbl := tq 30 (by decide +kernel)
theorem oiX6_3 : Cond.methodLink RX6 3 Lib.objectInit ∈ lw_tbl := tq 36 (by decide +kernel)
theorem oiX0_3 : Cond.methodLink RX0 3 Lib.objectInit ∈ lw_tbl := tq 42 (by decide +kernel)
theorem oiX3_3 : Cond.methodLink RX3 3 Lib.objectInit ∈ lw_tbl := tq 48 (by decide +kernel)
theorem ac_byte : Cond.arrayClass .byte ∈ lw_tbl := tq 79 (by decide +kernel)
theorem ac_int : Cond.arrayClass .int ∈ lw_tbl := tq 80 (by decide +kernel)
theorem oiX7_3 : Cond.methodLink RX7 3 Lib.objectInit ∈ lw_tbl := tq 110 (by decide +kernel)
theorem ao_X2 : Cond.arrayOver (.object RX2) ∈ lw_tbl := tq 178 (by decide +kernel)
theorem oiX2_1 : Cond.methodLink RX2 1 Lib.objectInit ∈ lw_tbl := tq 183 (by decide +kernel)
theorem oiX8_3 : Cond.methodLink RX8 3 Lib.objectInit ∈ lw_tbl := tq 213 (by decide +kernel)
theorem oiX1_3 : Cond.methodLink RX1 3 Lib.objectInit ∈ lw_tbl := tq 228 (by decide +kernel)
theorem oiX4_3 : Cond.methodLink RX4 3 Lib.objectInit ∈ lw_tbl := tq 268 (by decide +kernel)
theorem ao_X3 : Cond.arrayOver (.object RX3) ∈ lw_tbl := tq 270 (by decide +kernel)
theorem ao_X7 : Cond.arrayOver (.object RX7) ∈ lw_tbl := tq 273 (by decide +kernel)
theorem oiX5_3 : Cond.methodLink RX5 3 Lib.objectInit ∈ lw_tbl := tq 295 (by decide +kernel)
theorem oiX10_1 : Cond.methodLink RX10 1 Lib.objectInit ∈ lw_tbl := tq 1049 (by decide +kernel)
theorem ac_long : Cond.arrayClass .long ∈ lw_tbl := tq 1183 (by decide +kernel)
theorem ac_boolean : Cond.arrayClass .boolean ∈ lw_tbl := tq 1184 (by decide +kernel)
