set_option maxRecDepth 20000 in
theorem gL_crashes_L_print : GoodIn wsL_crashes (va_wsS RL 90 yL_print wsL_print) := goodIn_app (goodIn_of _ (by decide +kernel)) ggL_crashes_L_print
set_option maxRecDepth 20000 in
theorem gL_crashes_X5_file : GoodIn wsL_crashes (wsV RL 51 RX5 yX5_file wsX5_file) := goodIn_app (goodIn_of _ (by decide +kernel)) ggL_crashes_X5_file
set_option maxRecDepth 20000 in
theorem gL_crashes_X5_count : GoodIn wsL_crashes (wsV RL 67 RX5 yX5_count wsX5_count) := goodIn_app (goodIn_of _ (by decide +kernel)) ggL_crashes_X5_count
set_option maxRecDepth 20000 in
theorem gL_crashes_X5_total : GoodIn wsL_crashes (wsV RL 80 RX5 yX5_total wsX5_total) := goodIn_app (goodIn_of _ (by decide +kernel)) ggL_crashes_X5_total
set_option maxRecDepth 20000 in
theorem gL_crashes_X5_crash : GoodIn wsL_crashes (wsV RL 38 RX5 yX5_crash wsX5_crash) := goodIn_app (goodIn_of _ (by decide +kernel)) ggL_crashes_X5_crash
set_option maxRecDepth 20000 in
theorem gL_crashes_L_hangs : GoodIn wsL_crashes (va_wsS RL 94 yL_hangs wsL_hangs) := goodIn_app (goodIn_of _ (by decide +kernel)) ggL_crashes_L_hangs
set_option maxRecDepth 20000 in
theorem gL_crashes_X5_mend : GoodIn wsL_crashes (wsV RL 35 RX5 yX5_mend wsX5_mend) := goodIn_app (goodIn_of _ (by decide +kernel)) ggL_crashes_X5_mend
set_option maxRecDepth 20000 in
theorem gL_crashes_X5_undo : GoodIn wsL_crashes (wsV RL 98 RX5 yX5_undo wsX5_undo) := goodIn_app (goodIn_of _ (by decide +kernel)) ggL_crashes_X5_undo
theorem dL_crashes_0 : decode cL_crashes 0 = .ok (.aload_n 0, 1) := by decide +kernel
theorem dL_crashes_1 : decode cL_crashes 1 = .ok (.invokestatic 90, 3) := by decide +kernel
theorem dL_crashes_4 : decode cL_crashes 4 = .ok (.lstore_n 1, 1) := by decide +kernel
theorem dL_crashes_5 : decode cL_crashes 5 = .ok (.iconst 0, 1) := by decide +kernel
theorem dL_crashes_6 : decode cL_crashes 6 = .ok (.istore_n 3, 1) := by decide +kernel
theorem dL_crashes_7 : decode cL_crashes 7 = .ok (.iconst 0, 1) := by decide +kernel
theorem dL_crashes_8 : decode cL_crashes 8 = .ok (.istore 4, 2) := by decide +kernel
theorem dL_crashes_10 : decode cL_crashes 10 = .ok (.iconst 0, 1) := by decide +kernel
theorem dL_crashes_11 : decode cL_crashes 11 = .ok (.istore 5, 2) := by decide +kernel
theorem dL_crashes_13 : decode cL_crashes 13 = .ok (.iload 5, 2) := by decide +kernel
theorem dL_crashes_15 : decode cL_crashes 15 = .ok (.bipush 8, 2) := by decide +kernel
theorem dL_crashes_17 : decode cL_crashes 17 = .ok (.if_icmp .ge 41, 3) := by decide +kernel
theorem dL_crashes_20 : decode cL_crashes 20 = .ok (.iload_n 3, 1) := by decide +kernel
theorem dL_crashes_21 : decode cL_crashes 21 = .ok (.aload_n 0, 1) := by decide +kernel
theorem dL_crashes_22 : decode cL_crashes 22 = .ok (.iload 5, 2) := by decide +kernel
theorem dL_crashes_24 : decode cL_crashes 24 = .ok (.iconst 0, 1) := by decide +kernel
theorem dL_crashes_25 : decode cL_crashes 25 = .ok (.invokevirtual 51, 3) := by decide +kernel
theorem dL_crashes_28 : decode cL_crashes 28 = .ok (.ifCond .ge 7, 3) := by decide +kernel
theorem dL_crashes_31 : decode cL_crashes 31 = .ok (.iconst 0, 1) := by decide +kernel
theorem dL_crashes_32 : decode cL_crashes 32 = .ok (.goto 18, 3) := by decide +kernel
theorem dL_crashes_35 : decode cL_crashes 35 = .ok (.aload_n 0, 1) := by decide +kernel
theorem dL_crashes_36 : decode cL_crashes 36 = .ok (.iload 5, 2) := by decide +kernel
theorem dL_crashes_38 : decode cL_crashes 38 = .ok (.iconst 0, 1) := by decide +kernel
theorem dL_crashes_39 : decode cL_crashes 39 = .ok (.invokevirtual 51, 3) := by decide +kernel
theorem dL_crashes_42 : decode cL_crashes 42 = .ok (.aload_n 0, 1) := by decide +kernel
theorem dL_crashes_43 : decode cL_crashes 43 = .ok (.iload 5, 2) := by decide +kernel
theorem dL_crashes_45 : decode cL_crashes 45 = .ok (.iconst 2, 1) := by decide +kernel
theorem dL_crashes_46 : decode cL_crashes 46 = .ok (.invokevirtual 51, 3) := by decide +kernel
theorem dL_crashes_49 : decode cL_crashes 49 = .ok (.isub, 1) := by decide +kernel
theorem dL_crashes_50 : decode cL_crashes 50 = .ok (.iadd, 1) := by decide +kernel
theorem dL_crashes_51 : decode cL_crashes 51 = .ok (.istore_n 3, 1) := by decide +kernel
theorem dL_crashes_52 : decode cL_crashes 52 = .ok (.iinc 5 1, 3) := by decide +kernel
theorem dL_crashes_55 : decode cL_crashes 55 = .ok (.goto (-42), 3) := by decide +kernel
theorem dL_crashes_58 : decode cL_crashes 58 = .ok (.aload_n 0, 1) := by decide +kernel
theorem dL_crashes_59 : decode cL_crashes 59 = .ok (.iconst 2, 1) := by decide +kernel
theorem dL_crashes_60 : decode cL_crashes 60 = .ok (.invokevirtual 67, 3) := by decide +kernel
theorem dL_crashes_63 : decode cL_crashes 63 = .ok (.istore 5, 2) := by decide +kernel
theorem dL_crashes_65 : decode cL_crashes 65 = .ok (.aload_n 0, 1) := by decide +kernel
theorem dL_crashes_66 : decode cL_crashes 66 = .ok (.iconst 3, 1) := by decide +kernel
theorem dL_crashes_67 : decode cL_crashes 67 = .ok (.invokevirtual 80, 3) := by decide +kernel
theorem dL_crashes_70 : decode cL_crashes 70 = .ok (.istore 6, 2) := by decide +kernel
theorem dL_crashes_72 : decode cL_crashes 72 = .ok (.aload_n 0, 1) := by decide +kernel
theorem dL_crashes_73 : decode cL_crashes 73 = .ok (.iconst 1, 1) := by decide +kernel
theorem dL_crashes_74 : decode cL_crashes 74 = .ok (.invokevirtual 80, 3) := by decide +kernel
theorem dL_crashes_77 : decode cL_crashes 77 = .ok (.istore 7, 2) := by decide +kernel
theorem dL_crashes_79 : decode cL_crashes 79 = .ok (.aload_n 0, 1) := by decide +kernel
theorem dL_crashes_80 : decode cL_crashes 80 = .ok (.invokevirtual 38, 3) := by decide +kernel
theorem dL_crashes_83 : decode cL_crashes 83 = .ok (.iload_n 3, 1) := by decide +kernel
theorem dL_crashes_84 : decode cL_crashes 84 = .ok (.if_icmp .ne 57, 3) := by decide +kernel
theorem dL_crashes_87 : decode cL_crashes 87 = .ok (.aload_n 0, 1) := by decide +kernel
theorem dL_crashes_88 : decode cL_crashes 88 = .ok (.iconst 1, 1) := by decide +kernel
theorem dL_crashes_89 : decode cL_crashes 89 = .ok (.invokevirtual 67, 3) := by decide +kernel
theorem dL_crashes_92 : decode cL_crashes 92 = .ok (.ifCond .ne 49, 3) := by decide +kernel
theorem dL_crashes_95 : decode cL_crashes 95 = .ok (.aload_n 0, 1) := by decide +kernel
theorem dL_crashes_96 : decode cL_crashes 96 = .ok (.iconst 2, 1) := by decide +kernel
theorem dL_crashes_97 : decode cL_crashes 97 = .ok (.invokevirtual 67, 3) := by decide +kernel
theorem dL_crashes_100 : decode cL_crashes 100 = .ok (.iload 5, 2) := by decide +kernel
theorem dL_crashes_102 : decode cL_crashes 102 = .ok (.if_icmp .ne 39, 3) := by decide +kernel
theorem dL_crashes_105 : decode cL_crashes 105 = .ok (.aload_n 0, 1) := by decide +kernel
theorem dL_crashes_106 : decode cL_crashes 106 = .ok (.iconst 3, 1) := by decide +kernel
theorem dL_crashes_107 : decode cL_crashes 107 = .ok (.invokevirtual 80, 3) := by decide +kernel
theorem dL_crashes_110 : decode cL_crashes 110 = .ok (.iload 6, 2) := by decide +kernel
theorem dL_crashes_112 : decode cL_crashes 112 = .ok (.iload_n 3, 1) := by decide +kernel
theorem dL_crashes_113 : decode cL_crashes 113 = .ok (.iadd, 1) := by decide +kernel
theorem dL_crashes_114 : decode cL_crashes 114 = .ok (.if_icmp .ne 27, 3) := by decide +kernel
theorem dL_crashes_117 : decode cL_crashes 117 = .ok (.aload_n 0, 1) := by decide +kernel
theorem dL_crashes_118 : decode cL_crashes 118 = .ok (.iconst 5, 1) := by decide +kernel
theorem dL_crashes_119 : decode cL_crashes 119 = .ok (.invokevirtual 67, 3) := by decide +kernel
theorem dL_crashes_122 : decode cL_crashes 122 = .ok (.aload_n 0, 1) := by decide +kernel
theorem dL_crashes_123 : decode cL_crashes 123 = .ok (.iconst 4, 1) := by decide +kernel
theorem dL_crashes_124 : decode cL_crashes 124 = .ok (.invokevirtual 67, 3) := by decide +kernel
theorem dL_crashes_127 : decode cL_crashes 127 = .ok (.if_icmp .ne 14, 3) := by decide +kernel
theorem dL_crashes_130 : decode cL_crashes 130 = .ok (.aload_n 0, 1) := by decide +kernel
theorem dL_crashes_131 : decode cL_crashes 131 = .ok (.invokestatic 94, 3) := by decide +kernel
theorem dL_crashes_134 : decode cL_crashes 134 = .ok (.ifCond .eq 7, 3) := by decide +kernel
theorem dL_crashes_137 : decode cL_crashes 137 = .ok (.iconst 1, 1) := by decide +kernel
theorem dL_crashes_138 : decode cL_crashes 138 = .ok (.goto 4, 3) := by decide +kernel
theorem dL_crashes_141 : decode cL_crashes 141 = .ok (.iconst 0, 1) := by decide +kernel
theorem dL_crashes_142 : decode cL_crashes 142 = .ok (.istore 8, 2) := by decide +kernel
theorem dL_crashes_144 : decode cL_crashes 144 = .ok (.iconst 0, 1) := by decide +kernel
theorem dL_crashes_145 : decode cL_crashes 145 = .ok (.istore 9, 2) := by decide +kernel
theorem dL_crashes_147 : decode cL_crashes 147 = .ok (.iload 9, 2) := by decide +kernel
theorem dL_crashes_149 : decode cL_crashes 149 = .ok (.bipush 8, 2) := by decide +kernel
theorem dL_crashes_151 : decode cL_crashes 151 = .ok (.if_icmp .ge 38, 3) := by decide +kernel
theorem dL_crashes_154 : decode cL_crashes 154 = .ok (.iload 8, 2) := by decide +kernel
theorem dL_crashes_156 : decode cL_crashes 156 = .ok (.ifCond .eq 24, 3) := by decide +kernel
theorem dL_crashes_159 : decode cL_crashes 159 = .ok (.aload_n 0, 1) := by decide +kernel
theorem dL_crashes_160 : decode cL_crashes 160 = .ok (.iload 9, 2) := by decide +kernel
theorem dL_crashes_162 : decode cL_crashes 162 = .ok (.iconst 0, 1) := by decide +kernel
theorem dL_crashes_163 : decode cL_crashes 163 = .ok (.invokevirtual 51, 3) := by decide +kernel
theorem dL_crashes_166 : decode cL_crashes 166 = .ok (.aload_n 0, 1) := by decide +kernel
theorem dL_crashes_167 : decode cL_crashes 167 = .ok (.iload 9, 2) := by decide +kernel
theorem dL_crashes_169 : decode cL_crashes 169 = .ok (.iconst 2, 1) := by decide +kernel
theorem dL_crashes_170 : decode cL_crashes 170 = .ok (.invokevirtual 51, 3) := by decide +kernel
theorem dL_crashes_173 : decode cL_crashes 173 = .ok (.if_icmp .ne 7, 3) := by decide +kernel
theorem dL_crashes_176 : decode cL_crashes 176 = .ok (.iconst 1, 1) := by decide +kernel
theorem dL_crashes_177 : decode cL_crashes 177 = .ok (.goto 4, 3) := by decide +kernel
theorem dL_crashes_180 : decode cL_crashes 180 = .ok (.iconst 0, 1) := by decide +kernel
theorem dL_crashes_181 : decode cL_crashes 181 = .ok (.istore 8, 2) := by decide +kernel
theorem dL_crashes_183 : decode cL_crashes 183 = .ok (.iinc 9 1, 3) := by decide +kernel
theorem dL_crashes_186 : decode cL_crashes 186 = .ok (.goto (-39), 3) := by decide +kernel
theorem dL_crashes_189 : decode cL_crashes 189 = .ok (.aload_n 0, 1) := by decide +kernel
theorem dL_crashes_190 : decode cL_crashes 190 = .ok (.iconst 4, 1) := by decide +kernel
theorem dL_crashes_191 : decode cL_crashes 191 = .ok (.invokevirtual 67, 3) := by decide +kernel
theorem dL_crashes_194 : decode cL_crashes 194 = .ok (.istore 9, 2) := by decide +kernel
theorem dL_crashes_196 : decode cL_crashes 196 = .ok (.iload 8, 2) := by decide +kernel
theorem dL_crashes_198 : decode cL_crashes 198 = .ok (.ifCond .eq 57, 3) := by decide +kernel
theorem dL_crashes_201 : decode cL_crashes 201 = .ok (.aload_n 0, 1) := by decide +kernel
theorem dL_crashes_202 : decode cL_crashes 202 = .ok (.invokevirtual 35, 3) := by decide +kernel
theorem dL_crashes_205 : decode cL_crashes 205 = .ok (.iload 9, 2) := by decide +kernel
theorem dL_crashes_207 : decode cL_crashes 207 = .ok (.if_icmp .ne 48, 3) := by decide +kernel
theorem dL_crashes_210 : decode cL_crashes 210 = .ok (.aload_n 0, 1) := by decide +kernel
theorem dL_crashes_211 : decode cL_crashes 211 = .ok (.iconst 4, 1) := by decide +kernel
theorem dL_crashes_212 : decode cL_crashes 212 = .ok (.invokevirtual 67, 3) := by decide +kernel
theorem dL_crashes_215 : decode cL_crashes 215 = .ok (.ifCond .ne 40, 3) := by decide +kernel
theorem dL_crashes_218 : decode cL_crashes 218 = .ok (.aload_n 0, 1) := by decide +kernel
theorem dL_crashes_219 : decode cL_crashes 219 = .ok (.iconst 2, 1) := by decide +kernel
theorem dL_crashes_220 : decode cL_crashes 220 = .ok (.invokevirtual 67, 3) := by decide +kernel
theorem dL_crashes_223 : decode cL_crashes 223 = .ok (.iload 5, 2) := by decide +kernel
theorem dL_crashes_225 : decode cL_crashes 225 = .ok (.iload 9, 2) := by decide +kernel
theorem dL_crashes_227 : decode cL_crashes 227 = .ok (.iadd, 1) := by decide +kernel
theorem dL_crashes_228 : decode cL_crashes 228 = .ok (.if_icmp .ne 27, 3) := by decide +kernel
theorem dL_crashes_231 : decode cL_crashes 231 = .ok (.aload_n 0, 1) := by decide +kernel
theorem dL_crashes_232 : decode cL_crashes 232 = .ok (.iconst 1, 1) := by decide +kernel
theorem dL_crashes_233 : decode cL_crashes 233 = .ok (.invokevirtual 80, 3) := by decide +kernel
theorem dL_crashes_236 : decode cL_crashes 236 = .ok (.iload 7, 2) := by decide +kernel
theorem dL_crashes_238 : decode cL_crashes 238 = .ok (.iload 9, 2) := by decide +kernel
theorem dL_crashes_240 : decode cL_crashes 240 = .ok (.iadd, 1) := by decide +kernel
theorem dL_crashes_241 : decode cL_crashes 241 = .ok (.if_icmp .ne 14, 3) := by decide +kernel
theorem dL_crashes_244 : decode cL_crashes 244 = .ok (.aload_n 0, 1) := by decide +kernel
theorem dL_crashes_245 : decode cL_crashes 245 = .ok (.invokestatic 94, 3) := by decide +kernel
theorem dL_crashes_248 : decode cL_crashes 248 = .ok (.ifCond .eq 7, 3) := by decide +kernel
theorem dL_crashes_251 : decode cL_crashes 251 = .ok (.iconst 1, 1) := by decide +kernel
theorem dL_crashes_252 : decode cL_crashes 252 = .ok (.goto 4, 3) := by decide +kernel
theorem dL_crashes_255 : decode cL_crashes 255 = .ok (.iconst 0, 1) := by decide +kernel
theorem dL_crashes_256 : decode cL_crashes 256 = .ok (.istore 8, 2) := by decide +kernel
theorem dL_crashes_258 : decode cL_crashes 258 = .ok (.iload 8, 2) := by decide +kernel
theorem dL_crashes_260 : decode cL_crashes 260 = .ok (.ifCond .eq 30, 3) := by decide +kernel
theorem dL_crashes_263 : decode cL_crashes 263 = .ok (.aload_n 0, 1) := by decide +kernel
theorem dL_crashes_264 : decode cL_crashes 264 = .ok (.invokevirtual 98, 3) := by decide +kernel
theorem dL_crashes_267 : decode cL_crashes 267 = .ok (.ifCond .lt 23, 3) := by decide +kernel
theorem dL_crashes_270 : decode cL_crashes 270 = .ok (.aload_n 0, 1) := by decide +kernel
theorem dL_crashes_271 : decode cL_crashes 271 = .ok (.invokevirtual 98, 3) := by decide +kernel
theorem dL_crashes_274 : decode cL_crashes 274 = .ok (.ifCond .lt 16, 3) := by decide +kernel
theorem dL_crashes_277 : decode cL_crashes 277 = .ok (.aload_n 0, 1) := by decide +kernel
theorem dL_crashes_278 : decode cL_crashes 278 = .ok (.invokestatic 90, 3) := by decide +kernel
theorem dL_crashes_281 : decode cL_crashes 281 = .ok (.lload_n 1, 1) := by decide +kernel
theorem dL_crashes_282 : decode cL_crashes 282 = .ok (.lcmp, 1) := by decide +kernel
theorem dL_crashes_283 : decode cL_crashes 283 = .ok (.ifCond .ne 7, 3) := by decide +kernel
theorem dL_crashes_286 : decode cL_crashes 286 = .ok (.iconst 1, 1) := by decide +kernel
theorem dL_crashes_287 : decode cL_crashes 287 = .ok (.goto 4, 3) := by decide +kernel
theorem dL_crashes_290 : decode cL_crashes 290 = .ok (.iconst 0, 1) := by decide +kernel
theorem dL_crashes_291 : decode cL_crashes 291 = .ok (.ireturn, 1) := by decide +kernel

abbrev rm_L_crashes : Room := ({ frames := 7, cells := 0, slots := 0, locals := 254 } : Room)
theorem ok_L_crashes : gOk yL_crashes RL 1 := by refine ⟨?_, ?_, ?_, ?_⟩ <;> decide +kernel
def f_L_crashes_L13 (D : Nat → Nat → Nat → Int32) (sav : Int32) (old : Int32) (hsz : Int32) (cs : Nat → Int32) (len : Int32) (g : Nat → Int32) (v1 : Int64) (v4 : Int32) : Nat → Int32 → Int32 → Option (Int32 × Int32)
  | 0, _, _ => none
  | fu + 1, v3, v5 => if 8 ≤ v5 then some (v3, v5) else gb (f_X5_file D sav old hsz cs len g v5 0) (fun r17 => if 0 ≤ r17 then gb (f_X5_file D sav old hsz cs len g v5 0) (fun r25 => gb (f_X5_file D sav old hsz cs len g v5 2) (fun r26 => glet (v3 + (r25 - r26)) (fun x27 => glet (v5 + 1) (fun x28 => f_L_crashes_L13 D sav old hsz cs len g v1 v4 fu x27 x28)))) else glet (v3 + 0) (fun x29 => glet (v5 + 1) (fun x30 => f_L_crashes_L13 D sav old hsz cs len g v1 v4 fu x29 x30)))
def f_L_crashes_L147 (D : Nat → Nat → Nat → Int32) (sav : Int32) (old : Int32) (hsz : Int32) (cs : Nat → Int32) (len : Int32) (g : Nat → Int32) (v1 : Int64) (v3 : Int32) (v4 : Int32) (v5 : Int32) (v6 : Int32) (v7 : Int32) : Nat → Int32 → Option Int32
  | 0, _ => none
  | fu + 1, v9 => if 8 ≤ v9 then some v9 else gb (f_X5_file D sav old hsz cs len g v9 0) (fun r57 => gb (f_X5_file D sav old hsz cs len g v9 2) (fun r58 => if r57 = r58 then glet (v9 + 1) (fun x60 => f_L_crashes_L147 D sav old hsz cs len g v1 v3 v4 v5 v6 v7 fu x60) else none))
def f_L_crashes (D : Nat → Nat → Nat → Int32) (sav : Int32) (old : Int32) (hsz : Int32) (cs : Nat → Int32) (len : Int32) (g : Nat → Int32) : Option (Int32 × (Nat → Nat → Nat → Int32) × Int32 × Int32) := gb (f_L_print D sav old hsz cs len g) (fun r1 => gbb2 (f_L_crashes_L13 D sav old hsz cs len g r1 0 gFu 0 0) (fun o31 o32 => gb (f_X5_count D sav old hsz cs len g 2) (fun r33 => gb (f_X5_total D sav old hsz cs len g 3) (fun r34 => gb (f_X5_total D sav old hsz cs len g 1) (fun r35 => gbb4 (f_X5_crash D sav old hsz cs len g) (fun r36 D37 old38 hsz39 => if r36 = o31 then gb (f_X5_count D37 sav old38 hsz39 cs len g 1) (fun r41 => if r41 = 0 then gb (f_X5_count D37 sav old38 hsz39 cs len g 2) (fun r43 => if r43 = r33 then gb (f_X5_total D37 sav old38 hsz39 cs len g 3) (fun r45 => if r45 = (r34 + o31) then gb (f_X5_count D37 sav old38 hsz39 cs len g 5) (fun r47 => gb (f_X5_count D37 sav old38 hsz39 cs len g 4) (fun r48 => if r47 = r48 then gb (f_L_hangs D37 sav old38 hsz39 cs len g) (fun r50 => if r50 = 0 then none else gb (f_L_crashes_L147 D37 sav old38 hsz39 cs len g r1 o31 0 r33 r34 r35 gFu 0) (fun o61 => gb (f_X5_count D37 sav old38 hsz39 cs len g 4) (fun r62 => gbb4 (f_X5_mend D37 sav old38 hsz39 cs len g) (fun r63 D64 old65 hsz66 => if r63 = r62 then gb (f_X5_count D64 sav old65 hsz66 cs len g 4) (fun r68 => if r68 = 0 then gb (f_X5_count D64 sav old65 hsz66 cs len g 2) (fun r70 => if r70 = (r33 + r62) then gb (f_X5_total D64 sav old65 hsz66 cs len g 1) (fun r72 => if r72 = (r35 + r62) then gb (f_L_hangs D64 sav old65 hsz66 cs len g) (fun r74 => if r74 = 0 then none else gbb3 (f_X5_undo D64 sav old65 hsz66 cs len g) (fun r76 D77 hsz78 => if r76 < 0 then none else gbb3 (f_X5_undo D77 sav old65 hsz78 cs len g) (fun r80 D81 hsz82 => if r80 < 0 then none else gb (f_L_print D81 sav old65 hsz82 cs len g) (fun r84 => if (lg_cmp r84 r1) = 0 then some (1, D81, old65, hsz82) else none)))) else none) else none) else none) else none)))) else none)) else none) else none) else none) else none))))))
set_option maxHeartbeats 8000000 in
set_option maxRecDepth 100000 in
theorem cl_L_crashes_L13 {X : gX} {Z : gZ} {ad : Nat → Nat} {D : Nat → Nat → Nat → Int32} {sav : Int32} {old : Int32} {hsz : Int32} {cs : Nat → Int32} {len : Int32} {g : Nat → Int32} {v1 : Int64} {v4 : Int32} {o3 : Int32} {o5 : Int32} (C : GC X Z cL_crashes 10 wsL_crashes RL rm_L_crashes 175 ad) (kk : GG X Z 10 175 ad (xE Z.2.1 Z.2.2 ad D sav old hsz cs len g) 58 [(0, .ref (ad 168)), (1, .long v1), (3, .int o3), (4, .int v4), (5, .int o5)] []) : ∀ (fu : Nat) (v3 : Int32) (v5 : Int32) (h : f_L_crashes_L13 D sav old hsz cs len g v1 v4 fu v3 v5 = some (o3, o5)), GG X Z 10 175 ad (xE Z.2.1 Z.2.2 ad D sav old hsz cs len g) 13 [(0, .ref (ad 168)), (1, .long v1), (3, .int v3), (4, .int v4), (5, .int v5)] [] := by
  intro fu
  induction fu with
  | zero => intro v3 v5 h; cases h
  | succ fu ih =>
    intro v3 v5 h
    rw [f_L_crashes_L13] at h
    refine g_iload C dL_crashes_13 4 rfl ?_
    refine g_bipush (v := 8) C dL_crashes_15 (by decide) ?_
    refine g_icmp_ge (tgt := 58) C dL_crashes_17 (by decide) (fun c2 => ?_) (fun c2 => ?_)
    · replace h := gi_pos c2 h
      obtain ⟨rfl, rfl⟩ := gs2 h
      exact g_sub [0, 1, 2, 3, 4] rfl kk
    · replace h := gi_neg c2 h
      refine g_iload_n C dL_crashes_20 2 rfl ?_
      refine g_aload_n C dL_crashes_21 0 rfl ?_
      refine g_iload C dL_crashes_22 4 rfl ?_
      refine g_iconst (v := 0) C dL_crashes_24 (by decide) ?_
      obtain ⟨r17, er17, h⟩ := gb1 h
      refine g_callWi (rest := [.int v3]) C gL_crashes_X5_file rfl ok_X5_file ⟨by decide, by decide⟩ ⟨rfl, rfl⟩ 168 (by decide) rfl rfl (fun hI => cn_X5_file X.2.1 Z ad hI D sav old hsz cs len g v5 0 er17) rfl dL_crashes_25 rfl (Nat.le_of_ble_eq_true rfl) ?_
      refine g_if_ge (tgt := 35) C dL_crashes_28 (by decide) (fun c18 => ?_) (fun c18 => ?_)
      · replace h := gi_pos c18 h
        refine g_aload_n C dL_crashes_35 0 rfl ?_
        refine g_iload C dL_crashes_36 4 rfl ?_
        refine g_iconst (v := 0) C dL_crashes_38 (by decide) ?_
        obtain ⟨r25, er25, h⟩ := gb1 h
        refine g_callWi (rest := [.int v3]) C gL_crashes_X5_file rfl ok_X5_file ⟨by decide, by decide⟩ ⟨rfl, rfl⟩ 168 (by decide) rfl rfl (fun hI => cn_X5_file X.2.1 Z ad hI D sav old hsz cs len g v5 0 er25) rfl dL_crashes_39 rfl (Nat.le_of_ble_eq_true rfl) ?_
        refine g_aload_n C dL_crashes_42 0 rfl ?_
        refine g_iload C dL_crashes_43 4 rfl ?_
        refine g_iconst (v := 2) C dL_crashes_45 (by decide) ?_
        obtain ⟨r26, er26, h⟩ := gb1 h
        refine g_callWi (rest := [.int r25, .int v3]) C gL_crashes_X5_file rfl ok_X5_file ⟨by decide, by decide⟩ ⟨rfl, rfl⟩ 168 (by decide) rfl rfl (fun hI => cn_X5_file X.2.1 Z ad hI D sav old hsz cs len g v5 2 er26) rfl dL_crashes_46 rfl (Nat.le_of_ble_eq_true rfl) ?_
        refine g_isub C dL_crashes_49 ?_
        refine g_iadd C dL_crashes_50 ?_
        obtain ⟨x27, ex27, h⟩ := gl h
        refine g_istore_n C dL_crashes_51 (by decide) [(3, .int x27), (0, .ref (ad 168)), (1, .long v1), (4, .int v4), (5, .int v5)] (by rw [ex27]; rfl) ?_
        obtain ⟨x28, ex28, h⟩ := gl h
        refine g_iinc (v := x28) C dL_crashes_52 4 rfl (by rw [ex28]; rfl) (by decide) [(5, .int x28), (3, .int x27), (0, .ref (ad 168)), (1, .long v1), (4, .int v4)] rfl ?_
        refine g_goto (tgt := 13) C dL_crashes_55 (by decide) ?_
        exact g_sub [2, 3, 1, 4, 0] rfl (ih x27 x28 h)
      · replace h := gi_neg c18 h
        refine g_iconst (v := 0) C dL_crashes_31 (by decide) ?_
        refine g_goto (tgt := 50) C dL_crashes_32 (by decide) ?_
        refine g_iadd C dL_crashes_50 ?_
        obtain ⟨x29, ex29, h⟩ := gl h
        refine g_istore_n C dL_crashes_51 (by decide) [(3, .int x29), (0, .ref (ad 168)), (1, .long v1), (4, .int v4), (5, .int v5)] (by rw [ex29]; rfl) ?_
        obtain ⟨x30, ex30, h⟩ := gl h
        refine g_iinc (v := x30) C dL_crashes_52 4 rfl (by rw [ex30]; rfl) (by decide) [(5, .int x30), (3, .int x29), (0, .ref (ad 168)), (1, .long v1), (4, .int v4)] rfl ?_
        refine g_goto (tgt := 13) C dL_crashes_55 (by decide) ?_
        exact g_sub [2, 3, 1, 4, 0] rfl (ih x29 x30 h)
set_option maxHeartbeats 8000000 in
set_option maxRecDepth 100000 in
theorem cl_L_crashes_L147 {X : gX} {Z : gZ} {ad : Nat → Nat} {D : Nat → Nat → Nat → Int32} {sav : Int32} {old : Int32} {hsz : Int32} {cs : Nat → Int32} {len : Int32} {g : Nat → Int32} {v1 : Int64} {v3 : Int32} {v4 : Int32} {v5 : Int32} {v6 : Int32} {v7 : Int32} {o9 : Int32} (C : GC X Z cL_crashes 10 wsL_crashes RL rm_L_crashes 175 ad) (kk : GG X Z 10 175 ad (xE Z.2.1 Z.2.2 ad D sav old hsz cs len g) 189 [(0, .ref (ad 168)), (1, .long v1), (3, .int v3), (4, .int v4), (5, .int v5), (6, .int v6), (7, .int v7), (8, .int 1), (9, .int o9)] []) : ∀ (fu : Nat) (v9 : Int32) (h : f_L_crashes_L147 D sav old hsz cs len g v1 v3 v4 v5 v6 v7 fu v9 = some o9), GG X Z 10 175 ad (xE Z.2.1 Z.2.2 ad D sav old hsz cs len g) 147 [(0, .ref (ad 168)), (1, .long v1), (3, .int v3), (4, .int v4), (5, .int v5), (6, .int v6), (7, .int v7), (8, .int 1), (9, .int v9)] [] := by
  intro fu
  induction fu with
  | zero => intro v9 h; cases h
  | succ fu ih =>
    intro v9 h
    rw [f_L_crashes_L147] at h
    refine g_iload C dL_crashes_147 8 rfl ?_
    refine g_bipush (v := 8) C dL_crashes_149 (by decide) ?_
    refine g_icmp_ge (tgt := 189) C dL_crashes_151 (by decide) (fun c52 => ?_) (fun c52 => ?_)
    · replace h := gi_pos c52 h
      obtain rfl := gs1 h
      exact g_sub [0, 1, 2, 3, 4, 5, 6, 7, 8] rfl kk
    · replace h := gi_neg c52 h
      refine g_iload C dL_crashes_154 7 rfl ?_
      refine g_if_eq (tgt := 180) C dL_crashes_156 (by decide) (fun hc => absurd hc (by decide)) (fun _ => ?_)
      refine g_aload_n C dL_crashes_159 0 rfl ?_
      refine g_iload C dL_crashes_160 8 rfl ?_
      refine g_iconst (v := 0) C dL_crashes_162 (by decide) ?_
      obtain ⟨r57, er57, h⟩ := gb1 h
      refine g_callWi (rest := []) C gL_crashes_X5_file rfl ok_X5_file ⟨by decide, by decide⟩ ⟨rfl, rfl⟩ 168 (by decide) rfl rfl (fun hI => cn_X5_file X.2.1 Z ad hI D sav old hsz cs len g v9 0 er57) rfl dL_crashes_163 rfl (Nat.le_of_ble_eq_true rfl) ?_
      refine g_aload_n C dL_crashes_166 0 rfl ?_
      refine g_iload C dL_crashes_167 8 rfl ?_
      refine g_iconst (v := 2) C dL_crashes_169 (by decide) ?_
      obtain ⟨r58, er58, h⟩ := gb1 h
      refine g_callWi (rest := [.int r57]) C gL_crashes_X5_file rfl ok_X5_file ⟨by decide, by decide⟩ ⟨rfl, rfl⟩ 168 (by decide) rfl rfl (fun hI => cn_X5_file X.2.1 Z ad hI D sav old hsz cs len g v9 2 er58) rfl dL_crashes_170 rfl (Nat.le_of_ble_eq_true rfl) ?_
      obtain ⟨c59, h⟩ := gguard h
      refine g_icmp_ne (tgt := 180) C dL_crashes_173 (by decide) (fun hc => absurd c59 hc) (fun _ => ?_)
      refine g_iconst (v := 1) C dL_crashes_176 (by decide) ?_
      refine g_goto (tgt := 181) C dL_crashes_177 (by decide) ?_
      refine g_istore C dL_crashes_181 (by decide) [(8, .int 1), (0, .ref (ad 168)), (1, .long v1), (3, .int v3), (4, .int v4), (5, .int v5), (6, .int v6), (7, .int v7), (9, .int v9)] rfl ?_
      obtain ⟨x60, ex60, h⟩ := gl h
      refine g_iinc (v := x60) C dL_crashes_183 8 rfl (by rw [ex60]; rfl) (by decide) [(9, .int x60), (8, .int 1), (0, .ref (ad 168)), (1, .long v1), (3, .int v3), (4, .int v4), (5, .int v5), (6, .int v6), (7, .int v7)] rfl ?_
      refine g_goto (tgt := 147) C dL_crashes_186 (by decide) ?_
      exact g_sub [2, 3, 4, 5, 6, 7, 8, 1, 0] rfl (ih x60 h)
set_option maxHeartbeats 8000000 in
set_option maxRecDepth 100000 in
theorem cn_L_crashes (l : Launch) (Z : gZ) (ad : Nat → Nat) (hI : gInj 175 ad) (D : Nat → Nat → Nat → Int32) (sav : Int32) (old : Int32) (hsz : Int32) (cs : Nat → Int32) (len : Int32) (g : Nat → Int32) {r : Int32} {D' : Nat → Nat → Nat → Int32} {old' : Int32} {hsz' : Int32} (h : f_L_crashes D sav old hsz cs len g = some (r, D', old', hsz')) : gI l yL_crashes wsL_crashes rm_L_crashes Z 175 ad [.ref (ad 168)] (xE Z.2.1 Z.2.2 ad D sav old hsz cs len g) r (xE Z.2.1 Z.2.2 ad D' sav old' hsz' cs len g) := by
  refine g_entryI (cc := cL_crashes) (maxL := 10) (by decide +kernel) rfl hI (Nat.le_of_ble_eq_true rfl) (fun X C e => ?_)
  unfold f_L_crashes at h
  show GG X Z 10 175 ad (xE Z.2.1 Z.2.2 ad D sav old hsz cs len g) 0 [(0, .ref (ad 168))] []
  refine g_aload_n C dL_crashes_0 0 rfl ?_
  obtain ⟨r1, er1, h⟩ := gb1 h
  refine g_callTj (rest := []) C gL_crashes_L_print rfl ok_L_print ⟨by decide, by decide⟩ ⟨rfl, rfl⟩ (fun hI => cn_L_print X.2.1 Z ad hI D sav old hsz cs len g er1) rfl dL_crashes_1 rfl (Nat.le_of_ble_eq_true rfl) ?_
  refine g_lstore_n C dL_crashes_4 (by decide) [(1, .long r1), (0, .ref (ad 168))] rfl ?_
  refine g_iconst (v := 0) C dL_crashes_5 (by decide) ?_
  refine g_istore_n C dL_crashes_6 (by decide) [(3, .int 0), (1, .long r1), (0, .ref (ad 168))] rfl ?_
  refine g_iconst (v := 0) C dL_crashes_7 (by decide) ?_
  refine g_istore C dL_crashes_8 (by decide) [(4, .int 0), (3, .int 0), (1, .long r1), (0, .ref (ad 168))] rfl ?_
  refine g_iconst (v := 0) C dL_crashes_10 (by decide) ?_
  refine g_istore C dL_crashes_11 (by decide) [(5, .int 0), (4, .int 0), (3, .int 0), (1, .long r1), (0, .ref (ad 168))] rfl ?_
  obtain ⟨o31, o32, eo31, h⟩ := gb2 h
  refine g_sub [4, 3, 2, 1, 0] rfl (cl_L_crashes_L13 C ?_ gFu 0 0 eo31)
  refine g_aload_n C dL_crashes_58 0 rfl ?_
  refine g_iconst (v := 2) C dL_crashes_59 (by decide) ?_
  obtain ⟨r33, er33, h⟩ := gb1 h
  refine g_callWi (rest := []) C gL_crashes_X5_count rfl ok_X5_count ⟨by decide, by decide⟩ ⟨rfl, rfl⟩ 168 (by decide) rfl rfl (fun hI => cn_X5_count X.2.1 Z ad hI D sav old hsz cs len g 2 er33) rfl dL_crashes_60 rfl (Nat.le_of_ble_eq_true rfl) ?_
  refine g_istore C dL_crashes_63 (by decide) [(5, .int r33), (0, .ref (ad 168)), (1, .long r1), (3, .int o31), (4, .int 0)] rfl ?_
  refine g_aload_n C dL_crashes_65 1 rfl ?_
  refine g_iconst (v := 3) C dL_crashes_66 (by decide) ?_
  obtain ⟨r34, er34, h⟩ := gb1 h
  refine g_callWi (rest := []) C gL_crashes_X5_total rfl ok_X5_total ⟨by decide, by decide⟩ ⟨rfl, rfl⟩ 168 (by decide) rfl rfl (fun hI => cn_X5_total X.2.1 Z ad hI D sav old hsz cs len g 3 er34) rfl dL_crashes_67 rfl (Nat.le_of_ble_eq_true rfl) ?_
  refine g_istore C dL_crashes_70 (by decide) [(6, .int r34), (5, .int r33), (0, .ref (ad 168)), (1, .long r1), (3, .int o31), (4, .int 0)] rfl ?_
  refine g_aload_n C dL_crashes_72 2 rfl ?_
  refine g_iconst (v := 1) C dL_crashes_73 (by decide) ?_
  obtain ⟨r35, er35, h⟩ := gb1 h
  refine g_callWi (rest := []) C gL_crashes_X5_total rfl ok_X5_total ⟨by decide, by decide⟩ ⟨rfl, rfl⟩ 168 (by decide) rfl rfl (fun hI => cn_X5_total X.2.1 Z ad hI D sav old hsz cs len g 1 er35) rfl dL_crashes_74 rfl (Nat.le_of_ble_eq_true rfl) ?_
  refine g_istore C dL_crashes_77 (by decide) [(7, .int r35), (6, .int r34), (5, .int r33), (0, .ref (ad 168)), (1, .long r1), (3, .int o31), (4, .int 0)] rfl ?_
  refine g_aload_n C dL_crashes_79 3 rfl ?_
  obtain ⟨r36, D37, old38, hsz39, er36, h⟩ := gb4 h
  refine g_callWi (rest := []) C gL_crashes_X5_crash rfl ok_X5_crash ⟨by decide, by decide⟩ ⟨rfl, rfl⟩ 168 (by decide) rfl rfl (fun hI => cn_X5_crash X.2.1 Z ad hI D sav old hsz cs len g er36) rfl dL_crashes_80 rfl (Nat.le_of_ble_eq_true rfl) ?_
  refine g_iload_n C dL_crashes_83 5 rfl ?_
  obtain ⟨c40, h⟩ := gguard h
  refine g_icmp_ne (tgt := 141) C dL_crashes_84 (by decide) (fun hc => absurd c40 hc) (fun _ => ?_)
  refine g_aload_n C dL_crashes_87 3 rfl ?_
  refine g_iconst (v := 1) C dL_crashes_88 (by decide) ?_
  obtain ⟨r41, er41, h⟩ := gb1 h
  refine g_callWi (rest := []) C gL_crashes_X5_count rfl ok_X5_count ⟨by decide, by decide⟩ ⟨rfl, rfl⟩ 168 (by decide) rfl rfl (fun hI => cn_X5_count X.2.1 Z ad hI D37 sav old38 hsz39 cs len g 1 er41) rfl dL_crashes_89 rfl (Nat.le_of_ble_eq_true rfl) ?_
  obtain ⟨c42, h⟩ := gguard h
  refine g_if_ne (tgt := 141) C dL_crashes_92 (by decide) (fun hc => absurd c42 hc) (fun _ => ?_)
  refine g_aload_n C dL_crashes_95 3 rfl ?_
  refine g_iconst (v := 2) C dL_crashes_96 (by decide) ?_
  obtain ⟨r43, er43, h⟩ := gb1 h
  refine g_callWi (rest := []) C gL_crashes_X5_count rfl ok_X5_count ⟨by decide, by decide⟩ ⟨rfl, rfl⟩ 168 (by decide) rfl rfl (fun hI => cn_X5_count X.2.1 Z ad hI D37 sav old38 hsz39 cs len g 2 er43) rfl dL_crashes_97 rfl (Nat.le_of_ble_eq_true rfl) ?_
  refine g_iload C dL_crashes_100 2 rfl ?_
  obtain ⟨c44, h⟩ := gguard h
  refine g_icmp_ne (tgt := 141) C dL_crashes_102 (by decide) (fun hc => absurd c44 hc) (fun _ => ?_)
  refine g_aload_n C dL_crashes_105 3 rfl ?_
  refine g_iconst (v := 3) C dL_crashes_106 (by decide) ?_
  obtain ⟨r45, er45, h⟩ := gb1 h
  refine g_callWi (rest := []) C gL_crashes_X5_total rfl ok_X5_total ⟨by decide, by decide⟩ ⟨rfl, rfl⟩ 168 (by decide) rfl rfl (fun hI => cn_X5_total X.2.1 Z ad hI D37 sav old38 hsz39 cs len g 3 er45) rfl dL_crashes_107 rfl (Nat.le_of_ble_eq_true rfl) ?_
  refine g_iload C dL_crashes_110 1 rfl ?_
  refine g_iload_n C dL_crashes_112 5 rfl ?_
  refine g_iadd C dL_crashes_113 ?_
  obtain ⟨c46, h⟩ := gguard h
  refine g_icmp_ne (tgt := 141) C dL_crashes_114 (by decide) (fun hc => absurd c46 hc) (fun _ => ?_)
  refine g_aload_n C dL_crashes_117 3 rfl ?_
  refine g_iconst (v := 5) C dL_crashes_118 (by decide) ?_
  obtain ⟨r47, er47, h⟩ := gb1 h
  refine g_callWi (rest := []) C gL_crashes_X5_count rfl ok_X5_count ⟨by decide, by decide⟩ ⟨rfl, rfl⟩ 168 (by decide) rfl rfl (fun hI => cn_X5_count X.2.1 Z ad hI D37 sav old38 hsz39 cs len g 5 er47) rfl dL_crashes_119 rfl (Nat.le_of_ble_eq_true rfl) ?_
  refine g_aload_n C dL_crashes_122 3 rfl ?_
  refine g_iconst (v := 4) C dL_crashes_123 (by decide) ?_
  obtain ⟨r48, er48, h⟩ := gb1 h
  refine g_callWi (rest := [.int r47]) C gL_crashes_X5_count rfl ok_X5_count ⟨by decide, by decide⟩ ⟨rfl, rfl⟩ 168 (by decide) rfl rfl (fun hI => cn_X5_count X.2.1 Z ad hI D37 sav old38 hsz39 cs len g 4 er48) rfl dL_crashes_124 rfl (Nat.le_of_ble_eq_true rfl) ?_
  obtain ⟨c49, h⟩ := gguard h
  refine g_icmp_ne (tgt := 141) C dL_crashes_127 (by decide) (fun hc => absurd c49 hc) (fun _ => ?_)
  refine g_aload_n C dL_crashes_130 3 rfl ?_
  obtain ⟨r50, er50, h⟩ := gb1 h
  refine g_callTi (rest := []) C gL_crashes_L_hangs rfl ok_L_hangs ⟨by decide, by decide⟩ ⟨rfl, rfl⟩ (fun hI => cn_L_hangs X.2.1 Z ad hI D37 sav old38 hsz39 cs len g er50) rfl dL_crashes_131 rfl (Nat.le_of_ble_eq_true rfl) ?_
  obtain ⟨c51, h⟩ := gnz h
  refine g_if_eq (tgt := 141) C dL_crashes_134 (by decide) (fun hc => absurd hc c51) (fun _ => ?_)
  refine g_iconst (v := 1) C dL_crashes_137 (by decide) ?_
  refine g_goto (tgt := 142) C dL_crashes_138 (by decide) ?_
  refine g_istore C dL_crashes_142 (by decide) [(8, .int 1), (7, .int r35), (6, .int r34), (5, .int r33), (0, .ref (ad 168)), (1, .long r1), (3, .int o31), (4, .int 0)] rfl ?_
  refine g_iconst (v := 0) C dL_crashes_144 (by decide) ?_
  refine g_istore C dL_crashes_145 (by decide) [(9, .int 0), (8, .int 1), (7, .int r35), (6, .int r34), (5, .int r33), (0, .ref (ad 168)), (1, .long r1), (3, .int o31), (4, .int 0)] rfl ?_
  obtain ⟨o61, eo61, h⟩ := gb1 h
  refine g_sub [5, 6, 7, 8, 4, 3, 2, 1, 0] rfl (cl_L_crashes_L147 C ?_ gFu 0 eo61)
  refine g_aload_n C dL_crashes_189 0 rfl ?_
  refine g_iconst (v := 4) C dL_crashes_190 (by decide) ?_
  obtain ⟨r62, er62, h⟩ := gb1 h
  refine g_callWi (rest := []) C gL_crashes_X5_count rfl ok_X5_count ⟨by decide, by decide⟩ ⟨rfl, rfl⟩ 168 (by decide) rfl rfl (fun hI => cn_X5_count X.2.1 Z ad hI D37 sav old38 hsz39 cs len g 4 er62) rfl dL_crashes_191 rfl (Nat.le_of_ble_eq_true rfl) ?_
  refine g_istore C dL_crashes_194 (by decide) [(9, .int r62), (0, .ref (ad 168)), (1, .long r1), (3, .int o31), (4, .int 0), (5, .int r33), (6, .int r34), (7, .int r35), (8, .int 1)] rfl ?_
  refine g_iload C dL_crashes_196 8 rfl ?_
  refine g_if_eq (tgt := 255) C dL_crashes_198 (by decide) (fun hc => absurd hc (by decide)) (fun _ => ?_)
  refine g_aload_n C dL_crashes_201 1 rfl ?_
  obtain ⟨r63, D64, old65, hsz66, er63, h⟩ := gb4 h
  refine g_callWi (rest := []) C gL_crashes_X5_mend rfl ok_X5_mend ⟨by decide, by decide⟩ ⟨rfl, rfl⟩ 168 (by decide) rfl rfl (fun hI => cn_X5_mend X.2.1 Z ad hI D37 sav old38 hsz39 cs len g er63) rfl dL_crashes_202 rfl (Nat.le_of_ble_eq_true rfl) ?_
  refine g_iload C dL_crashes_205 0 rfl ?_
  obtain ⟨c67, h⟩ := gguard h
  refine g_icmp_ne (tgt := 255) C dL_crashes_207 (by decide) (fun hc => absurd c67 hc) (fun _ => ?_)
  refine g_aload_n C dL_crashes_210 1 rfl ?_
  refine g_iconst (v := 4) C dL_crashes_211 (by decide) ?_
  obtain ⟨r68, er68, h⟩ := gb1 h
  refine g_callWi (rest := []) C gL_crashes_X5_count rfl ok_X5_count ⟨by decide, by decide⟩ ⟨rfl, rfl⟩ 168 (by decide) rfl rfl (fun hI => cn_X5_count X.2.1 Z ad hI D64 sav old65 hsz66 cs len g 4 er68) rfl dL_crashes_212 rfl (Nat.le_of_ble_eq_true rfl) ?_
  obtain ⟨c69, h⟩ := gguard h
  refine g_if_ne (tgt := 255) C dL_crashes_215 (by decide) (fun hc => absurd c69 hc) (fun _ => ?_)
  refine g_aload_n C dL_crashes_218 1 rfl ?_
  refine g_iconst (v := 2) C dL_crashes_219 (by decide) ?_
  obtain ⟨r70, er70, h⟩ := gb1 h
  refine g_callWi (rest := []) C gL_crashes_X5_count rfl ok_X5_count ⟨by decide, by decide⟩ ⟨rfl, rfl⟩ 168 (by decide) rfl rfl (fun hI => cn_X5_count X.2.1 Z ad hI D64 sav old65 hsz66 cs len g 2 er70) rfl dL_crashes_220 rfl (Nat.le_of_ble_eq_true rfl) ?_
  refine g_iload C dL_crashes_223 5 rfl ?_
  refine g_iload C dL_crashes_225 0 rfl ?_
  refine g_iadd C dL_crashes_227 ?_
  obtain ⟨c71, h⟩ := gguard h
  refine g_icmp_ne (tgt := 255) C dL_crashes_228 (by decide) (fun hc => absurd c71 hc) (fun _ => ?_)
  refine g_aload_n C dL_crashes_231 1 rfl ?_
  refine g_iconst (v := 1) C dL_crashes_232 (by decide) ?_
  obtain ⟨r72, er72, h⟩ := gb1 h
  refine g_callWi (rest := []) C gL_crashes_X5_total rfl ok_X5_total ⟨by decide, by decide⟩ ⟨rfl, rfl⟩ 168 (by decide) rfl rfl (fun hI => cn_X5_total X.2.1 Z ad hI D64 sav old65 hsz66 cs len g 1 er72) rfl dL_crashes_233 rfl (Nat.le_of_ble_eq_true rfl) ?_
  refine g_iload C dL_crashes_236 7 rfl ?_
  refine g_iload C dL_crashes_238 0 rfl ?_
  refine g_iadd C dL_crashes_240 ?_
  obtain ⟨c73, h⟩ := gguard h
  refine g_icmp_ne (tgt := 255) C dL_crashes_241 (by decide) (fun hc => absurd c73 hc) (fun _ => ?_)
  refine g_aload_n C dL_crashes_244 1 rfl ?_
  obtain ⟨r74, er74, h⟩ := gb1 h
  refine g_callTi (rest := []) C gL_crashes_L_hangs rfl ok_L_hangs ⟨by decide, by decide⟩ ⟨rfl, rfl⟩ (fun hI => cn_L_hangs X.2.1 Z ad hI D64 sav old65 hsz66 cs len g er74) rfl dL_crashes_245 rfl (Nat.le_of_ble_eq_true rfl) ?_
  obtain ⟨c75, h⟩ := gnz h
  refine g_if_eq (tgt := 255) C dL_crashes_248 (by decide) (fun hc => absurd hc c75) (fun _ => ?_)
  refine g_iconst (v := 1) C dL_crashes_251 (by decide) ?_
  refine g_goto (tgt := 256) C dL_crashes_252 (by decide) ?_
  refine g_istore C dL_crashes_256 (by decide) [(8, .int 1), (9, .int r62), (0, .ref (ad 168)), (1, .long r1), (3, .int o31), (4, .int 0), (5, .int r33), (6, .int r34), (7, .int r35)] rfl ?_
  refine g_iload C dL_crashes_258 0 rfl ?_
  refine g_if_eq (tgt := 290) C dL_crashes_260 (by decide) (fun hc => absurd hc (by decide)) (fun _ => ?_)
  refine g_aload_n C dL_crashes_263 2 rfl ?_
  obtain ⟨r76, D77, hsz78, er76, h⟩ := gb3 h
  refine g_callWi (rest := []) C gL_crashes_X5_undo rfl ok_X5_undo ⟨by decide, by decide⟩ ⟨rfl, rfl⟩ 168 (by decide) rfl rfl (fun hI => cn_X5_undo X.2.1 Z ad hI D64 sav old65 hsz66 cs len g er76) rfl dL_crashes_264 rfl (Nat.le_of_ble_eq_true rfl) ?_
  obtain ⟨c79, h⟩ := gnz h
  refine g_if_lt (tgt := 290) C dL_crashes_267 (by decide) (fun hc => absurd hc c79) (fun _ => ?_)
  refine g_aload_n C dL_crashes_270 2 rfl ?_
  obtain ⟨r80, D81, hsz82, er80, h⟩ := gb3 h
  refine g_callWi (rest := []) C gL_crashes_X5_undo rfl ok_X5_undo ⟨by decide, by decide⟩ ⟨rfl, rfl⟩ 168 (by decide) rfl rfl (fun hI => cn_X5_undo X.2.1 Z ad hI D77 sav old65 hsz78 cs len g er80) rfl dL_crashes_271 rfl (Nat.le_of_ble_eq_true rfl) ?_
  obtain ⟨c83, h⟩ := gnz h
  refine g_if_lt (tgt := 290) C dL_crashes_274 (by decide) (fun hc => absurd hc c83) (fun _ => ?_)
  refine g_aload_n C dL_crashes_277 2 rfl ?_
  obtain ⟨r84, er84, h⟩ := gb1 h
  refine g_callTj (rest := []) C gL_crashes_L_print rfl ok_L_print ⟨by decide, by decide⟩ ⟨rfl, rfl⟩ (fun hI => cn_L_print X.2.1 Z ad hI D81 sav old65 hsz82 cs len g er84) rfl dL_crashes_278 rfl (Nat.le_of_ble_eq_true rfl) ?_
  refine g_lload_n C dL_crashes_281 3 rfl ?_
  refine g_lcmp C dL_crashes_282 ?_
  obtain ⟨c85, h⟩ := gguard h
  refine g_if_ne (tgt := 290) C dL_crashes_283 (by decide) (fun hc => absurd c85 hc) (fun _ => ?_)
  refine g_iconst (v := 1) C dL_crashes_286 (by decide) ?_
  refine g_goto (tgt := 291) C dL_crashes_287 (by decide) ?_
  obtain ⟨rfl, rfl, rfl, rfl⟩ := gs4 h
  exact g_zret C e rfl dL_crashes_291
