theorem m_55_14 : Cond.constant RX12 465 (65535) ∈ wsL_law := ch_55 _ (List.mem_of_getElem? (i := 14) rfl)
theorem m_55_18 : Cond.methodLink RX12 467 yX12_mayGo ∈ wsL_law := ch_55 _ (List.mem_of_getElem? (i := 18) rfl)
theorem m_55_19 : Cond.instanceMethod yX12_mayGo ∈ wsL_law := ch_55 _ (List.mem_of_getElem? (i := 19) rfl)
theorem m_55_20 : Cond.selects RX12 yX12_mayGo yX12_mayGo ∈ wsL_law := ch_55 _ (List.mem_of_getElem? (i := 20) rfl)
theorem m_55_21 : Cond.code yX12_mayGo cX12_mayGo 6 (some .boolean) ∈ wsL_law := ch_55 _ (List.mem_of_getElem? (i := 21) rfl)
theorem dX12_truck_0 : decode cX12_truck 0 = .ok (.aload_n 0, 1) := by decide +kernel
theorem dX12_truck_1 : decode cX12_truck 1 = .ok (.iconst 0, 1) := by decide +kernel
theorem dX12_truck_2 : decode cX12_truck 2 = .ok (.putfield 198, 3) := by decide +kernel
theorem dX12_truck_5 : decode cX12_truck 5 = .ok (.aload_n 0, 1) := by decide +kernel
theorem dX12_truck_6 : decode cX12_truck 6 = .ok (.invokevirtual 222, 3) := by decide +kernel
theorem dX12_truck_9 : decode cX12_truck 9 = .ok (.bipush 20, 2) := by decide +kernel
theorem dX12_truck_11 : decode cX12_truck 11 = .ok (.if_icmp .eq 5, 3) := by decide +kernel
theorem dX12_truck_14 : decode cX12_truck 14 = .ok (.iconst (-1), 1) := by decide +kernel
theorem dX12_truck_15 : decode cX12_truck 15 = .ok (.ireturn, 1) := by decide +kernel
theorem dX12_truck_16 : decode cX12_truck 16 = .ok (.aload_n 0, 1) := by decide +kernel
theorem dX12_truck_17 : decode cX12_truck 17 = .ok (.invokevirtual 250, 3) := by decide +kernel
theorem dX12_truck_20 : decode cX12_truck 20 = .ok (.iconst 0, 1) := by decide +kernel
theorem dX12_truck_21 : decode cX12_truck 21 = .ok (.istore_n 1, 1) := by decide +kernel
theorem dX12_truck_22 : decode cX12_truck 22 = .ok (.iconst 1, 1) := by decide +kernel
theorem dX12_truck_23 : decode cX12_truck 23 = .ok (.istore_n 2, 1) := by decide +kernel
theorem dX12_truck_24 : decode cX12_truck 24 = .ok (.iload_n 2, 1) := by decide +kernel
theorem dX12_truck_25 : decode cX12_truck 25 = .ok (.bipush 10, 2) := by decide +kernel
theorem dX12_truck_27 : decode cX12_truck 27 = .ok (.if_icmp .ge 63, 3) := by decide +kernel
theorem dX12_truck_30 : decode cX12_truck 30 = .ok (.aload_n 0, 1) := by decide +kernel
theorem dX12_truck_31 : decode cX12_truck 31 = .ok (.getfield 177, 3) := by decide +kernel
theorem dX12_truck_34 : decode cX12_truck 34 = .ok (.iload_n 2, 1) := by decide +kernel
theorem dX12_truck_35 : decode cX12_truck 35 = .ok (.sipush 256, 3) := by decide +kernel
theorem dX12_truck_38 : decode cX12_truck 38 = .ok (.aload_n 0, 1) := by decide +kernel
theorem dX12_truck_39 : decode cX12_truck 39 = .ok (.getfield 7, 3) := by decide +kernel
theorem dX12_truck_42 : decode cX12_truck 42 = .ok (.iconst 2, 1) := by decide +kernel
theorem dX12_truck_43 : decode cX12_truck 43 = .ok (.iload_n 2, 1) := by decide +kernel
theorem dX12_truck_44 : decode cX12_truck 44 = .ok (.imul, 1) := by decide +kernel
theorem dX12_truck_45 : decode cX12_truck 45 = .ok (.iaload, 1) := by decide +kernel
theorem dX12_truck_46 : decode cX12_truck 46 = .ok (.imul, 1) := by decide +kernel
theorem dX12_truck_47 : decode cX12_truck 47 = .ok (.aload_n 0, 1) := by decide +kernel
theorem dX12_truck_48 : decode cX12_truck 48 = .ok (.getfield 7, 3) := by decide +kernel
theorem dX12_truck_51 : decode cX12_truck 51 = .ok (.iconst 2, 1) := by decide +kernel
theorem dX12_truck_52 : decode cX12_truck 52 = .ok (.iload_n 2, 1) := by decide +kernel
theorem dX12_truck_53 : decode cX12_truck 53 = .ok (.imul, 1) := by decide +kernel
theorem dX12_truck_54 : decode cX12_truck 54 = .ok (.iconst 1, 1) := by decide +kernel
theorem dX12_truck_55 : decode cX12_truck 55 = .ok (.iadd, 1) := by decide +kernel
theorem dX12_truck_56 : decode cX12_truck 56 = .ok (.iaload, 1) := by decide +kernel
theorem dX12_truck_57 : decode cX12_truck 57 = .ok (.iadd, 1) := by decide +kernel
theorem dX12_truck_58 : decode cX12_truck 58 = .ok (.iastore, 1) := by decide +kernel
theorem dX12_truck_59 : decode cX12_truck 59 = .ok (.aload_n 0, 1) := by decide +kernel
theorem dX12_truck_60 : decode cX12_truck 60 = .ok (.getfield 177, 3) := by decide +kernel
theorem dX12_truck_63 : decode cX12_truck 63 = .ok (.iload_n 2, 1) := by decide +kernel
theorem dX12_truck_64 : decode cX12_truck 64 = .ok (.iaload, 1) := by decide +kernel
theorem dX12_truck_65 : decode cX12_truck 65 = .ok (.ldc_w 465, 3) := by decide +kernel
theorem dX12_truck_68 : decode cX12_truck 68 = .ok (.if_icmp .ne 6, 3) := by decide +kernel
theorem dX12_truck_71 : decode cX12_truck 71 = .ok (.goto 13, 3) := by decide +kernel
theorem dX12_truck_74 : decode cX12_truck 74 = .ok (.aload_n 0, 1) := by decide +kernel
theorem dX12_truck_75 : decode cX12_truck 75 = .ok (.getfield 180, 3) := by decide +kernel
theorem dX12_truck_78 : decode cX12_truck 78 = .ok (.iload_n 1, 1) := by decide +kernel
theorem dX12_truck_79 : decode cX12_truck 79 = .ok (.iload_n 2, 1) := by decide +kernel
theorem dX12_truck_80 : decode cX12_truck 80 = .ok (.iastore, 1) := by decide +kernel
theorem dX12_truck_81 : decode cX12_truck 81 = .ok (.iinc 1 1, 3) := by decide +kernel
theorem dX12_truck_84 : decode cX12_truck 84 = .ok (.iinc 2 1, 3) := by decide +kernel
theorem dX12_truck_87 : decode cX12_truck 87 = .ok (.goto (-63), 3) := by decide +kernel
theorem dX12_truck_90 : decode cX12_truck 90 = .ok (.iload_n 1, 1) := by decide +kernel
theorem dX12_truck_91 : decode cX12_truck 91 = .ok (.ifCond .ne 7, 3) := by decide +kernel
theorem dX12_truck_94 : decode cX12_truck 94 = .ok (.iconst 0, 1) := by decide +kernel
theorem dX12_truck_95 : decode cX12_truck 95 = .ok (.goto 6, 3) := by decide +kernel
theorem dX12_truck_98 : decode cX12_truck 98 = .ok (.ldc_w 466, 3) := by decide +kernel
theorem dX12_truck_101 : decode cX12_truck 101 = .ok (.istore_n 2, 1) := by decide +kernel
theorem dX12_truck_102 : decode cX12_truck 102 = .ok (.iconst 0, 1) := by decide +kernel
theorem dX12_truck_103 : decode cX12_truck 103 = .ok (.istore_n 3, 1) := by decide +kernel
theorem dX12_truck_104 : decode cX12_truck 104 = .ok (.iconst 0, 1) := by decide +kernel
theorem dX12_truck_105 : decode cX12_truck 105 = .ok (.istore 4, 2) := by decide +kernel
theorem dX12_truck_107 : decode cX12_truck 107 = .ok (.iload_n 1, 1) := by decide +kernel
theorem dX12_truck_108 : decode cX12_truck 108 = .ok (.ifCond .le 10, 3) := by decide +kernel
theorem dX12_truck_111 : decode cX12_truck 111 = .ok (.aload_n 0, 1) := by decide +kernel
theorem dX12_truck_112 : decode cX12_truck 112 = .ok (.getfield 186, 3) := by decide +kernel
theorem dX12_truck_115 : decode cX12_truck 115 = .ok (.iconst 0, 1) := by decide +kernel
theorem dX12_truck_116 : decode cX12_truck 116 = .ok (.iconst (-1), 1) := by decide +kernel
theorem dX12_truck_117 : decode cX12_truck 117 = .ok (.iastore, 1) := by decide +kernel
theorem dX12_truck_118 : decode cX12_truck 118 = .ok (.iload 4, 2) := by decide +kernel
theorem dX12_truck_120 : decode cX12_truck 120 = .ok (.ifCond .lt 177, 3) := by decide +kernel
theorem dX12_truck_123 : decode cX12_truck 123 = .ok (.iload_n 1, 1) := by decide +kernel
theorem dX12_truck_124 : decode cX12_truck 124 = .ok (.ifCond .le 173, 3) := by decide +kernel
theorem dX12_truck_127 : decode cX12_truck 127 = .ok (.aload_n 0, 1) := by decide +kernel
theorem dX12_truck_128 : decode cX12_truck 128 = .ok (.getfield 186, 3) := by decide +kernel
theorem dX12_truck_131 : decode cX12_truck 131 = .ok (.iload 4, 2) := by decide +kernel
theorem dX12_truck_133 : decode cX12_truck 133 = .ok (.iaload, 1) := by decide +kernel
theorem dX12_truck_134 : decode cX12_truck 134 = .ok (.ifCond .lt 17, 3) := by decide +kernel
theorem dX12_truck_137 : decode cX12_truck 137 = .ok (.iload_n 3, 1) := by decide +kernel
theorem dX12_truck_138 : decode cX12_truck 138 = .ok (.iconst 1, 1) := by decide +kernel
theorem dX12_truck_139 : decode cX12_truck 139 = .ok (.aload_n 0, 1) := by decide +kernel
theorem dX12_truck_140 : decode cX12_truck 140 = .ok (.getfield 186, 3) := by decide +kernel
theorem dX12_truck_143 : decode cX12_truck 143 = .ok (.iload 4, 2) := by decide +kernel
theorem dX12_truck_145 : decode cX12_truck 145 = .ok (.iaload, 1) := by decide +kernel
theorem dX12_truck_146 : decode cX12_truck 146 = .ok (.ishl, 1) := by decide +kernel
theorem dX12_truck_147 : decode cX12_truck 147 = .ok (.iconst (-1), 1) := by decide +kernel
theorem dX12_truck_148 : decode cX12_truck 148 = .ok (.ixor, 1) := by decide +kernel
theorem dX12_truck_149 : decode cX12_truck 149 = .ok (.iand, 1) := by decide +kernel
theorem dX12_truck_150 : decode cX12_truck 150 = .ok (.istore_n 3, 1) := by decide +kernel
theorem dX12_truck_151 : decode cX12_truck 151 = .ok (.aload_n 0, 1) := by decide +kernel
theorem dX12_truck_152 : decode cX12_truck 152 = .ok (.getfield 186, 3) := by decide +kernel
theorem dX12_truck_155 : decode cX12_truck 155 = .ok (.iload 4, 2) := by decide +kernel
theorem dX12_truck_157 : decode cX12_truck 157 = .ok (.iaload, 1) := by decide +kernel
theorem dX12_truck_158 : decode cX12_truck 158 = .ok (.iconst 1, 1) := by decide +kernel
theorem dX12_truck_159 : decode cX12_truck 159 = .ok (.iadd, 1) := by decide +kernel
theorem dX12_truck_160 : decode cX12_truck 160 = .ok (.istore 5, 2) := by decide +kernel
theorem dX12_truck_162 : decode cX12_truck 162 = .ok (.iload 5, 2) := by decide +kernel
theorem dX12_truck_164 : decode cX12_truck 164 = .ok (.iload_n 1, 1) := by decide +kernel
theorem dX12_truck_165 : decode cX12_truck 165 = .ok (.if_icmp .ge 22, 3) := by decide +kernel
theorem dX12_truck_168 : decode cX12_truck 168 = .ok (.aload_n 0, 1) := by decide +kernel
theorem dX12_truck_169 : decode cX12_truck 169 = .ok (.iload 4, 2) := by decide +kernel
theorem dX12_truck_171 : decode cX12_truck 171 = .ok (.iload 5, 2) := by decide +kernel
theorem dX12_truck_173 : decode cX12_truck 173 = .ok (.iload_n 3, 1) := by decide +kernel
theorem dX12_truck_174 : decode cX12_truck 174 = .ok (.iload_n 2, 1) := by decide +kernel
theorem dX12_truck_175 : decode cX12_truck 175 = .ok (.invokevirtual 467, 3) := by decide +kernel
theorem dX12_truck_178 : decode cX12_truck 178 = .ok (.ifCond .ne 9, 3) := by decide +kernel
theorem dX12_truck_181 : decode cX12_truck 181 = .ok (.iinc 5 1, 3) := by decide +kernel
theorem dX12_truck_184 : decode cX12_truck 184 = .ok (.goto (-22), 3) := by decide +kernel
theorem dX12_truck_187 : decode cX12_truck 187 = .ok (.iload 5, 2) := by decide +kernel
theorem dX12_truck_189 : decode cX12_truck 189 = .ok (.iload_n 1, 1) := by decide +kernel
theorem dX12_truck_190 : decode cX12_truck 190 = .ok (.if_icmp .ne 9, 3) := by decide +kernel
theorem dX12_truck_193 : decode cX12_truck 193 = .ok (.iinc 4 (-1), 3) := by decide +kernel
theorem dX12_truck_196 : decode cX12_truck 196 = .ok (.goto (-78), 3) := by decide +kernel
theorem dX12_truck_199 : decode cX12_truck 199 = .ok (.aload_n 0, 1) := by decide +kernel
theorem dX12_truck_200 : decode cX12_truck 200 = .ok (.getfield 186, 3) := by decide +kernel
theorem dX12_truck_203 : decode cX12_truck 203 = .ok (.iload 4, 2) := by decide +kernel
theorem dX12_truck_205 : decode cX12_truck 205 = .ok (.iload 5, 2) := by decide +kernel
theorem dX12_truck_207 : decode cX12_truck 207 = .ok (.iastore, 1) := by decide +kernel
theorem dX12_truck_208 : decode cX12_truck 208 = .ok (.aload_n 0, 1) := by decide +kernel
theorem dX12_truck_209 : decode cX12_truck 209 = .ok (.getfield 189, 3) := by decide +kernel
theorem dX12_truck_212 : decode cX12_truck 212 = .ok (.iload 4, 2) := by decide +kernel
theorem dX12_truck_214 : decode cX12_truck 214 = .ok (.aload_n 0, 1) := by decide +kernel
theorem dX12_truck_215 : decode cX12_truck 215 = .ok (.iload 4, 2) := by decide +kernel
theorem dX12_truck_217 : decode cX12_truck 217 = .ok (.iload 5, 2) := by decide +kernel
theorem dX12_truck_219 : decode cX12_truck 219 = .ok (.invokevirtual 471, 3) := by decide +kernel
theorem dX12_truck_222 : decode cX12_truck 222 = .ok (.iastore, 1) := by decide +kernel
theorem dX12_truck_223 : decode cX12_truck 223 = .ok (.iload_n 3, 1) := by decide +kernel
theorem dX12_truck_224 : decode cX12_truck 224 = .ok (.iconst 1, 1) := by decide +kernel
theorem dX12_truck_225 : decode cX12_truck 225 = .ok (.iload 5, 2) := by decide +kernel
theorem dX12_truck_227 : decode cX12_truck 227 = .ok (.ishl, 1) := by decide +kernel
theorem dX12_truck_228 : decode cX12_truck 228 = .ok (.ior, 1) := by decide +kernel
theorem dX12_truck_229 : decode cX12_truck 229 = .ok (.istore_n 3, 1) := by decide +kernel
theorem dX12_truck_230 : decode cX12_truck 230 = .ok (.iload 4, 2) := by decide +kernel
theorem dX12_truck_232 : decode cX12_truck 232 = .ok (.iload_n 1, 1) := by decide +kernel
theorem dX12_truck_233 : decode cX12_truck 233 = .ok (.iconst 1, 1) := by decide +kernel
theorem dX12_truck_234 : decode cX12_truck 234 = .ok (.isub, 1) := by decide +kernel
theorem dX12_truck_235 : decode cX12_truck 235 = .ok (.if_icmp .ge 17, 3) := by decide +kernel
theorem dX12_truck_238 : decode cX12_truck 238 = .ok (.iinc 4 1, 3) := by decide +kernel
theorem dX12_truck_241 : decode cX12_truck 241 = .ok (.aload_n 0, 1) := by decide +kernel
theorem dX12_truck_242 : decode cX12_truck 242 = .ok (.getfield 186, 3) := by decide +kernel
theorem dX12_truck_245 : decode cX12_truck 245 = .ok (.iload 4, 2) := by decide +kernel
theorem dX12_truck_247 : decode cX12_truck 247 = .ok (.iconst (-1), 1) := by decide +kernel
theorem dX12_truck_248 : decode cX12_truck 248 = .ok (.iastore, 1) := by decide +kernel
theorem dX12_truck_249 : decode cX12_truck 249 = .ok (.goto (-131), 3) := by decide +kernel
theorem dX12_truck_252 : decode cX12_truck 252 = .ok (.aload_n 0, 1) := by decide +kernel
theorem dX12_truck_253 : decode cX12_truck 253 = .ok (.getfield 189, 3) := by decide +kernel
theorem dX12_truck_256 : decode cX12_truck 256 = .ok (.iload 4, 2) := by decide +kernel
theorem dX12_truck_258 : decode cX12_truck 258 = .ok (.iaload, 1) := by decide +kernel
theorem dX12_truck_259 : decode cX12_truck 259 = .ok (.istore_n 2, 1) := by decide +kernel
theorem dX12_truck_260 : decode cX12_truck 260 = .ok (.iconst 0, 1) := by decide +kernel
theorem dX12_truck_261 : decode cX12_truck 261 = .ok (.istore 6, 2) := by decide +kernel
theorem dX12_truck_263 : decode cX12_truck 263 = .ok (.iload 6, 2) := by decide +kernel
theorem dX12_truck_265 : decode cX12_truck 265 = .ok (.iload_n 1, 1) := by decide +kernel
theorem dX12_truck_266 : decode cX12_truck 266 = .ok (.if_icmp .ge 28, 3) := by decide +kernel
theorem dX12_truck_269 : decode cX12_truck 269 = .ok (.aload_n 0, 1) := by decide +kernel
theorem dX12_truck_270 : decode cX12_truck 270 = .ok (.getfield 183, 3) := by decide +kernel
theorem dX12_truck_273 : decode cX12_truck 273 = .ok (.iload 6, 2) := by decide +kernel
theorem dX12_truck_275 : decode cX12_truck 275 = .ok (.aload_n 0, 1) := by decide +kernel
theorem dX12_truck_276 : decode cX12_truck 276 = .ok (.getfield 180, 3) := by decide +kernel
theorem dX12_truck_279 : decode cX12_truck 279 = .ok (.aload_n 0, 1) := by decide +kernel
theorem dX12_truck_280 : decode cX12_truck 280 = .ok (.getfield 186, 3) := by decide +kernel
theorem dX12_truck_283 : decode cX12_truck 283 = .ok (.iload 6, 2) := by decide +kernel
theorem dX12_truck_285 : decode cX12_truck 285 = .ok (.iaload, 1) := by decide +kernel
theorem dX12_truck_286 : decode cX12_truck 286 = .ok (.iaload, 1) := by decide +kernel
theorem dX12_truck_287 : decode cX12_truck 287 = .ok (.iastore, 1) := by decide +kernel
theorem dX12_truck_288 : decode cX12_truck 288 = .ok (.iinc 6 1, 3) := by decide +kernel
theorem dX12_truck_291 : decode cX12_truck 291 = .ok (.goto (-28), 3) := by decide +kernel
theorem dX12_truck_294 : decode cX12_truck 294 = .ok (.goto (-176), 3) := by decide +kernel
theorem dX12_truck_297 : decode cX12_truck 297 = .ok (.iload_n 2, 1) := by decide +kernel
theorem dX12_truck_298 : decode cX12_truck 298 = .ok (.ldc_w 466, 3) := by decide +kernel
theorem dX12_truck_301 : decode cX12_truck 301 = .ok (.if_icmp .ne 5, 3) := by decide +kernel
theorem dX12_truck_304 : decode cX12_truck 304 = .ok (.iconst (-1), 1) := by decide +kernel
theorem dX12_truck_305 : decode cX12_truck 305 = .ok (.ireturn, 1) := by decide +kernel
theorem dX12_truck_306 : decode cX12_truck 306 = .ok (.aload_n 0, 1) := by decide +kernel
theorem dX12_truck_307 : decode cX12_truck 307 = .ok (.iload_n 1, 1) := by decide +kernel
theorem dX12_truck_308 : decode cX12_truck 308 = .ok (.putfield 474, 3) := by decide +kernel
theorem dX12_truck_311 : decode cX12_truck 311 = .ok (.aload_n 0, 1) := by decide +kernel
theorem dX12_truck_312 : decode cX12_truck 312 = .ok (.iconst 1, 1) := by decide +kernel
theorem dX12_truck_313 : decode cX12_truck 313 = .ok (.putfield 477, 3) := by decide +kernel
theorem dX12_truck_316 : decode cX12_truck 316 = .ok (.iload_n 2, 1) := by decide +kernel
theorem dX12_truck_317 : decode cX12_truck 317 = .ok (.ireturn, 1) := by decide +kernel
theorem lk_X12_467 : xLV RX12 467 yX12_mayGo cX12_mayGo 6 (some .boolean) 4 := ⟨m_55_18, m_55_19, m_55_20, m_1_5, m_55_21, by decide +kernel⟩
theorem xms9 {a : Nat} : ((a : Nat) : Int) < ((((a : Nat) : Int).toNat + 1 : Nat) : Int) := by omega
set_option maxHeartbeats 4000000 in
set_option maxRecDepth 100000 in
theorem c3_mtruck (l : Launch) (D : va_G) (kA : Nat → ClassId) (b0 : Nat) (t0 : Nat → Nat) (S : xT) (g : xG) (a0 : Nat) (n0 : Int) (y0 : Nat) (w85 : Nat) (w86 : Nat) (w83 : Nat) (w82 : Nat) (n8 : Int) (Y8 : Int → Int) (Q8 : Int → Int → Int) (f8 : Int → Int) (hs_a0 : S a0 = some (13, 0)) (hn0 : 0 ≤ n0 ∧ n0 ≤ 420) (en0 : g a0 2 = .int (iI n0)) (ey0 : g a0 1 = .ref y0) (hs_y0 : S y0 = some (14100, 420)) (ew85 : g a0 85 = .ref w85) (hs_w85 : S w85 = some (19100, 10)) (ew86 : g a0 86 = .ref w86) (hs_w86 : S w86 = some (19200, 10)) (ew83 : g a0 83 = .ref w83) (hs_w83 : S w83 = some (18900, 10)) (ew82 : g a0 82 = .ref w82) (hs_w82 : S w82 = some (18800, 10)) (hp0 : xRm S g a0 n8 Y8 Q8) (hp1 : n0 = 20 → ∀ i, 0 ≤ i → i < 20 → xv g y0 i = f8 i) : xMt l yX12_truck cX12_truck 7 (some .int) 2 0 0 47 D kA b0 t0 [(13, 0), (13, 2), (13, 18), (15200, 0), (19100, 0), (13, 87), (13, 88), (19200, 0), (19000, 0), (18800, 0), (18900, 0)] [.ref a0] S g (fun (r : Option Value) (S1 : xT) (g1 : xG) => S = S1 ∧ ∃ z : Int, r = some (.int (iI z)) ∧ (-1) ≤ z ∧ z ≤ 99999 ∧ (g1 a0 2 = .int (iI (0))) ∧ (∃ (n1 : Int) (Y1 : Int → Int), xRm S g1 a0 n1 Y1 Q8 ∧ xTK f8 Q8 n0 z n8 n1 Y8 Y1)) := by
  refine xEnterI (by decide) (by simp [lg_sl, Value.category]) [(0, .ref a0)] rfl ?_
  intro K E hK hret _ _ _
  refine X_aloadn hK (i := 0) 0 dX12_truck_0 rfl rfl ?_
  obtain ⟨ty8, wr8, m8, z8, i8, hrm1, hrm2, hs_ty8, hrm4, hrm5, hrm6, hrm7, hrm8, hY8, hrm10, hs_wr8, hrm12, hrm13⟩ := hp0
  have hi8 : 0 ≤ i8 ∧ i8 ≤ 1 := by rcases hrm13 with q9 | q9 <;> omega
  have hz8 : 0 ≤ z8 ∧ z8 ≤ 1 := by omega
  refine X_iconst hK dX12_truck_1 ?_
  refine X_puti hK fl_X12_198_13 hs_a0 (by decide) sl_13_0 (by omega) (by omega) dX12_truck_2 (fun g1 hg1 => ?_)
  refine X_aloadn hK (i := 0) 0 dX12_truck_5 rfl rfl ?_
  refine X_callV hK [] [] lk_X12_222 (c_X12_take _ _ _ _ _ S g1 a0 n0 hs_a0 (by omega) ((xs_k hg1 (by decide)).trans en0)) hs_a0 ⟨by decide, rfl⟩ dX12_truck_6 rfl rfl (by simp [Value.category]) (by decide) (by decide) (by decide) (by decide) (fun r2 S4 g3 pr2 qr2 hg3 => ?_)
  obtain ⟨rfl, z5, rfl, lz5, uz5, k6, k7⟩ := pr2
  refine X_st [.int (iI z5)] rfl ?_
  refine X_bipush hK dX12_truck_9 (by decide) ?_
  refine X_icmp_eq hK 16 (by omega) (by omega) dX12_truck_11 (by decide) (fun c8 => ?_) (fun c8 => ?_)
  · refine X_aloadn hK (i := 0) 0 dX12_truck_16 rfl rfl ?_
    refine X_callV hK [] [] lk_X12_250 (c3_layWays _ _ _ _ _ S g3 a0 wr8 i8 Q8 hs_a0 ((hg3 a0 13 0 15 hs_a0 (by decide)).trans ((xs_k hg1 (by decide)).trans hrm10)) hs_wr8 (by omega) ((hg3 a0 13 0 18 hs_a0 (by decide)).trans ((xs_k hg1 (by decide)).trans hrm12)) (by rw [(Eq.trans (xv_m hg3 hs_wr8 (by decide) (by decide)) (xv_a hg1 (xne hs_wr8 hs_a0 (by decide))))]; exact hrm13)) hs_a0 ⟨by decide, rfl⟩ dX12_truck_17 rfl rfl (by simp [Value.category]) (by decide) (by decide) (by decide) (by decide) (fun r9 S11 g10 pr9 qr9 hg10 => ?_)
    obtain ⟨rfl, rfl, k12, k13⟩ := pr9
    refine X_st [] rfl ?_
    refine X_iconst hK dX12_truck_20 ?_
    refine X_istoren hK (i := 1) [(1, .int (iI 0)), (0, .ref a0)] dX12_truck_21 rfl (by decide) rfl ?_
    refine X_iconst hK dX12_truck_22 ?_
    refine X_istoren hK (i := 2) [(2, .int (iI 1)), (1, .int (iI 0)), (0, .ref a0)] dX12_truck_23 rfl (by decide) rfl ?_
    have P10553 : ∀ (nP10553 : Nat) (g8447 : xG) (_ : xM [(18900, 0), (18800, 0)] S g10 g8447) (z8445 : Int) (_ : 1 ≤ z8445) (_ : z8445 ≤ 10) (z8446 : Int) (_ : 0 ≤ z8446) (_ : z8446 ≤ 9) (_ : z8446 ≤ z8445 - 1) (_ : xSq f8 (z8445 - 1) z8446 (xv g8447 w83)) (_ : ∀ k, 0 ≤ k → k < z8446 → 1 ≤ xv g8447 w83 k ∧ xv g8447 w83 k ≤ 9) (_ : ∀ c, 1 ≤ c → c < z8445 → xv g8447 w82 c = xpr f8 c) (_ : 26 - z8445 < (nP10553 : Int)), X K E 24 [(2, .int (iI z8445)), (1, .int (iI z8446)), (0, .ref a0)] [] S g8447 0 0 := by
      intro nP10553
      induction nP10553 with
      | zero => intro g8447 hg8447 z8445 lz8445 uz8445 z8446 lz8446 uz8446 v10554 v10555 v10556 v10557 mP10553; exact False.elim (by omega)
      | succ nP10553 ihP10553 =>
        intro g8447 hg8447 z8445 lz8445 uz8445 z8446 lz8446 uz8446 v10554 v10555 v10556 v10557 mP10553
        refine X_iloadn hK (i := 2) 0 dX12_truck_24 rfl rfl ?_
        refine X_bipush hK dX12_truck_25 (by decide) ?_
        refine X_icmp_ge hK 90 (by omega) (by omega) dX12_truck_27 (by decide) (fun c10558 => ?_) (fun c10558 => ?_)
        · refine X_iloadn hK (i := 1) 1 dX12_truck_90 rfl rfl ?_
          have hsq : xSq f8 9 z8446 (xv g8447 w83) := by have h9 := v10555; rw [show z8445 - 1 = 9 by omega] at h9; exact h9
          have hnn : z8446 = xTn f8 := hsq.1
          have hT9 : ∀ k, 0 ≤ k → k < z8446 → xv g8447 w83 k = xTs f8 k ∧ 0 ≤ xTs f8 k ∧ xTs f8 k ≤ 9 := fun k q1 q2 => by have h9 := v10556 k q1 q2; have h8 : xv g8447 w83 k = xTs f8 k := hsq.2 k q1 q2; rw [← h8]; exact ⟨rfl, by omega, by omega⟩
          have hN9 : ∀ k, 0 ≤ k → k < z8446 → xv g8447 w82 (xTs f8 k) = xTb9 f8 k := fun k q1 q2 => by have h9 := v10556 k q1 q2; have h8 : xv g8447 w83 k = xTs f8 k := hsq.2 k q1 q2; exact v10557 (xTs f8 k) (by omega) (by omega)
          have hqr9 : xQr (xv g8447 wr8) Q8 := (by rw [(xv_m hg8447 hs_wr8 (by decide) (by decide))]; exact k13)
          refine X_wt (fun hWt9 => ?_)
          have hQ9 : ∀ x y : Int, 0 ≤ x → x < 10 → 0 ≤ y → y < 10 → 0 ≤ Q8 x y ∧ Q8 x y ≤ 200 := fun x y q1 q2 q3 q4 => by rw [← hqr9 x y q1 q2 q3 q4]; exact xv_r hWt9 hs_wr8 (by decide) sl_15200 (by decide) (10 * x + y) (by omega) (by omega)
          have hF9 : ∀ i, 0 ≤ i → i < z8446 → 0 ≤ (xF9 Q8 (xTs f8)) i := fun i q1 q2 => by have h9 := hT9 i q1 q2; exact (hQ9 0 (xTs f8 i) (by omega) (by omega) (by omega) (by omega)).1
          have hW9 : ∀ i j, 0 ≤ i → i < z8446 → 0 ≤ j → j < z8446 → 0 ≤ (xW9 Q8 (xTs f8)) i j := fun i j q1 q2 q3 q4 => by have h9 := hT9 i q1 q2; have h8 := hT9 j q3 q4; exact (hQ9 (xTs f8 i) (xTs f8 j) (by omega) (by omega) (by omega) (by omega)).1
          have hB9 : ∀ i, 0 ≤ i → i < z8446 → (xTb9 f8) i ≤ 65535 := fun i q1 q2 => by have h9 := hT9 i q1 q2; rw [← hN9 i q1 q2]; exact (xv_r hWt9 hs_w82 (by decide) sl_18800 (by decide) (xTs f8 i) (by omega) (by omega)).2
          refine X_if_ne hK 98 (by omega) dX12_truck_91 (by decide) (fun c10559 => ?_) (fun c10559 => ?_)
          · refine X_ldcw hK (n := 100000) dX12_truck_98 m_55_15 (by decide) ?_
            refine X_istoren hK (i := 2) [(2, .int (iI 100000)), (1, .int (iI z8446)), (0, .ref a0)] dX12_truck_101 rfl (by decide) rfl ?_
            refine X_iconst hK dX12_truck_102 ?_
            refine X_istoren hK (i := 3) [(3, .int (iI 0)), (2, .int (iI 100000)), (1, .int (iI z8446)), (0, .ref a0)] dX12_truck_103 rfl (by decide) rfl ?_
            refine X_iconst hK dX12_truck_104 ?_
            refine X_istore hK (i := 4) [(4, .int (iI 0)), (3, .int (iI 0)), (2, .int (iI 100000)), (1, .int (iI z8446)), (0, .ref a0)] dX12_truck_105 (by decide) rfl ?_
            refine X_iloadn hK (i := 1) 3 dX12_truck_107 rfl rfl ?_
            refine X_if_le hK 118 (by omega) dX12_truck_108 (by decide) (fun c10560 => False.elim (by omega)) (fun c10560 => ?_)
            refine X_aloadn hK (i := 0) 4 dX12_truck_111 rfl rfl ?_
            refine X_getK hK fl_X12_186_13 hs_a0 ((hg8447 a0 13 0 85 hs_a0 (by decide)).trans ((hg10 a0 13 0 85 hs_a0 (by decide)).trans ((hg3 a0 13 0 85 hs_a0 (by decide)).trans ((xs_k hg1 (by decide)).trans ew85)))) dX12_truck_112 ?_
            refine X_iconst hK dX12_truck_115 ?_
            refine X_iconst hK dX12_truck_116 ?_
            refine X_iast hK hs_w85 (by decide) (by decide) sl_19100 (by omega) (by omega) (by omega) (by omega) dX12_truck_117 (fun g10561 hg10561 => ?_)
            have P12256 : ∀ (nP12256 : Nat) (g11920 : xG) (_ : xM [(19000, 0), (19200, 0), (19100, 0)] S g10561 g11920) (z11917 : Int) (_ : (-1) ≤ z11917) (_ : z11917 ≤ 8) (z11918 : Int) (_ : 0 ≤ z11918) (_ : z11918 ≤ 511) (z11919 : Int) (_ : 0 ≤ z11919) (_ : z11919 ≤ 100000) (_ : z11917 < z8446 ∨ z8446 = 0) (_ : ∀ x, 0 ≤ x → x < z11917 → 0 ≤ xv g11920 w85 x) (_ : 0 < z8446 → ∀ x, 0 ≤ x → x ≤ z11917 → xv g11920 w85 x < z8446) (_ : 0 < z8446 → xRk z8446 (xF9 Q8 (xTs f8)) (xW9 Q8 (xTs f8)) (xTb9 f8) (xTs f8) z11917 z11918 z11919 (xv g11920 w85) (xv g11920 w86) (xv g11920 ty8)) (_ : z11919 = 100000 → ∀ x9, 0 ≤ x9 → x9 < 9 → xv g11920 ty8 x9 = xv g ty8 x9) (_ : z8446 = 0 → z11919 = 0) (_ : ((xdm (xv g11920 w85) z11917 : Nat) : Int) < (nP12256 : Int)), X K E 118 [(4, .int (iI z11917)), (3, .int (iI z11918)), (2, .int (iI z11919)), (1, .int (iI z8446)), (0, .ref a0)] [] S g11920 0 0 := by
              intro nP12256
              induction nP12256 with
              | zero => intro g11920 hg11920 z11917 lz11917 uz11917 z11918 lz11918 uz11918 z11919 lz11919 uz11919 v12257 v12258 v12259 v12260 v12261 v12262 mP12256; exact False.elim (by omega)
              | succ nP12256 ihP12256 =>
                intro g11920 hg11920 z11917 lz11917 uz11917 z11918 lz11918 uz11918 z11919 lz11919 uz11919 v12257 v12258 v12259 v12260 v12261 v12262 mP12256
                refine X_iload hK (i := 4) 0 dX12_truck_118 rfl ?_
                refine X_if_lt hK 297 (by omega) dX12_truck_120 (by decide) (fun c12263 => ?_) (fun c12263 => ?_)
                · refine X_iloadn hK (i := 2) 2 dX12_truck_297 rfl rfl ?_
                  refine X_ldcw hK (n := 100000) dX12_truck_298 m_55_15 (by decide) ?_
                  refine X_icmp_ne hK 306 (by omega) (by omega) dX12_truck_301 (by decide) (fun c12264 => ?_) (fun c12264 => ?_)
                  · refine X_aloadn hK (i := 0) 4 dX12_truck_306 rfl rfl ?_
                    refine X_iloadn hK (i := 1) 3 dX12_truck_307 rfl rfl ?_
                    refine X_puti hK fl_X12_474_13 hs_a0 (by decide) sl_13_87 (by omega) (by omega) dX12_truck_308 (fun g12265 hg12265 => ?_)
                    refine X_aloadn hK (i := 0) 4 dX12_truck_311 rfl rfl ?_
                    refine X_iconst hK dX12_truck_312 ?_
                    refine X_putz hK fl_X12_477_13 hs_a0 (by decide) sl_13_88 (by omega) (by omega) dX12_truck_313 (fun g12266 hg12266 => ?_)
                    refine X_iloadn hK (i := 2) 2 dX12_truck_316 rfl rfl ?_
                    exact hret _ _ _ _ _ _ _ dX12_truck_317 ⟨rfl, z11919, rfl, (by omega), (by omega), (((xs_k hg12266 (by decide)).trans ((xs_k hg12265 (by decide)).trans ((hg11920 a0 13 0 2 hs_a0 (by decide)).trans ((xs_a hg10561 (xne hs_a0 hs_w85 (by decide))).trans ((hg8447 a0 13 0 2 hs_a0 (by decide)).trans ((hg10 a0 13 0 2 hs_a0 (by decide)).trans k7)))))).trans (by congr 2 <;> omega)), ⟨z8446, xv g12266 ty8, ⟨ty8, wr8, z8446, 1, 1, hs_a0, ((xs_k hg12266 (by decide)).trans ((xs_k hg12265 (by decide)).trans ((hg11920 a0 13 0 84 hs_a0 (by decide)).trans ((xs_a hg10561 (xne hs_a0 hs_w85 (by decide))).trans ((hg8447 a0 13 0 84 hs_a0 (by decide)).trans ((hg10 a0 13 0 84 hs_a0 (by decide)).trans ((hg3 a0 13 0 84 hs_a0 (by decide)).trans ((xs_k hg1 (by decide)).trans hrm2)))))))), hs_ty8, ((xs_k hg12266 (by decide)).trans (xs_s hg12265)), by omega, by omega, (xs_s hg12266), (Or.inr ⟨rfl, rfl⟩), rfl, ((xs_k hg12266 (by decide)).trans ((xs_k hg12265 (by decide)).trans ((hg11920 a0 13 0 15 hs_a0 (by decide)).trans ((xs_a hg10561 (xne hs_a0 hs_w85 (by decide))).trans ((hg8447 a0 13 0 15 hs_a0 (by decide)).trans ((hg10 a0 13 0 15 hs_a0 (by decide)).trans ((hg3 a0 13 0 15 hs_a0 (by decide)).trans ((xs_k hg1 (by decide)).trans hrm10)))))))), hs_wr8, ((xs_k hg12266 (by decide)).trans ((xs_k hg12265 (by decide)).trans ((hg11920 a0 13 0 18 hs_a0 (by decide)).trans ((xs_a hg10561 (xne hs_a0 hs_w85 (by decide))).trans ((hg8447 a0 13 0 18 hs_a0 (by decide)).trans k12))))), (Or.inr ⟨rfl, (by rw [(Eq.trans (Eq.trans (Eq.trans (xv_a hg12266 (xne hs_wr8 hs_a0 (by decide))) (xv_a hg12265 (xne hs_wr8 hs_a0 (by decide)))) (xv_m hg11920 hs_wr8 (by decide) (by decide))) (xv_a hg10561 (xne hs_wr8 hs_w85 (by decide))))]; exact hqr9)⟩)⟩, (Or.inr ⟨by omega, by rcases (show z8446 = 0 ∨ 0 < z8446 by omega) with c9 | c9; (have h9 := v12262 c9; exact Or.inl ⟨by omega, by omega, by omega⟩); (rcases (xRk.fin (n := z8446) (B := xTb9 f8) (show 1 ≤ z8446 by omega) (fun i9 q1 q2 => by have h9 := hB9 i9 q1 q2; omega) (show xRk z8446 (xF9 Q8 (xTs f8)) (xW9 Q8 (xTs f8)) (xTb9 f8) (xTs f8) (-1) z11918 z11919 (xv g11920 w85) (xv g11920 w86) (xv g11920 ty8) from (by have h9 := v12260 c9; rw [show z11917 = -1 by omega] at h9; exact h9))) with ⟨h8, _⟩ | ⟨_, c8, h8, h7⟩; omega; exact Or.inr (Or.inr ⟨by omega, hnn, c8, (by rw [← hnn]; exact h8), (by rw [← hnn]; rw [(Eq.trans (xv_a hg12266 (xne hs_ty8 hs_a0 (by decide))) (xv_a hg12265 (xne hs_ty8 hs_a0 (by decide))))]; exact h7)⟩))⟩)⟩⟩ (Nat.le_refl _) (Nat.le_refl _)
                  · refine X_iconst hK dX12_truck_304 ?_
                    exact hret _ _ _ _ _ _ _ dX12_truck_305 ⟨rfl, (-1), rfl, (by omega), (by omega), (((hg11920 a0 13 0 2 hs_a0 (by decide)).trans ((xs_a hg10561 (xne hs_a0 hs_w85 (by decide))).trans ((hg8447 a0 13 0 2 hs_a0 (by decide)).trans ((hg10 a0 13 0 2 hs_a0 (by decide)).trans k7)))).trans (by congr 2 <;> omega)), ⟨n8, xv g11920 ty8, ⟨ty8, wr8, m8, z8, 1, hs_a0, ((hg11920 a0 13 0 84 hs_a0 (by decide)).trans ((xs_a hg10561 (xne hs_a0 hs_w85 (by decide))).trans ((hg8447 a0 13 0 84 hs_a0 (by decide)).trans ((hg10 a0 13 0 84 hs_a0 (by decide)).trans ((hg3 a0 13 0 84 hs_a0 (by decide)).trans ((xs_k hg1 (by decide)).trans hrm2)))))), hs_ty8, ((hg11920 a0 13 0 87 hs_a0 (by decide)).trans ((xs_a hg10561 (xne hs_a0 hs_w85 (by decide))).trans ((hg8447 a0 13 0 87 hs_a0 (by decide)).trans ((hg10 a0 13 0 87 hs_a0 (by decide)).trans ((hg3 a0 13 0 87 hs_a0 (by decide)).trans ((xs_k hg1 (by decide)).trans hrm4)))))), by omega, by omega, ((hg11920 a0 13 0 88 hs_a0 (by decide)).trans ((xs_a hg10561 (xne hs_a0 hs_w85 (by decide))).trans ((hg8447 a0 13 0 88 hs_a0 (by decide)).trans ((hg10 a0 13 0 88 hs_a0 (by decide)).trans ((hg3 a0 13 0 88 hs_a0 (by decide)).trans ((xs_k hg1 (by decide)).trans hrm7)))))), hrm8, rfl, ((hg11920 a0 13 0 15 hs_a0 (by decide)).trans ((xs_a hg10561 (xne hs_a0 hs_w85 (by decide))).trans ((hg8447 a0 13 0 15 hs_a0 (by decide)).trans ((hg10 a0 13 0 15 hs_a0 (by decide)).trans ((hg3 a0 13 0 15 hs_a0 (by decide)).trans ((xs_k hg1 (by decide)).trans hrm10)))))), hs_wr8, ((hg11920 a0 13 0 18 hs_a0 (by decide)).trans ((xs_a hg10561 (xne hs_a0 hs_w85 (by decide))).trans ((hg8447 a0 13 0 18 hs_a0 (by decide)).trans k12))), (Or.inr ⟨rfl, (by rw [(Eq.trans (xv_m hg11920 hs_wr8 (by decide) (by decide)) (xv_a hg10561 (xne hs_wr8 hs_w85 (by decide))))]; exact hqr9)⟩)⟩, (Or.inr ⟨by omega, by rcases (show z8446 = 0 ∨ 0 < z8446 by omega) with c9 | c9; (have h9 := v12262 c9; omega); (rcases (xRk.fin (n := z8446) (B := xTb9 f8) (show 1 ≤ z8446 by omega) (fun i9 q1 q2 => by have h9 := hB9 i9 q1 q2; omega) (show xRk z8446 (xF9 Q8 (xTs f8)) (xW9 Q8 (xTs f8)) (xTb9 f8) (xTs f8) (-1) z11918 z11919 (xv g11920 w85) (xv g11920 w86) (xv g11920 ty8) from (by have h9 := v12260 c9; rw [show z11917 = -1 by omega] at h9; exact h9))) with ⟨_, h8⟩ | ⟨h8, _⟩; (exact Or.inr (Or.inl ⟨by omega, rfl, rfl, (fun x9 q1 q2 => by rw [v12261 (by omega) x9 q1 q2, hY8]), by rw [← hnn]; exact h8⟩)); omega)⟩)⟩⟩ (Nat.le_refl _) (Nat.le_refl _)
                · refine X_iloadn hK (i := 1) 3 dX12_truck_123 rfl rfl ?_
                  refine X_if_le hK 297 (by omega) dX12_truck_124 (by decide) (fun c12267 => False.elim (by omega)) (fun c12267 => ?_)
                  refine X_aloadn hK (i := 0) 4 dX12_truck_127 rfl rfl ?_
                  refine X_getK hK fl_X12_186_13 hs_a0 ((hg11920 a0 13 0 85 hs_a0 (by decide)).trans ((xs_a hg10561 (xne hs_a0 hs_w85 (by decide))).trans ((hg8447 a0 13 0 85 hs_a0 (by decide)).trans ((hg10 a0 13 0 85 hs_a0 (by decide)).trans ((hg3 a0 13 0 85 hs_a0 (by decide)).trans ((xs_k hg1 (by decide)).trans ew85)))))) dX12_truck_128 ?_
                  refine X_iload hK (i := 4) 0 dX12_truck_131 rfl ?_
                  refine X_iald hK hs_w85 (by decide) sl_19100 (by omega) (by omega) dX12_truck_133 (fun z12268 ez12268 lz12268 uz12268 => ?_)
                  have hw12269 : xv g11920 w85 z11917 = z12268 := (xv_e (j := z11917) ez12268 (by omega))
                  have J12275 : ∀ (z12274 : Int) (lz12274 : 0 ≤ z12274) (uz12274 : z12274 ≤ 511) (m12276 : z12274 = ((xmn (xv g11920 w85) z11917.toNat : Nat) : Int)), X K E 151 [(4, .int (iI z11917)), (3, .int (iI z12274)), (2, .int (iI z11919)), (1, .int (iI z8446)), (0, .ref a0)] [] S g11920 0 0 := by
                    intro z12274 lz12274 uz12274 m12276
                    refine X_aloadn hK (i := 0) 4 dX12_truck_151 rfl rfl ?_
                    refine X_getK hK fl_X12_186_13 hs_a0 ((hg11920 a0 13 0 85 hs_a0 (by decide)).trans ((xs_a hg10561 (xne hs_a0 hs_w85 (by decide))).trans ((hg8447 a0 13 0 85 hs_a0 (by decide)).trans ((hg10 a0 13 0 85 hs_a0 (by decide)).trans ((hg3 a0 13 0 85 hs_a0 (by decide)).trans ((xs_k hg1 (by decide)).trans ew85)))))) dX12_truck_152 ?_
                    refine X_iload hK (i := 4) 0 dX12_truck_155 rfl ?_
                    refine X_ialdK hK hs_w85 (by decide) (by omega) (by omega) ez12268 dX12_truck_157 ?_
                    refine X_iconst hK dX12_truck_158 ?_
                    refine X_iadd hK dX12_truck_159 ?_
                    refine X_istore hK (i := 5) [(5, .int (iI (z12268 + 1))), (4, .int (iI z11917)), (3, .int (iI z12274)), (2, .int (iI z11919)), (1, .int (iI z8446)), (0, .ref a0)] dX12_truck_160 (by decide) rfl ?_
                    have hlh12277 := v12259 (by omega) z11917 (by omega) (by omega)
                    have P12530 : ∀ (nP12530 : Nat) (z12467 : Int) (_ : 0 ≤ z12467) (_ : z12467 ≤ 9) (_ : z12467 ≤ z8446) (_ : xv g11920 w85 z11917 < z12467) (_ : xRi z8446 (xF9 Q8 (xTs f8)) (xW9 Q8 (xTs f8)) (xTb9 f8) (xTs f8) z11917 z12467 z11919 (xv g11920 w85) (xv g11920 w86) (xv g11920 ty8)) (_ : z12274 = ((xmn (xv g11920 w85) z11917.toNat : Nat) : Int)) (_ : 25 - z12467 < (nP12530 : Int)), X K E 162 [(5, .int (iI z12467)), (4, .int (iI z11917)), (3, .int (iI z12274)), (2, .int (iI z11919)), (1, .int (iI z8446)), (0, .ref a0)] [] S g11920 0 0 := by
                      intro nP12530
                      induction nP12530 with
                      | zero => intro z12467 lz12467 uz12467 v12531 v12532 v12533 v12534 mP12530; exact False.elim (by omega)
                      | succ nP12530 ihP12530 =>
                        intro z12467 lz12467 uz12467 v12531 v12532 v12533 v12534 mP12530
                        refine X_iload hK (i := 5) 0 dX12_truck_162 rfl ?_
                        refine X_iloadn hK (i := 1) 4 dX12_truck_164 rfl rfl ?_
                        refine X_icmp_ge hK 187 (by omega) (by omega) dX12_truck_165 (by decide) (fun c12535 => ?_) (fun c12535 => ?_)
                        · refine X_iload hK (i := 5) 0 dX12_truck_187 rfl ?_
                          refine X_iloadn hK (i := 1) 4 dX12_truck_189 rfl rfl ?_
                          refine X_icmp_ne hK 199 (by omega) (by omega) dX12_truck_190 (by decide) (fun c12536 => False.elim (by omega)) (fun c12536 => ?_)
                          refine X_iinc hK (i := 4) (z := z11917) (n := (-1)) 1 [(4, .int (iI (z11917 + (-1)))), (5, .int (iI z12467)), (3, .int (iI z12274)), (2, .int (iI z11919)), (1, .int (iI z8446)), (0, .ref a0)] dX12_truck_193 rfl (by decide) rfl ?_
                          refine X_goto hK 118 dX12_truck_196 (by decide) ?_
                          refine X_lv [(4, .int (iI (z11917 + (-1)))), (3, .int (iI z12274)), (2, .int (iI z11919)), (1, .int (iI z8446)), (0, .ref a0)] [0, 2, 3, 4, 5] rfl ?_
                          exact ihP12256  g11920 (xM.tr xM.rf xLe.rf hg11920 (by decide)) (z11917 + (-1)) (by omega) (by omega) z12274 (by omega) (by omega) z11919 (by omega) (by omega) (by omega) (fun x q1 q2 => v12258 x q1 (by omega)) (fun h9 x q1 q2 => v12259 h9 x q1 (by omega)) (fun h9 => by have h8 := v12533; rw [show z12467 = z8446 by omega] at h8; have h7 := xRi.pop h8 (by omega) (by omega); rw [← v12534] at h7; exact h7) v12261 (by omega) (by have h9 := xdm_pop (f := xv g11920 w85) (k := z11917) (by omega); omega)
                        · refine X_aloadn hK (i := 0) 5 dX12_truck_168 rfl rfl ?_
                          refine X_iload hK (i := 4) 1 dX12_truck_169 rfl ?_
                          refine X_iload hK (i := 5) 0 dX12_truck_171 rfl ?_
                          refine X_iloadn hK (i := 3) 2 dX12_truck_173 rfl rfl ?_
                          refine X_iloadn hK (i := 2) 3 dX12_truck_174 rfl rfl ?_
                          refine X_callV hK [.int (iI z11917), .int (iI z12467), .int (iI z12274), .int (iI z11919)] [] lk_X12_467 (c3_mayGo _ _ _ _ _ S g11920 a0 z11917 z12467 z12274 z11919 w85 w86 w83 wr8 w82 z8446 Q8 (xTs f8) (xTb9 f8) hs_a0 (by omega) (by omega) (by omega) (by omega) ((hg11920 a0 13 0 85 hs_a0 (by decide)).trans ((xs_a hg10561 (xne hs_a0 hs_w85 (by decide))).trans ((hg8447 a0 13 0 85 hs_a0 (by decide)).trans ((hg10 a0 13 0 85 hs_a0 (by decide)).trans ((hg3 a0 13 0 85 hs_a0 (by decide)).trans ((xs_k hg1 (by decide)).trans ew85)))))) hs_w85 ((hg11920 a0 13 0 86 hs_a0 (by decide)).trans ((xs_a hg10561 (xne hs_a0 hs_w85 (by decide))).trans ((hg8447 a0 13 0 86 hs_a0 (by decide)).trans ((hg10 a0 13 0 86 hs_a0 (by decide)).trans ((hg3 a0 13 0 86 hs_a0 (by decide)).trans ((xs_k hg1 (by decide)).trans ew86)))))) hs_w86 ((hg11920 a0 13 0 83 hs_a0 (by decide)).trans ((xs_a hg10561 (xne hs_a0 hs_w85 (by decide))).trans ((hg8447 a0 13 0 83 hs_a0 (by decide)).trans ((hg10 a0 13 0 83 hs_a0 (by decide)).trans ((hg3 a0 13 0 83 hs_a0 (by decide)).trans ((xs_k hg1 (by decide)).trans ew83)))))) hs_w83 ((hg11920 a0 13 0 15 hs_a0 (by decide)).trans ((xs_a hg10561 (xne hs_a0 hs_w85 (by decide))).trans ((hg8447 a0 13 0 15 hs_a0 (by decide)).trans ((hg10 a0 13 0 15 hs_a0 (by decide)).trans ((hg3 a0 13 0 15 hs_a0 (by decide)).trans ((xs_k hg1 (by decide)).trans hrm10)))))) hs_wr8 ((hg11920 a0 13 0 82 hs_a0 (by decide)).trans ((xs_a hg10561 (xne hs_a0 hs_w85 (by decide))).trans ((hg8447 a0 13 0 82 hs_a0 (by decide)).trans ((hg10 a0 13 0 82 hs_a0 (by decide)).trans ((hg3 a0 13 0 82 hs_a0 (by decide)).trans ((xs_k hg1 (by decide)).trans ew82)))))) hs_w82 (by omega) (by omega) (fun k9 q1 q2 => by rw [(Eq.trans (xv_m hg11920 hs_w83 (by decide) (by decide)) (xv_a hg10561 (xne hs_w83 hs_w85 (by decide))))]; exact hT9 k9 q1 q2) (by rw [(Eq.trans (xv_m hg11920 hs_wr8 (by decide) (by decide)) (xv_a hg10561 (xne hs_wr8 hs_w85 (by decide))))]; exact hqr9) (xRi.kp v12533 (by omega) (fun x9 q1 q2 => (show xv g11920 w85 x9 = xv g11920 w85 x9 from rfl)) (fun x9 q1 q2 => (show xv g11920 w86 x9 = xv g11920 w86 x9 from rfl)) hF9 hW9 hB9) (fun k9 q1 q2 => by rw [(Eq.trans (xv_m hg11920 hs_w82 (by decide) (by decide)) (xv_a hg10561 (xne hs_w82 hs_w85 (by decide))))]; exact hN9 k9 q1 q2)) hs_a0 ⟨by decide, rfl⟩ dX12_truck_175 rfl rfl (by simp [Value.category]) (by decide) (by decide) (by decide) (by decide) (fun r12537 S12539 g12538 pr12537 qr12537 hg12538 => ?_)
                          obtain ⟨rfl, rfl, z12540, rfl, lz12540, uz12540, k12541⟩ := pr12537
                          refine X_st [.int (iI z12540)] rfl ?_
                          refine X_if_ne hK 187 (by omega) dX12_truck_178 (by decide) (fun c12542 => ?_) (fun c12542 => ?_)
                          · refine X_iload hK (i := 5) 0 dX12_truck_187 rfl ?_
                            refine X_iloadn hK (i := 1) 4 dX12_truck_189 rfl rfl ?_
                            refine X_icmp_ne hK 199 (by omega) (by omega) dX12_truck_190 (by decide) (fun c12543 => ?_) (fun c12543 => False.elim (by omega))
                            refine X_aloadn hK (i := 0) 5 dX12_truck_199 rfl rfl ?_
                            refine X_getK hK fl_X12_186_13 hs_a0 ((hg11920 a0 13 0 85 hs_a0 (by decide)).trans ((xs_a hg10561 (xne hs_a0 hs_w85 (by decide))).trans ((hg8447 a0 13 0 85 hs_a0 (by decide)).trans ((hg10 a0 13 0 85 hs_a0 (by decide)).trans ((hg3 a0 13 0 85 hs_a0 (by decide)).trans ((xs_k hg1 (by decide)).trans ew85)))))) dX12_truck_200 ?_
                            refine X_iload hK (i := 4) 1 dX12_truck_203 rfl ?_
                            refine X_iload hK (i := 5) 0 dX12_truck_205 rfl ?_
                            refine X_iast hK hs_w85 (by decide) (by decide) sl_19100 (by omega) (by omega) (by omega) (by omega) dX12_truck_207 (fun g12544 hg12544 => ?_)
                            refine X_aloadn hK (i := 0) 5 dX12_truck_208 rfl rfl ?_
                            refine X_getK hK fl_X12_189_13 hs_a0 ((xs_a hg12544 (xne hs_a0 hs_w85 (by decide))).trans ((hg11920 a0 13 0 86 hs_a0 (by decide)).trans ((xs_a hg10561 (xne hs_a0 hs_w85 (by decide))).trans ((hg8447 a0 13 0 86 hs_a0 (by decide)).trans ((hg10 a0 13 0 86 hs_a0 (by decide)).trans ((hg3 a0 13 0 86 hs_a0 (by decide)).trans ((xs_k hg1 (by decide)).trans ew86))))))) dX12_truck_209 ?_
                            refine X_iload hK (i := 4) 1 dX12_truck_212 rfl ?_
                            refine X_aloadn hK (i := 0) 5 dX12_truck_214 rfl rfl ?_
                            refine X_iload hK (i := 4) 1 dX12_truck_215 rfl ?_
                            refine X_iload hK (i := 5) 0 dX12_truck_217 rfl ?_
                            refine X_callV hK [.int (iI z11917), .int (iI z12467)] [.int (iI z11917), .ref w86] lk_X12_471 (c3_comesAt _ _ _ _ _ S g12544 a0 z11917 z12467 w85 w86 w83 wr8 z8446 Q8 (xTs f8) hs_a0 (by omega) (by omega) ((xs_a hg12544 (xne hs_a0 hs_w85 (by decide))).trans ((hg11920 a0 13 0 85 hs_a0 (by decide)).trans ((xs_a hg10561 (xne hs_a0 hs_w85 (by decide))).trans ((hg8447 a0 13 0 85 hs_a0 (by decide)).trans ((hg10 a0 13 0 85 hs_a0 (by decide)).trans ((hg3 a0 13 0 85 hs_a0 (by decide)).trans ((xs_k hg1 (by decide)).trans ew85))))))) hs_w85 ((xs_a hg12544 (xne hs_a0 hs_w85 (by decide))).trans ((hg11920 a0 13 0 86 hs_a0 (by decide)).trans ((xs_a hg10561 (xne hs_a0 hs_w85 (by decide))).trans ((hg8447 a0 13 0 86 hs_a0 (by decide)).trans ((hg10 a0 13 0 86 hs_a0 (by decide)).trans ((hg3 a0 13 0 86 hs_a0 (by decide)).trans ((xs_k hg1 (by decide)).trans ew86))))))) hs_w86 ((xs_a hg12544 (xne hs_a0 hs_w85 (by decide))).trans ((hg11920 a0 13 0 83 hs_a0 (by decide)).trans ((xs_a hg10561 (xne hs_a0 hs_w85 (by decide))).trans ((hg8447 a0 13 0 83 hs_a0 (by decide)).trans ((hg10 a0 13 0 83 hs_a0 (by decide)).trans ((hg3 a0 13 0 83 hs_a0 (by decide)).trans ((xs_k hg1 (by decide)).trans ew83))))))) hs_w83 ((xs_a hg12544 (xne hs_a0 hs_w85 (by decide))).trans ((hg11920 a0 13 0 15 hs_a0 (by decide)).trans ((xs_a hg10561 (xne hs_a0 hs_w85 (by decide))).trans ((hg8447 a0 13 0 15 hs_a0 (by decide)).trans ((hg10 a0 13 0 15 hs_a0 (by decide)).trans ((hg3 a0 13 0 15 hs_a0 (by decide)).trans ((xs_k hg1 (by decide)).trans hrm10))))))) hs_wr8 (by omega) (by omega) (fun k9 q1 q2 => by rw [(Eq.trans (Eq.trans (xv_a hg12544 (xne hs_w83 hs_w85 (by decide))) (xv_m hg11920 hs_w83 (by decide) (by decide))) (xv_a hg10561 (xne hs_w83 hs_w85 (by decide))))]; exact hT9 k9 q1 q2) (by rw [(Eq.trans (Eq.trans (xv_a hg12544 (xne hs_wr8 hs_w85 (by decide))) (xv_m hg11920 hs_wr8 (by decide) (by decide))) (xv_a hg10561 (xne hs_wr8 hs_w85 (by decide))))]; exact hqr9) (xRi.kp v12533 (by omega) (fun x9 q1 q2 => (show xv g12544 w85 x9 = xv g11920 w85 x9 from by rw [(xv_k (i := x9) hg12544 (by omega) (by omega) (by omega))])) (fun x9 q1 q2 => (show xv g12544 w86 x9 = xv g11920 w86 x9 from by rw [(xv_a hg12544 (xne hs_w86 hs_w85 (by decide)))])) hF9 hW9 hB9)) hs_a0 ⟨by decide, rfl⟩ dX12_truck_219 rfl rfl (by simp [Value.category]) (by decide) (by decide) (by decide) (by decide) (fun r12545 S12547 g12546 pr12545 qr12545 hg12546 => ?_)
                            obtain ⟨rfl, rfl, z12548, rfl, lz12548, uz12548, k12549⟩ := pr12545
                            refine X_st [.int (iI z12548), .int (iI z11917), .ref w86] rfl ?_
                            refine X_iast hK hs_w86 (by decide) (by decide) sl_19200 (by omega) (by omega) (by omega) (by omega) dX12_truck_222 (fun g12550 hg12550 => ?_)
                            refine X_iloadn hK (i := 3) 2 dX12_truck_223 rfl rfl ?_
                            refine X_iconst hK dX12_truck_224 ?_
                            refine X_iload hK (i := 5) 0 dX12_truck_225 rfl ?_
                            refine X_ishl hK dX12_truck_227 (fun z12551 ez12551 lz12551 uz12551 => ?_)
                            have bz12551 := xshlB 8 ez12551 ⟨lz12551, uz12551⟩ (by omega) (by decide)
                            refine X_ior hK dX12_truck_228 (fun z12552 ez12552 lz12552 uz12552 => ?_)
                            have bz12552 := xiorB 9 ez12552 ⟨lz12552, uz12552⟩ (by omega) (by omega) (by decide)
                            have ho12553 := xorn (m := z12274) (c := z12467) (by omega) (by omega) (by rcases k12541 with q9 | q9; exact q9.2.1; (have h7 := q9.1; clear q9; omega)) ez12551 ez12552 (by omega)
                            refine X_istoren hK (i := 3) [(3, .int (iI z12552)), (5, .int (iI z12467)), (4, .int (iI z11917)), (2, .int (iI z11919)), (1, .int (iI z8446)), (0, .ref a0)] dX12_truck_229 rfl (by decide) rfl ?_
                            refine X_iload hK (i := 4) 2 dX12_truck_230 rfl ?_
                            refine X_iloadn hK (i := 1) 4 dX12_truck_232 rfl rfl ?_
                            refine X_iconst hK dX12_truck_233 ?_
                            refine X_isub hK dX12_truck_234 ?_
                            refine X_icmp_ge hK 252 (by omega) (by omega) dX12_truck_235 (by decide) (fun c12554 => ?_) (fun c12554 => ?_)
                            · refine X_aloadn hK (i := 0) 5 dX12_truck_252 rfl rfl ?_
                              refine X_getK hK fl_X12_189_13 hs_a0 ((xs_a hg12550 (xne hs_a0 hs_w86 (by decide))).trans ((xs_a hg12544 (xne hs_a0 hs_w85 (by decide))).trans ((hg11920 a0 13 0 86 hs_a0 (by decide)).trans ((xs_a hg10561 (xne hs_a0 hs_w85 (by decide))).trans ((hg8447 a0 13 0 86 hs_a0 (by decide)).trans ((hg10 a0 13 0 86 hs_a0 (by decide)).trans ((hg3 a0 13 0 86 hs_a0 (by decide)).trans ((xs_k hg1 (by decide)).trans ew86)))))))) dX12_truck_253 ?_
                              refine X_iload hK (i := 4) 2 dX12_truck_256 rfl ?_
                              refine X_ialdK hK hs_w86 (by decide) (by omega) (by omega) (xs_s hg12550) dX12_truck_258 ?_
                              refine X_istoren hK (i := 2) [(2, .int (iI z12548)), (3, .int (iI z12552)), (5, .int (iI z12467)), (4, .int (iI z11917)), (1, .int (iI z8446)), (0, .ref a0)] dX12_truck_259 rfl (by decide) rfl ?_
                              refine X_iconst hK dX12_truck_260 ?_
                              refine X_istore hK (i := 6) [(6, .int (iI 0)), (2, .int (iI z12548)), (3, .int (iI z12552)), (5, .int (iI z12467)), (4, .int (iI z11917)), (1, .int (iI z8446)), (0, .ref a0)] dX12_truck_261 (by decide) rfl ?_
                              have P12590 : ∀ (nP12590 : Nat) (g12585 : xG) (_ : xM [(19000, 0)] S g12550 g12585) (z12584 : Int) (_ : 0 ≤ z12584) (_ : z12584 ≤ 9) (_ : ∀ x9, 0 ≤ x9 → x9 < z12584 → xv g12585 ty8 x9 = xTs f8 (xv g12585 w85 x9)) (_ : z12584 ≤ z8446) (_ : 25 - z12584 < (nP12590 : Int)), X K E 263 [(6, .int (iI z12584)), (2, .int (iI z12548)), (3, .int (iI z12552)), (5, .int (iI z12467)), (4, .int (iI z11917)), (1, .int (iI z8446)), (0, .ref a0)] [] S g12585 0 0 := by
                                intro nP12590
                                induction nP12590 with
                                | zero => intro g12585 hg12585 z12584 lz12584 uz12584 v12591 v12592 mP12590; exact False.elim (by omega)
                                | succ nP12590 ihP12590 =>
                                  intro g12585 hg12585 z12584 lz12584 uz12584 v12591 v12592 mP12590
                                  refine X_iload hK (i := 6) 0 dX12_truck_263 rfl ?_
                                  refine X_iloadn hK (i := 1) 5 dX12_truck_265 rfl rfl ?_
                                  refine X_icmp_ge hK 294 (by omega) (by omega) dX12_truck_266 (by decide) (fun c12593 => ?_) (fun c12593 => ?_)
                                  · refine X_goto hK 118 dX12_truck_294 (by decide) ?_
                                    refine X_lv [(4, .int (iI z11917)), (3, .int (iI z12552)), (2, .int (iI z12548)), (1, .int (iI z8446)), (0, .ref a0)] [4, 2, 1, 5, 6] rfl ?_
                                    exact ihP12256  g12585 (xM.tr (xM_ua (xM_ua (xM.tr xM.rf xLe.rf hg11920 (by decide)) hg12544 hs_w85 (by decide) (by decide)) hg12550 hs_w86 (by decide) (by decide)) xLe.rf hg12585 (by decide)) z11917 (by omega) (by omega) z12552 (by omega) (by omega) z12548 (by omega) (by omega) (by omega) (fun x q1 q2 => by rw [(show xv g12585 w85 x = xv g11920 w85 x from by rw [(xv_m hg12585 hs_w85 (by decide) (by decide)), (xv_a hg12550 (xne hs_w85 hs_w86 (by decide))), (xv_k (i := x) hg12544 (by omega) (by omega) (by omega))])]; exact v12258 x q1 q2) (fun h9 x q1 q2 => by rcases (show x < z11917 ∨ x = z11917 by omega) with c9 | c9 <;> first | (rw [c9]; have h8 := (show xv g12585 w85 z11917 = z12467 from by rw [(xv_m hg12585 hs_w85 (by decide) (by decide)), (xv_a hg12550 (xne hs_w85 hs_w86 (by decide))), xv_s hg12544 (by omega)]); omega) | (rw [(show xv g12585 w85 x = xv g11920 w85 x from by rw [(xv_m hg12585 hs_w85 (by decide) (by decide)), (xv_a hg12550 (xne hs_w85 hs_w86 (by decide))), (xv_k (i := x) hg12544 (by omega) (by omega) (by omega))])]; exact v12259 h9 x q1 (by omega))) (fun h9 => xRi.leaf (z := z12548) (by omega) v12533 (by omega) (by omega) (by rw [show xmn (xv g11920 w85) z11917.toNat = z12274.toNat by omega]; rcases k12541 with q9 | q9; exact q9.2.1; (have h7 := q9.1; clear q9; omega)) (xCo9.cg k12549 (by omega) (fun x9 q1 q2 => (show xv g12544 w85 x9 = xv g11920 w85 x9 from by rw [(xv_k (i := x9) hg12544 (by omega) (by omega) (by omega))]))) (by rcases k12541 with ⟨_, _, z9, c1, c2, c3⟩ | q9; (have h8 := xCo9.in c1 (xCo9.cg k12549 (by omega) (fun x9 q1 q2 => (show xv g12544 w85 x9 = xv g11920 w85 x9 from by rw [(xv_k (i := x9) hg12544 (by omega) (by omega) (by omega))]))); omega); (have h7 := q9.1; clear q9; omega)) (by rcases k12541 with ⟨_, _, z9, c1, c2, c3⟩ | q9; (have h8 := xCo9.in c1 (xCo9.cg k12549 (by omega) (fun x9 q1 q2 => (show xv g12544 w85 x9 = xv g11920 w85 x9 from by rw [(xv_k (i := x9) hg12544 (by omega) (by omega) (by omega))]))); omega); (have h7 := q9.1; clear q9; omega)) (show xv g12585 w85 z11917 = z12467 from by rw [(xv_m hg12585 hs_w85 (by decide) (by decide)), (xv_a hg12550 (xne hs_w85 hs_w86 (by decide))), xv_s hg12544 (by omega)]) (fun i9 hi9 h09 => (show xv g12585 w85 i9 = xv g11920 w85 i9 from by rw [(xv_m hg12585 hs_w85 (by decide) (by decide)), (xv_a hg12550 (xne hs_w85 hs_w86 (by decide))), (xv_k (i := i9) hg12544 (by omega) (by omega) (by omega))])) (fun x9 q1 q2 => (show xv g12585 w86 x9 = xv g11920 w86 x9 from by rw [(xv_m hg12585 hs_w86 (by decide) (by decide)), (xv_k (i := x9) hg12550 (by omega) (by omega) (by omega)), (xv_a hg12544 (xne hs_w86 hs_w85 (by decide)))])) (fun x9 q1 q2 => v12591 x9 q1 (by omega)) (by omega)) (fun h9 => by omega) (by omega) (by have h9 := xdm_adv (f := xv g11920 w85) (f' := xv g12585 w85) (k := z11917) (i := z12467) (by omega) (by omega) (by omega) (show xv g12585 w85 z11917 = z12467 from by rw [(xv_m hg12585 hs_w85 (by decide) (by decide)), (xv_a hg12550 (xne hs_w85 hs_w86 (by decide))), xv_s hg12544 (by omega)]) (fun x q1 q2 => (show xv g12585 w85 x = xv g11920 w85 x from by rw [(xv_m hg12585 hs_w85 (by decide) (by decide)), (xv_a hg12550 (xne hs_w85 hs_w86 (by decide))), (xv_k (i := x) hg12544 (by omega) (by omega) (by omega))])); omega)
                                  · refine X_aloadn hK (i := 0) 6 dX12_truck_269 rfl rfl ?_
                                    refine X_getK hK fl_X12_183_13 hs_a0 ((hg12585 a0 13 0 84 hs_a0 (by decide)).trans ((xs_a hg12550 (xne hs_a0 hs_w86 (by decide))).trans ((xs_a hg12544 (xne hs_a0 hs_w85 (by decide))).trans ((hg11920 a0 13 0 84 hs_a0 (by decide)).trans ((xs_a hg10561 (xne hs_a0 hs_w85 (by decide))).trans ((hg8447 a0 13 0 84 hs_a0 (by decide)).trans ((hg10 a0 13 0 84 hs_a0 (by decide)).trans ((hg3 a0 13 0 84 hs_a0 (by decide)).trans ((xs_k hg1 (by decide)).trans hrm2))))))))) dX12_truck_270 ?_
                                    refine X_iload hK (i := 6) 0 dX12_truck_273 rfl ?_
                                    refine X_aloadn hK (i := 0) 6 dX12_truck_275 rfl rfl ?_
                                    refine X_getK hK fl_X12_180_13 hs_a0 ((hg12585 a0 13 0 83 hs_a0 (by decide)).trans ((xs_a hg12550 (xne hs_a0 hs_w86 (by decide))).trans ((xs_a hg12544 (xne hs_a0 hs_w85 (by decide))).trans ((hg11920 a0 13 0 83 hs_a0 (by decide)).trans ((xs_a hg10561 (xne hs_a0 hs_w85 (by decide))).trans ((hg8447 a0 13 0 83 hs_a0 (by decide)).trans ((hg10 a0 13 0 83 hs_a0 (by decide)).trans ((hg3 a0 13 0 83 hs_a0 (by decide)).trans ((xs_k hg1 (by decide)).trans ew83))))))))) dX12_truck_276 ?_
                                    refine X_aloadn hK (i := 0) 6 dX12_truck_279 rfl rfl ?_
                                    refine X_getK hK fl_X12_186_13 hs_a0 ((hg12585 a0 13 0 85 hs_a0 (by decide)).trans ((xs_a hg12550 (xne hs_a0 hs_w86 (by decide))).trans ((xs_a hg12544 (xne hs_a0 hs_w85 (by decide))).trans ((hg11920 a0 13 0 85 hs_a0 (by decide)).trans ((xs_a hg10561 (xne hs_a0 hs_w85 (by decide))).trans ((hg8447 a0 13 0 85 hs_a0 (by decide)).trans ((hg10 a0 13 0 85 hs_a0 (by decide)).trans ((hg3 a0 13 0 85 hs_a0 (by decide)).trans ((xs_k hg1 (by decide)).trans ew85))))))))) dX12_truck_280 ?_
                                    refine X_iload hK (i := 6) 0 dX12_truck_283 rfl ?_
                                    refine X_iald hK hs_w85 (by decide) sl_19100 (by omega) (by omega) dX12_truck_285 (fun z12594 ez12594 lz12594 uz12594 => ?_)
                                    have ehz12595 : xv g12585 w85 z12584 = z12594 := xv_e (j := z12584) ez12594 (by omega)
                                    have hz12595 : 0 ≤ z12594 ∧ z12594 < z8446 := by have h7 := ehz12595; rcases (show z12584 < z11917 ∨ z12584 = z11917 by omega) with c9 | c9 <;> first | (have h8 := (show xv g12585 w85 z12584 = xv g11920 w85 z12584 from by rw [(xv_m hg12585 hs_w85 (by decide) (by decide)), (xv_a hg12550 (xne hs_w85 hs_w86 (by decide))), (xv_k (i := z12584) hg12544 (by omega) (by omega) (by omega))]); have h6 := v12258 z12584 (by omega) c9; have h5 := v12259 (by omega) z12584 (by omega) (by omega); omega) | (rw [c9] at h7; have h8 := (show xv g12585 w85 z11917 = z12467 from by rw [(xv_m hg12585 hs_w85 (by decide) (by decide)), (xv_a hg12550 (xne hs_w85 hs_w86 (by decide))), xv_s hg12544 (by omega)]); omega)
                                    refine X_iald hK hs_w83 (by decide) sl_18900 (by omega) (by omega) dX12_truck_286 (fun z12596 ez12596 lz12596 uz12596 => ?_)
                                    have ht12597 : xTs f8 z12594 = z12596 := ((show ∀ k, 0 ≤ k → k < z8446 → xv g12585 w83 k = xTs f8 k ∧ 0 ≤ xTs f8 k ∧ xTs f8 k ≤ 9 from (fun k9 q1 q2 => by rw [(Eq.trans (Eq.trans (Eq.trans (Eq.trans (xv_m hg12585 hs_w83 (by decide) (by decide)) (xv_a hg12550 (xne hs_w83 hs_w86 (by decide)))) (xv_a hg12544 (xne hs_w83 hs_w85 (by decide)))) (xv_m hg11920 hs_w83 (by decide) (by decide))) (xv_a hg10561 (xne hs_w83 hs_w85 (by decide))))]; exact hT9 k9 q1 q2)) z12594 (by omega) (by omega)).1.symm.trans (xv_e (j := z12594) ez12596 (by omega))
                                    refine X_iast hK hs_ty8 (by decide) (by decide) sl_19000 (by omega) (by omega) (by omega) (by omega) dX12_truck_287 (fun g12598 hg12598 => ?_)
                                    refine X_iinc hK (i := 6) (z := z12584) (n := 1) 0 [(6, .int (iI (z12584 + 1))), (2, .int (iI z12548)), (3, .int (iI z12552)), (5, .int (iI z12467)), (4, .int (iI z11917)), (1, .int (iI z8446)), (0, .ref a0)] dX12_truck_288 rfl (by decide) rfl ?_
                                    refine X_goto hK 263 dX12_truck_291 (by decide) ?_
                                    exact ihP12590  g12598 (xM_ua (xM.tr xM.rf xLe.rf hg12585 (by decide)) hg12598 hs_ty8 (by decide) (by decide)) (z12584 + 1) (by omega) (by omega) (fun x9 q1 q2 => by rw [(xv_a hg12598 (xne hs_w85 hs_ty8 (by decide)))]; by_cases e9 : x9 = z12584; (rw [e9, (show xv g12598 ty8 z12584 = z12596 from by rw [xv_s hg12598 (by omega)]), (show xv g12585 w85 z12584 = _ from ehz12595), ht12597]); (rw [(show xv g12598 ty8 x9 = xv g12585 ty8 x9 from by rw [(xv_k (i := x9) hg12598 (by omega) (by omega) (by omega))])]; exact v12591 x9 q1 (by omega))) (by omega) (by omega)
                              exact P12590 ((25 - 0 : Int).toNat + 1) g12550 xM.rf 0 (by omega) (by omega) (fun x9 q1 q2 => by omega) (by omega) (by omega)
                            · refine X_iinc hK (i := 4) (z := z11917) (n := 1) 2 [(4, .int (iI (z11917 + 1))), (3, .int (iI z12552)), (5, .int (iI z12467)), (2, .int (iI z11919)), (1, .int (iI z8446)), (0, .ref a0)] dX12_truck_238 rfl (by decide) rfl ?_
                              refine X_aloadn hK (i := 0) 5 dX12_truck_241 rfl rfl ?_
                              refine X_getK hK fl_X12_186_13 hs_a0 ((xs_a hg12550 (xne hs_a0 hs_w86 (by decide))).trans ((xs_a hg12544 (xne hs_a0 hs_w85 (by decide))).trans ((hg11920 a0 13 0 85 hs_a0 (by decide)).trans ((xs_a hg10561 (xne hs_a0 hs_w85 (by decide))).trans ((hg8447 a0 13 0 85 hs_a0 (by decide)).trans ((hg10 a0 13 0 85 hs_a0 (by decide)).trans ((hg3 a0 13 0 85 hs_a0 (by decide)).trans ((xs_k hg1 (by decide)).trans ew85)))))))) dX12_truck_242 ?_
                              refine X_iload hK (i := 4) 0 dX12_truck_245 rfl ?_
                              refine X_iconst hK dX12_truck_247 ?_
                              refine X_iast hK hs_w85 (by decide) (by decide) sl_19100 (by omega) (by omega) (by omega) (by omega) dX12_truck_248 (fun g12599 hg12599 => ?_)
                              refine X_goto hK 118 dX12_truck_249 (by decide) ?_
                              refine X_lv [(4, .int (iI (z11917 + 1))), (3, .int (iI z12552)), (2, .int (iI z11919)), (1, .int (iI z8446)), (0, .ref a0)] [0, 1, 3, 4, 5] rfl ?_
                              exact ihP12256  g12599 (xM_ua (xM_ua (xM_ua (xM.tr xM.rf xLe.rf hg11920 (by decide)) hg12544 hs_w85 (by decide) (by decide)) hg12550 hs_w86 (by decide) (by decide)) hg12599 hs_w85 (by decide) (by decide)) (z11917 + 1) (by omega) (by omega) z12552 (by omega) (by omega) z11919 (by omega) (by omega) (by omega) (fun x q1 q2 => by rcases (show x < z11917 ∨ x = z11917 by omega) with c9 | c9 <;> first | (rw [c9]; have h8 := (show xv g12599 w85 z11917 = z12467 from by rw [(xv_k (i := z11917) hg12599 (by omega) (by omega) (by omega)), (xv_a hg12550 (xne hs_w85 hs_w86 (by decide))), xv_s hg12544 (by omega)]); omega) | (rw [(show xv g12599 w85 x = xv g11920 w85 x from by rw [(xv_k (i := x) hg12599 (by omega) (by omega) (by omega)), (xv_a hg12550 (xne hs_w85 hs_w86 (by decide))), (xv_k (i := x) hg12544 (by omega) (by omega) (by omega))])]; exact v12258 x q1 c9)) (fun h9 x q1 q2 => by rcases (show x < z11917 ∨ x = z11917 ∨ x = (z11917 + 1) by omega) with c9 | c9 | c9 <;> first | (rw [c9]; have h8 := (show xv g12599 w85 z11917 = z12467 from by rw [(xv_k (i := z11917) hg12599 (by omega) (by omega) (by omega)), (xv_a hg12550 (xne hs_w85 hs_w86 (by decide))), xv_s hg12544 (by omega)]); omega) | (rw [c9]; have h8 := (show xv g12599 w85 (z11917 + 1) = (-1) from by rw [xv_s hg12599 (by omega)]); omega) | (rw [(show xv g12599 w85 x = xv g11920 w85 x from by rw [(xv_k (i := x) hg12599 (by omega) (by omega) (by omega)), (xv_a hg12550 (xne hs_w85 hs_w86 (by decide))), (xv_k (i := x) hg12544 (by omega) (by omega) (by omega))])]; exact v12259 h9 x q1 (by omega))) (fun h9 => xRi.push (z := z12548) (by omega) v12533 (by omega) (by omega) (by rw [show xmn (xv g11920 w85) z11917.toNat = z12274.toNat by omega]; rcases k12541 with q9 | q9; exact q9.2.1; (have h7 := q9.1; clear q9; omega)) (xCo9.cg k12549 (by omega) (fun x9 q1 q2 => (show xv g12544 w85 x9 = xv g11920 w85 x9 from by rw [(xv_k (i := x9) hg12544 (by omega) (by omega) (by omega))]))) (by rcases k12541 with ⟨_, _, z9, c1, c2, c3⟩ | q9; (have h8 := xCo9.in c1 (xCo9.cg k12549 (by omega) (fun x9 q1 q2 => (show xv g12544 w85 x9 = xv g11920 w85 x9 from by rw [(xv_k (i := x9) hg12544 (by omega) (by omega) (by omega))]))); omega); (have h7 := q9.1; clear q9; omega)) (show xv g12599 w85 z11917 = z12467 from by rw [(xv_k (i := z11917) hg12599 (by omega) (by omega) (by omega)), (xv_a hg12550 (xne hs_w85 hs_w86 (by decide))), xv_s hg12544 (by omega)]) (fun i9 hi9 h09 h19 => (show xv g12599 w85 i9 = xv g11920 w85 i9 from by rw [(xv_k (i := i9) hg12599 (by omega) (by omega) (by omega)), (xv_a hg12550 (xne hs_w85 hs_w86 (by decide))), (xv_k (i := i9) hg12544 (by omega) (by omega) (by omega))])) (show xv g12599 w85 (z11917 + 1) = (-1) from by rw [xv_s hg12599 (by omega)]) (show xv g12599 w86 z11917 = z12548 from by rw [(xv_a hg12599 (xne hs_w86 hs_w85 (by decide))), xv_s hg12550 (by omega)]) (fun i9 hi9 h09 => (show xv g12599 w86 i9 = xv g11920 w86 i9 from by rw [(xv_a hg12599 (xne hs_w86 hs_w85 (by decide))), (xv_k (i := i9) hg12550 (by omega) (by omega) (by omega)), (xv_a hg12544 (xne hs_w86 hs_w85 (by decide)))])) (fun x9 _ => by rw [(Eq.trans (Eq.trans (xv_a hg12599 (xne hs_ty8 hs_w85 (by decide))) (xv_a hg12550 (xne hs_ty8 hs_w86 (by decide)))) (xv_a hg12544 (xne hs_ty8 hs_w85 (by decide))))]) (by omega)) (fun h9 x9 q1 q2 => by rw [(Eq.trans (Eq.trans (xv_a hg12599 (xne hs_ty8 hs_w85 (by decide))) (xv_a hg12550 (xne hs_ty8 hs_w86 (by decide)))) (xv_a hg12544 (xne hs_ty8 hs_w85 (by decide))))]; exact v12261 h9 x9 q1 q2) (by omega) (by have h9 := xdm_push (f := xv g11920 w85) (f' := xv g12599 w85) (k := z11917) (i := z12467) (by omega) (by omega) (by omega) (show xv g12599 w85 z11917 = z12467 from by rw [(xv_k (i := z11917) hg12599 (by omega) (by omega) (by omega)), (xv_a hg12550 (xne hs_w85 hs_w86 (by decide))), xv_s hg12544 (by omega)]) (show xv g12599 w85 (z11917 + 1) = (-1) from by rw [xv_s hg12599 (by omega)]) (fun x q1 q2 => (show xv g12599 w85 x = xv g11920 w85 x from by rw [(xv_k (i := x) hg12599 (by omega) (by omega) (by omega)), (xv_a hg12550 (xne hs_w85 hs_w86 (by decide))), (xv_k (i := x) hg12544 (by omega) (by omega) (by omega))])); omega)
                          · refine X_iinc hK (i := 5) (z := z12467) (n := 1) 0 [(5, .int (iI (z12467 + 1))), (4, .int (iI z11917)), (3, .int (iI z12274)), (2, .int (iI z11919)), (1, .int (iI z8446)), (0, .ref a0)] dX12_truck_181 rfl (by decide) rfl ?_
                            refine X_goto hK 162 dX12_truck_184 (by decide) ?_
                            exact ihP12530  (z12467 + 1) (by omega) (by omega) (by omega) (by omega) (xRi.skip v12533 (by omega) (by omega) (by omega) hW9 (by rcases k12541 with q9 | q9; (have h7 := q9.1; clear q9; omega); exact q9.2.imp (fun w9 => by rw [show xmn (xv g11920 w85) z11917.toNat = z12274.toNat by omega]; exact w9) (fun w9 => w9))) (by omega) (by omega)
                    exact P12530 ((25 - (z12268 + 1) : Int).toNat + 1) (z12268 + 1) (by omega) (by omega) (by omega) (by omega) (by have h9 := xRk.ri (v12260 (by omega)) (by omega); rw [hw12269] at h9; exact h9) m12276 (by omega)
                  refine X_if_lt hK 151 (by omega) dX12_truck_134 (by decide) (fun c12270 => ?_) (fun c12270 => ?_)
                  · exact J12275 z11918 (by omega) (by omega) (by have h9 := ((v12260 (by omega)).1 (by omega)).2.1; rw [hw12269, if_pos (by omega)] at h9; omega)
                  · refine X_iloadn hK (i := 3) 1 dX12_truck_137 rfl rfl ?_
                    refine X_iconst hK dX12_truck_138 ?_
                    refine X_aloadn hK (i := 0) 4 dX12_truck_139 rfl rfl ?_
                    refine X_getK hK fl_X12_186_13 hs_a0 ((hg11920 a0 13 0 85 hs_a0 (by decide)).trans ((xs_a hg10561 (xne hs_a0 hs_w85 (by decide))).trans ((hg8447 a0 13 0 85 hs_a0 (by decide)).trans ((hg10 a0 13 0 85 hs_a0 (by decide)).trans ((hg3 a0 13 0 85 hs_a0 (by decide)).trans ((xs_k hg1 (by decide)).trans ew85)))))) dX12_truck_140 ?_
                    refine X_iload hK (i := 4) 0 dX12_truck_143 rfl ?_
                    refine X_ialdK hK hs_w85 (by decide) (by omega) (by omega) ez12268 dX12_truck_145 ?_
                    refine X_ishl hK dX12_truck_146 (fun z12600 ez12600 lz12600 uz12600 => ?_)
                    have bz12600 := xshlB 8 ez12600 ⟨lz12600, uz12600⟩ (by omega) (by decide)
                    refine X_iconst hK dX12_truck_147 ?_
                    refine X_ixor hK dX12_truck_148 (fun z12601 ez12601 lz12601 uz12601 => ?_)
                    refine X_iand hK dX12_truck_149 (fun z12602 ez12602 lz12602 uz12602 => ?_)
                    have hh12603 := xRk.had (by omega) (v12260 (by omega)) (k := z11917) (by omega) (by rw [hw12269]; omega)
                    rw [hw12269] at hh12603
                    have nhh12603 := xandn (m := z11918) (c := z12268) hh12603.1 (by omega) hh12603.2.1 ez12600 ez12601 ez12602 (by omega)
                    refine X_istoren hK (i := 3) [(3, .int (iI z12602)), (4, .int (iI z11917)), (2, .int (iI z11919)), (1, .int (iI z8446)), (0, .ref a0)] dX12_truck_150 rfl (by decide) rfl ?_
                    refine X_lv [(4, .int (iI z11917)), (3, .int (iI z12602)), (2, .int (iI z11919)), (1, .int (iI z8446)), (0, .ref a0)] [1, 0, 2, 3, 4] rfl ?_
                    exact J12275 z12602 (by omega) (by omega) (by have h9 := hh12603.2.2; have h8 := nhh12603; omega)
            exact P12256 ((((xdm (xv g10561 w85) 0 : Nat) : Int) : Int).toNat + 1) g10561 xM.rf 0 (by omega) (by omega) 0 (by omega) (by omega) 100000 (by omega) (by omega) (by omega) (fun x q1 q2 => by omega) (fun h9 x q1 q2 => by rw [show x = 0 by omega]; have h8 := (show xv g10561 w85 0 = (-1) from by rw [xv_s hg10561 (by omega)]); omega) (fun h9 => xRk.ini (by omega) (show xv g10561 w85 0 = (-1) from by rw [xv_s hg10561 (by omega)])) (fun _ x9 _ _ => by rw [(Eq.trans (Eq.trans (Eq.trans (Eq.trans (xv_a hg10561 (xne hs_ty8 hs_w85 (by decide))) (xv_m hg8447 hs_ty8 (by decide) (by decide))) (xv_m hg10 hs_ty8 (by decide) (by decide))) (xv_m hg3 hs_ty8 (by decide) (by decide))) (xv_a hg1 (xne hs_ty8 hs_a0 (by decide))))]) (by omega) xms9
          · refine X_iconst hK dX12_truck_94 ?_
            refine X_goto hK 101 dX12_truck_95 (by decide) ?_
            refine X_istoren hK (i := 2) [(2, .int (iI 0)), (1, .int (iI z8446)), (0, .ref a0)] dX12_truck_101 rfl (by decide) rfl ?_
            refine X_iconst hK dX12_truck_102 ?_
            refine X_istoren hK (i := 3) [(3, .int (iI 0)), (2, .int (iI 0)), (1, .int (iI z8446)), (0, .ref a0)] dX12_truck_103 rfl (by decide) rfl ?_
            refine X_iconst hK dX12_truck_104 ?_
            refine X_istore hK (i := 4) [(4, .int (iI 0)), (3, .int (iI 0)), (2, .int (iI 0)), (1, .int (iI z8446)), (0, .ref a0)] dX12_truck_105 (by decide) rfl ?_
            refine X_iloadn hK (i := 1) 3 dX12_truck_107 rfl rfl ?_
            refine X_if_le hK 118 (by omega) dX12_truck_108 (by decide) (fun c12604 => ?_) (fun c12604 => False.elim (by omega))
            have P12649 : ∀ (nP12649 : Nat) (z12638 : Int) (_ : (-1) ≤ z12638) (_ : z12638 ≤ 8) (z12639 : Int) (_ : 0 ≤ z12639) (_ : z12639 ≤ 511) (z12640 : Int) (_ : 0 ≤ z12640) (_ : z12640 ≤ 100000) (_ : z12638 < z8446 ∨ z8446 = 0) (_ : ∀ x, 0 ≤ x → x < z12638 → 0 ≤ xv g8447 w85 x) (_ : 0 < z8446 → ∀ x, 0 ≤ x → x ≤ z12638 → xv g8447 w85 x < z8446) (_ : 0 < z8446 → xRk z8446 (xF9 Q8 (xTs f8)) (xW9 Q8 (xTs f8)) (xTb9 f8) (xTs f8) z12638 z12639 z12640 (xv g8447 w85) (xv g8447 w86) (xv g8447 ty8)) (_ : z12640 = 100000 → ∀ x9, 0 ≤ x9 → x9 < 9 → xv g8447 ty8 x9 = xv g ty8 x9) (_ : z8446 = 0 → z12640 = 0) (_ : ((xdm (xv g8447 w85) z12638 : Nat) : Int) < (nP12649 : Int)), X K E 118 [(4, .int (iI z12638)), (3, .int (iI z12639)), (2, .int (iI z12640)), (1, .int (iI z8446)), (0, .ref a0)] [] S g8447 0 0 := by
              intro nP12649
              induction nP12649 with
              | zero => intro z12638 lz12638 uz12638 z12639 lz12639 uz12639 z12640 lz12640 uz12640 v12650 v12651 v12652 v12653 v12654 v12655 mP12649; exact False.elim (by omega)
              | succ nP12649 ihP12649 =>
                intro z12638 lz12638 uz12638 z12639 lz12639 uz12639 z12640 lz12640 uz12640 v12650 v12651 v12652 v12653 v12654 v12655 mP12649
                refine X_iload hK (i := 4) 0 dX12_truck_118 rfl ?_
                refine X_if_lt hK 297 (by omega) dX12_truck_120 (by decide) (fun c12656 => ?_) (fun c12656 => ?_)
                · refine X_iloadn hK (i := 2) 2 dX12_truck_297 rfl rfl ?_
                  refine X_ldcw hK (n := 100000) dX12_truck_298 m_55_15 (by decide) ?_
                  refine X_icmp_ne hK 306 (by omega) (by omega) dX12_truck_301 (by decide) (fun c12657 => ?_) (fun c12657 => ?_)
                  · refine X_aloadn hK (i := 0) 4 dX12_truck_306 rfl rfl ?_
                    refine X_iloadn hK (i := 1) 3 dX12_truck_307 rfl rfl ?_
                    refine X_puti hK fl_X12_474_13 hs_a0 (by decide) sl_13_87 (by omega) (by omega) dX12_truck_308 (fun g12658 hg12658 => ?_)
                    refine X_aloadn hK (i := 0) 4 dX12_truck_311 rfl rfl ?_
                    refine X_iconst hK dX12_truck_312 ?_
                    refine X_putz hK fl_X12_477_13 hs_a0 (by decide) sl_13_88 (by omega) (by omega) dX12_truck_313 (fun g12659 hg12659 => ?_)
                    refine X_iloadn hK (i := 2) 2 dX12_truck_316 rfl rfl ?_
                    exact hret _ _ _ _ _ _ _ dX12_truck_317 ⟨rfl, z12640, rfl, (by omega), (by omega), (((xs_k hg12659 (by decide)).trans ((xs_k hg12658 (by decide)).trans ((hg8447 a0 13 0 2 hs_a0 (by decide)).trans ((hg10 a0 13 0 2 hs_a0 (by decide)).trans k7)))).trans (by congr 2 <;> omega)), ⟨z8446, xv g12659 ty8, ⟨ty8, wr8, z8446, 1, 1, hs_a0, ((xs_k hg12659 (by decide)).trans ((xs_k hg12658 (by decide)).trans ((hg8447 a0 13 0 84 hs_a0 (by decide)).trans ((hg10 a0 13 0 84 hs_a0 (by decide)).trans ((hg3 a0 13 0 84 hs_a0 (by decide)).trans ((xs_k hg1 (by decide)).trans hrm2)))))), hs_ty8, ((xs_k hg12659 (by decide)).trans (xs_s hg12658)), by omega, by omega, (xs_s hg12659), (Or.inr ⟨rfl, rfl⟩), rfl, ((xs_k hg12659 (by decide)).trans ((xs_k hg12658 (by decide)).trans ((hg8447 a0 13 0 15 hs_a0 (by decide)).trans ((hg10 a0 13 0 15 hs_a0 (by decide)).trans ((hg3 a0 13 0 15 hs_a0 (by decide)).trans ((xs_k hg1 (by decide)).trans hrm10)))))), hs_wr8, ((xs_k hg12659 (by decide)).trans ((xs_k hg12658 (by decide)).trans ((hg8447 a0 13 0 18 hs_a0 (by decide)).trans k12))), (Or.inr ⟨rfl, (by rw [(Eq.trans (xv_a hg12659 (xne hs_wr8 hs_a0 (by decide))) (xv_a hg12658 (xne hs_wr8 hs_a0 (by decide))))]; exact hqr9)⟩)⟩, (Or.inr ⟨by omega, by rcases (show z8446 = 0 ∨ 0 < z8446 by omega) with c9 | c9; (have h9 := v12655 c9; exact Or.inl ⟨by omega, by omega, by omega⟩); (rcases (xRk.fin (n := z8446) (B := xTb9 f8) (show 1 ≤ z8446 by omega) (fun i9 q1 q2 => by have h9 := hB9 i9 q1 q2; omega) (show xRk z8446 (xF9 Q8 (xTs f8)) (xW9 Q8 (xTs f8)) (xTb9 f8) (xTs f8) (-1) z12639 z12640 (xv g8447 w85) (xv g8447 w86) (xv g8447 ty8) from (by have h9 := v12653 c9; rw [show z12638 = -1 by omega] at h9; exact h9))) with ⟨h8, _⟩ | ⟨_, c8, h8, h7⟩; omega; exact Or.inr (Or.inr ⟨by omega, hnn, c8, (by rw [← hnn]; exact h8), (by rw [← hnn]; rw [(Eq.trans (xv_a hg12659 (xne hs_ty8 hs_a0 (by decide))) (xv_a hg12658 (xne hs_ty8 hs_a0 (by decide))))]; exact h7)⟩))⟩)⟩⟩ (Nat.le_refl _) (Nat.le_refl _)
                  · refine X_iconst hK dX12_truck_304 ?_
                    exact hret _ _ _ _ _ _ _ dX12_truck_305 ⟨rfl, (-1), rfl, (by omega), (by omega), (((hg8447 a0 13 0 2 hs_a0 (by decide)).trans ((hg10 a0 13 0 2 hs_a0 (by decide)).trans k7)).trans (by congr 2 <;> omega)), ⟨n8, xv g8447 ty8, ⟨ty8, wr8, m8, z8, 1, hs_a0, ((hg8447 a0 13 0 84 hs_a0 (by decide)).trans ((hg10 a0 13 0 84 hs_a0 (by decide)).trans ((hg3 a0 13 0 84 hs_a0 (by decide)).trans ((xs_k hg1 (by decide)).trans hrm2)))), hs_ty8, ((hg8447 a0 13 0 87 hs_a0 (by decide)).trans ((hg10 a0 13 0 87 hs_a0 (by decide)).trans ((hg3 a0 13 0 87 hs_a0 (by decide)).trans ((xs_k hg1 (by decide)).trans hrm4)))), by omega, by omega, ((hg8447 a0 13 0 88 hs_a0 (by decide)).trans ((hg10 a0 13 0 88 hs_a0 (by decide)).trans ((hg3 a0 13 0 88 hs_a0 (by decide)).trans ((xs_k hg1 (by decide)).trans hrm7)))), hrm8, rfl, ((hg8447 a0 13 0 15 hs_a0 (by decide)).trans ((hg10 a0 13 0 15 hs_a0 (by decide)).trans ((hg3 a0 13 0 15 hs_a0 (by decide)).trans ((xs_k hg1 (by decide)).trans hrm10)))), hs_wr8, ((hg8447 a0 13 0 18 hs_a0 (by decide)).trans k12), (Or.inr ⟨rfl, hqr9⟩)⟩, (Or.inr ⟨by omega, by rcases (show z8446 = 0 ∨ 0 < z8446 by omega) with c9 | c9; (have h9 := v12655 c9; omega); (rcases (xRk.fin (n := z8446) (B := xTb9 f8) (show 1 ≤ z8446 by omega) (fun i9 q1 q2 => by have h9 := hB9 i9 q1 q2; omega) (show xRk z8446 (xF9 Q8 (xTs f8)) (xW9 Q8 (xTs f8)) (xTb9 f8) (xTs f8) (-1) z12639 z12640 (xv g8447 w85) (xv g8447 w86) (xv g8447 ty8) from (by have h9 := v12653 c9; rw [show z12638 = -1 by omega] at h9; exact h9))) with ⟨_, h8⟩ | ⟨h8, _⟩; (exact Or.inr (Or.inl ⟨by omega, rfl, rfl, (fun x9 q1 q2 => by rw [v12654 (by omega) x9 q1 q2, hY8]), by rw [← hnn]; exact h8⟩)); omega)⟩)⟩⟩ (Nat.le_refl _) (Nat.le_refl _)
                · refine X_iloadn hK (i := 1) 3 dX12_truck_123 rfl rfl ?_
                  refine X_if_le hK 297 (by omega) dX12_truck_124 (by decide) (fun c12660 => ?_) (fun c12660 => False.elim (by omega))
                  refine X_iloadn hK (i := 2) 2 dX12_truck_297 rfl rfl ?_
                  refine X_ldcw hK (n := 100000) dX12_truck_298 m_55_15 (by decide) ?_
                  refine X_icmp_ne hK 306 (by omega) (by omega) dX12_truck_301 (by decide) (fun c12661 => ?_) (fun c12661 => ?_)
                  · refine X_aloadn hK (i := 0) 4 dX12_truck_306 rfl rfl ?_
                    refine X_iloadn hK (i := 1) 3 dX12_truck_307 rfl rfl ?_
                    refine X_puti hK fl_X12_474_13 hs_a0 (by decide) sl_13_87 (by omega) (by omega) dX12_truck_308 (fun g12662 hg12662 => ?_)
                    refine X_aloadn hK (i := 0) 4 dX12_truck_311 rfl rfl ?_
                    refine X_iconst hK dX12_truck_312 ?_
                    refine X_putz hK fl_X12_477_13 hs_a0 (by decide) sl_13_88 (by omega) (by omega) dX12_truck_313 (fun g12663 hg12663 => ?_)
                    refine X_iloadn hK (i := 2) 2 dX12_truck_316 rfl rfl ?_
                    exact hret _ _ _ _ _ _ _ dX12_truck_317 ⟨rfl, z12640, rfl, (by omega), (by omega), (((xs_k hg12663 (by decide)).trans ((xs_k hg12662 (by decide)).trans ((hg8447 a0 13 0 2 hs_a0 (by decide)).trans ((hg10 a0 13 0 2 hs_a0 (by decide)).trans k7)))).trans (by congr 2 <;> omega)), ⟨z8446, xv g12663 ty8, ⟨ty8, wr8, z8446, 1, 1, hs_a0, ((xs_k hg12663 (by decide)).trans ((xs_k hg12662 (by decide)).trans ((hg8447 a0 13 0 84 hs_a0 (by decide)).trans ((hg10 a0 13 0 84 hs_a0 (by decide)).trans ((hg3 a0 13 0 84 hs_a0 (by decide)).trans ((xs_k hg1 (by decide)).trans hrm2)))))), hs_ty8, ((xs_k hg12663 (by decide)).trans (xs_s hg12662)), by omega, by omega, (xs_s hg12663), (Or.inr ⟨rfl, rfl⟩), rfl, ((xs_k hg12663 (by decide)).trans ((xs_k hg12662 (by decide)).trans ((hg8447 a0 13 0 15 hs_a0 (by decide)).trans ((hg10 a0 13 0 15 hs_a0 (by decide)).trans ((hg3 a0 13 0 15 hs_a0 (by decide)).trans ((xs_k hg1 (by decide)).trans hrm10)))))), hs_wr8, ((xs_k hg12663 (by decide)).trans ((xs_k hg12662 (by decide)).trans ((hg8447 a0 13 0 18 hs_a0 (by decide)).trans k12))), (Or.inr ⟨rfl, (by rw [(Eq.trans (xv_a hg12663 (xne hs_wr8 hs_a0 (by decide))) (xv_a hg12662 (xne hs_wr8 hs_a0 (by decide))))]; exact hqr9)⟩)⟩, (Or.inr ⟨by omega, by rcases (show z8446 = 0 ∨ 0 < z8446 by omega) with c9 | c9; (have h9 := v12655 c9; exact Or.inl ⟨by omega, by omega, by omega⟩); (rcases (xRk.fin (n := z8446) (B := xTb9 f8) (show 1 ≤ z8446 by omega) (fun i9 q1 q2 => by have h9 := hB9 i9 q1 q2; omega) (show xRk z8446 (xF9 Q8 (xTs f8)) (xW9 Q8 (xTs f8)) (xTb9 f8) (xTs f8) (-1) z12639 z12640 (xv g8447 w85) (xv g8447 w86) (xv g8447 ty8) from (by have h9 := v12653 c9; rw [show z12638 = -1 by omega] at h9; exact h9))) with ⟨h8, _⟩ | ⟨_, c8, h8, h7⟩; omega; exact Or.inr (Or.inr ⟨by omega, hnn, c8, (by rw [← hnn]; exact h8), (by rw [← hnn]; rw [(Eq.trans (xv_a hg12663 (xne hs_ty8 hs_a0 (by decide))) (xv_a hg12662 (xne hs_ty8 hs_a0 (by decide))))]; exact h7)⟩))⟩)⟩⟩ (Nat.le_refl _) (Nat.le_refl _)
                  · refine X_iconst hK dX12_truck_304 ?_
                    exact hret _ _ _ _ _ _ _ dX12_truck_305 ⟨rfl, (-1), rfl, (by omega), (by omega), (((hg8447 a0 13 0 2 hs_a0 (by decide)).trans ((hg10 a0 13 0 2 hs_a0 (by decide)).trans k7)).trans (by congr 2 <;> omega)), ⟨n8, xv g8447 ty8, ⟨ty8, wr8, m8, z8, 1, hs_a0, ((hg8447 a0 13 0 84 hs_a0 (by decide)).trans ((hg10 a0 13 0 84 hs_a0 (by decide)).trans ((hg3 a0 13 0 84 hs_a0 (by decide)).trans ((xs_k hg1 (by decide)).trans hrm2)))), hs_ty8, ((hg8447 a0 13 0 87 hs_a0 (by decide)).trans ((hg10 a0 13 0 87 hs_a0 (by decide)).trans ((hg3 a0 13 0 87 hs_a0 (by decide)).trans ((xs_k hg1 (by decide)).trans hrm4)))), by omega, by omega, ((hg8447 a0 13 0 88 hs_a0 (by decide)).trans ((hg10 a0 13 0 88 hs_a0 (by decide)).trans ((hg3 a0 13 0 88 hs_a0 (by decide)).trans ((xs_k hg1 (by decide)).trans hrm7)))), hrm8, rfl, ((hg8447 a0 13 0 15 hs_a0 (by decide)).trans ((hg10 a0 13 0 15 hs_a0 (by decide)).trans ((hg3 a0 13 0 15 hs_a0 (by decide)).trans ((xs_k hg1 (by decide)).trans hrm10)))), hs_wr8, ((hg8447 a0 13 0 18 hs_a0 (by decide)).trans k12), (Or.inr ⟨rfl, hqr9⟩)⟩, (Or.inr ⟨by omega, by rcases (show z8446 = 0 ∨ 0 < z8446 by omega) with c9 | c9; (have h9 := v12655 c9; omega); (rcases (xRk.fin (n := z8446) (B := xTb9 f8) (show 1 ≤ z8446 by omega) (fun i9 q1 q2 => by have h9 := hB9 i9 q1 q2; omega) (show xRk z8446 (xF9 Q8 (xTs f8)) (xW9 Q8 (xTs f8)) (xTb9 f8) (xTs f8) (-1) z12639 z12640 (xv g8447 w85) (xv g8447 w86) (xv g8447 ty8) from (by have h9 := v12653 c9; rw [show z12638 = -1 by omega] at h9; exact h9))) with ⟨_, h8⟩ | ⟨h8, _⟩; (exact Or.inr (Or.inl ⟨by omega, rfl, rfl, (fun x9 q1 q2 => by rw [v12654 (by omega) x9 q1 q2, hY8]), by rw [← hnn]; exact h8⟩)); omega)⟩)⟩⟩ (Nat.le_refl _) (Nat.le_refl _)
            exact P12649 ((((xdm (xv g8447 w85) 0 : Nat) : Int) : Int).toNat + 1) 0 (by omega) (by omega) 0 (by omega) (by omega) 0 (by omega) (by omega) (by omega) (fun x q1 q2 => by omega) (fun h9 => by omega) (fun h9 => by omega) (fun _ x9 _ _ => by rw [(Eq.trans (Eq.trans (Eq.trans (xv_m hg8447 hs_ty8 (by decide) (by decide)) (xv_m hg10 hs_ty8 (by decide) (by decide))) (xv_m hg3 hs_ty8 (by decide) (by decide))) (xv_a hg1 (xne hs_ty8 hs_a0 (by decide))))]) (by omega) xms9
        · refine X_aloadn hK (i := 0) 2 dX12_truck_30 rfl rfl ?_
          refine X_getK hK fl_X12_177_13 hs_a0 ((hg8447 a0 13 0 82 hs_a0 (by decide)).trans ((hg10 a0 13 0 82 hs_a0 (by decide)).trans ((hg3 a0 13 0 82 hs_a0 (by decide)).trans ((xs_k hg1 (by decide)).trans ew82)))) dX12_truck_31 ?_
          refine X_iloadn hK (i := 2) 0 dX12_truck_34 rfl rfl ?_
          refine X_sipush hK dX12_truck_35 (by decide) ?_
          refine X_aloadn hK (i := 0) 2 dX12_truck_38 rfl rfl ?_
          refine X_getK hK fl_X12_7_13 hs_a0 ((hg8447 a0 13 0 1 hs_a0 (by decide)).trans ((hg10 a0 13 0 1 hs_a0 (by decide)).trans ((hg3 a0 13 0 1 hs_a0 (by decide)).trans ((xs_k hg1 (by decide)).trans ey0)))) dX12_truck_39 ?_
          refine X_iconst hK dX12_truck_42 ?_
          refine X_iloadn hK (i := 2) 0 dX12_truck_43 rfl rfl ?_
          refine X_imul hK dX12_truck_44 ?_
          refine X_iald hK hs_y0 (by decide) sl_14100 (by omega) (by omega) dX12_truck_45 (fun z12664 ez12664 lz12664 uz12664 => ?_)
          have hl12665 : xv g y0 (2 * z8445) = z12664 := xv_e (j := (2 * z8445)) (((((hg8447 _ _ _ _ hs_y0 (by rw [xky_a (by decide)]; decide)).trans (hg10 _ _ _ _ hs_y0 (by rw [xky_a (by decide)]; decide))).trans (hg3 _ _ _ _ hs_y0 (by rw [xky_a (by decide)]; decide))).trans (xs_a hg1 (xne hs_y0 hs_a0 (by decide)))).symm.trans ez12664) (by omega)
          have hb12666 : f8 (2 * z8445) = z12664 := (hp1 (by omega) (2 * z8445) (by omega) (by omega)).symm.trans hl12665
          refine X_imul hK dX12_truck_46 ?_
          refine X_aloadn hK (i := 0) 2 dX12_truck_47 rfl rfl ?_
          refine X_getK hK fl_X12_7_13 hs_a0 ((hg8447 a0 13 0 1 hs_a0 (by decide)).trans ((hg10 a0 13 0 1 hs_a0 (by decide)).trans ((hg3 a0 13 0 1 hs_a0 (by decide)).trans ((xs_k hg1 (by decide)).trans ey0)))) dX12_truck_48 ?_
          refine X_iconst hK dX12_truck_51 ?_
          refine X_iloadn hK (i := 2) 0 dX12_truck_52 rfl rfl ?_
          refine X_imul hK dX12_truck_53 ?_
          refine X_iconst hK dX12_truck_54 ?_
          refine X_iadd hK dX12_truck_55 ?_
          refine X_iald hK hs_y0 (by decide) sl_14100 (by omega) (by omega) dX12_truck_56 (fun z12667 ez12667 lz12667 uz12667 => ?_)
          have hl12668 : xv g y0 ((2 * z8445) + 1) = z12667 := xv_e (j := ((2 * z8445) + 1)) (((((hg8447 _ _ _ _ hs_y0 (by rw [xky_a (by decide)]; decide)).trans (hg10 _ _ _ _ hs_y0 (by rw [xky_a (by decide)]; decide))).trans (hg3 _ _ _ _ hs_y0 (by rw [xky_a (by decide)]; decide))).trans (xs_a hg1 (xne hs_y0 hs_a0 (by decide)))).symm.trans ez12667) (by omega)
          have hb12669 : f8 ((2 * z8445) + 1) = z12667 := (hp1 (by omega) ((2 * z8445) + 1) (by omega) (by omega)).symm.trans hl12668
          refine X_iadd hK dX12_truck_57 ?_
          have hx12670 : xpr f8 z8445 = ((256 * z12664) + z12667) := by unfold xpr; rw [show f8 (2 * z8445) = _ from hb12666, show f8 (2 * z8445 + 1) = _ from hb12669]
          refine X_iast hK hs_w82 (by decide) (by decide) sl_18800 (by omega) (by omega) (by omega) (by omega) dX12_truck_58 (fun g12671 hg12671 => ?_)
          refine X_aloadn hK (i := 0) 2 dX12_truck_59 rfl rfl ?_
          refine X_getK hK fl_X12_177_13 hs_a0 ((xs_a hg12671 (xne hs_a0 hs_w82 (by decide))).trans ((hg8447 a0 13 0 82 hs_a0 (by decide)).trans ((hg10 a0 13 0 82 hs_a0 (by decide)).trans ((hg3 a0 13 0 82 hs_a0 (by decide)).trans ((xs_k hg1 (by decide)).trans ew82))))) dX12_truck_60 ?_
          refine X_iloadn hK (i := 2) 0 dX12_truck_63 rfl rfl ?_
          refine X_ialdK hK hs_w82 (by decide) (by omega) (by omega) (xs_s hg12671) dX12_truck_64 ?_
          refine X_ldcw hK (n := 65535) dX12_truck_65 m_55_14 (by decide) ?_
          refine X_icmp_ne hK 74 (by omega) (by omega) dX12_truck_68 (by decide) (fun c12672 => ?_) (fun c12672 => ?_)
          · refine X_aloadn hK (i := 0) 2 dX12_truck_74 rfl rfl ?_
            refine X_getK hK fl_X12_180_13 hs_a0 ((xs_a hg12671 (xne hs_a0 hs_w82 (by decide))).trans ((hg8447 a0 13 0 83 hs_a0 (by decide)).trans ((hg10 a0 13 0 83 hs_a0 (by decide)).trans ((hg3 a0 13 0 83 hs_a0 (by decide)).trans ((xs_k hg1 (by decide)).trans ew83))))) dX12_truck_75 ?_
            refine X_iloadn hK (i := 1) 1 dX12_truck_78 rfl rfl ?_
            refine X_iloadn hK (i := 2) 0 dX12_truck_79 rfl rfl ?_
            refine X_iast hK hs_w83 (by decide) (by decide) sl_18900 (by omega) (by omega) (by omega) (by omega) dX12_truck_80 (fun g12673 hg12673 => ?_)
            refine X_iinc hK (i := 1) (z := z8446) (n := 1) 1 [(1, .int (iI (z8446 + 1))), (2, .int (iI z8445)), (0, .ref a0)] dX12_truck_81 rfl (by decide) rfl ?_
            refine X_iinc hK (i := 2) (z := z8445) (n := 1) 1 [(2, .int (iI (z8445 + 1))), (1, .int (iI (z8446 + 1))), (0, .ref a0)] dX12_truck_84 rfl (by decide) rfl ?_
            refine X_goto hK 24 dX12_truck_87 (by decide) ?_
            exact ihP10553  g12673 (xM_ua (xM_ua (xM.tr xM.rf xLe.rf hg8447 (by decide)) hg12671 hs_w82 (by decide) (by decide)) hg12673 hs_w83 (by decide) (by decide)) (z8445 + 1) (by omega) (by omega) (z8446 + 1) (by omega) (by omega) (by omega) (by rw [show z8445 + 1 - 1 = (z8445 - 1) + 1 by omega]; exact xSq.add v10555 (by omega) (by omega) (by rw [show z8445 - 1 + 1 = z8445 by omega, hx12670]; omega) (by have h8 := (show xv g12673 w83 z8446 = z8445 from by rw [xv_s hg12673 (by omega)]); omega) (fun i9 hi9 h09 => (show xv g12673 w83 i9 = xv g8447 w83 i9 from by rw [(xv_k (i := i9) hg12673 (by omega) (by omega) (by omega)), (xv_a hg12671 (xne hs_w83 hs_w82 (by decide)))]))) (fun k9 q1 q2 => by by_cases e9 : k9 = z8446; (rw [e9, (show xv g12673 w83 z8446 = z8445 from by rw [xv_s hg12673 (by omega)])]; omega); (rw [(show xv g12673 w83 k9 = xv g8447 w83 k9 from by rw [(xv_k (i := k9) hg12673 (by omega) (by omega) (by omega)), (xv_a hg12671 (xne hs_w83 hs_w82 (by decide)))])]; exact v10556 k9 q1 (by omega))) (fun c9 q1 q2 => by by_cases e9 : c9 = z8445; (rw [e9, (show xv g12673 w82 z8445 = ((256 * z12664) + z12667) from by rw [(xv_a hg12673 (xne hs_w82 hs_w83 (by decide))), xv_s hg12671 (by omega)])]; exact hx12670.symm); (rw [(show xv g12673 w82 c9 = xv g8447 w82 c9 from by rw [(xv_a hg12673 (xne hs_w82 hs_w83 (by decide))), (xv_k (i := c9) hg12671 (by omega) (by omega) (by omega))])]; exact v10557 c9 q1 (by omega))) (by omega)
          · refine X_goto hK 84 dX12_truck_71 (by decide) ?_
            refine X_iinc hK (i := 2) (z := z8445) (n := 1) 0 [(2, .int (iI (z8445 + 1))), (1, .int (iI z8446)), (0, .ref a0)] dX12_truck_84 rfl (by decide) rfl ?_
            refine X_goto hK 24 dX12_truck_87 (by decide) ?_
            exact ihP10553  g12671 (xM_ua (xM.tr xM.rf xLe.rf hg8447 (by decide)) hg12671 hs_w82 (by decide) (by decide)) (z8445 + 1) (by omega) (by omega) z8446 (by omega) (by omega) (by omega) (by rw [show z8445 + 1 - 1 = (z8445 - 1) + 1 by omega]; rw [(xv_a hg12671 (xne hs_w83 hs_w82 (by decide)))]; exact xSq.skip v10555 (by omega) (by rw [show z8445 - 1 + 1 = z8445 by omega, hx12670]; omega)) (by rw [(xv_a hg12671 (xne hs_w83 hs_w82 (by decide)))]; exact v10556) (fun c9 q1 q2 => by by_cases e9 : c9 = z8445; (rw [e9, (show xv g12671 w82 z8445 = ((256 * z12664) + z12667) from by rw [xv_s hg12671 (by omega)])]; exact hx12670.symm); (rw [(show xv g12671 w82 c9 = xv g8447 w82 c9 from by rw [(xv_k (i := c9) hg12671 (by omega) (by omega) (by omega))])]; exact v10557 c9 q1 (by omega))) (by omega)
    exact P10553 ((26 - 1 : Int).toNat + 1) g10 xM.rf 1 (by omega) (by omega) 0 (by omega) (by omega) (by omega) xSq.z (fun k q1 q2 => by omega) (fun c q1 q2 => by omega) (by omega)
  · refine X_iconst hK dX12_truck_14 ?_
    exact hret _ _ _ _ _ _ _ dX12_truck_15 ⟨rfl, (-1), rfl, (by omega), (by omega), (k7.trans (by congr 2 <;> omega)), ⟨n8, xv g3 ty8, ⟨ty8, wr8, m8, z8, i8, hs_a0, ((hg3 a0 13 0 84 hs_a0 (by decide)).trans ((xs_k hg1 (by decide)).trans hrm2)), hs_ty8, ((hg3 a0 13 0 87 hs_a0 (by decide)).trans ((xs_k hg1 (by decide)).trans hrm4)), by omega, by omega, ((hg3 a0 13 0 88 hs_a0 (by decide)).trans ((xs_k hg1 (by decide)).trans hrm7)), hrm8, rfl, ((hg3 a0 13 0 15 hs_a0 (by decide)).trans ((xs_k hg1 (by decide)).trans hrm10)), hs_wr8, ((hg3 a0 13 0 18 hs_a0 (by decide)).trans ((xs_k hg1 (by decide)).trans hrm12)), (by rw [(Eq.trans (xv_m hg3 hs_wr8 (by decide) (by decide)) (xv_a hg1 (xne hs_wr8 hs_a0 (by decide))))]; exact hrm13)⟩, (Or.inl ⟨by omega, by omega, rfl, fun x9 _ _ => congrFun ((Eq.trans (xv_m hg3 hs_ty8 (by decide) (by decide)) (xv_a hg1 (xne hs_ty8 hs_a0 (by decide)))).trans hY8) x9⟩)⟩⟩ (Nat.le_refl _) (Nat.le_refl _)
