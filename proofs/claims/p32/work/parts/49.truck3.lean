theorem m_55_14 : Cond.constant RX12 465 (65535) ∈ wsL_law := ch_55 _ (List.mem_of_getElem? (i := 14) rfl)
theorem m_55_18 : Cond.methodLink RX12 467 yX12_mayGo ∈ wsL_law := ch_55 _ (List.mem_of_getElem? (i := 18) rfl)
theorem m_55_19 : Cond.instanceMethod yX12_mayGo ∈ wsL_law := ch_55 _ (List.mem_of_getElem? (i := 19) rfl)
theorem m_55_20 : Cond.selects RX12 yX12_mayGo yX12_mayGo ∈ wsL_law := ch_55 _ (List.mem_of_getElem? (i := 20) rfl)
theorem m_55_21 : Cond.code yX12_mayGo cX12_mayGo 6 (some .boolean) ∈ wsL_law := ch_55 _ (List.mem_of_getElem? (i := 21) rfl)
theorem dX12_truck_0 : decode cX12_truck 0 = .ok (.aload_n 0, 1) := by decide +kernel
theorem dX12_truck_1 : decode cX12_truck 1 = .ok (.iconst 0, 1) := by decide +kernel
theorem dX12_truck_2 : decode cX12_truck 2 = .ok (.putfield 198, 3) := by decide +kernel
theorem dX12_truck_5 : decode cX12_truck 5 = .ok (.aload_n 0, 1) := by decide +kernel
theorem dX12_truck_6 : decode cX12_truck 6 = .ok (.invokevirtual 222, 3) := by decide +kernel
theorem dX12_truck_9 : decode cX12_truck 9 = .ok (.bipush 20, 2) := by decide +kernel
theorem dX12_truck_11 : decode cX12_truck 11 = .ok (.if_icmp .eq 5, 3) := by decide +kernel
theorem dX12_truck_14 : decode cX12_truck 14 = .ok (.iconst (-1), 1) := by decide +kernel
theorem dX12_truck_15 : decode cX12_truck 15 = .ok (.ireturn, 1) := by decide +kernel
theorem dX12_truck_16 : decode cX12_truck 16 = .ok (.aload_n 0, 1) := by decide +kernel
theorem dX12_truck_17 : decode cX12_truck 17 = .ok (.invokevirtual 250, 3) := by decide +kernel
theorem dX12_truck_20 : decode cX12_truck 20 = .ok (.iconst 0, 1) := by decide +kernel
theorem dX12_truck_21 : decode cX12_truck 21 = .ok (.istore_n 1, 1) := by decide +kernel
theorem dX12_truck_22 : decode cX12_truck 22 = .ok (.iconst 1, 1) := by decide +kernel
theorem dX12_truck_23 : decode cX12_truck 23 = .ok (.istore_n 2, 1) := by decide +kernel
theorem dX12_truck_24 : decode cX12_truck 24 = .ok (.iload_n 2, 1) := by decide +kernel
theorem dX12_truck_25 : decode cX12_truck 25 = .ok (.bipush 10, 2) := by decide +kernel
theorem dX12_truck_27 : decode cX12_truck 27 = .ok (.if_icmp .ge 63, 3) := by decide +kernel
theorem dX12_truck_30 : decode cX12_truck 30 = .ok (.aload_n 0, 1) := by decide +kernel
theorem dX12_truck_31 : decode cX12_truck 31 = .ok (.getfield 177, 3) := by decide +kernel
theorem dX12_truck_34 : decode cX12_truck 34 = .ok (.iload_n 2, 1) := by decide +kernel
theorem dX12_truck_35 : decode cX12_truck 35 = .ok (.sipush 256, 3) := by decide +kernel
theorem dX12_truck_38 : decode cX12_truck 38 = .ok (.aload_n 0, 1) := by decide +kernel
theorem dX12_truck_39 : decode cX12_truck 39 = .ok (.getfield 7, 3) := by decide +kernel
theorem dX12_truck_42 : decode cX12_truck 42 = .ok (.iconst 2, 1) := by decide +kernel
theorem dX12_truck_43 : decode cX12_truck 43 = .ok (.iload_n 2, 1) := by decide +kernel
theorem dX12_truck_44 : decode cX12_truck 44 = .ok (.imul, 1) := by decide +kernel
theorem dX12_truck_45 : decode cX12_truck 45 = .ok (.iaload, 1) := by decide +kernel
theorem dX12_truck_46 : decode cX12_truck 46 = .ok (.imul, 1) := by decide +kernel
theorem dX12_truck_47 : decode cX12_truck 47 = .ok (.aload_n 0, 1) := by decide +kernel
theorem dX12_truck_48 : decode cX12_truck 48 = .ok (.getfield 7, 3) := by decide +kernel
theorem dX12_truck_51 : decode cX12_truck 51 = .ok (.iconst 2, 1) := by decide +kernel
theorem dX12_truck_52 : decode cX12_truck 52 = .ok (.iload_n 2, 1) := by decide +kernel
theorem dX12_truck_53 : decode cX12_truck 53 = .ok (.imul, 1) := by decide +kernel
theorem dX12_truck_54 : decode cX12_truck 54 = .ok (.iconst 1, 1) := by decide +kernel
theorem dX12_truck_55 : decode cX12_truck 55 = .ok (.iadd, 1) := by decide +kernel
theorem dX12_truck_56 : decode cX12_truck 56 = .ok (.iaload, 1) := by decide +kernel
theorem dX12_truck_57 : decode cX12_truck 57 = .ok (.iadd, 1) := by decide +kernel
theorem dX12_truck_58 : decode cX12_truck 58 = .ok (.iastore, 1) := by decide +kernel
theorem dX12_truck_59 : decode cX12_truck 59 = .ok (.aload_n 0, 1) := by decide +kernel
theorem dX12_truck_60 : decode cX12_truck 60 = .ok (.getfield 177, 3) := by decide +kernel
theorem dX12_truck_63 : decode cX12_truck 63 = .ok (.iload_n 2, 1) := by decide +kernel
theorem dX12_truck_64 : decode cX12_truck 64 = .ok (.iaload, 1) := by decide +kernel
theorem dX12_truck_65 : decode cX12_truck 65 = .ok (.ldc_w 465, 3) := by decide +kernel
theorem dX12_truck_68 : decode cX12_truck 68 = .ok (.if_icmp .ne 6, 3) := by decide +kernel
theorem dX12_truck_71 : decode cX12_truck 71 = .ok (.goto 13, 3) := by decide +kernel
theorem dX12_truck_74 : decode cX12_truck 74 = .ok (.aload_n 0, 1) := by decide +kernel
theorem dX12_truck_75 : decode cX12_truck 75 = .ok (.getfield 180, 3) := by decide +kernel
theorem dX12_truck_78 : decode cX12_truck 78 = .ok (.iload_n 1, 1) := by decide +kernel
theorem dX12_truck_79 : decode cX12_truck 79 = .ok (.iload_n 2, 1) := by decide +kernel
theorem dX12_truck_80 : decode cX12_truck 80 = .ok (.iastore, 1) := by decide +kernel
theorem dX12_truck_81 : decode cX12_truck 81 = .ok (.iinc 1 1, 3) := by decide +kernel
theorem dX12_truck_84 : decode cX12_truck 84 = .ok (.iinc 2 1, 3) := by decide +kernel
theorem dX12_truck_87 : decode cX12_truck 87 = .ok (.goto (-63), 3) := by decide +kernel
theorem dX12_truck_90 : decode cX12_truck 90 = .ok (.iload_n 1, 1) := by decide +kernel
theorem dX12_truck_91 : decode cX12_truck 91 = .ok (.ifCond .ne 7, 3) := by decide +kernel
theorem dX12_truck_94 : decode cX12_truck 94 = .ok (.iconst 0, 1) := by decide +kernel
theorem dX12_truck_95 : decode cX12_truck 95 = .ok (.goto 6, 3) := by decide +kernel
theorem dX12_truck_98 : decode cX12_truck 98 = .ok (.ldc_w 466, 3) := by decide +kernel
theorem dX12_truck_101 : decode cX12_truck 101 = .ok (.istore_n 2, 1) := by decide +kernel
theorem dX12_truck_102 : decode cX12_truck 102 = .ok (.iconst 0, 1) := by decide +kernel
theorem dX12_truck_103 : decode cX12_truck 103 = .ok (.istore_n 3, 1) := by decide +kernel
theorem dX12_truck_104 : decode cX12_truck 104 = .ok (.iconst 0, 1) := by decide +kernel
theorem dX12_truck_105 : decode cX12_truck 105 = .ok (.istore 4, 2) := by decide +kernel
theorem dX12_truck_107 : decode cX12_truck 107 = .ok (.iload_n 1, 1) := by decide +kernel
theorem dX12_truck_108 : decode cX12_truck 108 = .ok (.ifCond .le 10, 3) := by decide +kernel
theorem dX12_truck_111 : decode cX12_truck 111 = .ok (.aload_n 0, 1) := by decide +kernel
theorem dX12_truck_112 : decode cX12_truck 112 = .ok (.getfield 186, 3) := by decide +kernel
theorem dX12_truck_115 : decode cX12_truck 115 = .ok (.iconst 0, 1) := by decide +kernel
theorem dX12_truck_116 : decode cX12_truck 116 = .ok (.iconst (-1), 1) := by decide +kernel
theorem dX12_truck_117 : decode cX12_truck 117 = .ok (.iastore, 1) := by decide +kernel
theorem dX12_truck_118 : decode cX12_truck 118 = .ok (.iload 4, 2) := by decide +kernel
theorem dX12_truck_120 : decode cX12_truck 120 = .ok (.ifCond .lt 177, 3) := by decide +kernel
theorem dX12_truck_123 : decode cX12_truck 123 = .ok (.iload_n 1, 1) := by decide +kernel
theorem dX12_truck_124 : decode cX12_truck 124 = .ok (.ifCond .le 173, 3) := by decide +kernel
theorem dX12_truck_127 : decode cX12_truck 127 = .ok (.aload_n 0, 1) := by decide +kernel
theorem dX12_truck_128 : decode cX12_truck 128 = .ok (.getfield 186, 3) := by decide +kernel
theorem dX12_truck_131 : decode cX12_truck 131 = .ok (.iload 4, 2) := by decide +kernel
theorem dX12_truck_133 : decode cX12_truck 133 = .ok (.iaload, 1) := by decide +kernel
theorem dX12_truck_134 : decode cX12_truck 134 = .ok (.ifCond .lt 17, 3) := by decide +kernel
theorem dX12_truck_137 : decode cX12_truck 137 = .ok (.iload_n 3, 1) := by decide +kernel
theorem dX12_truck_138 : decode cX12_truck 138 = .ok (.iconst 1, 1) := by decide +kernel
theorem dX12_truck_139 : decode cX12_truck 139 = .ok (.aload_n 0, 1) := by decide +kernel
theorem dX12_truck_140 : decode cX12_truck 140 = .ok (.getfield 186, 3) := by decide +kernel
theorem dX12_truck_143 : decode cX12_truck 143 = .ok (.iload 4, 2) := by decide +kernel
theorem dX12_truck_145 : decode cX12_truck 145 = .ok (.iaload, 1) := by decide +kernel
theorem dX12_truck_146 : decode cX12_truck 146 = .ok (.ishl, 1) := by decide +kernel
theorem dX12_truck_147 : decode cX12_truck 147 = .ok (.iconst (-1), 1) := by decide +kernel
theorem dX12_truck_148 : decode cX12_truck 148 = .ok (.ixor, 1) := by decide +kernel
theorem dX12_truck_149 : decode cX12_truck 149 = .ok (.iand, 1) := by decide +kernel
theorem dX12_truck_150 : decode cX12_truck 150 = .ok (.istore_n 3, 1) := by decide +kernel
theorem dX12_truck_151 : decode cX12_truck 151 = .ok (.aload_n 0, 1) := by decide +kernel
theorem dX12_truck_152 : decode cX12_truck 152 = .ok (.getfield 186, 3) := by decide +kernel
theorem dX12_truck_155 : decode cX12_truck 155 = .ok (.iload 4, 2) := by decide +kernel
theorem dX12_truck_157 : decode cX12_truck 157 = .ok (.iaload, 1) := by decide +kernel
theorem dX12_truck_158 : decode cX12_truck 158 = .ok (.iconst 1, 1) := by decide +kernel
theorem dX12_truck_159 : decode cX12_truck 159 = .ok (.iadd, 1) := by decide +kernel
theorem dX12_truck_160 : decode cX12_truck 160 = .ok (.istore 5, 2) := by decide +kernel
theorem dX12_truck_162 : decode cX12_truck 162 = .ok (.iload 5, 2) := by decide +kernel
theorem dX12_truck_164 : decode cX12_truck 164 = .ok (.iload_n 1, 1) := by decide +kernel
theorem dX12_truck_165 : decode cX12_truck 165 = .ok (.if_icmp .ge 22, 3) := by decide +kernel
theorem dX12_truck_168 : decode cX12_truck 168 = .ok (.aload_n 0, 1) := by decide +kernel
theorem dX12_truck_169 : decode cX12_truck 169 = .ok (.iload 4, 2) := by decide +kernel
theorem dX12_truck_171 : decode cX12_truck 171 = .ok (.iload 5, 2) := by decide +kernel
theorem dX12_truck_173 : decode cX12_truck 173 = .ok (.iload_n 3, 1) := by decide +kernel
theorem dX12_truck_174 : decode cX12_truck 174 = .ok (.iload_n 2, 1) := by decide +kernel
theorem dX12_truck_175 : decode cX12_truck 175 = .ok (.invokevirtual 467, 3) := by decide +kernel
theorem dX12_truck_178 : decode cX12_truck 178 = .ok (.ifCond .ne 9, 3) := by decide +kernel
theorem dX12_truck_181 : decode cX12_truck 181 = .ok (.iinc 5 1, 3) := by decide +kernel
theorem dX12_truck_184 : decode cX12_truck 184 = .ok (.goto (-22), 3) := by decide +kernel
theorem dX12_truck_187 : decode cX12_truck 187 = .ok (.iload 5, 2) := by decide +kernel
theorem dX12_truck_189 : decode cX12_truck 189 = .ok (.iload_n 1, 1) := by decide +kernel
theorem dX12_truck_190 : decode cX12_truck 190 = .ok (.if_icmp .ne 9, 3) := by decide +kernel
theorem dX12_truck_193 : decode cX12_truck 193 = .ok (.iinc 4 (-1), 3) := by decide +kernel
theorem dX12_truck_196 : decode cX12_truck 196 = .ok (.goto (-78), 3) := by decide +kernel
theorem dX12_truck_199 : decode cX12_truck 199 = .ok (.aload_n 0, 1) := by decide +kernel
theorem dX12_truck_200 : decode cX12_truck 200 = .ok (.getfield 186, 3) := by decide +kernel
theorem dX12_truck_203 : decode cX12_truck 203 = .ok (.iload 4, 2) := by decide +kernel
theorem dX12_truck_205 : decode cX12_truck 205 = .ok (.iload 5, 2) := by decide +kernel
theorem dX12_truck_207 : decode cX12_truck 207 = .ok (.iastore, 1) := by decide +kernel
theorem dX12_truck_208 : decode cX12_truck 208 = .ok (.aload_n 0, 1) := by decide +kernel
theorem dX12_truck_209 : decode cX12_truck 209 = .ok (.getfield 189, 3) := by decide +kernel
theorem dX12_truck_212 : decode cX12_truck 212 = .ok (.iload 4, 2) := by decide +kernel
theorem dX12_truck_214 : decode cX12_truck 214 = .ok (.aload_n 0, 1) := by decide +kernel
theorem dX12_truck_215 : decode cX12_truck 215 = .ok (.iload 4, 2) := by decide +kernel
theorem dX12_truck_217 : decode cX12_truck 217 = .ok (.iload 5, 2) := by decide +kernel
theorem dX12_truck_219 : decode cX12_truck 219 = .ok (.invokevirtual 471, 3) := by decide +kernel
theorem dX12_truck_222 : decode cX12_truck 222 = .ok (.iastore, 1) := by decide +kernel
theorem dX12_truck_223 : decode cX12_truck 223 = .ok (.iload_n 3, 1) := by decide +kernel
theorem dX12_truck_224 : decode cX12_truck 224 = .ok (.iconst 1, 1) := by decide +kernel
theorem dX12_truck_225 : decode cX12_truck 225 = .ok (.iload 5, 2) := by decide +kernel
theorem dX12_truck_227 : decode cX12_truck 227 = .ok (.ishl, 1) := by decide +kernel
theorem dX12_truck_228 : decode cX12_truck 228 = .ok (.ior, 1) := by decide +kernel
theorem dX12_truck_229 : decode cX12_truck 229 = .ok (.istore_n 3, 1) := by decide +kernel
theorem dX12_truck_230 : decode cX12_truck 230 = .ok (.iload 4, 2) := by decide +kernel
theorem dX12_truck_232 : decode cX12_truck 232 = .ok (.iload_n 1, 1) := by decide +kernel
theorem dX12_truck_233 : decode cX12_truck 233 = .ok (.iconst 1, 1) := by decide +kernel
theorem dX12_truck_234 : decode cX12_truck 234 = .ok (.isub, 1) := by decide +kernel
theorem dX12_truck_235 : decode cX12_truck 235 = .ok (.if_icmp .ge 17, 3) := by decide +kernel
theorem dX12_truck_238 : decode cX12_truck 238 = .ok (.iinc 4 1, 3) := by decide +kernel
theorem dX12_truck_241 : decode cX12_truck 241 = .ok (.aload_n 0, 1) := by decide +kernel
theorem dX12_truck_242 : decode cX12_truck 242 = .ok (.getfield 186, 3) := by decide +kernel
theorem dX12_truck_245 : decode cX12_truck 245 = .ok (.iload 4, 2) := by decide +kernel
theorem dX12_truck_247 : decode cX12_truck 247 = .ok (.iconst (-1), 1) := by decide +kernel
theorem dX12_truck_248 : decode cX12_truck 248 = .ok (.iastore, 1) := by decide +kernel
theorem dX12_truck_249 : decode cX12_truck 249 = .ok (.goto (-131), 3) := by decide +kernel
theorem dX12_truck_252 : decode cX12_truck 252 = .ok (.aload_n 0, 1) := by decide +kernel
theorem dX12_truck_253 : decode cX12_truck 253 = .ok (.getfield 189, 3) := by decide +kernel
theorem dX12_truck_256 : decode cX12_truck 256 = .ok (.iload 4, 2) := by decide +kernel
theorem dX12_truck_258 : decode cX12_truck 258 = .ok (.iaload, 1) := by decide +kernel
theorem dX12_truck_259 : decode cX12_truck 259 = .ok (.istore_n 2, 1) := by decide +kernel
theorem dX12_truck_260 : decode cX12_truck 260 = .ok (.iconst 0, 1) := by decide +kernel
theorem dX12_truck_261 : decode cX12_truck 261 = .ok (.istore 6, 2) := by decide +kernel
theorem dX12_truck_263 : decode cX12_truck 263 = .ok (.iload 6, 2) := by decide +kernel
theorem dX12_truck_265 : decode cX12_truck 265 = .ok (.iload_n 1, 1) := by decide +kernel
theorem dX12_truck_266 : decode cX12_truck 266 = .ok (.if_icmp .ge 28, 3) := by decide +kernel
theorem dX12_truck_269 : decode cX12_truck 269 = .ok (.aload_n 0, 1) := by decide +kernel
theorem dX12_truck_270 : decode cX12_truck 270 = .ok (.getfield 183, 3) := by decide +kernel
theorem dX12_truck_273 : decode cX12_truck 273 = .ok (.iload 6, 2) := by decide +kernel
theorem dX12_truck_275 : decode cX12_truck 275 = .ok (.aload_n 0, 1) := by decide +kernel
theorem dX12_truck_276 : decode cX12_truck 276 = .ok (.getfield 180, 3) := by decide +kernel
theorem dX12_truck_279 : decode cX12_truck 279 = .ok (.aload_n 0, 1) := by decide +kernel
theorem dX12_truck_280 : decode cX12_truck 280 = .ok (.getfield 186, 3) := by decide +kernel
theorem dX12_truck_283 : decode cX12_truck 283 = .ok (.iload 6, 2) := by decide +kernel
theorem dX12_truck_285 : decode cX12_truck 285 = .ok (.iaload, 1) := by decide +kernel
theorem dX12_truck_286 : decode cX12_truck 286 = .ok (.iaload, 1) := by decide +kernel
theorem dX12_truck_287 : decode cX12_truck 287 = .ok (.iastore, 1) := by decide +kernel
theorem dX12_truck_288 : decode cX12_truck 288 = .ok (.iinc 6 1, 3) := by decide +kernel
theorem dX12_truck_291 : decode cX12_truck 291 = .ok (.goto (-28), 3) := by decide +kernel
theorem dX12_truck_294 : decode cX12_truck 294 = .ok (.goto (-176), 3) := by decide +kernel
theorem dX12_truck_297 : decode cX12_truck 297 = .ok (.iload_n 2, 1) := by decide +kernel
theorem dX12_truck_298 : decode cX12_truck 298 = .ok (.ldc_w 466, 3) := by decide +kernel
theorem dX12_truck_301 : decode cX12_truck 301 = .ok (.if_icmp .ne 5, 3) := by decide +kernel
theorem dX12_truck_304 : decode cX12_truck 304 = .ok (.iconst (-1), 1) := by decide +kernel
theorem dX12_truck_305 : decode cX12_truck 305 = .ok (.ireturn, 1) := by decide +kernel
theorem dX12_truck_306 : decode cX12_truck 306 = .ok (.aload_n 0, 1) := by decide +kernel
theorem dX12_truck_307 : decode cX12_truck 307 = .ok (.iload_n 1, 1) := by decide +kernel
theorem dX12_truck_308 : decode cX12_truck 308 = .ok (.putfield 474, 3) := by decide +kernel
theorem dX12_truck_311 : decode cX12_truck 311 = .ok (.aload_n 0, 1) := by decide +kernel
theorem dX12_truck_312 : decode cX12_truck 312 = .ok (.iconst 1, 1) := by decide +kernel
theorem dX12_truck_313 : decode cX12_truck 313 = .ok (.putfield 477, 3) := by decide +kernel
theorem dX12_truck_316 : decode cX12_truck 316 = .ok (.iload_n 2, 1) := by decide +kernel
theorem dX12_truck_317 : decode cX12_truck 317 = .ok (.ireturn, 1) := by decide +kernel
theorem lk_X12_467 : xLV RX12 467 yX12_mayGo cX12_mayGo 6 (some .boolean) 4 := ⟨m_55_18, m_55_19, m_55_20, m_1_5, m_55_21, by decide +kernel⟩
set_option maxHeartbeats 4000000 in
set_option maxRecDepth 100000 in
theorem c3_mtruck (l : Launch) (D : va_G) (kA : Nat → ClassId) (b0 : Nat) (t0 : Nat → Nat) (S : xT) (g : xG) (a0 : Nat) (n0 : Int) (y0 : Nat) (w85 : Nat) (w86 : Nat) (w83 : Nat) (w82 : Nat) (n8 : Int) (Y8 : Int → Int) (Q8 : Int → Int → Int) (f8 : Int → Int) (hs_a0 : S a0 = some (13, 0)) (hn0 : 0 ≤ n0 ∧ n0 ≤ 420) (en0 : g a0 2 = .int (iI n0)) (ey0 : g a0 1 = .ref y0) (hs_y0 : S y0 = some (14100, 420)) (ew85 : g a0 85 = .ref w85) (hs_w85 : S w85 = some (19100, 10)) (ew86 : g a0 86 = .ref w86) (hs_w86 : S w86 = some (19200, 10)) (ew83 : g a0 83 = .ref w83) (hs_w83 : S w83 = some (18900, 10)) (ew82 : g a0 82 = .ref w82) (hs_w82 : S w82 = some (18800, 10)) (hp0 : xRm S g a0 n8 Y8 Q8) (hp1 : n0 = 20 → ∀ i, 0 ≤ i → i < 20 → xv g y0 i = f8 i) : xMt l yX12_truck cX12_truck 7 (some .int) 2 0 0 47 D kA b0 t0 [(13, 0), (13, 2), (13, 18), (15200, 0), (19100, 0), (13, 87), (13, 88), (19200, 0), (19000, 0), (18800, 0), (18900, 0)] [.ref a0] S g (fun (r : Option Value) (S1 : xT) (g1 : xG) => S = S1 ∧ ∃ z : Int, r = some (.int (iI z)) ∧ (-1) ≤ z ∧ z ≤ 99999 ∧ (g1 a0 2 = .int (iI (0))) ∧ (∃ (n1 : Int) (Y1 : Int → Int), xRm S g1 a0 n1 Y1 Q8 ∧ xTK f8 Q8 n0 z n8 n1 Y8 Y1)) := by
  refine xEnterI (by decide) (by simp [lg_sl, Value.category]) [(0, .ref a0)] rfl ?_
  intro K E hK hret _ _ _
  refine X_aloadn hK (i := 0) 0 dX12_truck_0 rfl rfl ?_
  obtain ⟨ty8, wr8, m8, z8, i8, hrm1, hrm2, hs_ty8, hrm4, hrm5, hrm6, hrm7, hrm8, hY8, hrm10, hs_wr8, hrm12, hrm13⟩ := hp0
  have hi8 : 0 ≤ i8 ∧ i8 ≤ 1 := by rcases hrm13 with q9 | q9 <;> omega
  have hz8 : 0 ≤ z8 ∧ z8 ≤ 1 := by omega
  refine X_iconst hK dX12_truck_1 ?_
  refine X_puti hK fl_X12_198_13 hs_a0 (by decide) sl_13_0 (by omega) (by omega) dX12_truck_2 (fun g1 hg1 => ?_)
  refine X_aloadn hK (i := 0) 0 dX12_truck_5 rfl rfl ?_
  refine X_callV hK [] [] lk_X12_222 (c_X12_take _ _ _ _ _ S g1 a0 n0 hs_a0 (by omega) ((xs_k hg1 (by decide)).trans en0)) hs_a0 ⟨by decide, rfl⟩ dX12_truck_6 rfl rfl (by simp [Value.category]) (by decide) (by decide) (by decide) (by decide) (fun r2 S4 g3 pr2 qr2 hg3 => ?_)
  obtain ⟨rfl, z5, rfl, lz5, uz5, k6, k7⟩ := pr2
  refine X_st [.int (iI z5)] rfl ?_
  refine X_bipush hK dX12_truck_9 (by decide) ?_
  refine X_icmp_eq hK 16 (by omega) (by omega) dX12_truck_11 (by decide) (fun c8 => ?_) (fun c8 => ?_)
  · refine X_aloadn hK (i := 0) 0 dX12_truck_16 rfl rfl ?_
    refine X_callV hK [] [] lk_X12_250 (c3_layWays _ _ _ _ _ S g3 a0 wr8 i8 Q8 hs_a0 ((hg3 a0 13 0 15 hs_a0 (by decide)).trans ((xs_k hg1 (by decide)).trans hrm10)) hs_wr8 (by omega) ((hg3 a0 13 0 18 hs_a0 (by decide)).trans ((xs_k hg1 (by decide)).trans hrm12)) (by rw [(Eq.trans (xv_m hg3 hs_wr8 (by decide) (by decide)) (xv_a hg1 (xne hs_wr8 hs_a0 (by decide))))]; exact hrm13)) hs_a0 ⟨by decide, rfl⟩ dX12_truck_17 rfl rfl (by simp [Value.category]) (by decide) (by decide) (by decide) (by decide) (fun r9 S11 g10 pr9 qr9 hg10 => ?_)
    obtain ⟨rfl, rfl, k12, k13⟩ := pr9
    refine X_st [] rfl ?_
    refine X_iconst hK dX12_truck_20 ?_
    refine X_istoren hK (i := 1) [(1, .int (iI 0)), (0, .ref a0)] dX12_truck_21 rfl (by decide) rfl ?_
    refine X_iconst hK dX12_truck_22 ?_
    refine X_istoren hK (i := 2) [(2, .int (iI 1)), (1, .int (iI 0)), (0, .ref a0)] dX12_truck_23 rfl (by decide) rfl ?_
    have P19943 : ∀ (nP19943 : Nat) (g15959 : xG) (_ : xM [(18900, 0), (18800, 0)] S g10 g15959) (z15957 : Int) (_ : 1 ≤ z15957) (_ : z15957 ≤ 10) (z15958 : Int) (_ : 0 ≤ z15958) (_ : z15958 ≤ 9) (_ : z15958 ≤ z15957 - 1) (_ : xSq f8 (z15957 - 1) z15958 (xv g15959 w83)) (_ : ∀ k, 0 ≤ k → k < z15958 → 1 ≤ xv g15959 w83 k ∧ xv g15959 w83 k ≤ 9) (_ : ∀ c, 1 ≤ c → c < z15957 → xv g15959 w82 c = xpr f8 c) (_ : 26 - z15957 < (nP19943 : Int)), X K E 24 [(2, .int (iI z15957)), (1, .int (iI z15958)), (0, .ref a0)] [] S g15959 0 0 := by
      intro nP19943
      induction nP19943 with
      | zero => intro g15959 hg15959 z15957 lz15957 uz15957 z15958 lz15958 uz15958 v19944 v19945 v19946 v19947 mP19943; exact False.elim (by omega)
      | succ nP19943 ihP19943 =>
        intro g15959 hg15959 z15957 lz15957 uz15957 z15958 lz15958 uz15958 v19944 v19945 v19946 v19947 mP19943
        refine X_iloadn hK (i := 2) 0 dX12_truck_24 rfl rfl ?_
        refine X_bipush hK dX12_truck_25 (by decide) ?_
        refine X_icmp_ge hK 90 (by omega) (by omega) dX12_truck_27 (by decide) (fun c19948 => ?_) (fun c19948 => ?_)
        · refine X_iloadn hK (i := 1) 1 dX12_truck_90 rfl rfl ?_
          have hsq : xSq f8 9 z15958 (xv g15959 w83) := by have h9 := v19945; rw [show z15957 - 1 = 9 by omega] at h9; exact h9
          have hnn : z15958 = xTn f8 := hsq.1
          have hT9 : ∀ k, 0 ≤ k → k < z15958 → xv g15959 w83 k = xTs f8 k ∧ 0 ≤ xTs f8 k ∧ xTs f8 k ≤ 9 := fun k q1 q2 => by have h9 := v19946 k q1 q2; have h8 : xv g15959 w83 k = xTs f8 k := hsq.2 k q1 q2; rw [← h8]; exact ⟨rfl, by omega, by omega⟩
          have hN9 : ∀ k, 0 ≤ k → k < z15958 → xv g15959 w82 (xTs f8 k) = xTb9 f8 k := fun k q1 q2 => by have h9 := v19946 k q1 q2; have h8 : xv g15959 w83 k = xTs f8 k := hsq.2 k q1 q2; exact v19947 (xTs f8 k) (by omega) (by omega)
          have hqr9 : xQr (xv g15959 wr8) Q8 := (by rw [(xv_m hg15959 hs_wr8 (by decide) (by decide))]; exact k13)
          refine X_wt (fun hWt9 => ?_)
          have hQ9 : ∀ x y : Int, 0 ≤ x → x < 10 → 0 ≤ y → y < 10 → 0 ≤ Q8 x y ∧ Q8 x y ≤ 200 := fun x y q1 q2 q3 q4 => by rw [← hqr9 x y q1 q2 q3 q4]; exact xv_r hWt9 hs_wr8 (by decide) sl_15200 (by decide) (10 * x + y) (by omega) (by omega)
          have hF9 : ∀ i, 0 ≤ i → i < z15958 → 0 ≤ (xF9 Q8 (xTs f8)) i := fun i q1 q2 => by have h9 := hT9 i q1 q2; exact (hQ9 0 (xTs f8 i) (by omega) (by omega) (by omega) (by omega)).1
          have hW9 : ∀ i j, 0 ≤ i → i < z15958 → 0 ≤ j → j < z15958 → 0 ≤ (xW9 Q8 (xTs f8)) i j := fun i j q1 q2 q3 q4 => by have h9 := hT9 i q1 q2; have h8 := hT9 j q3 q4; exact (hQ9 (xTs f8 i) (xTs f8 j) (by omega) (by omega) (by omega) (by omega)).1
          have hB9 : ∀ i, 0 ≤ i → i < z15958 → (xTb9 f8) i ≤ 65535 := fun i q1 q2 => by have h9 := hT9 i q1 q2; rw [← hN9 i q1 q2]; exact (xv_r hWt9 hs_w82 (by decide) sl_18800 (by decide) (xTs f8 i) (by omega) (by omega)).2
          refine X_if_ne hK 98 (by omega) dX12_truck_91 (by decide) (fun c19949 => ?_) (fun c19949 => ?_)
          · refine X_ldcw hK (n := 100000) dX12_truck_98 m_55_15 (by decide) ?_
            refine X_istoren hK (i := 2) [(2, .int (iI 100000)), (1, .int (iI z15958)), (0, .ref a0)] dX12_truck_101 rfl (by decide) rfl ?_
            refine X_iconst hK dX12_truck_102 ?_
            refine X_istoren hK (i := 3) [(3, .int (iI 0)), (2, .int (iI 100000)), (1, .int (iI z15958)), (0, .ref a0)] dX12_truck_103 rfl (by decide) rfl ?_
            refine X_iconst hK dX12_truck_104 ?_
            refine X_istore hK (i := 4) [(4, .int (iI 0)), (3, .int (iI 0)), (2, .int (iI 100000)), (1, .int (iI z15958)), (0, .ref a0)] dX12_truck_105 (by decide) rfl ?_
            refine X_iloadn hK (i := 1) 3 dX12_truck_107 rfl rfl ?_
            refine X_if_le hK 118 (by omega) dX12_truck_108 (by decide) (fun c19950 => False.elim (by omega)) (fun c19950 => ?_)
            refine X_aloadn hK (i := 0) 4 dX12_truck_111 rfl rfl ?_
            refine X_getK hK fl_X12_186_13 hs_a0 ((hg15959 a0 13 0 85 hs_a0 (by decide)).trans ((hg10 a0 13 0 85 hs_a0 (by decide)).trans ((hg3 a0 13 0 85 hs_a0 (by decide)).trans ((xs_k hg1 (by decide)).trans ew85)))) dX12_truck_112 ?_
            refine X_iconst hK dX12_truck_115 ?_
            refine X_iconst hK dX12_truck_116 ?_
            refine X_iast hK hs_w85 (by decide) (by decide) sl_19100 (by omega) (by omega) (by omega) (by omega) dX12_truck_117 (fun g19951 hg19951 => ?_)
            have P23211 : ∀ (nP23211 : Nat) (g22562 : xG) (_ : xM [(19000, 0), (19200, 0), (19100, 0)] S g19951 g22562) (z22559 : Int) (_ : (-1) ≤ z22559) (_ : z22559 ≤ 8) (z22560 : Int) (_ : 0 ≤ z22560) (_ : z22560 ≤ 511) (z22561 : Int) (_ : 0 ≤ z22561) (_ : z22561 ≤ 100000) (_ : z22559 < z15958 ∨ z15958 = 0) (_ : ∀ x, 0 ≤ x → x < z22559 → 0 ≤ xv g22562 w85 x) (_ : 0 < z15958 → ∀ x, 0 ≤ x → x ≤ z22559 → xv g22562 w85 x < z15958) (_ : 0 < z15958 → xRk z15958 (xF9 Q8 (xTs f8)) (xW9 Q8 (xTs f8)) (xTb9 f8) (xTs f8) z22559 z22560 z22561 (xv g22562 w85) (xv g22562 w86) (xv g22562 ty8)) (_ : z22561 = 100000 → ∀ x9, 0 ≤ x9 → x9 < 9 → xv g22562 ty8 x9 = xv g ty8 x9) (_ : z15958 = 0 → z22561 = 0) (_ : ((xdm (xv g22562 w85) z22559 : Nat) : Int) < (nP23211 : Int)), X K E 118 [(4, .int (iI z22559)), (3, .int (iI z22560)), (2, .int (iI z22561)), (1, .int (iI z15958)), (0, .ref a0)] [] S g22562 0 0 := by
              intro nP23211
              induction nP23211 with
              | zero => intro g22562 hg22562 z22559 lz22559 uz22559 z22560 lz22560 uz22560 z22561 lz22561 uz22561 v23212 v23213 v23214 v23215 v23216 v23217 mP23211; exact False.elim (by omega)
              | succ nP23211 ihP23211 =>
                intro g22562 hg22562 z22559 lz22559 uz22559 z22560 lz22560 uz22560 z22561 lz22561 uz22561 v23212 v23213 v23214 v23215 v23216 v23217 mP23211
                refine X_iload hK (i := 4) 0 dX12_truck_118 rfl ?_
                refine X_if_lt hK 297 (by omega) dX12_truck_120 (by decide) (fun c23218 => ?_) (fun c23218 => ?_)
                · refine X_iloadn hK (i := 2) 2 dX12_truck_297 rfl rfl ?_
                  refine X_ldcw hK (n := 100000) dX12_truck_298 m_55_15 (by decide) ?_
                  refine X_icmp_ne hK 306 (by omega) (by omega) dX12_truck_301 (by decide) (fun c23219 => ?_) (fun c23219 => ?_)
                  · refine X_aloadn hK (i := 0) 4 dX12_truck_306 rfl rfl ?_
                    refine X_iloadn hK (i := 1) 3 dX12_truck_307 rfl rfl ?_
                    refine X_puti hK fl_X12_474_13 hs_a0 (by decide) sl_13_87 (by omega) (by omega) dX12_truck_308 (fun g23220 hg23220 => ?_)
                    refine X_aloadn hK (i := 0) 4 dX12_truck_311 rfl rfl ?_
                    refine X_iconst hK dX12_truck_312 ?_
                    refine X_putz hK fl_X12_477_13 hs_a0 (by decide) sl_13_88 (by omega) (by omega) dX12_truck_313 (fun g23221 hg23221 => ?_)
                    refine X_iloadn hK (i := 2) 2 dX12_truck_316 rfl rfl ?_
                    exact hret _ _ _ _ _ _ _ dX12_truck_317 ⟨rfl, z22561, rfl, (by omega), (by omega), (((xs_k hg23221 (by decide)).trans ((xs_k hg23220 (by decide)).trans ((hg22562 a0 13 0 2 hs_a0 (by decide)).trans ((xs_a hg19951 (xne hs_a0 hs_w85 (by decide))).trans ((hg15959 a0 13 0 2 hs_a0 (by decide)).trans ((hg10 a0 13 0 2 hs_a0 (by decide)).trans k7)))))).trans (by congr 2 <;> omega)), ⟨z15958, xv g23221 ty8, ⟨ty8, wr8, z15958, 1, 1, hs_a0, ((xs_k hg23221 (by decide)).trans ((xs_k hg23220 (by decide)).trans ((hg22562 a0 13 0 84 hs_a0 (by decide)).trans ((xs_a hg19951 (xne hs_a0 hs_w85 (by decide))).trans ((hg15959 a0 13 0 84 hs_a0 (by decide)).trans ((hg10 a0 13 0 84 hs_a0 (by decide)).trans ((hg3 a0 13 0 84 hs_a0 (by decide)).trans ((xs_k hg1 (by decide)).trans hrm2)))))))), hs_ty8, ((xs_k hg23221 (by decide)).trans (xs_s hg23220)), by omega, by omega, (xs_s hg23221), (Or.inr ⟨rfl, rfl⟩), rfl, ((xs_k hg23221 (by decide)).trans ((xs_k hg23220 (by decide)).trans ((hg22562 a0 13 0 15 hs_a0 (by decide)).trans ((xs_a hg19951 (xne hs_a0 hs_w85 (by decide))).trans ((hg15959 a0 13 0 15 hs_a0 (by decide)).trans ((hg10 a0 13 0 15 hs_a0 (by decide)).trans ((hg3 a0 13 0 15 hs_a0 (by decide)).trans ((xs_k hg1 (by decide)).trans hrm10)))))))), hs_wr8, ((xs_k hg23221 (by decide)).trans ((xs_k hg23220 (by decide)).trans ((hg22562 a0 13 0 18 hs_a0 (by decide)).trans ((xs_a hg19951 (xne hs_a0 hs_w85 (by decide))).trans ((hg15959 a0 13 0 18 hs_a0 (by decide)).trans k12))))), (Or.inr ⟨rfl, (by rw [(Eq.trans (Eq.trans (Eq.trans (xv_a hg23221 (xne hs_wr8 hs_a0 (by decide))) (xv_a hg23220 (xne hs_wr8 hs_a0 (by decide)))) (xv_m hg22562 hs_wr8 (by decide) (by decide))) (xv_a hg19951 (xne hs_wr8 hs_w85 (by decide))))]; exact hqr9)⟩)⟩, (Or.inr ⟨by omega, by rcases (show z15958 = 0 ∨ 0 < z15958 by omega) with c9 | c9; (have h9 := v23217 c9; exact Or.inl ⟨by omega, by omega, by omega⟩); (rcases (xRk.fin (n := z15958) (B := xTb9 f8) (show 1 ≤ z15958 by omega) (fun i9 q1 q2 => by have h9 := hB9 i9 q1 q2; omega) (show xRk z15958 (xF9 Q8 (xTs f8)) (xW9 Q8 (xTs f8)) (xTb9 f8) (xTs f8) (-1) z22560 z22561 (xv g22562 w85) (xv g22562 w86) (xv g22562 ty8) from (by have h9 := v23215 c9; rw [show z22559 = -1 by omega] at h9; exact h9))) with ⟨h8, _⟩ | ⟨_, c8, h8, h7⟩; omega; exact Or.inr (Or.inr ⟨by omega, hnn, c8, (by rw [← hnn]; exact h8), (by rw [← hnn]; rw [(Eq.trans (xv_a hg23221 (xne hs_ty8 hs_a0 (by decide))) (xv_a hg23220 (xne hs_ty8 hs_a0 (by decide))))]; exact h7)⟩))⟩)⟩⟩ (Nat.le_refl _) (Nat.le_refl _)
                  · refine X_iconst hK dX12_truck_304 ?_
                    exact hret _ _ _ _ _ _ _ dX12_truck_305 ⟨rfl, (-1), rfl, (by omega), (by omega), (((hg22562 a0 13 0 2 hs_a0 (by decide)).trans ((xs_a hg19951 (xne hs_a0 hs_w85 (by decide))).trans ((hg15959 a0 13 0 2 hs_a0 (by decide)).trans ((hg10 a0 13 0 2 hs_a0 (by decide)).trans k7)))).trans (by congr 2 <;> omega)), ⟨n8, xv g22562 ty8, ⟨ty8, wr8, m8, z8, 1, hs_a0, ((hg22562 a0 13 0 84 hs_a0 (by decide)).trans ((xs_a hg19951 (xne hs_a0 hs_w85 (by decide))).trans ((hg15959 a0 13 0 84 hs_a0 (by decide)).trans ((hg10 a0 13 0 84 hs_a0 (by decide)).trans ((hg3 a0 13 0 84 hs_a0 (by decide)).trans ((xs_k hg1 (by decide)).trans hrm2)))))), hs_ty8, ((hg22562 a0 13 0 87 hs_a0 (by decide)).trans ((xs_a hg19951 (xne hs_a0 hs_w85 (by decide))).trans ((hg15959 a0 13 0 87 hs_a0 (by decide)).trans ((hg10 a0 13 0 87 hs_a0 (by decide)).trans ((hg3 a0 13 0 87 hs_a0 (by decide)).trans ((xs_k hg1 (by decide)).trans hrm4)))))), by omega, by omega, ((hg22562 a0 13 0 88 hs_a0 (by decide)).trans ((xs_a hg19951 (xne hs_a0 hs_w85 (by decide))).trans ((hg15959 a0 13 0 88 hs_a0 (by decide)).trans ((hg10 a0 13 0 88 hs_a0 (by decide)).trans ((hg3 a0 13 0 88 hs_a0 (by decide)).trans ((xs_k hg1 (by decide)).trans hrm7)))))), hrm8, rfl, ((hg22562 a0 13 0 15 hs_a0 (by decide)).trans ((xs_a hg19951 (xne hs_a0 hs_w85 (by decide))).trans ((hg15959 a0 13 0 15 hs_a0 (by decide)).trans ((hg10 a0 13 0 15 hs_a0 (by decide)).trans ((hg3 a0 13 0 15 hs_a0 (by decide)).trans ((xs_k hg1 (by decide)).trans hrm10)))))), hs_wr8, ((hg22562 a0 13 0 18 hs_a0 (by decide)).trans ((xs_a hg19951 (xne hs_a0 hs_w85 (by decide))).trans ((hg15959 a0 13 0 18 hs_a0 (by decide)).trans k12))), (Or.inr ⟨rfl, (by rw [(Eq.trans (xv_m hg22562 hs_wr8 (by decide) (by decide)) (xv_a hg19951 (xne hs_wr8 hs_w85 (by decide))))]; exact hqr9)⟩)⟩, (Or.inr ⟨by omega, by rcases (show z15958 = 0 ∨ 0 < z15958 by omega) with c9 | c9; (have h9 := v23217 c9; omega); (rcases (xRk.fin (n := z15958) (B := xTb9 f8) (show 1 ≤ z15958 by omega) (fun i9 q1 q2 => by have h9 := hB9 i9 q1 q2; omega) (show xRk z15958 (xF9 Q8 (xTs f8)) (xW9 Q8 (xTs f8)) (xTb9 f8) (xTs f8) (-1) z22560 z22561 (xv g22562 w85) (xv g22562 w86) (xv g22562 ty8) from (by have h9 := v23215 c9; rw [show z22559 = -1 by omega] at h9; exact h9))) with ⟨_, h8⟩ | ⟨h8, _⟩; (exact Or.inr (Or.inl ⟨by omega, rfl, rfl, (fun x9 q1 q2 => by rw [v23216 (by omega) x9 q1 q2, hY8]), by rw [← hnn]; exact h8⟩)); omega)⟩)⟩⟩ (Nat.le_refl _) (Nat.le_refl _)
                · refine X_iloadn hK (i := 1) 3 dX12_truck_123 rfl rfl ?_
                  refine X_if_le hK 297 (by omega) dX12_truck_124 (by decide) (fun c23222 => False.elim (by omega)) (fun c23222 => ?_)
                  refine X_aloadn hK (i := 0) 4 dX12_truck_127 rfl rfl ?_
                  refine X_getK hK fl_X12_186_13 hs_a0 ((hg22562 a0 13 0 85 hs_a0 (by decide)).trans ((xs_a hg19951 (xne hs_a0 hs_w85 (by decide))).trans ((hg15959 a0 13 0 85 hs_a0 (by decide)).trans ((hg10 a0 13 0 85 hs_a0 (by decide)).trans ((hg3 a0 13 0 85 hs_a0 (by decide)).trans ((xs_k hg1 (by decide)).trans ew85)))))) dX12_truck_128 ?_
                  refine X_iload hK (i := 4) 0 dX12_truck_131 rfl ?_
                  refine X_iald hK hs_w85 (by decide) sl_19100 (by omega) (by omega) dX12_truck_133 (fun z23223 ez23223 lz23223 uz23223 => ?_)
                  have hw23224 : xv g22562 w85 z22559 = z23223 := (xv_e (j := z22559) ez23223 (by omega))
                  refine X_if_lt hK 151 (by omega) dX12_truck_134 (by decide) (fun c23225 => ?_) (fun c23225 => ?_)
                  · refine X_aloadn hK (i := 0) 4 dX12_truck_151 rfl rfl ?_
                    refine X_getK hK fl_X12_186_13 hs_a0 ((hg22562 a0 13 0 85 hs_a0 (by decide)).trans ((xs_a hg19951 (xne hs_a0 hs_w85 (by decide))).trans ((hg15959 a0 13 0 85 hs_a0 (by decide)).trans ((hg10 a0 13 0 85 hs_a0 (by decide)).trans ((hg3 a0 13 0 85 hs_a0 (by decide)).trans ((xs_k hg1 (by decide)).trans ew85)))))) dX12_truck_152 ?_
                    refine X_iload hK (i := 4) 0 dX12_truck_155 rfl ?_
                    refine X_ialdK hK hs_w85 (by decide) (by omega) (by omega) ez23223 dX12_truck_157 ?_
                    refine X_iconst hK dX12_truck_158 ?_
                    refine X_iadd hK dX12_truck_159 ?_
                    refine X_istore hK (i := 5) [(5, .int (iI (z23223 + 1))), (4, .int (iI z22559)), (3, .int (iI z22560)), (2, .int (iI z22561)), (1, .int (iI z15958)), (0, .ref a0)] dX12_truck_160 (by decide) rfl ?_
                    have hlh23226 := v23214 (by omega) z22559 (by omega) (by omega)
                    have P23479 : ∀ (nP23479 : Nat) (z23416 : Int) (_ : 0 ≤ z23416) (_ : z23416 ≤ 9) (_ : z23416 ≤ z15958) (_ : xv g22562 w85 z22559 < z23416) (_ : xRi z15958 (xF9 Q8 (xTs f8)) (xW9 Q8 (xTs f8)) (xTb9 f8) (xTs f8) z22559 z23416 z22561 (xv g22562 w85) (xv g22562 w86) (xv g22562 ty8)) (_ : z22560 = ((xmn (xv g22562 w85) z22559.toNat : Nat) : Int)) (_ : 25 - z23416 < (nP23479 : Int)), X K E 162 [(5, .int (iI z23416)), (4, .int (iI z22559)), (3, .int (iI z22560)), (2, .int (iI z22561)), (1, .int (iI z15958)), (0, .ref a0)] [] S g22562 0 0 := by
                      intro nP23479
                      induction nP23479 with
                      | zero => intro z23416 lz23416 uz23416 v23480 v23481 v23482 v23483 mP23479; exact False.elim (by omega)
                      | succ nP23479 ihP23479 =>
                        intro z23416 lz23416 uz23416 v23480 v23481 v23482 v23483 mP23479
                        refine X_iload hK (i := 5) 0 dX12_truck_162 rfl ?_
                        refine X_iloadn hK (i := 1) 4 dX12_truck_164 rfl rfl ?_
                        refine X_icmp_ge hK 187 (by omega) (by omega) dX12_truck_165 (by decide) (fun c23484 => ?_) (fun c23484 => ?_)
                        · refine X_iload hK (i := 5) 0 dX12_truck_187 rfl ?_
                          refine X_iloadn hK (i := 1) 4 dX12_truck_189 rfl rfl ?_
                          refine X_icmp_ne hK 199 (by omega) (by omega) dX12_truck_190 (by decide) (fun c23485 => False.elim (by omega)) (fun c23485 => ?_)
                          refine X_iinc hK (i := 4) (z := z22559) (n := (-1)) 1 [(4, .int (iI (z22559 + (-1)))), (5, .int (iI z23416)), (3, .int (iI z22560)), (2, .int (iI z22561)), (1, .int (iI z15958)), (0, .ref a0)] dX12_truck_193 rfl (by decide) rfl ?_
                          refine X_goto hK 118 dX12_truck_196 (by decide) ?_
                          refine X_lv [(4, .int (iI (z22559 + (-1)))), (3, .int (iI z22560)), (2, .int (iI z22561)), (1, .int (iI z15958)), (0, .ref a0)] [0, 2, 3, 4, 5] rfl ?_
                          exact ihP23211  g22562 (xM.tr xM.rf xLe.rf hg22562 (by decide)) (z22559 + (-1)) (by omega) (by omega) z22560 (by omega) (by omega) z22561 (by omega) (by omega) (by omega) (fun x q1 q2 => v23213 x q1 (by omega)) (fun h9 x q1 q2 => v23214 h9 x q1 (by omega)) (fun h9 => by have h8 := v23482; rw [show z23416 = z15958 by omega] at h8; have h7 := xRi.pop h8 (by omega) (by omega); rw [← v23483] at h7; exact h7) v23216 (by omega) (by have h9 := xdm_pop (f := xv g22562 w85) (k := z22559) (by omega); omega)
                        · refine X_aloadn hK (i := 0) 5 dX12_truck_168 rfl rfl ?_
                          refine X_iload hK (i := 4) 1 dX12_truck_169 rfl ?_
                          refine X_iload hK (i := 5) 0 dX12_truck_171 rfl ?_
                          refine X_iloadn hK (i := 3) 2 dX12_truck_173 rfl rfl ?_
                          refine X_iloadn hK (i := 2) 3 dX12_truck_174 rfl rfl ?_
                          refine X_callV hK [.int (iI z22559), .int (iI z23416), .int (iI z22560), .int (iI z22561)] [] lk_X12_467 (c3_mayGo _ _ _ _ _ S g22562 a0 z22559 z23416 z22560 z22561 w85 w86 w83 wr8 w82 z15958 Q8 (xTs f8) (xTb9 f8) hs_a0 (by omega) (by omega) (by omega) (by omega) ((hg22562 a0 13 0 85 hs_a0 (by decide)).trans ((xs_a hg19951 (xne hs_a0 hs_w85 (by decide))).trans ((hg15959 a0 13 0 85 hs_a0 (by decide)).trans ((hg10 a0 13 0 85 hs_a0 (by decide)).trans ((hg3 a0 13 0 85 hs_a0 (by decide)).trans ((xs_k hg1 (by decide)).trans ew85)))))) hs_w85 ((hg22562 a0 13 0 86 hs_a0 (by decide)).trans ((xs_a hg19951 (xne hs_a0 hs_w85 (by decide))).trans ((hg15959 a0 13 0 86 hs_a0 (by decide)).trans ((hg10 a0 13 0 86 hs_a0 (by decide)).trans ((hg3 a0 13 0 86 hs_a0 (by decide)).trans ((xs_k hg1 (by decide)).trans ew86)))))) hs_w86 ((hg22562 a0 13 0 83 hs_a0 (by decide)).trans ((xs_a hg19951 (xne hs_a0 hs_w85 (by decide))).trans ((hg15959 a0 13 0 83 hs_a0 (by decide)).trans ((hg10 a0 13 0 83 hs_a0 (by decide)).trans ((hg3 a0 13 0 83 hs_a0 (by decide)).trans ((xs_k hg1 (by decide)).trans ew83)))))) hs_w83 ((hg22562 a0 13 0 15 hs_a0 (by decide)).trans ((xs_a hg19951 (xne hs_a0 hs_w85 (by decide))).trans ((hg15959 a0 13 0 15 hs_a0 (by decide)).trans ((hg10 a0 13 0 15 hs_a0 (by decide)).trans ((hg3 a0 13 0 15 hs_a0 (by decide)).trans ((xs_k hg1 (by decide)).trans hrm10)))))) hs_wr8 ((hg22562 a0 13 0 82 hs_a0 (by decide)).trans ((xs_a hg19951 (xne hs_a0 hs_w85 (by decide))).trans ((hg15959 a0 13 0 82 hs_a0 (by decide)).trans ((hg10 a0 13 0 82 hs_a0 (by decide)).trans ((hg3 a0 13 0 82 hs_a0 (by decide)).trans ((xs_k hg1 (by decide)).trans ew82)))))) hs_w82 (by omega) (by omega) (fun k9 q1 q2 => by rw [(Eq.trans (xv_m hg22562 hs_w83 (by decide) (by decide)) (xv_a hg19951 (xne hs_w83 hs_w85 (by decide))))]; exact hT9 k9 q1 q2) (by rw [(Eq.trans (xv_m hg22562 hs_wr8 (by decide) (by decide)) (xv_a hg19951 (xne hs_wr8 hs_w85 (by decide))))]; exact hqr9) (xRi.kp v23482 (by omega) (fun x9 q1 q2 => (show xv g22562 w85 x9 = xv g22562 w85 x9 from rfl)) (fun x9 q1 q2 => (show xv g22562 w86 x9 = xv g22562 w86 x9 from rfl)) hF9 hW9 hB9) (fun k9 q1 q2 => by rw [(Eq.trans (xv_m hg22562 hs_w82 (by decide) (by decide)) (xv_a hg19951 (xne hs_w82 hs_w85 (by decide))))]; exact hN9 k9 q1 q2)) hs_a0 ⟨by decide, rfl⟩ dX12_truck_175 rfl rfl (by simp [Value.category]) (by decide) (by decide) (by decide) (by decide) (fun r23486 S23488 g23487 pr23486 qr23486 hg23487 => ?_)
                          obtain ⟨rfl, rfl, z23489, rfl, lz23489, uz23489, k23490⟩ := pr23486
                          refine X_st [.int (iI z23489)] rfl ?_
                          refine X_if_ne hK 187 (by omega) dX12_truck_178 (by decide) (fun c23491 => ?_) (fun c23491 => ?_)
                          · refine X_iload hK (i := 5) 0 dX12_truck_187 rfl ?_
                            refine X_iloadn hK (i := 1) 4 dX12_truck_189 rfl rfl ?_
                            refine X_icmp_ne hK 199 (by omega) (by omega) dX12_truck_190 (by decide) (fun c23492 => ?_) (fun c23492 => False.elim (by omega))
                            refine X_aloadn hK (i := 0) 5 dX12_truck_199 rfl rfl ?_
                            refine X_getK hK fl_X12_186_13 hs_a0 ((hg22562 a0 13 0 85 hs_a0 (by decide)).trans ((xs_a hg19951 (xne hs_a0 hs_w85 (by decide))).trans ((hg15959 a0 13 0 85 hs_a0 (by decide)).trans ((hg10 a0 13 0 85 hs_a0 (by decide)).trans ((hg3 a0 13 0 85 hs_a0 (by decide)).trans ((xs_k hg1 (by decide)).trans ew85)))))) dX12_truck_200 ?_
                            refine X_iload hK (i := 4) 1 dX12_truck_203 rfl ?_
                            refine X_iload hK (i := 5) 0 dX12_truck_205 rfl ?_
                            refine X_iast hK hs_w85 (by decide) (by decide) sl_19100 (by omega) (by omega) (by omega) (by omega) dX12_truck_207 (fun g23493 hg23493 => ?_)
                            refine X_aloadn hK (i := 0) 5 dX12_truck_208 rfl rfl ?_
                            refine X_getK hK fl_X12_189_13 hs_a0 ((xs_a hg23493 (xne hs_a0 hs_w85 (by decide))).trans ((hg22562 a0 13 0 86 hs_a0 (by decide)).trans ((xs_a hg19951 (xne hs_a0 hs_w85 (by decide))).trans ((hg15959 a0 13 0 86 hs_a0 (by decide)).trans ((hg10 a0 13 0 86 hs_a0 (by decide)).trans ((hg3 a0 13 0 86 hs_a0 (by decide)).trans ((xs_k hg1 (by decide)).trans ew86))))))) dX12_truck_209 ?_
                            refine X_iload hK (i := 4) 1 dX12_truck_212 rfl ?_
                            refine X_aloadn hK (i := 0) 5 dX12_truck_214 rfl rfl ?_
                            refine X_iload hK (i := 4) 1 dX12_truck_215 rfl ?_
                            refine X_iload hK (i := 5) 0 dX12_truck_217 rfl ?_
                            refine X_callV hK [.int (iI z22559), .int (iI z23416)] [.int (iI z22559), .ref w86] lk_X12_471 (c3_comesAt _ _ _ _ _ S g23493 a0 z22559 z23416 w85 w86 w83 wr8 z15958 Q8 (xTs f8) hs_a0 (by omega) (by omega) ((xs_a hg23493 (xne hs_a0 hs_w85 (by decide))).trans ((hg22562 a0 13 0 85 hs_a0 (by decide)).trans ((xs_a hg19951 (xne hs_a0 hs_w85 (by decide))).trans ((hg15959 a0 13 0 85 hs_a0 (by decide)).trans ((hg10 a0 13 0 85 hs_a0 (by decide)).trans ((hg3 a0 13 0 85 hs_a0 (by decide)).trans ((xs_k hg1 (by decide)).trans ew85))))))) hs_w85 ((xs_a hg23493 (xne hs_a0 hs_w85 (by decide))).trans ((hg22562 a0 13 0 86 hs_a0 (by decide)).trans ((xs_a hg19951 (xne hs_a0 hs_w85 (by decide))).trans ((hg15959 a0 13 0 86 hs_a0 (by decide)).trans ((hg10 a0 13 0 86 hs_a0 (by decide)).trans ((hg3 a0 13 0 86 hs_a0 (by decide)).trans ((xs_k hg1 (by decide)).trans ew86))))))) hs_w86 ((xs_a hg23493 (xne hs_a0 hs_w85 (by decide))).trans ((hg22562 a0 13 0 83 hs_a0 (by decide)).trans ((xs_a hg19951 (xne hs_a0 hs_w85 (by decide))).trans ((hg15959 a0 13 0 83 hs_a0 (by decide)).trans ((hg10 a0 13 0 83 hs_a0 (by decide)).trans ((hg3 a0 13 0 83 hs_a0 (by decide)).trans ((xs_k hg1 (by decide)).trans ew83))))))) hs_w83 ((xs_a hg23493 (xne hs_a0 hs_w85 (by decide))).trans ((hg22562 a0 13 0 15 hs_a0 (by decide)).trans ((xs_a hg19951 (xne hs_a0 hs_w85 (by decide))).trans ((hg15959 a0 13 0 15 hs_a0 (by decide)).trans ((hg10 a0 13 0 15 hs_a0 (by decide)).trans ((hg3 a0 13 0 15 hs_a0 (by decide)).trans ((xs_k hg1 (by decide)).trans hrm10))))))) hs_wr8 (by omega) (by omega) (fun k9 q1 q2 => by rw [(Eq.trans (Eq.trans (xv_a hg23493 (xne hs_w83 hs_w85 (by decide))) (xv_m hg22562 hs_w83 (by decide) (by decide))) (xv_a hg19951 (xne hs_w83 hs_w85 (by decide))))]; exact hT9 k9 q1 q2) (by rw [(Eq.trans (Eq.trans (xv_a hg23493 (xne hs_wr8 hs_w85 (by decide))) (xv_m hg22562 hs_wr8 (by decide) (by decide))) (xv_a hg19951 (xne hs_wr8 hs_w85 (by decide))))]; exact hqr9) (xRi.kp v23482 (by omega) (fun x9 q1 q2 => (show xv g23493 w85 x9 = xv g22562 w85 x9 from by rw [(xv_k (i := x9) hg23493 (by omega) (by omega) (by omega))])) (fun x9 q1 q2 => (show xv g23493 w86 x9 = xv g22562 w86 x9 from by rw [(xv_a hg23493 (xne hs_w86 hs_w85 (by decide)))])) hF9 hW9 hB9)) hs_a0 ⟨by decide, rfl⟩ dX12_truck_219 rfl rfl (by simp [Value.category]) (by decide) (by decide) (by decide) (by decide) (fun r23494 S23496 g23495 pr23494 qr23494 hg23495 => ?_)
                            obtain ⟨rfl, rfl, z23497, rfl, lz23497, uz23497, k23498⟩ := pr23494
                            refine X_st [.int (iI z23497), .int (iI z22559), .ref w86] rfl ?_
                            refine X_iast hK hs_w86 (by decide) (by decide) sl_19200 (by omega) (by omega) (by omega) (by omega) dX12_truck_222 (fun g23499 hg23499 => ?_)
                            refine X_iloadn hK (i := 3) 2 dX12_truck_223 rfl rfl ?_
                            refine X_iconst hK dX12_truck_224 ?_
                            refine X_iload hK (i := 5) 0 dX12_truck_225 rfl ?_
                            refine X_ishl hK dX12_truck_227 (fun z23500 ez23500 lz23500 uz23500 => ?_)
                            have bz23500 := xshlB 8 ez23500 ⟨lz23500, uz23500⟩ (by omega) (by decide)
                            refine X_ior hK dX12_truck_228 (fun z23501 ez23501 lz23501 uz23501 => ?_)
                            have bz23501 := xiorB 9 ez23501 ⟨lz23501, uz23501⟩ (by omega) (by omega) (by decide)
                            have ho23502 := xorn (m := z22560) (c := z23416) (by omega) (by omega) (by rcases k23490 with q9 | q9; exact q9.2.1; (have h7 := q9.1; clear q9; omega)) ez23500 ez23501 (by omega)
                            refine X_istoren hK (i := 3) [(3, .int (iI z23501)), (5, .int (iI z23416)), (4, .int (iI z22559)), (2, .int (iI z22561)), (1, .int (iI z15958)), (0, .ref a0)] dX12_truck_229 rfl (by decide) rfl ?_
                            refine X_iload hK (i := 4) 2 dX12_truck_230 rfl ?_
                            refine X_iloadn hK (i := 1) 4 dX12_truck_232 rfl rfl ?_
                            refine X_iconst hK dX12_truck_233 ?_
                            refine X_isub hK dX12_truck_234 ?_
                            refine X_icmp_ge hK 252 (by omega) (by omega) dX12_truck_235 (by decide) (fun c23503 => ?_) (fun c23503 => ?_)
                            · refine X_aloadn hK (i := 0) 5 dX12_truck_252 rfl rfl ?_
                              refine X_getK hK fl_X12_189_13 hs_a0 ((xs_a hg23499 (xne hs_a0 hs_w86 (by decide))).trans ((xs_a hg23493 (xne hs_a0 hs_w85 (by decide))).trans ((hg22562 a0 13 0 86 hs_a0 (by decide)).trans ((xs_a hg19951 (xne hs_a0 hs_w85 (by decide))).trans ((hg15959 a0 13 0 86 hs_a0 (by decide)).trans ((hg10 a0 13 0 86 hs_a0 (by decide)).trans ((hg3 a0 13 0 86 hs_a0 (by decide)).trans ((xs_k hg1 (by decide)).trans ew86)))))))) dX12_truck_253 ?_
                              refine X_iload hK (i := 4) 2 dX12_truck_256 rfl ?_
                              refine X_ialdK hK hs_w86 (by decide) (by omega) (by omega) (xs_s hg23499) dX12_truck_258 ?_
                              refine X_istoren hK (i := 2) [(2, .int (iI z23497)), (3, .int (iI z23501)), (5, .int (iI z23416)), (4, .int (iI z22559)), (1, .int (iI z15958)), (0, .ref a0)] dX12_truck_259 rfl (by decide) rfl ?_
                              refine X_iconst hK dX12_truck_260 ?_
                              refine X_istore hK (i := 6) [(6, .int (iI 0)), (2, .int (iI z23497)), (3, .int (iI z23501)), (5, .int (iI z23416)), (4, .int (iI z22559)), (1, .int (iI z15958)), (0, .ref a0)] dX12_truck_261 (by decide) rfl ?_
                              have P23539 : ∀ (nP23539 : Nat) (g23534 : xG) (_ : xM [(19000, 0)] S g23499 g23534) (z23533 : Int) (_ : 0 ≤ z23533) (_ : z23533 ≤ 9) (_ : ∀ x9, 0 ≤ x9 → x9 < z23533 → xv g23534 ty8 x9 = xTs f8 (xv g23534 w85 x9)) (_ : z23533 ≤ z15958) (_ : 25 - z23533 < (nP23539 : Int)), X K E 263 [(6, .int (iI z23533)), (2, .int (iI z23497)), (3, .int (iI z23501)), (5, .int (iI z23416)), (4, .int (iI z22559)), (1, .int (iI z15958)), (0, .ref a0)] [] S g23534 0 0 := by
                                intro nP23539
                                induction nP23539 with
                                | zero => intro g23534 hg23534 z23533 lz23533 uz23533 v23540 v23541 mP23539; exact False.elim (by omega)
                                | succ nP23539 ihP23539 =>
                                  intro g23534 hg23534 z23533 lz23533 uz23533 v23540 v23541 mP23539
                                  refine X_iload hK (i := 6) 0 dX12_truck_263 rfl ?_
                                  refine X_iloadn hK (i := 1) 5 dX12_truck_265 rfl rfl ?_
                                  refine X_icmp_ge hK 294 (by omega) (by omega) dX12_truck_266 (by decide) (fun c23542 => ?_) (fun c23542 => ?_)
                                  · refine X_goto hK 118 dX12_truck_294 (by decide) ?_
                                    refine X_lv [(4, .int (iI z22559)), (3, .int (iI z23501)), (2, .int (iI z23497)), (1, .int (iI z15958)), (0, .ref a0)] [4, 2, 1, 5, 6] rfl ?_
                                    exact ihP23211  g23534 (xM.tr (xM_ua (xM_ua (xM.tr xM.rf xLe.rf hg22562 (by decide)) hg23493 hs_w85 (by decide) (by decide)) hg23499 hs_w86 (by decide) (by decide)) xLe.rf hg23534 (by decide)) z22559 (by omega) (by omega) z23501 (by omega) (by omega) z23497 (by omega) (by omega) (by omega) (fun x q1 q2 => by rw [(show xv g23534 w85 x = xv g22562 w85 x from by rw [(xv_m hg23534 hs_w85 (by decide) (by decide)), (xv_a hg23499 (xne hs_w85 hs_w86 (by decide))), (xv_k (i := x) hg23493 (by omega) (by omega) (by omega))])]; exact v23213 x q1 q2) (fun h9 x q1 q2 => by rcases (show x < z22559 ∨ x = z22559 by omega) with c9 | c9 <;> first | (rw [c9]; have h8 := (show xv g23534 w85 z22559 = z23416 from by rw [(xv_m hg23534 hs_w85 (by decide) (by decide)), (xv_a hg23499 (xne hs_w85 hs_w86 (by decide))), xv_s hg23493 (by omega)]); omega) | (rw [(show xv g23534 w85 x = xv g22562 w85 x from by rw [(xv_m hg23534 hs_w85 (by decide) (by decide)), (xv_a hg23499 (xne hs_w85 hs_w86 (by decide))), (xv_k (i := x) hg23493 (by omega) (by omega) (by omega))])]; exact v23214 h9 x q1 (by omega))) (fun h9 => xRi.leaf (z := z23497) (by omega) v23482 (by omega) (by omega) (by rw [show xmn (xv g22562 w85) z22559.toNat = z22560.toNat by omega]; rcases k23490 with q9 | q9; exact q9.2.1; (have h7 := q9.1; clear q9; omega)) (xCo9.cg k23498 (by omega) (fun x9 q1 q2 => (show xv g23493 w85 x9 = xv g22562 w85 x9 from by rw [(xv_k (i := x9) hg23493 (by omega) (by omega) (by omega))]))) (by rcases k23490 with ⟨_, _, z9, c1, c2, c3⟩ | q9; (have h8 := xCo9.in c1 (xCo9.cg k23498 (by omega) (fun x9 q1 q2 => (show xv g23493 w85 x9 = xv g22562 w85 x9 from by rw [(xv_k (i := x9) hg23493 (by omega) (by omega) (by omega))]))); omega); (have h7 := q9.1; clear q9; omega)) (by rcases k23490 with ⟨_, _, z9, c1, c2, c3⟩ | q9; (have h8 := xCo9.in c1 (xCo9.cg k23498 (by omega) (fun x9 q1 q2 => (show xv g23493 w85 x9 = xv g22562 w85 x9 from by rw [(xv_k (i := x9) hg23493 (by omega) (by omega) (by omega))]))); omega); (have h7 := q9.1; clear q9; omega)) (show xv g23534 w85 z22559 = z23416 from by rw [(xv_m hg23534 hs_w85 (by decide) (by decide)), (xv_a hg23499 (xne hs_w85 hs_w86 (by decide))), xv_s hg23493 (by omega)]) (fun i9 hi9 h09 => (show xv g23534 w85 i9 = xv g22562 w85 i9 from by rw [(xv_m hg23534 hs_w85 (by decide) (by decide)), (xv_a hg23499 (xne hs_w85 hs_w86 (by decide))), (xv_k (i := i9) hg23493 (by omega) (by omega) (by omega))])) (fun x9 q1 q2 => (show xv g23534 w86 x9 = xv g22562 w86 x9 from by rw [(xv_m hg23534 hs_w86 (by decide) (by decide)), (xv_k (i := x9) hg23499 (by omega) (by omega) (by omega)), (xv_a hg23493 (xne hs_w86 hs_w85 (by decide)))])) (fun x9 q1 q2 => v23540 x9 q1 (by omega)) (by omega)) (fun h9 => by omega) (by omega) (by have h9 := xdm_adv (f := xv g22562 w85) (f' := xv g23534 w85) (k := z22559) (i := z23416) (by omega) (by omega) (by omega) (show xv g23534 w85 z22559 = z23416 from by rw [(xv_m hg23534 hs_w85 (by decide) (by decide)), (xv_a hg23499 (xne hs_w85 hs_w86 (by decide))), xv_s hg23493 (by omega)]) (fun x q1 q2 => (show xv g23534 w85 x = xv g22562 w85 x from by rw [(xv_m hg23534 hs_w85 (by decide) (by decide)), (xv_a hg23499 (xne hs_w85 hs_w86 (by decide))), (xv_k (i := x) hg23493 (by omega) (by omega) (by omega))])); omega)
                                  · refine X_aloadn hK (i := 0) 6 dX12_truck_269 rfl rfl ?_
                                    refine X_getK hK fl_X12_183_13 hs_a0 ((hg23534 a0 13 0 84 hs_a0 (by decide)).trans ((xs_a hg23499 (xne hs_a0 hs_w86 (by decide))).trans ((xs_a hg23493 (xne hs_a0 hs_w85 (by decide))).trans ((hg22562 a0 13 0 84 hs_a0 (by decide)).trans ((xs_a hg19951 (xne hs_a0 hs_w85 (by decide))).trans ((hg15959 a0 13 0 84 hs_a0 (by decide)).trans ((hg10 a0 13 0 84 hs_a0 (by decide)).trans ((hg3 a0 13 0 84 hs_a0 (by decide)).trans ((xs_k hg1 (by decide)).trans hrm2))))))))) dX12_truck_270 ?_
                                    refine X_iload hK (i := 6) 0 dX12_truck_273 rfl ?_
                                    refine X_aloadn hK (i := 0) 6 dX12_truck_275 rfl rfl ?_
                                    refine X_getK hK fl_X12_180_13 hs_a0 ((hg23534 a0 13 0 83 hs_a0 (by decide)).trans ((xs_a hg23499 (xne hs_a0 hs_w86 (by decide))).trans ((xs_a hg23493 (xne hs_a0 hs_w85 (by decide))).trans ((hg22562 a0 13 0 83 hs_a0 (by decide)).trans ((xs_a hg19951 (xne hs_a0 hs_w85 (by decide))).trans ((hg15959 a0 13 0 83 hs_a0 (by decide)).trans ((hg10 a0 13 0 83 hs_a0 (by decide)).trans ((hg3 a0 13 0 83 hs_a0 (by decide)).trans ((xs_k hg1 (by decide)).trans ew83))))))))) dX12_truck_276 ?_
                                    refine X_aloadn hK (i := 0) 6 dX12_truck_279 rfl rfl ?_
                                    refine X_getK hK fl_X12_186_13 hs_a0 ((hg23534 a0 13 0 85 hs_a0 (by decide)).trans ((xs_a hg23499 (xne hs_a0 hs_w86 (by decide))).trans ((xs_a hg23493 (xne hs_a0 hs_w85 (by decide))).trans ((hg22562 a0 13 0 85 hs_a0 (by decide)).trans ((xs_a hg19951 (xne hs_a0 hs_w85 (by decide))).trans ((hg15959 a0 13 0 85 hs_a0 (by decide)).trans ((hg10 a0 13 0 85 hs_a0 (by decide)).trans ((hg3 a0 13 0 85 hs_a0 (by decide)).trans ((xs_k hg1 (by decide)).trans ew85))))))))) dX12_truck_280 ?_
                                    refine X_iload hK (i := 6) 0 dX12_truck_283 rfl ?_
                                    refine X_iald hK hs_w85 (by decide) sl_19100 (by omega) (by omega) dX12_truck_285 (fun z23543 ez23543 lz23543 uz23543 => ?_)
                                    have ehz23544 : xv g23534 w85 z23533 = z23543 := xv_e (j := z23533) ez23543 (by omega)
                                    have hz23544 : 0 ≤ z23543 ∧ z23543 < z15958 := by have h7 := ehz23544; rcases (show z23533 < z22559 ∨ z23533 = z22559 by omega) with c9 | c9 <;> first | (have h8 := (show xv g23534 w85 z23533 = xv g22562 w85 z23533 from by rw [(xv_m hg23534 hs_w85 (by decide) (by decide)), (xv_a hg23499 (xne hs_w85 hs_w86 (by decide))), (xv_k (i := z23533) hg23493 (by omega) (by omega) (by omega))]); have h6 := v23213 z23533 (by omega) c9; have h5 := v23214 (by omega) z23533 (by omega) (by omega); omega) | (rw [c9] at h7; have h8 := (show xv g23534 w85 z22559 = z23416 from by rw [(xv_m hg23534 hs_w85 (by decide) (by decide)), (xv_a hg23499 (xne hs_w85 hs_w86 (by decide))), xv_s hg23493 (by omega)]); omega)
                                    refine X_iald hK hs_w83 (by decide) sl_18900 (by omega) (by omega) dX12_truck_286 (fun z23545 ez23545 lz23545 uz23545 => ?_)
                                    have ht23546 : xTs f8 z23543 = z23545 := ((show ∀ k, 0 ≤ k → k < z15958 → xv g23534 w83 k = xTs f8 k ∧ 0 ≤ xTs f8 k ∧ xTs f8 k ≤ 9 from (fun k9 q1 q2 => by rw [(Eq.trans (Eq.trans (Eq.trans (Eq.trans (xv_m hg23534 hs_w83 (by decide) (by decide)) (xv_a hg23499 (xne hs_w83 hs_w86 (by decide)))) (xv_a hg23493 (xne hs_w83 hs_w85 (by decide)))) (xv_m hg22562 hs_w83 (by decide) (by decide))) (xv_a hg19951 (xne hs_w83 hs_w85 (by decide))))]; exact hT9 k9 q1 q2)) z23543 (by omega) (by omega)).1.symm.trans (xv_e (j := z23543) ez23545 (by omega))
                                    refine X_iast hK hs_ty8 (by decide) (by decide) sl_19000 (by omega) (by omega) (by omega) (by omega) dX12_truck_287 (fun g23547 hg23547 => ?_)
                                    refine X_iinc hK (i := 6) (z := z23533) (n := 1) 0 [(6, .int (iI (z23533 + 1))), (2, .int (iI z23497)), (3, .int (iI z23501)), (5, .int (iI z23416)), (4, .int (iI z22559)), (1, .int (iI z15958)), (0, .ref a0)] dX12_truck_288 rfl (by decide) rfl ?_
                                    refine X_goto hK 263 dX12_truck_291 (by decide) ?_
                                    exact ihP23539  g23547 (xM_ua (xM.tr xM.rf xLe.rf hg23534 (by decide)) hg23547 hs_ty8 (by decide) (by decide)) (z23533 + 1) (by omega) (by omega) (fun x9 q1 q2 => by rw [(xv_a hg23547 (xne hs_w85 hs_ty8 (by decide)))]; by_cases e9 : x9 = z23533; (rw [e9, (show xv g23547 ty8 z23533 = z23545 from by rw [xv_s hg23547 (by omega)]), (show xv g23534 w85 z23533 = _ from ehz23544), ht23546]); (rw [(show xv g23547 ty8 x9 = xv g23534 ty8 x9 from by rw [(xv_k (i := x9) hg23547 (by omega) (by omega) (by omega))])]; exact v23540 x9 q1 (by omega))) (by omega) (by omega)
                              exact P23539 ((25 - 0 : Int).toNat + 1) g23499 xM.rf 0 (by omega) (by omega) (fun x9 q1 q2 => by omega) (by omega) (by omega)
                            · refine X_iinc hK (i := 4) (z := z22559) (n := 1) 2 [(4, .int (iI (z22559 + 1))), (3, .int (iI z23501)), (5, .int (iI z23416)), (2, .int (iI z22561)), (1, .int (iI z15958)), (0, .ref a0)] dX12_truck_238 rfl (by decide) rfl ?_
                              refine X_aloadn hK (i := 0) 5 dX12_truck_241 rfl rfl ?_
                              refine X_getK hK fl_X12_186_13 hs_a0 ((xs_a hg23499 (xne hs_a0 hs_w86 (by decide))).trans ((xs_a hg23493 (xne hs_a0 hs_w85 (by decide))).trans ((hg22562 a0 13 0 85 hs_a0 (by decide)).trans ((xs_a hg19951 (xne hs_a0 hs_w85 (by decide))).trans ((hg15959 a0 13 0 85 hs_a0 (by decide)).trans ((hg10 a0 13 0 85 hs_a0 (by decide)).trans ((hg3 a0 13 0 85 hs_a0 (by decide)).trans ((xs_k hg1 (by decide)).trans ew85)))))))) dX12_truck_242 ?_
                              refine X_iload hK (i := 4) 0 dX12_truck_245 rfl ?_
                              refine X_iconst hK dX12_truck_247 ?_
                              refine X_iast hK hs_w85 (by decide) (by decide) sl_19100 (by omega) (by omega) (by omega) (by omega) dX12_truck_248 (fun g23548 hg23548 => ?_)
                              refine X_goto hK 118 dX12_truck_249 (by decide) ?_
                              refine X_lv [(4, .int (iI (z22559 + 1))), (3, .int (iI z23501)), (2, .int (iI z22561)), (1, .int (iI z15958)), (0, .ref a0)] [0, 1, 3, 4, 5] rfl ?_
                              exact ihP23211  g23548 (xM_ua (xM_ua (xM_ua (xM.tr xM.rf xLe.rf hg22562 (by decide)) hg23493 hs_w85 (by decide) (by decide)) hg23499 hs_w86 (by decide) (by decide)) hg23548 hs_w85 (by decide) (by decide)) (z22559 + 1) (by omega) (by omega) z23501 (by omega) (by omega) z22561 (by omega) (by omega) (by omega) (fun x q1 q2 => by rcases (show x < z22559 ∨ x = z22559 by omega) with c9 | c9 <;> first | (rw [c9]; have h8 := (show xv g23548 w85 z22559 = z23416 from by rw [(xv_k (i := z22559) hg23548 (by omega) (by omega) (by omega)), (xv_a hg23499 (xne hs_w85 hs_w86 (by decide))), xv_s hg23493 (by omega)]); omega) | (rw [(show xv g23548 w85 x = xv g22562 w85 x from by rw [(xv_k (i := x) hg23548 (by omega) (by omega) (by omega)), (xv_a hg23499 (xne hs_w85 hs_w86 (by decide))), (xv_k (i := x) hg23493 (by omega) (by omega) (by omega))])]; exact v23213 x q1 c9)) (fun h9 x q1 q2 => by rcases (show x < z22559 ∨ x = z22559 ∨ x = (z22559 + 1) by omega) with c9 | c9 | c9 <;> first | (rw [c9]; have h8 := (show xv g23548 w85 z22559 = z23416 from by rw [(xv_k (i := z22559) hg23548 (by omega) (by omega) (by omega)), (xv_a hg23499 (xne hs_w85 hs_w86 (by decide))), xv_s hg23493 (by omega)]); omega) | (rw [c9]; have h8 := (show xv g23548 w85 (z22559 + 1) = (-1) from by rw [xv_s hg23548 (by omega)]); omega) | (rw [(show xv g23548 w85 x = xv g22562 w85 x from by rw [(xv_k (i := x) hg23548 (by omega) (by omega) (by omega)), (xv_a hg23499 (xne hs_w85 hs_w86 (by decide))), (xv_k (i := x) hg23493 (by omega) (by omega) (by omega))])]; exact v23214 h9 x q1 (by omega))) (fun h9 => xRi.push (z := z23497) (by omega) v23482 (by omega) (by omega) (by rw [show xmn (xv g22562 w85) z22559.toNat = z22560.toNat by omega]; rcases k23490 with q9 | q9; exact q9.2.1; (have h7 := q9.1; clear q9; omega)) (xCo9.cg k23498 (by omega) (fun x9 q1 q2 => (show xv g23493 w85 x9 = xv g22562 w85 x9 from by rw [(xv_k (i := x9) hg23493 (by omega) (by omega) (by omega))]))) (by rcases k23490 with ⟨_, _, z9, c1, c2, c3⟩ | q9; (have h8 := xCo9.in c1 (xCo9.cg k23498 (by omega) (fun x9 q1 q2 => (show xv g23493 w85 x9 = xv g22562 w85 x9 from by rw [(xv_k (i := x9) hg23493 (by omega) (by omega) (by omega))]))); omega); (have h7 := q9.1; clear q9; omega)) (show xv g23548 w85 z22559 = z23416 from by rw [(xv_k (i := z22559) hg23548 (by omega) (by omega) (by omega)), (xv_a hg23499 (xne hs_w85 hs_w86 (by decide))), xv_s hg23493 (by omega)]) (fun i9 hi9 h09 h19 => (show xv g23548 w85 i9 = xv g22562 w85 i9 from by rw [(xv_k (i := i9) hg23548 (by omega) (by omega) (by omega)), (xv_a hg23499 (xne hs_w85 hs_w86 (by decide))), (xv_k (i := i9) hg23493 (by omega) (by omega) (by omega))])) (show xv g23548 w85 (z22559 + 1) = (-1) from by rw [xv_s hg23548 (by omega)]) (show xv g23548 w86 z22559 = z23497 from by rw [(xv_a hg23548 (xne hs_w86 hs_w85 (by decide))), xv_s hg23499 (by omega)]) (fun i9 hi9 h09 => (show xv g23548 w86 i9 = xv g22562 w86 i9 from by rw [(xv_a hg23548 (xne hs_w86 hs_w85 (by decide))), (xv_k (i := i9) hg23499 (by omega) (by omega) (by omega)), (xv_a hg23493 (xne hs_w86 hs_w85 (by decide)))])) (fun x9 _ => by rw [(Eq.trans (Eq.trans (xv_a hg23548 (xne hs_ty8 hs_w85 (by decide))) (xv_a hg23499 (xne hs_ty8 hs_w86 (by decide)))) (xv_a hg23493 (xne hs_ty8 hs_w85 (by decide))))]) (by omega)) (fun h9 x9 q1 q2 => by rw [(Eq.trans (Eq.trans (xv_a hg23548 (xne hs_ty8 hs_w85 (by decide))) (xv_a hg23499 (xne hs_ty8 hs_w86 (by decide)))) (xv_a hg23493 (xne hs_ty8 hs_w85 (by decide))))]; exact v23216 h9 x9 q1 q2) (by omega) (by have h9 := xdm_push (f := xv g22562 w85) (f' := xv g23548 w85) (k := z22559) (i := z23416) (by omega) (by omega) (by omega) (show xv g23548 w85 z22559 = z23416 from by rw [(xv_k (i := z22559) hg23548 (by omega) (by omega) (by omega)), (xv_a hg23499 (xne hs_w85 hs_w86 (by decide))), xv_s hg23493 (by omega)]) (show xv g23548 w85 (z22559 + 1) = (-1) from by rw [xv_s hg23548 (by omega)]) (fun x q1 q2 => (show xv g23548 w85 x = xv g22562 w85 x from by rw [(xv_k (i := x) hg23548 (by omega) (by omega) (by omega)), (xv_a hg23499 (xne hs_w85 hs_w86 (by decide))), (xv_k (i := x) hg23493 (by omega) (by omega) (by omega))])); omega)
                          · refine X_iinc hK (i := 5) (z := z23416) (n := 1) 0 [(5, .int (iI (z23416 + 1))), (4, .int (iI z22559)), (3, .int (iI z22560)), (2, .int (iI z22561)), (1, .int (iI z15958)), (0, .ref a0)] dX12_truck_181 rfl (by decide) rfl ?_
                            refine X_goto hK 162 dX12_truck_184 (by decide) ?_
                            exact ihP23479  (z23416 + 1) (by omega) (by omega) (by omega) (by omega) (xRi.skip v23482 (by omega) (by omega) (by omega) hW9 (by rcases k23490 with q9 | q9; (have h7 := q9.1; clear q9; omega); exact q9.2.imp (fun w9 => by rw [show xmn (xv g22562 w85) z22559.toNat = z22560.toNat by omega]; exact w9) (fun w9 => w9))) (by omega) (by omega)
                    exact P23479 ((25 - (z23223 + 1) : Int).toNat + 1) (z23223 + 1) (by omega) (by omega) (by omega) (by omega) (by have h9 := xRk.ri (v23215 (by omega)) (by omega); rw [hw23224] at h9; exact h9) (by have h9 := ((v23215 (by omega)).1 (by omega)).2.1; rw [hw23224, if_pos (by omega)] at h9; omega) (by omega)
                  · refine X_iloadn hK (i := 3) 1 dX12_truck_137 rfl rfl ?_
                    refine X_iconst hK dX12_truck_138 ?_
                    refine X_aloadn hK (i := 0) 4 dX12_truck_139 rfl rfl ?_
                    refine X_getK hK fl_X12_186_13 hs_a0 ((hg22562 a0 13 0 85 hs_a0 (by decide)).trans ((xs_a hg19951 (xne hs_a0 hs_w85 (by decide))).trans ((hg15959 a0 13 0 85 hs_a0 (by decide)).trans ((hg10 a0 13 0 85 hs_a0 (by decide)).trans ((hg3 a0 13 0 85 hs_a0 (by decide)).trans ((xs_k hg1 (by decide)).trans ew85)))))) dX12_truck_140 ?_
                    refine X_iload hK (i := 4) 0 dX12_truck_143 rfl ?_
                    refine X_ialdK hK hs_w85 (by decide) (by omega) (by omega) ez23223 dX12_truck_145 ?_
                    refine X_ishl hK dX12_truck_146 (fun z23549 ez23549 lz23549 uz23549 => ?_)
                    have bz23549 := xshlB 8 ez23549 ⟨lz23549, uz23549⟩ (by omega) (by decide)
                    refine X_iconst hK dX12_truck_147 ?_
                    refine X_ixor hK dX12_truck_148 (fun z23550 ez23550 lz23550 uz23550 => ?_)
                    refine X_iand hK dX12_truck_149 (fun z23551 ez23551 lz23551 uz23551 => ?_)
                    have hh23552 := xRk.had (by omega) (v23215 (by omega)) (k := z22559) (by omega) (by rw [hw23224]; omega)
                    rw [hw23224] at hh23552
                    have nhh23552 := xandn (m := z22560) (c := z23223) hh23552.1 (by omega) hh23552.2.1 ez23549 ez23550 ez23551 (by omega)
                    refine X_istoren hK (i := 3) [(3, .int (iI z23551)), (4, .int (iI z22559)), (2, .int (iI z22561)), (1, .int (iI z15958)), (0, .ref a0)] dX12_truck_150 rfl (by decide) rfl ?_
                    refine X_aloadn hK (i := 0) 4 dX12_truck_151 rfl rfl ?_
                    refine X_getK hK fl_X12_186_13 hs_a0 ((hg22562 a0 13 0 85 hs_a0 (by decide)).trans ((xs_a hg19951 (xne hs_a0 hs_w85 (by decide))).trans ((hg15959 a0 13 0 85 hs_a0 (by decide)).trans ((hg10 a0 13 0 85 hs_a0 (by decide)).trans ((hg3 a0 13 0 85 hs_a0 (by decide)).trans ((xs_k hg1 (by decide)).trans ew85)))))) dX12_truck_152 ?_
                    refine X_iload hK (i := 4) 1 dX12_truck_155 rfl ?_
                    refine X_ialdK hK hs_w85 (by decide) (by omega) (by omega) ez23223 dX12_truck_157 ?_
                    refine X_iconst hK dX12_truck_158 ?_
                    refine X_iadd hK dX12_truck_159 ?_
                    refine X_istore hK (i := 5) [(5, .int (iI (z23223 + 1))), (3, .int (iI z23551)), (4, .int (iI z22559)), (2, .int (iI z22561)), (1, .int (iI z15958)), (0, .ref a0)] dX12_truck_160 (by decide) rfl ?_
                    have hlh23553 := v23214 (by omega) z22559 (by omega) (by omega)
                    have P23806 : ∀ (nP23806 : Nat) (z23743 : Int) (_ : 0 ≤ z23743) (_ : z23743 ≤ 9) (_ : z23743 ≤ z15958) (_ : xv g22562 w85 z22559 < z23743) (_ : xRi z15958 (xF9 Q8 (xTs f8)) (xW9 Q8 (xTs f8)) (xTb9 f8) (xTs f8) z22559 z23743 z22561 (xv g22562 w85) (xv g22562 w86) (xv g22562 ty8)) (_ : z23551 = ((xmn (xv g22562 w85) z22559.toNat : Nat) : Int)) (_ : 25 - z23743 < (nP23806 : Int)), X K E 162 [(5, .int (iI z23743)), (3, .int (iI z23551)), (4, .int (iI z22559)), (2, .int (iI z22561)), (1, .int (iI z15958)), (0, .ref a0)] [] S g22562 0 0 := by
                      intro nP23806
                      induction nP23806 with
                      | zero => intro z23743 lz23743 uz23743 v23807 v23808 v23809 v23810 mP23806; exact False.elim (by omega)
                      | succ nP23806 ihP23806 =>
                        intro z23743 lz23743 uz23743 v23807 v23808 v23809 v23810 mP23806
                        refine X_iload hK (i := 5) 0 dX12_truck_162 rfl ?_
                        refine X_iloadn hK (i := 1) 4 dX12_truck_164 rfl rfl ?_
                        refine X_icmp_ge hK 187 (by omega) (by omega) dX12_truck_165 (by decide) (fun c23811 => ?_) (fun c23811 => ?_)
                        · refine X_iload hK (i := 5) 0 dX12_truck_187 rfl ?_
                          refine X_iloadn hK (i := 1) 4 dX12_truck_189 rfl rfl ?_
                          refine X_icmp_ne hK 199 (by omega) (by omega) dX12_truck_190 (by decide) (fun c23812 => False.elim (by omega)) (fun c23812 => ?_)
                          refine X_iinc hK (i := 4) (z := z22559) (n := (-1)) 2 [(4, .int (iI (z22559 + (-1)))), (5, .int (iI z23743)), (3, .int (iI z23551)), (2, .int (iI z22561)), (1, .int (iI z15958)), (0, .ref a0)] dX12_truck_193 rfl (by decide) rfl ?_
                          refine X_goto hK 118 dX12_truck_196 (by decide) ?_
                          refine X_lv [(4, .int (iI (z22559 + (-1)))), (3, .int (iI z23551)), (2, .int (iI z22561)), (1, .int (iI z15958)), (0, .ref a0)] [0, 2, 3, 4, 5] rfl ?_
                          exact ihP23211  g22562 (xM.tr xM.rf xLe.rf hg22562 (by decide)) (z22559 + (-1)) (by omega) (by omega) z23551 (by omega) (by omega) z22561 (by omega) (by omega) (by omega) (fun x q1 q2 => v23213 x q1 (by omega)) (fun h9 x q1 q2 => v23214 h9 x q1 (by omega)) (fun h9 => by have h8 := v23809; rw [show z23743 = z15958 by omega] at h8; have h7 := xRi.pop h8 (by omega) (by omega); rw [← v23810] at h7; exact h7) v23216 (by omega) (by have h9 := xdm_pop (f := xv g22562 w85) (k := z22559) (by omega); omega)
                        · refine X_aloadn hK (i := 0) 5 dX12_truck_168 rfl rfl ?_
                          refine X_iload hK (i := 4) 2 dX12_truck_169 rfl ?_
                          refine X_iload hK (i := 5) 0 dX12_truck_171 rfl ?_
                          refine X_iloadn hK (i := 3) 1 dX12_truck_173 rfl rfl ?_
                          refine X_iloadn hK (i := 2) 3 dX12_truck_174 rfl rfl ?_
                          refine X_callV hK [.int (iI z22559), .int (iI z23743), .int (iI z23551), .int (iI z22561)] [] lk_X12_467 (c3_mayGo _ _ _ _ _ S g22562 a0 z22559 z23743 z23551 z22561 w85 w86 w83 wr8 w82 z15958 Q8 (xTs f8) (xTb9 f8) hs_a0 (by omega) (by omega) (by omega) (by omega) ((hg22562 a0 13 0 85 hs_a0 (by decide)).trans ((xs_a hg19951 (xne hs_a0 hs_w85 (by decide))).trans ((hg15959 a0 13 0 85 hs_a0 (by decide)).trans ((hg10 a0 13 0 85 hs_a0 (by decide)).trans ((hg3 a0 13 0 85 hs_a0 (by decide)).trans ((xs_k hg1 (by decide)).trans ew85)))))) hs_w85 ((hg22562 a0 13 0 86 hs_a0 (by decide)).trans ((xs_a hg19951 (xne hs_a0 hs_w85 (by decide))).trans ((hg15959 a0 13 0 86 hs_a0 (by decide)).trans ((hg10 a0 13 0 86 hs_a0 (by decide)).trans ((hg3 a0 13 0 86 hs_a0 (by decide)).trans ((xs_k hg1 (by decide)).trans ew86)))))) hs_w86 ((hg22562 a0 13 0 83 hs_a0 (by decide)).trans ((xs_a hg19951 (xne hs_a0 hs_w85 (by decide))).trans ((hg15959 a0 13 0 83 hs_a0 (by decide)).trans ((hg10 a0 13 0 83 hs_a0 (by decide)).trans ((hg3 a0 13 0 83 hs_a0 (by decide)).trans ((xs_k hg1 (by decide)).trans ew83)))))) hs_w83 ((hg22562 a0 13 0 15 hs_a0 (by decide)).trans ((xs_a hg19951 (xne hs_a0 hs_w85 (by decide))).trans ((hg15959 a0 13 0 15 hs_a0 (by decide)).trans ((hg10 a0 13 0 15 hs_a0 (by decide)).trans ((hg3 a0 13 0 15 hs_a0 (by decide)).trans ((xs_k hg1 (by decide)).trans hrm10)))))) hs_wr8 ((hg22562 a0 13 0 82 hs_a0 (by decide)).trans ((xs_a hg19951 (xne hs_a0 hs_w85 (by decide))).trans ((hg15959 a0 13 0 82 hs_a0 (by decide)).trans ((hg10 a0 13 0 82 hs_a0 (by decide)).trans ((hg3 a0 13 0 82 hs_a0 (by decide)).trans ((xs_k hg1 (by decide)).trans ew82)))))) hs_w82 (by omega) (by omega) (fun k9 q1 q2 => by rw [(Eq.trans (xv_m hg22562 hs_w83 (by decide) (by decide)) (xv_a hg19951 (xne hs_w83 hs_w85 (by decide))))]; exact hT9 k9 q1 q2) (by rw [(Eq.trans (xv_m hg22562 hs_wr8 (by decide) (by decide)) (xv_a hg19951 (xne hs_wr8 hs_w85 (by decide))))]; exact hqr9) (xRi.kp v23809 (by omega) (fun x9 q1 q2 => (show xv g22562 w85 x9 = xv g22562 w85 x9 from rfl)) (fun x9 q1 q2 => (show xv g22562 w86 x9 = xv g22562 w86 x9 from rfl)) hF9 hW9 hB9) (fun k9 q1 q2 => by rw [(Eq.trans (xv_m hg22562 hs_w82 (by decide) (by decide)) (xv_a hg19951 (xne hs_w82 hs_w85 (by decide))))]; exact hN9 k9 q1 q2)) hs_a0 ⟨by decide, rfl⟩ dX12_truck_175 rfl rfl (by simp [Value.category]) (by decide) (by decide) (by decide) (by decide) (fun r23813 S23815 g23814 pr23813 qr23813 hg23814 => ?_)
                          obtain ⟨rfl, rfl, z23816, rfl, lz23816, uz23816, k23817⟩ := pr23813
                          refine X_st [.int (iI z23816)] rfl ?_
                          refine X_if_ne hK 187 (by omega) dX12_truck_178 (by decide) (fun c23818 => ?_) (fun c23818 => ?_)
                          · refine X_iload hK (i := 5) 0 dX12_truck_187 rfl ?_
                            refine X_iloadn hK (i := 1) 4 dX12_truck_189 rfl rfl ?_
                            refine X_icmp_ne hK 199 (by omega) (by omega) dX12_truck_190 (by decide) (fun c23819 => ?_) (fun c23819 => False.elim (by omega))
                            refine X_aloadn hK (i := 0) 5 dX12_truck_199 rfl rfl ?_
                            refine X_getK hK fl_X12_186_13 hs_a0 ((hg22562 a0 13 0 85 hs_a0 (by decide)).trans ((xs_a hg19951 (xne hs_a0 hs_w85 (by decide))).trans ((hg15959 a0 13 0 85 hs_a0 (by decide)).trans ((hg10 a0 13 0 85 hs_a0 (by decide)).trans ((hg3 a0 13 0 85 hs_a0 (by decide)).trans ((xs_k hg1 (by decide)).trans ew85)))))) dX12_truck_200 ?_
                            refine X_iload hK (i := 4) 2 dX12_truck_203 rfl ?_
                            refine X_iload hK (i := 5) 0 dX12_truck_205 rfl ?_
                            refine X_iast hK hs_w85 (by decide) (by decide) sl_19100 (by omega) (by omega) (by omega) (by omega) dX12_truck_207 (fun g23820 hg23820 => ?_)
                            refine X_aloadn hK (i := 0) 5 dX12_truck_208 rfl rfl ?_
                            refine X_getK hK fl_X12_189_13 hs_a0 ((xs_a hg23820 (xne hs_a0 hs_w85 (by decide))).trans ((hg22562 a0 13 0 86 hs_a0 (by decide)).trans ((xs_a hg19951 (xne hs_a0 hs_w85 (by decide))).trans ((hg15959 a0 13 0 86 hs_a0 (by decide)).trans ((hg10 a0 13 0 86 hs_a0 (by decide)).trans ((hg3 a0 13 0 86 hs_a0 (by decide)).trans ((xs_k hg1 (by decide)).trans ew86))))))) dX12_truck_209 ?_
                            refine X_iload hK (i := 4) 2 dX12_truck_212 rfl ?_
                            refine X_aloadn hK (i := 0) 5 dX12_truck_214 rfl rfl ?_
                            refine X_iload hK (i := 4) 2 dX12_truck_215 rfl ?_
                            refine X_iload hK (i := 5) 0 dX12_truck_217 rfl ?_
                            refine X_callV hK [.int (iI z22559), .int (iI z23743)] [.int (iI z22559), .ref w86] lk_X12_471 (c3_comesAt _ _ _ _ _ S g23820 a0 z22559 z23743 w85 w86 w83 wr8 z15958 Q8 (xTs f8) hs_a0 (by omega) (by omega) ((xs_a hg23820 (xne hs_a0 hs_w85 (by decide))).trans ((hg22562 a0 13 0 85 hs_a0 (by decide)).trans ((xs_a hg19951 (xne hs_a0 hs_w85 (by decide))).trans ((hg15959 a0 13 0 85 hs_a0 (by decide)).trans ((hg10 a0 13 0 85 hs_a0 (by decide)).trans ((hg3 a0 13 0 85 hs_a0 (by decide)).trans ((xs_k hg1 (by decide)).trans ew85))))))) hs_w85 ((xs_a hg23820 (xne hs_a0 hs_w85 (by decide))).trans ((hg22562 a0 13 0 86 hs_a0 (by decide)).trans ((xs_a hg19951 (xne hs_a0 hs_w85 (by decide))).trans ((hg15959 a0 13 0 86 hs_a0 (by decide)).trans ((hg10 a0 13 0 86 hs_a0 (by decide)).trans ((hg3 a0 13 0 86 hs_a0 (by decide)).trans ((xs_k hg1 (by decide)).trans ew86))))))) hs_w86 ((xs_a hg23820 (xne hs_a0 hs_w85 (by decide))).trans ((hg22562 a0 13 0 83 hs_a0 (by decide)).trans ((xs_a hg19951 (xne hs_a0 hs_w85 (by decide))).trans ((hg15959 a0 13 0 83 hs_a0 (by decide)).trans ((hg10 a0 13 0 83 hs_a0 (by decide)).trans ((hg3 a0 13 0 83 hs_a0 (by decide)).trans ((xs_k hg1 (by decide)).trans ew83))))))) hs_w83 ((xs_a hg23820 (xne hs_a0 hs_w85 (by decide))).trans ((hg22562 a0 13 0 15 hs_a0 (by decide)).trans ((xs_a hg19951 (xne hs_a0 hs_w85 (by decide))).trans ((hg15959 a0 13 0 15 hs_a0 (by decide)).trans ((hg10 a0 13 0 15 hs_a0 (by decide)).trans ((hg3 a0 13 0 15 hs_a0 (by decide)).trans ((xs_k hg1 (by decide)).trans hrm10))))))) hs_wr8 (by omega) (by omega) (fun k9 q1 q2 => by rw [(Eq.trans (Eq.trans (xv_a hg23820 (xne hs_w83 hs_w85 (by decide))) (xv_m hg22562 hs_w83 (by decide) (by decide))) (xv_a hg19951 (xne hs_w83 hs_w85 (by decide))))]; exact hT9 k9 q1 q2) (by rw [(Eq.trans (Eq.trans (xv_a hg23820 (xne hs_wr8 hs_w85 (by decide))) (xv_m hg22562 hs_wr8 (by decide) (by decide))) (xv_a hg19951 (xne hs_wr8 hs_w85 (by decide))))]; exact hqr9) (xRi.kp v23809 (by omega) (fun x9 q1 q2 => (show xv g23820 w85 x9 = xv g22562 w85 x9 from by rw [(xv_k (i := x9) hg23820 (by omega) (by omega) (by omega))])) (fun x9 q1 q2 => (show xv g23820 w86 x9 = xv g22562 w86 x9 from by rw [(xv_a hg23820 (xne hs_w86 hs_w85 (by decide)))])) hF9 hW9 hB9)) hs_a0 ⟨by decide, rfl⟩ dX12_truck_219 rfl rfl (by simp [Value.category]) (by decide) (by decide) (by decide) (by decide) (fun r23821 S23823 g23822 pr23821 qr23821 hg23822 => ?_)
                            obtain ⟨rfl, rfl, z23824, rfl, lz23824, uz23824, k23825⟩ := pr23821
                            refine X_st [.int (iI z23824), .int (iI z22559), .ref w86] rfl ?_
                            refine X_iast hK hs_w86 (by decide) (by decide) sl_19200 (by omega) (by omega) (by omega) (by omega) dX12_truck_222 (fun g23826 hg23826 => ?_)
                            refine X_iloadn hK (i := 3) 1 dX12_truck_223 rfl rfl ?_
                            refine X_iconst hK dX12_truck_224 ?_
                            refine X_iload hK (i := 5) 0 dX12_truck_225 rfl ?_
                            refine X_ishl hK dX12_truck_227 (fun z23827 ez23827 lz23827 uz23827 => ?_)
                            have bz23827 := xshlB 8 ez23827 ⟨lz23827, uz23827⟩ (by omega) (by decide)
                            refine X_ior hK dX12_truck_228 (fun z23828 ez23828 lz23828 uz23828 => ?_)
                            have bz23828 := xiorB 9 ez23828 ⟨lz23828, uz23828⟩ (by omega) (by omega) (by decide)
                            have ho23829 := xorn (m := z23551) (c := z23743) (by omega) (by omega) (by rcases k23817 with q9 | q9; exact q9.2.1; (have h7 := q9.1; clear q9; omega)) ez23827 ez23828 (by omega)
                            refine X_istoren hK (i := 3) [(3, .int (iI z23828)), (5, .int (iI z23743)), (4, .int (iI z22559)), (2, .int (iI z22561)), (1, .int (iI z15958)), (0, .ref a0)] dX12_truck_229 rfl (by decide) rfl ?_
                            refine X_iload hK (i := 4) 2 dX12_truck_230 rfl ?_
                            refine X_iloadn hK (i := 1) 4 dX12_truck_232 rfl rfl ?_
                            refine X_iconst hK dX12_truck_233 ?_
                            refine X_isub hK dX12_truck_234 ?_
                            refine X_icmp_ge hK 252 (by omega) (by omega) dX12_truck_235 (by decide) (fun c23830 => ?_) (fun c23830 => ?_)
                            · refine X_aloadn hK (i := 0) 5 dX12_truck_252 rfl rfl ?_
                              refine X_getK hK fl_X12_189_13 hs_a0 ((xs_a hg23826 (xne hs_a0 hs_w86 (by decide))).trans ((xs_a hg23820 (xne hs_a0 hs_w85 (by decide))).trans ((hg22562 a0 13 0 86 hs_a0 (by decide)).trans ((xs_a hg19951 (xne hs_a0 hs_w85 (by decide))).trans ((hg15959 a0 13 0 86 hs_a0 (by decide)).trans ((hg10 a0 13 0 86 hs_a0 (by decide)).trans ((hg3 a0 13 0 86 hs_a0 (by decide)).trans ((xs_k hg1 (by decide)).trans ew86)))))))) dX12_truck_253 ?_
                              refine X_iload hK (i := 4) 2 dX12_truck_256 rfl ?_
                              refine X_ialdK hK hs_w86 (by decide) (by omega) (by omega) (xs_s hg23826) dX12_truck_258 ?_
                              refine X_istoren hK (i := 2) [(2, .int (iI z23824)), (3, .int (iI z23828)), (5, .int (iI z23743)), (4, .int (iI z22559)), (1, .int (iI z15958)), (0, .ref a0)] dX12_truck_259 rfl (by decide) rfl ?_
                              refine X_iconst hK dX12_truck_260 ?_
                              refine X_istore hK (i := 6) [(6, .int (iI 0)), (2, .int (iI z23824)), (3, .int (iI z23828)), (5, .int (iI z23743)), (4, .int (iI z22559)), (1, .int (iI z15958)), (0, .ref a0)] dX12_truck_261 (by decide) rfl ?_
                              have P23866 : ∀ (nP23866 : Nat) (g23861 : xG) (_ : xM [(19000, 0)] S g23826 g23861) (z23860 : Int) (_ : 0 ≤ z23860) (_ : z23860 ≤ 9) (_ : ∀ x9, 0 ≤ x9 → x9 < z23860 → xv g23861 ty8 x9 = xTs f8 (xv g23861 w85 x9)) (_ : z23860 ≤ z15958) (_ : 25 - z23860 < (nP23866 : Int)), X K E 263 [(6, .int (iI z23860)), (2, .int (iI z23824)), (3, .int (iI z23828)), (5, .int (iI z23743)), (4, .int (iI z22559)), (1, .int (iI z15958)), (0, .ref a0)] [] S g23861 0 0 := by
                                intro nP23866
                                induction nP23866 with
                                | zero => intro g23861 hg23861 z23860 lz23860 uz23860 v23867 v23868 mP23866; exact False.elim (by omega)
                                | succ nP23866 ihP23866 =>
                                  intro g23861 hg23861 z23860 lz23860 uz23860 v23867 v23868 mP23866
                                  refine X_iload hK (i := 6) 0 dX12_truck_263 rfl ?_
                                  refine X_iloadn hK (i := 1) 5 dX12_truck_265 rfl rfl ?_
                                  refine X_icmp_ge hK 294 (by omega) (by omega) dX12_truck_266 (by decide) (fun c23869 => ?_) (fun c23869 => ?_)
                                  · refine X_goto hK 118 dX12_truck_294 (by decide) ?_
                                    refine X_lv [(4, .int (iI z22559)), (3, .int (iI z23828)), (2, .int (iI z23824)), (1, .int (iI z15958)), (0, .ref a0)] [4, 2, 1, 5, 6] rfl ?_
                                    exact ihP23211  g23861 (xM.tr (xM_ua (xM_ua (xM.tr xM.rf xLe.rf hg22562 (by decide)) hg23820 hs_w85 (by decide) (by decide)) hg23826 hs_w86 (by decide) (by decide)) xLe.rf hg23861 (by decide)) z22559 (by omega) (by omega) z23828 (by omega) (by omega) z23824 (by omega) (by omega) (by omega) (fun x q1 q2 => by rw [(show xv g23861 w85 x = xv g22562 w85 x from by rw [(xv_m hg23861 hs_w85 (by decide) (by decide)), (xv_a hg23826 (xne hs_w85 hs_w86 (by decide))), (xv_k (i := x) hg23820 (by omega) (by omega) (by omega))])]; exact v23213 x q1 q2) (fun h9 x q1 q2 => by rcases (show x < z22559 ∨ x = z22559 by omega) with c9 | c9 <;> first | (rw [c9]; have h8 := (show xv g23861 w85 z22559 = z23743 from by rw [(xv_m hg23861 hs_w85 (by decide) (by decide)), (xv_a hg23826 (xne hs_w85 hs_w86 (by decide))), xv_s hg23820 (by omega)]); omega) | (rw [(show xv g23861 w85 x = xv g22562 w85 x from by rw [(xv_m hg23861 hs_w85 (by decide) (by decide)), (xv_a hg23826 (xne hs_w85 hs_w86 (by decide))), (xv_k (i := x) hg23820 (by omega) (by omega) (by omega))])]; exact v23214 h9 x q1 (by omega))) (fun h9 => xRi.leaf (z := z23824) (by omega) v23809 (by omega) (by omega) (by rw [show xmn (xv g22562 w85) z22559.toNat = z23551.toNat by omega]; rcases k23817 with q9 | q9; exact q9.2.1; (have h7 := q9.1; clear q9; omega)) (xCo9.cg k23825 (by omega) (fun x9 q1 q2 => (show xv g23820 w85 x9 = xv g22562 w85 x9 from by rw [(xv_k (i := x9) hg23820 (by omega) (by omega) (by omega))]))) (by rcases k23817 with ⟨_, _, z9, c1, c2, c3⟩ | q9; (have h8 := xCo9.in c1 (xCo9.cg k23825 (by omega) (fun x9 q1 q2 => (show xv g23820 w85 x9 = xv g22562 w85 x9 from by rw [(xv_k (i := x9) hg23820 (by omega) (by omega) (by omega))]))); omega); (have h7 := q9.1; clear q9; omega)) (by rcases k23817 with ⟨_, _, z9, c1, c2, c3⟩ | q9; (have h8 := xCo9.in c1 (xCo9.cg k23825 (by omega) (fun x9 q1 q2 => (show xv g23820 w85 x9 = xv g22562 w85 x9 from by rw [(xv_k (i := x9) hg23820 (by omega) (by omega) (by omega))]))); omega); (have h7 := q9.1; clear q9; omega)) (show xv g23861 w85 z22559 = z23743 from by rw [(xv_m hg23861 hs_w85 (by decide) (by decide)), (xv_a hg23826 (xne hs_w85 hs_w86 (by decide))), xv_s hg23820 (by omega)]) (fun i9 hi9 h09 => (show xv g23861 w85 i9 = xv g22562 w85 i9 from by rw [(xv_m hg23861 hs_w85 (by decide) (by decide)), (xv_a hg23826 (xne hs_w85 hs_w86 (by decide))), (xv_k (i := i9) hg23820 (by omega) (by omega) (by omega))])) (fun x9 q1 q2 => (show xv g23861 w86 x9 = xv g22562 w86 x9 from by rw [(xv_m hg23861 hs_w86 (by decide) (by decide)), (xv_k (i := x9) hg23826 (by omega) (by omega) (by omega)), (xv_a hg23820 (xne hs_w86 hs_w85 (by decide)))])) (fun x9 q1 q2 => v23867 x9 q1 (by omega)) (by omega)) (fun h9 => by omega) (by omega) (by have h9 := xdm_adv (f := xv g22562 w85) (f' := xv g23861 w85) (k := z22559) (i := z23743) (by omega) (by omega) (by omega) (show xv g23861 w85 z22559 = z23743 from by rw [(xv_m hg23861 hs_w85 (by decide) (by decide)), (xv_a hg23826 (xne hs_w85 hs_w86 (by decide))), xv_s hg23820 (by omega)]) (fun x q1 q2 => (show xv g23861 w85 x = xv g22562 w85 x from by rw [(xv_m hg23861 hs_w85 (by decide) (by decide)), (xv_a hg23826 (xne hs_w85 hs_w86 (by decide))), (xv_k (i := x) hg23820 (by omega) (by omega) (by omega))])); omega)
                                  · refine X_aloadn hK (i := 0) 6 dX12_truck_269 rfl rfl ?_
                                    refine X_getK hK fl_X12_183_13 hs_a0 ((hg23861 a0 13 0 84 hs_a0 (by decide)).trans ((xs_a hg23826 (xne hs_a0 hs_w86 (by decide))).trans ((xs_a hg23820 (xne hs_a0 hs_w85 (by decide))).trans ((hg22562 a0 13 0 84 hs_a0 (by decide)).trans ((xs_a hg19951 (xne hs_a0 hs_w85 (by decide))).trans ((hg15959 a0 13 0 84 hs_a0 (by decide)).trans ((hg10 a0 13 0 84 hs_a0 (by decide)).trans ((hg3 a0 13 0 84 hs_a0 (by decide)).trans ((xs_k hg1 (by decide)).trans hrm2))))))))) dX12_truck_270 ?_
                                    refine X_iload hK (i := 6) 0 dX12_truck_273 rfl ?_
                                    refine X_aloadn hK (i := 0) 6 dX12_truck_275 rfl rfl ?_
                                    refine X_getK hK fl_X12_180_13 hs_a0 ((hg23861 a0 13 0 83 hs_a0 (by decide)).trans ((xs_a hg23826 (xne hs_a0 hs_w86 (by decide))).trans ((xs_a hg23820 (xne hs_a0 hs_w85 (by decide))).trans ((hg22562 a0 13 0 83 hs_a0 (by decide)).trans ((xs_a hg19951 (xne hs_a0 hs_w85 (by decide))).trans ((hg15959 a0 13 0 83 hs_a0 (by decide)).trans ((hg10 a0 13 0 83 hs_a0 (by decide)).trans ((hg3 a0 13 0 83 hs_a0 (by decide)).trans ((xs_k hg1 (by decide)).trans ew83))))))))) dX12_truck_276 ?_
                                    refine X_aloadn hK (i := 0) 6 dX12_truck_279 rfl rfl ?_
                                    refine X_getK hK fl_X12_186_13 hs_a0 ((hg23861 a0 13 0 85 hs_a0 (by decide)).trans ((xs_a hg23826 (xne hs_a0 hs_w86 (by decide))).trans ((xs_a hg23820 (xne hs_a0 hs_w85 (by decide))).trans ((hg22562 a0 13 0 85 hs_a0 (by decide)).trans ((xs_a hg19951 (xne hs_a0 hs_w85 (by decide))).trans ((hg15959 a0 13 0 85 hs_a0 (by decide)).trans ((hg10 a0 13 0 85 hs_a0 (by decide)).trans ((hg3 a0 13 0 85 hs_a0 (by decide)).trans ((xs_k hg1 (by decide)).trans ew85))))))))) dX12_truck_280 ?_
                                    refine X_iload hK (i := 6) 0 dX12_truck_283 rfl ?_
                                    refine X_iald hK hs_w85 (by decide) sl_19100 (by omega) (by omega) dX12_truck_285 (fun z23870 ez23870 lz23870 uz23870 => ?_)
                                    have ehz23871 : xv g23861 w85 z23860 = z23870 := xv_e (j := z23860) ez23870 (by omega)
                                    have hz23871 : 0 ≤ z23870 ∧ z23870 < z15958 := by have h7 := ehz23871; rcases (show z23860 < z22559 ∨ z23860 = z22559 by omega) with c9 | c9 <;> first | (have h8 := (show xv g23861 w85 z23860 = xv g22562 w85 z23860 from by rw [(xv_m hg23861 hs_w85 (by decide) (by decide)), (xv_a hg23826 (xne hs_w85 hs_w86 (by decide))), (xv_k (i := z23860) hg23820 (by omega) (by omega) (by omega))]); have h6 := v23213 z23860 (by omega) c9; have h5 := v23214 (by omega) z23860 (by omega) (by omega); omega) | (rw [c9] at h7; have h8 := (show xv g23861 w85 z22559 = z23743 from by rw [(xv_m hg23861 hs_w85 (by decide) (by decide)), (xv_a hg23826 (xne hs_w85 hs_w86 (by decide))), xv_s hg23820 (by omega)]); omega)
                                    refine X_iald hK hs_w83 (by decide) sl_18900 (by omega) (by omega) dX12_truck_286 (fun z23872 ez23872 lz23872 uz23872 => ?_)
                                    have ht23873 : xTs f8 z23870 = z23872 := ((show ∀ k, 0 ≤ k → k < z15958 → xv g23861 w83 k = xTs f8 k ∧ 0 ≤ xTs f8 k ∧ xTs f8 k ≤ 9 from (fun k9 q1 q2 => by rw [(Eq.trans (Eq.trans (Eq.trans (Eq.trans (xv_m hg23861 hs_w83 (by decide) (by decide)) (xv_a hg23826 (xne hs_w83 hs_w86 (by decide)))) (xv_a hg23820 (xne hs_w83 hs_w85 (by decide)))) (xv_m hg22562 hs_w83 (by decide) (by decide))) (xv_a hg19951 (xne hs_w83 hs_w85 (by decide))))]; exact hT9 k9 q1 q2)) z23870 (by omega) (by omega)).1.symm.trans (xv_e (j := z23870) ez23872 (by omega))
                                    refine X_iast hK hs_ty8 (by decide) (by decide) sl_19000 (by omega) (by omega) (by omega) (by omega) dX12_truck_287 (fun g23874 hg23874 => ?_)
                                    refine X_iinc hK (i := 6) (z := z23860) (n := 1) 0 [(6, .int (iI (z23860 + 1))), (2, .int (iI z23824)), (3, .int (iI z23828)), (5, .int (iI z23743)), (4, .int (iI z22559)), (1, .int (iI z15958)), (0, .ref a0)] dX12_truck_288 rfl (by decide) rfl ?_
                                    refine X_goto hK 263 dX12_truck_291 (by decide) ?_
                                    exact ihP23866  g23874 (xM_ua (xM.tr xM.rf xLe.rf hg23861 (by decide)) hg23874 hs_ty8 (by decide) (by decide)) (z23860 + 1) (by omega) (by omega) (fun x9 q1 q2 => by rw [(xv_a hg23874 (xne hs_w85 hs_ty8 (by decide)))]; by_cases e9 : x9 = z23860; (rw [e9, (show xv g23874 ty8 z23860 = z23872 from by rw [xv_s hg23874 (by omega)]), (show xv g23861 w85 z23860 = _ from ehz23871), ht23873]); (rw [(show xv g23874 ty8 x9 = xv g23861 ty8 x9 from by rw [(xv_k (i := x9) hg23874 (by omega) (by omega) (by omega))])]; exact v23867 x9 q1 (by omega))) (by omega) (by omega)
                              exact P23866 ((25 - 0 : Int).toNat + 1) g23826 xM.rf 0 (by omega) (by omega) (fun x9 q1 q2 => by omega) (by omega) (by omega)
                            · refine X_iinc hK (i := 4) (z := z22559) (n := 1) 2 [(4, .int (iI (z22559 + 1))), (3, .int (iI z23828)), (5, .int (iI z23743)), (2, .int (iI z22561)), (1, .int (iI z15958)), (0, .ref a0)] dX12_truck_238 rfl (by decide) rfl ?_
                              refine X_aloadn hK (i := 0) 5 dX12_truck_241 rfl rfl ?_
                              refine X_getK hK fl_X12_186_13 hs_a0 ((xs_a hg23826 (xne hs_a0 hs_w86 (by decide))).trans ((xs_a hg23820 (xne hs_a0 hs_w85 (by decide))).trans ((hg22562 a0 13 0 85 hs_a0 (by decide)).trans ((xs_a hg19951 (xne hs_a0 hs_w85 (by decide))).trans ((hg15959 a0 13 0 85 hs_a0 (by decide)).trans ((hg10 a0 13 0 85 hs_a0 (by decide)).trans ((hg3 a0 13 0 85 hs_a0 (by decide)).trans ((xs_k hg1 (by decide)).trans ew85)))))))) dX12_truck_242 ?_
                              refine X_iload hK (i := 4) 0 dX12_truck_245 rfl ?_
                              refine X_iconst hK dX12_truck_247 ?_
                              refine X_iast hK hs_w85 (by decide) (by decide) sl_19100 (by omega) (by omega) (by omega) (by omega) dX12_truck_248 (fun g23875 hg23875 => ?_)
                              refine X_goto hK 118 dX12_truck_249 (by decide) ?_
                              refine X_lv [(4, .int (iI (z22559 + 1))), (3, .int (iI z23828)), (2, .int (iI z22561)), (1, .int (iI z15958)), (0, .ref a0)] [0, 1, 3, 4, 5] rfl ?_
                              exact ihP23211  g23875 (xM_ua (xM_ua (xM_ua (xM.tr xM.rf xLe.rf hg22562 (by decide)) hg23820 hs_w85 (by decide) (by decide)) hg23826 hs_w86 (by decide) (by decide)) hg23875 hs_w85 (by decide) (by decide)) (z22559 + 1) (by omega) (by omega) z23828 (by omega) (by omega) z22561 (by omega) (by omega) (by omega) (fun x q1 q2 => by rcases (show x < z22559 ∨ x = z22559 by omega) with c9 | c9 <;> first | (rw [c9]; have h8 := (show xv g23875 w85 z22559 = z23743 from by rw [(xv_k (i := z22559) hg23875 (by omega) (by omega) (by omega)), (xv_a hg23826 (xne hs_w85 hs_w86 (by decide))), xv_s hg23820 (by omega)]); omega) | (rw [(show xv g23875 w85 x = xv g22562 w85 x from by rw [(xv_k (i := x) hg23875 (by omega) (by omega) (by omega)), (xv_a hg23826 (xne hs_w85 hs_w86 (by decide))), (xv_k (i := x) hg23820 (by omega) (by omega) (by omega))])]; exact v23213 x q1 c9)) (fun h9 x q1 q2 => by rcases (show x < z22559 ∨ x = z22559 ∨ x = (z22559 + 1) by omega) with c9 | c9 | c9 <;> first | (rw [c9]; have h8 := (show xv g23875 w85 z22559 = z23743 from by rw [(xv_k (i := z22559) hg23875 (by omega) (by omega) (by omega)), (xv_a hg23826 (xne hs_w85 hs_w86 (by decide))), xv_s hg23820 (by omega)]); omega) | (rw [c9]; have h8 := (show xv g23875 w85 (z22559 + 1) = (-1) from by rw [xv_s hg23875 (by omega)]); omega) | (rw [(show xv g23875 w85 x = xv g22562 w85 x from by rw [(xv_k (i := x) hg23875 (by omega) (by omega) (by omega)), (xv_a hg23826 (xne hs_w85 hs_w86 (by decide))), (xv_k (i := x) hg23820 (by omega) (by omega) (by omega))])]; exact v23214 h9 x q1 (by omega))) (fun h9 => xRi.push (z := z23824) (by omega) v23809 (by omega) (by omega) (by rw [show xmn (xv g22562 w85) z22559.toNat = z23551.toNat by omega]; rcases k23817 with q9 | q9; exact q9.2.1; (have h7 := q9.1; clear q9; omega)) (xCo9.cg k23825 (by omega) (fun x9 q1 q2 => (show xv g23820 w85 x9 = xv g22562 w85 x9 from by rw [(xv_k (i := x9) hg23820 (by omega) (by omega) (by omega))]))) (by rcases k23817 with ⟨_, _, z9, c1, c2, c3⟩ | q9; (have h8 := xCo9.in c1 (xCo9.cg k23825 (by omega) (fun x9 q1 q2 => (show xv g23820 w85 x9 = xv g22562 w85 x9 from by rw [(xv_k (i := x9) hg23820 (by omega) (by omega) (by omega))]))); omega); (have h7 := q9.1; clear q9; omega)) (show xv g23875 w85 z22559 = z23743 from by rw [(xv_k (i := z22559) hg23875 (by omega) (by omega) (by omega)), (xv_a hg23826 (xne hs_w85 hs_w86 (by decide))), xv_s hg23820 (by omega)]) (fun i9 hi9 h09 h19 => (show xv g23875 w85 i9 = xv g22562 w85 i9 from by rw [(xv_k (i := i9) hg23875 (by omega) (by omega) (by omega)), (xv_a hg23826 (xne hs_w85 hs_w86 (by decide))), (xv_k (i := i9) hg23820 (by omega) (by omega) (by omega))])) (show xv g23875 w85 (z22559 + 1) = (-1) from by rw [xv_s hg23875 (by omega)]) (show xv g23875 w86 z22559 = z23824 from by rw [(xv_a hg23875 (xne hs_w86 hs_w85 (by decide))), xv_s hg23826 (by omega)]) (fun i9 hi9 h09 => (show xv g23875 w86 i9 = xv g22562 w86 i9 from by rw [(xv_a hg23875 (xne hs_w86 hs_w85 (by decide))), (xv_k (i := i9) hg23826 (by omega) (by omega) (by omega)), (xv_a hg23820 (xne hs_w86 hs_w85 (by decide)))])) (fun x9 _ => by rw [(Eq.trans (Eq.trans (xv_a hg23875 (xne hs_ty8 hs_w85 (by decide))) (xv_a hg23826 (xne hs_ty8 hs_w86 (by decide)))) (xv_a hg23820 (xne hs_ty8 hs_w85 (by decide))))]) (by omega)) (fun h9 x9 q1 q2 => by rw [(Eq.trans (Eq.trans (xv_a hg23875 (xne hs_ty8 hs_w85 (by decide))) (xv_a hg23826 (xne hs_ty8 hs_w86 (by decide)))) (xv_a hg23820 (xne hs_ty8 hs_w85 (by decide))))]; exact v23216 h9 x9 q1 q2) (by omega) (by have h9 := xdm_push (f := xv g22562 w85) (f' := xv g23875 w85) (k := z22559) (i := z23743) (by omega) (by omega) (by omega) (show xv g23875 w85 z22559 = z23743 from by rw [(xv_k (i := z22559) hg23875 (by omega) (by omega) (by omega)), (xv_a hg23826 (xne hs_w85 hs_w86 (by decide))), xv_s hg23820 (by omega)]) (show xv g23875 w85 (z22559 + 1) = (-1) from by rw [xv_s hg23875 (by omega)]) (fun x q1 q2 => (show xv g23875 w85 x = xv g22562 w85 x from by rw [(xv_k (i := x) hg23875 (by omega) (by omega) (by omega)), (xv_a hg23826 (xne hs_w85 hs_w86 (by decide))), (xv_k (i := x) hg23820 (by omega) (by omega) (by omega))])); omega)
                          · refine X_iinc hK (i := 5) (z := z23743) (n := 1) 0 [(5, .int (iI (z23743 + 1))), (3, .int (iI z23551)), (4, .int (iI z22559)), (2, .int (iI z22561)), (1, .int (iI z15958)), (0, .ref a0)] dX12_truck_181 rfl (by decide) rfl ?_
                            refine X_goto hK 162 dX12_truck_184 (by decide) ?_
                            exact ihP23806  (z23743 + 1) (by omega) (by omega) (by omega) (by omega) (xRi.skip v23809 (by omega) (by omega) (by omega) hW9 (by rcases k23817 with q9 | q9; (have h7 := q9.1; clear q9; omega); exact q9.2.imp (fun w9 => by rw [show xmn (xv g22562 w85) z22559.toNat = z23551.toNat by omega]; exact w9) (fun w9 => w9))) (by omega) (by omega)
                    exact P23806 ((25 - (z23223 + 1) : Int).toNat + 1) (z23223 + 1) (by omega) (by omega) (by omega) (by omega) (by have h9 := xRk.ri (v23215 (by omega)) (by omega); rw [hw23224] at h9; exact h9) (by have h9 := hh23552.2.2; have h8 := nhh23552; omega) (by omega)
            exact P23211 ((((xdm (xv g19951 w85) 0 : Nat) : Int) : Int).toNat + 1) g19951 xM.rf 0 (by omega) (by omega) 0 (by omega) (by omega) 100000 (by omega) (by omega) (by omega) (fun x q1 q2 => by omega) (fun h9 x q1 q2 => by rw [show x = 0 by omega]; have h8 := (show xv g19951 w85 0 = (-1) from by rw [xv_s hg19951 (by omega)]); omega) (fun h9 => xRk.ini (by omega) (show xv g19951 w85 0 = (-1) from by rw [xv_s hg19951 (by omega)])) (fun _ x9 _ _ => by rw [(Eq.trans (Eq.trans (Eq.trans (Eq.trans (xv_a hg19951 (xne hs_ty8 hs_w85 (by decide))) (xv_m hg15959 hs_ty8 (by decide) (by decide))) (xv_m hg10 hs_ty8 (by decide) (by decide))) (xv_m hg3 hs_ty8 (by decide) (by decide))) (xv_a hg1 (xne hs_ty8 hs_a0 (by decide))))]) (by omega) (by omega)
          · refine X_iconst hK dX12_truck_94 ?_
            refine X_goto hK 101 dX12_truck_95 (by decide) ?_
            refine X_istoren hK (i := 2) [(2, .int (iI 0)), (1, .int (iI z15958)), (0, .ref a0)] dX12_truck_101 rfl (by decide) rfl ?_
            refine X_iconst hK dX12_truck_102 ?_
            refine X_istoren hK (i := 3) [(3, .int (iI 0)), (2, .int (iI 0)), (1, .int (iI z15958)), (0, .ref a0)] dX12_truck_103 rfl (by decide) rfl ?_
            refine X_iconst hK dX12_truck_104 ?_
            refine X_istore hK (i := 4) [(4, .int (iI 0)), (3, .int (iI 0)), (2, .int (iI 0)), (1, .int (iI z15958)), (0, .ref a0)] dX12_truck_105 (by decide) rfl ?_
            refine X_iloadn hK (i := 1) 3 dX12_truck_107 rfl rfl ?_
            refine X_if_le hK 118 (by omega) dX12_truck_108 (by decide) (fun c23876 => ?_) (fun c23876 => False.elim (by omega))
            have P23921 : ∀ (nP23921 : Nat) (z23910 : Int) (_ : (-1) ≤ z23910) (_ : z23910 ≤ 8) (z23911 : Int) (_ : 0 ≤ z23911) (_ : z23911 ≤ 511) (z23912 : Int) (_ : 0 ≤ z23912) (_ : z23912 ≤ 100000) (_ : z23910 < z15958 ∨ z15958 = 0) (_ : ∀ x, 0 ≤ x → x < z23910 → 0 ≤ xv g15959 w85 x) (_ : 0 < z15958 → ∀ x, 0 ≤ x → x ≤ z23910 → xv g15959 w85 x < z15958) (_ : 0 < z15958 → xRk z15958 (xF9 Q8 (xTs f8)) (xW9 Q8 (xTs f8)) (xTb9 f8) (xTs f8) z23910 z23911 z23912 (xv g15959 w85) (xv g15959 w86) (xv g15959 ty8)) (_ : z23912 = 100000 → ∀ x9, 0 ≤ x9 → x9 < 9 → xv g15959 ty8 x9 = xv g ty8 x9) (_ : z15958 = 0 → z23912 = 0) (_ : ((xdm (xv g15959 w85) z23910 : Nat) : Int) < (nP23921 : Int)), X K E 118 [(4, .int (iI z23910)), (3, .int (iI z23911)), (2, .int (iI z23912)), (1, .int (iI z15958)), (0, .ref a0)] [] S g15959 0 0 := by
              intro nP23921
              induction nP23921 with
              | zero => intro z23910 lz23910 uz23910 z23911 lz23911 uz23911 z23912 lz23912 uz23912 v23922 v23923 v23924 v23925 v23926 v23927 mP23921; exact False.elim (by omega)
              | succ nP23921 ihP23921 =>
                intro z23910 lz23910 uz23910 z23911 lz23911 uz23911 z23912 lz23912 uz23912 v23922 v23923 v23924 v23925 v23926 v23927 mP23921
                refine X_iload hK (i := 4) 0 dX12_truck_118 rfl ?_
                refine X_if_lt hK 297 (by omega) dX12_truck_120 (by decide) (fun c23928 => ?_) (fun c23928 => ?_)
                · refine X_iloadn hK (i := 2) 2 dX12_truck_297 rfl rfl ?_
                  refine X_ldcw hK (n := 100000) dX12_truck_298 m_55_15 (by decide) ?_
                  refine X_icmp_ne hK 306 (by omega) (by omega) dX12_truck_301 (by decide) (fun c23929 => ?_) (fun c23929 => ?_)
                  · refine X_aloadn hK (i := 0) 4 dX12_truck_306 rfl rfl ?_
                    refine X_iloadn hK (i := 1) 3 dX12_truck_307 rfl rfl ?_
                    refine X_puti hK fl_X12_474_13 hs_a0 (by decide) sl_13_87 (by omega) (by omega) dX12_truck_308 (fun g23930 hg23930 => ?_)
                    refine X_aloadn hK (i := 0) 4 dX12_truck_311 rfl rfl ?_
                    refine X_iconst hK dX12_truck_312 ?_
                    refine X_putz hK fl_X12_477_13 hs_a0 (by decide) sl_13_88 (by omega) (by omega) dX12_truck_313 (fun g23931 hg23931 => ?_)
                    refine X_iloadn hK (i := 2) 2 dX12_truck_316 rfl rfl ?_
                    exact hret _ _ _ _ _ _ _ dX12_truck_317 ⟨rfl, z23912, rfl, (by omega), (by omega), (((xs_k hg23931 (by decide)).trans ((xs_k hg23930 (by decide)).trans ((hg15959 a0 13 0 2 hs_a0 (by decide)).trans ((hg10 a0 13 0 2 hs_a0 (by decide)).trans k7)))).trans (by congr 2 <;> omega)), ⟨z15958, xv g23931 ty8, ⟨ty8, wr8, z15958, 1, 1, hs_a0, ((xs_k hg23931 (by decide)).trans ((xs_k hg23930 (by decide)).trans ((hg15959 a0 13 0 84 hs_a0 (by decide)).trans ((hg10 a0 13 0 84 hs_a0 (by decide)).trans ((hg3 a0 13 0 84 hs_a0 (by decide)).trans ((xs_k hg1 (by decide)).trans hrm2)))))), hs_ty8, ((xs_k hg23931 (by decide)).trans (xs_s hg23930)), by omega, by omega, (xs_s hg23931), (Or.inr ⟨rfl, rfl⟩), rfl, ((xs_k hg23931 (by decide)).trans ((xs_k hg23930 (by decide)).trans ((hg15959 a0 13 0 15 hs_a0 (by decide)).trans ((hg10 a0 13 0 15 hs_a0 (by decide)).trans ((hg3 a0 13 0 15 hs_a0 (by decide)).trans ((xs_k hg1 (by decide)).trans hrm10)))))), hs_wr8, ((xs_k hg23931 (by decide)).trans ((xs_k hg23930 (by decide)).trans ((hg15959 a0 13 0 18 hs_a0 (by decide)).trans k12))), (Or.inr ⟨rfl, (by rw [(Eq.trans (xv_a hg23931 (xne hs_wr8 hs_a0 (by decide))) (xv_a hg23930 (xne hs_wr8 hs_a0 (by decide))))]; exact hqr9)⟩)⟩, (Or.inr ⟨by omega, by rcases (show z15958 = 0 ∨ 0 < z15958 by omega) with c9 | c9; (have h9 := v23927 c9; exact Or.inl ⟨by omega, by omega, by omega⟩); (rcases (xRk.fin (n := z15958) (B := xTb9 f8) (show 1 ≤ z15958 by omega) (fun i9 q1 q2 => by have h9 := hB9 i9 q1 q2; omega) (show xRk z15958 (xF9 Q8 (xTs f8)) (xW9 Q8 (xTs f8)) (xTb9 f8) (xTs f8) (-1) z23911 z23912 (xv g15959 w85) (xv g15959 w86) (xv g15959 ty8) from (by have h9 := v23925 c9; rw [show z23910 = -1 by omega] at h9; exact h9))) with ⟨h8, _⟩ | ⟨_, c8, h8, h7⟩; omega; exact Or.inr (Or.inr ⟨by omega, hnn, c8, (by rw [← hnn]; exact h8), (by rw [← hnn]; rw [(Eq.trans (xv_a hg23931 (xne hs_ty8 hs_a0 (by decide))) (xv_a hg23930 (xne hs_ty8 hs_a0 (by decide))))]; exact h7)⟩))⟩)⟩⟩ (Nat.le_refl _) (Nat.le_refl _)
                  · refine X_iconst hK dX12_truck_304 ?_
                    exact hret _ _ _ _ _ _ _ dX12_truck_305 ⟨rfl, (-1), rfl, (by omega), (by omega), (((hg15959 a0 13 0 2 hs_a0 (by decide)).trans ((hg10 a0 13 0 2 hs_a0 (by decide)).trans k7)).trans (by congr 2 <;> omega)), ⟨n8, xv g15959 ty8, ⟨ty8, wr8, m8, z8, 1, hs_a0, ((hg15959 a0 13 0 84 hs_a0 (by decide)).trans ((hg10 a0 13 0 84 hs_a0 (by decide)).trans ((hg3 a0 13 0 84 hs_a0 (by decide)).trans ((xs_k hg1 (by decide)).trans hrm2)))), hs_ty8, ((hg15959 a0 13 0 87 hs_a0 (by decide)).trans ((hg10 a0 13 0 87 hs_a0 (by decide)).trans ((hg3 a0 13 0 87 hs_a0 (by decide)).trans ((xs_k hg1 (by decide)).trans hrm4)))), by omega, by omega, ((hg15959 a0 13 0 88 hs_a0 (by decide)).trans ((hg10 a0 13 0 88 hs_a0 (by decide)).trans ((hg3 a0 13 0 88 hs_a0 (by decide)).trans ((xs_k hg1 (by decide)).trans hrm7)))), hrm8, rfl, ((hg15959 a0 13 0 15 hs_a0 (by decide)).trans ((hg10 a0 13 0 15 hs_a0 (by decide)).trans ((hg3 a0 13 0 15 hs_a0 (by decide)).trans ((xs_k hg1 (by decide)).trans hrm10)))), hs_wr8, ((hg15959 a0 13 0 18 hs_a0 (by decide)).trans k12), (Or.inr ⟨rfl, hqr9⟩)⟩, (Or.inr ⟨by omega, by rcases (show z15958 = 0 ∨ 0 < z15958 by omega) with c9 | c9; (have h9 := v23927 c9; omega); (rcases (xRk.fin (n := z15958) (B := xTb9 f8) (show 1 ≤ z15958 by omega) (fun i9 q1 q2 => by have h9 := hB9 i9 q1 q2; omega) (show xRk z15958 (xF9 Q8 (xTs f8)) (xW9 Q8 (xTs f8)) (xTb9 f8) (xTs f8) (-1) z23911 z23912 (xv g15959 w85) (xv g15959 w86) (xv g15959 ty8) from (by have h9 := v23925 c9; rw [show z23910 = -1 by omega] at h9; exact h9))) with ⟨_, h8⟩ | ⟨h8, _⟩; (exact Or.inr (Or.inl ⟨by omega, rfl, rfl, (fun x9 q1 q2 => by rw [v23926 (by omega) x9 q1 q2, hY8]), by rw [← hnn]; exact h8⟩)); omega)⟩)⟩⟩ (Nat.le_refl _) (Nat.le_refl _)
                · refine X_iloadn hK (i := 1) 3 dX12_truck_123 rfl rfl ?_
                  refine X_if_le hK 297 (by omega) dX12_truck_124 (by decide) (fun c23932 => ?_) (fun c23932 => False.elim (by omega))
                  refine X_iloadn hK (i := 2) 2 dX12_truck_297 rfl rfl ?_
                  refine X_ldcw hK (n := 100000) dX12_truck_298 m_55_15 (by decide) ?_
                  refine X_icmp_ne hK 306 (by omega) (by omega) dX12_truck_301 (by decide) (fun c23933 => ?_) (fun c23933 => ?_)
                  · refine X_aloadn hK (i := 0) 4 dX12_truck_306 rfl rfl ?_
                    refine X_iloadn hK (i := 1) 3 dX12_truck_307 rfl rfl ?_
                    refine X_puti hK fl_X12_474_13 hs_a0 (by decide) sl_13_87 (by omega) (by omega) dX12_truck_308 (fun g23934 hg23934 => ?_)
                    refine X_aloadn hK (i := 0) 4 dX12_truck_311 rfl rfl ?_
                    refine X_iconst hK dX12_truck_312 ?_
                    refine X_putz hK fl_X12_477_13 hs_a0 (by decide) sl_13_88 (by omega) (by omega) dX12_truck_313 (fun g23935 hg23935 => ?_)
                    refine X_iloadn hK (i := 2) 2 dX12_truck_316 rfl rfl ?_
                    exact hret _ _ _ _ _ _ _ dX12_truck_317 ⟨rfl, z23912, rfl, (by omega), (by omega), (((xs_k hg23935 (by decide)).trans ((xs_k hg23934 (by decide)).trans ((hg15959 a0 13 0 2 hs_a0 (by decide)).trans ((hg10 a0 13 0 2 hs_a0 (by decide)).trans k7)))).trans (by congr 2 <;> omega)), ⟨z15958, xv g23935 ty8, ⟨ty8, wr8, z15958, 1, 1, hs_a0, ((xs_k hg23935 (by decide)).trans ((xs_k hg23934 (by decide)).trans ((hg15959 a0 13 0 84 hs_a0 (by decide)).trans ((hg10 a0 13 0 84 hs_a0 (by decide)).trans ((hg3 a0 13 0 84 hs_a0 (by decide)).trans ((xs_k hg1 (by decide)).trans hrm2)))))), hs_ty8, ((xs_k hg23935 (by decide)).trans (xs_s hg23934)), by omega, by omega, (xs_s hg23935), (Or.inr ⟨rfl, rfl⟩), rfl, ((xs_k hg23935 (by decide)).trans ((xs_k hg23934 (by decide)).trans ((hg15959 a0 13 0 15 hs_a0 (by decide)).trans ((hg10 a0 13 0 15 hs_a0 (by decide)).trans ((hg3 a0 13 0 15 hs_a0 (by decide)).trans ((xs_k hg1 (by decide)).trans hrm10)))))), hs_wr8, ((xs_k hg23935 (by decide)).trans ((xs_k hg23934 (by decide)).trans ((hg15959 a0 13 0 18 hs_a0 (by decide)).trans k12))), (Or.inr ⟨rfl, (by rw [(Eq.trans (xv_a hg23935 (xne hs_wr8 hs_a0 (by decide))) (xv_a hg23934 (xne hs_wr8 hs_a0 (by decide))))]; exact hqr9)⟩)⟩, (Or.inr ⟨by omega, by rcases (show z15958 = 0 ∨ 0 < z15958 by omega) with c9 | c9; (have h9 := v23927 c9; exact Or.inl ⟨by omega, by omega, by omega⟩); (rcases (xRk.fin (n := z15958) (B := xTb9 f8) (show 1 ≤ z15958 by omega) (fun i9 q1 q2 => by have h9 := hB9 i9 q1 q2; omega) (show xRk z15958 (xF9 Q8 (xTs f8)) (xW9 Q8 (xTs f8)) (xTb9 f8) (xTs f8) (-1) z23911 z23912 (xv g15959 w85) (xv g15959 w86) (xv g15959 ty8) from (by have h9 := v23925 c9; rw [show z23910 = -1 by omega] at h9; exact h9))) with ⟨h8, _⟩ | ⟨_, c8, h8, h7⟩; omega; exact Or.inr (Or.inr ⟨by omega, hnn, c8, (by rw [← hnn]; exact h8), (by rw [← hnn]; rw [(Eq.trans (xv_a hg23935 (xne hs_ty8 hs_a0 (by decide))) (xv_a hg23934 (xne hs_ty8 hs_a0 (by decide))))]; exact h7)⟩))⟩)⟩⟩ (Nat.le_refl _) (Nat.le_refl _)
                  · refine X_iconst hK dX12_truck_304 ?_
                    exact hret _ _ _ _ _ _ _ dX12_truck_305 ⟨rfl, (-1), rfl, (by omega), (by omega), (((hg15959 a0 13 0 2 hs_a0 (by decide)).trans ((hg10 a0 13 0 2 hs_a0 (by decide)).trans k7)).trans (by congr 2 <;> omega)), ⟨n8, xv g15959 ty8, ⟨ty8, wr8, m8, z8, 1, hs_a0, ((hg15959 a0 13 0 84 hs_a0 (by decide)).trans ((hg10 a0 13 0 84 hs_a0 (by decide)).trans ((hg3 a0 13 0 84 hs_a0 (by decide)).trans ((xs_k hg1 (by decide)).trans hrm2)))), hs_ty8, ((hg15959 a0 13 0 87 hs_a0 (by decide)).trans ((hg10 a0 13 0 87 hs_a0 (by decide)).trans ((hg3 a0 13 0 87 hs_a0 (by decide)).trans ((xs_k hg1 (by decide)).trans hrm4)))), by omega, by omega, ((hg15959 a0 13 0 88 hs_a0 (by decide)).trans ((hg10 a0 13 0 88 hs_a0 (by decide)).trans ((hg3 a0 13 0 88 hs_a0 (by decide)).trans ((xs_k hg1 (by decide)).trans hrm7)))), hrm8, rfl, ((hg15959 a0 13 0 15 hs_a0 (by decide)).trans ((hg10 a0 13 0 15 hs_a0 (by decide)).trans ((hg3 a0 13 0 15 hs_a0 (by decide)).trans ((xs_k hg1 (by decide)).trans hrm10)))), hs_wr8, ((hg15959 a0 13 0 18 hs_a0 (by decide)).trans k12), (Or.inr ⟨rfl, hqr9⟩)⟩, (Or.inr ⟨by omega, by rcases (show z15958 = 0 ∨ 0 < z15958 by omega) with c9 | c9; (have h9 := v23927 c9; omega); (rcases (xRk.fin (n := z15958) (B := xTb9 f8) (show 1 ≤ z15958 by omega) (fun i9 q1 q2 => by have h9 := hB9 i9 q1 q2; omega) (show xRk z15958 (xF9 Q8 (xTs f8)) (xW9 Q8 (xTs f8)) (xTb9 f8) (xTs f8) (-1) z23911 z23912 (xv g15959 w85) (xv g15959 w86) (xv g15959 ty8) from (by have h9 := v23925 c9; rw [show z23910 = -1 by omega] at h9; exact h9))) with ⟨_, h8⟩ | ⟨h8, _⟩; (exact Or.inr (Or.inl ⟨by omega, rfl, rfl, (fun x9 q1 q2 => by rw [v23926 (by omega) x9 q1 q2, hY8]), by rw [← hnn]; exact h8⟩)); omega)⟩)⟩⟩ (Nat.le_refl _) (Nat.le_refl _)
            exact P23921 ((((xdm (xv g15959 w85) 0 : Nat) : Int) : Int).toNat + 1) 0 (by omega) (by omega) 0 (by omega) (by omega) 0 (by omega) (by omega) (by omega) (fun x q1 q2 => by omega) (fun h9 => by omega) (fun h9 => by omega) (fun _ x9 _ _ => by rw [(Eq.trans (Eq.trans (Eq.trans (xv_m hg15959 hs_ty8 (by decide) (by decide)) (xv_m hg10 hs_ty8 (by decide) (by decide))) (xv_m hg3 hs_ty8 (by decide) (by decide))) (xv_a hg1 (xne hs_ty8 hs_a0 (by decide))))]) (by omega) (by omega)
        · refine X_aloadn hK (i := 0) 2 dX12_truck_30 rfl rfl ?_
          refine X_getK hK fl_X12_177_13 hs_a0 ((hg15959 a0 13 0 82 hs_a0 (by decide)).trans ((hg10 a0 13 0 82 hs_a0 (by decide)).trans ((hg3 a0 13 0 82 hs_a0 (by decide)).trans ((xs_k hg1 (by decide)).trans ew82)))) dX12_truck_31 ?_
          refine X_iloadn hK (i := 2) 0 dX12_truck_34 rfl rfl ?_
          refine X_sipush hK dX12_truck_35 (by decide) ?_
          refine X_aloadn hK (i := 0) 2 dX12_truck_38 rfl rfl ?_
          refine X_getK hK fl_X12_7_13 hs_a0 ((hg15959 a0 13 0 1 hs_a0 (by decide)).trans ((hg10 a0 13 0 1 hs_a0 (by decide)).trans ((hg3 a0 13 0 1 hs_a0 (by decide)).trans ((xs_k hg1 (by decide)).trans ey0)))) dX12_truck_39 ?_
          refine X_iconst hK dX12_truck_42 ?_
          refine X_iloadn hK (i := 2) 0 dX12_truck_43 rfl rfl ?_
          refine X_imul hK dX12_truck_44 ?_
          refine X_iald hK hs_y0 (by decide) sl_14100 (by omega) (by omega) dX12_truck_45 (fun z23936 ez23936 lz23936 uz23936 => ?_)
          have hl23937 : xv g y0 (2 * z15957) = z23936 := xv_e (j := (2 * z15957)) (((((hg15959 _ _ _ _ hs_y0 (by rw [xky_a (by decide)]; decide)).trans (hg10 _ _ _ _ hs_y0 (by rw [xky_a (by decide)]; decide))).trans (hg3 _ _ _ _ hs_y0 (by rw [xky_a (by decide)]; decide))).trans (xs_a hg1 (xne hs_y0 hs_a0 (by decide)))).symm.trans ez23936) (by omega)
          have hb23938 : f8 (2 * z15957) = z23936 := (hp1 (by omega) (2 * z15957) (by omega) (by omega)).symm.trans hl23937
          refine X_imul hK dX12_truck_46 ?_
          refine X_aloadn hK (i := 0) 2 dX12_truck_47 rfl rfl ?_
          refine X_getK hK fl_X12_7_13 hs_a0 ((hg15959 a0 13 0 1 hs_a0 (by decide)).trans ((hg10 a0 13 0 1 hs_a0 (by decide)).trans ((hg3 a0 13 0 1 hs_a0 (by decide)).trans ((xs_k hg1 (by decide)).trans ey0)))) dX12_truck_48 ?_
          refine X_iconst hK dX12_truck_51 ?_
          refine X_iloadn hK (i := 2) 0 dX12_truck_52 rfl rfl ?_
          refine X_imul hK dX12_truck_53 ?_
          refine X_iconst hK dX12_truck_54 ?_
          refine X_iadd hK dX12_truck_55 ?_
          refine X_iald hK hs_y0 (by decide) sl_14100 (by omega) (by omega) dX12_truck_56 (fun z23939 ez23939 lz23939 uz23939 => ?_)
          have hl23940 : xv g y0 ((2 * z15957) + 1) = z23939 := xv_e (j := ((2 * z15957) + 1)) (((((hg15959 _ _ _ _ hs_y0 (by rw [xky_a (by decide)]; decide)).trans (hg10 _ _ _ _ hs_y0 (by rw [xky_a (by decide)]; decide))).trans (hg3 _ _ _ _ hs_y0 (by rw [xky_a (by decide)]; decide))).trans (xs_a hg1 (xne hs_y0 hs_a0 (by decide)))).symm.trans ez23939) (by omega)
          have hb23941 : f8 ((2 * z15957) + 1) = z23939 := (hp1 (by omega) ((2 * z15957) + 1) (by omega) (by omega)).symm.trans hl23940
          refine X_iadd hK dX12_truck_57 ?_
          have hx23942 : xpr f8 z15957 = ((256 * z23936) + z23939) := by unfold xpr; rw [show f8 (2 * z15957) = _ from hb23938, show f8 (2 * z15957 + 1) = _ from hb23941]
          refine X_iast hK hs_w82 (by decide) (by decide) sl_18800 (by omega) (by omega) (by omega) (by omega) dX12_truck_58 (fun g23943 hg23943 => ?_)
          refine X_aloadn hK (i := 0) 2 dX12_truck_59 rfl rfl ?_
          refine X_getK hK fl_X12_177_13 hs_a0 ((xs_a hg23943 (xne hs_a0 hs_w82 (by decide))).trans ((hg15959 a0 13 0 82 hs_a0 (by decide)).trans ((hg10 a0 13 0 82 hs_a0 (by decide)).trans ((hg3 a0 13 0 82 hs_a0 (by decide)).trans ((xs_k hg1 (by decide)).trans ew82))))) dX12_truck_60 ?_
          refine X_iloadn hK (i := 2) 0 dX12_truck_63 rfl rfl ?_
          refine X_ialdK hK hs_w82 (by decide) (by omega) (by omega) (xs_s hg23943) dX12_truck_64 ?_
          refine X_ldcw hK (n := 65535) dX12_truck_65 m_55_14 (by decide) ?_
          refine X_icmp_ne hK 74 (by omega) (by omega) dX12_truck_68 (by decide) (fun c23944 => ?_) (fun c23944 => ?_)
          · refine X_aloadn hK (i := 0) 2 dX12_truck_74 rfl rfl ?_
            refine X_getK hK fl_X12_180_13 hs_a0 ((xs_a hg23943 (xne hs_a0 hs_w82 (by decide))).trans ((hg15959 a0 13 0 83 hs_a0 (by decide)).trans ((hg10 a0 13 0 83 hs_a0 (by decide)).trans ((hg3 a0 13 0 83 hs_a0 (by decide)).trans ((xs_k hg1 (by decide)).trans ew83))))) dX12_truck_75 ?_
            refine X_iloadn hK (i := 1) 1 dX12_truck_78 rfl rfl ?_
            refine X_iloadn hK (i := 2) 0 dX12_truck_79 rfl rfl ?_
            refine X_iast hK hs_w83 (by decide) (by decide) sl_18900 (by omega) (by omega) (by omega) (by omega) dX12_truck_80 (fun g23945 hg23945 => ?_)
            refine X_iinc hK (i := 1) (z := z15958) (n := 1) 1 [(1, .int (iI (z15958 + 1))), (2, .int (iI z15957)), (0, .ref a0)] dX12_truck_81 rfl (by decide) rfl ?_
            refine X_iinc hK (i := 2) (z := z15957) (n := 1) 1 [(2, .int (iI (z15957 + 1))), (1, .int (iI (z15958 + 1))), (0, .ref a0)] dX12_truck_84 rfl (by decide) rfl ?_
            refine X_goto hK 24 dX12_truck_87 (by decide) ?_
            exact ihP19943  g23945 (xM_ua (xM_ua (xM.tr xM.rf xLe.rf hg15959 (by decide)) hg23943 hs_w82 (by decide) (by decide)) hg23945 hs_w83 (by decide) (by decide)) (z15957 + 1) (by omega) (by omega) (z15958 + 1) (by omega) (by omega) (by omega) (by rw [show z15957 + 1 - 1 = (z15957 - 1) + 1 by omega]; exact xSq.add v19945 (by omega) (by omega) (by rw [show z15957 - 1 + 1 = z15957 by omega, hx23942]; omega) (by have h8 := (show xv g23945 w83 z15958 = z15957 from by rw [xv_s hg23945 (by omega)]); omega) (fun i9 hi9 h09 => (show xv g23945 w83 i9 = xv g15959 w83 i9 from by rw [(xv_k (i := i9) hg23945 (by omega) (by omega) (by omega)), (xv_a hg23943 (xne hs_w83 hs_w82 (by decide)))]))) (fun k9 q1 q2 => by by_cases e9 : k9 = z15958; (rw [e9, (show xv g23945 w83 z15958 = z15957 from by rw [xv_s hg23945 (by omega)])]; omega); (rw [(show xv g23945 w83 k9 = xv g15959 w83 k9 from by rw [(xv_k (i := k9) hg23945 (by omega) (by omega) (by omega)), (xv_a hg23943 (xne hs_w83 hs_w82 (by decide)))])]; exact v19946 k9 q1 (by omega))) (fun c9 q1 q2 => by by_cases e9 : c9 = z15957; (rw [e9, (show xv g23945 w82 z15957 = ((256 * z23936) + z23939) from by rw [(xv_a hg23945 (xne hs_w82 hs_w83 (by decide))), xv_s hg23943 (by omega)])]; exact hx23942.symm); (rw [(show xv g23945 w82 c9 = xv g15959 w82 c9 from by rw [(xv_a hg23945 (xne hs_w82 hs_w83 (by decide))), (xv_k (i := c9) hg23943 (by omega) (by omega) (by omega))])]; exact v19947 c9 q1 (by omega))) (by omega)
          · refine X_goto hK 84 dX12_truck_71 (by decide) ?_
            refine X_iinc hK (i := 2) (z := z15957) (n := 1) 0 [(2, .int (iI (z15957 + 1))), (1, .int (iI z15958)), (0, .ref a0)] dX12_truck_84 rfl (by decide) rfl ?_
            refine X_goto hK 24 dX12_truck_87 (by decide) ?_
            exact ihP19943  g23943 (xM_ua (xM.tr xM.rf xLe.rf hg15959 (by decide)) hg23943 hs_w82 (by decide) (by decide)) (z15957 + 1) (by omega) (by omega) z15958 (by omega) (by omega) (by omega) (by rw [show z15957 + 1 - 1 = (z15957 - 1) + 1 by omega]; rw [(xv_a hg23943 (xne hs_w83 hs_w82 (by decide)))]; exact xSq.skip v19945 (by omega) (by rw [show z15957 - 1 + 1 = z15957 by omega, hx23942]; omega)) (by rw [(xv_a hg23943 (xne hs_w83 hs_w82 (by decide)))]; exact v19946) (fun c9 q1 q2 => by by_cases e9 : c9 = z15957; (rw [e9, (show xv g23943 w82 z15957 = ((256 * z23936) + z23939) from by rw [xv_s hg23943 (by omega)])]; exact hx23942.symm); (rw [(show xv g23943 w82 c9 = xv g15959 w82 c9 from by rw [(xv_k (i := c9) hg23943 (by omega) (by omega) (by omega))])]; exact v19947 c9 q1 (by omega))) (by omega)
    exact P19943 ((26 - 1 : Int).toNat + 1) g10 xM.rf 1 (by omega) (by omega) 0 (by omega) (by omega) (by omega) xSq.z (fun k q1 q2 => by omega) (fun c q1 q2 => by omega) (by omega)
  · refine X_iconst hK dX12_truck_14 ?_
    exact hret _ _ _ _ _ _ _ dX12_truck_15 ⟨rfl, (-1), rfl, (by omega), (by omega), (k7.trans (by congr 2 <;> omega)), ⟨n8, xv g3 ty8, ⟨ty8, wr8, m8, z8, i8, hs_a0, ((hg3 a0 13 0 84 hs_a0 (by decide)).trans ((xs_k hg1 (by decide)).trans hrm2)), hs_ty8, ((hg3 a0 13 0 87 hs_a0 (by decide)).trans ((xs_k hg1 (by decide)).trans hrm4)), by omega, by omega, ((hg3 a0 13 0 88 hs_a0 (by decide)).trans ((xs_k hg1 (by decide)).trans hrm7)), hrm8, rfl, ((hg3 a0 13 0 15 hs_a0 (by decide)).trans ((xs_k hg1 (by decide)).trans hrm10)), hs_wr8, ((hg3 a0 13 0 18 hs_a0 (by decide)).trans ((xs_k hg1 (by decide)).trans hrm12)), (by rw [(Eq.trans (xv_m hg3 hs_wr8 (by decide) (by decide)) (xv_a hg1 (xne hs_wr8 hs_a0 (by decide))))]; exact hrm13)⟩, (Or.inl ⟨by omega, by omega, rfl, fun x9 _ _ => congrFun ((Eq.trans (xv_m hg3 hs_ty8 (by decide) (by decide)) (xv_a hg1 (xne hs_ty8 hs_a0 (by decide)))).trans hY8) x9⟩)⟩⟩ (Nat.le_refl _) (Nat.le_refl _)
