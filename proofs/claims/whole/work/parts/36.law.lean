set_option maxRecDepth 10000 in
theorem lx_c0 {X : fr_X} {E : fr_E} {nm : String} {Q : State → Prop} {Inv Inv' : Nat → fr_I → fr_J → Prop} (h8 : ∀ n I J, Inv' n I J → n ≤ 8) {b Ls : Nat} {xs : Nat → Int32} (hXs : va_X b Ls xs E.2.2.1 E.2.2.1.heap) (hb : b < E.2.2.1.heap.size) (hB : X.2.2.2 = E.2.2.1.heap.size) (hL : Ls < 2 ^ 31) {t : Nat} (ht : 5 * t + 5 ≤ Ls) (ok : ∀ (n : Nat) (I : fr_I) (J : fr_J) (a1 : Int32), Inv n I J → lx_P X Inv' y_F_relay c_F_relay 2 (some .int) y_O_relay c_O_relay 2 (some .int) [.int a1] n I J)
    (ih : ∀ n I J, Inv' n I J → fr_Ev X E R_L nm c_L_law 4 (some .boolean) room_1 Q (41 + 7 * n) (1383 + 57 * n) (fr_Z0 X n) 744 [(3, .int (nI (5 * t))), (2, .ref (fr_ad X 20 0)), (1, .ref (fr_ad X 0 0)), (0, .ref b)] [] I J) (n : Nat) (I : fr_I) (J : fr_J) (hI : Inv n I J) : fr_Ev X E R_L nm c_L_law 4 (some .boolean) room_1 Q (41 + 7 * n) (1383 + 57 * n) (fr_Z0 X n) 132 [(3, .int (nI (5 * t))), (2, .ref (fr_ad X 20 0)), (1, .ref (fr_ad X 0 0)), (0, .ref b)] [] I J := by
  obtain ⟨RF, RO, x, n', I1, I2, J1, J2, ⟨f1, f2⟩, ⟨o1, o2⟩, ⟨hn, q1, q2⟩, ⟨q3, q4⟩, cF, cO, hI2⟩ := ok n I J (xs (5 * t + 1)) hI 
  have hn8 := h8 _ _ _ hI2
  refine fr_aload_n d_L_law_132 rfl ?_
  refine fr_aload_n d_L_law_133 rfl ?_
  refine fr_iload_n d_L_law_134 rfl ?_
  refine fr_iconst d_L_law_135 fr_i1 ?_
  refine fr_iadd d_L_law_136 ?_
  refine lx_sld hXs hb hB hL (5 * t + 1) d_L_law_137 (nI_add (5 * t) 1) (by omega) ?_
  refine lx_calli (cs2 := 41 + 7 * n') (sl2 := 1383 + 57 * n') fr_q0 d_L_law_138 cF mv_L_13 rfl rfl rfl (Or.inr ⟨rfl, rfl⟩) rfl rfl ⟨by show RF.frames + 1 ≤ 8; omega, by show 8 + (2 + 11) + RF.locals ≤ 264; omega⟩ ⟨by rw [q1]; omega, by rw [q2]; omega⟩ ⟨by show _ ≤ 600000; omega, by show _ ≤ 7302250; omega⟩ (Nat.le_of_ble_eq_true rfl) ?_
  refine fr_aload_n d_L_law_141 rfl ?_
  refine fr_aload_n d_L_law_142 rfl ?_
  refine fr_iload_n d_L_law_143 rfl ?_
  refine fr_iconst d_L_law_144 fr_i1 ?_
  refine fr_iadd d_L_law_145 ?_
  refine lx_sld hXs hb hB hL (5 * t + 1) d_L_law_146 (nI_add (5 * t) 1) (by omega) ?_
  refine lx_calli (cs2 := 41 + 7 * n') (sl2 := 1383 + 57 * n') fr_q6 d_L_law_147 cO mv_L_17 rfl rfl rfl (Or.inr ⟨rfl, rfl⟩) rfl rfl ⟨by show RO.frames + 1 ≤ 8; omega, by show 8 + (2 + 11) + RO.locals ≤ 264; omega⟩ ⟨by rw [q3]; rfl, by rw [q4]; rfl⟩ ⟨by show _ ≤ 600000; omega, by show _ ≤ 7302250; omega⟩ (Nat.le_of_ble_eq_true rfl) ?_
  refine fr_icmp_eq 744 d_L_law_150 rfl (fun _ => ih _ _ _ hI2) (fun h => absurd rfl h)
set_option maxRecDepth 10000 in
theorem lx_c1 {X : fr_X} {E : fr_E} {nm : String} {Q : State → Prop} {Inv Inv' : Nat → fr_I → fr_J → Prop} (h8 : ∀ n I J, Inv' n I J → n ≤ 8) {b Ls : Nat} {xs : Nat → Int32} (hXs : va_X b Ls xs E.2.2.1 E.2.2.1.heap) (hb : b < E.2.2.1.heap.size) (hB : X.2.2.2 = E.2.2.1.heap.size) (hL : Ls < 2 ^ 31) {t : Nat} (ht : 5 * t + 5 ≤ Ls) (ok : ∀ (n : Nat) (I : fr_I) (J : fr_J) (a1 : Int32) (a2 : Int32) (a3 : Int32) (a4 : Int32), Inv n I J → lx_P X Inv' y_F_settings c_F_settings 5 (some .boolean) y_O_settings c_O_settings 5 (some .boolean) [.int a1, .int a2, .int a3, .int a4] n I J)
    (ih : ∀ n I J, Inv' n I J → fr_Ev X E R_L nm c_L_law 4 (some .boolean) room_1 Q (41 + 7 * n) (1383 + 57 * n) (fr_Z0 X n) 744 [(3, .int (nI (5 * t))), (2, .ref (fr_ad X 20 0)), (1, .ref (fr_ad X 0 0)), (0, .ref b)] [] I J) (n : Nat) (I : fr_I) (J : fr_J) (hI : Inv n I J) : fr_Ev X E R_L nm c_L_law 4 (some .boolean) room_1 Q (41 + 7 * n) (1383 + 57 * n) (fr_Z0 X n) 155 [(3, .int (nI (5 * t))), (2, .ref (fr_ad X 20 0)), (1, .ref (fr_ad X 0 0)), (0, .ref b)] [] I J := by
  obtain ⟨RF, RO, x, n', I1, I2, J1, J2, ⟨f1, f2⟩, ⟨o1, o2⟩, ⟨hn, q1, q2⟩, ⟨q3, q4⟩, cF, cO, hI2⟩ := ok n I J (xs (5 * t + 1)) (xs (5 * t + 2)) (xs (5 * t + 3)) (xs (5 * t + 4)) hI 
  have hn8 := h8 _ _ _ hI2
  refine fr_aload_n d_L_law_155 rfl ?_
  refine fr_aload_n d_L_law_156 rfl ?_
  refine fr_iload_n d_L_law_157 rfl ?_
  refine fr_iconst d_L_law_158 fr_i1 ?_
  refine fr_iadd d_L_law_159 ?_
  refine lx_sld hXs hb hB hL (5 * t + 1) d_L_law_160 (nI_add (5 * t) 1) (by omega) ?_
  refine fr_aload_n d_L_law_161 rfl ?_
  refine fr_iload_n d_L_law_162 rfl ?_
  refine fr_iconst d_L_law_163 fr_i2 ?_
  refine fr_iadd d_L_law_164 ?_
  refine lx_sld hXs hb hB hL (5 * t + 2) d_L_law_165 (nI_add (5 * t) 2) (by omega) ?_
  refine fr_aload_n d_L_law_166 rfl ?_
  refine fr_iload_n d_L_law_167 rfl ?_
  refine fr_iconst d_L_law_168 fr_i3 ?_
  refine fr_iadd d_L_law_169 ?_
  refine lx_sld hXs hb hB hL (5 * t + 3) d_L_law_170 (nI_add (5 * t) 3) (by omega) ?_
  refine fr_aload_n d_L_law_171 rfl ?_
  refine fr_iload_n d_L_law_172 rfl ?_
  refine fr_iconst d_L_law_173 fr_i4 ?_
  refine fr_iadd d_L_law_174 ?_
  refine lx_sld hXs hb hB hL (5 * t + 4) d_L_law_175 (nI_add (5 * t) 4) (by omega) ?_
  refine lx_calli (cs2 := 41 + 7 * n') (sl2 := 1383 + 57 * n') fr_q0 d_L_law_176 cF mv_L_18 rfl rfl rfl (Or.inr ⟨rfl, rfl⟩) rfl rfl ⟨by show RF.frames + 1 ≤ 8; omega, by show 8 + (5 + 11) + RF.locals ≤ 264; omega⟩ ⟨by rw [q1]; omega, by rw [q2]; omega⟩ ⟨by show _ ≤ 600000; omega, by show _ ≤ 7302250; omega⟩ (Nat.le_of_ble_eq_true rfl) ?_
  refine fr_aload_n d_L_law_179 rfl ?_
  refine fr_aload_n d_L_law_180 rfl ?_
  refine fr_iload_n d_L_law_181 rfl ?_
  refine fr_iconst d_L_law_182 fr_i1 ?_
  refine fr_iadd d_L_law_183 ?_
  refine lx_sld hXs hb hB hL (5 * t + 1) d_L_law_184 (nI_add (5 * t) 1) (by omega) ?_
  refine fr_aload_n d_L_law_185 rfl ?_
  refine fr_iload_n d_L_law_186 rfl ?_
  refine fr_iconst d_L_law_187 fr_i2 ?_
  refine fr_iadd d_L_law_188 ?_
  refine lx_sld hXs hb hB hL (5 * t + 2) d_L_law_189 (nI_add (5 * t) 2) (by omega) ?_
  refine fr_aload_n d_L_law_190 rfl ?_
  refine fr_iload_n d_L_law_191 rfl ?_
  refine fr_iconst d_L_law_192 fr_i3 ?_
  refine fr_iadd d_L_law_193 ?_
  refine lx_sld hXs hb hB hL (5 * t + 3) d_L_law_194 (nI_add (5 * t) 3) (by omega) ?_
  refine fr_aload_n d_L_law_195 rfl ?_
  refine fr_iload_n d_L_law_196 rfl ?_
  refine fr_iconst d_L_law_197 fr_i4 ?_
  refine fr_iadd d_L_law_198 ?_
  refine lx_sld hXs hb hB hL (5 * t + 4) d_L_law_199 (nI_add (5 * t) 4) (by omega) ?_
  refine lx_calli (cs2 := 41 + 7 * n') (sl2 := 1383 + 57 * n') fr_q6 d_L_law_200 cO mv_L_22 rfl rfl rfl (Or.inr ⟨rfl, rfl⟩) rfl rfl ⟨by show RO.frames + 1 ≤ 8; omega, by show 8 + (5 + 11) + RO.locals ≤ 264; omega⟩ ⟨by rw [q3]; rfl, by rw [q4]; rfl⟩ ⟨by show _ ≤ 600000; omega, by show _ ≤ 7302250; omega⟩ (Nat.le_of_ble_eq_true rfl) ?_
  refine fr_icmp_eq 744 d_L_law_203 rfl (fun _ => ih _ _ _ hI2) (fun h => absurd rfl h)
set_option maxRecDepth 10000 in
theorem lx_c2 {X : fr_X} {E : fr_E} {nm : String} {Q : State → Prop} {Inv Inv' : Nat → fr_I → fr_J → Prop} (h8 : ∀ n I J, Inv' n I J → n ≤ 8) {b Ls : Nat} {xs : Nat → Int32} (hXs : va_X b Ls xs E.2.2.1 E.2.2.1.heap) (hb : b < E.2.2.1.heap.size) (hB : X.2.2.2 = E.2.2.1.heap.size) (hL : Ls < 2 ^ 31) {t : Nat} (ht : 5 * t + 5 ≤ Ls) (ok : ∀ (n : Nat) (I : fr_I) (J : fr_J) (a1 : Int32) (a2 : Int32) (a3 : Int32) (a4 : Int32), Inv n I J → (a2 = 0 ∨ a2 = 1) → lx_P X Inv' y_F_options c_F_options 6 (some .boolean) y_O_options c_O_options 5 (some .boolean) [.int a1, .int a2, .int a3, .int a4] n I J)
    (ih : ∀ n I J, Inv' n I J → fr_Ev X E R_L nm c_L_law 4 (some .boolean) room_1 Q (41 + 7 * n) (1383 + 57 * n) (fr_Z0 X n) 744 [(3, .int (nI (5 * t))), (2, .ref (fr_ad X 20 0)), (1, .ref (fr_ad X 0 0)), (0, .ref b)] [] I J) (n : Nat) (I : fr_I) (J : fr_J) (hI : Inv n I J) : fr_Ev X E R_L nm c_L_law 4 (some .boolean) room_1 Q (41 + 7 * n) (1383 + 57 * n) (fr_Z0 X n) 208 [(3, .int (nI (5 * t))), (2, .ref (fr_ad X 20 0)), (1, .ref (fr_ad X 0 0)), (0, .ref b)] [] I J := by
  obtain ⟨RF, RO, x, n', I1, I2, J1, J2, ⟨f1, f2⟩, ⟨o1, o2⟩, ⟨hn, q1, q2⟩, ⟨q3, q4⟩, cF, cO, hI2⟩ := ok n I J (xs (5 * t + 1)) (if (xs (5 * t + 2)) = 0 then (0 : Int32) else 1) (xs (5 * t + 3)) (xs (5 * t + 4)) hI fr_if01
  have hn8 := h8 _ _ _ hI2
  refine fr_aload_n d_L_law_208 rfl ?_
  refine fr_aload_n d_L_law_209 rfl ?_
  refine fr_iload_n d_L_law_210 rfl ?_
  refine fr_iconst d_L_law_211 fr_i1 ?_
  refine fr_iadd d_L_law_212 ?_
  refine lx_sld hXs hb hB hL (5 * t + 1) d_L_law_213 (nI_add (5 * t) 1) (by omega) ?_
  refine fr_aload_n d_L_law_214 rfl ?_
  refine fr_iload_n d_L_law_215 rfl ?_
  refine fr_iconst d_L_law_216 fr_i2 ?_
  refine fr_iadd d_L_law_217 ?_
  refine lx_sld hXs hb hB hL (5 * t + 2) d_L_law_218 (nI_add (5 * t) 2) (by omega) ?_
  refine fr_tif_eq (t := 226) (j := 227) d_L_law_219 rfl (fun k => fr_iconst d_L_law_222 fr_i1 (fr_goto 227 d_L_law_223 rfl k)) (fun k => fr_iconst d_L_law_226 fr_i0 k) ?_
  refine fr_aload_n d_L_law_227 rfl ?_
  refine fr_iload_n d_L_law_228 rfl ?_
  refine fr_iconst d_L_law_229 fr_i3 ?_
  refine fr_iadd d_L_law_230 ?_
  refine lx_sld hXs hb hB hL (5 * t + 3) d_L_law_231 (nI_add (5 * t) 3) (by omega) ?_
  refine fr_aload_n d_L_law_232 rfl ?_
  refine fr_iload_n d_L_law_233 rfl ?_
  refine fr_iconst d_L_law_234 fr_i4 ?_
  refine fr_iadd d_L_law_235 ?_
  refine lx_sld hXs hb hB hL (5 * t + 4) d_L_law_236 (nI_add (5 * t) 4) (by omega) ?_
  refine lx_calli (cs2 := 41 + 7 * n') (sl2 := 1383 + 57 * n') fr_q0 d_L_law_237 cF mv_L_23 rfl rfl rfl (Or.inr ⟨rfl, rfl⟩) rfl rfl ⟨by show RF.frames + 1 ≤ 8; omega, by show 8 + (6 + 11) + RF.locals ≤ 264; omega⟩ ⟨by rw [q1]; omega, by rw [q2]; omega⟩ ⟨by show _ ≤ 600000; omega, by show _ ≤ 7302250; omega⟩ (Nat.le_of_ble_eq_true rfl) ?_
  refine fr_aload_n d_L_law_240 rfl ?_
  refine fr_aload_n d_L_law_241 rfl ?_
  refine fr_iload_n d_L_law_242 rfl ?_
  refine fr_iconst d_L_law_243 fr_i1 ?_
  refine fr_iadd d_L_law_244 ?_
  refine lx_sld hXs hb hB hL (5 * t + 1) d_L_law_245 (nI_add (5 * t) 1) (by omega) ?_
  refine fr_aload_n d_L_law_246 rfl ?_
  refine fr_iload_n d_L_law_247 rfl ?_
  refine fr_iconst d_L_law_248 fr_i2 ?_
  refine fr_iadd d_L_law_249 ?_
  refine lx_sld hXs hb hB hL (5 * t + 2) d_L_law_250 (nI_add (5 * t) 2) (by omega) ?_
  refine fr_tif_eq (t := 258) (j := 259) d_L_law_251 rfl (fun k => fr_iconst d_L_law_254 fr_i1 (fr_goto 259 d_L_law_255 rfl k)) (fun k => fr_iconst d_L_law_258 fr_i0 k) ?_
  refine fr_aload_n d_L_law_259 rfl ?_
  refine fr_iload_n d_L_law_260 rfl ?_
  refine fr_iconst d_L_law_261 fr_i3 ?_
  refine fr_iadd d_L_law_262 ?_
  refine lx_sld hXs hb hB hL (5 * t + 3) d_L_law_263 (nI_add (5 * t) 3) (by omega) ?_
  refine fr_aload_n d_L_law_264 rfl ?_
  refine fr_iload_n d_L_law_265 rfl ?_
  refine fr_iconst d_L_law_266 fr_i4 ?_
  refine fr_iadd d_L_law_267 ?_
  refine lx_sld hXs hb hB hL (5 * t + 4) d_L_law_268 (nI_add (5 * t) 4) (by omega) ?_
  refine lx_calli (cs2 := 41 + 7 * n') (sl2 := 1383 + 57 * n') fr_q6 d_L_law_269 cO mv_L_27 rfl rfl rfl (Or.inr ⟨rfl, rfl⟩) rfl rfl ⟨by show RO.frames + 1 ≤ 8; omega, by show 8 + (5 + 11) + RO.locals ≤ 264; omega⟩ ⟨by rw [q3]; rfl, by rw [q4]; rfl⟩ ⟨by show _ ≤ 600000; omega, by show _ ≤ 7302250; omega⟩ (Nat.le_of_ble_eq_true rfl) ?_
  refine fr_icmp_eq 744 d_L_law_272 rfl (fun _ => ih _ _ _ hI2) (fun h => absurd rfl h)
set_option maxRecDepth 10000 in
theorem lx_c3 {X : fr_X} {E : fr_E} {nm : String} {Q : State → Prop} {Inv Inv' : Nat → fr_I → fr_J → Prop} (h8 : ∀ n I J, Inv' n I J → n ≤ 8) {b Ls : Nat} {xs : Nat → Int32} (hXs : va_X b Ls xs E.2.2.1 E.2.2.1.heap) (hb : b < E.2.2.1.heap.size) (hB : X.2.2.2 = E.2.2.1.heap.size) (hL : Ls < 2 ^ 31) {t : Nat} (ht : 5 * t + 5 ≤ Ls) (ok : ∀ (n : Nat) (I : fr_I) (J : fr_J) (a1 : Int32) (a2 : Int32), Inv n I J → lx_P X Inv' y_F_load c_F_load 3 (some .boolean) y_O_load c_O_load 3 (some .boolean) [.int a1, .int a2] n I J)
    (ih : ∀ n I J, Inv' n I J → fr_Ev X E R_L nm c_L_law 4 (some .boolean) room_1 Q (41 + 7 * n) (1383 + 57 * n) (fr_Z0 X n) 744 [(3, .int (nI (5 * t))), (2, .ref (fr_ad X 20 0)), (1, .ref (fr_ad X 0 0)), (0, .ref b)] [] I J) (n : Nat) (I : fr_I) (J : fr_J) (hI : Inv n I J) : fr_Ev X E R_L nm c_L_law 4 (some .boolean) room_1 Q (41 + 7 * n) (1383 + 57 * n) (fr_Z0 X n) 277 [(3, .int (nI (5 * t))), (2, .ref (fr_ad X 20 0)), (1, .ref (fr_ad X 0 0)), (0, .ref b)] [] I J := by
  obtain ⟨RF, RO, x, n', I1, I2, J1, J2, ⟨f1, f2⟩, ⟨o1, o2⟩, ⟨hn, q1, q2⟩, ⟨q3, q4⟩, cF, cO, hI2⟩ := ok n I J (xs (5 * t + 1)) (xs (5 * t + 2)) hI 
  have hn8 := h8 _ _ _ hI2
  refine fr_aload_n d_L_law_277 rfl ?_
  refine fr_aload_n d_L_law_278 rfl ?_
  refine fr_iload_n d_L_law_279 rfl ?_
  refine fr_iconst d_L_law_280 fr_i1 ?_
  refine fr_iadd d_L_law_281 ?_
  refine lx_sld hXs hb hB hL (5 * t + 1) d_L_law_282 (nI_add (5 * t) 1) (by omega) ?_
  refine fr_aload_n d_L_law_283 rfl ?_
  refine fr_iload_n d_L_law_284 rfl ?_
  refine fr_iconst d_L_law_285 fr_i2 ?_
  refine fr_iadd d_L_law_286 ?_
  refine lx_sld hXs hb hB hL (5 * t + 2) d_L_law_287 (nI_add (5 * t) 2) (by omega) ?_
  refine lx_calli (cs2 := 41 + 7 * n') (sl2 := 1383 + 57 * n') fr_q0 d_L_law_288 cF mv_L_28 rfl rfl rfl (Or.inr ⟨rfl, rfl⟩) rfl rfl ⟨by show RF.frames + 1 ≤ 8; omega, by show 8 + (3 + 11) + RF.locals ≤ 264; omega⟩ ⟨by rw [q1]; omega, by rw [q2]; omega⟩ ⟨by show _ ≤ 600000; omega, by show _ ≤ 7302250; omega⟩ (Nat.le_of_ble_eq_true rfl) ?_
  refine fr_aload_n d_L_law_291 rfl ?_
  refine fr_aload_n d_L_law_292 rfl ?_
  refine fr_iload_n d_L_law_293 rfl ?_
  refine fr_iconst d_L_law_294 fr_i1 ?_
  refine fr_iadd d_L_law_295 ?_
  refine lx_sld hXs hb hB hL (5 * t + 1) d_L_law_296 (nI_add (5 * t) 1) (by omega) ?_
  refine fr_aload_n d_L_law_297 rfl ?_
  refine fr_iload_n d_L_law_298 rfl ?_
  refine fr_iconst d_L_law_299 fr_i2 ?_
  refine fr_iadd d_L_law_300 ?_
  refine lx_sld hXs hb hB hL (5 * t + 2) d_L_law_301 (nI_add (5 * t) 2) (by omega) ?_
  refine lx_calli (cs2 := 41 + 7 * n') (sl2 := 1383 + 57 * n') fr_q6 d_L_law_302 cO mv_L_32 rfl rfl rfl (Or.inr ⟨rfl, rfl⟩) rfl rfl ⟨by show RO.frames + 1 ≤ 8; omega, by show 8 + (3 + 11) + RO.locals ≤ 264; omega⟩ ⟨by rw [q3]; rfl, by rw [q4]; rfl⟩ ⟨by show _ ≤ 600000; omega, by show _ ≤ 7302250; omega⟩ (Nat.le_of_ble_eq_true rfl) ?_
  refine fr_icmp_eq 744 d_L_law_305 rfl (fun _ => ih _ _ _ hI2) (fun h => absurd rfl h)
set_option maxRecDepth 10000 in
theorem lx_c4 {X : fr_X} {E : fr_E} {nm : String} {Q : State → Prop} {Inv Inv' : Nat → fr_I → fr_J → Prop} (h8 : ∀ n I J, Inv' n I J → n ≤ 8) {b Ls : Nat} {xs : Nat → Int32} (hXs : va_X b Ls xs E.2.2.1 E.2.2.1.heap) (hb : b < E.2.2.1.heap.size) (hB : X.2.2.2 = E.2.2.1.heap.size) (hL : Ls < 2 ^ 31) {t : Nat} (ht : 5 * t + 5 ≤ Ls) (ok : ∀ (n : Nat) (I : fr_I) (J : fr_J) (a1 : Int32) (a2 : Int32), Inv n I J → lx_P X Inv' y_F_fault c_F_fault 3 (some .boolean) y_O_fault c_O_fault 3 (some .boolean) [.int a1, .int a2] n I J)
    (ih : ∀ n I J, Inv' n I J → fr_Ev X E R_L nm c_L_law 4 (some .boolean) room_1 Q (41 + 7 * n) (1383 + 57 * n) (fr_Z0 X n) 744 [(3, .int (nI (5 * t))), (2, .ref (fr_ad X 20 0)), (1, .ref (fr_ad X 0 0)), (0, .ref b)] [] I J) (n : Nat) (I : fr_I) (J : fr_J) (hI : Inv n I J) : fr_Ev X E R_L nm c_L_law 4 (some .boolean) room_1 Q (41 + 7 * n) (1383 + 57 * n) (fr_Z0 X n) 310 [(3, .int (nI (5 * t))), (2, .ref (fr_ad X 20 0)), (1, .ref (fr_ad X 0 0)), (0, .ref b)] [] I J := by
  obtain ⟨RF, RO, x, n', I1, I2, J1, J2, ⟨f1, f2⟩, ⟨o1, o2⟩, ⟨hn, q1, q2⟩, ⟨q3, q4⟩, cF, cO, hI2⟩ := ok n I J (xs (5 * t + 1)) (xs (5 * t + 2)) hI 
  have hn8 := h8 _ _ _ hI2
  refine fr_aload_n d_L_law_310 rfl ?_
  refine fr_aload_n d_L_law_311 rfl ?_
  refine fr_iload_n d_L_law_312 rfl ?_
  refine fr_iconst d_L_law_313 fr_i1 ?_
  refine fr_iadd d_L_law_314 ?_
  refine lx_sld hXs hb hB hL (5 * t + 1) d_L_law_315 (nI_add (5 * t) 1) (by omega) ?_
  refine fr_aload_n d_L_law_316 rfl ?_
  refine fr_iload_n d_L_law_317 rfl ?_
  refine fr_iconst d_L_law_318 fr_i2 ?_
  refine fr_iadd d_L_law_319 ?_
  refine lx_sld hXs hb hB hL (5 * t + 2) d_L_law_320 (nI_add (5 * t) 2) (by omega) ?_
  refine lx_calli (cs2 := 41 + 7 * n') (sl2 := 1383 + 57 * n') fr_q0 d_L_law_321 cF mv_L_33 rfl rfl rfl (Or.inr ⟨rfl, rfl⟩) rfl rfl ⟨by show RF.frames + 1 ≤ 8; omega, by show 8 + (3 + 11) + RF.locals ≤ 264; omega⟩ ⟨by rw [q1]; omega, by rw [q2]; omega⟩ ⟨by show _ ≤ 600000; omega, by show _ ≤ 7302250; omega⟩ (Nat.le_of_ble_eq_true rfl) ?_
  refine fr_aload_n d_L_law_324 rfl ?_
  refine fr_aload_n d_L_law_325 rfl ?_
  refine fr_iload_n d_L_law_326 rfl ?_
  refine fr_iconst d_L_law_327 fr_i1 ?_
  refine fr_iadd d_L_law_328 ?_
  refine lx_sld hXs hb hB hL (5 * t + 1) d_L_law_329 (nI_add (5 * t) 1) (by omega) ?_
  refine fr_aload_n d_L_law_330 rfl ?_
  refine fr_iload_n d_L_law_331 rfl ?_
  refine fr_iconst d_L_law_332 fr_i2 ?_
  refine fr_iadd d_L_law_333 ?_
  refine lx_sld hXs hb hB hL (5 * t + 2) d_L_law_334 (nI_add (5 * t) 2) (by omega) ?_
  refine lx_calli (cs2 := 41 + 7 * n') (sl2 := 1383 + 57 * n') fr_q6 d_L_law_335 cO mv_L_36 rfl rfl rfl (Or.inr ⟨rfl, rfl⟩) rfl rfl ⟨by show RO.frames + 1 ≤ 8; omega, by show 8 + (3 + 11) + RO.locals ≤ 264; omega⟩ ⟨by rw [q3]; rfl, by rw [q4]; rfl⟩ ⟨by show _ ≤ 600000; omega, by show _ ≤ 7302250; omega⟩ (Nat.le_of_ble_eq_true rfl) ?_
  refine fr_icmp_eq 744 d_L_law_338 rfl (fun _ => ih _ _ _ hI2) (fun h => absurd rfl h)
set_option maxRecDepth 10000 in
theorem lx_c5 {X : fr_X} {E : fr_E} {nm : String} {Q : State → Prop} {Inv Inv' : Nat → fr_I → fr_J → Prop} (h8 : ∀ n I J, Inv' n I J → n ≤ 8) {b Ls : Nat} {xs : Nat → Int32} (hXs : va_X b Ls xs E.2.2.1 E.2.2.1.heap) (hb : b < E.2.2.1.heap.size) (hB : X.2.2.2 = E.2.2.1.heap.size) (hL : Ls < 2 ^ 31) {t : Nat} (ht : 5 * t + 5 ≤ Ls) (ok : ∀ (n : Nat) (I : fr_I) (J : fr_J) (a1 : Int32) (a2 : Int32), Inv n I J → (a2 = 0 ∨ a2 = 1) → lx_P X Inv' y_F_jam c_F_jam 3 (some .boolean) y_O_jam c_O_jam 3 (some .boolean) [.int a1, .int a2] n I J)
    (ih : ∀ n I J, Inv' n I J → fr_Ev X E R_L nm c_L_law 4 (some .boolean) room_1 Q (41 + 7 * n) (1383 + 57 * n) (fr_Z0 X n) 744 [(3, .int (nI (5 * t))), (2, .ref (fr_ad X 20 0)), (1, .ref (fr_ad X 0 0)), (0, .ref b)] [] I J) (n : Nat) (I : fr_I) (J : fr_J) (hI : Inv n I J) : fr_Ev X E R_L nm c_L_law 4 (some .boolean) room_1 Q (41 + 7 * n) (1383 + 57 * n) (fr_Z0 X n) 343 [(3, .int (nI (5 * t))), (2, .ref (fr_ad X 20 0)), (1, .ref (fr_ad X 0 0)), (0, .ref b)] [] I J := by
  obtain ⟨RF, RO, x, n', I1, I2, J1, J2, ⟨f1, f2⟩, ⟨o1, o2⟩, ⟨hn, q1, q2⟩, ⟨q3, q4⟩, cF, cO, hI2⟩ := ok n I J (xs (5 * t + 1)) (if (xs (5 * t + 2)) = 0 then (0 : Int32) else 1) hI fr_if01
  have hn8 := h8 _ _ _ hI2
  refine fr_aload_n d_L_law_343 rfl ?_
  refine fr_aload_n d_L_law_344 rfl ?_
  refine fr_iload_n d_L_law_345 rfl ?_
  refine fr_iconst d_L_law_346 fr_i1 ?_
  refine fr_iadd d_L_law_347 ?_
  refine lx_sld hXs hb hB hL (5 * t + 1) d_L_law_348 (nI_add (5 * t) 1) (by omega) ?_
  refine fr_aload_n d_L_law_349 rfl ?_
  refine fr_iload_n d_L_law_350 rfl ?_
  refine fr_iconst d_L_law_351 fr_i2 ?_
  refine fr_iadd d_L_law_352 ?_
  refine lx_sld hXs hb hB hL (5 * t + 2) d_L_law_353 (nI_add (5 * t) 2) (by omega) ?_
  refine fr_tif_eq (t := 361) (j := 362) d_L_law_354 rfl (fun k => fr_iconst d_L_law_357 fr_i1 (fr_goto 362 d_L_law_358 rfl k)) (fun k => fr_iconst d_L_law_361 fr_i0 k) ?_
  refine lx_calli (cs2 := 41 + 7 * n') (sl2 := 1383 + 57 * n') fr_q0 d_L_law_362 cF mv_L_37 rfl rfl rfl (Or.inr ⟨rfl, rfl⟩) rfl rfl ⟨by show RF.frames + 1 ≤ 8; omega, by show 8 + (3 + 11) + RF.locals ≤ 264; omega⟩ ⟨by rw [q1]; omega, by rw [q2]; omega⟩ ⟨by show _ ≤ 600000; omega, by show _ ≤ 7302250; omega⟩ (Nat.le_of_ble_eq_true rfl) ?_
  refine fr_aload_n d_L_law_365 rfl ?_
  refine fr_aload_n d_L_law_366 rfl ?_
  refine fr_iload_n d_L_law_367 rfl ?_
  refine fr_iconst d_L_law_368 fr_i1 ?_
  refine fr_iadd d_L_law_369 ?_
  refine lx_sld hXs hb hB hL (5 * t + 1) d_L_law_370 (nI_add (5 * t) 1) (by omega) ?_
  refine fr_aload_n d_L_law_371 rfl ?_
  refine fr_iload_n d_L_law_372 rfl ?_
  refine fr_iconst d_L_law_373 fr_i2 ?_
  refine fr_iadd d_L_law_374 ?_
  refine lx_sld hXs hb hB hL (5 * t + 2) d_L_law_375 (nI_add (5 * t) 2) (by omega) ?_
  refine fr_tif_eq (t := 383) (j := 384) d_L_law_376 rfl (fun k => fr_iconst d_L_law_379 fr_i1 (fr_goto 384 d_L_law_380 rfl k)) (fun k => fr_iconst d_L_law_383 fr_i0 k) ?_
  refine lx_calli (cs2 := 41 + 7 * n') (sl2 := 1383 + 57 * n') fr_q6 d_L_law_384 cO mv_L_41 rfl rfl rfl (Or.inr ⟨rfl, rfl⟩) rfl rfl ⟨by show RO.frames + 1 ≤ 8; omega, by show 8 + (3 + 11) + RO.locals ≤ 264; omega⟩ ⟨by rw [q3]; rfl, by rw [q4]; rfl⟩ ⟨by show _ ≤ 600000; omega, by show _ ≤ 7302250; omega⟩ (Nat.le_of_ble_eq_true rfl) ?_
  refine fr_icmp_eq 744 d_L_law_387 rfl (fun _ => ih _ _ _ hI2) (fun h => absurd rfl h)
set_option maxRecDepth 10000 in
theorem lx_c6 {X : fr_X} {E : fr_E} {nm : String} {Q : State → Prop} {Inv Inv' : Nat → fr_I → fr_J → Prop} (h8 : ∀ n I J, Inv' n I J → n ≤ 8) {b Ls : Nat} {xs : Nat → Int32} (hXs : va_X b Ls xs E.2.2.1 E.2.2.1.heap) (hb : b < E.2.2.1.heap.size) (hB : X.2.2.2 = E.2.2.1.heap.size) (hL : Ls < 2 ^ 31) {t : Nat} (ht : 5 * t + 5 ≤ Ls) (ok : ∀ (n : Nat) (I : fr_I) (J : fr_J) (a1 : Int32) (a2 : Int32), Inv n I J → lx_P X Inv' y_F_line c_F_line 3 (some .boolean) y_O_line c_O_line 3 (some .boolean) [.int a1, .int a2] n I J)
    (ih : ∀ n I J, Inv' n I J → fr_Ev X E R_L nm c_L_law 4 (some .boolean) room_1 Q (41 + 7 * n) (1383 + 57 * n) (fr_Z0 X n) 744 [(3, .int (nI (5 * t))), (2, .ref (fr_ad X 20 0)), (1, .ref (fr_ad X 0 0)), (0, .ref b)] [] I J) (n : Nat) (I : fr_I) (J : fr_J) (hI : Inv n I J) : fr_Ev X E R_L nm c_L_law 4 (some .boolean) room_1 Q (41 + 7 * n) (1383 + 57 * n) (fr_Z0 X n) 392 [(3, .int (nI (5 * t))), (2, .ref (fr_ad X 20 0)), (1, .ref (fr_ad X 0 0)), (0, .ref b)] [] I J := by
  obtain ⟨RF, RO, x, n', I1, I2, J1, J2, ⟨f1, f2⟩, ⟨o1, o2⟩, ⟨hn, q1, q2⟩, ⟨q3, q4⟩, cF, cO, hI2⟩ := ok n I J (xs (5 * t + 1)) (xs (5 * t + 2)) hI 
  have hn8 := h8 _ _ _ hI2
  refine fr_aload_n d_L_law_392 rfl ?_
  refine fr_aload_n d_L_law_393 rfl ?_
  refine fr_iload_n d_L_law_394 rfl ?_
  refine fr_iconst d_L_law_395 fr_i1 ?_
  refine fr_iadd d_L_law_396 ?_
  refine lx_sld hXs hb hB hL (5 * t + 1) d_L_law_397 (nI_add (5 * t) 1) (by omega) ?_
  refine fr_aload_n d_L_law_398 rfl ?_
  refine fr_iload_n d_L_law_399 rfl ?_
  refine fr_iconst d_L_law_400 fr_i2 ?_
  refine fr_iadd d_L_law_401 ?_
  refine lx_sld hXs hb hB hL (5 * t + 2) d_L_law_402 (nI_add (5 * t) 2) (by omega) ?_
  refine lx_calli (cs2 := 41 + 7 * n') (sl2 := 1383 + 57 * n') fr_q0 d_L_law_403 cF mv_L_42 rfl rfl rfl (Or.inr ⟨rfl, rfl⟩) rfl rfl ⟨by show RF.frames + 1 ≤ 8; omega, by show 8 + (3 + 11) + RF.locals ≤ 264; omega⟩ ⟨by rw [q1]; omega, by rw [q2]; omega⟩ ⟨by show _ ≤ 600000; omega, by show _ ≤ 7302250; omega⟩ (Nat.le_of_ble_eq_true rfl) ?_
  refine fr_aload_n d_L_law_406 rfl ?_
  refine fr_aload_n d_L_law_407 rfl ?_
  refine fr_iload_n d_L_law_408 rfl ?_
  refine fr_iconst d_L_law_409 fr_i1 ?_
  refine fr_iadd d_L_law_410 ?_
  refine lx_sld hXs hb hB hL (5 * t + 1) d_L_law_411 (nI_add (5 * t) 1) (by omega) ?_
  refine fr_aload_n d_L_law_412 rfl ?_
  refine fr_iload_n d_L_law_413 rfl ?_
  refine fr_iconst d_L_law_414 fr_i2 ?_
  refine fr_iadd d_L_law_415 ?_
  refine lx_sld hXs hb hB hL (5 * t + 2) d_L_law_416 (nI_add (5 * t) 2) (by omega) ?_
  refine lx_calli (cs2 := 41 + 7 * n') (sl2 := 1383 + 57 * n') fr_q6 d_L_law_417 cO mv_L_45 rfl rfl rfl (Or.inr ⟨rfl, rfl⟩) rfl rfl ⟨by show RO.frames + 1 ≤ 8; omega, by show 8 + (3 + 11) + RO.locals ≤ 264; omega⟩ ⟨by rw [q3]; rfl, by rw [q4]; rfl⟩ ⟨by show _ ≤ 600000; omega, by show _ ≤ 7302250; omega⟩ (Nat.le_of_ble_eq_true rfl) ?_
  refine fr_icmp_eq 744 d_L_law_420 rfl (fun _ => ih _ _ _ hI2) (fun h => absurd rfl h)
set_option maxRecDepth 10000 in
theorem lx_c7 {X : fr_X} {E : fr_E} {nm : String} {Q : State → Prop} {Inv Inv' : Nat → fr_I → fr_J → Prop} (h8 : ∀ n I J, Inv' n I J → n ≤ 8) {b Ls : Nat} {xs : Nat → Int32} (hXs : va_X b Ls xs E.2.2.1 E.2.2.1.heap) (hb : b < E.2.2.1.heap.size) (hB : X.2.2.2 = E.2.2.1.heap.size) (hL : Ls < 2 ^ 31) {t : Nat} (ht : 5 * t + 5 ≤ Ls) (ok : ∀ (n : Nat) (I : fr_I) (J : fr_J) (a1 : Int32) (a2 : Int32), Inv n I J → (a2 = 0 ∨ a2 = 1) → lx_P X Inv' y_F_operate c_F_operate 3 (some .boolean) y_O_operate c_O_operate 3 (some .boolean) [.int a1, .int a2] n I J)
    (ih : ∀ n I J, Inv' n I J → fr_Ev X E R_L nm c_L_law 4 (some .boolean) room_1 Q (41 + 7 * n) (1383 + 57 * n) (fr_Z0 X n) 744 [(3, .int (nI (5 * t))), (2, .ref (fr_ad X 20 0)), (1, .ref (fr_ad X 0 0)), (0, .ref b)] [] I J) (n : Nat) (I : fr_I) (J : fr_J) (hI : Inv n I J) : fr_Ev X E R_L nm c_L_law 4 (some .boolean) room_1 Q (41 + 7 * n) (1383 + 57 * n) (fr_Z0 X n) 425 [(3, .int (nI (5 * t))), (2, .ref (fr_ad X 20 0)), (1, .ref (fr_ad X 0 0)), (0, .ref b)] [] I J := by
  obtain ⟨RF, RO, x, n', I1, I2, J1, J2, ⟨f1, f2⟩, ⟨o1, o2⟩, ⟨hn, q1, q2⟩, ⟨q3, q4⟩, cF, cO, hI2⟩ := ok n I J (xs (5 * t + 1)) (if (xs (5 * t + 2)) = 0 then (0 : Int32) else 1) hI fr_if01
  have hn8 := h8 _ _ _ hI2
  refine fr_aload_n d_L_law_425 rfl ?_
  refine fr_aload_n d_L_law_426 rfl ?_
  refine fr_iload_n d_L_law_427 rfl ?_
  refine fr_iconst d_L_law_428 fr_i1 ?_
  refine fr_iadd d_L_law_429 ?_
  refine lx_sld hXs hb hB hL (5 * t + 1) d_L_law_430 (nI_add (5 * t) 1) (by omega) ?_
  refine fr_aload_n d_L_law_431 rfl ?_
  refine fr_iload_n d_L_law_432 rfl ?_
  refine fr_iconst d_L_law_433 fr_i2 ?_
  refine fr_iadd d_L_law_434 ?_
  refine lx_sld hXs hb hB hL (5 * t + 2) d_L_law_435 (nI_add (5 * t) 2) (by omega) ?_
  refine fr_tif_eq (t := 443) (j := 444) d_L_law_436 rfl (fun k => fr_iconst d_L_law_439 fr_i1 (fr_goto 444 d_L_law_440 rfl k)) (fun k => fr_iconst d_L_law_443 fr_i0 k) ?_
  refine lx_calli (cs2 := 41 + 7 * n') (sl2 := 1383 + 57 * n') fr_q0 d_L_law_444 cF mv_L_46 rfl rfl rfl (Or.inr ⟨rfl, rfl⟩) rfl rfl ⟨by show RF.frames + 1 ≤ 8; omega, by show 8 + (3 + 11) + RF.locals ≤ 264; omega⟩ ⟨by rw [q1]; omega, by rw [q2]; omega⟩ ⟨by show _ ≤ 600000; omega, by show _ ≤ 7302250; omega⟩ (Nat.le_of_ble_eq_true rfl) ?_
  refine fr_aload_n d_L_law_447 rfl ?_
  refine fr_aload_n d_L_law_448 rfl ?_
  refine fr_iload_n d_L_law_449 rfl ?_
  refine fr_iconst d_L_law_450 fr_i1 ?_
  refine fr_iadd d_L_law_451 ?_
  refine lx_sld hXs hb hB hL (5 * t + 1) d_L_law_452 (nI_add (5 * t) 1) (by omega) ?_
  refine fr_aload_n d_L_law_453 rfl ?_
  refine fr_iload_n d_L_law_454 rfl ?_
  refine fr_iconst d_L_law_455 fr_i2 ?_
  refine fr_iadd d_L_law_456 ?_
  refine lx_sld hXs hb hB hL (5 * t + 2) d_L_law_457 (nI_add (5 * t) 2) (by omega) ?_
  refine fr_tif_eq (t := 465) (j := 466) d_L_law_458 rfl (fun k => fr_iconst d_L_law_461 fr_i1 (fr_goto 466 d_L_law_462 rfl k)) (fun k => fr_iconst d_L_law_465 fr_i0 k) ?_
  refine lx_calli (cs2 := 41 + 7 * n') (sl2 := 1383 + 57 * n') fr_q6 d_L_law_466 cO mv_L_49 rfl rfl rfl (Or.inr ⟨rfl, rfl⟩) rfl rfl ⟨by show RO.frames + 1 ≤ 8; omega, by show 8 + (3 + 11) + RO.locals ≤ 264; omega⟩ ⟨by rw [q3]; rfl, by rw [q4]; rfl⟩ ⟨by show _ ≤ 600000; omega, by show _ ≤ 7302250; omega⟩ (Nat.le_of_ble_eq_true rfl) ?_
  refine fr_icmp_eq 744 d_L_law_469 rfl (fun _ => ih _ _ _ hI2) (fun h => absurd rfl h)
set_option maxRecDepth 10000 in
theorem lx_c8 {X : fr_X} {E : fr_E} {nm : String} {Q : State → Prop} {Inv Inv' : Nat → fr_I → fr_J → Prop} (h8 : ∀ n I J, Inv' n I J → n ≤ 8) {b Ls : Nat} {xs : Nat → Int32} (hXs : va_X b Ls xs E.2.2.1 E.2.2.1.heap) (hb : b < E.2.2.1.heap.size) (hB : X.2.2.2 = E.2.2.1.heap.size) (hL : Ls < 2 ^ 31) {t : Nat} (ht : 5 * t + 5 ≤ Ls) (ok : ∀ (n : Nat) (I : fr_I) (J : fr_J) (a1 : Int32), Inv n I J → lx_P X Inv' y_F_run c_F_run 3 (some .int) y_O_run c_O_run 3 (some .int) [.int a1] n I J)
    (ih : ∀ n I J, Inv' n I J → fr_Ev X E R_L nm c_L_law 4 (some .boolean) room_1 Q (41 + 7 * n) (1383 + 57 * n) (fr_Z0 X n) 744 [(3, .int (nI (5 * t))), (2, .ref (fr_ad X 20 0)), (1, .ref (fr_ad X 0 0)), (0, .ref b)] [] I J) (n : Nat) (I : fr_I) (J : fr_J) (hI : Inv n I J) : fr_Ev X E R_L nm c_L_law 4 (some .boolean) room_1 Q (41 + 7 * n) (1383 + 57 * n) (fr_Z0 X n) 474 [(3, .int (nI (5 * t))), (2, .ref (fr_ad X 20 0)), (1, .ref (fr_ad X 0 0)), (0, .ref b)] [] I J := by
  obtain ⟨RF, RO, x, n', I1, I2, J1, J2, ⟨f1, f2⟩, ⟨o1, o2⟩, ⟨hn, q1, q2⟩, ⟨q3, q4⟩, cF, cO, hI2⟩ := ok n I J (xs (5 * t + 1)) hI 
  have hn8 := h8 _ _ _ hI2
  refine fr_aload_n d_L_law_474 rfl ?_
  refine fr_aload_n d_L_law_475 rfl ?_
  refine fr_iload_n d_L_law_476 rfl ?_
  refine fr_iconst d_L_law_477 fr_i1 ?_
  refine fr_iadd d_L_law_478 ?_
  refine lx_sld hXs hb hB hL (5 * t + 1) d_L_law_479 (nI_add (5 * t) 1) (by omega) ?_
  refine lx_calli (cs2 := 41 + 7 * n') (sl2 := 1383 + 57 * n') fr_q0 d_L_law_480 cF mv_L_50 rfl rfl rfl (Or.inr ⟨rfl, rfl⟩) rfl rfl ⟨by show RF.frames + 1 ≤ 8; omega, by show 8 + (3 + 11) + RF.locals ≤ 264; omega⟩ ⟨by rw [q1]; omega, by rw [q2]; omega⟩ ⟨by show _ ≤ 600000; omega, by show _ ≤ 7302250; omega⟩ (Nat.le_of_ble_eq_true rfl) ?_
  refine fr_aload_n d_L_law_483 rfl ?_
  refine fr_aload_n d_L_law_484 rfl ?_
  refine fr_iload_n d_L_law_485 rfl ?_
  refine fr_iconst d_L_law_486 fr_i1 ?_
  refine fr_iadd d_L_law_487 ?_
  refine lx_sld hXs hb hB hL (5 * t + 1) d_L_law_488 (nI_add (5 * t) 1) (by omega) ?_
  refine lx_calli (cs2 := 41 + 7 * n') (sl2 := 1383 + 57 * n') fr_q6 d_L_law_489 cO mv_L_53 rfl rfl rfl (Or.inr ⟨rfl, rfl⟩) rfl rfl ⟨by show RO.frames + 1 ≤ 8; omega, by show 8 + (3 + 11) + RO.locals ≤ 264; omega⟩ ⟨by rw [q3]; rfl, by rw [q4]; rfl⟩ ⟨by show _ ≤ 600000; omega, by show _ ≤ 7302250; omega⟩ (Nat.le_of_ble_eq_true rfl) ?_
  refine fr_icmp_eq 744 d_L_law_492 rfl (fun _ => ih _ _ _ hI2) (fun h => absurd rfl h)
set_option maxRecDepth 10000 in
theorem lx_c9 {X : fr_X} {E : fr_E} {nm : String} {Q : State → Prop} {Inv Inv' : Nat → fr_I → fr_J → Prop} (h8 : ∀ n I J, Inv' n I J → n ≤ 8) {b Ls : Nat} {xs : Nat → Int32} (hXs : va_X b Ls xs E.2.2.1 E.2.2.1.heap) (hb : b < E.2.2.1.heap.size) (hB : X.2.2.2 = E.2.2.1.heap.size) (hL : Ls < 2 ^ 31) {t : Nat} (ht : 5 * t + 5 ≤ Ls) (ok : ∀ (n : Nat) (I : fr_I) (J : fr_J), Inv n I J → lx_P X Inv' y_F_crash c_F_crash 2 (some .int) y_O_crash c_O_crash 4 (some .int) [] n I J)
    (ih : ∀ n I J, Inv' n I J → fr_Ev X E R_L nm c_L_law 4 (some .boolean) room_1 Q (41 + 7 * n) (1383 + 57 * n) (fr_Z0 X n) 744 [(3, .int (nI (5 * t))), (2, .ref (fr_ad X 20 0)), (1, .ref (fr_ad X 0 0)), (0, .ref b)] [] I J) (n : Nat) (I : fr_I) (J : fr_J) (hI : Inv n I J) : fr_Ev X E R_L nm c_L_law 4 (some .boolean) room_1 Q (41 + 7 * n) (1383 + 57 * n) (fr_Z0 X n) 497 [(3, .int (nI (5 * t))), (2, .ref (fr_ad X 20 0)), (1, .ref (fr_ad X 0 0)), (0, .ref b)] [] I J := by
  obtain ⟨RF, RO, x, n', I1, I2, J1, J2, ⟨f1, f2⟩, ⟨o1, o2⟩, ⟨hn, q1, q2⟩, ⟨q3, q4⟩, cF, cO, hI2⟩ := ok n I J  hI 
  have hn8 := h8 _ _ _ hI2
  refine fr_aload_n d_L_law_497 rfl ?_
  refine lx_calli (cs2 := 41 + 7 * n') (sl2 := 1383 + 57 * n') fr_q0 d_L_law_498 cF mv_L_54 rfl rfl rfl (Or.inr ⟨rfl, rfl⟩) rfl rfl ⟨by show RF.frames + 1 ≤ 8; omega, by show 8 + (2 + 11) + RF.locals ≤ 264; omega⟩ ⟨by rw [q1]; omega, by rw [q2]; omega⟩ ⟨by show _ ≤ 600000; omega, by show _ ≤ 7302250; omega⟩ (Nat.le_of_ble_eq_true rfl) ?_
  refine fr_aload_n d_L_law_501 rfl ?_
  refine lx_calli (cs2 := 41 + 7 * n') (sl2 := 1383 + 57 * n') fr_q6 d_L_law_502 cO mv_L_58 rfl rfl rfl (Or.inr ⟨rfl, rfl⟩) rfl rfl ⟨by show RO.frames + 1 ≤ 8; omega, by show 8 + (4 + 11) + RO.locals ≤ 264; omega⟩ ⟨by rw [q3]; rfl, by rw [q4]; rfl⟩ ⟨by show _ ≤ 600000; omega, by show _ ≤ 7302250; omega⟩ (Nat.le_of_ble_eq_true rfl) ?_
  refine fr_icmp_eq 744 d_L_law_505 rfl (fun _ => ih _ _ _ hI2) (fun h => absurd rfl h)
set_option maxRecDepth 10000 in
theorem lx_c10 {X : fr_X} {E : fr_E} {nm : String} {Q : State → Prop} {Inv Inv' : Nat → fr_I → fr_J → Prop} (h8 : ∀ n I J, Inv' n I J → n ≤ 8) {b Ls : Nat} {xs : Nat → Int32} (hXs : va_X b Ls xs E.2.2.1 E.2.2.1.heap) (hb : b < E.2.2.1.heap.size) (hB : X.2.2.2 = E.2.2.1.heap.size) (hL : Ls < 2 ^ 31) {t : Nat} (ht : 5 * t + 5 ≤ Ls) (ok : ∀ (n : Nat) (I : fr_I) (J : fr_J), Inv n I J → lx_P X Inv' y_F_time c_F_time 1 (some .int) y_O_time c_O_time 1 (some .int) [] n I J)
    (ih : ∀ n I J, Inv' n I J → fr_Ev X E R_L nm c_L_law 4 (some .boolean) room_1 Q (41 + 7 * n) (1383 + 57 * n) (fr_Z0 X n) 744 [(3, .int (nI (5 * t))), (2, .ref (fr_ad X 20 0)), (1, .ref (fr_ad X 0 0)), (0, .ref b)] [] I J) (n : Nat) (I : fr_I) (J : fr_J) (hI : Inv n I J) : fr_Ev X E R_L nm c_L_law 4 (some .boolean) room_1 Q (41 + 7 * n) (1383 + 57 * n) (fr_Z0 X n) 510 [(3, .int (nI (5 * t))), (2, .ref (fr_ad X 20 0)), (1, .ref (fr_ad X 0 0)), (0, .ref b)] [] I J := by
  obtain ⟨RF, RO, x, n', I1, I2, J1, J2, ⟨f1, f2⟩, ⟨o1, o2⟩, ⟨hn, q1, q2⟩, ⟨q3, q4⟩, cF, cO, hI2⟩ := ok n I J  hI 
  have hn8 := h8 _ _ _ hI2
  refine fr_aload_n d_L_law_510 rfl ?_
  refine lx_calli (cs2 := 41 + 7 * n') (sl2 := 1383 + 57 * n') fr_q0 d_L_law_511 cF mv_L_59 rfl rfl rfl (Or.inr ⟨rfl, rfl⟩) rfl rfl ⟨by show RF.frames + 1 ≤ 8; omega, by show 8 + (1 + 11) + RF.locals ≤ 264; omega⟩ ⟨by rw [q1]; omega, by rw [q2]; omega⟩ ⟨by show _ ≤ 600000; omega, by show _ ≤ 7302250; omega⟩ (Nat.le_of_ble_eq_true rfl) ?_
  refine fr_aload_n d_L_law_514 rfl ?_
  refine lx_calli (cs2 := 41 + 7 * n') (sl2 := 1383 + 57 * n') fr_q6 d_L_law_515 cO mv_L_62 rfl rfl rfl (Or.inr ⟨rfl, rfl⟩) rfl rfl ⟨by show RO.frames + 1 ≤ 8; omega, by show 8 + (1 + 11) + RO.locals ≤ 264; omega⟩ ⟨by rw [q3]; rfl, by rw [q4]; rfl⟩ ⟨by show _ ≤ 600000; omega, by show _ ≤ 7302250; omega⟩ (Nat.le_of_ble_eq_true rfl) ?_
  refine fr_icmp_eq 744 d_L_law_518 rfl (fun _ => ih _ _ _ hI2) (fun h => absurd rfl h)
set_option maxRecDepth 10000 in
theorem lx_c11 {X : fr_X} {E : fr_E} {nm : String} {Q : State → Prop} {Inv Inv' : Nat → fr_I → fr_J → Prop} (h8 : ∀ n I J, Inv' n I J → n ≤ 8) {b Ls : Nat} {xs : Nat → Int32} (hXs : va_X b Ls xs E.2.2.1 E.2.2.1.heap) (hb : b < E.2.2.1.heap.size) (hB : X.2.2.2 = E.2.2.1.heap.size) (hL : Ls < 2 ^ 31) {t : Nat} (ht : 5 * t + 5 ≤ Ls) (ok : ∀ (n : Nat) (I : fr_I) (J : fr_J) (a1 : Int32), Inv n I J → lx_P X Inv' y_F_current c_F_current 2 (some .int) y_O_current c_O_current 2 (some .int) [.int a1] n I J)
    (ih : ∀ n I J, Inv' n I J → fr_Ev X E R_L nm c_L_law 4 (some .boolean) room_1 Q (41 + 7 * n) (1383 + 57 * n) (fr_Z0 X n) 744 [(3, .int (nI (5 * t))), (2, .ref (fr_ad X 20 0)), (1, .ref (fr_ad X 0 0)), (0, .ref b)] [] I J) (n : Nat) (I : fr_I) (J : fr_J) (hI : Inv n I J) : fr_Ev X E R_L nm c_L_law 4 (some .boolean) room_1 Q (41 + 7 * n) (1383 + 57 * n) (fr_Z0 X n) 523 [(3, .int (nI (5 * t))), (2, .ref (fr_ad X 20 0)), (1, .ref (fr_ad X 0 0)), (0, .ref b)] [] I J := by
  obtain ⟨RF, RO, x, n', I1, I2, J1, J2, ⟨f1, f2⟩, ⟨o1, o2⟩, ⟨hn, q1, q2⟩, ⟨q3, q4⟩, cF, cO, hI2⟩ := ok n I J (xs (5 * t + 1)) hI 
  have hn8 := h8 _ _ _ hI2
  refine fr_aload_n d_L_law_523 rfl ?_
  refine fr_aload_n d_L_law_524 rfl ?_
  refine fr_iload_n d_L_law_525 rfl ?_
  refine fr_iconst d_L_law_526 fr_i1 ?_
  refine fr_iadd d_L_law_527 ?_
  refine lx_sld hXs hb hB hL (5 * t + 1) d_L_law_528 (nI_add (5 * t) 1) (by omega) ?_
  refine lx_calli (cs2 := 41 + 7 * n') (sl2 := 1383 + 57 * n') fr_q0 d_L_law_529 cF mv_L_63 rfl rfl rfl (Or.inr ⟨rfl, rfl⟩) rfl rfl ⟨by show RF.frames + 1 ≤ 8; omega, by show 8 + (2 + 11) + RF.locals ≤ 264; omega⟩ ⟨by rw [q1]; omega, by rw [q2]; omega⟩ ⟨by show _ ≤ 600000; omega, by show _ ≤ 7302250; omega⟩ (Nat.le_of_ble_eq_true rfl) ?_
  refine fr_aload_n d_L_law_532 rfl ?_
  refine fr_aload_n d_L_law_533 rfl ?_
  refine fr_iload_n d_L_law_534 rfl ?_
  refine fr_iconst d_L_law_535 fr_i1 ?_
  refine fr_iadd d_L_law_536 ?_
  refine lx_sld hXs hb hB hL (5 * t + 1) d_L_law_537 (nI_add (5 * t) 1) (by omega) ?_
  refine lx_calli (cs2 := 41 + 7 * n') (sl2 := 1383 + 57 * n') fr_q6 d_L_law_538 cO mv_L_66 rfl rfl rfl (Or.inr ⟨rfl, rfl⟩) rfl rfl ⟨by show RO.frames + 1 ≤ 8; omega, by show 8 + (2 + 11) + RO.locals ≤ 264; omega⟩ ⟨by rw [q3]; rfl, by rw [q4]; rfl⟩ ⟨by show _ ≤ 600000; omega, by show _ ≤ 7302250; omega⟩ (Nat.le_of_ble_eq_true rfl) ?_
  refine fr_icmp_eq 744 d_L_law_541 rfl (fun _ => ih _ _ _ hI2) (fun h => absurd rfl h)
set_option maxRecDepth 10000 in
theorem lx_c12 {X : fr_X} {E : fr_E} {nm : String} {Q : State → Prop} {Inv Inv' : Nat → fr_I → fr_J → Prop} (h8 : ∀ n I J, Inv' n I J → n ≤ 8) {b Ls : Nat} {xs : Nat → Int32} (hXs : va_X b Ls xs E.2.2.1 E.2.2.1.heap) (hb : b < E.2.2.1.heap.size) (hB : X.2.2.2 = E.2.2.1.heap.size) (hL : Ls < 2 ^ 31) {t : Nat} (ht : 5 * t + 5 ≤ Ls) (ok : ∀ (n : Nat) (I : fr_I) (J : fr_J) (a1 : Int32), Inv n I J → lx_P X Inv' y_F_state c_F_state 3 (some .int) y_O_state c_O_state 4 (some .int) [.int a1] n I J)
    (ih : ∀ n I J, Inv' n I J → fr_Ev X E R_L nm c_L_law 4 (some .boolean) room_1 Q (41 + 7 * n) (1383 + 57 * n) (fr_Z0 X n) 744 [(3, .int (nI (5 * t))), (2, .ref (fr_ad X 20 0)), (1, .ref (fr_ad X 0 0)), (0, .ref b)] [] I J) (n : Nat) (I : fr_I) (J : fr_J) (hI : Inv n I J) : fr_Ev X E R_L nm c_L_law 4 (some .boolean) room_1 Q (41 + 7 * n) (1383 + 57 * n) (fr_Z0 X n) 546 [(3, .int (nI (5 * t))), (2, .ref (fr_ad X 20 0)), (1, .ref (fr_ad X 0 0)), (0, .ref b)] [] I J := by
  obtain ⟨RF, RO, x, n', I1, I2, J1, J2, ⟨f1, f2⟩, ⟨o1, o2⟩, ⟨hn, q1, q2⟩, ⟨q3, q4⟩, cF, cO, hI2⟩ := ok n I J (xs (5 * t + 1)) hI 
  have hn8 := h8 _ _ _ hI2
  refine fr_aload_n d_L_law_546 rfl ?_
  refine fr_aload_n d_L_law_547 rfl ?_
  refine fr_iload_n d_L_law_548 rfl ?_
  refine fr_iconst d_L_law_549 fr_i1 ?_
  refine fr_iadd d_L_law_550 ?_
  refine lx_sld hXs hb hB hL (5 * t + 1) d_L_law_551 (nI_add (5 * t) 1) (by omega) ?_
  refine lx_calli (cs2 := 41 + 7 * n') (sl2 := 1383 + 57 * n') fr_q0 d_L_law_552 cF mv_L_67 rfl rfl rfl (Or.inr ⟨rfl, rfl⟩) rfl rfl ⟨by show RF.frames + 1 ≤ 8; omega, by show 8 + (3 + 11) + RF.locals ≤ 264; omega⟩ ⟨by rw [q1]; omega, by rw [q2]; omega⟩ ⟨by show _ ≤ 600000; omega, by show _ ≤ 7302250; omega⟩ (Nat.le_of_ble_eq_true rfl) ?_
  refine fr_aload_n d_L_law_555 rfl ?_
  refine fr_aload_n d_L_law_556 rfl ?_
  refine fr_iload_n d_L_law_557 rfl ?_
  refine fr_iconst d_L_law_558 fr_i1 ?_
  refine fr_iadd d_L_law_559 ?_
  refine lx_sld hXs hb hB hL (5 * t + 1) d_L_law_560 (nI_add (5 * t) 1) (by omega) ?_
  refine lx_calli (cs2 := 41 + 7 * n') (sl2 := 1383 + 57 * n') fr_q6 d_L_law_561 cO mv_L_70 rfl rfl rfl (Or.inr ⟨rfl, rfl⟩) rfl rfl ⟨by show RO.frames + 1 ≤ 8; omega, by show 8 + (4 + 11) + RO.locals ≤ 264; omega⟩ ⟨by rw [q3]; rfl, by rw [q4]; rfl⟩ ⟨by show _ ≤ 600000; omega, by show _ ≤ 7302250; omega⟩ (Nat.le_of_ble_eq_true rfl) ?_
  refine fr_icmp_eq 744 d_L_law_564 rfl (fun _ => ih _ _ _ hI2) (fun h => absurd rfl h)
set_option maxRecDepth 10000 in
theorem lx_c13 {X : fr_X} {E : fr_E} {nm : String} {Q : State → Prop} {Inv Inv' : Nat → fr_I → fr_J → Prop} (h8 : ∀ n I J, Inv' n I J → n ≤ 8) {b Ls : Nat} {xs : Nat → Int32} (hXs : va_X b Ls xs E.2.2.1 E.2.2.1.heap) (hb : b < E.2.2.1.heap.size) (hB : X.2.2.2 = E.2.2.1.heap.size) (hL : Ls < 2 ^ 31) {t : Nat} (ht : 5 * t + 5 ≤ Ls) (ok : ∀ (n : Nat) (I : fr_I) (J : fr_J) (a1 : Int32), Inv n I J → lx_PL X Inv' y_F_sum c_F_sum 2 (some .long) y_O_sum c_O_sum 2 (some .long) [.int a1] n I J)
    (ih : ∀ n I J, Inv' n I J → fr_Ev X E R_L nm c_L_law 4 (some .boolean) room_1 Q (41 + 7 * n) (1383 + 57 * n) (fr_Z0 X n) 744 [(3, .int (nI (5 * t))), (2, .ref (fr_ad X 20 0)), (1, .ref (fr_ad X 0 0)), (0, .ref b)] [] I J) (n : Nat) (I : fr_I) (J : fr_J) (hI : Inv n I J) : fr_Ev X E R_L nm c_L_law 4 (some .boolean) room_1 Q (41 + 7 * n) (1383 + 57 * n) (fr_Z0 X n) 569 [(3, .int (nI (5 * t))), (2, .ref (fr_ad X 20 0)), (1, .ref (fr_ad X 0 0)), (0, .ref b)] [] I J := by
  obtain ⟨RF, RO, x, n', I1, I2, J1, J2, ⟨f1, f2⟩, ⟨o1, o2⟩, ⟨hn, q1, q2⟩, ⟨q3, q4⟩, cF, cO, hI2⟩ := ok n I J (xs (5 * t + 1)) hI 
  have hn8 := h8 _ _ _ hI2
  refine fr_aload_n d_L_law_569 rfl ?_
  refine fr_aload_n d_L_law_570 rfl ?_
  refine fr_iload_n d_L_law_571 rfl ?_
  refine fr_iconst d_L_law_572 fr_i1 ?_
  refine fr_iadd d_L_law_573 ?_
  refine lx_sld hXs hb hB hL (5 * t + 1) d_L_law_574 (nI_add (5 * t) 1) (by omega) ?_
  refine lx_calll (cs2 := 41 + 7 * n') (sl2 := 1383 + 57 * n') fr_q0 d_L_law_575 cF mv_L_71 rfl rfl rfl (Or.inr ⟨rfl, rfl⟩) rfl rfl ⟨by show RF.frames + 1 ≤ 8; omega, by show 8 + (2 + 11) + RF.locals ≤ 264; omega⟩ ⟨by rw [q1]; omega, by rw [q2]; omega⟩ ⟨by show _ ≤ 600000; omega, by show _ ≤ 7302250; omega⟩ (Nat.le_of_ble_eq_true rfl) ?_
  refine fr_aload_n d_L_law_578 rfl ?_
  refine fr_aload_n d_L_law_579 rfl ?_
  refine fr_iload_n d_L_law_580 rfl ?_
  refine fr_iconst d_L_law_581 fr_i1 ?_
  refine fr_iadd d_L_law_582 ?_
  refine lx_sld hXs hb hB hL (5 * t + 1) d_L_law_583 (nI_add (5 * t) 1) (by omega) ?_
  refine lx_calll (cs2 := 41 + 7 * n') (sl2 := 1383 + 57 * n') fr_q6 d_L_law_584 cO mv_L_75 rfl rfl rfl (Or.inr ⟨rfl, rfl⟩) rfl rfl ⟨by show RO.frames + 1 ≤ 8; omega, by show 8 + (2 + 11) + RO.locals ≤ 264; omega⟩ ⟨by rw [q3]; rfl, by rw [q4]; rfl⟩ ⟨by show _ ≤ 600000; omega, by show _ ≤ 7302250; omega⟩ (Nat.le_of_ble_eq_true rfl) ?_
  refine fr_lcmp d_L_law_587 ?_
  refine fr_if_eq 744 d_L_law_588 rfl (fun _ => ih _ _ _ hI2) (fun h => absurd (by simp [lg_cmp]) h)
set_option maxRecDepth 10000 in
theorem lx_c14 {X : fr_X} {E : fr_E} {nm : String} {Q : State → Prop} {Inv Inv' : Nat → fr_I → fr_J → Prop} (h8 : ∀ n I J, Inv' n I J → n ≤ 8) {b Ls : Nat} {xs : Nat → Int32} (hXs : va_X b Ls xs E.2.2.1 E.2.2.1.heap) (hb : b < E.2.2.1.heap.size) (hB : X.2.2.2 = E.2.2.1.heap.size) (hL : Ls < 2 ^ 31) {t : Nat} (ht : 5 * t + 5 ≤ Ls) (ok : ∀ (n : Nat) (I : fr_I) (J : fr_J) (a1 : Int32), Inv n I J → lx_P X Inv' y_F_used c_F_used 2 (some .int) y_O_used c_O_used 2 (some .int) [.int a1] n I J)
    (ih : ∀ n I J, Inv' n I J → fr_Ev X E R_L nm c_L_law 4 (some .boolean) room_1 Q (41 + 7 * n) (1383 + 57 * n) (fr_Z0 X n) 744 [(3, .int (nI (5 * t))), (2, .ref (fr_ad X 20 0)), (1, .ref (fr_ad X 0 0)), (0, .ref b)] [] I J) (n : Nat) (I : fr_I) (J : fr_J) (hI : Inv n I J) : fr_Ev X E R_L nm c_L_law 4 (some .boolean) room_1 Q (41 + 7 * n) (1383 + 57 * n) (fr_Z0 X n) 593 [(3, .int (nI (5 * t))), (2, .ref (fr_ad X 20 0)), (1, .ref (fr_ad X 0 0)), (0, .ref b)] [] I J := by
  obtain ⟨RF, RO, x, n', I1, I2, J1, J2, ⟨f1, f2⟩, ⟨o1, o2⟩, ⟨hn, q1, q2⟩, ⟨q3, q4⟩, cF, cO, hI2⟩ := ok n I J (xs (5 * t + 1)) hI 
  have hn8 := h8 _ _ _ hI2
  refine fr_aload_n d_L_law_593 rfl ?_
  refine fr_aload_n d_L_law_594 rfl ?_
  refine fr_iload_n d_L_law_595 rfl ?_
  refine fr_iconst d_L_law_596 fr_i1 ?_
  refine fr_iadd d_L_law_597 ?_
  refine lx_sld hXs hb hB hL (5 * t + 1) d_L_law_598 (nI_add (5 * t) 1) (by omega) ?_
  refine lx_calli (cs2 := 41 + 7 * n') (sl2 := 1383 + 57 * n') fr_q0 d_L_law_599 cF mv_L_76 rfl rfl rfl (Or.inr ⟨rfl, rfl⟩) rfl rfl ⟨by show RF.frames + 1 ≤ 8; omega, by show 8 + (2 + 11) + RF.locals ≤ 264; omega⟩ ⟨by rw [q1]; omega, by rw [q2]; omega⟩ ⟨by show _ ≤ 600000; omega, by show _ ≤ 7302250; omega⟩ (Nat.le_of_ble_eq_true rfl) ?_
  refine fr_aload_n d_L_law_602 rfl ?_
  refine fr_aload_n d_L_law_603 rfl ?_
  refine fr_iload_n d_L_law_604 rfl ?_
  refine fr_iconst d_L_law_605 fr_i1 ?_
  refine fr_iadd d_L_law_606 ?_
  refine lx_sld hXs hb hB hL (5 * t + 1) d_L_law_607 (nI_add (5 * t) 1) (by omega) ?_
  refine lx_calli (cs2 := 41 + 7 * n') (sl2 := 1383 + 57 * n') fr_q6 d_L_law_608 cO mv_L_79 rfl rfl rfl (Or.inr ⟨rfl, rfl⟩) rfl rfl ⟨by show RO.frames + 1 ≤ 8; omega, by show 8 + (2 + 11) + RO.locals ≤ 264; omega⟩ ⟨by rw [q3]; rfl, by rw [q4]; rfl⟩ ⟨by show _ ≤ 600000; omega, by show _ ≤ 7302250; omega⟩ (Nat.le_of_ble_eq_true rfl) ?_
  refine fr_icmp_eq 744 d_L_law_611 rfl (fun _ => ih _ _ _ hI2) (fun h => absurd rfl h)
set_option maxRecDepth 10000 in
theorem lx_c15 {X : fr_X} {E : fr_E} {nm : String} {Q : State → Prop} {Inv Inv' : Nat → fr_I → fr_J → Prop} (h8 : ∀ n I J, Inv' n I J → n ≤ 8) {b Ls : Nat} {xs : Nat → Int32} (hXs : va_X b Ls xs E.2.2.1 E.2.2.1.heap) (hb : b < E.2.2.1.heap.size) (hB : X.2.2.2 = E.2.2.1.heap.size) (hL : Ls < 2 ^ 31) {t : Nat} (ht : 5 * t + 5 ≤ Ls) (ok : ∀ (n : Nat) (I : fr_I) (J : fr_J) (a1 : Int32), Inv n I J → lx_P X Inv' y_F_changes c_F_changes 2 (some .int) y_O_changes c_O_changes 2 (some .int) [.int a1] n I J)
    (ih : ∀ n I J, Inv' n I J → fr_Ev X E R_L nm c_L_law 4 (some .boolean) room_1 Q (41 + 7 * n) (1383 + 57 * n) (fr_Z0 X n) 744 [(3, .int (nI (5 * t))), (2, .ref (fr_ad X 20 0)), (1, .ref (fr_ad X 0 0)), (0, .ref b)] [] I J) (n : Nat) (I : fr_I) (J : fr_J) (hI : Inv n I J) : fr_Ev X E R_L nm c_L_law 4 (some .boolean) room_1 Q (41 + 7 * n) (1383 + 57 * n) (fr_Z0 X n) 616 [(3, .int (nI (5 * t))), (2, .ref (fr_ad X 20 0)), (1, .ref (fr_ad X 0 0)), (0, .ref b)] [] I J := by
  obtain ⟨RF, RO, x, n', I1, I2, J1, J2, ⟨f1, f2⟩, ⟨o1, o2⟩, ⟨hn, q1, q2⟩, ⟨q3, q4⟩, cF, cO, hI2⟩ := ok n I J (xs (5 * t + 1)) hI 
  have hn8 := h8 _ _ _ hI2
  refine fr_aload_n d_L_law_616 rfl ?_
  refine fr_aload_n d_L_law_617 rfl ?_
  refine fr_iload_n d_L_law_618 rfl ?_
  refine fr_iconst d_L_law_619 fr_i1 ?_
  refine fr_iadd d_L_law_620 ?_
  refine lx_sld hXs hb hB hL (5 * t + 1) d_L_law_621 (nI_add (5 * t) 1) (by omega) ?_
  refine lx_calli (cs2 := 41 + 7 * n') (sl2 := 1383 + 57 * n') fr_q0 d_L_law_622 cF mv_L_80 rfl rfl rfl (Or.inr ⟨rfl, rfl⟩) rfl rfl ⟨by show RF.frames + 1 ≤ 8; omega, by show 8 + (2 + 11) + RF.locals ≤ 264; omega⟩ ⟨by rw [q1]; omega, by rw [q2]; omega⟩ ⟨by show _ ≤ 600000; omega, by show _ ≤ 7302250; omega⟩ (Nat.le_of_ble_eq_true rfl) ?_
  refine fr_aload_n d_L_law_625 rfl ?_
  refine fr_aload_n d_L_law_626 rfl ?_
  refine fr_iload_n d_L_law_627 rfl ?_
  refine fr_iconst d_L_law_628 fr_i1 ?_
  refine fr_iadd d_L_law_629 ?_
  refine lx_sld hXs hb hB hL (5 * t + 1) d_L_law_630 (nI_add (5 * t) 1) (by omega) ?_
  refine lx_calli (cs2 := 41 + 7 * n') (sl2 := 1383 + 57 * n') fr_q6 d_L_law_631 cO mv_L_83 rfl rfl rfl (Or.inr ⟨rfl, rfl⟩) rfl rfl ⟨by show RO.frames + 1 ≤ 8; omega, by show 8 + (2 + 11) + RO.locals ≤ 264; omega⟩ ⟨by rw [q3]; rfl, by rw [q4]; rfl⟩ ⟨by show _ ≤ 600000; omega, by show _ ≤ 7302250; omega⟩ (Nat.le_of_ble_eq_true rfl) ?_
  refine fr_icmp_eq 744 d_L_law_634 rfl (fun _ => ih _ _ _ hI2) (fun h => absurd rfl h)
set_option maxRecDepth 10000 in
theorem lx_c16 {X : fr_X} {E : fr_E} {nm : String} {Q : State → Prop} {Inv Inv' : Nat → fr_I → fr_J → Prop} (h8 : ∀ n I J, Inv' n I J → n ≤ 8) {b Ls : Nat} {xs : Nat → Int32} (hXs : va_X b Ls xs E.2.2.1 E.2.2.1.heap) (hb : b < E.2.2.1.heap.size) (hB : X.2.2.2 = E.2.2.1.heap.size) (hL : Ls < 2 ^ 31) {t : Nat} (ht : 5 * t + 5 ≤ Ls) (ok : ∀ (n : Nat) (I : fr_I) (J : fr_J) (a1 : Int32), Inv n I J → lx_P X Inv' y_F_known c_F_known 2 (some .int) y_O_known c_O_known 2 (some .int) [.int a1] n I J)
    (ih : ∀ n I J, Inv' n I J → fr_Ev X E R_L nm c_L_law 4 (some .boolean) room_1 Q (41 + 7 * n) (1383 + 57 * n) (fr_Z0 X n) 744 [(3, .int (nI (5 * t))), (2, .ref (fr_ad X 20 0)), (1, .ref (fr_ad X 0 0)), (0, .ref b)] [] I J) (n : Nat) (I : fr_I) (J : fr_J) (hI : Inv n I J) : fr_Ev X E R_L nm c_L_law 4 (some .boolean) room_1 Q (41 + 7 * n) (1383 + 57 * n) (fr_Z0 X n) 639 [(3, .int (nI (5 * t))), (2, .ref (fr_ad X 20 0)), (1, .ref (fr_ad X 0 0)), (0, .ref b)] [] I J := by
  obtain ⟨RF, RO, x, n', I1, I2, J1, J2, ⟨f1, f2⟩, ⟨o1, o2⟩, ⟨hn, q1, q2⟩, ⟨q3, q4⟩, cF, cO, hI2⟩ := ok n I J (xs (5 * t + 1)) hI 
  have hn8 := h8 _ _ _ hI2
  refine fr_aload_n d_L_law_639 rfl ?_
  refine fr_aload_n d_L_law_640 rfl ?_
  refine fr_iload_n d_L_law_641 rfl ?_
  refine fr_iconst d_L_law_642 fr_i1 ?_
  refine fr_iadd d_L_law_643 ?_
  refine lx_sld hXs hb hB hL (5 * t + 1) d_L_law_644 (nI_add (5 * t) 1) (by omega) ?_
  refine lx_calli (cs2 := 41 + 7 * n') (sl2 := 1383 + 57 * n') fr_q0 d_L_law_645 cF mv_L_84 rfl rfl rfl (Or.inr ⟨rfl, rfl⟩) rfl rfl ⟨by show RF.frames + 1 ≤ 8; omega, by show 8 + (2 + 11) + RF.locals ≤ 264; omega⟩ ⟨by rw [q1]; omega, by rw [q2]; omega⟩ ⟨by show _ ≤ 600000; omega, by show _ ≤ 7302250; omega⟩ (Nat.le_of_ble_eq_true rfl) ?_
  refine fr_aload_n d_L_law_648 rfl ?_
  refine fr_aload_n d_L_law_649 rfl ?_
  refine fr_iload_n d_L_law_650 rfl ?_
  refine fr_iconst d_L_law_651 fr_i1 ?_
  refine fr_iadd d_L_law_652 ?_
  refine lx_sld hXs hb hB hL (5 * t + 1) d_L_law_653 (nI_add (5 * t) 1) (by omega) ?_
  refine lx_calli (cs2 := 41 + 7 * n') (sl2 := 1383 + 57 * n') fr_q6 d_L_law_654 cO mv_L_87 rfl rfl rfl (Or.inr ⟨rfl, rfl⟩) rfl rfl ⟨by show RO.frames + 1 ≤ 8; omega, by show 8 + (2 + 11) + RO.locals ≤ 264; omega⟩ ⟨by rw [q3]; rfl, by rw [q4]; rfl⟩ ⟨by show _ ≤ 600000; omega, by show _ ≤ 7302250; omega⟩ (Nat.le_of_ble_eq_true rfl) ?_
  refine fr_icmp_eq 744 d_L_law_657 rfl (fun _ => ih _ _ _ hI2) (fun h => absurd rfl h)
set_option maxRecDepth 10000 in
theorem lx_c17 {X : fr_X} {E : fr_E} {nm : String} {Q : State → Prop} {Inv Inv' : Nat → fr_I → fr_J → Prop} (h8 : ∀ n I J, Inv' n I J → n ≤ 8) {b Ls : Nat} {xs : Nat → Int32} (hXs : va_X b Ls xs E.2.2.1 E.2.2.1.heap) (hb : b < E.2.2.1.heap.size) (hB : X.2.2.2 = E.2.2.1.heap.size) (hL : Ls < 2 ^ 31) {t : Nat} (ht : 5 * t + 5 ≤ Ls) (ok : ∀ (n : Nat) (I : fr_I) (J : fr_J) (a1 : Int32), Inv n I J → lx_P X Inv' y_F_effective c_F_effective 2 (some .int) y_O_effective c_O_effective 2 (some .int) [.int a1] n I J)
    (ih : ∀ n I J, Inv' n I J → fr_Ev X E R_L nm c_L_law 4 (some .boolean) room_1 Q (41 + 7 * n) (1383 + 57 * n) (fr_Z0 X n) 744 [(3, .int (nI (5 * t))), (2, .ref (fr_ad X 20 0)), (1, .ref (fr_ad X 0 0)), (0, .ref b)] [] I J) (n : Nat) (I : fr_I) (J : fr_J) (hI : Inv n I J) : fr_Ev X E R_L nm c_L_law 4 (some .boolean) room_1 Q (41 + 7 * n) (1383 + 57 * n) (fr_Z0 X n) 662 [(3, .int (nI (5 * t))), (2, .ref (fr_ad X 20 0)), (1, .ref (fr_ad X 0 0)), (0, .ref b)] [] I J := by
  obtain ⟨RF, RO, x, n', I1, I2, J1, J2, ⟨f1, f2⟩, ⟨o1, o2⟩, ⟨hn, q1, q2⟩, ⟨q3, q4⟩, cF, cO, hI2⟩ := ok n I J (xs (5 * t + 1)) hI 
  have hn8 := h8 _ _ _ hI2
  refine fr_aload_n d_L_law_662 rfl ?_
  refine fr_aload_n d_L_law_663 rfl ?_
  refine fr_iload_n d_L_law_664 rfl ?_
  refine fr_iconst d_L_law_665 fr_i1 ?_
  refine fr_iadd d_L_law_666 ?_
  refine lx_sld hXs hb hB hL (5 * t + 1) d_L_law_667 (nI_add (5 * t) 1) (by omega) ?_
  refine lx_calli (cs2 := 41 + 7 * n') (sl2 := 1383 + 57 * n') fr_q0 d_L_law_668 cF mv_L_88 rfl rfl rfl (Or.inr ⟨rfl, rfl⟩) rfl rfl ⟨by show RF.frames + 1 ≤ 8; omega, by show 8 + (2 + 11) + RF.locals ≤ 264; omega⟩ ⟨by rw [q1]; omega, by rw [q2]; omega⟩ ⟨by show _ ≤ 600000; omega, by show _ ≤ 7302250; omega⟩ (Nat.le_of_ble_eq_true rfl) ?_
  refine fr_aload_n d_L_law_671 rfl ?_
  refine fr_aload_n d_L_law_672 rfl ?_
  refine fr_iload_n d_L_law_673 rfl ?_
  refine fr_iconst d_L_law_674 fr_i1 ?_
  refine fr_iadd d_L_law_675 ?_
  refine lx_sld hXs hb hB hL (5 * t + 1) d_L_law_676 (nI_add (5 * t) 1) (by omega) ?_
  refine lx_calli (cs2 := 41 + 7 * n') (sl2 := 1383 + 57 * n') fr_q6 d_L_law_677 cO mv_L_91 rfl rfl rfl (Or.inr ⟨rfl, rfl⟩) rfl rfl ⟨by show RO.frames + 1 ≤ 8; omega, by show 8 + (2 + 11) + RO.locals ≤ 264; omega⟩ ⟨by rw [q3]; rfl, by rw [q4]; rfl⟩ ⟨by show _ ≤ 600000; omega, by show _ ≤ 7302250; omega⟩ (Nat.le_of_ble_eq_true rfl) ?_
  refine fr_icmp_eq 744 d_L_law_680 rfl (fun _ => ih _ _ _ hI2) (fun h => absurd rfl h)
set_option maxRecDepth 10000 in
theorem lx_c18 {X : fr_X} {E : fr_E} {nm : String} {Q : State → Prop} {Inv Inv' : Nat → fr_I → fr_J → Prop} (h8 : ∀ n I J, Inv' n I J → n ≤ 8) {b Ls : Nat} {xs : Nat → Int32} (hXs : va_X b Ls xs E.2.2.1 E.2.2.1.heap) (hb : b < E.2.2.1.heap.size) (hB : X.2.2.2 = E.2.2.1.heap.size) (hL : Ls < 2 ^ 31) {t : Nat} (ht : 5 * t + 5 ≤ Ls) (ok : ∀ (n : Nat) (I : fr_I) (J : fr_J), Inv n I J → lx_P X Inv' y_F_events c_F_events 1 (some .int) y_O_events c_O_events 1 (some .int) [] n I J)
    (ih : ∀ n I J, Inv' n I J → fr_Ev X E R_L nm c_L_law 4 (some .boolean) room_1 Q (41 + 7 * n) (1383 + 57 * n) (fr_Z0 X n) 744 [(3, .int (nI (5 * t))), (2, .ref (fr_ad X 20 0)), (1, .ref (fr_ad X 0 0)), (0, .ref b)] [] I J) (n : Nat) (I : fr_I) (J : fr_J) (hI : Inv n I J) : fr_Ev X E R_L nm c_L_law 4 (some .boolean) room_1 Q (41 + 7 * n) (1383 + 57 * n) (fr_Z0 X n) 685 [(3, .int (nI (5 * t))), (2, .ref (fr_ad X 20 0)), (1, .ref (fr_ad X 0 0)), (0, .ref b)] [] I J := by
  obtain ⟨RF, RO, x, n', I1, I2, J1, J2, ⟨f1, f2⟩, ⟨o1, o2⟩, ⟨hn, q1, q2⟩, ⟨q3, q4⟩, cF, cO, hI2⟩ := ok n I J  hI 
  have hn8 := h8 _ _ _ hI2
  refine fr_aload_n d_L_law_685 rfl ?_
  refine lx_calli (cs2 := 41 + 7 * n') (sl2 := 1383 + 57 * n') fr_q0 d_L_law_686 cF mv_L_92 rfl rfl rfl (Or.inr ⟨rfl, rfl⟩) rfl rfl ⟨by show RF.frames + 1 ≤ 8; omega, by show 8 + (1 + 11) + RF.locals ≤ 264; omega⟩ ⟨by rw [q1]; omega, by rw [q2]; omega⟩ ⟨by show _ ≤ 600000; omega, by show _ ≤ 7302250; omega⟩ (Nat.le_of_ble_eq_true rfl) ?_
  refine fr_aload_n d_L_law_689 rfl ?_
  refine lx_calli (cs2 := 41 + 7 * n') (sl2 := 1383 + 57 * n') fr_q6 d_L_law_690 cO mv_L_95 rfl rfl rfl (Or.inr ⟨rfl, rfl⟩) rfl rfl ⟨by show RO.frames + 1 ≤ 8; omega, by show 8 + (1 + 11) + RO.locals ≤ 264; omega⟩ ⟨by rw [q3]; rfl, by rw [q4]; rfl⟩ ⟨by show _ ≤ 600000; omega, by show _ ≤ 7302250; omega⟩ (Nat.le_of_ble_eq_true rfl) ?_
  refine fr_icmp_eq 744 d_L_law_693 rfl (fun _ => ih _ _ _ hI2) (fun h => absurd rfl h)
set_option maxRecDepth 10000 in
theorem lx_c19 {X : fr_X} {E : fr_E} {nm : String} {Q : State → Prop} {Inv Inv' : Nat → fr_I → fr_J → Prop} (h8 : ∀ n I J, Inv' n I J → n ≤ 8) {b Ls : Nat} {xs : Nat → Int32} (hXs : va_X b Ls xs E.2.2.1 E.2.2.1.heap) (hb : b < E.2.2.1.heap.size) (hB : X.2.2.2 = E.2.2.1.heap.size) (hL : Ls < 2 ^ 31) {t : Nat} (ht : 5 * t + 5 ≤ Ls) (ok : ∀ (n : Nat) (I : fr_I) (J : fr_J) (a1 : Int32), Inv n I J → lx_P X Inv' y_F_event c_F_event 2 (some .int) y_O_event c_O_event 2 (some .int) [.int a1] n I J)
    (ih : ∀ n I J, Inv' n I J → fr_Ev X E R_L nm c_L_law 4 (some .boolean) room_1 Q (41 + 7 * n) (1383 + 57 * n) (fr_Z0 X n) 744 [(3, .int (nI (5 * t))), (2, .ref (fr_ad X 20 0)), (1, .ref (fr_ad X 0 0)), (0, .ref b)] [] I J) (n : Nat) (I : fr_I) (J : fr_J) (hI : Inv n I J) : fr_Ev X E R_L nm c_L_law 4 (some .boolean) room_1 Q (41 + 7 * n) (1383 + 57 * n) (fr_Z0 X n) 698 [(3, .int (nI (5 * t))), (2, .ref (fr_ad X 20 0)), (1, .ref (fr_ad X 0 0)), (0, .ref b)] [] I J := by
  obtain ⟨RF, RO, x, n', I1, I2, J1, J2, ⟨f1, f2⟩, ⟨o1, o2⟩, ⟨hn, q1, q2⟩, ⟨q3, q4⟩, cF, cO, hI2⟩ := ok n I J (xs (5 * t + 1)) hI 
  have hn8 := h8 _ _ _ hI2
  refine fr_aload_n d_L_law_698 rfl ?_
  refine fr_aload_n d_L_law_699 rfl ?_
  refine fr_iload_n d_L_law_700 rfl ?_
  refine fr_iconst d_L_law_701 fr_i1 ?_
  refine fr_iadd d_L_law_702 ?_
  refine lx_sld hXs hb hB hL (5 * t + 1) d_L_law_703 (nI_add (5 * t) 1) (by omega) ?_
  refine lx_calli (cs2 := 41 + 7 * n') (sl2 := 1383 + 57 * n') fr_q0 d_L_law_704 cF mv_L_96 rfl rfl rfl (Or.inr ⟨rfl, rfl⟩) rfl rfl ⟨by show RF.frames + 1 ≤ 8; omega, by show 8 + (2 + 11) + RF.locals ≤ 264; omega⟩ ⟨by rw [q1]; omega, by rw [q2]; omega⟩ ⟨by show _ ≤ 600000; omega, by show _ ≤ 7302250; omega⟩ (Nat.le_of_ble_eq_true rfl) ?_
  refine fr_aload_n d_L_law_707 rfl ?_
  refine fr_aload_n d_L_law_708 rfl ?_
  refine fr_iload_n d_L_law_709 rfl ?_
  refine fr_iconst d_L_law_710 fr_i1 ?_
  refine fr_iadd d_L_law_711 ?_
  refine lx_sld hXs hb hB hL (5 * t + 1) d_L_law_712 (nI_add (5 * t) 1) (by omega) ?_
  refine lx_calli (cs2 := 41 + 7 * n') (sl2 := 1383 + 57 * n') fr_q6 d_L_law_713 cO mv_L_99 rfl rfl rfl (Or.inr ⟨rfl, rfl⟩) rfl rfl ⟨by show RO.frames + 1 ≤ 8; omega, by show 8 + (2 + 11) + RO.locals ≤ 264; omega⟩ ⟨by rw [q3]; rfl, by rw [q4]; rfl⟩ ⟨by show _ ≤ 600000; omega, by show _ ≤ 7302250; omega⟩ (Nat.le_of_ble_eq_true rfl) ?_
  refine fr_icmp_eq 744 d_L_law_716 rfl (fun _ => ih _ _ _ hI2) (fun h => absurd rfl h)
set_option maxRecDepth 10000 in
theorem lx_c20 {X : fr_X} {E : fr_E} {nm : String} {Q : State → Prop} {Inv Inv' : Nat → fr_I → fr_J → Prop} (h8 : ∀ n I J, Inv' n I J → n ≤ 8) {b Ls : Nat} {xs : Nat → Int32} (hXs : va_X b Ls xs E.2.2.1 E.2.2.1.heap) (hb : b < E.2.2.1.heap.size) (hB : X.2.2.2 = E.2.2.1.heap.size) (hL : Ls < 2 ^ 31) {t : Nat} (ht : 5 * t + 5 ≤ Ls) (ok : ∀ (n : Nat) (I : fr_I) (J : fr_J) (a1 : Int32), Inv n I J → lx_P X Inv' y_F_when c_F_when 2 (some .int) y_O_when c_O_when 2 (some .int) [.int a1] n I J)
    (ih : ∀ n I J, Inv' n I J → fr_Ev X E R_L nm c_L_law 4 (some .boolean) room_1 Q (41 + 7 * n) (1383 + 57 * n) (fr_Z0 X n) 744 [(3, .int (nI (5 * t))), (2, .ref (fr_ad X 20 0)), (1, .ref (fr_ad X 0 0)), (0, .ref b)] [] I J) (n : Nat) (I : fr_I) (J : fr_J) (hI : Inv n I J) : fr_Ev X E R_L nm c_L_law 4 (some .boolean) room_1 Q (41 + 7 * n) (1383 + 57 * n) (fr_Z0 X n) 721 [(3, .int (nI (5 * t))), (2, .ref (fr_ad X 20 0)), (1, .ref (fr_ad X 0 0)), (0, .ref b)] [] I J := by
  obtain ⟨RF, RO, x, n', I1, I2, J1, J2, ⟨f1, f2⟩, ⟨o1, o2⟩, ⟨hn, q1, q2⟩, ⟨q3, q4⟩, cF, cO, hI2⟩ := ok n I J (xs (5 * t + 1)) hI 
  have hn8 := h8 _ _ _ hI2
  refine fr_aload_n d_L_law_721 rfl ?_
  refine fr_aload_n d_L_law_722 rfl ?_
  refine fr_iload_n d_L_law_723 rfl ?_
  refine fr_iconst d_L_law_724 fr_i1 ?_
  refine fr_iadd d_L_law_725 ?_
  refine lx_sld hXs hb hB hL (5 * t + 1) d_L_law_726 (nI_add (5 * t) 1) (by omega) ?_
  refine lx_calli (cs2 := 41 + 7 * n') (sl2 := 1383 + 57 * n') fr_q0 d_L_law_727 cF mv_L_100 rfl rfl rfl (Or.inr ⟨rfl, rfl⟩) rfl rfl ⟨by show RF.frames + 1 ≤ 8; omega, by show 8 + (2 + 11) + RF.locals ≤ 264; omega⟩ ⟨by rw [q1]; omega, by rw [q2]; omega⟩ ⟨by show _ ≤ 600000; omega, by show _ ≤ 7302250; omega⟩ (Nat.le_of_ble_eq_true rfl) ?_
  refine fr_aload_n d_L_law_730 rfl ?_
  refine fr_aload_n d_L_law_731 rfl ?_
  refine fr_iload_n d_L_law_732 rfl ?_
  refine fr_iconst d_L_law_733 fr_i1 ?_
  refine fr_iadd d_L_law_734 ?_
  refine lx_sld hXs hb hB hL (5 * t + 1) d_L_law_735 (nI_add (5 * t) 1) (by omega) ?_
  refine lx_calli (cs2 := 41 + 7 * n') (sl2 := 1383 + 57 * n') fr_q6 d_L_law_736 cO mv_L_103 rfl rfl rfl (Or.inr ⟨rfl, rfl⟩) rfl rfl ⟨by show RO.frames + 1 ≤ 8; omega, by show 8 + (2 + 11) + RO.locals ≤ 264; omega⟩ ⟨by rw [q3]; rfl, by rw [q4]; rfl⟩ ⟨by show _ ≤ 600000; omega, by show _ ≤ 7302250; omega⟩ (Nat.le_of_ble_eq_true rfl) ?_
  refine fr_icmp_eq 744 d_L_law_739 rfl (fun _ => ih _ _ _ hI2) (fun h => absurd rfl h)
/-- what is owed of each pair of calls -/
def lx_ok (X : fr_X) (Inv Inv' : Nat → fr_I → fr_J → Prop) : Prop :=
  (∀ (n : Nat) (I : fr_I) (J : fr_J) (a1 : Int32), Inv n I J → lx_P X Inv' y_F_relay c_F_relay 2 (some .int) y_O_relay c_O_relay 2 (some .int) [.int a1] n I J) ∧
  (∀ (n : Nat) (I : fr_I) (J : fr_J) (a1 : Int32) (a2 : Int32) (a3 : Int32) (a4 : Int32), Inv n I J → lx_P X Inv' y_F_settings c_F_settings 5 (some .boolean) y_O_settings c_O_settings 5 (some .boolean) [.int a1, .int a2, .int a3, .int a4] n I J) ∧
  (∀ (n : Nat) (I : fr_I) (J : fr_J) (a1 : Int32) (a2 : Int32) (a3 : Int32) (a4 : Int32), Inv n I J → (a2 = 0 ∨ a2 = 1) → lx_P X Inv' y_F_options c_F_options 6 (some .boolean) y_O_options c_O_options 5 (some .boolean) [.int a1, .int a2, .int a3, .int a4] n I J) ∧
  (∀ (n : Nat) (I : fr_I) (J : fr_J) (a1 : Int32) (a2 : Int32), Inv n I J → lx_P X Inv' y_F_load c_F_load 3 (some .boolean) y_O_load c_O_load 3 (some .boolean) [.int a1, .int a2] n I J) ∧
  (∀ (n : Nat) (I : fr_I) (J : fr_J) (a1 : Int32) (a2 : Int32), Inv n I J → lx_P X Inv' y_F_fault c_F_fault 3 (some .boolean) y_O_fault c_O_fault 3 (some .boolean) [.int a1, .int a2] n I J) ∧
  (∀ (n : Nat) (I : fr_I) (J : fr_J) (a1 : Int32) (a2 : Int32), Inv n I J → (a2 = 0 ∨ a2 = 1) → lx_P X Inv' y_F_jam c_F_jam 3 (some .boolean) y_O_jam c_O_jam 3 (some .boolean) [.int a1, .int a2] n I J) ∧
  (∀ (n : Nat) (I : fr_I) (J : fr_J) (a1 : Int32) (a2 : Int32), Inv n I J → lx_P X Inv' y_F_line c_F_line 3 (some .boolean) y_O_line c_O_line 3 (some .boolean) [.int a1, .int a2] n I J) ∧
  (∀ (n : Nat) (I : fr_I) (J : fr_J) (a1 : Int32) (a2 : Int32), Inv n I J → (a2 = 0 ∨ a2 = 1) → lx_P X Inv' y_F_operate c_F_operate 3 (some .boolean) y_O_operate c_O_operate 3 (some .boolean) [.int a1, .int a2] n I J) ∧
  (∀ (n : Nat) (I : fr_I) (J : fr_J) (a1 : Int32), Inv n I J → lx_P X Inv' y_F_run c_F_run 3 (some .int) y_O_run c_O_run 3 (some .int) [.int a1] n I J) ∧
  (∀ (n : Nat) (I : fr_I) (J : fr_J), Inv n I J → lx_P X Inv' y_F_crash c_F_crash 2 (some .int) y_O_crash c_O_crash 4 (some .int) [] n I J) ∧
  (∀ (n : Nat) (I : fr_I) (J : fr_J), Inv n I J → lx_P X Inv' y_F_time c_F_time 1 (some .int) y_O_time c_O_time 1 (some .int) [] n I J) ∧
  (∀ (n : Nat) (I : fr_I) (J : fr_J) (a1 : Int32), Inv n I J → lx_P X Inv' y_F_current c_F_current 2 (some .int) y_O_current c_O_current 2 (some .int) [.int a1] n I J) ∧
  (∀ (n : Nat) (I : fr_I) (J : fr_J) (a1 : Int32), Inv n I J → lx_P X Inv' y_F_state c_F_state 3 (some .int) y_O_state c_O_state 4 (some .int) [.int a1] n I J) ∧
  (∀ (n : Nat) (I : fr_I) (J : fr_J) (a1 : Int32), Inv n I J → lx_PL X Inv' y_F_sum c_F_sum 2 (some .long) y_O_sum c_O_sum 2 (some .long) [.int a1] n I J) ∧
  (∀ (n : Nat) (I : fr_I) (J : fr_J) (a1 : Int32), Inv n I J → lx_P X Inv' y_F_used c_F_used 2 (some .int) y_O_used c_O_used 2 (some .int) [.int a1] n I J) ∧
  (∀ (n : Nat) (I : fr_I) (J : fr_J) (a1 : Int32), Inv n I J → lx_P X Inv' y_F_changes c_F_changes 2 (some .int) y_O_changes c_O_changes 2 (some .int) [.int a1] n I J) ∧
  (∀ (n : Nat) (I : fr_I) (J : fr_J) (a1 : Int32), Inv n I J → lx_P X Inv' y_F_known c_F_known 2 (some .int) y_O_known c_O_known 2 (some .int) [.int a1] n I J) ∧
  (∀ (n : Nat) (I : fr_I) (J : fr_J) (a1 : Int32), Inv n I J → lx_P X Inv' y_F_effective c_F_effective 2 (some .int) y_O_effective c_O_effective 2 (some .int) [.int a1] n I J) ∧
  (∀ (n : Nat) (I : fr_I) (J : fr_J), Inv n I J → lx_P X Inv' y_F_events c_F_events 1 (some .int) y_O_events c_O_events 1 (some .int) [] n I J) ∧
  (∀ (n : Nat) (I : fr_I) (J : fr_J) (a1 : Int32), Inv n I J → lx_P X Inv' y_F_event c_F_event 2 (some .int) y_O_event c_O_event 2 (some .int) [.int a1] n I J) ∧
  (∀ (n : Nat) (I : fr_I) (J : fr_J) (a1 : Int32), Inv n I J → lx_P X Inv' y_F_when c_F_when 2 (some .int) y_O_when c_O_when 2 (some .int) [.int a1] n I J)
set_option maxRecDepth 10000 in
theorem lx_body {X : fr_X} {E : fr_E} {nm : String} {Q : State → Prop} {Inv Inv' : Nat → fr_I → fr_J → Prop} (h8 : ∀ n I J, Inv' n I J → n ≤ 8) {b Ls : Nat} {xs : Nat → Int32} (hXs : va_X b Ls xs E.2.2.1 E.2.2.1.heap) (hb : b < E.2.2.1.heap.size) (hB : X.2.2.2 = E.2.2.1.heap.size) (hL : Ls < 2 ^ 31) {t : Nat} (ht : 5 * t + 5 ≤ Ls) (hmono : ∀ n I J, Inv n I J → Inv' n I J) (ok : lx_ok X Inv Inv')
    (ih : ∀ n I J, Inv' n I J → fr_Ev X E R_L nm c_L_law 4 (some .boolean) room_1 Q (41 + 7 * n) (1383 + 57 * n) (fr_Z0 X n) 744 [(3, .int (nI (5 * t))), (2, .ref (fr_ad X 20 0)), (1, .ref (fr_ad X 0 0)), (0, .ref b)] [] I J) (n : Nat) (I : fr_I) (J : fr_J) (hI : Inv n I J) : fr_Ev X E R_L nm c_L_law 4 (some .boolean) room_1 Q (41 + 7 * n) (1383 + 57 * n) (fr_Z0 X n) 26 [(3, .int (nI (5 * t))), (2, .ref (fr_ad X 20 0)), (1, .ref (fr_ad X 0 0)), (0, .ref b)] [] I J := by
  obtain ⟨k0, k1, k2, k3, k4, k5, k6, k7, k8, k9, k10, k11, k12, k13, k14, k15, k16, k17, k18, k19, k20⟩ := ok
  refine fr_aload_n d_L_law_26 rfl ?_
  refine fr_iload_n d_L_law_27 rfl ?_
  refine lx_sld hXs hb hB hL (5 * t) d_L_law_28 rfl (by omega) ?_
  refine fr_bipush d_L_law_29 fr_b31 ?_
  refine fr_iand d_L_law_31 ?_
  obtain ⟨j, hj, hje⟩ := pk_andE (xs (5 * t)) (m := 31) 5 (by decide)
  rw [hje]
  by_cases c0 : j = 0
  · subst c0
    refine lx_tIn (off := 100) 132 d_L_law_32 (by decide) (by decide) (by decide) rfl ?_
    exact lx_c0 h8 hXs hb hB hL ht k0 ih n I J hI
  by_cases c1 : j = 1
  · subst c1
    refine lx_tIn (off := 123) 155 d_L_law_32 (by decide) (by decide) (by decide) rfl ?_
    exact lx_c1 h8 hXs hb hB hL ht k1 ih n I J hI
  by_cases c2 : j = 2
  · subst c2
    refine lx_tIn (off := 176) 208 d_L_law_32 (by decide) (by decide) (by decide) rfl ?_
    exact lx_c2 h8 hXs hb hB hL ht k2 ih n I J hI
  by_cases c3 : j = 3
  · subst c3
    refine lx_tIn (off := 245) 277 d_L_law_32 (by decide) (by decide) (by decide) rfl ?_
    exact lx_c3 h8 hXs hb hB hL ht k3 ih n I J hI
  by_cases c4 : j = 4
  · subst c4
    refine lx_tIn (off := 278) 310 d_L_law_32 (by decide) (by decide) (by decide) rfl ?_
    exact lx_c4 h8 hXs hb hB hL ht k4 ih n I J hI
  by_cases c5 : j = 5
  · subst c5
    refine lx_tIn (off := 311) 343 d_L_law_32 (by decide) (by decide) (by decide) rfl ?_
    exact lx_c5 h8 hXs hb hB hL ht k5 ih n I J hI
  by_cases c6 : j = 6
  · subst c6
    refine lx_tIn (off := 360) 392 d_L_law_32 (by decide) (by decide) (by decide) rfl ?_
    exact lx_c6 h8 hXs hb hB hL ht k6 ih n I J hI
  by_cases c7 : j = 7
  · subst c7
    refine lx_tIn (off := 393) 425 d_L_law_32 (by decide) (by decide) (by decide) rfl ?_
    exact lx_c7 h8 hXs hb hB hL ht k7 ih n I J hI
  by_cases c8 : j = 8
  · subst c8
    refine lx_tIn (off := 442) 474 d_L_law_32 (by decide) (by decide) (by decide) rfl ?_
    exact lx_c8 h8 hXs hb hB hL ht k8 ih n I J hI
  by_cases c9 : j = 9
  · subst c9
    refine lx_tIn (off := 465) 497 d_L_law_32 (by decide) (by decide) (by decide) rfl ?_
    exact lx_c9 h8 hXs hb hB hL ht k9 ih n I J hI
  by_cases c10 : j = 10
  · subst c10
    refine lx_tIn (off := 478) 510 d_L_law_32 (by decide) (by decide) (by decide) rfl ?_
    exact lx_c10 h8 hXs hb hB hL ht k10 ih n I J hI
  by_cases c11 : j = 11
  · subst c11
    refine lx_tIn (off := 491) 523 d_L_law_32 (by decide) (by decide) (by decide) rfl ?_
    exact lx_c11 h8 hXs hb hB hL ht k11 ih n I J hI
  by_cases c12 : j = 12
  · subst c12
    refine lx_tIn (off := 514) 546 d_L_law_32 (by decide) (by decide) (by decide) rfl ?_
    exact lx_c12 h8 hXs hb hB hL ht k12 ih n I J hI
  by_cases c13 : j = 13
  · subst c13
    refine lx_tIn (off := 537) 569 d_L_law_32 (by decide) (by decide) (by decide) rfl ?_
    exact lx_c13 h8 hXs hb hB hL ht k13 ih n I J hI
  by_cases c14 : j = 14
  · subst c14
    refine lx_tIn (off := 561) 593 d_L_law_32 (by decide) (by decide) (by decide) rfl ?_
    exact lx_c14 h8 hXs hb hB hL ht k14 ih n I J hI
  by_cases c15 : j = 15
  · subst c15
    refine lx_tIn (off := 584) 616 d_L_law_32 (by decide) (by decide) (by decide) rfl ?_
    exact lx_c15 h8 hXs hb hB hL ht k15 ih n I J hI
  by_cases c16 : j = 16
  · subst c16
    refine lx_tIn (off := 607) 639 d_L_law_32 (by decide) (by decide) (by decide) rfl ?_
    exact lx_c16 h8 hXs hb hB hL ht k16 ih n I J hI
  by_cases c17 : j = 17
  · subst c17
    refine lx_tIn (off := 630) 662 d_L_law_32 (by decide) (by decide) (by decide) rfl ?_
    exact lx_c17 h8 hXs hb hB hL ht k17 ih n I J hI
  by_cases c18 : j = 18
  · subst c18
    refine lx_tIn (off := 653) 685 d_L_law_32 (by decide) (by decide) (by decide) rfl ?_
    exact lx_c18 h8 hXs hb hB hL ht k18 ih n I J hI
  by_cases c19 : j = 19
  · subst c19
    refine lx_tIn (off := 666) 698 d_L_law_32 (by decide) (by decide) (by decide) rfl ?_
    exact lx_c19 h8 hXs hb hB hL ht k19 ih n I J hI
  by_cases c20 : j = 20
  · subst c20
    refine lx_tIn (off := 689) 721 d_L_law_32 (by decide) (by decide) (by decide) rfl ?_
    exact lx_c20 h8 hXs hb hB hL ht k20 ih n I J hI
  refine lx_tOut 744 d_L_law_32 (Or.inr ?_) rfl (ih n I J (hmono _ _ _ hI))
  rw [nI_toInt (by omega)]
  omega
