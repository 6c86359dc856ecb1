set_option maxRecDepth 100000 in
set_option maxHeartbeats 400000 in
theorem lc_0 {N a k : Nat} {xs : Nat → Int32} {I : Nat → Nat → Int32} {S : Sg} (ha : a + 6 ≤ N) (hN : N ≤ 3072) (hk : k = 4 ∨ k = 10) (hr : RepC I S) (hm : RepM I S) (hnext : ∀ I2 S2 k2, RepC I2 S2 → RepM I2 S2 → (k2 = 4 ∨ k2 = 10) → G (mLw N xs) room_1 ZL 0 1091 [.ref 1000, .ref 0, .ref 52, .int (nI a)] [] 68 (I2, RR k2) 68 4397) : G (mLw N xs) room_1 ZL 0 164 [.ref 1000, .ref 0, .ref 52, .int (nI a)] [] 68 (I, RR k) 68 4397 := by
  refine g_aload_n (q := 165) dL_law_164 rfl rfl ?_
  refine g_aload_n (q := 166) dL_law_165 rfl rfl ?_
  refine g_iload_n (q := 167) dL_law_166 rfl rfl ?_
  refine g_iconst (q := 168) (v := nI 1) dL_law_167 rfl (by decide) ?_
  refine g_iadd (q := 169) dL_law_168 rfl ?_
  refine g_sldn (q := 170) rfl (by repeat' first | apply nI_a | apply nI_m | exact rfl) (by omega) hN dL_law_169 rfl ?_
  refine g_aload_n (q := 171) dL_law_170 rfl rfl ?_
  refine g_iload_n (q := 172) dL_law_171 rfl rfl ?_
  refine g_iconst (q := 173) (v := nI 2) dL_law_172 rfl (by decide) ?_
  refine g_iadd (q := 174) dL_law_173 rfl ?_
  refine g_sldn (q := 175) rfl (by repeat' first | apply nI_a | apply nI_m | exact rfl) (by omega) hN dL_law_174 rfl ?_
  refine g_aload_n (q := 176) dL_law_175 rfl rfl ?_
  refine g_iload_n (q := 177) dL_law_176 rfl rfl ?_
  refine g_iconst (q := 178) (v := nI 3) dL_law_177 rfl (by decide) ?_
  refine g_iadd (q := 179) dL_law_178 rfl ?_
  refine g_sldn (q := 180) rfl (by repeat' first | apply nI_a | apply nI_m | exact rfl) (by omega) hN dL_law_179 rfl ?_
  refine k_L_13 (q := 183) (d := 160) (mc := 0) (ms := 0) (n1 := 68) rfl ⟨(Nat.le_of_ble_eq_true rfl), (Nat.le_of_ble_eq_true rfl)⟩ ⟨(Nat.le_of_ble_eq_true rfl), (Nat.le_of_ble_eq_true rfl)⟩ (Or.inl rfl) (Nat.le_of_ble_eq_true rfl) rfl dL_law_180 rfl (c_X6_row hk hr (fun I2 k2 r2 f2 hk2 => ?_))
  refine g_aload_n (q := 184) dL_law_183 rfl rfl ?_
  refine g_aload_n (q := 185) dL_law_184 rfl rfl ?_
  refine g_iload_n (q := 186) dL_law_185 rfl rfl ?_
  refine g_iconst (q := 187) (v := nI 1) dL_law_186 rfl (by decide) ?_
  refine g_iadd (q := 188) dL_law_187 rfl ?_
  refine g_sldn (q := 189) rfl (by repeat' first | apply nI_a | apply nI_m | exact rfl) (by omega) hN dL_law_188 rfl ?_
  refine g_aload_n (q := 190) dL_law_189 rfl rfl ?_
  refine g_iload_n (q := 191) dL_law_190 rfl rfl ?_
  refine g_iconst (q := 192) (v := nI 2) dL_law_191 rfl (by decide) ?_
  refine g_iadd (q := 193) dL_law_192 rfl ?_
  refine g_sldn (q := 194) rfl (by repeat' first | apply nI_a | apply nI_m | exact rfl) (by omega) hN dL_law_193 rfl ?_
  refine g_aload_n (q := 195) dL_law_194 rfl rfl ?_
  refine g_iload_n (q := 196) dL_law_195 rfl rfl ?_
  refine g_iconst (q := 197) (v := nI 3) dL_law_196 rfl (by decide) ?_
  refine g_iadd (q := 198) dL_law_197 rfl ?_
  refine g_sldn (q := 199) rfl (by repeat' first | apply nI_a | apply nI_m | exact rfl) (by omega) hN dL_law_198 rfl ?_
  refine k_L_17 (q := 202) (d := 160) (mc := 0) (ms := 0) (n1 := 68) rfl ⟨(Nat.le_of_ble_eq_true rfl), (Nat.le_of_ble_eq_true rfl)⟩ ⟨(Nat.le_of_ble_eq_true rfl), (Nat.le_of_ble_eq_true rfl)⟩ (Or.inl rfl) (Nat.le_of_ble_eq_true rfl) rfl dL_law_199 rfl (c_X7_row (hm.frC f2) (fun I3 r3 f3 => ?_))
  refine g_icmp_eq (tgt := 1091) (q := 205) dL_law_202 (by decide) rfl (fun _ => ?_) (fun c202 => absurd rfl c202)
  exact hnext I3 _ k2 (r2.frM f3) r3 hk2
set_option maxRecDepth 100000 in
set_option maxHeartbeats 400000 in
theorem lc_1 {N a k : Nat} {xs : Nat → Int32} {I : Nat → Nat → Int32} {S : Sg} (ha : a + 6 ≤ N) (hN : N ≤ 3072) (hk : k = 4 ∨ k = 10) (hr : RepC I S) (hm : RepM I S) (hnext : ∀ I2 S2 k2, RepC I2 S2 → RepM I2 S2 → (k2 = 4 ∨ k2 = 10) → G (mLw N xs) room_1 ZL 0 1091 [.ref 1000, .ref 0, .ref 52, .int (nI a)] [] 68 (I2, RR k2) 68 4397) : G (mLw N xs) room_1 ZL 0 207 [.ref 1000, .ref 0, .ref 52, .int (nI a)] [] 68 (I, RR k) 68 4397 := by
  refine g_aload_n (q := 208) dL_law_207 rfl rfl ?_
  refine g_aload_n (q := 209) dL_law_208 rfl rfl ?_
  refine g_iload_n (q := 210) dL_law_209 rfl rfl ?_
  refine g_iconst (q := 211) (v := nI 1) dL_law_210 rfl (by decide) ?_
  refine g_iadd (q := 212) dL_law_211 rfl ?_
  refine g_sldn (q := 213) rfl (by repeat' first | apply nI_a | apply nI_m | exact rfl) (by omega) hN dL_law_212 rfl ?_
  refine g_aload_n (q := 214) dL_law_213 rfl rfl ?_
  refine g_iload_n (q := 215) dL_law_214 rfl rfl ?_
  refine g_iconst (q := 216) (v := nI 2) dL_law_215 rfl (by decide) ?_
  refine g_iadd (q := 217) dL_law_216 rfl ?_
  refine g_sldn (q := 218) rfl (by repeat' first | apply nI_a | apply nI_m | exact rfl) (by omega) hN dL_law_217 rfl ?_
  refine g_aload_n (q := 219) dL_law_218 rfl rfl ?_
  refine g_iload_n (q := 220) dL_law_219 rfl rfl ?_
  refine g_iconst (q := 221) (v := nI 3) dL_law_220 rfl (by decide) ?_
  refine g_iadd (q := 222) dL_law_221 rfl ?_
  refine g_sldn (q := 223) rfl (by repeat' first | apply nI_a | apply nI_m | exact rfl) (by omega) hN dL_law_222 rfl ?_
  refine k_L_18 (q := 226) (d := 160) (mc := 0) (ms := 0) (n1 := 68) rfl ⟨(Nat.le_of_ble_eq_true rfl), (Nat.le_of_ble_eq_true rfl)⟩ ⟨(Nat.le_of_ble_eq_true rfl), (Nat.le_of_ble_eq_true rfl)⟩ (Or.inl rfl) (Nat.le_of_ble_eq_true rfl) rfl dL_law_223 rfl (c_X6_set hk hr (fun I2 k2 r2 f2 hk2 => ?_))
  refine g_aload_n (q := 227) dL_law_226 rfl rfl ?_
  refine g_aload_n (q := 228) dL_law_227 rfl rfl ?_
  refine g_iload_n (q := 229) dL_law_228 rfl rfl ?_
  refine g_iconst (q := 230) (v := nI 1) dL_law_229 rfl (by decide) ?_
  refine g_iadd (q := 231) dL_law_230 rfl ?_
  refine g_sldn (q := 232) rfl (by repeat' first | apply nI_a | apply nI_m | exact rfl) (by omega) hN dL_law_231 rfl ?_
  refine g_aload_n (q := 233) dL_law_232 rfl rfl ?_
  refine g_iload_n (q := 234) dL_law_233 rfl rfl ?_
  refine g_iconst (q := 235) (v := nI 2) dL_law_234 rfl (by decide) ?_
  refine g_iadd (q := 236) dL_law_235 rfl ?_
  refine g_sldn (q := 237) rfl (by repeat' first | apply nI_a | apply nI_m | exact rfl) (by omega) hN dL_law_236 rfl ?_
  refine g_aload_n (q := 238) dL_law_237 rfl rfl ?_
  refine g_iload_n (q := 239) dL_law_238 rfl rfl ?_
  refine g_iconst (q := 240) (v := nI 3) dL_law_239 rfl (by decide) ?_
  refine g_iadd (q := 241) dL_law_240 rfl ?_
  refine g_sldn (q := 242) rfl (by repeat' first | apply nI_a | apply nI_m | exact rfl) (by omega) hN dL_law_241 rfl ?_
  refine k_L_21 (q := 245) (d := 160) (mc := 0) (ms := 0) (n1 := 68) rfl ⟨(Nat.le_of_ble_eq_true rfl), (Nat.le_of_ble_eq_true rfl)⟩ ⟨(Nat.le_of_ble_eq_true rfl), (Nat.le_of_ble_eq_true rfl)⟩ (Or.inl rfl) (Nat.le_of_ble_eq_true rfl) rfl dL_law_242 rfl (c_X7_set (hm.frC f2) (fun I3 r3 f3 => ?_))
  refine g_icmp_eq (tgt := 1091) (q := 248) dL_law_245 (by decide) rfl (fun _ => ?_) (fun c245 => absurd rfl c245)
  exact hnext I3 _ k2 (r2.frM f3) r3 hk2
set_option maxRecDepth 100000 in
set_option maxHeartbeats 400000 in
theorem lc_2 {N a k : Nat} {xs : Nat → Int32} {I : Nat → Nat → Int32} {S : Sg} (ha : a + 6 ≤ N) (hN : N ≤ 3072) (hk : k = 4 ∨ k = 10) (hr : RepC I S) (hm : RepM I S) (hnext : ∀ I2 S2 k2, RepC I2 S2 → RepM I2 S2 → (k2 = 4 ∨ k2 = 10) → G (mLw N xs) room_1 ZL 0 1091 [.ref 1000, .ref 0, .ref 52, .int (nI a)] [] 68 (I2, RR k2) 68 4397) : G (mLw N xs) room_1 ZL 0 250 [.ref 1000, .ref 0, .ref 52, .int (nI a)] [] 68 (I, RR k) 68 4397 := by
  refine g_aload_n (q := 251) dL_law_250 rfl rfl ?_
  refine g_aload_n (q := 252) dL_law_251 rfl rfl ?_
  refine g_iload_n (q := 253) dL_law_252 rfl rfl ?_
  refine g_iconst (q := 254) (v := nI 1) dL_law_253 rfl (by decide) ?_
  refine g_iadd (q := 255) dL_law_254 rfl ?_
  refine g_sldn (q := 256) rfl (by repeat' first | apply nI_a | apply nI_m | exact rfl) (by omega) hN dL_law_255 rfl ?_
  refine g_aload_n (q := 257) dL_law_256 rfl rfl ?_
  refine g_iload_n (q := 258) dL_law_257 rfl rfl ?_
  refine g_iconst (q := 259) (v := nI 2) dL_law_258 rfl (by decide) ?_
  refine g_iadd (q := 260) dL_law_259 rfl ?_
  refine g_sldn (q := 261) rfl (by repeat' first | apply nI_a | apply nI_m | exact rfl) (by omega) hN dL_law_260 rfl ?_
  refine g_aload_n (q := 262) dL_law_261 rfl rfl ?_
  refine g_iload_n (q := 263) dL_law_262 rfl rfl ?_
  refine g_iconst (q := 264) (v := nI 3) dL_law_263 rfl (by decide) ?_
  refine g_iadd (q := 265) dL_law_264 rfl ?_
  refine g_sldn (q := 266) rfl (by repeat' first | apply nI_a | apply nI_m | exact rfl) (by omega) hN dL_law_265 rfl ?_
  refine g_aload_n (q := 267) dL_law_266 rfl rfl ?_
  refine g_iload_n (q := 268) dL_law_267 rfl rfl ?_
  refine g_iconst (q := 269) (v := nI 4) dL_law_268 rfl (by decide) ?_
  refine g_iadd (q := 270) dL_law_269 rfl ?_
  refine g_sldn (q := 271) rfl (by repeat' first | apply nI_a | apply nI_m | exact rfl) (by omega) hN dL_law_270 rfl ?_
  refine g_aload_n (q := 272) dL_law_271 rfl rfl ?_
  refine g_iload_n (q := 273) dL_law_272 rfl rfl ?_
  refine g_iconst (q := 274) (v := nI 5) dL_law_273 rfl (by decide) ?_
  refine g_iadd (q := 275) dL_law_274 rfl ?_
  refine g_sldn (q := 276) rfl (by repeat' first | apply nI_a | apply nI_m | exact rfl) (by omega) hN dL_law_275 rfl ?_
  refine k_L_22 (q := 279) (d := 160) (mc := 0) (ms := 0) (n1 := 68) rfl ⟨(Nat.le_of_ble_eq_true rfl), (Nat.le_of_ble_eq_true rfl)⟩ ⟨(Nat.le_of_ble_eq_true rfl), (Nat.le_of_ble_eq_true rfl)⟩ (Or.inl rfl) (Nat.le_of_ble_eq_true rfl) rfl dL_law_276 rfl (c_X6_copy hk hr (fun I2 k2 r2 f2 hk2 => ?_))
  refine g_aload_n (q := 280) dL_law_279 rfl rfl ?_
  refine g_aload_n (q := 281) dL_law_280 rfl rfl ?_
  refine g_iload_n (q := 282) dL_law_281 rfl rfl ?_
  refine g_iconst (q := 283) (v := nI 1) dL_law_282 rfl (by decide) ?_
  refine g_iadd (q := 284) dL_law_283 rfl ?_
  refine g_sldn (q := 285) rfl (by repeat' first | apply nI_a | apply nI_m | exact rfl) (by omega) hN dL_law_284 rfl ?_
  refine g_aload_n (q := 286) dL_law_285 rfl rfl ?_
  refine g_iload_n (q := 287) dL_law_286 rfl rfl ?_
  refine g_iconst (q := 288) (v := nI 2) dL_law_287 rfl (by decide) ?_
  refine g_iadd (q := 289) dL_law_288 rfl ?_
  refine g_sldn (q := 290) rfl (by repeat' first | apply nI_a | apply nI_m | exact rfl) (by omega) hN dL_law_289 rfl ?_
  refine g_aload_n (q := 291) dL_law_290 rfl rfl ?_
  refine g_iload_n (q := 292) dL_law_291 rfl rfl ?_
  refine g_iconst (q := 293) (v := nI 3) dL_law_292 rfl (by decide) ?_
  refine g_iadd (q := 294) dL_law_293 rfl ?_
  refine g_sldn (q := 295) rfl (by repeat' first | apply nI_a | apply nI_m | exact rfl) (by omega) hN dL_law_294 rfl ?_
  refine g_aload_n (q := 296) dL_law_295 rfl rfl ?_
  refine g_iload_n (q := 297) dL_law_296 rfl rfl ?_
  refine g_iconst (q := 298) (v := nI 4) dL_law_297 rfl (by decide) ?_
  refine g_iadd (q := 299) dL_law_298 rfl ?_
  refine g_sldn (q := 300) rfl (by repeat' first | apply nI_a | apply nI_m | exact rfl) (by omega) hN dL_law_299 rfl ?_
  refine g_aload_n (q := 301) dL_law_300 rfl rfl ?_
  refine g_iload_n (q := 302) dL_law_301 rfl rfl ?_
  refine g_iconst (q := 303) (v := nI 5) dL_law_302 rfl (by decide) ?_
  refine g_iadd (q := 304) dL_law_303 rfl ?_
  refine g_sldn (q := 305) rfl (by repeat' first | apply nI_a | apply nI_m | exact rfl) (by omega) hN dL_law_304 rfl ?_
  refine k_L_26 (q := 308) (d := 160) (mc := 0) (ms := 0) (n1 := 68) rfl ⟨(Nat.le_of_ble_eq_true rfl), (Nat.le_of_ble_eq_true rfl)⟩ ⟨(Nat.le_of_ble_eq_true rfl), (Nat.le_of_ble_eq_true rfl)⟩ (Or.inl rfl) (Nat.le_of_ble_eq_true rfl) rfl dL_law_305 rfl (c_X7_copy (hm.frC f2) (fun I3 r3 f3 => ?_))
  refine g_icmp_eq (tgt := 1091) (q := 311) dL_law_308 (by decide) rfl (fun _ => ?_) (fun c308 => absurd rfl c308)
  exact hnext I3 _ k2 (r2.frM f3) r3 hk2
set_option maxRecDepth 100000 in
set_option maxHeartbeats 400000 in
theorem lc_3 {N a k : Nat} {xs : Nat → Int32} {I : Nat → Nat → Int32} {S : Sg} (ha : a + 6 ≤ N) (hN : N ≤ 3072) (hk : k = 4 ∨ k = 10) (hr : RepC I S) (hm : RepM I S) (hnext : ∀ I2 S2 k2, RepC I2 S2 → RepM I2 S2 → (k2 = 4 ∨ k2 = 10) → G (mLw N xs) room_1 ZL 0 1091 [.ref 1000, .ref 0, .ref 52, .int (nI a)] [] 68 (I2, RR k2) 68 4397) : G (mLw N xs) room_1 ZL 0 313 [.ref 1000, .ref 0, .ref 52, .int (nI a)] [] 68 (I, RR k) 68 4397 := by
  refine g_aload_n (q := 314) dL_law_313 rfl rfl ?_
  refine g_aload_n (q := 315) dL_law_314 rfl rfl ?_
  refine g_iload_n (q := 316) dL_law_315 rfl rfl ?_
  refine g_iconst (q := 317) (v := nI 1) dL_law_316 rfl (by decide) ?_
  refine g_iadd (q := 318) dL_law_317 rfl ?_
  refine g_sldn (q := 319) rfl (by repeat' first | apply nI_a | apply nI_m | exact rfl) (by omega) hN dL_law_318 rfl ?_
  refine k_L_27 (q := 322) (d := 160) (mc := 0) (ms := 0) (n1 := 68) rfl ⟨(Nat.le_of_ble_eq_true rfl), (Nat.le_of_ble_eq_true rfl)⟩ ⟨(Nat.le_of_ble_eq_true rfl), (Nat.le_of_ble_eq_true rfl)⟩ (Or.inl rfl) (Nat.le_of_ble_eq_true rfl) rfl dL_law_319 rfl (c_X6_drop hk hr (fun I2 k2 r2 f2 hk2 => ?_))
  refine g_aload_n (q := 323) dL_law_322 rfl rfl ?_
  refine g_aload_n (q := 324) dL_law_323 rfl rfl ?_
  refine g_iload_n (q := 325) dL_law_324 rfl rfl ?_
  refine g_iconst (q := 326) (v := nI 1) dL_law_325 rfl (by decide) ?_
  refine g_iadd (q := 327) dL_law_326 rfl ?_
  refine g_sldn (q := 328) rfl (by repeat' first | apply nI_a | apply nI_m | exact rfl) (by omega) hN dL_law_327 rfl ?_
  refine k_L_31 (q := 331) (d := 160) (mc := 0) (ms := 0) (n1 := 68) rfl ⟨(Nat.le_of_ble_eq_true rfl), (Nat.le_of_ble_eq_true rfl)⟩ ⟨(Nat.le_of_ble_eq_true rfl), (Nat.le_of_ble_eq_true rfl)⟩ (Or.inl rfl) (Nat.le_of_ble_eq_true rfl) rfl dL_law_328 rfl (c_X7_drop (hm.frC f2) (fun I3 r3 f3 => ?_))
  refine g_icmp_eq (tgt := 1091) (q := 334) dL_law_331 (by decide) rfl (fun _ => ?_) (fun c331 => absurd rfl c331)
  exact hnext I3 _ k2 (r2.frM f3) r3 hk2
set_option maxRecDepth 100000 in
set_option maxHeartbeats 400000 in
theorem lc_4 {N a k : Nat} {xs : Nat → Int32} {I : Nat → Nat → Int32} {S : Sg} (ha : a + 6 ≤ N) (hN : N ≤ 3072) (hk : k = 4 ∨ k = 10) (hr : RepC I S) (hm : RepM I S) (hnext : ∀ I2 S2 k2, RepC I2 S2 → RepM I2 S2 → (k2 = 4 ∨ k2 = 10) → G (mLw N xs) room_1 ZL 0 1091 [.ref 1000, .ref 0, .ref 52, .int (nI a)] [] 68 (I2, RR k2) 68 4397) : G (mLw N xs) room_1 ZL 0 336 [.ref 1000, .ref 0, .ref 52, .int (nI a)] [] 68 (I, RR k) 68 4397 := by
  refine g_aload_n (q := 337) dL_law_336 rfl rfl ?_
  refine g_aload_n (q := 338) dL_law_337 rfl rfl ?_
  refine g_iload_n (q := 339) dL_law_338 rfl rfl ?_
  refine g_iconst (q := 340) (v := nI 1) dL_law_339 rfl (by decide) ?_
  refine g_iadd (q := 341) dL_law_340 rfl ?_
  refine g_sldn (q := 342) rfl (by repeat' first | apply nI_a | apply nI_m | exact rfl) (by omega) hN dL_law_341 rfl ?_
  refine k_L_32 (q := 345) (d := 160) (mc := 0) (ms := 0) (n1 := 68) rfl ⟨(Nat.le_of_ble_eq_true rfl), (Nat.le_of_ble_eq_true rfl)⟩ ⟨(Nat.le_of_ble_eq_true rfl), (Nat.le_of_ble_eq_true rfl)⟩ (Or.inl rfl) (Nat.le_of_ble_eq_true rfl) rfl dL_law_342 rfl (c_X6_feed hk hr (fun I2 k2 r2 f2 hk2 => ?_))
  refine g_aload_n (q := 346) dL_law_345 rfl rfl ?_
  refine g_aload_n (q := 347) dL_law_346 rfl rfl ?_
  refine g_iload_n (q := 348) dL_law_347 rfl rfl ?_
  refine g_iconst (q := 349) (v := nI 1) dL_law_348 rfl (by decide) ?_
  refine g_iadd (q := 350) dL_law_349 rfl ?_
  refine g_sldn (q := 351) rfl (by repeat' first | apply nI_a | apply nI_m | exact rfl) (by omega) hN dL_law_350 rfl ?_
  refine k_L_35 (q := 354) (d := 160) (mc := 0) (ms := 0) (n1 := 68) rfl ⟨(Nat.le_of_ble_eq_true rfl), (Nat.le_of_ble_eq_true rfl)⟩ ⟨(Nat.le_of_ble_eq_true rfl), (Nat.le_of_ble_eq_true rfl)⟩ (Or.inl rfl) (Nat.le_of_ble_eq_true rfl) rfl dL_law_351 rfl (c_X7_feed (hm.frC f2) (fun I3 r3 f3 => ?_))
  refine g_icmp_eq (tgt := 1091) (q := 357) dL_law_354 (by decide) rfl (fun _ => ?_) (fun c354 => absurd rfl c354)
  exact hnext I3 _ k2 (r2.frM f3) r3 hk2
set_option maxRecDepth 100000 in
set_option maxHeartbeats 400000 in
theorem lc_5 {N a k : Nat} {xs : Nat → Int32} {I : Nat → Nat → Int32} {S : Sg} (ha : a + 6 ≤ N) (hN : N ≤ 3072) (hk : k = 4 ∨ k = 10) (hr : RepC I S) (hm : RepM I S) (hnext : ∀ I2 S2 k2, RepC I2 S2 → RepM I2 S2 → (k2 = 4 ∨ k2 = 10) → G (mLw N xs) room_1 ZL 0 1091 [.ref 1000, .ref 0, .ref 52, .int (nI a)] [] 68 (I2, RR k2) 68 4397) : G (mLw N xs) room_1 ZL 0 359 [.ref 1000, .ref 0, .ref 52, .int (nI a)] [] 68 (I, RR k) 68 4397 := by
  refine g_aload_n (q := 360) dL_law_359 rfl rfl ?_
  refine k_L_36 (q := 363) (d := 160) (mc := 0) (ms := 0) (n1 := 68) rfl ⟨(Nat.le_of_ble_eq_true rfl), (Nat.le_of_ble_eq_true rfl)⟩ ⟨(Nat.le_of_ble_eq_true rfl), (Nat.le_of_ble_eq_true rfl)⟩ (Or.inl rfl) (Nat.le_of_ble_eq_true rfl) rfl dL_law_360 rfl (c_X6_weave hk hr (fun I2 k2 r2 f2 hk2 => ?_))
  refine g_aload_n (q := 364) dL_law_363 rfl rfl ?_
  refine k_L_40 (q := 367) (d := 160) (mc := 0) (ms := 0) (n1 := 68) rfl ⟨(Nat.le_of_ble_eq_true rfl), (Nat.le_of_ble_eq_true rfl)⟩ ⟨(Nat.le_of_ble_eq_true rfl), (Nat.le_of_ble_eq_true rfl)⟩ (Or.inl rfl) (Nat.le_of_ble_eq_true rfl) rfl dL_law_364 rfl (c_X7_weave (hm.frC f2) (fun I3 r3 f3 => ?_))
  refine g_icmp_eq (tgt := 1091) (q := 370) dL_law_367 (by decide) rfl (fun _ => ?_) (fun c367 => absurd rfl c367)
  exact hnext I3 _ k2 (r2.frM f3) r3 hk2
set_option maxRecDepth 100000 in
set_option maxHeartbeats 400000 in
theorem lc_6 {N a k : Nat} {xs : Nat → Int32} {I : Nat → Nat → Int32} {S : Sg} (ha : a + 6 ≤ N) (hN : N ≤ 3072) (hk : k = 4 ∨ k = 10) (hr : RepC I S) (hm : RepM I S) (hnext : ∀ I2 S2 k2, RepC I2 S2 → RepM I2 S2 → (k2 = 4 ∨ k2 = 10) → G (mLw N xs) room_1 ZL 0 1091 [.ref 1000, .ref 0, .ref 52, .int (nI a)] [] 68 (I2, RR k2) 68 4397) : G (mLw N xs) room_1 ZL 0 372 [.ref 1000, .ref 0, .ref 52, .int (nI a)] [] 68 (I, RR k) 68 4397 := by
  refine g_aload_n (q := 373) dL_law_372 rfl rfl ?_
  refine k_L_41 (q := 376) (d := 160) (mc := 0) (ms := 0) (n1 := 68) rfl ⟨(Nat.le_of_ble_eq_true rfl), (Nat.le_of_ble_eq_true rfl)⟩ ⟨(Nat.le_of_ble_eq_true rfl), (Nat.le_of_ble_eq_true rfl)⟩ (Or.inl rfl) (Nat.le_of_ble_eq_true rfl) rfl dL_law_373 rfl (c_X6_fault hk hr ?_)
  refine g_aload_n (q := 377) dL_law_376 rfl rfl ?_
  refine k_L_44 (q := 380) (d := 160) (mc := 0) (ms := 0) (n1 := 68) rfl ⟨(Nat.le_of_ble_eq_true rfl), (Nat.le_of_ble_eq_true rfl)⟩ ⟨(Nat.le_of_ble_eq_true rfl), (Nat.le_of_ble_eq_true rfl)⟩ (Or.inl rfl) (Nat.le_of_ble_eq_true rfl) rfl dL_law_377 rfl (c_X7_fault hm ?_)
  refine g_icmp_eq (tgt := 1091) (q := 383) dL_law_380 (by decide) rfl (fun _ => ?_) (fun c380 => absurd rfl c380)
  exact hnext I S k hr hm hk
set_option maxRecDepth 100000 in
set_option maxHeartbeats 400000 in
theorem lc_7 {N a k : Nat} {xs : Nat → Int32} {I : Nat → Nat → Int32} {S : Sg} (ha : a + 6 ≤ N) (hN : N ≤ 3072) (hk : k = 4 ∨ k = 10) (hr : RepC I S) (hm : RepM I S) (hnext : ∀ I2 S2 k2, RepC I2 S2 → RepM I2 S2 → (k2 = 4 ∨ k2 = 10) → G (mLw N xs) room_1 ZL 0 1091 [.ref 1000, .ref 0, .ref 52, .int (nI a)] [] 68 (I2, RR k2) 68 4397) : G (mLw N xs) room_1 ZL 0 385 [.ref 1000, .ref 0, .ref 52, .int (nI a)] [] 68 (I, RR k) 68 4397 := by
  refine g_aload_n (q := 386) dL_law_385 rfl rfl ?_
  refine g_aload_n (q := 387) dL_law_386 rfl rfl ?_
  refine g_iload_n (q := 388) dL_law_387 rfl rfl ?_
  refine g_iconst (q := 389) (v := nI 1) dL_law_388 rfl (by decide) ?_
  refine g_iadd (q := 390) dL_law_389 rfl ?_
  refine g_sldn (q := 391) rfl (by repeat' first | apply nI_a | apply nI_m | exact rfl) (by omega) hN dL_law_390 rfl ?_
  refine g_aload_n (q := 392) dL_law_391 rfl rfl ?_
  refine g_iload_n (q := 393) dL_law_392 rfl rfl ?_
  refine g_iconst (q := 394) (v := nI 2) dL_law_393 rfl (by decide) ?_
  refine g_iadd (q := 395) dL_law_394 rfl ?_
  refine g_sldn (q := 396) rfl (by repeat' first | apply nI_a | apply nI_m | exact rfl) (by omega) hN dL_law_395 rfl ?_
  refine g_aload_n (q := 397) dL_law_396 rfl rfl ?_
  refine g_iload_n (q := 398) dL_law_397 rfl rfl ?_
  refine g_iconst (q := 399) (v := nI 3) dL_law_398 rfl (by decide) ?_
  refine g_iadd (q := 400) dL_law_399 rfl ?_
  refine g_sldn (q := 401) rfl (by repeat' first | apply nI_a | apply nI_m | exact rfl) (by omega) hN dL_law_400 rfl ?_
  refine k_L_45 (q := 404) (d := 160) (mc := 0) (ms := 0) (n1 := 68) rfl ⟨(Nat.le_of_ble_eq_true rfl), (Nat.le_of_ble_eq_true rfl)⟩ ⟨(Nat.le_of_ble_eq_true rfl), (Nat.le_of_ble_eq_true rfl)⟩ (Or.inl rfl) (Nat.le_of_ble_eq_true rfl) rfl dL_law_401 rfl (c_X6_change hk hr (fun I2 k2 r2 f2 hk2 => ?_))
  refine g_aload_n (q := 405) dL_law_404 rfl rfl ?_
  refine g_aload_n (q := 406) dL_law_405 rfl rfl ?_
  refine g_iload_n (q := 407) dL_law_406 rfl rfl ?_
  refine g_iconst (q := 408) (v := nI 1) dL_law_407 rfl (by decide) ?_
  refine g_iadd (q := 409) dL_law_408 rfl ?_
  refine g_sldn (q := 410) rfl (by repeat' first | apply nI_a | apply nI_m | exact rfl) (by omega) hN dL_law_409 rfl ?_
  refine g_aload_n (q := 411) dL_law_410 rfl rfl ?_
  refine g_iload_n (q := 412) dL_law_411 rfl rfl ?_
  refine g_iconst (q := 413) (v := nI 2) dL_law_412 rfl (by decide) ?_
  refine g_iadd (q := 414) dL_law_413 rfl ?_
  refine g_sldn (q := 415) rfl (by repeat' first | apply nI_a | apply nI_m | exact rfl) (by omega) hN dL_law_414 rfl ?_
  refine g_aload_n (q := 416) dL_law_415 rfl rfl ?_
  refine g_iload_n (q := 417) dL_law_416 rfl rfl ?_
  refine g_iconst (q := 418) (v := nI 3) dL_law_417 rfl (by decide) ?_
  refine g_iadd (q := 419) dL_law_418 rfl ?_
  refine g_sldn (q := 420) rfl (by repeat' first | apply nI_a | apply nI_m | exact rfl) (by omega) hN dL_law_419 rfl ?_
  refine k_L_48 (q := 423) (d := 160) (mc := 0) (ms := 0) (n1 := 68) rfl ⟨(Nat.le_of_ble_eq_true rfl), (Nat.le_of_ble_eq_true rfl)⟩ ⟨(Nat.le_of_ble_eq_true rfl), (Nat.le_of_ble_eq_true rfl)⟩ (Or.inl rfl) (Nat.le_of_ble_eq_true rfl) rfl dL_law_420 rfl (c_X7_change (hm.frC f2) (fun I3 r3 f3 => ?_))
  refine g_icmp_eq (tgt := 1091) (q := 426) dL_law_423 (by decide) rfl (fun _ => ?_) (fun c423 => absurd rfl c423)
  exact hnext I3 _ k2 (r2.frM f3) r3 hk2
set_option maxRecDepth 100000 in
set_option maxHeartbeats 400000 in
theorem lc_8 {N a k : Nat} {xs : Nat → Int32} {I : Nat → Nat → Int32} {S : Sg} (ha : a + 6 ≤ N) (hN : N ≤ 3072) (hk : k = 4 ∨ k = 10) (hr : RepC I S) (hm : RepM I S) (hnext : ∀ I2 S2 k2, RepC I2 S2 → RepM I2 S2 → (k2 = 4 ∨ k2 = 10) → G (mLw N xs) room_1 ZL 0 1091 [.ref 1000, .ref 0, .ref 52, .int (nI a)] [] 68 (I2, RR k2) 68 4397) : G (mLw N xs) room_1 ZL 0 428 [.ref 1000, .ref 0, .ref 52, .int (nI a)] [] 68 (I, RR k) 68 4397 := by
  refine g_aload_n (q := 429) dL_law_428 rfl rfl ?_
  refine g_aload_n (q := 430) dL_law_429 rfl rfl ?_
  refine g_iload_n (q := 431) dL_law_430 rfl rfl ?_
  refine g_iconst (q := 432) (v := nI 1) dL_law_431 rfl (by decide) ?_
  refine g_iadd (q := 433) dL_law_432 rfl ?_
  refine g_sldn (q := 434) rfl (by repeat' first | apply nI_a | apply nI_m | exact rfl) (by omega) hN dL_law_433 rfl ?_
  refine g_aload_n (q := 435) dL_law_434 rfl rfl ?_
  refine g_iload_n (q := 436) dL_law_435 rfl rfl ?_
  refine g_iconst (q := 437) (v := nI 2) dL_law_436 rfl (by decide) ?_
  refine g_iadd (q := 438) dL_law_437 rfl ?_
  refine g_sldn (q := 439) rfl (by repeat' first | apply nI_a | apply nI_m | exact rfl) (by omega) hN dL_law_438 rfl ?_
  refine k_L_49 (q := 442) (d := 160) (mc := 0) (ms := 0) (n1 := 68) rfl ⟨(Nat.le_of_ble_eq_true rfl), (Nat.le_of_ble_eq_true rfl)⟩ ⟨(Nat.le_of_ble_eq_true rfl), (Nat.le_of_ble_eq_true rfl)⟩ (Or.inl rfl) (Nat.le_of_ble_eq_true rfl) rfl dL_law_439 rfl (c_X6_become hk hr (fun I2 k2 r2 f2 hk2 => ?_))
  refine g_aload_n (q := 443) dL_law_442 rfl rfl ?_
  refine g_aload_n (q := 444) dL_law_443 rfl rfl ?_
  refine g_iload_n (q := 445) dL_law_444 rfl rfl ?_
  refine g_iconst (q := 446) (v := nI 1) dL_law_445 rfl (by decide) ?_
  refine g_iadd (q := 447) dL_law_446 rfl ?_
  refine g_sldn (q := 448) rfl (by repeat' first | apply nI_a | apply nI_m | exact rfl) (by omega) hN dL_law_447 rfl ?_
  refine g_aload_n (q := 449) dL_law_448 rfl rfl ?_
  refine g_iload_n (q := 450) dL_law_449 rfl rfl ?_
  refine g_iconst (q := 451) (v := nI 2) dL_law_450 rfl (by decide) ?_
  refine g_iadd (q := 452) dL_law_451 rfl ?_
  refine g_sldn (q := 453) rfl (by repeat' first | apply nI_a | apply nI_m | exact rfl) (by omega) hN dL_law_452 rfl ?_
  refine k_L_53 (q := 456) (d := 160) (mc := 0) (ms := 0) (n1 := 68) rfl ⟨(Nat.le_of_ble_eq_true rfl), (Nat.le_of_ble_eq_true rfl)⟩ ⟨(Nat.le_of_ble_eq_true rfl), (Nat.le_of_ble_eq_true rfl)⟩ (Or.inl rfl) (Nat.le_of_ble_eq_true rfl) rfl dL_law_453 rfl (c_X7_become (hm.frC f2) (fun I3 r3 f3 => ?_))
  refine g_icmp_eq (tgt := 1091) (q := 459) dL_law_456 (by decide) rfl (fun _ => ?_) (fun c456 => absurd rfl c456)
  exact hnext I3 _ k2 (r2.frM f3) r3 hk2
set_option maxRecDepth 100000 in
set_option maxHeartbeats 400000 in
theorem lc_9 {N a k : Nat} {xs : Nat → Int32} {I : Nat → Nat → Int32} {S : Sg} (ha : a + 6 ≤ N) (hN : N ≤ 3072) (hk : k = 4 ∨ k = 10) (hr : RepC I S) (hm : RepM I S) (hnext : ∀ I2 S2 k2, RepC I2 S2 → RepM I2 S2 → (k2 = 4 ∨ k2 = 10) → G (mLw N xs) room_1 ZL 0 1091 [.ref 1000, .ref 0, .ref 52, .int (nI a)] [] 68 (I2, RR k2) 68 4397) : G (mLw N xs) room_1 ZL 0 461 [.ref 1000, .ref 0, .ref 52, .int (nI a)] [] 68 (I, RR k) 68 4397 := by
  refine g_aload_n (q := 462) dL_law_461 rfl rfl ?_
  refine g_aload_n (q := 463) dL_law_462 rfl rfl ?_
  refine g_iload_n (q := 464) dL_law_463 rfl rfl ?_
  refine g_iconst (q := 465) (v := nI 1) dL_law_464 rfl (by decide) ?_
  refine g_iadd (q := 466) dL_law_465 rfl ?_
  refine g_sldn (q := 467) rfl (by repeat' first | apply nI_a | apply nI_m | exact rfl) (by omega) hN dL_law_466 rfl ?_
  refine g_aload_n (q := 468) dL_law_467 rfl rfl ?_
  refine g_iload_n (q := 469) dL_law_468 rfl rfl ?_
  refine g_iconst (q := 470) (v := nI 2) dL_law_469 rfl (by decide) ?_
  refine g_iadd (q := 471) dL_law_470 rfl ?_
  refine g_sldn (q := 472) rfl (by repeat' first | apply nI_a | apply nI_m | exact rfl) (by omega) hN dL_law_471 rfl ?_
  refine k_L_54 (q := 475) (d := 160) (mc := 0) (ms := 0) (n1 := 68) rfl ⟨(Nat.le_of_ble_eq_true rfl), (Nat.le_of_ble_eq_true rfl)⟩ ⟨(Nat.le_of_ble_eq_true rfl), (Nat.le_of_ble_eq_true rfl)⟩ (Or.inl rfl) (Nat.le_of_ble_eq_true rfl) rfl dL_law_472 rfl (c_X6_swap hk hr (fun I2 k2 r2 f2 hk2 => ?_))
  refine g_aload_n (q := 476) dL_law_475 rfl rfl ?_
  refine g_aload_n (q := 477) dL_law_476 rfl rfl ?_
  refine g_iload_n (q := 478) dL_law_477 rfl rfl ?_
  refine g_iconst (q := 479) (v := nI 1) dL_law_478 rfl (by decide) ?_
  refine g_iadd (q := 480) dL_law_479 rfl ?_
  refine g_sldn (q := 481) rfl (by repeat' first | apply nI_a | apply nI_m | exact rfl) (by omega) hN dL_law_480 rfl ?_
  refine g_aload_n (q := 482) dL_law_481 rfl rfl ?_
  refine g_iload_n (q := 483) dL_law_482 rfl rfl ?_
  refine g_iconst (q := 484) (v := nI 2) dL_law_483 rfl (by decide) ?_
  refine g_iadd (q := 485) dL_law_484 rfl ?_
  refine g_sldn (q := 486) rfl (by repeat' first | apply nI_a | apply nI_m | exact rfl) (by omega) hN dL_law_485 rfl ?_
  refine k_L_57 (q := 489) (d := 160) (mc := 0) (ms := 0) (n1 := 68) rfl ⟨(Nat.le_of_ble_eq_true rfl), (Nat.le_of_ble_eq_true rfl)⟩ ⟨(Nat.le_of_ble_eq_true rfl), (Nat.le_of_ble_eq_true rfl)⟩ (Or.inl rfl) (Nat.le_of_ble_eq_true rfl) rfl dL_law_486 rfl (c_X7_swap (hm.frC f2) (fun I3 r3 f3 => ?_))
  refine g_icmp_eq (tgt := 1091) (q := 492) dL_law_489 (by decide) rfl (fun _ => ?_) (fun c489 => absurd rfl c489)
  exact hnext I3 _ k2 (r2.frM f3) r3 hk2
set_option maxRecDepth 100000 in
set_option maxHeartbeats 400000 in
theorem lc_10 {N a k : Nat} {xs : Nat → Int32} {I : Nat → Nat → Int32} {S : Sg} (ha : a + 6 ≤ N) (hN : N ≤ 3072) (hk : k = 4 ∨ k = 10) (hr : RepC I S) (hm : RepM I S) (hnext : ∀ I2 S2 k2, RepC I2 S2 → RepM I2 S2 → (k2 = 4 ∨ k2 = 10) → G (mLw N xs) room_1 ZL 0 1091 [.ref 1000, .ref 0, .ref 52, .int (nI a)] [] 68 (I2, RR k2) 68 4397) : G (mLw N xs) room_1 ZL 0 494 [.ref 1000, .ref 0, .ref 52, .int (nI a)] [] 68 (I, RR k) 68 4397 := by
  refine g_aload_n (q := 495) dL_law_494 rfl rfl ?_
  refine g_aload_n (q := 496) dL_law_495 rfl rfl ?_
  refine g_iload_n (q := 497) dL_law_496 rfl rfl ?_
  refine g_iconst (q := 498) (v := nI 1) dL_law_497 rfl (by decide) ?_
  refine g_iadd (q := 499) dL_law_498 rfl ?_
  refine g_sldn (q := 500) rfl (by repeat' first | apply nI_a | apply nI_m | exact rfl) (by omega) hN dL_law_499 rfl ?_
  refine g_aload_n (q := 501) dL_law_500 rfl rfl ?_
  refine g_iload_n (q := 502) dL_law_501 rfl rfl ?_
  refine g_iconst (q := 503) (v := nI 2) dL_law_502 rfl (by decide) ?_
  refine g_iadd (q := 504) dL_law_503 rfl ?_
  refine g_sldn (q := 505) rfl (by repeat' first | apply nI_a | apply nI_m | exact rfl) (by omega) hN dL_law_504 rfl ?_
  refine g_aload_n (q := 506) dL_law_505 rfl rfl ?_
  refine g_iload_n (q := 507) dL_law_506 rfl rfl ?_
  refine g_iconst (q := 508) (v := nI 3) dL_law_507 rfl (by decide) ?_
  refine g_iadd (q := 509) dL_law_508 rfl ?_
  refine g_sldn (q := 510) rfl (by repeat' first | apply nI_a | apply nI_m | exact rfl) (by omega) hN dL_law_509 rfl ?_
  refine g_aload_n (q := 511) dL_law_510 rfl rfl ?_
  refine g_iload_n (q := 512) dL_law_511 rfl rfl ?_
  refine g_iconst (q := 513) (v := nI 4) dL_law_512 rfl (by decide) ?_
  refine g_iadd (q := 514) dL_law_513 rfl ?_
  refine g_sldn (q := 515) rfl (by repeat' first | apply nI_a | apply nI_m | exact rfl) (by omega) hN dL_law_514 rfl ?_
  refine k_L_58 (q := 518) (d := 160) (mc := 0) (ms := 0) (n1 := 68) rfl ⟨(Nat.le_of_ble_eq_true rfl), (Nat.le_of_ble_eq_true rfl)⟩ ⟨(Nat.le_of_ble_eq_true rfl), (Nat.le_of_ble_eq_true rfl)⟩ (Or.inl rfl) (Nat.le_of_ble_eq_true rfl) rfl dL_law_515 rfl (c_X6_state hk hr (fun I2 k2 r2 f2 hk2 => ?_))
  refine g_aload_n (q := 519) dL_law_518 rfl rfl ?_
  refine g_aload_n (q := 520) dL_law_519 rfl rfl ?_
  refine g_iload_n (q := 521) dL_law_520 rfl rfl ?_
  refine g_iconst (q := 522) (v := nI 1) dL_law_521 rfl (by decide) ?_
  refine g_iadd (q := 523) dL_law_522 rfl ?_
  refine g_sldn (q := 524) rfl (by repeat' first | apply nI_a | apply nI_m | exact rfl) (by omega) hN dL_law_523 rfl ?_
  refine g_aload_n (q := 525) dL_law_524 rfl rfl ?_
  refine g_iload_n (q := 526) dL_law_525 rfl rfl ?_
  refine g_iconst (q := 527) (v := nI 2) dL_law_526 rfl (by decide) ?_
  refine g_iadd (q := 528) dL_law_527 rfl ?_
  refine g_sldn (q := 529) rfl (by repeat' first | apply nI_a | apply nI_m | exact rfl) (by omega) hN dL_law_528 rfl ?_
  refine g_aload_n (q := 530) dL_law_529 rfl rfl ?_
  refine g_iload_n (q := 531) dL_law_530 rfl rfl ?_
  refine g_iconst (q := 532) (v := nI 3) dL_law_531 rfl (by decide) ?_
  refine g_iadd (q := 533) dL_law_532 rfl ?_
  refine g_sldn (q := 534) rfl (by repeat' first | apply nI_a | apply nI_m | exact rfl) (by omega) hN dL_law_533 rfl ?_
  refine g_aload_n (q := 535) dL_law_534 rfl rfl ?_
  refine g_iload_n (q := 536) dL_law_535 rfl rfl ?_
  refine g_iconst (q := 537) (v := nI 4) dL_law_536 rfl (by decide) ?_
  refine g_iadd (q := 538) dL_law_537 rfl ?_
  refine g_sldn (q := 539) rfl (by repeat' first | apply nI_a | apply nI_m | exact rfl) (by omega) hN dL_law_538 rfl ?_
  refine k_L_62 (q := 542) (d := 160) (mc := 0) (ms := 0) (n1 := 68) rfl ⟨(Nat.le_of_ble_eq_true rfl), (Nat.le_of_ble_eq_true rfl)⟩ ⟨(Nat.le_of_ble_eq_true rfl), (Nat.le_of_ble_eq_true rfl)⟩ (Or.inl rfl) (Nat.le_of_ble_eq_true rfl) rfl dL_law_539 rfl (c_X7_state (hm.frC f2) (fun I3 r3 f3 => ?_))
  refine g_icmp_eq (tgt := 1091) (q := 545) dL_law_542 (by decide) rfl (fun _ => ?_) (fun c542 => absurd rfl c542)
  exact hnext I3 _ k2 (r2.frM f3) r3 hk2
set_option maxRecDepth 100000 in
set_option maxHeartbeats 400000 in
theorem lc_11 {N a k : Nat} {xs : Nat → Int32} {I : Nat → Nat → Int32} {S : Sg} (ha : a + 6 ≤ N) (hN : N ≤ 3072) (hk : k = 4 ∨ k = 10) (hr : RepC I S) (hm : RepM I S) (hnext : ∀ I2 S2 k2, RepC I2 S2 → RepM I2 S2 → (k2 = 4 ∨ k2 = 10) → G (mLw N xs) room_1 ZL 0 1091 [.ref 1000, .ref 0, .ref 52, .int (nI a)] [] 68 (I2, RR k2) 68 4397) : G (mLw N xs) room_1 ZL 0 547 [.ref 1000, .ref 0, .ref 52, .int (nI a)] [] 68 (I, RR k) 68 4397 := by
  refine g_aload_n (q := 548) dL_law_547 rfl rfl ?_
  refine g_aload_n (q := 549) dL_law_548 rfl rfl ?_
  refine g_iload_n (q := 550) dL_law_549 rfl rfl ?_
  refine g_iconst (q := 551) (v := nI 1) dL_law_550 rfl (by decide) ?_
  refine g_iadd (q := 552) dL_law_551 rfl ?_
  refine g_sldn (q := 553) rfl (by repeat' first | apply nI_a | apply nI_m | exact rfl) (by omega) hN dL_law_552 rfl ?_
  refine g_aload_n (q := 554) dL_law_553 rfl rfl ?_
  refine g_iload_n (q := 555) dL_law_554 rfl rfl ?_
  refine g_iconst (q := 556) (v := nI 2) dL_law_555 rfl (by decide) ?_
  refine g_iadd (q := 557) dL_law_556 rfl ?_
  refine g_sldn (q := 558) rfl (by repeat' first | apply nI_a | apply nI_m | exact rfl) (by omega) hN dL_law_557 rfl ?_
  refine k_L_63 (q := 561) (d := 160) (mc := 0) (ms := 0) (n1 := 68) rfl ⟨(Nat.le_of_ble_eq_true rfl), (Nat.le_of_ble_eq_true rfl)⟩ ⟨(Nat.le_of_ble_eq_true rfl), (Nat.le_of_ble_eq_true rfl)⟩ (Or.inl rfl) (Nat.le_of_ble_eq_true rfl) rfl dL_law_558 rfl (c_X6_belong hk hr (fun I2 k2 r2 f2 hk2 => ?_))
  refine g_aload_n (q := 562) dL_law_561 rfl rfl ?_
  refine g_aload_n (q := 563) dL_law_562 rfl rfl ?_
  refine g_iload_n (q := 564) dL_law_563 rfl rfl ?_
  refine g_iconst (q := 565) (v := nI 1) dL_law_564 rfl (by decide) ?_
  refine g_iadd (q := 566) dL_law_565 rfl ?_
  refine g_sldn (q := 567) rfl (by repeat' first | apply nI_a | apply nI_m | exact rfl) (by omega) hN dL_law_566 rfl ?_
  refine g_aload_n (q := 568) dL_law_567 rfl rfl ?_
  refine g_iload_n (q := 569) dL_law_568 rfl rfl ?_
  refine g_iconst (q := 570) (v := nI 2) dL_law_569 rfl (by decide) ?_
  refine g_iadd (q := 571) dL_law_570 rfl ?_
  refine g_sldn (q := 572) rfl (by repeat' first | apply nI_a | apply nI_m | exact rfl) (by omega) hN dL_law_571 rfl ?_
  refine k_L_66 (q := 575) (d := 160) (mc := 0) (ms := 0) (n1 := 68) rfl ⟨(Nat.le_of_ble_eq_true rfl), (Nat.le_of_ble_eq_true rfl)⟩ ⟨(Nat.le_of_ble_eq_true rfl), (Nat.le_of_ble_eq_true rfl)⟩ (Or.inl rfl) (Nat.le_of_ble_eq_true rfl) rfl dL_law_572 rfl (c_X7_belong (hm.frC f2) (fun I3 r3 f3 => ?_))
  refine g_icmp_eq (tgt := 1091) (q := 578) dL_law_575 (by decide) rfl (fun _ => ?_) (fun c575 => absurd rfl c575)
  exact hnext I3 _ k2 (r2.frM f3) r3 hk2
set_option maxRecDepth 100000 in
set_option maxHeartbeats 400000 in
theorem lc_12 {N a k : Nat} {xs : Nat → Int32} {I : Nat → Nat → Int32} {S : Sg} (ha : a + 6 ≤ N) (hN : N ≤ 3072) (hk : k = 4 ∨ k = 10) (hr : RepC I S) (hm : RepM I S) (hnext : ∀ I2 S2 k2, RepC I2 S2 → RepM I2 S2 → (k2 = 4 ∨ k2 = 10) → G (mLw N xs) room_1 ZL 0 1091 [.ref 1000, .ref 0, .ref 52, .int (nI a)] [] 68 (I2, RR k2) 68 4397) : G (mLw N xs) room_1 ZL 0 580 [.ref 1000, .ref 0, .ref 52, .int (nI a)] [] 68 (I, RR k) 68 4397 := by
  refine g_aload_n (q := 581) dL_law_580 rfl rfl ?_
  refine k_L_67 (q := 584) (d := 160) (mc := 0) (ms := 0) (n1 := 68) rfl ⟨(Nat.le_of_ble_eq_true rfl), (Nat.le_of_ble_eq_true rfl)⟩ ⟨(Nat.le_of_ble_eq_true rfl), (Nat.le_of_ble_eq_true rfl)⟩ (Or.inl rfl) (Nat.le_of_ble_eq_true rfl) rfl dL_law_581 rfl (c_X6_undo hk hr (fun I2 k2 r2 f2 hk2 => ?_))
  refine g_aload_n (q := 585) dL_law_584 rfl rfl ?_
  refine k_L_70 (q := 588) (d := 160) (mc := 0) (ms := 0) (n1 := 68) rfl ⟨(Nat.le_of_ble_eq_true rfl), (Nat.le_of_ble_eq_true rfl)⟩ ⟨(Nat.le_of_ble_eq_true rfl), (Nat.le_of_ble_eq_true rfl)⟩ (Or.inl rfl) (Nat.le_of_ble_eq_true rfl) rfl dL_law_585 rfl (c_X7_undo (hm.frC f2) (fun I3 r3 f3 => ?_))
  refine g_icmp_eq (tgt := 1091) (q := 591) dL_law_588 (by decide) rfl (fun _ => ?_) (fun c588 => absurd rfl c588)
  exact hnext I3 _ k2 (r2.frM f3) r3 hk2
set_option maxRecDepth 100000 in
set_option maxHeartbeats 400000 in
theorem lc_13 {N a k : Nat} {xs : Nat → Int32} {I : Nat → Nat → Int32} {S : Sg} (ha : a + 6 ≤ N) (hN : N ≤ 3072) (hk : k = 4 ∨ k = 10) (hr : RepC I S) (hm : RepM I S) (hnext : ∀ I2 S2 k2, RepC I2 S2 → RepM I2 S2 → (k2 = 4 ∨ k2 = 10) → G (mLw N xs) room_1 ZL 0 1091 [.ref 1000, .ref 0, .ref 52, .int (nI a)] [] 68 (I2, RR k2) 68 4397) : G (mLw N xs) room_1 ZL 0 593 [.ref 1000, .ref 0, .ref 52, .int (nI a)] [] 68 (I, RR k) 68 4397 := by
  refine g_aload_n (q := 594) dL_law_593 rfl rfl ?_
  refine g_aload_n (q := 595) dL_law_594 rfl rfl ?_
  refine g_iload_n (q := 596) dL_law_595 rfl rfl ?_
  refine g_iconst (q := 597) (v := nI 1) dL_law_596 rfl (by decide) ?_
  refine g_iadd (q := 598) dL_law_597 rfl ?_
  refine g_sldn (q := 599) rfl (by repeat' first | apply nI_a | apply nI_m | exact rfl) (by omega) hN dL_law_598 rfl ?_
  refine g_aload_n (q := 600) dL_law_599 rfl rfl ?_
  refine g_iload_n (q := 601) dL_law_600 rfl rfl ?_
  refine g_iconst (q := 602) (v := nI 2) dL_law_601 rfl (by decide) ?_
  refine g_iadd (q := 603) dL_law_602 rfl ?_
  refine g_sldn (q := 604) rfl (by repeat' first | apply nI_a | apply nI_m | exact rfl) (by omega) hN dL_law_603 rfl ?_
  refine k_L_71 (q := 607) (d := 160) (mc := 0) (ms := 0) (n1 := 68) rfl ⟨(Nat.le_of_ble_eq_true rfl), (Nat.le_of_ble_eq_true rfl)⟩ ⟨(Nat.le_of_ble_eq_true rfl), (Nat.le_of_ble_eq_true rfl)⟩ (Or.inl rfl) (Nat.le_of_ble_eq_true rfl) rfl dL_law_604 rfl (c_X6_method hk hr (fun I2 k2 r2 f2 hk2 => ?_))
  refine g_aload_n (q := 608) dL_law_607 rfl rfl ?_
  refine g_aload_n (q := 609) dL_law_608 rfl rfl ?_
  refine g_iload_n (q := 610) dL_law_609 rfl rfl ?_
  refine g_iconst (q := 611) (v := nI 1) dL_law_610 rfl (by decide) ?_
  refine g_iadd (q := 612) dL_law_611 rfl ?_
  refine g_sldn (q := 613) rfl (by repeat' first | apply nI_a | apply nI_m | exact rfl) (by omega) hN dL_law_612 rfl ?_
  refine g_aload_n (q := 614) dL_law_613 rfl rfl ?_
  refine g_iload_n (q := 615) dL_law_614 rfl rfl ?_
  refine g_iconst (q := 616) (v := nI 2) dL_law_615 rfl (by decide) ?_
  refine g_iadd (q := 617) dL_law_616 rfl ?_
  refine g_sldn (q := 618) rfl (by repeat' first | apply nI_a | apply nI_m | exact rfl) (by omega) hN dL_law_617 rfl ?_
  refine k_L_74 (q := 621) (d := 160) (mc := 0) (ms := 0) (n1 := 68) rfl ⟨(Nat.le_of_ble_eq_true rfl), (Nat.le_of_ble_eq_true rfl)⟩ ⟨(Nat.le_of_ble_eq_true rfl), (Nat.le_of_ble_eq_true rfl)⟩ (Or.inl rfl) (Nat.le_of_ble_eq_true rfl) rfl dL_law_618 rfl (c_X7_method (hm.frC f2) (fun I3 r3 f3 => ?_))
  refine g_icmp_eq (tgt := 1091) (q := 624) dL_law_621 (by decide) rfl (fun _ => ?_) (fun c621 => absurd rfl c621)
  exact hnext I3 _ k2 (r2.frM f3) r3 hk2
set_option maxRecDepth 100000 in
set_option maxHeartbeats 400000 in
theorem lc_14 {N a k : Nat} {xs : Nat → Int32} {I : Nat → Nat → Int32} {S : Sg} (ha : a + 6 ≤ N) (hN : N ≤ 3072) (hk : k = 4 ∨ k = 10) (hr : RepC I S) (hm : RepM I S) (hnext : ∀ I2 S2 k2, RepC I2 S2 → RepM I2 S2 → (k2 = 4 ∨ k2 = 10) → G (mLw N xs) room_1 ZL 0 1091 [.ref 1000, .ref 0, .ref 52, .int (nI a)] [] 68 (I2, RR k2) 68 4397) : G (mLw N xs) room_1 ZL 0 626 [.ref 1000, .ref 0, .ref 52, .int (nI a)] [] 68 (I, RR k) 68 4397 := by
  refine g_aload_n (q := 627) dL_law_626 rfl rfl ?_
  refine g_aload_n (q := 628) dL_law_627 rfl rfl ?_
  refine g_iload_n (q := 629) dL_law_628 rfl rfl ?_
  refine g_iconst (q := 630) (v := nI 1) dL_law_629 rfl (by decide) ?_
  refine g_iadd (q := 631) dL_law_630 rfl ?_
  refine g_sldn (q := 632) rfl (by repeat' first | apply nI_a | apply nI_m | exact rfl) (by omega) hN dL_law_631 rfl ?_
  refine g_aload_n (q := 633) dL_law_632 rfl rfl ?_
  refine g_iload_n (q := 634) dL_law_633 rfl rfl ?_
  refine g_iconst (q := 635) (v := nI 2) dL_law_634 rfl (by decide) ?_
  refine g_iadd (q := 636) dL_law_635 rfl ?_
  refine g_sldn (q := 637) rfl (by repeat' first | apply nI_a | apply nI_m | exact rfl) (by omega) hN dL_law_636 rfl ?_
  refine k_L_75 (q := 640) (d := 160) (mc := 0) (ms := 0) (n1 := 68) rfl ⟨(Nat.le_of_ble_eq_true rfl), (Nat.le_of_ble_eq_true rfl)⟩ ⟨(Nat.le_of_ble_eq_true rfl), (Nat.le_of_ble_eq_true rfl)⟩ (Or.inl rfl) (Nat.le_of_ble_eq_true rfl) rfl dL_law_637 rfl (c_X6_advice hk hr (fun I2 k2 r2 f2 hk2 => ?_))
  refine g_aload_n (q := 641) dL_law_640 rfl rfl ?_
  refine g_aload_n (q := 642) dL_law_641 rfl rfl ?_
  refine g_iload_n (q := 643) dL_law_642 rfl rfl ?_
  refine g_iconst (q := 644) (v := nI 1) dL_law_643 rfl (by decide) ?_
  refine g_iadd (q := 645) dL_law_644 rfl ?_
  refine g_sldn (q := 646) rfl (by repeat' first | apply nI_a | apply nI_m | exact rfl) (by omega) hN dL_law_645 rfl ?_
  refine g_aload_n (q := 647) dL_law_646 rfl rfl ?_
  refine g_iload_n (q := 648) dL_law_647 rfl rfl ?_
  refine g_iconst (q := 649) (v := nI 2) dL_law_648 rfl (by decide) ?_
  refine g_iadd (q := 650) dL_law_649 rfl ?_
  refine g_sldn (q := 651) rfl (by repeat' first | apply nI_a | apply nI_m | exact rfl) (by omega) hN dL_law_650 rfl ?_
  refine k_L_78 (q := 654) (d := 160) (mc := 0) (ms := 0) (n1 := 68) rfl ⟨(Nat.le_of_ble_eq_true rfl), (Nat.le_of_ble_eq_true rfl)⟩ ⟨(Nat.le_of_ble_eq_true rfl), (Nat.le_of_ble_eq_true rfl)⟩ (Or.inl rfl) (Nat.le_of_ble_eq_true rfl) rfl dL_law_651 rfl (c_X7_advice (hm.frC f2) (fun I3 r3 f3 => ?_))
  refine g_icmp_eq (tgt := 1091) (q := 657) dL_law_654 (by decide) rfl (fun _ => ?_) (fun c654 => absurd rfl c654)
  exact hnext I3 _ k2 (r2.frM f3) r3 hk2
set_option maxRecDepth 100000 in
set_option maxHeartbeats 400000 in
theorem lc_15 {N a k : Nat} {xs : Nat → Int32} {I : Nat → Nat → Int32} {S : Sg} (ha : a + 6 ≤ N) (hN : N ≤ 3072) (hk : k = 4 ∨ k = 10) (hr : RepC I S) (hm : RepM I S) (hnext : ∀ I2 S2 k2, RepC I2 S2 → RepM I2 S2 → (k2 = 4 ∨ k2 = 10) → G (mLw N xs) room_1 ZL 0 1091 [.ref 1000, .ref 0, .ref 52, .int (nI a)] [] 68 (I2, RR k2) 68 4397) : G (mLw N xs) room_1 ZL 0 659 [.ref 1000, .ref 0, .ref 52, .int (nI a)] [] 68 (I, RR k) 68 4397 := by
  refine g_aload_n (q := 660) dL_law_659 rfl rfl ?_
  refine g_aload_n (q := 661) dL_law_660 rfl rfl ?_
  refine g_iload_n (q := 662) dL_law_661 rfl rfl ?_
  refine g_iconst (q := 663) (v := nI 1) dL_law_662 rfl (by decide) ?_
  refine g_iadd (q := 664) dL_law_663 rfl ?_
  refine g_sldn (q := 665) rfl (by repeat' first | apply nI_a | apply nI_m | exact rfl) (by omega) hN dL_law_664 rfl ?_
  refine g_aload_n (q := 666) dL_law_665 rfl rfl ?_
  refine g_iload_n (q := 667) dL_law_666 rfl rfl ?_
  refine g_iconst (q := 668) (v := nI 2) dL_law_667 rfl (by decide) ?_
  refine g_iadd (q := 669) dL_law_668 rfl ?_
  refine g_sldn (q := 670) rfl (by repeat' first | apply nI_a | apply nI_m | exact rfl) (by omega) hN dL_law_669 rfl ?_
  refine k_L_79 (q := 673) (d := 160) (mc := 0) (ms := 0) (n1 := 68) rfl ⟨(Nat.le_of_ble_eq_true rfl), (Nat.le_of_ble_eq_true rfl)⟩ ⟨(Nat.le_of_ble_eq_true rfl), (Nat.le_of_ble_eq_true rfl)⟩ (Or.inl rfl) (Nat.le_of_ble_eq_true rfl) rfl dL_law_670 rfl (c_X6_ahead hk hr (fun I2 k2 r2 f2 hk2 => ?_))
  refine g_aload_n (q := 674) dL_law_673 rfl rfl ?_
  refine g_aload_n (q := 675) dL_law_674 rfl rfl ?_
  refine g_iload_n (q := 676) dL_law_675 rfl rfl ?_
  refine g_iconst (q := 677) (v := nI 1) dL_law_676 rfl (by decide) ?_
  refine g_iadd (q := 678) dL_law_677 rfl ?_
  refine g_sldn (q := 679) rfl (by repeat' first | apply nI_a | apply nI_m | exact rfl) (by omega) hN dL_law_678 rfl ?_
  refine g_aload_n (q := 680) dL_law_679 rfl rfl ?_
  refine g_iload_n (q := 681) dL_law_680 rfl rfl ?_
  refine g_iconst (q := 682) (v := nI 2) dL_law_681 rfl (by decide) ?_
  refine g_iadd (q := 683) dL_law_682 rfl ?_
  refine g_sldn (q := 684) rfl (by repeat' first | apply nI_a | apply nI_m | exact rfl) (by omega) hN dL_law_683 rfl ?_
  refine k_L_82 (q := 687) (d := 160) (mc := 0) (ms := 0) (n1 := 68) rfl ⟨(Nat.le_of_ble_eq_true rfl), (Nat.le_of_ble_eq_true rfl)⟩ ⟨(Nat.le_of_ble_eq_true rfl), (Nat.le_of_ble_eq_true rfl)⟩ (Or.inl rfl) (Nat.le_of_ble_eq_true rfl) rfl dL_law_684 rfl (c_X7_ahead (hm.frC f2) (fun I3 r3 f3 => ?_))
  refine g_icmp_eq (tgt := 1091) (q := 690) dL_law_687 (by decide) rfl (fun _ => ?_) (fun c687 => absurd rfl c687)
  exact hnext I3 _ k2 (r2.frM f3) r3 hk2
set_option maxRecDepth 100000 in
set_option maxHeartbeats 400000 in
theorem lc_16 {N a k : Nat} {xs : Nat → Int32} {I : Nat → Nat → Int32} {S : Sg} (ha : a + 6 ≤ N) (hN : N ≤ 3072) (hk : k = 4 ∨ k = 10) (hr : RepC I S) (hm : RepM I S) (hnext : ∀ I2 S2 k2, RepC I2 S2 → RepM I2 S2 → (k2 = 4 ∨ k2 = 10) → G (mLw N xs) room_1 ZL 0 1091 [.ref 1000, .ref 0, .ref 52, .int (nI a)] [] 68 (I2, RR k2) 68 4397) : G (mLw N xs) room_1 ZL 0 692 [.ref 1000, .ref 0, .ref 52, .int (nI a)] [] 68 (I, RR k) 68 4397 := by
  refine g_aload_n (q := 693) dL_law_692 rfl rfl ?_
  refine g_aload_n (q := 694) dL_law_693 rfl rfl ?_
  refine g_iload_n (q := 695) dL_law_694 rfl rfl ?_
  refine g_iconst (q := 696) (v := nI 1) dL_law_695 rfl (by decide) ?_
  refine g_iadd (q := 697) dL_law_696 rfl ?_
  refine g_sldn (q := 698) rfl (by repeat' first | apply nI_a | apply nI_m | exact rfl) (by omega) hN dL_law_697 rfl ?_
  refine g_aload_n (q := 699) dL_law_698 rfl rfl ?_
  refine g_iload_n (q := 700) dL_law_699 rfl rfl ?_
  refine g_iconst (q := 701) (v := nI 2) dL_law_700 rfl (by decide) ?_
  refine g_iadd (q := 702) dL_law_701 rfl ?_
  refine g_sldn (q := 703) rfl (by repeat' first | apply nI_a | apply nI_m | exact rfl) (by omega) hN dL_law_702 rfl ?_
  refine g_aload_n (q := 704) dL_law_703 rfl rfl ?_
  refine g_iload_n (q := 705) dL_law_704 rfl rfl ?_
  refine g_iconst (q := 706) (v := nI 3) dL_law_705 rfl (by decide) ?_
  refine g_iadd (q := 707) dL_law_706 rfl ?_
  refine g_sldn (q := 708) rfl (by repeat' first | apply nI_a | apply nI_m | exact rfl) (by omega) hN dL_law_707 rfl ?_
  refine k_L_83 (q := 711) (d := 160) (mc := 0) (ms := 0) (n1 := 68) rfl ⟨(Nat.le_of_ble_eq_true rfl), (Nat.le_of_ble_eq_true rfl)⟩ ⟨(Nat.le_of_ble_eq_true rfl), (Nat.le_of_ble_eq_true rfl)⟩ (Or.inl rfl) (Nat.le_of_ble_eq_true rfl) rfl dL_law_708 rfl (c_X6_run hk hr (fun I2 k2 r2 f2 hk2 => ?_))
  refine g_aload_n (q := 712) dL_law_711 rfl rfl ?_
  refine g_aload_n (q := 713) dL_law_712 rfl rfl ?_
  refine g_iload_n (q := 714) dL_law_713 rfl rfl ?_
  refine g_iconst (q := 715) (v := nI 1) dL_law_714 rfl (by decide) ?_
  refine g_iadd (q := 716) dL_law_715 rfl ?_
  refine g_sldn (q := 717) rfl (by repeat' first | apply nI_a | apply nI_m | exact rfl) (by omega) hN dL_law_716 rfl ?_
  refine g_aload_n (q := 718) dL_law_717 rfl rfl ?_
  refine g_iload_n (q := 719) dL_law_718 rfl rfl ?_
  refine g_iconst (q := 720) (v := nI 2) dL_law_719 rfl (by decide) ?_
  refine g_iadd (q := 721) dL_law_720 rfl ?_
  refine g_sldn (q := 722) rfl (by repeat' first | apply nI_a | apply nI_m | exact rfl) (by omega) hN dL_law_721 rfl ?_
  refine g_aload_n (q := 723) dL_law_722 rfl rfl ?_
  refine g_iload_n (q := 724) dL_law_723 rfl rfl ?_
  refine g_iconst (q := 725) (v := nI 3) dL_law_724 rfl (by decide) ?_
  refine g_iadd (q := 726) dL_law_725 rfl ?_
  refine g_sldn (q := 727) rfl (by repeat' first | apply nI_a | apply nI_m | exact rfl) (by omega) hN dL_law_726 rfl ?_
  refine k_L_86 (q := 730) (d := 160) (mc := 0) (ms := 0) (n1 := 68) rfl ⟨(Nat.le_of_ble_eq_true rfl), (Nat.le_of_ble_eq_true rfl)⟩ ⟨(Nat.le_of_ble_eq_true rfl), (Nat.le_of_ble_eq_true rfl)⟩ (Or.inl rfl) (Nat.le_of_ble_eq_true rfl) rfl dL_law_727 rfl (c_X7_run (hm.frC f2) (fun I3 r3 f3 => ?_))
  refine g_icmp_eq (tgt := 1091) (q := 733) dL_law_730 (by decide) rfl (fun _ => ?_) (fun c730 => absurd rfl c730)
  exact hnext I3 _ k2 (r2.frM f3) r3 hk2
set_option maxRecDepth 100000 in
set_option maxHeartbeats 400000 in
theorem lc_17 {N a k : Nat} {xs : Nat → Int32} {I : Nat → Nat → Int32} {S : Sg} (ha : a + 6 ≤ N) (hN : N ≤ 3072) (hk : k = 4 ∨ k = 10) (hr : RepC I S) (hm : RepM I S) (hnext : ∀ I2 S2 k2, RepC I2 S2 → RepM I2 S2 → (k2 = 4 ∨ k2 = 10) → G (mLw N xs) room_1 ZL 0 1091 [.ref 1000, .ref 0, .ref 52, .int (nI a)] [] 68 (I2, RR k2) 68 4397) : G (mLw N xs) room_1 ZL 0 735 [.ref 1000, .ref 0, .ref 52, .int (nI a)] [] 68 (I, RR k) 68 4397 := by
  refine g_aload_n (q := 736) dL_law_735 rfl rfl ?_
  refine g_aload_n (q := 737) dL_law_736 rfl rfl ?_
  refine g_iload_n (q := 738) dL_law_737 rfl rfl ?_
  refine g_iconst (q := 739) (v := nI 1) dL_law_738 rfl (by decide) ?_
  refine g_iadd (q := 740) dL_law_739 rfl ?_
  refine g_sldn (q := 741) rfl (by repeat' first | apply nI_a | apply nI_m | exact rfl) (by omega) hN dL_law_740 rfl ?_
  refine k_L_87 (q := 744) (d := 160) (mc := 0) (ms := 0) (n1 := 68) rfl ⟨(Nat.le_of_ble_eq_true rfl), (Nat.le_of_ble_eq_true rfl)⟩ ⟨(Nat.le_of_ble_eq_true rfl), (Nat.le_of_ble_eq_true rfl)⟩ (Or.inl rfl) (Nat.le_of_ble_eq_true rfl) rfl dL_law_741 rfl (c_X6_least hk hr (fun I2 k2 r2 f2 hk2 => ?_))
  refine g_aload_n (q := 745) dL_law_744 rfl rfl ?_
  refine g_aload_n (q := 746) dL_law_745 rfl rfl ?_
  refine g_iload_n (q := 747) dL_law_746 rfl rfl ?_
  refine g_iconst (q := 748) (v := nI 1) dL_law_747 rfl (by decide) ?_
  refine g_iadd (q := 749) dL_law_748 rfl ?_
  refine g_sldn (q := 750) rfl (by repeat' first | apply nI_a | apply nI_m | exact rfl) (by omega) hN dL_law_749 rfl ?_
  refine k_L_90 (q := 753) (d := 160) (mc := 0) (ms := 0) (n1 := 68) rfl ⟨(Nat.le_of_ble_eq_true rfl), (Nat.le_of_ble_eq_true rfl)⟩ ⟨(Nat.le_of_ble_eq_true rfl), (Nat.le_of_ble_eq_true rfl)⟩ (Or.inl rfl) (Nat.le_of_ble_eq_true rfl) rfl dL_law_750 rfl (c_X7_least (hm.frC f2) (fun I3 r3 f3 => ?_))
  refine g_icmp_eq (tgt := 1091) (q := 756) dL_law_753 (by decide) rfl (fun _ => ?_) (fun c753 => absurd rfl c753)
  exact hnext I3 _ k2 (r2.frM f3) r3 hk2
set_option maxRecDepth 100000 in
set_option maxHeartbeats 400000 in
theorem lc_18 {N a k : Nat} {xs : Nat → Int32} {I : Nat → Nat → Int32} {S : Sg} (ha : a + 6 ≤ N) (hN : N ≤ 3072) (hk : k = 4 ∨ k = 10) (hr : RepC I S) (hm : RepM I S) (hnext : ∀ I2 S2 k2, RepC I2 S2 → RepM I2 S2 → (k2 = 4 ∨ k2 = 10) → G (mLw N xs) room_1 ZL 0 1091 [.ref 1000, .ref 0, .ref 52, .int (nI a)] [] 68 (I2, RR k2) 68 4397) : G (mLw N xs) room_1 ZL 0 758 [.ref 1000, .ref 0, .ref 52, .int (nI a)] [] 68 (I, RR k) 68 4397 := by
  refine g_aload_n (q := 759) dL_law_758 rfl rfl ?_
  refine g_aload_n (q := 760) dL_law_759 rfl rfl ?_
  refine g_iload_n (q := 761) dL_law_760 rfl rfl ?_
  refine g_iconst (q := 762) (v := nI 1) dL_law_761 rfl (by decide) ?_
  refine g_iadd (q := 763) dL_law_762 rfl ?_
  refine g_sldn (q := 764) rfl (by repeat' first | apply nI_a | apply nI_m | exact rfl) (by omega) hN dL_law_763 rfl ?_
  refine g_aload_n (q := 765) dL_law_764 rfl rfl ?_
  refine g_iload_n (q := 766) dL_law_765 rfl rfl ?_
  refine g_iconst (q := 767) (v := nI 2) dL_law_766 rfl (by decide) ?_
  refine g_iadd (q := 768) dL_law_767 rfl ?_
  refine g_sldn (q := 769) rfl (by repeat' first | apply nI_a | apply nI_m | exact rfl) (by omega) hN dL_law_768 rfl ?_
  refine k_L_91 (q := 772) (d := 160) (mc := 0) (ms := 0) (n1 := 68) rfl ⟨(Nat.le_of_ble_eq_true rfl), (Nat.le_of_ble_eq_true rfl)⟩ ⟨(Nat.le_of_ble_eq_true rfl), (Nat.le_of_ble_eq_true rfl)⟩ (Or.inl rfl) (Nat.le_of_ble_eq_true rfl) rfl dL_law_769 rfl (c_X6_needed hk hr (fun I2 k2 r2 f2 hk2 => ?_))
  refine g_aload_n (q := 773) dL_law_772 rfl rfl ?_
  refine g_aload_n (q := 774) dL_law_773 rfl rfl ?_
  refine g_iload_n (q := 775) dL_law_774 rfl rfl ?_
  refine g_iconst (q := 776) (v := nI 1) dL_law_775 rfl (by decide) ?_
  refine g_iadd (q := 777) dL_law_776 rfl ?_
  refine g_sldn (q := 778) rfl (by repeat' first | apply nI_a | apply nI_m | exact rfl) (by omega) hN dL_law_777 rfl ?_
  refine g_aload_n (q := 779) dL_law_778 rfl rfl ?_
  refine g_iload_n (q := 780) dL_law_779 rfl rfl ?_
  refine g_iconst (q := 781) (v := nI 2) dL_law_780 rfl (by decide) ?_
  refine g_iadd (q := 782) dL_law_781 rfl ?_
  refine g_sldn (q := 783) rfl (by repeat' first | apply nI_a | apply nI_m | exact rfl) (by omega) hN dL_law_782 rfl ?_
  refine k_L_94 (q := 786) (d := 160) (mc := 0) (ms := 0) (n1 := 68) rfl ⟨(Nat.le_of_ble_eq_true rfl), (Nat.le_of_ble_eq_true rfl)⟩ ⟨(Nat.le_of_ble_eq_true rfl), (Nat.le_of_ble_eq_true rfl)⟩ (Or.inl rfl) (Nat.le_of_ble_eq_true rfl) rfl dL_law_783 rfl (c_X7_needed (hm.frC f2) (fun I3 r3 f3 => ?_))
  refine g_icmp_eq (tgt := 1091) (q := 789) dL_law_786 (by decide) rfl (fun _ => ?_) (fun c786 => absurd rfl c786)
  exact hnext I3 _ k2 (r2.frM f3) r3 hk2
set_option maxRecDepth 100000 in
set_option maxHeartbeats 400000 in
theorem lc_19 {N a k : Nat} {xs : Nat → Int32} {I : Nat → Nat → Int32} {S : Sg} (ha : a + 6 ≤ N) (hN : N ≤ 3072) (hk : k = 4 ∨ k = 10) (hr : RepC I S) (hm : RepM I S) (hnext : ∀ I2 S2 k2, RepC I2 S2 → RepM I2 S2 → (k2 = 4 ∨ k2 = 10) → G (mLw N xs) room_1 ZL 0 1091 [.ref 1000, .ref 0, .ref 52, .int (nI a)] [] 68 (I2, RR k2) 68 4397) : G (mLw N xs) room_1 ZL 0 791 [.ref 1000, .ref 0, .ref 52, .int (nI a)] [] 68 (I, RR k) 68 4397 := by
  refine g_aload_n (q := 792) dL_law_791 rfl rfl ?_
  refine g_aload_n (q := 793) dL_law_792 rfl rfl ?_
  refine g_iload_n (q := 794) dL_law_793 rfl rfl ?_
  refine g_iconst (q := 795) (v := nI 1) dL_law_794 rfl (by decide) ?_
  refine g_iadd (q := 796) dL_law_795 rfl ?_
  refine g_sldn (q := 797) rfl (by repeat' first | apply nI_a | apply nI_m | exact rfl) (by omega) hN dL_law_796 rfl ?_
  refine g_aload_n (q := 798) dL_law_797 rfl rfl ?_
  refine g_iload_n (q := 799) dL_law_798 rfl rfl ?_
  refine g_iconst (q := 800) (v := nI 2) dL_law_799 rfl (by decide) ?_
  refine g_iadd (q := 801) dL_law_800 rfl ?_
  refine g_sldn (q := 802) rfl (by repeat' first | apply nI_a | apply nI_m | exact rfl) (by omega) hN dL_law_801 rfl ?_
  refine g_aload_n (q := 803) dL_law_802 rfl rfl ?_
  refine g_iload_n (q := 804) dL_law_803 rfl rfl ?_
  refine g_iconst (q := 805) (v := nI 3) dL_law_804 rfl (by decide) ?_
  refine g_iadd (q := 806) dL_law_805 rfl ?_
  refine g_sldn (q := 807) rfl (by repeat' first | apply nI_a | apply nI_m | exact rfl) (by omega) hN dL_law_806 rfl ?_
  refine g_aload_n (q := 808) dL_law_807 rfl rfl ?_
  refine g_iload_n (q := 809) dL_law_808 rfl rfl ?_
  refine g_iconst (q := 810) (v := nI 4) dL_law_809 rfl (by decide) ?_
  refine g_iadd (q := 811) dL_law_810 rfl ?_
  refine g_sldn (q := 812) rfl (by repeat' first | apply nI_a | apply nI_m | exact rfl) (by omega) hN dL_law_811 rfl ?_
  refine g_aload_n (q := 813) dL_law_812 rfl rfl ?_
  refine g_iload_n (q := 814) dL_law_813 rfl rfl ?_
  refine g_iconst (q := 815) (v := nI 5) dL_law_814 rfl (by decide) ?_
  refine g_iadd (q := 816) dL_law_815 rfl ?_
  refine g_sldn (q := 817) rfl (by repeat' first | apply nI_a | apply nI_m | exact rfl) (by omega) hN dL_law_816 rfl ?_
  refine k_L_95 (q := 820) (d := 160) (mc := 0) (ms := 0) (n1 := 68) rfl ⟨(Nat.le_of_ble_eq_true rfl), (Nat.le_of_ble_eq_true rfl)⟩ ⟨(Nat.le_of_ble_eq_true rfl), (Nat.le_of_ble_eq_true rfl)⟩ (Or.inl rfl) (Nat.le_of_ble_eq_true rfl) rfl dL_law_817 rfl (c_X6_fits hk hr (fun I2 k2 r2 f2 hk2 => ?_))
  refine g_aload_n (q := 821) dL_law_820 rfl rfl ?_
  refine g_aload_n (q := 822) dL_law_821 rfl rfl ?_
  refine g_iload_n (q := 823) dL_law_822 rfl rfl ?_
  refine g_iconst (q := 824) (v := nI 1) dL_law_823 rfl (by decide) ?_
  refine g_iadd (q := 825) dL_law_824 rfl ?_
  refine g_sldn (q := 826) rfl (by repeat' first | apply nI_a | apply nI_m | exact rfl) (by omega) hN dL_law_825 rfl ?_
  refine g_aload_n (q := 827) dL_law_826 rfl rfl ?_
  refine g_iload_n (q := 828) dL_law_827 rfl rfl ?_
  refine g_iconst (q := 829) (v := nI 2) dL_law_828 rfl (by decide) ?_
  refine g_iadd (q := 830) dL_law_829 rfl ?_
  refine g_sldn (q := 831) rfl (by repeat' first | apply nI_a | apply nI_m | exact rfl) (by omega) hN dL_law_830 rfl ?_
  refine g_aload_n (q := 832) dL_law_831 rfl rfl ?_
  refine g_iload_n (q := 833) dL_law_832 rfl rfl ?_
  refine g_iconst (q := 834) (v := nI 3) dL_law_833 rfl (by decide) ?_
  refine g_iadd (q := 835) dL_law_834 rfl ?_
  refine g_sldn (q := 836) rfl (by repeat' first | apply nI_a | apply nI_m | exact rfl) (by omega) hN dL_law_835 rfl ?_
  refine g_aload_n (q := 837) dL_law_836 rfl rfl ?_
  refine g_iload_n (q := 838) dL_law_837 rfl rfl ?_
  refine g_iconst (q := 839) (v := nI 4) dL_law_838 rfl (by decide) ?_
  refine g_iadd (q := 840) dL_law_839 rfl ?_
  refine g_sldn (q := 841) rfl (by repeat' first | apply nI_a | apply nI_m | exact rfl) (by omega) hN dL_law_840 rfl ?_
  refine g_aload_n (q := 842) dL_law_841 rfl rfl ?_
  refine g_iload_n (q := 843) dL_law_842 rfl rfl ?_
  refine g_iconst (q := 844) (v := nI 5) dL_law_843 rfl (by decide) ?_
  refine g_iadd (q := 845) dL_law_844 rfl ?_
  refine g_sldn (q := 846) rfl (by repeat' first | apply nI_a | apply nI_m | exact rfl) (by omega) hN dL_law_845 rfl ?_
  refine k_L_98 (q := 849) (d := 160) (mc := 0) (ms := 0) (n1 := 68) rfl ⟨(Nat.le_of_ble_eq_true rfl), (Nat.le_of_ble_eq_true rfl)⟩ ⟨(Nat.le_of_ble_eq_true rfl), (Nat.le_of_ble_eq_true rfl)⟩ (Or.inl rfl) (Nat.le_of_ble_eq_true rfl) rfl dL_law_846 rfl (c_X7_fits (hm.frC f2) (fun I3 r3 f3 => ?_))
  refine g_icmp_eq (tgt := 1091) (q := 852) dL_law_849 (by decide) rfl (fun _ => ?_) (fun c849 => absurd rfl c849)
  exact hnext I3 _ k2 (r2.frM f3) r3 hk2
set_option maxRecDepth 100000 in
set_option maxHeartbeats 400000 in
theorem lc_20 {N a k : Nat} {xs : Nat → Int32} {I : Nat → Nat → Int32} {S : Sg} (ha : a + 6 ≤ N) (hN : N ≤ 3072) (hk : k = 4 ∨ k = 10) (hr : RepC I S) (hm : RepM I S) (hnext : ∀ I2 S2 k2, RepC I2 S2 → RepM I2 S2 → (k2 = 4 ∨ k2 = 10) → G (mLw N xs) room_1 ZL 0 1091 [.ref 1000, .ref 0, .ref 52, .int (nI a)] [] 68 (I2, RR k2) 68 4397) : G (mLw N xs) room_1 ZL 0 854 [.ref 1000, .ref 0, .ref 52, .int (nI a)] [] 68 (I, RR k) 68 4397 := by
  refine g_aload_n (q := 855) dL_law_854 rfl rfl ?_
  refine g_aload_n (q := 856) dL_law_855 rfl rfl ?_
  refine g_iload_n (q := 857) dL_law_856 rfl rfl ?_
  refine g_iconst (q := 858) (v := nI 1) dL_law_857 rfl (by decide) ?_
  refine g_iadd (q := 859) dL_law_858 rfl ?_
  refine g_sldn (q := 860) rfl (by repeat' first | apply nI_a | apply nI_m | exact rfl) (by omega) hN dL_law_859 rfl ?_
  refine g_aload_n (q := 861) dL_law_860 rfl rfl ?_
  refine g_iload_n (q := 862) dL_law_861 rfl rfl ?_
  refine g_iconst (q := 863) (v := nI 2) dL_law_862 rfl (by decide) ?_
  refine g_iadd (q := 864) dL_law_863 rfl ?_
  refine g_sldn (q := 865) rfl (by repeat' first | apply nI_a | apply nI_m | exact rfl) (by omega) hN dL_law_864 rfl ?_
  refine g_aload_n (q := 866) dL_law_865 rfl rfl ?_
  refine g_iload_n (q := 867) dL_law_866 rfl rfl ?_
  refine g_iconst (q := 868) (v := nI 3) dL_law_867 rfl (by decide) ?_
  refine g_iadd (q := 869) dL_law_868 rfl ?_
  refine g_sldn (q := 870) rfl (by repeat' first | apply nI_a | apply nI_m | exact rfl) (by omega) hN dL_law_869 rfl ?_
  refine k_L_99 (q := 873) (d := 160) (mc := 0) (ms := 0) (n1 := 68) rfl ⟨(Nat.le_of_ble_eq_true rfl), (Nat.le_of_ble_eq_true rfl)⟩ ⟨(Nat.le_of_ble_eq_true rfl), (Nat.le_of_ble_eq_true rfl)⟩ (Or.inl rfl) (Nat.le_of_ble_eq_true rfl) rfl dL_law_870 rfl (c_X6_drawn hk hr (fun I2 k2 r2 f2 hk2 => ?_))
  refine g_aload_n (q := 874) dL_law_873 rfl rfl ?_
  refine g_aload_n (q := 875) dL_law_874 rfl rfl ?_
  refine g_iload_n (q := 876) dL_law_875 rfl rfl ?_
  refine g_iconst (q := 877) (v := nI 1) dL_law_876 rfl (by decide) ?_
  refine g_iadd (q := 878) dL_law_877 rfl ?_
  refine g_sldn (q := 879) rfl (by repeat' first | apply nI_a | apply nI_m | exact rfl) (by omega) hN dL_law_878 rfl ?_
  refine g_aload_n (q := 880) dL_law_879 rfl rfl ?_
  refine g_iload_n (q := 881) dL_law_880 rfl rfl ?_
  refine g_iconst (q := 882) (v := nI 2) dL_law_881 rfl (by decide) ?_
  refine g_iadd (q := 883) dL_law_882 rfl ?_
  refine g_sldn (q := 884) rfl (by repeat' first | apply nI_a | apply nI_m | exact rfl) (by omega) hN dL_law_883 rfl ?_
  refine g_aload_n (q := 885) dL_law_884 rfl rfl ?_
  refine g_iload_n (q := 886) dL_law_885 rfl rfl ?_
  refine g_iconst (q := 887) (v := nI 3) dL_law_886 rfl (by decide) ?_
  refine g_iadd (q := 888) dL_law_887 rfl ?_
  refine g_sldn (q := 889) rfl (by repeat' first | apply nI_a | apply nI_m | exact rfl) (by omega) hN dL_law_888 rfl ?_
  refine k_L_102 (q := 892) (d := 160) (mc := 0) (ms := 0) (n1 := 68) rfl ⟨(Nat.le_of_ble_eq_true rfl), (Nat.le_of_ble_eq_true rfl)⟩ ⟨(Nat.le_of_ble_eq_true rfl), (Nat.le_of_ble_eq_true rfl)⟩ (Or.inl rfl) (Nat.le_of_ble_eq_true rfl) rfl dL_law_889 rfl (c_X7_drawn (hm.frC f2) (fun I3 r3 f3 => ?_))
  refine g_icmp_eq (tgt := 1091) (q := 895) dL_law_892 (by decide) rfl (fun _ => ?_) (fun c892 => absurd rfl c892)
  exact hnext I3 _ k2 (r2.frM f3) r3 hk2
set_option maxRecDepth 100000 in
set_option maxHeartbeats 400000 in
theorem lc_21 {N a k : Nat} {xs : Nat → Int32} {I : Nat → Nat → Int32} {S : Sg} (ha : a + 6 ≤ N) (hN : N ≤ 3072) (hk : k = 4 ∨ k = 10) (hr : RepC I S) (hm : RepM I S) (hnext : ∀ I2 S2 k2, RepC I2 S2 → RepM I2 S2 → (k2 = 4 ∨ k2 = 10) → G (mLw N xs) room_1 ZL 0 1091 [.ref 1000, .ref 0, .ref 52, .int (nI a)] [] 68 (I2, RR k2) 68 4397) : G (mLw N xs) room_1 ZL 0 897 [.ref 1000, .ref 0, .ref 52, .int (nI a)] [] 68 (I, RR k) 68 4397 := by
  refine g_aload_n (q := 898) dL_law_897 rfl rfl ?_
  refine g_aload_n (q := 899) dL_law_898 rfl rfl ?_
  refine g_iload_n (q := 900) dL_law_899 rfl rfl ?_
  refine g_iconst (q := 901) (v := nI 1) dL_law_900 rfl (by decide) ?_
  refine g_iadd (q := 902) dL_law_901 rfl ?_
  refine g_sldn (q := 903) rfl (by repeat' first | apply nI_a | apply nI_m | exact rfl) (by omega) hN dL_law_902 rfl ?_
  refine k_L_103 (q := 906) (d := 160) (mc := 0) (ms := 0) (n1 := 68) rfl ⟨(Nat.le_of_ble_eq_true rfl), (Nat.le_of_ble_eq_true rfl)⟩ ⟨(Nat.le_of_ble_eq_true rfl), (Nat.le_of_ble_eq_true rfl)⟩ (Or.inl rfl) (Nat.le_of_ble_eq_true rfl) rfl dL_law_903 rfl (c_X6_image hk hr (fun I2 k2 r2 f2 hk2 => ?_))
  refine g_aload_n (q := 907) dL_law_906 rfl rfl ?_
  refine g_aload_n (q := 908) dL_law_907 rfl rfl ?_
  refine g_iload_n (q := 909) dL_law_908 rfl rfl ?_
  refine g_iconst (q := 910) (v := nI 1) dL_law_909 rfl (by decide) ?_
  refine g_iadd (q := 911) dL_law_910 rfl ?_
  refine g_sldn (q := 912) rfl (by repeat' first | apply nI_a | apply nI_m | exact rfl) (by omega) hN dL_law_911 rfl ?_
  refine k_L_106 (q := 915) (d := 160) (mc := 0) (ms := 0) (n1 := 68) rfl ⟨(Nat.le_of_ble_eq_true rfl), (Nat.le_of_ble_eq_true rfl)⟩ ⟨(Nat.le_of_ble_eq_true rfl), (Nat.le_of_ble_eq_true rfl)⟩ (Or.inl rfl) (Nat.le_of_ble_eq_true rfl) rfl dL_law_912 rfl (c_X7_image (hm.frC f2) (fun I3 r3 f3 => ?_))
  refine g_icmp_eq (tgt := 1091) (q := 918) dL_law_915 (by decide) rfl (fun _ => ?_) (fun c915 => absurd rfl c915)
  exact hnext I3 _ k2 (r2.frM f3) r3 hk2
set_option maxRecDepth 100000 in
set_option maxHeartbeats 400000 in
theorem lc_22 {N a k : Nat} {xs : Nat → Int32} {I : Nat → Nat → Int32} {S : Sg} (ha : a + 6 ≤ N) (hN : N ≤ 3072) (hk : k = 4 ∨ k = 10) (hr : RepC I S) (hm : RepM I S) (hnext : ∀ I2 S2 k2, RepC I2 S2 → RepM I2 S2 → (k2 = 4 ∨ k2 = 10) → G (mLw N xs) room_1 ZL 0 1091 [.ref 1000, .ref 0, .ref 52, .int (nI a)] [] 68 (I2, RR k2) 68 4397) : G (mLw N xs) room_1 ZL 0 920 [.ref 1000, .ref 0, .ref 52, .int (nI a)] [] 68 (I, RR k) 68 4397 := by
  refine g_aload_n (q := 921) dL_law_920 rfl rfl ?_
  refine g_aload_n (q := 922) dL_law_921 rfl rfl ?_
  refine g_iload_n (q := 923) dL_law_922 rfl rfl ?_
  refine g_iconst (q := 924) (v := nI 1) dL_law_923 rfl (by decide) ?_
  refine g_iadd (q := 925) dL_law_924 rfl ?_
  refine g_sldn (q := 926) rfl (by repeat' first | apply nI_a | apply nI_m | exact rfl) (by omega) hN dL_law_925 rfl ?_
  refine k_L_107 (q := 929) (d := 160) (mc := 0) (ms := 0) (n1 := 68) rfl ⟨(Nat.le_of_ble_eq_true rfl), (Nat.le_of_ble_eq_true rfl)⟩ ⟨(Nat.le_of_ble_eq_true rfl), (Nat.le_of_ble_eq_true rfl)⟩ (Or.inl rfl) (Nat.le_of_ble_eq_true rfl) rfl dL_law_926 rfl (c_X6_restore hk hr (fun I2 k2 r2 f2 hk2 => ?_))
  refine g_aload_n (q := 930) dL_law_929 rfl rfl ?_
  refine g_aload_n (q := 931) dL_law_930 rfl rfl ?_
  refine g_iload_n (q := 932) dL_law_931 rfl rfl ?_
  refine g_iconst (q := 933) (v := nI 1) dL_law_932 rfl (by decide) ?_
  refine g_iadd (q := 934) dL_law_933 rfl ?_
  refine g_sldn (q := 935) rfl (by repeat' first | apply nI_a | apply nI_m | exact rfl) (by omega) hN dL_law_934 rfl ?_
  refine k_L_110 (q := 938) (d := 160) (mc := 0) (ms := 0) (n1 := 68) rfl ⟨(Nat.le_of_ble_eq_true rfl), (Nat.le_of_ble_eq_true rfl)⟩ ⟨(Nat.le_of_ble_eq_true rfl), (Nat.le_of_ble_eq_true rfl)⟩ (Or.inl rfl) (Nat.le_of_ble_eq_true rfl) rfl dL_law_935 rfl (c_X7_restore (hm.frC f2) (fun I3 r3 f3 => ?_))
  refine g_icmp_eq (tgt := 1091) (q := 941) dL_law_938 (by decide) rfl (fun _ => ?_) (fun c938 => absurd rfl c938)
  exact hnext I3 _ k2 (r2.frM f3) r3 hk2
set_option maxRecDepth 100000 in
set_option maxHeartbeats 400000 in
theorem lc_23 {N a k : Nat} {xs : Nat → Int32} {I : Nat → Nat → Int32} {S : Sg} (ha : a + 6 ≤ N) (hN : N ≤ 3072) (hk : k = 4 ∨ k = 10) (hr : RepC I S) (hm : RepM I S) (hnext : ∀ I2 S2 k2, RepC I2 S2 → RepM I2 S2 → (k2 = 4 ∨ k2 = 10) → G (mLw N xs) room_1 ZL 0 1091 [.ref 1000, .ref 0, .ref 52, .int (nI a)] [] 68 (I2, RR k2) 68 4397) : G (mLw N xs) room_1 ZL 0 943 [.ref 1000, .ref 0, .ref 52, .int (nI a)] [] 68 (I, RR k) 68 4397 := by
  refine g_aload_n (q := 944) dL_law_943 rfl rfl ?_
  refine g_aload_n (q := 945) dL_law_944 rfl rfl ?_
  refine g_iload_n (q := 946) dL_law_945 rfl rfl ?_
  refine g_iconst (q := 947) (v := nI 1) dL_law_946 rfl (by decide) ?_
  refine g_iadd (q := 948) dL_law_947 rfl ?_
  refine g_sldn (q := 949) rfl (by repeat' first | apply nI_a | apply nI_m | exact rfl) (by omega) hN dL_law_948 rfl ?_
  refine k_L_111 (q := 952) (d := 160) (mc := 0) (ms := 0) (n1 := 68) rfl ⟨(Nat.le_of_ble_eq_true rfl), (Nat.le_of_ble_eq_true rfl)⟩ ⟨(Nat.le_of_ble_eq_true rfl), (Nat.le_of_ble_eq_true rfl)⟩ (Or.inl rfl) (Nat.le_of_ble_eq_true rfl) rfl dL_law_949 rfl (c_X6_kind hk hr (fun I2 k2 r2 f2 hk2 => ?_))
  refine g_aload_n (q := 953) dL_law_952 rfl rfl ?_
  refine g_aload_n (q := 954) dL_law_953 rfl rfl ?_
  refine g_iload_n (q := 955) dL_law_954 rfl rfl ?_
  refine g_iconst (q := 956) (v := nI 1) dL_law_955 rfl (by decide) ?_
  refine g_iadd (q := 957) dL_law_956 rfl ?_
  refine g_sldn (q := 958) rfl (by repeat' first | apply nI_a | apply nI_m | exact rfl) (by omega) hN dL_law_957 rfl ?_
  refine k_L_114 (q := 961) (d := 160) (mc := 0) (ms := 0) (n1 := 68) rfl ⟨(Nat.le_of_ble_eq_true rfl), (Nat.le_of_ble_eq_true rfl)⟩ ⟨(Nat.le_of_ble_eq_true rfl), (Nat.le_of_ble_eq_true rfl)⟩ (Or.inl rfl) (Nat.le_of_ble_eq_true rfl) rfl dL_law_958 rfl (c_X7_kind (hm.frC f2) (fun I3 r3 f3 => ?_))
  refine g_icmp_eq (tgt := 1091) (q := 964) dL_law_961 (by decide) rfl (fun _ => ?_) (fun c961 => absurd rfl c961)
  exact hnext I3 _ k2 (r2.frM f3) r3 hk2
set_option maxRecDepth 100000 in
set_option maxHeartbeats 400000 in
theorem lc_24 {N a k : Nat} {xs : Nat → Int32} {I : Nat → Nat → Int32} {S : Sg} (ha : a + 6 ≤ N) (hN : N ≤ 3072) (hk : k = 4 ∨ k = 10) (hr : RepC I S) (hm : RepM I S) (hnext : ∀ I2 S2 k2, RepC I2 S2 → RepM I2 S2 → (k2 = 4 ∨ k2 = 10) → G (mLw N xs) room_1 ZL 0 1091 [.ref 1000, .ref 0, .ref 52, .int (nI a)] [] 68 (I2, RR k2) 68 4397) : G (mLw N xs) room_1 ZL 0 966 [.ref 1000, .ref 0, .ref 52, .int (nI a)] [] 68 (I, RR k) 68 4397 := by
  refine g_aload_n (q := 967) dL_law_966 rfl rfl ?_
  refine g_aload_n (q := 968) dL_law_967 rfl rfl ?_
  refine g_iload_n (q := 969) dL_law_968 rfl rfl ?_
  refine g_iconst (q := 970) (v := nI 1) dL_law_969 rfl (by decide) ?_
  refine g_iadd (q := 971) dL_law_970 rfl ?_
  refine g_sldn (q := 972) rfl (by repeat' first | apply nI_a | apply nI_m | exact rfl) (by omega) hN dL_law_971 rfl ?_
  refine g_aload_n (q := 973) dL_law_972 rfl rfl ?_
  refine g_iload_n (q := 974) dL_law_973 rfl rfl ?_
  refine g_iconst (q := 975) (v := nI 2) dL_law_974 rfl (by decide) ?_
  refine g_iadd (q := 976) dL_law_975 rfl ?_
  refine g_sldn (q := 977) rfl (by repeat' first | apply nI_a | apply nI_m | exact rfl) (by omega) hN dL_law_976 rfl ?_
  refine k_L_115 (q := 980) (d := 160) (mc := 0) (ms := 0) (n1 := 68) rfl ⟨(Nat.le_of_ble_eq_true rfl), (Nat.le_of_ble_eq_true rfl)⟩ ⟨(Nat.le_of_ble_eq_true rfl), (Nat.le_of_ble_eq_true rfl)⟩ (Or.inl rfl) (Nat.le_of_ble_eq_true rfl) rfl dL_law_977 rfl (c_X6_as hk hr (fun I2 k2 r2 f2 hk2 => ?_))
  refine g_aload_n (q := 981) dL_law_980 rfl rfl ?_
  refine g_aload_n (q := 982) dL_law_981 rfl rfl ?_
  refine g_iload_n (q := 983) dL_law_982 rfl rfl ?_
  refine g_iconst (q := 984) (v := nI 1) dL_law_983 rfl (by decide) ?_
  refine g_iadd (q := 985) dL_law_984 rfl ?_
  refine g_sldn (q := 986) rfl (by repeat' first | apply nI_a | apply nI_m | exact rfl) (by omega) hN dL_law_985 rfl ?_
  refine g_aload_n (q := 987) dL_law_986 rfl rfl ?_
  refine g_iload_n (q := 988) dL_law_987 rfl rfl ?_
  refine g_iconst (q := 989) (v := nI 2) dL_law_988 rfl (by decide) ?_
  refine g_iadd (q := 990) dL_law_989 rfl ?_
  refine g_sldn (q := 991) rfl (by repeat' first | apply nI_a | apply nI_m | exact rfl) (by omega) hN dL_law_990 rfl ?_
  refine k_L_118 (q := 994) (d := 160) (mc := 0) (ms := 0) (n1 := 68) rfl ⟨(Nat.le_of_ble_eq_true rfl), (Nat.le_of_ble_eq_true rfl)⟩ ⟨(Nat.le_of_ble_eq_true rfl), (Nat.le_of_ble_eq_true rfl)⟩ (Or.inl rfl) (Nat.le_of_ble_eq_true rfl) rfl dL_law_991 rfl (c_X7_as (hm.frC f2) (fun I3 r3 f3 => ?_))
  refine g_icmp_eq (tgt := 1091) (q := 997) dL_law_994 (by decide) rfl (fun _ => ?_) (fun c994 => absurd rfl c994)
  exact hnext I3 _ k2 (r2.frM f3) r3 hk2
set_option maxRecDepth 100000 in
set_option maxHeartbeats 400000 in
theorem lc_25 {N a k : Nat} {xs : Nat → Int32} {I : Nat → Nat → Int32} {S : Sg} (ha : a + 6 ≤ N) (hN : N ≤ 3072) (hk : k = 4 ∨ k = 10) (hr : RepC I S) (hm : RepM I S) (hnext : ∀ I2 S2 k2, RepC I2 S2 → RepM I2 S2 → (k2 = 4 ∨ k2 = 10) → G (mLw N xs) room_1 ZL 0 1091 [.ref 1000, .ref 0, .ref 52, .int (nI a)] [] 68 (I2, RR k2) 68 4397) : G (mLw N xs) room_1 ZL 0 999 [.ref 1000, .ref 0, .ref 52, .int (nI a)] [] 68 (I, RR k) 68 4397 := by
  refine g_aload_n (q := 1000) dL_law_999 rfl rfl ?_
  refine g_aload_n (q := 1001) dL_law_1000 rfl rfl ?_
  refine g_iload_n (q := 1002) dL_law_1001 rfl rfl ?_
  refine g_iconst (q := 1003) (v := nI 1) dL_law_1002 rfl (by decide) ?_
  refine g_iadd (q := 1004) dL_law_1003 rfl ?_
  refine g_sldn (q := 1005) rfl (by repeat' first | apply nI_a | apply nI_m | exact rfl) (by omega) hN dL_law_1004 rfl ?_
  refine g_aload_n (q := 1006) dL_law_1005 rfl rfl ?_
  refine g_iload_n (q := 1007) dL_law_1006 rfl rfl ?_
  refine g_iconst (q := 1008) (v := nI 2) dL_law_1007 rfl (by decide) ?_
  refine g_iadd (q := 1009) dL_law_1008 rfl ?_
  refine g_sldn (q := 1010) rfl (by repeat' first | apply nI_a | apply nI_m | exact rfl) (by omega) hN dL_law_1009 rfl ?_
  refine k_L_119 (q := 1013) (d := 160) (mc := 0) (ms := 0) (n1 := 68) rfl ⟨(Nat.le_of_ble_eq_true rfl), (Nat.le_of_ble_eq_true rfl)⟩ ⟨(Nat.le_of_ble_eq_true rfl), (Nat.le_of_ble_eq_true rfl)⟩ (Or.inl rfl) (Nat.le_of_ble_eq_true rfl) rfl dL_law_1010 rfl (c_X6_ask hk hr (fun I2 k2 r2 f2 hk2 => ?_))
  refine g_aload_n (q := 1014) dL_law_1013 rfl rfl ?_
  refine g_aload_n (q := 1015) dL_law_1014 rfl rfl ?_
  refine g_iload_n (q := 1016) dL_law_1015 rfl rfl ?_
  refine g_iconst (q := 1017) (v := nI 1) dL_law_1016 rfl (by decide) ?_
  refine g_iadd (q := 1018) dL_law_1017 rfl ?_
  refine g_sldn (q := 1019) rfl (by repeat' first | apply nI_a | apply nI_m | exact rfl) (by omega) hN dL_law_1018 rfl ?_
  refine g_aload_n (q := 1020) dL_law_1019 rfl rfl ?_
  refine g_iload_n (q := 1021) dL_law_1020 rfl rfl ?_
  refine g_iconst (q := 1022) (v := nI 2) dL_law_1021 rfl (by decide) ?_
  refine g_iadd (q := 1023) dL_law_1022 rfl ?_
  refine g_sldn (q := 1024) rfl (by repeat' first | apply nI_a | apply nI_m | exact rfl) (by omega) hN dL_law_1023 rfl ?_
  refine k_L_122 (q := 1027) (d := 160) (mc := 0) (ms := 0) (n1 := 68) rfl ⟨(Nat.le_of_ble_eq_true rfl), (Nat.le_of_ble_eq_true rfl)⟩ ⟨(Nat.le_of_ble_eq_true rfl), (Nat.le_of_ble_eq_true rfl)⟩ (Or.inl rfl) (Nat.le_of_ble_eq_true rfl) rfl dL_law_1024 rfl (c_X7_ask (hm.frC f2) (fun I3 r3 f3 => ?_))
  refine g_icmp_eq (tgt := 1091) (q := 1030) dL_law_1027 (by decide) rfl (fun _ => ?_) (fun c1027 => absurd rfl c1027)
  exact hnext I3 _ k2 (r2.frM f3) r3 hk2
set_option maxRecDepth 100000 in
set_option maxHeartbeats 400000 in
theorem lc_26 {N a k : Nat} {xs : Nat → Int32} {I : Nat → Nat → Int32} {S : Sg} (ha : a + 6 ≤ N) (hN : N ≤ 3072) (hk : k = 4 ∨ k = 10) (hr : RepC I S) (hm : RepM I S) (hnext : ∀ I2 S2 k2, RepC I2 S2 → RepM I2 S2 → (k2 = 4 ∨ k2 = 10) → G (mLw N xs) room_1 ZL 0 1091 [.ref 1000, .ref 0, .ref 52, .int (nI a)] [] 68 (I2, RR k2) 68 4397) : G (mLw N xs) room_1 ZL 0 1032 [.ref 1000, .ref 0, .ref 52, .int (nI a)] [] 68 (I, RR k) 68 4397 := by
  refine g_aload_n (q := 1033) dL_law_1032 rfl rfl ?_
  refine g_aload_n (q := 1034) dL_law_1033 rfl rfl ?_
  refine g_iload_n (q := 1035) dL_law_1034 rfl rfl ?_
  refine g_iconst (q := 1036) (v := nI 1) dL_law_1035 rfl (by decide) ?_
  refine g_iadd (q := 1037) dL_law_1036 rfl ?_
  refine g_sldn (q := 1038) rfl (by repeat' first | apply nI_a | apply nI_m | exact rfl) (by omega) hN dL_law_1037 rfl ?_
  refine k_L_123 (q := 1041) (d := 160) (mc := 0) (ms := 0) (n1 := 68) rfl ⟨(Nat.le_of_ble_eq_true rfl), (Nat.le_of_ble_eq_true rfl)⟩ ⟨(Nat.le_of_ble_eq_true rfl), (Nat.le_of_ble_eq_true rfl)⟩ (Or.inl rfl) (Nat.le_of_ble_eq_true rfl) rfl dL_law_1038 rfl (c_X6_trace hk hr (fun I2 k2 r2 f2 hk2 => ?_))
  refine g_aload_n (q := 1042) dL_law_1041 rfl rfl ?_
  refine g_aload_n (q := 1043) dL_law_1042 rfl rfl ?_
  refine g_iload_n (q := 1044) dL_law_1043 rfl rfl ?_
  refine g_iconst (q := 1045) (v := nI 1) dL_law_1044 rfl (by decide) ?_
  refine g_iadd (q := 1046) dL_law_1045 rfl ?_
  refine g_sldn (q := 1047) rfl (by repeat' first | apply nI_a | apply nI_m | exact rfl) (by omega) hN dL_law_1046 rfl ?_
  refine k_L_126 (q := 1050) (d := 160) (mc := 0) (ms := 0) (n1 := 68) rfl ⟨(Nat.le_of_ble_eq_true rfl), (Nat.le_of_ble_eq_true rfl)⟩ ⟨(Nat.le_of_ble_eq_true rfl), (Nat.le_of_ble_eq_true rfl)⟩ (Or.inl rfl) (Nat.le_of_ble_eq_true rfl) rfl dL_law_1047 rfl (c_X7_trace (hm.frC f2) (fun I3 r3 f3 => ?_))
  refine g_icmp_eq (tgt := 1091) (q := 1053) dL_law_1050 (by decide) rfl (fun _ => ?_) (fun c1050 => absurd rfl c1050)
  exact hnext I3 _ k2 (r2.frM f3) r3 hk2
set_option maxRecDepth 100000 in
set_option maxHeartbeats 400000 in
theorem lc_27 {N a k : Nat} {xs : Nat → Int32} {I : Nat → Nat → Int32} {S : Sg} (ha : a + 6 ≤ N) (hN : N ≤ 3072) (hk : k = 4 ∨ k = 10) (hr : RepC I S) (hm : RepM I S) (hnext : ∀ I2 S2 k2, RepC I2 S2 → RepM I2 S2 → (k2 = 4 ∨ k2 = 10) → G (mLw N xs) room_1 ZL 0 1091 [.ref 1000, .ref 0, .ref 52, .int (nI a)] [] 68 (I2, RR k2) 68 4397) : G (mLw N xs) room_1 ZL 0 1055 [.ref 1000, .ref 0, .ref 52, .int (nI a)] [] 68 (I, RR k) 68 4397 := by
  refine g_aload_n (q := 1056) dL_law_1055 rfl rfl ?_
  refine g_aload_n (q := 1057) dL_law_1056 rfl rfl ?_
  refine g_iload_n (q := 1058) dL_law_1057 rfl rfl ?_
  refine g_iconst (q := 1059) (v := nI 1) dL_law_1058 rfl (by decide) ?_
  refine g_iadd (q := 1060) dL_law_1059 rfl ?_
  refine g_sldn (q := 1061) rfl (by repeat' first | apply nI_a | apply nI_m | exact rfl) (by omega) hN dL_law_1060 rfl ?_
  refine k_L_127 (q := 1064) (d := 160) (mc := 0) (ms := 0) (n1 := 68) rfl ⟨(Nat.le_of_ble_eq_true rfl), (Nat.le_of_ble_eq_true rfl)⟩ ⟨(Nat.le_of_ble_eq_true rfl), (Nat.le_of_ble_eq_true rfl)⟩ (Or.inl rfl) (Nat.le_of_ble_eq_true rfl) rfl dL_law_1061 rfl (c_X6_count hk hr (fun I2 k2 r2 f2 hk2 => ?_))
  refine g_aload_n (q := 1065) dL_law_1064 rfl rfl ?_
  refine g_aload_n (q := 1066) dL_law_1065 rfl rfl ?_
  refine g_iload_n (q := 1067) dL_law_1066 rfl rfl ?_
  refine g_iconst (q := 1068) (v := nI 1) dL_law_1067 rfl (by decide) ?_
  refine g_iadd (q := 1069) dL_law_1068 rfl ?_
  refine g_sldn (q := 1070) rfl (by repeat' first | apply nI_a | apply nI_m | exact rfl) (by omega) hN dL_law_1069 rfl ?_
  refine k_L_130 (q := 1073) (d := 160) (mc := 0) (ms := 0) (n1 := 68) rfl ⟨(Nat.le_of_ble_eq_true rfl), (Nat.le_of_ble_eq_true rfl)⟩ ⟨(Nat.le_of_ble_eq_true rfl), (Nat.le_of_ble_eq_true rfl)⟩ (Or.inl rfl) (Nat.le_of_ble_eq_true rfl) rfl dL_law_1070 rfl (c_X7_count (hm.frC f2) (fun I3 r3 f3 => ?_))
  refine g_icmp_eq (tgt := 1091) (q := 1076) dL_law_1073 (by decide) rfl (fun _ => ?_) (fun c1073 => absurd rfl c1073)
  exact hnext I3 _ k2 (r2.frM f3) r3 hk2
set_option maxRecDepth 100000 in
set_option maxHeartbeats 400000 in
theorem lc_28 {N a k : Nat} {xs : Nat → Int32} {I : Nat → Nat → Int32} {S : Sg} (ha : a + 6 ≤ N) (hN : N ≤ 3072) (hk : k = 4 ∨ k = 10) (hr : RepC I S) (hm : RepM I S) (hnext : ∀ I2 S2 k2, RepC I2 S2 → RepM I2 S2 → (k2 = 4 ∨ k2 = 10) → G (mLw N xs) room_1 ZL 0 1091 [.ref 1000, .ref 0, .ref 52, .int (nI a)] [] 68 (I2, RR k2) 68 4397) : G (mLw N xs) room_1 ZL 0 1078 [.ref 1000, .ref 0, .ref 52, .int (nI a)] [] 68 (I, RR k) 68 4397 := by
  refine g_aload_n (q := 1079) dL_law_1078 rfl rfl ?_
  refine k_L_131 (q := 1082) (d := 160) (mc := 0) (ms := 0) (n1 := 68) rfl ⟨(Nat.le_of_ble_eq_true rfl), (Nat.le_of_ble_eq_true rfl)⟩ ⟨(Nat.le_of_ble_eq_true rfl), (Nat.le_of_ble_eq_true rfl)⟩ (Or.inl rfl) (Nat.le_of_ble_eq_true rfl) rfl dL_law_1079 rfl (c_X6_status hk hr ?_)
  refine g_aload_n (q := 1083) dL_law_1082 rfl rfl ?_
  refine k_L_134 (q := 1086) (d := 160) (mc := 0) (ms := 0) (n1 := 68) rfl ⟨(Nat.le_of_ble_eq_true rfl), (Nat.le_of_ble_eq_true rfl)⟩ ⟨(Nat.le_of_ble_eq_true rfl), (Nat.le_of_ble_eq_true rfl)⟩ (Or.inl rfl) (Nat.le_of_ble_eq_true rfl) rfl dL_law_1083 rfl (c_X7_status hm ?_)
  refine g_icmp_eq (tgt := 1091) (q := 1089) dL_law_1086 (by decide) rfl (fun _ => ?_) (fun c1086 => absurd rfl c1086)
  exact hnext I S k hr hm hk
set_option maxRecDepth 100000 in
set_option maxHeartbeats 400000 in
theorem law_loop {N : Nat} {xs : Nat → Int32} (hN : N ≤ 3072) : ∀ (n a k : Nat) (I : Nat → Nat → Int32) (S : Sg), a ≤ 3072 → N < a + 6 * n → (k = 4 ∨ k = 10) → RepC I S → RepM I S → G (mLw N xs) room_1 ZL 0 18 [.ref 1000, .ref 0, .ref 52, .int (nI a)] [] 68 (I, RR k) 68 4397 := by
  intro n
  induction n with
  | zero =>
    intro a k I S ha hn hk hr hm
    have hx : N < a + 6 := by omega
    refine g_iload_n (q := 19) dL_law_18 rfl rfl ?_
    refine g_aload_n (q := 20) dL_law_19 rfl rfl ?_
    refine g_slen (q := 21) rfl dL_law_20 rfl ?_
    refine g_bipush (q := 23) (v := nI 6) dL_law_21 rfl (by decide) ?_
    refine g_isub (q := 24) dL_law_23 rfl ?_
    refine g_icmp_gt (tgt := 1097) (q := 27) dL_law_24 (by decide) rfl (fun _ => ?_) (fun c24 => absurd ((law_gt hN (by omega)).mpr hx) c24)
    refine g_iconst (q := 1098) (v := nI 1) dL_law_1097 rfl (by decide) ?_
    exact g_lret dL_law_1098 (Nat.le_of_ble_eq_true rfl) (Nat.le_of_ble_eq_true rfl)
  | succ n ih =>
    intro a k I S ha hn hk hr hm
    by_cases hx : N < a + 6
    · refine g_iload_n (q := 19) dL_law_18 rfl rfl ?_
      refine g_aload_n (q := 20) dL_law_19 rfl rfl ?_
      refine g_slen (q := 21) rfl dL_law_20 rfl ?_
      refine g_bipush (q := 23) (v := nI 6) dL_law_21 rfl (by decide) ?_
      refine g_isub (q := 24) dL_law_23 rfl ?_
      refine g_icmp_gt (tgt := 1097) (q := 27) dL_law_24 (by decide) rfl (fun _ => ?_) (fun c24 => absurd ((law_gt hN (by omega)).mpr hx) c24)
      refine g_iconst (q := 1098) (v := nI 1) dL_law_1097 rfl (by decide) ?_
      exact g_lret dL_law_1098 (Nat.le_of_ble_eq_true rfl) (Nat.le_of_ble_eq_true rfl)
    · have ha : a + 6 ≤ N := by omega
      have hnext : ∀ I2 S2 k2, RepC I2 S2 → RepM I2 S2 → (k2 = 4 ∨ k2 = 10) → G (mLw N xs) room_1 ZL 0 1091 [.ref 1000, .ref 0, .ref 52, .int (nI a)] [] 68 (I2, RR k2) 68 4397 := fun I2 S2 k2 h1 h2 h3 => by
        refine g_iinc (q := 1094) (x := nI a) (L2 := [.ref 1000, .ref 0, .ref 52, .int (nI (a + 6))]) dL_law_1091 rfl rfl (by show 3 < 4; decide) rfl (by rw [← inc6]; rfl) ?_
        refine g_goto (q := 18) dL_law_1094 (by decide) ?_
        exact ih (a + 6) k2 I2 S2 (by omega) (by omega) h3 h1 h2
      refine g_iload_n (q := 19) dL_law_18 rfl rfl ?_
      refine g_aload_n (q := 20) dL_law_19 rfl rfl ?_
      refine g_slen (q := 21) rfl dL_law_20 rfl ?_
      refine g_bipush (q := 23) (v := nI 6) dL_law_21 rfl (by decide) ?_
      refine g_isub (q := 24) dL_law_23 rfl ?_
      refine g_icmp_gt (tgt := 1097) (q := 27) dL_law_24 (by decide) rfl (fun c24 => absurd c24 (fun z => hx ((law_gt hN (by omega)).mp z))) (fun _ => ?_)
      refine g_aload_n (q := 28) dL_law_27 rfl rfl ?_
      refine g_iload_n (q := 29) dL_law_28 rfl rfl ?_
      refine g_sldn (q := 30) rfl (by repeat' first | apply nI_a | apply nI_m | exact rfl) (by omega) hN dL_law_29 rfl ?_
      refine g_bipush (q := 32) (v := nI 31) dL_law_30 rfl (by decide) ?_
      refine g_iand (q := 33) dL_law_32 rfl ?_
      obtain ⟨c, hc, e⟩ := and31 (xs a)
      rw [e]
      have h32 : c = 0 ∨ c = 1 ∨ c = 2 ∨ c = 3 ∨ c = 4 ∨ c = 5 ∨ c = 6 ∨ c = 7 ∨ c = 8 ∨ c = 9 ∨ c = 10 ∨ c = 11 ∨ c = 12 ∨ c = 13 ∨ c = 14 ∨ c = 15 ∨ c = 16 ∨ c = 17 ∨ c = 18 ∨ c = 19 ∨ c = 20 ∨ c = 21 ∨ c = 22 ∨ c = 23 ∨ c = 24 ∨ c = 25 ∨ c = 26 ∨ c = 27 ∨ c = 28 ∨ c = 29 ∨ c = 30 ∨ c = 31 := by omega
      rcases h32 with rfl | rfl | rfl | rfl | rfl | rfl | rfl | rfl | rfl | rfl | rfl | rfl | rfl | rfl | rfl | rfl | rfl | rfl | rfl | rfl | rfl | rfl | rfl | rfl | rfl | rfl | rfl | rfl | rfl | rfl | rfl | rfl
      · exact g_tabIn (q := 0) (off := 131) (tgt := 164) dL_law_33 (by decide +kernel) (by decide +kernel) (by decide +kernel) (by decide) (lc_0 ha hN hk hr hm hnext)
      · exact g_tabIn (q := 0) (off := 174) (tgt := 207) dL_law_33 (by decide +kernel) (by decide +kernel) (by decide +kernel) (by decide) (lc_1 ha hN hk hr hm hnext)
      · exact g_tabIn (q := 0) (off := 217) (tgt := 250) dL_law_33 (by decide +kernel) (by decide +kernel) (by decide +kernel) (by decide) (lc_2 ha hN hk hr hm hnext)
      · exact g_tabIn (q := 0) (off := 280) (tgt := 313) dL_law_33 (by decide +kernel) (by decide +kernel) (by decide +kernel) (by decide) (lc_3 ha hN hk hr hm hnext)
      · exact g_tabIn (q := 0) (off := 303) (tgt := 336) dL_law_33 (by decide +kernel) (by decide +kernel) (by decide +kernel) (by decide) (lc_4 ha hN hk hr hm hnext)
      · exact g_tabIn (q := 0) (off := 326) (tgt := 359) dL_law_33 (by decide +kernel) (by decide +kernel) (by decide +kernel) (by decide) (lc_5 ha hN hk hr hm hnext)
      · exact g_tabIn (q := 0) (off := 339) (tgt := 372) dL_law_33 (by decide +kernel) (by decide +kernel) (by decide +kernel) (by decide) (lc_6 ha hN hk hr hm hnext)
      · exact g_tabIn (q := 0) (off := 352) (tgt := 385) dL_law_33 (by decide +kernel) (by decide +kernel) (by decide +kernel) (by decide) (lc_7 ha hN hk hr hm hnext)
      · exact g_tabIn (q := 0) (off := 395) (tgt := 428) dL_law_33 (by decide +kernel) (by decide +kernel) (by decide +kernel) (by decide) (lc_8 ha hN hk hr hm hnext)
      · exact g_tabIn (q := 0) (off := 428) (tgt := 461) dL_law_33 (by decide +kernel) (by decide +kernel) (by decide +kernel) (by decide) (lc_9 ha hN hk hr hm hnext)
      · exact g_tabIn (q := 0) (off := 461) (tgt := 494) dL_law_33 (by decide +kernel) (by decide +kernel) (by decide +kernel) (by decide) (lc_10 ha hN hk hr hm hnext)
      · exact g_tabIn (q := 0) (off := 514) (tgt := 547) dL_law_33 (by decide +kernel) (by decide +kernel) (by decide +kernel) (by decide) (lc_11 ha hN hk hr hm hnext)
      · exact g_tabIn (q := 0) (off := 547) (tgt := 580) dL_law_33 (by decide +kernel) (by decide +kernel) (by decide +kernel) (by decide) (lc_12 ha hN hk hr hm hnext)
      · exact g_tabIn (q := 0) (off := 560) (tgt := 593) dL_law_33 (by decide +kernel) (by decide +kernel) (by decide +kernel) (by decide) (lc_13 ha hN hk hr hm hnext)
      · exact g_tabIn (q := 0) (off := 593) (tgt := 626) dL_law_33 (by decide +kernel) (by decide +kernel) (by decide +kernel) (by decide) (lc_14 ha hN hk hr hm hnext)
      · exact g_tabIn (q := 0) (off := 626) (tgt := 659) dL_law_33 (by decide +kernel) (by decide +kernel) (by decide +kernel) (by decide) (lc_15 ha hN hk hr hm hnext)
      · exact g_tabIn (q := 0) (off := 659) (tgt := 692) dL_law_33 (by decide +kernel) (by decide +kernel) (by decide +kernel) (by decide) (lc_16 ha hN hk hr hm hnext)
      · exact g_tabIn (q := 0) (off := 702) (tgt := 735) dL_law_33 (by decide +kernel) (by decide +kernel) (by decide +kernel) (by decide) (lc_17 ha hN hk hr hm hnext)
      · exact g_tabIn (q := 0) (off := 725) (tgt := 758) dL_law_33 (by decide +kernel) (by decide +kernel) (by decide +kernel) (by decide) (lc_18 ha hN hk hr hm hnext)
      · exact g_tabIn (q := 0) (off := 758) (tgt := 791) dL_law_33 (by decide +kernel) (by decide +kernel) (by decide +kernel) (by decide) (lc_19 ha hN hk hr hm hnext)
      · exact g_tabIn (q := 0) (off := 821) (tgt := 854) dL_law_33 (by decide +kernel) (by decide +kernel) (by decide +kernel) (by decide) (lc_20 ha hN hk hr hm hnext)
      · exact g_tabIn (q := 0) (off := 864) (tgt := 897) dL_law_33 (by decide +kernel) (by decide +kernel) (by decide +kernel) (by decide) (lc_21 ha hN hk hr hm hnext)
      · exact g_tabIn (q := 0) (off := 887) (tgt := 920) dL_law_33 (by decide +kernel) (by decide +kernel) (by decide +kernel) (by decide) (lc_22 ha hN hk hr hm hnext)
      · exact g_tabIn (q := 0) (off := 910) (tgt := 943) dL_law_33 (by decide +kernel) (by decide +kernel) (by decide +kernel) (by decide) (lc_23 ha hN hk hr hm hnext)
      · exact g_tabIn (q := 0) (off := 933) (tgt := 966) dL_law_33 (by decide +kernel) (by decide +kernel) (by decide +kernel) (by decide) (lc_24 ha hN hk hr hm hnext)
      · exact g_tabIn (q := 0) (off := 966) (tgt := 999) dL_law_33 (by decide +kernel) (by decide +kernel) (by decide +kernel) (by decide) (lc_25 ha hN hk hr hm hnext)
      · exact g_tabIn (q := 0) (off := 999) (tgt := 1032) dL_law_33 (by decide +kernel) (by decide +kernel) (by decide +kernel) (by decide) (lc_26 ha hN hk hr hm hnext)
      · exact g_tabIn (q := 0) (off := 1022) (tgt := 1055) dL_law_33 (by decide +kernel) (by decide +kernel) (by decide +kernel) (by decide) (lc_27 ha hN hk hr hm hnext)
      · exact g_tabIn (q := 0) (off := 1045) (tgt := 1078) dL_law_33 (by decide +kernel) (by decide +kernel) (by decide +kernel) (by decide) (lc_28 ha hN hk hr hm hnext)
      · exact g_tabOut (q := 0) (tgt := 1091) dL_law_33 (by decide +kernel) (by decide) (hnext I S k hr hm hk)
      · exact g_tabOut (q := 0) (tgt := 1091) dL_law_33 (by decide +kernel) (by decide) (hnext I S k hr hm hk)
      · exact g_tabOut (q := 0) (tgt := 1091) dL_law_33 (by decide +kernel) (by decide) (hnext I S k hr hm hk)
