/-! the law's body: the script, the switch, the loop -/
def xnt (x : Int32) : Nat := x.toBitVec.toNat
theorem xlt (x : Int32) : xnt x < 2 ^ 32 := x.toBitVec.isLt
theorem xnI (x : Int32) : nI (xnt x) = x := by
  apply Int32.toBitVec_inj.mp
  show BitVec.ofNat 32 x.toBitVec.toNat = x.toBitVec
  rw [BitVec.ofNat_toNat, BitVec.setWidth_eq]
def lwE (b L : Nat) (xs : Nat → Int32) (V : Vt) : State → Prop := fun s => va_X b L xs s s.heap ∧ b < s.heap.size ∧ ¬ V.2.2.2.2 b ∧ V.2.2.2.1 85 = b ∧ L ≤ 320
def lwp : Option Value → Hp → Prop := fun v _ => v = some (.int (nI 1))
theorem lg_self (x : Int64) : lg_cmp x x = 0 := by
  unfold lg_cmp
  rw [if_neg (Int64.lt_irrefl), if_pos rfl]
section Law
variable {V : Vt} {b L i : Nat} {xs : Nat → Int32} {h : Hp}
theorem ga_scr {d : Nat} {own : String} {cc : ByteArray} {nL : Nat} {rt : Option FieldType} {pc : Nat} {lv : List (Option Value)} {st : List Value} {post : Option Value → Hp → Prop} {j : Nat} (pc' : Nat) (hp : pc + 1 = pc') (hj : j < L) (hd : decode cc pc = .ok (.iaload, 1)) (kk : G V (lwE b L xs V) d own cc nL rt pc' lv (.int (nI (xnt (xs j))) :: st) h post) : G V (lwE b L xs V) d own cc nL rt pc lv (.int (nI j) :: rf V 85 :: st) h post := by
  subst hp
  intro p e s m args below meth c R H locs ls cells slots Q C X hP hS hl hc
  obtain ⟨e1, e2, e3, e4, e5⟩ := C.2.2.2.2.2.2.2.2.2.2.2
  have K := kk p e s m args below meth c R H locs ls cells slots Q C X hP hS hl hc
  rw [xnI] at K
  show W p V.1 e R s m args below meth c H locs cells slots Q (F0 m pc ls (.int (nI j) :: .ref (V.2.2.2.1 85) :: st))
  rw [e4]
  refine va_sld C.1 C.2.1 e1 e2 e3 hS (vp_in_nI hj (by omega)) hd ?_
  rw [nI_clamp (by omega)]
  exact K
theorem g_slen {d : Nat} {own : String} {cc : ByteArray} {nL : Nat} {rt : Option FieldType} {pc : Nat} {lv : List (Option Value)} {st : List Value} {post : Option Value → Hp → Prop} (pc' : Nat) (hp : pc + 1 = pc') (hd : decode cc pc = .ok (.arraylength, 1)) (kk : G V (lwE b L xs V) d own cc nL rt pc' lv (.int (nI L) :: st) h post) : G V (lwE b L xs V) d own cc nL rt pc lv (rf V 85 :: st) h post := by
  subst hp
  intro p e s m args below meth c R H locs ls cells slots Q C X hP hS hl hc
  obtain ⟨e1, e2, e3, e4, e5⟩ := C.2.2.2.2.2.2.2.2.2.2.2
  have K := kk p e s m args below meth c R H locs ls cells slots Q C X hP hS hl hc
  show W p V.1 e R s m args below meth c H locs cells slots Q (F0 m pc ls (.ref (V.2.2.2.1 85) :: st))
  rw [e4]
  exact va_slen C.1 C.2.1 e1 e2 e3 hS hd K
theorem lw_0 (I : Inv h) (hi : i + 4 < L) (ih : ∀ g, Inv g → G V (lwE b L xs V) 20 RL cL_law 4 (some .boolean) 933 [some (rf V 85), some (rf V 0), some (rf V 22), some (.int (nI i))] [] g lwp) : G V (lwE b L xs V) 20 RL cL_law 4 (some .boolean) 160 [some (rf V 85), some (rf V 0), some (rf V 22), some (.int (nI i))] [] h lwp := by
  obtain ⟨v, h1, h2, X, M, J⟩ := op_write (V := V) I (xlt (xs (i + 1)))
  refine g_aload_n1 161 rfl dL_law_160 ?_
  refine g_aload_n0 162 rfl dL_law_161 ?_
  refine g_iload_n3 163 rfl dL_law_162 ?_
  refine g_iconst (v := 1) 164 rfl dL_law_163 (by decide) ?_
  refine gn_iadd 165 rfl dL_law_164 ?_
  refine ga_scr 166 rfl (by omega) dL_law_165 ?_
  refine g_cv1i 169 rfl cw_RL_13 dL_law_166 (X) (by omega) (ob_0 V) (Nat.le_of_ble_eq_true rfl) ?_
  refine g_aload_n2 170 rfl dL_law_169 ?_
  refine g_aload_n0 171 rfl dL_law_170 ?_
  refine g_iload_n3 172 rfl dL_law_171 ?_
  refine g_iconst (v := 1) 173 rfl dL_law_172 (by decide) ?_
  refine gn_iadd 174 rfl dL_law_173 ?_
  refine ga_scr 175 rfl (by omega) dL_law_174 ?_
  refine g_cv1i 178 rfl cw_RL_17 dL_law_175 (M) (by omega) (ob_22 V) (Nat.le_of_ble_eq_true rfl) ?_
  refine g_icmp_eq 933 (by decide) 181 rfl dL_law_178 (fun c178 => ?_) (fun c178 => absurd rfl c178)
  exact ih _ J
theorem lw_1 (I : Inv h) (hi : i + 4 < L) (ih : ∀ g, Inv g → G V (lwE b L xs V) 20 RL cL_law 4 (some .boolean) 933 [some (rf V 85), some (rf V 0), some (rf V 22), some (.int (nI i))] [] g lwp) : G V (lwE b L xs V) 20 RL cL_law 4 (some .boolean) 183 [some (rf V 85), some (rf V 0), some (rf V 22), some (.int (nI i))] [] h lwp := by
  obtain ⟨v, h1, h2, X, M, J⟩ := op_wipe (V := V) I 
  refine g_aload_n1 184 rfl dL_law_183 ?_
  refine g_cv0i 187 rfl cw_RL_18 dL_law_184 (X) (by omega) (ob_0 V) (Nat.le_of_ble_eq_true rfl) ?_
  refine g_aload_n2 188 rfl dL_law_187 ?_
  refine g_cv0i 191 rfl cw_RL_22 dL_law_188 (M) (by omega) (ob_22 V) (Nat.le_of_ble_eq_true rfl) ?_
  refine g_icmp_eq 933 (by decide) 194 rfl dL_law_191 (fun c191 => ?_) (fun c191 => absurd rfl c191)
  exact ih _ J
theorem lw_2 (I : Inv h) (hi : i + 4 < L) (ih : ∀ g, Inv g → G V (lwE b L xs V) 20 RL cL_law 4 (some .boolean) 933 [some (rf V 85), some (rf V 0), some (rf V 22), some (.int (nI i))] [] g lwp) : G V (lwE b L xs V) 20 RL cL_law 4 (some .boolean) 196 [some (rf V 85), some (rf V 0), some (rf V 22), some (.int (nI i))] [] h lwp := by
  obtain ⟨v, h1, h2, X, M, J⟩ := op_fault (V := V) I 
  refine g_aload_n1 197 rfl dL_law_196 ?_
  refine g_cv0i 200 rfl cw_RL_23 dL_law_197 (X) (by omega) (ob_0 V) (Nat.le_of_ble_eq_true rfl) ?_
  refine g_aload_n2 201 rfl dL_law_200 ?_
  refine g_cv0i 204 rfl cw_RL_26 dL_law_201 (M) (by omega) (ob_22 V) (Nat.le_of_ble_eq_true rfl) ?_
  refine g_icmp_eq 933 (by decide) 207 rfl dL_law_204 (fun c204 => ?_) (fun c204 => absurd rfl c204)
  exact ih _ J
theorem lw_3 (I : Inv h) (hi : i + 4 < L) (ih : ∀ g, Inv g → G V (lwE b L xs V) 20 RL cL_law 4 (some .boolean) 933 [some (rf V 85), some (rf V 0), some (rf V 22), some (.int (nI i))] [] g lwp) : G V (lwE b L xs V) 20 RL cL_law 4 (some .boolean) 209 [some (rf V 85), some (rf V 0), some (rf V 22), some (.int (nI i))] [] h lwp := by
  obtain ⟨v, h1, h2, X, M, J⟩ := op_talk (V := V) I 
  refine g_aload_n1 210 rfl dL_law_209 ?_
  refine g_cv0i 213 rfl cw_RL_27 dL_law_210 (X) (by omega) (ob_0 V) (Nat.le_of_ble_eq_true rfl) ?_
  refine g_aload_n2 214 rfl dL_law_213 ?_
  refine g_cv0i 217 rfl cw_RL_30 dL_law_214 (M) (by omega) (ob_22 V) (Nat.le_of_ble_eq_true rfl) ?_
  refine g_icmp_eq 933 (by decide) 220 rfl dL_law_217 (fun c217 => ?_) (fun c217 => absurd rfl c217)
  exact ih _ J
theorem lw_4 (I : Inv h) (hi : i + 4 < L) (ih : ∀ g, Inv g → G V (lwE b L xs V) 20 RL cL_law 4 (some .boolean) 933 [some (rf V 85), some (rf V 0), some (rf V 22), some (.int (nI i))] [] g lwp) : G V (lwE b L xs V) 20 RL cL_law 4 (some .boolean) 222 [some (rf V 85), some (rf V 0), some (rf V 22), some (.int (nI i))] [] h lwp := by
  obtain ⟨v, h1, h2, X, M, J⟩ := op_about (V := V) I (xlt (xs (i + 1)))
  refine g_aload_n1 223 rfl dL_law_222 ?_
  refine g_aload_n0 224 rfl dL_law_223 ?_
  refine g_iload_n3 225 rfl dL_law_224 ?_
  refine g_iconst (v := 1) 226 rfl dL_law_225 (by decide) ?_
  refine gn_iadd 227 rfl dL_law_226 ?_
  refine ga_scr 228 rfl (by omega) dL_law_227 ?_
  refine g_cv1i 231 rfl cw_RL_31 dL_law_228 (X) (by omega) (ob_0 V) (Nat.le_of_ble_eq_true rfl) ?_
  refine g_aload_n2 232 rfl dL_law_231 ?_
  refine g_aload_n0 233 rfl dL_law_232 ?_
  refine g_iload_n3 234 rfl dL_law_233 ?_
  refine g_iconst (v := 1) 235 rfl dL_law_234 (by decide) ?_
  refine gn_iadd 236 rfl dL_law_235 ?_
  refine ga_scr 237 rfl (by omega) dL_law_236 ?_
  refine g_cv1i 240 rfl cw_RL_34 dL_law_237 (M) (by omega) (ob_22 V) (Nat.le_of_ble_eq_true rfl) ?_
  refine g_icmp_eq 933 (by decide) 243 rfl dL_law_240 (fun c240 => ?_) (fun c240 => absurd rfl c240)
  exact ih _ J
theorem lw_5 (I : Inv h) (hi : i + 4 < L) (ih : ∀ g, Inv g → G V (lwE b L xs V) 20 RL cL_law 4 (some .boolean) 933 [some (rf V 85), some (rf V 0), some (rf V 22), some (.int (nI i))] [] g lwp) : G V (lwE b L xs V) 20 RL cL_law 4 (some .boolean) 245 [some (rf V 85), some (rf V 0), some (rf V 22), some (.int (nI i))] [] h lwp := by
  obtain ⟨v, h1, h2, X, M, J⟩ := op_envoy (V := V) I (xlt (xs (i + 1))) (xlt (xs (i + 2)))
  refine g_aload_n1 246 rfl dL_law_245 ?_
  refine g_aload_n0 247 rfl dL_law_246 ?_
  refine g_iload_n3 248 rfl dL_law_247 ?_
  refine g_iconst (v := 1) 249 rfl dL_law_248 (by decide) ?_
  refine gn_iadd 250 rfl dL_law_249 ?_
  refine ga_scr 251 rfl (by omega) dL_law_250 ?_
  refine g_aload_n0 252 rfl dL_law_251 ?_
  refine g_iload_n3 253 rfl dL_law_252 ?_
  refine g_iconst (v := 2) 254 rfl dL_law_253 (by decide) ?_
  refine gn_iadd 255 rfl dL_law_254 ?_
  refine ga_scr 256 rfl (by omega) dL_law_255 ?_
  refine g_cv2i 259 rfl cw_RL_35 dL_law_256 (X) (by omega) (ob_0 V) (Nat.le_of_ble_eq_true rfl) ?_
  refine g_aload_n2 260 rfl dL_law_259 ?_
  refine g_aload_n0 261 rfl dL_law_260 ?_
  refine g_iload_n3 262 rfl dL_law_261 ?_
  refine g_iconst (v := 1) 263 rfl dL_law_262 (by decide) ?_
  refine gn_iadd 264 rfl dL_law_263 ?_
  refine ga_scr 265 rfl (by omega) dL_law_264 ?_
  refine g_aload_n0 266 rfl dL_law_265 ?_
  refine g_iload_n3 267 rfl dL_law_266 ?_
  refine g_iconst (v := 2) 268 rfl dL_law_267 (by decide) ?_
  refine gn_iadd 269 rfl dL_law_268 ?_
  refine ga_scr 270 rfl (by omega) dL_law_269 ?_
  refine g_cv2i 273 rfl cw_RL_39 dL_law_270 (M) (by omega) (ob_22 V) (Nat.le_of_ble_eq_true rfl) ?_
  refine g_icmp_eq 933 (by decide) 276 rfl dL_law_273 (fun c273 => ?_) (fun c273 => absurd rfl c273)
  exact ih _ J
theorem lw_6 (I : Inv h) (hi : i + 4 < L) (ih : ∀ g, Inv g → G V (lwE b L xs V) 20 RL cL_law 4 (some .boolean) 933 [some (rf V 85), some (rf V 0), some (rf V 22), some (.int (nI i))] [] g lwp) : G V (lwE b L xs V) 20 RL cL_law 4 (some .boolean) 278 [some (rf V 85), some (rf V 0), some (rf V 22), some (.int (nI i))] [] h lwp := by
  obtain ⟨v, h1, h2, X, M, J⟩ := op_clause (V := V) I (xlt (xs (i + 1))) (xlt (xs (i + 2)))
  refine g_aload_n1 279 rfl dL_law_278 ?_
  refine g_aload_n0 280 rfl dL_law_279 ?_
  refine g_iload_n3 281 rfl dL_law_280 ?_
  refine g_iconst (v := 1) 282 rfl dL_law_281 (by decide) ?_
  refine gn_iadd 283 rfl dL_law_282 ?_
  refine ga_scr 284 rfl (by omega) dL_law_283 ?_
  refine g_aload_n0 285 rfl dL_law_284 ?_
  refine g_iload_n3 286 rfl dL_law_285 ?_
  refine g_iconst (v := 2) 287 rfl dL_law_286 (by decide) ?_
  refine gn_iadd 288 rfl dL_law_287 ?_
  refine ga_scr 289 rfl (by omega) dL_law_288 ?_
  refine g_cv2i 292 rfl cw_RL_40 dL_law_289 (X) (by omega) (ob_0 V) (Nat.le_of_ble_eq_true rfl) ?_
  refine g_aload_n2 293 rfl dL_law_292 ?_
  refine g_aload_n0 294 rfl dL_law_293 ?_
  refine g_iload_n3 295 rfl dL_law_294 ?_
  refine g_iconst (v := 1) 296 rfl dL_law_295 (by decide) ?_
  refine gn_iadd 297 rfl dL_law_296 ?_
  refine ga_scr 298 rfl (by omega) dL_law_297 ?_
  refine g_aload_n0 299 rfl dL_law_298 ?_
  refine g_iload_n3 300 rfl dL_law_299 ?_
  refine g_iconst (v := 2) 301 rfl dL_law_300 (by decide) ?_
  refine gn_iadd 302 rfl dL_law_301 ?_
  refine ga_scr 303 rfl (by omega) dL_law_302 ?_
  refine g_cv2i 306 rfl cw_RL_43 dL_law_303 (M) (by omega) (ob_22 V) (Nat.le_of_ble_eq_true rfl) ?_
  refine g_icmp_eq 933 (by decide) 309 rfl dL_law_306 (fun c306 => ?_) (fun c306 => absurd rfl c306)
  exact ih _ J
theorem lw_7 (I : Inv h) (hi : i + 4 < L) (ih : ∀ g, Inv g → G V (lwE b L xs V) 20 RL cL_law 4 (some .boolean) 933 [some (rf V 85), some (rf V 0), some (rf V 22), some (.int (nI i))] [] g lwp) : G V (lwE b L xs V) 20 RL cL_law 4 (some .boolean) 311 [some (rf V 85), some (rf V 0), some (rf V 22), some (.int (nI i))] [] h lwp := by
  obtain ⟨v, h1, h2, X, M, J⟩ := op_bite (V := V) I 
  refine g_aload_n1 312 rfl dL_law_311 ?_
  refine g_cv0i 315 rfl cw_RL_44 dL_law_312 (X) (by omega) (ob_0 V) (Nat.le_of_ble_eq_true rfl) ?_
  refine g_aload_n2 316 rfl dL_law_315 ?_
  refine g_cv0i 319 rfl cw_RL_47 dL_law_316 (M) (by omega) (ob_22 V) (Nat.le_of_ble_eq_true rfl) ?_
  refine g_icmp_eq 933 (by decide) 322 rfl dL_law_319 (fun c319 => ?_) (fun c319 => absurd rfl c319)
  exact ih _ J
theorem lw_8 (I : Inv h) (hi : i + 4 < L) (ih : ∀ g, Inv g → G V (lwE b L xs V) 20 RL cL_law 4 (some .boolean) 933 [some (rf V 85), some (rf V 0), some (rf V 22), some (.int (nI i))] [] g lwp) : G V (lwE b L xs V) 20 RL cL_law 4 (some .boolean) 324 [some (rf V 85), some (rf V 0), some (rf V 22), some (.int (nI i))] [] h lwp := by
  obtain ⟨v, h1, h2, X, M, J⟩ := op_say (V := V) I (xlt (xs (i + 1)))
  refine g_aload_n1 325 rfl dL_law_324 ?_
  refine g_aload_n0 326 rfl dL_law_325 ?_
  refine g_iload_n3 327 rfl dL_law_326 ?_
  refine g_iconst (v := 1) 328 rfl dL_law_327 (by decide) ?_
  refine gn_iadd 329 rfl dL_law_328 ?_
  refine ga_scr 330 rfl (by omega) dL_law_329 ?_
  refine g_cv1i 333 rfl cw_RL_48 dL_law_330 (X) (by omega) (ob_0 V) (Nat.le_of_ble_eq_true rfl) ?_
  refine g_aload_n2 334 rfl dL_law_333 ?_
  refine g_aload_n0 335 rfl dL_law_334 ?_
  refine g_iload_n3 336 rfl dL_law_335 ?_
  refine g_iconst (v := 1) 337 rfl dL_law_336 (by decide) ?_
  refine gn_iadd 338 rfl dL_law_337 ?_
  refine ga_scr 339 rfl (by omega) dL_law_338 ?_
  refine g_cv1i 342 rfl cw_RL_51 dL_law_339 (M) (by omega) (ob_22 V) (Nat.le_of_ble_eq_true rfl) ?_
  refine g_icmp_eq 933 (by decide) 345 rfl dL_law_342 (fun c342 => ?_) (fun c342 => absurd rfl c342)
  exact ih _ J
theorem lw_9 (I : Inv h) (hi : i + 4 < L) (ih : ∀ g, Inv g → G V (lwE b L xs V) 20 RL cL_law 4 (some .boolean) 933 [some (rf V 85), some (rf V 0), some (rf V 22), some (.int (nI i))] [] g lwp) : G V (lwE b L xs V) 20 RL cL_law 4 (some .boolean) 347 [some (rf V 85), some (rf V 0), some (rf V 22), some (.int (nI i))] [] h lwp := by
  obtain ⟨v, h1, h2, X, M, J⟩ := op_spice (V := V) I 
  refine g_aload_n1 348 rfl dL_law_347 ?_
  refine g_cv0i 351 rfl cw_RL_52 dL_law_348 (X) (by omega) (ob_0 V) (Nat.le_of_ble_eq_true rfl) ?_
  refine g_aload_n2 352 rfl dL_law_351 ?_
  refine g_cv0i 355 rfl cw_RL_55 dL_law_352 (M) (by omega) (ob_22 V) (Nat.le_of_ble_eq_true rfl) ?_
  refine g_icmp_eq 933 (by decide) 358 rfl dL_law_355 (fun c355 => ?_) (fun c355 => absurd rfl c355)
  exact ih _ J
theorem lw_10 (I : Inv h) (hi : i + 4 < L) (ih : ∀ g, Inv g → G V (lwE b L xs V) 20 RL cL_law 4 (some .boolean) 933 [some (rf V 85), some (rf V 0), some (rf V 22), some (.int (nI i))] [] g lwp) : G V (lwE b L xs V) 20 RL cL_law 4 (some .boolean) 360 [some (rf V 85), some (rf V 0), some (rf V 22), some (.int (nI i))] [] h lwp := by
  obtain ⟨v, h1, h2, X, M, J⟩ := op_bread (V := V) I (xlt (xs (i + 1)))
  refine g_aload_n1 361 rfl dL_law_360 ?_
  refine g_aload_n0 362 rfl dL_law_361 ?_
  refine g_iload_n3 363 rfl dL_law_362 ?_
  refine g_iconst (v := 1) 364 rfl dL_law_363 (by decide) ?_
  refine gn_iadd 365 rfl dL_law_364 ?_
  refine ga_scr 366 rfl (by omega) dL_law_365 ?_
  refine g_cv1i 369 rfl cw_RL_56 dL_law_366 (X) (by omega) (ob_0 V) (Nat.le_of_ble_eq_true rfl) ?_
  refine g_aload_n2 370 rfl dL_law_369 ?_
  refine g_aload_n0 371 rfl dL_law_370 ?_
  refine g_iload_n3 372 rfl dL_law_371 ?_
  refine g_iconst (v := 1) 373 rfl dL_law_372 (by decide) ?_
  refine gn_iadd 374 rfl dL_law_373 ?_
  refine ga_scr 375 rfl (by omega) dL_law_374 ?_
  refine g_cv1i 378 rfl cw_RL_59 dL_law_375 (M) (by omega) (ob_22 V) (Nat.le_of_ble_eq_true rfl) ?_
  refine g_icmp_eq 933 (by decide) 381 rfl dL_law_378 (fun c378 => ?_) (fun c378 => absurd rfl c378)
  exact ih _ J
theorem lw_11 (I : Inv h) (hi : i + 4 < L) (ih : ∀ g, Inv g → G V (lwE b L xs V) 20 RL cL_law 4 (some .boolean) 933 [some (rf V 85), some (rf V 0), some (rf V 22), some (.int (nI i))] [] g lwp) : G V (lwE b L xs V) 20 RL cL_law 4 (some .boolean) 383 [some (rf V 85), some (rf V 0), some (rf V 22), some (.int (nI i))] [] h lwp := by
  obtain ⟨v, h1, h2, X, M, J⟩ := op_undo (V := V) I 
  refine g_aload_n1 384 rfl dL_law_383 ?_
  refine g_cv0i 387 rfl cw_RL_60 dL_law_384 (X) (by omega) (ob_0 V) (Nat.le_of_ble_eq_true rfl) ?_
  refine g_aload_n2 388 rfl dL_law_387 ?_
  refine g_cv0i 391 rfl cw_RL_63 dL_law_388 (M) (by omega) (ob_22 V) (Nat.le_of_ble_eq_true rfl) ?_
  refine g_icmp_eq 933 (by decide) 394 rfl dL_law_391 (fun c391 => ?_) (fun c391 => absurd rfl c391)
  exact ih _ J
theorem lw_12 (I : Inv h) (hi : i + 4 < L) (ih : ∀ g, Inv g → G V (lwE b L xs V) 20 RL cL_law 4 (some .boolean) 933 [some (rf V 85), some (rf V 0), some (rf V 22), some (.int (nI i))] [] g lwp) : G V (lwE b L xs V) 20 RL cL_law 4 (some .boolean) 396 [some (rf V 85), some (rf V 0), some (rf V 22), some (.int (nI i))] [] h lwp := by
  obtain ⟨v, h1, h2, X, M, J⟩ := op_lasts (V := V) I 
  refine g_aload_n1 397 rfl dL_law_396 ?_
  refine g_cv0i 400 rfl cw_RL_64 dL_law_397 (X) (by omega) (ob_0 V) (Nat.le_of_ble_eq_true rfl) ?_
  refine g_aload_n2 401 rfl dL_law_400 ?_
  refine g_cv0i 404 rfl cw_RL_67 dL_law_401 (M) (by omega) (ob_22 V) (Nat.le_of_ble_eq_true rfl) ?_
  refine g_icmp_eq 933 (by decide) 407 rfl dL_law_404 (fun c404 => ?_) (fun c404 => absurd rfl c404)
  exact ih _ J
theorem lw_13 (I : Inv h) (hi : i + 4 < L) (ih : ∀ g, Inv g → G V (lwE b L xs V) 20 RL cL_law 4 (some .boolean) 933 [some (rf V 85), some (rf V 0), some (rf V 22), some (.int (nI i))] [] g lwp) : G V (lwE b L xs V) 20 RL cL_law 4 (some .boolean) 409 [some (rf V 85), some (rf V 0), some (rf V 22), some (.int (nI i))] [] h lwp := by
  obtain ⟨v, h1, h2, X, M, J⟩ := op_bears (V := V) I (xlt (xs (i + 1)))
  refine g_aload_n1 410 rfl dL_law_409 ?_
  refine g_aload_n0 411 rfl dL_law_410 ?_
  refine g_iload_n3 412 rfl dL_law_411 ?_
  refine g_iconst (v := 1) 413 rfl dL_law_412 (by decide) ?_
  refine gn_iadd 414 rfl dL_law_413 ?_
  refine ga_scr 415 rfl (by omega) dL_law_414 ?_
  refine g_cv1i 418 rfl cw_RL_68 dL_law_415 (X) (by omega) (ob_0 V) (Nat.le_of_ble_eq_true rfl) ?_
  refine g_aload_n2 419 rfl dL_law_418 ?_
  refine g_aload_n0 420 rfl dL_law_419 ?_
  refine g_iload_n3 421 rfl dL_law_420 ?_
  refine g_iconst (v := 1) 422 rfl dL_law_421 (by decide) ?_
  refine gn_iadd 423 rfl dL_law_422 ?_
  refine ga_scr 424 rfl (by omega) dL_law_423 ?_
  refine g_cv1i 427 rfl cw_RL_71 dL_law_424 (M) (by omega) (ob_22 V) (Nat.le_of_ble_eq_true rfl) ?_
  refine g_icmp_eq 933 (by decide) 430 rfl dL_law_427 (fun c427 => ?_) (fun c427 => absurd rfl c427)
  exact ih _ J
theorem lw_14 (I : Inv h) (hi : i + 4 < L) (ih : ∀ g, Inv g → G V (lwE b L xs V) 20 RL cL_law 4 (some .boolean) 933 [some (rf V 85), some (rf V 0), some (rf V 22), some (.int (nI i))] [] g lwp) : G V (lwE b L xs V) 20 RL cL_law 4 (some .boolean) 432 [some (rf V 85), some (rf V 0), some (rf V 22), some (.int (nI i))] [] h lwp := by
  by_cases w : nI (xnt (xs (i + 2))) = 0
  · obtain ⟨v, h1, h2, X, M, J⟩ := op_best (V := V) I (xlt (xs (i + 1))) (show 0 < 2 by decide)
    refine g_aload_n1 433 rfl dL_law_432 ?_
    refine g_aload_n0 434 rfl dL_law_433 ?_
    refine g_iload_n3 435 rfl dL_law_434 ?_
    refine g_iconst (v := 1) 436 rfl dL_law_435 (by decide) ?_
    refine gn_iadd 437 rfl dL_law_436 ?_
    refine ga_scr 438 rfl (by omega) dL_law_437 ?_
    refine g_aload_n0 439 rfl dL_law_438 ?_
    refine g_iload_n3 440 rfl dL_law_439 ?_
    refine g_iconst (v := 2) 441 rfl dL_law_440 (by decide) ?_
    refine gn_iadd 442 rfl dL_law_441 ?_
    refine ga_scr 443 rfl (by omega) dL_law_442 ?_
    refine g_if_eq 450 (by decide) 446 rfl dL_law_443 (fun c443 => ?_) (fun c443 => absurd w c443)
    refine g_iconst (v := 0) 451 rfl dL_law_450 (by decide) ?_
    refine g_cv2i 454 rfl cw_RL_72 dL_law_451 (X) (by omega) (ob_0 V) (Nat.le_of_ble_eq_true rfl) ?_
    refine g_aload_n2 455 rfl dL_law_454 ?_
    refine g_aload_n0 456 rfl dL_law_455 ?_
    refine g_iload_n3 457 rfl dL_law_456 ?_
    refine g_iconst (v := 1) 458 rfl dL_law_457 (by decide) ?_
    refine gn_iadd 459 rfl dL_law_458 ?_
    refine ga_scr 460 rfl (by omega) dL_law_459 ?_
    refine g_aload_n0 461 rfl dL_law_460 ?_
    refine g_iload_n3 462 rfl dL_law_461 ?_
    refine g_iconst (v := 2) 463 rfl dL_law_462 (by decide) ?_
    refine gn_iadd 464 rfl dL_law_463 ?_
    refine ga_scr 465 rfl (by omega) dL_law_464 ?_
    refine g_if_eq 472 (by decide) 468 rfl dL_law_465 (fun c465 => ?_) (fun c465 => absurd w c465)
    refine g_iconst (v := 0) 473 rfl dL_law_472 (by decide) ?_
    refine g_cv2i 476 rfl cw_RL_76 dL_law_473 (M) (by omega) (ob_22 V) (Nat.le_of_ble_eq_true rfl) ?_
    refine g_icmp_eq 933 (by decide) 479 rfl dL_law_476 (fun c476 => ?_) (fun c476 => absurd rfl c476)
    exact ih _ J
  · obtain ⟨v, h1, h2, X, M, J⟩ := op_best (V := V) I (xlt (xs (i + 1))) (show 1 < 2 by decide)
    refine g_aload_n1 433 rfl dL_law_432 ?_
    refine g_aload_n0 434 rfl dL_law_433 ?_
    refine g_iload_n3 435 rfl dL_law_434 ?_
    refine g_iconst (v := 1) 436 rfl dL_law_435 (by decide) ?_
    refine gn_iadd 437 rfl dL_law_436 ?_
    refine ga_scr 438 rfl (by omega) dL_law_437 ?_
    refine g_aload_n0 439 rfl dL_law_438 ?_
    refine g_iload_n3 440 rfl dL_law_439 ?_
    refine g_iconst (v := 2) 441 rfl dL_law_440 (by decide) ?_
    refine gn_iadd 442 rfl dL_law_441 ?_
    refine ga_scr 443 rfl (by omega) dL_law_442 ?_
    refine g_if_eq 450 (by decide) 446 rfl dL_law_443 (fun c443 => absurd c443 w) (fun c443 => ?_)
    refine g_iconst (v := 1) 447 rfl dL_law_446 (by decide) ?_
    refine g_goto 451 (by decide) dL_law_447 ?_
    refine g_cv2i 454 rfl cw_RL_72 dL_law_451 (X) (by omega) (ob_0 V) (Nat.le_of_ble_eq_true rfl) ?_
    refine g_aload_n2 455 rfl dL_law_454 ?_
    refine g_aload_n0 456 rfl dL_law_455 ?_
    refine g_iload_n3 457 rfl dL_law_456 ?_
    refine g_iconst (v := 1) 458 rfl dL_law_457 (by decide) ?_
    refine gn_iadd 459 rfl dL_law_458 ?_
    refine ga_scr 460 rfl (by omega) dL_law_459 ?_
    refine g_aload_n0 461 rfl dL_law_460 ?_
    refine g_iload_n3 462 rfl dL_law_461 ?_
    refine g_iconst (v := 2) 463 rfl dL_law_462 (by decide) ?_
    refine gn_iadd 464 rfl dL_law_463 ?_
    refine ga_scr 465 rfl (by omega) dL_law_464 ?_
    refine g_if_eq 472 (by decide) 468 rfl dL_law_465 (fun c465 => absurd c465 w) (fun c465 => ?_)
    refine g_iconst (v := 1) 469 rfl dL_law_468 (by decide) ?_
    refine g_goto 473 (by decide) dL_law_469 ?_
    refine g_cv2i 476 rfl cw_RL_76 dL_law_473 (M) (by omega) (ob_22 V) (Nat.le_of_ble_eq_true rfl) ?_
    refine g_icmp_eq 933 (by decide) 479 rfl dL_law_476 (fun c476 => ?_) (fun c476 => absurd rfl c476)
    exact ih _ J
theorem lw_15 (I : Inv h) (hi : i + 4 < L) (ih : ∀ g, Inv g → G V (lwE b L xs V) 20 RL cL_law 4 (some .boolean) 933 [some (rf V 85), some (rf V 0), some (rf V 22), some (.int (nI i))] [] g lwp) : G V (lwE b L xs V) 20 RL cL_law 4 (some .boolean) 481 [some (rf V 85), some (rf V 0), some (rf V 22), some (.int (nI i))] [] h lwp := by
  obtain ⟨v, h1, h2, X, M, J⟩ := op_hot (V := V) I (xlt (xs (i + 1))) (xlt (xs (i + 2)))
  refine g_aload_n1 482 rfl dL_law_481 ?_
  refine g_aload_n0 483 rfl dL_law_482 ?_
  refine g_iload_n3 484 rfl dL_law_483 ?_
  refine g_iconst (v := 1) 485 rfl dL_law_484 (by decide) ?_
  refine gn_iadd 486 rfl dL_law_485 ?_
  refine ga_scr 487 rfl (by omega) dL_law_486 ?_
  refine g_aload_n0 488 rfl dL_law_487 ?_
  refine g_iload_n3 489 rfl dL_law_488 ?_
  refine g_iconst (v := 2) 490 rfl dL_law_489 (by decide) ?_
  refine gn_iadd 491 rfl dL_law_490 ?_
  refine ga_scr 492 rfl (by omega) dL_law_491 ?_
  refine g_cv2i 495 rfl cw_RL_77 dL_law_492 (X) (by omega) (ob_0 V) (Nat.le_of_ble_eq_true rfl) ?_
  refine g_aload_n2 496 rfl dL_law_495 ?_
  refine g_aload_n0 497 rfl dL_law_496 ?_
  refine g_iload_n3 498 rfl dL_law_497 ?_
  refine g_iconst (v := 1) 499 rfl dL_law_498 (by decide) ?_
  refine gn_iadd 500 rfl dL_law_499 ?_
  refine ga_scr 501 rfl (by omega) dL_law_500 ?_
  refine g_aload_n0 502 rfl dL_law_501 ?_
  refine g_iload_n3 503 rfl dL_law_502 ?_
  refine g_iconst (v := 2) 504 rfl dL_law_503 (by decide) ?_
  refine gn_iadd 505 rfl dL_law_504 ?_
  refine ga_scr 506 rfl (by omega) dL_law_505 ?_
  refine g_cv2i 509 rfl cw_RL_80 dL_law_506 (M) (by omega) (ob_22 V) (Nat.le_of_ble_eq_true rfl) ?_
  refine g_icmp_eq 933 (by decide) 512 rfl dL_law_509 (fun c509 => ?_) (fun c509 => absurd rfl c509)
  exact ih _ J
theorem lw_16 (I : Inv h) (hi : i + 4 < L) (ih : ∀ g, Inv g → G V (lwE b L xs V) 20 RL cL_law 4 (some .boolean) 933 [some (rf V 85), some (rf V 0), some (rf V 22), some (.int (nI i))] [] g lwp) : G V (lwE b L xs V) 20 RL cL_law 4 (some .boolean) 514 [some (rf V 85), some (rf V 0), some (rf V 22), some (.int (nI i))] [] h lwp := by
  obtain ⟨v, h1, h2, X, M, J⟩ := op_spiceFor (V := V) I (xlt (xs (i + 1)))
  refine g_aload_n1 515 rfl dL_law_514 ?_
  refine g_aload_n0 516 rfl dL_law_515 ?_
  refine g_iload_n3 517 rfl dL_law_516 ?_
  refine g_iconst (v := 1) 518 rfl dL_law_517 (by decide) ?_
  refine gn_iadd 519 rfl dL_law_518 ?_
  refine ga_scr 520 rfl (by omega) dL_law_519 ?_
  refine g_cv1i 523 rfl cw_RL_81 dL_law_520 (X) (by omega) (ob_0 V) (Nat.le_of_ble_eq_true rfl) ?_
  refine g_aload_n2 524 rfl dL_law_523 ?_
  refine g_aload_n0 525 rfl dL_law_524 ?_
  refine g_iload_n3 526 rfl dL_law_525 ?_
  refine g_iconst (v := 1) 527 rfl dL_law_526 (by decide) ?_
  refine gn_iadd 528 rfl dL_law_527 ?_
  refine ga_scr 529 rfl (by omega) dL_law_528 ?_
  refine g_cv1i 532 rfl cw_RL_84 dL_law_529 (M) (by omega) (ob_22 V) (Nat.le_of_ble_eq_true rfl) ?_
  refine g_icmp_eq 933 (by decide) 535 rfl dL_law_532 (fun c532 => ?_) (fun c532 => absurd rfl c532)
  exact ih _ J
theorem lw_17 (I : Inv h) (hi : i + 4 < L) (ih : ∀ g, Inv g → G V (lwE b L xs V) 20 RL cL_law 4 (some .boolean) 933 [some (rf V 85), some (rf V 0), some (rf V 22), some (.int (nI i))] [] g lwp) : G V (lwE b L xs V) 20 RL cL_law 4 (some .boolean) 537 [some (rf V 85), some (rf V 0), some (rf V 22), some (.int (nI i))] [] h lwp := by
  obtain ⟨v, h1, h2, X, M, J⟩ := op_judge (V := V) I (xlt (xs (i + 1))) (xlt (xs (i + 2)))
  refine g_aload_n1 538 rfl dL_law_537 ?_
  refine g_aload_n0 539 rfl dL_law_538 ?_
  refine g_iload_n3 540 rfl dL_law_539 ?_
  refine g_iconst (v := 1) 541 rfl dL_law_540 (by decide) ?_
  refine gn_iadd 542 rfl dL_law_541 ?_
  refine ga_scr 543 rfl (by omega) dL_law_542 ?_
  refine g_aload_n0 544 rfl dL_law_543 ?_
  refine g_iload_n3 545 rfl dL_law_544 ?_
  refine g_iconst (v := 2) 546 rfl dL_law_545 (by decide) ?_
  refine gn_iadd 547 rfl dL_law_546 ?_
  refine ga_scr 548 rfl (by omega) dL_law_547 ?_
  refine g_cv2i 551 rfl cw_RL_85 dL_law_548 (X) (by omega) (ob_0 V) (Nat.le_of_ble_eq_true rfl) ?_
  refine g_aload_n2 552 rfl dL_law_551 ?_
  refine g_aload_n0 553 rfl dL_law_552 ?_
  refine g_iload_n3 554 rfl dL_law_553 ?_
  refine g_iconst (v := 1) 555 rfl dL_law_554 (by decide) ?_
  refine gn_iadd 556 rfl dL_law_555 ?_
  refine ga_scr 557 rfl (by omega) dL_law_556 ?_
  refine g_aload_n0 558 rfl dL_law_557 ?_
  refine g_iload_n3 559 rfl dL_law_558 ?_
  refine g_iconst (v := 2) 560 rfl dL_law_559 (by decide) ?_
  refine gn_iadd 561 rfl dL_law_560 ?_
  refine ga_scr 562 rfl (by omega) dL_law_561 ?_
  refine g_cv2i 565 rfl cw_RL_88 dL_law_562 (M) (by omega) (ob_22 V) (Nat.le_of_ble_eq_true rfl) ?_
  refine g_icmp_eq 933 (by decide) 568 rfl dL_law_565 (fun c565 => ?_) (fun c565 => absurd rfl c565)
  exact ih _ J
theorem lw_18 (I : Inv h) (hi : i + 4 < L) (ih : ∀ g, Inv g → G V (lwE b L xs V) 20 RL cL_law 4 (some .boolean) 933 [some (rf V 85), some (rf V 0), some (rf V 22), some (.int (nI i))] [] g lwp) : G V (lwE b L xs V) 20 RL cL_law 4 (some .boolean) 570 [some (rf V 85), some (rf V 0), some (rf V 22), some (.int (nI i))] [] h lwp := by
  by_cases w : nI (xnt (xs (i + 2))) = 0
  · obtain ⟨v, h1, h2, X, M, J⟩ := op_share (V := V) I (xlt (xs (i + 1))) (show 0 < 2 by decide)
    refine g_aload_n1 571 rfl dL_law_570 ?_
    refine g_aload_n0 572 rfl dL_law_571 ?_
    refine g_iload_n3 573 rfl dL_law_572 ?_
    refine g_iconst (v := 1) 574 rfl dL_law_573 (by decide) ?_
    refine gn_iadd 575 rfl dL_law_574 ?_
    refine ga_scr 576 rfl (by omega) dL_law_575 ?_
    refine g_aload_n0 577 rfl dL_law_576 ?_
    refine g_iload_n3 578 rfl dL_law_577 ?_
    refine g_iconst (v := 2) 579 rfl dL_law_578 (by decide) ?_
    refine gn_iadd 580 rfl dL_law_579 ?_
    refine ga_scr 581 rfl (by omega) dL_law_580 ?_
    refine g_if_eq 588 (by decide) 584 rfl dL_law_581 (fun c581 => ?_) (fun c581 => absurd w c581)
    refine g_iconst (v := 0) 589 rfl dL_law_588 (by decide) ?_
    refine g_cv2i 592 rfl cw_RL_89 dL_law_589 (X) (by omega) (ob_0 V) (Nat.le_of_ble_eq_true rfl) ?_
    refine g_aload_n2 593 rfl dL_law_592 ?_
    refine g_aload_n0 594 rfl dL_law_593 ?_
    refine g_iload_n3 595 rfl dL_law_594 ?_
    refine g_iconst (v := 1) 596 rfl dL_law_595 (by decide) ?_
    refine gn_iadd 597 rfl dL_law_596 ?_
    refine ga_scr 598 rfl (by omega) dL_law_597 ?_
    refine g_aload_n0 599 rfl dL_law_598 ?_
    refine g_iload_n3 600 rfl dL_law_599 ?_
    refine g_iconst (v := 2) 601 rfl dL_law_600 (by decide) ?_
    refine gn_iadd 602 rfl dL_law_601 ?_
    refine ga_scr 603 rfl (by omega) dL_law_602 ?_
    refine g_if_eq 610 (by decide) 606 rfl dL_law_603 (fun c603 => ?_) (fun c603 => absurd w c603)
    refine g_iconst (v := 0) 611 rfl dL_law_610 (by decide) ?_
    refine g_cv2i 614 rfl cw_RL_92 dL_law_611 (M) (by omega) (ob_22 V) (Nat.le_of_ble_eq_true rfl) ?_
    refine g_icmp_eq 933 (by decide) 617 rfl dL_law_614 (fun c614 => ?_) (fun c614 => absurd rfl c614)
    exact ih _ J
  · obtain ⟨v, h1, h2, X, M, J⟩ := op_share (V := V) I (xlt (xs (i + 1))) (show 1 < 2 by decide)
    refine g_aload_n1 571 rfl dL_law_570 ?_
    refine g_aload_n0 572 rfl dL_law_571 ?_
    refine g_iload_n3 573 rfl dL_law_572 ?_
    refine g_iconst (v := 1) 574 rfl dL_law_573 (by decide) ?_
    refine gn_iadd 575 rfl dL_law_574 ?_
    refine ga_scr 576 rfl (by omega) dL_law_575 ?_
    refine g_aload_n0 577 rfl dL_law_576 ?_
    refine g_iload_n3 578 rfl dL_law_577 ?_
    refine g_iconst (v := 2) 579 rfl dL_law_578 (by decide) ?_
    refine gn_iadd 580 rfl dL_law_579 ?_
    refine ga_scr 581 rfl (by omega) dL_law_580 ?_
    refine g_if_eq 588 (by decide) 584 rfl dL_law_581 (fun c581 => absurd c581 w) (fun c581 => ?_)
    refine g_iconst (v := 1) 585 rfl dL_law_584 (by decide) ?_
    refine g_goto 589 (by decide) dL_law_585 ?_
    refine g_cv2i 592 rfl cw_RL_89 dL_law_589 (X) (by omega) (ob_0 V) (Nat.le_of_ble_eq_true rfl) ?_
    refine g_aload_n2 593 rfl dL_law_592 ?_
    refine g_aload_n0 594 rfl dL_law_593 ?_
    refine g_iload_n3 595 rfl dL_law_594 ?_
    refine g_iconst (v := 1) 596 rfl dL_law_595 (by decide) ?_
    refine gn_iadd 597 rfl dL_law_596 ?_
    refine ga_scr 598 rfl (by omega) dL_law_597 ?_
    refine g_aload_n0 599 rfl dL_law_598 ?_
    refine g_iload_n3 600 rfl dL_law_599 ?_
    refine g_iconst (v := 2) 601 rfl dL_law_600 (by decide) ?_
    refine gn_iadd 602 rfl dL_law_601 ?_
    refine ga_scr 603 rfl (by omega) dL_law_602 ?_
    refine g_if_eq 610 (by decide) 606 rfl dL_law_603 (fun c603 => absurd c603 w) (fun c603 => ?_)
    refine g_iconst (v := 1) 607 rfl dL_law_606 (by decide) ?_
    refine g_goto 611 (by decide) dL_law_607 ?_
    refine g_cv2i 614 rfl cw_RL_92 dL_law_611 (M) (by omega) (ob_22 V) (Nat.le_of_ble_eq_true rfl) ?_
    refine g_icmp_eq 933 (by decide) 617 rfl dL_law_614 (fun c614 => ?_) (fun c614 => absurd rfl c614)
    exact ih _ J
theorem lw_19 (I : Inv h) (hi : i + 4 < L) (ih : ∀ g, Inv g → G V (lwE b L xs V) 20 RL cL_law 4 (some .boolean) 933 [some (rf V 85), some (rf V 0), some (rf V 22), some (.int (nI i))] [] g lwp) : G V (lwE b L xs V) 20 RL cL_law 4 (some .boolean) 619 [some (rf V 85), some (rf V 0), some (rf V 22), some (.int (nI i))] [] h lwp := by
  obtain ⟨v, h1, h2, X, M, J⟩ := op_see (V := V) I (xlt (xs (i + 1))) (xlt (xs (i + 2))) (xlt (xs (i + 3)))
  refine g_aload_n1 620 rfl dL_law_619 ?_
  refine g_aload_n0 621 rfl dL_law_620 ?_
  refine g_iload_n3 622 rfl dL_law_621 ?_
  refine g_iconst (v := 1) 623 rfl dL_law_622 (by decide) ?_
  refine gn_iadd 624 rfl dL_law_623 ?_
  refine ga_scr 625 rfl (by omega) dL_law_624 ?_
  refine g_aload_n0 626 rfl dL_law_625 ?_
  refine g_iload_n3 627 rfl dL_law_626 ?_
  refine g_iconst (v := 2) 628 rfl dL_law_627 (by decide) ?_
  refine gn_iadd 629 rfl dL_law_628 ?_
  refine ga_scr 630 rfl (by omega) dL_law_629 ?_
  refine g_aload_n0 631 rfl dL_law_630 ?_
  refine g_iload_n3 632 rfl dL_law_631 ?_
  refine g_iconst (v := 3) 633 rfl dL_law_632 (by decide) ?_
  refine gn_iadd 634 rfl dL_law_633 ?_
  refine ga_scr 635 rfl (by omega) dL_law_634 ?_
  refine g_cv3i 638 rfl cw_RL_93 dL_law_635 (X) (by omega) (ob_0 V) (Nat.le_of_ble_eq_true rfl) ?_
  refine g_aload_n2 639 rfl dL_law_638 ?_
  refine g_aload_n0 640 rfl dL_law_639 ?_
  refine g_iload_n3 641 rfl dL_law_640 ?_
  refine g_iconst (v := 1) 642 rfl dL_law_641 (by decide) ?_
  refine gn_iadd 643 rfl dL_law_642 ?_
  refine ga_scr 644 rfl (by omega) dL_law_643 ?_
  refine g_aload_n0 645 rfl dL_law_644 ?_
  refine g_iload_n3 646 rfl dL_law_645 ?_
  refine g_iconst (v := 2) 647 rfl dL_law_646 (by decide) ?_
  refine gn_iadd 648 rfl dL_law_647 ?_
  refine ga_scr 649 rfl (by omega) dL_law_648 ?_
  refine g_aload_n0 650 rfl dL_law_649 ?_
  refine g_iload_n3 651 rfl dL_law_650 ?_
  refine g_iconst (v := 3) 652 rfl dL_law_651 (by decide) ?_
  refine gn_iadd 653 rfl dL_law_652 ?_
  refine ga_scr 654 rfl (by omega) dL_law_653 ?_
  refine g_cv3i 657 rfl cw_RL_97 dL_law_654 (M) (by omega) (ob_22 V) (Nat.le_of_ble_eq_true rfl) ?_
  refine g_icmp_eq 933 (by decide) 660 rfl dL_law_657 (fun c657 => ?_) (fun c657 => absurd rfl c657)
  exact ih _ J
theorem lw_20 (I : Inv h) (hi : i + 4 < L) (ih : ∀ g, Inv g → G V (lwE b L xs V) 20 RL cL_law 4 (some .boolean) 933 [some (rf V 85), some (rf V 0), some (rf V 22), some (.int (nI i))] [] g lwp) : G V (lwE b L xs V) 20 RL cL_law 4 (some .boolean) 662 [some (rf V 85), some (rf V 0), some (rf V 22), some (.int (nI i))] [] h lwp := by
  obtain ⟨v, h1, h2, X, M, J⟩ := op_unsee (V := V) I 
  refine g_aload_n1 663 rfl dL_law_662 ?_
  refine g_cv0i 666 rfl cw_RL_98 dL_law_663 (X) (by omega) (ob_0 V) (Nat.le_of_ble_eq_true rfl) ?_
  refine g_aload_n2 667 rfl dL_law_666 ?_
  refine g_cv0i 670 rfl cw_RL_101 dL_law_667 (M) (by omega) (ob_22 V) (Nat.le_of_ble_eq_true rfl) ?_
  refine g_icmp_eq 933 (by decide) 673 rfl dL_law_670 (fun c670 => ?_) (fun c670 => absurd rfl c670)
  exact ih _ J
theorem lw_21 (I : Inv h) (hi : i + 4 < L) (ih : ∀ g, Inv g → G V (lwE b L xs V) 20 RL cL_law 4 (some .boolean) 933 [some (rf V 85), some (rf V 0), some (rf V 22), some (.int (nI i))] [] g lwp) : G V (lwE b L xs V) 20 RL cL_law 4 (some .boolean) 675 [some (rf V 85), some (rf V 0), some (rf V 22), some (.int (nI i))] [] h lwp := by
  obtain ⟨v, h1, h2, X, M, J⟩ := op_palates (V := V) I (xlt (xs (i + 1)))
  refine g_aload_n1 676 rfl dL_law_675 ?_
  refine g_aload_n0 677 rfl dL_law_676 ?_
  refine g_iload_n3 678 rfl dL_law_677 ?_
  refine g_iconst (v := 1) 679 rfl dL_law_678 (by decide) ?_
  refine gn_iadd 680 rfl dL_law_679 ?_
  refine ga_scr 681 rfl (by omega) dL_law_680 ?_
  refine g_cv1i 684 rfl cw_RL_102 dL_law_681 (X) (by omega) (ob_0 V) (Nat.le_of_ble_eq_true rfl) ?_
  refine g_aload_n2 685 rfl dL_law_684 ?_
  refine g_aload_n0 686 rfl dL_law_685 ?_
  refine g_iload_n3 687 rfl dL_law_686 ?_
  refine g_iconst (v := 1) 688 rfl dL_law_687 (by decide) ?_
  refine gn_iadd 689 rfl dL_law_688 ?_
  refine ga_scr 690 rfl (by omega) dL_law_689 ?_
  refine g_cv1i 693 rfl cw_RL_105 dL_law_690 (M) (by omega) (ob_22 V) (Nat.le_of_ble_eq_true rfl) ?_
  refine g_icmp_eq 933 (by decide) 696 rfl dL_law_693 (fun c693 => ?_) (fun c693 => absurd rfl c693)
  exact ih _ J
theorem lw_22 (I : Inv h) (hi : i + 4 < L) (ih : ∀ g, Inv g → G V (lwE b L xs V) 20 RL cL_law 4 (some .boolean) 933 [some (rf V 85), some (rf V 0), some (rf V 22), some (.int (nI i))] [] g lwp) : G V (lwE b L xs V) 20 RL cL_law 4 (some .boolean) 698 [some (rf V 85), some (rf V 0), some (rf V 22), some (.int (nI i))] [] h lwp := by
  obtain ⟨v, h1, h2, X, M, J⟩ := op_rests (V := V) I (xlt (xs (i + 1))) (xlt (xs (i + 2))) (xlt (xs (i + 3)))
  refine g_aload_n1 699 rfl dL_law_698 ?_
  refine g_aload_n0 700 rfl dL_law_699 ?_
  refine g_iload_n3 701 rfl dL_law_700 ?_
  refine g_iconst (v := 1) 702 rfl dL_law_701 (by decide) ?_
  refine gn_iadd 703 rfl dL_law_702 ?_
  refine ga_scr 704 rfl (by omega) dL_law_703 ?_
  refine g_aload_n0 705 rfl dL_law_704 ?_
  refine g_iload_n3 706 rfl dL_law_705 ?_
  refine g_iconst (v := 2) 707 rfl dL_law_706 (by decide) ?_
  refine gn_iadd 708 rfl dL_law_707 ?_
  refine ga_scr 709 rfl (by omega) dL_law_708 ?_
  refine g_aload_n0 710 rfl dL_law_709 ?_
  refine g_iload_n3 711 rfl dL_law_710 ?_
  refine g_iconst (v := 3) 712 rfl dL_law_711 (by decide) ?_
  refine gn_iadd 713 rfl dL_law_712 ?_
  refine ga_scr 714 rfl (by omega) dL_law_713 ?_
  refine g_cv3i 717 rfl cw_RL_106 dL_law_714 (X) (by omega) (ob_0 V) (Nat.le_of_ble_eq_true rfl) ?_
  refine g_aload_n2 718 rfl dL_law_717 ?_
  refine g_aload_n0 719 rfl dL_law_718 ?_
  refine g_iload_n3 720 rfl dL_law_719 ?_
  refine g_iconst (v := 1) 721 rfl dL_law_720 (by decide) ?_
  refine gn_iadd 722 rfl dL_law_721 ?_
  refine ga_scr 723 rfl (by omega) dL_law_722 ?_
  refine g_aload_n0 724 rfl dL_law_723 ?_
  refine g_iload_n3 725 rfl dL_law_724 ?_
  refine g_iconst (v := 2) 726 rfl dL_law_725 (by decide) ?_
  refine gn_iadd 727 rfl dL_law_726 ?_
  refine ga_scr 728 rfl (by omega) dL_law_727 ?_
  refine g_aload_n0 729 rfl dL_law_728 ?_
  refine g_iload_n3 730 rfl dL_law_729 ?_
  refine g_iconst (v := 3) 731 rfl dL_law_730 (by decide) ?_
  refine gn_iadd 732 rfl dL_law_731 ?_
  refine ga_scr 733 rfl (by omega) dL_law_732 ?_
  refine g_cv3i 736 rfl cw_RL_109 dL_law_733 (M) (by omega) (ob_22 V) (Nat.le_of_ble_eq_true rfl) ?_
  refine g_icmp_eq 933 (by decide) 739 rfl dL_law_736 (fun c736 => ?_) (fun c736 => absurd rfl c736)
  exact ih _ J
theorem lw_23 (I : Inv h) (hi : i + 4 < L) (ih : ∀ g, Inv g → G V (lwE b L xs V) 20 RL cL_law 4 (some .boolean) 933 [some (rf V 85), some (rf V 0), some (rf V 22), some (.int (nI i))] [] g lwp) : G V (lwE b L xs V) 20 RL cL_law 4 (some .boolean) 741 [some (rf V 85), some (rf V 0), some (rf V 22), some (.int (nI i))] [] h lwp := by
  by_cases w : nI (xnt (xs (i + 4))) = 0
  · obtain ⟨v, h1, h2, X, M, J⟩ := op_chance (V := V) I (xlt (xs (i + 1))) (xlt (xs (i + 2))) (xlt (xs (i + 3))) (show 0 < 2 by decide)
    refine g_aload_n1 742 rfl dL_law_741 ?_
    refine g_aload_n0 743 rfl dL_law_742 ?_
    refine g_iload_n3 744 rfl dL_law_743 ?_
    refine g_iconst (v := 1) 745 rfl dL_law_744 (by decide) ?_
    refine gn_iadd 746 rfl dL_law_745 ?_
    refine ga_scr 747 rfl (by omega) dL_law_746 ?_
    refine g_aload_n0 748 rfl dL_law_747 ?_
    refine g_iload_n3 749 rfl dL_law_748 ?_
    refine g_iconst (v := 2) 750 rfl dL_law_749 (by decide) ?_
    refine gn_iadd 751 rfl dL_law_750 ?_
    refine ga_scr 752 rfl (by omega) dL_law_751 ?_
    refine g_aload_n0 753 rfl dL_law_752 ?_
    refine g_iload_n3 754 rfl dL_law_753 ?_
    refine g_iconst (v := 3) 755 rfl dL_law_754 (by decide) ?_
    refine gn_iadd 756 rfl dL_law_755 ?_
    refine ga_scr 757 rfl (by omega) dL_law_756 ?_
    refine g_aload_n0 758 rfl dL_law_757 ?_
    refine g_iload_n3 759 rfl dL_law_758 ?_
    refine g_iconst (v := 4) 760 rfl dL_law_759 (by decide) ?_
    refine gn_iadd 761 rfl dL_law_760 ?_
    refine ga_scr 762 rfl (by omega) dL_law_761 ?_
    refine g_if_eq 769 (by decide) 765 rfl dL_law_762 (fun c762 => ?_) (fun c762 => absurd w c762)
    refine g_iconst (v := 0) 770 rfl dL_law_769 (by decide) ?_
    refine g_cv4i 773 rfl cw_RL_110 dL_law_770 (X) (by omega) (ob_0 V) (Nat.le_of_ble_eq_true rfl) ?_
    refine g_aload_n2 774 rfl dL_law_773 ?_
    refine g_aload_n0 775 rfl dL_law_774 ?_
    refine g_iload_n3 776 rfl dL_law_775 ?_
    refine g_iconst (v := 1) 777 rfl dL_law_776 (by decide) ?_
    refine gn_iadd 778 rfl dL_law_777 ?_
    refine ga_scr 779 rfl (by omega) dL_law_778 ?_
    refine g_aload_n0 780 rfl dL_law_779 ?_
    refine g_iload_n3 781 rfl dL_law_780 ?_
    refine g_iconst (v := 2) 782 rfl dL_law_781 (by decide) ?_
    refine gn_iadd 783 rfl dL_law_782 ?_
    refine ga_scr 784 rfl (by omega) dL_law_783 ?_
    refine g_aload_n0 785 rfl dL_law_784 ?_
    refine g_iload_n3 786 rfl dL_law_785 ?_
    refine g_iconst (v := 3) 787 rfl dL_law_786 (by decide) ?_
    refine gn_iadd 788 rfl dL_law_787 ?_
    refine ga_scr 789 rfl (by omega) dL_law_788 ?_
    refine g_aload_n0 790 rfl dL_law_789 ?_
    refine g_iload_n3 791 rfl dL_law_790 ?_
    refine g_iconst (v := 4) 792 rfl dL_law_791 (by decide) ?_
    refine gn_iadd 793 rfl dL_law_792 ?_
    refine ga_scr 794 rfl (by omega) dL_law_793 ?_
    refine g_if_eq 801 (by decide) 797 rfl dL_law_794 (fun c794 => ?_) (fun c794 => absurd w c794)
    refine g_iconst (v := 0) 802 rfl dL_law_801 (by decide) ?_
    refine g_cv4i 805 rfl cw_RL_114 dL_law_802 (M) (by omega) (ob_22 V) (Nat.le_of_ble_eq_true rfl) ?_
    refine g_icmp_eq 933 (by decide) 808 rfl dL_law_805 (fun c805 => ?_) (fun c805 => absurd rfl c805)
    exact ih _ J
  · obtain ⟨v, h1, h2, X, M, J⟩ := op_chance (V := V) I (xlt (xs (i + 1))) (xlt (xs (i + 2))) (xlt (xs (i + 3))) (show 1 < 2 by decide)
    refine g_aload_n1 742 rfl dL_law_741 ?_
    refine g_aload_n0 743 rfl dL_law_742 ?_
    refine g_iload_n3 744 rfl dL_law_743 ?_
    refine g_iconst (v := 1) 745 rfl dL_law_744 (by decide) ?_
    refine gn_iadd 746 rfl dL_law_745 ?_
    refine ga_scr 747 rfl (by omega) dL_law_746 ?_
    refine g_aload_n0 748 rfl dL_law_747 ?_
    refine g_iload_n3 749 rfl dL_law_748 ?_
    refine g_iconst (v := 2) 750 rfl dL_law_749 (by decide) ?_
    refine gn_iadd 751 rfl dL_law_750 ?_
    refine ga_scr 752 rfl (by omega) dL_law_751 ?_
    refine g_aload_n0 753 rfl dL_law_752 ?_
    refine g_iload_n3 754 rfl dL_law_753 ?_
    refine g_iconst (v := 3) 755 rfl dL_law_754 (by decide) ?_
    refine gn_iadd 756 rfl dL_law_755 ?_
    refine ga_scr 757 rfl (by omega) dL_law_756 ?_
    refine g_aload_n0 758 rfl dL_law_757 ?_
    refine g_iload_n3 759 rfl dL_law_758 ?_
    refine g_iconst (v := 4) 760 rfl dL_law_759 (by decide) ?_
    refine gn_iadd 761 rfl dL_law_760 ?_
    refine ga_scr 762 rfl (by omega) dL_law_761 ?_
    refine g_if_eq 769 (by decide) 765 rfl dL_law_762 (fun c762 => absurd c762 w) (fun c762 => ?_)
    refine g_iconst (v := 1) 766 rfl dL_law_765 (by decide) ?_
    refine g_goto 770 (by decide) dL_law_766 ?_
    refine g_cv4i 773 rfl cw_RL_110 dL_law_770 (X) (by omega) (ob_0 V) (Nat.le_of_ble_eq_true rfl) ?_
    refine g_aload_n2 774 rfl dL_law_773 ?_
    refine g_aload_n0 775 rfl dL_law_774 ?_
    refine g_iload_n3 776 rfl dL_law_775 ?_
    refine g_iconst (v := 1) 777 rfl dL_law_776 (by decide) ?_
    refine gn_iadd 778 rfl dL_law_777 ?_
    refine ga_scr 779 rfl (by omega) dL_law_778 ?_
    refine g_aload_n0 780 rfl dL_law_779 ?_
    refine g_iload_n3 781 rfl dL_law_780 ?_
    refine g_iconst (v := 2) 782 rfl dL_law_781 (by decide) ?_
    refine gn_iadd 783 rfl dL_law_782 ?_
    refine ga_scr 784 rfl (by omega) dL_law_783 ?_
    refine g_aload_n0 785 rfl dL_law_784 ?_
    refine g_iload_n3 786 rfl dL_law_785 ?_
    refine g_iconst (v := 3) 787 rfl dL_law_786 (by decide) ?_
    refine gn_iadd 788 rfl dL_law_787 ?_
    refine ga_scr 789 rfl (by omega) dL_law_788 ?_
    refine g_aload_n0 790 rfl dL_law_789 ?_
    refine g_iload_n3 791 rfl dL_law_790 ?_
    refine g_iconst (v := 4) 792 rfl dL_law_791 (by decide) ?_
    refine gn_iadd 793 rfl dL_law_792 ?_
    refine ga_scr 794 rfl (by omega) dL_law_793 ?_
    refine g_if_eq 801 (by decide) 797 rfl dL_law_794 (fun c794 => absurd c794 w) (fun c794 => ?_)
    refine g_iconst (v := 1) 798 rfl dL_law_797 (by decide) ?_
    refine g_goto 802 (by decide) dL_law_798 ?_
    refine g_cv4i 805 rfl cw_RL_114 dL_law_802 (M) (by omega) (ob_22 V) (Nat.le_of_ble_eq_true rfl) ?_
    refine g_icmp_eq 933 (by decide) 808 rfl dL_law_805 (fun c805 => ?_) (fun c805 => absurd rfl c805)
    exact ih _ J
theorem lw_24 (I : Inv h) (hi : i + 4 < L) (ih : ∀ g, Inv g → G V (lwE b L xs V) 20 RL cL_law 4 (some .boolean) 933 [some (rf V 85), some (rf V 0), some (rf V 22), some (.int (nI i))] [] g lwp) : G V (lwE b L xs V) 20 RL cL_law 4 (some .boolean) 810 [some (rf V 85), some (rf V 0), some (rf V 22), some (.int (nI i))] [] h lwp := by
  obtain ⟨h1, h2, X, M, J⟩ := op_seed (V := V) I (v := ((nI (xnt (xs (i + 1)))).toInt64 <<< ((nI 32).toInt64 &&& 63) ||| ((nI (xnt (xs (i + 2)))).toInt64 &&& 4294967295)))
  refine g_aload_n1 811 rfl dL_law_810 ?_
  refine g_aload_n0 812 rfl dL_law_811 ?_
  refine g_iload_n3 813 rfl dL_law_812 ?_
  refine g_iconst (v := 1) 814 rfl dL_law_813 (by decide) ?_
  refine gn_iadd 815 rfl dL_law_814 ?_
  refine ga_scr 816 rfl (by omega) dL_law_815 ?_
  refine g_i2l 817 rfl dL_law_816 ?_
  refine g_bipush (v := 32) 819 rfl dL_law_817 (by decide) ?_
  refine g_lshl 820 rfl dL_law_819 ?_
  refine g_aload_n0 821 rfl dL_law_820 ?_
  refine g_iload_n3 822 rfl dL_law_821 ?_
  refine g_iconst (v := 2) 823 rfl dL_law_822 (by decide) ?_
  refine gn_iadd 824 rfl dL_law_823 ?_
  refine ga_scr 825 rfl (by omega) dL_law_824 ?_
  refine g_i2l 826 rfl dL_law_825 ?_
  refine g_ldc2 829 rfl kl_RL_115 dL_law_826 ?_
  refine g_land 830 rfl dL_law_829 ?_
  refine g_lor 831 rfl dL_law_830 ?_
  refine g_cv1l 834 rfl cw_RL_117 dL_law_831 (X) (by omega) (ob_0 V) (Nat.le_of_ble_eq_true rfl) ?_
  refine g_aload_n2 835 rfl dL_law_834 ?_
  refine g_aload_n0 836 rfl dL_law_835 ?_
  refine g_iload_n3 837 rfl dL_law_836 ?_
  refine g_iconst (v := 1) 838 rfl dL_law_837 (by decide) ?_
  refine gn_iadd 839 rfl dL_law_838 ?_
  refine ga_scr 840 rfl (by omega) dL_law_839 ?_
  refine g_i2l 841 rfl dL_law_840 ?_
  refine g_bipush (v := 32) 843 rfl dL_law_841 (by decide) ?_
  refine g_lshl 844 rfl dL_law_843 ?_
  refine g_aload_n0 845 rfl dL_law_844 ?_
  refine g_iload_n3 846 rfl dL_law_845 ?_
  refine g_iconst (v := 2) 847 rfl dL_law_846 (by decide) ?_
  refine gn_iadd 848 rfl dL_law_847 ?_
  refine ga_scr 849 rfl (by omega) dL_law_848 ?_
  refine g_i2l 850 rfl dL_law_849 ?_
  refine g_ldc2 853 rfl kl_RL_115 dL_law_850 ?_
  refine g_land 854 rfl dL_law_853 ?_
  refine g_lor 855 rfl dL_law_854 ?_
  refine g_cv1l 858 rfl cw_RL_121 dL_law_855 (M) (by omega) (ob_22 V) (Nat.le_of_ble_eq_true rfl) ?_
  refine g_lcmp 859 rfl dL_law_858 ?_
  refine g_if_eq 933 (by decide) 862 rfl dL_law_859 (fun c859 => ?_) (fun c859 => absurd (lg_self _) c859)
  exact ih _ J
theorem lw_25 (I : Inv h) (hi : i + 4 < L) (ih : ∀ g, Inv g → G V (lwE b L xs V) 20 RL cL_law 4 (some .boolean) 933 [some (rf V 85), some (rf V 0), some (rf V 22), some (.int (nI i))] [] g lwp) : G V (lwE b L xs V) 20 RL cL_law 4 (some .boolean) 864 [some (rf V 85), some (rf V 0), some (rf V 22), some (.int (nI i))] [] h lwp := by
  obtain ⟨v, h1, h2, X, M, J⟩ := op_talks (V := V) I (xlt (xs (i + 1)))
  refine g_aload_n1 865 rfl dL_law_864 ?_
  refine g_aload_n0 866 rfl dL_law_865 ?_
  refine g_iload_n3 867 rfl dL_law_866 ?_
  refine g_iconst (v := 1) 868 rfl dL_law_867 (by decide) ?_
  refine gn_iadd 869 rfl dL_law_868 ?_
  refine ga_scr 870 rfl (by omega) dL_law_869 ?_
  refine g_cv1i 873 rfl cw_RL_122 dL_law_870 (X) (by omega) (ob_0 V) (Nat.le_of_ble_eq_true rfl) ?_
  refine g_aload_n2 874 rfl dL_law_873 ?_
  refine g_aload_n0 875 rfl dL_law_874 ?_
  refine g_iload_n3 876 rfl dL_law_875 ?_
  refine g_iconst (v := 1) 877 rfl dL_law_876 (by decide) ?_
  refine gn_iadd 878 rfl dL_law_877 ?_
  refine ga_scr 879 rfl (by omega) dL_law_878 ?_
  refine g_cv1i 882 rfl cw_RL_125 dL_law_879 (M) (by omega) (ob_22 V) (Nat.le_of_ble_eq_true rfl) ?_
  refine g_icmp_eq 933 (by decide) 885 rfl dL_law_882 (fun c882 => ?_) (fun c882 => absurd rfl c882)
  exact ih _ J
theorem lw_26 (I : Inv h) (hi : i + 4 < L) (ih : ∀ g, Inv g → G V (lwE b L xs V) 20 RL cL_law 4 (some .boolean) 933 [some (rf V 85), some (rf V 0), some (rf V 22), some (.int (nI i))] [] g lwp) : G V (lwE b L xs V) 20 RL cL_law 4 (some .boolean) 887 [some (rf V 85), some (rf V 0), some (rf V 22), some (.int (nI i))] [] h lwp := by
  obtain ⟨v, h1, h2, X, M, J⟩ := op_keep (V := V) I (xlt (xs (i + 1)))
  refine g_aload_n1 888 rfl dL_law_887 ?_
  refine g_aload_n0 889 rfl dL_law_888 ?_
  refine g_iload_n3 890 rfl dL_law_889 ?_
  refine g_iconst (v := 1) 891 rfl dL_law_890 (by decide) ?_
  refine gn_iadd 892 rfl dL_law_891 ?_
  refine ga_scr 893 rfl (by omega) dL_law_892 ?_
  refine g_cv1i 896 rfl cw_RL_126 dL_law_893 (X) (by omega) (ob_0 V) (Nat.le_of_ble_eq_true rfl) ?_
  refine g_aload_n2 897 rfl dL_law_896 ?_
  refine g_aload_n0 898 rfl dL_law_897 ?_
  refine g_iload_n3 899 rfl dL_law_898 ?_
  refine g_iconst (v := 1) 900 rfl dL_law_899 (by decide) ?_
  refine gn_iadd 901 rfl dL_law_900 ?_
  refine ga_scr 902 rfl (by omega) dL_law_901 ?_
  refine g_cv1i 905 rfl cw_RL_129 dL_law_902 (M) (by omega) (ob_22 V) (Nat.le_of_ble_eq_true rfl) ?_
  refine g_icmp_eq 933 (by decide) 908 rfl dL_law_905 (fun c905 => ?_) (fun c905 => absurd rfl c905)
  exact ih _ J
theorem lw_27 (I : Inv h) (hi : i + 4 < L) (ih : ∀ g, Inv g → G V (lwE b L xs V) 20 RL cL_law 4 (some .boolean) 933 [some (rf V 85), some (rf V 0), some (rf V 22), some (.int (nI i))] [] g lwp) : G V (lwE b L xs V) 20 RL cL_law 4 (some .boolean) 910 [some (rf V 85), some (rf V 0), some (rf V 22), some (.int (nI i))] [] h lwp := by
  obtain ⟨v, h1, h2, X, M, J⟩ := op_again (V := V) I (xlt (xs (i + 1)))
  refine g_aload_n1 911 rfl dL_law_910 ?_
  refine g_aload_n0 912 rfl dL_law_911 ?_
  refine g_iload_n3 913 rfl dL_law_912 ?_
  refine g_iconst (v := 1) 914 rfl dL_law_913 (by decide) ?_
  refine gn_iadd 915 rfl dL_law_914 ?_
  refine ga_scr 916 rfl (by omega) dL_law_915 ?_
  refine g_cv1i 919 rfl cw_RL_130 dL_law_916 (X) (by omega) (ob_0 V) (Nat.le_of_ble_eq_true rfl) ?_
  refine g_aload_n2 920 rfl dL_law_919 ?_
  refine g_aload_n0 921 rfl dL_law_920 ?_
  refine g_iload_n3 922 rfl dL_law_921 ?_
  refine g_iconst (v := 1) 923 rfl dL_law_922 (by decide) ?_
  refine gn_iadd 924 rfl dL_law_923 ?_
  refine ga_scr 925 rfl (by omega) dL_law_924 ?_
  refine g_cv1i 928 rfl cw_RL_133 dL_law_925 (M) (by omega) (ob_22 V) (Nat.le_of_ble_eq_true rfl) ?_
  refine g_icmp_eq 933 (by decide) 931 rfl dL_law_928 (fun c928 => ?_) (fun c928 => absurd rfl c928)
  exact ih _ J
theorem lw_sw {n : Nat} (hn : n < 32) (I : Inv h) (hi : i + 4 < L) (ih : ∀ g, Inv g → G V (lwE b L xs V) 20 RL cL_law 4 (some .boolean) 933 [some (rf V 85), some (rf V 0), some (rf V 22), some (.int (nI i))] [] g lwp) : G V (lwE b L xs V) 20 RL cL_law 4 (some .boolean) 32 [some (rf V 85), some (rf V 0), some (rf V 22), some (.int (nI i))] [.int (nI n)] h lwp := by
  match n, hn with
  | 0, _ => exact g_tsw (off := 128) 160 dL_law_32 (by decide +kernel) (by decide) (lw_0 I hi ih)
  | 1, _ => exact g_tsw (off := 151) 183 dL_law_32 (by decide +kernel) (by decide) (lw_1 I hi ih)
  | 2, _ => exact g_tsw (off := 164) 196 dL_law_32 (by decide +kernel) (by decide) (lw_2 I hi ih)
  | 3, _ => exact g_tsw (off := 177) 209 dL_law_32 (by decide +kernel) (by decide) (lw_3 I hi ih)
  | 4, _ => exact g_tsw (off := 190) 222 dL_law_32 (by decide +kernel) (by decide) (lw_4 I hi ih)
  | 5, _ => exact g_tsw (off := 213) 245 dL_law_32 (by decide +kernel) (by decide) (lw_5 I hi ih)
  | 6, _ => exact g_tsw (off := 246) 278 dL_law_32 (by decide +kernel) (by decide) (lw_6 I hi ih)
  | 7, _ => exact g_tsw (off := 279) 311 dL_law_32 (by decide +kernel) (by decide) (lw_7 I hi ih)
  | 8, _ => exact g_tsw (off := 292) 324 dL_law_32 (by decide +kernel) (by decide) (lw_8 I hi ih)
  | 9, _ => exact g_tsw (off := 315) 347 dL_law_32 (by decide +kernel) (by decide) (lw_9 I hi ih)
  | 10, _ => exact g_tsw (off := 328) 360 dL_law_32 (by decide +kernel) (by decide) (lw_10 I hi ih)
  | 11, _ => exact g_tsw (off := 351) 383 dL_law_32 (by decide +kernel) (by decide) (lw_11 I hi ih)
  | 12, _ => exact g_tsw (off := 364) 396 dL_law_32 (by decide +kernel) (by decide) (lw_12 I hi ih)
  | 13, _ => exact g_tsw (off := 377) 409 dL_law_32 (by decide +kernel) (by decide) (lw_13 I hi ih)
  | 14, _ => exact g_tsw (off := 400) 432 dL_law_32 (by decide +kernel) (by decide) (lw_14 I hi ih)
  | 15, _ => exact g_tsw (off := 449) 481 dL_law_32 (by decide +kernel) (by decide) (lw_15 I hi ih)
  | 16, _ => exact g_tsw (off := 482) 514 dL_law_32 (by decide +kernel) (by decide) (lw_16 I hi ih)
  | 17, _ => exact g_tsw (off := 505) 537 dL_law_32 (by decide +kernel) (by decide) (lw_17 I hi ih)
  | 18, _ => exact g_tsw (off := 538) 570 dL_law_32 (by decide +kernel) (by decide) (lw_18 I hi ih)
  | 19, _ => exact g_tsw (off := 587) 619 dL_law_32 (by decide +kernel) (by decide) (lw_19 I hi ih)
  | 20, _ => exact g_tsw (off := 630) 662 dL_law_32 (by decide +kernel) (by decide) (lw_20 I hi ih)
  | 21, _ => exact g_tsw (off := 643) 675 dL_law_32 (by decide +kernel) (by decide) (lw_21 I hi ih)
  | 22, _ => exact g_tsw (off := 666) 698 dL_law_32 (by decide +kernel) (by decide) (lw_22 I hi ih)
  | 23, _ => exact g_tsw (off := 709) 741 dL_law_32 (by decide +kernel) (by decide) (lw_23 I hi ih)
  | 24, _ => exact g_tsw (off := 778) 810 dL_law_32 (by decide +kernel) (by decide) (lw_24 I hi ih)
  | 25, _ => exact g_tsw (off := 832) 864 dL_law_32 (by decide +kernel) (by decide) (lw_25 I hi ih)
  | 26, _ => exact g_tsw (off := 855) 887 dL_law_32 (by decide +kernel) (by decide) (lw_26 I hi ih)
  | 27, _ => exact g_tsw (off := 878) 910 dL_law_32 (by decide +kernel) (by decide) (lw_27 I hi ih)
  | 28, _ => exact g_tsw (off := 901) 933 dL_law_32 (by decide +kernel) (by decide) (ih h I)
  | 29, _ => exact g_tsw (off := 901) 933 dL_law_32 (by decide +kernel) (by decide) (ih h I)
  | 30, _ => exact g_tsw (off := 901) 933 dL_law_32 (by decide +kernel) (by decide) (ih h I)
  | 31, _ => exact g_tsw (off := 901) 933 dL_law_32 (by decide +kernel) (by decide) (ih h I)
  | n + 32, hn => exact absurd hn (by omega)
theorem sub5 {i L : Nat} (hi : i ≤ 320) (hL : L ≤ 320) : nI L - nI 5 < nI i ↔ L < i + 5 := by
  have e : (nI L - nI 5).toInt = (L : Int) - 5 := by
    by_cases q : 5 ≤ L
    · rw [pk_sub q, nI_toInt (by omega)]; omega
    · exact pk_sub_toInt (by omega) (by omega)
  rw [Int32.lt_iff_toInt_lt, e, nI_toInt (by omega)]
  omega
theorem lw_loop (hL : L ≤ 320) : ∀ f i h, Inv h → i ≤ L → L < i + f → G V (lwE b L xs V) 20 RL cL_law 4 (some .boolean) 18 [some (rf V 85), some (rf V 0), some (rf V 22), some (.int (nI i))] [] h lwp
  | 0, i, h, _, h1, h2 => absurd h2 (by omega)
  | f + 1, i, h, I, h1, h2 => by
    by_cases q : L < i + 5
    · refine g_iload_n3 19 rfl dL_law_18 ?_
      refine g_aload_n0 20 rfl dL_law_19 ?_
      refine g_slen 21 rfl dL_law_20 ?_
      refine g_iconst (v := 5) 22 rfl dL_law_21 (by decide) ?_
      refine g_isub 23 rfl dL_law_22  ?_
      refine g_icmp_gt 939 (by decide) 26 rfl dL_law_23 (fun c23 => ?_) (fun c23 => absurd ((sub5 (by omega) hL).mpr q) c23)
      refine g_iconst (v := 1) 940 rfl dL_law_939 (by decide) ?_
      exact g_iret .boolean dL_law_940 rfl rfl rfl
    · have ih : ∀ g, Inv g → G V (lwE b L xs V) 20 RL cL_law 4 (some .boolean) 933 [some (rf V 85), some (rf V 0), some (rf V 22), some (.int (nI i))] [] g lwp := fun g J => by
        have K := lw_loop hL f (i + 5) g J (by omega) (by omega)
        refine gn_iinc3 5 936 rfl dL_law_933 rfl (by decide) rfl ?_
        refine g_goto 18 (by decide) dL_law_936 ?_
        exact K
      refine g_iload_n3 19 rfl dL_law_18 ?_
      refine g_aload_n0 20 rfl dL_law_19 ?_
      refine g_slen 21 rfl dL_law_20 ?_
      refine g_iconst (v := 5) 22 rfl dL_law_21 (by decide) ?_
      refine g_isub 23 rfl dL_law_22  ?_
      refine g_icmp_gt 939 (by decide) 26 rfl dL_law_23 (fun c23 => absurd ((sub5 (by omega) hL).mp c23) q) (fun c23 => ?_)
      refine g_aload_n0 27 rfl dL_law_26 ?_
      refine g_iload_n3 28 rfl dL_law_27 ?_
      refine ga_scr 29 rfl (by omega) dL_law_28 ?_
      refine g_bipush (v := 31) 31 rfl dL_law_29 (by decide) ?_
      refine gn_iand 32 rfl dL_law_31 ?_
      exact lw_sw (Nat.lt_of_le_of_lt Nat.and_le_right (by decide)) I (by omega) ih
end Law
