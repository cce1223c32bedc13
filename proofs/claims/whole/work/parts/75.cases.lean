abbrev mLaw (nm : MethodName) : MI := (RL, nm, cL_law, 4, some .boolean, room_1)
def lw_Q (_ : Array Value) (s : State) (o : Outcome) (t : State) : Prop := o = .returned (some (.int 1)) ∧ Framed s o t [] 600000 7302250
def lw_Z (below : List Frame) (a : Array Value) (s : State) : State → Prop := fun t => ∃ o, t.status = .running ∧ Ended t below o ∧ lw_Q a s o t
def QL : QF := fun _ _ _ _ below args s => lw_Z below args s
theorem nI_pj (i j : Nat) : nI i + nI j = nI (i + j) := (Int32.ofNat_add i j).symm
theorem x_sldN {M : MI} {Q : QF} {L : Nat} {xs : Nat → Int32} {pc q : Nat} {ls : List (Option Value)} {st : List Value} {n : Nat} {h : HF} {kc ks j : Nat} (hd : decode (mC M) pc = .ok (.iaload, 1)) (hq : pc + 1 = q) (hj : j < L) (hL : L < 2147483648) (k : Vg M (some (L, xs)) Q q ls (.int (xs j) :: st) n h kc ks) : Vg M (some (L, xs)) Q pc ls (.int (nI j) :: .ref 0 :: st) n h kc ks := by
  refine x_sld hd hq (vp_in_nI hj hL) ?_
  rw [nI_clamp (by omega)]; exact k
theorem lw_c0 {nm : MethodName} {L i : Nat} {xs : Nat → Int32} {h : HF} {nb nl nr nt nd nj np : Nat} (hi : i + 6 ≤ L) (hL : L ≤ 3072) (r : Rel h nb nl nr nt nd nj np) (K : ∀ (h2 : HF) (nb nl nr nt nd nj np : Nat), Rel h2 nb nl nr nt nd nj np → Vg (mLaw nm) (some (L, xs)) QL 1338 [some (.ref 0), some (.ref 1), some (.ref 132), some (.int (nI i))] [] 170 h2 170 7114) : Vg (mLaw nm) (some (L, xs)) QL 184 [some (.ref 0), some (.ref 1), some (.ref 132), some (.int (nI i))] [] 170 h 170 7114 := by
  obtain ⟨v, h1, h2, c, S1, m, nb2, nl2, nr2, nt2, nd2, nj2, np2, r2⟩ := J_base r (xs (i + 1)) (xs (i + 2))
  refine x_aload_n (q := 185) dL_law_184 rfl rfl rfl ?_
  refine x_aload_n (q := 186) dL_law_185 rfl rfl rfl ?_
  refine x_iload_n (q := 187) dL_law_186 rfl rfl rfl ?_
  refine x_iconst (q := 188) (v := 1) dL_law_187 rfl (by decide) ?_
  refine x_iadd (q := 189) dL_law_188 rfl ?_
  rw [show nI i + 1 = nI (i + 1) from nI_pj i 1]
  refine x_sldN (q := 190) dL_law_189 rfl (by omega) (by omega) ?_
  refine x_aload_n (q := 191) dL_law_190 rfl rfl rfl ?_
  refine x_iload_n (q := 192) dL_law_191 rfl rfl rfl ?_
  refine x_iconst (q := 193) (v := 2) dL_law_192 rfl (by decide) ?_
  refine x_iadd (q := 194) dL_law_193 rfl ?_
  rw [show nI i + 2 = nI (i + 2) from nI_pj i 2]
  refine x_sldN (q := 195) dL_law_194 rfl (by omega) (by omega) ?_
  refine y_cvI (q := 198) dL_law_195 rfl l_L_13 c rfl rfl (cl_1 r.S) (by decide) rfl rfl rfl rfl ?_
  refine x_aload_n (q := 199) dL_law_198 rfl rfl rfl ?_
  refine x_aload_n (q := 200) dL_law_199 rfl rfl rfl ?_
  refine x_iload_n (q := 201) dL_law_200 rfl rfl rfl ?_
  refine x_iconst (q := 202) (v := 1) dL_law_201 rfl (by decide) ?_
  refine x_iadd (q := 203) dL_law_202 rfl ?_
  rw [show nI i + 1 = nI (i + 1) from nI_pj i 1]
  refine x_sldN (q := 204) dL_law_203 rfl (by omega) (by omega) ?_
  refine x_aload_n (q := 205) dL_law_204 rfl rfl rfl ?_
  refine x_iload_n (q := 206) dL_law_205 rfl rfl rfl ?_
  refine x_iconst (q := 207) (v := 2) dL_law_206 rfl (by decide) ?_
  refine x_iadd (q := 208) dL_law_207 rfl ?_
  rw [show nI i + 2 = nI (i + 2) from nI_pj i 2]
  refine x_sldN (q := 209) dL_law_208 rfl (by omega) (by omega) ?_
  refine y_cvI (q := 212) dL_law_209 rfl l_L_17 m rfl rfl (cl_132 S1) (by decide) rfl rfl rfl rfl ?_
  refine x_ic_eq (q := 215) (t := 1338) dL_law_212 rfl (by decide) (fun _ => ?_) (fun c_ => absurd rfl c_)
  exact K _ _ _ _ _ _ _ _ r2
theorem lw_c1 {nm : MethodName} {L i : Nat} {xs : Nat → Int32} {h : HF} {nb nl nr nt nd nj np : Nat} (hi : i + 6 ≤ L) (hL : L ≤ 3072) (r : Rel h nb nl nr nt nd nj np) (K : ∀ (h2 : HF) (nb nl nr nt nd nj np : Nat), Rel h2 nb nl nr nt nd nj np → Vg (mLaw nm) (some (L, xs)) QL 1338 [some (.ref 0), some (.ref 1), some (.ref 132), some (.int (nI i))] [] 170 h2 170 7114) : Vg (mLaw nm) (some (L, xs)) QL 217 [some (.ref 0), some (.ref 1), some (.ref 132), some (.int (nI i))] [] 170 h 170 7114 := by
  obtain ⟨v, h1, h2, c, S1, m, nb2, nl2, nr2, nt2, nd2, nj2, np2, r2⟩ := J_band r (xs (i + 1)) (xs (i + 2)) (xs (i + 3)) (xs (i + 4))
  refine x_aload_n (q := 218) dL_law_217 rfl rfl rfl ?_
  refine x_aload_n (q := 219) dL_law_218 rfl rfl rfl ?_
  refine x_iload_n (q := 220) dL_law_219 rfl rfl rfl ?_
  refine x_iconst (q := 221) (v := 1) dL_law_220 rfl (by decide) ?_
  refine x_iadd (q := 222) dL_law_221 rfl ?_
  rw [show nI i + 1 = nI (i + 1) from nI_pj i 1]
  refine x_sldN (q := 223) dL_law_222 rfl (by omega) (by omega) ?_
  refine x_aload_n (q := 224) dL_law_223 rfl rfl rfl ?_
  refine x_iload_n (q := 225) dL_law_224 rfl rfl rfl ?_
  refine x_iconst (q := 226) (v := 2) dL_law_225 rfl (by decide) ?_
  refine x_iadd (q := 227) dL_law_226 rfl ?_
  rw [show nI i + 2 = nI (i + 2) from nI_pj i 2]
  refine x_sldN (q := 228) dL_law_227 rfl (by omega) (by omega) ?_
  refine x_aload_n (q := 229) dL_law_228 rfl rfl rfl ?_
  refine x_iload_n (q := 230) dL_law_229 rfl rfl rfl ?_
  refine x_iconst (q := 231) (v := 3) dL_law_230 rfl (by decide) ?_
  refine x_iadd (q := 232) dL_law_231 rfl ?_
  rw [show nI i + 3 = nI (i + 3) from nI_pj i 3]
  refine x_sldN (q := 233) dL_law_232 rfl (by omega) (by omega) ?_
  refine x_aload_n (q := 234) dL_law_233 rfl rfl rfl ?_
  refine x_iload_n (q := 235) dL_law_234 rfl rfl rfl ?_
  refine x_iconst (q := 236) (v := 4) dL_law_235 rfl (by decide) ?_
  refine x_iadd (q := 237) dL_law_236 rfl ?_
  rw [show nI i + 4 = nI (i + 4) from nI_pj i 4]
  refine x_sldN (q := 238) dL_law_237 rfl (by omega) (by omega) ?_
  refine y_cvI (q := 241) dL_law_238 rfl l_L_18 c rfl rfl (cl_1 r.S) (by decide) rfl rfl rfl rfl ?_
  refine x_aload_n (q := 242) dL_law_241 rfl rfl rfl ?_
  refine x_aload_n (q := 243) dL_law_242 rfl rfl rfl ?_
  refine x_iload_n (q := 244) dL_law_243 rfl rfl rfl ?_
  refine x_iconst (q := 245) (v := 1) dL_law_244 rfl (by decide) ?_
  refine x_iadd (q := 246) dL_law_245 rfl ?_
  rw [show nI i + 1 = nI (i + 1) from nI_pj i 1]
  refine x_sldN (q := 247) dL_law_246 rfl (by omega) (by omega) ?_
  refine x_aload_n (q := 248) dL_law_247 rfl rfl rfl ?_
  refine x_iload_n (q := 249) dL_law_248 rfl rfl rfl ?_
  refine x_iconst (q := 250) (v := 2) dL_law_249 rfl (by decide) ?_
  refine x_iadd (q := 251) dL_law_250 rfl ?_
  rw [show nI i + 2 = nI (i + 2) from nI_pj i 2]
  refine x_sldN (q := 252) dL_law_251 rfl (by omega) (by omega) ?_
  refine x_aload_n (q := 253) dL_law_252 rfl rfl rfl ?_
  refine x_iload_n (q := 254) dL_law_253 rfl rfl rfl ?_
  refine x_iconst (q := 255) (v := 3) dL_law_254 rfl (by decide) ?_
  refine x_iadd (q := 256) dL_law_255 rfl ?_
  rw [show nI i + 3 = nI (i + 3) from nI_pj i 3]
  refine x_sldN (q := 257) dL_law_256 rfl (by omega) (by omega) ?_
  refine x_aload_n (q := 258) dL_law_257 rfl rfl rfl ?_
  refine x_iload_n (q := 259) dL_law_258 rfl rfl rfl ?_
  refine x_iconst (q := 260) (v := 4) dL_law_259 rfl (by decide) ?_
  refine x_iadd (q := 261) dL_law_260 rfl ?_
  rw [show nI i + 4 = nI (i + 4) from nI_pj i 4]
  refine x_sldN (q := 262) dL_law_261 rfl (by omega) (by omega) ?_
  refine y_cvI (q := 265) dL_law_262 rfl l_L_22 m rfl rfl (cl_132 S1) (by decide) rfl rfl rfl rfl ?_
  refine x_ic_eq (q := 268) (t := 1338) dL_law_265 rfl (by decide) (fun _ => ?_) (fun c_ => absurd rfl c_)
  exact K _ _ _ _ _ _ _ _ r2
theorem lw_c2 {nm : MethodName} {L i : Nat} {xs : Nat → Int32} {h : HF} {nb nl nr nt nd nj np : Nat} (hi : i + 6 ≤ L) (hL : L ≤ 3072) (r : Rel h nb nl nr nt nd nj np) (K : ∀ (h2 : HF) (nb nl nr nt nd nj np : Nat), Rel h2 nb nl nr nt nd nj np → Vg (mLaw nm) (some (L, xs)) QL 1338 [some (.ref 0), some (.ref 1), some (.ref 132), some (.int (nI i))] [] 170 h2 170 7114) : Vg (mLaw nm) (some (L, xs)) QL 270 [some (.ref 0), some (.ref 1), some (.ref 132), some (.int (nI i))] [] 170 h 170 7114 := by
  obtain ⟨v, h1, h2, c, S1, m, nb2, nl2, nr2, nt2, nd2, nj2, np2, r2⟩ := J_lot r (xs (i + 1)) (xs (i + 2)) (xs (i + 3))
  refine x_aload_n (q := 271) dL_law_270 rfl rfl rfl ?_
  refine x_aload_n (q := 272) dL_law_271 rfl rfl rfl ?_
  refine x_iload_n (q := 273) dL_law_272 rfl rfl rfl ?_
  refine x_iconst (q := 274) (v := 1) dL_law_273 rfl (by decide) ?_
  refine x_iadd (q := 275) dL_law_274 rfl ?_
  rw [show nI i + 1 = nI (i + 1) from nI_pj i 1]
  refine x_sldN (q := 276) dL_law_275 rfl (by omega) (by omega) ?_
  refine x_aload_n (q := 277) dL_law_276 rfl rfl rfl ?_
  refine x_iload_n (q := 278) dL_law_277 rfl rfl rfl ?_
  refine x_iconst (q := 279) (v := 2) dL_law_278 rfl (by decide) ?_
  refine x_iadd (q := 280) dL_law_279 rfl ?_
  rw [show nI i + 2 = nI (i + 2) from nI_pj i 2]
  refine x_sldN (q := 281) dL_law_280 rfl (by omega) (by omega) ?_
  refine x_aload_n (q := 282) dL_law_281 rfl rfl rfl ?_
  refine x_iload_n (q := 283) dL_law_282 rfl rfl rfl ?_
  refine x_iconst (q := 284) (v := 3) dL_law_283 rfl (by decide) ?_
  refine x_iadd (q := 285) dL_law_284 rfl ?_
  rw [show nI i + 3 = nI (i + 3) from nI_pj i 3]
  refine x_sldN (q := 286) dL_law_285 rfl (by omega) (by omega) ?_
  refine y_cvI (q := 289) dL_law_286 rfl l_L_23 c rfl rfl (cl_1 r.S) (by decide) rfl rfl rfl rfl ?_
  refine x_aload_n (q := 290) dL_law_289 rfl rfl rfl ?_
  refine x_aload_n (q := 291) dL_law_290 rfl rfl rfl ?_
  refine x_iload_n (q := 292) dL_law_291 rfl rfl rfl ?_
  refine x_iconst (q := 293) (v := 1) dL_law_292 rfl (by decide) ?_
  refine x_iadd (q := 294) dL_law_293 rfl ?_
  rw [show nI i + 1 = nI (i + 1) from nI_pj i 1]
  refine x_sldN (q := 295) dL_law_294 rfl (by omega) (by omega) ?_
  refine x_aload_n (q := 296) dL_law_295 rfl rfl rfl ?_
  refine x_iload_n (q := 297) dL_law_296 rfl rfl rfl ?_
  refine x_iconst (q := 298) (v := 2) dL_law_297 rfl (by decide) ?_
  refine x_iadd (q := 299) dL_law_298 rfl ?_
  rw [show nI i + 2 = nI (i + 2) from nI_pj i 2]
  refine x_sldN (q := 300) dL_law_299 rfl (by omega) (by omega) ?_
  refine x_aload_n (q := 301) dL_law_300 rfl rfl rfl ?_
  refine x_iload_n (q := 302) dL_law_301 rfl rfl rfl ?_
  refine x_iconst (q := 303) (v := 3) dL_law_302 rfl (by decide) ?_
  refine x_iadd (q := 304) dL_law_303 rfl ?_
  rw [show nI i + 3 = nI (i + 3) from nI_pj i 3]
  refine x_sldN (q := 305) dL_law_304 rfl (by omega) (by omega) ?_
  refine y_cvI (q := 308) dL_law_305 rfl l_L_27 m rfl rfl (cl_132 S1) (by decide) rfl rfl rfl rfl ?_
  refine x_ic_eq (q := 311) (t := 1338) dL_law_308 rfl (by decide) (fun _ => ?_) (fun c_ => absurd rfl c_)
  exact K _ _ _ _ _ _ _ _ r2
theorem lw_c3 {nm : MethodName} {L i : Nat} {xs : Nat → Int32} {h : HF} {nb nl nr nt nd nj np : Nat} (hi : i + 6 ≤ L) (hL : L ≤ 3072) (r : Rel h nb nl nr nt nd nj np) (K : ∀ (h2 : HF) (nb nl nr nt nd nj np : Nat), Rel h2 nb nl nr nt nd nj np → Vg (mLaw nm) (some (L, xs)) QL 1338 [some (.ref 0), some (.ref 1), some (.ref 132), some (.int (nI i))] [] 170 h2 170 7114) : Vg (mLaw nm) (some (L, xs)) QL 313 [some (.ref 0), some (.ref 1), some (.ref 132), some (.int (nI i))] [] 170 h 170 7114 := by
  obtain ⟨v, h1, h2, c, S1, m, nb2, nl2, nr2, nt2, nd2, nj2, np2, r2⟩ := J_left r (xs (i + 1))
  refine x_aload_n (q := 314) dL_law_313 rfl rfl rfl ?_
  refine x_aload_n (q := 315) dL_law_314 rfl rfl rfl ?_
  refine x_iload_n (q := 316) dL_law_315 rfl rfl rfl ?_
  refine x_iconst (q := 317) (v := 1) dL_law_316 rfl (by decide) ?_
  refine x_iadd (q := 318) dL_law_317 rfl ?_
  rw [show nI i + 1 = nI (i + 1) from nI_pj i 1]
  refine x_sldN (q := 319) dL_law_318 rfl (by omega) (by omega) ?_
  refine y_cvI (q := 322) dL_law_319 rfl l_L_28 c rfl rfl (cl_1 r.S) (by decide) rfl rfl rfl rfl ?_
  refine x_aload_n (q := 323) dL_law_322 rfl rfl rfl ?_
  refine x_aload_n (q := 324) dL_law_323 rfl rfl rfl ?_
  refine x_iload_n (q := 325) dL_law_324 rfl rfl rfl ?_
  refine x_iconst (q := 326) (v := 1) dL_law_325 rfl (by decide) ?_
  refine x_iadd (q := 327) dL_law_326 rfl ?_
  rw [show nI i + 1 = nI (i + 1) from nI_pj i 1]
  refine x_sldN (q := 328) dL_law_327 rfl (by omega) (by omega) ?_
  refine y_cvI (q := 331) dL_law_328 rfl l_L_32 m rfl rfl (cl_132 S1) (by decide) rfl rfl rfl rfl ?_
  refine x_ic_eq (q := 334) (t := 1338) dL_law_331 rfl (by decide) (fun _ => ?_) (fun c_ => absurd rfl c_)
  exact K _ _ _ _ _ _ _ _ r2
theorem lw_c4 {nm : MethodName} {L i : Nat} {xs : Nat → Int32} {h : HF} {nb nl nr nt nd nj np : Nat} (hi : i + 6 ≤ L) (hL : L ≤ 3072) (r : Rel h nb nl nr nt nd nj np) (K : ∀ (h2 : HF) (nb nl nr nt nd nj np : Nat), Rel h2 nb nl nr nt nd nj np → Vg (mLaw nm) (some (L, xs)) QL 1338 [some (.ref 0), some (.ref 1), some (.ref 132), some (.int (nI i))] [] 170 h2 170 7114) : Vg (mLaw nm) (some (L, xs)) QL 336 [some (.ref 0), some (.ref 1), some (.ref 132), some (.int (nI i))] [] 170 h 170 7114 := by
  obtain ⟨v, h1, h2, c, S1, m, nb2, nl2, nr2, nt2, nd2, nj2, np2, r2⟩ := J_may r (xs (i + 1))
  refine x_aload_n (q := 337) dL_law_336 rfl rfl rfl ?_
  refine x_aload_n (q := 338) dL_law_337 rfl rfl rfl ?_
  refine x_iload_n (q := 339) dL_law_338 rfl rfl rfl ?_
  refine x_iconst (q := 340) (v := 1) dL_law_339 rfl (by decide) ?_
  refine x_iadd (q := 341) dL_law_340 rfl ?_
  rw [show nI i + 1 = nI (i + 1) from nI_pj i 1]
  refine x_sldN (q := 342) dL_law_341 rfl (by omega) (by omega) ?_
  refine y_cvI (q := 345) dL_law_342 rfl l_L_33 c rfl rfl (cl_1 r.S) (by decide) rfl rfl rfl rfl ?_
  refine x_aload_n (q := 346) dL_law_345 rfl rfl rfl ?_
  refine x_aload_n (q := 347) dL_law_346 rfl rfl rfl ?_
  refine x_iload_n (q := 348) dL_law_347 rfl rfl rfl ?_
  refine x_iconst (q := 349) (v := 1) dL_law_348 rfl (by decide) ?_
  refine x_iadd (q := 350) dL_law_349 rfl ?_
  rw [show nI i + 1 = nI (i + 1) from nI_pj i 1]
  refine x_sldN (q := 351) dL_law_350 rfl (by omega) (by omega) ?_
  refine y_cvI (q := 354) dL_law_351 rfl l_L_36 m rfl rfl (cl_132 S1) (by decide) rfl rfl rfl rfl ?_
  refine x_ic_eq (q := 357) (t := 1338) dL_law_354 rfl (by decide) (fun _ => ?_) (fun c_ => absurd rfl c_)
  exact K _ _ _ _ _ _ _ _ r2
theorem lw_c5 {nm : MethodName} {L i : Nat} {xs : Nat → Int32} {h : HF} {nb nl nr nt nd nj np : Nat} (hi : i + 6 ≤ L) (hL : L ≤ 3072) (r : Rel h nb nl nr nt nd nj np) (K : ∀ (h2 : HF) (nb nl nr nt nd nj np : Nat), Rel h2 nb nl nr nt nd nj np → Vg (mLaw nm) (some (L, xs)) QL 1338 [some (.ref 0), some (.ref 1), some (.ref 132), some (.int (nI i))] [] 170 h2 170 7114) : Vg (mLaw nm) (some (L, xs)) QL 359 [some (.ref 0), some (.ref 1), some (.ref 132), some (.int (nI i))] [] 170 h 170 7114 := by
  obtain ⟨v, h1, h2, c, S1, m, nb2, nl2, nr2, nt2, nd2, nj2, np2, r2⟩ := J_day r (xs (i + 1))
  refine x_aload_n (q := 360) dL_law_359 rfl rfl rfl ?_
  refine x_aload_n (q := 361) dL_law_360 rfl rfl rfl ?_
  refine x_iload_n (q := 362) dL_law_361 rfl rfl rfl ?_
  refine x_iconst (q := 363) (v := 1) dL_law_362 rfl (by decide) ?_
  refine x_iadd (q := 364) dL_law_363 rfl ?_
  rw [show nI i + 1 = nI (i + 1) from nI_pj i 1]
  refine x_sldN (q := 365) dL_law_364 rfl (by omega) (by omega) ?_
  refine y_cvI (q := 368) dL_law_365 rfl l_L_37 c rfl rfl (cl_1 r.S) (by decide) rfl rfl rfl rfl ?_
  refine x_aload_n (q := 369) dL_law_368 rfl rfl rfl ?_
  refine x_aload_n (q := 370) dL_law_369 rfl rfl rfl ?_
  refine x_iload_n (q := 371) dL_law_370 rfl rfl rfl ?_
  refine x_iconst (q := 372) (v := 1) dL_law_371 rfl (by decide) ?_
  refine x_iadd (q := 373) dL_law_372 rfl ?_
  rw [show nI i + 1 = nI (i + 1) from nI_pj i 1]
  refine x_sldN (q := 374) dL_law_373 rfl (by omega) (by omega) ?_
  refine y_cvI (q := 377) dL_law_374 rfl l_L_40 m rfl rfl (cl_132 S1) (by decide) rfl rfl rfl rfl ?_
  refine x_ic_eq (q := 380) (t := 1338) dL_law_377 rfl (by decide) (fun _ => ?_) (fun c_ => absurd rfl c_)
  exact K _ _ _ _ _ _ _ _ r2
theorem lw_c6 {nm : MethodName} {L i : Nat} {xs : Nat → Int32} {h : HF} {nb nl nr nt nd nj np : Nat} (hi : i + 6 ≤ L) (hL : L ≤ 3072) (r : Rel h nb nl nr nt nd nj np) (K : ∀ (h2 : HF) (nb nl nr nt nd nj np : Nat), Rel h2 nb nl nr nt nd nj np → Vg (mLaw nm) (some (L, xs)) QL 1338 [some (.ref 0), some (.ref 1), some (.ref 132), some (.int (nI i))] [] 170 h2 170 7114) : Vg (mLaw nm) (some (L, xs)) QL 382 [some (.ref 0), some (.ref 1), some (.ref 132), some (.int (nI i))] [] 170 h 170 7114 := by
  obtain ⟨v, h1, h2, c, S1, m, nb2, nl2, nr2, nt2, nd2, nj2, np2, r2⟩ := J_recipe r 
  refine x_aload_n (q := 383) dL_law_382 rfl rfl rfl ?_
  refine y_cvI (q := 386) dL_law_383 rfl l_L_41 c rfl rfl (cl_1 r.S) (by decide) rfl rfl rfl rfl ?_
  refine x_aload_n (q := 387) dL_law_386 rfl rfl rfl ?_
  refine y_cvI (q := 390) dL_law_387 rfl l_L_45 m rfl rfl (cl_132 S1) (by decide) rfl rfl rfl rfl ?_
  refine x_ic_eq (q := 393) (t := 1338) dL_law_390 rfl (by decide) (fun _ => ?_) (fun c_ => absurd rfl c_)
  exact K _ _ _ _ _ _ _ _ r2
theorem lw_c7 {nm : MethodName} {L i : Nat} {xs : Nat → Int32} {h : HF} {nb nl nr nt nd nj np : Nat} (hi : i + 6 ≤ L) (hL : L ≤ 3072) (r : Rel h nb nl nr nt nd nj np) (K : ∀ (h2 : HF) (nb nl nr nt nd nj np : Nat), Rel h2 nb nl nr nt nd nj np → Vg (mLaw nm) (some (L, xs)) QL 1338 [some (.ref 0), some (.ref 1), some (.ref 132), some (.int (nI i))] [] 170 h2 170 7114) : Vg (mLaw nm) (some (L, xs)) QL 395 [some (.ref 0), some (.ref 1), some (.ref 132), some (.int (nI i))] [] 170 h 170 7114 := by
  by_cases hz : xs (i + 2) = 0
  · obtain ⟨v, h1, h2, c, S1, m, nb2, nl2, nr2, nt2, nd2, nj2, np2, r2⟩ := J_part r (xs (i + 1)) 0 (xs (i + 3)) (xs (i + 4)) (by decide)
    refine x_aload_n (q := 396) dL_law_395 rfl rfl rfl ?_
    refine x_aload_n (q := 397) dL_law_396 rfl rfl rfl ?_
    refine x_iload_n (q := 398) dL_law_397 rfl rfl rfl ?_
    refine x_iconst (q := 399) (v := 1) dL_law_398 rfl (by decide) ?_
    refine x_iadd (q := 400) dL_law_399 rfl ?_
    rw [show nI i + 1 = nI (i + 1) from nI_pj i 1]
    refine x_sldN (q := 401) dL_law_400 rfl (by omega) (by omega) ?_
    refine x_aload_n (q := 402) dL_law_401 rfl rfl rfl ?_
    refine x_iload_n (q := 403) dL_law_402 rfl rfl rfl ?_
    refine x_iconst (q := 404) (v := 2) dL_law_403 rfl (by decide) ?_
    refine x_iadd (q := 405) dL_law_404 rfl ?_
    rw [show nI i + 2 = nI (i + 2) from nI_pj i 2]
    refine x_sldN (q := 406) dL_law_405 rfl (by omega) (by omega) ?_
    refine x_if_eq (q := 409) (t := 413) dL_law_406 rfl (by decide) (fun _ => ?_) (fun c_ => absurd hz c_)
    refine x_iconst (q := 414) (v := 0) dL_law_413 rfl (by decide) ?_
    refine x_aload_n (q := 415) dL_law_414 rfl rfl rfl ?_
    refine x_iload_n (q := 416) dL_law_415 rfl rfl rfl ?_
    refine x_iconst (q := 417) (v := 3) dL_law_416 rfl (by decide) ?_
    refine x_iadd (q := 418) dL_law_417 rfl ?_
    rw [show nI i + 3 = nI (i + 3) from nI_pj i 3]
    refine x_sldN (q := 419) dL_law_418 rfl (by omega) (by omega) ?_
    refine x_aload_n (q := 420) dL_law_419 rfl rfl rfl ?_
    refine x_iload_n (q := 421) dL_law_420 rfl rfl rfl ?_
    refine x_iconst (q := 422) (v := 4) dL_law_421 rfl (by decide) ?_
    refine x_iadd (q := 423) dL_law_422 rfl ?_
    rw [show nI i + 4 = nI (i + 4) from nI_pj i 4]
    refine x_sldN (q := 424) dL_law_423 rfl (by omega) (by omega) ?_
    refine y_cvI (q := 427) dL_law_424 rfl l_L_46 c rfl rfl (cl_1 r.S) (by decide) rfl rfl rfl rfl ?_
    refine x_aload_n (q := 428) dL_law_427 rfl rfl rfl ?_
    refine x_aload_n (q := 429) dL_law_428 rfl rfl rfl ?_
    refine x_iload_n (q := 430) dL_law_429 rfl rfl rfl ?_
    refine x_iconst (q := 431) (v := 1) dL_law_430 rfl (by decide) ?_
    refine x_iadd (q := 432) dL_law_431 rfl ?_
    rw [show nI i + 1 = nI (i + 1) from nI_pj i 1]
    refine x_sldN (q := 433) dL_law_432 rfl (by omega) (by omega) ?_
    refine x_aload_n (q := 434) dL_law_433 rfl rfl rfl ?_
    refine x_iload_n (q := 435) dL_law_434 rfl rfl rfl ?_
    refine x_iconst (q := 436) (v := 2) dL_law_435 rfl (by decide) ?_
    refine x_iadd (q := 437) dL_law_436 rfl ?_
    rw [show nI i + 2 = nI (i + 2) from nI_pj i 2]
    refine x_sldN (q := 438) dL_law_437 rfl (by omega) (by omega) ?_
    refine x_if_eq (q := 441) (t := 445) dL_law_438 rfl (by decide) (fun _ => ?_) (fun c_ => absurd hz c_)
    refine x_iconst (q := 446) (v := 0) dL_law_445 rfl (by decide) ?_
    refine x_aload_n (q := 447) dL_law_446 rfl rfl rfl ?_
    refine x_iload_n (q := 448) dL_law_447 rfl rfl rfl ?_
    refine x_iconst (q := 449) (v := 3) dL_law_448 rfl (by decide) ?_
    refine x_iadd (q := 450) dL_law_449 rfl ?_
    rw [show nI i + 3 = nI (i + 3) from nI_pj i 3]
    refine x_sldN (q := 451) dL_law_450 rfl (by omega) (by omega) ?_
    refine x_aload_n (q := 452) dL_law_451 rfl rfl rfl ?_
    refine x_iload_n (q := 453) dL_law_452 rfl rfl rfl ?_
    refine x_iconst (q := 454) (v := 4) dL_law_453 rfl (by decide) ?_
    refine x_iadd (q := 455) dL_law_454 rfl ?_
    rw [show nI i + 4 = nI (i + 4) from nI_pj i 4]
    refine x_sldN (q := 456) dL_law_455 rfl (by omega) (by omega) ?_
    refine y_cvI (q := 459) dL_law_456 rfl l_L_50 m rfl rfl (cl_132 S1) (by decide) rfl rfl rfl rfl ?_
    refine x_ic_eq (q := 462) (t := 1338) dL_law_459 rfl (by decide) (fun _ => ?_) (fun c_ => absurd rfl c_)
    exact K _ _ _ _ _ _ _ _ r2
  · obtain ⟨v, h1, h2, c, S1, m, nb2, nl2, nr2, nt2, nd2, nj2, np2, r2⟩ := J_part r (xs (i + 1)) 1 (xs (i + 3)) (xs (i + 4)) (by decide)
    refine x_aload_n (q := 396) dL_law_395 rfl rfl rfl ?_
    refine x_aload_n (q := 397) dL_law_396 rfl rfl rfl ?_
    refine x_iload_n (q := 398) dL_law_397 rfl rfl rfl ?_
    refine x_iconst (q := 399) (v := 1) dL_law_398 rfl (by decide) ?_
    refine x_iadd (q := 400) dL_law_399 rfl ?_
    rw [show nI i + 1 = nI (i + 1) from nI_pj i 1]
    refine x_sldN (q := 401) dL_law_400 rfl (by omega) (by omega) ?_
    refine x_aload_n (q := 402) dL_law_401 rfl rfl rfl ?_
    refine x_iload_n (q := 403) dL_law_402 rfl rfl rfl ?_
    refine x_iconst (q := 404) (v := 2) dL_law_403 rfl (by decide) ?_
    refine x_iadd (q := 405) dL_law_404 rfl ?_
    rw [show nI i + 2 = nI (i + 2) from nI_pj i 2]
    refine x_sldN (q := 406) dL_law_405 rfl (by omega) (by omega) ?_
    refine x_if_eq (q := 409) (t := 413) dL_law_406 rfl (by decide) (fun c_ => absurd c_ hz) (fun _ => ?_)
    refine x_iconst (q := 410) (v := 1) dL_law_409 rfl (by decide) ?_
    refine x_goto (q := 414) dL_law_410 (by decide) ?_
    refine x_aload_n (q := 415) dL_law_414 rfl rfl rfl ?_
    refine x_iload_n (q := 416) dL_law_415 rfl rfl rfl ?_
    refine x_iconst (q := 417) (v := 3) dL_law_416 rfl (by decide) ?_
    refine x_iadd (q := 418) dL_law_417 rfl ?_
    rw [show nI i + 3 = nI (i + 3) from nI_pj i 3]
    refine x_sldN (q := 419) dL_law_418 rfl (by omega) (by omega) ?_
    refine x_aload_n (q := 420) dL_law_419 rfl rfl rfl ?_
    refine x_iload_n (q := 421) dL_law_420 rfl rfl rfl ?_
    refine x_iconst (q := 422) (v := 4) dL_law_421 rfl (by decide) ?_
    refine x_iadd (q := 423) dL_law_422 rfl ?_
    rw [show nI i + 4 = nI (i + 4) from nI_pj i 4]
    refine x_sldN (q := 424) dL_law_423 rfl (by omega) (by omega) ?_
    refine y_cvI (q := 427) dL_law_424 rfl l_L_46 c rfl rfl (cl_1 r.S) (by decide) rfl rfl rfl rfl ?_
    refine x_aload_n (q := 428) dL_law_427 rfl rfl rfl ?_
    refine x_aload_n (q := 429) dL_law_428 rfl rfl rfl ?_
    refine x_iload_n (q := 430) dL_law_429 rfl rfl rfl ?_
    refine x_iconst (q := 431) (v := 1) dL_law_430 rfl (by decide) ?_
    refine x_iadd (q := 432) dL_law_431 rfl ?_
    rw [show nI i + 1 = nI (i + 1) from nI_pj i 1]
    refine x_sldN (q := 433) dL_law_432 rfl (by omega) (by omega) ?_
    refine x_aload_n (q := 434) dL_law_433 rfl rfl rfl ?_
    refine x_iload_n (q := 435) dL_law_434 rfl rfl rfl ?_
    refine x_iconst (q := 436) (v := 2) dL_law_435 rfl (by decide) ?_
    refine x_iadd (q := 437) dL_law_436 rfl ?_
    rw [show nI i + 2 = nI (i + 2) from nI_pj i 2]
    refine x_sldN (q := 438) dL_law_437 rfl (by omega) (by omega) ?_
    refine x_if_eq (q := 441) (t := 445) dL_law_438 rfl (by decide) (fun c_ => absurd c_ hz) (fun _ => ?_)
    refine x_iconst (q := 442) (v := 1) dL_law_441 rfl (by decide) ?_
    refine x_goto (q := 446) dL_law_442 (by decide) ?_
    refine x_aload_n (q := 447) dL_law_446 rfl rfl rfl ?_
    refine x_iload_n (q := 448) dL_law_447 rfl rfl rfl ?_
    refine x_iconst (q := 449) (v := 3) dL_law_448 rfl (by decide) ?_
    refine x_iadd (q := 450) dL_law_449 rfl ?_
    rw [show nI i + 3 = nI (i + 3) from nI_pj i 3]
    refine x_sldN (q := 451) dL_law_450 rfl (by omega) (by omega) ?_
    refine x_aload_n (q := 452) dL_law_451 rfl rfl rfl ?_
    refine x_iload_n (q := 453) dL_law_452 rfl rfl rfl ?_
    refine x_iconst (q := 454) (v := 4) dL_law_453 rfl (by decide) ?_
    refine x_iadd (q := 455) dL_law_454 rfl ?_
    rw [show nI i + 4 = nI (i + 4) from nI_pj i 4]
    refine x_sldN (q := 456) dL_law_455 rfl (by omega) (by omega) ?_
    refine y_cvI (q := 459) dL_law_456 rfl l_L_50 m rfl rfl (cl_132 S1) (by decide) rfl rfl rfl rfl ?_
    refine x_ic_eq (q := 462) (t := 1338) dL_law_459 rfl (by decide) (fun _ => ?_) (fun c_ => absurd rfl c_)
    exact K _ _ _ _ _ _ _ _ r2
theorem lw_c8 {nm : MethodName} {L i : Nat} {xs : Nat → Int32} {h : HF} {nb nl nr nt nd nj np : Nat} (hi : i + 6 ≤ L) (hL : L ≤ 3072) (r : Rel h nb nl nr nt nd nj np) (K : ∀ (h2 : HF) (nb nl nr nt nd nj np : Nat), Rel h2 nb nl nr nt nd nj np → Vg (mLaw nm) (some (L, xs)) QL 1338 [some (.ref 0), some (.ref 1), some (.ref 132), some (.int (nI i))] [] 170 h2 170 7114) : Vg (mLaw nm) (some (L, xs)) QL 464 [some (.ref 0), some (.ref 1), some (.ref 132), some (.int (nI i))] [] 170 h 170 7114 := by
  obtain ⟨v, h1, h2, c, S1, m, nb2, nl2, nr2, nt2, nd2, nj2, np2, r2⟩ := J_resolved r (xs (i + 1)) (xs (i + 2))
  refine x_aload_n (q := 465) dL_law_464 rfl rfl rfl ?_
  refine x_aload_n (q := 466) dL_law_465 rfl rfl rfl ?_
  refine x_iload_n (q := 467) dL_law_466 rfl rfl rfl ?_
  refine x_iconst (q := 468) (v := 1) dL_law_467 rfl (by decide) ?_
  refine x_iadd (q := 469) dL_law_468 rfl ?_
  rw [show nI i + 1 = nI (i + 1) from nI_pj i 1]
  refine x_sldN (q := 470) dL_law_469 rfl (by omega) (by omega) ?_
  refine x_aload_n (q := 471) dL_law_470 rfl rfl rfl ?_
  refine x_iload_n (q := 472) dL_law_471 rfl rfl rfl ?_
  refine x_iconst (q := 473) (v := 2) dL_law_472 rfl (by decide) ?_
  refine x_iadd (q := 474) dL_law_473 rfl ?_
  rw [show nI i + 2 = nI (i + 2) from nI_pj i 2]
  refine x_sldN (q := 475) dL_law_474 rfl (by omega) (by omega) ?_
  refine y_cvI (q := 478) dL_law_475 rfl l_L_51 c rfl rfl (cl_1 r.S) (by decide) rfl rfl rfl rfl ?_
  refine x_aload_n (q := 479) dL_law_478 rfl rfl rfl ?_
  refine x_aload_n (q := 480) dL_law_479 rfl rfl rfl ?_
  refine x_iload_n (q := 481) dL_law_480 rfl rfl rfl ?_
  refine x_iconst (q := 482) (v := 1) dL_law_481 rfl (by decide) ?_
  refine x_iadd (q := 483) dL_law_482 rfl ?_
  rw [show nI i + 1 = nI (i + 1) from nI_pj i 1]
  refine x_sldN (q := 484) dL_law_483 rfl (by omega) (by omega) ?_
  refine x_aload_n (q := 485) dL_law_484 rfl rfl rfl ?_
  refine x_iload_n (q := 486) dL_law_485 rfl rfl rfl ?_
  refine x_iconst (q := 487) (v := 2) dL_law_486 rfl (by decide) ?_
  refine x_iadd (q := 488) dL_law_487 rfl ?_
  rw [show nI i + 2 = nI (i + 2) from nI_pj i 2]
  refine x_sldN (q := 489) dL_law_488 rfl (by omega) (by omega) ?_
  refine y_cvI (q := 492) dL_law_489 rfl l_L_54 m rfl rfl (cl_132 S1) (by decide) rfl rfl rfl rfl ?_
  refine x_ic_eq (q := 495) (t := 1338) dL_law_492 rfl (by decide) (fun _ => ?_) (fun c_ => absurd rfl c_)
  exact K _ _ _ _ _ _ _ _ r2
theorem lw_c9 {nm : MethodName} {L i : Nat} {xs : Nat → Int32} {h : HF} {nb nl nr nt nd nj np : Nat} (hi : i + 6 ≤ L) (hL : L ≤ 3072) (r : Rel h nb nl nr nt nd nj np) (K : ∀ (h2 : HF) (nb nl nr nt nd nj np : Nat), Rel h2 nb nl nr nt nd nj np → Vg (mLaw nm) (some (L, xs)) QL 1338 [some (.ref 0), some (.ref 1), some (.ref 132), some (.int (nI i))] [] 170 h2 170 7114) : Vg (mLaw nm) (some (L, xs)) QL 497 [some (.ref 0), some (.ref 1), some (.ref 132), some (.int (nI i))] [] 170 h 170 7114 := by
  obtain ⟨v, h1, h2, c, S1, m, nb2, nl2, nr2, nt2, nd2, nj2, np2, r2⟩ := J_batch r 
  refine x_aload_n (q := 498) dL_law_497 rfl rfl rfl ?_
  refine y_cvI (q := 501) dL_law_498 rfl l_L_55 c rfl rfl (cl_1 r.S) (by decide) rfl rfl rfl rfl ?_
  refine x_aload_n (q := 502) dL_law_501 rfl rfl rfl ?_
  refine y_cvI (q := 505) dL_law_502 rfl l_L_58 m rfl rfl (cl_132 S1) (by decide) rfl rfl rfl rfl ?_
  refine x_ic_eq (q := 508) (t := 1338) dL_law_505 rfl (by decide) (fun _ => ?_) (fun c_ => absurd rfl c_)
  exact K _ _ _ _ _ _ _ _ r2
theorem lw_c10 {nm : MethodName} {L i : Nat} {xs : Nat → Int32} {h : HF} {nb nl nr nt nd nj np : Nat} (hi : i + 6 ≤ L) (hL : L ≤ 3072) (r : Rel h nb nl nr nt nd nj np) (K : ∀ (h2 : HF) (nb nl nr nt nd nj np : Nat), Rel h2 nb nl nr nt nd nj np → Vg (mLaw nm) (some (L, xs)) QL 1338 [some (.ref 0), some (.ref 1), some (.ref 132), some (.int (nI i))] [] 170 h2 170 7114) : Vg (mLaw nm) (some (L, xs)) QL 510 [some (.ref 0), some (.ref 1), some (.ref 132), some (.int (nI i))] [] 170 h 170 7114 := by
  obtain ⟨v, h1, h2, c, S1, m, nb2, nl2, nr2, nt2, nd2, nj2, np2, r2⟩ := J_weigh r (xs (i + 1)) (xs (i + 2)) (xs (i + 3))
  refine x_aload_n (q := 511) dL_law_510 rfl rfl rfl ?_
  refine x_aload_n (q := 512) dL_law_511 rfl rfl rfl ?_
  refine x_iload_n (q := 513) dL_law_512 rfl rfl rfl ?_
  refine x_iconst (q := 514) (v := 1) dL_law_513 rfl (by decide) ?_
  refine x_iadd (q := 515) dL_law_514 rfl ?_
  rw [show nI i + 1 = nI (i + 1) from nI_pj i 1]
  refine x_sldN (q := 516) dL_law_515 rfl (by omega) (by omega) ?_
  refine x_aload_n (q := 517) dL_law_516 rfl rfl rfl ?_
  refine x_iload_n (q := 518) dL_law_517 rfl rfl rfl ?_
  refine x_iconst (q := 519) (v := 2) dL_law_518 rfl (by decide) ?_
  refine x_iadd (q := 520) dL_law_519 rfl ?_
  rw [show nI i + 2 = nI (i + 2) from nI_pj i 2]
  refine x_sldN (q := 521) dL_law_520 rfl (by omega) (by omega) ?_
  refine x_aload_n (q := 522) dL_law_521 rfl rfl rfl ?_
  refine x_iload_n (q := 523) dL_law_522 rfl rfl rfl ?_
  refine x_iconst (q := 524) (v := 3) dL_law_523 rfl (by decide) ?_
  refine x_iadd (q := 525) dL_law_524 rfl ?_
  rw [show nI i + 3 = nI (i + 3) from nI_pj i 3]
  refine x_sldN (q := 526) dL_law_525 rfl (by omega) (by omega) ?_
  refine y_cvI (q := 529) dL_law_526 rfl l_L_59 c rfl rfl (cl_1 r.S) (by decide) rfl rfl rfl rfl ?_
  refine x_aload_n (q := 530) dL_law_529 rfl rfl rfl ?_
  refine x_aload_n (q := 531) dL_law_530 rfl rfl rfl ?_
  refine x_iload_n (q := 532) dL_law_531 rfl rfl rfl ?_
  refine x_iconst (q := 533) (v := 1) dL_law_532 rfl (by decide) ?_
  refine x_iadd (q := 534) dL_law_533 rfl ?_
  rw [show nI i + 1 = nI (i + 1) from nI_pj i 1]
  refine x_sldN (q := 535) dL_law_534 rfl (by omega) (by omega) ?_
  refine x_aload_n (q := 536) dL_law_535 rfl rfl rfl ?_
  refine x_iload_n (q := 537) dL_law_536 rfl rfl rfl ?_
  refine x_iconst (q := 538) (v := 2) dL_law_537 rfl (by decide) ?_
  refine x_iadd (q := 539) dL_law_538 rfl ?_
  rw [show nI i + 2 = nI (i + 2) from nI_pj i 2]
  refine x_sldN (q := 540) dL_law_539 rfl (by omega) (by omega) ?_
  refine x_aload_n (q := 541) dL_law_540 rfl rfl rfl ?_
  refine x_iload_n (q := 542) dL_law_541 rfl rfl rfl ?_
  refine x_iconst (q := 543) (v := 3) dL_law_542 rfl (by decide) ?_
  refine x_iadd (q := 544) dL_law_543 rfl ?_
  rw [show nI i + 3 = nI (i + 3) from nI_pj i 3]
  refine x_sldN (q := 545) dL_law_544 rfl (by omega) (by omega) ?_
  refine y_cvI (q := 548) dL_law_545 rfl l_L_62 m rfl rfl (cl_132 S1) (by decide) rfl rfl rfl rfl ?_
  refine x_ic_eq (q := 551) (t := 1338) dL_law_548 rfl (by decide) (fun _ => ?_) (fun c_ => absurd rfl c_)
  exact K _ _ _ _ _ _ _ _ r2
theorem lw_c11 {nm : MethodName} {L i : Nat} {xs : Nat → Int32} {h : HF} {nb nl nr nt nd nj np : Nat} (hi : i + 6 ≤ L) (hL : L ≤ 3072) (r : Rel h nb nl nr nt nd nj np) (K : ∀ (h2 : HF) (nb nl nr nt nd nj np : Nat), Rel h2 nb nl nr nt nd nj np → Vg (mLaw nm) (some (L, xs)) QL 1338 [some (.ref 0), some (.ref 1), some (.ref 132), some (.int (nI i))] [] 170 h2 170 7114) : Vg (mLaw nm) (some (L, xs)) QL 553 [some (.ref 0), some (.ref 1), some (.ref 132), some (.int (nI i))] [] 170 h 170 7114 := by
  obtain ⟨v, h1, h2, c, S1, m, nb2, nl2, nr2, nt2, nd2, nj2, np2, r2⟩ := J_brew r (xs (i + 1)) (xs (i + 2)) (xs (i + 3))
  refine x_aload_n (q := 554) dL_law_553 rfl rfl rfl ?_
  refine x_aload_n (q := 555) dL_law_554 rfl rfl rfl ?_
  refine x_iload_n (q := 556) dL_law_555 rfl rfl rfl ?_
  refine x_iconst (q := 557) (v := 1) dL_law_556 rfl (by decide) ?_
  refine x_iadd (q := 558) dL_law_557 rfl ?_
  rw [show nI i + 1 = nI (i + 1) from nI_pj i 1]
  refine x_sldN (q := 559) dL_law_558 rfl (by omega) (by omega) ?_
  refine x_aload_n (q := 560) dL_law_559 rfl rfl rfl ?_
  refine x_iload_n (q := 561) dL_law_560 rfl rfl rfl ?_
  refine x_iconst (q := 562) (v := 2) dL_law_561 rfl (by decide) ?_
  refine x_iadd (q := 563) dL_law_562 rfl ?_
  rw [show nI i + 2 = nI (i + 2) from nI_pj i 2]
  refine x_sldN (q := 564) dL_law_563 rfl (by omega) (by omega) ?_
  refine x_aload_n (q := 565) dL_law_564 rfl rfl rfl ?_
  refine x_iload_n (q := 566) dL_law_565 rfl rfl rfl ?_
  refine x_iconst (q := 567) (v := 3) dL_law_566 rfl (by decide) ?_
  refine x_iadd (q := 568) dL_law_567 rfl ?_
  rw [show nI i + 3 = nI (i + 3) from nI_pj i 3]
  refine x_sldN (q := 569) dL_law_568 rfl (by omega) (by omega) ?_
  refine y_cvI (q := 572) dL_law_569 rfl l_L_63 c rfl rfl (cl_1 r.S) (by decide) rfl rfl rfl rfl ?_
  refine x_aload_n (q := 573) dL_law_572 rfl rfl rfl ?_
  refine x_aload_n (q := 574) dL_law_573 rfl rfl rfl ?_
  refine x_iload_n (q := 575) dL_law_574 rfl rfl rfl ?_
  refine x_iconst (q := 576) (v := 1) dL_law_575 rfl (by decide) ?_
  refine x_iadd (q := 577) dL_law_576 rfl ?_
  rw [show nI i + 1 = nI (i + 1) from nI_pj i 1]
  refine x_sldN (q := 578) dL_law_577 rfl (by omega) (by omega) ?_
  refine x_aload_n (q := 579) dL_law_578 rfl rfl rfl ?_
  refine x_iload_n (q := 580) dL_law_579 rfl rfl rfl ?_
  refine x_iconst (q := 581) (v := 2) dL_law_580 rfl (by decide) ?_
  refine x_iadd (q := 582) dL_law_581 rfl ?_
  rw [show nI i + 2 = nI (i + 2) from nI_pj i 2]
  refine x_sldN (q := 583) dL_law_582 rfl (by omega) (by omega) ?_
  refine x_aload_n (q := 584) dL_law_583 rfl rfl rfl ?_
  refine x_iload_n (q := 585) dL_law_584 rfl rfl rfl ?_
  refine x_iconst (q := 586) (v := 3) dL_law_585 rfl (by decide) ?_
  refine x_iadd (q := 587) dL_law_586 rfl ?_
  rw [show nI i + 3 = nI (i + 3) from nI_pj i 3]
  refine x_sldN (q := 588) dL_law_587 rfl (by omega) (by omega) ?_
  refine y_cvI (q := 591) dL_law_588 rfl l_L_66 m rfl rfl (cl_132 S1) (by decide) rfl rfl rfl rfl ?_
  refine x_ic_eq (q := 594) (t := 1338) dL_law_591 rfl (by decide) (fun _ => ?_) (fun c_ => absurd rfl c_)
  exact K _ _ _ _ _ _ _ _ r2
theorem lw_c12 {nm : MethodName} {L i : Nat} {xs : Nat → Int32} {h : HF} {nb nl nr nt nd nj np : Nat} (hi : i + 6 ≤ L) (hL : L ≤ 3072) (r : Rel h nb nl nr nt nd nj np) (K : ∀ (h2 : HF) (nb nl nr nt nd nj np : Nat), Rel h2 nb nl nr nt nd nj np → Vg (mLaw nm) (some (L, xs)) QL 1338 [some (.ref 0), some (.ref 1), some (.ref 132), some (.int (nI i))] [] 170 h2 170 7114) : Vg (mLaw nm) (some (L, xs)) QL 596 [some (.ref 0), some (.ref 1), some (.ref 132), some (.int (nI i))] [] 170 h 170 7114 := by
  obtain ⟨v, h1, h2, c, S1, m, nb2, nl2, nr2, nt2, nd2, nj2, np2, r2⟩ := J_drops r (xs (i + 1)) (xs (i + 2)) (xs (i + 3)) (xs (i + 4)) (xs (i + 5))
  refine x_aload_n (q := 597) dL_law_596 rfl rfl rfl ?_
  refine x_aload_n (q := 598) dL_law_597 rfl rfl rfl ?_
  refine x_iload_n (q := 599) dL_law_598 rfl rfl rfl ?_
  refine x_iconst (q := 600) (v := 1) dL_law_599 rfl (by decide) ?_
  refine x_iadd (q := 601) dL_law_600 rfl ?_
  rw [show nI i + 1 = nI (i + 1) from nI_pj i 1]
  refine x_sldN (q := 602) dL_law_601 rfl (by omega) (by omega) ?_
  refine x_aload_n (q := 603) dL_law_602 rfl rfl rfl ?_
  refine x_iload_n (q := 604) dL_law_603 rfl rfl rfl ?_
  refine x_iconst (q := 605) (v := 2) dL_law_604 rfl (by decide) ?_
  refine x_iadd (q := 606) dL_law_605 rfl ?_
  rw [show nI i + 2 = nI (i + 2) from nI_pj i 2]
  refine x_sldN (q := 607) dL_law_606 rfl (by omega) (by omega) ?_
  refine x_aload_n (q := 608) dL_law_607 rfl rfl rfl ?_
  refine x_iload_n (q := 609) dL_law_608 rfl rfl rfl ?_
  refine x_iconst (q := 610) (v := 3) dL_law_609 rfl (by decide) ?_
  refine x_iadd (q := 611) dL_law_610 rfl ?_
  rw [show nI i + 3 = nI (i + 3) from nI_pj i 3]
  refine x_sldN (q := 612) dL_law_611 rfl (by omega) (by omega) ?_
  refine x_aload_n (q := 613) dL_law_612 rfl rfl rfl ?_
  refine x_iload_n (q := 614) dL_law_613 rfl rfl rfl ?_
  refine x_iconst (q := 615) (v := 4) dL_law_614 rfl (by decide) ?_
  refine x_iadd (q := 616) dL_law_615 rfl ?_
  rw [show nI i + 4 = nI (i + 4) from nI_pj i 4]
  refine x_sldN (q := 617) dL_law_616 rfl (by omega) (by omega) ?_
  refine x_aload_n (q := 618) dL_law_617 rfl rfl rfl ?_
  refine x_iload_n (q := 619) dL_law_618 rfl rfl rfl ?_
  refine x_iconst (q := 620) (v := 5) dL_law_619 rfl (by decide) ?_
  refine x_iadd (q := 621) dL_law_620 rfl ?_
  rw [show nI i + 5 = nI (i + 5) from nI_pj i 5]
  refine x_sldN (q := 622) dL_law_621 rfl (by omega) (by omega) ?_
  refine y_cvI (q := 625) dL_law_622 rfl l_L_67 c rfl rfl (cl_1 r.S) (by decide) rfl rfl rfl rfl ?_
  refine x_aload_n (q := 626) dL_law_625 rfl rfl rfl ?_
  refine x_aload_n (q := 627) dL_law_626 rfl rfl rfl ?_
  refine x_iload_n (q := 628) dL_law_627 rfl rfl rfl ?_
  refine x_iconst (q := 629) (v := 1) dL_law_628 rfl (by decide) ?_
  refine x_iadd (q := 630) dL_law_629 rfl ?_
  rw [show nI i + 1 = nI (i + 1) from nI_pj i 1]
  refine x_sldN (q := 631) dL_law_630 rfl (by omega) (by omega) ?_
  refine x_aload_n (q := 632) dL_law_631 rfl rfl rfl ?_
  refine x_iload_n (q := 633) dL_law_632 rfl rfl rfl ?_
  refine x_iconst (q := 634) (v := 2) dL_law_633 rfl (by decide) ?_
  refine x_iadd (q := 635) dL_law_634 rfl ?_
  rw [show nI i + 2 = nI (i + 2) from nI_pj i 2]
  refine x_sldN (q := 636) dL_law_635 rfl (by omega) (by omega) ?_
  refine x_aload_n (q := 637) dL_law_636 rfl rfl rfl ?_
  refine x_iload_n (q := 638) dL_law_637 rfl rfl rfl ?_
  refine x_iconst (q := 639) (v := 3) dL_law_638 rfl (by decide) ?_
  refine x_iadd (q := 640) dL_law_639 rfl ?_
  rw [show nI i + 3 = nI (i + 3) from nI_pj i 3]
  refine x_sldN (q := 641) dL_law_640 rfl (by omega) (by omega) ?_
  refine x_aload_n (q := 642) dL_law_641 rfl rfl rfl ?_
  refine x_iload_n (q := 643) dL_law_642 rfl rfl rfl ?_
  refine x_iconst (q := 644) (v := 4) dL_law_643 rfl (by decide) ?_
  refine x_iadd (q := 645) dL_law_644 rfl ?_
  rw [show nI i + 4 = nI (i + 4) from nI_pj i 4]
  refine x_sldN (q := 646) dL_law_645 rfl (by omega) (by omega) ?_
  refine x_aload_n (q := 647) dL_law_646 rfl rfl rfl ?_
  refine x_iload_n (q := 648) dL_law_647 rfl rfl rfl ?_
  refine x_iconst (q := 649) (v := 5) dL_law_648 rfl (by decide) ?_
  refine x_iadd (q := 650) dL_law_649 rfl ?_
  rw [show nI i + 5 = nI (i + 5) from nI_pj i 5]
  refine x_sldN (q := 651) dL_law_650 rfl (by omega) (by omega) ?_
  refine y_cvI (q := 654) dL_law_651 rfl l_L_71 m rfl rfl (cl_132 S1) (by decide) rfl rfl rfl rfl ?_
  refine x_ic_eq (q := 657) (t := 1338) dL_law_654 rfl (by decide) (fun _ => ?_) (fun c_ => absurd rfl c_)
  exact K _ _ _ _ _ _ _ _ r2
theorem lw_c13 {nm : MethodName} {L i : Nat} {xs : Nat → Int32} {h : HF} {nb nl nr nt nd nj np : Nat} (hi : i + 6 ≤ L) (hL : L ≤ 3072) (r : Rel h nb nl nr nt nd nj np) (K : ∀ (h2 : HF) (nb nl nr nt nd nj np : Nat), Rel h2 nb nl nr nt nd nj np → Vg (mLaw nm) (some (L, xs)) QL 1338 [some (.ref 0), some (.ref 1), some (.ref 132), some (.int (nI i))] [] 170 h2 170 7114) : Vg (mLaw nm) (some (L, xs)) QL 659 [some (.ref 0), some (.ref 1), some (.ref 132), some (.int (nI i))] [] 170 h 170 7114 := by
  obtain ⟨v, h1, h2, c, S1, m, nb2, nl2, nr2, nt2, nd2, nj2, np2, r2⟩ := J_drop r (xs (i + 1))
  refine x_aload_n (q := 660) dL_law_659 rfl rfl rfl ?_
  refine x_aload_n (q := 661) dL_law_660 rfl rfl rfl ?_
  refine x_iload_n (q := 662) dL_law_661 rfl rfl rfl ?_
  refine x_iconst (q := 663) (v := 1) dL_law_662 rfl (by decide) ?_
  refine x_iadd (q := 664) dL_law_663 rfl ?_
  rw [show nI i + 1 = nI (i + 1) from nI_pj i 1]
  refine x_sldN (q := 665) dL_law_664 rfl (by omega) (by omega) ?_
  refine y_cvI (q := 668) dL_law_665 rfl l_L_72 c rfl rfl (cl_1 r.S) (by decide) rfl rfl rfl rfl ?_
  refine x_aload_n (q := 669) dL_law_668 rfl rfl rfl ?_
  refine x_aload_n (q := 670) dL_law_669 rfl rfl rfl ?_
  refine x_iload_n (q := 671) dL_law_670 rfl rfl rfl ?_
  refine x_iconst (q := 672) (v := 1) dL_law_671 rfl (by decide) ?_
  refine x_iadd (q := 673) dL_law_672 rfl ?_
  rw [show nI i + 1 = nI (i + 1) from nI_pj i 1]
  refine x_sldN (q := 674) dL_law_673 rfl (by omega) (by omega) ?_
  refine y_cvI (q := 677) dL_law_674 rfl l_L_75 m rfl rfl (cl_132 S1) (by decide) rfl rfl rfl rfl ?_
  refine x_ic_eq (q := 680) (t := 1338) dL_law_677 rfl (by decide) (fun _ => ?_) (fun c_ => absurd rfl c_)
  exact K _ _ _ _ _ _ _ _ r2
theorem lw_c14 {nm : MethodName} {L i : Nat} {xs : Nat → Int32} {h : HF} {nb nl nr nt nd nj np : Nat} (hi : i + 6 ≤ L) (hL : L ≤ 3072) (r : Rel h nb nl nr nt nd nj np) (K : ∀ (h2 : HF) (nb nl nr nt nd nj np : Nat), Rel h2 nb nl nr nt nd nj np → Vg (mLaw nm) (some (L, xs)) QL 1338 [some (.ref 0), some (.ref 1), some (.ref 132), some (.int (nI i))] [] 170 h2 170 7114) : Vg (mLaw nm) (some (L, xs)) QL 682 [some (.ref 0), some (.ref 1), some (.ref 132), some (.int (nI i))] [] 170 h 170 7114 := by
  obtain ⟨v, h1, h2, c, S1, m, nb2, nl2, nr2, nt2, nd2, nj2, np2, r2⟩ := J_dropIn r (xs (i + 1))
  refine x_aload_n (q := 683) dL_law_682 rfl rfl rfl ?_
  refine x_aload_n (q := 684) dL_law_683 rfl rfl rfl ?_
  refine x_iload_n (q := 685) dL_law_684 rfl rfl rfl ?_
  refine x_iconst (q := 686) (v := 1) dL_law_685 rfl (by decide) ?_
  refine x_iadd (q := 687) dL_law_686 rfl ?_
  rw [show nI i + 1 = nI (i + 1) from nI_pj i 1]
  refine x_sldN (q := 688) dL_law_687 rfl (by omega) (by omega) ?_
  refine y_cvI (q := 691) dL_law_688 rfl l_L_76 c rfl rfl (cl_1 r.S) (by decide) rfl rfl rfl rfl ?_
  refine x_aload_n (q := 692) dL_law_691 rfl rfl rfl ?_
  refine x_aload_n (q := 693) dL_law_692 rfl rfl rfl ?_
  refine x_iload_n (q := 694) dL_law_693 rfl rfl rfl ?_
  refine x_iconst (q := 695) (v := 1) dL_law_694 rfl (by decide) ?_
  refine x_iadd (q := 696) dL_law_695 rfl ?_
  rw [show nI i + 1 = nI (i + 1) from nI_pj i 1]
  refine x_sldN (q := 697) dL_law_696 rfl (by omega) (by omega) ?_
  refine y_cvI (q := 700) dL_law_697 rfl l_L_79 m rfl rfl (cl_132 S1) (by decide) rfl rfl rfl rfl ?_
  refine x_ic_eq (q := 703) (t := 1338) dL_law_700 rfl (by decide) (fun _ => ?_) (fun c_ => absurd rfl c_)
  exact K _ _ _ _ _ _ _ _ r2
theorem lw_c15 {nm : MethodName} {L i : Nat} {xs : Nat → Int32} {h : HF} {nb nl nr nt nd nj np : Nat} (hi : i + 6 ≤ L) (hL : L ≤ 3072) (r : Rel h nb nl nr nt nd nj np) (K : ∀ (h2 : HF) (nb nl nr nt nd nj np : Nat), Rel h2 nb nl nr nt nd nj np → Vg (mLaw nm) (some (L, xs)) QL 1338 [some (.ref 0), some (.ref 1), some (.ref 132), some (.int (nI i))] [] 170 h2 170 7114) : Vg (mLaw nm) (some (L, xs)) QL 705 [some (.ref 0), some (.ref 1), some (.ref 132), some (.int (nI i))] [] 170 h 170 7114 := by
  obtain ⟨v, h1, h2, c, S1, m, nb2, nl2, nr2, nt2, nd2, nj2, np2, r2⟩ := J_amount r (xs (i + 1)) (xs (i + 2))
  refine x_aload_n (q := 706) dL_law_705 rfl rfl rfl ?_
  refine x_aload_n (q := 707) dL_law_706 rfl rfl rfl ?_
  refine x_iload_n (q := 708) dL_law_707 rfl rfl rfl ?_
  refine x_iconst (q := 709) (v := 1) dL_law_708 rfl (by decide) ?_
  refine x_iadd (q := 710) dL_law_709 rfl ?_
  rw [show nI i + 1 = nI (i + 1) from nI_pj i 1]
  refine x_sldN (q := 711) dL_law_710 rfl (by omega) (by omega) ?_
  refine x_aload_n (q := 712) dL_law_711 rfl rfl rfl ?_
  refine x_iload_n (q := 713) dL_law_712 rfl rfl rfl ?_
  refine x_iconst (q := 714) (v := 2) dL_law_713 rfl (by decide) ?_
  refine x_iadd (q := 715) dL_law_714 rfl ?_
  rw [show nI i + 2 = nI (i + 2) from nI_pj i 2]
  refine x_sldN (q := 716) dL_law_715 rfl (by omega) (by omega) ?_
  refine y_cvI (q := 719) dL_law_716 rfl l_L_80 c rfl rfl (cl_1 r.S) (by decide) rfl rfl rfl rfl ?_
  refine x_aload_n (q := 720) dL_law_719 rfl rfl rfl ?_
  refine x_aload_n (q := 721) dL_law_720 rfl rfl rfl ?_
  refine x_iload_n (q := 722) dL_law_721 rfl rfl rfl ?_
  refine x_iconst (q := 723) (v := 1) dL_law_722 rfl (by decide) ?_
  refine x_iadd (q := 724) dL_law_723 rfl ?_
  rw [show nI i + 1 = nI (i + 1) from nI_pj i 1]
  refine x_sldN (q := 725) dL_law_724 rfl (by omega) (by omega) ?_
  refine x_aload_n (q := 726) dL_law_725 rfl rfl rfl ?_
  refine x_iload_n (q := 727) dL_law_726 rfl rfl rfl ?_
  refine x_iconst (q := 728) (v := 2) dL_law_727 rfl (by decide) ?_
  refine x_iadd (q := 729) dL_law_728 rfl ?_
  rw [show nI i + 2 = nI (i + 2) from nI_pj i 2]
  refine x_sldN (q := 730) dL_law_729 rfl (by omega) (by omega) ?_
  refine y_cvI (q := 733) dL_law_730 rfl l_L_83 m rfl rfl (cl_132 S1) (by decide) rfl rfl rfl rfl ?_
  refine x_ic_eq (q := 736) (t := 1338) dL_law_733 rfl (by decide) (fun _ => ?_) (fun c_ => absurd rfl c_)
  exact K _ _ _ _ _ _ _ _ r2
theorem lw_c16 {nm : MethodName} {L i : Nat} {xs : Nat → Int32} {h : HF} {nb nl nr nt nd nj np : Nat} (hi : i + 6 ≤ L) (hL : L ≤ 3072) (r : Rel h nb nl nr nt nd nj np) (K : ∀ (h2 : HF) (nb nl nr nt nd nj np : Nat), Rel h2 nb nl nr nt nd nj np → Vg (mLaw nm) (some (L, xs)) QL 1338 [some (.ref 0), some (.ref 1), some (.ref 132), some (.int (nI i))] [] 170 h2 170 7114) : Vg (mLaw nm) (some (L, xs)) QL 738 [some (.ref 0), some (.ref 1), some (.ref 132), some (.int (nI i))] [] 170 h 170 7114 := by
  obtain ⟨v, h1, h2, c, S1, m, nb2, nl2, nr2, nt2, nd2, nj2, np2, r2⟩ := J_shade r (xs (i + 1)) (xs (i + 2))
  refine x_aload_n (q := 739) dL_law_738 rfl rfl rfl ?_
  refine x_aload_n (q := 740) dL_law_739 rfl rfl rfl ?_
  refine x_iload_n (q := 741) dL_law_740 rfl rfl rfl ?_
  refine x_iconst (q := 742) (v := 1) dL_law_741 rfl (by decide) ?_
  refine x_iadd (q := 743) dL_law_742 rfl ?_
  rw [show nI i + 1 = nI (i + 1) from nI_pj i 1]
  refine x_sldN (q := 744) dL_law_743 rfl (by omega) (by omega) ?_
  refine x_aload_n (q := 745) dL_law_744 rfl rfl rfl ?_
  refine x_iload_n (q := 746) dL_law_745 rfl rfl rfl ?_
  refine x_iconst (q := 747) (v := 2) dL_law_746 rfl (by decide) ?_
  refine x_iadd (q := 748) dL_law_747 rfl ?_
  rw [show nI i + 2 = nI (i + 2) from nI_pj i 2]
  refine x_sldN (q := 749) dL_law_748 rfl (by omega) (by omega) ?_
  refine y_cvI (q := 752) dL_law_749 rfl l_L_84 c rfl rfl (cl_1 r.S) (by decide) rfl rfl rfl rfl ?_
  refine x_aload_n (q := 753) dL_law_752 rfl rfl rfl ?_
  refine x_aload_n (q := 754) dL_law_753 rfl rfl rfl ?_
  refine x_iload_n (q := 755) dL_law_754 rfl rfl rfl ?_
  refine x_iconst (q := 756) (v := 1) dL_law_755 rfl (by decide) ?_
  refine x_iadd (q := 757) dL_law_756 rfl ?_
  rw [show nI i + 1 = nI (i + 1) from nI_pj i 1]
  refine x_sldN (q := 758) dL_law_757 rfl (by omega) (by omega) ?_
  refine x_aload_n (q := 759) dL_law_758 rfl rfl rfl ?_
  refine x_iload_n (q := 760) dL_law_759 rfl rfl rfl ?_
  refine x_iconst (q := 761) (v := 2) dL_law_760 rfl (by decide) ?_
  refine x_iadd (q := 762) dL_law_761 rfl ?_
  rw [show nI i + 2 = nI (i + 2) from nI_pj i 2]
  refine x_sldN (q := 763) dL_law_762 rfl (by omega) (by omega) ?_
  refine y_cvI (q := 766) dL_law_763 rfl l_L_87 m rfl rfl (cl_132 S1) (by decide) rfl rfl rfl rfl ?_
  refine x_ic_eq (q := 769) (t := 1338) dL_law_766 rfl (by decide) (fun _ => ?_) (fun c_ => absurd rfl c_)
  exact K _ _ _ _ _ _ _ _ r2
theorem lw_c17 {nm : MethodName} {L i : Nat} {xs : Nat → Int32} {h : HF} {nb nl nr nt nd nj np : Nat} (hi : i + 6 ≤ L) (hL : L ≤ 3072) (r : Rel h nb nl nr nt nd nj np) (K : ∀ (h2 : HF) (nb nl nr nt nd nj np : Nat), Rel h2 nb nl nr nt nd nj np → Vg (mLaw nm) (some (L, xs)) QL 1338 [some (.ref 0), some (.ref 1), some (.ref 132), some (.int (nI i))] [] 170 h2 170 7114) : Vg (mLaw nm) (some (L, xs)) QL 771 [some (.ref 0), some (.ref 1), some (.ref 132), some (.int (nI i))] [] 170 h 170 7114 := by
  obtain ⟨v, h1, h2, c, S1, m, nb2, nl2, nr2, nt2, nd2, nj2, np2, r2⟩ := J_miss r (xs (i + 1)) (xs (i + 2)) (xs (i + 3)) (xs (i + 4))
  refine x_aload_n (q := 772) dL_law_771 rfl rfl rfl ?_
  refine x_aload_n (q := 773) dL_law_772 rfl rfl rfl ?_
  refine x_iload_n (q := 774) dL_law_773 rfl rfl rfl ?_
  refine x_iconst (q := 775) (v := 1) dL_law_774 rfl (by decide) ?_
  refine x_iadd (q := 776) dL_law_775 rfl ?_
  rw [show nI i + 1 = nI (i + 1) from nI_pj i 1]
  refine x_sldN (q := 777) dL_law_776 rfl (by omega) (by omega) ?_
  refine x_aload_n (q := 778) dL_law_777 rfl rfl rfl ?_
  refine x_iload_n (q := 779) dL_law_778 rfl rfl rfl ?_
  refine x_iconst (q := 780) (v := 2) dL_law_779 rfl (by decide) ?_
  refine x_iadd (q := 781) dL_law_780 rfl ?_
  rw [show nI i + 2 = nI (i + 2) from nI_pj i 2]
  refine x_sldN (q := 782) dL_law_781 rfl (by omega) (by omega) ?_
  refine x_aload_n (q := 783) dL_law_782 rfl rfl rfl ?_
  refine x_iload_n (q := 784) dL_law_783 rfl rfl rfl ?_
  refine x_iconst (q := 785) (v := 3) dL_law_784 rfl (by decide) ?_
  refine x_iadd (q := 786) dL_law_785 rfl ?_
  rw [show nI i + 3 = nI (i + 3) from nI_pj i 3]
  refine x_sldN (q := 787) dL_law_786 rfl (by omega) (by omega) ?_
  refine x_aload_n (q := 788) dL_law_787 rfl rfl rfl ?_
  refine x_iload_n (q := 789) dL_law_788 rfl rfl rfl ?_
  refine x_iconst (q := 790) (v := 4) dL_law_789 rfl (by decide) ?_
  refine x_iadd (q := 791) dL_law_790 rfl ?_
  rw [show nI i + 4 = nI (i + 4) from nI_pj i 4]
  refine x_sldN (q := 792) dL_law_791 rfl (by omega) (by omega) ?_
  refine y_cvI (q := 795) dL_law_792 rfl l_L_88 c rfl rfl (cl_1 r.S) (by decide) rfl rfl rfl rfl ?_
  refine x_aload_n (q := 796) dL_law_795 rfl rfl rfl ?_
  refine x_aload_n (q := 797) dL_law_796 rfl rfl rfl ?_
  refine x_iload_n (q := 798) dL_law_797 rfl rfl rfl ?_
  refine x_iconst (q := 799) (v := 1) dL_law_798 rfl (by decide) ?_
  refine x_iadd (q := 800) dL_law_799 rfl ?_
  rw [show nI i + 1 = nI (i + 1) from nI_pj i 1]
  refine x_sldN (q := 801) dL_law_800 rfl (by omega) (by omega) ?_
  refine x_aload_n (q := 802) dL_law_801 rfl rfl rfl ?_
  refine x_iload_n (q := 803) dL_law_802 rfl rfl rfl ?_
  refine x_iconst (q := 804) (v := 2) dL_law_803 rfl (by decide) ?_
  refine x_iadd (q := 805) dL_law_804 rfl ?_
  rw [show nI i + 2 = nI (i + 2) from nI_pj i 2]
  refine x_sldN (q := 806) dL_law_805 rfl (by omega) (by omega) ?_
  refine x_aload_n (q := 807) dL_law_806 rfl rfl rfl ?_
  refine x_iload_n (q := 808) dL_law_807 rfl rfl rfl ?_
  refine x_iconst (q := 809) (v := 3) dL_law_808 rfl (by decide) ?_
  refine x_iadd (q := 810) dL_law_809 rfl ?_
  rw [show nI i + 3 = nI (i + 3) from nI_pj i 3]
  refine x_sldN (q := 811) dL_law_810 rfl (by omega) (by omega) ?_
  refine x_aload_n (q := 812) dL_law_811 rfl rfl rfl ?_
  refine x_iload_n (q := 813) dL_law_812 rfl rfl rfl ?_
  refine x_iconst (q := 814) (v := 4) dL_law_813 rfl (by decide) ?_
  refine x_iadd (q := 815) dL_law_814 rfl ?_
  rw [show nI i + 4 = nI (i + 4) from nI_pj i 4]
  refine x_sldN (q := 816) dL_law_815 rfl (by omega) (by omega) ?_
  refine y_cvI (q := 819) dL_law_816 rfl l_L_91 m rfl rfl (cl_132 S1) (by decide) rfl rfl rfl rfl ?_
  refine x_ic_eq (q := 822) (t := 1338) dL_law_819 rfl (by decide) (fun _ => ?_) (fun c_ => absurd rfl c_)
  exact K _ _ _ _ _ _ _ _ r2
theorem lw_c18 {nm : MethodName} {L i : Nat} {xs : Nat → Int32} {h : HF} {nb nl nr nt nd nj np : Nat} (hi : i + 6 ≤ L) (hL : L ≤ 3072) (r : Rel h nb nl nr nt nd nj np) (K : ∀ (h2 : HF) (nb nl nr nt nd nj np : Nat), Rel h2 nb nl nr nt nd nj np → Vg (mLaw nm) (some (L, xs)) QL 1338 [some (.ref 0), some (.ref 1), some (.ref 132), some (.int (nI i))] [] 170 h2 170 7114) : Vg (mLaw nm) (some (L, xs)) QL 824 [some (.ref 0), some (.ref 1), some (.ref 132), some (.int (nI i))] [] 170 h 170 7114 := by
  obtain ⟨v, h1, h2, c, S1, m, nb2, nl2, nr2, nt2, nd2, nj2, np2, r2⟩ := J_holds r (xs (i + 1)) (xs (i + 2))
  refine x_aload_n (q := 825) dL_law_824 rfl rfl rfl ?_
  refine x_aload_n (q := 826) dL_law_825 rfl rfl rfl ?_
  refine x_iload_n (q := 827) dL_law_826 rfl rfl rfl ?_
  refine x_iconst (q := 828) (v := 1) dL_law_827 rfl (by decide) ?_
  refine x_iadd (q := 829) dL_law_828 rfl ?_
  rw [show nI i + 1 = nI (i + 1) from nI_pj i 1]
  refine x_sldN (q := 830) dL_law_829 rfl (by omega) (by omega) ?_
  refine x_aload_n (q := 831) dL_law_830 rfl rfl rfl ?_
  refine x_iload_n (q := 832) dL_law_831 rfl rfl rfl ?_
  refine x_iconst (q := 833) (v := 2) dL_law_832 rfl (by decide) ?_
  refine x_iadd (q := 834) dL_law_833 rfl ?_
  rw [show nI i + 2 = nI (i + 2) from nI_pj i 2]
  refine x_sldN (q := 835) dL_law_834 rfl (by omega) (by omega) ?_
  refine y_cvI (q := 838) dL_law_835 rfl l_L_92 c rfl rfl (cl_1 r.S) (by decide) rfl rfl rfl rfl ?_
  refine x_aload_n (q := 839) dL_law_838 rfl rfl rfl ?_
  refine x_aload_n (q := 840) dL_law_839 rfl rfl rfl ?_
  refine x_iload_n (q := 841) dL_law_840 rfl rfl rfl ?_
  refine x_iconst (q := 842) (v := 1) dL_law_841 rfl (by decide) ?_
  refine x_iadd (q := 843) dL_law_842 rfl ?_
  rw [show nI i + 1 = nI (i + 1) from nI_pj i 1]
  refine x_sldN (q := 844) dL_law_843 rfl (by omega) (by omega) ?_
  refine x_aload_n (q := 845) dL_law_844 rfl rfl rfl ?_
  refine x_iload_n (q := 846) dL_law_845 rfl rfl rfl ?_
  refine x_iconst (q := 847) (v := 2) dL_law_846 rfl (by decide) ?_
  refine x_iadd (q := 848) dL_law_847 rfl ?_
  rw [show nI i + 2 = nI (i + 2) from nI_pj i 2]
  refine x_sldN (q := 849) dL_law_848 rfl (by omega) (by omega) ?_
  refine y_cvI (q := 852) dL_law_849 rfl l_L_95 m rfl rfl (cl_132 S1) (by decide) rfl rfl rfl rfl ?_
  refine x_ic_eq (q := 855) (t := 1338) dL_law_852 rfl (by decide) (fun _ => ?_) (fun c_ => absurd rfl c_)
  exact K _ _ _ _ _ _ _ _ r2
theorem lw_c19 {nm : MethodName} {L i : Nat} {xs : Nat → Int32} {h : HF} {nb nl nr nt nd nj np : Nat} (hi : i + 6 ≤ L) (hL : L ≤ 3072) (r : Rel h nb nl nr nt nd nj np) (K : ∀ (h2 : HF) (nb nl nr nt nd nj np : Nat), Rel h2 nb nl nr nt nd nj np → Vg (mLaw nm) (some (L, xs)) QL 1338 [some (.ref 0), some (.ref 1), some (.ref 132), some (.int (nI i))] [] 170 h2 170 7114) : Vg (mLaw nm) (some (L, xs)) QL 857 [some (.ref 0), some (.ref 1), some (.ref 132), some (.int (nI i))] [] 170 h 170 7114 := by
  obtain ⟨v, h1, h2, c, S1, m, nb2, nl2, nr2, nt2, nd2, nj2, np2, r2⟩ := J_limit r (xs (i + 1))
  refine x_aload_n (q := 858) dL_law_857 rfl rfl rfl ?_
  refine x_aload_n (q := 859) dL_law_858 rfl rfl rfl ?_
  refine x_iload_n (q := 860) dL_law_859 rfl rfl rfl ?_
  refine x_iconst (q := 861) (v := 1) dL_law_860 rfl (by decide) ?_
  refine x_iadd (q := 862) dL_law_861 rfl ?_
  rw [show nI i + 1 = nI (i + 1) from nI_pj i 1]
  refine x_sldN (q := 863) dL_law_862 rfl (by omega) (by omega) ?_
  refine y_cvI (q := 866) dL_law_863 rfl l_L_96 c rfl rfl (cl_1 r.S) (by decide) rfl rfl rfl rfl ?_
  refine x_aload_n (q := 867) dL_law_866 rfl rfl rfl ?_
  refine x_aload_n (q := 868) dL_law_867 rfl rfl rfl ?_
  refine x_iload_n (q := 869) dL_law_868 rfl rfl rfl ?_
  refine x_iconst (q := 870) (v := 1) dL_law_869 rfl (by decide) ?_
  refine x_iadd (q := 871) dL_law_870 rfl ?_
  rw [show nI i + 1 = nI (i + 1) from nI_pj i 1]
  refine x_sldN (q := 872) dL_law_871 rfl (by omega) (by omega) ?_
  refine y_cvI (q := 875) dL_law_872 rfl l_L_99 m rfl rfl (cl_132 S1) (by decide) rfl rfl rfl rfl ?_
  refine x_ic_eq (q := 878) (t := 1338) dL_law_875 rfl (by decide) (fun _ => ?_) (fun c_ => absurd rfl c_)
  exact K _ _ _ _ _ _ _ _ r2
theorem lw_c20 {nm : MethodName} {L i : Nat} {xs : Nat → Int32} {h : HF} {nb nl nr nt nd nj np : Nat} (hi : i + 6 ≤ L) (hL : L ≤ 3072) (r : Rel h nb nl nr nt nd nj np) (K : ∀ (h2 : HF) (nb nl nr nt nd nj np : Nat), Rel h2 nb nl nr nt nd nj np → Vg (mLaw nm) (some (L, xs)) QL 1338 [some (.ref 0), some (.ref 1), some (.ref 132), some (.int (nI i))] [] 170 h2 170 7114) : Vg (mLaw nm) (some (L, xs)) QL 880 [some (.ref 0), some (.ref 1), some (.ref 132), some (.int (nI i))] [] 170 h 170 7114 := by
  obtain ⟨v, h1, h2, c, S1, m, nb2, nl2, nr2, nt2, nd2, nj2, np2, r2⟩ := J_pour r (xs (i + 1)) (xs (i + 2))
  refine x_aload_n (q := 881) dL_law_880 rfl rfl rfl ?_
  refine x_aload_n (q := 882) dL_law_881 rfl rfl rfl ?_
  refine x_iload_n (q := 883) dL_law_882 rfl rfl rfl ?_
  refine x_iconst (q := 884) (v := 1) dL_law_883 rfl (by decide) ?_
  refine x_iadd (q := 885) dL_law_884 rfl ?_
  rw [show nI i + 1 = nI (i + 1) from nI_pj i 1]
  refine x_sldN (q := 886) dL_law_885 rfl (by omega) (by omega) ?_
  refine x_aload_n (q := 887) dL_law_886 rfl rfl rfl ?_
  refine x_iload_n (q := 888) dL_law_887 rfl rfl rfl ?_
  refine x_iconst (q := 889) (v := 2) dL_law_888 rfl (by decide) ?_
  refine x_iadd (q := 890) dL_law_889 rfl ?_
  rw [show nI i + 2 = nI (i + 2) from nI_pj i 2]
  refine x_sldN (q := 891) dL_law_890 rfl (by omega) (by omega) ?_
  refine y_cvI (q := 894) dL_law_891 rfl l_L_100 c rfl rfl (cl_1 r.S) (by decide) rfl rfl rfl rfl ?_
  refine x_aload_n (q := 895) dL_law_894 rfl rfl rfl ?_
  refine x_aload_n (q := 896) dL_law_895 rfl rfl rfl ?_
  refine x_iload_n (q := 897) dL_law_896 rfl rfl rfl ?_
  refine x_iconst (q := 898) (v := 1) dL_law_897 rfl (by decide) ?_
  refine x_iadd (q := 899) dL_law_898 rfl ?_
  rw [show nI i + 1 = nI (i + 1) from nI_pj i 1]
  refine x_sldN (q := 900) dL_law_899 rfl (by omega) (by omega) ?_
  refine x_aload_n (q := 901) dL_law_900 rfl rfl rfl ?_
  refine x_iload_n (q := 902) dL_law_901 rfl rfl rfl ?_
  refine x_iconst (q := 903) (v := 2) dL_law_902 rfl (by decide) ?_
  refine x_iadd (q := 904) dL_law_903 rfl ?_
  rw [show nI i + 2 = nI (i + 2) from nI_pj i 2]
  refine x_sldN (q := 905) dL_law_904 rfl (by omega) (by omega) ?_
  refine y_cvI (q := 908) dL_law_905 rfl l_L_103 m rfl rfl (cl_132 S1) (by decide) rfl rfl rfl rfl ?_
  refine x_ic_eq (q := 911) (t := 1338) dL_law_908 rfl (by decide) (fun _ => ?_) (fun c_ => absurd rfl c_)
  exact K _ _ _ _ _ _ _ _ r2
theorem lw_c21 {nm : MethodName} {L i : Nat} {xs : Nat → Int32} {h : HF} {nb nl nr nt nd nj np : Nat} (hi : i + 6 ≤ L) (hL : L ≤ 3072) (r : Rel h nb nl nr nt nd nj np) (K : ∀ (h2 : HF) (nb nl nr nt nd nj np : Nat), Rel h2 nb nl nr nt nd nj np → Vg (mLaw nm) (some (L, xs)) QL 1338 [some (.ref 0), some (.ref 1), some (.ref 132), some (.int (nI i))] [] 170 h2 170 7114) : Vg (mLaw nm) (some (L, xs)) QL 913 [some (.ref 0), some (.ref 1), some (.ref 132), some (.int (nI i))] [] 170 h 170 7114 := by
  obtain ⟨v, h1, h2, c, S1, m, nb2, nl2, nr2, nt2, nd2, nj2, np2, r2⟩ := J_clean r (xs (i + 1))
  refine x_aload_n (q := 914) dL_law_913 rfl rfl rfl ?_
  refine x_aload_n (q := 915) dL_law_914 rfl rfl rfl ?_
  refine x_iload_n (q := 916) dL_law_915 rfl rfl rfl ?_
  refine x_iconst (q := 917) (v := 1) dL_law_916 rfl (by decide) ?_
  refine x_iadd (q := 918) dL_law_917 rfl ?_
  rw [show nI i + 1 = nI (i + 1) from nI_pj i 1]
  refine x_sldN (q := 919) dL_law_918 rfl (by omega) (by omega) ?_
  refine y_cvI (q := 922) dL_law_919 rfl l_L_104 c rfl rfl (cl_1 r.S) (by decide) rfl rfl rfl rfl ?_
  refine x_aload_n (q := 923) dL_law_922 rfl rfl rfl ?_
  refine x_aload_n (q := 924) dL_law_923 rfl rfl rfl ?_
  refine x_iload_n (q := 925) dL_law_924 rfl rfl rfl ?_
  refine x_iconst (q := 926) (v := 1) dL_law_925 rfl (by decide) ?_
  refine x_iadd (q := 927) dL_law_926 rfl ?_
  rw [show nI i + 1 = nI (i + 1) from nI_pj i 1]
  refine x_sldN (q := 928) dL_law_927 rfl (by omega) (by omega) ?_
  refine y_cvI (q := 931) dL_law_928 rfl l_L_107 m rfl rfl (cl_132 S1) (by decide) rfl rfl rfl rfl ?_
  refine x_ic_eq (q := 934) (t := 1338) dL_law_931 rfl (by decide) (fun _ => ?_) (fun c_ => absurd rfl c_)
  exact K _ _ _ _ _ _ _ _ r2
theorem lw_c22 {nm : MethodName} {L i : Nat} {xs : Nat → Int32} {h : HF} {nb nl nr nt nd nj np : Nat} (hi : i + 6 ≤ L) (hL : L ≤ 3072) (r : Rel h nb nl nr nt nd nj np) (K : ∀ (h2 : HF) (nb nl nr nt nd nj np : Nat), Rel h2 nb nl nr nt nd nj np → Vg (mLaw nm) (some (L, xs)) QL 1338 [some (.ref 0), some (.ref 1), some (.ref 132), some (.int (nI i))] [] 170 h2 170 7114) : Vg (mLaw nm) (some (L, xs)) QL 936 [some (.ref 0), some (.ref 1), some (.ref 132), some (.int (nI i))] [] 170 h 170 7114 := by
  obtain ⟨v, h1, h2, c, S1, m, nb2, nl2, nr2, nt2, nd2, nj2, np2, r2⟩ := J_fill r (xs (i + 1)) (xs (i + 2))
  refine x_aload_n (q := 937) dL_law_936 rfl rfl rfl ?_
  refine x_aload_n (q := 938) dL_law_937 rfl rfl rfl ?_
  refine x_iload_n (q := 939) dL_law_938 rfl rfl rfl ?_
  refine x_iconst (q := 940) (v := 1) dL_law_939 rfl (by decide) ?_
  refine x_iadd (q := 941) dL_law_940 rfl ?_
  rw [show nI i + 1 = nI (i + 1) from nI_pj i 1]
  refine x_sldN (q := 942) dL_law_941 rfl (by omega) (by omega) ?_
  refine x_aload_n (q := 943) dL_law_942 rfl rfl rfl ?_
  refine x_iload_n (q := 944) dL_law_943 rfl rfl rfl ?_
  refine x_iconst (q := 945) (v := 2) dL_law_944 rfl (by decide) ?_
  refine x_iadd (q := 946) dL_law_945 rfl ?_
  rw [show nI i + 2 = nI (i + 2) from nI_pj i 2]
  refine x_sldN (q := 947) dL_law_946 rfl (by omega) (by omega) ?_
  refine y_cvI (q := 950) dL_law_947 rfl l_L_108 c rfl rfl (cl_1 r.S) (by decide) rfl rfl rfl rfl ?_
  refine x_aload_n (q := 951) dL_law_950 rfl rfl rfl ?_
  refine x_aload_n (q := 952) dL_law_951 rfl rfl rfl ?_
  refine x_iload_n (q := 953) dL_law_952 rfl rfl rfl ?_
  refine x_iconst (q := 954) (v := 1) dL_law_953 rfl (by decide) ?_
  refine x_iadd (q := 955) dL_law_954 rfl ?_
  rw [show nI i + 1 = nI (i + 1) from nI_pj i 1]
  refine x_sldN (q := 956) dL_law_955 rfl (by omega) (by omega) ?_
  refine x_aload_n (q := 957) dL_law_956 rfl rfl rfl ?_
  refine x_iload_n (q := 958) dL_law_957 rfl rfl rfl ?_
  refine x_iconst (q := 959) (v := 2) dL_law_958 rfl (by decide) ?_
  refine x_iadd (q := 960) dL_law_959 rfl ?_
  rw [show nI i + 2 = nI (i + 2) from nI_pj i 2]
  refine x_sldN (q := 961) dL_law_960 rfl (by omega) (by omega) ?_
  refine y_cvI (q := 964) dL_law_961 rfl l_L_111 m rfl rfl (cl_132 S1) (by decide) rfl rfl rfl rfl ?_
  refine x_ic_eq (q := 967) (t := 1338) dL_law_964 rfl (by decide) (fun _ => ?_) (fun c_ => absurd rfl c_)
  exact K _ _ _ _ _ _ _ _ r2
theorem lw_c23 {nm : MethodName} {L i : Nat} {xs : Nat → Int32} {h : HF} {nb nl nr nt nd nj np : Nat} (hi : i + 6 ≤ L) (hL : L ≤ 3072) (r : Rel h nb nl nr nt nd nj np) (K : ∀ (h2 : HF) (nb nl nr nt nd nj np : Nat), Rel h2 nb nl nr nt nd nj np → Vg (mLaw nm) (some (L, xs)) QL 1338 [some (.ref 0), some (.ref 1), some (.ref 132), some (.int (nI i))] [] 170 h2 170 7114) : Vg (mLaw nm) (some (L, xs)) QL 969 [some (.ref 0), some (.ref 1), some (.ref 132), some (.int (nI i))] [] 170 h 170 7114 := by
  obtain ⟨v, h1, h2, c, S1, m, nb2, nl2, nr2, nt2, nd2, nj2, np2, r2⟩ := J_tank r (xs (i + 1)) (xs (i + 2))
  refine x_aload_n (q := 970) dL_law_969 rfl rfl rfl ?_
  refine x_aload_n (q := 971) dL_law_970 rfl rfl rfl ?_
  refine x_iload_n (q := 972) dL_law_971 rfl rfl rfl ?_
  refine x_iconst (q := 973) (v := 1) dL_law_972 rfl (by decide) ?_
  refine x_iadd (q := 974) dL_law_973 rfl ?_
  rw [show nI i + 1 = nI (i + 1) from nI_pj i 1]
  refine x_sldN (q := 975) dL_law_974 rfl (by omega) (by omega) ?_
  refine x_aload_n (q := 976) dL_law_975 rfl rfl rfl ?_
  refine x_iload_n (q := 977) dL_law_976 rfl rfl rfl ?_
  refine x_iconst (q := 978) (v := 2) dL_law_977 rfl (by decide) ?_
  refine x_iadd (q := 979) dL_law_978 rfl ?_
  rw [show nI i + 2 = nI (i + 2) from nI_pj i 2]
  refine x_sldN (q := 980) dL_law_979 rfl (by omega) (by omega) ?_
  refine y_cvI (q := 983) dL_law_980 rfl l_L_112 c rfl rfl (cl_1 r.S) (by decide) rfl rfl rfl rfl ?_
  refine x_aload_n (q := 984) dL_law_983 rfl rfl rfl ?_
  refine x_aload_n (q := 985) dL_law_984 rfl rfl rfl ?_
  refine x_iload_n (q := 986) dL_law_985 rfl rfl rfl ?_
  refine x_iconst (q := 987) (v := 1) dL_law_986 rfl (by decide) ?_
  refine x_iadd (q := 988) dL_law_987 rfl ?_
  rw [show nI i + 1 = nI (i + 1) from nI_pj i 1]
  refine x_sldN (q := 989) dL_law_988 rfl (by omega) (by omega) ?_
  refine x_aload_n (q := 990) dL_law_989 rfl rfl rfl ?_
  refine x_iload_n (q := 991) dL_law_990 rfl rfl rfl ?_
  refine x_iconst (q := 992) (v := 2) dL_law_991 rfl (by decide) ?_
  refine x_iadd (q := 993) dL_law_992 rfl ?_
  rw [show nI i + 2 = nI (i + 2) from nI_pj i 2]
  refine x_sldN (q := 994) dL_law_993 rfl (by omega) (by omega) ?_
  refine y_cvI (q := 997) dL_law_994 rfl l_L_115 m rfl rfl (cl_132 S1) (by decide) rfl rfl rfl rfl ?_
  refine x_ic_eq (q := 1000) (t := 1338) dL_law_997 rfl (by decide) (fun _ => ?_) (fun c_ => absurd rfl c_)
  exact K _ _ _ _ _ _ _ _ r2
theorem lw_c24 {nm : MethodName} {L i : Nat} {xs : Nat → Int32} {h : HF} {nb nl nr nt nd nj np : Nat} (hi : i + 6 ≤ L) (hL : L ≤ 3072) (r : Rel h nb nl nr nt nd nj np) (K : ∀ (h2 : HF) (nb nl nr nt nd nj np : Nat), Rel h2 nb nl nr nt nd nj np → Vg (mLaw nm) (some (L, xs)) QL 1338 [some (.ref 0), some (.ref 1), some (.ref 132), some (.int (nI i))] [] 170 h2 170 7114) : Vg (mLaw nm) (some (L, xs)) QL 1002 [some (.ref 0), some (.ref 1), some (.ref 132), some (.int (nI i))] [] 170 h 170 7114 := by
  obtain ⟨v, h1, h2, c, S1, m, nb2, nl2, nr2, nt2, nd2, nj2, np2, r2⟩ := J_tankShade r (xs (i + 1)) (xs (i + 2))
  refine x_aload_n (q := 1003) dL_law_1002 rfl rfl rfl ?_
  refine x_aload_n (q := 1004) dL_law_1003 rfl rfl rfl ?_
  refine x_iload_n (q := 1005) dL_law_1004 rfl rfl rfl ?_
  refine x_iconst (q := 1006) (v := 1) dL_law_1005 rfl (by decide) ?_
  refine x_iadd (q := 1007) dL_law_1006 rfl ?_
  rw [show nI i + 1 = nI (i + 1) from nI_pj i 1]
  refine x_sldN (q := 1008) dL_law_1007 rfl (by omega) (by omega) ?_
  refine x_aload_n (q := 1009) dL_law_1008 rfl rfl rfl ?_
  refine x_iload_n (q := 1010) dL_law_1009 rfl rfl rfl ?_
  refine x_iconst (q := 1011) (v := 2) dL_law_1010 rfl (by decide) ?_
  refine x_iadd (q := 1012) dL_law_1011 rfl ?_
  rw [show nI i + 2 = nI (i + 2) from nI_pj i 2]
  refine x_sldN (q := 1013) dL_law_1012 rfl (by omega) (by omega) ?_
  refine y_cvI (q := 1016) dL_law_1013 rfl l_L_116 c rfl rfl (cl_1 r.S) (by decide) rfl rfl rfl rfl ?_
  refine x_aload_n (q := 1017) dL_law_1016 rfl rfl rfl ?_
  refine x_aload_n (q := 1018) dL_law_1017 rfl rfl rfl ?_
  refine x_iload_n (q := 1019) dL_law_1018 rfl rfl rfl ?_
  refine x_iconst (q := 1020) (v := 1) dL_law_1019 rfl (by decide) ?_
  refine x_iadd (q := 1021) dL_law_1020 rfl ?_
  rw [show nI i + 1 = nI (i + 1) from nI_pj i 1]
  refine x_sldN (q := 1022) dL_law_1021 rfl (by omega) (by omega) ?_
  refine x_aload_n (q := 1023) dL_law_1022 rfl rfl rfl ?_
  refine x_iload_n (q := 1024) dL_law_1023 rfl rfl rfl ?_
  refine x_iconst (q := 1025) (v := 2) dL_law_1024 rfl (by decide) ?_
  refine x_iadd (q := 1026) dL_law_1025 rfl ?_
  rw [show nI i + 2 = nI (i + 2) from nI_pj i 2]
  refine x_sldN (q := 1027) dL_law_1026 rfl (by omega) (by omega) ?_
  refine y_cvI (q := 1030) dL_law_1027 rfl l_L_119 m rfl rfl (cl_132 S1) (by decide) rfl rfl rfl rfl ?_
  refine x_ic_eq (q := 1033) (t := 1338) dL_law_1030 rfl (by decide) (fun _ => ?_) (fun c_ => absurd rfl c_)
  exact K _ _ _ _ _ _ _ _ r2
theorem lw_c25 {nm : MethodName} {L i : Nat} {xs : Nat → Int32} {h : HF} {nb nl nr nt nd nj np : Nat} (hi : i + 6 ≤ L) (hL : L ≤ 3072) (r : Rel h nb nl nr nt nd nj np) (K : ∀ (h2 : HF) (nb nl nr nt nd nj np : Nat), Rel h2 nb nl nr nt nd nj np → Vg (mLaw nm) (some (L, xs)) QL 1338 [some (.ref 0), some (.ref 1), some (.ref 132), some (.int (nI i))] [] 170 h2 170 7114) : Vg (mLaw nm) (some (L, xs)) QL 1035 [some (.ref 0), some (.ref 1), some (.ref 132), some (.int (nI i))] [] 170 h 170 7114 := by
  obtain ⟨v, h1, h2, c, S1, m, nb2, nl2, nr2, nt2, nd2, nj2, np2, r2⟩ := J_drum r (xs (i + 1)) (xs (i + 2))
  refine x_aload_n (q := 1036) dL_law_1035 rfl rfl rfl ?_
  refine x_aload_n (q := 1037) dL_law_1036 rfl rfl rfl ?_
  refine x_iload_n (q := 1038) dL_law_1037 rfl rfl rfl ?_
  refine x_iconst (q := 1039) (v := 1) dL_law_1038 rfl (by decide) ?_
  refine x_iadd (q := 1040) dL_law_1039 rfl ?_
  rw [show nI i + 1 = nI (i + 1) from nI_pj i 1]
  refine x_sldN (q := 1041) dL_law_1040 rfl (by omega) (by omega) ?_
  refine x_aload_n (q := 1042) dL_law_1041 rfl rfl rfl ?_
  refine x_iload_n (q := 1043) dL_law_1042 rfl rfl rfl ?_
  refine x_iconst (q := 1044) (v := 2) dL_law_1043 rfl (by decide) ?_
  refine x_iadd (q := 1045) dL_law_1044 rfl ?_
  rw [show nI i + 2 = nI (i + 2) from nI_pj i 2]
  refine x_sldN (q := 1046) dL_law_1045 rfl (by omega) (by omega) ?_
  refine y_cvI (q := 1049) dL_law_1046 rfl l_L_120 c rfl rfl (cl_1 r.S) (by decide) rfl rfl rfl rfl ?_
  refine x_aload_n (q := 1050) dL_law_1049 rfl rfl rfl ?_
  refine x_aload_n (q := 1051) dL_law_1050 rfl rfl rfl ?_
  refine x_iload_n (q := 1052) dL_law_1051 rfl rfl rfl ?_
  refine x_iconst (q := 1053) (v := 1) dL_law_1052 rfl (by decide) ?_
  refine x_iadd (q := 1054) dL_law_1053 rfl ?_
  rw [show nI i + 1 = nI (i + 1) from nI_pj i 1]
  refine x_sldN (q := 1055) dL_law_1054 rfl (by omega) (by omega) ?_
  refine x_aload_n (q := 1056) dL_law_1055 rfl rfl rfl ?_
  refine x_iload_n (q := 1057) dL_law_1056 rfl rfl rfl ?_
  refine x_iconst (q := 1058) (v := 2) dL_law_1057 rfl (by decide) ?_
  refine x_iadd (q := 1059) dL_law_1058 rfl ?_
  rw [show nI i + 2 = nI (i + 2) from nI_pj i 2]
  refine x_sldN (q := 1060) dL_law_1059 rfl (by omega) (by omega) ?_
  refine y_cvI (q := 1063) dL_law_1060 rfl l_L_123 m rfl rfl (cl_132 S1) (by decide) rfl rfl rfl rfl ?_
  refine x_ic_eq (q := 1066) (t := 1338) dL_law_1063 rfl (by decide) (fun _ => ?_) (fun c_ => absurd rfl c_)
  exact K _ _ _ _ _ _ _ _ r2
theorem lw_c26 {nm : MethodName} {L i : Nat} {xs : Nat → Int32} {h : HF} {nb nl nr nt nd nj np : Nat} (hi : i + 6 ≤ L) (hL : L ≤ 3072) (r : Rel h nb nl nr nt nd nj np) (K : ∀ (h2 : HF) (nb nl nr nt nd nj np : Nat), Rel h2 nb nl nr nt nd nj np → Vg (mLaw nm) (some (L, xs)) QL 1338 [some (.ref 0), some (.ref 1), some (.ref 132), some (.int (nI i))] [] 170 h2 170 7114) : Vg (mLaw nm) (some (L, xs)) QL 1068 [some (.ref 0), some (.ref 1), some (.ref 132), some (.int (nI i))] [] 170 h 170 7114 := by
  by_cases hz : xs (i + 2) = 0
  · obtain ⟨v, h1, h2, c, S1, m, nb2, nl2, nr2, nt2, nd2, nj2, np2, r2⟩ := J_inDrum r (xs (i + 1)) 0 (xs (i + 3))
    refine x_aload_n (q := 1069) dL_law_1068 rfl rfl rfl ?_
    refine x_aload_n (q := 1070) dL_law_1069 rfl rfl rfl ?_
    refine x_iload_n (q := 1071) dL_law_1070 rfl rfl rfl ?_
    refine x_iconst (q := 1072) (v := 1) dL_law_1071 rfl (by decide) ?_
    refine x_iadd (q := 1073) dL_law_1072 rfl ?_
    rw [show nI i + 1 = nI (i + 1) from nI_pj i 1]
    refine x_sldN (q := 1074) dL_law_1073 rfl (by omega) (by omega) ?_
    refine x_aload_n (q := 1075) dL_law_1074 rfl rfl rfl ?_
    refine x_iload_n (q := 1076) dL_law_1075 rfl rfl rfl ?_
    refine x_iconst (q := 1077) (v := 2) dL_law_1076 rfl (by decide) ?_
    refine x_iadd (q := 1078) dL_law_1077 rfl ?_
    rw [show nI i + 2 = nI (i + 2) from nI_pj i 2]
    refine x_sldN (q := 1079) dL_law_1078 rfl (by omega) (by omega) ?_
    refine x_if_eq (q := 1082) (t := 1086) dL_law_1079 rfl (by decide) (fun _ => ?_) (fun c_ => absurd hz c_)
    refine x_iconst (q := 1087) (v := 0) dL_law_1086 rfl (by decide) ?_
    refine x_aload_n (q := 1088) dL_law_1087 rfl rfl rfl ?_
    refine x_iload_n (q := 1089) dL_law_1088 rfl rfl rfl ?_
    refine x_iconst (q := 1090) (v := 3) dL_law_1089 rfl (by decide) ?_
    refine x_iadd (q := 1091) dL_law_1090 rfl ?_
    rw [show nI i + 3 = nI (i + 3) from nI_pj i 3]
    refine x_sldN (q := 1092) dL_law_1091 rfl (by omega) (by omega) ?_
    refine y_cvI (q := 1095) dL_law_1092 rfl l_L_124 c rfl rfl (cl_1 r.S) (by decide) rfl rfl rfl rfl ?_
    refine x_aload_n (q := 1096) dL_law_1095 rfl rfl rfl ?_
    refine x_aload_n (q := 1097) dL_law_1096 rfl rfl rfl ?_
    refine x_iload_n (q := 1098) dL_law_1097 rfl rfl rfl ?_
    refine x_iconst (q := 1099) (v := 1) dL_law_1098 rfl (by decide) ?_
    refine x_iadd (q := 1100) dL_law_1099 rfl ?_
    rw [show nI i + 1 = nI (i + 1) from nI_pj i 1]
    refine x_sldN (q := 1101) dL_law_1100 rfl (by omega) (by omega) ?_
    refine x_aload_n (q := 1102) dL_law_1101 rfl rfl rfl ?_
    refine x_iload_n (q := 1103) dL_law_1102 rfl rfl rfl ?_
    refine x_iconst (q := 1104) (v := 2) dL_law_1103 rfl (by decide) ?_
    refine x_iadd (q := 1105) dL_law_1104 rfl ?_
    rw [show nI i + 2 = nI (i + 2) from nI_pj i 2]
    refine x_sldN (q := 1106) dL_law_1105 rfl (by omega) (by omega) ?_
    refine x_if_eq (q := 1109) (t := 1113) dL_law_1106 rfl (by decide) (fun _ => ?_) (fun c_ => absurd hz c_)
    refine x_iconst (q := 1114) (v := 0) dL_law_1113 rfl (by decide) ?_
    refine x_aload_n (q := 1115) dL_law_1114 rfl rfl rfl ?_
    refine x_iload_n (q := 1116) dL_law_1115 rfl rfl rfl ?_
    refine x_iconst (q := 1117) (v := 3) dL_law_1116 rfl (by decide) ?_
    refine x_iadd (q := 1118) dL_law_1117 rfl ?_
    rw [show nI i + 3 = nI (i + 3) from nI_pj i 3]
    refine x_sldN (q := 1119) dL_law_1118 rfl (by omega) (by omega) ?_
    refine y_cvI (q := 1122) dL_law_1119 rfl l_L_128 m rfl rfl (cl_132 S1) (by decide) rfl rfl rfl rfl ?_
    refine x_ic_eq (q := 1125) (t := 1338) dL_law_1122 rfl (by decide) (fun _ => ?_) (fun c_ => absurd rfl c_)
    exact K _ _ _ _ _ _ _ _ r2
  · obtain ⟨v, h1, h2, c, S1, m, nb2, nl2, nr2, nt2, nd2, nj2, np2, r2⟩ := J_inDrum r (xs (i + 1)) 1 (xs (i + 3))
    refine x_aload_n (q := 1069) dL_law_1068 rfl rfl rfl ?_
    refine x_aload_n (q := 1070) dL_law_1069 rfl rfl rfl ?_
    refine x_iload_n (q := 1071) dL_law_1070 rfl rfl rfl ?_
    refine x_iconst (q := 1072) (v := 1) dL_law_1071 rfl (by decide) ?_
    refine x_iadd (q := 1073) dL_law_1072 rfl ?_
    rw [show nI i + 1 = nI (i + 1) from nI_pj i 1]
    refine x_sldN (q := 1074) dL_law_1073 rfl (by omega) (by omega) ?_
    refine x_aload_n (q := 1075) dL_law_1074 rfl rfl rfl ?_
    refine x_iload_n (q := 1076) dL_law_1075 rfl rfl rfl ?_
    refine x_iconst (q := 1077) (v := 2) dL_law_1076 rfl (by decide) ?_
    refine x_iadd (q := 1078) dL_law_1077 rfl ?_
    rw [show nI i + 2 = nI (i + 2) from nI_pj i 2]
    refine x_sldN (q := 1079) dL_law_1078 rfl (by omega) (by omega) ?_
    refine x_if_eq (q := 1082) (t := 1086) dL_law_1079 rfl (by decide) (fun c_ => absurd c_ hz) (fun _ => ?_)
    refine x_iconst (q := 1083) (v := 1) dL_law_1082 rfl (by decide) ?_
    refine x_goto (q := 1087) dL_law_1083 (by decide) ?_
    refine x_aload_n (q := 1088) dL_law_1087 rfl rfl rfl ?_
    refine x_iload_n (q := 1089) dL_law_1088 rfl rfl rfl ?_
    refine x_iconst (q := 1090) (v := 3) dL_law_1089 rfl (by decide) ?_
    refine x_iadd (q := 1091) dL_law_1090 rfl ?_
    rw [show nI i + 3 = nI (i + 3) from nI_pj i 3]
    refine x_sldN (q := 1092) dL_law_1091 rfl (by omega) (by omega) ?_
    refine y_cvI (q := 1095) dL_law_1092 rfl l_L_124 c rfl rfl (cl_1 r.S) (by decide) rfl rfl rfl rfl ?_
    refine x_aload_n (q := 1096) dL_law_1095 rfl rfl rfl ?_
    refine x_aload_n (q := 1097) dL_law_1096 rfl rfl rfl ?_
    refine x_iload_n (q := 1098) dL_law_1097 rfl rfl rfl ?_
    refine x_iconst (q := 1099) (v := 1) dL_law_1098 rfl (by decide) ?_
    refine x_iadd (q := 1100) dL_law_1099 rfl ?_
    rw [show nI i + 1 = nI (i + 1) from nI_pj i 1]
    refine x_sldN (q := 1101) dL_law_1100 rfl (by omega) (by omega) ?_
    refine x_aload_n (q := 1102) dL_law_1101 rfl rfl rfl ?_
    refine x_iload_n (q := 1103) dL_law_1102 rfl rfl rfl ?_
    refine x_iconst (q := 1104) (v := 2) dL_law_1103 rfl (by decide) ?_
    refine x_iadd (q := 1105) dL_law_1104 rfl ?_
    rw [show nI i + 2 = nI (i + 2) from nI_pj i 2]
    refine x_sldN (q := 1106) dL_law_1105 rfl (by omega) (by omega) ?_
    refine x_if_eq (q := 1109) (t := 1113) dL_law_1106 rfl (by decide) (fun c_ => absurd c_ hz) (fun _ => ?_)
    refine x_iconst (q := 1110) (v := 1) dL_law_1109 rfl (by decide) ?_
    refine x_goto (q := 1114) dL_law_1110 (by decide) ?_
    refine x_aload_n (q := 1115) dL_law_1114 rfl rfl rfl ?_
    refine x_iload_n (q := 1116) dL_law_1115 rfl rfl rfl ?_
    refine x_iconst (q := 1117) (v := 3) dL_law_1116 rfl (by decide) ?_
    refine x_iadd (q := 1118) dL_law_1117 rfl ?_
    rw [show nI i + 3 = nI (i + 3) from nI_pj i 3]
    refine x_sldN (q := 1119) dL_law_1118 rfl (by omega) (by omega) ?_
    refine y_cvI (q := 1122) dL_law_1119 rfl l_L_128 m rfl rfl (cl_132 S1) (by decide) rfl rfl rfl rfl ?_
    refine x_ic_eq (q := 1125) (t := 1338) dL_law_1122 rfl (by decide) (fun _ => ?_) (fun c_ => absurd rfl c_)
    exact K _ _ _ _ _ _ _ _ r2
theorem lw_c27 {nm : MethodName} {L i : Nat} {xs : Nat → Int32} {h : HF} {nb nl nr nt nd nj np : Nat} (hi : i + 6 ≤ L) (hL : L ≤ 3072) (r : Rel h nb nl nr nt nd nj np) (K : ∀ (h2 : HF) (nb nl nr nt nd nj np : Nat), Rel h2 nb nl nr nt nd nj np → Vg (mLaw nm) (some (L, xs)) QL 1338 [some (.ref 0), some (.ref 1), some (.ref 132), some (.int (nI i))] [] 170 h2 170 7114) : Vg (mLaw nm) (some (L, xs)) QL 1127 [some (.ref 0), some (.ref 1), some (.ref 132), some (.int (nI i))] [] 170 h 170 7114 := by
  obtain ⟨v, h1, h2, c, S1, m, nb2, nl2, nr2, nt2, nd2, nj2, np2, r2⟩ := J_recall r (xs (i + 1)) (xs (i + 2))
  refine x_aload_n (q := 1128) dL_law_1127 rfl rfl rfl ?_
  refine x_aload_n (q := 1129) dL_law_1128 rfl rfl rfl ?_
  refine x_iload_n (q := 1130) dL_law_1129 rfl rfl rfl ?_
  refine x_iconst (q := 1131) (v := 1) dL_law_1130 rfl (by decide) ?_
  refine x_iadd (q := 1132) dL_law_1131 rfl ?_
  rw [show nI i + 1 = nI (i + 1) from nI_pj i 1]
  refine x_sldN (q := 1133) dL_law_1132 rfl (by omega) (by omega) ?_
  refine x_aload_n (q := 1134) dL_law_1133 rfl rfl rfl ?_
  refine x_iload_n (q := 1135) dL_law_1134 rfl rfl rfl ?_
  refine x_iconst (q := 1136) (v := 2) dL_law_1135 rfl (by decide) ?_
  refine x_iadd (q := 1137) dL_law_1136 rfl ?_
  rw [show nI i + 2 = nI (i + 2) from nI_pj i 2]
  refine x_sldN (q := 1138) dL_law_1137 rfl (by omega) (by omega) ?_
  refine y_cvI (q := 1141) dL_law_1138 rfl l_L_129 c rfl rfl (cl_1 r.S) (by decide) rfl rfl rfl rfl ?_
  refine x_aload_n (q := 1142) dL_law_1141 rfl rfl rfl ?_
  refine x_aload_n (q := 1143) dL_law_1142 rfl rfl rfl ?_
  refine x_iload_n (q := 1144) dL_law_1143 rfl rfl rfl ?_
  refine x_iconst (q := 1145) (v := 1) dL_law_1144 rfl (by decide) ?_
  refine x_iadd (q := 1146) dL_law_1145 rfl ?_
  rw [show nI i + 1 = nI (i + 1) from nI_pj i 1]
  refine x_sldN (q := 1147) dL_law_1146 rfl (by omega) (by omega) ?_
  refine x_aload_n (q := 1148) dL_law_1147 rfl rfl rfl ?_
  refine x_iload_n (q := 1149) dL_law_1148 rfl rfl rfl ?_
  refine x_iconst (q := 1150) (v := 2) dL_law_1149 rfl (by decide) ?_
  refine x_iadd (q := 1151) dL_law_1150 rfl ?_
  rw [show nI i + 2 = nI (i + 2) from nI_pj i 2]
  refine x_sldN (q := 1152) dL_law_1151 rfl (by omega) (by omega) ?_
  refine y_cvI (q := 1155) dL_law_1152 rfl l_L_132 m rfl rfl (cl_132 S1) (by decide) rfl rfl rfl rfl ?_
  refine x_ic_eq (q := 1158) (t := 1338) dL_law_1155 rfl (by decide) (fun _ => ?_) (fun c_ => absurd rfl c_)
  exact K _ _ _ _ _ _ _ _ r2
theorem lw_c28 {nm : MethodName} {L i : Nat} {xs : Nat → Int32} {h : HF} {nb nl nr nt nd nj np : Nat} (hi : i + 6 ≤ L) (hL : L ≤ 3072) (r : Rel h nb nl nr nt nd nj np) (K : ∀ (h2 : HF) (nb nl nr nt nd nj np : Nat), Rel h2 nb nl nr nt nd nj np → Vg (mLaw nm) (some (L, xs)) QL 1338 [some (.ref 0), some (.ref 1), some (.ref 132), some (.int (nI i))] [] 170 h2 170 7114) : Vg (mLaw nm) (some (L, xs)) QL 1160 [some (.ref 0), some (.ref 1), some (.ref 132), some (.int (nI i))] [] 170 h 170 7114 := by
  obtain ⟨v, h1, h2, c, S1, m, nb2, nl2, nr2, nt2, nd2, nj2, np2, r2⟩ := J_job r (xs (i + 1)) (xs (i + 2)) (xs (i + 3)) (xs (i + 4))
  refine x_aload_n (q := 1161) dL_law_1160 rfl rfl rfl ?_
  refine x_aload_n (q := 1162) dL_law_1161 rfl rfl rfl ?_
  refine x_iload_n (q := 1163) dL_law_1162 rfl rfl rfl ?_
  refine x_iconst (q := 1164) (v := 1) dL_law_1163 rfl (by decide) ?_
  refine x_iadd (q := 1165) dL_law_1164 rfl ?_
  rw [show nI i + 1 = nI (i + 1) from nI_pj i 1]
  refine x_sldN (q := 1166) dL_law_1165 rfl (by omega) (by omega) ?_
  refine x_aload_n (q := 1167) dL_law_1166 rfl rfl rfl ?_
  refine x_iload_n (q := 1168) dL_law_1167 rfl rfl rfl ?_
  refine x_iconst (q := 1169) (v := 2) dL_law_1168 rfl (by decide) ?_
  refine x_iadd (q := 1170) dL_law_1169 rfl ?_
  rw [show nI i + 2 = nI (i + 2) from nI_pj i 2]
  refine x_sldN (q := 1171) dL_law_1170 rfl (by omega) (by omega) ?_
  refine x_aload_n (q := 1172) dL_law_1171 rfl rfl rfl ?_
  refine x_iload_n (q := 1173) dL_law_1172 rfl rfl rfl ?_
  refine x_iconst (q := 1174) (v := 3) dL_law_1173 rfl (by decide) ?_
  refine x_iadd (q := 1175) dL_law_1174 rfl ?_
  rw [show nI i + 3 = nI (i + 3) from nI_pj i 3]
  refine x_sldN (q := 1176) dL_law_1175 rfl (by omega) (by omega) ?_
  refine x_aload_n (q := 1177) dL_law_1176 rfl rfl rfl ?_
  refine x_iload_n (q := 1178) dL_law_1177 rfl rfl rfl ?_
  refine x_iconst (q := 1179) (v := 4) dL_law_1178 rfl (by decide) ?_
  refine x_iadd (q := 1180) dL_law_1179 rfl ?_
  rw [show nI i + 4 = nI (i + 4) from nI_pj i 4]
  refine x_sldN (q := 1181) dL_law_1180 rfl (by omega) (by omega) ?_
  refine y_cvI (q := 1184) dL_law_1181 rfl l_L_133 c rfl rfl (cl_1 r.S) (by decide) rfl rfl rfl rfl ?_
  refine x_aload_n (q := 1185) dL_law_1184 rfl rfl rfl ?_
  refine x_aload_n (q := 1186) dL_law_1185 rfl rfl rfl ?_
  refine x_iload_n (q := 1187) dL_law_1186 rfl rfl rfl ?_
  refine x_iconst (q := 1188) (v := 1) dL_law_1187 rfl (by decide) ?_
  refine x_iadd (q := 1189) dL_law_1188 rfl ?_
  rw [show nI i + 1 = nI (i + 1) from nI_pj i 1]
  refine x_sldN (q := 1190) dL_law_1189 rfl (by omega) (by omega) ?_
  refine x_aload_n (q := 1191) dL_law_1190 rfl rfl rfl ?_
  refine x_iload_n (q := 1192) dL_law_1191 rfl rfl rfl ?_
  refine x_iconst (q := 1193) (v := 2) dL_law_1192 rfl (by decide) ?_
  refine x_iadd (q := 1194) dL_law_1193 rfl ?_
  rw [show nI i + 2 = nI (i + 2) from nI_pj i 2]
  refine x_sldN (q := 1195) dL_law_1194 rfl (by omega) (by omega) ?_
  refine x_aload_n (q := 1196) dL_law_1195 rfl rfl rfl ?_
  refine x_iload_n (q := 1197) dL_law_1196 rfl rfl rfl ?_
  refine x_iconst (q := 1198) (v := 3) dL_law_1197 rfl (by decide) ?_
  refine x_iadd (q := 1199) dL_law_1198 rfl ?_
  rw [show nI i + 3 = nI (i + 3) from nI_pj i 3]
  refine x_sldN (q := 1200) dL_law_1199 rfl (by omega) (by omega) ?_
  refine x_aload_n (q := 1201) dL_law_1200 rfl rfl rfl ?_
  refine x_iload_n (q := 1202) dL_law_1201 rfl rfl rfl ?_
  refine x_iconst (q := 1203) (v := 4) dL_law_1202 rfl (by decide) ?_
  refine x_iadd (q := 1204) dL_law_1203 rfl ?_
  rw [show nI i + 4 = nI (i + 4) from nI_pj i 4]
  refine x_sldN (q := 1205) dL_law_1204 rfl (by omega) (by omega) ?_
  refine y_cvI (q := 1208) dL_law_1205 rfl l_L_136 m rfl rfl (cl_132 S1) (by decide) rfl rfl rfl rfl ?_
  refine x_ic_eq (q := 1211) (t := 1338) dL_law_1208 rfl (by decide) (fun _ => ?_) (fun c_ => absurd rfl c_)
  exact K _ _ _ _ _ _ _ _ r2
theorem lw_c29 {nm : MethodName} {L i : Nat} {xs : Nat → Int32} {h : HF} {nb nl nr nt nd nj np : Nat} (hi : i + 6 ≤ L) (hL : L ≤ 3072) (r : Rel h nb nl nr nt nd nj np) (K : ∀ (h2 : HF) (nb nl nr nt nd nj np : Nat), Rel h2 nb nl nr nt nd nj np → Vg (mLaw nm) (some (L, xs)) QL 1338 [some (.ref 0), some (.ref 1), some (.ref 132), some (.int (nI i))] [] 170 h2 170 7114) : Vg (mLaw nm) (some (L, xs)) QL 1213 [some (.ref 0), some (.ref 1), some (.ref 132), some (.int (nI i))] [] 170 h 170 7114 := by
  obtain ⟨v, h1, h2, c, S1, m, nb2, nl2, nr2, nt2, nd2, nj2, np2, r2⟩ := J_cleaning r (xs (i + 1)) (xs (i + 2)) (xs (i + 3))
  refine x_aload_n (q := 1214) dL_law_1213 rfl rfl rfl ?_
  refine x_aload_n (q := 1215) dL_law_1214 rfl rfl rfl ?_
  refine x_iload_n (q := 1216) dL_law_1215 rfl rfl rfl ?_
  refine x_iconst (q := 1217) (v := 1) dL_law_1216 rfl (by decide) ?_
  refine x_iadd (q := 1218) dL_law_1217 rfl ?_
  rw [show nI i + 1 = nI (i + 1) from nI_pj i 1]
  refine x_sldN (q := 1219) dL_law_1218 rfl (by omega) (by omega) ?_
  refine x_aload_n (q := 1220) dL_law_1219 rfl rfl rfl ?_
  refine x_iload_n (q := 1221) dL_law_1220 rfl rfl rfl ?_
  refine x_iconst (q := 1222) (v := 2) dL_law_1221 rfl (by decide) ?_
  refine x_iadd (q := 1223) dL_law_1222 rfl ?_
  rw [show nI i + 2 = nI (i + 2) from nI_pj i 2]
  refine x_sldN (q := 1224) dL_law_1223 rfl (by omega) (by omega) ?_
  refine x_aload_n (q := 1225) dL_law_1224 rfl rfl rfl ?_
  refine x_iload_n (q := 1226) dL_law_1225 rfl rfl rfl ?_
  refine x_iconst (q := 1227) (v := 3) dL_law_1226 rfl (by decide) ?_
  refine x_iadd (q := 1228) dL_law_1227 rfl ?_
  rw [show nI i + 3 = nI (i + 3) from nI_pj i 3]
  refine x_sldN (q := 1229) dL_law_1228 rfl (by omega) (by omega) ?_
  refine y_cvI (q := 1232) dL_law_1229 rfl l_L_137 c rfl rfl (cl_1 r.S) (by decide) rfl rfl rfl rfl ?_
  refine x_aload_n (q := 1233) dL_law_1232 rfl rfl rfl ?_
  refine x_aload_n (q := 1234) dL_law_1233 rfl rfl rfl ?_
  refine x_iload_n (q := 1235) dL_law_1234 rfl rfl rfl ?_
  refine x_iconst (q := 1236) (v := 1) dL_law_1235 rfl (by decide) ?_
  refine x_iadd (q := 1237) dL_law_1236 rfl ?_
  rw [show nI i + 1 = nI (i + 1) from nI_pj i 1]
  refine x_sldN (q := 1238) dL_law_1237 rfl (by omega) (by omega) ?_
  refine x_aload_n (q := 1239) dL_law_1238 rfl rfl rfl ?_
  refine x_iload_n (q := 1240) dL_law_1239 rfl rfl rfl ?_
  refine x_iconst (q := 1241) (v := 2) dL_law_1240 rfl (by decide) ?_
  refine x_iadd (q := 1242) dL_law_1241 rfl ?_
  rw [show nI i + 2 = nI (i + 2) from nI_pj i 2]
  refine x_sldN (q := 1243) dL_law_1242 rfl (by omega) (by omega) ?_
  refine x_aload_n (q := 1244) dL_law_1243 rfl rfl rfl ?_
  refine x_iload_n (q := 1245) dL_law_1244 rfl rfl rfl ?_
  refine x_iconst (q := 1246) (v := 3) dL_law_1245 rfl (by decide) ?_
  refine x_iadd (q := 1247) dL_law_1246 rfl ?_
  rw [show nI i + 3 = nI (i + 3) from nI_pj i 3]
  refine x_sldN (q := 1248) dL_law_1247 rfl (by omega) (by omega) ?_
  refine y_cvI (q := 1251) dL_law_1248 rfl l_L_140 m rfl rfl (cl_132 S1) (by decide) rfl rfl rfl rfl ?_
  refine x_ic_eq (q := 1254) (t := 1338) dL_law_1251 rfl (by decide) (fun _ => ?_) (fun c_ => absurd rfl c_)
  exact K _ _ _ _ _ _ _ _ r2
theorem lw_c30 {nm : MethodName} {L i : Nat} {xs : Nat → Int32} {h : HF} {nb nl nr nt nd nj np : Nat} (hi : i + 6 ≤ L) (hL : L ≤ 3072) (r : Rel h nb nl nr nt nd nj np) (K : ∀ (h2 : HF) (nb nl nr nt nd nj np : Nat), Rel h2 nb nl nr nt nd nj np → Vg (mLaw nm) (some (L, xs)) QL 1338 [some (.ref 0), some (.ref 1), some (.ref 132), some (.int (nI i))] [] 170 h2 170 7114) : Vg (mLaw nm) (some (L, xs)) QL 1256 [some (.ref 0), some (.ref 1), some (.ref 132), some (.int (nI i))] [] 170 h 170 7114 := by
  obtain ⟨v, h1, h2, c, S1, m, nb2, nl2, nr2, nt2, nd2, nj2, np2, r2⟩ := J_plan r (xs (i + 1))
  refine x_aload_n (q := 1257) dL_law_1256 rfl rfl rfl ?_
  refine x_aload_n (q := 1258) dL_law_1257 rfl rfl rfl ?_
  refine x_iload_n (q := 1259) dL_law_1258 rfl rfl rfl ?_
  refine x_iconst (q := 1260) (v := 1) dL_law_1259 rfl (by decide) ?_
  refine x_iadd (q := 1261) dL_law_1260 rfl ?_
  rw [show nI i + 1 = nI (i + 1) from nI_pj i 1]
  refine x_sldN (q := 1262) dL_law_1261 rfl (by omega) (by omega) ?_
  refine y_cvI (q := 1265) dL_law_1262 rfl l_L_141 c rfl rfl (cl_1 r.S) (by decide) rfl rfl rfl rfl ?_
  refine x_aload_n (q := 1266) dL_law_1265 rfl rfl rfl ?_
  refine x_aload_n (q := 1267) dL_law_1266 rfl rfl rfl ?_
  refine x_iload_n (q := 1268) dL_law_1267 rfl rfl rfl ?_
  refine x_iconst (q := 1269) (v := 1) dL_law_1268 rfl (by decide) ?_
  refine x_iadd (q := 1270) dL_law_1269 rfl ?_
  rw [show nI i + 1 = nI (i + 1) from nI_pj i 1]
  refine x_sldN (q := 1271) dL_law_1270 rfl (by omega) (by omega) ?_
  refine y_cvI (q := 1274) dL_law_1271 rfl l_L_144 m rfl rfl (cl_132 S1) (by decide) rfl rfl rfl rfl ?_
  refine x_ic_eq (q := 1277) (t := 1338) dL_law_1274 rfl (by decide) (fun _ => ?_) (fun c_ => absurd rfl c_)
  exact K _ _ _ _ _ _ _ _ r2
theorem lw_c31 {nm : MethodName} {L i : Nat} {xs : Nat → Int32} {h : HF} {nb nl nr nt nd nj np : Nat} (hi : i + 6 ≤ L) (hL : L ≤ 3072) (r : Rel h nb nl nr nt nd nj np) (K : ∀ (h2 : HF) (nb nl nr nt nd nj np : Nat), Rel h2 nb nl nr nt nd nj np → Vg (mLaw nm) (some (L, xs)) QL 1338 [some (.ref 0), some (.ref 1), some (.ref 132), some (.int (nI i))] [] 170 h2 170 7114) : Vg (mLaw nm) (some (L, xs)) QL 1279 [some (.ref 0), some (.ref 1), some (.ref 132), some (.int (nI i))] [] 170 h 170 7114 := by
  obtain ⟨v, h1, h2, c, S1, m, nb2, nl2, nr2, nt2, nd2, nj2, np2, r2⟩ := J_planned r (xs (i + 1))
  refine x_aload_n (q := 1280) dL_law_1279 rfl rfl rfl ?_
  refine x_aload_n (q := 1281) dL_law_1280 rfl rfl rfl ?_
  refine x_iload_n (q := 1282) dL_law_1281 rfl rfl rfl ?_
  refine x_iconst (q := 1283) (v := 1) dL_law_1282 rfl (by decide) ?_
  refine x_iadd (q := 1284) dL_law_1283 rfl ?_
  rw [show nI i + 1 = nI (i + 1) from nI_pj i 1]
  refine x_sldN (q := 1285) dL_law_1284 rfl (by omega) (by omega) ?_
  refine y_cvI (q := 1288) dL_law_1285 rfl l_L_145 c rfl rfl (cl_1 r.S) (by decide) rfl rfl rfl rfl ?_
  refine x_aload_n (q := 1289) dL_law_1288 rfl rfl rfl ?_
  refine x_aload_n (q := 1290) dL_law_1289 rfl rfl rfl ?_
  refine x_iload_n (q := 1291) dL_law_1290 rfl rfl rfl ?_
  refine x_iconst (q := 1292) (v := 1) dL_law_1291 rfl (by decide) ?_
  refine x_iadd (q := 1293) dL_law_1292 rfl ?_
  rw [show nI i + 1 = nI (i + 1) from nI_pj i 1]
  refine x_sldN (q := 1294) dL_law_1293 rfl (by omega) (by omega) ?_
  refine y_cvI (q := 1297) dL_law_1294 rfl l_L_148 m rfl rfl (cl_132 S1) (by decide) rfl rfl rfl rfl ?_
  refine x_ic_eq (q := 1300) (t := 1338) dL_law_1297 rfl (by decide) (fun _ => ?_) (fun c_ => absurd rfl c_)
  exact K _ _ _ _ _ _ _ _ r2
theorem lw_c32 {nm : MethodName} {L i : Nat} {xs : Nat → Int32} {h : HF} {nb nl nr nt nd nj np : Nat} (hi : i + 6 ≤ L) (hL : L ≤ 3072) (r : Rel h nb nl nr nt nd nj np) (K : ∀ (h2 : HF) (nb nl nr nt nd nj np : Nat), Rel h2 nb nl nr nt nd nj np → Vg (mLaw nm) (some (L, xs)) QL 1338 [some (.ref 0), some (.ref 1), some (.ref 132), some (.int (nI i))] [] 170 h2 170 7114) : Vg (mLaw nm) (some (L, xs)) QL 1302 [some (.ref 0), some (.ref 1), some (.ref 132), some (.int (nI i))] [] 170 h 170 7114 := by
  obtain ⟨v, h1, h2, c, S1, m, nb2, nl2, nr2, nt2, nd2, nj2, np2, r2⟩ := J_idle r 
  refine x_aload_n (q := 1303) dL_law_1302 rfl rfl rfl ?_
  refine y_cvI (q := 1306) dL_law_1303 rfl l_L_149 c rfl rfl (cl_1 r.S) (by decide) rfl rfl rfl rfl ?_
  refine x_aload_n (q := 1307) dL_law_1306 rfl rfl rfl ?_
  refine y_cvI (q := 1310) dL_law_1307 rfl l_L_152 m rfl rfl (cl_132 S1) (by decide) rfl rfl rfl rfl ?_
  refine x_ic_eq (q := 1313) (t := 1338) dL_law_1310 rfl (by decide) (fun _ => ?_) (fun c_ => absurd rfl c_)
  exact K _ _ _ _ _ _ _ _ r2
theorem lw_c33 {nm : MethodName} {L i : Nat} {xs : Nat → Int32} {h : HF} {nb nl nr nt nd nj np : Nat} (hi : i + 6 ≤ L) (hL : L ≤ 3072) (r : Rel h nb nl nr nt nd nj np) (K : ∀ (h2 : HF) (nb nl nr nt nd nj np : Nat), Rel h2 nb nl nr nt nd nj np → Vg (mLaw nm) (some (L, xs)) QL 1338 [some (.ref 0), some (.ref 1), some (.ref 132), some (.int (nI i))] [] 170 h2 170 7114) : Vg (mLaw nm) (some (L, xs)) QL 1315 [some (.ref 0), some (.ref 1), some (.ref 132), some (.int (nI i))] [] 170 h 170 7114 := by
  obtain ⟨v, h1, h2, c, S1, m, nb2, nl2, nr2, nt2, nd2, nj2, np2, r2⟩ := J_count r (xs (i + 1))
  refine x_aload_n (q := 1316) dL_law_1315 rfl rfl rfl ?_
  refine x_aload_n (q := 1317) dL_law_1316 rfl rfl rfl ?_
  refine x_iload_n (q := 1318) dL_law_1317 rfl rfl rfl ?_
  refine x_iconst (q := 1319) (v := 1) dL_law_1318 rfl (by decide) ?_
  refine x_iadd (q := 1320) dL_law_1319 rfl ?_
  rw [show nI i + 1 = nI (i + 1) from nI_pj i 1]
  refine x_sldN (q := 1321) dL_law_1320 rfl (by omega) (by omega) ?_
  refine y_cvI (q := 1324) dL_law_1321 rfl l_L_153 c rfl rfl (cl_1 r.S) (by decide) rfl rfl rfl rfl ?_
  refine x_aload_n (q := 1325) dL_law_1324 rfl rfl rfl ?_
  refine x_aload_n (q := 1326) dL_law_1325 rfl rfl rfl ?_
  refine x_iload_n (q := 1327) dL_law_1326 rfl rfl rfl ?_
  refine x_iconst (q := 1328) (v := 1) dL_law_1327 rfl (by decide) ?_
  refine x_iadd (q := 1329) dL_law_1328 rfl ?_
  rw [show nI i + 1 = nI (i + 1) from nI_pj i 1]
  refine x_sldN (q := 1330) dL_law_1329 rfl (by omega) (by omega) ?_
  refine y_cvI (q := 1333) dL_law_1330 rfl l_L_156 m rfl rfl (cl_132 S1) (by decide) rfl rfl rfl rfl ?_
  refine x_ic_eq (q := 1336) (t := 1338) dL_law_1333 rfl (by decide) (fun _ => ?_) (fun c_ => absurd rfl c_)
  exact K _ _ _ _ _ _ _ _ r2
