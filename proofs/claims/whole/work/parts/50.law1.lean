/-! the law's cases (gen/law.py) -/
theorem RW.kr {σ : TT} {M M' : Mem} (h : RW σ M) (k : Kr M M') : RW σ M' := by
  have e := fun b (hb : 25 ≤ b ∧ b < 49) => k b (Or.inr hb)
  refine ⟨(e 25 (by decide)).1.trans h.1, fun i hi => ⟨fun q => ?_, fun q => ?_⟩⟩
  · rw [(e 25 (by decide)).2]; exact (h.2 i hi).1 q
  · have ha := rAd_ne i hi q
    obtain ⟨z1, z2, z3⟩ := (h.2 i hi).2 q
    rw [(e 25 (by decide)).2, (e (rAd i) (by omega)).1, (e (rAd i) (by omega)).2]
    exact ⟨z1, z2, z3⟩
theorem AR.kr {M M' : Mem} {L : Nat} {xs : Nat → Int32} (h : AR M 0 L xs) (k : Kr M M') : AR M' 0 L xs := by
  have e := k 0 (Or.inl (by decide))
  unfold AR
  rw [e.1, e.2]
  exact h
theorem AR.off {M M' : Mem} {L : Nat} {xs : Nat → Int32} (h : AR M 0 L xs) (k : Off M M') : AR M' 0 L xs := by
  unfold AR
  rw [k.2.1, k.2.2 0 (by omega)]
  exact h
theorem CW.off {σ : TT} {α : AT} {M M' : Mem} (h : CW σ α M) (f : Off M M') : CW σ α M' := by
  have hm := h.m1
  have k : Kp (fun b => 25 ≤ b ∧ b < 49) M M' := ⟨by rw [f.1]; exact Nat.le_refl _, fun b _ => by rw [f.2.1], fun b _ hb => f.2.2 b hb⟩
  exact h.low k (fun b q => by omega) h.gd (h.xo.kp k hm (by omega)) (h.sx.kp k hm (fun b _ _ => by omega)) (h.tv.kp k hm (by omega)) (fun j hj => (h.sh j hj).kp hj k hm (by omega) (by omega)) rfl rfl rfl rfl rfl rfl rfl rfl rfl rfl rfl rfl rfl rfl rfl rfl rfl rfl
section
variable {Y : YY} {R : Room} {Q : Option Value → Mem → Prop} {ls : List (Option Value)} {st : List Value} {M : Mem} {cs ss : Nat}
theorem lw_c (pc : Nat) {Z : YY} {rm : Room} {as st0 : List Value} {v : Value} {P : Mem → Prop} {idx a ci N : Nat} {rr : vw_C} (hd : decode Y.2.1 pc = .ok (.invokevirtual idx, 3)) (hM : AP Z rm (.ref a :: as) M (some v) P) (ck : ckV Y.1.cls idx Z as.length = true) (hcd : inTbl Z) (hk : M.2.1 a = (ci, N)) (hci : vwCl[ci]? = some rr) (hcl : Z.1.cls = rr.1) (hst : st0 = as.reverse ++ .ref a :: st) (hw : (st.map fun v => v.category).sum ≤ 8) (hR1 : rmOK R rm Z cs ss)
    (kk : ∀ M', P M' → AW Y R Q (pc + 3) ls (v :: st) M' (cs + rm.cells) (ss + rm.slots)) : AW Y R Q pc ls st0 M cs ss := ap_v pc hd hM ck hcd hk hci hcl hst hw hR1 kk
end

set_option maxHeartbeats 4000000 in
set_option maxRecDepth 100000 in
theorem k_picture {Q : Option Value → Mem → Prop} {σ : TT} {α : AT} {M : Mem} {L i cs ss : Nat} {xs : Nat → Int32} (hC : CW σ α M) (hW : RW σ M) (hX : AR M 0 L xs) (hL : L ≤ 4608) (hi : i + 9 ≤ L) (hcs : cs + 2 ≤ 772320) (hss : ss + 21 ≤ 6785288)
    (kk : ∀ ρ α' M' cs' ss', CW ρ α' M' → RW ρ M' → AR M' 0 L xs → cs' ≤ cs + 2 → ss' ≤ ss + 21 → AW mL_law room_1 Q 1621 [some (.ref 0), some (.ref 2), some (.ref 25), some (.int (nI i))] [] M' cs' ss') : AW mL_law room_1 Q 204 [some (.ref 0), some (.ref 2), some (.ref 25), some (.int (nI i))] [] M cs ss := by
  obtain ⟨z, PC, P, hc, hr, hcl⟩ := p_picture hC (xs (i + 1)) (xs (i + 2)) (xs (i + 3)) (xs (i + 4)) (xs (i + 5))
  refine aw_aload1 204 dL_law_204 ?_
  refine aw_aload0 205 dL_law_205 ?_
  refine aw_iload3 206 dL_law_206 ?_
  refine aw_ic1 207 dL_law_207 ?_
  refine aw_iaddN 208 (i) (1) dL_law_208 rfl rfl ?_
  refine ar_ld 209 (i + 1) dL_law_209 hX rfl (show i + 1 < L by omega) (by omega) ?_
  refine aw_aload0 210 dL_law_210 ?_
  refine aw_iload3 211 dL_law_211 ?_
  refine aw_ic2 212 dL_law_212 ?_
  refine aw_iaddN 213 (i) (2) dL_law_213 rfl rfl ?_
  refine ar_ld 214 (i + 2) dL_law_214 hX rfl (show i + 2 < L by omega) (by omega) ?_
  refine aw_aload0 215 dL_law_215 ?_
  refine aw_iload3 216 dL_law_216 ?_
  refine aw_ic3 217 dL_law_217 ?_
  refine aw_iaddN 218 (i) (3) dL_law_218 rfl rfl ?_
  refine ar_ld 219 (i + 3) dL_law_219 hX rfl (show i + 3 < L by omega) (by omega) ?_
  refine aw_aload0 220 dL_law_220 ?_
  refine aw_iload3 221 dL_law_221 ?_
  refine aw_ic4 222 dL_law_222 ?_
  refine aw_iaddN 223 (i) (4) dL_law_223 rfl rfl ?_
  refine ar_ld 224 (i + 4) dL_law_224 hX rfl (show i + 4 < L by omega) (by omega) ?_
  refine aw_aload0 225 dL_law_225 ?_
  refine aw_iload3 226 dL_law_226 ?_
  refine aw_ic5 227 dL_law_227 ?_
  refine aw_iaddN 228 (i) (5) dL_law_228 rfl rfl ?_
  refine ar_ld 229 (i + 5) dL_law_229 hX rfl (show i + 5 < L by omega) (by omega) ?_
  refine lw_c 230 dL_law_230 hc ckV_RL_13 cd_X11_picture hC.xo.1 vc11 rfl rfl (Nat.le_of_ble_eq_true rfl) ⟨⟨by decide, by decide⟩, by show cs + 2 ≤ 772320; omega, by show ss + 21 ≤ 6785288; omega⟩ (fun M hPC => ?_)
  obtain ⟨hKr, hfin⟩ := hcl M hPC
  replace hW := hW.kr hKr
  replace hX := hX.kr hKr
  clear hKr
  refine aw_aload2 233 dL_law_233 ?_
  refine aw_aload0 234 dL_law_234 ?_
  refine aw_iload3 235 dL_law_235 ?_
  refine aw_ic1 236 dL_law_236 ?_
  refine aw_iaddN 237 (i) (1) dL_law_237 rfl rfl ?_
  refine ar_ld 238 (i + 1) dL_law_238 hX rfl (show i + 1 < L by omega) (by omega) ?_
  refine aw_aload0 239 dL_law_239 ?_
  refine aw_iload3 240 dL_law_240 ?_
  refine aw_ic2 241 dL_law_241 ?_
  refine aw_iaddN 242 (i) (2) dL_law_242 rfl rfl ?_
  refine ar_ld 243 (i + 2) dL_law_243 hX rfl (show i + 2 < L by omega) (by omega) ?_
  refine aw_aload0 244 dL_law_244 ?_
  refine aw_iload3 245 dL_law_245 ?_
  refine aw_ic3 246 dL_law_246 ?_
  refine aw_iaddN 247 (i) (3) dL_law_247 rfl rfl ?_
  refine ar_ld 248 (i + 3) dL_law_248 hX rfl (show i + 3 < L by omega) (by omega) ?_
  refine aw_aload0 249 dL_law_249 ?_
  refine aw_iload3 250 dL_law_250 ?_
  refine aw_ic4 251 dL_law_251 ?_
  refine aw_iaddN 252 (i) (4) dL_law_252 rfl rfl ?_
  refine ar_ld 253 (i + 4) dL_law_253 hX rfl (show i + 4 < L by omega) (by omega) ?_
  refine aw_aload0 254 dL_law_254 ?_
  refine aw_iload3 255 dL_law_255 ?_
  refine aw_ic5 256 dL_law_256 ?_
  refine aw_iaddN 257 (i) (5) dL_law_257 rfl rfl ?_
  refine ar_ld 258 (i + 5) dL_law_258 hX rfl (show i + 5 < L by omega) (by omega) ?_
  refine rp_call1 259 dL_law_259 hr ckV_RL_17 cd_X12_picture rfl ⟨hW, Off.rf _⟩ rfl (Nat.le_of_ble_eq_true rfl) ⟨⟨by decide, by decide⟩, by show cs + 2 + 0 ≤ 772320; omega, by show ss + 21 + 0 ≤ 6785288; omega⟩ rfl (fun ρ M hP hRO => ?_)
  obtain ⟨α', hC'⟩ := hfin ρ hP
  replace hC' := hC'.off hRO.2
  replace hX := hX.off hRO.2
  refine aw_icmp_eq 262 1621 dL_law_262 (by decide) (fun _ => ?_) (fun q => absurd rfl q)
  exact kk ρ α' M _ _ hC' hRO.1 hX (by show cs + 2 ≤ cs + 2; omega) (by show ss + 21 ≤ ss + 21; omega)

set_option maxHeartbeats 4000000 in
set_option maxRecDepth 100000 in
theorem k_ofPicture {Q : Option Value → Mem → Prop} {σ : TT} {α : AT} {M : Mem} {L i cs ss : Nat} {xs : Nat → Int32} (hC : CW σ α M) (hW : RW σ M) (hX : AR M 0 L xs) (hL : L ≤ 4608) (hi : i + 9 ≤ L) (hcs : cs + 2 ≤ 772320) (hss : ss + 21 ≤ 6785288)
    (kk : ∀ ρ α' M' cs' ss', CW ρ α' M' → RW ρ M' → AR M' 0 L xs → cs' ≤ cs + 2 → ss' ≤ ss + 21 → AW mL_law room_1 Q 1621 [some (.ref 0), some (.ref 2), some (.ref 25), some (.int (nI i))] [] M' cs' ss') : AW mL_law room_1 Q 267 [some (.ref 0), some (.ref 2), some (.ref 25), some (.int (nI i))] [] M cs ss := by
  obtain ⟨z, PC, P, hc, hr, hcl⟩ := p_ofPicture hC (xs (i + 1)) (xs (i + 2))
  refine aw_aload1 267 dL_law_267 ?_
  refine aw_aload0 268 dL_law_268 ?_
  refine aw_iload3 269 dL_law_269 ?_
  refine aw_ic1 270 dL_law_270 ?_
  refine aw_iaddN 271 (i) (1) dL_law_271 rfl rfl ?_
  refine ar_ld 272 (i + 1) dL_law_272 hX rfl (show i + 1 < L by omega) (by omega) ?_
  refine aw_aload0 273 dL_law_273 ?_
  refine aw_iload3 274 dL_law_274 ?_
  refine aw_ic2 275 dL_law_275 ?_
  refine aw_iaddN 276 (i) (2) dL_law_276 rfl rfl ?_
  refine ar_ld 277 (i + 2) dL_law_277 hX rfl (show i + 2 < L by omega) (by omega) ?_
  refine lw_c 278 dL_law_278 hc ckV_RL_18 cd_X11_ofPicture hC.xo.1 vc11 rfl rfl (Nat.le_of_ble_eq_true rfl) ⟨⟨by decide, by decide⟩, by show cs + 0 ≤ 772320; omega, by show ss + 0 ≤ 6785288; omega⟩ (fun M hPC => ?_)
  obtain ⟨hKr, hfin⟩ := hcl M hPC
  replace hW := hW.kr hKr
  replace hX := hX.kr hKr
  clear hKr
  refine aw_aload2 281 dL_law_281 ?_
  refine aw_aload0 282 dL_law_282 ?_
  refine aw_iload3 283 dL_law_283 ?_
  refine aw_ic1 284 dL_law_284 ?_
  refine aw_iaddN 285 (i) (1) dL_law_285 rfl rfl ?_
  refine ar_ld 286 (i + 1) dL_law_286 hX rfl (show i + 1 < L by omega) (by omega) ?_
  refine aw_aload0 287 dL_law_287 ?_
  refine aw_iload3 288 dL_law_288 ?_
  refine aw_ic2 289 dL_law_289 ?_
  refine aw_iaddN 290 (i) (2) dL_law_290 rfl rfl ?_
  refine ar_ld 291 (i + 2) dL_law_291 hX rfl (show i + 2 < L by omega) (by omega) ?_
  refine rp_call1 292 dL_law_292 hr ckV_RL_22 cd_X12_ofPicture rfl ⟨hW, Off.rf _⟩ rfl (Nat.le_of_ble_eq_true rfl) ⟨⟨by decide, by decide⟩, by show cs + 0 + 0 ≤ 772320; omega, by show ss + 0 + 0 ≤ 6785288; omega⟩ rfl (fun ρ M hP hRO => ?_)
  obtain ⟨α', hC'⟩ := hfin ρ hP
  replace hC' := hC'.off hRO.2
  replace hX := hX.off hRO.2
  refine aw_icmp_eq 295 1621 dL_law_295 (by decide) (fun _ => ?_) (fun q => absurd rfl q)
  exact kk ρ α' M _ _ hC' hRO.1 hX (by show cs + 0 ≤ cs + 2; omega) (by show ss + 0 ≤ ss + 21; omega)

set_option maxHeartbeats 4000000 in
set_option maxRecDepth 100000 in
theorem k_alter {Q : Option Value → Mem → Prop} {σ : TT} {α : AT} {M : Mem} {L i cs ss : Nat} {xs : Nat → Int32} (hC : CW σ α M) (hW : RW σ M) (hX : AR M 0 L xs) (hL : L ≤ 4608) (hi : i + 9 ≤ L) (hcs : cs + 2 ≤ 772320) (hss : ss + 21 ≤ 6785288)
    (kk : ∀ ρ α' M' cs' ss', CW ρ α' M' → RW ρ M' → AR M' 0 L xs → cs' ≤ cs + 2 → ss' ≤ ss + 21 → AW mL_law room_1 Q 1621 [some (.ref 0), some (.ref 2), some (.ref 25), some (.int (nI i))] [] M' cs' ss') : AW mL_law room_1 Q 300 [some (.ref 0), some (.ref 2), some (.ref 25), some (.int (nI i))] [] M cs ss := by
  obtain ⟨z, PC, P, hc, hr, hcl⟩ := p_alter hC (xs (i + 1)) (xs (i + 2)) (xs (i + 3))
  refine aw_aload1 300 dL_law_300 ?_
  refine aw_aload0 301 dL_law_301 ?_
  refine aw_iload3 302 dL_law_302 ?_
  refine aw_ic1 303 dL_law_303 ?_
  refine aw_iaddN 304 (i) (1) dL_law_304 rfl rfl ?_
  refine ar_ld 305 (i + 1) dL_law_305 hX rfl (show i + 1 < L by omega) (by omega) ?_
  refine aw_aload0 306 dL_law_306 ?_
  refine aw_iload3 307 dL_law_307 ?_
  refine aw_ic2 308 dL_law_308 ?_
  refine aw_iaddN 309 (i) (2) dL_law_309 rfl rfl ?_
  refine ar_ld 310 (i + 2) dL_law_310 hX rfl (show i + 2 < L by omega) (by omega) ?_
  refine aw_aload0 311 dL_law_311 ?_
  refine aw_iload3 312 dL_law_312 ?_
  refine aw_ic3 313 dL_law_313 ?_
  refine aw_iaddN 314 (i) (3) dL_law_314 rfl rfl ?_
  refine ar_ld 315 (i + 3) dL_law_315 hX rfl (show i + 3 < L by omega) (by omega) ?_
  refine lw_c 316 dL_law_316 hc ckV_RL_23 cd_X11_alter hC.xo.1 vc11 rfl rfl (Nat.le_of_ble_eq_true rfl) ⟨⟨by decide, by decide⟩, by show cs + 0 ≤ 772320; omega, by show ss + 0 ≤ 6785288; omega⟩ (fun M hPC => ?_)
  obtain ⟨hKr, hfin⟩ := hcl M hPC
  replace hW := hW.kr hKr
  replace hX := hX.kr hKr
  clear hKr
  refine aw_aload2 319 dL_law_319 ?_
  refine aw_aload0 320 dL_law_320 ?_
  refine aw_iload3 321 dL_law_321 ?_
  refine aw_ic1 322 dL_law_322 ?_
  refine aw_iaddN 323 (i) (1) dL_law_323 rfl rfl ?_
  refine ar_ld 324 (i + 1) dL_law_324 hX rfl (show i + 1 < L by omega) (by omega) ?_
  refine aw_aload0 325 dL_law_325 ?_
  refine aw_iload3 326 dL_law_326 ?_
  refine aw_ic2 327 dL_law_327 ?_
  refine aw_iaddN 328 (i) (2) dL_law_328 rfl rfl ?_
  refine ar_ld 329 (i + 2) dL_law_329 hX rfl (show i + 2 < L by omega) (by omega) ?_
  refine aw_aload0 330 dL_law_330 ?_
  refine aw_iload3 331 dL_law_331 ?_
  refine aw_ic3 332 dL_law_332 ?_
  refine aw_iaddN 333 (i) (3) dL_law_333 rfl rfl ?_
  refine ar_ld 334 (i + 3) dL_law_334 hX rfl (show i + 3 < L by omega) (by omega) ?_
  refine rp_call1 335 dL_law_335 hr ckV_RL_27 cd_X12_alter rfl ⟨hW, Off.rf _⟩ rfl (Nat.le_of_ble_eq_true rfl) ⟨⟨by decide, by decide⟩, by show cs + 0 + 0 ≤ 772320; omega, by show ss + 0 + 0 ≤ 6785288; omega⟩ rfl (fun ρ M hP hRO => ?_)
  obtain ⟨α', hC'⟩ := hfin ρ hP
  replace hC' := hC'.off hRO.2
  replace hX := hX.off hRO.2
  refine aw_icmp_eq 338 1621 dL_law_338 (by decide) (fun _ => ?_) (fun q => absurd rfl q)
  exact kk ρ α' M _ _ hC' hRO.1 hX (by show cs + 0 ≤ cs + 2; omega) (by show ss + 0 ≤ ss + 21; omega)

set_option maxHeartbeats 4000000 in
set_option maxRecDepth 100000 in
theorem k_lens {Q : Option Value → Mem → Prop} {σ : TT} {α : AT} {M : Mem} {L i cs ss : Nat} {xs : Nat → Int32} (hC : CW σ α M) (hW : RW σ M) (hX : AR M 0 L xs) (hL : L ≤ 4608) (hi : i + 9 ≤ L) (hcs : cs + 2 ≤ 772320) (hss : ss + 21 ≤ 6785288)
    (kk : ∀ ρ α' M' cs' ss', CW ρ α' M' → RW ρ M' → AR M' 0 L xs → cs' ≤ cs + 2 → ss' ≤ ss + 21 → AW mL_law room_1 Q 1621 [some (.ref 0), some (.ref 2), some (.ref 25), some (.int (nI i))] [] M' cs' ss') : AW mL_law room_1 Q 343 [some (.ref 0), some (.ref 2), some (.ref 25), some (.int (nI i))] [] M cs ss := by
  obtain ⟨z, PC, P, hc, hr, hcl⟩ := p_lens hC (xs (i + 1))
  refine aw_aload1 343 dL_law_343 ?_
  refine aw_aload0 344 dL_law_344 ?_
  refine aw_iload3 345 dL_law_345 ?_
  refine aw_ic1 346 dL_law_346 ?_
  refine aw_iaddN 347 (i) (1) dL_law_347 rfl rfl ?_
  refine ar_ld 348 (i + 1) dL_law_348 hX rfl (show i + 1 < L by omega) (by omega) ?_
  refine lw_c 349 dL_law_349 hc ckV_RL_28 cd_X11_lens hC.xo.1 vc11 rfl rfl (Nat.le_of_ble_eq_true rfl) ⟨⟨by decide, by decide⟩, by show cs + 1 ≤ 772320; omega, by show ss + 3 ≤ 6785288; omega⟩ (fun M hPC => ?_)
  obtain ⟨hKr, hfin⟩ := hcl M hPC
  replace hW := hW.kr hKr
  replace hX := hX.kr hKr
  clear hKr
  refine aw_aload2 352 dL_law_352 ?_
  refine aw_aload0 353 dL_law_353 ?_
  refine aw_iload3 354 dL_law_354 ?_
  refine aw_ic1 355 dL_law_355 ?_
  refine aw_iaddN 356 (i) (1) dL_law_356 rfl rfl ?_
  refine ar_ld 357 (i + 1) dL_law_357 hX rfl (show i + 1 < L by omega) (by omega) ?_
  refine rp_call1 358 dL_law_358 hr ckV_RL_32 cd_X12_lens rfl ⟨hW, Off.rf _⟩ rfl (Nat.le_of_ble_eq_true rfl) ⟨⟨by decide, by decide⟩, by show cs + 1 + 0 ≤ 772320; omega, by show ss + 3 + 0 ≤ 6785288; omega⟩ rfl (fun ρ M hP hRO => ?_)
  obtain ⟨α', hC'⟩ := hfin ρ hP
  replace hC' := hC'.off hRO.2
  replace hX := hX.off hRO.2
  refine aw_icmp_eq 361 1621 dL_law_361 (by decide) (fun _ => ?_) (fun q => absurd rfl q)
  exact kk ρ α' M _ _ hC' hRO.1 hX (by show cs + 1 ≤ cs + 2; omega) (by show ss + 3 ≤ ss + 21; omega)

set_option maxHeartbeats 4000000 in
set_option maxRecDepth 100000 in
theorem k_steal {Q : Option Value → Mem → Prop} {σ : TT} {α : AT} {M : Mem} {L i cs ss : Nat} {xs : Nat → Int32} (hC : CW σ α M) (hW : RW σ M) (hX : AR M 0 L xs) (hL : L ≤ 4608) (hi : i + 9 ≤ L) (hcs : cs + 2 ≤ 772320) (hss : ss + 21 ≤ 6785288)
    (kk : ∀ ρ α' M' cs' ss', CW ρ α' M' → RW ρ M' → AR M' 0 L xs → cs' ≤ cs + 2 → ss' ≤ ss + 21 → AW mL_law room_1 Q 1621 [some (.ref 0), some (.ref 2), some (.ref 25), some (.int (nI i))] [] M' cs' ss') : AW mL_law room_1 Q 366 [some (.ref 0), some (.ref 2), some (.ref 25), some (.int (nI i))] [] M cs ss := by
  obtain ⟨z, PC, P, hc, hr, hcl⟩ := p_steal hC (xs (i + 1)) (xs (i + 2))
  refine aw_aload1 366 dL_law_366 ?_
  refine aw_aload0 367 dL_law_367 ?_
  refine aw_iload3 368 dL_law_368 ?_
  refine aw_ic1 369 dL_law_369 ?_
  refine aw_iaddN 370 (i) (1) dL_law_370 rfl rfl ?_
  refine ar_ld 371 (i + 1) dL_law_371 hX rfl (show i + 1 < L by omega) (by omega) ?_
  refine aw_aload0 372 dL_law_372 ?_
  refine aw_iload3 373 dL_law_373 ?_
  refine aw_ic2 374 dL_law_374 ?_
  refine aw_iaddN 375 (i) (2) dL_law_375 rfl rfl ?_
  refine ar_ld 376 (i + 2) dL_law_376 hX rfl (show i + 2 < L by omega) (by omega) ?_
  refine lw_c 377 dL_law_377 hc ckV_RL_33 cd_X11_steal hC.xo.1 vc11 rfl rfl (Nat.le_of_ble_eq_true rfl) ⟨⟨by decide, by decide⟩, by show cs + 0 ≤ 772320; omega, by show ss + 0 ≤ 6785288; omega⟩ (fun M hPC => ?_)
  obtain ⟨hKr, hfin⟩ := hcl M hPC
  replace hW := hW.kr hKr
  replace hX := hX.kr hKr
  clear hKr
  refine aw_aload2 380 dL_law_380 ?_
  refine aw_aload0 381 dL_law_381 ?_
  refine aw_iload3 382 dL_law_382 ?_
  refine aw_ic1 383 dL_law_383 ?_
  refine aw_iaddN 384 (i) (1) dL_law_384 rfl rfl ?_
  refine ar_ld 385 (i + 1) dL_law_385 hX rfl (show i + 1 < L by omega) (by omega) ?_
  refine aw_aload0 386 dL_law_386 ?_
  refine aw_iload3 387 dL_law_387 ?_
  refine aw_ic2 388 dL_law_388 ?_
  refine aw_iaddN 389 (i) (2) dL_law_389 rfl rfl ?_
  refine ar_ld 390 (i + 2) dL_law_390 hX rfl (show i + 2 < L by omega) (by omega) ?_
  refine rp_call1 391 dL_law_391 hr ckV_RL_36 cd_X12_steal rfl ⟨hW, Off.rf _⟩ rfl (Nat.le_of_ble_eq_true rfl) ⟨⟨by decide, by decide⟩, by show cs + 0 + 0 ≤ 772320; omega, by show ss + 0 + 0 ≤ 6785288; omega⟩ rfl (fun ρ M hP hRO => ?_)
  obtain ⟨α', hC'⟩ := hfin ρ hP
  replace hC' := hC'.off hRO.2
  replace hX := hX.off hRO.2
  refine aw_icmp_eq 394 1621 dL_law_394 (by decide) (fun _ => ?_) (fun q => absurd rfl q)
  exact kk ρ α' M _ _ hC' hRO.1 hX (by show cs + 0 ≤ cs + 2; omega) (by show ss + 0 ≤ ss + 21; omega)

set_option maxHeartbeats 4000000 in
set_option maxRecDepth 100000 in
theorem k_take {Q : Option Value → Mem → Prop} {σ : TT} {α : AT} {M : Mem} {L i cs ss : Nat} {xs : Nat → Int32} (hC : CW σ α M) (hW : RW σ M) (hX : AR M 0 L xs) (hL : L ≤ 4608) (hi : i + 9 ≤ L) (hcs : cs + 2 ≤ 772320) (hss : ss + 21 ≤ 6785288)
    (kk : ∀ ρ α' M' cs' ss', CW ρ α' M' → RW ρ M' → AR M' 0 L xs → cs' ≤ cs + 2 → ss' ≤ ss + 21 → AW mL_law room_1 Q 1621 [some (.ref 0), some (.ref 2), some (.ref 25), some (.int (nI i))] [] M' cs' ss') : AW mL_law room_1 Q 399 [some (.ref 0), some (.ref 2), some (.ref 25), some (.int (nI i))] [] M cs ss := by
  obtain ⟨z, PC, P, hc, hr, hcl⟩ := p_take hC (xs (i + 1)) (xs (i + 2)) (xs (i + 3))
  refine aw_aload1 399 dL_law_399 ?_
  refine aw_aload0 400 dL_law_400 ?_
  refine aw_iload3 401 dL_law_401 ?_
  refine aw_ic1 402 dL_law_402 ?_
  refine aw_iaddN 403 (i) (1) dL_law_403 rfl rfl ?_
  refine ar_ld 404 (i + 1) dL_law_404 hX rfl (show i + 1 < L by omega) (by omega) ?_
  refine aw_aload0 405 dL_law_405 ?_
  refine aw_iload3 406 dL_law_406 ?_
  refine aw_ic2 407 dL_law_407 ?_
  refine aw_iaddN 408 (i) (2) dL_law_408 rfl rfl ?_
  refine ar_ld 409 (i + 2) dL_law_409 hX rfl (show i + 2 < L by omega) (by omega) ?_
  refine aw_aload0 410 dL_law_410 ?_
  refine aw_iload3 411 dL_law_411 ?_
  refine aw_ic3 412 dL_law_412 ?_
  refine aw_iaddN 413 (i) (3) dL_law_413 rfl rfl ?_
  refine ar_ld 414 (i + 3) dL_law_414 hX rfl (show i + 3 < L by omega) (by omega) ?_
  refine lw_c 415 dL_law_415 hc ckV_RL_37 cd_X11_take hC.xo.1 vc11 rfl rfl (Nat.le_of_ble_eq_true rfl) ⟨⟨by decide, by decide⟩, by show cs + 1 ≤ 772320; omega, by show ss + 3 ≤ 6785288; omega⟩ (fun M hPC => ?_)
  obtain ⟨hKr, hfin⟩ := hcl M hPC
  replace hW := hW.kr hKr
  replace hX := hX.kr hKr
  clear hKr
  refine aw_aload2 418 dL_law_418 ?_
  refine aw_aload0 419 dL_law_419 ?_
  refine aw_iload3 420 dL_law_420 ?_
  refine aw_ic1 421 dL_law_421 ?_
  refine aw_iaddN 422 (i) (1) dL_law_422 rfl rfl ?_
  refine ar_ld 423 (i + 1) dL_law_423 hX rfl (show i + 1 < L by omega) (by omega) ?_
  refine aw_aload0 424 dL_law_424 ?_
  refine aw_iload3 425 dL_law_425 ?_
  refine aw_ic2 426 dL_law_426 ?_
  refine aw_iaddN 427 (i) (2) dL_law_427 rfl rfl ?_
  refine ar_ld 428 (i + 2) dL_law_428 hX rfl (show i + 2 < L by omega) (by omega) ?_
  refine aw_aload0 429 dL_law_429 ?_
  refine aw_iload3 430 dL_law_430 ?_
  refine aw_ic3 431 dL_law_431 ?_
  refine aw_iaddN 432 (i) (3) dL_law_432 rfl rfl ?_
  refine ar_ld 433 (i + 3) dL_law_433 hX rfl (show i + 3 < L by omega) (by omega) ?_
  refine rp_call1 434 dL_law_434 hr ckV_RL_40 cd_X12_take rfl ⟨hW, Off.rf _⟩ rfl (Nat.le_of_ble_eq_true rfl) ⟨⟨by decide, by decide⟩, by show cs + 1 + 0 ≤ 772320; omega, by show ss + 3 + 0 ≤ 6785288; omega⟩ rfl (fun ρ M hP hRO => ?_)
  obtain ⟨α', hC'⟩ := hfin ρ hP
  replace hC' := hC'.off hRO.2
  replace hX := hX.off hRO.2
  refine aw_icmp_eq 437 1621 dL_law_437 (by decide) (fun _ => ?_) (fun q => absurd rfl q)
  exact kk ρ α' M _ _ hC' hRO.1 hX (by show cs + 1 ≤ cs + 2; omega) (by show ss + 3 ≤ ss + 21; omega)

set_option maxHeartbeats 4000000 in
set_option maxRecDepth 100000 in
theorem k_hush {Q : Option Value → Mem → Prop} {σ : TT} {α : AT} {M : Mem} {L i cs ss : Nat} {xs : Nat → Int32} (hC : CW σ α M) (hW : RW σ M) (hX : AR M 0 L xs) (hL : L ≤ 4608) (hi : i + 9 ≤ L) (hcs : cs + 2 ≤ 772320) (hss : ss + 21 ≤ 6785288)
    (kk : ∀ ρ α' M' cs' ss', CW ρ α' M' → RW ρ M' → AR M' 0 L xs → cs' ≤ cs + 2 → ss' ≤ ss + 21 → AW mL_law room_1 Q 1621 [some (.ref 0), some (.ref 2), some (.ref 25), some (.int (nI i))] [] M' cs' ss') : AW mL_law room_1 Q 442 [some (.ref 0), some (.ref 2), some (.ref 25), some (.int (nI i))] [] M cs ss := by
  obtain ⟨z, PC, P, hc, hr, hcl⟩ := p_hush hC (xs (i + 1)) (xs (i + 2)) (xs (i + 3)) (xs (i + 4))
  refine aw_aload1 442 dL_law_442 ?_
  refine aw_aload0 443 dL_law_443 ?_
  refine aw_iload3 444 dL_law_444 ?_
  refine aw_ic1 445 dL_law_445 ?_
  refine aw_iaddN 446 (i) (1) dL_law_446 rfl rfl ?_
  refine ar_ld 447 (i + 1) dL_law_447 hX rfl (show i + 1 < L by omega) (by omega) ?_
  refine aw_aload0 448 dL_law_448 ?_
  refine aw_iload3 449 dL_law_449 ?_
  refine aw_ic2 450 dL_law_450 ?_
  refine aw_iaddN 451 (i) (2) dL_law_451 rfl rfl ?_
  refine ar_ld 452 (i + 2) dL_law_452 hX rfl (show i + 2 < L by omega) (by omega) ?_
  refine aw_aload0 453 dL_law_453 ?_
  refine aw_iload3 454 dL_law_454 ?_
  refine aw_ic3 455 dL_law_455 ?_
  refine aw_iaddN 456 (i) (3) dL_law_456 rfl rfl ?_
  refine ar_ld 457 (i + 3) dL_law_457 hX rfl (show i + 3 < L by omega) (by omega) ?_
  refine aw_aload0 458 dL_law_458 ?_
  refine aw_iload3 459 dL_law_459 ?_
  refine aw_ic4 460 dL_law_460 ?_
  refine aw_iaddN 461 (i) (4) dL_law_461 rfl rfl ?_
  refine ar_ld 462 (i + 4) dL_law_462 hX rfl (show i + 4 < L by omega) (by omega) ?_
  refine lw_c 463 dL_law_463 hc ckV_RL_41 cd_X11_hush hC.xo.1 vc11 rfl rfl (Nat.le_of_ble_eq_true rfl) ⟨⟨by decide, by decide⟩, by show cs + 1 ≤ 772320; omega, by show ss + 5 ≤ 6785288; omega⟩ (fun M hPC => ?_)
  obtain ⟨hKr, hfin⟩ := hcl M hPC
  replace hW := hW.kr hKr
  replace hX := hX.kr hKr
  clear hKr
  refine aw_aload2 466 dL_law_466 ?_
  refine aw_aload0 467 dL_law_467 ?_
  refine aw_iload3 468 dL_law_468 ?_
  refine aw_ic1 469 dL_law_469 ?_
  refine aw_iaddN 470 (i) (1) dL_law_470 rfl rfl ?_
  refine ar_ld 471 (i + 1) dL_law_471 hX rfl (show i + 1 < L by omega) (by omega) ?_
  refine aw_aload0 472 dL_law_472 ?_
  refine aw_iload3 473 dL_law_473 ?_
  refine aw_ic2 474 dL_law_474 ?_
  refine aw_iaddN 475 (i) (2) dL_law_475 rfl rfl ?_
  refine ar_ld 476 (i + 2) dL_law_476 hX rfl (show i + 2 < L by omega) (by omega) ?_
  refine aw_aload0 477 dL_law_477 ?_
  refine aw_iload3 478 dL_law_478 ?_
  refine aw_ic3 479 dL_law_479 ?_
  refine aw_iaddN 480 (i) (3) dL_law_480 rfl rfl ?_
  refine ar_ld 481 (i + 3) dL_law_481 hX rfl (show i + 3 < L by omega) (by omega) ?_
  refine aw_aload0 482 dL_law_482 ?_
  refine aw_iload3 483 dL_law_483 ?_
  refine aw_ic4 484 dL_law_484 ?_
  refine aw_iaddN 485 (i) (4) dL_law_485 rfl rfl ?_
  refine ar_ld 486 (i + 4) dL_law_486 hX rfl (show i + 4 < L by omega) (by omega) ?_
  refine rp_call1 487 dL_law_487 hr ckV_RL_45 cd_X12_hush rfl ⟨hW, Off.rf _⟩ rfl (Nat.le_of_ble_eq_true rfl) ⟨⟨by decide, by decide⟩, by show cs + 1 + 0 ≤ 772320; omega, by show ss + 5 + 0 ≤ 6785288; omega⟩ rfl (fun ρ M hP hRO => ?_)
  obtain ⟨α', hC'⟩ := hfin ρ hP
  replace hC' := hC'.off hRO.2
  replace hX := hX.off hRO.2
  refine aw_icmp_eq 490 1621 dL_law_490 (by decide) (fun _ => ?_) (fun q => absurd rfl q)
  exact kk ρ α' M _ _ hC' hRO.1 hX (by show cs + 1 ≤ cs + 2; omega) (by show ss + 5 ≤ ss + 21; omega)

set_option maxHeartbeats 4000000 in
set_option maxRecDepth 100000 in
theorem k_change {Q : Option Value → Mem → Prop} {σ : TT} {α : AT} {M : Mem} {L i cs ss : Nat} {xs : Nat → Int32} (hC : CW σ α M) (hW : RW σ M) (hX : AR M 0 L xs) (hL : L ≤ 4608) (hi : i + 9 ≤ L) (hcs : cs + 2 ≤ 772320) (hss : ss + 21 ≤ 6785288)
    (kk : ∀ ρ α' M' cs' ss', CW ρ α' M' → RW ρ M' → AR M' 0 L xs → cs' ≤ cs + 2 → ss' ≤ ss + 21 → AW mL_law room_1 Q 1621 [some (.ref 0), some (.ref 2), some (.ref 25), some (.int (nI i))] [] M' cs' ss') : AW mL_law room_1 Q 495 [some (.ref 0), some (.ref 2), some (.ref 25), some (.int (nI i))] [] M cs ss := by
  obtain ⟨z, PC, P, hc, hr, hcl⟩ := p_change hC (xs (i + 1)) (xs (i + 2)) (xs (i + 3)) (xs (i + 4)) (xs (i + 5)) (xs (i + 6)) (xs (i + 7)) (xs (i + 8))
  refine aw_aload1 495 dL_law_495 ?_
  refine aw_aload0 496 dL_law_496 ?_
  refine aw_iload3 497 dL_law_497 ?_
  refine aw_ic1 498 dL_law_498 ?_
  refine aw_iaddN 499 (i) (1) dL_law_499 rfl rfl ?_
  refine ar_ld 500 (i + 1) dL_law_500 hX rfl (show i + 1 < L by omega) (by omega) ?_
  refine aw_aload0 501 dL_law_501 ?_
  refine aw_iload3 502 dL_law_502 ?_
  refine aw_ic2 503 dL_law_503 ?_
  refine aw_iaddN 504 (i) (2) dL_law_504 rfl rfl ?_
  refine ar_ld 505 (i + 2) dL_law_505 hX rfl (show i + 2 < L by omega) (by omega) ?_
  refine aw_aload0 506 dL_law_506 ?_
  refine aw_iload3 507 dL_law_507 ?_
  refine aw_ic3 508 dL_law_508 ?_
  refine aw_iaddN 509 (i) (3) dL_law_509 rfl rfl ?_
  refine ar_ld 510 (i + 3) dL_law_510 hX rfl (show i + 3 < L by omega) (by omega) ?_
  refine aw_aload0 511 dL_law_511 ?_
  refine aw_iload3 512 dL_law_512 ?_
  refine aw_ic4 513 dL_law_513 ?_
  refine aw_iaddN 514 (i) (4) dL_law_514 rfl rfl ?_
  refine ar_ld 515 (i + 4) dL_law_515 hX rfl (show i + 4 < L by omega) (by omega) ?_
  refine aw_aload0 516 dL_law_516 ?_
  refine aw_iload3 517 dL_law_517 ?_
  refine aw_ic5 518 dL_law_518 ?_
  refine aw_iaddN 519 (i) (5) dL_law_519 rfl rfl ?_
  refine ar_ld 520 (i + 5) dL_law_520 hX rfl (show i + 5 < L by omega) (by omega) ?_
  refine aw_aload0 521 dL_law_521 ?_
  refine aw_iload3 522 dL_law_522 ?_
  refine aw_bipush 523 6 dL_law_523 (by decide) ?_
  refine aw_iaddN 525 (i) (6) dL_law_525 rfl rfl ?_
  refine ar_ld 526 (i + 6) dL_law_526 hX rfl (show i + 6 < L by omega) (by omega) ?_
  refine aw_aload0 527 dL_law_527 ?_
  refine aw_iload3 528 dL_law_528 ?_
  refine aw_bipush 529 7 dL_law_529 (by decide) ?_
  refine aw_iaddN 531 (i) (7) dL_law_531 rfl rfl ?_
  refine ar_ld 532 (i + 7) dL_law_532 hX rfl (show i + 7 < L by omega) (by omega) ?_
  refine aw_aload0 533 dL_law_533 ?_
  refine aw_iload3 534 dL_law_534 ?_
  refine aw_bipush 535 8 dL_law_535 (by decide) ?_
  refine aw_iaddN 537 (i) (8) dL_law_537 rfl rfl ?_
  refine ar_ld 538 (i + 8) dL_law_538 hX rfl (show i + 8 < L by omega) (by omega) ?_
  refine lw_c 539 dL_law_539 hc ckV_RL_46 cd_X11_change hC.xo.1 vc11 rfl rfl (Nat.le_of_ble_eq_true rfl) ⟨⟨by decide, by decide⟩, by show cs + 2 ≤ 772320; omega, by show ss + 10 ≤ 6785288; omega⟩ (fun M hPC => ?_)
  obtain ⟨hKr, hfin⟩ := hcl M hPC
  replace hW := hW.kr hKr
  replace hX := hX.kr hKr
  clear hKr
  refine aw_aload2 542 dL_law_542 ?_
  refine aw_aload0 543 dL_law_543 ?_
  refine aw_iload3 544 dL_law_544 ?_
  refine aw_ic1 545 dL_law_545 ?_
  refine aw_iaddN 546 (i) (1) dL_law_546 rfl rfl ?_
  refine ar_ld 547 (i + 1) dL_law_547 hX rfl (show i + 1 < L by omega) (by omega) ?_
  refine aw_aload0 548 dL_law_548 ?_
  refine aw_iload3 549 dL_law_549 ?_
  refine aw_ic2 550 dL_law_550 ?_
  refine aw_iaddN 551 (i) (2) dL_law_551 rfl rfl ?_
  refine ar_ld 552 (i + 2) dL_law_552 hX rfl (show i + 2 < L by omega) (by omega) ?_
  refine aw_aload0 553 dL_law_553 ?_
  refine aw_iload3 554 dL_law_554 ?_
  refine aw_ic3 555 dL_law_555 ?_
  refine aw_iaddN 556 (i) (3) dL_law_556 rfl rfl ?_
  refine ar_ld 557 (i + 3) dL_law_557 hX rfl (show i + 3 < L by omega) (by omega) ?_
  refine aw_aload0 558 dL_law_558 ?_
  refine aw_iload3 559 dL_law_559 ?_
  refine aw_ic4 560 dL_law_560 ?_
  refine aw_iaddN 561 (i) (4) dL_law_561 rfl rfl ?_
  refine ar_ld 562 (i + 4) dL_law_562 hX rfl (show i + 4 < L by omega) (by omega) ?_
  refine aw_aload0 563 dL_law_563 ?_
  refine aw_iload3 564 dL_law_564 ?_
  refine aw_ic5 565 dL_law_565 ?_
  refine aw_iaddN 566 (i) (5) dL_law_566 rfl rfl ?_
  refine ar_ld 567 (i + 5) dL_law_567 hX rfl (show i + 5 < L by omega) (by omega) ?_
  refine aw_aload0 568 dL_law_568 ?_
  refine aw_iload3 569 dL_law_569 ?_
  refine aw_bipush 570 6 dL_law_570 (by decide) ?_
  refine aw_iaddN 572 (i) (6) dL_law_572 rfl rfl ?_
  refine ar_ld 573 (i + 6) dL_law_573 hX rfl (show i + 6 < L by omega) (by omega) ?_
  refine aw_aload0 574 dL_law_574 ?_
  refine aw_iload3 575 dL_law_575 ?_
  refine aw_bipush 576 7 dL_law_576 (by decide) ?_
  refine aw_iaddN 578 (i) (7) dL_law_578 rfl rfl ?_
  refine ar_ld 579 (i + 7) dL_law_579 hX rfl (show i + 7 < L by omega) (by omega) ?_
  refine aw_aload0 580 dL_law_580 ?_
  refine aw_iload3 581 dL_law_581 ?_
  refine aw_bipush 582 8 dL_law_582 (by decide) ?_
  refine aw_iaddN 584 (i) (8) dL_law_584 rfl rfl ?_
  refine ar_ld 585 (i + 8) dL_law_585 hX rfl (show i + 8 < L by omega) (by omega) ?_
  refine rp_call1 586 dL_law_586 hr ckV_RL_50 cd_X12_change rfl ⟨hW, Off.rf _⟩ rfl (Nat.le_of_ble_eq_true rfl) ⟨⟨by decide, by decide⟩, by show cs + 2 + 0 ≤ 772320; omega, by show ss + 10 + 0 ≤ 6785288; omega⟩ rfl (fun ρ M hP hRO => ?_)
  obtain ⟨α', hC'⟩ := hfin ρ hP
  replace hC' := hC'.off hRO.2
  replace hX := hX.off hRO.2
  refine aw_icmp_eq 589 1621 dL_law_589 (by decide) (fun _ => ?_) (fun q => absurd rfl q)
  exact kk ρ α' M _ _ hC' hRO.1 hX (by show cs + 2 ≤ cs + 2; omega) (by show ss + 10 ≤ ss + 21; omega)

set_option maxHeartbeats 4000000 in
set_option maxRecDepth 100000 in
theorem k_act {Q : Option Value → Mem → Prop} {σ : TT} {α : AT} {M : Mem} {L i cs ss : Nat} {xs : Nat → Int32} (hC : CW σ α M) (hW : RW σ M) (hX : AR M 0 L xs) (hL : L ≤ 4608) (hi : i + 9 ≤ L) (hcs : cs + 2 ≤ 772320) (hss : ss + 21 ≤ 6785288)
    (kk : ∀ ρ α' M' cs' ss', CW ρ α' M' → RW ρ M' → AR M' 0 L xs → cs' ≤ cs + 2 → ss' ≤ ss + 21 → AW mL_law room_1 Q 1621 [some (.ref 0), some (.ref 2), some (.ref 25), some (.int (nI i))] [] M' cs' ss') : AW mL_law room_1 Q 594 [some (.ref 0), some (.ref 2), some (.ref 25), some (.int (nI i))] [] M cs ss := by
  obtain ⟨z, PC, P, hc, hr, hcl⟩ := p_act hC (xs (i + 1)) (xs (i + 2)) (xs (i + 3)) (xs (i + 4)) (xs (i + 5))
  refine aw_aload1 594 dL_law_594 ?_
  refine aw_aload0 595 dL_law_595 ?_
  refine aw_iload3 596 dL_law_596 ?_
  refine aw_ic1 597 dL_law_597 ?_
  refine aw_iaddN 598 (i) (1) dL_law_598 rfl rfl ?_
  refine ar_ld 599 (i + 1) dL_law_599 hX rfl (show i + 1 < L by omega) (by omega) ?_
  refine aw_aload0 600 dL_law_600 ?_
  refine aw_iload3 601 dL_law_601 ?_
  refine aw_ic2 602 dL_law_602 ?_
  refine aw_iaddN 603 (i) (2) dL_law_603 rfl rfl ?_
  refine ar_ld 604 (i + 2) dL_law_604 hX rfl (show i + 2 < L by omega) (by omega) ?_
  refine aw_aload0 605 dL_law_605 ?_
  refine aw_iload3 606 dL_law_606 ?_
  refine aw_ic3 607 dL_law_607 ?_
  refine aw_iaddN 608 (i) (3) dL_law_608 rfl rfl ?_
  refine ar_ld 609 (i + 3) dL_law_609 hX rfl (show i + 3 < L by omega) (by omega) ?_
  refine aw_aload0 610 dL_law_610 ?_
  refine aw_iload3 611 dL_law_611 ?_
  refine aw_ic4 612 dL_law_612 ?_
  refine aw_iaddN 613 (i) (4) dL_law_613 rfl rfl ?_
  refine ar_ld 614 (i + 4) dL_law_614 hX rfl (show i + 4 < L by omega) (by omega) ?_
  refine aw_aload0 615 dL_law_615 ?_
  refine aw_iload3 616 dL_law_616 ?_
  refine aw_ic5 617 dL_law_617 ?_
  refine aw_iaddN 618 (i) (5) dL_law_618 rfl rfl ?_
  refine ar_ld 619 (i + 5) dL_law_619 hX rfl (show i + 5 < L by omega) (by omega) ?_
  refine lw_c 620 dL_law_620 hc ckV_RL_51 cd_X11_act hC.xo.1 vc11 rfl rfl (Nat.le_of_ble_eq_true rfl) ⟨⟨by decide, by decide⟩, by show cs + 2 ≤ 772320; omega, by show ss + 21 ≤ 6785288; omega⟩ (fun M hPC => ?_)
  obtain ⟨hKr, hfin⟩ := hcl M hPC
  replace hW := hW.kr hKr
  replace hX := hX.kr hKr
  clear hKr
  refine aw_aload2 623 dL_law_623 ?_
  refine aw_aload0 624 dL_law_624 ?_
  refine aw_iload3 625 dL_law_625 ?_
  refine aw_ic1 626 dL_law_626 ?_
  refine aw_iaddN 627 (i) (1) dL_law_627 rfl rfl ?_
  refine ar_ld 628 (i + 1) dL_law_628 hX rfl (show i + 1 < L by omega) (by omega) ?_
  refine aw_aload0 629 dL_law_629 ?_
  refine aw_iload3 630 dL_law_630 ?_
  refine aw_ic2 631 dL_law_631 ?_
  refine aw_iaddN 632 (i) (2) dL_law_632 rfl rfl ?_
  refine ar_ld 633 (i + 2) dL_law_633 hX rfl (show i + 2 < L by omega) (by omega) ?_
  refine aw_aload0 634 dL_law_634 ?_
  refine aw_iload3 635 dL_law_635 ?_
  refine aw_ic3 636 dL_law_636 ?_
  refine aw_iaddN 637 (i) (3) dL_law_637 rfl rfl ?_
  refine ar_ld 638 (i + 3) dL_law_638 hX rfl (show i + 3 < L by omega) (by omega) ?_
  refine aw_aload0 639 dL_law_639 ?_
  refine aw_iload3 640 dL_law_640 ?_
  refine aw_ic4 641 dL_law_641 ?_
  refine aw_iaddN 642 (i) (4) dL_law_642 rfl rfl ?_
  refine ar_ld 643 (i + 4) dL_law_643 hX rfl (show i + 4 < L by omega) (by omega) ?_
  refine aw_aload0 644 dL_law_644 ?_
  refine aw_iload3 645 dL_law_645 ?_
  refine aw_ic5 646 dL_law_646 ?_
  refine aw_iaddN 647 (i) (5) dL_law_647 rfl rfl ?_
  refine ar_ld 648 (i + 5) dL_law_648 hX rfl (show i + 5 < L by omega) (by omega) ?_
  refine rp_call1 649 dL_law_649 hr ckV_RL_54 cd_X12_act rfl ⟨hW, Off.rf _⟩ rfl (Nat.le_of_ble_eq_true rfl) ⟨⟨by decide, by decide⟩, by show cs + 2 + 0 ≤ 772320; omega, by show ss + 21 + 0 ≤ 6785288; omega⟩ rfl (fun ρ M hP hRO => ?_)
  obtain ⟨α', hC'⟩ := hfin ρ hP
  replace hC' := hC'.off hRO.2
  replace hX := hX.off hRO.2
  refine aw_icmp_eq 652 1621 dL_law_652 (by decide) (fun _ => ?_) (fun q => absurd rfl q)
  exact kk ρ α' M _ _ hC' hRO.1 hX (by show cs + 2 ≤ cs + 2; omega) (by show ss + 21 ≤ ss + 21; omega)

set_option maxHeartbeats 4000000 in
set_option maxRecDepth 100000 in
theorem k_tear {Q : Option Value → Mem → Prop} {σ : TT} {α : AT} {M : Mem} {L i cs ss : Nat} {xs : Nat → Int32} (hC : CW σ α M) (hW : RW σ M) (hX : AR M 0 L xs) (hL : L ≤ 4608) (hi : i + 9 ≤ L) (hcs : cs + 2 ≤ 772320) (hss : ss + 21 ≤ 6785288)
    (kk : ∀ ρ α' M' cs' ss', CW ρ α' M' → RW ρ M' → AR M' 0 L xs → cs' ≤ cs + 2 → ss' ≤ ss + 21 → AW mL_law room_1 Q 1621 [some (.ref 0), some (.ref 2), some (.ref 25), some (.int (nI i))] [] M' cs' ss') : AW mL_law room_1 Q 657 [some (.ref 0), some (.ref 2), some (.ref 25), some (.int (nI i))] [] M cs ss := by
  obtain ⟨z, PC, P, hc, hr, hcl⟩ := p_tear hC (xs (i + 1))
  refine aw_aload1 657 dL_law_657 ?_
  refine aw_aload0 658 dL_law_658 ?_
  refine aw_iload3 659 dL_law_659 ?_
  refine aw_ic1 660 dL_law_660 ?_
  refine aw_iaddN 661 (i) (1) dL_law_661 rfl rfl ?_
  refine ar_ld 662 (i + 1) dL_law_662 hX rfl (show i + 1 < L by omega) (by omega) ?_
  refine lw_c 663 dL_law_663 hc ckV_RL_55 cd_X11_tear hC.xo.1 vc11 rfl rfl (Nat.le_of_ble_eq_true rfl) ⟨⟨by decide, by decide⟩, by show cs + 0 ≤ 772320; omega, by show ss + 0 ≤ 6785288; omega⟩ (fun M hPC => ?_)
  obtain ⟨hKr, hfin⟩ := hcl M hPC
  replace hW := hW.kr hKr
  replace hX := hX.kr hKr
  clear hKr
  refine aw_aload2 666 dL_law_666 ?_
  refine aw_aload0 667 dL_law_667 ?_
  refine aw_iload3 668 dL_law_668 ?_
  refine aw_ic1 669 dL_law_669 ?_
  refine aw_iaddN 670 (i) (1) dL_law_670 rfl rfl ?_
  refine ar_ld 671 (i + 1) dL_law_671 hX rfl (show i + 1 < L by omega) (by omega) ?_
  refine rp_call1 672 dL_law_672 hr ckV_RL_58 cd_X12_tear rfl ⟨hW, Off.rf _⟩ rfl (Nat.le_of_ble_eq_true rfl) ⟨⟨by decide, by decide⟩, by show cs + 0 + 0 ≤ 772320; omega, by show ss + 0 + 0 ≤ 6785288; omega⟩ rfl (fun ρ M hP hRO => ?_)
  obtain ⟨α', hC'⟩ := hfin ρ hP
  replace hC' := hC'.off hRO.2
  replace hX := hX.off hRO.2
  refine aw_icmp_eq 675 1621 dL_law_675 (by decide) (fun _ => ?_) (fun q => absurd rfl q)
  exact kk ρ α' M _ _ hC' hRO.1 hX (by show cs + 0 ≤ cs + 2; omega) (by show ss + 0 ≤ ss + 21; omega)

set_option maxHeartbeats 4000000 in
set_option maxRecDepth 100000 in
theorem k_line {Q : Option Value → Mem → Prop} {σ : TT} {α : AT} {M : Mem} {L i cs ss : Nat} {xs : Nat → Int32} (hC : CW σ α M) (hW : RW σ M) (hX : AR M 0 L xs) (hL : L ≤ 4608) (hi : i + 9 ≤ L) (hcs : cs + 2 ≤ 772320) (hss : ss + 21 ≤ 6785288)
    (kk : ∀ ρ α' M' cs' ss', CW ρ α' M' → RW ρ M' → AR M' 0 L xs → cs' ≤ cs + 2 → ss' ≤ ss + 21 → AW mL_law room_1 Q 1621 [some (.ref 0), some (.ref 2), some (.ref 25), some (.int (nI i))] [] M' cs' ss') : AW mL_law room_1 Q 680 [some (.ref 0), some (.ref 2), some (.ref 25), some (.int (nI i))] [] M cs ss := by
  obtain ⟨z, PC, P, hc, hr, hcl⟩ := p_line hC (xs (i + 1)) (xs (i + 2))
  refine aw_aload1 680 dL_law_680 ?_
  refine aw_aload0 681 dL_law_681 ?_
  refine aw_iload3 682 dL_law_682 ?_
  refine aw_ic1 683 dL_law_683 ?_
  refine aw_iaddN 684 (i) (1) dL_law_684 rfl rfl ?_
  refine ar_ld 685 (i + 1) dL_law_685 hX rfl (show i + 1 < L by omega) (by omega) ?_
  refine aw_aload0 686 dL_law_686 ?_
  refine aw_iload3 687 dL_law_687 ?_
  refine aw_ic2 688 dL_law_688 ?_
  refine aw_iaddN 689 (i) (2) dL_law_689 rfl rfl ?_
  refine ar_ld 690 (i + 2) dL_law_690 hX rfl (show i + 2 < L by omega) (by omega) ?_
  refine lw_c 691 dL_law_691 hc ckV_RL_59 cd_X11_line hC.xo.1 vc11 rfl rfl (Nat.le_of_ble_eq_true rfl) ⟨⟨by decide, by decide⟩, by show cs + 0 ≤ 772320; omega, by show ss + 0 ≤ 6785288; omega⟩ (fun M hPC => ?_)
  obtain ⟨hKr, hfin⟩ := hcl M hPC
  replace hW := hW.kr hKr
  replace hX := hX.kr hKr
  clear hKr
  refine aw_aload2 694 dL_law_694 ?_
  refine aw_aload0 695 dL_law_695 ?_
  refine aw_iload3 696 dL_law_696 ?_
  refine aw_ic1 697 dL_law_697 ?_
  refine aw_iaddN 698 (i) (1) dL_law_698 rfl rfl ?_
  refine ar_ld 699 (i + 1) dL_law_699 hX rfl (show i + 1 < L by omega) (by omega) ?_
  refine aw_aload0 700 dL_law_700 ?_
  refine aw_iload3 701 dL_law_701 ?_
  refine aw_ic2 702 dL_law_702 ?_
  refine aw_iaddN 703 (i) (2) dL_law_703 rfl rfl ?_
  refine ar_ld 704 (i + 2) dL_law_704 hX rfl (show i + 2 < L by omega) (by omega) ?_
  refine rp_call1 705 dL_law_705 hr ckV_RL_62 cd_X12_line rfl ⟨hW, Off.rf _⟩ rfl (Nat.le_of_ble_eq_true rfl) ⟨⟨by decide, by decide⟩, by show cs + 0 + 0 ≤ 772320; omega, by show ss + 0 + 0 ≤ 6785288; omega⟩ rfl (fun ρ M hP hRO => ?_)
  obtain ⟨α', hC'⟩ := hfin ρ hP
  replace hC' := hC'.off hRO.2
  replace hX := hX.off hRO.2
  refine aw_icmp_eq 708 1621 dL_law_708 (by decide) (fun _ => ?_) (fun q => absurd rfl q)
  exact kk ρ α' M _ _ hC' hRO.1 hX (by show cs + 0 ≤ cs + 2; omega) (by show ss + 0 ≤ ss + 21; omega)

set_option maxHeartbeats 4000000 in
set_option maxRecDepth 100000 in
theorem k_speaks {Q : Option Value → Mem → Prop} {σ : TT} {α : AT} {M : Mem} {L i cs ss : Nat} {xs : Nat → Int32} (hC : CW σ α M) (hW : RW σ M) (hX : AR M 0 L xs) (hL : L ≤ 4608) (hi : i + 9 ≤ L) (hcs : cs + 2 ≤ 772320) (hss : ss + 21 ≤ 6785288)
    (kk : ∀ ρ α' M' cs' ss', CW ρ α' M' → RW ρ M' → AR M' 0 L xs → cs' ≤ cs + 2 → ss' ≤ ss + 21 → AW mL_law room_1 Q 1621 [some (.ref 0), some (.ref 2), some (.ref 25), some (.int (nI i))] [] M' cs' ss') : AW mL_law room_1 Q 713 [some (.ref 0), some (.ref 2), some (.ref 25), some (.int (nI i))] [] M cs ss := by
  obtain ⟨z, PC, P, hc, hr, hcl⟩ := p_speaks hC (xs (i + 1))
  refine aw_aload1 713 dL_law_713 ?_
  refine aw_aload0 714 dL_law_714 ?_
  refine aw_iload3 715 dL_law_715 ?_
  refine aw_ic1 716 dL_law_716 ?_
  refine aw_iaddN 717 (i) (1) dL_law_717 rfl rfl ?_
  refine ar_ld 718 (i + 1) dL_law_718 hX rfl (show i + 1 < L by omega) (by omega) ?_
  refine lw_c 719 dL_law_719 hc ckV_RL_63 cd_X11_speaks hC.xo.1 vc11 rfl rfl (Nat.le_of_ble_eq_true rfl) ⟨⟨by decide, by decide⟩, by show cs + 0 ≤ 772320; omega, by show ss + 0 ≤ 6785288; omega⟩ (fun M hPC => ?_)
  obtain ⟨hKr, hfin⟩ := hcl M hPC
  replace hW := hW.kr hKr
  replace hX := hX.kr hKr
  clear hKr
  refine aw_aload2 722 dL_law_722 ?_
  refine aw_aload0 723 dL_law_723 ?_
  refine aw_iload3 724 dL_law_724 ?_
  refine aw_ic1 725 dL_law_725 ?_
  refine aw_iaddN 726 (i) (1) dL_law_726 rfl rfl ?_
  refine ar_ld 727 (i + 1) dL_law_727 hX rfl (show i + 1 < L by omega) (by omega) ?_
  refine rp_call1 728 dL_law_728 hr ckV_RL_66 cd_X12_speaks rfl ⟨hW, Off.rf _⟩ rfl (Nat.le_of_ble_eq_true rfl) ⟨⟨by decide, by decide⟩, by show cs + 0 + 0 ≤ 772320; omega, by show ss + 0 + 0 ≤ 6785288; omega⟩ rfl (fun ρ M hP hRO => ?_)
  obtain ⟨α', hC'⟩ := hfin ρ hP
  replace hC' := hC'.off hRO.2
  replace hX := hX.off hRO.2
  refine aw_icmp_eq 731 1621 dL_law_731 (by decide) (fun _ => ?_) (fun q => absurd rfl q)
  exact kk ρ α' M _ _ hC' hRO.1 hX (by show cs + 0 ≤ cs + 2; omega) (by show ss + 0 ≤ ss + 21; omega)

set_option maxHeartbeats 4000000 in
set_option maxRecDepth 100000 in
theorem k_play {Q : Option Value → Mem → Prop} {σ : TT} {α : AT} {M : Mem} {L i cs ss : Nat} {xs : Nat → Int32} (hC : CW σ α M) (hW : RW σ M) (hX : AR M 0 L xs) (hL : L ≤ 4608) (hi : i + 9 ≤ L) (hcs : cs + 2 ≤ 772320) (hss : ss + 21 ≤ 6785288)
    (kk : ∀ ρ α' M' cs' ss', CW ρ α' M' → RW ρ M' → AR M' 0 L xs → cs' ≤ cs + 2 → ss' ≤ ss + 21 → AW mL_law room_1 Q 1621 [some (.ref 0), some (.ref 2), some (.ref 25), some (.int (nI i))] [] M' cs' ss') : AW mL_law room_1 Q 736 [some (.ref 0), some (.ref 2), some (.ref 25), some (.int (nI i))] [] M cs ss := by
  obtain ⟨z, PC, P, hc, hr, hcl⟩ := p_play hC (xs (i + 1))
  refine aw_aload1 736 dL_law_736 ?_
  refine aw_aload0 737 dL_law_737 ?_
  refine aw_iload3 738 dL_law_738 ?_
  refine aw_ic1 739 dL_law_739 ?_
  refine aw_iaddN 740 (i) (1) dL_law_740 rfl rfl ?_
  refine ar_ld 741 (i + 1) dL_law_741 hX rfl (show i + 1 < L by omega) (by omega) ?_
  refine lw_c 742 dL_law_742 hc ckV_RL_67 cd_X11_play hC.xo.1 vc11 rfl rfl (Nat.le_of_ble_eq_true rfl) ⟨⟨by decide, by decide⟩, by show cs + 0 ≤ 772320; omega, by show ss + 0 ≤ 6785288; omega⟩ (fun M hPC => ?_)
  obtain ⟨hKr, hfin⟩ := hcl M hPC
  replace hW := hW.kr hKr
  replace hX := hX.kr hKr
  clear hKr
  refine aw_aload2 745 dL_law_745 ?_
  refine aw_aload0 746 dL_law_746 ?_
  refine aw_iload3 747 dL_law_747 ?_
  refine aw_ic1 748 dL_law_748 ?_
  refine aw_iaddN 749 (i) (1) dL_law_749 rfl rfl ?_
  refine ar_ld 750 (i + 1) dL_law_750 hX rfl (show i + 1 < L by omega) (by omega) ?_
  refine rp_call1 751 dL_law_751 hr ckV_RL_70 cd_X12_play rfl ⟨hW, Off.rf _⟩ rfl (Nat.le_of_ble_eq_true rfl) ⟨⟨by decide, by decide⟩, by show cs + 0 + 0 ≤ 772320; omega, by show ss + 0 + 0 ≤ 6785288; omega⟩ rfl (fun ρ M hP hRO => ?_)
  obtain ⟨α', hC'⟩ := hfin ρ hP
  replace hC' := hC'.off hRO.2
  replace hX := hX.off hRO.2
  refine aw_icmp_eq 754 1621 dL_law_754 (by decide) (fun _ => ?_) (fun q => absurd rfl q)
  exact kk ρ α' M _ _ hC' hRO.1 hX (by show cs + 0 ≤ cs + 2; omega) (by show ss + 0 ≤ ss + 21; omega)

set_option maxHeartbeats 4000000 in
set_option maxRecDepth 100000 in
theorem k_within {Q : Option Value → Mem → Prop} {σ : TT} {α : AT} {M : Mem} {L i cs ss : Nat} {xs : Nat → Int32} (hC : CW σ α M) (hW : RW σ M) (hX : AR M 0 L xs) (hL : L ≤ 4608) (hi : i + 9 ≤ L) (hcs : cs + 2 ≤ 772320) (hss : ss + 21 ≤ 6785288)
    (kk : ∀ ρ α' M' cs' ss', CW ρ α' M' → RW ρ M' → AR M' 0 L xs → cs' ≤ cs + 2 → ss' ≤ ss + 21 → AW mL_law room_1 Q 1621 [some (.ref 0), some (.ref 2), some (.ref 25), some (.int (nI i))] [] M' cs' ss') : AW mL_law room_1 Q 759 [some (.ref 0), some (.ref 2), some (.ref 25), some (.int (nI i))] [] M cs ss := by
  obtain ⟨z, PC, P, hc, hr, hcl⟩ := p_within hC (xs (i + 1))
  refine aw_aload1 759 dL_law_759 ?_
  refine aw_aload0 760 dL_law_760 ?_
  refine aw_iload3 761 dL_law_761 ?_
  refine aw_ic1 762 dL_law_762 ?_
  refine aw_iaddN 763 (i) (1) dL_law_763 rfl rfl ?_
  refine ar_ld 764 (i + 1) dL_law_764 hX rfl (show i + 1 < L by omega) (by omega) ?_
  refine lw_c 765 dL_law_765 hc ckV_RL_71 cd_X11_within hC.xo.1 vc11 rfl rfl (Nat.le_of_ble_eq_true rfl) ⟨⟨by decide, by decide⟩, by show cs + 0 ≤ 772320; omega, by show ss + 0 ≤ 6785288; omega⟩ (fun M hPC => ?_)
  obtain ⟨hKr, hfin⟩ := hcl M hPC
  replace hW := hW.kr hKr
  replace hX := hX.kr hKr
  clear hKr
  refine aw_aload2 768 dL_law_768 ?_
  refine aw_aload0 769 dL_law_769 ?_
  refine aw_iload3 770 dL_law_770 ?_
  refine aw_ic1 771 dL_law_771 ?_
  refine aw_iaddN 772 (i) (1) dL_law_772 rfl rfl ?_
  refine ar_ld 773 (i + 1) dL_law_773 hX rfl (show i + 1 < L by omega) (by omega) ?_
  refine rp_call1 774 dL_law_774 hr ckV_RL_74 cd_X12_within rfl ⟨hW, Off.rf _⟩ rfl (Nat.le_of_ble_eq_true rfl) ⟨⟨by decide, by decide⟩, by show cs + 0 + 0 ≤ 772320; omega, by show ss + 0 + 0 ≤ 6785288; omega⟩ rfl (fun ρ M hP hRO => ?_)
  obtain ⟨α', hC'⟩ := hfin ρ hP
  replace hC' := hC'.off hRO.2
  replace hX := hX.off hRO.2
  refine aw_icmp_eq 777 1621 dL_law_777 (by decide) (fun _ => ?_) (fun q => absurd rfl q)
  exact kk ρ α' M _ _ hC' hRO.1 hX (by show cs + 0 ≤ cs + 2; omega) (by show ss + 0 ≤ ss + 21; omega)

set_option maxHeartbeats 4000000 in
set_option maxRecDepth 100000 in
theorem k_way {Q : Option Value → Mem → Prop} {σ : TT} {α : AT} {M : Mem} {L i cs ss : Nat} {xs : Nat → Int32} (hC : CW σ α M) (hW : RW σ M) (hX : AR M 0 L xs) (hL : L ≤ 4608) (hi : i + 9 ≤ L) (hcs : cs + 2 ≤ 772320) (hss : ss + 21 ≤ 6785288)
    (kk : ∀ ρ α' M' cs' ss', CW ρ α' M' → RW ρ M' → AR M' 0 L xs → cs' ≤ cs + 2 → ss' ≤ ss + 21 → AW mL_law room_1 Q 1621 [some (.ref 0), some (.ref 2), some (.ref 25), some (.int (nI i))] [] M' cs' ss') : AW mL_law room_1 Q 782 [some (.ref 0), some (.ref 2), some (.ref 25), some (.int (nI i))] [] M cs ss := by
  obtain ⟨z, PC, P, hc, hr, hcl⟩ := p_way hC (xs (i + 1)) (xs (i + 2))
  refine aw_aload1 782 dL_law_782 ?_
  refine aw_aload0 783 dL_law_783 ?_
  refine aw_iload3 784 dL_law_784 ?_
  refine aw_ic1 785 dL_law_785 ?_
  refine aw_iaddN 786 (i) (1) dL_law_786 rfl rfl ?_
  refine ar_ld 787 (i + 1) dL_law_787 hX rfl (show i + 1 < L by omega) (by omega) ?_
  refine aw_aload0 788 dL_law_788 ?_
  refine aw_iload3 789 dL_law_789 ?_
  refine aw_ic2 790 dL_law_790 ?_
  refine aw_iaddN 791 (i) (2) dL_law_791 rfl rfl ?_
  refine ar_ld 792 (i + 2) dL_law_792 hX rfl (show i + 2 < L by omega) (by omega) ?_
  refine lw_c 793 dL_law_793 hc ckV_RL_75 cd_X11_way hC.xo.1 vc11 rfl rfl (Nat.le_of_ble_eq_true rfl) ⟨⟨by decide, by decide⟩, by show cs + 0 ≤ 772320; omega, by show ss + 0 ≤ 6785288; omega⟩ (fun M hPC => ?_)
  obtain ⟨hKr, hfin⟩ := hcl M hPC
  replace hW := hW.kr hKr
  replace hX := hX.kr hKr
  clear hKr
  refine aw_aload2 796 dL_law_796 ?_
  refine aw_aload0 797 dL_law_797 ?_
  refine aw_iload3 798 dL_law_798 ?_
  refine aw_ic1 799 dL_law_799 ?_
  refine aw_iaddN 800 (i) (1) dL_law_800 rfl rfl ?_
  refine ar_ld 801 (i + 1) dL_law_801 hX rfl (show i + 1 < L by omega) (by omega) ?_
  refine aw_aload0 802 dL_law_802 ?_
  refine aw_iload3 803 dL_law_803 ?_
  refine aw_ic2 804 dL_law_804 ?_
  refine aw_iaddN 805 (i) (2) dL_law_805 rfl rfl ?_
  refine ar_ld 806 (i + 2) dL_law_806 hX rfl (show i + 2 < L by omega) (by omega) ?_
  refine rp_call1 807 dL_law_807 hr ckV_RL_78 cd_X12_way rfl ⟨hW, Off.rf _⟩ rfl (Nat.le_of_ble_eq_true rfl) ⟨⟨by decide, by decide⟩, by show cs + 0 + 0 ≤ 772320; omega, by show ss + 0 + 0 ≤ 6785288; omega⟩ rfl (fun ρ M hP hRO => ?_)
  obtain ⟨α', hC'⟩ := hfin ρ hP
  replace hC' := hC'.off hRO.2
  replace hX := hX.off hRO.2
  refine aw_icmp_eq 810 1621 dL_law_810 (by decide) (fun _ => ?_) (fun q => absurd rfl q)
  exact kk ρ α' M _ _ hC' hRO.1 hX (by show cs + 0 ≤ cs + 2; omega) (by show ss + 0 ≤ ss + 21; omega)

set_option maxHeartbeats 4000000 in
set_option maxRecDepth 100000 in
theorem k_doubt {Q : Option Value → Mem → Prop} {σ : TT} {α : AT} {M : Mem} {L i cs ss : Nat} {xs : Nat → Int32} (hC : CW σ α M) (hW : RW σ M) (hX : AR M 0 L xs) (hL : L ≤ 4608) (hi : i + 9 ≤ L) (hcs : cs + 2 ≤ 772320) (hss : ss + 21 ≤ 6785288)
    (kk : ∀ ρ α' M' cs' ss', CW ρ α' M' → RW ρ M' → AR M' 0 L xs → cs' ≤ cs + 2 → ss' ≤ ss + 21 → AW mL_law room_1 Q 1621 [some (.ref 0), some (.ref 2), some (.ref 25), some (.int (nI i))] [] M' cs' ss') : AW mL_law room_1 Q 815 [some (.ref 0), some (.ref 2), some (.ref 25), some (.int (nI i))] [] M cs ss := by
  obtain ⟨z, PC, P, hc, hr, hcl⟩ := p_doubt hC (xs (i + 1))
  refine aw_aload1 815 dL_law_815 ?_
  refine aw_aload0 816 dL_law_816 ?_
  refine aw_iload3 817 dL_law_817 ?_
  refine aw_ic1 818 dL_law_818 ?_
  refine aw_iaddN 819 (i) (1) dL_law_819 rfl rfl ?_
  refine ar_ld 820 (i + 1) dL_law_820 hX rfl (show i + 1 < L by omega) (by omega) ?_
  refine lw_c 821 dL_law_821 hc ckV_RL_79 cd_X11_doubt hC.xo.1 vc11 rfl rfl (Nat.le_of_ble_eq_true rfl) ⟨⟨by decide, by decide⟩, by show cs + 0 ≤ 772320; omega, by show ss + 0 ≤ 6785288; omega⟩ (fun M hPC => ?_)
  obtain ⟨hKr, hfin⟩ := hcl M hPC
  replace hW := hW.kr hKr
  replace hX := hX.kr hKr
  clear hKr
  refine aw_aload2 824 dL_law_824 ?_
  refine aw_aload0 825 dL_law_825 ?_
  refine aw_iload3 826 dL_law_826 ?_
  refine aw_ic1 827 dL_law_827 ?_
  refine aw_iaddN 828 (i) (1) dL_law_828 rfl rfl ?_
  refine ar_ld 829 (i + 1) dL_law_829 hX rfl (show i + 1 < L by omega) (by omega) ?_
  refine rp_call1 830 dL_law_830 hr ckV_RL_82 cd_X12_doubt rfl ⟨hW, Off.rf _⟩ rfl (Nat.le_of_ble_eq_true rfl) ⟨⟨by decide, by decide⟩, by show cs + 0 + 0 ≤ 772320; omega, by show ss + 0 + 0 ≤ 6785288; omega⟩ rfl (fun ρ M hP hRO => ?_)
  obtain ⟨α', hC'⟩ := hfin ρ hP
  replace hC' := hC'.off hRO.2
  replace hX := hX.off hRO.2
  refine aw_icmp_eq 833 1621 dL_law_833 (by decide) (fun _ => ?_) (fun q => absurd rfl q)
  exact kk ρ α' M _ _ hC' hRO.1 hX (by show cs + 0 ≤ cs + 2; omega) (by show ss + 0 ≤ ss + 21; omega)

set_option maxHeartbeats 4000000 in
set_option maxRecDepth 100000 in
theorem k_whole {Q : Option Value → Mem → Prop} {σ : TT} {α : AT} {M : Mem} {L i cs ss : Nat} {xs : Nat → Int32} (hC : CW σ α M) (hW : RW σ M) (hX : AR M 0 L xs) (hL : L ≤ 4608) (hi : i + 9 ≤ L) (hcs : cs + 2 ≤ 772320) (hss : ss + 21 ≤ 6785288)
    (kk : ∀ ρ α' M' cs' ss', CW ρ α' M' → RW ρ M' → AR M' 0 L xs → cs' ≤ cs + 2 → ss' ≤ ss + 21 → AW mL_law room_1 Q 1621 [some (.ref 0), some (.ref 2), some (.ref 25), some (.int (nI i))] [] M' cs' ss') : AW mL_law room_1 Q 838 [some (.ref 0), some (.ref 2), some (.ref 25), some (.int (nI i))] [] M cs ss := by
  obtain ⟨z, PC, P, hc, hr, hcl⟩ := p_whole hC (xs (i + 1))
  refine aw_aload1 838 dL_law_838 ?_
  refine aw_aload0 839 dL_law_839 ?_
  refine aw_iload3 840 dL_law_840 ?_
  refine aw_ic1 841 dL_law_841 ?_
  refine aw_iaddN 842 (i) (1) dL_law_842 rfl rfl ?_
  refine ar_ld 843 (i + 1) dL_law_843 hX rfl (show i + 1 < L by omega) (by omega) ?_
  refine lw_c 844 dL_law_844 hc ckV_RL_83 cd_X11_whole hC.xo.1 vc11 rfl rfl (Nat.le_of_ble_eq_true rfl) ⟨⟨by decide, by decide⟩, by show cs + 0 ≤ 772320; omega, by show ss + 0 ≤ 6785288; omega⟩ (fun M hPC => ?_)
  obtain ⟨hKr, hfin⟩ := hcl M hPC
  replace hW := hW.kr hKr
  replace hX := hX.kr hKr
  clear hKr
  refine aw_aload2 847 dL_law_847 ?_
  refine aw_aload0 848 dL_law_848 ?_
  refine aw_iload3 849 dL_law_849 ?_
  refine aw_ic1 850 dL_law_850 ?_
  refine aw_iaddN 851 (i) (1) dL_law_851 rfl rfl ?_
  refine ar_ld 852 (i + 1) dL_law_852 hX rfl (show i + 1 < L by omega) (by omega) ?_
  refine rp_call1 853 dL_law_853 hr ckV_RL_86 cd_X12_whole rfl ⟨hW, Off.rf _⟩ rfl (Nat.le_of_ble_eq_true rfl) ⟨⟨by decide, by decide⟩, by show cs + 0 + 0 ≤ 772320; omega, by show ss + 0 + 0 ≤ 6785288; omega⟩ rfl (fun ρ M hP hRO => ?_)
  obtain ⟨α', hC'⟩ := hfin ρ hP
  replace hC' := hC'.off hRO.2
  replace hX := hX.off hRO.2
  refine aw_icmp_eq 856 1621 dL_law_856 (by decide) (fun _ => ?_) (fun q => absurd rfl q)
  exact kk ρ α' M _ _ hC' hRO.1 hX (by show cs + 0 ≤ cs + 2; omega) (by show ss + 0 ≤ ss + 21; omega)

set_option maxHeartbeats 4000000 in
set_option maxRecDepth 100000 in
theorem k_proof {Q : Option Value → Mem → Prop} {σ : TT} {α : AT} {M : Mem} {L i cs ss : Nat} {xs : Nat → Int32} (hC : CW σ α M) (hW : RW σ M) (hX : AR M 0 L xs) (hL : L ≤ 4608) (hi : i + 9 ≤ L) (hcs : cs + 2 ≤ 772320) (hss : ss + 21 ≤ 6785288)
    (kk : ∀ ρ α' M' cs' ss', CW ρ α' M' → RW ρ M' → AR M' 0 L xs → cs' ≤ cs + 2 → ss' ≤ ss + 21 → AW mL_law room_1 Q 1621 [some (.ref 0), some (.ref 2), some (.ref 25), some (.int (nI i))] [] M' cs' ss') : AW mL_law room_1 Q 861 [some (.ref 0), some (.ref 2), some (.ref 25), some (.int (nI i))] [] M cs ss := by
  obtain ⟨z, PC, P, hc, hr, hcl⟩ := p_proof hC (xs (i + 1)) (xs (i + 2)) (xs (i + 3))
  refine aw_aload1 861 dL_law_861 ?_
  refine aw_aload0 862 dL_law_862 ?_
  refine aw_iload3 863 dL_law_863 ?_
  refine aw_ic1 864 dL_law_864 ?_
  refine aw_iaddN 865 (i) (1) dL_law_865 rfl rfl ?_
  refine ar_ld 866 (i + 1) dL_law_866 hX rfl (show i + 1 < L by omega) (by omega) ?_
  refine aw_aload0 867 dL_law_867 ?_
  refine aw_iload3 868 dL_law_868 ?_
  refine aw_ic2 869 dL_law_869 ?_
  refine aw_iaddN 870 (i) (2) dL_law_870 rfl rfl ?_
  refine ar_ld 871 (i + 2) dL_law_871 hX rfl (show i + 2 < L by omega) (by omega) ?_
  refine aw_aload0 872 dL_law_872 ?_
  refine aw_iload3 873 dL_law_873 ?_
  refine aw_ic3 874 dL_law_874 ?_
  refine aw_iaddN 875 (i) (3) dL_law_875 rfl rfl ?_
  refine ar_ld 876 (i + 3) dL_law_876 hX rfl (show i + 3 < L by omega) (by omega) ?_
  refine lw_c 877 dL_law_877 hc ckV_RL_87 cd_X11_proof hC.xo.1 vc11 rfl rfl (Nat.le_of_ble_eq_true rfl) ⟨⟨by decide, by decide⟩, by show cs + 0 ≤ 772320; omega, by show ss + 0 ≤ 6785288; omega⟩ (fun M hPC => ?_)
  obtain ⟨hKr, hfin⟩ := hcl M hPC
  replace hW := hW.kr hKr
  replace hX := hX.kr hKr
  clear hKr
  refine aw_aload2 880 dL_law_880 ?_
  refine aw_aload0 881 dL_law_881 ?_
  refine aw_iload3 882 dL_law_882 ?_
  refine aw_ic1 883 dL_law_883 ?_
  refine aw_iaddN 884 (i) (1) dL_law_884 rfl rfl ?_
  refine ar_ld 885 (i + 1) dL_law_885 hX rfl (show i + 1 < L by omega) (by omega) ?_
  refine aw_aload0 886 dL_law_886 ?_
  refine aw_iload3 887 dL_law_887 ?_
  refine aw_ic2 888 dL_law_888 ?_
  refine aw_iaddN 889 (i) (2) dL_law_889 rfl rfl ?_
  refine ar_ld 890 (i + 2) dL_law_890 hX rfl (show i + 2 < L by omega) (by omega) ?_
  refine aw_aload0 891 dL_law_891 ?_
  refine aw_iload3 892 dL_law_892 ?_
  refine aw_ic3 893 dL_law_893 ?_
  refine aw_iaddN 894 (i) (3) dL_law_894 rfl rfl ?_
  refine ar_ld 895 (i + 3) dL_law_895 hX rfl (show i + 3 < L by omega) (by omega) ?_
  refine rp_call1 896 dL_law_896 hr ckV_RL_90 cd_X12_proof rfl ⟨hW, Off.rf _⟩ rfl (Nat.le_of_ble_eq_true rfl) ⟨⟨by decide, by decide⟩, by show cs + 0 + 0 ≤ 772320; omega, by show ss + 0 + 0 ≤ 6785288; omega⟩ rfl (fun ρ M hP hRO => ?_)
  obtain ⟨α', hC'⟩ := hfin ρ hP
  replace hC' := hC'.off hRO.2
  replace hX := hX.off hRO.2
  refine aw_icmp_eq 899 1621 dL_law_899 (by decide) (fun _ => ?_) (fun q => absurd rfl q)
  exact kk ρ α' M _ _ hC' hRO.1 hX (by show cs + 0 ≤ cs + 2; omega) (by show ss + 0 ≤ ss + 21; omega)

set_option maxHeartbeats 4000000 in
set_option maxRecDepth 100000 in
theorem k_proves {Q : Option Value → Mem → Prop} {σ : TT} {α : AT} {M : Mem} {L i cs ss : Nat} {xs : Nat → Int32} (hC : CW σ α M) (hW : RW σ M) (hX : AR M 0 L xs) (hL : L ≤ 4608) (hi : i + 9 ≤ L) (hcs : cs + 2 ≤ 772320) (hss : ss + 21 ≤ 6785288)
    (kk : ∀ ρ α' M' cs' ss', CW ρ α' M' → RW ρ M' → AR M' 0 L xs → cs' ≤ cs + 2 → ss' ≤ ss + 21 → AW mL_law room_1 Q 1621 [some (.ref 0), some (.ref 2), some (.ref 25), some (.int (nI i))] [] M' cs' ss') : AW mL_law room_1 Q 904 [some (.ref 0), some (.ref 2), some (.ref 25), some (.int (nI i))] [] M cs ss := by
  obtain ⟨z, PC, P, hc, hr, hcl⟩ := p_proves hC (xs (i + 1)) (xs (i + 2)) (xs (i + 3)) (xs (i + 4)) (xs (i + 5)) (xs (i + 6))
  refine aw_aload1 904 dL_law_904 ?_
  refine aw_aload0 905 dL_law_905 ?_
  refine aw_iload3 906 dL_law_906 ?_
  refine aw_ic1 907 dL_law_907 ?_
  refine aw_iaddN 908 (i) (1) dL_law_908 rfl rfl ?_
  refine ar_ld 909 (i + 1) dL_law_909 hX rfl (show i + 1 < L by omega) (by omega) ?_
  refine aw_aload0 910 dL_law_910 ?_
  refine aw_iload3 911 dL_law_911 ?_
  refine aw_ic2 912 dL_law_912 ?_
  refine aw_iaddN 913 (i) (2) dL_law_913 rfl rfl ?_
  refine ar_ld 914 (i + 2) dL_law_914 hX rfl (show i + 2 < L by omega) (by omega) ?_
  refine aw_aload0 915 dL_law_915 ?_
  refine aw_iload3 916 dL_law_916 ?_
  refine aw_ic3 917 dL_law_917 ?_
  refine aw_iaddN 918 (i) (3) dL_law_918 rfl rfl ?_
  refine ar_ld 919 (i + 3) dL_law_919 hX rfl (show i + 3 < L by omega) (by omega) ?_
  refine aw_aload0 920 dL_law_920 ?_
  refine aw_iload3 921 dL_law_921 ?_
  refine aw_ic4 922 dL_law_922 ?_
  refine aw_iaddN 923 (i) (4) dL_law_923 rfl rfl ?_
  refine ar_ld 924 (i + 4) dL_law_924 hX rfl (show i + 4 < L by omega) (by omega) ?_
  refine aw_aload0 925 dL_law_925 ?_
  refine aw_iload3 926 dL_law_926 ?_
  refine aw_ic5 927 dL_law_927 ?_
  refine aw_iaddN 928 (i) (5) dL_law_928 rfl rfl ?_
  refine ar_ld 929 (i + 5) dL_law_929 hX rfl (show i + 5 < L by omega) (by omega) ?_
  refine aw_aload0 930 dL_law_930 ?_
  refine aw_iload3 931 dL_law_931 ?_
  refine aw_bipush 932 6 dL_law_932 (by decide) ?_
  refine aw_iaddN 934 (i) (6) dL_law_934 rfl rfl ?_
  refine ar_ld 935 (i + 6) dL_law_935 hX rfl (show i + 6 < L by omega) (by omega) ?_
  refine lw_c 936 dL_law_936 hc ckV_RL_91 cd_X11_proves hC.xo.1 vc11 rfl rfl (Nat.le_of_ble_eq_true rfl) ⟨⟨by decide, by decide⟩, by show cs + 0 ≤ 772320; omega, by show ss + 0 ≤ 6785288; omega⟩ (fun M hPC => ?_)
  obtain ⟨hKr, hfin⟩ := hcl M hPC
  replace hW := hW.kr hKr
  replace hX := hX.kr hKr
  clear hKr
  refine aw_aload2 939 dL_law_939 ?_
  refine aw_aload0 940 dL_law_940 ?_
  refine aw_iload3 941 dL_law_941 ?_
  refine aw_ic1 942 dL_law_942 ?_
  refine aw_iaddN 943 (i) (1) dL_law_943 rfl rfl ?_
  refine ar_ld 944 (i + 1) dL_law_944 hX rfl (show i + 1 < L by omega) (by omega) ?_
  refine aw_aload0 945 dL_law_945 ?_
  refine aw_iload3 946 dL_law_946 ?_
  refine aw_ic2 947 dL_law_947 ?_
  refine aw_iaddN 948 (i) (2) dL_law_948 rfl rfl ?_
  refine ar_ld 949 (i + 2) dL_law_949 hX rfl (show i + 2 < L by omega) (by omega) ?_
  refine aw_aload0 950 dL_law_950 ?_
  refine aw_iload3 951 dL_law_951 ?_
  refine aw_ic3 952 dL_law_952 ?_
  refine aw_iaddN 953 (i) (3) dL_law_953 rfl rfl ?_
  refine ar_ld 954 (i + 3) dL_law_954 hX rfl (show i + 3 < L by omega) (by omega) ?_
  refine aw_aload0 955 dL_law_955 ?_
  refine aw_iload3 956 dL_law_956 ?_
  refine aw_ic4 957 dL_law_957 ?_
  refine aw_iaddN 958 (i) (4) dL_law_958 rfl rfl ?_
  refine ar_ld 959 (i + 4) dL_law_959 hX rfl (show i + 4 < L by omega) (by omega) ?_
  refine aw_aload0 960 dL_law_960 ?_
  refine aw_iload3 961 dL_law_961 ?_
  refine aw_ic5 962 dL_law_962 ?_
  refine aw_iaddN 963 (i) (5) dL_law_963 rfl rfl ?_
  refine ar_ld 964 (i + 5) dL_law_964 hX rfl (show i + 5 < L by omega) (by omega) ?_
  refine aw_aload0 965 dL_law_965 ?_
  refine aw_iload3 966 dL_law_966 ?_
  refine aw_bipush 967 6 dL_law_967 (by decide) ?_
  refine aw_iaddN 969 (i) (6) dL_law_969 rfl rfl ?_
  refine ar_ld 970 (i + 6) dL_law_970 hX rfl (show i + 6 < L by omega) (by omega) ?_
  refine rp_call1 971 dL_law_971 hr ckV_RL_95 cd_X12_proves rfl ⟨hW, Off.rf _⟩ rfl (Nat.le_of_ble_eq_true rfl) ⟨⟨by decide, by decide⟩, by show cs + 0 + 0 ≤ 772320; omega, by show ss + 0 + 0 ≤ 6785288; omega⟩ rfl (fun ρ M hP hRO => ?_)
  obtain ⟨α', hC'⟩ := hfin ρ hP
  replace hC' := hC'.off hRO.2
  replace hX := hX.off hRO.2
  refine aw_icmp_eq 974 1621 dL_law_974 (by decide) (fun _ => ?_) (fun q => absurd rfl q)
  exact kk ρ α' M _ _ hC' hRO.1 hX (by show cs + 0 ≤ cs + 2; omega) (by show ss + 0 ≤ ss + 21; omega)

set_option maxHeartbeats 4000000 in
set_option maxRecDepth 100000 in
theorem k_hide {Q : Option Value → Mem → Prop} {σ : TT} {α : AT} {M : Mem} {L i cs ss : Nat} {xs : Nat → Int32} (hC : CW σ α M) (hW : RW σ M) (hX : AR M 0 L xs) (hL : L ≤ 4608) (hi : i + 9 ≤ L) (hcs : cs + 2 ≤ 772320) (hss : ss + 21 ≤ 6785288)
    (kk : ∀ ρ α' M' cs' ss', CW ρ α' M' → RW ρ M' → AR M' 0 L xs → cs' ≤ cs + 2 → ss' ≤ ss + 21 → AW mL_law room_1 Q 1621 [some (.ref 0), some (.ref 2), some (.ref 25), some (.int (nI i))] [] M' cs' ss') : AW mL_law room_1 Q 979 [some (.ref 0), some (.ref 2), some (.ref 25), some (.int (nI i))] [] M cs ss := by
  obtain ⟨z, PC, P, hc, hr, hcl⟩ := p_hide hC (xs (i + 1)) (xs (i + 2))
  refine aw_aload1 979 dL_law_979 ?_
  refine aw_aload0 980 dL_law_980 ?_
  refine aw_iload3 981 dL_law_981 ?_
  refine aw_ic1 982 dL_law_982 ?_
  refine aw_iaddN 983 (i) (1) dL_law_983 rfl rfl ?_
  refine ar_ld 984 (i + 1) dL_law_984 hX rfl (show i + 1 < L by omega) (by omega) ?_
  refine aw_aload0 985 dL_law_985 ?_
  refine aw_iload3 986 dL_law_986 ?_
  refine aw_ic2 987 dL_law_987 ?_
  refine aw_iaddN 988 (i) (2) dL_law_988 rfl rfl ?_
  refine ar_ld 989 (i + 2) dL_law_989 hX rfl (show i + 2 < L by omega) (by omega) ?_
  refine lw_c 990 dL_law_990 hc ckV_RL_96 cd_X11_hide hC.xo.1 vc11 rfl rfl (Nat.le_of_ble_eq_true rfl) ⟨⟨by decide, by decide⟩, by show cs + 0 ≤ 772320; omega, by show ss + 0 ≤ 6785288; omega⟩ (fun M hPC => ?_)
  obtain ⟨hKr, hfin⟩ := hcl M hPC
  replace hW := hW.kr hKr
  replace hX := hX.kr hKr
  clear hKr
  refine aw_aload2 993 dL_law_993 ?_
  refine aw_aload0 994 dL_law_994 ?_
  refine aw_iload3 995 dL_law_995 ?_
  refine aw_ic1 996 dL_law_996 ?_
  refine aw_iaddN 997 (i) (1) dL_law_997 rfl rfl ?_
  refine ar_ld 998 (i + 1) dL_law_998 hX rfl (show i + 1 < L by omega) (by omega) ?_
  refine aw_aload0 999 dL_law_999 ?_
  refine aw_iload3 1000 dL_law_1000 ?_
  refine aw_ic2 1001 dL_law_1001 ?_
  refine aw_iaddN 1002 (i) (2) dL_law_1002 rfl rfl ?_
  refine ar_ld 1003 (i + 2) dL_law_1003 hX rfl (show i + 2 < L by omega) (by omega) ?_
  refine rp_call1 1004 dL_law_1004 hr ckV_RL_99 cd_X12_hide rfl ⟨hW, Off.rf _⟩ rfl (Nat.le_of_ble_eq_true rfl) ⟨⟨by decide, by decide⟩, by show cs + 0 + 0 ≤ 772320; omega, by show ss + 0 + 0 ≤ 6785288; omega⟩ rfl (fun ρ M hP hRO => ?_)
  obtain ⟨α', hC'⟩ := hfin ρ hP
  replace hC' := hC'.off hRO.2
  replace hX := hX.off hRO.2
  refine aw_icmp_eq 1007 1621 dL_law_1007 (by decide) (fun _ => ?_) (fun q => absurd rfl q)
  exact kk ρ α' M _ _ hC' hRO.1 hX (by show cs + 0 ≤ cs + 2; omega) (by show ss + 0 ≤ ss + 21; omega)

set_option maxHeartbeats 4000000 in
set_option maxRecDepth 100000 in
theorem k_found {Q : Option Value → Mem → Prop} {σ : TT} {α : AT} {M : Mem} {L i cs ss : Nat} {xs : Nat → Int32} (hC : CW σ α M) (hW : RW σ M) (hX : AR M 0 L xs) (hL : L ≤ 4608) (hi : i + 9 ≤ L) (hcs : cs + 2 ≤ 772320) (hss : ss + 21 ≤ 6785288)
    (kk : ∀ ρ α' M' cs' ss', CW ρ α' M' → RW ρ M' → AR M' 0 L xs → cs' ≤ cs + 2 → ss' ≤ ss + 21 → AW mL_law room_1 Q 1621 [some (.ref 0), some (.ref 2), some (.ref 25), some (.int (nI i))] [] M' cs' ss') : AW mL_law room_1 Q 1012 [some (.ref 0), some (.ref 2), some (.ref 25), some (.int (nI i))] [] M cs ss := by
  obtain ⟨z, PC, P, hc, hr, hcl⟩ := p_found hC (xs (i + 1)) (xs (i + 2))
  refine aw_aload1 1012 dL_law_1012 ?_
  refine aw_aload0 1013 dL_law_1013 ?_
  refine aw_iload3 1014 dL_law_1014 ?_
  refine aw_ic1 1015 dL_law_1015 ?_
  refine aw_iaddN 1016 (i) (1) dL_law_1016 rfl rfl ?_
  refine ar_ld 1017 (i + 1) dL_law_1017 hX rfl (show i + 1 < L by omega) (by omega) ?_
  refine aw_aload0 1018 dL_law_1018 ?_
  refine aw_iload3 1019 dL_law_1019 ?_
  refine aw_ic2 1020 dL_law_1020 ?_
  refine aw_iaddN 1021 (i) (2) dL_law_1021 rfl rfl ?_
  refine ar_ld 1022 (i + 2) dL_law_1022 hX rfl (show i + 2 < L by omega) (by omega) ?_
  refine lw_c 1023 dL_law_1023 hc ckV_RL_100 cd_X11_found hC.xo.1 vc11 rfl rfl (Nat.le_of_ble_eq_true rfl) ⟨⟨by decide, by decide⟩, by show cs + 0 ≤ 772320; omega, by show ss + 0 ≤ 6785288; omega⟩ (fun M hPC => ?_)
  obtain ⟨hKr, hfin⟩ := hcl M hPC
  replace hW := hW.kr hKr
  replace hX := hX.kr hKr
  clear hKr
  refine aw_aload2 1026 dL_law_1026 ?_
  refine aw_aload0 1027 dL_law_1027 ?_
  refine aw_iload3 1028 dL_law_1028 ?_
  refine aw_ic1 1029 dL_law_1029 ?_
  refine aw_iaddN 1030 (i) (1) dL_law_1030 rfl rfl ?_
  refine ar_ld 1031 (i + 1) dL_law_1031 hX rfl (show i + 1 < L by omega) (by omega) ?_
  refine aw_aload0 1032 dL_law_1032 ?_
  refine aw_iload3 1033 dL_law_1033 ?_
  refine aw_ic2 1034 dL_law_1034 ?_
  refine aw_iaddN 1035 (i) (2) dL_law_1035 rfl rfl ?_
  refine ar_ld 1036 (i + 2) dL_law_1036 hX rfl (show i + 2 < L by omega) (by omega) ?_
  refine rp_call1 1037 dL_law_1037 hr ckV_RL_103 cd_X12_found rfl ⟨hW, Off.rf _⟩ rfl (Nat.le_of_ble_eq_true rfl) ⟨⟨by decide, by decide⟩, by show cs + 0 + 0 ≤ 772320; omega, by show ss + 0 + 0 ≤ 6785288; omega⟩ rfl (fun ρ M hP hRO => ?_)
  obtain ⟨α', hC'⟩ := hfin ρ hP
  replace hC' := hC'.off hRO.2
  replace hX := hX.off hRO.2
  refine aw_icmp_eq 1040 1621 dL_law_1040 (by decide) (fun _ => ?_) (fun q => absurd rfl q)
  exact kk ρ α' M _ _ hC' hRO.1 hX (by show cs + 0 ≤ cs + 2; omega) (by show ss + 0 ≤ ss + 21; omega)

set_option maxHeartbeats 4000000 in
set_option maxRecDepth 100000 in
theorem k_falsely {Q : Option Value → Mem → Prop} {σ : TT} {α : AT} {M : Mem} {L i cs ss : Nat} {xs : Nat → Int32} (hC : CW σ α M) (hW : RW σ M) (hX : AR M 0 L xs) (hL : L ≤ 4608) (hi : i + 9 ≤ L) (hcs : cs + 2 ≤ 772320) (hss : ss + 21 ≤ 6785288)
    (kk : ∀ ρ α' M' cs' ss', CW ρ α' M' → RW ρ M' → AR M' 0 L xs → cs' ≤ cs + 2 → ss' ≤ ss + 21 → AW mL_law room_1 Q 1621 [some (.ref 0), some (.ref 2), some (.ref 25), some (.int (nI i))] [] M' cs' ss') : AW mL_law room_1 Q 1045 [some (.ref 0), some (.ref 2), some (.ref 25), some (.int (nI i))] [] M cs ss := by
  obtain ⟨z, PC, P, hc, hr, hcl⟩ := p_falsely hC (xs (i + 1)) (xs (i + 2)) (xs (i + 3))
  refine aw_aload1 1045 dL_law_1045 ?_
  refine aw_aload0 1046 dL_law_1046 ?_
  refine aw_iload3 1047 dL_law_1047 ?_
  refine aw_ic1 1048 dL_law_1048 ?_
  refine aw_iaddN 1049 (i) (1) dL_law_1049 rfl rfl ?_
  refine ar_ld 1050 (i + 1) dL_law_1050 hX rfl (show i + 1 < L by omega) (by omega) ?_
  refine aw_aload0 1051 dL_law_1051 ?_
  refine aw_iload3 1052 dL_law_1052 ?_
  refine aw_ic2 1053 dL_law_1053 ?_
  refine aw_iaddN 1054 (i) (2) dL_law_1054 rfl rfl ?_
  refine ar_ld 1055 (i + 2) dL_law_1055 hX rfl (show i + 2 < L by omega) (by omega) ?_
  refine aw_aload0 1056 dL_law_1056 ?_
  refine aw_iload3 1057 dL_law_1057 ?_
  refine aw_ic3 1058 dL_law_1058 ?_
  refine aw_iaddN 1059 (i) (3) dL_law_1059 rfl rfl ?_
  refine ar_ld 1060 (i + 3) dL_law_1060 hX rfl (show i + 3 < L by omega) (by omega) ?_
  refine lw_c 1061 dL_law_1061 hc ckV_RL_104 cd_X11_falsely hC.xo.1 vc11 rfl rfl (Nat.le_of_ble_eq_true rfl) ⟨⟨by decide, by decide⟩, by show cs + 0 ≤ 772320; omega, by show ss + 0 ≤ 6785288; omega⟩ (fun M hPC => ?_)
  obtain ⟨hKr, hfin⟩ := hcl M hPC
  replace hW := hW.kr hKr
  replace hX := hX.kr hKr
  clear hKr
  refine aw_aload2 1064 dL_law_1064 ?_
  refine aw_aload0 1065 dL_law_1065 ?_
  refine aw_iload3 1066 dL_law_1066 ?_
  refine aw_ic1 1067 dL_law_1067 ?_
  refine aw_iaddN 1068 (i) (1) dL_law_1068 rfl rfl ?_
  refine ar_ld 1069 (i + 1) dL_law_1069 hX rfl (show i + 1 < L by omega) (by omega) ?_
  refine aw_aload0 1070 dL_law_1070 ?_
  refine aw_iload3 1071 dL_law_1071 ?_
  refine aw_ic2 1072 dL_law_1072 ?_
  refine aw_iaddN 1073 (i) (2) dL_law_1073 rfl rfl ?_
  refine ar_ld 1074 (i + 2) dL_law_1074 hX rfl (show i + 2 < L by omega) (by omega) ?_
  refine aw_aload0 1075 dL_law_1075 ?_
  refine aw_iload3 1076 dL_law_1076 ?_
  refine aw_ic3 1077 dL_law_1077 ?_
  refine aw_iaddN 1078 (i) (3) dL_law_1078 rfl rfl ?_
  refine ar_ld 1079 (i + 3) dL_law_1079 hX rfl (show i + 3 < L by omega) (by omega) ?_
  refine rp_call1 1080 dL_law_1080 hr ckV_RL_108 cd_X12_falsely rfl ⟨hW, Off.rf _⟩ rfl (Nat.le_of_ble_eq_true rfl) ⟨⟨by decide, by decide⟩, by show cs + 0 + 0 ≤ 772320; omega, by show ss + 0 + 0 ≤ 6785288; omega⟩ rfl (fun ρ M hP hRO => ?_)
  obtain ⟨α', hC'⟩ := hfin ρ hP
  replace hC' := hC'.off hRO.2
  replace hX := hX.off hRO.2
  refine aw_lcmp 1083 dL_law_1083 ?_
  refine aw_if_eq 1084 1621 dL_law_1084 (by decide) (fun _ => ?_) (fun q => absurd (lc_eq.mpr rfl) q)
  exact kk ρ α' M _ _ hC' hRO.1 hX (by show cs + 0 ≤ cs + 2; omega) (by show ss + 0 ≤ ss + 21; omega)

set_option maxHeartbeats 4000000 in
set_option maxRecDepth 100000 in
theorem k_like {Q : Option Value → Mem → Prop} {σ : TT} {α : AT} {M : Mem} {L i cs ss : Nat} {xs : Nat → Int32} (hC : CW σ α M) (hW : RW σ M) (hX : AR M 0 L xs) (hL : L ≤ 4608) (hi : i + 9 ≤ L) (hcs : cs + 2 ≤ 772320) (hss : ss + 21 ≤ 6785288)
    (kk : ∀ ρ α' M' cs' ss', CW ρ α' M' → RW ρ M' → AR M' 0 L xs → cs' ≤ cs + 2 → ss' ≤ ss + 21 → AW mL_law room_1 Q 1621 [some (.ref 0), some (.ref 2), some (.ref 25), some (.int (nI i))] [] M' cs' ss') : AW mL_law room_1 Q 1089 [some (.ref 0), some (.ref 2), some (.ref 25), some (.int (nI i))] [] M cs ss := by
  obtain ⟨z, PC, P, hc, hr, hcl⟩ := p_like hC (xs (i + 1)) (xs (i + 2))
  refine aw_aload1 1089 dL_law_1089 ?_
  refine aw_aload0 1090 dL_law_1090 ?_
  refine aw_iload3 1091 dL_law_1091 ?_
  refine aw_ic1 1092 dL_law_1092 ?_
  refine aw_iaddN 1093 (i) (1) dL_law_1093 rfl rfl ?_
  refine ar_ld 1094 (i + 1) dL_law_1094 hX rfl (show i + 1 < L by omega) (by omega) ?_
  refine aw_aload0 1095 dL_law_1095 ?_
  refine aw_iload3 1096 dL_law_1096 ?_
  refine aw_ic2 1097 dL_law_1097 ?_
  refine aw_iaddN 1098 (i) (2) dL_law_1098 rfl rfl ?_
  refine ar_ld 1099 (i + 2) dL_law_1099 hX rfl (show i + 2 < L by omega) (by omega) ?_
  refine lw_c 1100 dL_law_1100 hc ckV_RL_109 cd_X11_like hC.xo.1 vc11 rfl rfl (Nat.le_of_ble_eq_true rfl) ⟨⟨by decide, by decide⟩, by show cs + 0 ≤ 772320; omega, by show ss + 0 ≤ 6785288; omega⟩ (fun M hPC => ?_)
  obtain ⟨hKr, hfin⟩ := hcl M hPC
  replace hW := hW.kr hKr
  replace hX := hX.kr hKr
  clear hKr
  refine aw_aload2 1103 dL_law_1103 ?_
  refine aw_aload0 1104 dL_law_1104 ?_
  refine aw_iload3 1105 dL_law_1105 ?_
  refine aw_ic1 1106 dL_law_1106 ?_
  refine aw_iaddN 1107 (i) (1) dL_law_1107 rfl rfl ?_
  refine ar_ld 1108 (i + 1) dL_law_1108 hX rfl (show i + 1 < L by omega) (by omega) ?_
  refine aw_aload0 1109 dL_law_1109 ?_
  refine aw_iload3 1110 dL_law_1110 ?_
  refine aw_ic2 1111 dL_law_1111 ?_
  refine aw_iaddN 1112 (i) (2) dL_law_1112 rfl rfl ?_
  refine ar_ld 1113 (i + 2) dL_law_1113 hX rfl (show i + 2 < L by omega) (by omega) ?_
  refine rp_call1 1114 dL_law_1114 hr ckV_RL_112 cd_X12_like rfl ⟨hW, Off.rf _⟩ rfl (Nat.le_of_ble_eq_true rfl) ⟨⟨by decide, by decide⟩, by show cs + 0 + 0 ≤ 772320; omega, by show ss + 0 + 0 ≤ 6785288; omega⟩ rfl (fun ρ M hP hRO => ?_)
  obtain ⟨α', hC'⟩ := hfin ρ hP
  replace hC' := hC'.off hRO.2
  replace hX := hX.off hRO.2
  refine aw_icmp_eq 1117 1621 dL_law_1117 (by decide) (fun _ => ?_) (fun q => absurd rfl q)
  exact kk ρ α' M _ _ hC' hRO.1 hX (by show cs + 0 ≤ cs + 2; omega) (by show ss + 0 ≤ ss + 21; omega)

set_option maxHeartbeats 4000000 in
set_option maxRecDepth 100000 in
theorem k_nearest {Q : Option Value → Mem → Prop} {σ : TT} {α : AT} {M : Mem} {L i cs ss : Nat} {xs : Nat → Int32} (hC : CW σ α M) (hW : RW σ M) (hX : AR M 0 L xs) (hL : L ≤ 4608) (hi : i + 9 ≤ L) (hcs : cs + 2 ≤ 772320) (hss : ss + 21 ≤ 6785288)
    (kk : ∀ ρ α' M' cs' ss', CW ρ α' M' → RW ρ M' → AR M' 0 L xs → cs' ≤ cs + 2 → ss' ≤ ss + 21 → AW mL_law room_1 Q 1621 [some (.ref 0), some (.ref 2), some (.ref 25), some (.int (nI i))] [] M' cs' ss') : AW mL_law room_1 Q 1122 [some (.ref 0), some (.ref 2), some (.ref 25), some (.int (nI i))] [] M cs ss := by
  obtain ⟨z, PC, P, hc, hr, hcl⟩ := p_nearest hC (xs (i + 1)) (xs (i + 2))
  refine aw_aload1 1122 dL_law_1122 ?_
  refine aw_aload0 1123 dL_law_1123 ?_
  refine aw_iload3 1124 dL_law_1124 ?_
  refine aw_ic1 1125 dL_law_1125 ?_
  refine aw_iaddN 1126 (i) (1) dL_law_1126 rfl rfl ?_
  refine ar_ld 1127 (i + 1) dL_law_1127 hX rfl (show i + 1 < L by omega) (by omega) ?_
  refine aw_aload0 1128 dL_law_1128 ?_
  refine aw_iload3 1129 dL_law_1129 ?_
  refine aw_ic2 1130 dL_law_1130 ?_
  refine aw_iaddN 1131 (i) (2) dL_law_1131 rfl rfl ?_
  refine ar_ld 1132 (i + 2) dL_law_1132 hX rfl (show i + 2 < L by omega) (by omega) ?_
  refine lw_c 1133 dL_law_1133 hc ckV_RL_113 cd_X11_nearest hC.xo.1 vc11 rfl rfl (Nat.le_of_ble_eq_true rfl) ⟨⟨by decide, by decide⟩, by show cs + 0 ≤ 772320; omega, by show ss + 0 ≤ 6785288; omega⟩ (fun M hPC => ?_)
  obtain ⟨hKr, hfin⟩ := hcl M hPC
  replace hW := hW.kr hKr
  replace hX := hX.kr hKr
  clear hKr
  refine aw_aload2 1136 dL_law_1136 ?_
  refine aw_aload0 1137 dL_law_1137 ?_
  refine aw_iload3 1138 dL_law_1138 ?_
  refine aw_ic1 1139 dL_law_1139 ?_
  refine aw_iaddN 1140 (i) (1) dL_law_1140 rfl rfl ?_
  refine ar_ld 1141 (i + 1) dL_law_1141 hX rfl (show i + 1 < L by omega) (by omega) ?_
  refine aw_aload0 1142 dL_law_1142 ?_
  refine aw_iload3 1143 dL_law_1143 ?_
  refine aw_ic2 1144 dL_law_1144 ?_
  refine aw_iaddN 1145 (i) (2) dL_law_1145 rfl rfl ?_
  refine ar_ld 1146 (i + 2) dL_law_1146 hX rfl (show i + 2 < L by omega) (by omega) ?_
  refine rp_call1 1147 dL_law_1147 hr ckV_RL_116 cd_X12_nearest rfl ⟨hW, Off.rf _⟩ rfl (Nat.le_of_ble_eq_true rfl) ⟨⟨by decide, by decide⟩, by show cs + 0 + 0 ≤ 772320; omega, by show ss + 0 + 0 ≤ 6785288; omega⟩ rfl (fun ρ M hP hRO => ?_)
  obtain ⟨α', hC'⟩ := hfin ρ hP
  replace hC' := hC'.off hRO.2
  replace hX := hX.off hRO.2
  refine aw_icmp_eq 1150 1621 dL_law_1150 (by decide) (fun _ => ?_) (fun q => absurd rfl q)
  exact kk ρ α' M _ _ hC' hRO.1 hX (by show cs + 0 ≤ cs + 2; omega) (by show ss + 0 ≤ ss + 21; omega)

set_option maxHeartbeats 4000000 in
set_option maxRecDepth 100000 in
theorem k_coarse {Q : Option Value → Mem → Prop} {σ : TT} {α : AT} {M : Mem} {L i cs ss : Nat} {xs : Nat → Int32} (hC : CW σ α M) (hW : RW σ M) (hX : AR M 0 L xs) (hL : L ≤ 4608) (hi : i + 9 ≤ L) (hcs : cs + 2 ≤ 772320) (hss : ss + 21 ≤ 6785288)
    (kk : ∀ ρ α' M' cs' ss', CW ρ α' M' → RW ρ M' → AR M' 0 L xs → cs' ≤ cs + 2 → ss' ≤ ss + 21 → AW mL_law room_1 Q 1621 [some (.ref 0), some (.ref 2), some (.ref 25), some (.int (nI i))] [] M' cs' ss') : AW mL_law room_1 Q 1155 [some (.ref 0), some (.ref 2), some (.ref 25), some (.int (nI i))] [] M cs ss := by
  obtain ⟨z, PC, P, hc, hr, hcl⟩ := p_coarse hC (xs (i + 1)) (xs (i + 2))
  refine aw_aload1 1155 dL_law_1155 ?_
  refine aw_aload0 1156 dL_law_1156 ?_
  refine aw_iload3 1157 dL_law_1157 ?_
  refine aw_ic1 1158 dL_law_1158 ?_
  refine aw_iaddN 1159 (i) (1) dL_law_1159 rfl rfl ?_
  refine ar_ld 1160 (i + 1) dL_law_1160 hX rfl (show i + 1 < L by omega) (by omega) ?_
  refine aw_aload0 1161 dL_law_1161 ?_
  refine aw_iload3 1162 dL_law_1162 ?_
  refine aw_ic2 1163 dL_law_1163 ?_
  refine aw_iaddN 1164 (i) (2) dL_law_1164 rfl rfl ?_
  refine ar_ld 1165 (i + 2) dL_law_1165 hX rfl (show i + 2 < L by omega) (by omega) ?_
  refine lw_c 1166 dL_law_1166 hc ckV_RL_117 cd_X11_coarse hC.xo.1 vc11 rfl rfl (Nat.le_of_ble_eq_true rfl) ⟨⟨by decide, by decide⟩, by show cs + 0 ≤ 772320; omega, by show ss + 0 ≤ 6785288; omega⟩ (fun M hPC => ?_)
  obtain ⟨hKr, hfin⟩ := hcl M hPC
  replace hW := hW.kr hKr
  replace hX := hX.kr hKr
  clear hKr
  refine aw_aload2 1169 dL_law_1169 ?_
  refine aw_aload0 1170 dL_law_1170 ?_
  refine aw_iload3 1171 dL_law_1171 ?_
  refine aw_ic1 1172 dL_law_1172 ?_
  refine aw_iaddN 1173 (i) (1) dL_law_1173 rfl rfl ?_
  refine ar_ld 1174 (i + 1) dL_law_1174 hX rfl (show i + 1 < L by omega) (by omega) ?_
  refine aw_aload0 1175 dL_law_1175 ?_
  refine aw_iload3 1176 dL_law_1176 ?_
  refine aw_ic2 1177 dL_law_1177 ?_
  refine aw_iaddN 1178 (i) (2) dL_law_1178 rfl rfl ?_
  refine ar_ld 1179 (i + 2) dL_law_1179 hX rfl (show i + 2 < L by omega) (by omega) ?_
  refine rp_call1 1180 dL_law_1180 hr ckV_RL_120 cd_X12_coarse rfl ⟨hW, Off.rf _⟩ rfl (Nat.le_of_ble_eq_true rfl) ⟨⟨by decide, by decide⟩, by show cs + 0 + 0 ≤ 772320; omega, by show ss + 0 + 0 ≤ 6785288; omega⟩ rfl (fun ρ M hP hRO => ?_)
  obtain ⟨α', hC'⟩ := hfin ρ hP
  replace hC' := hC'.off hRO.2
  replace hX := hX.off hRO.2
  refine aw_icmp_eq 1183 1621 dL_law_1183 (by decide) (fun _ => ?_) (fun q => absurd rfl q)
  exact kk ρ α' M _ _ hC' hRO.1 hX (by show cs + 0 ≤ cs + 2; omega) (by show ss + 0 ≤ ss + 21; omega)

set_option maxHeartbeats 4000000 in
set_option maxRecDepth 100000 in
theorem k_look {Q : Option Value → Mem → Prop} {σ : TT} {α : AT} {M : Mem} {L i cs ss : Nat} {xs : Nat → Int32} (hC : CW σ α M) (hW : RW σ M) (hX : AR M 0 L xs) (hL : L ≤ 4608) (hi : i + 9 ≤ L) (hcs : cs + 2 ≤ 772320) (hss : ss + 21 ≤ 6785288)
    (kk : ∀ ρ α' M' cs' ss', CW ρ α' M' → RW ρ M' → AR M' 0 L xs → cs' ≤ cs + 2 → ss' ≤ ss + 21 → AW mL_law room_1 Q 1621 [some (.ref 0), some (.ref 2), some (.ref 25), some (.int (nI i))] [] M' cs' ss') : AW mL_law room_1 Q 1188 [some (.ref 0), some (.ref 2), some (.ref 25), some (.int (nI i))] [] M cs ss := by
  obtain ⟨z, PC, P, hc, hr, hcl⟩ := p_look hC (xs (i + 1)) (xs (i + 2)) (xs (i + 3))
  refine aw_aload1 1188 dL_law_1188 ?_
  refine aw_aload0 1189 dL_law_1189 ?_
  refine aw_iload3 1190 dL_law_1190 ?_
  refine aw_ic1 1191 dL_law_1191 ?_
  refine aw_iaddN 1192 (i) (1) dL_law_1192 rfl rfl ?_
  refine ar_ld 1193 (i + 1) dL_law_1193 hX rfl (show i + 1 < L by omega) (by omega) ?_
  refine aw_aload0 1194 dL_law_1194 ?_
  refine aw_iload3 1195 dL_law_1195 ?_
  refine aw_ic2 1196 dL_law_1196 ?_
  refine aw_iaddN 1197 (i) (2) dL_law_1197 rfl rfl ?_
  refine ar_ld 1198 (i + 2) dL_law_1198 hX rfl (show i + 2 < L by omega) (by omega) ?_
  refine aw_aload0 1199 dL_law_1199 ?_
  refine aw_iload3 1200 dL_law_1200 ?_
  refine aw_ic3 1201 dL_law_1201 ?_
  refine aw_iaddN 1202 (i) (3) dL_law_1202 rfl rfl ?_
  refine ar_ld 1203 (i + 3) dL_law_1203 hX rfl (show i + 3 < L by omega) (by omega) ?_
  refine lw_c 1204 dL_law_1204 hc ckV_RL_121 cd_X11_look hC.xo.1 vc11 rfl rfl (Nat.le_of_ble_eq_true rfl) ⟨⟨by decide, by decide⟩, by show cs + 1 ≤ 772320; omega, by show ss + 3 ≤ 6785288; omega⟩ (fun M hPC => ?_)
  obtain ⟨hKr, hfin⟩ := hcl M hPC
  replace hW := hW.kr hKr
  replace hX := hX.kr hKr
  clear hKr
  refine aw_aload2 1207 dL_law_1207 ?_
  refine aw_aload0 1208 dL_law_1208 ?_
  refine aw_iload3 1209 dL_law_1209 ?_
  refine aw_ic1 1210 dL_law_1210 ?_
  refine aw_iaddN 1211 (i) (1) dL_law_1211 rfl rfl ?_
  refine ar_ld 1212 (i + 1) dL_law_1212 hX rfl (show i + 1 < L by omega) (by omega) ?_
  refine aw_aload0 1213 dL_law_1213 ?_
  refine aw_iload3 1214 dL_law_1214 ?_
  refine aw_ic2 1215 dL_law_1215 ?_
  refine aw_iaddN 1216 (i) (2) dL_law_1216 rfl rfl ?_
  refine ar_ld 1217 (i + 2) dL_law_1217 hX rfl (show i + 2 < L by omega) (by omega) ?_
  refine aw_aload0 1218 dL_law_1218 ?_
  refine aw_iload3 1219 dL_law_1219 ?_
  refine aw_ic3 1220 dL_law_1220 ?_
  refine aw_iaddN 1221 (i) (3) dL_law_1221 rfl rfl ?_
  refine ar_ld 1222 (i + 3) dL_law_1222 hX rfl (show i + 3 < L by omega) (by omega) ?_
  refine rp_call1 1223 dL_law_1223 hr ckV_RL_124 cd_X12_look rfl ⟨hW, Off.rf _⟩ rfl (Nat.le_of_ble_eq_true rfl) ⟨⟨by decide, by decide⟩, by show cs + 1 + 0 ≤ 772320; omega, by show ss + 3 + 0 ≤ 6785288; omega⟩ rfl (fun ρ M hP hRO => ?_)
  obtain ⟨α', hC'⟩ := hfin ρ hP
  replace hC' := hC'.off hRO.2
  replace hX := hX.off hRO.2
  refine aw_icmp_eq 1226 1621 dL_law_1226 (by decide) (fun _ => ?_) (fun q => absurd rfl q)
  exact kk ρ α' M _ _ hC' hRO.1 hX (by show cs + 1 ≤ cs + 2; omega) (by show ss + 3 ≤ ss + 21; omega)

set_option maxHeartbeats 4000000 in
set_option maxRecDepth 100000 in
theorem k_best {Q : Option Value → Mem → Prop} {σ : TT} {α : AT} {M : Mem} {L i cs ss : Nat} {xs : Nat → Int32} (hC : CW σ α M) (hW : RW σ M) (hX : AR M 0 L xs) (hL : L ≤ 4608) (hi : i + 9 ≤ L) (hcs : cs + 2 ≤ 772320) (hss : ss + 21 ≤ 6785288)
    (kk : ∀ ρ α' M' cs' ss', CW ρ α' M' → RW ρ M' → AR M' 0 L xs → cs' ≤ cs + 2 → ss' ≤ ss + 21 → AW mL_law room_1 Q 1621 [some (.ref 0), some (.ref 2), some (.ref 25), some (.int (nI i))] [] M' cs' ss') : AW mL_law room_1 Q 1231 [some (.ref 0), some (.ref 2), some (.ref 25), some (.int (nI i))] [] M cs ss := by
  obtain ⟨z, PC, P, hc, hr, hcl⟩ := p_best hC (xs (i + 1)) (xs (i + 2))
  refine aw_aload1 1231 dL_law_1231 ?_
  refine aw_aload0 1232 dL_law_1232 ?_
  refine aw_iload3 1233 dL_law_1233 ?_
  refine aw_ic1 1234 dL_law_1234 ?_
  refine aw_iaddN 1235 (i) (1) dL_law_1235 rfl rfl ?_
  refine ar_ld 1236 (i + 1) dL_law_1236 hX rfl (show i + 1 < L by omega) (by omega) ?_
  refine aw_aload0 1237 dL_law_1237 ?_
  refine aw_iload3 1238 dL_law_1238 ?_
  refine aw_ic2 1239 dL_law_1239 ?_
  refine aw_iaddN 1240 (i) (2) dL_law_1240 rfl rfl ?_
  refine ar_ld 1241 (i + 2) dL_law_1241 hX rfl (show i + 2 < L by omega) (by omega) ?_
  refine lw_c 1242 dL_law_1242 hc ckV_RL_125 cd_X11_best hC.xo.1 vc11 rfl rfl (Nat.le_of_ble_eq_true rfl) ⟨⟨by decide, by decide⟩, by show cs + 0 ≤ 772320; omega, by show ss + 0 ≤ 6785288; omega⟩ (fun M hPC => ?_)
  obtain ⟨hKr, hfin⟩ := hcl M hPC
  replace hW := hW.kr hKr
  replace hX := hX.kr hKr
  clear hKr
  refine aw_aload2 1245 dL_law_1245 ?_
  refine aw_aload0 1246 dL_law_1246 ?_
  refine aw_iload3 1247 dL_law_1247 ?_
  refine aw_ic1 1248 dL_law_1248 ?_
  refine aw_iaddN 1249 (i) (1) dL_law_1249 rfl rfl ?_
  refine ar_ld 1250 (i + 1) dL_law_1250 hX rfl (show i + 1 < L by omega) (by omega) ?_
  refine aw_aload0 1251 dL_law_1251 ?_
  refine aw_iload3 1252 dL_law_1252 ?_
  refine aw_ic2 1253 dL_law_1253 ?_
  refine aw_iaddN 1254 (i) (2) dL_law_1254 rfl rfl ?_
  refine ar_ld 1255 (i + 2) dL_law_1255 hX rfl (show i + 2 < L by omega) (by omega) ?_
  refine rp_call1 1256 dL_law_1256 hr ckV_RL_128 cd_X12_best rfl ⟨hW, Off.rf _⟩ rfl (Nat.le_of_ble_eq_true rfl) ⟨⟨by decide, by decide⟩, by show cs + 0 + 0 ≤ 772320; omega, by show ss + 0 + 0 ≤ 6785288; omega⟩ rfl (fun ρ M hP hRO => ?_)
  obtain ⟨α', hC'⟩ := hfin ρ hP
  replace hC' := hC'.off hRO.2
  replace hX := hX.off hRO.2
  refine aw_icmp_eq 1259 1621 dL_law_1259 (by decide) (fun _ => ?_) (fun q => absurd rfl q)
  exact kk ρ α' M _ _ hC' hRO.1 hX (by show cs + 0 ≤ cs + 2; omega) (by show ss + 0 ≤ ss + 21; omega)

set_option maxHeartbeats 4000000 in
set_option maxRecDepth 100000 in
theorem k_doubtful {Q : Option Value → Mem → Prop} {σ : TT} {α : AT} {M : Mem} {L i cs ss : Nat} {xs : Nat → Int32} (hC : CW σ α M) (hW : RW σ M) (hX : AR M 0 L xs) (hL : L ≤ 4608) (hi : i + 9 ≤ L) (hcs : cs + 2 ≤ 772320) (hss : ss + 21 ≤ 6785288)
    (kk : ∀ ρ α' M' cs' ss', CW ρ α' M' → RW ρ M' → AR M' 0 L xs → cs' ≤ cs + 2 → ss' ≤ ss + 21 → AW mL_law room_1 Q 1621 [some (.ref 0), some (.ref 2), some (.ref 25), some (.int (nI i))] [] M' cs' ss') : AW mL_law room_1 Q 1264 [some (.ref 0), some (.ref 2), some (.ref 25), some (.int (nI i))] [] M cs ss := by
  obtain ⟨z, PC, P, hc, hr, hcl⟩ := p_doubtful hC
  refine aw_aload1 1264 dL_law_1264 ?_
  refine lw_c 1265 dL_law_1265 hc ckV_RL_129 cd_X11_doubtful hC.xo.1 vc11 rfl rfl (Nat.le_of_ble_eq_true rfl) ⟨⟨by decide, by decide⟩, by show cs + 0 ≤ 772320; omega, by show ss + 0 ≤ 6785288; omega⟩ (fun M hPC => ?_)
  obtain ⟨hKr, hfin⟩ := hcl M hPC
  replace hW := hW.kr hKr
  replace hX := hX.kr hKr
  clear hKr
  refine aw_aload2 1268 dL_law_1268 ?_
  refine rp_call1 1269 dL_law_1269 hr ckV_RL_133 cd_X12_doubtful rfl ⟨hW, Off.rf _⟩ rfl (Nat.le_of_ble_eq_true rfl) ⟨⟨by decide, by decide⟩, by show cs + 0 + 0 ≤ 772320; omega, by show ss + 0 + 0 ≤ 6785288; omega⟩ rfl (fun ρ M hP hRO => ?_)
  obtain ⟨α', hC'⟩ := hfin ρ hP
  replace hC' := hC'.off hRO.2
  replace hX := hX.off hRO.2
  refine aw_icmp_eq 1272 1621 dL_law_1272 (by decide) (fun _ => ?_) (fun q => absurd rfl q)
  exact kk ρ α' M _ _ hC' hRO.1 hX (by show cs + 0 ≤ cs + 2; omega) (by show ss + 0 ≤ ss + 21; omega)

set_option maxHeartbeats 4000000 in
set_option maxRecDepth 100000 in
theorem k_sheet {Q : Option Value → Mem → Prop} {σ : TT} {α : AT} {M : Mem} {L i cs ss : Nat} {xs : Nat → Int32} (hC : CW σ α M) (hW : RW σ M) (hX : AR M 0 L xs) (hL : L ≤ 4608) (hi : i + 9 ≤ L) (hcs : cs + 2 ≤ 772320) (hss : ss + 21 ≤ 6785288)
    (kk : ∀ ρ α' M' cs' ss', CW ρ α' M' → RW ρ M' → AR M' 0 L xs → cs' ≤ cs + 2 → ss' ≤ ss + 21 → AW mL_law room_1 Q 1621 [some (.ref 0), some (.ref 2), some (.ref 25), some (.int (nI i))] [] M' cs' ss') : AW mL_law room_1 Q 1277 [some (.ref 0), some (.ref 2), some (.ref 25), some (.int (nI i))] [] M cs ss := by
  obtain ⟨z, PC, P, hc, hr, hcl⟩ := p_sheet hC (xs (i + 1)) (xs (i + 2)) (xs (i + 3))
  refine aw_aload1 1277 dL_law_1277 ?_
  refine aw_aload0 1278 dL_law_1278 ?_
  refine aw_iload3 1279 dL_law_1279 ?_
  refine aw_ic1 1280 dL_law_1280 ?_
  refine aw_iaddN 1281 (i) (1) dL_law_1281 rfl rfl ?_
  refine ar_ld 1282 (i + 1) dL_law_1282 hX rfl (show i + 1 < L by omega) (by omega) ?_
  refine aw_aload0 1283 dL_law_1283 ?_
  refine aw_iload3 1284 dL_law_1284 ?_
  refine aw_ic2 1285 dL_law_1285 ?_
  refine aw_iaddN 1286 (i) (2) dL_law_1286 rfl rfl ?_
  refine ar_ld 1287 (i + 2) dL_law_1287 hX rfl (show i + 2 < L by omega) (by omega) ?_
  refine aw_aload0 1288 dL_law_1288 ?_
  refine aw_iload3 1289 dL_law_1289 ?_
  refine aw_ic3 1290 dL_law_1290 ?_
  refine aw_iaddN 1291 (i) (3) dL_law_1291 rfl rfl ?_
  refine ar_ld 1292 (i + 3) dL_law_1292 hX rfl (show i + 3 < L by omega) (by omega) ?_
  refine lw_c 1293 dL_law_1293 hc ckV_RL_134 cd_X11_sheet hC.xo.1 vc11 rfl rfl (Nat.le_of_ble_eq_true rfl) ⟨⟨by decide, by decide⟩, by show cs + 0 ≤ 772320; omega, by show ss + 0 ≤ 6785288; omega⟩ (fun M hPC => ?_)
  obtain ⟨hKr, hfin⟩ := hcl M hPC
  replace hW := hW.kr hKr
  replace hX := hX.kr hKr
  clear hKr
  refine aw_aload2 1296 dL_law_1296 ?_
  refine aw_aload0 1297 dL_law_1297 ?_
  refine aw_iload3 1298 dL_law_1298 ?_
  refine aw_ic1 1299 dL_law_1299 ?_
  refine aw_iaddN 1300 (i) (1) dL_law_1300 rfl rfl ?_
  refine ar_ld 1301 (i + 1) dL_law_1301 hX rfl (show i + 1 < L by omega) (by omega) ?_
  refine aw_aload0 1302 dL_law_1302 ?_
  refine aw_iload3 1303 dL_law_1303 ?_
  refine aw_ic2 1304 dL_law_1304 ?_
  refine aw_iaddN 1305 (i) (2) dL_law_1305 rfl rfl ?_
  refine ar_ld 1306 (i + 2) dL_law_1306 hX rfl (show i + 2 < L by omega) (by omega) ?_
  refine aw_aload0 1307 dL_law_1307 ?_
  refine aw_iload3 1308 dL_law_1308 ?_
  refine aw_ic3 1309 dL_law_1309 ?_
  refine aw_iaddN 1310 (i) (3) dL_law_1310 rfl rfl ?_
  refine ar_ld 1311 (i + 3) dL_law_1311 hX rfl (show i + 3 < L by omega) (by omega) ?_
  refine rp_call1 1312 dL_law_1312 hr ckV_RL_137 cd_X12_sheet rfl ⟨hW, Off.rf _⟩ rfl (Nat.le_of_ble_eq_true rfl) ⟨⟨by decide, by decide⟩, by show cs + 0 + 0 ≤ 772320; omega, by show ss + 0 + 0 ≤ 6785288; omega⟩ rfl (fun ρ M hP hRO => ?_)
  obtain ⟨α', hC'⟩ := hfin ρ hP
  replace hC' := hC'.off hRO.2
  replace hX := hX.off hRO.2
  refine aw_icmp_eq 1315 1621 dL_law_1315 (by decide) (fun _ => ?_) (fun q => absurd rfl q)
  exact kk ρ α' M _ _ hC' hRO.1 hX (by show cs + 0 ≤ cs + 2; omega) (by show ss + 0 ≤ ss + 21; omega)

set_option maxHeartbeats 4000000 in
set_option maxRecDepth 100000 in
theorem k_lose {Q : Option Value → Mem → Prop} {σ : TT} {α : AT} {M : Mem} {L i cs ss : Nat} {xs : Nat → Int32} (hC : CW σ α M) (hW : RW σ M) (hX : AR M 0 L xs) (hL : L ≤ 4608) (hi : i + 9 ≤ L) (hcs : cs + 2 ≤ 772320) (hss : ss + 21 ≤ 6785288)
    (kk : ∀ ρ α' M' cs' ss', CW ρ α' M' → RW ρ M' → AR M' 0 L xs → cs' ≤ cs + 2 → ss' ≤ ss + 21 → AW mL_law room_1 Q 1621 [some (.ref 0), some (.ref 2), some (.ref 25), some (.int (nI i))] [] M' cs' ss') : AW mL_law room_1 Q 1320 [some (.ref 0), some (.ref 2), some (.ref 25), some (.int (nI i))] [] M cs ss := by
  obtain ⟨z, PC, P, hc, hr, hcl⟩ := p_lose hC (xs (i + 1))
  refine aw_aload1 1320 dL_law_1320 ?_
  refine aw_aload0 1321 dL_law_1321 ?_
  refine aw_iload3 1322 dL_law_1322 ?_
  refine aw_ic1 1323 dL_law_1323 ?_
  refine aw_iaddN 1324 (i) (1) dL_law_1324 rfl rfl ?_
  refine ar_ld 1325 (i + 1) dL_law_1325 hX rfl (show i + 1 < L by omega) (by omega) ?_
  refine lw_c 1326 dL_law_1326 hc ckV_RL_138 cd_X11_lose hC.xo.1 vc11 rfl rfl (Nat.le_of_ble_eq_true rfl) ⟨⟨by decide, by decide⟩, by show cs + 0 ≤ 772320; omega, by show ss + 0 ≤ 6785288; omega⟩ (fun M hPC => ?_)
  obtain ⟨hKr, hfin⟩ := hcl M hPC
  replace hW := hW.kr hKr
  replace hX := hX.kr hKr
  clear hKr
  refine aw_aload2 1329 dL_law_1329 ?_
  refine aw_aload0 1330 dL_law_1330 ?_
  refine aw_iload3 1331 dL_law_1331 ?_
  refine aw_ic1 1332 dL_law_1332 ?_
  refine aw_iaddN 1333 (i) (1) dL_law_1333 rfl rfl ?_
  refine ar_ld 1334 (i + 1) dL_law_1334 hX rfl (show i + 1 < L by omega) (by omega) ?_
  refine rp_call1 1335 dL_law_1335 hr ckV_RL_141 cd_X12_lose rfl ⟨hW, Off.rf _⟩ rfl (Nat.le_of_ble_eq_true rfl) ⟨⟨by decide, by decide⟩, by show cs + 0 + 0 ≤ 772320; omega, by show ss + 0 + 0 ≤ 6785288; omega⟩ rfl (fun ρ M hP hRO => ?_)
  obtain ⟨α', hC'⟩ := hfin ρ hP
  replace hC' := hC'.off hRO.2
  replace hX := hX.off hRO.2
  refine aw_icmp_eq 1338 1621 dL_law_1338 (by decide) (fun _ => ?_) (fun q => absurd rfl q)
  exact kk ρ α' M _ _ hC' hRO.1 hX (by show cs + 0 ≤ cs + 2; omega) (by show ss + 0 ≤ ss + 21; omega)

set_option maxHeartbeats 4000000 in
set_option maxRecDepth 100000 in
theorem k_put {Q : Option Value → Mem → Prop} {σ : TT} {α : AT} {M : Mem} {L i cs ss : Nat} {xs : Nat → Int32} (hC : CW σ α M) (hW : RW σ M) (hX : AR M 0 L xs) (hL : L ≤ 4608) (hi : i + 9 ≤ L) (hcs : cs + 2 ≤ 772320) (hss : ss + 21 ≤ 6785288)
    (kk : ∀ ρ α' M' cs' ss', CW ρ α' M' → RW ρ M' → AR M' 0 L xs → cs' ≤ cs + 2 → ss' ≤ ss + 21 → AW mL_law room_1 Q 1621 [some (.ref 0), some (.ref 2), some (.ref 25), some (.int (nI i))] [] M' cs' ss') : AW mL_law room_1 Q 1343 [some (.ref 0), some (.ref 2), some (.ref 25), some (.int (nI i))] [] M cs ss := by
  obtain ⟨z, PC, P, hc, hr, hcl⟩ := p_put hC (xs (i + 1)) (xs (i + 2)) (xs (i + 3))
  refine aw_aload1 1343 dL_law_1343 ?_
  refine aw_aload0 1344 dL_law_1344 ?_
  refine aw_iload3 1345 dL_law_1345 ?_
  refine aw_ic1 1346 dL_law_1346 ?_
  refine aw_iaddN 1347 (i) (1) dL_law_1347 rfl rfl ?_
  refine ar_ld 1348 (i + 1) dL_law_1348 hX rfl (show i + 1 < L by omega) (by omega) ?_
  refine aw_aload0 1349 dL_law_1349 ?_
  refine aw_iload3 1350 dL_law_1350 ?_
  refine aw_ic2 1351 dL_law_1351 ?_
  refine aw_iaddN 1352 (i) (2) dL_law_1352 rfl rfl ?_
  refine ar_ld 1353 (i + 2) dL_law_1353 hX rfl (show i + 2 < L by omega) (by omega) ?_
  refine aw_aload0 1354 dL_law_1354 ?_
  refine aw_iload3 1355 dL_law_1355 ?_
  refine aw_ic3 1356 dL_law_1356 ?_
  refine aw_iaddN 1357 (i) (3) dL_law_1357 rfl rfl ?_
  refine ar_ld 1358 (i + 3) dL_law_1358 hX rfl (show i + 3 < L by omega) (by omega) ?_
  refine lw_c 1359 dL_law_1359 hc ckV_RL_142 cd_X11_put hC.xo.1 vc11 rfl rfl (Nat.le_of_ble_eq_true rfl) ⟨⟨by decide, by decide⟩, by show cs + 0 ≤ 772320; omega, by show ss + 0 ≤ 6785288; omega⟩ (fun M hPC => ?_)
  obtain ⟨hKr, hfin⟩ := hcl M hPC
  replace hW := hW.kr hKr
  replace hX := hX.kr hKr
  clear hKr
  refine aw_aload2 1362 dL_law_1362 ?_
  refine aw_aload0 1363 dL_law_1363 ?_
  refine aw_iload3 1364 dL_law_1364 ?_
  refine aw_ic1 1365 dL_law_1365 ?_
  refine aw_iaddN 1366 (i) (1) dL_law_1366 rfl rfl ?_
  refine ar_ld 1367 (i + 1) dL_law_1367 hX rfl (show i + 1 < L by omega) (by omega) ?_
  refine aw_aload0 1368 dL_law_1368 ?_
  refine aw_iload3 1369 dL_law_1369 ?_
  refine aw_ic2 1370 dL_law_1370 ?_
  refine aw_iaddN 1371 (i) (2) dL_law_1371 rfl rfl ?_
  refine ar_ld 1372 (i + 2) dL_law_1372 hX rfl (show i + 2 < L by omega) (by omega) ?_
  refine aw_aload0 1373 dL_law_1373 ?_
  refine aw_iload3 1374 dL_law_1374 ?_
  refine aw_ic3 1375 dL_law_1375 ?_
  refine aw_iaddN 1376 (i) (3) dL_law_1376 rfl rfl ?_
  refine ar_ld 1377 (i + 3) dL_law_1377 hX rfl (show i + 3 < L by omega) (by omega) ?_
  refine rp_call1 1378 dL_law_1378 hr ckV_RL_145 cd_X12_put rfl ⟨hW, Off.rf _⟩ rfl (Nat.le_of_ble_eq_true rfl) ⟨⟨by decide, by decide⟩, by show cs + 0 + 0 ≤ 772320; omega, by show ss + 0 + 0 ≤ 6785288; omega⟩ rfl (fun ρ M hP hRO => ?_)
  obtain ⟨α', hC'⟩ := hfin ρ hP
  replace hC' := hC'.off hRO.2
  replace hX := hX.off hRO.2
  refine aw_icmp_eq 1381 1621 dL_law_1381 (by decide) (fun _ => ?_) (fun q => absurd rfl q)
  exact kk ρ α' M _ _ hC' hRO.1 hX (by show cs + 0 ≤ cs + 2; omega) (by show ss + 0 ≤ ss + 21; omega)

set_option maxHeartbeats 4000000 in
set_option maxRecDepth 100000 in
theorem k_cell {Q : Option Value → Mem → Prop} {σ : TT} {α : AT} {M : Mem} {L i cs ss : Nat} {xs : Nat → Int32} (hC : CW σ α M) (hW : RW σ M) (hX : AR M 0 L xs) (hL : L ≤ 4608) (hi : i + 9 ≤ L) (hcs : cs + 2 ≤ 772320) (hss : ss + 21 ≤ 6785288)
    (kk : ∀ ρ α' M' cs' ss', CW ρ α' M' → RW ρ M' → AR M' 0 L xs → cs' ≤ cs + 2 → ss' ≤ ss + 21 → AW mL_law room_1 Q 1621 [some (.ref 0), some (.ref 2), some (.ref 25), some (.int (nI i))] [] M' cs' ss') : AW mL_law room_1 Q 1386 [some (.ref 0), some (.ref 2), some (.ref 25), some (.int (nI i))] [] M cs ss := by
  obtain ⟨z, PC, P, hc, hr, hcl⟩ := p_cell hC (xs (i + 1)) (xs (i + 2)) (xs (i + 3))
  refine aw_aload1 1386 dL_law_1386 ?_
  refine aw_aload0 1387 dL_law_1387 ?_
  refine aw_iload3 1388 dL_law_1388 ?_
  refine aw_ic1 1389 dL_law_1389 ?_
  refine aw_iaddN 1390 (i) (1) dL_law_1390 rfl rfl ?_
  refine ar_ld 1391 (i + 1) dL_law_1391 hX rfl (show i + 1 < L by omega) (by omega) ?_
  refine aw_aload0 1392 dL_law_1392 ?_
  refine aw_iload3 1393 dL_law_1393 ?_
  refine aw_ic2 1394 dL_law_1394 ?_
  refine aw_iaddN 1395 (i) (2) dL_law_1395 rfl rfl ?_
  refine ar_ld 1396 (i + 2) dL_law_1396 hX rfl (show i + 2 < L by omega) (by omega) ?_
  refine aw_aload0 1397 dL_law_1397 ?_
  refine aw_iload3 1398 dL_law_1398 ?_
  refine aw_ic3 1399 dL_law_1399 ?_
  refine aw_iaddN 1400 (i) (3) dL_law_1400 rfl rfl ?_
  refine ar_ld 1401 (i + 3) dL_law_1401 hX rfl (show i + 3 < L by omega) (by omega) ?_
  refine lw_c 1402 dL_law_1402 hc ckV_RL_146 cd_X11_cell hC.xo.1 vc11 rfl rfl (Nat.le_of_ble_eq_true rfl) ⟨⟨by decide, by decide⟩, by show cs + 0 ≤ 772320; omega, by show ss + 0 ≤ 6785288; omega⟩ (fun M hPC => ?_)
  obtain ⟨hKr, hfin⟩ := hcl M hPC
  replace hW := hW.kr hKr
  replace hX := hX.kr hKr
  clear hKr
  refine aw_aload2 1405 dL_law_1405 ?_
  refine aw_aload0 1406 dL_law_1406 ?_
  refine aw_iload3 1407 dL_law_1407 ?_
  refine aw_ic1 1408 dL_law_1408 ?_
  refine aw_iaddN 1409 (i) (1) dL_law_1409 rfl rfl ?_
  refine ar_ld 1410 (i + 1) dL_law_1410 hX rfl (show i + 1 < L by omega) (by omega) ?_
  refine aw_aload0 1411 dL_law_1411 ?_
  refine aw_iload3 1412 dL_law_1412 ?_
  refine aw_ic2 1413 dL_law_1413 ?_
  refine aw_iaddN 1414 (i) (2) dL_law_1414 rfl rfl ?_
  refine ar_ld 1415 (i + 2) dL_law_1415 hX rfl (show i + 2 < L by omega) (by omega) ?_
  refine aw_aload0 1416 dL_law_1416 ?_
  refine aw_iload3 1417 dL_law_1417 ?_
  refine aw_ic3 1418 dL_law_1418 ?_
  refine aw_iaddN 1419 (i) (3) dL_law_1419 rfl rfl ?_
  refine ar_ld 1420 (i + 3) dL_law_1420 hX rfl (show i + 3 < L by omega) (by omega) ?_
  refine rp_call1 1421 dL_law_1421 hr ckV_RL_149 cd_X12_cell rfl ⟨hW, Off.rf _⟩ rfl (Nat.le_of_ble_eq_true rfl) ⟨⟨by decide, by decide⟩, by show cs + 0 + 0 ≤ 772320; omega, by show ss + 0 + 0 ≤ 6785288; omega⟩ rfl (fun ρ M hP hRO => ?_)
  obtain ⟨α', hC'⟩ := hfin ρ hP
  replace hC' := hC'.off hRO.2
  replace hX := hX.off hRO.2
  refine aw_lcmp 1424 dL_law_1424 ?_
  refine aw_if_eq 1425 1621 dL_law_1425 (by decide) (fun _ => ?_) (fun q => absurd (lc_eq.mpr rfl) q)
  exact kk ρ α' M _ _ hC' hRO.1 hX (by show cs + 0 ≤ cs + 2; omega) (by show ss + 0 ≤ ss + 21; omega)

set_option maxHeartbeats 4000000 in
set_option maxRecDepth 100000 in
theorem k_copy {Q : Option Value → Mem → Prop} {σ : TT} {α : AT} {M : Mem} {L i cs ss : Nat} {xs : Nat → Int32} (hC : CW σ α M) (hW : RW σ M) (hX : AR M 0 L xs) (hL : L ≤ 4608) (hi : i + 9 ≤ L) (hcs : cs + 2 ≤ 772320) (hss : ss + 21 ≤ 6785288)
    (kk : ∀ ρ α' M' cs' ss', CW ρ α' M' → RW ρ M' → AR M' 0 L xs → cs' ≤ cs + 2 → ss' ≤ ss + 21 → AW mL_law room_1 Q 1621 [some (.ref 0), some (.ref 2), some (.ref 25), some (.int (nI i))] [] M' cs' ss') : AW mL_law room_1 Q 1430 [some (.ref 0), some (.ref 2), some (.ref 25), some (.int (nI i))] [] M cs ss := by
  obtain ⟨z, PC, P, hc, hr, hcl⟩ := p_copy hC (xs (i + 1)) (xs (i + 2)) (xs (i + 3)) (xs (i + 4)) (xs (i + 5))
  refine aw_aload1 1430 dL_law_1430 ?_
  refine aw_aload0 1431 dL_law_1431 ?_
  refine aw_iload3 1432 dL_law_1432 ?_
  refine aw_ic1 1433 dL_law_1433 ?_
  refine aw_iaddN 1434 (i) (1) dL_law_1434 rfl rfl ?_
  refine ar_ld 1435 (i + 1) dL_law_1435 hX rfl (show i + 1 < L by omega) (by omega) ?_
  refine aw_aload0 1436 dL_law_1436 ?_
  refine aw_iload3 1437 dL_law_1437 ?_
  refine aw_ic2 1438 dL_law_1438 ?_
  refine aw_iaddN 1439 (i) (2) dL_law_1439 rfl rfl ?_
  refine ar_ld 1440 (i + 2) dL_law_1440 hX rfl (show i + 2 < L by omega) (by omega) ?_
  refine aw_aload0 1441 dL_law_1441 ?_
  refine aw_iload3 1442 dL_law_1442 ?_
  refine aw_ic3 1443 dL_law_1443 ?_
  refine aw_iaddN 1444 (i) (3) dL_law_1444 rfl rfl ?_
  refine ar_ld 1445 (i + 3) dL_law_1445 hX rfl (show i + 3 < L by omega) (by omega) ?_
  refine aw_aload0 1446 dL_law_1446 ?_
  refine aw_iload3 1447 dL_law_1447 ?_
  refine aw_ic4 1448 dL_law_1448 ?_
  refine aw_iaddN 1449 (i) (4) dL_law_1449 rfl rfl ?_
  refine ar_ld 1450 (i + 4) dL_law_1450 hX rfl (show i + 4 < L by omega) (by omega) ?_
  refine aw_aload0 1451 dL_law_1451 ?_
  refine aw_iload3 1452 dL_law_1452 ?_
  refine aw_ic5 1453 dL_law_1453 ?_
  refine aw_iaddN 1454 (i) (5) dL_law_1454 rfl rfl ?_
  refine ar_ld 1455 (i + 5) dL_law_1455 hX rfl (show i + 5 < L by omega) (by omega) ?_
  refine lw_c 1456 dL_law_1456 hc ckV_RL_150 cd_X11_copy hC.xo.1 vc11 rfl rfl (Nat.le_of_ble_eq_true rfl) ⟨⟨by decide, by decide⟩, by show cs + 0 ≤ 772320; omega, by show ss + 0 ≤ 6785288; omega⟩ (fun M hPC => ?_)
  obtain ⟨hKr, hfin⟩ := hcl M hPC
  replace hW := hW.kr hKr
  replace hX := hX.kr hKr
  clear hKr
  refine aw_aload2 1459 dL_law_1459 ?_
  refine aw_aload0 1460 dL_law_1460 ?_
  refine aw_iload3 1461 dL_law_1461 ?_
  refine aw_ic1 1462 dL_law_1462 ?_
  refine aw_iaddN 1463 (i) (1) dL_law_1463 rfl rfl ?_
  refine ar_ld 1464 (i + 1) dL_law_1464 hX rfl (show i + 1 < L by omega) (by omega) ?_
  refine aw_aload0 1465 dL_law_1465 ?_
  refine aw_iload3 1466 dL_law_1466 ?_
  refine aw_ic2 1467 dL_law_1467 ?_
  refine aw_iaddN 1468 (i) (2) dL_law_1468 rfl rfl ?_
  refine ar_ld 1469 (i + 2) dL_law_1469 hX rfl (show i + 2 < L by omega) (by omega) ?_
  refine aw_aload0 1470 dL_law_1470 ?_
  refine aw_iload3 1471 dL_law_1471 ?_
  refine aw_ic3 1472 dL_law_1472 ?_
  refine aw_iaddN 1473 (i) (3) dL_law_1473 rfl rfl ?_
  refine ar_ld 1474 (i + 3) dL_law_1474 hX rfl (show i + 3 < L by omega) (by omega) ?_
  refine aw_aload0 1475 dL_law_1475 ?_
  refine aw_iload3 1476 dL_law_1476 ?_
  refine aw_ic4 1477 dL_law_1477 ?_
  refine aw_iaddN 1478 (i) (4) dL_law_1478 rfl rfl ?_
  refine ar_ld 1479 (i + 4) dL_law_1479 hX rfl (show i + 4 < L by omega) (by omega) ?_
  refine aw_aload0 1480 dL_law_1480 ?_
  refine aw_iload3 1481 dL_law_1481 ?_
  refine aw_ic5 1482 dL_law_1482 ?_
  refine aw_iaddN 1483 (i) (5) dL_law_1483 rfl rfl ?_
  refine ar_ld 1484 (i + 5) dL_law_1484 hX rfl (show i + 5 < L by omega) (by omega) ?_
  refine rp_call1 1485 dL_law_1485 hr ckV_RL_153 cd_X12_copy rfl ⟨hW, Off.rf _⟩ rfl (Nat.le_of_ble_eq_true rfl) ⟨⟨by decide, by decide⟩, by show cs + 0 + 0 ≤ 772320; omega, by show ss + 0 + 0 ≤ 6785288; omega⟩ rfl (fun ρ M hP hRO => ?_)
  obtain ⟨α', hC'⟩ := hfin ρ hP
  replace hC' := hC'.off hRO.2
  replace hX := hX.off hRO.2
  refine aw_icmp_eq 1488 1621 dL_law_1488 (by decide) (fun _ => ?_) (fun q => absurd rfl q)
  exact kk ρ α' M _ _ hC' hRO.1 hX (by show cs + 0 ≤ cs + 2; omega) (by show ss + 0 ≤ ss + 21; omega)

set_option maxHeartbeats 4000000 in
set_option maxRecDepth 100000 in
theorem k_tell {Q : Option Value → Mem → Prop} {σ : TT} {α : AT} {M : Mem} {L i cs ss : Nat} {xs : Nat → Int32} (hC : CW σ α M) (hW : RW σ M) (hX : AR M 0 L xs) (hL : L ≤ 4608) (hi : i + 9 ≤ L) (hcs : cs + 2 ≤ 772320) (hss : ss + 21 ≤ 6785288)
    (kk : ∀ ρ α' M' cs' ss', CW ρ α' M' → RW ρ M' → AR M' 0 L xs → cs' ≤ cs + 2 → ss' ≤ ss + 21 → AW mL_law room_1 Q 1621 [some (.ref 0), some (.ref 2), some (.ref 25), some (.int (nI i))] [] M' cs' ss') : AW mL_law room_1 Q 1493 [some (.ref 0), some (.ref 2), some (.ref 25), some (.int (nI i))] [] M cs ss := by
  obtain ⟨z, PC, P, hc, hr, hcl⟩ := p_tell hC (xs (i + 1))
  refine aw_aload1 1493 dL_law_1493 ?_
  refine aw_aload0 1494 dL_law_1494 ?_
  refine aw_iload3 1495 dL_law_1495 ?_
  refine aw_ic1 1496 dL_law_1496 ?_
  refine aw_iaddN 1497 (i) (1) dL_law_1497 rfl rfl ?_
  refine ar_ld 1498 (i + 1) dL_law_1498 hX rfl (show i + 1 < L by omega) (by omega) ?_
  refine lw_c 1499 dL_law_1499 hc ckV_RL_154 cd_X11_tell hC.xo.1 vc11 rfl rfl (Nat.le_of_ble_eq_true rfl) ⟨⟨by decide, by decide⟩, by show cs + 0 ≤ 772320; omega, by show ss + 0 ≤ 6785288; omega⟩ (fun M hPC => ?_)
  obtain ⟨hKr, hfin⟩ := hcl M hPC
  replace hW := hW.kr hKr
  replace hX := hX.kr hKr
  clear hKr
  refine aw_aload2 1502 dL_law_1502 ?_
  refine aw_aload0 1503 dL_law_1503 ?_
  refine aw_iload3 1504 dL_law_1504 ?_
  refine aw_ic1 1505 dL_law_1505 ?_
  refine aw_iaddN 1506 (i) (1) dL_law_1506 rfl rfl ?_
  refine ar_ld 1507 (i + 1) dL_law_1507 hX rfl (show i + 1 < L by omega) (by omega) ?_
  refine rp_call1 1508 dL_law_1508 hr ckV_RL_157 cd_X12_tell rfl ⟨hW, Off.rf _⟩ rfl (Nat.le_of_ble_eq_true rfl) ⟨⟨by decide, by decide⟩, by show cs + 0 + 0 ≤ 772320; omega, by show ss + 0 + 0 ≤ 6785288; omega⟩ rfl (fun ρ M hP hRO => ?_)
  obtain ⟨α', hC'⟩ := hfin ρ hP
  replace hC' := hC'.off hRO.2
  replace hX := hX.off hRO.2
  refine aw_icmp_eq 1511 1621 dL_law_1511 (by decide) (fun _ => ?_) (fun q => absurd rfl q)
  exact kk ρ α' M _ _ hC' hRO.1 hX (by show cs + 0 ≤ cs + 2; omega) (by show ss + 0 ≤ ss + 21; omega)

set_option maxHeartbeats 4000000 in
set_option maxRecDepth 100000 in
theorem k_show {Q : Option Value → Mem → Prop} {σ : TT} {α : AT} {M : Mem} {L i cs ss : Nat} {xs : Nat → Int32} (hC : CW σ α M) (hW : RW σ M) (hX : AR M 0 L xs) (hL : L ≤ 4608) (hi : i + 9 ≤ L) (hcs : cs + 2 ≤ 772320) (hss : ss + 21 ≤ 6785288)
    (kk : ∀ ρ α' M' cs' ss', CW ρ α' M' → RW ρ M' → AR M' 0 L xs → cs' ≤ cs + 2 → ss' ≤ ss + 21 → AW mL_law room_1 Q 1621 [some (.ref 0), some (.ref 2), some (.ref 25), some (.int (nI i))] [] M' cs' ss') : AW mL_law room_1 Q 1516 [some (.ref 0), some (.ref 2), some (.ref 25), some (.int (nI i))] [] M cs ss := by
  obtain ⟨z, PC, P, hc, hr, hcl⟩ := p_show hC (xs (i + 1))
  refine aw_aload1 1516 dL_law_1516 ?_
  refine aw_aload0 1517 dL_law_1517 ?_
  refine aw_iload3 1518 dL_law_1518 ?_
  refine aw_ic1 1519 dL_law_1519 ?_
  refine aw_iaddN 1520 (i) (1) dL_law_1520 rfl rfl ?_
  refine ar_ld 1521 (i + 1) dL_law_1521 hX rfl (show i + 1 < L by omega) (by omega) ?_
  refine lw_c 1522 dL_law_1522 hc ckV_RL_158 cd_X11_show hC.xo.1 vc11 rfl rfl (Nat.le_of_ble_eq_true rfl) ⟨⟨by decide, by decide⟩, by show cs + 0 ≤ 772320; omega, by show ss + 0 ≤ 6785288; omega⟩ (fun M hPC => ?_)
  obtain ⟨hKr, hfin⟩ := hcl M hPC
  replace hW := hW.kr hKr
  replace hX := hX.kr hKr
  clear hKr
  refine aw_aload2 1525 dL_law_1525 ?_
  refine aw_aload0 1526 dL_law_1526 ?_
  refine aw_iload3 1527 dL_law_1527 ?_
  refine aw_ic1 1528 dL_law_1528 ?_
  refine aw_iaddN 1529 (i) (1) dL_law_1529 rfl rfl ?_
  refine ar_ld 1530 (i + 1) dL_law_1530 hX rfl (show i + 1 < L by omega) (by omega) ?_
  refine rp_call1 1531 dL_law_1531 hr ckV_RL_161 cd_X12_show rfl ⟨hW, Off.rf _⟩ rfl (Nat.le_of_ble_eq_true rfl) ⟨⟨by decide, by decide⟩, by show cs + 0 + 0 ≤ 772320; omega, by show ss + 0 + 0 ≤ 6785288; omega⟩ rfl (fun ρ M hP hRO => ?_)
  obtain ⟨α', hC'⟩ := hfin ρ hP
  replace hC' := hC'.off hRO.2
  replace hX := hX.off hRO.2
  refine aw_icmp_eq 1534 1621 dL_law_1534 (by decide) (fun _ => ?_) (fun q => absurd rfl q)
  exact kk ρ α' M _ _ hC' hRO.1 hX (by show cs + 0 ≤ cs + 2; omega) (by show ss + 0 ≤ ss + 21; omega)

set_option maxHeartbeats 4000000 in
set_option maxRecDepth 100000 in
theorem k_as {Q : Option Value → Mem → Prop} {σ : TT} {α : AT} {M : Mem} {L i cs ss : Nat} {xs : Nat → Int32} (hC : CW σ α M) (hW : RW σ M) (hX : AR M 0 L xs) (hL : L ≤ 4608) (hi : i + 9 ≤ L) (hcs : cs + 2 ≤ 772320) (hss : ss + 21 ≤ 6785288)
    (kk : ∀ ρ α' M' cs' ss', CW ρ α' M' → RW ρ M' → AR M' 0 L xs → cs' ≤ cs + 2 → ss' ≤ ss + 21 → AW mL_law room_1 Q 1621 [some (.ref 0), some (.ref 2), some (.ref 25), some (.int (nI i))] [] M' cs' ss') : AW mL_law room_1 Q 1539 [some (.ref 0), some (.ref 2), some (.ref 25), some (.int (nI i))] [] M cs ss := by
  obtain ⟨z, PC, P, hc, hr, hcl⟩ := p_as hC (xs (i + 1)) (xs (i + 2))
  refine aw_aload1 1539 dL_law_1539 ?_
  refine aw_aload0 1540 dL_law_1540 ?_
  refine aw_iload3 1541 dL_law_1541 ?_
  refine aw_ic1 1542 dL_law_1542 ?_
  refine aw_iaddN 1543 (i) (1) dL_law_1543 rfl rfl ?_
  refine ar_ld 1544 (i + 1) dL_law_1544 hX rfl (show i + 1 < L by omega) (by omega) ?_
  refine aw_aload0 1545 dL_law_1545 ?_
  refine aw_iload3 1546 dL_law_1546 ?_
  refine aw_ic2 1547 dL_law_1547 ?_
  refine aw_iaddN 1548 (i) (2) dL_law_1548 rfl rfl ?_
  refine ar_ld 1549 (i + 2) dL_law_1549 hX rfl (show i + 2 < L by omega) (by omega) ?_
  refine lw_c 1550 dL_law_1550 hc ckV_RL_162 cd_X11_as hC.xo.1 vc11 rfl rfl (Nat.le_of_ble_eq_true rfl) ⟨⟨by decide, by decide⟩, by show cs + 0 ≤ 772320; omega, by show ss + 0 ≤ 6785288; omega⟩ (fun M hPC => ?_)
  obtain ⟨hKr, hfin⟩ := hcl M hPC
  replace hW := hW.kr hKr
  replace hX := hX.kr hKr
  clear hKr
  refine aw_aload2 1553 dL_law_1553 ?_
  refine aw_aload0 1554 dL_law_1554 ?_
  refine aw_iload3 1555 dL_law_1555 ?_
  refine aw_ic1 1556 dL_law_1556 ?_
  refine aw_iaddN 1557 (i) (1) dL_law_1557 rfl rfl ?_
  refine ar_ld 1558 (i + 1) dL_law_1558 hX rfl (show i + 1 < L by omega) (by omega) ?_
  refine aw_aload0 1559 dL_law_1559 ?_
  refine aw_iload3 1560 dL_law_1560 ?_
  refine aw_ic2 1561 dL_law_1561 ?_
  refine aw_iaddN 1562 (i) (2) dL_law_1562 rfl rfl ?_
  refine ar_ld 1563 (i + 2) dL_law_1563 hX rfl (show i + 2 < L by omega) (by omega) ?_
  refine rp_call1 1564 dL_law_1564 hr ckV_RL_165 cd_X12_as rfl ⟨hW, Off.rf _⟩ rfl (Nat.le_of_ble_eq_true rfl) ⟨⟨by decide, by decide⟩, by show cs + 0 + 0 ≤ 772320; omega, by show ss + 0 + 0 ≤ 6785288; omega⟩ rfl (fun ρ M hP hRO => ?_)
  obtain ⟨α', hC'⟩ := hfin ρ hP
  replace hC' := hC'.off hRO.2
  replace hX := hX.off hRO.2
  refine aw_icmp_eq 1567 1621 dL_law_1567 (by decide) (fun _ => ?_) (fun q => absurd rfl q)
  exact kk ρ α' M _ _ hC' hRO.1 hX (by show cs + 0 ≤ cs + 2; omega) (by show ss + 0 ≤ ss + 21; omega)

set_option maxHeartbeats 4000000 in
set_option maxRecDepth 100000 in
theorem k_trace {Q : Option Value → Mem → Prop} {σ : TT} {α : AT} {M : Mem} {L i cs ss : Nat} {xs : Nat → Int32} (hC : CW σ α M) (hW : RW σ M) (hX : AR M 0 L xs) (hL : L ≤ 4608) (hi : i + 9 ≤ L) (hcs : cs + 2 ≤ 772320) (hss : ss + 21 ≤ 6785288)
    (kk : ∀ ρ α' M' cs' ss', CW ρ α' M' → RW ρ M' → AR M' 0 L xs → cs' ≤ cs + 2 → ss' ≤ ss + 21 → AW mL_law room_1 Q 1621 [some (.ref 0), some (.ref 2), some (.ref 25), some (.int (nI i))] [] M' cs' ss') : AW mL_law room_1 Q 1572 [some (.ref 0), some (.ref 2), some (.ref 25), some (.int (nI i))] [] M cs ss := by
  obtain ⟨z, PC, P, hc, hr, hcl⟩ := p_trace hC
  refine aw_aload1 1572 dL_law_1572 ?_
  refine lw_c 1573 dL_law_1573 hc ckV_RL_166 cd_X11_trace hC.xo.1 vc11 rfl rfl (Nat.le_of_ble_eq_true rfl) ⟨⟨by decide, by decide⟩, by show cs + 0 ≤ 772320; omega, by show ss + 0 ≤ 6785288; omega⟩ (fun M hPC => ?_)
  obtain ⟨hKr, hfin⟩ := hcl M hPC
  replace hW := hW.kr hKr
  replace hX := hX.kr hKr
  clear hKr
  refine aw_aload2 1576 dL_law_1576 ?_
  refine rp_call1 1577 dL_law_1577 hr ckV_RL_169 cd_X12_trace rfl ⟨hW, Off.rf _⟩ rfl (Nat.le_of_ble_eq_true rfl) ⟨⟨by decide, by decide⟩, by show cs + 0 + 0 ≤ 772320; omega, by show ss + 0 + 0 ≤ 6785288; omega⟩ rfl (fun ρ M hP hRO => ?_)
  obtain ⟨α', hC'⟩ := hfin ρ hP
  replace hC' := hC'.off hRO.2
  replace hX := hX.off hRO.2
  refine aw_icmp_eq 1580 1621 dL_law_1580 (by decide) (fun _ => ?_) (fun q => absurd rfl q)
  exact kk ρ α' M _ _ hC' hRO.1 hX (by show cs + 0 ≤ cs + 2; omega) (by show ss + 0 ≤ ss + 21; omega)

set_option maxHeartbeats 4000000 in
set_option maxRecDepth 100000 in
theorem k_fault {Q : Option Value → Mem → Prop} {σ : TT} {α : AT} {M : Mem} {L i cs ss : Nat} {xs : Nat → Int32} (hC : CW σ α M) (hW : RW σ M) (hX : AR M 0 L xs) (hL : L ≤ 4608) (hi : i + 9 ≤ L) (hcs : cs + 2 ≤ 772320) (hss : ss + 21 ≤ 6785288)
    (kk : ∀ ρ α' M' cs' ss', CW ρ α' M' → RW ρ M' → AR M' 0 L xs → cs' ≤ cs + 2 → ss' ≤ ss + 21 → AW mL_law room_1 Q 1621 [some (.ref 0), some (.ref 2), some (.ref 25), some (.int (nI i))] [] M' cs' ss') : AW mL_law room_1 Q 1585 [some (.ref 0), some (.ref 2), some (.ref 25), some (.int (nI i))] [] M cs ss := by
  obtain ⟨z, PC, P, hc, hr, hcl⟩ := p_fault hC
  refine aw_aload1 1585 dL_law_1585 ?_
  refine lw_c 1586 dL_law_1586 hc ckV_RL_170 cd_X11_fault hC.xo.1 vc11 rfl rfl (Nat.le_of_ble_eq_true rfl) ⟨⟨by decide, by decide⟩, by show cs + 0 ≤ 772320; omega, by show ss + 0 ≤ 6785288; omega⟩ (fun M hPC => ?_)
  obtain ⟨hKr, hfin⟩ := hcl M hPC
  replace hW := hW.kr hKr
  replace hX := hX.kr hKr
  clear hKr
  refine aw_aload2 1589 dL_law_1589 ?_
  refine rp_call1 1590 dL_law_1590 hr ckV_RL_173 cd_X12_fault rfl ⟨hW, Off.rf _⟩ rfl (Nat.le_of_ble_eq_true rfl) ⟨⟨by decide, by decide⟩, by show cs + 0 + 0 ≤ 772320; omega, by show ss + 0 + 0 ≤ 6785288; omega⟩ rfl (fun ρ M hP hRO => ?_)
  obtain ⟨α', hC'⟩ := hfin ρ hP
  replace hC' := hC'.off hRO.2
  replace hX := hX.off hRO.2
  refine aw_icmp_eq 1593 1621 dL_law_1593 (by decide) (fun _ => ?_) (fun q => absurd rfl q)
  exact kk ρ α' M _ _ hC' hRO.1 hX (by show cs + 0 ≤ cs + 2; omega) (by show ss + 0 ≤ ss + 21; omega)

set_option maxHeartbeats 4000000 in
set_option maxRecDepth 100000 in
theorem k_many {Q : Option Value → Mem → Prop} {σ : TT} {α : AT} {M : Mem} {L i cs ss : Nat} {xs : Nat → Int32} (hC : CW σ α M) (hW : RW σ M) (hX : AR M 0 L xs) (hL : L ≤ 4608) (hi : i + 9 ≤ L) (hcs : cs + 2 ≤ 772320) (hss : ss + 21 ≤ 6785288)
    (kk : ∀ ρ α' M' cs' ss', CW ρ α' M' → RW ρ M' → AR M' 0 L xs → cs' ≤ cs + 2 → ss' ≤ ss + 21 → AW mL_law room_1 Q 1621 [some (.ref 0), some (.ref 2), some (.ref 25), some (.int (nI i))] [] M' cs' ss') : AW mL_law room_1 Q 1598 [some (.ref 0), some (.ref 2), some (.ref 25), some (.int (nI i))] [] M cs ss := by
  obtain ⟨z, PC, P, hc, hr, hcl⟩ := p_many hC (xs (i + 1))
  refine aw_aload1 1598 dL_law_1598 ?_
  refine aw_aload0 1599 dL_law_1599 ?_
  refine aw_iload3 1600 dL_law_1600 ?_
  refine aw_ic1 1601 dL_law_1601 ?_
  refine aw_iaddN 1602 (i) (1) dL_law_1602 rfl rfl ?_
  refine ar_ld 1603 (i + 1) dL_law_1603 hX rfl (show i + 1 < L by omega) (by omega) ?_
  refine lw_c 1604 dL_law_1604 hc ckV_RL_174 cd_X11_many hC.xo.1 vc11 rfl rfl (Nat.le_of_ble_eq_true rfl) ⟨⟨by decide, by decide⟩, by show cs + 0 ≤ 772320; omega, by show ss + 0 ≤ 6785288; omega⟩ (fun M hPC => ?_)
  obtain ⟨hKr, hfin⟩ := hcl M hPC
  replace hW := hW.kr hKr
  replace hX := hX.kr hKr
  clear hKr
  refine aw_aload2 1607 dL_law_1607 ?_
  refine aw_aload0 1608 dL_law_1608 ?_
  refine aw_iload3 1609 dL_law_1609 ?_
  refine aw_ic1 1610 dL_law_1610 ?_
  refine aw_iaddN 1611 (i) (1) dL_law_1611 rfl rfl ?_
  refine ar_ld 1612 (i + 1) dL_law_1612 hX rfl (show i + 1 < L by omega) (by omega) ?_
  refine rp_call1 1613 dL_law_1613 hr ckV_RL_177 cd_X12_many rfl ⟨hW, Off.rf _⟩ rfl (Nat.le_of_ble_eq_true rfl) ⟨⟨by decide, by decide⟩, by show cs + 0 + 0 ≤ 772320; omega, by show ss + 0 + 0 ≤ 6785288; omega⟩ rfl (fun ρ M hP hRO => ?_)
  obtain ⟨α', hC'⟩ := hfin ρ hP
  replace hC' := hC'.off hRO.2
  replace hX := hX.off hRO.2
  refine aw_icmp_eq 1616 1621 dL_law_1616 (by decide) (fun _ => ?_) (fun q => absurd rfl q)
  exact kk ρ α' M _ _ hC' hRO.1 hX (by show cs + 0 ≤ cs + 2; omega) (by show ss + 0 ≤ ss + 21; omega)

