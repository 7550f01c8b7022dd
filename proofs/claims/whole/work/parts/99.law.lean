/-! THE LAW: its cases (by p99.py) -/
abbrev mL_law : Md := (yL_law, cL_law, 8, some .boolean)
/-- the script's i-th int -/
def sc (g : Gw) (i : Int) : Int := (gX g i.toNat).toInt
theorem sc_in (g : Gw) (i : Int) : inR (sc g i) := iI_rng _
section SL
variable {X : Cx} {l0 : Launch} {g : Gw} {μ : Md} {d mc ms : Nat} {Z : State → Prop} {kc ks pc : Nat} {L : List (Option Value)} {st : List Value} {σ : Sg}
theorem z_sld {i : Int} (b : BX X l0 g μ d mc ms) (hd : decode μ.2.1 pc = .ok (.iaload, 1)) (h : 0 ≤ i ∧ i < (gL g : Int) ∧ i < 2147483648) (kk : WW X g μ.2.2.1 Z kc ks (pc + 1) L (.int (iI (sc g i)) :: st) σ) : WW X g μ.2.2.1 Z kc ks pc L (.int (iI i) :: .float 1 :: st) σ := by
  refine w_sld b hd (iI_in h.1 h.2.1 h.2.2) ?_
  rw [iI_clamp h.1 h.2.2]
  unfold sc at kk
  rw [iI_of] at kk
  exact kk
theorem z_slen (b : BX X l0 g μ d mc ms) (hd : decode μ.2.1 pc = .ok (.arraylength, 1)) (kk : WW X g μ.2.2.1 Z kc ks (pc + 1) L (.int (iI (gL g : Int)) :: st) σ) : WW X g μ.2.2.1 Z kc ks pc L (.float 1 :: st) σ := by
  refine w_slen b hd ?_
  rw [iI_nat] at kk
  exact kk
end SL
theorem WI.o0 {w : Nat} {σ : Sg} (h : WI w σ) : σ.1 0 = .inr (8, tKC w) := by
  obtain ⟨C, A, V, h, nx, I, F, ca, sa, own, rfl, hS⟩ := h
  exact cpS (by decide) ct_0
theorem WI.m9 {w : Nat} {σ : Sg} (h : WI w σ) : M9 σ := by
  obtain ⟨C, A, V, h, nx, I, F, ca, sa, own, rfl, hS⟩ := h
  exact m9_cp
abbrev LL (i : Int) : List (Option Value) := [some (.float 1), some (.ref 0), some (.ref 257), some (.ref 290), some (.int (iI i)), none, none, none]
set_option maxRecDepth 20000 in
theorem law_chant {X : Cx} {l0 : Launch} {g : Gw} {Z : State → Prop} {w d mc ms kc ks : Nat} {σ : Sg} {i : Int} (b : BX X l0 g mL_law d mc ms) (hd : 41 ≤ d) (hl : l0.stackTraces = false) (hi : 1 ≤ i ∧ i + 5 < (gL g : Int) ∧ i < 100000) (hW : WI w σ) (hkc : kc + 3 ≤ mc) (hks : ks + 19 ≤ ms) (kk : ∀ kc' ks' σ', kc' ≤ kc + 3 → ks' ≤ ks + 19 → WI w σ' → WW X g mL_law.2.2.1 Z kc' ks' 1440 (LL i) [] σ') : WW X g mL_law.2.2.1 Z kc ks 200 (LL i) [] σ := by
  refine w_aload_n b dL_law_200 rfl rfl ?_
  obtain ⟨d1, mc1, ms1, q1, q2, q3, hM⟩ := s_chant  σ hW
  refine w_callV (st := []) (vs := []) b dL_law_201 lmL_29 rfl rfl hW.o0 (tle rfl) (by omega) (by omega) (by omega) hM (fun r1 σ1 hq => ?_)
  obtain ⟨z, rfl, e1, he, ⟨fs9, m9⟩, hN⟩ := hq
  refine w_aload_n b dL_law_204 rfl rfl ?_
  refine w_callV (st := [.int (iI z)]) (vs := []) b dL_law_205 lmL_33 rfl rfl m9 (tle rfl) (by omega) (by omega) (by omega) hN (fun r2 σ2 hq => ?_)
  obtain ⟨rfl, hW2⟩ := hq
  refine w_icmp_eq (tgt := 1440) b dL_law_208 (by decide) (fun _ => ?_) (fun z => absurd rfl z)
  exact kk _ _ σ2 (by omega) (by omega) hW2
set_option maxRecDepth 20000 in
theorem law_step {X : Cx} {l0 : Launch} {g : Gw} {Z : State → Prop} {w d mc ms kc ks : Nat} {σ : Sg} {i : Int} (b : BX X l0 g mL_law d mc ms) (hd : 41 ≤ d) (hl : l0.stackTraces = false) (hi : 1 ≤ i ∧ i + 5 < (gL g : Int) ∧ i < 100000) (hW : WI w σ) (hkc : kc + 3 ≤ mc) (hks : ks + 19 ≤ ms) (kk : ∀ kc' ks' σ', kc' ≤ kc + 3 → ks' ≤ ks + 19 → WI w σ' → WW X g mL_law.2.2.1 Z kc' ks' 1440 (LL i) [] σ') : WW X g mL_law.2.2.1 Z kc ks 213 (LL i) [] σ := by
  refine w_aload_n b dL_law_213 rfl rfl ?_
  refine w_aload_n b dL_law_214 rfl rfl ?_
  refine w_iload b dL_law_215 rfl ?_
  refine z_iconst b dL_law_217 ?_
  refine z_iadd b dL_law_218 ?_
  refine z_sld b dL_law_219 (by omega) ?_
  refine w_aload_n b dL_law_220 rfl rfl ?_
  refine w_iload b dL_law_221 rfl ?_
  refine z_iconst b dL_law_223 ?_
  refine z_iadd b dL_law_224 ?_
  refine z_sld b dL_law_225 (by omega) ?_
  refine w_aload_n b dL_law_226 rfl rfl ?_
  refine w_iload b dL_law_227 rfl ?_
  refine z_iconst b dL_law_229 ?_
  refine z_iadd b dL_law_230 ?_
  refine z_sld b dL_law_231 (by omega) ?_
  obtain ⟨d1, mc1, ms1, q1, q2, q3, hM⟩ := s_step (sc_in g _) (sc_in g _) (sc_in g _) σ hW
  refine w_callV (st := []) (vs := [.int (iI (sc g (i + 1))), .int (iI (sc g (i + 2))), .int (iI (sc g (i + 3)))]) b dL_law_232 lmL_34 rfl rfl hW.o0 (tle rfl) (by omega) (by omega) (by omega) hM (fun r1 σ1 hq => ?_)
  obtain ⟨z, rfl, e1, he, ⟨fs9, m9⟩, hN⟩ := hq
  refine w_aload_n b dL_law_235 rfl rfl ?_
  refine w_aload_n b dL_law_236 rfl rfl ?_
  refine w_iload b dL_law_237 rfl ?_
  refine z_iconst b dL_law_239 ?_
  refine z_iadd b dL_law_240 ?_
  refine z_sld b dL_law_241 (by omega) ?_
  refine w_aload_n b dL_law_242 rfl rfl ?_
  refine w_iload b dL_law_243 rfl ?_
  refine z_iconst b dL_law_245 ?_
  refine z_iadd b dL_law_246 ?_
  refine z_sld b dL_law_247 (by omega) ?_
  refine w_aload_n b dL_law_248 rfl rfl ?_
  refine w_iload b dL_law_249 rfl ?_
  refine z_iconst b dL_law_251 ?_
  refine z_iadd b dL_law_252 ?_
  refine z_sld b dL_law_253 (by omega) ?_
  refine w_callV (st := [.int (iI z)]) (vs := [.int (iI (sc g (i + 1))), .int (iI (sc g (i + 2))), .int (iI (sc g (i + 3)))]) b dL_law_254 lmL_38 rfl rfl m9 (tle rfl) (by omega) (by omega) (by omega) hN (fun r2 σ2 hq => ?_)
  obtain ⟨rfl, hW2⟩ := hq
  refine w_icmp_eq (tgt := 1440) b dL_law_257 (by decide) (fun _ => ?_) (fun z => absurd rfl z)
  exact kk _ _ σ2 (by omega) (by omega) hW2
set_option maxRecDepth 20000 in
theorem law_length {X : Cx} {l0 : Launch} {g : Gw} {Z : State → Prop} {w d mc ms kc ks : Nat} {σ : Sg} {i : Int} (b : BX X l0 g mL_law d mc ms) (hd : 41 ≤ d) (hl : l0.stackTraces = false) (hi : 1 ≤ i ∧ i + 5 < (gL g : Int) ∧ i < 100000) (hW : WI w σ) (hkc : kc + 3 ≤ mc) (hks : ks + 19 ≤ ms) (kk : ∀ kc' ks' σ', kc' ≤ kc + 3 → ks' ≤ ks + 19 → WI w σ' → WW X g mL_law.2.2.1 Z kc' ks' 1440 (LL i) [] σ') : WW X g mL_law.2.2.1 Z kc ks 262 (LL i) [] σ := by
  refine w_aload_n b dL_law_262 rfl rfl ?_
  refine w_aload_n b dL_law_263 rfl rfl ?_
  refine w_iload b dL_law_264 rfl ?_
  refine z_iconst b dL_law_266 ?_
  refine z_iadd b dL_law_267 ?_
  refine z_sld b dL_law_268 (by omega) ?_
  obtain ⟨d1, mc1, ms1, q1, q2, q3, hM⟩ := s_length (sc_in g _) σ hW
  refine w_callV (st := []) (vs := [.int (iI (sc g (i + 1)))]) b dL_law_269 lmL_39 rfl rfl hW.o0 (tle rfl) (by omega) (by omega) (by omega) hM (fun r1 σ1 hq => ?_)
  obtain ⟨z, rfl, e1, he, ⟨fs9, m9⟩, hN⟩ := hq
  refine w_aload_n b dL_law_272 rfl rfl ?_
  refine w_aload_n b dL_law_273 rfl rfl ?_
  refine w_iload b dL_law_274 rfl ?_
  refine z_iconst b dL_law_276 ?_
  refine z_iadd b dL_law_277 ?_
  refine z_sld b dL_law_278 (by omega) ?_
  refine w_callV (st := [.int (iI z)]) (vs := [.int (iI (sc g (i + 1)))]) b dL_law_279 lmL_43 rfl rfl m9 (tle rfl) (by omega) (by omega) (by omega) hN (fun r2 σ2 hq => ?_)
  obtain ⟨rfl, hW2⟩ := hq
  refine w_icmp_eq (tgt := 1440) b dL_law_282 (by decide) (fun _ => ?_) (fun z => absurd rfl z)
  exact kk _ _ σ2 (by omega) (by omega) hW2
set_option maxRecDepth 20000 in
theorem law_colour {X : Cx} {l0 : Launch} {g : Gw} {Z : State → Prop} {w d mc ms kc ks : Nat} {σ : Sg} {i : Int} (b : BX X l0 g mL_law d mc ms) (hd : 41 ≤ d) (hl : l0.stackTraces = false) (hi : 1 ≤ i ∧ i + 5 < (gL g : Int) ∧ i < 100000) (hW : WI w σ) (hkc : kc + 3 ≤ mc) (hks : ks + 19 ≤ ms) (kk : ∀ kc' ks' σ', kc' ≤ kc + 3 → ks' ≤ ks + 19 → WI w σ' → WW X g mL_law.2.2.1 Z kc' ks' 1440 (LL i) [] σ') : WW X g mL_law.2.2.1 Z kc ks 287 (LL i) [] σ := by
  refine w_aload_n b dL_law_287 rfl rfl ?_
  refine w_aload_n b dL_law_288 rfl rfl ?_
  refine w_iload b dL_law_289 rfl ?_
  refine z_iconst b dL_law_291 ?_
  refine z_iadd b dL_law_292 ?_
  refine z_sld b dL_law_293 (by omega) ?_
  refine w_aload_n b dL_law_294 rfl rfl ?_
  refine w_iload b dL_law_295 rfl ?_
  refine z_iconst b dL_law_297 ?_
  refine z_iadd b dL_law_298 ?_
  refine z_sld b dL_law_299 (by omega) ?_
  obtain ⟨d1, mc1, ms1, q1, q2, q3, hM⟩ := s_colour (sc_in g _) (sc_in g _) σ hW
  refine w_callV (st := []) (vs := [.int (iI (sc g (i + 1))), .int (iI (sc g (i + 2)))]) b dL_law_300 lmL_44 rfl rfl hW.o0 (tle rfl) (by omega) (by omega) (by omega) hM (fun r1 σ1 hq => ?_)
  obtain ⟨z, rfl, e1, he, ⟨fs9, m9⟩, hN⟩ := hq
  refine w_aload_n b dL_law_303 rfl rfl ?_
  refine w_aload_n b dL_law_304 rfl rfl ?_
  refine w_iload b dL_law_305 rfl ?_
  refine z_iconst b dL_law_307 ?_
  refine z_iadd b dL_law_308 ?_
  refine z_sld b dL_law_309 (by omega) ?_
  refine w_aload_n b dL_law_310 rfl rfl ?_
  refine w_iload b dL_law_311 rfl ?_
  refine z_iconst b dL_law_313 ?_
  refine z_iadd b dL_law_314 ?_
  refine z_sld b dL_law_315 (by omega) ?_
  refine w_callV (st := [.int (iI z)]) (vs := [.int (iI (sc g (i + 1))), .int (iI (sc g (i + 2)))]) b dL_law_316 lmL_48 rfl rfl m9 (tle rfl) (by omega) (by omega) (by omega) hN (fun r2 σ2 hq => ?_)
  obtain ⟨rfl, hW2⟩ := hq
  refine w_icmp_eq (tgt := 1440) b dL_law_319 (by decide) (fun _ => ?_) (fun z => absurd rfl z)
  exact kk _ _ σ2 (by omega) (by omega) hW2
set_option maxRecDepth 20000 in
theorem law_closes {X : Cx} {l0 : Launch} {g : Gw} {Z : State → Prop} {w d mc ms kc ks : Nat} {σ : Sg} {i : Int} (b : BX X l0 g mL_law d mc ms) (hd : 41 ≤ d) (hl : l0.stackTraces = false) (hi : 1 ≤ i ∧ i + 5 < (gL g : Int) ∧ i < 100000) (hW : WI w σ) (hkc : kc + 3 ≤ mc) (hks : ks + 19 ≤ ms) (kk : ∀ kc' ks' σ', kc' ≤ kc + 3 → ks' ≤ ks + 19 → WI w σ' → WW X g mL_law.2.2.1 Z kc' ks' 1440 (LL i) [] σ') : WW X g mL_law.2.2.1 Z kc ks 324 (LL i) [] σ := by
  refine w_aload_n b dL_law_324 rfl rfl ?_
  refine w_aload_n b dL_law_325 rfl rfl ?_
  refine w_iload b dL_law_326 rfl ?_
  refine z_iconst b dL_law_328 ?_
  refine z_iadd b dL_law_329 ?_
  refine z_sld b dL_law_330 (by omega) ?_
  obtain ⟨d1, mc1, ms1, q1, q2, q3, hM⟩ := s_closes (sc_in g _) σ hW
  refine w_callV (st := []) (vs := [.int (iI (sc g (i + 1)))]) b dL_law_331 lmL_49 rfl rfl hW.o0 (tle rfl) (by omega) (by omega) (by omega) hM (fun r1 σ1 hq => ?_)
  obtain ⟨z, rfl, e1, he, ⟨fs9, m9⟩, hN⟩ := hq
  refine w_aload_n b dL_law_334 rfl rfl ?_
  refine w_aload_n b dL_law_335 rfl rfl ?_
  refine w_iload b dL_law_336 rfl ?_
  refine z_iconst b dL_law_338 ?_
  refine z_iadd b dL_law_339 ?_
  refine z_sld b dL_law_340 (by omega) ?_
  refine w_callV (st := [.int (iI z)]) (vs := [.int (iI (sc g (i + 1)))]) b dL_law_341 lmL_52 rfl rfl m9 (tle rfl) (by omega) (by omega) (by omega) hN (fun r2 σ2 hq => ?_)
  obtain ⟨rfl, hW2⟩ := hq
  refine w_icmp_eq (tgt := 1440) b dL_law_344 (by decide) (fun _ => ?_) (fun z => absurd rfl z)
  exact kk _ _ σ2 (by omega) (by omega) hW2
set_option maxRecDepth 20000 in
theorem law_mend {X : Cx} {l0 : Launch} {g : Gw} {Z : State → Prop} {w d mc ms kc ks : Nat} {σ : Sg} {i : Int} (b : BX X l0 g mL_law d mc ms) (hd : 41 ≤ d) (hl : l0.stackTraces = false) (hi : 1 ≤ i ∧ i + 5 < (gL g : Int) ∧ i < 100000) (hW : WI w σ) (hkc : kc + 3 ≤ mc) (hks : ks + 19 ≤ ms) (kk : ∀ kc' ks' σ', kc' ≤ kc + 3 → ks' ≤ ks + 19 → WI w σ' → WW X g mL_law.2.2.1 Z kc' ks' 1440 (LL i) [] σ') : WW X g mL_law.2.2.1 Z kc ks 349 (LL i) [] σ := by
  refine w_aload_n b dL_law_349 rfl rfl ?_
  refine w_aload_n b dL_law_350 rfl rfl ?_
  refine w_iload b dL_law_351 rfl ?_
  refine z_iconst b dL_law_353 ?_
  refine z_iadd b dL_law_354 ?_
  refine z_sld b dL_law_355 (by omega) ?_
  refine w_aload_n b dL_law_356 rfl rfl ?_
  refine w_iload b dL_law_357 rfl ?_
  refine z_iconst b dL_law_359 ?_
  refine z_iadd b dL_law_360 ?_
  refine z_sld b dL_law_361 (by omega) ?_
  obtain ⟨d1, mc1, ms1, q1, q2, q3, hM⟩ := s_mend (sc_in g _) (sc_in g _) σ hW
  refine w_callV (st := []) (vs := [.int (iI (sc g (i + 1))), .int (iI (sc g (i + 2)))]) b dL_law_362 lmL_53 rfl rfl hW.o0 (tle rfl) (by omega) (by omega) (by omega) hM (fun r1 σ1 hq => ?_)
  obtain ⟨z, rfl, e1, he, ⟨fs9, m9⟩, hN⟩ := hq
  refine w_aload_n b dL_law_365 rfl rfl ?_
  refine w_aload_n b dL_law_366 rfl rfl ?_
  refine w_iload b dL_law_367 rfl ?_
  refine z_iconst b dL_law_369 ?_
  refine z_iadd b dL_law_370 ?_
  refine z_sld b dL_law_371 (by omega) ?_
  refine w_aload_n b dL_law_372 rfl rfl ?_
  refine w_iload b dL_law_373 rfl ?_
  refine z_iconst b dL_law_375 ?_
  refine z_iadd b dL_law_376 ?_
  refine z_sld b dL_law_377 (by omega) ?_
  refine w_callV (st := [.int (iI z)]) (vs := [.int (iI (sc g (i + 1))), .int (iI (sc g (i + 2)))]) b dL_law_378 lmL_56 rfl rfl m9 (tle rfl) (by omega) (by omega) (by omega) hN (fun r2 σ2 hq => ?_)
  obtain ⟨rfl, hW2⟩ := hq
  refine w_icmp_eq (tgt := 1440) b dL_law_381 (by decide) (fun _ => ?_) (fun z => absurd rfl z)
  exact kk _ _ σ2 (by omega) (by omega) hW2
set_option maxRecDepth 20000 in
theorem law_mended {X : Cx} {l0 : Launch} {g : Gw} {Z : State → Prop} {w d mc ms kc ks : Nat} {σ : Sg} {i : Int} (b : BX X l0 g mL_law d mc ms) (hd : 41 ≤ d) (hl : l0.stackTraces = false) (hi : 1 ≤ i ∧ i + 5 < (gL g : Int) ∧ i < 100000) (hW : WI w σ) (hkc : kc + 3 ≤ mc) (hks : ks + 19 ≤ ms) (kk : ∀ kc' ks' σ', kc' ≤ kc + 3 → ks' ≤ ks + 19 → WI w σ' → WW X g mL_law.2.2.1 Z kc' ks' 1440 (LL i) [] σ') : WW X g mL_law.2.2.1 Z kc ks 386 (LL i) [] σ := by
  refine w_aload_n b dL_law_386 rfl rfl ?_
  refine w_aload_n b dL_law_387 rfl rfl ?_
  refine w_iload b dL_law_388 rfl ?_
  refine z_iconst b dL_law_390 ?_
  refine z_iadd b dL_law_391 ?_
  refine z_sld b dL_law_392 (by omega) ?_
  obtain ⟨d1, mc1, ms1, q1, q2, q3, hM⟩ := s_mended (sc_in g _) σ hW
  refine w_callV (st := []) (vs := [.int (iI (sc g (i + 1)))]) b dL_law_393 lmL_57 rfl rfl hW.o0 (tle rfl) (by omega) (by omega) (by omega) hM (fun r1 σ1 hq => ?_)
  obtain ⟨z, rfl, e1, he, ⟨fs9, m9⟩, hN⟩ := hq
  refine w_aload_n b dL_law_396 rfl rfl ?_
  refine w_aload_n b dL_law_397 rfl rfl ?_
  refine w_iload b dL_law_398 rfl ?_
  refine z_iconst b dL_law_400 ?_
  refine z_iadd b dL_law_401 ?_
  refine z_sld b dL_law_402 (by omega) ?_
  refine w_callV (st := [.int (iI z)]) (vs := [.int (iI (sc g (i + 1)))]) b dL_law_403 lmL_60 rfl rfl m9 (tle rfl) (by omega) (by omega) (by omega) hN (fun r2 σ2 hq => ?_)
  obtain ⟨rfl, hW2⟩ := hq
  refine w_icmp_eq (tgt := 1440) b dL_law_406 (by decide) (fun _ => ?_) (fun z => absurd rfl z)
  exact kk _ _ σ2 (by omega) (by omega) hW2
set_option maxRecDepth 20000 in
theorem law_told {X : Cx} {l0 : Launch} {g : Gw} {Z : State → Prop} {w d mc ms kc ks : Nat} {σ : Sg} {i : Int} (b : BX X l0 g mL_law d mc ms) (hd : 41 ≤ d) (hl : l0.stackTraces = false) (hi : 1 ≤ i ∧ i + 5 < (gL g : Int) ∧ i < 100000) (hW : WI w σ) (hkc : kc + 3 ≤ mc) (hks : ks + 19 ≤ ms) (kk : ∀ kc' ks' σ', kc' ≤ kc + 3 → ks' ≤ ks + 19 → WI w σ' → WW X g mL_law.2.2.1 Z kc' ks' 1440 (LL i) [] σ') : WW X g mL_law.2.2.1 Z kc ks 411 (LL i) [] σ := by
  refine w_aload_n b dL_law_411 rfl rfl ?_
  refine w_aload_n b dL_law_412 rfl rfl ?_
  refine w_iload b dL_law_413 rfl ?_
  refine z_iconst b dL_law_415 ?_
  refine z_iadd b dL_law_416 ?_
  refine z_sld b dL_law_417 (by omega) ?_
  refine w_aload_n b dL_law_418 rfl rfl ?_
  refine w_iload b dL_law_419 rfl ?_
  refine z_iconst b dL_law_421 ?_
  refine z_iadd b dL_law_422 ?_
  refine z_sld b dL_law_423 (by omega) ?_
  refine w_aload_n b dL_law_424 rfl rfl ?_
  refine w_iload b dL_law_425 rfl ?_
  refine z_iconst b dL_law_427 ?_
  refine z_iadd b dL_law_428 ?_
  refine z_sld b dL_law_429 (by omega) ?_
  obtain ⟨d1, mc1, ms1, q1, q2, q3, hM⟩ := s_told (sc_in g _) (sc_in g _) (sc_in g _) σ hW
  refine w_callV (st := []) (vs := [.int (iI (sc g (i + 1))), .int (iI (sc g (i + 2))), .int (iI (sc g (i + 3)))]) b dL_law_430 lmL_61 rfl rfl hW.o0 (tle rfl) (by omega) (by omega) (by omega) hM (fun r1 σ1 hq => ?_)
  obtain ⟨z, rfl, e1, he, ⟨fs9, m9⟩, hN⟩ := hq
  refine w_aload_n b dL_law_433 rfl rfl ?_
  refine w_aload_n b dL_law_434 rfl rfl ?_
  refine w_iload b dL_law_435 rfl ?_
  refine z_iconst b dL_law_437 ?_
  refine z_iadd b dL_law_438 ?_
  refine z_sld b dL_law_439 (by omega) ?_
  refine w_aload_n b dL_law_440 rfl rfl ?_
  refine w_iload b dL_law_441 rfl ?_
  refine z_iconst b dL_law_443 ?_
  refine z_iadd b dL_law_444 ?_
  refine z_sld b dL_law_445 (by omega) ?_
  refine w_aload_n b dL_law_446 rfl rfl ?_
  refine w_iload b dL_law_447 rfl ?_
  refine z_iconst b dL_law_449 ?_
  refine z_iadd b dL_law_450 ?_
  refine z_sld b dL_law_451 (by omega) ?_
  refine w_callV (st := [.int (iI z)]) (vs := [.int (iI (sc g (i + 1))), .int (iI (sc g (i + 2))), .int (iI (sc g (i + 3)))]) b dL_law_452 lmL_64 rfl rfl m9 (tle rfl) (by omega) (by omega) (by omega) hN (fun r2 σ2 hq => ?_)
  obtain ⟨rfl, hW2⟩ := hq
  refine w_icmp_eq (tgt := 1440) b dL_law_455 (by decide) (fun _ => ?_) (fun z => absurd rfl z)
  exact kk _ _ σ2 (by omega) (by omega) hW2
set_option maxRecDepth 20000 in
theorem law_hand {X : Cx} {l0 : Launch} {g : Gw} {Z : State → Prop} {w d mc ms kc ks : Nat} {σ : Sg} {i : Int} (b : BX X l0 g mL_law d mc ms) (hd : 41 ≤ d) (hl : l0.stackTraces = false) (hi : 1 ≤ i ∧ i + 5 < (gL g : Int) ∧ i < 100000) (hW : WI w σ) (hkc : kc + 3 ≤ mc) (hks : ks + 19 ≤ ms) (kk : ∀ kc' ks' σ', kc' ≤ kc + 3 → ks' ≤ ks + 19 → WI w σ' → WW X g mL_law.2.2.1 Z kc' ks' 1440 (LL i) [] σ') : WW X g mL_law.2.2.1 Z kc ks 460 (LL i) [] σ := by
  refine w_aload_n b dL_law_460 rfl rfl ?_
  refine w_aload_n b dL_law_461 rfl rfl ?_
  refine w_iload b dL_law_462 rfl ?_
  refine z_iconst b dL_law_464 ?_
  refine z_iadd b dL_law_465 ?_
  refine z_sld b dL_law_466 (by omega) ?_
  refine w_aload_n b dL_law_467 rfl rfl ?_
  refine w_iload b dL_law_468 rfl ?_
  refine z_iconst b dL_law_470 ?_
  refine z_iadd b dL_law_471 ?_
  refine z_sld b dL_law_472 (by omega) ?_
  refine w_aload_n b dL_law_473 rfl rfl ?_
  refine w_iload b dL_law_474 rfl ?_
  refine z_iconst b dL_law_476 ?_
  refine z_iadd b dL_law_477 ?_
  refine z_sld b dL_law_478 (by omega) ?_
  obtain ⟨d1, mc1, ms1, q1, q2, q3, hM⟩ := s_hand (sc_in g _) (sc_in g _) (sc_in g _) σ hW
  refine w_callV (st := []) (vs := [.int (iI (sc g (i + 1))), .int (iI (sc g (i + 2))), .int (iI (sc g (i + 3)))]) b dL_law_479 lmL_65 rfl rfl hW.o0 (tle rfl) (by omega) (by omega) (by omega) hM (fun r1 σ1 hq => ?_)
  obtain ⟨z, rfl, e1, he, ⟨fs9, m9⟩, hN⟩ := hq
  refine w_aload_n b dL_law_482 rfl rfl ?_
  refine w_aload_n b dL_law_483 rfl rfl ?_
  refine w_iload b dL_law_484 rfl ?_
  refine z_iconst b dL_law_486 ?_
  refine z_iadd b dL_law_487 ?_
  refine z_sld b dL_law_488 (by omega) ?_
  refine w_aload_n b dL_law_489 rfl rfl ?_
  refine w_iload b dL_law_490 rfl ?_
  refine z_iconst b dL_law_492 ?_
  refine z_iadd b dL_law_493 ?_
  refine z_sld b dL_law_494 (by omega) ?_
  refine w_aload_n b dL_law_495 rfl rfl ?_
  refine w_iload b dL_law_496 rfl ?_
  refine z_iconst b dL_law_498 ?_
  refine z_iadd b dL_law_499 ?_
  refine z_sld b dL_law_500 (by omega) ?_
  refine w_callV (st := [.int (iI z)]) (vs := [.int (iI (sc g (i + 1))), .int (iI (sc g (i + 2))), .int (iI (sc g (i + 3)))]) b dL_law_501 lmL_68 rfl rfl m9 (tle rfl) (by omega) (by omega) (by omega) hN (fun r2 σ2 hq => ?_)
  obtain ⟨rfl, hW2⟩ := hq
  refine w_icmp_eq (tgt := 1440) b dL_law_504 (by decide) (fun _ => ?_) (fun z => absurd rfl z)
  exact kk _ _ σ2 (by omega) (by omega) hW2
set_option maxRecDepth 20000 in
theorem law_dye {X : Cx} {l0 : Launch} {g : Gw} {Z : State → Prop} {w d mc ms kc ks : Nat} {σ : Sg} {i : Int} (b : BX X l0 g mL_law d mc ms) (hd : 41 ≤ d) (hl : l0.stackTraces = false) (hi : 1 ≤ i ∧ i + 5 < (gL g : Int) ∧ i < 100000) (hW : WI w σ) (hkc : kc + 3 ≤ mc) (hks : ks + 19 ≤ ms) (kk : ∀ kc' ks' σ', kc' ≤ kc + 3 → ks' ≤ ks + 19 → WI w σ' → WW X g mL_law.2.2.1 Z kc' ks' 1440 (LL i) [] σ') : WW X g mL_law.2.2.1 Z kc ks 509 (LL i) [] σ := by
  refine w_aload_n b dL_law_509 rfl rfl ?_
  refine w_aload_n b dL_law_510 rfl rfl ?_
  refine w_iload b dL_law_511 rfl ?_
  refine z_iconst b dL_law_513 ?_
  refine z_iadd b dL_law_514 ?_
  refine z_sld b dL_law_515 (by omega) ?_
  refine w_aload_n b dL_law_516 rfl rfl ?_
  refine w_iload b dL_law_517 rfl ?_
  refine z_iconst b dL_law_519 ?_
  refine z_iadd b dL_law_520 ?_
  refine z_sld b dL_law_521 (by omega) ?_
  refine w_aload_n b dL_law_522 rfl rfl ?_
  refine w_iload b dL_law_523 rfl ?_
  refine z_iconst b dL_law_525 ?_
  refine z_iadd b dL_law_526 ?_
  refine z_sld b dL_law_527 (by omega) ?_
  obtain ⟨d1, mc1, ms1, q1, q2, q3, hM⟩ := s_dye (sc_in g _) (sc_in g _) (sc_in g _) σ hW
  refine w_callV (st := []) (vs := [.int (iI (sc g (i + 1))), .int (iI (sc g (i + 2))), .int (iI (sc g (i + 3)))]) b dL_law_528 lmL_69 rfl rfl hW.o0 (tle rfl) (by omega) (by omega) (by omega) hM (fun r1 σ1 hq => ?_)
  obtain ⟨z, rfl, e1, he, ⟨fs9, m9⟩, hN⟩ := hq
  refine w_aload_n b dL_law_531 rfl rfl ?_
  refine w_aload_n b dL_law_532 rfl rfl ?_
  refine w_iload b dL_law_533 rfl ?_
  refine z_iconst b dL_law_535 ?_
  refine z_iadd b dL_law_536 ?_
  refine z_sld b dL_law_537 (by omega) ?_
  refine w_aload_n b dL_law_538 rfl rfl ?_
  refine w_iload b dL_law_539 rfl ?_
  refine z_iconst b dL_law_541 ?_
  refine z_iadd b dL_law_542 ?_
  refine z_sld b dL_law_543 (by omega) ?_
  refine w_aload_n b dL_law_544 rfl rfl ?_
  refine w_iload b dL_law_545 rfl ?_
  refine z_iconst b dL_law_547 ?_
  refine z_iadd b dL_law_548 ?_
  refine z_sld b dL_law_549 (by omega) ?_
  refine w_callV (st := [.int (iI z)]) (vs := [.int (iI (sc g (i + 1))), .int (iI (sc g (i + 2))), .int (iI (sc g (i + 3)))]) b dL_law_550 lmL_72 rfl rfl m9 (tle rfl) (by omega) (by omega) (by omega) hN (fun r2 σ2 hq => ?_)
  obtain ⟨rfl, hW2⟩ := hq
  refine w_icmp_eq (tgt := 1440) b dL_law_553 (by decide) (fun _ => ?_) (fun z => absurd rfl z)
  exact kk _ _ σ2 (by omega) (by omega) hW2
set_option maxRecDepth 20000 in
theorem law_tie {X : Cx} {l0 : Launch} {g : Gw} {Z : State → Prop} {w d mc ms kc ks : Nat} {σ : Sg} {i : Int} (b : BX X l0 g mL_law d mc ms) (hd : 41 ≤ d) (hl : l0.stackTraces = false) (hi : 1 ≤ i ∧ i + 5 < (gL g : Int) ∧ i < 100000) (hW : WI w σ) (hkc : kc + 3 ≤ mc) (hks : ks + 19 ≤ ms) (kk : ∀ kc' ks' σ', kc' ≤ kc + 3 → ks' ≤ ks + 19 → WI w σ' → WW X g mL_law.2.2.1 Z kc' ks' 1440 (LL i) [] σ') : WW X g mL_law.2.2.1 Z kc ks 558 (LL i) [] σ := by
  refine w_aload_n b dL_law_558 rfl rfl ?_
  refine w_aload_n b dL_law_559 rfl rfl ?_
  refine w_iload b dL_law_560 rfl ?_
  refine z_iconst b dL_law_562 ?_
  refine z_iadd b dL_law_563 ?_
  refine z_sld b dL_law_564 (by omega) ?_
  obtain ⟨d1, mc1, ms1, q1, q2, q3, hM⟩ := s_tie (sc_in g _) σ hW
  refine w_callV (st := []) (vs := [.int (iI (sc g (i + 1)))]) b dL_law_565 lmL_73 rfl rfl hW.o0 (tle rfl) (by omega) (by omega) (by omega) hM (fun r1 σ1 hq => ?_)
  obtain ⟨z, rfl, e1, he, ⟨fs9, m9⟩, hN⟩ := hq
  refine w_aload_n b dL_law_568 rfl rfl ?_
  refine w_aload_n b dL_law_569 rfl rfl ?_
  refine w_iload b dL_law_570 rfl ?_
  refine z_iconst b dL_law_572 ?_
  refine z_iadd b dL_law_573 ?_
  refine z_sld b dL_law_574 (by omega) ?_
  refine w_callV (st := [.int (iI z)]) (vs := [.int (iI (sc g (i + 1)))]) b dL_law_575 lmL_76 rfl rfl m9 (tle rfl) (by omega) (by omega) (by omega) hN (fun r2 σ2 hq => ?_)
  obtain ⟨rfl, hW2⟩ := hq
  refine w_icmp_eq (tgt := 1440) b dL_law_578 (by decide) (fun _ => ?_) (fun z => absurd rfl z)
  exact kk _ _ σ2 (by omega) (by omega) hW2
set_option maxRecDepth 20000 in
theorem law_knot {X : Cx} {l0 : Launch} {g : Gw} {Z : State → Prop} {w d mc ms kc ks : Nat} {σ : Sg} {i : Int} (b : BX X l0 g mL_law d mc ms) (hd : 41 ≤ d) (hl : l0.stackTraces = false) (hi : 1 ≤ i ∧ i + 5 < (gL g : Int) ∧ i < 100000) (hW : WI w σ) (hkc : kc + 3 ≤ mc) (hks : ks + 19 ≤ ms) (kk : ∀ kc' ks' σ', kc' ≤ kc + 3 → ks' ≤ ks + 19 → WI w σ' → WW X g mL_law.2.2.1 Z kc' ks' 1440 (LL i) [] σ') : WW X g mL_law.2.2.1 Z kc ks 583 (LL i) [] σ := by
  refine w_aload_n b dL_law_583 rfl rfl ?_
  refine w_aload_n b dL_law_584 rfl rfl ?_
  refine w_iload b dL_law_585 rfl ?_
  refine z_iconst b dL_law_587 ?_
  refine z_iadd b dL_law_588 ?_
  refine z_sld b dL_law_589 (by omega) ?_
  refine w_aload_n b dL_law_590 rfl rfl ?_
  refine w_iload b dL_law_591 rfl ?_
  refine z_iconst b dL_law_593 ?_
  refine z_iadd b dL_law_594 ?_
  refine z_sld b dL_law_595 (by omega) ?_
  obtain ⟨d1, mc1, ms1, q1, q2, q3, hM⟩ := s_knot (sc_in g _) (sc_in g _) σ hW
  refine w_callV (st := []) (vs := [.int (iI (sc g (i + 1))), .int (iI (sc g (i + 2)))]) b dL_law_596 lmL_77 rfl rfl hW.o0 (tle rfl) (by omega) (by omega) (by omega) hM (fun r1 σ1 hq => ?_)
  obtain ⟨z, rfl, e1, he, ⟨fs9, m9⟩, hN⟩ := hq
  refine w_aload_n b dL_law_599 rfl rfl ?_
  refine w_aload_n b dL_law_600 rfl rfl ?_
  refine w_iload b dL_law_601 rfl ?_
  refine z_iconst b dL_law_603 ?_
  refine z_iadd b dL_law_604 ?_
  refine z_sld b dL_law_605 (by omega) ?_
  refine w_aload_n b dL_law_606 rfl rfl ?_
  refine w_iload b dL_law_607 rfl ?_
  refine z_iconst b dL_law_609 ?_
  refine z_iadd b dL_law_610 ?_
  refine z_sld b dL_law_611 (by omega) ?_
  refine w_callV (st := [.int (iI z)]) (vs := [.int (iI (sc g (i + 1))), .int (iI (sc g (i + 2)))]) b dL_law_612 lmL_80 rfl rfl m9 (tle rfl) (by omega) (by omega) (by omega) hN (fun r2 σ2 hq => ?_)
  obtain ⟨rfl, hW2⟩ := hq
  refine w_icmp_eq (tgt := 1440) b dL_law_615 (by decide) (fun _ => ?_) (fun z => absurd rfl z)
  exact kk _ _ σ2 (by omega) (by omega) hW2
set_option maxRecDepth 20000 in
theorem law_look {X : Cx} {l0 : Launch} {g : Gw} {Z : State → Prop} {w d mc ms kc ks : Nat} {σ : Sg} {i : Int} (b : BX X l0 g mL_law d mc ms) (hd : 41 ≤ d) (hl : l0.stackTraces = false) (hi : 1 ≤ i ∧ i + 5 < (gL g : Int) ∧ i < 100000) (hW : WI w σ) (hkc : kc + 3 ≤ mc) (hks : ks + 19 ≤ ms) (kk : ∀ kc' ks' σ', kc' ≤ kc + 3 → ks' ≤ ks + 19 → WI w σ' → WW X g mL_law.2.2.1 Z kc' ks' 1440 (LL i) [] σ') : WW X g mL_law.2.2.1 Z kc ks 620 (LL i) [] σ := by
  refine w_aload_n b dL_law_620 rfl rfl ?_
  refine w_aload_n b dL_law_621 rfl rfl ?_
  refine w_iload b dL_law_622 rfl ?_
  refine z_iconst b dL_law_624 ?_
  refine z_iadd b dL_law_625 ?_
  refine z_sld b dL_law_626 (by omega) ?_
  refine w_aload_n b dL_law_627 rfl rfl ?_
  refine w_iload b dL_law_628 rfl ?_
  refine z_iconst b dL_law_630 ?_
  refine z_iadd b dL_law_631 ?_
  refine z_sld b dL_law_632 (by omega) ?_
  refine w_aload_n b dL_law_633 rfl rfl ?_
  refine w_iload b dL_law_634 rfl ?_
  refine z_iconst b dL_law_636 ?_
  refine z_iadd b dL_law_637 ?_
  refine z_sld b dL_law_638 (by omega) ?_
  obtain ⟨d1, mc1, ms1, q1, q2, q3, hM⟩ := s_look (sc_in g _) (sc_in g _) (sc_in g _) σ hW
  refine w_callV (st := []) (vs := [.int (iI (sc g (i + 1))), .int (iI (sc g (i + 2))), .int (iI (sc g (i + 3)))]) b dL_law_639 lmL_81 rfl rfl hW.o0 (tle rfl) (by omega) (by omega) (by omega) hM (fun r1 σ1 hq => ?_)
  obtain ⟨z, rfl, e1, he, ⟨fs9, m9⟩, hN⟩ := hq
  refine w_aload_n b dL_law_642 rfl rfl ?_
  refine w_aload_n b dL_law_643 rfl rfl ?_
  refine w_iload b dL_law_644 rfl ?_
  refine z_iconst b dL_law_646 ?_
  refine z_iadd b dL_law_647 ?_
  refine z_sld b dL_law_648 (by omega) ?_
  refine w_aload_n b dL_law_649 rfl rfl ?_
  refine w_iload b dL_law_650 rfl ?_
  refine z_iconst b dL_law_652 ?_
  refine z_iadd b dL_law_653 ?_
  refine z_sld b dL_law_654 (by omega) ?_
  refine w_aload_n b dL_law_655 rfl rfl ?_
  refine w_iload b dL_law_656 rfl ?_
  refine z_iconst b dL_law_658 ?_
  refine z_iadd b dL_law_659 ?_
  refine z_sld b dL_law_660 (by omega) ?_
  refine w_callV (st := [.int (iI z)]) (vs := [.int (iI (sc g (i + 1))), .int (iI (sc g (i + 2))), .int (iI (sc g (i + 3)))]) b dL_law_661 lmL_84 rfl rfl m9 (tle rfl) (by omega) (by omega) (by omega) hN (fun r2 σ2 hq => ?_)
  obtain ⟨rfl, hW2⟩ := hq
  refine w_icmp_eq (tgt := 1440) b dL_law_664 (by decide) (fun _ => ?_) (fun z => absurd rfl z)
  exact kk _ _ σ2 (by omega) (by omega) hW2
set_option maxRecDepth 20000 in
theorem law_found {X : Cx} {l0 : Launch} {g : Gw} {Z : State → Prop} {w d mc ms kc ks : Nat} {σ : Sg} {i : Int} (b : BX X l0 g mL_law d mc ms) (hd : 41 ≤ d) (hl : l0.stackTraces = false) (hi : 1 ≤ i ∧ i + 5 < (gL g : Int) ∧ i < 100000) (hW : WI w σ) (hkc : kc + 3 ≤ mc) (hks : ks + 19 ≤ ms) (kk : ∀ kc' ks' σ', kc' ≤ kc + 3 → ks' ≤ ks + 19 → WI w σ' → WW X g mL_law.2.2.1 Z kc' ks' 1440 (LL i) [] σ') : WW X g mL_law.2.2.1 Z kc ks 669 (LL i) [] σ := by
  refine w_aload_n b dL_law_669 rfl rfl ?_
  refine w_aload_n b dL_law_670 rfl rfl ?_
  refine w_iload b dL_law_671 rfl ?_
  refine z_iconst b dL_law_673 ?_
  refine z_iadd b dL_law_674 ?_
  refine z_sld b dL_law_675 (by omega) ?_
  refine w_aload_n b dL_law_676 rfl rfl ?_
  refine w_iload b dL_law_677 rfl ?_
  refine z_iconst b dL_law_679 ?_
  refine z_iadd b dL_law_680 ?_
  refine z_sld b dL_law_681 (by omega) ?_
  refine w_aload_n b dL_law_682 rfl rfl ?_
  refine w_iload b dL_law_683 rfl ?_
  refine z_iconst b dL_law_685 ?_
  refine z_iadd b dL_law_686 ?_
  refine z_sld b dL_law_687 (by omega) ?_
  obtain ⟨d1, mc1, ms1, q1, q2, q3, hM⟩ := s_found (sc_in g _) (sc_in g _) (sc_in g _) σ hW
  refine w_callV (st := []) (vs := [.int (iI (sc g (i + 1))), .int (iI (sc g (i + 2))), .int (iI (sc g (i + 3)))]) b dL_law_688 lmL_85 rfl rfl hW.o0 (tle rfl) (by omega) (by omega) (by omega) hM (fun r1 σ1 hq => ?_)
  obtain ⟨z, rfl, e1, he, ⟨fs9, m9⟩, hN⟩ := hq
  refine w_aload_n b dL_law_691 rfl rfl ?_
  refine w_aload_n b dL_law_692 rfl rfl ?_
  refine w_iload b dL_law_693 rfl ?_
  refine z_iconst b dL_law_695 ?_
  refine z_iadd b dL_law_696 ?_
  refine z_sld b dL_law_697 (by omega) ?_
  refine w_aload_n b dL_law_698 rfl rfl ?_
  refine w_iload b dL_law_699 rfl ?_
  refine z_iconst b dL_law_701 ?_
  refine z_iadd b dL_law_702 ?_
  refine z_sld b dL_law_703 (by omega) ?_
  refine w_aload_n b dL_law_704 rfl rfl ?_
  refine w_iload b dL_law_705 rfl ?_
  refine z_iconst b dL_law_707 ?_
  refine z_iadd b dL_law_708 ?_
  refine z_sld b dL_law_709 (by omega) ?_
  refine w_callV (st := [.int (iI z)]) (vs := [.int (iI (sc g (i + 1))), .int (iI (sc g (i + 2))), .int (iI (sc g (i + 3)))]) b dL_law_710 lmL_88 rfl rfl m9 (tle rfl) (by omega) (by omega) (by omega) hN (fun r2 σ2 hq => ?_)
  obtain ⟨rfl, hW2⟩ := hq
  refine w_icmp_eq (tgt := 1440) b dL_law_713 (by decide) (fun _ => ?_) (fun z => absurd rfl z)
  exact kk _ _ σ2 (by omega) (by omega) hW2
set_option maxRecDepth 20000 in
theorem law_cut {X : Cx} {l0 : Launch} {g : Gw} {Z : State → Prop} {w d mc ms kc ks : Nat} {σ : Sg} {i : Int} (b : BX X l0 g mL_law d mc ms) (hd : 41 ≤ d) (hl : l0.stackTraces = false) (hi : 1 ≤ i ∧ i + 5 < (gL g : Int) ∧ i < 100000) (hW : WI w σ) (hkc : kc + 3 ≤ mc) (hks : ks + 19 ≤ ms) (kk : ∀ kc' ks' σ', kc' ≤ kc + 3 → ks' ≤ ks + 19 → WI w σ' → WW X g mL_law.2.2.1 Z kc' ks' 1440 (LL i) [] σ') : WW X g mL_law.2.2.1 Z kc ks 718 (LL i) [] σ := by
  refine w_aload_n b dL_law_718 rfl rfl ?_
  obtain ⟨d1, mc1, ms1, q1, q2, q3, hM⟩ := s_cut  σ hW
  refine w_callV (st := []) (vs := []) b dL_law_719 lmL_89 rfl rfl hW.o0 (tle rfl) (by omega) (by omega) (by omega) hM (fun r1 σ1 hq => ?_)
  obtain ⟨z, rfl, e1, he, ⟨fs9, m9⟩, hN⟩ := hq
  refine w_aload_n b dL_law_722 rfl rfl ?_
  refine w_callV (st := [.int (iI z)]) (vs := []) b dL_law_723 lmL_92 rfl rfl m9 (tle rfl) (by omega) (by omega) (by omega) hN (fun r2 σ2 hq => ?_)
  obtain ⟨rfl, hW2⟩ := hq
  refine w_icmp_eq (tgt := 1440) b dL_law_726 (by decide) (fun _ => ?_) (fun z => absurd rfl z)
  exact kk _ _ σ2 (by omega) (by omega) hW2
set_option maxRecDepth 20000 in
theorem law_minutes {X : Cx} {l0 : Launch} {g : Gw} {Z : State → Prop} {w d mc ms kc ks : Nat} {σ : Sg} {i : Int} (b : BX X l0 g mL_law d mc ms) (hd : 41 ≤ d) (hl : l0.stackTraces = false) (hi : 1 ≤ i ∧ i + 5 < (gL g : Int) ∧ i < 100000) (hW : WI w σ) (hkc : kc + 3 ≤ mc) (hks : ks + 19 ≤ ms) (kk : ∀ kc' ks' σ', kc' ≤ kc + 3 → ks' ≤ ks + 19 → WI w σ' → WW X g mL_law.2.2.1 Z kc' ks' 1440 (LL i) [] σ') : WW X g mL_law.2.2.1 Z kc ks 731 (LL i) [] σ := by
  refine w_aload_n b dL_law_731 rfl rfl ?_
  refine w_aload_n b dL_law_732 rfl rfl ?_
  refine w_iload b dL_law_733 rfl ?_
  refine z_iconst b dL_law_735 ?_
  refine z_iadd b dL_law_736 ?_
  refine z_sld b dL_law_737 (by omega) ?_
  obtain ⟨d1, mc1, ms1, q1, q2, q3, hM⟩ := s_minutes (sc_in g _) σ hW
  refine w_callV (st := []) (vs := [.int (iI (sc g (i + 1)))]) b dL_law_738 lmL_93 rfl rfl hW.o0 (tle rfl) (by omega) (by omega) (by omega) hM (fun r1 σ1 hq => ?_)
  obtain ⟨z, rfl, e1, he, ⟨fs9, m9⟩, hN⟩ := hq
  refine w_aload_n b dL_law_741 rfl rfl ?_
  refine w_aload_n b dL_law_742 rfl rfl ?_
  refine w_iload b dL_law_743 rfl ?_
  refine z_iconst b dL_law_745 ?_
  refine z_iadd b dL_law_746 ?_
  refine z_sld b dL_law_747 (by omega) ?_
  refine w_callV (st := [.int (iI z)]) (vs := [.int (iI (sc g (i + 1)))]) b dL_law_748 lmL_96 rfl rfl m9 (tle rfl) (by omega) (by omega) (by omega) hN (fun r2 σ2 hq => ?_)
  obtain ⟨rfl, hW2⟩ := hq
  refine w_icmp_eq (tgt := 1440) b dL_law_751 (by decide) (fun _ => ?_) (fun z => absurd rfl z)
  exact kk _ _ σ2 (by omega) (by omega) hW2
set_option maxRecDepth 20000 in
theorem law_shifts {X : Cx} {l0 : Launch} {g : Gw} {Z : State → Prop} {w d mc ms kc ks : Nat} {σ : Sg} {i : Int} (b : BX X l0 g mL_law d mc ms) (hd : 41 ≤ d) (hl : l0.stackTraces = false) (hi : 1 ≤ i ∧ i + 5 < (gL g : Int) ∧ i < 100000) (hW : WI w σ) (hkc : kc + 3 ≤ mc) (hks : ks + 19 ≤ ms) (kk : ∀ kc' ks' σ', kc' ≤ kc + 3 → ks' ≤ ks + 19 → WI w σ' → WW X g mL_law.2.2.1 Z kc' ks' 1440 (LL i) [] σ') : WW X g mL_law.2.2.1 Z kc ks 756 (LL i) [] σ := by
  refine w_aload_n b dL_law_756 rfl rfl ?_
  refine w_aload_n b dL_law_757 rfl rfl ?_
  refine w_iload b dL_law_758 rfl ?_
  refine z_iconst b dL_law_760 ?_
  refine z_iadd b dL_law_761 ?_
  refine z_sld b dL_law_762 (by omega) ?_
  obtain ⟨d1, mc1, ms1, q1, q2, q3, hM⟩ := s_shifts (sc_in g _) σ hW
  refine w_callV (st := []) (vs := [.int (iI (sc g (i + 1)))]) b dL_law_763 lmL_97 rfl rfl hW.o0 (tle rfl) (by omega) (by omega) (by omega) hM (fun r1 σ1 hq => ?_)
  obtain ⟨z, rfl, e1, he, ⟨fs9, m9⟩, hN⟩ := hq
  refine w_aload_n b dL_law_766 rfl rfl ?_
  refine w_aload_n b dL_law_767 rfl rfl ?_
  refine w_iload b dL_law_768 rfl ?_
  refine z_iconst b dL_law_770 ?_
  refine z_iadd b dL_law_771 ?_
  refine z_sld b dL_law_772 (by omega) ?_
  refine w_callV (st := [.int (iI z)]) (vs := [.int (iI (sc g (i + 1)))]) b dL_law_773 lmL_100 rfl rfl m9 (tle rfl) (by omega) (by omega) (by omega) hN (fun r2 σ2 hq => ?_)
  obtain ⟨rfl, hW2⟩ := hq
  refine w_icmp_eq (tgt := 1440) b dL_law_776 (by decide) (fun _ => ?_) (fun z => absurd rfl z)
  exact kk _ _ σ2 (by omega) (by omega) hW2
set_option maxRecDepth 20000 in
theorem law_wool {X : Cx} {l0 : Launch} {g : Gw} {Z : State → Prop} {w d mc ms kc ks : Nat} {σ : Sg} {i : Int} (b : BX X l0 g mL_law d mc ms) (hd : 41 ≤ d) (hl : l0.stackTraces = false) (hi : 1 ≤ i ∧ i + 5 < (gL g : Int) ∧ i < 100000) (hW : WI w σ) (hkc : kc + 3 ≤ mc) (hks : ks + 19 ≤ ms) (kk : ∀ kc' ks' σ', kc' ≤ kc + 3 → ks' ≤ ks + 19 → WI w σ' → WW X g mL_law.2.2.1 Z kc' ks' 1440 (LL i) [] σ') : WW X g mL_law.2.2.1 Z kc ks 781 (LL i) [] σ := by
  refine w_aload_n b dL_law_781 rfl rfl ?_
  refine w_aload_n b dL_law_782 rfl rfl ?_
  refine w_iload b dL_law_783 rfl ?_
  refine z_iconst b dL_law_785 ?_
  refine z_iadd b dL_law_786 ?_
  refine z_sld b dL_law_787 (by omega) ?_
  obtain ⟨d1, mc1, ms1, q1, q2, q3, hM⟩ := s_wool (sc_in g _) σ hW
  refine w_callV (st := []) (vs := [.int (iI (sc g (i + 1)))]) b dL_law_788 lmL_101 rfl rfl hW.o0 (tle rfl) (by omega) (by omega) (by omega) hM (fun r1 σ1 hq => ?_)
  obtain ⟨z, rfl, e1, he, ⟨fs9, m9⟩, hN⟩ := hq
  refine w_aload_n b dL_law_791 rfl rfl ?_
  refine w_aload_n b dL_law_792 rfl rfl ?_
  refine w_iload b dL_law_793 rfl ?_
  refine z_iconst b dL_law_795 ?_
  refine z_iadd b dL_law_796 ?_
  refine z_sld b dL_law_797 (by omega) ?_
  refine w_callV (st := [.int (iI z)]) (vs := [.int (iI (sc g (i + 1)))]) b dL_law_798 lmL_104 rfl rfl m9 (tle rfl) (by omega) (by omega) (by omega) hN (fun r2 σ2 hq => ?_)
  obtain ⟨rfl, hW2⟩ := hq
  refine w_icmp_eq (tgt := 1440) b dL_law_801 (by decide) (fun _ => ?_) (fun z => absurd rfl z)
  exact kk _ _ σ2 (by omega) (by omega) hW2
set_option maxRecDepth 20000 in
theorem law_hands {X : Cx} {l0 : Launch} {g : Gw} {Z : State → Prop} {w d mc ms kc ks : Nat} {σ : Sg} {i : Int} (b : BX X l0 g mL_law d mc ms) (hd : 41 ≤ d) (hl : l0.stackTraces = false) (hi : 1 ≤ i ∧ i + 5 < (gL g : Int) ∧ i < 100000) (hW : WI w σ) (hkc : kc + 3 ≤ mc) (hks : ks + 19 ≤ ms) (kk : ∀ kc' ks' σ', kc' ≤ kc + 3 → ks' ≤ ks + 19 → WI w σ' → WW X g mL_law.2.2.1 Z kc' ks' 1440 (LL i) [] σ') : WW X g mL_law.2.2.1 Z kc ks 806 (LL i) [] σ := by
  refine w_aload_n b dL_law_806 rfl rfl ?_
  refine w_aload_n b dL_law_807 rfl rfl ?_
  refine w_iload b dL_law_808 rfl ?_
  refine z_iconst b dL_law_810 ?_
  refine z_iadd b dL_law_811 ?_
  refine z_sld b dL_law_812 (by omega) ?_
  refine w_aload_n b dL_law_813 rfl rfl ?_
  refine w_iload b dL_law_814 rfl ?_
  refine z_iconst b dL_law_816 ?_
  refine z_iadd b dL_law_817 ?_
  refine z_sld b dL_law_818 (by omega) ?_
  obtain ⟨d1, mc1, ms1, q1, q2, q3, hM⟩ := s_hands (sc_in g _) (sc_in g _) σ hW
  refine w_callV (st := []) (vs := [.int (iI (sc g (i + 1))), .int (iI (sc g (i + 2)))]) b dL_law_819 lmL_105 rfl rfl hW.o0 (tle rfl) (by omega) (by omega) (by omega) hM (fun r1 σ1 hq => ?_)
  obtain ⟨z, rfl, e1, he, ⟨fs9, m9⟩, hN⟩ := hq
  refine w_aload_n b dL_law_822 rfl rfl ?_
  refine w_aload_n b dL_law_823 rfl rfl ?_
  refine w_iload b dL_law_824 rfl ?_
  refine z_iconst b dL_law_826 ?_
  refine z_iadd b dL_law_827 ?_
  refine z_sld b dL_law_828 (by omega) ?_
  refine w_aload_n b dL_law_829 rfl rfl ?_
  refine w_iload b dL_law_830 rfl ?_
  refine z_iconst b dL_law_832 ?_
  refine z_iadd b dL_law_833 ?_
  refine z_sld b dL_law_834 (by omega) ?_
  refine w_callV (st := [.int (iI z)]) (vs := [.int (iI (sc g (i + 1))), .int (iI (sc g (i + 2)))]) b dL_law_835 lmL_108 rfl rfl m9 (tle rfl) (by omega) (by omega) (by omega) hN (fun r2 σ2 hq => ?_)
  obtain ⟨rfl, hW2⟩ := hq
  refine w_icmp_eq (tgt := 1440) b dL_law_838 (by decide) (fun _ => ?_) (fun z => absurd rfl z)
  exact kk _ _ σ2 (by omega) (by omega) hW2
set_option maxRecDepth 20000 in
theorem law_unlike {X : Cx} {l0 : Launch} {g : Gw} {Z : State → Prop} {w d mc ms kc ks : Nat} {σ : Sg} {i : Int} (b : BX X l0 g mL_law d mc ms) (hd : 41 ≤ d) (hl : l0.stackTraces = false) (hi : 1 ≤ i ∧ i + 5 < (gL g : Int) ∧ i < 100000) (hW : WI w σ) (hkc : kc + 3 ≤ mc) (hks : ks + 19 ≤ ms) (kk : ∀ kc' ks' σ', kc' ≤ kc + 3 → ks' ≤ ks + 19 → WI w σ' → WW X g mL_law.2.2.1 Z kc' ks' 1440 (LL i) [] σ') : WW X g mL_law.2.2.1 Z kc ks 843 (LL i) [] σ := by
  refine w_aload_n b dL_law_843 rfl rfl ?_
  refine w_aload_n b dL_law_844 rfl rfl ?_
  refine w_iload b dL_law_845 rfl ?_
  refine z_iconst b dL_law_847 ?_
  refine z_iadd b dL_law_848 ?_
  refine z_sld b dL_law_849 (by omega) ?_
  refine w_aload_n b dL_law_850 rfl rfl ?_
  refine w_iload b dL_law_851 rfl ?_
  refine z_iconst b dL_law_853 ?_
  refine z_iadd b dL_law_854 ?_
  refine z_sld b dL_law_855 (by omega) ?_
  obtain ⟨d1, mc1, ms1, q1, q2, q3, hM⟩ := s_unlike (sc_in g _) (sc_in g _) σ hW
  refine w_callV (st := []) (vs := [.int (iI (sc g (i + 1))), .int (iI (sc g (i + 2)))]) b dL_law_856 lmL_109 rfl rfl hW.o0 (tle rfl) (by omega) (by omega) (by omega) hM (fun r1 σ1 hq => ?_)
  obtain ⟨z, rfl, e1, he, ⟨fs9, m9⟩, hN⟩ := hq
  refine w_aload_n b dL_law_859 rfl rfl ?_
  refine w_aload_n b dL_law_860 rfl rfl ?_
  refine w_iload b dL_law_861 rfl ?_
  refine z_iconst b dL_law_863 ?_
  refine z_iadd b dL_law_864 ?_
  refine z_sld b dL_law_865 (by omega) ?_
  refine w_aload_n b dL_law_866 rfl rfl ?_
  refine w_iload b dL_law_867 rfl ?_
  refine z_iconst b dL_law_869 ?_
  refine z_iadd b dL_law_870 ?_
  refine z_sld b dL_law_871 (by omega) ?_
  refine w_callV (st := [.int (iI z)]) (vs := [.int (iI (sc g (i + 1))), .int (iI (sc g (i + 2)))]) b dL_law_872 lmL_112 rfl rfl m9 (tle rfl) (by omega) (by omega) (by omega) hN (fun r2 σ2 hq => ?_)
  obtain ⟨rfl, hW2⟩ := hq
  refine w_icmp_eq (tgt := 1440) b dL_law_875 (by decide) (fun _ => ?_) (fun z => absurd rfl z)
  exact kk _ _ σ2 (by omega) (by omega) hW2
set_option maxRecDepth 20000 in
theorem law_side {X : Cx} {l0 : Launch} {g : Gw} {Z : State → Prop} {w d mc ms kc ks : Nat} {σ : Sg} {i : Int} (b : BX X l0 g mL_law d mc ms) (hd : 41 ≤ d) (hl : l0.stackTraces = false) (hi : 1 ≤ i ∧ i + 5 < (gL g : Int) ∧ i < 100000) (hW : WI w σ) (hkc : kc + 3 ≤ mc) (hks : ks + 19 ≤ ms) (kk : ∀ kc' ks' σ', kc' ≤ kc + 3 → ks' ≤ ks + 19 → WI w σ' → WW X g mL_law.2.2.1 Z kc' ks' 1440 (LL i) [] σ') : WW X g mL_law.2.2.1 Z kc ks 880 (LL i) [] σ := by
  refine w_aload_n b dL_law_880 rfl rfl ?_
  refine w_aload_n b dL_law_881 rfl rfl ?_
  refine w_iload b dL_law_882 rfl ?_
  refine z_iconst b dL_law_884 ?_
  refine z_iadd b dL_law_885 ?_
  refine z_sld b dL_law_886 (by omega) ?_
  refine w_aload_n b dL_law_887 rfl rfl ?_
  refine w_iload b dL_law_888 rfl ?_
  refine z_iconst b dL_law_890 ?_
  refine z_iadd b dL_law_891 ?_
  refine z_sld b dL_law_892 (by omega) ?_
  refine w_aload_n b dL_law_893 rfl rfl ?_
  refine w_iload b dL_law_894 rfl ?_
  refine z_iconst b dL_law_896 ?_
  refine z_iadd b dL_law_897 ?_
  refine z_sld b dL_law_898 (by omega) ?_
  obtain ⟨d1, mc1, ms1, q1, q2, q3, hM⟩ := s_side (sc_in g _) (sc_in g _) (sc_in g _) σ hW
  refine w_callV (st := []) (vs := [.int (iI (sc g (i + 1))), .int (iI (sc g (i + 2))), .int (iI (sc g (i + 3)))]) b dL_law_899 lmL_113 rfl rfl hW.o0 (tle rfl) (by omega) (by omega) (by omega) hM (fun r1 σ1 hq => ?_)
  obtain ⟨z, rfl, e1, he, ⟨fs9, m9⟩, hN⟩ := hq
  refine w_aload_n b dL_law_902 rfl rfl ?_
  refine w_aload_n b dL_law_903 rfl rfl ?_
  refine w_iload b dL_law_904 rfl ?_
  refine z_iconst b dL_law_906 ?_
  refine z_iadd b dL_law_907 ?_
  refine z_sld b dL_law_908 (by omega) ?_
  refine w_aload_n b dL_law_909 rfl rfl ?_
  refine w_iload b dL_law_910 rfl ?_
  refine z_iconst b dL_law_912 ?_
  refine z_iadd b dL_law_913 ?_
  refine z_sld b dL_law_914 (by omega) ?_
  refine w_aload_n b dL_law_915 rfl rfl ?_
  refine w_iload b dL_law_916 rfl ?_
  refine z_iconst b dL_law_918 ?_
  refine z_iadd b dL_law_919 ?_
  refine z_sld b dL_law_920 (by omega) ?_
  refine w_callV (st := [.int (iI z)]) (vs := [.int (iI (sc g (i + 1))), .int (iI (sc g (i + 2))), .int (iI (sc g (i + 3)))]) b dL_law_921 lmL_116 rfl rfl m9 (tle rfl) (by omega) (by omega) (by omega) hN (fun r2 σ2 hq => ?_)
  obtain ⟨rfl, hW2⟩ := hq
  refine w_icmp_eq (tgt := 1440) b dL_law_924 (by decide) (fun _ => ?_) (fun z => absurd rfl z)
  exact kk _ _ σ2 (by omega) (by omega) hW2
set_option maxRecDepth 20000 in
theorem law_corner {X : Cx} {l0 : Launch} {g : Gw} {Z : State → Prop} {w d mc ms kc ks : Nat} {σ : Sg} {i : Int} (b : BX X l0 g mL_law d mc ms) (hd : 41 ≤ d) (hl : l0.stackTraces = false) (hi : 1 ≤ i ∧ i + 5 < (gL g : Int) ∧ i < 100000) (hW : WI w σ) (hkc : kc + 3 ≤ mc) (hks : ks + 19 ≤ ms) (kk : ∀ kc' ks' σ', kc' ≤ kc + 3 → ks' ≤ ks + 19 → WI w σ' → WW X g mL_law.2.2.1 Z kc' ks' 1440 (LL i) [] σ') : WW X g mL_law.2.2.1 Z kc ks 929 (LL i) [] σ := by
  refine w_aload_n b dL_law_929 rfl rfl ?_
  refine w_aload_n b dL_law_930 rfl rfl ?_
  refine w_iload b dL_law_931 rfl ?_
  refine z_iconst b dL_law_933 ?_
  refine z_iadd b dL_law_934 ?_
  refine z_sld b dL_law_935 (by omega) ?_
  refine w_aload_n b dL_law_936 rfl rfl ?_
  refine w_iload b dL_law_937 rfl ?_
  refine z_iconst b dL_law_939 ?_
  refine z_iadd b dL_law_940 ?_
  refine z_sld b dL_law_941 (by omega) ?_
  refine w_aload_n b dL_law_942 rfl rfl ?_
  refine w_iload b dL_law_943 rfl ?_
  refine z_iconst b dL_law_945 ?_
  refine z_iadd b dL_law_946 ?_
  refine z_sld b dL_law_947 (by omega) ?_
  refine w_aload_n b dL_law_948 rfl rfl ?_
  refine w_iload b dL_law_949 rfl ?_
  refine z_iconst b dL_law_951 ?_
  refine z_iadd b dL_law_952 ?_
  refine z_sld b dL_law_953 (by omega) ?_
  obtain ⟨d1, mc1, ms1, q1, q2, q3, hM⟩ := s_corner (sc_in g _) (sc_in g _) (sc_in g _) (sc_in g _) σ hW
  refine w_callV (st := []) (vs := [.int (iI (sc g (i + 1))), .int (iI (sc g (i + 2))), .int (iI (sc g (i + 3))), .int (iI (sc g (i + 4)))]) b dL_law_954 lmL_117 rfl rfl hW.o0 (tle rfl) (by omega) (by omega) (by omega) hM (fun r1 σ1 hq => ?_)
  obtain ⟨z, rfl, e1, he, ⟨fs9, m9⟩, hN⟩ := hq
  refine w_aload_n b dL_law_957 rfl rfl ?_
  refine w_aload_n b dL_law_958 rfl rfl ?_
  refine w_iload b dL_law_959 rfl ?_
  refine z_iconst b dL_law_961 ?_
  refine z_iadd b dL_law_962 ?_
  refine z_sld b dL_law_963 (by omega) ?_
  refine w_aload_n b dL_law_964 rfl rfl ?_
  refine w_iload b dL_law_965 rfl ?_
  refine z_iconst b dL_law_967 ?_
  refine z_iadd b dL_law_968 ?_
  refine z_sld b dL_law_969 (by omega) ?_
  refine w_aload_n b dL_law_970 rfl rfl ?_
  refine w_iload b dL_law_971 rfl ?_
  refine z_iconst b dL_law_973 ?_
  refine z_iadd b dL_law_974 ?_
  refine z_sld b dL_law_975 (by omega) ?_
  refine w_aload_n b dL_law_976 rfl rfl ?_
  refine w_iload b dL_law_977 rfl ?_
  refine z_iconst b dL_law_979 ?_
  refine z_iadd b dL_law_980 ?_
  refine z_sld b dL_law_981 (by omega) ?_
  refine w_callV (st := [.int (iI z)]) (vs := [.int (iI (sc g (i + 1))), .int (iI (sc g (i + 2))), .int (iI (sc g (i + 3))), .int (iI (sc g (i + 4)))]) b dL_law_982 lmL_121 rfl rfl m9 (tle rfl) (by omega) (by omega) (by omega) hN (fun r2 σ2 hq => ?_)
  obtain ⟨rfl, hW2⟩ := hq
  refine w_icmp_eq (tgt := 1440) b dL_law_985 (by decide) (fun _ => ?_) (fun z => absurd rfl z)
  exact kk _ _ σ2 (by omega) (by omega) hW2
set_option maxRecDepth 20000 in
theorem law_fits {X : Cx} {l0 : Launch} {g : Gw} {Z : State → Prop} {w d mc ms kc ks : Nat} {σ : Sg} {i : Int} (b : BX X l0 g mL_law d mc ms) (hd : 41 ≤ d) (hl : l0.stackTraces = false) (hi : 1 ≤ i ∧ i + 5 < (gL g : Int) ∧ i < 100000) (hW : WI w σ) (hkc : kc + 3 ≤ mc) (hks : ks + 19 ≤ ms) (kk : ∀ kc' ks' σ', kc' ≤ kc + 3 → ks' ≤ ks + 19 → WI w σ' → WW X g mL_law.2.2.1 Z kc' ks' 1440 (LL i) [] σ') : WW X g mL_law.2.2.1 Z kc ks 990 (LL i) [] σ := by
  refine w_aload_n b dL_law_990 rfl rfl ?_
  refine w_aload_n b dL_law_991 rfl rfl ?_
  refine w_iload b dL_law_992 rfl ?_
  refine z_iconst b dL_law_994 ?_
  refine z_iadd b dL_law_995 ?_
  refine z_sld b dL_law_996 (by omega) ?_
  refine w_aload_n b dL_law_997 rfl rfl ?_
  refine w_iload b dL_law_998 rfl ?_
  refine z_iconst b dL_law_1000 ?_
  refine z_iadd b dL_law_1001 ?_
  refine z_sld b dL_law_1002 (by omega) ?_
  refine w_aload_n b dL_law_1003 rfl rfl ?_
  refine w_iload b dL_law_1004 rfl ?_
  refine z_iconst b dL_law_1006 ?_
  refine z_iadd b dL_law_1007 ?_
  refine z_sld b dL_law_1008 (by omega) ?_
  obtain ⟨d1, mc1, ms1, q1, q2, q3, hM⟩ := s_fits (sc_in g _) (sc_in g _) (sc_in g _) σ hW
  refine w_callV (st := []) (vs := [.int (iI (sc g (i + 1))), .int (iI (sc g (i + 2))), .int (iI (sc g (i + 3)))]) b dL_law_1009 lmL_122 rfl rfl hW.o0 (tle rfl) (by omega) (by omega) (by omega) hM (fun r1 σ1 hq => ?_)
  obtain ⟨z, rfl, e1, he, ⟨fs9, m9⟩, hN⟩ := hq
  refine w_aload_n b dL_law_1012 rfl rfl ?_
  refine w_aload_n b dL_law_1013 rfl rfl ?_
  refine w_iload b dL_law_1014 rfl ?_
  refine z_iconst b dL_law_1016 ?_
  refine z_iadd b dL_law_1017 ?_
  refine z_sld b dL_law_1018 (by omega) ?_
  refine w_aload_n b dL_law_1019 rfl rfl ?_
  refine w_iload b dL_law_1020 rfl ?_
  refine z_iconst b dL_law_1022 ?_
  refine z_iadd b dL_law_1023 ?_
  refine z_sld b dL_law_1024 (by omega) ?_
  refine w_aload_n b dL_law_1025 rfl rfl ?_
  refine w_iload b dL_law_1026 rfl ?_
  refine z_iconst b dL_law_1028 ?_
  refine z_iadd b dL_law_1029 ?_
  refine z_sld b dL_law_1030 (by omega) ?_
  refine w_callV (st := [.int (iI z)]) (vs := [.int (iI (sc g (i + 1))), .int (iI (sc g (i + 2))), .int (iI (sc g (i + 3)))]) b dL_law_1031 lmL_125 rfl rfl m9 (tle rfl) (by omega) (by omega) (by omega) hN (fun r2 σ2 hq => ?_)
  obtain ⟨rfl, hW2⟩ := hq
  refine w_icmp_eq (tgt := 1440) b dL_law_1034 (by decide) (fun _ => ?_) (fun z => absurd rfl z)
  exact kk _ _ σ2 (by omega) (by omega) hW2
set_option maxRecDepth 20000 in
theorem law_village {X : Cx} {l0 : Launch} {g : Gw} {Z : State → Prop} {w d mc ms kc ks : Nat} {σ : Sg} {i : Int} (b : BX X l0 g mL_law d mc ms) (hd : 41 ≤ d) (hl : l0.stackTraces = false) (hi : 1 ≤ i ∧ i + 5 < (gL g : Int) ∧ i < 100000) (hW : WI w σ) (hkc : kc + 3 ≤ mc) (hks : ks + 19 ≤ ms) (kk : ∀ kc' ks' σ', kc' ≤ kc + 3 → ks' ≤ ks + 19 → WI w σ' → WW X g mL_law.2.2.1 Z kc' ks' 1440 (LL i) [] σ') : WW X g mL_law.2.2.1 Z kc ks 1039 (LL i) [] σ := by
  refine w_aload_n b dL_law_1039 rfl rfl ?_
  refine w_aload_n b dL_law_1040 rfl rfl ?_
  refine w_iload b dL_law_1041 rfl ?_
  refine z_iconst b dL_law_1043 ?_
  refine z_iadd b dL_law_1044 ?_
  refine z_sld b dL_law_1045 (by omega) ?_
  obtain ⟨d1, mc1, ms1, q1, q2, q3, hM⟩ := s_village (sc_in g _) σ hW
  refine w_callV (st := []) (vs := [.int (iI (sc g (i + 1)))]) b dL_law_1046 lmL_126 rfl rfl hW.o0 (tle rfl) (by omega) (by omega) (by omega) hM (fun r1 σ1 hq => ?_)
  obtain ⟨z, rfl, e1, he, ⟨fs9, m9⟩, hN⟩ := hq
  refine w_aload_n b dL_law_1049 rfl rfl ?_
  refine w_aload_n b dL_law_1050 rfl rfl ?_
  refine w_iload b dL_law_1051 rfl ?_
  refine z_iconst b dL_law_1053 ?_
  refine z_iadd b dL_law_1054 ?_
  refine z_sld b dL_law_1055 (by omega) ?_
  refine w_callV (st := [.int (iI z)]) (vs := [.int (iI (sc g (i + 1)))]) b dL_law_1056 lmL_129 rfl rfl m9 (tle rfl) (by omega) (by omega) (by omega) hN (fun r2 σ2 hq => ?_)
  obtain ⟨rfl, hW2⟩ := hq
  refine w_icmp_eq (tgt := 1440) b dL_law_1059 (by decide) (fun _ => ?_) (fun z => absurd rfl z)
  exact kk _ _ σ2 (by omega) (by omega) hW2
set_option maxRecDepth 20000 in
theorem law_tree {X : Cx} {l0 : Launch} {g : Gw} {Z : State → Prop} {w d mc ms kc ks : Nat} {σ : Sg} {i : Int} (b : BX X l0 g mL_law d mc ms) (hd : 41 ≤ d) (hl : l0.stackTraces = false) (hi : 1 ≤ i ∧ i + 5 < (gL g : Int) ∧ i < 100000) (hW : WI w σ) (hkc : kc + 3 ≤ mc) (hks : ks + 19 ≤ ms) (kk : ∀ kc' ks' σ', kc' ≤ kc + 3 → ks' ≤ ks + 19 → WI w σ' → WW X g mL_law.2.2.1 Z kc' ks' 1440 (LL i) [] σ') : WW X g mL_law.2.2.1 Z kc ks 1064 (LL i) [] σ := by
  refine w_aload_n b dL_law_1064 rfl rfl ?_
  obtain ⟨d1, mc1, ms1, q1, q2, q3, hM⟩ := s_tree  σ hW
  refine w_callV (st := []) (vs := []) b dL_law_1065 lmL_130 rfl rfl hW.o0 (tle rfl) (by omega) (by omega) (by omega) hM (fun r1 σ1 hq => ?_)
  obtain ⟨z, rfl, e1, he, ⟨fs9, m9⟩, hN⟩ := hq
  refine w_aload_n b dL_law_1068 rfl rfl ?_
  refine w_callV (st := [.int (iI z)]) (vs := []) b dL_law_1069 lmL_133 rfl rfl m9 (tle rfl) (by omega) (by omega) (by omega) hN (fun r2 σ2 hq => ?_)
  obtain ⟨rfl, hW2⟩ := hq
  refine w_icmp_eq (tgt := 1440) b dL_law_1072 (by decide) (fun _ => ?_) (fun z => absurd rfl z)
  exact kk _ _ σ2 (by omega) (by omega) hW2
set_option maxRecDepth 20000 in
theorem law_link {X : Cx} {l0 : Launch} {g : Gw} {Z : State → Prop} {w d mc ms kc ks : Nat} {σ : Sg} {i : Int} (b : BX X l0 g mL_law d mc ms) (hd : 41 ≤ d) (hl : l0.stackTraces = false) (hi : 1 ≤ i ∧ i + 5 < (gL g : Int) ∧ i < 100000) (hW : WI w σ) (hkc : kc + 3 ≤ mc) (hks : ks + 19 ≤ ms) (kk : ∀ kc' ks' σ', kc' ≤ kc + 3 → ks' ≤ ks + 19 → WI w σ' → WW X g mL_law.2.2.1 Z kc' ks' 1440 (LL i) [] σ') : WW X g mL_law.2.2.1 Z kc ks 1077 (LL i) [] σ := by
  refine w_aload_n b dL_law_1077 rfl rfl ?_
  refine w_aload_n b dL_law_1078 rfl rfl ?_
  refine w_iload b dL_law_1079 rfl ?_
  refine z_iconst b dL_law_1081 ?_
  refine z_iadd b dL_law_1082 ?_
  refine z_sld b dL_law_1083 (by omega) ?_
  obtain ⟨d1, mc1, ms1, q1, q2, q3, hM⟩ := s_link (sc_in g _) σ hW
  refine w_callV (st := []) (vs := [.int (iI (sc g (i + 1)))]) b dL_law_1084 lmL_134 rfl rfl hW.o0 (tle rfl) (by omega) (by omega) (by omega) hM (fun r1 σ1 hq => ?_)
  obtain ⟨z, rfl, e1, he, ⟨fs9, m9⟩, hN⟩ := hq
  refine w_aload_n b dL_law_1087 rfl rfl ?_
  refine w_aload_n b dL_law_1088 rfl rfl ?_
  refine w_iload b dL_law_1089 rfl ?_
  refine z_iconst b dL_law_1091 ?_
  refine z_iadd b dL_law_1092 ?_
  refine z_sld b dL_law_1093 (by omega) ?_
  refine w_callV (st := [.int (iI z)]) (vs := [.int (iI (sc g (i + 1)))]) b dL_law_1094 lmL_137 rfl rfl m9 (tle rfl) (by omega) (by omega) (by omega) hN (fun r2 σ2 hq => ?_)
  obtain ⟨rfl, hW2⟩ := hq
  refine w_icmp_eq (tgt := 1440) b dL_law_1097 (by decide) (fun _ => ?_) (fun z => absurd rfl z)
  exact kk _ _ σ2 (by omega) (by omega) hW2
set_option maxRecDepth 20000 in
theorem law_rivals {X : Cx} {l0 : Launch} {g : Gw} {Z : State → Prop} {w d mc ms kc ks : Nat} {σ : Sg} {i : Int} (b : BX X l0 g mL_law d mc ms) (hd : 41 ≤ d) (hl : l0.stackTraces = false) (hi : 1 ≤ i ∧ i + 5 < (gL g : Int) ∧ i < 100000) (hW : WI w σ) (hkc : kc + 3 ≤ mc) (hks : ks + 19 ≤ ms) (kk : ∀ kc' ks' σ', kc' ≤ kc + 3 → ks' ≤ ks + 19 → WI w σ' → WW X g mL_law.2.2.1 Z kc' ks' 1440 (LL i) [] σ') : WW X g mL_law.2.2.1 Z kc ks 1102 (LL i) [] σ := by
  refine w_aload_n b dL_law_1102 rfl rfl ?_
  obtain ⟨d1, mc1, ms1, q1, q2, q3, hM⟩ := s_rivals  σ hW
  refine w_callV (st := []) (vs := []) b dL_law_1103 lmL_138 rfl rfl hW.o0 (tle rfl) (by omega) (by omega) (by omega) hM (fun r1 σ1 hq => ?_)
  obtain ⟨z, rfl, e1, he, ⟨fs9, m9⟩, hN⟩ := hq
  refine w_aload_n b dL_law_1106 rfl rfl ?_
  refine w_callV (st := [.int (iI z)]) (vs := []) b dL_law_1107 lmL_141 rfl rfl m9 (tle rfl) (by omega) (by omega) (by omega) hN (fun r2 σ2 hq => ?_)
  obtain ⟨rfl, hW2⟩ := hq
  refine w_icmp_eq (tgt := 1440) b dL_law_1110 (by decide) (fun _ => ?_) (fun z => absurd rfl z)
  exact kk _ _ σ2 (by omega) (by omega) hW2
set_option maxRecDepth 20000 in
theorem law_count {X : Cx} {l0 : Launch} {g : Gw} {Z : State → Prop} {w d mc ms kc ks : Nat} {σ : Sg} {i : Int} (b : BX X l0 g mL_law d mc ms) (hd : 41 ≤ d) (hl : l0.stackTraces = false) (hi : 1 ≤ i ∧ i + 5 < (gL g : Int) ∧ i < 100000) (hW : WI w σ) (hkc : kc + 3 ≤ mc) (hks : ks + 19 ≤ ms) (kk : ∀ kc' ks' σ', kc' ≤ kc + 3 → ks' ≤ ks + 19 → WI w σ' → WW X g mL_law.2.2.1 Z kc' ks' 1440 (LL i) [] σ') : WW X g mL_law.2.2.1 Z kc ks 1115 (LL i) [] σ := by
  refine w_aload_n b dL_law_1115 rfl rfl ?_
  refine w_aload_n b dL_law_1116 rfl rfl ?_
  refine w_iload b dL_law_1117 rfl ?_
  refine z_iconst b dL_law_1119 ?_
  refine z_iadd b dL_law_1120 ?_
  refine z_sld b dL_law_1121 (by omega) ?_
  obtain ⟨d1, mc1, ms1, q1, q2, q3, hM⟩ := s_count (sc_in g _) σ hW
  refine w_callV (st := []) (vs := [.int (iI (sc g (i + 1)))]) b dL_law_1122 lmL_142 rfl rfl hW.o0 (tle rfl) (by omega) (by omega) (by omega) hM (fun r1 σ1 hq => ?_)
  obtain ⟨z, rfl, e1, he, ⟨fs9, m9⟩, hN⟩ := hq
  refine w_aload_n b dL_law_1125 rfl rfl ?_
  refine w_aload_n b dL_law_1126 rfl rfl ?_
  refine w_iload b dL_law_1127 rfl ?_
  refine z_iconst b dL_law_1129 ?_
  refine z_iadd b dL_law_1130 ?_
  refine z_sld b dL_law_1131 (by omega) ?_
  refine w_callV (st := [.int (iI z)]) (vs := [.int (iI (sc g (i + 1)))]) b dL_law_1132 lmL_145 rfl rfl m9 (tle rfl) (by omega) (by omega) (by omega) hN (fun r2 σ2 hq => ?_)
  obtain ⟨rfl, hW2⟩ := hq
  refine w_icmp_eq (tgt := 1440) b dL_law_1135 (by decide) (fun _ => ?_) (fun z => absurd rfl z)
  exact kk _ _ σ2 (by omega) (by omega) hW2
set_option maxRecDepth 20000 in
theorem law_keep {X : Cx} {l0 : Launch} {g : Gw} {Z : State → Prop} {w d mc ms kc ks : Nat} {σ : Sg} {i : Int} (b : BX X l0 g mL_law d mc ms) (hd : 41 ≤ d) (hl : l0.stackTraces = false) (hi : 1 ≤ i ∧ i + 5 < (gL g : Int) ∧ i < 100000) (hW : WI w σ) (hkc : kc + 3 ≤ mc) (hks : ks + 19 ≤ ms) (kk : ∀ kc' ks' σ', kc' ≤ kc + 3 → ks' ≤ ks + 19 → WI w σ' → WW X g mL_law.2.2.1 Z kc' ks' 1440 (LL i) [] σ') : WW X g mL_law.2.2.1 Z kc ks 1140 (LL i) [] σ := by
  refine w_aload_n b dL_law_1140 rfl rfl ?_
  refine w_aload_n b dL_law_1141 rfl rfl ?_
  refine w_iload b dL_law_1142 rfl ?_
  refine z_iconst b dL_law_1144 ?_
  refine z_iadd b dL_law_1145 ?_
  refine z_sld b dL_law_1146 (by omega) ?_
  refine w_aload_n b dL_law_1147 rfl rfl ?_
  refine w_iload b dL_law_1148 rfl ?_
  refine z_iconst b dL_law_1150 ?_
  refine z_iadd b dL_law_1151 ?_
  refine z_sld b dL_law_1152 (by omega) ?_
  refine w_aload_n b dL_law_1153 rfl rfl ?_
  refine w_iload b dL_law_1154 rfl ?_
  refine z_iconst b dL_law_1156 ?_
  refine z_iadd b dL_law_1157 ?_
  refine z_sld b dL_law_1158 (by omega) ?_
  refine w_aload_n b dL_law_1159 rfl rfl ?_
  refine w_iload b dL_law_1160 rfl ?_
  refine z_iconst b dL_law_1162 ?_
  refine z_iadd b dL_law_1163 ?_
  refine z_sld b dL_law_1164 (by omega) ?_
  obtain ⟨d1, mc1, ms1, q1, q2, q3, hM⟩ := s_keep (sc_in g _) (sc_in g _) (sc_in g _) (sc_in g _) σ hW
  refine w_callV (st := []) (vs := [.int (iI (sc g (i + 1))), .int (iI (sc g (i + 2))), .int (iI (sc g (i + 3))), .int (iI (sc g (i + 4)))]) b dL_law_1165 lmL_146 rfl rfl hW.o0 (tle rfl) (by omega) (by omega) (by omega) hM (fun r1 σ1 hq => ?_)
  obtain ⟨z, rfl, e1, he, ⟨fs9, m9⟩, hN⟩ := hq
  refine w_aload_n b dL_law_1168 rfl rfl ?_
  refine w_aload_n b dL_law_1169 rfl rfl ?_
  refine w_iload b dL_law_1170 rfl ?_
  refine z_iconst b dL_law_1172 ?_
  refine z_iadd b dL_law_1173 ?_
  refine z_sld b dL_law_1174 (by omega) ?_
  refine w_aload_n b dL_law_1175 rfl rfl ?_
  refine w_iload b dL_law_1176 rfl ?_
  refine z_iconst b dL_law_1178 ?_
  refine z_iadd b dL_law_1179 ?_
  refine z_sld b dL_law_1180 (by omega) ?_
  refine w_aload_n b dL_law_1181 rfl rfl ?_
  refine w_iload b dL_law_1182 rfl ?_
  refine z_iconst b dL_law_1184 ?_
  refine z_iadd b dL_law_1185 ?_
  refine z_sld b dL_law_1186 (by omega) ?_
  refine w_aload_n b dL_law_1187 rfl rfl ?_
  refine w_iload b dL_law_1188 rfl ?_
  refine z_iconst b dL_law_1190 ?_
  refine z_iadd b dL_law_1191 ?_
  refine z_sld b dL_law_1192 (by omega) ?_
  refine w_callV (st := [.int (iI z)]) (vs := [.int (iI (sc g (i + 1))), .int (iI (sc g (i + 2))), .int (iI (sc g (i + 3))), .int (iI (sc g (i + 4)))]) b dL_law_1193 lmL_149 rfl rfl m9 (tle rfl) (by omega) (by omega) (by omega) hN (fun r2 σ2 hq => ?_)
  obtain ⟨rfl, hW2⟩ := hq
  refine w_icmp_eq (tgt := 1440) b dL_law_1196 (by decide) (fun _ => ?_) (fun z => absurd rfl z)
  exact kk _ _ σ2 (by omega) (by omega) hW2
set_option maxRecDepth 20000 in
theorem law_make {X : Cx} {l0 : Launch} {g : Gw} {Z : State → Prop} {w d mc ms kc ks : Nat} {σ : Sg} {i : Int} (b : BX X l0 g mL_law d mc ms) (hd : 41 ≤ d) (hl : l0.stackTraces = false) (hi : 1 ≤ i ∧ i + 5 < (gL g : Int) ∧ i < 100000) (hW : WI w σ) (hkc : kc + 3 ≤ mc) (hks : ks + 19 ≤ ms) (kk : ∀ kc' ks' σ', kc' ≤ kc + 3 → ks' ≤ ks + 19 → WI w σ' → WW X g mL_law.2.2.1 Z kc' ks' 1440 (LL i) [] σ') : WW X g mL_law.2.2.1 Z kc ks 1201 (LL i) [] σ := by
  refine w_aload_n b dL_law_1201 rfl rfl ?_
  refine w_aload_n b dL_law_1202 rfl rfl ?_
  refine w_iload b dL_law_1203 rfl ?_
  refine z_iconst b dL_law_1205 ?_
  refine z_iadd b dL_law_1206 ?_
  refine z_sld b dL_law_1207 (by omega) ?_
  refine w_aload_n b dL_law_1208 rfl rfl ?_
  refine w_iload b dL_law_1209 rfl ?_
  refine z_iconst b dL_law_1211 ?_
  refine z_iadd b dL_law_1212 ?_
  refine z_sld b dL_law_1213 (by omega) ?_
  refine w_aload_n b dL_law_1214 rfl rfl ?_
  refine w_iload b dL_law_1215 rfl ?_
  refine z_iconst b dL_law_1217 ?_
  refine z_iadd b dL_law_1218 ?_
  refine z_sld b dL_law_1219 (by omega) ?_
  obtain ⟨d1, mc1, ms1, q1, q2, q3, hM⟩ := s_make (sc_in g _) (sc_in g _) (sc_in g _) σ hW
  refine w_callV (st := []) (vs := [.int (iI (sc g (i + 1))), .int (iI (sc g (i + 2))), .int (iI (sc g (i + 3)))]) b dL_law_1220 lmL_150 rfl rfl hW.o0 (tle rfl) (by omega) (by omega) (by omega) hM (fun r1 σ1 hq => ?_)
  obtain ⟨z, rfl, e1, he, ⟨fs9, m9⟩, hN⟩ := hq
  refine w_aload_n b dL_law_1223 rfl rfl ?_
  refine w_aload_n b dL_law_1224 rfl rfl ?_
  refine w_iload b dL_law_1225 rfl ?_
  refine z_iconst b dL_law_1227 ?_
  refine z_iadd b dL_law_1228 ?_
  refine z_sld b dL_law_1229 (by omega) ?_
  refine w_aload_n b dL_law_1230 rfl rfl ?_
  refine w_iload b dL_law_1231 rfl ?_
  refine z_iconst b dL_law_1233 ?_
  refine z_iadd b dL_law_1234 ?_
  refine z_sld b dL_law_1235 (by omega) ?_
  refine w_aload_n b dL_law_1236 rfl rfl ?_
  refine w_iload b dL_law_1237 rfl ?_
  refine z_iconst b dL_law_1239 ?_
  refine z_iadd b dL_law_1240 ?_
  refine z_sld b dL_law_1241 (by omega) ?_
  refine w_callV (st := [.int (iI z)]) (vs := [.int (iI (sc g (i + 1))), .int (iI (sc g (i + 2))), .int (iI (sc g (i + 3)))]) b dL_law_1242 lmL_153 rfl rfl m9 (tle rfl) (by omega) (by omega) (by omega) hN (fun r2 σ2 hq => ?_)
  obtain ⟨rfl, hW2⟩ := hq
  refine w_icmp_eq (tgt := 1440) b dL_law_1245 (by decide) (fun _ => ?_) (fun z => absurd rfl z)
  exact kk _ _ σ2 (by omega) (by omega) hW2
set_option maxRecDepth 20000 in
theorem law_element {X : Cx} {l0 : Launch} {g : Gw} {Z : State → Prop} {w d mc ms kc ks : Nat} {σ : Sg} {i : Int} (b : BX X l0 g mL_law d mc ms) (hd : 41 ≤ d) (hl : l0.stackTraces = false) (hi : 1 ≤ i ∧ i + 5 < (gL g : Int) ∧ i < 100000) (hW : WI w σ) (hkc : kc + 3 ≤ mc) (hks : ks + 19 ≤ ms) (kk : ∀ kc' ks' σ', kc' ≤ kc + 3 → ks' ≤ ks + 19 → WI w σ' → WW X g mL_law.2.2.1 Z kc' ks' 1440 (LL i) [] σ') : WW X g mL_law.2.2.1 Z kc ks 1250 (LL i) [] σ := by
  refine w_aload_n b dL_law_1250 rfl rfl ?_
  refine w_aload_n b dL_law_1251 rfl rfl ?_
  refine w_iload b dL_law_1252 rfl ?_
  refine z_iconst b dL_law_1254 ?_
  refine z_iadd b dL_law_1255 ?_
  refine z_sld b dL_law_1256 (by omega) ?_
  refine w_aload_n b dL_law_1257 rfl rfl ?_
  refine w_iload b dL_law_1258 rfl ?_
  refine z_iconst b dL_law_1260 ?_
  refine z_iadd b dL_law_1261 ?_
  refine z_sld b dL_law_1262 (by omega) ?_
  refine w_aload_n b dL_law_1263 rfl rfl ?_
  refine w_callSH (st := []) (vs := [.ref 0, .int (iI (sc g (i + 1))), .int (iI (sc g (i + 2))), .ref 290]) b dL_law_1264 lhE rfl rfl (tle rfl) (by omega) (by omega) (by omega) (s_element hl (sc_in g _) (sc_in g _) σ hW) (fun r1 σ1 hq => ?_)
  obtain ⟨k, hk, rfl, e1, he, ⟨fs9, m9⟩, hN⟩ := hq
  refine w_istore b dL_law_1267 (tlt rfl) rfl ?_
  refine w_aload_n b dL_law_1269 rfl rfl ?_
  refine w_aload_n b dL_law_1270 rfl rfl ?_
  refine w_iload b dL_law_1271 rfl ?_
  refine z_iconst b dL_law_1273 ?_
  refine z_iadd b dL_law_1274 ?_
  refine z_sld b dL_law_1275 (by omega) ?_
  refine w_aload_n b dL_law_1276 rfl rfl ?_
  refine w_iload b dL_law_1277 rfl ?_
  refine z_iconst b dL_law_1279 ?_
  refine z_iadd b dL_law_1280 ?_
  refine z_sld b dL_law_1281 (by omega) ?_
  refine w_callV (st := []) (vs := [.int (iI (sc g (i + 1))), .int (iI (sc g (i + 2)))]) b dL_law_1282 lmL_157 rfl rfl m9 (tle rfl) (by omega) (by omega) (by omega) hN (fun r2 σ2 hq => ?_)
  obtain ⟨y, rfl, hW2, hT, hO⟩ := hq
  obtain ⟨fs2, m2⟩ := hW2.m9
  refine w_lstore b dL_law_1285 (tlt rfl) rfl ?_
  refine w_aload_n b dL_law_1287 rfl rfl ?_
  refine c_V0 b dL_law_1288 lmL_158 m2 hT (tle rfl) (by omega) (by omega) (by omega) ?_
  refine w_iload b dL_law_1291 rfl ?_
  refine w_icmp_eq (tgt := 1298) b dL_law_1293 (by decide) (fun _ => ?_) (fun z => absurd rfl z)
  refine w_iload b dL_law_1298 rfl ?_
  refine z_if_ne (tgt := 1314) b dL_law_1300 (by decide) (by omega) (fun c => ?_) (fun c => ?_)
  · refine w_goto (tgt := 1440) b dL_law_1314 (by decide) ?_
    refine ww_forget 5 ?_
    refine ww_forget 6 ?_
    exact kk _ _ σ2 (by omega) (by omega) hW2
  · obtain ⟨f, f1, f2⟩ := hO (by omega)
    refine w_aload_n b dL_law_1303 rfl rfl ?_
    refine z_iconst b dL_law_1304 ?_
    refine w_lald b dL_law_1305 f1 (iI_in (by decide) (by decide) (by decide)) ?_
    refine w_lload b dL_law_1306 rfl ?_
    refine w_lcmp b dL_law_1308 ?_
    refine ww_cast (st' := [.int 0]) rfl ?_ rfl ?_
    · have e9 : f (iI 0).toNatClampNeg = y := f2
      rw [e9]
      simp [lg_cmp]
    refine w_if_eq (tgt := 1314) b dL_law_1309 (by decide) (fun _ => ?_) (fun z => absurd rfl z)
    refine w_goto (tgt := 1440) b dL_law_1314 (by decide) ?_
    refine ww_forget 5 ?_
    refine ww_forget 6 ?_
    exact kk _ _ σ2 (by omega) (by omega) hW2
set_option maxRecDepth 20000 in
theorem law_copy {X : Cx} {l0 : Launch} {g : Gw} {Z : State → Prop} {w d mc ms kc ks : Nat} {σ : Sg} {i : Int} (b : BX X l0 g mL_law d mc ms) (hd : 41 ≤ d) (hl : l0.stackTraces = false) (hi : 1 ≤ i ∧ i + 5 < (gL g : Int) ∧ i < 100000) (hW : WI w σ) (hkc : kc + 3 ≤ mc) (hks : ks + 19 ≤ ms) (kk : ∀ kc' ks' σ', kc' ≤ kc + 3 → ks' ≤ ks + 19 → WI w σ' → WW X g mL_law.2.2.1 Z kc' ks' 1440 (LL i) [] σ') : WW X g mL_law.2.2.1 Z kc ks 1317 (LL i) [] σ := by
  refine w_aload_n b dL_law_1317 rfl rfl ?_
  refine w_aload_n b dL_law_1318 rfl rfl ?_
  refine w_iload b dL_law_1319 rfl ?_
  refine z_iconst b dL_law_1321 ?_
  refine z_iadd b dL_law_1322 ?_
  refine z_sld b dL_law_1323 (by omega) ?_
  refine w_aload_n b dL_law_1324 rfl rfl ?_
  refine w_iload b dL_law_1325 rfl ?_
  refine z_iconst b dL_law_1327 ?_
  refine z_iadd b dL_law_1328 ?_
  refine z_sld b dL_law_1329 (by omega) ?_
  refine w_aload_n b dL_law_1330 rfl rfl ?_
  refine w_iload b dL_law_1331 rfl ?_
  refine z_iconst b dL_law_1333 ?_
  refine z_iadd b dL_law_1334 ?_
  refine z_sld b dL_law_1335 (by omega) ?_
  refine w_aload_n b dL_law_1336 rfl rfl ?_
  refine w_iload b dL_law_1337 rfl ?_
  refine z_iconst b dL_law_1339 ?_
  refine z_iadd b dL_law_1340 ?_
  refine z_sld b dL_law_1341 (by omega) ?_
  refine w_aload_n b dL_law_1342 rfl rfl ?_
  refine w_iload b dL_law_1343 rfl ?_
  refine z_iconst b dL_law_1345 ?_
  refine z_iadd b dL_law_1346 ?_
  refine z_sld b dL_law_1347 (by omega) ?_
  obtain ⟨d1, mc1, ms1, q1, q2, q3, hM⟩ := s_copy (sc_in g _) (sc_in g _) (sc_in g _) (sc_in g _) (sc_in g _) σ hW
  refine w_callV (st := []) (vs := [.int (iI (sc g (i + 1))), .int (iI (sc g (i + 2))), .int (iI (sc g (i + 3))), .int (iI (sc g (i + 4))), .int (iI (sc g (i + 5)))]) b dL_law_1348 lmL_161 rfl rfl hW.o0 (tle rfl) (by omega) (by omega) (by omega) hM (fun r1 σ1 hq => ?_)
  obtain ⟨z, rfl, e1, he, ⟨fs9, m9⟩, hN⟩ := hq
  refine w_aload_n b dL_law_1351 rfl rfl ?_
  refine w_aload_n b dL_law_1352 rfl rfl ?_
  refine w_iload b dL_law_1353 rfl ?_
  refine z_iconst b dL_law_1355 ?_
  refine z_iadd b dL_law_1356 ?_
  refine z_sld b dL_law_1357 (by omega) ?_
  refine w_aload_n b dL_law_1358 rfl rfl ?_
  refine w_iload b dL_law_1359 rfl ?_
  refine z_iconst b dL_law_1361 ?_
  refine z_iadd b dL_law_1362 ?_
  refine z_sld b dL_law_1363 (by omega) ?_
  refine w_aload_n b dL_law_1364 rfl rfl ?_
  refine w_iload b dL_law_1365 rfl ?_
  refine z_iconst b dL_law_1367 ?_
  refine z_iadd b dL_law_1368 ?_
  refine z_sld b dL_law_1369 (by omega) ?_
  refine w_aload_n b dL_law_1370 rfl rfl ?_
  refine w_iload b dL_law_1371 rfl ?_
  refine z_iconst b dL_law_1373 ?_
  refine z_iadd b dL_law_1374 ?_
  refine z_sld b dL_law_1375 (by omega) ?_
  refine w_aload_n b dL_law_1376 rfl rfl ?_
  refine w_iload b dL_law_1377 rfl ?_
  refine z_iconst b dL_law_1379 ?_
  refine z_iadd b dL_law_1380 ?_
  refine z_sld b dL_law_1381 (by omega) ?_
  refine w_callV (st := [.int (iI z)]) (vs := [.int (iI (sc g (i + 1))), .int (iI (sc g (i + 2))), .int (iI (sc g (i + 3))), .int (iI (sc g (i + 4))), .int (iI (sc g (i + 5)))]) b dL_law_1382 lmL_165 rfl rfl m9 (tle rfl) (by omega) (by omega) (by omega) hN (fun r2 σ2 hq => ?_)
  obtain ⟨rfl, hW2⟩ := hq
  refine w_icmp_eq (tgt := 1440) b dL_law_1385 (by decide) (fun _ => ?_) (fun z => absurd rfl z)
  exact kk _ _ σ2 (by omega) (by omega) hW2
set_option maxRecDepth 20000 in
theorem law_weight {X : Cx} {l0 : Launch} {g : Gw} {Z : State → Prop} {w d mc ms kc ks : Nat} {σ : Sg} {i : Int} (b : BX X l0 g mL_law d mc ms) (hd : 41 ≤ d) (hl : l0.stackTraces = false) (hi : 1 ≤ i ∧ i + 5 < (gL g : Int) ∧ i < 100000) (hW : WI w σ) (hkc : kc + 3 ≤ mc) (hks : ks + 19 ≤ ms) (kk : ∀ kc' ks' σ', kc' ≤ kc + 3 → ks' ≤ ks + 19 → WI w σ' → WW X g mL_law.2.2.1 Z kc' ks' 1440 (LL i) [] σ') : WW X g mL_law.2.2.1 Z kc ks 1390 (LL i) [] σ := by
  refine w_aload_n b dL_law_1390 rfl rfl ?_
  refine w_aload_n b dL_law_1391 rfl rfl ?_
  refine w_iload b dL_law_1392 rfl ?_
  refine z_iconst b dL_law_1394 ?_
  refine z_iadd b dL_law_1395 ?_
  refine z_sld b dL_law_1396 (by omega) ?_
  obtain ⟨d1, mc1, ms1, q1, q2, q3, hM⟩ := s_weight (sc_in g _) σ hW
  refine w_callV (st := []) (vs := [.int (iI (sc g (i + 1)))]) b dL_law_1397 lmL_166 rfl rfl hW.o0 (tle rfl) (by omega) (by omega) (by omega) hM (fun r1 σ1 hq => ?_)
  obtain ⟨z, rfl, e1, he, ⟨fs9, m9⟩, hN⟩ := hq
  refine w_aload_n b dL_law_1400 rfl rfl ?_
  refine w_aload_n b dL_law_1401 rfl rfl ?_
  refine w_iload b dL_law_1402 rfl ?_
  refine z_iconst b dL_law_1404 ?_
  refine z_iadd b dL_law_1405 ?_
  refine z_sld b dL_law_1406 (by omega) ?_
  refine w_callV (st := [.int (iI z)]) (vs := [.int (iI (sc g (i + 1)))]) b dL_law_1407 lmL_169 rfl rfl m9 (tle rfl) (by omega) (by omega) (by omega) hN (fun r2 σ2 hq => ?_)
  obtain ⟨rfl, hW2⟩ := hq
  refine w_icmp_eq (tgt := 1440) b dL_law_1410 (by decide) (fun _ => ?_) (fun z => absurd rfl z)
  exact kk _ _ σ2 (by omega) (by omega) hW2
set_option maxRecDepth 20000 in
theorem law_toss {X : Cx} {l0 : Launch} {g : Gw} {Z : State → Prop} {w d mc ms kc ks : Nat} {σ : Sg} {i : Int} (b : BX X l0 g mL_law d mc ms) (hd : 41 ≤ d) (hl : l0.stackTraces = false) (hi : 1 ≤ i ∧ i + 5 < (gL g : Int) ∧ i < 100000) (hW : WI w σ) (hkc : kc + 3 ≤ mc) (hks : ks + 19 ≤ ms) (kk : ∀ kc' ks' σ', kc' ≤ kc + 3 → ks' ≤ ks + 19 → WI w σ' → WW X g mL_law.2.2.1 Z kc' ks' 1440 (LL i) [] σ') : WW X g mL_law.2.2.1 Z kc ks 1415 (LL i) [] σ := by
  refine w_aload_n b dL_law_1415 rfl rfl ?_
  refine w_aload_n b dL_law_1416 rfl rfl ?_
  refine w_iload b dL_law_1417 rfl ?_
  refine z_iconst b dL_law_1419 ?_
  refine z_iadd b dL_law_1420 ?_
  refine z_sld b dL_law_1421 (by omega) ?_
  refine w_callVH (st := []) (vs := [.int (iI (sc g (i + 1)))]) b dL_law_1422 lhT rfl rfl hW.o0 (tle rfl) (by omega) (by omega) (by omega) (s_toss hl (sc_in g _) σ hW) (fun r1 σ1 hq => ?_)
  obtain ⟨z, rfl, e1, he, ⟨fs9, m9⟩, hN⟩ := hq
  refine w_aload_n b dL_law_1425 rfl rfl ?_
  refine w_aload_n b dL_law_1426 rfl rfl ?_
  refine w_iload b dL_law_1427 rfl ?_
  refine z_iconst b dL_law_1429 ?_
  refine z_iadd b dL_law_1430 ?_
  refine z_sld b dL_law_1431 (by omega) ?_
  refine w_callV (st := [.int (iI z)]) (vs := [.int (iI (sc g (i + 1)))]) b dL_law_1432 lmL_173 rfl rfl m9 (tle rfl) (by omega) (by omega) (by omega) hN (fun r2 σ2 hq => ?_)
  obtain ⟨rfl, hW2⟩ := hq
  refine w_icmp_eq (tgt := 1440) b dL_law_1435 (by decide) (fun _ => ?_) (fun z => absurd rfl z)
  exact kk _ _ σ2 (by omega) (by omega) hW2
