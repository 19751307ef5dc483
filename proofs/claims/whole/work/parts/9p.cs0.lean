section
/-! THE LAW, case by case -/
def Sc (w : Wp) (un1 : Nat → Nat) (x : Cx) (Ln : Nat) (xs : Nat → Int32) : Prop := va_X (w.ad 80) Ln xs x.s x.s.heap ∧ w.ad 80 < x.s.heap.size ∧ ¬ Aw (wO w un1) (w.ad 80)
section
variable {w : Wp} {un1 : Nat → Nat} {x : Cx} {own : String} {M : Md} {cn : Nat × Nat} {pc Ln : Nat} {xs : Nat → Int32} {ls : List (Nat × Value)} {st : List Value} {σ : Mm}
theorem V_sld {i : Int32} {n : Nat} (oo : Ok sh1 (wO w un1) x own M) (hsc : Sc w un1 x Ln xs) (hd : decode M.2.1 pc = .ok (.iaload, 1)) (hi : i = nI n) (hn : n < Ln) (hL : Ln < 2147483648) (k : V sh1 (wO w un1) x M cn (pc + 1) ls (.int (xs n) :: st) σ) : V sh1 (wO w un1) x M cn pc ls (.int i :: .ref 80 :: st) σ := fun H locs la h1 h2 h3 => by
  refine va_sld oo.2.1.1 oo.2.1.2.1 hsc.1 hsc.2.1 hsc.2.2 h2 (vin hi hn hL) hd ?_
  have e : i.toNatClampNeg = n := ixn hi (Nat.lt_trans hn hL)
  rw [e]
  exact k H locs la h1 h2 h3
theorem V_slen (oo : Ok sh1 (wO w un1) x own M) (hsc : Sc w un1 x Ln xs) (hd : decode M.2.1 pc = .ok (.arraylength, 1)) (k : V sh1 (wO w un1) x M cn (pc + 1) ls (.int (nI Ln) :: st) σ) : V sh1 (wO w un1) x M cn pc ls (.ref 80 :: st) σ := fun H locs la h1 h2 h3 => va_slen oo.2.1.1 oo.2.1.2.1 hsc.1 hsc.2.1 hsc.2.2 h2 hd (k H locs la h1 h2 h3)
theorem V_arg {k i : Nat} {kk : Int} (oo : Ok sh1 (wO w un1) x own M) (hsc : Sc w un1 x Ln xs) (d0 : decode M.2.1 pc = .ok (.aload_n 0, 1)) (d1 : decode M.2.1 (pc + 1) = .ok (.iload 4, 2)) (d3 : decode M.2.1 (pc + 3) = .ok (.iconst kk, 1)) (d4 : decode M.2.1 (pc + 4) = .ok (.iadd, 1)) (d5 : decode M.2.1 (pc + 5) = .ok (.iaload, 1)) (hk : Int32.ofInt kk = nI k) (h0 : ls.lookup 0 = some (.ref 80)) (h4 : ls.lookup 4 = some (.int (nI i))) (hn : i + k < Ln) (hL : Ln < 2147483648) (kn : V sh1 (wO w un1) x M cn (pc + 6) ls (.int (xs (i + k)) :: st) σ) : V sh1 (wO w un1) x M cn pc ls st σ := by
  refine V_aload_n oo d0 rfl h0 ?_
  refine V_iload oo d1 h4 ?_
  refine V_iconst oo d3 hk ?_
  refine V_iadd oo d4 ?_
  exact V_sld oo hsc d5 (nadd rfl rfl) hn hL kn
end
set_option maxRecDepth 20000 in
set_option maxHeartbeats 4000000 in
theorem cs_0 {w : Wp} {un1 : Nat → Nat} {x : Cx} {Ln : Nat} {xs : Nat → Int32} (hL : Lf w un1) (oo : Ok sh1 (wO w un1) x RL mL_law) (hR : x.R = room_1) (hlt : w.l.stackTraces = false) (hZ : Zs w x.s) (hsc : Sc w un1 x Ln xs) {k i : Nat} {σ : Mm} {o : Int64} {cn : Nat × Nat} (hS : St k σ) (hk : k < 512) (hi : i + 6 ≤ Ln) (hLn : Ln ≤ 3072) (hcn : cn.1 + 1 ≤ x.R.cells ∧ cn.2 + 6 ≤ x.R.slots) (nx : ∀ σ' o', St (k + 1) σ' → V sh1 (wO w un1) x mL_law (cn.1 + 1, cn.2 + 6) 1420 [(4, .int (nI i)), (3, .ref 79), (2, .ref 67), (1, .ref 1), (0, .ref 80)] [] (sO σ' o')) : V sh1 (wO w un1) x mL_law cn 212 [(4, .int (nI i)), (3, .ref 79), (2, .ref 67), (1, .ref 1), (0, .ref 80)] [] (sO σ o) := by
  have hc0 : cn.1 ≤ x.R.cells ∧ cn.2 ≤ x.R.slots := ⟨Nat.le_of_succ_le hcn.1, Nat.le_trans (Nat.le_add_right _ _) hcn.2⟩
  obtain ⟨Q, hQ, hq⟩ : Pr w k 4 6 mX8_wheels mX9_wheels [.int (xs (i + 1)), .int (xs (i + 2)), .int (xs (i + 3)), .int (xs (i + 4))] σ := p_wheels hL.1 hS hk
  refine V_aload_n oo dL_law_212 rfl rfl ?_
  refine V_arg (k := 1) oo hsc dL_law_213 dL_law_214 dL_law_216 dL_law_217 dL_law_218 (by decide) rfl rfl (by omega) (by omega) ?_
  refine V_arg (k := 2) oo hsc dL_law_219 dL_law_220 dL_law_222 dL_law_223 dL_law_224 (by decide) rfl rfl (by omega) (by omega) ?_
  refine V_arg (k := 3) oo hsc dL_law_225 dL_law_226 dL_law_228 dL_law_229 dL_law_230 (by decide) rfl rfl (by omega) (by omega) ?_
  refine V_arg (k := 4) oo hsc dL_law_231 dL_law_232 dL_law_234 dL_law_235 dL_law_236 (by decide) rfl rfl (by omega) (by omega) ?_
  refine L_callV hL oo dL_law_237 ml_L_23 hQ rfl rfl rfl (Nat.le_of_ble_eq_true rfl) (by rw [hR]; exact ⟨Nat.le_of_ble_eq_true rfl, Nat.le_of_ble_eq_true rfl⟩) hc0 (fun r1 σ1 q1 => ?_)
  obtain ⟨v, rfl, hc2⟩ := hq r1 σ1 q1
  refine V_aload_n oo dL_law_240 rfl rfl ?_
  refine V_arg (k := 1) oo hsc dL_law_241 dL_law_242 dL_law_244 dL_law_245 dL_law_246 (by decide) rfl rfl (by omega) (by omega) ?_
  refine V_arg (k := 2) oo hsc dL_law_247 dL_law_248 dL_law_250 dL_law_251 dL_law_252 (by decide) rfl rfl (by omega) (by omega) ?_
  refine V_arg (k := 3) oo hsc dL_law_253 dL_law_254 dL_law_256 dL_law_257 dL_law_258 (by decide) rfl rfl (by omega) (by omega) ?_
  refine V_arg (k := 4) oo hsc dL_law_259 dL_law_260 dL_law_262 dL_law_263 dL_law_264 (by decide) rfl rfl (by omega) (by omega) ?_
  refine L_callV hL oo dL_law_265 ml_L_27 hc2 rfl rfl rfl (Nat.le_of_ble_eq_true rfl) (by rw [hR]; exact ⟨Nat.le_of_ble_eq_true rfl, Nat.le_of_ble_eq_true rfl⟩) hc0 (fun r2 σ2 q2 => ?_)
  obtain ⟨rfl, hS2⟩ := q2
  exact V_icmp_eq (tgt := 1420) oo dL_law_268 (by decide) (fun _ => V_wid (Nat.le_succ _) (Nat.le_add_right _ _) (nx σ2 o hS2)) (fun z => absurd rfl z)
set_option maxRecDepth 20000 in
set_option maxHeartbeats 4000000 in
theorem cs_1 {w : Wp} {un1 : Nat → Nat} {x : Cx} {Ln : Nat} {xs : Nat → Int32} (hL : Lf w un1) (oo : Ok sh1 (wO w un1) x RL mL_law) (hR : x.R = room_1) (hlt : w.l.stackTraces = false) (hZ : Zs w x.s) (hsc : Sc w un1 x Ln xs) {k i : Nat} {σ : Mm} {o : Int64} {cn : Nat × Nat} (hS : St k σ) (hk : k < 512) (hi : i + 6 ≤ Ln) (hLn : Ln ≤ 3072) (hcn : cn.1 + 1 ≤ x.R.cells ∧ cn.2 + 6 ≤ x.R.slots) (nx : ∀ σ' o', St (k + 1) σ' → V sh1 (wO w un1) x mL_law (cn.1 + 1, cn.2 + 6) 1420 [(4, .int (nI i)), (3, .ref 79), (2, .ref 67), (1, .ref 1), (0, .ref 80)] [] (sO σ' o')) : V sh1 (wO w un1) x mL_law cn 273 [(4, .int (nI i)), (3, .ref 79), (2, .ref 67), (1, .ref 1), (0, .ref 80)] [] (sO σ o) := by
  have hc0 : cn.1 ≤ x.R.cells ∧ cn.2 ≤ x.R.slots := ⟨Nat.le_of_succ_le hcn.1, Nat.le_trans (Nat.le_add_right _ _) hcn.2⟩
  obtain ⟨Q, hQ, hq⟩ : Pr w k 1 1 mX8_order mX9_order [.int (xs (i + 1))] σ := p_order hL.1 hS hk
  refine V_aload_n oo dL_law_273 rfl rfl ?_
  refine V_arg (k := 1) oo hsc dL_law_274 dL_law_275 dL_law_277 dL_law_278 dL_law_279 (by decide) rfl rfl (by omega) (by omega) ?_
  refine L_callV hL oo dL_law_280 ml_L_28 hQ rfl rfl rfl (Nat.le_of_ble_eq_true rfl) (by rw [hR]; exact ⟨Nat.le_of_ble_eq_true rfl, Nat.le_of_ble_eq_true rfl⟩) hc0 (fun r1 σ1 q1 => ?_)
  obtain ⟨v, rfl, hc2⟩ := hq r1 σ1 q1
  refine V_aload_n oo dL_law_283 rfl rfl ?_
  refine V_arg (k := 1) oo hsc dL_law_284 dL_law_285 dL_law_287 dL_law_288 dL_law_289 (by decide) rfl rfl (by omega) (by omega) ?_
  refine L_callV hL oo dL_law_290 ml_L_32 hc2 rfl rfl rfl (Nat.le_of_ble_eq_true rfl) (by rw [hR]; exact ⟨Nat.le_of_ble_eq_true rfl, Nat.le_of_ble_eq_true rfl⟩) hc0 (fun r2 σ2 q2 => ?_)
  obtain ⟨rfl, hS2⟩ := q2
  exact V_icmp_eq (tgt := 1420) oo dL_law_293 (by decide) (fun _ => V_wid (Nat.le_succ _) (Nat.le_add_right _ _) (nx σ2 o hS2)) (fun z => absurd rfl z)
set_option maxRecDepth 20000 in
set_option maxHeartbeats 4000000 in
theorem cs_2 {w : Wp} {un1 : Nat → Nat} {x : Cx} {Ln : Nat} {xs : Nat → Int32} (hL : Lf w un1) (oo : Ok sh1 (wO w un1) x RL mL_law) (hR : x.R = room_1) (hlt : w.l.stackTraces = false) (hZ : Zs w x.s) (hsc : Sc w un1 x Ln xs) {k i : Nat} {σ : Mm} {o : Int64} {cn : Nat × Nat} (hS : St k σ) (hk : k < 512) (hi : i + 6 ≤ Ln) (hLn : Ln ≤ 3072) (hcn : cn.1 + 1 ≤ x.R.cells ∧ cn.2 + 6 ≤ x.R.slots) (nx : ∀ σ' o', St (k + 1) σ' → V sh1 (wO w un1) x mL_law (cn.1 + 1, cn.2 + 6) 1420 [(4, .int (nI i)), (3, .ref 79), (2, .ref 67), (1, .ref 1), (0, .ref 80)] [] (sO σ' o')) : V sh1 (wO w un1) x mL_law cn 298 [(4, .int (nI i)), (3, .ref 79), (2, .ref 67), (1, .ref 1), (0, .ref 80)] [] (sO σ o) := by
  have hc0 : cn.1 ≤ x.R.cells ∧ cn.2 ≤ x.R.slots := ⟨Nat.le_of_succ_le hcn.1, Nat.le_trans (Nat.le_add_right _ _) hcn.2⟩
  obtain ⟨Q, hQ, hq⟩ : Pr w k 4 8 mX8_ticks mX9_ticks [.int (xs (i + 1))] σ := p_ticks hL.1 hS hk
  refine V_aload_n oo dL_law_298 rfl rfl ?_
  refine V_arg (k := 1) oo hsc dL_law_299 dL_law_300 dL_law_302 dL_law_303 dL_law_304 (by decide) rfl rfl (by omega) (by omega) ?_
  refine L_callV hL oo dL_law_305 ml_L_33 hQ rfl rfl rfl (Nat.le_of_ble_eq_true rfl) (by rw [hR]; exact ⟨Nat.le_of_ble_eq_true rfl, Nat.le_of_ble_eq_true rfl⟩) hc0 (fun r1 σ1 q1 => ?_)
  obtain ⟨v, rfl, hc2⟩ := hq r1 σ1 q1
  refine V_aload_n oo dL_law_308 rfl rfl ?_
  refine V_arg (k := 1) oo hsc dL_law_309 dL_law_310 dL_law_312 dL_law_313 dL_law_314 (by decide) rfl rfl (by omega) (by omega) ?_
  refine L_callV hL oo dL_law_315 ml_L_36 hc2 rfl rfl rfl (Nat.le_of_ble_eq_true rfl) (by rw [hR]; exact ⟨Nat.le_of_ble_eq_true rfl, Nat.le_of_ble_eq_true rfl⟩) hc0 (fun r2 σ2 q2 => ?_)
  obtain ⟨rfl, hS2⟩ := q2
  exact V_icmp_eq (tgt := 1420) oo dL_law_318 (by decide) (fun _ => V_wid (Nat.le_succ _) (Nat.le_add_right _ _) (nx σ2 o hS2)) (fun z => absurd rfl z)
set_option maxRecDepth 20000 in
set_option maxHeartbeats 4000000 in
theorem cs_3 {w : Wp} {un1 : Nat → Nat} {x : Cx} {Ln : Nat} {xs : Nat → Int32} (hL : Lf w un1) (oo : Ok sh1 (wO w un1) x RL mL_law) (hR : x.R = room_1) (hlt : w.l.stackTraces = false) (hZ : Zs w x.s) (hsc : Sc w un1 x Ln xs) {k i : Nat} {σ : Mm} {o : Int64} {cn : Nat × Nat} (hS : St k σ) (hk : k < 512) (hi : i + 6 ≤ Ln) (hLn : Ln ≤ 3072) (hcn : cn.1 + 1 ≤ x.R.cells ∧ cn.2 + 6 ≤ x.R.slots) (nx : ∀ σ' o', St (k + 1) σ' → V sh1 (wO w un1) x mL_law (cn.1 + 1, cn.2 + 6) 1420 [(4, .int (nI i)), (3, .ref 79), (2, .ref 67), (1, .ref 1), (0, .ref 80)] [] (sO σ' o')) : V sh1 (wO w un1) x mL_law cn 323 [(4, .int (nI i)), (3, .ref 79), (2, .ref 67), (1, .ref 1), (0, .ref 80)] [] (sO σ o) := by
  have hc0 : cn.1 ≤ x.R.cells ∧ cn.2 ≤ x.R.slots := ⟨Nat.le_of_succ_le hcn.1, Nat.le_trans (Nat.le_add_right _ _) hcn.2⟩
  obtain ⟨Q, hQ, hq⟩ : Pr w k 4 8 mX8_leaps mX9_leaps [.int (xs (i + 1))] σ := p_leaps hL.1 hS hk
  refine V_aload_n oo dL_law_323 rfl rfl ?_
  refine V_arg (k := 1) oo hsc dL_law_324 dL_law_325 dL_law_327 dL_law_328 dL_law_329 (by decide) rfl rfl (by omega) (by omega) ?_
  refine L_callV hL oo dL_law_330 ml_L_37 hQ rfl rfl rfl (Nat.le_of_ble_eq_true rfl) (by rw [hR]; exact ⟨Nat.le_of_ble_eq_true rfl, Nat.le_of_ble_eq_true rfl⟩) hc0 (fun r1 σ1 q1 => ?_)
  obtain ⟨v, rfl, hc2⟩ := hq r1 σ1 q1
  refine V_aload_n oo dL_law_333 rfl rfl ?_
  refine V_arg (k := 1) oo hsc dL_law_334 dL_law_335 dL_law_337 dL_law_338 dL_law_339 (by decide) rfl rfl (by omega) (by omega) ?_
  refine L_callV hL oo dL_law_340 ml_L_40 hc2 rfl rfl rfl (Nat.le_of_ble_eq_true rfl) (by rw [hR]; exact ⟨Nat.le_of_ble_eq_true rfl, Nat.le_of_ble_eq_true rfl⟩) hc0 (fun r2 σ2 q2 => ?_)
  obtain ⟨rfl, hS2⟩ := q2
  exact V_icmp_eq (tgt := 1420) oo dL_law_343 (by decide) (fun _ => V_wid (Nat.le_succ _) (Nat.le_add_right _ _) (nx σ2 o hS2)) (fun z => absurd rfl z)
set_option maxRecDepth 20000 in
set_option maxHeartbeats 4000000 in
theorem cs_4 {w : Wp} {un1 : Nat → Nat} {x : Cx} {Ln : Nat} {xs : Nat → Int32} (hL : Lf w un1) (oo : Ok sh1 (wO w un1) x RL mL_law) (hR : x.R = room_1) (hlt : w.l.stackTraces = false) (hZ : Zs w x.s) (hsc : Sc w un1 x Ln xs) {k i : Nat} {σ : Mm} {o : Int64} {cn : Nat × Nat} (hS : St k σ) (hk : k < 512) (hi : i + 6 ≤ Ln) (hLn : Ln ≤ 3072) (hcn : cn.1 + 1 ≤ x.R.cells ∧ cn.2 + 6 ≤ x.R.slots) (nx : ∀ σ' o', St (k + 1) σ' → V sh1 (wO w un1) x mL_law (cn.1 + 1, cn.2 + 6) 1420 [(4, .int (nI i)), (3, .ref 79), (2, .ref 67), (1, .ref 1), (0, .ref 80)] [] (sO σ' o')) : V sh1 (wO w un1) x mL_law cn 348 [(4, .int (nI i)), (3, .ref 79), (2, .ref 67), (1, .ref 1), (0, .ref 80)] [] (sO σ o) := by
  have hc0 : cn.1 ≤ x.R.cells ∧ cn.2 ≤ x.R.slots := ⟨Nat.le_of_succ_le hcn.1, Nat.le_trans (Nat.le_add_right _ _) hcn.2⟩
  obtain ⟨Q, hQ, hq⟩ : Pr w k 2 5 mX8_sets mX9_sets [.int (xs (i + 1)), .int (xs (i + 2)), .int (xs (i + 3)), .int (xs (i + 4)), .int (xs (i + 5))] σ := p_sets hL.1 hS hk
  refine V_aload_n oo dL_law_348 rfl rfl ?_
  refine V_arg (k := 1) oo hsc dL_law_349 dL_law_350 dL_law_352 dL_law_353 dL_law_354 (by decide) rfl rfl (by omega) (by omega) ?_
  refine V_arg (k := 2) oo hsc dL_law_355 dL_law_356 dL_law_358 dL_law_359 dL_law_360 (by decide) rfl rfl (by omega) (by omega) ?_
  refine V_arg (k := 3) oo hsc dL_law_361 dL_law_362 dL_law_364 dL_law_365 dL_law_366 (by decide) rfl rfl (by omega) (by omega) ?_
  refine V_arg (k := 4) oo hsc dL_law_367 dL_law_368 dL_law_370 dL_law_371 dL_law_372 (by decide) rfl rfl (by omega) (by omega) ?_
  refine V_arg (k := 5) oo hsc dL_law_373 dL_law_374 dL_law_376 dL_law_377 dL_law_378 (by decide) rfl rfl (by omega) (by omega) ?_
  refine L_callV hL oo dL_law_379 ml_L_41 hQ rfl rfl rfl (Nat.le_of_ble_eq_true rfl) (by rw [hR]; exact ⟨Nat.le_of_ble_eq_true rfl, Nat.le_of_ble_eq_true rfl⟩) hc0 (fun r1 σ1 q1 => ?_)
  obtain ⟨v, rfl, hc2⟩ := hq r1 σ1 q1
  refine V_aload_n oo dL_law_382 rfl rfl ?_
  refine V_arg (k := 1) oo hsc dL_law_383 dL_law_384 dL_law_386 dL_law_387 dL_law_388 (by decide) rfl rfl (by omega) (by omega) ?_
  refine V_arg (k := 2) oo hsc dL_law_389 dL_law_390 dL_law_392 dL_law_393 dL_law_394 (by decide) rfl rfl (by omega) (by omega) ?_
  refine V_arg (k := 3) oo hsc dL_law_395 dL_law_396 dL_law_398 dL_law_399 dL_law_400 (by decide) rfl rfl (by omega) (by omega) ?_
  refine V_arg (k := 4) oo hsc dL_law_401 dL_law_402 dL_law_404 dL_law_405 dL_law_406 (by decide) rfl rfl (by omega) (by omega) ?_
  refine V_arg (k := 5) oo hsc dL_law_407 dL_law_408 dL_law_410 dL_law_411 dL_law_412 (by decide) rfl rfl (by omega) (by omega) ?_
  refine L_callV hL oo dL_law_413 ml_L_45 hc2 rfl rfl rfl (Nat.le_of_ble_eq_true rfl) (by rw [hR]; exact ⟨Nat.le_of_ble_eq_true rfl, Nat.le_of_ble_eq_true rfl⟩) hc0 (fun r2 σ2 q2 => ?_)
  obtain ⟨rfl, hS2⟩ := q2
  exact V_icmp_eq (tgt := 1420) oo dL_law_416 (by decide) (fun _ => V_wid (Nat.le_succ _) (Nat.le_add_right _ _) (nx σ2 o hS2)) (fun z => absurd rfl z)
set_option maxRecDepth 20000 in
set_option maxHeartbeats 4000000 in
theorem cs_5 {w : Wp} {un1 : Nat → Nat} {x : Cx} {Ln : Nat} {xs : Nat → Int32} (hL : Lf w un1) (oo : Ok sh1 (wO w un1) x RL mL_law) (hR : x.R = room_1) (hlt : w.l.stackTraces = false) (hZ : Zs w x.s) (hsc : Sc w un1 x Ln xs) {k i : Nat} {σ : Mm} {o : Int64} {cn : Nat × Nat} (hS : St k σ) (hk : k < 512) (hi : i + 6 ≤ Ln) (hLn : Ln ≤ 3072) (hcn : cn.1 + 1 ≤ x.R.cells ∧ cn.2 + 6 ≤ x.R.slots) (nx : ∀ σ' o', St (k + 1) σ' → V sh1 (wO w un1) x mL_law (cn.1 + 1, cn.2 + 6) 1420 [(4, .int (nI i)), (3, .ref 79), (2, .ref 67), (1, .ref 1), (0, .ref 80)] [] (sO σ' o')) : V sh1 (wO w un1) x mL_law cn 421 [(4, .int (nI i)), (3, .ref 79), (2, .ref 67), (1, .ref 1), (0, .ref 80)] [] (sO σ o) := by
  have hc0 : cn.1 ≤ x.R.cells ∧ cn.2 ≤ x.R.slots := ⟨Nat.le_of_succ_le hcn.1, Nat.le_trans (Nat.le_add_right _ _) hcn.2⟩
  obtain ⟨Q, hQ, hq⟩ : Pr w k 2 3 mX8_cancels mX9_cancels [.int (xs (i + 1))] σ := p_cancels hL.1 hS hk
  refine V_aload_n oo dL_law_421 rfl rfl ?_
  refine V_arg (k := 1) oo hsc dL_law_422 dL_law_423 dL_law_425 dL_law_426 dL_law_427 (by decide) rfl rfl (by omega) (by omega) ?_
  refine L_callV hL oo dL_law_428 ml_L_46 hQ rfl rfl rfl (Nat.le_of_ble_eq_true rfl) (by rw [hR]; exact ⟨Nat.le_of_ble_eq_true rfl, Nat.le_of_ble_eq_true rfl⟩) hc0 (fun r1 σ1 q1 => ?_)
  obtain ⟨v, rfl, hc2⟩ := hq r1 σ1 q1
  refine V_aload_n oo dL_law_431 rfl rfl ?_
  refine V_arg (k := 1) oo hsc dL_law_432 dL_law_433 dL_law_435 dL_law_436 dL_law_437 (by decide) rfl rfl (by omega) (by omega) ?_
  refine L_callV hL oo dL_law_438 ml_L_49 hc2 rfl rfl rfl (Nat.le_of_ble_eq_true rfl) (by rw [hR]; exact ⟨Nat.le_of_ble_eq_true rfl, Nat.le_of_ble_eq_true rfl⟩) hc0 (fun r2 σ2 q2 => ?_)
  obtain ⟨rfl, hS2⟩ := q2
  exact V_icmp_eq (tgt := 1420) oo dL_law_441 (by decide) (fun _ => V_wid (Nat.le_succ _) (Nat.le_add_right _ _) (nx σ2 o hS2)) (fun z => absurd rfl z)
set_option maxRecDepth 20000 in
set_option maxHeartbeats 4000000 in
theorem cs_6 {w : Wp} {un1 : Nat → Nat} {x : Cx} {Ln : Nat} {xs : Nat → Int32} (hL : Lf w un1) (oo : Ok sh1 (wO w un1) x RL mL_law) (hR : x.R = room_1) (hlt : w.l.stackTraces = false) (hZ : Zs w x.s) (hsc : Sc w un1 x Ln xs) {k i : Nat} {σ : Mm} {o : Int64} {cn : Nat × Nat} (hS : St k σ) (hk : k < 512) (hi : i + 6 ≤ Ln) (hLn : Ln ≤ 3072) (hcn : cn.1 + 1 ≤ x.R.cells ∧ cn.2 + 6 ≤ x.R.slots) (nx : ∀ σ' o', St (k + 1) σ' → V sh1 (wO w un1) x mL_law (cn.1 + 1, cn.2 + 6) 1420 [(4, .int (nI i)), (3, .ref 79), (2, .ref 67), (1, .ref 1), (0, .ref 80)] [] (sO σ' o')) : V sh1 (wO w un1) x mL_law cn 446 [(4, .int (nI i)), (3, .ref 79), (2, .ref 67), (1, .ref 1), (0, .ref 80)] [] (sO σ o) := by
  have hc0 : cn.1 ≤ x.R.cells ∧ cn.2 ≤ x.R.slots := ⟨Nat.le_of_succ_le hcn.1, Nat.le_trans (Nat.le_add_right _ _) hcn.2⟩
  obtain ⟨Q, hQ, hq⟩ : Pr w k 2 3 mX8_cancelsAll mX9_cancelsAll [.int (xs (i + 1))] σ := p_cancelsAll hL.1 hS hk
  refine V_aload_n oo dL_law_446 rfl rfl ?_
  refine V_arg (k := 1) oo hsc dL_law_447 dL_law_448 dL_law_450 dL_law_451 dL_law_452 (by decide) rfl rfl (by omega) (by omega) ?_
  refine L_callV hL oo dL_law_453 ml_L_50 hQ rfl rfl rfl (Nat.le_of_ble_eq_true rfl) (by rw [hR]; exact ⟨Nat.le_of_ble_eq_true rfl, Nat.le_of_ble_eq_true rfl⟩) hc0 (fun r1 σ1 q1 => ?_)
  obtain ⟨v, rfl, hc2⟩ := hq r1 σ1 q1
  refine V_aload_n oo dL_law_456 rfl rfl ?_
  refine V_arg (k := 1) oo hsc dL_law_457 dL_law_458 dL_law_460 dL_law_461 dL_law_462 (by decide) rfl rfl (by omega) (by omega) ?_
  refine L_callV hL oo dL_law_463 ml_L_53 hc2 rfl rfl rfl (Nat.le_of_ble_eq_true rfl) (by rw [hR]; exact ⟨Nat.le_of_ble_eq_true rfl, Nat.le_of_ble_eq_true rfl⟩) hc0 (fun r2 σ2 q2 => ?_)
  obtain ⟨rfl, hS2⟩ := q2
  exact V_icmp_eq (tgt := 1420) oo dL_law_466 (by decide) (fun _ => V_wid (Nat.le_succ _) (Nat.le_add_right _ _) (nx σ2 o hS2)) (fun z => absurd rfl z)
set_option maxRecDepth 20000 in
set_option maxHeartbeats 4000000 in
theorem cs_7 {w : Wp} {un1 : Nat → Nat} {x : Cx} {Ln : Nat} {xs : Nat → Int32} (hL : Lf w un1) (oo : Ok sh1 (wO w un1) x RL mL_law) (hR : x.R = room_1) (hlt : w.l.stackTraces = false) (hZ : Zs w x.s) (hsc : Sc w un1 x Ln xs) {k i : Nat} {σ : Mm} {o : Int64} {cn : Nat × Nat} (hS : St k σ) (hk : k < 512) (hi : i + 6 ≤ Ln) (hLn : Ln ≤ 3072) (hcn : cn.1 + 1 ≤ x.R.cells ∧ cn.2 + 6 ≤ x.R.slots) (nx : ∀ σ' o', St (k + 1) σ' → V sh1 (wO w un1) x mL_law (cn.1 + 1, cn.2 + 6) 1420 [(4, .int (nI i)), (3, .ref 79), (2, .ref 67), (1, .ref 1), (0, .ref 80)] [] (sO σ' o')) : V sh1 (wO w un1) x mL_law cn 471 [(4, .int (nI i)), (3, .ref 79), (2, .ref 67), (1, .ref 1), (0, .ref 80)] [] (sO σ o) := by
  have hc0 : cn.1 ≤ x.R.cells ∧ cn.2 ≤ x.R.slots := ⟨Nat.le_of_succ_le hcn.1, Nat.le_trans (Nat.le_add_right _ _) hcn.2⟩
  by_cases hb : xs (i + 2) = 0
  · obtain ⟨Q, hQ, hq⟩ : Pr w k 1 2 mX8_steady mX9_steady [.int (xs (i + 1)), .int 0] σ := p_steady hL.1 hS hk (Or.inl rfl)
    refine V_aload_n oo dL_law_471 rfl rfl ?_
    refine V_arg (k := 1) oo hsc dL_law_472 dL_law_473 dL_law_475 dL_law_476 dL_law_477 (by decide) rfl rfl (by omega) (by omega) ?_
    refine V_arg (k := 2) oo hsc dL_law_478 dL_law_479 dL_law_481 dL_law_482 dL_law_483 (by decide) rfl rfl (by omega) (by omega) ?_
    refine V_if_eq (tgt := 491) oo dL_law_484 (by decide) (fun _ => ?_) (fun z => absurd hb z)
    refine V_iconst (v := 0) oo dL_law_491 (by decide) ?_
    refine L_callV hL oo dL_law_492 ml_L_54 hQ rfl rfl rfl (Nat.le_of_ble_eq_true rfl) (by rw [hR]; exact ⟨Nat.le_of_ble_eq_true rfl, Nat.le_of_ble_eq_true rfl⟩) hc0 (fun r1 σ1 q1 => ?_)
    obtain ⟨v, rfl, hc2⟩ := hq r1 σ1 q1
    refine V_aload_n oo dL_law_495 rfl rfl ?_
    refine V_arg (k := 1) oo hsc dL_law_496 dL_law_497 dL_law_499 dL_law_500 dL_law_501 (by decide) rfl rfl (by omega) (by omega) ?_
    refine V_arg (k := 2) oo hsc dL_law_502 dL_law_503 dL_law_505 dL_law_506 dL_law_507 (by decide) rfl rfl (by omega) (by omega) ?_
    refine V_if_eq (tgt := 515) oo dL_law_508 (by decide) (fun _ => ?_) (fun z => absurd hb z)
    refine V_iconst (v := 0) oo dL_law_515 (by decide) ?_
    refine L_callV hL oo dL_law_516 ml_L_58 hc2 rfl rfl rfl (Nat.le_of_ble_eq_true rfl) (by rw [hR]; exact ⟨Nat.le_of_ble_eq_true rfl, Nat.le_of_ble_eq_true rfl⟩) hc0 (fun r2 σ2 q2 => ?_)
    obtain ⟨rfl, hS2⟩ := q2
    exact V_icmp_eq (tgt := 1420) oo dL_law_519 (by decide) (fun _ => V_wid (Nat.le_succ _) (Nat.le_add_right _ _) (nx σ2 o hS2)) (fun z => absurd rfl z)
  · obtain ⟨Q, hQ, hq⟩ : Pr w k 1 2 mX8_steady mX9_steady [.int (xs (i + 1)), .int 1] σ := p_steady hL.1 hS hk (Or.inr rfl)
    refine V_aload_n oo dL_law_471 rfl rfl ?_
    refine V_arg (k := 1) oo hsc dL_law_472 dL_law_473 dL_law_475 dL_law_476 dL_law_477 (by decide) rfl rfl (by omega) (by omega) ?_
    refine V_arg (k := 2) oo hsc dL_law_478 dL_law_479 dL_law_481 dL_law_482 dL_law_483 (by decide) rfl rfl (by omega) (by omega) ?_
    refine V_if_eq (tgt := 491) oo dL_law_484 (by decide) (fun z => absurd z hb) (fun _ => ?_)
    refine V_iconst (v := 1) oo dL_law_487 (by decide) ?_
    refine V_goto (tgt := 492) oo dL_law_488 (by decide) ?_
    refine L_callV hL oo dL_law_492 ml_L_54 hQ rfl rfl rfl (Nat.le_of_ble_eq_true rfl) (by rw [hR]; exact ⟨Nat.le_of_ble_eq_true rfl, Nat.le_of_ble_eq_true rfl⟩) hc0 (fun r1 σ1 q1 => ?_)
    obtain ⟨v, rfl, hc2⟩ := hq r1 σ1 q1
    refine V_aload_n oo dL_law_495 rfl rfl ?_
    refine V_arg (k := 1) oo hsc dL_law_496 dL_law_497 dL_law_499 dL_law_500 dL_law_501 (by decide) rfl rfl (by omega) (by omega) ?_
    refine V_arg (k := 2) oo hsc dL_law_502 dL_law_503 dL_law_505 dL_law_506 dL_law_507 (by decide) rfl rfl (by omega) (by omega) ?_
    refine V_if_eq (tgt := 515) oo dL_law_508 (by decide) (fun z => absurd z hb) (fun _ => ?_)
    refine V_iconst (v := 1) oo dL_law_511 (by decide) ?_
    refine V_goto (tgt := 516) oo dL_law_512 (by decide) ?_
    refine L_callV hL oo dL_law_516 ml_L_58 hc2 rfl rfl rfl (Nat.le_of_ble_eq_true rfl) (by rw [hR]; exact ⟨Nat.le_of_ble_eq_true rfl, Nat.le_of_ble_eq_true rfl⟩) hc0 (fun r2 σ2 q2 => ?_)
    obtain ⟨rfl, hS2⟩ := q2
    exact V_icmp_eq (tgt := 1420) oo dL_law_519 (by decide) (fun _ => V_wid (Nat.le_succ _) (Nat.le_add_right _ _) (nx σ2 o hS2)) (fun z => absurd rfl z)
set_option maxRecDepth 20000 in
set_option maxHeartbeats 4000000 in
theorem cs_8 {w : Wp} {un1 : Nat → Nat} {x : Cx} {Ln : Nat} {xs : Nat → Int32} (hL : Lf w un1) (oo : Ok sh1 (wO w un1) x RL mL_law) (hR : x.R = room_1) (hlt : w.l.stackTraces = false) (hZ : Zs w x.s) (hsc : Sc w un1 x Ln xs) {k i : Nat} {σ : Mm} {o : Int64} {cn : Nat × Nat} (hS : St k σ) (hk : k < 512) (hi : i + 6 ≤ Ln) (hLn : Ln ≤ 3072) (hcn : cn.1 + 1 ≤ x.R.cells ∧ cn.2 + 6 ≤ x.R.slots) (nx : ∀ σ' o', St (k + 1) σ' → V sh1 (wO w un1) x mL_law (cn.1 + 1, cn.2 + 6) 1420 [(4, .int (nI i)), (3, .ref 79), (2, .ref 67), (1, .ref 1), (0, .ref 80)] [] (sO σ' o')) : V sh1 (wO w un1) x mL_law cn 524 [(4, .int (nI i)), (3, .ref 79), (2, .ref 67), (1, .ref 1), (0, .ref 80)] [] (sO σ o) := by
  have hc0 : cn.1 ≤ x.R.cells ∧ cn.2 ≤ x.R.slots := ⟨Nat.le_of_succ_le hcn.1, Nat.le_trans (Nat.le_add_right _ _) hcn.2⟩
  obtain ⟨Q, hQ, hq⟩ : Pr w k 1 2 mX8_pauses mX9_pauses [.int (xs (i + 1))] σ := p_pauses hL.1 hS hk
  refine V_aload_n oo dL_law_524 rfl rfl ?_
  refine V_arg (k := 1) oo hsc dL_law_525 dL_law_526 dL_law_528 dL_law_529 dL_law_530 (by decide) rfl rfl (by omega) (by omega) ?_
  refine L_callV hL oo dL_law_531 ml_L_59 hQ rfl rfl rfl (Nat.le_of_ble_eq_true rfl) (by rw [hR]; exact ⟨Nat.le_of_ble_eq_true rfl, Nat.le_of_ble_eq_true rfl⟩) hc0 (fun r1 σ1 q1 => ?_)
  obtain ⟨v, rfl, hc2⟩ := hq r1 σ1 q1
  refine V_aload_n oo dL_law_534 rfl rfl ?_
  refine V_arg (k := 1) oo hsc dL_law_535 dL_law_536 dL_law_538 dL_law_539 dL_law_540 (by decide) rfl rfl (by omega) (by omega) ?_
  refine L_callV hL oo dL_law_541 ml_L_62 hc2 rfl rfl rfl (Nat.le_of_ble_eq_true rfl) (by rw [hR]; exact ⟨Nat.le_of_ble_eq_true rfl, Nat.le_of_ble_eq_true rfl⟩) hc0 (fun r2 σ2 q2 => ?_)
  obtain ⟨rfl, hS2⟩ := q2
  exact V_icmp_eq (tgt := 1420) oo dL_law_544 (by decide) (fun _ => V_wid (Nat.le_succ _) (Nat.le_add_right _ _) (nx σ2 o hS2)) (fun z => absurd rfl z)
set_option maxRecDepth 20000 in
set_option maxHeartbeats 4000000 in
theorem cs_9 {w : Wp} {un1 : Nat → Nat} {x : Cx} {Ln : Nat} {xs : Nat → Int32} (hL : Lf w un1) (oo : Ok sh1 (wO w un1) x RL mL_law) (hR : x.R = room_1) (hlt : w.l.stackTraces = false) (hZ : Zs w x.s) (hsc : Sc w un1 x Ln xs) {k i : Nat} {σ : Mm} {o : Int64} {cn : Nat × Nat} (hS : St k σ) (hk : k < 512) (hi : i + 6 ≤ Ln) (hLn : Ln ≤ 3072) (hcn : cn.1 + 1 ≤ x.R.cells ∧ cn.2 + 6 ≤ x.R.slots) (nx : ∀ σ' o', St (k + 1) σ' → V sh1 (wO w un1) x mL_law (cn.1 + 1, cn.2 + 6) 1420 [(4, .int (nI i)), (3, .ref 79), (2, .ref 67), (1, .ref 1), (0, .ref 80)] [] (sO σ' o')) : V sh1 (wO w un1) x mL_law cn 549 [(4, .int (nI i)), (3, .ref 79), (2, .ref 67), (1, .ref 1), (0, .ref 80)] [] (sO σ o) := by
  have hc0 : cn.1 ≤ x.R.cells ∧ cn.2 ≤ x.R.slots := ⟨Nat.le_of_succ_le hcn.1, Nat.le_trans (Nat.le_add_right _ _) hcn.2⟩
  obtain ⟨Q, hQ, hq⟩ : Pr w k 3 5 mX8_resumes mX9_resumes [.int (xs (i + 1))] σ := p_resumes hL.1 hS hk
  refine V_aload_n oo dL_law_549 rfl rfl ?_
  refine V_arg (k := 1) oo hsc dL_law_550 dL_law_551 dL_law_553 dL_law_554 dL_law_555 (by decide) rfl rfl (by omega) (by omega) ?_
  refine L_callV hL oo dL_law_556 ml_L_63 hQ rfl rfl rfl (Nat.le_of_ble_eq_true rfl) (by rw [hR]; exact ⟨Nat.le_of_ble_eq_true rfl, Nat.le_of_ble_eq_true rfl⟩) hc0 (fun r1 σ1 q1 => ?_)
  obtain ⟨v, rfl, hc2⟩ := hq r1 σ1 q1
  refine V_aload_n oo dL_law_559 rfl rfl ?_
  refine V_arg (k := 1) oo hsc dL_law_560 dL_law_561 dL_law_563 dL_law_564 dL_law_565 (by decide) rfl rfl (by omega) (by omega) ?_
  refine L_callV hL oo dL_law_566 ml_L_66 hc2 rfl rfl rfl (Nat.le_of_ble_eq_true rfl) (by rw [hR]; exact ⟨Nat.le_of_ble_eq_true rfl, Nat.le_of_ble_eq_true rfl⟩) hc0 (fun r2 σ2 q2 => ?_)
  obtain ⟨rfl, hS2⟩ := q2
  exact V_icmp_eq (tgt := 1420) oo dL_law_569 (by decide) (fun _ => V_wid (Nat.le_succ _) (Nat.le_add_right _ _) (nx σ2 o hS2)) (fun z => absurd rfl z)
set_option maxRecDepth 20000 in
set_option maxHeartbeats 4000000 in
theorem cs_10 {w : Wp} {un1 : Nat → Nat} {x : Cx} {Ln : Nat} {xs : Nat → Int32} (hL : Lf w un1) (oo : Ok sh1 (wO w un1) x RL mL_law) (hR : x.R = room_1) (hlt : w.l.stackTraces = false) (hZ : Zs w x.s) (hsc : Sc w un1 x Ln xs) {k i : Nat} {σ : Mm} {o : Int64} {cn : Nat × Nat} (hS : St k σ) (hk : k < 512) (hi : i + 6 ≤ Ln) (hLn : Ln ≤ 3072) (hcn : cn.1 + 1 ≤ x.R.cells ∧ cn.2 + 6 ≤ x.R.slots) (nx : ∀ σ' o', St (k + 1) σ' → V sh1 (wO w un1) x mL_law (cn.1 + 1, cn.2 + 6) 1420 [(4, .int (nI i)), (3, .ref 79), (2, .ref 67), (1, .ref 1), (0, .ref 80)] [] (sO σ' o')) : V sh1 (wO w un1) x mL_law cn 574 [(4, .int (nI i)), (3, .ref 79), (2, .ref 67), (1, .ref 1), (0, .ref 80)] [] (sO σ o) := by
  have hc0 : cn.1 ≤ x.R.cells ∧ cn.2 ≤ x.R.slots := ⟨Nat.le_of_succ_le hcn.1, Nat.le_trans (Nat.le_add_right _ _) hcn.2⟩
  obtain ⟨Q, hQ, hq⟩ : Pr w k 3 3 mX8_holds mX9_holds [.int (xs (i + 1))] σ := p_holds hL.1 hS hk
  refine V_aload_n oo dL_law_574 rfl rfl ?_
  refine V_arg (k := 1) oo hsc dL_law_575 dL_law_576 dL_law_578 dL_law_579 dL_law_580 (by decide) rfl rfl (by omega) (by omega) ?_
  refine L_callV hL oo dL_law_581 ml_L_67 hQ rfl rfl rfl (Nat.le_of_ble_eq_true rfl) (by rw [hR]; exact ⟨Nat.le_of_ble_eq_true rfl, Nat.le_of_ble_eq_true rfl⟩) hc0 (fun r1 σ1 q1 => ?_)
  obtain ⟨v, rfl, hc2⟩ := hq r1 σ1 q1
  refine V_aload_n oo dL_law_584 rfl rfl ?_
  refine V_arg (k := 1) oo hsc dL_law_585 dL_law_586 dL_law_588 dL_law_589 dL_law_590 (by decide) rfl rfl (by omega) (by omega) ?_
  refine L_callV hL oo dL_law_591 ml_L_70 hc2 rfl rfl rfl (Nat.le_of_ble_eq_true rfl) (by rw [hR]; exact ⟨Nat.le_of_ble_eq_true rfl, Nat.le_of_ble_eq_true rfl⟩) hc0 (fun r2 σ2 q2 => ?_)
  obtain ⟨rfl, hS2⟩ := q2
  exact V_icmp_eq (tgt := 1420) oo dL_law_594 (by decide) (fun _ => V_wid (Nat.le_succ _) (Nat.le_add_right _ _) (nx σ2 o hS2)) (fun z => absurd rfl z)
set_option maxRecDepth 20000 in
set_option maxHeartbeats 4000000 in
theorem cs_11 {w : Wp} {un1 : Nat → Nat} {x : Cx} {Ln : Nat} {xs : Nat → Int32} (hL : Lf w un1) (oo : Ok sh1 (wO w un1) x RL mL_law) (hR : x.R = room_1) (hlt : w.l.stackTraces = false) (hZ : Zs w x.s) (hsc : Sc w un1 x Ln xs) {k i : Nat} {σ : Mm} {o : Int64} {cn : Nat × Nat} (hS : St k σ) (hk : k < 512) (hi : i + 6 ≤ Ln) (hLn : Ln ≤ 3072) (hcn : cn.1 + 1 ≤ x.R.cells ∧ cn.2 + 6 ≤ x.R.slots) (nx : ∀ σ' o', St (k + 1) σ' → V sh1 (wO w un1) x mL_law (cn.1 + 1, cn.2 + 6) 1420 [(4, .int (nI i)), (3, .ref 79), (2, .ref 67), (1, .ref 1), (0, .ref 80)] [] (sO σ' o')) : V sh1 (wO w un1) x mL_law cn 599 [(4, .int (nI i)), (3, .ref 79), (2, .ref 67), (1, .ref 1), (0, .ref 80)] [] (sO σ o) := by
  have hc0 : cn.1 ≤ x.R.cells ∧ cn.2 ≤ x.R.slots := ⟨Nat.le_of_succ_le hcn.1, Nat.le_trans (Nat.le_add_right _ _) hcn.2⟩
  obtain ⟨Q, hQ, hq⟩ : Pr w k 4 5 mX8_goesOn mX9_goesOn [.int (xs (i + 1))] σ := p_goesOn hL.1 hS hk
  refine V_aload_n oo dL_law_599 rfl rfl ?_
  refine V_arg (k := 1) oo hsc dL_law_600 dL_law_601 dL_law_603 dL_law_604 dL_law_605 (by decide) rfl rfl (by omega) (by omega) ?_
  refine L_callV hL oo dL_law_606 ml_L_71 hQ rfl rfl rfl (Nat.le_of_ble_eq_true rfl) (by rw [hR]; exact ⟨Nat.le_of_ble_eq_true rfl, Nat.le_of_ble_eq_true rfl⟩) hc0 (fun r1 σ1 q1 => ?_)
  obtain ⟨v, rfl, hc2⟩ := hq r1 σ1 q1
  refine V_aload_n oo dL_law_609 rfl rfl ?_
  refine V_arg (k := 1) oo hsc dL_law_610 dL_law_611 dL_law_613 dL_law_614 dL_law_615 (by decide) rfl rfl (by omega) (by omega) ?_
  refine L_callV hL oo dL_law_616 ml_L_74 hc2 rfl rfl rfl (Nat.le_of_ble_eq_true rfl) (by rw [hR]; exact ⟨Nat.le_of_ble_eq_true rfl, Nat.le_of_ble_eq_true rfl⟩) hc0 (fun r2 σ2 q2 => ?_)
  obtain ⟨rfl, hS2⟩ := q2
  exact V_icmp_eq (tgt := 1420) oo dL_law_619 (by decide) (fun _ => V_wid (Nat.le_succ _) (Nat.le_add_right _ _) (nx σ2 o hS2)) (fun z => absurd rfl z)
set_option maxRecDepth 20000 in
set_option maxHeartbeats 4000000 in
theorem cs_12 {w : Wp} {un1 : Nat → Nat} {x : Cx} {Ln : Nat} {xs : Nat → Int32} (hL : Lf w un1) (oo : Ok sh1 (wO w un1) x RL mL_law) (hR : x.R = room_1) (hlt : w.l.stackTraces = false) (hZ : Zs w x.s) (hsc : Sc w un1 x Ln xs) {k i : Nat} {σ : Mm} {o : Int64} {cn : Nat × Nat} (hS : St k σ) (hk : k < 512) (hi : i + 6 ≤ Ln) (hLn : Ln ≤ 3072) (hcn : cn.1 + 1 ≤ x.R.cells ∧ cn.2 + 6 ≤ x.R.slots) (nx : ∀ σ' o', St (k + 1) σ' → V sh1 (wO w un1) x mL_law (cn.1 + 1, cn.2 + 6) 1420 [(4, .int (nI i)), (3, .ref 79), (2, .ref 67), (1, .ref 1), (0, .ref 80)] [] (sO σ' o')) : V sh1 (wO w un1) x mL_law cn 624 [(4, .int (nI i)), (3, .ref 79), (2, .ref 67), (1, .ref 1), (0, .ref 80)] [] (sO σ o) := by
  have hc0 : cn.1 ≤ x.R.cells ∧ cn.2 ≤ x.R.slots := ⟨Nat.le_of_succ_le hcn.1, Nat.le_trans (Nat.le_add_right _ _) hcn.2⟩
  obtain ⟨Q, hQ, hq⟩ : Pr w k 3 5 mX8_spreads mX9_spreads [.int (xs (i + 1)), .int (xs (i + 2))] σ := p_spreads hL.1 hS hk
  refine V_aload_n oo dL_law_624 rfl rfl ?_
  refine V_arg (k := 1) oo hsc dL_law_625 dL_law_626 dL_law_628 dL_law_629 dL_law_630 (by decide) rfl rfl (by omega) (by omega) ?_
  refine V_arg (k := 2) oo hsc dL_law_631 dL_law_632 dL_law_634 dL_law_635 dL_law_636 (by decide) rfl rfl (by omega) (by omega) ?_
  refine L_callV hL oo dL_law_637 ml_L_75 hQ rfl rfl rfl (Nat.le_of_ble_eq_true rfl) (by rw [hR]; exact ⟨Nat.le_of_ble_eq_true rfl, Nat.le_of_ble_eq_true rfl⟩) hc0 (fun r1 σ1 q1 => ?_)
  obtain ⟨v, rfl, hc2⟩ := hq r1 σ1 q1
  refine V_aload_n oo dL_law_640 rfl rfl ?_
  refine V_arg (k := 1) oo hsc dL_law_641 dL_law_642 dL_law_644 dL_law_645 dL_law_646 (by decide) rfl rfl (by omega) (by omega) ?_
  refine V_arg (k := 2) oo hsc dL_law_647 dL_law_648 dL_law_650 dL_law_651 dL_law_652 (by decide) rfl rfl (by omega) (by omega) ?_
  refine L_callV hL oo dL_law_653 ml_L_78 hc2 rfl rfl rfl (Nat.le_of_ble_eq_true rfl) (by rw [hR]; exact ⟨Nat.le_of_ble_eq_true rfl, Nat.le_of_ble_eq_true rfl⟩) hc0 (fun r2 σ2 q2 => ?_)
  obtain ⟨rfl, hS2⟩ := q2
  exact V_icmp_eq (tgt := 1420) oo dL_law_656 (by decide) (fun _ => V_wid (Nat.le_succ _) (Nat.le_add_right _ _) (nx σ2 o hS2)) (fun z => absurd rfl z)
set_option maxRecDepth 20000 in
set_option maxHeartbeats 4000000 in
theorem cs_13 {w : Wp} {un1 : Nat → Nat} {x : Cx} {Ln : Nat} {xs : Nat → Int32} (hL : Lf w un1) (oo : Ok sh1 (wO w un1) x RL mL_law) (hR : x.R = room_1) (hlt : w.l.stackTraces = false) (hZ : Zs w x.s) (hsc : Sc w un1 x Ln xs) {k i : Nat} {σ : Mm} {o : Int64} {cn : Nat × Nat} (hS : St k σ) (hk : k < 512) (hi : i + 6 ≤ Ln) (hLn : Ln ≤ 3072) (hcn : cn.1 + 1 ≤ x.R.cells ∧ cn.2 + 6 ≤ x.R.slots) (nx : ∀ σ' o', St (k + 1) σ' → V sh1 (wO w un1) x mL_law (cn.1 + 1, cn.2 + 6) 1420 [(4, .int (nI i)), (3, .ref 79), (2, .ref 67), (1, .ref 1), (0, .ref 80)] [] (sO σ' o')) : V sh1 (wO w un1) x mL_law cn 661 [(4, .int (nI i)), (3, .ref 79), (2, .ref 67), (1, .ref 1), (0, .ref 80)] [] (sO σ o) := by
  have hc0 : cn.1 ≤ x.R.cells ∧ cn.2 ≤ x.R.slots := ⟨Nat.le_of_succ_le hcn.1, Nat.le_trans (Nat.le_add_right _ _) hcn.2⟩
  obtain ⟨Q, hQ, hq⟩ : Pr w k 2 4 mX8_delays mX9_delays [.int (xs (i + 1)), .int (xs (i + 2))] σ := p_delays hL.1 hS hk
  refine V_aload_n oo dL_law_661 rfl rfl ?_
  refine V_arg (k := 1) oo hsc dL_law_662 dL_law_663 dL_law_665 dL_law_666 dL_law_667 (by decide) rfl rfl (by omega) (by omega) ?_
  refine V_arg (k := 2) oo hsc dL_law_668 dL_law_669 dL_law_671 dL_law_672 dL_law_673 (by decide) rfl rfl (by omega) (by omega) ?_
  refine L_callV hL oo dL_law_674 ml_L_79 hQ rfl rfl rfl (Nat.le_of_ble_eq_true rfl) (by rw [hR]; exact ⟨Nat.le_of_ble_eq_true rfl, Nat.le_of_ble_eq_true rfl⟩) hc0 (fun r1 σ1 q1 => ?_)
  obtain ⟨v, rfl, hc2⟩ := hq r1 σ1 q1
  refine V_aload_n oo dL_law_677 rfl rfl ?_
  refine V_arg (k := 1) oo hsc dL_law_678 dL_law_679 dL_law_681 dL_law_682 dL_law_683 (by decide) rfl rfl (by omega) (by omega) ?_
  refine V_arg (k := 2) oo hsc dL_law_684 dL_law_685 dL_law_687 dL_law_688 dL_law_689 (by decide) rfl rfl (by omega) (by omega) ?_
  refine L_callV hL oo dL_law_690 ml_L_82 hc2 rfl rfl rfl (Nat.le_of_ble_eq_true rfl) (by rw [hR]; exact ⟨Nat.le_of_ble_eq_true rfl, Nat.le_of_ble_eq_true rfl⟩) hc0 (fun r2 σ2 q2 => ?_)
  obtain ⟨rfl, hS2⟩ := q2
  exact V_icmp_eq (tgt := 1420) oo dL_law_693 (by decide) (fun _ => V_wid (Nat.le_succ _) (Nat.le_add_right _ _) (nx σ2 o hS2)) (fun z => absurd rfl z)
set_option maxRecDepth 20000 in
set_option maxHeartbeats 4000000 in
theorem cs_14 {w : Wp} {un1 : Nat → Nat} {x : Cx} {Ln : Nat} {xs : Nat → Int32} (hL : Lf w un1) (oo : Ok sh1 (wO w un1) x RL mL_law) (hR : x.R = room_1) (hlt : w.l.stackTraces = false) (hZ : Zs w x.s) (hsc : Sc w un1 x Ln xs) {k i : Nat} {σ : Mm} {o : Int64} {cn : Nat × Nat} (hS : St k σ) (hk : k < 512) (hi : i + 6 ≤ Ln) (hLn : Ln ≤ 3072) (hcn : cn.1 + 1 ≤ x.R.cells ∧ cn.2 + 6 ≤ x.R.slots) (nx : ∀ σ' o', St (k + 1) σ' → V sh1 (wO w un1) x mL_law (cn.1 + 1, cn.2 + 6) 1420 [(4, .int (nI i)), (3, .ref 79), (2, .ref 67), (1, .ref 1), (0, .ref 80)] [] (sO σ' o')) : V sh1 (wO w un1) x mL_law cn 698 [(4, .int (nI i)), (3, .ref 79), (2, .ref 67), (1, .ref 1), (0, .ref 80)] [] (sO σ o) := by
  have hc0 : cn.1 ≤ x.R.cells ∧ cn.2 ≤ x.R.slots := ⟨Nat.le_of_succ_le hcn.1, Nat.le_trans (Nat.le_add_right _ _) hcn.2⟩
  obtain ⟨Q, hQ, hq⟩ : Pr w k 6 9 mX8_run mX9_run [] σ := p_run hL.1 hS hk
  refine V_aload_n oo dL_law_698 rfl rfl ?_
  refine L_callV hL oo dL_law_699 ml_L_83 hQ rfl rfl rfl (Nat.le_of_ble_eq_true rfl) (by rw [hR]; exact ⟨Nat.le_of_ble_eq_true rfl, Nat.le_of_ble_eq_true rfl⟩) hc0 (fun r1 σ1 q1 => ?_)
  obtain ⟨v, rfl, hc2⟩ := hq r1 σ1 q1
  refine V_aload_n oo dL_law_702 rfl rfl ?_
  refine L_callV hL oo dL_law_703 ml_L_87 hc2 rfl rfl rfl (Nat.le_of_ble_eq_true rfl) (by rw [hR]; exact ⟨Nat.le_of_ble_eq_true rfl, Nat.le_of_ble_eq_true rfl⟩) hc0 (fun r2 σ2 q2 => ?_)
  obtain ⟨rfl, hS2⟩ := q2
  exact V_icmp_eq (tgt := 1420) oo dL_law_706 (by decide) (fun _ => V_wid (Nat.le_succ _) (Nat.le_add_right _ _) (nx σ2 o hS2)) (fun z => absurd rfl z)
set_option maxRecDepth 20000 in
set_option maxHeartbeats 4000000 in
theorem cs_15 {w : Wp} {un1 : Nat → Nat} {x : Cx} {Ln : Nat} {xs : Nat → Int32} (hL : Lf w un1) (oo : Ok sh1 (wO w un1) x RL mL_law) (hR : x.R = room_1) (hlt : w.l.stackTraces = false) (hZ : Zs w x.s) (hsc : Sc w un1 x Ln xs) {k i : Nat} {σ : Mm} {o : Int64} {cn : Nat × Nat} (hS : St k σ) (hk : k < 512) (hi : i + 6 ≤ Ln) (hLn : Ln ≤ 3072) (hcn : cn.1 + 1 ≤ x.R.cells ∧ cn.2 + 6 ≤ x.R.slots) (nx : ∀ σ' o', St (k + 1) σ' → V sh1 (wO w un1) x mL_law (cn.1 + 1, cn.2 + 6) 1420 [(4, .int (nI i)), (3, .ref 79), (2, .ref 67), (1, .ref 1), (0, .ref 80)] [] (sO σ' o')) : V sh1 (wO w un1) x mL_law cn 711 [(4, .int (nI i)), (3, .ref 79), (2, .ref 67), (1, .ref 1), (0, .ref 80)] [] (sO σ o) := by
  have hc0 : cn.1 ≤ x.R.cells ∧ cn.2 ≤ x.R.slots := ⟨Nat.le_of_succ_le hcn.1, Nat.le_trans (Nat.le_add_right _ _) hcn.2⟩
  obtain ⟨Q, hQ, hq⟩ : Pr w k 1 0 mX8_sign mX9_sign [.int (xs (i + 1))] σ := p_sign hL.1 hS hk
  refine V_aload_n oo dL_law_711 rfl rfl ?_
  refine V_arg (k := 1) oo hsc dL_law_712 dL_law_713 dL_law_715 dL_law_716 dL_law_717 (by decide) rfl rfl (by omega) (by omega) ?_
  refine L_callV hL oo dL_law_718 ml_L_88 hQ rfl rfl rfl (Nat.le_of_ble_eq_true rfl) (by rw [hR]; exact ⟨Nat.le_of_ble_eq_true rfl, Nat.le_of_ble_eq_true rfl⟩) hc0 (fun r1 σ1 q1 => ?_)
  obtain ⟨v, rfl, hc2⟩ := hq r1 σ1 q1
  refine V_aload_n oo dL_law_721 rfl rfl ?_
  refine V_arg (k := 1) oo hsc dL_law_722 dL_law_723 dL_law_725 dL_law_726 dL_law_727 (by decide) rfl rfl (by omega) (by omega) ?_
  refine L_callV hL oo dL_law_728 ml_L_91 hc2 rfl rfl rfl (Nat.le_of_ble_eq_true rfl) (by rw [hR]; exact ⟨Nat.le_of_ble_eq_true rfl, Nat.le_of_ble_eq_true rfl⟩) hc0 (fun r2 σ2 q2 => ?_)
  obtain ⟨rfl, hS2⟩ := q2
  exact V_icmp_eq (tgt := 1420) oo dL_law_731 (by decide) (fun _ => V_wid (Nat.le_succ _) (Nat.le_add_right _ _) (nx σ2 o hS2)) (fun z => absurd rfl z)
set_option maxRecDepth 20000 in
set_option maxHeartbeats 4000000 in
theorem cs_16 {w : Wp} {un1 : Nat → Nat} {x : Cx} {Ln : Nat} {xs : Nat → Int32} (hL : Lf w un1) (oo : Ok sh1 (wO w un1) x RL mL_law) (hR : x.R = room_1) (hlt : w.l.stackTraces = false) (hZ : Zs w x.s) (hsc : Sc w un1 x Ln xs) {k i : Nat} {σ : Mm} {o : Int64} {cn : Nat × Nat} (hS : St k σ) (hk : k < 512) (hi : i + 6 ≤ Ln) (hLn : Ln ≤ 3072) (hcn : cn.1 + 1 ≤ x.R.cells ∧ cn.2 + 6 ≤ x.R.slots) (nx : ∀ σ' o', St (k + 1) σ' → V sh1 (wO w un1) x mL_law (cn.1 + 1, cn.2 + 6) 1420 [(4, .int (nI i)), (3, .ref 79), (2, .ref 67), (1, .ref 1), (0, .ref 80)] [] (sO σ' o')) : V sh1 (wO w un1) x mL_law cn 736 [(4, .int (nI i)), (3, .ref 79), (2, .ref 67), (1, .ref 1), (0, .ref 80)] [] (sO σ o) := by
  have hc0 : cn.1 ≤ x.R.cells ∧ cn.2 ≤ x.R.slots := ⟨Nat.le_of_succ_le hcn.1, Nat.le_trans (Nat.le_add_right _ _) hcn.2⟩
  obtain ⟨Q, hQ, hq⟩ : Pr w k 1 1 mX8_end mX9_end [.int (xs (i + 1))] σ := p_end hL.1 hS hk
  refine V_aload_n oo dL_law_736 rfl rfl ?_
  refine V_arg (k := 1) oo hsc dL_law_737 dL_law_738 dL_law_740 dL_law_741 dL_law_742 (by decide) rfl rfl (by omega) (by omega) ?_
  refine L_callV hL oo dL_law_743 ml_L_92 hQ rfl rfl rfl (Nat.le_of_ble_eq_true rfl) (by rw [hR]; exact ⟨Nat.le_of_ble_eq_true rfl, Nat.le_of_ble_eq_true rfl⟩) hc0 (fun r1 σ1 q1 => ?_)
  obtain ⟨v, rfl, hc2⟩ := hq r1 σ1 q1
  refine V_aload_n oo dL_law_746 rfl rfl ?_
  refine V_arg (k := 1) oo hsc dL_law_747 dL_law_748 dL_law_750 dL_law_751 dL_law_752 (by decide) rfl rfl (by omega) (by omega) ?_
  refine L_callV hL oo dL_law_753 ml_L_96 hc2 rfl rfl rfl (Nat.le_of_ble_eq_true rfl) (by rw [hR]; exact ⟨Nat.le_of_ble_eq_true rfl, Nat.le_of_ble_eq_true rfl⟩) hc0 (fun r2 σ2 q2 => ?_)
  obtain ⟨rfl, hS2⟩ := q2
  exact V_icmp_eq (tgt := 1420) oo dL_law_756 (by decide) (fun _ => V_wid (Nat.le_succ _) (Nat.le_add_right _ _) (nx σ2 o hS2)) (fun z => absurd rfl z)
set_option maxRecDepth 20000 in
set_option maxHeartbeats 4000000 in
theorem cs_18 {w : Wp} {un1 : Nat → Nat} {x : Cx} {Ln : Nat} {xs : Nat → Int32} (hL : Lf w un1) (oo : Ok sh1 (wO w un1) x RL mL_law) (hR : x.R = room_1) (hlt : w.l.stackTraces = false) (hZ : Zs w x.s) (hsc : Sc w un1 x Ln xs) {k i : Nat} {σ : Mm} {o : Int64} {cn : Nat × Nat} (hS : St k σ) (hk : k < 512) (hi : i + 6 ≤ Ln) (hLn : Ln ≤ 3072) (hcn : cn.1 + 1 ≤ x.R.cells ∧ cn.2 + 6 ≤ x.R.slots) (nx : ∀ σ' o', St (k + 1) σ' → V sh1 (wO w un1) x mL_law (cn.1 + 1, cn.2 + 6) 1420 [(4, .int (nI i)), (3, .ref 79), (2, .ref 67), (1, .ref 1), (0, .ref 80)] [] (sO σ' o')) : V sh1 (wO w un1) x mL_law cn 829 [(4, .int (nI i)), (3, .ref 79), (2, .ref 67), (1, .ref 1), (0, .ref 80)] [] (sO σ o) := by
  have hc0 : cn.1 ≤ x.R.cells ∧ cn.2 ≤ x.R.slots := ⟨Nat.le_of_succ_le hcn.1, Nat.le_trans (Nat.le_add_right _ _) hcn.2⟩
  obtain ⟨Q, hQ, hq⟩ : Pr w k 2 4 mX8_slot mX9_slot [.int (xs (i + 1)), .int (xs (i + 2))] σ := p_slot hL.1 hS hk
  refine V_aload_n oo dL_law_829 rfl rfl ?_
  refine V_arg (k := 1) oo hsc dL_law_830 dL_law_831 dL_law_833 dL_law_834 dL_law_835 (by decide) rfl rfl (by omega) (by omega) ?_
  refine V_arg (k := 2) oo hsc dL_law_836 dL_law_837 dL_law_839 dL_law_840 dL_law_841 (by decide) rfl rfl (by omega) (by omega) ?_
  refine L_callV hL oo dL_law_842 ml_L_106 hQ rfl rfl rfl (Nat.le_of_ble_eq_true rfl) (by rw [hR]; exact ⟨Nat.le_of_ble_eq_true rfl, Nat.le_of_ble_eq_true rfl⟩) hc0 (fun r1 σ1 q1 => ?_)
  obtain ⟨v, rfl, hc2⟩ := hq r1 σ1 q1
  refine V_aload_n oo dL_law_845 rfl rfl ?_
  refine V_arg (k := 1) oo hsc dL_law_846 dL_law_847 dL_law_849 dL_law_850 dL_law_851 (by decide) rfl rfl (by omega) (by omega) ?_
  refine V_arg (k := 2) oo hsc dL_law_852 dL_law_853 dL_law_855 dL_law_856 dL_law_857 (by decide) rfl rfl (by omega) (by omega) ?_
  refine L_callV hL oo dL_law_858 ml_L_109 hc2 rfl rfl rfl (Nat.le_of_ble_eq_true rfl) (by rw [hR]; exact ⟨Nat.le_of_ble_eq_true rfl, Nat.le_of_ble_eq_true rfl⟩) hc0 (fun r2 σ2 q2 => ?_)
  obtain ⟨rfl, hS2⟩ := q2
  exact V_icmp_eq (tgt := 1420) oo dL_law_861 (by decide) (fun _ => V_wid (Nat.le_succ _) (Nat.le_add_right _ _) (nx σ2 o hS2)) (fun z => absurd rfl z)
end
