/-! the law: a call of the class beside a call of the reference -/
def NXT (K : Ctx) (D : va_G) (Y : Nat → ClassId) (ad : Nat → Nat) (h0 : Nat) (ad' : Nat → Nat) (cells slots b i : Nat) (S : MS) : Prop := ∀ (S' : MS) (T' : CT) (e' : CE), RR S' T' e' → S' 21 0 ≤ S 21 0 + 1 → JJ K D (cells + 1) (slots + 5) (WC ad Y (T', e') ++ WM h0 ad' Y S') [(0, .ref b), (1, .ref (ad 16)), (2, .ref h0), (3, .int (nI i))] 1199 []
section
variable {K : Ctx} {D : va_G} {Y : Nat → ClassId} {ad : Nat → Nat} {h0 : Nat} {ad' : Nat → Nat} {S : MS} {T : CT} {e : CE} {b L i cells slots : Nat} {xs : Nat → Int32}
set_option maxRecDepth 100000 in
set_option maxHeartbeats 4000000 in
theorem lc_0 (X : CX K cL_law 8 RL D Y) (hR : kR K = room_1) (hX : va_X b L xs (ks K) (ks K).heap) (hbl : b < (ks K).heap.size) (hbA : ¬ kA K b) (hL : L ≤ 2560) (hi : i + 5 ≤ L) (hC : cells + 1 ≤ 600000 ∧ slots + 5 ≤ 7302250) (hS : RR S T e) (hmo : S 21 0 < 1000) (NX : NXT K D Y ad h0 ad' cells slots b i S) : JJ K D cells slots (WC ad Y (T, e) ++ WM h0 ad' Y S) [(0, .ref b), (1, .ref (ad 16)), (2, .ref h0), (3, .int (nI i))] 200 [] := by
  have hC1 := hC.1
  have hC2 := hC.2
  refine j_aload_n X dL_law_200 rfl 1 rfl ?_
  refine j_aload_n X dL_law_201 rfl 0 rfl ?_
  refine j_iload_n X dL_law_202 rfl 3 rfl ?_
  refine j_iconst (v := nI 1) X dL_law_203 (by decide) ?_
  refine n_iadd X dL_law_204 ?_
  refine jl_sld X hX hbl hbA (by omega) hL dL_law_205 ?_
  refine j_aload_n X dL_law_206 rfl 0 rfl ?_
  refine j_iload_n X dL_law_207 rfl 3 rfl ?_
  refine j_iconst (v := nI 2) X dL_law_208 (by decide) ?_
  refine n_iadd X dL_law_209 ?_
  refine jl_sld X hX hbl hbA (by omega) hL dL_law_210 ?_
  refine jl_cI2 (mc := 1) (ms := 5) X hR (m_X6_addChild hS (xs (i + 1)) (xs (i + 2))) m_L_13 rfl (by decide) (by decide) (Nat.le_of_ble_eq_true rfl) ⟨by omega, by omega⟩ dL_law_211 ?_
  rintro _ ⟨T1, e1⟩ ⟨rfl, hR1⟩
  refine j_aload_n X dL_law_214 rfl 2 rfl ?_
  refine j_aload_n X dL_law_215 rfl 0 rfl ?_
  refine j_iload_n X dL_law_216 rfl 3 rfl ?_
  refine j_iconst (v := nI 1) X dL_law_217 (by decide) ?_
  refine n_iadd X dL_law_218 ?_
  refine jl_sld X hX hbl hbA (by omega) hL dL_law_219 ?_
  refine j_aload_n X dL_law_220 rfl 0 rfl ?_
  refine j_iload_n X dL_law_221 rfl 3 rfl ?_
  refine j_iconst (v := nI 2) X dL_law_222 (by decide) ?_
  refine n_iadd X dL_law_223 ?_
  refine jl_sld X hX hbl hbA (by omega) hL dL_law_224 ?_
  refine jl_mI2 X hR (m_X7_addChild S hS.hB hS.hI (xs (i + 1)) (xs (i + 2))) m_L_17 rfl (by decide) (by decide) (Nat.le_of_ble_eq_true rfl) ⟨by omega, by omega⟩ dL_law_225 ?_
  rintro _ _ ⟨rfl, rfl, hB2, hI2⟩
  refine j_icmp_eq (tgt := 1199) X dL_law_228 (by decide) (fun _ => ?_) (fun q => absurd rfl q)
  skip
  exact j_widen (by omega) (by omega) (NX _ _ _ hR1 (Nat.le_succ_of_le (Nat.le_of_eq (m0_addCS S (xs (i + 1)) (xs (i + 2))))))
set_option maxRecDepth 100000 in
set_option maxHeartbeats 4000000 in
theorem lc_1 (X : CX K cL_law 8 RL D Y) (hR : kR K = room_1) (hX : va_X b L xs (ks K) (ks K).heap) (hbl : b < (ks K).heap.size) (hbA : ¬ kA K b) (hL : L ≤ 2560) (hi : i + 5 ≤ L) (hC : cells + 1 ≤ 600000 ∧ slots + 5 ≤ 7302250) (hS : RR S T e) (hmo : S 21 0 < 1000) (NX : NXT K D Y ad h0 ad' cells slots b i S) : JJ K D cells slots (WC ad Y (T, e) ++ WM h0 ad' Y S) [(0, .ref b), (1, .ref (ad 16)), (2, .ref h0), (3, .int (nI i))] 233 [] := by
  have hC1 := hC.1
  have hC2 := hC.2
  refine j_aload_n X dL_law_233 rfl 1 rfl ?_
  refine j_aload_n X dL_law_234 rfl 0 rfl ?_
  refine j_iload_n X dL_law_235 rfl 3 rfl ?_
  refine j_iconst (v := nI 1) X dL_law_236 (by decide) ?_
  refine n_iadd X dL_law_237 ?_
  refine jl_sld X hX hbl hbA (by omega) hL dL_law_238 ?_
  refine jl_cI1 (mc := 0) (ms := 0) X hR (m_X6_removeChild hS (xs (i + 1))) m_L_18 rfl (by decide) (by decide) (Nat.le_of_ble_eq_true rfl) ⟨by omega, by omega⟩ dL_law_239 ?_
  rintro _ ⟨T1, e1⟩ ⟨rfl, hR1⟩
  refine j_aload_n X dL_law_242 rfl 2 rfl ?_
  refine j_aload_n X dL_law_243 rfl 0 rfl ?_
  refine j_iload_n X dL_law_244 rfl 3 rfl ?_
  refine j_iconst (v := nI 1) X dL_law_245 (by decide) ?_
  refine n_iadd X dL_law_246 ?_
  refine jl_sld X hX hbl hbA (by omega) hL dL_law_247 ?_
  refine jl_mI1 X hR (m_X7_removeChild S hS.hB hS.hI (xs (i + 1))) m_L_22 rfl (by decide) (by decide) (Nat.le_of_ble_eq_true rfl) ⟨by omega, by omega⟩ dL_law_248 ?_
  rintro _ _ ⟨rfl, rfl, hB2, hI2⟩
  refine j_icmp_eq (tgt := 1199) X dL_law_251 (by decide) (fun _ => ?_) (fun q => absurd rfl q)
  skip
  exact j_widen (by omega) (by omega) (NX _ _ _ hR1 (Nat.le_succ_of_le (Nat.le_of_eq (m0_rmCS S (xs (i + 1))))))
set_option maxRecDepth 100000 in
set_option maxHeartbeats 4000000 in
theorem lc_2 (X : CX K cL_law 8 RL D Y) (hR : kR K = room_1) (hX : va_X b L xs (ks K) (ks K).heap) (hbl : b < (ks K).heap.size) (hbA : ¬ kA K b) (hL : L ≤ 2560) (hi : i + 5 ≤ L) (hC : cells + 1 ≤ 600000 ∧ slots + 5 ≤ 7302250) (hS : RR S T e) (hmo : S 21 0 < 1000) (NX : NXT K D Y ad h0 ad' cells slots b i S) : JJ K D cells slots (WC ad Y (T, e) ++ WM h0 ad' Y S) [(0, .ref b), (1, .ref (ad 16)), (2, .ref h0), (3, .int (nI i))] 256 [] := by
  have hC1 := hC.1
  have hC2 := hC.2
  refine j_aload_n X dL_law_256 rfl 1 rfl ?_
  refine jl_cI0 (mc := 0) (ms := 0) X hR (m_X6_children hS) m_L_23 rfl (by decide) (by decide) (Nat.le_of_ble_eq_true rfl) ⟨by omega, by omega⟩ dL_law_257 ?_
  rintro _ _ ⟨n1, hn1, -, rfl, rfl⟩
  subst hn1
  have hR1 := hS
  refine j_aload_n X dL_law_260 rfl 2 rfl ?_
  refine jl_mI0 X hR (m_X7_children S hS.hB hS.hI) m_L_27 rfl (by decide) (by decide) (Nat.le_of_ble_eq_true rfl) ⟨by omega, by omega⟩ dL_law_261 ?_
  rintro _ _ ⟨n2, hn2, -, rfl, rfl⟩
  subst hn2
  refine j_icmp_eq (tgt := 1199) X dL_law_264 (by decide) (fun _ => ?_) (fun q => absurd rfl q)
  skip
  exact j_widen (by omega) (by omega) (NX _ _ _ hR1 (Nat.le_succ _))
set_option maxRecDepth 100000 in
set_option maxHeartbeats 4000000 in
theorem lc_3 (X : CX K cL_law 8 RL D Y) (hR : kR K = room_1) (hX : va_X b L xs (ks K) (ks K).heap) (hbl : b < (ks K).heap.size) (hbA : ¬ kA K b) (hL : L ≤ 2560) (hi : i + 5 ≤ L) (hC : cells + 1 ≤ 600000 ∧ slots + 5 ≤ 7302250) (hS : RR S T e) (hmo : S 21 0 < 1000) (NX : NXT K D Y ad h0 ad' cells slots b i S) : JJ K D cells slots (WC ad Y (T, e) ++ WM h0 ad' Y S) [(0, .ref b), (1, .ref (ad 16)), (2, .ref h0), (3, .int (nI i))] 269 [] := by
  have hC1 := hC.1
  have hC2 := hC.2
  refine j_aload_n X dL_law_269 rfl 1 rfl ?_
  refine j_aload_n X dL_law_270 rfl 0 rfl ?_
  refine j_iload_n X dL_law_271 rfl 3 rfl ?_
  refine j_iconst (v := nI 1) X dL_law_272 (by decide) ?_
  refine n_iadd X dL_law_273 ?_
  refine jl_sld X hX hbl hbA (by omega) hL dL_law_274 ?_
  refine jl_cI1 (mc := 0) (ms := 0) X hR (m_X6_age hS (xs (i + 1))) m_L_28 rfl (by decide) (by decide) (Nat.le_of_ble_eq_true rfl) ⟨by omega, by omega⟩ dL_law_275 ?_
  rintro _ _ ⟨rfl, rfl⟩
  have hR1 := hS
  refine j_aload_n X dL_law_278 rfl 2 rfl ?_
  refine j_aload_n X dL_law_279 rfl 0 rfl ?_
  refine j_iload_n X dL_law_280 rfl 3 rfl ?_
  refine j_iconst (v := nI 1) X dL_law_281 (by decide) ?_
  refine n_iadd X dL_law_282 ?_
  refine jl_sld X hX hbl hbA (by omega) hL dL_law_283 ?_
  refine jl_mI1 X hR (m_X7_age S hS.hB (xs (i + 1))) m_L_31 rfl (by decide) (by decide) (Nat.le_of_ble_eq_true rfl) ⟨by omega, by omega⟩ dL_law_284 ?_
  rintro _ _ ⟨rfl, rfl⟩
  refine j_icmp_eq (tgt := 1199) X dL_law_287 (by decide) (fun _ => ?_) (fun q => absurd rfl q)
  skip
  exact j_widen (by omega) (by omega) (NX _ _ _ hR1 (Nat.le_succ _))
set_option maxRecDepth 100000 in
set_option maxHeartbeats 4000000 in
theorem lc_4 (X : CX K cL_law 8 RL D Y) (hR : kR K = room_1) (hX : va_X b L xs (ks K) (ks K).heap) (hbl : b < (ks K).heap.size) (hbA : ¬ kA K b) (hL : L ≤ 2560) (hi : i + 5 ≤ L) (hC : cells + 1 ≤ 600000 ∧ slots + 5 ≤ 7302250) (hS : RR S T e) (hmo : S 21 0 < 1000) (NX : NXT K D Y ad h0 ad' cells slots b i S) : JJ K D cells slots (WC ad Y (T, e) ++ WM h0 ad' Y S) [(0, .ref b), (1, .ref (ad 16)), (2, .ref h0), (3, .int (nI i))] 292 [] := by
  have hC1 := hC.1
  have hC2 := hC.2
  refine j_aload_n X dL_law_292 rfl 1 rfl ?_
  refine j_aload_n X dL_law_293 rfl 0 rfl ?_
  refine j_iload_n X dL_law_294 rfl 3 rfl ?_
  refine j_iconst (v := nI 1) X dL_law_295 (by decide) ?_
  refine n_iadd X dL_law_296 ?_
  refine jl_sld X hX hbl hbA (by omega) hL dL_law_297 ?_
  refine jl_cI1 (mc := 0) (ms := 0) X hR (m_X6_isAdmitted hS (xs (i + 1))) m_L_32 rfl (by decide) (by decide) (Nat.le_of_ble_eq_true rfl) ⟨by omega, by omega⟩ dL_law_298 ?_
  rintro _ _ ⟨rfl, rfl⟩
  have hR1 := hS
  refine j_aload_n X dL_law_301 rfl 2 rfl ?_
  refine j_aload_n X dL_law_302 rfl 0 rfl ?_
  refine j_iload_n X dL_law_303 rfl 3 rfl ?_
  refine j_iconst (v := nI 1) X dL_law_304 (by decide) ?_
  refine n_iadd X dL_law_305 ?_
  refine jl_sld X hX hbl hbA (by omega) hL dL_law_306 ?_
  refine jl_mI1 X hR (m_X7_isAdmitted S hS.hB (xs (i + 1))) m_L_35 rfl (by decide) (by decide) (Nat.le_of_ble_eq_true rfl) ⟨by omega, by omega⟩ dL_law_307 ?_
  rintro _ _ ⟨rfl, rfl⟩
  refine j_icmp_eq (tgt := 1199) X dL_law_310 (by decide) (fun _ => ?_) (fun q => absurd rfl q)
  skip
  exact j_widen (by omega) (by omega) (NX _ _ _ hR1 (Nat.le_succ _))
set_option maxRecDepth 100000 in
set_option maxHeartbeats 4000000 in
theorem lc_5 (X : CX K cL_law 8 RL D Y) (hR : kR K = room_1) (hX : va_X b L xs (ks K) (ks K).heap) (hbl : b < (ks K).heap.size) (hbA : ¬ kA K b) (hL : L ≤ 2560) (hi : i + 5 ≤ L) (hC : cells + 1 ≤ 600000 ∧ slots + 5 ≤ 7302250) (hS : RR S T e) (hmo : S 21 0 < 1000) (NX : NXT K D Y ad h0 ad' cells slots b i S) : JJ K D cells slots (WC ad Y (T, e) ++ WM h0 ad' Y S) [(0, .ref b), (1, .ref (ad 16)), (2, .ref h0), (3, .int (nI i))] 315 [] := by
  have hC1 := hC.1
  have hC2 := hC.2
  refine j_aload_n X dL_law_315 rfl 1 rfl ?_
  refine j_aload_n X dL_law_316 rfl 0 rfl ?_
  refine j_iload_n X dL_law_317 rfl 3 rfl ?_
  refine j_iconst (v := nI 1) X dL_law_318 (by decide) ?_
  refine n_iadd X dL_law_319 ?_
  refine jl_sld X hX hbl hbA (by omega) hL dL_law_320 ?_
  refine jl_cI1 (mc := 0) (ms := 0) X hR (m_X6_hours hS (xs (i + 1))) m_L_36 rfl (by decide) (by decide) (Nat.le_of_ble_eq_true rfl) ⟨by omega, by omega⟩ dL_law_321 ?_
  rintro _ _ ⟨rfl, rfl⟩
  have hR1 := hS
  refine j_aload_n X dL_law_324 rfl 2 rfl ?_
  refine j_aload_n X dL_law_325 rfl 0 rfl ?_
  refine j_iload_n X dL_law_326 rfl 3 rfl ?_
  refine j_iconst (v := nI 1) X dL_law_327 (by decide) ?_
  refine n_iadd X dL_law_328 ?_
  refine jl_sld X hX hbl hbA (by omega) hL dL_law_329 ?_
  refine jl_mI1 X hR (m_X7_hours S hS.hB hS.hI (xs (i + 1))) m_L_39 rfl (by decide) (by decide) (Nat.le_of_ble_eq_true rfl) ⟨by omega, by omega⟩ dL_law_330 ?_
  rintro _ _ ⟨rfl, rfl⟩
  refine j_icmp_eq (tgt := 1199) X dL_law_333 (by decide) (fun _ => ?_) (fun q => absurd rfl q)
  skip
  exact j_widen (by omega) (by omega) (NX _ _ _ hR1 (Nat.le_succ _))
set_option maxRecDepth 100000 in
set_option maxHeartbeats 4000000 in
theorem lc_6 (X : CX K cL_law 8 RL D Y) (hR : kR K = room_1) (hX : va_X b L xs (ks K) (ks K).heap) (hbl : b < (ks K).heap.size) (hbA : ¬ kA K b) (hL : L ≤ 2560) (hi : i + 5 ≤ L) (hC : cells + 1 ≤ 600000 ∧ slots + 5 ≤ 7302250) (hS : RR S T e) (hmo : S 21 0 < 1000) (NX : NXT K D Y ad h0 ad' cells slots b i S) : JJ K D cells slots (WC ad Y (T, e) ++ WM h0 ad' Y S) [(0, .ref b), (1, .ref (ad 16)), (2, .ref h0), (3, .int (nI i))] 338 [] := by
  have hC1 := hC.1
  have hC2 := hC.2
  refine j_aload_n X dL_law_338 rfl 1 rfl ?_
  refine j_aload_n X dL_law_339 rfl 0 rfl ?_
  refine j_iload_n X dL_law_340 rfl 3 rfl ?_
  refine j_iconst (v := nI 1) X dL_law_341 (by decide) ?_
  refine n_iadd X dL_law_342 ?_
  refine jl_sld X hX hbl hbA (by omega) hL dL_law_343 ?_
  refine j_aload_n X dL_law_344 rfl 0 rfl ?_
  refine j_iload_n X dL_law_345 rfl 3 rfl ?_
  refine j_iconst (v := nI 2) X dL_law_346 (by decide) ?_
  refine n_iadd X dL_law_347 ?_
  refine jl_sld X hX hbl hbA (by omega) hL dL_law_348 ?_
  refine j_aload_n X dL_law_349 rfl 0 rfl ?_
  refine j_iload_n X dL_law_350 rfl 3 rfl ?_
  refine j_iconst (v := nI 3) X dL_law_351 (by decide) ?_
  refine n_iadd X dL_law_352 ?_
  refine jl_sld X hX hbl hbA (by omega) hL dL_law_353 ?_
  refine j_aload_n X dL_law_354 rfl 0 rfl ?_
  refine j_iload_n X dL_law_355 rfl 3 rfl ?_
  refine j_iconst (v := nI 4) X dL_law_356 (by decide) ?_
  refine n_iadd X dL_law_357 ?_
  refine jl_sld X hX hbl hbA (by omega) hL dL_law_358 ?_
  refine jl_cI4 (mc := 0) (ms := 0) X hR (m_X6_book hS (xs (i + 1)) (xs (i + 2)) (xs (i + 3)) (xs (i + 4))) m_L_40 rfl (by decide) (by decide) (Nat.le_of_ble_eq_true rfl) ⟨by omega, by omega⟩ dL_law_359 ?_
  rintro _ ⟨T1, e1⟩ ⟨rfl, hR1⟩
  refine j_aload_n X dL_law_362 rfl 2 rfl ?_
  refine j_aload_n X dL_law_363 rfl 0 rfl ?_
  refine j_iload_n X dL_law_364 rfl 3 rfl ?_
  refine j_iconst (v := nI 1) X dL_law_365 (by decide) ?_
  refine n_iadd X dL_law_366 ?_
  refine jl_sld X hX hbl hbA (by omega) hL dL_law_367 ?_
  refine j_aload_n X dL_law_368 rfl 0 rfl ?_
  refine j_iload_n X dL_law_369 rfl 3 rfl ?_
  refine j_iconst (v := nI 2) X dL_law_370 (by decide) ?_
  refine n_iadd X dL_law_371 ?_
  refine jl_sld X hX hbl hbA (by omega) hL dL_law_372 ?_
  refine j_aload_n X dL_law_373 rfl 0 rfl ?_
  refine j_iload_n X dL_law_374 rfl 3 rfl ?_
  refine j_iconst (v := nI 3) X dL_law_375 (by decide) ?_
  refine n_iadd X dL_law_376 ?_
  refine jl_sld X hX hbl hbA (by omega) hL dL_law_377 ?_
  refine j_aload_n X dL_law_378 rfl 0 rfl ?_
  refine j_iload_n X dL_law_379 rfl 3 rfl ?_
  refine j_iconst (v := nI 4) X dL_law_380 (by decide) ?_
  refine n_iadd X dL_law_381 ?_
  refine jl_sld X hX hbl hbA (by omega) hL dL_law_382 ?_
  refine jl_mI4 X hR (m_X7_book S hS.hB hS.hI (xs (i + 1)) (xs (i + 2)) (xs (i + 3)) (xs (i + 4))) m_L_44 rfl (by decide) (by decide) (Nat.le_of_ble_eq_true rfl) ⟨by omega, by omega⟩ dL_law_383 ?_
  rintro _ _ ⟨rfl, rfl, hB2, hI2⟩
  refine j_icmp_eq (tgt := 1199) X dL_law_386 (by decide) (fun _ => ?_) (fun q => absurd rfl q)
  skip
  exact j_widen (by omega) (by omega) (NX _ _ _ hR1 (Nat.le_succ_of_le (Nat.le_of_eq (m0_bookS S (xs (i + 1)) (xs (i + 2)) (xs (i + 3)) (xs (i + 4))))))
set_option maxRecDepth 100000 in
set_option maxHeartbeats 4000000 in
theorem lc_7 (X : CX K cL_law 8 RL D Y) (hR : kR K = room_1) (hX : va_X b L xs (ks K) (ks K).heap) (hbl : b < (ks K).heap.size) (hbA : ¬ kA K b) (hL : L ≤ 2560) (hi : i + 5 ≤ L) (hC : cells + 1 ≤ 600000 ∧ slots + 5 ≤ 7302250) (hS : RR S T e) (hmo : S 21 0 < 1000) (NX : NXT K D Y ad h0 ad' cells slots b i S) : JJ K D cells slots (WC ad Y (T, e) ++ WM h0 ad' Y S) [(0, .ref b), (1, .ref (ad 16)), (2, .ref h0), (3, .int (nI i))] 391 [] := by
  have hC1 := hC.1
  have hC2 := hC.2
  refine j_aload_n X dL_law_391 rfl 1 rfl ?_
  refine jl_cI0 (mc := 0) (ms := 0) X hR (m_X6_nextMonth hS hmo) m_L_45 rfl (by decide) (by decide) (Nat.le_of_ble_eq_true rfl) ⟨by omega, by omega⟩ dL_law_392 ?_
  rintro _ ⟨T1, e1⟩ ⟨rfl, hR1⟩
  refine j_aload_n X dL_law_395 rfl 2 rfl ?_
  refine jl_mI0 X hR (m_X7_nextMonth S hS.hB hS.hI hmo) m_L_48 rfl (by decide) (by decide) (Nat.le_of_ble_eq_true rfl) ⟨by omega, by omega⟩ dL_law_396 ?_
  rintro _ _ ⟨rfl, rfl, hB2, hI2⟩
  refine j_icmp_eq (tgt := 1199) X dL_law_399 (by decide) (fun _ => ?_) (fun q => absurd rfl q)
  skip
  exact j_widen (by omega) (by omega) (NX _ _ _ hR1 (Nat.le_of_eq (itS_month 24)))
set_option maxRecDepth 100000 in
set_option maxHeartbeats 4000000 in
theorem lc_8 (X : CX K cL_law 8 RL D Y) (hR : kR K = room_1) (hX : va_X b L xs (ks K) (ks K).heap) (hbl : b < (ks K).heap.size) (hbA : ¬ kA K b) (hL : L ≤ 2560) (hi : i + 5 ≤ L) (hC : cells + 1 ≤ 600000 ∧ slots + 5 ≤ 7302250) (hS : RR S T e) (hmo : S 21 0 < 1000) (NX : NXT K D Y ad h0 ad' cells slots b i S) : JJ K D cells slots (WC ad Y (T, e) ++ WM h0 ad' Y S) [(0, .ref b), (1, .ref (ad 16)), (2, .ref h0), (3, .int (nI i))] 404 [] := by
  have hC1 := hC.1
  have hC2 := hC.2
  refine j_aload_n X dL_law_404 rfl 1 rfl ?_
  refine j_aload_n X dL_law_405 rfl 0 rfl ?_
  refine j_iload_n X dL_law_406 rfl 3 rfl ?_
  refine j_iconst (v := nI 1) X dL_law_407 (by decide) ?_
  refine n_iadd X dL_law_408 ?_
  refine jl_sld X hX hbl hbA (by omega) hL dL_law_409 ?_
  refine jl_cI1 (mc := 0) (ms := 0) X hR (m_X6_waited hS (xs (i + 1))) m_L_49 rfl (by decide) (by decide) (Nat.le_of_ble_eq_true rfl) ⟨by omega, by omega⟩ dL_law_410 ?_
  rintro _ _ ⟨rfl, rfl⟩
  have hR1 := hS
  refine j_aload_n X dL_law_413 rfl 2 rfl ?_
  refine j_aload_n X dL_law_414 rfl 0 rfl ?_
  refine j_iload_n X dL_law_415 rfl 3 rfl ?_
  refine j_iconst (v := nI 1) X dL_law_416 (by decide) ?_
  refine n_iadd X dL_law_417 ?_
  refine jl_sld X hX hbl hbA (by omega) hL dL_law_418 ?_
  refine jl_mI1 X hR (m_X7_waited S hS.hB (xs (i + 1))) m_L_52 rfl (by decide) (by decide) (Nat.le_of_ble_eq_true rfl) ⟨by omega, by omega⟩ dL_law_419 ?_
  rintro _ _ ⟨rfl, rfl⟩
  refine j_icmp_eq (tgt := 1199) X dL_law_422 (by decide) (fun _ => ?_) (fun q => absurd rfl q)
  skip
  exact j_widen (by omega) (by omega) (NX _ _ _ hR1 (Nat.le_succ _))
set_option maxRecDepth 100000 in
set_option maxHeartbeats 4000000 in
theorem lc_9 (X : CX K cL_law 8 RL D Y) (hR : kR K = room_1) (hX : va_X b L xs (ks K) (ks K).heap) (hbl : b < (ks K).heap.size) (hbA : ¬ kA K b) (hL : L ≤ 2560) (hi : i + 5 ≤ L) (hC : cells + 1 ≤ 600000 ∧ slots + 5 ≤ 7302250) (hS : RR S T e) (hmo : S 21 0 < 1000) (NX : NXT K D Y ad h0 ad' cells slots b i S) : JJ K D cells slots (WC ad Y (T, e) ++ WM h0 ad' Y S) [(0, .ref b), (1, .ref (ad 16)), (2, .ref h0), (3, .int (nI i))] 427 [] := by
  have hC1 := hC.1
  have hC2 := hC.2
  refine j_aload_n X dL_law_427 rfl 1 rfl ?_
  refine j_aload_n X dL_law_428 rfl 0 rfl ?_
  refine j_iload_n X dL_law_429 rfl 3 rfl ?_
  refine j_iconst (v := nI 1) X dL_law_430 (by decide) ?_
  refine n_iadd X dL_law_431 ?_
  refine jl_sld X hX hbl hbA (by omega) hL dL_law_432 ?_
  refine jl_cI1 (mc := 0) (ms := 0) X hR (m_X6_points hS (xs (i + 1))) m_L_53 rfl (by decide) (by decide) (Nat.le_of_ble_eq_true rfl) ⟨by omega, by omega⟩ dL_law_433 ?_
  rintro _ _ ⟨rfl, rfl⟩
  have hR1 := hS
  refine j_aload_n X dL_law_436 rfl 2 rfl ?_
  refine j_aload_n X dL_law_437 rfl 0 rfl ?_
  refine j_iload_n X dL_law_438 rfl 3 rfl ?_
  refine j_iconst (v := nI 1) X dL_law_439 (by decide) ?_
  refine n_iadd X dL_law_440 ?_
  refine jl_sld X hX hbl hbA (by omega) hL dL_law_441 ?_
  refine jl_mI1 X hR (m_X7_points S hS.hB hS.hI (xs (i + 1))) m_L_56 rfl (by decide) (by decide) (Nat.le_of_ble_eq_true rfl) ⟨by omega, by omega⟩ dL_law_442 ?_
  rintro _ _ ⟨rfl, rfl⟩
  refine j_icmp_eq (tgt := 1199) X dL_law_445 (by decide) (fun _ => ?_) (fun q => absurd rfl q)
  skip
  exact j_widen (by omega) (by omega) (NX _ _ _ hR1 (Nat.le_succ _))
set_option maxRecDepth 100000 in
set_option maxHeartbeats 4000000 in
theorem lc_10 (X : CX K cL_law 8 RL D Y) (hR : kR K = room_1) (hX : va_X b L xs (ks K) (ks K).heap) (hbl : b < (ks K).heap.size) (hbA : ¬ kA K b) (hL : L ≤ 2560) (hi : i + 5 ≤ L) (hC : cells + 1 ≤ 600000 ∧ slots + 5 ≤ 7302250) (hS : RR S T e) (hmo : S 21 0 < 1000) (NX : NXT K D Y ad h0 ad' cells slots b i S) : JJ K D cells slots (WC ad Y (T, e) ++ WM h0 ad' Y S) [(0, .ref b), (1, .ref (ad 16)), (2, .ref h0), (3, .int (nI i))] 450 [] := by
  have hC1 := hC.1
  have hC2 := hC.2
  refine j_aload_n X dL_law_450 rfl 1 rfl ?_
  refine j_aload_n X dL_law_451 rfl 0 rfl ?_
  refine j_iload_n X dL_law_452 rfl 3 rfl ?_
  refine j_iconst (v := nI 1) X dL_law_453 (by decide) ?_
  refine n_iadd X dL_law_454 ?_
  refine jl_sld X hX hbl hbA (by omega) hL dL_law_455 ?_
  refine jl_cI1 (mc := 0) (ms := 0) X hR (m_X6_waiting hS (xs (i + 1))) m_L_57 rfl (by decide) (by decide) (Nat.le_of_ble_eq_true rfl) ⟨by omega, by omega⟩ dL_law_456 ?_
  rintro _ _ ⟨T1, rfl, rfl, hsm⟩
  have hR1 := hS.sm hsm (by decide)
  refine j_aload_n X dL_law_459 rfl 2 rfl ?_
  refine j_aload_n X dL_law_460 rfl 0 rfl ?_
  refine j_iload_n X dL_law_461 rfl 3 rfl ?_
  refine j_iconst (v := nI 1) X dL_law_462 (by decide) ?_
  refine n_iadd X dL_law_463 ?_
  refine jl_sld X hX hbl hbA (by omega) hL dL_law_464 ?_
  refine jl_mI1 X hR (m_X7_waiting S hS.hB hS.hI (xs (i + 1))) m_L_60 rfl (by decide) (by decide) (Nat.le_of_ble_eq_true rfl) ⟨by omega, by omega⟩ dL_law_465 ?_
  rintro _ _ ⟨rfl, rfl⟩
  refine j_icmp_eq (tgt := 1199) X dL_law_468 (by decide) (fun _ => ?_) (fun q => absurd rfl q)
  skip
  exact j_widen (by omega) (by omega) (NX _ _ _ hR1 (Nat.le_succ _))
set_option maxRecDepth 100000 in
set_option maxHeartbeats 4000000 in
theorem lc_11 (X : CX K cL_law 8 RL D Y) (hR : kR K = room_1) (hX : va_X b L xs (ks K) (ks K).heap) (hbl : b < (ks K).heap.size) (hbA : ¬ kA K b) (hL : L ≤ 2560) (hi : i + 5 ≤ L) (hC : cells + 1 ≤ 600000 ∧ slots + 5 ≤ 7302250) (hS : RR S T e) (hmo : S 21 0 < 1000) (NX : NXT K D Y ad h0 ad' cells slots b i S) : JJ K D cells slots (WC ad Y (T, e) ++ WM h0 ad' Y S) [(0, .ref b), (1, .ref (ad 16)), (2, .ref h0), (3, .int (nI i))] 473 [] := by
  have hC1 := hC.1
  have hC2 := hC.2
  refine j_aload_n X dL_law_473 rfl 1 rfl ?_
  refine jl_cI0 (mc := 0) (ms := 0) X hR (m_X6_admit hS) m_L_61 rfl (by decide) (by decide) (Nat.le_of_ble_eq_true rfl) ⟨by omega, by omega⟩ dL_law_474 ?_
  rintro _ ⟨T1, e1⟩ ⟨rfl, hR1⟩
  refine j_aload_n X dL_law_477 rfl 2 rfl ?_
  refine jl_mI0 X hR (m_X7_admit S hS.hB hS.hI) m_L_64 rfl (by decide) (by decide) (Nat.le_of_ble_eq_true rfl) ⟨by omega, by omega⟩ dL_law_478 ?_
  rintro _ _ ⟨rfl, rfl, hB2, hI2⟩
  refine j_icmp_eq (tgt := 1199) X dL_law_481 (by decide) (fun _ => ?_) (fun q => absurd rfl q)
  skip
  exact j_widen (by omega) (by omega) (NX _ _ _ hR1 (Nat.le_succ_of_le (Nat.le_of_eq (m0_admF _ _))))
set_option maxRecDepth 100000 in
set_option maxHeartbeats 4000000 in
theorem lc_12 (X : CX K cL_law 8 RL D Y) (hR : kR K = room_1) (hX : va_X b L xs (ks K) (ks K).heap) (hbl : b < (ks K).heap.size) (hbA : ¬ kA K b) (hL : L ≤ 2560) (hi : i + 5 ≤ L) (hC : cells + 1 ≤ 600000 ∧ slots + 5 ≤ 7302250) (hS : RR S T e) (hmo : S 21 0 < 1000) (NX : NXT K D Y ad h0 ad' cells slots b i S) : JJ K D cells slots (WC ad Y (T, e) ++ WM h0 ad' Y S) [(0, .ref b), (1, .ref (ad 16)), (2, .ref h0), (3, .int (nI i))] 486 [] := by
  have hC1 := hC.1
  have hC2 := hC.2
  refine j_aload_n X dL_law_486 rfl 1 rfl ?_
  refine j_aload_n X dL_law_487 rfl 0 rfl ?_
  refine j_iload_n X dL_law_488 rfl 3 rfl ?_
  refine j_iconst (v := nI 1) X dL_law_489 (by decide) ?_
  refine n_iadd X dL_law_490 ?_
  refine jl_sld X hX hbl hbA (by omega) hL dL_law_491 ?_
  refine jl_cI1 (mc := 0) (ms := 0) X hR (m_X6_release hS (xs (i + 1))) m_L_65 rfl (by decide) (by decide) (Nat.le_of_ble_eq_true rfl) ⟨by omega, by omega⟩ dL_law_492 ?_
  rintro _ ⟨T1, e1⟩ ⟨rfl, hR1⟩
  refine j_aload_n X dL_law_495 rfl 2 rfl ?_
  refine j_aload_n X dL_law_496 rfl 0 rfl ?_
  refine j_iload_n X dL_law_497 rfl 3 rfl ?_
  refine j_iconst (v := nI 1) X dL_law_498 (by decide) ?_
  refine n_iadd X dL_law_499 ?_
  refine jl_sld X hX hbl hbA (by omega) hL dL_law_500 ?_
  refine jl_mI1 X hR (m_X7_release S hS.hB hS.hI (xs (i + 1))) m_L_68 rfl (by decide) (by decide) (Nat.le_of_ble_eq_true rfl) ⟨by omega, by omega⟩ dL_law_501 ?_
  rintro _ _ ⟨rfl, rfl, hB2, hI2⟩
  refine j_icmp_eq (tgt := 1199) X dL_law_504 (by decide) (fun _ => ?_) (fun q => absurd rfl q)
  skip
  exact j_widen (by omega) (by omega) (NX _ _ _ hR1 (Nat.le_succ_of_le (Nat.le_of_eq (m0_relS S (xs (i + 1))))))
set_option maxRecDepth 100000 in
set_option maxHeartbeats 4000000 in
theorem lc_13 (X : CX K cL_law 8 RL D Y) (hR : kR K = room_1) (hX : va_X b L xs (ks K) (ks K).heap) (hbl : b < (ks K).heap.size) (hbA : ¬ kA K b) (hL : L ≤ 2560) (hi : i + 5 ≤ L) (hC : cells + 1 ≤ 600000 ∧ slots + 5 ≤ 7302250) (hS : RR S T e) (hmo : S 21 0 < 1000) (NX : NXT K D Y ad h0 ad' cells slots b i S) : JJ K D cells slots (WC ad Y (T, e) ++ WM h0 ad' Y S) [(0, .ref b), (1, .ref (ad 16)), (2, .ref h0), (3, .int (nI i))] 509 [] := by
  have hC1 := hC.1
  have hC2 := hC.2
  refine j_aload_n X dL_law_509 rfl 1 rfl ?_
  refine jl_cI0 (mc := 1) (ms := 2) X hR (m_X6_addEducator hS) m_L_69 rfl (by decide) (by decide) (Nat.le_of_ble_eq_true rfl) ⟨by omega, by omega⟩ dL_law_510 ?_
  rintro _ ⟨T1, e1⟩ ⟨rfl, hR1⟩
  refine j_aload_n X dL_law_513 rfl 2 rfl ?_
  refine jl_mI0 X hR (m_X7_addEducator S hS.hB hS.hI) m_L_72 rfl (by decide) (by decide) (Nat.le_of_ble_eq_true rfl) ⟨by omega, by omega⟩ dL_law_514 ?_
  rintro _ _ ⟨rfl, rfl, hB2, hI2⟩
  refine j_icmp_eq (tgt := 1199) X dL_law_517 (by decide) (fun _ => ?_) (fun q => absurd rfl q)
  skip
  exact j_widen (by omega) (by omega) (NX _ _ _ hR1 (Nat.le_succ_of_le (Nat.le_of_eq (m0_addES S))))
set_option maxRecDepth 100000 in
set_option maxHeartbeats 4000000 in
theorem lc_14 (X : CX K cL_law 8 RL D Y) (hR : kR K = room_1) (hX : va_X b L xs (ks K) (ks K).heap) (hbl : b < (ks K).heap.size) (hbA : ¬ kA K b) (hL : L ≤ 2560) (hi : i + 5 ≤ L) (hC : cells + 1 ≤ 600000 ∧ slots + 5 ≤ 7302250) (hS : RR S T e) (hmo : S 21 0 < 1000) (NX : NXT K D Y ad h0 ad' cells slots b i S) : JJ K D cells slots (WC ad Y (T, e) ++ WM h0 ad' Y S) [(0, .ref b), (1, .ref (ad 16)), (2, .ref h0), (3, .int (nI i))] 522 [] := by
  have hC1 := hC.1
  have hC2 := hC.2
  refine j_aload_n X dL_law_522 rfl 1 rfl ?_
  refine j_aload_n X dL_law_523 rfl 0 rfl ?_
  refine j_iload_n X dL_law_524 rfl 3 rfl ?_
  refine j_iconst (v := nI 1) X dL_law_525 (by decide) ?_
  refine n_iadd X dL_law_526 ?_
  refine jl_sld X hX hbl hbA (by omega) hL dL_law_527 ?_
  refine jl_cI1 (mc := 0) (ms := 0) X hR (m_X6_removeEducator hS (xs (i + 1))) m_L_73 rfl (by decide) (by decide) (Nat.le_of_ble_eq_true rfl) ⟨by omega, by omega⟩ dL_law_528 ?_
  rintro _ ⟨T1, e1⟩ ⟨rfl, hR1⟩
  refine j_aload_n X dL_law_531 rfl 2 rfl ?_
  refine j_aload_n X dL_law_532 rfl 0 rfl ?_
  refine j_iload_n X dL_law_533 rfl 3 rfl ?_
  refine j_iconst (v := nI 1) X dL_law_534 (by decide) ?_
  refine n_iadd X dL_law_535 ?_
  refine jl_sld X hX hbl hbA (by omega) hL dL_law_536 ?_
  refine jl_mI1 X hR (m_X7_removeEducator S hS.hB hS.hI (xs (i + 1))) m_L_76 rfl (by decide) (by decide) (Nat.le_of_ble_eq_true rfl) ⟨by omega, by omega⟩ dL_law_537 ?_
  rintro _ _ ⟨rfl, rfl, hB2, hI2⟩
  refine j_icmp_eq (tgt := 1199) X dL_law_540 (by decide) (fun _ => ?_) (fun q => absurd rfl q)
  skip
  exact j_widen (by omega) (by omega) (NX _ _ _ hR1 (Nat.le_succ_of_le (Nat.le_of_eq (m0_rmES S (xs (i + 1))))))
set_option maxRecDepth 100000 in
set_option maxHeartbeats 4000000 in
theorem lc_15 (X : CX K cL_law 8 RL D Y) (hR : kR K = room_1) (hX : va_X b L xs (ks K) (ks K).heap) (hbl : b < (ks K).heap.size) (hbA : ¬ kA K b) (hL : L ≤ 2560) (hi : i + 5 ≤ L) (hC : cells + 1 ≤ 600000 ∧ slots + 5 ≤ 7302250) (hS : RR S T e) (hmo : S 21 0 < 1000) (NX : NXT K D Y ad h0 ad' cells slots b i S) : JJ K D cells slots (WC ad Y (T, e) ++ WM h0 ad' Y S) [(0, .ref b), (1, .ref (ad 16)), (2, .ref h0), (3, .int (nI i))] 545 [] := by
  have hC1 := hC.1
  have hC2 := hC.2
  refine j_aload_n X dL_law_545 rfl 1 rfl ?_
  refine jl_cI0 (mc := 0) (ms := 0) X hR (m_X6_educators hS) m_L_77 rfl (by decide) (by decide) (Nat.le_of_ble_eq_true rfl) ⟨by omega, by omega⟩ dL_law_546 ?_
  rintro _ _ ⟨n1, hn1, -, rfl, rfl⟩
  subst hn1
  have hR1 := hS
  refine j_aload_n X dL_law_549 rfl 2 rfl ?_
  refine jl_mI0 X hR (m_X7_educators S hS.hB hS.hI) m_L_80 rfl (by decide) (by decide) (Nat.le_of_ble_eq_true rfl) ⟨by omega, by omega⟩ dL_law_550 ?_
  rintro _ _ ⟨n2, hn2, -, rfl, rfl⟩
  subst hn2
  refine j_icmp_eq (tgt := 1199) X dL_law_553 (by decide) (fun _ => ?_) (fun q => absurd rfl q)
  skip
  exact j_widen (by omega) (by omega) (NX _ _ _ hR1 (Nat.le_succ _))
set_option maxRecDepth 100000 in
set_option maxHeartbeats 4000000 in
theorem lc_16 (X : CX K cL_law 8 RL D Y) (hR : kR K = room_1) (hX : va_X b L xs (ks K) (ks K).heap) (hbl : b < (ks K).heap.size) (hbA : ¬ kA K b) (hL : L ≤ 2560) (hi : i + 5 ≤ L) (hC : cells + 1 ≤ 600000 ∧ slots + 5 ≤ 7302250) (hS : RR S T e) (hmo : S 21 0 < 1000) (NX : NXT K D Y ad h0 ad' cells slots b i S) : JJ K D cells slots (WC ad Y (T, e) ++ WM h0 ad' Y S) [(0, .ref b), (1, .ref (ad 16)), (2, .ref h0), (3, .int (nI i))] 558 [] := by
  have hC1 := hC.1
  have hC2 := hC.2
  refine j_aload_n X dL_law_558 rfl 1 rfl ?_
  refine j_aload_n X dL_law_559 rfl 0 rfl ?_
  refine j_iload_n X dL_law_560 rfl 3 rfl ?_
  refine j_iconst (v := nI 1) X dL_law_561 (by decide) ?_
  refine n_iadd X dL_law_562 ?_
  refine jl_sld X hX hbl hbA (by omega) hL dL_law_563 ?_
  refine j_aload_n X dL_law_564 rfl 0 rfl ?_
  refine j_iload_n X dL_law_565 rfl 3 rfl ?_
  refine j_iconst (v := nI 2) X dL_law_566 (by decide) ?_
  refine n_iadd X dL_law_567 ?_
  refine jl_sld X hX hbl hbA (by omega) hL dL_law_568 ?_
  refine j_aload_n X dL_law_569 rfl 0 rfl ?_
  refine j_iload_n X dL_law_570 rfl 3 rfl ?_
  refine j_iconst (v := nI 3) X dL_law_571 (by decide) ?_
  refine n_iadd X dL_law_572 ?_
  refine jl_sld X hX hbl hbA (by omega) hL dL_law_573 ?_
  refine j_aload_n X dL_law_574 rfl 0 rfl ?_
  refine j_iload_n X dL_law_575 rfl 3 rfl ?_
  refine j_iconst (v := nI 4) X dL_law_576 (by decide) ?_
  refine n_iadd X dL_law_577 ?_
  refine jl_sld X hX hbl hbA (by omega) hL dL_law_578 ?_
  refine jl_cI4 (mc := 0) (ms := 0) X hR (m_X6_work hS (xs (i + 1)) (xs (i + 2)) (xs (i + 3)) (xs (i + 4))) m_L_81 rfl (by decide) (by decide) (Nat.le_of_ble_eq_true rfl) ⟨by omega, by omega⟩ dL_law_579 ?_
  rintro _ ⟨T1, e1⟩ ⟨rfl, hR1⟩
  refine j_aload_n X dL_law_582 rfl 2 rfl ?_
  refine j_aload_n X dL_law_583 rfl 0 rfl ?_
  refine j_iload_n X dL_law_584 rfl 3 rfl ?_
  refine j_iconst (v := nI 1) X dL_law_585 (by decide) ?_
  refine n_iadd X dL_law_586 ?_
  refine jl_sld X hX hbl hbA (by omega) hL dL_law_587 ?_
  refine j_aload_n X dL_law_588 rfl 0 rfl ?_
  refine j_iload_n X dL_law_589 rfl 3 rfl ?_
  refine j_iconst (v := nI 2) X dL_law_590 (by decide) ?_
  refine n_iadd X dL_law_591 ?_
  refine jl_sld X hX hbl hbA (by omega) hL dL_law_592 ?_
  refine j_aload_n X dL_law_593 rfl 0 rfl ?_
  refine j_iload_n X dL_law_594 rfl 3 rfl ?_
  refine j_iconst (v := nI 3) X dL_law_595 (by decide) ?_
  refine n_iadd X dL_law_596 ?_
  refine jl_sld X hX hbl hbA (by omega) hL dL_law_597 ?_
  refine j_aload_n X dL_law_598 rfl 0 rfl ?_
  refine j_iload_n X dL_law_599 rfl 3 rfl ?_
  refine j_iconst (v := nI 4) X dL_law_600 (by decide) ?_
  refine n_iadd X dL_law_601 ?_
  refine jl_sld X hX hbl hbA (by omega) hL dL_law_602 ?_
  refine jl_mI4 X hR (m_X7_work S hS.hB hS.hI (xs (i + 1)) (xs (i + 2)) (xs (i + 3)) (xs (i + 4))) m_L_84 rfl (by decide) (by decide) (Nat.le_of_ble_eq_true rfl) ⟨by omega, by omega⟩ dL_law_603 ?_
  rintro _ _ ⟨rfl, rfl, hB2, hI2⟩
  refine j_icmp_eq (tgt := 1199) X dL_law_606 (by decide) (fun _ => ?_) (fun q => absurd rfl q)
  skip
  exact j_widen (by omega) (by omega) (NX _ _ _ hR1 (Nat.le_succ_of_le (Nat.le_of_eq (m0_workS S (xs (i + 1)) (xs (i + 2)) (xs (i + 3)) (xs (i + 4))))))
set_option maxRecDepth 100000 in
set_option maxHeartbeats 4000000 in
theorem lc_17 (X : CX K cL_law 8 RL D Y) (hR : kR K = room_1) (hX : va_X b L xs (ks K) (ks K).heap) (hbl : b < (ks K).heap.size) (hbA : ¬ kA K b) (hL : L ≤ 2560) (hi : i + 5 ≤ L) (hC : cells + 1 ≤ 600000 ∧ slots + 5 ≤ 7302250) (hS : RR S T e) (hmo : S 21 0 < 1000) (NX : NXT K D Y ad h0 ad' cells slots b i S) : JJ K D cells slots (WC ad Y (T, e) ++ WM h0 ad' Y S) [(0, .ref b), (1, .ref (ad 16)), (2, .ref h0), (3, .int (nI i))] 611 [] := by
  have hC1 := hC.1
  have hC2 := hC.2
  refine j_aload_n X dL_law_611 rfl 1 rfl ?_
  refine j_aload_n X dL_law_612 rfl 0 rfl ?_
  refine j_iload_n X dL_law_613 rfl 3 rfl ?_
  refine j_iconst (v := nI 1) X dL_law_614 (by decide) ?_
  refine n_iadd X dL_law_615 ?_
  refine jl_sld X hX hbl hbA (by omega) hL dL_law_616 ?_
  refine j_aload_n X dL_law_617 rfl 0 rfl ?_
  refine j_iload_n X dL_law_618 rfl 3 rfl ?_
  refine j_iconst (v := nI 2) X dL_law_619 (by decide) ?_
  refine n_iadd X dL_law_620 ?_
  refine jl_sld X hX hbl hbA (by omega) hL dL_law_621 ?_
  refine j_aload_n X dL_law_622 rfl 0 rfl ?_
  refine j_iload_n X dL_law_623 rfl 3 rfl ?_
  refine j_iconst (v := nI 3) X dL_law_624 (by decide) ?_
  refine n_iadd X dL_law_625 ?_
  refine jl_sld X hX hbl hbA (by omega) hL dL_law_626 ?_
  refine j_if_eq (tgt := 634) X dL_law_627 (by decide) (fun c_627 => ?_) (fun c_627 => ?_)
  · refine j_iconst (v := bI false) X dL_law_634 (by decide) ?_
    refine jl_cI3 (mc := 0) (ms := 0) X hR (m_X6_setHoliday hS (xs (i + 1)) (xs (i + 2)) false) m_L_85 rfl (by decide) (by decide) (Nat.le_of_ble_eq_true rfl) ⟨by omega, by omega⟩ dL_law_635 ?_
    rintro _ ⟨T1, e1⟩ ⟨rfl, hR1⟩
    refine j_aload_n X dL_law_638 rfl 2 rfl ?_
    refine j_aload_n X dL_law_639 rfl 0 rfl ?_
    refine j_iload_n X dL_law_640 rfl 3 rfl ?_
    refine j_iconst (v := nI 1) X dL_law_641 (by decide) ?_
    refine n_iadd X dL_law_642 ?_
    refine jl_sld X hX hbl hbA (by omega) hL dL_law_643 ?_
    refine j_aload_n X dL_law_644 rfl 0 rfl ?_
    refine j_iload_n X dL_law_645 rfl 3 rfl ?_
    refine j_iconst (v := nI 2) X dL_law_646 (by decide) ?_
    refine n_iadd X dL_law_647 ?_
    refine jl_sld X hX hbl hbA (by omega) hL dL_law_648 ?_
    refine j_aload_n X dL_law_649 rfl 0 rfl ?_
    refine j_iload_n X dL_law_650 rfl 3 rfl ?_
    refine j_iconst (v := nI 3) X dL_law_651 (by decide) ?_
    refine n_iadd X dL_law_652 ?_
    refine jl_sld X hX hbl hbA (by omega) hL dL_law_653 ?_
    refine j_if_eq (tgt := 661) X dL_law_654 (by decide) (fun c_654 => ?_) (fun c_654 => ?_)
    · refine j_iconst (v := bI false) X dL_law_661 (by decide) ?_
      refine jl_mI3 X hR (m_X7_setHoliday S hS.hB hS.hI (xs (i + 1)) (xs (i + 2)) false) m_L_89 rfl (by decide) (by decide) (Nat.le_of_ble_eq_true rfl) ⟨by omega, by omega⟩ dL_law_662 ?_
      rintro _ _ ⟨rfl, rfl, hB2, hI2⟩
      refine j_icmp_eq (tgt := 1199) X dL_law_665 (by decide) (fun _ => ?_) (fun q => absurd rfl q)
      skip
      exact j_widen (by omega) (by omega) (NX _ _ _ hR1 (Nat.le_succ_of_le (Nat.le_of_eq (m0_holS S (xs (i + 1)) (xs (i + 2)) false))))
    · exact absurd c_627 c_654
  · refine j_iconst (v := bI true) X dL_law_630 (by decide) ?_
    refine j_goto (tgt := 635) X dL_law_631 (by decide) ?_
    refine jl_cI3 (mc := 0) (ms := 0) X hR (m_X6_setHoliday hS (xs (i + 1)) (xs (i + 2)) true) m_L_85 rfl (by decide) (by decide) (Nat.le_of_ble_eq_true rfl) ⟨by omega, by omega⟩ dL_law_635 ?_
    rintro _ ⟨T1, e1⟩ ⟨rfl, hR1⟩
    refine j_aload_n X dL_law_638 rfl 2 rfl ?_
    refine j_aload_n X dL_law_639 rfl 0 rfl ?_
    refine j_iload_n X dL_law_640 rfl 3 rfl ?_
    refine j_iconst (v := nI 1) X dL_law_641 (by decide) ?_
    refine n_iadd X dL_law_642 ?_
    refine jl_sld X hX hbl hbA (by omega) hL dL_law_643 ?_
    refine j_aload_n X dL_law_644 rfl 0 rfl ?_
    refine j_iload_n X dL_law_645 rfl 3 rfl ?_
    refine j_iconst (v := nI 2) X dL_law_646 (by decide) ?_
    refine n_iadd X dL_law_647 ?_
    refine jl_sld X hX hbl hbA (by omega) hL dL_law_648 ?_
    refine j_aload_n X dL_law_649 rfl 0 rfl ?_
    refine j_iload_n X dL_law_650 rfl 3 rfl ?_
    refine j_iconst (v := nI 3) X dL_law_651 (by decide) ?_
    refine n_iadd X dL_law_652 ?_
    refine jl_sld X hX hbl hbA (by omega) hL dL_law_653 ?_
    refine j_if_eq (tgt := 661) X dL_law_654 (by decide) (fun c_654 => ?_) (fun c_654 => ?_)
    · exact absurd c_654 c_627
    · refine j_iconst (v := bI true) X dL_law_657 (by decide) ?_
      refine j_goto (tgt := 662) X dL_law_658 (by decide) ?_
      refine jl_mI3 X hR (m_X7_setHoliday S hS.hB hS.hI (xs (i + 1)) (xs (i + 2)) true) m_L_89 rfl (by decide) (by decide) (Nat.le_of_ble_eq_true rfl) ⟨by omega, by omega⟩ dL_law_662 ?_
      rintro _ _ ⟨rfl, rfl, hB2, hI2⟩
      refine j_icmp_eq (tgt := 1199) X dL_law_665 (by decide) (fun _ => ?_) (fun q => absurd rfl q)
      skip
      exact j_widen (by omega) (by omega) (NX _ _ _ hR1 (Nat.le_succ_of_le (Nat.le_of_eq (m0_holS S (xs (i + 1)) (xs (i + 2)) true))))
set_option maxRecDepth 100000 in
set_option maxHeartbeats 4000000 in
theorem lc_18 (X : CX K cL_law 8 RL D Y) (hR : kR K = room_1) (hX : va_X b L xs (ks K) (ks K).heap) (hbl : b < (ks K).heap.size) (hbA : ¬ kA K b) (hL : L ≤ 2560) (hi : i + 5 ≤ L) (hC : cells + 1 ≤ 600000 ∧ slots + 5 ≤ 7302250) (hS : RR S T e) (hmo : S 21 0 < 1000) (NX : NXT K D Y ad h0 ad' cells slots b i S) : JJ K D cells slots (WC ad Y (T, e) ++ WM h0 ad' Y S) [(0, .ref b), (1, .ref (ad 16)), (2, .ref h0), (3, .int (nI i))] 670 [] := by
  have hC1 := hC.1
  have hC2 := hC.2
  refine j_aload_n X dL_law_670 rfl 1 rfl ?_
  refine j_aload_n X dL_law_671 rfl 0 rfl ?_
  refine j_iload_n X dL_law_672 rfl 3 rfl ?_
  refine j_iconst (v := nI 1) X dL_law_673 (by decide) ?_
  refine n_iadd X dL_law_674 ?_
  refine jl_sld X hX hbl hbA (by omega) hL dL_law_675 ?_
  refine j_aload_n X dL_law_676 rfl 0 rfl ?_
  refine j_iload_n X dL_law_677 rfl 3 rfl ?_
  refine j_iconst (v := nI 2) X dL_law_678 (by decide) ?_
  refine n_iadd X dL_law_679 ?_
  refine jl_sld X hX hbl hbA (by omega) hL dL_law_680 ?_
  refine jl_cI2 (mc := 0) (ms := 0) X hR (m_X6_setRatio hS (xs (i + 1)) (xs (i + 2))) m_L_90 rfl (by decide) (by decide) (Nat.le_of_ble_eq_true rfl) ⟨by omega, by omega⟩ dL_law_681 ?_
  rintro _ ⟨T1, e1⟩ ⟨rfl, hR1⟩
  refine j_aload_n X dL_law_684 rfl 2 rfl ?_
  refine j_aload_n X dL_law_685 rfl 0 rfl ?_
  refine j_iload_n X dL_law_686 rfl 3 rfl ?_
  refine j_iconst (v := nI 1) X dL_law_687 (by decide) ?_
  refine n_iadd X dL_law_688 ?_
  refine jl_sld X hX hbl hbA (by omega) hL dL_law_689 ?_
  refine j_aload_n X dL_law_690 rfl 0 rfl ?_
  refine j_iload_n X dL_law_691 rfl 3 rfl ?_
  refine j_iconst (v := nI 2) X dL_law_692 (by decide) ?_
  refine n_iadd X dL_law_693 ?_
  refine jl_sld X hX hbl hbA (by omega) hL dL_law_694 ?_
  refine jl_mI2 X hR (m_X7_setRatio S hS.hB hS.hI (xs (i + 1)) (xs (i + 2))) m_L_93 rfl (by decide) (by decide) (Nat.le_of_ble_eq_true rfl) ⟨by omega, by omega⟩ dL_law_695 ?_
  rintro _ _ ⟨rfl, rfl, hB2, hI2⟩
  refine j_icmp_eq (tgt := 1199) X dL_law_698 (by decide) (fun _ => ?_) (fun q => absurd rfl q)
  skip
  exact j_widen (by omega) (by omega) (NX _ _ _ hR1 (Nat.le_succ_of_le (Nat.le_of_eq (m0_ratS S (xs (i + 1)) (xs (i + 2))))))
set_option maxRecDepth 100000 in
set_option maxHeartbeats 4000000 in
theorem lc_19 (X : CX K cL_law 8 RL D Y) (hR : kR K = room_1) (hX : va_X b L xs (ks K) (ks K).heap) (hbl : b < (ks K).heap.size) (hbA : ¬ kA K b) (hL : L ≤ 2560) (hi : i + 5 ≤ L) (hC : cells + 1 ≤ 600000 ∧ slots + 5 ≤ 7302250) (hS : RR S T e) (hmo : S 21 0 < 1000) (NX : NXT K D Y ad h0 ad' cells slots b i S) : JJ K D cells slots (WC ad Y (T, e) ++ WM h0 ad' Y S) [(0, .ref b), (1, .ref (ad 16)), (2, .ref h0), (3, .int (nI i))] 703 [] := by
  have hC1 := hC.1
  have hC2 := hC.2
  refine j_aload_n X dL_law_703 rfl 1 rfl ?_
  refine j_aload_n X dL_law_704 rfl 0 rfl ?_
  refine j_iload_n X dL_law_705 rfl 3 rfl ?_
  refine j_iconst (v := nI 1) X dL_law_706 (by decide) ?_
  refine n_iadd X dL_law_707 ?_
  refine jl_sld X hX hbl hbA (by omega) hL dL_law_708 ?_
  refine jl_cI1 (mc := 0) (ms := 0) X hR (m_X6_setRoomLimit hS (xs (i + 1))) m_L_94 rfl (by decide) (by decide) (Nat.le_of_ble_eq_true rfl) ⟨by omega, by omega⟩ dL_law_709 ?_
  rintro _ ⟨T1, e1⟩ ⟨rfl, hR1⟩
  refine j_aload_n X dL_law_712 rfl 2 rfl ?_
  refine j_aload_n X dL_law_713 rfl 0 rfl ?_
  refine j_iload_n X dL_law_714 rfl 3 rfl ?_
  refine j_iconst (v := nI 1) X dL_law_715 (by decide) ?_
  refine n_iadd X dL_law_716 ?_
  refine jl_sld X hX hbl hbA (by omega) hL dL_law_717 ?_
  refine jl_mI1 X hR (m_X7_setRoomLimit S hS.hB hS.hI (xs (i + 1))) m_L_97 rfl (by decide) (by decide) (Nat.le_of_ble_eq_true rfl) ⟨by omega, by omega⟩ dL_law_718 ?_
  rintro _ _ ⟨rfl, rfl, hB2, hI2⟩
  refine j_icmp_eq (tgt := 1199) X dL_law_721 (by decide) (fun _ => ?_) (fun q => absurd rfl q)
  skip
  exact j_widen (by omega) (by omega) (NX _ _ _ hR1 (Nat.le_succ_of_le (Nat.le_of_eq (m0_limS S (xs (i + 1))))))
set_option maxRecDepth 100000 in
set_option maxHeartbeats 4000000 in
theorem lc_20 (X : CX K cL_law 8 RL D Y) (hR : kR K = room_1) (hX : va_X b L xs (ks K) (ks K).heap) (hbl : b < (ks K).heap.size) (hbA : ¬ kA K b) (hL : L ≤ 2560) (hi : i + 5 ≤ L) (hC : cells + 1 ≤ 600000 ∧ slots + 5 ≤ 7302250) (hS : RR S T e) (hmo : S 21 0 < 1000) (NX : NXT K D Y ad h0 ad' cells slots b i S) : JJ K D cells slots (WC ad Y (T, e) ++ WM h0 ad' Y S) [(0, .ref b), (1, .ref (ad 16)), (2, .ref h0), (3, .int (nI i))] 726 [] := by
  have hC1 := hC.1
  have hC2 := hC.2
  refine j_aload_n X dL_law_726 rfl 1 rfl ?_
  refine j_aload_n X dL_law_727 rfl 0 rfl ?_
  refine j_iload_n X dL_law_728 rfl 3 rfl ?_
  refine j_iconst (v := nI 1) X dL_law_729 (by decide) ?_
  refine n_iadd X dL_law_730 ?_
  refine jl_sld X hX hbl hbA (by omega) hL dL_law_731 ?_
  refine j_aload_n X dL_law_732 rfl 0 rfl ?_
  refine j_iload_n X dL_law_733 rfl 3 rfl ?_
  refine j_iconst (v := nI 2) X dL_law_734 (by decide) ?_
  refine n_iadd X dL_law_735 ?_
  refine jl_sld X hX hbl hbA (by omega) hL dL_law_736 ?_
  refine jl_cI2 (mc := 0) (ms := 0) X hR (m_X6_present hS (xs (i + 1)) (xs (i + 2))) m_L_98 rfl (by decide) (by decide) (Nat.le_of_ble_eq_true rfl) ⟨by omega, by omega⟩ dL_law_737 ?_
  rintro _ _ ⟨T1, rfl, rfl, hsm⟩
  have hR1 := hS.sm hsm (by decide)
  refine j_aload_n X dL_law_740 rfl 2 rfl ?_
  refine j_aload_n X dL_law_741 rfl 0 rfl ?_
  refine j_iload_n X dL_law_742 rfl 3 rfl ?_
  refine j_iconst (v := nI 1) X dL_law_743 (by decide) ?_
  refine n_iadd X dL_law_744 ?_
  refine jl_sld X hX hbl hbA (by omega) hL dL_law_745 ?_
  refine j_aload_n X dL_law_746 rfl 0 rfl ?_
  refine j_iload_n X dL_law_747 rfl 3 rfl ?_
  refine j_iconst (v := nI 2) X dL_law_748 (by decide) ?_
  refine n_iadd X dL_law_749 ?_
  refine jl_sld X hX hbl hbA (by omega) hL dL_law_750 ?_
  refine jl_mI2 X hR (m_X7_present S hS.hB hS.hI (xs (i + 1)) (xs (i + 2))) m_L_101 rfl (by decide) (by decide) (Nat.le_of_ble_eq_true rfl) ⟨by omega, by omega⟩ dL_law_751 ?_
  rintro _ _ ⟨rfl, rfl⟩
  refine j_icmp_eq (tgt := 1199) X dL_law_754 (by decide) (fun _ => ?_) (fun q => absurd rfl q)
  skip
  exact j_widen (by omega) (by omega) (NX _ _ _ hR1 (Nat.le_succ _))
set_option maxRecDepth 100000 in
set_option maxHeartbeats 4000000 in
theorem lc_21 (X : CX K cL_law 8 RL D Y) (hR : kR K = room_1) (hX : va_X b L xs (ks K) (ks K).heap) (hbl : b < (ks K).heap.size) (hbA : ¬ kA K b) (hL : L ≤ 2560) (hi : i + 5 ≤ L) (hC : cells + 1 ≤ 600000 ∧ slots + 5 ≤ 7302250) (hS : RR S T e) (hmo : S 21 0 < 1000) (NX : NXT K D Y ad h0 ad' cells slots b i S) : JJ K D cells slots (WC ad Y (T, e) ++ WM h0 ad' Y S) [(0, .ref b), (1, .ref (ad 16)), (2, .ref h0), (3, .int (nI i))] 759 [] := by
  have hC1 := hC.1
  have hC2 := hC.2
  refine j_aload_n X dL_law_759 rfl 1 rfl ?_
  refine j_aload_n X dL_law_760 rfl 0 rfl ?_
  refine j_iload_n X dL_law_761 rfl 3 rfl ?_
  refine j_iconst (v := nI 1) X dL_law_762 (by decide) ?_
  refine n_iadd X dL_law_763 ?_
  refine jl_sld X hX hbl hbA (by omega) hL dL_law_764 ?_
  refine j_aload_n X dL_law_765 rfl 0 rfl ?_
  refine j_iload_n X dL_law_766 rfl 3 rfl ?_
  refine j_iconst (v := nI 2) X dL_law_767 (by decide) ?_
  refine n_iadd X dL_law_768 ?_
  refine jl_sld X hX hbl hbA (by omega) hL dL_law_769 ?_
  refine jl_cI2 (mc := 0) (ms := 0) X hR (m_X6_need hS (xs (i + 1)) (xs (i + 2))) m_L_102 rfl (by decide) (by decide) (Nat.le_of_ble_eq_true rfl) ⟨by omega, by omega⟩ dL_law_770 ?_
  rintro _ _ ⟨T1, rfl, rfl, hsm⟩
  have hR1 := hS.sm hsm (by decide)
  refine j_aload_n X dL_law_773 rfl 2 rfl ?_
  refine j_aload_n X dL_law_774 rfl 0 rfl ?_
  refine j_iload_n X dL_law_775 rfl 3 rfl ?_
  refine j_iconst (v := nI 1) X dL_law_776 (by decide) ?_
  refine n_iadd X dL_law_777 ?_
  refine jl_sld X hX hbl hbA (by omega) hL dL_law_778 ?_
  refine j_aload_n X dL_law_779 rfl 0 rfl ?_
  refine j_iload_n X dL_law_780 rfl 3 rfl ?_
  refine j_iconst (v := nI 2) X dL_law_781 (by decide) ?_
  refine n_iadd X dL_law_782 ?_
  refine jl_sld X hX hbl hbA (by omega) hL dL_law_783 ?_
  refine jl_mI2 X hR (m_X7_need S hS.hB hS.hI (xs (i + 1)) (xs (i + 2))) m_L_105 rfl (by decide) (by decide) (Nat.le_of_ble_eq_true rfl) ⟨by omega, by omega⟩ dL_law_784 ?_
  rintro _ _ ⟨rfl, rfl⟩
  refine j_icmp_eq (tgt := 1199) X dL_law_787 (by decide) (fun _ => ?_) (fun q => absurd rfl q)
  skip
  exact j_widen (by omega) (by omega) (NX _ _ _ hR1 (Nat.le_succ _))
set_option maxRecDepth 100000 in
set_option maxHeartbeats 4000000 in
theorem lc_22 (X : CX K cL_law 8 RL D Y) (hR : kR K = room_1) (hX : va_X b L xs (ks K) (ks K).heap) (hbl : b < (ks K).heap.size) (hbA : ¬ kA K b) (hL : L ≤ 2560) (hi : i + 5 ≤ L) (hC : cells + 1 ≤ 600000 ∧ slots + 5 ≤ 7302250) (hS : RR S T e) (hmo : S 21 0 < 1000) (NX : NXT K D Y ad h0 ad' cells slots b i S) : JJ K D cells slots (WC ad Y (T, e) ++ WM h0 ad' Y S) [(0, .ref b), (1, .ref (ad 16)), (2, .ref h0), (3, .int (nI i))] 792 [] := by
  have hC1 := hC.1
  have hC2 := hC.2
  refine j_aload_n X dL_law_792 rfl 1 rfl ?_
  refine j_aload_n X dL_law_793 rfl 0 rfl ?_
  refine j_iload_n X dL_law_794 rfl 3 rfl ?_
  refine j_iconst (v := nI 1) X dL_law_795 (by decide) ?_
  refine n_iadd X dL_law_796 ?_
  refine jl_sld X hX hbl hbA (by omega) hL dL_law_797 ?_
  refine j_aload_n X dL_law_798 rfl 0 rfl ?_
  refine j_iload_n X dL_law_799 rfl 3 rfl ?_
  refine j_iconst (v := nI 2) X dL_law_800 (by decide) ?_
  refine n_iadd X dL_law_801 ?_
  refine jl_sld X hX hbl hbA (by omega) hL dL_law_802 ?_
  refine jl_cI2 (mc := 0) (ms := 0) X hR (m_X6_staff hS (xs (i + 1)) (xs (i + 2))) m_L_106 rfl (by decide) (by decide) (Nat.le_of_ble_eq_true rfl) ⟨by omega, by omega⟩ dL_law_803 ?_
  rintro _ _ ⟨rfl, rfl⟩
  have hR1 := hS
  refine j_aload_n X dL_law_806 rfl 2 rfl ?_
  refine j_aload_n X dL_law_807 rfl 0 rfl ?_
  refine j_iload_n X dL_law_808 rfl 3 rfl ?_
  refine j_iconst (v := nI 1) X dL_law_809 (by decide) ?_
  refine n_iadd X dL_law_810 ?_
  refine jl_sld X hX hbl hbA (by omega) hL dL_law_811 ?_
  refine j_aload_n X dL_law_812 rfl 0 rfl ?_
  refine j_iload_n X dL_law_813 rfl 3 rfl ?_
  refine j_iconst (v := nI 2) X dL_law_814 (by decide) ?_
  refine n_iadd X dL_law_815 ?_
  refine jl_sld X hX hbl hbA (by omega) hL dL_law_816 ?_
  refine jl_mI2 X hR (m_X7_staff S hS.hB hS.hI (xs (i + 1)) (xs (i + 2))) m_L_109 rfl (by decide) (by decide) (Nat.le_of_ble_eq_true rfl) ⟨by omega, by omega⟩ dL_law_817 ?_
  rintro _ _ ⟨rfl, rfl⟩
  refine j_icmp_eq (tgt := 1199) X dL_law_820 (by decide) (fun _ => ?_) (fun q => absurd rfl q)
  skip
  exact j_widen (by omega) (by omega) (NX _ _ _ hR1 (Nat.le_succ _))
set_option maxRecDepth 100000 in
set_option maxHeartbeats 4000000 in
theorem lc_23 (X : CX K cL_law 8 RL D Y) (hR : kR K = room_1) (hX : va_X b L xs (ks K) (ks K).heap) (hbl : b < (ks K).heap.size) (hbA : ¬ kA K b) (hL : L ≤ 2560) (hi : i + 5 ≤ L) (hC : cells + 1 ≤ 600000 ∧ slots + 5 ≤ 7302250) (hS : RR S T e) (hmo : S 21 0 < 1000) (NX : NXT K D Y ad h0 ad' cells slots b i S) : JJ K D cells slots (WC ad Y (T, e) ++ WM h0 ad' Y S) [(0, .ref b), (1, .ref (ad 16)), (2, .ref h0), (3, .int (nI i))] 825 [] := by
  have hC1 := hC.1
  have hC2 := hC.2
  refine j_aload_n X dL_law_825 rfl 1 rfl ?_
  refine jl_cI0 (mc := 0) (ms := 0) X hR (m_X6_unsafeHours hS) m_L_110 rfl (by decide) (by decide) (Nat.le_of_ble_eq_true rfl) ⟨by omega, by omega⟩ dL_law_826 ?_
  rintro _ _ ⟨n1, T1, hn1, -, rfl, rfl, hsm⟩
  subst hn1
  have hR1 := hS.sm hsm (by decide)
  refine j_aload_n X dL_law_829 rfl 2 rfl ?_
  refine jl_mI0 X hR (m_X7_unsafeHours S hS.hB hS.hI) m_L_113 rfl (by decide) (by decide) (Nat.le_of_ble_eq_true rfl) ⟨by omega, by omega⟩ dL_law_830 ?_
  rintro _ _ ⟨n2, hn2, -, rfl, rfl⟩
  subst hn2
  refine j_icmp_eq (tgt := 1199) X dL_law_833 (by decide) (fun _ => ?_) (fun q => absurd rfl q)
  skip
  exact j_widen (by omega) (by omega) (NX _ _ _ hR1 (Nat.le_succ _))
set_option maxRecDepth 100000 in
set_option maxHeartbeats 4000000 in
theorem lc_24 (X : CX K cL_law 8 RL D Y) (hR : kR K = room_1) (hX : va_X b L xs (ks K) (ks K).heap) (hbl : b < (ks K).heap.size) (hbA : ¬ kA K b) (hL : L ≤ 2560) (hi : i + 5 ≤ L) (hC : cells + 1 ≤ 600000 ∧ slots + 5 ≤ 7302250) (hS : RR S T e) (hmo : S 21 0 < 1000) (NX : NXT K D Y ad h0 ad' cells slots b i S) : JJ K D cells slots (WC ad Y (T, e) ++ WM h0 ad' Y S) [(0, .ref b), (1, .ref (ad 16)), (2, .ref h0), (3, .int (nI i))] 838 [] := by
  have hC1 := hC.1
  have hC2 := hC.2
  refine j_aload_n X dL_law_838 rfl 1 rfl ?_
  refine j_aload_n X dL_law_839 rfl 0 rfl ?_
  refine j_iload_n X dL_law_840 rfl 3 rfl ?_
  refine j_iconst (v := nI 1) X dL_law_841 (by decide) ?_
  refine n_iadd X dL_law_842 ?_
  refine jl_sld X hX hbl hbA (by omega) hL dL_law_843 ?_
  refine jl_cD1 (mc := 0) (ms := 0) X hR (m_X6_load hS (xs (i + 1))) m_L_114 rfl (by decide) (by decide) (Nat.le_of_ble_eq_true rfl) ⟨by omega, by omega⟩ dL_law_844 ?_
  rintro _ _ ⟨T1, rfl, rfl, hsm⟩
  have hR1 := hS.sm hsm (by decide)
  refine j_dstore X ([(4, _), (0, _), (1, _), (2, _), (3, _)]) dL_law_847 (by decide) rfl ?_
  refine j_aload_n X dL_law_849 rfl 3 rfl ?_
  refine j_aload_n X dL_law_850 rfl 1 rfl ?_
  refine j_iload_n X dL_law_851 rfl 4 rfl ?_
  refine j_iconst (v := nI 1) X dL_law_852 (by decide) ?_
  refine n_iadd X dL_law_853 ?_
  refine jl_sld X hX hbl hbA (by omega) hL dL_law_854 ?_
  refine jl_mD1 X hR (m_X7_load S hS.hB hS.hI (xs (i + 1))) m_L_118 rfl (by decide) (by decide) (Nat.le_of_ble_eq_true rfl) ⟨by omega, by omega⟩ dL_law_855 ?_
  rintro _ _ ⟨rfl, rfl⟩
  refine j_dstore X ([(6, _), (4, _), (0, _), (1, _), (2, _), (3, _)]) dL_law_858 (by decide) rfl ?_
  refine j_dload X dL_law_860 1 rfl ?_
  refine j_dload X dL_law_862 0 rfl ?_
  refine j_dcmp X dL_law_864 ?_
  refine j_if_eq (tgt := 886) X dL_law_865 (by decide) (fun c_865 => ?_) (fun c_865 => ?_)
  · refine j_goto (tgt := 1199) X dL_law_886 (by decide) ?_
    refine j_sub [2, 3, 4, 5] rfl ?_
    exact j_widen (by omega) (by omega) (NX _ _ _ hR1 (Nat.le_succ _))
  · refine j_dload X dL_law_868 1 rfl ?_
    refine j_dload X dL_law_870 1 rfl ?_
    refine j_dcmp X dL_law_872 ?_
    refine j_if_eq (tgt := 884) X dL_law_873 (by decide) (fun c_873 => ?_) (fun c_873 => ?_)
    · exact absurd c_873 c_865
    · refine j_dload X dL_law_876 0 rfl ?_
      refine j_dload X dL_law_878 0 rfl ?_
      refine j_dcmp X dL_law_880 ?_
      refine j_if_ne (tgt := 886) X dL_law_881 (by decide) (fun c_881 => ?_) (fun c_881 => ?_)
      · refine j_goto (tgt := 1199) X dL_law_886 (by decide) ?_
        refine j_sub [2, 3, 4, 5] rfl ?_
        exact j_widen (by omega) (by omega) (NX _ _ _ hR1 (Nat.le_succ _))
      · exact absurd c_881 c_865
set_option maxRecDepth 100000 in
set_option maxHeartbeats 4000000 in
theorem lc_25 (X : CX K cL_law 8 RL D Y) (hR : kR K = room_1) (hX : va_X b L xs (ks K) (ks K).heap) (hbl : b < (ks K).heap.size) (hbA : ¬ kA K b) (hL : L ≤ 2560) (hi : i + 5 ≤ L) (hC : cells + 1 ≤ 600000 ∧ slots + 5 ≤ 7302250) (hS : RR S T e) (hmo : S 21 0 < 1000) (NX : NXT K D Y ad h0 ad' cells slots b i S) : JJ K D cells slots (WC ad Y (T, e) ++ WM h0 ad' Y S) [(0, .ref b), (1, .ref (ad 16)), (2, .ref h0), (3, .int (nI i))] 889 [] := by
  have hC1 := hC.1
  have hC2 := hC.2
  refine j_aload_n X dL_law_889 rfl 1 rfl ?_
  refine j_aload_n X dL_law_890 rfl 0 rfl ?_
  refine j_iload_n X dL_law_891 rfl 3 rfl ?_
  refine j_iconst (v := nI 1) X dL_law_892 (by decide) ?_
  refine n_iadd X dL_law_893 ?_
  refine jl_sld X hX hbl hbA (by omega) hL dL_law_894 ?_
  refine j_aload_n X dL_law_895 rfl 0 rfl ?_
  refine j_iload_n X dL_law_896 rfl 3 rfl ?_
  refine j_iconst (v := nI 2) X dL_law_897 (by decide) ?_
  refine n_iadd X dL_law_898 ?_
  refine jl_sld X hX hbl hbA (by omega) hL dL_law_899 ?_
  refine jl_cI2 (mc := 0) (ms := 0) X hR (m_X6_setRate hS (xs (i + 1)) (xs (i + 2))) m_L_119 rfl (by decide) (by decide) (Nat.le_of_ble_eq_true rfl) ⟨by omega, by omega⟩ dL_law_900 ?_
  rintro _ ⟨T1, e1⟩ ⟨rfl, hR1⟩
  refine j_aload_n X dL_law_903 rfl 2 rfl ?_
  refine j_aload_n X dL_law_904 rfl 0 rfl ?_
  refine j_iload_n X dL_law_905 rfl 3 rfl ?_
  refine j_iconst (v := nI 1) X dL_law_906 (by decide) ?_
  refine n_iadd X dL_law_907 ?_
  refine jl_sld X hX hbl hbA (by omega) hL dL_law_908 ?_
  refine j_aload_n X dL_law_909 rfl 0 rfl ?_
  refine j_iload_n X dL_law_910 rfl 3 rfl ?_
  refine j_iconst (v := nI 2) X dL_law_911 (by decide) ?_
  refine n_iadd X dL_law_912 ?_
  refine jl_sld X hX hbl hbA (by omega) hL dL_law_913 ?_
  refine jl_mI2 X hR (m_X7_setRate S hS.hB hS.hI (xs (i + 1)) (xs (i + 2))) m_L_122 rfl (by decide) (by decide) (Nat.le_of_ble_eq_true rfl) ⟨by omega, by omega⟩ dL_law_914 ?_
  rintro _ _ ⟨rfl, rfl, hB2, hI2⟩
  refine j_icmp_eq (tgt := 1199) X dL_law_917 (by decide) (fun _ => ?_) (fun q => absurd rfl q)
  skip
  exact j_widen (by omega) (by omega) (NX _ _ _ hR1 (Nat.le_succ_of_le (Nat.le_of_eq (m0_rateS S (xs (i + 1)) (xs (i + 2))))))
set_option maxRecDepth 100000 in
set_option maxHeartbeats 4000000 in
theorem lc_26 (X : CX K cL_law 8 RL D Y) (hR : kR K = room_1) (hX : va_X b L xs (ks K) (ks K).heap) (hbl : b < (ks K).heap.size) (hbA : ¬ kA K b) (hL : L ≤ 2560) (hi : i + 5 ≤ L) (hC : cells + 1 ≤ 600000 ∧ slots + 5 ≤ 7302250) (hS : RR S T e) (hmo : S 21 0 < 1000) (NX : NXT K D Y ad h0 ad' cells slots b i S) : JJ K D cells slots (WC ad Y (T, e) ++ WM h0 ad' Y S) [(0, .ref b), (1, .ref (ad 16)), (2, .ref h0), (3, .int (nI i))] 922 [] := by
  have hC1 := hC.1
  have hC2 := hC.2
  refine j_aload_n X dL_law_922 rfl 1 rfl ?_
  refine j_aload_n X dL_law_923 rfl 0 rfl ?_
  refine j_iload_n X dL_law_924 rfl 3 rfl ?_
  refine j_iconst (v := nI 1) X dL_law_925 (by decide) ?_
  refine n_iadd X dL_law_926 ?_
  refine jl_sld X hX hbl hbA (by omega) hL dL_law_927 ?_
  refine jl_cI1 (mc := 0) (ms := 0) X hR (m_X6_fee hS (xs (i + 1))) m_L_123 rfl (by decide) (by decide) (Nat.le_of_ble_eq_true rfl) ⟨by omega, by omega⟩ dL_law_928 ?_
  rintro _ _ ⟨rfl, rfl⟩
  have hR1 := hS
  refine j_aload_n X dL_law_931 rfl 2 rfl ?_
  refine j_aload_n X dL_law_932 rfl 0 rfl ?_
  refine j_iload_n X dL_law_933 rfl 3 rfl ?_
  refine j_iconst (v := nI 1) X dL_law_934 (by decide) ?_
  refine n_iadd X dL_law_935 ?_
  refine jl_sld X hX hbl hbA (by omega) hL dL_law_936 ?_
  refine jl_mI1 X hR (m_X7_fee S hS.hB hS.hI (xs (i + 1))) m_L_126 rfl (by decide) (by decide) (Nat.le_of_ble_eq_true rfl) ⟨by omega, by omega⟩ dL_law_937 ?_
  rintro _ _ ⟨rfl, rfl⟩
  refine j_icmp_eq (tgt := 1199) X dL_law_940 (by decide) (fun _ => ?_) (fun q => absurd rfl q)
  skip
  exact j_widen (by omega) (by omega) (NX _ _ _ hR1 (Nat.le_succ _))
set_option maxRecDepth 100000 in
set_option maxHeartbeats 4000000 in
theorem lc_27 (X : CX K cL_law 8 RL D Y) (hR : kR K = room_1) (hX : va_X b L xs (ks K) (ks K).heap) (hbl : b < (ks K).heap.size) (hbA : ¬ kA K b) (hL : L ≤ 2560) (hi : i + 5 ≤ L) (hC : cells + 1 ≤ 600000 ∧ slots + 5 ≤ 7302250) (hS : RR S T e) (hmo : S 21 0 < 1000) (NX : NXT K D Y ad h0 ad' cells slots b i S) : JJ K D cells slots (WC ad Y (T, e) ++ WM h0 ad' Y S) [(0, .ref b), (1, .ref (ad 16)), (2, .ref h0), (3, .int (nI i))] 945 [] := by
  have hC1 := hC.1
  have hC2 := hC.2
  refine j_aload_n X dL_law_945 rfl 1 rfl ?_
  refine jl_cI0 (mc := 0) (ms := 0) X hR (m_X6_income hS) m_L_127 rfl (by decide) (by decide) (Nat.le_of_ble_eq_true rfl) ⟨by omega, by omega⟩ dL_law_946 ?_
  rintro _ _ ⟨n1, hn1, -, rfl, rfl⟩
  subst hn1
  have hR1 := hS
  refine j_aload_n X dL_law_949 rfl 2 rfl ?_
  refine jl_mI0 X hR (m_X7_income S hS.hB hS.hI) m_L_130 rfl (by decide) (by decide) (Nat.le_of_ble_eq_true rfl) ⟨by omega, by omega⟩ dL_law_950 ?_
  rintro _ _ ⟨n2, hn2, -, rfl, rfl⟩
  subst hn2
  refine j_icmp_eq (tgt := 1199) X dL_law_953 (by decide) (fun _ => ?_) (fun q => absurd rfl q)
  skip
  exact j_widen (by omega) (by omega) (NX _ _ _ hR1 (Nat.le_succ _))
set_option maxRecDepth 100000 in
set_option maxHeartbeats 4000000 in
theorem lc_28 (X : CX K cL_law 8 RL D Y) (hR : kR K = room_1) (hX : va_X b L xs (ks K) (ks K).heap) (hbl : b < (ks K).heap.size) (hbA : ¬ kA K b) (hL : L ≤ 2560) (hi : i + 5 ≤ L) (hC : cells + 1 ≤ 600000 ∧ slots + 5 ≤ 7302250) (hS : RR S T e) (hmo : S 21 0 < 1000) (NX : NXT K D Y ad h0 ad' cells slots b i S) : JJ K D cells slots (WC ad Y (T, e) ++ WM h0 ad' Y S) [(0, .ref b), (1, .ref (ad 16)), (2, .ref h0), (3, .int (nI i))] 958 [] := by
  have hC1 := hC.1
  have hC2 := hC.2
  refine j_aload_n X dL_law_958 rfl 1 rfl ?_
  refine j_aload_n X dL_law_959 rfl 0 rfl ?_
  refine j_iload_n X dL_law_960 rfl 3 rfl ?_
  refine j_iconst (v := nI 1) X dL_law_961 (by decide) ?_
  refine n_iadd X dL_law_962 ?_
  refine jl_sld X hX hbl hbA (by omega) hL dL_law_963 ?_
  refine jl_cI1 (mc := 0) (ms := 0) X hR (m_X6_familyFeeIfAdmitted hS (xs (i + 1))) m_L_131 rfl (by decide) (by decide) (Nat.le_of_ble_eq_true rfl) ⟨by omega, by omega⟩ dL_law_964 ?_
  rintro _ _ ⟨rfl, rfl⟩
  have hR1 := hS
  refine j_aload_n X dL_law_967 rfl 2 rfl ?_
  refine j_aload_n X dL_law_968 rfl 0 rfl ?_
  refine j_iload_n X dL_law_969 rfl 3 rfl ?_
  refine j_iconst (v := nI 1) X dL_law_970 (by decide) ?_
  refine n_iadd X dL_law_971 ?_
  refine jl_sld X hX hbl hbA (by omega) hL dL_law_972 ?_
  refine jl_mI1 X hR (m_X7_familyFeeIfAdmitted S hS.hB hS.hI (xs (i + 1))) m_L_134 rfl (by decide) (by decide) (Nat.le_of_ble_eq_true rfl) ⟨by omega, by omega⟩ dL_law_973 ?_
  rintro _ _ ⟨rfl, rfl, hB2, hI2⟩
  refine j_icmp_eq (tgt := 1199) X dL_law_976 (by decide) (fun _ => ?_) (fun q => absurd rfl q)
  skip
  exact j_widen (by omega) (by omega) (NX _ _ _ hR1 (Nat.le_succ _))
set_option maxRecDepth 100000 in
set_option maxHeartbeats 4000000 in
theorem lc_29 (X : CX K cL_law 8 RL D Y) (hR : kR K = room_1) (hX : va_X b L xs (ks K) (ks K).heap) (hbl : b < (ks K).heap.size) (hbA : ¬ kA K b) (hL : L ≤ 2560) (hi : i + 5 ≤ L) (hC : cells + 1 ≤ 600000 ∧ slots + 5 ≤ 7302250) (hS : RR S T e) (hmo : S 21 0 < 1000) (NX : NXT K D Y ad h0 ad' cells slots b i S) : JJ K D cells slots (WC ad Y (T, e) ++ WM h0 ad' Y S) [(0, .ref b), (1, .ref (ad 16)), (2, .ref h0), (3, .int (nI i))] 981 [] := by
  have hC1 := hC.1
  have hC2 := hC.2
  refine j_aload_n X dL_law_981 rfl 1 rfl ?_
  refine j_aload_n X dL_law_982 rfl 0 rfl ?_
  refine j_iload_n X dL_law_983 rfl 3 rfl ?_
  refine j_iconst (v := nI 1) X dL_law_984 (by decide) ?_
  refine n_iadd X dL_law_985 ?_
  refine jl_sld X hX hbl hbA (by omega) hL dL_law_986 ?_
  refine j_aload_n X dL_law_987 rfl 0 rfl ?_
  refine j_iload_n X dL_law_988 rfl 3 rfl ?_
  refine j_iconst (v := nI 2) X dL_law_989 (by decide) ?_
  refine n_iadd X dL_law_990 ?_
  refine jl_sld X hX hbl hbA (by omega) hL dL_law_991 ?_
  refine j_aload_n X dL_law_992 rfl 0 rfl ?_
  refine j_iload_n X dL_law_993 rfl 3 rfl ?_
  refine j_iconst (v := nI 3) X dL_law_994 (by decide) ?_
  refine n_iadd X dL_law_995 ?_
  refine jl_sld X hX hbl hbA (by omega) hL dL_law_996 ?_
  refine jl_cI3 (mc := 1) (ms := 4) X hR (m_X6_addSubstitute hS (xs (i + 1)) (xs (i + 2)) (xs (i + 3))) m_L_135 rfl (by decide) (by decide) (Nat.le_of_ble_eq_true rfl) ⟨by omega, by omega⟩ dL_law_997 ?_
  rintro _ ⟨T1, e1⟩ ⟨rfl, hR1⟩
  refine j_aload_n X dL_law_1000 rfl 2 rfl ?_
  refine j_aload_n X dL_law_1001 rfl 0 rfl ?_
  refine j_iload_n X dL_law_1002 rfl 3 rfl ?_
  refine j_iconst (v := nI 1) X dL_law_1003 (by decide) ?_
  refine n_iadd X dL_law_1004 ?_
  refine jl_sld X hX hbl hbA (by omega) hL dL_law_1005 ?_
  refine j_aload_n X dL_law_1006 rfl 0 rfl ?_
  refine j_iload_n X dL_law_1007 rfl 3 rfl ?_
  refine j_iconst (v := nI 2) X dL_law_1008 (by decide) ?_
  refine n_iadd X dL_law_1009 ?_
  refine jl_sld X hX hbl hbA (by omega) hL dL_law_1010 ?_
  refine j_aload_n X dL_law_1011 rfl 0 rfl ?_
  refine j_iload_n X dL_law_1012 rfl 3 rfl ?_
  refine j_iconst (v := nI 3) X dL_law_1013 (by decide) ?_
  refine n_iadd X dL_law_1014 ?_
  refine jl_sld X hX hbl hbA (by omega) hL dL_law_1015 ?_
  refine jl_mI3 X hR (m_X7_addSubstitute S hS.hB hS.hI (xs (i + 1)) (xs (i + 2)) (xs (i + 3))) m_L_139 rfl (by decide) (by decide) (Nat.le_of_ble_eq_true rfl) ⟨by omega, by omega⟩ dL_law_1016 ?_
  rintro _ _ ⟨rfl, rfl, hB2, hI2⟩
  refine j_icmp_eq (tgt := 1199) X dL_law_1019 (by decide) (fun _ => ?_) (fun q => absurd rfl q)
  skip
  exact j_widen (by omega) (by omega) (NX _ _ _ hR1 (Nat.le_succ_of_le (Nat.le_of_eq (m0_subS S (xs (i + 1)) (xs (i + 2)) (xs (i + 3))))))
set_option maxRecDepth 100000 in
set_option maxHeartbeats 4000000 in
theorem lc_30 (X : CX K cL_law 8 RL D Y) (hR : kR K = room_1) (hX : va_X b L xs (ks K) (ks K).heap) (hbl : b < (ks K).heap.size) (hbA : ¬ kA K b) (hL : L ≤ 2560) (hi : i + 5 ≤ L) (hC : cells + 1 ≤ 600000 ∧ slots + 5 ≤ 7302250) (hS : RR S T e) (hmo : S 21 0 < 1000) (NX : NXT K D Y ad h0 ad' cells slots b i S) : JJ K D cells slots (WC ad Y (T, e) ++ WM h0 ad' Y S) [(0, .ref b), (1, .ref (ad 16)), (2, .ref h0), (3, .int (nI i))] 1024 [] := by
  have hC1 := hC.1
  have hC2 := hC.2
  refine j_aload_n X dL_law_1024 rfl 1 rfl ?_
  refine j_aload_n X dL_law_1025 rfl 0 rfl ?_
  refine j_iload_n X dL_law_1026 rfl 3 rfl ?_
  refine j_iconst (v := nI 1) X dL_law_1027 (by decide) ?_
  refine n_iadd X dL_law_1028 ?_
  refine jl_sld X hX hbl hbA (by omega) hL dL_law_1029 ?_
  refine j_aload_n X dL_law_1030 rfl 0 rfl ?_
  refine j_iload_n X dL_law_1031 rfl 3 rfl ?_
  refine j_iconst (v := nI 2) X dL_law_1032 (by decide) ?_
  refine n_iadd X dL_law_1033 ?_
  refine jl_sld X hX hbl hbA (by omega) hL dL_law_1034 ?_
  refine jl_cI2 (mc := 0) (ms := 0) X hR (m_X6_shortage hS (xs (i + 1)) (xs (i + 2))) m_L_140 rfl (by decide) (by decide) (Nat.le_of_ble_eq_true rfl) ⟨by omega, by omega⟩ dL_law_1035 ?_
  rintro _ _ ⟨T1, rfl, rfl, hsm⟩
  have hR1 := hS.sm hsm (by decide)
  refine j_aload_n X dL_law_1038 rfl 2 rfl ?_
  refine j_aload_n X dL_law_1039 rfl 0 rfl ?_
  refine j_iload_n X dL_law_1040 rfl 3 rfl ?_
  refine j_iconst (v := nI 1) X dL_law_1041 (by decide) ?_
  refine n_iadd X dL_law_1042 ?_
  refine jl_sld X hX hbl hbA (by omega) hL dL_law_1043 ?_
  refine j_aload_n X dL_law_1044 rfl 0 rfl ?_
  refine j_iload_n X dL_law_1045 rfl 3 rfl ?_
  refine j_iconst (v := nI 2) X dL_law_1046 (by decide) ?_
  refine n_iadd X dL_law_1047 ?_
  refine jl_sld X hX hbl hbA (by omega) hL dL_law_1048 ?_
  refine jl_mI2 X hR (m_X7_shortage S hS.hB hS.hI (xs (i + 1)) (xs (i + 2))) m_L_143 rfl (by decide) (by decide) (Nat.le_of_ble_eq_true rfl) ⟨by omega, by omega⟩ dL_law_1049 ?_
  rintro _ _ ⟨rfl, rfl⟩
  refine j_icmp_eq (tgt := 1199) X dL_law_1052 (by decide) (fun _ => ?_) (fun q => absurd rfl q)
  skip
  exact j_widen (by omega) (by omega) (NX _ _ _ hR1 (Nat.le_succ _))
set_option maxRecDepth 100000 in
set_option maxHeartbeats 4000000 in
theorem lc_31 (X : CX K cL_law 8 RL D Y) (hR : kR K = room_1) (hX : va_X b L xs (ks K) (ks K).heap) (hbl : b < (ks K).heap.size) (hbA : ¬ kA K b) (hL : L ≤ 2560) (hi : i + 5 ≤ L) (hC : cells + 1 ≤ 600000 ∧ slots + 5 ≤ 7302250) (hS : RR S T e) (hmo : S 21 0 < 1000) (NX : NXT K D Y ad h0 ad' cells slots b i S) : JJ K D cells slots (WC ad Y (T, e) ++ WM h0 ad' Y S) [(0, .ref b), (1, .ref (ad 16)), (2, .ref h0), (3, .int (nI i))] 1057 [] := by
  have hC1 := hC.1
  have hC2 := hC.2
  refine j_aload_n X dL_law_1057 rfl 1 rfl ?_
  refine j_aload_n X dL_law_1058 rfl 0 rfl ?_
  refine j_iload_n X dL_law_1059 rfl 3 rfl ?_
  refine j_iconst (v := nI 1) X dL_law_1060 (by decide) ?_
  refine n_iadd X dL_law_1061 ?_
  refine jl_sld X hX hbl hbA (by omega) hL dL_law_1062 ?_
  refine jl_cI1 (mc := 0) (ms := 0) X hR (m_X6_cover hS (xs (i + 1))) m_L_144 rfl (by decide) (by decide) (Nat.le_of_ble_eq_true rfl) ⟨by omega, by omega⟩ dL_law_1063 ?_
  rintro _ ⟨T1, e1⟩ ⟨rfl, hR1⟩
  refine j_aload_n X dL_law_1066 rfl 2 rfl ?_
  refine j_aload_n X dL_law_1067 rfl 0 rfl ?_
  refine j_iload_n X dL_law_1068 rfl 3 rfl ?_
  refine j_iconst (v := nI 1) X dL_law_1069 (by decide) ?_
  refine n_iadd X dL_law_1070 ?_
  refine jl_sld X hX hbl hbA (by omega) hL dL_law_1071 ?_
  refine jl_mI1 X hR (m_X7_cover S hS.hB hS.hI (xs (i + 1))) m_L_147 rfl (by decide) (by decide) (Nat.le_of_ble_eq_true rfl) ⟨by omega, by omega⟩ dL_law_1072 ?_
  rintro _ U ⟨rfl, hA2, hB2, hI2⟩
  refine j_icmp_eq (tgt := 1199) X dL_law_1075 (by decide) (fun _ => ?_) (fun q => absurd rfl q)
  skip
  exact j_widen (by omega) (by omega) (NX U _ _ (hR1.ag hA2 hB2) (Nat.le_trans (Nat.le_of_eq (hA2.at (by omega))) (Nat.le_succ_of_le (Nat.le_of_eq (m0_covS S (xs (i + 1)))))))
set_option maxRecDepth 100000 in
set_option maxHeartbeats 4000000 in
theorem lc_32 (X : CX K cL_law 8 RL D Y) (hR : kR K = room_1) (hX : va_X b L xs (ks K) (ks K).heap) (hbl : b < (ks K).heap.size) (hbA : ¬ kA K b) (hL : L ≤ 2560) (hi : i + 5 ≤ L) (hC : cells + 1 ≤ 600000 ∧ slots + 5 ≤ 7302250) (hS : RR S T e) (hmo : S 21 0 < 1000) (NX : NXT K D Y ad h0 ad' cells slots b i S) : JJ K D cells slots (WC ad Y (T, e) ++ WM h0 ad' Y S) [(0, .ref b), (1, .ref (ad 16)), (2, .ref h0), (3, .int (nI i))] 1080 [] := by
  have hC1 := hC.1
  have hC2 := hC.2
  refine j_aload_n X dL_law_1080 rfl 1 rfl ?_
  refine j_aload_n X dL_law_1081 rfl 0 rfl ?_
  refine j_iload_n X dL_law_1082 rfl 3 rfl ?_
  refine j_iconst (v := nI 1) X dL_law_1083 (by decide) ?_
  refine n_iadd X dL_law_1084 ?_
  refine jl_sld X hX hbl hbA (by omega) hL dL_law_1085 ?_
  refine jl_cI1 (mc := 0) (ms := 0) X hR (m_X6_coverOf hS (xs (i + 1))) m_L_148 rfl (by decide) (by decide) (Nat.le_of_ble_eq_true rfl) ⟨by omega, by omega⟩ dL_law_1086 ?_
  rintro _ _ ⟨rfl, rfl⟩
  have hR1 := hS
  refine j_aload_n X dL_law_1089 rfl 2 rfl ?_
  refine j_aload_n X dL_law_1090 rfl 0 rfl ?_
  refine j_iload_n X dL_law_1091 rfl 3 rfl ?_
  refine j_iconst (v := nI 1) X dL_law_1092 (by decide) ?_
  refine n_iadd X dL_law_1093 ?_
  refine jl_sld X hX hbl hbA (by omega) hL dL_law_1094 ?_
  refine jl_mI1 X hR (m_X7_coverOf S hS.hB (xs (i + 1))) m_L_151 rfl (by decide) (by decide) (Nat.le_of_ble_eq_true rfl) ⟨by omega, by omega⟩ dL_law_1095 ?_
  rintro _ _ ⟨rfl, rfl⟩
  refine j_icmp_eq (tgt := 1199) X dL_law_1098 (by decide) (fun _ => ?_) (fun q => absurd rfl q)
  skip
  exact j_widen (by omega) (by omega) (NX _ _ _ hR1 (Nat.le_succ _))
set_option maxRecDepth 100000 in
set_option maxHeartbeats 4000000 in
theorem lc_33 (X : CX K cL_law 8 RL D Y) (hR : kR K = room_1) (hX : va_X b L xs (ks K) (ks K).heap) (hbl : b < (ks K).heap.size) (hbA : ¬ kA K b) (hL : L ≤ 2560) (hi : i + 5 ≤ L) (hC : cells + 1 ≤ 600000 ∧ slots + 5 ≤ 7302250) (hS : RR S T e) (hmo : S 21 0 < 1000) (NX : NXT K D Y ad h0 ad' cells slots b i S) : JJ K D cells slots (WC ad Y (T, e) ++ WM h0 ad' Y S) [(0, .ref b), (1, .ref (ad 16)), (2, .ref h0), (3, .int (nI i))] 1103 [] := by
  have hC1 := hC.1
  have hC2 := hC.2
  refine j_aload_n X dL_law_1103 rfl 1 rfl ?_
  refine j_aload_n X dL_law_1104 rfl 0 rfl ?_
  refine j_iload_n X dL_law_1105 rfl 3 rfl ?_
  refine j_iconst (v := nI 1) X dL_law_1106 (by decide) ?_
  refine n_iadd X dL_law_1107 ?_
  refine jl_sld X hX hbl hbA (by omega) hL dL_law_1108 ?_
  refine jl_cI1 (mc := 0) (ms := 0) X hR (m_X6_cheapestHoliday hS (xs (i + 1))) m_L_152 rfl (by decide) (by decide) (Nat.le_of_ble_eq_true rfl) ⟨by omega, by omega⟩ dL_law_1109 ?_
  rintro _ ⟨T1, e1⟩ ⟨rfl, hR1⟩
  refine j_aload_n X dL_law_1112 rfl 2 rfl ?_
  refine j_aload_n X dL_law_1113 rfl 0 rfl ?_
  refine j_iload_n X dL_law_1114 rfl 3 rfl ?_
  refine j_iconst (v := nI 1) X dL_law_1115 (by decide) ?_
  refine n_iadd X dL_law_1116 ?_
  refine jl_sld X hX hbl hbA (by omega) hL dL_law_1117 ?_
  refine jl_mI1 X hR (m_X7_cheapestHoliday S hS.hB hS.hI (xs (i + 1))) m_L_155 rfl (by decide) (by decide) (Nat.le_of_ble_eq_true rfl) ⟨by omega, by omega⟩ dL_law_1118 ?_
  rintro _ U ⟨rfl, hA2, hB2, hI2⟩
  refine j_icmp_eq (tgt := 1199) X dL_law_1121 (by decide) (fun _ => ?_) (fun q => absurd rfl q)
  skip
  exact j_widen (by omega) (by omega) (NX U _ _ (hR1.ag hA2 hB2) (Nat.le_trans (Nat.le_of_eq (hA2.at (by omega))) (Nat.le_succ _)))
set_option maxRecDepth 100000 in
set_option maxHeartbeats 4000000 in
theorem lc_34 (X : CX K cL_law 8 RL D Y) (hR : kR K = room_1) (hX : va_X b L xs (ks K) (ks K).heap) (hbl : b < (ks K).heap.size) (hbA : ¬ kA K b) (hL : L ≤ 2560) (hi : i + 5 ≤ L) (hC : cells + 1 ≤ 600000 ∧ slots + 5 ≤ 7302250) (hS : RR S T e) (hmo : S 21 0 < 1000) (NX : NXT K D Y ad h0 ad' cells slots b i S) : JJ K D cells slots (WC ad Y (T, e) ++ WM h0 ad' Y S) [(0, .ref b), (1, .ref (ad 16)), (2, .ref h0), (3, .int (nI i))] 1126 [] := by
  have hC1 := hC.1
  have hC2 := hC.2
  refine j_aload_n X dL_law_1126 rfl 1 rfl ?_
  refine j_aload_n X dL_law_1127 rfl 0 rfl ?_
  refine j_iload_n X dL_law_1128 rfl 3 rfl ?_
  refine j_iconst (v := nI 1) X dL_law_1129 (by decide) ?_
  refine n_iadd X dL_law_1130 ?_
  refine jl_sld X hX hbl hbA (by omega) hL dL_law_1131 ?_
  refine jl_cI1 (mc := 0) (ms := 0) X hR (m_X6_type hS (xs (i + 1))) m_L_156 rfl (by decide) (by decide) (Nat.le_of_ble_eq_true rfl) ⟨by omega, by omega⟩ dL_law_1132 ?_
  rintro _ ⟨T1, e1⟩ ⟨rfl, hR1⟩
  refine j_aload_n X dL_law_1135 rfl 2 rfl ?_
  refine j_aload_n X dL_law_1136 rfl 0 rfl ?_
  refine j_iload_n X dL_law_1137 rfl 3 rfl ?_
  refine j_iconst (v := nI 1) X dL_law_1138 (by decide) ?_
  refine n_iadd X dL_law_1139 ?_
  refine jl_sld X hX hbl hbA (by omega) hL dL_law_1140 ?_
  refine jl_mI1 X hR (m_X7_type S hS.hB hS.hI (xs (i + 1))) m_L_159 rfl (by decide) (by decide) (Nat.le_of_ble_eq_true rfl) ⟨by omega, by omega⟩ dL_law_1141 ?_
  rintro _ _ ⟨rfl, rfl, hB2, hI2⟩
  refine j_icmp_eq (tgt := 1199) X dL_law_1144 (by decide) (fun _ => ?_) (fun q => absurd rfl q)
  skip
  exact j_widen (by omega) (by omega) (NX _ _ _ hR1 (Nat.le_succ_of_le (Nat.le_of_eq (m0_typS S (xs (i + 1))))))
set_option maxRecDepth 100000 in
set_option maxHeartbeats 4000000 in
theorem lc_35 (X : CX K cL_law 8 RL D Y) (hR : kR K = room_1) (hX : va_X b L xs (ks K) (ks K).heap) (hbl : b < (ks K).heap.size) (hbA : ¬ kA K b) (hL : L ≤ 2560) (hi : i + 5 ≤ L) (hC : cells + 1 ≤ 600000 ∧ slots + 5 ≤ 7302250) (hS : RR S T e) (hmo : S 21 0 < 1000) (NX : NXT K D Y ad h0 ad' cells slots b i S) : JJ K D cells slots (WC ad Y (T, e) ++ WM h0 ad' Y S) [(0, .ref b), (1, .ref (ad 16)), (2, .ref h0), (3, .int (nI i))] 1149 [] := by
  have hC1 := hC.1
  have hC2 := hC.2
  refine j_aload_n X dL_law_1149 rfl 1 rfl ?_
  refine jl_cI0 (mc := 0) (ms := 0) X hR (m_X6_clearText hS) m_L_160 rfl (by decide) (by decide) (Nat.le_of_ble_eq_true rfl) ⟨by omega, by omega⟩ dL_law_1150 ?_
  rintro _ ⟨T1, e1⟩ ⟨rfl, hR1⟩
  refine j_aload_n X dL_law_1153 rfl 2 rfl ?_
  refine jl_mI0 X hR (m_X7_clearText S hS.hB hS.hI) m_L_163 rfl (by decide) (by decide) (Nat.le_of_ble_eq_true rfl) ⟨by omega, by omega⟩ dL_law_1154 ?_
  rintro _ _ ⟨rfl, rfl, hB2, hI2⟩
  refine j_icmp_eq (tgt := 1199) X dL_law_1157 (by decide) (fun _ => ?_) (fun q => absurd rfl q)
  skip
  exact j_widen (by omega) (by omega) (NX _ _ _ hR1 (Nat.le_succ_of_le (Nat.le_of_eq (uM_ni (by omega)))))
set_option maxRecDepth 100000 in
set_option maxHeartbeats 4000000 in
theorem lc_36 (X : CX K cL_law 8 RL D Y) (hR : kR K = room_1) (hX : va_X b L xs (ks K) (ks K).heap) (hbl : b < (ks K).heap.size) (hbA : ¬ kA K b) (hL : L ≤ 2560) (hi : i + 5 ≤ L) (hC : cells + 1 ≤ 600000 ∧ slots + 5 ≤ 7302250) (hS : RR S T e) (hmo : S 21 0 < 1000) (NX : NXT K D Y ad h0 ad' cells slots b i S) : JJ K D cells slots (WC ad Y (T, e) ++ WM h0 ad' Y S) [(0, .ref b), (1, .ref (ad 16)), (2, .ref h0), (3, .int (nI i))] 1162 [] := by
  have hC1 := hC.1
  have hC2 := hC.2
  refine j_aload_n X dL_law_1162 rfl 1 rfl ?_
  refine j_aload_n X dL_law_1163 rfl 0 rfl ?_
  refine j_iload_n X dL_law_1164 rfl 3 rfl ?_
  refine j_iconst (v := nI 1) X dL_law_1165 (by decide) ?_
  refine n_iadd X dL_law_1166 ?_
  refine jl_sld X hX hbl hbA (by omega) hL dL_law_1167 ?_
  refine jl_cI1 (mc := 0) (ms := 0) X hR (m_X6_loadBookings hS (xs (i + 1))) m_L_164 rfl (by decide) (by decide) (Nat.le_of_ble_eq_true rfl) ⟨by omega, by omega⟩ dL_law_1168 ?_
  rintro _ ⟨T1, e1⟩ ⟨rfl, hR1⟩
  refine j_aload_n X dL_law_1171 rfl 2 rfl ?_
  refine j_aload_n X dL_law_1172 rfl 0 rfl ?_
  refine j_iload_n X dL_law_1173 rfl 3 rfl ?_
  refine j_iconst (v := nI 1) X dL_law_1174 (by decide) ?_
  refine n_iadd X dL_law_1175 ?_
  refine jl_sld X hX hbl hbA (by omega) hL dL_law_1176 ?_
  refine jl_mI1 X hR (m_X7_loadBookings S hS.hB hS.hI (xs (i + 1))) m_L_167 rfl (by decide) (by decide) (Nat.le_of_ble_eq_true rfl) ⟨by omega, by omega⟩ dL_law_1177 ?_
  rintro _ U ⟨rfl, hA2, hB2, hI2⟩
  refine j_icmp_eq (tgt := 1199) X dL_law_1180 (by decide) (fun _ => ?_) (fun q => absurd rfl q)
  skip
  exact j_widen (by omega) (by omega) (NX U _ _ (hR1.ag hA2 hB2) (Nat.le_trans (Nat.le_of_eq (hA2.at (by omega))) (Nat.le_succ_of_le (Nat.le_of_eq (m0_ldS S (xs (i + 1)))))))
set_option maxRecDepth 100000 in
set_option maxHeartbeats 4000000 in
theorem lc_37 (X : CX K cL_law 8 RL D Y) (hR : kR K = room_1) (hX : va_X b L xs (ks K) (ks K).heap) (hbl : b < (ks K).heap.size) (hbA : ¬ kA K b) (hL : L ≤ 2560) (hi : i + 5 ≤ L) (hC : cells + 1 ≤ 600000 ∧ slots + 5 ≤ 7302250) (hS : RR S T e) (hmo : S 21 0 < 1000) (NX : NXT K D Y ad h0 ad' cells slots b i S) : JJ K D cells slots (WC ad Y (T, e) ++ WM h0 ad' Y S) [(0, .ref b), (1, .ref (ad 16)), (2, .ref h0), (3, .int (nI i))] 1185 [] := by
  have hC1 := hC.1
  have hC2 := hC.2
  refine j_aload_n X dL_law_1185 rfl 1 rfl ?_
  refine jl_cL0 (mc := 0) (ms := 0) X hR (m_X6_digest hS) m_L_168 rfl (by decide) (by decide) (Nat.le_of_ble_eq_true rfl) ⟨by omega, by omega⟩ dL_law_1186 ?_
  rintro _ _ ⟨T1, rfl, rfl, hsm⟩
  have hR1 := hS.sm hsm (by decide)
  refine j_aload_n X dL_law_1189 rfl 2 rfl ?_
  refine jl_mL0 X hR (m_X7_digest S hS.hB hS.hI) m_L_172 rfl (by decide) (by decide) (Nat.le_of_ble_eq_true rfl) ⟨by omega, by omega⟩ dL_law_1190 ?_
  rintro _ _ ⟨rfl, rfl⟩
  refine j_lcmp X dL_law_1193 ?_
  rw [lg_self]
  refine j_if_eq (tgt := 1199) X dL_law_1194 (by decide) (fun _ => ?_) (fun q => absurd rfl q)
  skip
  exact j_widen (by omega) (by omega) (NX _ _ _ hR1 (Nat.le_succ _))
end
