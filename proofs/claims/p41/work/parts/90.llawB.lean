section
variable {K : Ctx} {D : va_G} {Y : Nat → ClassId} {ad aq : Nat → Nat} {b L : Nat} {xs : Nat → Int32} {nc me : Nat}
set_option maxRecDepth 100000 in
set_option maxHeartbeats 4000000 in
theorem law_B (X : CX K cL_law 17 RL D Y) (hR : RO K 40 783554 6751585) (hX : va_X b L xs (ks K) (ks K).heap) (hbl : b < (ks K).heap.size) (hbA : ¬ kA K b) (hL260 : L ≤ 260) (fin : ∀ (ws : va_W) (lv : List (Nat × Value)), JJ K D 783554 6751585 ws lv 1228 [.int 1]) {S : MS} {T : CT} {e : CE} {Q : MS} (hBQ : BD Q) (hP : PB S nc me 0 Q) (hRR : RR S T e) : JJ K D 23 359 (WC ad Y (T, e) ++ LA aq Y 6 Q) [(0, .ref b), (1, .ref (ad 16)), (2, .ref (aq 0)), (3, .ref (aq 1)), (4, .ref (aq 2)), (5, .ref (aq 3)), (6, .ref (aq 4)), (7, .ref (aq 5))] 238 [] := by
  have hm3 := hP.1.1.2.2
  refine j_iconst (v := nI 0) X dL_law_238 (by decide) ?_
  refine j_istore X [(8, _), (0, _), (1, _), (2, _), (3, _), (4, _), (5, _), (6, _), (7, _)] dL_law_239 (by decide) rfl ?_
  refine j_widen (c2 := (23 + 0)) (s2 := (359 + 2 * 0)) (by omega) (by omega) ?_
  have L241 : ∀ (n : Nat) (i : Nat) (S1 : MS) (T1 : CT) (e1 : CE) (Q1 : MS), (i ≤ me) → (BD Q1) → (RR S1 T1 e1) → (PB S1 nc me i Q1) → (me + 1 ≤ i + n) → JJ K D (23 + i) (359 + 2 * i) (WC ad Y (T1, e1) ++ LA aq Y 6 Q1) [(0, .ref b), (1, .ref (ad 16)), (2, .ref (aq 0)), (3, .ref (aq 1)), (4, .ref (aq 2)), (5, .ref (aq 3)), (6, .ref (aq 4)), (7, .ref (aq 5)), (8, .int (nI i))] 241 [] := by
    intro n
    induction n with
    | zero =>
      intro i S1 T1 e1 Q1 hi hB1 hRR hP hf241
      exact absurd hf241 (by omega)
    | succ n241 ih241 =>
      intro i S1 T1 e1 Q1 hi hB1 hRR hP hf241
      refine j_iload X dL_law_241 8 rfl ?_
      refine j_aload_n X dL_law_243 rfl 2 rfl ?_
      refine j_bipush (v := nI 8) X dL_law_244 (by decide) ?_
      refine jl_ald X (LA.arw (k := 0) hB1 (by decide) (by decide)) (by show _ < 16; omega) dL_law_246 (fun v_246 e_246 b_246 => ?_)
      have e_246 := e_246.trans (hP.1.2.1.2.1)
      refine n_icmp_ge (tgt := 529) X dL_law_247 (by decide) (by omega) (by omega) (fun c_247 => ?_) (fun c_247 => ?_)
      · have hin : i = me := by omega
        subst hin
        refine j_sub [0, 1, 2, 3, 4, 5, 6, 7] rfl ?_
        refine j_widen (c2 := 26) (s2 := 365) (by omega) (by omega) ?_
        exact law_C X hR hX hbl hbA hL260 fin hB1 hP.ch hRR
      · refine j_aload_n X dL_law_250 rfl 0 rfl ?_
        refine j_iconst (v := nI 4) X dL_law_251 (by decide) ?_
        refine j_iload X dL_law_252 8 rfl ?_
        refine n_iadd X dL_law_254 ?_
        refine jx_cell X hX hbl hbA hR (m_L_cell hL260 _ (by omega)) m_L_116 (by decide) (Nat.le_of_ble_eq_true rfl) ⟨by omega, by omega⟩ dL_law_255 (fun x_255 => ?_)
        refine j_istore X [(9, _), (0, _), (1, _), (2, _), (3, _), (4, _), (5, _), (6, _), (7, _), (8, _)] dL_law_258 (by decide) rfl ?_
        refine j_aload_n X dL_law_260 rfl 2 rfl ?_
        refine jl_cI0 (mc := 1) (ms := 2) X hR (m_X6_addEducator hRR) m_L_129 rfl (by decide) (by decide) (Nat.le_of_ble_eq_true rfl) ⟨by omega, by omega⟩ dL_law_261 ?_
        rintro _ ⟨T_261, e_261⟩ ⟨rfl, hR0_261⟩
        have had := addE_at hP (by omega)
        have hRR_261 : RR (newE S1 i) T_261 e_261 := by rw [← had.2]; exact hR0_261
        rw [had.1]
        refine j_iload X dL_law_264 9 rfl ?_
        refine n_icmp_eq (tgt := 271) X dL_law_266 (by decide) (by omega) (by omega) (fun c_266 => ?_) (fun c_266 => ?_)
        · refine j_iconst (v := nI 0) X dL_law_271 (by decide) ?_
          refine j_istore X [(10, _), (9, _), (0, _), (1, _), (2, _), (3, _), (4, _), (5, _), (6, _), (7, _), (8, _)] dL_law_272 (by decide) rfl ?_
          refine j_iconst (v := nI 0) X dL_law_274 (by decide) ?_
          refine j_istore X [(11, _), (10, _), (9, _), (0, _), (1, _), (2, _), (3, _), (4, _), (5, _), (6, _), (7, _), (8, _)] dL_law_275 (by decide) rfl ?_
          have L277 : ∀ (n : Nat) (d su : Nat) (S3 : MS) (T3 : CT) (e3 : CE) (Q3 : MS), (d ≤ 5) → (su ≤ 10 * d) → (BD Q3) → (RR S3 T3 e3) → (PB S3 nc me (i + 1) Q3) → (su = sm (fun x => S3 9 (5 * i + x) - S3 8 (5 * i + x)) d) → (∀ x, d ≤ x → x < 5 → S3 8 (5 * i + x) = 0 ∧ S3 9 (5 * i + x) = 0) → (∀ j, 4 * i ≤ j → Q3 4 j = 0) → (5 + 1 ≤ d + n) → JJ K D ((23 + i) + 1) ((359 + 2 * i) + 2) (WC ad Y (T3, e3) ++ LA aq Y 6 Q3) [(0, .ref b), (1, .ref (ad 16)), (2, .ref (aq 0)), (3, .ref (aq 1)), (4, .ref (aq 2)), (5, .ref (aq 3)), (6, .ref (aq 4)), (7, .ref (aq 5)), (8, .int (nI i)), (9, .int x_255), (10, .int (nI su)), (11, .int (nI d))] 277 [] := by
            intro n
            induction n with
            | zero =>
              intro d su S3 T3 e3 Q3 hd hsb hB3 hRR hP3 hsu hz hq4 hf277
              exact absurd hf277 (by omega)
            | succ n277 ih277 =>
              intro d su S3 T3 e3 Q3 hd hsb hB3 hRR hP3 hsu hz hq4 hf277
              refine j_iload X dL_law_277 11 rfl ?_
              refine j_iconst (v := nI 5) X dL_law_279 (by decide) ?_
              refine n_icmp_ge (tgt := 427) X dL_law_280 (by decide) (by omega) (by omega) (fun c_280 => ?_) (fun c_280 => ?_)
              · have hd5 : d = 5 := by omega
                subst hd5
                refine j_iconst (v := nI 0) X dL_law_427 (by decide) ?_
                refine j_istore X [(11, _), (0, _), (1, _), (2, _), (3, _), (4, _), (5, _), (6, _), (7, _), (8, _), (9, _), (10, _)] dL_law_428 (by decide) rfl ?_
                refine j_iconst (v := nI 0) X dL_law_430 (by decide) ?_
                refine j_istore X [(12, _), (11, _), (0, _), (1, _), (2, _), (3, _), (4, _), (5, _), (6, _), (7, _), (8, _), (9, _), (10, _)] dL_law_431 (by decide) rfl ?_
                have L433 : ∀ (n : Nat) (w my : Nat) (S3 : MS) (T3 : CT) (e3 : CE) (Q3 : MS), (w ≤ 4) → (my ≤ w) → (BD Q3) → (RR S3 T3 e3) → (PB S3 nc me (i + 1) Q3) → (my = sm (fun x => S3 10 (52 * i + x)) w) → (∀ x, w ≤ x → x < 52 → S3 10 (52 * i + x) = 0) → (4 + 1 ≤ w + n) → JJ K D ((23 + i) + 1) ((359 + 2 * i) + 2) (WC ad Y (T3, e3) ++ LA aq Y 6 Q3) [(0, .ref b), (1, .ref (ad 16)), (2, .ref (aq 0)), (3, .ref (aq 1)), (4, .ref (aq 2)), (5, .ref (aq 3)), (6, .ref (aq 4)), (7, .ref (aq 5)), (8, .int (nI i)), (9, .int x_255), (11, .int (nI my)), (12, .int (nI w))] 433 [] := by
                  intro n
                  induction n with
                  | zero =>
                    intro w my S3 T3 e3 Q3 hw hmb hB3 hRR hP3 hmy hz hf433
                    exact absurd hf433 (by omega)
                  | succ n433 ih433 =>
                    intro w my S3 T3 e3 Q3 hw hmb hB3 hRR hP3 hmy hz hf433
                    refine j_iload X dL_law_433 11 rfl ?_
                    refine j_iconst (v := nI 4) X dL_law_435 (by decide) ?_
                    refine n_icmp_ge (tgt := 523) X dL_law_436 (by decide) (by omega) (by omega) (fun c_436 => ?_) (fun c_436 => ?_)
                    · have hw4 : w = 4 := by omega
                      subst hw4
                      refine n_iinc X [(8, _), (0, _), (1, _), (2, _), (3, _), (4, _), (5, _), (6, _), (7, _), (9, _), (11, _), (12, _)] dL_law_523 (q := 8) (b := 1) rfl (by decide) (by decide) rfl ?_
                      refine j_goto (tgt := 241) X dL_law_526 (by decide) ?_
                      refine j_widen (c2 := (23 + (i + 1))) (s2 := (359 + 2 * (i + 1))) (by omega) (by omega) ?_
                      exact j_sub [1, 2, 3, 4, 5, 6, 7, 8, 0] rfl (ih241 (i + 1) S3 _ _ _ (by omega) (by exact hB3) (by exact hRR) (by exact hP3) (by omega))
                    · refine j_aload X dL_law_439 6 rfl ?_
                      refine j_iconst (v := nI 4) X dL_law_441 (by decide) ?_
                      refine j_iload X dL_law_442 8 rfl ?_
                      refine n_imul X dL_law_444 ?_
                      refine j_iload X dL_law_445 11 rfl ?_
                      refine n_iadd X dL_law_447 ?_
                      refine j_iload X dL_law_448 11 rfl ?_
                      refine j_iconst (v := nI 3) X dL_law_450 (by decide) ?_
                      refine n_icmp_ne (tgt := 458) X dL_law_451 (by decide) (by omega) (by omega) (fun c_451 => ?_) (fun c_451 => ?_)
                      · skip
                        refine j_iload X dL_law_458 9 rfl ?_
                        refine j_iload X dL_law_460 11 rfl ?_
                        refine j_ishr X dL_law_462 ?_
                        refine j_iconst (v := nI 2) X dL_law_463 (by decide) ?_
                        refine jr_callR2 X hR (m_L_low _ _ (by omega) (by omega)) m_L_112 (by decide) (by decide) (Nat.le_of_ble_eq_true rfl) ⟨by omega, by omega⟩ dL_law_464 (fun v_464 e_464 => ?_)
                        refine jl_ast X hB3 (k := 4) (by decide) (by decide) rfl (show _ < 16 by omega) (by omega) dL_law_467 (fun Q_467 eQ_467 hB_467 => ?_)
                        refine j_iload X dL_law_468 10 rfl ?_
                        refine j_aload X dL_law_470 6 rfl ?_
                        refine j_iconst (v := nI 4) X dL_law_472 (by decide) ?_
                        refine j_iload X dL_law_473 8 rfl ?_
                        refine n_imul X dL_law_475 ?_
                        refine j_iload X dL_law_476 11 rfl ?_
                        refine n_iadd X dL_law_478 ?_
                        refine jl_ald X (LA.arw (k := 4) hB_467 (by decide) (by decide)) (by show _ < 16; omega) dL_law_479 (fun v_479 e_479 b_479 => ?_)
                        have e_479 := e_479.trans ((show Q_467 4 (4 * i + w) = v_464 by rw [eQ_467, uM_eq]))
                        rw [e_479]
                        refine n_iadd X dL_law_480 ?_
                        refine j_istore X [(11, _), (0, _), (1, _), (2, _), (3, _), (4, _), (5, _), (6, _), (7, _), (8, _), (9, _), (12, _)] dL_law_481 (by decide) rfl ?_
                        refine j_aload_n X dL_law_483 rfl 2 rfl ?_
                        refine j_iload X dL_law_484 9 rfl ?_
                        refine j_iload X dL_law_486 11 rfl ?_
                        refine j_aload X dL_law_488 7 rfl ?_
                        refine j_iconst (v := nI 4) X dL_law_490 (by decide) ?_
                        refine j_iload X dL_law_491 9 rfl ?_
                        refine n_imul X dL_law_493 ?_
                        refine j_iload X dL_law_494 11 rfl ?_
                        refine n_iadd X dL_law_496 ?_
                        refine jl_ald X (LA.arw (k := 4) hB_467 (by decide) (by decide)) (by show _ < 16; omega) dL_law_497 (fun v_497 e_497 b_497 => ?_)
                        have e_497 := e_497.trans ((show Q_467 4 (4 * i + w) = v_464 by rw [eQ_467, uM_eq]))
                        rw [e_497]
                        refine j_iconst (v := nI 1) X dL_law_498 (by decide) ?_
                        refine n_icmp_ne (tgt := 506) X dL_law_499 (by decide) (by omega) (by omega) (fun c_499 => ?_) (fun c_499 => ?_)
                        · have hhs := hol_step (S := S3) (i := i) (w := w) (v := v_464) (by omega) hmy hz
                          have hha := hol_at hP3.2.1 (i := i) (w := w) (by omega) (by omega) false
                          rw [show ct false = v_464 from (show (0 : Nat) = v_464 by omega)] at hha
                          refine j_iconst (v := bI false) X dL_law_506 (by decide) ?_
                          refine jl_cI3 (mc := 0) (ms := 0) X hR (m_X6_setHoliday hRR (nI i) (nI w) false) m_L_136 rfl (by decide) (by decide) (Nat.le_of_ble_eq_true rfl) ⟨by omega, by omega⟩ dL_law_507 ?_
                          rintro _ ⟨T_507, e_507⟩ ⟨rfl, hR0_507⟩
                          have hRR_507 : RR (uM S3 10 (52 * i + w) v_464) T_507 e_507 := by rw [← hha.2]; exact hR0_507
                          rw [hha.1, hhs.2.2]
                          refine j_iload X dL_law_510 0 rfl ?_
                          refine n_icmp_eq (tgt := 517) X dL_law_512 (by decide) (by omega) (by omega) (fun c_512 => ?_) (fun c_512 => ?_)
                          · refine n_iinc X [(12, _), (11, _), (0, _), (1, _), (2, _), (3, _), (4, _), (5, _), (6, _), (7, _), (8, _), (9, _)] dL_law_517 (q := 11) (b := 1) rfl (by decide) (by decide) rfl ?_
                            refine j_goto (tgt := 433) X dL_law_520 (by decide) ?_
                            exact j_sub [2, 3, 4, 5, 6, 7, 8, 9, 10, 11, 1, 0] rfl (ih433 (w + 1) _ (uM S3 10 (52 * i + w) v_464) _ _ _ (by omega) (by omega) (by exact hB_467) (by exact hRR_507) (by rw [eQ_467]; exact hP3.hol w _ (by omega) (by omega)) (by exact hhs.1) (by exact hhs.2.1) (by omega))
                          · exact absurd rfl c_512
                        · have hhs := hol_step (S := S3) (i := i) (w := w) (v := v_464) (by omega) hmy hz
                          have hha := hol_at hP3.2.1 (i := i) (w := w) (by omega) (by omega) true
                          rw [show ct true = v_464 from c_499.symm] at hha
                          refine j_iconst (v := bI true) X dL_law_502 (by decide) ?_
                          refine j_goto (tgt := 507) X dL_law_503 (by decide) ?_
                          refine jl_cI3 (mc := 0) (ms := 0) X hR (m_X6_setHoliday hRR (nI i) (nI w) true) m_L_136 rfl (by decide) (by decide) (Nat.le_of_ble_eq_true rfl) ⟨by omega, by omega⟩ dL_law_507 ?_
                          rintro _ ⟨T_507, e_507⟩ ⟨rfl, hR0_507⟩
                          have hRR_507 : RR (uM S3 10 (52 * i + w) v_464) T_507 e_507 := by rw [← hha.2]; exact hR0_507
                          rw [hha.1, hhs.2.2]
                          refine j_iload X dL_law_510 0 rfl ?_
                          refine n_icmp_eq (tgt := 517) X dL_law_512 (by decide) (by omega) (by omega) (fun c_512 => ?_) (fun c_512 => ?_)
                          · refine n_iinc X [(12, _), (11, _), (0, _), (1, _), (2, _), (3, _), (4, _), (5, _), (6, _), (7, _), (8, _), (9, _)] dL_law_517 (q := 11) (b := 1) rfl (by decide) (by decide) rfl ?_
                            refine j_goto (tgt := 433) X dL_law_520 (by decide) ?_
                            exact j_sub [2, 3, 4, 5, 6, 7, 8, 9, 10, 11, 1, 0] rfl (ih433 (w + 1) _ (uM S3 10 (52 * i + w) v_464) _ _ _ (by omega) (by omega) (by exact hB_467) (by exact hRR_507) (by rw [eQ_467]; exact hP3.hol w _ (by omega) (by omega)) (by exact hhs.1) (by exact hhs.2.1) (by omega))
                          · exact absurd rfl c_512
                      · have hw3 : w = 3 := c_451
                        refine j_iconst (v := nI 0) X dL_law_454 (by decide) ?_
                        refine j_goto (tgt := 467) X dL_law_455 (by decide) ?_
                        refine jl_ast X hB3 (k := 4) (by decide) (by decide) rfl (show _ < 16 by omega) (by omega) dL_law_467 (fun Q_467 eQ_467 hB_467 => ?_)
                        refine j_iload X dL_law_468 10 rfl ?_
                        refine j_aload X dL_law_470 6 rfl ?_
                        refine j_iconst (v := nI 4) X dL_law_472 (by decide) ?_
                        refine j_iload X dL_law_473 8 rfl ?_
                        refine n_imul X dL_law_475 ?_
                        refine j_iload X dL_law_476 11 rfl ?_
                        refine n_iadd X dL_law_478 ?_
                        refine jl_ald X (LA.arw (k := 4) hB_467 (by decide) (by decide)) (by show _ < 16; omega) dL_law_479 (fun v_479 e_479 b_479 => ?_)
                        have e_479 := e_479.trans ((show Q_467 4 (4 * i + w) = 0 by rw [eQ_467, uM_eq]))
                        subst e_479
                        refine n_iadd X dL_law_480 ?_
                        refine j_istore X [(11, _), (0, _), (1, _), (2, _), (3, _), (4, _), (5, _), (6, _), (7, _), (8, _), (9, _), (12, _)] dL_law_481 (by decide) rfl ?_
                        refine j_aload_n X dL_law_483 rfl 2 rfl ?_
                        refine j_iload X dL_law_484 9 rfl ?_
                        refine j_iload X dL_law_486 11 rfl ?_
                        refine j_aload X dL_law_488 7 rfl ?_
                        refine j_iconst (v := nI 4) X dL_law_490 (by decide) ?_
                        refine j_iload X dL_law_491 9 rfl ?_
                        refine n_imul X dL_law_493 ?_
                        refine j_iload X dL_law_494 11 rfl ?_
                        refine n_iadd X dL_law_496 ?_
                        refine jl_ald X (LA.arw (k := 4) hB_467 (by decide) (by decide)) (by show _ < 16; omega) dL_law_497 (fun v_497 e_497 b_497 => ?_)
                        have e_497 := e_497.trans ((show Q_467 4 (4 * i + w) = 0 by rw [eQ_467, uM_eq]))
                        subst e_497
                        refine j_iconst (v := nI 1) X dL_law_498 (by decide) ?_
                        refine n_icmp_ne (tgt := 506) X dL_law_499 (by decide) (by omega) (by omega) (fun c_499 => ?_) (fun c_499 => ?_)
                        · have hhs := hol_step (S := S3) (i := i) (w := w) (v := 0) (by omega) hmy hz
                          have hha := hol_at hP3.2.1 (i := i) (w := w) (by omega) (by omega) false
                          rw [show ct false = 0 from rfl] at hha
                          refine j_iconst (v := bI false) X dL_law_506 (by decide) ?_
                          refine jl_cI3 (mc := 0) (ms := 0) X hR (m_X6_setHoliday hRR (nI i) (nI w) false) m_L_136 rfl (by decide) (by decide) (Nat.le_of_ble_eq_true rfl) ⟨by omega, by omega⟩ dL_law_507 ?_
                          rintro _ ⟨T_507, e_507⟩ ⟨rfl, hR0_507⟩
                          have hRR_507 : RR (uM S3 10 (52 * i + w) 0) T_507 e_507 := by rw [← hha.2]; exact hR0_507
                          rw [hha.1, hhs.2.2]
                          refine j_iload X dL_law_510 0 rfl ?_
                          refine n_icmp_eq (tgt := 517) X dL_law_512 (by decide) (by omega) (by omega) (fun c_512 => ?_) (fun c_512 => ?_)
                          · refine n_iinc X [(12, _), (11, _), (0, _), (1, _), (2, _), (3, _), (4, _), (5, _), (6, _), (7, _), (8, _), (9, _)] dL_law_517 (q := 11) (b := 1) rfl (by decide) (by decide) rfl ?_
                            refine j_goto (tgt := 433) X dL_law_520 (by decide) ?_
                            exact j_sub [2, 3, 4, 5, 6, 7, 8, 9, 10, 11, 1, 0] rfl (ih433 (w + 1) _ (uM S3 10 (52 * i + w) 0) _ _ _ (by omega) (by omega) (by exact hB_467) (by exact hRR_507) (by rw [eQ_467]; exact hP3.hol w _ (by omega) (by omega)) (by exact hhs.1) (by exact hhs.2.1) (by omega))
                          · exact absurd rfl c_512
                        · exact absurd c_499 (by decide)
                exact j_sub [2, 3, 4, 5, 6, 7, 8, 9, 10, 11, 1, 0] rfl (L433 5 0 0 S3 _ _ _ (by omega) (by omega) (by exact hB3) (by exact hRR) (by exact hP3) (by rfl) (by intro x _ hx; rw [hP3.2.1.2.2.2 i x (by omega) hx]; split <;> first | exact hq4 _ (by omega) | rfl) (by omega))
              · refine j_aload_n X dL_law_283 rfl 0 rfl ?_
                refine j_bipush (v := nI 8) X dL_law_284 (by decide) ?_
                refine j_iconst (v := nI 5) X dL_law_286 (by decide) ?_
                refine j_iload X dL_law_287 8 rfl ?_
                refine n_imul X dL_law_289 ?_
                refine n_iadd X dL_law_290 ?_
                refine j_iload X dL_law_291 11 rfl ?_
                refine n_iadd X dL_law_293 ?_
                refine jx_cell X hX hbl hbA hR (m_L_cell hL260 _ (by omega)) m_L_116 (by decide) (Nat.le_of_ble_eq_true rfl) ⟨by omega, by omega⟩ dL_law_294 (fun x_294 => ?_)
                refine j_istore X [(12, _), (0, _), (1, _), (2, _), (3, _), (4, _), (5, _), (6, _), (7, _), (8, _), (9, _), (10, _), (11, _)] dL_law_297 (by decide) rfl ?_
                refine j_aload X dL_law_299 6 rfl ?_
                refine j_bipush (v := nI 10) X dL_law_301 (by decide) ?_
                refine j_iload X dL_law_303 9 rfl ?_
                refine n_imul X dL_law_305 ?_
                refine j_iconst (v := nI 2) X dL_law_306 (by decide) ?_
                refine j_iload X dL_law_307 12 rfl ?_
                refine n_imul X dL_law_309 ?_
                refine n_iadd X dL_law_310 ?_
                refine j_iload X dL_law_311 0 rfl ?_
                refine j_iconst (v := nI 3) X dL_law_313 (by decide) ?_
                refine jr_callR2 X hR (m_L_low _ _ (by omega) (by omega)) m_L_112 (by decide) (by decide) (Nat.le_of_ble_eq_true rfl) ⟨by omega, by omega⟩ dL_law_314 (fun v_314 e_314 => ?_)
                refine jl_ast X hB3 (k := 3) (by decide) (by decide) rfl (show _ < 30 by omega) (by omega) dL_law_317 (fun Q_317 eQ_317 hB_317 => ?_)
                refine j_aload X dL_law_318 6 rfl ?_
                refine j_bipush (v := nI 10) X dL_law_320 (by decide) ?_
                refine j_iload X dL_law_322 9 rfl ?_
                refine n_imul X dL_law_324 ?_
                refine j_iconst (v := nI 2) X dL_law_325 (by decide) ?_
                refine j_iload X dL_law_326 12 rfl ?_
                refine n_imul X dL_law_328 ?_
                refine n_iadd X dL_law_329 ?_
                refine j_iconst (v := nI 1) X dL_law_330 (by decide) ?_
                refine n_iadd X dL_law_331 ?_
                refine j_bipush (v := nI 10) X dL_law_332 (by decide) ?_
                refine j_iload X dL_law_334 0 rfl ?_
                refine j_iconst (v := nI 2) X dL_law_336 (by decide) ?_
                refine j_ishr X dL_law_337 ?_
                refine j_iconst (v := nI 4) X dL_law_338 (by decide) ?_
                refine jr_callR2 X hR (m_L_low _ _ (by omega) (by omega)) m_L_112 (by decide) (by decide) (Nat.le_of_ble_eq_true rfl) ⟨by omega, by omega⟩ dL_law_339 (fun v_339 e_339 => ?_)
                refine n_isub X dL_law_342 (by omega) ?_
                refine jl_ast X hB_317 (k := 3) (by decide) (by decide) rfl (show _ < 30 by omega) (by omega) dL_law_343 (fun Q_343 eQ_343 hB_343 => ?_)
                refine j_iload X dL_law_344 11 rfl ?_
                refine j_aload X dL_law_346 6 rfl ?_
                refine j_bipush (v := nI 10) X dL_law_348 (by decide) ?_
                refine j_iload X dL_law_350 9 rfl ?_
                refine n_imul X dL_law_352 ?_
                refine j_iconst (v := nI 2) X dL_law_353 (by decide) ?_
                refine j_iload X dL_law_354 12 rfl ?_
                refine n_imul X dL_law_356 ?_
                refine n_iadd X dL_law_357 ?_
                refine j_iconst (v := nI 1) X dL_law_358 (by decide) ?_
                refine n_iadd X dL_law_359 ?_
                refine jl_ald X (LA.arw (k := 3) hB_343 (by decide) (by decide)) (by show _ < 30; omega) dL_law_360 (fun v_360 e_360 b_360 => ?_)
                have e_360 := e_360.trans ((show Q_343 3 (10 * i + 2 * d + 1) = 10 - v_339 by rw [eQ_343, uM_eq]))
                subst e_360
                refine j_aload X dL_law_361 6 rfl ?_
                refine j_bipush (v := nI 10) X dL_law_363 (by decide) ?_
                refine j_iload X dL_law_365 9 rfl ?_
                refine n_imul X dL_law_367 ?_
                refine j_iconst (v := nI 2) X dL_law_368 (by decide) ?_
                refine j_iload X dL_law_369 12 rfl ?_
                refine n_imul X dL_law_371 ?_
                refine n_iadd X dL_law_372 ?_
                refine jl_ald X (LA.arw (k := 3) hB_343 (by decide) (by decide)) (by show _ < 30; omega) dL_law_373 (fun v_373 e_373 b_373 => ?_)
                have e_373 := e_373.trans ((show Q_343 3 (10 * i + 2 * d) = v_314 by rw [eQ_343, uM_ni (by omega), eQ_317, uM_eq]))
                rw [e_373]
                refine n_isub X dL_law_374 (by omega) ?_
                refine n_iadd X dL_law_375 ?_
                refine j_istore X [(10, _), (12, _), (0, _), (1, _), (2, _), (3, _), (4, _), (5, _), (6, _), (7, _), (8, _), (9, _), (11, _)] dL_law_376 (by decide) rfl ?_
                refine j_aload_n X dL_law_378 rfl 3 rfl ?_
                refine j_iload X dL_law_379 10 rfl ?_
                refine j_iload X dL_law_381 12 rfl ?_
                refine j_aload X dL_law_383 7 rfl ?_
                refine j_bipush (v := nI 10) X dL_law_385 (by decide) ?_
                refine j_iload X dL_law_387 10 rfl ?_
                refine n_imul X dL_law_389 ?_
                refine j_iconst (v := nI 2) X dL_law_390 (by decide) ?_
                refine j_iload X dL_law_391 12 rfl ?_
                refine n_imul X dL_law_393 ?_
                refine n_iadd X dL_law_394 ?_
                refine jl_ald X (LA.arw (k := 3) hB_343 (by decide) (by decide)) (by show _ < 30; omega) dL_law_395 (fun v_395 e_395 b_395 => ?_)
                have e_395 := e_395.trans ((show Q_343 3 (10 * i + 2 * d) = v_314 by rw [eQ_343, uM_ni (by omega), eQ_317, uM_eq]))
                rw [e_395]
                refine j_aload X dL_law_396 7 rfl ?_
                refine j_bipush (v := nI 10) X dL_law_398 (by decide) ?_
                refine j_iload X dL_law_400 10 rfl ?_
                refine n_imul X dL_law_402 ?_
                refine j_iconst (v := nI 2) X dL_law_403 (by decide) ?_
                refine j_iload X dL_law_404 12 rfl ?_
                refine n_imul X dL_law_406 ?_
                refine n_iadd X dL_law_407 ?_
                refine j_iconst (v := nI 1) X dL_law_408 (by decide) ?_
                refine n_iadd X dL_law_409 ?_
                refine jl_ald X (LA.arw (k := 3) hB_343 (by decide) (by decide)) (by show _ < 30; omega) dL_law_410 (fun v_410 e_410 b_410 => ?_)
                have e_410 := e_410.trans ((show Q_343 3 (10 * i + 2 * d + 1) = 10 - v_339 by rw [eQ_343, uM_eq]))
                subst e_410
                have hws := wk_step (S := S3) (i := i) (b := v_314) (e := 10 - v_339) (su := su) (by omega) hsu hz
                refine jl_cI4 (mc := 0) (ms := 0) X hR (m_X6_work hRR (nI i) (nI d) (nI v_314) (nI (10 - v_339))) m_L_132 rfl (by decide) (by decide) (Nat.le_of_ble_eq_true rfl) ⟨by omega, by omega⟩ dL_law_411 ?_
                rintro _ ⟨T_411, e_411⟩ ⟨rfl, hR0_411⟩
                have hwa := work_at hP3.2.1 (i := i) (d := d) (b := v_314) (e := 10 - v_339) (by omega) (by omega) (by omega) (by omega)
                have hRR_411 : RR (setSp S3 8 i d v_314 (10 - v_339)) T_411 e_411 := by rw [← hwa.2]; exact hR0_411
                rw [hwa.1, hws.2.2]
                refine j_iload X dL_law_414 0 rfl ?_
                refine n_icmp_eq (tgt := 421) X dL_law_416 (by decide) (by omega) (by omega) (fun c_416 => ?_) (fun c_416 => ?_)
                · refine n_iinc X [(11, _), (10, _), (12, _), (0, _), (1, _), (2, _), (3, _), (4, _), (5, _), (6, _), (7, _), (8, _), (9, _)] dL_law_421 (q := 12) (b := 1) rfl (by decide) (by decide) rfl ?_
                  refine j_goto (tgt := 277) X dL_law_424 (by decide) ?_
                  exact j_sub [3, 4, 5, 6, 7, 8, 9, 10, 11, 12, 1, 0] rfl (ih277 (d + 1) _ (setSp S3 8 i d v_314 (10 - v_339)) _ _ _ (by omega) (by omega) (by exact hB_343) (by exact hRR_411) (by rw [eQ_343, eQ_317]; exact hP3.work d _ _ (by omega)) (by exact hws.1) (by exact hws.2.1) (by intro j hj; rw [eQ_343, uM_nk (by decide), eQ_317, uM_nk (by decide)]; exact hq4 j hj) (by omega))
                · exact absurd rfl c_416
          exact j_sub [3, 4, 5, 6, 7, 8, 9, 10, 11, 2, 1, 0] rfl (L277 6 0 0 (newE S1 i) _ _ _ (by omega) (by omega) (by exact hB1) (by exact hRR_261) (by exact hP.add (by omega)) (by rfl) (by intro x _ hx; rw [nwE_89 (Or.inl rfl), nwE_89 (Or.inr rfl)]; exact zE_at 5 x hx) (by exact hP.2.2.2.2.2.1) (by omega))
        · exact absurd rfl c_266
  exact j_sub [1, 2, 3, 4, 5, 6, 7, 8, 0] rfl (L241 (me + 1) 0 S _ _ _ (by omega) (by exact hBQ) (by exact hRR) (by exact hP) (by omega))
end
