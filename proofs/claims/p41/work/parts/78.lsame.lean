section
variable {Y : Nat → ClassId} {ad aq : Nat → Nat} {Q S : MS} {nc me : Nat} {T : CT} {e : CE}
set_option maxRecDepth 100000 in
set_option maxHeartbeats 4000000 in
theorem m_L_same (hBQ : BD Q) (hL : LR S nc me Q) (hRR : RR S T e) : ∀ D : va_G, MT zL_same 7 0 0 D Y [.ref (ad 16), .ref (aq 0), .ref (aq 1), .ref (aq 2), .ref (aq 3), .ref (aq 4)] (WC ad Y (T, e) ++ LA aq Y 6 Q) (fun u : CS => WC ad Y u ++ LA aq Y 6 Q) (pI (fun r u => bI true = r ∧ RR S u.1 u.2)) := by
  intro D
  refine MT.of [(0, .ref (ad 16)), (1, .ref (aq 0)), (2, .ref (aq 1)), (3, .ref (aq 2)), (4, .ref (aq 3)), (5, .ref (aq 4))] (by decide) rfl (Nat.le_of_ble_eq_true rfl) ?_
  intro K hR0 X E
  have hR := RO.rm hR0
  have hB := hRR.hB
  have hI := hRR.hI
  have hQ := hL.1
  have hC := hL.2.1
  have hE := hL.2.2
  have hn5 := hC.1
  refine j_iconst (v := nI 0) X dL_same_0 (by decide) ?_
  refine j_istore X [(6, _), (0, _), (1, _), (2, _), (3, _), (4, _), (5, _)] dL_same_1 (by decide) rfl ?_
  refine j_iconst (v := nI 0) X dL_same_3 (by decide) ?_
  refine j_istore X [(7, _), (6, _), (0, _), (1, _), (2, _), (3, _), (4, _), (5, _)] dL_same_4 (by decide) rfl ?_
  refine j_iconst (v := nI 0) X dL_same_6 (by decide) ?_
  refine j_istore X [(8, _), (7, _), (6, _), (0, _), (1, _), (2, _), (3, _), (4, _), (5, _)] dL_same_7 (by decide) rfl ?_
  have L9 : ∀ (n : Nat) (i inc : Nat) (T' : CT), (i ≤ nc) → (inc = sm (payN S (-9)) i) → (RR S T' e) → (nc + 1 ≤ i + n) → JJ K D 0 0 (WC ad Y (T', e) ++ LA aq Y 6 Q) [(0, .ref (ad 16)), (1, .ref (aq 0)), (2, .ref (aq 1)), (3, .ref (aq 2)), (4, .ref (aq 3)), (5, .ref (aq 4)), (6, .int (nI inc)), (7, .int (nI 0)), (8, .int (nI i))] 9 [] := by
    intro n
    induction n with
    | zero =>
      intro i inc T' hi hinc hRR hf9
      exact absurd hf9 (by omega)
    | succ n9 ih9 =>
      intro i inc T' hi hinc hRR hf9
      refine j_iload X dL_same_9 8 rfl ?_
      refine j_aload_n X dL_same_11 rfl 1 rfl ?_
      refine j_bipush (v := nI 7) X dL_same_12 (by decide) ?_
      refine jl_ald X (LA.arw (k := 0) hBQ (by decide) (by decide)) (by show _ < 16; omega) dL_same_14 (fun v_14 e_14 b_14 => ?_)
      have e_14 := e_14.trans (hQ.2.1.1)
      refine n_icmp_ge (tgt := 378) X dL_same_15 (by decide) (by omega) (by omega) (fun c_15 => ?_) (fun c_15 => ?_)
      · have hin : i = nc := by omega
        rw [hin] at hinc
        have hincF : inc = feesN S (-9) := hinc.trans (hC.fees _).symm
        refine j_iconst (v := nI 0) X dL_same_378 (by decide) ?_
        refine j_istore X [(8, _), (0, _), (1, _), (2, _), (3, _), (4, _), (5, _), (6, _), (7, _)] dL_same_379 (by decide) rfl ?_
        have L381 : ∀ (n : Nat) (d uns : Nat) (T' : CT), (d ≤ 5) → (uns = sm (fun d => sm (fun k => ct (!safeB S d k (-9))) 10) d) → (RR S T' e) → (5 + 1 ≤ d + n) → JJ K D 0 0 (WC ad Y (T', e) ++ LA aq Y 6 Q) [(0, .ref (ad 16)), (1, .ref (aq 0)), (2, .ref (aq 1)), (3, .ref (aq 2)), (4, .ref (aq 3)), (5, .ref (aq 4)), (6, .int (nI inc)), (7, .int (nI uns)), (8, .int (nI d))] 381 [] := by
          intro n
          induction n with
          | zero =>
            intro d uns T' hd huns hRR hf381
            exact absurd hf381 (by omega)
          | succ n381 ih381 =>
            intro d uns T' hd huns hRR hf381
            refine j_iload X dL_same_381 8 rfl ?_
            refine j_iconst (v := nI 5) X dL_same_383 (by decide) ?_
            refine n_icmp_ge (tgt := 571) X dL_same_384 (by decide) (by omega) (by omega) (fun c_384 => ?_) (fun c_384 => ?_)
            · have hd5 : d = 5 := by omega
              subst hd5
              have hunF : uns = usfN S := huns
              refine j_aload_n X dL_same_571 rfl 0 rfl ?_
              refine jl_cI0 (mc := 0) (ms := 0) X hR (m_X6_income hRR) m_L_84 rfl (by decide) (by decide) (Nat.le_of_ble_eq_true rfl) ⟨by decide, by decide⟩ dL_same_572 ?_
              rintro _ _ ⟨n_572, hn_572, bn_572, rfl, rfl⟩
              refine j_iload X dL_same_575 6 rfl ?_
              refine n_icmp_ne (tgt := 604) X dL_same_577 (by decide) (by omega) (by omega) (fun c_577 => ?_) (fun c_577 => ?_)
              · exact absurd (hn_572.trans hincF.symm) c_577
              · refine j_aload_n X dL_same_580 rfl 0 rfl ?_
                refine jl_cI0 (mc := 0) (ms := 0) X hR (m_X6_unsafeHours hRR) m_L_88 rfl (by decide) (by decide) (Nat.le_of_ble_eq_true rfl) ⟨by decide, by decide⟩ dL_same_581 ?_
                rintro _ _ ⟨n_581, T_581, hn_581, bn_581, rfl, rfl, hsm_581⟩
                have hRR_581 := hRR.sm hsm_581 (by decide)
                refine j_iload X dL_same_584 7 rfl ?_
                refine n_icmp_ne (tgt := 604) X dL_same_586 (by decide) (by omega) (by omega) (fun c_586 => ?_) (fun c_586 => ?_)
                · exact absurd (hn_581.trans hunF.symm) c_586
                · refine j_aload_n X dL_same_589 rfl 0 rfl ?_
                  refine jl_cI0 (mc := 0) (ms := 0) X hR (m_X6_children hRR_581) m_L_91 rfl (by decide) (by decide) (Nat.le_of_ble_eq_true rfl) ⟨by decide, by decide⟩ dL_same_590 ?_
                  rintro _ _ ⟨n_590, hn_590, bn_590, rfl, rfl⟩
                  refine j_aload_n X dL_same_593 rfl 1 rfl ?_
                  refine j_bipush (v := nI 7) X dL_same_594 (by decide) ?_
                  refine jl_ald X (LA.arw (k := 0) hBQ (by decide) (by decide)) (by show _ < 16; omega) dL_same_596 (fun v_596 e_596 b_596 => ?_)
                  have e_596 := e_596.trans (hQ.2.1.1)
                  refine n_icmp_ne (tgt := 604) X dL_same_597 (by decide) (by omega) (by omega) (fun c_597 => ?_) (fun c_597 => ?_)
                  · exact absurd (hn_590.trans ((child_at hC).trans e_596.symm)) c_597
                  · refine j_iconst (v := bI true) X dL_same_600 (by decide) ?_
                    refine j_goto (tgt := 605) X dL_same_601 (by decide) ?_
                    exact j_zreturn X E ((T_581, e)) rfl ⟨_, rfl, rfl, hRR_581⟩ dL_same_605
            · refine j_iconst (v := nI 0) X dL_same_387 (by decide) ?_
              refine j_istore X [(9, _), (0, _), (1, _), (2, _), (3, _), (4, _), (5, _), (6, _), (7, _), (8, _)] dL_same_388 (by decide) rfl ?_
              refine j_iconst (v := nI 0) X dL_same_390 (by decide) ?_
              refine j_istore X [(10, _), (9, _), (0, _), (1, _), (2, _), (3, _), (4, _), (5, _), (6, _), (7, _), (8, _)] dL_same_391 (by decide) rfl ?_
              refine j_iconst (v := nI 0) X dL_same_393 (by decide) ?_
              refine j_istore X [(11, _), (10, _), (9, _), (0, _), (1, _), (2, _), (3, _), (4, _), (5, _), (6, _), (7, _), (8, _)] dL_same_394 (by decide) rfl ?_
              have L396 : ∀ (n : Nat) (k a b un : Nat) (T' : CT), (k ≤ 10) → (a = sm (fun k => presN S d k (-9)) k) → (b = sm (fun k => staffN S d k) k) → (b ≤ 3 * k) → (un = sm (fun d => sm (fun k => ct (!safeB S d k (-9))) 10) d + sm (fun k => ct (!safeB S d k (-9))) k) → (RR S T' e) → (10 + 1 ≤ k + n) → JJ K D 0 0 (WC ad Y (T', e) ++ LA aq Y 6 Q) [(0, .ref (ad 16)), (1, .ref (aq 0)), (2, .ref (aq 1)), (3, .ref (aq 2)), (4, .ref (aq 3)), (5, .ref (aq 4)), (6, .int (nI inc)), (7, .int (nI un)), (8, .int (nI d)), (9, .int (nI a)), (10, .int (nI b)), (11, .int (nI k))] 396 [] := by
                intro n
                induction n with
                | zero =>
                  intro k a b un T' hk ha hb hbb hun hRR hf396
                  exact absurd hf396 (by omega)
                | succ n396 ih396 =>
                  intro k a b un T' hk ha hb hbb hun hRR hf396
                  refine j_iload X dL_same_396 11 rfl ?_
                  refine j_bipush (v := nI 10) X dL_same_398 (by decide) ?_
                  refine n_icmp_ge (tgt := 537) X dL_same_400 (by decide) (by omega) (by omega) (fun c_400 => ?_) (fun c_400 => ?_)
                  · have hk10 : k = 10 := by omega
                    subst hk10
                    refine j_aload_n X dL_same_537 rfl 0 rfl ?_
                    refine j_iload X dL_same_538 8 rfl ?_
                    refine jl_cD1 (mc := 0) (ms := 0) X hR (m_X6_load hRR (nI d)) m_L_80 rfl (by decide) (by decide) (Nat.le_of_ble_eq_true rfl) ⟨by decide, by decide⟩ dL_same_540 ?_
                    rintro _ _ ⟨T_540, rfl, rfl, hsm_540⟩
                    have hRR_540 := hRR.sm hsm_540 (by decide)
                    rw [load_at (by omega) ha hb]
                    refine j_iload X dL_same_543 10 rfl ?_
                    refine n_if_ne (tgt := 552) X dL_same_545 (by decide) (by omega) (fun c_545 => ?_) (fun c_545 => ?_)
                    · have hnb : nI b ≠ 0 := fun q => c_545 ((nI_eq (by omega) (by omega)).mp (q.trans nI_0.symm))
                      have hq : quoI a b = FP.ddiv (FP.i2d (nI a)) (FP.i2d (nI b)) := if_neg c_545
                      rw [hq]
                      refine j_iload X dL_same_552 9 rfl ?_
                      refine j_i2d X dL_same_554 ?_
                      refine j_iload X dL_same_555 10 rfl ?_
                      refine j_i2d X dL_same_557 ?_
                      refine j_ddiv X dL_same_558 (hnb) ?_
                      refine j_dcmp X dL_same_559 ?_
                      rw [dcmp_n64 (quo_num hnb)]
                      refine j_if_eq (tgt := 565) X dL_same_560 (by decide) (fun c_560 => ?_) (fun c_560 => ?_)
                      · refine n_iinc X [(8, _), (0, _), (1, _), (2, _), (3, _), (4, _), (5, _), (6, _), (7, _), (9, _), (10, _), (11, _)] dL_same_565 (q := 8) (b := 1) rfl (by decide) (by decide) rfl ?_
                        refine j_goto (tgt := 381) X dL_same_568 (by decide) ?_
                        exact j_sub [1, 2, 3, 4, 5, 6, 7, 8, 0] rfl (ih381 _ _ _ (by omega) (by rw [sm_s, hun]) (by exact hRR_540) (by omega))
                      · exact absurd rfl c_560
                    · have hq : quoI a b = 0 := if_pos c_545
                      rw [hq]
                      refine j_dconst0 X dL_same_548 ?_
                      refine j_goto (tgt := 559) X dL_same_549 (by decide) ?_
                      refine j_dcmp X dL_same_559 ?_
                      rw [dcmp_n64 (by decide)]
                      refine j_if_eq (tgt := 565) X dL_same_560 (by decide) (fun c_560 => ?_) (fun c_560 => ?_)
                      · refine n_iinc X [(8, _), (0, _), (1, _), (2, _), (3, _), (4, _), (5, _), (6, _), (7, _), (9, _), (10, _), (11, _)] dL_same_565 (q := 8) (b := 1) rfl (by decide) (by decide) rfl ?_
                        refine j_goto (tgt := 381) X dL_same_568 (by decide) ?_
                        exact j_sub [1, 2, 3, 4, 5, 6, 7, 8, 0] rfl (ih381 _ _ _ (by omega) (by rw [sm_s, hun]) (by exact hRR_540) (by omega))
                      · exact absurd rfl c_560
                  · refine j_aload_n X dL_same_403 rfl 0 rfl ?_
                    refine j_iload X dL_same_404 8 rfl ?_
                    refine j_iload X dL_same_406 11 rfl ?_
                    refine jl_cI2 (mc := 0) (ms := 0) X hR (m_X6_presentN hRR d k (by omega) (by omega)) m_L_73 rfl (by decide) (by decide) (Nat.le_of_ble_eq_true rfl) ⟨by decide, by decide⟩ dL_same_408 ?_
                    rintro _ _ ⟨n_408, T_408, hn_408, bn_408, rfl, rfl, hsm_408⟩
                    have hRR_408 := hRR.sm hsm_408 (by decide)
                    refine j_iload X dL_same_411 8 rfl ?_
                    refine j_iload X dL_same_413 11 rfl ?_
                    refine j_aload_n X dL_same_415 rfl 1 rfl ?_
                    refine j_aload_n X dL_same_416 rfl 2 rfl ?_
                    refine j_aload_n X dL_same_417 rfl 3 rfl ?_
                    refine jr_callN5 X hR (m_L_present (LV.la hBQ (by decide) (by decide)) hB hI hL d k (by omega) (by omega)) m_L_20 (by decide) (by decide) (Nat.le_of_ble_eq_true rfl) ⟨by decide, by decide⟩ dL_same_418 (fun v_418 e_418 b_418 => ?_)
                    refine n_icmp_ne (tgt := 469) X dL_same_421 (by decide) (by omega) (by omega) (fun c_421 => ?_) (fun c_421 => ?_)
                    · exact absurd (hn_408.trans e_418.symm) c_421
                    · refine j_aload_n X dL_same_424 rfl 0 rfl ?_
                      refine j_iload X dL_same_425 8 rfl ?_
                      refine j_iload X dL_same_427 11 rfl ?_
                      refine jl_cI2 (mc := 0) (ms := 0) X hR (m_X6_need hRR_408 (nI d) (nI k)) m_L_76 rfl (by decide) (by decide) (Nat.le_of_ble_eq_true rfl) ⟨by decide, by decide⟩ dL_same_429 ?_
                      rintro _ _ ⟨T_429, rfl, rfl, hsm_429⟩
                      have hRR_429 := hRR_408.sm hsm_429 (by decide)
                      rw [needI_at (by omega) (by omega)]
                      refine j_iload X dL_same_432 8 rfl ?_
                      refine j_iload X dL_same_434 11 rfl ?_
                      refine j_aload_n X dL_same_436 rfl 1 rfl ?_
                      refine j_aload_n X dL_same_437 rfl 2 rfl ?_
                      refine j_aload_n X dL_same_438 rfl 3 rfl ?_
                      refine jr_callN5 X hR (m_L_need (LV.la hBQ (by decide) (by decide)) hB hI hL d k (by omega) (by omega)) m_L_24 (by decide) (by decide) (Nat.le_of_ble_eq_true rfl) ⟨by decide, by decide⟩ dL_same_439 (fun v_439 e_439 b_439 => ?_)
                      refine n_icmp_ne (tgt := 469) X dL_same_442 (by decide) (by omega) (by omega) (fun c_442 => ?_) (fun c_442 => ?_)
                      · exact absurd e_439.symm c_442
                      · refine j_aload_n X dL_same_445 rfl 0 rfl ?_
                        refine j_iload X dL_same_446 8 rfl ?_
                        refine j_iload X dL_same_448 11 rfl ?_
                        refine jl_cI2 (mc := 0) (ms := 0) X hR (m_X6_staffN hRR_429 d k (by omega) (by omega)) m_L_78 rfl (by decide) (by decide) (Nat.le_of_ble_eq_true rfl) ⟨by decide, by decide⟩ dL_same_450 ?_
                        rintro _ _ ⟨n_450, hn_450, bn_450, rfl, rfl⟩
                        refine j_iload X dL_same_453 8 rfl ?_
                        refine j_iload X dL_same_455 11 rfl ?_
                        refine j_iconst (v := (-1)) X dL_same_457 (by decide) ?_
                        refine j_aload_n X dL_same_458 rfl 1 rfl ?_
                        refine j_aload X dL_same_459 4 rfl ?_
                        refine j_aload X dL_same_461 5 rfl ?_
                        refine jr_callN6 X hR (m_L_staff (LV.la hBQ (by decide) (by decide)) hB hI hL d k (by omega) (by omega)) m_L_27 (by decide) (by decide) (Nat.le_of_ble_eq_true rfl) ⟨by decide, by decide⟩ dL_same_463 (fun v_463 e_463 b_463 => ?_)
                        refine n_icmp_eq (tgt := 471) X dL_same_466 (by decide) (by omega) (by omega) (fun c_466 => ?_) (fun c_466 => ?_)
                        · refine j_iload X dL_same_471 7 rfl ?_
                          refine j_iload X dL_same_473 8 rfl ?_
                          refine j_iload X dL_same_475 11 rfl ?_
                          refine j_aload_n X dL_same_477 rfl 1 rfl ?_
                          refine j_aload_n X dL_same_478 rfl 2 rfl ?_
                          refine j_aload_n X dL_same_479 rfl 3 rfl ?_
                          refine j_aload X dL_same_480 4 rfl ?_
                          refine j_aload X dL_same_482 5 rfl ?_
                          refine jr_callB7 X hR (m_L_safe (LV.la hBQ (by decide) (by decide)) hB hI hL d k (by omega) (by omega)) m_L_39 (by decide) (by decide) (Nat.le_of_ble_eq_true rfl) ⟨by decide, by decide⟩ dL_same_484 ?_
                          refine b_if_eq (tgt := 494) X dL_same_487 (by decide) (fun c_487 => ?_) (fun c_487 => ?_)
                          · refine j_iconst (v := nI 1) X dL_same_494 (by decide) ?_
                            refine n_iadd X dL_same_495 ?_
                            refine j_istore X [(7, _), (0, _), (1, _), (2, _), (3, _), (4, _), (5, _), (6, _), (8, _), (9, _), (10, _), (11, _)] dL_same_496 (by decide) rfl ?_
                            refine j_iload X dL_same_498 9 rfl ?_
                            refine j_iload X dL_same_500 8 rfl ?_
                            refine j_iload X dL_same_502 11 rfl ?_
                            refine j_aload_n X dL_same_504 rfl 2 rfl ?_
                            refine j_aload_n X dL_same_505 rfl 3 rfl ?_
                            refine j_aload_n X dL_same_506 rfl 4 rfl ?_
                            refine jr_callN5 X hR (m_L_present (LV.la hBQ (by decide) (by decide)) hB hI hL d k (by omega) (by omega)) m_L_20 (by decide) (by decide) (Nat.le_of_ble_eq_true rfl) ⟨by decide, by decide⟩ dL_same_507 (fun v_507 e_507 b_507 => ?_)
                            refine n_iadd X dL_same_510 ?_
                            refine j_istore X [(9, _), (7, _), (0, _), (1, _), (2, _), (3, _), (4, _), (5, _), (6, _), (8, _), (10, _), (11, _)] dL_same_511 (by decide) rfl ?_
                            refine j_iload X dL_same_513 10 rfl ?_
                            refine j_iload X dL_same_515 9 rfl ?_
                            refine j_iload X dL_same_517 11 rfl ?_
                            refine j_iconst (v := (-1)) X dL_same_519 (by decide) ?_
                            refine j_aload_n X dL_same_520 rfl 3 rfl ?_
                            refine j_aload X dL_same_521 6 rfl ?_
                            refine j_aload X dL_same_523 7 rfl ?_
                            refine jr_callN6 X hR (m_L_staff (LV.la hBQ (by decide) (by decide)) hB hI hL d k (by omega) (by omega)) m_L_27 (by decide) (by decide) (Nat.le_of_ble_eq_true rfl) ⟨by decide, by decide⟩ dL_same_525 (fun v_525 e_525 b_525 => ?_)
                            refine n_iadd X dL_same_528 ?_
                            refine j_istore X [(10, _), (9, _), (7, _), (0, _), (1, _), (2, _), (3, _), (4, _), (5, _), (6, _), (8, _), (11, _)] dL_same_529 (by decide) rfl ?_
                            refine n_iinc X [(11, _), (10, _), (9, _), (7, _), (0, _), (1, _), (2, _), (3, _), (4, _), (5, _), (6, _), (8, _)] dL_same_531 (q := 11) (b := 1) rfl (by decide) (by decide) rfl ?_
                            refine j_goto (tgt := 396) X dL_same_534 (by decide) ?_
                            exact j_sub [4, 5, 6, 7, 8, 9, 10, 3, 11, 2, 1, 0] rfl (ih396 _ _ _ _ _ (by omega) (by rw [sm_s, ← ha, e_507]) (by rw [sm_s, ← hb, e_525]) (by omega) (by rw [sm_s, ← Nat.add_assoc, ← hun, c_487]; rfl) (by exact hRR_429) (by omega))
                          · refine j_iconst (v := nI 0) X dL_same_490 (by decide) ?_
                            refine j_goto (tgt := 495) X dL_same_491 (by decide) ?_
                            refine n_iadd X dL_same_495 ?_
                            refine j_istore X [(7, _), (0, _), (1, _), (2, _), (3, _), (4, _), (5, _), (6, _), (8, _), (9, _), (10, _), (11, _)] dL_same_496 (by decide) rfl ?_
                            refine j_iload X dL_same_498 9 rfl ?_
                            refine j_iload X dL_same_500 8 rfl ?_
                            refine j_iload X dL_same_502 11 rfl ?_
                            refine j_aload_n X dL_same_504 rfl 2 rfl ?_
                            refine j_aload_n X dL_same_505 rfl 3 rfl ?_
                            refine j_aload_n X dL_same_506 rfl 4 rfl ?_
                            refine jr_callN5 X hR (m_L_present (LV.la hBQ (by decide) (by decide)) hB hI hL d k (by omega) (by omega)) m_L_20 (by decide) (by decide) (Nat.le_of_ble_eq_true rfl) ⟨by decide, by decide⟩ dL_same_507 (fun v_507 e_507 b_507 => ?_)
                            refine n_iadd X dL_same_510 ?_
                            refine j_istore X [(9, _), (7, _), (0, _), (1, _), (2, _), (3, _), (4, _), (5, _), (6, _), (8, _), (10, _), (11, _)] dL_same_511 (by decide) rfl ?_
                            refine j_iload X dL_same_513 10 rfl ?_
                            refine j_iload X dL_same_515 9 rfl ?_
                            refine j_iload X dL_same_517 11 rfl ?_
                            refine j_iconst (v := (-1)) X dL_same_519 (by decide) ?_
                            refine j_aload_n X dL_same_520 rfl 3 rfl ?_
                            refine j_aload X dL_same_521 6 rfl ?_
                            refine j_aload X dL_same_523 7 rfl ?_
                            refine jr_callN6 X hR (m_L_staff (LV.la hBQ (by decide) (by decide)) hB hI hL d k (by omega) (by omega)) m_L_27 (by decide) (by decide) (Nat.le_of_ble_eq_true rfl) ⟨by decide, by decide⟩ dL_same_525 (fun v_525 e_525 b_525 => ?_)
                            refine n_iadd X dL_same_528 ?_
                            refine j_istore X [(10, _), (9, _), (7, _), (0, _), (1, _), (2, _), (3, _), (4, _), (5, _), (6, _), (8, _), (11, _)] dL_same_529 (by decide) rfl ?_
                            refine n_iinc X [(11, _), (10, _), (9, _), (7, _), (0, _), (1, _), (2, _), (3, _), (4, _), (5, _), (6, _), (8, _)] dL_same_531 (q := 11) (b := 1) rfl (by decide) (by decide) rfl ?_
                            refine j_goto (tgt := 396) X dL_same_534 (by decide) ?_
                            exact j_sub [4, 5, 6, 7, 8, 9, 10, 3, 11, 2, 1, 0] rfl (ih396 _ _ _ _ _ (by omega) (by rw [sm_s, ← ha, e_507]) (by rw [sm_s, ← hb, e_525]) (by omega) (by rw [sm_s, ← Nat.add_assoc, ← hun, c_487]; rfl) (by exact hRR_429) (by omega))
                        · exact absurd (hn_450.trans e_463.symm) c_466
              exact j_sub [3, 4, 5, 6, 7, 8, 9, 10, 11, 2, 1, 0] rfl (L396 11 _ _ _ _ _ (by omega) (by rfl) (by rfl) (by omega) (by rw [sm_0, ← huns]; rfl) (by exact hRR) (by omega))
        exact j_sub [1, 2, 3, 4, 5, 6, 7, 8, 0] rfl (L381 6 _ _ _ (by omega) (by rfl) (by exact hRR) (by omega))
      · have h31 := (hI.2.2.1 i (by omega)).2
        refine j_aload_n X dL_same_18 rfl 2 rfl ?_
        refine j_iconst (v := nI 4) X dL_same_19 (by decide) ?_
        refine j_iload X dL_same_20 8 rfl ?_
        refine n_imul X dL_same_22 ?_
        refine j_iconst (v := nI 2) X dL_same_23 (by decide) ?_
        refine n_iadd X dL_same_24 ?_
        refine jl_ald X (LA.arw (k := 1) hBQ (by decide) (by decide)) (by show _ < 20; omega) dL_same_25 (fun v_25 e_25 b_25 => ?_)
        have e_25 := e_25.trans (hC.adm (by omega))
        subst e_25
        refine j_iconst (v := nI 1) X dL_same_26 (by decide) ?_
        refine n_icmp_ne (tgt := 34) X dL_same_27 (by decide) (by omega) (by omega) (fun c_27 => ?_) (fun c_27 => ?_)
        · have h30 : S 3 i = 0 := by omega
          refine j_iconst (v := nI 0) X dL_same_34 (by decide) ?_
          refine j_istore X [(9, _), (0, _), (1, _), (2, _), (3, _), (4, _), (5, _), (6, _), (7, _), (8, _)] dL_same_35 (by decide) rfl ?_
          refine j_aload_n X dL_same_37 rfl 1 rfl ?_
          refine j_iload X dL_same_38 9 rfl ?_
          refine jl_cI1 (mc := 0) (ms := 0) X hR (m_X6_age hRR (nI i)) m_L_47 rfl (by decide) (by decide) (Nat.le_of_ble_eq_true rfl) ⟨by decide, by decide⟩ dL_same_40 ?_
          rintro _ _ ⟨rfl, rfl⟩
          rw [age_at hC (by omega)]
          refine j_aload_n X dL_same_43 rfl 3 rfl ?_
          refine j_iconst (v := nI 4) X dL_same_44 (by decide) ?_
          refine j_iload X dL_same_45 9 rfl ?_
          refine n_imul X dL_same_47 ?_
          refine jl_ald X (LA.arw (k := 1) hBQ (by decide) (by decide)) (by show _ < 20; omega) dL_same_48 (fun v_48 e_48 b_48 => ?_)
          have e_48 := e_48.trans (hC.age (by omega))
          subst e_48
          refine n_icmp_ne (tgt := 84) X dL_same_49 (by decide) (by omega) (by omega) (fun c_49 => ?_) (fun c_49 => ?_)
          · exact absurd rfl c_49
          · refine j_aload_n X dL_same_52 rfl 1 rfl ?_
            refine j_iload X dL_same_53 9 rfl ?_
            refine jl_cI1 (mc := 0) (ms := 0) X hR (m_X6_isAdmitted hRR (nI i)) m_L_52 rfl (by decide) (by decide) (Nat.le_of_ble_eq_true rfl) ⟨by decide, by decide⟩ dL_same_55 ?_
            rintro _ _ ⟨rfl, rfl⟩
            rw [isAd_at hC (by omega)]
            refine j_aload_n X dL_same_58 rfl 3 rfl ?_
            refine j_iconst (v := nI 4) X dL_same_59 (by decide) ?_
            refine j_iload X dL_same_60 9 rfl ?_
            refine n_imul X dL_same_62 ?_
            refine j_iconst (v := nI 2) X dL_same_63 (by decide) ?_
            refine n_iadd X dL_same_64 ?_
            refine jl_ald X (LA.arw (k := 1) hBQ (by decide) (by decide)) (by show _ < 20; omega) dL_same_65 (fun v_65 e_65 b_65 => ?_)
            have e_65 := e_65.trans (hC.adm (by omega))
            subst e_65
            refine n_icmp_ne (tgt := 84) X dL_same_66 (by decide) (by omega) (by omega) (fun c_66 => ?_) (fun c_66 => ?_)
            · exact absurd rfl c_66
            · refine j_aload_n X dL_same_69 rfl 1 rfl ?_
              refine j_iload X dL_same_70 9 rfl ?_
              refine jl_cI1 (mc := 0) (ms := 0) X hR (m_X6_hours hRR (nI i)) m_L_55 rfl (by decide) (by decide) (Nat.le_of_ble_eq_true rfl) ⟨by decide, by decide⟩ dL_same_72 ?_
              rintro _ _ ⟨rfl, rfl⟩
              rw [hours_at hC (by omega)]
              refine j_iload X dL_same_75 9 rfl ?_
              refine j_aload_n X dL_same_77 rfl 4 rfl ?_
              refine jr_callN2 X hR (m_L_hoursC (LV.la hBQ (by decide) (by decide)) hC hI i (by omega)) m_L_31 (by decide) (by decide) (Nat.le_of_ble_eq_true rfl) ⟨by decide, by decide⟩ dL_same_78 (fun v_78 e_78 b_78 => ?_)
              refine n_icmp_eq (tgt := 86) X dL_same_81 (by decide) (by omega) (by omega) (fun c_81 => ?_) (fun c_81 => ?_)
              · refine j_aload_n X dL_same_86 rfl 1 rfl ?_
                refine j_iload X dL_same_87 9 rfl ?_
                refine jl_cI1 (mc := 0) (ms := 0) X hR (m_X6_points hRR (nI i)) m_L_57 rfl (by decide) (by decide) (Nat.le_of_ble_eq_true rfl) ⟨by decide, by decide⟩ dL_same_89 ?_
                rintro _ _ ⟨rfl, rfl⟩
                rw [points_at hC (by omega), if_neg (by omega)]
                refine j_iload X dL_same_92 0 rfl ?_
                refine n_if_eq (tgt := 102) X dL_same_94 (by decide) (by omega) (fun c_94 => ?_) (fun c_94 => ?_)
                · refine j_iload X dL_same_102 9 rfl ?_
                  refine j_aload_n X dL_same_104 rfl 2 rfl ?_
                  refine j_aload_n X dL_same_105 rfl 3 rfl ?_
                  refine j_aload_n X dL_same_106 rfl 4 rfl ?_
                  refine jr_callN4 X hR (m_L_points (LV.la hBQ (by decide) (by decide)) hB hI hL i (by omega)) m_L_35 (by decide) (by decide) (Nat.le_of_ble_eq_true rfl) ⟨by decide, by decide⟩ dL_same_107 (fun v_107 e_107 b_107 => ?_)
                  skip
                  refine n_icmp_ne (tgt := 167) X dL_same_110 (by decide) (by omega) (by omega) (fun c_110 => ?_) (fun c_110 => ?_)
                  · exact absurd e_107.symm c_110
                  · refine j_aload_n X dL_same_113 rfl 1 rfl ?_
                    refine j_iload X dL_same_114 9 rfl ?_
                    refine jl_cI1 (mc := 0) (ms := 0) X hR (m_X6_waited hRR (nI i)) m_L_59 rfl (by decide) (by decide) (Nat.le_of_ble_eq_true rfl) ⟨by decide, by decide⟩ dL_same_116 ?_
                    rintro _ _ ⟨rfl, rfl⟩
                    rw [waited_at hC (by omega), if_neg (by omega)]
                    refine j_iload X dL_same_119 0 rfl ?_
                    refine n_if_eq (tgt := 129) X dL_same_121 (by decide) (by omega) (fun c_121 => ?_) (fun c_121 => ?_)
                    · refine j_aload_n X dL_same_129 rfl 3 rfl ?_
                      refine j_iconst (v := nI 4) X dL_same_130 (by decide) ?_
                      refine j_iload X dL_same_131 9 rfl ?_
                      refine n_imul X dL_same_133 ?_
                      refine j_iconst (v := nI 3) X dL_same_134 (by decide) ?_
                      refine n_iadd X dL_same_135 ?_
                      refine jl_ald X (LA.arw (k := 1) hBQ (by decide) (by decide)) (by show _ < 20; omega) dL_same_136 (fun v_136 e_136 b_136 => ?_)
                      have e_136 := e_136.trans (hC.wtd (by omega))
                      subst e_136
                      refine n_icmp_ne (tgt := 167) X dL_same_137 (by decide) (by omega) (by omega) (fun c_137 => ?_) (fun c_137 => ?_)
                      · exact absurd rfl c_137
                      · refine j_aload_n X dL_same_140 rfl 1 rfl ?_
                        refine j_iload X dL_same_141 9 rfl ?_
                        refine jl_cI1 (mc := 0) (ms := 0) X hR (m_X6_fee hRR (nI i)) m_L_62 rfl (by decide) (by decide) (Nat.le_of_ble_eq_true rfl) ⟨by decide, by decide⟩ dL_same_143 ?_
                        rintro _ _ ⟨rfl, rfl⟩
                        rw [fee_at hC (by omega), if_pos h30]
                        refine j_iload X dL_same_146 0 rfl ?_
                        refine n_if_eq (tgt := 162) X dL_same_148 (by decide) (by omega) (fun c_148 => ?_) (fun c_148 => ?_)
                        · refine j_bipush (v := (-2)) X dL_same_162 (by decide) ?_
                          refine j_icmp_eq (tgt := 169) X dL_same_164 (by decide) (fun c_164 => ?_) (fun c_164 => ?_)
                          · refine j_iload X dL_same_169 7 rfl ?_
                            refine j_iload X dL_same_171 0 rfl ?_
                            refine n_if_eq (tgt := 187) X dL_same_173 (by decide) (by omega) (fun c_173 => ?_) (fun c_173 => ?_)
                            · refine j_iconst (v := nI 0) X dL_same_187 (by decide) ?_
                              refine n_iadd X dL_same_188 ?_
                              refine j_istore X [(6, _), (9, _), (0, _), (1, _), (2, _), (3, _), (4, _), (5, _), (7, _), (8, _)] dL_same_189 (by decide) rfl ?_
                              refine j_iload X dL_same_191 1 rfl ?_
                              refine n_if_eq (tgt := 199) X dL_same_193 (by decide) (by omega) (fun c_193 => ?_) (fun c_193 => ?_)
                              · refine j_iconst (v := nI 0) X dL_same_199 (by decide) ?_
                                refine j_istore X [(10, _), (6, _), (9, _), (0, _), (1, _), (2, _), (3, _), (4, _), (5, _), (7, _), (8, _)] dL_same_200 (by decide) rfl ?_
                                refine j_iconst (v := nI 0) X dL_same_202 (by decide) ?_
                                refine j_istore X [(11, _), (10, _), (6, _), (9, _), (0, _), (1, _), (2, _), (3, _), (4, _), (5, _), (7, _), (8, _)] dL_same_203 (by decide) rfl ?_
                                have L205 : ∀ (n : Nat) (k p : Nat), (k ≤ nc) → (p = sm (fun k => ct (plcB S i k)) k) → (nc + 1 ≤ k + n) → JJ K D 0 0 (WC ad Y (T', e) ++ LA aq Y 6 Q) [(0, .ref (ad 16)), (1, .ref (aq 0)), (2, .ref (aq 1)), (3, .ref (aq 2)), (4, .ref (aq 3)), (5, .ref (aq 4)), (6, .int (nI inc)), (7, .int (nI 0)), (8, .int (nI i)), (9, .int (nI 0)), (10, .int (nI p)), (11, .int (nI k))] 205 [] := by
                                  intro n
                                  induction n with
                                  | zero =>
                                    intro k p hk hp hf205
                                    exact absurd hf205 (by omega)
                                  | succ n205 ih205 =>
                                    intro k p hk hp hf205
                                    refine j_iload X dL_same_205 11 rfl ?_
                                    refine j_aload_n X dL_same_207 rfl 1 rfl ?_
                                    refine j_bipush (v := nI 7) X dL_same_208 (by decide) ?_
                                    refine jl_ald X (LA.arw (k := 0) hBQ (by decide) (by decide)) (by show _ < 16; omega) dL_same_210 (fun v_210 e_210 b_210 => ?_)
                                    have e_210 := e_210.trans (hQ.2.1.1)
                                    refine n_icmp_ge (tgt := 261) X dL_same_211 (by decide) (by omega) (by omega) (fun c_211 => ?_) (fun c_211 => ?_)
                                    · have hkn : k = nc := by omega
                                      rw [hkn] at hp
                                      have hple : sm (fun k => ct (plcB S i k)) nc ≤ nc * 1 := sm_le (fun i hi => ct_le _)
                                      have hpl : p = placeN S i := hp.trans (hC.place i).symm
                                      refine j_aload_n X dL_same_261 rfl 2 rfl ?_
                                      refine j_iconst (v := nI 4) X dL_same_262 (by decide) ?_
                                      refine j_iload X dL_same_263 8 rfl ?_
                                      refine n_imul X dL_same_265 ?_
                                      refine j_iconst (v := nI 2) X dL_same_266 (by decide) ?_
                                      refine n_iadd X dL_same_267 ?_
                                      refine j_iconst (v := nI 1) X dL_same_268 (by decide) ?_
                                      refine jl_ast X hBQ (k := 1) (by decide) (by decide) rfl (show _ < 20 by omega) (by omega) dL_same_269 (fun Q_269 eQ_269 hB_269 => ?_)
                                      obtain ⟨S1, hS1⟩ : ∃ S' : MS, S' = uM S 3 i 1 := ⟨_, rfl⟩
                                      have hL1 : LR S1 nc me Q_269 := by rw [hS1, eQ_269]; exact hL.adm1 (by omega) 1
                                      have hC1 := hL1.2.1
                                      have hB1 : BD S1 := by rw [hS1]; exact BD_u hB (by omega)
                                      have hI1 : IV S1 := by rw [hS1]; exact IV_adm hI (by omega)
                                      have h2i : S1 2 i = S 2 i := by rw [hS1, uM_nk (by omega)]
                                      have hw1 : isWt S i = true := by rw [wt_at hC (show i < nc by omega), h30]; simp
                                      have hQ0 : Q 1 (4 * i + 2) = 0 := (hC.adm (by omega)).trans h30
                                      refine j_iconst (v := nI 0) X dL_same_270 (by decide) ?_
                                      refine j_istore X [(11, _), (0, _), (1, _), (2, _), (3, _), (4, _), (5, _), (6, _), (7, _), (8, _), (9, _), (10, _)] dL_same_271 (by decide) rfl ?_
                                      refine j_iconst (v := nI 0) X dL_same_273 (by decide) ?_
                                      refine j_istore X [(12, _), (11, _), (0, _), (1, _), (2, _), (3, _), (4, _), (5, _), (6, _), (7, _), (8, _), (9, _), (10, _)] dL_same_274 (by decide) rfl ?_
                                      have L276 : ∀ (n : Nat) (k w : Nat), (k ≤ nc) → (w ≤ 1000000 * k) → (w = sm (payN S1 (nI (S 2 i))) k) → (nc + 1 ≤ k + n) → JJ K D 0 0 (WC ad Y (T', e) ++ LA aq Y 6 Q_269) [(0, .ref (ad 16)), (1, .ref (aq 0)), (2, .ref (aq 1)), (3, .ref (aq 2)), (4, .ref (aq 3)), (5, .ref (aq 4)), (6, .int (nI inc)), (7, .int (nI 0)), (8, .int (nI i)), (9, .int (nI 0)), (10, .int (nI p)), (11, .int (nI w)), (12, .int (nI k))] 276 [] := by
                                        intro n
                                        induction n with
                                        | zero =>
                                          intro k w hk hwb hw hf276
                                          exact absurd hf276 (by omega)
                                        | succ n276 ih276 =>
                                          intro k w hk hwb hw hf276
                                          refine j_iload X dL_same_276 12 rfl ?_
                                          refine j_aload_n X dL_same_278 rfl 1 rfl ?_
                                          refine j_bipush (v := nI 7) X dL_same_279 (by decide) ?_
                                          refine jl_ald X (LA.arw (k := 0) hB_269 (by decide) (by decide)) (by show _ < 16; omega) dL_same_281 (fun v_281 e_281 b_281 => ?_)
                                          have e_281 := e_281.trans (hL1.1.2.1.1)
                                          refine n_icmp_ge (tgt := 339) X dL_same_282 (by decide) (by omega) (by omega) (fun c_282 => ?_) (fun c_282 => ?_)
                                          · have hkn2 : k = nc := by omega
                                            rw [hkn2] at hw
                                            have hwf : w = feesN S1 (nI (S 2 i)) := hw.trans (hC1.fees _).symm
                                            refine j_aload_n X dL_same_339 rfl 2 rfl ?_
                                            refine j_iconst (v := nI 4) X dL_same_340 (by decide) ?_
                                            refine j_iload X dL_same_341 8 rfl ?_
                                            refine n_imul X dL_same_343 ?_
                                            refine j_iconst (v := nI 2) X dL_same_344 (by decide) ?_
                                            refine n_iadd X dL_same_345 ?_
                                            refine j_iconst (v := nI 0) X dL_same_346 (by decide) ?_
                                            refine jl_ast X hB_269 (k := 1) (by decide) (by decide) rfl (show _ < 20 by omega) (by omega) dL_same_347 (fun Q_347 eQ_347 hB_347 => ?_)
                                            have hq : Q_347 = Q := by rw [eQ_347, eQ_269]; exact uQ_back hQ0
                                            rw [hq]
                                            refine j_aload_n X dL_same_348 rfl 0 rfl ?_
                                            refine j_iload X dL_same_349 10 rfl ?_
                                            refine jl_cI1 (mc := 0) (ms := 0) X hR (m_X6_waiting hRR (nI p)) m_L_67 rfl (by decide) (by decide) (Nat.le_of_ble_eq_true rfl) ⟨by decide, by decide⟩ dL_same_351 ?_
                                            rintro _ _ ⟨T_351, rfl, rfl, hsm_351⟩
                                            have hRR_351 := hRR.sm hsm_351 (by decide)
                                            rw [wtg_at hI (by omega) hw1 hpl (by omega)]
                                            refine j_iload X dL_same_354 8 rfl ?_
                                            refine n_icmp_ne (tgt := 370) X dL_same_356 (by decide) (by omega) (by omega) (fun c_356 => ?_) (fun c_356 => ?_)
                                            · exact absurd rfl c_356
                                            · refine j_aload_n X dL_same_359 rfl 0 rfl ?_
                                              refine j_iload X dL_same_360 8 rfl ?_
                                              refine jl_cI1 (mc := 0) (ms := 0) X hR (m_X6_familyFeeIfAdmitted hRR_351 (nI i)) m_L_70 rfl (by decide) (by decide) (Nat.le_of_ble_eq_true rfl) ⟨by decide, by decide⟩ dL_same_362 ?_
                                              rintro _ _ ⟨rfl, rfl⟩
                                              rw [ff_at hC (by omega), if_neg (by omega), ← hS1, ← hwf]
                                              refine j_iload X dL_same_365 11 rfl ?_
                                              refine n_icmp_eq (tgt := 372) X dL_same_367 (by decide) (by omega) (by omega) (fun c_367 => ?_) (fun c_367 => ?_)
                                              · refine n_iinc X [(8, _), (0, _), (1, _), (2, _), (3, _), (4, _), (5, _), (6, _), (7, _), (9, _), (10, _), (11, _), (12, _)] dL_same_372 (q := 8) (b := 1) rfl (by decide) (by decide) rfl ?_
                                                refine j_goto (tgt := 9) X dL_same_375 (by decide) ?_
                                                exact j_sub [1, 2, 3, 4, 5, 6, 7, 8, 0] rfl (ih9 _ _ _ (by omega) (by rw [sm_s, ← hinc, pay_9 hC (show i < nc by omega), if_neg (by omega), Nat.add_zero]) (by exact hRR_351) (by omega))
                                              · exact absurd rfl c_367
                                          · refine j_iload X dL_same_285 11 rfl ?_
                                            refine j_aload_n X dL_same_287 rfl 2 rfl ?_
                                            refine j_iconst (v := nI 4) X dL_same_288 (by decide) ?_
                                            refine j_iload X dL_same_289 12 rfl ?_
                                            refine n_imul X dL_same_291 ?_
                                            refine j_iconst (v := nI 2) X dL_same_292 (by decide) ?_
                                            refine n_iadd X dL_same_293 ?_
                                            refine jl_ald X (LA.arw (k := 1) hB_269 (by decide) (by decide)) (by show _ < 20; omega) dL_same_294 (fun v_294 e_294 b_294 => ?_)
                                            have e_294 := e_294.trans (hL1.2.1.adm (by omega))
                                            subst e_294
                                            refine j_iconst (v := nI 1) X dL_same_295 (by decide) ?_
                                            refine n_icmp_ne (tgt := 329) X dL_same_296 (by decide) (by omega) (by omega) (fun c_296 => ?_) (fun c_296 => ?_)
                                            · skip
                                              refine j_iconst (v := nI 0) X dL_same_329 (by decide) ?_
                                              refine n_iadd X dL_same_330 ?_
                                              refine j_istore X [(11, _), (0, _), (1, _), (2, _), (3, _), (4, _), (5, _), (6, _), (7, _), (8, _), (9, _), (10, _), (12, _)] dL_same_331 (by decide) rfl ?_
                                              refine n_iinc X [(12, _), (11, _), (0, _), (1, _), (2, _), (3, _), (4, _), (5, _), (6, _), (7, _), (8, _), (9, _), (10, _)] dL_same_333 (q := 12) (b := 1) rfl (by decide) (by decide) rfl ?_
                                              refine j_goto (tgt := 276) X dL_same_336 (by decide) ?_
                                              exact j_sub [2, 3, 4, 5, 6, 7, 8, 9, 10, 11, 12, 1, 0] rfl (ih276 _ _ (by omega) (by omega) (by rw [sm_s, ← hw, pay_f hC1 hB1 (show k < nc by omega) (S 2 i) (hB _ _), ← h2i]; simp [c_282, c_296]) (by omega))
                                            · refine j_aload_n X dL_same_299 rfl 2 rfl ?_
                                              refine j_iconst (v := nI 4) X dL_same_300 (by decide) ?_
                                              refine j_iload X dL_same_301 12 rfl ?_
                                              refine n_imul X dL_same_303 ?_
                                              refine j_iconst (v := nI 1) X dL_same_304 (by decide) ?_
                                              refine n_iadd X dL_same_305 ?_
                                              refine jl_ald X (LA.arw (k := 1) hB_269 (by decide) (by decide)) (by show _ < 20; omega) dL_same_306 (fun v_306 e_306 b_306 => ?_)
                                              have e_306 := e_306.trans (hL1.2.1.fam (by omega))
                                              subst e_306
                                              refine j_aload_n X dL_same_307 rfl 2 rfl ?_
                                              refine j_iconst (v := nI 4) X dL_same_308 (by decide) ?_
                                              refine j_iload X dL_same_309 8 rfl ?_
                                              refine n_imul X dL_same_311 ?_
                                              refine j_iconst (v := nI 1) X dL_same_312 (by decide) ?_
                                              refine n_iadd X dL_same_313 ?_
                                              refine jl_ald X (LA.arw (k := 1) hB_269 (by decide) (by decide)) (by show _ < 20; omega) dL_same_314 (fun v_314 e_314 b_314 => ?_)
                                              have e_314 := e_314.trans (hL1.2.1.fam (by omega))
                                              subst e_314
                                              refine n_icmp_ne (tgt := 329) X dL_same_315 (by decide) (by omega) (by omega) (fun c_315 => ?_) (fun c_315 => ?_)
                                              · skip
                                                refine j_iconst (v := nI 0) X dL_same_329 (by decide) ?_
                                                refine n_iadd X dL_same_330 ?_
                                                refine j_istore X [(11, _), (0, _), (1, _), (2, _), (3, _), (4, _), (5, _), (6, _), (7, _), (8, _), (9, _), (10, _), (12, _)] dL_same_331 (by decide) rfl ?_
                                                refine n_iinc X [(12, _), (11, _), (0, _), (1, _), (2, _), (3, _), (4, _), (5, _), (6, _), (7, _), (8, _), (9, _), (10, _)] dL_same_333 (q := 12) (b := 1) rfl (by decide) (by decide) rfl ?_
                                                refine j_goto (tgt := 276) X dL_same_336 (by decide) ?_
                                                exact j_sub [2, 3, 4, 5, 6, 7, 8, 9, 10, 11, 12, 1, 0] rfl (ih276 _ _ (by omega) (by omega) (by rw [sm_s, ← hw, pay_f hC1 hB1 (show k < nc by omega) (S 2 i) (hB _ _), ← h2i]; simp [c_282, c_296, c_315]) (by omega))
                                              · refine j_iload X dL_same_318 12 rfl ?_
                                                refine j_aload_n X dL_same_320 rfl 1 rfl ?_
                                                refine j_aload_n X dL_same_321 rfl 2 rfl ?_
                                                refine j_aload_n X dL_same_322 rfl 3 rfl ?_
                                                refine jr_callN4 X hR (m_L_fee (LV.la hB_269 (by decide) (by decide)) hB1 hI1 hL1 k (by omega)) m_L_65 (by decide) (by decide) (Nat.le_of_ble_eq_true rfl) ⟨by decide, by decide⟩ dL_same_323 (fun v_323 e_323 b_323 => ?_)
                                                skip
                                                refine j_goto (tgt := 330) X dL_same_326 (by decide) ?_
                                                refine n_iadd X dL_same_330 ?_
                                                refine j_istore X [(11, _), (0, _), (1, _), (2, _), (3, _), (4, _), (5, _), (6, _), (7, _), (8, _), (9, _), (10, _), (12, _)] dL_same_331 (by decide) rfl ?_
                                                refine n_iinc X [(12, _), (11, _), (0, _), (1, _), (2, _), (3, _), (4, _), (5, _), (6, _), (7, _), (8, _), (9, _), (10, _)] dL_same_333 (q := 12) (b := 1) rfl (by decide) (by decide) rfl ?_
                                                refine j_goto (tgt := 276) X dL_same_336 (by decide) ?_
                                                exact j_sub [2, 3, 4, 5, 6, 7, 8, 9, 10, 11, 12, 1, 0] rfl (ih276 _ _ (by omega) (by omega) (by rw [sm_s, ← hw, pay_f hC1 hB1 (show k < nc by omega) (S 2 i) (hB _ _), ← h2i]; simp [c_282, c_296, c_315, e_323]) (by omega))
                                      exact j_sub [2, 3, 4, 5, 6, 7, 8, 9, 10, 11, 12, 1, 0] rfl (L276 (nc + 1) _ _ (by omega) (by omega) (by rfl) (by omega))
                                    · refine j_iload X dL_same_214 10 rfl ?_
                                      refine j_iload X dL_same_216 11 rfl ?_
                                      refine j_iload X dL_same_218 8 rfl ?_
                                      refine n_icmp_eq (tgt := 251) X dL_same_220 (by decide) (by omega) (by omega) (fun c_220 => ?_) (fun c_220 => ?_)
                                      · refine j_iconst (v := nI 0) X dL_same_251 (by decide) ?_
                                        refine n_iadd X dL_same_252 ?_
                                        refine j_istore X [(10, _), (0, _), (1, _), (2, _), (3, _), (4, _), (5, _), (6, _), (7, _), (8, _), (9, _), (11, _)] dL_same_253 (by decide) rfl ?_
                                        refine n_iinc X [(11, _), (10, _), (0, _), (1, _), (2, _), (3, _), (4, _), (5, _), (6, _), (7, _), (8, _), (9, _)] dL_same_255 (q := 11) (b := 1) rfl (by decide) (by decide) rfl ?_
                                        refine j_goto (tgt := 205) X dL_same_258 (by decide) ?_
                                        exact j_sub [2, 3, 4, 5, 6, 7, 8, 9, 10, 11, 1, 0] rfl (ih205 _ _ (by omega) (by rw [sm_s, ← hp, plc_is hC (show k < nc by omega)]; simp [ct, c_211, c_220]) (by omega))
                                      · refine j_aload_n X dL_same_223 rfl 2 rfl ?_
                                        refine j_iconst (v := nI 4) X dL_same_224 (by decide) ?_
                                        refine j_iload X dL_same_225 11 rfl ?_
                                        refine n_imul X dL_same_227 ?_
                                        refine j_iconst (v := nI 2) X dL_same_228 (by decide) ?_
                                        refine n_iadd X dL_same_229 ?_
                                        refine jl_ald X (LA.arw (k := 1) hBQ (by decide) (by decide)) (by show _ < 20; omega) dL_same_230 (fun v_230 e_230 b_230 => ?_)
                                        have e_230 := e_230.trans (hC.adm (by omega))
                                        subst e_230
                                        refine n_if_ne (tgt := 251) X dL_same_231 (by decide) (by omega) (fun c_231 => ?_) (fun c_231 => ?_)
                                        · refine j_iconst (v := nI 0) X dL_same_251 (by decide) ?_
                                          refine n_iadd X dL_same_252 ?_
                                          refine j_istore X [(10, _), (0, _), (1, _), (2, _), (3, _), (4, _), (5, _), (6, _), (7, _), (8, _), (9, _), (11, _)] dL_same_253 (by decide) rfl ?_
                                          refine n_iinc X [(11, _), (10, _), (0, _), (1, _), (2, _), (3, _), (4, _), (5, _), (6, _), (7, _), (8, _), (9, _)] dL_same_255 (q := 11) (b := 1) rfl (by decide) (by decide) rfl ?_
                                          refine j_goto (tgt := 205) X dL_same_258 (by decide) ?_
                                          exact j_sub [2, 3, 4, 5, 6, 7, 8, 9, 10, 11, 1, 0] rfl (ih205 _ _ (by omega) (by rw [sm_s, ← hp, plc_is hC (show k < nc by omega)]; simp [ct, c_211, c_220, c_231]) (by omega))
                                        · refine j_iload X dL_same_234 11 rfl ?_
                                          refine j_iload X dL_same_236 8 rfl ?_
                                          refine j_aload_n X dL_same_238 rfl 1 rfl ?_
                                          refine j_aload_n X dL_same_239 rfl 2 rfl ?_
                                          refine j_aload_n X dL_same_240 rfl 3 rfl ?_
                                          refine jr_callB5 X hR (m_L_before (LV.la hBQ (by decide) (by decide)) hB hI hL k i (by omega) (by omega)) m_L_43 (by decide) (by decide) (Nat.le_of_ble_eq_true rfl) ⟨by decide, by decide⟩ dL_same_241 ?_
                                          refine b_if_eq (tgt := 251) X dL_same_244 (by decide) (fun c_244 => ?_) (fun c_244 => ?_)
                                          · refine j_iconst (v := nI 0) X dL_same_251 (by decide) ?_
                                            refine n_iadd X dL_same_252 ?_
                                            refine j_istore X [(10, _), (0, _), (1, _), (2, _), (3, _), (4, _), (5, _), (6, _), (7, _), (8, _), (9, _), (11, _)] dL_same_253 (by decide) rfl ?_
                                            refine n_iinc X [(11, _), (10, _), (0, _), (1, _), (2, _), (3, _), (4, _), (5, _), (6, _), (7, _), (8, _), (9, _)] dL_same_255 (q := 11) (b := 1) rfl (by decide) (by decide) rfl ?_
                                            refine j_goto (tgt := 205) X dL_same_258 (by decide) ?_
                                            exact j_sub [2, 3, 4, 5, 6, 7, 8, 9, 10, 11, 1, 0] rfl (ih205 _ _ (by omega) (by rw [sm_s, ← hp, plc_is hC (show k < nc by omega)]; simp [ct, c_211, c_220, c_231, c_244]) (by omega))
                                          · refine j_iconst (v := nI 1) X dL_same_247 (by decide) ?_
                                            refine j_goto (tgt := 252) X dL_same_248 (by decide) ?_
                                            refine n_iadd X dL_same_252 ?_
                                            refine j_istore X [(10, _), (0, _), (1, _), (2, _), (3, _), (4, _), (5, _), (6, _), (7, _), (8, _), (9, _), (11, _)] dL_same_253 (by decide) rfl ?_
                                            refine n_iinc X [(11, _), (10, _), (0, _), (1, _), (2, _), (3, _), (4, _), (5, _), (6, _), (7, _), (8, _), (9, _)] dL_same_255 (q := 11) (b := 1) rfl (by decide) (by decide) rfl ?_
                                            refine j_goto (tgt := 205) X dL_same_258 (by decide) ?_
                                            exact j_sub [2, 3, 4, 5, 6, 7, 8, 9, 10, 11, 1, 0] rfl (ih205 _ _ (by omega) (by rw [sm_s, ← hp, plc_is hC (show k < nc by omega)]; simp [ct, c_211, c_220, c_231, c_244]) (by omega))
                                exact j_sub [4, 5, 6, 7, 8, 9, 2, 10, 11, 3, 1, 0] rfl (L205 (nc + 1) _ _ (by omega) (by rfl) (by omega))
                              · exact absurd c_193 (by omega)
                            · exact absurd c_173 (by omega)
                          · exact absurd rfl c_164
                        · exact absurd c_148 (by omega)
                    · exact absurd c_121 (by omega)
                · exact absurd c_94 (by omega)
              · exact absurd e_78.symm c_81
        · have h3i : S 3 i = 1 := c_27
          refine j_iconst (v := nI 1) X dL_same_30 (by decide) ?_
          refine j_goto (tgt := 35) X dL_same_31 (by decide) ?_
          refine j_istore X [(9, _), (0, _), (1, _), (2, _), (3, _), (4, _), (5, _), (6, _), (7, _), (8, _)] dL_same_35 (by decide) rfl ?_
          refine j_aload_n X dL_same_37 rfl 1 rfl ?_
          refine j_iload X dL_same_38 9 rfl ?_
          refine jl_cI1 (mc := 0) (ms := 0) X hR (m_X6_age hRR (nI i)) m_L_47 rfl (by decide) (by decide) (Nat.le_of_ble_eq_true rfl) ⟨by decide, by decide⟩ dL_same_40 ?_
          rintro _ _ ⟨rfl, rfl⟩
          rw [age_at hC (by omega)]
          refine j_aload_n X dL_same_43 rfl 3 rfl ?_
          refine j_iconst (v := nI 4) X dL_same_44 (by decide) ?_
          refine j_iload X dL_same_45 9 rfl ?_
          refine n_imul X dL_same_47 ?_
          refine jl_ald X (LA.arw (k := 1) hBQ (by decide) (by decide)) (by show _ < 20; omega) dL_same_48 (fun v_48 e_48 b_48 => ?_)
          have e_48 := e_48.trans (hC.age (by omega))
          subst e_48
          refine n_icmp_ne (tgt := 84) X dL_same_49 (by decide) (by omega) (by omega) (fun c_49 => ?_) (fun c_49 => ?_)
          · exact absurd rfl c_49
          · refine j_aload_n X dL_same_52 rfl 1 rfl ?_
            refine j_iload X dL_same_53 9 rfl ?_
            refine jl_cI1 (mc := 0) (ms := 0) X hR (m_X6_isAdmitted hRR (nI i)) m_L_52 rfl (by decide) (by decide) (Nat.le_of_ble_eq_true rfl) ⟨by decide, by decide⟩ dL_same_55 ?_
            rintro _ _ ⟨rfl, rfl⟩
            rw [isAd_at hC (by omega)]
            refine j_aload_n X dL_same_58 rfl 3 rfl ?_
            refine j_iconst (v := nI 4) X dL_same_59 (by decide) ?_
            refine j_iload X dL_same_60 9 rfl ?_
            refine n_imul X dL_same_62 ?_
            refine j_iconst (v := nI 2) X dL_same_63 (by decide) ?_
            refine n_iadd X dL_same_64 ?_
            refine jl_ald X (LA.arw (k := 1) hBQ (by decide) (by decide)) (by show _ < 20; omega) dL_same_65 (fun v_65 e_65 b_65 => ?_)
            have e_65 := e_65.trans (hC.adm (by omega))
            subst e_65
            refine n_icmp_ne (tgt := 84) X dL_same_66 (by decide) (by omega) (by omega) (fun c_66 => ?_) (fun c_66 => ?_)
            · exact absurd rfl c_66
            · refine j_aload_n X dL_same_69 rfl 1 rfl ?_
              refine j_iload X dL_same_70 9 rfl ?_
              refine jl_cI1 (mc := 0) (ms := 0) X hR (m_X6_hours hRR (nI i)) m_L_55 rfl (by decide) (by decide) (Nat.le_of_ble_eq_true rfl) ⟨by decide, by decide⟩ dL_same_72 ?_
              rintro _ _ ⟨rfl, rfl⟩
              rw [hours_at hC (by omega)]
              refine j_iload X dL_same_75 9 rfl ?_
              refine j_aload_n X dL_same_77 rfl 4 rfl ?_
              refine jr_callN2 X hR (m_L_hoursC (LV.la hBQ (by decide) (by decide)) hC hI i (by omega)) m_L_31 (by decide) (by decide) (Nat.le_of_ble_eq_true rfl) ⟨by decide, by decide⟩ dL_same_78 (fun v_78 e_78 b_78 => ?_)
              refine n_icmp_eq (tgt := 86) X dL_same_81 (by decide) (by omega) (by omega) (fun c_81 => ?_) (fun c_81 => ?_)
              · refine j_aload_n X dL_same_86 rfl 1 rfl ?_
                refine j_iload X dL_same_87 9 rfl ?_
                refine jl_cI1 (mc := 0) (ms := 0) X hR (m_X6_points hRR (nI i)) m_L_57 rfl (by decide) (by decide) (Nat.le_of_ble_eq_true rfl) ⟨by decide, by decide⟩ dL_same_89 ?_
                rintro _ _ ⟨rfl, rfl⟩
                rw [points_at hC (by omega), if_pos h3i]
                refine j_iload X dL_same_92 0 rfl ?_
                refine n_if_eq (tgt := 102) X dL_same_94 (by decide) (by omega) (fun c_94 => ?_) (fun c_94 => ?_)
                · exact absurd c_94 (by omega)
                · refine j_bipush (v := (-2)) X dL_same_97 (by decide) ?_
                  refine j_goto (tgt := 110) X dL_same_99 (by decide) ?_
                  skip
                  refine j_icmp_ne (tgt := 167) X dL_same_110 (by decide) (fun c_110 => ?_) (fun c_110 => ?_)
                  · exact absurd rfl c_110
                  · refine j_aload_n X dL_same_113 rfl 1 rfl ?_
                    refine j_iload X dL_same_114 9 rfl ?_
                    refine jl_cI1 (mc := 0) (ms := 0) X hR (m_X6_waited hRR (nI i)) m_L_59 rfl (by decide) (by decide) (Nat.le_of_ble_eq_true rfl) ⟨by decide, by decide⟩ dL_same_116 ?_
                    rintro _ _ ⟨rfl, rfl⟩
                    rw [waited_at hC (by omega), if_pos h3i]
                    refine j_iload X dL_same_119 0 rfl ?_
                    refine n_if_eq (tgt := 129) X dL_same_121 (by decide) (by omega) (fun c_121 => ?_) (fun c_121 => ?_)
                    · exact absurd c_121 (by omega)
                    · refine j_bipush (v := (-2)) X dL_same_124 (by decide) ?_
                      refine j_goto (tgt := 137) X dL_same_126 (by decide) ?_
                      refine j_icmp_ne (tgt := 167) X dL_same_137 (by decide) (fun c_137 => ?_) (fun c_137 => ?_)
                      · exact absurd rfl c_137
                      · refine j_aload_n X dL_same_140 rfl 1 rfl ?_
                        refine j_iload X dL_same_141 9 rfl ?_
                        refine jl_cI1 (mc := 0) (ms := 0) X hR (m_X6_fee hRR (nI i)) m_L_62 rfl (by decide) (by decide) (Nat.le_of_ble_eq_true rfl) ⟨by decide, by decide⟩ dL_same_143 ?_
                        rintro _ _ ⟨rfl, rfl⟩
                        rw [fee_at hC (by omega), if_neg (by omega)]
                        refine j_iload X dL_same_146 0 rfl ?_
                        refine n_if_eq (tgt := 162) X dL_same_148 (by decide) (by omega) (fun c_148 => ?_) (fun c_148 => ?_)
                        · exact absurd c_148 (by omega)
                        · refine j_iload X dL_same_151 9 rfl ?_
                          refine j_aload_n X dL_same_153 rfl 2 rfl ?_
                          refine j_aload_n X dL_same_154 rfl 3 rfl ?_
                          refine j_aload_n X dL_same_155 rfl 4 rfl ?_
                          refine jr_callN4 X hR (m_L_fee (LV.la hBQ (by decide) (by decide)) hB hI hL i (by omega)) m_L_65 (by decide) (by decide) (Nat.le_of_ble_eq_true rfl) ⟨by decide, by decide⟩ dL_same_156 (fun v_156 e_156 b_156 => ?_)
                          refine j_goto (tgt := 164) X dL_same_159 (by decide) ?_
                          refine n_icmp_eq (tgt := 169) X dL_same_164 (by decide) (by omega) (by omega) (fun c_164 => ?_) (fun c_164 => ?_)
                          · refine j_iload X dL_same_169 7 rfl ?_
                            refine j_iload X dL_same_171 0 rfl ?_
                            refine n_if_eq (tgt := 187) X dL_same_173 (by decide) (by omega) (fun c_173 => ?_) (fun c_173 => ?_)
                            · exact absurd c_173 (by omega)
                            · refine j_iload X dL_same_176 9 rfl ?_
                              refine j_aload_n X dL_same_178 rfl 2 rfl ?_
                              refine j_aload_n X dL_same_179 rfl 3 rfl ?_
                              refine j_aload_n X dL_same_180 rfl 4 rfl ?_
                              refine jr_callN4 X hR (m_L_fee (LV.la hBQ (by decide) (by decide)) hB hI hL i (by omega)) m_L_65 (by decide) (by decide) (Nat.le_of_ble_eq_true rfl) ⟨by decide, by decide⟩ dL_same_181 (fun v_181 e_181 b_181 => ?_)
                              refine j_goto (tgt := 188) X dL_same_184 (by decide) ?_
                              refine n_iadd X dL_same_188 ?_
                              refine j_istore X [(6, _), (9, _), (0, _), (1, _), (2, _), (3, _), (4, _), (5, _), (7, _), (8, _)] dL_same_189 (by decide) rfl ?_
                              refine j_iload X dL_same_191 1 rfl ?_
                              refine n_if_eq (tgt := 199) X dL_same_193 (by decide) (by omega) (fun c_193 => ?_) (fun c_193 => ?_)
                              · exact absurd c_193 (by omega)
                              · refine j_goto (tgt := 372) X dL_same_196 (by decide) ?_
                                refine n_iinc X [(8, _), (6, _), (9, _), (0, _), (1, _), (2, _), (3, _), (4, _), (5, _), (7, _)] dL_same_372 (q := 9) (b := 1) rfl (by decide) (by decide) rfl ?_
                                refine j_goto (tgt := 9) X dL_same_375 (by decide) ?_
                                exact j_sub [3, 4, 5, 6, 7, 8, 1, 9, 0] rfl (ih9 _ _ _ (by omega) (by rw [sm_s, ← hinc, pay_9 hC (show i < nc by omega), if_pos h3i, e_181]) (by exact hRR) (by omega))
                          · exact absurd e_156.symm c_164
              · exact absurd e_78.symm c_81
  exact j_sub [3, 4, 5, 6, 7, 8, 2, 1, 0] rfl (L9 (nc + 1) _ _ _ (by omega) (by rfl) (by exact hRR) (by omega))
end
