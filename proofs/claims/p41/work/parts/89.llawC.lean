section
variable {K : Ctx} {D : va_G} {Y : Nat → ClassId} {ad aq : Nat → Nat} {b L : Nat} {xs : Nat → Int32} {nc me : Nat}
set_option maxRecDepth 100000 in
set_option maxHeartbeats 4000000 in
theorem law_C (X : CX K cL_law 17 RL D Y) (hR : RO K 40 783554 6751585) (hX : va_X b L xs (ks K) (ks K).heap) (hbl : b < (ks K).heap.size) (hbA : ¬ kA K b) (hL260 : L ≤ 260) (fin : ∀ (ws : va_W) (lv : List (Nat × Value)), JJ K D 783554 6751585 ws lv 1228 [.int 1]) {S : MS} {T : CT} {e : CE} {Q : MS} (hBQ : BD Q) (hP : PCh S nc me 0 Q) (hRR : RR S T e) : JJ K D 26 365 (WC ad Y (T, e) ++ LA aq Y 6 Q) [(0, .ref b), (1, .ref (ad 16)), (2, .ref (aq 0)), (3, .ref (aq 1)), (4, .ref (aq 2)), (5, .ref (aq 3)), (6, .ref (aq 4)), (7, .ref (aq 5))] 529 [] := by
  have hn5 := hP.1.1.2.1
  refine j_iconst (v := nI 0) X dL_law_529 (by decide) ?_
  refine j_istore X [(8, _), (0, _), (1, _), (2, _), (3, _), (4, _), (5, _), (6, _), (7, _)] dL_law_530 (by decide) rfl ?_
  refine j_widen (c2 := (26 + 0)) (s2 := (365 + 5 * 0)) (by omega) (by omega) ?_
  have L532 : ∀ (n : Nat) (i : Nat) (S1 : MS) (T1 : CT) (e1 : CE) (Q1 : MS), (i ≤ nc) → (BD Q1) → (RR S1 T1 e1) → (PCh S1 nc me i Q1) → (nc + 1 ≤ i + n) → JJ K D (26 + i) (365 + 5 * i) (WC ad Y (T1, e1) ++ LA aq Y 6 Q1) [(0, .ref b), (1, .ref (ad 16)), (2, .ref (aq 0)), (3, .ref (aq 1)), (4, .ref (aq 2)), (5, .ref (aq 3)), (6, .ref (aq 4)), (7, .ref (aq 5)), (8, .int (nI i))] 532 [] := by
    intro n
    induction n with
    | zero =>
      intro i S1 T1 e1 Q1 hi hB1 hRR hP hf532
      exact absurd hf532 (by omega)
    | succ n532 ih532 =>
      intro i S1 T1 e1 Q1 hi hB1 hRR hP hf532
      refine j_iload X dL_law_532 8 rfl ?_
      refine j_aload_n X dL_law_534 rfl 2 rfl ?_
      refine j_bipush (v := nI 7) X dL_law_535 (by decide) ?_
      refine jl_ald X (LA.arw (k := 0) hB1 (by decide) (by decide)) (by show _ < 16; omega) dL_law_537 (fun v_537 e_537 b_537 => ?_)
      have e_537 := e_537.trans (hP.1.2.1.1)
      refine n_icmp_ge (tgt := 707) X dL_law_538 (by decide) (by omega) (by omega) (fun c_538 => ?_) (fun c_538 => ?_)
      · have hin : i = nc := by omega
        subst hin
        refine j_sub [0, 1, 2, 3, 4, 5, 6, 7] rfl ?_
        refine j_widen (c2 := 31) (s2 := 390) (by omega) (by omega) ?_
        exact law_D X hR hX hbl hbA hL260 fin hB1 hP.lr hP.2.2.2.1 hRR
      · refine j_aload_n X dL_law_541 rfl 0 rfl ?_
        refine j_bipush (v := nI 24) X dL_law_542 (by decide) ?_
        refine j_iload X dL_law_544 8 rfl ?_
        refine n_iadd X dL_law_546 ?_
        refine jx_cell X hX hbl hbA hR (m_L_cell hL260 _ (by omega)) m_L_116 (by decide) (Nat.le_of_ble_eq_true rfl) ⟨by omega, by omega⟩ dL_law_547 (fun x_547 => ?_)
        refine j_istore X [(9, _), (0, _), (1, _), (2, _), (3, _), (4, _), (5, _), (6, _), (7, _), (8, _)] dL_law_550 (by decide) rfl ?_
        refine j_aload_n X dL_law_552 rfl 4 rfl ?_
        refine j_iconst (v := nI 4) X dL_law_553 (by decide) ?_
        refine j_iload X dL_law_554 9 rfl ?_
        refine n_imul X dL_law_556 ?_
        refine j_iconst (v := nI 3) X dL_law_557 (by decide) ?_
        refine j_iload X dL_law_558 0 rfl ?_
        refine j_bipush (v := nI 75) X dL_law_560 (by decide) ?_
        refine jr_callR2 X hR (m_L_low _ _ (by omega) (by omega)) m_L_112 (by decide) (by decide) (Nat.le_of_ble_eq_true rfl) ⟨by omega, by omega⟩ dL_law_562 (fun v_562 e_562 => ?_)
        refine n_iadd X dL_law_565 ?_
        refine jl_ast X hB1 (k := 1) (by decide) (by decide) rfl (show _ < 20 by omega) (by omega) dL_law_566 (fun Q_566 eQ_566 hB_566 => ?_)
        refine j_aload_n X dL_law_567 rfl 4 rfl ?_
        refine j_iconst (v := nI 4) X dL_law_568 (by decide) ?_
        refine j_iload X dL_law_569 9 rfl ?_
        refine n_imul X dL_law_571 ?_
        refine j_iconst (v := nI 1) X dL_law_572 (by decide) ?_
        refine n_iadd X dL_law_573 ?_
        refine j_iload X dL_law_574 0 rfl ?_
        refine j_bipush (v := nI 7) X dL_law_576 (by decide) ?_
        refine j_ishr X dL_law_578 ?_
        refine j_iconst (v := nI 2) X dL_law_579 (by decide) ?_
        refine jr_callR2 X hR (m_L_low _ _ (by omega) (by omega)) m_L_112 (by decide) (by decide) (Nat.le_of_ble_eq_true rfl) ⟨by omega, by omega⟩ dL_law_580 (fun v_580 e_580 => ?_)
        refine jl_ast X hB_566 (k := 1) (by decide) (by decide) rfl (show _ < 20 by omega) (by omega) dL_law_583 (fun Q_583 eQ_583 hB_583 => ?_)
        refine j_aload_n X dL_law_584 rfl 2 rfl ?_
        refine j_aload_n X dL_law_585 rfl 4 rfl ?_
        refine j_iconst (v := nI 4) X dL_law_586 (by decide) ?_
        refine j_iload X dL_law_587 9 rfl ?_
        refine n_imul X dL_law_589 ?_
        refine jl_ald X (LA.arw (k := 1) hB_583 (by decide) (by decide)) (by show _ < 20; omega) dL_law_590 (fun v_590 e_590 b_590 => ?_)
        have e_590 := e_590.trans ((show Q_583 1 (4 * i) = 3 + v_562 by rw [eQ_583, uM_ni (by omega), eQ_566, uM_eq]))
        subst e_590
        refine j_aload_n X dL_law_591 rfl 4 rfl ?_
        refine j_iconst (v := nI 4) X dL_law_592 (by decide) ?_
        refine j_iload X dL_law_593 9 rfl ?_
        refine n_imul X dL_law_595 ?_
        refine j_iconst (v := nI 1) X dL_law_596 (by decide) ?_
        refine n_iadd X dL_law_597 ?_
        refine jl_ald X (LA.arw (k := 1) hB_583 (by decide) (by decide)) (by show _ < 20; omega) dL_law_598 (fun v_598 e_598 b_598 => ?_)
        have e_598 := e_598.trans ((show Q_583 1 (4 * i + 1) = v_580 by rw [eQ_583, uM_eq]))
        rw [e_598]
        refine jl_cI2 (mc := 1) (ms := 5) X hR (m_X6_addChild hRR (nI (3 + v_562)) (nI v_580)) m_L_140 rfl (by decide) (by decide) (Nat.le_of_ble_eq_true rfl) ⟨by omega, by omega⟩ dL_law_599 ?_
        rintro _ ⟨T_599, e_599⟩ ⟨rfl, hR0_599⟩
        have had := addC_at hP.2.2.1 (by omega) (a := 3 + v_562) (f := v_580) (by omega) (by omega) (by omega)
        have hRR_599 : RR (newC S1 i (3 + v_562) v_580) T_599 e_599 := by rw [← had.2]; exact hR0_599
        rw [had.1]
        refine j_iload X dL_law_602 9 rfl ?_
        refine n_icmp_eq (tgt := 609) X dL_law_604 (by decide) (by omega) (by omega) (fun c_604 => ?_) (fun c_604 => ?_)
        · refine j_iconst (v := nI 0) X dL_law_609 (by decide) ?_
          refine j_istore X [(10, _), (9, _), (0, _), (1, _), (2, _), (3, _), (4, _), (5, _), (6, _), (7, _), (8, _)] dL_law_610 (by decide) rfl ?_
          have L612 : ∀ (n : Nat) (d : Nat) (S3 : MS) (T3 : CT) (e3 : CE) (Q3 : MS), (d ≤ 5) → (BD Q3) → (RR S3 T3 e3) → (PCh S3 nc me (i + 1) Q3) → (S3 3 i = 0) → (5 + 1 ≤ d + n) → JJ K D ((26 + i) + 1) ((365 + 5 * i) + 5) (WC ad Y (T3, e3) ++ LA aq Y 6 Q3) [(0, .ref b), (1, .ref (ad 16)), (2, .ref (aq 0)), (3, .ref (aq 1)), (4, .ref (aq 2)), (5, .ref (aq 3)), (6, .ref (aq 4)), (7, .ref (aq 5)), (8, .int (nI i)), (10, .int (nI d))] 612 [] := by
            intro n
            induction n with
            | zero =>
              intro d S3 T3 e3 Q3 hd hB3 hRR hP3 h30 hf612
              exact absurd hf612 (by omega)
            | succ n612 ih612 =>
              intro d S3 T3 e3 Q3 hd hB3 hRR hP3 h30 hf612
              refine j_iload X dL_law_612 9 rfl ?_
              refine j_iconst (v := nI 5) X dL_law_614 (by decide) ?_
              refine n_icmp_ge (tgt := 701) X dL_law_615 (by decide) (by omega) (by omega) (fun c_615 => ?_) (fun c_615 => ?_)
              · refine n_iinc X [(8, _), (0, _), (1, _), (2, _), (3, _), (4, _), (5, _), (6, _), (7, _), (10, _)] dL_law_701 (q := 8) (b := 1) rfl (by decide) (by decide) rfl ?_
                refine j_goto (tgt := 532) X dL_law_704 (by decide) ?_
                refine j_widen (c2 := (26 + (i + 1))) (s2 := (365 + 5 * (i + 1))) (by omega) (by omega) ?_
                exact j_sub [1, 2, 3, 4, 5, 6, 7, 8, 0] rfl (ih532 (i + 1) S3 _ _ _ (by omega) (by exact hB3) (by exact hRR) (by exact hP3) (by omega))
              · refine j_aload_n X dL_law_618 rfl 0 rfl ?_
                refine j_bipush (v := nI 30) X dL_law_619 (by decide) ?_
                refine j_iconst (v := nI 5) X dL_law_621 (by decide) ?_
                refine j_iload X dL_law_622 8 rfl ?_
                refine n_imul X dL_law_624 ?_
                refine n_iadd X dL_law_625 ?_
                refine j_iload X dL_law_626 9 rfl ?_
                refine n_iadd X dL_law_628 ?_
                refine jx_cell X hX hbl hbA hR (m_L_cell hL260 _ (by omega)) m_L_116 (by decide) (Nat.le_of_ble_eq_true rfl) ⟨by omega, by omega⟩ dL_law_629 (fun x_629 => ?_)
                refine j_bipush (v := nI 10) X dL_law_632 (by decide) ?_
                refine j_iload X dL_law_634 8 rfl ?_
                refine n_imul X dL_law_636 ?_
                refine j_iload X dL_law_637 9 rfl ?_
                refine j_aload X dL_law_639 4 rfl ?_
                refine jl_span X hR (m_L_span hB3 _ (10 * i) d (by omega)) m_L_143 (by decide) (Nat.le_of_ble_eq_true rfl) ⟨by omega, by omega⟩ dL_law_641 ?_
                rintro _ Q_641 ⟨rfl, hB_641, b_641, e_641, b1_641, b2_641, b3_641, eQ_641⟩
                refine b_if_eq (tgt := 693) X dL_law_644 (by decide) (fun c_644 => ?_) (fun c_644 => ?_)
                · exact absurd c_644 (by decide)
                · refine j_aload_n X dL_law_647 rfl 1 rfl ?_
                  refine j_iload X dL_law_648 8 rfl ?_
                  refine j_iload X dL_law_650 9 rfl ?_
                  refine j_aload X dL_law_652 4 rfl ?_
                  refine j_bipush (v := nI 10) X dL_law_654 (by decide) ?_
                  refine j_iload X dL_law_656 8 rfl ?_
                  refine n_imul X dL_law_658 ?_
                  refine j_iconst (v := nI 2) X dL_law_659 (by decide) ?_
                  refine j_iload X dL_law_660 9 rfl ?_
                  refine n_imul X dL_law_662 ?_
                  refine n_iadd X dL_law_663 ?_
                  refine jl_ald X (LA.arw (k := 2) hB_641 (by decide) (by decide)) (by show _ < 50; omega) dL_law_664 (fun v_664 e_664 b_664 => ?_)
                  have e_664 := e_664.trans ((show Q_641 2 (10 * i + 2 * d) = b_641 by rw [eQ_641, uM_ni (by omega), uM_eq]))
                  rw [e_664]
                  refine j_aload X dL_law_665 4 rfl ?_
                  refine j_bipush (v := nI 10) X dL_law_667 (by decide) ?_
                  refine j_iload X dL_law_669 8 rfl ?_
                  refine n_imul X dL_law_671 ?_
                  refine j_iconst (v := nI 2) X dL_law_672 (by decide) ?_
                  refine j_iload X dL_law_673 9 rfl ?_
                  refine n_imul X dL_law_675 ?_
                  refine n_iadd X dL_law_676 ?_
                  refine j_iconst (v := nI 1) X dL_law_677 (by decide) ?_
                  refine n_iadd X dL_law_678 ?_
                  refine jl_ald X (LA.arw (k := 2) hB_641 (by decide) (by decide)) (by show _ < 50; omega) dL_law_679 (fun v_679 e_679 b_679 => ?_)
                  have e_679 := e_679.trans ((show Q_641 2 (10 * i + 2 * d + 1) = e_641 by rw [eQ_641, uM_eq]))
                  rw [e_679]
                  have hP4 : PCh (setSp S3 5 i d b_641 e_641) nc me (i + 1) Q_641 := by rw [eQ_641]; exact hP3.book d _ _ (by omega)
                  refine jl_cI4 (mc := 0) (ms := 0) X hR (m_X6_book hRR (nI i) (nI d) (nI b_641) (nI e_641)) m_L_146 rfl (by decide) (by decide) (Nat.le_of_ble_eq_true rfl) ⟨by omega, by omega⟩ dL_law_680 ?_
                  rintro _ ⟨T_680, e_680⟩ ⟨rfl, hR0_680⟩
                  have hbk := book_at hP3.2.2.1 (c := i) (d := d) (by omega) (by omega) b2_641 b3_641
                  have hno : bookNo S3 i d b_641 e_641 = false := by unfold bookNo; rw [h30]; rfl
                  have hRR_680 : RR (setSp S3 5 i d b_641 e_641) T_680 e_680 := by rw [hbk.2, hno] at hR0_680; exact hR0_680
                  rw [hbk.1, hno, if_neg (by decide)]
                  have hI4 := hRR_680.hI
                  refine j_iload X dL_law_683 8 rfl ?_
                  refine j_aload X dL_law_685 4 rfl ?_
                  refine jr_callN2 X hR (m_L_hoursC (LV.la hB_641 (by decide) (by decide)) hP4.2.2.1 hI4 i (by omega)) m_L_31 (by decide) (by decide) (Nat.le_of_ble_eq_true rfl) ⟨by omega, by omega⟩ dL_law_687 (fun v_687 e_687 b_687 => ?_)
                  refine n_icmp_eq (tgt := 695) X dL_law_690 (by decide) (by omega) (by omega) (fun c_690 => ?_) (fun c_690 => ?_)
                  · refine n_iinc X [(10, _), (0, _), (1, _), (2, _), (3, _), (4, _), (5, _), (6, _), (7, _), (8, _)] dL_law_695 (q := 9) (b := 1) rfl (by decide) (by decide) rfl ?_
                    refine j_goto (tgt := 612) X dL_law_698 (by decide) ?_
                    exact j_sub [1, 2, 3, 4, 5, 6, 7, 8, 9, 0] rfl (ih612 (d + 1) (setSp S3 5 i d b_641 e_641) _ _ _ (by omega) (by exact hB_641) (by exact hRR_680) (by exact hP4) (by rw [sp_row (by decide) (by decide)]; exact h30) (by omega))
                  · exact absurd e_687.symm c_690
          exact j_sub [2, 3, 4, 5, 6, 7, 8, 9, 10, 0] rfl (L612 6 0 (newC S1 i (3 + v_562) v_580) _ _ _ (by omega) (by exact hB_583) (by exact hRR_599) (by rw [eQ_583, eQ_566]; exact hP.add (by omega) _ _) (by rw [new_0 (by decide) (by decide), uM_nk (by decide), uM_eq]) (by omega))
        · exact absurd rfl c_604
  exact j_sub [1, 2, 3, 4, 5, 6, 7, 8, 0] rfl (L532 (nc + 1) 0 S _ _ _ (by omega) (by exact hBQ) (by exact hRR) (by exact hP) (by omega))
end
