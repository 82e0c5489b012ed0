theorem adm_fin {S : MS} (h : nxt S 24 = none) : ∀ f, admF f S = S ∧ admC f S = 0
  | 0 => ⟨rfl, rfl⟩
  | f + 1 => by
    rw [admF_s, admC_s, h]
    exact ⟨rfl, rfl⟩
theorem adm_nxt {S : MS} {c : Nat} (h : nxt S 24 = some c) (f : Nat) : admF (f + 1) S = admF f (uM S 3 c 1) ∧ admC (f + 1) S = admC f (uM S 3 c 1) + 1 := by
  rw [admF_s, admC_s, h]
  exact ⟨rfl, rfl⟩
section
variable {K : Ctx} {D : va_G} {Y : Nat → ClassId} {ad aq : Nat → Nat} {b L : Nat} {xs : Nat → Int32} {nc me : Nat}
set_option maxRecDepth 100000 in
set_option maxHeartbeats 4000000 in
theorem law_D (X : CX K cL_law 17 RL D Y) (hR : RO K 40 783554 6751585) (hX : va_X b L xs (ks K) (ks K).heap) (hbl : b < (ks K).heap.size) (hbA : ¬ kA K b) (hL260 : L ≤ 260) (fin : ∀ (ws : va_W) (lv : List (Nat × Value)), JJ K D 783554 6751585 ws lv 1228 [.int 1]) {S : MS} {T : CT} {e : CE} {Q : MS} (hBQ : BD Q) (hL : LR S nc me Q) (hZ : ZS S Q me) (hRR : RR S T e) : JJ K D 31 390 (WC ad Y (T, e) ++ LA aq Y 6 Q) [(0, .ref b), (1, .ref (ad 16)), (2, .ref (aq 0)), (3, .ref (aq 1)), (4, .ref (aq 2)), (5, .ref (aq 3)), (6, .ref (aq 4)), (7, .ref (aq 5))] 707 [] := by
  have hB := hRR.hB
  have hI := hRR.hI
  have hn5 := hL.n5
  refine j_aload_n X dL_law_707 rfl 1 rfl ?_
  refine j_aload_n X dL_law_708 rfl 2 rfl ?_
  refine j_aload_n X dL_law_709 rfl 3 rfl ?_
  refine j_aload X dL_law_710 4 rfl ?_
  refine j_aload X dL_law_712 5 rfl ?_
  refine j_aload X dL_law_714 6 rfl ?_
  refine jl_same X hR (m_L_same hBQ hL hRR) m_L_149 (by decide) (Nat.le_of_ble_eq_true rfl) ⟨by omega, by omega⟩ dL_law_716 ?_
  rintro _ ⟨T_716, e_716⟩ ⟨rfl, hR0_716⟩
  have hRR_716 : RR S T_716 e_716 := hR0_716
  refine b_if_ne (tgt := 724) X dL_law_719 (by decide) (fun c_719 => ?_) (fun c_719 => ?_)
  · refine j_iconst (v := nI 0) X dL_law_724 (by decide) ?_
    refine j_istore X [(8, _), (0, _), (1, _), (2, _), (3, _), (4, _), (5, _), (6, _), (7, _)] dL_law_725 (by decide) rfl ?_
    refine j_aload_n X dL_law_727 rfl 3 rfl ?_
    refine j_aload_n X dL_law_728 rfl 4 rfl ?_
    refine j_aload X dL_law_729 5 rfl ?_
    refine j_aload X dL_law_731 6 rfl ?_
    refine j_aload X dL_law_733 7 rfl ?_
    refine jr_callZ5 X hR (m_L_next hBQ hB hI hL) m_L_153 (by decide) (by decide) (Nat.le_of_ble_eq_true rfl) ⟨by omega, by omega⟩ dL_law_735 ?_
    refine j_istore X [(9, _), (8, _), (0, _), (1, _), (2, _), (3, _), (4, _), (5, _), (6, _), (7, _)] dL_law_738 (by decide) rfl ?_
    have L740 : ∀ (n : Nat) (k : Nat) (S1 : MS) (Q1 : MS), (BD Q1) → (BD S1) → (IV S1) → (LR S1 nc me Q1) → (ZS S1 Q1 me) → (wtN S1 + k ≤ 24) → (admF 25 S = admF (25 - k) S1) → (admC 25 S = k + admC (25 - k) S1) → (24 + 1 ≤ k + n) → JJ K D 31 390 (WC ad Y (T_716, e_716) ++ LA aq Y 6 Q1) [(0, .ref b), (1, .ref (ad 16)), (2, .ref (aq 0)), (3, .ref (aq 1)), (4, .ref (aq 2)), (5, .ref (aq 3)), (6, .ref (aq 4)), (7, .ref (aq 5)), (8, .int (nI k)), (9, .int (nx1 (nxt S1 24)))] 740 [] := by
      intro n
      induction n with
      | zero =>
        intro k S1 Q1 hB1 hBS1 hI1 hL1 hZ1 hw hF hC hf740
        exact absurd hf740 (by omega)
      | succ n740 ih740 =>
        intro k S1 Q1 hB1 hBS1 hI1 hL1 hZ1 hw hF hC hf740
        refine j_iload X dL_law_740 9 rfl ?_
        refine j_if_lt (tgt := 773) X dL_law_742 (by decide) (fun c_742 => ?_) (fun c_742 => ?_)
        · have ho := nx1_neg (fun b hb => nxt_lt hb) c_742
          obtain ⟨hFe0, hCe0⟩ := adm_fin ho (25 - k)
          have hFe : admF 25 S = S1 := hF.trans hFe0
          have hCe : admC 25 S = k := by rw [hC, hCe0]; rfl
          refine j_aload_n X dL_law_773 rfl 1 rfl ?_
          refine jl_cI0 (mc := 0) (ms := 0) X hR (m_X6_admit hRR_716) m_L_157 rfl (by decide) (by decide) (Nat.le_of_ble_eq_true rfl) ⟨by omega, by omega⟩ dL_law_774 ?_
          rintro _ ⟨T_774, e_774⟩ ⟨rfl, hR0_774⟩
          have hRR_774 : RR S1 T_774 e_774 := by rw [← hFe]; exact hR0_774
          rw [hCe]
          refine j_iload X dL_law_777 8 rfl ?_
          refine n_icmp_ne (tgt := 797) X dL_law_779 (by decide) (by omega) (by omega) (fun c_779 => ?_) (fun c_779 => ?_)
          · exact absurd rfl c_779
          · refine j_aload_n X dL_law_782 rfl 1 rfl ?_
            refine j_aload_n X dL_law_783 rfl 2 rfl ?_
            refine j_aload_n X dL_law_784 rfl 3 rfl ?_
            refine j_aload X dL_law_785 4 rfl ?_
            refine j_aload X dL_law_787 5 rfl ?_
            refine j_aload X dL_law_789 6 rfl ?_
            refine jl_same X hR (m_L_same hB1 hL1 hRR_774) m_L_149 (by decide) (Nat.le_of_ble_eq_true rfl) ⟨by omega, by omega⟩ dL_law_791 ?_
            rintro _ ⟨T_791, e_791⟩ ⟨rfl, hR0_791⟩
            have hRR_791 : RR S1 T_791 e_791 := hR0_791
            refine b_if_ne (tgt := 799) X dL_law_794 (by decide) (fun c_794 => ?_) (fun c_794 => ?_)
            · refine j_sub [0, 1, 2, 3, 4, 5, 6, 7] rfl ?_
              exact law_E X hR hX hbl hbA hL260 fin hB1 hL1 hZ1 hRR_791
            · exact absurd c_794 (by decide)
        · obtain ⟨c, hc⟩ := nx1_nn c_742
          rw [show nx1 (nxt S1 24) = nI c from by rw [hc]; rfl]
          have hcn : c < nc := nxt_lt ((nxt_ext hL1.2.1).symm.trans hc)
          have hcw := (nxt_wt hc).1
          have hwd := wtN_adm (S := S1) (b := c) (by omega) hcw
          have hk : 25 - k = (24 - k) + 1 := by omega
          refine j_aload_n X dL_law_745 rfl 3 rfl ?_
          refine j_iconst (v := nI 4) X dL_law_746 (by decide) ?_
          refine j_iload X dL_law_747 9 rfl ?_
          refine n_imul X dL_law_749 ?_
          refine j_iconst (v := nI 2) X dL_law_750 (by decide) ?_
          refine n_iadd X dL_law_751 ?_
          refine j_iconst (v := nI 1) X dL_law_752 (by decide) ?_
          refine jl_ast X hB1 (k := 1) (by decide) (by decide) rfl (show _ < 20 by omega) (by omega) dL_law_753 (fun Q_753 eQ_753 hB_753 => ?_)
          have hL2 : LR (uM S1 3 c 1) nc me Q_753 := by rw [eQ_753]; exact hL1.adm1 hcn 1
          have hB2 : BD (uM S1 3 c 1) := BD_u hBS1 (by omega)
          have hI2 : IV (uM S1 3 c 1) := IV_adm hI1 (by omega)
          have hZ2 : ZS (uM S1 3 c 1) Q_753 me := by rw [eQ_753]; exact hZ1.cg (fun k hk => uM_row (by omega)) (uM_row (by decide)) (uM_row (by decide))
          refine n_iinc X [(8, _), (0, _), (1, _), (2, _), (3, _), (4, _), (5, _), (6, _), (7, _), (9, _)] dL_law_754 (q := 8) (b := 1) rfl (by decide) (by decide) rfl ?_
          refine j_aload_n X dL_law_757 rfl 3 rfl ?_
          refine j_aload_n X dL_law_758 rfl 4 rfl ?_
          refine j_aload X dL_law_759 5 rfl ?_
          refine j_aload X dL_law_761 6 rfl ?_
          refine j_aload X dL_law_763 7 rfl ?_
          refine jr_callZ5 X hR (m_L_next hB_753 hB2 hI2 hL2) m_L_153 (by decide) (by decide) (Nat.le_of_ble_eq_true rfl) ⟨by omega, by omega⟩ dL_law_765 ?_
          refine j_istore X [(9, _), (8, _), (0, _), (1, _), (2, _), (3, _), (4, _), (5, _), (6, _), (7, _)] dL_law_768 (by decide) rfl ?_
          refine j_goto (tgt := 740) X dL_law_770 (by decide) ?_
          exact j_sub [2, 3, 4, 5, 6, 7, 8, 9, 1, 0] rfl (ih740 (k + 1) (uM S1 3 c 1) _ (by exact hB_753) (by exact hB2) (by exact hI2) (by exact hL2) (by exact hZ2) (by omega) (by rw [hF, hk, (adm_nxt hc _).1]; congr 1; omega) (by rw [hC, hk, (adm_nxt hc _).2, show 25 - (k + 1) = 24 - k by omega]; omega) (by omega))
    exact j_sub [2, 3, 4, 5, 6, 7, 8, 9, 1, 0] rfl (L740 25 0 S _ (by exact hBQ) (by exact hB) (by exact hI) (by exact hL) (by exact hZ) (by have := wtN_le S; omega) (by rfl) (by rw [Nat.zero_add]) (by omega))
  · exact absurd c_719 (by decide)
end
