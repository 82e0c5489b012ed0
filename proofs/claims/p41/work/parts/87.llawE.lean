theorem span_back {Q Q2 Q3 : MS} {i v w : Nat} (e1 : Q2 = uM (uM Q 2 i v) 2 (i + 1) w) (e2 : Q3 = uM (uM Q2 2 i (Q 2 i)) 2 (i + 1) (Q 2 (i + 1))) : Q3 = Q := by
  funext a j
  by_cases q : a = 2 ∧ j = i
  · rw [q.1, q.2, e2, uM_ni (by omega), uM_eq]
  · by_cases q2 : a = 2 ∧ j = i + 1
    · rw [q2.1, q2.2, e2, uM_eq]
    · rw [e2, uM_ne q2, uM_ne q, e1, uM_ne q2, uM_ne q]
section
variable {K : Ctx} {D : va_G} {Y : Nat → ClassId} {ad aq : Nat → Nat} {b L : Nat} {xs : Nat → Int32} {nc me : Nat}
set_option maxRecDepth 100000 in
set_option maxHeartbeats 4000000 in
theorem law_E (X : CX K cL_law 17 RL D Y) (hR : RO K 40 783554 6751585) (hX : va_X b L xs (ks K) (ks K).heap) (hbl : b < (ks K).heap.size) (hbA : ¬ kA K b) (hL260 : L ≤ 260) (fin : ∀ (ws : va_W) (lv : List (Nat × Value)), JJ K D 783554 6751585 ws lv 1228 [.int 1]) {S : MS} {T : CT} {e : CE} {Q : MS} (hBQ : BD Q) (hL : LR S nc me Q) (hZ : ZS S Q me) (hRR : RR S T e) : JJ K D 31 390 (WC ad Y (T, e) ++ LA aq Y 6 Q) [(0, .ref b), (1, .ref (ad 16)), (2, .ref (aq 0)), (3, .ref (aq 1)), (4, .ref (aq 2)), (5, .ref (aq 3)), (6, .ref (aq 4)), (7, .ref (aq 5))] 799 [] := by
  have hB := hRR.hB
  have hI := hRR.hI
  have hQ := hL.1
  have hC := hL.2.1
  have hE := hL.2.2
  have hn5 := hC.1
  have hn1 := hQ.1.1
  refine j_aload_n X dL_law_799 rfl 0 rfl ?_
  refine j_bipush (v := nI 60) X dL_law_800 (by decide) ?_
  refine jx_cell X hX hbl hbA hR (m_L_cell hL260 _ (by omega)) m_L_116 (by decide) (Nat.le_of_ble_eq_true rfl) ⟨by omega, by omega⟩ dL_law_802 (fun x_802 => ?_)
  refine j_aload_n X dL_law_805 rfl 2 rfl ?_
  refine j_bipush (v := nI 7) X dL_law_806 (by decide) ?_
  refine jl_ald X (LA.arw (k := 0) hBQ (by decide) (by decide)) (by show _ < 16; omega) dL_law_808 (fun v_808 e_808 b_808 => ?_)
  have e_808 := e_808.trans (hQ.2.1.1)
  refine jr_callR2 X hR (m_L_low _ _ (by omega) (by omega)) m_L_112 (by decide) (by decide) (Nat.le_of_ble_eq_true rfl) ⟨by omega, by omega⟩ dL_law_809 (fun v_809 e_809 => ?_)
  refine j_istore X [(9, _), (0, _), (1, _), (2, _), (3, _), (4, _), (5, _), (6, _), (7, _)] dL_law_812 (by decide) rfl ?_
  refine j_aload_n X dL_law_814 rfl 1 rfl ?_
  refine j_bipush (v := nI 60) X dL_law_815 (by decide) ?_
  refine jx_cell X hX hbl hbA hR (m_L_cell hL260 _ (by omega)) m_L_116 (by decide) (Nat.le_of_ble_eq_true rfl) ⟨by omega, by omega⟩ dL_law_817 (fun x_817 => ?_)
  refine j_iconst (v := nI 3) X dL_law_820 (by decide) ?_
  refine j_ishr X dL_law_821 ?_
  refine j_iconst (v := nI 5) X dL_law_822 (by decide) ?_
  refine jr_callR2 X hR (m_L_low _ _ (by omega) (by omega)) m_L_112 (by decide) (by decide) (Nat.le_of_ble_eq_true rfl) ⟨by omega, by omega⟩ dL_law_823 (fun v_823 e_823 => ?_)
  have hc5 : v_809 < nc := by omega
  refine j_istore X [(10, _), (9, _), (0, _), (1, _), (2, _), (3, _), (4, _), (5, _), (6, _), (7, _)] dL_law_826 (by decide) rfl ?_
  refine j_aload X dL_law_828 6 rfl ?_
  refine j_bipush (v := nI 10) X dL_law_830 (by decide) ?_
  refine j_iload X dL_law_832 1 rfl ?_
  refine n_imul X dL_law_834 ?_
  refine j_iconst (v := nI 2) X dL_law_835 (by decide) ?_
  refine j_iload X dL_law_836 0 rfl ?_
  refine n_imul X dL_law_838 ?_
  refine n_iadd X dL_law_839 ?_
  refine jl_ald X (LA.arw (k := 2) hBQ (by decide) (by decide)) (by show _ < 50; omega) dL_law_840 (fun v_840 e_840 b_840 => ?_)
  have e_840 := e_840.trans ((hC.2.2.2 v_809 v_823 (by omega) (by omega)).1)
  subst e_840
  refine j_istore X [(11, _), (10, _), (9, _), (0, _), (1, _), (2, _), (3, _), (4, _), (5, _), (6, _), (7, _)] dL_law_841 (by decide) rfl ?_
  refine j_aload X dL_law_843 7 rfl ?_
  refine j_bipush (v := nI 10) X dL_law_845 (by decide) ?_
  refine j_iload X dL_law_847 2 rfl ?_
  refine n_imul X dL_law_849 ?_
  refine j_iconst (v := nI 2) X dL_law_850 (by decide) ?_
  refine j_iload X dL_law_851 1 rfl ?_
  refine n_imul X dL_law_853 ?_
  refine n_iadd X dL_law_854 ?_
  refine j_iconst (v := nI 1) X dL_law_855 (by decide) ?_
  refine n_iadd X dL_law_856 ?_
  refine jl_ald X (LA.arw (k := 2) hBQ (by decide) (by decide)) (by show _ < 50; omega) dL_law_857 (fun v_857 e_857 b_857 => ?_)
  have e_857 := e_857.trans ((hC.2.2.2 v_809 v_823 (by omega) (by omega)).2)
  subst e_857
  refine j_istore X [(12, _), (11, _), (10, _), (9, _), (0, _), (1, _), (2, _), (3, _), (4, _), (5, _), (6, _), (7, _)] dL_law_858 (by decide) rfl ?_
  refine j_aload_n X dL_law_860 rfl 4 rfl ?_
  refine j_bipush (v := nI 61) X dL_law_861 (by decide) ?_
  refine jx_cell X hX hbl hbA hR (m_L_cell hL260 _ (by omega)) m_L_116 (by decide) (Nat.le_of_ble_eq_true rfl) ⟨by omega, by omega⟩ dL_law_863 (fun x_863 => ?_)
  refine j_bipush (v := nI 10) X dL_law_866 (by decide) ?_
  refine j_iload X dL_law_868 3 rfl ?_
  refine n_imul X dL_law_870 ?_
  refine j_iload X dL_law_871 2 rfl ?_
  refine j_aload X dL_law_873 8 rfl ?_
  refine jl_span X hR (m_L_span hBQ _ (10 * v_809) v_823 (by omega)) m_L_143 (by decide) (Nat.le_of_ble_eq_true rfl) ⟨by omega, by omega⟩ dL_law_875 ?_
  rintro _ Q_875 ⟨rfl, hB_875, b_875, e_875, b1_875, b2_875, b3_875, eQ_875⟩
  have hL2 : LR (setSp S 5 v_809 v_823 b_875 e_875) nc me Q_875 := by rw [eQ_875]; exact ⟨hQ.cg (sp_row (by decide) (by decide)) (sp_row (by decide) (by decide)) (by rw [sp_row (by decide) (by decide)]) (two_row (by decide)), hC.book _ _ _ _ (by omega), hE.cg (sp_row (by decide) (by decide)) (sp_row (by decide) (by decide)) (sp_row (by decide) (by decide)) (sp_row (by decide) (by decide)) (two_row (by decide)) (two_row (by decide))⟩
  have hC2 := hL2.2.1
  have hB2 : BD (setSp S 5 v_809 v_823 b_875 e_875) := BD_u (BD_u hB (by omega)) (by omega)
  have hI2 : IV (setSp S 5 v_809 v_823 b_875 e_875) := IV_span hI b2_875 b3_875
  have hZ2 : ZS (setSp S 5 v_809 v_823 b_875 e_875) Q_875 me := by rw [eQ_875]; exact hZ.cg (fun k hk => sp_row (by omega) (by omega)) (two_row (by decide)) (two_row (by decide))
  have hch : Q_875 1 (4 * v_809 + 2) = S 3 v_809 := by rw [eQ_875, uM_nk (by decide), uM_nk (by decide)]; exact hC.adm hc5
  have hbk2 : ∀ k, isBkd (setSp S 5 v_809 v_823 b_875 e_875) v_809 v_823 k = (decide (b_875 ≤ k) && decide (k < e_875)) := fun k => by rw [bk_sp, if_pos rfl]
  have h0c := hC.in1 hc5
  refine j_istore X [(13, _), (12, _), (11, _), (10, _), (9, _), (0, _), (1, _), (2, _), (3, _), (4, _), (5, _), (6, _), (7, _)] dL_law_878 (by decide) rfl ?_
  refine j_iconst (v := nI 0) X dL_law_880 (by decide) ?_
  refine j_istore X [(14, _), (13, _), (12, _), (11, _), (10, _), (9, _), (0, _), (1, _), (2, _), (3, _), (4, _), (5, _), (6, _), (7, _)] dL_law_881 (by decide) rfl ?_
  have L883 : ∀ (n : Nat) (k : Nat) (cn : Bool), (k ≤ 10) → (S 3 v_809 ≠ 1 → k = 0) → (cn = andN (canQ S v_809 v_823 b_875 e_875) k) → (10 + 1 ≤ k + n) → JJ K D 31 390 (WC ad Y (T, e) ++ LA aq Y 6 Q_875) [(0, .ref b), (1, .ref (ad 16)), (2, .ref (aq 0)), (3, .ref (aq 1)), (4, .ref (aq 2)), (5, .ref (aq 3)), (6, .ref (aq 4)), (7, .ref (aq 5)), (9, .int (nI v_809)), (10, .int (nI v_823)), (11, .int (nI (S 5 (5 * v_809 + v_823)))), (12, .int (nI (S 6 (5 * v_809 + v_823)))), (13, .int (bI cn)), (14, .int (nI k))] 883 [] := by
    intro n
    induction n with
    | zero =>
      intro k cn hk hk0 hcn hf883
      exact absurd hf883 (by omega)
    | succ n883 ih883 =>
      intro k cn hk hk0 hcn hf883
      refine j_iload X dL_law_883 13 rfl ?_
      refine j_bipush (v := nI 10) X dL_law_885 (by decide) ?_
      refine n_icmp_ge (tgt := 969) X dL_law_887 (by decide) (by omega) (by omega) (fun c_887 => ?_) (fun c_887 => ?_)
      · have hk10 : k = 10 := by omega
        have h3c : S 3 v_809 = 1 := Decidable.byContradiction fun q => by have := hk0 q; omega
        have hno : bookNo S v_809 v_823 b_875 e_875 = !cn := by unfold bookNo; rw [h3c, hcn, hk10, can_law (by omega) (by omega) b3_875 h0c h3c]; rfl
        refine j_aload_n X dL_law_969 rfl 1 rfl ?_
        refine j_iload X dL_law_970 8 rfl ?_
        refine j_iload X dL_law_972 9 rfl ?_
        refine j_aload X dL_law_974 4 rfl ?_
        refine j_bipush (v := nI 10) X dL_law_976 (by decide) ?_
        refine j_iload X dL_law_978 8 rfl ?_
        refine n_imul X dL_law_980 ?_
        refine j_iconst (v := nI 2) X dL_law_981 (by decide) ?_
        refine j_iload X dL_law_982 9 rfl ?_
        refine n_imul X dL_law_984 ?_
        refine n_iadd X dL_law_985 ?_
        refine jl_ald X (LA.arw (k := 2) hB_875 (by decide) (by decide)) (by show _ < 50; omega) dL_law_986 (fun v_986 e_986 b_986 => ?_)
        have e_986 := e_986.trans ((show Q_875 2 (10 * v_809 + 2 * v_823) = b_875 by rw [eQ_875, uM_ni (by omega), uM_eq]))
        rw [e_986]
        refine j_aload X dL_law_987 4 rfl ?_
        refine j_bipush (v := nI 10) X dL_law_989 (by decide) ?_
        refine j_iload X dL_law_991 8 rfl ?_
        refine n_imul X dL_law_993 ?_
        refine j_iconst (v := nI 2) X dL_law_994 (by decide) ?_
        refine j_iload X dL_law_995 9 rfl ?_
        refine n_imul X dL_law_997 ?_
        refine n_iadd X dL_law_998 ?_
        refine j_iconst (v := nI 1) X dL_law_999 (by decide) ?_
        refine n_iadd X dL_law_1000 ?_
        refine jl_ald X (LA.arw (k := 2) hB_875 (by decide) (by decide)) (by show _ < 50; omega) dL_law_1001 (fun v_1001 e_1001 b_1001 => ?_)
        have e_1001 := e_1001.trans ((show Q_875 2 (10 * v_809 + 2 * v_823 + 1) = e_875 by rw [eQ_875, uM_eq]))
        rw [e_1001]
        refine jl_cI4 (mc := 0) (ms := 0) X hR (m_X6_book hRR (nI v_809) (nI v_823) (nI b_875) (nI e_875)) m_L_146 rfl (by decide) (by decide) (Nat.le_of_ble_eq_true rfl) ⟨by omega, by omega⟩ dL_law_1002 ?_
        rintro _ ⟨T_1002, e_1002⟩ ⟨rfl, hR0_1002⟩
        have hbk := book_at hC (c := v_809) (d := v_823) (by omega) (by omega) b2_875 b3_875
        have hRR_1002 : RR (if bookNo S v_809 v_823 b_875 e_875 then S else setSp S 5 v_809 v_823 b_875 e_875) T_1002 e_1002 := by rw [← hbk.2]; exact hR0_1002
        rw [hno] at hRR_1002
        rw [hbk.1, hno]
        refine j_iload X dL_law_1005 12 rfl ?_
        refine b_if_eq (tgt := 1020) X dL_law_1007 (by decide) (fun c_1007 => ?_) (fun c_1007 => ?_)
        · have hv : (if (!cn) = true then (-3 : Int32) else nI (hoursN (setSp S 5 v_809 v_823 b_875 e_875) v_809)) = -3 := by rw [c_1007]; rfl
          have hRR2 : RR S T_1002 e_1002 := by rw [c_1007] at hRR_1002; exact hRR_1002
          rw [hv]
          refine j_bipush (v := (-3)) X dL_law_1020 (by decide) ?_
          refine j_icmp_eq (tgt := 1027) X dL_law_1022 (by decide) (fun c_1022 => ?_) (fun c_1022 => ?_)
          · refine j_iload X dL_law_1027 12 rfl ?_
            refine b_if_ne (tgt := 1064) X dL_law_1029 (by decide) (fun c_1029 => ?_) (fun c_1029 => ?_)
            · rw [c_1007] at c_1029; exact absurd c_1029 (by decide)
            · skip
              refine j_aload X dL_law_1032 4 rfl ?_
              refine j_bipush (v := nI 10) X dL_law_1034 (by decide) ?_
              refine j_iload X dL_law_1036 8 rfl ?_
              refine n_imul X dL_law_1038 ?_
              refine j_iconst (v := nI 2) X dL_law_1039 (by decide) ?_
              refine j_iload X dL_law_1040 9 rfl ?_
              refine n_imul X dL_law_1042 ?_
              refine n_iadd X dL_law_1043 ?_
              refine j_iload X dL_law_1044 10 rfl ?_
              refine jl_ast X hB_875 (k := 2) (by decide) (by decide) rfl (show _ < 50 by omega) (by omega) dL_law_1046 (fun Q_1046 eQ_1046 hB_1046 => ?_)
              refine j_aload X dL_law_1047 4 rfl ?_
              refine j_bipush (v := nI 10) X dL_law_1049 (by decide) ?_
              refine j_iload X dL_law_1051 8 rfl ?_
              refine n_imul X dL_law_1053 ?_
              refine j_iconst (v := nI 2) X dL_law_1054 (by decide) ?_
              refine j_iload X dL_law_1055 9 rfl ?_
              refine n_imul X dL_law_1057 ?_
              refine n_iadd X dL_law_1058 ?_
              refine j_iconst (v := nI 1) X dL_law_1059 (by decide) ?_
              refine n_iadd X dL_law_1060 ?_
              refine j_iload X dL_law_1061 11 rfl ?_
              skip
              refine jl_ast X hB_1046 (k := 2) (by decide) (by decide) rfl (show _ < 50 by omega) (by omega) dL_law_1063 (fun Q_1063 eQ_1063 hB_1063 => ?_)
              have L1064 : ∀ (S3 : MS) (T3 : CT) (e3 : CE) (Q3 : MS), (BD Q3) → (RR S3 T3 e3) → (LR S3 nc me Q3) → (ZS S3 Q3 me) → JJ K D 31 390 (WC ad Y (T3, e3) ++ LA aq Y 6 Q3) [(0, .ref b), (1, .ref (ad 16)), (2, .ref (aq 0)), (3, .ref (aq 1)), (4, .ref (aq 2)), (5, .ref (aq 3)), (6, .ref (aq 4)), (7, .ref (aq 5))] 1064 [] := by
                intro S3 T3 e3 Q3 hB3 hRR hL3 hZ3
                refine j_aload_n X dL_law_1064 rfl 1 rfl ?_
                refine j_aload_n X dL_law_1065 rfl 2 rfl ?_
                refine j_aload_n X dL_law_1066 rfl 3 rfl ?_
                refine j_aload X dL_law_1067 4 rfl ?_
                refine j_aload X dL_law_1069 5 rfl ?_
                refine j_aload X dL_law_1071 6 rfl ?_
                refine jl_same X hR (m_L_same hB3 hL3 hRR) m_L_149 (by decide) (Nat.le_of_ble_eq_true rfl) ⟨by omega, by omega⟩ dL_law_1073 ?_
                rintro _ ⟨T_1073, e_1073⟩ ⟨rfl, hR0_1073⟩
                have hRR_1073 : RR S3 T_1073 e_1073 := hR0_1073
                refine b_if_ne (tgt := 1081) X dL_law_1076 (by decide) (fun c_1076 => ?_) (fun c_1076 => ?_)
                · refine j_sub [0, 1, 2, 3, 4, 5, 6, 7] rfl ?_
                  exact law_F X hR hX hbl hbA hL260 fin hB3 hL3 hZ3 hRR_1073
                · exact absurd c_1076 (by decide)
              exact j_sub [0, 1, 2, 3, 4, 5, 6, 7] rfl (L1064 S _ _ _ (by exact hB_1063) (by exact hRR2) (by exact ((span_back eQ_875 (show Q_1063 = _ by rw [eQ_1063, eQ_1046, ← (hC.2.2.2 v_809 v_823 (by omega) (by omega)).1, ← (hC.2.2.2 v_809 v_823 (by omega) (by omega)).2])).symm ▸ hL)) (by exact ((span_back eQ_875 (show Q_1063 = _ by rw [eQ_1063, eQ_1046, ← (hC.2.2.2 v_809 v_823 (by omega) (by omega)).1, ← (hC.2.2.2 v_809 v_823 (by omega) (by omega)).2])).symm ▸ hZ)) )
          · exact absurd rfl c_1022
        · have hv : (if (!cn) = true then (-3 : Int32) else nI (hoursN (setSp S 5 v_809 v_823 b_875 e_875) v_809)) = nI (hoursN (setSp S 5 v_809 v_823 b_875 e_875) v_809) := by rw [c_1007]; rfl
          have hRR2 : RR (setSp S 5 v_809 v_823 b_875 e_875) T_1002 e_1002 := by rw [c_1007] at hRR_1002; exact hRR_1002
          rw [hv]
          refine j_iload X dL_law_1010 8 rfl ?_
          refine j_aload X dL_law_1012 4 rfl ?_
          refine jr_callN2 X hR (m_L_hoursC (LV.la hB_875 (by decide) (by decide)) hC2 hI2 v_809 (by omega)) m_L_31 (by decide) (by decide) (Nat.le_of_ble_eq_true rfl) ⟨by omega, by omega⟩ dL_law_1014 (fun v_1014 e_1014 b_1014 => ?_)
          refine j_goto (tgt := 1022) X dL_law_1017 (by decide) ?_
          refine j_icmp_eq (tgt := 1027) X dL_law_1022 (by decide) (fun c_1022 => ?_) (fun c_1022 => ?_)
          · refine j_iload X dL_law_1027 12 rfl ?_
            refine b_if_ne (tgt := 1064) X dL_law_1029 (by decide) (fun c_1029 => ?_) (fun c_1029 => ?_)
            · have L1064 : ∀ (S3 : MS) (T3 : CT) (e3 : CE) (Q3 : MS), (BD Q3) → (RR S3 T3 e3) → (LR S3 nc me Q3) → (ZS S3 Q3 me) → JJ K D 31 390 (WC ad Y (T3, e3) ++ LA aq Y 6 Q3) [(0, .ref b), (1, .ref (ad 16)), (2, .ref (aq 0)), (3, .ref (aq 1)), (4, .ref (aq 2)), (5, .ref (aq 3)), (6, .ref (aq 4)), (7, .ref (aq 5))] 1064 [] := by
                intro S3 T3 e3 Q3 hB3 hRR hL3 hZ3
                refine j_aload_n X dL_law_1064 rfl 1 rfl ?_
                refine j_aload_n X dL_law_1065 rfl 2 rfl ?_
                refine j_aload_n X dL_law_1066 rfl 3 rfl ?_
                refine j_aload X dL_law_1067 4 rfl ?_
                refine j_aload X dL_law_1069 5 rfl ?_
                refine j_aload X dL_law_1071 6 rfl ?_
                refine jl_same X hR (m_L_same hB3 hL3 hRR) m_L_149 (by decide) (Nat.le_of_ble_eq_true rfl) ⟨by omega, by omega⟩ dL_law_1073 ?_
                rintro _ ⟨T_1073, e_1073⟩ ⟨rfl, hR0_1073⟩
                have hRR_1073 : RR S3 T_1073 e_1073 := hR0_1073
                refine b_if_ne (tgt := 1081) X dL_law_1076 (by decide) (fun c_1076 => ?_) (fun c_1076 => ?_)
                · refine j_sub [0, 1, 2, 3, 4, 5, 6, 7] rfl ?_
                  exact law_F X hR hX hbl hbA hL260 fin hB3 hL3 hZ3 hRR_1073
                · exact absurd c_1076 (by decide)
              exact j_sub [0, 1, 2, 3, 4, 5, 6, 7] rfl (L1064 (setSp S 5 v_809 v_823 b_875 e_875) _ _ _ (by exact hB_875) (by exact hRR2) (by exact hL2) (by exact hZ2) )
            · rw [c_1007] at c_1029; exact absurd c_1029 (by decide)
          · exact absurd (by rw [e_1014]) c_1022
      · refine j_aload_n X dL_law_890 rfl 3 rfl ?_
        refine j_iconst (v := nI 4) X dL_law_891 (by decide) ?_
        refine j_iload X dL_law_892 8 rfl ?_
        refine n_imul X dL_law_894 ?_
        refine j_iconst (v := nI 2) X dL_law_895 (by decide) ?_
        refine n_iadd X dL_law_896 ?_
        refine jl_ald X (LA.arw (k := 1) hB_875 (by decide) (by decide)) (by show _ < 20; omega) dL_law_897 (fun v_897 e_897 b_897 => ?_)
        have e_897 := e_897.trans (hch)
        subst e_897
        refine j_iconst (v := nI 1) X dL_law_898 (by decide) ?_
        refine n_icmp_ne (tgt := 969) X dL_law_899 (by decide) (by omega) (by omega) (fun c_899 => ?_) (fun c_899 => ?_)
        · have hk00 := hk0 c_899
          have hno : bookNo S v_809 v_823 b_875 e_875 = !cn := by unfold bookNo; rw [hcn, hk00, decide_eq_false c_899]; rfl
          refine j_aload_n X dL_law_969 rfl 1 rfl ?_
          refine j_iload X dL_law_970 8 rfl ?_
          refine j_iload X dL_law_972 9 rfl ?_
          refine j_aload X dL_law_974 4 rfl ?_
          refine j_bipush (v := nI 10) X dL_law_976 (by decide) ?_
          refine j_iload X dL_law_978 8 rfl ?_
          refine n_imul X dL_law_980 ?_
          refine j_iconst (v := nI 2) X dL_law_981 (by decide) ?_
          refine j_iload X dL_law_982 9 rfl ?_
          refine n_imul X dL_law_984 ?_
          refine n_iadd X dL_law_985 ?_
          refine jl_ald X (LA.arw (k := 2) hB_875 (by decide) (by decide)) (by show _ < 50; omega) dL_law_986 (fun v_986 e_986 b_986 => ?_)
          have e_986 := e_986.trans ((show Q_875 2 (10 * v_809 + 2 * v_823) = b_875 by rw [eQ_875, uM_ni (by omega), uM_eq]))
          rw [e_986]
          refine j_aload X dL_law_987 4 rfl ?_
          refine j_bipush (v := nI 10) X dL_law_989 (by decide) ?_
          refine j_iload X dL_law_991 8 rfl ?_
          refine n_imul X dL_law_993 ?_
          refine j_iconst (v := nI 2) X dL_law_994 (by decide) ?_
          refine j_iload X dL_law_995 9 rfl ?_
          refine n_imul X dL_law_997 ?_
          refine n_iadd X dL_law_998 ?_
          refine j_iconst (v := nI 1) X dL_law_999 (by decide) ?_
          refine n_iadd X dL_law_1000 ?_
          refine jl_ald X (LA.arw (k := 2) hB_875 (by decide) (by decide)) (by show _ < 50; omega) dL_law_1001 (fun v_1001 e_1001 b_1001 => ?_)
          have e_1001 := e_1001.trans ((show Q_875 2 (10 * v_809 + 2 * v_823 + 1) = e_875 by rw [eQ_875, uM_eq]))
          rw [e_1001]
          refine jl_cI4 (mc := 0) (ms := 0) X hR (m_X6_book hRR (nI v_809) (nI v_823) (nI b_875) (nI e_875)) m_L_146 rfl (by decide) (by decide) (Nat.le_of_ble_eq_true rfl) ⟨by omega, by omega⟩ dL_law_1002 ?_
          rintro _ ⟨T_1002, e_1002⟩ ⟨rfl, hR0_1002⟩
          have hbk := book_at hC (c := v_809) (d := v_823) (by omega) (by omega) b2_875 b3_875
          have hRR_1002 : RR (if bookNo S v_809 v_823 b_875 e_875 then S else setSp S 5 v_809 v_823 b_875 e_875) T_1002 e_1002 := by rw [← hbk.2]; exact hR0_1002
          rw [hno] at hRR_1002
          rw [hbk.1, hno]
          refine j_iload X dL_law_1005 12 rfl ?_
          refine b_if_eq (tgt := 1020) X dL_law_1007 (by decide) (fun c_1007 => ?_) (fun c_1007 => ?_)
          · have hv : (if (!cn) = true then (-3 : Int32) else nI (hoursN (setSp S 5 v_809 v_823 b_875 e_875) v_809)) = -3 := by rw [c_1007]; rfl
            have hRR2 : RR S T_1002 e_1002 := by rw [c_1007] at hRR_1002; exact hRR_1002
            rw [hv]
            refine j_bipush (v := (-3)) X dL_law_1020 (by decide) ?_
            refine j_icmp_eq (tgt := 1027) X dL_law_1022 (by decide) (fun c_1022 => ?_) (fun c_1022 => ?_)
            · refine j_iload X dL_law_1027 12 rfl ?_
              refine b_if_ne (tgt := 1064) X dL_law_1029 (by decide) (fun c_1029 => ?_) (fun c_1029 => ?_)
              · rw [c_1007] at c_1029; exact absurd c_1029 (by decide)
              · skip
                refine j_aload X dL_law_1032 4 rfl ?_
                refine j_bipush (v := nI 10) X dL_law_1034 (by decide) ?_
                refine j_iload X dL_law_1036 8 rfl ?_
                refine n_imul X dL_law_1038 ?_
                refine j_iconst (v := nI 2) X dL_law_1039 (by decide) ?_
                refine j_iload X dL_law_1040 9 rfl ?_
                refine n_imul X dL_law_1042 ?_
                refine n_iadd X dL_law_1043 ?_
                refine j_iload X dL_law_1044 10 rfl ?_
                refine jl_ast X hB_875 (k := 2) (by decide) (by decide) rfl (show _ < 50 by omega) (by omega) dL_law_1046 (fun Q_1046 eQ_1046 hB_1046 => ?_)
                refine j_aload X dL_law_1047 4 rfl ?_
                refine j_bipush (v := nI 10) X dL_law_1049 (by decide) ?_
                refine j_iload X dL_law_1051 8 rfl ?_
                refine n_imul X dL_law_1053 ?_
                refine j_iconst (v := nI 2) X dL_law_1054 (by decide) ?_
                refine j_iload X dL_law_1055 9 rfl ?_
                refine n_imul X dL_law_1057 ?_
                refine n_iadd X dL_law_1058 ?_
                refine j_iconst (v := nI 1) X dL_law_1059 (by decide) ?_
                refine n_iadd X dL_law_1060 ?_
                refine j_iload X dL_law_1061 11 rfl ?_
                skip
                refine jl_ast X hB_1046 (k := 2) (by decide) (by decide) rfl (show _ < 50 by omega) (by omega) dL_law_1063 (fun Q_1063 eQ_1063 hB_1063 => ?_)
                have L1064 : ∀ (S3 : MS) (T3 : CT) (e3 : CE) (Q3 : MS), (BD Q3) → (RR S3 T3 e3) → (LR S3 nc me Q3) → (ZS S3 Q3 me) → JJ K D 31 390 (WC ad Y (T3, e3) ++ LA aq Y 6 Q3) [(0, .ref b), (1, .ref (ad 16)), (2, .ref (aq 0)), (3, .ref (aq 1)), (4, .ref (aq 2)), (5, .ref (aq 3)), (6, .ref (aq 4)), (7, .ref (aq 5))] 1064 [] := by
                  intro S3 T3 e3 Q3 hB3 hRR hL3 hZ3
                  refine j_aload_n X dL_law_1064 rfl 1 rfl ?_
                  refine j_aload_n X dL_law_1065 rfl 2 rfl ?_
                  refine j_aload_n X dL_law_1066 rfl 3 rfl ?_
                  refine j_aload X dL_law_1067 4 rfl ?_
                  refine j_aload X dL_law_1069 5 rfl ?_
                  refine j_aload X dL_law_1071 6 rfl ?_
                  refine jl_same X hR (m_L_same hB3 hL3 hRR) m_L_149 (by decide) (Nat.le_of_ble_eq_true rfl) ⟨by omega, by omega⟩ dL_law_1073 ?_
                  rintro _ ⟨T_1073, e_1073⟩ ⟨rfl, hR0_1073⟩
                  have hRR_1073 : RR S3 T_1073 e_1073 := hR0_1073
                  refine b_if_ne (tgt := 1081) X dL_law_1076 (by decide) (fun c_1076 => ?_) (fun c_1076 => ?_)
                  · refine j_sub [0, 1, 2, 3, 4, 5, 6, 7] rfl ?_
                    exact law_F X hR hX hbl hbA hL260 fin hB3 hL3 hZ3 hRR_1073
                  · exact absurd c_1076 (by decide)
                exact j_sub [0, 1, 2, 3, 4, 5, 6, 7] rfl (L1064 S _ _ _ (by exact hB_1063) (by exact hRR2) (by exact ((span_back eQ_875 (show Q_1063 = _ by rw [eQ_1063, eQ_1046, ← (hC.2.2.2 v_809 v_823 (by omega) (by omega)).1, ← (hC.2.2.2 v_809 v_823 (by omega) (by omega)).2])).symm ▸ hL)) (by exact ((span_back eQ_875 (show Q_1063 = _ by rw [eQ_1063, eQ_1046, ← (hC.2.2.2 v_809 v_823 (by omega) (by omega)).1, ← (hC.2.2.2 v_809 v_823 (by omega) (by omega)).2])).symm ▸ hZ)) )
            · exact absurd rfl c_1022
          · have hv : (if (!cn) = true then (-3 : Int32) else nI (hoursN (setSp S 5 v_809 v_823 b_875 e_875) v_809)) = nI (hoursN (setSp S 5 v_809 v_823 b_875 e_875) v_809) := by rw [c_1007]; rfl
            have hRR2 : RR (setSp S 5 v_809 v_823 b_875 e_875) T_1002 e_1002 := by rw [c_1007] at hRR_1002; exact hRR_1002
            rw [hv]
            refine j_iload X dL_law_1010 8 rfl ?_
            refine j_aload X dL_law_1012 4 rfl ?_
            refine jr_callN2 X hR (m_L_hoursC (LV.la hB_875 (by decide) (by decide)) hC2 hI2 v_809 (by omega)) m_L_31 (by decide) (by decide) (Nat.le_of_ble_eq_true rfl) ⟨by omega, by omega⟩ dL_law_1014 (fun v_1014 e_1014 b_1014 => ?_)
            refine j_goto (tgt := 1022) X dL_law_1017 (by decide) ?_
            refine j_icmp_eq (tgt := 1027) X dL_law_1022 (by decide) (fun c_1022 => ?_) (fun c_1022 => ?_)
            · refine j_iload X dL_law_1027 12 rfl ?_
              refine b_if_ne (tgt := 1064) X dL_law_1029 (by decide) (fun c_1029 => ?_) (fun c_1029 => ?_)
              · have L1064 : ∀ (S3 : MS) (T3 : CT) (e3 : CE) (Q3 : MS), (BD Q3) → (RR S3 T3 e3) → (LR S3 nc me Q3) → (ZS S3 Q3 me) → JJ K D 31 390 (WC ad Y (T3, e3) ++ LA aq Y 6 Q3) [(0, .ref b), (1, .ref (ad 16)), (2, .ref (aq 0)), (3, .ref (aq 1)), (4, .ref (aq 2)), (5, .ref (aq 3)), (6, .ref (aq 4)), (7, .ref (aq 5))] 1064 [] := by
                  intro S3 T3 e3 Q3 hB3 hRR hL3 hZ3
                  refine j_aload_n X dL_law_1064 rfl 1 rfl ?_
                  refine j_aload_n X dL_law_1065 rfl 2 rfl ?_
                  refine j_aload_n X dL_law_1066 rfl 3 rfl ?_
                  refine j_aload X dL_law_1067 4 rfl ?_
                  refine j_aload X dL_law_1069 5 rfl ?_
                  refine j_aload X dL_law_1071 6 rfl ?_
                  refine jl_same X hR (m_L_same hB3 hL3 hRR) m_L_149 (by decide) (Nat.le_of_ble_eq_true rfl) ⟨by omega, by omega⟩ dL_law_1073 ?_
                  rintro _ ⟨T_1073, e_1073⟩ ⟨rfl, hR0_1073⟩
                  have hRR_1073 : RR S3 T_1073 e_1073 := hR0_1073
                  refine b_if_ne (tgt := 1081) X dL_law_1076 (by decide) (fun c_1076 => ?_) (fun c_1076 => ?_)
                  · refine j_sub [0, 1, 2, 3, 4, 5, 6, 7] rfl ?_
                    exact law_F X hR hX hbl hbA hL260 fin hB3 hL3 hZ3 hRR_1073
                  · exact absurd c_1076 (by decide)
                exact j_sub [0, 1, 2, 3, 4, 5, 6, 7] rfl (L1064 (setSp S 5 v_809 v_823 b_875 e_875) _ _ _ (by exact hB_875) (by exact hRR2) (by exact hL2) (by exact hZ2) )
              · rw [c_1007] at c_1029; exact absurd c_1029 (by decide)
            · exact absurd (by rw [e_1014]) c_1022
        · refine j_iload X dL_law_902 12 rfl ?_
          refine b_if_eq (tgt := 960) X dL_law_904 (by decide) (fun c_904 => ?_) (fun c_904 => ?_)
          · refine j_iconst (v := bI false) X dL_law_960 (by decide) ?_
            refine j_istore X [(13, _), (0, _), (1, _), (2, _), (3, _), (4, _), (5, _), (6, _), (7, _), (9, _), (10, _), (11, _), (12, _), (14, _)] dL_law_961 (by decide) rfl ?_
            refine n_iinc X [(14, _), (13, _), (0, _), (1, _), (2, _), (3, _), (4, _), (5, _), (6, _), (7, _), (9, _), (10, _), (11, _), (12, _)] dL_law_963 (q := 13) (b := 1) rfl (by decide) (by decide) rfl ?_
            refine j_goto (tgt := 883) X dL_law_966 (by decide) ?_
            exact j_sub [2, 3, 4, 5, 6, 7, 8, 9, 10, 11, 12, 13, 1, 0] rfl (ih883 _ _ (by omega) (by intro q; exact absurd c_899 q) (by rw [andN, ← hcn]; simp [canQ, isBkd, c_887, c_899, c_904]) (by omega))
          · refine j_iload X dL_law_907 9 rfl ?_
            refine j_iload X dL_law_909 13 rfl ?_
            refine j_bipush (v := nI 10) X dL_law_911 (by decide) ?_
            refine j_iload X dL_law_913 8 rfl ?_
            refine n_imul X dL_law_915 ?_
            refine j_aload X dL_law_916 4 rfl ?_
            refine jr_callB4 X hR (m_L_inC (LV.la hB_875 (by decide) (by decide)) hC2 v_809 v_823 k (by omega) (by omega) (by omega)) m_L_10 (by decide) (by decide) (Nat.le_of_ble_eq_true rfl) ⟨by omega, by omega⟩ dL_law_918 ?_
            refine b_if_eq (tgt := 956) X dL_law_921 (by decide) (fun c_921 => ?_) (fun c_921 => ?_)
            · rw [hbk2] at c_921
              refine j_iconst (v := bI true) X dL_law_956 (by decide) ?_
              refine j_goto (tgt := 961) X dL_law_957 (by decide) ?_
              refine j_istore X [(13, _), (0, _), (1, _), (2, _), (3, _), (4, _), (5, _), (6, _), (7, _), (9, _), (10, _), (11, _), (12, _), (14, _)] dL_law_961 (by decide) rfl ?_
              refine n_iinc X [(14, _), (13, _), (0, _), (1, _), (2, _), (3, _), (4, _), (5, _), (6, _), (7, _), (9, _), (10, _), (11, _), (12, _)] dL_law_963 (q := 13) (b := 1) rfl (by decide) (by decide) rfl ?_
              refine j_goto (tgt := 883) X dL_law_966 (by decide) ?_
              exact j_sub [2, 3, 4, 5, 6, 7, 8, 9, 10, 11, 12, 13, 1, 0] rfl (ih883 _ _ (by omega) (by intro q; exact absurd c_899 q) (by rw [andN, ← hcn]; simp [canQ, isBkd, c_887, c_899, c_904, c_921]) (by omega))
            · rw [hbk2] at c_921
              refine j_iload X dL_law_924 10 rfl ?_
              refine j_iload X dL_law_926 13 rfl ?_
              refine n_icmp_gt (tgt := 938) X dL_law_928 (by decide) (by omega) (by omega) (fun c_928 => ?_) (fun c_928 => ?_)
              · have d_928 := Nat.not_le.mpr c_928
                refine j_iload X dL_law_938 9 rfl ?_
                refine j_iload X dL_law_940 13 rfl ?_
                refine j_aload_n X dL_law_942 rfl 2 rfl ?_
                refine j_aload_n X dL_law_943 rfl 3 rfl ?_
                refine j_aload X dL_law_944 4 rfl ?_
                refine j_aload X dL_law_946 5 rfl ?_
                refine j_aload X dL_law_948 6 rfl ?_
                refine jr_callB7 X hR (m_L_safe (LV.la hB_875 (by decide) (by decide)) hB2 hI2 hL2 v_823 k (by omega) (by omega)) m_L_39 (by decide) (by decide) (Nat.le_of_ble_eq_true rfl) ⟨by omega, by omega⟩ dL_law_950 ?_
                refine b_if_eq (tgt := 960) X dL_law_953 (by decide) (fun c_953 => ?_) (fun c_953 => ?_)
                · refine j_iconst (v := bI false) X dL_law_960 (by decide) ?_
                  refine j_istore X [(13, _), (0, _), (1, _), (2, _), (3, _), (4, _), (5, _), (6, _), (7, _), (9, _), (10, _), (11, _), (12, _), (14, _)] dL_law_961 (by decide) rfl ?_
                  refine n_iinc X [(14, _), (13, _), (0, _), (1, _), (2, _), (3, _), (4, _), (5, _), (6, _), (7, _), (9, _), (10, _), (11, _), (12, _)] dL_law_963 (q := 13) (b := 1) rfl (by decide) (by decide) rfl ?_
                  refine j_goto (tgt := 883) X dL_law_966 (by decide) ?_
                  exact j_sub [2, 3, 4, 5, 6, 7, 8, 9, 10, 11, 12, 13, 1, 0] rfl (ih883 _ _ (by omega) (by intro q; exact absurd c_899 q) (by rw [andN, ← hcn]; simp [canQ, isBkd, c_887, c_899, c_904, c_921, c_928, c_953, d_928]) (by omega))
                · refine j_iconst (v := bI true) X dL_law_956 (by decide) ?_
                  refine j_goto (tgt := 961) X dL_law_957 (by decide) ?_
                  refine j_istore X [(13, _), (0, _), (1, _), (2, _), (3, _), (4, _), (5, _), (6, _), (7, _), (9, _), (10, _), (11, _), (12, _), (14, _)] dL_law_961 (by decide) rfl ?_
                  refine n_iinc X [(14, _), (13, _), (0, _), (1, _), (2, _), (3, _), (4, _), (5, _), (6, _), (7, _), (9, _), (10, _), (11, _), (12, _)] dL_law_963 (q := 13) (b := 1) rfl (by decide) (by decide) rfl ?_
                  refine j_goto (tgt := 883) X dL_law_966 (by decide) ?_
                  exact j_sub [2, 3, 4, 5, 6, 7, 8, 9, 10, 11, 12, 13, 1, 0] rfl (ih883 _ _ (by omega) (by intro q; exact absurd c_899 q) (by rw [andN, ← hcn]; simp [canQ, isBkd, c_887, c_899, c_904, c_921, c_928, c_953, d_928]) (by omega))
              · refine j_iload X dL_law_931 13 rfl ?_
                refine j_iload X dL_law_933 11 rfl ?_
                refine n_icmp_lt (tgt := 956) X dL_law_935 (by decide) (by omega) (by omega) (fun c_935 => ?_) (fun c_935 => ?_)
                · refine j_iconst (v := bI true) X dL_law_956 (by decide) ?_
                  refine j_goto (tgt := 961) X dL_law_957 (by decide) ?_
                  refine j_istore X [(13, _), (0, _), (1, _), (2, _), (3, _), (4, _), (5, _), (6, _), (7, _), (9, _), (10, _), (11, _), (12, _), (14, _)] dL_law_961 (by decide) rfl ?_
                  refine n_iinc X [(14, _), (13, _), (0, _), (1, _), (2, _), (3, _), (4, _), (5, _), (6, _), (7, _), (9, _), (10, _), (11, _), (12, _)] dL_law_963 (q := 13) (b := 1) rfl (by decide) (by decide) rfl ?_
                  refine j_goto (tgt := 883) X dL_law_966 (by decide) ?_
                  exact j_sub [2, 3, 4, 5, 6, 7, 8, 9, 10, 11, 12, 13, 1, 0] rfl (ih883 _ _ (by omega) (by intro q; exact absurd c_899 q) (by rw [andN, ← hcn]; simp [canQ, isBkd, c_887, c_899, c_904, c_921, c_928, c_935]) (by omega))
                · have d_935 := Nat.not_lt.mpr c_935
                  refine j_iload X dL_law_938 9 rfl ?_
                  refine j_iload X dL_law_940 13 rfl ?_
                  refine j_aload_n X dL_law_942 rfl 2 rfl ?_
                  refine j_aload_n X dL_law_943 rfl 3 rfl ?_
                  refine j_aload X dL_law_944 4 rfl ?_
                  refine j_aload X dL_law_946 5 rfl ?_
                  refine j_aload X dL_law_948 6 rfl ?_
                  refine jr_callB7 X hR (m_L_safe (LV.la hB_875 (by decide) (by decide)) hB2 hI2 hL2 v_823 k (by omega) (by omega)) m_L_39 (by decide) (by decide) (Nat.le_of_ble_eq_true rfl) ⟨by omega, by omega⟩ dL_law_950 ?_
                  refine b_if_eq (tgt := 960) X dL_law_953 (by decide) (fun c_953 => ?_) (fun c_953 => ?_)
                  · refine j_iconst (v := bI false) X dL_law_960 (by decide) ?_
                    refine j_istore X [(13, _), (0, _), (1, _), (2, _), (3, _), (4, _), (5, _), (6, _), (7, _), (9, _), (10, _), (11, _), (12, _), (14, _)] dL_law_961 (by decide) rfl ?_
                    refine n_iinc X [(14, _), (13, _), (0, _), (1, _), (2, _), (3, _), (4, _), (5, _), (6, _), (7, _), (9, _), (10, _), (11, _), (12, _)] dL_law_963 (q := 13) (b := 1) rfl (by decide) (by decide) rfl ?_
                    refine j_goto (tgt := 883) X dL_law_966 (by decide) ?_
                    exact j_sub [2, 3, 4, 5, 6, 7, 8, 9, 10, 11, 12, 13, 1, 0] rfl (ih883 _ _ (by omega) (by intro q; exact absurd c_899 q) (by rw [andN, ← hcn]; simp [canQ, isBkd, c_887, c_899, c_904, c_921, c_928, c_935, c_953, d_935]) (by omega))
                  · refine j_iconst (v := bI true) X dL_law_956 (by decide) ?_
                    refine j_goto (tgt := 961) X dL_law_957 (by decide) ?_
                    refine j_istore X [(13, _), (0, _), (1, _), (2, _), (3, _), (4, _), (5, _), (6, _), (7, _), (9, _), (10, _), (11, _), (12, _), (14, _)] dL_law_961 (by decide) rfl ?_
                    refine n_iinc X [(14, _), (13, _), (0, _), (1, _), (2, _), (3, _), (4, _), (5, _), (6, _), (7, _), (9, _), (10, _), (11, _), (12, _)] dL_law_963 (q := 13) (b := 1) rfl (by decide) (by decide) rfl ?_
                    refine j_goto (tgt := 883) X dL_law_966 (by decide) ?_
                    exact j_sub [2, 3, 4, 5, 6, 7, 8, 9, 10, 11, 12, 13, 1, 0] rfl (ih883 _ _ (by omega) (by intro q; exact absurd c_899 q) (by rw [andN, ← hcn]; simp [canQ, isBkd, c_887, c_899, c_904, c_921, c_928, c_935, c_953, d_935]) (by omega))
  exact j_sub [6, 7, 8, 9, 10, 11, 12, 13, 5, 4, 3, 2, 1, 0] rfl (L883 11 _ _ (by omega) (by intro _; rfl) (by rfl) (by omega))
end
