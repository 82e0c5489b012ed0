section
variable {Y : Nat → ClassId} {wl : va_W} {aq : Nat → Nat} {Q S : MS} {nc me : Nat}
set_option maxRecDepth 100000 in
set_option maxHeartbeats 4000000 in
theorem m_L_next (hBQ : BD Q) (hB : BD S) (hI : IV S) (hL : LR S nc me Q) : MR Y (wl ++ LA aq Y 6 Q) zL_next 4 [.ref (aq 0), .ref (aq 1), .ref (aq 2), .ref (aq 3), .ref (aq 4)] (rZ (nx1 (nxt S 24))) := by
  intro D
  refine MT.of [(0, .ref (aq 0)), (1, .ref (aq 1)), (2, .ref (aq 2)), (3, .ref (aq 3)), (4, .ref (aq 4))] (by decide) rfl (Nat.le_of_ble_eq_true rfl) ?_
  intro K hR0 X E
  have hR := RO.rm hR0
  have hQ := hL.1
  have hC := hL.2.1
  have hE := hL.2.2
  have hn5 := hC.1
  have hV : LV (wl ++ LA aq Y 6 Q) Y aq Q := LV.la hBQ (by decide) (by decide)
  refine j_iconst (v := (-1)) X dL_next_0 (by decide) ?_
  refine j_istore X [(5, _), (0, _), (1, _), (2, _), (3, _), (4, _)] dL_next_1 (by decide) rfl ?_
  refine j_iconst (v := nI 0) X dL_next_3 (by decide) ?_
  refine j_istore X [(6, _), (5, _), (0, _), (1, _), (2, _), (3, _), (4, _)] dL_next_4 (by decide) rfl ?_
  have L6 : ∀ (n : Nat) (i : Nat) (o : Option Nat), (i ≤ nc) → (o = nxt S i) → (nc + 1 ≤ i + n) → JJ K D 0 0 (wl ++ LA aq Y 6 Q) [(0, .ref (aq 0)), (1, .ref (aq 1)), (2, .ref (aq 2)), (3, .ref (aq 3)), (4, .ref (aq 4)), (5, .int (nx1 o)), (6, .int (nI i))] 6 [] := by
    intro n
    induction n with
    | zero =>
      intro i o hi ho hf6
      exact absurd hf6 (by omega)
    | succ n6 ih6 =>
      intro i o hi ho hf6
      refine j_iload X dL_next_6 6 rfl ?_
      refine j_aload_n X dL_next_8 rfl 0 rfl ?_
      refine j_bipush (v := nI 7) X dL_next_9 (by decide) ?_
      refine jl_ald X (hV.a0) (by show _ < 16; omega) dL_next_11 (fun v_11 e_11 b_11 => ?_)
      have e_11 := e_11.trans (hQ.2.1.1)
      refine n_icmp_ge (tgt := 168) X dL_next_12 (by decide) (by omega) (by omega) (fun c_12 => ?_) (fun c_12 => ?_)
      · have hin : i = nc := by omega
        have hfin : o = nxt S 24 := by rw [ho, hin, nxt_ext hC]
        refine j_iload X dL_next_168 5 rfl ?_
        exact j_ireturn X E (_) rfl ⟨by rw [hfin]; rfl, rfl⟩ dL_next_170
      · have hw := wt_at hC (show i < nc by omega)
        refine j_aload_n X dL_next_15 rfl 1 rfl ?_
        refine j_iconst (v := nI 4) X dL_next_16 (by decide) ?_
        refine j_iload X dL_next_17 6 rfl ?_
        refine n_imul X dL_next_19 ?_
        refine j_iconst (v := nI 2) X dL_next_20 (by decide) ?_
        refine n_iadd X dL_next_21 ?_
        refine jl_ald X (hV.a1) (by show _ < 20; omega) dL_next_22 (fun v_22 e_22 b_22 => ?_)
        have e_22 := e_22.trans (hC.adm (by omega))
        subst e_22
        refine j_iconst (v := nI 1) X dL_next_23 (by decide) ?_
        refine n_icmp_eq (tgt := 162) X dL_next_24 (by decide) (by omega) (by omega) (fun c_24 => ?_) (fun c_24 => ?_)
        · skip
          refine n_iinc X [(6, _), (0, _), (1, _), (2, _), (3, _), (4, _), (5, _)] dL_next_162 (q := 6) (b := 1) rfl (by decide) (by decide) rfl ?_
          refine j_goto (tgt := 6) X dL_next_165 (by decide) ?_
          exact j_sub [1, 2, 3, 4, 5, 6, 0] rfl (ih6 (i + 1) o (by omega) (by exact nxt_no ho (by rw [hw, c_24]; simp)) (by omega))
        · have h31 := (hI.2.2.1 i (by omega)).2
          have h30 : S 3 i = 0 := by omega
          have h01 := hC.in1 (show i < nc by omega)
          have hw1 : isWt S i = true := by rw [hw, h30]; simp
          refine j_iload X dL_next_27 6 rfl ?_
          refine j_aload_n X dL_next_29 rfl 2 rfl ?_
          refine jr_callN2 X hR (m_L_hoursC hV hC hI i (by omega)) m_L_31 (by decide) (by decide) (Nat.le_of_ble_eq_true rfl) ⟨by decide, by decide⟩ dL_next_30 (fun v_30 e_30 b_30 => ?_)
          refine n_if_ne (tgt := 39) X dL_next_33 (by decide) (by omega) (fun c_33 => ?_) (fun c_33 => ?_)
          · refine j_aload_n X dL_next_39 rfl 1 rfl ?_
            refine j_iconst (v := nI 4) X dL_next_40 (by decide) ?_
            refine j_iload X dL_next_41 6 rfl ?_
            refine n_imul X dL_next_43 ?_
            refine j_iconst (v := nI 2) X dL_next_44 (by decide) ?_
            refine n_iadd X dL_next_45 ?_
            refine j_iconst (v := nI 1) X dL_next_46 (by decide) ?_
            refine jl_ast X hBQ (k := 1) (by decide) (by decide) rfl (show _ < 20 by omega) (by omega) dL_next_47 (fun Q_47 eQ_47 hB_47 => ?_)
            have hQ0 : Q 1 (4 * i + 2) = 0 := (hC.adm (by omega)).trans h30
            have hL1 : LR (uM S 3 i 1) nc me Q_47 := by rw [eQ_47]; exact hL.adm1 (by omega) 1
            have hC1 := hL1.2.1
            have hB1 : BD (uM S 3 i 1) := BD_u hB (by omega)
            have hI1 : IV (uM S 3 i 1) := IV_adm hI (by omega)
            have hV1 : LV (wl ++ LA aq Y 6 Q_47) Y aq Q_47 := LV.la hB_47 (by decide) (by decide)
            have hsf : ∀ d k, isBkd S i d k = true → safeB (uM S 3 i 1) d k (-9) = safeB S d k (nI i) := fun d k hb => safe_adm (by omega) h01 h30 hb
            refine j_iconst (v := bI true) X dL_next_48 (by decide) ?_
            refine j_istore X [(7, _), (0, _), (1, _), (2, _), (3, _), (4, _), (5, _), (6, _)] dL_next_49 (by decide) rfl ?_
            refine j_iconst (v := nI 0) X dL_next_51 (by decide) ?_
            refine j_istore X [(8, _), (7, _), (0, _), (1, _), (2, _), (3, _), (4, _), (5, _), (6, _)] dL_next_52 (by decide) rfl ?_
            have L54 : ∀ (n : Nat) (d : Nat) (cn : Bool), (d ≤ 5) → (cn = andN (fun d => andN (fun k => fitB S i d k) 10) d) → (5 + 1 ≤ d + n) → JJ K D 0 0 (wl ++ LA aq Y 6 Q_47) [(0, .ref (aq 0)), (1, .ref (aq 1)), (2, .ref (aq 2)), (3, .ref (aq 3)), (4, .ref (aq 4)), (5, .int (nx1 o)), (6, .int (nI i)), (7, .int (bI cn)), (8, .int (nI d))] 54 [] := by
              intro n
              induction n with
              | zero =>
                intro d cn hd hcn hf54
                exact absurd hf54 (by omega)
              | succ n54 ih54 =>
                intro d cn hd hcn hf54
                refine j_iload X dL_next_54 8 rfl ?_
                refine j_iconst (v := nI 5) X dL_next_56 (by decide) ?_
                refine n_icmp_ge (tgt := 126) X dL_next_57 (by decide) (by omega) (by omega) (fun c_57 => ?_) (fun c_57 => ?_)
                · have hd5 : d = 5 := by omega
                  subst hd5
                  have hh : 0 < hoursN S i := by omega
                  have hadm : admB S i = cn := by unfold admB; rw [decide_eq_true hh, ← hcn]; rfl
                  refine j_aload_n X dL_next_126 rfl 1 rfl ?_
                  refine j_iconst (v := nI 4) X dL_next_127 (by decide) ?_
                  refine j_iload X dL_next_128 6 rfl ?_
                  refine n_imul X dL_next_130 ?_
                  refine j_iconst (v := nI 2) X dL_next_131 (by decide) ?_
                  refine n_iadd X dL_next_132 ?_
                  refine j_iconst (v := nI 0) X dL_next_133 (by decide) ?_
                  refine jl_ast X hB_47 (k := 1) (by decide) (by decide) rfl (show _ < 20 by omega) (by omega) dL_next_134 (fun Q_134 eQ_134 hB_134 => ?_)
                  have hq : Q_134 = Q := by rw [eQ_134, eQ_47]; exact uQ_back hQ0
                  rw [hq]
                  refine j_iload X dL_next_135 7 rfl ?_
                  refine b_if_eq (tgt := 162) X dL_next_137 (by decide) (fun c_137 => ?_) (fun c_137 => ?_)
                  · skip
                    refine n_iinc X [(6, _), (0, _), (1, _), (2, _), (3, _), (4, _), (5, _), (7, _), (8, _)] dL_next_162 (q := 6) (b := 1) rfl (by decide) (by decide) rfl ?_
                    refine j_goto (tgt := 6) X dL_next_165 (by decide) ?_
                    exact j_sub [1, 2, 3, 4, 5, 6, 0] rfl (ih6 (i + 1) o (by omega) (by exact nxt_no ho (by rw [hadm, c_137]; simp)) (by omega))
                  · have hwa : (isWt S i && admB S i) = true := by rw [hw1, hadm, c_137]; rfl
                    refine j_iload X dL_next_140 5 rfl ?_
                    refine j_if_lt (tgt := 158) X dL_next_142 (by decide) (fun c_142 => ?_) (fun c_142 => ?_)
                    · have ho0 := nx1_neg (fun b hb => nx_lt24 (n := i) (by omega) (ho.symm.trans hb)) c_142
                      rw [ho0] at ho
                      refine j_iload X dL_next_158 6 rfl ?_
                      refine j_istore X [(5, _), (0, _), (1, _), (2, _), (3, _), (4, _), (6, _), (7, _), (8, _)] dL_next_160 (by decide) rfl ?_
                      refine n_iinc X [(6, _), (5, _), (0, _), (1, _), (2, _), (3, _), (4, _), (7, _), (8, _)] dL_next_162 (q := 6) (b := 1) rfl (by decide) (by decide) rfl ?_
                      refine j_goto (tgt := 6) X dL_next_165 (by decide) ?_
                      exact j_sub [2, 3, 4, 5, 6, 1, 0] rfl (ih6 (i + 1) (some i) (by omega) (by exact nxt_0 ho hwa) (by omega))
                    · obtain ⟨b, hb⟩ := nx1_nn c_142
                      subst hb
                      have hb24 := nxt_lt ho.symm
                      refine j_iload X dL_next_145 6 rfl ?_
                      refine j_iload X dL_next_147 5 rfl ?_
                      refine j_aload_n X dL_next_149 rfl 0 rfl ?_
                      refine j_aload_n X dL_next_150 rfl 1 rfl ?_
                      refine j_aload_n X dL_next_151 rfl 2 rfl ?_
                      refine jr_callB5 X hR (m_L_before hV hB hI hL i b (by omega) (by omega)) m_L_43 (by decide) (by decide) (Nat.le_of_ble_eq_true rfl) ⟨by decide, by decide⟩ dL_next_152 ?_
                      refine b_if_eq (tgt := 162) X dL_next_155 (by decide) (fun c_155 => ?_) (fun c_155 => ?_)
                      · skip
                        refine n_iinc X [(6, _), (0, _), (1, _), (2, _), (3, _), (4, _), (5, _), (7, _), (8, _)] dL_next_162 (q := 6) (b := 1) rfl (by decide) (by decide) rfl ?_
                        refine j_goto (tgt := 6) X dL_next_165 (by decide) ?_
                        exact j_sub [1, 2, 3, 4, 5, 6, 0] rfl (ih6 (i + 1) (some b) (by omega) (by exact nxt_2 ho hwa c_155) (by omega))
                      · skip
                        refine j_iload X dL_next_158 6 rfl ?_
                        refine j_istore X [(5, _), (0, _), (1, _), (2, _), (3, _), (4, _), (6, _), (7, _), (8, _)] dL_next_160 (by decide) rfl ?_
                        refine n_iinc X [(6, _), (5, _), (0, _), (1, _), (2, _), (3, _), (4, _), (7, _), (8, _)] dL_next_162 (q := 6) (b := 1) rfl (by decide) (by decide) rfl ?_
                        refine j_goto (tgt := 6) X dL_next_165 (by decide) ?_
                        exact j_sub [2, 3, 4, 5, 6, 1, 0] rfl (ih6 (i + 1) (some i) (by omega) (by exact nxt_1 ho hwa c_155) (by omega))
                · refine j_iconst (v := nI 0) X dL_next_60 (by decide) ?_
                  refine j_istore X [(9, _), (0, _), (1, _), (2, _), (3, _), (4, _), (5, _), (6, _), (7, _), (8, _)] dL_next_61 (by decide) rfl ?_
                  have L63 : ∀ (n : Nat) (k : Nat) (cm : Bool), (k ≤ 10) → (cm = (andN (fun d => andN (fun k => fitB S i d k) 10) d && andN (fun k => fitB S i d k) k)) → (10 + 1 ≤ k + n) → JJ K D 0 0 (wl ++ LA aq Y 6 Q_47) [(0, .ref (aq 0)), (1, .ref (aq 1)), (2, .ref (aq 2)), (3, .ref (aq 3)), (4, .ref (aq 4)), (5, .int (nx1 o)), (6, .int (nI i)), (7, .int (bI cm)), (8, .int (nI d)), (9, .int (nI k))] 63 [] := by
                    intro n
                    induction n with
                    | zero =>
                      intro k cm hk hcm hf63
                      exact absurd hf63 (by omega)
                    | succ n63 ih63 =>
                      intro k cm hk hcm hf63
                      refine j_iload X dL_next_63 9 rfl ?_
                      refine j_bipush (v := nI 10) X dL_next_65 (by decide) ?_
                      refine n_icmp_ge (tgt := 120) X dL_next_67 (by decide) (by omega) (by omega) (fun c_67 => ?_) (fun c_67 => ?_)
                      · have hk10 : k = 10 := by omega
                        subst hk10
                        refine n_iinc X [(8, _), (0, _), (1, _), (2, _), (3, _), (4, _), (5, _), (6, _), (7, _), (9, _)] dL_next_120 (q := 8) (b := 1) rfl (by decide) (by decide) rfl ?_
                        refine j_goto (tgt := 54) X dL_next_123 (by decide) ?_
                        exact j_sub [1, 2, 3, 4, 5, 6, 7, 8, 0] rfl (ih54 _ _ (by omega) (by rw [andN, ← hcm]) (by omega))
                      · refine j_iload X dL_next_70 7 rfl ?_
                        refine b_if_eq (tgt := 111) X dL_next_72 (by decide) (fun c_72 => ?_) (fun c_72 => ?_)
                        · refine j_iconst (v := bI false) X dL_next_111 (by decide) ?_
                          refine j_istore X [(7, _), (0, _), (1, _), (2, _), (3, _), (4, _), (5, _), (6, _), (8, _), (9, _)] dL_next_112 (by decide) rfl ?_
                          refine n_iinc X [(9, _), (7, _), (0, _), (1, _), (2, _), (3, _), (4, _), (5, _), (6, _), (8, _)] dL_next_114 (q := 9) (b := 1) rfl (by decide) (by decide) rfl ?_
                          refine j_goto (tgt := 63) X dL_next_117 (by decide) ?_
                          exact j_sub [2, 3, 4, 5, 6, 7, 8, 1, 9, 0] rfl (ih63 _ _ (by omega) (by rw [andN, ← Bool.and_assoc, ← hcm]; simp [fitB, c_67, c_72]) (by omega))
                        · refine j_iload X dL_next_75 8 rfl ?_
                          refine j_iload X dL_next_77 9 rfl ?_
                          refine j_bipush (v := nI 10) X dL_next_79 (by decide) ?_
                          refine j_iload X dL_next_81 6 rfl ?_
                          refine n_imul X dL_next_83 ?_
                          refine j_aload_n X dL_next_84 rfl 2 rfl ?_
                          refine jr_callB4 X hR (m_L_inC hV1 hC1 i d k (by omega) (by omega) (by omega)) m_L_10 (by decide) (by decide) (Nat.le_of_ble_eq_true rfl) ⟨by decide, by decide⟩ dL_next_85 ?_
                          refine b_if_eq (tgt := 107) X dL_next_88 (by decide) (fun c_88 => ?_) (fun c_88 => ?_)
                          · rw [adm_bkd] at c_88
                            refine j_iconst (v := bI true) X dL_next_107 (by decide) ?_
                            refine j_goto (tgt := 112) X dL_next_108 (by decide) ?_
                            refine j_istore X [(7, _), (0, _), (1, _), (2, _), (3, _), (4, _), (5, _), (6, _), (8, _), (9, _)] dL_next_112 (by decide) rfl ?_
                            refine n_iinc X [(9, _), (7, _), (0, _), (1, _), (2, _), (3, _), (4, _), (5, _), (6, _), (8, _)] dL_next_114 (q := 9) (b := 1) rfl (by decide) (by decide) rfl ?_
                            refine j_goto (tgt := 63) X dL_next_117 (by decide) ?_
                            exact j_sub [2, 3, 4, 5, 6, 7, 8, 1, 9, 0] rfl (ih63 _ _ (by omega) (by rw [andN, ← Bool.and_assoc, ← hcm]; simp [fitB, c_67, c_72, c_88]) (by omega))
                          · rw [adm_bkd] at c_88
                            refine j_iload X dL_next_91 8 rfl ?_
                            refine j_iload X dL_next_93 9 rfl ?_
                            refine j_aload_n X dL_next_95 rfl 0 rfl ?_
                            refine j_aload_n X dL_next_96 rfl 1 rfl ?_
                            refine j_aload_n X dL_next_97 rfl 2 rfl ?_
                            refine j_aload_n X dL_next_98 rfl 3 rfl ?_
                            refine j_aload X dL_next_99 4 rfl ?_
                            refine jr_callB7 X hR (m_L_safe hV1 hB1 hI1 hL1 d k (by omega) (by omega)) m_L_39 (by decide) (by decide) (Nat.le_of_ble_eq_true rfl) ⟨by decide, by decide⟩ dL_next_101 ?_
                            refine b_if_eq (tgt := 111) X dL_next_104 (by decide) (fun c_104 => ?_) (fun c_104 => ?_)
                            · rw [hsf _ _ c_88] at c_104
                              refine j_iconst (v := bI false) X dL_next_111 (by decide) ?_
                              refine j_istore X [(7, _), (0, _), (1, _), (2, _), (3, _), (4, _), (5, _), (6, _), (8, _), (9, _)] dL_next_112 (by decide) rfl ?_
                              refine n_iinc X [(9, _), (7, _), (0, _), (1, _), (2, _), (3, _), (4, _), (5, _), (6, _), (8, _)] dL_next_114 (q := 9) (b := 1) rfl (by decide) (by decide) rfl ?_
                              refine j_goto (tgt := 63) X dL_next_117 (by decide) ?_
                              exact j_sub [2, 3, 4, 5, 6, 7, 8, 1, 9, 0] rfl (ih63 _ _ (by omega) (by rw [andN, ← Bool.and_assoc, ← hcm]; simp [fitB, c_67, c_72, c_88, c_104]) (by omega))
                            · rw [hsf _ _ c_88] at c_104
                              refine j_iconst (v := bI true) X dL_next_107 (by decide) ?_
                              refine j_goto (tgt := 112) X dL_next_108 (by decide) ?_
                              refine j_istore X [(7, _), (0, _), (1, _), (2, _), (3, _), (4, _), (5, _), (6, _), (8, _), (9, _)] dL_next_112 (by decide) rfl ?_
                              refine n_iinc X [(9, _), (7, _), (0, _), (1, _), (2, _), (3, _), (4, _), (5, _), (6, _), (8, _)] dL_next_114 (q := 9) (b := 1) rfl (by decide) (by decide) rfl ?_
                              refine j_goto (tgt := 63) X dL_next_117 (by decide) ?_
                              exact j_sub [2, 3, 4, 5, 6, 7, 8, 1, 9, 0] rfl (ih63 _ _ (by omega) (by rw [andN, ← Bool.and_assoc, ← hcm]; simp [fitB, c_67, c_72, c_88, c_104]) (by omega))
                  exact j_sub [1, 2, 3, 4, 5, 6, 7, 8, 9, 0] rfl (L63 11 _ _ (by omega) (by rw [andN, ← hcn]; simp) (by omega))
            exact j_sub [2, 3, 4, 5, 6, 7, 8, 1, 0] rfl (L54 6 _ _ (by omega) (by rfl) (by omega))
          · have had : admB S i = false := by unfold admB; rw [← e_30, c_33]; simp
            refine j_goto (tgt := 162) X dL_next_36 (by decide) ?_
            refine n_iinc X [(6, _), (0, _), (1, _), (2, _), (3, _), (4, _), (5, _)] dL_next_162 (q := 6) (b := 1) rfl (by decide) (by decide) rfl ?_
            refine j_goto (tgt := 6) X dL_next_165 (by decide) ?_
            exact j_sub [1, 2, 3, 4, 5, 6, 0] rfl (ih6 (i + 1) o (by omega) (by exact nxt_no ho (by rw [had]; simp)) (by omega))
  exact j_sub [2, 3, 4, 5, 6, 1, 0] rfl (L6 (nc + 1) 0 none (by omega) (by rfl) (by omega))
end
