theorem set_step {S1 Q1 Q2 Q3 : MS} {g x y : Nat} (hg : g < 3) (h : ∀ j, j < g → Q1 0 j = S1 11 j ∧ Q1 0 (3 + j) = S1 12 j) (e1 : Q2 = uM Q1 0 g x) (e2 : Q3 = uM Q2 0 (3 + g) y) : ∀ j, j < g + 1 → Q3 0 j = uM (uM S1 11 g x) 12 g y 11 j ∧ Q3 0 (3 + j) = uM (uM S1 11 g x) 12 g y 12 j := fun j hj => by
  rw [uM_nk (show (11 : Nat) ≠ 12 by decide), e2, uM_ni (show j ≠ 3 + g by omega), e1]
  by_cases q : j = g
  · rw [q, uM_eq, uM_eq, uM_eq, uM_eq]
    exact ⟨rfl, rfl⟩
  · rw [uM_ni q, uM_ni q, uM_ni (show 3 + j ≠ 3 + g by omega), uM_ni (show 3 + j ≠ g by omega), uM_ni q, uM_nk (show (12 : Nat) ≠ 11 by decide)]
    exact h j (by omega)
section
variable {K : Ctx} {D : va_G} {Y : Nat → ClassId} {ad aq : Nat → Nat} {b L : Nat} {xs : Nat → Int32} {nc me : Nat}
set_option maxRecDepth 100000 in
set_option maxHeartbeats 4000000 in
theorem law_A2 (X : CX K cL_law 17 RL D Y) (hR : RO K 40 783554 6751585) (hX : va_X b L xs (ks K) (ks K).heap) (hbl : b < (ks K).heap.size) (hbA : ¬ kA K b) (hL260 : L ≤ 260) (fin : ∀ (ws : va_W) (lv : List (Nat × Value)), JJ K D 783554 6751585 ws lv 1228 [.int 1]) {Q : MS} (hBQ : BD Q) (hz : ∀ a j, Q a j = 0) : JJ K D 23 359 (WC ad Y (T0, e0) ++ LA aq Y 6 Q) [(0, .ref b), (1, .ref (ad 16)), (2, .ref (aq 0)), (3, .ref (aq 1)), (4, .ref (aq 2)), (5, .ref (aq 3)), (6, .ref (aq 4)), (7, .ref (aq 5))] 42 [] := by
  refine j_aload_n X dL_law_42 rfl 2 rfl ?_
  refine j_bipush (v := nI 7) X dL_law_43 (by decide) ?_
  refine j_iconst (v := nI 1) X dL_law_45 (by decide) ?_
  refine j_aload_n X dL_law_46 rfl 0 rfl ?_
  refine j_iconst (v := nI 0) X dL_law_47 (by decide) ?_
  refine jx_cell X hX hbl hbA hR (m_L_cell hL260 _ (by omega)) m_L_116 (by decide) (Nat.le_of_ble_eq_true rfl) ⟨by omega, by omega⟩ dL_law_48 (fun x_48 => ?_)
  refine j_iconst (v := nI 5) X dL_law_51 (by decide) ?_
  refine jr_callR2 X hR (m_L_low _ _ (by omega) (by omega)) m_L_112 (by decide) (by decide) (Nat.le_of_ble_eq_true rfl) ⟨by omega, by omega⟩ dL_law_52 (fun v_52 e_52 => ?_)
  refine n_iadd X dL_law_55 ?_
  refine jl_ast X hBQ (k := 0) (by decide) (by decide) rfl (show _ < 16 by omega) (by omega) dL_law_56 (fun Q_56 eQ_56 hB_56 => ?_)
  refine j_aload_n X dL_law_57 rfl 2 rfl ?_
  refine j_bipush (v := nI 8) X dL_law_58 (by decide) ?_
  refine j_aload_n X dL_law_60 rfl 0 rfl ?_
  refine j_iconst (v := nI 1) X dL_law_61 (by decide) ?_
  refine jx_cell X hX hbl hbA hR (m_L_cell hL260 _ (by omega)) m_L_116 (by decide) (Nat.le_of_ble_eq_true rfl) ⟨by omega, by omega⟩ dL_law_62 (fun x_62 => ?_)
  refine j_iconst (v := nI 4) X dL_law_65 (by decide) ?_
  refine jr_callR2 X hR (m_L_low _ _ (by omega) (by omega)) m_L_112 (by decide) (by decide) (Nat.le_of_ble_eq_true rfl) ⟨by omega, by omega⟩ dL_law_66 (fun v_66 e_66 => ?_)
  refine jl_ast X hB_56 (k := 0) (by decide) (by decide) rfl (show _ < 16 by omega) (by omega) dL_law_69 (fun Q_69 eQ_69 hB_69 => ?_)
  refine j_aload_n X dL_law_70 rfl 2 rfl ?_
  refine j_bipush (v := nI 6) X dL_law_71 (by decide) ?_
  refine j_iconst (v := nI 1) X dL_law_73 (by decide) ?_
  refine j_aload_n X dL_law_74 rfl 0 rfl ?_
  refine j_iconst (v := nI 2) X dL_law_75 (by decide) ?_
  refine jx_cell X hX hbl hbA hR (m_L_cell hL260 _ (by omega)) m_L_116 (by decide) (Nat.le_of_ble_eq_true rfl) ⟨by omega, by omega⟩ dL_law_76 (fun x_76 => ?_)
  refine j_bipush (v := nI 6) X dL_law_79 (by decide) ?_
  refine jr_callR2 X hR (m_L_low _ _ (by omega) (by omega)) m_L_112 (by decide) (by decide) (Nat.le_of_ble_eq_true rfl) ⟨by omega, by omega⟩ dL_law_81 (fun v_81 e_81 => ?_)
  refine n_iadd X dL_law_84 ?_
  refine jl_ast X hB_69 (k := 0) (by decide) (by decide) rfl (show _ < 16 by omega) (by omega) dL_law_85 (fun Q_85 eQ_85 hB_85 => ?_)
  refine j_aload_n X dL_law_86 rfl 1 rfl ?_
  refine j_aload_n X dL_law_87 rfl 2 rfl ?_
  refine j_bipush (v := nI 6) X dL_law_88 (by decide) ?_
  refine jl_ald X (LA.arw (k := 0) hB_85 (by decide) (by decide)) (by show _ < 16; omega) dL_law_90 (fun v_90 e_90 b_90 => ?_)
  have e_90 := e_90.trans ((show Q_85 0 6 = 1 + v_81 by rw [eQ_85, uM_eq]))
  subst e_90
  refine jl_cI1 (mc := 0) (ms := 0) X hR (m_X6_setRoomLimit RR_0 (nI (1 + v_81))) m_L_120 rfl (by decide) (by decide) (Nat.le_of_ble_eq_true rfl) ⟨by omega, by omega⟩ dL_law_91 ?_
  rintro _ ⟨T_91, e_91⟩ ⟨rfl, hR0_91⟩
  have hli := lim_at (S := S0M) (x := 1 + v_81) (by omega) (by omega)
  have hRR_91 : RR (uM S0M 21 1 (1 + v_81)) T_91 e_91 := by rw [← hli.2]; exact hR0_91
  rw [hli.1, show S0M 21 1 = 20 from rfl]
  refine j_bipush (v := nI 20) X dL_law_94 (by decide) ?_
  refine n_icmp_eq (tgt := 101) X dL_law_96 (by decide) (by omega) (by omega) (fun c_96 => ?_) (fun c_96 => ?_)
  · refine j_iconst (v := nI 0) X dL_law_101 (by decide) ?_
    refine j_istore X [(8, _), (0, _), (1, _), (2, _), (3, _), (4, _), (5, _), (6, _), (7, _)] dL_law_102 (by decide) rfl ?_
    have L104 : ∀ (n : Nat) (g : Nat) (S1 : MS) (T1 : CT) (e1 : CE) (Q1 : MS), (g ≤ 3) → (BD Q1) → (RR S1 T1 e1) → (∀ k i, k ≠ 11 → k ≠ 12 → k ≠ 21 → S1 k i = 0) → (S1 21 2 = 0) → (Q1 0 7 = 1 + v_52 ∧ Q1 0 8 = v_66 ∧ Q1 0 6 = S1 21 1) → (∀ j, j < g → Q1 0 j = S1 11 j ∧ Q1 0 (3 + j) = S1 12 j) → (∀ j, g ≤ j → j < 3 → S1 11 j = S0M 11 j ∧ S1 12 j = S0M 12 j) → (∀ a j, a ≠ 0 → Q1 a j = 0) → (3 + 1 ≤ g + n) → JJ K D 23 359 (WC ad Y (T1, e1) ++ LA aq Y 6 Q1) [(0, .ref b), (1, .ref (ad 16)), (2, .ref (aq 0)), (3, .ref (aq 1)), (4, .ref (aq 2)), (5, .ref (aq 3)), (6, .ref (aq 4)), (7, .ref (aq 5)), (8, .int (nI g))] 104 [] := by
      intro n
      induction n with
      | zero =>
        intro g S1 T1 e1 Q1 hg3 hB1 hRR h0 h212 hq hgq hd hr hf104
        exact absurd hf104 (by omega)
      | succ n104 ih104 =>
        intro g S1 T1 e1 Q1 hg3 hB1 hRR h0 h212 hq hgq hd hr hf104
        refine j_iload X dL_law_104 8 rfl ?_
        refine j_iconst (v := nI 3) X dL_law_106 (by decide) ?_
        refine n_icmp_ge (tgt := 238) X dL_law_107 (by decide) (by omega) (by omega) (fun c_107 => ?_) (fun c_107 => ?_)
        · have hg33 : g = 3 := by omega
          subst hg33
          have hPB : PB S1 (1 + v_52) v_66 0 Q1 := ⟨⟨⟨by omega, by omega, by omega⟩, hq, hgq⟩, ⟨by omega, fun x _ => h0 7 x (by decide) (by decide) (by decide), fun x d hx => absurd hx (by omega), fun x w hx => absurd hx (by omega)⟩, fun k j hk => h0 k j (by omega) (by omega) (by omega), ⟨fun j => h0 16 j (by decide) (by decide) (by decide), h212, fun k j h1 h2 => h0 k j (by omega) (by omega) (by omega), fun j => hr 5 j (by decide), fun x hx => absurd hx (by omega)⟩, fun j _ => hr 3 j (by decide), fun j _ => hr 4 j (by decide), fun j => ⟨hr 1 j (by decide), hr 2 j (by decide)⟩⟩
          refine j_sub [0, 1, 2, 3, 4, 5, 6, 7] rfl ?_
          exact law_B X hR hX hbl hbA hL260 fin hB1 hPB hRR
        · have hg3s : g < 3 := by omega
          have hb11 := BD_S0 11 g
          have hb12 := BD_S0 12 g
          refine j_aload_n X dL_law_110 rfl 2 rfl ?_
          refine j_iload X dL_law_111 8 rfl ?_
          refine j_iconst (v := nI 1) X dL_law_113 (by decide) ?_
          refine j_aload_n X dL_law_114 rfl 0 rfl ?_
          refine j_iconst (v := nI 2) X dL_law_115 (by decide) ?_
          refine jx_cell X hX hbl hbA hR (m_L_cell hL260 _ (by omega)) m_L_116 (by decide) (Nat.le_of_ble_eq_true rfl) ⟨by omega, by omega⟩ dL_law_116 (fun x_116 => ?_)
          refine j_iconst (v := nI 3) X dL_law_119 (by decide) ?_
          refine j_iconst (v := nI 3) X dL_law_120 (by decide) ?_
          refine j_iload X dL_law_121 8 rfl ?_
          refine n_imul X dL_law_123 ?_
          refine n_iadd X dL_law_124 ?_
          refine j_ishr X dL_law_125 ?_
          refine j_iconst (v := nI 5) X dL_law_126 (by decide) ?_
          refine jr_callR2 X hR (m_L_low _ _ (by omega) (by omega)) m_L_112 (by decide) (by decide) (Nat.le_of_ble_eq_true rfl) ⟨by omega, by omega⟩ dL_law_127 (fun v_127 e_127 => ?_)
          refine n_iadd X dL_law_130 ?_
          refine jl_ast X hB1 (k := 0) (by decide) (by decide) rfl (show _ < 16 by omega) (by omega) dL_law_131 (fun Q_131 eQ_131 hB_131 => ?_)
          refine j_aload_n X dL_law_132 rfl 2 rfl ?_
          refine j_iconst (v := nI 3) X dL_law_133 (by decide) ?_
          refine j_iload X dL_law_134 8 rfl ?_
          refine n_iadd X dL_law_136 ?_
          refine j_aload_n X dL_law_137 rfl 0 rfl ?_
          refine j_iconst (v := nI 3) X dL_law_138 (by decide) ?_
          refine jx_cell X hX hbl hbA hR (m_L_cell hL260 _ (by omega)) m_L_116 (by decide) (Nat.le_of_ble_eq_true rfl) ⟨by omega, by omega⟩ dL_law_139 (fun x_139 => ?_)
          refine j_iconst (v := nI 5) X dL_law_142 (by decide) ?_
          refine j_iload X dL_law_143 8 rfl ?_
          refine n_imul X dL_law_145 ?_
          refine j_ishr X dL_law_146 ?_
          refine j_sipush (v := nI 500) X dL_law_147 (by decide) ?_
          refine jr_callR2 X hR (m_L_low _ _ (by omega) (by omega)) m_L_112 (by decide) (by decide) (Nat.le_of_ble_eq_true rfl) ⟨by omega, by omega⟩ dL_law_150 (fun v_150 e_150 => ?_)
          refine jl_ast X hB_131 (k := 0) (by decide) (by decide) rfl (show _ < 16 by omega) (by omega) dL_law_153 (fun Q_153 eQ_153 hB_153 => ?_)
          refine j_aload_n X dL_law_154 rfl 1 rfl ?_
          refine j_iload X dL_law_155 8 rfl ?_
          refine j_aload_n X dL_law_157 rfl 2 rfl ?_
          refine j_iload X dL_law_158 8 rfl ?_
          refine jl_ald X (LA.arw (k := 0) hB_153 (by decide) (by decide)) (by show _ < 16; omega) dL_law_160 (fun v_160 e_160 b_160 => ?_)
          have e_160 := e_160.trans ((show Q_153 0 g = 1 + v_127 by rw [eQ_153, uM_ni (by omega), eQ_131, uM_eq]))
          subst e_160
          refine jl_cI2 (mc := 0) (ms := 0) X hR (m_X6_setRatio hRR (nI g) (nI (1 + v_127))) m_L_123 rfl (by decide) (by decide) (Nat.le_of_ble_eq_true rfl) ⟨by omega, by omega⟩ dL_law_161 ?_
          rintro _ ⟨T_161, e_161⟩ ⟨rfl, hR0_161⟩
          have hra := rat_at (S := S1) (g := g) (r := 1 + v_127) (by omega) (by omega) (by omega)
          have hRR_161 : RR (uM S1 11 g (1 + v_127)) T_161 e_161 := by rw [← hra.2]; exact hR0_161
          rw [hra.1, (hd g (Nat.le_refl _) (by omega)).1]
          refine j_iload X dL_law_164 8 rfl ?_
          refine n_if_ne (tgt := 173) X dL_law_166 (by decide) (by omega) (fun c_166 => ?_) (fun c_166 => ?_)
          · refine j_iload X dL_law_173 8 rfl ?_
            refine j_iconst (v := nI 1) X dL_law_175 (by decide) ?_
            refine n_icmp_ne (tgt := 184) X dL_law_176 (by decide) (by omega) (by omega) (fun c_176 => ?_) (fun c_176 => ?_)
            · have hg2 : g = 2 := by omega
              refine j_bipush (v := nI 10) X dL_law_184 (by decide) ?_
              refine n_icmp_ne (tgt := 230) X dL_law_186 (by decide) (by omega) (by omega) (fun c_186 => ?_) (fun c_186 => ?_)
              · exact absurd (by rw [hg2]; rfl) c_186
              · refine j_aload_n X dL_law_189 rfl 1 rfl ?_
                refine j_iload X dL_law_190 8 rfl ?_
                refine j_aload_n X dL_law_192 rfl 2 rfl ?_
                refine j_iconst (v := nI 3) X dL_law_193 (by decide) ?_
                refine j_iload X dL_law_194 8 rfl ?_
                refine n_iadd X dL_law_196 ?_
                refine jl_ald X (LA.arw (k := 0) hB_153 (by decide) (by decide)) (by show _ < 16; omega) dL_law_197 (fun v_197 e_197 b_197 => ?_)
                have e_197 := e_197.trans ((show Q_153 0 (3 + g) = v_150 by rw [eQ_153, uM_eq]))
                rw [e_197]
                refine jl_cI2 (mc := 0) (ms := 0) X hR (m_X6_setRate hRR_161 (nI g) (nI v_150)) m_L_126 rfl (by decide) (by decide) (Nat.le_of_ble_eq_true rfl) ⟨by omega, by omega⟩ dL_law_198 ?_
                rintro _ ⟨T_198, e_198⟩ ⟨rfl, hR0_198⟩
                have hrt := rate_at (S := uM S1 11 g (1 + v_127)) (g := g) (r := v_150) (by omega) (by omega)
                have hRR_198 : RR (uM (uM S1 11 g (1 + v_127)) 12 g v_150) T_198 e_198 := by rw [← hrt.2]; exact hR0_198
                rw [hrt.1, uM_nk (show (12 : Nat) ≠ 11 by decide), (hd g (Nat.le_refl _) (by omega)).2]
                refine j_iload X dL_law_201 8 rfl ?_
                refine n_if_ne (tgt := 212) X dL_law_203 (by decide) (by omega) (fun c_203 => ?_) (fun c_203 => ?_)
                · refine j_iload X dL_law_212 8 rfl ?_
                  refine j_iconst (v := nI 1) X dL_law_214 (by decide) ?_
                  refine n_icmp_ne (tgt := 224) X dL_law_215 (by decide) (by omega) (by omega) (fun c_215 => ?_) (fun c_215 => ?_)
                  · refine j_sipush (v := nI 250) X dL_law_224 (by decide) ?_
                    refine n_icmp_eq (tgt := 232) X dL_law_227 (by decide) (by omega) (by omega) (fun c_227 => ?_) (fun c_227 => ?_)
                    · refine n_iinc X [(8, _), (0, _), (1, _), (2, _), (3, _), (4, _), (5, _), (6, _), (7, _)] dL_law_232 (q := 8) (b := 1) rfl (by decide) (by decide) rfl ?_
                      refine j_goto (tgt := 104) X dL_law_235 (by decide) ?_
                      exact j_sub [1, 2, 3, 4, 5, 6, 7, 8, 0] rfl (ih104 (g + 1) (uM (uM S1 11 g (1 + v_127)) 12 g v_150) _ _ _ (by omega) (by exact hB_153) (by exact hRR_198) (by intro k i a c d; rw [uM_nk c, uM_nk a]; exact h0 k i a c d) (by rw [uM_nk (by decide), uM_nk (by decide)]; exact h212) (by rw [eQ_153, eQ_131, uM_ni (by omega), uM_ni (by omega), uM_ni (by omega), uM_ni (by omega), uM_ni (by omega), uM_ni (by omega), uM_nk (show (21 : Nat) ≠ 12 by decide), uM_nk (show (21 : Nat) ≠ 11 by decide)]; exact hq) (by exact set_step hg3s hgq eQ_131 eQ_153) (by intro j h1 h2; rw [uM_nk (show (11 : Nat) ≠ 12 by decide), uM_ni (show j ≠ g by omega), uM_ni (show j ≠ g by omega), uM_nk (show (12 : Nat) ≠ 11 by decide)]; exact hd j (by omega) h2) (by intro a j ha; rw [eQ_153, uM_nk ha, eQ_131, uM_nk ha]; exact hr a j ha) (by omega))
                    · exact absurd (by rw [hg2]; rfl) c_227
                  · exact absurd c_215 (by omega)
                · exact absurd c_203 (by omega)
            · skip
              refine j_bipush (v := nI 6) X dL_law_179 (by decide) ?_
              refine j_goto (tgt := 186) X dL_law_181 (by decide) ?_
              refine n_icmp_ne (tgt := 230) X dL_law_186 (by decide) (by omega) (by omega) (fun c_186 => ?_) (fun c_186 => ?_)
              · exact absurd (by rw [c_176]; rfl) c_186
              · refine j_aload_n X dL_law_189 rfl 1 rfl ?_
                refine j_iload X dL_law_190 8 rfl ?_
                refine j_aload_n X dL_law_192 rfl 2 rfl ?_
                refine j_iconst (v := nI 3) X dL_law_193 (by decide) ?_
                refine j_iload X dL_law_194 8 rfl ?_
                refine n_iadd X dL_law_196 ?_
                refine jl_ald X (LA.arw (k := 0) hB_153 (by decide) (by decide)) (by show _ < 16; omega) dL_law_197 (fun v_197 e_197 b_197 => ?_)
                have e_197 := e_197.trans ((show Q_153 0 (3 + g) = v_150 by rw [eQ_153, uM_eq]))
                rw [e_197]
                refine jl_cI2 (mc := 0) (ms := 0) X hR (m_X6_setRate hRR_161 (nI g) (nI v_150)) m_L_126 rfl (by decide) (by decide) (Nat.le_of_ble_eq_true rfl) ⟨by omega, by omega⟩ dL_law_198 ?_
                rintro _ ⟨T_198, e_198⟩ ⟨rfl, hR0_198⟩
                have hrt := rate_at (S := uM S1 11 g (1 + v_127)) (g := g) (r := v_150) (by omega) (by omega)
                have hRR_198 : RR (uM (uM S1 11 g (1 + v_127)) 12 g v_150) T_198 e_198 := by rw [← hrt.2]; exact hR0_198
                rw [hrt.1, uM_nk (show (12 : Nat) ≠ 11 by decide), (hd g (Nat.le_refl _) (by omega)).2]
                refine j_iload X dL_law_201 8 rfl ?_
                refine n_if_ne (tgt := 212) X dL_law_203 (by decide) (by omega) (fun c_203 => ?_) (fun c_203 => ?_)
                · refine j_iload X dL_law_212 8 rfl ?_
                  refine j_iconst (v := nI 1) X dL_law_214 (by decide) ?_
                  refine n_icmp_ne (tgt := 224) X dL_law_215 (by decide) (by omega) (by omega) (fun c_215 => ?_) (fun c_215 => ?_)
                  · exact absurd c_215 (by omega)
                  · refine j_sipush (v := nI 300) X dL_law_218 (by decide) ?_
                    refine j_goto (tgt := 227) X dL_law_221 (by decide) ?_
                    refine n_icmp_eq (tgt := 232) X dL_law_227 (by decide) (by omega) (by omega) (fun c_227 => ?_) (fun c_227 => ?_)
                    · refine n_iinc X [(8, _), (0, _), (1, _), (2, _), (3, _), (4, _), (5, _), (6, _), (7, _)] dL_law_232 (q := 8) (b := 1) rfl (by decide) (by decide) rfl ?_
                      refine j_goto (tgt := 104) X dL_law_235 (by decide) ?_
                      exact j_sub [1, 2, 3, 4, 5, 6, 7, 8, 0] rfl (ih104 (g + 1) (uM (uM S1 11 g (1 + v_127)) 12 g v_150) _ _ _ (by omega) (by exact hB_153) (by exact hRR_198) (by intro k i a c d; rw [uM_nk c, uM_nk a]; exact h0 k i a c d) (by rw [uM_nk (by decide), uM_nk (by decide)]; exact h212) (by rw [eQ_153, eQ_131, uM_ni (by omega), uM_ni (by omega), uM_ni (by omega), uM_ni (by omega), uM_ni (by omega), uM_ni (by omega), uM_nk (show (21 : Nat) ≠ 12 by decide), uM_nk (show (21 : Nat) ≠ 11 by decide)]; exact hq) (by exact set_step hg3s hgq eQ_131 eQ_153) (by intro j h1 h2; rw [uM_nk (show (11 : Nat) ≠ 12 by decide), uM_ni (show j ≠ g by omega), uM_ni (show j ≠ g by omega), uM_nk (show (12 : Nat) ≠ 11 by decide)]; exact hd j (by omega) h2) (by intro a j ha; rw [eQ_153, uM_nk ha, eQ_131, uM_nk ha]; exact hr a j ha) (by omega))
                    · exact absurd (by rw [c_176]; rfl) c_227
                · exact absurd c_203 (by omega)
          · skip
            refine j_iconst (v := nI 4) X dL_law_169 (by decide) ?_
            refine j_goto (tgt := 186) X dL_law_170 (by decide) ?_
            refine n_icmp_ne (tgt := 230) X dL_law_186 (by decide) (by omega) (by omega) (fun c_186 => ?_) (fun c_186 => ?_)
            · exact absurd (by rw [c_166]; rfl) c_186
            · refine j_aload_n X dL_law_189 rfl 1 rfl ?_
              refine j_iload X dL_law_190 8 rfl ?_
              refine j_aload_n X dL_law_192 rfl 2 rfl ?_
              refine j_iconst (v := nI 3) X dL_law_193 (by decide) ?_
              refine j_iload X dL_law_194 8 rfl ?_
              refine n_iadd X dL_law_196 ?_
              refine jl_ald X (LA.arw (k := 0) hB_153 (by decide) (by decide)) (by show _ < 16; omega) dL_law_197 (fun v_197 e_197 b_197 => ?_)
              have e_197 := e_197.trans ((show Q_153 0 (3 + g) = v_150 by rw [eQ_153, uM_eq]))
              rw [e_197]
              refine jl_cI2 (mc := 0) (ms := 0) X hR (m_X6_setRate hRR_161 (nI g) (nI v_150)) m_L_126 rfl (by decide) (by decide) (Nat.le_of_ble_eq_true rfl) ⟨by omega, by omega⟩ dL_law_198 ?_
              rintro _ ⟨T_198, e_198⟩ ⟨rfl, hR0_198⟩
              have hrt := rate_at (S := uM S1 11 g (1 + v_127)) (g := g) (r := v_150) (by omega) (by omega)
              have hRR_198 : RR (uM (uM S1 11 g (1 + v_127)) 12 g v_150) T_198 e_198 := by rw [← hrt.2]; exact hR0_198
              rw [hrt.1, uM_nk (show (12 : Nat) ≠ 11 by decide), (hd g (Nat.le_refl _) (by omega)).2]
              refine j_iload X dL_law_201 8 rfl ?_
              refine n_if_ne (tgt := 212) X dL_law_203 (by decide) (by omega) (fun c_203 => ?_) (fun c_203 => ?_)
              · exact absurd c_203 (by omega)
              · refine j_sipush (v := nI 400) X dL_law_206 (by decide) ?_
                refine j_goto (tgt := 227) X dL_law_209 (by decide) ?_
                refine n_icmp_eq (tgt := 232) X dL_law_227 (by decide) (by omega) (by omega) (fun c_227 => ?_) (fun c_227 => ?_)
                · refine n_iinc X [(8, _), (0, _), (1, _), (2, _), (3, _), (4, _), (5, _), (6, _), (7, _)] dL_law_232 (q := 8) (b := 1) rfl (by decide) (by decide) rfl ?_
                  refine j_goto (tgt := 104) X dL_law_235 (by decide) ?_
                  exact j_sub [1, 2, 3, 4, 5, 6, 7, 8, 0] rfl (ih104 (g + 1) (uM (uM S1 11 g (1 + v_127)) 12 g v_150) _ _ _ (by omega) (by exact hB_153) (by exact hRR_198) (by intro k i a c d; rw [uM_nk c, uM_nk a]; exact h0 k i a c d) (by rw [uM_nk (by decide), uM_nk (by decide)]; exact h212) (by rw [eQ_153, eQ_131, uM_ni (by omega), uM_ni (by omega), uM_ni (by omega), uM_ni (by omega), uM_ni (by omega), uM_ni (by omega), uM_nk (show (21 : Nat) ≠ 12 by decide), uM_nk (show (21 : Nat) ≠ 11 by decide)]; exact hq) (by exact set_step hg3s hgq eQ_131 eQ_153) (by intro j h1 h2; rw [uM_nk (show (11 : Nat) ≠ 12 by decide), uM_ni (show j ≠ g by omega), uM_ni (show j ≠ g by omega), uM_nk (show (12 : Nat) ≠ 11 by decide)]; exact hd j (by omega) h2) (by intro a j ha; rw [eQ_153, uM_nk ha, eQ_131, uM_nk ha]; exact hr a j ha) (by omega))
                · exact absurd (by rw [c_166]; rfl) c_227
    exact j_sub [1, 2, 3, 4, 5, 6, 7, 8, 0] rfl (L104 4 0 (uM S0M 21 1 (1 + v_81)) _ _ _ (by omega) (by exact hB_85) (by exact hRR_91) (by intro k i a c d; rw [uM_nk d]; exact S0_k a c d) (by rfl) (by rw [eQ_85, uM_ni (by decide), uM_ni (by decide), uM_eq, uM_eq, eQ_69, uM_ni (by decide), uM_eq, eQ_56, uM_eq]; exact ⟨rfl, rfl, rfl⟩) (by intro j hj; exact absurd hj (by omega)) (by intro j _ _; exact ⟨rfl, rfl⟩) (by intro a j ha; rw [eQ_85, uM_nk ha, eQ_69, uM_nk ha, eQ_56, uM_nk ha]; exact hz a j) (by omega))
  · exact absurd rfl c_96
set_option maxRecDepth 100000 in
set_option maxHeartbeats 4000000 in
theorem law_A1 (X : CX K cL_law 17 RL D Y) (hR : RO K 40 783554 6751585) (hX : va_X b L xs (ks K) (ks K).heap) (hbl : b < (ks K).heap.size) (hbA : ¬ kA K b) (hL260 : L ≤ 260) (fin : ∀ (ws : va_W) (lv : List (Nat × Value)), JJ K D 783554 6751585 ws lv 1228 [.int 1]) (hBQ : BD (fun _ _ => 0)) : JJ K D 17 221 (WC ad Y (T0, e0) ++ LA (fun _ => 0) Y 0 (fun _ _ => 0)) [(0, .ref b), (1, .ref (ad 16))] 8 [] := by
  refine j_bipush (v := nI 16) X dL_law_8 (by decide) ?_
  refine jl_newI X hR rfl (by decide) (by decide) (by decide) dL_law_10 (fun q_10 => ?_)
  refine j_astore_n X [(2, _), (0, _), (1, _)] dL_law_12 rfl (by decide) rfl ?_
  refine j_bipush (v := nI 20) X dL_law_13 (by decide) ?_
  refine jl_newI X hR rfl (by decide) (by decide) (by decide) dL_law_15 (fun q_15 => ?_)
  refine j_astore_n X [(3, _), (2, _), (0, _), (1, _)] dL_law_17 rfl (by decide) rfl ?_
  refine j_bipush (v := nI 50) X dL_law_18 (by decide) ?_
  refine jl_newI X hR rfl (by decide) (by decide) (by decide) dL_law_20 (fun q_20 => ?_)
  refine j_astore X [(4, _), (3, _), (2, _), (0, _), (1, _)] dL_law_22 (by decide) rfl ?_
  refine j_bipush (v := nI 30) X dL_law_24 (by decide) ?_
  refine jl_newI X hR rfl (by decide) (by decide) (by decide) dL_law_26 (fun q_26 => ?_)
  refine j_astore X [(5, _), (4, _), (3, _), (2, _), (0, _), (1, _)] dL_law_28 (by decide) rfl ?_
  refine j_bipush (v := nI 16) X dL_law_30 (by decide) ?_
  refine jl_newI X hR rfl (by decide) (by decide) (by decide) dL_law_32 (fun q_32 => ?_)
  refine j_astore X [(6, _), (5, _), (4, _), (3, _), (2, _), (0, _), (1, _)] dL_law_34 (by decide) rfl ?_
  refine j_bipush (v := nI 6) X dL_law_36 (by decide) ?_
  refine jl_newI X hR rfl (by decide) (by decide) (by decide) dL_law_38 (fun q_38 => ?_)
  refine j_astore X [(7, _), (6, _), (5, _), (4, _), (3, _), (2, _), (0, _), (1, _)] dL_law_40 (by decide) rfl ?_
  refine j_sub [6, 7, 5, 4, 3, 2, 1, 0] rfl ?_
  exact law_A2 (aq := (va_up (va_up (va_up (va_up (va_up (va_up (fun _ => 0) 0 q_10) 1 q_15) 2 q_20) 3 q_26) 4 q_32) 5 q_38)) X hR hX hbl hbA hL260 fin (BD_z (k := 5) (BD_z (k := 4) (BD_z (k := 3) (BD_z (k := 2) (BD_z (k := 1) (BD_z (k := 0) hBQ)))))) (fun a j => by simp [zQ])
end
