section
variable {K : Ctx} {D : va_G} {Y : Nat → ClassId} {ad aq : Nat → Nat} {b L : Nat} {xs : Nat → Int32} {nc me : Nat}
set_option maxRecDepth 100000 in
set_option maxHeartbeats 4000000 in
theorem law_F (X : CX K cL_law 17 RL D Y) (hR : RO K 40 783554 6751585) (hX : va_X b L xs (ks K) (ks K).heap) (hbl : b < (ks K).heap.size) (hbA : ¬ kA K b) (hL260 : L ≤ 260) (fin : ∀ (ws : va_W) (lv : List (Nat × Value)), JJ K D 783554 6751585 ws lv 1228 [.int 1]) {S : MS} {T : CT} {e : CE} {Q : MS} (hBQ : BD Q) (hL : LR S nc me Q) (hZ : ZS S Q me) (hRR : RR S T e) : JJ K D 31 390 (WC ad Y (T, e) ++ LA aq Y 6 Q) [(0, .ref b), (1, .ref (ad 16)), (2, .ref (aq 0)), (3, .ref (aq 1)), (4, .ref (aq 2)), (5, .ref (aq 3)), (6, .ref (aq 4)), (7, .ref (aq 5))] 1081 [] := by
  refine j_aload_n X dL_law_1081 rfl 0 rfl ?_
  refine j_bipush (v := nI 62) X dL_law_1082 (by decide) ?_
  refine jx_cell X hX hbl hbA hR (m_L_cell hL260 _ (by omega)) m_L_116 (by decide) (Nat.le_of_ble_eq_true rfl) ⟨by omega, by omega⟩ dL_law_1084 (fun x_1084 => ?_)
  refine j_iconst (v := nI 3) X dL_law_1087 (by decide) ?_
  refine jr_callR2 X hR (m_L_low _ _ (by omega) (by omega)) m_L_112 (by decide) (by decide) (Nat.le_of_ble_eq_true rfl) ⟨by omega, by omega⟩ dL_law_1088 (fun v_1088 e_1088 => ?_)
  have hU0 : LU S 0 Q := ⟨by omega, hZ.2.1, fun x hx => by rw [hZ.2.2.2.1, hZ.2.2.2.1, hZ.2.2.2.1, hZ.2.2.1 13 x (by omega) (by omega), hZ.2.2.1 14 x (by omega) (by omega), hZ.2.2.1 15 x (by omega) (by omega)]; exact ⟨rfl, rfl, rfl⟩⟩
  refine j_istore X [(14, _), (0, _), (1, _), (2, _), (3, _), (4, _), (5, _), (6, _), (7, _)] dL_law_1091 (by decide) rfl ?_
  refine j_iconst (v := nI 0) X dL_law_1093 (by decide) ?_
  refine j_istore X [(15, _), (14, _), (0, _), (1, _), (2, _), (3, _), (4, _), (5, _), (6, _), (7, _)] dL_law_1094 (by decide) rfl ?_
  refine j_widen (c2 := (31 + 0)) (s2 := (390 + 4 * 0)) (by omega) (by omega) ?_
  have L1096 : ∀ (n : Nat) (k : Nat) (S1 : MS) (T1 : CT) (e1 : CE) (Q1 : MS), (k ≤ v_1088) → (BD Q1) → (RR S1 T1 e1) → (LR S1 nc me Q1) → (LU S1 k Q1) → (∀ j, j < 5 → S1 16 j = 0) → (∀ e, e < me → Q1 4 (4 * e + 3) = 0) → (v_1088 + 1 ≤ k + n) → JJ K D (31 + k) (390 + 4 * k) (WC ad Y (T1, e1) ++ LA aq Y 6 Q1) [(0, .ref b), (1, .ref (ad 16)), (2, .ref (aq 0)), (3, .ref (aq 1)), (4, .ref (aq 2)), (5, .ref (aq 3)), (6, .ref (aq 4)), (7, .ref (aq 5)), (14, .int (nI v_1088)), (15, .int (nI k))] 1096 [] := by
    intro n
    induction n with
    | zero =>
      intro k S1 T1 e1 Q1 hk hB1 hRR hL1 hU1 h16 h3 hf1096
      exact absurd hf1096 (by omega)
    | succ n1096 ih1096 =>
      intro k S1 T1 e1 Q1 hk hB1 hRR hL1 hU1 h16 h3 hf1096
      refine j_iload X dL_law_1096 9 rfl ?_
      refine j_iload X dL_law_1098 8 rfl ?_
      refine n_icmp_ge (tgt := 1212) X dL_law_1100 (by decide) (by omega) (by omega) (fun c_1100 => ?_) (fun c_1100 => ?_)
      · have hke : k = v_1088 := by omega
        subst hke
        refine j_aload_n X dL_law_1212 rfl 1 rfl ?_
        refine j_iload X dL_law_1213 8 rfl ?_
        refine j_aload_n X dL_law_1215 rfl 2 rfl ?_
        refine j_aload_n X dL_law_1216 rfl 3 rfl ?_
        refine j_aload X dL_law_1217 4 rfl ?_
        refine j_aload X dL_law_1219 5 rfl ?_
        refine j_aload X dL_law_1221 6 rfl ?_
        refine j_aload X dL_law_1223 7 rfl ?_
        refine jl_covd X hR (m_L_covered hB1 hL1 hU1 h3 h16 hRR) m_L_164 (by decide) (Nat.le_of_ble_eq_true rfl) ⟨by omega, by omega⟩ dL_law_1225 ?_
        exact j_widen (by omega) (by omega) (fin _ _)
      · have h212 : S1 21 2 = k := hU1.2.1
        refine j_aload_n X dL_law_1103 rfl 0 rfl ?_
        refine j_bipush (v := nI 63) X dL_law_1104 (by decide) ?_
        refine j_iload X dL_law_1106 9 rfl ?_
        refine n_iadd X dL_law_1108 ?_
        refine jx_cell X hX hbl hbA hR (m_L_cell hL260 _ (by omega)) m_L_116 (by decide) (Nat.le_of_ble_eq_true rfl) ⟨by omega, by omega⟩ dL_law_1109 (fun x_1109 => ?_)
        refine j_istore X [(16, _), (0, _), (1, _), (2, _), (3, _), (4, _), (5, _), (6, _), (7, _), (14, _), (15, _)] dL_law_1112 (by decide) rfl ?_
        refine j_aload X dL_law_1114 8 rfl ?_
        refine j_iconst (v := nI 3) X dL_law_1116 (by decide) ?_
        refine j_iload X dL_law_1117 10 rfl ?_
        refine n_imul X dL_law_1119 ?_
        refine j_iconst (v := nI 1) X dL_law_1120 (by decide) ?_
        refine j_iload X dL_law_1121 0 rfl ?_
        refine j_bipush (v := nI 31) X dL_law_1123 (by decide) ?_
        refine jr_callR2 X hR (m_L_low _ _ (by omega) (by omega)) m_L_112 (by decide) (by decide) (Nat.le_of_ble_eq_true rfl) ⟨by omega, by omega⟩ dL_law_1125 (fun v_1125 e_1125 => ?_)
        refine n_iadd X dL_law_1128 ?_
        refine jl_ast X hB1 (k := 5) (by decide) (by decide) rfl (show _ < 6 by omega) (by omega) dL_law_1129 (fun Q_1129 eQ_1129 hB_1129 => ?_)
        refine j_aload X dL_law_1130 8 rfl ?_
        refine j_iconst (v := nI 3) X dL_law_1132 (by decide) ?_
        refine j_iload X dL_law_1133 10 rfl ?_
        refine n_imul X dL_law_1135 ?_
        refine j_iconst (v := nI 1) X dL_law_1136 (by decide) ?_
        refine n_iadd X dL_law_1137 ?_
        refine j_iconst (v := nI 1) X dL_law_1138 (by decide) ?_
        refine j_iload X dL_law_1139 0 rfl ?_
        refine j_iconst (v := nI 5) X dL_law_1141 (by decide) ?_
        refine j_ishr X dL_law_1142 ?_
        refine j_iconst (v := nI 5) X dL_law_1143 (by decide) ?_
        refine jr_callR2 X hR (m_L_low _ _ (by omega) (by omega)) m_L_112 (by decide) (by decide) (Nat.le_of_ble_eq_true rfl) ⟨by omega, by omega⟩ dL_law_1144 (fun v_1144 e_1144 => ?_)
        refine n_iadd X dL_law_1147 ?_
        refine jl_ast X hB_1129 (k := 5) (by decide) (by decide) rfl (show _ < 6 by omega) (by omega) dL_law_1148 (fun Q_1148 eQ_1148 hB_1148 => ?_)
        refine j_aload X dL_law_1149 8 rfl ?_
        refine j_iconst (v := nI 3) X dL_law_1151 (by decide) ?_
        refine j_iload X dL_law_1152 10 rfl ?_
        refine n_imul X dL_law_1154 ?_
        refine j_iconst (v := nI 2) X dL_law_1155 (by decide) ?_
        refine n_iadd X dL_law_1156 ?_
        refine j_iconst (v := nI 1) X dL_law_1157 (by decide) ?_
        refine j_iload X dL_law_1158 0 rfl ?_
        refine j_bipush (v := nI 8) X dL_law_1160 (by decide) ?_
        refine j_ishr X dL_law_1162 ?_
        refine j_bipush (v := nI 20) X dL_law_1163 (by decide) ?_
        refine jr_callR2 X hR (m_L_low _ _ (by omega) (by omega)) m_L_112 (by decide) (by decide) (Nat.le_of_ble_eq_true rfl) ⟨by omega, by omega⟩ dL_law_1165 (fun v_1165 e_1165 => ?_)
        refine n_iadd X dL_law_1168 ?_
        refine jl_ast X hB_1148 (k := 5) (by decide) (by decide) rfl (show _ < 6 by omega) (by omega) dL_law_1169 (fun Q_1169 eQ_1169 hB_1169 => ?_)
        refine j_aload_n X dL_law_1170 rfl 2 rfl ?_
        refine j_aload X dL_law_1171 8 rfl ?_
        refine j_iconst (v := nI 3) X dL_law_1173 (by decide) ?_
        refine j_iload X dL_law_1174 10 rfl ?_
        refine n_imul X dL_law_1176 ?_
        refine jl_ald X (LA.arw (k := 5) hB_1169 (by decide) (by decide)) (by show _ < 6; omega) dL_law_1177 (fun v_1177 e_1177 b_1177 => ?_)
        have e_1177 := e_1177.trans ((show Q_1169 5 (3 * k) = 1 + v_1125 by rw [eQ_1169, uM_ni (by omega), eQ_1148, uM_ni (by omega), eQ_1129, uM_eq]))
        subst e_1177
        refine j_aload X dL_law_1178 8 rfl ?_
        refine j_iconst (v := nI 3) X dL_law_1180 (by decide) ?_
        refine j_iload X dL_law_1181 10 rfl ?_
        refine n_imul X dL_law_1183 ?_
        refine j_iconst (v := nI 1) X dL_law_1184 (by decide) ?_
        refine n_iadd X dL_law_1185 ?_
        refine jl_ald X (LA.arw (k := 5) hB_1169 (by decide) (by decide)) (by show _ < 6; omega) dL_law_1186 (fun v_1186 e_1186 b_1186 => ?_)
        have e_1186 := e_1186.trans ((show Q_1169 5 (3 * k + 1) = 1 + v_1144 by rw [eQ_1169, uM_ni (by omega), eQ_1148, uM_eq]))
        subst e_1186
        refine j_aload X dL_law_1187 8 rfl ?_
        refine j_iconst (v := nI 3) X dL_law_1189 (by decide) ?_
        refine j_iload X dL_law_1190 10 rfl ?_
        refine n_imul X dL_law_1192 ?_
        refine j_iconst (v := nI 2) X dL_law_1193 (by decide) ?_
        refine n_iadd X dL_law_1194 ?_
        refine jl_ald X (LA.arw (k := 5) hB_1169 (by decide) (by decide)) (by show _ < 6; omega) dL_law_1195 (fun v_1195 e_1195 b_1195 => ?_)
        have e_1195 := e_1195.trans ((show Q_1169 5 (3 * k + 2) = 1 + v_1165 by rw [eQ_1169, uM_eq]))
        subst e_1195
        refine jl_cI3 (mc := 1) (ms := 4) X hR (m_X6_addSubstitute hRR (nI (1 + v_1125)) (nI (1 + v_1144)) (nI (1 + v_1165))) m_L_160 rfl (by decide) (by decide) (Nat.le_of_ble_eq_true rfl) ⟨by omega, by omega⟩ dL_law_1196 ?_
        rintro _ ⟨T_1196, e_1196⟩ ⟨rfl, hR0_1196⟩
        have hsb := sub_at (S := S1) (x := 1 + v_1125) (y := 1 + v_1144) (z := 1 + v_1165) (by omega) (by omega) (by omega) (by omega) (by omega) (by omega) (by omega)
        have hRR_1196 : RR (subNew S1 (1 + v_1125) (1 + v_1144) (1 + v_1165)) T_1196 e_1196 := by rw [← hsb.2]; exact hR0_1196
        rw [hsb.1, hU1.2.1]
        refine j_iload X dL_law_1199 10 rfl ?_
        refine n_icmp_eq (tgt := 1206) X dL_law_1201 (by decide) (by omega) (by omega) (fun c_1201 => ?_) (fun c_1201 => ?_)
        · refine n_iinc X [(15, _), (16, _), (0, _), (1, _), (2, _), (3, _), (4, _), (5, _), (6, _), (7, _), (14, _)] dL_law_1206 (q := 10) (b := 1) rfl (by decide) (by decide) rfl ?_
          refine j_goto (tgt := 1096) X dL_law_1209 (by decide) ?_
          refine j_widen (c2 := (31 + (k + 1))) (s2 := (390 + 4 * (k + 1))) (by omega) (by omega) ?_
          exact j_sub [2, 3, 4, 5, 6, 7, 8, 9, 10, 0] rfl (ih1096 (k + 1) (subNew S1 (1 + v_1125) (1 + v_1144) (1 + v_1165)) _ _ _ (by omega) (by exact hB_1169) (by exact hRR_1196) (by rw [eQ_1169, eQ_1148, eQ_1129]; exact hL1.sub _ _ _ _ _ _ _ _ _) (by rw [eQ_1169, eQ_1148, eQ_1129]; exact hU1.add (by omega) _ _ _) (by intro j hj; rw [sub_nk (by omega) (by omega) (by omega) (by omega)]; exact h16 j hj) (by intro x hx; rw [eQ_1169, uM_nk (by omega), eQ_1148, uM_nk (by omega), eQ_1129, uM_nk (by omega)]; exact h3 x hx) (by omega))
        · exact absurd rfl c_1201
  exact j_sub [2, 3, 4, 5, 6, 7, 8, 9, 1, 0] rfl (L1096 (v_1088 + 1) 0 S _ _ _ (by omega) (by exact hBQ) (by exact hRR) (by exact hL) (by exact hU0) (by exact fun j _ => hZ.1 j) (by exact hZ.2.2.2.2) (by omega))
end
