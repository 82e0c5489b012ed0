set_option maxRecDepth 100000 in
set_option maxHeartbeats 4000000 in
theorem m_X7_digest (S : MS) (hB : BD S) (hI : IV S) : MM zX7_digest 6 [] S (pLS S (digL S)) := by
  intro D Y h0 ad
  refine MT.of [(0, .ref h0)] (by decide) rfl (Nat.le_of_ble_eq_true rfl) ?_
  intro K hR X E
  refine j_ldc2 X k_X7_199 dX7_digest_0 ?_
  refine j_aload_n X dX7_digest_3 rfl 0 rfl ?_
  refine jm_get X 0 (by decide) rfl f_X7_127 dX7_digest_4 ?_
  refine n_name (fun v_4 e_4 => ?_)
  have b_4 : v_4 < 16777216 := by rw [e_4]; exact hB _ _
  refine j_i2l X dX7_digest_7 ?_
  refine j_ladd X dX7_digest_8 ?_
  refine j_lstore_n X [(1, _), (0, _)] dX7_digest_9 rfl (by decide) rfl ?_
  refine j_ldc2 X k_X7_201 dX7_digest_10 ?_
  refine j_lload_n X dX7_digest_13 rfl 0 rfl ?_
  refine j_lmul X dX7_digest_14 ?_
  refine j_aload_n X dX7_digest_15 rfl 1 rfl ?_
  refine jm_callI0 X hR (m_X7_childMany S hB hI) m_X7_81 rfl (by decide) (by decide) (Nat.le_of_ble_eq_true rfl) ⟨by decide, by decide⟩ dX7_digest_16 ?_
  rintro _ _ ⟨v_16, e_16, b_16, rfl, rfl⟩
  refine j_i2l X dX7_digest_19 ?_
  refine j_ladd X dX7_digest_20 ?_
  refine j_lstore_n X [(1, _), (0, _)] dX7_digest_21 rfl (by decide) rfl ?_
  refine j_iconst (v := nI 0) X dX7_digest_22 (by decide) ?_
  refine j_istore_n X [(3, _), (1, _), (0, _)] dX7_digest_23 rfl (by decide) rfl ?_
  have L24 : ∀ (n : Nat) (c : Nat) (g : Int64), (c ≤ 24) → (g = dgC S (dg1 S) c) → (24 + 1 ≤ c + n) → JJ K D 0 0 (WM h0 ad Y S) [(0, .ref h0), (1, .long g), (3, .int (nI c))] 24 [] := by
    intro n
    induction n with
    | zero =>
      intro c g hc hg hf24
      exact absurd hf24 (by omega)
    | succ n24 ih24 =>
      intro c g hc hg hf24
      refine j_iload_n X dX7_digest_24 rfl 2 rfl ?_
      refine j_bipush (v := nI 24) X dX7_digest_25 (by decide) ?_
      refine n_icmp_ge (tgt := 127) X dX7_digest_27 (by decide) (by omega) (by omega) (fun c_27 => ?_) (fun c_27 => ?_)
      · have hc24 : c = 24 := by omega
        subst hc24
        refine j_ldc2 X k_X7_201 dX7_digest_127 ?_
        refine j_lload_n X dX7_digest_130 rfl 1 rfl ?_
        refine j_lmul X dX7_digest_131 ?_
        refine j_aload_n X dX7_digest_132 rfl 0 rfl ?_
        refine jm_callI0 X hR (m_X7_educatorMany S hB hI) m_X7_145 rfl (by decide) (by decide) (Nat.le_of_ble_eq_true rfl) ⟨by decide, by decide⟩ dX7_digest_133 ?_
        rintro _ _ ⟨v_133, e_133, b_133, rfl, rfl⟩
        refine j_i2l X dX7_digest_136 ?_
        refine j_ladd X dX7_digest_137 ?_
        refine j_lstore_n X [(1, _), (0, _), (3, _)] dX7_digest_138 rfl (by decide) rfl ?_
        refine j_iconst (v := nI 0) X dX7_digest_139 (by decide) ?_
        refine j_istore_n X [(3, _), (1, _), (0, _)] dX7_digest_140 rfl (by decide) rfl ?_
        have L141 : ∀ (n : Nat) (d : Nat) (g : Int64), (d ≤ 5) → (g = dgH S (dg2 S) (10 * d)) → (5 + 1 ≤ d + n) → JJ K D 0 0 (WM h0 ad Y S) [(0, .ref h0), (1, .long g), (3, .int (nI d))] 141 [] := by
          intro n
          induction n with
          | zero =>
            intro d g hd hg hf141
            exact absurd hf141 (by omega)
          | succ n141 ih141 =>
            intro d g hd hg hf141
            refine j_iload_n X dX7_digest_141 rfl 2 rfl ?_
            refine j_iconst (v := nI 5) X dX7_digest_142 (by decide) ?_
            refine n_icmp_ge (tgt := 217) X dX7_digest_143 (by decide) (by omega) (by omega) (fun c_143 => ?_) (fun c_143 => ?_)
            · have hd5 : d = 5 := by omega
              subst hd5
              refine j_ldc2 X k_X7_201 dX7_digest_217 ?_
              refine j_lload_n X dX7_digest_220 rfl 1 rfl ?_
              refine j_lmul X dX7_digest_221 ?_
              refine j_aload_n X dX7_digest_222 rfl 0 rfl ?_
              refine jm_callI0 X hR (m_X7_unsafeMany S hB hI) m_X7_160 rfl (by decide) (by decide) (Nat.le_of_ble_eq_true rfl) ⟨by decide, by decide⟩ dX7_digest_223 ?_
              rintro _ _ ⟨v_223, e_223, b_223, rfl, rfl⟩
              refine j_i2l X dX7_digest_226 ?_
              refine j_ladd X dX7_digest_227 ?_
              refine j_lstore_n X [(1, _), (0, _), (3, _)] dX7_digest_228 rfl (by decide) rfl ?_
              refine j_ldc2 X k_X7_201 dX7_digest_229 ?_
              refine j_lload_n X dX7_digest_232 rfl 0 rfl ?_
              refine j_lmul X dX7_digest_233 ?_
              refine j_aload_n X dX7_digest_234 rfl 1 rfl ?_
              refine j_bipush (v := (-9)) X dX7_digest_235 (by decide) ?_
              refine jm_callI1 X hR (m_X7_feesOf S hB hI _) m_X7_168 rfl (by decide) (by decide) (Nat.le_of_ble_eq_true rfl) ⟨by decide, by decide⟩ dX7_digest_237 ?_
              rintro _ _ ⟨v_237, e_237, b_237, rfl, rfl⟩
              refine j_i2l X dX7_digest_240 ?_
              refine j_ladd X dX7_digest_241 ?_
              refine j_lstore_n X [(1, _), (0, _), (3, _)] dX7_digest_242 rfl (by decide) rfl ?_
              refine j_iconst (v := nI 0) X dX7_digest_243 (by decide) ?_
              refine j_istore_n X [(3, _), (1, _), (0, _)] dX7_digest_244 rfl (by decide) rfl ?_
              have L245 : ∀ (n : Nat) (d : Nat) (g : Int64), (d ≤ 5) → (g = dgF (fun d => S 16 d) (dg3 S) d) → (5 + 1 ≤ d + n) → JJ K D 0 0 (WM h0 ad Y S) [(0, .ref h0), (1, .long g), (3, .int (nI d))] 245 [] := by
                intro n
                induction n with
                | zero =>
                  intro d g hd hg hf245
                  exact absurd hf245 (by omega)
                | succ n245 ih245 =>
                  intro d g hd hg hf245
                  refine j_iload_n X dX7_digest_245 rfl 2 rfl ?_
                  refine j_iconst (v := nI 5) X dX7_digest_246 (by decide) ?_
                  refine n_icmp_ge (tgt := 270) X dX7_digest_247 (by decide) (by omega) (by omega) (fun c_247 => ?_) (fun c_247 => ?_)
                  · have hd5 : d = 5 := by omega
                    subst hd5
                    refine j_iconst (v := nI 0) X dX7_digest_270 (by decide) ?_
                    refine j_istore_n X [(3, _), (0, _), (1, _)] dX7_digest_271 rfl (by decide) rfl ?_
                    have L272 : ∀ (n : Nat) (d : Nat) (g : Int64), (d ≤ 5) → (g = dgF (fun d => shN S 0 d) (dgF (fun d => S 16 d) (dg3 S) 5) d) → (5 + 1 ≤ d + n) → JJ K D 0 0 (WM h0 ad Y S) [(0, .ref h0), (1, .long g), (3, .int (nI d))] 272 [] := by
                      intro n
                      induction n with
                      | zero =>
                        intro d g hd hg hf272
                        exact absurd hf272 (by omega)
                      | succ n272 ih272 =>
                        intro d g hd hg hf272
                        refine j_iload_n X dX7_digest_272 rfl 2 rfl ?_
                        refine j_iconst (v := nI 5) X dX7_digest_273 (by decide) ?_
                        refine n_icmp_ge (tgt := 297) X dX7_digest_274 (by decide) (by omega) (by omega) (fun c_274 => ?_) (fun c_274 => ?_)
                        · have hd5 : d = 5 := by omega
                          subst hd5
                          refine j_ldc2 X k_X7_201 dX7_digest_297 ?_
                          refine j_lload_n X dX7_digest_300 rfl 1 rfl ?_
                          refine j_lmul X dX7_digest_301 ?_
                          refine j_aload_n X dX7_digest_302 rfl 0 rfl ?_
                          refine jm_get X 21 (by decide) rfl f_X7_190 dX7_digest_303 ?_
                          refine n_name (fun v_303 e_303 => ?_)
                          have b_303 : v_303 < 16777216 := by rw [e_303]; exact hB _ _
                          refine j_i2l X dX7_digest_306 ?_
                          refine j_ladd X dX7_digest_307 ?_
                          exact j_lreturn X E (S) rfl ⟨_, rfl, by rw [hg, e_303]; rfl, rfl⟩ dX7_digest_308
                        · refine j_ldc2 X k_X7_201 dX7_digest_277 ?_
                          refine j_lload_n X dX7_digest_280 rfl 1 rfl ?_
                          refine j_lmul X dX7_digest_281 ?_
                          refine j_aload_n X dX7_digest_282 rfl 0 rfl ?_
                          refine j_iconst (v := nI 0) X dX7_digest_283 (by decide) ?_
                          refine j_iload_n X dX7_digest_284 rfl 2 rfl ?_
                          refine jm_callI2 X hR (m_X7_shortageOf S hB hI _ _ (by omega) (by omega)) m_X7_174 rfl (by decide) (by decide) (Nat.le_of_ble_eq_true rfl) ⟨by decide, by decide⟩ dX7_digest_285 ?_
                          rintro _ _ ⟨v_285, e_285, b_285, rfl, rfl⟩
                          refine j_i2l X dX7_digest_288 ?_
                          refine j_ladd X dX7_digest_289 ?_
                          refine j_lstore_n X [(1, _), (0, _), (3, _)] dX7_digest_290 rfl (by decide) rfl ?_
                          refine n_iinc X [(3, _), (1, _), (0, _)] dX7_digest_291 (q := 2) (b := 1) rfl (by decide) (by decide) rfl ?_
                          refine j_goto (tgt := 272) X dX7_digest_294 (by decide) ?_
                          exact j_sub [2, 1, 0] rfl (ih272 _ _ (by omega) (by rw [hg, e_285]; rfl) (by omega))
                    exact j_sub [1, 2, 0] rfl (L272 6 _ _ (by omega) (by rw [hg]; rfl) (by omega))
                  · refine j_ldc2 X k_X7_201 dX7_digest_250 ?_
                    refine j_lload_n X dX7_digest_253 rfl 1 rfl ?_
                    refine j_lmul X dX7_digest_254 ?_
                    refine j_aload_n X dX7_digest_255 rfl 0 rfl ?_
                    refine jm_get X 19 (by decide) rfl f_X7_62 dX7_digest_256 ?_
                    refine j_iload_n X dX7_digest_259 rfl 2 rfl ?_
                    refine jm_ald X hB (by decide) (by show _ < 5; omega) dX7_digest_260 (fun v_260 e_260 b_260 => ?_)
                    refine j_i2l X dX7_digest_261 ?_
                    refine j_ladd X dX7_digest_262 ?_
                    refine j_lstore_n X [(1, _), (0, _), (3, _)] dX7_digest_263 rfl (by decide) rfl ?_
                    refine n_iinc X [(3, _), (1, _), (0, _)] dX7_digest_264 (q := 2) (b := 1) rfl (by decide) (by decide) rfl ?_
                    refine j_goto (tgt := 245) X dX7_digest_267 (by decide) ?_
                    exact j_sub [2, 1, 0] rfl (ih245 _ _ (by omega) (by rw [hg, e_260]; rfl) (by omega))
              exact j_sub [2, 1, 0] rfl (L245 6 _ _ (by omega) (by rw [hg, e_223, e_237]; rfl) (by omega))
            · refine j_iconst (v := nI 0) X dX7_digest_146 (by decide) ?_
              refine j_istore X [(4, _), (0, _), (1, _), (3, _)] dX7_digest_147 (by decide) rfl ?_
              have L149 : ∀ (n : Nat) (h : Nat) (g : Int64), (h ≤ 10) → (g = dgH S (dg2 S) (10 * d + h)) → (10 + 1 ≤ h + n) → JJ K D 0 0 (WM h0 ad Y S) [(0, .ref h0), (1, .long g), (3, .int (nI d)), (4, .int (nI h))] 149 [] := by
                intro n
                induction n with
                | zero =>
                  intro h g hh hg2 hf149
                  exact absurd hf149 (by omega)
                | succ n149 ih149 =>
                  intro h g hh hg2 hf149
                  refine j_iload X dX7_digest_149 3 rfl ?_
                  refine j_bipush (v := nI 10) X dX7_digest_151 (by decide) ?_
                  refine n_icmp_ge (tgt := 211) X dX7_digest_153 (by decide) (by omega) (by omega) (fun c_153 => ?_) (fun c_153 => ?_)
                  · have hh10 : h = 10 := by omega
                    subst hh10
                    refine n_iinc X [(3, _), (0, _), (1, _), (4, _)] dX7_digest_211 (q := 2) (b := 1) rfl (by decide) (by decide) rfl ?_
                    refine j_goto (tgt := 141) X dX7_digest_214 (by decide) ?_
                    exact j_sub [1, 2, 0] rfl (ih141 _ _ (by omega) (by rw [hg2]; rfl) (by omega))
                  · refine j_ldc2 X k_X7_201 dX7_digest_156 ?_
                    refine j_lload_n X dX7_digest_159 rfl 1 rfl ?_
                    refine j_lmul X dX7_digest_160 ?_
                    refine j_aload_n X dX7_digest_161 rfl 0 rfl ?_
                    refine j_iload_n X dX7_digest_162 rfl 2 rfl ?_
                    refine j_iload X dX7_digest_163 3 rfl ?_
                    refine j_bipush (v := (-9)) X dX7_digest_165 (by decide) ?_
                    refine jm_callI3 X hR (m_X7_presentOf S hB _ _ _ (by omega) (by omega)) m_X7_102 rfl (by decide) (by decide) (Nat.le_of_ble_eq_true rfl) ⟨by decide, by decide⟩ dX7_digest_167 ?_
                    rintro _ _ ⟨v_167, e_167, b_167, rfl, rfl⟩
                    refine j_i2l X dX7_digest_170 ?_
                    refine j_ladd X dX7_digest_171 ?_
                    refine j_lstore_n X [(1, _), (0, _), (3, _), (4, _)] dX7_digest_172 rfl (by decide) rfl ?_
                    refine j_ldc2 X k_X7_201 dX7_digest_173 ?_
                    refine j_lload_n X dX7_digest_176 rfl 0 rfl ?_
                    refine j_lmul X dX7_digest_177 ?_
                    refine j_aload_n X dX7_digest_178 rfl 1 rfl ?_
                    refine j_iload_n X dX7_digest_179 rfl 2 rfl ?_
                    refine j_iload X dX7_digest_180 3 rfl ?_
                    refine j_bipush (v := (-9)) X dX7_digest_182 (by decide) ?_
                    refine jm_callI3 X hR (m_X7_needOf S hB hI _ _ _ (by omega) (by omega) isMore_9) m_X7_106 rfl (by decide) (by decide) (Nat.le_of_ble_eq_true rfl) ⟨by decide, by decide⟩ dX7_digest_184 ?_
                    rintro _ _ ⟨v_184, e_184, b_184, rfl, rfl⟩
                    refine j_i2l X dX7_digest_187 ?_
                    refine j_ladd X dX7_digest_188 ?_
                    refine j_lstore_n X [(1, _), (0, _), (3, _), (4, _)] dX7_digest_189 rfl (by decide) rfl ?_
                    refine j_ldc2 X k_X7_201 dX7_digest_190 ?_
                    refine j_lload_n X dX7_digest_193 rfl 0 rfl ?_
                    refine j_lmul X dX7_digest_194 ?_
                    refine j_aload_n X dX7_digest_195 rfl 1 rfl ?_
                    refine j_iload_n X dX7_digest_196 rfl 2 rfl ?_
                    refine j_iload X dX7_digest_197 3 rfl ?_
                    refine jm_callI2 X hR (m_X7_staffOf S hB _ _ (by omega) (by omega)) m_X7_109 rfl (by decide) (by decide) (Nat.le_of_ble_eq_true rfl) ⟨by decide, by decide⟩ dX7_digest_199 ?_
                    rintro _ _ ⟨v_199, e_199, b_199, rfl, rfl⟩
                    refine j_i2l X dX7_digest_202 ?_
                    refine j_ladd X dX7_digest_203 ?_
                    refine j_lstore_n X [(1, _), (0, _), (3, _), (4, _)] dX7_digest_204 rfl (by decide) rfl ?_
                    refine n_iinc X [(4, _), (1, _), (0, _), (3, _)] dX7_digest_205 (q := 3) (b := 1) rfl (by decide) (by decide) rfl ?_
                    refine j_goto (tgt := 149) X dX7_digest_208 (by decide) ?_
                    exact j_sub [2, 1, 3, 0] rfl (ih149 _ _ (by omega) (by rw [dgH_s S _ (by omega), ← hg2, e_167, e_184, e_199]; rfl) (by omega))
              exact j_sub [1, 2, 3, 0] rfl (L149 11 _ _ (by omega) (by exact hg) (by omega))
        exact j_sub [2, 1, 0] rfl (L141 6 _ _ (by omega) (by rw [hg, e_133]; rfl) (by omega))
      · refine j_aload_n X dX7_digest_30 rfl 0 rfl ?_
        refine jm_get X 1 (by decide) rfl f_X7_7 dX7_digest_31 ?_
        refine j_iload_n X dX7_digest_34 rfl 2 rfl ?_
        refine jm_ald X hB (by decide) (by show _ < 24; omega) dX7_digest_35 (fun v_35 e_35 b_35 => ?_)
        refine j_iconst (v := nI 1) X dX7_digest_36 (by decide) ?_
        refine n_icmp_ne (tgt := 121) X dX7_digest_37 (by decide) (by omega) (by omega) (fun c_37 => ?_) (fun c_37 => ?_)
        · refine n_iinc X [(3, _), (0, _), (1, _)] dX7_digest_121 (q := 2) (b := 1) rfl (by decide) (by decide) rfl ?_
          refine j_goto (tgt := 24) X dX7_digest_124 (by decide) ?_
          exact j_sub [1, 2, 0] rfl (ih24 _ _ (by omega) (by rw [dgC_s, if_neg (by omega)]; exact hg) (by omega))
        · refine j_ldc2 X k_X7_201 dX7_digest_40 ?_
          refine j_lload_n X dX7_digest_43 rfl 1 rfl ?_
          refine j_lmul X dX7_digest_44 ?_
          refine j_iload_n X dX7_digest_45 rfl 2 rfl ?_
          refine j_i2l X dX7_digest_46 ?_
          refine j_ladd X dX7_digest_47 ?_
          refine j_lstore_n X [(1, _), (0, _), (3, _)] dX7_digest_48 rfl (by decide) rfl ?_
          refine j_ldc2 X k_X7_201 dX7_digest_49 ?_
          refine j_lload_n X dX7_digest_52 rfl 0 rfl ?_
          refine j_lmul X dX7_digest_53 ?_
          refine j_aload_n X dX7_digest_54 rfl 1 rfl ?_
          refine jm_get X 2 (by decide) rfl f_X7_13 dX7_digest_55 ?_
          refine j_iload_n X dX7_digest_58 rfl 2 rfl ?_
          refine jm_ald X hB (by decide) (by show _ < 24; omega) dX7_digest_59 (fun v_59 e_59 b_59 => ?_)
          refine j_i2l X dX7_digest_60 ?_
          refine j_ladd X dX7_digest_61 ?_
          refine j_lstore_n X [(1, _), (0, _), (3, _)] dX7_digest_62 rfl (by decide) rfl ?_
          refine j_ldc2 X k_X7_201 dX7_digest_63 ?_
          refine j_lload_n X dX7_digest_66 rfl 0 rfl ?_
          refine j_lmul X dX7_digest_67 ?_
          refine j_aload_n X dX7_digest_68 rfl 1 rfl ?_
          refine jm_get X 4 (by decide) rfl f_X7_19 dX7_digest_69 ?_
          refine j_iload_n X dX7_digest_72 rfl 2 rfl ?_
          refine jm_ald X hB (by decide) (by show _ < 24; omega) dX7_digest_73 (fun v_73 e_73 b_73 => ?_)
          refine j_i2l X dX7_digest_74 ?_
          refine j_ladd X dX7_digest_75 ?_
          refine j_lstore_n X [(1, _), (0, _), (3, _)] dX7_digest_76 rfl (by decide) rfl ?_
          refine j_ldc2 X k_X7_201 dX7_digest_77 ?_
          refine j_lload_n X dX7_digest_80 rfl 0 rfl ?_
          refine j_lmul X dX7_digest_81 ?_
          refine j_aload_n X dX7_digest_82 rfl 1 rfl ?_
          refine j_iload_n X dX7_digest_83 rfl 2 rfl ?_
          refine jm_callI1 X hR (m_X7_hoursOf S hB hI _ (by omega)) m_X7_89 rfl (by decide) (by decide) (Nat.le_of_ble_eq_true rfl) ⟨by decide, by decide⟩ dX7_digest_84 ?_
          rintro _ _ ⟨v_84, e_84, b_84, rfl, rfl⟩
          refine j_i2l X dX7_digest_87 ?_
          refine j_ladd X dX7_digest_88 ?_
          refine j_lstore_n X [(1, _), (0, _), (3, _)] dX7_digest_89 rfl (by decide) rfl ?_
          refine j_ldc2 X k_X7_201 dX7_digest_90 ?_
          refine j_lload_n X dX7_digest_93 rfl 0 rfl ?_
          refine j_lmul X dX7_digest_94 ?_
          refine j_aload_n X dX7_digest_95 rfl 1 rfl ?_
          refine jm_get X 4 (by decide) rfl f_X7_19 dX7_digest_96 ?_
          refine j_iload_n X dX7_digest_99 rfl 2 rfl ?_
          refine jm_ald X hB (by decide) (by show _ < 24; omega) dX7_digest_100 (fun v_100 e_100 b_100 => ?_)
          refine j_iconst (v := nI 1) X dX7_digest_101 (by decide) ?_
          refine n_icmp_ne (tgt := 113) X dX7_digest_102 (by decide) (by omega) (by omega) (fun c_102 => ?_) (fun c_102 => ?_)
          · refine j_aload_n X dX7_digest_113 rfl 1 rfl ?_
            refine j_iload_n X dX7_digest_114 rfl 2 rfl ?_
            refine jm_callI1 X hR (m_X7_pointsOf S hB hI _ (by omega)) m_X7_130 rfl (by decide) (by decide) (Nat.le_of_ble_eq_true rfl) ⟨by decide, by decide⟩ dX7_digest_115 ?_
            rintro _ _ ⟨v_115, e_115, b_115, rfl, rfl⟩
            refine j_i2l X dX7_digest_118 ?_
            refine j_ladd X dX7_digest_119 ?_
            refine j_lstore_n X [(1, _), (0, _), (3, _)] dX7_digest_120 rfl (by decide) rfl ?_
            refine n_iinc X [(3, _), (1, _), (0, _)] dX7_digest_121 (q := 2) (b := 1) rfl (by decide) (by decide) rfl ?_
            refine j_goto (tgt := 24) X dX7_digest_124 (by decide) ?_
            exact j_sub [2, 1, 0] rfl (ih24 _ _ (by omega) (by rw [dgC_s, if_pos (by omega), if_neg (by omega), ← hg, e_115, e_59, e_73, e_84]; rfl) (by omega))
          · refine j_aload_n X dX7_digest_105 rfl 1 rfl ?_
            refine j_iload_n X dX7_digest_106 rfl 2 rfl ?_
            refine jm_callI1 X hR (m_X7_feeOf S hB hI _ (by omega)) m_X7_165 rfl (by decide) (by decide) (Nat.le_of_ble_eq_true rfl) ⟨by decide, by decide⟩ dX7_digest_107 ?_
            rintro _ _ ⟨v_107, e_107, b_107, rfl, rfl⟩
            refine j_goto (tgt := 118) X dX7_digest_110 (by decide) ?_
            refine j_i2l X dX7_digest_118 ?_
            refine j_ladd X dX7_digest_119 ?_
            refine j_lstore_n X [(1, _), (0, _), (3, _)] dX7_digest_120 rfl (by decide) rfl ?_
            refine n_iinc X [(3, _), (1, _), (0, _)] dX7_digest_121 (q := 2) (b := 1) rfl (by decide) (by decide) rfl ?_
            refine j_goto (tgt := 24) X dX7_digest_124 (by decide) ?_
            exact j_sub [2, 1, 0] rfl (ih24 _ _ (by omega) (by rw [dgC_s, if_pos (by omega), if_pos (by omega), ← hg, e_107, e_59, e_73, e_84]; rfl) (by omega))
  exact j_sub [2, 1, 0] rfl (L24 25 _ _ (by omega) (by rw [e_4, e_16]; rfl) (by omega))
