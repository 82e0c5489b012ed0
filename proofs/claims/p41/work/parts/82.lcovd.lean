section
variable {K : Ctx} {cc : ByteArray} {nL : Nat} {own : String} {D : va_G} {Y : Nat → ClassId} {cells slots : Nat} {ws : va_W} {lv : List (Nat × Value)} {pc : Nat} {st : List Value}
theorem j_nil (k : JJ K D cells slots [] lv pc st) : JJ K D cells slots ws lv pc st := fun H locs ls _ _ hS hl => k H locs ls (fun k q h => by simp at h) ⟨fun i j p q h => by simp at h, fun k q h => by simp at h⟩ hS hl
theorem jl_cov (X : CX K cc nL own D Y) {wl : va_W} {aq : Nat → Nat} {Q : MS} {k mc0 ms0 idx : Nat} {a0 a1 a2 a3 a4 a5 a6 a7 a8 : Value} {φ : Int32 → MS → Prop} (hR : RO K k mc0 ms0) (hM : ∀ D : va_G, MT zL_cover 3 2 10 D Y [a0, a1, a2, a3, a4, a5, a6, a7, a8] (wl ++ LA aq Y 8 Q) (fun u : MS => wl ++ LA aq Y 8 u) (pI φ)) (cw : CwS own idx 9 zL_cover) (hjk : 3 < k) (hst : (st.map fun v => v.category).sum ≤ 8) (hf : cells + 2 ≤ mc0 ∧ slots + 10 ≤ ms0) (hdg : decode cc pc = .ok (.invokestatic idx, 3)) (kk : ∀ (r : Int32) (u : MS), φ r u → JJ K D (cells + 2) (slots + 10) (wl ++ LA aq Y 8 u) lv (pc + 3) (.int r :: st)) : JJ K D cells slots (wl ++ LA aq Y 8 Q) lv pc (a8 :: a7 :: a6 :: a5 :: a4 :: a3 :: a2 :: a1 :: a0 :: st) := by
  refine jl_callS (mc := 2) (ms := 10) (As := [a0, a1, a2, a3, a4, a5, a6, a7, a8]) X hR (hM D) cw hjk (by decide) rfl hst hf hdg (fun v u hp => ?_)
  obtain ⟨r, rfl, h⟩ := hp
  exact kk r u h
end
section
variable {Y : Nat → ClassId} {ad aq : Nat → Nat} {Q S : MS} {nc me : Nat} {T : CT} {e : CE}
set_option maxRecDepth 100000 in
set_option maxHeartbeats 4000000 in
theorem m_L_covered (hBQ : BD Q) (hL : LR S nc me Q) {ma : Nat} (hU : LU S ma Q) (h3 : ∀ e, e < me → Q 4 (4 * e + 3) = 0) (h16 : ∀ j, j < 5 → S 16 j = 0) (hRR : RR S T e) : ∀ D : va_G, MT zL_covered 12 34 170 D Y [.ref (ad 16), .int (nI ma), .ref (aq 0), .ref (aq 1), .ref (aq 2), .ref (aq 3), .ref (aq 4), .ref (aq 5)] (WC ad Y (T, e) ++ LA aq Y 6 Q) (fun _ : Unit => []) (pI (fun r _ => bI true = r)) := by
  intro D
  refine MT.of [(0, .ref (ad 16)), (1, .int (nI ma)), (2, .ref (aq 0)), (3, .ref (aq 1)), (4, .ref (aq 2)), (5, .ref (aq 3)), (6, .ref (aq 4)), (7, .ref (aq 5))] (by decide) rfl (Nat.le_of_ble_eq_true rfl) ?_
  intro K hR0 X E
  have hR := RO.rm hR0
  have hma := hU.1
  have hm3 := hL.2.2.1
  refine j_iconst (v := nI 5) X dL_covered_0 (by decide) ?_
  refine jl_newI X hR rfl (by decide) (by decide) (by decide) dL_covered_1 (fun q_1 => ?_)
  refine j_astore X [(8, _), (0, _), (1, _), (2, _), (3, _), (4, _), (5, _), (6, _), (7, _)] dL_covered_3 (by decide) rfl ?_
  refine j_iconst (v := nI 5) X dL_covered_5 (by decide) ?_
  refine jl_newI X hR rfl (by decide) (by decide) (by decide) dL_covered_6 (fun q_6 => ?_)
  refine j_astore X [(9, _), (8, _), (0, _), (1, _), (2, _), (3, _), (4, _), (5, _), (6, _), (7, _)] dL_covered_8 (by decide) rfl ?_
  refine j_iconst (v := nI 0) X dL_covered_10 (by decide) ?_
  refine j_istore X [(10, _), (9, _), (8, _), (0, _), (1, _), (2, _), (3, _), (4, _), (5, _), (6, _), (7, _)] dL_covered_11 (by decide) rfl ?_
  refine j_widen (c2 := (2 + 2 * 0)) (s2 := (10 + 10 * 0)) (by omega) (by omega) ?_
  have L13 : ∀ (n : Nat) (k : Nat) (S1 : MS) (T1 : CT) (e1 : CE) (Q1 : MS), (k ≤ 4) → (BD Q1) → (RR S1 T1 e1) → (OFQ [16] S S1) → (OFQ [6, 7, 8, 9] Q Q1) → (∀ j, j < 5 → Q1 7 j = S1 16 j) → (4 + 1 ≤ k + n) → JJ K D (2 + 2 * k) (10 + 10 * k) (WC ad Y (T1, e1) ++ LA (va_up (va_up aq 6 q_1) 7 q_6) Y 8 Q1) [(0, .ref (ad 16)), (1, .int (nI ma)), (2, .ref (aq 0)), (3, .ref (aq 1)), (4, .ref (aq 2)), (5, .ref (aq 3)), (6, .ref (aq 4)), (7, .ref (aq 5)), (8, .ref q_1), (9, .ref q_6), (10, .int (nI k))] 13 [] := by
    intro n
    induction n with
    | zero =>
      intro k S1 T1 e1 Q1 hk hB1q hRR hS1 hQ1 h7 hf13
      exact absurd hf13 (by omega)
    | succ n13 ih13 =>
      intro k S1 T1 e1 Q1 hk hB1q hRR hS1 hQ1 h7 hf13
      have hB1 := hRR.hB
      have hI1 := hRR.hI
      have hL1 : LR S1 nc me Q1 := (hL.gh hS1).off (fun a j ha => hQ1 a j (by simp; omega))
      have hU1 : LU S1 ma Q1 := (hU.gh hS1).off (fun a j ha => hQ1 a j (by simp; omega))
      have h31 : ∀ e, e < me → Q1 4 (4 * e + 3) = 0 := fun e he => (hQ1 4 _ (by decide)).trans (h3 e he)
      refine j_iload X dL_covered_13 10 rfl ?_
      refine j_iconst (v := nI 4) X dL_covered_15 (by decide) ?_
      refine n_icmp_ge (tgt := 165) X dL_covered_16 (by decide) (by omega) (by omega) (fun c_16 => ?_) (fun c_16 => ?_)
      · have hk4 : k = 4 := by omega
        subst hk4
        refine j_iconst (v := nI 0) X dL_covered_165 (by decide) ?_
        refine j_istore X [(10, _), (0, _), (1, _), (2, _), (3, _), (4, _), (5, _), (6, _), (7, _), (8, _), (9, _)] dL_covered_166 (by decide) rfl ?_
        refine j_widen (c2 := (10 + 8 * 0)) (s2 := (50 + 40 * 0)) (by omega) (by omega) ?_
        have L168 : ∀ (n : Nat) (i : Nat) (T2 : CT) (e2 : CE) (Q2 : MS), (i ≤ me) → (BD Q2) → (RR S1 T2 e2) → (OFQ [6, 8, 9] Q1 Q2) → (me + 1 ≤ i + n) → JJ K D (10 + 8 * i) (50 + 40 * i) (WC ad Y (T2, e2) ++ LA (va_up (va_up aq 6 q_1) 7 q_6) Y 8 Q2) [(0, .ref (ad 16)), (1, .int (nI ma)), (2, .ref (aq 0)), (3, .ref (aq 1)), (4, .ref (aq 2)), (5, .ref (aq 3)), (6, .ref (aq 4)), (7, .ref (aq 5)), (8, .ref q_1), (9, .ref q_6), (10, .int (nI i))] 168 [] := by
          intro n
          induction n with
          | zero =>
            intro i T2 e2 Q2 hi hB2q hRR hQ2 hf168
            exact absurd hf168 (by omega)
          | succ n168 ih168 =>
            intro i T2 e2 Q2 hi hB2q hRR hQ2 hf168
            have hL2q : LR S1 nc me Q2 := hL1.off (fun a j ha => hQ2 a j (by simp; omega))
            refine j_iload X dL_covered_168 10 rfl ?_
            refine j_aload_n X dL_covered_170 rfl 2 rfl ?_
            refine j_bipush (v := nI 8) X dL_covered_171 (by decide) ?_
            refine jl_ald X (LA.arw (k := 0) hB2q (by decide) (by decide)) (by show _ < 16; omega) dL_covered_173 (fun v_173 e_173 b_173 => ?_)
            have e_173 := e_173.trans (hL2q.1.2.1.2.1)
            refine n_icmp_ge (tgt := 302) X dL_covered_174 (by decide) (by omega) (by omega) (fun c_174 => ?_) (fun c_174 => ?_)
            · refine j_iconst (v := bI true) X dL_covered_302 (by decide) ?_
              refine j_nil ?_
              refine j_widen (c2 := 34) (s2 := 170) (by omega) (by omega) ?_
              exact j_zreturn X E (()) rfl ⟨_, rfl, rfl⟩ dL_covered_303
            · refine j_bipush (v := (-9)) X dL_covered_177 (by decide) ?_
              refine j_istore X [(11, _), (0, _), (1, _), (2, _), (3, _), (4, _), (5, _), (6, _), (7, _), (8, _), (9, _), (10, _)] dL_covered_179 (by decide) rfl ?_
              refine j_iconst (v := (-1)) X dL_covered_181 (by decide) ?_
              refine j_istore X [(12, _), (11, _), (0, _), (1, _), (2, _), (3, _), (4, _), (5, _), (6, _), (7, _), (8, _), (9, _), (10, _)] dL_covered_182 (by decide) rfl ?_
              refine j_iconst (v := nI 0) X dL_covered_184 (by decide) ?_
              refine j_istore X [(13, _), (12, _), (11, _), (0, _), (1, _), (2, _), (3, _), (4, _), (5, _), (6, _), (7, _), (8, _), (9, _), (10, _)] dL_covered_185 (by decide) rfl ?_
              refine j_widen (c2 := (10 + 8 * i + 2 * 0)) (s2 := (50 + 40 * i + 10 * 0)) (by omega) (by omega) ?_
              have L187 : ∀ (n : Nat) (x : Nat) (p : Option Nat × Nat) (Q3 : MS), (x ≤ 4) → (BD Q3) → (OFQ [6, 8, 9] Q2 Q3) → (p = chp S1 i x) → (4 + 1 ≤ x + n) → JJ K D (10 + 8 * i + 2 * x) (50 + 40 * i + 10 * x) (WC ad Y (T2, e2) ++ LA (va_up (va_up aq 6 q_1) 7 q_6) Y 8 Q3) [(0, .ref (ad 16)), (1, .int (nI ma)), (2, .ref (aq 0)), (3, .ref (aq 1)), (4, .ref (aq 2)), (5, .ref (aq 3)), (6, .ref (aq 4)), (7, .ref (aq 5)), (8, .ref q_1), (9, .ref q_6), (10, .int (nI i)), (11, .int (oI p.1)), (12, .int (lsI p)), (13, .int (nI x))] 187 [] := by
                intro n
                induction n with
                | zero =>
                  intro x p Q3 hx hB3q hQ3 hp hf187
                  exact absurd hf187 (by omega)
                | succ n187 ih187 =>
                  intro x p Q3 hx hB3q hQ3 hp hf187
                  have hL3 : LR S1 nc me Q3 := hL1.off (fun a j ha => (hQ2.trans hQ3) a j (by simp; omega))
                  have hU3 : LU S1 ma Q3 := hU1.off (fun a j ha => (hQ2.trans hQ3) a j (by simp; omega))
                  have hcpk : CPK p := by rw [hp]; exact chp_ok _ _ _
                  refine j_iload X dL_covered_187 13 rfl ?_
                  refine j_iconst (v := nI 4) X dL_covered_189 (by decide) ?_
                  refine n_icmp_ge (tgt := 283) X dL_covered_190 (by decide) (by omega) (by omega) (fun c_190 => ?_) (fun c_190 => ?_)
                  · have hx4 : x = 4 := by omega
                    subst hx4
                    have hpx : p.1 = (chp S1 i 4).1 := by rw [hp]
                    refine j_aload_n X dL_covered_283 rfl 0 rfl ?_
                    refine j_iload X dL_covered_284 10 rfl ?_
                    refine jl_cI1 (mc := 0) (ms := 0) X hR (m_X6_cheapestHoliday hRR (nI i)) m_L_109 rfl (by decide) (by decide) (Nat.le_of_ble_eq_true rfl) ⟨by omega, by omega⟩ dL_covered_286 ?_
                    rintro _ ⟨T_286, e_286⟩ ⟨rfl, hR0_286⟩
                    have hRR_286 : RR S1 T_286 e_286 := hR0_286
                    rw [chp_at hL1 h31 (by omega), ← hpx]
                    refine j_iload X dL_covered_289 11 rfl ?_
                    refine j_icmp_eq (tgt := 296) X dL_covered_291 (by decide) (fun c_291 => ?_) (fun c_291 => ?_)
                    · refine n_iinc X [(10, _), (0, _), (1, _), (2, _), (3, _), (4, _), (5, _), (6, _), (7, _), (8, _), (9, _), (11, _), (12, _), (13, _)] dL_covered_296 (q := 10) (b := 1) rfl (by decide) (by decide) rfl ?_
                      refine j_goto (tgt := 168) X dL_covered_299 (by decide) ?_
                      refine j_widen (c2 := (10 + 8 * (i + 1))) (s2 := (50 + 40 * (i + 1))) (by omega) (by omega) ?_
                      exact j_sub [1, 2, 3, 4, 5, 6, 7, 8, 9, 10, 0] rfl (ih168 (i + 1) _ _ _ (by omega) (by exact hB3q) (by exact hRR_286) (by exact hQ2.trans hQ3) (by omega))
                    · exact absurd rfl c_291
                  · refine j_aload X dL_covered_193 6 rfl ?_
                    refine j_iconst (v := nI 4) X dL_covered_195 (by decide) ?_
                    refine j_iload X dL_covered_196 10 rfl ?_
                    refine n_imul X dL_covered_198 ?_
                    refine j_iload X dL_covered_199 13 rfl ?_
                    refine n_iadd X dL_covered_201 ?_
                    refine jl_ald X (LA.arw (k := 4) hB3q (by decide) (by decide)) (by show _ < 16; omega) dL_covered_202 (fun v_202 e_202 b_202 => ?_)
                    have e_202 := e_202.trans (hL3.2.2.hol (by omega) (by omega))
                    subst e_202
                    refine j_iconst (v := nI 1) X dL_covered_203 (by decide) ?_
                    refine n_icmp_ne (tgt := 210) X dL_covered_204 (by decide) (by omega) (by omega) (fun c_204 => ?_) (fun c_204 => ?_)
                    · have h01 := hI1.2.2.2.2.1 (52 * i + x) (by omega)
                      have h0 : S1 10 (52 * i + x) = 0 := by omega
                      refine j_aload X dL_covered_210 6 rfl ?_
                      refine j_iconst (v := nI 4) X dL_covered_212 (by decide) ?_
                      refine j_iload X dL_covered_213 10 rfl ?_
                      refine n_imul X dL_covered_215 ?_
                      refine j_iload X dL_covered_216 13 rfl ?_
                      refine n_iadd X dL_covered_218 ?_
                      refine j_iconst (v := nI 1) X dL_covered_219 (by decide) ?_
                      refine jl_ast X hB3q (k := 4) (by decide) (by decide) rfl (show _ < 16 by omega) (by omega) dL_covered_220 (fun Q_220 eQ_220 hB_220 => ?_)
                      have hL2 := hL3.hol1 (show i < me by omega) (show x < 4 by omega)
                      rw [← eQ_220] at hL2
                      have hU2 := hU3.hol (i := 52 * i + x) (k := 4 * i + x)
                      rw [← eQ_220] at hU2
                      have hB2 : BD (uM S1 10 (52 * i + x) 1) := BD_u hB1 (by omega)
                      have hI2 : IV (uM S1 10 (52 * i + x) 1) := IV_hol hI1 (by omega)
                      refine j_iload X dL_covered_221 13 rfl ?_
                      refine j_iload_n X dL_covered_223 rfl 1 rfl ?_
                      refine j_aload_n X dL_covered_224 rfl 2 rfl ?_
                      refine j_aload_n X dL_covered_225 rfl 3 rfl ?_
                      refine j_aload X dL_covered_226 4 rfl ?_
                      refine j_aload X dL_covered_228 5 rfl ?_
                      refine j_aload X dL_covered_230 6 rfl ?_
                      refine j_aload X dL_covered_232 7 rfl ?_
                      refine j_aload X dL_covered_234 8 rfl ?_
                      refine jl_cov X hR (m_L_cover (wl := WC ad Y (T2, e2)) (aq := (va_up (va_up aq 6 q_1) 7 q_6)) hB_220 hB2 hI2 hL2 hU2 x (by omega)) m_L_100 (by decide) (Nat.le_of_ble_eq_true rfl) ⟨by omega, by omega⟩ dL_covered_236 ?_
                      rintro _ Q_236 ⟨rfl, hB_236, hO_236, hS_236⟩
                      refine j_istore X [(14, _), (0, _), (1, _), (2, _), (3, _), (4, _), (5, _), (6, _), (7, _), (8, _), (9, _), (10, _), (11, _), (12, _), (13, _)] dL_covered_239 (by decide) rfl ?_
                      refine j_aload X dL_covered_241 7 rfl ?_
                      refine j_iconst (v := nI 4) X dL_covered_243 (by decide) ?_
                      refine j_iload X dL_covered_244 11 rfl ?_
                      refine n_imul X dL_covered_246 ?_
                      refine j_iload X dL_covered_247 14 rfl ?_
                      refine n_iadd X dL_covered_249 ?_
                      refine j_iconst (v := nI 0) X dL_covered_250 (by decide) ?_
                      refine jl_ast X hB_236 (k := 4) (by decide) (by decide) rfl (show _ < 16 by omega) (by omega) dL_covered_251 (fun Q_251 eQ_251 hB_251 => ?_)
                      have hQ30 : Q3 4 (4 * i + x) = 0 := (hL3.2.2.hol (show i < me by omega) (show x < 4 by omega)).trans h0
                      have hq6 : OFQ [6, 8, 9] Q3 Q_251 := holb_of eQ_220 hO_236 eQ_251 hQ30
                      have hch : chw S1 i x = cvN (uM S1 10 (52 * i + x) 1) x 5 0 := rfl
                      refine j_iload X dL_covered_252 0 rfl ?_
                      refine j_if_lt (tgt := 277) X dL_covered_254 (by decide) (fun c_254 => ?_) (fun c_254 => ?_)
                      · have hno := cvr_neg c_254
                        have hple := hcpk.le
                        refine n_iinc X [(13, _), (14, _), (0, _), (1, _), (2, _), (3, _), (4, _), (5, _), (6, _), (7, _), (8, _), (9, _), (10, _), (11, _), (12, _)] dL_covered_277 (q := 14) (b := 1) rfl (by decide) (by decide) rfl ?_
                        refine j_goto (tgt := 187) X dL_covered_280 (by decide) ?_
                        refine j_widen (c2 := (10 + 8 * i + 2 * (x + 1))) (s2 := (50 + 40 * i + 10 * (x + 1))) (by omega) (by omega) ?_
                        exact j_sub [2, 3, 4, 5, 6, 7, 8, 9, 10, 11, 12, 13, 14, 0] rfl (ih187 (x + 1) p _ (by omega) (by exact hB_251) (by exact hQ3.trans hq6) (by rw [chp_s, if_pos h0, ← hp, if_neg (by omega)]) (by omega))
                      · obtain ⟨hc, hcv⟩ := cvr_nn c_254
                        rw [hcv]
                        obtain ⟨cv, hce⟩ : ∃ c : Nat, c = cvN (uM S1 10 (52 * i + x) 1) x 5 0 := ⟨_, rfl⟩
                        rw [← hce]
                        rw [← hce] at hc
                        have hch2 : chw S1 i x = cv := hch.trans hce.symm
                        refine j_iload X dL_covered_257 13 rfl ?_
                        refine j_if_lt (tgt := 269) X dL_covered_259 (by decide) (fun c_259 => ?_) (fun c_259 => ?_)
                        · have hp2 := ls_neg hcpk c_259
                          refine j_iload X dL_covered_269 0 rfl ?_
                          refine j_istore X [(12, _), (14, _), (0, _), (1, _), (2, _), (3, _), (4, _), (5, _), (6, _), (7, _), (8, _), (9, _), (10, _), (11, _), (13, _)] dL_covered_271 (by decide) rfl ?_
                          refine j_iload X dL_covered_273 14 rfl ?_
                          refine j_istore X [(11, _), (12, _), (14, _), (0, _), (1, _), (2, _), (3, _), (4, _), (5, _), (6, _), (7, _), (8, _), (9, _), (10, _), (13, _)] dL_covered_275 (by decide) rfl ?_
                          refine n_iinc X [(13, _), (11, _), (12, _), (14, _), (0, _), (1, _), (2, _), (3, _), (4, _), (5, _), (6, _), (7, _), (8, _), (9, _), (10, _)] dL_covered_277 (q := 14) (b := 1) rfl (by decide) (by decide) rfl ?_
                          refine j_goto (tgt := 187) X dL_covered_280 (by decide) ?_
                          refine j_widen (c2 := (10 + 8 * i + 2 * (x + 1))) (s2 := (50 + 40 * i + 10 * (x + 1))) (by omega) (by omega) ?_
                          exact j_sub [4, 5, 6, 7, 8, 9, 10, 11, 12, 13, 14, 1, 2, 0] rfl (ih187 (x + 1) (some x, cv) _ (by omega) (by exact hB_251) (by exact hQ3.trans hq6) (by rw [chp_s, if_pos h0, ← hp, if_pos (by omega), hch2]) (by omega))
                        · have hls := ls_nn c_259
                          have hple := hcpk.le
                          rw [hls]
                          refine j_iload X dL_covered_262 0 rfl ?_
                          refine j_iload X dL_covered_264 13 rfl ?_
                          refine n_icmp_ge (tgt := 277) X dL_covered_266 (by decide) (by omega) (by omega) (fun c_266 => ?_) (fun c_266 => ?_)
                          · rw [← hls]
                            refine n_iinc X [(13, _), (14, _), (0, _), (1, _), (2, _), (3, _), (4, _), (5, _), (6, _), (7, _), (8, _), (9, _), (10, _), (11, _), (12, _)] dL_covered_277 (q := 14) (b := 1) rfl (by decide) (by decide) rfl ?_
                            refine j_goto (tgt := 187) X dL_covered_280 (by decide) ?_
                            refine j_widen (c2 := (10 + 8 * i + 2 * (x + 1))) (s2 := (50 + 40 * i + 10 * (x + 1))) (by omega) (by omega) ?_
                            exact j_sub [2, 3, 4, 5, 6, 7, 8, 9, 10, 11, 12, 13, 14, 0] rfl (ih187 (x + 1) p _ (by omega) (by exact hB_251) (by exact hQ3.trans hq6) (by rw [chp_s, if_pos h0, ← hp, if_neg (by omega)]) (by omega))
                          · skip
                            refine j_iload X dL_covered_269 0 rfl ?_
                            refine j_istore X [(12, _), (14, _), (0, _), (1, _), (2, _), (3, _), (4, _), (5, _), (6, _), (7, _), (8, _), (9, _), (10, _), (11, _), (13, _)] dL_covered_271 (by decide) rfl ?_
                            refine j_iload X dL_covered_273 14 rfl ?_
                            refine j_istore X [(11, _), (12, _), (14, _), (0, _), (1, _), (2, _), (3, _), (4, _), (5, _), (6, _), (7, _), (8, _), (9, _), (10, _), (13, _)] dL_covered_275 (by decide) rfl ?_
                            refine n_iinc X [(13, _), (11, _), (12, _), (14, _), (0, _), (1, _), (2, _), (3, _), (4, _), (5, _), (6, _), (7, _), (8, _), (9, _), (10, _)] dL_covered_277 (q := 14) (b := 1) rfl (by decide) (by decide) rfl ?_
                            refine j_goto (tgt := 187) X dL_covered_280 (by decide) ?_
                            refine j_widen (c2 := (10 + 8 * i + 2 * (x + 1))) (s2 := (50 + 40 * i + 10 * (x + 1))) (by omega) (by omega) ?_
                            exact j_sub [4, 5, 6, 7, 8, 9, 10, 11, 12, 13, 14, 1, 2, 0] rfl (ih187 (x + 1) (some x, cv) _ (by omega) (by exact hB_251) (by exact hQ3.trans hq6) (by rw [chp_s, if_pos h0, ← hp, if_pos (by omega), hch2]) (by omega))
                    · skip
                      refine j_goto (tgt := 277) X dL_covered_207 (by decide) ?_
                      refine n_iinc X [(13, _), (0, _), (1, _), (2, _), (3, _), (4, _), (5, _), (6, _), (7, _), (8, _), (9, _), (10, _), (11, _), (12, _)] dL_covered_277 (q := 13) (b := 1) rfl (by decide) (by decide) rfl ?_
                      refine j_goto (tgt := 187) X dL_covered_280 (by decide) ?_
                      refine j_widen (c2 := (10 + 8 * i + 2 * (x + 1))) (s2 := (50 + 40 * i + 10 * (x + 1))) (by omega) (by omega) ?_
                      exact j_sub [1, 2, 3, 4, 5, 6, 7, 8, 9, 10, 11, 12, 13, 0] rfl (ih187 (x + 1) p _ (by omega) (by exact hB3q) (by exact hQ3) (by rw [chp_s, if_neg (by omega), ← hp]) (by omega))
              exact j_sub [3, 4, 5, 6, 7, 8, 9, 10, 11, 12, 13, 2, 1, 0] rfl (L187 5 0 (none, 1000000) _ (by omega) (by exact hB2q) (by exact OFQ.refl _ _) (by rfl) (by omega))
        exact j_sub [1, 2, 3, 4, 5, 6, 7, 8, 9, 10, 0] rfl (L168 (me + 1) 0 _ _ _ (by omega) (by exact hB1q) (by exact hRR) (by exact OFQ.refl _ _) (by omega))
      · refine j_iconst (v := nI 0) X dL_covered_19 (by decide) ?_
        refine j_istore X [(11, _), (0, _), (1, _), (2, _), (3, _), (4, _), (5, _), (6, _), (7, _), (8, _), (9, _), (10, _)] dL_covered_20 (by decide) rfl ?_
        have L22 : ∀ (n : Nat) (d : Nat) (T1 : CT), (d ≤ 5) → (RR S1 T1 e1) → (5 + 1 ≤ d + n) → JJ K D (2 + 2 * k) (10 + 10 * k) (WC ad Y (T1, e1) ++ LA (va_up (va_up aq 6 q_1) 7 q_6) Y 8 Q1) [(0, .ref (ad 16)), (1, .int (nI ma)), (2, .ref (aq 0)), (3, .ref (aq 1)), (4, .ref (aq 2)), (5, .ref (aq 3)), (6, .ref (aq 4)), (7, .ref (aq 5)), (8, .ref q_1), (9, .ref q_6), (10, .int (nI k)), (11, .int (nI d))] 22 [] := by
          intro n
          induction n with
          | zero =>
            intro d T1 hd hRR hf22
            exact absurd hf22 (by omega)
          | succ n22 ih22 =>
            intro d T1 hd hRR hf22
            refine j_iload X dL_covered_22 11 rfl ?_
            refine j_iconst (v := nI 5) X dL_covered_24 (by decide) ?_
            refine n_icmp_ge (tgt := 62) X dL_covered_25 (by decide) (by omega) (by omega) (fun c_25 => ?_) (fun c_25 => ?_)
            · skip
              refine j_iload X dL_covered_62 10 rfl ?_
              refine j_iload_n X dL_covered_64 rfl 1 rfl ?_
              refine j_aload_n X dL_covered_65 rfl 2 rfl ?_
              refine j_aload_n X dL_covered_66 rfl 3 rfl ?_
              refine j_aload X dL_covered_67 4 rfl ?_
              refine j_aload X dL_covered_69 5 rfl ?_
              refine j_aload X dL_covered_71 6 rfl ?_
              refine j_aload X dL_covered_73 7 rfl ?_
              refine j_aload X dL_covered_75 8 rfl ?_
              refine jl_cov X hR (m_L_cover (wl := WC ad Y (T1, e1)) (aq := (va_up (va_up aq 6 q_1) 7 q_6)) hB1q hB1 hI1 hL1 hU1 k (by omega)) m_L_100 (by decide) (Nat.le_of_ble_eq_true rfl) ⟨by omega, by omega⟩ dL_covered_77 ?_
              rintro _ Q_77 ⟨rfl, hB_77, hO_77, hS_77⟩
              refine j_istore X [(11, _), (0, _), (1, _), (2, _), (3, _), (4, _), (5, _), (6, _), (7, _), (8, _), (9, _), (10, _)] dL_covered_80 (by decide) rfl ?_
              refine j_aload_n X dL_covered_82 rfl 1 rfl ?_
              refine j_iload X dL_covered_83 11 rfl ?_
              refine jl_cI1 (mc := 0) (ms := 0) X hR (m_X6_cover hRR (nI k)) m_L_104 rfl (by decide) (by decide) (Nat.le_of_ble_eq_true rfl) ⟨by omega, by omega⟩ dL_covered_85 ?_
              rintro _ ⟨T_85, e_85⟩ ⟨rfl, hR0_85⟩
              have hRR_85 : RR (covS S1 (nI k)) T_85 e_85 := hR0_85
              refine j_iload X dL_covered_88 0 rfl ?_
              refine j_if_ge (tgt := 98) X dL_covered_90 (by decide) (fun c_90 => ?_) (fun c_90 => ?_)
              · have d_90 : ¬ cvR S1 k < 0 := Int32.not_lt.mpr c_90
                obtain ⟨hcv, hcs⟩ := cov_pos (show k < 52 by omega) d_90
                have hbest := hS_77 (cvr_nn d_90).1
                have h16c : ∀ j, j < 5 → (covS S1 (nI k)) 16 j = Q_77 6 j := fun j hj => by rw [hcs, kps_16 hj, hbest j hj]
                refine j_iload X dL_covered_98 0 rfl ?_
                refine j_icmp_eq (tgt := 105) X dL_covered_100 (by decide) (fun c_100 => ?_) (fun c_100 => ?_)
                · refine j_iconst (v := nI 0) X dL_covered_105 (by decide) ?_
                  refine j_istore X [(12, _), (11, _), (0, _), (1, _), (2, _), (3, _), (4, _), (5, _), (6, _), (7, _), (8, _), (9, _), (10, _)] dL_covered_106 (by decide) rfl ?_
                  have L108 : ∀ (n : Nat) (d : Nat) (Q3 : MS), (d ≤ 5) → (BD Q3) → (OFQ [7] Q_77 Q3) → (∀ j, j < d → Q3 7 j = (covS S1 (nI k)) 16 j) → (∀ j, d ≤ j → Q3 7 j = Q_77 7 j) → (5 + 1 ≤ d + n) → JJ K D ((2 + 2 * k) + 2) ((10 + 10 * k) + 10) (WC ad Y (T_85, e_85) ++ LA (va_up (va_up aq 6 q_1) 7 q_6) Y 8 Q3) [(0, .ref (ad 16)), (1, .int (nI ma)), (2, .ref (aq 0)), (3, .ref (aq 1)), (4, .ref (aq 2)), (5, .ref (aq 3)), (6, .ref (aq 4)), (7, .ref (aq 5)), (8, .ref q_1), (9, .ref q_6), (10, .int (nI k)), (11, .int (cvR S1 k)), (12, .int (nI d))] 108 [] := by
                    intro n
                    induction n with
                    | zero =>
                      intro d Q3 hd hB3 hq3 hq3a hq3b hf108
                      exact absurd hf108 (by omega)
                    | succ n108 ih108 =>
                      intro d Q3 hd hB3 hq3 hq3a hq3b hf108
                      refine j_iload X dL_covered_108 12 rfl ?_
                      refine j_iconst (v := nI 5) X dL_covered_110 (by decide) ?_
                      refine n_icmp_ge (tgt := 159) X dL_covered_111 (by decide) (by omega) (by omega) (fun c_111 => ?_) (fun c_111 => ?_)
                      · have hd5 : d = 5 := by omega
                        subst hd5
                        refine n_iinc X [(10, _), (0, _), (1, _), (2, _), (3, _), (4, _), (5, _), (6, _), (7, _), (8, _), (9, _), (11, _), (12, _)] dL_covered_159 (q := 10) (b := 1) rfl (by decide) (by decide) rfl ?_
                        refine j_goto (tgt := 13) X dL_covered_162 (by decide) ?_
                        refine j_widen (c2 := (2 + 2 * (k + 1))) (s2 := (10 + 10 * (k + 1))) (by omega) (by omega) ?_
                        exact j_sub [1, 2, 3, 4, 5, 6, 7, 8, 9, 10, 0] rfl (ih13 (k + 1) _ _ _ _ (by omega) (by exact hB3) (by exact hRR_85) (by exact hS1.trans (hcs ▸ kps_of)) (by exact hQ1.trans ((hO_77.mono (by decide)).trans (hq3.mono (by decide)))) (by exact hq3a) (by omega))
                      · refine j_aload X dL_covered_114 9 rfl ?_
                        refine j_iload X dL_covered_116 12 rfl ?_
                        refine j_iload X dL_covered_118 11 rfl ?_
                        refine j_if_ge (tgt := 131) X dL_covered_120 (by decide) (fun c_120 => ?_) (fun c_120 => ?_)
                        · refine j_aload X dL_covered_131 8 rfl ?_
                          refine j_iload X dL_covered_133 12 rfl ?_
                          refine jl_ald X (LA.arw (k := 6) hB3 (by decide) (by decide)) (by show _ < 5; omega) dL_covered_135 (fun v_135 e_135 b_135 => ?_)
                          have e_135 := e_135.trans ((hq3 6 d (by decide)))
                          subst e_135
                          refine jl_ast X hB3 (k := 7) (by decide) (by decide) rfl (show _ < 5 by omega) (by omega) dL_covered_136 (fun Q_136 eQ_136 hB_136 => ?_)
                          refine j_aload_n X dL_covered_137 rfl 0 rfl ?_
                          refine j_iload X dL_covered_138 12 rfl ?_
                          refine jl_cI1 (mc := 0) (ms := 0) X hR (m_X6_coverOfN hRR_85 d (by omega)) m_L_106 rfl (by decide) (by decide) (Nat.le_of_ble_eq_true rfl) ⟨by omega, by omega⟩ dL_covered_140 ?_
                          rintro _ _ ⟨n_140, hn_140, bn_140, rfl, rfl⟩
                          refine j_aload X dL_covered_143 9 rfl ?_
                          refine j_iload X dL_covered_145 12 rfl ?_
                          refine jl_ald X (LA.arw (k := 7) hB_136 (by decide) (by decide)) (by show _ < 5; omega) dL_covered_147 (fun v_147 e_147 b_147 => ?_)
                          have e_147 := e_147.trans ((show Q_136 7 d = _ by rw [eQ_136, uM_eq]))
                          subst e_147
                          refine n_icmp_eq (tgt := 153) X dL_covered_148 (by decide) (by omega) (by omega) (fun c_148 => ?_) (fun c_148 => ?_)
                          · refine n_iinc X [(12, _), (0, _), (1, _), (2, _), (3, _), (4, _), (5, _), (6, _), (7, _), (8, _), (9, _), (10, _), (11, _)] dL_covered_153 (q := 12) (b := 1) rfl (by decide) (by decide) rfl ?_
                            refine j_goto (tgt := 108) X dL_covered_156 (by decide) ?_
                            exact j_sub [1, 2, 3, 4, 5, 6, 7, 8, 9, 10, 11, 12, 0] rfl (ih108 _ _ (by omega) (by exact hB_136) (by exact OFQ.u eQ_136 hq3 (by decide)) (by exact fill_s eQ_136 hq3a (h16c d (by omega)).symm) (by intro j hj; rw [eQ_136, uM_ni (show j ≠ d by omega)]; exact hq3b j (by omega)) (by omega))
                          · exact absurd (hn_140.trans (h16c d (by omega))) c_148
                        · exact absurd c_90 c_120
                  exact j_sub [2, 3, 4, 5, 6, 7, 8, 9, 10, 11, 12, 1, 0] rfl (L108 6 _ _ (by omega) (by exact hB_77) (by exact OFQ.refl _ _) (by intro j hj; exact absurd hj (by omega)) (by intro j hj; rfl) (by omega))
                · exact absurd hcv c_100
              · have d_90 : cvR S1 k < 0 := Int32.not_le.mp c_90
                obtain ⟨hcv, hcs⟩ := cov_neg (show k < 52 by omega) d_90
                have h16c : ∀ j, j < 5 → (covS S1 (nI k)) 16 j = Q_77 7 j := fun j hj => by rw [hcs, ← h7 j hj]; exact (hO_77 7 j (by decide)).symm
                refine j_bipush (v := (-2)) X dL_covered_93 (by decide) ?_
                refine j_goto (tgt := 100) X dL_covered_95 (by decide) ?_
                refine j_icmp_eq (tgt := 105) X dL_covered_100 (by decide) (fun c_100 => ?_) (fun c_100 => ?_)
                · refine j_iconst (v := nI 0) X dL_covered_105 (by decide) ?_
                  refine j_istore X [(12, _), (11, _), (0, _), (1, _), (2, _), (3, _), (4, _), (5, _), (6, _), (7, _), (8, _), (9, _), (10, _)] dL_covered_106 (by decide) rfl ?_
                  have L108 : ∀ (n : Nat) (d : Nat) (Q3 : MS), (d ≤ 5) → (BD Q3) → (OFQ [7] Q_77 Q3) → (∀ j, j < d → Q3 7 j = (covS S1 (nI k)) 16 j) → (∀ j, d ≤ j → Q3 7 j = Q_77 7 j) → (5 + 1 ≤ d + n) → JJ K D ((2 + 2 * k) + 2) ((10 + 10 * k) + 10) (WC ad Y (T_85, e_85) ++ LA (va_up (va_up aq 6 q_1) 7 q_6) Y 8 Q3) [(0, .ref (ad 16)), (1, .int (nI ma)), (2, .ref (aq 0)), (3, .ref (aq 1)), (4, .ref (aq 2)), (5, .ref (aq 3)), (6, .ref (aq 4)), (7, .ref (aq 5)), (8, .ref q_1), (9, .ref q_6), (10, .int (nI k)), (11, .int (cvR S1 k)), (12, .int (nI d))] 108 [] := by
                    intro n
                    induction n with
                    | zero =>
                      intro d Q3 hd hB3 hq3 hq3a hq3b hf108
                      exact absurd hf108 (by omega)
                    | succ n108 ih108 =>
                      intro d Q3 hd hB3 hq3 hq3a hq3b hf108
                      refine j_iload X dL_covered_108 12 rfl ?_
                      refine j_iconst (v := nI 5) X dL_covered_110 (by decide) ?_
                      refine n_icmp_ge (tgt := 159) X dL_covered_111 (by decide) (by omega) (by omega) (fun c_111 => ?_) (fun c_111 => ?_)
                      · have hd5 : d = 5 := by omega
                        subst hd5
                        refine n_iinc X [(10, _), (0, _), (1, _), (2, _), (3, _), (4, _), (5, _), (6, _), (7, _), (8, _), (9, _), (11, _), (12, _)] dL_covered_159 (q := 10) (b := 1) rfl (by decide) (by decide) rfl ?_
                        refine j_goto (tgt := 13) X dL_covered_162 (by decide) ?_
                        refine j_widen (c2 := (2 + 2 * (k + 1))) (s2 := (10 + 10 * (k + 1))) (by omega) (by omega) ?_
                        exact j_sub [1, 2, 3, 4, 5, 6, 7, 8, 9, 10, 0] rfl (ih13 (k + 1) _ _ _ _ (by omega) (by exact hB3) (by exact hRR_85) (by rw [hcs]; exact hS1) (by exact hQ1.trans ((hO_77.mono (by decide)).trans (hq3.mono (by decide)))) (by exact hq3a) (by omega))
                      · refine j_aload X dL_covered_114 9 rfl ?_
                        refine j_iload X dL_covered_116 12 rfl ?_
                        refine j_iload X dL_covered_118 11 rfl ?_
                        refine j_if_ge (tgt := 131) X dL_covered_120 (by decide) (fun c_120 => ?_) (fun c_120 => ?_)
                        · exact absurd c_120 c_90
                        · refine j_aload X dL_covered_123 9 rfl ?_
                          refine j_iload X dL_covered_125 12 rfl ?_
                          refine jl_ald X (LA.arw (k := 7) hB3 (by decide) (by decide)) (by show _ < 5; omega) dL_covered_127 (fun v_127 e_127 b_127 => ?_)
                          have e_127 := e_127.trans ((hq3b d (by omega)))
                          subst e_127
                          refine j_goto (tgt := 136) X dL_covered_128 (by decide) ?_
                          refine jl_ast X hB3 (k := 7) (by decide) (by decide) rfl (show _ < 5 by omega) (by omega) dL_covered_136 (fun Q_136 eQ_136 hB_136 => ?_)
                          refine j_aload_n X dL_covered_137 rfl 0 rfl ?_
                          refine j_iload X dL_covered_138 12 rfl ?_
                          refine jl_cI1 (mc := 0) (ms := 0) X hR (m_X6_coverOfN hRR_85 d (by omega)) m_L_106 rfl (by decide) (by decide) (Nat.le_of_ble_eq_true rfl) ⟨by omega, by omega⟩ dL_covered_140 ?_
                          rintro _ _ ⟨n_140, hn_140, bn_140, rfl, rfl⟩
                          refine j_aload X dL_covered_143 9 rfl ?_
                          refine j_iload X dL_covered_145 12 rfl ?_
                          refine jl_ald X (LA.arw (k := 7) hB_136 (by decide) (by decide)) (by show _ < 5; omega) dL_covered_147 (fun v_147 e_147 b_147 => ?_)
                          have e_147 := e_147.trans ((show Q_136 7 d = _ by rw [eQ_136, uM_eq]))
                          subst e_147
                          refine n_icmp_eq (tgt := 153) X dL_covered_148 (by decide) (by omega) (by omega) (fun c_148 => ?_) (fun c_148 => ?_)
                          · refine n_iinc X [(12, _), (0, _), (1, _), (2, _), (3, _), (4, _), (5, _), (6, _), (7, _), (8, _), (9, _), (10, _), (11, _)] dL_covered_153 (q := 12) (b := 1) rfl (by decide) (by decide) rfl ?_
                            refine j_goto (tgt := 108) X dL_covered_156 (by decide) ?_
                            exact j_sub [1, 2, 3, 4, 5, 6, 7, 8, 9, 10, 11, 12, 0] rfl (ih108 _ _ (by omega) (by exact hB_136) (by exact OFQ.u eQ_136 hq3 (by decide)) (by exact fill_s eQ_136 hq3a (h16c d (by omega)).symm) (by intro j hj; rw [eQ_136, uM_ni (show j ≠ d by omega)]; exact hq3b j (by omega)) (by omega))
                          · exact absurd (hn_140.trans (h16c d (by omega))) c_148
                  exact j_sub [2, 3, 4, 5, 6, 7, 8, 9, 10, 11, 12, 1, 0] rfl (L108 6 _ _ (by omega) (by exact hB_77) (by exact OFQ.refl _ _) (by intro j hj; exact absurd hj (by omega)) (by intro j hj; rfl) (by omega))
                · exact absurd hcv c_100
            · refine j_aload_n X dL_covered_28 rfl 0 rfl ?_
              refine j_iload X dL_covered_29 10 rfl ?_
              refine j_iload X dL_covered_31 11 rfl ?_
              refine jl_cI2 (mc := 0) (ms := 0) X hR (m_X6_shortage hRR (nI k) (nI d)) m_L_98 rfl (by decide) (by decide) (Nat.le_of_ble_eq_true rfl) ⟨by omega, by omega⟩ dL_covered_33 ?_
              rintro _ _ ⟨T_33, rfl, rfl, hsm_33⟩
              have hRR_33 := hRR.sm hsm_33 (by decide)
              rw [shrt_at (by omega) (by omega)]
              refine j_iload X dL_covered_36 10 rfl ?_
              refine j_iload X dL_covered_38 11 rfl ?_
              refine j_aload_n X dL_covered_40 rfl 2 rfl ?_
              refine j_aload_n X dL_covered_41 rfl 3 rfl ?_
              refine j_aload X dL_covered_42 4 rfl ?_
              refine j_aload X dL_covered_44 5 rfl ?_
              refine j_aload X dL_covered_46 6 rfl ?_
              refine jr_callN7 X hR (m_L_shortage (LV.la hB1q (by decide) (by decide)) hB1 hI1 hL1 k d (by omega) (by omega)) m_L_94 (by decide) (by decide) (Nat.le_of_ble_eq_true rfl) ⟨by omega, by omega⟩ dL_covered_48 (fun v_48 e_48 b_48 => ?_)
              refine n_icmp_eq (tgt := 56) X dL_covered_51 (by decide) (by omega) (by omega) (fun c_51 => ?_) (fun c_51 => ?_)
              · refine n_iinc X [(11, _), (0, _), (1, _), (2, _), (3, _), (4, _), (5, _), (6, _), (7, _), (8, _), (9, _), (10, _)] dL_covered_56 (q := 11) (b := 1) rfl (by decide) (by decide) rfl ?_
                refine j_goto (tgt := 22) X dL_covered_59 (by decide) ?_
                exact j_sub [1, 2, 3, 4, 5, 6, 7, 8, 9, 10, 11, 0] rfl (ih22 _ _ (by omega) (by exact hRR_33) (by omega))
              · exact absurd e_48.symm c_51
        exact j_sub [1, 2, 3, 4, 5, 6, 7, 8, 9, 10, 11, 0] rfl (L22 6 _ _ (by omega) (by exact hRR) (by omega))
  exact j_sub [3, 4, 5, 6, 7, 8, 9, 10, 2, 1, 0] rfl (L13 5 0 _ _ _ _ (by omega) (by exact (BD_z (k := 7) (BD_z (k := 6) hBQ))) (by exact hRR) (by exact OFQ.refl _ _) (by intro a j ha; simp at ha; rw [zQ_ne ha.2.1, zQ_ne ha.1]) (by intro j hj; rw [zQ_eq, h16 j hj]) (by omega))
end
