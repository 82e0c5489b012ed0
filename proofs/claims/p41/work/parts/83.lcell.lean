section
variable {K : Ctx} {cc : ByteArray} {nL : Nat} {own : String} {D : va_G} {Y : Nat → ClassId} {cells slots : Nat} {lv : List (Nat × Value)} {pc : Nat} {st : List Value}
def rC : Option Value → Prop := fun w => ∃ x : Int32, w = some (.int x)
theorem jx_cell (X : CX K cc nL own D Y) {ws : va_W} {j k mc0 ms0 idx b L x : Nat} {xs : Nat → Int32} (hX : va_X b L xs (ks K) (ks K).heap) (hbl : b < (ks K).heap.size) (hbA : ¬ kA K b) (hR : RO K k mc0 ms0) (hM : MX D Y zL_cell j [.ref b, .int (nI x)] b L xs rC) (cw : CwS own idx 2 zL_cell) (hj : j < k) (hst : (st.map fun v => v.category).sum ≤ 8) (hf : cells ≤ mc0 ∧ slots ≤ ms0) (hdg : decode cc pc = .ok (.invokestatic idx, 3)) (kk : ∀ r : Int32, JJ K D cells slots ws lv (pc + 3) (.int r :: st)) : JJ K D cells slots ws lv pc (.int (nI x) :: .ref b :: st) := by
  refine jx_call (As := [.ref b, .int (nI x)]) X hX hbl hbA hR hM cw hj (by decide) rfl hst hf hdg (fun v hv => ?_)
  obtain ⟨r, rfl⟩ := hv
  exact kk r
end
set_option maxRecDepth 100000 in
set_option maxHeartbeats 4000000 in
theorem m_L_cell {D : va_G} {Y : Nat → ClassId} {b L : Nat} {xs : Nat → Int32} (hL : L ≤ 260) (k : Nat) (hk : k < 1000) : MX D Y zL_cell 0 [.ref b, .int (nI k)] b L xs rC := by
  refine MX.of [(0, .ref b), (1, .int (nI k))] (by decide) rfl (Nat.le_of_ble_eq_true rfl) ?_
  intro K hR0 X E hX hbl hbA
  refine j_iload_n X dL_cell_0 rfl 1 rfl ?_
  refine j_aload_n X dL_cell_1 rfl 0 rfl ?_
  refine jl_slen X hX hbl hbA dL_cell_2 ?_
  refine n_icmp_ge (tgt := 12) X dL_cell_3 (by decide) (by omega) (by omega) (fun c_3 => ?_) (fun c_3 => ?_)
  · refine j_ldc X k_L_7 dL_cell_12 ?_
    rw [show (876597683 : Int32) = nI 876597683 from by decide]
    refine j_iload_n X dL_cell_14 rfl 1 rfl ?_
    refine j_iconst (v := nI 1) X dL_cell_15 (by decide) ?_
    refine n_iadd X dL_cell_16 ?_
    refine n_imul X dL_cell_17 ?_
    refine j_ldc X k_L_8 dL_cell_18 ?_
    rw [show (2531011 : Int32) = nI 2531011 from by decide]
    refine n_iadd X dL_cell_20 ?_
    exact j_ireturn X E (()) rfl ⟨_, rfl⟩ dL_cell_21
  · refine j_aload_n X dL_cell_6 rfl 0 rfl ?_
    refine j_iload_n X dL_cell_7 rfl 1 rfl ?_
    refine jl_sld X hX hbl hbA (by omega) hL dL_cell_8 ?_
    refine j_goto (tgt := 21) X dL_cell_9 (by decide) ?_
    exact j_ireturn X E (()) rfl ⟨_, rfl⟩ dL_cell_21
section
variable {Y : Nat → ClassId} {wl : va_W} {aq : Nat → Nat} {Q : MS}
set_option maxRecDepth 100000 in
set_option maxHeartbeats 4000000 in
theorem m_L_span (hBQ : BD Q) (x : Int32) (o d : Nat) (ho : o + 2 * d + 1 < 50) : ∀ D : va_G, MT zL_span 1 0 0 D Y [.int x, .int (nI o), .int (nI d), .ref (aq 2)] (wl ++ LA aq Y 6 Q) (fun u : MS => wl ++ LA aq Y 6 u) (pI (fun r u => bI true = r ∧ BD u ∧ ∃ b e : Nat, b < 9 ∧ b ≤ e ∧ e ≤ 10 ∧ u = uM (uM Q 2 (o + 2 * d) b) 2 (o + 2 * d + 1) e)) := by
  intro D
  refine MT.of [(0, .int x), (1, .int (nI o)), (2, .int (nI d)), (3, .ref (aq 2))] (by decide) rfl (Nat.le_of_ble_eq_true rfl) ?_
  intro K hR0 X E
  have hR := RO.rm hR0
  refine j_iload_n X dL_span_0 rfl 0 rfl ?_
  refine j_bipush (v := nI 9) X dL_span_1 (by decide) ?_
  refine jr_callR2 X hR (m_L_low _ _ (by omega) (by omega)) m_L_112 (by decide) (by decide) (Nat.le_of_ble_eq_true rfl) ⟨by decide, by decide⟩ dL_span_3 (fun v_3 e_3 => ?_)
  refine j_istore X [(4, _), (0, _), (1, _), (2, _), (3, _)] dL_span_6 (by decide) rfl ?_
  refine j_aload_n X dL_span_8 rfl 4 rfl ?_
  refine j_iload_n X dL_span_9 rfl 2 rfl ?_
  refine j_iconst (v := nI 2) X dL_span_10 (by decide) ?_
  refine j_iload_n X dL_span_11 rfl 3 rfl ?_
  refine n_imul X dL_span_12 ?_
  refine n_iadd X dL_span_13 ?_
  refine j_iload X dL_span_14 0 rfl ?_
  refine jl_ast X hBQ (k := 2) (by decide) (by decide) rfl (show _ < 50 by omega) (by omega) dL_span_16 (fun Q_16 eQ_16 hB_16 => ?_)
  refine j_aload_n X dL_span_17 rfl 4 rfl ?_
  refine j_iload_n X dL_span_18 rfl 2 rfl ?_
  refine j_iconst (v := nI 2) X dL_span_19 (by decide) ?_
  refine j_iload_n X dL_span_20 rfl 3 rfl ?_
  refine n_imul X dL_span_21 ?_
  refine n_iadd X dL_span_22 ?_
  refine j_iconst (v := nI 1) X dL_span_23 (by decide) ?_
  refine n_iadd X dL_span_24 ?_
  refine j_iload X dL_span_25 0 rfl ?_
  refine j_iload_n X dL_span_27 rfl 1 rfl ?_
  refine j_iconst (v := nI 4) X dL_span_28 (by decide) ?_
  refine j_ishr X dL_span_29 ?_
  refine j_bipush (v := nI 11) X dL_span_30 (by decide) ?_
  refine j_iload X dL_span_32 0 rfl ?_
  refine n_isub X dL_span_34 (by omega) ?_
  refine jr_callR2 X hR (m_L_low _ _ (by omega) (by omega)) m_L_112 (by decide) (by decide) (Nat.le_of_ble_eq_true rfl) ⟨by decide, by decide⟩ dL_span_35 (fun v_35 e_35 => ?_)
  refine n_iadd X dL_span_38 ?_
  refine jl_ast X hB_16 (k := 2) (by decide) (by decide) rfl (show _ < 50 by omega) (by omega) dL_span_39 (fun Q_39 eQ_39 hB_39 => ?_)
  refine j_iconst (v := bI true) X dL_span_40 (by decide) ?_
  exact j_zreturn X E (Q_39) rfl ⟨_, rfl, rfl, hB_39, v_3, v_3 + v_35, by omega, by omega, by omega, by rw [eQ_39, eQ_16]⟩ dL_span_41
end
