set_option maxRecDepth 100000 in
set_option maxHeartbeats 4000000 in
theorem m_X6_addEducator {S : MS} {T : CT} {e : CE} (hR : RR S T e) : CF zX6_addEducator 16 3 1 2 [] (T, e) (pR (addER S) (addES S)) := by
  intro D Y ad
  refine MT.of [(0, .ref (ad 16))] (by decide) rfl (Nat.le_of_ble_eq_true rfl) ?_
  intro K hK X E
  refine j_iconst (v := nI 0) X dX6_addEducator_0 (by decide) ?_
  refine j_istore_n X [(1, _), (0, _)] dX6_addEducator_1 rfl (by decide) rfl ?_
  have L2 : ∀ (n : Nat) (i : Nat), (i ≤ 8) → (∀ j, j < i → S 7 j = 1) → (8 + 1 ≤ i + n) → JJ K D 0 0 (WC ad Y (T, e)) [(0, .ref (ad 16)), (1, .int (nI i))] 2 [] := by
    intro n
    induction n with
    | zero =>
      intro i hi ha hf2
      exact absurd hf2 (by omega)
    | succ n2 ih2 =>
      intro i hi ha hf2
      refine j_iload_n X dX6_addEducator_2 rfl 1 rfl ?_
      refine j_aload_n X dX6_addEducator_3 rfl 0 rfl ?_
      refine j_getf X ly_X6 0 rfl rfl 1 (by decide) f_X6_17 rfl dX6_addEducator_4 ?_
      refine jc_len_r1 X dX6_addEducator_7 ?_
      refine n_icmp_ge (tgt := 41) X dX6_addEducator_8 (by decide) (by omega) (by omega) (fun c_8 => ?_) (fun c_8 => ?_)
      · have hi2 : i = 8 := by omega
        subst hi2
        have hall : eduN S = 8 := sm_all1 ha
        refine j_bipush (v := (-3)) X dX6_addEducator_41 (by decide) ?_
        refine j_widen (c2 := 1) (s2 := 2) (by decide) (by decide) ?_
        exact j_ireturn X E ((T, e)) rfl ⟨_, rfl, by unfold addER; rw [if_pos hall], by unfold addES; rw [if_pos hall]; exact hR⟩ dX6_addEducator_43
      · refine j_aload_n X dX6_addEducator_11 rfl 0 rfl ?_
        refine j_getf X ly_X6 0 rfl rfl 1 (by decide) f_X6_17 rfl dX6_addEducator_12 ?_
        refine j_iload_n X dX6_addEducator_15 rfl 1 rfl ?_
        refine jc_ed X hR (by omega) dX6_addEducator_16 (fun a_16 q_16 r_16 m_16 p_16 => ?_) (fun q_16 r_16 => ?_)
        · refine j_ifnonnull (tgt := 35) X dX6_addEducator_17 (by decide) ?_
          refine n_iinc X [(1, _), (0, _)] dX6_addEducator_35 (q := 1) (b := 1) rfl (by decide) (by decide) rfl ?_
          refine j_goto (tgt := 2) X dX6_addEducator_38 (by decide) ?_
          exact j_sub [1, 0] rfl (ih2 _ (by omega) (by intro j hj; by_cases q : j = i; subst q; exact q_16; exact ha j (by omega)) (by omega))
        · refine j_ifnonnullN X dX6_addEducator_17 ?_
          refine j_aload_n X dX6_addEducator_20 rfl 0 rfl ?_
          refine j_getf X ly_X6 0 rfl rfl 1 (by decide) f_X6_17 rfl dX6_addEducator_21 ?_
          refine j_iload_n X dX6_addEducator_24 rfl 1 rfl ?_
          refine jc_new (ci := 2) (fs := z2) X hK ly_X2 tyX2 tyX2_ok c_X6_15 n_X2 in_X2 rfl (z2_ok) (by decide) (by decide) dX6_addEducator_25 (fun a_25 e_25 h_25 ee_25 => ?_)
          have m_25 : a_25 ∈ eL e_25 := by rw [ee_25]; exact List.mem_append_right _ (List.mem_singleton.mpr rfl)
          have p_25 : eP e_25 a_25 = .inr (2, z2) := by rw [ee_25]; exact if_pos rfl
          refine j_dup X dX6_addEducator_28 rfl ?_
          refine j_callIN (mc := 0) (ms := 0) (As := []) X hK ((m_X2_init m_25 p_25) D Y ad) m_X6_146 (by decide) (by decide) rfl (Nat.le_of_ble_eq_true rfl) ⟨by decide, by decide⟩ dX6_addEducator_29 (fun v_29 u_29 hp_29 => ?_)
          obtain ⟨rfl, hu_29⟩ := hp_29
          obtain ⟨e_29, ee_29⟩ : ∃ e' : CE, e' = wP e_25 a_25 (.inr (2, z2)) := ⟨_, rfl⟩
          rw [← ee_29] at hu_29
          subst hu_29
          have m_29 := mem_wP ee_29 m_25
          have p_29 := pos_wP ee_29
          refine jc_ast_r1 X (by omega) m_29 p_29 dX6_addEducator_32 (fun e_32 ee_32 => ?_)
          have hn8 : eduN S ≠ 8 := sm_not_all (f := S 7) (fun j hj => hR.hI.2.2.2.1 j hj) (by omega) q_16
          have hfr : freeE S = i := fr_at ha (by omega) 8 0 (by omega) (by omega)
          have hRn : RR (addES S) T e_32 := by unfold addES; rw [if_neg hn8, hfr, ee_32, ee_29, ee_25, ← edE_new (S := S) (c := i)]; exact hR.addE h_25 (by omega) rfl
          refine j_iload_n X dX6_addEducator_33 rfl 1 rfl ?_
          exact j_ireturn X E ((T, e_32)) rfl ⟨_, rfl, by unfold addER; rw [if_neg hn8, hfr], hRn⟩ dX6_addEducator_34
  exact j_sub [1, 0] rfl (L2 9 _ (by omega) (by intro j hj; omega) (by omega))
