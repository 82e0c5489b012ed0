set_option maxRecDepth 100000 in
set_option maxHeartbeats 4000000 in
theorem m_X6_addChild {S : MS} {T : CT} {e : CE} (hR : RR S T e) (x y : Int32) : CF zX6_addChild 16 3 1 5 [.int x, .int y] (T, e) (pR (addCR S x y) (addCS S x y)) := by
  intro D Y ad
  refine MT.of [(0, .ref (ad 16)), (1, .int x), (2, .int y)] (by decide) rfl (Nat.le_of_ble_eq_true rfl) ?_
  intro K hK X E
  refine j_iload_n X dX6_addChild_0 rfl 1 rfl ?_
  refine j_iconst (v := nI 3) X dX6_addChild_1 (by decide) ?_
  refine j_icmp_lt (tgt := 21) X dX6_addChild_2 (by decide) (fun c_2 => ?_) (fun c_2 => ?_)
  · refine j_iconst (v := (-1)) X dX6_addChild_21 (by decide) ?_
    refine j_widen (c2 := 1) (s2 := 5) (by decide) (by decide) ?_
    exact j_ireturn X E ((T, e)) rfl ⟨_, rfl, by unfold addCR; rw [show addOk _ _ = false from by unfold addOk; rw [wl c_2, Bool.false_and]]; rfl, by unfold addCS; rw [show addOk _ _ = false from by unfold addOk; rw [wl c_2, Bool.false_and]]; exact hR⟩ dX6_addChild_22
  · refine j_iload_n X dX6_addChild_5 rfl 1 rfl ?_
    refine j_bipush (v := nI 78) X dX6_addChild_6 (by decide) ?_
    refine j_icmp_ge (tgt := 21) X dX6_addChild_8 (by decide) (fun c_8 => ?_) (fun c_8 => ?_)
    · refine j_iconst (v := (-1)) X dX6_addChild_21 (by decide) ?_
      refine j_widen (c2 := 1) (s2 := 5) (by decide) (by decide) ?_
      exact j_ireturn X E ((T, e)) rfl ⟨_, rfl, by unfold addCR; rw [show addOk _ _ = false from by unfold addOk; rw [wh1 (by decide) c_8, Bool.false_and]]; rfl, by unfold addCS; rw [show addOk _ _ = false from by unfold addOk; rw [wh1 (by decide) c_8, Bool.false_and]]; exact hR⟩ dX6_addChild_22
    · refine j_iload_n X dX6_addChild_11 rfl 2 rfl ?_
      refine j_if_lt (tgt := 21) X dX6_addChild_12 (by decide) (fun c_12 => ?_) (fun c_12 => ?_)
      · refine j_iconst (v := (-1)) X dX6_addChild_21 (by decide) ?_
        refine j_widen (c2 := 1) (s2 := 5) (by decide) (by decide) ?_
        exact j_ireturn X E ((T, e)) rfl ⟨_, rfl, by unfold addCR; rw [show addOk _ _ = false from by unfold addOk; rw [wl0 c_12, Bool.and_false]]; rfl, by unfold addCS; rw [show addOk _ _ = false from by unfold addOk; rw [wl0 c_12, Bool.and_false]]; exact hR⟩ dX6_addChild_22
      · refine j_iload_n X dX6_addChild_15 rfl 2 rfl ?_
        refine j_bipush (v := nI 12) X dX6_addChild_16 (by decide) ?_
        refine j_icmp_lt (tgt := 23) X dX6_addChild_18 (by decide) (fun c_18 => ?_) (fun c_18 => ?_)
        · have hx : withinI x (nI 3) (nI 77) = true := by unfold withinI; simp; exact ⟨i_nlt c_2, le_pred (by decide) c_8⟩
          have hy : withinI y (nI 0) (nI 11) = true := by unfold withinI; simp; exact ⟨by rw [nI_0]; exact i_nlt c_12, lt_le (by decide) c_18⟩
          have hok : addOk x y = true := by unfold addOk; rw [hx, hy]; rfl
          obtain ⟨v, hv1, hv2, rfl⟩ := within_of (lo := 3) (n := 77) (by decide) (by decide) hx
          obtain ⟨f, hf, rfl⟩ := within_0 (by decide) hy
          have tv : tn (nI v) = v := nI_clamp (by omega)
          have tf : tn (nI f) = f := nI_clamp (by omega)
          refine j_iconst (v := nI 0) X dX6_addChild_23 (by decide) ?_
          refine j_istore_n X [(3, _), (0, _), (1, _), (2, _)] dX6_addChild_24 rfl (by decide) rfl ?_
          have L25 : ∀ (n : Nat) (i : Nat), (i ≤ 24) → (∀ j, j < i → S 0 j = 1) → (24 + 1 ≤ i + n) → JJ K D 0 0 (WC ad Y (T, e)) [(0, .ref (ad 16)), (1, .int (nI v)), (2, .int (nI f)), (3, .int (nI i))] 25 [] := by
            intro n
            induction n with
            | zero =>
              intro i hi ha hf25
              exact absurd hf25 (by omega)
            | succ n25 ih25 =>
              intro i hi ha hf25
              refine j_iload_n X dX6_addChild_25 rfl 3 rfl ?_
              refine j_aload_n X dX6_addChild_26 rfl 0 rfl ?_
              refine j_getf X ly_X6 0 rfl rfl 0 (by decide) f_X6_11 rfl dX6_addChild_27 ?_
              refine jc_len_r0 X dX6_addChild_30 ?_
              refine n_icmp_ge (tgt := 66) X dX6_addChild_31 (by decide) (by omega) (by omega) (fun c_31 => ?_) (fun c_31 => ?_)
              · have hi2 : i = 24 := by omega
                subst hi2
                have hall : childN S = 24 := sm_all1 ha
                refine j_bipush (v := (-3)) X dX6_addChild_66 (by decide) ?_
                refine j_widen (c2 := 1) (s2 := 5) (by decide) (by decide) ?_
                exact j_ireturn X E ((T, e)) rfl ⟨_, rfl, by unfold addCR; rw [hok, if_pos rfl, if_pos hall], by unfold addCS; rw [hok, if_pos rfl, if_pos hall]; exact hR⟩ dX6_addChild_68
              · refine j_aload_n X dX6_addChild_34 rfl 0 rfl ?_
                refine j_getf X ly_X6 0 rfl rfl 0 (by decide) f_X6_11 rfl dX6_addChild_35 ?_
                refine j_iload_n X dX6_addChild_38 rfl 3 rfl ?_
                refine jc_ch X hR (by omega) dX6_addChild_39 (fun a_39 q_39 r_39 m_39 p_39 => ?_) (fun q_39 r_39 => ?_)
                · refine j_ifnonnull (tgt := 60) X dX6_addChild_40 (by decide) ?_
                  refine n_iinc X [(3, _), (0, _), (1, _), (2, _)] dX6_addChild_60 (q := 3) (b := 1) rfl (by decide) (by decide) rfl ?_
                  refine j_goto (tgt := 25) X dX6_addChild_63 (by decide) ?_
                  exact j_sub [1, 2, 3, 0] rfl (ih25 _ (by omega) (by intro j hj; by_cases q : j = i; subst q; exact q_39; exact ha j (by omega)) (by omega))
                · refine j_ifnonnullN X dX6_addChild_40 ?_
                  refine j_aload_n X dX6_addChild_43 rfl 0 rfl ?_
                  refine j_getf X ly_X6 0 rfl rfl 0 (by decide) f_X6_11 rfl dX6_addChild_44 ?_
                  refine j_iload_n X dX6_addChild_47 rfl 3 rfl ?_
                  refine jc_new (ci := 0) (fs := z5) X hK ly_X0 tyX0 tyX0_ok c_X6_9 n_X0 in_X0 rfl (z5_ok) (by decide) (by decide) dX6_addChild_48 (fun a_48 e_48 h_48 ee_48 => ?_)
                  have m_48 : a_48 ∈ eL e_48 := by rw [ee_48]; exact List.mem_append_right _ (List.mem_singleton.mpr rfl)
                  have p_48 : eP e_48 a_48 = .inr (0, z5) := by rw [ee_48]; exact if_pos rfl
                  refine j_dup X dX6_addChild_51 rfl ?_
                  refine j_iload_n X dX6_addChild_52 rfl 1 rfl ?_
                  refine j_iload_n X dX6_addChild_53 rfl 2 rfl ?_
                  refine j_callI (mc := 0) (ms := 0) (As := [.int (nI v), .int (nI f)]) X hK ((m_X0_init m_48 p_48 v f) D Y ad) m_X6_65 (by decide) (by decide) rfl (Nat.le_of_ble_eq_true rfl) ⟨by decide, by decide⟩ dX6_addChild_54 (fun v_54 u_54 hp_54 => ?_)
                  obtain ⟨rfl, hu_54⟩ := hp_54
                  obtain ⟨e_54, ee_54⟩ : ∃ e' : CE, e' = wP e_48 a_48 (.inr (0, [.int (nI f), .int (nI v), .int 0, .int 0, .long 0])) := ⟨_, rfl⟩
                  rw [← ee_54] at hu_54
                  subst hu_54
                  have m_54 := mem_wP ee_54 m_48
                  have p_54 := pos_wP ee_54
                  refine jc_ast_r0 X (by omega) m_54 p_54 dX6_addChild_57 (fun e_57 ee_57 => ?_)
                  have hn24 : childN S ≠ 24 := sm_not_all (f := S 0) (fun j hj => (hR.hI.2.2.1 j hj).1) (by omega) q_39
                  have hfr : freeC S = i := fr_at ha (by omega) 24 0 (by omega) (by omega)
                  have hRn : RR (addCS S (nI v) (nI f)) T e_57 := by unfold addCS; rw [hok, if_pos rfl, if_neg hn24, hfr, tv, tf, ee_57, ee_54, ee_48, ← chE_new (S := S) (c := i)]; exact hR.addC h_48 (by omega) (by omega) (by omega) rfl
                  refine j_iload_n X dX6_addChild_58 rfl 3 rfl ?_
                  exact j_ireturn X E ((T, e_57)) rfl ⟨_, rfl, by unfold addCR; rw [hok, if_pos rfl, if_neg hn24, hfr], hRn⟩ dX6_addChild_59
          exact j_sub [1, 2, 3, 0] rfl (L25 25 _ (by omega) (by intro j hj; omega) (by omega))
        · refine j_iconst (v := (-1)) X dX6_addChild_21 (by decide) ?_
          refine j_widen (c2 := 1) (s2 := 5) (by decide) (by decide) ?_
          exact j_ireturn X E ((T, e)) rfl ⟨_, rfl, by unfold addCR; rw [show addOk _ _ = false from by unfold addOk; rw [wh1 (by decide) (i_nlt c_18), Bool.and_false]]; rfl, by unfold addCS; rw [show addOk _ _ = false from by unfold addOk; rw [wh1 (by decide) (i_nlt c_18), Bool.and_false]]; exact hR⟩ dX6_addChild_22
