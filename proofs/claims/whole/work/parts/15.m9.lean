set_option maxRecDepth 100000 in
set_option maxHeartbeats 4000000 in
theorem m_X7_addChild (S : MS) (hB : BD S) (hI : IV S) (x y : Int32) : MM zX7_addChild 2 [.int x, .int y] S (pS (addCR S x y) (addCS S x y)) := by
  intro D Y h0 ad
  refine MT.of [(0, .ref h0), (1, .int x), (2, .int y)] (by decide) rfl (Nat.le_of_ble_eq_true rfl) ?_
  intro K hR X E
  refine j_iload_n X dX7_addChild_0 rfl 1 rfl ?_
  refine j_iconst (v := nI 3) X dX7_addChild_1 (by decide) ?_
  refine j_bipush (v := nI 77) X dX7_addChild_2 (by decide) ?_
  refine jst_call3 X hR (m_X7_within _ _ _) m_X7_77 (by decide) (by decide) (Nat.le_of_ble_eq_true rfl) ⟨by decide, by decide⟩ dX7_addChild_4 ?_
  refine b_if_eq (tgt := 20) X dX7_addChild_7 (by decide) (fun c_7 => ?_) (fun c_7 => ?_)
  · refine j_iconst (v := (-1)) X dX7_addChild_20 (by decide) ?_
    exact j_ireturn X E (S) rfl ⟨_, rfl, by simp [addCR, addOk, c_7], by simp [addCS, addOk, c_7], hB, hI⟩ dX7_addChild_21
  · obtain ⟨a, ha0, ha, rfl⟩ := within_of (lo := 3) (n := 77) (by decide) (by decide) c_7
    have al := nI_clamp (n := a) (by omega)
    refine j_iload_n X dX7_addChild_10 rfl 2 rfl ?_
    refine j_iconst (v := nI 0) X dX7_addChild_11 (by decide) ?_
    refine j_bipush (v := nI 11) X dX7_addChild_12 (by decide) ?_
    refine jst_call3 X hR (m_X7_within _ _ _) m_X7_77 (by decide) (by decide) (Nat.le_of_ble_eq_true rfl) ⟨by decide, by decide⟩ dX7_addChild_14 ?_
    refine b_if_ne (tgt := 22) X dX7_addChild_17 (by decide) (fun c_17 => ?_) (fun c_17 => ?_)
    · obtain ⟨f, hf0, hf, rfl⟩ := within_of (lo := 0) (n := 11) (by decide) (by decide) c_17
      have fl := nI_clamp (n := f) (by omega)
      refine j_aload_n X dX7_addChild_22 rfl 0 rfl ?_
      refine jm_callI0 X hR (m_X7_childMany S hB hI) m_X7_81 rfl (by decide) (by decide) (Nat.le_of_ble_eq_true rfl) ⟨by decide, by decide⟩ dX7_addChild_23 ?_
      rintro _ _ ⟨v_23, e_23, b_23, rfl, rfl⟩
      refine j_bipush (v := nI 24) X dX7_addChild_26 (by decide) ?_
      refine n_icmp_ne (tgt := 34) X dX7_addChild_28 (by decide) (by omega) (by omega) (fun c_28 => ?_) (fun c_28 => ?_)
      · have c28 : ¬ childN S = 24 := by omega
        refine j_iconst (v := nI 0) X dX7_addChild_34 (by decide) ?_
        refine j_istore_n X [(3, _), (0, _), (1, _), (2, _)] dX7_addChild_35 rfl (by decide) rfl ?_
        have L36 : ∀ (n : Nat) (c : Nat), (c ≤ 24) → (frF (S 0) (24 - c) c = freeC S) → (∀ i, i < c → S 0 i = 1) → (24 + 1 ≤ c + n) → JJ K D 0 0 (WM h0 ad Y S) [(0, .ref h0), (1, .int (nI a)), (2, .int (nI f)), (3, .int (nI c))] 36 [] := by
          intro n
          induction n with
          | zero =>
            intro c hc hfr hall hf36
            exact absurd hf36 (by omega)
          | succ n36 ih36 =>
            intro c hc hfr hall hf36
            have hc24 : c < 24 := by
              rcases Nat.lt_or_ge c 24 with q | q
              · exact q
              · exact absurd (sm_all1 (n := 24) (fun i hi => hall i (by omega))) c28
            refine j_aload_n X dX7_addChild_36 rfl 0 rfl ?_
            refine jm_get X 1 (by decide) rfl f_X7_7 dX7_addChild_37 ?_
            refine j_iload_n X dX7_addChild_40 rfl 3 rfl ?_
            refine jm_ald X hB (by decide) (by show _ < 24; omega) dX7_addChild_41 (fun v_41 e_41 b_41 => ?_)
            refine j_iconst (v := nI 1) X dX7_addChild_42 (by decide) ?_
            refine n_icmp_ne (tgt := 52) X dX7_addChild_43 (by decide) (by omega) (by omega) (fun c_43 => ?_) (fun c_43 => ?_)
            · have hfree : freeC S = c := by rw [← hfr, show 24 - c = (24 - c - 1) + 1 by omega, frF, if_neg (by omega)]
              refine j_aload_n X dX7_addChild_52 rfl 0 rfl ?_
              refine jm_get X 1 (by decide) rfl f_X7_7 dX7_addChild_53 ?_
              refine j_iload_n X dX7_addChild_56 rfl 3 rfl ?_
              refine j_iconst (v := nI 1) X dX7_addChild_57 (by decide) ?_
              refine jm_ast2 X hB (by decide) (by show _ < 24; omega) (by omega) dX7_addChild_58 (fun S_58 eS_58 hB_58 => ?_)
              refine j_aload_n X dX7_addChild_59 rfl 0 rfl ?_
              refine jm_get X 2 (by decide) rfl f_X7_13 dX7_addChild_60 ?_
              refine j_iload_n X dX7_addChild_63 rfl 3 rfl ?_
              refine j_iload_n X dX7_addChild_64 rfl 1 rfl ?_
              refine jm_ast2 X hB_58 (by decide) (by show _ < 24; omega) (by omega) dX7_addChild_65 (fun S_65 eS_65 hB_65 => ?_)
              refine j_aload_n X dX7_addChild_66 rfl 0 rfl ?_
              refine jm_get X 3 (by decide) rfl f_X7_16 dX7_addChild_67 ?_
              refine j_iload_n X dX7_addChild_70 rfl 3 rfl ?_
              refine j_iload_n X dX7_addChild_71 rfl 2 rfl ?_
              refine jm_ast2 X hB_65 (by decide) (by show _ < 24; omega) (by omega) dX7_addChild_72 (fun S_72 eS_72 hB_72 => ?_)
              refine j_aload_n X dX7_addChild_73 rfl 0 rfl ?_
              refine jm_get X 4 (by decide) rfl f_X7_19 dX7_addChild_74 ?_
              refine j_iload_n X dX7_addChild_77 rfl 3 rfl ?_
              refine j_iconst (v := nI 0) X dX7_addChild_78 (by decide) ?_
              refine jm_ast2 X hB_72 (by decide) (by show _ < 24; omega) (by omega) dX7_addChild_79 (fun S_79 eS_79 hB_79 => ?_)
              refine j_aload_n X dX7_addChild_80 rfl 0 rfl ?_
              refine jm_get X 5 (by decide) rfl f_X7_22 dX7_addChild_81 ?_
              refine j_iload_n X dX7_addChild_84 rfl 3 rfl ?_
              refine j_iconst (v := nI 0) X dX7_addChild_85 (by decide) ?_
              refine jm_ast2 X hB_79 (by decide) (by show _ < 24; omega) (by omega) dX7_addChild_86 (fun S_86 eS_86 hB_86 => ?_)
              have h5 : S_86 = uM (uM (uM (uM (uM S 0 c 1) 1 c a) 2 c f) 3 c 0) 4 c 0 := by rw [eS_86, eS_79, eS_72, eS_65, eS_58]
              have hI5 : IV S_86 := by rw [h5]; exact IV_new5 hI (by omega) (by omega)
              refine j_iconst (v := nI 0) X dX7_addChild_87 (by decide) ?_
              refine j_istore X [(4, _), (0, _), (1, _), (2, _), (3, _)] dX7_addChild_88 (by decide) rfl ?_
              have L90 : ∀ (n : Nat) (d : Nat) (T : MS), (d ≤ 5) → (T = itS (zC c) S_86 d) → (BD T) → (5 + 1 ≤ d + n) → JJ K D 0 0 (WM h0 ad Y T) [(0, .ref h0), (3, .int (nI c)), (4, .int (nI d))] 90 [] := by
                intro n
                induction n with
                | zero =>
                  intro d T hd hT hBT hf90
                  exact absurd hf90 (by omega)
                | succ n90 ih90 =>
                  intro d T hd hT hBT hf90
                  refine j_iload X dX7_addChild_90 2 rfl ?_
                  refine j_iconst (v := nI 5) X dX7_addChild_92 (by decide) ?_
                  refine n_icmp_ge (tgt := 126) X dX7_addChild_93 (by decide) (by omega) (by omega) (fun c_93 => ?_) (fun c_93 => ?_)
                  · have hd5 : d = 5 := by omega
                    subst hd5
                    have hI2 : IV T := by rw [hT]; exact IV_it (fun T d (h : IV T) => IV_zC (c := c) (d := d) h) hI5 5
                    have hnew : T = newC S c a f := by rw [hT, h5]; rfl
                    refine j_iload_n X dX7_addChild_126 rfl 1 rfl ?_
                    exact j_ireturn X E (T) rfl ⟨_, rfl, by simp [addCR, addOk, c_7, c_17, c28, hfree], by rw [hnew]; simp [addCS, addOk, tn, c_7, c_17, c28, hfree, al, fl], hBT, hI2⟩ dX7_addChild_127
                  · refine j_aload_n X dX7_addChild_96 rfl 0 rfl ?_
                    refine jm_get X 6 (by decide) rfl f_X7_25 dX7_addChild_97 ?_
                    refine j_iconst (v := nI 5) X dX7_addChild_100 (by decide) ?_
                    refine j_iload_n X dX7_addChild_101 rfl 1 rfl ?_
                    refine n_imul X dX7_addChild_102 ?_
                    refine j_iload X dX7_addChild_103 2 rfl ?_
                    refine n_iadd X dX7_addChild_105 ?_
                    refine j_iconst (v := nI 0) X dX7_addChild_106 (by decide) ?_
                    refine jm_ast2 X hBT (by decide) (by show _ < 120; omega) (by omega) dX7_addChild_107 (fun S_107 eS_107 hB_107 => ?_)
                    refine j_aload_n X dX7_addChild_108 rfl 0 rfl ?_
                    refine jm_get X 7 (by decide) rfl f_X7_28 dX7_addChild_109 ?_
                    refine j_iconst (v := nI 5) X dX7_addChild_112 (by decide) ?_
                    refine j_iload_n X dX7_addChild_113 rfl 1 rfl ?_
                    refine n_imul X dX7_addChild_114 ?_
                    refine j_iload X dX7_addChild_115 2 rfl ?_
                    refine n_iadd X dX7_addChild_117 ?_
                    refine j_iconst (v := nI 0) X dX7_addChild_118 (by decide) ?_
                    refine jm_ast2 X hB_107 (by decide) (by show _ < 120; omega) (by omega) dX7_addChild_119 (fun S_119 eS_119 hB_119 => ?_)
                    refine n_iinc X [(4, _), (0, _), (3, _)] dX7_addChild_120 (q := 2) (b := 1) rfl (by decide) (by decide) rfl ?_
                    refine j_goto (tgt := 90) X dX7_addChild_123 (by decide) ?_
                    exact j_sub [1, 2, 0] rfl (ih90 _ _ (by omega) (by rw [itS, ← hT, eS_119, eS_107]; rfl) (by exact hB_119) (by omega))
              exact j_sub [1, 4, 0] rfl (L90 6 _ _ (by omega) (by rfl) (by exact hB_86) (by omega))
            · refine n_iinc X [(3, _), (0, _), (1, _), (2, _)] dX7_addChild_46 (q := 3) (b := 1) rfl (by decide) (by decide) rfl ?_
              refine j_goto (tgt := 36) X dX7_addChild_49 (by decide) ?_
              exact j_sub [1, 2, 3, 0] rfl (ih36 _ (by omega) (by rw [← hfr, show 24 - c = (24 - (c + 1)) + 1 by omega, frF, if_pos (by omega)]) (by intro i hi; rcases Nat.lt_succ_iff_lt_or_eq.mp hi with q | q; exact hall i q; subst q; omega) (by omega))
        exact j_sub [1, 2, 3, 0] rfl (L36 25 _ (by omega) (by rfl) (by intro i hi; omega) (by omega))
      · have c28 : childN S = 24 := by omega
        refine j_bipush (v := (-3)) X dX7_addChild_31 (by decide) ?_
        exact j_ireturn X E (S) rfl ⟨_, rfl, by simp [addCR, addOk, c_7, c_17, c28], by simp [addCS, addOk, c_7, c_17, c28], hB, hI⟩ dX7_addChild_33
    · refine j_iconst (v := (-1)) X dX7_addChild_20 (by decide) ?_
      exact j_ireturn X E (S) rfl ⟨_, rfl, by simp [addCR, addOk, c_7, c_17], by simp [addCS, addOk, c_7, c_17], hB, hI⟩ dX7_addChild_21
set_option maxRecDepth 100000 in
set_option maxHeartbeats 4000000 in
theorem m_X7_addEducator (S : MS) (hB : BD S) (hI : IV S) : MM zX7_addEducator 1 [] S (pS (addER S) (addES S)) := by
  intro D Y h0 ad
  refine MT.of [(0, .ref h0)] (by decide) rfl (Nat.le_of_ble_eq_true rfl) ?_
  intro K hR X E
  refine j_aload_n X dX7_addEducator_0 rfl 0 rfl ?_
  refine jm_callI0 X hR (m_X7_educatorMany S hB hI) m_X7_145 rfl (by decide) (by decide) (Nat.le_of_ble_eq_true rfl) ⟨by decide, by decide⟩ dX7_addEducator_1 ?_
  rintro _ _ ⟨v_1, e_1, b_1, rfl, rfl⟩
  refine j_bipush (v := nI 8) X dX7_addEducator_4 (by decide) ?_
  refine n_icmp_ne (tgt := 12) X dX7_addEducator_6 (by decide) (by omega) (by omega) (fun c_6 => ?_) (fun c_6 => ?_)
  · have c6 : ¬ eduN S = 8 := by omega
    refine j_iconst (v := nI 0) X dX7_addEducator_12 (by decide) ?_
    refine j_istore_n X [(1, _), (0, _)] dX7_addEducator_13 rfl (by decide) rfl ?_
    have L14 : ∀ (n : Nat) (c : Nat), (c ≤ 8) → (frF (S 7) (8 - c) c = freeE S) → (∀ i, i < c → S 7 i = 1) → (8 + 1 ≤ c + n) → JJ K D 0 0 (WM h0 ad Y S) [(0, .ref h0), (1, .int (nI c))] 14 [] := by
      intro n
      induction n with
      | zero =>
        intro c hc hfr hall hf14
        exact absurd hf14 (by omega)
      | succ n14 ih14 =>
        intro c hc hfr hall hf14
        have hc8 : c < 8 := by
          rcases Nat.lt_or_ge c 8 with q | q
          · exact q
          · exact absurd (sm_all1 (n := 8) (fun i hi => hall i (by omega))) c6
        refine j_aload_n X dX7_addEducator_14 rfl 0 rfl ?_
        refine jm_get X 8 (by decide) rfl f_X7_31 dX7_addEducator_15 ?_
        refine j_iload_n X dX7_addEducator_18 rfl 1 rfl ?_
        refine jm_ald X hB (by decide) (by show _ < 8; omega) dX7_addEducator_19 (fun v_19 e_19 b_19 => ?_)
        refine j_iconst (v := nI 1) X dX7_addEducator_20 (by decide) ?_
        refine n_icmp_ne (tgt := 30) X dX7_addEducator_21 (by decide) (by omega) (by omega) (fun c_21 => ?_) (fun c_21 => ?_)
        · have hfree : freeE S = c := by rw [← hfr, show 8 - c = (8 - c - 1) + 1 by omega, frF, if_neg (by omega)]
          refine j_aload_n X dX7_addEducator_30 rfl 0 rfl ?_
          refine jm_get X 8 (by decide) rfl f_X7_31 dX7_addEducator_31 ?_
          refine j_iload_n X dX7_addEducator_34 rfl 1 rfl ?_
          refine j_iconst (v := nI 1) X dX7_addEducator_35 (by decide) ?_
          refine jm_ast2 X hB (by decide) (by show _ < 8; omega) (by omega) dX7_addEducator_36 (fun S_36 eS_36 hB_36 => ?_)
          have hI5 : IV S_36 := by rw [eS_36]; exact IV_newE hI
          refine j_iconst (v := nI 0) X dX7_addEducator_37 (by decide) ?_
          refine j_istore_n X [(2, _), (0, _), (1, _)] dX7_addEducator_38 rfl (by decide) rfl ?_
          have L39 : ∀ (n : Nat) (d : Nat) (T : MS), (d ≤ 5) → (T = itS (zE c) S_36 d) → (BD T) → (5 + 1 ≤ d + n) → JJ K D 0 0 (WM h0 ad Y T) [(0, .ref h0), (1, .int (nI c)), (2, .int (nI d))] 39 [] := by
            intro n
            induction n with
            | zero =>
              intro d T hd hT hBT hf39
              exact absurd hf39 (by omega)
            | succ n39 ih39 =>
              intro d T hd hT hBT hf39
              refine j_iload_n X dX7_addEducator_39 rfl 2 rfl ?_
              refine j_iconst (v := nI 5) X dX7_addEducator_40 (by decide) ?_
              refine n_icmp_ge (tgt := 72) X dX7_addEducator_41 (by decide) (by omega) (by omega) (fun c_41 => ?_) (fun c_41 => ?_)
              · have hd5 : d = 5 := by omega
                subst hd5
                refine j_iconst (v := nI 0) X dX7_addEducator_72 (by decide) ?_
                refine j_istore_n X [(2, _), (0, _), (1, _)] dX7_addEducator_73 rfl (by decide) rfl ?_
                have L74 : ∀ (n : Nat) (w : Nat) (V : MS), (w ≤ 52) → (V = itS (zH c) T w) → (BD V) → (52 + 1 ≤ w + n) → JJ K D 0 0 (WM h0 ad Y V) [(0, .ref h0), (1, .int (nI c)), (2, .int (nI w))] 74 [] := by
                  intro n
                  induction n with
                  | zero =>
                    intro w V hw hV hBV hf74
                    exact absurd hf74 (by omega)
                  | succ n74 ih74 =>
                    intro w V hw hV hBV hf74
                    refine j_iload_n X dX7_addEducator_74 rfl 2 rfl ?_
                    refine j_bipush (v := nI 52) X dX7_addEducator_75 (by decide) ?_
                    refine n_icmp_ge (tgt := 98) X dX7_addEducator_77 (by decide) (by omega) (by omega) (fun c_77 => ?_) (fun c_77 => ?_)
                    · have hw52 : w = 52 := by omega
                      subst hw52
                      have hI2 : IV V := by rw [hV, hT]; exact IV_it (fun T d (h : IV T) => IV_zH (c := c) (d := d) h) (IV_it (fun T d (h : IV T) => IV_zE (c := c) (d := d) h) hI5 5) 52
                      have hnew : V = newE S c := by rw [hV, hT, eS_36]; rfl
                      refine j_iload_n X dX7_addEducator_98 rfl 1 rfl ?_
                      exact j_ireturn X E (V) rfl ⟨_, rfl, by simp [addER, c6, hfree], by rw [hnew]; simp [addES, c6, hfree], hBV, hI2⟩ dX7_addEducator_99
                    · refine j_aload_n X dX7_addEducator_80 rfl 0 rfl ?_
                      refine jm_get X 11 (by decide) rfl f_X7_40 dX7_addEducator_81 ?_
                      refine j_bipush (v := nI 52) X dX7_addEducator_84 (by decide) ?_
                      refine j_iload_n X dX7_addEducator_86 rfl 1 rfl ?_
                      refine n_imul X dX7_addEducator_87 ?_
                      refine j_iload_n X dX7_addEducator_88 rfl 2 rfl ?_
                      refine n_iadd X dX7_addEducator_89 ?_
                      refine j_iconst (v := nI 0) X dX7_addEducator_90 (by decide) ?_
                      refine jm_ast2 X hBV (by decide) (by show _ < 416; omega) (by omega) dX7_addEducator_91 (fun S_91 eS_91 hB_91 => ?_)
                      refine n_iinc X [(2, _), (0, _), (1, _)] dX7_addEducator_92 (q := 2) (b := 1) rfl (by decide) (by decide) rfl ?_
                      refine j_goto (tgt := 74) X dX7_addEducator_95 (by decide) ?_
                      exact j_sub [1, 2, 0] rfl (ih74 _ _ (by omega) (by rw [itS, ← hV, eS_91]; rfl) (by exact hB_91) (by omega))
                exact j_sub [1, 2, 0] rfl (L74 53 _ _ (by omega) (by rfl) (by exact hBT) (by omega))
              · refine j_aload_n X dX7_addEducator_44 rfl 0 rfl ?_
                refine jm_get X 9 (by decide) rfl f_X7_34 dX7_addEducator_45 ?_
                refine j_iconst (v := nI 5) X dX7_addEducator_48 (by decide) ?_
                refine j_iload_n X dX7_addEducator_49 rfl 1 rfl ?_
                refine n_imul X dX7_addEducator_50 ?_
                refine j_iload_n X dX7_addEducator_51 rfl 2 rfl ?_
                refine n_iadd X dX7_addEducator_52 ?_
                refine j_iconst (v := nI 0) X dX7_addEducator_53 (by decide) ?_
                refine jm_ast2 X hBT (by decide) (by show _ < 40; omega) (by omega) dX7_addEducator_54 (fun S_54 eS_54 hB_54 => ?_)
                refine j_aload_n X dX7_addEducator_55 rfl 0 rfl ?_
                refine jm_get X 10 (by decide) rfl f_X7_37 dX7_addEducator_56 ?_
                refine j_iconst (v := nI 5) X dX7_addEducator_59 (by decide) ?_
                refine j_iload_n X dX7_addEducator_60 rfl 1 rfl ?_
                refine n_imul X dX7_addEducator_61 ?_
                refine j_iload_n X dX7_addEducator_62 rfl 2 rfl ?_
                refine n_iadd X dX7_addEducator_63 ?_
                refine j_iconst (v := nI 0) X dX7_addEducator_64 (by decide) ?_
                refine jm_ast2 X hB_54 (by decide) (by show _ < 40; omega) (by omega) dX7_addEducator_65 (fun S_65 eS_65 hB_65 => ?_)
                refine n_iinc X [(2, _), (0, _), (1, _)] dX7_addEducator_66 (q := 2) (b := 1) rfl (by decide) (by decide) rfl ?_
                refine j_goto (tgt := 39) X dX7_addEducator_69 (by decide) ?_
                exact j_sub [1, 2, 0] rfl (ih39 _ _ (by omega) (by rw [itS, ← hT, eS_65, eS_54]; rfl) (by exact hB_65) (by omega))
          exact j_sub [1, 2, 0] rfl (L39 6 _ _ (by omega) (by rfl) (by exact hB_36) (by omega))
        · refine n_iinc X [(1, _), (0, _)] dX7_addEducator_24 (q := 1) (b := 1) rfl (by decide) (by decide) rfl ?_
          refine j_goto (tgt := 14) X dX7_addEducator_27 (by decide) ?_
          exact j_sub [1, 0] rfl (ih14 _ (by omega) (by rw [← hfr, show 8 - c = (8 - (c + 1)) + 1 by omega, frF, if_pos (by omega)]) (by intro i hi; rcases Nat.lt_succ_iff_lt_or_eq.mp hi with q | q; exact hall i q; subst q; omega) (by omega))
    exact j_sub [1, 0] rfl (L14 9 _ (by omega) (by rfl) (by intro i hi; omega) (by omega))
  · have c6 : eduN S = 8 := by omega
    refine j_bipush (v := (-3)) X dX7_addEducator_9 (by decide) ?_
    exact j_ireturn X E (S) rfl ⟨_, rfl, by simp [addER, c6], by simp [addES, c6], hB, hI⟩ dX7_addEducator_11
set_option maxRecDepth 100000 in
set_option maxHeartbeats 4000000 in
theorem m_X7_shortageOf (S : MS) (hB : BD S) (hI : IV S) (w d : Nat) (hw : w < 52) (hd : d < 5) : MM zX7_shortageOf 4 [.int (nI w), .int (nI d)] S (pN S (shN S w d) 700000) := by
  intro D Y h0 ad
  refine MT.of [(0, .ref h0), (1, .int (nI w)), (2, .int (nI d))] (by decide) rfl (Nat.le_of_ble_eq_true rfl) ?_
  intro K hR X E
  refine j_iconst (v := nI 0) X dX7_shortageOf_0 (by decide) ?_
  refine j_istore_n X [(3, _), (0, _), (1, _), (2, _)] dX7_shortageOf_1 rfl (by decide) rfl ?_
  refine j_iconst (v := nI 0) X dX7_shortageOf_2 (by decide) ?_
  refine j_istore X [(4, _), (3, _), (0, _), (1, _), (2, _)] dX7_shortageOf_3 (by decide) rfl ?_
  have L5 : ∀ (n : Nat) (h mo : Nat), (h ≤ 10) → (mo = mxN (fun h => needN S d h (-9) - thrN S w d h) h) → (mo ≤ 700000) → (10 + 1 ≤ h + n) → JJ K D 0 0 (WM h0 ad Y S) [(0, .ref h0), (1, .int (nI w)), (2, .int (nI d)), (3, .int (nI mo)), (4, .int (nI h))] 5 [] := by
    intro n
    induction n with
    | zero =>
      intro h mo hh hmo hmb hf5
      exact absurd hf5 (by omega)
    | succ n5 ih5 =>
      intro h mo hh hmo hmb hf5
      refine j_iload X dX7_shortageOf_5 4 rfl ?_
      refine j_bipush (v := nI 10) X dX7_shortageOf_7 (by decide) ?_
      refine n_icmp_ge (tgt := 144) X dX7_shortageOf_9 (by decide) (by omega) (by omega) (fun c_9 => ?_) (fun c_9 => ?_)
      · have hh10 : h = 10 := by omega
        subst hh10
        refine j_iload_n X dX7_shortageOf_144 rfl 3 rfl ?_
        exact j_ireturn X E (S) rfl ⟨_, rfl, _, hmo, by omega, rfl, rfl⟩ dX7_shortageOf_145
      · refine j_iconst (v := nI 0) X dX7_shortageOf_12 (by decide) ?_
        refine j_istore X [(5, _), (0, _), (1, _), (2, _), (3, _), (4, _)] dX7_shortageOf_13 (by decide) rfl ?_
        refine j_iconst (v := nI 0) X dX7_shortageOf_15 (by decide) ?_
        refine j_istore X [(6, _), (5, _), (0, _), (1, _), (2, _), (3, _), (4, _)] dX7_shortageOf_16 (by decide) rfl ?_
        have L18 : ∀ (n : Nat) (e t : Nat), (e ≤ 8) → (t = sm (fun e => ct (thrB S w d h e)) e) → (8 + 1 ≤ e + n) → JJ K D 0 0 (WM h0 ad Y S) [(0, .ref h0), (1, .int (nI w)), (2, .int (nI d)), (3, .int (nI mo)), (4, .int (nI h)), (5, .int (nI t)), (6, .int (nI e))] 18 [] := by
          intro n
          induction n with
          | zero =>
            intro e t he ht hf18
            exact absurd hf18 (by omega)
          | succ n18 ih18 =>
            intro e t he ht hf18
            refine j_iload X dX7_shortageOf_18 6 rfl ?_
            refine j_bipush (v := nI 8) X dX7_shortageOf_20 (by decide) ?_
            refine n_icmp_ge (tgt := 111) X dX7_shortageOf_22 (by decide) (by omega) (by omega) (fun c_22 => ?_) (fun c_22 => ?_)
            · have hle : sm (fun e => ct (thrB S w d h e)) 8 ≤ 8 * 1 := sm_le (fun i hi => ct_le _)
              have he8 : e = 8 := by omega
              subst he8
              have ht2 : t = thrN S w d h := ht
              refine j_aload_n X dX7_shortageOf_111 rfl 0 rfl ?_
              refine j_iload_n X dX7_shortageOf_112 rfl 2 rfl ?_
              refine j_iload X dX7_shortageOf_113 4 rfl ?_
              refine j_bipush (v := (-9)) X dX7_shortageOf_115 (by decide) ?_
              refine jm_callI3 X hR (m_X7_needOf S hB hI _ _ _ (by omega) (by omega) isMore_9) m_X7_106 rfl (by decide) (by decide) (Nat.le_of_ble_eq_true rfl) ⟨by decide, by decide⟩ dX7_shortageOf_117 ?_
              rintro _ _ ⟨v_117, e_117, b_117, rfl, rfl⟩
              refine j_iload X dX7_shortageOf_120 5 rfl ?_
              refine j_isub X dX7_shortageOf_122 ?_
              refine j_istore X [(6, _), (0, _), (1, _), (2, _), (3, _), (4, _), (5, _)] dX7_shortageOf_123 (by decide) rfl ?_
              refine j_iload X dX7_shortageOf_125 0 rfl ?_
              refine j_iload_n X dX7_shortageOf_127 rfl 4 rfl ?_
              refine j_icmp_le (tgt := 136) X dX7_shortageOf_128 (by decide) (fun c_128 => ?_) (fun c_128 => ?_)
              · rw [lack_le (by omega) (by omega) (by omega)] at c_128
                refine j_iload_n X dX7_shortageOf_136 rfl 4 rfl ?_
                refine j_istore_n X [(3, _), (6, _), (0, _), (1, _), (2, _), (4, _), (5, _)] dX7_shortageOf_137 rfl (by decide) rfl ?_
                refine n_iinc X [(4, _), (3, _), (6, _), (0, _), (1, _), (2, _), (5, _)] dX7_shortageOf_138 (q := 5) (b := 1) rfl (by decide) (by decide) rfl ?_
                refine j_goto (tgt := 5) X dX7_shortageOf_141 (by decide) ?_
                exact j_sub [3, 4, 5, 1, 0] rfl (ih5 _ _ (by omega) (by rw [mxN_s, ← hmo]; subst e_117; subst ht2; rw [if_neg (by omega)]) (by omega) (by omega))
              · rw [lack_le (by omega) (by omega) (by omega)] at c_128
                rw [pk_sub (show t ≤ v_117 by omega)]
                refine j_iload X dX7_shortageOf_131 0 rfl ?_
                refine j_goto (tgt := 137) X dX7_shortageOf_133 (by decide) ?_
                refine j_istore_n X [(3, _), (6, _), (0, _), (1, _), (2, _), (4, _), (5, _)] dX7_shortageOf_137 rfl (by decide) rfl ?_
                refine n_iinc X [(4, _), (3, _), (6, _), (0, _), (1, _), (2, _), (5, _)] dX7_shortageOf_138 (q := 5) (b := 1) rfl (by decide) (by decide) rfl ?_
                refine j_goto (tgt := 5) X dX7_shortageOf_141 (by decide) ?_
                exact j_sub [3, 4, 5, 1, 0] rfl (ih5 _ _ (by omega) (by rw [mxN_s, ← hmo]; subst e_117; subst ht2; rw [if_pos (by omega)]) (by omega) (by omega))
            · have L88 : ∀ (wb : Bool), (wb = thrB S w d h e) → JJ K D 0 0 (WM h0 ad Y S) [(0, .ref h0), (1, .int (nI w)), (2, .int (nI d)), (3, .int (nI mo)), (4, .int (nI h)), (5, .int (nI t)), (6, .int (nI e))] 88 [.int (bI wb)] := by
                intro wb hwb
                refine j_istore X [(7, _), (0, _), (1, _), (2, _), (3, _), (4, _), (5, _), (6, _)] dX7_shortageOf_88 (by decide) rfl ?_
                refine j_iload X dX7_shortageOf_90 6 rfl ?_
                refine j_iload X dX7_shortageOf_92 0 rfl ?_
                refine b_if_eq (tgt := 101) X dX7_shortageOf_94 (by decide) (fun c_94 => ?_) (fun c_94 => ?_)
                · refine j_iconst (v := nI 0) X dX7_shortageOf_101 (by decide) ?_
                  refine n_iadd X dX7_shortageOf_102 ?_
                  refine j_istore X [(5, _), (7, _), (0, _), (1, _), (2, _), (3, _), (4, _), (6, _)] dX7_shortageOf_103 (by decide) rfl ?_
                  refine n_iinc X [(6, _), (5, _), (7, _), (0, _), (1, _), (2, _), (3, _), (4, _)] dX7_shortageOf_105 (q := 7) (b := 1) rfl (by decide) (by decide) rfl ?_
                  refine j_goto (tgt := 18) X dX7_shortageOf_108 (by decide) ?_
                  exact j_sub [3, 4, 5, 6, 7, 1, 0] rfl (ih18 _ _ (by omega) (by rw [sm_s, ht]; congr 1; simp [ct, ← hwb, c_94]) (by omega))
                · refine j_iconst (v := nI 1) X dX7_shortageOf_97 (by decide) ?_
                  refine j_goto (tgt := 102) X dX7_shortageOf_98 (by decide) ?_
                  refine n_iadd X dX7_shortageOf_102 ?_
                  refine j_istore X [(5, _), (7, _), (0, _), (1, _), (2, _), (3, _), (4, _), (6, _)] dX7_shortageOf_103 (by decide) rfl ?_
                  refine n_iinc X [(6, _), (5, _), (7, _), (0, _), (1, _), (2, _), (3, _), (4, _)] dX7_shortageOf_105 (q := 7) (b := 1) rfl (by decide) (by decide) rfl ?_
                  refine j_goto (tgt := 18) X dX7_shortageOf_108 (by decide) ?_
                  exact j_sub [3, 4, 5, 6, 7, 1, 0] rfl (ih18 _ _ (by omega) (by rw [sm_s, ht]; congr 1; simp [ct, ← hwb, c_94]) (by omega))
              refine j_aload_n X dX7_shortageOf_25 rfl 0 rfl ?_
              refine jm_get X 8 (by decide) rfl f_X7_31 dX7_shortageOf_26 ?_
              refine j_iload X dX7_shortageOf_29 6 rfl ?_
              refine jm_ald X hB (by decide) (by show _ < 8; omega) dX7_shortageOf_31 (fun v_31 e_31 b_31 => ?_)
              refine j_iconst (v := nI 1) X dX7_shortageOf_32 (by decide) ?_
              subst e_31
              refine n_icmp_ne (tgt := 87) X dX7_shortageOf_33 (by decide) (by omega) (by omega) (fun c_33 => ?_) (fun c_33 => ?_)
              · refine j_iconst (v := bI false) X dX7_shortageOf_87 (by decide) ?_
                exact j_sub [0, 1, 2, 3, 4, 5, 6] rfl (L88 _ (by simp [thrB, c_22, c_33]) )
              · refine j_aload_n X dX7_shortageOf_36 rfl 0 rfl ?_
                refine jm_get X 11 (by decide) rfl f_X7_40 dX7_shortageOf_37 ?_
                refine j_bipush (v := nI 52) X dX7_shortageOf_40 (by decide) ?_
                refine j_iload X dX7_shortageOf_42 6 rfl ?_
                refine n_imul X dX7_shortageOf_44 ?_
                refine j_iload_n X dX7_shortageOf_45 rfl 1 rfl ?_
                refine n_iadd X dX7_shortageOf_46 ?_
                refine jm_ald X hB (by decide) (by show _ < 416; omega) dX7_shortageOf_47 (fun v_47 e_47 b_47 => ?_)
                subst e_47
                refine n_if_ne (tgt := 87) X dX7_shortageOf_48 (by decide) (by omega) (fun c_48 => ?_) (fun c_48 => ?_)
                · refine j_iconst (v := bI false) X dX7_shortageOf_87 (by decide) ?_
                  exact j_sub [0, 1, 2, 3, 4, 5, 6] rfl (L88 _ (by simp [thrB, c_22, c_33, c_48]) )
                · refine j_iload X dX7_shortageOf_51 4 rfl ?_
                  refine j_aload_n X dX7_shortageOf_53 rfl 0 rfl ?_
                  refine jm_get X 9 (by decide) rfl f_X7_34 dX7_shortageOf_54 ?_
                  refine j_iconst (v := nI 5) X dX7_shortageOf_57 (by decide) ?_
                  refine j_iload X dX7_shortageOf_58 6 rfl ?_
                  refine n_imul X dX7_shortageOf_60 ?_
                  refine j_iload_n X dX7_shortageOf_61 rfl 2 rfl ?_
                  refine n_iadd X dX7_shortageOf_62 ?_
                  refine jm_ald X hB (by decide) (by show _ < 40; omega) dX7_shortageOf_63 (fun v_63 e_63 b_63 => ?_)
                  refine j_aload_n X dX7_shortageOf_64 rfl 0 rfl ?_
                  refine jm_get X 10 (by decide) rfl f_X7_37 dX7_shortageOf_65 ?_
                  refine j_iconst (v := nI 5) X dX7_shortageOf_68 (by decide) ?_
                  refine j_iload X dX7_shortageOf_69 6 rfl ?_
                  refine n_imul X dX7_shortageOf_71 ?_
                  refine j_iload_n X dX7_shortageOf_72 rfl 2 rfl ?_
                  refine n_iadd X dX7_shortageOf_73 ?_
                  refine jm_ald X hB (by decide) (by show _ < 40; omega) dX7_shortageOf_74 (fun v_74 e_74 b_74 => ?_)
                  refine j_iconst (v := nI 1) X dX7_shortageOf_75 (by decide) ?_
                  refine j_isub X dX7_shortageOf_76 ?_
                  refine jst_call3 X hR (m_X7_within _ _ _) m_X7_77 (by decide) (by decide) (Nat.le_of_ble_eq_true rfl) ⟨by decide, by decide⟩ dX7_shortageOf_77 ?_
                  refine b_if_eq (tgt := 87) X dX7_shortageOf_80 (by decide) (fun c_80 => ?_) (fun c_80 => ?_)
                  · rw [within_P (by omega) (by omega) (by omega)] at c_80
                    subst e_63 e_74
                    refine j_iconst (v := bI false) X dX7_shortageOf_87 (by decide) ?_
                    exact j_sub [0, 1, 2, 3, 4, 5, 6] rfl (L88 _ (by simp [thrB, c_22, c_33, c_48, c_80]) )
                  · rw [within_P (by omega) (by omega) (by omega)] at c_80
                    subst e_63 e_74
                    refine j_iconst (v := bI true) X dX7_shortageOf_83 (by decide) ?_
                    refine j_goto (tgt := 88) X dX7_shortageOf_84 (by decide) ?_
                    exact j_sub [0, 1, 2, 3, 4, 5, 6] rfl (L88 _ (by simp [thrB, c_22, c_33, c_48, c_80]) )
        exact j_sub [2, 3, 4, 5, 6, 1, 0] rfl (L18 9 _ _ (by omega) (by rfl) (by omega))
  exact j_sub [2, 3, 4, 1, 0] rfl (L5 11 _ _ (by omega) (by rfl) (by omega) (by omega))
set_option maxRecDepth 100000 in
set_option maxHeartbeats 4000000 in
theorem m_X7_shortage (S : MS) (hB : BD S) (hI : IV S) (x y : Int32) : MM zX7_shortage 5 [.int x, .int y] S (pZ S (shrtI S x y)) := by
  intro D Y h0 ad
  refine MT.of [(0, .ref h0), (1, .int x), (2, .int y)] (by decide) rfl (Nat.le_of_ble_eq_true rfl) ?_
  intro K hR X E
  refine j_iload_n X dX7_shortage_0 rfl 1 rfl ?_
  refine jst_call1 X hR (m_X7_isWeek _) m_X7_151 (by decide) (by decide) (Nat.le_of_ble_eq_true rfl) ⟨by decide, by decide⟩ dX7_shortage_1 ?_
  refine b_if_eq (tgt := 23) X dX7_shortage_4 (by decide) (fun c_4 => ?_) (fun c_4 => ?_)
  · refine j_iconst (v := (-1)) X dX7_shortage_23 (by decide) ?_
    exact j_ireturn X E (S) rfl ⟨_, rfl, by simp [shrtI, tn, c_4, *], rfl⟩ dX7_shortage_24
  · obtain ⟨w, hw, rfl⟩ := within_0 (n := 51) (by decide) c_4
    have hwl := nI_clamp (n := w) (by omega)
    refine j_iload_n X dX7_shortage_7 rfl 2 rfl ?_
    refine jst_call1 X hR (m_X7_isDay _) m_X7_116 (by decide) (by decide) (Nat.le_of_ble_eq_true rfl) ⟨by decide, by decide⟩ dX7_shortage_8 ?_
    refine b_if_eq (tgt := 23) X dX7_shortage_11 (by decide) (fun c_11 => ?_) (fun c_11 => ?_)
    · refine j_iconst (v := (-1)) X dX7_shortage_23 (by decide) ?_
      exact j_ireturn X E (S) rfl ⟨_, rfl, by simp [shrtI, tn, c_4, c_11, *], rfl⟩ dX7_shortage_24
    · obtain ⟨d, hd, rfl⟩ := within_0 (n := 4) (by decide) c_11
      have hdl := nI_clamp (n := d) (by omega)
      refine j_aload_n X dX7_shortage_14 rfl 0 rfl ?_
      refine j_iload_n X dX7_shortage_15 rfl 1 rfl ?_
      refine j_iload_n X dX7_shortage_16 rfl 2 rfl ?_
      refine jm_callI2 X hR (m_X7_shortageOf S hB hI _ _ (by omega) (by omega)) m_X7_174 rfl (by decide) (by decide) (Nat.le_of_ble_eq_true rfl) ⟨by decide, by decide⟩ dX7_shortage_17 ?_
      rintro _ _ ⟨v_17, e_17, b_17, rfl, rfl⟩
      refine j_goto (tgt := 24) X dX7_shortage_20 (by decide) ?_
      exact j_ireturn X E (S) rfl ⟨_, rfl, by simp [shrtI, tn, c_4, c_11, *], rfl⟩ dX7_shortage_24
