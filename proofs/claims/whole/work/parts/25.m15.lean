set_option maxRecDepth 100000 in
set_option maxHeartbeats 4000000 in
theorem m_X7_readText (S : MS) (hB : BD S) (hI : IV S) : MM zX7_readText 2 [] S (pI (fun r u => rdI S 16 0 0 = r ∧ rdZ S = u ∧ BD u ∧ AG u S ∧ spOk u)) := by
  intro D Y h0 ad
  refine MT.of [(0, .ref h0)] (by decide) rfl (Nat.le_of_ble_eq_true rfl) ?_
  intro K hR X E
  refine j_iconst (v := nI 0) X dX7_readText_0 (by decide) ?_
  refine j_istore_n X [(1, _), (0, _)] dX7_readText_1 rfl (by decide) rfl ?_
  refine j_iconst (v := (-1)) X dX7_readText_2 (by decide) ?_
  refine j_istore_n X [(2, _), (1, _), (0, _)] dX7_readText_3 rfl (by decide) rfl ?_
  refine j_iconst (v := nI 0) X dX7_readText_4 (by decide) ?_
  refine j_istore_n X [(3, _), (2, _), (1, _), (0, _)] dX7_readText_5 rfl (by decide) rfl ?_
  have L6 : ∀ (n : Nat) (d : Nat) (T : MS), (d ≤ 5) → (T = itS zR S d) → (∀ j, j < d → T 18 j = 0 ∧ T 19 j = 0) → (BD T) → (5 + 1 ≤ d + n) → JJ K D 0 0 (WM h0 ad Y T) [(0, .ref h0), (1, .int (nI 0)), (2, .int (-1)), (3, .int (nI d))] 6 [] := by
    intro n
    induction n with
    | zero =>
      intro d T hd hT hz hBT hf6
      exact absurd hf6 (by omega)
    | succ n6 ih6 =>
      intro d T hd hT hz hBT hf6
      refine j_iload_n X dX7_readText_6 rfl 3 rfl ?_
      refine j_iconst (v := nI 5) X dX7_readText_7 (by decide) ?_
      refine n_icmp_ge (tgt := 31) X dX7_readText_8 (by decide) (by omega) (by omega) (fun c_8 => ?_) (fun c_8 => ?_)
      · have hd5 : d = 5 := by omega
        subst hd5
        have L31 : ∀ (n : Nat) (f p l : Nat) (lz : Int32) (V : MS), (p ≤ 64) → (S 21 3 + 4 ≤ p + 4 * f) → (l ≤ 5) → (lz + nI 1 = nI l) → (rdI S 16 0 0 = rdI S f p l) → (rdZ S = rdT S f p l V) → (AG V S) → (spOk V) → (BD V) → (IV V) → (f + 1 ≤ n) → JJ K D 0 0 (WM h0 ad Y V) [(0, .ref h0), (1, .int (nI p)), (2, .int lz)] 31 [] := by
          intro n
          induction n with
          | zero =>
            intro f p l lz V hp hf hl5 hlz hrI hrT hAV hsp hBV hIV hf31
            exact absurd hf31 (by omega)
          | succ n31 ih31 =>
            intro f p l lz V hp hf hl5 hlz hrI hrT hAV hsp hBV hIV hf31
            refine j_iload_n X dX7_readText_31 rfl 1 rfl ?_
            refine j_aload_n X dX7_readText_32 rfl 0 rfl ?_
            refine jm_get X 21 (by decide) rfl f_X7_190 dX7_readText_33 ?_
            refine n_name (fun v_33 e_33 => ?_)
            have b_33 : v_33 < 16777216 := by rw [e_33]; exact hBV _ _
            refine n_icmp_ge (tgt := 155) X dX7_readText_36 (by decide) (by omega) (by omega) (fun c_36 => ?_) (fun c_36 => ?_)
            · have hpl : ¬ p < S 21 3 := by rw [← hAV.at (by omega), ← e_33]; omega
              refine j_bipush (v := (-9)) X dX7_readText_155 (by decide) ?_
              exact j_ireturn X E (V) rfl ⟨_, rfl, by rw [hrI]; cases f with | zero => rfl | succ f => (rw [rdI_s S f p l, if_neg hpl]), by rw [hrT]; cases f with | zero => rfl | succ f => (rw [rdT_s S f p l, if_neg hpl]), hBV, hAV, hsp⟩ dX7_readText_157
            · have hpl : p < S 21 3 := by rw [← hAV.at (by omega), ← e_33]; exact c_36
              obtain ⟨f, rfl⟩ : ∃ k, f = k + 1 := ⟨f - 1, by have := hI.2.2.2.2.2.2.2.2.2.2.2; omega⟩
              have hlen := hI.2.2.2.2.2.2.2.2.2.2.2
              refine j_aload_n X dX7_readText_39 rfl 0 rfl ?_
              refine j_iload_n X dX7_readText_40 rfl 1 rfl ?_
              refine j_bipush (v := nI 48) X dX7_readText_41 (by decide) ?_
              refine jm_callI2 X hR (m_X7_character V hBV hIV _ _ (by omega) (by omega)) m_X7_193 rfl (by decide) (by decide) (Nat.le_of_ble_eq_true rfl) ⟨by decide, by decide⟩ dX7_readText_43 ?_
              rintro _ _ ⟨rfl, rfl⟩
              rw [chI_ag hAV]
              refine j_istore_n X [(3, _), (0, _), (1, _), (2, _)] dX7_readText_46 rfl (by decide) rfl ?_
              refine j_iload_n X dX7_readText_47 rfl 0 rfl ?_
              refine j_iload_n X dX7_readText_48 rfl 3 rfl ?_
              refine j_iconst (v := nI 1) X dX7_readText_49 (by decide) ?_
              refine j_iadd X dX7_readText_50 ?_
              refine z_as (nI l) hlz ?_
              refine j_iconst (v := nI 4) X dX7_readText_51 (by decide) ?_
              refine jst_call3 X hR (m_X7_within _ _ _) m_X7_77 (by decide) (by decide) (Nat.le_of_ble_eq_true rfl) ⟨by decide, by decide⟩ dX7_readText_52 ?_
              refine b_if_ne (tgt := 60) X dX7_readText_55 (by decide) (fun c_55 => ?_) (fun c_55 => ?_)
              · rw [ch_day hB hl5] at c_55
                have hok := ok_of c_55
                have hdv : chI S p 48 = nI (dyN S p) := chI_val hok.1 (by omega)
                rw [hdv]
                have hdy : dyN S p ≤ 4 := by unfold dyN; omega
                have hld : l ≤ dyN S p := by unfold dyN; omega
                refine j_aload_n X dX7_readText_60 rfl 1 rfl ?_
                refine j_iload_n X dX7_readText_61 rfl 2 rfl ?_
                refine j_iconst (v := nI 1) X dX7_readText_62 (by decide) ?_
                refine n_iadd X dX7_readText_63 ?_
                refine j_bipush (v := nI 97) X dX7_readText_64 (by decide) ?_
                refine jm_callI2 X hR (m_X7_character V hBV hIV _ _ (by omega) (by omega)) m_X7_193 rfl (by decide) (by decide) (Nat.le_of_ble_eq_true rfl) ⟨by decide, by decide⟩ dX7_readText_66 ?_
                rintro _ _ ⟨rfl, rfl⟩
                rw [chI_ag hAV]
                refine j_istore X [(4, _), (3, _), (0, _), (1, _), (2, _)] dX7_readText_69 (by decide) rfl ?_
                refine j_iload X dX7_readText_71 0 rfl ?_
                refine j_iconst (v := nI 0) X dX7_readText_73 (by decide) ?_
                refine j_bipush (v := nI 9) X dX7_readText_74 (by decide) ?_
                refine jst_call3 X hR (m_X7_within _ _ _) m_X7_77 (by decide) (by decide) (Nat.le_of_ble_eq_true rfl) ⟨by decide, by decide⟩ dX7_readText_76 ?_
                refine b_if_ne (tgt := 86) X dX7_readText_79 (by decide) (fun c_79 => ?_) (fun c_79 => ?_)
                · rw [ch_beg hB] at c_79
                  have hok2 := okB_of c_79
                  have hbv : chI S (p + 1) 97 = nI (ltN S (p + 1)) := chI_val hok2.1 (by omega)
                  rw [hbv]
                  have hbl : ltN S (p + 1) ≤ 9 := by unfold ltN; omega
                  refine j_aload_n X dX7_readText_86 rfl 2 rfl ?_
                  refine j_iload_n X dX7_readText_87 rfl 3 rfl ?_
                  refine j_iconst (v := nI 2) X dX7_readText_88 (by decide) ?_
                  refine n_iadd X dX7_readText_89 ?_
                  refine j_bipush (v := nI 97) X dX7_readText_90 (by decide) ?_
                  refine jm_callI2 X hR (m_X7_character V hBV hIV _ _ (by omega) (by omega)) m_X7_193 rfl (by decide) (by decide) (Nat.le_of_ble_eq_true rfl) ⟨by decide, by decide⟩ dX7_readText_92 ?_
                  rintro _ _ ⟨rfl, rfl⟩
                  rw [chI_ag hAV]
                  refine j_istore X [(5, _), (4, _), (3, _), (0, _), (1, _), (2, _)] dX7_readText_95 (by decide) rfl ?_
                  refine j_iload X dX7_readText_97 0 rfl ?_
                  refine j_iload X dX7_readText_99 1 rfl ?_
                  refine j_iconst (v := nI 1) X dX7_readText_101 (by decide) ?_
                  refine n_iadd X dX7_readText_102 ?_
                  refine j_bipush (v := nI 10) X dX7_readText_103 (by decide) ?_
                  refine jst_call3 X hR (m_X7_within _ _ _) m_X7_77 (by decide) (by decide) (Nat.le_of_ble_eq_true rfl) ⟨by decide, by decide⟩ dX7_readText_105 ?_
                  refine b_if_ne (tgt := 115) X dX7_readText_108 (by decide) (fun c_108 => ?_) (fun c_108 => ?_)
                  · rw [ch_end hB hbl] at c_108
                    have hok3 := okE_of c_108
                    have hev : chI S (p + 2) 97 = nI (ltN S (p + 2)) := chI_val hok3.1 (by omega)
                    rw [hev]
                    have hel : ltN S (p + 2) ≤ 10 := by unfold ltN; omega
                    have hbe : S 17 (p + 1) - 97 ≤ S 17 (p + 2) - 97 := by unfold ltN at hok3; omega
                    refine j_aload_n X dX7_readText_115 rfl 3 rfl ?_
                    refine j_iload_n X dX7_readText_116 rfl 4 rfl ?_
                    refine j_iconst (v := nI 3) X dX7_readText_117 (by decide) ?_
                    refine n_iadd X dX7_readText_118 ?_
                    refine j_bipush (v := nI 59) X dX7_readText_119 (by decide) ?_
                    refine jm_callI2 X hR (m_X7_character V hBV hIV _ _ (by omega) (by omega)) m_X7_193 rfl (by decide) (by decide) (Nat.le_of_ble_eq_true rfl) ⟨by decide, by decide⟩ dX7_readText_121 ?_
                    rintro _ _ ⟨rfl, rfl⟩
                    rw [chI_ag hAV]
                    refine j_if_eq (tgt := 131) X dX7_readText_124 (by decide) (fun c_124 => ?_) (fun c_124 => ?_)
                    · have hsm := (ch_semi hB).mp c_124
                      refine j_aload_n X dX7_readText_131 rfl 3 rfl ?_
                      refine jm_get X 22 (by decide) rfl f_X7_68 dX7_readText_132 ?_
                      refine j_iload_n X dX7_readText_135 rfl 2 rfl ?_
                      refine j_iload X dX7_readText_136 1 rfl ?_
                      refine jm_ast2 X hBV (by decide) (by show _ < 5; omega) (by omega) dX7_readText_138 (fun S_138 eS_138 hB_138 => ?_)
                      refine j_aload_n X dX7_readText_139 rfl 3 rfl ?_
                      refine jm_get X 23 (by decide) rfl f_X7_71 dX7_readText_140 ?_
                      refine j_iload_n X dX7_readText_143 rfl 2 rfl ?_
                      refine j_iload X dX7_readText_144 0 rfl ?_
                      refine jm_ast2 X hB_138 (by decide) (by show _ < 5; omega) (by omega) dX7_readText_146 (fun S_146 eS_146 hB_146 => ?_)
                      refine j_iload_n X dX7_readText_147 rfl 2 rfl ?_
                      refine j_istore_n X [(2, _), (5, _), (4, _), (3, _), (0, _), (1, _)] dX7_readText_148 rfl (by decide) rfl ?_
                      refine n_iinc X [(1, _), (2, _), (5, _), (4, _), (3, _), (0, _)] dX7_readText_149 (q := 5) (b := 4) rfl (by decide) (by decide) rfl ?_
                      refine j_goto (tgt := 31) X dX7_readText_152 (by decide) ?_
                      exact j_sub [5, 0, 1] rfl (ih31 f (p + 4) (dyN S p + 1) _ _ (by omega) (by omega) (by omega) (by exact nI_add _ _) (by rw [rdI_s S f p l, if_pos hpl, c_55, c_79, c_108, hsm] at hrI; exact hrI) (by rw [rdT_s S f p l, if_pos hpl, c_55, c_79, c_108, hsm] at hrT; rw [eS_146, eS_138]; exact hrT) (by rw [eS_146, eS_138]; exact AG_19 (AG_18 hAV)) (by rw [eS_146, eS_138]; exact spOk_u hsp (by unfold ltN; omega) (by unfold ltN; omega)) (by exact hB_146) (by rw [eS_146, eS_138]; exact AG.iv (AG.symm (AG_19 (AG_18 (AG.refl V)))) hIV) (by omega))
                    · have hsm : okS S (p + 3) = false := by cases q : okS S (p + 3); rfl; exact absurd ((ch_semi hB).mpr q) c_124
                      refine j_iload_n X dX7_readText_127 rfl 4 rfl ?_
                      refine j_iconst (v := nI 3) X dX7_readText_128 (by decide) ?_
                      refine n_iadd X dX7_readText_129 ?_
                      exact j_ireturn X E (V) rfl ⟨_, rfl, by rw [hrI, rdI_s S f p l]; simp [hpl, c_55, c_79, c_108, hsm], by rw [hrT, rdT_s S f p l]; simp [hpl, c_55, c_79, c_108, hsm], hBV, hAV, hsp⟩ dX7_readText_130
                  · rw [ch_end hB hbl] at c_108
                    refine j_iload_n X dX7_readText_111 rfl 4 rfl ?_
                    refine j_iconst (v := nI 2) X dX7_readText_112 (by decide) ?_
                    refine n_iadd X dX7_readText_113 ?_
                    exact j_ireturn X E (V) rfl ⟨_, rfl, by rw [hrI, rdI_s S f p l]; simp [hpl, c_36, c_55, c_79, c_108], by rw [hrT, rdT_s S f p l]; simp [hpl, c_36, c_55, c_79, c_108], hBV, hAV, hsp⟩ dX7_readText_114
                · rw [ch_beg hB] at c_79
                  refine j_iload_n X dX7_readText_82 rfl 3 rfl ?_
                  refine j_iconst (v := nI 1) X dX7_readText_83 (by decide) ?_
                  refine n_iadd X dX7_readText_84 ?_
                  exact j_ireturn X E (V) rfl ⟨_, rfl, by rw [hrI, rdI_s S f p l]; simp [hpl, c_36, c_55, c_79], by rw [hrT, rdT_s S f p l]; simp [hpl, c_36, c_55, c_79], hBV, hAV, hsp⟩ dX7_readText_85
              · rw [ch_day hB hl5] at c_55
                refine j_iload_n X dX7_readText_58 rfl 2 rfl ?_
                exact j_ireturn X E (V) rfl ⟨_, rfl, by rw [hrI, rdI_s S f p l]; simp [hpl, c_36, c_55], by rw [hrT, rdT_s S f p l]; simp [hpl, c_36, c_55], hBV, hAV, hsp⟩ dX7_readText_59
        exact j_sub [0, 1, 2] rfl (L31 17 16 0 0 _ _ (by omega) (by have := hI.2.2.2.2.2.2.2.2.2.2.2; omega) (by omega) (by decide) (by rfl) (by rw [hT]; rfl) (by rw [hT]; exact AG_zR S 5) (by intro j hj; have := hz j hj; omega) (by exact hBT) (by exact AG.iv (AG.symm (show AG T S by rw [hT]; exact AG_zR S 5)) hI) (by omega))
      · refine j_aload_n X dX7_readText_11 rfl 0 rfl ?_
        refine jm_get X 22 (by decide) rfl f_X7_68 dX7_readText_12 ?_
        refine j_iload_n X dX7_readText_15 rfl 3 rfl ?_
        refine j_iconst (v := nI 0) X dX7_readText_16 (by decide) ?_
        refine jm_ast2 X hBT (by decide) (by show _ < 5; omega) (by omega) dX7_readText_17 (fun S_17 eS_17 hB_17 => ?_)
        refine j_aload_n X dX7_readText_18 rfl 0 rfl ?_
        refine jm_get X 23 (by decide) rfl f_X7_71 dX7_readText_19 ?_
        refine j_iload_n X dX7_readText_22 rfl 3 rfl ?_
        refine j_iconst (v := nI 0) X dX7_readText_23 (by decide) ?_
        refine jm_ast2 X hB_17 (by decide) (by show _ < 5; omega) (by omega) dX7_readText_24 (fun S_24 eS_24 hB_24 => ?_)
        refine n_iinc X [(3, _), (0, _), (1, _), (2, _)] dX7_readText_25 (q := 3) (b := 1) rfl (by decide) (by decide) rfl ?_
        refine j_goto (tgt := 6) X dX7_readText_28 (by decide) ?_
        exact j_sub [1, 2, 3, 0] rfl (ih6 _ _ (by omega) (by rw [itS, ← hT, eS_24, eS_17]; rfl) (by intro j hj; rw [eS_24, eS_17]; by_cases q : j = d; subst q; simp [uM]; have := hz j (by omega); simp [uM, q]; exact this) (by exact hB_24) (by omega))
  exact j_sub [3, 2, 1, 0] rfl (L6 6 _ _ (by omega) (by rfl) (by intro j hj; omega) (by exact hB) (by omega))
set_option maxRecDepth 100000 in
set_option maxHeartbeats 4000000 in
theorem m_X7_loadBookings (S : MS) (hB : BD S) (hI : IV S) (x : Int32) : MM zX7_loadBookings 6 [.int x] S (pA (ldR S x) (ldS S x)) := by
  intro D Y h0 ad
  refine MT.of [(0, .ref h0), (1, .int x)] (by decide) rfl (Nat.le_of_ble_eq_true rfl) ?_
  intro K hR X E
  refine j_aload_n X dX7_loadBookings_0 rfl 0 rfl ?_
  refine j_iload_n X dX7_loadBookings_1 rfl 1 rfl ?_
  refine jm_callI1 X hR (m_X7_hasChild S hB _) m_X7_85 rfl (by decide) (by decide) (Nat.le_of_ble_eq_true rfl) ⟨by decide, by decide⟩ dX7_loadBookings_2 ?_
  rintro _ _ ⟨rfl, rfl⟩
  refine b_if_ne (tgt := 10) X dX7_loadBookings_5 (by decide) (fun c_5 => ?_) (fun c_5 => ?_)
  · obtain ⟨c, hc, rfl, h0c⟩ := hasC_of c_5
    have hcl := nI_clamp (n := c) (by omega)
    refine j_aload_n X dX7_loadBookings_10 rfl 0 rfl ?_
    refine jm_callI0 X hR (m_X7_readText S hB hI) m_X7_196 rfl (by decide) (by decide) (Nat.le_of_ble_eq_true rfl) ⟨by decide, by decide⟩ dX7_loadBookings_11 ?_
    rintro _ S_11 ⟨rfl, hZ_11, hB_11, hA_11, hs_11⟩
    have hI11 : IV S_11 := AG.iv (AG.symm hA_11) hI
    have hspd : ∀ d, d < 5 → rdZ S 18 d ≤ rdZ S 19 d ∧ rdZ S 19 d ≤ 10 := by rw [hZ_11]; exact hs_11
    refine j_istore_n X [(2, _), (0, _), (1, _)] dX7_loadBookings_14 rfl (by decide) rfl ?_
    refine j_iload_n X dX7_loadBookings_15 rfl 0 rfl ?_
    refine j_bipush (v := (-9)) X dX7_loadBookings_16 (by decide) ?_
    refine j_icmp_eq (tgt := 26) X dX7_loadBookings_18 (by decide) (fun c_18 => ?_) (fun c_18 => ?_)
    · rw [c_18]
      refine j_iconst (v := bI true) X dX7_loadBookings_26 (by decide) ?_
      refine j_istore_n X [(3, _), (2, _), (0, _), (1, _)] dX7_loadBookings_27 rfl (by decide) rfl ?_
      refine j_iconst (v := nI 0) X dX7_loadBookings_28 (by decide) ?_
      refine j_istore X [(4, _), (3, _), (2, _), (0, _), (1, _)] dX7_loadBookings_29 (by decide) rfl ?_
      have L87 : ∀ (cm : Bool), (cm = !ldNo S c) → JJ K D 0 0 (WM h0 ad Y S_11) [(0, .ref h0), (1, .int (nI c)), (2, .int (-9)), (3, .int (bI cm))] 87 [] := by
        intro cm hcm
        refine j_iload_n X dX7_loadBookings_87 rfl 3 rfl ?_
        refine b_if_ne (tgt := 94) X dX7_loadBookings_88 (by decide) (fun c_88 => ?_) (fun c_88 => ?_)
        · refine j_iconst (v := nI 0) X dX7_loadBookings_94 (by decide) ?_
          refine j_istore X [(4, _), (0, _), (1, _), (2, _), (3, _)] dX7_loadBookings_95 (by decide) rfl ?_
          have L97 : ∀ (n : Nat) (d : Nat) (T : MS), (d ≤ 5) → (T = itS (fun T d => uM (uM T 5 (5 * c + d) (rdZ S 18 d)) 6 (5 * c + d) (rdZ S 19 d)) S_11 d) → (∀ a j, a = 18 ∨ a = 19 → T a j = rdZ S a j) → (BD T) → (IV T) → (5 + 1 ≤ d + n) → JJ K D 0 0 (WM h0 ad Y T) [(0, .ref h0), (1, .int (nI c)), (4, .int (nI d))] 97 [] := by
            intro n
            induction n with
            | zero =>
              intro d T hd hT hT18 hBT hIT hf97
              exact absurd hf97 (by omega)
            | succ n97 ih97 =>
              intro d T hd hT hT18 hBT hIT hf97
              refine j_iload X dX7_loadBookings_97 2 rfl ?_
              refine j_iconst (v := nI 5) X dX7_loadBookings_99 (by decide) ?_
              refine n_icmp_ge (tgt := 145) X dX7_loadBookings_100 (by decide) (by omega) (by omega) (fun c_100 => ?_) (fun c_100 => ?_)
              · have hd5 : d = 5 := by omega
                subst hd5
                have hAT : AG T (spT S c (rdZ S)) := by rw [hT]; unfold spT; refine AG_it (fun T U d h => ?_) hA_11 5; exact AG_u (AG_u h)
                have hhr : hoursN T c = hoursN (spT S c (rdZ S)) c := hoursN_congr (fun j => hAT.at (by omega)) (fun j => hAT.at (by omega))
                refine j_aload_n X dX7_loadBookings_145 rfl 0 rfl ?_
                refine j_iload_n X dX7_loadBookings_146 rfl 1 rfl ?_
                refine jm_callI1 X hR (m_X7_hoursOf T hBT hIT _ (by omega)) m_X7_89 rfl (by decide) (by decide) (Nat.le_of_ble_eq_true rfl) ⟨by decide, by decide⟩ dX7_loadBookings_147 ?_
                rintro _ _ ⟨v_147, e_147, b_147, rfl, rfl⟩
                exact j_ireturn X E (T) rfl ⟨_, rfl, by simp only [ldR, tn, hcl, c_5, if_true]; rw [if_pos c_18, if_neg (by rw [c_88] at hcm; simpa using hcm.symm), e_147, hhr], by simp only [ldS, tn, hcl, c_5, if_true]; rw [if_pos c_18, if_neg (by rw [c_88] at hcm; simpa using hcm.symm)]; exact hAT, hBT, hIT⟩ dX7_loadBookings_150
              · refine j_aload_n X dX7_loadBookings_103 rfl 0 rfl ?_
                refine jm_get X 6 (by decide) rfl f_X7_25 dX7_loadBookings_104 ?_
                refine j_iconst (v := nI 5) X dX7_loadBookings_107 (by decide) ?_
                refine j_iload_n X dX7_loadBookings_108 rfl 1 rfl ?_
                refine n_imul X dX7_loadBookings_109 ?_
                refine j_iload X dX7_loadBookings_110 2 rfl ?_
                refine n_iadd X dX7_loadBookings_112 ?_
                refine j_aload_n X dX7_loadBookings_113 rfl 0 rfl ?_
                refine jm_get X 22 (by decide) rfl f_X7_68 dX7_loadBookings_114 ?_
                refine j_iload X dX7_loadBookings_117 2 rfl ?_
                refine jm_ald X hBT (by decide) (by show _ < 5; omega) dX7_loadBookings_119 (fun v_119 e_119 b_119 => ?_)
                refine jm_ast2 X hBT (by decide) (by show _ < 120; omega) (by omega) dX7_loadBookings_120 (fun S_120 eS_120 hB_120 => ?_)
                refine j_aload_n X dX7_loadBookings_121 rfl 0 rfl ?_
                refine jm_get X 7 (by decide) rfl f_X7_28 dX7_loadBookings_122 ?_
                refine j_iconst (v := nI 5) X dX7_loadBookings_125 (by decide) ?_
                refine j_iload_n X dX7_loadBookings_126 rfl 1 rfl ?_
                refine n_imul X dX7_loadBookings_127 ?_
                refine j_iload X dX7_loadBookings_128 2 rfl ?_
                refine n_iadd X dX7_loadBookings_130 ?_
                refine j_aload_n X dX7_loadBookings_131 rfl 0 rfl ?_
                refine jm_get X 23 (by decide) rfl f_X7_71 dX7_loadBookings_132 ?_
                refine j_iload X dX7_loadBookings_135 2 rfl ?_
                refine jm_ald X hB_120 (by decide) (by show _ < 5; omega) dX7_loadBookings_137 (fun v_137 e_137 b_137 => ?_)
                refine jm_ast2 X hB_120 (by decide) (by show _ < 120; omega) (by omega) dX7_loadBookings_138 (fun S_138 eS_138 hB_138 => ?_)
                refine n_iinc X [(4, _), (0, _), (1, _)] dX7_loadBookings_139 (q := 2) (b := 1) rfl (by decide) (by decide) rfl ?_
                refine j_goto (tgt := 97) X dX7_loadBookings_142 (by decide) ?_
                exact j_sub [1, 2, 0] rfl (ih97 _ _ (by omega) (by rw [itS, ← hT, eS_138, eS_120, e_119, e_137, eS_120, hT18 18 d (by omega), uM_nk (by omega), hT18 19 d (by omega)]) (by intro a j ha; rw [eS_138, eS_120, uM_nk (by omega), uM_nk (by omega)]; exact hT18 a j ha) (by exact hB_138) (by rw [eS_138, eS_120, e_119, e_137, eS_120, uM_nk (by omega), hT18 18 d (by omega), hT18 19 d (by omega)]; exact IV_span hIT (hspd d (by omega)).1 (hspd d (by omega)).2) (by omega))
          exact j_sub [1, 2, 0] rfl (L97 6 _ _ (by omega) (by rfl) (by intro a j ha; rw [← hZ_11]) (by exact hB_11) (by exact hI11) (by omega))
        · refine j_bipush (v := (-3)) X dX7_loadBookings_91 (by decide) ?_
          exact j_ireturn X E (S_11) rfl ⟨_, rfl, by simp only [ldR, tn, hcl, c_5, if_true]; rw [if_pos c_18, if_pos (by rw [c_88] at hcm; simpa using hcm.symm)], by simp only [ldS, tn, hcl, c_5, if_true]; rw [if_pos c_18, if_pos (by rw [c_88] at hcm; simpa using hcm.symm)]; exact hA_11, hB_11, hI11⟩ dX7_loadBookings_93
      have L31 : ∀ (n : Nat) (d : Nat) (cn : Bool), (d ≤ 5) → (cn = andN (fun d => canHaveB S c d (rdZ S 18 d) (rdZ S 19 d)) d) → (S 3 c ≠ 1 → d = 0) → (5 + 1 ≤ d + n) → JJ K D 0 0 (WM h0 ad Y S_11) [(0, .ref h0), (1, .int (nI c)), (2, .int (-9)), (3, .int (bI cn)), (4, .int (nI d))] 31 [] := by
        intro n
        induction n with
        | zero =>
          intro d cn hd hcn hd0 hf31
          exact absurd hf31 (by omega)
        | succ n31 ih31 =>
          intro d cn hd hcn hd0 hf31
          refine j_iload X dX7_loadBookings_31 4 rfl ?_
          refine j_iconst (v := nI 5) X dX7_loadBookings_33 (by decide) ?_
          refine n_icmp_ge (tgt := 87) X dX7_loadBookings_34 (by decide) (by omega) (by omega) (fun c_34 => ?_) (fun c_34 => ?_)
          · have hd5 : d = 5 := by omega
            subst hd5
            have h31 : S 3 c = 1 := by rcases Nat.decEq (S 3 c) 1 with q | q; exact absurd (hd0 q) (by omega); exact q
            exact j_sub [0, 1, 2, 3] rfl (L87 _ (by rw [hcn]; simp [ldNo, h31]) )
          · refine j_aload_n X dX7_loadBookings_37 rfl 0 rfl ?_
            refine jm_get X 4 (by decide) rfl f_X7_19 dX7_loadBookings_38 ?_
            refine j_iload_n X dX7_loadBookings_41 rfl 1 rfl ?_
            refine jm_ald X hB_11 (by decide) (by show _ < 24; omega) dX7_loadBookings_42 (fun v_42 e_42 b_42 => ?_)
            refine j_iconst (v := nI 1) X dX7_loadBookings_43 (by decide) ?_
            have e42 : v_42 = S 3 c := by rw [e_42, hA_11.at (by omega)]
            refine n_icmp_ne (tgt := 87) X dX7_loadBookings_44 (by decide) (by omega) (by omega) (fun c_44 => ?_) (fun c_44 => ?_)
            · have h31 : S 3 c ≠ 1 := by omega
              have hd00 := hd0 h31
              subst hd00
              exact j_sub [0, 1, 2, 3] rfl (L87 _ (by rw [hcn]; simp [ldNo, h31, andN]) )
            · have L80 : ∀ (cb : Bool), (cb = (cn && canHaveB S c d (rdZ S 18 d) (rdZ S 19 d))) → JJ K D 0 0 (WM h0 ad Y S_11) [(0, .ref h0), (1, .int (nI c)), (2, .int (-9)), (4, .int (nI d))] 80 [.int (bI cb)] := by
                intro cb hcb
                refine j_istore_n X [(3, _), (0, _), (1, _), (2, _), (4, _)] dX7_loadBookings_80 rfl (by decide) rfl ?_
                refine n_iinc X [(4, _), (3, _), (0, _), (1, _), (2, _)] dX7_loadBookings_81 (q := 4) (b := 1) rfl (by decide) (by decide) rfl ?_
                refine j_goto (tgt := 31) X dX7_loadBookings_84 (by decide) ?_
                exact j_sub [2, 3, 4, 1, 0] rfl (ih31 _ _ (by omega) (by rw [andN, ← hcn]; exact hcb) (by intro q; omega) (by omega))
              refine j_iload_n X dX7_loadBookings_47 rfl 3 rfl ?_
              refine b_if_eq (tgt := 79) X dX7_loadBookings_48 (by decide) (fun c_48 => ?_) (fun c_48 => ?_)
              · refine j_iconst (v := bI false) X dX7_loadBookings_79 (by decide) ?_
                exact j_sub [0, 1, 2, 4] rfl (L80 _ (by rw [c_48]; rfl) )
              · refine j_aload_n X dX7_loadBookings_51 rfl 0 rfl ?_
                refine j_iload_n X dX7_loadBookings_52 rfl 1 rfl ?_
                refine j_iload X dX7_loadBookings_53 4 rfl ?_
                refine j_aload_n X dX7_loadBookings_55 rfl 0 rfl ?_
                refine jm_get X 22 (by decide) rfl f_X7_68 dX7_loadBookings_56 ?_
                refine j_iload X dX7_loadBookings_59 4 rfl ?_
                refine jm_ald X hB_11 (by decide) (by show _ < 5; omega) dX7_loadBookings_61 (fun v_61 e_61 b_61 => ?_)
                refine j_aload_n X dX7_loadBookings_62 rfl 0 rfl ?_
                refine jm_get X 23 (by decide) rfl f_X7_71 dX7_loadBookings_63 ?_
                refine j_iload X dX7_loadBookings_66 4 rfl ?_
                refine jm_ald X hB_11 (by decide) (by show _ < 5; omega) dX7_loadBookings_68 (fun v_68 e_68 b_68 => ?_)
                have f61 : v_61 = rdZ S 18 d := by rw [e_61, hZ_11]
                have f68 : v_68 = rdZ S 19 d := by rw [e_68, hZ_11]
                have hsq := hspd d (by omega)
                refine jm_callI4 X hR (m_X7_canHave S_11 hB_11 hI11 _ _ _ _ (by omega) (by omega) (by omega) (by omega)) m_X7_123 rfl (by decide) (by decide) (Nat.le_of_ble_eq_true rfl) ⟨by decide, by decide⟩ dX7_loadBookings_69 ?_
                rintro _ _ ⟨rfl, rfl⟩
                refine b_if_eq (tgt := 79) X dX7_loadBookings_72 (by decide) (fun c_72 => ?_) (fun c_72 => ?_)
                · rw [hA_11.chv, f61, f68] at c_72
                  refine j_iconst (v := bI false) X dX7_loadBookings_79 (by decide) ?_
                  exact j_sub [0, 1, 2, 4] rfl (L80 _ (by rw [c_48, c_72]; rfl) )
                · rw [hA_11.chv, f61, f68] at c_72
                  refine j_iconst (v := bI true) X dX7_loadBookings_75 (by decide) ?_
                  refine j_goto (tgt := 80) X dX7_loadBookings_76 (by decide) ?_
                  exact j_sub [0, 1, 2, 4] rfl (L80 _ (by rw [c_48, c_72]; rfl) )
      exact j_sub [3, 4, 2, 1, 0] rfl (L31 6 _ _ (by omega) (by rfl) (by intro _; rfl) (by omega))
    · refine j_bipush (v := (-10)) X dX7_loadBookings_21 (by decide) ?_
      refine j_iload_n X dX7_loadBookings_23 rfl 0 rfl ?_
      refine j_isub X dX7_loadBookings_24 ?_
      exact j_ireturn X E (S_11) rfl ⟨_, rfl, by simp only [ldR, c_5, if_true]; rw [if_neg c_18], by simp only [ldS, c_5, if_true]; rw [if_neg c_18]; exact hA_11, hB_11, hI11⟩ dX7_loadBookings_25
  · refine j_iconst (v := (-1)) X dX7_loadBookings_8 (by decide) ?_
    exact j_ireturn X E (S) rfl ⟨_, rfl, by simp [ldR, c_5], by simp [ldS, c_5]; exact AG.refl _, hB, hI⟩ dX7_loadBookings_9
