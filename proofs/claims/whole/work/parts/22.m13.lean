set_option maxRecDepth 100000 in
set_option maxHeartbeats 4000000 in
theorem m_X7_cover (S : MS) (hB : BD S) (hI : IV S) (x : Int32) : MM zX7_cover 6 [.int x] S (pA (covR S x) (covS S x)) := by
  intro D Y h0 ad
  refine MT.of [(0, .ref h0), (1, .int x)] (by decide) rfl (Nat.le_of_ble_eq_true rfl) ?_
  intro K hR X E
  refine j_iload_n X dX7_cover_0 rfl 1 rfl ?_
  refine jst_call1 X hR (m_X7_isWeek _) m_X7_151 (by decide) (by decide) (Nat.le_of_ble_eq_true rfl) ⟨by decide, by decide⟩ dX7_cover_1 ?_
  refine b_if_ne (tgt := 9) X dX7_cover_4 (by decide) (fun c_4 => ?_) (fun c_4 => ?_)
  · obtain ⟨w, hw, rfl⟩ := within_0 (n := 51) (by decide) c_4
    have hwl := nI_clamp (n := w) (by omega)
    refine j_aload_n X dX7_cover_9 rfl 0 rfl ?_
    refine j_iload_n X dX7_cover_10 rfl 1 rfl ?_
    refine jm_callI1 X hR (m_X7_findCosts S hB hI _ (by omega)) m_X7_187 rfl (by decide) (by decide) (Nat.le_of_ble_eq_true rfl) ⟨by decide, by decide⟩ dX7_cover_11 ?_
    rintro _ S_11 ⟨rfl, hA_11, hB_11, ht_11⟩
    have hcv := cvN_le S w 5 0
    refine j_istore_n X [(2, _), (0, _), (1, _)] dX7_cover_14 rfl (by decide) rfl ?_
    refine j_iload_n X dX7_cover_15 rfl 0 rfl ?_
    refine j_ldc X k_X7_180 dX7_cover_16 ?_
    rw [show (1000000 : Int32) = nI 1000000 from by decide]
    refine n_icmp_lt (tgt := 24) X dX7_cover_18 (by decide) (by omega) (by omega) (fun c_18 => ?_) (fun c_18 => ?_)
    · refine j_iconst (v := nI 0) X dX7_cover_24 (by decide) ?_
      refine j_istore_n X [(3, _), (2, _), (0, _), (1, _)] dX7_cover_25 rfl (by decide) rfl ?_
      refine j_iconst (v := nI 0) X dX7_cover_26 (by decide) ?_
      refine j_istore X [(4, _), (3, _), (2, _), (0, _), (1, _)] dX7_cover_27 (by decide) rfl ?_
      have L29 : ∀ (n : Nat) (d u : Nat) (T : MS), (d ≤ 5) → (u = usA S w d) → (cvN S w (5 - d) u < 1000000) → (u < 1296) → (AG T (kpS S w d)) → (∀ j, j ≤ 5 → ∀ v, v < 1296 → T 20 (1296 * (5 - j) + v) = cvN S w j v) → (BD T) → (IV T) → (5 + 1 ≤ d + n) → JJ K D 0 0 (WM h0 ad Y T) [(0, .ref h0), (1, .int (nI w)), (2, .int (nI (cvN S w 5 0))), (3, .int (nI u)), (4, .int (nI d))] 29 [] := by
        intro n
        induction n with
        | zero =>
          intro d u T hd hu hlt hul hAT htb hBT hIT hf29
          exact absurd hf29 (by omega)
        | succ n29 ih29 =>
          intro d u T hd hu hlt hul hAT htb hBT hIT hf29
          refine j_iload X dX7_cover_29 4 rfl ?_
          refine j_iconst (v := nI 5) X dX7_cover_31 (by decide) ?_
          refine n_icmp_ge (tgt := 138) X dX7_cover_32 (by decide) (by omega) (by omega) (fun c_32 => ?_) (fun c_32 => ?_)
          · have hd5 : d = 5 := by omega
            subst hd5
            refine j_iload_n X dX7_cover_138 rfl 2 rfl ?_
            exact j_ireturn X E (T) rfl ⟨_, rfl, by simp only [covR, tn, c_4, hwl, if_true]; rw [if_pos (by omega)], by simp only [covS, tn, c_4, hwl, if_true]; rw [if_pos (by omega)]; exact hAT, hBT, hIT⟩ dX7_cover_139
          · refine j_aload_n X dX7_cover_35 rfl 0 rfl ?_
            refine j_iload_n X dX7_cover_36 rfl 1 rfl ?_
            refine j_iload X dX7_cover_37 4 rfl ?_
            refine jm_callI2 X hR (m_X7_shortageOf T hBT hIT _ _ (by omega) (by omega)) m_X7_174 rfl (by decide) (by decide) (Nat.le_of_ble_eq_true rfl) ⟨by decide, by decide⟩ dX7_cover_39 ?_
            rintro _ _ ⟨v_39, e_39, b_39, rfl, rfl⟩
            have hAC : AC T S := (hAT.ac).trans (kpS_ac S w d)
            have hsh : v_39 = shN S w d := by rw [e_39, hAC.sh]
            refine j_istore X [(5, _), (0, _), (1, _), (2, _), (3, _), (4, _)] dX7_cover_42 (by decide) rfl ?_
            refine j_iconst (v := nI 0) X dX7_cover_44 (by decide) ?_
            refine j_istore X [(6, _), (5, _), (0, _), (1, _), (2, _), (3, _), (4, _)] dX7_cover_45 (by decide) rfl ?_
            have L47 : ∀ (n : Nat) (set : Nat), (set ≤ 16) → (frP (gdB S w d u) (16 - set) set = chN S w d u) → (∀ s, s < set → gdB S w d u s = false) → (16 + 1 ≤ set + n) → JJ K D 0 0 (WM h0 ad Y T) [(0, .ref h0), (1, .int (nI w)), (2, .int (nI (cvN S w 5 0))), (3, .int (nI u)), (4, .int (nI d)), (5, .int (nI v_39)), (6, .int (nI set))] 47 [] := by
              intro n
              induction n with
              | zero =>
                intro set hset hfr hno hf47
                exact absurd hf47 (by omega)
              | succ n47 ih47 =>
                intro set hset hfr hno hf47
                have hs16 : set < 16 := by
                  rcases Nat.lt_or_ge set 16 with q | q
                  · exact q
                  · obtain ⟨s, h1, h2⟩ := gd_ex (by omega) hlt
                    rw [hno s (by omega)] at h2
                    cases h2
                refine j_aload_n X dX7_cover_47 rfl 0 rfl ?_
                refine j_iload X dX7_cover_48 6 rfl ?_
                refine j_iload X dX7_cover_50 4 rfl ?_
                refine j_iload_n X dX7_cover_52 rfl 3 rfl ?_
                refine j_iload X dX7_cover_53 5 rfl ?_
                refine jm_callI4 X hR (m_X7_canBeGiven T hBT _ _ _ _ (by omega) (by omega) (by omega) (by omega)) m_X7_181 rfl (by decide) (by decide) (Nat.le_of_ble_eq_true rfl) ⟨by decide, by decide⟩ dX7_cover_55 ?_
                rintro _ _ ⟨rfl, rfl⟩
                refine b_if_eq (tgt := 86) X dX7_cover_58 (by decide) (fun c_58 => ?_) (fun c_58 => ?_)
                · have hng : gdB S w d u set = false := by unfold gdB; rw [← hsh, ← hAC.giv, c_58]; rfl
                  refine n_iinc X [(6, _), (0, _), (1, _), (2, _), (3, _), (4, _), (5, _)] dX7_cover_86 (q := 6) (b := 1) rfl (by decide) (by decide) rfl ?_
                  refine j_goto (tgt := 47) X dX7_cover_89 (by decide) ?_
                  exact j_sub [1, 2, 3, 4, 5, 6, 0] rfl (ih47 _ (by omega) (by rw [← hfr, show 16 - set = (16 - (set + 1)) + 1 by omega, frP, hng]; rfl) (by intro s hs; rcases Nat.lt_succ_iff_lt_or_eq.mp hs with q | q; exact hno s q; subst q; exact hng) (by omega))
                · have huok := uses_ok hIT (by omega) (by omega) c_58
                  refine j_aload_n X dX7_cover_61 rfl 0 rfl ?_
                  refine j_iload X dX7_cover_62 6 rfl ?_
                  refine j_iload X dX7_cover_64 4 rfl ?_
                  refine j_iload_n X dX7_cover_66 rfl 3 rfl ?_
                  refine jm_callI3 X hR (m_X7_costWith T hBT hIT _ _ _ (by omega) (by omega) (by exact uses_ok hIT (by omega) (by omega) c_58)) m_X7_184 rfl (by decide) (by decide) (Nat.le_of_ble_eq_true rfl) ⟨by decide, by decide⟩ dX7_cover_67 ?_
                  rintro _ _ ⟨v_67, e_67, b_67, rfl, rfl⟩
                  refine j_aload_n X dX7_cover_70 rfl 0 rfl ?_
                  refine jm_get X 24 (by decide) rfl f_X7_74 dX7_cover_71 ?_
                  refine j_sipush (v := nI 1296) X dX7_cover_74 (by decide) ?_
                  refine j_iload X dX7_cover_77 4 rfl ?_
                  refine n_imul X dX7_cover_79 ?_
                  refine j_iload_n X dX7_cover_80 rfl 3 rfl ?_
                  refine n_iadd X dX7_cover_81 ?_
                  refine jm_ald X hBT (by decide) (by show _ < 7776; omega) dX7_cover_82 (fun v_82 e_82 b_82 => ?_)
                  have e67 : v_67 = cstN S set + cvN S w (4 - d) (u + usN set) := by rw [e_67, hAC.cst, ← htb (4 - d) (by omega) _ huok, show 5 - (4 - d) = d + 1 by omega]
                  have e82 : v_82 = cvN S w (5 - d) u := by rw [e_82, ← htb (5 - d) (by omega) _ (by omega), show 5 - (5 - d) = d by omega]
                  refine n_icmp_eq (tgt := 92) X dX7_cover_83 (by decide) (by omega) (by omega) (fun c_83 => ?_) (fun c_83 => ?_)
                  · have hgd : gdB S w d u set = true := by unfold gdB; rw [← e67, ← e82, ← hsh, ← hAC.giv, c_58]; exact decide_eq_true c_83
                    have hch : chN S w d u = set := by rw [← hfr, show 16 - set = (16 - set - 1) + 1 by omega, frP, hgd]; rfl
                    refine j_aload_n X dX7_cover_92 rfl 0 rfl ?_
                    refine jm_get X 19 (by decide) rfl f_X7_62 dX7_cover_93 ?_
                    refine j_iload X dX7_cover_96 4 rfl ?_
                    refine j_iload X dX7_cover_98 6 rfl ?_
                    refine jm_ast2 X hBT (by decide) (by show _ < 5; omega) (by omega) dX7_cover_100 (fun S_100 eS_100 hB_100 => ?_)
                    refine j_iconst (v := nI 0) X dX7_cover_101 (by decide) ?_
                    refine j_istore X [(7, _), (0, _), (1, _), (2, _), (3, _), (4, _), (5, _), (6, _)] dX7_cover_102 (by decide) rfl ?_
                    have L104 : ∀ (n : Nat) (k uu : Nat), (k ≤ 4) → (uu = u + sm (fun k => bitN set k * pwN k) k) → (4 + 1 ≤ k + n) → JJ K D 0 0 (WM h0 ad Y S_100) [(0, .ref h0), (1, .int (nI w)), (2, .int (nI (cvN S w 5 0))), (3, .int (nI uu)), (4, .int (nI d)), (6, .int (nI set)), (7, .int (nI k))] 104 [] := by
                      intro n
                      induction n with
                      | zero =>
                        intro k uu hk huu hf104
                        exact absurd hf104 (by omega)
                      | succ n104 ih104 =>
                        intro k uu hk huu hf104
                        refine j_iload X dX7_cover_104 6 rfl ?_
                        refine j_iconst (v := nI 4) X dX7_cover_106 (by decide) ?_
                        refine n_icmp_ge (tgt := 132) X dX7_cover_107 (by decide) (by omega) (by omega) (fun c_107 => ?_) (fun c_107 => ?_)
                        · have hk4 : k = 4 := by omega
                          subst hk4
                          have huu : uu = u + usN set := huu
                          refine n_iinc X [(4, _), (0, _), (1, _), (2, _), (3, _), (6, _), (7, _)] dX7_cover_132 (q := 4) (b := 1) rfl (by decide) (by decide) rfl ?_
                          refine j_goto (tgt := 29) X dX7_cover_135 (by decide) ?_
                          exact j_sub [1, 2, 3, 4, 0] rfl (ih29 (d + 1) _ _ (by omega) (by rw [usA, ← hu, hch]; exact huu) (by rw [huu, show 5 - (d + 1) = 4 - d by omega]; omega) (by rw [huu]; exact huok) (by rw [← kpS_s, eS_100, ← hu, hch]; exact AG_u hAT) (by intro j hj v hv; rw [eS_100, uM_nk (by omega)]; exact htb j hj v hv) (by exact hB_100) (by rw [eS_100]; exact IV_kept hIT) (by omega))
                        · refine j_iload_n X dX7_cover_110 rfl 3 rfl ?_
                          refine j_iload X dX7_cover_111 5 rfl ?_
                          refine j_iload X dX7_cover_113 6 rfl ?_
                          refine j_ishr X dX7_cover_115 ?_
                          have hbl := bitN_le set k
                          have hpw := pwN_pos k
                          refine j_iconst (v := nI 1) X dX7_cover_116 (by decide) ?_
                          refine j_iand X dX7_cover_117 ?_
                          refine z_as (nI (bitN set k)) (bit_at (by omega) (by omega)) ?_
                          refine j_iload X dX7_cover_118 6 rfl ?_
                          refine jst_call1 X hR (m_X7_power _ (by omega)) m_X7_177 (by decide) (by decide) (Nat.le_of_ble_eq_true rfl) ⟨by decide, by decide⟩ dX7_cover_120 ?_
                          refine n_imul X dX7_cover_123 ?_
                          refine n_iadd X dX7_cover_124 ?_
                          refine j_istore_n X [(3, _), (0, _), (1, _), (2, _), (4, _), (6, _), (7, _)] dX7_cover_125 rfl (by decide) rfl ?_
                          refine n_iinc X [(7, _), (3, _), (0, _), (1, _), (2, _), (4, _), (6, _)] dX7_cover_126 (q := 6) (b := 1) rfl (by decide) (by decide) rfl ?_
                          refine j_goto (tgt := 104) X dX7_cover_129 (by decide) ?_
                          exact j_sub [2, 3, 4, 1, 5, 6, 0] rfl (ih104 _ _ (by omega) (by simp only [sm_s]; omega) (by omega))
                    exact j_sub [1, 2, 3, 4, 5, 7, 0] rfl (L104 5 _ _ (by omega) (by rfl) (by omega))
                  · have hng : gdB S w d u set = false := by unfold gdB; rw [← e67, ← e82, decide_eq_false (by omega), Bool.and_false]
                    refine n_iinc X [(6, _), (0, _), (1, _), (2, _), (3, _), (4, _), (5, _)] dX7_cover_86 (q := 6) (b := 1) rfl (by decide) (by decide) rfl ?_
                    refine j_goto (tgt := 47) X dX7_cover_89 (by decide) ?_
                    exact j_sub [1, 2, 3, 4, 5, 6, 0] rfl (ih47 _ (by omega) (by rw [← hfr, show 16 - set = (16 - (set + 1)) + 1 by omega, frP, hng]; rfl) (by intro s hs; rcases Nat.lt_succ_iff_lt_or_eq.mp hs with q | q; exact hno s q; subst q; exact hng) (by omega))
            exact j_sub [2, 3, 4, 5, 6, 1, 0] rfl (L47 17 _ (by omega) (by rfl) (by intro s hs; omega) (by omega))
      exact j_sub [3, 4, 2, 1, 0] rfl (L29 6 0 0 _ (by omega) (by rfl) (by omega) (by omega) (by rw [kpS_0]; exact hA_11) (by exact ht_11) (by exact hB_11) (by exact AG.iv (AG.symm hA_11) hI) (by omega))
    · have hI2 : IV S_11 := AG.iv (AG.symm hA_11) hI
      refine j_bipush (v := (-2)) X dX7_cover_21 (by decide) ?_
      exact j_ireturn X E (S_11) rfl ⟨_, rfl, by simp [covR, tn, c_4, hwl]; omega, by simp only [covS, tn, c_4, hwl, if_true]; rw [if_neg (by omega)]; exact hA_11, hB_11, hI2⟩ dX7_cover_23
  · refine j_iconst (v := (-1)) X dX7_cover_7 (by decide) ?_
    exact j_ireturn X E (S) rfl ⟨_, rfl, by simp [covR, c_4], by simp [covS, c_4]; rfl, hB, hI⟩ dX7_cover_8
set_option maxRecDepth 100000 in
set_option maxHeartbeats 4000000 in
theorem m_X7_cheapestHoliday (S : MS) (hB : BD S) (hI : IV S) (x : Int32) : MM zX7_cheapestHoliday 6 [.int x] S (pA (chpR S x) S) := by
  intro D Y h0 ad
  refine MT.of [(0, .ref h0), (1, .int x)] (by decide) rfl (Nat.le_of_ble_eq_true rfl) ?_
  intro K hR X E
  refine j_aload_n X dX7_cheapestHoliday_0 rfl 0 rfl ?_
  refine j_iload_n X dX7_cheapestHoliday_1 rfl 1 rfl ?_
  refine jm_callI1 X hR (m_X7_hasEducator S hB _) m_X7_148 rfl (by decide) (by decide) (Nat.le_of_ble_eq_true rfl) ⟨by decide, by decide⟩ dX7_cheapestHoliday_2 ?_
  rintro _ _ ⟨rfl, rfl⟩
  refine b_if_ne (tgt := 10) X dX7_cheapestHoliday_5 (by decide) (fun c_5 => ?_) (fun c_5 => ?_)
  · obtain ⟨c, hc, rfl, h7c⟩ := hasE_of c_5
    have hcl := nI_clamp (n := c) (by omega)
    refine j_bipush (v := (-9)) X dX7_cheapestHoliday_10 (by decide) ?_
    refine j_istore_n X [(2, _), (0, _), (1, _)] dX7_cheapestHoliday_12 rfl (by decide) rfl ?_
    refine j_ldc X k_X7_180 dX7_cheapestHoliday_13 ?_
    rw [show (1000000 : Int32) = nI 1000000 from by decide]
    refine j_istore_n X [(3, _), (2, _), (0, _), (1, _)] dX7_cheapestHoliday_15 rfl (by decide) rfl ?_
    refine j_iconst (v := nI 0) X dX7_cheapestHoliday_16 (by decide) ?_
    refine j_istore X [(4, _), (3, _), (2, _), (0, _), (1, _)] dX7_cheapestHoliday_17 (by decide) rfl ?_
    have L19 : ∀ (n : Nat) (w ls : Nat) (o : Option Nat) (T : MS), (w ≤ 52) → (chp S c w = (o, ls)) → (ls ≤ 1000000) → (AG T S) → (BD T) → (IV T) → (52 + 1 ≤ w + n) → JJ K D 0 0 (WM h0 ad Y T) [(0, .ref h0), (1, .int (nI c)), (2, .int (oI o)), (3, .int (nI ls)), (4, .int (nI w))] 19 [] := by
      intro n
      induction n with
      | zero =>
        intro w ls o T hw hcp hlb hAT hBT hIT hf19
        exact absurd hf19 (by omega)
      | succ n19 ih19 =>
        intro w ls o T hw hcp hlb hAT hBT hIT hf19
        refine j_iload X dX7_cheapestHoliday_19 4 rfl ?_
        refine j_bipush (v := nI 52) X dX7_cheapestHoliday_21 (by decide) ?_
        refine n_icmp_ge (tgt := 107) X dX7_cheapestHoliday_23 (by decide) (by omega) (by omega) (fun c_23 => ?_) (fun c_23 => ?_)
        · have hw52 : w = 52 := by omega
          subst hw52
          refine j_iload_n X dX7_cheapestHoliday_107 rfl 2 rfl ?_
          exact j_ireturn X E (T) rfl ⟨_, rfl, by simp only [chpR, tn, c_5, hcl, if_true]; rw [hcp], hAT, hBT, hIT⟩ dX7_cheapestHoliday_108
        · refine j_aload_n X dX7_cheapestHoliday_26 rfl 0 rfl ?_
          refine jm_get X 11 (by decide) rfl f_X7_40 dX7_cheapestHoliday_27 ?_
          refine j_bipush (v := nI 52) X dX7_cheapestHoliday_30 (by decide) ?_
          refine j_iload_n X dX7_cheapestHoliday_32 rfl 1 rfl ?_
          refine n_imul X dX7_cheapestHoliday_33 ?_
          refine j_iload X dX7_cheapestHoliday_34 4 rfl ?_
          refine n_iadd X dX7_cheapestHoliday_36 ?_
          refine jm_ald X hBT (by decide) (by show _ < 416; omega) dX7_cheapestHoliday_37 (fun v_37 e_37 b_37 => ?_)
          have h10 : v_37 = S 10 (52 * c + w) := by rw [e_37, hAT.at (by omega)]
          refine n_if_ne (tgt := 101) X dX7_cheapestHoliday_38 (by decide) (by omega) (fun c_38 => ?_) (fun c_38 => ?_)
          · refine n_iinc X [(4, _), (0, _), (1, _), (2, _), (3, _)] dX7_cheapestHoliday_101 (q := 4) (b := 1) rfl (by decide) (by decide) rfl ?_
            refine j_goto (tgt := 19) X dX7_cheapestHoliday_104 (by decide) ?_
            exact j_sub [1, 2, 3, 4, 0] rfl (ih19 (w + 1) _ o _ (by omega) (by rw [chp_s, if_neg (by omega)]; exact hcp) (by omega) (by exact hAT) (by exact hBT) (by exact hIT) (by omega))
          · refine j_aload_n X dX7_cheapestHoliday_41 rfl 0 rfl ?_
            refine jm_get X 11 (by decide) rfl f_X7_40 dX7_cheapestHoliday_42 ?_
            refine j_bipush (v := nI 52) X dX7_cheapestHoliday_45 (by decide) ?_
            refine j_iload_n X dX7_cheapestHoliday_47 rfl 1 rfl ?_
            refine n_imul X dX7_cheapestHoliday_48 ?_
            refine j_iload X dX7_cheapestHoliday_49 4 rfl ?_
            refine n_iadd X dX7_cheapestHoliday_51 ?_
            refine j_iconst (v := nI 1) X dX7_cheapestHoliday_52 (by decide) ?_
            refine jm_ast2 X hBT (by decide) (by show _ < 416; omega) (by omega) dX7_cheapestHoliday_53 (fun S_53 eS_53 hB_53 => ?_)
            have hI53 : IV S_53 := by rw [eS_53]; exact IV_hol hIT (by omega)
            have hcw : cvN S_53 w 5 0 = chw S c w := by rw [eS_53]; exact (AG_u hAT).cv w 5 0
            refine j_aload_n X dX7_cheapestHoliday_54 rfl 0 rfl ?_
            refine j_iload X dX7_cheapestHoliday_55 4 rfl ?_
            refine jm_callI1 X hR (m_X7_findCosts S_53 hB_53 hI53 _ (by omega)) m_X7_187 rfl (by decide) (by decide) (Nat.le_of_ble_eq_true rfl) ⟨by decide, by decide⟩ dX7_cheapestHoliday_57 ?_
            rintro _ S_57 ⟨rfl, hA_57, hB_57, ht_57⟩
            have hcb := cvN_le S_53 w 5 0
            refine j_istore X [(5, _), (0, _), (1, _), (2, _), (3, _), (4, _)] dX7_cheapestHoliday_60 (by decide) rfl ?_
            refine j_aload_n X dX7_cheapestHoliday_62 rfl 1 rfl ?_
            refine jm_get X 11 (by decide) rfl f_X7_40 dX7_cheapestHoliday_63 ?_
            refine j_bipush (v := nI 52) X dX7_cheapestHoliday_66 (by decide) ?_
            refine j_iload_n X dX7_cheapestHoliday_68 rfl 2 rfl ?_
            refine n_imul X dX7_cheapestHoliday_69 ?_
            refine j_iload X dX7_cheapestHoliday_70 5 rfl ?_
            refine n_iadd X dX7_cheapestHoliday_72 ?_
            refine j_iconst (v := nI 0) X dX7_cheapestHoliday_73 (by decide) ?_
            refine jm_ast2 X hB_57 (by decide) (by show _ < 416; omega) (by omega) dX7_cheapestHoliday_74 (fun S_74 eS_74 hB_74 => ?_)
            have hA74 : AG S_74 S := by rw [eS_74]; exact hol_back (hA_57.trans (by rw [eS_53]; exact AG_u hAT)) (by omega)
            have hI74 : IV S_74 := AG.iv (AG.symm hA74) hI
            refine j_iload X dX7_cheapestHoliday_75 0 rfl ?_
            have L87 : ∀ (o2 : Option Nat), (o2 = if chw S c w < ls then some w else o) → JJ K D 0 0 (WM h0 ad Y S_74) [(0, .ref h0), (1, .int (nI c)), (3, .int (nI ls)), (4, .int (nI w)), (5, .int (nI (cvN S_53 w 5 0)))] 87 [.int (oI o2)] := by
              intro o2 ho2
              refine j_istore_n X [(2, _), (0, _), (1, _), (3, _), (4, _), (5, _)] dX7_cheapestHoliday_87 rfl (by decide) rfl ?_
              refine j_iload X dX7_cheapestHoliday_88 5 rfl ?_
              refine j_iload_n X dX7_cheapestHoliday_90 rfl 3 rfl ?_
              refine n_icmp_ge (tgt := 99) X dX7_cheapestHoliday_91 (by decide) (by omega) (by omega) (fun c_91 => ?_) (fun c_91 => ?_)
              · refine j_iload_n X dX7_cheapestHoliday_99 rfl 3 rfl ?_
                refine j_istore_n X [(3, _), (2, _), (0, _), (1, _), (4, _), (5, _)] dX7_cheapestHoliday_100 rfl (by decide) rfl ?_
                refine n_iinc X [(4, _), (3, _), (2, _), (0, _), (1, _), (5, _)] dX7_cheapestHoliday_101 (q := 4) (b := 1) rfl (by decide) (by decide) rfl ?_
                refine j_goto (tgt := 19) X dX7_cheapestHoliday_104 (by decide) ?_
                exact j_sub [3, 4, 2, 1, 0] rfl (ih19 (w + 1) _ o2 _ (by omega) (by rw [if_neg (by omega)] at ho2; rw [chp_s, if_pos (by omega), hcp, if_neg (show ¬ chw S c w < ls by omega), ho2]) (by omega) (by exact hA74) (by exact hB_74) (by exact hI74) (by omega))
              · refine j_iload X dX7_cheapestHoliday_94 5 rfl ?_
                refine j_goto (tgt := 100) X dX7_cheapestHoliday_96 (by decide) ?_
                refine j_istore_n X [(3, _), (2, _), (0, _), (1, _), (4, _), (5, _)] dX7_cheapestHoliday_100 rfl (by decide) rfl ?_
                refine n_iinc X [(4, _), (3, _), (2, _), (0, _), (1, _), (5, _)] dX7_cheapestHoliday_101 (q := 4) (b := 1) rfl (by decide) (by decide) rfl ?_
                refine j_goto (tgt := 19) X dX7_cheapestHoliday_104 (by decide) ?_
                exact j_sub [3, 4, 2, 1, 0] rfl (ih19 (w + 1) _ o2 _ (by omega) (by rw [if_pos (by omega)] at ho2; rw [chp_s, if_pos (by omega), hcp, if_pos (show chw S c w < ls by omega), ho2, hcw]) (by omega) (by exact hA74) (by exact hB_74) (by exact hI74) (by omega))
            refine j_iload_n X dX7_cheapestHoliday_77 rfl 4 rfl ?_
            refine n_icmp_ge (tgt := 86) X dX7_cheapestHoliday_78 (by decide) (by omega) (by omega) (fun c_78 => ?_) (fun c_78 => ?_)
            · refine j_iload_n X dX7_cheapestHoliday_86 rfl 3 rfl ?_
              exact j_sub [1, 2, 4, 5, 0] rfl (L87 o (by rw [if_neg (by omega)]) )
            · refine j_iload X dX7_cheapestHoliday_81 5 rfl ?_
              refine j_goto (tgt := 87) X dX7_cheapestHoliday_83 (by decide) ?_
              exact j_sub [1, 2, 4, 5, 0] rfl (L87 (some w) (by rw [if_pos (by omega)]) )
    exact j_sub [3, 4, 2, 1, 0] rfl (L19 53 0 _ none _ (by omega) (by rfl) (by omega) (by rfl) (by exact hB) (by exact hI) (by omega))
  · refine j_iconst (v := (-1)) X dX7_cheapestHoliday_8 (by decide) ?_
    exact j_ireturn X E (S) rfl ⟨_, rfl, by simp [chpR, c_5], AG.refl _, hB, hI⟩ dX7_cheapestHoliday_9
