set_option maxRecDepth 100000 in
set_option maxHeartbeats 4000000 in
theorem m_X4_append {S : MS} {T : CT} {e : CE} (hR : RR S T e) (k : Nat) (hk : k < 127) : CF zX4_append 13 1 0 0 [.int (nI k)] (T, e) (pI (fun r u => bI (decide (S 21 3 < 60)) = r ∧ RR (if S 21 3 < 60 then (uM (uM S 17 (S 21 3) k) 21 3 (S 21 3 + 1)) else S) u.1 u.2)) := by
  intro D Y ad
  refine MT.of [(0, .ref (ad 13)), (1, .int (nI k))] (by decide) rfl (Nat.le_of_ble_eq_true rfl) ?_
  intro K hK X E
  refine j_aload_n X dX4_append_0 rfl 0 rfl ?_
  refine j_getf X ly_X4 4 rfl rfl 1 (by decide) f_X4_15 rfl dX4_append_1 ?_
  refine z_as (nI (S 21 3)) hR.len ?_
  refine n_name (fun v_1 e_1 => ?_)
  have b_1 : v_1 < 16777216 := by rw [e_1]; exact hR.hB _ _
  refine j_aload_n X dX4_append_4 rfl 0 rfl ?_
  refine j_getf X ly_X4 4 rfl rfl 0 (by decide) f_X4_9 rfl dX4_append_5 ?_
  refine jc_len3 X dX4_append_8 ?_
  refine n_icmp_lt (tgt := 14) X dX4_append_9 (by decide) (by omega) (by omega) (fun c_9 => ?_) (fun c_9 => ?_)
  · refine j_aload_n X dX4_append_14 rfl 0 rfl ?_
    refine j_getf X ly_X4 4 rfl rfl 0 (by decide) f_X4_9 rfl dX4_append_15 ?_
    refine j_aload_n X dX4_append_18 rfl 0 rfl ?_
    refine j_getf X ly_X4 4 rfl rfl 1 (by decide) f_X4_15 rfl dX4_append_19 ?_
    refine z_as (nI (S 21 3)) hR.len ?_
    refine n_name (fun v_19 e_19 => ?_)
    have b_19 : v_19 < 16777216 := by rw [e_19]; exact hR.hB _ _
    refine j_iload_n X dX4_append_22 rfl 1 rfl ?_
    refine jc_cast X (by omega) (nar_n k hk) dX4_append_23 (fun T_23 eT_23 => ?_)
    have hR23 : RR (uM S 17 (S 21 3) k) T_23 e := by rw [eT_23, e_19]; exact hR.row (BD_u hR.hB (by omega)) (IV_text hR.hI) (rows_17 hR.2.2.1) (fun a j ha => uM_nk (by omega)) (uM_nk (by omega))
    refine j_aload_n X dX4_append_24 rfl 0 rfl ?_
    refine j_dup X dX4_append_25 rfl ?_
    refine j_getf X ly_X4 4 rfl rfl 1 (by decide) f_X4_15 rfl dX4_append_26 ?_
    refine z_as (nI ((uM S 17 (S 21 3) k) 21 3)) hR23.len ?_
    refine n_name (fun v_26 e_26 => ?_)
    have b_26 : v_26 < 16777216 := by rw [e_26]; exact hR23.hB _ _
    refine j_iconst (v := nI 1) X dX4_append_29 (by decide) ?_
    refine n_iadd X dX4_append_30 ?_
    refine jc_put2 X f_X4_15 dX4_append_31 (fun T_31 eT_31 => ?_)
    have e26 : v_26 = S 21 3 := by rw [e_26, uM_nk (by omega)]
    have hlen : S 21 3 < 60 := by omega
    have hRn : RR (uM (uM S 17 (S 21 3) k) 21 3 (S 21 3 + 1)) T_31 e := by rw [eT_31, e26]; exact hR23.row (BD_u hR23.hB (by omega)) (IV_len hR23.hI (by omega)) (rows_21 hR23.2.2.1 (by decide)) (fun a j ha => uM_nk (by omega)) (uM_ni (by omega))
    refine j_iconst (v := bI true) X dX4_append_34 (by decide) ?_
    exact j_zreturn X E ((T_31, e)) rfl ⟨_, rfl, by rw [decide_eq_true hlen], by rw [if_pos hlen]; exact hRn⟩ dX4_append_35
  · refine j_iconst (v := bI false) X dX4_append_12 (by decide) ?_
    exact j_zreturn X E ((T, e)) rfl ⟨_, rfl, by rw [decide_eq_false (by omega)], by rw [if_neg (by omega)]; exact hR⟩ dX4_append_13
set_option maxRecDepth 100000 in
set_option maxHeartbeats 4000000 in
theorem m_X6_type {S : MS} {T : CT} {e : CE} (hR : RR S T e) (x : Int32) : CF zX6_type 16 2 0 0 [.int x] (T, e) (pR (typR S x) (typS S x)) := by
  intro D Y ad
  refine MT.of [(0, .ref (ad 16)), (1, .int x)] (by decide) rfl (Nat.le_of_ble_eq_true rfl) ?_
  intro K hK X E
  refine j_iload_n X dX6_type_0 rfl 1 rfl ?_
  refine j_bipush (v := nI 32) X dX6_type_1 (by decide) ?_
  refine j_icmp_lt (tgt := 12) X dX6_type_3 (by decide) (fun c_3 => ?_) (fun c_3 => ?_)
  · refine j_iconst (v := (-1)) X dX6_type_12 (by decide) ?_
    exact j_ireturn X E ((T, e)) rfl ⟨_, rfl, by unfold typR; rw [show withinI x (nI 32) (nI 126) = false from by exact wl c_3]; rfl, by unfold typS; rw [show withinI x (nI 32) (nI 126) = false from by exact wl c_3]; exact hR⟩ dX6_type_13
  · refine j_iload_n X dX6_type_6 rfl 1 rfl ?_
    refine j_bipush (v := nI 126) X dX6_type_7 (by decide) ?_
    refine j_icmp_le (tgt := 14) X dX6_type_9 (by decide) (fun c_9 => ?_) (fun c_9 => ?_)
    · have hy : withinI x (nI 32) (nI 126) = true := by unfold withinI; simp; exact ⟨i_nlt c_3, c_9⟩
      obtain ⟨k, hk1, hk2, rfl⟩ := within_of (lo := 32) (n := 126) (by decide) (by decide) hy
      have tk : tn (nI k) = k := nI_clamp (by omega)
      have hl60 := hR.hI.2.2.2.2.2.2.2.2.2.2.2
      refine j_aload_n X dX6_type_14 rfl 0 rfl ?_
      refine j_getf X ly_X6 0 rfl rfl 7 (by decide) f_X6_41 rfl dX6_type_15 ?_
      refine j_iload_n X dX6_type_18 rfl 1 rfl ?_
      refine j_i2c X dX6_type_19 ?_
      refine z_as (nI k) (i2c_n k (by omega)) ?_
      refine jc_call13I1 (mc := 0) (ms := 0) X hK (m_X4_append hR k (by omega)) m_X6_268 rfl (by decide) (by decide) (Nat.le_of_ble_eq_true rfl) ⟨by decide, by decide⟩ dX6_type_20 ?_
      rintro _ ⟨T_20, e_20⟩ ⟨rfl, hR_20⟩
      refine b_if_eq (tgt := 36) X dX6_type_23 (by decide) (fun c_23 => ?_) (fun c_23 => ?_)
      · have hlt : ¬ S 21 3 < 60 := of_decide_eq_false c_23
        rw [if_neg hlt] at hR_20
        have h60 : S 21 3 = 60 := by omega
        refine j_bipush (v := (-3)) X dX6_type_36 (by decide) ?_
        exact j_ireturn X E ((T_20, e_20)) rfl ⟨_, rfl, by unfold typR; rw [hy, if_pos rfl, if_pos h60], by unfold typS; rw [hy, if_pos rfl, if_pos h60]; exact hR_20⟩ dX6_type_38
      · have hlt : S 21 3 < 60 := of_decide_eq_true c_23
        rw [if_pos hlt] at hR_20
        have h60 : ¬ S 21 3 = 60 := by omega
        refine j_aload_n X dX6_type_26 rfl 0 rfl ?_
        refine j_getf X ly_X6 0 rfl rfl 7 (by decide) f_X6_41 rfl dX6_type_27 ?_
        refine j_getf X ly_X4 4 rfl rfl 1 (by decide) f_X6_272 rfl dX6_type_30 ?_
        refine z_as (nI ((uM (uM S 17 (S 21 3) k) 21 3 (S 21 3 + 1)) 21 3)) hR_20.len ?_
        refine n_name (fun v_30 e_30 => ?_)
        have b_30 : v_30 < 16777216 := by rw [e_30]; exact hR_20.hB _ _
        refine j_goto (tgt := 38) X dX6_type_33 (by decide) ?_
        exact j_ireturn X E ((T_20, e_20)) rfl ⟨_, rfl, by unfold typR; rw [hy, if_pos rfl, if_neg h60, e_30, uM_eq], by unfold typS; rw [hy, if_pos rfl, if_neg h60, tk]; exact hR_20⟩ dX6_type_38
    · refine j_iconst (v := (-1)) X dX6_type_12 (by decide) ?_
      exact j_ireturn X E ((T, e)) rfl ⟨_, rfl, by unfold typR; rw [show withinI x (nI 32) (nI 126) = false from by exact wh c_9]; rfl, by unfold typS; rw [show withinI x (nI 32) (nI 126) = false from by exact wh c_9]; exact hR⟩ dX6_type_13
set_option maxRecDepth 100000 in
set_option maxHeartbeats 4000000 in
theorem m_X4_read {S : MS} {T : CT} {e : CE} (hR : RR S T e) : CF zX4_read 13 3 0 0 [] (T, e) (pI (fun r u => ∃ bk : Int64, (T, wB e bk) = u ∧ RDE S r bk)) := by
  intro D Y ad
  refine MT.of [(0, .ref (ad 13))] (by decide) rfl (Nat.le_of_ble_eq_true rfl) ?_
  intro K hK X E
  have hl60 := hR.hI.2.2.2.2.2.2.2.2.2.2.2
  refine j_aload_n X dX4_read_0 rfl 0 rfl ?_
  refine j_lconst (v := lN 0) X dX4_read_1 (by decide) ?_
  refine jc_putB X f_X4_19 dX4_read_2 ?_
  refine j_iconst (v := (-1)) X dX4_read_5 (by decide) ?_
  refine j_istore_n X [(1, _), (0, _)] dX4_read_6 rfl (by decide) rfl ?_
  refine j_iconst (v := nI 0) X dX4_read_7 (by decide) ?_
  refine j_istore_n X [(2, _), (1, _), (0, _)] dX4_read_8 rfl (by decide) rfl ?_
  refine j_iconst (v := nI 0) X dX4_read_9 (by decide) ?_
  refine j_istore_n X [(3, _), (2, _), (1, _), (0, _)] dX4_read_10 rfl (by decide) rfl ?_
  refine j_iconst (v := nI 0) X dX4_read_11 (by decide) ?_
  refine j_istore X [(4, _), (3, _), (2, _), (1, _), (0, _)] dX4_read_12 (by decide) rfl ?_
  have L14 : ∀ (n : Nat) (i : Nat) (dy bg en : Int32) (bk : Int64), (i ≤ S 21 3) → (RDS S i dy bg en bk) → (60 + 1 ≤ i + n) → JJ K D 0 0 (WC ad Y (T, (wB e bk))) [(0, .ref (ad 13)), (1, .int dy), (2, .int bg), (3, .int en), (4, .int (nI i))] 14 [] := by
    intro n
    induction n with
    | zero =>
      intro i dy bg en bk hi hrd hf14
      exact absurd hf14 (by omega)
    | succ n14 ih14 =>
      intro i dy bg en bk hi hrd hf14
      refine j_iload X dX4_read_14 4 rfl ?_
      refine j_aload_n X dX4_read_16 rfl 0 rfl ?_
      refine j_getf X ly_X4 4 rfl rfl 1 (by decide) f_X4_15 rfl dX4_read_17 ?_
      refine z_as (nI (S 21 3)) (hR.b (b := bk)).len ?_
      refine n_name (fun v_17 e_17 => ?_)
      have b_17 : v_17 < 16777216 := by rw [e_17]; exact (hR.b (b := bk)).hB _ _
      refine n_icmp_ge (tgt := 185) X dX4_read_20 (by decide) (by omega) (by omega) (fun c_20 => ?_) (fun c_20 => ?_)
      · refine j_aload_n X dX4_read_185 rfl 0 rfl ?_
        refine j_getf X ly_X4 4 rfl rfl 1 (by decide) f_X4_15 rfl dX4_read_186 ?_
        refine z_as (nI (S 21 3)) (hR.b (b := bk)).len ?_
        refine n_name (fun v_186 e_186 => ?_)
        have b_186 : v_186 < 16777216 := by rw [e_186]; exact (hR.b (b := bk)).hB _ _
        refine j_iconst (v := nI 4) X dX4_read_189 (by decide) ?_
        refine n_irem X dX4_read_190 (by omega) (by omega) (by omega) ?_
        refine n_if_ne (tgt := 198) X dX4_read_191 (by decide) (by omega) (fun c_191 => ?_) (fun c_191 => ?_)
        · refine j_aload_n X dX4_read_198 rfl 0 rfl ?_
          refine j_getf X ly_X4 4 rfl rfl 1 (by decide) f_X4_15 rfl dX4_read_199 ?_
          refine z_as (nI (S 21 3)) (hR.b (b := bk)).len ?_
          refine n_name (fun v_199 e_199 => ?_)
          have b_199 : v_199 < 16777216 := by rw [e_199]; exact (hR.b (b := bk)).hB _ _
          exact j_ireturn X E ((T, (wB e bk))) rfl ⟨_, rfl, _, rfl, by have hie : v_199 = i := (by omega); rw [hie]; exact hrd.end1 hR.hI (by omega) (by omega)⟩ dX4_read_202
        · refine j_iconst (v := (-1)) X dX4_read_194 (by decide) ?_
          refine j_goto (tgt := 202) X dX4_read_195 (by decide) ?_
          exact j_ireturn X E ((T, (wB e bk))) rfl ⟨_, rfl, _, rfl, hrd.end0 (by omega) (by omega)⟩ dX4_read_202
      · refine j_iload X dX4_read_23 4 rfl ?_
        refine j_aload_n X dX4_read_25 rfl 0 rfl ?_
        refine j_getf X ly_X4 4 rfl rfl 0 (by decide) f_X4_9 rfl dX4_read_26 ?_
        refine jc_len3 X dX4_read_29 ?_
        refine n_icmp_ge (tgt := 185) X dX4_read_30 (by decide) (by omega) (by omega) (fun c_30 => ?_) (fun c_30 => ?_)
        · exact absurd c_30 (by omega)
        · refine j_aload_n X dX4_read_33 rfl 0 rfl ?_
          refine j_getf X ly_X4 4 rfl rfl 0 (by decide) f_X4_9 rfl dX4_read_34 ?_
          refine j_iload X dX4_read_37 4 rfl ?_
          refine jc_cald X (by omega) dX4_read_39 ?_
          rw [(hR.b (b := bk)).t3 (by omega)]
          refine n_name (fun v_39 e_39 => ?_)
          have b_39 : v_39 < 16777216 := by rw [e_39]; exact (hR.b (b := bk)).hB _ _
          refine j_istore X [(5, _), (0, _), (1, _), (2, _), (3, _), (4, _)] dX4_read_40 (by decide) rfl ?_
          refine j_iload X dX4_read_42 5 rfl ?_
          refine j_iconst (v := nI 4) X dX4_read_44 (by decide) ?_
          refine n_irem X dX4_read_45 (by omega) (by omega) (by omega) ?_
          rcases (show i % 4 = 0 ∨ i % 4 = 1 ∨ i % 4 = 2 ∨ i % 4 = 3 by omega) with q4 | q4 | q4 | q4
          · rw [q4]
            refine j_tableIn (off := 26) (tgt := 72) X dX4_read_46 (by decide) (by decide) (by decide) (by decide) ?_
            obtain ⟨f, l, V, h1, hdy⟩ := hrd.r0 q4
            refine j_iload X dX4_read_72 0 rfl ?_
            refine j_bipush (v := nI 48) X dX4_read_74 (by decide) ?_
            refine j_iload_n X dX4_read_76 rfl 2 rfl ?_
            refine j_iadd X dX4_read_77 ?_
            refine z_as (nI (47 + l)) (rd_lo hdy) ?_
            have hl5 := h1.1
            refine n_icmp_le (tgt := 88) X dX4_read_78 (by decide) (by omega) (by omega) (fun c_78 => ?_) (fun c_78 => ?_)
            · refine j_iload X dX4_read_88 5 rfl ?_
              exact j_ireturn X E ((T, (wB e bk))) rfl ⟨_, rfl, _, rfl, Or.inr ⟨i, by omega, rd_bad0 h1 (by omega) (no_D (by omega)), rfl⟩⟩ dX4_read_90
            · refine j_iload X dX4_read_81 0 rfl ?_
              refine j_bipush (v := nI 52) X dX4_read_83 (by decide) ?_
              refine n_icmp_le (tgt := 91) X dX4_read_85 (by decide) (by omega) (by omega) (fun c_85 => ?_) (fun c_85 => ?_)
              · refine j_iload X dX4_read_91 0 rfl ?_
                refine j_bipush (v := nI 48) X dX4_read_93 (by decide) ?_
                refine n_isub X dX4_read_95 (by omega) ?_
                refine j_istore_n X [(1, _), (5, _), (0, _), (2, _), (3, _), (4, _)] dX4_read_96 rfl (by decide) rfl ?_
                refine j_goto (tgt := 179) X dX4_read_97 (by decide) ?_
                refine n_iinc X [(4, _), (1, _), (5, _), (0, _), (2, _), (3, _)] dX4_read_179 (q := 5) (b := 1) rfl (by decide) (by decide) rfl ?_
                refine j_goto (tgt := 14) X dX4_read_182 (by decide) ?_
                exact j_sub [3, 1, 4, 5, 0] rfl (ih14 _ _ _ _ _ (by omega) (by exact ⟨f, i, l, V, h1, Or.inr (Or.inl ⟨rfl, ok_D (by omega) (by omega) (by omega), by unfold dyN; rw [e_39]⟩)⟩) (by omega))
              · refine j_iload X dX4_read_88 5 rfl ?_
                exact j_ireturn X E ((T, (wB e bk))) rfl ⟨_, rfl, _, rfl, Or.inr ⟨i, by omega, rd_bad0 h1 (by omega) (no_D (by omega)), rfl⟩⟩ dX4_read_90
          · rw [q4]
            refine j_tableIn (off := 54) (tgt := 100) X dX4_read_46 (by decide) (by decide) (by decide) (by decide) ?_
            obtain ⟨f, p, l, V, h1, rfl, h2, rfl⟩ := hrd.r1 q4
            refine j_iload X dX4_read_100 0 rfl ?_
            refine j_bipush (v := nI 97) X dX4_read_102 (by decide) ?_
            refine n_icmp_lt (tgt := 114) X dX4_read_104 (by decide) (by omega) (by omega) (fun c_104 => ?_) (fun c_104 => ?_)
            · refine j_iload X dX4_read_114 5 rfl ?_
              exact j_ireturn X E ((T, (wB e bk))) rfl ⟨_, rfl, _, rfl, Or.inr ⟨(p + 1), by omega, rd_bad1 h1 h2 (no_B (by omega)), rfl⟩⟩ dX4_read_116
            · refine j_iload X dX4_read_107 0 rfl ?_
              refine j_bipush (v := nI 106) X dX4_read_109 (by decide) ?_
              refine n_icmp_le (tgt := 117) X dX4_read_111 (by decide) (by omega) (by omega) (fun c_111 => ?_) (fun c_111 => ?_)
              · refine j_iload X dX4_read_117 0 rfl ?_
                refine j_bipush (v := nI 97) X dX4_read_119 (by decide) ?_
                refine n_isub X dX4_read_121 (by omega) ?_
                refine j_istore_n X [(2, _), (5, _), (0, _), (1, _), (3, _), (4, _)] dX4_read_122 rfl (by decide) rfl ?_
                refine j_goto (tgt := 179) X dX4_read_123 (by decide) ?_
                refine n_iinc X [(4, _), (2, _), (5, _), (0, _), (1, _), (3, _)] dX4_read_179 (q := 5) (b := 1) rfl (by decide) (by decide) rfl ?_
                refine j_goto (tgt := 14) X dX4_read_182 (by decide) ?_
                exact j_sub [3, 4, 1, 5, 0] rfl (ih14 _ _ _ _ _ (by omega) (by exact ⟨f, p, l, V, h1, Or.inr (Or.inr (Or.inl ⟨rfl, h2, ok_B (by omega) (by omega) (by omega), rfl, by unfold ltN; rw [e_39]⟩))⟩) (by omega))
              · refine j_iload X dX4_read_114 5 rfl ?_
                exact j_ireturn X E ((T, (wB e bk))) rfl ⟨_, rfl, _, rfl, Or.inr ⟨(p + 1), by omega, rd_bad1 h1 h2 (no_B (by omega)), rfl⟩⟩ dX4_read_116
          · rw [q4]
            refine j_tableIn (off := 80) (tgt := 126) X dX4_read_46 (by decide) (by decide) (by decide) (by decide) ?_
            obtain ⟨f, p, l, V, h1, rfl, h2, h3, rfl, rfl⟩ := hrd.r2 q4
            have q2 := ok_of h2
            have q3 := okB_of h3
            have hb9 : ltN S (p + 1) ≤ 9 := by unfold ltN; omega
            refine j_iload X dX4_read_126 0 rfl ?_
            refine j_bipush (v := nI 97) X dX4_read_128 (by decide) ?_
            refine j_iload_n X dX4_read_130 rfl 3 rfl ?_
            refine n_iadd X dX4_read_131 ?_
            refine n_icmp_le (tgt := 142) X dX4_read_132 (by decide) (by omega) (by omega) (fun c_132 => ?_) (fun c_132 => ?_)
            · refine j_iload X dX4_read_142 5 rfl ?_
              exact j_ireturn X E ((T, (wB e bk))) rfl ⟨_, rfl, _, rfl, Or.inr ⟨(p + 2), by omega, rd_bad2 h1 h2 h3 (no_E (by omega)), rfl⟩⟩ dX4_read_144
            · refine j_iload X dX4_read_135 0 rfl ?_
              refine j_bipush (v := nI 107) X dX4_read_137 (by decide) ?_
              refine n_icmp_le (tgt := 145) X dX4_read_139 (by decide) (by omega) (by omega) (fun c_139 => ?_) (fun c_139 => ?_)
              · refine j_iload X dX4_read_145 0 rfl ?_
                refine j_bipush (v := nI 97) X dX4_read_147 (by decide) ?_
                refine n_isub X dX4_read_149 (by omega) ?_
                refine j_istore_n X [(3, _), (5, _), (0, _), (1, _), (2, _), (4, _)] dX4_read_150 rfl (by decide) rfl ?_
                refine j_goto (tgt := 179) X dX4_read_151 (by decide) ?_
                refine n_iinc X [(4, _), (3, _), (5, _), (0, _), (1, _), (2, _)] dX4_read_179 (q := 5) (b := 1) rfl (by decide) (by decide) rfl ?_
                refine j_goto (tgt := 14) X dX4_read_182 (by decide) ?_
                exact j_sub [3, 4, 5, 1, 0] rfl (ih14 _ _ _ _ _ (by omega) (by exact ⟨f, p, l, V, h1, Or.inr (Or.inr (Or.inr ⟨rfl, h2, h3, ok_E (by omega) (by omega) (by omega), rfl, rfl, by unfold ltN; rw [e_39]⟩))⟩) (by omega))
              · refine j_iload X dX4_read_142 5 rfl ?_
                exact j_ireturn X E ((T, (wB e bk))) rfl ⟨_, rfl, _, rfl, Or.inr ⟨(p + 2), by omega, rd_bad2 h1 h2 h3 (no_E (by omega)), rfl⟩⟩ dX4_read_144
          · rw [q4]
            refine j_tableOut (tgt := 154) X dX4_read_46 (by decide) (by decide) ?_
            obtain ⟨f, p, l, V, h1, rfl, h2, h3, h4, rfl, rfl, rfl⟩ := hrd.r3 q4
            have q2 := ok_of h2
            have q3 := okB_of h3
            have q5 := okE_of h4
            have hd5 : dyN S p < 5 := by unfold dyN; omega
            have hbe : ltN S (p + 1) ≤ ltN S (p + 2) := by have h5 := q5.2.1; unfold ltN at h5 ⊢; omega
            have he : ltN S (p + 2) ≤ 10 := by unfold ltN; omega
            refine j_iload X dX4_read_154 0 rfl ?_
            refine j_bipush (v := nI 59) X dX4_read_156 (by decide) ?_
            refine n_icmp_eq (tgt := 164) X dX4_read_158 (by decide) (by omega) (by omega) (fun c_158 => ?_) (fun c_158 => ?_)
            · refine j_aload_n X dX4_read_164 rfl 1 rfl ?_
              refine j_dup X dX4_read_165 rfl ?_
              refine j_getf X ly_X4 4 rfl rfl 2 (by decide) f_X4_19 rfl dX4_read_166 ?_
              refine j_iload_n X dX4_read_169 rfl 2 rfl ?_
              refine j_iload_n X dX4_read_170 rfl 3 rfl ?_
              refine j_iload_n X dX4_read_171 rfl 4 rfl ?_
              refine jst_callN3 X hK (m_X6_spanOf _ _ _ (by omega) (by omega) (by omega)) m_X4_23 (by decide) (by decide) (Nat.le_of_ble_eq_true rfl) ⟨by decide, by decide⟩ dX4_read_172 ?_
              refine j_lor X dX4_read_175 ?_
              refine jc_putB X f_X4_19 dX4_read_176 ?_
              refine n_iinc X [(4, _), (5, _), (0, _), (1, _), (2, _), (3, _)] dX4_read_179 (q := 5) (b := 1) rfl (by decide) (by decide) rfl ?_
              refine j_goto (tgt := 14) X dX4_read_182 (by decide) ?_
              exact j_sub [2, 3, 4, 5, 0] rfl (ih14 _ _ _ _ _ (by omega) (by exact h1.next h2 h3 h4 (ok_S (by omega) (by omega))) (by omega))
            · refine j_iload X dX4_read_161 5 rfl ?_
              exact j_ireturn X E ((T, (wB e bk))) rfl ⟨_, rfl, _, rfl, Or.inr ⟨(p + 3), by omega, rd_bad3 h1 h2 h3 h4 (no_S (by omega)), rfl⟩⟩ dX4_read_163
  exact j_sub [4, 3, 2, 1, 0] rfl (L14 61 0 _ _ _ _ (by omega) (by exact RDS.start hR.hI) (by omega))
set_option maxRecDepth 100000 in
set_option maxHeartbeats 4000000 in
theorem m_X6_loadBookings {S : MS} {T : CT} {e : CE} (hR : RR S T e) (x : Int32) : CF zX6_loadBookings 16 6 0 0 [.int x] (T, e) (pR (ldR S x) (ldS S x)) := by
  intro D Y ad
  refine MT.of [(0, .ref (ad 16)), (1, .int x)] (by decide) rfl (Nat.le_of_ble_eq_true rfl) ?_
  intro K hK X E
  refine j_aload_n X dX6_loadBookings_0 rfl 0 rfl ?_
  refine j_iload_n X dX6_loadBookings_1 rfl 1 rfl ?_
  refine jc_call16Q1 (mc := 0) (ms := 0) X hK (m_X6_childAt hR _) m_X6_68 rfl (by decide) (by decide) (Nat.le_of_ble_eq_true rfl) ⟨by decide, by decide⟩ dX6_loadBookings_2 ?_
  rintro _ _ ⟨rfl, (⟨c_2, a_2, l_2, rfl, x_2, q_2, r_2, m_2, p_2, rfl⟩ | ⟨x_2, rfl⟩)⟩
  · have cl_2 := nI_clamp (n := c_2) (by omega)
    have hx2 : tn (nI c_2) = c_2 := cl_2
    refine j_astore_n X [(2, _), (0, _), (1, _)] dX6_loadBookings_5 rfl (by decide) rfl ?_
    refine j_aload_n X dX6_loadBookings_6 rfl 0 rfl ?_
    refine j_ifnonnull (tgt := 12) X dX6_loadBookings_7 (by decide) ?_
    refine j_aload_n X dX6_loadBookings_12 rfl 1 rfl ?_
    refine j_getf X ly_X6 0 rfl rfl 7 (by decide) f_X6_41 rfl dX6_loadBookings_13 ?_
    refine jc_call13I0 (mc := 0) (ms := 0) X hK (m_X4_read hR) m_X6_275 rfl (by decide) (by decide) (Nat.le_of_ble_eq_true rfl) ⟨by decide, by decide⟩ dX6_loadBookings_16 ?_
    rintro r_16 _ ⟨bk, rfl, h16⟩
    refine j_istore_n X [(3, _), (2, _), (0, _), (1, _)] dX6_loadBookings_19 rfl (by decide) rfl ?_
    refine j_iload_n X dX6_loadBookings_20 rfl 0 rfl ?_
    refine j_iconst (v := (-1)) X dX6_loadBookings_21 (by decide) ?_
    refine j_icmp_eq (tgt := 30) X dX6_loadBookings_22 (by decide) (fun c_22 => ?_) (fun c_22 => ?_)
    · have hf : rdI S 16 0 0 = -9 ∧ bk = msk (rdB (rdZ S)) 50 ∧ spOk (rdZ S) := h16.elim (fun z => ⟨z.1, z.2.2⟩) (fun z => by obtain ⟨i, hi, hf1, hf2⟩ := z; exact absurd (hf2.symm.trans c_22) (nI_nm1 (by omega)))
      obtain ⟨hf1, rfl, hsp⟩ := hf
      have hat := spF_at (S := S) (c := c_2) (B := rdZ S)
      have hp2 : ∀ q, q < 50 → rdB (rdZ S) q = spP (spT S c_2 (rdZ S)) 5 c_2 q := fun q hq => by rw [spT_is]; unfold rdB spP; rw [(hat 5 (q / 10) (by omega)).1, (hat 5 (q / 10) (by omega)).2]
      have hok := spF_ok (c := c_2) hR.hB hR.hI hsp 5 (Nat.le_refl 5)
      have hB2 : BD (spT S c_2 (rdZ S)) := hok.1
      have hI2 : IV (spT S c_2 (rdZ S)) := hok.2
      have ho : ∀ k j, k ≠ 5 → k ≠ 6 → (spT S c_2 (rdZ S)) k j = S k j := fun k j h1 h2 => by rw [spT_is]; exact spF_nk h1 h2
      have h5 : ∀ k j, k = 5 ∨ k = 6 → j / 5 ≠ c_2 → (spT S c_2 (rdZ S)) k j = S k j := fun k j h1 h2 => by rw [spT_is]; exact spF_no h2 5 (Nat.le_refl 5)
      have hno := ld_no (S := S) (c := c_2) hsp
      refine j_aload_n X dX6_loadBookings_30 rfl 2 rfl ?_
      refine j_aload_n X dX6_loadBookings_31 rfl 1 rfl ?_
      refine j_aload_n X dX6_loadBookings_32 rfl 2 rfl ?_
      refine j_getf X ly_X6 0 rfl rfl 7 (by decide) f_X6_41 rfl dX6_loadBookings_33 ?_
      refine j_getf X ly_X4 4 rfl rfl 2 (by decide) f_X6_278 rfl dX6_loadBookings_36 ?_
      refine jc_call16I2 (mc := 0) (ms := 0) X hK (m_X6_rebook (hR.b (b := msk (rdB (rdZ S)) 50)) c_2 (by omega) m_2 p_2 r_2 q_2 (rdB (rdZ S)) (S2 := (spT S c_2 (rdZ S))) hp2 hB2 hI2 ho h5) m_X6_101 rfl (by decide) (by decide) (Nat.le_of_ble_eq_true rfl) ⟨by decide, by decide⟩ dX6_loadBookings_39 ?_
      rintro _ ⟨T_39, e_39⟩ ⟨rfl, hR_39⟩
      exact j_ireturn X E ((T_39, e_39)) rfl ⟨_, rfl, by unfold ldR; rw [x_2, if_pos rfl, if_pos hf1, hx2, hno], by unfold ldS; rw [x_2, if_pos rfl, if_pos hf1, hx2, hno]; exact hR_39⟩ dX6_loadBookings_42
    · have hf : ∃ i, i < 65 ∧ rdI S 16 0 0 = nI i ∧ r_16 = nI i := h16.elim (fun z => absurd z.2.1 c_22) id
      obtain ⟨i, hi, hf1, hf2⟩ := hf
      have hn9 : ¬ rdI S 16 0 0 = -9 := by rw [hf1]; exact nI_n9 (by omega)
      have hre : r_16 = rdI S 16 0 0 := hf2.trans hf1.symm
      refine j_bipush (v := (-10)) X dX6_loadBookings_25 (by decide) ?_
      refine j_iload_n X dX6_loadBookings_27 rfl 0 rfl ?_
      refine j_isub X dX6_loadBookings_28 ?_
      exact j_ireturn X E ((T, (wB e bk))) rfl ⟨_, rfl, by unfold ldR; rw [x_2, if_pos rfl, if_neg hn9, hre], by unfold ldS; rw [x_2, if_pos rfl, if_neg hn9]; exact hR.b⟩ dX6_loadBookings_29
  · refine j_astore_nN X [(2, _), (0, _), (1, _)] dX6_loadBookings_5 rfl (by decide) rfl ?_
    refine j_aload_nN X dX6_loadBookings_6 rfl 0 rfl ?_
    refine j_ifnonnullN X dX6_loadBookings_7 ?_
    refine j_iconst (v := (-1)) X dX6_loadBookings_10 (by decide) ?_
    exact j_ireturn X E ((T, e)) rfl ⟨_, rfl, by unfold ldR; rw [x_2]; rfl, by unfold ldS; rw [x_2]; exact hR⟩ dX6_loadBookings_11
