set_option maxRecDepth 100000 in
set_option maxHeartbeats 4000000 in
theorem m_X1_join {S : MS} {T : CT} {e : CE} (hR : RR S T e) (x y z : Nat) (hx : x ≤ 31) (hy : y ≤ 5) (hz : z ≤ 1000) : CF zX1_join 14 3 1 4 [.int (nI x), .int (nI y), .int (nI z)] (T, e) (pR (if S 21 2 = 4 then -3 else nI (S 21 2)) (if S 21 2 = 4 then S else subNew S x y z)) := by
  intro D Y ad
  refine MT.of [(0, .ref (ad 14)), (1, .int (nI x)), (2, .int (nI y)), (3, .int (nI z))] (by decide) rfl (Nat.le_of_ble_eq_true rfl) ?_
  intro K hK X E
  refine j_aload_n X dX1_join_0 rfl 0 rfl ?_
  refine j_getf X ly_X1 5 rfl rfl 1 (by decide) f_X1_27 rfl dX1_join_1 ?_
  refine z_as (nI (S 21 2)) hR.cnt ?_
  refine n_name (fun v_1 e_1 => ?_)
  have b_1 : v_1 < 16777216 := by rw [e_1]; exact hR.hB _ _
  refine j_aload_n X dX1_join_4 rfl 0 rfl ?_
  refine j_getf X ly_X1 5 rfl rfl 0 (by decide) f_X1_11 rfl dX1_join_5 ?_
  refine jc_len_r2 X dX1_join_8 ?_
  refine n_icmp_lt (tgt := 15) X dX1_join_9 (by decide) (by omega) (by omega) (fun c_9 => ?_) (fun c_9 => ?_)
  · have hlt : S 21 2 < 4 := by omega
    refine j_aload_n X dX1_join_15 rfl 0 rfl ?_
    refine j_getf X ly_X1 5 rfl rfl 0 (by decide) f_X1_11 rfl dX1_join_16 ?_
    refine j_aload_n X dX1_join_19 rfl 0 rfl ?_
    refine j_getf X ly_X1 5 rfl rfl 1 (by decide) f_X1_27 rfl dX1_join_20 ?_
    refine z_as (nI (S 21 2)) hR.cnt ?_
    refine n_name (fun v_20 e_20 => ?_)
    have b_20 : v_20 < 16777216 := by rw [e_20]; exact hR.hB _ _
    refine jc_new (ci := 5) (fs := z4) X hK ly_X5 tyX5 tyX5_ok c_X1_9 n_X5 in_X5 rfl (z4_ok) (by decide) (by decide) dX1_join_23 (fun a_23 e_23 h_23 ee_23 => ?_)
    have m_23 : a_23 ∈ eL e_23 := by rw [ee_23]; exact List.mem_append_right _ (List.mem_singleton.mpr rfl)
    have p_23 : eP e_23 a_23 = .inr (5, z4) := by rw [ee_23]; exact if_pos rfl
    refine j_dup X dX1_join_26 rfl ?_
    refine j_iload_n X dX1_join_27 rfl 1 rfl ?_
    refine j_iload_n X dX1_join_28 rfl 2 rfl ?_
    refine j_iload_n X dX1_join_29 rfl 3 rfl ?_
    refine j_callI (mc := 0) (ms := 0) (As := [.int (nI x), .int (nI y), .int (nI z)]) X hK ((m_X5_init m_23 p_23 x y z) D Y ad) m_X1_31 (by decide) (by decide) rfl (Nat.le_of_ble_eq_true rfl) ⟨by decide, by decide⟩ dX1_join_30 (fun v_30 u_30 hp_30 => ?_)
    obtain ⟨rfl, hu_30⟩ := hp_30
    obtain ⟨e_30, ee_30⟩ : ∃ e' : CE, e' = wP e_23 a_23 (.inr (5, [.int (nI x), .int (nI y), .int (nI z), .int 0])) := ⟨_, rfl⟩
    rw [← ee_30] at hu_30
    subst hu_30
    have m_30 := mem_wP ee_30 m_23
    have p_30 := pos_wP ee_30
    subst e_20
    refine jc_ast_r2 X (by omega) m_30 p_30 dX1_join_33 (fun e_33 ee_33 => ?_)
    refine j_aload_n X dX1_join_34 rfl 0 rfl ?_
    refine j_dup X dX1_join_35 rfl ?_
    refine j_getf X ly_X1 5 rfl rfl 1 (by decide) f_X1_27 rfl dX1_join_36 ?_
    refine z_as (nI (S 21 2)) hR.cnt ?_
    refine n_name (fun v_36 e_36 => ?_)
    have b_36 : v_36 < 16777216 := by rw [e_36]; exact hR.hB _ _
    refine j_iconst (v := nI 1) X dX1_join_39 (by decide) ?_
    refine n_iadd X dX1_join_40 ?_
    refine jc_put3 X f_X1_27 dX1_join_41 (fun T_41 eT_41 => ?_)
    subst e_36
    have hRn : RR (subNew S x y z) T_41 e_33 := by rw [eT_41, ee_33, ee_30, ee_23, ← suE_new (S := S)]; exact RG.addS hR h_23 hlt hx hy hz rfl
    refine j_aload_n X dX1_join_44 rfl 0 rfl ?_
    refine j_getf X ly_X1 5 rfl rfl 1 (by decide) f_X1_27 rfl dX1_join_45 ?_
    refine z_as (nI ((subNew S x y z) 21 2)) hRn.cnt ?_
    refine n_name (fun v_45 e_45 => ?_)
    have b_45 : v_45 < 16777216 := by rw [e_45]; exact hRn.hB _ _
    have e45 : v_45 = S 21 2 + 1 := by rw [e_45, sub_21]
    refine j_iconst (v := nI 1) X dX1_join_48 (by decide) ?_
    refine n_isub X dX1_join_49 (by omega) ?_
    exact j_ireturn X E ((T_41, e_33)) rfl ⟨_, rfl, by rw [if_neg (by omega), e45]; rfl, by rw [if_neg (by omega)]; exact hRn⟩ dX1_join_50
  · have h4 : S 21 2 = 4 := by have := hR.hI.2.2.2.2.2.2.2.2.2.2.1; omega
    refine j_bipush (v := (-3)) X dX1_join_12 (by decide) ?_
    refine j_widen (c2 := 1) (s2 := 4) (by decide) (by decide) ?_
    exact j_ireturn X E ((T, e)) rfl ⟨_, rfl, by rw [if_pos h4], by rw [if_pos h4]; exact hR⟩ dX1_join_14
theorem wh2 {y : Int32} {lo hi : Nat} (h : nI hi < y) : withinI y (nI lo) (nI hi) = false := by
  unfold withinI
  rw [decide_eq_false (i_lt_n h), Bool.and_false]
theorem wok {y : Int32} {lo hi : Nat} (h1 : ¬ y < nI lo) (h2 : ¬ nI hi < y) : withinI y (nI lo) (nI hi) = true := by
  unfold withinI
  rw [decide_eq_true (i_nlt h1), decide_eq_true (i_nlt h2)]
  rfl
set_option maxRecDepth 100000 in
set_option maxHeartbeats 4000000 in
theorem m_X6_addSubstitute {S : MS} {T : CT} {e : CE} (hR : RR S T e) (x y z : Int32) : CF zX6_addSubstitute 16 4 1 4 [.int x, .int y, .int z] (T, e) (pR (subR S x y z) (subS S x y z)) := by
  intro D Y ad
  refine MT.of [(0, .ref (ad 16)), (1, .int x), (2, .int y), (3, .int z)] (by decide) rfl (Nat.le_of_ble_eq_true rfl) ?_
  intro K hK X E
  refine j_iload_n X dX6_addSubstitute_0 rfl 1 rfl ?_
  refine j_iconst (v := nI 1) X dX6_addSubstitute_1 (by decide) ?_
  refine j_icmp_lt (tgt := 33) X dX6_addSubstitute_2 (by decide) (fun c_2 => ?_) (fun c_2 => ?_)
  · refine j_iconst (v := (-1)) X dX6_addSubstitute_33 (by decide) ?_
    refine j_widen (c2 := 1) (s2 := 4) (by decide) (by decide) ?_
    exact j_ireturn X E ((T, e)) rfl ⟨_, rfl, by unfold subR; rw [show subOk _ _ _ = false from by unfold subOk; rw [wl c_2]; simp]; rfl, by unfold subS; rw [show subOk _ _ _ = false from by unfold subOk; rw [wl c_2]; simp]; exact hR⟩ dX6_addSubstitute_34
  · refine j_iload_n X dX6_addSubstitute_5 rfl 1 rfl ?_
    refine j_bipush (v := nI 31) X dX6_addSubstitute_6 (by decide) ?_
    refine j_icmp_gt (tgt := 33) X dX6_addSubstitute_8 (by decide) (fun c_8 => ?_) (fun c_8 => ?_)
    · refine j_iconst (v := (-1)) X dX6_addSubstitute_33 (by decide) ?_
      refine j_widen (c2 := 1) (s2 := 4) (by decide) (by decide) ?_
      exact j_ireturn X E ((T, e)) rfl ⟨_, rfl, by unfold subR; rw [show subOk _ _ _ = false from by unfold subOk; rw [wh2 c_8]; simp]; rfl, by unfold subS; rw [show subOk _ _ _ = false from by unfold subOk; rw [wh2 c_8]; simp]; exact hR⟩ dX6_addSubstitute_34
    · refine j_iload_n X dX6_addSubstitute_11 rfl 2 rfl ?_
      refine j_iconst (v := nI 1) X dX6_addSubstitute_12 (by decide) ?_
      refine j_icmp_lt (tgt := 33) X dX6_addSubstitute_13 (by decide) (fun c_13 => ?_) (fun c_13 => ?_)
      · refine j_iconst (v := (-1)) X dX6_addSubstitute_33 (by decide) ?_
        refine j_widen (c2 := 1) (s2 := 4) (by decide) (by decide) ?_
        exact j_ireturn X E ((T, e)) rfl ⟨_, rfl, by unfold subR; rw [show subOk _ _ _ = false from by unfold subOk; rw [wl c_13]; simp]; rfl, by unfold subS; rw [show subOk _ _ _ = false from by unfold subOk; rw [wl c_13]; simp]; exact hR⟩ dX6_addSubstitute_34
      · refine j_iload_n X dX6_addSubstitute_16 rfl 2 rfl ?_
        refine j_iconst (v := nI 5) X dX6_addSubstitute_17 (by decide) ?_
        refine j_icmp_gt (tgt := 33) X dX6_addSubstitute_18 (by decide) (fun c_18 => ?_) (fun c_18 => ?_)
        · refine j_iconst (v := (-1)) X dX6_addSubstitute_33 (by decide) ?_
          refine j_widen (c2 := 1) (s2 := 4) (by decide) (by decide) ?_
          exact j_ireturn X E ((T, e)) rfl ⟨_, rfl, by unfold subR; rw [show subOk _ _ _ = false from by unfold subOk; rw [wh2 c_18]; simp]; rfl, by unfold subS; rw [show subOk _ _ _ = false from by unfold subOk; rw [wh2 c_18]; simp]; exact hR⟩ dX6_addSubstitute_34
        · refine j_iload_n X dX6_addSubstitute_21 rfl 3 rfl ?_
          refine j_iconst (v := nI 1) X dX6_addSubstitute_22 (by decide) ?_
          refine j_icmp_lt (tgt := 33) X dX6_addSubstitute_23 (by decide) (fun c_23 => ?_) (fun c_23 => ?_)
          · refine j_iconst (v := (-1)) X dX6_addSubstitute_33 (by decide) ?_
            refine j_widen (c2 := 1) (s2 := 4) (by decide) (by decide) ?_
            exact j_ireturn X E ((T, e)) rfl ⟨_, rfl, by unfold subR; rw [show subOk _ _ _ = false from by unfold subOk; rw [wl c_23]; simp]; rfl, by unfold subS; rw [show subOk _ _ _ = false from by unfold subOk; rw [wl c_23]; simp]; exact hR⟩ dX6_addSubstitute_34
          · refine j_iload_n X dX6_addSubstitute_26 rfl 3 rfl ?_
            refine j_sipush (v := nI 1000) X dX6_addSubstitute_27 (by decide) ?_
            refine j_icmp_le (tgt := 35) X dX6_addSubstitute_30 (by decide) (fun c_30 => ?_) (fun c_30 => ?_)
            · have hx := wok c_2 c_8
              have hy := wok c_13 c_18
              have hz : withinI z (nI 1) (nI 1000) = true := by unfold withinI; rw [decide_eq_true (i_nlt c_23), decide_eq_true c_30]; rfl
              have hok : subOk x y z = true := by unfold subOk; rw [hx, hy, hz]; rfl
              obtain ⟨u, hu1, hu2, rfl⟩ := within_of (by decide) (by decide) hx
              obtain ⟨v, hv1, hv2, rfl⟩ := within_of (by decide) (by decide) hy
              obtain ⟨w, hw1, hw2, rfl⟩ := within_of (by decide) (by decide) hz
              have tu : tn (nI u) = u := nI_clamp (by omega)
              have tv : tn (nI v) = v := nI_clamp (by omega)
              have tw : tn (nI w) = w := nI_clamp (by omega)
              refine j_aload_n X dX6_addSubstitute_35 rfl 0 rfl ?_
              refine j_getf X ly_X6 0 rfl rfl 8 (by decide) f_X6_48 rfl dX6_addSubstitute_36 ?_
              refine j_iload_n X dX6_addSubstitute_39 rfl 1 rfl ?_
              refine j_iload_n X dX6_addSubstitute_40 rfl 2 rfl ?_
              refine j_iload_n X dX6_addSubstitute_41 rfl 3 rfl ?_
              refine jc_call14I3 (mc := 1) (ms := 4) X hK (m_X1_join hR u v w (by omega) (by omega) (by omega)) m_X6_236 rfl (by decide) (by decide) (Nat.le_of_ble_eq_true rfl) ⟨by decide, by decide⟩ dX6_addSubstitute_42 ?_
              rintro _ ⟨T_42, e_42⟩ ⟨rfl, hR_42⟩
              exact j_ireturn X E ((T_42, e_42)) rfl ⟨_, rfl, by unfold subR; rw [hok, if_pos rfl], by unfold subS; rw [hok, if_pos rfl, tu, tv, tw]; exact hR_42⟩ dX6_addSubstitute_45
            · refine j_iconst (v := (-1)) X dX6_addSubstitute_33 (by decide) ?_
              refine j_widen (c2 := 1) (s2 := 4) (by decide) (by decide) ?_
              exact j_ireturn X E ((T, e)) rfl ⟨_, rfl, by unfold subR; rw [show subOk _ _ _ = false from by unfold subOk; rw [wh c_30]; simp]; rfl, by unfold subS; rw [show subOk _ _ _ = false from by unfold subOk; rw [wh c_30]; simp]; exact hR⟩ dX6_addSubstitute_34
