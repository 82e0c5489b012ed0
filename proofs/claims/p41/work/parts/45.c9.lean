set_option maxRecDepth 100000 in
set_option maxHeartbeats 4000000 in
theorem m_X6_setRoomLimit {S : MS} {T : CT} {e : CE} (hR : RR S T e) (x : Int32) : CF zX6_setRoomLimit 16 1 0 0 [.int x] (T, e) (pR (limR S x) (limS S x)) := by
  intro D Y ad
  refine MT.of [(0, .ref (ad 16)), (1, .int x)] (by decide) rfl (Nat.le_of_ble_eq_true rfl) ?_
  intro K hK X E
  refine j_iload_n X dX6_setRoomLimit_0 rfl 1 rfl ?_
  refine j_iconst (v := nI 1) X dX6_setRoomLimit_1 (by decide) ?_
  refine j_icmp_lt (tgt := 11) X dX6_setRoomLimit_2 (by decide) (fun c_2 => ?_) (fun c_2 => ?_)
  · refine j_iconst (v := (-1)) X dX6_setRoomLimit_11 (by decide) ?_
    exact j_ireturn X E ((T, e)) rfl ⟨_, rfl, by unfold limR; rw [show withinI x (nI 1) (nI 24) = false from by exact wl c_2]; rfl, by unfold limS; rw [show withinI x (nI 1) (nI 24) = false from by exact wl c_2]; exact hR⟩ dX6_setRoomLimit_12
  · refine j_iload_n X dX6_setRoomLimit_5 rfl 1 rfl ?_
    refine j_bipush (v := nI 24) X dX6_setRoomLimit_6 (by decide) ?_
    refine j_icmp_le (tgt := 13) X dX6_setRoomLimit_8 (by decide) (fun c_8 => ?_) (fun c_8 => ?_)
    · have hy : withinI x (nI 1) (nI 24) = true := by unfold withinI; simp; exact ⟨i_nlt c_2, c_8⟩
      obtain ⟨v, hv1, hv2, rfl⟩ := within_of (lo := 1) (n := 24) (by decide) (by decide) hy
      have hv3 : tn (nI v) = v := nI_clamp (by omega)
      refine j_aload_n X dX6_setRoomLimit_13 rfl 0 rfl ?_
      refine j_getf X ly_X6 0 rfl rfl 4 (by decide) f_X6_28 rfl dX6_setRoomLimit_14 ?_
      refine z_as (nI (S 21 1)) hR.room ?_
      refine n_name (fun v_14 e_14 => ?_)
      have b_14 : v_14 < 16777216 := by rw [e_14]; exact hR.hB _ _
      refine j_istore_n X [(2, _), (0, _), (1, _)] dX6_setRoomLimit_17 rfl (by decide) rfl ?_
      refine j_aload_n X dX6_setRoomLimit_18 rfl 1 rfl ?_
      refine j_iload_n X dX6_setRoomLimit_19 rfl 2 rfl ?_
      refine jc_put0 X f_X6_28 dX6_setRoomLimit_20 (fun T_20 eT_20 => ?_)
      have hRn : RR (limS S (nI v)) T_20 e := by unfold limS; rw [hy, if_pos rfl, hv3, eT_20]; exact hR.row (BD_u hR.hB (by omega)) (IV_lim hR.hI (by omega)) (rows_21 hR.2.2.1 (by decide)) (fun a j ha => uM_nk (by omega)) (uM_ni (by omega))
      refine j_iload_n X dX6_setRoomLimit_23 rfl 0 rfl ?_
      exact j_ireturn X E ((T_20, e)) rfl ⟨_, rfl, by unfold limR; rw [hy, if_pos rfl, e_14], hRn⟩ dX6_setRoomLimit_24
    · refine j_iconst (v := (-1)) X dX6_setRoomLimit_11 (by decide) ?_
      exact j_ireturn X E ((T, e)) rfl ⟨_, rfl, by unfold limR; rw [show withinI x (nI 1) (nI 24) = false from by exact wh c_8]; rfl, by unfold limS; rw [show withinI x (nI 1) (nI 24) = false from by exact wh c_8]; exact hR⟩ dX6_setRoomLimit_12
/-- the state in which the guest counts as admitted -/
def GU (S : MS) (g : Int32) (S' : MS) : Prop := (g = -1 ∧ S' = S) ∨ ∃ x : Nat, x < 24 ∧ g = nI x ∧ S' = uM S 3 x 1
theorem nI_nm1 {c : Nat} (h : c < 16777216) : nI c ≠ -1 := by
  intro q
  have := congrArg Int32.toInt q
  rw [nI_toInt (by omega)] at this
  have h9 : (-1 : Int32).toInt = -1 := by decide
  rw [h9] at this
  omega
theorem GU.adm {S S' : MS} {g : Int32} (h : GU S g S') {k : Nat} (hk : k < 24) : S' 3 k = 1 ↔ S 3 k = 1 ∨ nI k = g := by
  rcases h with ⟨rfl, rfl⟩ | ⟨x, hx, rfl, rfl⟩
  · have := nI_nm1 (c := k) (by omega)
    exact ⟨Or.inl, fun q => q.elim id (fun z => absurd z this)⟩
  · rw [nI_eq (show k < 2147483648 by omega) (show x < 2147483648 by omega)]
    by_cases q : k = x
    · subst q
      rw [uM_eq]
      simp
    · rw [uM_ni q]
      simp [q]
theorem GU.off {S S' : MS} {g : Int32} (h : GU S g S') {a j : Nat} (ha : a ≠ 3) : S' a j = S a j := by
  rcases h with ⟨rfl, rfl⟩ | ⟨x, hx, rfl, rfl⟩
  · rfl
  · exact uM_nk ha
theorem GU.hours {S S' : MS} {g : Int32} (h : GU S g S') (c : Nat) : hoursN S' c = hoursN S c := hoursN_congr (fun j => h.off (by omega)) (fun j => h.off (by omega))
theorem GU.iv {S S' : MS} {g : Int32} (h : GU S g S') (hI : IV S) : IV S' := by
  rcases h with ⟨rfl, rfl⟩ | ⟨x, hx, rfl, rfl⟩
  · exact hI
  · exact IV_adm hI (by omega)
theorem GU.no (S : MS) : GU S (-1) S := Or.inl ⟨rfl, rfl⟩
theorem GU.is {S : MS} {x : Nat} (hx : x < 24) : GU S (nI x) (uM S 3 x 1) := Or.inr ⟨x, hx, rfl, rfl⟩
theorem GU.old {S S' : MS} {g : Int32} (h : GU S g S') (c k : Nat) : oldB S' c k = (decide (S 0 k = 1) && decide (S' 3 k = 1) && decide (S 2 k = S 2 c) && (decide (S 1 c < S 1 k) || decide (S 1 k = S 1 c) && decide (k < c))) := by
  unfold oldB isIn
  rw [h.off (a := 0) (by omega), h.off (a := 2) (j := k) (by omega), h.off (a := 2) (j := c) (by omega), h.off (a := 1) (j := k) (by omega), h.off (a := 1) (j := c) (by omega)]
set_option maxRecDepth 100000 in
set_option maxHeartbeats 4000000 in
theorem m_X6_pays {S : MS} {G : Nat → Nat} {T : CT} {e : CE} (hR : RG S G T e) {a : Nat} (c : Nat) (hc : c < 24) (hm : a ∈ eL e) (hp : eP e a = chE S c) (g : Int32) {S' : MS} (hg : GU S g S') : CF zX6_pays 16 1 0 0 [.ref a, .int (nI c), .int g] (T, e) (pBc (T, e) (decide (S' 3 c = 1))) := by
  intro D Y ad
  refine MT.of [(0, .ref (ad 16)), (1, .ref a), (2, .int (nI c)), (3, .int g)] (by decide) rfl (Nat.le_of_ble_eq_true rfl) ?_
  intro K hK X E
  refine j_aload_n X dX6_pays_0 rfl 1 rfl ?_
  refine jc_pget X ly_X0 hm hp rfl 3 (by decide) f_X6_78 rfl dX6_pays_1 ?_
  refine n_name (fun v_1 e_1 => ?_)
  have b_1 : v_1 < 16777216 := by rw [e_1]; exact hR.hB _ _
  refine n_if_ne (tgt := 12) X dX6_pays_4 (by decide) (by omega) (fun c_4 => ?_) (fun c_4 => ?_)
  · have h31 : S 3 c = 1 := by have := (hR.hI.2.2.1 c hc).2; omega
    refine j_iconst (v := bI true) X dX6_pays_12 (by decide) ?_
    refine j_goto (tgt := 17) X dX6_pays_13 (by decide) ?_
    exact j_zreturn X E ((T, e)) rfl ⟨_, rfl, by congr 1; symm; exact (decide_eq_true ((hg.adm hc).mpr (Or.inl h31))).symm, rfl⟩ dX6_pays_17
  · refine j_iload_n X dX6_pays_7 rfl 2 rfl ?_
    refine j_iload_n X dX6_pays_8 rfl 3 rfl ?_
    refine j_icmp_ne (tgt := 16) X dX6_pays_9 (by decide) (fun c_9 => ?_) (fun c_9 => ?_)
    · refine j_iconst (v := bI false) X dX6_pays_16 (by decide) ?_
      exact j_zreturn X E ((T, e)) rfl ⟨_, rfl, by congr 1; symm; exact (decide_eq_false (fun z => ((hg.adm hc).mp z).elim (fun y => by omega) c_9)).symm, rfl⟩ dX6_pays_17
    · refine j_iconst (v := bI true) X dX6_pays_12 (by decide) ?_
      refine j_goto (tgt := 17) X dX6_pays_13 (by decide) ?_
      exact j_zreturn X E ((T, e)) rfl ⟨_, rfl, by congr 1; symm; exact (decide_eq_true ((hg.adm hc).mpr (Or.inr c_9))).symm, rfl⟩ dX6_pays_17
set_option maxRecDepth 100000 in
set_option maxHeartbeats 4000000 in
theorem m_X6_rankOf {S : MS} {G : Nat → Nat} {T : CT} {e : CE} (hR : RG S G T e) {a : Nat} (c : Nat) (hc : c < 24) (hm : a ∈ eL e) (hp : eP e a = chE S c) (g : Int32) {S' : MS} (hg : GU S g S') : CF zX6_rankOf 16 2 0 0 [.ref a, .int (nI c), .int g] (T, e) (pNc (T, e) (rankN S' c) 24) := by
  intro D Y ad
  refine MT.of [(0, .ref (ad 16)), (1, .ref a), (2, .int (nI c)), (3, .int g)] (by decide) rfl (Nat.le_of_ble_eq_true rfl) ?_
  intro K hK X E
  refine j_iconst (v := nI 0) X dX6_rankOf_0 (by decide) ?_
  refine j_istore X [(4, _), (0, _), (1, _), (2, _), (3, _)] dX6_rankOf_1 (by decide) rfl ?_
  refine j_iconst (v := nI 0) X dX6_rankOf_3 (by decide) ?_
  refine j_istore X [(5, _), (4, _), (0, _), (1, _), (2, _), (3, _)] dX6_rankOf_4 (by decide) rfl ?_
  have L6 : ∀ (n : Nat) (i s : Nat), (i ≤ 24) → (s = sm (fun k => ct (oldB S' c k)) i) → (24 + 1 ≤ i + n) → JJ K D 0 0 (WC ad Y (T, e)) [(0, .ref (ad 16)), (1, .ref a), (2, .int (nI c)), (3, .int g), (4, .int (nI s)), (5, .int (nI i))] 6 [] := by
    intro n
    induction n with
    | zero =>
      intro i s hi hs hf6
      exact absurd hf6 (by omega)
    | succ n6 ih6 =>
      intro i s hi hs hf6
      refine j_iload X dX6_rankOf_6 5 rfl ?_
      refine j_aload_n X dX6_rankOf_8 rfl 0 rfl ?_
      refine j_getf X ly_X6 0 rfl rfl 0 (by decide) f_X6_11 rfl dX6_rankOf_9 ?_
      refine jc_len_r0 X dX6_rankOf_12 ?_
      refine n_icmp_ge (tgt := 105) X dX6_rankOf_13 (by decide) (by omega) (by omega) (fun c_13 => ?_) (fun c_13 => ?_)
      · have hi2 : i = 24 := by omega
        subst hi2
        have hle : sm (fun k => ct (oldB S' c k)) 24 ≤ 24 * 1 := sm_le (fun i hi => ct_le _)
        refine j_iload X dX6_rankOf_105 4 rfl ?_
        exact j_ireturn X E ((T, e)) rfl ⟨_, rfl, _, hs, by omega, rfl, rfl⟩ dX6_rankOf_107
      · refine j_aload_n X dX6_rankOf_16 rfl 0 rfl ?_
        refine j_getf X ly_X6 0 rfl rfl 0 (by decide) f_X6_11 rfl dX6_rankOf_17 ?_
        refine j_iload X dX6_rankOf_20 5 rfl ?_
        refine jc_ch X hR (by omega) dX6_rankOf_22 (fun a_22 q_22 r_22 m_22 p_22 => ?_) (fun q_22 r_22 => ?_)
        · refine j_astore X [(6, _), (0, _), (1, _), (2, _), (3, _), (4, _), (5, _)] dX6_rankOf_23 (by decide) rfl ?_
          refine j_aload X dX6_rankOf_25 0 rfl ?_
          refine j_ifnull X dX6_rankOf_27 ?_
          refine j_aload X dX6_rankOf_30 0 rfl ?_
          refine jc_pget X ly_X0 m_22 p_22 rfl 0 (by decide) f_X6_132 rfl dX6_rankOf_32 ?_
          refine n_name (fun v_32 e_32 => ?_)
          have b_32 : v_32 < 16777216 := by rw [e_32]; exact hR.hB _ _
          refine j_aload_n X dX6_rankOf_35 rfl 2 rfl ?_
          refine jc_pget X ly_X0 hm hp rfl 0 (by decide) f_X6_132 rfl dX6_rankOf_36 ?_
          refine n_name (fun v_36 e_36 => ?_)
          have b_36 : v_36 < 16777216 := by rw [e_36]; exact hR.hB _ _
          refine n_icmp_ne (tgt := 99) X dX6_rankOf_39 (by decide) (by omega) (by omega) (fun c_39 => ?_) (fun c_39 => ?_)
          · refine n_iinc X [(5, _), (6, _), (0, _), (1, _), (2, _), (3, _), (4, _)] dX6_rankOf_99 (q := 6) (b := 1) rfl (by decide) (by decide) rfl ?_
            refine j_goto (tgt := 6) X dX6_rankOf_102 (by decide) ?_
            exact j_sub [2, 3, 4, 5, 6, 0] rfl (ih6 _ _ (by omega) (by rw [sm_s, hs]; rw [show oldB S' c i = false from by rw [hg.old]; simp; omega]; rfl) (by omega))
          · refine j_aload_n X dX6_rankOf_42 rfl 1 rfl ?_
            refine j_aload X dX6_rankOf_43 0 rfl ?_
            refine j_iload X dX6_rankOf_45 6 rfl ?_
            refine j_iload_n X dX6_rankOf_47 rfl 4 rfl ?_
            refine jc_call16I3 (mc := 0) (ms := 0) X hK (m_X6_pays hR _ (by omega) m_22 p_22 _ hg) m_X6_226 rfl (by decide) (by decide) (Nat.le_of_ble_eq_true rfl) ⟨by decide, by decide⟩ dX6_rankOf_48 ?_
            rintro _ _ ⟨rfl, rfl⟩
            refine b_if_eq (tgt := 99) X dX6_rankOf_51 (by decide) (fun c_51 => ?_) (fun c_51 => ?_)
            · have h51 : S' 3 i ≠ 1 := of_decide_eq_false c_51
              refine n_iinc X [(5, _), (6, _), (0, _), (1, _), (2, _), (3, _), (4, _)] dX6_rankOf_99 (q := 6) (b := 1) rfl (by decide) (by decide) rfl ?_
              refine j_goto (tgt := 6) X dX6_rankOf_102 (by decide) ?_
              exact j_sub [2, 3, 4, 5, 6, 0] rfl (ih6 _ _ (by omega) (by rw [sm_s, hs]; rw [show oldB S' c i = false from by rw [hg.old]; simp; omega]; rfl) (by omega))
            · have h51 : S' 3 i = 1 := of_decide_eq_true c_51
              refine j_aload X dX6_rankOf_54 0 rfl ?_
              refine jc_pget X ly_X0 m_22 p_22 rfl 1 (by decide) f_X6_75 rfl dX6_rankOf_56 ?_
              refine n_name (fun v_56 e_56 => ?_)
              have b_56 : v_56 < 16777216 := by rw [e_56]; exact hR.hB _ _
              refine j_aload_n X dX6_rankOf_59 rfl 2 rfl ?_
              refine jc_pget X ly_X0 hm hp rfl 1 (by decide) f_X6_75 rfl dX6_rankOf_60 ?_
              refine n_name (fun v_60 e_60 => ?_)
              have b_60 : v_60 < 16777216 := by rw [e_60]; exact hR.hB _ _
              refine n_icmp_ne (tgt := 70) X dX6_rankOf_63 (by decide) (by omega) (by omega) (fun c_63 => ?_) (fun c_63 => ?_)
              · refine j_iconst (v := nI 0) X dX6_rankOf_70 (by decide) ?_
                refine j_istore X [(7, _), (6, _), (0, _), (1, _), (2, _), (3, _), (4, _), (5, _)] dX6_rankOf_71 (by decide) rfl ?_
                refine j_aload X dX6_rankOf_73 1 rfl ?_
                refine jc_pget X ly_X0 m_22 p_22 rfl 1 (by decide) f_X6_75 rfl dX6_rankOf_75 ?_
                refine n_name (fun v_75 e_75 => ?_)
                have b_75 : v_75 < 16777216 := by rw [e_75]; exact hR.hB _ _
                refine j_aload_n X dX6_rankOf_78 rfl 3 rfl ?_
                refine jc_pget X ly_X0 hm hp rfl 1 (by decide) f_X6_75 rfl dX6_rankOf_79 ?_
                refine n_name (fun v_79 e_79 => ?_)
                have b_79 : v_79 < 16777216 := by rw [e_79]; exact hR.hB _ _
                refine n_icmp_gt (tgt := 96) X dX6_rankOf_82 (by decide) (by omega) (by omega) (fun c_82 => ?_) (fun c_82 => ?_)
                · refine n_iinc X [(4, _), (7, _), (6, _), (0, _), (1, _), (2, _), (3, _), (5, _)] dX6_rankOf_96 (q := 6) (b := 1) rfl (by decide) (by decide) rfl ?_
                  refine n_iinc X [(5, _), (4, _), (7, _), (6, _), (0, _), (1, _), (2, _), (3, _)] dX6_rankOf_99 (q := 7) (b := 1) rfl (by decide) (by decide) rfl ?_
                  refine j_goto (tgt := 6) X dX6_rankOf_102 (by decide) ?_
                  exact j_sub [4, 5, 6, 7, 1, 0] rfl (ih6 _ _ (by omega) (by rw [sm_s, hs]; rw [show oldB S' c i = true from by rw [hg.old]; simp; omega]; rfl) (by omega))
                · refine j_iload X dX6_rankOf_85 0 rfl ?_
                  refine n_if_eq (tgt := 99) X dX6_rankOf_87 (by decide) (by omega) (fun c_87 => ?_) (fun c_87 => ?_)
                  · refine n_iinc X [(5, _), (7, _), (6, _), (0, _), (1, _), (2, _), (3, _), (4, _)] dX6_rankOf_99 (q := 7) (b := 1) rfl (by decide) (by decide) rfl ?_
                    refine j_goto (tgt := 6) X dX6_rankOf_102 (by decide) ?_
                    exact j_sub [3, 4, 5, 6, 7, 0] rfl (ih6 _ _ (by omega) (by rw [sm_s, hs]; rw [show oldB S' c i = false from by rw [hg.old]; simp; omega]; rfl) (by omega))
                  · refine j_iload X dX6_rankOf_90 7 rfl ?_
                    refine j_iload_n X dX6_rankOf_92 rfl 4 rfl ?_
                    refine n_icmp_ge (tgt := 99) X dX6_rankOf_93 (by decide) (by omega) (by omega) (fun c_93 => ?_) (fun c_93 => ?_)
                    · refine n_iinc X [(5, _), (7, _), (6, _), (0, _), (1, _), (2, _), (3, _), (4, _)] dX6_rankOf_99 (q := 7) (b := 1) rfl (by decide) (by decide) rfl ?_
                      refine j_goto (tgt := 6) X dX6_rankOf_102 (by decide) ?_
                      exact j_sub [3, 4, 5, 6, 7, 0] rfl (ih6 _ _ (by omega) (by rw [sm_s, hs]; rw [show oldB S' c i = false from by rw [hg.old]; simp; omega]; rfl) (by omega))
                    · refine n_iinc X [(4, _), (7, _), (6, _), (0, _), (1, _), (2, _), (3, _), (5, _)] dX6_rankOf_96 (q := 6) (b := 1) rfl (by decide) (by decide) rfl ?_
                      refine n_iinc X [(5, _), (4, _), (7, _), (6, _), (0, _), (1, _), (2, _), (3, _)] dX6_rankOf_99 (q := 7) (b := 1) rfl (by decide) (by decide) rfl ?_
                      refine j_goto (tgt := 6) X dX6_rankOf_102 (by decide) ?_
                      exact j_sub [4, 5, 6, 7, 1, 0] rfl (ih6 _ _ (by omega) (by rw [sm_s, hs]; rw [show oldB S' c i = true from by rw [hg.old]; simp; omega]; rfl) (by omega))
              · refine j_iconst (v := nI 1) X dX6_rankOf_66 (by decide) ?_
                refine j_goto (tgt := 71) X dX6_rankOf_67 (by decide) ?_
                refine j_istore X [(7, _), (6, _), (0, _), (1, _), (2, _), (3, _), (4, _), (5, _)] dX6_rankOf_71 (by decide) rfl ?_
                refine j_aload X dX6_rankOf_73 1 rfl ?_
                refine jc_pget X ly_X0 m_22 p_22 rfl 1 (by decide) f_X6_75 rfl dX6_rankOf_75 ?_
                refine n_name (fun v_75 e_75 => ?_)
                have b_75 : v_75 < 16777216 := by rw [e_75]; exact hR.hB _ _
                refine j_aload_n X dX6_rankOf_78 rfl 3 rfl ?_
                refine jc_pget X ly_X0 hm hp rfl 1 (by decide) f_X6_75 rfl dX6_rankOf_79 ?_
                refine n_name (fun v_79 e_79 => ?_)
                have b_79 : v_79 < 16777216 := by rw [e_79]; exact hR.hB _ _
                refine n_icmp_gt (tgt := 96) X dX6_rankOf_82 (by decide) (by omega) (by omega) (fun c_82 => ?_) (fun c_82 => ?_)
                · refine n_iinc X [(4, _), (7, _), (6, _), (0, _), (1, _), (2, _), (3, _), (5, _)] dX6_rankOf_96 (q := 6) (b := 1) rfl (by decide) (by decide) rfl ?_
                  refine n_iinc X [(5, _), (4, _), (7, _), (6, _), (0, _), (1, _), (2, _), (3, _)] dX6_rankOf_99 (q := 7) (b := 1) rfl (by decide) (by decide) rfl ?_
                  refine j_goto (tgt := 6) X dX6_rankOf_102 (by decide) ?_
                  exact j_sub [4, 5, 6, 7, 1, 0] rfl (ih6 _ _ (by omega) (by rw [sm_s, hs]; rw [show oldB S' c i = true from by rw [hg.old]; simp; omega]; rfl) (by omega))
                · refine j_iload X dX6_rankOf_85 0 rfl ?_
                  refine n_if_eq (tgt := 99) X dX6_rankOf_87 (by decide) (by omega) (fun c_87 => ?_) (fun c_87 => ?_)
                  · refine n_iinc X [(5, _), (7, _), (6, _), (0, _), (1, _), (2, _), (3, _), (4, _)] dX6_rankOf_99 (q := 7) (b := 1) rfl (by decide) (by decide) rfl ?_
                    refine j_goto (tgt := 6) X dX6_rankOf_102 (by decide) ?_
                    exact j_sub [3, 4, 5, 6, 7, 0] rfl (ih6 _ _ (by omega) (by rw [sm_s, hs]; rw [show oldB S' c i = false from by rw [hg.old]; simp; omega]; rfl) (by omega))
                  · refine j_iload X dX6_rankOf_90 7 rfl ?_
                    refine j_iload_n X dX6_rankOf_92 rfl 4 rfl ?_
                    refine n_icmp_ge (tgt := 99) X dX6_rankOf_93 (by decide) (by omega) (by omega) (fun c_93 => ?_) (fun c_93 => ?_)
                    · refine n_iinc X [(5, _), (7, _), (6, _), (0, _), (1, _), (2, _), (3, _), (4, _)] dX6_rankOf_99 (q := 7) (b := 1) rfl (by decide) (by decide) rfl ?_
                      refine j_goto (tgt := 6) X dX6_rankOf_102 (by decide) ?_
                      exact j_sub [3, 4, 5, 6, 7, 0] rfl (ih6 _ _ (by omega) (by rw [sm_s, hs]; rw [show oldB S' c i = false from by rw [hg.old]; simp; omega]; rfl) (by omega))
                    · refine n_iinc X [(4, _), (7, _), (6, _), (0, _), (1, _), (2, _), (3, _), (5, _)] dX6_rankOf_96 (q := 6) (b := 1) rfl (by decide) (by decide) rfl ?_
                      refine n_iinc X [(5, _), (4, _), (7, _), (6, _), (0, _), (1, _), (2, _), (3, _)] dX6_rankOf_99 (q := 7) (b := 1) rfl (by decide) (by decide) rfl ?_
                      refine j_goto (tgt := 6) X dX6_rankOf_102 (by decide) ?_
                      exact j_sub [4, 5, 6, 7, 1, 0] rfl (ih6 _ _ (by omega) (by rw [sm_s, hs]; rw [show oldB S' c i = true from by rw [hg.old]; simp; omega]; rfl) (by omega))
        · refine j_astoreN X [(6, _), (0, _), (1, _), (2, _), (3, _), (4, _), (5, _)] dX6_rankOf_23 (by decide) rfl ?_
          refine j_aloadN X dX6_rankOf_25 0 rfl ?_
          refine j_ifnullN (tgt := 99) X dX6_rankOf_27 (by decide) ?_
          refine n_iinc X [(5, _), (6, _), (0, _), (1, _), (2, _), (3, _), (4, _)] dX6_rankOf_99 (q := 6) (b := 1) rfl (by decide) (by decide) rfl ?_
          refine j_goto (tgt := 6) X dX6_rankOf_102 (by decide) ?_
          exact j_sub [2, 3, 4, 5, 6, 0] rfl (ih6 _ _ (by omega) (by rw [sm_s, hs]; rw [show oldB S' c i = false from by rw [hg.old]; simp; omega]; rfl) (by omega))
  exact j_sub [2, 3, 4, 5, 1, 0] rfl (L6 25 _ _ (by omega) (by rfl) (by omega))
theorem lk2 {v : Nat} (h : 2 ≤ v) (h2 : v < 2147483648) : Op.lookupswitch.offset (#[(0, 25), (1, 28)] : Array (Int × Int)).toList 31 (nI v).toInt = 31 := by
  rw [nI_toInt (show v < 2 ^ 31 from h2)]
  simp [Op.lookupswitch.offset]
  omega
set_option maxRecDepth 100000 in
set_option maxHeartbeats 4000000 in
theorem m_X6_percentageOf {S : MS} {G : Nat → Nat} {T : CT} {e : CE} (hR : RG S G T e) {a : Nat} (c : Nat) (hc : c < 24) (hm : a ∈ eL e) (hp : eP e a = chE S c) (g : Int32) {S' : MS} (hg : GU S g S') : CF zX6_percentageOf 16 3 0 0 [.ref a, .int (nI c), .int g] (T, e) (pNc (T, e) (pctN (rankN S' c)) 100) := by
  intro D Y ad
  refine MT.of [(0, .ref (ad 16)), (1, .ref a), (2, .int (nI c)), (3, .int g)] (by decide) rfl (Nat.le_of_ble_eq_true rfl) ?_
  intro K hK X E
  refine j_aload_n X dX6_percentageOf_0 rfl 0 rfl ?_
  refine j_aload_n X dX6_percentageOf_1 rfl 1 rfl ?_
  refine j_iload_n X dX6_percentageOf_2 rfl 2 rfl ?_
  refine j_iload_n X dX6_percentageOf_3 rfl 3 rfl ?_
  refine jc_call16I3 (mc := 0) (ms := 0) X hK (m_X6_rankOf hR _ hc hm hp _ hg) m_X6_233 rfl (by decide) (by decide) (Nat.le_of_ble_eq_true rfl) ⟨by decide, by decide⟩ dX6_percentageOf_4 ?_
  rintro _ _ ⟨v_4, e_4, b_4, rfl, rfl⟩
  rcases (show v_4 = 0 ∨ v_4 = 1 ∨ 2 ≤ v_4 by omega) with q4 | q4 | q4
  · refine j_lookup (off := 25) (tgt := 32) X dX6_percentageOf_7 (by decide) (by rw [q4]; decide) (by decide) ?_
    refine j_bipush (v := nI 100) X dX6_percentageOf_32 (by decide) ?_
    exact j_ireturn X E ((T, e)) rfl ⟨_, rfl, _, by rw [← e_4]; unfold pctN; (repeat (first | rw [if_pos (by omega)] | rw [if_neg (by omega)])), by omega, rfl, rfl⟩ dX6_percentageOf_34
  · refine j_lookup (off := 28) (tgt := 35) X dX6_percentageOf_7 (by decide) (by rw [q4]; decide) (by decide) ?_
    refine j_bipush (v := nI 70) X dX6_percentageOf_35 (by decide) ?_
    exact j_ireturn X E ((T, e)) rfl ⟨_, rfl, _, by rw [← e_4]; unfold pctN; (repeat (first | rw [if_pos (by omega)] | rw [if_neg (by omega)])), by omega, rfl, rfl⟩ dX6_percentageOf_37
  · refine j_lookup (off := 31) (tgt := 38) X dX6_percentageOf_7 (by decide) (lk2 q4 (by omega)) (by decide) ?_
    refine j_bipush (v := nI 40) X dX6_percentageOf_38 (by decide) ?_
    exact j_ireturn X E ((T, e)) rfl ⟨_, rfl, _, by rw [← e_4]; unfold pctN; (repeat (first | rw [if_pos (by omega)] | rw [if_neg (by omega)])), by omega, rfl, rfl⟩ dX6_percentageOf_40
