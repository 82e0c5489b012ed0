set_option maxRecDepth 100000 in
set_option maxHeartbeats 4000000 in
theorem m_X7_needOf (S : MS) (hB : BD S) (hI : IV S) (d h : Nat) (m : Int32) (hd : d < 5) (hh : h < 10) (hm : isMore m) : MM zX7_needOf 3 [.int (nI d), .int (nI h), .int m] S (pN S (needN S d h m) 700000) := by
  intro D Y h0 ad
  refine MT.of [(0, .ref h0), (1, .int (nI d)), (2, .int (nI h)), (3, .int m)] (by decide) rfl (Nat.le_of_ble_eq_true rfl) ?_
  intro K hR X E
  refine j_iconst (v := nI 0) X dX7_needOf_0 (by decide) ?_
  refine j_istore X [(4, _), (0, _), (1, _), (2, _), (3, _)] dX7_needOf_1 (by decide) rfl ?_
  refine j_aload_n X dX7_needOf_3 rfl 1 rfl ?_
  refine jm_get X 12 (by decide) rfl f_X7_43 dX7_needOf_4 ?_
  refine j_iconst (v := nI 0) X dX7_needOf_7 (by decide) ?_
  refine jm_ald X hB (by decide) (by show _ < 3; omega) dX7_needOf_8 (fun v_8 e_8 b_8 => ?_)
  refine j_aload_n X dX7_needOf_9 rfl 1 rfl ?_
  refine jm_get X 12 (by decide) rfl f_X7_43 dX7_needOf_10 ?_
  refine j_iconst (v := nI 1) X dX7_needOf_13 (by decide) ?_
  refine jm_ald X hB (by decide) (by show _ < 3; omega) dX7_needOf_14 (fun v_14 e_14 b_14 => ?_)
  refine n_imul X dX7_needOf_15 ?_
  refine j_aload_n X dX7_needOf_16 rfl 1 rfl ?_
  refine jm_get X 12 (by decide) rfl f_X7_43 dX7_needOf_17 ?_
  refine j_iconst (v := nI 2) X dX7_needOf_20 (by decide) ?_
  refine jm_ald X hB (by decide) (by show _ < 3; omega) dX7_needOf_21 (fun v_21 e_21 b_21 => ?_)
  refine n_imul X dX7_needOf_22 ?_
  have g0 := hI.2.2.2.2.2.1 0 (by omega)
  have g1 := hI.2.2.2.2.2.1 1 (by omega)
  have g2 := hI.2.2.2.2.2.1 2 (by omega)
  have e01 := Nat.mul_le_mul (show v_8 ≤ 20 by omega) (show v_14 ≤ 20 by omega)
  have e012 := Nat.mul_le_mul e01 (show v_21 ≤ 20 by omega)
  have p01 := Nat.mul_pos (show 0 < v_8 by omega) (show 0 < v_14 by omega)
  have p012 := Nat.mul_pos p01 (show 0 < v_21 by omega)
  obtain ⟨a, ea⟩ : ∃ a : Nat, a = v_8 * v_14 * v_21 := ⟨_, rfl⟩
  rw [← ea] at e012 p012 ⊢
  have hall : a = allN S := by rw [ea, e_8, e_14, e_21]; rfl
  refine j_istore X [(5, _), (4, _), (0, _), (1, _), (2, _), (3, _)] dX7_needOf_23 (by decide) rfl ?_
  refine j_iconst (v := nI 0) X dX7_needOf_25 (by decide) ?_
  refine j_istore X [(6, _), (5, _), (4, _), (0, _), (1, _), (2, _), (3, _)] dX7_needOf_26 (by decide) rfl ?_
  have L28 : ∀ (n : Nat) (g s : Nat), (g ≤ 3) → (s = sm (fun g => cntN S d h m g * (allN S / S 11 g)) g) → (s ≤ g * 200000) → (3 + 1 ≤ g + n) → JJ K D 0 0 (WM h0 ad Y S) [(0, .ref h0), (1, .int (nI d)), (2, .int (nI h)), (3, .int m), (4, .int (nI s)), (5, .int (nI a)), (6, .int (nI g))] 28 [] := by
    intro n
    induction n with
    | zero =>
      intro g s hg hs hsb hf28
      exact absurd hf28 (by omega)
    | succ n28 ih28 =>
      intro g s hg hs hsb hf28
      refine j_iload X dX7_needOf_28 6 rfl ?_
      refine j_iconst (v := nI 3) X dX7_needOf_30 (by decide) ?_
      refine n_icmp_ge (tgt := 90) X dX7_needOf_31 (by decide) (by omega) (by omega) (fun c_31 => ?_) (fun c_31 => ?_)
      · have hg3 : g = 3 := by omega
        subst hg3
        refine j_iload X dX7_needOf_90 4 rfl ?_
        refine j_iload X dX7_needOf_92 5 rfl ?_
        refine n_iadd X dX7_needOf_94 ?_
        refine j_iconst (v := nI 1) X dX7_needOf_95 (by decide) ?_
        refine n_isub X dX7_needOf_96 (by omega) ?_
        refine j_iload X dX7_needOf_97 5 rfl ?_
        refine n_idiv X dX7_needOf_99 (by omega) (by omega) (by omega) ?_
        exact j_ireturn X E (S) rfl ⟨_, rfl, _, by rw [hs, hall]; rfl, Nat.le_trans (Nat.div_le_self _ _) (by omega), rfl, rfl⟩ dX7_needOf_100
      · refine j_aload_n X dX7_needOf_34 rfl 0 rfl ?_
        refine j_iload_n X dX7_needOf_35 rfl 1 rfl ?_
        refine j_iload_n X dX7_needOf_36 rfl 2 rfl ?_
        refine j_iload X dX7_needOf_37 6 rfl ?_
        refine jm_callI3 X hR (m_X7_presentOf S hB _ _ _ (by omega) (by omega)) m_X7_102 rfl (by decide) (by decide) (Nat.le_of_ble_eq_true rfl) ⟨by decide, by decide⟩ dX7_needOf_39 ?_
        rintro _ _ ⟨v_39, e_39, b_39, rfl, rfl⟩
        have L63 : ∀ (k : Nat), (k = addN S m g) → JJ K D 0 0 (WM h0 ad Y S) [(0, .ref h0), (1, .int (nI d)), (2, .int (nI h)), (3, .int m), (4, .int (nI s)), (5, .int (nI a)), (6, .int (nI g))] 63 [.int (nI k), .int (nI v_39)] := by
          intro k hk
          have hk1 : k ≤ 1 := by rw [hk]; exact ct_le _
          refine n_iadd X dX7_needOf_63 ?_
          refine j_istore X [(7, _), (0, _), (1, _), (2, _), (3, _), (4, _), (5, _), (6, _)] dX7_needOf_64 (by decide) rfl ?_
          refine j_iload X dX7_needOf_66 5 rfl ?_
          refine j_iload X dX7_needOf_68 0 rfl ?_
          refine j_iload X dX7_needOf_70 6 rfl ?_
          refine j_aload_n X dX7_needOf_72 rfl 1 rfl ?_
          refine jm_get X 12 (by decide) rfl f_X7_43 dX7_needOf_73 ?_
          refine j_iload X dX7_needOf_76 7 rfl ?_
          refine jm_ald X hB (by decide) (by show _ < 3; omega) dX7_needOf_78 (fun v_78 e_78 b_78 => ?_)
          have h78 := hI.2.2.2.2.2.1 g (by omega)
          refine n_idiv X dX7_needOf_79 (by omega) (by omega) (by omega) ?_
          refine n_imul X dX7_needOf_80 ?_
          refine n_iadd X dX7_needOf_81 ?_
          refine j_istore X [(4, _), (7, _), (0, _), (1, _), (2, _), (3, _), (5, _), (6, _)] dX7_needOf_82 (by decide) rfl ?_
          refine n_iinc X [(6, _), (4, _), (7, _), (0, _), (1, _), (2, _), (3, _), (5, _)] dX7_needOf_84 (q := 7) (b := 1) rfl (by decide) (by decide) rfl ?_
          refine j_goto (tgt := 28) X dX7_needOf_87 (by decide) ?_
          exact j_sub [3, 4, 5, 6, 1, 7, 0] rfl (ih28 _ _ (by omega) (by rw [sm_s, hs]; subst e_78; rw [hall]; simp only [cntN, e_39, hk]) (by have := Nat.mul_le_mul (show v_39 + k ≤ 25 by omega) (Nat.div_le_self a v_78); omega) (by omega))
        refine j_iload_n X dX7_needOf_42 rfl 3 rfl ?_
        refine j_bipush (v := (-9)) X dX7_needOf_43 (by decide) ?_
        refine j_icmp_eq (tgt := 62) X dX7_needOf_45 (by decide) (fun c_45 => ?_) (fun c_45 => ?_)
        · refine j_iconst (v := nI 0) X dX7_needOf_62 (by decide) ?_
          exact j_sub [0, 1, 2, 3, 4, 5, 6] rfl (L63 _ (by simp [addN, ct, c_31, c_45, *]) )
        · obtain ⟨mc, hmc, rfl⟩ := hm.resolve_left c_45
          have hcl := nI_clamp (n := mc) (by omega)
          refine j_aload_n X dX7_needOf_48 rfl 0 rfl ?_
          refine j_iload_n X dX7_needOf_49 rfl 3 rfl ?_
          refine jm_callI1 X hR (m_X7_ageGroup S hB _ (by omega)) m_X7_99 rfl (by decide) (by decide) (Nat.le_of_ble_eq_true rfl) ⟨by decide, by decide⟩ dX7_needOf_50 ?_
          rintro _ _ ⟨v_50, e_50, b_50, rfl, rfl⟩
          subst e_50
          refine j_iload X dX7_needOf_53 6 rfl ?_
          refine n_icmp_ne (tgt := 62) X dX7_needOf_55 (by decide) (by omega) (by omega) (fun c_55 => ?_) (fun c_55 => ?_)
          · refine j_iconst (v := nI 0) X dX7_needOf_62 (by decide) ?_
            exact j_sub [0, 1, 2, 3, 4, 5, 6] rfl (L63 _ (by simp [addN, ct, c_31, c_45, c_55, *]) )
          · refine j_iconst (v := nI 1) X dX7_needOf_58 (by decide) ?_
            refine j_goto (tgt := 63) X dX7_needOf_59 (by decide) ?_
            exact j_sub [0, 1, 2, 3, 4, 5, 6] rfl (L63 _ (by simp [addN, ct, c_31, c_45, c_55, *]) )
  exact j_sub [3, 4, 5, 6, 2, 1, 0] rfl (L28 4 _ _ (by omega) (by rfl) (by omega) (by omega))
