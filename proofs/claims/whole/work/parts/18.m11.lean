set_option maxRecDepth 100000 in
set_option maxHeartbeats 4000000 in
theorem m_X7_admit (S : MS) (hB : BD S) (hI : IV S) : MM zX7_admit 6 [] S (pS (nI (admC 25 S)) (admF 25 S)) := by
  intro D Y h0 ad
  refine MT.of [(0, .ref h0)] (by decide) rfl (Nat.le_of_ble_eq_true rfl) ?_
  intro K hR X E
  refine j_iconst (v := nI 0) X dX7_admit_0 (by decide) ?_
  refine j_istore_n X [(1, _), (0, _)] dX7_admit_1 rfl (by decide) rfl ?_
  refine j_iconst (v := nI 0) X dX7_admit_2 (by decide) ?_
  refine j_istore_n X [(2, _), (1, _), (0, _)] dX7_admit_3 rfl (by decide) rfl ?_
  have L4 : ∀ (n : Nat) (f many : Nat) (nx : Int32) (T : MS), (nx ≠ -9 → admF 25 S = admF f T ∧ admC 25 S = many + admC f T) → (nx = -9 → admF 25 S = T ∧ admC 25 S = many) → (nx ≠ -9 → wtN T < f) → (BD T) → (IV T) → (f + 1 ≤ n) → JJ K D 0 0 (WM h0 ad Y T) [(0, .ref h0), (1, .int (nI many)), (2, .int nx)] 4 [] := by
    intro n
    induction n with
    | zero =>
      intro f many nx T hF hE hw hBT hIT hf4
      exact absurd hf4 (by omega)
    | succ n4 ih4 =>
      intro f many nx T hF hE hw hBT hIT hf4
      refine j_iload_n X dX7_admit_4 rfl 2 rfl ?_
      refine j_bipush (v := (-9)) X dX7_admit_5 (by decide) ?_
      refine j_icmp_eq (tgt := 83) X dX7_admit_7 (by decide) (fun c_7 => ?_) (fun c_7 => ?_)
      · obtain ⟨hE1, hE2⟩ := hE c_7
        refine j_iload_n X dX7_admit_83 rfl 1 rfl ?_
        exact j_ireturn X E (T) rfl ⟨_, rfl, by rw [hE2], hE1, hBT, hIT⟩ dX7_admit_84
      · obtain ⟨hF1, hF2⟩ := hF c_7
        have hw1 := hw c_7
        obtain ⟨f, rfl⟩ : ∃ k, f = k + 1 := ⟨f - 1, by omega⟩
        rw [admF_s f T] at hF1
        rw [admC_s f T] at hF2
        refine j_bipush (v := (-9)) X dX7_admit_10 (by decide) ?_
        refine j_istore_n X [(2, _), (0, _), (1, _)] dX7_admit_12 rfl (by decide) rfl ?_
        refine j_iconst (v := nI 0) X dX7_admit_13 (by decide) ?_
        refine j_istore_n X [(3, _), (2, _), (0, _), (1, _)] dX7_admit_14 rfl (by decide) rfl ?_
        have L15 : ∀ (n : Nat) (c : Nat) (o : Option Nat), (c ≤ 24) → (o = nxt T c) → (24 + 1 ≤ c + n) → JJ K D 0 0 (WM h0 ad Y T) [(0, .ref h0), (1, .int (nI many)), (2, .int (oI o)), (3, .int (nI c))] 15 [] := by
          intro n
          induction n with
          | zero =>
            intro c o hc ho hf15
            exact absurd hf15 (by omega)
          | succ n15 ih15 =>
            intro c o hc ho hf15
            refine j_iload_n X dX7_admit_15 rfl 3 rfl ?_
            refine j_bipush (v := nI 24) X dX7_admit_16 (by decide) ?_
            refine n_icmp_ge (tgt := 64) X dX7_admit_18 (by decide) (by omega) (by omega) (fun c_18 => ?_) (fun c_18 => ?_)
            · have hc24 : c = 24 := by omega
              subst hc24
              refine j_iload_n X dX7_admit_64 rfl 2 rfl ?_
              refine j_bipush (v := (-9)) X dX7_admit_65 (by decide) ?_
              refine j_icmp_eq (tgt := 4) X dX7_admit_67 (by decide) (fun c_67 => ?_) (fun c_67 => ?_)
              · have hon := oI_9 (fun b hb => by have := nxt_lt (S := T) (ho ▸ hb : nxt T 24 = some b); omega) c_67
                subst hon
                rw [← ho] at hF1 hF2
                dsimp only at hF1 hF2
                exact j_sub [0, 1, 2] rfl (ih4 f many (oI none) T (by intro q; exact absurd rfl q) (by intro _; exact ⟨hF1, by omega⟩) (by intro q; exact absurd rfl q) (by exact hBT) (by exact hIT) (by omega))
              · obtain ⟨b, rfl⟩ := oI_n9 c_67
                have hb24 : b < 24 := nxt_lt ho.symm
                rw [show oI (some b) = nI b from rfl]
                rw [← ho] at hF1 hF2
                dsimp only at hF1 hF2
                have hwt := nxt_wt ho.symm
                refine j_aload_n X dX7_admit_70 rfl 0 rfl ?_
                refine jm_get X 4 (by decide) rfl f_X7_19 dX7_admit_71 ?_
                refine j_iload_n X dX7_admit_74 rfl 2 rfl ?_
                refine j_iconst (v := nI 1) X dX7_admit_75 (by decide) ?_
                refine jm_ast2 X hBT (by decide) (by show _ < 24; omega) (by omega) dX7_admit_76 (fun S_76 eS_76 hB_76 => ?_)
                have hI2 : IV S_76 := by rw [eS_76]; exact IV_adm hIT (by omega)
                have hwl := wtN_adm hb24 hwt.1
                refine n_iinc X [(1, _), (0, _), (2, _), (3, _)] dX7_admit_77 (q := 1) (b := 1) rfl (by decide) (by decide) rfl ?_
                refine j_goto (tgt := 4) X dX7_admit_80 (by decide) ?_
                exact j_sub [1, 0, 2] rfl (ih4 f (many + 1) (nI b) S_76 (by intro _; rw [eS_76]; exact ⟨hF1, by rw [hF2, Nat.add_assoc many 1, Nat.add_comm 1]⟩) (by intro q; exact absurd q (nI_n9 (by omega))) (by intro _; rw [eS_76]; omega) (by exact hB_76) (by exact hI2) (by omega))
            · refine j_aload_n X dX7_admit_21 rfl 0 rfl ?_
              refine j_iload_n X dX7_admit_22 rfl 3 rfl ?_
              refine jm_callI1 X hR (m_X7_isWaiting T hBT _ (by omega)) m_X7_133 rfl (by decide) (by decide) (Nat.le_of_ble_eq_true rfl) ⟨by decide, by decide⟩ dX7_admit_23 ?_
              rintro _ _ ⟨rfl, rfl⟩
              refine b_if_eq (tgt := 58) X dX7_admit_26 (by decide) (fun c_26 => ?_) (fun c_26 => ?_)
              · refine n_iinc X [(3, _), (0, _), (1, _), (2, _)] dX7_admit_58 (q := 3) (b := 1) rfl (by decide) (by decide) rfl ?_
                refine j_goto (tgt := 15) X dX7_admit_61 (by decide) ?_
                exact j_sub [1, 2, 3, 0] rfl (ih15 (c + 1) o (by omega) (by exact nxt_no ho (by rw [c_26]; rfl)) (by omega))
              · refine j_aload_n X dX7_admit_29 rfl 0 rfl ?_
                refine j_iload_n X dX7_admit_30 rfl 3 rfl ?_
                refine jm_callI1 X hR (m_X7_canBeAdmitted T hBT hIT _ (by omega)) m_X7_142 rfl (by decide) (by decide) (Nat.le_of_ble_eq_true rfl) ⟨by decide, by decide⟩ dX7_admit_31 ?_
                rintro _ _ ⟨rfl, rfl⟩
                refine b_if_eq (tgt := 58) X dX7_admit_34 (by decide) (fun c_34 => ?_) (fun c_34 => ?_)
                · refine n_iinc X [(3, _), (0, _), (1, _), (2, _)] dX7_admit_58 (q := 3) (b := 1) rfl (by decide) (by decide) rfl ?_
                  refine j_goto (tgt := 15) X dX7_admit_61 (by decide) ?_
                  exact j_sub [1, 2, 3, 0] rfl (ih15 (c + 1) o (by omega) (by exact nxt_no ho (by rw [c_26, c_34]; rfl)) (by omega))
                · have hwa : (isWt T c && admB T c) = true := by rw [c_26, c_34]; rfl
                  refine j_iload_n X dX7_admit_37 rfl 2 rfl ?_
                  refine j_bipush (v := (-9)) X dX7_admit_38 (by decide) ?_
                  refine j_icmp_eq (tgt := 52) X dX7_admit_40 (by decide) (fun c_40 => ?_) (fun c_40 => ?_)
                  · have hon := oI_9 (fun b hb => by have := nxt_lt (S := T) (ho ▸ hb : nxt T c = some b); omega) c_40
                    subst hon
                    refine j_iload_n X dX7_admit_52 rfl 3 rfl ?_
                    refine j_goto (tgt := 57) X dX7_admit_53 (by decide) ?_
                    refine j_istore_n X [(2, _), (0, _), (1, _), (3, _)] dX7_admit_57 rfl (by decide) rfl ?_
                    refine n_iinc X [(3, _), (2, _), (0, _), (1, _)] dX7_admit_58 (q := 3) (b := 1) rfl (by decide) (by decide) rfl ?_
                    refine j_goto (tgt := 15) X dX7_admit_61 (by decide) ?_
                    exact j_sub [2, 3, 1, 0] rfl (ih15 (c + 1) (some c) (by omega) (by exact nxt_0 ho hwa) (by omega))
                  · obtain ⟨b, rfl⟩ := oI_n9 c_40
                    have hb24 : b < 24 := by have := nxt_lt ho.symm; omega
                    rw [show oI (some b) = nI b from rfl]
                    refine j_aload_n X dX7_admit_43 rfl 0 rfl ?_
                    refine j_iload_n X dX7_admit_44 rfl 3 rfl ?_
                    refine j_iload_n X dX7_admit_45 rfl 2 rfl ?_
                    refine jm_callI2 X hR (m_X7_isBefore T hBT hIT _ _ (by omega) (by omega)) m_X7_136 rfl (by decide) (by decide) (Nat.le_of_ble_eq_true rfl) ⟨by decide, by decide⟩ dX7_admit_46 ?_
                    rintro _ _ ⟨rfl, rfl⟩
                    refine b_if_eq (tgt := 56) X dX7_admit_49 (by decide) (fun c_49 => ?_) (fun c_49 => ?_)
                    · refine j_iload_n X dX7_admit_56 rfl 2 rfl ?_
                      refine j_istore_n X [(2, _), (0, _), (1, _), (3, _)] dX7_admit_57 rfl (by decide) rfl ?_
                      refine n_iinc X [(3, _), (2, _), (0, _), (1, _)] dX7_admit_58 (q := 3) (b := 1) rfl (by decide) (by decide) rfl ?_
                      refine j_goto (tgt := 15) X dX7_admit_61 (by decide) ?_
                      exact j_sub [2, 3, 1, 0] rfl (ih15 (c + 1) (some b) (by omega) (by exact nxt_2 ho hwa c_49) (by omega))
                    · refine j_iload_n X dX7_admit_52 rfl 3 rfl ?_
                      refine j_goto (tgt := 57) X dX7_admit_53 (by decide) ?_
                      refine j_istore_n X [(2, _), (0, _), (1, _), (3, _)] dX7_admit_57 rfl (by decide) rfl ?_
                      refine n_iinc X [(3, _), (2, _), (0, _), (1, _)] dX7_admit_58 (q := 3) (b := 1) rfl (by decide) (by decide) rfl ?_
                      refine j_goto (tgt := 15) X dX7_admit_61 (by decide) ?_
                      exact j_sub [2, 3, 1, 0] rfl (ih15 (c + 1) (some c) (by omega) (by exact nxt_1 ho hwa c_49) (by omega))
        exact j_sub [2, 3, 1, 0] rfl (L15 25 0 none (by omega) (by rfl) (by omega))
  exact j_sub [2, 1, 0] rfl (L4 26 25 0 _ S (by intro _; exact ⟨rfl, by omega⟩) (by intro q; exact absurd q (by decide)) (by intro _; have := wtN_le S; omega) (by exact hB) (by exact hI) (by omega))
