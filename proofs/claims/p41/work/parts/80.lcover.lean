/-- the same off the rows l -/
def OFQ (l : List Nat) (Q Q' : MS) : Prop := ∀ a j, a ∉ l → Q' a j = Q a j
theorem OFQ.refl (l : List Nat) (Q : MS) : OFQ l Q Q := fun _ _ _ => rfl
theorem OFQ.trans {l : List Nat} {Q Q' Q'' : MS} (h : OFQ l Q Q') (h2 : OFQ l Q' Q'') : OFQ l Q Q'' := fun a j ha => (h2 a j ha).trans (h a j ha)
theorem OFQ.mono {l l' : List Nat} {Q Q' : MS} (h : OFQ l Q Q') (hl : ∀ a, a ∈ l → a ∈ l') : OFQ l' Q Q' := fun a j ha => h a j (fun q => ha (hl a q))
theorem OFQ.u {l : List Nat} {Q Q' Q'' : MS} {k d v : Nat} (e : Q'' = uM Q' k d v) (h : OFQ l Q Q') (hk : k ∈ l) : OFQ l Q Q'' := fun a j ha => by
  have hne : a ≠ k := fun q => ha (by rw [q]; exact hk)
  rw [e, uM_nk hne]
  exact h a j ha
theorem fill_s {Q1 Q2 : MS} {k d v : Nat} {f : Nat → Nat} (e : Q2 = uM Q1 k d v) (hl : ∀ j, j < d → Q1 k j = f j) (hv : v = f d) : ∀ j, j < d + 1 → Q2 k j = f j := fun j hj => by
  by_cases q : j = d
  · rw [e, q, uM_eq, hv]
  · rw [e, uM_ni q]
    exact hl j (by omega)
theorem LR.off {S : MS} {nc me : Nat} {Q Q' : MS} (h : LR S nc me Q) (ho : ∀ a j, a < 6 → Q' a j = Q a j) : LR S nc me Q' := by
  obtain ⟨⟨a1, a2, a3⟩, ⟨b1, b2, b3, b4⟩, d1, d2, d3, d4⟩ := h
  have e0 : Q' 0 = Q 0 := funext fun j => ho 0 j (by omega)
  have e1 : Q' 1 = Q 1 := funext fun j => ho 1 j (by omega)
  have e2 : Q' 2 = Q 2 := funext fun j => ho 2 j (by omega)
  have e3 : Q' 3 = Q 3 := funext fun j => ho 3 j (by omega)
  have e4 : Q' 4 = Q 4 := funext fun j => ho 4 j (by omega)
  refine ⟨⟨a1, ?_, ?_⟩, ⟨b1, b2, ?_, ?_⟩, d1, d2, ?_, ?_⟩
  · rw [e0]; exact a2
  · rw [e0]; exact a3
  · rw [e1]; exact b3
  · rw [e2]; exact b4
  · rw [e3]; exact d3
  · rw [e4]; exact d4
def LU (S : MS) (ma : Nat) (Q : MS) : Prop := ma ≤ 2 ∧ S 21 2 = ma ∧ ∀ k, k < 2 → Q 5 (3 * k) = S 13 k ∧ Q 5 (3 * k + 1) = S 14 k ∧ Q 5 (3 * k + 2) = S 15 k
theorem LU.off {S : MS} {ma : Nat} {Q Q' : MS} (h : LU S ma Q) (ho : ∀ a j, a < 6 → Q' a j = Q a j) : LU S ma Q' := ⟨h.1, h.2.1, fun k hk => by rw [ho 5 _ (by omega), ho 5 _ (by omega), ho 5 _ (by omega)]; exact h.2.2 k hk⟩
theorem two_at {x d : Nat} (hx : x < 1024) (hd : d < 5) : nI x >>> (nI (2 * (4 - d)) &&& 31) &&& nI 3 = nI (ow x d) := by
  rw [pk_shrN (show x < 2 ^ 31 by omega) _ (2 * (4 - d)) (shift_k _ (by omega)), pk_andN (k := 2) (Nat.lt_of_le_of_lt (Nat.div_le_self _ _) (by omega)) (by decide)]
  rfl
theorem and1_at {n : Nat} (hn : n < 1000) : nI n &&& nI 1 = nI (n % 2) := by
  rw [pk_andN (k := 1) (show n < 2 ^ 32 by omega) (by decide)]
theorem shr1_at {n : Nat} (hn : n < 1000) : nI n >>> (nI 1 &&& 31) = nI (n / 2) := by
  rw [pk_shrN (show n < 2 ^ 31 by omega) _ 1 (shift_k 1 (by omega))]
theorem lw_neg {S : MS} (hI : IV S) {o : Option Nat} (h : lwI S o < 0) : o = none := by
  cases o with
  | none => rfl
  | some y => exact absurd h (nI_nneg (by have := cW_le hI y; omega))
theorem lw_nn {S : MS} {o : Option Nat} (h : ¬ lwI S o < 0) : ∃ y, o = some y := by
  cases o with
  | none => exact absurd (show (-1 : Int32) < 0 by decide) h
  | some y => exact ⟨y, rfl⟩
section
variable {K : Ctx} {D : va_G} {Y : Nat → ClassId} {cells slots : Nat} {lv : List (Nat × Value)} {pc : Nat} {st : List Value}
theorem j_drop1 {wl : va_W} {aq : Nat → Nat} {n q : Nat} {Q : MS} (k : JJ K D cells slots (wl ++ LA aq Y n Q) lv pc st) : JJ K D cells slots (wl ++ LA (va_up aq n q) Y (n + 1) Q) lv pc st := by
  have e : LA (va_up aq n q) Y (n + 1) Q = LA aq Y n Q ++ [(q, .inl (Y 0, lenL n, .inl (fun j => nI (Q n j))))] := by
    show (List.range (n + 1)).map _ = _
    rw [List.range_succ, List.map_append]
    congr 1
    · apply List.map_congr_left
      intro k hk
      have := List.mem_range.mp hk
      rw [va_up_ne _ _ (by omega)]
    · show [(va_up aq n q n, (Sum.inl (Y 0, lenL n, Sum.inl (fun j => nI (Q n j))) : va_E))] = _
      rw [va_up_self]
  rw [e, ← List.append_assoc]
  exact fun H locs ls hP hD hS hl => k H locs ls (lP1 hP) (lD1 hD) hS hl
end
section
variable {Y : Nat → ClassId} {wl : va_W} {aq : Nat → Nat} {Q S : MS} {nc me : Nat}
set_option maxRecDepth 100000 in
set_option maxHeartbeats 4000000 in
theorem m_L_cover (hBQ : BD Q) (hB : BD S) (hI : IV S) (hL : LR S nc me Q) {ma : Nat} (hU : LU S ma Q) (w : Nat) (hw : w < 4) : ∀ D : va_G, MT zL_cover 3 2 10 D Y [.int (nI w), .int (nI ma), .ref (aq 0), .ref (aq 1), .ref (aq 2), .ref (aq 3), .ref (aq 4), .ref (aq 5), .ref (aq 6)] (wl ++ LA aq Y 8 Q) (fun u : MS => wl ++ LA aq Y 8 u) (pI (fun r u => cvR S w = r ∧ BD u ∧ OFQ [6, 8, 9] Q u ∧ (cvN S w 5 0 < 1000000 → ∀ d, d < 5 → u 6 d = chN S w d (usA S w d)))) := by
  intro D
  refine MT.of [(0, .int (nI w)), (1, .int (nI ma)), (2, .ref (aq 0)), (3, .ref (aq 1)), (4, .ref (aq 2)), (5, .ref (aq 3)), (6, .ref (aq 4)), (7, .ref (aq 5)), (8, .ref (aq 6))] (by decide) rfl (Nat.le_of_ble_eq_true rfl) ?_
  intro K hR0 X E
  have hR := RO.rm hR0
  have h21 := hU.2.1
  have hma := hU.1
  have h15 := fun k hk => (hI.2.2.2.2.2.2.2.2.1 k hk).2.2
  refine j_iconst (v := nI 5) X dL_cover_0 (by decide) ?_
  refine jl_newI X hR rfl (by decide) (by decide) (by decide) dL_cover_1 (fun q_1 => ?_)
  refine j_astore X [(9, _), (0, _), (1, _), (2, _), (3, _), (4, _), (5, _), (6, _), (7, _), (8, _)] dL_cover_3 (by decide) rfl ?_
  refine j_iconst (v := nI 5) X dL_cover_5 (by decide) ?_
  refine jl_newI X hR rfl (by decide) (by decide) (by decide) dL_cover_6 (fun q_6 => ?_)
  refine j_astore X [(10, _), (9, _), (0, _), (1, _), (2, _), (3, _), (4, _), (5, _), (6, _), (7, _), (8, _)] dL_cover_8 (by decide) rfl ?_
  refine j_iconst (v := nI 0) X dL_cover_10 (by decide) ?_
  refine j_istore X [(11, _), (10, _), (9, _), (0, _), (1, _), (2, _), (3, _), (4, _), (5, _), (6, _), (7, _), (8, _)] dL_cover_11 (by decide) rfl ?_
  have L13 : ∀ (n : Nat) (d : Nat) (Q1 : MS), (d ≤ 5) → (BD Q1) → (OFQ [8, 9] Q Q1) → (∀ j, j < d → Q1 8 j = shN S w j) → (5 + 1 ≤ d + n) → JJ K D 2 10 (wl ++ LA (va_up (va_up aq 8 q_1) 9 q_6) Y 10 Q1) [(0, .int (nI w)), (1, .int (nI ma)), (2, .ref (aq 0)), (3, .ref (aq 1)), (4, .ref (aq 2)), (5, .ref (aq 3)), (6, .ref (aq 4)), (7, .ref (aq 5)), (8, .ref (aq 6)), (9, .ref q_1), (10, .ref q_6), (11, .int (nI d))] 13 [] := by
    intro n
    induction n with
    | zero =>
      intro d Q1 hd hB1 hq hl hf13
      exact absurd hf13 (by omega)
    | succ n13 ih13 =>
      intro d Q1 hd hB1 hq hl hf13
      refine j_iload X dL_cover_13 11 rfl ?_
      refine j_iconst (v := nI 5) X dL_cover_15 (by decide) ?_
      refine n_icmp_ge (tgt := 44) X dL_cover_16 (by decide) (by omega) (by omega) (fun c_16 => ?_) (fun c_16 => ?_)
      · have hd5 : d = 5 := by omega
        subst hd5
        refine j_iconst (v := (-1)) X dL_cover_44 (by decide) ?_
        refine j_istore X [(11, _), (0, _), (1, _), (2, _), (3, _), (4, _), (5, _), (6, _), (7, _), (8, _), (9, _), (10, _)] dL_cover_45 (by decide) rfl ?_
        refine j_iconst (v := nI 0) X dL_cover_47 (by decide) ?_
        refine j_istore X [(12, _), (11, _), (0, _), (1, _), (2, _), (3, _), (4, _), (5, _), (6, _), (7, _), (8, _), (9, _), (10, _)] dL_cover_48 (by decide) rfl ?_
        have L50 : ∀ (n : Nat) (x : Nat) (o : Option Nat) (Q1 : MS), (x ≤ 1024) → (BD Q1) → (OFQ [6, 8, 9] Q Q1) → (∀ j, j < 5 → Q1 8 j = shN S w j) → (BWY S w x o) → (∀ y, o = some y → ∀ d, d < 5 → Q1 6 d = ow y d) → (1024 + 1 ≤ x + n) → JJ K D 2 10 (wl ++ LA (va_up (va_up aq 8 q_1) 9 q_6) Y 10 Q1) [(0, .int (nI w)), (1, .int (nI ma)), (2, .ref (aq 0)), (3, .ref (aq 1)), (4, .ref (aq 2)), (5, .ref (aq 3)), (6, .ref (aq 4)), (7, .ref (aq 5)), (8, .ref (aq 6)), (9, .ref q_1), (10, .ref q_6), (11, .int (lwI S o)), (12, .int (nI x))] 50 [] := by
          intro n
          induction n with
          | zero =>
            intro x o Q1 hx hB1 hq hl hbw hb6 hf50
            exact absurd hf50 (by omega)
          | succ n50 ih50 =>
            intro x o Q1 hx hB1 hq hl hbw hb6 hf50
            refine j_iload X dL_cover_50 12 rfl ?_
            refine j_sipush (v := nI 1024) X dL_cover_52 (by decide) ?_
            refine n_icmp_ge (tgt := 333) X dL_cover_55 (by decide) (by omega) (by omega) (fun c_55 => ?_) (fun c_55 => ?_)
            · have hx24 : x = 1024 := by omega
              subst hx24
              have hfin := BWY.fin hI (by omega) hbw
              refine j_iload X dL_cover_333 11 rfl ?_
              refine j_drop1 (j_drop1 ?_)
              exact j_ireturn X E (Q1) rfl ⟨_, rfl, hfin.1.symm, hB1, hq, fun hc => (by obtain ⟨y, hy, hyd⟩ := hfin.2 hc; intro d hd; rw [hb6 y hy d hd]; exact hyd d hd)⟩ dL_cover_335
            · have hx24 : x < 1024 := by omega
              refine j_iconst (v := nI 0) X dL_cover_58 (by decide) ?_
              refine j_istore X [(13, _), (0, _), (1, _), (2, _), (3, _), (4, _), (5, _), (6, _), (7, _), (8, _), (9, _), (10, _), (11, _), (12, _)] dL_cover_59 (by decide) rfl ?_
              refine j_iconst (v := bI true) X dL_cover_61 (by decide) ?_
              refine j_istore X [(14, _), (13, _), (0, _), (1, _), (2, _), (3, _), (4, _), (5, _), (6, _), (7, _), (8, _), (9, _), (10, _), (11, _), (12, _)] dL_cover_62 (by decide) rfl ?_
              refine j_iconst (v := nI 0) X dL_cover_64 (by decide) ?_
              refine j_istore X [(15, _), (14, _), (13, _), (0, _), (1, _), (2, _), (3, _), (4, _), (5, _), (6, _), (7, _), (8, _), (9, _), (10, _), (11, _), (12, _)] dL_cover_65 (by decide) rfl ?_
              have L67 : ∀ (n : Nat) (d : Nat) (b : Bool) (Q2 : MS), (d ≤ 5) → (BD Q2) → (OFQ [9] Q1 Q2) → (∀ j, j < d → Q2 9 j = ow x j) → (b = andN (fun d => decide (ow x d % 2 + ow x d / 2 = shN S w d)) d) → (5 + 1 ≤ d + n) → JJ K D 2 10 (wl ++ LA (va_up (va_up aq 8 q_1) 9 q_6) Y 10 Q2) [(0, .int (nI w)), (1, .int (nI ma)), (2, .ref (aq 0)), (3, .ref (aq 1)), (4, .ref (aq 2)), (5, .ref (aq 3)), (6, .ref (aq 4)), (7, .ref (aq 5)), (8, .ref (aq 6)), (9, .ref q_1), (10, .ref q_6), (11, .int (lwI S o)), (12, .int (nI x)), (13, .int (nI 0)), (14, .int (bI b)), (15, .int (nI d))] 67 [] := by
                intro n
                induction n with
                | zero =>
                  intro d b Q2 hd hB2 hq2 ho hb hf67
                  exact absurd hf67 (by omega)
                | succ n67 ih67 =>
                  intro d b Q2 hd hB2 hq2 ho hb hf67
                  refine j_iload X dL_cover_67 15 rfl ?_
                  refine j_iconst (v := nI 5) X dL_cover_69 (by decide) ?_
                  refine n_icmp_ge (tgt := 130) X dL_cover_70 (by decide) (by omega) (by omega) (fun c_70 => ?_) (fun c_70 => ?_)
                  · have hd5 : d = 5 := by omega
                    subst hd5
                    have hA : b = nOk S w x := hb
                    have ho5 := ho
                    have hQQ : OFQ [6, 8, 9] Q Q2 := hq.trans (hq2.mono (by decide))
                    have hsu := (hU.off (fun a j ha => hQQ a j (by simp; omega))).2.2
                    refine j_iconst (v := nI 0) X dL_cover_130 (by decide) ?_
                    refine j_istore X [(15, _), (0, _), (1, _), (2, _), (3, _), (4, _), (5, _), (6, _), (7, _), (8, _), (9, _), (10, _), (11, _), (12, _), (13, _), (14, _)] dL_cover_131 (by decide) rfl ?_
                    have L133 : ∀ (n : Nat) (k c : Nat) (b1 : Bool), (k ≤ 2) → (c = sm (fun k => dyW x k * S 15 k) k) → (c ≤ 5000 * k) → (b1 = (nOk S w x && andN (kOk S x) k)) → (2 + 1 ≤ k + n) → JJ K D 2 10 (wl ++ LA (va_up (va_up aq 8 q_1) 9 q_6) Y 10 Q2) [(0, .int (nI w)), (1, .int (nI ma)), (2, .ref (aq 0)), (3, .ref (aq 1)), (4, .ref (aq 2)), (5, .ref (aq 3)), (6, .ref (aq 4)), (7, .ref (aq 5)), (8, .ref (aq 6)), (9, .ref q_1), (10, .ref q_6), (11, .int (lwI S o)), (12, .int (nI x)), (13, .int (nI c)), (14, .int (bI b1)), (15, .int (nI k))] 133 [] := by
                      intro n
                      induction n with
                      | zero =>
                        intro k c b1 hk hc hcb hb1 hf133
                        exact absurd hf133 (by omega)
                      | succ n133 ih133 =>
                        intro k c b1 hk hc hcb hb1 hf133
                        refine j_iload X dL_cover_133 15 rfl ?_
                        refine j_iconst (v := nI 2) X dL_cover_135 (by decide) ?_
                        refine n_icmp_ge (tgt := 281) X dL_cover_136 (by decide) (by omega) (by omega) (fun c_136 => ?_) (fun c_136 => ?_)
                        · have hk2 : k = 2 := by omega
                          subst hk2
                          have hcF : c = cW S x := hc
                          have hok : b1 = okW S w x := hb1
                          refine j_iload X dL_cover_281 14 rfl ?_
                          refine b_if_eq (tgt := 327) X dL_cover_283 (by decide) (fun c_283 => ?_) (fun c_283 => ?_)
                          · skip
                            refine n_iinc X [(12, _), (0, _), (1, _), (2, _), (3, _), (4, _), (5, _), (6, _), (7, _), (8, _), (9, _), (10, _), (11, _), (13, _), (14, _), (15, _)] dL_cover_327 (q := 12) (b := 1) rfl (by decide) (by decide) rfl ?_
                            refine j_goto (tgt := 50) X dL_cover_330 (by decide) ?_
                            exact j_sub [1, 2, 3, 4, 5, 6, 7, 8, 9, 10, 11, 12, 0] rfl (ih50 (x + 1) o _ (by omega) (by exact hB2) (by exact hq.trans (OFQ.mono hq2 (by decide))) (by intro j hj; exact (hq2 8 j (by decide)).trans (hl j hj)) (by exact hbw.no (hok.symm.trans c_283)) (by intro y hy d hd; exact (hq2 6 d (by decide)).trans (hb6 y hy d hd)) (by omega))
                          · refine j_iload X dL_cover_286 11 rfl ?_
                            refine j_if_lt (tgt := 298) X dL_cover_288 (by decide) (fun c_288 => ?_) (fun c_288 => ?_)
                            · have ho0 := lw_neg hI c_288
                              subst ho0
                              have hbw2 : BWY S w (x + 1) (some x) := hbw.take (hok.symm.trans c_283) (fun y hy => by cases hy)
                              refine j_iload X dL_cover_298 13 rfl ?_
                              refine j_istore X [(11, _), (0, _), (1, _), (2, _), (3, _), (4, _), (5, _), (6, _), (7, _), (8, _), (9, _), (10, _), (12, _), (13, _), (14, _), (15, _)] dL_cover_300 (by decide) rfl ?_
                              refine j_iconst (v := nI 0) X dL_cover_302 (by decide) ?_
                              refine j_istore X [(15, _), (11, _), (0, _), (1, _), (2, _), (3, _), (4, _), (5, _), (6, _), (7, _), (8, _), (9, _), (10, _), (12, _), (13, _), (14, _)] dL_cover_303 (by decide) rfl ?_
                              have L305 : ∀ (n : Nat) (d : Nat) (Q3 : MS), (d ≤ 5) → (BD Q3) → (OFQ [6] Q2 Q3) → (∀ j, j < d → Q3 6 j = ow x j) → (5 + 1 ≤ d + n) → JJ K D 2 10 (wl ++ LA (va_up (va_up aq 8 q_1) 9 q_6) Y 10 Q3) [(0, .int (nI w)), (1, .int (nI ma)), (2, .ref (aq 0)), (3, .ref (aq 1)), (4, .ref (aq 2)), (5, .ref (aq 3)), (6, .ref (aq 4)), (7, .ref (aq 5)), (8, .ref (aq 6)), (9, .ref q_1), (10, .ref q_6), (11, .int (nI c)), (12, .int (nI x)), (15, .int (nI d))] 305 [] := by
                                intro n
                                induction n with
                                | zero =>
                                  intro d Q3 hd hB3 hq3 h6 hf305
                                  exact absurd hf305 (by omega)
                                | succ n305 ih305 =>
                                  intro d Q3 hd hB3 hq3 h6 hf305
                                  refine j_iload X dL_cover_305 13 rfl ?_
                                  refine j_iconst (v := nI 5) X dL_cover_307 (by decide) ?_
                                  refine n_icmp_ge (tgt := 327) X dL_cover_308 (by decide) (by omega) (by omega) (fun c_308 => ?_) (fun c_308 => ?_)
                                  · have hd5 : d = 5 := by omega
                                    subst hd5
                                    rw [show nI c = lwI S (some x) from by rw [hcF]; rfl]
                                    have hq69 : OFQ [6, 9] Q1 Q3 := (hq2.mono (by decide)).trans (hq3.mono (by decide))
                                    refine n_iinc X [(12, _), (0, _), (1, _), (2, _), (3, _), (4, _), (5, _), (6, _), (7, _), (8, _), (9, _), (10, _), (11, _), (15, _)] dL_cover_327 (q := 12) (b := 1) rfl (by decide) (by decide) rfl ?_
                                    refine j_goto (tgt := 50) X dL_cover_330 (by decide) ?_
                                    exact j_sub [1, 2, 3, 4, 5, 6, 7, 8, 9, 10, 11, 12, 0] rfl (ih50 (x + 1) (some x) _ (by omega) (by exact hB3) (by exact hq.trans (OFQ.mono hq69 (by decide))) (by intro j hj; exact (hq69 8 j (by decide)).trans (hl j hj)) (by exact hbw2) (by intro y hy d hd; cases hy; exact h6 d hd) (by omega))
                                  · refine j_aload X dL_cover_311 8 rfl ?_
                                    refine j_iload X dL_cover_313 13 rfl ?_
                                    refine j_aload X dL_cover_315 10 rfl ?_
                                    refine j_iload X dL_cover_317 13 rfl ?_
                                    refine jl_ald X (LA.arw (k := 9) hB3 (by decide) (by decide)) (by show _ < 5; omega) dL_cover_319 (fun v_319 e_319 b_319 => ?_)
                                    have e_319 := e_319.trans (((hq3 9 d (by decide)).trans (ho5 d (by omega))))
                                    subst e_319
                                    refine jl_ast X hB3 (k := 6) (by decide) (by decide) rfl (show _ < 5 by omega) (by omega) dL_cover_320 (fun Q_320 eQ_320 hB_320 => ?_)
                                    refine n_iinc X [(15, _), (0, _), (1, _), (2, _), (3, _), (4, _), (5, _), (6, _), (7, _), (8, _), (9, _), (10, _), (11, _), (12, _)] dL_cover_321 (q := 13) (b := 1) rfl (by decide) (by decide) rfl ?_
                                    refine j_goto (tgt := 305) X dL_cover_324 (by decide) ?_
                                    exact j_sub [1, 2, 3, 4, 5, 6, 7, 8, 9, 10, 11, 12, 13, 0] rfl (ih305 _ _ (by omega) (by exact hB_320) (by exact OFQ.u eQ_320 hq3 (by decide)) (by exact fill_s eQ_320 h6 rfl) (by omega))
                              exact j_sub [2, 3, 4, 5, 6, 7, 8, 9, 10, 11, 12, 1, 13, 0] rfl (L305 6 _ _ (by omega) (by exact hB2) (by exact OFQ.refl _ _) (by intro j hj; exact absurd hj (by omega)) (by omega))
                            · obtain ⟨y, hy⟩ := lw_nn c_288
                              subst hy
                              have hcy := cW_le hI y
                              refine j_iload X dL_cover_291 13 rfl ?_
                              refine j_iload X dL_cover_293 11 rfl ?_
                              refine n_icmp_ge (tgt := 327) X dL_cover_295 (by decide) (by omega) (by omega) (fun c_295 => ?_) (fun c_295 => ?_)
                              · skip
                                refine n_iinc X [(12, _), (0, _), (1, _), (2, _), (3, _), (4, _), (5, _), (6, _), (7, _), (8, _), (9, _), (10, _), (11, _), (13, _), (14, _), (15, _)] dL_cover_327 (q := 12) (b := 1) rfl (by decide) (by decide) rfl ?_
                                refine j_goto (tgt := 50) X dL_cover_330 (by decide) ?_
                                exact j_sub [1, 2, 3, 4, 5, 6, 7, 8, 9, 10, 11, 12, 0] rfl (ih50 (x + 1) (some y) _ (by omega) (by exact hB2) (by exact hq.trans (OFQ.mono hq2 (by decide))) (by intro j hj; exact (hq2 8 j (by decide)).trans (hl j hj)) (by exact hbw.keep (by omega)) (by intro y hy d hd; exact (hq2 6 d (by decide)).trans (hb6 y hy d hd)) (by omega))
                              · have hbw2 : BWY S w (x + 1) (some x) := hbw.take (hok.symm.trans c_283) (fun z hz => by cases hz; omega)
                                refine j_iload X dL_cover_298 13 rfl ?_
                                refine j_istore X [(11, _), (0, _), (1, _), (2, _), (3, _), (4, _), (5, _), (6, _), (7, _), (8, _), (9, _), (10, _), (12, _), (13, _), (14, _), (15, _)] dL_cover_300 (by decide) rfl ?_
                                refine j_iconst (v := nI 0) X dL_cover_302 (by decide) ?_
                                refine j_istore X [(15, _), (11, _), (0, _), (1, _), (2, _), (3, _), (4, _), (5, _), (6, _), (7, _), (8, _), (9, _), (10, _), (12, _), (13, _), (14, _)] dL_cover_303 (by decide) rfl ?_
                                have L305 : ∀ (n : Nat) (d : Nat) (Q3 : MS), (d ≤ 5) → (BD Q3) → (OFQ [6] Q2 Q3) → (∀ j, j < d → Q3 6 j = ow x j) → (5 + 1 ≤ d + n) → JJ K D 2 10 (wl ++ LA (va_up (va_up aq 8 q_1) 9 q_6) Y 10 Q3) [(0, .int (nI w)), (1, .int (nI ma)), (2, .ref (aq 0)), (3, .ref (aq 1)), (4, .ref (aq 2)), (5, .ref (aq 3)), (6, .ref (aq 4)), (7, .ref (aq 5)), (8, .ref (aq 6)), (9, .ref q_1), (10, .ref q_6), (11, .int (nI c)), (12, .int (nI x)), (15, .int (nI d))] 305 [] := by
                                  intro n
                                  induction n with
                                  | zero =>
                                    intro d Q3 hd hB3 hq3 h6 hf305
                                    exact absurd hf305 (by omega)
                                  | succ n305 ih305 =>
                                    intro d Q3 hd hB3 hq3 h6 hf305
                                    refine j_iload X dL_cover_305 13 rfl ?_
                                    refine j_iconst (v := nI 5) X dL_cover_307 (by decide) ?_
                                    refine n_icmp_ge (tgt := 327) X dL_cover_308 (by decide) (by omega) (by omega) (fun c_308 => ?_) (fun c_308 => ?_)
                                    · have hd5 : d = 5 := by omega
                                      subst hd5
                                      rw [show nI c = lwI S (some x) from by rw [hcF]; rfl]
                                      have hq69 : OFQ [6, 9] Q1 Q3 := (hq2.mono (by decide)).trans (hq3.mono (by decide))
                                      refine n_iinc X [(12, _), (0, _), (1, _), (2, _), (3, _), (4, _), (5, _), (6, _), (7, _), (8, _), (9, _), (10, _), (11, _), (15, _)] dL_cover_327 (q := 12) (b := 1) rfl (by decide) (by decide) rfl ?_
                                      refine j_goto (tgt := 50) X dL_cover_330 (by decide) ?_
                                      exact j_sub [1, 2, 3, 4, 5, 6, 7, 8, 9, 10, 11, 12, 0] rfl (ih50 (x + 1) (some x) _ (by omega) (by exact hB3) (by exact hq.trans (OFQ.mono hq69 (by decide))) (by intro j hj; exact (hq69 8 j (by decide)).trans (hl j hj)) (by exact hbw2) (by intro y hy d hd; cases hy; exact h6 d hd) (by omega))
                                    · refine j_aload X dL_cover_311 8 rfl ?_
                                      refine j_iload X dL_cover_313 13 rfl ?_
                                      refine j_aload X dL_cover_315 10 rfl ?_
                                      refine j_iload X dL_cover_317 13 rfl ?_
                                      refine jl_ald X (LA.arw (k := 9) hB3 (by decide) (by decide)) (by show _ < 5; omega) dL_cover_319 (fun v_319 e_319 b_319 => ?_)
                                      have e_319 := e_319.trans (((hq3 9 d (by decide)).trans (ho5 d (by omega))))
                                      subst e_319
                                      refine jl_ast X hB3 (k := 6) (by decide) (by decide) rfl (show _ < 5 by omega) (by omega) dL_cover_320 (fun Q_320 eQ_320 hB_320 => ?_)
                                      refine n_iinc X [(15, _), (0, _), (1, _), (2, _), (3, _), (4, _), (5, _), (6, _), (7, _), (8, _), (9, _), (10, _), (11, _), (12, _)] dL_cover_321 (q := 13) (b := 1) rfl (by decide) (by decide) rfl ?_
                                      refine j_goto (tgt := 305) X dL_cover_324 (by decide) ?_
                                      exact j_sub [1, 2, 3, 4, 5, 6, 7, 8, 9, 10, 11, 12, 13, 0] rfl (ih305 _ _ (by omega) (by exact hB_320) (by exact OFQ.u eQ_320 hq3 (by decide)) (by exact fill_s eQ_320 h6 rfl) (by omega))
                                exact j_sub [2, 3, 4, 5, 6, 7, 8, 9, 10, 11, 12, 1, 13, 0] rfl (L305 6 _ _ (by omega) (by exact hB2) (by exact OFQ.refl _ _) (by intro j hj; exact absurd hj (by omega)) (by omega))
                        · refine j_iconst (v := nI 0) X dL_cover_139 (by decide) ?_
                          refine j_istore X [(16, _), (0, _), (1, _), (2, _), (3, _), (4, _), (5, _), (6, _), (7, _), (8, _), (9, _), (10, _), (11, _), (12, _), (13, _), (14, _), (15, _)] dL_cover_140 (by decide) rfl ?_
                          refine j_iconst (v := nI 0) X dL_cover_142 (by decide) ?_
                          refine j_istore X [(17, _), (16, _), (0, _), (1, _), (2, _), (3, _), (4, _), (5, _), (6, _), (7, _), (8, _), (9, _), (10, _), (11, _), (12, _), (13, _), (14, _), (15, _)] dL_cover_143 (by decide) rfl ?_
                          have L145 : ∀ (n : Nat) (d ds : Nat) (b2 : Bool), (d ≤ 5) → (ds = sm (fun d => bitN (ow x d) k) d) → (ds ≤ d) → (b2 = ((nOk S w x && andN (kOk S x) k) && andN (dOk S x k) d)) → (5 + 1 ≤ d + n) → JJ K D 2 10 (wl ++ LA (va_up (va_up aq 8 q_1) 9 q_6) Y 10 Q2) [(0, .int (nI w)), (1, .int (nI ma)), (2, .ref (aq 0)), (3, .ref (aq 1)), (4, .ref (aq 2)), (5, .ref (aq 3)), (6, .ref (aq 4)), (7, .ref (aq 5)), (8, .ref (aq 6)), (9, .ref q_1), (10, .ref q_6), (11, .int (lwI S o)), (12, .int (nI x)), (13, .int (nI c)), (14, .int (bI b2)), (15, .int (nI k)), (16, .int (nI ds)), (17, .int (nI d))] 145 [] := by
                            intro n
                            induction n with
                            | zero =>
                              intro d ds b2 hd hds hdb hb2 hf145
                              exact absurd hf145 (by omega)
                            | succ n145 ih145 =>
                              intro d ds b2 hd hds hdb hb2 hf145
                              refine j_iload X dL_cover_145 17 rfl ?_
                              refine j_iconst (v := nI 5) X dL_cover_147 (by decide) ?_
                              refine n_icmp_ge (tgt := 232) X dL_cover_148 (by decide) (by omega) (by omega) (fun c_148 => ?_) (fun c_148 => ?_)
                              · have hd5 : d = 5 := by omega
                                subst hd5
                                have hdw : dyW x k = ds := hds.symm
                                refine j_iload X dL_cover_232 14 rfl ?_
                                refine b_if_eq (tgt := 255) X dL_cover_234 (by decide) (fun c_234 => ?_) (fun c_234 => ?_)
                                · refine j_iconst (v := bI false) X dL_cover_255 (by decide) ?_
                                  refine j_istore X [(14, _), (0, _), (1, _), (2, _), (3, _), (4, _), (5, _), (6, _), (7, _), (8, _), (9, _), (10, _), (11, _), (12, _), (13, _), (15, _), (16, _), (17, _)] dL_cover_256 (by decide) rfl ?_
                                  refine j_iload X dL_cover_258 14 rfl ?_
                                  refine j_iload X dL_cover_260 16 rfl ?_
                                  refine j_aload X dL_cover_262 8 rfl ?_
                                  refine j_iconst (v := nI 3) X dL_cover_264 (by decide) ?_
                                  refine j_iload X dL_cover_265 15 rfl ?_
                                  refine n_imul X dL_cover_267 ?_
                                  refine j_iconst (v := nI 2) X dL_cover_268 (by decide) ?_
                                  refine n_iadd X dL_cover_269 ?_
                                  refine jl_ald X (LA.arw (k := 5) hB2 (by decide) (by decide)) (by show _ < 6; omega) dL_cover_270 (fun v_270 e_270 b_270 => ?_)
                                  have e_270 := e_270.trans ((hsu k (by omega)).2.2)
                                  subst e_270
                                  have hml : ds * S 15 k ≤ 5 * 1000 := Nat.mul_le_mul (by omega) (h15 k (by omega))
                                  refine n_imul X dL_cover_271 ?_
                                  refine n_iadd X dL_cover_272 ?_
                                  refine j_istore X [(13, _), (14, _), (0, _), (1, _), (2, _), (3, _), (4, _), (5, _), (6, _), (7, _), (8, _), (9, _), (10, _), (11, _), (12, _), (15, _), (16, _), (17, _)] dL_cover_273 (by decide) rfl ?_
                                  refine n_iinc X [(15, _), (13, _), (14, _), (0, _), (1, _), (2, _), (3, _), (4, _), (5, _), (6, _), (7, _), (8, _), (9, _), (10, _), (11, _), (12, _), (16, _), (17, _)] dL_cover_275 (q := 15) (b := 1) rfl (by decide) (by decide) rfl ?_
                                  refine j_goto (tgt := 133) X dL_cover_278 (by decide) ?_
                                  exact j_sub [3, 4, 5, 6, 7, 8, 9, 10, 11, 12, 13, 14, 15, 1, 2, 0] rfl (ih133 _ _ _ (by omega) (by rw [sm_s, ← hc, hds]; first | done | rfl) (by omega) (by show _ = (nOk S w x && (andN (kOk S x) k && (andN (dOk S x k) 5 && decide (dyW x k ≤ S 14 k)))); rw [← Bool.and_assoc, ← Bool.and_assoc, ← hb2]; simp [hdw, c_148, c_234]) (by omega))
                                · refine j_iload X dL_cover_237 16 rfl ?_
                                  refine j_aload X dL_cover_239 7 rfl ?_
                                  refine j_iconst (v := nI 3) X dL_cover_241 (by decide) ?_
                                  refine j_iload X dL_cover_242 15 rfl ?_
                                  refine n_imul X dL_cover_244 ?_
                                  refine j_iconst (v := nI 1) X dL_cover_245 (by decide) ?_
                                  refine n_iadd X dL_cover_246 ?_
                                  refine jl_ald X (LA.arw (k := 5) hB2 (by decide) (by decide)) (by show _ < 6; omega) dL_cover_247 (fun v_247 e_247 b_247 => ?_)
                                  have e_247 := e_247.trans ((hsu k (by omega)).2.1)
                                  subst e_247
                                  refine n_icmp_gt (tgt := 255) X dL_cover_248 (by decide) (by omega) (by omega) (fun c_248 => ?_) (fun c_248 => ?_)
                                  · refine j_iconst (v := bI false) X dL_cover_255 (by decide) ?_
                                    refine j_istore X [(14, _), (0, _), (1, _), (2, _), (3, _), (4, _), (5, _), (6, _), (7, _), (8, _), (9, _), (10, _), (11, _), (12, _), (13, _), (15, _), (16, _), (17, _)] dL_cover_256 (by decide) rfl ?_
                                    refine j_iload X dL_cover_258 14 rfl ?_
                                    refine j_iload X dL_cover_260 16 rfl ?_
                                    refine j_aload X dL_cover_262 8 rfl ?_
                                    refine j_iconst (v := nI 3) X dL_cover_264 (by decide) ?_
                                    refine j_iload X dL_cover_265 15 rfl ?_
                                    refine n_imul X dL_cover_267 ?_
                                    refine j_iconst (v := nI 2) X dL_cover_268 (by decide) ?_
                                    refine n_iadd X dL_cover_269 ?_
                                    refine jl_ald X (LA.arw (k := 5) hB2 (by decide) (by decide)) (by show _ < 6; omega) dL_cover_270 (fun v_270 e_270 b_270 => ?_)
                                    have e_270 := e_270.trans ((hsu k (by omega)).2.2)
                                    subst e_270
                                    have hml : ds * S 15 k ≤ 5 * 1000 := Nat.mul_le_mul (by omega) (h15 k (by omega))
                                    refine n_imul X dL_cover_271 ?_
                                    refine n_iadd X dL_cover_272 ?_
                                    refine j_istore X [(13, _), (14, _), (0, _), (1, _), (2, _), (3, _), (4, _), (5, _), (6, _), (7, _), (8, _), (9, _), (10, _), (11, _), (12, _), (15, _), (16, _), (17, _)] dL_cover_273 (by decide) rfl ?_
                                    refine n_iinc X [(15, _), (13, _), (14, _), (0, _), (1, _), (2, _), (3, _), (4, _), (5, _), (6, _), (7, _), (8, _), (9, _), (10, _), (11, _), (12, _), (16, _), (17, _)] dL_cover_275 (q := 15) (b := 1) rfl (by decide) (by decide) rfl ?_
                                    refine j_goto (tgt := 133) X dL_cover_278 (by decide) ?_
                                    exact j_sub [3, 4, 5, 6, 7, 8, 9, 10, 11, 12, 13, 14, 15, 1, 2, 0] rfl (ih133 _ _ _ (by omega) (by rw [sm_s, ← hc, hds]; first | done | rfl) (by omega) (by show _ = (nOk S w x && (andN (kOk S x) k && (andN (dOk S x k) 5 && decide (dyW x k ≤ S 14 k)))); rw [← Bool.and_assoc, ← Bool.and_assoc, ← hb2]; simp [hdw, c_148, c_234, c_248]) (by omega))
                                  · refine j_iconst (v := bI true) X dL_cover_251 (by decide) ?_
                                    refine j_goto (tgt := 256) X dL_cover_252 (by decide) ?_
                                    refine j_istore X [(14, _), (0, _), (1, _), (2, _), (3, _), (4, _), (5, _), (6, _), (7, _), (8, _), (9, _), (10, _), (11, _), (12, _), (13, _), (15, _), (16, _), (17, _)] dL_cover_256 (by decide) rfl ?_
                                    refine j_iload X dL_cover_258 14 rfl ?_
                                    refine j_iload X dL_cover_260 16 rfl ?_
                                    refine j_aload X dL_cover_262 8 rfl ?_
                                    refine j_iconst (v := nI 3) X dL_cover_264 (by decide) ?_
                                    refine j_iload X dL_cover_265 15 rfl ?_
                                    refine n_imul X dL_cover_267 ?_
                                    refine j_iconst (v := nI 2) X dL_cover_268 (by decide) ?_
                                    refine n_iadd X dL_cover_269 ?_
                                    refine jl_ald X (LA.arw (k := 5) hB2 (by decide) (by decide)) (by show _ < 6; omega) dL_cover_270 (fun v_270 e_270 b_270 => ?_)
                                    have e_270 := e_270.trans ((hsu k (by omega)).2.2)
                                    subst e_270
                                    have hml : ds * S 15 k ≤ 5 * 1000 := Nat.mul_le_mul (by omega) (h15 k (by omega))
                                    refine n_imul X dL_cover_271 ?_
                                    refine n_iadd X dL_cover_272 ?_
                                    refine j_istore X [(13, _), (14, _), (0, _), (1, _), (2, _), (3, _), (4, _), (5, _), (6, _), (7, _), (8, _), (9, _), (10, _), (11, _), (12, _), (15, _), (16, _), (17, _)] dL_cover_273 (by decide) rfl ?_
                                    refine n_iinc X [(15, _), (13, _), (14, _), (0, _), (1, _), (2, _), (3, _), (4, _), (5, _), (6, _), (7, _), (8, _), (9, _), (10, _), (11, _), (12, _), (16, _), (17, _)] dL_cover_275 (q := 15) (b := 1) rfl (by decide) (by decide) rfl ?_
                                    refine j_goto (tgt := 133) X dL_cover_278 (by decide) ?_
                                    exact j_sub [3, 4, 5, 6, 7, 8, 9, 10, 11, 12, 13, 14, 15, 1, 2, 0] rfl (ih133 _ _ _ (by omega) (by rw [sm_s, ← hc, hds]; first | done | rfl) (by omega) (by show _ = (nOk S w x && (andN (kOk S x) k && (andN (dOk S x k) 5 && decide (dyW x k ≤ S 14 k)))); rw [← Bool.and_assoc, ← Bool.and_assoc, ← hb2]; simp [hdw, c_148, c_234, c_248]) (by omega))
                              · refine j_aload X dL_cover_151 10 rfl ?_
                                refine j_iload X dL_cover_153 17 rfl ?_
                                refine jl_ald X (LA.arw (k := 9) hB2 (by decide) (by decide)) (by show _ < 5; omega) dL_cover_155 (fun v_155 e_155 b_155 => ?_)
                                have e_155 := e_155.trans ((ho5 d (by omega)))
                                subst e_155
                                refine j_iload X dL_cover_156 15 rfl ?_
                                refine j_ishr X dL_cover_158 ?_
                                refine j_iconst (v := nI 1) X dL_cover_159 (by decide) ?_
                                refine j_iand X dL_cover_160 ?_
                                have how := ow_lt x d
                                rw [bit_at (by omega) (by omega)]
                                have hbl := bitN_le (ow x d) k
                                refine j_iconst (v := nI 1) X dL_cover_161 (by decide) ?_
                                refine n_icmp_ne (tgt := 169) X dL_cover_162 (by decide) (by omega) (by omega) (fun c_162 => ?_) (fun c_162 => ?_)
                                · have hb0 : bitN (ow x d) k = 0 := by omega
                                  refine j_iconst (v := nI 0) X dL_cover_169 (by decide) ?_
                                  refine j_istore X [(18, _), (0, _), (1, _), (2, _), (3, _), (4, _), (5, _), (6, _), (7, _), (8, _), (9, _), (10, _), (11, _), (12, _), (13, _), (14, _), (15, _), (16, _), (17, _)] dL_cover_170 (by decide) rfl ?_
                                  refine j_iload X dL_cover_172 17 rfl ?_
                                  refine j_iload X dL_cover_174 0 rfl ?_
                                  refine n_if_eq (tgt := 183) X dL_cover_176 (by decide) (by omega) (fun c_176 => ?_) (fun c_176 => ?_)
                                  · refine j_iconst (v := nI 0) X dL_cover_183 (by decide) ?_
                                    refine n_iadd X dL_cover_184 ?_
                                    refine j_istore X [(16, _), (18, _), (0, _), (1, _), (2, _), (3, _), (4, _), (5, _), (6, _), (7, _), (8, _), (9, _), (10, _), (11, _), (12, _), (13, _), (14, _), (15, _), (17, _)] dL_cover_185 (by decide) rfl ?_
                                    refine j_iload X dL_cover_187 16 rfl ?_
                                    refine b_if_eq (tgt := 223) X dL_cover_189 (by decide) (fun c_189 => ?_) (fun c_189 => ?_)
                                    · refine j_iconst (v := bI false) X dL_cover_223 (by decide) ?_
                                      refine j_istore X [(14, _), (16, _), (18, _), (0, _), (1, _), (2, _), (3, _), (4, _), (5, _), (6, _), (7, _), (8, _), (9, _), (10, _), (11, _), (12, _), (13, _), (15, _), (17, _)] dL_cover_224 (by decide) rfl ?_
                                      refine n_iinc X [(17, _), (14, _), (16, _), (18, _), (0, _), (1, _), (2, _), (3, _), (4, _), (5, _), (6, _), (7, _), (8, _), (9, _), (10, _), (11, _), (12, _), (13, _), (15, _)] dL_cover_226 (q := 18) (b := 1) rfl (by decide) (by decide) rfl ?_
                                      refine j_goto (tgt := 145) X dL_cover_229 (by decide) ?_
                                      exact j_sub [4, 5, 6, 7, 8, 9, 10, 11, 12, 13, 14, 15, 16, 17, 1, 18, 2, 0] rfl (ih145 _ _ _ (by omega) (by rw [sm_s, ← hds, hb0]) (by omega) (by rw [andN, ← Bool.and_assoc, ← hb2]; simp [dOk, h21, c_148, c_162, c_176, c_189]; try (intro q; omega)) (by omega))
                                    · refine j_iload X dL_cover_192 1 rfl ?_
                                      refine n_if_eq (tgt := 219) X dL_cover_194 (by decide) (by omega) (fun c_194 => ?_) (fun c_194 => ?_)
                                      · refine j_iconst (v := bI true) X dL_cover_219 (by decide) ?_
                                        refine j_goto (tgt := 224) X dL_cover_220 (by decide) ?_
                                        refine j_istore X [(14, _), (16, _), (18, _), (0, _), (1, _), (2, _), (3, _), (4, _), (5, _), (6, _), (7, _), (8, _), (9, _), (10, _), (11, _), (12, _), (13, _), (15, _), (17, _)] dL_cover_224 (by decide) rfl ?_
                                        refine n_iinc X [(17, _), (14, _), (16, _), (18, _), (0, _), (1, _), (2, _), (3, _), (4, _), (5, _), (6, _), (7, _), (8, _), (9, _), (10, _), (11, _), (12, _), (13, _), (15, _)] dL_cover_226 (q := 18) (b := 1) rfl (by decide) (by decide) rfl ?_
                                        refine j_goto (tgt := 145) X dL_cover_229 (by decide) ?_
                                        exact j_sub [4, 5, 6, 7, 8, 9, 10, 11, 12, 13, 14, 15, 16, 17, 1, 18, 2, 0] rfl (ih145 _ _ _ (by omega) (by rw [sm_s, ← hds, hb0]) (by omega) (by rw [andN, ← Bool.and_assoc, ← hb2]; simp [dOk, h21, c_148, c_162, c_176, c_189, c_194]; try (intro q; omega)) (by omega))
                                      · exact absurd c_194 (by omega)
                                  · exact absurd c_176 (by omega)
                                · skip
                                  refine j_iconst (v := nI 1) X dL_cover_165 (by decide) ?_
                                  refine j_goto (tgt := 170) X dL_cover_166 (by decide) ?_
                                  refine j_istore X [(18, _), (0, _), (1, _), (2, _), (3, _), (4, _), (5, _), (6, _), (7, _), (8, _), (9, _), (10, _), (11, _), (12, _), (13, _), (14, _), (15, _), (16, _), (17, _)] dL_cover_170 (by decide) rfl ?_
                                  refine j_iload X dL_cover_172 17 rfl ?_
                                  refine j_iload X dL_cover_174 0 rfl ?_
                                  refine n_if_eq (tgt := 183) X dL_cover_176 (by decide) (by omega) (fun c_176 => ?_) (fun c_176 => ?_)
                                  · exact absurd c_176 (by omega)
                                  · refine j_iconst (v := nI 1) X dL_cover_179 (by decide) ?_
                                    refine j_goto (tgt := 184) X dL_cover_180 (by decide) ?_
                                    refine n_iadd X dL_cover_184 ?_
                                    refine j_istore X [(16, _), (18, _), (0, _), (1, _), (2, _), (3, _), (4, _), (5, _), (6, _), (7, _), (8, _), (9, _), (10, _), (11, _), (12, _), (13, _), (14, _), (15, _), (17, _)] dL_cover_185 (by decide) rfl ?_
                                    refine j_iload X dL_cover_187 16 rfl ?_
                                    refine b_if_eq (tgt := 223) X dL_cover_189 (by decide) (fun c_189 => ?_) (fun c_189 => ?_)
                                    · refine j_iconst (v := bI false) X dL_cover_223 (by decide) ?_
                                      refine j_istore X [(14, _), (16, _), (18, _), (0, _), (1, _), (2, _), (3, _), (4, _), (5, _), (6, _), (7, _), (8, _), (9, _), (10, _), (11, _), (12, _), (13, _), (15, _), (17, _)] dL_cover_224 (by decide) rfl ?_
                                      refine n_iinc X [(17, _), (14, _), (16, _), (18, _), (0, _), (1, _), (2, _), (3, _), (4, _), (5, _), (6, _), (7, _), (8, _), (9, _), (10, _), (11, _), (12, _), (13, _), (15, _)] dL_cover_226 (q := 18) (b := 1) rfl (by decide) (by decide) rfl ?_
                                      refine j_goto (tgt := 145) X dL_cover_229 (by decide) ?_
                                      exact j_sub [4, 5, 6, 7, 8, 9, 10, 11, 12, 13, 14, 15, 16, 17, 1, 18, 2, 0] rfl (ih145 _ _ _ (by omega) (by rw [sm_s, ← hds, c_162]) (by omega) (by rw [andN, ← Bool.and_assoc, ← hb2]; simp [dOk, h21, c_148, c_162, c_176, c_189]; try (intro q; omega)) (by omega))
                                    · refine j_iload X dL_cover_192 1 rfl ?_
                                      refine n_if_eq (tgt := 219) X dL_cover_194 (by decide) (by omega) (fun c_194 => ?_) (fun c_194 => ?_)
                                      · exact absurd c_194 (by omega)
                                      · refine j_iload X dL_cover_197 17 rfl ?_
                                        refine j_iload_n X dL_cover_199 rfl 3 rfl ?_
                                        refine n_icmp_ge (tgt := 223) X dL_cover_200 (by decide) (by omega) (by omega) (fun c_200 => ?_) (fun c_200 => ?_)
                                        · refine j_iconst (v := bI false) X dL_cover_223 (by decide) ?_
                                          refine j_istore X [(14, _), (16, _), (18, _), (0, _), (1, _), (2, _), (3, _), (4, _), (5, _), (6, _), (7, _), (8, _), (9, _), (10, _), (11, _), (12, _), (13, _), (15, _), (17, _)] dL_cover_224 (by decide) rfl ?_
                                          refine n_iinc X [(17, _), (14, _), (16, _), (18, _), (0, _), (1, _), (2, _), (3, _), (4, _), (5, _), (6, _), (7, _), (8, _), (9, _), (10, _), (11, _), (12, _), (13, _), (15, _)] dL_cover_226 (q := 18) (b := 1) rfl (by decide) (by decide) rfl ?_
                                          refine j_goto (tgt := 145) X dL_cover_229 (by decide) ?_
                                          exact j_sub [4, 5, 6, 7, 8, 9, 10, 11, 12, 13, 14, 15, 16, 17, 1, 18, 2, 0] rfl (ih145 _ _ _ (by omega) (by rw [sm_s, ← hds, c_162]) (by omega) (by rw [andN, ← Bool.and_assoc, ← hb2]; simp [dOk, h21, c_148, c_162, c_176, c_189, c_194, c_200]; try (intro q; omega)) (by omega))
                                        · refine j_aload X dL_cover_203 9 rfl ?_
                                          refine j_iconst (v := nI 3) X dL_cover_205 (by decide) ?_
                                          refine j_iload X dL_cover_206 17 rfl ?_
                                          refine n_imul X dL_cover_208 ?_
                                          refine jl_ald X (LA.arw (k := 5) hB2 (by decide) (by decide)) (by show _ < 6; omega) dL_cover_209 (fun v_209 e_209 b_209 => ?_)
                                          have e_209 := e_209.trans ((hsu k (by omega)).1)
                                          subst e_209
                                          refine j_iload X dL_cover_210 18 rfl ?_
                                          refine j_ishr X dL_cover_212 ?_
                                          refine j_iconst (v := nI 1) X dL_cover_213 (by decide) ?_
                                          refine j_iand X dL_cover_214 ?_
                                          rw [bit_at (by omega) (by omega)]
                                          have hbl2 := bitN_le (S 13 k) d
                                          refine j_iconst (v := nI 1) X dL_cover_215 (by decide) ?_
                                          refine n_icmp_ne (tgt := 223) X dL_cover_216 (by decide) (by omega) (by omega) (fun c_216 => ?_) (fun c_216 => ?_)
                                          · refine j_iconst (v := bI false) X dL_cover_223 (by decide) ?_
                                            refine j_istore X [(14, _), (16, _), (18, _), (0, _), (1, _), (2, _), (3, _), (4, _), (5, _), (6, _), (7, _), (8, _), (9, _), (10, _), (11, _), (12, _), (13, _), (15, _), (17, _)] dL_cover_224 (by decide) rfl ?_
                                            refine n_iinc X [(17, _), (14, _), (16, _), (18, _), (0, _), (1, _), (2, _), (3, _), (4, _), (5, _), (6, _), (7, _), (8, _), (9, _), (10, _), (11, _), (12, _), (13, _), (15, _)] dL_cover_226 (q := 18) (b := 1) rfl (by decide) (by decide) rfl ?_
                                            refine j_goto (tgt := 145) X dL_cover_229 (by decide) ?_
                                            exact j_sub [4, 5, 6, 7, 8, 9, 10, 11, 12, 13, 14, 15, 16, 17, 1, 18, 2, 0] rfl (ih145 _ _ _ (by omega) (by rw [sm_s, ← hds, c_162]) (by omega) (by rw [andN, ← Bool.and_assoc, ← hb2]; simp [dOk, h21, c_148, c_162, c_176, c_189, c_194, c_200, c_216]; try (intro q; omega)) (by omega))
                                          · refine j_iconst (v := bI true) X dL_cover_219 (by decide) ?_
                                            refine j_goto (tgt := 224) X dL_cover_220 (by decide) ?_
                                            refine j_istore X [(14, _), (16, _), (18, _), (0, _), (1, _), (2, _), (3, _), (4, _), (5, _), (6, _), (7, _), (8, _), (9, _), (10, _), (11, _), (12, _), (13, _), (15, _), (17, _)] dL_cover_224 (by decide) rfl ?_
                                            refine n_iinc X [(17, _), (14, _), (16, _), (18, _), (0, _), (1, _), (2, _), (3, _), (4, _), (5, _), (6, _), (7, _), (8, _), (9, _), (10, _), (11, _), (12, _), (13, _), (15, _)] dL_cover_226 (q := 18) (b := 1) rfl (by decide) (by decide) rfl ?_
                                            refine j_goto (tgt := 145) X dL_cover_229 (by decide) ?_
                                            exact j_sub [4, 5, 6, 7, 8, 9, 10, 11, 12, 13, 14, 15, 16, 17, 1, 18, 2, 0] rfl (ih145 _ _ _ (by omega) (by rw [sm_s, ← hds, c_162]) (by omega) (by rw [andN, ← Bool.and_assoc, ← hb2]; simp [dOk, h21, c_148, c_162, c_176, c_189, c_194, c_200, c_216]; try (intro q; omega)) (by omega))
                          exact j_sub [2, 3, 4, 5, 6, 7, 8, 9, 10, 11, 12, 13, 14, 15, 16, 17, 1, 0] rfl (L145 6 _ _ _ (by omega) (by rfl) (by omega) (by rw [← hb1]; simp [andN]) (by omega))
                    exact j_sub [1, 2, 3, 4, 5, 6, 7, 8, 9, 10, 11, 12, 13, 14, 15, 0] rfl (L133 3 _ _ _ (by omega) (by rfl) (by omega) (by rw [hA]; simp [andN]) (by omega))
                  · refine j_aload X dL_cover_73 10 rfl ?_
                    refine j_iload X dL_cover_75 15 rfl ?_
                    refine j_iload X dL_cover_77 12 rfl ?_
                    refine j_iconst (v := nI 2) X dL_cover_79 (by decide) ?_
                    refine j_iconst (v := nI 4) X dL_cover_80 (by decide) ?_
                    refine j_iload X dL_cover_81 15 rfl ?_
                    refine n_isub X dL_cover_83 (by omega) ?_
                    refine n_imul X dL_cover_84 ?_
                    refine j_ishr X dL_cover_85 ?_
                    refine j_iconst (v := nI 3) X dL_cover_86 (by decide) ?_
                    refine j_iand X dL_cover_87 ?_
                    rw [two_at (by omega) (by omega)]
                    have how := ow_lt x d
                    refine jl_ast X hB2 (k := 9) (by decide) (by decide) rfl (show _ < 5 by omega) (by omega) dL_cover_88 (fun Q_88 eQ_88 hB_88 => ?_)
                    refine j_iload X dL_cover_89 14 rfl ?_
                    refine b_if_eq (tgt := 121) X dL_cover_91 (by decide) (fun c_91 => ?_) (fun c_91 => ?_)
                    · refine j_iconst (v := bI false) X dL_cover_121 (by decide) ?_
                      refine j_istore X [(14, _), (0, _), (1, _), (2, _), (3, _), (4, _), (5, _), (6, _), (7, _), (8, _), (9, _), (10, _), (11, _), (12, _), (13, _), (15, _)] dL_cover_122 (by decide) rfl ?_
                      refine n_iinc X [(15, _), (14, _), (0, _), (1, _), (2, _), (3, _), (4, _), (5, _), (6, _), (7, _), (8, _), (9, _), (10, _), (11, _), (12, _), (13, _)] dL_cover_124 (q := 15) (b := 1) rfl (by decide) (by decide) rfl ?_
                      refine j_goto (tgt := 67) X dL_cover_127 (by decide) ?_
                      exact j_sub [2, 3, 4, 5, 6, 7, 8, 9, 10, 11, 12, 13, 14, 15, 1, 0] rfl (ih67 _ _ _ (by omega) (by exact hB_88) (by exact OFQ.u eQ_88 hq2 (by decide)) (by exact fill_s eQ_88 ho rfl) (by rw [andN, ← hb]; simp [c_70, c_91]) (by omega))
                    · refine j_aload X dL_cover_94 10 rfl ?_
                      refine j_iload X dL_cover_96 15 rfl ?_
                      refine jl_ald X (LA.arw (k := 9) hB_88 (by decide) (by decide)) (by show _ < 5; omega) dL_cover_98 (fun v_98 e_98 b_98 => ?_)
                      have e_98 := e_98.trans ((show Q_88 9 d = ow x d by rw [eQ_88, uM_eq]))
                      subst e_98
                      refine j_iconst (v := nI 1) X dL_cover_99 (by decide) ?_
                      refine j_iand X dL_cover_100 ?_
                      rw [and1_at (by omega)]
                      refine j_aload X dL_cover_101 10 rfl ?_
                      refine j_iload X dL_cover_103 15 rfl ?_
                      refine jl_ald X (LA.arw (k := 9) hB_88 (by decide) (by decide)) (by show _ < 5; omega) dL_cover_105 (fun v_105 e_105 b_105 => ?_)
                      have e_105 := e_105.trans ((show Q_88 9 d = ow x d by rw [eQ_88, uM_eq]))
                      subst e_105
                      refine j_iconst (v := nI 1) X dL_cover_106 (by decide) ?_
                      refine j_ishr X dL_cover_107 ?_
                      rw [shr1_at (by omega)]
                      refine n_iadd X dL_cover_108 ?_
                      refine j_aload X dL_cover_109 9 rfl ?_
                      refine j_iload X dL_cover_111 15 rfl ?_
                      refine jl_ald X (LA.arw (k := 8) hB_88 (by decide) (by decide)) (by show _ < 5; omega) dL_cover_113 (fun v_113 e_113 b_113 => ?_)
                      have e_113 := e_113.trans ((show Q_88 8 d = shN S w d by rw [eQ_88, uM_nk (by decide)]; exact (hq2 8 d (by decide)).trans (hl d (by omega))))
                      subst e_113
                      refine n_icmp_ne (tgt := 121) X dL_cover_114 (by decide) (by omega) (by omega) (fun c_114 => ?_) (fun c_114 => ?_)
                      · refine j_iconst (v := bI false) X dL_cover_121 (by decide) ?_
                        refine j_istore X [(14, _), (0, _), (1, _), (2, _), (3, _), (4, _), (5, _), (6, _), (7, _), (8, _), (9, _), (10, _), (11, _), (12, _), (13, _), (15, _)] dL_cover_122 (by decide) rfl ?_
                        refine n_iinc X [(15, _), (14, _), (0, _), (1, _), (2, _), (3, _), (4, _), (5, _), (6, _), (7, _), (8, _), (9, _), (10, _), (11, _), (12, _), (13, _)] dL_cover_124 (q := 15) (b := 1) rfl (by decide) (by decide) rfl ?_
                        refine j_goto (tgt := 67) X dL_cover_127 (by decide) ?_
                        exact j_sub [2, 3, 4, 5, 6, 7, 8, 9, 10, 11, 12, 13, 14, 15, 1, 0] rfl (ih67 _ _ _ (by omega) (by exact hB_88) (by exact OFQ.u eQ_88 hq2 (by decide)) (by exact fill_s eQ_88 ho rfl) (by rw [andN, ← hb]; simp [c_70, c_91, c_114]) (by omega))
                      · refine j_iconst (v := bI true) X dL_cover_117 (by decide) ?_
                        refine j_goto (tgt := 122) X dL_cover_118 (by decide) ?_
                        refine j_istore X [(14, _), (0, _), (1, _), (2, _), (3, _), (4, _), (5, _), (6, _), (7, _), (8, _), (9, _), (10, _), (11, _), (12, _), (13, _), (15, _)] dL_cover_122 (by decide) rfl ?_
                        refine n_iinc X [(15, _), (14, _), (0, _), (1, _), (2, _), (3, _), (4, _), (5, _), (6, _), (7, _), (8, _), (9, _), (10, _), (11, _), (12, _), (13, _)] dL_cover_124 (q := 15) (b := 1) rfl (by decide) (by decide) rfl ?_
                        refine j_goto (tgt := 67) X dL_cover_127 (by decide) ?_
                        exact j_sub [2, 3, 4, 5, 6, 7, 8, 9, 10, 11, 12, 13, 14, 15, 1, 0] rfl (ih67 _ _ _ (by omega) (by exact hB_88) (by exact OFQ.u eQ_88 hq2 (by decide)) (by exact fill_s eQ_88 ho rfl) (by rw [andN, ← hb]; simp [c_70, c_91, c_114]) (by omega))
              exact j_sub [3, 4, 5, 6, 7, 8, 9, 10, 11, 12, 13, 14, 15, 2, 1, 0] rfl (L67 6 _ _ _ (by omega) (by exact hB1) (by exact OFQ.refl _ _) (by intro j hj; exact absurd hj (by omega)) (by rfl) (by omega))
        exact j_sub [2, 3, 4, 5, 6, 7, 8, 9, 10, 11, 12, 1, 0] rfl (L50 1025 0 none _ (by omega) (by exact hB1) (by exact hq.mono (by decide)) (by exact hl) (by intro y hy; exact absurd hy (by omega)) (by intro y hy; cases hy) (by omega))
      · have hL1 : LR S nc me Q1 := hL.off (fun a j ha => hq a j (by simp; omega))
        refine j_aload X dL_cover_19 9 rfl ?_
        refine j_iload X dL_cover_21 11 rfl ?_
        refine j_iload_n X dL_cover_23 rfl 0 rfl ?_
        refine j_iload X dL_cover_24 11 rfl ?_
        refine j_aload_n X dL_cover_26 rfl 2 rfl ?_
        refine j_aload_n X dL_cover_27 rfl 3 rfl ?_
        refine j_aload X dL_cover_28 4 rfl ?_
        refine j_aload X dL_cover_30 5 rfl ?_
        refine j_aload X dL_cover_32 6 rfl ?_
        refine jr_callN7 X hR (m_L_shortage (LV.la hB1 (by decide) (by decide)) hB hI hL1 w d hw (by omega)) m_L_94 (by decide) (by decide) (Nat.le_of_ble_eq_true rfl) ⟨by decide, by decide⟩ dL_cover_34 (fun v_34 e_34 b_34 => ?_)
        refine jl_ast X hB1 (k := 8) (by decide) (by decide) rfl (show _ < 5 by omega) (by omega) dL_cover_37 (fun Q_37 eQ_37 hB_37 => ?_)
        refine n_iinc X [(11, _), (0, _), (1, _), (2, _), (3, _), (4, _), (5, _), (6, _), (7, _), (8, _), (9, _), (10, _)] dL_cover_38 (q := 11) (b := 1) rfl (by decide) (by decide) rfl ?_
        refine j_goto (tgt := 13) X dL_cover_41 (by decide) ?_
        exact j_sub [1, 2, 3, 4, 5, 6, 7, 8, 9, 10, 11, 0] rfl (ih13 _ _ (by omega) (by exact hB_37) (by exact OFQ.u eQ_37 hq (by decide)) (by exact fill_s eQ_37 hl e_34) (by omega))
  exact j_sub [3, 4, 5, 6, 7, 8, 9, 10, 11, 2, 1, 0] rfl (L13 6 _ _ (by omega) (by exact (BD_z (k := 9) (BD_z (k := 8) hBQ))) (by intro a j ha; simp at ha; rw [zQ_ne ha.2, zQ_ne ha.1]) (by intro j hj; exact absurd hj (by omega)) (by omega))
end
