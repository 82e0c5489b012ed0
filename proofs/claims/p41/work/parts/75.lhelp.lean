/-! the law's helpers, read from any world: LV: its rows lie in it -/
def LV (ws : va_W) (Y : Nat → ClassId) (aq : Nat → Nat) (Q : MS) : Prop := BD Q ∧ ∀ k, k < 6 → AR ws Y (aq k) (lenL k) (Q k)
theorem LV.a0 {ws : va_W} {Y : Nat → ClassId} {aq : Nat → Nat} {Q : MS} (h : LV ws Y aq Q) : AR ws Y (aq 0) 16 (Q 0) := h.2 0 (by decide)
theorem LV.a1 {ws : va_W} {Y : Nat → ClassId} {aq : Nat → Nat} {Q : MS} (h : LV ws Y aq Q) : AR ws Y (aq 1) 20 (Q 1) := h.2 1 (by decide)
theorem LV.a2 {ws : va_W} {Y : Nat → ClassId} {aq : Nat → Nat} {Q : MS} (h : LV ws Y aq Q) : AR ws Y (aq 2) 50 (Q 2) := h.2 2 (by decide)
theorem LV.a3 {ws : va_W} {Y : Nat → ClassId} {aq : Nat → Nat} {Q : MS} (h : LV ws Y aq Q) : AR ws Y (aq 3) 30 (Q 3) := h.2 3 (by decide)
theorem LV.a4 {ws : va_W} {Y : Nat → ClassId} {aq : Nat → Nat} {Q : MS} (h : LV ws Y aq Q) : AR ws Y (aq 4) 16 (Q 4) := h.2 4 (by decide)
theorem LV.a5 {ws : va_W} {Y : Nat → ClassId} {aq : Nat → Nat} {Q : MS} (h : LV ws Y aq Q) : AR ws Y (aq 5) 6 (Q 5) := h.2 5 (by decide)
theorem LV.la {wl : va_W} {Y : Nat → ClassId} {aq : Nat → Nat} {n : Nat} {Q : MS} (hB : BD Q) (h6 : 6 ≤ n) (hn : n ≤ 10) : LV (wl ++ LA aq Y n Q) Y aq Q := ⟨hB, fun _ hk => LA.arw hB (by omega) hn⟩
theorem band31 (x : Int32) : ∃ j : Nat, j < 2147483648 ∧ x &&& nI 2147483647 = nI j := pk_andE x 31 (by decide)
theorem ct_1 {b : Bool} (h : b = true) (s : Nat) : s + 1 = s + ct b := by rw [h]; rfl
theorem ct_0 {b : Bool} (h : b = false) (s : Nat) : s = s + ct b := by rw [h]; rfl
def rW (n : Nat) : Option Value → Prop := fun w => ∃ r : Nat, r < n ∧ w = some (.int (nI r))
section
variable {K : Ctx} {cc : ByteArray} {nL : Nat} {own : String} {D : va_G} {Y : Nat → ClassId} {cells slots : Nat} {lv : List (Nat × Value)} {pc : Nat} {st : List Value}
theorem jr_callR2 (X : CX K cc nL own D Y) {ws : va_W} {z : MI} {j k mc0 ms0 idx n : Nat} {a0 a1 : Value} (hR : RO K k mc0 ms0) (hM : MR Y ws z j [a0, a1] (rW n)) (cw : CwS own idx 2 z) (hjk : j < k) (hmL : z.2.2.1 ≤ 40) (hst : (st.map fun v => v.category).sum ≤ 8) (hf : cells ≤ mc0 ∧ slots ≤ ms0) (hdg : decode cc pc = .ok (.invokestatic idx, 3)) (kk : ∀ r : Nat, r < n → JJ K D cells slots ws lv (pc + 3) (.int (nI r) :: st)) : JJ K D cells slots ws lv pc (a1 :: a0 :: st) := by
  refine jl_callS (mc := 0) (ms := 0) (As := [a0, a1]) X hR (hM D) cw hjk hmL rfl hst hf hdg (fun v u hp => ?_)
  obtain ⟨⟨r, hr, rfl⟩, rfl⟩ := hp
  exact kk r hr
end
section
variable {Y : Nat → ClassId} {ws : va_W} {aq : Nat → Nat} {Q S : MS} {nc me : Nat}
set_option maxRecDepth 100000 in
set_option maxHeartbeats 4000000 in
theorem m_L_low (v : Int32) (k : Nat) (h0 : 0 < k) (hk : k < 100000) : MR Y ws zL_low 0 [.int v, .int (nI k)] (rW k) := by
  intro D
  refine MT.of [(0, .int v), (1, .int (nI k))] (by decide) rfl (Nat.le_of_ble_eq_true rfl) ?_
  intro K hR0 X E
  have hR := RO.rm hR0
  refine j_iload_n X dL_low_0 rfl 0 rfl ?_
  refine j_ldc X k_L_9 dL_low_1 ?_
  rw [show (2147483647 : Int32) = nI 2147483647 from by decide]
  refine j_iand X dL_low_3 ?_
  obtain ⟨j, hj, he⟩ := band31 v
  rw [he]
  refine j_iload_n X dL_low_4 rfl 1 rfl ?_
  refine n_irem X dL_low_5 (by omega) (by omega) (by omega) ?_
  exact j_ireturn X E (_) rfl ⟨⟨_, Nat.mod_lt _ h0, rfl⟩, rfl⟩ dL_low_6
set_option maxRecDepth 100000 in
set_option maxHeartbeats 4000000 in
theorem m_L_group (S : MS) (c : Nat) (hb : S 1 c < 16777216) : MR Y ws zL_group 0 [.int (nI (S 1 c))] (rN (grpN S c) 2) := by
  intro D
  refine MT.of [(0, .int (nI (S 1 c)))] (by decide) rfl (Nat.le_of_ble_eq_true rfl) ?_
  intro K hR0 X E
  have hR := RO.rm hR0
  refine j_iload_n X dL_group_0 rfl 0 rfl ?_
  refine j_bipush (v := nI 24) X dL_group_1 (by decide) ?_
  refine n_icmp_ge (tgt := 10) X dL_group_3 (by decide) (by omega) (by omega) (fun c_3 => ?_) (fun c_3 => ?_)
  · refine j_iload_n X dL_group_10 rfl 0 rfl ?_
    refine j_bipush (v := nI 36) X dL_group_11 (by decide) ?_
    refine n_icmp_ge (tgt := 20) X dL_group_13 (by decide) (by omega) (by omega) (fun c_13 => ?_) (fun c_13 => ?_)
    · refine j_iconst (v := nI 2) X dL_group_20 (by decide) ?_
      exact j_ireturn X E (_) rfl ⟨⟨_, by unfold grpN; (try split) <;> (try split) <;> omega, by omega, rfl⟩, rfl⟩ dL_group_21
    · refine j_iconst (v := nI 1) X dL_group_16 (by decide) ?_
      refine j_goto (tgt := 21) X dL_group_17 (by decide) ?_
      exact j_ireturn X E (_) rfl ⟨⟨_, by unfold grpN; (try split) <;> (try split) <;> omega, by omega, rfl⟩, rfl⟩ dL_group_21
  · refine j_iconst (v := nI 0) X dL_group_6 (by decide) ?_
    refine j_goto (tgt := 21) X dL_group_7 (by decide) ?_
    exact j_ireturn X E (_) rfl ⟨⟨_, by unfold grpN; (try split) <;> (try split) <;> omega, by omega, rfl⟩, rfl⟩ dL_group_21
set_option maxRecDepth 100000 in
set_option maxHeartbeats 4000000 in
theorem m_L_in {a L : Nat} {f : Nat → Nat} (hA : AR ws Y a L f) (o d k : Nat) (hd : d < 5) (hk : k < 100) (ho : o + 2 * d + 1 < L) : MR Y ws zL_in 0 [.int (nI d), .int (nI k), .int (nI o), .ref a] (rB (inL f o d k)) := by
  intro D
  refine MT.of [(0, .int (nI d)), (1, .int (nI k)), (2, .int (nI o)), (3, .ref a)] (by decide) rfl (Nat.le_of_ble_eq_true rfl) ?_
  intro K hR0 X E
  have hR := RO.rm hR0
  have hL := hA.2.2
  refine j_aload_n X dL_in_0 rfl 3 rfl ?_
  refine j_iload_n X dL_in_1 rfl 2 rfl ?_
  refine j_iconst (v := nI 2) X dL_in_2 (by decide) ?_
  refine j_iload_n X dL_in_3 rfl 0 rfl ?_
  refine n_imul X dL_in_4 ?_
  refine n_iadd X dL_in_5 ?_
  refine jl_ald X hA (by show _ < _; omega) dL_in_6 (fun v_6 e_6 b_6 => ?_)
  have e_6 := e_6.trans (rfl)
  subst e_6
  refine j_iload_n X dL_in_7 rfl 1 rfl ?_
  refine n_icmp_gt (tgt := 28) X dL_in_8 (by decide) (by omega) (by omega) (fun c_8 => ?_) (fun c_8 => ?_)
  · refine j_iconst (v := bI false) X dL_in_28 (by decide) ?_
    exact j_zreturn X E (_) rfl ⟨by show _ = _; congr 3; symm; simp only [inL, Bool.and_eq_true, Bool.and_eq_false_iff, decide_eq_true_eq, decide_eq_false_iff_not]; omega, rfl⟩ dL_in_29
  · refine j_iload_n X dL_in_11 rfl 1 rfl ?_
    refine j_aload_n X dL_in_12 rfl 3 rfl ?_
    refine j_iload_n X dL_in_13 rfl 2 rfl ?_
    refine j_iconst (v := nI 2) X dL_in_14 (by decide) ?_
    refine j_iload_n X dL_in_15 rfl 0 rfl ?_
    refine n_imul X dL_in_16 ?_
    refine n_iadd X dL_in_17 ?_
    refine j_iconst (v := nI 1) X dL_in_18 (by decide) ?_
    refine n_iadd X dL_in_19 ?_
    refine jl_ald X hA (by show _ < _; omega) dL_in_20 (fun v_20 e_20 b_20 => ?_)
    have e_20 := e_20.trans (rfl)
    subst e_20
    refine n_icmp_ge (tgt := 28) X dL_in_21 (by decide) (by omega) (by omega) (fun c_21 => ?_) (fun c_21 => ?_)
    · refine j_iconst (v := bI false) X dL_in_28 (by decide) ?_
      exact j_zreturn X E (_) rfl ⟨by show _ = _; congr 3; symm; simp only [inL, Bool.and_eq_true, Bool.and_eq_false_iff, decide_eq_true_eq, decide_eq_false_iff_not]; omega, rfl⟩ dL_in_29
    · refine j_iconst (v := bI true) X dL_in_24 (by decide) ?_
      refine j_goto (tgt := 29) X dL_in_25 (by decide) ?_
      exact j_zreturn X E (_) rfl ⟨by show _ = _; congr 3; symm; simp only [inL, Bool.and_eq_true, Bool.and_eq_false_iff, decide_eq_true_eq, decide_eq_false_iff_not]; omega, rfl⟩ dL_in_29
theorem m_L_inC (hV : LV ws Y aq Q) (hC : LC S nc Q) (c d k : Nat) (hc : c < nc) (hd : d < 5) (hk : k < 100) : MR Y ws zL_in 0 [.int (nI d), .int (nI k), .int (nI (10 * c)), .ref (aq 2)] (rB (isBkd S c d k)) := by
  have := hC.1
  rw [← hC.bk hc hd]
  exact m_L_in hV.a2 _ _ _ hd hk (by omega)
theorem m_L_inE (hV : LV ws Y aq Q) (hE : LE S me Q) (c d k : Nat) (hc : c < me) (hd : d < 5) (hk : k < 100) : MR Y ws zL_in 0 [.int (nI d), .int (nI k), .int (nI (10 * c)), .ref (aq 3)] (rB (inL (Q 3) (10 * c) d k)) := by
  have := hE.1
  exact m_L_in hV.a3 _ _ _ hd hk (by omega)
set_option maxRecDepth 100000 in
set_option maxHeartbeats 4000000 in
theorem m_L_hours {S : MS} {a : Nat} {f : Nat → Nat} (hA : AR ws Y a 50 f) (hI : IV S) (c : Nat) (hc : c < 5) (hbk : ∀ d k, d < 5 → inL f (10 * c) d k = isBkd S c d k) : MR Y ws zL_hours 1 [.int (nI c), .ref a] (rN (hoursN S c) 50) := by
  intro D
  refine MT.of [(0, .int (nI c)), (1, .ref a)] (by decide) rfl (Nat.le_of_ble_eq_true rfl) ?_
  intro K hR0 X E
  have hR := RO.rm hR0
  refine j_iconst (v := nI 0) X dL_hours_0 (by decide) ?_
  refine j_istore_n X [(2, _), (0, _), (1, _)] dL_hours_1 rfl (by decide) rfl ?_
  refine j_iconst (v := nI 0) X dL_hours_2 (by decide) ?_
  refine j_istore_n X [(3, _), (2, _), (0, _), (1, _)] dL_hours_3 rfl (by decide) rfl ?_
  have L4 : ∀ (n : Nat) (i s : Nat), (i ≤ 5) → (s = sm (fun d => sm (fun k => ct (isBkd S c d k)) 10) i) → (5 + 1 ≤ i + n) → JJ K D 0 0 (ws) [(0, .int (nI c)), (1, .ref a), (2, .int (nI s)), (3, .int (nI i))] 4 [] := by
    intro n
    induction n with
    | zero =>
      intro i s hi hs hf4
      exact absurd hf4 (by omega)
    | succ n4 ih4 =>
      intro i s hi hs hf4
      refine j_iload_n X dL_hours_4 rfl 3 rfl ?_
      refine j_iconst (v := nI 5) X dL_hours_5 (by decide) ?_
      refine n_icmp_ge (tgt := 53) X dL_hours_6 (by decide) (by omega) (by omega) (fun c_6 => ?_) (fun c_6 => ?_)
      · have hi5 : i = 5 := by omega
        subst hi5
        have e : hoursN S c = sm (fun d => sm (fun k => ct (isBkd S c d k)) 10) 5 := sm_congr (fun d hd => (hours_is hI (by omega) hd).symm)
        have hle : sm (fun d => sm (fun k => ct (isBkd S c d k)) 10) 5 ≤ 5 * 10 := sm_le (fun i hi => sm_le (b := 1) (fun j hj => ct_le _))
        refine j_iload_n X dL_hours_53 rfl 2 rfl ?_
        exact j_ireturn X E (_) rfl ⟨⟨_, hs.trans e.symm, by omega, rfl⟩, rfl⟩ dL_hours_54
      · refine j_iconst (v := nI 0) X dL_hours_9 (by decide) ?_
        refine j_istore X [(4, _), (0, _), (1, _), (2, _), (3, _)] dL_hours_10 (by decide) rfl ?_
        have L12 : ∀ (n : Nat) (j t : Nat), (j ≤ 10) → (t = sm (fun d => sm (fun k => ct (isBkd S c d k)) 10) i + sm (fun k => ct (isBkd S c i k)) j) → (10 + 1 ≤ j + n) → JJ K D 0 0 (ws) [(0, .int (nI c)), (1, .ref a), (2, .int (nI t)), (3, .int (nI i)), (4, .int (nI j))] 12 [] := by
          intro n
          induction n with
          | zero =>
            intro j t hj ht hf12
            exact absurd hf12 (by omega)
          | succ n12 ih12 =>
            intro j t hj ht hf12
            refine j_iload X dL_hours_12 4 rfl ?_
            refine j_bipush (v := nI 10) X dL_hours_14 (by decide) ?_
            refine n_icmp_ge (tgt := 47) X dL_hours_16 (by decide) (by omega) (by omega) (fun c_16 => ?_) (fun c_16 => ?_)
            · have hj10 : j = 10 := by omega
              subst hj10
              refine n_iinc X [(3, _), (0, _), (1, _), (2, _), (4, _)] dL_hours_47 (q := 3) (b := 1) rfl (by decide) (by decide) rfl ?_
              refine j_goto (tgt := 4) X dL_hours_50 (by decide) ?_
              exact j_sub [1, 2, 3, 0] rfl (ih4 _ _ (by omega) (by rw [sm_s, ht]) (by omega))
            · refine j_iload_n X dL_hours_19 rfl 2 rfl ?_
              refine j_iload_n X dL_hours_20 rfl 3 rfl ?_
              refine j_iload X dL_hours_21 4 rfl ?_
              refine j_bipush (v := nI 10) X dL_hours_23 (by decide) ?_
              refine j_iload_n X dL_hours_25 rfl 0 rfl ?_
              refine n_imul X dL_hours_26 ?_
              refine j_aload_n X dL_hours_27 rfl 1 rfl ?_
              refine jr_callB4 X hR (m_L_in hA (10 * c) i j (by omega) (by omega) (by omega)) m_L_10 (by decide) (by decide) (Nat.le_of_ble_eq_true rfl) ⟨by decide, by decide⟩ dL_hours_28 ?_
              refine b_if_eq (tgt := 38) X dL_hours_31 (by decide) (fun c_31 => ?_) (fun c_31 => ?_)
              · skip
                refine j_iconst (v := nI 0) X dL_hours_38 (by decide) ?_
                refine n_iadd X dL_hours_39 ?_
                refine j_istore_n X [(2, _), (0, _), (1, _), (3, _), (4, _)] dL_hours_40 rfl (by decide) rfl ?_
                refine n_iinc X [(4, _), (2, _), (0, _), (1, _), (3, _)] dL_hours_41 (q := 4) (b := 1) rfl (by decide) (by decide) rfl ?_
                refine j_goto (tgt := 12) X dL_hours_44 (by decide) ?_
                exact j_sub [2, 3, 1, 4, 0] rfl (ih12 _ _ (by omega) (by rw [sm_s, ← Nat.add_assoc, ← ht, ← hbk _ _ (show i < 5 by omega), c_31, ct_f, Nat.add_zero]) (by omega))
              · skip
                refine j_iconst (v := nI 1) X dL_hours_34 (by decide) ?_
                refine j_goto (tgt := 39) X dL_hours_35 (by decide) ?_
                refine n_iadd X dL_hours_39 ?_
                refine j_istore_n X [(2, _), (0, _), (1, _), (3, _), (4, _)] dL_hours_40 rfl (by decide) rfl ?_
                refine n_iinc X [(4, _), (2, _), (0, _), (1, _), (3, _)] dL_hours_41 (q := 4) (b := 1) rfl (by decide) (by decide) rfl ?_
                refine j_goto (tgt := 12) X dL_hours_44 (by decide) ?_
                exact j_sub [2, 3, 1, 4, 0] rfl (ih12 _ _ (by omega) (by rw [sm_s, ← Nat.add_assoc, ← ht, ← hbk _ _ (show i < 5 by omega), c_31, ct_t]) (by omega))
        exact j_sub [1, 2, 3, 4, 0] rfl (L12 11 _ _ (by omega) (by rw [sm_0]; omega) (by omega))
  exact j_sub [2, 3, 1, 0] rfl (L4 6 _ _ (by omega) (by rfl) (by omega))
theorem m_L_hoursC (hV : LV ws Y aq Q) (hC : LC S nc Q) (hI : IV S) (c : Nat) (hc : c < nc) : MR Y ws zL_hours 1 [.int (nI c), .ref (aq 2)] (rN (hoursN S c) 50) := by
  have := hC.1
  exact m_L_hours hV.a2 hI c (by omega) (fun d k hd => hC.bk hc hd k)
set_option maxRecDepth 100000 in
set_option maxHeartbeats 4000000 in
theorem m_L_present (hV : LV ws Y aq Q) (hB : BD S) (hI : IV S) (hL : LR S nc me Q) (d k : Nat) (hd : d < 5) (hk : k < 100) : MR Y ws zL_present 1 [.int (nI d), .int (nI k), .ref (aq 0), .ref (aq 1), .ref (aq 2)] (rN (presN S d k (-9)) 5) := by
  intro D
  refine MT.of [(0, .int (nI d)), (1, .int (nI k)), (2, .ref (aq 0)), (3, .ref (aq 1)), (4, .ref (aq 2))] (by decide) rfl (Nat.le_of_ble_eq_true rfl) ?_
  intro K hR0 X E
  have hR := RO.rm hR0
  have hQ := hL.1
  have hC := hL.2.1
  have hE := hL.2.2
  have hn5 := hC.1
  have hm3 := hE.1
  refine j_iconst (v := nI 0) X dL_present_0 (by decide) ?_
  refine j_istore X [(5, _), (0, _), (1, _), (2, _), (3, _), (4, _)] dL_present_1 (by decide) rfl ?_
  refine j_iconst (v := nI 0) X dL_present_3 (by decide) ?_
  refine j_istore X [(6, _), (5, _), (0, _), (1, _), (2, _), (3, _), (4, _)] dL_present_4 (by decide) rfl ?_
  have L6 : ∀ (n : Nat) (i s : Nat), (i ≤ nc) → (s = sm (fun c => ct (presB S d k (-9) c)) i) → (nc + 1 ≤ i + n) → JJ K D 0 0 (ws) [(0, .int (nI d)), (1, .int (nI k)), (2, .ref (aq 0)), (3, .ref (aq 1)), (4, .ref (aq 2)), (5, .int (nI s)), (6, .int (nI i))] 6 [] := by
    intro n
    induction n with
    | zero =>
      intro i s hi hs hf6
      exact absurd hf6 (by omega)
    | succ n6 ih6 =>
      intro i s hi hs hf6
      refine j_iload X dL_present_6 6 rfl ?_
      refine j_aload_n X dL_present_8 rfl 2 rfl ?_
      refine j_bipush (v := nI 7) X dL_present_9 (by decide) ?_
      refine jl_ald X (hV.a0) (by show _ < 16; omega) dL_present_11 (fun v_11 e_11 b_11 => ?_)
      have e_11 := e_11.trans (hQ.2.1.1)
      refine n_icmp_ge (tgt := 58) X dL_present_12 (by decide) (by omega) (by omega) (fun c_12 => ?_) (fun c_12 => ?_)
      · have hin : i = nc := by omega
        rw [hin] at hs
        have hle : sm (fun c => ct (presB S d k (-9) c)) nc ≤ nc * 1 := sm_le (fun i hi => ct_le _)
        refine j_iload X dL_present_58 5 rfl ?_
        exact j_ireturn X E (_) rfl ⟨⟨_, hs.trans (hC.pres d k).symm, by omega, rfl⟩, rfl⟩ dL_present_60
      · refine j_iload X dL_present_15 5 rfl ?_
        refine j_aload_n X dL_present_17 rfl 3 rfl ?_
        refine j_iconst (v := nI 4) X dL_present_18 (by decide) ?_
        refine j_iload X dL_present_19 6 rfl ?_
        refine n_imul X dL_present_21 ?_
        refine j_iconst (v := nI 2) X dL_present_22 (by decide) ?_
        refine n_iadd X dL_present_23 ?_
        refine jl_ald X (hV.a1) (by show _ < 20; omega) dL_present_24 (fun v_24 e_24 b_24 => ?_)
        have e_24 := e_24.trans (hC.adm (by omega))
        subst e_24
        refine j_iconst (v := nI 1) X dL_present_25 (by decide) ?_
        refine n_icmp_ne (tgt := 48) X dL_present_26 (by decide) (by omega) (by omega) (fun c_26 => ?_) (fun c_26 => ?_)
        · refine j_iconst (v := nI 0) X dL_present_48 (by decide) ?_
          refine n_iadd X dL_present_49 ?_
          refine j_istore X [(5, _), (0, _), (1, _), (2, _), (3, _), (4, _), (6, _)] dL_present_50 (by decide) rfl ?_
          refine n_iinc X [(6, _), (5, _), (0, _), (1, _), (2, _), (3, _), (4, _)] dL_present_52 (q := 6) (b := 1) rfl (by decide) (by decide) rfl ?_
          refine j_goto (tgt := 6) X dL_present_55 (by decide) ?_
          exact j_sub [2, 3, 4, 5, 6, 1, 0] rfl (ih6 _ _ (by omega) (by rw [sm_s, presB_9 hC (show i < nc by omega), ← hs]; simp [ct, c_12, c_26]) (by omega))
        · refine j_iload_n X dL_present_29 rfl 0 rfl ?_
          refine j_iload_n X dL_present_30 rfl 1 rfl ?_
          refine j_bipush (v := nI 10) X dL_present_31 (by decide) ?_
          refine j_iload X dL_present_33 6 rfl ?_
          refine n_imul X dL_present_35 ?_
          refine j_aload X dL_present_36 4 rfl ?_
          refine jr_callB4 X hR (m_L_inC hV hC i d k (by omega) (by omega) (by omega)) m_L_10 (by decide) (by decide) (Nat.le_of_ble_eq_true rfl) ⟨by decide, by decide⟩ dL_present_38 ?_
          refine b_if_eq (tgt := 48) X dL_present_41 (by decide) (fun c_41 => ?_) (fun c_41 => ?_)
          · refine j_iconst (v := nI 0) X dL_present_48 (by decide) ?_
            refine n_iadd X dL_present_49 ?_
            refine j_istore X [(5, _), (0, _), (1, _), (2, _), (3, _), (4, _), (6, _)] dL_present_50 (by decide) rfl ?_
            refine n_iinc X [(6, _), (5, _), (0, _), (1, _), (2, _), (3, _), (4, _)] dL_present_52 (q := 6) (b := 1) rfl (by decide) (by decide) rfl ?_
            refine j_goto (tgt := 6) X dL_present_55 (by decide) ?_
            exact j_sub [2, 3, 4, 5, 6, 1, 0] rfl (ih6 _ _ (by omega) (by rw [sm_s, presB_9 hC (show i < nc by omega), ← hs]; simp [ct, c_12, c_26, c_41]) (by omega))
          · refine j_iconst (v := nI 1) X dL_present_44 (by decide) ?_
            refine j_goto (tgt := 49) X dL_present_45 (by decide) ?_
            refine n_iadd X dL_present_49 ?_
            refine j_istore X [(5, _), (0, _), (1, _), (2, _), (3, _), (4, _), (6, _)] dL_present_50 (by decide) rfl ?_
            refine n_iinc X [(6, _), (5, _), (0, _), (1, _), (2, _), (3, _), (4, _)] dL_present_52 (q := 6) (b := 1) rfl (by decide) (by decide) rfl ?_
            refine j_goto (tgt := 6) X dL_present_55 (by decide) ?_
            exact j_sub [2, 3, 4, 5, 6, 1, 0] rfl (ih6 _ _ (by omega) (by rw [sm_s, presB_9 hC (show i < nc by omega), ← hs]; simp [ct, c_12, c_26, c_41]) (by omega))
  exact j_sub [2, 3, 4, 5, 6, 1, 0] rfl (L6 (nc + 1) _ _ (by omega) (by rfl) (by omega))
set_option maxRecDepth 100000 in
set_option maxHeartbeats 4000000 in
theorem m_L_staff (hV : LV ws Y aq Q) (hB : BD S) (hI : IV S) (hL : LR S nc me Q) (d k : Nat) (hd : d < 5) (hk : k < 100) : MR Y ws zL_staff 1 [.int (nI d), .int (nI k), .int (-1), .ref (aq 0), .ref (aq 3), .ref (aq 4)] (rN (staffN S d k) 3) := by
  intro D
  refine MT.of [(0, .int (nI d)), (1, .int (nI k)), (2, .int (-1)), (3, .ref (aq 0)), (4, .ref (aq 3)), (5, .ref (aq 4))] (by decide) rfl (Nat.le_of_ble_eq_true rfl) ?_
  intro K hR0 X E
  have hR := RO.rm hR0
  have hQ := hL.1
  have hC := hL.2.1
  have hE := hL.2.2
  have hn5 := hC.1
  have hm3 := hE.1
  refine j_iconst (v := nI 0) X dL_staff_0 (by decide) ?_
  refine j_istore X [(6, _), (0, _), (1, _), (2, _), (3, _), (4, _), (5, _)] dL_staff_1 (by decide) rfl ?_
  refine j_iconst (v := nI 0) X dL_staff_3 (by decide) ?_
  refine j_istore X [(7, _), (6, _), (0, _), (1, _), (2, _), (3, _), (4, _), (5, _)] dL_staff_4 (by decide) rfl ?_
  have L6 : ∀ (n : Nat) (i s : Nat), (i ≤ me) → (s = sm (fun e => ct (wrkB S d k e)) i) → (me + 1 ≤ i + n) → JJ K D 0 0 (ws) [(0, .int (nI d)), (1, .int (nI k)), (2, .int (-1)), (3, .ref (aq 0)), (4, .ref (aq 3)), (5, .ref (aq 4)), (6, .int (nI s)), (7, .int (nI i))] 6 [] := by
    intro n
    induction n with
    | zero =>
      intro i s hi hs hf6
      exact absurd hf6 (by omega)
    | succ n6 ih6 =>
      intro i s hi hs hf6
      refine j_iload X dL_staff_6 7 rfl ?_
      refine j_aload_n X dL_staff_8 rfl 3 rfl ?_
      refine j_bipush (v := nI 8) X dL_staff_9 (by decide) ?_
      refine jl_ald X (hV.a0) (by show _ < 16; omega) dL_staff_11 (fun v_11 e_11 b_11 => ?_)
      have e_11 := e_11.trans (hQ.2.1.2.1)
      refine n_icmp_ge (tgt := 62) X dL_staff_12 (by decide) (by omega) (by omega) (fun c_12 => ?_) (fun c_12 => ?_)
      · have hin : i = me := by omega
        rw [hin] at hs
        have hle : sm (fun e => ct (wrkB S d k e)) me ≤ me * 1 := sm_le (fun i hi => ct_le _)
        refine j_iload X dL_staff_62 6 rfl ?_
        exact j_ireturn X E (_) rfl ⟨⟨_, hs.trans (hE.staff d k).symm, by omega, rfl⟩, rfl⟩ dL_staff_64
      · refine j_iload X dL_staff_15 6 rfl ?_
        refine j_iload_n X dL_staff_17 rfl 0 rfl ?_
        refine j_iload_n X dL_staff_18 rfl 1 rfl ?_
        refine j_bipush (v := nI 10) X dL_staff_19 (by decide) ?_
        refine j_iload X dL_staff_21 7 rfl ?_
        refine n_imul X dL_staff_23 ?_
        refine j_aload X dL_staff_24 4 rfl ?_
        refine jr_callB4 X hR (m_L_inE hV hE i d k (by omega) (by omega) (by omega)) m_L_10 (by decide) (by decide) (Nat.le_of_ble_eq_true rfl) ⟨by decide, by decide⟩ dL_staff_26 ?_
        refine b_if_eq (tgt := 52) X dL_staff_29 (by decide) (fun c_29 => ?_) (fun c_29 => ?_)
        · refine j_iconst (v := nI 0) X dL_staff_52 (by decide) ?_
          refine n_iadd X dL_staff_53 ?_
          refine j_istore X [(6, _), (0, _), (1, _), (2, _), (3, _), (4, _), (5, _), (7, _)] dL_staff_54 (by decide) rfl ?_
          refine n_iinc X [(7, _), (6, _), (0, _), (1, _), (2, _), (3, _), (4, _), (5, _)] dL_staff_56 (q := 7) (b := 1) rfl (by decide) (by decide) rfl ?_
          refine j_goto (tgt := 6) X dL_staff_59 (by decide) ?_
          exact j_sub [2, 3, 4, 5, 6, 7, 1, 0] rfl (ih6 _ _ (by omega) (by rw [sm_s, wrk_is hE (show i < me by omega) hd, ← hs]; simp [ct, c_12, c_29]) (by omega))
        · refine j_iload_n X dL_staff_32 rfl 2 rfl ?_
          refine j_if_lt (tgt := 48) X dL_staff_33 (by decide) (fun c_33 => ?_) (fun c_33 => ?_)
          · refine j_iconst (v := nI 1) X dL_staff_48 (by decide) ?_
            refine j_goto (tgt := 53) X dL_staff_49 (by decide) ?_
            refine n_iadd X dL_staff_53 ?_
            refine j_istore X [(6, _), (0, _), (1, _), (2, _), (3, _), (4, _), (5, _), (7, _)] dL_staff_54 (by decide) rfl ?_
            refine n_iinc X [(7, _), (6, _), (0, _), (1, _), (2, _), (3, _), (4, _), (5, _)] dL_staff_56 (q := 7) (b := 1) rfl (by decide) (by decide) rfl ?_
            refine j_goto (tgt := 6) X dL_staff_59 (by decide) ?_
            exact j_sub [2, 3, 4, 5, 6, 7, 1, 0] rfl (ih6 _ _ (by omega) (by rw [sm_s, wrk_is hE (show i < me by omega) hd, ← hs]; simp [ct, c_12, c_29, c_33]) (by omega))
          · exact absurd (by decide) c_33
  exact j_sub [2, 3, 4, 5, 6, 7, 1, 0] rfl (L6 (me + 1) _ _ (by omega) (by rfl) (by omega))
set_option maxRecDepth 100000 in
set_option maxHeartbeats 4000000 in
theorem m_L_staffW (hV : LV ws Y aq Q) (hB : BD S) (hI : IV S) (hL : LR S nc me Q) (d k : Nat) (hd : d < 5) (hk : k < 100) (w : Nat) (hw : w < 4) : MR Y ws zL_staff 1 [.int (nI d), .int (nI k), .int (nI w), .ref (aq 0), .ref (aq 3), .ref (aq 4)] (rN (thrN S w d k) 3) := by
  intro D
  refine MT.of [(0, .int (nI d)), (1, .int (nI k)), (2, .int (nI w)), (3, .ref (aq 0)), (4, .ref (aq 3)), (5, .ref (aq 4))] (by decide) rfl (Nat.le_of_ble_eq_true rfl) ?_
  intro K hR0 X E
  have hR := RO.rm hR0
  have hQ := hL.1
  have hC := hL.2.1
  have hE := hL.2.2
  have hn5 := hC.1
  have hm3 := hE.1
  refine j_iconst (v := nI 0) X dL_staff_0 (by decide) ?_
  refine j_istore X [(6, _), (0, _), (1, _), (2, _), (3, _), (4, _), (5, _)] dL_staff_1 (by decide) rfl ?_
  refine j_iconst (v := nI 0) X dL_staff_3 (by decide) ?_
  refine j_istore X [(7, _), (6, _), (0, _), (1, _), (2, _), (3, _), (4, _), (5, _)] dL_staff_4 (by decide) rfl ?_
  have L6 : ∀ (n : Nat) (i s : Nat), (i ≤ me) → (s = sm (fun e => ct (thrB S w d k e)) i) → (me + 1 ≤ i + n) → JJ K D 0 0 (ws) [(0, .int (nI d)), (1, .int (nI k)), (2, .int (nI w)), (3, .ref (aq 0)), (4, .ref (aq 3)), (5, .ref (aq 4)), (6, .int (nI s)), (7, .int (nI i))] 6 [] := by
    intro n
    induction n with
    | zero =>
      intro i s hi hs hf6
      exact absurd hf6 (by omega)
    | succ n6 ih6 =>
      intro i s hi hs hf6
      refine j_iload X dL_staff_6 7 rfl ?_
      refine j_aload_n X dL_staff_8 rfl 3 rfl ?_
      refine j_bipush (v := nI 8) X dL_staff_9 (by decide) ?_
      refine jl_ald X (hV.a0) (by show _ < 16; omega) dL_staff_11 (fun v_11 e_11 b_11 => ?_)
      have e_11 := e_11.trans (hQ.2.1.2.1)
      refine n_icmp_ge (tgt := 62) X dL_staff_12 (by decide) (by omega) (by omega) (fun c_12 => ?_) (fun c_12 => ?_)
      · have hin : i = me := by omega
        rw [hin] at hs
        have hle : sm (fun e => ct (thrB S w d k e)) me ≤ me * 1 := sm_le (fun i hi => ct_le _)
        refine j_iload X dL_staff_62 6 rfl ?_
        exact j_ireturn X E (_) rfl ⟨⟨_, hs.trans (hE.thr w d k).symm, by omega, rfl⟩, rfl⟩ dL_staff_64
      · refine j_iload X dL_staff_15 6 rfl ?_
        refine j_iload_n X dL_staff_17 rfl 0 rfl ?_
        refine j_iload_n X dL_staff_18 rfl 1 rfl ?_
        refine j_bipush (v := nI 10) X dL_staff_19 (by decide) ?_
        refine j_iload X dL_staff_21 7 rfl ?_
        refine n_imul X dL_staff_23 ?_
        refine j_aload X dL_staff_24 4 rfl ?_
        refine jr_callB4 X hR (m_L_inE hV hE i d k (by omega) (by omega) (by omega)) m_L_10 (by decide) (by decide) (Nat.le_of_ble_eq_true rfl) ⟨by decide, by decide⟩ dL_staff_26 ?_
        refine b_if_eq (tgt := 52) X dL_staff_29 (by decide) (fun c_29 => ?_) (fun c_29 => ?_)
        · refine j_iconst (v := nI 0) X dL_staff_52 (by decide) ?_
          refine n_iadd X dL_staff_53 ?_
          refine j_istore X [(6, _), (0, _), (1, _), (2, _), (3, _), (4, _), (5, _), (7, _)] dL_staff_54 (by decide) rfl ?_
          refine n_iinc X [(7, _), (6, _), (0, _), (1, _), (2, _), (3, _), (4, _), (5, _)] dL_staff_56 (q := 7) (b := 1) rfl (by decide) (by decide) rfl ?_
          refine j_goto (tgt := 6) X dL_staff_59 (by decide) ?_
          exact j_sub [2, 3, 4, 5, 6, 7, 1, 0] rfl (ih6 _ _ (by omega) (by rw [sm_s, thr_is hE (show i < me by omega) hd hw, ← hs]; simp [ct, c_12, c_29]) (by omega))
        · refine j_iload_n X dL_staff_32 rfl 2 rfl ?_
          refine n_if_lt (tgt := 48) X dL_staff_33 (by decide) (by omega) (fun c_33 => ?_) (fun c_33 => ?_)
          · exact absurd c_33 (by omega)
          · refine j_aload X dL_staff_36 5 rfl ?_
            refine j_iconst (v := nI 4) X dL_staff_38 (by decide) ?_
            refine j_iload X dL_staff_39 7 rfl ?_
            refine n_imul X dL_staff_41 ?_
            refine j_iload_n X dL_staff_42 rfl 2 rfl ?_
            refine n_iadd X dL_staff_43 ?_
            refine jl_ald X (hV.a4) (by show _ < 16; omega) dL_staff_44 (fun v_44 e_44 b_44 => ?_)
            have e_44 := e_44.trans (rfl)
            subst e_44
            refine n_if_ne (tgt := 52) X dL_staff_45 (by decide) (by omega) (fun c_45 => ?_) (fun c_45 => ?_)
            · refine j_iconst (v := nI 0) X dL_staff_52 (by decide) ?_
              refine n_iadd X dL_staff_53 ?_
              refine j_istore X [(6, _), (0, _), (1, _), (2, _), (3, _), (4, _), (5, _), (7, _)] dL_staff_54 (by decide) rfl ?_
              refine n_iinc X [(7, _), (6, _), (0, _), (1, _), (2, _), (3, _), (4, _), (5, _)] dL_staff_56 (q := 7) (b := 1) rfl (by decide) (by decide) rfl ?_
              refine j_goto (tgt := 6) X dL_staff_59 (by decide) ?_
              exact j_sub [2, 3, 4, 5, 6, 7, 1, 0] rfl (ih6 _ _ (by omega) (by rw [sm_s, thr_is hE (show i < me by omega) hd hw, ← hs]; simp [ct, c_12, c_29, c_33, c_45]) (by omega))
            · refine j_iconst (v := nI 1) X dL_staff_48 (by decide) ?_
              refine j_goto (tgt := 53) X dL_staff_49 (by decide) ?_
              refine n_iadd X dL_staff_53 ?_
              refine j_istore X [(6, _), (0, _), (1, _), (2, _), (3, _), (4, _), (5, _), (7, _)] dL_staff_54 (by decide) rfl ?_
              refine n_iinc X [(7, _), (6, _), (0, _), (1, _), (2, _), (3, _), (4, _), (5, _)] dL_staff_56 (q := 7) (b := 1) rfl (by decide) (by decide) rfl ?_
              refine j_goto (tgt := 6) X dL_staff_59 (by decide) ?_
              exact j_sub [2, 3, 4, 5, 6, 7, 1, 0] rfl (ih6 _ _ (by omega) (by rw [sm_s, thr_is hE (show i < me by omega) hd hw, ← hs]; simp [ct, c_12, c_29, c_33, c_45]) (by omega))
  exact j_sub [2, 3, 4, 5, 6, 7, 1, 0] rfl (L6 (me + 1) _ _ (by omega) (by rfl) (by omega))
set_option maxRecDepth 100000 in
set_option maxHeartbeats 4000000 in
theorem m_L_need (hV : LV ws Y aq Q) (hB : BD S) (hI : IV S) (hL : LR S nc me Q) (d k : Nat) (hd : d < 5) (hk : k < 100) : MR Y ws zL_need 1 [.int (nI d), .int (nI k), .ref (aq 0), .ref (aq 1), .ref (aq 2)] (rN (needN S d k (-9)) 2000) := by
  intro D
  refine MT.of [(0, .int (nI d)), (1, .int (nI k)), (2, .ref (aq 0)), (3, .ref (aq 1)), (4, .ref (aq 2))] (by decide) rfl (Nat.le_of_ble_eq_true rfl) ?_
  intro K hR0 X E
  have hR := RO.rm hR0
  have hQ := hL.1
  have hC := hL.2.1
  have hE := hL.2.2
  have hn5 := hC.1
  have hm3 := hE.1
  have hall := all_pos hI
  refine j_iconst (v := nI 0) X dL_need_0 (by decide) ?_
  refine j_istore X [(5, _), (0, _), (1, _), (2, _), (3, _), (4, _)] dL_need_1 (by decide) rfl ?_
  refine j_iconst (v := nI 0) X dL_need_3 (by decide) ?_
  refine j_istore X [(6, _), (5, _), (0, _), (1, _), (2, _), (3, _), (4, _)] dL_need_4 (by decide) rfl ?_
  have L6 : ∀ (n : Nat) (i s : Nat), (i ≤ nc) → (s = sm (nsN S d k) i) → (nc + 1 ≤ i + n) → JJ K D 0 0 (ws) [(0, .int (nI d)), (1, .int (nI k)), (2, .ref (aq 0)), (3, .ref (aq 1)), (4, .ref (aq 2)), (5, .int (nI s)), (6, .int (nI i))] 6 [] := by
    intro n
    induction n with
    | zero =>
      intro i s hi hs hf6
      exact absurd hf6 (by omega)
    | succ n6 ih6 =>
      intro i s hi hs hf6
      refine j_iload X dL_need_6 6 rfl ?_
      refine j_aload_n X dL_need_8 rfl 2 rfl ?_
      refine j_bipush (v := nI 7) X dL_need_9 (by decide) ?_
      refine jl_ald X (hV.a0) (by show _ < 16; omega) dL_need_11 (fun v_11 e_11 b_11 => ?_)
      have e_11 := e_11.trans (hQ.2.1.1)
      refine n_icmp_ge (tgt := 102) X dL_need_12 (by decide) (by omega) (by omega) (fun c_12 => ?_) (fun c_12 => ?_)
      · have hin : i = nc := by omega
        rw [hin] at hs
        have hle : sm (nsN S d k) nc ≤ nc * 400 := sm_le (fun i hi => ns_le hI _ _ _)
        have hs2 : s ≤ 2000 := by omega
        refine j_iconst (v := nI 0) X dL_need_102 (by decide) ?_
        refine j_istore X [(6, _), (0, _), (1, _), (2, _), (3, _), (4, _), (5, _)] dL_need_103 (by decide) rfl ?_
        have L105 : ∀ (n : Nat) (x : Nat), (x ≤ 2000) → (x = 0 ∨ (x - 1) * allN S < s) → (2000 + 1 ≤ x + n) → JJ K D 0 0 (ws) [(0, .int (nI d)), (1, .int (nI k)), (2, .ref (aq 0)), (3, .ref (aq 1)), (4, .ref (aq 2)), (5, .int (nI s)), (6, .int (nI x))] 105 [] := by
          intro n
          induction n with
          | zero =>
            intro x hx hx2 hf105
            exact absurd hf105 (by omega)
          | succ n105 ih105 =>
            intro x hx hx2 hf105
            refine j_iload X dL_need_105 6 rfl ?_
            refine j_aload_n X dL_need_107 rfl 2 rfl ?_
            refine j_iconst (v := nI 0) X dL_need_108 (by decide) ?_
            refine jl_ald X (hV.a0) (by show _ < 16; omega) dL_need_109 (fun v_109 e_109 b_109 => ?_)
            have e_109 := e_109.trans ((hQ.2.2 0 (by omega)).1)
            subst e_109
            refine n_imul X dL_need_110 ?_
            refine j_aload_n X dL_need_111 rfl 2 rfl ?_
            refine j_iconst (v := nI 1) X dL_need_112 (by decide) ?_
            refine jl_ald X (hV.a0) (by show _ < 16; omega) dL_need_113 (fun v_113 e_113 b_113 => ?_)
            have e_113 := e_113.trans ((hQ.2.2 1 (by omega)).1)
            subst e_113
            refine n_imul X dL_need_114 ?_
            refine j_aload_n X dL_need_115 rfl 2 rfl ?_
            refine j_iconst (v := nI 2) X dL_need_116 (by decide) ?_
            refine jl_ald X (hV.a0) (by show _ < 16; omega) dL_need_117 (fun v_117 e_117 b_117 => ?_)
            have e_117 := e_117.trans ((hQ.2.2 2 (by omega)).1)
            subst e_117
            refine n_imul X dL_need_118 ?_
            have e0 : x * S 11 0 * S 11 1 * S 11 2 = x * allN S := by unfold allN; rw [Nat.mul_assoc x, Nat.mul_assoc x]
            have hb : x * allN S ≤ 2000 * 8000 := Nat.mul_le_mul hx hall.2
            rw [e0]
            refine j_iload X dL_need_119 5 rfl ?_
            refine n_icmp_ge (tgt := 130) X dL_need_121 (by decide) (by omega) (by omega) (fun c_121 => ?_) (fun c_121 => ?_)
            · have hne : x = needN S d k (-9) := by unfold needN; rw [need_sum hI hC, ← hs]; exact ceil_of hall.1 c_121 hx2
              refine j_iload X dL_need_130 6 rfl ?_
              exact j_ireturn X E (_) rfl ⟨⟨_, hne, by omega, rfl⟩, rfl⟩ dL_need_132
            · have hx1 : x * 1 ≤ x * allN S := Nat.mul_le_mul_left _ hall.1
              refine n_iinc X [(6, _), (0, _), (1, _), (2, _), (3, _), (4, _), (5, _)] dL_need_124 (q := 6) (b := 1) rfl (by decide) (by decide) rfl ?_
              refine j_goto (tgt := 105) X dL_need_127 (by decide) ?_
              exact j_sub [1, 2, 3, 4, 5, 6, 0] rfl (ih105 _ (by omega) (by right; rw [Nat.add_sub_cancel]; exact c_121) (by omega))
        exact j_sub [1, 2, 3, 4, 5, 6, 0] rfl (L105 2001 _ (by omega) (by left; rfl) (by omega))
      · refine j_aload_n X dL_need_15 rfl 3 rfl ?_
        refine j_iconst (v := nI 4) X dL_need_16 (by decide) ?_
        refine j_iload X dL_need_17 6 rfl ?_
        refine n_imul X dL_need_19 ?_
        refine jl_ald X (hV.a1) (by show _ < 20; omega) dL_need_20 (fun v_20 e_20 b_20 => ?_)
        have e_20 := e_20.trans (hC.age (by omega))
        subst e_20
        refine jr_callN1 X hR (m_L_group S i (hB _ _)) m_L_16 (by decide) (by decide) (Nat.le_of_ble_eq_true rfl) ⟨by decide, by decide⟩ dL_need_21 (fun v_21 e_21 b_21 => ?_)
        refine j_istore X [(7, _), (0, _), (1, _), (2, _), (3, _), (4, _), (5, _), (6, _)] dL_need_24 (by decide) rfl ?_
        refine j_aload_n X dL_need_26 rfl 4 rfl ?_
        refine j_iconst (v := nI 4) X dL_need_27 (by decide) ?_
        refine j_iload X dL_need_28 7 rfl ?_
        refine n_imul X dL_need_30 ?_
        refine j_iconst (v := nI 2) X dL_need_31 (by decide) ?_
        refine n_iadd X dL_need_32 ?_
        refine jl_ald X (hV.a1) (by show _ < 20; omega) dL_need_33 (fun v_33 e_33 b_33 => ?_)
        have e_33 := e_33.trans (hC.adm (by omega))
        subst e_33
        refine j_iconst (v := nI 1) X dL_need_34 (by decide) ?_
        refine n_icmp_ne (tgt := 96) X dL_need_35 (by decide) (by omega) (by omega) (fun c_35 => ?_) (fun c_35 => ?_)
        · refine n_iinc X [(6, _), (7, _), (0, _), (1, _), (2, _), (3, _), (4, _), (5, _)] dL_need_96 (q := 7) (b := 1) rfl (by decide) (by decide) rfl ?_
          refine j_goto (tgt := 6) X dL_need_99 (by decide) ?_
          exact j_sub [2, 3, 4, 5, 6, 7, 0] rfl (ih6 _ _ (by omega) (by rw [sm_s, ← hs]; simp [nsN, wgN, presB_9 hC (show i < nc by omega), ← e_21, c_12, c_35]) (by omega))
        · refine j_iload_n X dL_need_38 rfl 1 rfl ?_
          refine j_iload_n X dL_need_39 rfl 2 rfl ?_
          refine j_bipush (v := nI 10) X dL_need_40 (by decide) ?_
          refine j_iload X dL_need_42 7 rfl ?_
          refine n_imul X dL_need_44 ?_
          refine j_aload X dL_need_45 5 rfl ?_
          refine jr_callB4 X hR (m_L_inC hV hC i d k (by omega) (by omega) (by omega)) m_L_10 (by decide) (by decide) (Nat.le_of_ble_eq_true rfl) ⟨by decide, by decide⟩ dL_need_47 ?_
          refine b_if_eq (tgt := 96) X dL_need_50 (by decide) (fun c_50 => ?_) (fun c_50 => ?_)
          · refine n_iinc X [(6, _), (7, _), (0, _), (1, _), (2, _), (3, _), (4, _), (5, _)] dL_need_96 (q := 7) (b := 1) rfl (by decide) (by decide) rfl ?_
            refine j_goto (tgt := 6) X dL_need_99 (by decide) ?_
            exact j_sub [2, 3, 4, 5, 6, 7, 0] rfl (ih6 _ _ (by omega) (by rw [sm_s, ← hs]; simp [nsN, wgN, presB_9 hC (show i < nc by omega), ← e_21, c_12, c_35, c_50]) (by omega))
          · refine j_iload X dL_need_53 6 rfl ?_
            refine j_iload X dL_need_55 0 rfl ?_
            refine n_if_ne (tgt := 70) X dL_need_57 (by decide) (by omega) (fun c_57 => ?_) (fun c_57 => ?_)
            · refine j_iload X dL_need_70 0 rfl ?_
              refine j_iconst (v := nI 1) X dL_need_72 (by decide) ?_
              refine n_icmp_ne (tgt := 86) X dL_need_73 (by decide) (by omega) (by omega) (fun c_73 => ?_) (fun c_73 => ?_)
              · refine j_aload_n X dL_need_86 rfl 3 rfl ?_
                refine j_iconst (v := nI 0) X dL_need_87 (by decide) ?_
                refine jl_ald X (hV.a0) (by show _ < 16; omega) dL_need_88 (fun v_88 e_88 b_88 => ?_)
                have e_88 := e_88.trans ((hQ.2.2 0 (by omega)).1)
                subst e_88
                refine j_aload_n X dL_need_89 rfl 3 rfl ?_
                refine j_iconst (v := nI 1) X dL_need_90 (by decide) ?_
                refine jl_ald X (hV.a0) (by show _ < 16; omega) dL_need_91 (fun v_91 e_91 b_91 => ?_)
                have e_91 := e_91.trans ((hQ.2.2 1 (by omega)).1)
                subst e_91
                refine n_imul X dL_need_92 ?_
                refine n_iadd X dL_need_93 ?_
                refine j_istore X [(5, _), (7, _), (0, _), (1, _), (2, _), (3, _), (4, _), (6, _)] dL_need_94 (by decide) rfl ?_
                refine n_iinc X [(6, _), (5, _), (7, _), (0, _), (1, _), (2, _), (3, _), (4, _)] dL_need_96 (q := 7) (b := 1) rfl (by decide) (by decide) rfl ?_
                refine j_goto (tgt := 6) X dL_need_99 (by decide) ?_
                exact j_sub [3, 4, 5, 6, 7, 1, 0] rfl (ih6 _ _ (by omega) (by rw [sm_s, ← hs]; simp [nsN, wgN, presB_9 hC (show i < nc by omega), ← e_21, c_12, c_35, c_50, c_57, c_73]) (by omega))
              · refine j_aload_n X dL_need_76 rfl 3 rfl ?_
                refine j_iconst (v := nI 0) X dL_need_77 (by decide) ?_
                refine jl_ald X (hV.a0) (by show _ < 16; omega) dL_need_78 (fun v_78 e_78 b_78 => ?_)
                have e_78 := e_78.trans ((hQ.2.2 0 (by omega)).1)
                subst e_78
                refine j_aload_n X dL_need_79 rfl 3 rfl ?_
                refine j_iconst (v := nI 2) X dL_need_80 (by decide) ?_
                refine jl_ald X (hV.a0) (by show _ < 16; omega) dL_need_81 (fun v_81 e_81 b_81 => ?_)
                have e_81 := e_81.trans ((hQ.2.2 2 (by omega)).1)
                subst e_81
                refine n_imul X dL_need_82 ?_
                refine j_goto (tgt := 93) X dL_need_83 (by decide) ?_
                refine n_iadd X dL_need_93 ?_
                refine j_istore X [(5, _), (7, _), (0, _), (1, _), (2, _), (3, _), (4, _), (6, _)] dL_need_94 (by decide) rfl ?_
                refine n_iinc X [(6, _), (5, _), (7, _), (0, _), (1, _), (2, _), (3, _), (4, _)] dL_need_96 (q := 7) (b := 1) rfl (by decide) (by decide) rfl ?_
                refine j_goto (tgt := 6) X dL_need_99 (by decide) ?_
                exact j_sub [3, 4, 5, 6, 7, 1, 0] rfl (ih6 _ _ (by omega) (by rw [sm_s, ← hs]; simp [nsN, wgN, presB_9 hC (show i < nc by omega), ← e_21, c_12, c_35, c_50, c_57, c_73]) (by omega))
            · refine j_aload_n X dL_need_60 rfl 3 rfl ?_
              refine j_iconst (v := nI 1) X dL_need_61 (by decide) ?_
              refine jl_ald X (hV.a0) (by show _ < 16; omega) dL_need_62 (fun v_62 e_62 b_62 => ?_)
              have e_62 := e_62.trans ((hQ.2.2 1 (by omega)).1)
              subst e_62
              refine j_aload_n X dL_need_63 rfl 3 rfl ?_
              refine j_iconst (v := nI 2) X dL_need_64 (by decide) ?_
              refine jl_ald X (hV.a0) (by show _ < 16; omega) dL_need_65 (fun v_65 e_65 b_65 => ?_)
              have e_65 := e_65.trans ((hQ.2.2 2 (by omega)).1)
              subst e_65
              refine n_imul X dL_need_66 ?_
              refine j_goto (tgt := 93) X dL_need_67 (by decide) ?_
              refine n_iadd X dL_need_93 ?_
              refine j_istore X [(5, _), (7, _), (0, _), (1, _), (2, _), (3, _), (4, _), (6, _)] dL_need_94 (by decide) rfl ?_
              refine n_iinc X [(6, _), (5, _), (7, _), (0, _), (1, _), (2, _), (3, _), (4, _)] dL_need_96 (q := 7) (b := 1) rfl (by decide) (by decide) rfl ?_
              refine j_goto (tgt := 6) X dL_need_99 (by decide) ?_
              exact j_sub [3, 4, 5, 6, 7, 1, 0] rfl (ih6 _ _ (by omega) (by rw [sm_s, ← hs]; simp [nsN, wgN, presB_9 hC (show i < nc by omega), ← e_21, c_12, c_35, c_50, c_57]) (by omega))
  exact j_sub [2, 3, 4, 5, 6, 1, 0] rfl (L6 (nc + 1) _ _ (by omega) (by rfl) (by omega))
set_option maxRecDepth 100000 in
set_option maxHeartbeats 4000000 in
theorem m_L_safe (hV : LV ws Y aq Q) (hB : BD S) (hI : IV S) (hL : LR S nc me Q) (d k : Nat) (hd : d < 5) (hk : k < 100) : MR Y ws zL_safe 2 [.int (nI d), .int (nI k), .ref (aq 0), .ref (aq 1), .ref (aq 2), .ref (aq 3), .ref (aq 4)] (rB (safeB S d k (-9))) := by
  intro D
  refine MT.of [(0, .int (nI d)), (1, .int (nI k)), (2, .ref (aq 0)), (3, .ref (aq 1)), (4, .ref (aq 2)), (5, .ref (aq 3)), (6, .ref (aq 4))] (by decide) rfl (Nat.le_of_ble_eq_true rfl) ?_
  intro K hR0 X E
  have hR := RO.rm hR0
  have hQ := hL.1
  have hC := hL.2.1
  have hE := hL.2.2
  have hn5 := hC.1
  have hm3 := hE.1
  have hmm : moreN (-9) = 0 := by decide
  refine j_iload_n X dL_safe_0 rfl 0 rfl ?_
  refine j_iload_n X dL_safe_1 rfl 1 rfl ?_
  refine j_aload_n X dL_safe_2 rfl 2 rfl ?_
  refine j_aload_n X dL_safe_3 rfl 3 rfl ?_
  refine j_aload X dL_safe_4 4 rfl ?_
  refine jr_callN5 X hR (m_L_present hV hB hI hL _ _ (by omega) (by omega)) m_L_20 (by decide) (by decide) (Nat.le_of_ble_eq_true rfl) ⟨by decide, by decide⟩ dL_safe_6 (fun v_6 e_6 b_6 => ?_)
  refine j_aload_n X dL_safe_9 rfl 2 rfl ?_
  refine j_bipush (v := nI 6) X dL_safe_10 (by decide) ?_
  refine jl_ald X (hV.a0) (by show _ < 16; omega) dL_safe_12 (fun v_12 e_12 b_12 => ?_)
  have e_12 := e_12.trans (hQ.2.1.2.2)
  subst e_12
  refine n_icmp_gt (tgt := 43) X dL_safe_13 (by decide) (by omega) (by omega) (fun c_13 => ?_) (fun c_13 => ?_)
  · refine j_iconst (v := bI false) X dL_safe_43 (by decide) ?_
    exact j_zreturn X E (_) rfl ⟨by show _ = _; congr 3; symm; simp only [safeB, hmm, Nat.add_zero, Bool.and_eq_true, Bool.and_eq_false_iff, decide_eq_true_eq, decide_eq_false_iff_not]; omega, rfl⟩ dL_safe_44
  · refine j_iload_n X dL_safe_16 rfl 0 rfl ?_
    refine j_iload_n X dL_safe_17 rfl 1 rfl ?_
    refine j_aload_n X dL_safe_18 rfl 2 rfl ?_
    refine j_aload_n X dL_safe_19 rfl 3 rfl ?_
    refine j_aload X dL_safe_20 4 rfl ?_
    refine jr_callN5 X hR (m_L_need hV hB hI hL _ _ (by omega) (by omega)) m_L_24 (by decide) (by decide) (Nat.le_of_ble_eq_true rfl) ⟨by decide, by decide⟩ dL_safe_22 (fun v_22 e_22 b_22 => ?_)
    refine j_iload_n X dL_safe_25 rfl 0 rfl ?_
    refine j_iload_n X dL_safe_26 rfl 1 rfl ?_
    refine j_iconst (v := (-1)) X dL_safe_27 (by decide) ?_
    refine j_aload_n X dL_safe_28 rfl 2 rfl ?_
    refine j_aload X dL_safe_29 5 rfl ?_
    refine j_aload X dL_safe_31 6 rfl ?_
    refine jr_callN6 X hR (m_L_staff hV hB hI hL _ _ (by omega) (by omega)) m_L_27 (by decide) (by decide) (Nat.le_of_ble_eq_true rfl) ⟨by decide, by decide⟩ dL_safe_33 (fun v_33 e_33 b_33 => ?_)
    refine n_icmp_gt (tgt := 43) X dL_safe_36 (by decide) (by omega) (by omega) (fun c_36 => ?_) (fun c_36 => ?_)
    · refine j_iconst (v := bI false) X dL_safe_43 (by decide) ?_
      exact j_zreturn X E (_) rfl ⟨by show _ = _; congr 3; symm; simp only [safeB, hmm, Nat.add_zero, Bool.and_eq_true, Bool.and_eq_false_iff, decide_eq_true_eq, decide_eq_false_iff_not]; omega, rfl⟩ dL_safe_44
    · refine j_iconst (v := bI true) X dL_safe_39 (by decide) ?_
      refine j_goto (tgt := 44) X dL_safe_40 (by decide) ?_
      exact j_zreturn X E (_) rfl ⟨by show _ = _; congr 3; symm; simp only [safeB, hmm, Nat.add_zero, Bool.and_eq_true, Bool.and_eq_false_iff, decide_eq_true_eq, decide_eq_false_iff_not]; omega, rfl⟩ dL_safe_44
set_option maxRecDepth 100000 in
set_option maxHeartbeats 4000000 in
theorem m_L_points (hV : LV ws Y aq Q) (hB : BD S) (hI : IV S) (hL : LR S nc me Q) (c : Nat) (hc : c < nc) : MR Y ws zL_points 2 [.int (nI c), .ref (aq 0), .ref (aq 1), .ref (aq 2)] (rN (ptsN S c) 860) := by
  intro D
  refine MT.of [(0, .int (nI c)), (1, .ref (aq 0)), (2, .ref (aq 1)), (3, .ref (aq 2))] (by decide) rfl (Nat.le_of_ble_eq_true rfl) ?_
  intro K hR0 X E
  have hR := RO.rm hR0
  have hQ := hL.1
  have hC := hL.2.1
  have hE := hL.2.2
  have hn5 := hC.1
  have hm3 := hE.1
  have hq := hI.2.2.2.2.2.2.2.1 c (by omega)
  refine j_iconst (v := nI 0) X dL_points_0 (by decide) ?_
  refine j_istore X [(4, _), (0, _), (1, _), (2, _), (3, _)] dL_points_1 (by decide) rfl ?_
  refine j_iconst (v := nI 0) X dL_points_3 (by decide) ?_
  refine j_istore X [(5, _), (4, _), (0, _), (1, _), (2, _), (3, _)] dL_points_4 (by decide) rfl ?_
  have L6 : ∀ (n : Nat) (i s : Nat), (i ≤ nc) → (s = if orN (sibB S c) i then 25 else 0) → (nc + 1 ≤ i + n) → JJ K D 0 0 (ws) [(0, .int (nI c)), (1, .ref (aq 0)), (2, .ref (aq 1)), (3, .ref (aq 2)), (4, .int (nI s)), (5, .int (nI i))] 6 [] := by
    intro n
    induction n with
    | zero =>
      intro i s hi hs hf6
      exact absurd hf6 (by omega)
    | succ n6 ih6 =>
      intro i s hi hs hf6
      refine j_iload X dL_points_6 5 rfl ?_
      refine j_aload_n X dL_points_8 rfl 1 rfl ?_
      refine j_bipush (v := nI 7) X dL_points_9 (by decide) ?_
      refine jl_ald X (hV.a0) (by show _ < 16; omega) dL_points_11 (fun v_11 e_11 b_11 => ?_)
      have e_11 := e_11.trans (hQ.2.1.1)
      refine n_icmp_ge (tgt := 66) X dL_points_12 (by decide) (by omega) (by omega) (fun c_12 => ?_) (fun c_12 => ?_)
      · have hin : i = nc := by omega
        rw [hin] at hs
        have hs25 : s ≤ 25 := by rw [hs]; split <;> omega
        refine j_bipush (v := nI 10) X dL_points_66 (by decide) ?_
        refine j_aload_n X dL_points_68 rfl 2 rfl ?_
        refine j_iconst (v := nI 4) X dL_points_69 (by decide) ?_
        refine j_iload_n X dL_points_70 rfl 0 rfl ?_
        refine n_imul X dL_points_71 ?_
        refine j_iconst (v := nI 3) X dL_points_72 (by decide) ?_
        refine n_iadd X dL_points_73 ?_
        refine jl_ald X (hV.a1) (by show _ < 20; omega) dL_points_74 (fun v_74 e_74 b_74 => ?_)
        have e_74 := e_74.trans (hC.wtd hc)
        subst e_74
        refine n_imul X dL_points_75 ?_
        refine j_iload X dL_points_76 4 rfl ?_
        refine n_iadd X dL_points_78 ?_
        refine j_iload_n X dL_points_79 rfl 0 rfl ?_
        refine j_aload_n X dL_points_80 rfl 3 rfl ?_
        refine jr_callN2 X hR (m_L_hoursC hV hC hI c hc) m_L_31 (by decide) (by decide) (Nat.le_of_ble_eq_true rfl) ⟨by decide, by decide⟩ dL_points_81 (fun v_81 e_81 b_81 => ?_)
        refine n_iadd X dL_points_84 ?_
        exact j_ireturn X E (_) rfl ⟨⟨_, by unfold ptsN; rw [e_81, hC.sib, hs], by omega, rfl⟩, rfl⟩ dL_points_85
      · refine j_iload X dL_points_15 5 rfl ?_
        refine j_iload_n X dL_points_17 rfl 0 rfl ?_
        refine n_icmp_eq (tgt := 56) X dL_points_18 (by decide) (by omega) (by omega) (fun c_18 => ?_) (fun c_18 => ?_)
        · refine j_iload X dL_points_56 4 rfl ?_
          refine j_istore X [(4, _), (0, _), (1, _), (2, _), (3, _), (5, _)] dL_points_58 (by decide) rfl ?_
          refine n_iinc X [(5, _), (4, _), (0, _), (1, _), (2, _), (3, _)] dL_points_60 (q := 5) (b := 1) rfl (by decide) (by decide) rfl ?_
          refine j_goto (tgt := 6) X dL_points_63 (by decide) ?_
          exact j_sub [2, 3, 4, 5, 1, 0] rfl (ih6 _ _ (by omega) (by rw [orN, sib_is hC (show i < nc by omega)]; simp [hs, c_12, c_18]) (by omega))
        · refine j_aload_n X dL_points_21 rfl 2 rfl ?_
          refine j_iconst (v := nI 4) X dL_points_22 (by decide) ?_
          refine j_iload X dL_points_23 5 rfl ?_
          refine n_imul X dL_points_25 ?_
          refine j_iconst (v := nI 2) X dL_points_26 (by decide) ?_
          refine n_iadd X dL_points_27 ?_
          refine jl_ald X (hV.a1) (by show _ < 20; omega) dL_points_28 (fun v_28 e_28 b_28 => ?_)
          have e_28 := e_28.trans (hC.adm (by omega))
          subst e_28
          refine j_iconst (v := nI 1) X dL_points_29 (by decide) ?_
          refine n_icmp_ne (tgt := 56) X dL_points_30 (by decide) (by omega) (by omega) (fun c_30 => ?_) (fun c_30 => ?_)
          · refine j_iload X dL_points_56 4 rfl ?_
            refine j_istore X [(4, _), (0, _), (1, _), (2, _), (3, _), (5, _)] dL_points_58 (by decide) rfl ?_
            refine n_iinc X [(5, _), (4, _), (0, _), (1, _), (2, _), (3, _)] dL_points_60 (q := 5) (b := 1) rfl (by decide) (by decide) rfl ?_
            refine j_goto (tgt := 6) X dL_points_63 (by decide) ?_
            exact j_sub [2, 3, 4, 5, 1, 0] rfl (ih6 _ _ (by omega) (by rw [orN, sib_is hC (show i < nc by omega)]; simp [hs, c_12, c_18, c_30]) (by omega))
          · refine j_aload_n X dL_points_33 rfl 2 rfl ?_
            refine j_iconst (v := nI 4) X dL_points_34 (by decide) ?_
            refine j_iload X dL_points_35 5 rfl ?_
            refine n_imul X dL_points_37 ?_
            refine j_iconst (v := nI 1) X dL_points_38 (by decide) ?_
            refine n_iadd X dL_points_39 ?_
            refine jl_ald X (hV.a1) (by show _ < 20; omega) dL_points_40 (fun v_40 e_40 b_40 => ?_)
            have e_40 := e_40.trans (hC.fam (by omega))
            subst e_40
            refine j_aload_n X dL_points_41 rfl 2 rfl ?_
            refine j_iconst (v := nI 4) X dL_points_42 (by decide) ?_
            refine j_iload_n X dL_points_43 rfl 0 rfl ?_
            refine n_imul X dL_points_44 ?_
            refine j_iconst (v := nI 1) X dL_points_45 (by decide) ?_
            refine n_iadd X dL_points_46 ?_
            refine jl_ald X (hV.a1) (by show _ < 20; omega) dL_points_47 (fun v_47 e_47 b_47 => ?_)
            have e_47 := e_47.trans (hC.fam hc)
            subst e_47
            refine n_icmp_ne (tgt := 56) X dL_points_48 (by decide) (by omega) (by omega) (fun c_48 => ?_) (fun c_48 => ?_)
            · refine j_iload X dL_points_56 4 rfl ?_
              refine j_istore X [(4, _), (0, _), (1, _), (2, _), (3, _), (5, _)] dL_points_58 (by decide) rfl ?_
              refine n_iinc X [(5, _), (4, _), (0, _), (1, _), (2, _), (3, _)] dL_points_60 (q := 5) (b := 1) rfl (by decide) (by decide) rfl ?_
              refine j_goto (tgt := 6) X dL_points_63 (by decide) ?_
              exact j_sub [2, 3, 4, 5, 1, 0] rfl (ih6 _ _ (by omega) (by rw [orN, sib_is hC (show i < nc by omega)]; simp [hs, c_12, c_18, c_30, c_48]) (by omega))
            · refine j_bipush (v := nI 25) X dL_points_51 (by decide) ?_
              refine j_goto (tgt := 58) X dL_points_53 (by decide) ?_
              refine j_istore X [(4, _), (0, _), (1, _), (2, _), (3, _), (5, _)] dL_points_58 (by decide) rfl ?_
              refine n_iinc X [(5, _), (4, _), (0, _), (1, _), (2, _), (3, _)] dL_points_60 (q := 5) (b := 1) rfl (by decide) (by decide) rfl ?_
              refine j_goto (tgt := 6) X dL_points_63 (by decide) ?_
              exact j_sub [2, 3, 4, 5, 1, 0] rfl (ih6 _ _ (by omega) (by rw [orN, sib_is hC (show i < nc by omega)]; simp [hs, c_12, c_18, c_30, c_48]) (by omega))
  exact j_sub [2, 3, 4, 5, 1, 0] rfl (L6 (nc + 1) _ _ (by omega) (by rfl) (by omega))
theorem sub_eq0 {a b : Nat} (ha : a < 1073741824) (hb : b < 1073741824) : nI a - nI b = 0 ↔ a = b := by
  rw [← Int32.toInt_inj, pk_sub_toInt ha hb]
  show (a : Int) - b = 0 ↔ _
  omega
theorem sub_le0 {a b : Nat} (ha : a < 1073741824) (hb : b < 1073741824) : nI a - nI b ≤ 0 ↔ a ≤ b := by
  rw [Int32.le_iff_toInt_le, pk_sub_toInt ha hb]
  show (a : Int) - b ≤ 0 ↔ _
  omega
set_option maxRecDepth 100000 in
set_option maxHeartbeats 4000000 in
theorem m_L_before (hV : LV ws Y aq Q) (hB : BD S) (hI : IV S) (hL : LR S nc me Q) (a b : Nat) (ha : a < nc) (hb : b < nc) : MR Y ws zL_before 3 [.int (nI a), .int (nI b), .ref (aq 0), .ref (aq 1), .ref (aq 2)] (rB (befB S a b)) := by
  intro D
  refine MT.of [(0, .int (nI a)), (1, .int (nI b)), (2, .ref (aq 0)), (3, .ref (aq 1)), (4, .ref (aq 2))] (by decide) rfl (Nat.le_of_ble_eq_true rfl) ?_
  intro K hR0 X E
  have hR := RO.rm hR0
  have hQ := hL.1
  have hC := hL.2.1
  have hE := hL.2.2
  have hn5 := hC.1
  have hm3 := hE.1
  refine j_iload_n X dL_before_0 rfl 0 rfl ?_
  refine j_aload_n X dL_before_1 rfl 2 rfl ?_
  refine j_aload_n X dL_before_2 rfl 3 rfl ?_
  refine j_aload X dL_before_3 4 rfl ?_
  refine jr_callN4 X hR (m_L_points hV hB hI hL a ha) m_L_35 (by decide) (by decide) (Nat.le_of_ble_eq_true rfl) ⟨by decide, by decide⟩ dL_before_5 (fun v_5 e_5 b_5 => ?_)
  refine j_iload_n X dL_before_8 rfl 1 rfl ?_
  refine j_aload_n X dL_before_9 rfl 2 rfl ?_
  refine j_aload_n X dL_before_10 rfl 3 rfl ?_
  refine j_aload X dL_before_11 4 rfl ?_
  refine jr_callN4 X hR (m_L_points hV hB hI hL b hb) m_L_35 (by decide) (by decide) (Nat.le_of_ble_eq_true rfl) ⟨by decide, by decide⟩ dL_before_13 (fun v_13 e_13 b_13 => ?_)
  refine j_isub X dL_before_16 ?_
  refine j_istore X [(5, _), (0, _), (1, _), (2, _), (3, _), (4, _)] dL_before_17 (by decide) rfl ?_
  refine j_iload X dL_before_19 0 rfl ?_
  refine j_if_eq (tgt := 37) X dL_before_21 (by decide) (fun c_21 => ?_) (fun c_21 => ?_)
  · rw [sub_eq0 (by omega) (by omega)] at c_21
    refine j_aload_n X dL_before_37 rfl 4 rfl ?_
    refine j_iconst (v := nI 4) X dL_before_38 (by decide) ?_
    refine j_iload_n X dL_before_39 rfl 1 rfl ?_
    refine n_imul X dL_before_40 ?_
    refine jl_ald X (hV.a1) (by show _ < 20; omega) dL_before_41 (fun v_41 e_41 b_41 => ?_)
    have e_41 := e_41.trans (hC.age ha)
    subst e_41
    refine j_aload_n X dL_before_42 rfl 4 rfl ?_
    refine j_iconst (v := nI 4) X dL_before_43 (by decide) ?_
    refine j_iload_n X dL_before_44 rfl 2 rfl ?_
    refine n_imul X dL_before_45 ?_
    refine jl_ald X (hV.a1) (by show _ < 20; omega) dL_before_46 (fun v_46 e_46 b_46 => ?_)
    have e_46 := e_46.trans (hC.age hb)
    subst e_46
    refine n_icmp_eq (tgt := 71) X dL_before_47 (by decide) (by omega) (by omega) (fun c_47 => ?_) (fun c_47 => ?_)
    · refine j_iload_n X dL_before_71 rfl 1 rfl ?_
      refine j_iload_n X dL_before_72 rfl 2 rfl ?_
      refine n_icmp_ge (tgt := 80) X dL_before_73 (by decide) (by omega) (by omega) (fun c_73 => ?_) (fun c_73 => ?_)
      · refine j_iconst (v := bI false) X dL_before_80 (by decide) ?_
        exact j_zreturn X E (_) rfl ⟨by show _ = _; congr 3; symm; unfold befB; (repeat' split) <;> (try simp) <;> omega, rfl⟩ dL_before_81
      · refine j_iconst (v := bI true) X dL_before_76 (by decide) ?_
        refine j_goto (tgt := 81) X dL_before_77 (by decide) ?_
        exact j_zreturn X E (_) rfl ⟨by show _ = _; congr 3; symm; unfold befB; (repeat' split) <;> (try simp) <;> omega, rfl⟩ dL_before_81
    · refine j_aload_n X dL_before_50 rfl 4 rfl ?_
      refine j_iconst (v := nI 4) X dL_before_51 (by decide) ?_
      refine j_iload_n X dL_before_52 rfl 1 rfl ?_
      refine n_imul X dL_before_53 ?_
      refine jl_ald X (hV.a1) (by show _ < 20; omega) dL_before_54 (fun v_54 e_54 b_54 => ?_)
      have e_54 := e_54.trans (hC.age ha)
      subst e_54
      refine j_aload_n X dL_before_55 rfl 4 rfl ?_
      refine j_iconst (v := nI 4) X dL_before_56 (by decide) ?_
      refine j_iload_n X dL_before_57 rfl 2 rfl ?_
      refine n_imul X dL_before_58 ?_
      refine jl_ald X (hV.a1) (by show _ < 20; omega) dL_before_59 (fun v_59 e_59 b_59 => ?_)
      have e_59 := e_59.trans (hC.age hb)
      subst e_59
      refine n_icmp_le (tgt := 67) X dL_before_60 (by decide) (by omega) (by omega) (fun c_60 => ?_) (fun c_60 => ?_)
      · refine j_iconst (v := bI false) X dL_before_67 (by decide) ?_
        refine j_goto (tgt := 81) X dL_before_68 (by decide) ?_
        exact j_zreturn X E (_) rfl ⟨by show _ = _; congr 3; symm; unfold befB; (repeat' split) <;> (try simp) <;> omega, rfl⟩ dL_before_81
      · refine j_iconst (v := bI true) X dL_before_63 (by decide) ?_
        refine j_goto (tgt := 81) X dL_before_64 (by decide) ?_
        exact j_zreturn X E (_) rfl ⟨by show _ = _; congr 3; symm; unfold befB; (repeat' split) <;> (try simp) <;> omega, rfl⟩ dL_before_81
  · rw [sub_eq0 (by omega) (by omega)] at c_21
    refine j_iload X dL_before_24 0 rfl ?_
    refine j_if_le (tgt := 33) X dL_before_26 (by decide) (fun c_26 => ?_) (fun c_26 => ?_)
    · rw [sub_le0 (by omega) (by omega)] at c_26
      refine j_iconst (v := bI false) X dL_before_33 (by decide) ?_
      refine j_goto (tgt := 81) X dL_before_34 (by decide) ?_
      exact j_zreturn X E (_) rfl ⟨by show _ = _; congr 3; symm; unfold befB; (repeat' split) <;> (try simp) <;> omega, rfl⟩ dL_before_81
    · rw [sub_le0 (by omega) (by omega)] at c_26
      refine j_iconst (v := bI true) X dL_before_29 (by decide) ?_
      refine j_goto (tgt := 81) X dL_before_30 (by decide) ?_
      exact j_zreturn X E (_) rfl ⟨by show _ = _; congr 3; symm; unfold befB; (repeat' split) <;> (try simp) <;> omega, rfl⟩ dL_before_81
set_option maxRecDepth 100000 in
set_option maxHeartbeats 4000000 in
theorem m_L_fee (hV : LV ws Y aq Q) (hB : BD S) (hI : IV S) (hL : LR S nc me Q) (c : Nat) (hc : c < nc) : MR Y ws zL_fee 2 [.int (nI c), .ref (aq 0), .ref (aq 1), .ref (aq 2)] (rN (feeN S c) 1000000) := by
  intro D
  refine MT.of [(0, .int (nI c)), (1, .ref (aq 0)), (2, .ref (aq 1)), (3, .ref (aq 2))] (by decide) rfl (Nat.le_of_ble_eq_true rfl) ?_
  intro K hR0 X E
  have hR := RO.rm hR0
  have hQ := hL.1
  have hC := hL.2.1
  have hE := hL.2.2
  have hn5 := hC.1
  have hm3 := hE.1
  refine j_iconst (v := nI 0) X dL_fee_0 (by decide) ?_
  refine j_istore X [(4, _), (0, _), (1, _), (2, _), (3, _)] dL_fee_1 (by decide) rfl ?_
  refine j_iconst (v := nI 0) X dL_fee_3 (by decide) ?_
  refine j_istore X [(5, _), (4, _), (0, _), (1, _), (2, _), (3, _)] dL_fee_4 (by decide) rfl ?_
  have L6 : ∀ (n : Nat) (i s : Nat), (i ≤ nc) → (s = sm (fun k => ct (oldB S c k)) i) → (nc + 1 ≤ i + n) → JJ K D 0 0 (ws) [(0, .int (nI c)), (1, .ref (aq 0)), (2, .ref (aq 1)), (3, .ref (aq 2)), (4, .int (nI s)), (5, .int (nI i))] 6 [] := by
    intro n
    induction n with
    | zero =>
      intro i s hi hs hf6
      exact absurd hf6 (by omega)
    | succ n6 ih6 =>
      intro i s hi hs hf6
      refine j_iload X dL_fee_6 5 rfl ?_
      refine j_aload_n X dL_fee_8 rfl 1 rfl ?_
      refine j_bipush (v := nI 7) X dL_fee_9 (by decide) ?_
      refine jl_ald X (hV.a0) (by show _ < 16; omega) dL_fee_11 (fun v_11 e_11 b_11 => ?_)
      have e_11 := e_11.trans (hQ.2.1.1)
      refine n_icmp_ge (tgt := 95) X dL_fee_12 (by decide) (by omega) (by omega) (fun c_12 => ?_) (fun c_12 => ?_)
      · have hin : i = nc := by omega
        rw [hin] at hs
        have hr : rankN S c = s := (hC.rank c).trans hs.symm
        have hle : sm (fun k => ct (oldB S c k)) nc ≤ nc * 1 := sm_le (fun i hi => ct_le _)
        refine j_iconst (v := nI 4) X dL_fee_95 (by decide) ?_
        refine j_iload_n X dL_fee_96 rfl 0 rfl ?_
        refine j_aload_n X dL_fee_97 rfl 3 rfl ?_
        refine jr_callN2 X hR (m_L_hoursC hV hC hI c hc) m_L_31 (by decide) (by decide) (Nat.le_of_ble_eq_true rfl) ⟨by decide, by decide⟩ dL_fee_98 (fun v_98 e_98 b_98 => ?_)
        refine n_imul X dL_fee_101 ?_
        refine j_aload_n X dL_fee_102 rfl 1 rfl ?_
        refine j_iconst (v := nI 3) X dL_fee_103 (by decide) ?_
        refine j_aload_n X dL_fee_104 rfl 2 rfl ?_
        refine j_iconst (v := nI 4) X dL_fee_105 (by decide) ?_
        refine j_iload_n X dL_fee_106 rfl 0 rfl ?_
        refine n_imul X dL_fee_107 ?_
        refine jl_ald X (hV.a1) (by show _ < 20; omega) dL_fee_108 (fun v_108 e_108 b_108 => ?_)
        have e_108 := e_108.trans (hC.age hc)
        subst e_108
        refine jr_callN1 X hR (m_L_group S c (hB _ _)) m_L_16 (by decide) (by decide) (Nat.le_of_ble_eq_true rfl) ⟨by decide, by decide⟩ dL_fee_109 (fun v_109 e_109 b_109 => ?_)
        refine n_iadd X dL_fee_112 ?_
        refine jl_ald X (hV.a0) (by show _ < 16; omega) dL_fee_113 (fun v_113 e_113 b_113 => ?_)
        have e_113 := e_113.trans ((hQ.2.2 _ (by omega)).2)
        subst e_113
        refine n_imul X dL_fee_114 ?_
        have h12 := hI.2.2.2.2.2.2.1 v_109 (by omega)
        have hm4 : 4 * v_98 * S 12 v_109 ≤ 200 * 5000 := Nat.mul_le_mul (by omega) h12
        refine j_iload X dL_fee_115 4 rfl ?_
        refine n_if_ne (tgt := 125) X dL_fee_117 (by decide) (by omega) (fun c_117 => ?_) (fun c_117 => ?_)
        · refine j_iload X dL_fee_125 4 rfl ?_
          refine j_iconst (v := nI 1) X dL_fee_127 (by decide) ?_
          refine n_icmp_ne (tgt := 136) X dL_fee_128 (by decide) (by omega) (by omega) (fun c_128 => ?_) (fun c_128 => ?_)
          · refine j_bipush (v := nI 40) X dL_fee_136 (by decide) ?_
            refine n_imul X dL_fee_138 ?_
            refine j_bipush (v := nI 100) X dL_fee_139 (by decide) ?_
            refine n_idiv X dL_fee_141 (by omega) (by omega) (by omega) ?_
            exact j_ireturn X E (_) rfl ⟨⟨_, by unfold feeN; rw [hr, ← e_98, ← e_109]; unfold pctN; simp [c_12, c_117, c_128], by omega, rfl⟩, rfl⟩ dL_fee_142
          · refine j_bipush (v := nI 70) X dL_fee_131 (by decide) ?_
            refine j_goto (tgt := 138) X dL_fee_133 (by decide) ?_
            refine n_imul X dL_fee_138 ?_
            refine j_bipush (v := nI 100) X dL_fee_139 (by decide) ?_
            refine n_idiv X dL_fee_141 (by omega) (by omega) (by omega) ?_
            exact j_ireturn X E (_) rfl ⟨⟨_, by unfold feeN; rw [hr, ← e_98, ← e_109]; unfold pctN; simp [c_12, c_117, c_128], by omega, rfl⟩, rfl⟩ dL_fee_142
        · refine j_bipush (v := nI 100) X dL_fee_120 (by decide) ?_
          refine j_goto (tgt := 138) X dL_fee_122 (by decide) ?_
          refine n_imul X dL_fee_138 ?_
          refine j_bipush (v := nI 100) X dL_fee_139 (by decide) ?_
          refine n_idiv X dL_fee_141 (by omega) (by omega) (by omega) ?_
          exact j_ireturn X E (_) rfl ⟨⟨_, by unfold feeN; rw [hr, ← e_98, ← e_109]; unfold pctN; simp [c_12, c_117], by omega, rfl⟩, rfl⟩ dL_fee_142
      · refine j_iload X dL_fee_15 4 rfl ?_
        refine j_aload_n X dL_fee_17 rfl 2 rfl ?_
        refine j_iconst (v := nI 4) X dL_fee_18 (by decide) ?_
        refine j_iload X dL_fee_19 5 rfl ?_
        refine n_imul X dL_fee_21 ?_
        refine j_iconst (v := nI 2) X dL_fee_22 (by decide) ?_
        refine n_iadd X dL_fee_23 ?_
        refine jl_ald X (hV.a1) (by show _ < 20; omega) dL_fee_24 (fun v_24 e_24 b_24 => ?_)
        have e_24 := e_24.trans (hC.adm (by omega))
        subst e_24
        refine j_iconst (v := nI 1) X dL_fee_25 (by decide) ?_
        refine n_icmp_ne (tgt := 85) X dL_fee_26 (by decide) (by omega) (by omega) (fun c_26 => ?_) (fun c_26 => ?_)
        · skip
          refine j_iconst (v := nI 0) X dL_fee_85 (by decide) ?_
          refine n_iadd X dL_fee_86 ?_
          refine j_istore X [(4, _), (0, _), (1, _), (2, _), (3, _), (5, _)] dL_fee_87 (by decide) rfl ?_
          refine n_iinc X [(5, _), (4, _), (0, _), (1, _), (2, _), (3, _)] dL_fee_89 (q := 5) (b := 1) rfl (by decide) (by decide) rfl ?_
          refine j_goto (tgt := 6) X dL_fee_92 (by decide) ?_
          exact j_sub [2, 3, 4, 5, 1, 0] rfl (ih6 _ _ (by omega) (by rw [sm_s, ← hs, old_is hC (show i < nc by omega)]; exact ct_0 (by simp only [Bool.and_eq_false_iff, Bool.or_eq_false_iff, decide_eq_false_iff_not]; omega) _) (by omega))
        · refine j_aload_n X dL_fee_29 rfl 2 rfl ?_
          refine j_iconst (v := nI 4) X dL_fee_30 (by decide) ?_
          refine j_iload X dL_fee_31 5 rfl ?_
          refine n_imul X dL_fee_33 ?_
          refine j_iconst (v := nI 1) X dL_fee_34 (by decide) ?_
          refine n_iadd X dL_fee_35 ?_
          refine jl_ald X (hV.a1) (by show _ < 20; omega) dL_fee_36 (fun v_36 e_36 b_36 => ?_)
          have e_36 := e_36.trans (hC.fam (by omega))
          subst e_36
          refine j_aload_n X dL_fee_37 rfl 2 rfl ?_
          refine j_iconst (v := nI 4) X dL_fee_38 (by decide) ?_
          refine j_iload_n X dL_fee_39 rfl 0 rfl ?_
          refine n_imul X dL_fee_40 ?_
          refine j_iconst (v := nI 1) X dL_fee_41 (by decide) ?_
          refine n_iadd X dL_fee_42 ?_
          refine jl_ald X (hV.a1) (by show _ < 20; omega) dL_fee_43 (fun v_43 e_43 b_43 => ?_)
          have e_43 := e_43.trans (hC.fam hc)
          subst e_43
          refine n_icmp_ne (tgt := 85) X dL_fee_44 (by decide) (by omega) (by omega) (fun c_44 => ?_) (fun c_44 => ?_)
          · skip
            refine j_iconst (v := nI 0) X dL_fee_85 (by decide) ?_
            refine n_iadd X dL_fee_86 ?_
            refine j_istore X [(4, _), (0, _), (1, _), (2, _), (3, _), (5, _)] dL_fee_87 (by decide) rfl ?_
            refine n_iinc X [(5, _), (4, _), (0, _), (1, _), (2, _), (3, _)] dL_fee_89 (q := 5) (b := 1) rfl (by decide) (by decide) rfl ?_
            refine j_goto (tgt := 6) X dL_fee_92 (by decide) ?_
            exact j_sub [2, 3, 4, 5, 1, 0] rfl (ih6 _ _ (by omega) (by rw [sm_s, ← hs, old_is hC (show i < nc by omega)]; exact ct_0 (by simp only [Bool.and_eq_false_iff, Bool.or_eq_false_iff, decide_eq_false_iff_not]; omega) _) (by omega))
          · refine j_aload_n X dL_fee_47 rfl 2 rfl ?_
            refine j_iconst (v := nI 4) X dL_fee_48 (by decide) ?_
            refine j_iload X dL_fee_49 5 rfl ?_
            refine n_imul X dL_fee_51 ?_
            refine jl_ald X (hV.a1) (by show _ < 20; omega) dL_fee_52 (fun v_52 e_52 b_52 => ?_)
            have e_52 := e_52.trans (hC.age (by omega))
            subst e_52
            refine j_aload_n X dL_fee_53 rfl 2 rfl ?_
            refine j_iconst (v := nI 4) X dL_fee_54 (by decide) ?_
            refine j_iload_n X dL_fee_55 rfl 0 rfl ?_
            refine n_imul X dL_fee_56 ?_
            refine jl_ald X (hV.a1) (by show _ < 20; omega) dL_fee_57 (fun v_57 e_57 b_57 => ?_)
            have e_57 := e_57.trans (hC.age hc)
            subst e_57
            refine n_icmp_gt (tgt := 81) X dL_fee_58 (by decide) (by omega) (by omega) (fun c_58 => ?_) (fun c_58 => ?_)
            · skip
              refine j_iconst (v := nI 1) X dL_fee_81 (by decide) ?_
              refine j_goto (tgt := 86) X dL_fee_82 (by decide) ?_
              refine n_iadd X dL_fee_86 ?_
              refine j_istore X [(4, _), (0, _), (1, _), (2, _), (3, _), (5, _)] dL_fee_87 (by decide) rfl ?_
              refine n_iinc X [(5, _), (4, _), (0, _), (1, _), (2, _), (3, _)] dL_fee_89 (q := 5) (b := 1) rfl (by decide) (by decide) rfl ?_
              refine j_goto (tgt := 6) X dL_fee_92 (by decide) ?_
              exact j_sub [2, 3, 4, 5, 1, 0] rfl (ih6 _ _ (by omega) (by rw [sm_s, ← hs, old_is hC (show i < nc by omega)]; exact ct_1 (by simp only [Bool.and_eq_true, Bool.or_eq_true, decide_eq_true_eq]; omega) _) (by omega))
            · refine j_aload_n X dL_fee_61 rfl 2 rfl ?_
              refine j_iconst (v := nI 4) X dL_fee_62 (by decide) ?_
              refine j_iload X dL_fee_63 5 rfl ?_
              refine n_imul X dL_fee_65 ?_
              refine jl_ald X (hV.a1) (by show _ < 20; omega) dL_fee_66 (fun v_66 e_66 b_66 => ?_)
              have e_66 := e_66.trans (hC.age (by omega))
              subst e_66
              refine j_aload_n X dL_fee_67 rfl 2 rfl ?_
              refine j_iconst (v := nI 4) X dL_fee_68 (by decide) ?_
              refine j_iload_n X dL_fee_69 rfl 0 rfl ?_
              refine n_imul X dL_fee_70 ?_
              refine jl_ald X (hV.a1) (by show _ < 20; omega) dL_fee_71 (fun v_71 e_71 b_71 => ?_)
              have e_71 := e_71.trans (hC.age hc)
              subst e_71
              refine n_icmp_ne (tgt := 85) X dL_fee_72 (by decide) (by omega) (by omega) (fun c_72 => ?_) (fun c_72 => ?_)
              · skip
                refine j_iconst (v := nI 0) X dL_fee_85 (by decide) ?_
                refine n_iadd X dL_fee_86 ?_
                refine j_istore X [(4, _), (0, _), (1, _), (2, _), (3, _), (5, _)] dL_fee_87 (by decide) rfl ?_
                refine n_iinc X [(5, _), (4, _), (0, _), (1, _), (2, _), (3, _)] dL_fee_89 (q := 5) (b := 1) rfl (by decide) (by decide) rfl ?_
                refine j_goto (tgt := 6) X dL_fee_92 (by decide) ?_
                exact j_sub [2, 3, 4, 5, 1, 0] rfl (ih6 _ _ (by omega) (by rw [sm_s, ← hs, old_is hC (show i < nc by omega)]; exact ct_0 (by simp only [Bool.and_eq_false_iff, Bool.or_eq_false_iff, decide_eq_false_iff_not]; omega) _) (by omega))
              · refine j_iload X dL_fee_75 5 rfl ?_
                refine j_iload_n X dL_fee_77 rfl 0 rfl ?_
                refine n_icmp_ge (tgt := 85) X dL_fee_78 (by decide) (by omega) (by omega) (fun c_78 => ?_) (fun c_78 => ?_)
                · skip
                  refine j_iconst (v := nI 0) X dL_fee_85 (by decide) ?_
                  refine n_iadd X dL_fee_86 ?_
                  refine j_istore X [(4, _), (0, _), (1, _), (2, _), (3, _), (5, _)] dL_fee_87 (by decide) rfl ?_
                  refine n_iinc X [(5, _), (4, _), (0, _), (1, _), (2, _), (3, _)] dL_fee_89 (q := 5) (b := 1) rfl (by decide) (by decide) rfl ?_
                  refine j_goto (tgt := 6) X dL_fee_92 (by decide) ?_
                  exact j_sub [2, 3, 4, 5, 1, 0] rfl (ih6 _ _ (by omega) (by rw [sm_s, ← hs, old_is hC (show i < nc by omega)]; exact ct_0 (by simp only [Bool.and_eq_false_iff, Bool.or_eq_false_iff, decide_eq_false_iff_not]; omega) _) (by omega))
                · skip
                  refine j_iconst (v := nI 1) X dL_fee_81 (by decide) ?_
                  refine j_goto (tgt := 86) X dL_fee_82 (by decide) ?_
                  refine n_iadd X dL_fee_86 ?_
                  refine j_istore X [(4, _), (0, _), (1, _), (2, _), (3, _), (5, _)] dL_fee_87 (by decide) rfl ?_
                  refine n_iinc X [(5, _), (4, _), (0, _), (1, _), (2, _), (3, _)] dL_fee_89 (q := 5) (b := 1) rfl (by decide) (by decide) rfl ?_
                  refine j_goto (tgt := 6) X dL_fee_92 (by decide) ?_
                  exact j_sub [2, 3, 4, 5, 1, 0] rfl (ih6 _ _ (by omega) (by rw [sm_s, ← hs, old_is hC (show i < nc by omega)]; exact ct_1 (by simp only [Bool.and_eq_true, Bool.or_eq_true, decide_eq_true_eq]; omega) _) (by omega))
  exact j_sub [2, 3, 4, 5, 1, 0] rfl (L6 (nc + 1) _ _ (by omega) (by rfl) (by omega))
set_option maxRecDepth 100000 in
set_option maxHeartbeats 4000000 in
theorem m_L_shortage (hV : LV ws Y aq Q) (hB : BD S) (hI : IV S) (hL : LR S nc me Q) (w d : Nat) (hw : w < 4) (hd : d < 5) : MR Y ws zL_shortage 2 [.int (nI w), .int (nI d), .ref (aq 0), .ref (aq 1), .ref (aq 2), .ref (aq 3), .ref (aq 4)] (rN (shN S w d) 2000) := by
  intro D
  refine MT.of [(0, .int (nI w)), (1, .int (nI d)), (2, .ref (aq 0)), (3, .ref (aq 1)), (4, .ref (aq 2)), (5, .ref (aq 3)), (6, .ref (aq 4))] (by decide) rfl (Nat.le_of_ble_eq_true rfl) ?_
  intro K hR0 X E
  have hR := RO.rm hR0
  have hQ := hL.1
  have hC := hL.2.1
  have hE := hL.2.2
  have hn5 := hC.1
  have hm3 := hE.1
  refine j_iconst (v := nI 0) X dL_shortage_0 (by decide) ?_
  refine j_istore X [(7, _), (0, _), (1, _), (2, _), (3, _), (4, _), (5, _), (6, _)] dL_shortage_1 (by decide) rfl ?_
  refine j_iconst (v := nI 0) X dL_shortage_3 (by decide) ?_
  refine j_istore X [(8, _), (7, _), (0, _), (1, _), (2, _), (3, _), (4, _), (5, _), (6, _)] dL_shortage_4 (by decide) rfl ?_
  have L6 : ∀ (n : Nat) (i s : Nat), (i ≤ 10) → (s ≤ 2000) → (s = mxN (fun k => needN S d k (-9) - thrN S w d k) i) → (10 + 1 ≤ i + n) → JJ K D 0 0 (ws) [(0, .int (nI w)), (1, .int (nI d)), (2, .ref (aq 0)), (3, .ref (aq 1)), (4, .ref (aq 2)), (5, .ref (aq 3)), (6, .ref (aq 4)), (7, .int (nI s)), (8, .int (nI i))] 6 [] := by
    intro n
    induction n with
    | zero =>
      intro i s hi hs2 hs hf6
      exact absurd hf6 (by omega)
    | succ n6 ih6 =>
      intro i s hi hs2 hs hf6
      refine j_iload X dL_shortage_6 8 rfl ?_
      refine j_bipush (v := nI 10) X dL_shortage_8 (by decide) ?_
      refine n_icmp_ge (tgt := 60) X dL_shortage_10 (by decide) (by omega) (by omega) (fun c_10 => ?_) (fun c_10 => ?_)
      · have hi10 : i = 10 := by omega
        rw [hi10] at hs
        refine j_iload X dL_shortage_60 7 rfl ?_
        exact j_ireturn X E (_) rfl ⟨⟨_, hs, hs2, rfl⟩, rfl⟩ dL_shortage_62
      · refine j_iload_n X dL_shortage_13 rfl 1 rfl ?_
        refine j_iload X dL_shortage_14 8 rfl ?_
        refine j_aload_n X dL_shortage_16 rfl 2 rfl ?_
        refine j_aload_n X dL_shortage_17 rfl 3 rfl ?_
        refine j_aload X dL_shortage_18 4 rfl ?_
        refine jr_callN5 X hR (m_L_need hV hB hI hL _ _ (by omega) (by omega)) m_L_24 (by decide) (by decide) (Nat.le_of_ble_eq_true rfl) ⟨by decide, by decide⟩ dL_shortage_20 (fun v_20 e_20 b_20 => ?_)
        refine j_iload_n X dL_shortage_23 rfl 1 rfl ?_
        refine j_iload X dL_shortage_24 8 rfl ?_
        refine j_iload_n X dL_shortage_26 rfl 0 rfl ?_
        refine j_aload_n X dL_shortage_27 rfl 2 rfl ?_
        refine j_aload X dL_shortage_28 5 rfl ?_
        refine j_aload X dL_shortage_30 6 rfl ?_
        refine jr_callN6 X hR (m_L_staffW hV hB hI hL d i hd (by omega) w hw) m_L_27 (by decide) (by decide) (Nat.le_of_ble_eq_true rfl) ⟨by decide, by decide⟩ dL_shortage_32 (fun v_32 e_32 b_32 => ?_)
        refine j_isub X dL_shortage_35 ?_
        refine j_istore X [(9, _), (0, _), (1, _), (2, _), (3, _), (4, _), (5, _), (6, _), (7, _), (8, _)] dL_shortage_36 (by decide) rfl ?_
        refine j_iload X dL_shortage_38 0 rfl ?_
        refine j_iload X dL_shortage_40 8 rfl ?_
        refine j_icmp_le (tgt := 50) X dL_shortage_42 (by decide) (fun c_42 => ?_) (fun c_42 => ?_)
        · rw [lack_le (by omega) (by omega) (by omega)] at c_42
          refine j_iload X dL_shortage_50 8 rfl ?_
          refine j_istore X [(7, _), (9, _), (0, _), (1, _), (2, _), (3, _), (4, _), (5, _), (6, _), (8, _)] dL_shortage_52 (by decide) rfl ?_
          refine n_iinc X [(8, _), (7, _), (9, _), (0, _), (1, _), (2, _), (3, _), (4, _), (5, _), (6, _)] dL_shortage_54 (q := 9) (b := 1) rfl (by decide) (by decide) rfl ?_
          refine j_goto (tgt := 6) X dL_shortage_57 (by decide) ?_
          exact j_sub [3, 4, 5, 6, 7, 8, 9, 1, 0] rfl (ih6 _ _ (by omega) (by omega) (by rw [mxN_s, ← hs, ← e_20, ← e_32, if_neg (by omega)]) (by omega))
        · rw [lack_le (by omega) (by omega) (by omega)] at c_42
          rw [pk_sub (show v_32 ≤ v_20 by omega)]
          refine j_iload X dL_shortage_45 0 rfl ?_
          refine j_goto (tgt := 52) X dL_shortage_47 (by decide) ?_
          refine j_istore X [(7, _), (9, _), (0, _), (1, _), (2, _), (3, _), (4, _), (5, _), (6, _), (8, _)] dL_shortage_52 (by decide) rfl ?_
          refine n_iinc X [(8, _), (7, _), (9, _), (0, _), (1, _), (2, _), (3, _), (4, _), (5, _), (6, _)] dL_shortage_54 (q := 9) (b := 1) rfl (by decide) (by decide) rfl ?_
          refine j_goto (tgt := 6) X dL_shortage_57 (by decide) ?_
          exact j_sub [3, 4, 5, 6, 7, 8, 9, 1, 0] rfl (ih6 _ _ (by omega) (by omega) (by rw [mxN_s, ← hs, ← e_20, ← e_32, if_pos (by omega)]) (by omega))
  exact j_sub [2, 3, 4, 5, 6, 7, 8, 1, 0] rfl (L6 11 _ _ (by omega) (by omega) (by rfl) (by omega))
end
