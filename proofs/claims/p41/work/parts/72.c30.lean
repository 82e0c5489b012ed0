/-! constructors of the class: rows over any world -/
section
variable {K : Ctx} {cc : ByteArray} {nL : Nat} {own : String} {D : va_G} {Y : Nat → ClassId} {cells slots : Nat} {ws w2 : va_W} {lv : List (Nat × Value)} {pc : Nat} {st : List Value}
theorem j_newA (X : CX K cc nL own D Y) {C : String} {k mc ms N idx y : Nat} (hR : kR K = Rm k mc ms) (hN : N < 100000) (hc : cells + 1 ≤ mc) (hs : slots + N ≤ ms) (hcl : Cond.classLink own idx C ∈ lw_g) (hy : (tyL Y)[y]? = some (Y y, .object C)) (hao : va_AO C (ks K)) (hdg : decode cc pc = .ok (.anewarray idx, 3)) (kk : ∀ q : Nat, JJ K D (cells + 1) (slots + N) (ws ++ [(q, .inl (Y y, N, .inr (.inr (.inr (.inr (fun _ => none))))))]) lv (pc + 3) (.ref q :: st)) : JJ K D cells slots ws lv pc (.int (nI N) :: st) := by
  intro H locs ls hP hD hS hlv
  have hts := X.1.2.2.2.2
  obtain ⟨_, _, _, _, _, hk0⟩ := (X.2.1.1.2 y _ hy).2
  refine va_newq (N' := N) X.1.1 X.1.2.1 X.1.2.2.2.1 (hts _ hcl) hao X.2.1.1 hP hD hS X.2.2.1 (nI_pos (by omega)) (nI_clamp (by omega)) (by show N * 4 ≤ 536870912; omega) (by rw [hR]; exact hc) (by rw [hR]; exact hs) hdg (fun q cA H1 hK1 hP1 hD1 hS1 => ?_)
  obtain ⟨_, _, _, _, _, hk1⟩ := (hK1.2 (tyL Y).length (cA, .object C) (by rw [List.getElem?_append_right (Nat.le_refl _)]; simp)).2
  have he : Y y = cA := Option.some.inj (hk0.symm.trans hk1)
  rw [← he] at hP1 hD1
  exact kk q H1 locs ls hP1 hD1 hS1 hlv
theorem j_newO (X : CX K cc nL own D Y) {C : String} {F : u_T} {N ci idx k mc ms : Nat} {fs : List Value} (hR : kR K = Rm k mc ms) (hly : ∀ w ∈ u_ws C F N, w ∈ lw_g) (ty0 : Nat → FieldType) (hty : ∀ k, k < N → parseFieldDescriptor (F k).2.2.1 = some (ty0 k)) (hcl : Cond.classLink own idx C ∈ lw_g) (hinst : Cond.instantiable C N ∈ lw_g) (hini : Cond.initialized C ∈ lw_g) (hc : vwCl[ci]? = some (C, F, N)) (hfs : ∀ j, j < N → defaultValue (ty0 j) = vp_V fs j) (hcells : cells + 1 ≤ mc) (hslots : slots + N ≤ ms) (hdg : decode cc pc = .ok (.new idx, 3)) (kk : ∀ a : Nat, JJ K D (cells + 1) (slots + N) (ws ++ [(a, .inr (ci, fs))]) lv (pc + 3) (.ref a :: st)) : JJ K D cells slots ws lv pc st := by
  intro H locs ls hP hD hS hlv
  have hts := X.1.2.2.2.2
  exact va_new X.1.1 X.1.2.1 (Ts := lw_g) hts hly ty0 hty X.1.2.2.2.1 (hts _ hcl) (hts _ hinst) (hts _ hini) X.2.1.1 hP hD hS X.2.2.1 hc hfs (by rw [hR]; exact hcells) (by rw [hR]; exact hslots) hdg (fun q H1 hP1 hD1 hS1 => kk q H1 locs ls hP1 hD1 hS1 hlv)
theorem j_astG (X : CX K cc nL own D Y) (q0 : Nat) {a n i : Nat} {v : Int32} {f : Nat → Int32} (ha : ws[q0]? = some (a, .inl (Y 0, n, .inl f))) (hi : i < n) (hn : n < 2147483648) (hset : ws.set q0 (a, .inl (Y 0, n, .inl (upd f i v))) = w2) (hdg : decode cc pc = .ok (.iastore, 1)) (kk : JJ K D cells slots w2 lv (pc + 1) st) : JJ K D cells slots ws lv pc (.int v :: .int (nI i) :: .ref a :: st) := by
  intro H locs ls hP hD hS hl
  refine va_iast X.1.1 X.1.2.1 X.2.1.1 hP hD hS q0 0 ha rfl (vp_in_nI hi hn) hdg (fun H1 locs1 hP1 hD1 hS1 => ?_)
  rw [nI_clamp (by omega), hset] at hP1 hD1
  exact kk H1 locs1 ls hP1 hD1 hS1 hl
theorem j_perm (is : List Nat) (hn : va_nd is = true) (hs : is.map (fun i => ws[i]?) = w2.map some) (hf : is.filterMap (fun i => ws[i]?) = w2) (k : JJ K D cells slots w2 lv pc st) : JJ K D cells slots ws lv pc st := fun H locs ls hP hD hS hl => k H locs ls (hP.sub is hf) (hD.sub is hn hs) hS hl
end
theorem gs_app {ws : va_W} {x p : Nat × va_E} {q0 : Nat} (h : ws[q0]? = some p) : (ws ++ [x])[q0]? = some p := (List.getElem?_append_left (List.getElem?_eq_some_iff.mp h).1).trans h
theorem gs_set {ws : va_W} {y p : Nat × va_E} {q0 : Nat} (h : ws[q0]? = some p) : (ws.set q0 y)[q0]? = some y := List.getElem?_set_self (List.getElem?_eq_some_iff.mp h).1
set_option maxRecDepth 100000 in
set_option maxHeartbeats 4000000 in
theorem m_X4_init (D : va_G) (Y : Nat → ClassId) (ws : va_W) (a q0 : Nat) (h : ws[q0]? = some (a, .inr (4, [.null, .int 0, .long 0]))) : MT zX4_init 1 1 60 D Y [.ref a] ws (fun u : Nat => ((ws ++ ([(u, .inl (Y 1, 60, .inl (fun _ => 0)))] : va_W)).set q0 (a, .inr (4, [.ref u, .int 0, .long 0])))) (fun v _ => v = none) := by
  refine MT.ofI [(0, .ref a)] (by decide) rfl (Nat.le_of_ble_eq_true rfl) ?_
  intro K hR X E hin
  refine j_aload_n X dX4_init_0 rfl 0 rfl ?_
  refine j_objInit X hR (by decide) ol_X4 (Nat.le_of_ble_eq_true rfl) dX4_init_1 ?_
  refine j_aload_n X dX4_init_4 rfl 0 rfl ?_
  refine j_bipush (v := nI 60) X dX4_init_5 (by decide) ?_
  refine j_newC X hR (by decide) (by decide) (by decide) dX4_init_7 (fun q7 => ?_)
  refine j_putF X ly_X4 tyX4 tyX4_ok nmX4 q0 (gs_app h) rfl 0 (by decide) f_X4_9 rfl hin rfl rfl rfl rfl (Nat.le_of_ble_eq_true rfl) rfl dX4_init_9 ?_
  exact j_return X E (q7) rfl rfl dX4_init_12
set_option maxRecDepth 100000 in
set_option maxHeartbeats 4000000 in
theorem m_X1_init (D : va_G) (Y : Nat → ClassId) (ws : va_W) (a q0 : Nat) (h : ws[q0]? = some (a, .inr (1, [.null, .int 0, .null, .int 0, .null, .null]))) : MT zX1_init 1 4 19 D Y [.ref a] ws (fun u : Nat × Nat × Nat × Nat => ((((((((ws ++ ([(u.1, .inl (Y 4, 4, .inr (.inr (.inr (.inr (fun _ => none))))))] : va_W)).set q0 (a, .inr (1, [.ref u.1, .int 0, .null, .int 0, .null, .null]))) ++ ([(u.2.1, .inl (Y 0, 5, .inl (fun _ => 0)))] : va_W)).set q0 (a, .inr (1, [.ref u.1, .int 0, .ref u.2.1, .int 0, .null, .null]))) ++ ([(u.2.2.1, .inl (Y 0, 5, .inl (fun _ => 0)))] : va_W)).set q0 (a, .inr (1, [.ref u.1, .int 0, .ref u.2.1, .int 0, .ref u.2.2.1, .null]))) ++ ([(u.2.2.2, .inl (Y 0, 5, .inl (fun _ => 0)))] : va_W)).set q0 (a, .inr (1, [.ref u.1, .int 0, .ref u.2.1, .int 0, .ref u.2.2.1, .ref u.2.2.2])))) (fun v _ => v = none) := by
  refine MT.ofI [(0, .ref a)] (by decide) rfl (Nat.le_of_ble_eq_true rfl) ?_
  intro K hR X E hin
  refine j_aload_n X dX1_init_0 rfl 0 rfl ?_
  refine j_objInit X hR (by decide) ol_X1 (Nat.le_of_ble_eq_true rfl) dX1_init_1 ?_
  refine j_aload_n X dX1_init_4 rfl 0 rfl ?_
  refine j_iconst (v := nI 4) X dX1_init_5 (by decide) ?_
  refine j_newA (y := 4) X hR (by decide) (by decide) (by decide) c_X1_9 rfl X.2.1.2.2.2.2 dX1_init_6 (fun q6 => ?_)
  refine j_putF X ly_X1 tyX1 tyX1_ok nmX1 q0 (gs_app h) rfl 0 (by decide) f_X1_11 rfl hin rfl rfl rfl rfl (Nat.le_of_ble_eq_true rfl) rfl dX1_init_9 ?_
  refine j_aload_n X dX1_init_12 rfl 0 rfl ?_
  refine j_iconst (v := nI 5) X dX1_init_13 (by decide) ?_
  refine j_newI X hR (by decide) (by decide) (by decide) dX1_init_14 (fun q14 => ?_)
  refine j_putF X ly_X1 tyX1 tyX1_ok nmX1 q0 (gs_app (gs_set (gs_app h))) rfl 2 (by decide) f_X1_17 rfl hin rfl rfl rfl rfl (Nat.le_of_ble_eq_true rfl) rfl dX1_init_16 ?_
  refine j_aload_n X dX1_init_19 rfl 0 rfl ?_
  refine j_iconst (v := nI 5) X dX1_init_20 (by decide) ?_
  refine j_newI X hR (by decide) (by decide) (by decide) dX1_init_21 (fun q21 => ?_)
  refine j_putF X ly_X1 tyX1 tyX1_ok nmX1 q0 (gs_app (gs_set (gs_app (gs_set (gs_app h))))) rfl 4 (by decide) f_X1_21 rfl hin rfl rfl rfl rfl (Nat.le_of_ble_eq_true rfl) rfl dX1_init_23 ?_
  refine j_aload_n X dX1_init_26 rfl 0 rfl ?_
  refine j_iconst (v := nI 5) X dX1_init_27 (by decide) ?_
  refine j_newI X hR (by decide) (by decide) (by decide) dX1_init_28 (fun q28 => ?_)
  refine j_putF X ly_X1 tyX1 tyX1_ok nmX1 q0 (gs_app (gs_set (gs_app (gs_set (gs_app (gs_set (gs_app h))))))) rfl 5 (by decide) f_X1_24 rfl hin rfl rfl rfl rfl (Nat.le_of_ble_eq_true rfl) rfl dX1_init_30 ?_
  exact j_return X E (q6, q14, q21, q28) rfl rfl dX1_init_33
set_option maxRecDepth 100000 in
set_option maxHeartbeats 4000000 in
theorem m_X3_init (D : va_G) (Y : Nat → ClassId) (ws : va_W) (a q0 : Nat) (h : ws[q0]? = some (a, .inr (3, [.null]))) : MT zX3_init 1 1 3 D Y [.ref a] ws (fun u : Nat => ((ws ++ ([(u, .inl (Y 0, 3, .inl (fun _ => 0)))] : va_W)).set q0 (a, .inr (3, [.ref u])))) (fun v _ => v = none) := by
  refine MT.ofI [(0, .ref a)] (by decide) rfl (Nat.le_of_ble_eq_true rfl) ?_
  intro K hR X E hin
  refine j_aload_n X dX3_init_0 rfl 0 rfl ?_
  refine j_objInit X hR (by decide) ol_X3 (Nat.le_of_ble_eq_true rfl) dX3_init_1 ?_
  refine j_aload_n X dX3_init_4 rfl 0 rfl ?_
  refine j_iconst (v := nI 3) X dX3_init_5 (by decide) ?_
  refine j_newI X hR (by decide) (by decide) (by decide) dX3_init_6 (fun q6 => ?_)
  refine j_putF X ly_X3 tyX3 tyX3_ok nmX3 q0 (gs_app h) rfl 0 (by decide) f_X3_9 rfl hin rfl rfl rfl rfl (Nat.le_of_ble_eq_true rfl) rfl dX3_init_8 ?_
  exact j_return X E (q6) rfl rfl dX3_init_11
theorem dX4_ok : ∀ j, j < 3 → defaultValue (tyX4 j) = vp_V ([.null, .int 0, .long 0] : List Value) j := by
  intro j hj
  rcases (show j = 0 ∨ j = 1 ∨ j = 2 by omega) with rfl | rfl | rfl <;> rfl
theorem dX1_ok : ∀ j, j < 6 → defaultValue (tyX1 j) = vp_V ([.null, .int 0, .null, .int 0, .null, .null] : List Value) j := by
  intro j hj
  rcases (show j = 0 ∨ j = 1 ∨ j = 2 ∨ j = 3 ∨ j = 4 ∨ j = 5 by omega) with rfl | rfl | rfl | rfl | rfl | rfl <;> rfl
theorem dX3_ok : ∀ j, j < 1 → defaultValue (tyX3 j) = vp_V ([.null] : List Value) j := by
  intro j hj
  rcases (show j = 0 by omega) with rfl
  rfl
/-- the class's state at the start -/
def ratF : Nat → Int32 := upd (upd (upd (fun _ => 0) 0 (nI 4)) 1 (nI 6)) 2 (nI 10)
def rateF : Nat → Int32 := upd (upd (upd (fun _ => 0) 0 (nI 400)) 1 (nI 300)) 2 (nI 250)
def T0 : CT := fun k => match k with
  | 0 => ratF
  | 1 => rateF
  | 10 => fun j => match j with
    | 0 => nI 20
    | 1 => nI 0
    | _ => 0
  | _ => fun _ => 0
def e0 : CE := (0, fun _ _ => none, [], fun _ => .inr (0, []))
def d12 : List Value := [.null, .null, .null, .null, .int 0, .int 0, .null, .null, .null, .null, .null, .null]
def adL (l : List Nat) : Nat → Nat := fun k => l.getD k 0
set_option maxRecDepth 100000 in
set_option maxHeartbeats 4000000 in
theorem m_X6_init (D : va_G) (Y : Nat → ClassId) (h : Nat) : MT zX6_init 2 16 209 D Y [.ref h] [(h, .inr (6, d12))] (fun ad => WC ad Y (T0, e0)) (fun v ad => v = none ∧ ad 16 = h) := by
  refine MT.ofI [(0, .ref h)] (by decide) rfl (Nat.le_of_ble_eq_true rfl) ?_
  intro K hR X E hin
  refine j_aload_n X dX6_init_0 rfl 0 rfl ?_
  refine j_objInit X hR (by decide) ol_X6 (Nat.le_of_ble_eq_true rfl) dX6_init_1 ?_
  refine j_aload_n X dX6_init_4 rfl 0 rfl ?_
  refine j_bipush (v := nI 24) X dX6_init_5 (by decide) ?_
  refine j_newA (y := 2) X hR (by decide) (by decide) (by decide) c_X6_9 rfl X.2.1.2.2.1 dX6_init_7 (fun q7 => ?_)
  refine j_eqw (w2 := [(h, .inr (6, [.null, .null, .null, .null, .int 0, .int 0, .null, .null, .null, .null, .null, .null])), (q7, .inl (Y 2, 24, .inr (.inr (.inr (.inr (fun _ => none))))))]) rfl ?_
  refine j_putF (w2 := [(h, .inr (6, [.ref q7, .null, .null, .null, .int 0, .int 0, .null, .null, .null, .null, .null, .null])), (q7, .inl (Y 2, 24, .inr (.inr (.inr (.inr (fun _ => none))))))]) X ly_X6 tyX6 tyX6_ok nmX6 0 rfl rfl 0 (by decide) f_X6_11 rfl hin rfl rfl rfl rfl (Nat.le_of_ble_eq_true rfl) rfl dX6_init_10 ?_
  refine j_aload_n X dX6_init_13 rfl 0 rfl ?_
  refine j_bipush (v := nI 8) X dX6_init_14 (by decide) ?_
  refine j_newA (y := 3) X hR (by decide) (by decide) (by decide) c_X6_15 rfl X.2.1.2.2.2.1 dX6_init_16 (fun q16 => ?_)
  refine j_eqw (w2 := [(h, .inr (6, [.ref q7, .null, .null, .null, .int 0, .int 0, .null, .null, .null, .null, .null, .null])), (q7, .inl (Y 2, 24, .inr (.inr (.inr (.inr (fun _ => none)))))), (q16, .inl (Y 3, 8, .inr (.inr (.inr (.inr (fun _ => none))))))]) rfl ?_
  refine j_putF (w2 := [(h, .inr (6, [.ref q7, .ref q16, .null, .null, .int 0, .int 0, .null, .null, .null, .null, .null, .null])), (q7, .inl (Y 2, 24, .inr (.inr (.inr (.inr (fun _ => none)))))), (q16, .inl (Y 3, 8, .inr (.inr (.inr (.inr (fun _ => none))))))]) X ly_X6 tyX6 tyX6_ok nmX6 0 rfl rfl 1 (by decide) f_X6_17 rfl hin rfl rfl rfl rfl (Nat.le_of_ble_eq_true rfl) rfl dX6_init_19 ?_
  refine j_aload_n X dX6_init_22 rfl 0 rfl ?_
  refine j_iconst (v := nI 3) X dX6_init_23 (by decide) ?_
  refine j_newI X hR (by decide) (by decide) (by decide) dX6_init_24 (fun q24 => ?_)
  refine j_eqw (w2 := [(h, .inr (6, [.ref q7, .ref q16, .null, .null, .int 0, .int 0, .null, .null, .null, .null, .null, .null])), (q7, .inl (Y 2, 24, .inr (.inr (.inr (.inr (fun _ => none)))))), (q16, .inl (Y 3, 8, .inr (.inr (.inr (.inr (fun _ => none)))))), (q24, .inl (Y 0, 3, .inl (fun _ => 0)))]) rfl ?_
  refine j_dup X dX6_init_26 rfl ?_
  refine j_iconst (v := nI 0) X dX6_init_27 (by decide) ?_
  refine j_iconst (v := nI 4) X dX6_init_28 (by decide) ?_
  refine j_astG (w2 := [(h, .inr (6, [.ref q7, .ref q16, .null, .null, .int 0, .int 0, .null, .null, .null, .null, .null, .null])), (q7, .inl (Y 2, 24, .inr (.inr (.inr (.inr (fun _ => none)))))), (q16, .inl (Y 3, 8, .inr (.inr (.inr (.inr (fun _ => none)))))), (q24, .inl (Y 0, 3, .inl (upd (fun _ => 0) 0 (nI 4))))]) X 3 rfl (by decide) (by decide) rfl dX6_init_29 ?_
  refine j_dup X dX6_init_30 rfl ?_
  refine j_iconst (v := nI 1) X dX6_init_31 (by decide) ?_
  refine j_bipush (v := nI 6) X dX6_init_32 (by decide) ?_
  refine j_astG (w2 := [(h, .inr (6, [.ref q7, .ref q16, .null, .null, .int 0, .int 0, .null, .null, .null, .null, .null, .null])), (q7, .inl (Y 2, 24, .inr (.inr (.inr (.inr (fun _ => none)))))), (q16, .inl (Y 3, 8, .inr (.inr (.inr (.inr (fun _ => none)))))), (q24, .inl (Y 0, 3, .inl (upd (upd (fun _ => 0) 0 (nI 4)) 1 (nI 6))))]) X 3 rfl (by decide) (by decide) rfl dX6_init_34 ?_
  refine j_dup X dX6_init_35 rfl ?_
  refine j_iconst (v := nI 2) X dX6_init_36 (by decide) ?_
  refine j_bipush (v := nI 10) X dX6_init_37 (by decide) ?_
  refine j_astG (w2 := [(h, .inr (6, [.ref q7, .ref q16, .null, .null, .int 0, .int 0, .null, .null, .null, .null, .null, .null])), (q7, .inl (Y 2, 24, .inr (.inr (.inr (.inr (fun _ => none)))))), (q16, .inl (Y 3, 8, .inr (.inr (.inr (.inr (fun _ => none)))))), (q24, .inl (Y 0, 3, .inl (upd (upd (upd (fun _ => 0) 0 (nI 4)) 1 (nI 6)) 2 (nI 10))))]) X 3 rfl (by decide) (by decide) rfl dX6_init_39 ?_
  refine j_putF (w2 := [(h, .inr (6, [.ref q7, .ref q16, .ref q24, .null, .int 0, .int 0, .null, .null, .null, .null, .null, .null])), (q7, .inl (Y 2, 24, .inr (.inr (.inr (.inr (fun _ => none)))))), (q16, .inl (Y 3, 8, .inr (.inr (.inr (.inr (fun _ => none)))))), (q24, .inl (Y 0, 3, .inl (upd (upd (upd (fun _ => 0) 0 (nI 4)) 1 (nI 6)) 2 (nI 10))))]) X ly_X6 tyX6 tyX6_ok nmX6 0 rfl rfl 2 (by decide) f_X6_21 rfl hin rfl rfl rfl rfl (Nat.le_of_ble_eq_true rfl) rfl dX6_init_40 ?_
  refine j_aload_n X dX6_init_43 rfl 0 rfl ?_
  refine j_iconst (v := nI 3) X dX6_init_44 (by decide) ?_
  refine j_newI X hR (by decide) (by decide) (by decide) dX6_init_45 (fun q45 => ?_)
  refine j_eqw (w2 := [(h, .inr (6, [.ref q7, .ref q16, .ref q24, .null, .int 0, .int 0, .null, .null, .null, .null, .null, .null])), (q7, .inl (Y 2, 24, .inr (.inr (.inr (.inr (fun _ => none)))))), (q16, .inl (Y 3, 8, .inr (.inr (.inr (.inr (fun _ => none)))))), (q24, .inl (Y 0, 3, .inl (upd (upd (upd (fun _ => 0) 0 (nI 4)) 1 (nI 6)) 2 (nI 10)))), (q45, .inl (Y 0, 3, .inl (fun _ => 0)))]) rfl ?_
  refine j_dup X dX6_init_47 rfl ?_
  refine j_iconst (v := nI 0) X dX6_init_48 (by decide) ?_
  refine j_sipush (v := nI 400) X dX6_init_49 (by decide) ?_
  refine j_astG (w2 := [(h, .inr (6, [.ref q7, .ref q16, .ref q24, .null, .int 0, .int 0, .null, .null, .null, .null, .null, .null])), (q7, .inl (Y 2, 24, .inr (.inr (.inr (.inr (fun _ => none)))))), (q16, .inl (Y 3, 8, .inr (.inr (.inr (.inr (fun _ => none)))))), (q24, .inl (Y 0, 3, .inl (upd (upd (upd (fun _ => 0) 0 (nI 4)) 1 (nI 6)) 2 (nI 10)))), (q45, .inl (Y 0, 3, .inl (upd (fun _ => 0) 0 (nI 400))))]) X 4 rfl (by decide) (by decide) rfl dX6_init_52 ?_
  refine j_dup X dX6_init_53 rfl ?_
  refine j_iconst (v := nI 1) X dX6_init_54 (by decide) ?_
  refine j_sipush (v := nI 300) X dX6_init_55 (by decide) ?_
  refine j_astG (w2 := [(h, .inr (6, [.ref q7, .ref q16, .ref q24, .null, .int 0, .int 0, .null, .null, .null, .null, .null, .null])), (q7, .inl (Y 2, 24, .inr (.inr (.inr (.inr (fun _ => none)))))), (q16, .inl (Y 3, 8, .inr (.inr (.inr (.inr (fun _ => none)))))), (q24, .inl (Y 0, 3, .inl (upd (upd (upd (fun _ => 0) 0 (nI 4)) 1 (nI 6)) 2 (nI 10)))), (q45, .inl (Y 0, 3, .inl (upd (upd (fun _ => 0) 0 (nI 400)) 1 (nI 300))))]) X 4 rfl (by decide) (by decide) rfl dX6_init_58 ?_
  refine j_dup X dX6_init_59 rfl ?_
  refine j_iconst (v := nI 2) X dX6_init_60 (by decide) ?_
  refine j_sipush (v := nI 250) X dX6_init_61 (by decide) ?_
  refine j_astG (w2 := [(h, .inr (6, [.ref q7, .ref q16, .ref q24, .null, .int 0, .int 0, .null, .null, .null, .null, .null, .null])), (q7, .inl (Y 2, 24, .inr (.inr (.inr (.inr (fun _ => none)))))), (q16, .inl (Y 3, 8, .inr (.inr (.inr (.inr (fun _ => none)))))), (q24, .inl (Y 0, 3, .inl (upd (upd (upd (fun _ => 0) 0 (nI 4)) 1 (nI 6)) 2 (nI 10)))), (q45, .inl (Y 0, 3, .inl (upd (upd (upd (fun _ => 0) 0 (nI 400)) 1 (nI 300)) 2 (nI 250))))]) X 4 rfl (by decide) (by decide) rfl dX6_init_64 ?_
  refine j_putF (w2 := [(h, .inr (6, [.ref q7, .ref q16, .ref q24, .ref q45, .int 0, .int 0, .null, .null, .null, .null, .null, .null])), (q7, .inl (Y 2, 24, .inr (.inr (.inr (.inr (fun _ => none)))))), (q16, .inl (Y 3, 8, .inr (.inr (.inr (.inr (fun _ => none)))))), (q24, .inl (Y 0, 3, .inl (upd (upd (upd (fun _ => 0) 0 (nI 4)) 1 (nI 6)) 2 (nI 10)))), (q45, .inl (Y 0, 3, .inl (upd (upd (upd (fun _ => 0) 0 (nI 400)) 1 (nI 300)) 2 (nI 250))))]) X ly_X6 tyX6 tyX6_ok nmX6 0 rfl rfl 3 (by decide) f_X6_25 rfl hin rfl rfl rfl rfl (Nat.le_of_ble_eq_true rfl) rfl dX6_init_65 ?_
  refine j_aload_n X dX6_init_68 rfl 0 rfl ?_
  refine j_bipush (v := nI 20) X dX6_init_69 (by decide) ?_
  refine j_putf (w2 := [(h, .inr (6, [.ref q7, .ref q16, .ref q24, .ref q45, .int (nI 20), .int 0, .null, .null, .null, .null, .null, .null])), (q7, .inl (Y 2, 24, .inr (.inr (.inr (.inr (fun _ => none)))))), (q16, .inl (Y 3, 8, .inr (.inr (.inr (.inr (fun _ => none)))))), (q24, .inl (Y 0, 3, .inl (upd (upd (upd (fun _ => 0) 0 (nI 4)) 1 (nI 6)) 2 (nI 10)))), (q45, .inl (Y 0, 3, .inl (upd (upd (upd (fun _ => 0) 0 (nI 400)) 1 (nI 300)) 2 (nI 250))))]) X ly_X6 tyX6 tyX6_ok nmX6 0 rfl rfl 4 (by decide) f_X6_28 rfl rfl rfl rfl (Nat.le_of_ble_eq_true rfl) rfl dX6_init_71 ?_
  refine j_aload_n X dX6_init_74 rfl 0 rfl ?_
  refine j_iconst (v := nI 0) X dX6_init_75 (by decide) ?_
  refine j_putf (w2 := [(h, .inr (6, [.ref q7, .ref q16, .ref q24, .ref q45, .int (nI 20), .int (nI 0), .null, .null, .null, .null, .null, .null])), (q7, .inl (Y 2, 24, .inr (.inr (.inr (.inr (fun _ => none)))))), (q16, .inl (Y 3, 8, .inr (.inr (.inr (.inr (fun _ => none)))))), (q24, .inl (Y 0, 3, .inl (upd (upd (upd (fun _ => 0) 0 (nI 4)) 1 (nI 6)) 2 (nI 10)))), (q45, .inl (Y 0, 3, .inl (upd (upd (upd (fun _ => 0) 0 (nI 400)) 1 (nI 300)) 2 (nI 250))))]) X ly_X6 tyX6 tyX6_ok nmX6 0 rfl rfl 5 (by decide) f_X6_32 rfl rfl rfl rfl (Nat.le_of_ble_eq_true rfl) rfl dX6_init_76 ?_
  refine j_aload_n X dX6_init_79 rfl 0 rfl ?_
  refine j_iconst (v := nI 5) X dX6_init_80 (by decide) ?_
  refine j_newI X hR (by decide) (by decide) (by decide) dX6_init_81 (fun q81 => ?_)
  refine j_eqw (w2 := [(h, .inr (6, [.ref q7, .ref q16, .ref q24, .ref q45, .int (nI 20), .int (nI 0), .null, .null, .null, .null, .null, .null])), (q7, .inl (Y 2, 24, .inr (.inr (.inr (.inr (fun _ => none)))))), (q16, .inl (Y 3, 8, .inr (.inr (.inr (.inr (fun _ => none)))))), (q24, .inl (Y 0, 3, .inl (upd (upd (upd (fun _ => 0) 0 (nI 4)) 1 (nI 6)) 2 (nI 10)))), (q45, .inl (Y 0, 3, .inl (upd (upd (upd (fun _ => 0) 0 (nI 400)) 1 (nI 300)) 2 (nI 250)))), (q81, .inl (Y 0, 5, .inl (fun _ => 0)))]) rfl ?_
  refine j_putF (w2 := [(h, .inr (6, [.ref q7, .ref q16, .ref q24, .ref q45, .int (nI 20), .int (nI 0), .ref q81, .null, .null, .null, .null, .null])), (q7, .inl (Y 2, 24, .inr (.inr (.inr (.inr (fun _ => none)))))), (q16, .inl (Y 3, 8, .inr (.inr (.inr (.inr (fun _ => none)))))), (q24, .inl (Y 0, 3, .inl (upd (upd (upd (fun _ => 0) 0 (nI 4)) 1 (nI 6)) 2 (nI 10)))), (q45, .inl (Y 0, 3, .inl (upd (upd (upd (fun _ => 0) 0 (nI 400)) 1 (nI 300)) 2 (nI 250)))), (q81, .inl (Y 0, 5, .inl (fun _ => 0)))]) X ly_X6 tyX6 tyX6_ok nmX6 0 rfl rfl 6 (by decide) f_X6_35 rfl hin rfl rfl rfl rfl (Nat.le_of_ble_eq_true rfl) rfl dX6_init_83 ?_
  refine j_aload_n X dX6_init_86 rfl 0 rfl ?_
  refine j_newO (ci := 4) (fs := [.null, .int 0, .long 0]) X hR ly_X4 tyX4 tyX4_ok c_X6_38 n_X4 in_X4 rfl dX4_ok (by decide) (by decide) dX6_init_87 (fun a87 => ?_)
  refine j_eqw (w2 := [(h, .inr (6, [.ref q7, .ref q16, .ref q24, .ref q45, .int (nI 20), .int (nI 0), .ref q81, .null, .null, .null, .null, .null])), (q7, .inl (Y 2, 24, .inr (.inr (.inr (.inr (fun _ => none)))))), (q16, .inl (Y 3, 8, .inr (.inr (.inr (.inr (fun _ => none)))))), (q24, .inl (Y 0, 3, .inl (upd (upd (upd (fun _ => 0) 0 (nI 4)) 1 (nI 6)) 2 (nI 10)))), (q45, .inl (Y 0, 3, .inl (upd (upd (upd (fun _ => 0) 0 (nI 400)) 1 (nI 300)) 2 (nI 250)))), (q81, .inl (Y 0, 5, .inl (fun _ => 0))), (a87, .inr (4, [.null, .int 0, .long 0]))]) rfl ?_
  refine j_dup X dX6_init_90 rfl ?_
  refine j_callIN (mc := 1) (ms := 60) (As := []) X hR (m_X4_init D Y _ a87 6 rfl) m_X6_40 (by decide) (by decide) rfl (Nat.le_of_ble_eq_true rfl) ⟨by decide, by decide⟩ dX6_init_91 ?_
  rintro _ u91_0 rfl
  refine j_eqw (w2 := [(h, .inr (6, [.ref q7, .ref q16, .ref q24, .ref q45, .int (nI 20), .int (nI 0), .ref q81, .null, .null, .null, .null, .null])), (q7, .inl (Y 2, 24, .inr (.inr (.inr (.inr (fun _ => none)))))), (q16, .inl (Y 3, 8, .inr (.inr (.inr (.inr (fun _ => none)))))), (q24, .inl (Y 0, 3, .inl (upd (upd (upd (fun _ => 0) 0 (nI 4)) 1 (nI 6)) 2 (nI 10)))), (q45, .inl (Y 0, 3, .inl (upd (upd (upd (fun _ => 0) 0 (nI 400)) 1 (nI 300)) 2 (nI 250)))), (q81, .inl (Y 0, 5, .inl (fun _ => 0))), (a87, .inr (4, [.ref u91_0, .int 0, .long 0])), (u91_0, .inl (Y 1, 60, .inl (fun _ => 0)))]) rfl ?_
  refine j_putF (w2 := [(h, .inr (6, [.ref q7, .ref q16, .ref q24, .ref q45, .int (nI 20), .int (nI 0), .ref q81, .ref a87, .null, .null, .null, .null])), (q7, .inl (Y 2, 24, .inr (.inr (.inr (.inr (fun _ => none)))))), (q16, .inl (Y 3, 8, .inr (.inr (.inr (.inr (fun _ => none)))))), (q24, .inl (Y 0, 3, .inl (upd (upd (upd (fun _ => 0) 0 (nI 4)) 1 (nI 6)) 2 (nI 10)))), (q45, .inl (Y 0, 3, .inl (upd (upd (upd (fun _ => 0) 0 (nI 400)) 1 (nI 300)) 2 (nI 250)))), (q81, .inl (Y 0, 5, .inl (fun _ => 0))), (a87, .inr (4, [.ref u91_0, .int 0, .long 0])), (u91_0, .inl (Y 1, 60, .inl (fun _ => 0)))]) X ly_X6 tyX6 tyX6_ok nmX6 0 rfl rfl 7 (by decide) f_X6_41 rfl hin rfl rfl rfl rfl (Nat.le_of_ble_eq_true rfl) rfl dX6_init_94 ?_
  refine j_aload_n X dX6_init_97 rfl 0 rfl ?_
  refine j_newO (ci := 1) (fs := [.null, .int 0, .null, .int 0, .null, .null]) X hR ly_X1 tyX1 tyX1_ok c_X6_45 n_X1 in_X1 rfl dX1_ok (by decide) (by decide) dX6_init_98 (fun a98 => ?_)
  refine j_eqw (w2 := [(h, .inr (6, [.ref q7, .ref q16, .ref q24, .ref q45, .int (nI 20), .int (nI 0), .ref q81, .ref a87, .null, .null, .null, .null])), (q7, .inl (Y 2, 24, .inr (.inr (.inr (.inr (fun _ => none)))))), (q16, .inl (Y 3, 8, .inr (.inr (.inr (.inr (fun _ => none)))))), (q24, .inl (Y 0, 3, .inl (upd (upd (upd (fun _ => 0) 0 (nI 4)) 1 (nI 6)) 2 (nI 10)))), (q45, .inl (Y 0, 3, .inl (upd (upd (upd (fun _ => 0) 0 (nI 400)) 1 (nI 300)) 2 (nI 250)))), (q81, .inl (Y 0, 5, .inl (fun _ => 0))), (a87, .inr (4, [.ref u91_0, .int 0, .long 0])), (u91_0, .inl (Y 1, 60, .inl (fun _ => 0))), (a98, .inr (1, [.null, .int 0, .null, .int 0, .null, .null]))]) rfl ?_
  refine j_dup X dX6_init_101 rfl ?_
  refine j_callIN (mc := 4) (ms := 19) (As := []) X hR (m_X1_init D Y _ a98 8 rfl) m_X6_47 (by decide) (by decide) rfl (Nat.le_of_ble_eq_true rfl) ⟨by decide, by decide⟩ dX6_init_102 ?_
  rintro _ ⟨u102_0, u102_1, u102_2, u102_3⟩ rfl
  refine j_eqw (w2 := [(h, .inr (6, [.ref q7, .ref q16, .ref q24, .ref q45, .int (nI 20), .int (nI 0), .ref q81, .ref a87, .null, .null, .null, .null])), (q7, .inl (Y 2, 24, .inr (.inr (.inr (.inr (fun _ => none)))))), (q16, .inl (Y 3, 8, .inr (.inr (.inr (.inr (fun _ => none)))))), (q24, .inl (Y 0, 3, .inl (upd (upd (upd (fun _ => 0) 0 (nI 4)) 1 (nI 6)) 2 (nI 10)))), (q45, .inl (Y 0, 3, .inl (upd (upd (upd (fun _ => 0) 0 (nI 400)) 1 (nI 300)) 2 (nI 250)))), (q81, .inl (Y 0, 5, .inl (fun _ => 0))), (a87, .inr (4, [.ref u91_0, .int 0, .long 0])), (u91_0, .inl (Y 1, 60, .inl (fun _ => 0))), (a98, .inr (1, [.ref u102_0, .int 0, .ref u102_1, .int 0, .ref u102_2, .ref u102_3])), (u102_0, .inl (Y 4, 4, .inr (.inr (.inr (.inr (fun _ => none)))))), (u102_1, .inl (Y 0, 5, .inl (fun _ => 0))), (u102_2, .inl (Y 0, 5, .inl (fun _ => 0))), (u102_3, .inl (Y 0, 5, .inl (fun _ => 0)))]) rfl ?_
  refine j_putF (w2 := [(h, .inr (6, [.ref q7, .ref q16, .ref q24, .ref q45, .int (nI 20), .int (nI 0), .ref q81, .ref a87, .ref a98, .null, .null, .null])), (q7, .inl (Y 2, 24, .inr (.inr (.inr (.inr (fun _ => none)))))), (q16, .inl (Y 3, 8, .inr (.inr (.inr (.inr (fun _ => none)))))), (q24, .inl (Y 0, 3, .inl (upd (upd (upd (fun _ => 0) 0 (nI 4)) 1 (nI 6)) 2 (nI 10)))), (q45, .inl (Y 0, 3, .inl (upd (upd (upd (fun _ => 0) 0 (nI 400)) 1 (nI 300)) 2 (nI 250)))), (q81, .inl (Y 0, 5, .inl (fun _ => 0))), (a87, .inr (4, [.ref u91_0, .int 0, .long 0])), (u91_0, .inl (Y 1, 60, .inl (fun _ => 0))), (a98, .inr (1, [.ref u102_0, .int 0, .ref u102_1, .int 0, .ref u102_2, .ref u102_3])), (u102_0, .inl (Y 4, 4, .inr (.inr (.inr (.inr (fun _ => none)))))), (u102_1, .inl (Y 0, 5, .inl (fun _ => 0))), (u102_2, .inl (Y 0, 5, .inl (fun _ => 0))), (u102_3, .inl (Y 0, 5, .inl (fun _ => 0)))]) X ly_X6 tyX6 tyX6_ok nmX6 0 rfl rfl 8 (by decide) f_X6_48 rfl hin rfl rfl rfl rfl (Nat.le_of_ble_eq_true rfl) rfl dX6_init_105 ?_
  refine j_aload_n X dX6_init_108 rfl 0 rfl ?_
  refine j_newO (ci := 3) (fs := [.null]) X hR ly_X3 tyX3 tyX3_ok c_X6_52 n_X3 in_X3 rfl dX3_ok (by decide) (by decide) dX6_init_109 (fun a109 => ?_)
  refine j_eqw (w2 := [(h, .inr (6, [.ref q7, .ref q16, .ref q24, .ref q45, .int (nI 20), .int (nI 0), .ref q81, .ref a87, .ref a98, .null, .null, .null])), (q7, .inl (Y 2, 24, .inr (.inr (.inr (.inr (fun _ => none)))))), (q16, .inl (Y 3, 8, .inr (.inr (.inr (.inr (fun _ => none)))))), (q24, .inl (Y 0, 3, .inl (upd (upd (upd (fun _ => 0) 0 (nI 4)) 1 (nI 6)) 2 (nI 10)))), (q45, .inl (Y 0, 3, .inl (upd (upd (upd (fun _ => 0) 0 (nI 400)) 1 (nI 300)) 2 (nI 250)))), (q81, .inl (Y 0, 5, .inl (fun _ => 0))), (a87, .inr (4, [.ref u91_0, .int 0, .long 0])), (u91_0, .inl (Y 1, 60, .inl (fun _ => 0))), (a98, .inr (1, [.ref u102_0, .int 0, .ref u102_1, .int 0, .ref u102_2, .ref u102_3])), (u102_0, .inl (Y 4, 4, .inr (.inr (.inr (.inr (fun _ => none)))))), (u102_1, .inl (Y 0, 5, .inl (fun _ => 0))), (u102_2, .inl (Y 0, 5, .inl (fun _ => 0))), (u102_3, .inl (Y 0, 5, .inl (fun _ => 0))), (a109, .inr (3, [.null]))]) rfl ?_
  refine j_dup X dX6_init_112 rfl ?_
  refine j_callIN (mc := 1) (ms := 3) (As := []) X hR (m_X3_init D Y _ a109 13 rfl) m_X6_54 (by decide) (by decide) rfl (Nat.le_of_ble_eq_true rfl) ⟨by decide, by decide⟩ dX6_init_113 ?_
  rintro _ u113_0 rfl
  refine j_eqw (w2 := [(h, .inr (6, [.ref q7, .ref q16, .ref q24, .ref q45, .int (nI 20), .int (nI 0), .ref q81, .ref a87, .ref a98, .null, .null, .null])), (q7, .inl (Y 2, 24, .inr (.inr (.inr (.inr (fun _ => none)))))), (q16, .inl (Y 3, 8, .inr (.inr (.inr (.inr (fun _ => none)))))), (q24, .inl (Y 0, 3, .inl (upd (upd (upd (fun _ => 0) 0 (nI 4)) 1 (nI 6)) 2 (nI 10)))), (q45, .inl (Y 0, 3, .inl (upd (upd (upd (fun _ => 0) 0 (nI 400)) 1 (nI 300)) 2 (nI 250)))), (q81, .inl (Y 0, 5, .inl (fun _ => 0))), (a87, .inr (4, [.ref u91_0, .int 0, .long 0])), (u91_0, .inl (Y 1, 60, .inl (fun _ => 0))), (a98, .inr (1, [.ref u102_0, .int 0, .ref u102_1, .int 0, .ref u102_2, .ref u102_3])), (u102_0, .inl (Y 4, 4, .inr (.inr (.inr (.inr (fun _ => none)))))), (u102_1, .inl (Y 0, 5, .inl (fun _ => 0))), (u102_2, .inl (Y 0, 5, .inl (fun _ => 0))), (u102_3, .inl (Y 0, 5, .inl (fun _ => 0))), (a109, .inr (3, [.ref u113_0])), (u113_0, .inl (Y 0, 3, .inl (fun _ => 0)))]) rfl ?_
  refine j_putF (w2 := [(h, .inr (6, [.ref q7, .ref q16, .ref q24, .ref q45, .int (nI 20), .int (nI 0), .ref q81, .ref a87, .ref a98, .ref a109, .null, .null])), (q7, .inl (Y 2, 24, .inr (.inr (.inr (.inr (fun _ => none)))))), (q16, .inl (Y 3, 8, .inr (.inr (.inr (.inr (fun _ => none)))))), (q24, .inl (Y 0, 3, .inl (upd (upd (upd (fun _ => 0) 0 (nI 4)) 1 (nI 6)) 2 (nI 10)))), (q45, .inl (Y 0, 3, .inl (upd (upd (upd (fun _ => 0) 0 (nI 400)) 1 (nI 300)) 2 (nI 250)))), (q81, .inl (Y 0, 5, .inl (fun _ => 0))), (a87, .inr (4, [.ref u91_0, .int 0, .long 0])), (u91_0, .inl (Y 1, 60, .inl (fun _ => 0))), (a98, .inr (1, [.ref u102_0, .int 0, .ref u102_1, .int 0, .ref u102_2, .ref u102_3])), (u102_0, .inl (Y 4, 4, .inr (.inr (.inr (.inr (fun _ => none)))))), (u102_1, .inl (Y 0, 5, .inl (fun _ => 0))), (u102_2, .inl (Y 0, 5, .inl (fun _ => 0))), (u102_3, .inl (Y 0, 5, .inl (fun _ => 0))), (a109, .inr (3, [.ref u113_0])), (u113_0, .inl (Y 0, 3, .inl (fun _ => 0)))]) X ly_X6 tyX6 tyX6_ok nmX6 0 rfl rfl 9 (by decide) f_X6_55 rfl hin rfl rfl rfl rfl (Nat.le_of_ble_eq_true rfl) rfl dX6_init_116 ?_
  refine j_aload_n X dX6_init_119 rfl 0 rfl ?_
  refine j_bipush (v := nI 24) X dX6_init_120 (by decide) ?_
  refine j_newI X hR (by decide) (by decide) (by decide) dX6_init_122 (fun q122 => ?_)
  refine j_eqw (w2 := [(h, .inr (6, [.ref q7, .ref q16, .ref q24, .ref q45, .int (nI 20), .int (nI 0), .ref q81, .ref a87, .ref a98, .ref a109, .null, .null])), (q7, .inl (Y 2, 24, .inr (.inr (.inr (.inr (fun _ => none)))))), (q16, .inl (Y 3, 8, .inr (.inr (.inr (.inr (fun _ => none)))))), (q24, .inl (Y 0, 3, .inl (upd (upd (upd (fun _ => 0) 0 (nI 4)) 1 (nI 6)) 2 (nI 10)))), (q45, .inl (Y 0, 3, .inl (upd (upd (upd (fun _ => 0) 0 (nI 400)) 1 (nI 300)) 2 (nI 250)))), (q81, .inl (Y 0, 5, .inl (fun _ => 0))), (a87, .inr (4, [.ref u91_0, .int 0, .long 0])), (u91_0, .inl (Y 1, 60, .inl (fun _ => 0))), (a98, .inr (1, [.ref u102_0, .int 0, .ref u102_1, .int 0, .ref u102_2, .ref u102_3])), (u102_0, .inl (Y 4, 4, .inr (.inr (.inr (.inr (fun _ => none)))))), (u102_1, .inl (Y 0, 5, .inl (fun _ => 0))), (u102_2, .inl (Y 0, 5, .inl (fun _ => 0))), (u102_3, .inl (Y 0, 5, .inl (fun _ => 0))), (a109, .inr (3, [.ref u113_0])), (u113_0, .inl (Y 0, 3, .inl (fun _ => 0))), (q122, .inl (Y 0, 24, .inl (fun _ => 0)))]) rfl ?_
  refine j_putF (w2 := [(h, .inr (6, [.ref q7, .ref q16, .ref q24, .ref q45, .int (nI 20), .int (nI 0), .ref q81, .ref a87, .ref a98, .ref a109, .ref q122, .null])), (q7, .inl (Y 2, 24, .inr (.inr (.inr (.inr (fun _ => none)))))), (q16, .inl (Y 3, 8, .inr (.inr (.inr (.inr (fun _ => none)))))), (q24, .inl (Y 0, 3, .inl (upd (upd (upd (fun _ => 0) 0 (nI 4)) 1 (nI 6)) 2 (nI 10)))), (q45, .inl (Y 0, 3, .inl (upd (upd (upd (fun _ => 0) 0 (nI 400)) 1 (nI 300)) 2 (nI 250)))), (q81, .inl (Y 0, 5, .inl (fun _ => 0))), (a87, .inr (4, [.ref u91_0, .int 0, .long 0])), (u91_0, .inl (Y 1, 60, .inl (fun _ => 0))), (a98, .inr (1, [.ref u102_0, .int 0, .ref u102_1, .int 0, .ref u102_2, .ref u102_3])), (u102_0, .inl (Y 4, 4, .inr (.inr (.inr (.inr (fun _ => none)))))), (u102_1, .inl (Y 0, 5, .inl (fun _ => 0))), (u102_2, .inl (Y 0, 5, .inl (fun _ => 0))), (u102_3, .inl (Y 0, 5, .inl (fun _ => 0))), (a109, .inr (3, [.ref u113_0])), (u113_0, .inl (Y 0, 3, .inl (fun _ => 0))), (q122, .inl (Y 0, 24, .inl (fun _ => 0)))]) X ly_X6 tyX6 tyX6_ok nmX6 0 rfl rfl 10 (by decide) f_X6_59 rfl hin rfl rfl rfl rfl (Nat.le_of_ble_eq_true rfl) rfl dX6_init_124 ?_
  refine j_aload_n X dX6_init_127 rfl 0 rfl ?_
  refine j_bipush (v := nI 50) X dX6_init_128 (by decide) ?_
  refine j_newI X hR (by decide) (by decide) (by decide) dX6_init_130 (fun q130 => ?_)
  refine j_eqw (w2 := [(h, .inr (6, [.ref q7, .ref q16, .ref q24, .ref q45, .int (nI 20), .int (nI 0), .ref q81, .ref a87, .ref a98, .ref a109, .ref q122, .null])), (q7, .inl (Y 2, 24, .inr (.inr (.inr (.inr (fun _ => none)))))), (q16, .inl (Y 3, 8, .inr (.inr (.inr (.inr (fun _ => none)))))), (q24, .inl (Y 0, 3, .inl (upd (upd (upd (fun _ => 0) 0 (nI 4)) 1 (nI 6)) 2 (nI 10)))), (q45, .inl (Y 0, 3, .inl (upd (upd (upd (fun _ => 0) 0 (nI 400)) 1 (nI 300)) 2 (nI 250)))), (q81, .inl (Y 0, 5, .inl (fun _ => 0))), (a87, .inr (4, [.ref u91_0, .int 0, .long 0])), (u91_0, .inl (Y 1, 60, .inl (fun _ => 0))), (a98, .inr (1, [.ref u102_0, .int 0, .ref u102_1, .int 0, .ref u102_2, .ref u102_3])), (u102_0, .inl (Y 4, 4, .inr (.inr (.inr (.inr (fun _ => none)))))), (u102_1, .inl (Y 0, 5, .inl (fun _ => 0))), (u102_2, .inl (Y 0, 5, .inl (fun _ => 0))), (u102_3, .inl (Y 0, 5, .inl (fun _ => 0))), (a109, .inr (3, [.ref u113_0])), (u113_0, .inl (Y 0, 3, .inl (fun _ => 0))), (q122, .inl (Y 0, 24, .inl (fun _ => 0))), (q130, .inl (Y 0, 50, .inl (fun _ => 0)))]) rfl ?_
  refine j_putF (w2 := [(h, .inr (6, [.ref q7, .ref q16, .ref q24, .ref q45, .int (nI 20), .int (nI 0), .ref q81, .ref a87, .ref a98, .ref a109, .ref q122, .ref q130])), (q7, .inl (Y 2, 24, .inr (.inr (.inr (.inr (fun _ => none)))))), (q16, .inl (Y 3, 8, .inr (.inr (.inr (.inr (fun _ => none)))))), (q24, .inl (Y 0, 3, .inl (upd (upd (upd (fun _ => 0) 0 (nI 4)) 1 (nI 6)) 2 (nI 10)))), (q45, .inl (Y 0, 3, .inl (upd (upd (upd (fun _ => 0) 0 (nI 400)) 1 (nI 300)) 2 (nI 250)))), (q81, .inl (Y 0, 5, .inl (fun _ => 0))), (a87, .inr (4, [.ref u91_0, .int 0, .long 0])), (u91_0, .inl (Y 1, 60, .inl (fun _ => 0))), (a98, .inr (1, [.ref u102_0, .int 0, .ref u102_1, .int 0, .ref u102_2, .ref u102_3])), (u102_0, .inl (Y 4, 4, .inr (.inr (.inr (.inr (fun _ => none)))))), (u102_1, .inl (Y 0, 5, .inl (fun _ => 0))), (u102_2, .inl (Y 0, 5, .inl (fun _ => 0))), (u102_3, .inl (Y 0, 5, .inl (fun _ => 0))), (a109, .inr (3, [.ref u113_0])), (u113_0, .inl (Y 0, 3, .inl (fun _ => 0))), (q122, .inl (Y 0, 24, .inl (fun _ => 0))), (q130, .inl (Y 0, 50, .inl (fun _ => 0)))]) X ly_X6 tyX6 tyX6_ok nmX6 0 rfl rfl 11 (by decide) f_X6_62 rfl hin rfl rfl rfl rfl (Nat.le_of_ble_eq_true rfl) rfl dX6_init_132 ?_
  refine j_perm (w2 := WC (adL [q24, q45, q81, u91_0, u102_1, u102_2, u102_3, u113_0, q122, q130, q7, q16, u102_0, a87, a98, a109, h]) Y (T0, e0)) [0, 1, 2, 9, 6, 8, 13, 3, 4, 5, 7, 10, 11, 12, 14, 15, 16] (by decide) rfl rfl ?_
  exact j_return X E (adL [q24, q45, q81, u91_0, u102_1, u102_2, u102_3, u113_0, q122, q130, q7, q16, u102_0, a87, a98, a109, h]) rfl ⟨rfl, rfl⟩ dX6_init_135
theorem S0_k {k i : Nat} (h : k ≠ 11) (h2 : k ≠ 12) (h3 : k ≠ 21) : S0M k i = 0 := by
  unfold S0M S00
  rw [uM_nk h2, uM_nk h2, uM_nk h2, uM_nk h, uM_nk h, uM_nk h, if_neg (fun q => h3 q.1)]
theorem BD_S0 : BD S0M := BD_u (BD_u (BD_u (BD_u (BD_u (BD_u BD_S00 (by omega)) (by omega)) (by omega)) (by omega)) (by omega)) (by omega)
theorem IV_S0 : IV S0M := by
  refine ⟨fun i _ => ?_, fun i _ => ?_, fun i _ => ?_, fun i _ => ?_, fun i _ => ?_, fun i hi => ?_, fun i hi => ?_, fun i _ => ?_, fun i _ => ?_, by decide, by decide, by decide⟩
  · rw [S0_k (by omega) (by omega) (by omega), S0_k (by omega) (by omega) (by omega)]; omega
  · rw [S0_k (by omega) (by omega) (by omega), S0_k (by omega) (by omega) (by omega)]; omega
  · rw [S0_k (by omega) (by omega) (by omega), S0_k (by omega) (by omega) (by omega)]; omega
  · rw [S0_k (by omega) (by omega) (by omega)]; omega
  · rw [S0_k (by omega) (by omega) (by omega)]; omega
  · rcases (show i = 0 ∨ i = 1 ∨ i = 2 by omega) with rfl | rfl | rfl <;> decide
  · rcases (show i = 0 ∨ i = 1 ∨ i = 2 by omega) with rfl | rfl | rfl <;> decide
  · rw [S0_k (by omega) (by omega) (by omega), S0_k (by omega) (by omega) (by omega), S0_k (by omega) (by omega) (by omega), S0_k (by omega) (by omega) (by omega)]; omega
  · rw [S0_k (by omega) (by omega) (by omega), S0_k (by omega) (by omega) (by omega), S0_k (by omega) (by omega) (by omega)]; omega
theorem RR_0 : RR S0M T0 e0 := by
  refine ⟨BD_S0, IV_S0, ⟨fun i hi => ?_, fun i hi => ?_, fun i hi => ?_, fun i hi => ?_, by decide, by decide, by decide, by decide⟩, ⟨fun i _ => Or.inr ⟨S0_k (by omega) (by omega) (by omega), rfl⟩, fun i j a _ _ h => by cases h⟩, ⟨fun i _ => Or.inr ⟨S0_k (by omega) (by omega) (by omega), rfl⟩, fun i j a _ _ h => by cases h⟩, ⟨fun i _ => Or.inr ⟨?_, rfl⟩, fun i j a _ _ h => by cases h⟩⟩
  · rcases (show i = 0 ∨ i = 1 ∨ i = 2 by omega) with rfl | rfl | rfl <;> decide
  · rcases (show i = 0 ∨ i = 1 ∨ i = 2 by omega) with rfl | rfl | rfl <;> decide
  · rw [S0_k (by omega) (by omega) (by omega)]; exact (show (0 : Int32) = nI 0 by decide)
  · rw [S0_k (by omega) (by omega) (by omega)]; exact (show (0 : Int32) = nI 0 by decide)
  · unfold suH
    rw [show S0M 21 2 = 0 by decide, decide_eq_false (Nat.not_lt_zero i)]
    rfl
