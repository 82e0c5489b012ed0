/-! the law: a world beside another -/
section
variable {D : va_G} {cl : List vw_C} {A : Nat → Prop} {w1 w2 : va_W} {H : Heap}
theorem gl {w1 w2 : va_W} {k : Nat} {q : Nat × va_E} (h : w1[k]? = some q) : (w1 ++ w2)[k]? = some q := (List.getElem?_append_left (List.getElem?_eq_some_iff.mp h).1).trans h
theorem gr {w1 w2 : va_W} {k : Nat} {q : Nat × va_E} (h : w2[k]? = some q) : (w1 ++ w2)[w1.length + k]? = some q := by
  rw [List.getElem?_append_right (Nat.le_add_right _ _), Nat.add_sub_cancel_left]
  exact h
theorem lP1 (h : va_P D cl (w1 ++ w2) H) : va_P D cl w1 H := fun k q hk => h k q (gl hk)
theorem lP2 (h : va_P D cl (w1 ++ w2) H) : va_P D cl w2 H := fun k q hk => h (w1.length + k) q (gr hk)
theorem lD1 (h : va_D A (w1 ++ w2)) : va_D A w1 := ⟨fun i j p q hi hj e => h.1 i j p q (gl hi) (gl hj) e, fun k q hk => h.2 k q (gl hk)⟩
theorem lD2 (h : va_D A (w1 ++ w2)) : va_D A w2 := ⟨fun i j p q hi hj e => by have := h.1 (w1.length + i) (w1.length + j) p q (gr hi) (gr hj) e; omega, fun k q hk => h.2 (w1.length + k) q (gr hk)⟩
theorem lDx (h : va_D A (w1 ++ w2)) (i j : Nat) (p q : Nat × va_E) (hi : w1[i]? = some p) (hj : w2[j]? = some q) : p.1 ≠ q.1 := fun e => by
  have h1 := h.1 i (w1.length + j) p q (gl hi) (gr hj) e
  have h2 := (List.getElem?_eq_some_iff.mp hi).1
  omega
end
section
variable {K : Ctx} {cc : ByteArray} {nL : Nat} {own : String} {D : va_G} {Y : Nat → ClassId} {cells slots : Nat} {lv lv' : List (Nat × Value)} {pc tgt : Nat} {off : Int} {st : List Value} {w1 w2 wc wr : va_W}
/-- behind a call, the other world as it was -/
theorem jl_back {T : Type} {post : Option Value → T → Prop} {Wf : T → va_W} {mc ms : Nat} {st0 : List Value} {av : Array Value} {H : Heap} {locs : List Loc} {ls : Array Slot} (X : CX K cc nL own D Y) (hP : va_P D vwCl (wc ++ wr) H) (hD : va_D (kA K) (wc ++ wr)) (hS : va_S (kA K) (ks K).heap H locs) (hl : lv_has ls (kc K).maxLocals lv)
    (hr : va_Run (kp K) (kl K) (ke K) (kR K) (ks K) (km K) (ka K) (kb K) (kh K) (kc K) H locs cells slots mc ms (F0 (km K) pc ls st0) st (QG post Wf D (va_A wc H.size) av) (va_A wc H.size))
    (k : ∀ (v : Option Value) (u : T), post v u → JJ K D (cells + mc) (slots + ms) (Wf u ++ wr) lv (pc + 3) (v.toList ++ st)) : W (kp K) (kl K) (ke K) (kR K) (ks K) (km K) (ka K) (kb K) (kh K) (kc K) H locs cells slots (kQ K) (F0 (km K) pc ls st0) := by
  intro T0 hT X0
  have hsub := va_A_sub (lD1 hD) hS X.2.2.1
  obtain ⟨v, st₀, t, T', L, h0, X', hL, e1, e2, ⟨⟨v', u, hv, hp, hP1, hD1⟩, hz, hk⟩, stp⟩ := hr T0 hT X0
  cases hv
  rw [h0] at hz hk
  have hS1 : va_S (kA K) (ks K).heap T'.heap (locs ++ L) := ⟨Nat.le_trans hS.1 (by rw [e1]; exact hz), fun q h1 h2 => by rw [e1, hk q (Nat.lt_of_lt_of_le h1 hS.1) (fun z => h2 (hsub q z))]; exact hS.2.1 q h1 h2, fun q hq => by
      rcases List.mem_append.mp hq with h | h
      · exact hS.2.2 q h
      · exact hsub _ (hL q h)⟩
  have hlt : ∀ (j : Nat) (q : Nat × va_E), wr[j]? = some q → q.1 < H.size := fun j q hj => (lP2 hP j q hj).lt
  have hno : ∀ (j : Nat) (q : Nat × va_E), wr[j]? = some q → ¬ va_A wc H.size q.1 := by
    intro j q hj hq
    rcases hq with ⟨i, e, hi⟩ | hge
    · exact lDx hD i j (q.1, e) q hi hj rfl
    · have := hlt j q hj
      omega
  have hPr : va_P D vwCl wr T'.heap := (lP2 hP).kept (fun j q hj => by rw [e1]; exact hk q.1 (hlt j q hj) (hno j q hj))
  have hPn : va_P D vwCl (Wf u) T'.heap := by rw [e1]; exact hP1
  have hDn : va_D (kA K) (Wf u ++ wr) := (hD1.weaken (fun k q _ h => hsub q.1 h)).app (lD2 hD) (fun i j p q hi hj e => hno j q hj (e ▸ hD1.2 i p hi))
  obtain ⟨t2, a1, b1⟩ := k _ u hp T'.heap (locs ++ L) ls (hPn.app hPr) hDn hS1 hl T' rfl X'
  exact ⟨t2, stp t2 a1, b1⟩
/-- what a method's room offers: calls of a level below k, cells and slots -/
def RO (K : Ctx) (k mc ms : Nat) : Prop := k ≤ (kR K).frames ∧ 64 * k ≤ (kR K).locals ∧ (kR K).cells = mc ∧ (kR K).slots = ms
theorem RO.rm {k mc ms : Nat} (h : kR K = Rm k mc ms) : RO K k mc ms := by
  unfold RO
  rw [h]
  exact ⟨Nat.le_refl _, Nat.le_refl _, rfl, rfl⟩
theorem RO.ok {k mc ms j mc' ms' n : Nat} (h : RO K k mc ms) (hj : j < k) (hn : n ≤ 40) : (Rm j mc' ms').frames + 1 ≤ (kR K).frames ∧ 8 + (n + 11) + (Rm j mc' ms').locals ≤ (kR K).locals := by
  obtain ⟨h1, h2, h3, h4⟩ := h
  refine ⟨?_, ?_⟩
  · show j + 1 ≤ _
    omega
  · show 8 + (n + 11) + 64 * j ≤ _
    omega
theorem RO.fit {k mc ms a b : Nat} (h : RO K k mc ms) (hf : a ≤ mc ∧ b ≤ ms) : a ≤ (kR K).cells ∧ b ≤ (kR K).slots := by
  rw [h.2.2.1, h.2.2.2]
  exact hf
theorem jl_callV (X : CX K cc nL own D Y) {T : Type} {z : MI} {j k mc0 ms0 mc ms idx n b ci q0 : Nat} {As : List Value} {fs : List Value} {cq : vw_C} {Wf : T → va_W} {post : Option Value → T → Prop} (hR : RO K k mc0 ms0) (hM : MT z j mc ms D Y (.ref b :: As) wc Wf post) (cw : CwV own idx n z) (hj : j < k) (hmL : z.2.2.1 ≤ 40)
    (hr : wc[q0]? = some (b, .inr (ci, fs))) (hcq : vwCl[ci]? = some cq) (hcl : cq.1 = z.1.cls) (hn : As.length = n) (hst : (st.map fun v => v.category).sum ≤ 8) (hf : cells + mc ≤ mc0 ∧ slots + ms ≤ ms0) (hdg : decode cc pc = .ok (.invokevirtual idx, 3))
    (kk : ∀ (v : Option Value) (u : T), post v u → JJ K D (cells + mc) (slots + ms) (Wf u ++ wr) lv (pc + 3) (v.toList ++ st)) : JJ K D cells slots (wc ++ wr) lv pc (As.reverse ++ .ref b :: st) := by
  intro H locs ls hP hD hS hl
  obtain ⟨c1, c2, c3, c4, c5, c6⟩ := cw
  have hts := X.1.2.2.2.2
  have hPc := lP1 hP
  refine jl_back X hP hD hS hl (va_runV X.1 (hM (kl K) H.size) ⟨callB_of n hts (wg_good c5) rfl rfl rfl (hts _ c4) (hts _ c1) c6 (hR.ok hj hmL), hts _ c2, hts _ c3⟩ ⟨fb_PG, ?_, pg_at X hPc (lD1 hD)⟩ rfl hn (hl.1.trans X.1.2.2.1) rfl (lv_room hst) hdg (hR.fit hf)) kk
  have := va_recv X.2.1.1 hPc hcq hr
  rw [hcl] at this
  exact this
theorem jl_callI (X : CX K cc nL own D Y) {T : Type} {z : MI} {j k mc0 ms0 mc ms idx n b : Nat} {As : List Value} {Wf : T → va_W} {post : Option Value → T → Prop} (hR : RO K k mc0 ms0) (hM : MT z j mc ms D Y (.ref b :: As) wc Wf post) (cw : CwI own idx n z) (hj : j < k) (hmL : z.2.2.1 ≤ 40)
    (hn : As.length = n) (hst : (st.map fun v => v.category).sum ≤ 8) (hf : cells + mc ≤ mc0 ∧ slots + ms ≤ ms0) (hdg : decode cc pc = .ok (.invokespecial idx, 3))
    (kk : ∀ (v : Option Value) (u : T), post v u → JJ K D (cells + mc) (slots + ms) (Wf u ++ wr) lv (pc + 3) (v.toList ++ st)) : JJ K D cells slots (wc ++ wr) lv pc (As.reverse ++ .ref b :: st) := by
  intro H locs ls hP hD hS hl
  obtain ⟨c1, c2, c3, c4, c5, c6, c7⟩ := cw
  have hts := X.1.2.2.2.2
  exact jl_back X hP hD hS hl (va_runI X.1 (hM (kl K) H.size) ⟨callB_of n hts (wg_good c4) (by unfold wg wz; rw [c7]) rfl rfl (hts _ c3) (hts _ c1) c5 (hR.ok hj hmL), c6, hts _ c2⟩ ⟨fb_PG, pg_at X (lP1 hP) (lD1 hD)⟩ rfl hn (hl.1.trans X.1.2.2.1) rfl (lv_room hst) hdg (hR.fit hf)) kk
theorem jl_callS (X : CX K cc nL own D Y) {ws : va_W} {T : Type} {z : MI} {j k mc0 ms0 mc ms idx n : Nat} {As : List Value} {Wf : T → va_W} {post : Option Value → T → Prop} (hR : RO K k mc0 ms0) (hM : MT z j mc ms D Y As ws Wf post) (cw : CwS own idx n z) (hj : j < k) (hmL : z.2.2.1 ≤ 40)
    (hn : As.length = n) (hst : (st.map fun v => v.category).sum ≤ 8) (hf : cells + mc ≤ mc0 ∧ slots + ms ≤ ms0) (hdg : decode cc pc = .ok (.invokestatic idx, 3))
    (kk : ∀ (v : Option Value) (u : T), post v u → JJ K D (cells + mc) (slots + ms) (Wf u) lv (pc + 3) (v.toList ++ st)) : JJ K D cells slots ws lv pc (As.reverse ++ st) := by
  intro H locs ls hP hD hS hl
  obtain ⟨c1, c2, c3, c4, c5⟩ := cw
  have hts := X.1.2.2.2.2
  exact j_back X hD hS hl (va_runS X.1 (hM (kl K) H.size) ⟨callB_of n hts (wg_good c4) rfl rfl rfl (hts _ c3) (hts _ c1) c5 (hR.ok hj hmL), hts _ c2⟩ ⟨fb_PG, pg_at X hP hD⟩ rfl hn (hl.1.trans X.1.2.2.1) rfl (lv_room hst) hdg (hR.fit hf)) kk
theorem jl_newO (X : CX K cc nL own D Y) {C : String} {F : u_T} {N ci idx k mc0 ms0 : Nat} {fs : List Value} {ws : va_W} (hR : RO K k mc0 ms0) (hly : ∀ w ∈ u_ws C F N, w ∈ lw_g) (ty0 : Nat → FieldType) (hty : ∀ k, k < N → parseFieldDescriptor (F k).2.2.1 = some (ty0 k)) (hcl : Cond.classLink own idx C ∈ lw_g) (hinst : Cond.instantiable C N ∈ lw_g) (hini : Cond.initialized C ∈ lw_g) (hc : vwCl[ci]? = some (C, F, N)) (hfs : ∀ j, j < N → defaultValue (ty0 j) = vp_V fs j) (hcells : cells + 1 ≤ mc0) (hslots : slots + N ≤ ms0) (hdg : decode cc pc = .ok (.new idx, 3)) (kk : ∀ a : Nat, JJ K D (cells + 1) (slots + N) (ws ++ [(a, .inr (ci, fs))]) lv (pc + 3) (.ref a :: st)) : JJ K D cells slots ws lv pc st := by
  intro H locs ls hP hD hS hlv
  have hts := X.1.2.2.2.2
  have hf := hR.fit ⟨hcells, hslots⟩
  exact va_new X.1.1 X.1.2.1 (Ts := lw_g) hts hly ty0 hty X.1.2.2.2.1 (hts _ hcl) (hts _ hinst) (hts _ hini) X.2.1.1 hP hD hS X.2.2.1 hc hfs hf.1 hf.2 hdg (fun q H1 hP1 hD1 hS1 => kk q H1 locs ls hP1 hD1 hS1 hlv)
theorem jl_sld (X : CX K cc nL own D Y) {b L i : Nat} {xs : Nat → Int32} {ws : va_W} (hX : va_X b L xs (ks K) (ks K).heap) (hbl : b < (ks K).heap.size) (hbA : ¬ kA K b) (hi : i < L) (hL : L ≤ 260) (hdg : decode cc pc = .ok (.iaload, 1)) (k : JJ K D cells slots ws lv (pc + 1) (.int (xs i) :: st)) : JJ K D cells slots ws lv pc (.int (nI i) :: .ref b :: st) := by
  intro H locs ls hP hD hS hl
  refine va_sld X.1.1 X.1.2.1 hX hbl hbA hS (vp_in_nI hi (by omega)) hdg ?_
  rw [nI_clamp (by omega)]
  exact k H locs ls hP hD hS hl
theorem jl_slen (X : CX K cc nL own D Y) {b L : Nat} {xs : Nat → Int32} {ws : va_W} (hX : va_X b L xs (ks K) (ks K).heap) (hbl : b < (ks K).heap.size) (hbA : ¬ kA K b) (hdg : decode cc pc = .ok (.arraylength, 1)) (k : JJ K D cells slots ws lv (pc + 1) (.int (nI L) :: st)) : JJ K D cells slots ws lv pc (.ref b :: st) := fun H locs ls hP hD hS hl => va_slen X.1.1 X.1.2.1 hX hbl hbA hS hdg (k H locs ls hP hD hS hl)
theorem j_dstore (X : CX K cc nL own D Y) {i : Nat} {x : UInt64} {ws : va_W} (lv' : List (Nat × Value)) (hdg : decode cc pc = .ok (.dstore i, 2)) (hn : i + 1 < nL) (hs : (i, Value.double x) :: lv.filter (fun q => !(q.1 == i) && (!(q.1 == i + 1) && !(q.1 + 1 == i && q.2.category == 2))) = lv') (k : JJ K D cells slots ws lv' (pc + 2) st) : JJ K D cells slots ws lv pc (.double x :: st) := fun H locs ls hP hD hS hl => lv_dstore X.1.1 X.1.2.1 hdg hl (by rw [X.1.2.2.1]; exact hn) hs (fun ls2 hl2 => k H locs ls2 hP hD hS hl2)
theorem j_dload (X : CX K cc nL own D Y) {i : Nat} {x : UInt64} {ws : va_W} (hdg : decode cc pc = .ok (.dload i, 2)) (q : Nat) (hq : lv[q]? = some (i, .double x)) (k : JJ K D cells slots ws lv (pc + 2) (.double x :: st)) : JJ K D cells slots ws lv pc st := fun H locs ls hP hD hS hl => lv_dload X.1.1 X.1.2.1 hdg (lv_at hl q hq) (k H locs ls hP hD hS hl)
theorem j_dcmp (X : CX K cc nL own D Y) {x y : UInt64} {op : CmpOp} {ws : va_W} (hdg : decode cc pc = .ok (.dcmp op, 1)) (k : JJ K D cells slots ws lv (pc + 1) (.int (Op.cmpValue (FP.dcmp x y) op) :: st)) : JJ K D cells slots ws lv pc (.double y :: .double x :: st) := fun H locs ls hP hD hS hl => lv_dcmp X.1.1 X.1.2.1 hdg (k H locs ls hP hD hS hl)
/-! arrays of ints: in any world; the law's own rows -/
def AR (ws : va_W) (Y : Nat → ClassId) (a L : Nat) (f : Nat → Nat) : Prop := (∃ k : Nat, ws[k]? = some (a, .inl (Y 0, L, .inl (fun j => nI (f j))))) ∧ (∀ j, f j < 16777216) ∧ L < 100
theorem AR.r {wl wr : va_W} {a L : Nat} {f : Nat → Nat} (h : AR wr Y a L f) : AR (wl ++ wr) Y a L f := ⟨h.1.elim fun _ q => ⟨_, gr q⟩, h.2⟩
theorem AR.l {wl wr : va_W} {a L : Nat} {f : Nat → Nat} (h : AR wl Y a L f) : AR (wl ++ wr) Y a L f := ⟨h.1.elim fun _ q => ⟨_, gl q⟩, h.2⟩
theorem jl_ald (X : CX K cc nL own D Y) {ws : va_W} {a L i : Nat} {f : Nat → Nat} (hA : AR ws Y a L f) (hi : i < L) (hdg : decode cc pc = .ok (.iaload, 1)) (kk : ∀ v : Nat, v = f i → v < 16777216 → JJ K D cells slots ws lv (pc + 1) (.int (nI v) :: st)) : JJ K D cells slots ws lv pc (.int (nI i) :: .ref a :: st) := by
  obtain ⟨⟨k, hk⟩, hb, hL⟩ := hA
  intro H locs ls hP hD hS hl
  refine va_iald X.1.1 X.1.2.1 X.2.1.1 hP k 0 hk rfl (vp_in_nI hi (by omega)) hdg ?_
  rw [nI_clamp (by omega)]
  exact kk _ rfl (hb i) H locs ls hP hD hS hl
def lenL (k : Nat) : Nat := ([16, 20, 50, 30, 16, 6, 5, 5, 5, 5] : List Nat).getD k 0
def LA (aq : Nat → Nat) (Y : Nat → ClassId) (n : Nat) (Q : MS) : va_W := (List.range n).map (fun k => (aq k, .inl (Y 0, lenL k, .inl (fun j => nI (Q k j)))))
def zQ (Q : MS) (k : Nat) : MS := fun a j => if a = k then 0 else Q a j
theorem zQ_ne {Q : MS} {k a : Nat} (h : a ≠ k) (j : Nat) : zQ Q k a j = Q a j := if_neg h
theorem zQ_eq {Q : MS} {k : Nat} (j : Nat) : zQ Q k k j = 0 := if_pos rfl
theorem BD_z {Q : MS} {k : Nat} (h : BD Q) : BD (zQ Q k) := by
  intro a j
  unfold zQ
  split
  · omega
  · exact h a j
theorem lenL_lt {k : Nat} (h : k < 10) : lenL k < 100 := by
  have : ∀ k, k < 10 → lenL k < 100 := by decide
  exact this k h
theorem LA_a {aq : Nat → Nat} {n k : Nat} {Q : MS} (hk : k < n) : (LA aq Y n Q)[k]? = some (aq k, .inl (Y 0, lenL k, .inl (fun j => nI (Q k j)))) := by
  show ((List.range n).map _)[k]? = _
  rw [List.getElem?_map, List.getElem?_range hk]
  rfl
theorem LA.ar {aq : Nat → Nat} {n k : Nat} {Q : MS} (hB : BD Q) (hk : k < n) (hn : n ≤ 10) : AR (LA aq Y n Q) Y (aq k) (lenL k) (Q k) := ⟨⟨k, LA_a hk⟩, hB k, lenL_lt (by omega)⟩
theorem LA.arw {wl : va_W} {aq : Nat → Nat} {n k : Nat} {Q : MS} (hB : BD Q) (hk : k < n) (hn : n ≤ 10) : AR (wl ++ LA aq Y n Q) Y (aq k) (lenL k) (Q k) := (LA.ar hB hk hn).r
theorem LA_set {aq : Nat → Nat} {n k i v : Nat} {Q : MS} : (LA aq Y n Q).set k (aq k, .inl (Y 0, lenL k, .inl (upd (fun j => nI (Q k j)) i (nI v)))) = LA aq Y n (uM Q k i v) := by
  apply List.ext_getElem?
  intro j
  show (((List.range n).map _).set k _)[j]? = ((List.range n).map _)[j]?
  by_cases hj : j < n
  · by_cases hjk : j = k
    · subst hjk
      rw [List.getElem?_set_self (by simpa using hj), List.getElem?_map, List.getElem?_range hj]
      refine congrArg (fun f => some (aq j, (Sum.inl (Y 0, lenL j, Sum.inl f) : va_E))) (funext fun q => ?_)
      by_cases hq : q = i
      · subst hq
        simp [upd, uM]
      · simp [upd, uM, hq]
    · rw [List.getElem?_set_ne (Ne.symm hjk), List.getElem?_map, List.getElem?_map, List.getElem?_range hj]
      refine congrArg (fun f => some (aq j, (Sum.inl (Y 0, lenL j, Sum.inl f) : va_E))) (funext fun q => ?_)
      rw [uM_nk hjk]
  · rw [List.getElem?_eq_none (by simp; omega), List.getElem?_eq_none (by simp; omega)]
theorem LA_push {aq : Nat → Nat} {n q L : Nat} {Q : MS} (hL : lenL n = L) : LA aq Y n Q ++ [(q, .inl (Y 0, L, .inl (fun _ => 0)))] = LA (va_up aq n q) Y (n + 1) (zQ Q n) := by
  show _ = (List.range (n + 1)).map _
  rw [List.range_succ, List.map_append]
  congr 1
  · apply List.map_congr_left
    intro k hk
    have := List.mem_range.mp hk
    rw [va_up_ne _ _ (by omega)]
    refine congrArg (fun f => (aq k, (Sum.inl (Y 0, lenL k, Sum.inl f) : va_E))) (funext fun j => ?_)
    rw [zQ_ne (by omega)]
  · show [(q, (Sum.inl (Y 0, L, Sum.inl (fun _ => 0)) : va_E))] = [(va_up aq n q n, (Sum.inl (Y 0, lenL n, Sum.inl (fun j => nI (zQ Q n n j))) : va_E))]
    rw [va_up_self, hL]
    refine congrArg (fun f => [(q, (Sum.inl (Y 0, L, Sum.inl f) : va_E))]) (funext fun j => ?_)
    rw [zQ_eq]
    rfl
theorem set_gr {w1 w2 : va_W} {k : Nat} {x : Nat × va_E} : (w1 ++ w2).set (w1.length + k) x = w1 ++ w2.set k x := by
  rw [List.set_append_right _ _ (Nat.le_add_right _ _), Nat.add_sub_cancel_left]
theorem jl_ast (X : CX K cc nL own D Y) {wl : va_W} {aq : Nat → Nat} {n k i v L : Nat} {Q : MS} (hB : BD Q) (hk : k < n) (hn : n ≤ 10) (hL : lenL k = L) (hi : i < L) (hv : v < 16777216) (hdg : decode cc pc = .ok (.iastore, 1)) (kk : ∀ Q' : MS, Q' = uM Q k i v → BD Q' → JJ K D cells slots (wl ++ LA aq Y n Q') lv (pc + 1) st) : JJ K D cells slots (wl ++ LA aq Y n Q) lv pc (.int (nI v) :: .int (nI i) :: .ref (aq k) :: st) := by
  have hl := lenL_lt (k := k) (by omega)
  subst hL
  intro H locs ls hP hD hS hlv
  refine va_iast X.1.1 X.1.2.1 X.2.1.1 hP hD hS (wl.length + k) 0 (gr (LA_a hk)) rfl (vp_in_nI hi (by omega)) hdg (fun H1 locs1 hP1 hD1 hS1 => ?_)
  rw [nI_clamp (by omega), set_gr, LA_set] at hP1 hD1
  exact kk _ rfl (BD_u hB hv) H1 locs1 ls hP1 hD1 hS1 hlv
theorem jl_newI (X : CX K cc nL own D Y) {wl : va_W} {aq : Nat → Nat} {n k mc0 ms0 N : Nat} {Q : MS} (hR : RO K k mc0 ms0) (hL : lenL n = N) (hN : N < 100000) (hc : cells + 1 ≤ mc0) (hs : slots + N ≤ ms0) (hdg : decode cc pc = .ok (.newarray .int, 2)) (kk : ∀ q : Nat, JJ K D (cells + 1) (slots + N) (wl ++ LA (va_up aq n q) Y (n + 1) (zQ Q n)) lv (pc + 2) (.ref q :: st)) : JJ K D cells slots (wl ++ LA aq Y n Q) lv pc (.int (nI N) :: st) := by
  intro H locs ls hP hD hS hlv
  have hf := hR.fit ⟨hc, hs⟩
  have hts := X.1.2.2.2.2
  have hk0 := (X.2.1.1.2 0 _ rfl).2
  refine va_newa (atype := .int) (a0 := (N, .inl (fun _ => 0))) (N' := N) X.1.1 X.1.2.1 (hts _ ac_int) rfl X.2.1.1 hP hD hS X.2.2.1 (fun _ => rfl) (nI_pos (by omega)) (nI_clamp (by omega)) (by show N * 4 ≤ 536870912; omega) hf.1 hf.2 hdg (fun q cA H1 hK1 hP1 hD1 hS1 => ?_)
  have hk1 := (hK1.2 (tyL Y).length (cA, .int) (by rw [List.getElem?_append_right (Nat.le_refl _)]; simp; rfl)).2
  have he : Y 0 = cA := by
    have h1 : (ks K).vm.findClass ("[" ++ (FieldType.int).toString) = some (Y 0) := hk0
    have h2 : (ks K).vm.findClass ("[" ++ (FieldType.int).toString) = some cA := hk1
    exact Option.some.inj (h1.symm.trans h2)
  rw [← he, List.append_assoc, LA_push hL] at hP1 hD1
  exact kk q H1 locs ls hP1 hD1 hS1 hlv
/-! contracts of the law's methods that change nothing -/
def MR (Y : Nat → ClassId) (ws : va_W) (z : MI) (k : Nat) (av : List Value) (φ : Option Value → Prop) : Prop := ∀ D : va_G, MT z k 0 0 D Y av ws (fun w : va_W => w) (fun v w => φ v ∧ ws = w)
def rN (F B : Nat) : Option Value → Prop := fun w => ∃ n : Nat, n = F ∧ n ≤ B ∧ w = some (.int (nI n))
def rB (b : Bool) : Option Value → Prop := fun w => w = some (.int (bI b))
def rZ (x : Int32) : Option Value → Prop := fun w => w = some (.int x)
theorem jr_callN1 (X : CX K cc nL own D Y) {ws : va_W} {z : MI} {j k mc0 ms0 idx : Nat} {a0 : Value} {F B : Nat} (hR : RO K k mc0 ms0) (hM : MR Y ws z j [a0] (rN F B)) (cw : CwS own idx 1 z) (hjk : j < k) (hmL : z.2.2.1 ≤ 40) (hst : (st.map fun v => v.category).sum ≤ 8) (hf : cells ≤ mc0 ∧ slots ≤ ms0) (hdg : decode cc pc = .ok (.invokestatic idx, 3)) (kk : ∀ v : Nat, v = F → v ≤ B → JJ K D cells slots ws lv (pc + 3) (.int (nI v) :: st)) : JJ K D cells slots ws lv pc (a0 :: st) := by
  refine jl_callS (mc := 0) (ms := 0) (As := [a0]) X hR (hM D) cw hjk hmL rfl hst hf hdg (fun v u hp => ?_)
  obtain ⟨⟨v, h1, h2, rfl⟩, rfl⟩ := hp
  exact kk v h1 h2
theorem jr_callB1 (X : CX K cc nL own D Y) {ws : va_W} {z : MI} {j k mc0 ms0 idx : Nat} {a0 : Value} {x : Bool} (hR : RO K k mc0 ms0) (hM : MR Y ws z j [a0] (rB x)) (cw : CwS own idx 1 z) (hjk : j < k) (hmL : z.2.2.1 ≤ 40) (hst : (st.map fun v => v.category).sum ≤ 8) (hf : cells ≤ mc0 ∧ slots ≤ ms0) (hdg : decode cc pc = .ok (.invokestatic idx, 3)) (kk : JJ K D cells slots ws lv (pc + 3) (.int (bI x) :: st)) : JJ K D cells slots ws lv pc (a0 :: st) := by
  refine jl_callS (mc := 0) (ms := 0) (As := [a0]) X hR (hM D) cw hjk hmL rfl hst hf hdg (fun v u hp => ?_)
  obtain ⟨rfl, rfl⟩ := hp
  exact kk
theorem jr_callZ1 (X : CX K cc nL own D Y) {ws : va_W} {z : MI} {j k mc0 ms0 idx : Nat} {a0 : Value} {x : Int32} (hR : RO K k mc0 ms0) (hM : MR Y ws z j [a0] (rZ x)) (cw : CwS own idx 1 z) (hjk : j < k) (hmL : z.2.2.1 ≤ 40) (hst : (st.map fun v => v.category).sum ≤ 8) (hf : cells ≤ mc0 ∧ slots ≤ ms0) (hdg : decode cc pc = .ok (.invokestatic idx, 3)) (kk : JJ K D cells slots ws lv (pc + 3) (.int x :: st)) : JJ K D cells slots ws lv pc (a0 :: st) := by
  refine jl_callS (mc := 0) (ms := 0) (As := [a0]) X hR (hM D) cw hjk hmL rfl hst hf hdg (fun v u hp => ?_)
  obtain ⟨rfl, rfl⟩ := hp
  exact kk
theorem jr_callN2 (X : CX K cc nL own D Y) {ws : va_W} {z : MI} {j k mc0 ms0 idx : Nat} {a0 a1 : Value} {F B : Nat} (hR : RO K k mc0 ms0) (hM : MR Y ws z j [a0, a1] (rN F B)) (cw : CwS own idx 2 z) (hjk : j < k) (hmL : z.2.2.1 ≤ 40) (hst : (st.map fun v => v.category).sum ≤ 8) (hf : cells ≤ mc0 ∧ slots ≤ ms0) (hdg : decode cc pc = .ok (.invokestatic idx, 3)) (kk : ∀ v : Nat, v = F → v ≤ B → JJ K D cells slots ws lv (pc + 3) (.int (nI v) :: st)) : JJ K D cells slots ws lv pc (a1 :: a0 :: st) := by
  refine jl_callS (mc := 0) (ms := 0) (As := [a0, a1]) X hR (hM D) cw hjk hmL rfl hst hf hdg (fun v u hp => ?_)
  obtain ⟨⟨v, h1, h2, rfl⟩, rfl⟩ := hp
  exact kk v h1 h2
theorem jr_callB2 (X : CX K cc nL own D Y) {ws : va_W} {z : MI} {j k mc0 ms0 idx : Nat} {a0 a1 : Value} {x : Bool} (hR : RO K k mc0 ms0) (hM : MR Y ws z j [a0, a1] (rB x)) (cw : CwS own idx 2 z) (hjk : j < k) (hmL : z.2.2.1 ≤ 40) (hst : (st.map fun v => v.category).sum ≤ 8) (hf : cells ≤ mc0 ∧ slots ≤ ms0) (hdg : decode cc pc = .ok (.invokestatic idx, 3)) (kk : JJ K D cells slots ws lv (pc + 3) (.int (bI x) :: st)) : JJ K D cells slots ws lv pc (a1 :: a0 :: st) := by
  refine jl_callS (mc := 0) (ms := 0) (As := [a0, a1]) X hR (hM D) cw hjk hmL rfl hst hf hdg (fun v u hp => ?_)
  obtain ⟨rfl, rfl⟩ := hp
  exact kk
theorem jr_callZ2 (X : CX K cc nL own D Y) {ws : va_W} {z : MI} {j k mc0 ms0 idx : Nat} {a0 a1 : Value} {x : Int32} (hR : RO K k mc0 ms0) (hM : MR Y ws z j [a0, a1] (rZ x)) (cw : CwS own idx 2 z) (hjk : j < k) (hmL : z.2.2.1 ≤ 40) (hst : (st.map fun v => v.category).sum ≤ 8) (hf : cells ≤ mc0 ∧ slots ≤ ms0) (hdg : decode cc pc = .ok (.invokestatic idx, 3)) (kk : JJ K D cells slots ws lv (pc + 3) (.int x :: st)) : JJ K D cells slots ws lv pc (a1 :: a0 :: st) := by
  refine jl_callS (mc := 0) (ms := 0) (As := [a0, a1]) X hR (hM D) cw hjk hmL rfl hst hf hdg (fun v u hp => ?_)
  obtain ⟨rfl, rfl⟩ := hp
  exact kk
theorem jr_callN3 (X : CX K cc nL own D Y) {ws : va_W} {z : MI} {j k mc0 ms0 idx : Nat} {a0 a1 a2 : Value} {F B : Nat} (hR : RO K k mc0 ms0) (hM : MR Y ws z j [a0, a1, a2] (rN F B)) (cw : CwS own idx 3 z) (hjk : j < k) (hmL : z.2.2.1 ≤ 40) (hst : (st.map fun v => v.category).sum ≤ 8) (hf : cells ≤ mc0 ∧ slots ≤ ms0) (hdg : decode cc pc = .ok (.invokestatic idx, 3)) (kk : ∀ v : Nat, v = F → v ≤ B → JJ K D cells slots ws lv (pc + 3) (.int (nI v) :: st)) : JJ K D cells slots ws lv pc (a2 :: a1 :: a0 :: st) := by
  refine jl_callS (mc := 0) (ms := 0) (As := [a0, a1, a2]) X hR (hM D) cw hjk hmL rfl hst hf hdg (fun v u hp => ?_)
  obtain ⟨⟨v, h1, h2, rfl⟩, rfl⟩ := hp
  exact kk v h1 h2
theorem jr_callB3 (X : CX K cc nL own D Y) {ws : va_W} {z : MI} {j k mc0 ms0 idx : Nat} {a0 a1 a2 : Value} {x : Bool} (hR : RO K k mc0 ms0) (hM : MR Y ws z j [a0, a1, a2] (rB x)) (cw : CwS own idx 3 z) (hjk : j < k) (hmL : z.2.2.1 ≤ 40) (hst : (st.map fun v => v.category).sum ≤ 8) (hf : cells ≤ mc0 ∧ slots ≤ ms0) (hdg : decode cc pc = .ok (.invokestatic idx, 3)) (kk : JJ K D cells slots ws lv (pc + 3) (.int (bI x) :: st)) : JJ K D cells slots ws lv pc (a2 :: a1 :: a0 :: st) := by
  refine jl_callS (mc := 0) (ms := 0) (As := [a0, a1, a2]) X hR (hM D) cw hjk hmL rfl hst hf hdg (fun v u hp => ?_)
  obtain ⟨rfl, rfl⟩ := hp
  exact kk
theorem jr_callZ3 (X : CX K cc nL own D Y) {ws : va_W} {z : MI} {j k mc0 ms0 idx : Nat} {a0 a1 a2 : Value} {x : Int32} (hR : RO K k mc0 ms0) (hM : MR Y ws z j [a0, a1, a2] (rZ x)) (cw : CwS own idx 3 z) (hjk : j < k) (hmL : z.2.2.1 ≤ 40) (hst : (st.map fun v => v.category).sum ≤ 8) (hf : cells ≤ mc0 ∧ slots ≤ ms0) (hdg : decode cc pc = .ok (.invokestatic idx, 3)) (kk : JJ K D cells slots ws lv (pc + 3) (.int x :: st)) : JJ K D cells slots ws lv pc (a2 :: a1 :: a0 :: st) := by
  refine jl_callS (mc := 0) (ms := 0) (As := [a0, a1, a2]) X hR (hM D) cw hjk hmL rfl hst hf hdg (fun v u hp => ?_)
  obtain ⟨rfl, rfl⟩ := hp
  exact kk
theorem jr_callN4 (X : CX K cc nL own D Y) {ws : va_W} {z : MI} {j k mc0 ms0 idx : Nat} {a0 a1 a2 a3 : Value} {F B : Nat} (hR : RO K k mc0 ms0) (hM : MR Y ws z j [a0, a1, a2, a3] (rN F B)) (cw : CwS own idx 4 z) (hjk : j < k) (hmL : z.2.2.1 ≤ 40) (hst : (st.map fun v => v.category).sum ≤ 8) (hf : cells ≤ mc0 ∧ slots ≤ ms0) (hdg : decode cc pc = .ok (.invokestatic idx, 3)) (kk : ∀ v : Nat, v = F → v ≤ B → JJ K D cells slots ws lv (pc + 3) (.int (nI v) :: st)) : JJ K D cells slots ws lv pc (a3 :: a2 :: a1 :: a0 :: st) := by
  refine jl_callS (mc := 0) (ms := 0) (As := [a0, a1, a2, a3]) X hR (hM D) cw hjk hmL rfl hst hf hdg (fun v u hp => ?_)
  obtain ⟨⟨v, h1, h2, rfl⟩, rfl⟩ := hp
  exact kk v h1 h2
theorem jr_callB4 (X : CX K cc nL own D Y) {ws : va_W} {z : MI} {j k mc0 ms0 idx : Nat} {a0 a1 a2 a3 : Value} {x : Bool} (hR : RO K k mc0 ms0) (hM : MR Y ws z j [a0, a1, a2, a3] (rB x)) (cw : CwS own idx 4 z) (hjk : j < k) (hmL : z.2.2.1 ≤ 40) (hst : (st.map fun v => v.category).sum ≤ 8) (hf : cells ≤ mc0 ∧ slots ≤ ms0) (hdg : decode cc pc = .ok (.invokestatic idx, 3)) (kk : JJ K D cells slots ws lv (pc + 3) (.int (bI x) :: st)) : JJ K D cells slots ws lv pc (a3 :: a2 :: a1 :: a0 :: st) := by
  refine jl_callS (mc := 0) (ms := 0) (As := [a0, a1, a2, a3]) X hR (hM D) cw hjk hmL rfl hst hf hdg (fun v u hp => ?_)
  obtain ⟨rfl, rfl⟩ := hp
  exact kk
theorem jr_callZ4 (X : CX K cc nL own D Y) {ws : va_W} {z : MI} {j k mc0 ms0 idx : Nat} {a0 a1 a2 a3 : Value} {x : Int32} (hR : RO K k mc0 ms0) (hM : MR Y ws z j [a0, a1, a2, a3] (rZ x)) (cw : CwS own idx 4 z) (hjk : j < k) (hmL : z.2.2.1 ≤ 40) (hst : (st.map fun v => v.category).sum ≤ 8) (hf : cells ≤ mc0 ∧ slots ≤ ms0) (hdg : decode cc pc = .ok (.invokestatic idx, 3)) (kk : JJ K D cells slots ws lv (pc + 3) (.int x :: st)) : JJ K D cells slots ws lv pc (a3 :: a2 :: a1 :: a0 :: st) := by
  refine jl_callS (mc := 0) (ms := 0) (As := [a0, a1, a2, a3]) X hR (hM D) cw hjk hmL rfl hst hf hdg (fun v u hp => ?_)
  obtain ⟨rfl, rfl⟩ := hp
  exact kk
theorem jr_callN5 (X : CX K cc nL own D Y) {ws : va_W} {z : MI} {j k mc0 ms0 idx : Nat} {a0 a1 a2 a3 a4 : Value} {F B : Nat} (hR : RO K k mc0 ms0) (hM : MR Y ws z j [a0, a1, a2, a3, a4] (rN F B)) (cw : CwS own idx 5 z) (hjk : j < k) (hmL : z.2.2.1 ≤ 40) (hst : (st.map fun v => v.category).sum ≤ 8) (hf : cells ≤ mc0 ∧ slots ≤ ms0) (hdg : decode cc pc = .ok (.invokestatic idx, 3)) (kk : ∀ v : Nat, v = F → v ≤ B → JJ K D cells slots ws lv (pc + 3) (.int (nI v) :: st)) : JJ K D cells slots ws lv pc (a4 :: a3 :: a2 :: a1 :: a0 :: st) := by
  refine jl_callS (mc := 0) (ms := 0) (As := [a0, a1, a2, a3, a4]) X hR (hM D) cw hjk hmL rfl hst hf hdg (fun v u hp => ?_)
  obtain ⟨⟨v, h1, h2, rfl⟩, rfl⟩ := hp
  exact kk v h1 h2
theorem jr_callB5 (X : CX K cc nL own D Y) {ws : va_W} {z : MI} {j k mc0 ms0 idx : Nat} {a0 a1 a2 a3 a4 : Value} {x : Bool} (hR : RO K k mc0 ms0) (hM : MR Y ws z j [a0, a1, a2, a3, a4] (rB x)) (cw : CwS own idx 5 z) (hjk : j < k) (hmL : z.2.2.1 ≤ 40) (hst : (st.map fun v => v.category).sum ≤ 8) (hf : cells ≤ mc0 ∧ slots ≤ ms0) (hdg : decode cc pc = .ok (.invokestatic idx, 3)) (kk : JJ K D cells slots ws lv (pc + 3) (.int (bI x) :: st)) : JJ K D cells slots ws lv pc (a4 :: a3 :: a2 :: a1 :: a0 :: st) := by
  refine jl_callS (mc := 0) (ms := 0) (As := [a0, a1, a2, a3, a4]) X hR (hM D) cw hjk hmL rfl hst hf hdg (fun v u hp => ?_)
  obtain ⟨rfl, rfl⟩ := hp
  exact kk
theorem jr_callZ5 (X : CX K cc nL own D Y) {ws : va_W} {z : MI} {j k mc0 ms0 idx : Nat} {a0 a1 a2 a3 a4 : Value} {x : Int32} (hR : RO K k mc0 ms0) (hM : MR Y ws z j [a0, a1, a2, a3, a4] (rZ x)) (cw : CwS own idx 5 z) (hjk : j < k) (hmL : z.2.2.1 ≤ 40) (hst : (st.map fun v => v.category).sum ≤ 8) (hf : cells ≤ mc0 ∧ slots ≤ ms0) (hdg : decode cc pc = .ok (.invokestatic idx, 3)) (kk : JJ K D cells slots ws lv (pc + 3) (.int x :: st)) : JJ K D cells slots ws lv pc (a4 :: a3 :: a2 :: a1 :: a0 :: st) := by
  refine jl_callS (mc := 0) (ms := 0) (As := [a0, a1, a2, a3, a4]) X hR (hM D) cw hjk hmL rfl hst hf hdg (fun v u hp => ?_)
  obtain ⟨rfl, rfl⟩ := hp
  exact kk
theorem jr_callN6 (X : CX K cc nL own D Y) {ws : va_W} {z : MI} {j k mc0 ms0 idx : Nat} {a0 a1 a2 a3 a4 a5 : Value} {F B : Nat} (hR : RO K k mc0 ms0) (hM : MR Y ws z j [a0, a1, a2, a3, a4, a5] (rN F B)) (cw : CwS own idx 6 z) (hjk : j < k) (hmL : z.2.2.1 ≤ 40) (hst : (st.map fun v => v.category).sum ≤ 8) (hf : cells ≤ mc0 ∧ slots ≤ ms0) (hdg : decode cc pc = .ok (.invokestatic idx, 3)) (kk : ∀ v : Nat, v = F → v ≤ B → JJ K D cells slots ws lv (pc + 3) (.int (nI v) :: st)) : JJ K D cells slots ws lv pc (a5 :: a4 :: a3 :: a2 :: a1 :: a0 :: st) := by
  refine jl_callS (mc := 0) (ms := 0) (As := [a0, a1, a2, a3, a4, a5]) X hR (hM D) cw hjk hmL rfl hst hf hdg (fun v u hp => ?_)
  obtain ⟨⟨v, h1, h2, rfl⟩, rfl⟩ := hp
  exact kk v h1 h2
theorem jr_callB6 (X : CX K cc nL own D Y) {ws : va_W} {z : MI} {j k mc0 ms0 idx : Nat} {a0 a1 a2 a3 a4 a5 : Value} {x : Bool} (hR : RO K k mc0 ms0) (hM : MR Y ws z j [a0, a1, a2, a3, a4, a5] (rB x)) (cw : CwS own idx 6 z) (hjk : j < k) (hmL : z.2.2.1 ≤ 40) (hst : (st.map fun v => v.category).sum ≤ 8) (hf : cells ≤ mc0 ∧ slots ≤ ms0) (hdg : decode cc pc = .ok (.invokestatic idx, 3)) (kk : JJ K D cells slots ws lv (pc + 3) (.int (bI x) :: st)) : JJ K D cells slots ws lv pc (a5 :: a4 :: a3 :: a2 :: a1 :: a0 :: st) := by
  refine jl_callS (mc := 0) (ms := 0) (As := [a0, a1, a2, a3, a4, a5]) X hR (hM D) cw hjk hmL rfl hst hf hdg (fun v u hp => ?_)
  obtain ⟨rfl, rfl⟩ := hp
  exact kk
theorem jr_callZ6 (X : CX K cc nL own D Y) {ws : va_W} {z : MI} {j k mc0 ms0 idx : Nat} {a0 a1 a2 a3 a4 a5 : Value} {x : Int32} (hR : RO K k mc0 ms0) (hM : MR Y ws z j [a0, a1, a2, a3, a4, a5] (rZ x)) (cw : CwS own idx 6 z) (hjk : j < k) (hmL : z.2.2.1 ≤ 40) (hst : (st.map fun v => v.category).sum ≤ 8) (hf : cells ≤ mc0 ∧ slots ≤ ms0) (hdg : decode cc pc = .ok (.invokestatic idx, 3)) (kk : JJ K D cells slots ws lv (pc + 3) (.int x :: st)) : JJ K D cells slots ws lv pc (a5 :: a4 :: a3 :: a2 :: a1 :: a0 :: st) := by
  refine jl_callS (mc := 0) (ms := 0) (As := [a0, a1, a2, a3, a4, a5]) X hR (hM D) cw hjk hmL rfl hst hf hdg (fun v u hp => ?_)
  obtain ⟨rfl, rfl⟩ := hp
  exact kk
theorem jr_callN7 (X : CX K cc nL own D Y) {ws : va_W} {z : MI} {j k mc0 ms0 idx : Nat} {a0 a1 a2 a3 a4 a5 a6 : Value} {F B : Nat} (hR : RO K k mc0 ms0) (hM : MR Y ws z j [a0, a1, a2, a3, a4, a5, a6] (rN F B)) (cw : CwS own idx 7 z) (hjk : j < k) (hmL : z.2.2.1 ≤ 40) (hst : (st.map fun v => v.category).sum ≤ 8) (hf : cells ≤ mc0 ∧ slots ≤ ms0) (hdg : decode cc pc = .ok (.invokestatic idx, 3)) (kk : ∀ v : Nat, v = F → v ≤ B → JJ K D cells slots ws lv (pc + 3) (.int (nI v) :: st)) : JJ K D cells slots ws lv pc (a6 :: a5 :: a4 :: a3 :: a2 :: a1 :: a0 :: st) := by
  refine jl_callS (mc := 0) (ms := 0) (As := [a0, a1, a2, a3, a4, a5, a6]) X hR (hM D) cw hjk hmL rfl hst hf hdg (fun v u hp => ?_)
  obtain ⟨⟨v, h1, h2, rfl⟩, rfl⟩ := hp
  exact kk v h1 h2
theorem jr_callB7 (X : CX K cc nL own D Y) {ws : va_W} {z : MI} {j k mc0 ms0 idx : Nat} {a0 a1 a2 a3 a4 a5 a6 : Value} {x : Bool} (hR : RO K k mc0 ms0) (hM : MR Y ws z j [a0, a1, a2, a3, a4, a5, a6] (rB x)) (cw : CwS own idx 7 z) (hjk : j < k) (hmL : z.2.2.1 ≤ 40) (hst : (st.map fun v => v.category).sum ≤ 8) (hf : cells ≤ mc0 ∧ slots ≤ ms0) (hdg : decode cc pc = .ok (.invokestatic idx, 3)) (kk : JJ K D cells slots ws lv (pc + 3) (.int (bI x) :: st)) : JJ K D cells slots ws lv pc (a6 :: a5 :: a4 :: a3 :: a2 :: a1 :: a0 :: st) := by
  refine jl_callS (mc := 0) (ms := 0) (As := [a0, a1, a2, a3, a4, a5, a6]) X hR (hM D) cw hjk hmL rfl hst hf hdg (fun v u hp => ?_)
  obtain ⟨rfl, rfl⟩ := hp
  exact kk
theorem jr_callZ7 (X : CX K cc nL own D Y) {ws : va_W} {z : MI} {j k mc0 ms0 idx : Nat} {a0 a1 a2 a3 a4 a5 a6 : Value} {x : Int32} (hR : RO K k mc0 ms0) (hM : MR Y ws z j [a0, a1, a2, a3, a4, a5, a6] (rZ x)) (cw : CwS own idx 7 z) (hjk : j < k) (hmL : z.2.2.1 ≤ 40) (hst : (st.map fun v => v.category).sum ≤ 8) (hf : cells ≤ mc0 ∧ slots ≤ ms0) (hdg : decode cc pc = .ok (.invokestatic idx, 3)) (kk : JJ K D cells slots ws lv (pc + 3) (.int x :: st)) : JJ K D cells slots ws lv pc (a6 :: a5 :: a4 :: a3 :: a2 :: a1 :: a0 :: st) := by
  refine jl_callS (mc := 0) (ms := 0) (As := [a0, a1, a2, a3, a4, a5, a6]) X hR (hM D) cw hjk hmL rfl hst hf hdg (fun v u hp => ?_)
  obtain ⟨rfl, rfl⟩ := hp
  exact kk
theorem jr_callN8 (X : CX K cc nL own D Y) {ws : va_W} {z : MI} {j k mc0 ms0 idx : Nat} {a0 a1 a2 a3 a4 a5 a6 a7 : Value} {F B : Nat} (hR : RO K k mc0 ms0) (hM : MR Y ws z j [a0, a1, a2, a3, a4, a5, a6, a7] (rN F B)) (cw : CwS own idx 8 z) (hjk : j < k) (hmL : z.2.2.1 ≤ 40) (hst : (st.map fun v => v.category).sum ≤ 8) (hf : cells ≤ mc0 ∧ slots ≤ ms0) (hdg : decode cc pc = .ok (.invokestatic idx, 3)) (kk : ∀ v : Nat, v = F → v ≤ B → JJ K D cells slots ws lv (pc + 3) (.int (nI v) :: st)) : JJ K D cells slots ws lv pc (a7 :: a6 :: a5 :: a4 :: a3 :: a2 :: a1 :: a0 :: st) := by
  refine jl_callS (mc := 0) (ms := 0) (As := [a0, a1, a2, a3, a4, a5, a6, a7]) X hR (hM D) cw hjk hmL rfl hst hf hdg (fun v u hp => ?_)
  obtain ⟨⟨v, h1, h2, rfl⟩, rfl⟩ := hp
  exact kk v h1 h2
theorem jr_callB8 (X : CX K cc nL own D Y) {ws : va_W} {z : MI} {j k mc0 ms0 idx : Nat} {a0 a1 a2 a3 a4 a5 a6 a7 : Value} {x : Bool} (hR : RO K k mc0 ms0) (hM : MR Y ws z j [a0, a1, a2, a3, a4, a5, a6, a7] (rB x)) (cw : CwS own idx 8 z) (hjk : j < k) (hmL : z.2.2.1 ≤ 40) (hst : (st.map fun v => v.category).sum ≤ 8) (hf : cells ≤ mc0 ∧ slots ≤ ms0) (hdg : decode cc pc = .ok (.invokestatic idx, 3)) (kk : JJ K D cells slots ws lv (pc + 3) (.int (bI x) :: st)) : JJ K D cells slots ws lv pc (a7 :: a6 :: a5 :: a4 :: a3 :: a2 :: a1 :: a0 :: st) := by
  refine jl_callS (mc := 0) (ms := 0) (As := [a0, a1, a2, a3, a4, a5, a6, a7]) X hR (hM D) cw hjk hmL rfl hst hf hdg (fun v u hp => ?_)
  obtain ⟨rfl, rfl⟩ := hp
  exact kk
theorem jr_callZ8 (X : CX K cc nL own D Y) {ws : va_W} {z : MI} {j k mc0 ms0 idx : Nat} {a0 a1 a2 a3 a4 a5 a6 a7 : Value} {x : Int32} (hR : RO K k mc0 ms0) (hM : MR Y ws z j [a0, a1, a2, a3, a4, a5, a6, a7] (rZ x)) (cw : CwS own idx 8 z) (hjk : j < k) (hmL : z.2.2.1 ≤ 40) (hst : (st.map fun v => v.category).sum ≤ 8) (hf : cells ≤ mc0 ∧ slots ≤ ms0) (hdg : decode cc pc = .ok (.invokestatic idx, 3)) (kk : JJ K D cells slots ws lv (pc + 3) (.int x :: st)) : JJ K D cells slots ws lv pc (a7 :: a6 :: a5 :: a4 :: a3 :: a2 :: a1 :: a0 :: st) := by
  refine jl_callS (mc := 0) (ms := 0) (As := [a0, a1, a2, a3, a4, a5, a6, a7]) X hR (hM D) cw hjk hmL rfl hst hf hdg (fun v u hp => ?_)
  obtain ⟨rfl, rfl⟩ := hp
  exact kk
theorem jr_callN9 (X : CX K cc nL own D Y) {ws : va_W} {z : MI} {j k mc0 ms0 idx : Nat} {a0 a1 a2 a3 a4 a5 a6 a7 a8 : Value} {F B : Nat} (hR : RO K k mc0 ms0) (hM : MR Y ws z j [a0, a1, a2, a3, a4, a5, a6, a7, a8] (rN F B)) (cw : CwS own idx 9 z) (hjk : j < k) (hmL : z.2.2.1 ≤ 40) (hst : (st.map fun v => v.category).sum ≤ 8) (hf : cells ≤ mc0 ∧ slots ≤ ms0) (hdg : decode cc pc = .ok (.invokestatic idx, 3)) (kk : ∀ v : Nat, v = F → v ≤ B → JJ K D cells slots ws lv (pc + 3) (.int (nI v) :: st)) : JJ K D cells slots ws lv pc (a8 :: a7 :: a6 :: a5 :: a4 :: a3 :: a2 :: a1 :: a0 :: st) := by
  refine jl_callS (mc := 0) (ms := 0) (As := [a0, a1, a2, a3, a4, a5, a6, a7, a8]) X hR (hM D) cw hjk hmL rfl hst hf hdg (fun v u hp => ?_)
  obtain ⟨⟨v, h1, h2, rfl⟩, rfl⟩ := hp
  exact kk v h1 h2
theorem jr_callB9 (X : CX K cc nL own D Y) {ws : va_W} {z : MI} {j k mc0 ms0 idx : Nat} {a0 a1 a2 a3 a4 a5 a6 a7 a8 : Value} {x : Bool} (hR : RO K k mc0 ms0) (hM : MR Y ws z j [a0, a1, a2, a3, a4, a5, a6, a7, a8] (rB x)) (cw : CwS own idx 9 z) (hjk : j < k) (hmL : z.2.2.1 ≤ 40) (hst : (st.map fun v => v.category).sum ≤ 8) (hf : cells ≤ mc0 ∧ slots ≤ ms0) (hdg : decode cc pc = .ok (.invokestatic idx, 3)) (kk : JJ K D cells slots ws lv (pc + 3) (.int (bI x) :: st)) : JJ K D cells slots ws lv pc (a8 :: a7 :: a6 :: a5 :: a4 :: a3 :: a2 :: a1 :: a0 :: st) := by
  refine jl_callS (mc := 0) (ms := 0) (As := [a0, a1, a2, a3, a4, a5, a6, a7, a8]) X hR (hM D) cw hjk hmL rfl hst hf hdg (fun v u hp => ?_)
  obtain ⟨rfl, rfl⟩ := hp
  exact kk
theorem jr_callZ9 (X : CX K cc nL own D Y) {ws : va_W} {z : MI} {j k mc0 ms0 idx : Nat} {a0 a1 a2 a3 a4 a5 a6 a7 a8 : Value} {x : Int32} (hR : RO K k mc0 ms0) (hM : MR Y ws z j [a0, a1, a2, a3, a4, a5, a6, a7, a8] (rZ x)) (cw : CwS own idx 9 z) (hjk : j < k) (hmL : z.2.2.1 ≤ 40) (hst : (st.map fun v => v.category).sum ≤ 8) (hf : cells ≤ mc0 ∧ slots ≤ ms0) (hdg : decode cc pc = .ok (.invokestatic idx, 3)) (kk : JJ K D cells slots ws lv (pc + 3) (.int x :: st)) : JJ K D cells slots ws lv pc (a8 :: a7 :: a6 :: a5 :: a4 :: a3 :: a2 :: a1 :: a0 :: st) := by
  refine jl_callS (mc := 0) (ms := 0) (As := [a0, a1, a2, a3, a4, a5, a6, a7, a8]) X hR (hM D) cw hjk hmL rfl hst hf hdg (fun v u hp => ?_)
  obtain ⟨rfl, rfl⟩ := hp
  exact kk
theorem jl_cI0 (X : CX K cc nL own D Y) {ad : Nat → Nat} {t : CS} {z : MI} {j k mc0 ms0 mc ms idx : Nat}  {φ : Int32 → CS → Prop} (hR : RO K k mc0 ms0) (hM : CF z 16 j mc ms [] t (pI φ)) (cw : CwV own idx 0 z) (hz : z.1.cls = RX6) (hj : j < k) (hmL : z.2.2.1 ≤ 40) (hst : (st.map fun v => v.category).sum ≤ 8) (hf : cells + mc ≤ mc0 ∧ slots + ms ≤ ms0) (hdg : decode cc pc = .ok (.invokevirtual idx, 3)) (kk : ∀ (r : Int32) (u : CS), φ r u → JJ K D (cells + mc) (slots + ms) (WC ad Y u ++ wr) lv (pc + 3) (.int r :: st)) : JJ K D cells slots (WC ad Y t ++ wr) lv pc (.ref (ad 16) :: st) := by
  refine jl_callV (As := []) (q0 := 0) (ci := 6) X hR (hM D Y ad) cw hj hmL rfl (cq := (RX6, TX6, 12)) rfl hz.symm rfl hst hf hdg (fun v u hp => ?_)
  obtain ⟨r, rfl, h⟩ := hp
  exact kk r u h
theorem jl_cD0 (X : CX K cc nL own D Y) {ad : Nat → Nat} {t : CS} {z : MI} {j k mc0 ms0 mc ms idx : Nat}  {φ : UInt64 → CS → Prop} (hR : RO K k mc0 ms0) (hM : CF z 16 j mc ms [] t (pD φ)) (cw : CwV own idx 0 z) (hz : z.1.cls = RX6) (hj : j < k) (hmL : z.2.2.1 ≤ 40) (hst : (st.map fun v => v.category).sum ≤ 8) (hf : cells + mc ≤ mc0 ∧ slots + ms ≤ ms0) (hdg : decode cc pc = .ok (.invokevirtual idx, 3)) (kk : ∀ (r : UInt64) (u : CS), φ r u → JJ K D (cells + mc) (slots + ms) (WC ad Y u ++ wr) lv (pc + 3) (.double r :: st)) : JJ K D cells slots (WC ad Y t ++ wr) lv pc (.ref (ad 16) :: st) := by
  refine jl_callV (As := []) (q0 := 0) (ci := 6) X hR (hM D Y ad) cw hj hmL rfl (cq := (RX6, TX6, 12)) rfl hz.symm rfl hst hf hdg (fun v u hp => ?_)
  obtain ⟨r, rfl, h⟩ := hp
  exact kk r u h
theorem jl_cI1 (X : CX K cc nL own D Y) {ad : Nat → Nat} {t : CS} {z : MI} {j k mc0 ms0 mc ms idx : Nat} {a0 : Value} {φ : Int32 → CS → Prop} (hR : RO K k mc0 ms0) (hM : CF z 16 j mc ms [a0] t (pI φ)) (cw : CwV own idx 1 z) (hz : z.1.cls = RX6) (hj : j < k) (hmL : z.2.2.1 ≤ 40) (hst : (st.map fun v => v.category).sum ≤ 8) (hf : cells + mc ≤ mc0 ∧ slots + ms ≤ ms0) (hdg : decode cc pc = .ok (.invokevirtual idx, 3)) (kk : ∀ (r : Int32) (u : CS), φ r u → JJ K D (cells + mc) (slots + ms) (WC ad Y u ++ wr) lv (pc + 3) (.int r :: st)) : JJ K D cells slots (WC ad Y t ++ wr) lv pc (a0 :: .ref (ad 16) :: st) := by
  refine jl_callV (As := [a0]) (q0 := 0) (ci := 6) X hR (hM D Y ad) cw hj hmL rfl (cq := (RX6, TX6, 12)) rfl hz.symm rfl hst hf hdg (fun v u hp => ?_)
  obtain ⟨r, rfl, h⟩ := hp
  exact kk r u h
theorem jl_cD1 (X : CX K cc nL own D Y) {ad : Nat → Nat} {t : CS} {z : MI} {j k mc0 ms0 mc ms idx : Nat} {a0 : Value} {φ : UInt64 → CS → Prop} (hR : RO K k mc0 ms0) (hM : CF z 16 j mc ms [a0] t (pD φ)) (cw : CwV own idx 1 z) (hz : z.1.cls = RX6) (hj : j < k) (hmL : z.2.2.1 ≤ 40) (hst : (st.map fun v => v.category).sum ≤ 8) (hf : cells + mc ≤ mc0 ∧ slots + ms ≤ ms0) (hdg : decode cc pc = .ok (.invokevirtual idx, 3)) (kk : ∀ (r : UInt64) (u : CS), φ r u → JJ K D (cells + mc) (slots + ms) (WC ad Y u ++ wr) lv (pc + 3) (.double r :: st)) : JJ K D cells slots (WC ad Y t ++ wr) lv pc (a0 :: .ref (ad 16) :: st) := by
  refine jl_callV (As := [a0]) (q0 := 0) (ci := 6) X hR (hM D Y ad) cw hj hmL rfl (cq := (RX6, TX6, 12)) rfl hz.symm rfl hst hf hdg (fun v u hp => ?_)
  obtain ⟨r, rfl, h⟩ := hp
  exact kk r u h
theorem jl_cI2 (X : CX K cc nL own D Y) {ad : Nat → Nat} {t : CS} {z : MI} {j k mc0 ms0 mc ms idx : Nat} {a0 a1 : Value} {φ : Int32 → CS → Prop} (hR : RO K k mc0 ms0) (hM : CF z 16 j mc ms [a0, a1] t (pI φ)) (cw : CwV own idx 2 z) (hz : z.1.cls = RX6) (hj : j < k) (hmL : z.2.2.1 ≤ 40) (hst : (st.map fun v => v.category).sum ≤ 8) (hf : cells + mc ≤ mc0 ∧ slots + ms ≤ ms0) (hdg : decode cc pc = .ok (.invokevirtual idx, 3)) (kk : ∀ (r : Int32) (u : CS), φ r u → JJ K D (cells + mc) (slots + ms) (WC ad Y u ++ wr) lv (pc + 3) (.int r :: st)) : JJ K D cells slots (WC ad Y t ++ wr) lv pc (a1 :: a0 :: .ref (ad 16) :: st) := by
  refine jl_callV (As := [a0, a1]) (q0 := 0) (ci := 6) X hR (hM D Y ad) cw hj hmL rfl (cq := (RX6, TX6, 12)) rfl hz.symm rfl hst hf hdg (fun v u hp => ?_)
  obtain ⟨r, rfl, h⟩ := hp
  exact kk r u h
theorem jl_cI3 (X : CX K cc nL own D Y) {ad : Nat → Nat} {t : CS} {z : MI} {j k mc0 ms0 mc ms idx : Nat} {a0 a1 a2 : Value} {φ : Int32 → CS → Prop} (hR : RO K k mc0 ms0) (hM : CF z 16 j mc ms [a0, a1, a2] t (pI φ)) (cw : CwV own idx 3 z) (hz : z.1.cls = RX6) (hj : j < k) (hmL : z.2.2.1 ≤ 40) (hst : (st.map fun v => v.category).sum ≤ 8) (hf : cells + mc ≤ mc0 ∧ slots + ms ≤ ms0) (hdg : decode cc pc = .ok (.invokevirtual idx, 3)) (kk : ∀ (r : Int32) (u : CS), φ r u → JJ K D (cells + mc) (slots + ms) (WC ad Y u ++ wr) lv (pc + 3) (.int r :: st)) : JJ K D cells slots (WC ad Y t ++ wr) lv pc (a2 :: a1 :: a0 :: .ref (ad 16) :: st) := by
  refine jl_callV (As := [a0, a1, a2]) (q0 := 0) (ci := 6) X hR (hM D Y ad) cw hj hmL rfl (cq := (RX6, TX6, 12)) rfl hz.symm rfl hst hf hdg (fun v u hp => ?_)
  obtain ⟨r, rfl, h⟩ := hp
  exact kk r u h
theorem jl_cI4 (X : CX K cc nL own D Y) {ad : Nat → Nat} {t : CS} {z : MI} {j k mc0 ms0 mc ms idx : Nat} {a0 a1 a2 a3 : Value} {φ : Int32 → CS → Prop} (hR : RO K k mc0 ms0) (hM : CF z 16 j mc ms [a0, a1, a2, a3] t (pI φ)) (cw : CwV own idx 4 z) (hz : z.1.cls = RX6) (hj : j < k) (hmL : z.2.2.1 ≤ 40) (hst : (st.map fun v => v.category).sum ≤ 8) (hf : cells + mc ≤ mc0 ∧ slots + ms ≤ ms0) (hdg : decode cc pc = .ok (.invokevirtual idx, 3)) (kk : ∀ (r : Int32) (u : CS), φ r u → JJ K D (cells + mc) (slots + ms) (WC ad Y u ++ wr) lv (pc + 3) (.int r :: st)) : JJ K D cells slots (WC ad Y t ++ wr) lv pc (a3 :: a2 :: a1 :: a0 :: .ref (ad 16) :: st) := by
  refine jl_callV (As := [a0, a1, a2, a3]) (q0 := 0) (ci := 6) X hR (hM D Y ad) cw hj hmL rfl (cq := (RX6, TX6, 12)) rfl hz.symm rfl hst hf hdg (fun v u hp => ?_)
  obtain ⟨r, rfl, h⟩ := hp
  exact kk r u h
/-! the law's first method reads the script -/
def PX (D : va_G) (Y : Nat → ClassId) (av : List Value) (sz b L : Nat) (xs : Nat → Int32) : Array Value → State → Prop := fun a U => PG av [] D Y sz a U ∧ va_X b L xs U U.heap ∧ b < sz
def MX (D : va_G) (Y : Nat → ClassId) (z : MI) (k : Nat) (av : List Value) (b L : Nat) (xs : Nat → Int32) (φ : Option Value → Prop) : Prop := ∀ (l : Launch) (sz : Nat), Met l z.1 (wg z) (Rm k 0 0) (PX D Y av sz b L xs) (QG (fun v (_ : Unit) => φ v) (fun _ => []) D (va_A [] sz)) 0 0 (va_A [] sz)
theorem MX.of {z : MI} {k b L : Nat} {xs : Nat → Int32} {av : List Value} {φ : Option Value → Prop} (lv : List (Nat × Value)) (hy : plainName z.1.cls = true) (hlv : lv_args 0 av = lv) (hn : (lg_sl av).length ≤ z.2.2.1)
    (body : ∀ K : Ctx, kR K = Rm k 0 0 → CX K z.2.1 z.2.2.1 z.1.cls D Y → EX K (fun v (_ : Unit) => φ v) (fun _ => []) D 0 0 z.2.2.2 → va_X b L xs (ks K) (ks K).heap → b < (ks K).heap.size → ¬ kA K b → JJ K D 0 0 [] lv 0 []) : MX D Y z k av b L xs φ := by
  intro l sz
  refine Met.ofW (cc := z.2.1) (maxL := z.2.2.1) (ret := z.2.2.2) hy rfl ?_
  intro p e s m args below meth c s₁ B hml hv
  obtain ⟨⟨rfl, hsz, hP, hK, hD0⟩, hX, hbs⟩ := hv
  have hts := atoms_spec (ws := wg z) B.pre
  have hown : s.vm.findClass z.1.cls = some m.cls := findClass_of_methodNamed B.named
  subst hsz
  have hD := hD0.self (sz := s.heap.size)
  have hl := lv_entry av (n := z.2.2.1) hn
  rw [lg_entry_eq]
  have hbA : ¬ va_A [] s.heap.size b := by
    rintro (⟨k, e, h⟩ | h)
    · simp at h
    · omega
  have b := body (p, l, e, Rm k 0 0, s, m, av.toArray, below, meth, c, va_A [] s.heap.size, MQ below (QG (fun v (_ : Unit) => φ v) (fun _ => []) D (va_A [] s.heap.size)) av.toArray s 0 0 (va_A [] s.heap.size)) rfl
    ⟨⟨B.exec, B.bytes, hml, hown, fun w hw => hts w (List.mem_cons_of_mem _ hw)⟩, hK, fun q h => Or.inr h, B.notSynchronized⟩ ⟨rfl, B.returns⟩ hX hbs hbA
  refine b s.heap [] _ hP hD va_S.rf ?_
  rw [← hlv]
  show lv_has _ c.maxLocals _
  rw [hml]
  exact hl
theorem fb_PX {av : List Value} {sz b L : Nat} {xs : Nat → Int32} : FrameBlind (PX D Y av sz b L xs) := fun a U g mk q => ⟨fb_PG a U g mk q.1, va_X.moved (u := U) (U := U.calling g mk a) (Vm.Alike.refl U.vm) q.2.1, q.2.2⟩
theorem jx_call (X : CX K cc nL own D Y) {ws : va_W} {z : MI} {j k mc0 ms0 idx n b L : Nat} {xs : Nat → Int32} {As : List Value} {φ : Option Value → Prop} (hX : va_X b L xs (ks K) (ks K).heap) (hbl : b < (ks K).heap.size) (hbA : ¬ kA K b) (hR : RO K k mc0 ms0) (hM : MX D Y z j As b L xs φ) (cw : CwS own idx n z) (hj : j < k) (hmL : z.2.2.1 ≤ 40)
    (hn : As.length = n) (hst : (st.map fun v => v.category).sum ≤ 8) (hf : cells ≤ mc0 ∧ slots ≤ ms0) (hdg : decode cc pc = .ok (.invokestatic idx, 3))
    (kk : ∀ (v : Option Value), φ v → JJ K D cells slots ws lv (pc + 3) (v.toList ++ st)) : JJ K D cells slots ws lv pc (As.reverse ++ st) := by
  intro H locs ls hP hD hS hl
  obtain ⟨c1, c2, c3, c4, c5⟩ := cw
  have hts := X.1.2.2.2.2
  have hP0 : va_P D vwCl ([] : va_W) H := fun k q h => by simp at h
  have hD0 : va_D (kA K) ([] : va_W) := ⟨fun i j p q h => by simp at h, fun k q h => by simp at h⟩
  refine jl_back (wc := []) (wr := ws) (mc := 0) (ms := 0) X hP hD hS hl (va_runS X.1 (hM (kl K) H.size) ⟨callB_of n hts (wg_good c4) rfl rfl rfl (hts _ c3) (hts _ c1) c5 (hR.ok hj hmL), hts _ c2⟩ ⟨fb_PX, fun U hU hW => ⟨pg_at X hP0 hD0 U hU hW, ?_, Nat.lt_of_lt_of_le hbl hS.1⟩⟩ rfl hn (hl.1.trans X.1.2.2.1) rfl (lv_room hst) hdg (hR.fit hf)) (fun v _ hp => kk v hp)
  have h1 := va_X.moved hW.alike (hX.kept (hS.2.1 b hbl hbA))
  rw [hU]
  exact h1
end
