/-! the law: two worlds side by side -/
section
variable {D : va_G} {cl : List vw_C} {A : Nat → Prop} {w1 w2 : va_W} {H : Heap}
theorem gl {w1 w2 : va_W} {k : Nat} {q : Nat × va_E} (h : w1[k]? = some q) : (w1 ++ w2)[k]? = some q := (List.getElem?_append_left (List.getElem?_eq_some_iff.mp h).1).trans h
theorem gr {w1 w2 : va_W} {k : Nat} {q : Nat × va_E} (h : w2[k]? = some q) : (w1 ++ w2)[w1.length + k]? = some q := by
  rw [List.getElem?_append_right (Nat.le_add_right _ _), Nat.add_sub_cancel_left]
  exact h
theorem lP1 (h : va_P D cl (w1 ++ w2) H) : va_P D cl w1 H := fun k q hk => h k q (gl hk)
theorem lP2 (h : va_P D cl (w1 ++ w2) H) : va_P D cl w2 H := fun k q hk => h (w1.length + k) q (gr hk)
theorem lD1 (h : va_D A (w1 ++ w2)) : va_D A w1 := ⟨fun i j p q hi hj e => h.1 i j p q (gl hi) (gl hj) e, fun k q hk => h.2 k q (gl hk)⟩
theorem lD2 (h : va_D A (w1 ++ w2)) : va_D A w2 := ⟨fun i j p q hi hj e => by have := h.1 (w1.length + i) (w1.length + j) p q (gr hi) (gr hj) e; omega, fun k q hk => h.2 (w1.length + k) q (gr hk)⟩
theorem lDx (h : va_D A (w1 ++ w2)) (i j : Nat) (p q : Nat × va_E) (hi : w1[i]? = some p) (hj : w2[j]? = some q) : p.1 ≠ q.1 := fun e => by
  have h1 := h.1 i (w1.length + j) p q (gl hi) (gr hj) e
  have h2 := (List.getElem?_eq_some_iff.mp hi).1
  omega
end
section
variable {K : Ctx} {cc : ByteArray} {nL : Nat} {own : String} {D : va_G} {Y : Nat → ClassId} {cells slots : Nat} {lv lv' : List (Nat × Value)} {pc tgt : Nat} {off : Int} {st : List Value} {w1 w2 wc wr : va_W}
theorem j_swap (k : JJ K D cells slots (w2 ++ w1) lv pc st) : JJ K D cells slots (w1 ++ w2) lv pc st := fun H locs ls hP hD hS hl => k H locs ls ((lP2 hP).app (lP1 hP)) ((lD2 hD).app (lD1 hD) (fun i j p q hi hj e => lDx hD j i q p hj hi e.symm)) hS hl
theorem room_l {j mc' ms' n : Nat} (hj : j ≤ 40) (hn : n ≤ 40) : (Rm j mc' ms').frames + 1 ≤ room_1.frames ∧ 8 + (n + 11) + (Rm j mc' ms').locals ≤ room_1.locals := ⟨by show j + 1 ≤ 2048; omega, by show 8 + (n + 11) + 64 * j ≤ 84000; omega⟩
/-- behind a call, the other world as it was -/
theorem jl_back {T : Type} {post : Option Value → T → Prop} {Wf : T → va_W} {mc ms : Nat} {st0 : List Value} {av : Array Value} {H : Heap} {locs : List Loc} {ls : Array Slot} (X : CX K cc nL own D Y) (hP : va_P D vwCl (wc ++ wr) H) (hD : va_D (kA K) (wc ++ wr)) (hS : va_S (kA K) (ks K).heap H locs) (hl : lv_has ls (kc K).maxLocals lv)
    (hr : va_Run (kp K) (kl K) (ke K) (kR K) (ks K) (km K) (ka K) (kb K) (kh K) (kc K) H locs cells slots mc ms (F0 (km K) pc ls st0) st (QG post Wf D (va_A wc H.size) av) (va_A wc H.size))
    (k : ∀ (v : Option Value) (u : T), post v u → JJ K D (cells + mc) (slots + ms) (Wf u ++ wr) lv (pc + 3) (v.toList ++ st)) : W (kp K) (kl K) (ke K) (kR K) (ks K) (km K) (ka K) (kb K) (kh K) (kc K) H locs cells slots (kQ K) (F0 (km K) pc ls st0) := by
  intro T0 hT X0
  have hsub := va_A_sub (lD1 hD) hS X.2.2.1
  obtain ⟨v, st₀, t, T', L, h0, X', hL, e1, e2, ⟨⟨v', u, hv, hp, hP1, hD1⟩, hz, hk⟩, stp⟩ := hr T0 hT X0
  cases hv
  rw [h0] at hz hk
  have hS1 : va_S (kA K) (ks K).heap T'.heap (locs ++ L) := ⟨Nat.le_trans hS.1 (by rw [e1]; exact hz), fun q h1 h2 => by rw [e1, hk q (Nat.lt_of_lt_of_le h1 hS.1) (fun z => h2 (hsub q z))]; exact hS.2.1 q h1 h2, fun q hq => by
      rcases List.mem_append.mp hq with h | h
      · exact hS.2.2 q h
      · exact hsub _ (hL q h)⟩
  have hlt : ∀ (j : Nat) (q : Nat × va_E), wr[j]? = some q → q.1 < H.size := fun j q hj => (lP2 hP j q hj).lt
  have hno : ∀ (j : Nat) (q : Nat × va_E), wr[j]? = some q → ¬ va_A wc H.size q.1 := by
    intro j q hj hq
    rcases hq with ⟨i, e, hi⟩ | hge
    · exact lDx hD i j (q.1, e) q hi hj rfl
    · have := hlt j q hj
      omega
  have hPr : va_P D vwCl wr T'.heap := (lP2 hP).kept (fun j q hj => by rw [e1]; exact hk q.1 (hlt j q hj) (hno j q hj))
  have hPn : va_P D vwCl (Wf u) T'.heap := by rw [e1]; exact hP1
  have hDn : va_D (kA K) (Wf u ++ wr) := (hD1.weaken (fun k q _ h => hsub q.1 h)).app (lD2 hD) (fun i j p q hi hj e => hno j q hj (e ▸ hD1.2 i p hi))
  obtain ⟨t2, a1, b1⟩ := k _ u hp T'.heap (locs ++ L) ls (hPn.app hPr) hDn hS1 hl T' rfl X'
  exact ⟨t2, stp t2 a1, b1⟩
theorem jl_callV (X : CX K cc nL own D Y) {T : Type} {z : MI} {j mc ms idx n b ci q0 : Nat} {As : List Value} {fs : List Value} {cq : vw_C} {Wf : T → va_W} {post : Option Value → T → Prop} (hR : kR K = room_1) (hM : MT z j mc ms D Y (.ref b :: As) wc Wf post) (cw : CwV own idx n z) (hj : j ≤ 40) (hmL : z.2.2.1 ≤ 40)
    (hr : wc[q0]? = some (b, .inr (ci, fs))) (hcq : vwCl[ci]? = some cq) (hcl : cq.1 = z.1.cls) (hn : As.length = n) (hst : (st.map fun v => v.category).sum ≤ 8) (hf : cells + mc ≤ 600000 ∧ slots + ms ≤ 7302250) (hdg : decode cc pc = .ok (.invokevirtual idx, 3))
    (kk : ∀ (v : Option Value) (u : T), post v u → JJ K D (cells + mc) (slots + ms) (Wf u ++ wr) lv (pc + 3) (v.toList ++ st)) : JJ K D cells slots (wc ++ wr) lv pc (As.reverse ++ .ref b :: st) := by
  intro H locs ls hP hD hS hl
  obtain ⟨c1, c2, c3, c4, c5, c6⟩ := cw
  have hts := X.1.2.2.2.2
  have hPc := lP1 hP
  refine jl_back X hP hD hS hl (va_runV X.1 (hM (kl K) H.size) ⟨callB_of n hts (wg_good c5) rfl rfl rfl (hts _ c4) (hts _ c1) c6 (by rw [hR]; exact room_l hj hmL), hts _ c2, hts _ c3⟩ ⟨fb_PG, ?_, pg_at X hPc (lD1 hD)⟩ rfl hn (hl.1.trans X.1.2.2.1) rfl (lv_room hst) hdg (by rw [hR]; exact hf)) kk
  have := va_recv X.2.1.1 hPc hcq hr
  rw [hcl] at this
  exact this
theorem jl_callI (X : CX K cc nL own D Y) {T : Type} {z : MI} {j mc ms idx n b : Nat} {As : List Value} {Wf : T → va_W} {post : Option Value → T → Prop} (hR : kR K = room_1) (hM : MT z j mc ms D Y (.ref b :: As) wc Wf post) (cw : CwI own idx n z) (hj : j ≤ 40) (hmL : z.2.2.1 ≤ 40)
    (hn : As.length = n) (hst : (st.map fun v => v.category).sum ≤ 8) (hf : cells + mc ≤ 600000 ∧ slots + ms ≤ 7302250) (hdg : decode cc pc = .ok (.invokespecial idx, 3))
    (kk : ∀ (v : Option Value) (u : T), post v u → JJ K D (cells + mc) (slots + ms) (Wf u ++ wr) lv (pc + 3) (v.toList ++ st)) : JJ K D cells slots (wc ++ wr) lv pc (As.reverse ++ .ref b :: st) := by
  intro H locs ls hP hD hS hl
  obtain ⟨c1, c2, c3, c4, c5, c6, c7⟩ := cw
  have hts := X.1.2.2.2.2
  exact jl_back X hP hD hS hl (va_runI X.1 (hM (kl K) H.size) ⟨callB_of n hts (wg_good c4) (by unfold wg wz; rw [c7]) rfl rfl (hts _ c3) (hts _ c1) c5 (by rw [hR]; exact room_l hj hmL), c6, hts _ c2⟩ ⟨fb_PG, pg_at X (lP1 hP) (lD1 hD)⟩ rfl hn (hl.1.trans X.1.2.2.1) rfl (lv_room hst) hdg (by rw [hR]; exact hf)) kk
theorem jl_newO (X : CX K cc nL own D Y) {C : String} {F : u_T} {N ci idx : Nat} {fs : List Value} {ws : va_W} (hR : kR K = room_1) (hly : ∀ w ∈ u_ws C F N, w ∈ lw_g) (ty0 : Nat → FieldType) (hty : ∀ k, k < N → parseFieldDescriptor (F k).2.2.1 = some (ty0 k)) (hcl : Cond.classLink own idx C ∈ lw_g) (hinst : Cond.instantiable C N ∈ lw_g) (hini : Cond.initialized C ∈ lw_g) (hc : vwCl[ci]? = some (C, F, N)) (hfs : ∀ j, j < N → defaultValue (ty0 j) = vp_V fs j) (hcells : cells + 1 ≤ 600000) (hslots : slots + N ≤ 7302250) (hdg : decode cc pc = .ok (.new idx, 3)) (kk : ∀ a : Nat, JJ K D (cells + 1) (slots + N) (ws ++ [(a, .inr (ci, fs))]) lv (pc + 3) (.ref a :: st)) : JJ K D cells slots ws lv pc st := by
  intro H locs ls hP hD hS hlv
  have hts := X.1.2.2.2.2
  exact va_new X.1.1 X.1.2.1 (Ts := lw_g) hts hly ty0 hty X.1.2.2.2.1 (hts _ hcl) (hts _ hinst) (hts _ hini) X.2.1.1 hP hD hS X.2.2.1 hc hfs (by rw [hR]; exact hcells) (by rw [hR]; exact hslots) hdg (fun q H1 hP1 hD1 hS1 => kk q H1 locs ls hP1 hD1 hS1 hlv)
theorem jl_sld (X : CX K cc nL own D Y) {b L i : Nat} {xs : Nat → Int32} {ws : va_W} (hX : va_X b L xs (ks K) (ks K).heap) (hbl : b < (ks K).heap.size) (hbA : ¬ kA K b) (hi : i < L) (hL : L ≤ 2560) (hdg : decode cc pc = .ok (.iaload, 1)) (k : JJ K D cells slots ws lv (pc + 1) (.int (xs i) :: st)) : JJ K D cells slots ws lv pc (.int (nI i) :: .ref b :: st) := by
  intro H locs ls hP hD hS hl
  refine va_sld X.1.1 X.1.2.1 hX hbl hbA hS (vp_in_nI hi (by omega)) hdg ?_
  rw [nI_clamp (by omega)]
  exact k H locs ls hP hD hS hl
theorem jl_slen (X : CX K cc nL own D Y) {b L : Nat} {xs : Nat → Int32} {ws : va_W} (hX : va_X b L xs (ks K) (ks K).heap) (hbl : b < (ks K).heap.size) (hbA : ¬ kA K b) (hdg : decode cc pc = .ok (.arraylength, 1)) (k : JJ K D cells slots ws lv (pc + 1) (.int (nI L) :: st)) : JJ K D cells slots ws lv pc (.ref b :: st) := fun H locs ls hP hD hS hl => va_slen X.1.1 X.1.2.1 hX hbl hbA hS hdg (k H locs ls hP hD hS hl)
theorem j_dstore (X : CX K cc nL own D Y) {i : Nat} {x : UInt64} {ws : va_W} (lv' : List (Nat × Value)) (hdg : decode cc pc = .ok (.dstore i, 2)) (hn : i + 1 < nL) (hs : (i, Value.double x) :: lv.filter (fun q => !(q.1 == i) && (!(q.1 == i + 1) && !(q.1 + 1 == i && q.2.category == 2))) = lv') (k : JJ K D cells slots ws lv' (pc + 2) st) : JJ K D cells slots ws lv pc (.double x :: st) := fun H locs ls hP hD hS hl => lv_dstore X.1.1 X.1.2.1 hdg hl (by rw [X.1.2.2.1]; exact hn) hs (fun ls2 hl2 => k H locs ls2 hP hD hS hl2)
theorem j_dload (X : CX K cc nL own D Y) {i : Nat} {x : UInt64} {ws : va_W} (hdg : decode cc pc = .ok (.dload i, 2)) (q : Nat) (hq : lv[q]? = some (i, .double x)) (k : JJ K D cells slots ws lv (pc + 2) (.double x :: st)) : JJ K D cells slots ws lv pc st := fun H locs ls hP hD hS hl => lv_dload X.1.1 X.1.2.1 hdg (lv_at hl q hq) (k H locs ls hP hD hS hl)
theorem j_dcmp (X : CX K cc nL own D Y) {x y : UInt64} {op : CmpOp} {ws : va_W} (hdg : decode cc pc = .ok (.dcmp op, 1)) (k : JJ K D cells slots ws lv (pc + 1) (.int (Op.cmpValue (FP.dcmp x y) op) :: st)) : JJ K D cells slots ws lv pc (.double y :: .double x :: st) := fun H locs ls hP hD hS hl => lv_dcmp X.1.1 X.1.2.1 hdg (k H locs ls hP hD hS hl)
theorem lg_self (x : Int64) : lg_cmp x x = 0 := by
  unfold lg_cmp
  split
  · rename_i h
    exact absurd h (Int64.lt_irrefl)
  · rw [if_pos rfl]
theorem jl_cI0 (X : CX K cc nL own D Y) {ad : Nat → Nat} {t : CS} {z : MI} {j mc ms idx : Nat}  {φ : Int32 → CS → Prop} (hR : kR K = room_1) (hM : CF z 16 j mc ms [] t (pI φ)) (cw : CwV own idx 0 z) (hz : z.1.cls = RX6) (hj : j ≤ 40) (hmL : z.2.2.1 ≤ 40) (hst : (st.map fun v => v.category).sum ≤ 8) (hf : cells + mc ≤ 600000 ∧ slots + ms ≤ 7302250) (hdg : decode cc pc = .ok (.invokevirtual idx, 3)) (kk : ∀ (r : Int32) (u : CS), φ r u → JJ K D (cells + mc) (slots + ms) (WC ad Y u ++ wr) lv (pc + 3) (.int r :: st)) : JJ K D cells slots (WC ad Y t ++ wr) lv pc (.ref (ad 16) :: st) := by
  refine jl_callV (As := []) (q0 := 0) (ci := 6) X hR (hM D Y ad) cw hj hmL rfl (cq := (RX6, TX6, 12)) rfl hz.symm rfl hst hf hdg (fun v u hp => ?_)
  obtain ⟨r, rfl, h⟩ := hp
  exact kk r u h
theorem jl_mI0 (X : CX K cc nL own D Y) {h0 : Nat} {ad : Nat → Nat} {S : MS} {z : MI} {j idx : Nat}  {φ : Int32 → MS → Prop} (hR : kR K = room_1) (hM : MM z j [] S (pI φ)) (cw : CwV own idx 0 z) (hz : z.1.cls = RX7) (hj : j ≤ 40) (hmL : z.2.2.1 ≤ 40) (hst : (st.map fun v => v.category).sum ≤ 8) (hf : cells ≤ 600000 ∧ slots ≤ 7302250) (hdg : decode cc pc = .ok (.invokevirtual idx, 3)) (kk : ∀ (r : Int32) (u : MS), φ r u → JJ K D cells slots (w1 ++ WM h0 ad Y u) lv (pc + 3) (.int r :: st)) : JJ K D cells slots (w1 ++ WM h0 ad Y S) lv pc (.ref h0 :: st) := by
  refine j_swap (jl_callV (mc := 0) (ms := 0) (As := []) (q0 := 0) (ci := 7) X hR (hM D Y h0 ad) cw hj hmL rfl (cq := (RX7, TX7, 25)) rfl hz.symm rfl hst hf hdg (fun v u hp => ?_))
  obtain ⟨r, rfl, h⟩ := hp
  exact j_swap (kk r u h)
theorem jl_cD0 (X : CX K cc nL own D Y) {ad : Nat → Nat} {t : CS} {z : MI} {j mc ms idx : Nat}  {φ : UInt64 → CS → Prop} (hR : kR K = room_1) (hM : CF z 16 j mc ms [] t (pD φ)) (cw : CwV own idx 0 z) (hz : z.1.cls = RX6) (hj : j ≤ 40) (hmL : z.2.2.1 ≤ 40) (hst : (st.map fun v => v.category).sum ≤ 8) (hf : cells + mc ≤ 600000 ∧ slots + ms ≤ 7302250) (hdg : decode cc pc = .ok (.invokevirtual idx, 3)) (kk : ∀ (r : UInt64) (u : CS), φ r u → JJ K D (cells + mc) (slots + ms) (WC ad Y u ++ wr) lv (pc + 3) (.double r :: st)) : JJ K D cells slots (WC ad Y t ++ wr) lv pc (.ref (ad 16) :: st) := by
  refine jl_callV (As := []) (q0 := 0) (ci := 6) X hR (hM D Y ad) cw hj hmL rfl (cq := (RX6, TX6, 12)) rfl hz.symm rfl hst hf hdg (fun v u hp => ?_)
  obtain ⟨r, rfl, h⟩ := hp
  exact kk r u h
theorem jl_mD0 (X : CX K cc nL own D Y) {h0 : Nat} {ad : Nat → Nat} {S : MS} {z : MI} {j idx : Nat}  {φ : UInt64 → MS → Prop} (hR : kR K = room_1) (hM : MM z j [] S (pD φ)) (cw : CwV own idx 0 z) (hz : z.1.cls = RX7) (hj : j ≤ 40) (hmL : z.2.2.1 ≤ 40) (hst : (st.map fun v => v.category).sum ≤ 8) (hf : cells ≤ 600000 ∧ slots ≤ 7302250) (hdg : decode cc pc = .ok (.invokevirtual idx, 3)) (kk : ∀ (r : UInt64) (u : MS), φ r u → JJ K D cells slots (w1 ++ WM h0 ad Y u) lv (pc + 3) (.double r :: st)) : JJ K D cells slots (w1 ++ WM h0 ad Y S) lv pc (.ref h0 :: st) := by
  refine j_swap (jl_callV (mc := 0) (ms := 0) (As := []) (q0 := 0) (ci := 7) X hR (hM D Y h0 ad) cw hj hmL rfl (cq := (RX7, TX7, 25)) rfl hz.symm rfl hst hf hdg (fun v u hp => ?_))
  obtain ⟨r, rfl, h⟩ := hp
  exact j_swap (kk r u h)
theorem jl_cL0 (X : CX K cc nL own D Y) {ad : Nat → Nat} {t : CS} {z : MI} {j mc ms idx : Nat}  {φ : Int64 → CS → Prop} (hR : kR K = room_1) (hM : CF z 16 j mc ms [] t (pL φ)) (cw : CwV own idx 0 z) (hz : z.1.cls = RX6) (hj : j ≤ 40) (hmL : z.2.2.1 ≤ 40) (hst : (st.map fun v => v.category).sum ≤ 8) (hf : cells + mc ≤ 600000 ∧ slots + ms ≤ 7302250) (hdg : decode cc pc = .ok (.invokevirtual idx, 3)) (kk : ∀ (r : Int64) (u : CS), φ r u → JJ K D (cells + mc) (slots + ms) (WC ad Y u ++ wr) lv (pc + 3) (.long r :: st)) : JJ K D cells slots (WC ad Y t ++ wr) lv pc (.ref (ad 16) :: st) := by
  refine jl_callV (As := []) (q0 := 0) (ci := 6) X hR (hM D Y ad) cw hj hmL rfl (cq := (RX6, TX6, 12)) rfl hz.symm rfl hst hf hdg (fun v u hp => ?_)
  obtain ⟨r, rfl, h⟩ := hp
  exact kk r u h
theorem jl_mL0 (X : CX K cc nL own D Y) {h0 : Nat} {ad : Nat → Nat} {S : MS} {z : MI} {j idx : Nat}  {φ : Int64 → MS → Prop} (hR : kR K = room_1) (hM : MM z j [] S (pL φ)) (cw : CwV own idx 0 z) (hz : z.1.cls = RX7) (hj : j ≤ 40) (hmL : z.2.2.1 ≤ 40) (hst : (st.map fun v => v.category).sum ≤ 8) (hf : cells ≤ 600000 ∧ slots ≤ 7302250) (hdg : decode cc pc = .ok (.invokevirtual idx, 3)) (kk : ∀ (r : Int64) (u : MS), φ r u → JJ K D cells slots (w1 ++ WM h0 ad Y u) lv (pc + 3) (.long r :: st)) : JJ K D cells slots (w1 ++ WM h0 ad Y S) lv pc (.ref h0 :: st) := by
  refine j_swap (jl_callV (mc := 0) (ms := 0) (As := []) (q0 := 0) (ci := 7) X hR (hM D Y h0 ad) cw hj hmL rfl (cq := (RX7, TX7, 25)) rfl hz.symm rfl hst hf hdg (fun v u hp => ?_))
  obtain ⟨r, rfl, h⟩ := hp
  exact j_swap (kk r u h)
theorem jl_cI1 (X : CX K cc nL own D Y) {ad : Nat → Nat} {t : CS} {z : MI} {j mc ms idx : Nat} {a0 : Value} {φ : Int32 → CS → Prop} (hR : kR K = room_1) (hM : CF z 16 j mc ms [a0] t (pI φ)) (cw : CwV own idx 1 z) (hz : z.1.cls = RX6) (hj : j ≤ 40) (hmL : z.2.2.1 ≤ 40) (hst : (st.map fun v => v.category).sum ≤ 8) (hf : cells + mc ≤ 600000 ∧ slots + ms ≤ 7302250) (hdg : decode cc pc = .ok (.invokevirtual idx, 3)) (kk : ∀ (r : Int32) (u : CS), φ r u → JJ K D (cells + mc) (slots + ms) (WC ad Y u ++ wr) lv (pc + 3) (.int r :: st)) : JJ K D cells slots (WC ad Y t ++ wr) lv pc (a0 :: .ref (ad 16) :: st) := by
  refine jl_callV (As := [a0]) (q0 := 0) (ci := 6) X hR (hM D Y ad) cw hj hmL rfl (cq := (RX6, TX6, 12)) rfl hz.symm rfl hst hf hdg (fun v u hp => ?_)
  obtain ⟨r, rfl, h⟩ := hp
  exact kk r u h
theorem jl_mI1 (X : CX K cc nL own D Y) {h0 : Nat} {ad : Nat → Nat} {S : MS} {z : MI} {j idx : Nat} {a0 : Value} {φ : Int32 → MS → Prop} (hR : kR K = room_1) (hM : MM z j [a0] S (pI φ)) (cw : CwV own idx 1 z) (hz : z.1.cls = RX7) (hj : j ≤ 40) (hmL : z.2.2.1 ≤ 40) (hst : (st.map fun v => v.category).sum ≤ 8) (hf : cells ≤ 600000 ∧ slots ≤ 7302250) (hdg : decode cc pc = .ok (.invokevirtual idx, 3)) (kk : ∀ (r : Int32) (u : MS), φ r u → JJ K D cells slots (w1 ++ WM h0 ad Y u) lv (pc + 3) (.int r :: st)) : JJ K D cells slots (w1 ++ WM h0 ad Y S) lv pc (a0 :: .ref h0 :: st) := by
  refine j_swap (jl_callV (mc := 0) (ms := 0) (As := [a0]) (q0 := 0) (ci := 7) X hR (hM D Y h0 ad) cw hj hmL rfl (cq := (RX7, TX7, 25)) rfl hz.symm rfl hst hf hdg (fun v u hp => ?_))
  obtain ⟨r, rfl, h⟩ := hp
  exact j_swap (kk r u h)
theorem jl_cD1 (X : CX K cc nL own D Y) {ad : Nat → Nat} {t : CS} {z : MI} {j mc ms idx : Nat} {a0 : Value} {φ : UInt64 → CS → Prop} (hR : kR K = room_1) (hM : CF z 16 j mc ms [a0] t (pD φ)) (cw : CwV own idx 1 z) (hz : z.1.cls = RX6) (hj : j ≤ 40) (hmL : z.2.2.1 ≤ 40) (hst : (st.map fun v => v.category).sum ≤ 8) (hf : cells + mc ≤ 600000 ∧ slots + ms ≤ 7302250) (hdg : decode cc pc = .ok (.invokevirtual idx, 3)) (kk : ∀ (r : UInt64) (u : CS), φ r u → JJ K D (cells + mc) (slots + ms) (WC ad Y u ++ wr) lv (pc + 3) (.double r :: st)) : JJ K D cells slots (WC ad Y t ++ wr) lv pc (a0 :: .ref (ad 16) :: st) := by
  refine jl_callV (As := [a0]) (q0 := 0) (ci := 6) X hR (hM D Y ad) cw hj hmL rfl (cq := (RX6, TX6, 12)) rfl hz.symm rfl hst hf hdg (fun v u hp => ?_)
  obtain ⟨r, rfl, h⟩ := hp
  exact kk r u h
theorem jl_mD1 (X : CX K cc nL own D Y) {h0 : Nat} {ad : Nat → Nat} {S : MS} {z : MI} {j idx : Nat} {a0 : Value} {φ : UInt64 → MS → Prop} (hR : kR K = room_1) (hM : MM z j [a0] S (pD φ)) (cw : CwV own idx 1 z) (hz : z.1.cls = RX7) (hj : j ≤ 40) (hmL : z.2.2.1 ≤ 40) (hst : (st.map fun v => v.category).sum ≤ 8) (hf : cells ≤ 600000 ∧ slots ≤ 7302250) (hdg : decode cc pc = .ok (.invokevirtual idx, 3)) (kk : ∀ (r : UInt64) (u : MS), φ r u → JJ K D cells slots (w1 ++ WM h0 ad Y u) lv (pc + 3) (.double r :: st)) : JJ K D cells slots (w1 ++ WM h0 ad Y S) lv pc (a0 :: .ref h0 :: st) := by
  refine j_swap (jl_callV (mc := 0) (ms := 0) (As := [a0]) (q0 := 0) (ci := 7) X hR (hM D Y h0 ad) cw hj hmL rfl (cq := (RX7, TX7, 25)) rfl hz.symm rfl hst hf hdg (fun v u hp => ?_))
  obtain ⟨r, rfl, h⟩ := hp
  exact j_swap (kk r u h)
theorem jl_cL1 (X : CX K cc nL own D Y) {ad : Nat → Nat} {t : CS} {z : MI} {j mc ms idx : Nat} {a0 : Value} {φ : Int64 → CS → Prop} (hR : kR K = room_1) (hM : CF z 16 j mc ms [a0] t (pL φ)) (cw : CwV own idx 1 z) (hz : z.1.cls = RX6) (hj : j ≤ 40) (hmL : z.2.2.1 ≤ 40) (hst : (st.map fun v => v.category).sum ≤ 8) (hf : cells + mc ≤ 600000 ∧ slots + ms ≤ 7302250) (hdg : decode cc pc = .ok (.invokevirtual idx, 3)) (kk : ∀ (r : Int64) (u : CS), φ r u → JJ K D (cells + mc) (slots + ms) (WC ad Y u ++ wr) lv (pc + 3) (.long r :: st)) : JJ K D cells slots (WC ad Y t ++ wr) lv pc (a0 :: .ref (ad 16) :: st) := by
  refine jl_callV (As := [a0]) (q0 := 0) (ci := 6) X hR (hM D Y ad) cw hj hmL rfl (cq := (RX6, TX6, 12)) rfl hz.symm rfl hst hf hdg (fun v u hp => ?_)
  obtain ⟨r, rfl, h⟩ := hp
  exact kk r u h
theorem jl_mL1 (X : CX K cc nL own D Y) {h0 : Nat} {ad : Nat → Nat} {S : MS} {z : MI} {j idx : Nat} {a0 : Value} {φ : Int64 → MS → Prop} (hR : kR K = room_1) (hM : MM z j [a0] S (pL φ)) (cw : CwV own idx 1 z) (hz : z.1.cls = RX7) (hj : j ≤ 40) (hmL : z.2.2.1 ≤ 40) (hst : (st.map fun v => v.category).sum ≤ 8) (hf : cells ≤ 600000 ∧ slots ≤ 7302250) (hdg : decode cc pc = .ok (.invokevirtual idx, 3)) (kk : ∀ (r : Int64) (u : MS), φ r u → JJ K D cells slots (w1 ++ WM h0 ad Y u) lv (pc + 3) (.long r :: st)) : JJ K D cells slots (w1 ++ WM h0 ad Y S) lv pc (a0 :: .ref h0 :: st) := by
  refine j_swap (jl_callV (mc := 0) (ms := 0) (As := [a0]) (q0 := 0) (ci := 7) X hR (hM D Y h0 ad) cw hj hmL rfl (cq := (RX7, TX7, 25)) rfl hz.symm rfl hst hf hdg (fun v u hp => ?_))
  obtain ⟨r, rfl, h⟩ := hp
  exact j_swap (kk r u h)
theorem jl_cI2 (X : CX K cc nL own D Y) {ad : Nat → Nat} {t : CS} {z : MI} {j mc ms idx : Nat} {a0 a1 : Value} {φ : Int32 → CS → Prop} (hR : kR K = room_1) (hM : CF z 16 j mc ms [a0, a1] t (pI φ)) (cw : CwV own idx 2 z) (hz : z.1.cls = RX6) (hj : j ≤ 40) (hmL : z.2.2.1 ≤ 40) (hst : (st.map fun v => v.category).sum ≤ 8) (hf : cells + mc ≤ 600000 ∧ slots + ms ≤ 7302250) (hdg : decode cc pc = .ok (.invokevirtual idx, 3)) (kk : ∀ (r : Int32) (u : CS), φ r u → JJ K D (cells + mc) (slots + ms) (WC ad Y u ++ wr) lv (pc + 3) (.int r :: st)) : JJ K D cells slots (WC ad Y t ++ wr) lv pc (a1 :: a0 :: .ref (ad 16) :: st) := by
  refine jl_callV (As := [a0, a1]) (q0 := 0) (ci := 6) X hR (hM D Y ad) cw hj hmL rfl (cq := (RX6, TX6, 12)) rfl hz.symm rfl hst hf hdg (fun v u hp => ?_)
  obtain ⟨r, rfl, h⟩ := hp
  exact kk r u h
theorem jl_mI2 (X : CX K cc nL own D Y) {h0 : Nat} {ad : Nat → Nat} {S : MS} {z : MI} {j idx : Nat} {a0 a1 : Value} {φ : Int32 → MS → Prop} (hR : kR K = room_1) (hM : MM z j [a0, a1] S (pI φ)) (cw : CwV own idx 2 z) (hz : z.1.cls = RX7) (hj : j ≤ 40) (hmL : z.2.2.1 ≤ 40) (hst : (st.map fun v => v.category).sum ≤ 8) (hf : cells ≤ 600000 ∧ slots ≤ 7302250) (hdg : decode cc pc = .ok (.invokevirtual idx, 3)) (kk : ∀ (r : Int32) (u : MS), φ r u → JJ K D cells slots (w1 ++ WM h0 ad Y u) lv (pc + 3) (.int r :: st)) : JJ K D cells slots (w1 ++ WM h0 ad Y S) lv pc (a1 :: a0 :: .ref h0 :: st) := by
  refine j_swap (jl_callV (mc := 0) (ms := 0) (As := [a0, a1]) (q0 := 0) (ci := 7) X hR (hM D Y h0 ad) cw hj hmL rfl (cq := (RX7, TX7, 25)) rfl hz.symm rfl hst hf hdg (fun v u hp => ?_))
  obtain ⟨r, rfl, h⟩ := hp
  exact j_swap (kk r u h)
theorem jl_cI3 (X : CX K cc nL own D Y) {ad : Nat → Nat} {t : CS} {z : MI} {j mc ms idx : Nat} {a0 a1 a2 : Value} {φ : Int32 → CS → Prop} (hR : kR K = room_1) (hM : CF z 16 j mc ms [a0, a1, a2] t (pI φ)) (cw : CwV own idx 3 z) (hz : z.1.cls = RX6) (hj : j ≤ 40) (hmL : z.2.2.1 ≤ 40) (hst : (st.map fun v => v.category).sum ≤ 8) (hf : cells + mc ≤ 600000 ∧ slots + ms ≤ 7302250) (hdg : decode cc pc = .ok (.invokevirtual idx, 3)) (kk : ∀ (r : Int32) (u : CS), φ r u → JJ K D (cells + mc) (slots + ms) (WC ad Y u ++ wr) lv (pc + 3) (.int r :: st)) : JJ K D cells slots (WC ad Y t ++ wr) lv pc (a2 :: a1 :: a0 :: .ref (ad 16) :: st) := by
  refine jl_callV (As := [a0, a1, a2]) (q0 := 0) (ci := 6) X hR (hM D Y ad) cw hj hmL rfl (cq := (RX6, TX6, 12)) rfl hz.symm rfl hst hf hdg (fun v u hp => ?_)
  obtain ⟨r, rfl, h⟩ := hp
  exact kk r u h
theorem jl_mI3 (X : CX K cc nL own D Y) {h0 : Nat} {ad : Nat → Nat} {S : MS} {z : MI} {j idx : Nat} {a0 a1 a2 : Value} {φ : Int32 → MS → Prop} (hR : kR K = room_1) (hM : MM z j [a0, a1, a2] S (pI φ)) (cw : CwV own idx 3 z) (hz : z.1.cls = RX7) (hj : j ≤ 40) (hmL : z.2.2.1 ≤ 40) (hst : (st.map fun v => v.category).sum ≤ 8) (hf : cells ≤ 600000 ∧ slots ≤ 7302250) (hdg : decode cc pc = .ok (.invokevirtual idx, 3)) (kk : ∀ (r : Int32) (u : MS), φ r u → JJ K D cells slots (w1 ++ WM h0 ad Y u) lv (pc + 3) (.int r :: st)) : JJ K D cells slots (w1 ++ WM h0 ad Y S) lv pc (a2 :: a1 :: a0 :: .ref h0 :: st) := by
  refine j_swap (jl_callV (mc := 0) (ms := 0) (As := [a0, a1, a2]) (q0 := 0) (ci := 7) X hR (hM D Y h0 ad) cw hj hmL rfl (cq := (RX7, TX7, 25)) rfl hz.symm rfl hst hf hdg (fun v u hp => ?_))
  obtain ⟨r, rfl, h⟩ := hp
  exact j_swap (kk r u h)
theorem jl_cI4 (X : CX K cc nL own D Y) {ad : Nat → Nat} {t : CS} {z : MI} {j mc ms idx : Nat} {a0 a1 a2 a3 : Value} {φ : Int32 → CS → Prop} (hR : kR K = room_1) (hM : CF z 16 j mc ms [a0, a1, a2, a3] t (pI φ)) (cw : CwV own idx 4 z) (hz : z.1.cls = RX6) (hj : j ≤ 40) (hmL : z.2.2.1 ≤ 40) (hst : (st.map fun v => v.category).sum ≤ 8) (hf : cells + mc ≤ 600000 ∧ slots + ms ≤ 7302250) (hdg : decode cc pc = .ok (.invokevirtual idx, 3)) (kk : ∀ (r : Int32) (u : CS), φ r u → JJ K D (cells + mc) (slots + ms) (WC ad Y u ++ wr) lv (pc + 3) (.int r :: st)) : JJ K D cells slots (WC ad Y t ++ wr) lv pc (a3 :: a2 :: a1 :: a0 :: .ref (ad 16) :: st) := by
  refine jl_callV (As := [a0, a1, a2, a3]) (q0 := 0) (ci := 6) X hR (hM D Y ad) cw hj hmL rfl (cq := (RX6, TX6, 12)) rfl hz.symm rfl hst hf hdg (fun v u hp => ?_)
  obtain ⟨r, rfl, h⟩ := hp
  exact kk r u h
theorem jl_mI4 (X : CX K cc nL own D Y) {h0 : Nat} {ad : Nat → Nat} {S : MS} {z : MI} {j idx : Nat} {a0 a1 a2 a3 : Value} {φ : Int32 → MS → Prop} (hR : kR K = room_1) (hM : MM z j [a0, a1, a2, a3] S (pI φ)) (cw : CwV own idx 4 z) (hz : z.1.cls = RX7) (hj : j ≤ 40) (hmL : z.2.2.1 ≤ 40) (hst : (st.map fun v => v.category).sum ≤ 8) (hf : cells ≤ 600000 ∧ slots ≤ 7302250) (hdg : decode cc pc = .ok (.invokevirtual idx, 3)) (kk : ∀ (r : Int32) (u : MS), φ r u → JJ K D cells slots (w1 ++ WM h0 ad Y u) lv (pc + 3) (.int r :: st)) : JJ K D cells slots (w1 ++ WM h0 ad Y S) lv pc (a3 :: a2 :: a1 :: a0 :: .ref h0 :: st) := by
  refine j_swap (jl_callV (mc := 0) (ms := 0) (As := [a0, a1, a2, a3]) (q0 := 0) (ci := 7) X hR (hM D Y h0 ad) cw hj hmL rfl (cq := (RX7, TX7, 25)) rfl hz.symm rfl hst hf hdg (fun v u hp => ?_))
  obtain ⟨r, rfl, h⟩ := hp
  exact j_swap (kk r u h)
end
/-! the month goes up by one at most -/
theorem ite_at {c : Prop} [Decidable c] (a b : MS) (k j : Nat) : (if c then a else b) k j = if c then a k j else b k j := by split <;> rfl
section
variable (S : MS) (x y z w : Int32)
theorem m0_addCS : addCS S x y 21 0 = S 21 0 := by simp only [addCS, ite_at, new_nk (show 6 < 21 by omega), ite_self]
theorem m0_rmCS : rmCS S x 21 0 = S 21 0 := by simp only [rmCS, ite_at, uM_nk (show (21 : Nat) ≠ 0 by omega), ite_self]
theorem m0_bookS : bookS S x y z w 21 0 = S 21 0 := by simp only [bookS, setSp, ite_at, uM_nk (show (21 : Nat) ≠ 5 by omega), uM_nk (show (21 : Nat) ≠ 5 + 1 by omega), ite_self]
theorem m0_admF : ∀ (n : Nat) (S : MS), admF n S 21 0 = S 21 0
  | 0, _ => rfl
  | n + 1, S => by
    rw [admF_s]
    cases nxt S 24 with
    | none => rfl
    | some c => exact (m0_admF n _).trans (uM_nk (by omega))
theorem m0_relS : relS S x 21 0 = S 21 0 := by simp only [relS, ite_at, uM_nk (show (21 : Nat) ≠ 3 by omega), uM_nk (show (21 : Nat) ≠ 4 by omega), ite_self]
theorem m0_addES : addES S 21 0 = S 21 0 := by simp only [addES, ite_at, nwE_nk (show 21 < 7 ∨ 10 < 21 by omega), ite_self]
theorem m0_rmES : rmES S x 21 0 = S 21 0 := by simp only [rmES, ite_at, uM_nk (show (21 : Nat) ≠ 7 by omega), ite_self]
theorem m0_workS : workS S x y z w 21 0 = S 21 0 := by simp only [workS, setSp, ite_at, uM_nk (show (21 : Nat) ≠ 8 by omega), uM_nk (show (21 : Nat) ≠ 8 + 1 by omega), ite_self]
theorem m0_holS (b : Bool) : holS S x y b 21 0 = S 21 0 := by simp only [holS, ite_at, uM_nk (show (21 : Nat) ≠ 10 by omega), ite_self]
theorem m0_ratS : ratS S x y 21 0 = S 21 0 := by simp only [ratS, ite_at, uM_nk (show (21 : Nat) ≠ 11 by omega), ite_self]
theorem m0_rateS : rateS S x y 21 0 = S 21 0 := by simp only [rateS, ite_at, uM_nk (show (21 : Nat) ≠ 12 by omega), ite_self]
theorem m0_limS : limS S x 21 0 = S 21 0 := by simp only [limS, ite_at, uM_ni (show (0 : Nat) ≠ 1 by omega), ite_self]
theorem m0_subS : subS S x y z 21 0 = S 21 0 := by
  have e : ∀ a b c, subNew S a b c 21 0 = S 21 0 := fun a b c => by
    unfold subNew
    rw [uM_ni (by omega), uM_nk (by omega), uM_nk (by omega), uM_nk (by omega)]
  simp only [subS, ite_at, e, ite_self]
theorem m0_covS : covS S x 21 0 = S 21 0 := by
  have e : ∀ w d, kpS S w d 21 0 = S 21 0 := fun w d => if_neg (by omega)
  simp only [covS, ite_at, e, ite_self]
theorem m0_typS : typS S x 21 0 = S 21 0 := by simp only [typS, ite_at, uM_ni (show (0 : Nat) ≠ 3 by omega), uM_nk (show (21 : Nat) ≠ 17 by omega), ite_self]
theorem m0_ldS : ldS S x 21 0 = S 21 0 := by
  have e : ∀ c B, spT S c B 21 0 = S 21 0 := fun c B => by rw [spT_is]; exact spF_nk (by omega) (by omega)
  simp only [ldS, ite_at, e, ite_self]
end
theorem band (x : Int32) : ∃ m : Nat, m < 64 ∧ x &&& nI 63 = nI m := ⟨x.toBitVec.toNat % 2 ^ 6, Nat.mod_lt _ (by decide), pk_and x 6 (by decide)⟩
theorem lack5 {i L : Nat} (hi : i < 1000000) (hL : L < 1000000) : nI i ≤ nI L - nI 5 ↔ i + 5 ≤ L := by
  rw [Int32.le_iff_toInt_le, pk_sub_toInt (by omega) (by omega), nI_toInt (by omega)]
  omega
theorem ne0 (x : Int32) : ∃ b : Bool, b = decide (x ≠ 0) := ⟨_, rfl⟩
