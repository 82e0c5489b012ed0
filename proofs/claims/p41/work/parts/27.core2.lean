/-! rows of constructors, over any world -/
theorem MT.ofI {T : Type} {z : MI} {k mc ms : Nat} {D : va_G} {Y : Nat → ClassId} {av : List Value} {w0 : va_W} {Wf : T → va_W} {post : Option Value → T → Prop} (lv : List (Nat × Value)) (hy : plainName z.1.cls = true) (hlv : lv_args 0 av = lv) (hn : (lg_sl av).length ≤ z.2.2.1)
    (body : ∀ K : Ctx, kR K = Rm k mc ms → CX K z.2.1 z.2.2.1 z.1.cls D Y → EX K post Wf D mc ms z.2.2.2 → (kh K).name = z.1.name → JJ K D 0 0 w0 lv 0 []) : MT z k mc ms D Y av w0 Wf post := by
  intro l sz
  refine Met.ofW (cc := z.2.1) (maxL := z.2.2.1) (ret := z.2.2.2) hy rfl ?_
  intro p e s m args below meth c s₁ B hml hv
  obtain ⟨rfl, hsz, hP, hK, hD0⟩ := hv
  have hts := atoms_spec (ws := wg z) B.pre
  have hown : s.vm.findClass z.1.cls = some m.cls := findClass_of_methodNamed B.named
  have hnm := (name_of_methodNamed B.named B.method).1
  subst hsz
  have hD := hD0.self (sz := s.heap.size)
  have hl := lv_entry av (n := z.2.2.1) hn
  rw [lg_entry_eq]
  have b := body (p, l, e, Rm k mc ms, s, m, av.toArray, below, meth, c, va_A w0 s.heap.size, MQ below (QG post Wf D (va_A w0 s.heap.size)) av.toArray s mc ms (va_A w0 s.heap.size)) rfl
    ⟨⟨B.exec, B.bytes, hml, hown, fun w hw => hts w (List.mem_cons_of_mem _ hw)⟩, hK, fun q h => Or.inr h, B.notSynchronized⟩ ⟨rfl, B.returns⟩ hnm
  refine b s.heap [] _ hP hD va_S.rf ?_
  rw [← hlv]
  show lv_has _ c.maxLocals _
  rw [hml]
  exact hl
section
variable {K : Ctx} {cc : ByteArray} {nL : Nat} {own : String} {D : va_G} {Y : Nat → ClassId} {cells slots : Nat} {ws : va_W} {lv : List (Nat × Value)} {pc : Nat} {st : List Value}
theorem j_objInit (X : CX K cc nL own D Y) {k mc ms idx a : Nat} (hR : kR K = Rm k mc ms) (hk : 1 ≤ k) (hl : Cond.methodLink own idx objectInit ∈ lw_g) (hst : (st.map fun v => v.category).sum ≤ 8) (hdg : decode cc pc = .ok (.invokespecial idx, 3)) (kk : JJ K D cells slots ws lv (pc + 3) st) : JJ K D cells slots ws lv pc (.ref a :: st) := by
  intro H locs ls hP hD hS hlv
  have hts := X.1.2.2.2.2
  refine W.objInit X.1.1 X.1.2.1 X.1.2.2.2.1 (hts _ hl) (hts _ oi_i) (hts _ oi_c) rfl hlv.1 rfl hdg (by rw [hR]; exact hk) ?_ (kk H locs ls hP hD hS hlv)
  rw [hR]
  have := lv_room (m := km K) (pc := pc) (ls := ls) (rest := .ref a :: st) hst
  show 2 * _ + _ + 12 ≤ 64 * k
  omega
theorem j_newI (X : CX K cc nL own D Y) {k mc ms N : Nat} (hR : kR K = Rm k mc ms) (hN : N < 100000) (hc : cells + 1 ≤ mc) (hs : slots + N ≤ ms) (hdg : decode cc pc = .ok (.newarray .int, 2)) (kk : ∀ q : Nat, JJ K D (cells + 1) (slots + N) (ws ++ [(q, .inl (Y 0, N, .inl (fun _ => 0)))]) lv (pc + 2) (.ref q :: st)) : JJ K D cells slots ws lv pc (.int (nI N) :: st) := by
  intro H locs ls hP hD hS hlv
  have hts := X.1.2.2.2.2
  have hk0 := (X.2.1.1.2 0 _ rfl).2
  refine va_newa (atype := .int) (a0 := (N, .inl (fun _ => 0))) (N' := N) X.1.1 X.1.2.1 (hts _ ac_int) rfl X.2.1.1 hP hD hS X.2.2.1 (fun _ => rfl) (nI_pos (by omega)) (nI_clamp (by omega)) (by show N * 4 ≤ 536870912; omega) (by rw [hR]; exact hc) (by rw [hR]; exact hs) hdg (fun q cA H1 hK1 hP1 hD1 hS1 => ?_)
  have hk1 := (hK1.2 (tyL Y).length (cA, .int) (by rw [List.getElem?_append_right (Nat.le_refl _)]; simp; rfl)).2
  have he : Y 0 = cA := by
    have h1 : (ks K).vm.findClass ("[" ++ (FieldType.int).toString) = some (Y 0) := hk0
    have h2 : (ks K).vm.findClass ("[" ++ (FieldType.int).toString) = some cA := hk1
    exact Option.some.inj (h1.symm.trans h2)
  rw [← he] at hP1 hD1
  exact kk q H1 locs ls hP1 hD1 hS1 hlv
theorem j_newC (X : CX K cc nL own D Y) {k mc ms N : Nat} (hR : kR K = Rm k mc ms) (hN : N < 100000) (hc : cells + 1 ≤ mc) (hs : slots + N ≤ ms) (hdg : decode cc pc = .ok (.newarray .char, 2)) (kk : ∀ q : Nat, JJ K D (cells + 1) (slots + N) (ws ++ [(q, .inl (Y 1, N, .inl (fun _ => 0)))]) lv (pc + 2) (.ref q :: st)) : JJ K D cells slots ws lv pc (.int (nI N) :: st) := by
  intro H locs ls hP hD hS hlv
  have hts := X.1.2.2.2.2
  have hk0 := (X.2.1.1.2 1 _ rfl).2
  refine va_newa (atype := .char) (a0 := (N, .inl (fun _ => 0))) (N' := N) X.1.1 X.1.2.1 (hts _ ac_char) rfl X.2.1.1 hP hD hS X.2.2.1 (fun _ => rfl) (nI_pos (by omega)) (nI_clamp (by omega)) (by show N * 2 ≤ 536870912; omega) (by rw [hR]; exact hc) (by rw [hR]; exact hs) hdg (fun q cA H1 hK1 hP1 hD1 hS1 => ?_)
  have hk1 := (hK1.2 (tyL Y).length (cA, .char) (by rw [List.getElem?_append_right (Nat.le_refl _)]; simp; rfl)).2
  have he : Y 1 = cA := by
    have h1 : (ks K).vm.findClass ("[" ++ (FieldType.char).toString) = some (Y 1) := hk0
    have h2 : (ks K).vm.findClass ("[" ++ (FieldType.char).toString) = some cA := hk1
    exact Option.some.inj (h1.symm.trans h2)
  rw [← he] at hP1 hD1
  exact kk q H1 locs ls hP1 hD1 hS1 hlv
/-- a field of the own class, written in its constructor (final) or anywhere (not final), or read -/
theorem j_putF (X : CX K cc nL own D Y) {T : u_T} {N ci idx a : Nat} (hly : ∀ w ∈ u_ws own T N, w ∈ lw_g) (ty0 : Nat → FieldType) (hty : ∀ k, k < N → parseFieldDescriptor (T k).2.2.1 = some (ty0 k)) (hnm : ∀ a, a < N → ∀ b, b < N → a ≠ b → (T a).2.1 ≠ (T b).2.1) (q0 : Nat) {fs : List Value} (he : ws[q0]? = some (a, .inr (ci, fs))) (hc : vwCl[ci]? = some (own, T, N)) (f : Nat) (hf : f < N) (hl : Cond.fieldLink own idx (T f).1 (T f).2.1 (T f).2.2.1 ∈ lw_g) (hfin : (T f).2.2.2 = true) (hin : (kh K).name = "<init>") (hdecl : (T f).1 = own) {ty : FieldType} {v : Value} (hd : parseFieldDescriptor (T f).2.2.1 = some ty) (hn : narrow ty v = v) (hfit : fits ty v = true) (hlen : f < fs.length) {w2 : va_W} (hset : ws.set q0 (a, .inr (ci, fs.set f v)) = w2) (hdg : decode cc pc = .ok (.putfield idx, 3)) (kk : JJ K D cells slots w2 lv (pc + 3) st) : JJ K D cells slots ws lv pc (v :: .ref a :: st) := fun H locs ls hP hD hS hlv =>
  va_putF X.1.1 X.1.2.1 (Ts := lw_g) X.1.2.2.2.2 hly ty0 hty hnm X.1.2.2.2.1 X.2.1.1 hP hD hS q0 he hc f hf (X.1.2.2.2.2 _ hl) (fun _ h => h) hfin hin hdecl hd hn hfit hlen hdg (fun H1 locs1 hP1 hD1 hS1 => kk H1 locs1 ls (hset ▸ hP1) (hset ▸ hD1) hS1 hlv)
theorem j_putf (X : CX K cc nL own D Y) {C : String} {T : u_T} {N ci idx a : Nat} (hly : ∀ w ∈ u_ws C T N, w ∈ lw_g) (ty0 : Nat → FieldType) (hty : ∀ k, k < N → parseFieldDescriptor (T k).2.2.1 = some (ty0 k)) (hnm : ∀ a, a < N → ∀ b, b < N → a ≠ b → (T a).2.1 ≠ (T b).2.1) (q0 : Nat) {fs : List Value} (he : ws[q0]? = some (a, .inr (ci, fs))) (hc : vwCl[ci]? = some (C, T, N)) (f : Nat) (hf : f < N) (hl : Cond.fieldLink own idx (T f).1 (T f).2.1 (T f).2.2.1 ∈ lw_g) (hfin : (T f).2.2.2 = false) {ty : FieldType} {v : Value} (hd : parseFieldDescriptor (T f).2.2.1 = some ty) (hn : narrow ty v = v) (hfit : fits ty v = true) (hlen : f < fs.length) {w2 : va_W} (hset : ws.set q0 (a, .inr (ci, fs.set f v)) = w2) (hdg : decode cc pc = .ok (.putfield idx, 3)) (kk : JJ K D cells slots w2 lv (pc + 3) st) : JJ K D cells slots ws lv pc (v :: .ref a :: st) := fun H locs ls hP hD hS hlv =>
  va_put X.1.1 X.1.2.1 (Ts := lw_g) X.1.2.2.2.2 hly ty0 hty hnm X.1.2.2.2.1 X.2.1.1 hP hD hS q0 he hc f hf (X.1.2.2.2.2 _ hl) (fun _ h => h) hfin hd hn hfit hlen hdg (fun H1 locs1 hP1 hD1 hS1 => kk H1 locs1 ls (hset ▸ hP1) (hset ▸ hD1) hS1 hlv)
theorem j_getf (X : CX K cc nL own D Y) {C : String} {T : u_T} {N ci idx a : Nat} (hly : ∀ w ∈ u_ws C T N, w ∈ lw_g) (q0 : Nat) {fs : List Value} (he : ws[q0]? = some (a, .inr (ci, fs))) (hc : vwCl[ci]? = some (C, T, N)) (f : Nat) (hf : f < N) (hl : Cond.fieldLink own idx (T f).1 (T f).2.1 (T f).2.2.1 ∈ lw_g) {v : Value} (hv : fs[f]? = some v) (hdg : decode cc pc = .ok (.getfield idx, 3)) (kk : JJ K D cells slots ws lv (pc + 3) (v :: st)) : JJ K D cells slots ws lv pc (.ref a :: st) := fun H locs ls hP hD hS hlv =>
  va_get X.1.1 X.1.2.1 (Ts := lw_g) X.1.2.2.2.2 hly X.1.2.2.2.1 X.2.1.1 hP q0 he hc f hf (X.1.2.2.2.2 _ hl) (fun _ h => h) hv hdg (kk H locs ls hP hD hS hlv)
end
/-! the reference's constructor: after n rows are made -/
def S00 : MS := fun a j => if a = 21 ∧ j = 1 then 20 else 0
def S0M : MS := uM (uM (uM (uM (uM (uM S00 11 0 4) 11 1 6) 11 2 10) 12 0 400) 12 1 300) 12 2 250
theorem BD_S00 : BD S00 := by
  intro k i
  unfold S00
  split <;> omega
