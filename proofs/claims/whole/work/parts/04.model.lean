/-! the reference's state: S k i is place i of its row k (0 isChild .. 20 costs, in the order of the fields); S 21 holds month, roomLimit, substitutes, textLength -/
abbrev MS : Type := Nat → Nat → Nat
def lenM (k : Nat) : Nat := ([24, 24, 24, 24, 24, 120, 120, 8, 40, 40, 416, 3, 3, 4, 4, 4, 5, 60, 5, 5, 7776] : List Nat).getD k 0
def fsM (ad : Nat → Nat) (S : MS) : List Value := [.int (nI (S 21 0)), .ref (ad 0), .ref (ad 1), .ref (ad 2), .ref (ad 3), .ref (ad 4), .ref (ad 5), .ref (ad 6), .ref (ad 7), .ref (ad 8), .ref (ad 9), .ref (ad 10), .ref (ad 11), .ref (ad 12), .int (nI (S 21 1)), .int (nI (S 21 2)), .ref (ad 13), .ref (ad 14), .ref (ad 15), .ref (ad 16), .ref (ad 17), .int (nI (S 21 3)), .ref (ad 18), .ref (ad 19), .ref (ad 20)]
def WM (h0 : Nat) (ad : Nat → Nat) (Y : Nat → ClassId) (S : MS) : va_W := (h0, .inr (7, fsM ad S)) :: (List.range 21).map (fun k => (ad k, .inl (Y 0, lenM k, .inl (fun j => nI (S k j)))))
def uM (S : MS) (k i v : Nat) : MS := fun a j => if a = k ∧ j = i then v else S a j
theorem uM_eq (S : MS) (k i v : Nat) : uM S k i v k i = v := if_pos ⟨rfl, rfl⟩
theorem uM_ne {S : MS} {k i v a j : Nat} (h : ¬ (a = k ∧ j = i)) : uM S k i v a j = S a j := if_neg h
theorem uM_nk {S : MS} {k i v a j : Nat} (h : a ≠ k) : uM S k i v a j = S a j := if_neg (fun q => h q.1)
theorem uM_ni {S : MS} {k i v a j : Nat} (h : j ≠ i) : uM S k i v a j = S a j := if_neg (fun q => h q.2)
def BD (S : MS) : Prop := ∀ k i : Nat, S k i < 16777216
theorem BD_u {S : MS} {k i v : Nat} (h : BD S) (hv : v < 16777216) : BD (uM S k i v) := by
  intro a j
  unfold uM
  split
  · exact hv
  · exact h a j
section
variable {h0 : Nat} {ad : Nat → Nat} {Y : Nat → ClassId} {S : MS}
theorem WM_0 : (WM h0 ad Y S)[0]? = some (h0, .inr (7, fsM ad S)) := rfl
theorem WM_a {k : Nat} (hk : k < 21) : (WM h0 ad Y S)[k + 1]? = some (ad k, .inl (Y 0, lenM k, .inl (fun j => nI (S k j)))) := by
  show ((List.range 21).map _)[k]? = _
  rw [List.getElem?_map, List.getElem?_range hk]
  rfl
theorem WM_set {k i v : Nat} (hk : k < 21) : (WM h0 ad Y S).set (k + 1) (ad k, .inl (Y 0, lenM k, .inl (upd (fun j => nI (S k j)) i (nI v)))) = WM h0 ad Y (uM S k i v) := by
  apply List.ext_getElem?
  intro j
  rcases j with _ | j
  · show some (h0, Sum.inr (7, fsM ad S)) = some (h0, Sum.inr (7, fsM ad (uM S k i v)))
    have e : ∀ t : Nat, uM S k i v 21 t = S 21 t := fun t => uM_nk (by omega)
    simp only [fsM, e]
  · show (((List.range 21).map _).set k _)[j]? = ((List.range 21).map _)[j]?
    by_cases hj : j < 21
    · by_cases hjk : j = k
      · subst hjk
        rw [List.getElem?_set_self (by simpa using hj), List.getElem?_map, List.getElem?_range hj]
        refine congrArg (fun f => some (ad j, (Sum.inl (Y 0, lenM j, Sum.inl f) : va_E))) (funext fun q => ?_)
        by_cases hq : q = i
        · subst hq
          simp [upd, uM]
        · simp [upd, uM, hq]
      · rw [List.getElem?_set_ne (Ne.symm hjk), List.getElem?_map, List.getElem?_map, List.getElem?_range hj]
        refine congrArg (fun f => some (ad j, (Sum.inl (Y 0, lenM j, Sum.inl f) : va_E))) (funext fun q => ?_)
        rw [uM_nk hjk]
    · rw [List.getElem?_eq_none (by simp; omega), List.getElem?_eq_none (by simp; omega)]
theorem WM_arr {k v : Nat} {S' : MS} (h : ∀ a j, a < 21 → S' a j = S a j) (h2 : fsM ad S' = (fsM ad S).set k (.int (nI v))) : (WM h0 ad Y S).set 0 (h0, .inr (7, (fsM ad S).set k (.int (nI v)))) = WM h0 ad Y S' := by
  rw [← h2]
  show (h0, Sum.inr (7, fsM ad S')) :: (List.range 21).map _ = (h0, Sum.inr (7, fsM ad S')) :: (List.range 21).map _
  congr 1
  apply List.map_congr_left
  intro a ha
  have := List.mem_range.mp ha
  refine congrArg (fun f => (ad a, (Sum.inl (Y 0, lenM a, Sum.inl f) : va_E))) (funext fun q => ?_)
  rw [h a q this]

theorem WM_s0 {v : Nat} : (WM h0 ad Y S).set 0 (h0, .inr (7, (fsM ad S).set 0 (.int (nI v)))) = WM h0 ad Y (uM S 21 0 v) := by
  refine WM_arr (fun a j ha => uM_nk (by omega)) ?_
  simp [fsM, uM]
theorem WM_s1 {v : Nat} : (WM h0 ad Y S).set 0 (h0, .inr (7, (fsM ad S).set 14 (.int (nI v)))) = WM h0 ad Y (uM S 21 1 v) := by
  refine WM_arr (fun a j ha => uM_nk (by omega)) ?_
  simp [fsM, uM]
theorem WM_s2 {v : Nat} : (WM h0 ad Y S).set 0 (h0, .inr (7, (fsM ad S).set 15 (.int (nI v)))) = WM h0 ad Y (uM S 21 2 v) := by
  refine WM_arr (fun a j ha => uM_nk (by omega)) ?_
  simp [fsM, uM]
theorem WM_s3 {v : Nat} : (WM h0 ad Y S).set 0 (h0, .inr (7, (fsM ad S).set 21 (.int (nI v)))) = WM h0 ad Y (uM S 21 3 v) := by
  refine WM_arr (fun a j ha => uM_nk (by omega)) ?_
  simp [fsM, uM]
end
section
variable {K : Ctx} {cc : ByteArray} {nL : Nat} {D : va_G} {Y : Nat → ClassId} {cells slots : Nat} {lv : List (Nat × Value)} {pc : Nat} {st : List Value} {h0 : Nat} {ad : Nat → Nat} {S : MS}
theorem jm_get (X : CX K cc nL RX7 D Y) {idx : Nat} (f : Nat) {v : Value} (hf : f < 25) (hv : (fsM ad S)[f]? = some v) (hl : Cond.fieldLink RX7 idx (TX7 f).1 (TX7 f).2.1 (TX7 f).2.2.1 ∈ lw_g) (hdg : decode cc pc = .ok (.getfield idx, 3)) (k : JJ K D cells slots (WM h0 ad Y S) lv (pc + 3) (v :: st)) : JJ K D cells slots (WM h0 ad Y S) lv pc (.ref h0 :: st) := fun H locs ls hP hD hS hl' =>
  va_get X.1.1 X.1.2.1 (Ts := lw_g) X.1.2.2.2.2 ly_X7 X.1.2.2.2.1 X.2.1.1 hP 0 WM_0 rfl f hf (X.1.2.2.2.2 _ hl) (fun _ h => h) hv hdg (k H locs ls hP hD hS hl')
theorem jm_ald (X : CX K cc nL RX7 D Y) (hB : BD S) {k i : Nat} (hk : k < 21) (hi : i < lenM k) (hdg : decode cc pc = .ok (.iaload, 1)) (kk : ∀ v : Nat, v = S k i → v < 16777216 → JJ K D cells slots (WM h0 ad Y S) lv (pc + 1) (.int (nI v) :: st)) : JJ K D cells slots (WM h0 ad Y S) lv pc (.int (nI i) :: .ref (ad k) :: st) := by
  have hlen : lenM k < 2147483648 := by
    have : ∀ k, k < 21 → lenM k < 2147483648 := by decide
    exact this k hk
  intro H locs ls hP hD hS hl
  refine va_iald X.1.1 X.1.2.1 X.2.1.1 hP (k + 1) 0 (WM_a hk) rfl (vp_in_nI hi hlen) hdg ?_
  rw [nI_clamp (by omega)]
  exact kk _ rfl (hB k i) H locs ls hP hD hS hl
theorem jm_ast (X : CX K cc nL RX7 D Y) {k i v : Nat} (hk : k < 21) (hi : i < lenM k) (hdg : decode cc pc = .ok (.iastore, 1)) (kk : JJ K D cells slots (WM h0 ad Y (uM S k i v)) lv (pc + 1) st) : JJ K D cells slots (WM h0 ad Y S) lv pc (.int (nI v) :: .int (nI i) :: .ref (ad k) :: st) := by
  have hlen : lenM k < 2147483648 := by
    have : ∀ k, k < 21 → lenM k < 2147483648 := by decide
    exact this k hk
  intro H locs ls hP hD hS hl
  refine va_iast X.1.1 X.1.2.1 X.2.1.1 hP hD hS (k + 1) 0 (WM_a hk) rfl (vp_in_nI hi hlen) hdg (fun H1 locs1 hP1 hD1 hS1 => ?_)
  rw [nI_clamp (by omega), WM_set hk] at hP1 hD1
  exact kk H1 locs1 ls hP1 hD1 hS1 hl
theorem jm_put (X : CX K cc nL RX7 D Y) {idx : Nat} (f t : Nat) {v : Nat} (hf : f < 25) (hset : (WM h0 ad Y S).set 0 (h0, .inr (7, (fsM ad S).set f (.int (nI v)))) = WM h0 ad Y (uM S 21 t v)) (hl : Cond.fieldLink RX7 idx (TX7 f).1 (TX7 f).2.1 (TX7 f).2.2.1 ∈ lw_g) (hfin : (TX7 f).2.2.2 = false) (hd : parseFieldDescriptor (TX7 f).2.2.1 = some .int) (hdg : decode cc pc = .ok (.putfield idx, 3)) (k : JJ K D cells slots (WM h0 ad Y (uM S 21 t v)) lv (pc + 3) st) : JJ K D cells slots (WM h0 ad Y S) lv pc (.int (nI v) :: .ref h0 :: st) := by
  intro H locs ls hP hD hS hl'
  refine va_put X.1.1 X.1.2.1 (Ts := lw_g) X.1.2.2.2.2 ly_X7 tyX7 tyX7_ok nmX7 X.1.2.2.2.1 X.2.1.1 hP hD hS 0 WM_0 rfl f hf (X.1.2.2.2.2 _ hl) (fun _ h => h) hfin hd rfl rfl hf hdg (fun H1 locs1 hP1 hD1 hS1 => ?_)
  rw [hset] at hP1 hD1
  exact k H1 locs1 ls hP1 hD1 hS1 hl'
theorem jm_ast2 (X : CX K cc nL RX7 D Y) (hB : BD S) {k i v : Nat} (hk : k < 21) (hi : i < lenM k) (hv : v < 16777216) (hdg : decode cc pc = .ok (.iastore, 1)) (kk : ∀ S' : MS, S' = uM S k i v → BD S' → JJ K D cells slots (WM h0 ad Y S') lv (pc + 1) st) : JJ K D cells slots (WM h0 ad Y S) lv pc (.int (nI v) :: .int (nI i) :: .ref (ad k) :: st) := jm_ast X hk hi hdg (kk _ rfl (BD_u hB hv))
theorem jm_put2 (X : CX K cc nL RX7 D Y) (hB : BD S) {idx : Nat} (f t : Nat) {v : Nat} (hf : f < 25) (hset : (WM h0 ad Y S).set 0 (h0, .inr (7, (fsM ad S).set f (.int (nI v)))) = WM h0 ad Y (uM S 21 t v)) (hl : Cond.fieldLink RX7 idx (TX7 f).1 (TX7 f).2.1 (TX7 f).2.2.1 ∈ lw_g) (hfin : (TX7 f).2.2.2 = false) (hd : parseFieldDescriptor (TX7 f).2.2.1 = some .int) (hv : v < 16777216) (hdg : decode cc pc = .ok (.putfield idx, 3)) (kk : ∀ S' : MS, S' = uM S 21 t v → BD S' → JJ K D cells slots (WM h0 ad Y S') lv (pc + 3) st) : JJ K D cells slots (WM h0 ad Y S) lv pc (.int (nI v) :: .ref h0 :: st) := jm_put X f t hf hset hl hfin hd hdg (kk _ rfl (BD_u hB hv))
/-- what the reference's methods answer: a number with its bound, a truth, an int; the world stays -/
def pN (S : MS) (F B : Nat) : Option Value → MS → Prop := pI (fun r u => ∃ n : Nat, n = F ∧ n ≤ B ∧ nI n = r ∧ S = u)
def pB (S : MS) (b : Bool) : Option Value → MS → Prop := pI (fun r u => bI b = r ∧ S = u)
def pZ (S : MS) (x : Int32) : Option Value → MS → Prop := pI (fun r u => x = r ∧ S = u)
/-- contracts of the reference's methods: of an object's (the world is its own), of static ones (any world) -/
def MM (z : MI) (k : Nat) (av : List Value) (S : MS) (post : Option Value → MS → Prop) : Prop := ∀ (D : va_G) (Y : Nat → ClassId) (h0 : Nat) (ad : Nat → Nat), MT z k 0 0 D Y (.ref h0 :: av) (WM h0 ad Y S) (WM h0 ad Y) post
def MSt (z : MI) (k : Nat) (av : List Value) (φ : Option Value → Prop) : Prop := ∀ (D : va_G) (Y : Nat → ClassId) (ws : va_W), MT z k 0 0 D Y av ws (fun w : va_W => w) (fun v w => φ v ∧ ws = w)

theorem jm_callI0 (X : CX K cc nL RX7 D Y) {z : MI} {j k mc0 ms0 idx : Nat}  {φ : Int32 → MS → Prop} (hR : kR K = Rm k mc0 ms0) (hM : MM z j [] S (pI φ)) (cw : CwV RX7 idx 0 z) (hz : z.1.cls = RX7) (hjk : j < k) (hmL : z.2.2.1 ≤ 40) (hst : (st.map fun v => v.category).sum ≤ 8) (hf : cells ≤ mc0 ∧ slots ≤ ms0) (hdg : decode cc pc = .ok (.invokevirtual idx, 3)) (kk : ∀ (r : Int32) (u : MS), φ r u → JJ K D cells slots (WM h0 ad Y u) lv (pc + 3) (.int r :: st)) : JJ K D cells slots (WM h0 ad Y S) lv pc (.ref h0 :: st) := by
  refine j_callV (mc := 0) (ms := 0) (As := []) X hR (hM D Y h0 ad) cw hjk hmL WM_0 (cq := (RX7, TX7, 25)) rfl hz.symm rfl hst hf hdg (fun v u hp => ?_)
  obtain ⟨r, rfl, h⟩ := hp
  exact kk r u h
theorem jm_callV0 (X : CX K cc nL RX7 D Y) {z : MI} {j k mc0 ms0 idx : Nat}  {φ : MS → Prop} (hR : kR K = Rm k mc0 ms0) (hM : MM z j [] S (pV φ)) (cw : CwV RX7 idx 0 z) (hz : z.1.cls = RX7) (hjk : j < k) (hmL : z.2.2.1 ≤ 40) (hst : (st.map fun v => v.category).sum ≤ 8) (hf : cells ≤ mc0 ∧ slots ≤ ms0) (hdg : decode cc pc = .ok (.invokevirtual idx, 3)) (kk : ∀ (u : MS), φ u → JJ K D cells slots (WM h0 ad Y u) lv (pc + 3) st) : JJ K D cells slots (WM h0 ad Y S) lv pc (.ref h0 :: st) := by
  refine j_callV (mc := 0) (ms := 0) (As := []) X hR (hM D Y h0 ad) cw hjk hmL WM_0 (cq := (RX7, TX7, 25)) rfl hz.symm rfl hst hf hdg (fun v u hp => ?_)
  obtain ⟨rfl, h⟩ := hp
  exact kk u h
theorem jm_callD0 (X : CX K cc nL RX7 D Y) {z : MI} {j k mc0 ms0 idx : Nat}  {φ : UInt64 → MS → Prop} (hR : kR K = Rm k mc0 ms0) (hM : MM z j [] S (pD φ)) (cw : CwV RX7 idx 0 z) (hz : z.1.cls = RX7) (hjk : j < k) (hmL : z.2.2.1 ≤ 40) (hst : (st.map fun v => v.category).sum ≤ 8) (hf : cells ≤ mc0 ∧ slots ≤ ms0) (hdg : decode cc pc = .ok (.invokevirtual idx, 3)) (kk : ∀ (r : UInt64) (u : MS), φ r u → JJ K D cells slots (WM h0 ad Y u) lv (pc + 3) (.double r :: st)) : JJ K D cells slots (WM h0 ad Y S) lv pc (.ref h0 :: st) := by
  refine j_callV (mc := 0) (ms := 0) (As := []) X hR (hM D Y h0 ad) cw hjk hmL WM_0 (cq := (RX7, TX7, 25)) rfl hz.symm rfl hst hf hdg (fun v u hp => ?_)
  obtain ⟨r, rfl, h⟩ := hp
  exact kk r u h
theorem jm_callL0 (X : CX K cc nL RX7 D Y) {z : MI} {j k mc0 ms0 idx : Nat}  {φ : Int64 → MS → Prop} (hR : kR K = Rm k mc0 ms0) (hM : MM z j [] S (pL φ)) (cw : CwV RX7 idx 0 z) (hz : z.1.cls = RX7) (hjk : j < k) (hmL : z.2.2.1 ≤ 40) (hst : (st.map fun v => v.category).sum ≤ 8) (hf : cells ≤ mc0 ∧ slots ≤ ms0) (hdg : decode cc pc = .ok (.invokevirtual idx, 3)) (kk : ∀ (r : Int64) (u : MS), φ r u → JJ K D cells slots (WM h0 ad Y u) lv (pc + 3) (.long r :: st)) : JJ K D cells slots (WM h0 ad Y S) lv pc (.ref h0 :: st) := by
  refine j_callV (mc := 0) (ms := 0) (As := []) X hR (hM D Y h0 ad) cw hjk hmL WM_0 (cq := (RX7, TX7, 25)) rfl hz.symm rfl hst hf hdg (fun v u hp => ?_)
  obtain ⟨r, rfl, h⟩ := hp
  exact kk r u h
theorem jm_callI1 (X : CX K cc nL RX7 D Y) {z : MI} {j k mc0 ms0 idx : Nat} {a0 : Value} {φ : Int32 → MS → Prop} (hR : kR K = Rm k mc0 ms0) (hM : MM z j [a0] S (pI φ)) (cw : CwV RX7 idx 1 z) (hz : z.1.cls = RX7) (hjk : j < k) (hmL : z.2.2.1 ≤ 40) (hst : (st.map fun v => v.category).sum ≤ 8) (hf : cells ≤ mc0 ∧ slots ≤ ms0) (hdg : decode cc pc = .ok (.invokevirtual idx, 3)) (kk : ∀ (r : Int32) (u : MS), φ r u → JJ K D cells slots (WM h0 ad Y u) lv (pc + 3) (.int r :: st)) : JJ K D cells slots (WM h0 ad Y S) lv pc (a0 :: .ref h0 :: st) := by
  refine j_callV (mc := 0) (ms := 0) (As := [a0]) X hR (hM D Y h0 ad) cw hjk hmL WM_0 (cq := (RX7, TX7, 25)) rfl hz.symm rfl hst hf hdg (fun v u hp => ?_)
  obtain ⟨r, rfl, h⟩ := hp
  exact kk r u h
theorem jm_callV1 (X : CX K cc nL RX7 D Y) {z : MI} {j k mc0 ms0 idx : Nat} {a0 : Value} {φ : MS → Prop} (hR : kR K = Rm k mc0 ms0) (hM : MM z j [a0] S (pV φ)) (cw : CwV RX7 idx 1 z) (hz : z.1.cls = RX7) (hjk : j < k) (hmL : z.2.2.1 ≤ 40) (hst : (st.map fun v => v.category).sum ≤ 8) (hf : cells ≤ mc0 ∧ slots ≤ ms0) (hdg : decode cc pc = .ok (.invokevirtual idx, 3)) (kk : ∀ (u : MS), φ u → JJ K D cells slots (WM h0 ad Y u) lv (pc + 3) st) : JJ K D cells slots (WM h0 ad Y S) lv pc (a0 :: .ref h0 :: st) := by
  refine j_callV (mc := 0) (ms := 0) (As := [a0]) X hR (hM D Y h0 ad) cw hjk hmL WM_0 (cq := (RX7, TX7, 25)) rfl hz.symm rfl hst hf hdg (fun v u hp => ?_)
  obtain ⟨rfl, h⟩ := hp
  exact kk u h
theorem jm_callD1 (X : CX K cc nL RX7 D Y) {z : MI} {j k mc0 ms0 idx : Nat} {a0 : Value} {φ : UInt64 → MS → Prop} (hR : kR K = Rm k mc0 ms0) (hM : MM z j [a0] S (pD φ)) (cw : CwV RX7 idx 1 z) (hz : z.1.cls = RX7) (hjk : j < k) (hmL : z.2.2.1 ≤ 40) (hst : (st.map fun v => v.category).sum ≤ 8) (hf : cells ≤ mc0 ∧ slots ≤ ms0) (hdg : decode cc pc = .ok (.invokevirtual idx, 3)) (kk : ∀ (r : UInt64) (u : MS), φ r u → JJ K D cells slots (WM h0 ad Y u) lv (pc + 3) (.double r :: st)) : JJ K D cells slots (WM h0 ad Y S) lv pc (a0 :: .ref h0 :: st) := by
  refine j_callV (mc := 0) (ms := 0) (As := [a0]) X hR (hM D Y h0 ad) cw hjk hmL WM_0 (cq := (RX7, TX7, 25)) rfl hz.symm rfl hst hf hdg (fun v u hp => ?_)
  obtain ⟨r, rfl, h⟩ := hp
  exact kk r u h
theorem jm_callL1 (X : CX K cc nL RX7 D Y) {z : MI} {j k mc0 ms0 idx : Nat} {a0 : Value} {φ : Int64 → MS → Prop} (hR : kR K = Rm k mc0 ms0) (hM : MM z j [a0] S (pL φ)) (cw : CwV RX7 idx 1 z) (hz : z.1.cls = RX7) (hjk : j < k) (hmL : z.2.2.1 ≤ 40) (hst : (st.map fun v => v.category).sum ≤ 8) (hf : cells ≤ mc0 ∧ slots ≤ ms0) (hdg : decode cc pc = .ok (.invokevirtual idx, 3)) (kk : ∀ (r : Int64) (u : MS), φ r u → JJ K D cells slots (WM h0 ad Y u) lv (pc + 3) (.long r :: st)) : JJ K D cells slots (WM h0 ad Y S) lv pc (a0 :: .ref h0 :: st) := by
  refine j_callV (mc := 0) (ms := 0) (As := [a0]) X hR (hM D Y h0 ad) cw hjk hmL WM_0 (cq := (RX7, TX7, 25)) rfl hz.symm rfl hst hf hdg (fun v u hp => ?_)
  obtain ⟨r, rfl, h⟩ := hp
  exact kk r u h
theorem jm_callI2 (X : CX K cc nL RX7 D Y) {z : MI} {j k mc0 ms0 idx : Nat} {a0 a1 : Value} {φ : Int32 → MS → Prop} (hR : kR K = Rm k mc0 ms0) (hM : MM z j [a0, a1] S (pI φ)) (cw : CwV RX7 idx 2 z) (hz : z.1.cls = RX7) (hjk : j < k) (hmL : z.2.2.1 ≤ 40) (hst : (st.map fun v => v.category).sum ≤ 8) (hf : cells ≤ mc0 ∧ slots ≤ ms0) (hdg : decode cc pc = .ok (.invokevirtual idx, 3)) (kk : ∀ (r : Int32) (u : MS), φ r u → JJ K D cells slots (WM h0 ad Y u) lv (pc + 3) (.int r :: st)) : JJ K D cells slots (WM h0 ad Y S) lv pc (a1 :: a0 :: .ref h0 :: st) := by
  refine j_callV (mc := 0) (ms := 0) (As := [a0, a1]) X hR (hM D Y h0 ad) cw hjk hmL WM_0 (cq := (RX7, TX7, 25)) rfl hz.symm rfl hst hf hdg (fun v u hp => ?_)
  obtain ⟨r, rfl, h⟩ := hp
  exact kk r u h
theorem jm_callV2 (X : CX K cc nL RX7 D Y) {z : MI} {j k mc0 ms0 idx : Nat} {a0 a1 : Value} {φ : MS → Prop} (hR : kR K = Rm k mc0 ms0) (hM : MM z j [a0, a1] S (pV φ)) (cw : CwV RX7 idx 2 z) (hz : z.1.cls = RX7) (hjk : j < k) (hmL : z.2.2.1 ≤ 40) (hst : (st.map fun v => v.category).sum ≤ 8) (hf : cells ≤ mc0 ∧ slots ≤ ms0) (hdg : decode cc pc = .ok (.invokevirtual idx, 3)) (kk : ∀ (u : MS), φ u → JJ K D cells slots (WM h0 ad Y u) lv (pc + 3) st) : JJ K D cells slots (WM h0 ad Y S) lv pc (a1 :: a0 :: .ref h0 :: st) := by
  refine j_callV (mc := 0) (ms := 0) (As := [a0, a1]) X hR (hM D Y h0 ad) cw hjk hmL WM_0 (cq := (RX7, TX7, 25)) rfl hz.symm rfl hst hf hdg (fun v u hp => ?_)
  obtain ⟨rfl, h⟩ := hp
  exact kk u h
theorem jm_callD2 (X : CX K cc nL RX7 D Y) {z : MI} {j k mc0 ms0 idx : Nat} {a0 a1 : Value} {φ : UInt64 → MS → Prop} (hR : kR K = Rm k mc0 ms0) (hM : MM z j [a0, a1] S (pD φ)) (cw : CwV RX7 idx 2 z) (hz : z.1.cls = RX7) (hjk : j < k) (hmL : z.2.2.1 ≤ 40) (hst : (st.map fun v => v.category).sum ≤ 8) (hf : cells ≤ mc0 ∧ slots ≤ ms0) (hdg : decode cc pc = .ok (.invokevirtual idx, 3)) (kk : ∀ (r : UInt64) (u : MS), φ r u → JJ K D cells slots (WM h0 ad Y u) lv (pc + 3) (.double r :: st)) : JJ K D cells slots (WM h0 ad Y S) lv pc (a1 :: a0 :: .ref h0 :: st) := by
  refine j_callV (mc := 0) (ms := 0) (As := [a0, a1]) X hR (hM D Y h0 ad) cw hjk hmL WM_0 (cq := (RX7, TX7, 25)) rfl hz.symm rfl hst hf hdg (fun v u hp => ?_)
  obtain ⟨r, rfl, h⟩ := hp
  exact kk r u h
theorem jm_callL2 (X : CX K cc nL RX7 D Y) {z : MI} {j k mc0 ms0 idx : Nat} {a0 a1 : Value} {φ : Int64 → MS → Prop} (hR : kR K = Rm k mc0 ms0) (hM : MM z j [a0, a1] S (pL φ)) (cw : CwV RX7 idx 2 z) (hz : z.1.cls = RX7) (hjk : j < k) (hmL : z.2.2.1 ≤ 40) (hst : (st.map fun v => v.category).sum ≤ 8) (hf : cells ≤ mc0 ∧ slots ≤ ms0) (hdg : decode cc pc = .ok (.invokevirtual idx, 3)) (kk : ∀ (r : Int64) (u : MS), φ r u → JJ K D cells slots (WM h0 ad Y u) lv (pc + 3) (.long r :: st)) : JJ K D cells slots (WM h0 ad Y S) lv pc (a1 :: a0 :: .ref h0 :: st) := by
  refine j_callV (mc := 0) (ms := 0) (As := [a0, a1]) X hR (hM D Y h0 ad) cw hjk hmL WM_0 (cq := (RX7, TX7, 25)) rfl hz.symm rfl hst hf hdg (fun v u hp => ?_)
  obtain ⟨r, rfl, h⟩ := hp
  exact kk r u h
theorem jm_callI3 (X : CX K cc nL RX7 D Y) {z : MI} {j k mc0 ms0 idx : Nat} {a0 a1 a2 : Value} {φ : Int32 → MS → Prop} (hR : kR K = Rm k mc0 ms0) (hM : MM z j [a0, a1, a2] S (pI φ)) (cw : CwV RX7 idx 3 z) (hz : z.1.cls = RX7) (hjk : j < k) (hmL : z.2.2.1 ≤ 40) (hst : (st.map fun v => v.category).sum ≤ 8) (hf : cells ≤ mc0 ∧ slots ≤ ms0) (hdg : decode cc pc = .ok (.invokevirtual idx, 3)) (kk : ∀ (r : Int32) (u : MS), φ r u → JJ K D cells slots (WM h0 ad Y u) lv (pc + 3) (.int r :: st)) : JJ K D cells slots (WM h0 ad Y S) lv pc (a2 :: a1 :: a0 :: .ref h0 :: st) := by
  refine j_callV (mc := 0) (ms := 0) (As := [a0, a1, a2]) X hR (hM D Y h0 ad) cw hjk hmL WM_0 (cq := (RX7, TX7, 25)) rfl hz.symm rfl hst hf hdg (fun v u hp => ?_)
  obtain ⟨r, rfl, h⟩ := hp
  exact kk r u h
theorem jm_callV3 (X : CX K cc nL RX7 D Y) {z : MI} {j k mc0 ms0 idx : Nat} {a0 a1 a2 : Value} {φ : MS → Prop} (hR : kR K = Rm k mc0 ms0) (hM : MM z j [a0, a1, a2] S (pV φ)) (cw : CwV RX7 idx 3 z) (hz : z.1.cls = RX7) (hjk : j < k) (hmL : z.2.2.1 ≤ 40) (hst : (st.map fun v => v.category).sum ≤ 8) (hf : cells ≤ mc0 ∧ slots ≤ ms0) (hdg : decode cc pc = .ok (.invokevirtual idx, 3)) (kk : ∀ (u : MS), φ u → JJ K D cells slots (WM h0 ad Y u) lv (pc + 3) st) : JJ K D cells slots (WM h0 ad Y S) lv pc (a2 :: a1 :: a0 :: .ref h0 :: st) := by
  refine j_callV (mc := 0) (ms := 0) (As := [a0, a1, a2]) X hR (hM D Y h0 ad) cw hjk hmL WM_0 (cq := (RX7, TX7, 25)) rfl hz.symm rfl hst hf hdg (fun v u hp => ?_)
  obtain ⟨rfl, h⟩ := hp
  exact kk u h
theorem jm_callD3 (X : CX K cc nL RX7 D Y) {z : MI} {j k mc0 ms0 idx : Nat} {a0 a1 a2 : Value} {φ : UInt64 → MS → Prop} (hR : kR K = Rm k mc0 ms0) (hM : MM z j [a0, a1, a2] S (pD φ)) (cw : CwV RX7 idx 3 z) (hz : z.1.cls = RX7) (hjk : j < k) (hmL : z.2.2.1 ≤ 40) (hst : (st.map fun v => v.category).sum ≤ 8) (hf : cells ≤ mc0 ∧ slots ≤ ms0) (hdg : decode cc pc = .ok (.invokevirtual idx, 3)) (kk : ∀ (r : UInt64) (u : MS), φ r u → JJ K D cells slots (WM h0 ad Y u) lv (pc + 3) (.double r :: st)) : JJ K D cells slots (WM h0 ad Y S) lv pc (a2 :: a1 :: a0 :: .ref h0 :: st) := by
  refine j_callV (mc := 0) (ms := 0) (As := [a0, a1, a2]) X hR (hM D Y h0 ad) cw hjk hmL WM_0 (cq := (RX7, TX7, 25)) rfl hz.symm rfl hst hf hdg (fun v u hp => ?_)
  obtain ⟨r, rfl, h⟩ := hp
  exact kk r u h
theorem jm_callL3 (X : CX K cc nL RX7 D Y) {z : MI} {j k mc0 ms0 idx : Nat} {a0 a1 a2 : Value} {φ : Int64 → MS → Prop} (hR : kR K = Rm k mc0 ms0) (hM : MM z j [a0, a1, a2] S (pL φ)) (cw : CwV RX7 idx 3 z) (hz : z.1.cls = RX7) (hjk : j < k) (hmL : z.2.2.1 ≤ 40) (hst : (st.map fun v => v.category).sum ≤ 8) (hf : cells ≤ mc0 ∧ slots ≤ ms0) (hdg : decode cc pc = .ok (.invokevirtual idx, 3)) (kk : ∀ (r : Int64) (u : MS), φ r u → JJ K D cells slots (WM h0 ad Y u) lv (pc + 3) (.long r :: st)) : JJ K D cells slots (WM h0 ad Y S) lv pc (a2 :: a1 :: a0 :: .ref h0 :: st) := by
  refine j_callV (mc := 0) (ms := 0) (As := [a0, a1, a2]) X hR (hM D Y h0 ad) cw hjk hmL WM_0 (cq := (RX7, TX7, 25)) rfl hz.symm rfl hst hf hdg (fun v u hp => ?_)
  obtain ⟨r, rfl, h⟩ := hp
  exact kk r u h
theorem jm_callI4 (X : CX K cc nL RX7 D Y) {z : MI} {j k mc0 ms0 idx : Nat} {a0 a1 a2 a3 : Value} {φ : Int32 → MS → Prop} (hR : kR K = Rm k mc0 ms0) (hM : MM z j [a0, a1, a2, a3] S (pI φ)) (cw : CwV RX7 idx 4 z) (hz : z.1.cls = RX7) (hjk : j < k) (hmL : z.2.2.1 ≤ 40) (hst : (st.map fun v => v.category).sum ≤ 8) (hf : cells ≤ mc0 ∧ slots ≤ ms0) (hdg : decode cc pc = .ok (.invokevirtual idx, 3)) (kk : ∀ (r : Int32) (u : MS), φ r u → JJ K D cells slots (WM h0 ad Y u) lv (pc + 3) (.int r :: st)) : JJ K D cells slots (WM h0 ad Y S) lv pc (a3 :: a2 :: a1 :: a0 :: .ref h0 :: st) := by
  refine j_callV (mc := 0) (ms := 0) (As := [a0, a1, a2, a3]) X hR (hM D Y h0 ad) cw hjk hmL WM_0 (cq := (RX7, TX7, 25)) rfl hz.symm rfl hst hf hdg (fun v u hp => ?_)
  obtain ⟨r, rfl, h⟩ := hp
  exact kk r u h
theorem jm_callV4 (X : CX K cc nL RX7 D Y) {z : MI} {j k mc0 ms0 idx : Nat} {a0 a1 a2 a3 : Value} {φ : MS → Prop} (hR : kR K = Rm k mc0 ms0) (hM : MM z j [a0, a1, a2, a3] S (pV φ)) (cw : CwV RX7 idx 4 z) (hz : z.1.cls = RX7) (hjk : j < k) (hmL : z.2.2.1 ≤ 40) (hst : (st.map fun v => v.category).sum ≤ 8) (hf : cells ≤ mc0 ∧ slots ≤ ms0) (hdg : decode cc pc = .ok (.invokevirtual idx, 3)) (kk : ∀ (u : MS), φ u → JJ K D cells slots (WM h0 ad Y u) lv (pc + 3) st) : JJ K D cells slots (WM h0 ad Y S) lv pc (a3 :: a2 :: a1 :: a0 :: .ref h0 :: st) := by
  refine j_callV (mc := 0) (ms := 0) (As := [a0, a1, a2, a3]) X hR (hM D Y h0 ad) cw hjk hmL WM_0 (cq := (RX7, TX7, 25)) rfl hz.symm rfl hst hf hdg (fun v u hp => ?_)
  obtain ⟨rfl, h⟩ := hp
  exact kk u h
theorem jm_callD4 (X : CX K cc nL RX7 D Y) {z : MI} {j k mc0 ms0 idx : Nat} {a0 a1 a2 a3 : Value} {φ : UInt64 → MS → Prop} (hR : kR K = Rm k mc0 ms0) (hM : MM z j [a0, a1, a2, a3] S (pD φ)) (cw : CwV RX7 idx 4 z) (hz : z.1.cls = RX7) (hjk : j < k) (hmL : z.2.2.1 ≤ 40) (hst : (st.map fun v => v.category).sum ≤ 8) (hf : cells ≤ mc0 ∧ slots ≤ ms0) (hdg : decode cc pc = .ok (.invokevirtual idx, 3)) (kk : ∀ (r : UInt64) (u : MS), φ r u → JJ K D cells slots (WM h0 ad Y u) lv (pc + 3) (.double r :: st)) : JJ K D cells slots (WM h0 ad Y S) lv pc (a3 :: a2 :: a1 :: a0 :: .ref h0 :: st) := by
  refine j_callV (mc := 0) (ms := 0) (As := [a0, a1, a2, a3]) X hR (hM D Y h0 ad) cw hjk hmL WM_0 (cq := (RX7, TX7, 25)) rfl hz.symm rfl hst hf hdg (fun v u hp => ?_)
  obtain ⟨r, rfl, h⟩ := hp
  exact kk r u h
theorem jm_callL4 (X : CX K cc nL RX7 D Y) {z : MI} {j k mc0 ms0 idx : Nat} {a0 a1 a2 a3 : Value} {φ : Int64 → MS → Prop} (hR : kR K = Rm k mc0 ms0) (hM : MM z j [a0, a1, a2, a3] S (pL φ)) (cw : CwV RX7 idx 4 z) (hz : z.1.cls = RX7) (hjk : j < k) (hmL : z.2.2.1 ≤ 40) (hst : (st.map fun v => v.category).sum ≤ 8) (hf : cells ≤ mc0 ∧ slots ≤ ms0) (hdg : decode cc pc = .ok (.invokevirtual idx, 3)) (kk : ∀ (r : Int64) (u : MS), φ r u → JJ K D cells slots (WM h0 ad Y u) lv (pc + 3) (.long r :: st)) : JJ K D cells slots (WM h0 ad Y S) lv pc (a3 :: a2 :: a1 :: a0 :: .ref h0 :: st) := by
  refine j_callV (mc := 0) (ms := 0) (As := [a0, a1, a2, a3]) X hR (hM D Y h0 ad) cw hjk hmL WM_0 (cq := (RX7, TX7, 25)) rfl hz.symm rfl hst hf hdg (fun v u hp => ?_)
  obtain ⟨r, rfl, h⟩ := hp
  exact kk r u h
end
theorem n_name {K : Ctx} {D : va_G} {cells slots : Nat} {ws : va_W} {lv : List (Nat × Value)} {pc : Nat} {st : List Value} {a : Nat} (kk : ∀ v : Nat, v = a → JJ K D cells slots ws lv pc (.int (nI v) :: st)) : JJ K D cells slots ws lv pc (.int (nI a) :: st) := kk a rfl
theorem z_name {K : Ctx} {D : va_G} {cells slots : Nat} {ws : va_W} {lv : List (Nat × Value)} {pc : Nat} {st : List Value} {a : Int32} (kk : ∀ v : Int32, v = a → JJ K D cells slots ws lv pc (.int v :: st)) : JJ K D cells slots ws lv pc (.int a :: st) := kk a rfl
theorem z_as {K : Ctx} {D : va_G} {cells slots : Nat} {ws : va_W} {lv : List (Nat × Value)} {pc : Nat} {st : List Value} {a : Int32} (b : Int32) (h : a = b) (kk : JJ K D cells slots ws lv pc (.int b :: st)) : JJ K D cells slots ws lv pc (.int a :: st) := h ▸ kk
section
variable {K : Ctx} {cc : ByteArray} {nL : Nat} {own : String} {D : va_G} {Y : Nat → ClassId} {cells slots : Nat} {ws : va_W} {lv : List (Nat × Value)} {pc : Nat} {st : List Value}
theorem jst_call0 (X : CX K cc nL own D Y) {z : MI} {j k mc0 ms0 idx : Nat}  {v : Value} (hR : kR K = Rm k mc0 ms0) (hM : MSt z j [] (fun w => w = some v)) (cw : CwS own idx 0 z) (hjk : j < k) (hmL : z.2.2.1 ≤ 40) (hst : (st.map fun v => v.category).sum ≤ 8) (hf : cells ≤ mc0 ∧ slots ≤ ms0) (hdg : decode cc pc = .ok (.invokestatic idx, 3)) (kk : JJ K D cells slots ws lv (pc + 3) (v :: st)) : JJ K D cells slots ws lv pc (st) := by
  refine j_callS (mc := 0) (ms := 0) (As := []) X hR (hM D Y ws) cw hjk hmL rfl hst hf hdg (fun v u hp => ?_)
  obtain ⟨rfl, rfl⟩ := hp
  exact kk
theorem jst_call1 (X : CX K cc nL own D Y) {z : MI} {j k mc0 ms0 idx : Nat} {a0 : Value} {v : Value} (hR : kR K = Rm k mc0 ms0) (hM : MSt z j [a0] (fun w => w = some v)) (cw : CwS own idx 1 z) (hjk : j < k) (hmL : z.2.2.1 ≤ 40) (hst : (st.map fun v => v.category).sum ≤ 8) (hf : cells ≤ mc0 ∧ slots ≤ ms0) (hdg : decode cc pc = .ok (.invokestatic idx, 3)) (kk : JJ K D cells slots ws lv (pc + 3) (v :: st)) : JJ K D cells slots ws lv pc (a0 :: st) := by
  refine j_callS (mc := 0) (ms := 0) (As := [a0]) X hR (hM D Y ws) cw hjk hmL rfl hst hf hdg (fun v u hp => ?_)
  obtain ⟨rfl, rfl⟩ := hp
  exact kk
theorem jst_call2 (X : CX K cc nL own D Y) {z : MI} {j k mc0 ms0 idx : Nat} {a0 a1 : Value} {v : Value} (hR : kR K = Rm k mc0 ms0) (hM : MSt z j [a0, a1] (fun w => w = some v)) (cw : CwS own idx 2 z) (hjk : j < k) (hmL : z.2.2.1 ≤ 40) (hst : (st.map fun v => v.category).sum ≤ 8) (hf : cells ≤ mc0 ∧ slots ≤ ms0) (hdg : decode cc pc = .ok (.invokestatic idx, 3)) (kk : JJ K D cells slots ws lv (pc + 3) (v :: st)) : JJ K D cells slots ws lv pc (a1 :: a0 :: st) := by
  refine j_callS (mc := 0) (ms := 0) (As := [a0, a1]) X hR (hM D Y ws) cw hjk hmL rfl hst hf hdg (fun v u hp => ?_)
  obtain ⟨rfl, rfl⟩ := hp
  exact kk
theorem jst_call3 (X : CX K cc nL own D Y) {z : MI} {j k mc0 ms0 idx : Nat} {a0 a1 a2 : Value} {v : Value} (hR : kR K = Rm k mc0 ms0) (hM : MSt z j [a0, a1, a2] (fun w => w = some v)) (cw : CwS own idx 3 z) (hjk : j < k) (hmL : z.2.2.1 ≤ 40) (hst : (st.map fun v => v.category).sum ≤ 8) (hf : cells ≤ mc0 ∧ slots ≤ ms0) (hdg : decode cc pc = .ok (.invokestatic idx, 3)) (kk : JJ K D cells slots ws lv (pc + 3) (v :: st)) : JJ K D cells slots ws lv pc (a2 :: a1 :: a0 :: st) := by
  refine j_callS (mc := 0) (ms := 0) (As := [a0, a1, a2]) X hR (hM D Y ws) cw hjk hmL rfl hst hf hdg (fun v u hp => ?_)
  obtain ⟨rfl, rfl⟩ := hp
  exact kk
theorem jst_call4 (X : CX K cc nL own D Y) {z : MI} {j k mc0 ms0 idx : Nat} {a0 a1 a2 a3 : Value} {v : Value} (hR : kR K = Rm k mc0 ms0) (hM : MSt z j [a0, a1, a2, a3] (fun w => w = some v)) (cw : CwS own idx 4 z) (hjk : j < k) (hmL : z.2.2.1 ≤ 40) (hst : (st.map fun v => v.category).sum ≤ 8) (hf : cells ≤ mc0 ∧ slots ≤ ms0) (hdg : decode cc pc = .ok (.invokestatic idx, 3)) (kk : JJ K D cells slots ws lv (pc + 3) (v :: st)) : JJ K D cells slots ws lv pc (a3 :: a2 :: a1 :: a0 :: st) := by
  refine j_callS (mc := 0) (ms := 0) (As := [a0, a1, a2, a3]) X hR (hM D Y ws) cw hjk hmL rfl hst hf hdg (fun v u hp => ?_)
  obtain ⟨rfl, rfl⟩ := hp
  exact kk
end
