/-! the planner's state, a ghost: S k i is place i of its row k (0 here, 1 age, 2 family, 3 admitted or not, 4 months waited, 5, 6 begins and ends, 7 educator here, 8, 9 working hours, 10 holidays, 11 ratios, 12 rates, 13 .. 15 substitutes, 16 kept cover, 17 text); S 21: month, roomLimit, substitutes, textLength -/
abbrev MS : Type := Nat → Nat → Nat
def uM (S : MS) (k i v : Nat) : MS := fun a j => if a = k ∧ j = i then v else S a j
theorem uM_eq (S : MS) (k i v : Nat) : uM S k i v k i = v := if_pos ⟨rfl, rfl⟩
theorem uM_ne {S : MS} {k i v a j : Nat} (h : ¬ (a = k ∧ j = i)) : uM S k i v a j = S a j := if_neg h
theorem uM_nk {S : MS} {k i v a j : Nat} (h : a ≠ k) : uM S k i v a j = S a j := if_neg (fun q => h q.1)
theorem uM_ni {S : MS} {k i v a j : Nat} (h : j ≠ i) : uM S k i v a j = S a j := if_neg (fun q => h q.2)
def BD (S : MS) : Prop := ∀ k i : Nat, S k i < 16777216
theorem BD_u {S : MS} {k i v : Nat} (h : BD S) (hv : v < 16777216) : BD (uM S k i v) := by
  intro a j
  unfold uM
  split
  · exact hv
  · exact h a j
def pN (S : MS) (F B : Nat) : Option Value → MS → Prop := pI (fun r u => ∃ n : Nat, n = F ∧ n ≤ B ∧ nI n = r ∧ S = u)
def pB (S : MS) (b : Bool) : Option Value → MS → Prop := pI (fun r u => bI b = r ∧ S = u)
def pZ (S : MS) (x : Int32) : Option Value → MS → Prop := pI (fun r u => x = r ∧ S = u)
def MSt (z : MI) (k : Nat) (av : List Value) (φ : Option Value → Prop) : Prop := ∀ (D : va_G) (Y : Nat → ClassId) (ws : va_W), MT z k 0 0 D Y av ws (fun w : va_W => w) (fun v w => φ v ∧ ws = w)

theorem n_name {K : Ctx} {D : va_G} {cells slots : Nat} {ws : va_W} {lv : List (Nat × Value)} {pc : Nat} {st : List Value} {a : Nat} (kk : ∀ v : Nat, v = a → JJ K D cells slots ws lv pc (.int (nI v) :: st)) : JJ K D cells slots ws lv pc (.int (nI a) :: st) := kk a rfl
theorem z_name {K : Ctx} {D : va_G} {cells slots : Nat} {ws : va_W} {lv : List (Nat × Value)} {pc : Nat} {st : List Value} {a : Int32} (kk : ∀ v : Int32, v = a → JJ K D cells slots ws lv pc (.int v :: st)) : JJ K D cells slots ws lv pc (.int a :: st) := kk a rfl
theorem z_as {K : Ctx} {D : va_G} {cells slots : Nat} {ws : va_W} {lv : List (Nat × Value)} {pc : Nat} {st : List Value} {a : Int32} (b : Int32) (h : a = b) (kk : JJ K D cells slots ws lv pc (.int b :: st)) : JJ K D cells slots ws lv pc (.int a :: st) := h ▸ kk
section
variable {K : Ctx} {cc : ByteArray} {nL : Nat} {own : String} {D : va_G} {Y : Nat → ClassId} {cells slots : Nat} {ws : va_W} {lv : List (Nat × Value)} {pc : Nat} {st : List Value}
theorem jst_call0 (X : CX K cc nL own D Y) {z : MI} {j k mc0 ms0 idx : Nat}  {v : Value} (hR : kR K = Rm k mc0 ms0) (hM : MSt z j [] (fun w => w = some v)) (cw : CwS own idx 0 z) (hjk : j < k) (hmL : z.2.2.1 ≤ 40) (hst : (st.map fun v => v.category).sum ≤ 8) (hf : cells ≤ mc0 ∧ slots ≤ ms0) (hdg : decode cc pc = .ok (.invokestatic idx, 3)) (kk : JJ K D cells slots ws lv (pc + 3) (v :: st)) : JJ K D cells slots ws lv pc (st) := by
  refine j_callS (mc := 0) (ms := 0) (As := []) X hR (hM D Y ws) cw hjk hmL rfl hst hf hdg (fun v u hp => ?_)
  obtain ⟨rfl, rfl⟩ := hp
  exact kk
theorem jst_call1 (X : CX K cc nL own D Y) {z : MI} {j k mc0 ms0 idx : Nat} {a0 : Value} {v : Value} (hR : kR K = Rm k mc0 ms0) (hM : MSt z j [a0] (fun w => w = some v)) (cw : CwS own idx 1 z) (hjk : j < k) (hmL : z.2.2.1 ≤ 40) (hst : (st.map fun v => v.category).sum ≤ 8) (hf : cells ≤ mc0 ∧ slots ≤ ms0) (hdg : decode cc pc = .ok (.invokestatic idx, 3)) (kk : JJ K D cells slots ws lv (pc + 3) (v :: st)) : JJ K D cells slots ws lv pc (a0 :: st) := by
  refine j_callS (mc := 0) (ms := 0) (As := [a0]) X hR (hM D Y ws) cw hjk hmL rfl hst hf hdg (fun v u hp => ?_)
  obtain ⟨rfl, rfl⟩ := hp
  exact kk
theorem jst_call2 (X : CX K cc nL own D Y) {z : MI} {j k mc0 ms0 idx : Nat} {a0 a1 : Value} {v : Value} (hR : kR K = Rm k mc0 ms0) (hM : MSt z j [a0, a1] (fun w => w = some v)) (cw : CwS own idx 2 z) (hjk : j < k) (hmL : z.2.2.1 ≤ 40) (hst : (st.map fun v => v.category).sum ≤ 8) (hf : cells ≤ mc0 ∧ slots ≤ ms0) (hdg : decode cc pc = .ok (.invokestatic idx, 3)) (kk : JJ K D cells slots ws lv (pc + 3) (v :: st)) : JJ K D cells slots ws lv pc (a1 :: a0 :: st) := by
  refine j_callS (mc := 0) (ms := 0) (As := [a0, a1]) X hR (hM D Y ws) cw hjk hmL rfl hst hf hdg (fun v u hp => ?_)
  obtain ⟨rfl, rfl⟩ := hp
  exact kk
theorem jst_call3 (X : CX K cc nL own D Y) {z : MI} {j k mc0 ms0 idx : Nat} {a0 a1 a2 : Value} {v : Value} (hR : kR K = Rm k mc0 ms0) (hM : MSt z j [a0, a1, a2] (fun w => w = some v)) (cw : CwS own idx 3 z) (hjk : j < k) (hmL : z.2.2.1 ≤ 40) (hst : (st.map fun v => v.category).sum ≤ 8) (hf : cells ≤ mc0 ∧ slots ≤ ms0) (hdg : decode cc pc = .ok (.invokestatic idx, 3)) (kk : JJ K D cells slots ws lv (pc + 3) (v :: st)) : JJ K D cells slots ws lv pc (a2 :: a1 :: a0 :: st) := by
  refine j_callS (mc := 0) (ms := 0) (As := [a0, a1, a2]) X hR (hM D Y ws) cw hjk hmL rfl hst hf hdg (fun v u hp => ?_)
  obtain ⟨rfl, rfl⟩ := hp
  exact kk
theorem jst_call4 (X : CX K cc nL own D Y) {z : MI} {j k mc0 ms0 idx : Nat} {a0 a1 a2 a3 : Value} {v : Value} (hR : kR K = Rm k mc0 ms0) (hM : MSt z j [a0, a1, a2, a3] (fun w => w = some v)) (cw : CwS own idx 4 z) (hjk : j < k) (hmL : z.2.2.1 ≤ 40) (hst : (st.map fun v => v.category).sum ≤ 8) (hf : cells ≤ mc0 ∧ slots ≤ ms0) (hdg : decode cc pc = .ok (.invokestatic idx, 3)) (kk : JJ K D cells slots ws lv (pc + 3) (v :: st)) : JJ K D cells slots ws lv pc (a3 :: a2 :: a1 :: a0 :: st) := by
  refine j_callS (mc := 0) (ms := 0) (As := [a0, a1, a2, a3]) X hR (hM D Y ws) cw hjk hmL rfl hst hf hdg (fun v u hp => ?_)
  obtain ⟨rfl, rfl⟩ := hp
  exact kk
end
