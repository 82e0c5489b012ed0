/-! doubles: rows, and that a quotient of whole numbers is a number -/
theorem n64_of {r : UInt64} (h : FP.Core.dIsNaN r = false) : vf_n64 r := by
  unfold vf_n64
  rw [UInt64.le_iff_toNat_le, UInt64.toNat_and]
  show r.toNat &&& (2 ^ 63 - 1) ≤ 9218868437227405312
  rw [Nat.and_two_pow_sub_one_eq_mod]
  refine Nat.le_of_not_lt fun q => ?_
  have h1 := (FP.Core.decode_nan (f := FP.Core.b64) r.toNat).mpr (by rw [FP.Core.mag_toNat64, FP.Core.infBits_b64]; exact q)
  have h2 := (FP.Core.dIsNaN_iff r).mpr h1
  rw [h] at h2
  cases h2
theorem n64_quot {a b : Int32} (hb : b ≠ 0) : vf_n64 (FP.ddiv (FP.i2d a) (FP.i2d b)) := by
  refine n64_of (FP.Core.ddiv_out (FP.Core.DFin.notNaN (FP.Core.i2d_fin a)) (FP.Core.i2d_fin b) ?_)
  intro q
  exact FP.Core.i2d_ne_zero hb ((FP.Core.zero_bits2 _).mp q)
section
variable {K : Ctx} {cc : ByteArray} {nL : Nat} {own : String} {D : va_G} {Y : Nat → ClassId} {cells slots : Nat} {ws : va_W} {lv : List (Nat × Value)} {pc : Nat} {st : List Value}
theorem j_i2d (X : CX K cc nL own D Y) {x : Int32} (hdg : decode cc pc = .ok (.i2d, 1)) (k : JJ K D cells slots ws lv (pc + 1) (.double (FP.i2d x) :: st)) : JJ K D cells slots ws lv pc (.int x :: st) := fun H locs ls hP hD hS hl => lv_i2d X.1.1 X.1.2.1 hdg (k H locs ls hP hD hS hl)
theorem j_ddiv (X : CX K cc nL own D Y) {a b : Int32} (hdg : decode cc pc = .ok (.ddiv, 1)) (hb : b ≠ 0) (k : JJ K D cells slots ws lv (pc + 1) (.double (FP.ddiv (FP.i2d a) (FP.i2d b)) :: st)) : JJ K D cells slots ws lv pc (.double (FP.i2d b) :: .double (FP.i2d a) :: st) := fun H locs ls hP hD hS hl => lv_ddiv X.1.1 X.1.2.1 hdg (n64_quot hb) (k H locs ls hP hD hS hl)
theorem j_dconst0 (X : CX K cc nL own D Y) (hdg : decode cc pc = .ok (.dconst 0, 1)) (k : JJ K D cells slots ws lv (pc + 1) (.double 0 :: st)) : JJ K D cells slots ws lv pc st := fun H locs ls hP hD hS hl => lv_dconst0 X.1.1 X.1.2.1 hdg (k H locs ls hP hD hS hl)
theorem j_ldc2d (X : CX K cc nL own D Y) {index : Nat} {v : UInt64} (hc : Cond.constantDouble own index v ∈ lw_g) (hdg : decode cc pc = .ok (.ldc2_w index, 3)) (k : JJ K D cells slots ws lv (pc + 3) (.double v :: st)) : JJ K D cells slots ws lv pc st := fun H locs ls hP hD hS hl => lv_ldc2d X.1.1 X.1.2.1 X.1.2.2.2.1 (X.1.2.2.2.2 _ hc) hdg (k H locs ls hP hD hS hl)
end
def pDS (S : MS) (x : UInt64) : Option Value → MS → Prop := pD (fun r u => x = r ∧ S = u)
def quoI (a b : Nat) : UInt64 := if b = 0 then 0 else FP.ddiv (FP.i2d (nI a)) (FP.i2d (nI b))
def loadI (S : MS) (x : Int32) : UInt64 := if isDayI x then quoI (sm (fun h => presN S (tn x) h (-9)) 10) (sm (fun h => staffN S (tn x) h) 10) else 13830554455654793216
theorem admF_s (f : Nat) (S : MS) : admF (f + 1) S = match nxt S 24 with | none => S | some c => admF f (uM S 3 c 1) := rfl
theorem admC_s (f : Nat) (S : MS) : admC (f + 1) S = match nxt S 24 with | none => 0 | some c => admC f (uM S 3 c 1) + 1 := rfl
theorem nxt_s (S : MS) (n : Nat) : nxt S (n + 1) = if isWt S n && admB S n then (match nxt S n with | none => some n | some b => if befB S n b then some n else some b) else nxt S n := rfl
theorem nxt_no {S : MS} {n : Nat} {o : Option Nat} (ho : o = nxt S n) (h : (isWt S n && admB S n) = false) : o = nxt S (n + 1) := by rw [nxt_s, h, ← ho]; rfl
theorem nxt_0 {S : MS} {n : Nat} (ho : none = nxt S n) (h : (isWt S n && admB S n) = true) : some n = nxt S (n + 1) := by rw [nxt_s, h, ← ho]; rfl
theorem nxt_1 {S : MS} {n b : Nat} (ho : some b = nxt S n) (h : (isWt S n && admB S n) = true) (hb : befB S n b = true) : some n = nxt S (n + 1) := by rw [nxt_s, h, ← ho]; simp [hb]
theorem nxt_2 {S : MS} {n b : Nat} (ho : some b = nxt S n) (h : (isWt S n && admB S n) = true) (hb : befB S n b = false) : some b = nxt S (n + 1) := by rw [nxt_s, h, ← ho]; simp [hb]
