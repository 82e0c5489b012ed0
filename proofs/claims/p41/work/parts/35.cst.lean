/-! the class's static helpers: facts -/
theorem j_ldcw {K : Ctx} {cc : ByteArray} {nL : Nat} {own : String} {D : va_G} {Y : Nat → ClassId} {cells slots : Nat} {ws : va_W} {lv : List (Nat × Value)} {pc : Nat} {st : List Value} (X : CX K cc nL own D Y) {index : Nat} {v : Int32} (hc : Cond.constant own index v ∈ lw_g) (hdg : decode cc pc = .ok (.ldc_w index, 3)) (k : JJ K D cells slots ws lv (pc + 3) (.int v :: st)) : JJ K D cells slots ws lv pc st := fun H locs ls hP hD hS hl => lv_ldcw X.1.1 X.1.2.1 X.1.2.2.2.1 (X.1.2.2.2.2 _ hc) hdg (k H locs ls hP hD hS hl)
theorem l_name {K : Ctx} {D : va_G} {cells slots : Nat} {ws : va_W} {lv : List (Nat × Value)} {pc : Nat} {st : List Value} {a : Int64} (b : Int64) (h : a = b) (kk : JJ K D cells slots ws lv pc (.long b :: st)) : JJ K D cells slots ws lv pc (.long a :: st) := h ▸ kk
theorem toI0 : (0 : Int32).toInt = 0 := by decide
theorem nat_wi {x : Int32} {n : Nat} (hn : n < 1000000) : withinI x (nI 0) (nI n) = (decide (¬ x < 0) && decide (¬ nI (n + 1) ≤ x)) := by
  unfold withinI
  congr 1
  · apply decide_eq_decide.mpr
    rw [nI_0, Int32.le_iff_toInt_le, Int32.lt_iff_toInt_lt, toI0]
    omega
  · apply decide_eq_decide.mpr
    rw [Int32.le_iff_toInt_le, Int32.le_iff_toInt_le, nI_toInt (by omega), nI_toInt (by omega)]
    omega
theorem span_wi {b e : Int32} : isSpanI b e = (decide (¬ b < 0) && (decide (¬ e < b) && decide (¬ nI 10 < e))) := by
  unfold isSpanI withinI
  rw [nI_0]
  apply Bool.eq_iff_iff.mpr
  simp only [Bool.and_eq_true, decide_eq_true_eq, Int32.le_iff_toInt_le, Int32.lt_iff_toInt_lt, toI0]
  rw [nI_toInt (by omega)]
  omega
theorem isHour_wi {x : Int32} : withinI x (nI 0) (nI 9) = (decide (¬ x < 0) && decide (¬ nI 10 ≤ x)) := nat_wi (by decide)
theorem cmp_has (b : Bool) : lg_cmp (lN (ct b)) (lN 0) = bI b := by cases b <;> decide
theorem shift_u : ∀ k, k < 32 → (((nI k).toUInt32 &&& Int32.toUInt32 31).toBitVec % 32).toNat = k := by decide
theorem bit_u {n k : Nat} (hn : n < 2147483648) (hk : k < 31) : ((nI n).toUInt32 >>> ((nI k).toUInt32 &&& Int32.toUInt32 31)).toInt32 &&& nI 1 = nI (bitN n k) := by
  rw [pk_ushrN (Nat.lt_trans hn (by decide)) _ k (shift_u k (by omega)), pk_andN (k := 1) (Nat.lt_of_le_of_lt (Nat.div_le_self _ _) (by omega)) (by decide)]
  rfl
/-! the JDK's counts of bits, its maximum -/
theorem rp85 : (6148914691236517205 : Int64) = lN (rp 85 8) := by decide
theorem rp51 : (3689348814741910323 : Int64) = lN (rp 51 8) := by decide
theorem rp15 : (1085102592571150095 : Int64) = lN (rp 15 8) := by decide
theorem F3_lt (x : Nat) : F3 8 x < 2 ^ 63 := by
  have h1 : x &&& rp 51 8 ≤ rp 51 8 := Nat.and_le_right
  have h2 : x / 4 &&& rp 51 8 ≤ rp 51 8 := Nat.and_le_right
  have h3 : rp 51 8 < 2 ^ 62 := by decide
  unfold F3
  omega
theorem F5_lt {x : Nat} (h : x < 2 ^ 64) : F5 8 x < 2 ^ 64 := by
  unfold F5
  omega
theorem F5_ok (x : Nat) : x / 2 &&& rp 85 8 ≤ x := Nat.le_trans Nat.and_le_left (Nat.div_le_self _ _)
theorem lsh {n m : Nat} (k : Nat) (hn : n < 2 ^ 64) (hk : k < 64) (hm : 2 ^ k = m) : ((lN n).toUInt64 >>> ((nI k).toInt64.toUInt64 &&& Int64.toUInt64 63)).toInt64 = lN (n / m) := by rw [← hm]; exact lN_ushr hn hk
theorem pc_msk (p : Nat → Bool) {n : Nat} (hn : n ≤ 64) : pcN 8 (ofB p n) = sm (fun i => ct (p i)) n := by
  unfold pcN
  rw [show 8 * 8 = n + (64 - n) by omega, sm_split]
  have h2 : sm (fun i => bitN (ofB p n) (n + i)) (64 - n) = 0 := by
    have : sm (fun i => bitN (ofB p n) (n + i)) (64 - n) ≤ (64 - n) * 0 := sm_le (fun i _ => by rw [bitN_ofB, decide_eq_false (by omega)]; exact Nat.le_refl 0)
    omega
  rw [h2, Nat.add_zero]
  exact sm_congr (fun i hi => by rw [bitN_ofB, decide_eq_true hi, Bool.true_and])
theorem i16 : ∀ s, s < 16 → (let x := nI s; let x1 := x - ((x.toUInt32 >>> ((nI 1).toUInt32 &&& Int32.toUInt32 31)).toInt32 &&& 1431655765); let x2 := (x1 &&& 858993459) + ((x1.toUInt32 >>> ((nI 2).toUInt32 &&& Int32.toUInt32 31)).toInt32 &&& 858993459); let x3 := (x2 + (x2.toUInt32 >>> ((nI 4).toUInt32 &&& Int32.toUInt32 31)).toInt32) &&& 252645135; let x4 := x3 + (x3.toUInt32 >>> ((nI 8).toUInt32 &&& Int32.toUInt32 31)).toInt32; let x5 := x4 + (x4.toUInt32 >>> ((nI 16).toUInt32 &&& Int32.toUInt32 31)).toInt32; x5 &&& nI 63) = nI (szN s) := by decide
theorem MT.ofF {T : Type} {z : MI} {k mc ms : Nat} {D : va_G} {Y : Nat → ClassId} {av : List Value} {w0 : va_W} {Wf : T → va_W} {post : Option Value → T → Prop} (lv : List (Nat × Value)) (hy : plainFor z.1 = true) (hlv : lv_args 0 av = lv) (hn : (lg_sl av).length ≤ z.2.2.1)
    (body : ∀ K : Ctx, kR K = Rm k mc ms → CX K z.2.1 z.2.2.1 z.1.cls D Y → EX K post Wf D mc ms z.2.2.2 → JJ K D 0 0 w0 lv 0 []) : MT z k mc ms D Y av w0 Wf post := by
  intro l sz
  refine va_MetF (cc := z.2.1) (maxL := z.2.2.1) (ret := z.2.2.2) hy rfl ?_
  intro p e s m args below meth c s₁ B hml hv
  obtain ⟨rfl, hsz, hP, hK, hD0⟩ := hv
  have hts := atoms_spec (ws := wg z) B.pre
  have hown : s.vm.findClass z.1.cls = some m.cls := findClass_of_methodNamed B.named
  subst hsz
  have hD := hD0.self (sz := s.heap.size)
  have hl := lv_entry av (n := z.2.2.1) hn
  rw [lg_entry_eq]
  have b := body (p, l, e, Rm k mc ms, s, m, av.toArray, below, meth, c, va_A w0 s.heap.size, MQ below (QG post Wf D (va_A w0 s.heap.size)) av.toArray s mc ms (va_A w0 s.heap.size)) rfl
    ⟨⟨B.exec, B.bytes, hml, hown, fun w hw => hts w (List.mem_cons_of_mem _ hw)⟩, hK, fun q h => Or.inr h, B.notSynchronized⟩ ⟨rfl, B.returns⟩
  refine b s.heap [] _ hP hD va_S.rf ?_
  rw [← hlv]
  show lv_has _ c.maxLocals _
  rw [hml]
  exact hl
theorem and7 (N : Nat) : nI N &&& nI 127 = nI (N % 128) := by
  rw [pk_and (nI N) 7 (by decide)]
  congr 1
  show N % 2 ^ 32 % 2 ^ 7 = N % 128
  omega
