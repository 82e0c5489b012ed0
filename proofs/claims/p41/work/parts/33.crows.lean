/-! rows over the class's world -/
section
variable {K : Ctx} {cc : ByteArray} {nL : Nat} {own : String} {D : va_G} {Y : Nat → ClassId} {cells slots : Nat} {lv : List (Nat × Value)} {pc tgt : Nat} {off : Int} {st : List Value} {ad : Nat → Nat} {T : CT} {e : CE}
theorem lenC_lt (k : Nat) : lenC k < 100 := by
  have : ∀ k, k < 10 → lenC k < 100 := by decide
  by_cases h : k < 10
  · exact this k h
  · unfold lenC
    rw [List.getD_eq_getElem?_getD, List.getElem?_eq_none (by simp; omega)]
    decide
theorem ty_a (k : Nat) (h : k ≠ 3) : (tyL Y)[0]? = some (yC Y k, .int) := by
  unfold yC
  rw [if_neg h]
  rfl
theorem jc_ald (X : CX K cc nL own D Y) {k i : Nat} (hk : k < 10) (h3 : k ≠ 3) (hi : i < lenC k) (hdg : decode cc pc = .ok (.iaload, 1)) (kk : JJ K D cells slots (WC ad Y (T, e)) lv (pc + 1) (.int (T k i) :: st)) : JJ K D cells slots (WC ad Y (T, e)) lv pc (.int (nI i) :: .ref (ad k) :: st) := by
  have hl := lenC_lt k
  intro H locs ls hP hD hS hlv
  refine va_iald X.1.1 X.1.2.1 X.2.1.1 hP (k + 7) 0 (WC_a hk) (ty_a k h3) (vp_in_nI hi (by omega)) hdg ?_
  rw [nI_clamp (by omega)]
  exact kk H locs ls hP hD hS hlv
theorem jc_cald (X : CX K cc nL own D Y) {i : Nat} (hi : i < 60) (hdg : decode cc pc = .ok (.caload, 1)) (kk : JJ K D cells slots (WC ad Y (T, e)) lv (pc + 1) (.int (T 3 i) :: st)) : JJ K D cells slots (WC ad Y (T, e)) lv pc (.int (nI i) :: .ref (ad 3) :: st) := by
  intro H locs ls hP hD hS hlv
  refine va_cald X.1.1 X.1.2.1 X.2.1.1 hP 10 1 (WC_a (k := 3) (by decide)) rfl (vp_in_nI hi (by decide)) hdg ?_
  rw [nI_clamp (by omega)]
  exact kk H locs ls hP hD hS hlv
theorem jc_ast (X : CX K cc nL own D Y) {k i : Nat} {v : Int32} (hk : k < 10) (h3 : k ≠ 3) (hi : i < lenC k) (hdg : decode cc pc = .ok (.iastore, 1)) (kk : ∀ T' : CT, T' = uI T k i v → JJ K D cells slots (WC ad Y (T', e)) lv (pc + 1) st) : JJ K D cells slots (WC ad Y (T, e)) lv pc (.int v :: .int (nI i) :: .ref (ad k) :: st) := by
  have hl := lenC_lt k
  intro H locs ls hP hD hS hlv
  refine va_iast X.1.1 X.1.2.1 X.2.1.1 hP hD hS (k + 7) 0 (WC_a hk) (ty_a k h3) (vp_in_nI hi (by omega)) hdg (fun H1 locs1 hP1 hD1 hS1 => ?_)
  rw [nI_clamp (by omega), WC_set hk] at hP1 hD1
  exact kk _ rfl H1 locs1 ls hP1 hD1 hS1 hlv
theorem jc_cast (X : CX K cc nL own D Y) {i : Nat} {v : Int32} (hi : i < 60) (hv : vp_nar .char v = v) (hdg : decode cc pc = .ok (.castore, 1)) (kk : ∀ T' : CT, T' = uI T 3 i v → JJ K D cells slots (WC ad Y (T', e)) lv (pc + 1) st) : JJ K D cells slots (WC ad Y (T, e)) lv pc (.int v :: .int (nI i) :: .ref (ad 3) :: st) := by
  intro H locs ls hP hD hS hlv
  refine va_cast X.1.1 X.1.2.1 X.2.1.1 hP hD hS 10 1 (WC_a (k := 3) (by decide)) rfl (vp_in_nI hi (by decide)) hdg (fun H1 locs1 hP1 hD1 hS1 => ?_)
  rw [nI_clamp (by omega), hv] at hP1 hD1
  rw [WC_set (k := 3) (by decide)] at hP1 hD1
  exact kk _ rfl H1 locs1 ls hP1 hD1 hS1 hlv
theorem jc_len (X : CX K cc nL own D Y) {k : Nat} (hk : k < 10) (h3 : k ≠ 3) (hdg : decode cc pc = .ok (.arraylength, 1)) (kk : JJ K D cells slots (WC ad Y (T, e)) lv (pc + 1) (.int (nI (lenC k)) :: st)) : JJ K D cells slots (WC ad Y (T, e)) lv pc (.ref (ad k) :: st) := fun H locs ls hP hD hS hlv =>
  va_alen X.1.1 X.1.2.1 X.2.1.1 hP (k + 7) 0 (WC_a hk) (ty_a k h3) rfl hdg (kk H locs ls hP hD hS hlv)
theorem jc_len3 (X : CX K cc nL own D Y) (hdg : decode cc pc = .ok (.arraylength, 1)) (kk : JJ K D cells slots (WC ad Y (T, e)) lv (pc + 1) (.int (nI 60) :: st)) : JJ K D cells slots (WC ad Y (T, e)) lv pc (.ref (ad 3) :: st) := fun H locs ls hP hD hS hlv =>
  va_alen X.1.1 X.1.2.1 X.2.1.1 hP 10 1 (WC_a (k := 3) (by decide)) rfl rfl hdg (kk H locs ls hP hD hS hlv)

theorem jc_len_r0 (X : CX K cc nL own D Y) (hdg : decode cc pc = .ok (.arraylength, 1)) (kk : JJ K D cells slots (WC ad Y (T, e)) lv (pc + 1) (.int (nI 24) :: st)) : JJ K D cells slots (WC ad Y (T, e)) lv pc (.ref (ad 10) :: st) := fun H locs ls hP hD hS hlv =>
  va_alen X.1.1 X.1.2.1 X.2.1.1 hP 1 2 rfl rfl rfl hdg (kk H locs ls hP hD hS hlv)
theorem jc_ald_r0 (X : CX K cc nL own D Y) {i : Nat} (hi : i < 24) (hdg : decode cc pc = .ok (.aaload, 1)) (kk : JJ K D cells slots (WC ad Y (T, e)) lv (pc + 1) (va_rf (eR e 0 i) :: st)) : JJ K D cells slots (WC ad Y (T, e)) lv pc (.int (nI i) :: .ref (ad 10) :: st) := by
  intro H locs ls hP hD hS hlv
  refine va_aldq X.1.1 X.1.2.1 X.2.1.1 hP 1 2 (C := RX0) rfl rfl (vp_in_nI hi (by decide)) hdg ?_
  rw [nI_clamp (by omega)]
  exact kk H locs ls hP hD hS hlv
theorem jc_ast_r0N (X : CX K cc nL own D Y) {i : Nat} (hi : i < 24) (hdg : decode cc pc = .ok (.aastore, 1)) (kk : ∀ e' : CE, e' = wR e 0 i none → JJ K D cells slots (WC ad Y (T, e')) lv (pc + 1) st) : JJ K D cells slots (WC ad Y (T, e)) lv pc (.null :: .int (nI i) :: .ref (ad 10) :: st) := by
  intro H locs ls hP hD hS hlv
  refine va_astqN X.1.1 X.1.2.1 X.2.1.1 hP hD hS 1 2 (C := RX0) rfl rfl (vp_in_nI hi (by decide)) hdg (fun H1 locs1 hP1 hD1 hS1 => ?_)
  rw [nI_clamp (by omega)] at hP1 hD1
  have hw := WC_r (ad := ad) (Y := Y) (T := T) (e := e) (k := 0) (i := i) (r := none) (y := 2) (n := 24) (by decide)
  exact kk _ rfl H1 locs1 ls (hw ▸ hP1) (hw ▸ hD1) hS1 hlv
theorem jc_ast_r0 (X : CX K cc nL own D Y) {i a : Nat} {vs : List Value} (hi : i < 24) (ha : a ∈ eL e) (hp : eP e a = .inr (0, vs)) (hdg : decode cc pc = .ok (.aastore, 1)) (kk : ∀ e' : CE, e' = wR e 0 i (some a) → JJ K D cells slots (WC ad Y (T, e')) lv (pc + 1) st) : JJ K D cells slots (WC ad Y (T, e)) lv pc (.ref a :: .int (nI i) :: .ref (ad 10) :: st) := by
  intro H locs ls hP hD hS hlv
  obtain ⟨q, hq⟩ := WC_p (ad := ad) (Y := Y) (T := T) ha
  rw [hp] at hq
  refine va_astq X.1.1 X.1.2.1 X.2.1.1 hP hD hS 1 2 q 0 (r := (RX0, TX0, 5)) rfl rfl hq rfl (vp_in_nI hi (by decide)) hdg (fun H1 locs1 hP1 hD1 hS1 => ?_)
  rw [nI_clamp (by omega)] at hP1 hD1
  have hw := WC_r (ad := ad) (Y := Y) (T := T) (e := e) (k := 0) (i := i) (r := some a) (y := 2) (n := 24) (by decide)
  exact kk _ rfl H1 locs1 ls (hw ▸ hP1) (hw ▸ hD1) hS1 hlv
theorem jc_len_r1 (X : CX K cc nL own D Y) (hdg : decode cc pc = .ok (.arraylength, 1)) (kk : JJ K D cells slots (WC ad Y (T, e)) lv (pc + 1) (.int (nI 8) :: st)) : JJ K D cells slots (WC ad Y (T, e)) lv pc (.ref (ad 11) :: st) := fun H locs ls hP hD hS hlv =>
  va_alen X.1.1 X.1.2.1 X.2.1.1 hP 2 3 rfl rfl rfl hdg (kk H locs ls hP hD hS hlv)
theorem jc_ald_r1 (X : CX K cc nL own D Y) {i : Nat} (hi : i < 8) (hdg : decode cc pc = .ok (.aaload, 1)) (kk : JJ K D cells slots (WC ad Y (T, e)) lv (pc + 1) (va_rf (eR e 1 i) :: st)) : JJ K D cells slots (WC ad Y (T, e)) lv pc (.int (nI i) :: .ref (ad 11) :: st) := by
  intro H locs ls hP hD hS hlv
  refine va_aldq X.1.1 X.1.2.1 X.2.1.1 hP 2 3 (C := RX2) rfl rfl (vp_in_nI hi (by decide)) hdg ?_
  rw [nI_clamp (by omega)]
  exact kk H locs ls hP hD hS hlv
theorem jc_ast_r1N (X : CX K cc nL own D Y) {i : Nat} (hi : i < 8) (hdg : decode cc pc = .ok (.aastore, 1)) (kk : ∀ e' : CE, e' = wR e 1 i none → JJ K D cells slots (WC ad Y (T, e')) lv (pc + 1) st) : JJ K D cells slots (WC ad Y (T, e)) lv pc (.null :: .int (nI i) :: .ref (ad 11) :: st) := by
  intro H locs ls hP hD hS hlv
  refine va_astqN X.1.1 X.1.2.1 X.2.1.1 hP hD hS 2 3 (C := RX2) rfl rfl (vp_in_nI hi (by decide)) hdg (fun H1 locs1 hP1 hD1 hS1 => ?_)
  rw [nI_clamp (by omega)] at hP1 hD1
  have hw := WC_r (ad := ad) (Y := Y) (T := T) (e := e) (k := 1) (i := i) (r := none) (y := 3) (n := 8) (by decide)
  exact kk _ rfl H1 locs1 ls (hw ▸ hP1) (hw ▸ hD1) hS1 hlv
theorem jc_ast_r1 (X : CX K cc nL own D Y) {i a : Nat} {vs : List Value} (hi : i < 8) (ha : a ∈ eL e) (hp : eP e a = .inr (2, vs)) (hdg : decode cc pc = .ok (.aastore, 1)) (kk : ∀ e' : CE, e' = wR e 1 i (some a) → JJ K D cells slots (WC ad Y (T, e')) lv (pc + 1) st) : JJ K D cells slots (WC ad Y (T, e)) lv pc (.ref a :: .int (nI i) :: .ref (ad 11) :: st) := by
  intro H locs ls hP hD hS hlv
  obtain ⟨q, hq⟩ := WC_p (ad := ad) (Y := Y) (T := T) ha
  rw [hp] at hq
  refine va_astq X.1.1 X.1.2.1 X.2.1.1 hP hD hS 2 3 q 2 (r := (RX2, TX2, 2)) rfl rfl hq rfl (vp_in_nI hi (by decide)) hdg (fun H1 locs1 hP1 hD1 hS1 => ?_)
  rw [nI_clamp (by omega)] at hP1 hD1
  have hw := WC_r (ad := ad) (Y := Y) (T := T) (e := e) (k := 1) (i := i) (r := some a) (y := 3) (n := 8) (by decide)
  exact kk _ rfl H1 locs1 ls (hw ▸ hP1) (hw ▸ hD1) hS1 hlv
theorem jc_len_r2 (X : CX K cc nL own D Y) (hdg : decode cc pc = .ok (.arraylength, 1)) (kk : JJ K D cells slots (WC ad Y (T, e)) lv (pc + 1) (.int (nI 4) :: st)) : JJ K D cells slots (WC ad Y (T, e)) lv pc (.ref (ad 12) :: st) := fun H locs ls hP hD hS hlv =>
  va_alen X.1.1 X.1.2.1 X.2.1.1 hP 3 4 rfl rfl rfl hdg (kk H locs ls hP hD hS hlv)
theorem jc_ald_r2 (X : CX K cc nL own D Y) {i : Nat} (hi : i < 4) (hdg : decode cc pc = .ok (.aaload, 1)) (kk : JJ K D cells slots (WC ad Y (T, e)) lv (pc + 1) (va_rf (eR e 2 i) :: st)) : JJ K D cells slots (WC ad Y (T, e)) lv pc (.int (nI i) :: .ref (ad 12) :: st) := by
  intro H locs ls hP hD hS hlv
  refine va_aldq X.1.1 X.1.2.1 X.2.1.1 hP 3 4 (C := RX5) rfl rfl (vp_in_nI hi (by decide)) hdg ?_
  rw [nI_clamp (by omega)]
  exact kk H locs ls hP hD hS hlv
theorem jc_ast_r2N (X : CX K cc nL own D Y) {i : Nat} (hi : i < 4) (hdg : decode cc pc = .ok (.aastore, 1)) (kk : ∀ e' : CE, e' = wR e 2 i none → JJ K D cells slots (WC ad Y (T, e')) lv (pc + 1) st) : JJ K D cells slots (WC ad Y (T, e)) lv pc (.null :: .int (nI i) :: .ref (ad 12) :: st) := by
  intro H locs ls hP hD hS hlv
  refine va_astqN X.1.1 X.1.2.1 X.2.1.1 hP hD hS 3 4 (C := RX5) rfl rfl (vp_in_nI hi (by decide)) hdg (fun H1 locs1 hP1 hD1 hS1 => ?_)
  rw [nI_clamp (by omega)] at hP1 hD1
  have hw := WC_r (ad := ad) (Y := Y) (T := T) (e := e) (k := 2) (i := i) (r := none) (y := 4) (n := 4) (by decide)
  exact kk _ rfl H1 locs1 ls (hw ▸ hP1) (hw ▸ hD1) hS1 hlv
theorem jc_ast_r2 (X : CX K cc nL own D Y) {i a : Nat} {vs : List Value} (hi : i < 4) (ha : a ∈ eL e) (hp : eP e a = .inr (5, vs)) (hdg : decode cc pc = .ok (.aastore, 1)) (kk : ∀ e' : CE, e' = wR e 2 i (some a) → JJ K D cells slots (WC ad Y (T, e')) lv (pc + 1) st) : JJ K D cells slots (WC ad Y (T, e)) lv pc (.ref a :: .int (nI i) :: .ref (ad 12) :: st) := by
  intro H locs ls hP hD hS hlv
  obtain ⟨q, hq⟩ := WC_p (ad := ad) (Y := Y) (T := T) ha
  rw [hp] at hq
  refine va_astq X.1.1 X.1.2.1 X.2.1.1 hP hD hS 3 4 q 5 (r := (RX5, TX5, 4)) rfl rfl hq rfl (vp_in_nI hi (by decide)) hdg (fun H1 locs1 hP1 hD1 hS1 => ?_)
  rw [nI_clamp (by omega)] at hP1 hD1
  have hw := WC_r (ad := ad) (Y := Y) (T := T) (e := e) (k := 2) (i := i) (r := some a) (y := 4) (n := 4) (by decide)
  exact kk _ rfl H1 locs1 ls (hw ▸ hP1) (hw ▸ hD1) hS1 hlv
/-- a pooled object's field, read and written; a new object -/
theorem jc_pget (X : CX K cc nL own D Y) {C : String} {F : u_T} {N ci idx a : Nat} {fs : List Value} (hly : ∀ w ∈ u_ws C F N, w ∈ lw_g) (ha : a ∈ eL e) (hp : eP e a = .inr (ci, fs)) (hc : vwCl[ci]? = some (C, F, N)) (f : Nat) (hf : f < N) (hl : Cond.fieldLink own idx (F f).1 (F f).2.1 (F f).2.2.1 ∈ lw_g) {v : Value} (hv : fs[f]? = some v) (hdg : decode cc pc = .ok (.getfield idx, 3)) (kk : JJ K D cells slots (WC ad Y (T, e)) lv (pc + 3) (v :: st)) : JJ K D cells slots (WC ad Y (T, e)) lv pc (.ref a :: st) := by
  obtain ⟨q, hq⟩ := WC_p (ad := ad) (Y := Y) (T := T) ha
  rw [hp] at hq
  exact j_getf X hly q hq hc f hf hl hv hdg kk
theorem jc_pput (X : CX K cc nL own D Y) {C : String} {F : u_T} {N ci idx a : Nat} {fs : List Value} (hly : ∀ w ∈ u_ws C F N, w ∈ lw_g) (ty0 : Nat → FieldType) (hty : ∀ k, k < N → parseFieldDescriptor (F k).2.2.1 = some (ty0 k)) (hnm : ∀ a, a < N → ∀ b, b < N → a ≠ b → (F a).2.1 ≠ (F b).2.1) (ha : a ∈ eL e) (hp : eP e a = .inr (ci, fs)) (hc : vwCl[ci]? = some (C, F, N)) (f : Nat) (hf : f < N) (hl : Cond.fieldLink own idx (F f).1 (F f).2.1 (F f).2.2.1 ∈ lw_g) (hfin : (F f).2.2.2 = false) {ty : FieldType} {v : Value} (hd : parseFieldDescriptor (F f).2.2.1 = some ty) (hn : narrow ty v = v) (hfit : fits ty v = true) (hlen : f < fs.length) (hdg : decode cc pc = .ok (.putfield idx, 3)) (kk : ∀ e' : CE, e' = wP e a (.inr (ci, fs.set f v)) → JJ K D cells slots (WC ad Y (T, e')) lv (pc + 3) st) : JJ K D cells slots (WC ad Y (T, e)) lv pc (v :: .ref a :: st) := by
  intro H locs ls hP hD hS hlv
  obtain ⟨q, hq⟩ := WC_p (ad := ad) (Y := Y) (T := T) ha
  have hset := WC_pset (x := .inr (ci, fs.set f v)) hD ha hq
  rw [hp] at hq
  exact j_putf X hly ty0 hty hnm q hq hc f hf hl hfin hd hn hfit hlen hset hdg (kk _ rfl) H locs ls hP hD hS hlv
theorem jc_pputF (X : CX K cc nL own D Y) {F : u_T} {N ci idx a : Nat} {fs : List Value} (hly : ∀ w ∈ u_ws own F N, w ∈ lw_g) (ty0 : Nat → FieldType) (hty : ∀ k, k < N → parseFieldDescriptor (F k).2.2.1 = some (ty0 k)) (hnm : ∀ a, a < N → ∀ b, b < N → a ≠ b → (F a).2.1 ≠ (F b).2.1) (ha : a ∈ eL e) (hp : eP e a = .inr (ci, fs)) (hc : vwCl[ci]? = some (own, F, N)) (f : Nat) (hf : f < N) (hl : Cond.fieldLink own idx (F f).1 (F f).2.1 (F f).2.2.1 ∈ lw_g) (hfin : (F f).2.2.2 = true) (hin : (kh K).name = "<init>") (hdecl : (F f).1 = own) {ty : FieldType} {v : Value} (hd : parseFieldDescriptor (F f).2.2.1 = some ty) (hn : narrow ty v = v) (hfit : fits ty v = true) (hlen : f < fs.length) (hdg : decode cc pc = .ok (.putfield idx, 3)) (kk : ∀ e' : CE, e' = wP e a (.inr (ci, fs.set f v)) → JJ K D cells slots (WC ad Y (T, e')) lv (pc + 3) st) : JJ K D cells slots (WC ad Y (T, e)) lv pc (v :: .ref a :: st) := by
  intro H locs ls hP hD hS hlv
  obtain ⟨q, hq⟩ := WC_p (ad := ad) (Y := Y) (T := T) ha
  have hset := WC_pset (x := .inr (ci, fs.set f v)) hD ha hq
  rw [hp] at hq
  exact j_putF X hly ty0 hty hnm q hq hc f hf hl hfin hin hdecl hd hn hfit hlen hset hdg (kk _ rfl) H locs ls hP hD hS hlv
theorem jc_new (X : CX K cc nL own D Y) {C : String} {F : u_T} {N ci idx k mc ms : Nat} {fs : List Value} (hR : kR K = Rm k mc ms) (hly : ∀ w ∈ u_ws C F N, w ∈ lw_g) (ty0 : Nat → FieldType) (hty : ∀ k, k < N → parseFieldDescriptor (F k).2.2.1 = some (ty0 k)) (hcl : Cond.classLink own idx C ∈ lw_g) (hinst : Cond.instantiable C N ∈ lw_g) (hini : Cond.initialized C ∈ lw_g) (hc : vwCl[ci]? = some (C, F, N)) (hfs : ∀ j, j < N → defaultValue (ty0 j) = vp_V fs j) (hcells : cells + 1 ≤ mc) (hslots : slots + N ≤ ms) (hdg : decode cc pc = .ok (.new idx, 3)) (kk : ∀ (a : Nat) (e' : CE), a ∉ eL e → e' = wN e a (.inr (ci, fs)) → JJ K D (cells + 1) (slots + N) (WC ad Y (T, e')) lv (pc + 3) (.ref a :: st)) : JJ K D cells slots (WC ad Y (T, e)) lv pc st := by
  intro H locs ls hP hD hS hlv
  have hts := X.1.2.2.2.2
  refine va_new X.1.1 X.1.2.1 (Ts := lw_g) hts hly ty0 hty X.1.2.2.2.1 (hts _ hcl) (hts _ hinst) (hts _ hini) X.2.1.1 hP hD hS X.2.2.1 hc hfs (by rw [hR]; exact hcells) (by rw [hR]; exact hslots) hdg (fun q H1 hP1 hD1 hS1 => ?_)
  have hfr := WC_fresh hD1
  rw [WC_push hfr] at hP1 hD1
  exact kk q _ hfr rfl H1 locs ls hP1 hD1 hS1 hlv
theorem j_lcmp (X : CX K cc nL own D Y) {ws : va_W} {x y : Int64} (hdg : decode cc pc = .ok (.lcmp, 1)) (k : JJ K D cells slots ws lv (pc + 1) (.int (lg_cmp x y) :: st)) : JJ K D cells slots ws lv pc (.long y :: .long x :: st) := fun H locs ls hP hD hS hl => W.lcmp X.1.1 X.1.2.1 hdg (k H locs ls hP hD hS hl)
theorem j_lookup (X : CX K cc nL own D Y) {ws : va_W} {dflt : Int} {ps : Array (Int × Int)} {len : Nat} {x : Int32} (hdg : decode cc pc = .ok (.lookupswitch dflt ps, len)) (hp : (ps.toList.zip (ps.toList.drop 1)).all (fun (a, next) => a.1 < next.1) = true) (ho : Op.lookupswitch.offset ps.toList dflt x.toInt = off) (ht : (pc : Int) + off = (tgt : Int)) (k : JJ K D cells slots ws lv tgt st) : JJ K D cells slots ws lv pc (.int x :: st) := fun H locs ls hP hD hS hl => lv_lookup X.1.1 X.1.2.1 hdg hp ho ht (k H locs ls hP hD hS hl)
theorem j_tableOut (X : CX K cc nL own D Y) {ws : va_W} {dflt lo hi : Int} {offs : Array Int} {len : Nat} {x : Int32} (hdg : decode cc pc = .ok (.tableswitch dflt lo hi offs, len)) (h : x.toInt < lo ∨ hi < x.toInt) (ht : (pc : Int) + dflt = (tgt : Int)) (k : JJ K D cells slots ws lv tgt st) : JJ K D cells slots ws lv pc (.int x :: st) := fun H locs ls hP hD hS hl => lv_tableOut X.1.1 X.1.2.1 hdg h ht (k H locs ls hP hD hS hl)
theorem j_tableIn (X : CX K cc nL own D Y) {ws : va_W} {dflt lo hi : Int} {offs : Array Int} {len : Nat} {x : Int32} (hdg : decode cc pc = .ok (.tableswitch dflt lo hi offs, len)) (h1 : ¬ x.toInt < lo) (h2 : ¬ hi < x.toInt) (ho : offs[(x.toInt - lo).toNat]? = some off) (ht : (pc : Int) + off = (tgt : Int)) (k : JJ K D cells slots ws lv tgt st) : JJ K D cells slots ws lv pc (.int x :: st) := fun H locs ls hP hD hS hl => lv_tableIn X.1.1 X.1.2.1 hdg h1 h2 ho ht (k H locs ls hP hD hS hl)
/-- contracts of the class's methods, the receiver the fixed object j (16: the planner, 13 sheet, 14 search, 15 heads) or a pooled one -/
def CF (z : MI) (j k mc ms : Nat) (av : List Value) (t : CS) (post : Option Value → CS → Prop) : Prop := ∀ (D : va_G) (Y : Nat → ClassId) (ad : Nat → Nat), MT z k mc ms D Y (.ref (ad j) :: av) (WC ad Y t) (WC ad Y) post
def CP (z : MI) (a k : Nat) (av : List Value) (t : CS) (post : Option Value → CS → Prop) : Prop := ∀ (D : va_G) (Y : Nat → ClassId) (ad : Nat → Nat), MT z k 0 0 D Y (.ref a :: av) (WC ad Y t) (WC ad Y) post
/-- the same of static ones that get a fixed object -/
def CZ (z : MI) (j k : Nat) (av : List Value) (t : CS) (post : Option Value → CS → Prop) : Prop := ∀ (D : va_G) (Y : Nat → ClassId) (ad : Nat → Nat), MT z k 0 0 D Y (.ref (ad j) :: av) (WC ad Y t) (WC ad Y) post
theorem jc_call16I0 (X : CX K cc nL own D Y) {z : MI} {j k mc0 ms0 mc ms idx : Nat}  {φ : Int32 → CS → Prop} (hR : kR K = Rm k mc0 ms0) (hM : CF z 16 j mc ms [] (T, e) (pI φ)) (cw : CwV own idx 0 z) (hz : z.1.cls = RX6) (hjk : j < k) (hmL : z.2.2.1 ≤ 40) (hst : (st.map fun v => v.category).sum ≤ 8) (hf : cells + mc ≤ mc0 ∧ slots + ms ≤ ms0) (hdg : decode cc pc = .ok (.invokevirtual idx, 3)) (kk : ∀ (r : Int32) (u : CS), φ r u → JJ K D (cells + mc) (slots + ms) (WC ad Y u) lv (pc + 3) (.int r :: st)) : JJ K D cells slots (WC ad Y (T, e)) lv pc (.ref (ad 16) :: st) := by
  refine j_callV (mc := mc) (ms := ms) (As := []) (q0 := 0) (ci := 6) X hR (hM D Y ad) cw hjk hmL rfl (cq := (RX6, TX6, 12)) rfl hz.symm rfl hst hf hdg (fun v u hp => ?_)
  obtain ⟨r, rfl, h⟩ := hp
  exact kk r u h
theorem jc_call13I0 (X : CX K cc nL own D Y) {z : MI} {j k mc0 ms0 mc ms idx : Nat}  {φ : Int32 → CS → Prop} (hR : kR K = Rm k mc0 ms0) (hM : CF z 13 j mc ms [] (T, e) (pI φ)) (cw : CwV own idx 0 z) (hz : z.1.cls = RX4) (hjk : j < k) (hmL : z.2.2.1 ≤ 40) (hst : (st.map fun v => v.category).sum ≤ 8) (hf : cells + mc ≤ mc0 ∧ slots + ms ≤ ms0) (hdg : decode cc pc = .ok (.invokevirtual idx, 3)) (kk : ∀ (r : Int32) (u : CS), φ r u → JJ K D (cells + mc) (slots + ms) (WC ad Y u) lv (pc + 3) (.int r :: st)) : JJ K D cells slots (WC ad Y (T, e)) lv pc (.ref (ad 13) :: st) := by
  refine j_callV (mc := mc) (ms := ms) (As := []) (q0 := 4) (ci := 4) X hR (hM D Y ad) cw hjk hmL rfl (cq := (RX4, TX4, 3)) rfl hz.symm rfl hst hf hdg (fun v u hp => ?_)
  obtain ⟨r, rfl, h⟩ := hp
  exact kk r u h
theorem jc_call14I0 (X : CX K cc nL own D Y) {z : MI} {j k mc0 ms0 mc ms idx : Nat}  {φ : Int32 → CS → Prop} (hR : kR K = Rm k mc0 ms0) (hM : CF z 14 j mc ms [] (T, e) (pI φ)) (cw : CwV own idx 0 z) (hz : z.1.cls = RX1) (hjk : j < k) (hmL : z.2.2.1 ≤ 40) (hst : (st.map fun v => v.category).sum ≤ 8) (hf : cells + mc ≤ mc0 ∧ slots + ms ≤ ms0) (hdg : decode cc pc = .ok (.invokevirtual idx, 3)) (kk : ∀ (r : Int32) (u : CS), φ r u → JJ K D (cells + mc) (slots + ms) (WC ad Y u) lv (pc + 3) (.int r :: st)) : JJ K D cells slots (WC ad Y (T, e)) lv pc (.ref (ad 14) :: st) := by
  refine j_callV (mc := mc) (ms := ms) (As := []) (q0 := 5) (ci := 1) X hR (hM D Y ad) cw hjk hmL rfl (cq := (RX1, TX1, 6)) rfl hz.symm rfl hst hf hdg (fun v u hp => ?_)
  obtain ⟨r, rfl, h⟩ := hp
  exact kk r u h
theorem jc_call15I0 (X : CX K cc nL own D Y) {z : MI} {j k mc0 ms0 mc ms idx : Nat}  {φ : Int32 → CS → Prop} (hR : kR K = Rm k mc0 ms0) (hM : CF z 15 j mc ms [] (T, e) (pI φ)) (cw : CwV own idx 0 z) (hz : z.1.cls = RX3) (hjk : j < k) (hmL : z.2.2.1 ≤ 40) (hst : (st.map fun v => v.category).sum ≤ 8) (hf : cells + mc ≤ mc0 ∧ slots + ms ≤ ms0) (hdg : decode cc pc = .ok (.invokevirtual idx, 3)) (kk : ∀ (r : Int32) (u : CS), φ r u → JJ K D (cells + mc) (slots + ms) (WC ad Y u) lv (pc + 3) (.int r :: st)) : JJ K D cells slots (WC ad Y (T, e)) lv pc (.ref (ad 15) :: st) := by
  refine j_callV (mc := mc) (ms := ms) (As := []) (q0 := 6) (ci := 3) X hR (hM D Y ad) cw hjk hmL rfl (cq := (RX3, TX3, 1)) rfl hz.symm rfl hst hf hdg (fun v u hp => ?_)
  obtain ⟨r, rfl, h⟩ := hp
  exact kk r u h
theorem jc_callPI0 (X : CX K cc nL own D Y) {z : MI} {j k mc0 ms0 idx a ci : Nat} {fs : List Value} {cq : vw_C}  {φ : Int32 → CS → Prop} (hR : kR K = Rm k mc0 ms0) (hM : CP z a j [] (T, e) (pI φ)) (cw : CwV own idx 0 z) (ha : a ∈ eL e) (hp : eP e a = .inr (ci, fs)) (hcq : vwCl[ci]? = some cq) (hz : cq.1 = z.1.cls) (hjk : j < k) (hmL : z.2.2.1 ≤ 40) (hst : (st.map fun v => v.category).sum ≤ 8) (hf : cells ≤ mc0 ∧ slots ≤ ms0) (hdg : decode cc pc = .ok (.invokevirtual idx, 3)) (kk : ∀ (r : Int32) (u : CS), φ r u → JJ K D cells slots (WC ad Y u) lv (pc + 3) (.int r :: st)) : JJ K D cells slots (WC ad Y (T, e)) lv pc (.ref a :: st) := by
  obtain ⟨q, hq⟩ := WC_p (ad := ad) (Y := Y) (T := T) ha
  rw [hp] at hq
  refine j_callV (mc := 0) (ms := 0) (As := []) X hR (hM D Y ad) cw hjk hmL hq hcq hz rfl hst hf hdg (fun v u hp => ?_)
  obtain ⟨r, rfl, h⟩ := hp
  exact kk r u h
theorem jc_call16V0 (X : CX K cc nL own D Y) {z : MI} {j k mc0 ms0 mc ms idx : Nat}  {φ : CS → Prop} (hR : kR K = Rm k mc0 ms0) (hM : CF z 16 j mc ms [] (T, e) (pV φ)) (cw : CwV own idx 0 z) (hz : z.1.cls = RX6) (hjk : j < k) (hmL : z.2.2.1 ≤ 40) (hst : (st.map fun v => v.category).sum ≤ 8) (hf : cells + mc ≤ mc0 ∧ slots + ms ≤ ms0) (hdg : decode cc pc = .ok (.invokevirtual idx, 3)) (kk : ∀ (u : CS), φ u → JJ K D (cells + mc) (slots + ms) (WC ad Y u) lv (pc + 3) st) : JJ K D cells slots (WC ad Y (T, e)) lv pc (.ref (ad 16) :: st) := by
  refine j_callV (mc := mc) (ms := ms) (As := []) (q0 := 0) (ci := 6) X hR (hM D Y ad) cw hjk hmL rfl (cq := (RX6, TX6, 12)) rfl hz.symm rfl hst hf hdg (fun v u hp => ?_)
  obtain ⟨rfl, h⟩ := hp
  exact kk u h
theorem jc_call13V0 (X : CX K cc nL own D Y) {z : MI} {j k mc0 ms0 mc ms idx : Nat}  {φ : CS → Prop} (hR : kR K = Rm k mc0 ms0) (hM : CF z 13 j mc ms [] (T, e) (pV φ)) (cw : CwV own idx 0 z) (hz : z.1.cls = RX4) (hjk : j < k) (hmL : z.2.2.1 ≤ 40) (hst : (st.map fun v => v.category).sum ≤ 8) (hf : cells + mc ≤ mc0 ∧ slots + ms ≤ ms0) (hdg : decode cc pc = .ok (.invokevirtual idx, 3)) (kk : ∀ (u : CS), φ u → JJ K D (cells + mc) (slots + ms) (WC ad Y u) lv (pc + 3) st) : JJ K D cells slots (WC ad Y (T, e)) lv pc (.ref (ad 13) :: st) := by
  refine j_callV (mc := mc) (ms := ms) (As := []) (q0 := 4) (ci := 4) X hR (hM D Y ad) cw hjk hmL rfl (cq := (RX4, TX4, 3)) rfl hz.symm rfl hst hf hdg (fun v u hp => ?_)
  obtain ⟨rfl, h⟩ := hp
  exact kk u h
theorem jc_call14V0 (X : CX K cc nL own D Y) {z : MI} {j k mc0 ms0 mc ms idx : Nat}  {φ : CS → Prop} (hR : kR K = Rm k mc0 ms0) (hM : CF z 14 j mc ms [] (T, e) (pV φ)) (cw : CwV own idx 0 z) (hz : z.1.cls = RX1) (hjk : j < k) (hmL : z.2.2.1 ≤ 40) (hst : (st.map fun v => v.category).sum ≤ 8) (hf : cells + mc ≤ mc0 ∧ slots + ms ≤ ms0) (hdg : decode cc pc = .ok (.invokevirtual idx, 3)) (kk : ∀ (u : CS), φ u → JJ K D (cells + mc) (slots + ms) (WC ad Y u) lv (pc + 3) st) : JJ K D cells slots (WC ad Y (T, e)) lv pc (.ref (ad 14) :: st) := by
  refine j_callV (mc := mc) (ms := ms) (As := []) (q0 := 5) (ci := 1) X hR (hM D Y ad) cw hjk hmL rfl (cq := (RX1, TX1, 6)) rfl hz.symm rfl hst hf hdg (fun v u hp => ?_)
  obtain ⟨rfl, h⟩ := hp
  exact kk u h
theorem jc_call15V0 (X : CX K cc nL own D Y) {z : MI} {j k mc0 ms0 mc ms idx : Nat}  {φ : CS → Prop} (hR : kR K = Rm k mc0 ms0) (hM : CF z 15 j mc ms [] (T, e) (pV φ)) (cw : CwV own idx 0 z) (hz : z.1.cls = RX3) (hjk : j < k) (hmL : z.2.2.1 ≤ 40) (hst : (st.map fun v => v.category).sum ≤ 8) (hf : cells + mc ≤ mc0 ∧ slots + ms ≤ ms0) (hdg : decode cc pc = .ok (.invokevirtual idx, 3)) (kk : ∀ (u : CS), φ u → JJ K D (cells + mc) (slots + ms) (WC ad Y u) lv (pc + 3) st) : JJ K D cells slots (WC ad Y (T, e)) lv pc (.ref (ad 15) :: st) := by
  refine j_callV (mc := mc) (ms := ms) (As := []) (q0 := 6) (ci := 3) X hR (hM D Y ad) cw hjk hmL rfl (cq := (RX3, TX3, 1)) rfl hz.symm rfl hst hf hdg (fun v u hp => ?_)
  obtain ⟨rfl, h⟩ := hp
  exact kk u h
theorem jc_callPV0 (X : CX K cc nL own D Y) {z : MI} {j k mc0 ms0 idx a ci : Nat} {fs : List Value} {cq : vw_C}  {φ : CS → Prop} (hR : kR K = Rm k mc0 ms0) (hM : CP z a j [] (T, e) (pV φ)) (cw : CwV own idx 0 z) (ha : a ∈ eL e) (hp : eP e a = .inr (ci, fs)) (hcq : vwCl[ci]? = some cq) (hz : cq.1 = z.1.cls) (hjk : j < k) (hmL : z.2.2.1 ≤ 40) (hst : (st.map fun v => v.category).sum ≤ 8) (hf : cells ≤ mc0 ∧ slots ≤ ms0) (hdg : decode cc pc = .ok (.invokevirtual idx, 3)) (kk : ∀ (u : CS), φ u → JJ K D cells slots (WC ad Y u) lv (pc + 3) st) : JJ K D cells slots (WC ad Y (T, e)) lv pc (.ref a :: st) := by
  obtain ⟨q, hq⟩ := WC_p (ad := ad) (Y := Y) (T := T) ha
  rw [hp] at hq
  refine j_callV (mc := 0) (ms := 0) (As := []) X hR (hM D Y ad) cw hjk hmL hq hcq hz rfl hst hf hdg (fun v u hp => ?_)
  obtain ⟨rfl, h⟩ := hp
  exact kk u h
theorem jc_call16D0 (X : CX K cc nL own D Y) {z : MI} {j k mc0 ms0 mc ms idx : Nat}  {φ : UInt64 → CS → Prop} (hR : kR K = Rm k mc0 ms0) (hM : CF z 16 j mc ms [] (T, e) (pD φ)) (cw : CwV own idx 0 z) (hz : z.1.cls = RX6) (hjk : j < k) (hmL : z.2.2.1 ≤ 40) (hst : (st.map fun v => v.category).sum ≤ 8) (hf : cells + mc ≤ mc0 ∧ slots + ms ≤ ms0) (hdg : decode cc pc = .ok (.invokevirtual idx, 3)) (kk : ∀ (r : UInt64) (u : CS), φ r u → JJ K D (cells + mc) (slots + ms) (WC ad Y u) lv (pc + 3) (.double r :: st)) : JJ K D cells slots (WC ad Y (T, e)) lv pc (.ref (ad 16) :: st) := by
  refine j_callV (mc := mc) (ms := ms) (As := []) (q0 := 0) (ci := 6) X hR (hM D Y ad) cw hjk hmL rfl (cq := (RX6, TX6, 12)) rfl hz.symm rfl hst hf hdg (fun v u hp => ?_)
  obtain ⟨r, rfl, h⟩ := hp
  exact kk r u h
theorem jc_call16L0 (X : CX K cc nL own D Y) {z : MI} {j k mc0 ms0 mc ms idx : Nat}  {φ : Int64 → CS → Prop} (hR : kR K = Rm k mc0 ms0) (hM : CF z 16 j mc ms [] (T, e) (pL φ)) (cw : CwV own idx 0 z) (hz : z.1.cls = RX6) (hjk : j < k) (hmL : z.2.2.1 ≤ 40) (hst : (st.map fun v => v.category).sum ≤ 8) (hf : cells + mc ≤ mc0 ∧ slots + ms ≤ ms0) (hdg : decode cc pc = .ok (.invokevirtual idx, 3)) (kk : ∀ (r : Int64) (u : CS), φ r u → JJ K D (cells + mc) (slots + ms) (WC ad Y u) lv (pc + 3) (.long r :: st)) : JJ K D cells slots (WC ad Y (T, e)) lv pc (.ref (ad 16) :: st) := by
  refine j_callV (mc := mc) (ms := ms) (As := []) (q0 := 0) (ci := 6) X hR (hM D Y ad) cw hjk hmL rfl (cq := (RX6, TX6, 12)) rfl hz.symm rfl hst hf hdg (fun v u hp => ?_)
  obtain ⟨r, rfl, h⟩ := hp
  exact kk r u h
theorem jc_call16Q0 (X : CX K cc nL own D Y) {z : MI} {j k mc0 ms0 mc ms idx : Nat}  {φ : Option Nat → CS → Prop} (hR : kR K = Rm k mc0 ms0) (hM : CF z 16 j mc ms [] (T, e) (pQ φ)) (cw : CwV own idx 0 z) (hz : z.1.cls = RX6) (hjk : j < k) (hmL : z.2.2.1 ≤ 40) (hst : (st.map fun v => v.category).sum ≤ 8) (hf : cells + mc ≤ mc0 ∧ slots + ms ≤ ms0) (hdg : decode cc pc = .ok (.invokevirtual idx, 3)) (kk : ∀ (r : Option Nat) (u : CS), φ r u → JJ K D (cells + mc) (slots + ms) (WC ad Y u) lv (pc + 3) (va_rf r :: st)) : JJ K D cells slots (WC ad Y (T, e)) lv pc (.ref (ad 16) :: st) := by
  refine j_callV (mc := mc) (ms := ms) (As := []) (q0 := 0) (ci := 6) X hR (hM D Y ad) cw hjk hmL rfl (cq := (RX6, TX6, 12)) rfl hz.symm rfl hst hf hdg (fun v u hp => ?_)
  obtain ⟨r, rfl, h⟩ := hp
  exact kk r u h
theorem jst_callN0 (X : CX K cc nL own D Y) {ws : va_W} {z : MI} {j k mc0 ms0 idx : Nat} {host : String}  {v : Value} (hR : kR K = Rm k mc0 ms0) (hM : MSt z j [] (fun w => w = some v)) (cw : CwSN own idx 0 z host) (hjk : j < k) (hmL : z.2.2.1 ≤ 40) (hst : (st.map fun v => v.category).sum ≤ 8) (hf : cells ≤ mc0 ∧ slots ≤ ms0) (hdg : decode cc pc = .ok (.invokestatic idx, 3)) (kk : JJ K D cells slots ws lv (pc + 3) (v :: st)) : JJ K D cells slots ws lv pc (st) := by
  intro H locs ls hP hD hS hl
  obtain ⟨c1, c2, c3, c4, c5⟩ := cw
  have hts := X.1.2.2.2.2
  refine j_back X hD hS hl (va_runSN (mc := 0) (ms := 0) (As := []) X.1 (hM D Y ws (kl K) H.size) ⟨va_cnB 0 hts (wg_good c4) rfl rfl rfl (X.2.1.2.1 _ c1) (hts _ c3) c5 (by rw [hR]; exact room_ok hjk hmL), hts _ c2, trivial⟩ ⟨fb_PG, pg_at X hP hD⟩ rfl rfl (hl.1.trans X.1.2.2.1) rfl (lv_room hst) hdg (by rw [hR]; exact hf)) (fun v' u hp => ?_)
  obtain ⟨rfl, rfl⟩ := hp
  exact kk
theorem jc_call16I1 (X : CX K cc nL own D Y) {z : MI} {j k mc0 ms0 mc ms idx : Nat} {a0 : Value} {φ : Int32 → CS → Prop} (hR : kR K = Rm k mc0 ms0) (hM : CF z 16 j mc ms [a0] (T, e) (pI φ)) (cw : CwV own idx 1 z) (hz : z.1.cls = RX6) (hjk : j < k) (hmL : z.2.2.1 ≤ 40) (hst : (st.map fun v => v.category).sum ≤ 8) (hf : cells + mc ≤ mc0 ∧ slots + ms ≤ ms0) (hdg : decode cc pc = .ok (.invokevirtual idx, 3)) (kk : ∀ (r : Int32) (u : CS), φ r u → JJ K D (cells + mc) (slots + ms) (WC ad Y u) lv (pc + 3) (.int r :: st)) : JJ K D cells slots (WC ad Y (T, e)) lv pc (a0 :: .ref (ad 16) :: st) := by
  refine j_callV (mc := mc) (ms := ms) (As := [a0]) (q0 := 0) (ci := 6) X hR (hM D Y ad) cw hjk hmL rfl (cq := (RX6, TX6, 12)) rfl hz.symm rfl hst hf hdg (fun v u hp => ?_)
  obtain ⟨r, rfl, h⟩ := hp
  exact kk r u h
theorem jc_call13I1 (X : CX K cc nL own D Y) {z : MI} {j k mc0 ms0 mc ms idx : Nat} {a0 : Value} {φ : Int32 → CS → Prop} (hR : kR K = Rm k mc0 ms0) (hM : CF z 13 j mc ms [a0] (T, e) (pI φ)) (cw : CwV own idx 1 z) (hz : z.1.cls = RX4) (hjk : j < k) (hmL : z.2.2.1 ≤ 40) (hst : (st.map fun v => v.category).sum ≤ 8) (hf : cells + mc ≤ mc0 ∧ slots + ms ≤ ms0) (hdg : decode cc pc = .ok (.invokevirtual idx, 3)) (kk : ∀ (r : Int32) (u : CS), φ r u → JJ K D (cells + mc) (slots + ms) (WC ad Y u) lv (pc + 3) (.int r :: st)) : JJ K D cells slots (WC ad Y (T, e)) lv pc (a0 :: .ref (ad 13) :: st) := by
  refine j_callV (mc := mc) (ms := ms) (As := [a0]) (q0 := 4) (ci := 4) X hR (hM D Y ad) cw hjk hmL rfl (cq := (RX4, TX4, 3)) rfl hz.symm rfl hst hf hdg (fun v u hp => ?_)
  obtain ⟨r, rfl, h⟩ := hp
  exact kk r u h
theorem jc_call14I1 (X : CX K cc nL own D Y) {z : MI} {j k mc0 ms0 mc ms idx : Nat} {a0 : Value} {φ : Int32 → CS → Prop} (hR : kR K = Rm k mc0 ms0) (hM : CF z 14 j mc ms [a0] (T, e) (pI φ)) (cw : CwV own idx 1 z) (hz : z.1.cls = RX1) (hjk : j < k) (hmL : z.2.2.1 ≤ 40) (hst : (st.map fun v => v.category).sum ≤ 8) (hf : cells + mc ≤ mc0 ∧ slots + ms ≤ ms0) (hdg : decode cc pc = .ok (.invokevirtual idx, 3)) (kk : ∀ (r : Int32) (u : CS), φ r u → JJ K D (cells + mc) (slots + ms) (WC ad Y u) lv (pc + 3) (.int r :: st)) : JJ K D cells slots (WC ad Y (T, e)) lv pc (a0 :: .ref (ad 14) :: st) := by
  refine j_callV (mc := mc) (ms := ms) (As := [a0]) (q0 := 5) (ci := 1) X hR (hM D Y ad) cw hjk hmL rfl (cq := (RX1, TX1, 6)) rfl hz.symm rfl hst hf hdg (fun v u hp => ?_)
  obtain ⟨r, rfl, h⟩ := hp
  exact kk r u h
theorem jc_call15I1 (X : CX K cc nL own D Y) {z : MI} {j k mc0 ms0 mc ms idx : Nat} {a0 : Value} {φ : Int32 → CS → Prop} (hR : kR K = Rm k mc0 ms0) (hM : CF z 15 j mc ms [a0] (T, e) (pI φ)) (cw : CwV own idx 1 z) (hz : z.1.cls = RX3) (hjk : j < k) (hmL : z.2.2.1 ≤ 40) (hst : (st.map fun v => v.category).sum ≤ 8) (hf : cells + mc ≤ mc0 ∧ slots + ms ≤ ms0) (hdg : decode cc pc = .ok (.invokevirtual idx, 3)) (kk : ∀ (r : Int32) (u : CS), φ r u → JJ K D (cells + mc) (slots + ms) (WC ad Y u) lv (pc + 3) (.int r :: st)) : JJ K D cells slots (WC ad Y (T, e)) lv pc (a0 :: .ref (ad 15) :: st) := by
  refine j_callV (mc := mc) (ms := ms) (As := [a0]) (q0 := 6) (ci := 3) X hR (hM D Y ad) cw hjk hmL rfl (cq := (RX3, TX3, 1)) rfl hz.symm rfl hst hf hdg (fun v u hp => ?_)
  obtain ⟨r, rfl, h⟩ := hp
  exact kk r u h
theorem jc_callPI1 (X : CX K cc nL own D Y) {z : MI} {j k mc0 ms0 idx a ci : Nat} {fs : List Value} {cq : vw_C} {a0 : Value} {φ : Int32 → CS → Prop} (hR : kR K = Rm k mc0 ms0) (hM : CP z a j [a0] (T, e) (pI φ)) (cw : CwV own idx 1 z) (ha : a ∈ eL e) (hp : eP e a = .inr (ci, fs)) (hcq : vwCl[ci]? = some cq) (hz : cq.1 = z.1.cls) (hjk : j < k) (hmL : z.2.2.1 ≤ 40) (hst : (st.map fun v => v.category).sum ≤ 8) (hf : cells ≤ mc0 ∧ slots ≤ ms0) (hdg : decode cc pc = .ok (.invokevirtual idx, 3)) (kk : ∀ (r : Int32) (u : CS), φ r u → JJ K D cells slots (WC ad Y u) lv (pc + 3) (.int r :: st)) : JJ K D cells slots (WC ad Y (T, e)) lv pc (a0 :: .ref a :: st) := by
  obtain ⟨q, hq⟩ := WC_p (ad := ad) (Y := Y) (T := T) ha
  rw [hp] at hq
  refine j_callV (mc := 0) (ms := 0) (As := [a0]) X hR (hM D Y ad) cw hjk hmL hq hcq hz rfl hst hf hdg (fun v u hp => ?_)
  obtain ⟨r, rfl, h⟩ := hp
  exact kk r u h
theorem jc_call16V1 (X : CX K cc nL own D Y) {z : MI} {j k mc0 ms0 mc ms idx : Nat} {a0 : Value} {φ : CS → Prop} (hR : kR K = Rm k mc0 ms0) (hM : CF z 16 j mc ms [a0] (T, e) (pV φ)) (cw : CwV own idx 1 z) (hz : z.1.cls = RX6) (hjk : j < k) (hmL : z.2.2.1 ≤ 40) (hst : (st.map fun v => v.category).sum ≤ 8) (hf : cells + mc ≤ mc0 ∧ slots + ms ≤ ms0) (hdg : decode cc pc = .ok (.invokevirtual idx, 3)) (kk : ∀ (u : CS), φ u → JJ K D (cells + mc) (slots + ms) (WC ad Y u) lv (pc + 3) st) : JJ K D cells slots (WC ad Y (T, e)) lv pc (a0 :: .ref (ad 16) :: st) := by
  refine j_callV (mc := mc) (ms := ms) (As := [a0]) (q0 := 0) (ci := 6) X hR (hM D Y ad) cw hjk hmL rfl (cq := (RX6, TX6, 12)) rfl hz.symm rfl hst hf hdg (fun v u hp => ?_)
  obtain ⟨rfl, h⟩ := hp
  exact kk u h
theorem jc_call13V1 (X : CX K cc nL own D Y) {z : MI} {j k mc0 ms0 mc ms idx : Nat} {a0 : Value} {φ : CS → Prop} (hR : kR K = Rm k mc0 ms0) (hM : CF z 13 j mc ms [a0] (T, e) (pV φ)) (cw : CwV own idx 1 z) (hz : z.1.cls = RX4) (hjk : j < k) (hmL : z.2.2.1 ≤ 40) (hst : (st.map fun v => v.category).sum ≤ 8) (hf : cells + mc ≤ mc0 ∧ slots + ms ≤ ms0) (hdg : decode cc pc = .ok (.invokevirtual idx, 3)) (kk : ∀ (u : CS), φ u → JJ K D (cells + mc) (slots + ms) (WC ad Y u) lv (pc + 3) st) : JJ K D cells slots (WC ad Y (T, e)) lv pc (a0 :: .ref (ad 13) :: st) := by
  refine j_callV (mc := mc) (ms := ms) (As := [a0]) (q0 := 4) (ci := 4) X hR (hM D Y ad) cw hjk hmL rfl (cq := (RX4, TX4, 3)) rfl hz.symm rfl hst hf hdg (fun v u hp => ?_)
  obtain ⟨rfl, h⟩ := hp
  exact kk u h
theorem jc_call14V1 (X : CX K cc nL own D Y) {z : MI} {j k mc0 ms0 mc ms idx : Nat} {a0 : Value} {φ : CS → Prop} (hR : kR K = Rm k mc0 ms0) (hM : CF z 14 j mc ms [a0] (T, e) (pV φ)) (cw : CwV own idx 1 z) (hz : z.1.cls = RX1) (hjk : j < k) (hmL : z.2.2.1 ≤ 40) (hst : (st.map fun v => v.category).sum ≤ 8) (hf : cells + mc ≤ mc0 ∧ slots + ms ≤ ms0) (hdg : decode cc pc = .ok (.invokevirtual idx, 3)) (kk : ∀ (u : CS), φ u → JJ K D (cells + mc) (slots + ms) (WC ad Y u) lv (pc + 3) st) : JJ K D cells slots (WC ad Y (T, e)) lv pc (a0 :: .ref (ad 14) :: st) := by
  refine j_callV (mc := mc) (ms := ms) (As := [a0]) (q0 := 5) (ci := 1) X hR (hM D Y ad) cw hjk hmL rfl (cq := (RX1, TX1, 6)) rfl hz.symm rfl hst hf hdg (fun v u hp => ?_)
  obtain ⟨rfl, h⟩ := hp
  exact kk u h
theorem jc_call15V1 (X : CX K cc nL own D Y) {z : MI} {j k mc0 ms0 mc ms idx : Nat} {a0 : Value} {φ : CS → Prop} (hR : kR K = Rm k mc0 ms0) (hM : CF z 15 j mc ms [a0] (T, e) (pV φ)) (cw : CwV own idx 1 z) (hz : z.1.cls = RX3) (hjk : j < k) (hmL : z.2.2.1 ≤ 40) (hst : (st.map fun v => v.category).sum ≤ 8) (hf : cells + mc ≤ mc0 ∧ slots + ms ≤ ms0) (hdg : decode cc pc = .ok (.invokevirtual idx, 3)) (kk : ∀ (u : CS), φ u → JJ K D (cells + mc) (slots + ms) (WC ad Y u) lv (pc + 3) st) : JJ K D cells slots (WC ad Y (T, e)) lv pc (a0 :: .ref (ad 15) :: st) := by
  refine j_callV (mc := mc) (ms := ms) (As := [a0]) (q0 := 6) (ci := 3) X hR (hM D Y ad) cw hjk hmL rfl (cq := (RX3, TX3, 1)) rfl hz.symm rfl hst hf hdg (fun v u hp => ?_)
  obtain ⟨rfl, h⟩ := hp
  exact kk u h
theorem jc_callPV1 (X : CX K cc nL own D Y) {z : MI} {j k mc0 ms0 idx a ci : Nat} {fs : List Value} {cq : vw_C} {a0 : Value} {φ : CS → Prop} (hR : kR K = Rm k mc0 ms0) (hM : CP z a j [a0] (T, e) (pV φ)) (cw : CwV own idx 1 z) (ha : a ∈ eL e) (hp : eP e a = .inr (ci, fs)) (hcq : vwCl[ci]? = some cq) (hz : cq.1 = z.1.cls) (hjk : j < k) (hmL : z.2.2.1 ≤ 40) (hst : (st.map fun v => v.category).sum ≤ 8) (hf : cells ≤ mc0 ∧ slots ≤ ms0) (hdg : decode cc pc = .ok (.invokevirtual idx, 3)) (kk : ∀ (u : CS), φ u → JJ K D cells slots (WC ad Y u) lv (pc + 3) st) : JJ K D cells slots (WC ad Y (T, e)) lv pc (a0 :: .ref a :: st) := by
  obtain ⟨q, hq⟩ := WC_p (ad := ad) (Y := Y) (T := T) ha
  rw [hp] at hq
  refine j_callV (mc := 0) (ms := 0) (As := [a0]) X hR (hM D Y ad) cw hjk hmL hq hcq hz rfl hst hf hdg (fun v u hp => ?_)
  obtain ⟨rfl, h⟩ := hp
  exact kk u h
theorem jc_call16D1 (X : CX K cc nL own D Y) {z : MI} {j k mc0 ms0 mc ms idx : Nat} {a0 : Value} {φ : UInt64 → CS → Prop} (hR : kR K = Rm k mc0 ms0) (hM : CF z 16 j mc ms [a0] (T, e) (pD φ)) (cw : CwV own idx 1 z) (hz : z.1.cls = RX6) (hjk : j < k) (hmL : z.2.2.1 ≤ 40) (hst : (st.map fun v => v.category).sum ≤ 8) (hf : cells + mc ≤ mc0 ∧ slots + ms ≤ ms0) (hdg : decode cc pc = .ok (.invokevirtual idx, 3)) (kk : ∀ (r : UInt64) (u : CS), φ r u → JJ K D (cells + mc) (slots + ms) (WC ad Y u) lv (pc + 3) (.double r :: st)) : JJ K D cells slots (WC ad Y (T, e)) lv pc (a0 :: .ref (ad 16) :: st) := by
  refine j_callV (mc := mc) (ms := ms) (As := [a0]) (q0 := 0) (ci := 6) X hR (hM D Y ad) cw hjk hmL rfl (cq := (RX6, TX6, 12)) rfl hz.symm rfl hst hf hdg (fun v u hp => ?_)
  obtain ⟨r, rfl, h⟩ := hp
  exact kk r u h
theorem jc_call16L1 (X : CX K cc nL own D Y) {z : MI} {j k mc0 ms0 mc ms idx : Nat} {a0 : Value} {φ : Int64 → CS → Prop} (hR : kR K = Rm k mc0 ms0) (hM : CF z 16 j mc ms [a0] (T, e) (pL φ)) (cw : CwV own idx 1 z) (hz : z.1.cls = RX6) (hjk : j < k) (hmL : z.2.2.1 ≤ 40) (hst : (st.map fun v => v.category).sum ≤ 8) (hf : cells + mc ≤ mc0 ∧ slots + ms ≤ ms0) (hdg : decode cc pc = .ok (.invokevirtual idx, 3)) (kk : ∀ (r : Int64) (u : CS), φ r u → JJ K D (cells + mc) (slots + ms) (WC ad Y u) lv (pc + 3) (.long r :: st)) : JJ K D cells slots (WC ad Y (T, e)) lv pc (a0 :: .ref (ad 16) :: st) := by
  refine j_callV (mc := mc) (ms := ms) (As := [a0]) (q0 := 0) (ci := 6) X hR (hM D Y ad) cw hjk hmL rfl (cq := (RX6, TX6, 12)) rfl hz.symm rfl hst hf hdg (fun v u hp => ?_)
  obtain ⟨r, rfl, h⟩ := hp
  exact kk r u h
theorem jc_call16Q1 (X : CX K cc nL own D Y) {z : MI} {j k mc0 ms0 mc ms idx : Nat} {a0 : Value} {φ : Option Nat → CS → Prop} (hR : kR K = Rm k mc0 ms0) (hM : CF z 16 j mc ms [a0] (T, e) (pQ φ)) (cw : CwV own idx 1 z) (hz : z.1.cls = RX6) (hjk : j < k) (hmL : z.2.2.1 ≤ 40) (hst : (st.map fun v => v.category).sum ≤ 8) (hf : cells + mc ≤ mc0 ∧ slots + ms ≤ ms0) (hdg : decode cc pc = .ok (.invokevirtual idx, 3)) (kk : ∀ (r : Option Nat) (u : CS), φ r u → JJ K D (cells + mc) (slots + ms) (WC ad Y u) lv (pc + 3) (va_rf r :: st)) : JJ K D cells slots (WC ad Y (T, e)) lv pc (a0 :: .ref (ad 16) :: st) := by
  refine j_callV (mc := mc) (ms := ms) (As := [a0]) (q0 := 0) (ci := 6) X hR (hM D Y ad) cw hjk hmL rfl (cq := (RX6, TX6, 12)) rfl hz.symm rfl hst hf hdg (fun v u hp => ?_)
  obtain ⟨r, rfl, h⟩ := hp
  exact kk r u h
theorem jst_callN1 (X : CX K cc nL own D Y) {ws : va_W} {z : MI} {j k mc0 ms0 idx : Nat} {host : String} {a0 : Value} {v : Value} (hR : kR K = Rm k mc0 ms0) (hM : MSt z j [a0] (fun w => w = some v)) (cw : CwSN own idx 1 z host) (hjk : j < k) (hmL : z.2.2.1 ≤ 40) (hst : (st.map fun v => v.category).sum ≤ 8) (hf : cells ≤ mc0 ∧ slots ≤ ms0) (hdg : decode cc pc = .ok (.invokestatic idx, 3)) (kk : JJ K D cells slots ws lv (pc + 3) (v :: st)) : JJ K D cells slots ws lv pc (a0 :: st) := by
  intro H locs ls hP hD hS hl
  obtain ⟨c1, c2, c3, c4, c5⟩ := cw
  have hts := X.1.2.2.2.2
  refine j_back X hD hS hl (va_runSN (mc := 0) (ms := 0) (As := [a0]) X.1 (hM D Y ws (kl K) H.size) ⟨va_cnB 1 hts (wg_good c4) rfl rfl rfl (X.2.1.2.1 _ c1) (hts _ c3) c5 (by rw [hR]; exact room_ok hjk hmL), hts _ c2, trivial⟩ ⟨fb_PG, pg_at X hP hD⟩ rfl rfl (hl.1.trans X.1.2.2.1) rfl (lv_room hst) hdg (by rw [hR]; exact hf)) (fun v' u hp => ?_)
  obtain ⟨rfl, rfl⟩ := hp
  exact kk
theorem jc_call16I2 (X : CX K cc nL own D Y) {z : MI} {j k mc0 ms0 mc ms idx : Nat} {a0 a1 : Value} {φ : Int32 → CS → Prop} (hR : kR K = Rm k mc0 ms0) (hM : CF z 16 j mc ms [a0, a1] (T, e) (pI φ)) (cw : CwV own idx 2 z) (hz : z.1.cls = RX6) (hjk : j < k) (hmL : z.2.2.1 ≤ 40) (hst : (st.map fun v => v.category).sum ≤ 8) (hf : cells + mc ≤ mc0 ∧ slots + ms ≤ ms0) (hdg : decode cc pc = .ok (.invokevirtual idx, 3)) (kk : ∀ (r : Int32) (u : CS), φ r u → JJ K D (cells + mc) (slots + ms) (WC ad Y u) lv (pc + 3) (.int r :: st)) : JJ K D cells slots (WC ad Y (T, e)) lv pc (a1 :: a0 :: .ref (ad 16) :: st) := by
  refine j_callV (mc := mc) (ms := ms) (As := [a0, a1]) (q0 := 0) (ci := 6) X hR (hM D Y ad) cw hjk hmL rfl (cq := (RX6, TX6, 12)) rfl hz.symm rfl hst hf hdg (fun v u hp => ?_)
  obtain ⟨r, rfl, h⟩ := hp
  exact kk r u h
theorem jc_call13I2 (X : CX K cc nL own D Y) {z : MI} {j k mc0 ms0 mc ms idx : Nat} {a0 a1 : Value} {φ : Int32 → CS → Prop} (hR : kR K = Rm k mc0 ms0) (hM : CF z 13 j mc ms [a0, a1] (T, e) (pI φ)) (cw : CwV own idx 2 z) (hz : z.1.cls = RX4) (hjk : j < k) (hmL : z.2.2.1 ≤ 40) (hst : (st.map fun v => v.category).sum ≤ 8) (hf : cells + mc ≤ mc0 ∧ slots + ms ≤ ms0) (hdg : decode cc pc = .ok (.invokevirtual idx, 3)) (kk : ∀ (r : Int32) (u : CS), φ r u → JJ K D (cells + mc) (slots + ms) (WC ad Y u) lv (pc + 3) (.int r :: st)) : JJ K D cells slots (WC ad Y (T, e)) lv pc (a1 :: a0 :: .ref (ad 13) :: st) := by
  refine j_callV (mc := mc) (ms := ms) (As := [a0, a1]) (q0 := 4) (ci := 4) X hR (hM D Y ad) cw hjk hmL rfl (cq := (RX4, TX4, 3)) rfl hz.symm rfl hst hf hdg (fun v u hp => ?_)
  obtain ⟨r, rfl, h⟩ := hp
  exact kk r u h
theorem jc_call14I2 (X : CX K cc nL own D Y) {z : MI} {j k mc0 ms0 mc ms idx : Nat} {a0 a1 : Value} {φ : Int32 → CS → Prop} (hR : kR K = Rm k mc0 ms0) (hM : CF z 14 j mc ms [a0, a1] (T, e) (pI φ)) (cw : CwV own idx 2 z) (hz : z.1.cls = RX1) (hjk : j < k) (hmL : z.2.2.1 ≤ 40) (hst : (st.map fun v => v.category).sum ≤ 8) (hf : cells + mc ≤ mc0 ∧ slots + ms ≤ ms0) (hdg : decode cc pc = .ok (.invokevirtual idx, 3)) (kk : ∀ (r : Int32) (u : CS), φ r u → JJ K D (cells + mc) (slots + ms) (WC ad Y u) lv (pc + 3) (.int r :: st)) : JJ K D cells slots (WC ad Y (T, e)) lv pc (a1 :: a0 :: .ref (ad 14) :: st) := by
  refine j_callV (mc := mc) (ms := ms) (As := [a0, a1]) (q0 := 5) (ci := 1) X hR (hM D Y ad) cw hjk hmL rfl (cq := (RX1, TX1, 6)) rfl hz.symm rfl hst hf hdg (fun v u hp => ?_)
  obtain ⟨r, rfl, h⟩ := hp
  exact kk r u h
theorem jc_call15I2 (X : CX K cc nL own D Y) {z : MI} {j k mc0 ms0 mc ms idx : Nat} {a0 a1 : Value} {φ : Int32 → CS → Prop} (hR : kR K = Rm k mc0 ms0) (hM : CF z 15 j mc ms [a0, a1] (T, e) (pI φ)) (cw : CwV own idx 2 z) (hz : z.1.cls = RX3) (hjk : j < k) (hmL : z.2.2.1 ≤ 40) (hst : (st.map fun v => v.category).sum ≤ 8) (hf : cells + mc ≤ mc0 ∧ slots + ms ≤ ms0) (hdg : decode cc pc = .ok (.invokevirtual idx, 3)) (kk : ∀ (r : Int32) (u : CS), φ r u → JJ K D (cells + mc) (slots + ms) (WC ad Y u) lv (pc + 3) (.int r :: st)) : JJ K D cells slots (WC ad Y (T, e)) lv pc (a1 :: a0 :: .ref (ad 15) :: st) := by
  refine j_callV (mc := mc) (ms := ms) (As := [a0, a1]) (q0 := 6) (ci := 3) X hR (hM D Y ad) cw hjk hmL rfl (cq := (RX3, TX3, 1)) rfl hz.symm rfl hst hf hdg (fun v u hp => ?_)
  obtain ⟨r, rfl, h⟩ := hp
  exact kk r u h
theorem jc_call16V2 (X : CX K cc nL own D Y) {z : MI} {j k mc0 ms0 mc ms idx : Nat} {a0 a1 : Value} {φ : CS → Prop} (hR : kR K = Rm k mc0 ms0) (hM : CF z 16 j mc ms [a0, a1] (T, e) (pV φ)) (cw : CwV own idx 2 z) (hz : z.1.cls = RX6) (hjk : j < k) (hmL : z.2.2.1 ≤ 40) (hst : (st.map fun v => v.category).sum ≤ 8) (hf : cells + mc ≤ mc0 ∧ slots + ms ≤ ms0) (hdg : decode cc pc = .ok (.invokevirtual idx, 3)) (kk : ∀ (u : CS), φ u → JJ K D (cells + mc) (slots + ms) (WC ad Y u) lv (pc + 3) st) : JJ K D cells slots (WC ad Y (T, e)) lv pc (a1 :: a0 :: .ref (ad 16) :: st) := by
  refine j_callV (mc := mc) (ms := ms) (As := [a0, a1]) (q0 := 0) (ci := 6) X hR (hM D Y ad) cw hjk hmL rfl (cq := (RX6, TX6, 12)) rfl hz.symm rfl hst hf hdg (fun v u hp => ?_)
  obtain ⟨rfl, h⟩ := hp
  exact kk u h
theorem jc_call13V2 (X : CX K cc nL own D Y) {z : MI} {j k mc0 ms0 mc ms idx : Nat} {a0 a1 : Value} {φ : CS → Prop} (hR : kR K = Rm k mc0 ms0) (hM : CF z 13 j mc ms [a0, a1] (T, e) (pV φ)) (cw : CwV own idx 2 z) (hz : z.1.cls = RX4) (hjk : j < k) (hmL : z.2.2.1 ≤ 40) (hst : (st.map fun v => v.category).sum ≤ 8) (hf : cells + mc ≤ mc0 ∧ slots + ms ≤ ms0) (hdg : decode cc pc = .ok (.invokevirtual idx, 3)) (kk : ∀ (u : CS), φ u → JJ K D (cells + mc) (slots + ms) (WC ad Y u) lv (pc + 3) st) : JJ K D cells slots (WC ad Y (T, e)) lv pc (a1 :: a0 :: .ref (ad 13) :: st) := by
  refine j_callV (mc := mc) (ms := ms) (As := [a0, a1]) (q0 := 4) (ci := 4) X hR (hM D Y ad) cw hjk hmL rfl (cq := (RX4, TX4, 3)) rfl hz.symm rfl hst hf hdg (fun v u hp => ?_)
  obtain ⟨rfl, h⟩ := hp
  exact kk u h
theorem jc_call14V2 (X : CX K cc nL own D Y) {z : MI} {j k mc0 ms0 mc ms idx : Nat} {a0 a1 : Value} {φ : CS → Prop} (hR : kR K = Rm k mc0 ms0) (hM : CF z 14 j mc ms [a0, a1] (T, e) (pV φ)) (cw : CwV own idx 2 z) (hz : z.1.cls = RX1) (hjk : j < k) (hmL : z.2.2.1 ≤ 40) (hst : (st.map fun v => v.category).sum ≤ 8) (hf : cells + mc ≤ mc0 ∧ slots + ms ≤ ms0) (hdg : decode cc pc = .ok (.invokevirtual idx, 3)) (kk : ∀ (u : CS), φ u → JJ K D (cells + mc) (slots + ms) (WC ad Y u) lv (pc + 3) st) : JJ K D cells slots (WC ad Y (T, e)) lv pc (a1 :: a0 :: .ref (ad 14) :: st) := by
  refine j_callV (mc := mc) (ms := ms) (As := [a0, a1]) (q0 := 5) (ci := 1) X hR (hM D Y ad) cw hjk hmL rfl (cq := (RX1, TX1, 6)) rfl hz.symm rfl hst hf hdg (fun v u hp => ?_)
  obtain ⟨rfl, h⟩ := hp
  exact kk u h
theorem jc_call15V2 (X : CX K cc nL own D Y) {z : MI} {j k mc0 ms0 mc ms idx : Nat} {a0 a1 : Value} {φ : CS → Prop} (hR : kR K = Rm k mc0 ms0) (hM : CF z 15 j mc ms [a0, a1] (T, e) (pV φ)) (cw : CwV own idx 2 z) (hz : z.1.cls = RX3) (hjk : j < k) (hmL : z.2.2.1 ≤ 40) (hst : (st.map fun v => v.category).sum ≤ 8) (hf : cells + mc ≤ mc0 ∧ slots + ms ≤ ms0) (hdg : decode cc pc = .ok (.invokevirtual idx, 3)) (kk : ∀ (u : CS), φ u → JJ K D (cells + mc) (slots + ms) (WC ad Y u) lv (pc + 3) st) : JJ K D cells slots (WC ad Y (T, e)) lv pc (a1 :: a0 :: .ref (ad 15) :: st) := by
  refine j_callV (mc := mc) (ms := ms) (As := [a0, a1]) (q0 := 6) (ci := 3) X hR (hM D Y ad) cw hjk hmL rfl (cq := (RX3, TX3, 1)) rfl hz.symm rfl hst hf hdg (fun v u hp => ?_)
  obtain ⟨rfl, h⟩ := hp
  exact kk u h
theorem jc_call16D2 (X : CX K cc nL own D Y) {z : MI} {j k mc0 ms0 mc ms idx : Nat} {a0 a1 : Value} {φ : UInt64 → CS → Prop} (hR : kR K = Rm k mc0 ms0) (hM : CF z 16 j mc ms [a0, a1] (T, e) (pD φ)) (cw : CwV own idx 2 z) (hz : z.1.cls = RX6) (hjk : j < k) (hmL : z.2.2.1 ≤ 40) (hst : (st.map fun v => v.category).sum ≤ 8) (hf : cells + mc ≤ mc0 ∧ slots + ms ≤ ms0) (hdg : decode cc pc = .ok (.invokevirtual idx, 3)) (kk : ∀ (r : UInt64) (u : CS), φ r u → JJ K D (cells + mc) (slots + ms) (WC ad Y u) lv (pc + 3) (.double r :: st)) : JJ K D cells slots (WC ad Y (T, e)) lv pc (a1 :: a0 :: .ref (ad 16) :: st) := by
  refine j_callV (mc := mc) (ms := ms) (As := [a0, a1]) (q0 := 0) (ci := 6) X hR (hM D Y ad) cw hjk hmL rfl (cq := (RX6, TX6, 12)) rfl hz.symm rfl hst hf hdg (fun v u hp => ?_)
  obtain ⟨r, rfl, h⟩ := hp
  exact kk r u h
theorem jc_call16L2 (X : CX K cc nL own D Y) {z : MI} {j k mc0 ms0 mc ms idx : Nat} {a0 a1 : Value} {φ : Int64 → CS → Prop} (hR : kR K = Rm k mc0 ms0) (hM : CF z 16 j mc ms [a0, a1] (T, e) (pL φ)) (cw : CwV own idx 2 z) (hz : z.1.cls = RX6) (hjk : j < k) (hmL : z.2.2.1 ≤ 40) (hst : (st.map fun v => v.category).sum ≤ 8) (hf : cells + mc ≤ mc0 ∧ slots + ms ≤ ms0) (hdg : decode cc pc = .ok (.invokevirtual idx, 3)) (kk : ∀ (r : Int64) (u : CS), φ r u → JJ K D (cells + mc) (slots + ms) (WC ad Y u) lv (pc + 3) (.long r :: st)) : JJ K D cells slots (WC ad Y (T, e)) lv pc (a1 :: a0 :: .ref (ad 16) :: st) := by
  refine j_callV (mc := mc) (ms := ms) (As := [a0, a1]) (q0 := 0) (ci := 6) X hR (hM D Y ad) cw hjk hmL rfl (cq := (RX6, TX6, 12)) rfl hz.symm rfl hst hf hdg (fun v u hp => ?_)
  obtain ⟨r, rfl, h⟩ := hp
  exact kk r u h
theorem jc_call16Q2 (X : CX K cc nL own D Y) {z : MI} {j k mc0 ms0 mc ms idx : Nat} {a0 a1 : Value} {φ : Option Nat → CS → Prop} (hR : kR K = Rm k mc0 ms0) (hM : CF z 16 j mc ms [a0, a1] (T, e) (pQ φ)) (cw : CwV own idx 2 z) (hz : z.1.cls = RX6) (hjk : j < k) (hmL : z.2.2.1 ≤ 40) (hst : (st.map fun v => v.category).sum ≤ 8) (hf : cells + mc ≤ mc0 ∧ slots + ms ≤ ms0) (hdg : decode cc pc = .ok (.invokevirtual idx, 3)) (kk : ∀ (r : Option Nat) (u : CS), φ r u → JJ K D (cells + mc) (slots + ms) (WC ad Y u) lv (pc + 3) (va_rf r :: st)) : JJ K D cells slots (WC ad Y (T, e)) lv pc (a1 :: a0 :: .ref (ad 16) :: st) := by
  refine j_callV (mc := mc) (ms := ms) (As := [a0, a1]) (q0 := 0) (ci := 6) X hR (hM D Y ad) cw hjk hmL rfl (cq := (RX6, TX6, 12)) rfl hz.symm rfl hst hf hdg (fun v u hp => ?_)
  obtain ⟨r, rfl, h⟩ := hp
  exact kk r u h
theorem jst_callN2 (X : CX K cc nL own D Y) {ws : va_W} {z : MI} {j k mc0 ms0 idx : Nat} {host : String} {a0 a1 : Value} {v : Value} (hR : kR K = Rm k mc0 ms0) (hM : MSt z j [a0, a1] (fun w => w = some v)) (cw : CwSN own idx 2 z host) (hjk : j < k) (hmL : z.2.2.1 ≤ 40) (hst : (st.map fun v => v.category).sum ≤ 8) (hf : cells ≤ mc0 ∧ slots ≤ ms0) (hdg : decode cc pc = .ok (.invokestatic idx, 3)) (kk : JJ K D cells slots ws lv (pc + 3) (v :: st)) : JJ K D cells slots ws lv pc (a1 :: a0 :: st) := by
  intro H locs ls hP hD hS hl
  obtain ⟨c1, c2, c3, c4, c5⟩ := cw
  have hts := X.1.2.2.2.2
  refine j_back X hD hS hl (va_runSN (mc := 0) (ms := 0) (As := [a0, a1]) X.1 (hM D Y ws (kl K) H.size) ⟨va_cnB 2 hts (wg_good c4) rfl rfl rfl (X.2.1.2.1 _ c1) (hts _ c3) c5 (by rw [hR]; exact room_ok hjk hmL), hts _ c2, trivial⟩ ⟨fb_PG, pg_at X hP hD⟩ rfl rfl (hl.1.trans X.1.2.2.1) rfl (lv_room hst) hdg (by rw [hR]; exact hf)) (fun v' u hp => ?_)
  obtain ⟨rfl, rfl⟩ := hp
  exact kk
theorem jc_call16I3 (X : CX K cc nL own D Y) {z : MI} {j k mc0 ms0 mc ms idx : Nat} {a0 a1 a2 : Value} {φ : Int32 → CS → Prop} (hR : kR K = Rm k mc0 ms0) (hM : CF z 16 j mc ms [a0, a1, a2] (T, e) (pI φ)) (cw : CwV own idx 3 z) (hz : z.1.cls = RX6) (hjk : j < k) (hmL : z.2.2.1 ≤ 40) (hst : (st.map fun v => v.category).sum ≤ 8) (hf : cells + mc ≤ mc0 ∧ slots + ms ≤ ms0) (hdg : decode cc pc = .ok (.invokevirtual idx, 3)) (kk : ∀ (r : Int32) (u : CS), φ r u → JJ K D (cells + mc) (slots + ms) (WC ad Y u) lv (pc + 3) (.int r :: st)) : JJ K D cells slots (WC ad Y (T, e)) lv pc (a2 :: a1 :: a0 :: .ref (ad 16) :: st) := by
  refine j_callV (mc := mc) (ms := ms) (As := [a0, a1, a2]) (q0 := 0) (ci := 6) X hR (hM D Y ad) cw hjk hmL rfl (cq := (RX6, TX6, 12)) rfl hz.symm rfl hst hf hdg (fun v u hp => ?_)
  obtain ⟨r, rfl, h⟩ := hp
  exact kk r u h
theorem jc_call13I3 (X : CX K cc nL own D Y) {z : MI} {j k mc0 ms0 mc ms idx : Nat} {a0 a1 a2 : Value} {φ : Int32 → CS → Prop} (hR : kR K = Rm k mc0 ms0) (hM : CF z 13 j mc ms [a0, a1, a2] (T, e) (pI φ)) (cw : CwV own idx 3 z) (hz : z.1.cls = RX4) (hjk : j < k) (hmL : z.2.2.1 ≤ 40) (hst : (st.map fun v => v.category).sum ≤ 8) (hf : cells + mc ≤ mc0 ∧ slots + ms ≤ ms0) (hdg : decode cc pc = .ok (.invokevirtual idx, 3)) (kk : ∀ (r : Int32) (u : CS), φ r u → JJ K D (cells + mc) (slots + ms) (WC ad Y u) lv (pc + 3) (.int r :: st)) : JJ K D cells slots (WC ad Y (T, e)) lv pc (a2 :: a1 :: a0 :: .ref (ad 13) :: st) := by
  refine j_callV (mc := mc) (ms := ms) (As := [a0, a1, a2]) (q0 := 4) (ci := 4) X hR (hM D Y ad) cw hjk hmL rfl (cq := (RX4, TX4, 3)) rfl hz.symm rfl hst hf hdg (fun v u hp => ?_)
  obtain ⟨r, rfl, h⟩ := hp
  exact kk r u h
theorem jc_call14I3 (X : CX K cc nL own D Y) {z : MI} {j k mc0 ms0 mc ms idx : Nat} {a0 a1 a2 : Value} {φ : Int32 → CS → Prop} (hR : kR K = Rm k mc0 ms0) (hM : CF z 14 j mc ms [a0, a1, a2] (T, e) (pI φ)) (cw : CwV own idx 3 z) (hz : z.1.cls = RX1) (hjk : j < k) (hmL : z.2.2.1 ≤ 40) (hst : (st.map fun v => v.category).sum ≤ 8) (hf : cells + mc ≤ mc0 ∧ slots + ms ≤ ms0) (hdg : decode cc pc = .ok (.invokevirtual idx, 3)) (kk : ∀ (r : Int32) (u : CS), φ r u → JJ K D (cells + mc) (slots + ms) (WC ad Y u) lv (pc + 3) (.int r :: st)) : JJ K D cells slots (WC ad Y (T, e)) lv pc (a2 :: a1 :: a0 :: .ref (ad 14) :: st) := by
  refine j_callV (mc := mc) (ms := ms) (As := [a0, a1, a2]) (q0 := 5) (ci := 1) X hR (hM D Y ad) cw hjk hmL rfl (cq := (RX1, TX1, 6)) rfl hz.symm rfl hst hf hdg (fun v u hp => ?_)
  obtain ⟨r, rfl, h⟩ := hp
  exact kk r u h
theorem jc_call15I3 (X : CX K cc nL own D Y) {z : MI} {j k mc0 ms0 mc ms idx : Nat} {a0 a1 a2 : Value} {φ : Int32 → CS → Prop} (hR : kR K = Rm k mc0 ms0) (hM : CF z 15 j mc ms [a0, a1, a2] (T, e) (pI φ)) (cw : CwV own idx 3 z) (hz : z.1.cls = RX3) (hjk : j < k) (hmL : z.2.2.1 ≤ 40) (hst : (st.map fun v => v.category).sum ≤ 8) (hf : cells + mc ≤ mc0 ∧ slots + ms ≤ ms0) (hdg : decode cc pc = .ok (.invokevirtual idx, 3)) (kk : ∀ (r : Int32) (u : CS), φ r u → JJ K D (cells + mc) (slots + ms) (WC ad Y u) lv (pc + 3) (.int r :: st)) : JJ K D cells slots (WC ad Y (T, e)) lv pc (a2 :: a1 :: a0 :: .ref (ad 15) :: st) := by
  refine j_callV (mc := mc) (ms := ms) (As := [a0, a1, a2]) (q0 := 6) (ci := 3) X hR (hM D Y ad) cw hjk hmL rfl (cq := (RX3, TX3, 1)) rfl hz.symm rfl hst hf hdg (fun v u hp => ?_)
  obtain ⟨r, rfl, h⟩ := hp
  exact kk r u h
theorem jc_call16V3 (X : CX K cc nL own D Y) {z : MI} {j k mc0 ms0 mc ms idx : Nat} {a0 a1 a2 : Value} {φ : CS → Prop} (hR : kR K = Rm k mc0 ms0) (hM : CF z 16 j mc ms [a0, a1, a2] (T, e) (pV φ)) (cw : CwV own idx 3 z) (hz : z.1.cls = RX6) (hjk : j < k) (hmL : z.2.2.1 ≤ 40) (hst : (st.map fun v => v.category).sum ≤ 8) (hf : cells + mc ≤ mc0 ∧ slots + ms ≤ ms0) (hdg : decode cc pc = .ok (.invokevirtual idx, 3)) (kk : ∀ (u : CS), φ u → JJ K D (cells + mc) (slots + ms) (WC ad Y u) lv (pc + 3) st) : JJ K D cells slots (WC ad Y (T, e)) lv pc (a2 :: a1 :: a0 :: .ref (ad 16) :: st) := by
  refine j_callV (mc := mc) (ms := ms) (As := [a0, a1, a2]) (q0 := 0) (ci := 6) X hR (hM D Y ad) cw hjk hmL rfl (cq := (RX6, TX6, 12)) rfl hz.symm rfl hst hf hdg (fun v u hp => ?_)
  obtain ⟨rfl, h⟩ := hp
  exact kk u h
theorem jc_call13V3 (X : CX K cc nL own D Y) {z : MI} {j k mc0 ms0 mc ms idx : Nat} {a0 a1 a2 : Value} {φ : CS → Prop} (hR : kR K = Rm k mc0 ms0) (hM : CF z 13 j mc ms [a0, a1, a2] (T, e) (pV φ)) (cw : CwV own idx 3 z) (hz : z.1.cls = RX4) (hjk : j < k) (hmL : z.2.2.1 ≤ 40) (hst : (st.map fun v => v.category).sum ≤ 8) (hf : cells + mc ≤ mc0 ∧ slots + ms ≤ ms0) (hdg : decode cc pc = .ok (.invokevirtual idx, 3)) (kk : ∀ (u : CS), φ u → JJ K D (cells + mc) (slots + ms) (WC ad Y u) lv (pc + 3) st) : JJ K D cells slots (WC ad Y (T, e)) lv pc (a2 :: a1 :: a0 :: .ref (ad 13) :: st) := by
  refine j_callV (mc := mc) (ms := ms) (As := [a0, a1, a2]) (q0 := 4) (ci := 4) X hR (hM D Y ad) cw hjk hmL rfl (cq := (RX4, TX4, 3)) rfl hz.symm rfl hst hf hdg (fun v u hp => ?_)
  obtain ⟨rfl, h⟩ := hp
  exact kk u h
theorem jc_call14V3 (X : CX K cc nL own D Y) {z : MI} {j k mc0 ms0 mc ms idx : Nat} {a0 a1 a2 : Value} {φ : CS → Prop} (hR : kR K = Rm k mc0 ms0) (hM : CF z 14 j mc ms [a0, a1, a2] (T, e) (pV φ)) (cw : CwV own idx 3 z) (hz : z.1.cls = RX1) (hjk : j < k) (hmL : z.2.2.1 ≤ 40) (hst : (st.map fun v => v.category).sum ≤ 8) (hf : cells + mc ≤ mc0 ∧ slots + ms ≤ ms0) (hdg : decode cc pc = .ok (.invokevirtual idx, 3)) (kk : ∀ (u : CS), φ u → JJ K D (cells + mc) (slots + ms) (WC ad Y u) lv (pc + 3) st) : JJ K D cells slots (WC ad Y (T, e)) lv pc (a2 :: a1 :: a0 :: .ref (ad 14) :: st) := by
  refine j_callV (mc := mc) (ms := ms) (As := [a0, a1, a2]) (q0 := 5) (ci := 1) X hR (hM D Y ad) cw hjk hmL rfl (cq := (RX1, TX1, 6)) rfl hz.symm rfl hst hf hdg (fun v u hp => ?_)
  obtain ⟨rfl, h⟩ := hp
  exact kk u h
theorem jc_call15V3 (X : CX K cc nL own D Y) {z : MI} {j k mc0 ms0 mc ms idx : Nat} {a0 a1 a2 : Value} {φ : CS → Prop} (hR : kR K = Rm k mc0 ms0) (hM : CF z 15 j mc ms [a0, a1, a2] (T, e) (pV φ)) (cw : CwV own idx 3 z) (hz : z.1.cls = RX3) (hjk : j < k) (hmL : z.2.2.1 ≤ 40) (hst : (st.map fun v => v.category).sum ≤ 8) (hf : cells + mc ≤ mc0 ∧ slots + ms ≤ ms0) (hdg : decode cc pc = .ok (.invokevirtual idx, 3)) (kk : ∀ (u : CS), φ u → JJ K D (cells + mc) (slots + ms) (WC ad Y u) lv (pc + 3) st) : JJ K D cells slots (WC ad Y (T, e)) lv pc (a2 :: a1 :: a0 :: .ref (ad 15) :: st) := by
  refine j_callV (mc := mc) (ms := ms) (As := [a0, a1, a2]) (q0 := 6) (ci := 3) X hR (hM D Y ad) cw hjk hmL rfl (cq := (RX3, TX3, 1)) rfl hz.symm rfl hst hf hdg (fun v u hp => ?_)
  obtain ⟨rfl, h⟩ := hp
  exact kk u h
theorem jc_call16D3 (X : CX K cc nL own D Y) {z : MI} {j k mc0 ms0 mc ms idx : Nat} {a0 a1 a2 : Value} {φ : UInt64 → CS → Prop} (hR : kR K = Rm k mc0 ms0) (hM : CF z 16 j mc ms [a0, a1, a2] (T, e) (pD φ)) (cw : CwV own idx 3 z) (hz : z.1.cls = RX6) (hjk : j < k) (hmL : z.2.2.1 ≤ 40) (hst : (st.map fun v => v.category).sum ≤ 8) (hf : cells + mc ≤ mc0 ∧ slots + ms ≤ ms0) (hdg : decode cc pc = .ok (.invokevirtual idx, 3)) (kk : ∀ (r : UInt64) (u : CS), φ r u → JJ K D (cells + mc) (slots + ms) (WC ad Y u) lv (pc + 3) (.double r :: st)) : JJ K D cells slots (WC ad Y (T, e)) lv pc (a2 :: a1 :: a0 :: .ref (ad 16) :: st) := by
  refine j_callV (mc := mc) (ms := ms) (As := [a0, a1, a2]) (q0 := 0) (ci := 6) X hR (hM D Y ad) cw hjk hmL rfl (cq := (RX6, TX6, 12)) rfl hz.symm rfl hst hf hdg (fun v u hp => ?_)
  obtain ⟨r, rfl, h⟩ := hp
  exact kk r u h
theorem jc_call16L3 (X : CX K cc nL own D Y) {z : MI} {j k mc0 ms0 mc ms idx : Nat} {a0 a1 a2 : Value} {φ : Int64 → CS → Prop} (hR : kR K = Rm k mc0 ms0) (hM : CF z 16 j mc ms [a0, a1, a2] (T, e) (pL φ)) (cw : CwV own idx 3 z) (hz : z.1.cls = RX6) (hjk : j < k) (hmL : z.2.2.1 ≤ 40) (hst : (st.map fun v => v.category).sum ≤ 8) (hf : cells + mc ≤ mc0 ∧ slots + ms ≤ ms0) (hdg : decode cc pc = .ok (.invokevirtual idx, 3)) (kk : ∀ (r : Int64) (u : CS), φ r u → JJ K D (cells + mc) (slots + ms) (WC ad Y u) lv (pc + 3) (.long r :: st)) : JJ K D cells slots (WC ad Y (T, e)) lv pc (a2 :: a1 :: a0 :: .ref (ad 16) :: st) := by
  refine j_callV (mc := mc) (ms := ms) (As := [a0, a1, a2]) (q0 := 0) (ci := 6) X hR (hM D Y ad) cw hjk hmL rfl (cq := (RX6, TX6, 12)) rfl hz.symm rfl hst hf hdg (fun v u hp => ?_)
  obtain ⟨r, rfl, h⟩ := hp
  exact kk r u h
theorem jc_call16Q3 (X : CX K cc nL own D Y) {z : MI} {j k mc0 ms0 mc ms idx : Nat} {a0 a1 a2 : Value} {φ : Option Nat → CS → Prop} (hR : kR K = Rm k mc0 ms0) (hM : CF z 16 j mc ms [a0, a1, a2] (T, e) (pQ φ)) (cw : CwV own idx 3 z) (hz : z.1.cls = RX6) (hjk : j < k) (hmL : z.2.2.1 ≤ 40) (hst : (st.map fun v => v.category).sum ≤ 8) (hf : cells + mc ≤ mc0 ∧ slots + ms ≤ ms0) (hdg : decode cc pc = .ok (.invokevirtual idx, 3)) (kk : ∀ (r : Option Nat) (u : CS), φ r u → JJ K D (cells + mc) (slots + ms) (WC ad Y u) lv (pc + 3) (va_rf r :: st)) : JJ K D cells slots (WC ad Y (T, e)) lv pc (a2 :: a1 :: a0 :: .ref (ad 16) :: st) := by
  refine j_callV (mc := mc) (ms := ms) (As := [a0, a1, a2]) (q0 := 0) (ci := 6) X hR (hM D Y ad) cw hjk hmL rfl (cq := (RX6, TX6, 12)) rfl hz.symm rfl hst hf hdg (fun v u hp => ?_)
  obtain ⟨r, rfl, h⟩ := hp
  exact kk r u h
theorem jst_callN3 (X : CX K cc nL own D Y) {ws : va_W} {z : MI} {j k mc0 ms0 idx : Nat} {host : String} {a0 a1 a2 : Value} {v : Value} (hR : kR K = Rm k mc0 ms0) (hM : MSt z j [a0, a1, a2] (fun w => w = some v)) (cw : CwSN own idx 3 z host) (hjk : j < k) (hmL : z.2.2.1 ≤ 40) (hst : (st.map fun v => v.category).sum ≤ 8) (hf : cells ≤ mc0 ∧ slots ≤ ms0) (hdg : decode cc pc = .ok (.invokestatic idx, 3)) (kk : JJ K D cells slots ws lv (pc + 3) (v :: st)) : JJ K D cells slots ws lv pc (a2 :: a1 :: a0 :: st) := by
  intro H locs ls hP hD hS hl
  obtain ⟨c1, c2, c3, c4, c5⟩ := cw
  have hts := X.1.2.2.2.2
  refine j_back X hD hS hl (va_runSN (mc := 0) (ms := 0) (As := [a0, a1, a2]) X.1 (hM D Y ws (kl K) H.size) ⟨va_cnB 3 hts (wg_good c4) rfl rfl rfl (X.2.1.2.1 _ c1) (hts _ c3) c5 (by rw [hR]; exact room_ok hjk hmL), hts _ c2, trivial⟩ ⟨fb_PG, pg_at X hP hD⟩ rfl rfl (hl.1.trans X.1.2.2.1) rfl (lv_room hst) hdg (by rw [hR]; exact hf)) (fun v' u hp => ?_)
  obtain ⟨rfl, rfl⟩ := hp
  exact kk
theorem jc_call16I4 (X : CX K cc nL own D Y) {z : MI} {j k mc0 ms0 mc ms idx : Nat} {a0 a1 a2 a3 : Value} {φ : Int32 → CS → Prop} (hR : kR K = Rm k mc0 ms0) (hM : CF z 16 j mc ms [a0, a1, a2, a3] (T, e) (pI φ)) (cw : CwV own idx 4 z) (hz : z.1.cls = RX6) (hjk : j < k) (hmL : z.2.2.1 ≤ 40) (hst : (st.map fun v => v.category).sum ≤ 8) (hf : cells + mc ≤ mc0 ∧ slots + ms ≤ ms0) (hdg : decode cc pc = .ok (.invokevirtual idx, 3)) (kk : ∀ (r : Int32) (u : CS), φ r u → JJ K D (cells + mc) (slots + ms) (WC ad Y u) lv (pc + 3) (.int r :: st)) : JJ K D cells slots (WC ad Y (T, e)) lv pc (a3 :: a2 :: a1 :: a0 :: .ref (ad 16) :: st) := by
  refine j_callV (mc := mc) (ms := ms) (As := [a0, a1, a2, a3]) (q0 := 0) (ci := 6) X hR (hM D Y ad) cw hjk hmL rfl (cq := (RX6, TX6, 12)) rfl hz.symm rfl hst hf hdg (fun v u hp => ?_)
  obtain ⟨r, rfl, h⟩ := hp
  exact kk r u h
theorem jc_call16V4 (X : CX K cc nL own D Y) {z : MI} {j k mc0 ms0 mc ms idx : Nat} {a0 a1 a2 a3 : Value} {φ : CS → Prop} (hR : kR K = Rm k mc0 ms0) (hM : CF z 16 j mc ms [a0, a1, a2, a3] (T, e) (pV φ)) (cw : CwV own idx 4 z) (hz : z.1.cls = RX6) (hjk : j < k) (hmL : z.2.2.1 ≤ 40) (hst : (st.map fun v => v.category).sum ≤ 8) (hf : cells + mc ≤ mc0 ∧ slots + ms ≤ ms0) (hdg : decode cc pc = .ok (.invokevirtual idx, 3)) (kk : ∀ (u : CS), φ u → JJ K D (cells + mc) (slots + ms) (WC ad Y u) lv (pc + 3) st) : JJ K D cells slots (WC ad Y (T, e)) lv pc (a3 :: a2 :: a1 :: a0 :: .ref (ad 16) :: st) := by
  refine j_callV (mc := mc) (ms := ms) (As := [a0, a1, a2, a3]) (q0 := 0) (ci := 6) X hR (hM D Y ad) cw hjk hmL rfl (cq := (RX6, TX6, 12)) rfl hz.symm rfl hst hf hdg (fun v u hp => ?_)
  obtain ⟨rfl, h⟩ := hp
  exact kk u h
theorem jc_call16D4 (X : CX K cc nL own D Y) {z : MI} {j k mc0 ms0 mc ms idx : Nat} {a0 a1 a2 a3 : Value} {φ : UInt64 → CS → Prop} (hR : kR K = Rm k mc0 ms0) (hM : CF z 16 j mc ms [a0, a1, a2, a3] (T, e) (pD φ)) (cw : CwV own idx 4 z) (hz : z.1.cls = RX6) (hjk : j < k) (hmL : z.2.2.1 ≤ 40) (hst : (st.map fun v => v.category).sum ≤ 8) (hf : cells + mc ≤ mc0 ∧ slots + ms ≤ ms0) (hdg : decode cc pc = .ok (.invokevirtual idx, 3)) (kk : ∀ (r : UInt64) (u : CS), φ r u → JJ K D (cells + mc) (slots + ms) (WC ad Y u) lv (pc + 3) (.double r :: st)) : JJ K D cells slots (WC ad Y (T, e)) lv pc (a3 :: a2 :: a1 :: a0 :: .ref (ad 16) :: st) := by
  refine j_callV (mc := mc) (ms := ms) (As := [a0, a1, a2, a3]) (q0 := 0) (ci := 6) X hR (hM D Y ad) cw hjk hmL rfl (cq := (RX6, TX6, 12)) rfl hz.symm rfl hst hf hdg (fun v u hp => ?_)
  obtain ⟨r, rfl, h⟩ := hp
  exact kk r u h
theorem jc_call16L4 (X : CX K cc nL own D Y) {z : MI} {j k mc0 ms0 mc ms idx : Nat} {a0 a1 a2 a3 : Value} {φ : Int64 → CS → Prop} (hR : kR K = Rm k mc0 ms0) (hM : CF z 16 j mc ms [a0, a1, a2, a3] (T, e) (pL φ)) (cw : CwV own idx 4 z) (hz : z.1.cls = RX6) (hjk : j < k) (hmL : z.2.2.1 ≤ 40) (hst : (st.map fun v => v.category).sum ≤ 8) (hf : cells + mc ≤ mc0 ∧ slots + ms ≤ ms0) (hdg : decode cc pc = .ok (.invokevirtual idx, 3)) (kk : ∀ (r : Int64) (u : CS), φ r u → JJ K D (cells + mc) (slots + ms) (WC ad Y u) lv (pc + 3) (.long r :: st)) : JJ K D cells slots (WC ad Y (T, e)) lv pc (a3 :: a2 :: a1 :: a0 :: .ref (ad 16) :: st) := by
  refine j_callV (mc := mc) (ms := ms) (As := [a0, a1, a2, a3]) (q0 := 0) (ci := 6) X hR (hM D Y ad) cw hjk hmL rfl (cq := (RX6, TX6, 12)) rfl hz.symm rfl hst hf hdg (fun v u hp => ?_)
  obtain ⟨r, rfl, h⟩ := hp
  exact kk r u h
theorem jc_call16Q4 (X : CX K cc nL own D Y) {z : MI} {j k mc0 ms0 mc ms idx : Nat} {a0 a1 a2 a3 : Value} {φ : Option Nat → CS → Prop} (hR : kR K = Rm k mc0 ms0) (hM : CF z 16 j mc ms [a0, a1, a2, a3] (T, e) (pQ φ)) (cw : CwV own idx 4 z) (hz : z.1.cls = RX6) (hjk : j < k) (hmL : z.2.2.1 ≤ 40) (hst : (st.map fun v => v.category).sum ≤ 8) (hf : cells + mc ≤ mc0 ∧ slots + ms ≤ ms0) (hdg : decode cc pc = .ok (.invokevirtual idx, 3)) (kk : ∀ (r : Option Nat) (u : CS), φ r u → JJ K D (cells + mc) (slots + ms) (WC ad Y u) lv (pc + 3) (va_rf r :: st)) : JJ K D cells slots (WC ad Y (T, e)) lv pc (a3 :: a2 :: a1 :: a0 :: .ref (ad 16) :: st) := by
  refine j_callV (mc := mc) (ms := ms) (As := [a0, a1, a2, a3]) (q0 := 0) (ci := 6) X hR (hM D Y ad) cw hjk hmL rfl (cq := (RX6, TX6, 12)) rfl hz.symm rfl hst hf hdg (fun v u hp => ?_)
  obtain ⟨r, rfl, h⟩ := hp
  exact kk r u h
theorem jst_callN4 (X : CX K cc nL own D Y) {ws : va_W} {z : MI} {j k mc0 ms0 idx : Nat} {host : String} {a0 a1 a2 a3 : Value} {v : Value} (hR : kR K = Rm k mc0 ms0) (hM : MSt z j [a0, a1, a2, a3] (fun w => w = some v)) (cw : CwSN own idx 4 z host) (hjk : j < k) (hmL : z.2.2.1 ≤ 40) (hst : (st.map fun v => v.category).sum ≤ 8) (hf : cells ≤ mc0 ∧ slots ≤ ms0) (hdg : decode cc pc = .ok (.invokestatic idx, 3)) (kk : JJ K D cells slots ws lv (pc + 3) (v :: st)) : JJ K D cells slots ws lv pc (a3 :: a2 :: a1 :: a0 :: st) := by
  intro H locs ls hP hD hS hl
  obtain ⟨c1, c2, c3, c4, c5⟩ := cw
  have hts := X.1.2.2.2.2
  refine j_back X hD hS hl (va_runSN (mc := 0) (ms := 0) (As := [a0, a1, a2, a3]) X.1 (hM D Y ws (kl K) H.size) ⟨va_cnB 4 hts (wg_good c4) rfl rfl rfl (X.2.1.2.1 _ c1) (hts _ c3) c5 (by rw [hR]; exact room_ok hjk hmL), hts _ c2, trivial⟩ ⟨fb_PG, pg_at X hP hD⟩ rfl rfl (hl.1.trans X.1.2.2.1) rfl (lv_room hst) hdg (by rw [hR]; exact hf)) (fun v' u hp => ?_)
  obtain ⟨rfl, rfl⟩ := hp
  exact kk
end
