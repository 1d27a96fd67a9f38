/-! What a CharDesk is: its cells, its tables, and the functions that its methods compute (written as the code has them). -/
def bI (b : Bool) : Int32 := if b then 1 else 0
theorem bI_t : bI true = 1 := rfl
theorem bI_f : bI false = 0 := rfl
theorem bI_0 {b : Bool} (h : bI b = 0) : ¬ b = true := by
  cases b with
  | true => exact absurd h (by decide)
  | false => decide
theorem bI_n0 {b : Bool} (h : ¬ bI b = 0) : b = true := by
  cases b with
  | true => rfl
  | false => exact absurd rfl h
theorem bI_nar (b : Bool) : narrow .boolean (.int (bI b)) = .int (bI b) := by cases b <;> rfl
theorem bI_fit (b : Bool) : fits .boolean (.int (bI b)) = true := by cases b <;> rfl
theorem nI_cl3 {fo : Nat} (h : fo ≤ 1000) : (nI fo).toNatClampNeg = fo := nI_clamp (by omega)
theorem tb_T {ty : FieldType} {t N : Nat} {f : Nat → Value} {A : Nat → Prop} {s U : State} {H : Heap} {locs : List Loc} (h : va_T ty t N f A s s.heap) (hS : va_S A s.heap H locs) (hU : U.heap = H) (hW : s.WarmedH U.vm) : va_T ty t N f (fun _ => False) U U.heap := by
  rw [hU]
  exact (va_T.moved hW.alike (h.kept (fun a h1 h2 => hS.2.1 a h1 h2))).narrow (fun _ q => q.elim)
theorem va_cAeq {dC : Nat → ClassId} {dI : Nat → Nat → Nat} {cl : List vw_C} {a b : ClassId} {s : State} (hK : va_K (dC, dI) cl [(a, .int), (b, .int)] s) : a = b := by
  have h0 := (hK.2 0 _ rfl).2
  have h1 := (hK.2 1 _ rfl).2
  exact Option.some.inj (h0.symm.trans h1)
-- the tables
def fAL : Nat → Int32 := fun j => ([9, 10, 13, 13, 32, 55295, 57344, 65533, 65536, 1114111] : List Int32).getD j 0
def fBL : Nat → Int32 := fun j => ([32, 32, 9, 10, 13, 13] : List Int32).getD j 0
def fNB : Nat → Int32 := fun j => ([58, 58, 95, 95, 65, 90, 97, 122, 192, 214, 216, 246, 248, 767, 880, 893, 895, 8191, 8204, 8205, 8304, 8591, 11264, 12271, 12289, 55295, 63744, 64975, 65008, 65533, 65536, 983039] : List Int32).getD j 0
def fFN : Nat → Int32 := fun j => ([45, 46, 48, 57, 183, 183, 768, 879, 8255, 8256] : List Int32).getD j 0
def xtab (t0 t1 t2 t3 : Nat) (A : Nat → Prop) (U : State) (H : Heap) : Prop :=
  va_Z RX0 "ALLOWED" "[I" (.ref t0) A U H ∧ va_T .int t0 10 (fun j => .int (fAL j)) A U H ∧
  va_Z RX0 "BLANKS" "[I" (.ref t1) A U H ∧ va_T .int t1 6 (fun j => .int (fBL j)) A U H ∧
  va_Z RX0 "NAME_BEGINS" "[I" (.ref t2) A U H ∧ va_T .int t2 32 (fun j => .int (fNB j)) A U H ∧
  va_Z RX0 "FURTHER_NAME_PARTS" "[I" (.ref t3) A U H ∧ va_T .int t3 10 (fun j => .int (fFN j)) A U H
theorem xtab_moved {t0 t1 t2 t3 : Nat} {A : Nat → Prop} {u U : State} {H : Heap} (hvm : u.vm.Alike U.vm) (h : xtab t0 t1 t2 t3 A u H) : xtab t0 t1 t2 t3 A U H := by
  obtain ⟨a, b, c, d, e, f, g, i⟩ := h
  exact ⟨a.moved hvm, b.moved hvm, c.moved hvm, d.moved hvm, e.moved hvm, f.moved hvm, g.moved hvm, i.moved hvm⟩
theorem xtab_kept {t0 t1 t2 t3 : Nat} {A : Nat → Prop} {U : State} {H H1 : Heap} (h : xtab t0 t1 t2 t3 A U H) (q : ∀ a : Nat, a < H.size → ¬ A a → H1[a]? = H[a]?) : xtab t0 t1 t2 t3 A U H1 := by
  obtain ⟨a, b, c, d, e, f, g, i⟩ := h
  exact ⟨a.kept q, b.kept q, c.kept q, d.kept q, e.kept q, f.kept q, g.kept q, i.kept q⟩
theorem xtab_narrow {t0 t1 t2 t3 : Nat} {A B : Nat → Prop} {U : State} {H : Heap} (h : xtab t0 t1 t2 t3 A U H) (q : ∀ a, B a → A a) : xtab t0 t1 t2 t3 B U H := by
  obtain ⟨a, b, c, d, e, f, g, i⟩ := h
  exact ⟨a.narrow q, b.narrow q, c.narrow q, d.narrow q, e.narrow q, f.narrow q, g.narrow q, i.narrow q⟩
theorem xtab_call {t0 t1 t2 t3 : Nat} {A A1 : Nat → Prop} {s U : State} {H : Heap} {locs : List Loc} (h : xtab t0 t1 t2 t3 A s s.heap) (hS : va_S A s.heap H locs) (hU : U.heap = H) (hW : s.WarmedH U.vm) (q : ∀ a, A1 a → A a) : xtab t0 t1 t2 t3 A1 U U.heap := by
  rw [hU]
  exact xtab_narrow (xtab_moved hW.alike (xtab_kept h (fun a h1 h2 => hS.2.1 a h1 h2))) q
theorem xtab_blind {t0 t1 t2 t3 : Nat} {A : Nat → Prop} {av : List Value} : FrameBlind (va_Pc av (fun U => xtab t0 t1 t2 t3 A U U.heap)) :=
  fun a U g mk q => ⟨q.1, xtab_moved (u := U) (U := U.calling g mk a) (Vm.Alike.refl U.vm) q.2⟩
-- the object
abbrev XS : Type := (Nat → Int32) × Nat × (Nat → Int32) × (Nat → Int32) × Nat × Int32 × Int32
def xw (h0 h1 h2 h3 : Nat) (cA : ClassId) (u : XS) : va_W := [(h0, .inr (0, [.ref h1, .int (nI u.2.1), .ref h2, .ref h3, .int (nI u.2.2.2.2.1), .int u.2.2.2.2.2.1, .int u.2.2.2.2.2.2])), (h1, .inl (cA, 1000, .inl u.1)), (h2, .inl (cA, 1000, .inl u.2.2.1)), (h3, .inl (cA, 1000, .inl u.2.2.2.1))]
def xpre (dC : Nat → ClassId) (dI : Nat → Nat → Nat) (h0 h1 h2 h3 : Nat) (cA : ClassId) (t0 t1 t2 t3 : Nat) (u : XS) (U : State) : Prop :=
  va_P (dC, dI) vwCl (xw h0 h1 h2 h3 cA u) U.heap ∧ va_K (dC, dI) vwCl [(cA, .int)] U ∧ xtab t0 t1 t2 t3 (fun _ => False) U U.heap
theorem xpre_blind {dC : Nat → ClassId} {dI : Nat → Nat → Nat} {h0 h1 h2 h3 : Nat} {cA : ClassId} {t0 t1 t2 t3 : Nat} {u : XS} {av : List Value} : FrameBlind (va_Pc av (fun U => xpre dC dI h0 h1 h2 h3 cA t0 t1 t2 t3 u U)) :=
  fun a U g mk q => ⟨q.1, q.2.1, va_K.moved (u := U) (U := U.calling g mk a) (Vm.Alike.refl U.vm) q.2.2.1, xtab_moved (u := U) (U := U.calling g mk a) (Vm.Alike.refl U.vm) q.2.2.2⟩
theorem xpre_of {dC : Nat → ClassId} {dI : Nat → Nat → Nat} {h0 h1 h2 h3 : Nat} {cA : ClassId} {t0 t1 t2 t3 : Nat} {u : XS} {A : Nat → Prop} {s U : State} {H : Heap} {locs : List Loc} (hP : va_P (dC, dI) vwCl (xw h0 h1 h2 h3 cA u) H) (hK : va_K (dC, dI) vwCl [(cA, .int)] s) (hT : xtab t0 t1 t2 t3 A s s.heap) (hS : va_S A s.heap H locs) (hU : U.heap = H) (hW : s.WarmedH U.vm) : xpre dC dI h0 h1 h2 h3 cA t0 t1 t2 t3 u U :=
  ⟨by rw [hU]; exact hP, va_K.moved hW.alike hK, xtab_call hT hS hU hW (fun _ q => q.elim)⟩
def xmut (dC : Nat → ClassId) (dI : Nat → Nat → Nat) (h0 h1 h2 h3 : Nat) (cA : ClassId) (t0 t1 t2 t3 sz : Nat) (u : XS) (U : State) : Prop :=
  U.heap.size = sz ∧ va_P (dC, dI) vwCl (xw h0 h1 h2 h3 cA u) U.heap ∧ va_K (dC, dI) vwCl [(cA, .int)] U ∧ va_D (fun _ => True) (xw h0 h1 h2 h3 cA u) ∧ xtab t0 t1 t2 t3 (va_A (xw h0 h1 h2 h3 cA u) sz) U U.heap
theorem xmut_blind {dC : Nat → ClassId} {dI : Nat → Nat → Nat} {h0 h1 h2 h3 : Nat} {cA : ClassId} {t0 t1 t2 t3 sz : Nat} {u : XS} {av : List Value} : FrameBlind (va_Pc av (fun U => xmut dC dI h0 h1 h2 h3 cA t0 t1 t2 t3 sz u U)) :=
  fun a U g mk q => ⟨q.1, q.2.1, q.2.2.1, va_K.moved (u := U) (U := U.calling g mk a) (Vm.Alike.refl U.vm) q.2.2.2.1, q.2.2.2.2.1, xtab_moved (u := U) (U := U.calling g mk a) (Vm.Alike.refl U.vm) q.2.2.2.2.2⟩
theorem xmut_of {dC : Nat → ClassId} {dI : Nat → Nat → Nat} {h0 h1 h2 h3 : Nat} {cA : ClassId} {t0 t1 t2 t3 : Nat} {u : XS} {A : Nat → Prop} {s U : State} {H : Heap} {locs : List Loc} (hP : va_P (dC, dI) vwCl (xw h0 h1 h2 h3 cA u) H) (hK : va_K (dC, dI) vwCl [(cA, .int)] s) (hD : va_D A (xw h0 h1 h2 h3 cA u)) (hT : xtab t0 t1 t2 t3 A s s.heap) (hS : va_S A s.heap H locs) (hF : ∀ q, va_A (xw h0 h1 h2 h3 cA u) H.size q → A q) (hU : U.heap = H) (hW : s.WarmedH U.vm) : xmut dC dI h0 h1 h2 h3 cA t0 t1 t2 t3 H.size u U :=
  ⟨by rw [hU], by rw [hU]; exact hP, va_K.moved hW.alike hK, hD.weaken (fun _ _ _ _ => trivial), xtab_call hT hS hU hW hF⟩
def xatt (dC : Nat → ClassId) (dI : Nat → Nat → Nat) (h0 h1 h2 h3 : Nat) (cA : ClassId) (A : Nat → Prop) (u : XS) (t : State) : Prop :=
  va_P (dC, dI) vwCl (xw h0 h1 h2 h3 cA u) t.heap ∧ va_K (dC, dI) vwCl [(cA, .int)] t ∧ va_D A (xw h0 h1 h2 h3 cA u)
def xatt0 (dC : Nat → ClassId) (dI : Nat → Nat → Nat) (h0 : Nat) (A : Nat → Prop) (u : XS) (t : State) : Prop :=
  ∃ (h1 h2 h3 : Nat) (cA : ClassId), xatt dC dI h0 h1 h2 h3 cA A u t
-- the functions
def xW2 (v : Int32) : Int32 := if 127 < v then (if 2047 < v then (if 65535 < v then 4 else 3) else 2) else 1
def xWidth (v : Int32) : Int32 := if v < 0 then 0 else if 1114111 < v then 0 else if v < 55296 then xW2 v else if 57343 < v then xW2 v else 0
def xFol (v : Int32) : Int32 := if 128 ≤ v then (if v &&& 224 = 192 then 1 else if v &&& 240 = 224 then 2 else if v &&& 248 = 240 then 3 else -1) else 0
def xMark (v : Int32) : Int32 := if v = 2 then 192 else if v = 3 then 224 else if v = 4 then 240 else 0
def xEnc (v wd j : Int32) : Int32 := if j ≤ 0 then xMark wd ||| (v >>> ((6 * (wd - 1 - j)) &&& 31)) else 128 ||| ((v >>> ((6 * (wd - 1 - j)) &&& 31)) &&& 63)
def xIn (f : Nat → Int32) (v : Int32) : Nat → Bool
  | 0 => false
  | n + 1 => xIn f v n || (decide (f (2 * n) ≤ v) && decide (v ≤ f (2 * n + 1)))
theorem xIn_lo {f : Nat → Int32} {v : Int32} {j : Nat} (h : xIn f v j = false) (c : v < f (2 * j)) : xIn f v (j + 1) = false := by
  rw [xIn, h, decide_eq_false (Int32.not_le.mpr c)]; rfl
theorem xIn_hi {f : Nat → Int32} {v : Int32} {j : Nat} (h : xIn f v j = false) (c : f (2 * j + 1) < v) : xIn f v (j + 1) = false := by
  rw [xIn, h, decide_eq_false (Int32.not_le.mpr c), Bool.and_false]; rfl
theorem xIn_hit {f : Nat → Int32} {v : Int32} {j M : Nat} (hj : j < M) (c1 : ¬ v < f (2 * j)) (c2 : ¬ f (2 * j + 1) < v) : xIn f v M = true := by
  induction M with
  | zero => omega
  | succ M ih =>
    rw [xIn]
    rcases Nat.lt_or_ge j M with h | h
    · rw [ih h]; rfl
    · obtain rfl : j = M := by omega
      rw [decide_eq_true (Int32.not_lt.mp c1), decide_eq_true (Int32.not_lt.mp c2)]
      simp
def xNP (v : Int32) : Bool := if xIn fNB v 16 then true else if xIn fFN v 5 then true else false
def xBel (kd v : Int32) : Bool := if kd = 0 then xNP v else if kd = 1 then xNP v else if kd = 2 then xIn fBL v 3 else false
def xFault (v : Int32) : Int32 := if v = -1 then 1 else if xIn fAL v 5 then 0 else 2
def xRoom (n : Nat) (i : Int32) : Bool := if 1000 - nI n < i then false else true
def xHas (k : Nat) (i : Int32) : Bool := if i < 0 then false else if nI k ≤ i then false else true
def xStr (rl : Int32) (k : Nat) (i q : Int32) : Bool := if rl = -1 then false else if q < 0 then false else if i < 0 then false else if nI k - q < i then false else true
def xAt (ch : Nat → Int32) (k : Nat) (i : Int32) : Int32 := if xHas k i then ch i.toNatClampNeg else -1
def xPlc (rl : Int32) (pl : Nat → Int32) (k : Nat) (i : Int32) : Int32 := if xHas k i then pl i.toNatClampNeg else if i = nI k then rl else -1
def xKind (v : Int32) : Int32 := (if xIn fAL v 5 then 1 else 0) + (if xIn fBL v 3 then 2 else 0) + (if xIn fNB v 16 then 4 else 0) + (if xNP v then 8 else 0)
def xLeft (tx : Nat → Int32) (v : Int32) (fr : Nat) : Bool := if nI fr = 0 then (if v = 65279 then true else false) else (if v = 10 then (if tx (fr - 1) = 13 then true else false) else false)
def xDl (tx : Nat → Int32) (fr : Nat) : Nat → Nat → Int32 → Option Int32
  | 0, _, acc => some acc
  | d + 1, q, acc => if tx (fr + q) &&& 192 = 128 then xDl tx fr d (q + 1) ((acc <<< (6 &&& 31)) ||| (tx (fr + q) &&& 63)) else none
def xDecE (o : Option Int32) (fo : Int32) : Int32 := match o with
  | none => -1
  | some v => if xWidth v = fo + 1 then v else -1
def xDec (tx : Nat → Int32) (n fr : Nat) : Int32 :=
  if xFol (tx fr) < 0 then -1 else if fr + (xFol (tx fr)).toNatClampNeg < n then xDecE (xDl tx fr (xFol (tx fr)).toNatClampNeg 1 (if xFol (tx fr) = 0 then tx fr else tx fr &&& (63 >>> (xFol (tx fr) &&& 31)))) (xFol (tx fr)) else -1
def runEnd (P : Nat → Bool) : Nat → Nat → Nat
  | 0, j => j
  | d + 1, j => if P j then runEnd P d (j + 1) else j
def xRun (ch : Nat → Int32) (k : Nat) (kd i : Int32) : Int32 :=
  if xHas k i then (if kd = 0 then (if xIn fNB (ch i.toNatClampNeg) 16 then nI (runEnd (fun z => xBel kd (ch z)) (k - i.toNatClampNeg) i.toNatClampNeg - i.toNatClampNeg) else 0) else nI (runEnd (fun z => xBel kd (ch z)) (k - i.toNatClampNeg) i.toNatClampNeg - i.toNatClampNeg)) else 0
def xIcmp (a b : Int32) : Int32 := if b ≤ a then (if a = b then 0 else 1) else -1
def cmpAt (f g : Nat → Int32) : Nat → Nat → Int32
  | 0, _ => 0
  | d + 1, z => if f z = g z then cmpAt f g d (z + 1) else if f z < g z then -1 else 1
theorem cmpAt_eq {f g : Nat → Int32} {d z : Nat} (c : xIcmp (f z) (g z) = 0) : cmpAt f g (d + 1) z = cmpAt f g d (z + 1) := by
  unfold xIcmp at c
  split at c
  · split at c
    · rename_i h; rw [cmpAt, if_pos h]
    · exact absurd c (by decide)
  · exact absurd c (by decide)
theorem cmpAt_gt {f g : Nat → Int32} {d z : Nat} (c1 : ¬ xIcmp (f z) (g z) = 0) (c2 : 0 ≤ xIcmp (f z) (g z)) : 1 = cmpAt f g (d + 1) z := by
  by_cases h1 : g z ≤ f z
  · by_cases h2 : f z = g z
    · exact absurd (by rw [xIcmp, if_pos h1, if_pos h2]) c1
    · rw [cmpAt, if_neg h2, if_neg (Int32.not_lt.mpr h1)]
  · rw [xIcmp, if_neg h1] at c2; exact absurd c2 (by decide)
theorem cmpAt_lt {f g : Nat → Int32} {d z : Nat} (c1 : ¬ xIcmp (f z) (g z) = 0) (c2 : ¬ 0 ≤ xIcmp (f z) (g z)) : -1 = cmpAt f g (d + 1) z := by
  by_cases h1 : g z ≤ f z
  · by_cases h2 : f z = g z
    · exact absurd (by rw [xIcmp, if_pos h1, if_pos h2]) c1
    · exact absurd (by rw [xIcmp, if_pos h1, if_neg h2]; decide) c2
  · have h3 : ¬ f z = g z := fun q => h1 (by rw [q]; exact Int32.le_refl _)
    rw [cmpAt, if_neg h3, if_pos (Int32.not_le.mp h1)]
def xCmp (ch : Nat → Int32) (rl : Int32) (k : Nat) (i j q : Int32) : Int32 :=
  if xStr rl k i q then (if xStr rl k j q then cmpAt (fun y => ch (i.toNatClampNeg + y)) (fun y => ch (j.toNatClampNeg + y)) q.toNatClampNeg 0 else -2) else -2
def xPk (v wd : Int32) : Nat → Int64
  | 0 => wd.toInt64 <<< ((56 : Int32).toInt64 &&& 63)
  | j + 1 => xPk v wd j ||| ((xEnc v wd (nI j)).toInt64 <<< ((48 - 8 * nI j : Int32).toInt64 &&& 63))
def xBytes (v : Int32) : Int64 := xPk v (xWidth v) (xWidth v).toNatClampNeg
def xPb (v : Int64) (m : Nat) : Int32 := ((v.toUInt64 >>> ((8 * nI m : Int32).toInt64.toUInt64 &&& Int64.toUInt64 63)).toInt64).toInt32 &&& 255
def putTx (tx : Nat → Int32) (n : Nat) (g : Nat → Int32) : Nat → (Nat → Int32)
  | 0 => tx
  | i + 1 => upd (putTx tx n g i) (n + i) (g i)
def xPutOk (n : Nat) (q : Int32) : Bool := if q < 1 then false else if 8 < q then false else xRoom n q
def xChOk (n : Nat) (v : Int32) : Bool := if xWidth v = 0 then false else xRoom n (xWidth v)
abbrev XR : Type := Int32 × (Nat → Int32) × (Nat → Int32) × Nat × Int32
def xRt (tx : Nat → Int32) (n : Nat) : Nat → Nat → (Nat → Int32) → (Nat → Int32) → Nat → Nat → Int32 → XR
  | 0, _, ch, pl, k, _, fp => (0, ch, pl, k, fp)
  | d + 1, fr, ch, pl, k, nx, fp =>
    if fr < nx then xRt tx n d (fr + 1) ch pl k nx fp
    else if xFault (xDec tx n fr) = 0 then
      (if xLeft tx (xDec tx n fr) fr then xRt tx n d (fr + 1) ch pl k (fr + (xWidth (xDec tx n fr)).toNatClampNeg) fp
       else xRt tx n d (fr + 1) (upd ch k (if xDec tx n fr = 13 then 10 else xDec tx n fr)) (upd pl k (nI fr)) (k + 1) (fr + (xWidth (xDec tx n fr)).toNatClampNeg) fp)
    else (xFault (xDec tx n fr), ch, pl, k, nI fr)
theorem xRt_k (tx : Nat → Int32) (n : Nat) : ∀ (d fr : Nat) (ch pl : Nat → Int32) (k nx : Nat) (fp : Int32), (xRt tx n d fr ch pl k nx fp).2.2.2.1 ≤ k + d := by
  intro d
  induction d with
  | zero => intro fr ch pl k nx fp; exact Nat.le_refl _
  | succ d ih =>
    intro fr ch pl k nx fp
    rw [xRt]
    split
    · exact Nat.le_trans (ih _ _ _ _ _ _) (by omega)
    · split
      · split
        · exact Nat.le_trans (ih _ _ _ _ _ _) (by omega)
        · exact Nat.le_trans (ih _ _ _ _ _ _) (by omega)
      · exact Nat.le_add_right _ _
def xRead (R : XR) : Int32 := if R.1 = 0 then nI R.2.2.2.1 else -1 - R.1
def xReadU (tx : Nat → Int32) (n : Nat) (R : XR) : XS := if R.1 = 0 then (tx, 0, R.2.1, R.2.2.1, R.2.2.2.1, nI n, R.2.2.2.2) else (tx, 0, R.2.1, R.2.2.1, 0, -1, R.2.2.2.2)
-- small facts
theorem xHas_of {k : Nat} {i : Int32} (hk : k ≤ 1000) (h : xHas k i = true) : ∃ j, j < k ∧ i = nI j := by
  unfold xHas at h
  split at h
  · exact absurd h (by decide)
  · rename_i h1
    split at h
    · exact absurd h (by decide)
    · rename_i h2
      rcases pk_ix i (n := k) (by omega) with q | q | q
      · exact absurd q h1
      · exact absurd q h2
      · exact q
theorem xHas_in {k N : Nat} {i : Int32} (hk : k ≤ 1000) (h : xHas k i = true) (hN : decide (1000 ≤ N ∧ N ≤ 100000) = true) : vp_in i N := by
  obtain ⟨j, hj, rfl⟩ := xHas_of hk h
  have hN := of_decide_eq_true hN
  exact vp_in_nI (by omega) (by omega)
theorem xWidth_nat (v : Int32) : ∃ wd : Nat, wd ≤ 4 ∧ xWidth v = nI wd := by
  have h2 : ∃ wd : Nat, wd ≤ 4 ∧ xW2 v = nI wd := by
    unfold xW2
    split
    · split
      · split
        · exact ⟨4, by decide, rfl⟩
        · exact ⟨3, by decide, rfl⟩
      · exact ⟨2, by decide, rfl⟩
    · exact ⟨1, by decide, rfl⟩
  unfold xWidth
  split
  · exact ⟨0, by decide, rfl⟩
  · split
    · exact ⟨0, by decide, rfl⟩
    · split
      · exact h2
      · split
        · exact h2
        · exact ⟨0, by decide, rfl⟩
theorem xFol_nat {v : Int32} (h : ¬ xFol v < 0) : ∃ fo : Nat, fo ≤ 3 ∧ xFol v = nI fo := by
  unfold xFol at h ⊢
  split
  · rename_i h1
    rw [if_pos h1] at h
    split
    · exact ⟨1, by decide, rfl⟩
    · rename_i h2
      rw [if_neg h2] at h
      split
      · exact ⟨2, by decide, rfl⟩
      · rename_i h3
        rw [if_neg h3] at h
        split
        · exact ⟨3, by decide, rfl⟩
        · rename_i h4
          rw [if_neg h4] at h
          exact absurd (by decide) h
  · exact ⟨0, by decide, rfl⟩
theorem xRoom_ok {n q : Nat} (h : n + q ≤ 1000) : xRoom n (nI q) = true := by
  have e : (1000 : Int32) - nI n = nI (1000 - n) := pk_sub (a := 1000) (by omega)
  rw [xRoom, e, if_neg (nI_nlt (by omega) (by omega))]
theorem xRoom_no {n : Nat} {q : Nat} (hn : n ≤ 1000) (hq : q ≤ 1000) (h : 1000 < n + q) : xRoom n (nI q) = false := by
  have e : (1000 : Int32) - nI n = nI (1000 - n) := pk_sub (a := 1000) (by omega)
  rw [xRoom, e, if_pos (nI_lt (by omega) (by omega))]
theorem sub_toInt {k q : Nat} (hk : k < 2 ^ 31) (hq : q < 2 ^ 31) : (nI k - nI q).toInt = (k : Int) - q := by
  rw [Int32.toInt_sub, nI_toInt hk, nI_toInt hq]
  exact Int.bmod_eq_of_le (by omega) (by omega)
theorem xStr_of {rl : Int32} {k : Nat} {i q : Int32} (hk : k ≤ 1000) (h : xStr rl k i q = true) : ∃ a q' : Nat, a + q' ≤ k ∧ i = nI a ∧ q = nI q' := by
  unfold xStr at h
  split at h
  · exact absurd h (by decide)
  · split at h
    · exact absurd h (by decide)
    · rename_i h1
      split at h
      · exact absurd h (by decide)
      · rename_i h2
        split at h
        · exact absurd h (by decide)
        · rename_i h3
          obtain ⟨q', hq', rfl⟩ := nI_of h1
          obtain ⟨a, ha, rfl⟩ := nI_of h2
          rw [Int32.lt_iff_toInt_lt, sub_toInt (by omega) hq', nI_toInt ha] at h3
          exact ⟨a, q', by omega, rfl, rfl⟩
