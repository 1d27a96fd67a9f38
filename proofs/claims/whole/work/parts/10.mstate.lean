/-! The reference: its cells, and the functions that its methods compute. -/
def updN (f : Nat → Nat) (i b : Nat) : Nat → Nat := fun j => if j = i then b else f j
theorem upd_nI (f : Nat → Nat) (i b : Nat) : upd (fun j => nI (f j)) i (nI b) = fun j => nI (updN f i b j) := by
  funext j
  by_cases h : j = i
  · rw [h, pk_us, updN, if_pos rfl]
  · rw [pk_un h, updN, if_neg h]
abbrev MS : Type := (Nat → Nat) × Nat × (Nat → Nat) × Nat × Bool × Int32 × Nat × Int32 × Int32
def mw (g0 g1 g2 : Nat) (cA : ClassId) (u : MS) : va_W := [(g0, .inr (1, [.ref g1, .int (nI u.2.1), .ref g2, .int (nI u.2.2.2.1), .int (bI u.2.2.2.2.1), .int u.2.2.2.2.2.1, .int (nI u.2.2.2.2.2.2.1), .int u.2.2.2.2.2.2.2.1, .int u.2.2.2.2.2.2.2.2])), (g1, .inl (cA, 1000, .inl (fun j => nI (u.1 j)))), (g2, .inl (cA, 1000, .inl (fun j => nI (u.2.2.1 j))))]
def mpre (dC : Nat → ClassId) (dI : Nat → Nat → Nat) (g0 g1 g2 : Nat) (cA : ClassId) (u : MS) (U : State) : Prop :=
  va_P (dC, dI) vwCl (mw g0 g1 g2 cA u) U.heap ∧ va_K (dC, dI) vwCl [(cA, .int)] U
theorem mpre_blind {dC : Nat → ClassId} {dI : Nat → Nat → Nat} {g0 g1 g2 : Nat} {cA : ClassId} {u : MS} {av : List Value} : FrameBlind (va_Pc av (fun U => mpre dC dI g0 g1 g2 cA u U)) :=
  fun a U g mk q => ⟨q.1, q.2.1, va_K.moved (u := U) (U := U.calling g mk a) (Vm.Alike.refl U.vm) q.2.2⟩
theorem mpre_of {dC : Nat → ClassId} {dI : Nat → Nat → Nat} {g0 g1 g2 : Nat} {cA : ClassId} {u : MS} {s U : State} {H : Heap} (hP : va_P (dC, dI) vwCl (mw g0 g1 g2 cA u) H) (hK : va_K (dC, dI) vwCl [(cA, .int)] s) (hU : U.heap = H) (hW : s.WarmedH U.vm) : mpre dC dI g0 g1 g2 cA u U :=
  ⟨by rw [hU]; exact hP, va_K.moved hW.alike hK⟩
def mmut (dC : Nat → ClassId) (dI : Nat → Nat → Nat) (g0 g1 g2 : Nat) (cA : ClassId) (sz : Nat) (u : MS) (U : State) : Prop :=
  U.heap.size = sz ∧ va_P (dC, dI) vwCl (mw g0 g1 g2 cA u) U.heap ∧ va_K (dC, dI) vwCl [(cA, .int)] U ∧ va_D (fun _ => True) (mw g0 g1 g2 cA u)
theorem mmut_blind {dC : Nat → ClassId} {dI : Nat → Nat → Nat} {g0 g1 g2 : Nat} {cA : ClassId} {sz : Nat} {u : MS} {av : List Value} : FrameBlind (va_Pc av (fun U => mmut dC dI g0 g1 g2 cA sz u U)) :=
  fun a U g mk q => ⟨q.1, q.2.1, q.2.2.1, va_K.moved (u := U) (U := U.calling g mk a) (Vm.Alike.refl U.vm) q.2.2.2.1, q.2.2.2.2⟩
theorem mmut_of {dC : Nat → ClassId} {dI : Nat → Nat → Nat} {g0 g1 g2 : Nat} {cA : ClassId} {u : MS} {A : Nat → Prop} {s U : State} {H : Heap} (hP : va_P (dC, dI) vwCl (mw g0 g1 g2 cA u) H) (hK : va_K (dC, dI) vwCl [(cA, .int)] s) (hD : va_D A (mw g0 g1 g2 cA u)) (hU : U.heap = H) (hW : s.WarmedH U.vm) : mmut dC dI g0 g1 g2 cA H.size u U :=
  ⟨by rw [hU], by rw [hU]; exact hP, va_K.moved hW.alike hK, hD.weaken (fun _ _ _ _ => trivial)⟩
def matt (dC : Nat → ClassId) (dI : Nat → Nat → Nat) (g0 g1 g2 : Nat) (cA : ClassId) (A : Nat → Prop) (u : MS) (t : State) : Prop :=
  va_P (dC, dI) vwCl (mw g0 g1 g2 cA u) t.heap ∧ va_K (dC, dI) vwCl [(cA, .int)] t ∧ va_D A (mw g0 g1 g2 cA u)
def matt0 (dC : Nat → ClassId) (dI : Nat → Nat → Nat) (g0 : Nat) (A : Nat → Prop) (u : MS) (t : State) : Prop :=
  ∃ (g1 g2 : Nat) (cA : ClassId), matt dC dI g0 g1 g2 cA A u t
-- the functions
def mH2 (v : Int32) : Bool := if v ≤ 57343 then false else if 1114112 ≤ v then false else true
def mHas (v : Int32) : Bool := if v < 0 then mH2 v else if v < 55296 then true else mH2 v
def mSize (v : Int32) : Int32 := if v ≤ 65535 then (if v ≤ 2047 then (if v ≤ 127 then 1 else 2) else 3) else 4
def mA3 (v : Int32) : Bool := if v < 65536 then false else if 1114112 ≤ v then false else true
def mA2 (v : Int32) : Bool := if v < 57344 then mA3 v else if v < 65534 then true else mA3 v
def mAll (v : Int32) : Bool := if v = 9 then true else if v = 10 then true else if v = 13 then true else if v < 32 then mA2 v else if v < 55296 then true else mA2 v
def mBlank (v : Int32) : Bool := if v = 32 then true else if v = 9 then true else if v = 13 then true else if v = 10 then true else false
def mWith (v a b : Int32) : Bool := if v < a then false else if b < v then false else true
def mLow (v : Int32) : Bool := if v = 58 then true else if v = 95 then true else if mWith v 65 90 then true else if mWith v 97 122 then true else if mWith v 192 214 then true else if mWith v 216 246 then true else if mWith v 248 767 then true else false
def mMid (v : Int32) : Bool := if mWith v 880 893 then true else if mWith v 895 8191 then true else if mWith v 8204 8205 then true else if mWith v 8304 8591 then true else if mWith v 11264 12271 then true else false
def mBeg (v : Int32) : Bool := if mLow v then true else if mMid v then true else if mWith v 12289 55295 then true else if mWith v 63744 64975 then true else if mWith v 65008 65533 then true else if mWith v 65536 983039 then true else false
def mPart (v : Int32) : Bool := if mBeg v then true else if v = 45 then true else if v = 46 then true else if mWith v 48 57 then true else if v = 183 then true else if mWith v 768 879 then true else if mWith v 8255 8256 then true else false
def mKind (v : Int32) : Int32 := (if mAll v then 1 else 0) + (if mBlank v then 2 else 0) + (if mBeg v then 4 else 0) + (if mPart v then 8 else 0)
-- one character's bytes, read
def finN (v n : Nat) (m : Int32) : Option (Nat × Nat) := if mHas (nI v) then (if mSize (nI v) = m then some (v, n) else none) else none
def seq1 (kb : Nat → Nat) (ln st : Nat) : Option (Nat × Nat) := if st + 1 ≤ ln then finN (kb st) 1 1 else none
def seq2 (kb : Nat → Nat) (ln st : Nat) : Option (Nat × Nat) := if st + 2 ≤ ln then (if kb (st + 1) < 128 then none else if kb (st + 1) ≤ 191 then finN (64 * (kb st - 192) + kb (st + 1) - 128) 2 2 else none) else none
def seq3 (kb : Nat → Nat) (ln st : Nat) : Option (Nat × Nat) := if st + 3 ≤ ln then (if kb (st + 1) < 128 then none else if kb (st + 1) ≤ 191 then (if kb (st + 2) < 128 then none else if kb (st + 2) ≤ 191 then finN (64 * (64 * (kb st - 224) + kb (st + 1) - 128) + kb (st + 2) - 128) 3 3 else none) else none) else none
def seq4 (kb : Nat → Nat) (ln st : Nat) : Option (Nat × Nat) := if st + 4 ≤ ln then (if kb (st + 1) < 128 then none else if kb (st + 1) ≤ 191 then (if kb (st + 2) < 128 then none else if kb (st + 2) ≤ 191 then (if kb (st + 3) < 128 then none else if kb (st + 3) ≤ 191 then finN (64 * (64 * (64 * (kb st - 240) + kb (st + 1) - 128) + kb (st + 2) - 128) + kb (st + 3) - 128) 4 4 else none) else none) else none) else none
def seqN (kb : Nat → Nat) (ln st : Nat) : Option (Nat × Nat) :=
  if 128 ≤ kb st then (if 192 ≤ kb st then (if 224 ≤ kb st then (if 240 ≤ kb st then (if 248 ≤ kb st then none else seq4 kb ln st) else seq3 kb ln st) else seq2 kb ln st) else none) else seq1 kb ln st
def seqR : Option (Nat × Nat) → Int32
  | none => -1
  | some q => nI q.1
def seqS (st : Nat) : Option (Nat × Nat) → Nat
  | none => st
  | some q => st + q.2
theorem seqR_n : seqR none = -1 := rfl
theorem seqR_s (a b : Nat) : seqR (some (a, b)) = nI a := rfl
theorem seqS_n (st : Nat) : seqS st none = st := rfl
theorem seqS_s (st a b : Nat) : seqS st (some (a, b)) = st + b := rfl
theorem finN_lt {v n : Nat} {m : Int32} {q : Nat × Nat} (hv : v < 2 ^ 31) (h : finN v n m = some q) : q = (v, n) ∧ v < 1114112 := by
  unfold finN at h
  split at h
  · rename_i h1
    split at h
    · refine ⟨(Option.some.inj h).symm, ?_⟩
      unfold mHas mH2 at h1
      split at h1
      · rename_i h2; exact absurd h2 (nI_pos hv)
      · split at h1
        · rename_i h3
          have := (nI_ltI (a := v) (b := 55296) hv (by decide)).mp h3
          omega
        · split at h1
          · exact absurd h1 (by decide)
          · split at h1
            · exact absurd h1 (by decide)
            · rename_i h4
              have : ¬ 1114112 ≤ v := fun z => h4 ((nI_leI (a := 1114112) (b := v) (by decide) hv).mpr z)
              omega
    · exact absurd h (by simp)
  · exact absurd h (by simp)
theorem ite_n {p : Prop} [Decidable p] {a : Option (Nat × Nat)} {x : Nat × Nat} (h : (if p then a else none) = some x) : p ∧ a = some x := by
  by_cases q : p
  · rw [if_pos q] at h; exact ⟨q, h⟩
  · rw [if_neg q] at h; exact absurd h (by simp)
theorem ite_m {p : Prop} [Decidable p] {a : Option (Nat × Nat)} {x : Nat × Nat} (h : (if p then none else a) = some x) : ¬ p ∧ a = some x := by
  by_cases q : p
  · rw [if_pos q] at h; exact absurd h (by simp)
  · rw [if_neg q] at h; exact ⟨q, h⟩
theorem seqN_lt {kb : Nat → Nat} {ln st : Nat} {v w : Nat} (hkb : ∀ j, kb j < 256) (h : seqN kb ln st = some (v, w)) : v < 1114112 ∧ 1 ≤ w ∧ w ≤ 4 ∧ st + w ≤ ln := by
  have a0 := hkb st; have a1 := hkb (st + 1); have a2 := hkb (st + 2); have a3 := hkb (st + 3)
  unfold seqN at h
  by_cases c1 : 128 ≤ kb st
  · rw [if_pos c1] at h
    obtain ⟨c2, h⟩ := ite_n h
    by_cases c3 : 224 ≤ kb st
    · rw [if_pos c3] at h
      by_cases c4 : 240 ≤ kb st
      · rw [if_pos c4] at h
        obtain ⟨c5, h⟩ := ite_m h
        obtain ⟨b1, h⟩ := ite_n h
        obtain ⟨b2, h⟩ := ite_m h
        obtain ⟨b3, h⟩ := ite_n h
        obtain ⟨b4, h⟩ := ite_m h
        obtain ⟨b5, h⟩ := ite_n h
        obtain ⟨b6, h⟩ := ite_m h
        obtain ⟨b7, h⟩ := ite_n h
        obtain ⟨e, q⟩ := finN_lt (by omega) h
        have e1 := (Prod.mk.inj e).1; have e2 := (Prod.mk.inj e).2
        exact ⟨by omega, by omega, by omega, by omega⟩
      · rw [if_neg c4] at h
        obtain ⟨b1, h⟩ := ite_n h
        obtain ⟨b2, h⟩ := ite_m h
        obtain ⟨b3, h⟩ := ite_n h
        obtain ⟨b4, h⟩ := ite_m h
        obtain ⟨b5, h⟩ := ite_n h
        obtain ⟨e, q⟩ := finN_lt (by omega) h
        have e1 := (Prod.mk.inj e).1; have e2 := (Prod.mk.inj e).2
        exact ⟨by omega, by omega, by omega, by omega⟩
    · rw [if_neg c3] at h
      obtain ⟨b1, h⟩ := ite_n h
      obtain ⟨b2, h⟩ := ite_m h
      obtain ⟨b3, h⟩ := ite_n h
      obtain ⟨e, q⟩ := finN_lt (by omega) h
      have e1 := (Prod.mk.inj e).1; have e2 := (Prod.mk.inj e).2
      exact ⟨by omega, by omega, by omega, by omega⟩
  · rw [if_neg c1] at h
    obtain ⟨b1, h⟩ := ite_n h
    obtain ⟨e, q⟩ := finN_lt (by omega) h
    have e1 := (Prod.mk.inj e).1; have e2 := (Prod.mk.inj e).2
    exact ⟨by omega, by omega, by omega, by omega⟩
-- the next character
def s0N (kb : Nat → Nat) (ln st : Nat) : Nat := if st = 0 then (if ln ≤ 2 then st else if kb 0 = 239 then (if kb 1 = 187 then (if kb 2 = 191 then 3 else st) else st) else st) else st
def nxM (v : Nat) : Nat := if v = 13 then 10 else v
def nxS (kb : Nat → Nat) (ln st v : Nat) : Nat := if v = 13 then (if ln ≤ st then st else if kb st = 10 then st + 1 else st) else st
/-- what was read: k characters, mf and bf what each is and where it stands, sg the places between -/
def Chain (kb : Nat → Nat) (ln k : Nat) (mf bf sg : Nat → Nat) : Prop :=
  sg 0 = 0 ∧ (∀ j, j < k → ¬ ln ≤ s0N kb ln (sg j) ∧ ∃ v w, seqN kb ln (s0N kb ln (sg j)) = some (v, w) ∧ mf j = nxM v ∧ bf j = s0N kb ln (sg j) ∧ sg (j + 1) = nxS kb ln (s0N kb ln (sg j) + w) v) ∧ ln ≤ s0N kb ln (sg k)
-- one character's bytes, written
def szN (v : Nat) : Nat := if v ≤ 65535 then (if v ≤ 2047 then (if v ≤ 127 then 1 else 2) else 3) else 4
theorem szN_in (v : Nat) : 1 ≤ szN v ∧ szN v ≤ 4 := by
  unfold szN
  repeat' split
  all_goals omega
theorem mSize_nI {v : Nat} (hv : v < 2 ^ 31) : mSize (nI v) = nI (szN v) := by
  have e1 : nI v ≤ 65535 ↔ v ≤ 65535 := nI_leI (b := 65535) hv (by decide)
  have e2 : nI v ≤ 2047 ↔ v ≤ 2047 := nI_leI (b := 2047) hv (by decide)
  have e3 : nI v ≤ 127 ↔ v ≤ 127 := nI_leI (b := 127) hv (by decide)
  unfold mSize szN
  by_cases h1 : v ≤ 65535
  · rw [if_pos h1, if_pos (e1.mpr h1)]
    by_cases h2 : v ≤ 2047
    · rw [if_pos h2, if_pos (e2.mpr h2)]
      by_cases h3 : v ≤ 127
      · rw [if_pos h3, if_pos (e3.mpr h3)]; rfl
      · rw [if_neg h3, if_neg (fun q => h3 (e3.mp q))]; rfl
    · rw [if_neg h2, if_neg (fun q => h2 (e2.mp q))]; rfl
  · rw [if_neg h1, if_neg (fun q => h1 (e1.mp q))]; rfl
def encN (v j : Nat) : Nat := if j ≤ 0 then (if szN v = 1 then v else if szN v = 2 then 192 + v / 64 ^ (szN v - 1 - j) else if szN v = 3 then 224 + v / 64 ^ (szN v - 1 - j) else 240 + v / 64 ^ (szN v - 1 - j)) else 128 + v / 64 ^ (szN v - 1 - j) % 64
def putN (tb : Nat → Nat) (n : Nat) (g : Nat → Nat) : Nat → (Nat → Nat)
  | 0 => tb
  | i + 1 => updN (putN tb n g i) (n + i) (g i)
def mPb (v : Int64) (d : Nat) : Int32 := ((v >>> ((nI (8 * d)).toInt64 &&& 63)) &&& 255).toInt32
def pbN (v : Int64) (d : Nat) : Nat := (v >>> ((nI (8 * d)).toInt64 &&& 63)).toBitVec.toNat % 256
theorem mPb_nI (v : Int64) (d : Nat) : mPb v d = nI (pbN v d) := by
  unfold mPb pbN
  generalize v >>> ((nI (8 * d)).toInt64 &&& 63) = x
  apply Int32.toBitVec_inj.mp
  apply BitVec.eq_of_toNat_eq
  have h1 : (x &&& 255).toInt32.toBitVec.toNat = (x &&& 255).toBitVec.toNat % 2 ^ 32 := by
    rw [Int64.toBitVec_toInt32, BitVec.signExtend_eq_setWidth_of_le _ (by decide), BitVec.toNat_setWidth]
  rw [h1, pk_tn (by omega), Int64.toBitVec_and, BitVec.toNat_and, show (255 : Int64).toBitVec.toNat = 2 ^ 8 - 1 from by decide, Nat.and_two_pow_sub_one_eq_mod]
  omega
theorem pbN_lt (v : Int64) (d : Nat) : pbN v d < 256 := Nat.mod_lt _ (by decide)
def mPutOk (n : Nat) (q : Int32) : Bool := if q < 1 then false else if 8 < q then false else if nI n + q ≤ 1000 then true else false
def mChOk (n : Nat) (v : Int32) : Bool := if mHas v then (if nI n + mSize v ≤ 1000 then true else false) else false
