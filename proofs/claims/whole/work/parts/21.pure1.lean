/-! Both sides compute the same: numbers in ranges, bytes. -/
theorem nx_or (a b : Nat) : nI a ||| nI b = nI (a ||| b) := by
  apply Int32.toBitVec_inj.1
  show BitVec.ofNat 32 a ||| BitVec.ofNat 32 b = BitVec.ofNat 32 (a ||| b)
  apply BitVec.eq_of_getLsbD_eq
  intro i hi
  simp [hi]
theorem or_lo (i a b : Nat) (h : b < 2 ^ i) : nI (2 ^ i * a) ||| nI b = nI (2 ^ i * a + b) := by rw [nx_or, Nat.two_pow_add_eq_or_of_lt h]
-- ranges
def rg (v a b : Int32) : Bool := decide (a ≤ v) && decide (v ≤ b)
theorem rg_with (v a b : Int32) : mWith v a b = rg v a b := by
  unfold mWith rg
  by_cases h1 : v < a
  · rw [if_pos h1, decide_eq_false (Int32.not_le.mpr h1)]; rfl
  · rw [if_neg h1, decide_eq_true (Int32.not_lt.mp h1)]
    by_cases h2 : b < v
    · rw [if_pos h2, decide_eq_false (Int32.not_le.mpr h2)]; rfl
    · rw [if_neg h2, decide_eq_true (Int32.not_lt.mp h2)]; rfl
theorem rg_one (v a : Int32) (X : Bool) : (if v = a then true else X) = (rg v a a || X) := by
  unfold rg
  by_cases h : v = a
  · rw [if_pos h, h, decide_eq_true (Int32.le_refl a)]; rfl
  · rw [if_neg h]
    by_cases h1 : a ≤ v
    · by_cases h2 : v ≤ a
      · exact absurd (Int32.le_antisymm h2 h1) h
      · rw [decide_eq_false h2, Bool.and_false]; rfl
    · rw [decide_eq_false h1]; rfl
theorem or_if (a X : Bool) : (if a then true else X) = (a || X) := by cases a <;> rfl
theorem xNB_rg (v : Int32) : xIn fNB v 16 = (rg v 58 58 || (rg v 95 95 || (rg v 65 90 || (rg v 97 122 || (rg v 192 214 || (rg v 216 246 || (rg v 248 767 || (rg v 880 893 || (rg v 895 8191 || (rg v 8204 8205 || (rg v 8304 8591 || (rg v 11264 12271 || (rg v 12289 55295 || (rg v 63744 64975 || (rg v 65008 65533 || rg v 65536 983039))))))))))))))) := by
  have e : xIn fNB v 16 = ((((((((((((((((false || rg v 58 58) || rg v 95 95) || rg v 65 90) || rg v 97 122) || rg v 192 214) || rg v 216 246) || rg v 248 767) || rg v 880 893) || rg v 895 8191) || rg v 8204 8205) || rg v 8304 8591) || rg v 11264 12271) || rg v 12289 55295) || rg v 63744 64975) || rg v 65008 65533) || rg v 65536 983039) := rfl
  rw [e]
  simp only [Bool.or_assoc, Bool.false_or]
theorem mBeg_rg (v : Int32) : mBeg v = xIn fNB v 16 := by
  rw [xNB_rg]
  unfold mBeg mLow mMid
  simp only [rg_one, or_if, rg_with, Bool.or_assoc, Bool.or_false]
theorem xFN_rg (v : Int32) : xIn fFN v 5 = (rg v 45 46 || (rg v 48 57 || (rg v 183 183 || (rg v 768 879 || rg v 8255 8256)))) := by
  have e : xIn fFN v 5 = (((((false || rg v 45 46) || rg v 48 57) || rg v 183 183) || rg v 768 879) || rg v 8255 8256) := rfl
  rw [e]
  simp only [Bool.or_assoc, Bool.false_or]
-- comparisons with numbers
theorem le_n (n : Nat) (hn : n < 2 ^ 31) (v : Int32) : (nI n ≤ v) = ((n : Int) ≤ v.toInt) := by rw [Int32.le_iff_toInt_le, nI_toInt hn]
theorem n_le (n : Nat) (hn : n < 2 ^ 31) (v : Int32) : (v ≤ nI n) = (v.toInt ≤ (n : Int)) := by rw [Int32.le_iff_toInt_le, nI_toInt hn]
theorem lt_n (n : Nat) (hn : n < 2 ^ 31) (v : Int32) : (nI n < v) = ((n : Int) < v.toInt) := by rw [Int32.lt_iff_toInt_lt, nI_toInt hn]
theorem n_lt (n : Nat) (hn : n < 2 ^ 31) (v : Int32) : (v < nI n) = (v.toInt < (n : Int)) := by rw [Int32.lt_iff_toInt_lt, nI_toInt hn]
theorem n_eq (n : Nat) (hn : n < 2 ^ 31) (v : Int32) : (v = nI n) = (v.toInt = (n : Int)) := by
  rw [← nI_toInt hn]; exact propext Int32.toInt_inj.symm
theorem rg_dec (v : Int32) (a b : Nat) (ha : a < 2 ^ 31) (hb : b < 2 ^ 31) : rg v (nI a) (nI b) = decide ((a : Int) ≤ v.toInt ∧ v.toInt ≤ (b : Int)) := by
  unfold rg
  rw [Bool.decide_and]
  simp only [le_n a ha, n_le b hb]
theorem rg_two (v : Int32) (a : Nat) (ha : a + 1 < 2 ^ 31) : (rg v (nI a) (nI a) || rg v (nI (a + 1)) (nI (a + 1))) = rg v (nI a) (nI (a + 1)) := by
  rw [rg_dec v a a (by omega) (by omega), rg_dec v (a + 1) (a + 1) (by omega) (by omega), rg_dec v a (a + 1) (by omega) (by omega), ← Bool.decide_or]
  exact decide_eq_decide.mpr (by omega)
theorem mPart_eq (v : Int32) : mPart v = xNP v := by
  have h2 : (rg v 45 45 || rg v 46 46) = rg v 45 46 := rg_two v 45 (by decide)
  have e : mPart v = (mBeg v || ((rg v 45 45 || rg v 46 46) || (rg v 48 57 || (rg v 183 183 || (rg v 768 879 || rg v 8255 8256))))) := by
    unfold mPart
    simp only [rg_one, or_if, rg_with, Bool.or_assoc, Bool.or_false]
  rw [e, h2, mBeg_rg]
  unfold xNP
  rw [or_if, or_if, xFN_rg, Bool.or_false]
theorem rg_lt (v : Int32) (a b : Nat) (ha : a < 2 ^ 31) (hb : b + 1 < 2 ^ 31) (X : Bool) : (if v < nI a then X else if v < nI (b + 1) then true else X) = (rg v (nI a) (nI b) || X) := by
  rw [rg_dec v a b ha (by omega)]
  simp only [n_lt a ha, n_lt (b + 1) hb]
  by_cases h1 : v.toInt < (a : Int)
  · rw [if_pos h1, decide_eq_false (by omega)]; rfl
  · rw [if_neg h1]
    by_cases h2 : v.toInt < ((b + 1 : Nat) : Int)
    · rw [if_pos h2, decide_eq_true (by omega)]; rfl
    · rw [if_neg h2, decide_eq_false (by omega)]; rfl
theorem mA3_rg (v : Int32) : mA3 v = rg v 65536 1114111 := by
  show (if v < nI 65536 then false else if nI 1114112 ≤ v then false else true) = rg v (nI 65536) (nI 1114111)
  rw [rg_dec v _ _ (by decide) (by decide)]
  simp only [n_lt 65536 (by decide), le_n 1114112 (by decide)]
  by_cases h1 : v.toInt < ((65536 : Nat) : Int)
  · rw [if_pos h1, decide_eq_false (by omega)]
  · rw [if_neg h1]
    by_cases h2 : ((1114112 : Nat) : Int) ≤ v.toInt
    · rw [if_pos h2, decide_eq_false (by omega)]
    · rw [if_neg h2, decide_eq_true (by omega)]
theorem mAll_eq (v : Int32) : mAll v = xIn fAL v 5 := by
  have h2 : (rg v 9 9 || rg v 10 10) = rg v 9 10 := rg_two v 9 (by decide)
  have e2 : mA2 v = (rg v 57344 65533 || rg v 65536 1114111) := by rw [← mA3_rg]; exact rg_lt v 57344 65533 (by decide) (by decide) (mA3 v)
  have e1 : (if v < 32 then mA2 v else if v < 55296 then true else mA2 v) = (rg v 32 55295 || mA2 v) := rg_lt v 32 55295 (by decide) (by decide) (mA2 v)
  have e0 : mAll v = (rg v 9 9 || (rg v 10 10 || (rg v 13 13 || (rg v 32 55295 || (rg v 57344 65533 || rg v 65536 1114111))))) := by
    unfold mAll
    rw [e1, e2]
    simp only [rg_one]
  have e : xIn fAL v 5 = (((((false || rg v 9 10) || rg v 13 13) || rg v 32 55295) || rg v 57344 65533) || rg v 65536 1114111) := rfl
  rw [e0, e, ← h2]
  simp only [Bool.or_assoc, Bool.false_or]
theorem mBlank_eq (v : Int32) : mBlank v = xIn fBL v 3 := by
  have h2 : (rg v 9 9 || rg v 10 10) = rg v 9 10 := rg_two v 9 (by decide)
  have e0 : mBlank v = (rg v 32 32 || (rg v 9 9 || (rg v 13 13 || rg v 10 10))) := by
    unfold mBlank
    simp only [rg_one, Bool.or_false]
  have e : xIn fBL v 3 = (((false || rg v 32 32) || rg v 9 10) || rg v 13 13) := rfl
  rw [e0, e, ← h2]
  cases rg v 32 32 <;> cases rg v 9 9 <;> cases rg v 13 13 <;> cases rg v 10 10 <;> rfl
theorem kind_eq (v : Int32) : xKind v = mKind v := by
  unfold xKind mKind
  rw [mAll_eq, mBlank_eq, mBeg_rg, mPart_eq]
-- which numbers are characters, and how many bytes they need
theorem xWidth_eq (v : Int32) : xWidth v = if mHas v then mSize v else 0 := by
  have f : mHas v = true ↔ (0 ≤ v.toInt ∧ v.toInt < 55296) ∨ (57343 < v.toInt ∧ v.toInt < 1114112) := by
    show (if v < nI 0 then (if v ≤ nI 57343 then false else if nI 1114112 ≤ v then false else true) else if v < nI 55296 then true else (if v ≤ nI 57343 then false else if nI 1114112 ≤ v then false else true)) = true ↔ _
    simp only [n_lt 0 (by decide), n_le 57343 (by decide), le_n 1114112 (by decide), n_lt 55296 (by decide)]
    by_cases a : v.toInt < ((0 : Nat) : Int)
    · rw [if_pos a]
      have b : v.toInt ≤ ((57343 : Nat) : Int) := by omega
      rw [if_pos b]
      constructor
      · intro h; exact absurd h (by decide)
      · intro h; omega
    · rw [if_neg a]
      by_cases b : v.toInt < ((55296 : Nat) : Int)
      · rw [if_pos b]; constructor
        · intro _; omega
        · intro _; rfl
      · rw [if_neg b]
        by_cases c : v.toInt ≤ ((57343 : Nat) : Int)
        · rw [if_pos c]; constructor
          · intro h; exact absurd h (by decide)
          · intro h; omega
        · rw [if_neg c]
          by_cases d : ((1114112 : Nat) : Int) ≤ v.toInt
          · rw [if_pos d]; constructor
            · intro h; exact absurd h (by decide)
            · intro h; omega
          · rw [if_neg d]; constructor
            · intro _; omega
            · intro _; rfl
  have w2 : 0 ≤ v.toInt → xW2 v = mSize v := by
    intro _
    show (if nI 127 < v then (if nI 2047 < v then (if nI 65535 < v then 4 else 3) else 2) else 1) = (if v ≤ nI 65535 then (if v ≤ nI 2047 then (if v ≤ nI 127 then 1 else 2) else 3) else 4)
    simp only [lt_n 127 (by decide), lt_n 2047 (by decide), lt_n 65535 (by decide), n_le 127 (by decide), n_le 2047 (by decide), n_le 65535 (by decide)]
    by_cases a : ((127 : Nat) : Int) < v.toInt
    · rw [if_pos a]
      by_cases b : ((2047 : Nat) : Int) < v.toInt
      · rw [if_pos b]
        by_cases c : ((65535 : Nat) : Int) < v.toInt
        · rw [if_pos c, if_neg (by omega)]
        · rw [if_neg c, if_pos (by omega), if_neg (by omega)]
      · rw [if_neg b, if_pos (by omega), if_pos (by omega), if_neg (by omega)]
    · rw [if_neg a, if_pos (by omega), if_pos (by omega), if_pos (by omega)]
  show (if v < nI 0 then 0 else if nI 1114111 < v then 0 else if v < nI 55296 then xW2 v else if nI 57343 < v then xW2 v else 0) = _
  simp only [n_lt 0 (by decide), lt_n 1114111 (by decide), n_lt 55296 (by decide), lt_n 57343 (by decide)]
  by_cases h : mHas v = true
  · rw [if_pos h]
    have g := f.mp h
    rw [if_neg (by omega), if_neg (by omega)]
    by_cases a : v.toInt < ((55296 : Nat) : Int)
    · rw [if_pos a]; exact w2 (by omega)
    · rw [if_neg a, if_pos (by omega)]; exact w2 (by omega)
  · rw [if_neg h]
    have g : ¬ ((0 ≤ v.toInt ∧ v.toInt < 55296) ∨ (57343 < v.toInt ∧ v.toInt < 1114112)) := fun q => h (f.mpr q)
    by_cases a : v.toInt < ((0 : Nat) : Int)
    · rw [if_pos a]
    · rw [if_neg a]
      by_cases b : ((1114111 : Nat) : Int) < v.toInt
      · rw [if_pos b]
      · rw [if_neg b, if_neg (by omega), if_neg (by omega)]
theorem mHas_nat {v : Int32} (h : mHas v = true) : ∃ c : Nat, c < 1114112 ∧ v = nI c := by
  have h0 : ¬ v < 0 := by
    intro q
    rw [mHas, if_pos q, mH2, if_pos (Int32.le_trans (Int32.le_of_lt q) (by decide))] at h
    exact absurd h (by decide)
  obtain ⟨c, hc, rfl⟩ := nI_of h0
  refine ⟨c, ?_, rfl⟩
  have e : finN c 1 (mSize (nI c)) = some (c, 1) := by rw [finN, if_pos h, if_pos rfl]
  exact (finN_lt hc e).2
