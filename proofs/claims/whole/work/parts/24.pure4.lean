/-! The answers of both sides, case by case. -/
theorem ck_le {n : Nat} (hn : n ≤ 1000) {q : Nat} (hq : q ≤ 1000) : (nI n + nI q ≤ 1000) ↔ n + q ≤ 1000 := by
  rw [nI_add]; exact nI_leI (b := 1000) (by omega) (by decide)
theorem put_ok_eq {n : Nat} (hn : n ≤ 1000) (q : Int32) : mPutOk n q = xPutOk n q := by
  unfold mPutOk xPutOk
  by_cases h1 : q < 1
  · rw [if_pos h1, if_pos h1]
  · rw [if_neg h1, if_neg h1]
    by_cases h2 : 8 < q
    · rw [if_pos h2, if_pos h2]
    · rw [if_neg h2, if_neg h2]
      have h0 : ¬ q < 0 := fun z => h1 (Int32.lt_trans z (by decide))
      obtain ⟨c, hc, rfl⟩ := nI_of h0
      have h8 : c ≤ 8 := Nat.le_of_not_lt (fun z => h2 ((nI_ltI (a := 8) (by decide) hc).mpr z))
      by_cases h3 : n + c ≤ 1000
      · rw [if_pos ((ck_le hn (by omega)).mpr h3), xRoom_ok h3]
      · rw [if_neg (fun z => h3 ((ck_le hn (by omega)).mp z)), xRoom_no hn (by omega) (by omega)]
theorem put_ok_nat {n : Nat} {q : Int32} (hn : n ≤ 1000) (h : xPutOk n q = true) : ∃ c : Nat, q = nI c ∧ 1 ≤ c ∧ c ≤ 8 ∧ n + c ≤ 1000 := by
  unfold xPutOk at h
  by_cases h1 : q < 1
  · rw [if_pos h1] at h; exact absurd h (by decide)
  · rw [if_neg h1] at h
    by_cases h2 : 8 < q
    · rw [if_pos h2] at h; exact absurd h (by decide)
    · rw [if_neg h2] at h
      have h0 : ¬ q < 0 := fun z => h1 (Int32.lt_trans z (by decide))
      obtain ⟨c, hc, rfl⟩ := nI_of h0
      have h8 : c ≤ 8 := Nat.le_of_not_lt (fun z => h2 ((nI_ltI (a := 8) (by decide) hc).mpr z))
      have h9 : 1 ≤ c := Nat.le_of_not_lt (fun z => h1 ((nI_ltI (b := 1) hc (by decide)).mpr z))
      refine ⟨c, rfl, h9, h8, ?_⟩
      rcases Nat.lt_or_ge 1000 (n + c) with z | z
      · rw [xRoom_no hn (by omega) z] at h; exact absurd h (by decide)
      · exact z
theorem put_rel {tx : Nat → Int32} {tb : Nat → Nat} {n : Nat} {g : Nat → Int32} {g' : Nat → Nat} (h : ∀ j, j < n → tx j = nI (tb j)) : ∀ (i : Nat), (∀ z, z < i → g z = nI (g' z)) → ∀ j, j < n + i → putTx tx n g i j = nI (putN tb n g' i j) := by
  intro i
  induction i with
  | zero => intro _ j hj; exact h j hj
  | succ i ih =>
    intro hg j hj
    rw [putTx, putN]
    by_cases e : j = n + i
    · rw [e, pk_us, updN_s]; exact hg i (by omega)
    · rw [pk_un e, updN_n e]; exact ih (fun z hz => hg z (by omega)) j (by omega)
theorem put_lt {tb : Nat → Nat} {n : Nat} {g' : Nat → Nat} (h : ∀ j, tb j < 256) : ∀ (i : Nat), (∀ z, z < i → g' z < 256) → ∀ j, putN tb n g' i j < 256 := by
  intro i
  induction i with
  | zero => intro _ j; exact h j
  | succ i ih =>
    intro hg j
    rw [putN]
    by_cases e : j = n + i
    · rw [e, updN_s]; exact hg i (by omega)
    · rw [updN_n e]; exact ih (fun z hz => hg z (by omega)) j
theorem ch_ok_eq {n : Nat} (hn : n ≤ 1000) (v : Int32) : mChOk n v = xChOk n v := by
  unfold mChOk xChOk
  rw [xWidth_eq]
  by_cases h : mHas v = true
  · obtain ⟨c, hc, rfl⟩ := mHas_nat h
    have hs := szN_in c
    rw [if_pos h, if_pos h, mSize_nI (by omega), if_neg (nI_ne0 (by omega) (by omega))]
    by_cases h3 : n + szN c ≤ 1000
    · rw [if_pos ((ck_le hn (by omega)).mpr h3), xRoom_ok h3]
    · rw [if_neg (fun z => h3 ((ck_le hn (by omega)).mp z)), xRoom_no hn (by omega) (by omega)]
  · rw [if_neg h, if_neg h, if_pos rfl]
theorem ch_ok_nat {n : Nat} {v : Int32} (hn : n ≤ 1000) (h : xChOk n v = true) : ∃ c : Nat, v = nI c ∧ c < 1114112 ∧ mHas (nI c) = true ∧ n + szN c ≤ 1000 := by
  rw [← ch_ok_eq hn] at h
  unfold mChOk at h
  by_cases h1 : mHas v = true
  · obtain ⟨c, hc, rfl⟩ := mHas_nat h1
    have hs := szN_in c
    rw [if_pos h1, mSize_nI (by omega)] at h
    refine ⟨c, rfl, hc, h1, ?_⟩
    by_cases h3 : n + szN c ≤ 1000
    · exact h3
    · rw [if_neg (fun z => h3 ((ck_le hn (by omega)).mp z))] at h; exact absurd h (by decide)
  · rw [if_neg h1] at h; exact absurd h (by decide)
theorem width_nat {c : Nat} (hc : c < 1114112) (h : mHas (nI c) = true) : xWidth (nI c) = nI (szN c) := by rw [xWidth_eq, if_pos h, mSize_nI (by omega)]
-- what stands where
theorem has_no0 (i : Int32) : xHas 0 i = false := by
  unfold xHas
  by_cases h : i < 0
  · rw [if_pos h]
  · rw [if_neg h, if_pos (show nI 0 ≤ i from Int32.not_lt.mp h)]
theorem at_case {ch : Nat → Int32} {mf : Nat → Nat} {k : Nat} {rd : Bool} (hk : k ≤ 1000) (hv : ∀ j, j < k → ch j = nI (mf j)) (hk0 : rd = false → k = 0) (i : Int32) : AtCase rd k mf i (xAt ch k i) := by
  cases rd with
  | false =>
    obtain rfl := hk0 rfl
    refine Or.inl ⟨Or.inl rfl, ?_⟩
    rw [xAt, has_no0]; rfl
  | true =>
    rcases pk_ix i (n := k) (by omega) with q | q | ⟨j, hj, rfl⟩
    · refine Or.inl ⟨Or.inr q, ?_⟩
      rw [xAt, xHas, if_pos q]; rfl
    · by_cases h0 : i < 0
      · refine Or.inl ⟨Or.inr h0, ?_⟩
        rw [xAt, xHas, if_pos h0]; rfl
      · refine Or.inr (Or.inr ⟨rfl, Int32.not_lt.mp h0, q, ?_⟩)
        rw [xAt, xHas, if_neg h0, if_pos q]; rfl
    · refine Or.inr (Or.inl ⟨rfl, j, hj, rfl, ?_⟩)
      rw [xAt, xHas, if_neg (nI_pos (by omega)), if_neg (nI_ge hj (by omega)), if_pos rfl, nI_clamp (by omega)]
      exact hv j hj
theorem pl_case {pl : Nat → Int32} {bf : Nat → Nat} {k ln : Nat} {rl : Int32} {rd : Bool} (hk : k ≤ 1000) (hv : ∀ j, j < k → pl j = nI (bf j)) (hpk : rd = true → rl = nI ln) (hk0 : rd = false → k = 0) (hr0 : rd = false → rl = -1) (i : Int32) : PlCase rd k bf ln i (xPlc rl pl k i) := by
  cases rd with
  | false =>
    obtain rfl := hk0 rfl
    obtain rfl := hr0 rfl
    refine Or.inl ⟨rfl, ?_⟩
    rw [xPlc, has_no0]
    by_cases h : i = nI 0
    · rw [if_neg (by decide), if_pos h]
    · rw [if_neg (by decide), if_neg h]
  | true =>
    by_cases h0 : i < 0
    · refine Or.inr (Or.inl ⟨rfl, h0, ?_⟩)
      have h1 : ¬ i = nI k := fun q => nI_pos (show k < 2 ^ 31 by omega) (by rw [← q]; exact h0)
      rw [xPlc, xHas, if_pos h0, if_neg (by decide), if_neg h1]
    · obtain ⟨j, hj, rfl⟩ := nI_of h0
      rcases Nat.lt_trichotomy j k with h | h | h
      · refine Or.inr (Or.inr (Or.inl ⟨rfl, j, h, rfl, ?_⟩))
        rw [xPlc, xHas, if_neg h0, if_neg (nI_ge h (by omega)), if_pos rfl, nI_clamp (by omega)]
        exact hv j h
      · subst h
        refine Or.inr (Or.inr (Or.inr (Or.inl ⟨rfl, rfl, ?_⟩)))
        rw [xPlc, xHas, if_neg h0, if_pos (Int32.le_refl _), if_neg (by decide), if_pos rfl]
        exact hpk rfl
      · refine Or.inr (Or.inr (Or.inr (Or.inr ⟨rfl, j, h, hj, rfl, ?_⟩)))
        have h1 : ¬ nI j = nI k := fun q => absurd ((nI_eq (by omega) (by omega)).mp q) (by omega)
        rw [xPlc, xHas, if_neg h0, if_pos (nI_le (by omega) (by omega)), if_neg (by decide), if_neg h1]
-- runs
theorem runEnd_ge (P : Nat → Bool) : ∀ (d z : Nat), z ≤ runEnd P d z := by
  intro d
  induction d with
  | zero => intro z; exact Nat.le_refl _
  | succ d ih =>
    intro z
    rw [runEnd]
    by_cases h : P z = true
    · rw [if_pos h]; exact Nat.le_trans (Nat.le_succ z) (ih (z + 1))
    · rw [if_neg h]; exact Nat.le_refl _
theorem mRunL_e {kd : Int32} {mf : Nat → Nat} {k d z n : Nat} (h : z + (d + 1) = k) : mRunL kd mf k (d + 1) z n = if mFit kd n (nI (mf z)) then mRunL kd mf k d (z + 1) (n + 1) else n := by
  rw [mRunL_s]
  by_cases c : z + 1 < k
  · rw [if_pos c]
  · rw [if_neg c]
    obtain rfl : d = 0 := by omega
    rfl
theorem runL {kd : Int32} {mf : Nat → Nat} {ch : Nat → Int32} {k : Nat} (hv : ∀ j, j < k → ch j = nI (mf j)) : ∀ (d z n : Nat), z + d = k → (∀ m v, n ≤ m → mFit kd m v = xBel kd v) → mRunL kd mf k d z n = n + (runEnd (fun y => xBel kd (ch y)) d z - z) := by
  intro d
  induction d with
  | zero => intro z n _ _; rw [mRunL, runEnd]; omega
  | succ d ih =>
    intro z n hz hf
    rw [mRunL_e hz, runEnd, hf n _ (Nat.le_refl _), ← hv z (by omega)]
    by_cases h : xBel kd (ch z) = true
    · rw [if_pos h, if_pos h, ih (z + 1) (n + 1) (by omega) (fun m v hm => hf m v (by omega))]
      have := runEnd_ge (fun y => xBel kd (ch y)) d (z + 1)
      omega
    · rw [if_neg h, if_neg h]; omega
theorem fit_0 (m : Nat) (v : Int32) (h : 1 ≤ m) : mFit 0 m v = xBel 0 v := by rw [mFit, if_pos rfl, if_neg (by omega), xBel, if_pos rfl, mPart_eq]
theorem fit_1 (m : Nat) (v : Int32) : mFit 1 m v = xBel 1 v := by rw [mFit, if_neg (by decide), if_pos rfl, xBel, if_neg (by decide), if_pos rfl, mPart_eq]
theorem fit_2 (m : Nat) (v : Int32) : mFit 2 m v = xBel 2 v := by rw [mFit, if_neg (by decide), if_neg (by decide), xBel, if_neg (by decide), if_neg (by decide), if_pos rfl, mBlank_eq]
theorem bel_no {kd : Int32} (h0 : ¬ kd = 0) (h1 : ¬ kd = 1) (h2 : ¬ kd = 2) (v : Int32) : xBel kd v = false := by rw [xBel, if_neg h0, if_neg h1, if_neg h2]
theorem run_no {kd : Int32} (h0 : ¬ kd = 0) (h1 : ¬ kd = 1) (h2 : ¬ kd = 2) (ch : Nat → Int32) (k : Nat) (i : Int32) : xRun ch k kd i = 0 := by
  unfold xRun
  rw [if_neg h0]
  by_cases h : xHas k i = true
  · rw [if_pos h]
    have e : ∀ d z, runEnd (fun y => xBel kd (ch y)) d z = z := by
      intro d z
      cases d with
      | zero => rfl
      | succ d => rw [runEnd, bel_no h0 h1 h2]; rfl
    rw [e, Nat.sub_self]; rfl
  · rw [if_neg h]
theorem run_off {ch : Nat → Int32} {k : Nat} {kd i : Int32} (h : xHas k i = false) : xRun ch k kd i = 0 := by rw [xRun, h]; rfl
theorem run_case {ch : Nat → Int32} {mf : Nat → Nat} {k : Nat} {rd : Bool} (hk : k ≤ 1000) (hv : ∀ j, j < k → ch j = nI (mf j)) (hk0 : rd = false → k = 0) (kd i : Int32) : RunCase kd rd k mf i (xRun ch k kd i) := by
  by_cases c1 : kd < 0
  · exact Or.inl ⟨c1, run_no (fun z => absurd c1 (by rw [z]; decide)) (fun z => absurd c1 (by rw [z]; decide)) (fun z => absurd c1 (by rw [z]; decide)) ch k i⟩
  · by_cases c2 : 2 < kd
    · exact Or.inr (Or.inl ⟨c1, c2, run_no (fun z => absurd c2 (by rw [z]; decide)) (fun z => absurd c2 (by rw [z]; decide)) (fun z => absurd c2 (by rw [z]; decide)) ch k i⟩)
    · cases rd with
      | false =>
        obtain rfl := hk0 rfl
        exact Or.inr (Or.inr (Or.inl ⟨c1, c2, Or.inl rfl, run_off (has_no0 i)⟩))
      | true =>
        rcases pk_ix i (n := k) (by omega) with q | q | ⟨j, hj, rfl⟩
        · exact Or.inr (Or.inr (Or.inl ⟨c1, c2, Or.inr q, run_off (by rw [xHas, if_pos q])⟩))
        · by_cases h0 : i < 0
          · exact Or.inr (Or.inr (Or.inl ⟨c1, c2, Or.inr h0, run_off (by rw [xHas, if_pos h0])⟩))
          · exact Or.inr (Or.inr (Or.inr (Or.inl ⟨c1, c2, rfl, Int32.not_lt.mp h0, q, run_off (by rw [xHas, if_neg h0, if_pos q])⟩)))
        · refine Or.inr (Or.inr (Or.inr (Or.inr ⟨c1, c2, rfl, j, hj, rfl, ?_⟩)))
          obtain ⟨kc, hkc, rfl⟩ := nI_of c1
          have hk2 : kc ≤ 2 := Nat.le_of_not_lt (fun z => c2 ((nI_ltI (a := 2) (by decide) hkc).mpr z))
          have hh : xHas k (nI j) = true := by rw [xHas, if_neg (nI_pos (by omega)), if_neg (nI_ge hj (by omega))]
          unfold xRun
          rw [if_pos hh, nI_clamp (by omega)]
          rcases (show kc = 0 ∨ kc = 1 ∨ kc = 2 by omega) with rfl | rfl | rfl
          · rw [if_pos (show nI 0 = 0 from rfl), show nI 0 = (0 : Int32) from rfl]
            obtain ⟨d, hd⟩ : ∃ d, k - j = d + 1 := ⟨k - j - 1, by omega⟩
            rw [hd, mRunL_e (by omega)]
            have hb : mFit 0 0 (nI (mf j)) = xIn fNB (ch j) 16 := by rw [mFit, if_pos rfl, if_pos rfl, mBeg_rg, hv j hj]
            rw [hb]
            by_cases z : xIn fNB (ch j) 16 = true
            · rw [if_pos z, if_pos z, runL hv d (j + 1) 1 (by omega) (fun m v hm => fit_0 m v hm), runEnd]
              have hp : xBel 0 (ch j) = true := by rw [xBel, if_pos rfl, xNP, if_pos z]
              rw [if_pos hp]
              have := runEnd_ge (fun y => xBel 0 (ch y)) d (j + 1)
              exact congrArg nI (by omega)
            · rw [if_neg z, if_neg z]; rfl
          · rw [if_neg (show ¬ nI 1 = 0 by decide), show nI 1 = (1 : Int32) from rfl, runL hv (k - j) j 0 (by omega) (fun m v _ => fit_1 m v), Nat.zero_add]
          · rw [if_neg (show ¬ nI 2 = 0 by decide), show nI 2 = (2 : Int32) from rfl, runL hv (k - j) j 0 (by omega) (fun m v _ => fit_2 m v), Nat.zero_add]
-- comparisons
theorem cmp_congr {f g f' g' : Nat → Int32} : ∀ (d z : Nat), (∀ y, z ≤ y → y < z + d → f y = f' y ∧ g y = g' y) → cmpAt f g d z = cmpAt f' g' d z := by
  intro d
  induction d with
  | zero => intro z _; rfl
  | succ d ih =>
    intro z h
    obtain ⟨h1, h2⟩ := h z (Nat.le_refl _) (by omega)
    rw [cmpAt, cmpAt, h1, h2, ih (z + 1) (fun y hy hy2 => h y (by omega) (by omega))]
theorem str_no {rl : Int32} (hr : ¬ rl = -1) {k : Nat} {a m : Nat} (hk : k ≤ 1000) (ha : a < 2 ^ 31) (hm : m < 2 ^ 31) (h : k < a + m) : xStr rl k (nI a) (nI m) = false := by
  have c : nI k - nI m < nI a := by rw [Int32.lt_iff_toInt_lt, sub_toInt (by omega) hm, nI_toInt ha]; omega
  rw [xStr, if_neg hr, if_neg (nI_pos hm), if_neg (nI_pos ha), if_pos c]
theorem str_yes {rl : Int32} (hr : ¬ rl = -1) {k : Nat} {a m : Nat} (hk : k ≤ 1000) (h : a + m ≤ k) : xStr rl k (nI a) (nI m) = true := by
  have c : ¬ nI k - nI m < nI a := by rw [Int32.lt_iff_toInt_lt, sub_toInt (by omega) (by omega), nI_toInt (by omega)]; omega
  rw [xStr, if_neg hr, if_neg (nI_pos (by omega)), if_neg (nI_pos (by omega)), if_neg c]
theorem str_neg {rl : Int32} (hr : ¬ rl = -1) {k : Nat} {i q : Int32} (h : q < 0 ∨ i < 0) : xStr rl k i q = false := by
  rw [xStr, if_neg hr]
  by_cases c : q < 0
  · rw [if_pos c]
  · rw [if_neg c]
    rcases h with h | h
    · exact absurd h c
    · rw [if_pos h]
theorem cmp_case {ch : Nat → Int32} {mf : Nat → Nat} {k ln : Nat} {rl : Int32} {rd : Bool} (hk : k ≤ 1000) (hv : ∀ j, j < k → ch j = nI (mf j)) (hln : ln ≤ 1000) (hpk : rd = true → rl = nI ln) (hr0 : rd = false → rl = -1) (i j q : Int32) : CmpCase rd k mf i j q (xCmp ch rl k i j q) := by
  cases rd with
  | false =>
    obtain rfl := hr0 rfl
    exact Or.inl ⟨rfl, by rw [xCmp, show xStr (-1) k i q = false from if_pos rfl]; rfl⟩
  | true =>
    have hr : ¬ rl = -1 := by
      rw [hpk rfl]
      exact fun e => absurd (show nI ln < 0 by rw [e]; decide) (nI_pos (by omega))
    by_cases c1 : q < 0
    · exact Or.inr (Or.inl ⟨rfl, Or.inl c1, by rw [xCmp, str_neg hr (Or.inl c1)]; rfl⟩)
    · by_cases c2 : i < 0
      · exact Or.inr (Or.inl ⟨rfl, Or.inr (Or.inl c2), by rw [xCmp, str_neg hr (Or.inr c2)]; rfl⟩)
      · by_cases c3 : j < 0
        · refine Or.inr (Or.inl ⟨rfl, Or.inr (Or.inr c3), ?_⟩)
          unfold xCmp
          by_cases z : xStr rl k i q = true
          · rw [if_pos z, str_neg hr (Or.inr c3)]; rfl
          · rw [if_neg z]
        · obtain ⟨a, ha, rfl⟩ := nI_of c2
          obtain ⟨b, hb, rfl⟩ := nI_of c3
          obtain ⟨m, hm, rfl⟩ := nI_of c1
          refine Or.inr (Or.inr ⟨rfl, a, b, m, ha, hb, hm, rfl, rfl, rfl, ?_⟩)
          unfold xCmp
          by_cases z1 : k < a + m
          · rw [if_pos z1, str_no hr hk ha hm z1]; rfl
          · rw [if_neg z1, str_yes hr hk (by omega), if_pos rfl]
            by_cases z2 : k < b + m
            · rw [if_pos z2, str_no hr hk hb hm z2]; rfl
            · rw [if_neg z2, str_yes hr hk (by omega), if_pos rfl, nI_clamp ha, nI_clamp hb, nI_clamp hm]
              exact cmp_congr m 0 (fun y _ hy => ⟨hv (a + y) (by omega), hv (b + y) (by omega)⟩)
-- a character's bytes in one number
def mByN (c : Nat) : Nat → Nat
  | 0 => szN c
  | j + 1 => mByN c j * 256 + (if j < szN c then encN c j else 0)
theorem mBy_lN {c : Nat} (hc : c < 1114112) : ∀ j, mBy c j = lN (mByN c j) := by
  have hs := szN_in c
  intro j
  induction j with
  | zero => exact nI_l (by omega)
  | succ j ih =>
    rw [mBy, mByN, ih]
    have e : (if j < szN c then (nI (encN c j)).toInt64 else 0) = lN (if j < szN c then encN c j else 0) := by
      by_cases h : j < szN c
      · rw [if_pos h, if_pos h]; exact nI_l (by have := encN_lt hc h; omega)
      · rw [if_neg h, if_neg h]; rfl
    rw [e, show (256 : Int64) = lN 256 from rfl, lN_mul, lN_add]
theorem mByN_lt {c : Nat} (hc : c < 1114112) : ∀ j, mByN c j < 5 * 256 ^ j := by
  intro j
  induction j with
  | zero => have := szN_in c; show szN c < 5; omega
  | succ j ih =>
    rw [mByN, Nat.pow_succ]
    have e : (if j < szN c then encN c j else 0) < 256 := by
      by_cases h : j < szN c
      · rw [if_pos h]; exact encN_lt hc h
      · rw [if_neg h]; decide
    omega
theorem xPk_lN {c : Nat} (hc : c < 1114112) : ∀ j, j ≤ szN c → xPk (nI c) (nI (szN c)) j = lN (mByN c j * 2 ^ (56 - 8 * j)) := by
  have hs := szN_in c
  intro j
  induction j with
  | zero =>
    intro _
    show (nI (szN c)).toInt64 <<< ((nI 56).toInt64 &&& 63) = _
    rw [nI_l (by omega), wb_shl _ (by decide)]; rfl
  | succ j ih =>
    intro hj
    rw [xPk, ih (by omega), xEnc_nI hc (by omega)]
    have he := encN_lt hc (show j < szN c by omega)
    have hb := mByN_lt hc j
    rw [nI_l (show encN c j < 2 ^ 31 by omega), show (48 - 8 * nI j : Int32) = nI (48 - 8 * j) from by rw [show (8 * nI j : Int32) = nI (8 * j) from pk_mul 8 j]; exact pk_sub (a := 48) (by omega), wb_shl _ (by omega)]
    rw [mByN, if_pos (show j < szN c by omega)]
    rcases (show j = 0 ∨ j = 1 ∨ j = 2 ∨ j = 3 by omega) with rfl | rfl | rfl | rfl
    · show lN (mByN c 0 * 2 ^ 56) ||| lN (encN c 0 * 2 ^ 48) = lN ((mByN c 0 * 256 + encN c 0) * 2 ^ 48)
      have hb2 : mByN c 0 < 5 := hb
      rw [g_or (k := 56) rfl (by omega) (by omega)]
      exact congrArg lN (by omega)
    · show lN (mByN c 1 * 2 ^ 48) ||| lN (encN c 1 * 2 ^ 40) = lN ((mByN c 1 * 256 + encN c 1) * 2 ^ 40)
      have hb2 : mByN c 1 < 5 * 256 := hb
      rw [g_or (k := 48) rfl (by omega) (by omega)]
      exact congrArg lN (by omega)
    · show lN (mByN c 2 * 2 ^ 40) ||| lN (encN c 2 * 2 ^ 32) = lN ((mByN c 2 * 256 + encN c 2) * 2 ^ 32)
      have hb2 : mByN c 2 < 5 * 65536 := hb
      rw [g_or (k := 40) rfl (by omega) (by omega)]
      exact congrArg lN (by omega)
    · show lN (mByN c 3 * 2 ^ 32) ||| lN (encN c 3 * 2 ^ 24) = lN ((mByN c 3 * 256 + encN c 3) * 2 ^ 24)
      have hb2 : mByN c 3 < 5 * 16777216 := hb
      rw [g_or (k := 32) rfl (by omega) (by omega)]
      exact congrArg lN (by omega)
theorem mByN_0 {c j : Nat} (h : szN c ≤ j) : mByN c (j + 1) = mByN c j * 256 := by rw [mByN, if_neg (by omega), Nat.add_zero]
theorem bytes_yes {c : Nat} (hc : c < 1114112) (h : mHas (nI c) = true) : xBytes (nI c) = mBy c 7 := by
  have hs := szN_in c
  rw [xBytes, width_nat hc h, nI_clamp (by omega), xPk_lN hc _ (Nat.le_refl _), mBy_lN hc]
  rcases (show szN c = 1 ∨ szN c = 2 ∨ szN c = 3 ∨ szN c = 4 by omega) with e | e | e | e
  · rw [mByN_0 (j := 6) (by omega), mByN_0 (j := 5) (by omega), mByN_0 (j := 4) (by omega), mByN_0 (j := 3) (by omega), mByN_0 (j := 2) (by omega), mByN_0 (j := 1) (by omega), e]
    exact congrArg lN (by omega)
  · rw [mByN_0 (j := 6) (by omega), mByN_0 (j := 5) (by omega), mByN_0 (j := 4) (by omega), mByN_0 (j := 3) (by omega), mByN_0 (j := 2) (by omega), e]
    exact congrArg lN (by omega)
  · rw [mByN_0 (j := 6) (by omega), mByN_0 (j := 5) (by omega), mByN_0 (j := 4) (by omega), mByN_0 (j := 3) (by omega), e]
    exact congrArg lN (by omega)
  · rw [mByN_0 (j := 6) (by omega), mByN_0 (j := 5) (by omega), mByN_0 (j := 4) (by omega), e]
    exact congrArg lN (by omega)
theorem bytes_no {v : Int32} (h : mHas v = false) : xBytes v = 0 := by
  have e : xWidth v = 0 := by rw [xWidth_eq, h]; rfl
  rw [xBytes, e]
  show (0 : Int32).toInt64 <<< ((56 : Int32).toInt64 &&& 63) = 0
  decide
