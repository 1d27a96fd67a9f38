theorem wb_tb (n : Nat) : (lN n).toBitVec = BitVec.ofNat 64 n := rfl
theorem wb_inj {a b : Int64} (h : a.toBitVec = b.toBitVec) : a = b := Int64.toBitVec_inj.mp h
theorem wb_tn {n : Nat} (h : n < 2 ^ 64) : (lN n).toBitVec.toNat = n := by rw [wb_tb, BitVec.toNat_ofNat, Nat.mod_eq_of_lt h]
theorem wb_of (x : Int64) : ∃ n, n < 2 ^ 64 ∧ x = lN n := ⟨x.toBitVec.toNat, x.toBitVec.isLt, wb_inj (by rw [wb_tb]; simp)⟩
theorem wb_of32 (x : Int32) : ∃ n, n < 2 ^ 32 ∧ x = nI n := ⟨x.toBitVec.toNat, x.toBitVec.isLt, Int32.toBitVec_inj.mp (by show _ = BitVec.ofNat 32 _; simp)⟩
theorem wb_c : ∀ k, k < 64 → ((nI k).toInt64 &&& 63) = lN k := by decide +kernel
theorem wb_cu : ∀ k, k < 64 → ((nI k).toInt64.toUInt64 &&& Int64.toUInt64 63) = UInt64.ofNat k := by decide +kernel
theorem wb_sm : ∀ k, k < 64 → (BitVec.ofNat 64 k).smod 64 = BitVec.ofNat 64 k := by decide +kernel
theorem wb_pw {a b : Nat} (h : a ≤ b) : 2 ^ b = 2 ^ a * 2 ^ (b - a) := by rw [← Nat.pow_add]; congr 1; omega
theorem wb_lt2 {a b : Nat} (h : a < b) : 2 ^ a < 2 ^ b := Nat.pow_lt_pow_right (by decide) h
theorem wb_mod (n : Nat) : lN n = lN (n % 2 ^ 64) := wb_inj (by rw [wb_tb, wb_tb]; apply BitVec.eq_of_toNat_eq; rw [BitVec.toNat_ofNat, BitVec.toNat_ofNat, Nat.mod_mod])
theorem wb_shr {n k : Nat} (hn : n < 2 ^ 64) (hk : k < 64) : ((lN n).toUInt64 >>> ((nI k).toInt64.toUInt64 &&& Int64.toUInt64 63)).toInt64 = lN (n / 2 ^ k) := by
  rw [wb_cu k hk]
  apply wb_inj
  apply BitVec.eq_of_toNat_eq
  show ((lN n).toUInt64 >>> UInt64.ofNat k).toNat = (BitVec.ofNat 64 _).toNat
  have h1 : (UInt64.ofNat k).toNat = k := by
    show (BitVec.ofNat 64 k).toNat = k
    rw [BitVec.toNat_ofNat, Nat.mod_eq_of_lt (by omega)]
  have h2 : (lN n).toUInt64.toNat = n := wb_tn hn
  rw [UInt64.toNat_shiftRight, h1, h2, Nat.mod_eq_of_lt hk, Nat.shiftRight_eq_div_pow, BitVec.toNat_ofNat, Nat.mod_eq_of_lt (Nat.lt_of_le_of_lt (Nat.div_le_self _ _) hn)]
theorem wb_shl (n : Nat) {k : Nat} (hk : k < 64) : lN n <<< ((nI k).toInt64 &&& 63) = lN (n * 2 ^ k) := by
  rw [wb_c k hk]
  apply wb_inj
  rw [Int64.toBitVec_shiftLeft, wb_tb, wb_tb, wb_tb, wb_sm k hk]
  apply BitVec.eq_of_toNat_eq
  rw [BitVec.shiftLeft_eq', BitVec.toNat_shiftLeft, BitVec.toNat_ofNat, BitVec.toNat_ofNat, BitVec.toNat_ofNat, Nat.mod_eq_of_lt (show k < 2 ^ 64 by omega), Nat.shiftLeft_eq, Nat.mul_mod, Nat.mod_mod, ← Nat.mul_mod]
theorem wb_and {a b : Nat} (ha : a < 2 ^ 64) (hb : b < 2 ^ 64) : lN a &&& lN b = lN (a &&& b) := by
  apply wb_inj
  rw [Int64.toBitVec_and, wb_tb, wb_tb, wb_tb]
  apply BitVec.eq_of_toNat_eq
  rw [BitVec.toNat_and, BitVec.toNat_ofNat, BitVec.toNat_ofNat, BitVec.toNat_ofNat, Nat.mod_eq_of_lt ha, Nat.mod_eq_of_lt hb, Nat.mod_eq_of_lt (Nat.and_lt_two_pow _ hb)]
theorem wb_or {a b : Nat} (ha : a < 2 ^ 64) (hb : b < 2 ^ 64) : lN a ||| lN b = lN (a ||| b) := by
  apply wb_inj
  rw [Int64.toBitVec_or, wb_tb, wb_tb, wb_tb]
  apply BitVec.eq_of_toNat_eq
  rw [BitVec.toNat_or, BitVec.toNat_ofNat, BitVec.toNat_ofNat, BitVec.toNat_ofNat, Nat.mod_eq_of_lt ha, Nat.mod_eq_of_lt hb, Nat.mod_eq_of_lt (Nat.or_lt_two_pow ha hb)]
theorem u_tn {n : Nat} (h : n < 2 ^ 64) : (UInt64.ofNat n).toNat = n := Nat.mod_eq_of_lt h
theorem g_or {k p a b : Nat} (hp : 2 ^ k = p) (ha : a < p) (h : b * p + a < 2 ^ 64) : lN (b * p) ||| lN a = lN (b * p + a) := by
  subst hp
  have h1 : b * 2 ^ k ||| a = b * 2 ^ k + a := by rw [← Nat.shiftLeft_eq, Nat.shiftLeft_add_eq_or_of_lt ha]
  have h3 : UInt64.ofNat (b * 2 ^ k) ||| UInt64.ofNat a = UInt64.ofNat (b * 2 ^ k + a) := UInt64.toNat_inj.mp (by rw [UInt64.toNat_or, u_tn (by omega), u_tn (by omega), u_tn h, h1])
  have h2 := congrArg UInt64.toInt64 h3
  exact h2

/-! Bytes, written and read: both sides alike. -/
theorem sshr_tn (v : Int64) {k : Nat} (hk : k ≤ 56) : (v >>> ((nI k).toInt64 &&& 63)).toBitVec.toNat % 256 = v.toBitVec.toNat / 2 ^ k % 256 := by
  rw [wb_c k (by omega)]
  have e : (v >>> lN k).toBitVec = v.toBitVec.sshiftRight k := by
    rw [Int64.toBitVec_shiftRight, wb_tb, wb_sm k (by omega)]
    show v.toBitVec.sshiftRight (BitVec.ofNat 64 k).toNat = _
    rw [BitVec.toNat_ofNat, Nat.mod_eq_of_lt (by omega)]
  rw [e]
  apply Nat.eq_of_testBit_eq
  intro i
  rw [show (256 : Nat) = 2 ^ 8 from rfl, Nat.testBit_mod_two_pow, Nat.testBit_mod_two_pow, BitVec.testBit_toNat, BitVec.getLsbD_sshiftRight, Nat.testBit_div_two_pow, BitVec.testBit_toNat]
  by_cases h : i < 8
  · have h2 : k + i < 64 := by omega
    simp [h, h2, show ¬ 64 ≤ i by omega]
    rw [Nat.add_comm i k]; exact (BitVec.getLsbD_eq_getElem h2).symm
  · simp [h]
theorem xPb_nI (v : Int64) {m : Nat} (hm : m ≤ 7) : xPb v m = nI (pbN v m) := by
  unfold xPb pbN
  rw [show (8 * nI m : Int32) = nI (8 * m) from pk_mul 8 m, sshr_tn v (by omega)]
  obtain ⟨n, hn, rfl⟩ := wb_of v
  rw [wb_shr hn (by omega), wb_tn hn]
  have e := pk_and (lN (n / 2 ^ (8 * m))).toInt32 (m := 255) 8 (by decide)
  rw [e]
  congr 1
  rw [Int64.toBitVec_toInt32, BitVec.signExtend_eq_setWidth_of_le _ (by decide), BitVec.toNat_setWidth, wb_tn (Nat.lt_of_le_of_lt (Nat.div_le_self _ _) hn)]
  omega
-- a character's bytes
theorem szN_c (v : Nat) : (v ≤ 127 ∧ szN v = 1) ∨ (127 < v ∧ v ≤ 2047 ∧ szN v = 2) ∨ (2047 < v ∧ v ≤ 65535 ∧ szN v = 3) ∨ (65535 < v ∧ szN v = 4) := by
  unfold szN
  by_cases h1 : v ≤ 65535
  · rw [if_pos h1]
    by_cases h2 : v ≤ 2047
    · rw [if_pos h2]
      by_cases h3 : v ≤ 127
      · rw [if_pos h3]; omega
      · rw [if_neg h3]; omega
    · rw [if_neg h2]; omega
  · rw [if_neg h1]; omega
theorem encN_lt {v j : Nat} (hv : v < 1114112) (hj : j < szN v) : encN v j < 256 := by
  unfold encN
  by_cases h : j ≤ 0
  · rw [if_pos h]
    obtain rfl : j = 0 := by omega
    rcases szN_c v with ⟨a, e⟩ | ⟨a, b, e⟩ | ⟨a, b, e⟩ | ⟨a, e⟩ <;> rw [e]
    · rw [if_pos rfl]; omega
    · rw [if_neg (by decide), if_pos rfl]; show 192 + v / 64 < 256; omega
    · rw [if_neg (by decide), if_neg (by decide), if_pos rfl]; show 224 + v / 4096 < 256; omega
    · rw [if_neg (by decide), if_neg (by decide), if_neg (by decide)]; show 240 + v / 262144 < 256; omega
  · rw [if_neg h]
    have := Nat.mod_lt (v / 64 ^ (szN v - 1 - j)) (show 0 < 64 by decide)
    omega
theorem shr6 {v : Nat} (hv : v < 2 ^ 31) (t : Nat) (ht : t ≤ 3) : nI v >>> ((6 * nI t) &&& 31) = nI (v / 64 ^ t) := by
  have e : (6 * nI t : Int32) = nI (6 * t) := pk_mul 6 t
  rw [e]
  rcases (show t = 0 ∨ t = 1 ∨ t = 2 ∨ t = 3 by omega) with rfl | rfl | rfl | rfl
  · exact pk_shrN hv _ 0 (by decide)
  · exact pk_shrN hv _ 6 (by decide)
  · exact pk_shrN hv _ 12 (by decide)
  · exact pk_shrN hv _ 18 (by decide)
theorem xEnc_nI {v j : Nat} (hv : v < 1114112) (hj : j < szN v) : xEnc (nI v) (nI (szN v)) (nI j) = nI (encN v j) := by
  have hs := szN_in v
  have e1 : nI (szN v) - 1 - nI j = nI (szN v - 1 - j) := by
    rw [show nI (szN v) - 1 = nI (szN v - 1) from pk_sub (b := 1) (by omega), pk_sub (by omega)]
  unfold xEnc encN
  rw [e1, shr6 (by omega) _ (by omega)]
  have z0 : (nI j ≤ 0) ↔ j ≤ 0 := nI_leI (b := 0) (by omega) (by decide)
  by_cases h : j ≤ 0
  · rw [if_pos h, if_pos (z0.mpr h)]
    obtain rfl : j = 0 := by omega
    rcases szN_c v with ⟨a, e⟩ | ⟨a, b, e⟩ | ⟨a, b, e⟩ | ⟨a, e⟩ <;> rw [e]
    · rw [if_pos rfl]
      show (0 : Int32) ||| nI (v / 1) = nI v
      rw [Nat.div_one, show (0 : Int32) = nI 0 from rfl, nx_or, Nat.zero_or]
    · rw [if_neg (by decide), if_pos rfl]
      show nI (2 ^ 5 * 6) ||| nI (v / 64) = nI (192 + v / 64)
      rw [or_lo 5 6 _ (by omega)]
    · rw [if_neg (by decide), if_neg (by decide), if_pos rfl]
      show nI (2 ^ 4 * 14) ||| nI (v / 4096) = nI (224 + v / 4096)
      rw [or_lo 4 14 _ (by omega)]
    · rw [if_neg (by decide), if_neg (by decide), if_neg (by decide)]
      show nI (2 ^ 3 * 30) ||| nI (v / 262144) = nI (240 + v / 262144)
      rw [or_lo 3 30 _ (by omega)]
  · rw [if_neg h, if_neg (fun q => h (z0.mp q))]
    have hd : v / 64 ^ (szN v - 1 - j) ≤ v := Nat.div_le_self _ _
    have hm := Nat.mod_lt (v / 64 ^ (szN v - 1 - j)) (show 0 < 64 by decide)
    rw [pk_andN (by omega) (m := 63) 6 (by decide)]
    show nI (2 ^ 6 * 2) ||| nI (v / 64 ^ (szN v - 1 - j) % 64) = _
    rw [or_lo 6 2 _ hm]
-- one character, read
theorem folN : ∀ b, b < 256 → xFol (nI b) = if 128 ≤ b then (if 192 ≤ b then (if 224 ≤ b then (if 240 ≤ b then (if 248 ≤ b then -1 else 3) else 2) else 1) else -1) else 0 := by decide +kernel
theorem contN : ∀ b, b < 256 → ((nI b &&& 192 = 128) ↔ (128 ≤ b ∧ b ≤ 191)) := by decide +kernel
theorem head1 : ∀ b, b < 256 → 192 ≤ b → b < 224 → nI b &&& ((63 : Int32) >>> ((1 : Int32) &&& 31)) = nI (b - 192) := by decide +kernel
theorem head2 : ∀ b, b < 256 → 224 ≤ b → b < 240 → nI b &&& ((63 : Int32) >>> ((2 : Int32) &&& 31)) = nI (b - 224) := by decide +kernel
theorem head3 : ∀ b, b < 256 → 240 ≤ b → b < 248 → nI b &&& ((63 : Int32) >>> ((3 : Int32) &&& 31)) = nI (b - 240) := by decide +kernel
theorem stepN {a b : Nat} (ha : a < 1000000) (hb : 128 ≤ b) (hb2 : b ≤ 191) : (nI a <<< (6 &&& 31)) ||| (nI b &&& 63) = nI (64 * a + b - 128) := by
  rw [pk_shlN (6 &&& 31) 6 (by decide) (by omega), pk_andN (by omega) (m := 63) 6 (by decide), Nat.mul_comm, show (64 : Nat) = 2 ^ 6 from rfl, or_lo 6 a _ (by omega)]
  exact congrArg nI (by omega)
theorem decE (v n : Nat) (m : Int32) (hm : ¬ m = 0) : (if xWidth (nI v) = m then nI v else -1) = seqR (finN v n m) := by
  rw [xWidth_eq]
  unfold finN
  by_cases h : mHas (nI v) = true
  · rw [if_pos h, if_pos h]
    by_cases h2 : mSize (nI v) = m
    · rw [if_pos h2, if_pos h2]; rfl
    · rw [if_neg h2, if_neg h2]; rfl
  · rw [if_neg h, if_neg h, if_neg (fun q => hm q.symm)]; rfl
theorem xDl_0 (tx : Nat → Int32) (st q : Nat) (acc : Int32) : xDl tx st 0 q acc = some acc := rfl
theorem xDecE_some (acc fo m : Int32) (h : fo + 1 = m) : xDecE (some acc) fo = if xWidth acc = m then acc else -1 := by subst h; rfl
theorem xDec_seq {tx : Nat → Int32} {kb : Nat → Nat} {n st : Nat} (hkb : ∀ j, kb j < 256) (ht : ∀ j, j < n → tx j = nI (kb j)) (hst : st < n) (hn : n ≤ 1000) : xDec tx n st = seqR (seqN kb n st) := by
  have b0 := hkb st; have b1 := hkb (st + 1); have b2 := hkb (st + 2); have b3 := hkb (st + 3)
  unfold xDec seqN
  rw [ht st hst, folN _ b0]
  by_cases c1 : 128 ≤ kb st
  · rw [if_pos c1, if_pos c1]
    by_cases c2 : 192 ≤ kb st
    · rw [if_pos c2, if_pos c2]
      by_cases c3 : 224 ≤ kb st
      · rw [if_pos c3, if_pos c3]
        by_cases c4 : 240 ≤ kb st
        · rw [if_pos c4, if_pos c4]
          by_cases c5 : 248 ≤ kb st
          · rw [if_pos c5, if_pos c5, if_pos (by decide)]; rfl
          · rw [if_neg c5, if_neg c5, if_neg (by decide), if_neg (show ¬ (3 : Int32) = 0 by decide), head3 _ b0 c4 (by omega)]
            unfold seq4
            show (if st + 3 < n then xDecE (xDl tx st 3 1 (nI (kb st - 240))) 3 else -1) = _
            by_cases d1 : st + 3 < n
            · rw [if_pos d1, if_pos (by omega)]
              unfold xDl
              rw [ht (st + 1) (by omega)]
              by_cases e1 : kb (st + 1) < 128
              · rw [if_pos e1, if_neg (fun q => by have := (contN _ b1).mp q; omega)]; rfl
              · rw [if_neg e1]
                by_cases f1 : kb (st + 1) ≤ 191
                · rw [if_pos f1, if_pos ((contN _ b1).mpr ⟨by omega, f1⟩), stepN (by omega) (by omega) f1]
                  unfold xDl
                  rw [ht (st + (1 + 1)) (by omega), show st + (1 + 1) = st + 2 by omega]
                  by_cases e2 : kb (st + 2) < 128
                  · rw [if_pos e2, if_neg (fun q => by have := (contN _ b2).mp q; omega)]; rfl
                  · rw [if_neg e2]
                    by_cases f2 : kb (st + 2) ≤ 191
                    · rw [if_pos f2, if_pos ((contN _ b2).mpr ⟨by omega, f2⟩), stepN (by omega) (by omega) f2]
                      unfold xDl
                      rw [ht (st + (1 + 1 + 1)) (by omega), show st + (1 + 1 + 1) = st + 3 by omega]
                      by_cases e3 : kb (st + 3) < 128
                      · rw [if_pos e3, if_neg (fun q => by have := (contN _ b3).mp q; omega)]; rfl
                      · rw [if_neg e3]
                        by_cases f3 : kb (st + 3) ≤ 191
                        · rw [if_pos f3, if_pos ((contN _ b3).mpr ⟨by omega, f3⟩), stepN (by omega) (by omega) f3]
                          rw [xDl_0, xDecE_some _ 3 4 (by decide)]; exact decE _ 4 4 (by decide)
                        · rw [if_neg f3, if_neg (fun q => by have := (contN _ b3).mp q; omega)]; rfl
                    · rw [if_neg f2, if_neg (fun q => by have := (contN _ b2).mp q; omega)]; rfl
                · rw [if_neg f1, if_neg (fun q => by have := (contN _ b1).mp q; omega)]; rfl
            · rw [if_neg d1, if_neg (by omega)]; rfl
        · rw [if_neg c4, if_neg c4, if_neg (by decide), if_neg (show ¬ (2 : Int32) = 0 by decide), head2 _ b0 c3 (by omega)]
          unfold seq3
          show (if st + 2 < n then xDecE (xDl tx st 2 1 (nI (kb st - 224))) 2 else -1) = _
          by_cases d1 : st + 2 < n
          · rw [if_pos d1, if_pos (by omega)]
            unfold xDl
            rw [ht (st + 1) (by omega)]
            by_cases e1 : kb (st + 1) < 128
            · rw [if_pos e1, if_neg (fun q => by have := (contN _ b1).mp q; omega)]; rfl
            · rw [if_neg e1]
              by_cases f1 : kb (st + 1) ≤ 191
              · rw [if_pos f1, if_pos ((contN _ b1).mpr ⟨by omega, f1⟩), stepN (by omega) (by omega) f1]
                unfold xDl
                rw [ht (st + (1 + 1)) (by omega), show st + (1 + 1) = st + 2 by omega]
                by_cases e2 : kb (st + 2) < 128
                · rw [if_pos e2, if_neg (fun q => by have := (contN _ b2).mp q; omega)]; rfl
                · rw [if_neg e2]
                  by_cases f2 : kb (st + 2) ≤ 191
                  · rw [if_pos f2, if_pos ((contN _ b2).mpr ⟨by omega, f2⟩), stepN (by omega) (by omega) f2]
                    rw [xDl_0, xDecE_some _ 2 3 (by decide)]; exact decE _ 3 3 (by decide)
                  · rw [if_neg f2, if_neg (fun q => by have := (contN _ b2).mp q; omega)]; rfl
              · rw [if_neg f1, if_neg (fun q => by have := (contN _ b1).mp q; omega)]; rfl
          · rw [if_neg d1, if_neg (by omega)]; rfl
      · rw [if_neg c3, if_neg c3, if_neg (by decide), if_neg (show ¬ (1 : Int32) = 0 by decide), head1 _ b0 c2 (by omega)]
        unfold seq2
        show (if st + 1 < n then xDecE (xDl tx st 1 1 (nI (kb st - 192))) 1 else -1) = _
        by_cases d1 : st + 1 < n
        · rw [if_pos d1, if_pos (by omega)]
          unfold xDl
          rw [ht (st + 1) (by omega)]
          by_cases e1 : kb (st + 1) < 128
          · rw [if_pos e1, if_neg (fun q => by have := (contN _ b1).mp q; omega)]; rfl
          · rw [if_neg e1]
            by_cases f1 : kb (st + 1) ≤ 191
            · rw [if_pos f1, if_pos ((contN _ b1).mpr ⟨by omega, f1⟩), stepN (by omega) (by omega) f1]
              rw [xDl_0, xDecE_some _ 1 2 (by decide)]; exact decE _ 2 2 (by decide)
            · rw [if_neg f1, if_neg (fun q => by have := (contN _ b1).mp q; omega)]; rfl
        · rw [if_neg d1, if_neg (by omega)]; rfl
    · rw [if_neg c2, if_neg c2, if_pos (by decide)]; rfl
  · rw [if_neg c1, if_neg c1, if_neg (by decide), if_pos rfl]
    unfold seq1
    show (if st + 0 < n then xDecE (xDl tx st 0 1 (nI (kb st))) 0 else -1) = _
    rw [if_pos (by omega), if_pos (by omega)]
    rw [xDl_0, xDecE_some _ 0 1 (by decide)]; exact decE _ 1 1 (by decide)
