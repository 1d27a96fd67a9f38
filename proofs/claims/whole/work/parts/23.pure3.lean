/-! A text, read: both sides alike. -/
theorem finN_w {v n : Nat} {m : Int32} {q : Nat × Nat} (h : finN v n m = some q) : xWidth (nI v) = m := by
  obtain ⟨h1, h⟩ := ite_n h
  obtain ⟨h2, h⟩ := ite_n h
  rw [xWidth_eq, if_pos h1]; exact h2
theorem sz_of {v w : Nat} (hv : v < 1114112) (hw : 1 ≤ w) (hw4 : w ≤ 4) (h : xWidth (nI v) = nI w) : szN v = w := by
  rw [xWidth_eq] at h
  have hs := szN_in v
  by_cases c : mHas (nI v) = true
  · rw [if_pos c, mSize_nI (by omega)] at h
    exact (nI_eq (by omega) (by omega)).mp h
  · rw [if_neg c] at h
    have := (nI_eq (a := 0) (b := w) (by omega) (by omega)).mp h
    omega
/-- what one character's bytes are -/
def SeqAs (kb : Nat → Nat) (st v w : Nat) : Prop :=
  (w = 1 ∧ v = kb st ∧ kb st < 128) ∨ (w = 2 ∧ 127 < v ∧ 128 ≤ kb (st + 1)) ∨ (w = 3 ∧ 2047 < v ∧ 224 ≤ kb st ∧ kb st < 240 ∧ 128 ≤ kb (st + 1) ∧ kb (st + 1) ≤ 191 ∧ 128 ≤ kb (st + 2) ∧ kb (st + 2) ≤ 191 ∧ v = 64 * (64 * (kb st - 224) + kb (st + 1) - 128) + kb (st + 2) - 128) ∨ (w = 4 ∧ 65535 < v ∧ 128 ≤ kb (st + 3))
theorem seqN_inv {kb : Nat → Nat} {ln st v w : Nat} (hkb : ∀ j, kb j < 256) (h : seqN kb ln st = some (v, w)) : xWidth (nI v) = nI w ∧ SeqAs kb st v w := by
  have a0 := hkb st; have a1 := hkb (st + 1); have a2 := hkb (st + 2); have a3 := hkb (st + 3)
  obtain ⟨hv, hw1, hw4, -⟩ := seqN_lt hkb h
  unfold seqN at h
  by_cases c1 : 128 ≤ kb st
  · rw [if_pos c1] at h
    obtain ⟨c2, h⟩ := ite_n h
    by_cases c3 : 224 ≤ kb st
    · rw [if_pos c3] at h
      by_cases c4 : 240 ≤ kb st
      · rw [if_pos c4] at h
        obtain ⟨c5, h⟩ := ite_m h
        obtain ⟨b1, h⟩ := ite_n h
        obtain ⟨b2, h⟩ := ite_m h
        obtain ⟨b3, h⟩ := ite_n h
        obtain ⟨b4, h⟩ := ite_m h
        obtain ⟨b5, h⟩ := ite_n h
        obtain ⟨b6, h⟩ := ite_m h
        obtain ⟨b7, h⟩ := ite_n h
        obtain ⟨e, -⟩ := finN_lt (by omega) h
        have e1 := (Prod.mk.inj e).1; have e2 := (Prod.mk.inj e).2
        have hx : xWidth (nI v) = nI w := by rw [e1, finN_w h, e2]; rfl
        have hz := sz_of hv hw1 hw4 hx
        have hc := szN_c v
        exact ⟨hx, Or.inr (Or.inr (Or.inr ⟨e2, by omega, by omega⟩))⟩
      · rw [if_neg c4] at h
        obtain ⟨b1, h⟩ := ite_n h
        obtain ⟨b2, h⟩ := ite_m h
        obtain ⟨b3, h⟩ := ite_n h
        obtain ⟨b4, h⟩ := ite_m h
        obtain ⟨b5, h⟩ := ite_n h
        obtain ⟨e, -⟩ := finN_lt (by omega) h
        have e1 := (Prod.mk.inj e).1; have e2 := (Prod.mk.inj e).2
        have hx : xWidth (nI v) = nI w := by rw [e1, finN_w h, e2]; rfl
        have hz := sz_of hv hw1 hw4 hx
        have hc := szN_c v
        exact ⟨hx, Or.inr (Or.inr (Or.inl ⟨e2, by omega, by omega, by omega, by omega, by omega, by omega, by omega, e1⟩))⟩
    · rw [if_neg c3] at h
      obtain ⟨b1, h⟩ := ite_n h
      obtain ⟨b2, h⟩ := ite_m h
      obtain ⟨b3, h⟩ := ite_n h
      obtain ⟨e, -⟩ := finN_lt (by omega) h
      have e1 := (Prod.mk.inj e).1; have e2 := (Prod.mk.inj e).2
      have hx : xWidth (nI v) = nI w := by rw [e1, finN_w h, e2]; rfl
      have hz := sz_of hv hw1 hw4 hx
      have hc := szN_c v
      exact ⟨hx, Or.inr (Or.inl ⟨e2, by omega, by omega⟩)⟩
  · rw [if_neg c1] at h
    obtain ⟨b1, h⟩ := ite_n h
    obtain ⟨e, -⟩ := finN_lt (by omega) h
    have e1 := (Prod.mk.inj e).1; have e2 := (Prod.mk.inj e).2
    have hx : xWidth (nI v) = nI w := by rw [e1, finN_w h, e2]; rfl
    exact ⟨hx, Or.inl ⟨e2, e1, by omega⟩⟩
theorem seq_bom {kb : Nat → Nat} {ln : Nat} (h : 2 < ln) (h0 : kb 0 = 239) (h1 : kb 1 = 187) (h2 : kb 2 = 191) : seqN kb ln 0 = some (65279, 3) := by
  unfold seqN seq3
  rw [h0, if_pos (by decide), if_pos (by decide), if_pos (by decide), if_neg (by decide), if_pos (by omega), show (0 + 1) = 1 from rfl, show (0 + 2) = 2 from rfl, h1, h2]
  rw [if_neg (by decide), if_pos (by decide), if_neg (by decide), if_pos (by decide)]
  decide +kernel
/-- where the reference stands when the class has read up to st -/
def tN (kb : Nat → Nat) (ln st : Nat) : Nat := if st = 0 then 0 else if kb (st - 1) = 13 then (if ln ≤ st then st else if kb st = 10 then st + 1 else st) else st
theorem s0N_pos {kb : Nat → Nat} {ln st : Nat} (h : ¬ st = 0) : s0N kb ln st = st := by rw [s0N, if_neg h]
theorem tN_other {kb : Nat → Nat} {ln st : Nat} (h0 : ¬ st = 0) (h : ¬ kb (st - 1) = 13) : tN kb ln st = st := by rw [tN, if_neg h0, if_neg h]
theorem tN_end (kb : Nat → Nat) (ln : Nat) : ln ≤ s0N kb ln (tN kb ln ln) := by
  by_cases h : ln = 0
  · omega
  · have e : tN kb ln ln = ln := by
      rw [tN, if_neg h]
      by_cases c : kb (ln - 1) = 13
      · rw [if_pos c, if_pos (Nat.le_refl _)]
      · rw [if_neg c]
    rw [e, s0N_pos h]; exact Nat.le_refl _
def PCh (kb : Nat → Nat) (ln k : Nat) (mf bf sg : Nat → Nat) : Prop :=
  sg 0 = 0 ∧ ∀ j, j < k → ¬ ln ≤ s0N kb ln (sg j) ∧ ∃ v w, seqN kb ln (s0N kb ln (sg j)) = some (v, w) ∧ mf j = nxM v ∧ bf j = s0N kb ln (sg j) ∧ sg (j + 1) = nxS kb ln (s0N kb ln (sg j) + w) v
theorem updN_s (f : Nat → Nat) (i b : Nat) : updN f i b i = b := by rw [updN, if_pos rfl]
theorem updN_n {f : Nat → Nat} {i b j : Nat} (h : ¬ j = i) : updN f i b j = f j := by rw [updN, if_neg h]
theorem PCh_push {kb : Nat → Nat} {ln k : Nat} {mf bf sg : Nat → Nat} {v w : Nat} (h : PCh kb ln k mf bf sg) (h1 : ¬ ln ≤ s0N kb ln (sg k)) (h2 : seqN kb ln (s0N kb ln (sg k)) = some (v, w)) : PCh kb ln (k + 1) (updN mf k (nxM v)) (updN bf k (s0N kb ln (sg k))) (updN sg (k + 1) (nxS kb ln (s0N kb ln (sg k) + w) v)) := by
  refine ⟨by rw [updN_n (by omega)]; exact h.1, fun j hj => ?_⟩
  by_cases e : j = k
  · subst e
    rw [updN_n (show ¬ j = j + 1 by omega)]
    exact ⟨h1, v, w, h2, updN_s _ _ _, updN_s _ _ _, updN_s _ _ _⟩
  · rw [updN_n (show ¬ j = k + 1 by omega), updN_n e, updN_n e, updN_n (show ¬ j + 1 = k + 1 by omega)]
    exact h.2 j (by omega)
theorem xRt_skip (tx : Nat → Int32) (n : Nat) (ch pl : Nat → Int32) (k nx : Nat) (fp : Int32) (hnx : nx ≤ n) : ∀ (e fr : Nat), fr + e = nx → xRt tx n (n - fr) fr ch pl k nx fp = xRt tx n (n - nx) nx ch pl k nx fp := by
  intro e
  induction e with
  | zero => intro fr h; rw [show fr = nx by omega]
  | succ e ih =>
    intro fr h
    rw [show n - fr = (n - (fr + 1)) + 1 by omega, xRt, if_pos (by omega)]
    exact ih (fr + 1) (by omega)
def RtOk (kb : Nat → Nat) (n : Nat) (fp : Int32) (o : Option (Int32 × Nat)) (R : XR) : Prop := match o with
  | some q => ¬ R.1 = 0 ∧ q.1 = -1 - R.1 ∧ R.2.2.2.2 = nI q.2
  | none => R.1 = 0 ∧ R.2.2.2.2 = fp ∧ ∃ mf bf sg, Chain kb n R.2.2.2.1 mf bf sg ∧ ∀ j, j < R.2.2.2.1 → R.2.1 j = nI (mf j) ∧ R.2.2.1 j = nI (bf j)
theorem rt_main {tx : Nat → Int32} {kb : Nat → Nat} {n : Nat} (hkb : ∀ j, kb j < 256) (ht : ∀ j, j < n → tx j = nI (kb j)) (hn : n ≤ 1000) :
    ∀ (d st : Nat) (ch pl : Nat → Int32) (k : Nat) (fp : Int32) (mf bf sg : Nat → Nat), st ≤ n → n ≤ st + d → PCh kb n k mf bf sg → (∀ j, j < k → ch j = nI (mf j) ∧ pl j = nI (bf j)) → s0N kb n (sg k) = s0N kb n (tN kb n st) → RtOk kb n fp (pass1 kb n d st) (xRt tx n (n - st) st ch pl k st fp) := by
  intro d
  induction d with
  | zero =>
    intro st ch pl k fp mf bf sg h1 h2 hp hc hs
    obtain rfl : st = n := by omega
    rw [Nat.sub_self, xRt, pass1]
    exact ⟨rfl, rfl, mf, bf, sg, ⟨hp.1, hp.2, by rw [hs]; exact tN_end kb st⟩, hc⟩
  | succ d ih =>
    intro st ch pl k fp mf bf sg h1 h2 hp hc hs
    by_cases hst : n ≤ st
    · obtain rfl : st = n := by omega
      rw [Nat.sub_self, xRt, pass1, if_pos (Nat.le_refl _)]
      exact ⟨rfl, rfl, mf, bf, sg, ⟨hp.1, hp.2, by rw [hs]; exact tN_end kb st⟩, hc⟩
    · have hlt : st < n := by omega
      rw [show n - st = (n - (st + 1)) + 1 by omega, xRt, if_neg (Nat.lt_irrefl st), xDec_seq hkb ht hlt hn, pass1, if_neg hst]
      cases hq : seqN kb n st with
      | none =>
        have e : xFault (seqR none) = 1 := by decide
        rw [e, if_neg (by decide)]
        exact ⟨show ¬ (1 : Int32) = 0 by decide, show (-2 : Int32) = -1 - 1 by decide, rfl⟩
      | some q =>
        obtain ⟨v, w⟩ := q
        obtain ⟨hv, hw1, hw4, hsw⟩ := seqN_lt hkb hq
        obtain ⟨hx, has⟩ := seqN_inv hkb hq
        show RtOk kb n fp (if mAll (nI v) then pass1 kb n d (st + w) else some (-3, st)) (if xFault (nI v) = 0 then (if xLeft tx (nI v) st then xRt tx n (n - (st + 1)) (st + 1) ch pl k (st + (xWidth (nI v)).toNatClampNeg) fp else xRt tx n (n - (st + 1)) (st + 1) (upd ch k (if nI v = 13 then 10 else nI v)) (upd pl k (nI st)) (k + 1) (st + (xWidth (nI v)).toNatClampNeg) fp) else (xFault (nI v), ch, pl, k, nI st))
        have hf : xFault (nI v) = if mAll (nI v) then 0 else 2 := by
          rw [xFault, if_neg (fun z => nI_pos (n := v) (by omega) (by rw [z]; decide)), mAll_eq]
        rw [hf, hx, nI_cl3 (show w ≤ 1000 by omega), mAll_eq] 
        rw [← mAll_eq]
        by_cases hal : mAll (nI v) = true
        · rw [if_pos hal, if_pos hal, if_pos rfl]
          have hst0 : (nI st = 0) ↔ st = 0 := nI_eq (b := 0) (by omega) (by decide)
          by_cases hle : xLeft tx (nI v) st = true
          · rw [if_pos hle, xRt_skip tx n ch pl k (st + w) fp hsw (w - 1) (st + 1) (by omega)]
            refine ih (st + w) ch pl k fp mf bf sg hsw (by omega) hp hc ?_
            rw [hs]
            unfold xLeft at hle
            by_cases c0 : st = 0
            · rw [if_pos (hst0.mpr c0)] at hle
              have hv2 : nI v = 65279 := by
                by_cases z : nI v = 65279
                · exact z
                · rw [if_neg z] at hle; exact absurd hle (by decide)
              have hv3 : v = 65279 := (nI_eq (b := 65279) (by omega) (by decide)).mp hv2
              subst c0
              have hb3 : w = 3 ∧ kb 0 = 239 ∧ kb 1 = 187 ∧ kb 2 = 191 := by
                have z0 := hkb 0
                rcases has with ⟨q1, q2, q3⟩ | ⟨q1, q2, q3⟩ | ⟨q1, q2, q3, q4, q5, q6, q7, q8, q9⟩ | ⟨q1, q2, q3⟩
                · omega
                · have := sz_of hv hw1 hw4 hx; have := szN_c v; omega
                · rw [show (0 + 1) = 1 from rfl] at q5 q6 q9; rw [show (0 + 2) = 2 from rfl] at q7 q8 q9; omega
                · omega
              obtain ⟨rfl, k0, k1, k2⟩ := hb3
              have t0 : s0N kb n (tN kb n 0) = 3 := by
                rw [show tN kb n 0 = 0 from by rw [tN, if_pos rfl]]
                rw [s0N, if_pos rfl, if_neg (by omega), if_pos k0, if_pos k1, if_pos k2]
              have t3 : tN kb n 3 = 3 := tN_other (by decide) (by rw [show 3 - 1 = 2 from rfl, k2]; decide)
              rw [show (0 + 3) = 3 from rfl, t3, t0, s0N_pos (show ¬ 3 = 0 by decide)]
            · rw [if_neg (fun z => c0 (hst0.mp z))] at hle
              have hv2 : nI v = 10 ∧ tx (st - 1) = 13 := by
                by_cases z : nI v = 10
                · rw [if_pos z] at hle
                  by_cases z2 : tx (st - 1) = 13
                  · exact ⟨z, z2⟩
                  · rw [if_neg z2] at hle; exact absurd hle (by decide)
                · rw [if_neg z] at hle; exact absurd hle (by decide)
              have hv3 : v = 10 := (nI_eq (b := 10) (by omega) (by decide)).mp hv2.1
              have hk3 : kb (st - 1) = 13 := by
                have z := hv2.2
                rw [ht (st - 1) (by omega)] at z
                have zz := hkb (st - 1)
                exact (nI_eq (b := 13) (by omega) (by decide)).mp z
              have hb3 : w = 1 ∧ kb st = 10 := by
                rcases has with ⟨q1, q2, q3⟩ | ⟨q1, q2, q3⟩ | ⟨q1, q2, q3⟩ | ⟨q1, q2, q3⟩ <;> omega
              obtain ⟨rfl, k0⟩ := hb3
              have t1 : tN kb n st = st + 1 := by rw [tN, if_neg c0, if_pos hk3, if_neg hst, if_pos k0]
              have t2 : tN kb n (st + 1) = st + 1 := tN_other (by omega) (by rw [Nat.add_sub_cancel, k0]; decide)
              rw [t1, t2]
          · rw [if_neg hle, xRt_skip tx n _ _ (k + 1) (st + w) fp hsw (w - 1) (st + 1) (by omega)]
            have hs0 : s0N kb n (sg k) = st := by
              rw [hs]
              by_cases c0 : st = 0
              · subst c0
                rw [show tN kb n 0 = 0 from by rw [tN, if_pos rfl], s0N, if_pos rfl]
                by_cases y0 : n ≤ 2
                · rw [if_pos y0]
                · rw [if_neg y0]
                  by_cases y1 : kb 0 = 239
                  · rw [if_pos y1]
                    by_cases y2 : kb 1 = 187
                    · rw [if_pos y2]
                      by_cases y3 : kb 2 = 191
                      · exfalso
                        have z := seq_bom (by omega : 2 < n) y1 y2 y3
                        rw [hq] at z
                        have z1 := (Prod.mk.inj (Option.some.inj z)).1
                        apply hle
                        rw [xLeft, if_pos (show nI 0 = 0 from rfl), z1, if_pos (show nI 65279 = 65279 from rfl)]
                      · rw [if_neg y3]
                    · rw [if_neg y2]
                  · rw [if_neg y1]
              · have t1 : tN kb n st = st := by
                  rw [tN, if_neg c0]
                  by_cases y1 : kb (st - 1) = 13
                  · rw [if_pos y1, if_neg hst]
                    by_cases y2 : kb st = 10
                    · exfalso
                      have hv3 : v = 10 := by
                        have hc2 := szN_c v
                        have z := hq
                        unfold seqN at z
                        rw [if_neg (by omega)] at z
                        obtain ⟨-, z⟩ := ite_n z
                        have z2 := (finN_lt (by omega) z).1
                        have z3 := (Prod.mk.inj z2).1
                        omega
                      apply hle
                      rw [xLeft, if_neg (fun z => c0 (hst0.mp z)), hv3, if_pos (show nI 10 = 10 from rfl), ht (st - 1) (by omega), y1, if_pos (show nI 13 = 13 from rfl)]
                    · rw [if_neg y2]
                  · rw [if_neg y1]
                rw [t1, s0N_pos c0]
            have hpp := PCh_push (v := v) (w := w) hp (by rw [hs0]; exact hst) (by rw [hs0]; exact hq)
            refine ih (st + w) _ _ (k + 1) fp _ _ _ hsw (by omega) hpp ?_ ?_
            · intro j hj
              by_cases e : j = k
              · subst e
                rw [pk_us, pk_us, updN_s, updN_s, hs0]
                refine ⟨?_, rfl⟩
                have h13 : (nI v = 13) ↔ v = 13 := nI_eq (b := 13) (by omega) (by decide)
                unfold nxM
                by_cases z : v = 13
                · rw [if_pos z, if_pos (h13.mpr z)]; rfl
                · rw [if_neg z, if_neg (fun q => z (h13.mp q))]
              · rw [pk_un e, pk_un e, updN_n e, updN_n e]
                exact hc j (by omega)
            · rw [updN_s, hs0]
              unfold nxS
              by_cases z : v = 13
              · rw [if_pos z]
                have hb3 : w = 1 ∧ kb st = 13 := by
                  rcases has with ⟨q1, q2, q3⟩ | ⟨q1, q2, q3⟩ | ⟨q1, q2, q3⟩ | ⟨q1, q2, q3⟩ <;> omega
                obtain ⟨rfl, k0⟩ := hb3
                have t1 : tN kb n (st + 1) = if n ≤ st + 1 then st + 1 else if kb (st + 1) = 10 then st + 1 + 1 else st + 1 := by rw [tN, if_neg (show ¬ st + 1 = 0 by omega), Nat.add_sub_cancel, if_pos k0]
                rw [t1]
              · rw [if_neg z]
                have hl13 : ¬ kb (st + w - 1) = 13 := by
                  rcases has with ⟨q1, q2, q3⟩ | ⟨q1, q2, q3⟩ | ⟨q1, q2, q3, q4, q5, q6, q7, q8, q9⟩ | ⟨q1, q2, q3⟩
                  · rw [q1, Nat.add_sub_cancel]; omega
                  · rw [q1, show st + 2 - 1 = st + 1 by omega]; omega
                  · rw [q1, show st + 3 - 1 = st + 2 by omega]; omega
                  · rw [q1, show st + 4 - 1 = st + 3 by omega]; omega
                rw [tN_other (by omega) hl13]
        · rw [if_neg hal, if_neg hal, if_neg (by decide)]
          exact ⟨show ¬ (2 : Int32) = 0 by decide, show (-3 : Int32) = -1 - 2 by decide, rfl⟩
theorem rt_start {tx : Nat → Int32} {kb : Nat → Nat} {n : Nat} (hkb : ∀ j, kb j < 256) (ht : ∀ j, j < n → tx j = nI (kb j)) (hn : n ≤ 1000) (ch pl : Nat → Int32) : RtOk kb n (-1) (pass1 kb n n 0) (xRt tx n n 0 ch pl 0 0 (-1)) :=
  rt_main hkb ht hn n 0 ch pl 0 (-1) (fun _ => 0) (fun _ => 0) (fun _ => 0) (Nat.zero_le _) (by omega) ⟨rfl, fun j h => absurd h (Nat.not_lt_zero j)⟩ (fun j h => absurd h (Nat.not_lt_zero j)) (by rw [tN, if_pos rfl])
