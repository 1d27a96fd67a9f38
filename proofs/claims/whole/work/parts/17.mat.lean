def AtCase (rd : Bool) (k : Nat) (mf : Nat → Nat) (i res : Int32) : Prop :=
  ((rd = false ∨ i < 0) ∧ res = -1) ∨ (rd = true ∧ ∃ j, j < k ∧ i = nI j ∧ res = nI (mf j)) ∨ (rd = true ∧ 0 ≤ i ∧ nI k ≤ i ∧ res = -1)
def PlCase (rd : Bool) (k : Nat) (bf : Nat → Nat) (ln : Nat) (i res : Int32) : Prop :=
  (rd = false ∧ res = -1) ∨ (rd = true ∧ i < 0 ∧ res = -1) ∨ (rd = true ∧ ∃ j, j < k ∧ i = nI j ∧ res = nI (bf j)) ∨ (rd = true ∧ i = nI k ∧ res = nI ln) ∨ (rd = true ∧ ∃ j, k < j ∧ j < 2 ^ 31 ∧ i = nI j ∧ res = -1)
theorem wrap_far {k : Nat} {i : Int32} (hk : k ≤ 1000) (h : i < 0) (h2 : 0 ≤ i - 1) : nI k ≤ i - 1 := by
  rw [Int32.lt_iff_toInt_lt, Int32.toInt_zero] at h
  rw [Int32.le_iff_toInt_le, Int32.toInt_zero, Int32.toInt_sub] at h2
  rw [Int32.le_iff_toInt_le, nI_toInt (by omega), Int32.toInt_sub]
  have h1 : (1 : Int32).toInt = 1 := by decide
  rw [h1] at h2 ⊢
  have hlo := Int32.le_toInt i
  by_cases q : i.toInt - 1 < -2147483648
  · have e : i.toInt = -2147483648 := by omega
    rw [e] at h2 ⊢
    have e2 : ((-2147483648 : Int) - 1).bmod (2 ^ 32) = 2147483647 := by decide
    rw [e2]; omega
  · rw [Int.bmod_eq_of_le (by omega) (by omega)] at h2
    omega
set_option maxHeartbeats 4000000 in
set_option maxRecDepth 100000 in
theorem c_X1_at (l : Launch) (dC : Nat → ClassId) (dI : Nat → Nat → Nat) (g0 g1 g2 : Nat) (cA : ClassId) (sz : Nat) (tb : Nat → Nat) (n : Nat) (kb : Nat → Nat) (ln : Nat) (rd : Bool) (fp : Int32) (st : Nat) (mt bg : Int32) (hkb : ∀ j, kb j < 256) (hln : ln ≤ 1000) (k : Nat) (hk : k ≤ 1000) (mf bf sg : Nat → Nat) (hch : rd = true → Chain kb ln k mf bf sg) (i res : Int32) (hc : AtCase rd k mf i res) : Met l yX1_at wsX1_at ({ frames := 4, cells := 0, slots := 0, locals := 89 }) (va_Pc [.ref g0, .int i] (fun U => mmut dC dI g0 g1 g2 cA sz (tb, n, kb, ln, rd, fp, st, mt, bg) U)) (va_Qi (fun (r : Int32) (u : MS) => r = res ∧ ∃ (st' : Nat) (mt' bg' : Int32), u = (tb, n, kb, ln, rd, fp, st', mt', bg')) (matt dC dI g0 g1 g2 cA (va_A (mw g0 g1 g2 cA (tb, n, kb, ln, rd, fp, st, mt, bg)) sz)) (va_A (mw g0 g1 g2 cA (tb, n, kb, ln, rd, fp, st, mt, bg)) sz)) 0 0 (va_A (mw g0 g1 g2 cA (tb, n, kb, ln, rd, fp, st, mt, bg)) sz) := by
  refine Met.ofW (cc := cX1_at) (maxL := 2) (ret := (some .int)) (by decide) rfl ?_
  intro p e s m args below meth c s₁ B hml hv
  obtain ⟨rfl, hsz, hP, hK, hD0⟩ := hv
  have hx := B.exec
  have hb := B.bytes
  have hr := B.returns
  have hts := atoms_spec (ws := wsX1_at) B.pre
  have hown : s.vm.findClass RX1 = some m.cls := findClass_of_methodNamed B.named
  subst hsz
  have hD := hD0.self (sz := s.heap.size)
  generalize hAe : va_A (mw g0 g1 g2 cA (tb, n, kb, ln, rd, fp, st, mt, bg)) s.heap.size = A at hD ⊢
  have hA : ∀ q : Nat, s.heap.size ≤ q → A q := fun q h => by rw [← hAe]; exact Or.inr h
  have hS : va_S A s.heap s.heap [] := va_S.rf
  have hP : va_P (dC, dI) vwCl [(g0, .inr (1, [.ref g1, .int (nI n), .ref g2, .int (nI ln), .int (bI rd), .int fp, .int (nI st), .int mt, .int bg])), (g1, .inl (cA, 1000, .inl (fun j => nI (tb j)))), (g2, .inl (cA, 1000, .inl (fun j => nI (kb j))))] s.heap := hP
  have hD : va_D A [(g0, .inr (1, [.ref g1, .int (nI n), .ref g2, .int (nI ln), .int (bI rd), .int fp, .int (nI st), .int mt, .int bg])), (g1, .inl (cA, 1000, .inl (fun j => nI (tb j)))), (g2, .inl (cA, 1000, .inl (fun j => nI (kb j))))] := hD
  have hIn : ∀ w ∈ wsX10, w ∈ wsX1_at := by decide +kernel
  have hl := lv_entry ([.ref g0, .int i]) (n := 2) (Nat.le_of_ble_eq_true rfl)
  rw [lg_entry_eq]
  generalize (lg_sl ([.ref g0, .int i]) ++ List.replicate (2 - (lg_sl ([.ref g0, .int i])).length) Slot.unset).toArray = ls at hl ⊢
  have hl : lv_has ls 2 [(0, .ref g0), (1, .int i)] := hl
  rcases hc with ⟨ho, rfl⟩ | ⟨hrd, j, hj, rfl, rfl⟩ | ⟨hrd, h0, hf, rfl⟩
  · refine lv_aload_n hx hb dX1_at_0 rfl (lv_at hl 0 rfl) ?_
    refine lv_iload_n hx hb dX1_at_1 rfl (lv_at hl 1 rfl) ?_
    have hFc := va_free (wc := mw g0 g1 g2 cA (tb, n, kb, ln, rd, fp, st, mt, bg)) hD hS hA [0, 1, 2] rfl
    refine va_calli (va_runV (As := [.int i]) (rest := []) ⟨hx, hb, hml, hown, hts⟩ (c_X1_go_off l dC dI g0 g1 g2 cA s.heap.size tb n kb ln rd fp st mt bg i ho) (cwV 1 hts gX1_at_X1_go rfl rfl rfl (by decide +kernel) ⟨Nat.le_of_ble_eq_true rfl, Nat.le_of_ble_eq_true rfl⟩) ⟨mmut_blind, va_recv hK hP (ci := 1) (q0 := 0) rfl rfl, fun U hU hW => ⟨rfl, mmut_of hP hK hD hU hW⟩⟩ rfl rfl hl.1 rfl (lv_room (Nat.le_of_ble_eq_true rfl)) dX1_at_2 ⟨Nat.le_of_ble_eq_true rfl, Nat.le_of_ble_eq_true rfl⟩) hS (fun q _ h => hFc q h) hFc (fun r_1 u_1 t_1 H1 locs ht hvm hw hB hz1 hk1 hS => ?_)
    obtain ⟨hw0, hw1⟩ := hw
    obtain rfl : r_1 = 0 := hw0
    obtain rfl : u_1 = (tb, n, kb, ln, rd, fp, 0, mt, bg) := hw1
    obtain ⟨hP1, hK1, hD1⟩ := hB
    rw [ht] at hP1
    obtain ⟨hP, hD⟩ := va_join (wr := []) (w1 := mw g0 g1 g2 cA (tb, n, kb, ln, rd, fp, 0, mt, bg)) hP hD [0, 1, 2] [] rfl rfl (by decide) (by decide) hk1 hFc hP1 hD1
    generalize H1 = H at hP hS ⊢
    have hP : va_P (dC, dI) vwCl [(g0, .inr (1, [.ref g1, .int (nI n), .ref g2, .int (nI ln), .int (bI rd), .int fp, .int (nI 0), .int mt, .int bg])), (g1, .inl (cA, 1000, .inl (fun j => nI (tb j)))), (g2, .inl (cA, 1000, .inl (fun j => nI (kb j))))] H := hP
    have hD : va_D A [(g0, .inr (1, [.ref g1, .int (nI n), .ref g2, .int (nI ln), .int (bI rd), .int fp, .int (nI 0), .int mt, .int bg])), (g1, .inl (cA, 1000, .inl (fun j => nI (tb j)))), (g2, .inl (cA, 1000, .inl (fun j => nI (kb j))))] := hD
    refine lv_if_eq (tgt := 15) hx hb dX1_at_5 (by decide) (fun c_2 => ?_) (fun c_2 => ?_)
    · have c_2 : 0 = 0 := (nI_eq (a := 0) (b := 0) (by omega) (by omega)).mp c_2
      refine lv_iconst (v := -1) hx hb dX1_at_15 (by decide) ?_
      have hP9 : va_P (dC, dI) vwCl (mw g0 g1 g2 cA (tb, n, kb, ln, rd, fp, 0, mt, bg)) H := hP
      have hD9 : va_D A (mw g0 g1 g2 cA (tb, n, kb, ln, rd, fp, 0, mt, bg)) := hD
      exact W.iret (v := (-1)) hx hb hr (fun t ht hW => ⟨⟨(-1), (tb, n, kb, ln, rd, fp, 0, mt, bg), rfl, ⟨rfl, _, _, _, rfl⟩, by rw [ht]; exact hP9, va_K.moved hW.alike hK, hD9⟩, hS.F ht⟩) hS.2.2 dX1_at_16
    · exact absurd c_2 (by decide)
  · refine lv_aload_n hx hb dX1_at_0 rfl (lv_at hl 0 rfl) ?_
    refine lv_iload_n hx hb dX1_at_1 rfl (lv_at hl 1 rfl) ?_
    have hFc := va_free (wc := mw g0 g1 g2 cA (tb, n, kb, ln, rd, fp, st, mt, bg)) hD hS hA [0, 1, 2] rfl
    refine va_calli (va_runV (As := [.int (nI j)]) (rest := []) ⟨hx, hb, hml, hown, hts⟩ (c_X1_go_yes l dC dI g0 g1 g2 cA s.heap.size tb n kb ln rd fp st mt bg hkb hln k mf bf sg (hch hrd) j hj hk hrd) (cwV 1 hts gX1_at_X1_go rfl rfl rfl (by decide +kernel) ⟨Nat.le_of_ble_eq_true rfl, Nat.le_of_ble_eq_true rfl⟩) ⟨mmut_blind, va_recv hK hP (ci := 1) (q0 := 0) rfl rfl, fun U hU hW => ⟨rfl, mmut_of hP hK hD hU hW⟩⟩ rfl rfl hl.1 rfl (lv_room (Nat.le_of_ble_eq_true rfl)) dX1_at_2 ⟨Nat.le_of_ble_eq_true rfl, Nat.le_of_ble_eq_true rfl⟩) hS (fun q _ h => hFc q h) hFc (fun r_3 u_3 t_3 H1 locs ht hvm hw hB hz1 hk1 hS => ?_)
    obtain ⟨hw0, hw1⟩ := hw
    obtain rfl : r_3 = 1 := hw0
    obtain rfl : u_3 = (tb, n, kb, ln, rd, fp, (sg (j + 1)), (nI (mf j)), (nI (bf j))) := hw1
    obtain ⟨hP1, hK1, hD1⟩ := hB
    rw [ht] at hP1
    obtain ⟨hP, hD⟩ := va_join (wr := []) (w1 := mw g0 g1 g2 cA (tb, n, kb, ln, rd, fp, (sg (j + 1)), (nI (mf j)), (nI (bf j)))) hP hD [0, 1, 2] [] rfl rfl (by decide) (by decide) hk1 hFc hP1 hD1
    generalize H1 = H at hP hS ⊢
    have hP : va_P (dC, dI) vwCl [(g0, .inr (1, [.ref g1, .int (nI n), .ref g2, .int (nI ln), .int (bI rd), .int fp, .int (nI (sg (j + 1))), .int (nI (mf j)), .int (nI (bf j))])), (g1, .inl (cA, 1000, .inl (fun j => nI (tb j)))), (g2, .inl (cA, 1000, .inl (fun j => nI (kb j))))] H := hP
    have hD : va_D A [(g0, .inr (1, [.ref g1, .int (nI n), .ref g2, .int (nI ln), .int (bI rd), .int fp, .int (nI (sg (j + 1))), .int (nI (mf j)), .int (nI (bf j))])), (g1, .inl (cA, 1000, .inl (fun j => nI (tb j)))), (g2, .inl (cA, 1000, .inl (fun j => nI (kb j))))] := hD
    refine lv_if_eq (tgt := 15) hx hb dX1_at_5 (by decide) (fun c_4 => ?_) (fun c_4 => ?_)
    · exact absurd c_4 (by decide)
    · have c_4 : ¬ 1 = 0 := fun zz => c_4 ((nI_eq (a := 1) (b := 0) (by omega) (by omega)).mpr zz)
      refine lv_aload_n hx hb dX1_at_8 rfl (lv_at hl 0 rfl) ?_
      refine va_get (D := (dC, dI)) (ci := 1) (v := .int (nI (mf j))) (C := RX1) (T := TX1) (N := 9) hx hb hts hIn hown hK hP 0 rfl rfl 7 (by decide) (hts (.fieldLink RX1 57 RX1 "met" "I") (by decide +kernel)) (fun _ h9 => h9) rfl dX1_at_9 ?_
      refine lv_goto (tgt := 16) hx hb dX1_at_12 (by decide) ?_
      have hP9 : va_P (dC, dI) vwCl (mw g0 g1 g2 cA (tb, n, kb, ln, rd, fp, (sg (j + 1)), (nI (mf j)), (nI (bf j)))) H := hP
      have hD9 : va_D A (mw g0 g1 g2 cA (tb, n, kb, ln, rd, fp, (sg (j + 1)), (nI (mf j)), (nI (bf j)))) := hD
      exact W.iret (v := nI (mf j)) hx hb hr (fun t ht hW => ⟨⟨nI (mf j), (tb, n, kb, ln, rd, fp, (sg (j + 1)), (nI (mf j)), (nI (bf j))), rfl, ⟨rfl, _, _, _, rfl⟩, by rw [ht]; exact hP9, va_K.moved hW.alike hK, hD9⟩, hS.F ht⟩) hS.2.2 dX1_at_16
  · refine lv_aload_n hx hb dX1_at_0 rfl (lv_at hl 0 rfl) ?_
    refine lv_iload_n hx hb dX1_at_1 rfl (lv_at hl 1 rfl) ?_
    have hFc := va_free (wc := mw g0 g1 g2 cA (tb, n, kb, ln, rd, fp, st, mt, bg)) hD hS hA [0, 1, 2] rfl
    refine va_calli (va_runV (As := [.int i]) (rest := []) ⟨hx, hb, hml, hown, hts⟩ (c_X1_go_far l dC dI g0 g1 g2 cA s.heap.size tb n kb ln rd fp st mt bg hkb hln k mf bf sg (hch hrd) i hk hrd h0 hf) (cwV 1 hts gX1_at_X1_go rfl rfl rfl (by decide +kernel) ⟨Nat.le_of_ble_eq_true rfl, Nat.le_of_ble_eq_true rfl⟩) ⟨mmut_blind, va_recv hK hP (ci := 1) (q0 := 0) rfl rfl, fun U hU hW => ⟨rfl, mmut_of hP hK hD hU hW⟩⟩ rfl rfl hl.1 rfl (lv_room (Nat.le_of_ble_eq_true rfl)) dX1_at_2 ⟨Nat.le_of_ble_eq_true rfl, Nat.le_of_ble_eq_true rfl⟩) hS (fun q _ h => hFc q h) hFc (fun r_5 u_5 t_5 H1 locs ht hvm hw hB hz1 hk1 hS => ?_)
    obtain ⟨hw0, st_5, mt_5, bg_5, hw1⟩ := hw
    obtain rfl : r_5 = 0 := hw0
    obtain rfl : u_5 = (tb, n, kb, ln, rd, fp, st_5, mt_5, bg_5) := hw1
    obtain ⟨hP1, hK1, hD1⟩ := hB
    rw [ht] at hP1
    obtain ⟨hP, hD⟩ := va_join (wr := []) (w1 := mw g0 g1 g2 cA (tb, n, kb, ln, rd, fp, st_5, mt_5, bg_5)) hP hD [0, 1, 2] [] rfl rfl (by decide) (by decide) hk1 hFc hP1 hD1
    generalize H1 = H at hP hS ⊢
    have hP : va_P (dC, dI) vwCl [(g0, .inr (1, [.ref g1, .int (nI n), .ref g2, .int (nI ln), .int (bI rd), .int fp, .int (nI st_5), .int mt_5, .int bg_5])), (g1, .inl (cA, 1000, .inl (fun j => nI (tb j)))), (g2, .inl (cA, 1000, .inl (fun j => nI (kb j))))] H := hP
    have hD : va_D A [(g0, .inr (1, [.ref g1, .int (nI n), .ref g2, .int (nI ln), .int (bI rd), .int fp, .int (nI st_5), .int mt_5, .int bg_5])), (g1, .inl (cA, 1000, .inl (fun j => nI (tb j)))), (g2, .inl (cA, 1000, .inl (fun j => nI (kb j))))] := hD
    refine lv_if_eq (tgt := 15) hx hb dX1_at_5 (by decide) (fun c_6 => ?_) (fun c_6 => ?_)
    · have c_6 : 0 = 0 := (nI_eq (a := 0) (b := 0) (by omega) (by omega)).mp c_6
      refine lv_iconst (v := -1) hx hb dX1_at_15 (by decide) ?_
      have hP9 : va_P (dC, dI) vwCl (mw g0 g1 g2 cA (tb, n, kb, ln, rd, fp, st_5, mt_5, bg_5)) H := hP
      have hD9 : va_D A (mw g0 g1 g2 cA (tb, n, kb, ln, rd, fp, st_5, mt_5, bg_5)) := hD
      exact W.iret (v := (-1)) hx hb hr (fun t ht hW => ⟨⟨(-1), (tb, n, kb, ln, rd, fp, st_5, mt_5, bg_5), rfl, ⟨rfl, _, _, _, rfl⟩, by rw [ht]; exact hP9, va_K.moved hW.alike hK, hD9⟩, hS.F ht⟩) hS.2.2 dX1_at_16
    · exact absurd c_6 (by decide)
set_option maxHeartbeats 4000000 in
set_option maxRecDepth 100000 in
theorem c_X1_placeOf (l : Launch) (dC : Nat → ClassId) (dI : Nat → Nat → Nat) (g0 g1 g2 : Nat) (cA : ClassId) (sz : Nat) (tb : Nat → Nat) (n : Nat) (kb : Nat → Nat) (ln : Nat) (rd : Bool) (fp : Int32) (st : Nat) (mt bg : Int32) (hkb : ∀ j, kb j < 256) (hln : ln ≤ 1000) (k : Nat) (hk : k ≤ 1000) (mf bf sg : Nat → Nat) (hch : rd = true → Chain kb ln k mf bf sg) (i res : Int32) (hc : PlCase rd k bf ln i res) : Met l yX1_placeOf wsX1_placeOf ({ frames := 4, cells := 0, slots := 0, locals := 89 }) (va_Pc [.ref g0, .int i] (fun U => mmut dC dI g0 g1 g2 cA sz (tb, n, kb, ln, rd, fp, st, mt, bg) U)) (va_Qi (fun (r : Int32) (u : MS) => r = res ∧ ∃ (st' : Nat) (mt' bg' : Int32), u = (tb, n, kb, ln, rd, fp, st', mt', bg')) (matt dC dI g0 g1 g2 cA (va_A (mw g0 g1 g2 cA (tb, n, kb, ln, rd, fp, st, mt, bg)) sz)) (va_A (mw g0 g1 g2 cA (tb, n, kb, ln, rd, fp, st, mt, bg)) sz)) 0 0 (va_A (mw g0 g1 g2 cA (tb, n, kb, ln, rd, fp, st, mt, bg)) sz) := by
  refine Met.ofW (cc := cX1_placeOf) (maxL := 2) (ret := (some .int)) (by decide) rfl ?_
  intro p e s m args below meth c s₁ B hml hv
  obtain ⟨rfl, hsz, hP, hK, hD0⟩ := hv
  have hx := B.exec
  have hb := B.bytes
  have hr := B.returns
  have hts := atoms_spec (ws := wsX1_placeOf) B.pre
  have hown : s.vm.findClass RX1 = some m.cls := findClass_of_methodNamed B.named
  subst hsz
  have hD := hD0.self (sz := s.heap.size)
  generalize hAe : va_A (mw g0 g1 g2 cA (tb, n, kb, ln, rd, fp, st, mt, bg)) s.heap.size = A at hD ⊢
  have hA : ∀ q : Nat, s.heap.size ≤ q → A q := fun q h => by rw [← hAe]; exact Or.inr h
  have hS : va_S A s.heap s.heap [] := va_S.rf
  have hP : va_P (dC, dI) vwCl [(g0, .inr (1, [.ref g1, .int (nI n), .ref g2, .int (nI ln), .int (bI rd), .int fp, .int (nI st), .int mt, .int bg])), (g1, .inl (cA, 1000, .inl (fun j => nI (tb j)))), (g2, .inl (cA, 1000, .inl (fun j => nI (kb j))))] s.heap := hP
  have hD : va_D A [(g0, .inr (1, [.ref g1, .int (nI n), .ref g2, .int (nI ln), .int (bI rd), .int fp, .int (nI st), .int mt, .int bg])), (g1, .inl (cA, 1000, .inl (fun j => nI (tb j)))), (g2, .inl (cA, 1000, .inl (fun j => nI (kb j))))] := hD
  have hIn : ∀ w ∈ wsX10, w ∈ wsX1_placeOf := by decide +kernel
  have hl := lv_entry ([.ref g0, .int i]) (n := 2) (Nat.le_of_ble_eq_true rfl)
  rw [lg_entry_eq]
  generalize (lg_sl ([.ref g0, .int i]) ++ List.replicate (2 - (lg_sl ([.ref g0, .int i])).length) Slot.unset).toArray = ls at hl ⊢
  have hl : lv_has ls 2 [(0, .ref g0), (1, .int i)] := hl
  rcases hc with ⟨rfl, rfl⟩ | ⟨hrd, hneg, rfl⟩ | ⟨hrd, j, hj, rfl, rfl⟩ | ⟨hrd, rfl, rfl⟩ | ⟨hrd, j, hj, hjm, rfl, rfl⟩
  · refine lv_aload_n hx hb dX1_placeOf_0 rfl (lv_at hl 0 rfl) ?_
    refine lv_iload_n hx hb dX1_placeOf_1 rfl (lv_at hl 1 rfl) ?_
    have hFc := va_free (wc := mw g0 g1 g2 cA (tb, n, kb, ln, false, fp, st, mt, bg)) hD hS hA [0, 1, 2] rfl
    refine va_calli (va_runV (As := [.int i]) (rest := []) ⟨hx, hb, hml, hown, hts⟩ (c_X1_go_off l dC dI g0 g1 g2 cA s.heap.size tb n kb ln false fp st mt bg i (Or.inl rfl)) (cwV 1 hts gX1_placeOf_X1_go rfl rfl rfl (by decide +kernel) ⟨Nat.le_of_ble_eq_true rfl, Nat.le_of_ble_eq_true rfl⟩) ⟨mmut_blind, va_recv hK hP (ci := 1) (q0 := 0) rfl rfl, fun U hU hW => ⟨rfl, mmut_of hP hK hD hU hW⟩⟩ rfl rfl hl.1 rfl (lv_room (Nat.le_of_ble_eq_true rfl)) dX1_placeOf_2 ⟨Nat.le_of_ble_eq_true rfl, Nat.le_of_ble_eq_true rfl⟩) hS (fun q _ h => hFc q h) hFc (fun r_1 u_1 t_1 H1 locs ht hvm hw hB hz1 hk1 hS => ?_)
    obtain ⟨hw0, hw1⟩ := hw
    obtain rfl : r_1 = 0 := hw0
    obtain rfl : u_1 = (tb, n, kb, ln, false, fp, 0, mt, bg) := hw1
    obtain ⟨hP1, hK1, hD1⟩ := hB
    rw [ht] at hP1
    obtain ⟨hP, hD⟩ := va_join (wr := []) (w1 := mw g0 g1 g2 cA (tb, n, kb, ln, false, fp, 0, mt, bg)) hP hD [0, 1, 2] [] rfl rfl (by decide) (by decide) hk1 hFc hP1 hD1
    generalize H1 = H at hP hS ⊢
    have hP : va_P (dC, dI) vwCl [(g0, .inr (1, [.ref g1, .int (nI n), .ref g2, .int (nI ln), .int (bI false), .int fp, .int (nI 0), .int mt, .int bg])), (g1, .inl (cA, 1000, .inl (fun j => nI (tb j)))), (g2, .inl (cA, 1000, .inl (fun j => nI (kb j))))] H := hP
    have hD : va_D A [(g0, .inr (1, [.ref g1, .int (nI n), .ref g2, .int (nI ln), .int (bI false), .int fp, .int (nI 0), .int mt, .int bg])), (g1, .inl (cA, 1000, .inl (fun j => nI (tb j)))), (g2, .inl (cA, 1000, .inl (fun j => nI (kb j))))] := hD
    refine lv_if_eq (tgt := 13) hx hb dX1_placeOf_5 (by decide) (fun c_2 => ?_) (fun c_2 => ?_)
    · have c_2 : 0 = 0 := (nI_eq (a := 0) (b := 0) (by omega) (by omega)).mp c_2
      refine lv_aload_n hx hb dX1_placeOf_13 rfl (lv_at hl 0 rfl) ?_
      refine va_get (D := (dC, dI)) (ci := 1) (v := .int (bI false)) (C := RX1) (T := TX1) (N := 9) hx hb hts hIn hown hK hP 0 rfl rfl 4 (by decide) (hts (.fieldLink RX1 60 RX1 "read" "Z") (by decide +kernel)) (fun _ h9 => h9) rfl dX1_placeOf_14 ?_
      refine lv_if_eq (tgt := 53) hx hb dX1_placeOf_17 (by decide) (fun c_3 => ?_) (fun c_3 => ?_)
      · have c_3 := bI_0 c_3
        refine lv_iconst (v := -1) hx hb dX1_placeOf_53 (by decide) ?_
        have hP9 : va_P (dC, dI) vwCl (mw g0 g1 g2 cA (tb, n, kb, ln, false, fp, 0, mt, bg)) H := hP
        have hD9 : va_D A (mw g0 g1 g2 cA (tb, n, kb, ln, false, fp, 0, mt, bg)) := hD
        exact W.iret (v := (-1)) hx hb hr (fun t ht hW => ⟨⟨(-1), (tb, n, kb, ln, false, fp, 0, mt, bg), rfl, ⟨rfl, _, _, _, rfl⟩, by rw [ht]; exact hP9, va_K.moved hW.alike hK, hD9⟩, hS.F ht⟩) hS.2.2 dX1_placeOf_54
      · exact absurd rfl c_3
    · exact absurd c_2 (by decide)
  · refine lv_aload_n hx hb dX1_placeOf_0 rfl (lv_at hl 0 rfl) ?_
    refine lv_iload_n hx hb dX1_placeOf_1 rfl (lv_at hl 1 rfl) ?_
    have hFc := va_free (wc := mw g0 g1 g2 cA (tb, n, kb, ln, rd, fp, st, mt, bg)) hD hS hA [0, 1, 2] rfl
    refine va_calli (va_runV (As := [.int i]) (rest := []) ⟨hx, hb, hml, hown, hts⟩ (c_X1_go_off l dC dI g0 g1 g2 cA s.heap.size tb n kb ln rd fp st mt bg i (Or.inr hneg)) (cwV 1 hts gX1_placeOf_X1_go rfl rfl rfl (by decide +kernel) ⟨Nat.le_of_ble_eq_true rfl, Nat.le_of_ble_eq_true rfl⟩) ⟨mmut_blind, va_recv hK hP (ci := 1) (q0 := 0) rfl rfl, fun U hU hW => ⟨rfl, mmut_of hP hK hD hU hW⟩⟩ rfl rfl hl.1 rfl (lv_room (Nat.le_of_ble_eq_true rfl)) dX1_placeOf_2 ⟨Nat.le_of_ble_eq_true rfl, Nat.le_of_ble_eq_true rfl⟩) hS (fun q _ h => hFc q h) hFc (fun r_4 u_4 t_4 H1 locs ht hvm hw hB hz1 hk1 hS => ?_)
    obtain ⟨hw0, hw1⟩ := hw
    obtain rfl : r_4 = 0 := hw0
    obtain rfl : u_4 = (tb, n, kb, ln, rd, fp, 0, mt, bg) := hw1
    obtain ⟨hP1, hK1, hD1⟩ := hB
    rw [ht] at hP1
    obtain ⟨hP, hD⟩ := va_join (wr := []) (w1 := mw g0 g1 g2 cA (tb, n, kb, ln, rd, fp, 0, mt, bg)) hP hD [0, 1, 2] [] rfl rfl (by decide) (by decide) hk1 hFc hP1 hD1
    generalize H1 = H at hP hS ⊢
    have hP : va_P (dC, dI) vwCl [(g0, .inr (1, [.ref g1, .int (nI n), .ref g2, .int (nI ln), .int (bI rd), .int fp, .int (nI 0), .int mt, .int bg])), (g1, .inl (cA, 1000, .inl (fun j => nI (tb j)))), (g2, .inl (cA, 1000, .inl (fun j => nI (kb j))))] H := hP
    have hD : va_D A [(g0, .inr (1, [.ref g1, .int (nI n), .ref g2, .int (nI ln), .int (bI rd), .int fp, .int (nI 0), .int mt, .int bg])), (g1, .inl (cA, 1000, .inl (fun j => nI (tb j)))), (g2, .inl (cA, 1000, .inl (fun j => nI (kb j))))] := hD
    refine lv_if_eq (tgt := 13) hx hb dX1_placeOf_5 (by decide) (fun c_5 => ?_) (fun c_5 => ?_)
    · have c_5 : 0 = 0 := (nI_eq (a := 0) (b := 0) (by omega) (by omega)).mp c_5
      refine lv_aload_n hx hb dX1_placeOf_13 rfl (lv_at hl 0 rfl) ?_
      refine va_get (D := (dC, dI)) (ci := 1) (v := .int (bI rd)) (C := RX1) (T := TX1) (N := 9) hx hb hts hIn hown hK hP 0 rfl rfl 4 (by decide) (hts (.fieldLink RX1 60 RX1 "read" "Z") (by decide +kernel)) (fun _ h9 => h9) rfl dX1_placeOf_14 ?_
      refine lv_if_eq (tgt := 53) hx hb dX1_placeOf_17 (by decide) (fun c_6 => ?_) (fun c_6 => ?_)
      · exact absurd hrd (bI_0 c_6)
      · have c_6 := bI_n0 c_6
        refine lv_iload_n hx hb dX1_placeOf_20 rfl (lv_at hl 1 rfl) ?_
        refine lv_if_eq (tgt := 34) hx hb dX1_placeOf_21 (by decide) (fun c_7 => ?_) (fun c_7 => ?_)
        · exact absurd hneg (by rw [c_7]; decide)
        · by_cases hq : i - 1 < 0
          · refine lv_aload_n hx hb dX1_placeOf_24 rfl (lv_at hl 0 rfl) ?_
            refine lv_iload_n hx hb dX1_placeOf_25 rfl (lv_at hl 1 rfl) ?_
            refine lv_iconst (v := 1) hx hb dX1_placeOf_26 (by decide) ?_
            refine lv_isub hx hb dX1_placeOf_27 ?_
            have hFc := va_free (wc := mw g0 g1 g2 cA (tb, n, kb, ln, rd, fp, 0, mt, bg)) hD hS hA [0, 1, 2] rfl
            refine va_calli (va_runV (As := [.int (i - 1)]) (rest := []) ⟨hx, hb, hml, hown, hts⟩ (c_X1_go_off l dC dI g0 g1 g2 cA H.size tb n kb ln rd fp 0 mt bg (i - 1) (Or.inr hq)) (cwV 1 hts gX1_placeOf_X1_go rfl rfl rfl (by decide +kernel) ⟨Nat.le_of_ble_eq_true rfl, Nat.le_of_ble_eq_true rfl⟩) ⟨mmut_blind, va_recv hK hP (ci := 1) (q0 := 0) rfl rfl, fun U hU hW => ⟨rfl, mmut_of hP hK hD hU hW⟩⟩ rfl rfl hl.1 rfl (lv_room (Nat.le_of_ble_eq_true rfl)) dX1_placeOf_28 ⟨Nat.le_of_ble_eq_true rfl, Nat.le_of_ble_eq_true rfl⟩) hS (fun q _ h => hFc q h) hFc (fun r_8 u_8 t_8 H1 locs ht hvm hw hB hz1 hk1 hS => ?_)
            obtain ⟨hw0, hw1⟩ := hw
            obtain rfl : r_8 = 0 := hw0
            obtain rfl : u_8 = (tb, n, kb, ln, rd, fp, 0, mt, bg) := hw1
            obtain ⟨hP1, hK1, hD1⟩ := hB
            rw [ht] at hP1
            obtain ⟨hP, hD⟩ := va_join (wr := []) (w1 := mw g0 g1 g2 cA (tb, n, kb, ln, rd, fp, 0, mt, bg)) hP hD [0, 1, 2] [] rfl rfl (by decide) (by decide) hk1 hFc hP1 hD1
            generalize H1 = H at hP hS ⊢
            have hP : va_P (dC, dI) vwCl [(g0, .inr (1, [.ref g1, .int (nI n), .ref g2, .int (nI ln), .int (bI rd), .int fp, .int (nI 0), .int mt, .int bg])), (g1, .inl (cA, 1000, .inl (fun j => nI (tb j)))), (g2, .inl (cA, 1000, .inl (fun j => nI (kb j))))] H := hP
            have hD : va_D A [(g0, .inr (1, [.ref g1, .int (nI n), .ref g2, .int (nI ln), .int (bI rd), .int fp, .int (nI 0), .int mt, .int bg])), (g1, .inl (cA, 1000, .inl (fun j => nI (tb j)))), (g2, .inl (cA, 1000, .inl (fun j => nI (kb j))))] := hD
            refine lv_if_eq (tgt := 53) hx hb dX1_placeOf_31 (by decide) (fun c_9 => ?_) (fun c_9 => ?_)
            · have c_9 : 0 = 0 := (nI_eq (a := 0) (b := 0) (by omega) (by omega)).mp c_9
              refine lv_iconst (v := -1) hx hb dX1_placeOf_53 (by decide) ?_
              have hP9 : va_P (dC, dI) vwCl (mw g0 g1 g2 cA (tb, n, kb, ln, rd, fp, 0, mt, bg)) H := hP
              have hD9 : va_D A (mw g0 g1 g2 cA (tb, n, kb, ln, rd, fp, 0, mt, bg)) := hD
              exact W.iret (v := (-1)) hx hb hr (fun t ht hW => ⟨⟨(-1), (tb, n, kb, ln, rd, fp, 0, mt, bg), rfl, ⟨rfl, _, _, _, rfl⟩, by rw [ht]; exact hP9, va_K.moved hW.alike hK, hD9⟩, hS.F ht⟩) hS.2.2 dX1_placeOf_54
            · exact absurd c_9 (by decide)
          · refine lv_aload_n hx hb dX1_placeOf_24 rfl (lv_at hl 0 rfl) ?_
            refine lv_iload_n hx hb dX1_placeOf_25 rfl (lv_at hl 1 rfl) ?_
            refine lv_iconst (v := 1) hx hb dX1_placeOf_26 (by decide) ?_
            refine lv_isub hx hb dX1_placeOf_27 ?_
            have hFc := va_free (wc := mw g0 g1 g2 cA (tb, n, kb, ln, rd, fp, 0, mt, bg)) hD hS hA [0, 1, 2] rfl
            refine va_calli (va_runV (As := [.int (i - 1)]) (rest := []) ⟨hx, hb, hml, hown, hts⟩ (c_X1_go_far l dC dI g0 g1 g2 cA H.size tb n kb ln rd fp 0 mt bg hkb hln k mf bf sg (hch hrd) (i - 1) hk hrd (Int32.not_lt.mp hq) (wrap_far hk hneg (Int32.not_lt.mp hq))) (cwV 1 hts gX1_placeOf_X1_go rfl rfl rfl (by decide +kernel) ⟨Nat.le_of_ble_eq_true rfl, Nat.le_of_ble_eq_true rfl⟩) ⟨mmut_blind, va_recv hK hP (ci := 1) (q0 := 0) rfl rfl, fun U hU hW => ⟨rfl, mmut_of hP hK hD hU hW⟩⟩ rfl rfl hl.1 rfl (lv_room (Nat.le_of_ble_eq_true rfl)) dX1_placeOf_28 ⟨Nat.le_of_ble_eq_true rfl, Nat.le_of_ble_eq_true rfl⟩) hS (fun q _ h => hFc q h) hFc (fun r_10 u_10 t_10 H1 locs ht hvm hw hB hz1 hk1 hS => ?_)
            obtain ⟨hw0, st_10, mt_10, bg_10, hw1⟩ := hw
            obtain rfl : r_10 = 0 := hw0
            obtain rfl : u_10 = (tb, n, kb, ln, rd, fp, st_10, mt_10, bg_10) := hw1
            obtain ⟨hP1, hK1, hD1⟩ := hB
            rw [ht] at hP1
            obtain ⟨hP, hD⟩ := va_join (wr := []) (w1 := mw g0 g1 g2 cA (tb, n, kb, ln, rd, fp, st_10, mt_10, bg_10)) hP hD [0, 1, 2] [] rfl rfl (by decide) (by decide) hk1 hFc hP1 hD1
            generalize H1 = H at hP hS ⊢
            have hP : va_P (dC, dI) vwCl [(g0, .inr (1, [.ref g1, .int (nI n), .ref g2, .int (nI ln), .int (bI rd), .int fp, .int (nI st_10), .int mt_10, .int bg_10])), (g1, .inl (cA, 1000, .inl (fun j => nI (tb j)))), (g2, .inl (cA, 1000, .inl (fun j => nI (kb j))))] H := hP
            have hD : va_D A [(g0, .inr (1, [.ref g1, .int (nI n), .ref g2, .int (nI ln), .int (bI rd), .int fp, .int (nI st_10), .int mt_10, .int bg_10])), (g1, .inl (cA, 1000, .inl (fun j => nI (tb j)))), (g2, .inl (cA, 1000, .inl (fun j => nI (kb j))))] := hD
            refine lv_if_eq (tgt := 53) hx hb dX1_placeOf_31 (by decide) (fun c_11 => ?_) (fun c_11 => ?_)
            · have c_11 : 0 = 0 := (nI_eq (a := 0) (b := 0) (by omega) (by omega)).mp c_11
              refine lv_iconst (v := -1) hx hb dX1_placeOf_53 (by decide) ?_
              have hP9 : va_P (dC, dI) vwCl (mw g0 g1 g2 cA (tb, n, kb, ln, rd, fp, st_10, mt_10, bg_10)) H := hP
              have hD9 : va_D A (mw g0 g1 g2 cA (tb, n, kb, ln, rd, fp, st_10, mt_10, bg_10)) := hD
              exact W.iret (v := (-1)) hx hb hr (fun t ht hW => ⟨⟨(-1), (tb, n, kb, ln, rd, fp, st_10, mt_10, bg_10), rfl, ⟨rfl, _, _, _, rfl⟩, by rw [ht]; exact hP9, va_K.moved hW.alike hK, hD9⟩, hS.F ht⟩) hS.2.2 dX1_placeOf_54
            · exact absurd c_11 (by decide)
    · exact absurd c_5 (by decide)
  · refine lv_aload_n hx hb dX1_placeOf_0 rfl (lv_at hl 0 rfl) ?_
    refine lv_iload_n hx hb dX1_placeOf_1 rfl (lv_at hl 1 rfl) ?_
    have hFc := va_free (wc := mw g0 g1 g2 cA (tb, n, kb, ln, rd, fp, st, mt, bg)) hD hS hA [0, 1, 2] rfl
    refine va_calli (va_runV (As := [.int (nI j)]) (rest := []) ⟨hx, hb, hml, hown, hts⟩ (c_X1_go_yes l dC dI g0 g1 g2 cA s.heap.size tb n kb ln rd fp st mt bg hkb hln k mf bf sg (hch hrd) j hj hk hrd) (cwV 1 hts gX1_placeOf_X1_go rfl rfl rfl (by decide +kernel) ⟨Nat.le_of_ble_eq_true rfl, Nat.le_of_ble_eq_true rfl⟩) ⟨mmut_blind, va_recv hK hP (ci := 1) (q0 := 0) rfl rfl, fun U hU hW => ⟨rfl, mmut_of hP hK hD hU hW⟩⟩ rfl rfl hl.1 rfl (lv_room (Nat.le_of_ble_eq_true rfl)) dX1_placeOf_2 ⟨Nat.le_of_ble_eq_true rfl, Nat.le_of_ble_eq_true rfl⟩) hS (fun q _ h => hFc q h) hFc (fun r_12 u_12 t_12 H1 locs ht hvm hw hB hz1 hk1 hS => ?_)
    obtain ⟨hw0, hw1⟩ := hw
    obtain rfl : r_12 = 1 := hw0
    obtain rfl : u_12 = (tb, n, kb, ln, rd, fp, (sg (j + 1)), (nI (mf j)), (nI (bf j))) := hw1
    obtain ⟨hP1, hK1, hD1⟩ := hB
    rw [ht] at hP1
    obtain ⟨hP, hD⟩ := va_join (wr := []) (w1 := mw g0 g1 g2 cA (tb, n, kb, ln, rd, fp, (sg (j + 1)), (nI (mf j)), (nI (bf j)))) hP hD [0, 1, 2] [] rfl rfl (by decide) (by decide) hk1 hFc hP1 hD1
    generalize H1 = H at hP hS ⊢
    have hP : va_P (dC, dI) vwCl [(g0, .inr (1, [.ref g1, .int (nI n), .ref g2, .int (nI ln), .int (bI rd), .int fp, .int (nI (sg (j + 1))), .int (nI (mf j)), .int (nI (bf j))])), (g1, .inl (cA, 1000, .inl (fun j => nI (tb j)))), (g2, .inl (cA, 1000, .inl (fun j => nI (kb j))))] H := hP
    have hD : va_D A [(g0, .inr (1, [.ref g1, .int (nI n), .ref g2, .int (nI ln), .int (bI rd), .int fp, .int (nI (sg (j + 1))), .int (nI (mf j)), .int (nI (bf j))])), (g1, .inl (cA, 1000, .inl (fun j => nI (tb j)))), (g2, .inl (cA, 1000, .inl (fun j => nI (kb j))))] := hD
    refine lv_if_eq (tgt := 13) hx hb dX1_placeOf_5 (by decide) (fun c_13 => ?_) (fun c_13 => ?_)
    · exact absurd c_13 (by decide)
    · have c_13 : ¬ 1 = 0 := fun zz => c_13 ((nI_eq (a := 1) (b := 0) (by omega) (by omega)).mpr zz)
      refine lv_aload_n hx hb dX1_placeOf_8 rfl (lv_at hl 0 rfl) ?_
      refine va_get (D := (dC, dI)) (ci := 1) (v := .int (nI (bf j))) (C := RX1) (T := TX1) (N := 9) hx hb hts hIn hown hK hP 0 rfl rfl 8 (by decide) (hts (.fieldLink RX1 50 RX1 "began" "I") (by decide +kernel)) (fun _ h9 => h9) rfl dX1_placeOf_9 ?_
      have hP9 : va_P (dC, dI) vwCl (mw g0 g1 g2 cA (tb, n, kb, ln, rd, fp, (sg (j + 1)), (nI (mf j)), (nI (bf j)))) H := hP
      have hD9 : va_D A (mw g0 g1 g2 cA (tb, n, kb, ln, rd, fp, (sg (j + 1)), (nI (mf j)), (nI (bf j)))) := hD
      exact W.iret (v := nI (bf j)) hx hb hr (fun t ht hW => ⟨⟨nI (bf j), (tb, n, kb, ln, rd, fp, (sg (j + 1)), (nI (mf j)), (nI (bf j))), rfl, ⟨rfl, _, _, _, rfl⟩, by rw [ht]; exact hP9, va_K.moved hW.alike hK, hD9⟩, hS.F ht⟩) hS.2.2 dX1_placeOf_12
  · refine lv_aload_n hx hb dX1_placeOf_0 rfl (lv_at hl 0 rfl) ?_
    refine lv_iload_n hx hb dX1_placeOf_1 rfl (lv_at hl 1 rfl) ?_
    have hFc := va_free (wc := mw g0 g1 g2 cA (tb, n, kb, ln, rd, fp, st, mt, bg)) hD hS hA [0, 1, 2] rfl
    refine va_calli (va_runV (As := [.int (nI k)]) (rest := []) ⟨hx, hb, hml, hown, hts⟩ (c_X1_go_far l dC dI g0 g1 g2 cA s.heap.size tb n kb ln rd fp st mt bg hkb hln k mf bf sg (hch hrd) (nI k) hk hrd (nI_pos' (by omega)) (Int32.le_refl _)) (cwV 1 hts gX1_placeOf_X1_go rfl rfl rfl (by decide +kernel) ⟨Nat.le_of_ble_eq_true rfl, Nat.le_of_ble_eq_true rfl⟩) ⟨mmut_blind, va_recv hK hP (ci := 1) (q0 := 0) rfl rfl, fun U hU hW => ⟨rfl, mmut_of hP hK hD hU hW⟩⟩ rfl rfl hl.1 rfl (lv_room (Nat.le_of_ble_eq_true rfl)) dX1_placeOf_2 ⟨Nat.le_of_ble_eq_true rfl, Nat.le_of_ble_eq_true rfl⟩) hS (fun q _ h => hFc q h) hFc (fun r_14 u_14 t_14 H1 locs ht hvm hw hB hz1 hk1 hS => ?_)
    obtain ⟨hw0, st_14, mt_14, bg_14, hw1⟩ := hw
    obtain rfl : r_14 = 0 := hw0
    obtain rfl : u_14 = (tb, n, kb, ln, rd, fp, st_14, mt_14, bg_14) := hw1
    obtain ⟨hP1, hK1, hD1⟩ := hB
    rw [ht] at hP1
    obtain ⟨hP, hD⟩ := va_join (wr := []) (w1 := mw g0 g1 g2 cA (tb, n, kb, ln, rd, fp, st_14, mt_14, bg_14)) hP hD [0, 1, 2] [] rfl rfl (by decide) (by decide) hk1 hFc hP1 hD1
    generalize H1 = H at hP hS ⊢
    have hP : va_P (dC, dI) vwCl [(g0, .inr (1, [.ref g1, .int (nI n), .ref g2, .int (nI ln), .int (bI rd), .int fp, .int (nI st_14), .int mt_14, .int bg_14])), (g1, .inl (cA, 1000, .inl (fun j => nI (tb j)))), (g2, .inl (cA, 1000, .inl (fun j => nI (kb j))))] H := hP
    have hD : va_D A [(g0, .inr (1, [.ref g1, .int (nI n), .ref g2, .int (nI ln), .int (bI rd), .int fp, .int (nI st_14), .int mt_14, .int bg_14])), (g1, .inl (cA, 1000, .inl (fun j => nI (tb j)))), (g2, .inl (cA, 1000, .inl (fun j => nI (kb j))))] := hD
    refine lv_if_eq (tgt := 13) hx hb dX1_placeOf_5 (by decide) (fun c_15 => ?_) (fun c_15 => ?_)
    · have c_15 : 0 = 0 := (nI_eq (a := 0) (b := 0) (by omega) (by omega)).mp c_15
      refine lv_aload_n hx hb dX1_placeOf_13 rfl (lv_at hl 0 rfl) ?_
      refine va_get (D := (dC, dI)) (ci := 1) (v := .int (bI rd)) (C := RX1) (T := TX1) (N := 9) hx hb hts hIn hown hK hP 0 rfl rfl 4 (by decide) (hts (.fieldLink RX1 60 RX1 "read" "Z") (by decide +kernel)) (fun _ h9 => h9) rfl dX1_placeOf_14 ?_
      refine lv_if_eq (tgt := 53) hx hb dX1_placeOf_17 (by decide) (fun c_16 => ?_) (fun c_16 => ?_)
      · exact absurd hrd (bI_0 c_16)
      · have c_16 := bI_n0 c_16
        refine lv_iload_n hx hb dX1_placeOf_20 rfl (lv_at hl 1 rfl) ?_
        refine lv_if_eq (tgt := 34) hx hb dX1_placeOf_21 (by decide) (fun c_17 => ?_) (fun c_17 => ?_)
        · have c_17 : k = 0 := (nI_eq (a := k) (b := 0) (by omega) (by omega)).mp c_17
          refine lv_iload_n hx hb dX1_placeOf_34 rfl (lv_at hl 1 rfl) ?_
          refine lv_if_lt (tgt := 53) hx hb dX1_placeOf_35 (by decide) (fun c_18 => ?_) (fun c_18 => ?_)
          · exact absurd c_18 (nI_pos (by omega))
          · have c_18 : ¬ k < 0 := fun zz => c_18 ((nI_ltI (a := k) (b := 0) (by omega) (by omega)).mpr zz)
            refine lv_aload_n hx hb dX1_placeOf_38 rfl (lv_at hl 0 rfl) ?_
            refine lv_iload_n hx hb dX1_placeOf_39 rfl (lv_at hl 1 rfl) ?_
            have hFc := va_free (wc := mw g0 g1 g2 cA (tb, n, kb, ln, rd, fp, st_14, mt_14, bg_14)) hD hS hA [0, 1, 2] rfl
            refine va_calli (va_runV (As := [.int (nI k)]) (rest := []) ⟨hx, hb, hml, hown, hts⟩ (c_X1_go_far l dC dI g0 g1 g2 cA H.size tb n kb ln rd fp st_14 mt_14 bg_14 hkb hln k mf bf sg (hch hrd) (nI k) hk hrd (nI_pos' (by omega)) (Int32.le_refl _)) (cwV 1 hts gX1_placeOf_X1_go rfl rfl rfl (by decide +kernel) ⟨Nat.le_of_ble_eq_true rfl, Nat.le_of_ble_eq_true rfl⟩) ⟨mmut_blind, va_recv hK hP (ci := 1) (q0 := 0) rfl rfl, fun U hU hW => ⟨rfl, mmut_of hP hK hD hU hW⟩⟩ rfl rfl hl.1 rfl (lv_room (Nat.le_of_ble_eq_true rfl)) dX1_placeOf_40 ⟨Nat.le_of_ble_eq_true rfl, Nat.le_of_ble_eq_true rfl⟩) hS (fun q _ h => hFc q h) hFc (fun r_19 u_19 t_19 H1 locs ht hvm hw hB hz1 hk1 hS => ?_)
            obtain ⟨hw0, st_19, mt_19, bg_19, hw1⟩ := hw
            obtain rfl : r_19 = 0 := hw0
            obtain rfl : u_19 = (tb, n, kb, ln, rd, fp, st_19, mt_19, bg_19) := hw1
            obtain ⟨hP1, hK1, hD1⟩ := hB
            rw [ht] at hP1
            obtain ⟨hP, hD⟩ := va_join (wr := []) (w1 := mw g0 g1 g2 cA (tb, n, kb, ln, rd, fp, st_19, mt_19, bg_19)) hP hD [0, 1, 2] [] rfl rfl (by decide) (by decide) hk1 hFc hP1 hD1
            generalize H1 = H at hP hS ⊢
            have hP : va_P (dC, dI) vwCl [(g0, .inr (1, [.ref g1, .int (nI n), .ref g2, .int (nI ln), .int (bI rd), .int fp, .int (nI st_19), .int mt_19, .int bg_19])), (g1, .inl (cA, 1000, .inl (fun j => nI (tb j)))), (g2, .inl (cA, 1000, .inl (fun j => nI (kb j))))] H := hP
            have hD : va_D A [(g0, .inr (1, [.ref g1, .int (nI n), .ref g2, .int (nI ln), .int (bI rd), .int fp, .int (nI st_19), .int mt_19, .int bg_19])), (g1, .inl (cA, 1000, .inl (fun j => nI (tb j)))), (g2, .inl (cA, 1000, .inl (fun j => nI (kb j))))] := hD
            refine lv_if_ne (tgt := 53) hx hb dX1_placeOf_43 (by decide) (fun c_20 => ?_) (fun c_20 => ?_)
            · exact absurd c_20 (by decide)
            · have c_20 : 0 = 0 := (nI_eq (a := 0) (b := 0) (by omega) (by omega)).mp c_20
              refine lv_aload_n hx hb dX1_placeOf_46 rfl (lv_at hl 0 rfl) ?_
              refine va_get (D := (dC, dI)) (ci := 1) (v := .int (nI ln)) (C := RX1) (T := TX1) (N := 9) hx hb hts hIn hown hK hP 0 rfl rfl 3 (by decide) (hts (.fieldLink RX1 44 RX1 "length" "I") (by decide +kernel)) (fun _ h9 => h9) rfl dX1_placeOf_47 ?_
              refine lv_goto (tgt := 54) hx hb dX1_placeOf_50 (by decide) ?_
              have hP9 : va_P (dC, dI) vwCl (mw g0 g1 g2 cA (tb, n, kb, ln, rd, fp, st_19, mt_19, bg_19)) H := hP
              have hD9 : va_D A (mw g0 g1 g2 cA (tb, n, kb, ln, rd, fp, st_19, mt_19, bg_19)) := hD
              exact W.iret (v := nI ln) hx hb hr (fun t ht hW => ⟨⟨nI ln, (tb, n, kb, ln, rd, fp, st_19, mt_19, bg_19), rfl, ⟨rfl, _, _, _, rfl⟩, by rw [ht]; exact hP9, va_K.moved hW.alike hK, hD9⟩, hS.F ht⟩) hS.2.2 dX1_placeOf_54
        · have c_17 : ¬ k = 0 := fun zz => c_17 ((nI_eq (a := k) (b := 0) (by omega) (by omega)).mpr zz)
          refine lv_aload_n hx hb dX1_placeOf_24 rfl (lv_at hl 0 rfl) ?_
          refine lv_iload_n hx hb dX1_placeOf_25 rfl (lv_at hl 1 rfl) ?_
          refine lv_iconst (v := 1) hx hb dX1_placeOf_26 (by decide) ?_
          refine lv_isub hx hb dX1_placeOf_27 ?_
          refine lv_topi (fun x_21 ex_21 => ?_)
          obtain rfl : x_21 = nI (k - 1) := ex_21.trans (pk_sub (a := k) (b := 1) (by omega))
          have hFc := va_free (wc := mw g0 g1 g2 cA (tb, n, kb, ln, rd, fp, st_14, mt_14, bg_14)) hD hS hA [0, 1, 2] rfl
          refine va_calli (va_runV (As := [.int (nI (k - 1))]) (rest := []) ⟨hx, hb, hml, hown, hts⟩ (c_X1_go_yes l dC dI g0 g1 g2 cA H.size tb n kb ln rd fp st_14 mt_14 bg_14 hkb hln k mf bf sg (hch hrd) (k - 1) (by omega) hk hrd) (cwV 1 hts gX1_placeOf_X1_go rfl rfl rfl (by decide +kernel) ⟨Nat.le_of_ble_eq_true rfl, Nat.le_of_ble_eq_true rfl⟩) ⟨mmut_blind, va_recv hK hP (ci := 1) (q0 := 0) rfl rfl, fun U hU hW => ⟨rfl, mmut_of hP hK hD hU hW⟩⟩ rfl rfl hl.1 rfl (lv_room (Nat.le_of_ble_eq_true rfl)) dX1_placeOf_28 ⟨Nat.le_of_ble_eq_true rfl, Nat.le_of_ble_eq_true rfl⟩) hS (fun q _ h => hFc q h) hFc (fun r_22 u_22 t_22 H1 locs ht hvm hw hB hz1 hk1 hS => ?_)
          obtain ⟨hw0, hw1⟩ := hw
          obtain rfl : r_22 = 1 := hw0
          obtain rfl : u_22 = (tb, n, kb, ln, rd, fp, (sg ((k - 1) + 1)), (nI (mf (k - 1))), (nI (bf (k - 1)))) := hw1
          obtain ⟨hP1, hK1, hD1⟩ := hB
          rw [ht] at hP1
          obtain ⟨hP, hD⟩ := va_join (wr := []) (w1 := mw g0 g1 g2 cA (tb, n, kb, ln, rd, fp, (sg ((k - 1) + 1)), (nI (mf (k - 1))), (nI (bf (k - 1))))) hP hD [0, 1, 2] [] rfl rfl (by decide) (by decide) hk1 hFc hP1 hD1
          generalize H1 = H at hP hS ⊢
          have hP : va_P (dC, dI) vwCl [(g0, .inr (1, [.ref g1, .int (nI n), .ref g2, .int (nI ln), .int (bI rd), .int fp, .int (nI (sg ((k - 1) + 1))), .int (nI (mf (k - 1))), .int (nI (bf (k - 1)))])), (g1, .inl (cA, 1000, .inl (fun j => nI (tb j)))), (g2, .inl (cA, 1000, .inl (fun j => nI (kb j))))] H := hP
          have hD : va_D A [(g0, .inr (1, [.ref g1, .int (nI n), .ref g2, .int (nI ln), .int (bI rd), .int fp, .int (nI (sg ((k - 1) + 1))), .int (nI (mf (k - 1))), .int (nI (bf (k - 1)))])), (g1, .inl (cA, 1000, .inl (fun j => nI (tb j)))), (g2, .inl (cA, 1000, .inl (fun j => nI (kb j))))] := hD
          refine lv_if_eq (tgt := 53) hx hb dX1_placeOf_31 (by decide) (fun c_23 => ?_) (fun c_23 => ?_)
          · exact absurd c_23 (by decide)
          · have c_23 : ¬ 1 = 0 := fun zz => c_23 ((nI_eq (a := 1) (b := 0) (by omega) (by omega)).mpr zz)
            refine lv_iload_n hx hb dX1_placeOf_34 rfl (lv_at hl 1 rfl) ?_
            refine lv_if_lt (tgt := 53) hx hb dX1_placeOf_35 (by decide) (fun c_24 => ?_) (fun c_24 => ?_)
            · exact absurd c_24 (nI_pos (by omega))
            · have c_24 : ¬ k < 0 := fun zz => c_24 ((nI_ltI (a := k) (b := 0) (by omega) (by omega)).mpr zz)
              refine lv_aload_n hx hb dX1_placeOf_38 rfl (lv_at hl 0 rfl) ?_
              refine lv_iload_n hx hb dX1_placeOf_39 rfl (lv_at hl 1 rfl) ?_
              have hFc := va_free (wc := mw g0 g1 g2 cA (tb, n, kb, ln, rd, fp, (sg ((k - 1) + 1)), (nI (mf (k - 1))), (nI (bf (k - 1))))) hD hS hA [0, 1, 2] rfl
              refine va_calli (va_runV (As := [.int (nI k)]) (rest := []) ⟨hx, hb, hml, hown, hts⟩ (c_X1_go_far l dC dI g0 g1 g2 cA H.size tb n kb ln rd fp (sg ((k - 1) + 1)) (nI (mf (k - 1))) (nI (bf (k - 1))) hkb hln k mf bf sg (hch hrd) (nI k) hk hrd (nI_pos' (by omega)) (Int32.le_refl _)) (cwV 1 hts gX1_placeOf_X1_go rfl rfl rfl (by decide +kernel) ⟨Nat.le_of_ble_eq_true rfl, Nat.le_of_ble_eq_true rfl⟩) ⟨mmut_blind, va_recv hK hP (ci := 1) (q0 := 0) rfl rfl, fun U hU hW => ⟨rfl, mmut_of hP hK hD hU hW⟩⟩ rfl rfl hl.1 rfl (lv_room (Nat.le_of_ble_eq_true rfl)) dX1_placeOf_40 ⟨Nat.le_of_ble_eq_true rfl, Nat.le_of_ble_eq_true rfl⟩) hS (fun q _ h => hFc q h) hFc (fun r_25 u_25 t_25 H1 locs ht hvm hw hB hz1 hk1 hS => ?_)
              obtain ⟨hw0, st_25, mt_25, bg_25, hw1⟩ := hw
              obtain rfl : r_25 = 0 := hw0
              obtain rfl : u_25 = (tb, n, kb, ln, rd, fp, st_25, mt_25, bg_25) := hw1
              obtain ⟨hP1, hK1, hD1⟩ := hB
              rw [ht] at hP1
              obtain ⟨hP, hD⟩ := va_join (wr := []) (w1 := mw g0 g1 g2 cA (tb, n, kb, ln, rd, fp, st_25, mt_25, bg_25)) hP hD [0, 1, 2] [] rfl rfl (by decide) (by decide) hk1 hFc hP1 hD1
              generalize H1 = H at hP hS ⊢
              have hP : va_P (dC, dI) vwCl [(g0, .inr (1, [.ref g1, .int (nI n), .ref g2, .int (nI ln), .int (bI rd), .int fp, .int (nI st_25), .int mt_25, .int bg_25])), (g1, .inl (cA, 1000, .inl (fun j => nI (tb j)))), (g2, .inl (cA, 1000, .inl (fun j => nI (kb j))))] H := hP
              have hD : va_D A [(g0, .inr (1, [.ref g1, .int (nI n), .ref g2, .int (nI ln), .int (bI rd), .int fp, .int (nI st_25), .int mt_25, .int bg_25])), (g1, .inl (cA, 1000, .inl (fun j => nI (tb j)))), (g2, .inl (cA, 1000, .inl (fun j => nI (kb j))))] := hD
              refine lv_if_ne (tgt := 53) hx hb dX1_placeOf_43 (by decide) (fun c_26 => ?_) (fun c_26 => ?_)
              · exact absurd c_26 (by decide)
              · have c_26 : 0 = 0 := (nI_eq (a := 0) (b := 0) (by omega) (by omega)).mp c_26
                refine lv_aload_n hx hb dX1_placeOf_46 rfl (lv_at hl 0 rfl) ?_
                refine va_get (D := (dC, dI)) (ci := 1) (v := .int (nI ln)) (C := RX1) (T := TX1) (N := 9) hx hb hts hIn hown hK hP 0 rfl rfl 3 (by decide) (hts (.fieldLink RX1 44 RX1 "length" "I") (by decide +kernel)) (fun _ h9 => h9) rfl dX1_placeOf_47 ?_
                refine lv_goto (tgt := 54) hx hb dX1_placeOf_50 (by decide) ?_
                have hP9 : va_P (dC, dI) vwCl (mw g0 g1 g2 cA (tb, n, kb, ln, rd, fp, st_25, mt_25, bg_25)) H := hP
                have hD9 : va_D A (mw g0 g1 g2 cA (tb, n, kb, ln, rd, fp, st_25, mt_25, bg_25)) := hD
                exact W.iret (v := nI ln) hx hb hr (fun t ht hW => ⟨⟨nI ln, (tb, n, kb, ln, rd, fp, st_25, mt_25, bg_25), rfl, ⟨rfl, _, _, _, rfl⟩, by rw [ht]; exact hP9, va_K.moved hW.alike hK, hD9⟩, hS.F ht⟩) hS.2.2 dX1_placeOf_54
    · exact absurd c_15 (by decide)
  · refine lv_aload_n hx hb dX1_placeOf_0 rfl (lv_at hl 0 rfl) ?_
    refine lv_iload_n hx hb dX1_placeOf_1 rfl (lv_at hl 1 rfl) ?_
    have hFc := va_free (wc := mw g0 g1 g2 cA (tb, n, kb, ln, rd, fp, st, mt, bg)) hD hS hA [0, 1, 2] rfl
    refine va_calli (va_runV (As := [.int (nI j)]) (rest := []) ⟨hx, hb, hml, hown, hts⟩ (c_X1_go_far l dC dI g0 g1 g2 cA s.heap.size tb n kb ln rd fp st mt bg hkb hln k mf bf sg (hch hrd) (nI j) hk hrd (nI_pos' (by omega)) (nI_le (by omega) (by omega))) (cwV 1 hts gX1_placeOf_X1_go rfl rfl rfl (by decide +kernel) ⟨Nat.le_of_ble_eq_true rfl, Nat.le_of_ble_eq_true rfl⟩) ⟨mmut_blind, va_recv hK hP (ci := 1) (q0 := 0) rfl rfl, fun U hU hW => ⟨rfl, mmut_of hP hK hD hU hW⟩⟩ rfl rfl hl.1 rfl (lv_room (Nat.le_of_ble_eq_true rfl)) dX1_placeOf_2 ⟨Nat.le_of_ble_eq_true rfl, Nat.le_of_ble_eq_true rfl⟩) hS (fun q _ h => hFc q h) hFc (fun r_27 u_27 t_27 H1 locs ht hvm hw hB hz1 hk1 hS => ?_)
    obtain ⟨hw0, st_27, mt_27, bg_27, hw1⟩ := hw
    obtain rfl : r_27 = 0 := hw0
    obtain rfl : u_27 = (tb, n, kb, ln, rd, fp, st_27, mt_27, bg_27) := hw1
    obtain ⟨hP1, hK1, hD1⟩ := hB
    rw [ht] at hP1
    obtain ⟨hP, hD⟩ := va_join (wr := []) (w1 := mw g0 g1 g2 cA (tb, n, kb, ln, rd, fp, st_27, mt_27, bg_27)) hP hD [0, 1, 2] [] rfl rfl (by decide) (by decide) hk1 hFc hP1 hD1
    generalize H1 = H at hP hS ⊢
    have hP : va_P (dC, dI) vwCl [(g0, .inr (1, [.ref g1, .int (nI n), .ref g2, .int (nI ln), .int (bI rd), .int fp, .int (nI st_27), .int mt_27, .int bg_27])), (g1, .inl (cA, 1000, .inl (fun j => nI (tb j)))), (g2, .inl (cA, 1000, .inl (fun j => nI (kb j))))] H := hP
    have hD : va_D A [(g0, .inr (1, [.ref g1, .int (nI n), .ref g2, .int (nI ln), .int (bI rd), .int fp, .int (nI st_27), .int mt_27, .int bg_27])), (g1, .inl (cA, 1000, .inl (fun j => nI (tb j)))), (g2, .inl (cA, 1000, .inl (fun j => nI (kb j))))] := hD
    refine lv_if_eq (tgt := 13) hx hb dX1_placeOf_5 (by decide) (fun c_28 => ?_) (fun c_28 => ?_)
    · have c_28 : 0 = 0 := (nI_eq (a := 0) (b := 0) (by omega) (by omega)).mp c_28
      refine lv_aload_n hx hb dX1_placeOf_13 rfl (lv_at hl 0 rfl) ?_
      refine va_get (D := (dC, dI)) (ci := 1) (v := .int (bI rd)) (C := RX1) (T := TX1) (N := 9) hx hb hts hIn hown hK hP 0 rfl rfl 4 (by decide) (hts (.fieldLink RX1 60 RX1 "read" "Z") (by decide +kernel)) (fun _ h9 => h9) rfl dX1_placeOf_14 ?_
      refine lv_if_eq (tgt := 53) hx hb dX1_placeOf_17 (by decide) (fun c_29 => ?_) (fun c_29 => ?_)
      · exact absurd hrd (bI_0 c_29)
      · have c_29 := bI_n0 c_29
        refine lv_iload_n hx hb dX1_placeOf_20 rfl (lv_at hl 1 rfl) ?_
        refine lv_if_eq (tgt := 34) hx hb dX1_placeOf_21 (by decide) (fun c_30 => ?_) (fun c_30 => ?_)
        · exact absurd c_30 (nI_ne0 (by omega) (by omega))
        · have c_30 : ¬ j = 0 := fun zz => c_30 ((nI_eq (a := j) (b := 0) (by omega) (by omega)).mpr zz)
          refine lv_aload_n hx hb dX1_placeOf_24 rfl (lv_at hl 0 rfl) ?_
          refine lv_iload_n hx hb dX1_placeOf_25 rfl (lv_at hl 1 rfl) ?_
          refine lv_iconst (v := 1) hx hb dX1_placeOf_26 (by decide) ?_
          refine lv_isub hx hb dX1_placeOf_27 ?_
          refine lv_topi (fun x_31 ex_31 => ?_)
          obtain rfl : x_31 = nI (j - 1) := ex_31.trans (pk_sub (a := j) (b := 1) (by omega))
          have hFc := va_free (wc := mw g0 g1 g2 cA (tb, n, kb, ln, rd, fp, st_27, mt_27, bg_27)) hD hS hA [0, 1, 2] rfl
          refine va_calli (va_runV (As := [.int (nI (j - 1))]) (rest := []) ⟨hx, hb, hml, hown, hts⟩ (c_X1_go_far l dC dI g0 g1 g2 cA H.size tb n kb ln rd fp st_27 mt_27 bg_27 hkb hln k mf bf sg (hch hrd) (nI (j - 1)) hk hrd (nI_pos' (by omega)) (nI_le (by omega) (by omega))) (cwV 1 hts gX1_placeOf_X1_go rfl rfl rfl (by decide +kernel) ⟨Nat.le_of_ble_eq_true rfl, Nat.le_of_ble_eq_true rfl⟩) ⟨mmut_blind, va_recv hK hP (ci := 1) (q0 := 0) rfl rfl, fun U hU hW => ⟨rfl, mmut_of hP hK hD hU hW⟩⟩ rfl rfl hl.1 rfl (lv_room (Nat.le_of_ble_eq_true rfl)) dX1_placeOf_28 ⟨Nat.le_of_ble_eq_true rfl, Nat.le_of_ble_eq_true rfl⟩) hS (fun q _ h => hFc q h) hFc (fun r_32 u_32 t_32 H1 locs ht hvm hw hB hz1 hk1 hS => ?_)
          obtain ⟨hw0, st_32, mt_32, bg_32, hw1⟩ := hw
          obtain rfl : r_32 = 0 := hw0
          obtain rfl : u_32 = (tb, n, kb, ln, rd, fp, st_32, mt_32, bg_32) := hw1
          obtain ⟨hP1, hK1, hD1⟩ := hB
          rw [ht] at hP1
          obtain ⟨hP, hD⟩ := va_join (wr := []) (w1 := mw g0 g1 g2 cA (tb, n, kb, ln, rd, fp, st_32, mt_32, bg_32)) hP hD [0, 1, 2] [] rfl rfl (by decide) (by decide) hk1 hFc hP1 hD1
          generalize H1 = H at hP hS ⊢
          have hP : va_P (dC, dI) vwCl [(g0, .inr (1, [.ref g1, .int (nI n), .ref g2, .int (nI ln), .int (bI rd), .int fp, .int (nI st_32), .int mt_32, .int bg_32])), (g1, .inl (cA, 1000, .inl (fun j => nI (tb j)))), (g2, .inl (cA, 1000, .inl (fun j => nI (kb j))))] H := hP
          have hD : va_D A [(g0, .inr (1, [.ref g1, .int (nI n), .ref g2, .int (nI ln), .int (bI rd), .int fp, .int (nI st_32), .int mt_32, .int bg_32])), (g1, .inl (cA, 1000, .inl (fun j => nI (tb j)))), (g2, .inl (cA, 1000, .inl (fun j => nI (kb j))))] := hD
          refine lv_if_eq (tgt := 53) hx hb dX1_placeOf_31 (by decide) (fun c_33 => ?_) (fun c_33 => ?_)
          · have c_33 : 0 = 0 := (nI_eq (a := 0) (b := 0) (by omega) (by omega)).mp c_33
            refine lv_iconst (v := -1) hx hb dX1_placeOf_53 (by decide) ?_
            have hP9 : va_P (dC, dI) vwCl (mw g0 g1 g2 cA (tb, n, kb, ln, rd, fp, st_32, mt_32, bg_32)) H := hP
            have hD9 : va_D A (mw g0 g1 g2 cA (tb, n, kb, ln, rd, fp, st_32, mt_32, bg_32)) := hD
            exact W.iret (v := (-1)) hx hb hr (fun t ht hW => ⟨⟨(-1), (tb, n, kb, ln, rd, fp, st_32, mt_32, bg_32), rfl, ⟨rfl, _, _, _, rfl⟩, by rw [ht]; exact hP9, va_K.moved hW.alike hK, hD9⟩, hS.F ht⟩) hS.2.2 dX1_placeOf_54
          · exact absurd c_33 (by decide)
    · exact absurd c_28 (by decide)
