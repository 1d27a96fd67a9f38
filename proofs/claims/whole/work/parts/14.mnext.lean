theorem s0N_le (kb : Nat → Nat) (ln st : Nat) : s0N kb ln st ≤ st + 3 := by
  unfold s0N
  by_cases c1 : st = 0
  · rw [if_pos c1]
    by_cases c2 : ln ≤ 2
    · rw [if_pos c2]; omega
    · rw [if_neg c2]
      by_cases c3 : kb 0 = 239
      · rw [if_pos c3]
        by_cases c4 : kb 1 = 187
        · rw [if_pos c4]
          by_cases c5 : kb 2 = 191
          · rw [if_pos c5]; omega
          · rw [if_neg c5]; omega
        · rw [if_neg c4]; omega
      · rw [if_neg c3]; omega
  · rw [if_neg c1]; omega
set_option maxHeartbeats 4000000 in
set_option maxRecDepth 100000 in
theorem c_X1_next_end (l : Launch) (dC : Nat → ClassId) (dI : Nat → Nat → Nat) (g0 g1 g2 : Nat) (cA : ClassId) (sz : Nat) (tb : Nat → Nat) (n : Nat) (kb : Nat → Nat) (ln : Nat) (rd : Bool) (fp : Int32) (st : Nat) (mt bg : Int32) (hkb : ∀ j, kb j < 256) (hln : ln ≤ 1000) (hst : st ≤ 1000) (hend : ln ≤ s0N kb ln st) : Met l yX1_next wsX1_next ({ frames := 2, cells := 0, slots := 0, locals := 46 }) (va_Pc [.ref g0] (fun U => mmut dC dI g0 g1 g2 cA sz (tb, n, kb, ln, rd, fp, st, mt, bg) U)) (va_Qi (fun (r : Int32) (u : MS) => r = 0 ∧ u = (tb, n, kb, ln, rd, fp, s0N kb ln st, mt, bg)) (matt dC dI g0 g1 g2 cA (va_A (mw g0 g1 g2 cA (tb, n, kb, ln, rd, fp, st, mt, bg)) sz)) (va_A (mw g0 g1 g2 cA (tb, n, kb, ln, rd, fp, st, mt, bg)) sz)) 0 0 (va_A (mw g0 g1 g2 cA (tb, n, kb, ln, rd, fp, st, mt, bg)) sz) := by
  refine Met.ofW (cc := cX1_next) (maxL := 1) (ret := (some .boolean)) (by decide) rfl ?_
  intro p e s m args below meth c s₁ B hml hv
  obtain ⟨rfl, hsz, hP, hK, hD0⟩ := hv
  have hx := B.exec
  have hb := B.bytes
  have hr := B.returns
  have hts := atoms_spec (ws := wsX1_next) B.pre
  have hown : s.vm.findClass RX1 = some m.cls := findClass_of_methodNamed B.named
  subst hsz
  have hD := hD0.self (sz := s.heap.size)
  generalize hAe : va_A (mw g0 g1 g2 cA (tb, n, kb, ln, rd, fp, st, mt, bg)) s.heap.size = A at hD ⊢
  have hA : ∀ q : Nat, s.heap.size ≤ q → A q := fun q h => by rw [← hAe]; exact Or.inr h
  have hS : va_S A s.heap s.heap [] := va_S.rf
  have hP : va_P (dC, dI) vwCl [(g0, .inr (1, [.ref g1, .int (nI n), .ref g2, .int (nI ln), .int (bI rd), .int fp, .int (nI st), .int mt, .int bg])), (g1, .inl (cA, 1000, .inl (fun j => nI (tb j)))), (g2, .inl (cA, 1000, .inl (fun j => nI (kb j))))] s.heap := hP
  have hD : va_D A [(g0, .inr (1, [.ref g1, .int (nI n), .ref g2, .int (nI ln), .int (bI rd), .int fp, .int (nI st), .int mt, .int bg])), (g1, .inl (cA, 1000, .inl (fun j => nI (tb j)))), (g2, .inl (cA, 1000, .inl (fun j => nI (kb j))))] := hD
  have hIn : ∀ w ∈ wsX10, w ∈ wsX1_next := by decide +kernel
  have hl := lv_entry ([.ref g0]) (n := 1) (Nat.le_of_ble_eq_true rfl)
  rw [lg_entry_eq]
  generalize (lg_sl ([.ref g0]) ++ List.replicate (1 - (lg_sl ([.ref g0])).length) Slot.unset).toArray = ls at hl ⊢
  have hl : lv_has ls 1 [(0, .ref g0)] := hl
  have hs3 : s0N kb ln st ≤ st + 3 := s0N_le kb ln st
  have j56 : ∀ (H : Heap) (locs : List Loc) (ls : Array Slot), va_P (dC, dI) vwCl [(g0, .inr (1, [.ref g1, .int (nI n), .ref g2, .int (nI ln), .int (bI rd), .int fp, .int (nI (s0N kb ln st)), .int mt, .int bg])), (g1, .inl (cA, 1000, .inl (fun j => nI (tb j)))), (g2, .inl (cA, 1000, .inl (fun j => nI (kb j))))] H → va_D A [(g0, .inr (1, [.ref g1, .int (nI n), .ref g2, .int (nI ln), .int (bI rd), .int fp, .int (nI (s0N kb ln st)), .int mt, .int bg])), (g1, .inl (cA, 1000, .inl (fun j => nI (tb j)))), (g2, .inl (cA, 1000, .inl (fun j => nI (kb j))))] → va_S A s.heap H locs → lv_has ls 1 [(0, .ref g0)] → W p l e (headSpec wsX1_next ({ frames := 2, cells := 0, slots := 0, locals := 46 })).room s m ([.ref g0] : List Value).toArray below meth c H locs 0 0 (MQ below (va_Qi (fun (r : Int32) (u : MS) => r = 0 ∧ u = (tb, n, kb, ln, rd, fp, s0N kb ln st, mt, bg)) (matt dC dI g0 g1 g2 cA A) A) ([.ref g0] : List Value).toArray s 0 0 A) (F0 m 56 ls []) := by
    intro H locs ls hP hD hS hl
    refine lv_aload_n hx hb dX1_next_56 rfl (lv_at hl 0 rfl) ?_
    refine va_get (D := (dC, dI)) (ci := 1) (v := .int (nI (s0N kb ln st))) (C := RX1) (T := TX1) (N := 9) hx hb hts hIn hown hK hP 0 rfl rfl 6 (by decide) (hts (.fieldLink RX1 41 RX1 "stand" "I") (by decide +kernel)) (fun _ h9 => h9) rfl dX1_next_57 ?_
    refine lv_aload_n hx hb dX1_next_60 rfl (lv_at hl 0 rfl) ?_
    refine va_get (D := (dC, dI)) (ci := 1) (v := .int (nI ln)) (C := RX1) (T := TX1) (N := 9) hx hb hts hIn hown hK hP 0 rfl rfl 3 (by decide) (hts (.fieldLink RX1 44 RX1 "length" "I") (by decide +kernel)) (fun _ h9 => h9) rfl dX1_next_61 ?_
    refine lv_icmp_lt (tgt := 69) hx hb dX1_next_64 (by decide) (fun c_1 => ?_) (fun c_1 => ?_)
    · exact absurd ((nI_ltI (a := s0N kb ln st) (b := ln) (by omega) (by omega)).mp c_1) (by omega)
    · have c_1 : ¬ s0N kb ln st < ln := fun zz => c_1 ((nI_ltI (a := s0N kb ln st) (b := ln) (by omega) (by omega)).mpr zz)
      refine lv_iconst (v := 0) hx hb dX1_next_67 (by decide) ?_
      have hP9 : va_P (dC, dI) vwCl (mw g0 g1 g2 cA (tb, n, kb, ln, rd, fp, (s0N kb ln st), mt, bg)) H := hP
      have hD9 : va_D A (mw g0 g1 g2 cA (tb, n, kb, ln, rd, fp, (s0N kb ln st), mt, bg)) := hD
      exact W.zret (v := 0) (ty := .boolean) hx hb hr (rfl) (fun t ht hW => ⟨⟨0, (tb, n, kb, ln, rd, fp, (s0N kb ln st), mt, bg), rfl, ⟨rfl, rfl⟩, by rw [ht]; exact hP9, va_K.moved hW.alike hK, hD9⟩, hS.F ht⟩) hS.2.2 dX1_next_68
  refine lv_aload_n hx hb dX1_next_0 rfl (lv_at hl 0 rfl) ?_
  refine va_get (D := (dC, dI)) (ci := 1) (v := .int (nI st)) (C := RX1) (T := TX1) (N := 9) hx hb hts hIn hown hK hP 0 rfl rfl 6 (by decide) (hts (.fieldLink RX1 41 RX1 "stand" "I") (by decide +kernel)) (fun _ h9 => h9) rfl dX1_next_1 ?_
  refine lv_if_ne (tgt := 56) hx hb dX1_next_4 (by decide) (fun c_2 => ?_) (fun c_2 => ?_)
  · have c_2 : ¬ st = 0 := fun zz => c_2 ((nI_eq (a := st) (b := 0) (by omega) (by omega)).mpr zz)
    have e9 : s0N kb ln st = st := by simp only [s0N, if_neg c_2]
    exact j56 s.heap [] ls (by rw [e9]; exact hP) (by rw [e9]; exact hD) hS hl
  · have c_2 : st = 0 := (nI_eq (a := st) (b := 0) (by omega) (by omega)).mp c_2
    refine lv_aload_n hx hb dX1_next_7 rfl (lv_at hl 0 rfl) ?_
    refine va_get (D := (dC, dI)) (ci := 1) (v := .int (nI ln)) (C := RX1) (T := TX1) (N := 9) hx hb hts hIn hown hK hP 0 rfl rfl 3 (by decide) (hts (.fieldLink RX1 44 RX1 "length" "I") (by decide +kernel)) (fun _ h9 => h9) rfl dX1_next_8 ?_
    refine lv_iconst (v := 2) hx hb dX1_next_11 (by decide) ?_
    refine lv_icmp_le (tgt := 56) hx hb dX1_next_12 (by decide) (fun c_3 => ?_) (fun c_3 => ?_)
    · have c_3 : ln ≤ 2 := (nI_leI (a := ln) (b := 2) (by omega) (by omega)).mp c_3
      have e9 : s0N kb ln st = st := by simp only [s0N, if_pos c_2, if_pos c_3]
      exact j56 s.heap [] ls (by rw [e9]; exact hP) (by rw [e9]; exact hD) hS hl
    · have c_3 : ¬ ln ≤ 2 := fun zz => c_3 ((nI_leI (a := ln) (b := 2) (by omega) (by omega)).mpr zz)
      refine lv_aload_n hx hb dX1_next_15 rfl (lv_at hl 0 rfl) ?_
      refine va_get (D := (dC, dI)) (ci := 1) (v := .ref g2) (C := RX1) (T := TX1) (N := 9) hx hb hts hIn hown hK hP 0 rfl rfl 2 (by decide) (hts (.fieldLink RX1 13 RX1 "kept" "[I") (by decide +kernel)) (fun _ h9 => h9) rfl dX1_next_16 ?_
      refine lv_iconst (v := 0) hx hb dX1_next_19 (by decide) ?_
      refine va_iald hx hb hK hP 2 0 rfl rfl (vp_in_nI (n := 0) (by omega) (by omega)) dX1_next_20 ?_
      refine lv_topi (fun x_4 ex_4 => ?_)
      obtain rfl : x_4 = nI (kb 0) := ex_4.trans (congrArg (fun j => nI (kb j)) ((by decide)))
      have hb_5 := hkb 0
      refine lv_sipush (v := 239) hx hb dX1_next_21 (by decide) ?_
      refine lv_icmp_ne (tgt := 56) hx hb dX1_next_24 (by decide) (fun c_6 => ?_) (fun c_6 => ?_)
      · have c_6 : ¬ kb 0 = 239 := fun zz => c_6 ((nI_eq (a := kb 0) (b := 239) (by omega) (by omega)).mpr zz)
        have e9 : s0N kb ln st = st := by simp only [s0N, if_pos c_2, if_neg c_3, if_neg c_6]
        exact j56 s.heap [] ls (by rw [e9]; exact hP) (by rw [e9]; exact hD) hS hl
      · have c_6 : kb 0 = 239 := (nI_eq (a := kb 0) (b := 239) (by omega) (by omega)).mp c_6
        refine lv_aload_n hx hb dX1_next_27 rfl (lv_at hl 0 rfl) ?_
        refine va_get (D := (dC, dI)) (ci := 1) (v := .ref g2) (C := RX1) (T := TX1) (N := 9) hx hb hts hIn hown hK hP 0 rfl rfl 2 (by decide) (hts (.fieldLink RX1 13 RX1 "kept" "[I") (by decide +kernel)) (fun _ h9 => h9) rfl dX1_next_28 ?_
        refine lv_iconst (v := 1) hx hb dX1_next_31 (by decide) ?_
        refine va_iald hx hb hK hP 2 0 rfl rfl (vp_in_nI (n := 1) (by omega) (by omega)) dX1_next_32 ?_
        refine lv_topi (fun x_7 ex_7 => ?_)
        obtain rfl : x_7 = nI (kb 1) := ex_7.trans (congrArg (fun j => nI (kb j)) ((by decide)))
        have hb_8 := hkb 1
        refine lv_sipush (v := 187) hx hb dX1_next_33 (by decide) ?_
        refine lv_icmp_ne (tgt := 56) hx hb dX1_next_36 (by decide) (fun c_9 => ?_) (fun c_9 => ?_)
        · have c_9 : ¬ kb 1 = 187 := fun zz => c_9 ((nI_eq (a := kb 1) (b := 187) (by omega) (by omega)).mpr zz)
          have e9 : s0N kb ln st = st := by simp only [s0N, if_pos c_2, if_neg c_3, if_pos c_6, if_neg c_9]
          exact j56 s.heap [] ls (by rw [e9]; exact hP) (by rw [e9]; exact hD) hS hl
        · have c_9 : kb 1 = 187 := (nI_eq (a := kb 1) (b := 187) (by omega) (by omega)).mp c_9
          refine lv_aload_n hx hb dX1_next_39 rfl (lv_at hl 0 rfl) ?_
          refine va_get (D := (dC, dI)) (ci := 1) (v := .ref g2) (C := RX1) (T := TX1) (N := 9) hx hb hts hIn hown hK hP 0 rfl rfl 2 (by decide) (hts (.fieldLink RX1 13 RX1 "kept" "[I") (by decide +kernel)) (fun _ h9 => h9) rfl dX1_next_40 ?_
          refine lv_iconst (v := 2) hx hb dX1_next_43 (by decide) ?_
          refine va_iald hx hb hK hP 2 0 rfl rfl (vp_in_nI (n := 2) (by omega) (by omega)) dX1_next_44 ?_
          refine lv_topi (fun x_10 ex_10 => ?_)
          obtain rfl : x_10 = nI (kb 2) := ex_10.trans (congrArg (fun j => nI (kb j)) ((by decide)))
          have hb_11 := hkb 2
          refine lv_sipush (v := 191) hx hb dX1_next_45 (by decide) ?_
          refine lv_icmp_ne (tgt := 56) hx hb dX1_next_48 (by decide) (fun c_12 => ?_) (fun c_12 => ?_)
          · have c_12 : ¬ kb 2 = 191 := fun zz => c_12 ((nI_eq (a := kb 2) (b := 191) (by omega) (by omega)).mpr zz)
            have e9 : s0N kb ln st = st := by simp only [s0N, if_pos c_2, if_neg c_3, if_pos c_6, if_pos c_9, if_neg c_12]
            exact j56 s.heap [] ls (by rw [e9]; exact hP) (by rw [e9]; exact hD) hS hl
          · have c_12 : kb 2 = 191 := (nI_eq (a := kb 2) (b := 191) (by omega) (by omega)).mp c_12
            refine lv_aload_n hx hb dX1_next_51 rfl (lv_at hl 0 rfl) ?_
            refine lv_iconst (v := 3) hx hb dX1_next_52 (by decide) ?_
            refine va_put (D := (dC, dI)) (ci := 1) (v := .int 3) (ty := .int) (C := RX1) (T := TX1) (N := 9) hx hb hts hIn tyX1 tyX1_ok nmX1 hown hK hP hD hS 0 rfl rfl 6 (by decide) (hts (.fieldLink RX1 41 RX1 "stand" "I") (by decide +kernel)) (fun _ h9 => h9) rfl (by decide +kernel) rfl rfl (Nat.le_of_ble_eq_true rfl) dX1_next_53 (fun H locs hP hD hS => ?_)
            have hP : va_P (dC, dI) vwCl [(g0, .inr (1, [.ref g1, .int (nI n), .ref g2, .int (nI ln), .int (bI rd), .int fp, .int 3, .int mt, .int bg])), (g1, .inl (cA, 1000, .inl (fun j => nI (tb j)))), (g2, .inl (cA, 1000, .inl (fun j => nI (kb j))))] H := hP
            have hD : va_D A [(g0, .inr (1, [.ref g1, .int (nI n), .ref g2, .int (nI ln), .int (bI rd), .int fp, .int 3, .int mt, .int bg])), (g1, .inl (cA, 1000, .inl (fun j => nI (tb j)))), (g2, .inl (cA, 1000, .inl (fun j => nI (kb j))))] := hD
            have e9 : s0N kb ln st = 3 := by simp only [s0N, if_pos c_2, if_neg c_3, if_pos c_6, if_pos c_9, if_pos c_12]
            exact j56 H locs ls (by rw [e9]; exact hP) (by rw [e9]; exact hD) hS hl
set_option maxHeartbeats 4000000 in
set_option maxRecDepth 100000 in
theorem c_X1_next_some (l : Launch) (dC : Nat → ClassId) (dI : Nat → Nat → Nat) (g0 g1 g2 : Nat) (cA : ClassId) (sz : Nat) (tb : Nat → Nat) (n : Nat) (kb : Nat → Nat) (ln : Nat) (rd : Bool) (fp : Int32) (st : Nat) (mt bg : Int32) (hkb : ∀ j, kb j < 256) (hln : ln ≤ 1000) (hst : st ≤ 1000) (v wd : Nat) (hgo : ¬ ln ≤ s0N kb ln st) (hs : seqN kb ln (s0N kb ln st) = some (v, wd)) : Met l yX1_next wsX1_next ({ frames := 2, cells := 0, slots := 0, locals := 46 }) (va_Pc [.ref g0] (fun U => mmut dC dI g0 g1 g2 cA sz (tb, n, kb, ln, rd, fp, st, mt, bg) U)) (va_Qi (fun (r : Int32) (u : MS) => r = 1 ∧ u = (tb, n, kb, ln, rd, fp, nxS kb ln (s0N kb ln st + wd) v, nI (nxM v), nI (s0N kb ln st))) (matt dC dI g0 g1 g2 cA (va_A (mw g0 g1 g2 cA (tb, n, kb, ln, rd, fp, st, mt, bg)) sz)) (va_A (mw g0 g1 g2 cA (tb, n, kb, ln, rd, fp, st, mt, bg)) sz)) 0 0 (va_A (mw g0 g1 g2 cA (tb, n, kb, ln, rd, fp, st, mt, bg)) sz) := by
  refine Met.ofW (cc := cX1_next) (maxL := 1) (ret := (some .boolean)) (by decide) rfl ?_
  intro p e s m args below meth c s₁ B hml hv
  obtain ⟨rfl, hsz, hP, hK, hD0⟩ := hv
  have hx := B.exec
  have hb := B.bytes
  have hr := B.returns
  have hts := atoms_spec (ws := wsX1_next) B.pre
  have hown : s.vm.findClass RX1 = some m.cls := findClass_of_methodNamed B.named
  subst hsz
  have hD := hD0.self (sz := s.heap.size)
  generalize hAe : va_A (mw g0 g1 g2 cA (tb, n, kb, ln, rd, fp, st, mt, bg)) s.heap.size = A at hD ⊢
  have hA : ∀ q : Nat, s.heap.size ≤ q → A q := fun q h => by rw [← hAe]; exact Or.inr h
  have hS : va_S A s.heap s.heap [] := va_S.rf
  have hP : va_P (dC, dI) vwCl [(g0, .inr (1, [.ref g1, .int (nI n), .ref g2, .int (nI ln), .int (bI rd), .int fp, .int (nI st), .int mt, .int bg])), (g1, .inl (cA, 1000, .inl (fun j => nI (tb j)))), (g2, .inl (cA, 1000, .inl (fun j => nI (kb j))))] s.heap := hP
  have hD : va_D A [(g0, .inr (1, [.ref g1, .int (nI n), .ref g2, .int (nI ln), .int (bI rd), .int fp, .int (nI st), .int mt, .int bg])), (g1, .inl (cA, 1000, .inl (fun j => nI (tb j)))), (g2, .inl (cA, 1000, .inl (fun j => nI (kb j))))] := hD
  have hIn : ∀ w ∈ wsX10, w ∈ wsX1_next := by decide +kernel
  have hl := lv_entry ([.ref g0]) (n := 1) (Nat.le_of_ble_eq_true rfl)
  rw [lg_entry_eq]
  generalize (lg_sl ([.ref g0]) ++ List.replicate (1 - (lg_sl ([.ref g0])).length) Slot.unset).toArray = ls at hl ⊢
  have hl : lv_has ls 1 [(0, .ref g0)] := hl
  have hs3 : s0N kb ln st ≤ st + 3 := s0N_le kb ln st
  have j56 : ∀ (H : Heap) (locs : List Loc) (ls : Array Slot), va_P (dC, dI) vwCl [(g0, .inr (1, [.ref g1, .int (nI n), .ref g2, .int (nI ln), .int (bI rd), .int fp, .int (nI (s0N kb ln st)), .int mt, .int bg])), (g1, .inl (cA, 1000, .inl (fun j => nI (tb j)))), (g2, .inl (cA, 1000, .inl (fun j => nI (kb j))))] H → va_D A [(g0, .inr (1, [.ref g1, .int (nI n), .ref g2, .int (nI ln), .int (bI rd), .int fp, .int (nI (s0N kb ln st)), .int mt, .int bg])), (g1, .inl (cA, 1000, .inl (fun j => nI (tb j)))), (g2, .inl (cA, 1000, .inl (fun j => nI (kb j))))] → va_S A s.heap H locs → lv_has ls 1 [(0, .ref g0)] → W p l e (headSpec wsX1_next ({ frames := 2, cells := 0, slots := 0, locals := 46 })).room s m ([.ref g0] : List Value).toArray below meth c H locs 0 0 (MQ below (va_Qi (fun (r : Int32) (u : MS) => r = 1 ∧ u = (tb, n, kb, ln, rd, fp, nxS kb ln (s0N kb ln st + wd) v, nI (nxM v), nI (s0N kb ln st))) (matt dC dI g0 g1 g2 cA A) A) ([.ref g0] : List Value).toArray s 0 0 A) (F0 m 56 ls []) := by
    intro H locs ls hP hD hS hl
    obtain ⟨hv1, hw1, hw4, hsw⟩ := seqN_lt hkb hs
    refine lv_aload_n hx hb dX1_next_56 rfl (lv_at hl 0 rfl) ?_
    refine va_get (D := (dC, dI)) (ci := 1) (v := .int (nI (s0N kb ln st))) (C := RX1) (T := TX1) (N := 9) hx hb hts hIn hown hK hP 0 rfl rfl 6 (by decide) (hts (.fieldLink RX1 41 RX1 "stand" "I") (by decide +kernel)) (fun _ h9 => h9) rfl dX1_next_57 ?_
    refine lv_aload_n hx hb dX1_next_60 rfl (lv_at hl 0 rfl) ?_
    refine va_get (D := (dC, dI)) (ci := 1) (v := .int (nI ln)) (C := RX1) (T := TX1) (N := 9) hx hb hts hIn hown hK hP 0 rfl rfl 3 (by decide) (hts (.fieldLink RX1 44 RX1 "length" "I") (by decide +kernel)) (fun _ h9 => h9) rfl dX1_next_61 ?_
    refine lv_icmp_lt (tgt := 69) hx hb dX1_next_64 (by decide) (fun c_1 => ?_) (fun c_1 => ?_)
    · have c_1 : s0N kb ln st < ln := (nI_ltI (a := s0N kb ln st) (b := ln) (by omega) (by omega)).mp c_1
      refine lv_aload_n hx hb dX1_next_69 rfl (lv_at hl 0 rfl) ?_
      refine lv_aload_n hx hb dX1_next_70 rfl (lv_at hl 0 rfl) ?_
      refine va_get (D := (dC, dI)) (ci := 1) (v := .int (nI (s0N kb ln st))) (C := RX1) (T := TX1) (N := 9) hx hb hts hIn hown hK hP 0 rfl rfl 6 (by decide) (hts (.fieldLink RX1 41 RX1 "stand" "I") (by decide +kernel)) (fun _ h9 => h9) rfl dX1_next_71 ?_
      refine va_put (D := (dC, dI)) (ci := 1) (v := .int (nI (s0N kb ln st))) (ty := .int) (C := RX1) (T := TX1) (N := 9) hx hb hts hIn tyX1 tyX1_ok nmX1 hown hK hP hD hS 0 rfl rfl 8 (by decide) (hts (.fieldLink RX1 50 RX1 "began" "I") (by decide +kernel)) (fun _ h9 => h9) rfl (by decide +kernel) rfl rfl (Nat.le_of_ble_eq_true rfl) dX1_next_74 (fun H locs hP hD hS => ?_)
      have hP : va_P (dC, dI) vwCl [(g0, .inr (1, [.ref g1, .int (nI n), .ref g2, .int (nI ln), .int (bI rd), .int fp, .int (nI (s0N kb ln st)), .int mt, .int (nI (s0N kb ln st))])), (g1, .inl (cA, 1000, .inl (fun j => nI (tb j)))), (g2, .inl (cA, 1000, .inl (fun j => nI (kb j))))] H := hP
      have hD : va_D A [(g0, .inr (1, [.ref g1, .int (nI n), .ref g2, .int (nI ln), .int (bI rd), .int fp, .int (nI (s0N kb ln st)), .int mt, .int (nI (s0N kb ln st))])), (g1, .inl (cA, 1000, .inl (fun j => nI (tb j)))), (g2, .inl (cA, 1000, .inl (fun j => nI (kb j))))] := hD
      refine lv_aload_n hx hb dX1_next_77 rfl (lv_at hl 0 rfl) ?_
      refine lv_aload_n hx hb dX1_next_78 rfl (lv_at hl 0 rfl) ?_
      have hFc := va_free (wc := mw g0 g1 g2 cA (tb, n, kb, ln, rd, fp, (s0N kb ln st), mt, (nI (s0N kb ln st)))) hD hS hA [0, 1, 2] rfl
      refine va_calli (va_runV (As := []) (rest := [.ref g0]) ⟨hx, hb, hml, hown, hts⟩ (c_X1_sequence l dC dI g0 g1 g2 cA H.size tb n kb ln rd fp (s0N kb ln st) mt (nI (s0N kb ln st)) hkb (by omega) hln) (cwV 0 hts gX1_next_X1_sequence rfl rfl rfl (by decide +kernel) ⟨Nat.le_of_ble_eq_true rfl, Nat.le_of_ble_eq_true rfl⟩) ⟨mmut_blind, va_recv hK hP (ci := 1) (q0 := 0) rfl rfl, fun U hU hW => ⟨rfl, mmut_of hP hK hD hU hW⟩⟩ rfl rfl hl.1 rfl (lv_room (Nat.le_of_ble_eq_true rfl)) dX1_next_79 ⟨Nat.le_of_ble_eq_true rfl, Nat.le_of_ble_eq_true rfl⟩) hS (fun q _ h => hFc q h) hFc (fun r_2 u_2 t_2 H1 locs ht hvm hw hB hz1 hk1 hS => ?_)
      obtain ⟨hw0, hw1⟩ := hw
      rw [hs] at hw0 hw1
      obtain rfl : r_2 = nI v := hw0
      obtain rfl : u_2 = (tb, n, kb, ln, rd, fp, ((s0N kb ln st) + wd), mt, (nI (s0N kb ln st))) := hw1
      obtain ⟨hP1, hK1, hD1⟩ := hB
      rw [ht] at hP1
      obtain ⟨hP, hD⟩ := va_join (wr := []) (w1 := mw g0 g1 g2 cA (tb, n, kb, ln, rd, fp, ((s0N kb ln st) + wd), mt, (nI (s0N kb ln st)))) hP hD [0, 1, 2] [] rfl rfl (by decide) (by decide) hk1 hFc hP1 hD1
      generalize H1 = H at hP hS ⊢
      have hP : va_P (dC, dI) vwCl [(g0, .inr (1, [.ref g1, .int (nI n), .ref g2, .int (nI ln), .int (bI rd), .int fp, .int (nI ((s0N kb ln st) + wd)), .int mt, .int (nI (s0N kb ln st))])), (g1, .inl (cA, 1000, .inl (fun j => nI (tb j)))), (g2, .inl (cA, 1000, .inl (fun j => nI (kb j))))] H := hP
      have hD : va_D A [(g0, .inr (1, [.ref g1, .int (nI n), .ref g2, .int (nI ln), .int (bI rd), .int fp, .int (nI ((s0N kb ln st) + wd)), .int mt, .int (nI (s0N kb ln st))])), (g1, .inl (cA, 1000, .inl (fun j => nI (tb j)))), (g2, .inl (cA, 1000, .inl (fun j => nI (kb j))))] := hD
      refine va_put (D := (dC, dI)) (ci := 1) (v := .int (nI v)) (ty := .int) (C := RX1) (T := TX1) (N := 9) hx hb hts hIn tyX1 tyX1_ok nmX1 hown hK hP hD hS 0 rfl rfl 7 (by decide) (hts (.fieldLink RX1 57 RX1 "met" "I") (by decide +kernel)) (fun _ h9 => h9) rfl (by decide +kernel) rfl rfl (Nat.le_of_ble_eq_true rfl) dX1_next_82 (fun H locs hP hD hS => ?_)
      have hP : va_P (dC, dI) vwCl [(g0, .inr (1, [.ref g1, .int (nI n), .ref g2, .int (nI ln), .int (bI rd), .int fp, .int (nI ((s0N kb ln st) + wd)), .int (nI v), .int (nI (s0N kb ln st))])), (g1, .inl (cA, 1000, .inl (fun j => nI (tb j)))), (g2, .inl (cA, 1000, .inl (fun j => nI (kb j))))] H := hP
      have hD : va_D A [(g0, .inr (1, [.ref g1, .int (nI n), .ref g2, .int (nI ln), .int (bI rd), .int fp, .int (nI ((s0N kb ln st) + wd)), .int (nI v), .int (nI (s0N kb ln st))])), (g1, .inl (cA, 1000, .inl (fun j => nI (tb j)))), (g2, .inl (cA, 1000, .inl (fun j => nI (kb j))))] := hD
      refine lv_aload_n hx hb dX1_next_85 rfl (lv_at hl 0 rfl) ?_
      refine va_get (D := (dC, dI)) (ci := 1) (v := .int (nI v)) (C := RX1) (T := TX1) (N := 9) hx hb hts hIn hown hK hP 0 rfl rfl 7 (by decide) (hts (.fieldLink RX1 57 RX1 "met" "I") (by decide +kernel)) (fun _ h9 => h9) rfl dX1_next_86 ?_
      refine lv_bipush (v := 13) hx hb dX1_next_89 (by decide) ?_
      refine lv_icmp_ne (tgt := 142) hx hb dX1_next_91 (by decide) (fun c_3 => ?_) (fun c_3 => ?_)
      · have c_3 : ¬ v = 13 := fun zz => c_3 ((nI_eq (a := v) (b := 13) (by omega) (by omega)).mpr zz)
        refine lv_iconst (v := 1) hx hb dX1_next_142 (by decide) ?_
        have hP9 : va_P (dC, dI) vwCl (mw g0 g1 g2 cA (tb, n, kb, ln, rd, fp, ((s0N kb ln st) + wd), (nI v), (nI (s0N kb ln st)))) H := hP
        have hD9 : va_D A (mw g0 g1 g2 cA (tb, n, kb, ln, rd, fp, ((s0N kb ln st) + wd), (nI v), (nI (s0N kb ln st)))) := hD
        exact W.zret (v := 1) (ty := .boolean) hx hb hr (rfl) (fun t ht hW => ⟨⟨1, (tb, n, kb, ln, rd, fp, ((s0N kb ln st) + wd), (nI v), (nI (s0N kb ln st))), rfl, (by refine ⟨rfl, ?_⟩; first | (simp only [nxM, nxS, if_neg c_3]; done) | (simp only [nxM, nxS, if_neg c_3]; rfl)), by rw [ht]; exact hP9, va_K.moved hW.alike hK, hD9⟩, hS.F ht⟩) hS.2.2 dX1_next_143
      · have c_3 : v = 13 := (nI_eq (a := v) (b := 13) (by omega) (by omega)).mp c_3
        refine lv_aload_n hx hb dX1_next_94 rfl (lv_at hl 0 rfl) ?_
        refine lv_bipush (v := 10) hx hb dX1_next_95 (by decide) ?_
        refine va_put (D := (dC, dI)) (ci := 1) (v := .int 10) (ty := .int) (C := RX1) (T := TX1) (N := 9) hx hb hts hIn tyX1 tyX1_ok nmX1 hown hK hP hD hS 0 rfl rfl 7 (by decide) (hts (.fieldLink RX1 57 RX1 "met" "I") (by decide +kernel)) (fun _ h9 => h9) rfl (by decide +kernel) rfl rfl (Nat.le_of_ble_eq_true rfl) dX1_next_97 (fun H locs hP hD hS => ?_)
        have hP : va_P (dC, dI) vwCl [(g0, .inr (1, [.ref g1, .int (nI n), .ref g2, .int (nI ln), .int (bI rd), .int fp, .int (nI ((s0N kb ln st) + wd)), .int 10, .int (nI (s0N kb ln st))])), (g1, .inl (cA, 1000, .inl (fun j => nI (tb j)))), (g2, .inl (cA, 1000, .inl (fun j => nI (kb j))))] H := hP
        have hD : va_D A [(g0, .inr (1, [.ref g1, .int (nI n), .ref g2, .int (nI ln), .int (bI rd), .int fp, .int (nI ((s0N kb ln st) + wd)), .int 10, .int (nI (s0N kb ln st))])), (g1, .inl (cA, 1000, .inl (fun j => nI (tb j)))), (g2, .inl (cA, 1000, .inl (fun j => nI (kb j))))] := hD
        refine lv_aload_n hx hb dX1_next_100 rfl (lv_at hl 0 rfl) ?_
        refine lv_aload_n hx hb dX1_next_101 rfl (lv_at hl 0 rfl) ?_
        refine va_get (D := (dC, dI)) (ci := 1) (v := .int (nI ((s0N kb ln st) + wd))) (C := RX1) (T := TX1) (N := 9) hx hb hts hIn hown hK hP 0 rfl rfl 6 (by decide) (hts (.fieldLink RX1 41 RX1 "stand" "I") (by decide +kernel)) (fun _ h9 => h9) rfl dX1_next_102 ?_
        refine lv_aload_n hx hb dX1_next_105 rfl (lv_at hl 0 rfl) ?_
        refine va_get (D := (dC, dI)) (ci := 1) (v := .int (nI ln)) (C := RX1) (T := TX1) (N := 9) hx hb hts hIn hown hK hP 0 rfl rfl 3 (by decide) (hts (.fieldLink RX1 44 RX1 "length" "I") (by decide +kernel)) (fun _ h9 => h9) rfl dX1_next_106 ?_
        refine lv_icmp_ge (tgt := 135) hx hb dX1_next_109 (by decide) (fun c_4 => ?_) (fun c_4 => ?_)
        · have c_4 : ln ≤ (s0N kb ln st) + wd := (nI_leI (a := ln) (b := (s0N kb ln st) + wd) (by omega) (by omega)).mp c_4
          refine lv_aload_n hx hb dX1_next_135 rfl (lv_at hl 0 rfl) ?_
          refine va_get (D := (dC, dI)) (ci := 1) (v := .int (nI ((s0N kb ln st) + wd))) (C := RX1) (T := TX1) (N := 9) hx hb hts hIn hown hK hP 0 rfl rfl 6 (by decide) (hts (.fieldLink RX1 41 RX1 "stand" "I") (by decide +kernel)) (fun _ h9 => h9) rfl dX1_next_136 ?_
          refine va_put (D := (dC, dI)) (ci := 1) (v := .int (nI ((s0N kb ln st) + wd))) (ty := .int) (C := RX1) (T := TX1) (N := 9) hx hb hts hIn tyX1 tyX1_ok nmX1 hown hK hP hD hS 0 rfl rfl 6 (by decide) (hts (.fieldLink RX1 41 RX1 "stand" "I") (by decide +kernel)) (fun _ h9 => h9) rfl (by decide +kernel) rfl rfl (Nat.le_of_ble_eq_true rfl) dX1_next_139 (fun H locs hP hD hS => ?_)
          have hP : va_P (dC, dI) vwCl [(g0, .inr (1, [.ref g1, .int (nI n), .ref g2, .int (nI ln), .int (bI rd), .int fp, .int (nI ((s0N kb ln st) + wd)), .int 10, .int (nI (s0N kb ln st))])), (g1, .inl (cA, 1000, .inl (fun j => nI (tb j)))), (g2, .inl (cA, 1000, .inl (fun j => nI (kb j))))] H := hP
          have hD : va_D A [(g0, .inr (1, [.ref g1, .int (nI n), .ref g2, .int (nI ln), .int (bI rd), .int fp, .int (nI ((s0N kb ln st) + wd)), .int 10, .int (nI (s0N kb ln st))])), (g1, .inl (cA, 1000, .inl (fun j => nI (tb j)))), (g2, .inl (cA, 1000, .inl (fun j => nI (kb j))))] := hD
          refine lv_iconst (v := 1) hx hb dX1_next_142 (by decide) ?_
          have hP9 : va_P (dC, dI) vwCl (mw g0 g1 g2 cA (tb, n, kb, ln, rd, fp, ((s0N kb ln st) + wd), 10, (nI (s0N kb ln st)))) H := hP
          have hD9 : va_D A (mw g0 g1 g2 cA (tb, n, kb, ln, rd, fp, ((s0N kb ln st) + wd), 10, (nI (s0N kb ln st)))) := hD
          exact W.zret (v := 1) (ty := .boolean) hx hb hr (rfl) (fun t ht hW => ⟨⟨1, (tb, n, kb, ln, rd, fp, ((s0N kb ln st) + wd), 10, (nI (s0N kb ln st))), rfl, (by refine ⟨rfl, ?_⟩; first | (simp only [nxM, nxS, if_pos c_3, if_pos c_4]; done) | (simp only [nxM, nxS, if_pos c_3, if_pos c_4]; rfl)), by rw [ht]; exact hP9, va_K.moved hW.alike hK, hD9⟩, hS.F ht⟩) hS.2.2 dX1_next_143
        · have c_4 : ¬ ln ≤ (s0N kb ln st) + wd := fun zz => c_4 ((nI_leI (a := ln) (b := (s0N kb ln st) + wd) (by omega) (by omega)).mpr zz)
          refine lv_aload_n hx hb dX1_next_112 rfl (lv_at hl 0 rfl) ?_
          refine va_get (D := (dC, dI)) (ci := 1) (v := .ref g2) (C := RX1) (T := TX1) (N := 9) hx hb hts hIn hown hK hP 0 rfl rfl 2 (by decide) (hts (.fieldLink RX1 13 RX1 "kept" "[I") (by decide +kernel)) (fun _ h9 => h9) rfl dX1_next_113 ?_
          refine lv_aload_n hx hb dX1_next_116 rfl (lv_at hl 0 rfl) ?_
          refine va_get (D := (dC, dI)) (ci := 1) (v := .int (nI ((s0N kb ln st) + wd))) (C := RX1) (T := TX1) (N := 9) hx hb hts hIn hown hK hP 0 rfl rfl 6 (by decide) (hts (.fieldLink RX1 41 RX1 "stand" "I") (by decide +kernel)) (fun _ h9 => h9) rfl dX1_next_117 ?_
          refine va_iald hx hb hK hP 2 0 rfl rfl (vp_in_nI (n := (s0N kb ln st) + wd) (by omega) (by omega)) dX1_next_120 ?_
          refine lv_topi (fun x_5 ex_5 => ?_)
          obtain rfl : x_5 = nI (kb ((s0N kb ln st) + wd)) := ex_5.trans (congrArg (fun j => nI (kb j)) ((nI_clamp (by omega))))
          have hb_6 := hkb ((s0N kb ln st) + wd)
          refine lv_bipush (v := 10) hx hb dX1_next_121 (by decide) ?_
          refine lv_icmp_ne (tgt := 135) hx hb dX1_next_123 (by decide) (fun c_7 => ?_) (fun c_7 => ?_)
          · have c_7 : ¬ kb ((s0N kb ln st) + wd) = 10 := fun zz => c_7 ((nI_eq (a := kb ((s0N kb ln st) + wd)) (b := 10) (by omega) (by omega)).mpr zz)
            refine lv_aload_n hx hb dX1_next_135 rfl (lv_at hl 0 rfl) ?_
            refine va_get (D := (dC, dI)) (ci := 1) (v := .int (nI ((s0N kb ln st) + wd))) (C := RX1) (T := TX1) (N := 9) hx hb hts hIn hown hK hP 0 rfl rfl 6 (by decide) (hts (.fieldLink RX1 41 RX1 "stand" "I") (by decide +kernel)) (fun _ h9 => h9) rfl dX1_next_136 ?_
            refine va_put (D := (dC, dI)) (ci := 1) (v := .int (nI ((s0N kb ln st) + wd))) (ty := .int) (C := RX1) (T := TX1) (N := 9) hx hb hts hIn tyX1 tyX1_ok nmX1 hown hK hP hD hS 0 rfl rfl 6 (by decide) (hts (.fieldLink RX1 41 RX1 "stand" "I") (by decide +kernel)) (fun _ h9 => h9) rfl (by decide +kernel) rfl rfl (Nat.le_of_ble_eq_true rfl) dX1_next_139 (fun H locs hP hD hS => ?_)
            have hP : va_P (dC, dI) vwCl [(g0, .inr (1, [.ref g1, .int (nI n), .ref g2, .int (nI ln), .int (bI rd), .int fp, .int (nI ((s0N kb ln st) + wd)), .int 10, .int (nI (s0N kb ln st))])), (g1, .inl (cA, 1000, .inl (fun j => nI (tb j)))), (g2, .inl (cA, 1000, .inl (fun j => nI (kb j))))] H := hP
            have hD : va_D A [(g0, .inr (1, [.ref g1, .int (nI n), .ref g2, .int (nI ln), .int (bI rd), .int fp, .int (nI ((s0N kb ln st) + wd)), .int 10, .int (nI (s0N kb ln st))])), (g1, .inl (cA, 1000, .inl (fun j => nI (tb j)))), (g2, .inl (cA, 1000, .inl (fun j => nI (kb j))))] := hD
            refine lv_iconst (v := 1) hx hb dX1_next_142 (by decide) ?_
            have hP9 : va_P (dC, dI) vwCl (mw g0 g1 g2 cA (tb, n, kb, ln, rd, fp, ((s0N kb ln st) + wd), 10, (nI (s0N kb ln st)))) H := hP
            have hD9 : va_D A (mw g0 g1 g2 cA (tb, n, kb, ln, rd, fp, ((s0N kb ln st) + wd), 10, (nI (s0N kb ln st)))) := hD
            exact W.zret (v := 1) (ty := .boolean) hx hb hr (rfl) (fun t ht hW => ⟨⟨1, (tb, n, kb, ln, rd, fp, ((s0N kb ln st) + wd), 10, (nI (s0N kb ln st))), rfl, (by refine ⟨rfl, ?_⟩; first | (simp only [nxM, nxS, if_pos c_3, if_neg c_4, if_neg c_7]; done) | (simp only [nxM, nxS, if_pos c_3, if_neg c_4, if_neg c_7]; rfl)), by rw [ht]; exact hP9, va_K.moved hW.alike hK, hD9⟩, hS.F ht⟩) hS.2.2 dX1_next_143
          · have c_7 : kb ((s0N kb ln st) + wd) = 10 := (nI_eq (a := kb ((s0N kb ln st) + wd)) (b := 10) (by omega) (by omega)).mp c_7
            refine lv_aload_n hx hb dX1_next_126 rfl (lv_at hl 0 rfl) ?_
            refine va_get (D := (dC, dI)) (ci := 1) (v := .int (nI ((s0N kb ln st) + wd))) (C := RX1) (T := TX1) (N := 9) hx hb hts hIn hown hK hP 0 rfl rfl 6 (by decide) (hts (.fieldLink RX1 41 RX1 "stand" "I") (by decide +kernel)) (fun _ h9 => h9) rfl dX1_next_127 ?_
            refine lv_iconst (v := 1) hx hb dX1_next_130 (by decide) ?_
            refine lv_iadd hx hb dX1_next_131 ?_
            refine lv_topi (fun x_8 ex_8 => ?_)
            obtain rfl : x_8 = nI ((s0N kb ln st) + wd + 1) := ex_8.trans (nI_add ((s0N kb ln st) + wd) 1)
            refine lv_goto (tgt := 139) hx hb dX1_next_132 (by decide) ?_
            refine va_put (D := (dC, dI)) (ci := 1) (v := .int (nI ((s0N kb ln st) + wd + 1))) (ty := .int) (C := RX1) (T := TX1) (N := 9) hx hb hts hIn tyX1 tyX1_ok nmX1 hown hK hP hD hS 0 rfl rfl 6 (by decide) (hts (.fieldLink RX1 41 RX1 "stand" "I") (by decide +kernel)) (fun _ h9 => h9) rfl (by decide +kernel) rfl rfl (Nat.le_of_ble_eq_true rfl) dX1_next_139 (fun H locs hP hD hS => ?_)
            have hP : va_P (dC, dI) vwCl [(g0, .inr (1, [.ref g1, .int (nI n), .ref g2, .int (nI ln), .int (bI rd), .int fp, .int (nI ((s0N kb ln st) + wd + 1)), .int 10, .int (nI (s0N kb ln st))])), (g1, .inl (cA, 1000, .inl (fun j => nI (tb j)))), (g2, .inl (cA, 1000, .inl (fun j => nI (kb j))))] H := hP
            have hD : va_D A [(g0, .inr (1, [.ref g1, .int (nI n), .ref g2, .int (nI ln), .int (bI rd), .int fp, .int (nI ((s0N kb ln st) + wd + 1)), .int 10, .int (nI (s0N kb ln st))])), (g1, .inl (cA, 1000, .inl (fun j => nI (tb j)))), (g2, .inl (cA, 1000, .inl (fun j => nI (kb j))))] := hD
            refine lv_iconst (v := 1) hx hb dX1_next_142 (by decide) ?_
            have hP9 : va_P (dC, dI) vwCl (mw g0 g1 g2 cA (tb, n, kb, ln, rd, fp, ((s0N kb ln st) + wd + 1), 10, (nI (s0N kb ln st)))) H := hP
            have hD9 : va_D A (mw g0 g1 g2 cA (tb, n, kb, ln, rd, fp, ((s0N kb ln st) + wd + 1), 10, (nI (s0N kb ln st)))) := hD
            exact W.zret (v := 1) (ty := .boolean) hx hb hr (rfl) (fun t ht hW => ⟨⟨1, (tb, n, kb, ln, rd, fp, ((s0N kb ln st) + wd + 1), 10, (nI (s0N kb ln st))), rfl, (by refine ⟨rfl, ?_⟩; first | (simp only [nxM, nxS, if_pos c_3, if_neg c_4, if_pos c_7]; done) | (simp only [nxM, nxS, if_pos c_3, if_neg c_4, if_pos c_7]; rfl)), by rw [ht]; exact hP9, va_K.moved hW.alike hK, hD9⟩, hS.F ht⟩) hS.2.2 dX1_next_143
    · exact absurd ((nI_ltI (a := s0N kb ln st) (b := ln) (by omega) (by omega)).mpr (by omega)) c_1
  refine lv_aload_n hx hb dX1_next_0 rfl (lv_at hl 0 rfl) ?_
  refine va_get (D := (dC, dI)) (ci := 1) (v := .int (nI st)) (C := RX1) (T := TX1) (N := 9) hx hb hts hIn hown hK hP 0 rfl rfl 6 (by decide) (hts (.fieldLink RX1 41 RX1 "stand" "I") (by decide +kernel)) (fun _ h9 => h9) rfl dX1_next_1 ?_
  refine lv_if_ne (tgt := 56) hx hb dX1_next_4 (by decide) (fun c_9 => ?_) (fun c_9 => ?_)
  · have c_9 : ¬ st = 0 := fun zz => c_9 ((nI_eq (a := st) (b := 0) (by omega) (by omega)).mpr zz)
    have e9 : s0N kb ln st = st := by simp only [s0N, if_neg c_9]
    exact j56 s.heap [] ls (by rw [e9]; exact hP) (by rw [e9]; exact hD) hS hl
  · have c_9 : st = 0 := (nI_eq (a := st) (b := 0) (by omega) (by omega)).mp c_9
    refine lv_aload_n hx hb dX1_next_7 rfl (lv_at hl 0 rfl) ?_
    refine va_get (D := (dC, dI)) (ci := 1) (v := .int (nI ln)) (C := RX1) (T := TX1) (N := 9) hx hb hts hIn hown hK hP 0 rfl rfl 3 (by decide) (hts (.fieldLink RX1 44 RX1 "length" "I") (by decide +kernel)) (fun _ h9 => h9) rfl dX1_next_8 ?_
    refine lv_iconst (v := 2) hx hb dX1_next_11 (by decide) ?_
    refine lv_icmp_le (tgt := 56) hx hb dX1_next_12 (by decide) (fun c_10 => ?_) (fun c_10 => ?_)
    · have c_10 : ln ≤ 2 := (nI_leI (a := ln) (b := 2) (by omega) (by omega)).mp c_10
      have e9 : s0N kb ln st = st := by simp only [s0N, if_pos c_9, if_pos c_10]
      exact j56 s.heap [] ls (by rw [e9]; exact hP) (by rw [e9]; exact hD) hS hl
    · have c_10 : ¬ ln ≤ 2 := fun zz => c_10 ((nI_leI (a := ln) (b := 2) (by omega) (by omega)).mpr zz)
      refine lv_aload_n hx hb dX1_next_15 rfl (lv_at hl 0 rfl) ?_
      refine va_get (D := (dC, dI)) (ci := 1) (v := .ref g2) (C := RX1) (T := TX1) (N := 9) hx hb hts hIn hown hK hP 0 rfl rfl 2 (by decide) (hts (.fieldLink RX1 13 RX1 "kept" "[I") (by decide +kernel)) (fun _ h9 => h9) rfl dX1_next_16 ?_
      refine lv_iconst (v := 0) hx hb dX1_next_19 (by decide) ?_
      refine va_iald hx hb hK hP 2 0 rfl rfl (vp_in_nI (n := 0) (by omega) (by omega)) dX1_next_20 ?_
      refine lv_topi (fun x_11 ex_11 => ?_)
      obtain rfl : x_11 = nI (kb 0) := ex_11.trans (congrArg (fun j => nI (kb j)) ((by decide)))
      have hb_12 := hkb 0
      refine lv_sipush (v := 239) hx hb dX1_next_21 (by decide) ?_
      refine lv_icmp_ne (tgt := 56) hx hb dX1_next_24 (by decide) (fun c_13 => ?_) (fun c_13 => ?_)
      · have c_13 : ¬ kb 0 = 239 := fun zz => c_13 ((nI_eq (a := kb 0) (b := 239) (by omega) (by omega)).mpr zz)
        have e9 : s0N kb ln st = st := by simp only [s0N, if_pos c_9, if_neg c_10, if_neg c_13]
        exact j56 s.heap [] ls (by rw [e9]; exact hP) (by rw [e9]; exact hD) hS hl
      · have c_13 : kb 0 = 239 := (nI_eq (a := kb 0) (b := 239) (by omega) (by omega)).mp c_13
        refine lv_aload_n hx hb dX1_next_27 rfl (lv_at hl 0 rfl) ?_
        refine va_get (D := (dC, dI)) (ci := 1) (v := .ref g2) (C := RX1) (T := TX1) (N := 9) hx hb hts hIn hown hK hP 0 rfl rfl 2 (by decide) (hts (.fieldLink RX1 13 RX1 "kept" "[I") (by decide +kernel)) (fun _ h9 => h9) rfl dX1_next_28 ?_
        refine lv_iconst (v := 1) hx hb dX1_next_31 (by decide) ?_
        refine va_iald hx hb hK hP 2 0 rfl rfl (vp_in_nI (n := 1) (by omega) (by omega)) dX1_next_32 ?_
        refine lv_topi (fun x_14 ex_14 => ?_)
        obtain rfl : x_14 = nI (kb 1) := ex_14.trans (congrArg (fun j => nI (kb j)) ((by decide)))
        have hb_15 := hkb 1
        refine lv_sipush (v := 187) hx hb dX1_next_33 (by decide) ?_
        refine lv_icmp_ne (tgt := 56) hx hb dX1_next_36 (by decide) (fun c_16 => ?_) (fun c_16 => ?_)
        · have c_16 : ¬ kb 1 = 187 := fun zz => c_16 ((nI_eq (a := kb 1) (b := 187) (by omega) (by omega)).mpr zz)
          have e9 : s0N kb ln st = st := by simp only [s0N, if_pos c_9, if_neg c_10, if_pos c_13, if_neg c_16]
          exact j56 s.heap [] ls (by rw [e9]; exact hP) (by rw [e9]; exact hD) hS hl
        · have c_16 : kb 1 = 187 := (nI_eq (a := kb 1) (b := 187) (by omega) (by omega)).mp c_16
          refine lv_aload_n hx hb dX1_next_39 rfl (lv_at hl 0 rfl) ?_
          refine va_get (D := (dC, dI)) (ci := 1) (v := .ref g2) (C := RX1) (T := TX1) (N := 9) hx hb hts hIn hown hK hP 0 rfl rfl 2 (by decide) (hts (.fieldLink RX1 13 RX1 "kept" "[I") (by decide +kernel)) (fun _ h9 => h9) rfl dX1_next_40 ?_
          refine lv_iconst (v := 2) hx hb dX1_next_43 (by decide) ?_
          refine va_iald hx hb hK hP 2 0 rfl rfl (vp_in_nI (n := 2) (by omega) (by omega)) dX1_next_44 ?_
          refine lv_topi (fun x_17 ex_17 => ?_)
          obtain rfl : x_17 = nI (kb 2) := ex_17.trans (congrArg (fun j => nI (kb j)) ((by decide)))
          have hb_18 := hkb 2
          refine lv_sipush (v := 191) hx hb dX1_next_45 (by decide) ?_
          refine lv_icmp_ne (tgt := 56) hx hb dX1_next_48 (by decide) (fun c_19 => ?_) (fun c_19 => ?_)
          · have c_19 : ¬ kb 2 = 191 := fun zz => c_19 ((nI_eq (a := kb 2) (b := 191) (by omega) (by omega)).mpr zz)
            have e9 : s0N kb ln st = st := by simp only [s0N, if_pos c_9, if_neg c_10, if_pos c_13, if_pos c_16, if_neg c_19]
            exact j56 s.heap [] ls (by rw [e9]; exact hP) (by rw [e9]; exact hD) hS hl
          · have c_19 : kb 2 = 191 := (nI_eq (a := kb 2) (b := 191) (by omega) (by omega)).mp c_19
            refine lv_aload_n hx hb dX1_next_51 rfl (lv_at hl 0 rfl) ?_
            refine lv_iconst (v := 3) hx hb dX1_next_52 (by decide) ?_
            refine va_put (D := (dC, dI)) (ci := 1) (v := .int 3) (ty := .int) (C := RX1) (T := TX1) (N := 9) hx hb hts hIn tyX1 tyX1_ok nmX1 hown hK hP hD hS 0 rfl rfl 6 (by decide) (hts (.fieldLink RX1 41 RX1 "stand" "I") (by decide +kernel)) (fun _ h9 => h9) rfl (by decide +kernel) rfl rfl (Nat.le_of_ble_eq_true rfl) dX1_next_53 (fun H locs hP hD hS => ?_)
            have hP : va_P (dC, dI) vwCl [(g0, .inr (1, [.ref g1, .int (nI n), .ref g2, .int (nI ln), .int (bI rd), .int fp, .int 3, .int mt, .int bg])), (g1, .inl (cA, 1000, .inl (fun j => nI (tb j)))), (g2, .inl (cA, 1000, .inl (fun j => nI (kb j))))] H := hP
            have hD : va_D A [(g0, .inr (1, [.ref g1, .int (nI n), .ref g2, .int (nI ln), .int (bI rd), .int fp, .int 3, .int mt, .int bg])), (g1, .inl (cA, 1000, .inl (fun j => nI (tb j)))), (g2, .inl (cA, 1000, .inl (fun j => nI (kb j))))] := hD
            have e9 : s0N kb ln st = 3 := by simp only [s0N, if_pos c_9, if_neg c_10, if_pos c_13, if_pos c_16, if_pos c_19]
            exact j56 H locs ls (by rw [e9]; exact hP) (by rw [e9]; exact hD) hS hl
