set_option maxHeartbeats 4000000 in
set_option maxRecDepth 100000 in
theorem c_X1_go_off (l : Launch) (dC : Nat → ClassId) (dI : Nat → Nat → Nat) (g0 g1 g2 : Nat) (cA : ClassId) (sz : Nat) (tb : Nat → Nat) (n : Nat) (kb : Nat → Nat) (ln : Nat) (rd : Bool) (fp : Int32) (st : Nat) (mt bg : Int32) (i : Int32) (hoff : rd = false ∨ i < 0) : Met l yX1_go wsX1_go ({ frames := 3, cells := 0, slots := 0, locals := 66 }) (va_Pc [.ref g0, .int i] (fun U => mmut dC dI g0 g1 g2 cA sz (tb, n, kb, ln, rd, fp, st, mt, bg) U)) (va_Qi (fun (r : Int32) (u : MS) => r = 0 ∧ u = (tb, n, kb, ln, rd, fp, 0, mt, bg)) (matt dC dI g0 g1 g2 cA (va_A (mw g0 g1 g2 cA (tb, n, kb, ln, rd, fp, st, mt, bg)) sz)) (va_A (mw g0 g1 g2 cA (tb, n, kb, ln, rd, fp, st, mt, bg)) sz)) 0 0 (va_A (mw g0 g1 g2 cA (tb, n, kb, ln, rd, fp, st, mt, bg)) sz) := by
  refine Met.ofW (cc := cX1_go) (maxL := 4) (ret := (some .boolean)) (by decide) rfl ?_
  intro p e s m args below meth c s₁ B hml hv
  obtain ⟨rfl, hsz, hP, hK, hD0⟩ := hv
  have hx := B.exec
  have hb := B.bytes
  have hr := B.returns
  have hts := atoms_spec (ws := wsX1_go) B.pre
  have hown : s.vm.findClass RX1 = some m.cls := findClass_of_methodNamed B.named
  subst hsz
  have hD := hD0.self (sz := s.heap.size)
  generalize hAe : va_A (mw g0 g1 g2 cA (tb, n, kb, ln, rd, fp, st, mt, bg)) s.heap.size = A at hD ⊢
  have hA : ∀ q : Nat, s.heap.size ≤ q → A q := fun q h => by rw [← hAe]; exact Or.inr h
  have hS : va_S A s.heap s.heap [] := va_S.rf
  have hP : va_P (dC, dI) vwCl [(g0, .inr (1, [.ref g1, .int (nI n), .ref g2, .int (nI ln), .int (bI rd), .int fp, .int (nI st), .int mt, .int bg])), (g1, .inl (cA, 1000, .inl (fun j => nI (tb j)))), (g2, .inl (cA, 1000, .inl (fun j => nI (kb j))))] s.heap := hP
  have hD : va_D A [(g0, .inr (1, [.ref g1, .int (nI n), .ref g2, .int (nI ln), .int (bI rd), .int fp, .int (nI st), .int mt, .int bg])), (g1, .inl (cA, 1000, .inl (fun j => nI (tb j)))), (g2, .inl (cA, 1000, .inl (fun j => nI (kb j))))] := hD
  have hIn : ∀ w ∈ wsX10, w ∈ wsX1_go := by decide +kernel
  have hl := lv_entry ([.ref g0, .int i]) (n := 4) (Nat.le_of_ble_eq_true rfl)
  rw [lg_entry_eq]
  generalize (lg_sl ([.ref g0, .int i]) ++ List.replicate (4 - (lg_sl ([.ref g0, .int i])).length) Slot.unset).toArray = ls at hl ⊢
  have hl : lv_has ls 4 [(0, .ref g0), (1, .int i)] := hl
  refine lv_aload_n hx hb dX1_go_0 rfl (lv_at hl 0 rfl) ?_
  refine lv_iconst (v := 0) hx hb dX1_go_1 (by decide) ?_
  refine va_put (D := (dC, dI)) (ci := 1) (v := .int 0) (ty := .int) (C := RX1) (T := TX1) (N := 9) hx hb hts hIn tyX1 tyX1_ok nmX1 hown hK hP hD hS 0 rfl rfl 6 (by decide) (hts (.fieldLink RX1 41 RX1 "stand" "I") (by decide +kernel)) (fun _ h9 => h9) rfl (by decide +kernel) rfl rfl (Nat.le_of_ble_eq_true rfl) dX1_go_2 (fun H locs hP hD hS => ?_)
  have hP : va_P (dC, dI) vwCl [(g0, .inr (1, [.ref g1, .int (nI n), .ref g2, .int (nI ln), .int (bI rd), .int fp, .int 0, .int mt, .int bg])), (g1, .inl (cA, 1000, .inl (fun j => nI (tb j)))), (g2, .inl (cA, 1000, .inl (fun j => nI (kb j))))] H := hP
  have hD : va_D A [(g0, .inr (1, [.ref g1, .int (nI n), .ref g2, .int (nI ln), .int (bI rd), .int fp, .int 0, .int mt, .int bg])), (g1, .inl (cA, 1000, .inl (fun j => nI (tb j)))), (g2, .inl (cA, 1000, .inl (fun j => nI (kb j))))] := hD
  refine lv_aload_n hx hb dX1_go_5 rfl (lv_at hl 0 rfl) ?_
  refine va_get (D := (dC, dI)) (ci := 1) (v := .int (bI rd)) (C := RX1) (T := TX1) (N := 9) hx hb hts hIn hown hK hP 0 rfl rfl 4 (by decide) (hts (.fieldLink RX1 60 RX1 "read" "Z") (by decide +kernel)) (fun _ h9 => h9) rfl dX1_go_6 ?_
  refine lv_if_eq (tgt := 20) hx hb dX1_go_9 (by decide) (fun c_1 => ?_) (fun c_1 => ?_)
  · have c_1 := bI_0 c_1
    refine lv_iconst (v := 0) hx hb dX1_go_20 (by decide) ?_
    refine lv_istore_n (lv' := [(2, .int 0), (0, .ref g0), (1, .int i)]) hx hb dX1_go_21 rfl hl (by decide) rfl (fun ls hl => ?_)
    refine lv_iconst (v := 0) hx hb dX1_go_22 (by decide) ?_
    refine lv_istore_n (lv' := [(3, .int 0), (2, .int 0), (0, .ref g0), (1, .int i)]) hx hb dX1_go_23 rfl hl (by decide) rfl (fun ls hl => ?_)
    refine lv_iload_n hx hb dX1_go_24 rfl (lv_at hl 0 rfl) ?_
    refine lv_iload_n hx hb dX1_go_25 rfl (lv_at hl 3 rfl) ?_
    refine lv_icmp_gt (tgt := 44) hx hb dX1_go_26 (by decide) (fun c_2 => ?_) (fun c_2 => ?_)
    · refine lv_iload_n hx hb dX1_go_44 rfl (lv_at hl 1 rfl) ?_
      have hP9 : va_P (dC, dI) vwCl (mw g0 g1 g2 cA (tb, n, kb, ln, rd, fp, 0, mt, bg)) H := hP
      have hD9 : va_D A (mw g0 g1 g2 cA (tb, n, kb, ln, rd, fp, 0, mt, bg)) := hD
      exact W.zret (v := 0) (ty := .boolean) hx hb hr (rfl) (fun t ht hW => ⟨⟨0, (tb, n, kb, ln, rd, fp, 0, mt, bg), rfl, ⟨rfl, rfl⟩, by rw [ht]; exact hP9, va_K.moved hW.alike hK, hD9⟩, hS.F ht⟩) hS.2.2 dX1_go_45
    · refine lv_iload_n hx hb dX1_go_29 rfl (lv_at hl 1 rfl) ?_
      refine lv_if_eq (tgt := 44) hx hb dX1_go_30 (by decide) (fun c_3 => ?_) (fun c_3 => ?_)
      · refine lv_iload_n hx hb dX1_go_44 rfl (lv_at hl 1 rfl) ?_
        have hP9 : va_P (dC, dI) vwCl (mw g0 g1 g2 cA (tb, n, kb, ln, rd, fp, 0, mt, bg)) H := hP
        have hD9 : va_D A (mw g0 g1 g2 cA (tb, n, kb, ln, rd, fp, 0, mt, bg)) := hD
        exact W.zret (v := 0) (ty := .boolean) hx hb hr (rfl) (fun t ht hW => ⟨⟨0, (tb, n, kb, ln, rd, fp, 0, mt, bg), rfl, ⟨rfl, rfl⟩, by rw [ht]; exact hP9, va_K.moved hW.alike hK, hD9⟩, hS.F ht⟩) hS.2.2 dX1_go_45
      · exact absurd c_3 (by decide)
  · have c_1 := bI_n0 c_1
    refine lv_iload_n hx hb dX1_go_12 rfl (lv_at hl 1 rfl) ?_
    refine lv_if_lt (tgt := 20) hx hb dX1_go_13 (by decide) (fun c_4 => ?_) (fun c_4 => ?_)
    · refine lv_iconst (v := 0) hx hb dX1_go_20 (by decide) ?_
      refine lv_istore_n (lv' := [(2, .int 0), (0, .ref g0), (1, .int i)]) hx hb dX1_go_21 rfl hl (by decide) rfl (fun ls hl => ?_)
      refine lv_iconst (v := 0) hx hb dX1_go_22 (by decide) ?_
      refine lv_istore_n (lv' := [(3, .int 0), (2, .int 0), (0, .ref g0), (1, .int i)]) hx hb dX1_go_23 rfl hl (by decide) rfl (fun ls hl => ?_)
      refine lv_iload_n hx hb dX1_go_24 rfl (lv_at hl 0 rfl) ?_
      refine lv_iload_n hx hb dX1_go_25 rfl (lv_at hl 3 rfl) ?_
      refine lv_icmp_gt (tgt := 44) hx hb dX1_go_26 (by decide) (fun c_5 => ?_) (fun c_5 => ?_)
      · refine lv_iload_n hx hb dX1_go_44 rfl (lv_at hl 1 rfl) ?_
        have hP9 : va_P (dC, dI) vwCl (mw g0 g1 g2 cA (tb, n, kb, ln, rd, fp, 0, mt, bg)) H := hP
        have hD9 : va_D A (mw g0 g1 g2 cA (tb, n, kb, ln, rd, fp, 0, mt, bg)) := hD
        exact W.zret (v := 0) (ty := .boolean) hx hb hr (rfl) (fun t ht hW => ⟨⟨0, (tb, n, kb, ln, rd, fp, 0, mt, bg), rfl, ⟨rfl, rfl⟩, by rw [ht]; exact hP9, va_K.moved hW.alike hK, hD9⟩, hS.F ht⟩) hS.2.2 dX1_go_45
      · exact absurd c_4 c_5
    · exact absurd hoff (by rintro (q | q); exact absurd q (by rw [c_1]; decide); exact c_4 q)
set_option maxHeartbeats 4000000 in
set_option maxRecDepth 100000 in
theorem c_X1_go_yes (l : Launch) (dC : Nat → ClassId) (dI : Nat → Nat → Nat) (g0 g1 g2 : Nat) (cA : ClassId) (sz : Nat) (tb : Nat → Nat) (n : Nat) (kb : Nat → Nat) (ln : Nat) (rd : Bool) (fp : Int32) (st : Nat) (mt bg : Int32) (hkb : ∀ j, kb j < 256) (hln : ln ≤ 1000) (k : Nat) (mf bf sg : Nat → Nat) (hch : Chain kb ln k mf bf sg) (j : Nat) (hj : j < k) (hk : k ≤ 1000) (hrd : rd = true) : Met l yX1_go wsX1_go ({ frames := 3, cells := 0, slots := 0, locals := 66 }) (va_Pc [.ref g0, .int (nI j)] (fun U => mmut dC dI g0 g1 g2 cA sz (tb, n, kb, ln, rd, fp, st, mt, bg) U)) (va_Qi (fun (r : Int32) (u : MS) => r = 1 ∧ u = (tb, n, kb, ln, rd, fp, sg (j + 1), nI (mf j), nI (bf j))) (matt dC dI g0 g1 g2 cA (va_A (mw g0 g1 g2 cA (tb, n, kb, ln, rd, fp, st, mt, bg)) sz)) (va_A (mw g0 g1 g2 cA (tb, n, kb, ln, rd, fp, st, mt, bg)) sz)) 0 0 (va_A (mw g0 g1 g2 cA (tb, n, kb, ln, rd, fp, st, mt, bg)) sz) := by
  refine Met.ofW (cc := cX1_go) (maxL := 4) (ret := (some .boolean)) (by decide) rfl ?_
  intro p e s m args below meth c s₁ B hml hv
  obtain ⟨rfl, hsz, hP, hK, hD0⟩ := hv
  have hx := B.exec
  have hb := B.bytes
  have hr := B.returns
  have hts := atoms_spec (ws := wsX1_go) B.pre
  have hown : s.vm.findClass RX1 = some m.cls := findClass_of_methodNamed B.named
  subst hsz
  have hD := hD0.self (sz := s.heap.size)
  generalize hAe : va_A (mw g0 g1 g2 cA (tb, n, kb, ln, rd, fp, st, mt, bg)) s.heap.size = A at hD ⊢
  have hA : ∀ q : Nat, s.heap.size ≤ q → A q := fun q h => by rw [← hAe]; exact Or.inr h
  have hS : va_S A s.heap s.heap [] := va_S.rf
  have hP : va_P (dC, dI) vwCl [(g0, .inr (1, [.ref g1, .int (nI n), .ref g2, .int (nI ln), .int (bI rd), .int fp, .int (nI st), .int mt, .int bg])), (g1, .inl (cA, 1000, .inl (fun j => nI (tb j)))), (g2, .inl (cA, 1000, .inl (fun j => nI (kb j))))] s.heap := hP
  have hD : va_D A [(g0, .inr (1, [.ref g1, .int (nI n), .ref g2, .int (nI ln), .int (bI rd), .int fp, .int (nI st), .int mt, .int bg])), (g1, .inl (cA, 1000, .inl (fun j => nI (tb j)))), (g2, .inl (cA, 1000, .inl (fun j => nI (kb j))))] := hD
  have hIn : ∀ w ∈ wsX10, w ∈ wsX1_go := by decide +kernel
  have hl := lv_entry ([.ref g0, .int (nI j)]) (n := 4) (Nat.le_of_ble_eq_true rfl)
  rw [lg_entry_eq]
  generalize (lg_sl ([.ref g0, .int (nI j)]) ++ List.replicate (4 - (lg_sl ([.ref g0, .int (nI j)])).length) Slot.unset).toArray = ls at hl ⊢
  have hl : lv_has ls 4 [(0, .ref g0), (1, .int (nI j))] := hl
  have hsgb := chain_sg hkb hch
  have loop : ∀ (d q : Nat) (mt2 bg2 : Int32) (H : Heap) (locs : List Loc) (ls : Array Slot), q + d = j + 1 → (∀ z, q = z + 1 → mt2 = nI (mf z) ∧ bg2 = nI (bf z)) → va_P (dC, dI) vwCl [(g0, .inr (1, [.ref g1, .int (nI n), .ref g2, .int (nI ln), .int (bI rd), .int fp, .int (nI (sg q)), .int mt2, .int bg2])), (g1, .inl (cA, 1000, .inl (fun j => nI (tb j)))), (g2, .inl (cA, 1000, .inl (fun j => nI (kb j))))] H → va_D A [(g0, .inr (1, [.ref g1, .int (nI n), .ref g2, .int (nI ln), .int (bI rd), .int fp, .int (nI (sg q)), .int mt2, .int bg2])), (g1, .inl (cA, 1000, .inl (fun j => nI (tb j)))), (g2, .inl (cA, 1000, .inl (fun j => nI (kb j))))] → va_S A s.heap H locs → lv_has ls 4 [(3, .int (nI q)), (2, .int 1), (0, .ref g0), (1, .int (nI j))] → W p l e (headSpec wsX1_go ({ frames := 3, cells := 0, slots := 0, locals := 66 })).room s m ([.ref g0, .int (nI j)] : List Value).toArray below meth c H locs 0 0 (MQ below (va_Qi (fun (r : Int32) (u : MS) => r = 1 ∧ u = (tb, n, kb, ln, rd, fp, sg (j + 1), nI (mf j), nI (bf j))) (matt dC dI g0 g1 g2 cA A) A) ([.ref g0, .int (nI j)] : List Value).toArray s 0 0 A) (F0 m 24 ls []) := by
    intro d
    induction d with
    | zero =>
      intro q mt2 bg2 H locs ls hqd hmb hP hD hS hl
      obtain ⟨hm2, hb2⟩ := hmb j (by omega)
      refine lv_iload_n hx hb dX1_go_24 rfl (lv_at hl 0 rfl) ?_
      refine lv_iload_n hx hb dX1_go_25 rfl (lv_at hl 3 rfl) ?_
      refine lv_icmp_gt (tgt := 44) hx hb dX1_go_26 (by decide) (fun c_1 => ?_) (fun c_1 => ?_)
      · have c_1 : j < q := (nI_ltI (a := j) (b := q) (by omega) (by omega)).mp c_1
        refine lv_iload_n hx hb dX1_go_44 rfl (lv_at hl 1 rfl) ?_
        have hP9 : va_P (dC, dI) vwCl (mw g0 g1 g2 cA (tb, n, kb, ln, rd, fp, (sg q), mt2, bg2)) H := hP
        have hD9 : va_D A (mw g0 g1 g2 cA (tb, n, kb, ln, rd, fp, (sg q), mt2, bg2)) := hD
        exact W.zret (v := 1) (ty := .boolean) hx hb hr (rfl) (fun t ht hW => ⟨⟨1, (tb, n, kb, ln, rd, fp, (sg q), mt2, bg2), rfl, ⟨rfl, by rw [hm2, hb2, show q = j + 1 by omega]⟩, by rw [ht]; exact hP9, va_K.moved hW.alike hK, hD9⟩, hS.F ht⟩) hS.2.2 dX1_go_45
      · exact absurd (nI_lt (by omega) (by omega)) c_1
    | succ d ih =>
      intro q mt2 bg2 H locs ls hqd hmb hP hD hS hl
      have hqk : q < k := by omega
      have hsb := hsgb q (by omega)
      refine lv_iload_n hx hb dX1_go_24 rfl (lv_at hl 0 rfl) ?_
      refine lv_iload_n hx hb dX1_go_25 rfl (lv_at hl 3 rfl) ?_
      refine lv_icmp_gt (tgt := 44) hx hb dX1_go_26 (by decide) (fun c_2 => ?_) (fun c_2 => ?_)
      · exact absurd c_2 (nI_nlt (by omega) (by omega))
      · have c_2 : ¬ j < q := fun zz => c_2 ((nI_ltI (a := j) (b := q) (by omega) (by omega)).mpr zz)
        refine lv_iload_n hx hb dX1_go_29 rfl (lv_at hl 1 rfl) ?_
        refine lv_if_eq (tgt := 44) hx hb dX1_go_30 (by decide) (fun c_3 => ?_) (fun c_3 => ?_)
        · exact absurd c_3 (by decide)
        · have c_3 : ¬ 1 = 0 := fun zz => c_3 ((nI_eq (a := 1) (b := 0) (by omega) (by omega)).mpr zz)
          refine lv_aload_n hx hb dX1_go_33 rfl (lv_at hl 2 rfl) ?_
          have hFc := va_free (wc := mw g0 g1 g2 cA (tb, n, kb, ln, rd, fp, (sg q), mt2, bg2)) hD hS hA [0, 1, 2] rfl
          obtain ⟨hgo, v_4, w_4, hsq, hmf, hbf, hsg⟩ := hch.2.1 q hqk
          have hlt_4 := seqN_lt hkb hsq
          refine va_calli (va_runV (As := []) (rest := []) ⟨hx, hb, hml, hown, hts⟩ (c_X1_next_some l dC dI g0 g1 g2 cA H.size tb n kb ln rd fp (sg q) mt2 bg2 hkb hln (by omega) v_4 w_4 hgo hsq) (cwV 0 hts gX1_go_X1_next rfl rfl rfl (by decide +kernel) ⟨Nat.le_of_ble_eq_true rfl, Nat.le_of_ble_eq_true rfl⟩) ⟨mmut_blind, va_recv hK hP (ci := 1) (q0 := 0) rfl rfl, fun U hU hW => ⟨rfl, mmut_of hP hK hD hU hW⟩⟩ rfl rfl hl.1 rfl (lv_room (Nat.le_of_ble_eq_true rfl)) dX1_go_34 ⟨Nat.le_of_ble_eq_true rfl, Nat.le_of_ble_eq_true rfl⟩) hS (fun q _ h => hFc q h) hFc (fun r_4 u_4 t_4 H1 locs ht hvm hw hB hz1 hk1 hS => ?_)
          obtain ⟨hw0, hw1⟩ := hw
          rw [← hmf, ← hsg, ← hbf] at hw1
          obtain rfl : r_4 = 1 := hw0
          obtain rfl : u_4 = (tb, n, kb, ln, rd, fp, (sg (q + 1)), (nI (mf q)), (nI (bf q))) := hw1
          obtain ⟨hP1, hK1, hD1⟩ := hB
          rw [ht] at hP1
          obtain ⟨hP, hD⟩ := va_join (wr := []) (w1 := mw g0 g1 g2 cA (tb, n, kb, ln, rd, fp, (sg (q + 1)), (nI (mf q)), (nI (bf q)))) hP hD [0, 1, 2] [] rfl rfl (by decide) (by decide) hk1 hFc hP1 hD1
          generalize H1 = H at hP hS ⊢
          have hP : va_P (dC, dI) vwCl [(g0, .inr (1, [.ref g1, .int (nI n), .ref g2, .int (nI ln), .int (bI rd), .int fp, .int (nI (sg (q + 1))), .int (nI (mf q)), .int (nI (bf q))])), (g1, .inl (cA, 1000, .inl (fun j => nI (tb j)))), (g2, .inl (cA, 1000, .inl (fun j => nI (kb j))))] H := hP
          have hD : va_D A [(g0, .inr (1, [.ref g1, .int (nI n), .ref g2, .int (nI ln), .int (bI rd), .int fp, .int (nI (sg (q + 1))), .int (nI (mf q)), .int (nI (bf q))])), (g1, .inl (cA, 1000, .inl (fun j => nI (tb j)))), (g2, .inl (cA, 1000, .inl (fun j => nI (kb j))))] := hD
          refine lv_istore_n (lv' := [(2, .int 1), (3, .int (nI q)), (0, .ref g0), (1, .int (nI j))]) hx hb dX1_go_37 rfl hl (by decide) rfl (fun ls hl => ?_)
          refine lv_iinc (v := nI (q + 1)) (lv' := [(3, .int (nI (q + 1))), (2, .int 1), (0, .ref g0), (1, .int (nI j))]) hx hb dX1_go_38 hl (k := 1) rfl (nI_1 q) (by decide) rfl (fun ls hl => ?_)
          refine lv_goto (tgt := 24) hx hb dX1_go_41 (by decide) ?_
          exact ih (q + 1) _ _ H locs ls (by omega) (fun z hz => by rw [show z = q by omega]; exact ⟨rfl, rfl⟩) hP hD hS (lv_sub hl [0, 1, 2, 3] rfl)
  refine lv_aload_n hx hb dX1_go_0 rfl (lv_at hl 0 rfl) ?_
  refine lv_iconst (v := 0) hx hb dX1_go_1 (by decide) ?_
  refine va_put (D := (dC, dI)) (ci := 1) (v := .int 0) (ty := .int) (C := RX1) (T := TX1) (N := 9) hx hb hts hIn tyX1 tyX1_ok nmX1 hown hK hP hD hS 0 rfl rfl 6 (by decide) (hts (.fieldLink RX1 41 RX1 "stand" "I") (by decide +kernel)) (fun _ h9 => h9) rfl (by decide +kernel) rfl rfl (Nat.le_of_ble_eq_true rfl) dX1_go_2 (fun H locs hP hD hS => ?_)
  have hP : va_P (dC, dI) vwCl [(g0, .inr (1, [.ref g1, .int (nI n), .ref g2, .int (nI ln), .int (bI rd), .int fp, .int 0, .int mt, .int bg])), (g1, .inl (cA, 1000, .inl (fun j => nI (tb j)))), (g2, .inl (cA, 1000, .inl (fun j => nI (kb j))))] H := hP
  have hD : va_D A [(g0, .inr (1, [.ref g1, .int (nI n), .ref g2, .int (nI ln), .int (bI rd), .int fp, .int 0, .int mt, .int bg])), (g1, .inl (cA, 1000, .inl (fun j => nI (tb j)))), (g2, .inl (cA, 1000, .inl (fun j => nI (kb j))))] := hD
  refine lv_aload_n hx hb dX1_go_5 rfl (lv_at hl 0 rfl) ?_
  refine va_get (D := (dC, dI)) (ci := 1) (v := .int (bI rd)) (C := RX1) (T := TX1) (N := 9) hx hb hts hIn hown hK hP 0 rfl rfl 4 (by decide) (hts (.fieldLink RX1 60 RX1 "read" "Z") (by decide +kernel)) (fun _ h9 => h9) rfl dX1_go_6 ?_
  refine lv_if_eq (tgt := 20) hx hb dX1_go_9 (by decide) (fun c_5 => ?_) (fun c_5 => ?_)
  · exact absurd hrd (bI_0 c_5)
  · have c_5 := bI_n0 c_5
    refine lv_iload_n hx hb dX1_go_12 rfl (lv_at hl 1 rfl) ?_
    refine lv_if_lt (tgt := 20) hx hb dX1_go_13 (by decide) (fun c_6 => ?_) (fun c_6 => ?_)
    · exact absurd c_6 (nI_pos (by omega))
    · have c_6 : ¬ j < 0 := fun zz => c_6 ((nI_ltI (a := j) (b := 0) (by omega) (by omega)).mpr zz)
      refine lv_iconst (v := 1) hx hb dX1_go_16 (by decide) ?_
      refine lv_goto (tgt := 21) hx hb dX1_go_17 (by decide) ?_
      refine lv_istore_n (lv' := [(2, .int 1), (0, .ref g0), (1, .int (nI j))]) hx hb dX1_go_21 rfl hl (by decide) rfl (fun ls hl => ?_)
      refine lv_iconst (v := 0) hx hb dX1_go_22 (by decide) ?_
      refine lv_istore_n (lv' := [(3, .int 0), (2, .int 1), (0, .ref g0), (1, .int (nI j))]) hx hb dX1_go_23 rfl hl (by decide) rfl (fun ls hl => ?_)
      exact loop (j + 1) 0 mt bg H locs ls (by omega) (fun z hz => absurd hz (by omega)) (by rw [hch.1]; exact hP) (by rw [hch.1]; exact hD) hS (lv_sub hl [0, 1, 2, 3] rfl)
set_option maxHeartbeats 4000000 in
set_option maxRecDepth 100000 in
theorem c_X1_go_far (l : Launch) (dC : Nat → ClassId) (dI : Nat → Nat → Nat) (g0 g1 g2 : Nat) (cA : ClassId) (sz : Nat) (tb : Nat → Nat) (n : Nat) (kb : Nat → Nat) (ln : Nat) (rd : Bool) (fp : Int32) (st : Nat) (mt bg : Int32) (hkb : ∀ j, kb j < 256) (hln : ln ≤ 1000) (k : Nat) (mf bf sg : Nat → Nat) (hch : Chain kb ln k mf bf sg) (i : Int32) (hk : k ≤ 1000) (hrd : rd = true) (h0i : 0 ≤ i) (hfar : nI k ≤ i) : Met l yX1_go wsX1_go ({ frames := 3, cells := 0, slots := 0, locals := 66 }) (va_Pc [.ref g0, .int i] (fun U => mmut dC dI g0 g1 g2 cA sz (tb, n, kb, ln, rd, fp, st, mt, bg) U)) (va_Qi (fun (r : Int32) (u : MS) => r = 0 ∧ ∃ (st' : Nat) (mt' bg' : Int32), u = (tb, n, kb, ln, rd, fp, st', mt', bg')) (matt dC dI g0 g1 g2 cA (va_A (mw g0 g1 g2 cA (tb, n, kb, ln, rd, fp, st, mt, bg)) sz)) (va_A (mw g0 g1 g2 cA (tb, n, kb, ln, rd, fp, st, mt, bg)) sz)) 0 0 (va_A (mw g0 g1 g2 cA (tb, n, kb, ln, rd, fp, st, mt, bg)) sz) := by
  refine Met.ofW (cc := cX1_go) (maxL := 4) (ret := (some .boolean)) (by decide) rfl ?_
  intro p e s m args below meth c s₁ B hml hv
  obtain ⟨rfl, hsz, hP, hK, hD0⟩ := hv
  have hx := B.exec
  have hb := B.bytes
  have hr := B.returns
  have hts := atoms_spec (ws := wsX1_go) B.pre
  have hown : s.vm.findClass RX1 = some m.cls := findClass_of_methodNamed B.named
  subst hsz
  have hD := hD0.self (sz := s.heap.size)
  generalize hAe : va_A (mw g0 g1 g2 cA (tb, n, kb, ln, rd, fp, st, mt, bg)) s.heap.size = A at hD ⊢
  have hA : ∀ q : Nat, s.heap.size ≤ q → A q := fun q h => by rw [← hAe]; exact Or.inr h
  have hS : va_S A s.heap s.heap [] := va_S.rf
  have hP : va_P (dC, dI) vwCl [(g0, .inr (1, [.ref g1, .int (nI n), .ref g2, .int (nI ln), .int (bI rd), .int fp, .int (nI st), .int mt, .int bg])), (g1, .inl (cA, 1000, .inl (fun j => nI (tb j)))), (g2, .inl (cA, 1000, .inl (fun j => nI (kb j))))] s.heap := hP
  have hD : va_D A [(g0, .inr (1, [.ref g1, .int (nI n), .ref g2, .int (nI ln), .int (bI rd), .int fp, .int (nI st), .int mt, .int bg])), (g1, .inl (cA, 1000, .inl (fun j => nI (tb j)))), (g2, .inl (cA, 1000, .inl (fun j => nI (kb j))))] := hD
  have hIn : ∀ w ∈ wsX10, w ∈ wsX1_go := by decide +kernel
  have hl := lv_entry ([.ref g0, .int i]) (n := 4) (Nat.le_of_ble_eq_true rfl)
  rw [lg_entry_eq]
  generalize (lg_sl ([.ref g0, .int i]) ++ List.replicate (4 - (lg_sl ([.ref g0, .int i])).length) Slot.unset).toArray = ls at hl ⊢
  have hl : lv_has ls 4 [(0, .ref g0), (1, .int i)] := hl
  have hsgb := chain_sg hkb hch
  have loop : ∀ (d q : Nat) (mt2 bg2 : Int32) (H : Heap) (locs : List Loc) (ls : Array Slot), q + d = k → va_P (dC, dI) vwCl [(g0, .inr (1, [.ref g1, .int (nI n), .ref g2, .int (nI ln), .int (bI rd), .int fp, .int (nI (sg q)), .int mt2, .int bg2])), (g1, .inl (cA, 1000, .inl (fun j => nI (tb j)))), (g2, .inl (cA, 1000, .inl (fun j => nI (kb j))))] H → va_D A [(g0, .inr (1, [.ref g1, .int (nI n), .ref g2, .int (nI ln), .int (bI rd), .int fp, .int (nI (sg q)), .int mt2, .int bg2])), (g1, .inl (cA, 1000, .inl (fun j => nI (tb j)))), (g2, .inl (cA, 1000, .inl (fun j => nI (kb j))))] → va_S A s.heap H locs → lv_has ls 4 [(3, .int (nI q)), (2, .int 1), (0, .ref g0), (1, .int i)] → W p l e (headSpec wsX1_go ({ frames := 3, cells := 0, slots := 0, locals := 66 })).room s m ([.ref g0, .int i] : List Value).toArray below meth c H locs 0 0 (MQ below (va_Qi (fun (r : Int32) (u : MS) => r = 0 ∧ ∃ (st' : Nat) (mt' bg' : Int32), u = (tb, n, kb, ln, rd, fp, st', mt', bg')) (matt dC dI g0 g1 g2 cA A) A) ([.ref g0, .int i] : List Value).toArray s 0 0 A) (F0 m 24 ls []) := by
    intro d
    induction d with
    | zero =>
      intro q mt2 bg2 H locs ls hqd hP hD hS hl
      obtain rfl : q = k := by omega
      have hsb := hsgb q (Nat.le_refl _)
      refine lv_iload_n hx hb dX1_go_24 rfl (lv_at hl 0 rfl) ?_
      refine lv_iload_n hx hb dX1_go_25 rfl (lv_at hl 3 rfl) ?_
      refine lv_icmp_gt (tgt := 44) hx hb dX1_go_26 (by decide) (fun c_1 => ?_) (fun c_1 => ?_)
      · exact absurd c_1 (Int32.not_lt.mpr hfar)
      · refine lv_iload_n hx hb dX1_go_29 rfl (lv_at hl 1 rfl) ?_
        refine lv_if_eq (tgt := 44) hx hb dX1_go_30 (by decide) (fun c_2 => ?_) (fun c_2 => ?_)
        · exact absurd c_2 (by decide)
        · have c_2 : ¬ 1 = 0 := fun zz => c_2 ((nI_eq (a := 1) (b := 0) (by omega) (by omega)).mpr zz)
          refine lv_aload_n hx hb dX1_go_33 rfl (lv_at hl 2 rfl) ?_
          have hFc := va_free (wc := mw g0 g1 g2 cA (tb, n, kb, ln, rd, fp, (sg q), mt2, bg2)) hD hS hA [0, 1, 2] rfl
          refine va_calli (va_runV (As := []) (rest := []) ⟨hx, hb, hml, hown, hts⟩ (c_X1_next_end l dC dI g0 g1 g2 cA H.size tb n kb ln rd fp (sg q) mt2 bg2 hkb hln (by omega) hch.2.2) (cwV 0 hts gX1_go_X1_next rfl rfl rfl (by decide +kernel) ⟨Nat.le_of_ble_eq_true rfl, Nat.le_of_ble_eq_true rfl⟩) ⟨mmut_blind, va_recv hK hP (ci := 1) (q0 := 0) rfl rfl, fun U hU hW => ⟨rfl, mmut_of hP hK hD hU hW⟩⟩ rfl rfl hl.1 rfl (lv_room (Nat.le_of_ble_eq_true rfl)) dX1_go_34 ⟨Nat.le_of_ble_eq_true rfl, Nat.le_of_ble_eq_true rfl⟩) hS (fun q _ h => hFc q h) hFc (fun r_3 u_3 t_3 H1 locs ht hvm hw hB hz1 hk1 hS => ?_)
          obtain ⟨hw0, hw1⟩ := hw
          obtain rfl : r_3 = 0 := hw0
          obtain rfl : u_3 = (tb, n, kb, ln, rd, fp, (s0N kb ln (sg q)), mt2, bg2) := hw1
          obtain ⟨hP1, hK1, hD1⟩ := hB
          rw [ht] at hP1
          obtain ⟨hP, hD⟩ := va_join (wr := []) (w1 := mw g0 g1 g2 cA (tb, n, kb, ln, rd, fp, (s0N kb ln (sg q)), mt2, bg2)) hP hD [0, 1, 2] [] rfl rfl (by decide) (by decide) hk1 hFc hP1 hD1
          generalize H1 = H at hP hS ⊢
          have hP : va_P (dC, dI) vwCl [(g0, .inr (1, [.ref g1, .int (nI n), .ref g2, .int (nI ln), .int (bI rd), .int fp, .int (nI (s0N kb ln (sg q))), .int mt2, .int bg2])), (g1, .inl (cA, 1000, .inl (fun j => nI (tb j)))), (g2, .inl (cA, 1000, .inl (fun j => nI (kb j))))] H := hP
          have hD : va_D A [(g0, .inr (1, [.ref g1, .int (nI n), .ref g2, .int (nI ln), .int (bI rd), .int fp, .int (nI (s0N kb ln (sg q))), .int mt2, .int bg2])), (g1, .inl (cA, 1000, .inl (fun j => nI (tb j)))), (g2, .inl (cA, 1000, .inl (fun j => nI (kb j))))] := hD
          refine lv_istore_n (lv' := [(2, .int 0), (3, .int (nI q)), (0, .ref g0), (1, .int i)]) hx hb dX1_go_37 rfl hl (by decide) rfl (fun ls hl => ?_)
          refine lv_iinc (v := nI (q + 1)) (lv' := [(3, .int (nI (q + 1))), (2, .int 0), (0, .ref g0), (1, .int i)]) hx hb dX1_go_38 hl (k := 1) rfl (nI_1 q) (by decide) rfl (fun ls hl => ?_)
          refine lv_goto (tgt := 24) hx hb dX1_go_41 (by decide) ?_
          refine lv_iload_n hx hb dX1_go_24 rfl (lv_at hl 0 rfl) ?_
          refine lv_iload_n hx hb dX1_go_25 rfl (lv_at hl 3 rfl) ?_
          refine lv_icmp_gt (tgt := 44) hx hb dX1_go_26 (by decide) (fun c_4 => ?_) (fun c_4 => ?_)
          · refine lv_iload_n hx hb dX1_go_44 rfl (lv_at hl 1 rfl) ?_
            have hP9 : va_P (dC, dI) vwCl (mw g0 g1 g2 cA (tb, n, kb, ln, rd, fp, (s0N kb ln (sg q)), mt2, bg2)) H := hP
            have hD9 : va_D A (mw g0 g1 g2 cA (tb, n, kb, ln, rd, fp, (s0N kb ln (sg q)), mt2, bg2)) := hD
            exact W.zret (v := 0) (ty := .boolean) hx hb hr (rfl) (fun t ht hW => ⟨⟨0, (tb, n, kb, ln, rd, fp, (s0N kb ln (sg q)), mt2, bg2), rfl, ⟨rfl, _, _, _, rfl⟩, by rw [ht]; exact hP9, va_K.moved hW.alike hK, hD9⟩, hS.F ht⟩) hS.2.2 dX1_go_45
          · refine lv_iload_n hx hb dX1_go_29 rfl (lv_at hl 1 rfl) ?_
            refine lv_if_eq (tgt := 44) hx hb dX1_go_30 (by decide) (fun c_5 => ?_) (fun c_5 => ?_)
            · have c_5 : 0 = 0 := (nI_eq (a := 0) (b := 0) (by omega) (by omega)).mp c_5
              refine lv_iload_n hx hb dX1_go_44 rfl (lv_at hl 1 rfl) ?_
              have hP9 : va_P (dC, dI) vwCl (mw g0 g1 g2 cA (tb, n, kb, ln, rd, fp, (s0N kb ln (sg q)), mt2, bg2)) H := hP
              have hD9 : va_D A (mw g0 g1 g2 cA (tb, n, kb, ln, rd, fp, (s0N kb ln (sg q)), mt2, bg2)) := hD
              exact W.zret (v := 0) (ty := .boolean) hx hb hr (rfl) (fun t ht hW => ⟨⟨0, (tb, n, kb, ln, rd, fp, (s0N kb ln (sg q)), mt2, bg2), rfl, ⟨rfl, _, _, _, rfl⟩, by rw [ht]; exact hP9, va_K.moved hW.alike hK, hD9⟩, hS.F ht⟩) hS.2.2 dX1_go_45
            · exact absurd c_5 (by decide)
    | succ d ih =>
      intro q mt2 bg2 H locs ls hqd hP hD hS hl
      have hqk : q < k := by omega
      have hsb := hsgb q (by omega)
      refine lv_iload_n hx hb dX1_go_24 rfl (lv_at hl 0 rfl) ?_
      refine lv_iload_n hx hb dX1_go_25 rfl (lv_at hl 3 rfl) ?_
      refine lv_icmp_gt (tgt := 44) hx hb dX1_go_26 (by decide) (fun c_6 => ?_) (fun c_6 => ?_)
      · exact absurd c_6 (Int32.not_lt.mpr (Int32.le_trans (nI_le (by omega) (by omega)) hfar))
      · refine lv_iload_n hx hb dX1_go_29 rfl (lv_at hl 1 rfl) ?_
        refine lv_if_eq (tgt := 44) hx hb dX1_go_30 (by decide) (fun c_7 => ?_) (fun c_7 => ?_)
        · exact absurd c_7 (by decide)
        · have c_7 : ¬ 1 = 0 := fun zz => c_7 ((nI_eq (a := 1) (b := 0) (by omega) (by omega)).mpr zz)
          refine lv_aload_n hx hb dX1_go_33 rfl (lv_at hl 2 rfl) ?_
          have hFc := va_free (wc := mw g0 g1 g2 cA (tb, n, kb, ln, rd, fp, (sg q), mt2, bg2)) hD hS hA [0, 1, 2] rfl
          obtain ⟨hgo, v_8, w_8, hsq, hmf, hbf, hsg⟩ := hch.2.1 q hqk
          have hlt_8 := seqN_lt hkb hsq
          refine va_calli (va_runV (As := []) (rest := []) ⟨hx, hb, hml, hown, hts⟩ (c_X1_next_some l dC dI g0 g1 g2 cA H.size tb n kb ln rd fp (sg q) mt2 bg2 hkb hln (by omega) v_8 w_8 hgo hsq) (cwV 0 hts gX1_go_X1_next rfl rfl rfl (by decide +kernel) ⟨Nat.le_of_ble_eq_true rfl, Nat.le_of_ble_eq_true rfl⟩) ⟨mmut_blind, va_recv hK hP (ci := 1) (q0 := 0) rfl rfl, fun U hU hW => ⟨rfl, mmut_of hP hK hD hU hW⟩⟩ rfl rfl hl.1 rfl (lv_room (Nat.le_of_ble_eq_true rfl)) dX1_go_34 ⟨Nat.le_of_ble_eq_true rfl, Nat.le_of_ble_eq_true rfl⟩) hS (fun q _ h => hFc q h) hFc (fun r_8 u_8 t_8 H1 locs ht hvm hw hB hz1 hk1 hS => ?_)
          obtain ⟨hw0, hw1⟩ := hw
          rw [← hmf, ← hsg, ← hbf] at hw1
          obtain rfl : r_8 = 1 := hw0
          obtain rfl : u_8 = (tb, n, kb, ln, rd, fp, (sg (q + 1)), (nI (mf q)), (nI (bf q))) := hw1
          obtain ⟨hP1, hK1, hD1⟩ := hB
          rw [ht] at hP1
          obtain ⟨hP, hD⟩ := va_join (wr := []) (w1 := mw g0 g1 g2 cA (tb, n, kb, ln, rd, fp, (sg (q + 1)), (nI (mf q)), (nI (bf q)))) hP hD [0, 1, 2] [] rfl rfl (by decide) (by decide) hk1 hFc hP1 hD1
          generalize H1 = H at hP hS ⊢
          have hP : va_P (dC, dI) vwCl [(g0, .inr (1, [.ref g1, .int (nI n), .ref g2, .int (nI ln), .int (bI rd), .int fp, .int (nI (sg (q + 1))), .int (nI (mf q)), .int (nI (bf q))])), (g1, .inl (cA, 1000, .inl (fun j => nI (tb j)))), (g2, .inl (cA, 1000, .inl (fun j => nI (kb j))))] H := hP
          have hD : va_D A [(g0, .inr (1, [.ref g1, .int (nI n), .ref g2, .int (nI ln), .int (bI rd), .int fp, .int (nI (sg (q + 1))), .int (nI (mf q)), .int (nI (bf q))])), (g1, .inl (cA, 1000, .inl (fun j => nI (tb j)))), (g2, .inl (cA, 1000, .inl (fun j => nI (kb j))))] := hD
          refine lv_istore_n (lv' := [(2, .int 1), (3, .int (nI q)), (0, .ref g0), (1, .int i)]) hx hb dX1_go_37 rfl hl (by decide) rfl (fun ls hl => ?_)
          refine lv_iinc (v := nI (q + 1)) (lv' := [(3, .int (nI (q + 1))), (2, .int 1), (0, .ref g0), (1, .int i)]) hx hb dX1_go_38 hl (k := 1) rfl (nI_1 q) (by decide) rfl (fun ls hl => ?_)
          refine lv_goto (tgt := 24) hx hb dX1_go_41 (by decide) ?_
          exact ih (q + 1) _ _ H locs ls (by omega) hP hD hS (lv_sub hl [0, 1, 2, 3] rfl)
  refine lv_aload_n hx hb dX1_go_0 rfl (lv_at hl 0 rfl) ?_
  refine lv_iconst (v := 0) hx hb dX1_go_1 (by decide) ?_
  refine va_put (D := (dC, dI)) (ci := 1) (v := .int 0) (ty := .int) (C := RX1) (T := TX1) (N := 9) hx hb hts hIn tyX1 tyX1_ok nmX1 hown hK hP hD hS 0 rfl rfl 6 (by decide) (hts (.fieldLink RX1 41 RX1 "stand" "I") (by decide +kernel)) (fun _ h9 => h9) rfl (by decide +kernel) rfl rfl (Nat.le_of_ble_eq_true rfl) dX1_go_2 (fun H locs hP hD hS => ?_)
  have hP : va_P (dC, dI) vwCl [(g0, .inr (1, [.ref g1, .int (nI n), .ref g2, .int (nI ln), .int (bI rd), .int fp, .int 0, .int mt, .int bg])), (g1, .inl (cA, 1000, .inl (fun j => nI (tb j)))), (g2, .inl (cA, 1000, .inl (fun j => nI (kb j))))] H := hP
  have hD : va_D A [(g0, .inr (1, [.ref g1, .int (nI n), .ref g2, .int (nI ln), .int (bI rd), .int fp, .int 0, .int mt, .int bg])), (g1, .inl (cA, 1000, .inl (fun j => nI (tb j)))), (g2, .inl (cA, 1000, .inl (fun j => nI (kb j))))] := hD
  refine lv_aload_n hx hb dX1_go_5 rfl (lv_at hl 0 rfl) ?_
  refine va_get (D := (dC, dI)) (ci := 1) (v := .int (bI rd)) (C := RX1) (T := TX1) (N := 9) hx hb hts hIn hown hK hP 0 rfl rfl 4 (by decide) (hts (.fieldLink RX1 60 RX1 "read" "Z") (by decide +kernel)) (fun _ h9 => h9) rfl dX1_go_6 ?_
  refine lv_if_eq (tgt := 20) hx hb dX1_go_9 (by decide) (fun c_9 => ?_) (fun c_9 => ?_)
  · exact absurd hrd (bI_0 c_9)
  · have c_9 := bI_n0 c_9
    refine lv_iload_n hx hb dX1_go_12 rfl (lv_at hl 1 rfl) ?_
    refine lv_if_lt (tgt := 20) hx hb dX1_go_13 (by decide) (fun c_10 => ?_) (fun c_10 => ?_)
    · exact absurd c_10 (Int32.not_lt.mpr h0i)
    · refine lv_iconst (v := 1) hx hb dX1_go_16 (by decide) ?_
      refine lv_goto (tgt := 21) hx hb dX1_go_17 (by decide) ?_
      refine lv_istore_n (lv' := [(2, .int 1), (0, .ref g0), (1, .int i)]) hx hb dX1_go_21 rfl hl (by decide) rfl (fun ls hl => ?_)
      refine lv_iconst (v := 0) hx hb dX1_go_22 (by decide) ?_
      refine lv_istore_n (lv' := [(3, .int 0), (2, .int 1), (0, .ref g0), (1, .int i)]) hx hb dX1_go_23 rfl hl (by decide) rfl (fun ls hl => ?_)
      exact loop (k) 0 mt bg H locs ls (by omega) (by rw [hch.1]; exact hP) (by rw [hch.1]; exact hD) hS (lv_sub hl [0, 1, 2, 3] rfl)
