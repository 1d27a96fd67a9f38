def mFit (kd : Int32) (n : Nat) (v : Int32) : Bool := if kd = 0 then (if n = 0 then mBeg v else mPart v) else if kd = 1 then mPart v else mBlank v
def mRunL (kd : Int32) (mf : Nat → Nat) (k : Nat) : Nat → Nat → Nat → Nat
  | 0, _, n => n
  | d + 1, z, n => if mFit kd n (nI (mf z)) then (if z + 1 < k then mRunL kd mf k d (z + 1) (n + 1) else n + 1) else n
theorem mRunL_s {kd : Int32} {mf : Nat → Nat} {k d z n : Nat} : mRunL kd mf k (d + 1) z n = if mFit kd n (nI (mf z)) then (if z + 1 < k then mRunL kd mf k d (z + 1) (n + 1) else n + 1) else n := rfl
def RunCase (kd : Int32) (rd : Bool) (k : Nat) (mf : Nat → Nat) (i res : Int32) : Prop :=
  (kd < 0 ∧ res = 0) ∨ (¬ kd < 0 ∧ 2 < kd ∧ res = 0) ∨ (¬ kd < 0 ∧ ¬ 2 < kd ∧ (rd = false ∨ i < 0) ∧ res = 0) ∨ (¬ kd < 0 ∧ ¬ 2 < kd ∧ rd = true ∧ 0 ≤ i ∧ nI k ≤ i ∧ res = 0) ∨ (¬ kd < 0 ∧ ¬ 2 < kd ∧ rd = true ∧ ∃ j, j < k ∧ i = nI j ∧ res = nI (mRunL kd mf k (k - j) j 0))
set_option maxHeartbeats 4000000 in
set_option maxRecDepth 100000 in
theorem c_X1_run (l : Launch) (dC : Nat → ClassId) (dI : Nat → Nat → Nat) (g0 g1 g2 : Nat) (cA : ClassId) (sz : Nat) (tb : Nat → Nat) (n : Nat) (kb : Nat → Nat) (ln : Nat) (rd : Bool) (fp : Int32) (st : Nat) (mt bg : Int32) (hkb : ∀ j, kb j < 256) (hln : ln ≤ 1000) (k : Nat) (hk : k ≤ 1000) (mf bf sg : Nat → Nat) (hch : rd = true → Chain kb ln k mf bf sg) (kd i res : Int32) (hc : RunCase kd rd k mf i res) : Met l yX1_run wsX1_run ({ frames := 4, cells := 0, slots := 0, locals := 89 }) (va_Pc [.ref g0, .int kd, .int i] (fun U => mmut dC dI g0 g1 g2 cA sz (tb, n, kb, ln, rd, fp, st, mt, bg) U)) (va_Qi (fun (r : Int32) (u : MS) => r = res ∧ ∃ (st' : Nat) (mt' bg' : Int32), u = (tb, n, kb, ln, rd, fp, st', mt', bg')) (matt dC dI g0 g1 g2 cA (va_A (mw g0 g1 g2 cA (tb, n, kb, ln, rd, fp, st, mt, bg)) sz)) (va_A (mw g0 g1 g2 cA (tb, n, kb, ln, rd, fp, st, mt, bg)) sz)) 0 0 (va_A (mw g0 g1 g2 cA (tb, n, kb, ln, rd, fp, st, mt, bg)) sz) := by
  refine Met.ofW (cc := cX1_run) (maxL := 6) (ret := (some .int)) (by decide) rfl ?_
  intro p e s m args below meth c s₁ B hml hv
  obtain ⟨rfl, hsz, hP, hK, hD0⟩ := hv
  have hx := B.exec
  have hb := B.bytes
  have hr := B.returns
  have hts := atoms_spec (ws := wsX1_run) B.pre
  have hown : s.vm.findClass RX1 = some m.cls := findClass_of_methodNamed B.named
  subst hsz
  have hD := hD0.self (sz := s.heap.size)
  generalize hAe : va_A (mw g0 g1 g2 cA (tb, n, kb, ln, rd, fp, st, mt, bg)) s.heap.size = A at hD ⊢
  have hA : ∀ q : Nat, s.heap.size ≤ q → A q := fun q h => by rw [← hAe]; exact Or.inr h
  have hS : va_S A s.heap s.heap [] := va_S.rf
  have hP : va_P (dC, dI) vwCl [(g0, .inr (1, [.ref g1, .int (nI n), .ref g2, .int (nI ln), .int (bI rd), .int fp, .int (nI st), .int mt, .int bg])), (g1, .inl (cA, 1000, .inl (fun j => nI (tb j)))), (g2, .inl (cA, 1000, .inl (fun j => nI (kb j))))] s.heap := hP
  have hD : va_D A [(g0, .inr (1, [.ref g1, .int (nI n), .ref g2, .int (nI ln), .int (bI rd), .int fp, .int (nI st), .int mt, .int bg])), (g1, .inl (cA, 1000, .inl (fun j => nI (tb j)))), (g2, .inl (cA, 1000, .inl (fun j => nI (kb j))))] := hD
  have hIn : ∀ w ∈ wsX10, w ∈ wsX1_run := by decide +kernel
  have hl := lv_entry ([.ref g0, .int kd, .int i]) (n := 6) (Nat.le_of_ble_eq_true rfl)
  rw [lg_entry_eq]
  generalize (lg_sl ([.ref g0, .int kd, .int i]) ++ List.replicate (6 - (lg_sl ([.ref g0, .int kd, .int i])).length) Slot.unset).toArray = ls at hl ⊢
  have hl : lv_has ls 6 [(0, .ref g0), (1, .int kd), (2, .int i)] := hl
  rcases hc with ⟨h1, rfl⟩ | ⟨h1, h2, rfl⟩ | ⟨h1, h2, ho, rfl⟩ | ⟨h1, h2, hrd, h0, hf, rfl⟩ | ⟨h1, h2, hrd, j, hj, rfl, hR0⟩
  · refine lv_iload_n hx hb dX1_run_0 rfl (lv_at hl 1 rfl) ?_
    refine lv_if_lt (tgt := 17) hx hb dX1_run_1 (by decide) (fun c_1 => ?_) (fun c_1 => ?_)
    · refine lv_iconst (v := 0) hx hb dX1_run_17 (by decide) ?_
      have hP9 : va_P (dC, dI) vwCl (mw g0 g1 g2 cA (tb, n, kb, ln, rd, fp, st, mt, bg)) s.heap := hP
      have hD9 : va_D A (mw g0 g1 g2 cA (tb, n, kb, ln, rd, fp, st, mt, bg)) := hD
      exact W.iret (v := 0) hx hb hr (fun t ht hW => ⟨⟨0, (tb, n, kb, ln, rd, fp, st, mt, bg), rfl, ⟨rfl, _, _, _, rfl⟩, by rw [ht]; exact hP9, va_K.moved hW.alike hK, hD9⟩, hS.F ht⟩) hS.2.2 dX1_run_18
    · exact absurd h1 c_1
  · refine lv_iload_n hx hb dX1_run_0 rfl (lv_at hl 1 rfl) ?_
    refine lv_if_lt (tgt := 17) hx hb dX1_run_1 (by decide) (fun c_2 => ?_) (fun c_2 => ?_)
    · exact absurd c_2 h1
    · refine lv_iload_n hx hb dX1_run_4 rfl (lv_at hl 1 rfl) ?_
      refine lv_iconst (v := 2) hx hb dX1_run_5 (by decide) ?_
      refine lv_icmp_gt (tgt := 17) hx hb dX1_run_6 (by decide) (fun c_3 => ?_) (fun c_3 => ?_)
      · refine lv_iconst (v := 0) hx hb dX1_run_17 (by decide) ?_
        have hP9 : va_P (dC, dI) vwCl (mw g0 g1 g2 cA (tb, n, kb, ln, rd, fp, st, mt, bg)) s.heap := hP
        have hD9 : va_D A (mw g0 g1 g2 cA (tb, n, kb, ln, rd, fp, st, mt, bg)) := hD
        exact W.iret (v := 0) hx hb hr (fun t ht hW => ⟨⟨0, (tb, n, kb, ln, rd, fp, st, mt, bg), rfl, ⟨rfl, _, _, _, rfl⟩, by rw [ht]; exact hP9, va_K.moved hW.alike hK, hD9⟩, hS.F ht⟩) hS.2.2 dX1_run_18
      · exact absurd h2 c_3
  · refine lv_iload_n hx hb dX1_run_0 rfl (lv_at hl 1 rfl) ?_
    refine lv_if_lt (tgt := 17) hx hb dX1_run_1 (by decide) (fun c_4 => ?_) (fun c_4 => ?_)
    · exact absurd c_4 h1
    · refine lv_iload_n hx hb dX1_run_4 rfl (lv_at hl 1 rfl) ?_
      refine lv_iconst (v := 2) hx hb dX1_run_5 (by decide) ?_
      refine lv_icmp_gt (tgt := 17) hx hb dX1_run_6 (by decide) (fun c_5 => ?_) (fun c_5 => ?_)
      · exact absurd c_5 h2
      · refine lv_aload_n hx hb dX1_run_9 rfl (lv_at hl 0 rfl) ?_
        refine lv_iload_n hx hb dX1_run_10 rfl (lv_at hl 2 rfl) ?_
        have hFc := va_free (wc := mw g0 g1 g2 cA (tb, n, kb, ln, rd, fp, st, mt, bg)) hD hS hA [0, 1, 2] rfl
        refine va_calli (va_runV (As := [.int i]) (rest := []) ⟨hx, hb, hml, hown, hts⟩ (c_X1_go_off l dC dI g0 g1 g2 cA s.heap.size tb n kb ln rd fp st mt bg i ho) (cwV 1 hts gX1_run_X1_go rfl rfl rfl (by decide +kernel) ⟨Nat.le_of_ble_eq_true rfl, Nat.le_of_ble_eq_true rfl⟩) ⟨mmut_blind, va_recv hK hP (ci := 1) (q0 := 0) rfl rfl, fun U hU hW => ⟨rfl, mmut_of hP hK hD hU hW⟩⟩ rfl rfl hl.1 rfl (lv_room (Nat.le_of_ble_eq_true rfl)) dX1_run_11 ⟨Nat.le_of_ble_eq_true rfl, Nat.le_of_ble_eq_true rfl⟩) hS (fun q _ h => hFc q h) hFc (fun r_6 u_6 t_6 H1 locs ht hvm hw hB hz1 hk1 hS => ?_)
        obtain ⟨hw0, hw1⟩ := hw
        obtain rfl : r_6 = 0 := hw0
        obtain rfl : u_6 = (tb, n, kb, ln, rd, fp, 0, mt, bg) := hw1
        obtain ⟨hP1, hK1, hD1⟩ := hB
        rw [ht] at hP1
        obtain ⟨hP, hD⟩ := va_join (wr := []) (w1 := mw g0 g1 g2 cA (tb, n, kb, ln, rd, fp, 0, mt, bg)) hP hD [0, 1, 2] [] rfl rfl (by decide) (by decide) hk1 hFc hP1 hD1
        generalize H1 = H at hP hS ⊢
        have hP : va_P (dC, dI) vwCl [(g0, .inr (1, [.ref g1, .int (nI n), .ref g2, .int (nI ln), .int (bI rd), .int fp, .int (nI 0), .int mt, .int bg])), (g1, .inl (cA, 1000, .inl (fun j => nI (tb j)))), (g2, .inl (cA, 1000, .inl (fun j => nI (kb j))))] H := hP
        have hD : va_D A [(g0, .inr (1, [.ref g1, .int (nI n), .ref g2, .int (nI ln), .int (bI rd), .int fp, .int (nI 0), .int mt, .int bg])), (g1, .inl (cA, 1000, .inl (fun j => nI (tb j)))), (g2, .inl (cA, 1000, .inl (fun j => nI (kb j))))] := hD
        refine lv_if_ne (tgt := 19) hx hb dX1_run_14 (by decide) (fun c_7 => ?_) (fun c_7 => ?_)
        · exact absurd c_7 (by decide)
        · have c_7 : 0 = 0 := (nI_eq (a := 0) (b := 0) (by omega) (by omega)).mp c_7
          refine lv_iconst (v := 0) hx hb dX1_run_17 (by decide) ?_
          have hP9 : va_P (dC, dI) vwCl (mw g0 g1 g2 cA (tb, n, kb, ln, rd, fp, 0, mt, bg)) H := hP
          have hD9 : va_D A (mw g0 g1 g2 cA (tb, n, kb, ln, rd, fp, 0, mt, bg)) := hD
          exact W.iret (v := 0) hx hb hr (fun t ht hW => ⟨⟨0, (tb, n, kb, ln, rd, fp, 0, mt, bg), rfl, ⟨rfl, _, _, _, rfl⟩, by rw [ht]; exact hP9, va_K.moved hW.alike hK, hD9⟩, hS.F ht⟩) hS.2.2 dX1_run_18
  · refine lv_iload_n hx hb dX1_run_0 rfl (lv_at hl 1 rfl) ?_
    refine lv_if_lt (tgt := 17) hx hb dX1_run_1 (by decide) (fun c_8 => ?_) (fun c_8 => ?_)
    · exact absurd c_8 h1
    · refine lv_iload_n hx hb dX1_run_4 rfl (lv_at hl 1 rfl) ?_
      refine lv_iconst (v := 2) hx hb dX1_run_5 (by decide) ?_
      refine lv_icmp_gt (tgt := 17) hx hb dX1_run_6 (by decide) (fun c_9 => ?_) (fun c_9 => ?_)
      · exact absurd c_9 h2
      · refine lv_aload_n hx hb dX1_run_9 rfl (lv_at hl 0 rfl) ?_
        refine lv_iload_n hx hb dX1_run_10 rfl (lv_at hl 2 rfl) ?_
        have hFc := va_free (wc := mw g0 g1 g2 cA (tb, n, kb, ln, rd, fp, st, mt, bg)) hD hS hA [0, 1, 2] rfl
        refine va_calli (va_runV (As := [.int i]) (rest := []) ⟨hx, hb, hml, hown, hts⟩ (c_X1_go_far l dC dI g0 g1 g2 cA s.heap.size tb n kb ln rd fp st mt bg hkb hln k mf bf sg (hch hrd) i hk hrd h0 hf) (cwV 1 hts gX1_run_X1_go rfl rfl rfl (by decide +kernel) ⟨Nat.le_of_ble_eq_true rfl, Nat.le_of_ble_eq_true rfl⟩) ⟨mmut_blind, va_recv hK hP (ci := 1) (q0 := 0) rfl rfl, fun U hU hW => ⟨rfl, mmut_of hP hK hD hU hW⟩⟩ rfl rfl hl.1 rfl (lv_room (Nat.le_of_ble_eq_true rfl)) dX1_run_11 ⟨Nat.le_of_ble_eq_true rfl, Nat.le_of_ble_eq_true rfl⟩) hS (fun q _ h => hFc q h) hFc (fun r_10 u_10 t_10 H1 locs ht hvm hw hB hz1 hk1 hS => ?_)
        obtain ⟨hw0, st_10, mt_10, bg_10, hw1⟩ := hw
        obtain rfl : r_10 = 0 := hw0
        obtain rfl : u_10 = (tb, n, kb, ln, rd, fp, st_10, mt_10, bg_10) := hw1
        obtain ⟨hP1, hK1, hD1⟩ := hB
        rw [ht] at hP1
        obtain ⟨hP, hD⟩ := va_join (wr := []) (w1 := mw g0 g1 g2 cA (tb, n, kb, ln, rd, fp, st_10, mt_10, bg_10)) hP hD [0, 1, 2] [] rfl rfl (by decide) (by decide) hk1 hFc hP1 hD1
        generalize H1 = H at hP hS ⊢
        have hP : va_P (dC, dI) vwCl [(g0, .inr (1, [.ref g1, .int (nI n), .ref g2, .int (nI ln), .int (bI rd), .int fp, .int (nI st_10), .int mt_10, .int bg_10])), (g1, .inl (cA, 1000, .inl (fun j => nI (tb j)))), (g2, .inl (cA, 1000, .inl (fun j => nI (kb j))))] H := hP
        have hD : va_D A [(g0, .inr (1, [.ref g1, .int (nI n), .ref g2, .int (nI ln), .int (bI rd), .int fp, .int (nI st_10), .int mt_10, .int bg_10])), (g1, .inl (cA, 1000, .inl (fun j => nI (tb j)))), (g2, .inl (cA, 1000, .inl (fun j => nI (kb j))))] := hD
        refine lv_if_ne (tgt := 19) hx hb dX1_run_14 (by decide) (fun c_11 => ?_) (fun c_11 => ?_)
        · exact absurd c_11 (by decide)
        · have c_11 : 0 = 0 := (nI_eq (a := 0) (b := 0) (by omega) (by omega)).mp c_11
          refine lv_iconst (v := 0) hx hb dX1_run_17 (by decide) ?_
          have hP9 : va_P (dC, dI) vwCl (mw g0 g1 g2 cA (tb, n, kb, ln, rd, fp, st_10, mt_10, bg_10)) H := hP
          have hD9 : va_D A (mw g0 g1 g2 cA (tb, n, kb, ln, rd, fp, st_10, mt_10, bg_10)) := hD
          exact W.iret (v := 0) hx hb hr (fun t ht hW => ⟨⟨0, (tb, n, kb, ln, rd, fp, st_10, mt_10, bg_10), rfl, ⟨rfl, _, _, _, rfl⟩, by rw [ht]; exact hP9, va_K.moved hW.alike hK, hD9⟩, hS.F ht⟩) hS.2.2 dX1_run_18
  · have hsgb := chain_sg hkb (hch hrd)
    have loop : ∀ (d z nn : Nat) (H : Heap) (locs : List Loc) (ls : Array Slot), z + (d + 1) = k → nn ≤ z → nI (mRunL kd mf k (d + 1) z nn) = res → va_P (dC, dI) vwCl [(g0, .inr (1, [.ref g1, .int (nI n), .ref g2, .int (nI ln), .int (bI rd), .int fp, .int (nI (sg (z + 1))), .int (nI (mf z)), .int (nI (bf z))])), (g1, .inl (cA, 1000, .inl (fun j => nI (tb j)))), (g2, .inl (cA, 1000, .inl (fun j => nI (kb j))))] H → va_D A [(g0, .inr (1, [.ref g1, .int (nI n), .ref g2, .int (nI ln), .int (bI rd), .int fp, .int (nI (sg (z + 1))), .int (nI (mf z)), .int (nI (bf z))])), (g1, .inl (cA, 1000, .inl (fun j => nI (tb j)))), (g2, .inl (cA, 1000, .inl (fun j => nI (kb j))))] → va_S A s.heap H locs → lv_has ls 6 [(4, .int 1), (3, .int (nI nn)), (0, .ref g0), (1, .int kd), (2, .int (nI j))] → W p l e (headSpec wsX1_run ({ frames := 4, cells := 0, slots := 0, locals := 89 })).room s m ([.ref g0, .int kd, .int (nI j)] : List Value).toArray below meth c H locs 0 0 (MQ below (va_Qi (fun (r : Int32) (u : MS) => r = res ∧ ∃ (st' : Nat) (mt' bg' : Int32), u = (tb, n, kb, ln, rd, fp, st', mt', bg')) (matt dC dI g0 g1 g2 cA A) A) ([.ref g0, .int kd, .int (nI j)] : List Value).toArray s 0 0 A) (F0 m 24 ls []) := by
      intro d
      induction d with
      | zero =>
        intro z nn H locs ls hzd hnz hR hP hD hS hl
        have hsb := hsgb (z + 1) (by omega)
        have hz : ¬ z + 1 < k := by omega
        refine lv_iload hx hb dX1_run_24 (lv_at hl 0 rfl) ?_
        refine lv_if_eq (tgt := 116) hx hb dX1_run_26 (by decide) (fun c_12 => ?_) (fun c_12 => ?_)
        · exact absurd c_12 (by decide)
        · have c_12 : ¬ 1 = 0 := fun zz => c_12 ((nI_eq (a := 1) (b := 0) (by omega) (by omega)).mpr zz)
          refine lv_iload_n hx hb dX1_run_29 rfl (lv_at hl 3 rfl) ?_
          refine lv_if_ne (tgt := 57) hx hb dX1_run_30 (by decide) (fun c_13 => ?_) (fun c_13 => ?_)
          · refine lv_iload_n hx hb dX1_run_57 rfl (lv_at hl 3 rfl) ?_
            refine lv_iconst (v := 1) hx hb dX1_run_58 (by decide) ?_
            refine lv_icmp_ne (tgt := 72) hx hb dX1_run_59 (by decide) (fun c_14 => ?_) (fun c_14 => ?_)
            · refine lv_aload_n hx hb dX1_run_72 rfl (lv_at hl 2 rfl) ?_
              refine va_get (D := (dC, dI)) (ci := 1) (v := .int (nI (mf z))) (C := RX1) (T := TX1) (N := 9) hx hb hts hIn hown hK hP 0 rfl rfl 7 (by decide) (hts (.fieldLink RX1 57 RX1 "met" "I") (by decide +kernel)) (fun _ h9 => h9) rfl dX1_run_73 ?_
              refine vp_callSi (W.runS (As := [.int (nI (mf z))]) (rest := []) ⟨hx, hb, hml, hown, hts⟩ (c_X1_isBlank l (nI (mf z))) (va_cwS 1 hts gX1_run_X1_isBlank rfl rfl rfl (by decide +kernel) ⟨Nat.le_of_ble_eq_true rfl, Nat.le_of_ble_eq_true rfl⟩) ⟨fun _ _ _ _ q => q, fun U hU hW => ⟨rfl, trivial⟩⟩ rfl rfl hl.1 rfl (lv_room (Nat.le_of_ble_eq_true rfl)) dX1_run_76 ⟨Nat.le_of_ble_eq_true rfl, Nat.le_of_ble_eq_true rfl⟩) (fun r_15 er_15 => ?_)
              obtain rfl : r_15 = bI (mBlank (nI (mf z))) := er_15
              refine lv_istore (lv' := [(5, .int (bI (mBlank (nI (mf z))))), (4, .int 1), (3, .int (nI nn)), (0, .ref g0), (1, .int kd), (2, .int (nI j))]) hx hb dX1_run_79 hl (by decide) rfl (fun ls hl => ?_)
              refine lv_iload hx hb dX1_run_81 (lv_at hl 0 rfl) ?_
              refine lv_if_eq (tgt := 92) hx hb dX1_run_83 (by decide) (fun c_16 => ?_) (fun c_16 => ?_)
              · have c_16 := bI_0 c_16
                refine lv_iload_n hx hb dX1_run_92 rfl (lv_at hl 2 rfl) ?_
                refine lv_istore_n (lv' := [(3, .int (nI nn)), (5, .int (bI (mBlank (nI (mf z))))), (4, .int 1), (0, .ref g0), (1, .int kd), (2, .int (nI j))]) hx hb dX1_run_93 rfl hl (by decide) rfl (fun ls hl => ?_)
                refine lv_iload hx hb dX1_run_94 (lv_at hl 1 rfl) ?_
                refine lv_if_eq (tgt := 110) hx hb dX1_run_96 (by decide) (fun c_17 => ?_) (fun c_17 => ?_)
                · have c_17 := bI_0 c_17
                  refine lv_iconst (v := 0) hx hb dX1_run_110 (by decide) ?_
                  refine lv_istore (lv' := [(4, .int 0), (3, .int (nI nn)), (5, .int (bI (mBlank (nI (mf z))))), (0, .ref g0), (1, .int kd), (2, .int (nI j))]) hx hb dX1_run_111 hl (by decide) rfl (fun ls hl => ?_)
                  refine lv_goto (tgt := 24) hx hb dX1_run_113 (by decide) ?_
                  refine lv_iload hx hb dX1_run_24 (lv_at hl 0 rfl) ?_
                  refine lv_if_eq (tgt := 116) hx hb dX1_run_26 (by decide) (fun c_18 => ?_) (fun c_18 => ?_)
                  · have c_18 : 0 = 0 := (nI_eq (a := 0) (b := 0) (by omega) (by omega)).mp c_18
                    refine lv_iload_n hx hb dX1_run_116 rfl (lv_at hl 1 rfl) ?_
                    have hP9 : va_P (dC, dI) vwCl (mw g0 g1 g2 cA (tb, n, kb, ln, rd, fp, (sg (z + 1)), (nI (mf z)), (nI (bf z)))) H := hP
                    have hD9 : va_D A (mw g0 g1 g2 cA (tb, n, kb, ln, rd, fp, (sg (z + 1)), (nI (mf z)), (nI (bf z)))) := hD
                    exact W.iret (v := nI nn) hx hb hr (fun t ht hW => ⟨⟨nI nn, (tb, n, kb, ln, rd, fp, (sg (z + 1)), (nI (mf z)), (nI (bf z))), rfl, ⟨by have hfit : ¬ mFit kd nn (nI (mf z)) = true := (by simp only [mFit, if_neg c_12, if_neg c_13, if_neg c_14, if_pos c_18, c_16]; exact (by decide)); rw [← hR, mRunL_s, if_neg hfit], _, _, _, rfl⟩, by rw [ht]; exact hP9, va_K.moved hW.alike hK, hD9⟩, hS.F ht⟩) hS.2.2 dX1_run_117
                  · exact absurd c_18 (by decide)
                · exact absurd (bI_n0 c_17) c_16
              · have c_16 := bI_n0 c_16
                refine lv_iload_n hx hb dX1_run_86 rfl (lv_at hl 2 rfl) ?_
                refine lv_iconst (v := 1) hx hb dX1_run_87 (by decide) ?_
                refine lv_iadd hx hb dX1_run_88 ?_
                refine lv_topi (fun x_19 ex_19 => ?_)
                obtain rfl : x_19 = nI (nn + 1) := ex_19.trans (nI_add nn 1)
                refine lv_goto (tgt := 93) hx hb dX1_run_89 (by decide) ?_
                refine lv_istore_n (lv' := [(3, .int (nI (nn + 1))), (5, .int (bI (mBlank (nI (mf z))))), (4, .int 1), (0, .ref g0), (1, .int kd), (2, .int (nI j))]) hx hb dX1_run_93 rfl hl (by decide) rfl (fun ls hl => ?_)
                refine lv_iload hx hb dX1_run_94 (lv_at hl 1 rfl) ?_
                refine lv_if_eq (tgt := 110) hx hb dX1_run_96 (by decide) (fun c_20 => ?_) (fun c_20 => ?_)
                · exact absurd c_16 (bI_0 c_20)
                · have c_20 := bI_n0 c_20
                  refine lv_aload_n hx hb dX1_run_99 rfl (lv_at hl 3 rfl) ?_
                  have hFc := va_free (wc := mw g0 g1 g2 cA (tb, n, kb, ln, rd, fp, (sg (z + 1)), (nI (mf z)), (nI (bf z)))) hD hS hA [0, 1, 2] rfl
                  refine va_calli (va_runV (As := []) (rest := []) ⟨hx, hb, hml, hown, hts⟩ (c_X1_next_end l dC dI g0 g1 g2 cA H.size tb n kb ln rd fp (sg (z + 1)) (nI (mf z)) (nI (bf z)) hkb hln (by omega) (by rw [show z + 1 = k by omega]; exact (hch hrd).2.2)) (cwV 0 hts gX1_run_X1_next rfl rfl rfl (by decide +kernel) ⟨Nat.le_of_ble_eq_true rfl, Nat.le_of_ble_eq_true rfl⟩) ⟨mmut_blind, va_recv hK hP (ci := 1) (q0 := 0) rfl rfl, fun U hU hW => ⟨rfl, mmut_of hP hK hD hU hW⟩⟩ rfl rfl hl.1 rfl (lv_room (Nat.le_of_ble_eq_true rfl)) dX1_run_100 ⟨Nat.le_of_ble_eq_true rfl, Nat.le_of_ble_eq_true rfl⟩) hS (fun q _ h => hFc q h) hFc (fun r_21 u_21 t_21 H1 locs ht hvm hw hB hz1 hk1 hS => ?_)
                  obtain ⟨hw0, hw1⟩ := hw
                  obtain rfl : r_21 = 0 := hw0
                  obtain rfl : u_21 = (tb, n, kb, ln, rd, fp, (s0N kb ln (sg (z + 1))), (nI (mf z)), (nI (bf z))) := hw1
                  obtain ⟨hP1, hK1, hD1⟩ := hB
                  rw [ht] at hP1
                  obtain ⟨hP, hD⟩ := va_join (wr := []) (w1 := mw g0 g1 g2 cA (tb, n, kb, ln, rd, fp, (s0N kb ln (sg (z + 1))), (nI (mf z)), (nI (bf z)))) hP hD [0, 1, 2] [] rfl rfl (by decide) (by decide) hk1 hFc hP1 hD1
                  generalize H1 = H at hP hS ⊢
                  have hP : va_P (dC, dI) vwCl [(g0, .inr (1, [.ref g1, .int (nI n), .ref g2, .int (nI ln), .int (bI rd), .int fp, .int (nI (s0N kb ln (sg (z + 1)))), .int (nI (mf z)), .int (nI (bf z))])), (g1, .inl (cA, 1000, .inl (fun j => nI (tb j)))), (g2, .inl (cA, 1000, .inl (fun j => nI (kb j))))] H := hP
                  have hD : va_D A [(g0, .inr (1, [.ref g1, .int (nI n), .ref g2, .int (nI ln), .int (bI rd), .int fp, .int (nI (s0N kb ln (sg (z + 1)))), .int (nI (mf z)), .int (nI (bf z))])), (g1, .inl (cA, 1000, .inl (fun j => nI (tb j)))), (g2, .inl (cA, 1000, .inl (fun j => nI (kb j))))] := hD
                  refine lv_if_eq (tgt := 110) hx hb dX1_run_103 (by decide) (fun c_22 => ?_) (fun c_22 => ?_)
                  · have c_22 : 0 = 0 := (nI_eq (a := 0) (b := 0) (by omega) (by omega)).mp c_22
                    refine lv_iconst (v := 0) hx hb dX1_run_110 (by decide) ?_
                    refine lv_istore (lv' := [(4, .int 0), (3, .int (nI (nn + 1))), (5, .int (bI (mBlank (nI (mf z))))), (0, .ref g0), (1, .int kd), (2, .int (nI j))]) hx hb dX1_run_111 hl (by decide) rfl (fun ls hl => ?_)
                    refine lv_goto (tgt := 24) hx hb dX1_run_113 (by decide) ?_
                    refine lv_iload hx hb dX1_run_24 (lv_at hl 0 rfl) ?_
                    refine lv_if_eq (tgt := 116) hx hb dX1_run_26 (by decide) (fun c_23 => ?_) (fun c_23 => ?_)
                    · have c_23 : 0 = 0 := (nI_eq (a := 0) (b := 0) (by omega) (by omega)).mp c_23
                      refine lv_iload_n hx hb dX1_run_116 rfl (lv_at hl 1 rfl) ?_
                      have hP9 : va_P (dC, dI) vwCl (mw g0 g1 g2 cA (tb, n, kb, ln, rd, fp, (s0N kb ln (sg (z + 1))), (nI (mf z)), (nI (bf z)))) H := hP
                      have hD9 : va_D A (mw g0 g1 g2 cA (tb, n, kb, ln, rd, fp, (s0N kb ln (sg (z + 1))), (nI (mf z)), (nI (bf z)))) := hD
                      exact W.iret (v := nI (nn + 1)) hx hb hr (fun t ht hW => ⟨⟨nI (nn + 1), (tb, n, kb, ln, rd, fp, (s0N kb ln (sg (z + 1))), (nI (mf z)), (nI (bf z))), rfl, ⟨by have hfit : mFit kd nn (nI (mf z)) = true := (by simp only [mFit, if_neg c_12, if_neg c_13, if_neg c_14, if_pos c_22, if_pos c_23, c_16]); rw [← hR, mRunL_s, if_pos hfit, if_neg hz], _, _, _, rfl⟩, by rw [ht]; exact hP9, va_K.moved hW.alike hK, hD9⟩, hS.F ht⟩) hS.2.2 dX1_run_117
                    · exact absurd c_23 (by decide)
                  · exact absurd c_22 (by decide)
            · refine lv_aload_n hx hb dX1_run_62 rfl (lv_at hl 2 rfl) ?_
              refine va_get (D := (dC, dI)) (ci := 1) (v := .int (nI (mf z))) (C := RX1) (T := TX1) (N := 9) hx hb hts hIn hown hK hP 0 rfl rfl 7 (by decide) (hts (.fieldLink RX1 57 RX1 "met" "I") (by decide +kernel)) (fun _ h9 => h9) rfl dX1_run_63 ?_
              refine vp_callSi (W.runS (As := [.int (nI (mf z))]) (rest := []) ⟨hx, hb, hml, hown, hts⟩ (c_X1_isPart l (nI (mf z))) (va_cwS 1 hts gX1_run_X1_isPart rfl rfl rfl (by decide +kernel) ⟨Nat.le_of_ble_eq_true rfl, Nat.le_of_ble_eq_true rfl⟩) ⟨fun _ _ _ _ q => q, fun U hU hW => ⟨rfl, trivial⟩⟩ rfl rfl hl.1 rfl (lv_room (Nat.le_of_ble_eq_true rfl)) dX1_run_66 ⟨Nat.le_of_ble_eq_true rfl, Nat.le_of_ble_eq_true rfl⟩) (fun r_24 er_24 => ?_)
              obtain rfl : r_24 = bI (mPart (nI (mf z))) := er_24
              refine lv_goto (tgt := 79) hx hb dX1_run_69 (by decide) ?_
              refine lv_istore (lv' := [(5, .int (bI (mPart (nI (mf z))))), (4, .int 1), (3, .int (nI nn)), (0, .ref g0), (1, .int kd), (2, .int (nI j))]) hx hb dX1_run_79 hl (by decide) rfl (fun ls hl => ?_)
              refine lv_iload hx hb dX1_run_81 (lv_at hl 0 rfl) ?_
              refine lv_if_eq (tgt := 92) hx hb dX1_run_83 (by decide) (fun c_25 => ?_) (fun c_25 => ?_)
              · have c_25 := bI_0 c_25
                refine lv_iload_n hx hb dX1_run_92 rfl (lv_at hl 2 rfl) ?_
                refine lv_istore_n (lv' := [(3, .int (nI nn)), (5, .int (bI (mPart (nI (mf z))))), (4, .int 1), (0, .ref g0), (1, .int kd), (2, .int (nI j))]) hx hb dX1_run_93 rfl hl (by decide) rfl (fun ls hl => ?_)
                refine lv_iload hx hb dX1_run_94 (lv_at hl 1 rfl) ?_
                refine lv_if_eq (tgt := 110) hx hb dX1_run_96 (by decide) (fun c_26 => ?_) (fun c_26 => ?_)
                · have c_26 := bI_0 c_26
                  refine lv_iconst (v := 0) hx hb dX1_run_110 (by decide) ?_
                  refine lv_istore (lv' := [(4, .int 0), (3, .int (nI nn)), (5, .int (bI (mPart (nI (mf z))))), (0, .ref g0), (1, .int kd), (2, .int (nI j))]) hx hb dX1_run_111 hl (by decide) rfl (fun ls hl => ?_)
                  refine lv_goto (tgt := 24) hx hb dX1_run_113 (by decide) ?_
                  refine lv_iload hx hb dX1_run_24 (lv_at hl 0 rfl) ?_
                  refine lv_if_eq (tgt := 116) hx hb dX1_run_26 (by decide) (fun c_27 => ?_) (fun c_27 => ?_)
                  · have c_27 : 0 = 0 := (nI_eq (a := 0) (b := 0) (by omega) (by omega)).mp c_27
                    refine lv_iload_n hx hb dX1_run_116 rfl (lv_at hl 1 rfl) ?_
                    have hP9 : va_P (dC, dI) vwCl (mw g0 g1 g2 cA (tb, n, kb, ln, rd, fp, (sg (z + 1)), (nI (mf z)), (nI (bf z)))) H := hP
                    have hD9 : va_D A (mw g0 g1 g2 cA (tb, n, kb, ln, rd, fp, (sg (z + 1)), (nI (mf z)), (nI (bf z)))) := hD
                    exact W.iret (v := nI nn) hx hb hr (fun t ht hW => ⟨⟨nI nn, (tb, n, kb, ln, rd, fp, (sg (z + 1)), (nI (mf z)), (nI (bf z))), rfl, ⟨by have hfit : ¬ mFit kd nn (nI (mf z)) = true := (by simp only [mFit, if_neg c_12, if_neg c_13, if_pos c_14, if_pos c_27, c_25]; exact (by decide)); rw [← hR, mRunL_s, if_neg hfit], _, _, _, rfl⟩, by rw [ht]; exact hP9, va_K.moved hW.alike hK, hD9⟩, hS.F ht⟩) hS.2.2 dX1_run_117
                  · exact absurd c_27 (by decide)
                · exact absurd (bI_n0 c_26) c_25
              · have c_25 := bI_n0 c_25
                refine lv_iload_n hx hb dX1_run_86 rfl (lv_at hl 2 rfl) ?_
                refine lv_iconst (v := 1) hx hb dX1_run_87 (by decide) ?_
                refine lv_iadd hx hb dX1_run_88 ?_
                refine lv_topi (fun x_28 ex_28 => ?_)
                obtain rfl : x_28 = nI (nn + 1) := ex_28.trans (nI_add nn 1)
                refine lv_goto (tgt := 93) hx hb dX1_run_89 (by decide) ?_
                refine lv_istore_n (lv' := [(3, .int (nI (nn + 1))), (5, .int (bI (mPart (nI (mf z))))), (4, .int 1), (0, .ref g0), (1, .int kd), (2, .int (nI j))]) hx hb dX1_run_93 rfl hl (by decide) rfl (fun ls hl => ?_)
                refine lv_iload hx hb dX1_run_94 (lv_at hl 1 rfl) ?_
                refine lv_if_eq (tgt := 110) hx hb dX1_run_96 (by decide) (fun c_29 => ?_) (fun c_29 => ?_)
                · exact absurd c_25 (bI_0 c_29)
                · have c_29 := bI_n0 c_29
                  refine lv_aload_n hx hb dX1_run_99 rfl (lv_at hl 3 rfl) ?_
                  have hFc := va_free (wc := mw g0 g1 g2 cA (tb, n, kb, ln, rd, fp, (sg (z + 1)), (nI (mf z)), (nI (bf z)))) hD hS hA [0, 1, 2] rfl
                  refine va_calli (va_runV (As := []) (rest := []) ⟨hx, hb, hml, hown, hts⟩ (c_X1_next_end l dC dI g0 g1 g2 cA H.size tb n kb ln rd fp (sg (z + 1)) (nI (mf z)) (nI (bf z)) hkb hln (by omega) (by rw [show z + 1 = k by omega]; exact (hch hrd).2.2)) (cwV 0 hts gX1_run_X1_next rfl rfl rfl (by decide +kernel) ⟨Nat.le_of_ble_eq_true rfl, Nat.le_of_ble_eq_true rfl⟩) ⟨mmut_blind, va_recv hK hP (ci := 1) (q0 := 0) rfl rfl, fun U hU hW => ⟨rfl, mmut_of hP hK hD hU hW⟩⟩ rfl rfl hl.1 rfl (lv_room (Nat.le_of_ble_eq_true rfl)) dX1_run_100 ⟨Nat.le_of_ble_eq_true rfl, Nat.le_of_ble_eq_true rfl⟩) hS (fun q _ h => hFc q h) hFc (fun r_30 u_30 t_30 H1 locs ht hvm hw hB hz1 hk1 hS => ?_)
                  obtain ⟨hw0, hw1⟩ := hw
                  obtain rfl : r_30 = 0 := hw0
                  obtain rfl : u_30 = (tb, n, kb, ln, rd, fp, (s0N kb ln (sg (z + 1))), (nI (mf z)), (nI (bf z))) := hw1
                  obtain ⟨hP1, hK1, hD1⟩ := hB
                  rw [ht] at hP1
                  obtain ⟨hP, hD⟩ := va_join (wr := []) (w1 := mw g0 g1 g2 cA (tb, n, kb, ln, rd, fp, (s0N kb ln (sg (z + 1))), (nI (mf z)), (nI (bf z)))) hP hD [0, 1, 2] [] rfl rfl (by decide) (by decide) hk1 hFc hP1 hD1
                  generalize H1 = H at hP hS ⊢
                  have hP : va_P (dC, dI) vwCl [(g0, .inr (1, [.ref g1, .int (nI n), .ref g2, .int (nI ln), .int (bI rd), .int fp, .int (nI (s0N kb ln (sg (z + 1)))), .int (nI (mf z)), .int (nI (bf z))])), (g1, .inl (cA, 1000, .inl (fun j => nI (tb j)))), (g2, .inl (cA, 1000, .inl (fun j => nI (kb j))))] H := hP
                  have hD : va_D A [(g0, .inr (1, [.ref g1, .int (nI n), .ref g2, .int (nI ln), .int (bI rd), .int fp, .int (nI (s0N kb ln (sg (z + 1)))), .int (nI (mf z)), .int (nI (bf z))])), (g1, .inl (cA, 1000, .inl (fun j => nI (tb j)))), (g2, .inl (cA, 1000, .inl (fun j => nI (kb j))))] := hD
                  refine lv_if_eq (tgt := 110) hx hb dX1_run_103 (by decide) (fun c_31 => ?_) (fun c_31 => ?_)
                  · have c_31 : 0 = 0 := (nI_eq (a := 0) (b := 0) (by omega) (by omega)).mp c_31
                    refine lv_iconst (v := 0) hx hb dX1_run_110 (by decide) ?_
                    refine lv_istore (lv' := [(4, .int 0), (3, .int (nI (nn + 1))), (5, .int (bI (mPart (nI (mf z))))), (0, .ref g0), (1, .int kd), (2, .int (nI j))]) hx hb dX1_run_111 hl (by decide) rfl (fun ls hl => ?_)
                    refine lv_goto (tgt := 24) hx hb dX1_run_113 (by decide) ?_
                    refine lv_iload hx hb dX1_run_24 (lv_at hl 0 rfl) ?_
                    refine lv_if_eq (tgt := 116) hx hb dX1_run_26 (by decide) (fun c_32 => ?_) (fun c_32 => ?_)
                    · have c_32 : 0 = 0 := (nI_eq (a := 0) (b := 0) (by omega) (by omega)).mp c_32
                      refine lv_iload_n hx hb dX1_run_116 rfl (lv_at hl 1 rfl) ?_
                      have hP9 : va_P (dC, dI) vwCl (mw g0 g1 g2 cA (tb, n, kb, ln, rd, fp, (s0N kb ln (sg (z + 1))), (nI (mf z)), (nI (bf z)))) H := hP
                      have hD9 : va_D A (mw g0 g1 g2 cA (tb, n, kb, ln, rd, fp, (s0N kb ln (sg (z + 1))), (nI (mf z)), (nI (bf z)))) := hD
                      exact W.iret (v := nI (nn + 1)) hx hb hr (fun t ht hW => ⟨⟨nI (nn + 1), (tb, n, kb, ln, rd, fp, (s0N kb ln (sg (z + 1))), (nI (mf z)), (nI (bf z))), rfl, ⟨by have hfit : mFit kd nn (nI (mf z)) = true := (by simp only [mFit, if_neg c_12, if_neg c_13, if_pos c_14, if_pos c_31, if_pos c_32, c_25]); rw [← hR, mRunL_s, if_pos hfit, if_neg hz], _, _, _, rfl⟩, by rw [ht]; exact hP9, va_K.moved hW.alike hK, hD9⟩, hS.F ht⟩) hS.2.2 dX1_run_117
                    · exact absurd c_32 (by decide)
                  · exact absurd c_31 (by decide)
          · refine lv_iload_n hx hb dX1_run_33 rfl (lv_at hl 1 rfl) ?_
            refine lv_if_ne (tgt := 47) hx hb dX1_run_34 (by decide) (fun c_33 => ?_) (fun c_33 => ?_)
            · have c_33 : ¬ nn = 0 := fun zz => c_33 ((nI_eq (a := nn) (b := 0) (by omega) (by omega)).mpr zz)
              refine lv_aload_n hx hb dX1_run_47 rfl (lv_at hl 2 rfl) ?_
              refine va_get (D := (dC, dI)) (ci := 1) (v := .int (nI (mf z))) (C := RX1) (T := TX1) (N := 9) hx hb hts hIn hown hK hP 0 rfl rfl 7 (by decide) (hts (.fieldLink RX1 57 RX1 "met" "I") (by decide +kernel)) (fun _ h9 => h9) rfl dX1_run_48 ?_
              refine vp_callSi (W.runS (As := [.int (nI (mf z))]) (rest := []) ⟨hx, hb, hml, hown, hts⟩ (c_X1_isPart l (nI (mf z))) (va_cwS 1 hts gX1_run_X1_isPart rfl rfl rfl (by decide +kernel) ⟨Nat.le_of_ble_eq_true rfl, Nat.le_of_ble_eq_true rfl⟩) ⟨fun _ _ _ _ q => q, fun U hU hW => ⟨rfl, trivial⟩⟩ rfl rfl hl.1 rfl (lv_room (Nat.le_of_ble_eq_true rfl)) dX1_run_51 ⟨Nat.le_of_ble_eq_true rfl, Nat.le_of_ble_eq_true rfl⟩) (fun r_34 er_34 => ?_)
              obtain rfl : r_34 = bI (mPart (nI (mf z))) := er_34
              refine lv_goto (tgt := 79) hx hb dX1_run_54 (by decide) ?_
              refine lv_istore (lv' := [(5, .int (bI (mPart (nI (mf z))))), (4, .int 1), (3, .int (nI nn)), (0, .ref g0), (1, .int kd), (2, .int (nI j))]) hx hb dX1_run_79 hl (by decide) rfl (fun ls hl => ?_)
              refine lv_iload hx hb dX1_run_81 (lv_at hl 0 rfl) ?_
              refine lv_if_eq (tgt := 92) hx hb dX1_run_83 (by decide) (fun c_35 => ?_) (fun c_35 => ?_)
              · have c_35 := bI_0 c_35
                refine lv_iload_n hx hb dX1_run_92 rfl (lv_at hl 2 rfl) ?_
                refine lv_istore_n (lv' := [(3, .int (nI nn)), (5, .int (bI (mPart (nI (mf z))))), (4, .int 1), (0, .ref g0), (1, .int kd), (2, .int (nI j))]) hx hb dX1_run_93 rfl hl (by decide) rfl (fun ls hl => ?_)
                refine lv_iload hx hb dX1_run_94 (lv_at hl 1 rfl) ?_
                refine lv_if_eq (tgt := 110) hx hb dX1_run_96 (by decide) (fun c_36 => ?_) (fun c_36 => ?_)
                · have c_36 := bI_0 c_36
                  refine lv_iconst (v := 0) hx hb dX1_run_110 (by decide) ?_
                  refine lv_istore (lv' := [(4, .int 0), (3, .int (nI nn)), (5, .int (bI (mPart (nI (mf z))))), (0, .ref g0), (1, .int kd), (2, .int (nI j))]) hx hb dX1_run_111 hl (by decide) rfl (fun ls hl => ?_)
                  refine lv_goto (tgt := 24) hx hb dX1_run_113 (by decide) ?_
                  refine lv_iload hx hb dX1_run_24 (lv_at hl 0 rfl) ?_
                  refine lv_if_eq (tgt := 116) hx hb dX1_run_26 (by decide) (fun c_37 => ?_) (fun c_37 => ?_)
                  · have c_37 : 0 = 0 := (nI_eq (a := 0) (b := 0) (by omega) (by omega)).mp c_37
                    refine lv_iload_n hx hb dX1_run_116 rfl (lv_at hl 1 rfl) ?_
                    have hP9 : va_P (dC, dI) vwCl (mw g0 g1 g2 cA (tb, n, kb, ln, rd, fp, (sg (z + 1)), (nI (mf z)), (nI (bf z)))) H := hP
                    have hD9 : va_D A (mw g0 g1 g2 cA (tb, n, kb, ln, rd, fp, (sg (z + 1)), (nI (mf z)), (nI (bf z)))) := hD
                    exact W.iret (v := nI nn) hx hb hr (fun t ht hW => ⟨⟨nI nn, (tb, n, kb, ln, rd, fp, (sg (z + 1)), (nI (mf z)), (nI (bf z))), rfl, ⟨by have hfit : ¬ mFit kd nn (nI (mf z)) = true := (by simp only [mFit, if_neg c_12, if_pos c_13, if_neg c_33, if_pos c_37, c_35]; exact (by decide)); rw [← hR, mRunL_s, if_neg hfit], _, _, _, rfl⟩, by rw [ht]; exact hP9, va_K.moved hW.alike hK, hD9⟩, hS.F ht⟩) hS.2.2 dX1_run_117
                  · exact absurd c_37 (by decide)
                · exact absurd (bI_n0 c_36) c_35
              · have c_35 := bI_n0 c_35
                refine lv_iload_n hx hb dX1_run_86 rfl (lv_at hl 2 rfl) ?_
                refine lv_iconst (v := 1) hx hb dX1_run_87 (by decide) ?_
                refine lv_iadd hx hb dX1_run_88 ?_
                refine lv_topi (fun x_38 ex_38 => ?_)
                obtain rfl : x_38 = nI (nn + 1) := ex_38.trans (nI_add nn 1)
                refine lv_goto (tgt := 93) hx hb dX1_run_89 (by decide) ?_
                refine lv_istore_n (lv' := [(3, .int (nI (nn + 1))), (5, .int (bI (mPart (nI (mf z))))), (4, .int 1), (0, .ref g0), (1, .int kd), (2, .int (nI j))]) hx hb dX1_run_93 rfl hl (by decide) rfl (fun ls hl => ?_)
                refine lv_iload hx hb dX1_run_94 (lv_at hl 1 rfl) ?_
                refine lv_if_eq (tgt := 110) hx hb dX1_run_96 (by decide) (fun c_39 => ?_) (fun c_39 => ?_)
                · exact absurd c_35 (bI_0 c_39)
                · have c_39 := bI_n0 c_39
                  refine lv_aload_n hx hb dX1_run_99 rfl (lv_at hl 3 rfl) ?_
                  have hFc := va_free (wc := mw g0 g1 g2 cA (tb, n, kb, ln, rd, fp, (sg (z + 1)), (nI (mf z)), (nI (bf z)))) hD hS hA [0, 1, 2] rfl
                  refine va_calli (va_runV (As := []) (rest := []) ⟨hx, hb, hml, hown, hts⟩ (c_X1_next_end l dC dI g0 g1 g2 cA H.size tb n kb ln rd fp (sg (z + 1)) (nI (mf z)) (nI (bf z)) hkb hln (by omega) (by rw [show z + 1 = k by omega]; exact (hch hrd).2.2)) (cwV 0 hts gX1_run_X1_next rfl rfl rfl (by decide +kernel) ⟨Nat.le_of_ble_eq_true rfl, Nat.le_of_ble_eq_true rfl⟩) ⟨mmut_blind, va_recv hK hP (ci := 1) (q0 := 0) rfl rfl, fun U hU hW => ⟨rfl, mmut_of hP hK hD hU hW⟩⟩ rfl rfl hl.1 rfl (lv_room (Nat.le_of_ble_eq_true rfl)) dX1_run_100 ⟨Nat.le_of_ble_eq_true rfl, Nat.le_of_ble_eq_true rfl⟩) hS (fun q _ h => hFc q h) hFc (fun r_40 u_40 t_40 H1 locs ht hvm hw hB hz1 hk1 hS => ?_)
                  obtain ⟨hw0, hw1⟩ := hw
                  obtain rfl : r_40 = 0 := hw0
                  obtain rfl : u_40 = (tb, n, kb, ln, rd, fp, (s0N kb ln (sg (z + 1))), (nI (mf z)), (nI (bf z))) := hw1
                  obtain ⟨hP1, hK1, hD1⟩ := hB
                  rw [ht] at hP1
                  obtain ⟨hP, hD⟩ := va_join (wr := []) (w1 := mw g0 g1 g2 cA (tb, n, kb, ln, rd, fp, (s0N kb ln (sg (z + 1))), (nI (mf z)), (nI (bf z)))) hP hD [0, 1, 2] [] rfl rfl (by decide) (by decide) hk1 hFc hP1 hD1
                  generalize H1 = H at hP hS ⊢
                  have hP : va_P (dC, dI) vwCl [(g0, .inr (1, [.ref g1, .int (nI n), .ref g2, .int (nI ln), .int (bI rd), .int fp, .int (nI (s0N kb ln (sg (z + 1)))), .int (nI (mf z)), .int (nI (bf z))])), (g1, .inl (cA, 1000, .inl (fun j => nI (tb j)))), (g2, .inl (cA, 1000, .inl (fun j => nI (kb j))))] H := hP
                  have hD : va_D A [(g0, .inr (1, [.ref g1, .int (nI n), .ref g2, .int (nI ln), .int (bI rd), .int fp, .int (nI (s0N kb ln (sg (z + 1)))), .int (nI (mf z)), .int (nI (bf z))])), (g1, .inl (cA, 1000, .inl (fun j => nI (tb j)))), (g2, .inl (cA, 1000, .inl (fun j => nI (kb j))))] := hD
                  refine lv_if_eq (tgt := 110) hx hb dX1_run_103 (by decide) (fun c_41 => ?_) (fun c_41 => ?_)
                  · have c_41 : 0 = 0 := (nI_eq (a := 0) (b := 0) (by omega) (by omega)).mp c_41
                    refine lv_iconst (v := 0) hx hb dX1_run_110 (by decide) ?_
                    refine lv_istore (lv' := [(4, .int 0), (3, .int (nI (nn + 1))), (5, .int (bI (mPart (nI (mf z))))), (0, .ref g0), (1, .int kd), (2, .int (nI j))]) hx hb dX1_run_111 hl (by decide) rfl (fun ls hl => ?_)
                    refine lv_goto (tgt := 24) hx hb dX1_run_113 (by decide) ?_
                    refine lv_iload hx hb dX1_run_24 (lv_at hl 0 rfl) ?_
                    refine lv_if_eq (tgt := 116) hx hb dX1_run_26 (by decide) (fun c_42 => ?_) (fun c_42 => ?_)
                    · have c_42 : 0 = 0 := (nI_eq (a := 0) (b := 0) (by omega) (by omega)).mp c_42
                      refine lv_iload_n hx hb dX1_run_116 rfl (lv_at hl 1 rfl) ?_
                      have hP9 : va_P (dC, dI) vwCl (mw g0 g1 g2 cA (tb, n, kb, ln, rd, fp, (s0N kb ln (sg (z + 1))), (nI (mf z)), (nI (bf z)))) H := hP
                      have hD9 : va_D A (mw g0 g1 g2 cA (tb, n, kb, ln, rd, fp, (s0N kb ln (sg (z + 1))), (nI (mf z)), (nI (bf z)))) := hD
                      exact W.iret (v := nI (nn + 1)) hx hb hr (fun t ht hW => ⟨⟨nI (nn + 1), (tb, n, kb, ln, rd, fp, (s0N kb ln (sg (z + 1))), (nI (mf z)), (nI (bf z))), rfl, ⟨by have hfit : mFit kd nn (nI (mf z)) = true := (by simp only [mFit, if_neg c_12, if_pos c_13, if_neg c_33, if_pos c_41, if_pos c_42, c_35]); rw [← hR, mRunL_s, if_pos hfit, if_neg hz], _, _, _, rfl⟩, by rw [ht]; exact hP9, va_K.moved hW.alike hK, hD9⟩, hS.F ht⟩) hS.2.2 dX1_run_117
                    · exact absurd c_42 (by decide)
                  · exact absurd c_41 (by decide)
            · have c_33 : nn = 0 := (nI_eq (a := nn) (b := 0) (by omega) (by omega)).mp c_33
              refine lv_aload_n hx hb dX1_run_37 rfl (lv_at hl 2 rfl) ?_
              refine va_get (D := (dC, dI)) (ci := 1) (v := .int (nI (mf z))) (C := RX1) (T := TX1) (N := 9) hx hb hts hIn hown hK hP 0 rfl rfl 7 (by decide) (hts (.fieldLink RX1 57 RX1 "met" "I") (by decide +kernel)) (fun _ h9 => h9) rfl dX1_run_38 ?_
              refine vp_callSi (W.runS (As := [.int (nI (mf z))]) (rest := []) ⟨hx, hb, hml, hown, hts⟩ (c_X1_isBegin l (nI (mf z))) (va_cwS 1 hts gX1_run_X1_isBegin rfl rfl rfl (by decide +kernel) ⟨Nat.le_of_ble_eq_true rfl, Nat.le_of_ble_eq_true rfl⟩) ⟨fun _ _ _ _ q => q, fun U hU hW => ⟨rfl, trivial⟩⟩ rfl rfl hl.1 rfl (lv_room (Nat.le_of_ble_eq_true rfl)) dX1_run_41 ⟨Nat.le_of_ble_eq_true rfl, Nat.le_of_ble_eq_true rfl⟩) (fun r_43 er_43 => ?_)
              obtain rfl : r_43 = bI (mBeg (nI (mf z))) := er_43
              refine lv_goto (tgt := 79) hx hb dX1_run_44 (by decide) ?_
              refine lv_istore (lv' := [(5, .int (bI (mBeg (nI (mf z))))), (4, .int 1), (3, .int (nI nn)), (0, .ref g0), (1, .int kd), (2, .int (nI j))]) hx hb dX1_run_79 hl (by decide) rfl (fun ls hl => ?_)
              refine lv_iload hx hb dX1_run_81 (lv_at hl 0 rfl) ?_
              refine lv_if_eq (tgt := 92) hx hb dX1_run_83 (by decide) (fun c_44 => ?_) (fun c_44 => ?_)
              · have c_44 := bI_0 c_44
                refine lv_iload_n hx hb dX1_run_92 rfl (lv_at hl 2 rfl) ?_
                refine lv_istore_n (lv' := [(3, .int (nI nn)), (5, .int (bI (mBeg (nI (mf z))))), (4, .int 1), (0, .ref g0), (1, .int kd), (2, .int (nI j))]) hx hb dX1_run_93 rfl hl (by decide) rfl (fun ls hl => ?_)
                refine lv_iload hx hb dX1_run_94 (lv_at hl 1 rfl) ?_
                refine lv_if_eq (tgt := 110) hx hb dX1_run_96 (by decide) (fun c_45 => ?_) (fun c_45 => ?_)
                · have c_45 := bI_0 c_45
                  refine lv_iconst (v := 0) hx hb dX1_run_110 (by decide) ?_
                  refine lv_istore (lv' := [(4, .int 0), (3, .int (nI nn)), (5, .int (bI (mBeg (nI (mf z))))), (0, .ref g0), (1, .int kd), (2, .int (nI j))]) hx hb dX1_run_111 hl (by decide) rfl (fun ls hl => ?_)
                  refine lv_goto (tgt := 24) hx hb dX1_run_113 (by decide) ?_
                  refine lv_iload hx hb dX1_run_24 (lv_at hl 0 rfl) ?_
                  refine lv_if_eq (tgt := 116) hx hb dX1_run_26 (by decide) (fun c_46 => ?_) (fun c_46 => ?_)
                  · have c_46 : 0 = 0 := (nI_eq (a := 0) (b := 0) (by omega) (by omega)).mp c_46
                    refine lv_iload_n hx hb dX1_run_116 rfl (lv_at hl 1 rfl) ?_
                    have hP9 : va_P (dC, dI) vwCl (mw g0 g1 g2 cA (tb, n, kb, ln, rd, fp, (sg (z + 1)), (nI (mf z)), (nI (bf z)))) H := hP
                    have hD9 : va_D A (mw g0 g1 g2 cA (tb, n, kb, ln, rd, fp, (sg (z + 1)), (nI (mf z)), (nI (bf z)))) := hD
                    exact W.iret (v := nI nn) hx hb hr (fun t ht hW => ⟨⟨nI nn, (tb, n, kb, ln, rd, fp, (sg (z + 1)), (nI (mf z)), (nI (bf z))), rfl, ⟨by have hfit : ¬ mFit kd nn (nI (mf z)) = true := (by simp only [mFit, if_neg c_12, if_pos c_13, if_pos c_33, if_pos c_46, c_44]; exact (by decide)); rw [← hR, mRunL_s, if_neg hfit], _, _, _, rfl⟩, by rw [ht]; exact hP9, va_K.moved hW.alike hK, hD9⟩, hS.F ht⟩) hS.2.2 dX1_run_117
                  · exact absurd c_46 (by decide)
                · exact absurd (bI_n0 c_45) c_44
              · have c_44 := bI_n0 c_44
                refine lv_iload_n hx hb dX1_run_86 rfl (lv_at hl 2 rfl) ?_
                refine lv_iconst (v := 1) hx hb dX1_run_87 (by decide) ?_
                refine lv_iadd hx hb dX1_run_88 ?_
                refine lv_topi (fun x_47 ex_47 => ?_)
                obtain rfl : x_47 = nI (nn + 1) := ex_47.trans (nI_add nn 1)
                refine lv_goto (tgt := 93) hx hb dX1_run_89 (by decide) ?_
                refine lv_istore_n (lv' := [(3, .int (nI (nn + 1))), (5, .int (bI (mBeg (nI (mf z))))), (4, .int 1), (0, .ref g0), (1, .int kd), (2, .int (nI j))]) hx hb dX1_run_93 rfl hl (by decide) rfl (fun ls hl => ?_)
                refine lv_iload hx hb dX1_run_94 (lv_at hl 1 rfl) ?_
                refine lv_if_eq (tgt := 110) hx hb dX1_run_96 (by decide) (fun c_48 => ?_) (fun c_48 => ?_)
                · exact absurd c_44 (bI_0 c_48)
                · have c_48 := bI_n0 c_48
                  refine lv_aload_n hx hb dX1_run_99 rfl (lv_at hl 3 rfl) ?_
                  have hFc := va_free (wc := mw g0 g1 g2 cA (tb, n, kb, ln, rd, fp, (sg (z + 1)), (nI (mf z)), (nI (bf z)))) hD hS hA [0, 1, 2] rfl
                  refine va_calli (va_runV (As := []) (rest := []) ⟨hx, hb, hml, hown, hts⟩ (c_X1_next_end l dC dI g0 g1 g2 cA H.size tb n kb ln rd fp (sg (z + 1)) (nI (mf z)) (nI (bf z)) hkb hln (by omega) (by rw [show z + 1 = k by omega]; exact (hch hrd).2.2)) (cwV 0 hts gX1_run_X1_next rfl rfl rfl (by decide +kernel) ⟨Nat.le_of_ble_eq_true rfl, Nat.le_of_ble_eq_true rfl⟩) ⟨mmut_blind, va_recv hK hP (ci := 1) (q0 := 0) rfl rfl, fun U hU hW => ⟨rfl, mmut_of hP hK hD hU hW⟩⟩ rfl rfl hl.1 rfl (lv_room (Nat.le_of_ble_eq_true rfl)) dX1_run_100 ⟨Nat.le_of_ble_eq_true rfl, Nat.le_of_ble_eq_true rfl⟩) hS (fun q _ h => hFc q h) hFc (fun r_49 u_49 t_49 H1 locs ht hvm hw hB hz1 hk1 hS => ?_)
                  obtain ⟨hw0, hw1⟩ := hw
                  obtain rfl : r_49 = 0 := hw0
                  obtain rfl : u_49 = (tb, n, kb, ln, rd, fp, (s0N kb ln (sg (z + 1))), (nI (mf z)), (nI (bf z))) := hw1
                  obtain ⟨hP1, hK1, hD1⟩ := hB
                  rw [ht] at hP1
                  obtain ⟨hP, hD⟩ := va_join (wr := []) (w1 := mw g0 g1 g2 cA (tb, n, kb, ln, rd, fp, (s0N kb ln (sg (z + 1))), (nI (mf z)), (nI (bf z)))) hP hD [0, 1, 2] [] rfl rfl (by decide) (by decide) hk1 hFc hP1 hD1
                  generalize H1 = H at hP hS ⊢
                  have hP : va_P (dC, dI) vwCl [(g0, .inr (1, [.ref g1, .int (nI n), .ref g2, .int (nI ln), .int (bI rd), .int fp, .int (nI (s0N kb ln (sg (z + 1)))), .int (nI (mf z)), .int (nI (bf z))])), (g1, .inl (cA, 1000, .inl (fun j => nI (tb j)))), (g2, .inl (cA, 1000, .inl (fun j => nI (kb j))))] H := hP
                  have hD : va_D A [(g0, .inr (1, [.ref g1, .int (nI n), .ref g2, .int (nI ln), .int (bI rd), .int fp, .int (nI (s0N kb ln (sg (z + 1)))), .int (nI (mf z)), .int (nI (bf z))])), (g1, .inl (cA, 1000, .inl (fun j => nI (tb j)))), (g2, .inl (cA, 1000, .inl (fun j => nI (kb j))))] := hD
                  refine lv_if_eq (tgt := 110) hx hb dX1_run_103 (by decide) (fun c_50 => ?_) (fun c_50 => ?_)
                  · have c_50 : 0 = 0 := (nI_eq (a := 0) (b := 0) (by omega) (by omega)).mp c_50
                    refine lv_iconst (v := 0) hx hb dX1_run_110 (by decide) ?_
                    refine lv_istore (lv' := [(4, .int 0), (3, .int (nI (nn + 1))), (5, .int (bI (mBeg (nI (mf z))))), (0, .ref g0), (1, .int kd), (2, .int (nI j))]) hx hb dX1_run_111 hl (by decide) rfl (fun ls hl => ?_)
                    refine lv_goto (tgt := 24) hx hb dX1_run_113 (by decide) ?_
                    refine lv_iload hx hb dX1_run_24 (lv_at hl 0 rfl) ?_
                    refine lv_if_eq (tgt := 116) hx hb dX1_run_26 (by decide) (fun c_51 => ?_) (fun c_51 => ?_)
                    · have c_51 : 0 = 0 := (nI_eq (a := 0) (b := 0) (by omega) (by omega)).mp c_51
                      refine lv_iload_n hx hb dX1_run_116 rfl (lv_at hl 1 rfl) ?_
                      have hP9 : va_P (dC, dI) vwCl (mw g0 g1 g2 cA (tb, n, kb, ln, rd, fp, (s0N kb ln (sg (z + 1))), (nI (mf z)), (nI (bf z)))) H := hP
                      have hD9 : va_D A (mw g0 g1 g2 cA (tb, n, kb, ln, rd, fp, (s0N kb ln (sg (z + 1))), (nI (mf z)), (nI (bf z)))) := hD
                      exact W.iret (v := nI (nn + 1)) hx hb hr (fun t ht hW => ⟨⟨nI (nn + 1), (tb, n, kb, ln, rd, fp, (s0N kb ln (sg (z + 1))), (nI (mf z)), (nI (bf z))), rfl, ⟨by have hfit : mFit kd nn (nI (mf z)) = true := (by simp only [mFit, if_neg c_12, if_pos c_13, if_pos c_33, if_pos c_50, if_pos c_51, c_44]); rw [← hR, mRunL_s, if_pos hfit, if_neg hz], _, _, _, rfl⟩, by rw [ht]; exact hP9, va_K.moved hW.alike hK, hD9⟩, hS.F ht⟩) hS.2.2 dX1_run_117
                    · exact absurd c_51 (by decide)
                  · exact absurd c_50 (by decide)
      | succ d ih =>
        intro z nn H locs ls hzd hnz hR hP hD hS hl
        have hsb := hsgb (z + 1) (by omega)
        have hz : z + 1 < k := by omega
        refine lv_iload hx hb dX1_run_24 (lv_at hl 0 rfl) ?_
        refine lv_if_eq (tgt := 116) hx hb dX1_run_26 (by decide) (fun c_52 => ?_) (fun c_52 => ?_)
        · exact absurd c_52 (by decide)
        · have c_52 : ¬ 1 = 0 := fun zz => c_52 ((nI_eq (a := 1) (b := 0) (by omega) (by omega)).mpr zz)
          refine lv_iload_n hx hb dX1_run_29 rfl (lv_at hl 3 rfl) ?_
          refine lv_if_ne (tgt := 57) hx hb dX1_run_30 (by decide) (fun c_53 => ?_) (fun c_53 => ?_)
          · refine lv_iload_n hx hb dX1_run_57 rfl (lv_at hl 3 rfl) ?_
            refine lv_iconst (v := 1) hx hb dX1_run_58 (by decide) ?_
            refine lv_icmp_ne (tgt := 72) hx hb dX1_run_59 (by decide) (fun c_54 => ?_) (fun c_54 => ?_)
            · refine lv_aload_n hx hb dX1_run_72 rfl (lv_at hl 2 rfl) ?_
              refine va_get (D := (dC, dI)) (ci := 1) (v := .int (nI (mf z))) (C := RX1) (T := TX1) (N := 9) hx hb hts hIn hown hK hP 0 rfl rfl 7 (by decide) (hts (.fieldLink RX1 57 RX1 "met" "I") (by decide +kernel)) (fun _ h9 => h9) rfl dX1_run_73 ?_
              refine vp_callSi (W.runS (As := [.int (nI (mf z))]) (rest := []) ⟨hx, hb, hml, hown, hts⟩ (c_X1_isBlank l (nI (mf z))) (va_cwS 1 hts gX1_run_X1_isBlank rfl rfl rfl (by decide +kernel) ⟨Nat.le_of_ble_eq_true rfl, Nat.le_of_ble_eq_true rfl⟩) ⟨fun _ _ _ _ q => q, fun U hU hW => ⟨rfl, trivial⟩⟩ rfl rfl hl.1 rfl (lv_room (Nat.le_of_ble_eq_true rfl)) dX1_run_76 ⟨Nat.le_of_ble_eq_true rfl, Nat.le_of_ble_eq_true rfl⟩) (fun r_55 er_55 => ?_)
              obtain rfl : r_55 = bI (mBlank (nI (mf z))) := er_55
              refine lv_istore (lv' := [(5, .int (bI (mBlank (nI (mf z))))), (4, .int 1), (3, .int (nI nn)), (0, .ref g0), (1, .int kd), (2, .int (nI j))]) hx hb dX1_run_79 hl (by decide) rfl (fun ls hl => ?_)
              refine lv_iload hx hb dX1_run_81 (lv_at hl 0 rfl) ?_
              refine lv_if_eq (tgt := 92) hx hb dX1_run_83 (by decide) (fun c_56 => ?_) (fun c_56 => ?_)
              · have c_56 := bI_0 c_56
                refine lv_iload_n hx hb dX1_run_92 rfl (lv_at hl 2 rfl) ?_
                refine lv_istore_n (lv' := [(3, .int (nI nn)), (5, .int (bI (mBlank (nI (mf z))))), (4, .int 1), (0, .ref g0), (1, .int kd), (2, .int (nI j))]) hx hb dX1_run_93 rfl hl (by decide) rfl (fun ls hl => ?_)
                refine lv_iload hx hb dX1_run_94 (lv_at hl 1 rfl) ?_
                refine lv_if_eq (tgt := 110) hx hb dX1_run_96 (by decide) (fun c_57 => ?_) (fun c_57 => ?_)
                · have c_57 := bI_0 c_57
                  refine lv_iconst (v := 0) hx hb dX1_run_110 (by decide) ?_
                  refine lv_istore (lv' := [(4, .int 0), (3, .int (nI nn)), (5, .int (bI (mBlank (nI (mf z))))), (0, .ref g0), (1, .int kd), (2, .int (nI j))]) hx hb dX1_run_111 hl (by decide) rfl (fun ls hl => ?_)
                  refine lv_goto (tgt := 24) hx hb dX1_run_113 (by decide) ?_
                  refine lv_iload hx hb dX1_run_24 (lv_at hl 0 rfl) ?_
                  refine lv_if_eq (tgt := 116) hx hb dX1_run_26 (by decide) (fun c_58 => ?_) (fun c_58 => ?_)
                  · have c_58 : 0 = 0 := (nI_eq (a := 0) (b := 0) (by omega) (by omega)).mp c_58
                    refine lv_iload_n hx hb dX1_run_116 rfl (lv_at hl 1 rfl) ?_
                    have hP9 : va_P (dC, dI) vwCl (mw g0 g1 g2 cA (tb, n, kb, ln, rd, fp, (sg (z + 1)), (nI (mf z)), (nI (bf z)))) H := hP
                    have hD9 : va_D A (mw g0 g1 g2 cA (tb, n, kb, ln, rd, fp, (sg (z + 1)), (nI (mf z)), (nI (bf z)))) := hD
                    exact W.iret (v := nI nn) hx hb hr (fun t ht hW => ⟨⟨nI nn, (tb, n, kb, ln, rd, fp, (sg (z + 1)), (nI (mf z)), (nI (bf z))), rfl, ⟨by have hfit : ¬ mFit kd nn (nI (mf z)) = true := (by simp only [mFit, if_neg c_52, if_neg c_53, if_neg c_54, if_pos c_58, c_56]; exact (by decide)); rw [← hR, mRunL_s, if_neg hfit], _, _, _, rfl⟩, by rw [ht]; exact hP9, va_K.moved hW.alike hK, hD9⟩, hS.F ht⟩) hS.2.2 dX1_run_117
                  · exact absurd c_58 (by decide)
                · exact absurd (bI_n0 c_57) c_56
              · have c_56 := bI_n0 c_56
                refine lv_iload_n hx hb dX1_run_86 rfl (lv_at hl 2 rfl) ?_
                refine lv_iconst (v := 1) hx hb dX1_run_87 (by decide) ?_
                refine lv_iadd hx hb dX1_run_88 ?_
                refine lv_topi (fun x_59 ex_59 => ?_)
                obtain rfl : x_59 = nI (nn + 1) := ex_59.trans (nI_add nn 1)
                refine lv_goto (tgt := 93) hx hb dX1_run_89 (by decide) ?_
                refine lv_istore_n (lv' := [(3, .int (nI (nn + 1))), (5, .int (bI (mBlank (nI (mf z))))), (4, .int 1), (0, .ref g0), (1, .int kd), (2, .int (nI j))]) hx hb dX1_run_93 rfl hl (by decide) rfl (fun ls hl => ?_)
                refine lv_iload hx hb dX1_run_94 (lv_at hl 1 rfl) ?_
                refine lv_if_eq (tgt := 110) hx hb dX1_run_96 (by decide) (fun c_60 => ?_) (fun c_60 => ?_)
                · exact absurd c_56 (bI_0 c_60)
                · have c_60 := bI_n0 c_60
                  refine lv_aload_n hx hb dX1_run_99 rfl (lv_at hl 3 rfl) ?_
                  have hFc := va_free (wc := mw g0 g1 g2 cA (tb, n, kb, ln, rd, fp, (sg (z + 1)), (nI (mf z)), (nI (bf z)))) hD hS hA [0, 1, 2] rfl
                  obtain ⟨hgo, v_61, w_61, hsq, hmf, hbf, hsg⟩ := (hch hrd).2.1 (z + 1) hz
                  have hlt_61 := seqN_lt hkb hsq
                  refine va_calli (va_runV (As := []) (rest := []) ⟨hx, hb, hml, hown, hts⟩ (c_X1_next_some l dC dI g0 g1 g2 cA H.size tb n kb ln rd fp (sg (z + 1)) (nI (mf z)) (nI (bf z)) hkb hln (by omega) v_61 w_61 hgo hsq) (cwV 0 hts gX1_run_X1_next rfl rfl rfl (by decide +kernel) ⟨Nat.le_of_ble_eq_true rfl, Nat.le_of_ble_eq_true rfl⟩) ⟨mmut_blind, va_recv hK hP (ci := 1) (q0 := 0) rfl rfl, fun U hU hW => ⟨rfl, mmut_of hP hK hD hU hW⟩⟩ rfl rfl hl.1 rfl (lv_room (Nat.le_of_ble_eq_true rfl)) dX1_run_100 ⟨Nat.le_of_ble_eq_true rfl, Nat.le_of_ble_eq_true rfl⟩) hS (fun q _ h => hFc q h) hFc (fun r_61 u_61 t_61 H1 locs ht hvm hw hB hz1 hk1 hS => ?_)
                  obtain ⟨hw0, hw1⟩ := hw
                  rw [← hmf, ← hsg, ← hbf] at hw1
                  obtain rfl : r_61 = 1 := hw0
                  obtain rfl : u_61 = (tb, n, kb, ln, rd, fp, (sg ((z + 1) + 1)), (nI (mf (z + 1))), (nI (bf (z + 1)))) := hw1
                  obtain ⟨hP1, hK1, hD1⟩ := hB
                  rw [ht] at hP1
                  obtain ⟨hP, hD⟩ := va_join (wr := []) (w1 := mw g0 g1 g2 cA (tb, n, kb, ln, rd, fp, (sg ((z + 1) + 1)), (nI (mf (z + 1))), (nI (bf (z + 1))))) hP hD [0, 1, 2] [] rfl rfl (by decide) (by decide) hk1 hFc hP1 hD1
                  generalize H1 = H at hP hS ⊢
                  have hP : va_P (dC, dI) vwCl [(g0, .inr (1, [.ref g1, .int (nI n), .ref g2, .int (nI ln), .int (bI rd), .int fp, .int (nI (sg ((z + 1) + 1))), .int (nI (mf (z + 1))), .int (nI (bf (z + 1)))])), (g1, .inl (cA, 1000, .inl (fun j => nI (tb j)))), (g2, .inl (cA, 1000, .inl (fun j => nI (kb j))))] H := hP
                  have hD : va_D A [(g0, .inr (1, [.ref g1, .int (nI n), .ref g2, .int (nI ln), .int (bI rd), .int fp, .int (nI (sg ((z + 1) + 1))), .int (nI (mf (z + 1))), .int (nI (bf (z + 1)))])), (g1, .inl (cA, 1000, .inl (fun j => nI (tb j)))), (g2, .inl (cA, 1000, .inl (fun j => nI (kb j))))] := hD
                  refine lv_if_eq (tgt := 110) hx hb dX1_run_103 (by decide) (fun c_62 => ?_) (fun c_62 => ?_)
                  · exact absurd c_62 (by decide)
                  · have c_62 : ¬ 1 = 0 := fun zz => c_62 ((nI_eq (a := 1) (b := 0) (by omega) (by omega)).mpr zz)
                    refine lv_iconst (v := 1) hx hb dX1_run_106 (by decide) ?_
                    refine lv_goto (tgt := 111) hx hb dX1_run_107 (by decide) ?_
                    refine lv_istore (lv' := [(4, .int 1), (3, .int (nI (nn + 1))), (5, .int (bI (mBlank (nI (mf z))))), (0, .ref g0), (1, .int kd), (2, .int (nI j))]) hx hb dX1_run_111 hl (by decide) rfl (fun ls hl => ?_)
                    refine lv_goto (tgt := 24) hx hb dX1_run_113 (by decide) ?_
                    have hfit : mFit kd nn (nI (mf z)) = true := by simp only [mFit, if_neg c_52, if_neg c_53, if_neg c_54, if_neg c_62, c_56]
                    exact ih (z + 1) (nn + 1) H locs ls (by omega) (by omega) (by rw [← hR, mRunL_s (n := nn), if_pos hfit, if_pos hz]) hP hD hS (lv_sub hl [0, 1, 3, 4, 5] rfl)
            · refine lv_aload_n hx hb dX1_run_62 rfl (lv_at hl 2 rfl) ?_
              refine va_get (D := (dC, dI)) (ci := 1) (v := .int (nI (mf z))) (C := RX1) (T := TX1) (N := 9) hx hb hts hIn hown hK hP 0 rfl rfl 7 (by decide) (hts (.fieldLink RX1 57 RX1 "met" "I") (by decide +kernel)) (fun _ h9 => h9) rfl dX1_run_63 ?_
              refine vp_callSi (W.runS (As := [.int (nI (mf z))]) (rest := []) ⟨hx, hb, hml, hown, hts⟩ (c_X1_isPart l (nI (mf z))) (va_cwS 1 hts gX1_run_X1_isPart rfl rfl rfl (by decide +kernel) ⟨Nat.le_of_ble_eq_true rfl, Nat.le_of_ble_eq_true rfl⟩) ⟨fun _ _ _ _ q => q, fun U hU hW => ⟨rfl, trivial⟩⟩ rfl rfl hl.1 rfl (lv_room (Nat.le_of_ble_eq_true rfl)) dX1_run_66 ⟨Nat.le_of_ble_eq_true rfl, Nat.le_of_ble_eq_true rfl⟩) (fun r_63 er_63 => ?_)
              obtain rfl : r_63 = bI (mPart (nI (mf z))) := er_63
              refine lv_goto (tgt := 79) hx hb dX1_run_69 (by decide) ?_
              refine lv_istore (lv' := [(5, .int (bI (mPart (nI (mf z))))), (4, .int 1), (3, .int (nI nn)), (0, .ref g0), (1, .int kd), (2, .int (nI j))]) hx hb dX1_run_79 hl (by decide) rfl (fun ls hl => ?_)
              refine lv_iload hx hb dX1_run_81 (lv_at hl 0 rfl) ?_
              refine lv_if_eq (tgt := 92) hx hb dX1_run_83 (by decide) (fun c_64 => ?_) (fun c_64 => ?_)
              · have c_64 := bI_0 c_64
                refine lv_iload_n hx hb dX1_run_92 rfl (lv_at hl 2 rfl) ?_
                refine lv_istore_n (lv' := [(3, .int (nI nn)), (5, .int (bI (mPart (nI (mf z))))), (4, .int 1), (0, .ref g0), (1, .int kd), (2, .int (nI j))]) hx hb dX1_run_93 rfl hl (by decide) rfl (fun ls hl => ?_)
                refine lv_iload hx hb dX1_run_94 (lv_at hl 1 rfl) ?_
                refine lv_if_eq (tgt := 110) hx hb dX1_run_96 (by decide) (fun c_65 => ?_) (fun c_65 => ?_)
                · have c_65 := bI_0 c_65
                  refine lv_iconst (v := 0) hx hb dX1_run_110 (by decide) ?_
                  refine lv_istore (lv' := [(4, .int 0), (3, .int (nI nn)), (5, .int (bI (mPart (nI (mf z))))), (0, .ref g0), (1, .int kd), (2, .int (nI j))]) hx hb dX1_run_111 hl (by decide) rfl (fun ls hl => ?_)
                  refine lv_goto (tgt := 24) hx hb dX1_run_113 (by decide) ?_
                  refine lv_iload hx hb dX1_run_24 (lv_at hl 0 rfl) ?_
                  refine lv_if_eq (tgt := 116) hx hb dX1_run_26 (by decide) (fun c_66 => ?_) (fun c_66 => ?_)
                  · have c_66 : 0 = 0 := (nI_eq (a := 0) (b := 0) (by omega) (by omega)).mp c_66
                    refine lv_iload_n hx hb dX1_run_116 rfl (lv_at hl 1 rfl) ?_
                    have hP9 : va_P (dC, dI) vwCl (mw g0 g1 g2 cA (tb, n, kb, ln, rd, fp, (sg (z + 1)), (nI (mf z)), (nI (bf z)))) H := hP
                    have hD9 : va_D A (mw g0 g1 g2 cA (tb, n, kb, ln, rd, fp, (sg (z + 1)), (nI (mf z)), (nI (bf z)))) := hD
                    exact W.iret (v := nI nn) hx hb hr (fun t ht hW => ⟨⟨nI nn, (tb, n, kb, ln, rd, fp, (sg (z + 1)), (nI (mf z)), (nI (bf z))), rfl, ⟨by have hfit : ¬ mFit kd nn (nI (mf z)) = true := (by simp only [mFit, if_neg c_52, if_neg c_53, if_pos c_54, if_pos c_66, c_64]; exact (by decide)); rw [← hR, mRunL_s, if_neg hfit], _, _, _, rfl⟩, by rw [ht]; exact hP9, va_K.moved hW.alike hK, hD9⟩, hS.F ht⟩) hS.2.2 dX1_run_117
                  · exact absurd c_66 (by decide)
                · exact absurd (bI_n0 c_65) c_64
              · have c_64 := bI_n0 c_64
                refine lv_iload_n hx hb dX1_run_86 rfl (lv_at hl 2 rfl) ?_
                refine lv_iconst (v := 1) hx hb dX1_run_87 (by decide) ?_
                refine lv_iadd hx hb dX1_run_88 ?_
                refine lv_topi (fun x_67 ex_67 => ?_)
                obtain rfl : x_67 = nI (nn + 1) := ex_67.trans (nI_add nn 1)
                refine lv_goto (tgt := 93) hx hb dX1_run_89 (by decide) ?_
                refine lv_istore_n (lv' := [(3, .int (nI (nn + 1))), (5, .int (bI (mPart (nI (mf z))))), (4, .int 1), (0, .ref g0), (1, .int kd), (2, .int (nI j))]) hx hb dX1_run_93 rfl hl (by decide) rfl (fun ls hl => ?_)
                refine lv_iload hx hb dX1_run_94 (lv_at hl 1 rfl) ?_
                refine lv_if_eq (tgt := 110) hx hb dX1_run_96 (by decide) (fun c_68 => ?_) (fun c_68 => ?_)
                · exact absurd c_64 (bI_0 c_68)
                · have c_68 := bI_n0 c_68
                  refine lv_aload_n hx hb dX1_run_99 rfl (lv_at hl 3 rfl) ?_
                  have hFc := va_free (wc := mw g0 g1 g2 cA (tb, n, kb, ln, rd, fp, (sg (z + 1)), (nI (mf z)), (nI (bf z)))) hD hS hA [0, 1, 2] rfl
                  obtain ⟨hgo, v_69, w_69, hsq, hmf, hbf, hsg⟩ := (hch hrd).2.1 (z + 1) hz
                  have hlt_69 := seqN_lt hkb hsq
                  refine va_calli (va_runV (As := []) (rest := []) ⟨hx, hb, hml, hown, hts⟩ (c_X1_next_some l dC dI g0 g1 g2 cA H.size tb n kb ln rd fp (sg (z + 1)) (nI (mf z)) (nI (bf z)) hkb hln (by omega) v_69 w_69 hgo hsq) (cwV 0 hts gX1_run_X1_next rfl rfl rfl (by decide +kernel) ⟨Nat.le_of_ble_eq_true rfl, Nat.le_of_ble_eq_true rfl⟩) ⟨mmut_blind, va_recv hK hP (ci := 1) (q0 := 0) rfl rfl, fun U hU hW => ⟨rfl, mmut_of hP hK hD hU hW⟩⟩ rfl rfl hl.1 rfl (lv_room (Nat.le_of_ble_eq_true rfl)) dX1_run_100 ⟨Nat.le_of_ble_eq_true rfl, Nat.le_of_ble_eq_true rfl⟩) hS (fun q _ h => hFc q h) hFc (fun r_69 u_69 t_69 H1 locs ht hvm hw hB hz1 hk1 hS => ?_)
                  obtain ⟨hw0, hw1⟩ := hw
                  rw [← hmf, ← hsg, ← hbf] at hw1
                  obtain rfl : r_69 = 1 := hw0
                  obtain rfl : u_69 = (tb, n, kb, ln, rd, fp, (sg ((z + 1) + 1)), (nI (mf (z + 1))), (nI (bf (z + 1)))) := hw1
                  obtain ⟨hP1, hK1, hD1⟩ := hB
                  rw [ht] at hP1
                  obtain ⟨hP, hD⟩ := va_join (wr := []) (w1 := mw g0 g1 g2 cA (tb, n, kb, ln, rd, fp, (sg ((z + 1) + 1)), (nI (mf (z + 1))), (nI (bf (z + 1))))) hP hD [0, 1, 2] [] rfl rfl (by decide) (by decide) hk1 hFc hP1 hD1
                  generalize H1 = H at hP hS ⊢
                  have hP : va_P (dC, dI) vwCl [(g0, .inr (1, [.ref g1, .int (nI n), .ref g2, .int (nI ln), .int (bI rd), .int fp, .int (nI (sg ((z + 1) + 1))), .int (nI (mf (z + 1))), .int (nI (bf (z + 1)))])), (g1, .inl (cA, 1000, .inl (fun j => nI (tb j)))), (g2, .inl (cA, 1000, .inl (fun j => nI (kb j))))] H := hP
                  have hD : va_D A [(g0, .inr (1, [.ref g1, .int (nI n), .ref g2, .int (nI ln), .int (bI rd), .int fp, .int (nI (sg ((z + 1) + 1))), .int (nI (mf (z + 1))), .int (nI (bf (z + 1)))])), (g1, .inl (cA, 1000, .inl (fun j => nI (tb j)))), (g2, .inl (cA, 1000, .inl (fun j => nI (kb j))))] := hD
                  refine lv_if_eq (tgt := 110) hx hb dX1_run_103 (by decide) (fun c_70 => ?_) (fun c_70 => ?_)
                  · exact absurd c_70 (by decide)
                  · have c_70 : ¬ 1 = 0 := fun zz => c_70 ((nI_eq (a := 1) (b := 0) (by omega) (by omega)).mpr zz)
                    refine lv_iconst (v := 1) hx hb dX1_run_106 (by decide) ?_
                    refine lv_goto (tgt := 111) hx hb dX1_run_107 (by decide) ?_
                    refine lv_istore (lv' := [(4, .int 1), (3, .int (nI (nn + 1))), (5, .int (bI (mPart (nI (mf z))))), (0, .ref g0), (1, .int kd), (2, .int (nI j))]) hx hb dX1_run_111 hl (by decide) rfl (fun ls hl => ?_)
                    refine lv_goto (tgt := 24) hx hb dX1_run_113 (by decide) ?_
                    have hfit : mFit kd nn (nI (mf z)) = true := by simp only [mFit, if_neg c_52, if_neg c_53, if_pos c_54, if_neg c_70, c_64]
                    exact ih (z + 1) (nn + 1) H locs ls (by omega) (by omega) (by rw [← hR, mRunL_s (n := nn), if_pos hfit, if_pos hz]) hP hD hS (lv_sub hl [0, 1, 3, 4, 5] rfl)
          · refine lv_iload_n hx hb dX1_run_33 rfl (lv_at hl 1 rfl) ?_
            refine lv_if_ne (tgt := 47) hx hb dX1_run_34 (by decide) (fun c_71 => ?_) (fun c_71 => ?_)
            · have c_71 : ¬ nn = 0 := fun zz => c_71 ((nI_eq (a := nn) (b := 0) (by omega) (by omega)).mpr zz)
              refine lv_aload_n hx hb dX1_run_47 rfl (lv_at hl 2 rfl) ?_
              refine va_get (D := (dC, dI)) (ci := 1) (v := .int (nI (mf z))) (C := RX1) (T := TX1) (N := 9) hx hb hts hIn hown hK hP 0 rfl rfl 7 (by decide) (hts (.fieldLink RX1 57 RX1 "met" "I") (by decide +kernel)) (fun _ h9 => h9) rfl dX1_run_48 ?_
              refine vp_callSi (W.runS (As := [.int (nI (mf z))]) (rest := []) ⟨hx, hb, hml, hown, hts⟩ (c_X1_isPart l (nI (mf z))) (va_cwS 1 hts gX1_run_X1_isPart rfl rfl rfl (by decide +kernel) ⟨Nat.le_of_ble_eq_true rfl, Nat.le_of_ble_eq_true rfl⟩) ⟨fun _ _ _ _ q => q, fun U hU hW => ⟨rfl, trivial⟩⟩ rfl rfl hl.1 rfl (lv_room (Nat.le_of_ble_eq_true rfl)) dX1_run_51 ⟨Nat.le_of_ble_eq_true rfl, Nat.le_of_ble_eq_true rfl⟩) (fun r_72 er_72 => ?_)
              obtain rfl : r_72 = bI (mPart (nI (mf z))) := er_72
              refine lv_goto (tgt := 79) hx hb dX1_run_54 (by decide) ?_
              refine lv_istore (lv' := [(5, .int (bI (mPart (nI (mf z))))), (4, .int 1), (3, .int (nI nn)), (0, .ref g0), (1, .int kd), (2, .int (nI j))]) hx hb dX1_run_79 hl (by decide) rfl (fun ls hl => ?_)
              refine lv_iload hx hb dX1_run_81 (lv_at hl 0 rfl) ?_
              refine lv_if_eq (tgt := 92) hx hb dX1_run_83 (by decide) (fun c_73 => ?_) (fun c_73 => ?_)
              · have c_73 := bI_0 c_73
                refine lv_iload_n hx hb dX1_run_92 rfl (lv_at hl 2 rfl) ?_
                refine lv_istore_n (lv' := [(3, .int (nI nn)), (5, .int (bI (mPart (nI (mf z))))), (4, .int 1), (0, .ref g0), (1, .int kd), (2, .int (nI j))]) hx hb dX1_run_93 rfl hl (by decide) rfl (fun ls hl => ?_)
                refine lv_iload hx hb dX1_run_94 (lv_at hl 1 rfl) ?_
                refine lv_if_eq (tgt := 110) hx hb dX1_run_96 (by decide) (fun c_74 => ?_) (fun c_74 => ?_)
                · have c_74 := bI_0 c_74
                  refine lv_iconst (v := 0) hx hb dX1_run_110 (by decide) ?_
                  refine lv_istore (lv' := [(4, .int 0), (3, .int (nI nn)), (5, .int (bI (mPart (nI (mf z))))), (0, .ref g0), (1, .int kd), (2, .int (nI j))]) hx hb dX1_run_111 hl (by decide) rfl (fun ls hl => ?_)
                  refine lv_goto (tgt := 24) hx hb dX1_run_113 (by decide) ?_
                  refine lv_iload hx hb dX1_run_24 (lv_at hl 0 rfl) ?_
                  refine lv_if_eq (tgt := 116) hx hb dX1_run_26 (by decide) (fun c_75 => ?_) (fun c_75 => ?_)
                  · have c_75 : 0 = 0 := (nI_eq (a := 0) (b := 0) (by omega) (by omega)).mp c_75
                    refine lv_iload_n hx hb dX1_run_116 rfl (lv_at hl 1 rfl) ?_
                    have hP9 : va_P (dC, dI) vwCl (mw g0 g1 g2 cA (tb, n, kb, ln, rd, fp, (sg (z + 1)), (nI (mf z)), (nI (bf z)))) H := hP
                    have hD9 : va_D A (mw g0 g1 g2 cA (tb, n, kb, ln, rd, fp, (sg (z + 1)), (nI (mf z)), (nI (bf z)))) := hD
                    exact W.iret (v := nI nn) hx hb hr (fun t ht hW => ⟨⟨nI nn, (tb, n, kb, ln, rd, fp, (sg (z + 1)), (nI (mf z)), (nI (bf z))), rfl, ⟨by have hfit : ¬ mFit kd nn (nI (mf z)) = true := (by simp only [mFit, if_neg c_52, if_pos c_53, if_neg c_71, if_pos c_75, c_73]; exact (by decide)); rw [← hR, mRunL_s, if_neg hfit], _, _, _, rfl⟩, by rw [ht]; exact hP9, va_K.moved hW.alike hK, hD9⟩, hS.F ht⟩) hS.2.2 dX1_run_117
                  · exact absurd c_75 (by decide)
                · exact absurd (bI_n0 c_74) c_73
              · have c_73 := bI_n0 c_73
                refine lv_iload_n hx hb dX1_run_86 rfl (lv_at hl 2 rfl) ?_
                refine lv_iconst (v := 1) hx hb dX1_run_87 (by decide) ?_
                refine lv_iadd hx hb dX1_run_88 ?_
                refine lv_topi (fun x_76 ex_76 => ?_)
                obtain rfl : x_76 = nI (nn + 1) := ex_76.trans (nI_add nn 1)
                refine lv_goto (tgt := 93) hx hb dX1_run_89 (by decide) ?_
                refine lv_istore_n (lv' := [(3, .int (nI (nn + 1))), (5, .int (bI (mPart (nI (mf z))))), (4, .int 1), (0, .ref g0), (1, .int kd), (2, .int (nI j))]) hx hb dX1_run_93 rfl hl (by decide) rfl (fun ls hl => ?_)
                refine lv_iload hx hb dX1_run_94 (lv_at hl 1 rfl) ?_
                refine lv_if_eq (tgt := 110) hx hb dX1_run_96 (by decide) (fun c_77 => ?_) (fun c_77 => ?_)
                · exact absurd c_73 (bI_0 c_77)
                · have c_77 := bI_n0 c_77
                  refine lv_aload_n hx hb dX1_run_99 rfl (lv_at hl 3 rfl) ?_
                  have hFc := va_free (wc := mw g0 g1 g2 cA (tb, n, kb, ln, rd, fp, (sg (z + 1)), (nI (mf z)), (nI (bf z)))) hD hS hA [0, 1, 2] rfl
                  obtain ⟨hgo, v_78, w_78, hsq, hmf, hbf, hsg⟩ := (hch hrd).2.1 (z + 1) hz
                  have hlt_78 := seqN_lt hkb hsq
                  refine va_calli (va_runV (As := []) (rest := []) ⟨hx, hb, hml, hown, hts⟩ (c_X1_next_some l dC dI g0 g1 g2 cA H.size tb n kb ln rd fp (sg (z + 1)) (nI (mf z)) (nI (bf z)) hkb hln (by omega) v_78 w_78 hgo hsq) (cwV 0 hts gX1_run_X1_next rfl rfl rfl (by decide +kernel) ⟨Nat.le_of_ble_eq_true rfl, Nat.le_of_ble_eq_true rfl⟩) ⟨mmut_blind, va_recv hK hP (ci := 1) (q0 := 0) rfl rfl, fun U hU hW => ⟨rfl, mmut_of hP hK hD hU hW⟩⟩ rfl rfl hl.1 rfl (lv_room (Nat.le_of_ble_eq_true rfl)) dX1_run_100 ⟨Nat.le_of_ble_eq_true rfl, Nat.le_of_ble_eq_true rfl⟩) hS (fun q _ h => hFc q h) hFc (fun r_78 u_78 t_78 H1 locs ht hvm hw hB hz1 hk1 hS => ?_)
                  obtain ⟨hw0, hw1⟩ := hw
                  rw [← hmf, ← hsg, ← hbf] at hw1
                  obtain rfl : r_78 = 1 := hw0
                  obtain rfl : u_78 = (tb, n, kb, ln, rd, fp, (sg ((z + 1) + 1)), (nI (mf (z + 1))), (nI (bf (z + 1)))) := hw1
                  obtain ⟨hP1, hK1, hD1⟩ := hB
                  rw [ht] at hP1
                  obtain ⟨hP, hD⟩ := va_join (wr := []) (w1 := mw g0 g1 g2 cA (tb, n, kb, ln, rd, fp, (sg ((z + 1) + 1)), (nI (mf (z + 1))), (nI (bf (z + 1))))) hP hD [0, 1, 2] [] rfl rfl (by decide) (by decide) hk1 hFc hP1 hD1
                  generalize H1 = H at hP hS ⊢
                  have hP : va_P (dC, dI) vwCl [(g0, .inr (1, [.ref g1, .int (nI n), .ref g2, .int (nI ln), .int (bI rd), .int fp, .int (nI (sg ((z + 1) + 1))), .int (nI (mf (z + 1))), .int (nI (bf (z + 1)))])), (g1, .inl (cA, 1000, .inl (fun j => nI (tb j)))), (g2, .inl (cA, 1000, .inl (fun j => nI (kb j))))] H := hP
                  have hD : va_D A [(g0, .inr (1, [.ref g1, .int (nI n), .ref g2, .int (nI ln), .int (bI rd), .int fp, .int (nI (sg ((z + 1) + 1))), .int (nI (mf (z + 1))), .int (nI (bf (z + 1)))])), (g1, .inl (cA, 1000, .inl (fun j => nI (tb j)))), (g2, .inl (cA, 1000, .inl (fun j => nI (kb j))))] := hD
                  refine lv_if_eq (tgt := 110) hx hb dX1_run_103 (by decide) (fun c_79 => ?_) (fun c_79 => ?_)
                  · exact absurd c_79 (by decide)
                  · have c_79 : ¬ 1 = 0 := fun zz => c_79 ((nI_eq (a := 1) (b := 0) (by omega) (by omega)).mpr zz)
                    refine lv_iconst (v := 1) hx hb dX1_run_106 (by decide) ?_
                    refine lv_goto (tgt := 111) hx hb dX1_run_107 (by decide) ?_
                    refine lv_istore (lv' := [(4, .int 1), (3, .int (nI (nn + 1))), (5, .int (bI (mPart (nI (mf z))))), (0, .ref g0), (1, .int kd), (2, .int (nI j))]) hx hb dX1_run_111 hl (by decide) rfl (fun ls hl => ?_)
                    refine lv_goto (tgt := 24) hx hb dX1_run_113 (by decide) ?_
                    have hfit : mFit kd nn (nI (mf z)) = true := by simp only [mFit, if_neg c_52, if_pos c_53, if_neg c_71, if_neg c_79, c_73]
                    exact ih (z + 1) (nn + 1) H locs ls (by omega) (by omega) (by rw [← hR, mRunL_s (n := nn), if_pos hfit, if_pos hz]) hP hD hS (lv_sub hl [0, 1, 3, 4, 5] rfl)
            · have c_71 : nn = 0 := (nI_eq (a := nn) (b := 0) (by omega) (by omega)).mp c_71
              refine lv_aload_n hx hb dX1_run_37 rfl (lv_at hl 2 rfl) ?_
              refine va_get (D := (dC, dI)) (ci := 1) (v := .int (nI (mf z))) (C := RX1) (T := TX1) (N := 9) hx hb hts hIn hown hK hP 0 rfl rfl 7 (by decide) (hts (.fieldLink RX1 57 RX1 "met" "I") (by decide +kernel)) (fun _ h9 => h9) rfl dX1_run_38 ?_
              refine vp_callSi (W.runS (As := [.int (nI (mf z))]) (rest := []) ⟨hx, hb, hml, hown, hts⟩ (c_X1_isBegin l (nI (mf z))) (va_cwS 1 hts gX1_run_X1_isBegin rfl rfl rfl (by decide +kernel) ⟨Nat.le_of_ble_eq_true rfl, Nat.le_of_ble_eq_true rfl⟩) ⟨fun _ _ _ _ q => q, fun U hU hW => ⟨rfl, trivial⟩⟩ rfl rfl hl.1 rfl (lv_room (Nat.le_of_ble_eq_true rfl)) dX1_run_41 ⟨Nat.le_of_ble_eq_true rfl, Nat.le_of_ble_eq_true rfl⟩) (fun r_80 er_80 => ?_)
              obtain rfl : r_80 = bI (mBeg (nI (mf z))) := er_80
              refine lv_goto (tgt := 79) hx hb dX1_run_44 (by decide) ?_
              refine lv_istore (lv' := [(5, .int (bI (mBeg (nI (mf z))))), (4, .int 1), (3, .int (nI nn)), (0, .ref g0), (1, .int kd), (2, .int (nI j))]) hx hb dX1_run_79 hl (by decide) rfl (fun ls hl => ?_)
              refine lv_iload hx hb dX1_run_81 (lv_at hl 0 rfl) ?_
              refine lv_if_eq (tgt := 92) hx hb dX1_run_83 (by decide) (fun c_81 => ?_) (fun c_81 => ?_)
              · have c_81 := bI_0 c_81
                refine lv_iload_n hx hb dX1_run_92 rfl (lv_at hl 2 rfl) ?_
                refine lv_istore_n (lv' := [(3, .int (nI nn)), (5, .int (bI (mBeg (nI (mf z))))), (4, .int 1), (0, .ref g0), (1, .int kd), (2, .int (nI j))]) hx hb dX1_run_93 rfl hl (by decide) rfl (fun ls hl => ?_)
                refine lv_iload hx hb dX1_run_94 (lv_at hl 1 rfl) ?_
                refine lv_if_eq (tgt := 110) hx hb dX1_run_96 (by decide) (fun c_82 => ?_) (fun c_82 => ?_)
                · have c_82 := bI_0 c_82
                  refine lv_iconst (v := 0) hx hb dX1_run_110 (by decide) ?_
                  refine lv_istore (lv' := [(4, .int 0), (3, .int (nI nn)), (5, .int (bI (mBeg (nI (mf z))))), (0, .ref g0), (1, .int kd), (2, .int (nI j))]) hx hb dX1_run_111 hl (by decide) rfl (fun ls hl => ?_)
                  refine lv_goto (tgt := 24) hx hb dX1_run_113 (by decide) ?_
                  refine lv_iload hx hb dX1_run_24 (lv_at hl 0 rfl) ?_
                  refine lv_if_eq (tgt := 116) hx hb dX1_run_26 (by decide) (fun c_83 => ?_) (fun c_83 => ?_)
                  · have c_83 : 0 = 0 := (nI_eq (a := 0) (b := 0) (by omega) (by omega)).mp c_83
                    refine lv_iload_n hx hb dX1_run_116 rfl (lv_at hl 1 rfl) ?_
                    have hP9 : va_P (dC, dI) vwCl (mw g0 g1 g2 cA (tb, n, kb, ln, rd, fp, (sg (z + 1)), (nI (mf z)), (nI (bf z)))) H := hP
                    have hD9 : va_D A (mw g0 g1 g2 cA (tb, n, kb, ln, rd, fp, (sg (z + 1)), (nI (mf z)), (nI (bf z)))) := hD
                    exact W.iret (v := nI nn) hx hb hr (fun t ht hW => ⟨⟨nI nn, (tb, n, kb, ln, rd, fp, (sg (z + 1)), (nI (mf z)), (nI (bf z))), rfl, ⟨by have hfit : ¬ mFit kd nn (nI (mf z)) = true := (by simp only [mFit, if_neg c_52, if_pos c_53, if_pos c_71, if_pos c_83, c_81]; exact (by decide)); rw [← hR, mRunL_s, if_neg hfit], _, _, _, rfl⟩, by rw [ht]; exact hP9, va_K.moved hW.alike hK, hD9⟩, hS.F ht⟩) hS.2.2 dX1_run_117
                  · exact absurd c_83 (by decide)
                · exact absurd (bI_n0 c_82) c_81
              · have c_81 := bI_n0 c_81
                refine lv_iload_n hx hb dX1_run_86 rfl (lv_at hl 2 rfl) ?_
                refine lv_iconst (v := 1) hx hb dX1_run_87 (by decide) ?_
                refine lv_iadd hx hb dX1_run_88 ?_
                refine lv_topi (fun x_84 ex_84 => ?_)
                obtain rfl : x_84 = nI (nn + 1) := ex_84.trans (nI_add nn 1)
                refine lv_goto (tgt := 93) hx hb dX1_run_89 (by decide) ?_
                refine lv_istore_n (lv' := [(3, .int (nI (nn + 1))), (5, .int (bI (mBeg (nI (mf z))))), (4, .int 1), (0, .ref g0), (1, .int kd), (2, .int (nI j))]) hx hb dX1_run_93 rfl hl (by decide) rfl (fun ls hl => ?_)
                refine lv_iload hx hb dX1_run_94 (lv_at hl 1 rfl) ?_
                refine lv_if_eq (tgt := 110) hx hb dX1_run_96 (by decide) (fun c_85 => ?_) (fun c_85 => ?_)
                · exact absurd c_81 (bI_0 c_85)
                · have c_85 := bI_n0 c_85
                  refine lv_aload_n hx hb dX1_run_99 rfl (lv_at hl 3 rfl) ?_
                  have hFc := va_free (wc := mw g0 g1 g2 cA (tb, n, kb, ln, rd, fp, (sg (z + 1)), (nI (mf z)), (nI (bf z)))) hD hS hA [0, 1, 2] rfl
                  obtain ⟨hgo, v_86, w_86, hsq, hmf, hbf, hsg⟩ := (hch hrd).2.1 (z + 1) hz
                  have hlt_86 := seqN_lt hkb hsq
                  refine va_calli (va_runV (As := []) (rest := []) ⟨hx, hb, hml, hown, hts⟩ (c_X1_next_some l dC dI g0 g1 g2 cA H.size tb n kb ln rd fp (sg (z + 1)) (nI (mf z)) (nI (bf z)) hkb hln (by omega) v_86 w_86 hgo hsq) (cwV 0 hts gX1_run_X1_next rfl rfl rfl (by decide +kernel) ⟨Nat.le_of_ble_eq_true rfl, Nat.le_of_ble_eq_true rfl⟩) ⟨mmut_blind, va_recv hK hP (ci := 1) (q0 := 0) rfl rfl, fun U hU hW => ⟨rfl, mmut_of hP hK hD hU hW⟩⟩ rfl rfl hl.1 rfl (lv_room (Nat.le_of_ble_eq_true rfl)) dX1_run_100 ⟨Nat.le_of_ble_eq_true rfl, Nat.le_of_ble_eq_true rfl⟩) hS (fun q _ h => hFc q h) hFc (fun r_86 u_86 t_86 H1 locs ht hvm hw hB hz1 hk1 hS => ?_)
                  obtain ⟨hw0, hw1⟩ := hw
                  rw [← hmf, ← hsg, ← hbf] at hw1
                  obtain rfl : r_86 = 1 := hw0
                  obtain rfl : u_86 = (tb, n, kb, ln, rd, fp, (sg ((z + 1) + 1)), (nI (mf (z + 1))), (nI (bf (z + 1)))) := hw1
                  obtain ⟨hP1, hK1, hD1⟩ := hB
                  rw [ht] at hP1
                  obtain ⟨hP, hD⟩ := va_join (wr := []) (w1 := mw g0 g1 g2 cA (tb, n, kb, ln, rd, fp, (sg ((z + 1) + 1)), (nI (mf (z + 1))), (nI (bf (z + 1))))) hP hD [0, 1, 2] [] rfl rfl (by decide) (by decide) hk1 hFc hP1 hD1
                  generalize H1 = H at hP hS ⊢
                  have hP : va_P (dC, dI) vwCl [(g0, .inr (1, [.ref g1, .int (nI n), .ref g2, .int (nI ln), .int (bI rd), .int fp, .int (nI (sg ((z + 1) + 1))), .int (nI (mf (z + 1))), .int (nI (bf (z + 1)))])), (g1, .inl (cA, 1000, .inl (fun j => nI (tb j)))), (g2, .inl (cA, 1000, .inl (fun j => nI (kb j))))] H := hP
                  have hD : va_D A [(g0, .inr (1, [.ref g1, .int (nI n), .ref g2, .int (nI ln), .int (bI rd), .int fp, .int (nI (sg ((z + 1) + 1))), .int (nI (mf (z + 1))), .int (nI (bf (z + 1)))])), (g1, .inl (cA, 1000, .inl (fun j => nI (tb j)))), (g2, .inl (cA, 1000, .inl (fun j => nI (kb j))))] := hD
                  refine lv_if_eq (tgt := 110) hx hb dX1_run_103 (by decide) (fun c_87 => ?_) (fun c_87 => ?_)
                  · exact absurd c_87 (by decide)
                  · have c_87 : ¬ 1 = 0 := fun zz => c_87 ((nI_eq (a := 1) (b := 0) (by omega) (by omega)).mpr zz)
                    refine lv_iconst (v := 1) hx hb dX1_run_106 (by decide) ?_
                    refine lv_goto (tgt := 111) hx hb dX1_run_107 (by decide) ?_
                    refine lv_istore (lv' := [(4, .int 1), (3, .int (nI (nn + 1))), (5, .int (bI (mBeg (nI (mf z))))), (0, .ref g0), (1, .int kd), (2, .int (nI j))]) hx hb dX1_run_111 hl (by decide) rfl (fun ls hl => ?_)
                    refine lv_goto (tgt := 24) hx hb dX1_run_113 (by decide) ?_
                    have hfit : mFit kd nn (nI (mf z)) = true := by simp only [mFit, if_neg c_52, if_pos c_53, if_pos c_71, if_neg c_87, c_81]
                    exact ih (z + 1) (nn + 1) H locs ls (by omega) (by omega) (by rw [← hR, mRunL_s (n := nn), if_pos hfit, if_pos hz]) hP hD hS (lv_sub hl [0, 1, 3, 4, 5] rfl)
    refine lv_iload_n hx hb dX1_run_0 rfl (lv_at hl 1 rfl) ?_
    refine lv_if_lt (tgt := 17) hx hb dX1_run_1 (by decide) (fun c_88 => ?_) (fun c_88 => ?_)
    · exact absurd c_88 h1
    · refine lv_iload_n hx hb dX1_run_4 rfl (lv_at hl 1 rfl) ?_
      refine lv_iconst (v := 2) hx hb dX1_run_5 (by decide) ?_
      refine lv_icmp_gt (tgt := 17) hx hb dX1_run_6 (by decide) (fun c_89 => ?_) (fun c_89 => ?_)
      · exact absurd c_89 h2
      · refine lv_aload_n hx hb dX1_run_9 rfl (lv_at hl 0 rfl) ?_
        refine lv_iload_n hx hb dX1_run_10 rfl (lv_at hl 2 rfl) ?_
        have hFc := va_free (wc := mw g0 g1 g2 cA (tb, n, kb, ln, rd, fp, st, mt, bg)) hD hS hA [0, 1, 2] rfl
        refine va_calli (va_runV (As := [.int (nI j)]) (rest := []) ⟨hx, hb, hml, hown, hts⟩ (c_X1_go_yes l dC dI g0 g1 g2 cA s.heap.size tb n kb ln rd fp st mt bg hkb hln k mf bf sg (hch hrd) j hj hk hrd) (cwV 1 hts gX1_run_X1_go rfl rfl rfl (by decide +kernel) ⟨Nat.le_of_ble_eq_true rfl, Nat.le_of_ble_eq_true rfl⟩) ⟨mmut_blind, va_recv hK hP (ci := 1) (q0 := 0) rfl rfl, fun U hU hW => ⟨rfl, mmut_of hP hK hD hU hW⟩⟩ rfl rfl hl.1 rfl (lv_room (Nat.le_of_ble_eq_true rfl)) dX1_run_11 ⟨Nat.le_of_ble_eq_true rfl, Nat.le_of_ble_eq_true rfl⟩) hS (fun q _ h => hFc q h) hFc (fun r_90 u_90 t_90 H1 locs ht hvm hw hB hz1 hk1 hS => ?_)
        obtain ⟨hw0, hw1⟩ := hw
        obtain rfl : r_90 = 1 := hw0
        obtain rfl : u_90 = (tb, n, kb, ln, rd, fp, (sg (j + 1)), (nI (mf j)), (nI (bf j))) := hw1
        obtain ⟨hP1, hK1, hD1⟩ := hB
        rw [ht] at hP1
        obtain ⟨hP, hD⟩ := va_join (wr := []) (w1 := mw g0 g1 g2 cA (tb, n, kb, ln, rd, fp, (sg (j + 1)), (nI (mf j)), (nI (bf j)))) hP hD [0, 1, 2] [] rfl rfl (by decide) (by decide) hk1 hFc hP1 hD1
        generalize H1 = H at hP hS ⊢
        have hP : va_P (dC, dI) vwCl [(g0, .inr (1, [.ref g1, .int (nI n), .ref g2, .int (nI ln), .int (bI rd), .int fp, .int (nI (sg (j + 1))), .int (nI (mf j)), .int (nI (bf j))])), (g1, .inl (cA, 1000, .inl (fun j => nI (tb j)))), (g2, .inl (cA, 1000, .inl (fun j => nI (kb j))))] H := hP
        have hD : va_D A [(g0, .inr (1, [.ref g1, .int (nI n), .ref g2, .int (nI ln), .int (bI rd), .int fp, .int (nI (sg (j + 1))), .int (nI (mf j)), .int (nI (bf j))])), (g1, .inl (cA, 1000, .inl (fun j => nI (tb j)))), (g2, .inl (cA, 1000, .inl (fun j => nI (kb j))))] := hD
        refine lv_if_ne (tgt := 19) hx hb dX1_run_14 (by decide) (fun c_91 => ?_) (fun c_91 => ?_)
        · have c_91 : ¬ 1 = 0 := fun zz => c_91 ((nI_eq (a := 1) (b := 0) (by omega) (by omega)).mpr zz)
          refine lv_iconst (v := 0) hx hb dX1_run_19 (by decide) ?_
          refine lv_istore_n (lv' := [(3, .int 0), (0, .ref g0), (1, .int kd), (2, .int (nI j))]) hx hb dX1_run_20 rfl hl (by decide) rfl (fun ls hl => ?_)
          refine lv_iconst (v := 1) hx hb dX1_run_21 (by decide) ?_
          refine lv_istore (lv' := [(4, .int 1), (3, .int 0), (0, .ref g0), (1, .int kd), (2, .int (nI j))]) hx hb dX1_run_22 hl (by decide) rfl (fun ls hl => ?_)
          exact loop (k - j - 1) j 0 H locs ls (by omega) (by omega) (by rw [hR0, show k - j - 1 + 1 = k - j by omega]) hP hD hS (lv_sub hl [0, 1, 2, 3, 4] rfl)
        · exact absurd c_91 (by decide)
