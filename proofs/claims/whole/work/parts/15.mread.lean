def cpN (kb tb : Nat → Nat) (i : Nat) : Nat → Nat := fun j => if j < i then tb j else kb j
theorem cpN_0 (kb tb : Nat → Nat) : cpN kb tb 0 = kb := by funext j; rw [cpN, if_neg (by omega)]
theorem cpN_s {kb tb : Nat → Nat} {i : Nat} : updN (cpN kb tb i) i (tb i) = cpN kb tb (i + 1) := by
  funext j
  by_cases h : j = i
  · rw [updN, if_pos h, cpN, if_pos (by omega), h]
  · rw [updN, if_neg h, cpN, cpN]
    by_cases h2 : j < i
    · rw [if_pos h2, if_pos (by omega)]
    · rw [if_neg h2, if_neg (by omega)]
theorem cpN_lt {kb tb : Nat → Nat} (htb : ∀ j, tb j < 256) (hkb : ∀ j, kb j < 256) (i : Nat) : ∀ j, cpN kb tb i j < 256 := by
  intro j
  rw [cpN]
  by_cases h : j < i
  · rw [if_pos h]; exact htb j
  · rw [if_neg h]; exact hkb j
def pass1 (kb : Nat → Nat) (ln : Nat) : Nat → Nat → Option (Int32 × Nat)
  | 0, _ => none
  | d + 1, st => if ln ≤ st then none else match seqN kb ln st with
    | none => some (-2, st)
    | some q => if mAll (nI q.1) then pass1 kb ln d (st + q.2) else some (-3, st)
theorem pass1_end {kb : Nat → Nat} {ln d st : Nat} (h : ln ≤ st) : pass1 kb ln d st = none := by
  cases d with
  | zero => rfl
  | succ d => rw [pass1, if_pos h]
theorem nxS_le (kb : Nat → Nat) (ln st v : Nat) (h : st ≤ ln) : nxS kb ln st v ≤ ln := by
  unfold nxS
  by_cases c1 : v = 13
  · rw [if_pos c1]
    by_cases c2 : ln ≤ st
    · rw [if_pos c2]; exact h
    · rw [if_neg c2]
      by_cases c3 : kb st = 10
      · rw [if_pos c3]; omega
      · rw [if_neg c3]; exact h
  · rw [if_neg c1]; exact h
theorem chain_sg {kb : Nat → Nat} {ln k : Nat} {mf bf sg : Nat → Nat} (hkb : ∀ j, kb j < 256) (h : Chain kb ln k mf bf sg) : ∀ j, j ≤ k → sg j ≤ ln := by
  intro j hj
  cases j with
  | zero => rw [h.1]; exact Nat.zero_le _
  | succ j =>
    obtain ⟨hgo, v, w, hs, -, -, hsg⟩ := h.2.1 j (by omega)
    have hl := seqN_lt hkb hs
    rw [hsg]
    exact nxS_le _ _ _ _ (by omega)
set_option maxHeartbeats 4000000 in
set_option maxRecDepth 100000 in
theorem c_X1_read_bad (l : Launch) (dC : Nat → ClassId) (dI : Nat → Nat → Nat) (g0 g1 g2 : Nat) (cA : ClassId) (sz : Nat) (tb : Nat → Nat) (n : Nat) (kb : Nat → Nat) (ln : Nat) (rd : Bool) (fp : Int32) (st : Nat) (mt bg : Int32) (htb : ∀ j, tb j < 256) (hkb : ∀ j, kb j < 256) (hln : n ≤ 1000) (cd : Int32) (pla : Nat) (hp : pass1 (cpN kb tb n) n n 0 = some (cd, pla)) : Met l yX1_read wsX1_read ({ frames := 3, cells := 0, slots := 0, locals := 66 }) (va_Pc [.ref g0] (fun U => mmut dC dI g0 g1 g2 cA sz (tb, n, kb, ln, rd, fp, st, mt, bg) U)) (va_Qi (fun (r : Int32) (u : MS) => r = cd ∧ ∃ (st' : Nat), u = (tb, 0, cpN kb tb n, n, false, nI pla, st', mt, bg)) (matt dC dI g0 g1 g2 cA (va_A (mw g0 g1 g2 cA (tb, n, kb, ln, rd, fp, st, mt, bg)) sz)) (va_A (mw g0 g1 g2 cA (tb, n, kb, ln, rd, fp, st, mt, bg)) sz)) 0 0 (va_A (mw g0 g1 g2 cA (tb, n, kb, ln, rd, fp, st, mt, bg)) sz) := by
  refine Met.ofW (cc := cX1_read) (maxL := 2) (ret := (some .int)) (by decide) rfl ?_
  intro p e s m args below meth c s₁ B hml hv
  obtain ⟨rfl, hsz, hP, hK, hD0⟩ := hv
  have hx := B.exec
  have hb := B.bytes
  have hr := B.returns
  have hts := atoms_spec (ws := wsX1_read) B.pre
  have hown : s.vm.findClass RX1 = some m.cls := findClass_of_methodNamed B.named
  subst hsz
  have hD := hD0.self (sz := s.heap.size)
  generalize hAe : va_A (mw g0 g1 g2 cA (tb, n, kb, ln, rd, fp, st, mt, bg)) s.heap.size = A at hD ⊢
  have hA : ∀ q : Nat, s.heap.size ≤ q → A q := fun q h => by rw [← hAe]; exact Or.inr h
  have hS : va_S A s.heap s.heap [] := va_S.rf
  have hP : va_P (dC, dI) vwCl [(g0, .inr (1, [.ref g1, .int (nI n), .ref g2, .int (nI ln), .int (bI rd), .int fp, .int (nI st), .int mt, .int bg])), (g1, .inl (cA, 1000, .inl (fun j => nI (tb j)))), (g2, .inl (cA, 1000, .inl (fun j => nI (kb j))))] s.heap := hP
  have hD : va_D A [(g0, .inr (1, [.ref g1, .int (nI n), .ref g2, .int (nI ln), .int (bI rd), .int fp, .int (nI st), .int mt, .int bg])), (g1, .inl (cA, 1000, .inl (fun j => nI (tb j)))), (g2, .inl (cA, 1000, .inl (fun j => nI (kb j))))] := hD
  have hIn : ∀ w ∈ wsX10, w ∈ wsX1_read := by decide +kernel
  have hl := lv_entry ([.ref g0]) (n := 2) (Nat.le_of_ble_eq_true rfl)
  rw [lg_entry_eq]
  generalize (lg_sl ([.ref g0]) ++ List.replicate (2 - (lg_sl ([.ref g0])).length) Slot.unset).toArray = ls at hl ⊢
  have hl : lv_has ls 2 [(0, .ref g0)] := hl
  have hkc := cpN_lt htb hkb n
  have loop2 : ∀ (d st2 : Nat) (fp2 : Int32) (H : Heap) (locs : List Loc) (ls : Array Slot), n ≤ st2 + d → st2 ≤ n → pass1 (cpN kb tb n) n d st2 = some (cd, pla) → va_P (dC, dI) vwCl [(g0, .inr (1, [.ref g1, .int (nI 0), .ref g2, .int (nI n), .int (bI false), .int fp2, .int (nI st2), .int mt, .int bg])), (g1, .inl (cA, 1000, .inl (fun j => nI (tb j)))), (g2, .inl (cA, 1000, .inl (fun j => nI ((cpN kb tb n) j))))] H → va_D A [(g0, .inr (1, [.ref g1, .int (nI 0), .ref g2, .int (nI n), .int (bI false), .int fp2, .int (nI st2), .int mt, .int bg])), (g1, .inl (cA, 1000, .inl (fun j => nI (tb j)))), (g2, .inl (cA, 1000, .inl (fun j => nI ((cpN kb tb n) j))))] → va_S A s.heap H locs → lv_has ls 2 [(0, .ref g0)] → W p l e (headSpec wsX1_read ({ frames := 3, cells := 0, slots := 0, locals := 66 })).room s m ([.ref g0] : List Value).toArray below meth c H locs 0 0 (MQ below (va_Qi (fun (r : Int32) (u : MS) => r = cd ∧ ∃ (st' : Nat), u = (tb, 0, cpN kb tb n, n, false, nI pla, st', mt, bg)) (matt dC dI g0 g1 g2 cA A) A) ([.ref g0] : List Value).toArray s 0 0 A) (F0 m 51 ls []) := by
    intro d
    induction d with
    | zero =>
      intro st2 fp2 H locs ls hd hst2 hpp hP hD hS hl
      refine lv_aload_n hx hb dX1_read_51 rfl (lv_at hl 0 rfl) ?_
      refine va_get (D := (dC, dI)) (ci := 1) (v := .int (nI st2)) (C := RX1) (T := TX1) (N := 9) hx hb hts hIn hown hK hP 0 rfl rfl 6 (by decide) (hts (.fieldLink RX1 41 RX1 "stand" "I") (by decide +kernel)) (fun _ h9 => h9) rfl dX1_read_52 ?_
      refine lv_aload_n hx hb dX1_read_55 rfl (lv_at hl 0 rfl) ?_
      refine va_get (D := (dC, dI)) (ci := 1) (v := .int (nI n)) (C := RX1) (T := TX1) (N := 9) hx hb hts hIn hown hK hP 0 rfl rfl 3 (by decide) (hts (.fieldLink RX1 44 RX1 "length" "I") (by decide +kernel)) (fun _ h9 => h9) rfl dX1_read_56 ?_
      refine lv_icmp_ge (tgt := 95) hx hb dX1_read_59 (by decide) (fun c_1 => ?_) (fun c_1 => ?_)
      · have c_1 : n ≤ st2 := (nI_leI (a := n) (b := st2) (by omega) (by omega)).mp c_1
        exact absurd hpp (by rw [pass1_end (by omega)]; simp)
      · exact absurd (nI_le (by omega) (by omega)) c_1
    | succ d ih =>
      intro st2 fp2 H locs ls hd hst2 hpp hP hD hS hl
      refine lv_aload_n hx hb dX1_read_51 rfl (lv_at hl 0 rfl) ?_
      refine va_get (D := (dC, dI)) (ci := 1) (v := .int (nI st2)) (C := RX1) (T := TX1) (N := 9) hx hb hts hIn hown hK hP 0 rfl rfl 6 (by decide) (hts (.fieldLink RX1 41 RX1 "stand" "I") (by decide +kernel)) (fun _ h9 => h9) rfl dX1_read_52 ?_
      refine lv_aload_n hx hb dX1_read_55 rfl (lv_at hl 0 rfl) ?_
      refine va_get (D := (dC, dI)) (ci := 1) (v := .int (nI n)) (C := RX1) (T := TX1) (N := 9) hx hb hts hIn hown hK hP 0 rfl rfl 3 (by decide) (hts (.fieldLink RX1 44 RX1 "length" "I") (by decide +kernel)) (fun _ h9 => h9) rfl dX1_read_56 ?_
      refine lv_icmp_ge (tgt := 95) hx hb dX1_read_59 (by decide) (fun c_2 => ?_) (fun c_2 => ?_)
      · have c_2 : n ≤ st2 := (nI_leI (a := n) (b := st2) (by omega) (by omega)).mp c_2
        exact absurd hpp (by rw [pass1_end (by omega)]; simp)
      · have c_2 : ¬ n ≤ st2 := fun zz => c_2 ((nI_leI (a := n) (b := st2) (by omega) (by omega)).mpr zz)
        refine lv_aload_n hx hb dX1_read_62 rfl (lv_at hl 0 rfl) ?_
        refine lv_aload_n hx hb dX1_read_63 rfl (lv_at hl 0 rfl) ?_
        refine va_get (D := (dC, dI)) (ci := 1) (v := .int (nI st2)) (C := RX1) (T := TX1) (N := 9) hx hb hts hIn hown hK hP 0 rfl rfl 6 (by decide) (hts (.fieldLink RX1 41 RX1 "stand" "I") (by decide +kernel)) (fun _ h9 => h9) rfl dX1_read_64 ?_
        refine va_put (D := (dC, dI)) (ci := 1) (v := .int (nI st2)) (ty := .int) (C := RX1) (T := TX1) (N := 9) hx hb hts hIn tyX1 tyX1_ok nmX1 hown hK hP hD hS 0 rfl rfl 5 (by decide) (hts (.fieldLink RX1 16 RX1 "place" "I") (by decide +kernel)) (fun _ h9 => h9) rfl (by decide +kernel) rfl rfl (Nat.le_of_ble_eq_true rfl) dX1_read_67 (fun H locs hP hD hS => ?_)
        have hP : va_P (dC, dI) vwCl [(g0, .inr (1, [.ref g1, .int (nI 0), .ref g2, .int (nI n), .int (bI false), .int (nI st2), .int (nI st2), .int mt, .int bg])), (g1, .inl (cA, 1000, .inl (fun j => nI (tb j)))), (g2, .inl (cA, 1000, .inl (fun j => nI ((cpN kb tb n) j))))] H := hP
        have hD : va_D A [(g0, .inr (1, [.ref g1, .int (nI 0), .ref g2, .int (nI n), .int (bI false), .int (nI st2), .int (nI st2), .int mt, .int bg])), (g1, .inl (cA, 1000, .inl (fun j => nI (tb j)))), (g2, .inl (cA, 1000, .inl (fun j => nI ((cpN kb tb n) j))))] := hD
        have hlt2 : st2 < n := by omega
        cases hsq : seqN (cpN kb tb n) n st2 with
        | none =>
          refine lv_aload_n hx hb dX1_read_70 rfl (lv_at hl 0 rfl) ?_
          have hFc := va_free (wc := mw g0 g1 g2 cA (tb, 0, (cpN kb tb n), n, false, (nI st2), st2, mt, bg)) hD hS hA [0, 1, 2] rfl
          refine va_calli (va_runV (As := []) (rest := []) ⟨hx, hb, hml, hown, hts⟩ (c_X1_sequence l dC dI g0 g1 g2 cA H.size tb 0 (cpN kb tb n) n false (nI st2) st2 mt bg hkc (by omega) hln) (cwV 0 hts gX1_read_X1_sequence rfl rfl rfl (by decide +kernel) ⟨Nat.le_of_ble_eq_true rfl, Nat.le_of_ble_eq_true rfl⟩) ⟨mmut_blind, va_recv hK hP (ci := 1) (q0 := 0) rfl rfl, fun U hU hW => ⟨rfl, mmut_of hP hK hD hU hW⟩⟩ rfl rfl hl.1 rfl (lv_room (Nat.le_of_ble_eq_true rfl)) dX1_read_71 ⟨Nat.le_of_ble_eq_true rfl, Nat.le_of_ble_eq_true rfl⟩) hS (fun q _ h => hFc q h) hFc (fun r_3 u_3 t_3 H1 locs ht hvm hw hB hz1 hk1 hS => ?_)
          obtain ⟨hw0, hw1⟩ := hw
          rw [hsq] at hw0 hw1
          obtain rfl : r_3 = (-1) := hw0
          obtain rfl : u_3 = (tb, 0, (cpN kb tb n), n, false, (nI st2), st2, mt, bg) := hw1
          obtain ⟨hP1, hK1, hD1⟩ := hB
          rw [ht] at hP1
          obtain ⟨hP, hD⟩ := va_join (wr := []) (w1 := mw g0 g1 g2 cA (tb, 0, (cpN kb tb n), n, false, (nI st2), st2, mt, bg)) hP hD [0, 1, 2] [] rfl rfl (by decide) (by decide) hk1 hFc hP1 hD1
          generalize H1 = H at hP hS ⊢
          have hP : va_P (dC, dI) vwCl [(g0, .inr (1, [.ref g1, .int (nI 0), .ref g2, .int (nI n), .int (bI false), .int (nI st2), .int (nI st2), .int mt, .int bg])), (g1, .inl (cA, 1000, .inl (fun j => nI (tb j)))), (g2, .inl (cA, 1000, .inl (fun j => nI ((cpN kb tb n) j))))] H := hP
          have hD : va_D A [(g0, .inr (1, [.ref g1, .int (nI 0), .ref g2, .int (nI n), .int (bI false), .int (nI st2), .int (nI st2), .int mt, .int bg])), (g1, .inl (cA, 1000, .inl (fun j => nI (tb j)))), (g2, .inl (cA, 1000, .inl (fun j => nI ((cpN kb tb n) j))))] := hD
          refine lv_istore_n (lv' := [(1, .int (-1)), (0, .ref g0)]) hx hb dX1_read_74 rfl hl (by decide) rfl (fun ls hl => ?_)
          refine lv_iload_n hx hb dX1_read_75 rfl (lv_at hl 0 rfl) ?_
          refine lv_if_ge (tgt := 82) hx hb dX1_read_76 (by decide) (fun c_4 => ?_) (fun c_4 => ?_)
          · exact absurd c_4 (by decide)
          · refine lv_bipush (v := -2) hx hb dX1_read_79 (by decide) ?_
            have hP9 : va_P (dC, dI) vwCl (mw g0 g1 g2 cA (tb, 0, (cpN kb tb n), n, false, (nI st2), st2, mt, bg)) H := hP
            have hD9 : va_D A (mw g0 g1 g2 cA (tb, 0, (cpN kb tb n), n, false, (nI st2), st2, mt, bg)) := hD
            exact W.iret (v := (-2)) hx hb hr (fun t ht hW => ⟨⟨(-2), (tb, 0, (cpN kb tb n), n, false, (nI st2), st2, mt, bg), rfl, (by rw [pass1, if_neg (by omega), hsq] at hpp; have e9 := Prod.mk.inj (Option.some.inj hpp); exact ⟨e9.1, _, by rw [e9.2]⟩), by rw [ht]; exact hP9, va_K.moved hW.alike hK, hD9⟩, hS.F ht⟩) hS.2.2 dX1_read_81
        | some qq =>
          obtain ⟨v, wd⟩ := qq
          obtain ⟨hv1, hw1', hw4, hsw⟩ := seqN_lt hkc hsq
          refine lv_aload_n hx hb dX1_read_70 rfl (lv_at hl 0 rfl) ?_
          have hFc := va_free (wc := mw g0 g1 g2 cA (tb, 0, (cpN kb tb n), n, false, (nI st2), st2, mt, bg)) hD hS hA [0, 1, 2] rfl
          refine va_calli (va_runV (As := []) (rest := []) ⟨hx, hb, hml, hown, hts⟩ (c_X1_sequence l dC dI g0 g1 g2 cA H.size tb 0 (cpN kb tb n) n false (nI st2) st2 mt bg hkc (by omega) hln) (cwV 0 hts gX1_read_X1_sequence rfl rfl rfl (by decide +kernel) ⟨Nat.le_of_ble_eq_true rfl, Nat.le_of_ble_eq_true rfl⟩) ⟨mmut_blind, va_recv hK hP (ci := 1) (q0 := 0) rfl rfl, fun U hU hW => ⟨rfl, mmut_of hP hK hD hU hW⟩⟩ rfl rfl hl.1 rfl (lv_room (Nat.le_of_ble_eq_true rfl)) dX1_read_71 ⟨Nat.le_of_ble_eq_true rfl, Nat.le_of_ble_eq_true rfl⟩) hS (fun q _ h => hFc q h) hFc (fun r_5 u_5 t_5 H1 locs ht hvm hw hB hz1 hk1 hS => ?_)
          obtain ⟨hw0, hw1⟩ := hw
          rw [hsq] at hw0 hw1
          obtain rfl : r_5 = nI v := hw0
          obtain rfl : u_5 = (tb, 0, (cpN kb tb n), n, false, (nI st2), (st2 + wd), mt, bg) := hw1
          obtain ⟨hP1, hK1, hD1⟩ := hB
          rw [ht] at hP1
          obtain ⟨hP, hD⟩ := va_join (wr := []) (w1 := mw g0 g1 g2 cA (tb, 0, (cpN kb tb n), n, false, (nI st2), (st2 + wd), mt, bg)) hP hD [0, 1, 2] [] rfl rfl (by decide) (by decide) hk1 hFc hP1 hD1
          generalize H1 = H at hP hS ⊢
          have hP : va_P (dC, dI) vwCl [(g0, .inr (1, [.ref g1, .int (nI 0), .ref g2, .int (nI n), .int (bI false), .int (nI st2), .int (nI (st2 + wd)), .int mt, .int bg])), (g1, .inl (cA, 1000, .inl (fun j => nI (tb j)))), (g2, .inl (cA, 1000, .inl (fun j => nI ((cpN kb tb n) j))))] H := hP
          have hD : va_D A [(g0, .inr (1, [.ref g1, .int (nI 0), .ref g2, .int (nI n), .int (bI false), .int (nI st2), .int (nI (st2 + wd)), .int mt, .int bg])), (g1, .inl (cA, 1000, .inl (fun j => nI (tb j)))), (g2, .inl (cA, 1000, .inl (fun j => nI ((cpN kb tb n) j))))] := hD
          refine lv_istore_n (lv' := [(1, .int (nI v)), (0, .ref g0)]) hx hb dX1_read_74 rfl hl (by decide) rfl (fun ls hl => ?_)
          refine lv_iload_n hx hb dX1_read_75 rfl (lv_at hl 0 rfl) ?_
          refine lv_if_ge (tgt := 82) hx hb dX1_read_76 (by decide) (fun c_6 => ?_) (fun c_6 => ?_)
          · have c_6 : 0 ≤ v := (nI_leI (a := 0) (b := v) (by omega) (by omega)).mp c_6
            refine lv_iload_n hx hb dX1_read_82 rfl (lv_at hl 0 rfl) ?_
            refine vp_callSi (W.runS (As := [.int (nI v)]) (rest := []) ⟨hx, hb, hml, hown, hts⟩ (c_X1_isAllowed l (nI v)) (va_cwS 1 hts gX1_read_X1_isAllowed rfl rfl rfl (by decide +kernel) ⟨Nat.le_of_ble_eq_true rfl, Nat.le_of_ble_eq_true rfl⟩) ⟨fun _ _ _ _ q => q, fun U hU hW => ⟨rfl, trivial⟩⟩ rfl rfl hl.1 rfl (lv_room (Nat.le_of_ble_eq_true rfl)) dX1_read_83 ⟨Nat.le_of_ble_eq_true rfl, Nat.le_of_ble_eq_true rfl⟩) (fun r_7 er_7 => ?_)
            obtain rfl : r_7 = bI (mAll (nI v)) := er_7
            refine lv_if_ne (tgt := 92) hx hb dX1_read_86 (by decide) (fun c_8 => ?_) (fun c_8 => ?_)
            · have c_8 := bI_n0 c_8
              refine lv_goto (tgt := 51) hx hb dX1_read_92 (by decide) ?_
              have hp2 : pass1 (cpN kb tb n) n d (st2 + wd) = some (cd, pla) := by rw [← hpp, pass1, if_neg (by omega), hsq]; simp only [c_8, if_true]
              exact ih (st2 + wd) _ H locs ls (by omega) (by omega) hp2 hP hD hS (lv_sub hl [1] rfl)
            · have c_8 := bI_0 c_8
              refine lv_bipush (v := -3) hx hb dX1_read_89 (by decide) ?_
              have hP9 : va_P (dC, dI) vwCl (mw g0 g1 g2 cA (tb, 0, (cpN kb tb n), n, false, (nI st2), (st2 + wd), mt, bg)) H := hP
              have hD9 : va_D A (mw g0 g1 g2 cA (tb, 0, (cpN kb tb n), n, false, (nI st2), (st2 + wd), mt, bg)) := hD
              exact W.iret (v := (-3)) hx hb hr (fun t ht hW => ⟨⟨(-3), (tb, 0, (cpN kb tb n), n, false, (nI st2), (st2 + wd), mt, bg), rfl, (by rw [pass1, if_neg (by omega), hsq] at hpp; simp only [c_8] at hpp; have e9 := Prod.mk.inj (Option.some.inj hpp); exact ⟨e9.1, _, by rw [e9.2]⟩), by rw [ht]; exact hP9, va_K.moved hW.alike hK, hD9⟩, hS.F ht⟩) hS.2.2 dX1_read_91
          · exact absurd (nI_pos' (by omega)) c_6
  have loop1 : ∀ (d i : Nat) (H : Heap) (locs : List Loc) (ls : Array Slot), i + d = n → va_P (dC, dI) vwCl [(g0, .inr (1, [.ref g1, .int (nI 0), .ref g2, .int (nI n), .int (bI false), .int fp, .int (nI st), .int mt, .int bg])), (g1, .inl (cA, 1000, .inl (fun j => nI (tb j)))), (g2, .inl (cA, 1000, .inl (fun j => nI ((cpN kb tb i) j))))] H → va_D A [(g0, .inr (1, [.ref g1, .int (nI 0), .ref g2, .int (nI n), .int (bI false), .int fp, .int (nI st), .int mt, .int bg])), (g1, .inl (cA, 1000, .inl (fun j => nI (tb j)))), (g2, .inl (cA, 1000, .inl (fun j => nI ((cpN kb tb i) j))))] → va_S A s.heap H locs → lv_has ls 2 [(1, .int (nI i)), (0, .ref g0)] → W p l e (headSpec wsX1_read ({ frames := 3, cells := 0, slots := 0, locals := 66 })).room s m ([.ref g0] : List Value).toArray below meth c H locs 0 0 (MQ below (va_Qi (fun (r : Int32) (u : MS) => r = cd ∧ ∃ (st' : Nat), u = (tb, 0, cpN kb tb n, n, false, nI pla, st', mt, bg)) (matt dC dI g0 g1 g2 cA A) A) ([.ref g0] : List Value).toArray s 0 0 A) (F0 m 20 ls []) := by
    intro d
    induction d with
    | zero =>
      intro i H locs ls hid hP hD hS hl
      obtain rfl : i = n := by omega
      refine lv_iload_n hx hb dX1_read_20 rfl (lv_at hl 0 rfl) ?_
      refine lv_aload_n hx hb dX1_read_21 rfl (lv_at hl 1 rfl) ?_
      refine va_get (D := (dC, dI)) (ci := 1) (v := .int (nI i)) (C := RX1) (T := TX1) (N := 9) hx hb hts hIn hown hK hP 0 rfl rfl 3 (by decide) (hts (.fieldLink RX1 44 RX1 "length" "I") (by decide +kernel)) (fun _ h9 => h9) rfl dX1_read_22 ?_
      refine lv_icmp_ge (tgt := 46) hx hb dX1_read_25 (by decide) (fun c_9 => ?_) (fun c_9 => ?_)
      · have c_9 : i ≤ i := (nI_leI (a := i) (b := i) (by omega) (by omega)).mp c_9
        refine lv_aload_n hx hb dX1_read_46 rfl (lv_at hl 1 rfl) ?_
        refine lv_iconst (v := 0) hx hb dX1_read_47 (by decide) ?_
        refine va_put (D := (dC, dI)) (ci := 1) (v := .int 0) (ty := .int) (C := RX1) (T := TX1) (N := 9) hx hb hts hIn tyX1 tyX1_ok nmX1 hown hK hP hD hS 0 rfl rfl 6 (by decide) (hts (.fieldLink RX1 41 RX1 "stand" "I") (by decide +kernel)) (fun _ h9 => h9) rfl (by decide +kernel) rfl rfl (Nat.le_of_ble_eq_true rfl) dX1_read_48 (fun H locs hP hD hS => ?_)
        have hP : va_P (dC, dI) vwCl [(g0, .inr (1, [.ref g1, .int (nI 0), .ref g2, .int (nI i), .int (bI false), .int fp, .int 0, .int mt, .int bg])), (g1, .inl (cA, 1000, .inl (fun j => nI (tb j)))), (g2, .inl (cA, 1000, .inl (fun j => nI ((cpN kb tb i) j))))] H := hP
        have hD : va_D A [(g0, .inr (1, [.ref g1, .int (nI 0), .ref g2, .int (nI i), .int (bI false), .int fp, .int 0, .int mt, .int bg])), (g1, .inl (cA, 1000, .inl (fun j => nI (tb j)))), (g2, .inl (cA, 1000, .inl (fun j => nI ((cpN kb tb i) j))))] := hD
        exact loop2 i 0 fp H locs ls (by omega) (by omega) hp hP hD hS (lv_sub hl [1] rfl)
      · exact absurd (nI_le (by omega) (by omega)) c_9
    | succ d ih =>
      intro i H locs ls hid hP hD hS hl
      refine lv_iload_n hx hb dX1_read_20 rfl (lv_at hl 0 rfl) ?_
      refine lv_aload_n hx hb dX1_read_21 rfl (lv_at hl 1 rfl) ?_
      refine va_get (D := (dC, dI)) (ci := 1) (v := .int (nI n)) (C := RX1) (T := TX1) (N := 9) hx hb hts hIn hown hK hP 0 rfl rfl 3 (by decide) (hts (.fieldLink RX1 44 RX1 "length" "I") (by decide +kernel)) (fun _ h9 => h9) rfl dX1_read_22 ?_
      refine lv_icmp_ge (tgt := 46) hx hb dX1_read_25 (by decide) (fun c_10 => ?_) (fun c_10 => ?_)
      · exact absurd c_10 (nI_ge (by omega) (by omega))
      · have c_10 : ¬ n ≤ i := fun zz => c_10 ((nI_leI (a := n) (b := i) (by omega) (by omega)).mpr zz)
        refine lv_aload_n hx hb dX1_read_28 rfl (lv_at hl 1 rfl) ?_
        refine va_get (D := (dC, dI)) (ci := 1) (v := .ref g2) (C := RX1) (T := TX1) (N := 9) hx hb hts hIn hown hK hP 0 rfl rfl 2 (by decide) (hts (.fieldLink RX1 13 RX1 "kept" "[I") (by decide +kernel)) (fun _ h9 => h9) rfl dX1_read_29 ?_
        refine lv_iload_n hx hb dX1_read_32 rfl (lv_at hl 0 rfl) ?_
        refine lv_aload_n hx hb dX1_read_33 rfl (lv_at hl 1 rfl) ?_
        refine va_get (D := (dC, dI)) (ci := 1) (v := .ref g1) (C := RX1) (T := TX1) (N := 9) hx hb hts hIn hown hK hP 0 rfl rfl 0 (by decide) (hts (.fieldLink RX1 7 RX1 "text" "[I") (by decide +kernel)) (fun _ h9 => h9) rfl dX1_read_34 ?_
        refine lv_iload_n hx hb dX1_read_37 rfl (lv_at hl 0 rfl) ?_
        refine va_iald hx hb hK hP 1 0 rfl rfl (vp_in_nI (n := i) (by omega) (by omega)) dX1_read_38 ?_
        refine lv_topi (fun x_11 ex_11 => ?_)
        obtain rfl : x_11 = nI (tb i) := ex_11.trans (congrArg (fun j => nI (tb j)) ((nI_clamp (by omega))))
        refine va_iast hx hb hK hP hD hS 2 0 rfl rfl (vp_in_nI (by omega) (by omega)) dX1_read_39 (fun H locs hP hD hS => ?_)
        rw [nI_clamp (by omega), upd_nI] at hP hD
        have hP : va_P (dC, dI) vwCl [(g0, .inr (1, [.ref g1, .int (nI 0), .ref g2, .int (nI n), .int (bI false), .int fp, .int (nI st), .int mt, .int bg])), (g1, .inl (cA, 1000, .inl (fun j => nI (tb j)))), (g2, .inl (cA, 1000, .inl (fun j => nI ((updN (cpN kb tb i) i (tb i)) j))))] H := hP
        have hD : va_D A [(g0, .inr (1, [.ref g1, .int (nI 0), .ref g2, .int (nI n), .int (bI false), .int fp, .int (nI st), .int mt, .int bg])), (g1, .inl (cA, 1000, .inl (fun j => nI (tb j)))), (g2, .inl (cA, 1000, .inl (fun j => nI ((updN (cpN kb tb i) i (tb i)) j))))] := hD
        refine lv_iinc (v := nI (i + 1)) (lv' := [(1, .int (nI (i + 1))), (0, .ref g0)]) hx hb dX1_read_40 hl (k := 0) rfl (nI_1 i) (by decide) rfl (fun ls hl => ?_)
        refine lv_goto (tgt := 20) hx hb dX1_read_43 (by decide) ?_
        rw [cpN_s] at hP hD
        exact ih (i + 1) H locs ls (by omega) hP hD hS (lv_sub hl [0, 1] rfl)
  refine lv_aload_n hx hb dX1_read_0 rfl (lv_at hl 0 rfl) ?_
  refine lv_aload_n hx hb dX1_read_1 rfl (lv_at hl 0 rfl) ?_
  refine va_get (D := (dC, dI)) (ci := 1) (v := .int (nI n)) (C := RX1) (T := TX1) (N := 9) hx hb hts hIn hown hK hP 0 rfl rfl 1 (by decide) (hts (.fieldLink RX1 20 RX1 "size" "I") (by decide +kernel)) (fun _ h9 => h9) rfl dX1_read_2 ?_
  refine va_put (D := (dC, dI)) (ci := 1) (v := .int (nI n)) (ty := .int) (C := RX1) (T := TX1) (N := 9) hx hb hts hIn tyX1 tyX1_ok nmX1 hown hK hP hD hS 0 rfl rfl 3 (by decide) (hts (.fieldLink RX1 44 RX1 "length" "I") (by decide +kernel)) (fun _ h9 => h9) rfl (by decide +kernel) rfl rfl (Nat.le_of_ble_eq_true rfl) dX1_read_5 (fun H locs hP hD hS => ?_)
  have hP : va_P (dC, dI) vwCl [(g0, .inr (1, [.ref g1, .int (nI n), .ref g2, .int (nI n), .int (bI rd), .int fp, .int (nI st), .int mt, .int bg])), (g1, .inl (cA, 1000, .inl (fun j => nI (tb j)))), (g2, .inl (cA, 1000, .inl (fun j => nI (kb j))))] H := hP
  have hD : va_D A [(g0, .inr (1, [.ref g1, .int (nI n), .ref g2, .int (nI n), .int (bI rd), .int fp, .int (nI st), .int mt, .int bg])), (g1, .inl (cA, 1000, .inl (fun j => nI (tb j)))), (g2, .inl (cA, 1000, .inl (fun j => nI (kb j))))] := hD
  refine lv_aload_n hx hb dX1_read_8 rfl (lv_at hl 0 rfl) ?_
  refine lv_iconst (v := 0) hx hb dX1_read_9 (by decide) ?_
  refine va_put (D := (dC, dI)) (ci := 1) (v := .int 0) (ty := .int) (C := RX1) (T := TX1) (N := 9) hx hb hts hIn tyX1 tyX1_ok nmX1 hown hK hP hD hS 0 rfl rfl 1 (by decide) (hts (.fieldLink RX1 20 RX1 "size" "I") (by decide +kernel)) (fun _ h9 => h9) rfl (by decide +kernel) rfl rfl (Nat.le_of_ble_eq_true rfl) dX1_read_10 (fun H locs hP hD hS => ?_)
  have hP : va_P (dC, dI) vwCl [(g0, .inr (1, [.ref g1, .int 0, .ref g2, .int (nI n), .int (bI rd), .int fp, .int (nI st), .int mt, .int bg])), (g1, .inl (cA, 1000, .inl (fun j => nI (tb j)))), (g2, .inl (cA, 1000, .inl (fun j => nI (kb j))))] H := hP
  have hD : va_D A [(g0, .inr (1, [.ref g1, .int 0, .ref g2, .int (nI n), .int (bI rd), .int fp, .int (nI st), .int mt, .int bg])), (g1, .inl (cA, 1000, .inl (fun j => nI (tb j)))), (g2, .inl (cA, 1000, .inl (fun j => nI (kb j))))] := hD
  refine lv_aload_n hx hb dX1_read_13 rfl (lv_at hl 0 rfl) ?_
  refine lv_iconst (v := 0) hx hb dX1_read_14 (by decide) ?_
  refine va_put (D := (dC, dI)) (ci := 1) (v := .int 0) (ty := .boolean) (C := RX1) (T := TX1) (N := 9) hx hb hts hIn tyX1 tyX1_ok nmX1 hown hK hP hD hS 0 rfl rfl 4 (by decide) (hts (.fieldLink RX1 60 RX1 "read" "Z") (by decide +kernel)) (fun _ h9 => h9) rfl (by decide +kernel) rfl rfl (Nat.le_of_ble_eq_true rfl) dX1_read_15 (fun H locs hP hD hS => ?_)
  have hP : va_P (dC, dI) vwCl [(g0, .inr (1, [.ref g1, .int 0, .ref g2, .int (nI n), .int 0, .int fp, .int (nI st), .int mt, .int bg])), (g1, .inl (cA, 1000, .inl (fun j => nI (tb j)))), (g2, .inl (cA, 1000, .inl (fun j => nI (kb j))))] H := hP
  have hD : va_D A [(g0, .inr (1, [.ref g1, .int 0, .ref g2, .int (nI n), .int 0, .int fp, .int (nI st), .int mt, .int bg])), (g1, .inl (cA, 1000, .inl (fun j => nI (tb j)))), (g2, .inl (cA, 1000, .inl (fun j => nI (kb j))))] := hD
  refine lv_iconst (v := 0) hx hb dX1_read_18 (by decide) ?_
  refine lv_istore_n (lv' := [(1, .int 0), (0, .ref g0)]) hx hb dX1_read_19 rfl hl (by decide) rfl (fun ls hl => ?_)
  exact loop1 n 0 H locs ls (by omega) (by rw [cpN_0]; exact hP) (by rw [cpN_0]; exact hD) hS (lv_sub hl [0, 1] rfl)
set_option maxHeartbeats 4000000 in
set_option maxRecDepth 100000 in
theorem c_X1_read_ok (l : Launch) (dC : Nat → ClassId) (dI : Nat → Nat → Nat) (g0 g1 g2 : Nat) (cA : ClassId) (sz : Nat) (tb : Nat → Nat) (n : Nat) (kb : Nat → Nat) (ln : Nat) (rd : Bool) (fp : Int32) (st : Nat) (mt bg : Int32) (htb : ∀ j, tb j < 256) (hkb : ∀ j, kb j < 256) (hln : n ≤ 1000) (hp : pass1 (cpN kb tb n) n n 0 = none) (k : Nat) (hk : k ≤ 1000) (mf bf sg : Nat → Nat) (hch : Chain (cpN kb tb n) n k mf bf sg) : Met l yX1_read wsX1_read ({ frames := 3, cells := 0, slots := 0, locals := 66 }) (va_Pc [.ref g0] (fun U => mmut dC dI g0 g1 g2 cA sz (tb, n, kb, ln, rd, fp, st, mt, bg) U)) (va_Qi (fun (r : Int32) (u : MS) => r = nI k ∧ ∃ (st' : Nat) (mt' bg' : Int32), u = (tb, 0, cpN kb tb n, n, true, -1, st', mt', bg')) (matt dC dI g0 g1 g2 cA (va_A (mw g0 g1 g2 cA (tb, n, kb, ln, rd, fp, st, mt, bg)) sz)) (va_A (mw g0 g1 g2 cA (tb, n, kb, ln, rd, fp, st, mt, bg)) sz)) 0 0 (va_A (mw g0 g1 g2 cA (tb, n, kb, ln, rd, fp, st, mt, bg)) sz) := by
  refine Met.ofW (cc := cX1_read) (maxL := 2) (ret := (some .int)) (by decide) rfl ?_
  intro p e s m args below meth c s₁ B hml hv
  obtain ⟨rfl, hsz, hP, hK, hD0⟩ := hv
  have hx := B.exec
  have hb := B.bytes
  have hr := B.returns
  have hts := atoms_spec (ws := wsX1_read) B.pre
  have hown : s.vm.findClass RX1 = some m.cls := findClass_of_methodNamed B.named
  subst hsz
  have hD := hD0.self (sz := s.heap.size)
  generalize hAe : va_A (mw g0 g1 g2 cA (tb, n, kb, ln, rd, fp, st, mt, bg)) s.heap.size = A at hD ⊢
  have hA : ∀ q : Nat, s.heap.size ≤ q → A q := fun q h => by rw [← hAe]; exact Or.inr h
  have hS : va_S A s.heap s.heap [] := va_S.rf
  have hP : va_P (dC, dI) vwCl [(g0, .inr (1, [.ref g1, .int (nI n), .ref g2, .int (nI ln), .int (bI rd), .int fp, .int (nI st), .int mt, .int bg])), (g1, .inl (cA, 1000, .inl (fun j => nI (tb j)))), (g2, .inl (cA, 1000, .inl (fun j => nI (kb j))))] s.heap := hP
  have hD : va_D A [(g0, .inr (1, [.ref g1, .int (nI n), .ref g2, .int (nI ln), .int (bI rd), .int fp, .int (nI st), .int mt, .int bg])), (g1, .inl (cA, 1000, .inl (fun j => nI (tb j)))), (g2, .inl (cA, 1000, .inl (fun j => nI (kb j))))] := hD
  have hIn : ∀ w ∈ wsX10, w ∈ wsX1_read := by decide +kernel
  have hl := lv_entry ([.ref g0]) (n := 2) (Nat.le_of_ble_eq_true rfl)
  rw [lg_entry_eq]
  generalize (lg_sl ([.ref g0]) ++ List.replicate (2 - (lg_sl ([.ref g0])).length) Slot.unset).toArray = ls at hl ⊢
  have hl : lv_has ls 2 [(0, .ref g0)] := hl
  have hkc := cpN_lt htb hkb n
  have hsgb := chain_sg hkc hch
  have loop3 : ∀ (d q : Nat) (mt2 bg2 : Int32) (H : Heap) (locs : List Loc) (ls : Array Slot), q + d = k → va_P (dC, dI) vwCl [(g0, .inr (1, [.ref g1, .int (nI 0), .ref g2, .int (nI n), .int (bI true), .int (-1), .int (nI (sg q)), .int mt2, .int bg2])), (g1, .inl (cA, 1000, .inl (fun j => nI (tb j)))), (g2, .inl (cA, 1000, .inl (fun j => nI ((cpN kb tb n) j))))] H → va_D A [(g0, .inr (1, [.ref g1, .int (nI 0), .ref g2, .int (nI n), .int (bI true), .int (-1), .int (nI (sg q)), .int mt2, .int bg2])), (g1, .inl (cA, 1000, .inl (fun j => nI (tb j)))), (g2, .inl (cA, 1000, .inl (fun j => nI ((cpN kb tb n) j))))] → va_S A s.heap H locs → lv_has ls 2 [(1, .int (nI q)), (0, .ref g0)] → W p l e (headSpec wsX1_read ({ frames := 3, cells := 0, slots := 0, locals := 66 })).room s m ([.ref g0] : List Value).toArray below meth c H locs 0 0 (MQ below (va_Qi (fun (r : Int32) (u : MS) => r = nI k ∧ ∃ (st' : Nat) (mt' bg' : Int32), u = (tb, 0, cpN kb tb n, n, true, -1, st', mt', bg')) (matt dC dI g0 g1 g2 cA A) A) ([.ref g0] : List Value).toArray s 0 0 A) (F0 m 112 ls []) := by
    intro d
    induction d with
    | zero =>
      intro q mt2 bg2 H locs ls hqd hP hD hS hl
      have hsb := hsgb q (by omega)
      refine lv_aload_n hx hb dX1_read_112 rfl (lv_at hl 1 rfl) ?_
      have hFc := va_free (wc := mw g0 g1 g2 cA (tb, 0, (cpN kb tb n), n, true, (-1), (sg q), mt2, bg2)) hD hS hA [0, 1, 2] rfl
      refine va_calli (va_runV (As := []) (rest := []) ⟨hx, hb, hml, hown, hts⟩ (c_X1_next_end l dC dI g0 g1 g2 cA H.size tb 0 (cpN kb tb n) n true (-1) (sg q) mt2 bg2 hkc hln (by omega) (by rw [show q = k by omega]; exact hch.2.2)) (cwV 0 hts gX1_read_X1_next rfl rfl rfl (by decide +kernel) ⟨Nat.le_of_ble_eq_true rfl, Nat.le_of_ble_eq_true rfl⟩) ⟨mmut_blind, va_recv hK hP (ci := 1) (q0 := 0) rfl rfl, fun U hU hW => ⟨rfl, mmut_of hP hK hD hU hW⟩⟩ rfl rfl hl.1 rfl (lv_room (Nat.le_of_ble_eq_true rfl)) dX1_read_113 ⟨Nat.le_of_ble_eq_true rfl, Nat.le_of_ble_eq_true rfl⟩) hS (fun q _ h => hFc q h) hFc (fun r_1 u_1 t_1 H1 locs ht hvm hw hB hz1 hk1 hS => ?_)
      obtain ⟨hw0, hw1⟩ := hw
      obtain rfl : r_1 = 0 := hw0
      obtain rfl : u_1 = (tb, 0, (cpN kb tb n), n, true, (-1), (s0N (cpN kb tb n) n (sg q)), mt2, bg2) := hw1
      obtain ⟨hP1, hK1, hD1⟩ := hB
      rw [ht] at hP1
      obtain ⟨hP, hD⟩ := va_join (wr := []) (w1 := mw g0 g1 g2 cA (tb, 0, (cpN kb tb n), n, true, (-1), (s0N (cpN kb tb n) n (sg q)), mt2, bg2)) hP hD [0, 1, 2] [] rfl rfl (by decide) (by decide) hk1 hFc hP1 hD1
      generalize H1 = H at hP hS ⊢
      have hP : va_P (dC, dI) vwCl [(g0, .inr (1, [.ref g1, .int (nI 0), .ref g2, .int (nI n), .int (bI true), .int (-1), .int (nI (s0N (cpN kb tb n) n (sg q))), .int mt2, .int bg2])), (g1, .inl (cA, 1000, .inl (fun j => nI (tb j)))), (g2, .inl (cA, 1000, .inl (fun j => nI ((cpN kb tb n) j))))] H := hP
      have hD : va_D A [(g0, .inr (1, [.ref g1, .int (nI 0), .ref g2, .int (nI n), .int (bI true), .int (-1), .int (nI (s0N (cpN kb tb n) n (sg q))), .int mt2, .int bg2])), (g1, .inl (cA, 1000, .inl (fun j => nI (tb j)))), (g2, .inl (cA, 1000, .inl (fun j => nI ((cpN kb tb n) j))))] := hD
      refine lv_if_eq (tgt := 125) hx hb dX1_read_116 (by decide) (fun c_2 => ?_) (fun c_2 => ?_)
      · have c_2 : 0 = 0 := (nI_eq (a := 0) (b := 0) (by omega) (by omega)).mp c_2
        refine lv_iload_n hx hb dX1_read_125 rfl (lv_at hl 0 rfl) ?_
        have hP9 : va_P (dC, dI) vwCl (mw g0 g1 g2 cA (tb, 0, (cpN kb tb n), n, true, (-1), (s0N (cpN kb tb n) n (sg q)), mt2, bg2)) H := hP
        have hD9 : va_D A (mw g0 g1 g2 cA (tb, 0, (cpN kb tb n), n, true, (-1), (s0N (cpN kb tb n) n (sg q)), mt2, bg2)) := hD
        exact W.iret (v := nI q) hx hb hr (fun t ht hW => ⟨⟨nI q, (tb, 0, (cpN kb tb n), n, true, (-1), (s0N (cpN kb tb n) n (sg q)), mt2, bg2), rfl, ⟨by rw [show q = k by omega], _, _, _, rfl⟩, by rw [ht]; exact hP9, va_K.moved hW.alike hK, hD9⟩, hS.F ht⟩) hS.2.2 dX1_read_126
      · exact absurd c_2 (by decide)
    | succ d ih =>
      intro q mt2 bg2 H locs ls hqd hP hD hS hl
      have hsb := hsgb q (by omega)
      refine lv_aload_n hx hb dX1_read_112 rfl (lv_at hl 1 rfl) ?_
      have hFc := va_free (wc := mw g0 g1 g2 cA (tb, 0, (cpN kb tb n), n, true, (-1), (sg q), mt2, bg2)) hD hS hA [0, 1, 2] rfl
      obtain ⟨hgo, v_3, w_3, hsq, hmf, hbf, hsg⟩ := hch.2.1 q (by omega)
      have hlt_3 := seqN_lt hkc hsq
      refine va_calli (va_runV (As := []) (rest := []) ⟨hx, hb, hml, hown, hts⟩ (c_X1_next_some l dC dI g0 g1 g2 cA H.size tb 0 (cpN kb tb n) n true (-1) (sg q) mt2 bg2 hkc hln (by omega) v_3 w_3 hgo hsq) (cwV 0 hts gX1_read_X1_next rfl rfl rfl (by decide +kernel) ⟨Nat.le_of_ble_eq_true rfl, Nat.le_of_ble_eq_true rfl⟩) ⟨mmut_blind, va_recv hK hP (ci := 1) (q0 := 0) rfl rfl, fun U hU hW => ⟨rfl, mmut_of hP hK hD hU hW⟩⟩ rfl rfl hl.1 rfl (lv_room (Nat.le_of_ble_eq_true rfl)) dX1_read_113 ⟨Nat.le_of_ble_eq_true rfl, Nat.le_of_ble_eq_true rfl⟩) hS (fun q _ h => hFc q h) hFc (fun r_3 u_3 t_3 H1 locs ht hvm hw hB hz1 hk1 hS => ?_)
      obtain ⟨hw0, hw1⟩ := hw
      rw [← hmf, ← hsg, ← hbf] at hw1
      obtain rfl : r_3 = 1 := hw0
      obtain rfl : u_3 = (tb, 0, (cpN kb tb n), n, true, (-1), (sg (q + 1)), (nI (mf q)), (nI (bf q))) := hw1
      obtain ⟨hP1, hK1, hD1⟩ := hB
      rw [ht] at hP1
      obtain ⟨hP, hD⟩ := va_join (wr := []) (w1 := mw g0 g1 g2 cA (tb, 0, (cpN kb tb n), n, true, (-1), (sg (q + 1)), (nI (mf q)), (nI (bf q)))) hP hD [0, 1, 2] [] rfl rfl (by decide) (by decide) hk1 hFc hP1 hD1
      generalize H1 = H at hP hS ⊢
      have hP : va_P (dC, dI) vwCl [(g0, .inr (1, [.ref g1, .int (nI 0), .ref g2, .int (nI n), .int (bI true), .int (-1), .int (nI (sg (q + 1))), .int (nI (mf q)), .int (nI (bf q))])), (g1, .inl (cA, 1000, .inl (fun j => nI (tb j)))), (g2, .inl (cA, 1000, .inl (fun j => nI ((cpN kb tb n) j))))] H := hP
      have hD : va_D A [(g0, .inr (1, [.ref g1, .int (nI 0), .ref g2, .int (nI n), .int (bI true), .int (-1), .int (nI (sg (q + 1))), .int (nI (mf q)), .int (nI (bf q))])), (g1, .inl (cA, 1000, .inl (fun j => nI (tb j)))), (g2, .inl (cA, 1000, .inl (fun j => nI ((cpN kb tb n) j))))] := hD
      refine lv_if_eq (tgt := 125) hx hb dX1_read_116 (by decide) (fun c_4 => ?_) (fun c_4 => ?_)
      · exact absurd c_4 (by decide)
      · have c_4 : ¬ 1 = 0 := fun zz => c_4 ((nI_eq (a := 1) (b := 0) (by omega) (by omega)).mpr zz)
        refine lv_iinc (v := nI (q + 1)) (lv' := [(1, .int (nI (q + 1))), (0, .ref g0)]) hx hb dX1_read_119 hl (k := 0) rfl (nI_1 q) (by decide) rfl (fun ls hl => ?_)
        refine lv_goto (tgt := 112) hx hb dX1_read_122 (by decide) ?_
        exact ih (q + 1) _ _ H locs ls (by omega) hP hD hS (lv_sub hl [0, 1] rfl)
  have loop2 : ∀ (d st2 : Nat) (fp2 : Int32) (H : Heap) (locs : List Loc) (ls : Array Slot), n ≤ st2 + d → st2 ≤ n → pass1 (cpN kb tb n) n d st2 = none → va_P (dC, dI) vwCl [(g0, .inr (1, [.ref g1, .int (nI 0), .ref g2, .int (nI n), .int (bI false), .int fp2, .int (nI st2), .int mt, .int bg])), (g1, .inl (cA, 1000, .inl (fun j => nI (tb j)))), (g2, .inl (cA, 1000, .inl (fun j => nI ((cpN kb tb n) j))))] H → va_D A [(g0, .inr (1, [.ref g1, .int (nI 0), .ref g2, .int (nI n), .int (bI false), .int fp2, .int (nI st2), .int mt, .int bg])), (g1, .inl (cA, 1000, .inl (fun j => nI (tb j)))), (g2, .inl (cA, 1000, .inl (fun j => nI ((cpN kb tb n) j))))] → va_S A s.heap H locs → lv_has ls 2 [(0, .ref g0)] → W p l e (headSpec wsX1_read ({ frames := 3, cells := 0, slots := 0, locals := 66 })).room s m ([.ref g0] : List Value).toArray below meth c H locs 0 0 (MQ below (va_Qi (fun (r : Int32) (u : MS) => r = nI k ∧ ∃ (st' : Nat) (mt' bg' : Int32), u = (tb, 0, cpN kb tb n, n, true, -1, st', mt', bg')) (matt dC dI g0 g1 g2 cA A) A) ([.ref g0] : List Value).toArray s 0 0 A) (F0 m 51 ls []) := by
    intro d
    induction d with
    | zero =>
      intro st2 fp2 H locs ls hd hst2 hpp hP hD hS hl
      refine lv_aload_n hx hb dX1_read_51 rfl (lv_at hl 0 rfl) ?_
      refine va_get (D := (dC, dI)) (ci := 1) (v := .int (nI st2)) (C := RX1) (T := TX1) (N := 9) hx hb hts hIn hown hK hP 0 rfl rfl 6 (by decide) (hts (.fieldLink RX1 41 RX1 "stand" "I") (by decide +kernel)) (fun _ h9 => h9) rfl dX1_read_52 ?_
      refine lv_aload_n hx hb dX1_read_55 rfl (lv_at hl 0 rfl) ?_
      refine va_get (D := (dC, dI)) (ci := 1) (v := .int (nI n)) (C := RX1) (T := TX1) (N := 9) hx hb hts hIn hown hK hP 0 rfl rfl 3 (by decide) (hts (.fieldLink RX1 44 RX1 "length" "I") (by decide +kernel)) (fun _ h9 => h9) rfl dX1_read_56 ?_
      refine lv_icmp_ge (tgt := 95) hx hb dX1_read_59 (by decide) (fun c_5 => ?_) (fun c_5 => ?_)
      · have c_5 : n ≤ st2 := (nI_leI (a := n) (b := st2) (by omega) (by omega)).mp c_5
        refine lv_aload_n hx hb dX1_read_95 rfl (lv_at hl 0 rfl) ?_
        refine lv_iconst (v := -1) hx hb dX1_read_96 (by decide) ?_
        refine va_put (D := (dC, dI)) (ci := 1) (v := .int (-1)) (ty := .int) (C := RX1) (T := TX1) (N := 9) hx hb hts hIn tyX1 tyX1_ok nmX1 hown hK hP hD hS 0 rfl rfl 5 (by decide) (hts (.fieldLink RX1 16 RX1 "place" "I") (by decide +kernel)) (fun _ h9 => h9) rfl (by decide +kernel) rfl rfl (Nat.le_of_ble_eq_true rfl) dX1_read_97 (fun H locs hP hD hS => ?_)
        have hP : va_P (dC, dI) vwCl [(g0, .inr (1, [.ref g1, .int (nI 0), .ref g2, .int (nI n), .int (bI false), .int (-1), .int (nI st2), .int mt, .int bg])), (g1, .inl (cA, 1000, .inl (fun j => nI (tb j)))), (g2, .inl (cA, 1000, .inl (fun j => nI ((cpN kb tb n) j))))] H := hP
        have hD : va_D A [(g0, .inr (1, [.ref g1, .int (nI 0), .ref g2, .int (nI n), .int (bI false), .int (-1), .int (nI st2), .int mt, .int bg])), (g1, .inl (cA, 1000, .inl (fun j => nI (tb j)))), (g2, .inl (cA, 1000, .inl (fun j => nI ((cpN kb tb n) j))))] := hD
        refine lv_aload_n hx hb dX1_read_100 rfl (lv_at hl 0 rfl) ?_
        refine lv_iconst (v := 1) hx hb dX1_read_101 (by decide) ?_
        refine va_put (D := (dC, dI)) (ci := 1) (v := .int 1) (ty := .boolean) (C := RX1) (T := TX1) (N := 9) hx hb hts hIn tyX1 tyX1_ok nmX1 hown hK hP hD hS 0 rfl rfl 4 (by decide) (hts (.fieldLink RX1 60 RX1 "read" "Z") (by decide +kernel)) (fun _ h9 => h9) rfl (by decide +kernel) rfl rfl (Nat.le_of_ble_eq_true rfl) dX1_read_102 (fun H locs hP hD hS => ?_)
        have hP : va_P (dC, dI) vwCl [(g0, .inr (1, [.ref g1, .int (nI 0), .ref g2, .int (nI n), .int 1, .int (-1), .int (nI st2), .int mt, .int bg])), (g1, .inl (cA, 1000, .inl (fun j => nI (tb j)))), (g2, .inl (cA, 1000, .inl (fun j => nI ((cpN kb tb n) j))))] H := hP
        have hD : va_D A [(g0, .inr (1, [.ref g1, .int (nI 0), .ref g2, .int (nI n), .int 1, .int (-1), .int (nI st2), .int mt, .int bg])), (g1, .inl (cA, 1000, .inl (fun j => nI (tb j)))), (g2, .inl (cA, 1000, .inl (fun j => nI ((cpN kb tb n) j))))] := hD
        refine lv_iconst (v := 0) hx hb dX1_read_105 (by decide) ?_
        refine lv_istore_n (lv' := [(1, .int 0), (0, .ref g0)]) hx hb dX1_read_106 rfl hl (by decide) rfl (fun ls hl => ?_)
        refine lv_aload_n hx hb dX1_read_107 rfl (lv_at hl 1 rfl) ?_
        refine lv_iconst (v := 0) hx hb dX1_read_108 (by decide) ?_
        refine va_put (D := (dC, dI)) (ci := 1) (v := .int 0) (ty := .int) (C := RX1) (T := TX1) (N := 9) hx hb hts hIn tyX1 tyX1_ok nmX1 hown hK hP hD hS 0 rfl rfl 6 (by decide) (hts (.fieldLink RX1 41 RX1 "stand" "I") (by decide +kernel)) (fun _ h9 => h9) rfl (by decide +kernel) rfl rfl (Nat.le_of_ble_eq_true rfl) dX1_read_109 (fun H locs hP hD hS => ?_)
        have hP : va_P (dC, dI) vwCl [(g0, .inr (1, [.ref g1, .int (nI 0), .ref g2, .int (nI n), .int 1, .int (-1), .int 0, .int mt, .int bg])), (g1, .inl (cA, 1000, .inl (fun j => nI (tb j)))), (g2, .inl (cA, 1000, .inl (fun j => nI ((cpN kb tb n) j))))] H := hP
        have hD : va_D A [(g0, .inr (1, [.ref g1, .int (nI 0), .ref g2, .int (nI n), .int 1, .int (-1), .int 0, .int mt, .int bg])), (g1, .inl (cA, 1000, .inl (fun j => nI (tb j)))), (g2, .inl (cA, 1000, .inl (fun j => nI ((cpN kb tb n) j))))] := hD
        exact loop3 k 0 mt bg H locs ls (by omega) (by rw [hch.1]; exact hP) (by rw [hch.1]; exact hD) hS (lv_sub hl [0, 1] rfl)
      · exact absurd (nI_le (by omega) (by omega)) c_5
    | succ d ih =>
      intro st2 fp2 H locs ls hd hst2 hpp hP hD hS hl
      refine lv_aload_n hx hb dX1_read_51 rfl (lv_at hl 0 rfl) ?_
      refine va_get (D := (dC, dI)) (ci := 1) (v := .int (nI st2)) (C := RX1) (T := TX1) (N := 9) hx hb hts hIn hown hK hP 0 rfl rfl 6 (by decide) (hts (.fieldLink RX1 41 RX1 "stand" "I") (by decide +kernel)) (fun _ h9 => h9) rfl dX1_read_52 ?_
      refine lv_aload_n hx hb dX1_read_55 rfl (lv_at hl 0 rfl) ?_
      refine va_get (D := (dC, dI)) (ci := 1) (v := .int (nI n)) (C := RX1) (T := TX1) (N := 9) hx hb hts hIn hown hK hP 0 rfl rfl 3 (by decide) (hts (.fieldLink RX1 44 RX1 "length" "I") (by decide +kernel)) (fun _ h9 => h9) rfl dX1_read_56 ?_
      refine lv_icmp_ge (tgt := 95) hx hb dX1_read_59 (by decide) (fun c_6 => ?_) (fun c_6 => ?_)
      · have c_6 : n ≤ st2 := (nI_leI (a := n) (b := st2) (by omega) (by omega)).mp c_6
        refine lv_aload_n hx hb dX1_read_95 rfl (lv_at hl 0 rfl) ?_
        refine lv_iconst (v := -1) hx hb dX1_read_96 (by decide) ?_
        refine va_put (D := (dC, dI)) (ci := 1) (v := .int (-1)) (ty := .int) (C := RX1) (T := TX1) (N := 9) hx hb hts hIn tyX1 tyX1_ok nmX1 hown hK hP hD hS 0 rfl rfl 5 (by decide) (hts (.fieldLink RX1 16 RX1 "place" "I") (by decide +kernel)) (fun _ h9 => h9) rfl (by decide +kernel) rfl rfl (Nat.le_of_ble_eq_true rfl) dX1_read_97 (fun H locs hP hD hS => ?_)
        have hP : va_P (dC, dI) vwCl [(g0, .inr (1, [.ref g1, .int (nI 0), .ref g2, .int (nI n), .int (bI false), .int (-1), .int (nI st2), .int mt, .int bg])), (g1, .inl (cA, 1000, .inl (fun j => nI (tb j)))), (g2, .inl (cA, 1000, .inl (fun j => nI ((cpN kb tb n) j))))] H := hP
        have hD : va_D A [(g0, .inr (1, [.ref g1, .int (nI 0), .ref g2, .int (nI n), .int (bI false), .int (-1), .int (nI st2), .int mt, .int bg])), (g1, .inl (cA, 1000, .inl (fun j => nI (tb j)))), (g2, .inl (cA, 1000, .inl (fun j => nI ((cpN kb tb n) j))))] := hD
        refine lv_aload_n hx hb dX1_read_100 rfl (lv_at hl 0 rfl) ?_
        refine lv_iconst (v := 1) hx hb dX1_read_101 (by decide) ?_
        refine va_put (D := (dC, dI)) (ci := 1) (v := .int 1) (ty := .boolean) (C := RX1) (T := TX1) (N := 9) hx hb hts hIn tyX1 tyX1_ok nmX1 hown hK hP hD hS 0 rfl rfl 4 (by decide) (hts (.fieldLink RX1 60 RX1 "read" "Z") (by decide +kernel)) (fun _ h9 => h9) rfl (by decide +kernel) rfl rfl (Nat.le_of_ble_eq_true rfl) dX1_read_102 (fun H locs hP hD hS => ?_)
        have hP : va_P (dC, dI) vwCl [(g0, .inr (1, [.ref g1, .int (nI 0), .ref g2, .int (nI n), .int 1, .int (-1), .int (nI st2), .int mt, .int bg])), (g1, .inl (cA, 1000, .inl (fun j => nI (tb j)))), (g2, .inl (cA, 1000, .inl (fun j => nI ((cpN kb tb n) j))))] H := hP
        have hD : va_D A [(g0, .inr (1, [.ref g1, .int (nI 0), .ref g2, .int (nI n), .int 1, .int (-1), .int (nI st2), .int mt, .int bg])), (g1, .inl (cA, 1000, .inl (fun j => nI (tb j)))), (g2, .inl (cA, 1000, .inl (fun j => nI ((cpN kb tb n) j))))] := hD
        refine lv_iconst (v := 0) hx hb dX1_read_105 (by decide) ?_
        refine lv_istore_n (lv' := [(1, .int 0), (0, .ref g0)]) hx hb dX1_read_106 rfl hl (by decide) rfl (fun ls hl => ?_)
        refine lv_aload_n hx hb dX1_read_107 rfl (lv_at hl 1 rfl) ?_
        refine lv_iconst (v := 0) hx hb dX1_read_108 (by decide) ?_
        refine va_put (D := (dC, dI)) (ci := 1) (v := .int 0) (ty := .int) (C := RX1) (T := TX1) (N := 9) hx hb hts hIn tyX1 tyX1_ok nmX1 hown hK hP hD hS 0 rfl rfl 6 (by decide) (hts (.fieldLink RX1 41 RX1 "stand" "I") (by decide +kernel)) (fun _ h9 => h9) rfl (by decide +kernel) rfl rfl (Nat.le_of_ble_eq_true rfl) dX1_read_109 (fun H locs hP hD hS => ?_)
        have hP : va_P (dC, dI) vwCl [(g0, .inr (1, [.ref g1, .int (nI 0), .ref g2, .int (nI n), .int 1, .int (-1), .int 0, .int mt, .int bg])), (g1, .inl (cA, 1000, .inl (fun j => nI (tb j)))), (g2, .inl (cA, 1000, .inl (fun j => nI ((cpN kb tb n) j))))] H := hP
        have hD : va_D A [(g0, .inr (1, [.ref g1, .int (nI 0), .ref g2, .int (nI n), .int 1, .int (-1), .int 0, .int mt, .int bg])), (g1, .inl (cA, 1000, .inl (fun j => nI (tb j)))), (g2, .inl (cA, 1000, .inl (fun j => nI ((cpN kb tb n) j))))] := hD
        exact loop3 k 0 mt bg H locs ls (by omega) (by rw [hch.1]; exact hP) (by rw [hch.1]; exact hD) hS (lv_sub hl [0, 1] rfl)
      · have c_6 : ¬ n ≤ st2 := fun zz => c_6 ((nI_leI (a := n) (b := st2) (by omega) (by omega)).mpr zz)
        refine lv_aload_n hx hb dX1_read_62 rfl (lv_at hl 0 rfl) ?_
        refine lv_aload_n hx hb dX1_read_63 rfl (lv_at hl 0 rfl) ?_
        refine va_get (D := (dC, dI)) (ci := 1) (v := .int (nI st2)) (C := RX1) (T := TX1) (N := 9) hx hb hts hIn hown hK hP 0 rfl rfl 6 (by decide) (hts (.fieldLink RX1 41 RX1 "stand" "I") (by decide +kernel)) (fun _ h9 => h9) rfl dX1_read_64 ?_
        refine va_put (D := (dC, dI)) (ci := 1) (v := .int (nI st2)) (ty := .int) (C := RX1) (T := TX1) (N := 9) hx hb hts hIn tyX1 tyX1_ok nmX1 hown hK hP hD hS 0 rfl rfl 5 (by decide) (hts (.fieldLink RX1 16 RX1 "place" "I") (by decide +kernel)) (fun _ h9 => h9) rfl (by decide +kernel) rfl rfl (Nat.le_of_ble_eq_true rfl) dX1_read_67 (fun H locs hP hD hS => ?_)
        have hP : va_P (dC, dI) vwCl [(g0, .inr (1, [.ref g1, .int (nI 0), .ref g2, .int (nI n), .int (bI false), .int (nI st2), .int (nI st2), .int mt, .int bg])), (g1, .inl (cA, 1000, .inl (fun j => nI (tb j)))), (g2, .inl (cA, 1000, .inl (fun j => nI ((cpN kb tb n) j))))] H := hP
        have hD : va_D A [(g0, .inr (1, [.ref g1, .int (nI 0), .ref g2, .int (nI n), .int (bI false), .int (nI st2), .int (nI st2), .int mt, .int bg])), (g1, .inl (cA, 1000, .inl (fun j => nI (tb j)))), (g2, .inl (cA, 1000, .inl (fun j => nI ((cpN kb tb n) j))))] := hD
        have hlt2 : st2 < n := by omega
        cases hsq : seqN (cpN kb tb n) n st2 with
        | none =>
          refine lv_aload_n hx hb dX1_read_70 rfl (lv_at hl 0 rfl) ?_
          have hFc := va_free (wc := mw g0 g1 g2 cA (tb, 0, (cpN kb tb n), n, false, (nI st2), st2, mt, bg)) hD hS hA [0, 1, 2] rfl
          refine va_calli (va_runV (As := []) (rest := []) ⟨hx, hb, hml, hown, hts⟩ (c_X1_sequence l dC dI g0 g1 g2 cA H.size tb 0 (cpN kb tb n) n false (nI st2) st2 mt bg hkc (by omega) hln) (cwV 0 hts gX1_read_X1_sequence rfl rfl rfl (by decide +kernel) ⟨Nat.le_of_ble_eq_true rfl, Nat.le_of_ble_eq_true rfl⟩) ⟨mmut_blind, va_recv hK hP (ci := 1) (q0 := 0) rfl rfl, fun U hU hW => ⟨rfl, mmut_of hP hK hD hU hW⟩⟩ rfl rfl hl.1 rfl (lv_room (Nat.le_of_ble_eq_true rfl)) dX1_read_71 ⟨Nat.le_of_ble_eq_true rfl, Nat.le_of_ble_eq_true rfl⟩) hS (fun q _ h => hFc q h) hFc (fun r_7 u_7 t_7 H1 locs ht hvm hw hB hz1 hk1 hS => ?_)
          obtain ⟨hw0, hw1⟩ := hw
          rw [hsq] at hw0 hw1
          obtain rfl : r_7 = (-1) := hw0
          obtain rfl : u_7 = (tb, 0, (cpN kb tb n), n, false, (nI st2), st2, mt, bg) := hw1
          obtain ⟨hP1, hK1, hD1⟩ := hB
          rw [ht] at hP1
          obtain ⟨hP, hD⟩ := va_join (wr := []) (w1 := mw g0 g1 g2 cA (tb, 0, (cpN kb tb n), n, false, (nI st2), st2, mt, bg)) hP hD [0, 1, 2] [] rfl rfl (by decide) (by decide) hk1 hFc hP1 hD1
          generalize H1 = H at hP hS ⊢
          have hP : va_P (dC, dI) vwCl [(g0, .inr (1, [.ref g1, .int (nI 0), .ref g2, .int (nI n), .int (bI false), .int (nI st2), .int (nI st2), .int mt, .int bg])), (g1, .inl (cA, 1000, .inl (fun j => nI (tb j)))), (g2, .inl (cA, 1000, .inl (fun j => nI ((cpN kb tb n) j))))] H := hP
          have hD : va_D A [(g0, .inr (1, [.ref g1, .int (nI 0), .ref g2, .int (nI n), .int (bI false), .int (nI st2), .int (nI st2), .int mt, .int bg])), (g1, .inl (cA, 1000, .inl (fun j => nI (tb j)))), (g2, .inl (cA, 1000, .inl (fun j => nI ((cpN kb tb n) j))))] := hD
          refine lv_istore_n (lv' := [(1, .int (-1)), (0, .ref g0)]) hx hb dX1_read_74 rfl hl (by decide) rfl (fun ls hl => ?_)
          refine lv_iload_n hx hb dX1_read_75 rfl (lv_at hl 0 rfl) ?_
          refine lv_if_ge (tgt := 82) hx hb dX1_read_76 (by decide) (fun c_8 => ?_) (fun c_8 => ?_)
          · exact absurd c_8 (by decide)
          · refine lv_bipush (v := -2) hx hb dX1_read_79 (by decide) ?_
            have hP9 : va_P (dC, dI) vwCl (mw g0 g1 g2 cA (tb, 0, (cpN kb tb n), n, false, (nI st2), st2, mt, bg)) H := hP
            have hD9 : va_D A (mw g0 g1 g2 cA (tb, 0, (cpN kb tb n), n, false, (nI st2), st2, mt, bg)) := hD
            exact W.iret (v := (-2)) hx hb hr (fun t ht hW => ⟨⟨(-2), (tb, 0, (cpN kb tb n), n, false, (nI st2), st2, mt, bg), rfl, absurd hpp (by rw [pass1, if_neg (by omega), hsq]; simp), by rw [ht]; exact hP9, va_K.moved hW.alike hK, hD9⟩, hS.F ht⟩) hS.2.2 dX1_read_81
        | some qq =>
          obtain ⟨v, wd⟩ := qq
          obtain ⟨hv1, hw1', hw4, hsw⟩ := seqN_lt hkc hsq
          refine lv_aload_n hx hb dX1_read_70 rfl (lv_at hl 0 rfl) ?_
          have hFc := va_free (wc := mw g0 g1 g2 cA (tb, 0, (cpN kb tb n), n, false, (nI st2), st2, mt, bg)) hD hS hA [0, 1, 2] rfl
          refine va_calli (va_runV (As := []) (rest := []) ⟨hx, hb, hml, hown, hts⟩ (c_X1_sequence l dC dI g0 g1 g2 cA H.size tb 0 (cpN kb tb n) n false (nI st2) st2 mt bg hkc (by omega) hln) (cwV 0 hts gX1_read_X1_sequence rfl rfl rfl (by decide +kernel) ⟨Nat.le_of_ble_eq_true rfl, Nat.le_of_ble_eq_true rfl⟩) ⟨mmut_blind, va_recv hK hP (ci := 1) (q0 := 0) rfl rfl, fun U hU hW => ⟨rfl, mmut_of hP hK hD hU hW⟩⟩ rfl rfl hl.1 rfl (lv_room (Nat.le_of_ble_eq_true rfl)) dX1_read_71 ⟨Nat.le_of_ble_eq_true rfl, Nat.le_of_ble_eq_true rfl⟩) hS (fun q _ h => hFc q h) hFc (fun r_9 u_9 t_9 H1 locs ht hvm hw hB hz1 hk1 hS => ?_)
          obtain ⟨hw0, hw1⟩ := hw
          rw [hsq] at hw0 hw1
          obtain rfl : r_9 = nI v := hw0
          obtain rfl : u_9 = (tb, 0, (cpN kb tb n), n, false, (nI st2), (st2 + wd), mt, bg) := hw1
          obtain ⟨hP1, hK1, hD1⟩ := hB
          rw [ht] at hP1
          obtain ⟨hP, hD⟩ := va_join (wr := []) (w1 := mw g0 g1 g2 cA (tb, 0, (cpN kb tb n), n, false, (nI st2), (st2 + wd), mt, bg)) hP hD [0, 1, 2] [] rfl rfl (by decide) (by decide) hk1 hFc hP1 hD1
          generalize H1 = H at hP hS ⊢
          have hP : va_P (dC, dI) vwCl [(g0, .inr (1, [.ref g1, .int (nI 0), .ref g2, .int (nI n), .int (bI false), .int (nI st2), .int (nI (st2 + wd)), .int mt, .int bg])), (g1, .inl (cA, 1000, .inl (fun j => nI (tb j)))), (g2, .inl (cA, 1000, .inl (fun j => nI ((cpN kb tb n) j))))] H := hP
          have hD : va_D A [(g0, .inr (1, [.ref g1, .int (nI 0), .ref g2, .int (nI n), .int (bI false), .int (nI st2), .int (nI (st2 + wd)), .int mt, .int bg])), (g1, .inl (cA, 1000, .inl (fun j => nI (tb j)))), (g2, .inl (cA, 1000, .inl (fun j => nI ((cpN kb tb n) j))))] := hD
          refine lv_istore_n (lv' := [(1, .int (nI v)), (0, .ref g0)]) hx hb dX1_read_74 rfl hl (by decide) rfl (fun ls hl => ?_)
          refine lv_iload_n hx hb dX1_read_75 rfl (lv_at hl 0 rfl) ?_
          refine lv_if_ge (tgt := 82) hx hb dX1_read_76 (by decide) (fun c_10 => ?_) (fun c_10 => ?_)
          · have c_10 : 0 ≤ v := (nI_leI (a := 0) (b := v) (by omega) (by omega)).mp c_10
            refine lv_iload_n hx hb dX1_read_82 rfl (lv_at hl 0 rfl) ?_
            refine vp_callSi (W.runS (As := [.int (nI v)]) (rest := []) ⟨hx, hb, hml, hown, hts⟩ (c_X1_isAllowed l (nI v)) (va_cwS 1 hts gX1_read_X1_isAllowed rfl rfl rfl (by decide +kernel) ⟨Nat.le_of_ble_eq_true rfl, Nat.le_of_ble_eq_true rfl⟩) ⟨fun _ _ _ _ q => q, fun U hU hW => ⟨rfl, trivial⟩⟩ rfl rfl hl.1 rfl (lv_room (Nat.le_of_ble_eq_true rfl)) dX1_read_83 ⟨Nat.le_of_ble_eq_true rfl, Nat.le_of_ble_eq_true rfl⟩) (fun r_11 er_11 => ?_)
            obtain rfl : r_11 = bI (mAll (nI v)) := er_11
            refine lv_if_ne (tgt := 92) hx hb dX1_read_86 (by decide) (fun c_12 => ?_) (fun c_12 => ?_)
            · have c_12 := bI_n0 c_12
              refine lv_goto (tgt := 51) hx hb dX1_read_92 (by decide) ?_
              have hp2 : pass1 (cpN kb tb n) n d (st2 + wd) = none := by rw [← hpp, pass1, if_neg (by omega), hsq]; simp only [c_12, if_true]
              exact ih (st2 + wd) _ H locs ls (by omega) (by omega) hp2 hP hD hS (lv_sub hl [1] rfl)
            · have c_12 := bI_0 c_12
              refine lv_bipush (v := -3) hx hb dX1_read_89 (by decide) ?_
              have hP9 : va_P (dC, dI) vwCl (mw g0 g1 g2 cA (tb, 0, (cpN kb tb n), n, false, (nI st2), (st2 + wd), mt, bg)) H := hP
              have hD9 : va_D A (mw g0 g1 g2 cA (tb, 0, (cpN kb tb n), n, false, (nI st2), (st2 + wd), mt, bg)) := hD
              exact W.iret (v := (-3)) hx hb hr (fun t ht hW => ⟨⟨(-3), (tb, 0, (cpN kb tb n), n, false, (nI st2), (st2 + wd), mt, bg), rfl, absurd hpp (by rw [pass1, if_neg (by omega), hsq]; simp only [c_12]; simp), by rw [ht]; exact hP9, va_K.moved hW.alike hK, hD9⟩, hS.F ht⟩) hS.2.2 dX1_read_91
          · exact absurd (nI_pos' (by omega)) c_10
  have loop1 : ∀ (d i : Nat) (H : Heap) (locs : List Loc) (ls : Array Slot), i + d = n → va_P (dC, dI) vwCl [(g0, .inr (1, [.ref g1, .int (nI 0), .ref g2, .int (nI n), .int (bI false), .int fp, .int (nI st), .int mt, .int bg])), (g1, .inl (cA, 1000, .inl (fun j => nI (tb j)))), (g2, .inl (cA, 1000, .inl (fun j => nI ((cpN kb tb i) j))))] H → va_D A [(g0, .inr (1, [.ref g1, .int (nI 0), .ref g2, .int (nI n), .int (bI false), .int fp, .int (nI st), .int mt, .int bg])), (g1, .inl (cA, 1000, .inl (fun j => nI (tb j)))), (g2, .inl (cA, 1000, .inl (fun j => nI ((cpN kb tb i) j))))] → va_S A s.heap H locs → lv_has ls 2 [(1, .int (nI i)), (0, .ref g0)] → W p l e (headSpec wsX1_read ({ frames := 3, cells := 0, slots := 0, locals := 66 })).room s m ([.ref g0] : List Value).toArray below meth c H locs 0 0 (MQ below (va_Qi (fun (r : Int32) (u : MS) => r = nI k ∧ ∃ (st' : Nat) (mt' bg' : Int32), u = (tb, 0, cpN kb tb n, n, true, -1, st', mt', bg')) (matt dC dI g0 g1 g2 cA A) A) ([.ref g0] : List Value).toArray s 0 0 A) (F0 m 20 ls []) := by
    intro d
    induction d with
    | zero =>
      intro i H locs ls hid hP hD hS hl
      obtain rfl : i = n := by omega
      refine lv_iload_n hx hb dX1_read_20 rfl (lv_at hl 0 rfl) ?_
      refine lv_aload_n hx hb dX1_read_21 rfl (lv_at hl 1 rfl) ?_
      refine va_get (D := (dC, dI)) (ci := 1) (v := .int (nI i)) (C := RX1) (T := TX1) (N := 9) hx hb hts hIn hown hK hP 0 rfl rfl 3 (by decide) (hts (.fieldLink RX1 44 RX1 "length" "I") (by decide +kernel)) (fun _ h9 => h9) rfl dX1_read_22 ?_
      refine lv_icmp_ge (tgt := 46) hx hb dX1_read_25 (by decide) (fun c_13 => ?_) (fun c_13 => ?_)
      · have c_13 : i ≤ i := (nI_leI (a := i) (b := i) (by omega) (by omega)).mp c_13
        refine lv_aload_n hx hb dX1_read_46 rfl (lv_at hl 1 rfl) ?_
        refine lv_iconst (v := 0) hx hb dX1_read_47 (by decide) ?_
        refine va_put (D := (dC, dI)) (ci := 1) (v := .int 0) (ty := .int) (C := RX1) (T := TX1) (N := 9) hx hb hts hIn tyX1 tyX1_ok nmX1 hown hK hP hD hS 0 rfl rfl 6 (by decide) (hts (.fieldLink RX1 41 RX1 "stand" "I") (by decide +kernel)) (fun _ h9 => h9) rfl (by decide +kernel) rfl rfl (Nat.le_of_ble_eq_true rfl) dX1_read_48 (fun H locs hP hD hS => ?_)
        have hP : va_P (dC, dI) vwCl [(g0, .inr (1, [.ref g1, .int (nI 0), .ref g2, .int (nI i), .int (bI false), .int fp, .int 0, .int mt, .int bg])), (g1, .inl (cA, 1000, .inl (fun j => nI (tb j)))), (g2, .inl (cA, 1000, .inl (fun j => nI ((cpN kb tb i) j))))] H := hP
        have hD : va_D A [(g0, .inr (1, [.ref g1, .int (nI 0), .ref g2, .int (nI i), .int (bI false), .int fp, .int 0, .int mt, .int bg])), (g1, .inl (cA, 1000, .inl (fun j => nI (tb j)))), (g2, .inl (cA, 1000, .inl (fun j => nI ((cpN kb tb i) j))))] := hD
        exact loop2 i 0 fp H locs ls (by omega) (by omega) hp hP hD hS (lv_sub hl [1] rfl)
      · exact absurd (nI_le (by omega) (by omega)) c_13
    | succ d ih =>
      intro i H locs ls hid hP hD hS hl
      refine lv_iload_n hx hb dX1_read_20 rfl (lv_at hl 0 rfl) ?_
      refine lv_aload_n hx hb dX1_read_21 rfl (lv_at hl 1 rfl) ?_
      refine va_get (D := (dC, dI)) (ci := 1) (v := .int (nI n)) (C := RX1) (T := TX1) (N := 9) hx hb hts hIn hown hK hP 0 rfl rfl 3 (by decide) (hts (.fieldLink RX1 44 RX1 "length" "I") (by decide +kernel)) (fun _ h9 => h9) rfl dX1_read_22 ?_
      refine lv_icmp_ge (tgt := 46) hx hb dX1_read_25 (by decide) (fun c_14 => ?_) (fun c_14 => ?_)
      · exact absurd c_14 (nI_ge (by omega) (by omega))
      · have c_14 : ¬ n ≤ i := fun zz => c_14 ((nI_leI (a := n) (b := i) (by omega) (by omega)).mpr zz)
        refine lv_aload_n hx hb dX1_read_28 rfl (lv_at hl 1 rfl) ?_
        refine va_get (D := (dC, dI)) (ci := 1) (v := .ref g2) (C := RX1) (T := TX1) (N := 9) hx hb hts hIn hown hK hP 0 rfl rfl 2 (by decide) (hts (.fieldLink RX1 13 RX1 "kept" "[I") (by decide +kernel)) (fun _ h9 => h9) rfl dX1_read_29 ?_
        refine lv_iload_n hx hb dX1_read_32 rfl (lv_at hl 0 rfl) ?_
        refine lv_aload_n hx hb dX1_read_33 rfl (lv_at hl 1 rfl) ?_
        refine va_get (D := (dC, dI)) (ci := 1) (v := .ref g1) (C := RX1) (T := TX1) (N := 9) hx hb hts hIn hown hK hP 0 rfl rfl 0 (by decide) (hts (.fieldLink RX1 7 RX1 "text" "[I") (by decide +kernel)) (fun _ h9 => h9) rfl dX1_read_34 ?_
        refine lv_iload_n hx hb dX1_read_37 rfl (lv_at hl 0 rfl) ?_
        refine va_iald hx hb hK hP 1 0 rfl rfl (vp_in_nI (n := i) (by omega) (by omega)) dX1_read_38 ?_
        refine lv_topi (fun x_15 ex_15 => ?_)
        obtain rfl : x_15 = nI (tb i) := ex_15.trans (congrArg (fun j => nI (tb j)) ((nI_clamp (by omega))))
        refine va_iast hx hb hK hP hD hS 2 0 rfl rfl (vp_in_nI (by omega) (by omega)) dX1_read_39 (fun H locs hP hD hS => ?_)
        rw [nI_clamp (by omega), upd_nI] at hP hD
        have hP : va_P (dC, dI) vwCl [(g0, .inr (1, [.ref g1, .int (nI 0), .ref g2, .int (nI n), .int (bI false), .int fp, .int (nI st), .int mt, .int bg])), (g1, .inl (cA, 1000, .inl (fun j => nI (tb j)))), (g2, .inl (cA, 1000, .inl (fun j => nI ((updN (cpN kb tb i) i (tb i)) j))))] H := hP
        have hD : va_D A [(g0, .inr (1, [.ref g1, .int (nI 0), .ref g2, .int (nI n), .int (bI false), .int fp, .int (nI st), .int mt, .int bg])), (g1, .inl (cA, 1000, .inl (fun j => nI (tb j)))), (g2, .inl (cA, 1000, .inl (fun j => nI ((updN (cpN kb tb i) i (tb i)) j))))] := hD
        refine lv_iinc (v := nI (i + 1)) (lv' := [(1, .int (nI (i + 1))), (0, .ref g0)]) hx hb dX1_read_40 hl (k := 0) rfl (nI_1 i) (by decide) rfl (fun ls hl => ?_)
        refine lv_goto (tgt := 20) hx hb dX1_read_43 (by decide) ?_
        rw [cpN_s] at hP hD
        exact ih (i + 1) H locs ls (by omega) hP hD hS (lv_sub hl [0, 1] rfl)
  refine lv_aload_n hx hb dX1_read_0 rfl (lv_at hl 0 rfl) ?_
  refine lv_aload_n hx hb dX1_read_1 rfl (lv_at hl 0 rfl) ?_
  refine va_get (D := (dC, dI)) (ci := 1) (v := .int (nI n)) (C := RX1) (T := TX1) (N := 9) hx hb hts hIn hown hK hP 0 rfl rfl 1 (by decide) (hts (.fieldLink RX1 20 RX1 "size" "I") (by decide +kernel)) (fun _ h9 => h9) rfl dX1_read_2 ?_
  refine va_put (D := (dC, dI)) (ci := 1) (v := .int (nI n)) (ty := .int) (C := RX1) (T := TX1) (N := 9) hx hb hts hIn tyX1 tyX1_ok nmX1 hown hK hP hD hS 0 rfl rfl 3 (by decide) (hts (.fieldLink RX1 44 RX1 "length" "I") (by decide +kernel)) (fun _ h9 => h9) rfl (by decide +kernel) rfl rfl (Nat.le_of_ble_eq_true rfl) dX1_read_5 (fun H locs hP hD hS => ?_)
  have hP : va_P (dC, dI) vwCl [(g0, .inr (1, [.ref g1, .int (nI n), .ref g2, .int (nI n), .int (bI rd), .int fp, .int (nI st), .int mt, .int bg])), (g1, .inl (cA, 1000, .inl (fun j => nI (tb j)))), (g2, .inl (cA, 1000, .inl (fun j => nI (kb j))))] H := hP
  have hD : va_D A [(g0, .inr (1, [.ref g1, .int (nI n), .ref g2, .int (nI n), .int (bI rd), .int fp, .int (nI st), .int mt, .int bg])), (g1, .inl (cA, 1000, .inl (fun j => nI (tb j)))), (g2, .inl (cA, 1000, .inl (fun j => nI (kb j))))] := hD
  refine lv_aload_n hx hb dX1_read_8 rfl (lv_at hl 0 rfl) ?_
  refine lv_iconst (v := 0) hx hb dX1_read_9 (by decide) ?_
  refine va_put (D := (dC, dI)) (ci := 1) (v := .int 0) (ty := .int) (C := RX1) (T := TX1) (N := 9) hx hb hts hIn tyX1 tyX1_ok nmX1 hown hK hP hD hS 0 rfl rfl 1 (by decide) (hts (.fieldLink RX1 20 RX1 "size" "I") (by decide +kernel)) (fun _ h9 => h9) rfl (by decide +kernel) rfl rfl (Nat.le_of_ble_eq_true rfl) dX1_read_10 (fun H locs hP hD hS => ?_)
  have hP : va_P (dC, dI) vwCl [(g0, .inr (1, [.ref g1, .int 0, .ref g2, .int (nI n), .int (bI rd), .int fp, .int (nI st), .int mt, .int bg])), (g1, .inl (cA, 1000, .inl (fun j => nI (tb j)))), (g2, .inl (cA, 1000, .inl (fun j => nI (kb j))))] H := hP
  have hD : va_D A [(g0, .inr (1, [.ref g1, .int 0, .ref g2, .int (nI n), .int (bI rd), .int fp, .int (nI st), .int mt, .int bg])), (g1, .inl (cA, 1000, .inl (fun j => nI (tb j)))), (g2, .inl (cA, 1000, .inl (fun j => nI (kb j))))] := hD
  refine lv_aload_n hx hb dX1_read_13 rfl (lv_at hl 0 rfl) ?_
  refine lv_iconst (v := 0) hx hb dX1_read_14 (by decide) ?_
  refine va_put (D := (dC, dI)) (ci := 1) (v := .int 0) (ty := .boolean) (C := RX1) (T := TX1) (N := 9) hx hb hts hIn tyX1 tyX1_ok nmX1 hown hK hP hD hS 0 rfl rfl 4 (by decide) (hts (.fieldLink RX1 60 RX1 "read" "Z") (by decide +kernel)) (fun _ h9 => h9) rfl (by decide +kernel) rfl rfl (Nat.le_of_ble_eq_true rfl) dX1_read_15 (fun H locs hP hD hS => ?_)
  have hP : va_P (dC, dI) vwCl [(g0, .inr (1, [.ref g1, .int 0, .ref g2, .int (nI n), .int 0, .int fp, .int (nI st), .int mt, .int bg])), (g1, .inl (cA, 1000, .inl (fun j => nI (tb j)))), (g2, .inl (cA, 1000, .inl (fun j => nI (kb j))))] H := hP
  have hD : va_D A [(g0, .inr (1, [.ref g1, .int 0, .ref g2, .int (nI n), .int 0, .int fp, .int (nI st), .int mt, .int bg])), (g1, .inl (cA, 1000, .inl (fun j => nI (tb j)))), (g2, .inl (cA, 1000, .inl (fun j => nI (kb j))))] := hD
  refine lv_iconst (v := 0) hx hb dX1_read_18 (by decide) ?_
  refine lv_istore_n (lv' := [(1, .int 0), (0, .ref g0)]) hx hb dX1_read_19 rfl hl (by decide) rfl (fun ls hl => ?_)
  exact loop1 n 0 H locs ls (by omega) (by rw [cpN_0]; exact hP) (by rw [cpN_0]; exact hD) hS (lv_sub hl [0, 1] rfl)
