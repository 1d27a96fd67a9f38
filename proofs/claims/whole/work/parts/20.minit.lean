def mBy (v : Nat) : Nat → Int64
  | 0 => (nI (szN v)).toInt64
  | j + 1 => mBy v j * 256 + (if j < szN v then (nI (encN v j)).toInt64 else 0)
theorem mBy_s {v j : Nat} : mBy v (j + 1) = mBy v j * 256 + (if j < szN v then (nI (encN v j)).toInt64 else 0) := rfl
set_option maxHeartbeats 4000000 in
set_option maxRecDepth 100000 in
theorem c_X1_bytes_no (l : Launch) (dC : Nat → ClassId) (dI : Nat → Nat → Nat) (g0 g1 g2 : Nat) (cA : ClassId) (tb : Nat → Nat) (n : Nat) (kb : Nat → Nat) (ln : Nat) (rd : Bool) (fp : Int32) (st : Nat) (mt bg : Int32) (v : Int32) (hno : mHas v = false) : Met l yX1_bytes wsX1_bytes ({ frames := 2, cells := 0, slots := 0, locals := 45 }) (va_Pc [.ref g0, .int v] (fun U => mpre dC dI g0 g1 g2 cA (tb, n, kb, ln, rd, fp, st, mt, bg) U)) (vp_Sl (fun r => r = 0)) 0 0 (fun _ => False) := by
  refine Met.ofW (cc := cX1_bytes) (maxL := 5) (ret := (some .long)) (by decide) rfl ?_
  intro p e s m args below meth c s₁ B hml hv
  obtain ⟨rfl, hP, hK⟩ := hv
  have hx := B.exec
  have hb := B.bytes
  have hr := B.returns
  have hts := atoms_spec (ws := wsX1_bytes) B.pre
  have hown : s.vm.findClass RX1 = some m.cls := findClass_of_methodNamed B.named
  have hS : va_S (fun _ => False) s.heap s.heap [] := va_S.rf
  have hP : va_P (dC, dI) vwCl [(g0, .inr (1, [.ref g1, .int (nI n), .ref g2, .int (nI ln), .int (bI rd), .int fp, .int (nI st), .int mt, .int bg])), (g1, .inl (cA, 1000, .inl (fun j => nI (tb j)))), (g2, .inl (cA, 1000, .inl (fun j => nI (kb j))))] s.heap := hP
  have hl := lv_entry ([.ref g0, .int v]) (n := 5) (Nat.le_of_ble_eq_true rfl)
  rw [lg_entry_eq]
  generalize (lg_sl ([.ref g0, .int v]) ++ List.replicate (5 - (lg_sl ([.ref g0, .int v])).length) Slot.unset).toArray = ls at hl ⊢
  have hl : lv_has ls 5 [(0, .ref g0), (1, .int v)] := hl
  refine lv_iload_n hx hb dX1_bytes_0 rfl (lv_at hl 1 rfl) ?_
  refine vp_callSi (W.runS (As := [.int v]) (rest := []) ⟨hx, hb, hml, hown, hts⟩ (c_X1_has l v) (va_cwS 1 hts gX1_bytes_X1_has rfl rfl rfl (by decide +kernel) ⟨Nat.le_of_ble_eq_true rfl, Nat.le_of_ble_eq_true rfl⟩) ⟨fun _ _ _ _ q => q, fun U hU hW => ⟨rfl, trivial⟩⟩ rfl rfl hl.1 rfl (lv_room (Nat.le_of_ble_eq_true rfl)) dX1_bytes_1 ⟨Nat.le_of_ble_eq_true rfl, Nat.le_of_ble_eq_true rfl⟩) (fun r_1 er_1 => ?_)
  obtain rfl : r_1 = bI (mHas v) := er_1
  refine lv_if_ne (tgt := 9) hx hb dX1_bytes_4 (by decide) (fun c_2 => ?_) (fun c_2 => ?_)
  · exact absurd (bI_n0 c_2) (by rw [hno]; decide)
  · have c_2 := bI_0 c_2
    refine lv_lconst (v := 0) hx hb dX1_bytes_7 (by decide) ?_
    exact W.lret (v := 0) hx hb hr (fun t ht hW => ⟨0, rfl, rfl, ht⟩) hS.2.2 dX1_bytes_8
set_option maxHeartbeats 4000000 in
set_option maxRecDepth 100000 in
theorem c_X1_bytes_ok (l : Launch) (dC : Nat → ClassId) (dI : Nat → Nat → Nat) (g0 g1 g2 : Nat) (cA : ClassId) (tb : Nat → Nat) (n : Nat) (kb : Nat → Nat) (ln : Nat) (rd : Bool) (fp : Int32) (st : Nat) (mt bg : Int32) (v : Nat) (hv : v < 1114112) (hh : mHas (nI v) = true) : Met l yX1_bytes wsX1_bytes ({ frames := 2, cells := 0, slots := 0, locals := 45 }) (va_Pc [.ref g0, .int (nI v)] (fun U => mpre dC dI g0 g1 g2 cA (tb, n, kb, ln, rd, fp, st, mt, bg) U)) (vp_Sl (fun r => r = mBy v 7)) 0 0 (fun _ => False) := by
  refine Met.ofW (cc := cX1_bytes) (maxL := 5) (ret := (some .long)) (by decide) rfl ?_
  intro p e s m args below meth c s₁ B hml hv
  obtain ⟨rfl, hP, hK⟩ := hv
  have hx := B.exec
  have hb := B.bytes
  have hr := B.returns
  have hts := atoms_spec (ws := wsX1_bytes) B.pre
  have hown : s.vm.findClass RX1 = some m.cls := findClass_of_methodNamed B.named
  have hS : va_S (fun _ => False) s.heap s.heap [] := va_S.rf
  have hP : va_P (dC, dI) vwCl [(g0, .inr (1, [.ref g1, .int (nI n), .ref g2, .int (nI ln), .int (bI rd), .int fp, .int (nI st), .int mt, .int bg])), (g1, .inl (cA, 1000, .inl (fun j => nI (tb j)))), (g2, .inl (cA, 1000, .inl (fun j => nI (kb j))))] s.heap := hP
  have hl := lv_entry ([.ref g0, .int (nI v)]) (n := 5) (Nat.le_of_ble_eq_true rfl)
  rw [lg_entry_eq]
  generalize (lg_sl ([.ref g0, .int (nI v)]) ++ List.replicate (5 - (lg_sl ([.ref g0, .int (nI v)])).length) Slot.unset).toArray = ls at hl ⊢
  have hl : lv_has ls 5 [(0, .ref g0), (1, .int (nI v))] := hl
  have hsz := szN_in v
  have loop : ∀ (d q : Nat) (acc : Int64) (ls : Array Slot), q + d = 7 → acc = mBy v q → lv_has ls 5 [(4, .int (nI q)), (2, .long acc), (0, .ref g0), (1, .int (nI v))] → W p l e (headSpec wsX1_bytes ({ frames := 2, cells := 0, slots := 0, locals := 45 })).room s m ([.ref g0, .int (nI v)] : List Value).toArray below meth c s.heap [] 0 0 (MQ below (vp_Sl (fun r => r = mBy v 7)) ([.ref g0, .int (nI v)] : List Value).toArray s 0 0 (fun _ => False)) (F0 m 18 ls []) := by
    intro d
    induction d with
    | zero =>
      intro q acc ls hq hacc hl
      refine lv_iload hx hb dX1_bytes_18 (lv_at hl 0 rfl) ?_
      refine lv_bipush (v := 7) hx hb dX1_bytes_20 (by decide) ?_
      refine lv_icmp_ge (tgt := 58) hx hb dX1_bytes_22 (by decide) (fun c_1 => ?_) (fun c_1 => ?_)
      · have c_1 : 7 ≤ q := (nI_leI (a := 7) (b := q) (by omega) (by omega)).mp c_1
        refine lv_lload_n hx hb dX1_bytes_58 rfl (lv_at hl 1 rfl) ?_
        exact W.lret (v := acc) hx hb hr (fun t ht hW => ⟨acc, rfl, (by rw [hacc, show q = 7 by omega]), ht⟩) hS.2.2 dX1_bytes_59
      · exact absurd (show nI 7 ≤ nI q from nI_le (by omega) (by omega)) c_1
    | succ d ih =>
      intro q acc ls hq hacc hl
      refine lv_iload hx hb dX1_bytes_18 (lv_at hl 0 rfl) ?_
      refine lv_bipush (v := 7) hx hb dX1_bytes_20 (by decide) ?_
      refine lv_icmp_ge (tgt := 58) hx hb dX1_bytes_22 (by decide) (fun c_2 => ?_) (fun c_2 => ?_)
      · exact absurd (show nI 7 ≤ nI q from c_2) (nI_ge (by omega) (by omega))
      · have c_2 : ¬ 7 ≤ q := fun zz => c_2 ((nI_leI (a := 7) (b := q) (by omega) (by omega)).mpr zz)
        refine lv_lload_n hx hb dX1_bytes_25 rfl (lv_at hl 1 rfl) ?_
        refine lv_ldc2 (own := RX1) (v := 256) hx hb hown (hts (.constantLong RX1 93 256) (by decide +kernel)) dX1_bytes_26 ?_
        refine lv_lmul hx hb dX1_bytes_29 ?_
        refine lv_iload hx hb dX1_bytes_30 (lv_at hl 0 rfl) ?_
        refine lv_iload_n hx hb dX1_bytes_32 rfl (lv_at hl 3 rfl) ?_
        refine vp_callSi (W.runS (As := [.int (nI v)]) (rest := [.int (nI q), .long (acc * 256)]) ⟨hx, hb, hml, hown, hts⟩ (c_X1_sizeOf l (nI v)) (va_cwS 1 hts gX1_bytes_X1_sizeOf rfl rfl rfl (by decide +kernel) ⟨Nat.le_of_ble_eq_true rfl, Nat.le_of_ble_eq_true rfl⟩) ⟨fun _ _ _ _ q => q, fun U hU hW => ⟨rfl, trivial⟩⟩ rfl rfl hl.1 rfl (lv_room (Nat.le_of_ble_eq_true rfl)) dX1_bytes_33 ⟨Nat.le_of_ble_eq_true rfl, Nat.le_of_ble_eq_true rfl⟩) (fun r_3 er_3 => ?_)
        obtain rfl : r_3 = mSize (nI v) := er_3
        rw [mSize_nI (by omega)]
        refine lv_icmp_ge (tgt := 48) hx hb dX1_bytes_36 (by decide) (fun c_4 => ?_) (fun c_4 => ?_)
        · have c_4 : szN v ≤ q := (nI_leI (a := szN v) (b := q) (by omega) (by omega)).mp c_4
          refine lv_iconst (v := 0) hx hb dX1_bytes_48 (by decide) ?_
          refine lv_i2l hx hb dX1_bytes_49 rfl ?_
          refine lv_ladd hx hb dX1_bytes_50 ?_
          refine lv_topl (fun x_5 ex_5 => ?_)
          refine lv_lstore_n (lv' := [(2, .long x_5), (4, .int (nI q)), (0, .ref g0), (1, .int (nI v))]) hx hb dX1_bytes_51 rfl hl (by decide) rfl (fun ls hl => ?_)
          refine lv_iinc (v := nI (q + 1)) (lv' := [(4, .int (nI (q + 1))), (2, .long x_5), (0, .ref g0), (1, .int (nI v))]) hx hb dX1_bytes_52 hl (k := 1) rfl (nI_1 q) (by decide) rfl (fun ls hl => ?_)
          refine lv_goto (tgt := 18) hx hb dX1_bytes_55 (by decide) ?_
          exact ih (q + 1) x_5 ls (by omega) (by rw [ex_5, hacc, mBy_s, if_neg (Nat.not_lt.mpr c_4)]; rfl) (lv_sub hl [0, 1, 2, 3] rfl)
        · have c_4 : ¬ szN v ≤ q := fun zz => c_4 ((nI_leI (a := szN v) (b := q) (by omega) (by omega)).mpr zz)
          refine lv_iload_n hx hb dX1_bytes_39 rfl (lv_at hl 3 rfl) ?_
          refine lv_iload hx hb dX1_bytes_40 (lv_at hl 0 rfl) ?_
          refine vp_callSi (W.runS (As := [.int (nI v), .int (nI q)]) (rest := [.long (acc * 256)]) ⟨hx, hb, hml, hown, hts⟩ (c_X1_byteOf l v q (by omega) (by omega)) (va_cwS 2 hts gX1_bytes_X1_byteOf rfl rfl rfl (by decide +kernel) ⟨Nat.le_of_ble_eq_true rfl, Nat.le_of_ble_eq_true rfl⟩) ⟨fun _ _ _ _ q => q, fun U hU hW => ⟨rfl, trivial⟩⟩ rfl rfl hl.1 rfl (lv_room (Nat.le_of_ble_eq_true rfl)) dX1_bytes_42 ⟨Nat.le_of_ble_eq_true rfl, Nat.le_of_ble_eq_true rfl⟩) (fun r_6 er_6 => ?_)
          obtain rfl : r_6 = nI (encN v q) := er_6
          refine lv_goto (tgt := 49) hx hb dX1_bytes_45 (by decide) ?_
          refine lv_i2l hx hb dX1_bytes_49 rfl ?_
          refine lv_ladd hx hb dX1_bytes_50 ?_
          refine lv_topl (fun x_7 ex_7 => ?_)
          refine lv_lstore_n (lv' := [(2, .long x_7), (4, .int (nI q)), (0, .ref g0), (1, .int (nI v))]) hx hb dX1_bytes_51 rfl hl (by decide) rfl (fun ls hl => ?_)
          refine lv_iinc (v := nI (q + 1)) (lv' := [(4, .int (nI (q + 1))), (2, .long x_7), (0, .ref g0), (1, .int (nI v))]) hx hb dX1_bytes_52 hl (k := 1) rfl (nI_1 q) (by decide) rfl (fun ls hl => ?_)
          refine lv_goto (tgt := 18) hx hb dX1_bytes_55 (by decide) ?_
          exact ih (q + 1) x_7 ls (by omega) (by rw [ex_7, hacc, mBy_s, if_pos (Nat.lt_of_not_le c_4)]) (lv_sub hl [0, 1, 2, 3] rfl)
  refine lv_iload_n hx hb dX1_bytes_0 rfl (lv_at hl 1 rfl) ?_
  refine vp_callSi (W.runS (As := [.int (nI v)]) (rest := []) ⟨hx, hb, hml, hown, hts⟩ (c_X1_has l (nI v)) (va_cwS 1 hts gX1_bytes_X1_has rfl rfl rfl (by decide +kernel) ⟨Nat.le_of_ble_eq_true rfl, Nat.le_of_ble_eq_true rfl⟩) ⟨fun _ _ _ _ q => q, fun U hU hW => ⟨rfl, trivial⟩⟩ rfl rfl hl.1 rfl (lv_room (Nat.le_of_ble_eq_true rfl)) dX1_bytes_1 ⟨Nat.le_of_ble_eq_true rfl, Nat.le_of_ble_eq_true rfl⟩) (fun r_8 er_8 => ?_)
  obtain rfl : r_8 = bI (mHas (nI v)) := er_8
  refine lv_if_ne (tgt := 9) hx hb dX1_bytes_4 (by decide) (fun c_9 => ?_) (fun c_9 => ?_)
  · have c_9 := bI_n0 c_9
    refine lv_iload_n hx hb dX1_bytes_9 rfl (lv_at hl 1 rfl) ?_
    refine vp_callSi (W.runS (As := [.int (nI v)]) (rest := []) ⟨hx, hb, hml, hown, hts⟩ (c_X1_sizeOf l (nI v)) (va_cwS 1 hts gX1_bytes_X1_sizeOf rfl rfl rfl (by decide +kernel) ⟨Nat.le_of_ble_eq_true rfl, Nat.le_of_ble_eq_true rfl⟩) ⟨fun _ _ _ _ q => q, fun U hU hW => ⟨rfl, trivial⟩⟩ rfl rfl hl.1 rfl (lv_room (Nat.le_of_ble_eq_true rfl)) dX1_bytes_10 ⟨Nat.le_of_ble_eq_true rfl, Nat.le_of_ble_eq_true rfl⟩) (fun r_10 er_10 => ?_)
    obtain rfl : r_10 = mSize (nI v) := er_10
    rw [mSize_nI (by omega)]
    refine lv_i2l hx hb dX1_bytes_13 rfl ?_
    refine lv_lstore_n (lv' := [(2, .long ((nI (szN v)).toInt64)), (0, .ref g0), (1, .int (nI v))]) hx hb dX1_bytes_14 rfl hl (by decide) rfl (fun ls hl => ?_)
    refine lv_iconst (v := 0) hx hb dX1_bytes_15 (by decide) ?_
    refine lv_istore (lv' := [(4, .int 0), (2, .long ((nI (szN v)).toInt64)), (0, .ref g0), (1, .int (nI v))]) hx hb dX1_bytes_16 hl (by decide) rfl (fun ls hl => ?_)
    exact loop 7 0 ((nI (szN v)).toInt64) ls (by omega) (rfl) (lv_sub hl [0, 1, 2, 3] rfl)
  · exact absurd hh (bI_0 c_9)
set_option maxHeartbeats 4000000 in
set_option maxRecDepth 100000 in
/-- the reference, new -/
theorem c_X1_init (l : Launch) (dC : Nat → ClassId) (dI : Nat → Nat → Nat) (g0 : Nat) (sz : Nat) : Met l yX1_init wsX1_init ({ frames := 1, cells := 2, slots := 2000, locals := 20 }) (va_Pc [.ref g0] (fun U => U.heap.size = sz ∧ va_P (dC, dI) vwCl [(g0, .inr (1, [.null, .int 0, .null, .int 0, .int 0, .int 0, .int 0, .int 0, .int 0]))] U.heap ∧ va_K (dC, dI) vwCl [] U ∧ va_D (fun _ => True) [(g0, .inr (1, [.null, .int 0, .null, .int 0, .int 0, .int 0, .int 0, .int 0, .int 0]))])) (va_Qv (fun u : MS => u = (fun _ => 0, 0, fun _ => 0, 0, false, -1, 0, 0, 0)) (matt0 dC dI g0 (va_A [(g0, .inr (1, [.null, .int 0, .null, .int 0, .int 0, .int 0, .int 0, .int 0, .int 0]))] sz)) (va_A [(g0, .inr (1, [.null, .int 0, .null, .int 0, .int 0, .int 0, .int 0, .int 0, .int 0]))] sz)) 2 2000 (va_A [(g0, .inr (1, [.null, .int 0, .null, .int 0, .int 0, .int 0, .int 0, .int 0, .int 0]))] sz) := by
  refine Met.ofW (cc := cX1_init) (maxL := 1) (ret := none) (by decide) rfl ?_
  intro p e s m args below meth c s₁ B hml hv
  obtain ⟨rfl, hsz, hP, hK, hD0⟩ := hv
  have hx := B.exec
  have hb := B.bytes
  have hr := B.returns
  have hts := atoms_spec (ws := wsX1_init) B.pre
  have hown : s.vm.findClass RX1 = some m.cls := findClass_of_methodNamed B.named
  have hin : meth.name = "<init>" := (name_of_methodNamed B.named B.method).1
  subst hsz
  have hD := hD0.self (sz := s.heap.size)
  generalize hAe : va_A [(g0, .inr (1, [.null, .int 0, .null, .int 0, .int 0, .int 0, .int 0, .int 0, .int 0]))] s.heap.size = A at hD ⊢
  have hA : ∀ q : Nat, s.heap.size ≤ q → A q := fun q h => by rw [← hAe]; exact Or.inr h
  have hS : va_S A s.heap s.heap [] := va_S.rf
  have hP : va_P (dC, dI) vwCl [(g0, .inr (1, [.null, .int 0, .null, .int 0, .int 0, .int 0, .int 0, .int 0, .int 0]))] s.heap := hP
  have hD : va_D A [(g0, .inr (1, [.null, .int 0, .null, .int 0, .int 0, .int 0, .int 0, .int 0, .int 0]))] := hD
  have hIn : ∀ w ∈ wsX10, w ∈ wsX1_init := by decide +kernel
  have hl := lv_entry ([.ref g0]) (n := 1) (Nat.le_of_ble_eq_true rfl)
  rw [lg_entry_eq]
  generalize (lg_sl ([.ref g0]) ++ List.replicate (1 - (lg_sl ([.ref g0])).length) Slot.unset).toArray = ls at hl ⊢
  have hl : lv_has ls 1 [(0, .ref g0)] := hl
  refine lv_aload_n hx hb dX1_init_0 rfl (lv_at hl 0 rfl) ?_
  refine W.objInit hx hb hown (hts (.methodLink RX1 1 objectInit) (by decide +kernel)) (hts (.instanceMethod objectInit) (by decide +kernel)) (hts (.code objectInit ⟨#[0xb1]⟩ 1 none) (by decide +kernel)) rfl (by rw [hml]; exact hl.1) rfl dX1_init_1 (Nat.le_of_ble_eq_true rfl) (Nat.le_of_ble_eq_true rfl) ?_
  refine W.eq (g2 := F0 m 4 ls []) rfl ?_
  refine lv_aload_n hx hb dX1_init_4 rfl (lv_at hl 0 rfl) ?_
  refine lv_sipush (v := 1000) hx hb dX1_init_5 (by decide) ?_
  refine va_newa (atype := .int) (ty := .int) (a0 := (1000, .inl (fun _ => 0))) (N' := 1000) hx hb (hts (.arrayClass .int) (by decide +kernel)) rfl hK hP hD hS hA (nz_cell 1000) (by decide) (by decide) (by decide) (Nat.le_of_ble_eq_true rfl) (Nat.le_of_ble_eq_true rfl) dX1_init_8 (fun a_1 cA_1 H hK hP hD hS => ?_)
  have hK : va_K (dC, dI) vwCl [(cA_1, .int)] s := hK
  have hP : va_P (dC, dI) vwCl [(g0, .inr (1, [.null, .int 0, .null, .int 0, .int 0, .int 0, .int 0, .int 0, .int 0])), (a_1, .inl (cA_1, 1000, .inl (fun _ => 0)))] H := hP
  have hD : va_D A [(g0, .inr (1, [.null, .int 0, .null, .int 0, .int 0, .int 0, .int 0, .int 0, .int 0])), (a_1, .inl (cA_1, 1000, .inl (fun _ => 0)))] := hD
  refine va_putF (D := (dC, dI)) (ci := 1) (v := .ref a_1) (ty := (.array .int)) (C := RX1) (T := TX1) (N := 9) hx hb hts hIn tyX1 tyX1_ok nmX1 hown hK hP hD hS 0 rfl rfl 0 (by decide) (hts (.fieldLink RX1 7 RX1 "text" "[I") (by decide +kernel)) (fun _ h9 => h9) rfl hin rfl (by decide +kernel) rfl rfl (Nat.le_of_ble_eq_true rfl) dX1_init_10 (fun H locs hP hD hS => ?_)
  have hP : va_P (dC, dI) vwCl [(g0, .inr (1, [.ref a_1, .int 0, .null, .int 0, .int 0, .int 0, .int 0, .int 0, .int 0])), (a_1, .inl (cA_1, 1000, .inl (fun _ => 0)))] H := hP
  have hD : va_D A [(g0, .inr (1, [.ref a_1, .int 0, .null, .int 0, .int 0, .int 0, .int 0, .int 0, .int 0])), (a_1, .inl (cA_1, 1000, .inl (fun _ => 0)))] := hD
  refine lv_aload_n hx hb dX1_init_13 rfl (lv_at hl 0 rfl) ?_
  refine lv_sipush (v := 1000) hx hb dX1_init_14 (by decide) ?_
  refine va_newa (atype := .int) (ty := .int) (a0 := (1000, .inl (fun _ => 0))) (N' := 1000) hx hb (hts (.arrayClass .int) (by decide +kernel)) rfl hK hP hD hS hA (nz_cell 1000) (by decide) (by decide) (by decide) (Nat.le_of_ble_eq_true rfl) (Nat.le_of_ble_eq_true rfl) dX1_init_17 (fun a_2 cA_2 H hK hP hD hS => ?_)
  have hK : va_K (dC, dI) vwCl [(cA_1, .int), (cA_2, .int)] s := hK
  have hP : va_P (dC, dI) vwCl [(g0, .inr (1, [.ref a_1, .int 0, .null, .int 0, .int 0, .int 0, .int 0, .int 0, .int 0])), (a_1, .inl (cA_1, 1000, .inl (fun _ => 0))), (a_2, .inl (cA_2, 1000, .inl (fun _ => 0)))] H := hP
  have hD : va_D A [(g0, .inr (1, [.ref a_1, .int 0, .null, .int 0, .int 0, .int 0, .int 0, .int 0, .int 0])), (a_1, .inl (cA_1, 1000, .inl (fun _ => 0))), (a_2, .inl (cA_2, 1000, .inl (fun _ => 0)))] := hD
  obtain rfl : cA_1 = cA_2 := va_cAeq hK
  have hK : va_K (dC, dI) vwCl [(cA_1, .int)] s := hK.sub [0] rfl
  have hP : va_P (dC, dI) vwCl [(g0, .inr (1, [.ref a_1, .int 0, .null, .int 0, .int 0, .int 0, .int 0, .int 0, .int 0])), (a_1, .inl (cA_1, 1000, .inl (fun _ => 0))), (a_2, .inl (cA_1, 1000, .inl (fun _ => 0)))] H := hP
  have hD : va_D A [(g0, .inr (1, [.ref a_1, .int 0, .null, .int 0, .int 0, .int 0, .int 0, .int 0, .int 0])), (a_1, .inl (cA_1, 1000, .inl (fun _ => 0))), (a_2, .inl (cA_1, 1000, .inl (fun _ => 0)))] := hD
  refine va_putF (D := (dC, dI)) (ci := 1) (v := .ref a_2) (ty := (.array .int)) (C := RX1) (T := TX1) (N := 9) hx hb hts hIn tyX1 tyX1_ok nmX1 hown hK hP hD hS 0 rfl rfl 2 (by decide) (hts (.fieldLink RX1 13 RX1 "kept" "[I") (by decide +kernel)) (fun _ h9 => h9) rfl hin rfl (by decide +kernel) rfl rfl (Nat.le_of_ble_eq_true rfl) dX1_init_19 (fun H locs hP hD hS => ?_)
  have hP : va_P (dC, dI) vwCl [(g0, .inr (1, [.ref a_1, .int 0, .ref a_2, .int 0, .int 0, .int 0, .int 0, .int 0, .int 0])), (a_1, .inl (cA_1, 1000, .inl (fun _ => 0))), (a_2, .inl (cA_1, 1000, .inl (fun _ => 0)))] H := hP
  have hD : va_D A [(g0, .inr (1, [.ref a_1, .int 0, .ref a_2, .int 0, .int 0, .int 0, .int 0, .int 0, .int 0])), (a_1, .inl (cA_1, 1000, .inl (fun _ => 0))), (a_2, .inl (cA_1, 1000, .inl (fun _ => 0)))] := hD
  refine lv_aload_n hx hb dX1_init_22 rfl (lv_at hl 0 rfl) ?_
  refine lv_iconst (v := -1) hx hb dX1_init_23 (by decide) ?_
  refine va_put (D := (dC, dI)) (ci := 1) (v := .int (-1)) (ty := .int) (C := RX1) (T := TX1) (N := 9) hx hb hts hIn tyX1 tyX1_ok nmX1 hown hK hP hD hS 0 rfl rfl 5 (by decide) (hts (.fieldLink RX1 16 RX1 "place" "I") (by decide +kernel)) (fun _ h9 => h9) rfl (by decide +kernel) rfl rfl (Nat.le_of_ble_eq_true rfl) dX1_init_24 (fun H locs hP hD hS => ?_)
  have hP : va_P (dC, dI) vwCl [(g0, .inr (1, [.ref a_1, .int 0, .ref a_2, .int 0, .int 0, .int (-1), .int 0, .int 0, .int 0])), (a_1, .inl (cA_1, 1000, .inl (fun _ => 0))), (a_2, .inl (cA_1, 1000, .inl (fun _ => 0)))] H := hP
  have hD : va_D A [(g0, .inr (1, [.ref a_1, .int 0, .ref a_2, .int 0, .int 0, .int (-1), .int 0, .int 0, .int 0])), (a_1, .inl (cA_1, 1000, .inl (fun _ => 0))), (a_2, .inl (cA_1, 1000, .inl (fun _ => 0)))] := hD
  have hP9 : va_P (dC, dI) vwCl (mw g0 a_1 a_2 cA_1 ((fun _ => 0), 0, (fun _ => 0), 0, false, (-1), 0, 0, 0)) H := hP
  have hD9 : va_D A (mw g0 a_1 a_2 cA_1 ((fun _ => 0), 0, (fun _ => 0), 0, false, (-1), 0, 0, 0)) := hD
  refine W.widen (k := 2) (n := 2000) (Nat.le_of_ble_eq_true rfl) (Nat.le_of_ble_eq_true rfl) ?_
  exact W.vret hx hb hr (fun t ht hW => ⟨⟨((fun _ => 0), 0, (fun _ => 0), 0, false, (-1), 0, 0, 0), rfl, rfl, a_1, a_2, cA_1, by rw [ht]; exact hP9, va_K.moved hW.alike hK, hD9⟩, hS.F ht⟩) hS.2.2 dX1_init_27
