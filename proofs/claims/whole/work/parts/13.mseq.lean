set_option maxHeartbeats 4000000 in
set_option maxRecDepth 100000 in
theorem c_X1_sequence (l : Launch) (dC : Nat → ClassId) (dI : Nat → Nat → Nat) (g0 g1 g2 : Nat) (cA : ClassId) (sz : Nat) (tb : Nat → Nat) (n : Nat) (kb : Nat → Nat) (ln : Nat) (rd : Bool) (fp : Int32) (st : Nat) (mt bg : Int32) (hkb : ∀ j, kb j < 256) (hst : st < ln) (hln : ln ≤ 1000) : Met l yX1_sequence wsX1_sequence ({ frames := 1, cells := 0, slots := 0, locals := 21 }) (va_Pc [.ref g0] (fun U => mmut dC dI g0 g1 g2 cA sz (tb, n, kb, ln, rd, fp, st, mt, bg) U)) (va_Qi (fun (r : Int32) (u : MS) => r = seqR (seqN kb ln st) ∧ u = (tb, n, kb, ln, rd, fp, seqS st (seqN kb ln st), mt, bg)) (matt dC dI g0 g1 g2 cA (va_A (mw g0 g1 g2 cA (tb, n, kb, ln, rd, fp, st, mt, bg)) sz)) (va_A (mw g0 g1 g2 cA (tb, n, kb, ln, rd, fp, st, mt, bg)) sz)) 0 0 (va_A (mw g0 g1 g2 cA (tb, n, kb, ln, rd, fp, st, mt, bg)) sz) := by
  refine Met.ofW (cc := cX1_sequence) (maxL := 6) (ret := (some .int)) (by decide) rfl ?_
  intro p e s m args below meth c s₁ B hml hv
  obtain ⟨rfl, hsz, hP, hK, hD0⟩ := hv
  have hx := B.exec
  have hb := B.bytes
  have hr := B.returns
  have hts := atoms_spec (ws := wsX1_sequence) B.pre
  have hown : s.vm.findClass RX1 = some m.cls := findClass_of_methodNamed B.named
  subst hsz
  have hD := hD0.self (sz := s.heap.size)
  generalize hAe : va_A (mw g0 g1 g2 cA (tb, n, kb, ln, rd, fp, st, mt, bg)) s.heap.size = A at hD ⊢
  have hA : ∀ q : Nat, s.heap.size ≤ q → A q := fun q h => by rw [← hAe]; exact Or.inr h
  have hS : va_S A s.heap s.heap [] := va_S.rf
  have hP : va_P (dC, dI) vwCl [(g0, .inr (1, [.ref g1, .int (nI n), .ref g2, .int (nI ln), .int (bI rd), .int fp, .int (nI st), .int mt, .int bg])), (g1, .inl (cA, 1000, .inl (fun j => nI (tb j)))), (g2, .inl (cA, 1000, .inl (fun j => nI (kb j))))] s.heap := hP
  have hD : va_D A [(g0, .inr (1, [.ref g1, .int (nI n), .ref g2, .int (nI ln), .int (bI rd), .int fp, .int (nI st), .int mt, .int bg])), (g1, .inl (cA, 1000, .inl (fun j => nI (tb j)))), (g2, .inl (cA, 1000, .inl (fun j => nI (kb j))))] := hD
  have hIn : ∀ w ∈ wsX10, w ∈ wsX1_sequence := by decide +kernel
  have hl := lv_entry ([.ref g0]) (n := 6) (Nat.le_of_ble_eq_true rfl)
  rw [lg_entry_eq]
  generalize (lg_sl ([.ref g0]) ++ List.replicate (6 - (lg_sl ([.ref g0])).length) Slot.unset).toArray = ls at hl ⊢
  have hl : lv_has ls 6 [(0, .ref g0)] := hl
  refine lv_aload_n hx hb dX1_sequence_0 rfl (lv_at hl 0 rfl) ?_
  refine va_get (D := (dC, dI)) (ci := 1) (v := .ref g2) (C := RX1) (T := TX1) (N := 9) hx hb hts hIn hown hK hP 0 rfl rfl 2 (by decide) (hts (.fieldLink RX1 13 RX1 "kept" "[I") (by decide +kernel)) (fun _ h9 => h9) rfl dX1_sequence_1 ?_
  refine lv_aload_n hx hb dX1_sequence_4 rfl (lv_at hl 0 rfl) ?_
  refine va_get (D := (dC, dI)) (ci := 1) (v := .int (nI st)) (C := RX1) (T := TX1) (N := 9) hx hb hts hIn hown hK hP 0 rfl rfl 6 (by decide) (hts (.fieldLink RX1 41 RX1 "stand" "I") (by decide +kernel)) (fun _ h9 => h9) rfl dX1_sequence_5 ?_
  refine va_iald hx hb hK hP 2 0 rfl rfl (vp_in_nI (n := st) (by omega) (by omega)) dX1_sequence_8 ?_
  refine lv_topi (fun x_1 ex_1 => ?_)
  obtain rfl : x_1 = nI (kb st) := ex_1.trans (congrArg (fun j => nI (kb j)) ((nI_clamp (by omega))))
  have hb_2 := hkb st
  refine lv_istore_n (lv' := [(1, .int (nI (kb st))), (0, .ref g0)]) hx hb dX1_sequence_9 rfl hl (by decide) rfl (fun ls hl => ?_)
  refine lv_iload_n hx hb dX1_sequence_10 rfl (lv_at hl 0 rfl) ?_
  refine lv_sipush (v := 128) hx hb dX1_sequence_11 (by decide) ?_
  refine lv_icmp_ge (tgt := 21) hx hb dX1_sequence_14 (by decide) (fun c_3 => ?_) (fun c_3 => ?_)
  · have c_3 : 128 ≤ kb st := (nI_leI (a := 128) (b := kb st) (by omega) (by omega)).mp c_3
    refine lv_iload_n hx hb dX1_sequence_21 rfl (lv_at hl 0 rfl) ?_
    refine lv_sipush (v := 192) hx hb dX1_sequence_22 (by decide) ?_
    refine lv_icmp_ge (tgt := 32) hx hb dX1_sequence_25 (by decide) (fun c_4 => ?_) (fun c_4 => ?_)
    · have c_4 : 192 ≤ kb st := (nI_leI (a := 192) (b := kb st) (by omega) (by omega)).mp c_4
      refine lv_iload_n hx hb dX1_sequence_32 rfl (lv_at hl 0 rfl) ?_
      refine lv_sipush (v := 224) hx hb dX1_sequence_33 (by decide) ?_
      refine lv_icmp_ge (tgt := 43) hx hb dX1_sequence_36 (by decide) (fun c_5 => ?_) (fun c_5 => ?_)
      · have c_5 : 224 ≤ kb st := (nI_leI (a := 224) (b := kb st) (by omega) (by omega)).mp c_5
        refine lv_iload_n hx hb dX1_sequence_43 rfl (lv_at hl 0 rfl) ?_
        refine lv_sipush (v := 240) hx hb dX1_sequence_44 (by decide) ?_
        refine lv_icmp_ge (tgt := 54) hx hb dX1_sequence_47 (by decide) (fun c_6 => ?_) (fun c_6 => ?_)
        · have c_6 : 240 ≤ kb st := (nI_leI (a := 240) (b := kb st) (by omega) (by omega)).mp c_6
          refine lv_iload_n hx hb dX1_sequence_54 rfl (lv_at hl 0 rfl) ?_
          refine lv_sipush (v := 248) hx hb dX1_sequence_55 (by decide) ?_
          refine lv_icmp_ge (tgt := 65) hx hb dX1_sequence_58 (by decide) (fun c_7 => ?_) (fun c_7 => ?_)
          · have c_7 : 248 ≤ kb st := (nI_leI (a := 248) (b := kb st) (by omega) (by omega)).mp c_7
            refine lv_iconst (v := 0) hx hb dX1_sequence_65 (by decide) ?_
            refine lv_istore_n (lv' := [(2, .int 0), (1, .int (nI (kb st))), (0, .ref g0)]) hx hb dX1_sequence_66 rfl hl (by decide) rfl (fun ls hl => ?_)
            refine lv_iload_n hx hb dX1_sequence_67 rfl (lv_at hl 0 rfl) ?_
            refine lv_if_eq (tgt := 84) hx hb dX1_sequence_68 (by decide) (fun c_8 => ?_) (fun c_8 => ?_)
            · have c_8 : 0 = 0 := (nI_eq (a := 0) (b := 0) (by omega) (by omega)).mp c_8
              refine lv_iconst (v := -1) hx hb dX1_sequence_84 (by decide) ?_
              have hP9 : va_P (dC, dI) vwCl (mw g0 g1 g2 cA (tb, n, kb, ln, rd, fp, st, mt, bg)) s.heap := hP
              have hD9 : va_D A (mw g0 g1 g2 cA (tb, n, kb, ln, rd, fp, st, mt, bg)) := hD
              exact W.iret (v := (-1)) hx hb hr (fun t ht hW => ⟨⟨(-1), (tb, n, kb, ln, rd, fp, st, mt, bg), rfl, (by simp only [seqN, seq1, seq2, seq3, seq4, finN, if_pos c_3, if_pos c_4, if_pos c_5, if_pos c_6, if_pos c_7, if_pos c_8, seqR_n, seqR_s, seqS_n, seqS_s, and_self]), by rw [ht]; exact hP9, va_K.moved hW.alike hK, hD9⟩, hS.F ht⟩) hS.2.2 dX1_sequence_85
            · exact absurd c_8 (by decide)
          · have c_7 : ¬ 248 ≤ kb st := fun zz => c_7 ((nI_leI (a := 248) (b := kb st) (by omega) (by omega)).mpr zz)
            refine lv_iconst (v := 4) hx hb dX1_sequence_61 (by decide) ?_
            refine lv_goto (tgt := 66) hx hb dX1_sequence_62 (by decide) ?_
            refine lv_istore_n (lv' := [(2, .int 4), (1, .int (nI (kb st))), (0, .ref g0)]) hx hb dX1_sequence_66 rfl hl (by decide) rfl (fun ls hl => ?_)
            refine lv_iload_n hx hb dX1_sequence_67 rfl (lv_at hl 0 rfl) ?_
            refine lv_if_eq (tgt := 84) hx hb dX1_sequence_68 (by decide) (fun c_9 => ?_) (fun c_9 => ?_)
            · exact absurd c_9 (by decide)
            · have c_9 : ¬ 4 = 0 := fun zz => c_9 ((nI_eq (a := 4) (b := 0) (by omega) (by omega)).mpr zz)
              refine lv_aload_n hx hb dX1_sequence_71 rfl (lv_at hl 2 rfl) ?_
              refine va_get (D := (dC, dI)) (ci := 1) (v := .int (nI st)) (C := RX1) (T := TX1) (N := 9) hx hb hts hIn hown hK hP 0 rfl rfl 6 (by decide) (hts (.fieldLink RX1 41 RX1 "stand" "I") (by decide +kernel)) (fun _ h9 => h9) rfl dX1_sequence_72 ?_
              refine lv_iload_n hx hb dX1_sequence_75 rfl (lv_at hl 0 rfl) ?_
              refine lv_iadd hx hb dX1_sequence_76 ?_
              refine lv_topi (fun x_10 ex_10 => ?_)
              obtain rfl : x_10 = nI (st + 4) := ex_10.trans (nI_add st 4)
              refine lv_aload_n hx hb dX1_sequence_77 rfl (lv_at hl 2 rfl) ?_
              refine va_get (D := (dC, dI)) (ci := 1) (v := .int (nI ln)) (C := RX1) (T := TX1) (N := 9) hx hb hts hIn hown hK hP 0 rfl rfl 3 (by decide) (hts (.fieldLink RX1 44 RX1 "length" "I") (by decide +kernel)) (fun _ h9 => h9) rfl dX1_sequence_78 ?_
              refine lv_icmp_le (tgt := 86) hx hb dX1_sequence_81 (by decide) (fun c_11 => ?_) (fun c_11 => ?_)
              · have c_11 : st + 4 ≤ ln := (nI_leI (a := st + 4) (b := ln) (by omega) (by omega)).mp c_11
                refine lv_iload_n hx hb dX1_sequence_86 rfl (lv_at hl 0 rfl) ?_
                refine lv_iconst (v := 1) hx hb dX1_sequence_87 (by decide) ?_
                refine lv_icmp_ne (tgt := 95) hx hb dX1_sequence_88 (by decide) (fun c_12 => ?_) (fun c_12 => ?_)
                · have c_12 : ¬ 4 = 1 := fun zz => c_12 ((nI_eq (a := 4) (b := 1) (by omega) (by omega)).mpr zz)
                  refine lv_iload_n hx hb dX1_sequence_95 rfl (lv_at hl 0 rfl) ?_
                  refine lv_iconst (v := 2) hx hb dX1_sequence_96 (by decide) ?_
                  refine lv_icmp_ne (tgt := 108) hx hb dX1_sequence_97 (by decide) (fun c_13 => ?_) (fun c_13 => ?_)
                  · have c_13 : ¬ 4 = 2 := fun zz => c_13 ((nI_eq (a := 4) (b := 2) (by omega) (by omega)).mpr zz)
                    refine lv_iload_n hx hb dX1_sequence_108 rfl (lv_at hl 0 rfl) ?_
                    refine lv_iconst (v := 3) hx hb dX1_sequence_109 (by decide) ?_
                    refine lv_icmp_ne (tgt := 121) hx hb dX1_sequence_110 (by decide) (fun c_14 => ?_) (fun c_14 => ?_)
                    · have c_14 : ¬ 4 = 3 := fun zz => c_14 ((nI_eq (a := 4) (b := 3) (by omega) (by omega)).mpr zz)
                      refine lv_iload_n hx hb dX1_sequence_121 rfl (lv_at hl 1 rfl) ?_
                      refine lv_sipush (v := 240) hx hb dX1_sequence_122 (by decide) ?_
                      refine lv_isub hx hb dX1_sequence_125 ?_
                      refine lv_topi (fun x_15 ex_15 => ?_)
                      obtain rfl : x_15 = nI (kb st - 240) := ex_15.trans (pk_sub (a := kb st) (b := 240) (by omega))
                      refine lv_istore_n (lv' := [(3, .int (nI (kb st - 240))), (2, .int 4), (1, .int (nI (kb st))), (0, .ref g0)]) hx hb dX1_sequence_126 rfl hl (by decide) rfl (fun ls hl => ?_)
                      refine lv_iconst (v := 1) hx hb dX1_sequence_127 (by decide) ?_
                      refine lv_istore (lv' := [(4, .int 1), (3, .int (nI (kb st - 240))), (2, .int 4), (1, .int (nI (kb st))), (0, .ref g0)]) hx hb dX1_sequence_128 hl (by decide) rfl (fun ls hl => ?_)
                      refine lv_iload hx hb dX1_sequence_130 (lv_at hl 0 rfl) ?_
                      refine lv_iload_n hx hb dX1_sequence_132 rfl (lv_at hl 2 rfl) ?_
                      refine lv_icmp_ge (tgt := 186) hx hb dX1_sequence_133 (by decide) (fun c_16 => ?_) (fun c_16 => ?_)
                      · exact absurd c_16 (by decide)
                      · have c_16 : ¬ 4 ≤ 1 := fun zz => c_16 ((nI_leI (a := 4) (b := 1) (by omega) (by omega)).mpr zz)
                        refine lv_aload_n hx hb dX1_sequence_136 rfl (lv_at hl 4 rfl) ?_
                        refine va_get (D := (dC, dI)) (ci := 1) (v := .ref g2) (C := RX1) (T := TX1) (N := 9) hx hb hts hIn hown hK hP 0 rfl rfl 2 (by decide) (hts (.fieldLink RX1 13 RX1 "kept" "[I") (by decide +kernel)) (fun _ h9 => h9) rfl dX1_sequence_137 ?_
                        refine lv_aload_n hx hb dX1_sequence_140 rfl (lv_at hl 4 rfl) ?_
                        refine va_get (D := (dC, dI)) (ci := 1) (v := .int (nI st)) (C := RX1) (T := TX1) (N := 9) hx hb hts hIn hown hK hP 0 rfl rfl 6 (by decide) (hts (.fieldLink RX1 41 RX1 "stand" "I") (by decide +kernel)) (fun _ h9 => h9) rfl dX1_sequence_141 ?_
                        refine lv_iload hx hb dX1_sequence_144 (lv_at hl 0 rfl) ?_
                        refine lv_iadd hx hb dX1_sequence_146 ?_
                        refine lv_topi (fun x_17 ex_17 => ?_)
                        obtain rfl : x_17 = nI (st + 1) := ex_17.trans (nI_add st 1)
                        refine va_iald hx hb hK hP 2 0 rfl rfl (vp_in_nI (n := st + 1) (by omega) (by omega)) dX1_sequence_147 ?_
                        refine lv_topi (fun x_18 ex_18 => ?_)
                        obtain rfl : x_18 = nI (kb (st + 1)) := ex_18.trans (congrArg (fun j => nI (kb j)) ((nI_clamp (by omega))))
                        have hb_19 := hkb (st + 1)
                        refine lv_istore (lv' := [(5, .int (nI (kb (st + 1)))), (4, .int 1), (3, .int (nI (kb st - 240))), (2, .int 4), (1, .int (nI (kb st))), (0, .ref g0)]) hx hb dX1_sequence_148 hl (by decide) rfl (fun ls hl => ?_)
                        refine lv_iload hx hb dX1_sequence_150 (lv_at hl 0 rfl) ?_
                        refine lv_sipush (v := 128) hx hb dX1_sequence_152 (by decide) ?_
                        refine lv_icmp_lt (tgt := 166) hx hb dX1_sequence_155 (by decide) (fun c_20 => ?_) (fun c_20 => ?_)
                        · have c_20 : kb (st + 1) < 128 := (nI_ltI (a := kb (st + 1)) (b := 128) (by omega) (by omega)).mp c_20
                          refine lv_iconst (v := -1) hx hb dX1_sequence_166 (by decide) ?_
                          have hP9 : va_P (dC, dI) vwCl (mw g0 g1 g2 cA (tb, n, kb, ln, rd, fp, st, mt, bg)) s.heap := hP
                          have hD9 : va_D A (mw g0 g1 g2 cA (tb, n, kb, ln, rd, fp, st, mt, bg)) := hD
                          exact W.iret (v := (-1)) hx hb hr (fun t ht hW => ⟨⟨(-1), (tb, n, kb, ln, rd, fp, st, mt, bg), rfl, (by simp only [seqN, seq1, seq2, seq3, seq4, finN, if_pos c_3, if_pos c_4, if_pos c_5, if_pos c_6, if_neg c_7, if_neg c_9, if_pos c_11, if_neg c_12, if_neg c_13, if_neg c_14, if_neg c_16, if_pos c_20, seqR_n, seqR_s, seqS_n, seqS_s, and_self]), by rw [ht]; exact hP9, va_K.moved hW.alike hK, hD9⟩, hS.F ht⟩) hS.2.2 dX1_sequence_167
                        · have c_20 : ¬ kb (st + 1) < 128 := fun zz => c_20 ((nI_ltI (a := kb (st + 1)) (b := 128) (by omega) (by omega)).mpr zz)
                          refine lv_iload hx hb dX1_sequence_158 (lv_at hl 0 rfl) ?_
                          refine lv_sipush (v := 191) hx hb dX1_sequence_160 (by decide) ?_
                          refine lv_icmp_le (tgt := 168) hx hb dX1_sequence_163 (by decide) (fun c_21 => ?_) (fun c_21 => ?_)
                          · have c_21 : kb (st + 1) ≤ 191 := (nI_leI (a := kb (st + 1)) (b := 191) (by omega) (by omega)).mp c_21
                            refine lv_bipush (v := 64) hx hb dX1_sequence_168 (by decide) ?_
                            refine lv_iload_n hx hb dX1_sequence_170 rfl (lv_at hl 2 rfl) ?_
                            refine lv_imul hx hb dX1_sequence_171 ?_
                            refine lv_topi (fun x_22 ex_22 => ?_)
                            obtain rfl : x_22 = nI (64 * (kb st - 240)) := ex_22.trans (pk_mul 64 (kb st - 240))
                            refine lv_iload hx hb dX1_sequence_172 (lv_at hl 0 rfl) ?_
                            refine lv_iadd hx hb dX1_sequence_174 ?_
                            refine lv_topi (fun x_23 ex_23 => ?_)
                            obtain rfl : x_23 = nI (64 * (kb st - 240) + (kb (st + 1))) := ex_23.trans (nI_add (64 * (kb st - 240)) (kb (st + 1)))
                            refine lv_sipush (v := 128) hx hb dX1_sequence_175 (by decide) ?_
                            refine lv_isub hx hb dX1_sequence_178 ?_
                            refine lv_topi (fun x_24 ex_24 => ?_)
                            obtain rfl : x_24 = nI (64 * (kb st - 240) + (kb (st + 1)) - 128) := ex_24.trans (pk_sub (a := 64 * (kb st - 240) + (kb (st + 1))) (b := 128) (by omega))
                            refine lv_istore_n (lv' := [(3, .int (nI (64 * (kb st - 240) + (kb (st + 1)) - 128))), (5, .int (nI (kb (st + 1)))), (4, .int 1), (2, .int 4), (1, .int (nI (kb st))), (0, .ref g0)]) hx hb dX1_sequence_179 rfl hl (by decide) rfl (fun ls hl => ?_)
                            refine lv_iinc (v := 2) (lv' := [(4, .int 2), (3, .int (nI (64 * (kb st - 240) + (kb (st + 1)) - 128))), (5, .int (nI (kb (st + 1)))), (2, .int 4), (1, .int (nI (kb st))), (0, .ref g0)]) hx hb dX1_sequence_180 hl (k := 2) rfl (by decide) (by decide) rfl (fun ls hl => ?_)
                            refine lv_goto (tgt := 130) hx hb dX1_sequence_183 (by decide) ?_
                            refine lv_iload hx hb dX1_sequence_130 (lv_at hl 0 rfl) ?_
                            refine lv_iload_n hx hb dX1_sequence_132 rfl (lv_at hl 3 rfl) ?_
                            refine lv_icmp_ge (tgt := 186) hx hb dX1_sequence_133 (by decide) (fun c_25 => ?_) (fun c_25 => ?_)
                            · exact absurd c_25 (by decide)
                            · have c_25 : ¬ 4 ≤ 2 := fun zz => c_25 ((nI_leI (a := 4) (b := 2) (by omega) (by omega)).mpr zz)
                              refine lv_aload_n hx hb dX1_sequence_136 rfl (lv_at hl 5 rfl) ?_
                              refine va_get (D := (dC, dI)) (ci := 1) (v := .ref g2) (C := RX1) (T := TX1) (N := 9) hx hb hts hIn hown hK hP 0 rfl rfl 2 (by decide) (hts (.fieldLink RX1 13 RX1 "kept" "[I") (by decide +kernel)) (fun _ h9 => h9) rfl dX1_sequence_137 ?_
                              refine lv_aload_n hx hb dX1_sequence_140 rfl (lv_at hl 5 rfl) ?_
                              refine va_get (D := (dC, dI)) (ci := 1) (v := .int (nI st)) (C := RX1) (T := TX1) (N := 9) hx hb hts hIn hown hK hP 0 rfl rfl 6 (by decide) (hts (.fieldLink RX1 41 RX1 "stand" "I") (by decide +kernel)) (fun _ h9 => h9) rfl dX1_sequence_141 ?_
                              refine lv_iload hx hb dX1_sequence_144 (lv_at hl 0 rfl) ?_
                              refine lv_iadd hx hb dX1_sequence_146 ?_
                              refine lv_topi (fun x_26 ex_26 => ?_)
                              obtain rfl : x_26 = nI (st + 2) := ex_26.trans (nI_add st 2)
                              refine va_iald hx hb hK hP 2 0 rfl rfl (vp_in_nI (n := st + 2) (by omega) (by omega)) dX1_sequence_147 ?_
                              refine lv_topi (fun x_27 ex_27 => ?_)
                              obtain rfl : x_27 = nI (kb (st + 2)) := ex_27.trans (congrArg (fun j => nI (kb j)) ((nI_clamp (by omega))))
                              have hb_28 := hkb (st + 2)
                              refine lv_istore (lv' := [(5, .int (nI (kb (st + 2)))), (4, .int 2), (3, .int (nI (64 * (kb st - 240) + (kb (st + 1)) - 128))), (2, .int 4), (1, .int (nI (kb st))), (0, .ref g0)]) hx hb dX1_sequence_148 hl (by decide) rfl (fun ls hl => ?_)
                              refine lv_iload hx hb dX1_sequence_150 (lv_at hl 0 rfl) ?_
                              refine lv_sipush (v := 128) hx hb dX1_sequence_152 (by decide) ?_
                              refine lv_icmp_lt (tgt := 166) hx hb dX1_sequence_155 (by decide) (fun c_29 => ?_) (fun c_29 => ?_)
                              · have c_29 : kb (st + 2) < 128 := (nI_ltI (a := kb (st + 2)) (b := 128) (by omega) (by omega)).mp c_29
                                refine lv_iconst (v := -1) hx hb dX1_sequence_166 (by decide) ?_
                                have hP9 : va_P (dC, dI) vwCl (mw g0 g1 g2 cA (tb, n, kb, ln, rd, fp, st, mt, bg)) s.heap := hP
                                have hD9 : va_D A (mw g0 g1 g2 cA (tb, n, kb, ln, rd, fp, st, mt, bg)) := hD
                                exact W.iret (v := (-1)) hx hb hr (fun t ht hW => ⟨⟨(-1), (tb, n, kb, ln, rd, fp, st, mt, bg), rfl, (by simp only [seqN, seq1, seq2, seq3, seq4, finN, if_pos c_3, if_pos c_4, if_pos c_5, if_pos c_6, if_neg c_7, if_neg c_9, if_pos c_11, if_neg c_12, if_neg c_13, if_neg c_14, if_neg c_16, if_neg c_20, if_pos c_21, if_neg c_25, if_pos c_29, seqR_n, seqR_s, seqS_n, seqS_s, and_self]), by rw [ht]; exact hP9, va_K.moved hW.alike hK, hD9⟩, hS.F ht⟩) hS.2.2 dX1_sequence_167
                              · have c_29 : ¬ kb (st + 2) < 128 := fun zz => c_29 ((nI_ltI (a := kb (st + 2)) (b := 128) (by omega) (by omega)).mpr zz)
                                refine lv_iload hx hb dX1_sequence_158 (lv_at hl 0 rfl) ?_
                                refine lv_sipush (v := 191) hx hb dX1_sequence_160 (by decide) ?_
                                refine lv_icmp_le (tgt := 168) hx hb dX1_sequence_163 (by decide) (fun c_30 => ?_) (fun c_30 => ?_)
                                · have c_30 : kb (st + 2) ≤ 191 := (nI_leI (a := kb (st + 2)) (b := 191) (by omega) (by omega)).mp c_30
                                  refine lv_bipush (v := 64) hx hb dX1_sequence_168 (by decide) ?_
                                  refine lv_iload_n hx hb dX1_sequence_170 rfl (lv_at hl 2 rfl) ?_
                                  refine lv_imul hx hb dX1_sequence_171 ?_
                                  refine lv_topi (fun x_31 ex_31 => ?_)
                                  obtain rfl : x_31 = nI (64 * (64 * (kb st - 240) + (kb (st + 1)) - 128)) := ex_31.trans (pk_mul 64 (64 * (kb st - 240) + (kb (st + 1)) - 128))
                                  refine lv_iload hx hb dX1_sequence_172 (lv_at hl 0 rfl) ?_
                                  refine lv_iadd hx hb dX1_sequence_174 ?_
                                  refine lv_topi (fun x_32 ex_32 => ?_)
                                  obtain rfl : x_32 = nI (64 * (64 * (kb st - 240) + (kb (st + 1)) - 128) + (kb (st + 2))) := ex_32.trans (nI_add (64 * (64 * (kb st - 240) + (kb (st + 1)) - 128)) (kb (st + 2)))
                                  refine lv_sipush (v := 128) hx hb dX1_sequence_175 (by decide) ?_
                                  refine lv_isub hx hb dX1_sequence_178 ?_
                                  refine lv_topi (fun x_33 ex_33 => ?_)
                                  obtain rfl : x_33 = nI (64 * (64 * (kb st - 240) + (kb (st + 1)) - 128) + (kb (st + 2)) - 128) := ex_33.trans (pk_sub (a := 64 * (64 * (kb st - 240) + (kb (st + 1)) - 128) + (kb (st + 2))) (b := 128) (by omega))
                                  refine lv_istore_n (lv' := [(3, .int (nI (64 * (64 * (kb st - 240) + (kb (st + 1)) - 128) + (kb (st + 2)) - 128))), (5, .int (nI (kb (st + 2)))), (4, .int 2), (2, .int 4), (1, .int (nI (kb st))), (0, .ref g0)]) hx hb dX1_sequence_179 rfl hl (by decide) rfl (fun ls hl => ?_)
                                  refine lv_iinc (v := 3) (lv' := [(4, .int 3), (3, .int (nI (64 * (64 * (kb st - 240) + (kb (st + 1)) - 128) + (kb (st + 2)) - 128))), (5, .int (nI (kb (st + 2)))), (2, .int 4), (1, .int (nI (kb st))), (0, .ref g0)]) hx hb dX1_sequence_180 hl (k := 2) rfl (by decide) (by decide) rfl (fun ls hl => ?_)
                                  refine lv_goto (tgt := 130) hx hb dX1_sequence_183 (by decide) ?_
                                  refine lv_iload hx hb dX1_sequence_130 (lv_at hl 0 rfl) ?_
                                  refine lv_iload_n hx hb dX1_sequence_132 rfl (lv_at hl 3 rfl) ?_
                                  refine lv_icmp_ge (tgt := 186) hx hb dX1_sequence_133 (by decide) (fun c_34 => ?_) (fun c_34 => ?_)
                                  · exact absurd c_34 (by decide)
                                  · have c_34 : ¬ 4 ≤ 3 := fun zz => c_34 ((nI_leI (a := 4) (b := 3) (by omega) (by omega)).mpr zz)
                                    refine lv_aload_n hx hb dX1_sequence_136 rfl (lv_at hl 5 rfl) ?_
                                    refine va_get (D := (dC, dI)) (ci := 1) (v := .ref g2) (C := RX1) (T := TX1) (N := 9) hx hb hts hIn hown hK hP 0 rfl rfl 2 (by decide) (hts (.fieldLink RX1 13 RX1 "kept" "[I") (by decide +kernel)) (fun _ h9 => h9) rfl dX1_sequence_137 ?_
                                    refine lv_aload_n hx hb dX1_sequence_140 rfl (lv_at hl 5 rfl) ?_
                                    refine va_get (D := (dC, dI)) (ci := 1) (v := .int (nI st)) (C := RX1) (T := TX1) (N := 9) hx hb hts hIn hown hK hP 0 rfl rfl 6 (by decide) (hts (.fieldLink RX1 41 RX1 "stand" "I") (by decide +kernel)) (fun _ h9 => h9) rfl dX1_sequence_141 ?_
                                    refine lv_iload hx hb dX1_sequence_144 (lv_at hl 0 rfl) ?_
                                    refine lv_iadd hx hb dX1_sequence_146 ?_
                                    refine lv_topi (fun x_35 ex_35 => ?_)
                                    obtain rfl : x_35 = nI (st + 3) := ex_35.trans (nI_add st 3)
                                    refine va_iald hx hb hK hP 2 0 rfl rfl (vp_in_nI (n := st + 3) (by omega) (by omega)) dX1_sequence_147 ?_
                                    refine lv_topi (fun x_36 ex_36 => ?_)
                                    obtain rfl : x_36 = nI (kb (st + 3)) := ex_36.trans (congrArg (fun j => nI (kb j)) ((nI_clamp (by omega))))
                                    have hb_37 := hkb (st + 3)
                                    refine lv_istore (lv' := [(5, .int (nI (kb (st + 3)))), (4, .int 3), (3, .int (nI (64 * (64 * (kb st - 240) + (kb (st + 1)) - 128) + (kb (st + 2)) - 128))), (2, .int 4), (1, .int (nI (kb st))), (0, .ref g0)]) hx hb dX1_sequence_148 hl (by decide) rfl (fun ls hl => ?_)
                                    refine lv_iload hx hb dX1_sequence_150 (lv_at hl 0 rfl) ?_
                                    refine lv_sipush (v := 128) hx hb dX1_sequence_152 (by decide) ?_
                                    refine lv_icmp_lt (tgt := 166) hx hb dX1_sequence_155 (by decide) (fun c_38 => ?_) (fun c_38 => ?_)
                                    · have c_38 : kb (st + 3) < 128 := (nI_ltI (a := kb (st + 3)) (b := 128) (by omega) (by omega)).mp c_38
                                      refine lv_iconst (v := -1) hx hb dX1_sequence_166 (by decide) ?_
                                      have hP9 : va_P (dC, dI) vwCl (mw g0 g1 g2 cA (tb, n, kb, ln, rd, fp, st, mt, bg)) s.heap := hP
                                      have hD9 : va_D A (mw g0 g1 g2 cA (tb, n, kb, ln, rd, fp, st, mt, bg)) := hD
                                      exact W.iret (v := (-1)) hx hb hr (fun t ht hW => ⟨⟨(-1), (tb, n, kb, ln, rd, fp, st, mt, bg), rfl, (by simp only [seqN, seq1, seq2, seq3, seq4, finN, if_pos c_3, if_pos c_4, if_pos c_5, if_pos c_6, if_neg c_7, if_neg c_9, if_pos c_11, if_neg c_12, if_neg c_13, if_neg c_14, if_neg c_16, if_neg c_20, if_pos c_21, if_neg c_25, if_neg c_29, if_pos c_30, if_neg c_34, if_pos c_38, seqR_n, seqR_s, seqS_n, seqS_s, and_self]), by rw [ht]; exact hP9, va_K.moved hW.alike hK, hD9⟩, hS.F ht⟩) hS.2.2 dX1_sequence_167
                                    · have c_38 : ¬ kb (st + 3) < 128 := fun zz => c_38 ((nI_ltI (a := kb (st + 3)) (b := 128) (by omega) (by omega)).mpr zz)
                                      refine lv_iload hx hb dX1_sequence_158 (lv_at hl 0 rfl) ?_
                                      refine lv_sipush (v := 191) hx hb dX1_sequence_160 (by decide) ?_
                                      refine lv_icmp_le (tgt := 168) hx hb dX1_sequence_163 (by decide) (fun c_39 => ?_) (fun c_39 => ?_)
                                      · have c_39 : kb (st + 3) ≤ 191 := (nI_leI (a := kb (st + 3)) (b := 191) (by omega) (by omega)).mp c_39
                                        refine lv_bipush (v := 64) hx hb dX1_sequence_168 (by decide) ?_
                                        refine lv_iload_n hx hb dX1_sequence_170 rfl (lv_at hl 2 rfl) ?_
                                        refine lv_imul hx hb dX1_sequence_171 ?_
                                        refine lv_topi (fun x_40 ex_40 => ?_)
                                        obtain rfl : x_40 = nI (64 * (64 * (64 * (kb st - 240) + (kb (st + 1)) - 128) + (kb (st + 2)) - 128)) := ex_40.trans (pk_mul 64 (64 * (64 * (kb st - 240) + (kb (st + 1)) - 128) + (kb (st + 2)) - 128))
                                        refine lv_iload hx hb dX1_sequence_172 (lv_at hl 0 rfl) ?_
                                        refine lv_iadd hx hb dX1_sequence_174 ?_
                                        refine lv_topi (fun x_41 ex_41 => ?_)
                                        obtain rfl : x_41 = nI (64 * (64 * (64 * (kb st - 240) + (kb (st + 1)) - 128) + (kb (st + 2)) - 128) + (kb (st + 3))) := ex_41.trans (nI_add (64 * (64 * (64 * (kb st - 240) + (kb (st + 1)) - 128) + (kb (st + 2)) - 128)) (kb (st + 3)))
                                        refine lv_sipush (v := 128) hx hb dX1_sequence_175 (by decide) ?_
                                        refine lv_isub hx hb dX1_sequence_178 ?_
                                        refine lv_topi (fun x_42 ex_42 => ?_)
                                        obtain rfl : x_42 = nI (64 * (64 * (64 * (kb st - 240) + (kb (st + 1)) - 128) + (kb (st + 2)) - 128) + (kb (st + 3)) - 128) := ex_42.trans (pk_sub (a := 64 * (64 * (64 * (kb st - 240) + (kb (st + 1)) - 128) + (kb (st + 2)) - 128) + (kb (st + 3))) (b := 128) (by omega))
                                        refine lv_istore_n (lv' := [(3, .int (nI (64 * (64 * (64 * (kb st - 240) + (kb (st + 1)) - 128) + (kb (st + 2)) - 128) + (kb (st + 3)) - 128))), (5, .int (nI (kb (st + 3)))), (4, .int 3), (2, .int 4), (1, .int (nI (kb st))), (0, .ref g0)]) hx hb dX1_sequence_179 rfl hl (by decide) rfl (fun ls hl => ?_)
                                        refine lv_iinc (v := 4) (lv' := [(4, .int 4), (3, .int (nI (64 * (64 * (64 * (kb st - 240) + (kb (st + 1)) - 128) + (kb (st + 2)) - 128) + (kb (st + 3)) - 128))), (5, .int (nI (kb (st + 3)))), (2, .int 4), (1, .int (nI (kb st))), (0, .ref g0)]) hx hb dX1_sequence_180 hl (k := 2) rfl (by decide) (by decide) rfl (fun ls hl => ?_)
                                        refine lv_goto (tgt := 130) hx hb dX1_sequence_183 (by decide) ?_
                                        refine lv_iload hx hb dX1_sequence_130 (lv_at hl 0 rfl) ?_
                                        refine lv_iload_n hx hb dX1_sequence_132 rfl (lv_at hl 3 rfl) ?_
                                        refine lv_icmp_ge (tgt := 186) hx hb dX1_sequence_133 (by decide) (fun c_43 => ?_) (fun c_43 => ?_)
                                        · have c_43 : 4 ≤ 4 := (nI_leI (a := 4) (b := 4) (by omega) (by omega)).mp c_43
                                          refine lv_iload_n hx hb dX1_sequence_186 rfl (lv_at hl 1 rfl) ?_
                                          refine vp_callSi (W.runS (As := [.int (nI (64 * (64 * (64 * (kb st - 240) + (kb (st + 1)) - 128) + (kb (st + 2)) - 128) + (kb (st + 3)) - 128))]) (rest := []) ⟨hx, hb, hml, hown, hts⟩ (c_X1_has l (nI (64 * (64 * (64 * (kb st - 240) + (kb (st + 1)) - 128) + (kb (st + 2)) - 128) + (kb (st + 3)) - 128))) (va_cwS 1 hts gX1_sequence_X1_has rfl rfl rfl (by decide +kernel) ⟨Nat.le_of_ble_eq_true rfl, Nat.le_of_ble_eq_true rfl⟩) ⟨fun _ _ _ _ q => q, fun U hU hW => ⟨rfl, trivial⟩⟩ rfl rfl hl.1 rfl (lv_room (Nat.le_of_ble_eq_true rfl)) dX1_sequence_187 ⟨Nat.le_of_ble_eq_true rfl, Nat.le_of_ble_eq_true rfl⟩) (fun r_44 er_44 => ?_)
                                          obtain rfl : r_44 = bI (mHas (nI (64 * (64 * (64 * (kb st - 240) + (kb (st + 1)) - 128) + (kb (st + 2)) - 128) + (kb (st + 3)) - 128))) := er_44
                                          refine lv_if_eq (tgt := 201) hx hb dX1_sequence_190 (by decide) (fun c_45 => ?_) (fun c_45 => ?_)
                                          · have c_45 := bI_0 c_45
                                            refine lv_iconst (v := -1) hx hb dX1_sequence_201 (by decide) ?_
                                            have hP9 : va_P (dC, dI) vwCl (mw g0 g1 g2 cA (tb, n, kb, ln, rd, fp, st, mt, bg)) s.heap := hP
                                            have hD9 : va_D A (mw g0 g1 g2 cA (tb, n, kb, ln, rd, fp, st, mt, bg)) := hD
                                            exact W.iret (v := (-1)) hx hb hr (fun t ht hW => ⟨⟨(-1), (tb, n, kb, ln, rd, fp, st, mt, bg), rfl, (by simp only [seqN, seq1, seq2, seq3, seq4, finN, if_pos c_3, if_pos c_4, if_pos c_5, if_pos c_6, if_neg c_7, if_neg c_9, if_pos c_11, if_neg c_12, if_neg c_13, if_neg c_14, if_neg c_16, if_neg c_20, if_pos c_21, if_neg c_25, if_neg c_29, if_pos c_30, if_neg c_34, if_neg c_38, if_pos c_39, if_pos c_43, if_neg c_45, seqR_n, seqR_s, seqS_n, seqS_s, and_self]), by rw [ht]; exact hP9, va_K.moved hW.alike hK, hD9⟩, hS.F ht⟩) hS.2.2 dX1_sequence_202
                                          · have c_45 := bI_n0 c_45
                                            refine lv_iload_n hx hb dX1_sequence_193 rfl (lv_at hl 1 rfl) ?_
                                            refine vp_callSi (W.runS (As := [.int (nI (64 * (64 * (64 * (kb st - 240) + (kb (st + 1)) - 128) + (kb (st + 2)) - 128) + (kb (st + 3)) - 128))]) (rest := []) ⟨hx, hb, hml, hown, hts⟩ (c_X1_sizeOf l (nI (64 * (64 * (64 * (kb st - 240) + (kb (st + 1)) - 128) + (kb (st + 2)) - 128) + (kb (st + 3)) - 128))) (va_cwS 1 hts gX1_sequence_X1_sizeOf rfl rfl rfl (by decide +kernel) ⟨Nat.le_of_ble_eq_true rfl, Nat.le_of_ble_eq_true rfl⟩) ⟨fun _ _ _ _ q => q, fun U hU hW => ⟨rfl, trivial⟩⟩ rfl rfl hl.1 rfl (lv_room (Nat.le_of_ble_eq_true rfl)) dX1_sequence_194 ⟨Nat.le_of_ble_eq_true rfl, Nat.le_of_ble_eq_true rfl⟩) (fun r_46 er_46 => ?_)
                                            obtain rfl : r_46 = mSize (nI (64 * (64 * (64 * (kb st - 240) + (kb (st + 1)) - 128) + (kb (st + 2)) - 128) + (kb (st + 3)) - 128)) := er_46
                                            refine lv_iload_n hx hb dX1_sequence_197 rfl (lv_at hl 3 rfl) ?_
                                            refine lv_icmp_eq (tgt := 203) hx hb dX1_sequence_198 (by decide) (fun c_47 => ?_) (fun c_47 => ?_)
                                            · refine lv_aload_n hx hb dX1_sequence_203 rfl (lv_at hl 5 rfl) ?_
                                              refine lv_aload_n hx hb dX1_sequence_204 rfl (lv_at hl 5 rfl) ?_
                                              refine va_get (D := (dC, dI)) (ci := 1) (v := .int (nI st)) (C := RX1) (T := TX1) (N := 9) hx hb hts hIn hown hK hP 0 rfl rfl 6 (by decide) (hts (.fieldLink RX1 41 RX1 "stand" "I") (by decide +kernel)) (fun _ h9 => h9) rfl dX1_sequence_205 ?_
                                              refine lv_iload_n hx hb dX1_sequence_208 rfl (lv_at hl 3 rfl) ?_
                                              refine lv_iadd hx hb dX1_sequence_209 ?_
                                              refine lv_topi (fun x_48 ex_48 => ?_)
                                              obtain rfl : x_48 = nI (st + 4) := ex_48.trans (nI_add st 4)
                                              refine va_put (D := (dC, dI)) (ci := 1) (v := .int (nI (st + 4))) (ty := .int) (C := RX1) (T := TX1) (N := 9) hx hb hts hIn tyX1 tyX1_ok nmX1 hown hK hP hD hS 0 rfl rfl 6 (by decide) (hts (.fieldLink RX1 41 RX1 "stand" "I") (by decide +kernel)) (fun _ h9 => h9) rfl (by decide +kernel) rfl rfl (Nat.le_of_ble_eq_true rfl) dX1_sequence_210 (fun H locs hP hD hS => ?_)
                                              have hP : va_P (dC, dI) vwCl [(g0, .inr (1, [.ref g1, .int (nI n), .ref g2, .int (nI ln), .int (bI rd), .int fp, .int (nI (st + 4)), .int mt, .int bg])), (g1, .inl (cA, 1000, .inl (fun j => nI (tb j)))), (g2, .inl (cA, 1000, .inl (fun j => nI (kb j))))] H := hP
                                              have hD : va_D A [(g0, .inr (1, [.ref g1, .int (nI n), .ref g2, .int (nI ln), .int (bI rd), .int fp, .int (nI (st + 4)), .int mt, .int bg])), (g1, .inl (cA, 1000, .inl (fun j => nI (tb j)))), (g2, .inl (cA, 1000, .inl (fun j => nI (kb j))))] := hD
                                              refine lv_iload_n hx hb dX1_sequence_213 rfl (lv_at hl 1 rfl) ?_
                                              have hP9 : va_P (dC, dI) vwCl (mw g0 g1 g2 cA (tb, n, kb, ln, rd, fp, (st + 4), mt, bg)) H := hP
                                              have hD9 : va_D A (mw g0 g1 g2 cA (tb, n, kb, ln, rd, fp, (st + 4), mt, bg)) := hD
                                              exact W.iret (v := nI (64 * (64 * (64 * (kb st - 240) + (kb (st + 1)) - 128) + (kb (st + 2)) - 128) + (kb (st + 3)) - 128)) hx hb hr (fun t ht hW => ⟨⟨nI (64 * (64 * (64 * (kb st - 240) + (kb (st + 1)) - 128) + (kb (st + 2)) - 128) + (kb (st + 3)) - 128), (tb, n, kb, ln, rd, fp, (st + 4), mt, bg), rfl, (by simp only [seqN, seq1, seq2, seq3, seq4, finN, if_pos c_3, if_pos c_4, if_pos c_5, if_pos c_6, if_neg c_7, if_neg c_9, if_pos c_11, if_neg c_12, if_neg c_13, if_neg c_14, if_neg c_16, if_neg c_20, if_pos c_21, if_neg c_25, if_neg c_29, if_pos c_30, if_neg c_34, if_neg c_38, if_pos c_39, if_pos c_43, if_pos c_45, if_pos c_47, seqR_n, seqR_s, seqS_n, seqS_s, and_self]), by rw [ht]; exact hP9, va_K.moved hW.alike hK, hD9⟩, hS.F ht⟩) hS.2.2 dX1_sequence_214
                                            · refine lv_iconst (v := -1) hx hb dX1_sequence_201 (by decide) ?_
                                              have hP9 : va_P (dC, dI) vwCl (mw g0 g1 g2 cA (tb, n, kb, ln, rd, fp, st, mt, bg)) s.heap := hP
                                              have hD9 : va_D A (mw g0 g1 g2 cA (tb, n, kb, ln, rd, fp, st, mt, bg)) := hD
                                              exact W.iret (v := (-1)) hx hb hr (fun t ht hW => ⟨⟨(-1), (tb, n, kb, ln, rd, fp, st, mt, bg), rfl, (by simp only [seqN, seq1, seq2, seq3, seq4, finN, if_pos c_3, if_pos c_4, if_pos c_5, if_pos c_6, if_neg c_7, if_neg c_9, if_pos c_11, if_neg c_12, if_neg c_13, if_neg c_14, if_neg c_16, if_neg c_20, if_pos c_21, if_neg c_25, if_neg c_29, if_pos c_30, if_neg c_34, if_neg c_38, if_pos c_39, if_pos c_43, if_pos c_45, if_neg c_47, seqR_n, seqR_s, seqS_n, seqS_s, and_self]), by rw [ht]; exact hP9, va_K.moved hW.alike hK, hD9⟩, hS.F ht⟩) hS.2.2 dX1_sequence_202
                                        · exact absurd c_43 (by decide)
                                      · have c_39 : ¬ kb (st + 3) ≤ 191 := fun zz => c_39 ((nI_leI (a := kb (st + 3)) (b := 191) (by omega) (by omega)).mpr zz)
                                        refine lv_iconst (v := -1) hx hb dX1_sequence_166 (by decide) ?_
                                        have hP9 : va_P (dC, dI) vwCl (mw g0 g1 g2 cA (tb, n, kb, ln, rd, fp, st, mt, bg)) s.heap := hP
                                        have hD9 : va_D A (mw g0 g1 g2 cA (tb, n, kb, ln, rd, fp, st, mt, bg)) := hD
                                        exact W.iret (v := (-1)) hx hb hr (fun t ht hW => ⟨⟨(-1), (tb, n, kb, ln, rd, fp, st, mt, bg), rfl, (by simp only [seqN, seq1, seq2, seq3, seq4, finN, if_pos c_3, if_pos c_4, if_pos c_5, if_pos c_6, if_neg c_7, if_neg c_9, if_pos c_11, if_neg c_12, if_neg c_13, if_neg c_14, if_neg c_16, if_neg c_20, if_pos c_21, if_neg c_25, if_neg c_29, if_pos c_30, if_neg c_34, if_neg c_38, if_neg c_39, seqR_n, seqR_s, seqS_n, seqS_s, and_self]), by rw [ht]; exact hP9, va_K.moved hW.alike hK, hD9⟩, hS.F ht⟩) hS.2.2 dX1_sequence_167
                                · have c_30 : ¬ kb (st + 2) ≤ 191 := fun zz => c_30 ((nI_leI (a := kb (st + 2)) (b := 191) (by omega) (by omega)).mpr zz)
                                  refine lv_iconst (v := -1) hx hb dX1_sequence_166 (by decide) ?_
                                  have hP9 : va_P (dC, dI) vwCl (mw g0 g1 g2 cA (tb, n, kb, ln, rd, fp, st, mt, bg)) s.heap := hP
                                  have hD9 : va_D A (mw g0 g1 g2 cA (tb, n, kb, ln, rd, fp, st, mt, bg)) := hD
                                  exact W.iret (v := (-1)) hx hb hr (fun t ht hW => ⟨⟨(-1), (tb, n, kb, ln, rd, fp, st, mt, bg), rfl, (by simp only [seqN, seq1, seq2, seq3, seq4, finN, if_pos c_3, if_pos c_4, if_pos c_5, if_pos c_6, if_neg c_7, if_neg c_9, if_pos c_11, if_neg c_12, if_neg c_13, if_neg c_14, if_neg c_16, if_neg c_20, if_pos c_21, if_neg c_25, if_neg c_29, if_neg c_30, seqR_n, seqR_s, seqS_n, seqS_s, and_self]), by rw [ht]; exact hP9, va_K.moved hW.alike hK, hD9⟩, hS.F ht⟩) hS.2.2 dX1_sequence_167
                          · have c_21 : ¬ kb (st + 1) ≤ 191 := fun zz => c_21 ((nI_leI (a := kb (st + 1)) (b := 191) (by omega) (by omega)).mpr zz)
                            refine lv_iconst (v := -1) hx hb dX1_sequence_166 (by decide) ?_
                            have hP9 : va_P (dC, dI) vwCl (mw g0 g1 g2 cA (tb, n, kb, ln, rd, fp, st, mt, bg)) s.heap := hP
                            have hD9 : va_D A (mw g0 g1 g2 cA (tb, n, kb, ln, rd, fp, st, mt, bg)) := hD
                            exact W.iret (v := (-1)) hx hb hr (fun t ht hW => ⟨⟨(-1), (tb, n, kb, ln, rd, fp, st, mt, bg), rfl, (by simp only [seqN, seq1, seq2, seq3, seq4, finN, if_pos c_3, if_pos c_4, if_pos c_5, if_pos c_6, if_neg c_7, if_neg c_9, if_pos c_11, if_neg c_12, if_neg c_13, if_neg c_14, if_neg c_16, if_neg c_20, if_neg c_21, seqR_n, seqR_s, seqS_n, seqS_s, and_self]), by rw [ht]; exact hP9, va_K.moved hW.alike hK, hD9⟩, hS.F ht⟩) hS.2.2 dX1_sequence_167
                    · exact absurd c_14 (by decide)
                  · exact absurd c_13 (by decide)
                · exact absurd c_12 (by decide)
              · have c_11 : ¬ st + 4 ≤ ln := fun zz => c_11 ((nI_leI (a := st + 4) (b := ln) (by omega) (by omega)).mpr zz)
                refine lv_iconst (v := -1) hx hb dX1_sequence_84 (by decide) ?_
                have hP9 : va_P (dC, dI) vwCl (mw g0 g1 g2 cA (tb, n, kb, ln, rd, fp, st, mt, bg)) s.heap := hP
                have hD9 : va_D A (mw g0 g1 g2 cA (tb, n, kb, ln, rd, fp, st, mt, bg)) := hD
                exact W.iret (v := (-1)) hx hb hr (fun t ht hW => ⟨⟨(-1), (tb, n, kb, ln, rd, fp, st, mt, bg), rfl, (by simp only [seqN, seq1, seq2, seq3, seq4, finN, if_pos c_3, if_pos c_4, if_pos c_5, if_pos c_6, if_neg c_7, if_neg c_9, if_neg c_11, seqR_n, seqR_s, seqS_n, seqS_s, and_self]), by rw [ht]; exact hP9, va_K.moved hW.alike hK, hD9⟩, hS.F ht⟩) hS.2.2 dX1_sequence_85
        · have c_6 : ¬ 240 ≤ kb st := fun zz => c_6 ((nI_leI (a := 240) (b := kb st) (by omega) (by omega)).mpr zz)
          refine lv_iconst (v := 3) hx hb dX1_sequence_50 (by decide) ?_
          refine lv_goto (tgt := 66) hx hb dX1_sequence_51 (by decide) ?_
          refine lv_istore_n (lv' := [(2, .int 3), (1, .int (nI (kb st))), (0, .ref g0)]) hx hb dX1_sequence_66 rfl hl (by decide) rfl (fun ls hl => ?_)
          refine lv_iload_n hx hb dX1_sequence_67 rfl (lv_at hl 0 rfl) ?_
          refine lv_if_eq (tgt := 84) hx hb dX1_sequence_68 (by decide) (fun c_49 => ?_) (fun c_49 => ?_)
          · exact absurd c_49 (by decide)
          · have c_49 : ¬ 3 = 0 := fun zz => c_49 ((nI_eq (a := 3) (b := 0) (by omega) (by omega)).mpr zz)
            refine lv_aload_n hx hb dX1_sequence_71 rfl (lv_at hl 2 rfl) ?_
            refine va_get (D := (dC, dI)) (ci := 1) (v := .int (nI st)) (C := RX1) (T := TX1) (N := 9) hx hb hts hIn hown hK hP 0 rfl rfl 6 (by decide) (hts (.fieldLink RX1 41 RX1 "stand" "I") (by decide +kernel)) (fun _ h9 => h9) rfl dX1_sequence_72 ?_
            refine lv_iload_n hx hb dX1_sequence_75 rfl (lv_at hl 0 rfl) ?_
            refine lv_iadd hx hb dX1_sequence_76 ?_
            refine lv_topi (fun x_50 ex_50 => ?_)
            obtain rfl : x_50 = nI (st + 3) := ex_50.trans (nI_add st 3)
            refine lv_aload_n hx hb dX1_sequence_77 rfl (lv_at hl 2 rfl) ?_
            refine va_get (D := (dC, dI)) (ci := 1) (v := .int (nI ln)) (C := RX1) (T := TX1) (N := 9) hx hb hts hIn hown hK hP 0 rfl rfl 3 (by decide) (hts (.fieldLink RX1 44 RX1 "length" "I") (by decide +kernel)) (fun _ h9 => h9) rfl dX1_sequence_78 ?_
            refine lv_icmp_le (tgt := 86) hx hb dX1_sequence_81 (by decide) (fun c_51 => ?_) (fun c_51 => ?_)
            · have c_51 : st + 3 ≤ ln := (nI_leI (a := st + 3) (b := ln) (by omega) (by omega)).mp c_51
              refine lv_iload_n hx hb dX1_sequence_86 rfl (lv_at hl 0 rfl) ?_
              refine lv_iconst (v := 1) hx hb dX1_sequence_87 (by decide) ?_
              refine lv_icmp_ne (tgt := 95) hx hb dX1_sequence_88 (by decide) (fun c_52 => ?_) (fun c_52 => ?_)
              · have c_52 : ¬ 3 = 1 := fun zz => c_52 ((nI_eq (a := 3) (b := 1) (by omega) (by omega)).mpr zz)
                refine lv_iload_n hx hb dX1_sequence_95 rfl (lv_at hl 0 rfl) ?_
                refine lv_iconst (v := 2) hx hb dX1_sequence_96 (by decide) ?_
                refine lv_icmp_ne (tgt := 108) hx hb dX1_sequence_97 (by decide) (fun c_53 => ?_) (fun c_53 => ?_)
                · have c_53 : ¬ 3 = 2 := fun zz => c_53 ((nI_eq (a := 3) (b := 2) (by omega) (by omega)).mpr zz)
                  refine lv_iload_n hx hb dX1_sequence_108 rfl (lv_at hl 0 rfl) ?_
                  refine lv_iconst (v := 3) hx hb dX1_sequence_109 (by decide) ?_
                  refine lv_icmp_ne (tgt := 121) hx hb dX1_sequence_110 (by decide) (fun c_54 => ?_) (fun c_54 => ?_)
                  · exact absurd c_54 (by decide)
                  · have c_54 : 3 = 3 := (nI_eq (a := 3) (b := 3) (by omega) (by omega)).mp c_54
                    refine lv_iload_n hx hb dX1_sequence_113 rfl (lv_at hl 1 rfl) ?_
                    refine lv_sipush (v := 224) hx hb dX1_sequence_114 (by decide) ?_
                    refine lv_isub hx hb dX1_sequence_117 ?_
                    refine lv_topi (fun x_55 ex_55 => ?_)
                    obtain rfl : x_55 = nI (kb st - 224) := ex_55.trans (pk_sub (a := kb st) (b := 224) (by omega))
                    refine lv_goto (tgt := 126) hx hb dX1_sequence_118 (by decide) ?_
                    refine lv_istore_n (lv' := [(3, .int (nI (kb st - 224))), (2, .int 3), (1, .int (nI (kb st))), (0, .ref g0)]) hx hb dX1_sequence_126 rfl hl (by decide) rfl (fun ls hl => ?_)
                    refine lv_iconst (v := 1) hx hb dX1_sequence_127 (by decide) ?_
                    refine lv_istore (lv' := [(4, .int 1), (3, .int (nI (kb st - 224))), (2, .int 3), (1, .int (nI (kb st))), (0, .ref g0)]) hx hb dX1_sequence_128 hl (by decide) rfl (fun ls hl => ?_)
                    refine lv_iload hx hb dX1_sequence_130 (lv_at hl 0 rfl) ?_
                    refine lv_iload_n hx hb dX1_sequence_132 rfl (lv_at hl 2 rfl) ?_
                    refine lv_icmp_ge (tgt := 186) hx hb dX1_sequence_133 (by decide) (fun c_56 => ?_) (fun c_56 => ?_)
                    · exact absurd c_56 (by decide)
                    · have c_56 : ¬ 3 ≤ 1 := fun zz => c_56 ((nI_leI (a := 3) (b := 1) (by omega) (by omega)).mpr zz)
                      refine lv_aload_n hx hb dX1_sequence_136 rfl (lv_at hl 4 rfl) ?_
                      refine va_get (D := (dC, dI)) (ci := 1) (v := .ref g2) (C := RX1) (T := TX1) (N := 9) hx hb hts hIn hown hK hP 0 rfl rfl 2 (by decide) (hts (.fieldLink RX1 13 RX1 "kept" "[I") (by decide +kernel)) (fun _ h9 => h9) rfl dX1_sequence_137 ?_
                      refine lv_aload_n hx hb dX1_sequence_140 rfl (lv_at hl 4 rfl) ?_
                      refine va_get (D := (dC, dI)) (ci := 1) (v := .int (nI st)) (C := RX1) (T := TX1) (N := 9) hx hb hts hIn hown hK hP 0 rfl rfl 6 (by decide) (hts (.fieldLink RX1 41 RX1 "stand" "I") (by decide +kernel)) (fun _ h9 => h9) rfl dX1_sequence_141 ?_
                      refine lv_iload hx hb dX1_sequence_144 (lv_at hl 0 rfl) ?_
                      refine lv_iadd hx hb dX1_sequence_146 ?_
                      refine lv_topi (fun x_57 ex_57 => ?_)
                      obtain rfl : x_57 = nI (st + 1) := ex_57.trans (nI_add st 1)
                      refine va_iald hx hb hK hP 2 0 rfl rfl (vp_in_nI (n := st + 1) (by omega) (by omega)) dX1_sequence_147 ?_
                      refine lv_topi (fun x_58 ex_58 => ?_)
                      obtain rfl : x_58 = nI (kb (st + 1)) := ex_58.trans (congrArg (fun j => nI (kb j)) ((nI_clamp (by omega))))
                      have hb_59 := hkb (st + 1)
                      refine lv_istore (lv' := [(5, .int (nI (kb (st + 1)))), (4, .int 1), (3, .int (nI (kb st - 224))), (2, .int 3), (1, .int (nI (kb st))), (0, .ref g0)]) hx hb dX1_sequence_148 hl (by decide) rfl (fun ls hl => ?_)
                      refine lv_iload hx hb dX1_sequence_150 (lv_at hl 0 rfl) ?_
                      refine lv_sipush (v := 128) hx hb dX1_sequence_152 (by decide) ?_
                      refine lv_icmp_lt (tgt := 166) hx hb dX1_sequence_155 (by decide) (fun c_60 => ?_) (fun c_60 => ?_)
                      · have c_60 : kb (st + 1) < 128 := (nI_ltI (a := kb (st + 1)) (b := 128) (by omega) (by omega)).mp c_60
                        refine lv_iconst (v := -1) hx hb dX1_sequence_166 (by decide) ?_
                        have hP9 : va_P (dC, dI) vwCl (mw g0 g1 g2 cA (tb, n, kb, ln, rd, fp, st, mt, bg)) s.heap := hP
                        have hD9 : va_D A (mw g0 g1 g2 cA (tb, n, kb, ln, rd, fp, st, mt, bg)) := hD
                        exact W.iret (v := (-1)) hx hb hr (fun t ht hW => ⟨⟨(-1), (tb, n, kb, ln, rd, fp, st, mt, bg), rfl, (by simp only [seqN, seq1, seq2, seq3, seq4, finN, if_pos c_3, if_pos c_4, if_pos c_5, if_neg c_6, if_neg c_49, if_pos c_51, if_neg c_52, if_neg c_53, if_pos c_54, if_neg c_56, if_pos c_60, seqR_n, seqR_s, seqS_n, seqS_s, and_self]), by rw [ht]; exact hP9, va_K.moved hW.alike hK, hD9⟩, hS.F ht⟩) hS.2.2 dX1_sequence_167
                      · have c_60 : ¬ kb (st + 1) < 128 := fun zz => c_60 ((nI_ltI (a := kb (st + 1)) (b := 128) (by omega) (by omega)).mpr zz)
                        refine lv_iload hx hb dX1_sequence_158 (lv_at hl 0 rfl) ?_
                        refine lv_sipush (v := 191) hx hb dX1_sequence_160 (by decide) ?_
                        refine lv_icmp_le (tgt := 168) hx hb dX1_sequence_163 (by decide) (fun c_61 => ?_) (fun c_61 => ?_)
                        · have c_61 : kb (st + 1) ≤ 191 := (nI_leI (a := kb (st + 1)) (b := 191) (by omega) (by omega)).mp c_61
                          refine lv_bipush (v := 64) hx hb dX1_sequence_168 (by decide) ?_
                          refine lv_iload_n hx hb dX1_sequence_170 rfl (lv_at hl 2 rfl) ?_
                          refine lv_imul hx hb dX1_sequence_171 ?_
                          refine lv_topi (fun x_62 ex_62 => ?_)
                          obtain rfl : x_62 = nI (64 * (kb st - 224)) := ex_62.trans (pk_mul 64 (kb st - 224))
                          refine lv_iload hx hb dX1_sequence_172 (lv_at hl 0 rfl) ?_
                          refine lv_iadd hx hb dX1_sequence_174 ?_
                          refine lv_topi (fun x_63 ex_63 => ?_)
                          obtain rfl : x_63 = nI (64 * (kb st - 224) + (kb (st + 1))) := ex_63.trans (nI_add (64 * (kb st - 224)) (kb (st + 1)))
                          refine lv_sipush (v := 128) hx hb dX1_sequence_175 (by decide) ?_
                          refine lv_isub hx hb dX1_sequence_178 ?_
                          refine lv_topi (fun x_64 ex_64 => ?_)
                          obtain rfl : x_64 = nI (64 * (kb st - 224) + (kb (st + 1)) - 128) := ex_64.trans (pk_sub (a := 64 * (kb st - 224) + (kb (st + 1))) (b := 128) (by omega))
                          refine lv_istore_n (lv' := [(3, .int (nI (64 * (kb st - 224) + (kb (st + 1)) - 128))), (5, .int (nI (kb (st + 1)))), (4, .int 1), (2, .int 3), (1, .int (nI (kb st))), (0, .ref g0)]) hx hb dX1_sequence_179 rfl hl (by decide) rfl (fun ls hl => ?_)
                          refine lv_iinc (v := 2) (lv' := [(4, .int 2), (3, .int (nI (64 * (kb st - 224) + (kb (st + 1)) - 128))), (5, .int (nI (kb (st + 1)))), (2, .int 3), (1, .int (nI (kb st))), (0, .ref g0)]) hx hb dX1_sequence_180 hl (k := 2) rfl (by decide) (by decide) rfl (fun ls hl => ?_)
                          refine lv_goto (tgt := 130) hx hb dX1_sequence_183 (by decide) ?_
                          refine lv_iload hx hb dX1_sequence_130 (lv_at hl 0 rfl) ?_
                          refine lv_iload_n hx hb dX1_sequence_132 rfl (lv_at hl 3 rfl) ?_
                          refine lv_icmp_ge (tgt := 186) hx hb dX1_sequence_133 (by decide) (fun c_65 => ?_) (fun c_65 => ?_)
                          · exact absurd c_65 (by decide)
                          · have c_65 : ¬ 3 ≤ 2 := fun zz => c_65 ((nI_leI (a := 3) (b := 2) (by omega) (by omega)).mpr zz)
                            refine lv_aload_n hx hb dX1_sequence_136 rfl (lv_at hl 5 rfl) ?_
                            refine va_get (D := (dC, dI)) (ci := 1) (v := .ref g2) (C := RX1) (T := TX1) (N := 9) hx hb hts hIn hown hK hP 0 rfl rfl 2 (by decide) (hts (.fieldLink RX1 13 RX1 "kept" "[I") (by decide +kernel)) (fun _ h9 => h9) rfl dX1_sequence_137 ?_
                            refine lv_aload_n hx hb dX1_sequence_140 rfl (lv_at hl 5 rfl) ?_
                            refine va_get (D := (dC, dI)) (ci := 1) (v := .int (nI st)) (C := RX1) (T := TX1) (N := 9) hx hb hts hIn hown hK hP 0 rfl rfl 6 (by decide) (hts (.fieldLink RX1 41 RX1 "stand" "I") (by decide +kernel)) (fun _ h9 => h9) rfl dX1_sequence_141 ?_
                            refine lv_iload hx hb dX1_sequence_144 (lv_at hl 0 rfl) ?_
                            refine lv_iadd hx hb dX1_sequence_146 ?_
                            refine lv_topi (fun x_66 ex_66 => ?_)
                            obtain rfl : x_66 = nI (st + 2) := ex_66.trans (nI_add st 2)
                            refine va_iald hx hb hK hP 2 0 rfl rfl (vp_in_nI (n := st + 2) (by omega) (by omega)) dX1_sequence_147 ?_
                            refine lv_topi (fun x_67 ex_67 => ?_)
                            obtain rfl : x_67 = nI (kb (st + 2)) := ex_67.trans (congrArg (fun j => nI (kb j)) ((nI_clamp (by omega))))
                            have hb_68 := hkb (st + 2)
                            refine lv_istore (lv' := [(5, .int (nI (kb (st + 2)))), (4, .int 2), (3, .int (nI (64 * (kb st - 224) + (kb (st + 1)) - 128))), (2, .int 3), (1, .int (nI (kb st))), (0, .ref g0)]) hx hb dX1_sequence_148 hl (by decide) rfl (fun ls hl => ?_)
                            refine lv_iload hx hb dX1_sequence_150 (lv_at hl 0 rfl) ?_
                            refine lv_sipush (v := 128) hx hb dX1_sequence_152 (by decide) ?_
                            refine lv_icmp_lt (tgt := 166) hx hb dX1_sequence_155 (by decide) (fun c_69 => ?_) (fun c_69 => ?_)
                            · have c_69 : kb (st + 2) < 128 := (nI_ltI (a := kb (st + 2)) (b := 128) (by omega) (by omega)).mp c_69
                              refine lv_iconst (v := -1) hx hb dX1_sequence_166 (by decide) ?_
                              have hP9 : va_P (dC, dI) vwCl (mw g0 g1 g2 cA (tb, n, kb, ln, rd, fp, st, mt, bg)) s.heap := hP
                              have hD9 : va_D A (mw g0 g1 g2 cA (tb, n, kb, ln, rd, fp, st, mt, bg)) := hD
                              exact W.iret (v := (-1)) hx hb hr (fun t ht hW => ⟨⟨(-1), (tb, n, kb, ln, rd, fp, st, mt, bg), rfl, (by simp only [seqN, seq1, seq2, seq3, seq4, finN, if_pos c_3, if_pos c_4, if_pos c_5, if_neg c_6, if_neg c_49, if_pos c_51, if_neg c_52, if_neg c_53, if_pos c_54, if_neg c_56, if_neg c_60, if_pos c_61, if_neg c_65, if_pos c_69, seqR_n, seqR_s, seqS_n, seqS_s, and_self]), by rw [ht]; exact hP9, va_K.moved hW.alike hK, hD9⟩, hS.F ht⟩) hS.2.2 dX1_sequence_167
                            · have c_69 : ¬ kb (st + 2) < 128 := fun zz => c_69 ((nI_ltI (a := kb (st + 2)) (b := 128) (by omega) (by omega)).mpr zz)
                              refine lv_iload hx hb dX1_sequence_158 (lv_at hl 0 rfl) ?_
                              refine lv_sipush (v := 191) hx hb dX1_sequence_160 (by decide) ?_
                              refine lv_icmp_le (tgt := 168) hx hb dX1_sequence_163 (by decide) (fun c_70 => ?_) (fun c_70 => ?_)
                              · have c_70 : kb (st + 2) ≤ 191 := (nI_leI (a := kb (st + 2)) (b := 191) (by omega) (by omega)).mp c_70
                                refine lv_bipush (v := 64) hx hb dX1_sequence_168 (by decide) ?_
                                refine lv_iload_n hx hb dX1_sequence_170 rfl (lv_at hl 2 rfl) ?_
                                refine lv_imul hx hb dX1_sequence_171 ?_
                                refine lv_topi (fun x_71 ex_71 => ?_)
                                obtain rfl : x_71 = nI (64 * (64 * (kb st - 224) + (kb (st + 1)) - 128)) := ex_71.trans (pk_mul 64 (64 * (kb st - 224) + (kb (st + 1)) - 128))
                                refine lv_iload hx hb dX1_sequence_172 (lv_at hl 0 rfl) ?_
                                refine lv_iadd hx hb dX1_sequence_174 ?_
                                refine lv_topi (fun x_72 ex_72 => ?_)
                                obtain rfl : x_72 = nI (64 * (64 * (kb st - 224) + (kb (st + 1)) - 128) + (kb (st + 2))) := ex_72.trans (nI_add (64 * (64 * (kb st - 224) + (kb (st + 1)) - 128)) (kb (st + 2)))
                                refine lv_sipush (v := 128) hx hb dX1_sequence_175 (by decide) ?_
                                refine lv_isub hx hb dX1_sequence_178 ?_
                                refine lv_topi (fun x_73 ex_73 => ?_)
                                obtain rfl : x_73 = nI (64 * (64 * (kb st - 224) + (kb (st + 1)) - 128) + (kb (st + 2)) - 128) := ex_73.trans (pk_sub (a := 64 * (64 * (kb st - 224) + (kb (st + 1)) - 128) + (kb (st + 2))) (b := 128) (by omega))
                                refine lv_istore_n (lv' := [(3, .int (nI (64 * (64 * (kb st - 224) + (kb (st + 1)) - 128) + (kb (st + 2)) - 128))), (5, .int (nI (kb (st + 2)))), (4, .int 2), (2, .int 3), (1, .int (nI (kb st))), (0, .ref g0)]) hx hb dX1_sequence_179 rfl hl (by decide) rfl (fun ls hl => ?_)
                                refine lv_iinc (v := 3) (lv' := [(4, .int 3), (3, .int (nI (64 * (64 * (kb st - 224) + (kb (st + 1)) - 128) + (kb (st + 2)) - 128))), (5, .int (nI (kb (st + 2)))), (2, .int 3), (1, .int (nI (kb st))), (0, .ref g0)]) hx hb dX1_sequence_180 hl (k := 2) rfl (by decide) (by decide) rfl (fun ls hl => ?_)
                                refine lv_goto (tgt := 130) hx hb dX1_sequence_183 (by decide) ?_
                                refine lv_iload hx hb dX1_sequence_130 (lv_at hl 0 rfl) ?_
                                refine lv_iload_n hx hb dX1_sequence_132 rfl (lv_at hl 3 rfl) ?_
                                refine lv_icmp_ge (tgt := 186) hx hb dX1_sequence_133 (by decide) (fun c_74 => ?_) (fun c_74 => ?_)
                                · have c_74 : 3 ≤ 3 := (nI_leI (a := 3) (b := 3) (by omega) (by omega)).mp c_74
                                  refine lv_iload_n hx hb dX1_sequence_186 rfl (lv_at hl 1 rfl) ?_
                                  refine vp_callSi (W.runS (As := [.int (nI (64 * (64 * (kb st - 224) + (kb (st + 1)) - 128) + (kb (st + 2)) - 128))]) (rest := []) ⟨hx, hb, hml, hown, hts⟩ (c_X1_has l (nI (64 * (64 * (kb st - 224) + (kb (st + 1)) - 128) + (kb (st + 2)) - 128))) (va_cwS 1 hts gX1_sequence_X1_has rfl rfl rfl (by decide +kernel) ⟨Nat.le_of_ble_eq_true rfl, Nat.le_of_ble_eq_true rfl⟩) ⟨fun _ _ _ _ q => q, fun U hU hW => ⟨rfl, trivial⟩⟩ rfl rfl hl.1 rfl (lv_room (Nat.le_of_ble_eq_true rfl)) dX1_sequence_187 ⟨Nat.le_of_ble_eq_true rfl, Nat.le_of_ble_eq_true rfl⟩) (fun r_75 er_75 => ?_)
                                  obtain rfl : r_75 = bI (mHas (nI (64 * (64 * (kb st - 224) + (kb (st + 1)) - 128) + (kb (st + 2)) - 128))) := er_75
                                  refine lv_if_eq (tgt := 201) hx hb dX1_sequence_190 (by decide) (fun c_76 => ?_) (fun c_76 => ?_)
                                  · have c_76 := bI_0 c_76
                                    refine lv_iconst (v := -1) hx hb dX1_sequence_201 (by decide) ?_
                                    have hP9 : va_P (dC, dI) vwCl (mw g0 g1 g2 cA (tb, n, kb, ln, rd, fp, st, mt, bg)) s.heap := hP
                                    have hD9 : va_D A (mw g0 g1 g2 cA (tb, n, kb, ln, rd, fp, st, mt, bg)) := hD
                                    exact W.iret (v := (-1)) hx hb hr (fun t ht hW => ⟨⟨(-1), (tb, n, kb, ln, rd, fp, st, mt, bg), rfl, (by simp only [seqN, seq1, seq2, seq3, seq4, finN, if_pos c_3, if_pos c_4, if_pos c_5, if_neg c_6, if_neg c_49, if_pos c_51, if_neg c_52, if_neg c_53, if_pos c_54, if_neg c_56, if_neg c_60, if_pos c_61, if_neg c_65, if_neg c_69, if_pos c_70, if_pos c_74, if_neg c_76, seqR_n, seqR_s, seqS_n, seqS_s, and_self]), by rw [ht]; exact hP9, va_K.moved hW.alike hK, hD9⟩, hS.F ht⟩) hS.2.2 dX1_sequence_202
                                  · have c_76 := bI_n0 c_76
                                    refine lv_iload_n hx hb dX1_sequence_193 rfl (lv_at hl 1 rfl) ?_
                                    refine vp_callSi (W.runS (As := [.int (nI (64 * (64 * (kb st - 224) + (kb (st + 1)) - 128) + (kb (st + 2)) - 128))]) (rest := []) ⟨hx, hb, hml, hown, hts⟩ (c_X1_sizeOf l (nI (64 * (64 * (kb st - 224) + (kb (st + 1)) - 128) + (kb (st + 2)) - 128))) (va_cwS 1 hts gX1_sequence_X1_sizeOf rfl rfl rfl (by decide +kernel) ⟨Nat.le_of_ble_eq_true rfl, Nat.le_of_ble_eq_true rfl⟩) ⟨fun _ _ _ _ q => q, fun U hU hW => ⟨rfl, trivial⟩⟩ rfl rfl hl.1 rfl (lv_room (Nat.le_of_ble_eq_true rfl)) dX1_sequence_194 ⟨Nat.le_of_ble_eq_true rfl, Nat.le_of_ble_eq_true rfl⟩) (fun r_77 er_77 => ?_)
                                    obtain rfl : r_77 = mSize (nI (64 * (64 * (kb st - 224) + (kb (st + 1)) - 128) + (kb (st + 2)) - 128)) := er_77
                                    refine lv_iload_n hx hb dX1_sequence_197 rfl (lv_at hl 3 rfl) ?_
                                    refine lv_icmp_eq (tgt := 203) hx hb dX1_sequence_198 (by decide) (fun c_78 => ?_) (fun c_78 => ?_)
                                    · refine lv_aload_n hx hb dX1_sequence_203 rfl (lv_at hl 5 rfl) ?_
                                      refine lv_aload_n hx hb dX1_sequence_204 rfl (lv_at hl 5 rfl) ?_
                                      refine va_get (D := (dC, dI)) (ci := 1) (v := .int (nI st)) (C := RX1) (T := TX1) (N := 9) hx hb hts hIn hown hK hP 0 rfl rfl 6 (by decide) (hts (.fieldLink RX1 41 RX1 "stand" "I") (by decide +kernel)) (fun _ h9 => h9) rfl dX1_sequence_205 ?_
                                      refine lv_iload_n hx hb dX1_sequence_208 rfl (lv_at hl 3 rfl) ?_
                                      refine lv_iadd hx hb dX1_sequence_209 ?_
                                      refine lv_topi (fun x_79 ex_79 => ?_)
                                      obtain rfl : x_79 = nI (st + 3) := ex_79.trans (nI_add st 3)
                                      refine va_put (D := (dC, dI)) (ci := 1) (v := .int (nI (st + 3))) (ty := .int) (C := RX1) (T := TX1) (N := 9) hx hb hts hIn tyX1 tyX1_ok nmX1 hown hK hP hD hS 0 rfl rfl 6 (by decide) (hts (.fieldLink RX1 41 RX1 "stand" "I") (by decide +kernel)) (fun _ h9 => h9) rfl (by decide +kernel) rfl rfl (Nat.le_of_ble_eq_true rfl) dX1_sequence_210 (fun H locs hP hD hS => ?_)
                                      have hP : va_P (dC, dI) vwCl [(g0, .inr (1, [.ref g1, .int (nI n), .ref g2, .int (nI ln), .int (bI rd), .int fp, .int (nI (st + 3)), .int mt, .int bg])), (g1, .inl (cA, 1000, .inl (fun j => nI (tb j)))), (g2, .inl (cA, 1000, .inl (fun j => nI (kb j))))] H := hP
                                      have hD : va_D A [(g0, .inr (1, [.ref g1, .int (nI n), .ref g2, .int (nI ln), .int (bI rd), .int fp, .int (nI (st + 3)), .int mt, .int bg])), (g1, .inl (cA, 1000, .inl (fun j => nI (tb j)))), (g2, .inl (cA, 1000, .inl (fun j => nI (kb j))))] := hD
                                      refine lv_iload_n hx hb dX1_sequence_213 rfl (lv_at hl 1 rfl) ?_
                                      have hP9 : va_P (dC, dI) vwCl (mw g0 g1 g2 cA (tb, n, kb, ln, rd, fp, (st + 3), mt, bg)) H := hP
                                      have hD9 : va_D A (mw g0 g1 g2 cA (tb, n, kb, ln, rd, fp, (st + 3), mt, bg)) := hD
                                      exact W.iret (v := nI (64 * (64 * (kb st - 224) + (kb (st + 1)) - 128) + (kb (st + 2)) - 128)) hx hb hr (fun t ht hW => ⟨⟨nI (64 * (64 * (kb st - 224) + (kb (st + 1)) - 128) + (kb (st + 2)) - 128), (tb, n, kb, ln, rd, fp, (st + 3), mt, bg), rfl, (by simp only [seqN, seq1, seq2, seq3, seq4, finN, if_pos c_3, if_pos c_4, if_pos c_5, if_neg c_6, if_neg c_49, if_pos c_51, if_neg c_52, if_neg c_53, if_pos c_54, if_neg c_56, if_neg c_60, if_pos c_61, if_neg c_65, if_neg c_69, if_pos c_70, if_pos c_74, if_pos c_76, if_pos c_78, seqR_n, seqR_s, seqS_n, seqS_s, and_self]), by rw [ht]; exact hP9, va_K.moved hW.alike hK, hD9⟩, hS.F ht⟩) hS.2.2 dX1_sequence_214
                                    · refine lv_iconst (v := -1) hx hb dX1_sequence_201 (by decide) ?_
                                      have hP9 : va_P (dC, dI) vwCl (mw g0 g1 g2 cA (tb, n, kb, ln, rd, fp, st, mt, bg)) s.heap := hP
                                      have hD9 : va_D A (mw g0 g1 g2 cA (tb, n, kb, ln, rd, fp, st, mt, bg)) := hD
                                      exact W.iret (v := (-1)) hx hb hr (fun t ht hW => ⟨⟨(-1), (tb, n, kb, ln, rd, fp, st, mt, bg), rfl, (by simp only [seqN, seq1, seq2, seq3, seq4, finN, if_pos c_3, if_pos c_4, if_pos c_5, if_neg c_6, if_neg c_49, if_pos c_51, if_neg c_52, if_neg c_53, if_pos c_54, if_neg c_56, if_neg c_60, if_pos c_61, if_neg c_65, if_neg c_69, if_pos c_70, if_pos c_74, if_pos c_76, if_neg c_78, seqR_n, seqR_s, seqS_n, seqS_s, and_self]), by rw [ht]; exact hP9, va_K.moved hW.alike hK, hD9⟩, hS.F ht⟩) hS.2.2 dX1_sequence_202
                                · exact absurd c_74 (by decide)
                              · have c_70 : ¬ kb (st + 2) ≤ 191 := fun zz => c_70 ((nI_leI (a := kb (st + 2)) (b := 191) (by omega) (by omega)).mpr zz)
                                refine lv_iconst (v := -1) hx hb dX1_sequence_166 (by decide) ?_
                                have hP9 : va_P (dC, dI) vwCl (mw g0 g1 g2 cA (tb, n, kb, ln, rd, fp, st, mt, bg)) s.heap := hP
                                have hD9 : va_D A (mw g0 g1 g2 cA (tb, n, kb, ln, rd, fp, st, mt, bg)) := hD
                                exact W.iret (v := (-1)) hx hb hr (fun t ht hW => ⟨⟨(-1), (tb, n, kb, ln, rd, fp, st, mt, bg), rfl, (by simp only [seqN, seq1, seq2, seq3, seq4, finN, if_pos c_3, if_pos c_4, if_pos c_5, if_neg c_6, if_neg c_49, if_pos c_51, if_neg c_52, if_neg c_53, if_pos c_54, if_neg c_56, if_neg c_60, if_pos c_61, if_neg c_65, if_neg c_69, if_neg c_70, seqR_n, seqR_s, seqS_n, seqS_s, and_self]), by rw [ht]; exact hP9, va_K.moved hW.alike hK, hD9⟩, hS.F ht⟩) hS.2.2 dX1_sequence_167
                        · have c_61 : ¬ kb (st + 1) ≤ 191 := fun zz => c_61 ((nI_leI (a := kb (st + 1)) (b := 191) (by omega) (by omega)).mpr zz)
                          refine lv_iconst (v := -1) hx hb dX1_sequence_166 (by decide) ?_
                          have hP9 : va_P (dC, dI) vwCl (mw g0 g1 g2 cA (tb, n, kb, ln, rd, fp, st, mt, bg)) s.heap := hP
                          have hD9 : va_D A (mw g0 g1 g2 cA (tb, n, kb, ln, rd, fp, st, mt, bg)) := hD
                          exact W.iret (v := (-1)) hx hb hr (fun t ht hW => ⟨⟨(-1), (tb, n, kb, ln, rd, fp, st, mt, bg), rfl, (by simp only [seqN, seq1, seq2, seq3, seq4, finN, if_pos c_3, if_pos c_4, if_pos c_5, if_neg c_6, if_neg c_49, if_pos c_51, if_neg c_52, if_neg c_53, if_pos c_54, if_neg c_56, if_neg c_60, if_neg c_61, seqR_n, seqR_s, seqS_n, seqS_s, and_self]), by rw [ht]; exact hP9, va_K.moved hW.alike hK, hD9⟩, hS.F ht⟩) hS.2.2 dX1_sequence_167
                · exact absurd c_53 (by decide)
              · exact absurd c_52 (by decide)
            · have c_51 : ¬ st + 3 ≤ ln := fun zz => c_51 ((nI_leI (a := st + 3) (b := ln) (by omega) (by omega)).mpr zz)
              refine lv_iconst (v := -1) hx hb dX1_sequence_84 (by decide) ?_
              have hP9 : va_P (dC, dI) vwCl (mw g0 g1 g2 cA (tb, n, kb, ln, rd, fp, st, mt, bg)) s.heap := hP
              have hD9 : va_D A (mw g0 g1 g2 cA (tb, n, kb, ln, rd, fp, st, mt, bg)) := hD
              exact W.iret (v := (-1)) hx hb hr (fun t ht hW => ⟨⟨(-1), (tb, n, kb, ln, rd, fp, st, mt, bg), rfl, (by simp only [seqN, seq1, seq2, seq3, seq4, finN, if_pos c_3, if_pos c_4, if_pos c_5, if_neg c_6, if_neg c_49, if_neg c_51, seqR_n, seqR_s, seqS_n, seqS_s, and_self]), by rw [ht]; exact hP9, va_K.moved hW.alike hK, hD9⟩, hS.F ht⟩) hS.2.2 dX1_sequence_85
      · have c_5 : ¬ 224 ≤ kb st := fun zz => c_5 ((nI_leI (a := 224) (b := kb st) (by omega) (by omega)).mpr zz)
        refine lv_iconst (v := 2) hx hb dX1_sequence_39 (by decide) ?_
        refine lv_goto (tgt := 66) hx hb dX1_sequence_40 (by decide) ?_
        refine lv_istore_n (lv' := [(2, .int 2), (1, .int (nI (kb st))), (0, .ref g0)]) hx hb dX1_sequence_66 rfl hl (by decide) rfl (fun ls hl => ?_)
        refine lv_iload_n hx hb dX1_sequence_67 rfl (lv_at hl 0 rfl) ?_
        refine lv_if_eq (tgt := 84) hx hb dX1_sequence_68 (by decide) (fun c_80 => ?_) (fun c_80 => ?_)
        · exact absurd c_80 (by decide)
        · have c_80 : ¬ 2 = 0 := fun zz => c_80 ((nI_eq (a := 2) (b := 0) (by omega) (by omega)).mpr zz)
          refine lv_aload_n hx hb dX1_sequence_71 rfl (lv_at hl 2 rfl) ?_
          refine va_get (D := (dC, dI)) (ci := 1) (v := .int (nI st)) (C := RX1) (T := TX1) (N := 9) hx hb hts hIn hown hK hP 0 rfl rfl 6 (by decide) (hts (.fieldLink RX1 41 RX1 "stand" "I") (by decide +kernel)) (fun _ h9 => h9) rfl dX1_sequence_72 ?_
          refine lv_iload_n hx hb dX1_sequence_75 rfl (lv_at hl 0 rfl) ?_
          refine lv_iadd hx hb dX1_sequence_76 ?_
          refine lv_topi (fun x_81 ex_81 => ?_)
          obtain rfl : x_81 = nI (st + 2) := ex_81.trans (nI_add st 2)
          refine lv_aload_n hx hb dX1_sequence_77 rfl (lv_at hl 2 rfl) ?_
          refine va_get (D := (dC, dI)) (ci := 1) (v := .int (nI ln)) (C := RX1) (T := TX1) (N := 9) hx hb hts hIn hown hK hP 0 rfl rfl 3 (by decide) (hts (.fieldLink RX1 44 RX1 "length" "I") (by decide +kernel)) (fun _ h9 => h9) rfl dX1_sequence_78 ?_
          refine lv_icmp_le (tgt := 86) hx hb dX1_sequence_81 (by decide) (fun c_82 => ?_) (fun c_82 => ?_)
          · have c_82 : st + 2 ≤ ln := (nI_leI (a := st + 2) (b := ln) (by omega) (by omega)).mp c_82
            refine lv_iload_n hx hb dX1_sequence_86 rfl (lv_at hl 0 rfl) ?_
            refine lv_iconst (v := 1) hx hb dX1_sequence_87 (by decide) ?_
            refine lv_icmp_ne (tgt := 95) hx hb dX1_sequence_88 (by decide) (fun c_83 => ?_) (fun c_83 => ?_)
            · have c_83 : ¬ 2 = 1 := fun zz => c_83 ((nI_eq (a := 2) (b := 1) (by omega) (by omega)).mpr zz)
              refine lv_iload_n hx hb dX1_sequence_95 rfl (lv_at hl 0 rfl) ?_
              refine lv_iconst (v := 2) hx hb dX1_sequence_96 (by decide) ?_
              refine lv_icmp_ne (tgt := 108) hx hb dX1_sequence_97 (by decide) (fun c_84 => ?_) (fun c_84 => ?_)
              · exact absurd c_84 (by decide)
              · have c_84 : 2 = 2 := (nI_eq (a := 2) (b := 2) (by omega) (by omega)).mp c_84
                refine lv_iload_n hx hb dX1_sequence_100 rfl (lv_at hl 1 rfl) ?_
                refine lv_sipush (v := 192) hx hb dX1_sequence_101 (by decide) ?_
                refine lv_isub hx hb dX1_sequence_104 ?_
                refine lv_topi (fun x_85 ex_85 => ?_)
                obtain rfl : x_85 = nI (kb st - 192) := ex_85.trans (pk_sub (a := kb st) (b := 192) (by omega))
                refine lv_goto (tgt := 126) hx hb dX1_sequence_105 (by decide) ?_
                refine lv_istore_n (lv' := [(3, .int (nI (kb st - 192))), (2, .int 2), (1, .int (nI (kb st))), (0, .ref g0)]) hx hb dX1_sequence_126 rfl hl (by decide) rfl (fun ls hl => ?_)
                refine lv_iconst (v := 1) hx hb dX1_sequence_127 (by decide) ?_
                refine lv_istore (lv' := [(4, .int 1), (3, .int (nI (kb st - 192))), (2, .int 2), (1, .int (nI (kb st))), (0, .ref g0)]) hx hb dX1_sequence_128 hl (by decide) rfl (fun ls hl => ?_)
                refine lv_iload hx hb dX1_sequence_130 (lv_at hl 0 rfl) ?_
                refine lv_iload_n hx hb dX1_sequence_132 rfl (lv_at hl 2 rfl) ?_
                refine lv_icmp_ge (tgt := 186) hx hb dX1_sequence_133 (by decide) (fun c_86 => ?_) (fun c_86 => ?_)
                · exact absurd c_86 (by decide)
                · have c_86 : ¬ 2 ≤ 1 := fun zz => c_86 ((nI_leI (a := 2) (b := 1) (by omega) (by omega)).mpr zz)
                  refine lv_aload_n hx hb dX1_sequence_136 rfl (lv_at hl 4 rfl) ?_
                  refine va_get (D := (dC, dI)) (ci := 1) (v := .ref g2) (C := RX1) (T := TX1) (N := 9) hx hb hts hIn hown hK hP 0 rfl rfl 2 (by decide) (hts (.fieldLink RX1 13 RX1 "kept" "[I") (by decide +kernel)) (fun _ h9 => h9) rfl dX1_sequence_137 ?_
                  refine lv_aload_n hx hb dX1_sequence_140 rfl (lv_at hl 4 rfl) ?_
                  refine va_get (D := (dC, dI)) (ci := 1) (v := .int (nI st)) (C := RX1) (T := TX1) (N := 9) hx hb hts hIn hown hK hP 0 rfl rfl 6 (by decide) (hts (.fieldLink RX1 41 RX1 "stand" "I") (by decide +kernel)) (fun _ h9 => h9) rfl dX1_sequence_141 ?_
                  refine lv_iload hx hb dX1_sequence_144 (lv_at hl 0 rfl) ?_
                  refine lv_iadd hx hb dX1_sequence_146 ?_
                  refine lv_topi (fun x_87 ex_87 => ?_)
                  obtain rfl : x_87 = nI (st + 1) := ex_87.trans (nI_add st 1)
                  refine va_iald hx hb hK hP 2 0 rfl rfl (vp_in_nI (n := st + 1) (by omega) (by omega)) dX1_sequence_147 ?_
                  refine lv_topi (fun x_88 ex_88 => ?_)
                  obtain rfl : x_88 = nI (kb (st + 1)) := ex_88.trans (congrArg (fun j => nI (kb j)) ((nI_clamp (by omega))))
                  have hb_89 := hkb (st + 1)
                  refine lv_istore (lv' := [(5, .int (nI (kb (st + 1)))), (4, .int 1), (3, .int (nI (kb st - 192))), (2, .int 2), (1, .int (nI (kb st))), (0, .ref g0)]) hx hb dX1_sequence_148 hl (by decide) rfl (fun ls hl => ?_)
                  refine lv_iload hx hb dX1_sequence_150 (lv_at hl 0 rfl) ?_
                  refine lv_sipush (v := 128) hx hb dX1_sequence_152 (by decide) ?_
                  refine lv_icmp_lt (tgt := 166) hx hb dX1_sequence_155 (by decide) (fun c_90 => ?_) (fun c_90 => ?_)
                  · have c_90 : kb (st + 1) < 128 := (nI_ltI (a := kb (st + 1)) (b := 128) (by omega) (by omega)).mp c_90
                    refine lv_iconst (v := -1) hx hb dX1_sequence_166 (by decide) ?_
                    have hP9 : va_P (dC, dI) vwCl (mw g0 g1 g2 cA (tb, n, kb, ln, rd, fp, st, mt, bg)) s.heap := hP
                    have hD9 : va_D A (mw g0 g1 g2 cA (tb, n, kb, ln, rd, fp, st, mt, bg)) := hD
                    exact W.iret (v := (-1)) hx hb hr (fun t ht hW => ⟨⟨(-1), (tb, n, kb, ln, rd, fp, st, mt, bg), rfl, (by simp only [seqN, seq1, seq2, seq3, seq4, finN, if_pos c_3, if_pos c_4, if_neg c_5, if_neg c_80, if_pos c_82, if_neg c_83, if_pos c_84, if_neg c_86, if_pos c_90, seqR_n, seqR_s, seqS_n, seqS_s, and_self]), by rw [ht]; exact hP9, va_K.moved hW.alike hK, hD9⟩, hS.F ht⟩) hS.2.2 dX1_sequence_167
                  · have c_90 : ¬ kb (st + 1) < 128 := fun zz => c_90 ((nI_ltI (a := kb (st + 1)) (b := 128) (by omega) (by omega)).mpr zz)
                    refine lv_iload hx hb dX1_sequence_158 (lv_at hl 0 rfl) ?_
                    refine lv_sipush (v := 191) hx hb dX1_sequence_160 (by decide) ?_
                    refine lv_icmp_le (tgt := 168) hx hb dX1_sequence_163 (by decide) (fun c_91 => ?_) (fun c_91 => ?_)
                    · have c_91 : kb (st + 1) ≤ 191 := (nI_leI (a := kb (st + 1)) (b := 191) (by omega) (by omega)).mp c_91
                      refine lv_bipush (v := 64) hx hb dX1_sequence_168 (by decide) ?_
                      refine lv_iload_n hx hb dX1_sequence_170 rfl (lv_at hl 2 rfl) ?_
                      refine lv_imul hx hb dX1_sequence_171 ?_
                      refine lv_topi (fun x_92 ex_92 => ?_)
                      obtain rfl : x_92 = nI (64 * (kb st - 192)) := ex_92.trans (pk_mul 64 (kb st - 192))
                      refine lv_iload hx hb dX1_sequence_172 (lv_at hl 0 rfl) ?_
                      refine lv_iadd hx hb dX1_sequence_174 ?_
                      refine lv_topi (fun x_93 ex_93 => ?_)
                      obtain rfl : x_93 = nI (64 * (kb st - 192) + (kb (st + 1))) := ex_93.trans (nI_add (64 * (kb st - 192)) (kb (st + 1)))
                      refine lv_sipush (v := 128) hx hb dX1_sequence_175 (by decide) ?_
                      refine lv_isub hx hb dX1_sequence_178 ?_
                      refine lv_topi (fun x_94 ex_94 => ?_)
                      obtain rfl : x_94 = nI (64 * (kb st - 192) + (kb (st + 1)) - 128) := ex_94.trans (pk_sub (a := 64 * (kb st - 192) + (kb (st + 1))) (b := 128) (by omega))
                      refine lv_istore_n (lv' := [(3, .int (nI (64 * (kb st - 192) + (kb (st + 1)) - 128))), (5, .int (nI (kb (st + 1)))), (4, .int 1), (2, .int 2), (1, .int (nI (kb st))), (0, .ref g0)]) hx hb dX1_sequence_179 rfl hl (by decide) rfl (fun ls hl => ?_)
                      refine lv_iinc (v := 2) (lv' := [(4, .int 2), (3, .int (nI (64 * (kb st - 192) + (kb (st + 1)) - 128))), (5, .int (nI (kb (st + 1)))), (2, .int 2), (1, .int (nI (kb st))), (0, .ref g0)]) hx hb dX1_sequence_180 hl (k := 2) rfl (by decide) (by decide) rfl (fun ls hl => ?_)
                      refine lv_goto (tgt := 130) hx hb dX1_sequence_183 (by decide) ?_
                      refine lv_iload hx hb dX1_sequence_130 (lv_at hl 0 rfl) ?_
                      refine lv_iload_n hx hb dX1_sequence_132 rfl (lv_at hl 3 rfl) ?_
                      refine lv_icmp_ge (tgt := 186) hx hb dX1_sequence_133 (by decide) (fun c_95 => ?_) (fun c_95 => ?_)
                      · have c_95 : 2 ≤ 2 := (nI_leI (a := 2) (b := 2) (by omega) (by omega)).mp c_95
                        refine lv_iload_n hx hb dX1_sequence_186 rfl (lv_at hl 1 rfl) ?_
                        refine vp_callSi (W.runS (As := [.int (nI (64 * (kb st - 192) + (kb (st + 1)) - 128))]) (rest := []) ⟨hx, hb, hml, hown, hts⟩ (c_X1_has l (nI (64 * (kb st - 192) + (kb (st + 1)) - 128))) (va_cwS 1 hts gX1_sequence_X1_has rfl rfl rfl (by decide +kernel) ⟨Nat.le_of_ble_eq_true rfl, Nat.le_of_ble_eq_true rfl⟩) ⟨fun _ _ _ _ q => q, fun U hU hW => ⟨rfl, trivial⟩⟩ rfl rfl hl.1 rfl (lv_room (Nat.le_of_ble_eq_true rfl)) dX1_sequence_187 ⟨Nat.le_of_ble_eq_true rfl, Nat.le_of_ble_eq_true rfl⟩) (fun r_96 er_96 => ?_)
                        obtain rfl : r_96 = bI (mHas (nI (64 * (kb st - 192) + (kb (st + 1)) - 128))) := er_96
                        refine lv_if_eq (tgt := 201) hx hb dX1_sequence_190 (by decide) (fun c_97 => ?_) (fun c_97 => ?_)
                        · have c_97 := bI_0 c_97
                          refine lv_iconst (v := -1) hx hb dX1_sequence_201 (by decide) ?_
                          have hP9 : va_P (dC, dI) vwCl (mw g0 g1 g2 cA (tb, n, kb, ln, rd, fp, st, mt, bg)) s.heap := hP
                          have hD9 : va_D A (mw g0 g1 g2 cA (tb, n, kb, ln, rd, fp, st, mt, bg)) := hD
                          exact W.iret (v := (-1)) hx hb hr (fun t ht hW => ⟨⟨(-1), (tb, n, kb, ln, rd, fp, st, mt, bg), rfl, (by simp only [seqN, seq1, seq2, seq3, seq4, finN, if_pos c_3, if_pos c_4, if_neg c_5, if_neg c_80, if_pos c_82, if_neg c_83, if_pos c_84, if_neg c_86, if_neg c_90, if_pos c_91, if_pos c_95, if_neg c_97, seqR_n, seqR_s, seqS_n, seqS_s, and_self]), by rw [ht]; exact hP9, va_K.moved hW.alike hK, hD9⟩, hS.F ht⟩) hS.2.2 dX1_sequence_202
                        · have c_97 := bI_n0 c_97
                          refine lv_iload_n hx hb dX1_sequence_193 rfl (lv_at hl 1 rfl) ?_
                          refine vp_callSi (W.runS (As := [.int (nI (64 * (kb st - 192) + (kb (st + 1)) - 128))]) (rest := []) ⟨hx, hb, hml, hown, hts⟩ (c_X1_sizeOf l (nI (64 * (kb st - 192) + (kb (st + 1)) - 128))) (va_cwS 1 hts gX1_sequence_X1_sizeOf rfl rfl rfl (by decide +kernel) ⟨Nat.le_of_ble_eq_true rfl, Nat.le_of_ble_eq_true rfl⟩) ⟨fun _ _ _ _ q => q, fun U hU hW => ⟨rfl, trivial⟩⟩ rfl rfl hl.1 rfl (lv_room (Nat.le_of_ble_eq_true rfl)) dX1_sequence_194 ⟨Nat.le_of_ble_eq_true rfl, Nat.le_of_ble_eq_true rfl⟩) (fun r_98 er_98 => ?_)
                          obtain rfl : r_98 = mSize (nI (64 * (kb st - 192) + (kb (st + 1)) - 128)) := er_98
                          refine lv_iload_n hx hb dX1_sequence_197 rfl (lv_at hl 3 rfl) ?_
                          refine lv_icmp_eq (tgt := 203) hx hb dX1_sequence_198 (by decide) (fun c_99 => ?_) (fun c_99 => ?_)
                          · refine lv_aload_n hx hb dX1_sequence_203 rfl (lv_at hl 5 rfl) ?_
                            refine lv_aload_n hx hb dX1_sequence_204 rfl (lv_at hl 5 rfl) ?_
                            refine va_get (D := (dC, dI)) (ci := 1) (v := .int (nI st)) (C := RX1) (T := TX1) (N := 9) hx hb hts hIn hown hK hP 0 rfl rfl 6 (by decide) (hts (.fieldLink RX1 41 RX1 "stand" "I") (by decide +kernel)) (fun _ h9 => h9) rfl dX1_sequence_205 ?_
                            refine lv_iload_n hx hb dX1_sequence_208 rfl (lv_at hl 3 rfl) ?_
                            refine lv_iadd hx hb dX1_sequence_209 ?_
                            refine lv_topi (fun x_100 ex_100 => ?_)
                            obtain rfl : x_100 = nI (st + 2) := ex_100.trans (nI_add st 2)
                            refine va_put (D := (dC, dI)) (ci := 1) (v := .int (nI (st + 2))) (ty := .int) (C := RX1) (T := TX1) (N := 9) hx hb hts hIn tyX1 tyX1_ok nmX1 hown hK hP hD hS 0 rfl rfl 6 (by decide) (hts (.fieldLink RX1 41 RX1 "stand" "I") (by decide +kernel)) (fun _ h9 => h9) rfl (by decide +kernel) rfl rfl (Nat.le_of_ble_eq_true rfl) dX1_sequence_210 (fun H locs hP hD hS => ?_)
                            have hP : va_P (dC, dI) vwCl [(g0, .inr (1, [.ref g1, .int (nI n), .ref g2, .int (nI ln), .int (bI rd), .int fp, .int (nI (st + 2)), .int mt, .int bg])), (g1, .inl (cA, 1000, .inl (fun j => nI (tb j)))), (g2, .inl (cA, 1000, .inl (fun j => nI (kb j))))] H := hP
                            have hD : va_D A [(g0, .inr (1, [.ref g1, .int (nI n), .ref g2, .int (nI ln), .int (bI rd), .int fp, .int (nI (st + 2)), .int mt, .int bg])), (g1, .inl (cA, 1000, .inl (fun j => nI (tb j)))), (g2, .inl (cA, 1000, .inl (fun j => nI (kb j))))] := hD
                            refine lv_iload_n hx hb dX1_sequence_213 rfl (lv_at hl 1 rfl) ?_
                            have hP9 : va_P (dC, dI) vwCl (mw g0 g1 g2 cA (tb, n, kb, ln, rd, fp, (st + 2), mt, bg)) H := hP
                            have hD9 : va_D A (mw g0 g1 g2 cA (tb, n, kb, ln, rd, fp, (st + 2), mt, bg)) := hD
                            exact W.iret (v := nI (64 * (kb st - 192) + (kb (st + 1)) - 128)) hx hb hr (fun t ht hW => ⟨⟨nI (64 * (kb st - 192) + (kb (st + 1)) - 128), (tb, n, kb, ln, rd, fp, (st + 2), mt, bg), rfl, (by simp only [seqN, seq1, seq2, seq3, seq4, finN, if_pos c_3, if_pos c_4, if_neg c_5, if_neg c_80, if_pos c_82, if_neg c_83, if_pos c_84, if_neg c_86, if_neg c_90, if_pos c_91, if_pos c_95, if_pos c_97, if_pos c_99, seqR_n, seqR_s, seqS_n, seqS_s, and_self]), by rw [ht]; exact hP9, va_K.moved hW.alike hK, hD9⟩, hS.F ht⟩) hS.2.2 dX1_sequence_214
                          · refine lv_iconst (v := -1) hx hb dX1_sequence_201 (by decide) ?_
                            have hP9 : va_P (dC, dI) vwCl (mw g0 g1 g2 cA (tb, n, kb, ln, rd, fp, st, mt, bg)) s.heap := hP
                            have hD9 : va_D A (mw g0 g1 g2 cA (tb, n, kb, ln, rd, fp, st, mt, bg)) := hD
                            exact W.iret (v := (-1)) hx hb hr (fun t ht hW => ⟨⟨(-1), (tb, n, kb, ln, rd, fp, st, mt, bg), rfl, (by simp only [seqN, seq1, seq2, seq3, seq4, finN, if_pos c_3, if_pos c_4, if_neg c_5, if_neg c_80, if_pos c_82, if_neg c_83, if_pos c_84, if_neg c_86, if_neg c_90, if_pos c_91, if_pos c_95, if_pos c_97, if_neg c_99, seqR_n, seqR_s, seqS_n, seqS_s, and_self]), by rw [ht]; exact hP9, va_K.moved hW.alike hK, hD9⟩, hS.F ht⟩) hS.2.2 dX1_sequence_202
                      · exact absurd c_95 (by decide)
                    · have c_91 : ¬ kb (st + 1) ≤ 191 := fun zz => c_91 ((nI_leI (a := kb (st + 1)) (b := 191) (by omega) (by omega)).mpr zz)
                      refine lv_iconst (v := -1) hx hb dX1_sequence_166 (by decide) ?_
                      have hP9 : va_P (dC, dI) vwCl (mw g0 g1 g2 cA (tb, n, kb, ln, rd, fp, st, mt, bg)) s.heap := hP
                      have hD9 : va_D A (mw g0 g1 g2 cA (tb, n, kb, ln, rd, fp, st, mt, bg)) := hD
                      exact W.iret (v := (-1)) hx hb hr (fun t ht hW => ⟨⟨(-1), (tb, n, kb, ln, rd, fp, st, mt, bg), rfl, (by simp only [seqN, seq1, seq2, seq3, seq4, finN, if_pos c_3, if_pos c_4, if_neg c_5, if_neg c_80, if_pos c_82, if_neg c_83, if_pos c_84, if_neg c_86, if_neg c_90, if_neg c_91, seqR_n, seqR_s, seqS_n, seqS_s, and_self]), by rw [ht]; exact hP9, va_K.moved hW.alike hK, hD9⟩, hS.F ht⟩) hS.2.2 dX1_sequence_167
            · exact absurd c_83 (by decide)
          · have c_82 : ¬ st + 2 ≤ ln := fun zz => c_82 ((nI_leI (a := st + 2) (b := ln) (by omega) (by omega)).mpr zz)
            refine lv_iconst (v := -1) hx hb dX1_sequence_84 (by decide) ?_
            have hP9 : va_P (dC, dI) vwCl (mw g0 g1 g2 cA (tb, n, kb, ln, rd, fp, st, mt, bg)) s.heap := hP
            have hD9 : va_D A (mw g0 g1 g2 cA (tb, n, kb, ln, rd, fp, st, mt, bg)) := hD
            exact W.iret (v := (-1)) hx hb hr (fun t ht hW => ⟨⟨(-1), (tb, n, kb, ln, rd, fp, st, mt, bg), rfl, (by simp only [seqN, seq1, seq2, seq3, seq4, finN, if_pos c_3, if_pos c_4, if_neg c_5, if_neg c_80, if_neg c_82, seqR_n, seqR_s, seqS_n, seqS_s, and_self]), by rw [ht]; exact hP9, va_K.moved hW.alike hK, hD9⟩, hS.F ht⟩) hS.2.2 dX1_sequence_85
    · have c_4 : ¬ 192 ≤ kb st := fun zz => c_4 ((nI_leI (a := 192) (b := kb st) (by omega) (by omega)).mpr zz)
      refine lv_iconst (v := 0) hx hb dX1_sequence_28 (by decide) ?_
      refine lv_goto (tgt := 66) hx hb dX1_sequence_29 (by decide) ?_
      refine lv_istore_n (lv' := [(2, .int 0), (1, .int (nI (kb st))), (0, .ref g0)]) hx hb dX1_sequence_66 rfl hl (by decide) rfl (fun ls hl => ?_)
      refine lv_iload_n hx hb dX1_sequence_67 rfl (lv_at hl 0 rfl) ?_
      refine lv_if_eq (tgt := 84) hx hb dX1_sequence_68 (by decide) (fun c_101 => ?_) (fun c_101 => ?_)
      · have c_101 : 0 = 0 := (nI_eq (a := 0) (b := 0) (by omega) (by omega)).mp c_101
        refine lv_iconst (v := -1) hx hb dX1_sequence_84 (by decide) ?_
        have hP9 : va_P (dC, dI) vwCl (mw g0 g1 g2 cA (tb, n, kb, ln, rd, fp, st, mt, bg)) s.heap := hP
        have hD9 : va_D A (mw g0 g1 g2 cA (tb, n, kb, ln, rd, fp, st, mt, bg)) := hD
        exact W.iret (v := (-1)) hx hb hr (fun t ht hW => ⟨⟨(-1), (tb, n, kb, ln, rd, fp, st, mt, bg), rfl, (by simp only [seqN, seq1, seq2, seq3, seq4, finN, if_pos c_3, if_neg c_4, if_pos c_101, seqR_n, seqR_s, seqS_n, seqS_s, and_self]), by rw [ht]; exact hP9, va_K.moved hW.alike hK, hD9⟩, hS.F ht⟩) hS.2.2 dX1_sequence_85
      · exact absurd c_101 (by decide)
  · have c_3 : ¬ 128 ≤ kb st := fun zz => c_3 ((nI_leI (a := 128) (b := kb st) (by omega) (by omega)).mpr zz)
    refine lv_iconst (v := 1) hx hb dX1_sequence_17 (by decide) ?_
    refine lv_goto (tgt := 66) hx hb dX1_sequence_18 (by decide) ?_
    refine lv_istore_n (lv' := [(2, .int 1), (1, .int (nI (kb st))), (0, .ref g0)]) hx hb dX1_sequence_66 rfl hl (by decide) rfl (fun ls hl => ?_)
    refine lv_iload_n hx hb dX1_sequence_67 rfl (lv_at hl 0 rfl) ?_
    refine lv_if_eq (tgt := 84) hx hb dX1_sequence_68 (by decide) (fun c_102 => ?_) (fun c_102 => ?_)
    · exact absurd c_102 (by decide)
    · have c_102 : ¬ 1 = 0 := fun zz => c_102 ((nI_eq (a := 1) (b := 0) (by omega) (by omega)).mpr zz)
      refine lv_aload_n hx hb dX1_sequence_71 rfl (lv_at hl 2 rfl) ?_
      refine va_get (D := (dC, dI)) (ci := 1) (v := .int (nI st)) (C := RX1) (T := TX1) (N := 9) hx hb hts hIn hown hK hP 0 rfl rfl 6 (by decide) (hts (.fieldLink RX1 41 RX1 "stand" "I") (by decide +kernel)) (fun _ h9 => h9) rfl dX1_sequence_72 ?_
      refine lv_iload_n hx hb dX1_sequence_75 rfl (lv_at hl 0 rfl) ?_
      refine lv_iadd hx hb dX1_sequence_76 ?_
      refine lv_topi (fun x_103 ex_103 => ?_)
      obtain rfl : x_103 = nI (st + 1) := ex_103.trans (nI_add st 1)
      refine lv_aload_n hx hb dX1_sequence_77 rfl (lv_at hl 2 rfl) ?_
      refine va_get (D := (dC, dI)) (ci := 1) (v := .int (nI ln)) (C := RX1) (T := TX1) (N := 9) hx hb hts hIn hown hK hP 0 rfl rfl 3 (by decide) (hts (.fieldLink RX1 44 RX1 "length" "I") (by decide +kernel)) (fun _ h9 => h9) rfl dX1_sequence_78 ?_
      refine lv_icmp_le (tgt := 86) hx hb dX1_sequence_81 (by decide) (fun c_104 => ?_) (fun c_104 => ?_)
      · have c_104 : st + 1 ≤ ln := (nI_leI (a := st + 1) (b := ln) (by omega) (by omega)).mp c_104
        refine lv_iload_n hx hb dX1_sequence_86 rfl (lv_at hl 0 rfl) ?_
        refine lv_iconst (v := 1) hx hb dX1_sequence_87 (by decide) ?_
        refine lv_icmp_ne (tgt := 95) hx hb dX1_sequence_88 (by decide) (fun c_105 => ?_) (fun c_105 => ?_)
        · exact absurd c_105 (by decide)
        · have c_105 : 1 = 1 := (nI_eq (a := 1) (b := 1) (by omega) (by omega)).mp c_105
          refine lv_iload_n hx hb dX1_sequence_91 rfl (lv_at hl 1 rfl) ?_
          refine lv_goto (tgt := 126) hx hb dX1_sequence_92 (by decide) ?_
          refine lv_istore_n (lv' := [(3, .int (nI (kb st))), (2, .int 1), (1, .int (nI (kb st))), (0, .ref g0)]) hx hb dX1_sequence_126 rfl hl (by decide) rfl (fun ls hl => ?_)
          refine lv_iconst (v := 1) hx hb dX1_sequence_127 (by decide) ?_
          refine lv_istore (lv' := [(4, .int 1), (3, .int (nI (kb st))), (2, .int 1), (1, .int (nI (kb st))), (0, .ref g0)]) hx hb dX1_sequence_128 hl (by decide) rfl (fun ls hl => ?_)
          refine lv_iload hx hb dX1_sequence_130 (lv_at hl 0 rfl) ?_
          refine lv_iload_n hx hb dX1_sequence_132 rfl (lv_at hl 2 rfl) ?_
          refine lv_icmp_ge (tgt := 186) hx hb dX1_sequence_133 (by decide) (fun c_106 => ?_) (fun c_106 => ?_)
          · have c_106 : 1 ≤ 1 := (nI_leI (a := 1) (b := 1) (by omega) (by omega)).mp c_106
            refine lv_iload_n hx hb dX1_sequence_186 rfl (lv_at hl 1 rfl) ?_
            refine vp_callSi (W.runS (As := [.int (nI (kb st))]) (rest := []) ⟨hx, hb, hml, hown, hts⟩ (c_X1_has l (nI (kb st))) (va_cwS 1 hts gX1_sequence_X1_has rfl rfl rfl (by decide +kernel) ⟨Nat.le_of_ble_eq_true rfl, Nat.le_of_ble_eq_true rfl⟩) ⟨fun _ _ _ _ q => q, fun U hU hW => ⟨rfl, trivial⟩⟩ rfl rfl hl.1 rfl (lv_room (Nat.le_of_ble_eq_true rfl)) dX1_sequence_187 ⟨Nat.le_of_ble_eq_true rfl, Nat.le_of_ble_eq_true rfl⟩) (fun r_107 er_107 => ?_)
            obtain rfl : r_107 = bI (mHas (nI (kb st))) := er_107
            refine lv_if_eq (tgt := 201) hx hb dX1_sequence_190 (by decide) (fun c_108 => ?_) (fun c_108 => ?_)
            · have c_108 := bI_0 c_108
              refine lv_iconst (v := -1) hx hb dX1_sequence_201 (by decide) ?_
              have hP9 : va_P (dC, dI) vwCl (mw g0 g1 g2 cA (tb, n, kb, ln, rd, fp, st, mt, bg)) s.heap := hP
              have hD9 : va_D A (mw g0 g1 g2 cA (tb, n, kb, ln, rd, fp, st, mt, bg)) := hD
              exact W.iret (v := (-1)) hx hb hr (fun t ht hW => ⟨⟨(-1), (tb, n, kb, ln, rd, fp, st, mt, bg), rfl, (by simp only [seqN, seq1, seq2, seq3, seq4, finN, if_neg c_3, if_neg c_102, if_pos c_104, if_pos c_105, if_pos c_106, if_neg c_108, seqR_n, seqR_s, seqS_n, seqS_s, and_self]), by rw [ht]; exact hP9, va_K.moved hW.alike hK, hD9⟩, hS.F ht⟩) hS.2.2 dX1_sequence_202
            · have c_108 := bI_n0 c_108
              refine lv_iload_n hx hb dX1_sequence_193 rfl (lv_at hl 1 rfl) ?_
              refine vp_callSi (W.runS (As := [.int (nI (kb st))]) (rest := []) ⟨hx, hb, hml, hown, hts⟩ (c_X1_sizeOf l (nI (kb st))) (va_cwS 1 hts gX1_sequence_X1_sizeOf rfl rfl rfl (by decide +kernel) ⟨Nat.le_of_ble_eq_true rfl, Nat.le_of_ble_eq_true rfl⟩) ⟨fun _ _ _ _ q => q, fun U hU hW => ⟨rfl, trivial⟩⟩ rfl rfl hl.1 rfl (lv_room (Nat.le_of_ble_eq_true rfl)) dX1_sequence_194 ⟨Nat.le_of_ble_eq_true rfl, Nat.le_of_ble_eq_true rfl⟩) (fun r_109 er_109 => ?_)
              obtain rfl : r_109 = mSize (nI (kb st)) := er_109
              refine lv_iload_n hx hb dX1_sequence_197 rfl (lv_at hl 2 rfl) ?_
              refine lv_icmp_eq (tgt := 203) hx hb dX1_sequence_198 (by decide) (fun c_110 => ?_) (fun c_110 => ?_)
              · refine lv_aload_n hx hb dX1_sequence_203 rfl (lv_at hl 4 rfl) ?_
                refine lv_aload_n hx hb dX1_sequence_204 rfl (lv_at hl 4 rfl) ?_
                refine va_get (D := (dC, dI)) (ci := 1) (v := .int (nI st)) (C := RX1) (T := TX1) (N := 9) hx hb hts hIn hown hK hP 0 rfl rfl 6 (by decide) (hts (.fieldLink RX1 41 RX1 "stand" "I") (by decide +kernel)) (fun _ h9 => h9) rfl dX1_sequence_205 ?_
                refine lv_iload_n hx hb dX1_sequence_208 rfl (lv_at hl 2 rfl) ?_
                refine lv_iadd hx hb dX1_sequence_209 ?_
                refine lv_topi (fun x_111 ex_111 => ?_)
                obtain rfl : x_111 = nI (st + 1) := ex_111.trans (nI_add st 1)
                refine va_put (D := (dC, dI)) (ci := 1) (v := .int (nI (st + 1))) (ty := .int) (C := RX1) (T := TX1) (N := 9) hx hb hts hIn tyX1 tyX1_ok nmX1 hown hK hP hD hS 0 rfl rfl 6 (by decide) (hts (.fieldLink RX1 41 RX1 "stand" "I") (by decide +kernel)) (fun _ h9 => h9) rfl (by decide +kernel) rfl rfl (Nat.le_of_ble_eq_true rfl) dX1_sequence_210 (fun H locs hP hD hS => ?_)
                have hP : va_P (dC, dI) vwCl [(g0, .inr (1, [.ref g1, .int (nI n), .ref g2, .int (nI ln), .int (bI rd), .int fp, .int (nI (st + 1)), .int mt, .int bg])), (g1, .inl (cA, 1000, .inl (fun j => nI (tb j)))), (g2, .inl (cA, 1000, .inl (fun j => nI (kb j))))] H := hP
                have hD : va_D A [(g0, .inr (1, [.ref g1, .int (nI n), .ref g2, .int (nI ln), .int (bI rd), .int fp, .int (nI (st + 1)), .int mt, .int bg])), (g1, .inl (cA, 1000, .inl (fun j => nI (tb j)))), (g2, .inl (cA, 1000, .inl (fun j => nI (kb j))))] := hD
                refine lv_iload_n hx hb dX1_sequence_213 rfl (lv_at hl 1 rfl) ?_
                have hP9 : va_P (dC, dI) vwCl (mw g0 g1 g2 cA (tb, n, kb, ln, rd, fp, (st + 1), mt, bg)) H := hP
                have hD9 : va_D A (mw g0 g1 g2 cA (tb, n, kb, ln, rd, fp, (st + 1), mt, bg)) := hD
                exact W.iret (v := nI (kb st)) hx hb hr (fun t ht hW => ⟨⟨nI (kb st), (tb, n, kb, ln, rd, fp, (st + 1), mt, bg), rfl, (by simp only [seqN, seq1, seq2, seq3, seq4, finN, if_neg c_3, if_neg c_102, if_pos c_104, if_pos c_105, if_pos c_106, if_pos c_108, if_pos c_110, seqR_n, seqR_s, seqS_n, seqS_s, and_self]), by rw [ht]; exact hP9, va_K.moved hW.alike hK, hD9⟩, hS.F ht⟩) hS.2.2 dX1_sequence_214
              · refine lv_iconst (v := -1) hx hb dX1_sequence_201 (by decide) ?_
                have hP9 : va_P (dC, dI) vwCl (mw g0 g1 g2 cA (tb, n, kb, ln, rd, fp, st, mt, bg)) s.heap := hP
                have hD9 : va_D A (mw g0 g1 g2 cA (tb, n, kb, ln, rd, fp, st, mt, bg)) := hD
                exact W.iret (v := (-1)) hx hb hr (fun t ht hW => ⟨⟨(-1), (tb, n, kb, ln, rd, fp, st, mt, bg), rfl, (by simp only [seqN, seq1, seq2, seq3, seq4, finN, if_neg c_3, if_neg c_102, if_pos c_104, if_pos c_105, if_pos c_106, if_pos c_108, if_neg c_110, seqR_n, seqR_s, seqS_n, seqS_s, and_self]), by rw [ht]; exact hP9, va_K.moved hW.alike hK, hD9⟩, hS.F ht⟩) hS.2.2 dX1_sequence_202
          · exact absurd c_106 (by decide)
      · have c_104 : ¬ st + 1 ≤ ln := fun zz => c_104 ((nI_leI (a := st + 1) (b := ln) (by omega) (by omega)).mpr zz)
        refine lv_iconst (v := -1) hx hb dX1_sequence_84 (by decide) ?_
        have hP9 : va_P (dC, dI) vwCl (mw g0 g1 g2 cA (tb, n, kb, ln, rd, fp, st, mt, bg)) s.heap := hP
        have hD9 : va_D A (mw g0 g1 g2 cA (tb, n, kb, ln, rd, fp, st, mt, bg)) := hD
        exact W.iret (v := (-1)) hx hb hr (fun t ht hW => ⟨⟨(-1), (tb, n, kb, ln, rd, fp, st, mt, bg), rfl, (by simp only [seqN, seq1, seq2, seq3, seq4, finN, if_neg c_3, if_neg c_102, if_neg c_104, seqR_n, seqR_s, seqS_n, seqS_s, and_self]), by rw [ht]; exact hP9, va_K.moved hW.alike hK, hD9⟩, hS.F ht⟩) hS.2.2 dX1_sequence_85
