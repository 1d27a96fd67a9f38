set_option maxHeartbeats 4000000 in
set_option maxRecDepth 100000 in
/-- widthOf -/
theorem c_X0_widthOf (l : Launch) (v : Int32) : Met l yX0_widthOf wsX0_widthOf ({ frames := 0, cells := 0, slots := 0, locals := 0 }) (va_Pc [.int v] (fun U => True)) (vp_Si (fun r => r = xWidth v)) 0 0 (fun _ => False) := by
  refine Met.ofW (cc := cX0_widthOf) (maxL := 1) (ret := (some .int)) (by decide) rfl ?_
  intro p e s m args below meth c s₁ B hml hv
  obtain ⟨rfl, -⟩ := hv
  have hx := B.exec
  have hb := B.bytes
  have hr := B.returns
  have hts := atoms_spec (ws := wsX0_widthOf) B.pre
  have hown : s.vm.findClass RX0 = some m.cls := findClass_of_methodNamed B.named
  have hS : va_S (fun _ => False) s.heap s.heap [] := va_S.rf
  have hl := lv_entry ([.int v]) (n := 1) (Nat.le_of_ble_eq_true rfl)
  rw [lg_entry_eq]
  generalize (lg_sl ([.int v]) ++ List.replicate (1 - (lg_sl ([.int v])).length) Slot.unset).toArray = ls at hl ⊢
  have hl : lv_has ls 1 [(0, .int v)] := hl
  refine lv_iload_n hx hb dX0_widthOf_0 rfl (lv_at hl 0 rfl) ?_
  refine lv_if_lt (tgt := 22) hx hb dX0_widthOf_1 (by decide) (fun c_1 => ?_) (fun c_1 => ?_)
  · refine lv_iconst (v := 0) hx hb dX0_widthOf_22 (by decide) ?_
    exact W.iret (v := 0) hx hb hr (fun t ht hW => ⟨0, rfl, by first | (simp only [xWidth, xW2, if_pos c_1, bI_t, bI_f]; done) | (simp only [xWidth, xW2, if_pos c_1, bI_t, bI_f]; rfl), ht⟩) hS.2.2 dX0_widthOf_23
  · refine lv_iload_n hx hb dX0_widthOf_4 rfl (lv_at hl 0 rfl) ?_
    refine lv_ldc (own := RX0) (v := 1114111) hx hb hown (hts (.constant RX0 104 1114111) (by decide +kernel)) dX0_widthOf_5 ?_
    refine lv_icmp_gt (tgt := 22) hx hb dX0_widthOf_7 (by decide) (fun c_2 => ?_) (fun c_2 => ?_)
    · refine lv_iconst (v := 0) hx hb dX0_widthOf_22 (by decide) ?_
      exact W.iret (v := 0) hx hb hr (fun t ht hW => ⟨0, rfl, by first | (simp only [xWidth, xW2, if_neg c_1, if_pos c_2, bI_t, bI_f]; done) | (simp only [xWidth, xW2, if_neg c_1, if_pos c_2, bI_t, bI_f]; rfl), ht⟩) hS.2.2 dX0_widthOf_23
    · refine lv_iload_n hx hb dX0_widthOf_10 rfl (lv_at hl 0 rfl) ?_
      refine lv_ldc (own := RX0) (v := 55296) hx hb hown (hts (.constant RX0 105 55296) (by decide +kernel)) dX0_widthOf_11 ?_
      refine lv_icmp_lt (tgt := 24) hx hb dX0_widthOf_13 (by decide) (fun c_3 => ?_) (fun c_3 => ?_)
      · refine lv_iload_n hx hb dX0_widthOf_24 rfl (lv_at hl 0 rfl) ?_
        refine lv_bipush (v := 127) hx hb dX0_widthOf_25 (by decide) ?_
        refine lv_icmp_gt (tgt := 32) hx hb dX0_widthOf_27 (by decide) (fun c_4 => ?_) (fun c_4 => ?_)
        · refine lv_iload_n hx hb dX0_widthOf_32 rfl (lv_at hl 0 rfl) ?_
          refine lv_sipush (v := 2047) hx hb dX0_widthOf_33 (by decide) ?_
          refine lv_icmp_gt (tgt := 41) hx hb dX0_widthOf_36 (by decide) (fun c_5 => ?_) (fun c_5 => ?_)
          · refine lv_iload_n hx hb dX0_widthOf_41 rfl (lv_at hl 0 rfl) ?_
            refine lv_ldc (own := RX0) (v := 65535) hx hb hown (hts (.constant RX0 107 65535) (by decide +kernel)) dX0_widthOf_42 ?_
            refine lv_icmp_gt (tgt := 51) hx hb dX0_widthOf_44 (by decide) (fun c_6 => ?_) (fun c_6 => ?_)
            · refine lv_iconst (v := 4) hx hb dX0_widthOf_51 (by decide) ?_
              exact W.iret (v := 4) hx hb hr (fun t ht hW => ⟨4, rfl, by first | (simp only [xWidth, xW2, if_neg c_1, if_neg c_2, if_pos c_3, if_pos c_4, if_pos c_5, if_pos c_6, bI_t, bI_f]; done) | (simp only [xWidth, xW2, if_neg c_1, if_neg c_2, if_pos c_3, if_pos c_4, if_pos c_5, if_pos c_6, bI_t, bI_f]; rfl), ht⟩) hS.2.2 dX0_widthOf_52
            · refine lv_iconst (v := 3) hx hb dX0_widthOf_47 (by decide) ?_
              refine lv_goto (tgt := 52) hx hb dX0_widthOf_48 (by decide) ?_
              exact W.iret (v := 3) hx hb hr (fun t ht hW => ⟨3, rfl, by first | (simp only [xWidth, xW2, if_neg c_1, if_neg c_2, if_pos c_3, if_pos c_4, if_pos c_5, if_neg c_6, bI_t, bI_f]; done) | (simp only [xWidth, xW2, if_neg c_1, if_neg c_2, if_pos c_3, if_pos c_4, if_pos c_5, if_neg c_6, bI_t, bI_f]; rfl), ht⟩) hS.2.2 dX0_widthOf_52
          · refine lv_iconst (v := 2) hx hb dX0_widthOf_39 (by decide) ?_
            exact W.iret (v := 2) hx hb hr (fun t ht hW => ⟨2, rfl, by first | (simp only [xWidth, xW2, if_neg c_1, if_neg c_2, if_pos c_3, if_pos c_4, if_neg c_5, bI_t, bI_f]; done) | (simp only [xWidth, xW2, if_neg c_1, if_neg c_2, if_pos c_3, if_pos c_4, if_neg c_5, bI_t, bI_f]; rfl), ht⟩) hS.2.2 dX0_widthOf_40
        · refine lv_iconst (v := 1) hx hb dX0_widthOf_30 (by decide) ?_
          exact W.iret (v := 1) hx hb hr (fun t ht hW => ⟨1, rfl, by first | (simp only [xWidth, xW2, if_neg c_1, if_neg c_2, if_pos c_3, if_neg c_4, bI_t, bI_f]; done) | (simp only [xWidth, xW2, if_neg c_1, if_neg c_2, if_pos c_3, if_neg c_4, bI_t, bI_f]; rfl), ht⟩) hS.2.2 dX0_widthOf_31
      · refine lv_iload_n hx hb dX0_widthOf_16 rfl (lv_at hl 0 rfl) ?_
        refine lv_ldc (own := RX0) (v := 57343) hx hb hown (hts (.constant RX0 106 57343) (by decide +kernel)) dX0_widthOf_17 ?_
        refine lv_icmp_gt (tgt := 24) hx hb dX0_widthOf_19 (by decide) (fun c_7 => ?_) (fun c_7 => ?_)
        · refine lv_iload_n hx hb dX0_widthOf_24 rfl (lv_at hl 0 rfl) ?_
          refine lv_bipush (v := 127) hx hb dX0_widthOf_25 (by decide) ?_
          refine lv_icmp_gt (tgt := 32) hx hb dX0_widthOf_27 (by decide) (fun c_8 => ?_) (fun c_8 => ?_)
          · refine lv_iload_n hx hb dX0_widthOf_32 rfl (lv_at hl 0 rfl) ?_
            refine lv_sipush (v := 2047) hx hb dX0_widthOf_33 (by decide) ?_
            refine lv_icmp_gt (tgt := 41) hx hb dX0_widthOf_36 (by decide) (fun c_9 => ?_) (fun c_9 => ?_)
            · refine lv_iload_n hx hb dX0_widthOf_41 rfl (lv_at hl 0 rfl) ?_
              refine lv_ldc (own := RX0) (v := 65535) hx hb hown (hts (.constant RX0 107 65535) (by decide +kernel)) dX0_widthOf_42 ?_
              refine lv_icmp_gt (tgt := 51) hx hb dX0_widthOf_44 (by decide) (fun c_10 => ?_) (fun c_10 => ?_)
              · refine lv_iconst (v := 4) hx hb dX0_widthOf_51 (by decide) ?_
                exact W.iret (v := 4) hx hb hr (fun t ht hW => ⟨4, rfl, by first | (simp only [xWidth, xW2, if_neg c_1, if_neg c_2, if_neg c_3, if_pos c_7, if_pos c_8, if_pos c_9, if_pos c_10, bI_t, bI_f]; done) | (simp only [xWidth, xW2, if_neg c_1, if_neg c_2, if_neg c_3, if_pos c_7, if_pos c_8, if_pos c_9, if_pos c_10, bI_t, bI_f]; rfl), ht⟩) hS.2.2 dX0_widthOf_52
              · refine lv_iconst (v := 3) hx hb dX0_widthOf_47 (by decide) ?_
                refine lv_goto (tgt := 52) hx hb dX0_widthOf_48 (by decide) ?_
                exact W.iret (v := 3) hx hb hr (fun t ht hW => ⟨3, rfl, by first | (simp only [xWidth, xW2, if_neg c_1, if_neg c_2, if_neg c_3, if_pos c_7, if_pos c_8, if_pos c_9, if_neg c_10, bI_t, bI_f]; done) | (simp only [xWidth, xW2, if_neg c_1, if_neg c_2, if_neg c_3, if_pos c_7, if_pos c_8, if_pos c_9, if_neg c_10, bI_t, bI_f]; rfl), ht⟩) hS.2.2 dX0_widthOf_52
            · refine lv_iconst (v := 2) hx hb dX0_widthOf_39 (by decide) ?_
              exact W.iret (v := 2) hx hb hr (fun t ht hW => ⟨2, rfl, by first | (simp only [xWidth, xW2, if_neg c_1, if_neg c_2, if_neg c_3, if_pos c_7, if_pos c_8, if_neg c_9, bI_t, bI_f]; done) | (simp only [xWidth, xW2, if_neg c_1, if_neg c_2, if_neg c_3, if_pos c_7, if_pos c_8, if_neg c_9, bI_t, bI_f]; rfl), ht⟩) hS.2.2 dX0_widthOf_40
          · refine lv_iconst (v := 1) hx hb dX0_widthOf_30 (by decide) ?_
            exact W.iret (v := 1) hx hb hr (fun t ht hW => ⟨1, rfl, by first | (simp only [xWidth, xW2, if_neg c_1, if_neg c_2, if_neg c_3, if_pos c_7, if_neg c_8, bI_t, bI_f]; done) | (simp only [xWidth, xW2, if_neg c_1, if_neg c_2, if_neg c_3, if_pos c_7, if_neg c_8, bI_t, bI_f]; rfl), ht⟩) hS.2.2 dX0_widthOf_31
        · refine lv_iconst (v := 0) hx hb dX0_widthOf_22 (by decide) ?_
          exact W.iret (v := 0) hx hb hr (fun t ht hW => ⟨0, rfl, by first | (simp only [xWidth, xW2, if_neg c_1, if_neg c_2, if_neg c_3, if_neg c_7, bI_t, bI_f]; done) | (simp only [xWidth, xW2, if_neg c_1, if_neg c_2, if_neg c_3, if_neg c_7, bI_t, bI_f]; rfl), ht⟩) hS.2.2 dX0_widthOf_23
set_option maxHeartbeats 4000000 in
set_option maxRecDepth 100000 in
/-- followersOf -/
theorem c_X0_followersOf (l : Launch) (v : Int32) : Met l yX0_followersOf wsX0_followersOf ({ frames := 0, cells := 0, slots := 0, locals := 0 }) (va_Pc [.int v] (fun U => True)) (vp_Si (fun r => r = xFol v)) 0 0 (fun _ => False) := by
  refine Met.ofW (cc := cX0_followersOf) (maxL := 1) (ret := (some .int)) (by decide) rfl ?_
  intro p e s m args below meth c s₁ B hml hv
  obtain ⟨rfl, -⟩ := hv
  have hx := B.exec
  have hb := B.bytes
  have hr := B.returns
  have hts := atoms_spec (ws := wsX0_followersOf) B.pre
  have hown : s.vm.findClass RX0 = some m.cls := findClass_of_methodNamed B.named
  have hS : va_S (fun _ => False) s.heap s.heap [] := va_S.rf
  have hl := lv_entry ([.int v]) (n := 1) (Nat.le_of_ble_eq_true rfl)
  rw [lg_entry_eq]
  generalize (lg_sl ([.int v]) ++ List.replicate (1 - (lg_sl ([.int v])).length) Slot.unset).toArray = ls at hl ⊢
  have hl : lv_has ls 1 [(0, .int v)] := hl
  refine lv_iload_n hx hb dX0_followersOf_0 rfl (lv_at hl 0 rfl) ?_
  refine lv_sipush (v := 128) hx hb dX0_followersOf_1 (by decide) ?_
  refine lv_icmp_ge (tgt := 9) hx hb dX0_followersOf_4 (by decide) (fun c_1 => ?_) (fun c_1 => ?_)
  · refine lv_iload_n hx hb dX0_followersOf_9 rfl (lv_at hl 0 rfl) ?_
    refine lv_sipush (v := 224) hx hb dX0_followersOf_10 (by decide) ?_
    refine lv_iand hx hb dX0_followersOf_13 ?_
    refine lv_sipush (v := 192) hx hb dX0_followersOf_14 (by decide) ?_
    refine lv_icmp_ne (tgt := 22) hx hb dX0_followersOf_17 (by decide) (fun c_2 => ?_) (fun c_2 => ?_)
    · refine lv_iload_n hx hb dX0_followersOf_22 rfl (lv_at hl 0 rfl) ?_
      refine lv_sipush (v := 240) hx hb dX0_followersOf_23 (by decide) ?_
      refine lv_iand hx hb dX0_followersOf_26 ?_
      refine lv_sipush (v := 224) hx hb dX0_followersOf_27 (by decide) ?_
      refine lv_icmp_ne (tgt := 35) hx hb dX0_followersOf_30 (by decide) (fun c_3 => ?_) (fun c_3 => ?_)
      · refine lv_iload_n hx hb dX0_followersOf_35 rfl (lv_at hl 0 rfl) ?_
        refine lv_sipush (v := 248) hx hb dX0_followersOf_36 (by decide) ?_
        refine lv_iand hx hb dX0_followersOf_39 ?_
        refine lv_sipush (v := 240) hx hb dX0_followersOf_40 (by decide) ?_
        refine lv_icmp_ne (tgt := 50) hx hb dX0_followersOf_43 (by decide) (fun c_4 => ?_) (fun c_4 => ?_)
        · refine lv_iconst (v := -1) hx hb dX0_followersOf_50 (by decide) ?_
          exact W.iret (v := (-1)) hx hb hr (fun t ht hW => ⟨(-1), rfl, by first | (simp only [xFol, if_pos c_1, if_neg c_2, if_neg c_3, if_neg c_4, bI_t, bI_f]; done) | (simp only [xFol, if_pos c_1, if_neg c_2, if_neg c_3, if_neg c_4, bI_t, bI_f]; rfl), ht⟩) hS.2.2 dX0_followersOf_51
        · refine lv_iconst (v := 3) hx hb dX0_followersOf_46 (by decide) ?_
          refine lv_goto (tgt := 51) hx hb dX0_followersOf_47 (by decide) ?_
          exact W.iret (v := 3) hx hb hr (fun t ht hW => ⟨3, rfl, by first | (simp only [xFol, if_pos c_1, if_neg c_2, if_neg c_3, if_pos c_4, bI_t, bI_f]; done) | (simp only [xFol, if_pos c_1, if_neg c_2, if_neg c_3, if_pos c_4, bI_t, bI_f]; rfl), ht⟩) hS.2.2 dX0_followersOf_51
      · refine lv_iconst (v := 2) hx hb dX0_followersOf_33 (by decide) ?_
        exact W.iret (v := 2) hx hb hr (fun t ht hW => ⟨2, rfl, by first | (simp only [xFol, if_pos c_1, if_neg c_2, if_pos c_3, bI_t, bI_f]; done) | (simp only [xFol, if_pos c_1, if_neg c_2, if_pos c_3, bI_t, bI_f]; rfl), ht⟩) hS.2.2 dX0_followersOf_34
    · refine lv_iconst (v := 1) hx hb dX0_followersOf_20 (by decide) ?_
      exact W.iret (v := 1) hx hb hr (fun t ht hW => ⟨1, rfl, by first | (simp only [xFol, if_pos c_1, if_pos c_2, bI_t, bI_f]; done) | (simp only [xFol, if_pos c_1, if_pos c_2, bI_t, bI_f]; rfl), ht⟩) hS.2.2 dX0_followersOf_21
  · refine lv_iconst (v := 0) hx hb dX0_followersOf_7 (by decide) ?_
    exact W.iret (v := 0) hx hb hr (fun t ht hW => ⟨0, rfl, by first | (simp only [xFol, if_neg c_1, bI_t, bI_f]; done) | (simp only [xFol, if_neg c_1, bI_t, bI_f]; rfl), ht⟩) hS.2.2 dX0_followersOf_8
set_option maxHeartbeats 4000000 in
set_option maxRecDepth 100000 in
/-- firstByteMark -/
theorem c_X0_firstByteMark (l : Launch) (v : Int32) : Met l yX0_firstByteMark wsX0_firstByteMark ({ frames := 0, cells := 0, slots := 0, locals := 0 }) (va_Pc [.int v] (fun U => True)) (vp_Si (fun r => r = xMark v)) 0 0 (fun _ => False) := by
  refine Met.ofW (cc := cX0_firstByteMark) (maxL := 1) (ret := (some .int)) (by decide) rfl ?_
  intro p e s m args below meth c s₁ B hml hv
  obtain ⟨rfl, -⟩ := hv
  have hx := B.exec
  have hb := B.bytes
  have hr := B.returns
  have hts := atoms_spec (ws := wsX0_firstByteMark) B.pre
  have hown : s.vm.findClass RX0 = some m.cls := findClass_of_methodNamed B.named
  have hS : va_S (fun _ => False) s.heap s.heap [] := va_S.rf
  have hl := lv_entry ([.int v]) (n := 1) (Nat.le_of_ble_eq_true rfl)
  rw [lg_entry_eq]
  generalize (lg_sl ([.int v]) ++ List.replicate (1 - (lg_sl ([.int v])).length) Slot.unset).toArray = ls at hl ⊢
  have hl : lv_has ls 1 [(0, .int v)] := hl
  refine lv_iload_n hx hb dX0_firstByteMark_0 rfl (lv_at hl 0 rfl) ?_
  by_cases c_1 : v = 2
  · refine lv_tableIn (tgt := 28) hx hb dX0_firstByteMark_1 (by rw [c_1]; decide) (by rw [c_1]; decide) (by rw [c_1]; rfl) (by decide) ?_
    refine lv_sipush (v := 192) hx hb dX0_firstByteMark_28 (by decide) ?_
    exact W.iret (v := 192) hx hb hr (fun t ht hW => ⟨192, rfl, by first | (simp only [xMark, if_pos c_1, bI_t, bI_f]; done) | (simp only [xMark, if_pos c_1, bI_t, bI_f]; rfl), ht⟩) hS.2.2 dX0_firstByteMark_31
  by_cases c_2 : v = 3
  · refine lv_tableIn (tgt := 32) hx hb dX0_firstByteMark_1 (by rw [c_2]; decide) (by rw [c_2]; decide) (by rw [c_2]; rfl) (by decide) ?_
    refine lv_sipush (v := 224) hx hb dX0_firstByteMark_32 (by decide) ?_
    exact W.iret (v := 224) hx hb hr (fun t ht hW => ⟨224, rfl, by first | (simp only [xMark, if_neg c_1, if_pos c_2, bI_t, bI_f]; done) | (simp only [xMark, if_neg c_1, if_pos c_2, bI_t, bI_f]; rfl), ht⟩) hS.2.2 dX0_firstByteMark_35
  by_cases c_3 : v = 4
  · refine lv_tableIn (tgt := 36) hx hb dX0_firstByteMark_1 (by rw [c_3]; decide) (by rw [c_3]; decide) (by rw [c_3]; rfl) (by decide) ?_
    refine lv_sipush (v := 240) hx hb dX0_firstByteMark_36 (by decide) ?_
    exact W.iret (v := 240) hx hb hr (fun t ht hW => ⟨240, rfl, by first | (simp only [xMark, if_neg c_1, if_neg c_2, if_pos c_3, bI_t, bI_f]; done) | (simp only [xMark, if_neg c_1, if_neg c_2, if_pos c_3, bI_t, bI_f]; rfl), ht⟩) hS.2.2 dX0_firstByteMark_39
  refine lv_tableOut (tgt := 40) hx hb dX0_firstByteMark_1 (by have q0 := lv_neT (a := 2) c_1 (by decide); have q1 := lv_neT (a := 3) c_2 (by decide); have q2 := lv_neT (a := 4) c_3 (by decide); omega) (by decide) ?_
  refine lv_iconst (v := 0) hx hb dX0_firstByteMark_40 (by decide) ?_
  exact W.iret (v := 0) hx hb hr (fun t ht hW => ⟨0, rfl, by first | (simp only [xMark, if_neg c_1, if_neg c_2, if_neg c_3, bI_t, bI_f]; done) | (simp only [xMark, if_neg c_1, if_neg c_2, if_neg c_3, bI_t, bI_f]; rfl), ht⟩) hS.2.2 dX0_firstByteMark_41
set_option maxHeartbeats 4000000 in
set_option maxRecDepth 100000 in
/-- encodedByte -/
theorem c_X0_encodedByte (l : Launch) (v wd j : Int32) : Met l yX0_encodedByte wsX0_encodedByte ({ frames := 1, cells := 0, slots := 0, locals := 20 }) (va_Pc [.int v, .int wd, .int j] (fun U => True)) (vp_Si (fun r => r = xEnc v wd j)) 0 0 (fun _ => False) := by
  refine Met.ofW (cc := cX0_encodedByte) (maxL := 4) (ret := (some .int)) (by decide) rfl ?_
  intro p e s m args below meth c s₁ B hml hv
  obtain ⟨rfl, -⟩ := hv
  have hx := B.exec
  have hb := B.bytes
  have hr := B.returns
  have hts := atoms_spec (ws := wsX0_encodedByte) B.pre
  have hown : s.vm.findClass RX0 = some m.cls := findClass_of_methodNamed B.named
  have hS : va_S (fun _ => False) s.heap s.heap [] := va_S.rf
  have hl := lv_entry ([.int v, .int wd, .int j]) (n := 4) (Nat.le_of_ble_eq_true rfl)
  rw [lg_entry_eq]
  generalize (lg_sl ([.int v, .int wd, .int j]) ++ List.replicate (4 - (lg_sl ([.int v, .int wd, .int j])).length) Slot.unset).toArray = ls at hl ⊢
  have hl : lv_has ls 4 [(0, .int v), (1, .int wd), (2, .int j)] := hl
  refine lv_iload_n hx hb dX0_encodedByte_0 rfl (lv_at hl 0 rfl) ?_
  refine lv_bipush (v := 6) hx hb dX0_encodedByte_1 (by decide) ?_
  refine lv_iload_n hx hb dX0_encodedByte_3 rfl (lv_at hl 1 rfl) ?_
  refine lv_iconst (v := 1) hx hb dX0_encodedByte_4 (by decide) ?_
  refine lv_isub hx hb dX0_encodedByte_5 ?_
  refine lv_iload_n hx hb dX0_encodedByte_6 rfl (lv_at hl 2 rfl) ?_
  refine lv_isub hx hb dX0_encodedByte_7 ?_
  refine lv_imul hx hb dX0_encodedByte_8 ?_
  refine lv_ishr hx hb dX0_encodedByte_9 ?_
  refine lv_topi (fun x_1 ex_1 => ?_)
  refine lv_istore_n (lv' := [(3, .int x_1), (0, .int v), (1, .int wd), (2, .int j)]) hx hb dX0_encodedByte_10 rfl hl (by decide) rfl (fun ls hl => ?_)
  refine lv_iload_n hx hb dX0_encodedByte_11 rfl (lv_at hl 3 rfl) ?_
  refine lv_if_le (tgt := 24) hx hb dX0_encodedByte_12 (by decide) (fun c_2 => ?_) (fun c_2 => ?_)
  · refine lv_iload_n hx hb dX0_encodedByte_24 rfl (lv_at hl 2 rfl) ?_
    refine vp_callSi (W.runS (As := [.int wd]) (rest := []) ⟨hx, hb, hml, hown, hts⟩ (c_X0_firstByteMark l wd) (va_cwS 1 hts gX0_encodedByte_X0_firstByteMark rfl rfl rfl (by decide +kernel) ⟨Nat.le_of_ble_eq_true rfl, Nat.le_of_ble_eq_true rfl⟩) ⟨fun _ _ _ _ q => q, fun U hU hW => ⟨rfl, trivial⟩⟩ rfl rfl hl.1 rfl (lv_room (Nat.le_of_ble_eq_true rfl)) dX0_encodedByte_25 ⟨Nat.le_of_ble_eq_true rfl, Nat.le_of_ble_eq_true rfl⟩) (fun r_3 er_3 => ?_)
    obtain rfl : r_3 = xMark wd := er_3
    refine lv_iload_n hx hb dX0_encodedByte_28 rfl (lv_at hl 0 rfl) ?_
    refine lv_ior hx hb dX0_encodedByte_29 ?_
    exact W.iret (v := (xMark wd) ||| x_1) hx hb hr (fun t ht hW => ⟨(xMark wd) ||| x_1, rfl, by simp only [xEnc, if_pos c_2, ex_1], ht⟩) hS.2.2 dX0_encodedByte_30
  · refine lv_sipush (v := 128) hx hb dX0_encodedByte_15 (by decide) ?_
    refine lv_iload_n hx hb dX0_encodedByte_18 rfl (lv_at hl 0 rfl) ?_
    refine lv_bipush (v := 63) hx hb dX0_encodedByte_19 (by decide) ?_
    refine lv_iand hx hb dX0_encodedByte_21 ?_
    refine lv_ior hx hb dX0_encodedByte_22 ?_
    exact W.iret (v := 128 ||| (x_1 &&& 63)) hx hb hr (fun t ht hW => ⟨128 ||| (x_1 &&& 63), rfl, by simp only [xEnc, if_neg c_2, ex_1], ht⟩) hS.2.2 dX0_encodedByte_23
set_option maxHeartbeats 4000000 in
set_option maxRecDepth 100000 in
/-- isIn: is v in one of the M ranges -/
theorem c_X0_isIn (l : Launch) (t M : Nat) (f : Nat → Int32) (v : Int32) (hM : M ≤ 1000) : Met l yX0_isIn wsX0_isIn ({ frames := 0, cells := 0, slots := 0, locals := 0 }) (va_Pc [.ref t, .int v] (fun U => va_T .int t (2 * M) (fun j => .int (f j)) (fun _ => False) U U.heap)) (vp_Si (fun r => r = bI (xIn f v M))) 0 0 (fun _ => False) := by
  refine Met.ofW (cc := cX0_isIn) (maxL := 3) (ret := (some .boolean)) (by decide) rfl ?_
  intro p e s m args below meth c s₁ B hml hv
  obtain ⟨rfl, hT0⟩ := hv
  have hx := B.exec
  have hb := B.bytes
  have hr := B.returns
  have hts := atoms_spec (ws := wsX0_isIn) B.pre
  have hown : s.vm.findClass RX0 = some m.cls := findClass_of_methodNamed B.named
  have hS : va_S (fun _ => False) s.heap s.heap [] := va_S.rf
  have hl := lv_entry ([.ref t, .int v]) (n := 3) (Nat.le_of_ble_eq_true rfl)
  rw [lg_entry_eq]
  generalize (lg_sl ([.ref t, .int v]) ++ List.replicate (3 - (lg_sl ([.ref t, .int v])).length) Slot.unset).toArray = ls at hl ⊢
  have hl : lv_has ls 3 [(0, .ref t), (1, .int v)] := hl
  have loop : ∀ (d j : Nat) (ls : Array Slot), j + d = M → xIn f v j = false → lv_has ls 3 [(2, .int (nI (2 * j))), (0, .ref t), (1, .int v)] → W p l e (headSpec wsX0_isIn ({ frames := 0, cells := 0, slots := 0, locals := 0 })).room s m ([.ref t, .int v] : List Value).toArray below meth c s.heap [] 0 0 (MQ below (vp_Si (fun r => r = bI (xIn f v M))) ([.ref t, .int v] : List Value).toArray s 0 0 (fun _ => False)) (F0 m 2 ls []) := by
    intro d
    induction d with
    | zero =>
      intro j ls hj hnone hl
      refine lv_iload_n hx hb dX0_isIn_2 rfl (lv_at hl 0 rfl) ?_
      refine lv_iconst (v := 1) hx hb dX0_isIn_3 (by decide) ?_
      refine lv_iadd hx hb dX0_isIn_4 ?_
      refine lv_topi (fun x_1 ex_1 => ?_)
      obtain rfl : x_1 = nI (2 * j + 1) := ex_1.trans (nI_1 _)
      refine lv_aload_n hx hb dX0_isIn_5 rfl (lv_at hl 1 rfl) ?_
      refine va_tlen (v := nI (2 * M)) hx hb hT0 hS rfl dX0_isIn_6 ?_
      refine lv_icmp_ge (tgt := 34) hx hb dX0_isIn_7 (by decide) (fun c_2 => ?_) (fun c_2 => ?_)
      · refine lv_iconst (v := 0) hx hb dX0_isIn_34 (by decide) ?_
        exact W.zret (v := 0) (ty := .boolean) hx hb hr (rfl) (fun t ht hW => ⟨0, rfl, (by rw [show M = j by omega, hnone]; rfl), ht⟩) hS.2.2 dX0_isIn_35
      · exact absurd (nI_le (by omega) (by omega)) c_2
    | succ d ih =>
      intro j ls hj hnone hl
      refine lv_iload_n hx hb dX0_isIn_2 rfl (lv_at hl 0 rfl) ?_
      refine lv_iconst (v := 1) hx hb dX0_isIn_3 (by decide) ?_
      refine lv_iadd hx hb dX0_isIn_4 ?_
      refine lv_topi (fun x_3 ex_3 => ?_)
      obtain rfl : x_3 = nI (2 * j + 1) := ex_3.trans (nI_1 _)
      refine lv_aload_n hx hb dX0_isIn_5 rfl (lv_at hl 1 rfl) ?_
      refine va_tlen (v := nI (2 * M)) hx hb hT0 hS rfl dX0_isIn_6 ?_
      refine lv_icmp_ge (tgt := 34) hx hb dX0_isIn_7 (by decide) (fun c_4 => ?_) (fun c_4 => ?_)
      · exact absurd c_4 (nI_ge (by omega) (by omega))
      · refine lv_iload_n hx hb dX0_isIn_10 rfl (lv_at hl 2 rfl) ?_
        refine lv_aload_n hx hb dX0_isIn_11 rfl (lv_at hl 1 rfl) ?_
        refine lv_iload_n hx hb dX0_isIn_12 rfl (lv_at hl 0 rfl) ?_
        refine va_ti (v := .int (f (2 * j))) hx hb hT0 hS (vp_in_nI (by omega) (by omega)) (by rw [nI_clamp (by omega)]) dX0_isIn_13 ?_
        refine lv_icmp_lt (tgt := 28) hx hb dX0_isIn_14 (by decide) (fun c_5 => ?_) (fun c_5 => ?_)
        · refine lv_iinc (v := nI (2 * (j + 1))) (lv' := [(2, .int (nI (2 * (j + 1)))), (0, .ref t), (1, .int v)]) hx hb dX0_isIn_28 hl (k := 0) rfl (by rw [show (2 * (j + 1)) = 2 * j + 2 by omega]; exact nI_add _ 2) (by decide) rfl (fun ls hl => ?_)
          refine lv_goto (tgt := 2) hx hb dX0_isIn_31 (by decide) ?_
          exact ih (j + 1) ls (by omega) (xIn_lo hnone c_5) (lv_sub hl [0, 1, 2] rfl)
        · refine lv_iload_n hx hb dX0_isIn_17 rfl (lv_at hl 2 rfl) ?_
          refine lv_aload_n hx hb dX0_isIn_18 rfl (lv_at hl 1 rfl) ?_
          refine lv_iload_n hx hb dX0_isIn_19 rfl (lv_at hl 0 rfl) ?_
          refine lv_iconst (v := 1) hx hb dX0_isIn_20 (by decide) ?_
          refine lv_iadd hx hb dX0_isIn_21 ?_
          refine lv_topi (fun x_6 ex_6 => ?_)
          obtain rfl : x_6 = nI (2 * j + 1) := ex_6.trans (nI_1 _)
          refine va_ti (v := .int (f (2 * j + 1))) hx hb hT0 hS (vp_in_nI (by omega) (by omega)) (by rw [nI_clamp (by omega)]) dX0_isIn_22 ?_
          refine lv_icmp_gt (tgt := 28) hx hb dX0_isIn_23 (by decide) (fun c_7 => ?_) (fun c_7 => ?_)
          · refine lv_iinc (v := nI (2 * (j + 1))) (lv' := [(2, .int (nI (2 * (j + 1)))), (0, .ref t), (1, .int v)]) hx hb dX0_isIn_28 hl (k := 0) rfl (by rw [show (2 * (j + 1)) = 2 * j + 2 by omega]; exact nI_add _ 2) (by decide) rfl (fun ls hl => ?_)
            refine lv_goto (tgt := 2) hx hb dX0_isIn_31 (by decide) ?_
            exact ih (j + 1) ls (by omega) (xIn_hi hnone c_7) (lv_sub hl [0, 1, 2] rfl)
          · refine lv_iconst (v := 1) hx hb dX0_isIn_26 (by decide) ?_
            exact W.zret (v := 1) (ty := .boolean) hx hb hr (rfl) (fun t ht hW => ⟨1, rfl, (by rw [xIn_hit (j := j) (by omega) c_5 c_7]; rfl), ht⟩) hS.2.2 dX0_isIn_27
  refine lv_iconst (v := 0) hx hb dX0_isIn_0 (by decide) ?_
  refine lv_istore_n (lv' := [(2, .int 0), (0, .ref t), (1, .int v)]) hx hb dX0_isIn_1 rfl hl (by decide) rfl (fun ls hl => ?_)
  exact loop M 0 ls (by omega) rfl hl
set_option maxHeartbeats 4000000 in
set_option maxRecDepth 100000 in
/-- isNamePart -/
theorem c_X0_isNamePart (l : Launch) (t0 t1 t2 t3 : Nat) (v : Int32) : Met l yX0_isNamePart wsX0_isNamePart ({ frames := 1, cells := 0, slots := 0, locals := 22 }) (va_Pc [.int v] (fun U => xtab t0 t1 t2 t3 (fun _ => False) U U.heap)) (vp_Si (fun r => r = bI (xNP v))) 0 0 (fun _ => False) := by
  refine Met.ofW (cc := cX0_isNamePart) (maxL := 1) (ret := (some .boolean)) (by decide) rfl ?_
  intro p e s m args below meth c s₁ B hml hv
  obtain ⟨rfl, hT⟩ := hv
  have hx := B.exec
  have hb := B.bytes
  have hr := B.returns
  have hts := atoms_spec (ws := wsX0_isNamePart) B.pre
  have hown : s.vm.findClass RX0 = some m.cls := findClass_of_methodNamed B.named
  have hS : va_S (fun _ => False) s.heap s.heap [] := va_S.rf
  obtain ⟨hz0, ht0, hz1, ht1, hz2, ht2, hz3, ht3⟩ := id hT
  have hl := lv_entry ([.int v]) (n := 1) (Nat.le_of_ble_eq_true rfl)
  rw [lg_entry_eq]
  generalize (lg_sl ([.int v]) ++ List.replicate (1 - (lg_sl ([.int v])).length) Slot.unset).toArray = ls at hl ⊢
  have hl : lv_has ls 1 [(0, .int v)] := hl
  refine va_gets hx hb hz2 hS hown (hts (.fieldLink RX0 68 RX0 "NAME_BEGINS" "[I") (by decide +kernel)) (fun _ h9 => h9) dX0_isNamePart_0 ?_
  refine lv_iload_n hx hb dX0_isNamePart_3 rfl (lv_at hl 0 rfl) ?_
  refine vp_callSi (W.runS (As := [.ref t2, .int v]) (rest := []) ⟨hx, hb, hml, hown, hts⟩ (c_X0_isIn l t2 16 fNB v (by decide)) (va_cwS 2 hts gX0_isNamePart_X0_isIn rfl rfl rfl (by decide +kernel) ⟨Nat.le_of_ble_eq_true rfl, Nat.le_of_ble_eq_true rfl⟩) ⟨fun _ U g mk q => ⟨q.1, va_T.moved (u := U) (U := U.calling g mk _) (Vm.Alike.refl U.vm) q.2⟩, fun U hU hW => ⟨rfl, tb_T ht2 hS hU hW⟩⟩ rfl rfl hl.1 rfl (lv_room (Nat.le_of_ble_eq_true rfl)) dX0_isNamePart_4 ⟨Nat.le_of_ble_eq_true rfl, Nat.le_of_ble_eq_true rfl⟩) (fun r_1 er_1 => ?_)
  obtain rfl : r_1 = bI (xIn fNB v 16) := er_1
  refine lv_if_ne (tgt := 20) hx hb dX0_isNamePart_7 (by decide) (fun c_2 => ?_) (fun c_2 => ?_)
  · have c_2 := bI_n0 c_2
    refine lv_iconst (v := 1) hx hb dX0_isNamePart_20 (by decide) ?_
    refine lv_goto (tgt := 25) hx hb dX0_isNamePart_21 (by decide) ?_
    exact W.zret (v := 1) (ty := .boolean) hx hb hr (rfl) (fun t ht hW => ⟨1, rfl, by first | (simp only [xNP, if_pos c_2, bI_t, bI_f]; done) | (simp only [xNP, if_pos c_2, bI_t, bI_f]; rfl), ht⟩) hS.2.2 dX0_isNamePart_25
  · have c_2 := bI_0 c_2
    refine va_gets hx hb hz3 hS hown (hts (.fieldLink RX0 111 RX0 "FURTHER_NAME_PARTS" "[I") (by decide +kernel)) (fun _ h9 => h9) dX0_isNamePart_10 ?_
    refine lv_iload_n hx hb dX0_isNamePart_13 rfl (lv_at hl 0 rfl) ?_
    refine vp_callSi (W.runS (As := [.ref t3, .int v]) (rest := []) ⟨hx, hb, hml, hown, hts⟩ (c_X0_isIn l t3 5 fFN v (by decide)) (va_cwS 2 hts gX0_isNamePart_X0_isIn rfl rfl rfl (by decide +kernel) ⟨Nat.le_of_ble_eq_true rfl, Nat.le_of_ble_eq_true rfl⟩) ⟨fun _ U g mk q => ⟨q.1, va_T.moved (u := U) (U := U.calling g mk _) (Vm.Alike.refl U.vm) q.2⟩, fun U hU hW => ⟨rfl, tb_T ht3 hS hU hW⟩⟩ rfl rfl hl.1 rfl (lv_room (Nat.le_of_ble_eq_true rfl)) dX0_isNamePart_14 ⟨Nat.le_of_ble_eq_true rfl, Nat.le_of_ble_eq_true rfl⟩) (fun r_3 er_3 => ?_)
    obtain rfl : r_3 = bI (xIn fFN v 5) := er_3
    refine lv_if_eq (tgt := 24) hx hb dX0_isNamePart_17 (by decide) (fun c_4 => ?_) (fun c_4 => ?_)
    · have c_4 := bI_0 c_4
      refine lv_iconst (v := 0) hx hb dX0_isNamePart_24 (by decide) ?_
      exact W.zret (v := 0) (ty := .boolean) hx hb hr (rfl) (fun t ht hW => ⟨0, rfl, by first | (simp only [xNP, if_neg c_2, if_neg c_4, bI_t, bI_f]; done) | (simp only [xNP, if_neg c_2, if_neg c_4, bI_t, bI_f]; rfl), ht⟩) hS.2.2 dX0_isNamePart_25
    · have c_4 := bI_n0 c_4
      refine lv_iconst (v := 1) hx hb dX0_isNamePart_20 (by decide) ?_
      refine lv_goto (tgt := 25) hx hb dX0_isNamePart_21 (by decide) ?_
      exact W.zret (v := 1) (ty := .boolean) hx hb hr (rfl) (fun t ht hW => ⟨1, rfl, by first | (simp only [xNP, if_neg c_2, if_pos c_4, bI_t, bI_f]; done) | (simp only [xNP, if_neg c_2, if_pos c_4, bI_t, bI_f]; rfl), ht⟩) hS.2.2 dX0_isNamePart_25
set_option maxHeartbeats 4000000 in
set_option maxRecDepth 100000 in
/-- belongsToRun -/
theorem c_X0_belongsToRun (l : Launch) (t0 t1 t2 t3 : Nat) (kd v : Int32) : Met l yX0_belongsToRun wsX0_belongsToRun ({ frames := 2, cells := 0, slots := 0, locals := 42 }) (va_Pc [.int kd, .int v] (fun U => xtab t0 t1 t2 t3 (fun _ => False) U U.heap)) (vp_Si (fun r => r = bI (xBel kd v))) 0 0 (fun _ => False) := by
  refine Met.ofW (cc := cX0_belongsToRun) (maxL := 2) (ret := (some .boolean)) (by decide) rfl ?_
  intro p e s m args below meth c s₁ B hml hv
  obtain ⟨rfl, hT⟩ := hv
  have hx := B.exec
  have hb := B.bytes
  have hr := B.returns
  have hts := atoms_spec (ws := wsX0_belongsToRun) B.pre
  have hown : s.vm.findClass RX0 = some m.cls := findClass_of_methodNamed B.named
  have hS : va_S (fun _ => False) s.heap s.heap [] := va_S.rf
  obtain ⟨hz0, ht0, hz1, ht1, hz2, ht2, hz3, ht3⟩ := id hT
  have hl := lv_entry ([.int kd, .int v]) (n := 2) (Nat.le_of_ble_eq_true rfl)
  rw [lg_entry_eq]
  generalize (lg_sl ([.int kd, .int v]) ++ List.replicate (2 - (lg_sl ([.int kd, .int v])).length) Slot.unset).toArray = ls at hl ⊢
  have hl : lv_has ls 2 [(0, .int kd), (1, .int v)] := hl
  refine lv_iload_n hx hb dX0_belongsToRun_0 rfl (lv_at hl 0 rfl) ?_
  by_cases c_1 : kd = 0
  · refine lv_tableIn (tgt := 28) hx hb dX0_belongsToRun_1 (by rw [c_1]; decide) (by rw [c_1]; decide) (by rw [c_1]; rfl) (by decide) ?_
    refine lv_iload_n hx hb dX0_belongsToRun_28 rfl (lv_at hl 1 rfl) ?_
    refine vp_callSi (W.runS (As := [.int v]) (rest := []) ⟨hx, hb, hml, hown, hts⟩ (c_X0_isNamePart l t0 t1 t2 t3 v) (va_cwS 1 hts gX0_belongsToRun_X0_isNamePart rfl rfl rfl (by decide +kernel) ⟨Nat.le_of_ble_eq_true rfl, Nat.le_of_ble_eq_true rfl⟩) ⟨xtab_blind, fun U hU hW => ⟨rfl, xtab_call hT hS hU hW (fun _ q => q.elim)⟩⟩ rfl rfl hl.1 rfl (lv_room (Nat.le_of_ble_eq_true rfl)) dX0_belongsToRun_29 ⟨Nat.le_of_ble_eq_true rfl, Nat.le_of_ble_eq_true rfl⟩) (fun r_2 er_2 => ?_)
    obtain rfl : r_2 = bI (xNP v) := er_2
    exact W.zret (v := bI (xNP v)) (ty := .boolean) hx hb hr (bI_nar _) (fun t ht hW => ⟨bI (xNP v), rfl, by first | (simp only [xBel, if_pos c_1, bI_t, bI_f]; done) | (simp only [xBel, if_pos c_1, bI_t, bI_f]; rfl), ht⟩) hS.2.2 dX0_belongsToRun_32
  by_cases c_3 : kd = 1
  · refine lv_tableIn (tgt := 28) hx hb dX0_belongsToRun_1 (by rw [c_3]; decide) (by rw [c_3]; decide) (by rw [c_3]; rfl) (by decide) ?_
    refine lv_iload_n hx hb dX0_belongsToRun_28 rfl (lv_at hl 1 rfl) ?_
    refine vp_callSi (W.runS (As := [.int v]) (rest := []) ⟨hx, hb, hml, hown, hts⟩ (c_X0_isNamePart l t0 t1 t2 t3 v) (va_cwS 1 hts gX0_belongsToRun_X0_isNamePart rfl rfl rfl (by decide +kernel) ⟨Nat.le_of_ble_eq_true rfl, Nat.le_of_ble_eq_true rfl⟩) ⟨xtab_blind, fun U hU hW => ⟨rfl, xtab_call hT hS hU hW (fun _ q => q.elim)⟩⟩ rfl rfl hl.1 rfl (lv_room (Nat.le_of_ble_eq_true rfl)) dX0_belongsToRun_29 ⟨Nat.le_of_ble_eq_true rfl, Nat.le_of_ble_eq_true rfl⟩) (fun r_4 er_4 => ?_)
    obtain rfl : r_4 = bI (xNP v) := er_4
    exact W.zret (v := bI (xNP v)) (ty := .boolean) hx hb hr (bI_nar _) (fun t ht hW => ⟨bI (xNP v), rfl, by first | (simp only [xBel, if_neg c_1, if_pos c_3, bI_t, bI_f]; done) | (simp only [xBel, if_neg c_1, if_pos c_3, bI_t, bI_f]; rfl), ht⟩) hS.2.2 dX0_belongsToRun_32
  by_cases c_5 : kd = 2
  · refine lv_tableIn (tgt := 33) hx hb dX0_belongsToRun_1 (by rw [c_5]; decide) (by rw [c_5]; decide) (by rw [c_5]; rfl) (by decide) ?_
    refine va_gets hx hb hz1 hS hown (hts (.fieldLink RX0 65 RX0 "BLANKS" "[I") (by decide +kernel)) (fun _ h9 => h9) dX0_belongsToRun_33 ?_
    refine lv_iload_n hx hb dX0_belongsToRun_36 rfl (lv_at hl 1 rfl) ?_
    refine vp_callSi (W.runS (As := [.ref t1, .int v]) (rest := []) ⟨hx, hb, hml, hown, hts⟩ (c_X0_isIn l t1 3 fBL v (by decide)) (va_cwS 2 hts gX0_belongsToRun_X0_isIn rfl rfl rfl (by decide +kernel) ⟨Nat.le_of_ble_eq_true rfl, Nat.le_of_ble_eq_true rfl⟩) ⟨fun _ U g mk q => ⟨q.1, va_T.moved (u := U) (U := U.calling g mk _) (Vm.Alike.refl U.vm) q.2⟩, fun U hU hW => ⟨rfl, tb_T ht1 hS hU hW⟩⟩ rfl rfl hl.1 rfl (lv_room (Nat.le_of_ble_eq_true rfl)) dX0_belongsToRun_37 ⟨Nat.le_of_ble_eq_true rfl, Nat.le_of_ble_eq_true rfl⟩) (fun r_6 er_6 => ?_)
    obtain rfl : r_6 = bI (xIn fBL v 3) := er_6
    exact W.zret (v := bI (xIn fBL v 3)) (ty := .boolean) hx hb hr (bI_nar _) (fun t ht hW => ⟨bI (xIn fBL v 3), rfl, by first | (simp only [xBel, if_neg c_1, if_neg c_3, if_pos c_5, bI_t, bI_f]; done) | (simp only [xBel, if_neg c_1, if_neg c_3, if_pos c_5, bI_t, bI_f]; rfl), ht⟩) hS.2.2 dX0_belongsToRun_40
  refine lv_tableOut (tgt := 41) hx hb dX0_belongsToRun_1 (by have q0 := lv_neT (a := 0) c_1 (by decide); have q1 := lv_neT (a := 1) c_3 (by decide); have q2 := lv_neT (a := 2) c_5 (by decide); omega) (by decide) ?_
  refine lv_iconst (v := 0) hx hb dX0_belongsToRun_41 (by decide) ?_
  exact W.zret (v := 0) (ty := .boolean) hx hb hr (rfl) (fun t ht hW => ⟨0, rfl, by first | (simp only [xBel, if_neg c_1, if_neg c_3, if_neg c_5, bI_t, bI_f]; done) | (simp only [xBel, if_neg c_1, if_neg c_3, if_neg c_5, bI_t, bI_f]; rfl), ht⟩) hS.2.2 dX0_belongsToRun_42
set_option maxHeartbeats 4000000 in
set_option maxRecDepth 100000 in
/-- faultOf -/
theorem c_X0_faultOf (l : Launch) (t0 t1 t2 t3 : Nat) (v : Int32) : Met l yX0_faultOf wsX0_faultOf ({ frames := 1, cells := 0, slots := 0, locals := 22 }) (va_Pc [.int v] (fun U => xtab t0 t1 t2 t3 (fun _ => False) U U.heap)) (vp_Si (fun r => r = xFault v)) 0 0 (fun _ => False) := by
  refine Met.ofW (cc := cX0_faultOf) (maxL := 1) (ret := (some .int)) (by decide) rfl ?_
  intro p e s m args below meth c s₁ B hml hv
  obtain ⟨rfl, hT⟩ := hv
  have hx := B.exec
  have hb := B.bytes
  have hr := B.returns
  have hts := atoms_spec (ws := wsX0_faultOf) B.pre
  have hown : s.vm.findClass RX0 = some m.cls := findClass_of_methodNamed B.named
  have hS : va_S (fun _ => False) s.heap s.heap [] := va_S.rf
  obtain ⟨hz0, ht0, hz1, ht1, hz2, ht2, hz3, ht3⟩ := id hT
  have hl := lv_entry ([.int v]) (n := 1) (Nat.le_of_ble_eq_true rfl)
  rw [lg_entry_eq]
  generalize (lg_sl ([.int v]) ++ List.replicate (1 - (lg_sl ([.int v])).length) Slot.unset).toArray = ls at hl ⊢
  have hl : lv_has ls 1 [(0, .int v)] := hl
  refine lv_iload_n hx hb dX0_faultOf_0 rfl (lv_at hl 0 rfl) ?_
  refine lv_iconst (v := -1) hx hb dX0_faultOf_1 (by decide) ?_
  refine lv_icmp_ne (tgt := 7) hx hb dX0_faultOf_2 (by decide) (fun c_1 => ?_) (fun c_1 => ?_)
  · refine va_gets hx hb hz0 hS hown (hts (.fieldLink RX0 58 RX0 "ALLOWED" "[I") (by decide +kernel)) (fun _ h9 => h9) dX0_faultOf_7 ?_
    refine lv_iload_n hx hb dX0_faultOf_10 rfl (lv_at hl 0 rfl) ?_
    refine vp_callSi (W.runS (As := [.ref t0, .int v]) (rest := []) ⟨hx, hb, hml, hown, hts⟩ (c_X0_isIn l t0 5 fAL v (by decide)) (va_cwS 2 hts gX0_faultOf_X0_isIn rfl rfl rfl (by decide +kernel) ⟨Nat.le_of_ble_eq_true rfl, Nat.le_of_ble_eq_true rfl⟩) ⟨fun _ U g mk q => ⟨q.1, va_T.moved (u := U) (U := U.calling g mk _) (Vm.Alike.refl U.vm) q.2⟩, fun U hU hW => ⟨rfl, tb_T ht0 hS hU hW⟩⟩ rfl rfl hl.1 rfl (lv_room (Nat.le_of_ble_eq_true rfl)) dX0_faultOf_11 ⟨Nat.le_of_ble_eq_true rfl, Nat.le_of_ble_eq_true rfl⟩) (fun r_2 er_2 => ?_)
    obtain rfl : r_2 = bI (xIn fAL v 5) := er_2
    refine lv_if_eq (tgt := 21) hx hb dX0_faultOf_14 (by decide) (fun c_3 => ?_) (fun c_3 => ?_)
    · have c_3 := bI_0 c_3
      refine lv_iconst (v := 2) hx hb dX0_faultOf_21 (by decide) ?_
      exact W.iret (v := 2) hx hb hr (fun t ht hW => ⟨2, rfl, by first | (simp only [xFault, if_neg c_1, if_neg c_3, bI_t, bI_f]; done) | (simp only [xFault, if_neg c_1, if_neg c_3, bI_t, bI_f]; rfl), ht⟩) hS.2.2 dX0_faultOf_22
    · have c_3 := bI_n0 c_3
      refine lv_iconst (v := 0) hx hb dX0_faultOf_17 (by decide) ?_
      refine lv_goto (tgt := 22) hx hb dX0_faultOf_18 (by decide) ?_
      exact W.iret (v := 0) hx hb hr (fun t ht hW => ⟨0, rfl, by first | (simp only [xFault, if_neg c_1, if_pos c_3, bI_t, bI_f]; done) | (simp only [xFault, if_neg c_1, if_pos c_3, bI_t, bI_f]; rfl), ht⟩) hS.2.2 dX0_faultOf_22
  · refine lv_iconst (v := 1) hx hb dX0_faultOf_5 (by decide) ?_
    exact W.iret (v := 1) hx hb hr (fun t ht hW => ⟨1, rfl, by first | (simp only [xFault, if_pos c_1, bI_t, bI_f]; done) | (simp only [xFault, if_pos c_1, bI_t, bI_f]; rfl), ht⟩) hS.2.2 dX0_faultOf_6
