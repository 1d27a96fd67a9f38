set_option maxHeartbeats 4000000 in
set_option maxRecDepth 100000 in
theorem c_X1_has (l : Launch) (v : Int32) : Met l yX1_has wsX1_has ({ frames := 0, cells := 0, slots := 0, locals := 0 }) (va_Pc [.int v] (fun U => True)) (vp_Si (fun r => r = bI (mHas v))) 0 0 (fun _ => False) := by
  refine Met.ofW (cc := cX1_has) (maxL := 1) (ret := (some .boolean)) (by decide) rfl ?_
  intro p e s m args below meth c s₁ B hml hv
  obtain ⟨rfl, -⟩ := hv
  have hx := B.exec
  have hb := B.bytes
  have hr := B.returns
  have hts := atoms_spec (ws := wsX1_has) B.pre
  have hown : s.vm.findClass RX1 = some m.cls := findClass_of_methodNamed B.named
  have hS : va_S (fun _ => False) s.heap s.heap [] := va_S.rf
  have hl := lv_entry ([.int v]) (n := 1) (Nat.le_of_ble_eq_true rfl)
  rw [lg_entry_eq]
  generalize (lg_sl ([.int v]) ++ List.replicate (1 - (lg_sl ([.int v])).length) Slot.unset).toArray = ls at hl ⊢
  have hl : lv_has ls 1 [(0, .int v)] := hl
  refine lv_iload_n hx hb dX1_has_0 rfl (lv_at hl 0 rfl) ?_
  refine lv_if_lt (tgt := 10) hx hb dX1_has_1 (by decide) (fun c_1 => ?_) (fun c_1 => ?_)
  · refine lv_iload_n hx hb dX1_has_10 rfl (lv_at hl 0 rfl) ?_
    refine lv_ldc (own := RX1) (v := 57343) hx hb hown (hts (.constant RX1 26 57343) (by decide +kernel)) dX1_has_11 ?_
    refine lv_icmp_le (tgt := 26) hx hb dX1_has_13 (by decide) (fun c_2 => ?_) (fun c_2 => ?_)
    · refine lv_iconst (v := 0) hx hb dX1_has_26 (by decide) ?_
      exact W.zret (v := 0) (ty := .boolean) hx hb hr (rfl) (fun t ht hW => ⟨0, rfl, by first | (simp only [mHas, mH2, if_pos c_1, if_pos c_2, bI_t, bI_f]; done) | (simp only [mHas, mH2, if_pos c_1, if_pos c_2, bI_t, bI_f]; rfl), ht⟩) hS.2.2 dX1_has_27
    · refine lv_iload_n hx hb dX1_has_16 rfl (lv_at hl 0 rfl) ?_
      refine lv_ldc (own := RX1) (v := 1114112) hx hb hown (hts (.constant RX1 27 1114112) (by decide +kernel)) dX1_has_17 ?_
      refine lv_icmp_ge (tgt := 26) hx hb dX1_has_19 (by decide) (fun c_3 => ?_) (fun c_3 => ?_)
      · refine lv_iconst (v := 0) hx hb dX1_has_26 (by decide) ?_
        exact W.zret (v := 0) (ty := .boolean) hx hb hr (rfl) (fun t ht hW => ⟨0, rfl, by first | (simp only [mHas, mH2, if_pos c_1, if_neg c_2, if_pos c_3, bI_t, bI_f]; done) | (simp only [mHas, mH2, if_pos c_1, if_neg c_2, if_pos c_3, bI_t, bI_f]; rfl), ht⟩) hS.2.2 dX1_has_27
      · refine lv_iconst (v := 1) hx hb dX1_has_22 (by decide) ?_
        refine lv_goto (tgt := 27) hx hb dX1_has_23 (by decide) ?_
        exact W.zret (v := 1) (ty := .boolean) hx hb hr (rfl) (fun t ht hW => ⟨1, rfl, by first | (simp only [mHas, mH2, if_pos c_1, if_neg c_2, if_neg c_3, bI_t, bI_f]; done) | (simp only [mHas, mH2, if_pos c_1, if_neg c_2, if_neg c_3, bI_t, bI_f]; rfl), ht⟩) hS.2.2 dX1_has_27
  · refine lv_iload_n hx hb dX1_has_4 rfl (lv_at hl 0 rfl) ?_
    refine lv_ldc (own := RX1) (v := 55296) hx hb hown (hts (.constant RX1 25 55296) (by decide +kernel)) dX1_has_5 ?_
    refine lv_icmp_lt (tgt := 22) hx hb dX1_has_7 (by decide) (fun c_4 => ?_) (fun c_4 => ?_)
    · refine lv_iconst (v := 1) hx hb dX1_has_22 (by decide) ?_
      refine lv_goto (tgt := 27) hx hb dX1_has_23 (by decide) ?_
      exact W.zret (v := 1) (ty := .boolean) hx hb hr (rfl) (fun t ht hW => ⟨1, rfl, by first | (simp only [mHas, mH2, if_neg c_1, if_pos c_4, bI_t, bI_f]; done) | (simp only [mHas, mH2, if_neg c_1, if_pos c_4, bI_t, bI_f]; rfl), ht⟩) hS.2.2 dX1_has_27
    · refine lv_iload_n hx hb dX1_has_10 rfl (lv_at hl 0 rfl) ?_
      refine lv_ldc (own := RX1) (v := 57343) hx hb hown (hts (.constant RX1 26 57343) (by decide +kernel)) dX1_has_11 ?_
      refine lv_icmp_le (tgt := 26) hx hb dX1_has_13 (by decide) (fun c_5 => ?_) (fun c_5 => ?_)
      · refine lv_iconst (v := 0) hx hb dX1_has_26 (by decide) ?_
        exact W.zret (v := 0) (ty := .boolean) hx hb hr (rfl) (fun t ht hW => ⟨0, rfl, by first | (simp only [mHas, mH2, if_neg c_1, if_neg c_4, if_pos c_5, bI_t, bI_f]; done) | (simp only [mHas, mH2, if_neg c_1, if_neg c_4, if_pos c_5, bI_t, bI_f]; rfl), ht⟩) hS.2.2 dX1_has_27
      · refine lv_iload_n hx hb dX1_has_16 rfl (lv_at hl 0 rfl) ?_
        refine lv_ldc (own := RX1) (v := 1114112) hx hb hown (hts (.constant RX1 27 1114112) (by decide +kernel)) dX1_has_17 ?_
        refine lv_icmp_ge (tgt := 26) hx hb dX1_has_19 (by decide) (fun c_6 => ?_) (fun c_6 => ?_)
        · refine lv_iconst (v := 0) hx hb dX1_has_26 (by decide) ?_
          exact W.zret (v := 0) (ty := .boolean) hx hb hr (rfl) (fun t ht hW => ⟨0, rfl, by first | (simp only [mHas, mH2, if_neg c_1, if_neg c_4, if_neg c_5, if_pos c_6, bI_t, bI_f]; done) | (simp only [mHas, mH2, if_neg c_1, if_neg c_4, if_neg c_5, if_pos c_6, bI_t, bI_f]; rfl), ht⟩) hS.2.2 dX1_has_27
        · refine lv_iconst (v := 1) hx hb dX1_has_22 (by decide) ?_
          refine lv_goto (tgt := 27) hx hb dX1_has_23 (by decide) ?_
          exact W.zret (v := 1) (ty := .boolean) hx hb hr (rfl) (fun t ht hW => ⟨1, rfl, by first | (simp only [mHas, mH2, if_neg c_1, if_neg c_4, if_neg c_5, if_neg c_6, bI_t, bI_f]; done) | (simp only [mHas, mH2, if_neg c_1, if_neg c_4, if_neg c_5, if_neg c_6, bI_t, bI_f]; rfl), ht⟩) hS.2.2 dX1_has_27
set_option maxHeartbeats 4000000 in
set_option maxRecDepth 100000 in
theorem c_X1_sizeOf (l : Launch) (v : Int32) : Met l yX1_sizeOf wsX1_sizeOf ({ frames := 0, cells := 0, slots := 0, locals := 0 }) (va_Pc [.int v] (fun U => True)) (vp_Si (fun r => r = mSize v)) 0 0 (fun _ => False) := by
  refine Met.ofW (cc := cX1_sizeOf) (maxL := 2) (ret := (some .int)) (by decide) rfl ?_
  intro p e s m args below meth c s₁ B hml hv
  obtain ⟨rfl, -⟩ := hv
  have hx := B.exec
  have hb := B.bytes
  have hr := B.returns
  have hts := atoms_spec (ws := wsX1_sizeOf) B.pre
  have hown : s.vm.findClass RX1 = some m.cls := findClass_of_methodNamed B.named
  have hS : va_S (fun _ => False) s.heap s.heap [] := va_S.rf
  have hl := lv_entry ([.int v]) (n := 2) (Nat.le_of_ble_eq_true rfl)
  rw [lg_entry_eq]
  generalize (lg_sl ([.int v]) ++ List.replicate (2 - (lg_sl ([.int v])).length) Slot.unset).toArray = ls at hl ⊢
  have hl : lv_has ls 2 [(0, .int v)] := hl
  refine lv_iconst (v := 1) hx hb dX1_sizeOf_0 (by decide) ?_
  refine lv_istore_n (lv' := [(1, .int 1), (0, .int v)]) hx hb dX1_sizeOf_1 rfl hl (by decide) rfl (fun ls hl => ?_)
  refine lv_iload_n hx hb dX1_sizeOf_2 rfl (lv_at hl 1 rfl) ?_
  refine lv_bipush (v := 127) hx hb dX1_sizeOf_3 (by decide) ?_
  refine lv_icmp_le (tgt := 12) hx hb dX1_sizeOf_5 (by decide) (fun c_1 => ?_) (fun c_1 => ?_)
  · refine lv_iload_n hx hb dX1_sizeOf_12 rfl (lv_at hl 0 rfl) ?_
    refine lv_istore_n (lv' := [(1, .int 1), (0, .int v)]) hx hb dX1_sizeOf_13 rfl hl (by decide) rfl (fun ls hl => ?_)
    refine lv_iload_n hx hb dX1_sizeOf_14 rfl (lv_at hl 1 rfl) ?_
    refine lv_sipush (v := 2047) hx hb dX1_sizeOf_15 (by decide) ?_
    refine lv_icmp_le (tgt := 25) hx hb dX1_sizeOf_18 (by decide) (fun c_2 => ?_) (fun c_2 => ?_)
    · refine lv_iload_n hx hb dX1_sizeOf_25 rfl (lv_at hl 0 rfl) ?_
      refine lv_istore_n (lv' := [(1, .int 1), (0, .int v)]) hx hb dX1_sizeOf_26 rfl hl (by decide) rfl (fun ls hl => ?_)
      refine lv_iload_n hx hb dX1_sizeOf_27 rfl (lv_at hl 1 rfl) ?_
      refine lv_ldc (own := RX1) (v := 65535) hx hb hown (hts (.constant RX1 28 65535) (by decide +kernel)) dX1_sizeOf_28 ?_
      refine lv_icmp_le (tgt := 37) hx hb dX1_sizeOf_30 (by decide) (fun c_3 => ?_) (fun c_3 => ?_)
      · refine lv_iload_n hx hb dX1_sizeOf_37 rfl (lv_at hl 0 rfl) ?_
        exact W.iret (v := 1) hx hb hr (fun t ht hW => ⟨1, rfl, by first | (simp only [mSize, if_pos c_1, if_pos c_2, if_pos c_3, bI_t, bI_f]; done) | (simp only [mSize, if_pos c_1, if_pos c_2, if_pos c_3, bI_t, bI_f]; rfl), ht⟩) hS.2.2 dX1_sizeOf_38
      · refine lv_iconst (v := 4) hx hb dX1_sizeOf_33 (by decide) ?_
        refine lv_goto (tgt := 38) hx hb dX1_sizeOf_34 (by decide) ?_
        exact W.iret (v := 4) hx hb hr (fun t ht hW => ⟨4, rfl, by first | (simp only [mSize, if_pos c_1, if_pos c_2, if_neg c_3, bI_t, bI_f]; done) | (simp only [mSize, if_pos c_1, if_pos c_2, if_neg c_3, bI_t, bI_f]; rfl), ht⟩) hS.2.2 dX1_sizeOf_38
    · refine lv_iconst (v := 3) hx hb dX1_sizeOf_21 (by decide) ?_
      refine lv_goto (tgt := 26) hx hb dX1_sizeOf_22 (by decide) ?_
      refine lv_istore_n (lv' := [(1, .int 3), (0, .int v)]) hx hb dX1_sizeOf_26 rfl hl (by decide) rfl (fun ls hl => ?_)
      refine lv_iload_n hx hb dX1_sizeOf_27 rfl (lv_at hl 1 rfl) ?_
      refine lv_ldc (own := RX1) (v := 65535) hx hb hown (hts (.constant RX1 28 65535) (by decide +kernel)) dX1_sizeOf_28 ?_
      refine lv_icmp_le (tgt := 37) hx hb dX1_sizeOf_30 (by decide) (fun c_4 => ?_) (fun c_4 => ?_)
      · refine lv_iload_n hx hb dX1_sizeOf_37 rfl (lv_at hl 0 rfl) ?_
        exact W.iret (v := 3) hx hb hr (fun t ht hW => ⟨3, rfl, by first | (simp only [mSize, if_pos c_1, if_neg c_2, if_pos c_4, bI_t, bI_f]; done) | (simp only [mSize, if_pos c_1, if_neg c_2, if_pos c_4, bI_t, bI_f]; rfl), ht⟩) hS.2.2 dX1_sizeOf_38
      · refine lv_iconst (v := 4) hx hb dX1_sizeOf_33 (by decide) ?_
        refine lv_goto (tgt := 38) hx hb dX1_sizeOf_34 (by decide) ?_
        exact W.iret (v := 4) hx hb hr (fun t ht hW => ⟨4, rfl, by first | (simp only [mSize, if_pos c_1, if_neg c_2, if_neg c_4, bI_t, bI_f]; done) | (simp only [mSize, if_pos c_1, if_neg c_2, if_neg c_4, bI_t, bI_f]; rfl), ht⟩) hS.2.2 dX1_sizeOf_38
  · refine lv_iconst (v := 2) hx hb dX1_sizeOf_8 (by decide) ?_
    refine lv_goto (tgt := 13) hx hb dX1_sizeOf_9 (by decide) ?_
    refine lv_istore_n (lv' := [(1, .int 2), (0, .int v)]) hx hb dX1_sizeOf_13 rfl hl (by decide) rfl (fun ls hl => ?_)
    refine lv_iload_n hx hb dX1_sizeOf_14 rfl (lv_at hl 1 rfl) ?_
    refine lv_sipush (v := 2047) hx hb dX1_sizeOf_15 (by decide) ?_
    refine lv_icmp_le (tgt := 25) hx hb dX1_sizeOf_18 (by decide) (fun c_5 => ?_) (fun c_5 => ?_)
    · refine lv_iload_n hx hb dX1_sizeOf_25 rfl (lv_at hl 0 rfl) ?_
      refine lv_istore_n (lv' := [(1, .int 2), (0, .int v)]) hx hb dX1_sizeOf_26 rfl hl (by decide) rfl (fun ls hl => ?_)
      refine lv_iload_n hx hb dX1_sizeOf_27 rfl (lv_at hl 1 rfl) ?_
      refine lv_ldc (own := RX1) (v := 65535) hx hb hown (hts (.constant RX1 28 65535) (by decide +kernel)) dX1_sizeOf_28 ?_
      refine lv_icmp_le (tgt := 37) hx hb dX1_sizeOf_30 (by decide) (fun c_6 => ?_) (fun c_6 => ?_)
      · refine lv_iload_n hx hb dX1_sizeOf_37 rfl (lv_at hl 0 rfl) ?_
        exact W.iret (v := 2) hx hb hr (fun t ht hW => ⟨2, rfl, by first | (simp only [mSize, if_neg c_1, if_pos c_5, if_pos c_6, bI_t, bI_f]; done) | (simp only [mSize, if_neg c_1, if_pos c_5, if_pos c_6, bI_t, bI_f]; rfl), ht⟩) hS.2.2 dX1_sizeOf_38
      · refine lv_iconst (v := 4) hx hb dX1_sizeOf_33 (by decide) ?_
        refine lv_goto (tgt := 38) hx hb dX1_sizeOf_34 (by decide) ?_
        exact W.iret (v := 4) hx hb hr (fun t ht hW => ⟨4, rfl, by first | (simp only [mSize, if_neg c_1, if_pos c_5, if_neg c_6, bI_t, bI_f]; done) | (simp only [mSize, if_neg c_1, if_pos c_5, if_neg c_6, bI_t, bI_f]; rfl), ht⟩) hS.2.2 dX1_sizeOf_38
    · refine lv_iconst (v := 3) hx hb dX1_sizeOf_21 (by decide) ?_
      refine lv_goto (tgt := 26) hx hb dX1_sizeOf_22 (by decide) ?_
      refine lv_istore_n (lv' := [(1, .int 3), (0, .int v)]) hx hb dX1_sizeOf_26 rfl hl (by decide) rfl (fun ls hl => ?_)
      refine lv_iload_n hx hb dX1_sizeOf_27 rfl (lv_at hl 1 rfl) ?_
      refine lv_ldc (own := RX1) (v := 65535) hx hb hown (hts (.constant RX1 28 65535) (by decide +kernel)) dX1_sizeOf_28 ?_
      refine lv_icmp_le (tgt := 37) hx hb dX1_sizeOf_30 (by decide) (fun c_7 => ?_) (fun c_7 => ?_)
      · refine lv_iload_n hx hb dX1_sizeOf_37 rfl (lv_at hl 0 rfl) ?_
        exact W.iret (v := 3) hx hb hr (fun t ht hW => ⟨3, rfl, by first | (simp only [mSize, if_neg c_1, if_neg c_5, if_pos c_7, bI_t, bI_f]; done) | (simp only [mSize, if_neg c_1, if_neg c_5, if_pos c_7, bI_t, bI_f]; rfl), ht⟩) hS.2.2 dX1_sizeOf_38
      · refine lv_iconst (v := 4) hx hb dX1_sizeOf_33 (by decide) ?_
        refine lv_goto (tgt := 38) hx hb dX1_sizeOf_34 (by decide) ?_
        exact W.iret (v := 4) hx hb hr (fun t ht hW => ⟨4, rfl, by first | (simp only [mSize, if_neg c_1, if_neg c_5, if_neg c_7, bI_t, bI_f]; done) | (simp only [mSize, if_neg c_1, if_neg c_5, if_neg c_7, bI_t, bI_f]; rfl), ht⟩) hS.2.2 dX1_sizeOf_38
set_option maxHeartbeats 4000000 in
set_option maxRecDepth 100000 in
theorem c_X1_isAllowed (l : Launch) (v : Int32) : Met l yX1_isAllowed wsX1_isAllowed ({ frames := 0, cells := 0, slots := 0, locals := 0 }) (va_Pc [.int v] (fun U => True)) (vp_Si (fun r => r = bI (mAll v))) 0 0 (fun _ => False) := by
  refine Met.ofW (cc := cX1_isAllowed) (maxL := 1) (ret := (some .boolean)) (by decide) rfl ?_
  intro p e s m args below meth c s₁ B hml hv
  obtain ⟨rfl, -⟩ := hv
  have hx := B.exec
  have hb := B.bytes
  have hr := B.returns
  have hts := atoms_spec (ws := wsX1_isAllowed) B.pre
  have hown : s.vm.findClass RX1 = some m.cls := findClass_of_methodNamed B.named
  have hS : va_S (fun _ => False) s.heap s.heap [] := va_S.rf
  have hl := lv_entry ([.int v]) (n := 1) (Nat.le_of_ble_eq_true rfl)
  rw [lg_entry_eq]
  generalize (lg_sl ([.int v]) ++ List.replicate (1 - (lg_sl ([.int v])).length) Slot.unset).toArray = ls at hl ⊢
  have hl : lv_has ls 1 [(0, .int v)] := hl
  refine lv_iload_n hx hb dX1_isAllowed_0 rfl (lv_at hl 0 rfl) ?_
  refine lv_bipush (v := 9) hx hb dX1_isAllowed_1 (by decide) ?_
  refine lv_icmp_eq (tgt := 54) hx hb dX1_isAllowed_3 (by decide) (fun c_1 => ?_) (fun c_1 => ?_)
  · refine lv_iconst (v := 1) hx hb dX1_isAllowed_54 (by decide) ?_
    refine lv_goto (tgt := 59) hx hb dX1_isAllowed_55 (by decide) ?_
    exact W.zret (v := 1) (ty := .boolean) hx hb hr (rfl) (fun t ht hW => ⟨1, rfl, by first | (simp only [mAll, mA2, mA3, if_pos c_1, bI_t, bI_f]; done) | (simp only [mAll, mA2, mA3, if_pos c_1, bI_t, bI_f]; rfl), ht⟩) hS.2.2 dX1_isAllowed_59
  · refine lv_iload_n hx hb dX1_isAllowed_6 rfl (lv_at hl 0 rfl) ?_
    refine lv_bipush (v := 10) hx hb dX1_isAllowed_7 (by decide) ?_
    refine lv_icmp_eq (tgt := 54) hx hb dX1_isAllowed_9 (by decide) (fun c_2 => ?_) (fun c_2 => ?_)
    · refine lv_iconst (v := 1) hx hb dX1_isAllowed_54 (by decide) ?_
      refine lv_goto (tgt := 59) hx hb dX1_isAllowed_55 (by decide) ?_
      exact W.zret (v := 1) (ty := .boolean) hx hb hr (rfl) (fun t ht hW => ⟨1, rfl, by first | (simp only [mAll, mA2, mA3, if_neg c_1, if_pos c_2, bI_t, bI_f]; done) | (simp only [mAll, mA2, mA3, if_neg c_1, if_pos c_2, bI_t, bI_f]; rfl), ht⟩) hS.2.2 dX1_isAllowed_59
    · refine lv_iload_n hx hb dX1_isAllowed_12 rfl (lv_at hl 0 rfl) ?_
      refine lv_bipush (v := 13) hx hb dX1_isAllowed_13 (by decide) ?_
      refine lv_icmp_eq (tgt := 54) hx hb dX1_isAllowed_15 (by decide) (fun c_3 => ?_) (fun c_3 => ?_)
      · refine lv_iconst (v := 1) hx hb dX1_isAllowed_54 (by decide) ?_
        refine lv_goto (tgt := 59) hx hb dX1_isAllowed_55 (by decide) ?_
        exact W.zret (v := 1) (ty := .boolean) hx hb hr (rfl) (fun t ht hW => ⟨1, rfl, by first | (simp only [mAll, mA2, mA3, if_neg c_1, if_neg c_2, if_pos c_3, bI_t, bI_f]; done) | (simp only [mAll, mA2, mA3, if_neg c_1, if_neg c_2, if_pos c_3, bI_t, bI_f]; rfl), ht⟩) hS.2.2 dX1_isAllowed_59
      · refine lv_iload_n hx hb dX1_isAllowed_18 rfl (lv_at hl 0 rfl) ?_
        refine lv_bipush (v := 32) hx hb dX1_isAllowed_19 (by decide) ?_
        refine lv_icmp_lt (tgt := 30) hx hb dX1_isAllowed_21 (by decide) (fun c_4 => ?_) (fun c_4 => ?_)
        · refine lv_iload_n hx hb dX1_isAllowed_30 rfl (lv_at hl 0 rfl) ?_
          refine lv_ldc (own := RX1) (v := 57344) hx hb hown (hts (.constant RX1 47 57344) (by decide +kernel)) dX1_isAllowed_31 ?_
          refine lv_icmp_lt (tgt := 42) hx hb dX1_isAllowed_33 (by decide) (fun c_5 => ?_) (fun c_5 => ?_)
          · refine lv_iload_n hx hb dX1_isAllowed_42 rfl (lv_at hl 0 rfl) ?_
            refine lv_ldc (own := RX1) (v := 65536) hx hb hown (hts (.constant RX1 49 65536) (by decide +kernel)) dX1_isAllowed_43 ?_
            refine lv_icmp_lt (tgt := 58) hx hb dX1_isAllowed_45 (by decide) (fun c_6 => ?_) (fun c_6 => ?_)
            · refine lv_iconst (v := 0) hx hb dX1_isAllowed_58 (by decide) ?_
              exact W.zret (v := 0) (ty := .boolean) hx hb hr (rfl) (fun t ht hW => ⟨0, rfl, by first | (simp only [mAll, mA2, mA3, if_neg c_1, if_neg c_2, if_neg c_3, if_pos c_4, if_pos c_5, if_pos c_6, bI_t, bI_f]; done) | (simp only [mAll, mA2, mA3, if_neg c_1, if_neg c_2, if_neg c_3, if_pos c_4, if_pos c_5, if_pos c_6, bI_t, bI_f]; rfl), ht⟩) hS.2.2 dX1_isAllowed_59
            · refine lv_iload_n hx hb dX1_isAllowed_48 rfl (lv_at hl 0 rfl) ?_
              refine lv_ldc (own := RX1) (v := 1114112) hx hb hown (hts (.constant RX1 27 1114112) (by decide +kernel)) dX1_isAllowed_49 ?_
              refine lv_icmp_ge (tgt := 58) hx hb dX1_isAllowed_51 (by decide) (fun c_7 => ?_) (fun c_7 => ?_)
              · refine lv_iconst (v := 0) hx hb dX1_isAllowed_58 (by decide) ?_
                exact W.zret (v := 0) (ty := .boolean) hx hb hr (rfl) (fun t ht hW => ⟨0, rfl, by first | (simp only [mAll, mA2, mA3, if_neg c_1, if_neg c_2, if_neg c_3, if_pos c_4, if_pos c_5, if_neg c_6, if_pos c_7, bI_t, bI_f]; done) | (simp only [mAll, mA2, mA3, if_neg c_1, if_neg c_2, if_neg c_3, if_pos c_4, if_pos c_5, if_neg c_6, if_pos c_7, bI_t, bI_f]; rfl), ht⟩) hS.2.2 dX1_isAllowed_59
              · refine lv_iconst (v := 1) hx hb dX1_isAllowed_54 (by decide) ?_
                refine lv_goto (tgt := 59) hx hb dX1_isAllowed_55 (by decide) ?_
                exact W.zret (v := 1) (ty := .boolean) hx hb hr (rfl) (fun t ht hW => ⟨1, rfl, by first | (simp only [mAll, mA2, mA3, if_neg c_1, if_neg c_2, if_neg c_3, if_pos c_4, if_pos c_5, if_neg c_6, if_neg c_7, bI_t, bI_f]; done) | (simp only [mAll, mA2, mA3, if_neg c_1, if_neg c_2, if_neg c_3, if_pos c_4, if_pos c_5, if_neg c_6, if_neg c_7, bI_t, bI_f]; rfl), ht⟩) hS.2.2 dX1_isAllowed_59
          · refine lv_iload_n hx hb dX1_isAllowed_36 rfl (lv_at hl 0 rfl) ?_
            refine lv_ldc (own := RX1) (v := 65534) hx hb hown (hts (.constant RX1 48 65534) (by decide +kernel)) dX1_isAllowed_37 ?_
            refine lv_icmp_lt (tgt := 54) hx hb dX1_isAllowed_39 (by decide) (fun c_8 => ?_) (fun c_8 => ?_)
            · refine lv_iconst (v := 1) hx hb dX1_isAllowed_54 (by decide) ?_
              refine lv_goto (tgt := 59) hx hb dX1_isAllowed_55 (by decide) ?_
              exact W.zret (v := 1) (ty := .boolean) hx hb hr (rfl) (fun t ht hW => ⟨1, rfl, by first | (simp only [mAll, mA2, mA3, if_neg c_1, if_neg c_2, if_neg c_3, if_pos c_4, if_neg c_5, if_pos c_8, bI_t, bI_f]; done) | (simp only [mAll, mA2, mA3, if_neg c_1, if_neg c_2, if_neg c_3, if_pos c_4, if_neg c_5, if_pos c_8, bI_t, bI_f]; rfl), ht⟩) hS.2.2 dX1_isAllowed_59
            · refine lv_iload_n hx hb dX1_isAllowed_42 rfl (lv_at hl 0 rfl) ?_
              refine lv_ldc (own := RX1) (v := 65536) hx hb hown (hts (.constant RX1 49 65536) (by decide +kernel)) dX1_isAllowed_43 ?_
              refine lv_icmp_lt (tgt := 58) hx hb dX1_isAllowed_45 (by decide) (fun c_9 => ?_) (fun c_9 => ?_)
              · refine lv_iconst (v := 0) hx hb dX1_isAllowed_58 (by decide) ?_
                exact W.zret (v := 0) (ty := .boolean) hx hb hr (rfl) (fun t ht hW => ⟨0, rfl, by first | (simp only [mAll, mA2, mA3, if_neg c_1, if_neg c_2, if_neg c_3, if_pos c_4, if_neg c_5, if_neg c_8, if_pos c_9, bI_t, bI_f]; done) | (simp only [mAll, mA2, mA3, if_neg c_1, if_neg c_2, if_neg c_3, if_pos c_4, if_neg c_5, if_neg c_8, if_pos c_9, bI_t, bI_f]; rfl), ht⟩) hS.2.2 dX1_isAllowed_59
              · refine lv_iload_n hx hb dX1_isAllowed_48 rfl (lv_at hl 0 rfl) ?_
                refine lv_ldc (own := RX1) (v := 1114112) hx hb hown (hts (.constant RX1 27 1114112) (by decide +kernel)) dX1_isAllowed_49 ?_
                refine lv_icmp_ge (tgt := 58) hx hb dX1_isAllowed_51 (by decide) (fun c_10 => ?_) (fun c_10 => ?_)
                · refine lv_iconst (v := 0) hx hb dX1_isAllowed_58 (by decide) ?_
                  exact W.zret (v := 0) (ty := .boolean) hx hb hr (rfl) (fun t ht hW => ⟨0, rfl, by first | (simp only [mAll, mA2, mA3, if_neg c_1, if_neg c_2, if_neg c_3, if_pos c_4, if_neg c_5, if_neg c_8, if_neg c_9, if_pos c_10, bI_t, bI_f]; done) | (simp only [mAll, mA2, mA3, if_neg c_1, if_neg c_2, if_neg c_3, if_pos c_4, if_neg c_5, if_neg c_8, if_neg c_9, if_pos c_10, bI_t, bI_f]; rfl), ht⟩) hS.2.2 dX1_isAllowed_59
                · refine lv_iconst (v := 1) hx hb dX1_isAllowed_54 (by decide) ?_
                  refine lv_goto (tgt := 59) hx hb dX1_isAllowed_55 (by decide) ?_
                  exact W.zret (v := 1) (ty := .boolean) hx hb hr (rfl) (fun t ht hW => ⟨1, rfl, by first | (simp only [mAll, mA2, mA3, if_neg c_1, if_neg c_2, if_neg c_3, if_pos c_4, if_neg c_5, if_neg c_8, if_neg c_9, if_neg c_10, bI_t, bI_f]; done) | (simp only [mAll, mA2, mA3, if_neg c_1, if_neg c_2, if_neg c_3, if_pos c_4, if_neg c_5, if_neg c_8, if_neg c_9, if_neg c_10, bI_t, bI_f]; rfl), ht⟩) hS.2.2 dX1_isAllowed_59
        · refine lv_iload_n hx hb dX1_isAllowed_24 rfl (lv_at hl 0 rfl) ?_
          refine lv_ldc (own := RX1) (v := 55296) hx hb hown (hts (.constant RX1 25 55296) (by decide +kernel)) dX1_isAllowed_25 ?_
          refine lv_icmp_lt (tgt := 54) hx hb dX1_isAllowed_27 (by decide) (fun c_11 => ?_) (fun c_11 => ?_)
          · refine lv_iconst (v := 1) hx hb dX1_isAllowed_54 (by decide) ?_
            refine lv_goto (tgt := 59) hx hb dX1_isAllowed_55 (by decide) ?_
            exact W.zret (v := 1) (ty := .boolean) hx hb hr (rfl) (fun t ht hW => ⟨1, rfl, by first | (simp only [mAll, mA2, mA3, if_neg c_1, if_neg c_2, if_neg c_3, if_neg c_4, if_pos c_11, bI_t, bI_f]; done) | (simp only [mAll, mA2, mA3, if_neg c_1, if_neg c_2, if_neg c_3, if_neg c_4, if_pos c_11, bI_t, bI_f]; rfl), ht⟩) hS.2.2 dX1_isAllowed_59
          · refine lv_iload_n hx hb dX1_isAllowed_30 rfl (lv_at hl 0 rfl) ?_
            refine lv_ldc (own := RX1) (v := 57344) hx hb hown (hts (.constant RX1 47 57344) (by decide +kernel)) dX1_isAllowed_31 ?_
            refine lv_icmp_lt (tgt := 42) hx hb dX1_isAllowed_33 (by decide) (fun c_12 => ?_) (fun c_12 => ?_)
            · refine lv_iload_n hx hb dX1_isAllowed_42 rfl (lv_at hl 0 rfl) ?_
              refine lv_ldc (own := RX1) (v := 65536) hx hb hown (hts (.constant RX1 49 65536) (by decide +kernel)) dX1_isAllowed_43 ?_
              refine lv_icmp_lt (tgt := 58) hx hb dX1_isAllowed_45 (by decide) (fun c_13 => ?_) (fun c_13 => ?_)
              · refine lv_iconst (v := 0) hx hb dX1_isAllowed_58 (by decide) ?_
                exact W.zret (v := 0) (ty := .boolean) hx hb hr (rfl) (fun t ht hW => ⟨0, rfl, by first | (simp only [mAll, mA2, mA3, if_neg c_1, if_neg c_2, if_neg c_3, if_neg c_4, if_neg c_11, if_pos c_12, if_pos c_13, bI_t, bI_f]; done) | (simp only [mAll, mA2, mA3, if_neg c_1, if_neg c_2, if_neg c_3, if_neg c_4, if_neg c_11, if_pos c_12, if_pos c_13, bI_t, bI_f]; rfl), ht⟩) hS.2.2 dX1_isAllowed_59
              · refine lv_iload_n hx hb dX1_isAllowed_48 rfl (lv_at hl 0 rfl) ?_
                refine lv_ldc (own := RX1) (v := 1114112) hx hb hown (hts (.constant RX1 27 1114112) (by decide +kernel)) dX1_isAllowed_49 ?_
                refine lv_icmp_ge (tgt := 58) hx hb dX1_isAllowed_51 (by decide) (fun c_14 => ?_) (fun c_14 => ?_)
                · refine lv_iconst (v := 0) hx hb dX1_isAllowed_58 (by decide) ?_
                  exact W.zret (v := 0) (ty := .boolean) hx hb hr (rfl) (fun t ht hW => ⟨0, rfl, by first | (simp only [mAll, mA2, mA3, if_neg c_1, if_neg c_2, if_neg c_3, if_neg c_4, if_neg c_11, if_pos c_12, if_neg c_13, if_pos c_14, bI_t, bI_f]; done) | (simp only [mAll, mA2, mA3, if_neg c_1, if_neg c_2, if_neg c_3, if_neg c_4, if_neg c_11, if_pos c_12, if_neg c_13, if_pos c_14, bI_t, bI_f]; rfl), ht⟩) hS.2.2 dX1_isAllowed_59
                · refine lv_iconst (v := 1) hx hb dX1_isAllowed_54 (by decide) ?_
                  refine lv_goto (tgt := 59) hx hb dX1_isAllowed_55 (by decide) ?_
                  exact W.zret (v := 1) (ty := .boolean) hx hb hr (rfl) (fun t ht hW => ⟨1, rfl, by first | (simp only [mAll, mA2, mA3, if_neg c_1, if_neg c_2, if_neg c_3, if_neg c_4, if_neg c_11, if_pos c_12, if_neg c_13, if_neg c_14, bI_t, bI_f]; done) | (simp only [mAll, mA2, mA3, if_neg c_1, if_neg c_2, if_neg c_3, if_neg c_4, if_neg c_11, if_pos c_12, if_neg c_13, if_neg c_14, bI_t, bI_f]; rfl), ht⟩) hS.2.2 dX1_isAllowed_59
            · refine lv_iload_n hx hb dX1_isAllowed_36 rfl (lv_at hl 0 rfl) ?_
              refine lv_ldc (own := RX1) (v := 65534) hx hb hown (hts (.constant RX1 48 65534) (by decide +kernel)) dX1_isAllowed_37 ?_
              refine lv_icmp_lt (tgt := 54) hx hb dX1_isAllowed_39 (by decide) (fun c_15 => ?_) (fun c_15 => ?_)
              · refine lv_iconst (v := 1) hx hb dX1_isAllowed_54 (by decide) ?_
                refine lv_goto (tgt := 59) hx hb dX1_isAllowed_55 (by decide) ?_
                exact W.zret (v := 1) (ty := .boolean) hx hb hr (rfl) (fun t ht hW => ⟨1, rfl, by first | (simp only [mAll, mA2, mA3, if_neg c_1, if_neg c_2, if_neg c_3, if_neg c_4, if_neg c_11, if_neg c_12, if_pos c_15, bI_t, bI_f]; done) | (simp only [mAll, mA2, mA3, if_neg c_1, if_neg c_2, if_neg c_3, if_neg c_4, if_neg c_11, if_neg c_12, if_pos c_15, bI_t, bI_f]; rfl), ht⟩) hS.2.2 dX1_isAllowed_59
              · refine lv_iload_n hx hb dX1_isAllowed_42 rfl (lv_at hl 0 rfl) ?_
                refine lv_ldc (own := RX1) (v := 65536) hx hb hown (hts (.constant RX1 49 65536) (by decide +kernel)) dX1_isAllowed_43 ?_
                refine lv_icmp_lt (tgt := 58) hx hb dX1_isAllowed_45 (by decide) (fun c_16 => ?_) (fun c_16 => ?_)
                · refine lv_iconst (v := 0) hx hb dX1_isAllowed_58 (by decide) ?_
                  exact W.zret (v := 0) (ty := .boolean) hx hb hr (rfl) (fun t ht hW => ⟨0, rfl, by first | (simp only [mAll, mA2, mA3, if_neg c_1, if_neg c_2, if_neg c_3, if_neg c_4, if_neg c_11, if_neg c_12, if_neg c_15, if_pos c_16, bI_t, bI_f]; done) | (simp only [mAll, mA2, mA3, if_neg c_1, if_neg c_2, if_neg c_3, if_neg c_4, if_neg c_11, if_neg c_12, if_neg c_15, if_pos c_16, bI_t, bI_f]; rfl), ht⟩) hS.2.2 dX1_isAllowed_59
                · refine lv_iload_n hx hb dX1_isAllowed_48 rfl (lv_at hl 0 rfl) ?_
                  refine lv_ldc (own := RX1) (v := 1114112) hx hb hown (hts (.constant RX1 27 1114112) (by decide +kernel)) dX1_isAllowed_49 ?_
                  refine lv_icmp_ge (tgt := 58) hx hb dX1_isAllowed_51 (by decide) (fun c_17 => ?_) (fun c_17 => ?_)
                  · refine lv_iconst (v := 0) hx hb dX1_isAllowed_58 (by decide) ?_
                    exact W.zret (v := 0) (ty := .boolean) hx hb hr (rfl) (fun t ht hW => ⟨0, rfl, by first | (simp only [mAll, mA2, mA3, if_neg c_1, if_neg c_2, if_neg c_3, if_neg c_4, if_neg c_11, if_neg c_12, if_neg c_15, if_neg c_16, if_pos c_17, bI_t, bI_f]; done) | (simp only [mAll, mA2, mA3, if_neg c_1, if_neg c_2, if_neg c_3, if_neg c_4, if_neg c_11, if_neg c_12, if_neg c_15, if_neg c_16, if_pos c_17, bI_t, bI_f]; rfl), ht⟩) hS.2.2 dX1_isAllowed_59
                  · refine lv_iconst (v := 1) hx hb dX1_isAllowed_54 (by decide) ?_
                    refine lv_goto (tgt := 59) hx hb dX1_isAllowed_55 (by decide) ?_
                    exact W.zret (v := 1) (ty := .boolean) hx hb hr (rfl) (fun t ht hW => ⟨1, rfl, by first | (simp only [mAll, mA2, mA3, if_neg c_1, if_neg c_2, if_neg c_3, if_neg c_4, if_neg c_11, if_neg c_12, if_neg c_15, if_neg c_16, if_neg c_17, bI_t, bI_f]; done) | (simp only [mAll, mA2, mA3, if_neg c_1, if_neg c_2, if_neg c_3, if_neg c_4, if_neg c_11, if_neg c_12, if_neg c_15, if_neg c_16, if_neg c_17, bI_t, bI_f]; rfl), ht⟩) hS.2.2 dX1_isAllowed_59
set_option maxHeartbeats 4000000 in
set_option maxRecDepth 100000 in
theorem c_X1_isBlank (l : Launch) (v : Int32) : Met l yX1_isBlank wsX1_isBlank ({ frames := 0, cells := 0, slots := 0, locals := 0 }) (va_Pc [.int v] (fun U => True)) (vp_Si (fun r => r = bI (mBlank v))) 0 0 (fun _ => False) := by
  refine Met.ofW (cc := cX1_isBlank) (maxL := 1) (ret := (some .boolean)) (by decide) rfl ?_
  intro p e s m args below meth c s₁ B hml hv
  obtain ⟨rfl, -⟩ := hv
  have hx := B.exec
  have hb := B.bytes
  have hr := B.returns
  have hts := atoms_spec (ws := wsX1_isBlank) B.pre
  have hown : s.vm.findClass RX1 = some m.cls := findClass_of_methodNamed B.named
  have hS : va_S (fun _ => False) s.heap s.heap [] := va_S.rf
  have hl := lv_entry ([.int v]) (n := 1) (Nat.le_of_ble_eq_true rfl)
  rw [lg_entry_eq]
  generalize (lg_sl ([.int v]) ++ List.replicate (1 - (lg_sl ([.int v])).length) Slot.unset).toArray = ls at hl ⊢
  have hl : lv_has ls 1 [(0, .int v)] := hl
  refine lv_iload_n hx hb dX1_isBlank_0 rfl (lv_at hl 0 rfl) ?_
  refine lv_bipush (v := 32) hx hb dX1_isBlank_1 (by decide) ?_
  refine lv_icmp_eq (tgt := 24) hx hb dX1_isBlank_3 (by decide) (fun c_1 => ?_) (fun c_1 => ?_)
  · refine lv_iconst (v := 1) hx hb dX1_isBlank_24 (by decide) ?_
    refine lv_goto (tgt := 29) hx hb dX1_isBlank_25 (by decide) ?_
    exact W.zret (v := 1) (ty := .boolean) hx hb hr (rfl) (fun t ht hW => ⟨1, rfl, by first | (simp only [mBlank, if_pos c_1, bI_t, bI_f]; done) | (simp only [mBlank, if_pos c_1, bI_t, bI_f]; rfl), ht⟩) hS.2.2 dX1_isBlank_29
  · refine lv_iload_n hx hb dX1_isBlank_6 rfl (lv_at hl 0 rfl) ?_
    refine lv_bipush (v := 9) hx hb dX1_isBlank_7 (by decide) ?_
    refine lv_icmp_eq (tgt := 24) hx hb dX1_isBlank_9 (by decide) (fun c_2 => ?_) (fun c_2 => ?_)
    · refine lv_iconst (v := 1) hx hb dX1_isBlank_24 (by decide) ?_
      refine lv_goto (tgt := 29) hx hb dX1_isBlank_25 (by decide) ?_
      exact W.zret (v := 1) (ty := .boolean) hx hb hr (rfl) (fun t ht hW => ⟨1, rfl, by first | (simp only [mBlank, if_neg c_1, if_pos c_2, bI_t, bI_f]; done) | (simp only [mBlank, if_neg c_1, if_pos c_2, bI_t, bI_f]; rfl), ht⟩) hS.2.2 dX1_isBlank_29
    · refine lv_iload_n hx hb dX1_isBlank_12 rfl (lv_at hl 0 rfl) ?_
      refine lv_bipush (v := 13) hx hb dX1_isBlank_13 (by decide) ?_
      refine lv_icmp_eq (tgt := 24) hx hb dX1_isBlank_15 (by decide) (fun c_3 => ?_) (fun c_3 => ?_)
      · refine lv_iconst (v := 1) hx hb dX1_isBlank_24 (by decide) ?_
        refine lv_goto (tgt := 29) hx hb dX1_isBlank_25 (by decide) ?_
        exact W.zret (v := 1) (ty := .boolean) hx hb hr (rfl) (fun t ht hW => ⟨1, rfl, by first | (simp only [mBlank, if_neg c_1, if_neg c_2, if_pos c_3, bI_t, bI_f]; done) | (simp only [mBlank, if_neg c_1, if_neg c_2, if_pos c_3, bI_t, bI_f]; rfl), ht⟩) hS.2.2 dX1_isBlank_29
      · refine lv_iload_n hx hb dX1_isBlank_18 rfl (lv_at hl 0 rfl) ?_
        refine lv_bipush (v := 10) hx hb dX1_isBlank_19 (by decide) ?_
        refine lv_icmp_ne (tgt := 28) hx hb dX1_isBlank_21 (by decide) (fun c_4 => ?_) (fun c_4 => ?_)
        · refine lv_iconst (v := 0) hx hb dX1_isBlank_28 (by decide) ?_
          exact W.zret (v := 0) (ty := .boolean) hx hb hr (rfl) (fun t ht hW => ⟨0, rfl, by first | (simp only [mBlank, if_neg c_1, if_neg c_2, if_neg c_3, if_neg c_4, bI_t, bI_f]; done) | (simp only [mBlank, if_neg c_1, if_neg c_2, if_neg c_3, if_neg c_4, bI_t, bI_f]; rfl), ht⟩) hS.2.2 dX1_isBlank_29
        · refine lv_iconst (v := 1) hx hb dX1_isBlank_24 (by decide) ?_
          refine lv_goto (tgt := 29) hx hb dX1_isBlank_25 (by decide) ?_
          exact W.zret (v := 1) (ty := .boolean) hx hb hr (rfl) (fun t ht hW => ⟨1, rfl, by first | (simp only [mBlank, if_neg c_1, if_neg c_2, if_neg c_3, if_pos c_4, bI_t, bI_f]; done) | (simp only [mBlank, if_neg c_1, if_neg c_2, if_neg c_3, if_pos c_4, bI_t, bI_f]; rfl), ht⟩) hS.2.2 dX1_isBlank_29
set_option maxHeartbeats 4000000 in
set_option maxRecDepth 100000 in
theorem c_X1_within (l : Launch) (v a b : Int32) : Met l yX1_within wsX1_within ({ frames := 0, cells := 0, slots := 0, locals := 0 }) (va_Pc [.int v, .int a, .int b] (fun U => True)) (vp_Si (fun r => r = bI (mWith v a b))) 0 0 (fun _ => False) := by
  refine Met.ofW (cc := cX1_within) (maxL := 3) (ret := (some .boolean)) (by decide) rfl ?_
  intro p e s m args below meth c s₁ B hml hv
  obtain ⟨rfl, -⟩ := hv
  have hx := B.exec
  have hb := B.bytes
  have hr := B.returns
  have hts := atoms_spec (ws := wsX1_within) B.pre
  have hown : s.vm.findClass RX1 = some m.cls := findClass_of_methodNamed B.named
  have hS : va_S (fun _ => False) s.heap s.heap [] := va_S.rf
  have hl := lv_entry ([.int v, .int a, .int b]) (n := 3) (Nat.le_of_ble_eq_true rfl)
  rw [lg_entry_eq]
  generalize (lg_sl ([.int v, .int a, .int b]) ++ List.replicate (3 - (lg_sl ([.int v, .int a, .int b])).length) Slot.unset).toArray = ls at hl ⊢
  have hl : lv_has ls 3 [(0, .int v), (1, .int a), (2, .int b)] := hl
  refine lv_iload_n hx hb dX1_within_0 rfl (lv_at hl 0 rfl) ?_
  refine lv_iload_n hx hb dX1_within_1 rfl (lv_at hl 1 rfl) ?_
  refine lv_icmp_lt (tgt := 14) hx hb dX1_within_2 (by decide) (fun c_1 => ?_) (fun c_1 => ?_)
  · refine lv_iconst (v := 0) hx hb dX1_within_14 (by decide) ?_
    exact W.zret (v := 0) (ty := .boolean) hx hb hr (rfl) (fun t ht hW => ⟨0, rfl, by first | (simp only [mWith, if_pos c_1, bI_t, bI_f]; done) | (simp only [mWith, if_pos c_1, bI_t, bI_f]; rfl), ht⟩) hS.2.2 dX1_within_15
  · refine lv_iload_n hx hb dX1_within_5 rfl (lv_at hl 0 rfl) ?_
    refine lv_iload_n hx hb dX1_within_6 rfl (lv_at hl 2 rfl) ?_
    refine lv_icmp_gt (tgt := 14) hx hb dX1_within_7 (by decide) (fun c_2 => ?_) (fun c_2 => ?_)
    · refine lv_iconst (v := 0) hx hb dX1_within_14 (by decide) ?_
      exact W.zret (v := 0) (ty := .boolean) hx hb hr (rfl) (fun t ht hW => ⟨0, rfl, by first | (simp only [mWith, if_neg c_1, if_pos c_2, bI_t, bI_f]; done) | (simp only [mWith, if_neg c_1, if_pos c_2, bI_t, bI_f]; rfl), ht⟩) hS.2.2 dX1_within_15
    · refine lv_iconst (v := 1) hx hb dX1_within_10 (by decide) ?_
      refine lv_goto (tgt := 15) hx hb dX1_within_11 (by decide) ?_
      exact W.zret (v := 1) (ty := .boolean) hx hb hr (rfl) (fun t ht hW => ⟨1, rfl, by first | (simp only [mWith, if_neg c_1, if_neg c_2, bI_t, bI_f]; done) | (simp only [mWith, if_neg c_1, if_neg c_2, bI_t, bI_f]; rfl), ht⟩) hS.2.2 dX1_within_15
set_option maxHeartbeats 4000000 in
set_option maxRecDepth 100000 in
theorem c_X1_isBegin (l : Launch) (v : Int32) : Met l yX1_isBegin wsX1_isBegin ({ frames := 1, cells := 0, slots := 0, locals := 22 }) (va_Pc [.int v] (fun U => True)) (vp_Si (fun r => r = bI (mBeg v))) 0 0 (fun _ => False) := by
  refine Met.ofW (cc := cX1_isBegin) (maxL := 3) (ret := (some .boolean)) (by decide) rfl ?_
  intro p e s m args below meth c s₁ B hml hv
  obtain ⟨rfl, -⟩ := hv
  have hx := B.exec
  have hb := B.bytes
  have hr := B.returns
  have hts := atoms_spec (ws := wsX1_isBegin) B.pre
  have hown : s.vm.findClass RX1 = some m.cls := findClass_of_methodNamed B.named
  have hS : va_S (fun _ => False) s.heap s.heap [] := va_S.rf
  have hl := lv_entry ([.int v]) (n := 3) (Nat.le_of_ble_eq_true rfl)
  rw [lg_entry_eq]
  generalize (lg_sl ([.int v]) ++ List.replicate (3 - (lg_sl ([.int v])).length) Slot.unset).toArray = ls at hl ⊢
  have hl : lv_has ls 3 [(0, .int v)] := hl
  have j150 : ∀ ls : Array Slot, lv_has ls 3 [(2, .int (bI (mMid v))), (1, .int (bI (mLow v))), (0, .int v)] → W p l e (headSpec wsX1_isBegin ({ frames := 1, cells := 0, slots := 0, locals := 22 })).room s m ([.int v] : List Value).toArray below meth c s.heap [] 0 0 (MQ below (vp_Si (fun r => r = bI (mBeg v))) ([.int v] : List Value).toArray s 0 0 (fun _ => False)) (F0 m 150 ls []) := by
    intro ls hl
    refine lv_iload_n hx hb dX1_isBegin_150 rfl (lv_at hl 1 rfl) ?_
    refine lv_if_ne (tgt := 203) hx hb dX1_isBegin_151 (by decide) (fun c_1 => ?_) (fun c_1 => ?_)
    · have c_1 := bI_n0 c_1
      refine lv_iconst (v := 1) hx hb dX1_isBegin_203 (by decide) ?_
      refine lv_goto (tgt := 208) hx hb dX1_isBegin_204 (by decide) ?_
      exact W.zret (v := 1) (ty := .boolean) hx hb hr (rfl) (fun t ht hW => ⟨1, rfl, by first | (simp only [mBeg, if_pos c_1, bI_t, bI_f]; done) | (simp only [mBeg, if_pos c_1, bI_t, bI_f]; rfl), ht⟩) hS.2.2 dX1_isBegin_208
    · have c_1 := bI_0 c_1
      refine lv_iload_n hx hb dX1_isBegin_154 rfl (lv_at hl 0 rfl) ?_
      refine lv_if_ne (tgt := 203) hx hb dX1_isBegin_155 (by decide) (fun c_2 => ?_) (fun c_2 => ?_)
      · have c_2 := bI_n0 c_2
        refine lv_iconst (v := 1) hx hb dX1_isBegin_203 (by decide) ?_
        refine lv_goto (tgt := 208) hx hb dX1_isBegin_204 (by decide) ?_
        exact W.zret (v := 1) (ty := .boolean) hx hb hr (rfl) (fun t ht hW => ⟨1, rfl, by first | (simp only [mBeg, if_neg c_1, if_pos c_2, bI_t, bI_f]; done) | (simp only [mBeg, if_neg c_1, if_pos c_2, bI_t, bI_f]; rfl), ht⟩) hS.2.2 dX1_isBegin_208
      · have c_2 := bI_0 c_2
        refine lv_iload_n hx hb dX1_isBegin_158 rfl (lv_at hl 2 rfl) ?_
        refine lv_sipush (v := 12289) hx hb dX1_isBegin_159 (by decide) ?_
        refine lv_ldc (own := RX1) (v := 55295) hx hb hown (hts (.constant RX1 78 55295) (by decide +kernel)) dX1_isBegin_162 ?_
        refine vp_callSi (W.runS (As := [.int v, .int 12289, .int 55295]) (rest := []) ⟨hx, hb, hml, hown, hts⟩ (c_X1_within l v 12289 55295) (va_cwS 3 hts gX1_isBegin_X1_within rfl rfl rfl (by decide +kernel) ⟨Nat.le_of_ble_eq_true rfl, Nat.le_of_ble_eq_true rfl⟩) ⟨fun _ _ _ _ q => q, fun U hU hW => ⟨rfl, trivial⟩⟩ rfl rfl hl.1 rfl (lv_room (Nat.le_of_ble_eq_true rfl)) dX1_isBegin_164 ⟨Nat.le_of_ble_eq_true rfl, Nat.le_of_ble_eq_true rfl⟩) (fun r_3 er_3 => ?_)
        obtain rfl : r_3 = bI (mWith v 12289 55295) := er_3
        refine lv_if_ne (tgt := 203) hx hb dX1_isBegin_167 (by decide) (fun c_4 => ?_) (fun c_4 => ?_)
        · have c_4 := bI_n0 c_4
          refine lv_iconst (v := 1) hx hb dX1_isBegin_203 (by decide) ?_
          refine lv_goto (tgt := 208) hx hb dX1_isBegin_204 (by decide) ?_
          exact W.zret (v := 1) (ty := .boolean) hx hb hr (rfl) (fun t ht hW => ⟨1, rfl, by first | (simp only [mBeg, if_neg c_1, if_neg c_2, if_pos c_4, bI_t, bI_f]; done) | (simp only [mBeg, if_neg c_1, if_neg c_2, if_pos c_4, bI_t, bI_f]; rfl), ht⟩) hS.2.2 dX1_isBegin_208
        · have c_4 := bI_0 c_4
          refine lv_iload_n hx hb dX1_isBegin_170 rfl (lv_at hl 2 rfl) ?_
          refine lv_ldc (own := RX1) (v := 63744) hx hb hown (hts (.constant RX1 79 63744) (by decide +kernel)) dX1_isBegin_171 ?_
          refine lv_ldc (own := RX1) (v := 64975) hx hb hown (hts (.constant RX1 80 64975) (by decide +kernel)) dX1_isBegin_173 ?_
          refine vp_callSi (W.runS (As := [.int v, .int 63744, .int 64975]) (rest := []) ⟨hx, hb, hml, hown, hts⟩ (c_X1_within l v 63744 64975) (va_cwS 3 hts gX1_isBegin_X1_within rfl rfl rfl (by decide +kernel) ⟨Nat.le_of_ble_eq_true rfl, Nat.le_of_ble_eq_true rfl⟩) ⟨fun _ _ _ _ q => q, fun U hU hW => ⟨rfl, trivial⟩⟩ rfl rfl hl.1 rfl (lv_room (Nat.le_of_ble_eq_true rfl)) dX1_isBegin_175 ⟨Nat.le_of_ble_eq_true rfl, Nat.le_of_ble_eq_true rfl⟩) (fun r_5 er_5 => ?_)
          obtain rfl : r_5 = bI (mWith v 63744 64975) := er_5
          refine lv_if_ne (tgt := 203) hx hb dX1_isBegin_178 (by decide) (fun c_6 => ?_) (fun c_6 => ?_)
          · have c_6 := bI_n0 c_6
            refine lv_iconst (v := 1) hx hb dX1_isBegin_203 (by decide) ?_
            refine lv_goto (tgt := 208) hx hb dX1_isBegin_204 (by decide) ?_
            exact W.zret (v := 1) (ty := .boolean) hx hb hr (rfl) (fun t ht hW => ⟨1, rfl, by first | (simp only [mBeg, if_neg c_1, if_neg c_2, if_neg c_4, if_pos c_6, bI_t, bI_f]; done) | (simp only [mBeg, if_neg c_1, if_neg c_2, if_neg c_4, if_pos c_6, bI_t, bI_f]; rfl), ht⟩) hS.2.2 dX1_isBegin_208
          · have c_6 := bI_0 c_6
            refine lv_iload_n hx hb dX1_isBegin_181 rfl (lv_at hl 2 rfl) ?_
            refine lv_ldc (own := RX1) (v := 65008) hx hb hown (hts (.constant RX1 81 65008) (by decide +kernel)) dX1_isBegin_182 ?_
            refine lv_ldc (own := RX1) (v := 65533) hx hb hown (hts (.constant RX1 82 65533) (by decide +kernel)) dX1_isBegin_184 ?_
            refine vp_callSi (W.runS (As := [.int v, .int 65008, .int 65533]) (rest := []) ⟨hx, hb, hml, hown, hts⟩ (c_X1_within l v 65008 65533) (va_cwS 3 hts gX1_isBegin_X1_within rfl rfl rfl (by decide +kernel) ⟨Nat.le_of_ble_eq_true rfl, Nat.le_of_ble_eq_true rfl⟩) ⟨fun _ _ _ _ q => q, fun U hU hW => ⟨rfl, trivial⟩⟩ rfl rfl hl.1 rfl (lv_room (Nat.le_of_ble_eq_true rfl)) dX1_isBegin_186 ⟨Nat.le_of_ble_eq_true rfl, Nat.le_of_ble_eq_true rfl⟩) (fun r_7 er_7 => ?_)
            obtain rfl : r_7 = bI (mWith v 65008 65533) := er_7
            refine lv_if_ne (tgt := 203) hx hb dX1_isBegin_189 (by decide) (fun c_8 => ?_) (fun c_8 => ?_)
            · have c_8 := bI_n0 c_8
              refine lv_iconst (v := 1) hx hb dX1_isBegin_203 (by decide) ?_
              refine lv_goto (tgt := 208) hx hb dX1_isBegin_204 (by decide) ?_
              exact W.zret (v := 1) (ty := .boolean) hx hb hr (rfl) (fun t ht hW => ⟨1, rfl, by first | (simp only [mBeg, if_neg c_1, if_neg c_2, if_neg c_4, if_neg c_6, if_pos c_8, bI_t, bI_f]; done) | (simp only [mBeg, if_neg c_1, if_neg c_2, if_neg c_4, if_neg c_6, if_pos c_8, bI_t, bI_f]; rfl), ht⟩) hS.2.2 dX1_isBegin_208
            · have c_8 := bI_0 c_8
              refine lv_iload_n hx hb dX1_isBegin_192 rfl (lv_at hl 2 rfl) ?_
              refine lv_ldc (own := RX1) (v := 65536) hx hb hown (hts (.constant RX1 49 65536) (by decide +kernel)) dX1_isBegin_193 ?_
              refine lv_ldc (own := RX1) (v := 983039) hx hb hown (hts (.constant RX1 83 983039) (by decide +kernel)) dX1_isBegin_195 ?_
              refine vp_callSi (W.runS (As := [.int v, .int 65536, .int 983039]) (rest := []) ⟨hx, hb, hml, hown, hts⟩ (c_X1_within l v 65536 983039) (va_cwS 3 hts gX1_isBegin_X1_within rfl rfl rfl (by decide +kernel) ⟨Nat.le_of_ble_eq_true rfl, Nat.le_of_ble_eq_true rfl⟩) ⟨fun _ _ _ _ q => q, fun U hU hW => ⟨rfl, trivial⟩⟩ rfl rfl hl.1 rfl (lv_room (Nat.le_of_ble_eq_true rfl)) dX1_isBegin_197 ⟨Nat.le_of_ble_eq_true rfl, Nat.le_of_ble_eq_true rfl⟩) (fun r_9 er_9 => ?_)
              obtain rfl : r_9 = bI (mWith v 65536 983039) := er_9
              refine lv_if_eq (tgt := 207) hx hb dX1_isBegin_200 (by decide) (fun c_10 => ?_) (fun c_10 => ?_)
              · have c_10 := bI_0 c_10
                refine lv_iconst (v := 0) hx hb dX1_isBegin_207 (by decide) ?_
                exact W.zret (v := 0) (ty := .boolean) hx hb hr (rfl) (fun t ht hW => ⟨0, rfl, by first | (simp only [mBeg, if_neg c_1, if_neg c_2, if_neg c_4, if_neg c_6, if_neg c_8, if_neg c_10, bI_t, bI_f]; done) | (simp only [mBeg, if_neg c_1, if_neg c_2, if_neg c_4, if_neg c_6, if_neg c_8, if_neg c_10, bI_t, bI_f]; rfl), ht⟩) hS.2.2 dX1_isBegin_208
              · have c_10 := bI_n0 c_10
                refine lv_iconst (v := 1) hx hb dX1_isBegin_203 (by decide) ?_
                refine lv_goto (tgt := 208) hx hb dX1_isBegin_204 (by decide) ?_
                exact W.zret (v := 1) (ty := .boolean) hx hb hr (rfl) (fun t ht hW => ⟨1, rfl, by first | (simp only [mBeg, if_neg c_1, if_neg c_2, if_neg c_4, if_neg c_6, if_neg c_8, if_pos c_10, bI_t, bI_f]; done) | (simp only [mBeg, if_neg c_1, if_neg c_2, if_neg c_4, if_neg c_6, if_neg c_8, if_pos c_10, bI_t, bI_f]; rfl), ht⟩) hS.2.2 dX1_isBegin_208
  have j79 : ∀ ls : Array Slot, lv_has ls 3 [(1, .int (bI (mLow v))), (0, .int v)] → W p l e (headSpec wsX1_isBegin ({ frames := 1, cells := 0, slots := 0, locals := 22 })).room s m ([.int v] : List Value).toArray below meth c s.heap [] 0 0 (MQ below (vp_Si (fun r => r = bI (mBeg v))) ([.int v] : List Value).toArray s 0 0 (fun _ => False)) (F0 m 79 ls []) := by
    intro ls hl
    refine lv_iload_n hx hb dX1_isBegin_79 rfl (lv_at hl 1 rfl) ?_
    refine lv_sipush (v := 880) hx hb dX1_isBegin_80 (by decide) ?_
    refine lv_sipush (v := 893) hx hb dX1_isBegin_83 (by decide) ?_
    refine vp_callSi (W.runS (As := [.int v, .int 880, .int 893]) (rest := []) ⟨hx, hb, hml, hown, hts⟩ (c_X1_within l v 880 893) (va_cwS 3 hts gX1_isBegin_X1_within rfl rfl rfl (by decide +kernel) ⟨Nat.le_of_ble_eq_true rfl, Nat.le_of_ble_eq_true rfl⟩) ⟨fun _ _ _ _ q => q, fun U hU hW => ⟨rfl, trivial⟩⟩ rfl rfl hl.1 rfl (lv_room (Nat.le_of_ble_eq_true rfl)) dX1_isBegin_86 ⟨Nat.le_of_ble_eq_true rfl, Nat.le_of_ble_eq_true rfl⟩) (fun r_11 er_11 => ?_)
    obtain rfl : r_11 = bI (mWith v 880 893) := er_11
    refine lv_if_ne (tgt := 144) hx hb dX1_isBegin_89 (by decide) (fun c_12 => ?_) (fun c_12 => ?_)
    · have c_12 := bI_n0 c_12
      refine lv_iconst (v := 1) hx hb dX1_isBegin_144 (by decide) ?_
      refine lv_goto (tgt := 149) hx hb dX1_isBegin_145 (by decide) ?_
      refine lv_istore_n (lv' := [(2, .int 1), (1, .int (bI (mLow v))), (0, .int v)]) hx hb dX1_isBegin_149 rfl hl (by decide) rfl (fun ls hl => ?_)
      have e9 : mMid v = true := by simp only [mMid, if_pos c_12]
      refine j150 ls ?_
      rw [e9]
      exact hl
    · have c_12 := bI_0 c_12
      refine lv_iload_n hx hb dX1_isBegin_92 rfl (lv_at hl 1 rfl) ?_
      refine lv_sipush (v := 895) hx hb dX1_isBegin_93 (by decide) ?_
      refine lv_sipush (v := 8191) hx hb dX1_isBegin_96 (by decide) ?_
      refine vp_callSi (W.runS (As := [.int v, .int 895, .int 8191]) (rest := []) ⟨hx, hb, hml, hown, hts⟩ (c_X1_within l v 895 8191) (va_cwS 3 hts gX1_isBegin_X1_within rfl rfl rfl (by decide +kernel) ⟨Nat.le_of_ble_eq_true rfl, Nat.le_of_ble_eq_true rfl⟩) ⟨fun _ _ _ _ q => q, fun U hU hW => ⟨rfl, trivial⟩⟩ rfl rfl hl.1 rfl (lv_room (Nat.le_of_ble_eq_true rfl)) dX1_isBegin_99 ⟨Nat.le_of_ble_eq_true rfl, Nat.le_of_ble_eq_true rfl⟩) (fun r_13 er_13 => ?_)
      obtain rfl : r_13 = bI (mWith v 895 8191) := er_13
      refine lv_if_ne (tgt := 144) hx hb dX1_isBegin_102 (by decide) (fun c_14 => ?_) (fun c_14 => ?_)
      · have c_14 := bI_n0 c_14
        refine lv_iconst (v := 1) hx hb dX1_isBegin_144 (by decide) ?_
        refine lv_goto (tgt := 149) hx hb dX1_isBegin_145 (by decide) ?_
        refine lv_istore_n (lv' := [(2, .int 1), (1, .int (bI (mLow v))), (0, .int v)]) hx hb dX1_isBegin_149 rfl hl (by decide) rfl (fun ls hl => ?_)
        have e9 : mMid v = true := by simp only [mMid, if_neg c_12, if_pos c_14]
        refine j150 ls ?_
        rw [e9]
        exact hl
      · have c_14 := bI_0 c_14
        refine lv_iload_n hx hb dX1_isBegin_105 rfl (lv_at hl 1 rfl) ?_
        refine lv_sipush (v := 8204) hx hb dX1_isBegin_106 (by decide) ?_
        refine lv_sipush (v := 8205) hx hb dX1_isBegin_109 (by decide) ?_
        refine vp_callSi (W.runS (As := [.int v, .int 8204, .int 8205]) (rest := []) ⟨hx, hb, hml, hown, hts⟩ (c_X1_within l v 8204 8205) (va_cwS 3 hts gX1_isBegin_X1_within rfl rfl rfl (by decide +kernel) ⟨Nat.le_of_ble_eq_true rfl, Nat.le_of_ble_eq_true rfl⟩) ⟨fun _ _ _ _ q => q, fun U hU hW => ⟨rfl, trivial⟩⟩ rfl rfl hl.1 rfl (lv_room (Nat.le_of_ble_eq_true rfl)) dX1_isBegin_112 ⟨Nat.le_of_ble_eq_true rfl, Nat.le_of_ble_eq_true rfl⟩) (fun r_15 er_15 => ?_)
        obtain rfl : r_15 = bI (mWith v 8204 8205) := er_15
        refine lv_if_ne (tgt := 144) hx hb dX1_isBegin_115 (by decide) (fun c_16 => ?_) (fun c_16 => ?_)
        · have c_16 := bI_n0 c_16
          refine lv_iconst (v := 1) hx hb dX1_isBegin_144 (by decide) ?_
          refine lv_goto (tgt := 149) hx hb dX1_isBegin_145 (by decide) ?_
          refine lv_istore_n (lv' := [(2, .int 1), (1, .int (bI (mLow v))), (0, .int v)]) hx hb dX1_isBegin_149 rfl hl (by decide) rfl (fun ls hl => ?_)
          have e9 : mMid v = true := by simp only [mMid, if_neg c_12, if_neg c_14, if_pos c_16]
          refine j150 ls ?_
          rw [e9]
          exact hl
        · have c_16 := bI_0 c_16
          refine lv_iload_n hx hb dX1_isBegin_118 rfl (lv_at hl 1 rfl) ?_
          refine lv_sipush (v := 8304) hx hb dX1_isBegin_119 (by decide) ?_
          refine lv_sipush (v := 8591) hx hb dX1_isBegin_122 (by decide) ?_
          refine vp_callSi (W.runS (As := [.int v, .int 8304, .int 8591]) (rest := []) ⟨hx, hb, hml, hown, hts⟩ (c_X1_within l v 8304 8591) (va_cwS 3 hts gX1_isBegin_X1_within rfl rfl rfl (by decide +kernel) ⟨Nat.le_of_ble_eq_true rfl, Nat.le_of_ble_eq_true rfl⟩) ⟨fun _ _ _ _ q => q, fun U hU hW => ⟨rfl, trivial⟩⟩ rfl rfl hl.1 rfl (lv_room (Nat.le_of_ble_eq_true rfl)) dX1_isBegin_125 ⟨Nat.le_of_ble_eq_true rfl, Nat.le_of_ble_eq_true rfl⟩) (fun r_17 er_17 => ?_)
          obtain rfl : r_17 = bI (mWith v 8304 8591) := er_17
          refine lv_if_ne (tgt := 144) hx hb dX1_isBegin_128 (by decide) (fun c_18 => ?_) (fun c_18 => ?_)
          · have c_18 := bI_n0 c_18
            refine lv_iconst (v := 1) hx hb dX1_isBegin_144 (by decide) ?_
            refine lv_goto (tgt := 149) hx hb dX1_isBegin_145 (by decide) ?_
            refine lv_istore_n (lv' := [(2, .int 1), (1, .int (bI (mLow v))), (0, .int v)]) hx hb dX1_isBegin_149 rfl hl (by decide) rfl (fun ls hl => ?_)
            have e9 : mMid v = true := by simp only [mMid, if_neg c_12, if_neg c_14, if_neg c_16, if_pos c_18]
            refine j150 ls ?_
            rw [e9]
            exact hl
          · have c_18 := bI_0 c_18
            refine lv_iload_n hx hb dX1_isBegin_131 rfl (lv_at hl 1 rfl) ?_
            refine lv_sipush (v := 11264) hx hb dX1_isBegin_132 (by decide) ?_
            refine lv_sipush (v := 12271) hx hb dX1_isBegin_135 (by decide) ?_
            refine vp_callSi (W.runS (As := [.int v, .int 11264, .int 12271]) (rest := []) ⟨hx, hb, hml, hown, hts⟩ (c_X1_within l v 11264 12271) (va_cwS 3 hts gX1_isBegin_X1_within rfl rfl rfl (by decide +kernel) ⟨Nat.le_of_ble_eq_true rfl, Nat.le_of_ble_eq_true rfl⟩) ⟨fun _ _ _ _ q => q, fun U hU hW => ⟨rfl, trivial⟩⟩ rfl rfl hl.1 rfl (lv_room (Nat.le_of_ble_eq_true rfl)) dX1_isBegin_138 ⟨Nat.le_of_ble_eq_true rfl, Nat.le_of_ble_eq_true rfl⟩) (fun r_19 er_19 => ?_)
            obtain rfl : r_19 = bI (mWith v 11264 12271) := er_19
            refine lv_if_eq (tgt := 148) hx hb dX1_isBegin_141 (by decide) (fun c_20 => ?_) (fun c_20 => ?_)
            · have c_20 := bI_0 c_20
              refine lv_iconst (v := 0) hx hb dX1_isBegin_148 (by decide) ?_
              refine lv_istore_n (lv' := [(2, .int 0), (1, .int (bI (mLow v))), (0, .int v)]) hx hb dX1_isBegin_149 rfl hl (by decide) rfl (fun ls hl => ?_)
              have e9 : mMid v = false := by simp only [mMid, if_neg c_12, if_neg c_14, if_neg c_16, if_neg c_18, if_neg c_20]
              refine j150 ls ?_
              rw [e9]
              exact hl
            · have c_20 := bI_n0 c_20
              refine lv_iconst (v := 1) hx hb dX1_isBegin_144 (by decide) ?_
              refine lv_goto (tgt := 149) hx hb dX1_isBegin_145 (by decide) ?_
              refine lv_istore_n (lv' := [(2, .int 1), (1, .int (bI (mLow v))), (0, .int v)]) hx hb dX1_isBegin_149 rfl hl (by decide) rfl (fun ls hl => ?_)
              have e9 : mMid v = true := by simp only [mMid, if_neg c_12, if_neg c_14, if_neg c_16, if_neg c_18, if_pos c_20]
              refine j150 ls ?_
              rw [e9]
              exact hl
  refine lv_iload_n hx hb dX1_isBegin_0 rfl (lv_at hl 0 rfl) ?_
  refine lv_bipush (v := 58) hx hb dX1_isBegin_1 (by decide) ?_
  refine lv_icmp_eq (tgt := 73) hx hb dX1_isBegin_3 (by decide) (fun c_21 => ?_) (fun c_21 => ?_)
  · refine lv_iconst (v := 1) hx hb dX1_isBegin_73 (by decide) ?_
    refine lv_goto (tgt := 78) hx hb dX1_isBegin_74 (by decide) ?_
    refine lv_istore_n (lv' := [(1, .int 1), (0, .int v)]) hx hb dX1_isBegin_78 rfl hl (by decide) rfl (fun ls hl => ?_)
    have e9 : mLow v = true := by simp only [mLow, if_pos c_21]
    refine j79 ls ?_
    rw [e9]
    exact hl
  · refine lv_iload_n hx hb dX1_isBegin_6 rfl (lv_at hl 0 rfl) ?_
    refine lv_bipush (v := 95) hx hb dX1_isBegin_7 (by decide) ?_
    refine lv_icmp_eq (tgt := 73) hx hb dX1_isBegin_9 (by decide) (fun c_22 => ?_) (fun c_22 => ?_)
    · refine lv_iconst (v := 1) hx hb dX1_isBegin_73 (by decide) ?_
      refine lv_goto (tgt := 78) hx hb dX1_isBegin_74 (by decide) ?_
      refine lv_istore_n (lv' := [(1, .int 1), (0, .int v)]) hx hb dX1_isBegin_78 rfl hl (by decide) rfl (fun ls hl => ?_)
      have e9 : mLow v = true := by simp only [mLow, if_neg c_21, if_pos c_22]
      refine j79 ls ?_
      rw [e9]
      exact hl
    · refine lv_iload_n hx hb dX1_isBegin_12 rfl (lv_at hl 0 rfl) ?_
      refine lv_bipush (v := 65) hx hb dX1_isBegin_13 (by decide) ?_
      refine lv_bipush (v := 90) hx hb dX1_isBegin_15 (by decide) ?_
      refine vp_callSi (W.runS (As := [.int v, .int 65, .int 90]) (rest := []) ⟨hx, hb, hml, hown, hts⟩ (c_X1_within l v 65 90) (va_cwS 3 hts gX1_isBegin_X1_within rfl rfl rfl (by decide +kernel) ⟨Nat.le_of_ble_eq_true rfl, Nat.le_of_ble_eq_true rfl⟩) ⟨fun _ _ _ _ q => q, fun U hU hW => ⟨rfl, trivial⟩⟩ rfl rfl hl.1 rfl (lv_room (Nat.le_of_ble_eq_true rfl)) dX1_isBegin_17 ⟨Nat.le_of_ble_eq_true rfl, Nat.le_of_ble_eq_true rfl⟩) (fun r_23 er_23 => ?_)
      obtain rfl : r_23 = bI (mWith v 65 90) := er_23
      refine lv_if_ne (tgt := 73) hx hb dX1_isBegin_20 (by decide) (fun c_24 => ?_) (fun c_24 => ?_)
      · have c_24 := bI_n0 c_24
        refine lv_iconst (v := 1) hx hb dX1_isBegin_73 (by decide) ?_
        refine lv_goto (tgt := 78) hx hb dX1_isBegin_74 (by decide) ?_
        refine lv_istore_n (lv' := [(1, .int 1), (0, .int v)]) hx hb dX1_isBegin_78 rfl hl (by decide) rfl (fun ls hl => ?_)
        have e9 : mLow v = true := by simp only [mLow, if_neg c_21, if_neg c_22, if_pos c_24]
        refine j79 ls ?_
        rw [e9]
        exact hl
      · have c_24 := bI_0 c_24
        refine lv_iload_n hx hb dX1_isBegin_23 rfl (lv_at hl 0 rfl) ?_
        refine lv_bipush (v := 97) hx hb dX1_isBegin_24 (by decide) ?_
        refine lv_bipush (v := 122) hx hb dX1_isBegin_26 (by decide) ?_
        refine vp_callSi (W.runS (As := [.int v, .int 97, .int 122]) (rest := []) ⟨hx, hb, hml, hown, hts⟩ (c_X1_within l v 97 122) (va_cwS 3 hts gX1_isBegin_X1_within rfl rfl rfl (by decide +kernel) ⟨Nat.le_of_ble_eq_true rfl, Nat.le_of_ble_eq_true rfl⟩) ⟨fun _ _ _ _ q => q, fun U hU hW => ⟨rfl, trivial⟩⟩ rfl rfl hl.1 rfl (lv_room (Nat.le_of_ble_eq_true rfl)) dX1_isBegin_28 ⟨Nat.le_of_ble_eq_true rfl, Nat.le_of_ble_eq_true rfl⟩) (fun r_25 er_25 => ?_)
        obtain rfl : r_25 = bI (mWith v 97 122) := er_25
        refine lv_if_ne (tgt := 73) hx hb dX1_isBegin_31 (by decide) (fun c_26 => ?_) (fun c_26 => ?_)
        · have c_26 := bI_n0 c_26
          refine lv_iconst (v := 1) hx hb dX1_isBegin_73 (by decide) ?_
          refine lv_goto (tgt := 78) hx hb dX1_isBegin_74 (by decide) ?_
          refine lv_istore_n (lv' := [(1, .int 1), (0, .int v)]) hx hb dX1_isBegin_78 rfl hl (by decide) rfl (fun ls hl => ?_)
          have e9 : mLow v = true := by simp only [mLow, if_neg c_21, if_neg c_22, if_neg c_24, if_pos c_26]
          refine j79 ls ?_
          rw [e9]
          exact hl
        · have c_26 := bI_0 c_26
          refine lv_iload_n hx hb dX1_isBegin_34 rfl (lv_at hl 0 rfl) ?_
          refine lv_sipush (v := 192) hx hb dX1_isBegin_35 (by decide) ?_
          refine lv_sipush (v := 214) hx hb dX1_isBegin_38 (by decide) ?_
          refine vp_callSi (W.runS (As := [.int v, .int 192, .int 214]) (rest := []) ⟨hx, hb, hml, hown, hts⟩ (c_X1_within l v 192 214) (va_cwS 3 hts gX1_isBegin_X1_within rfl rfl rfl (by decide +kernel) ⟨Nat.le_of_ble_eq_true rfl, Nat.le_of_ble_eq_true rfl⟩) ⟨fun _ _ _ _ q => q, fun U hU hW => ⟨rfl, trivial⟩⟩ rfl rfl hl.1 rfl (lv_room (Nat.le_of_ble_eq_true rfl)) dX1_isBegin_41 ⟨Nat.le_of_ble_eq_true rfl, Nat.le_of_ble_eq_true rfl⟩) (fun r_27 er_27 => ?_)
          obtain rfl : r_27 = bI (mWith v 192 214) := er_27
          refine lv_if_ne (tgt := 73) hx hb dX1_isBegin_44 (by decide) (fun c_28 => ?_) (fun c_28 => ?_)
          · have c_28 := bI_n0 c_28
            refine lv_iconst (v := 1) hx hb dX1_isBegin_73 (by decide) ?_
            refine lv_goto (tgt := 78) hx hb dX1_isBegin_74 (by decide) ?_
            refine lv_istore_n (lv' := [(1, .int 1), (0, .int v)]) hx hb dX1_isBegin_78 rfl hl (by decide) rfl (fun ls hl => ?_)
            have e9 : mLow v = true := by simp only [mLow, if_neg c_21, if_neg c_22, if_neg c_24, if_neg c_26, if_pos c_28]
            refine j79 ls ?_
            rw [e9]
            exact hl
          · have c_28 := bI_0 c_28
            refine lv_iload_n hx hb dX1_isBegin_47 rfl (lv_at hl 0 rfl) ?_
            refine lv_sipush (v := 216) hx hb dX1_isBegin_48 (by decide) ?_
            refine lv_sipush (v := 246) hx hb dX1_isBegin_51 (by decide) ?_
            refine vp_callSi (W.runS (As := [.int v, .int 216, .int 246]) (rest := []) ⟨hx, hb, hml, hown, hts⟩ (c_X1_within l v 216 246) (va_cwS 3 hts gX1_isBegin_X1_within rfl rfl rfl (by decide +kernel) ⟨Nat.le_of_ble_eq_true rfl, Nat.le_of_ble_eq_true rfl⟩) ⟨fun _ _ _ _ q => q, fun U hU hW => ⟨rfl, trivial⟩⟩ rfl rfl hl.1 rfl (lv_room (Nat.le_of_ble_eq_true rfl)) dX1_isBegin_54 ⟨Nat.le_of_ble_eq_true rfl, Nat.le_of_ble_eq_true rfl⟩) (fun r_29 er_29 => ?_)
            obtain rfl : r_29 = bI (mWith v 216 246) := er_29
            refine lv_if_ne (tgt := 73) hx hb dX1_isBegin_57 (by decide) (fun c_30 => ?_) (fun c_30 => ?_)
            · have c_30 := bI_n0 c_30
              refine lv_iconst (v := 1) hx hb dX1_isBegin_73 (by decide) ?_
              refine lv_goto (tgt := 78) hx hb dX1_isBegin_74 (by decide) ?_
              refine lv_istore_n (lv' := [(1, .int 1), (0, .int v)]) hx hb dX1_isBegin_78 rfl hl (by decide) rfl (fun ls hl => ?_)
              have e9 : mLow v = true := by simp only [mLow, if_neg c_21, if_neg c_22, if_neg c_24, if_neg c_26, if_neg c_28, if_pos c_30]
              refine j79 ls ?_
              rw [e9]
              exact hl
            · have c_30 := bI_0 c_30
              refine lv_iload_n hx hb dX1_isBegin_60 rfl (lv_at hl 0 rfl) ?_
              refine lv_sipush (v := 248) hx hb dX1_isBegin_61 (by decide) ?_
              refine lv_sipush (v := 767) hx hb dX1_isBegin_64 (by decide) ?_
              refine vp_callSi (W.runS (As := [.int v, .int 248, .int 767]) (rest := []) ⟨hx, hb, hml, hown, hts⟩ (c_X1_within l v 248 767) (va_cwS 3 hts gX1_isBegin_X1_within rfl rfl rfl (by decide +kernel) ⟨Nat.le_of_ble_eq_true rfl, Nat.le_of_ble_eq_true rfl⟩) ⟨fun _ _ _ _ q => q, fun U hU hW => ⟨rfl, trivial⟩⟩ rfl rfl hl.1 rfl (lv_room (Nat.le_of_ble_eq_true rfl)) dX1_isBegin_67 ⟨Nat.le_of_ble_eq_true rfl, Nat.le_of_ble_eq_true rfl⟩) (fun r_31 er_31 => ?_)
              obtain rfl : r_31 = bI (mWith v 248 767) := er_31
              refine lv_if_eq (tgt := 77) hx hb dX1_isBegin_70 (by decide) (fun c_32 => ?_) (fun c_32 => ?_)
              · have c_32 := bI_0 c_32
                refine lv_iconst (v := 0) hx hb dX1_isBegin_77 (by decide) ?_
                refine lv_istore_n (lv' := [(1, .int 0), (0, .int v)]) hx hb dX1_isBegin_78 rfl hl (by decide) rfl (fun ls hl => ?_)
                have e9 : mLow v = false := by simp only [mLow, if_neg c_21, if_neg c_22, if_neg c_24, if_neg c_26, if_neg c_28, if_neg c_30, if_neg c_32]
                refine j79 ls ?_
                rw [e9]
                exact hl
              · have c_32 := bI_n0 c_32
                refine lv_iconst (v := 1) hx hb dX1_isBegin_73 (by decide) ?_
                refine lv_goto (tgt := 78) hx hb dX1_isBegin_74 (by decide) ?_
                refine lv_istore_n (lv' := [(1, .int 1), (0, .int v)]) hx hb dX1_isBegin_78 rfl hl (by decide) rfl (fun ls hl => ?_)
                have e9 : mLow v = true := by simp only [mLow, if_neg c_21, if_neg c_22, if_neg c_24, if_neg c_26, if_neg c_28, if_neg c_30, if_pos c_32]
                refine j79 ls ?_
                rw [e9]
                exact hl
set_option maxHeartbeats 4000000 in
set_option maxRecDepth 100000 in
theorem c_X1_isPart (l : Launch) (v : Int32) : Met l yX1_isPart wsX1_isPart ({ frames := 2, cells := 0, slots := 0, locals := 44 }) (va_Pc [.int v] (fun U => True)) (vp_Si (fun r => r = bI (mPart v))) 0 0 (fun _ => False) := by
  refine Met.ofW (cc := cX1_isPart) (maxL := 1) (ret := (some .boolean)) (by decide) rfl ?_
  intro p e s m args below meth c s₁ B hml hv
  obtain ⟨rfl, -⟩ := hv
  have hx := B.exec
  have hb := B.bytes
  have hr := B.returns
  have hts := atoms_spec (ws := wsX1_isPart) B.pre
  have hown : s.vm.findClass RX1 = some m.cls := findClass_of_methodNamed B.named
  have hS : va_S (fun _ => False) s.heap s.heap [] := va_S.rf
  have hl := lv_entry ([.int v]) (n := 1) (Nat.le_of_ble_eq_true rfl)
  rw [lg_entry_eq]
  generalize (lg_sl ([.int v]) ++ List.replicate (1 - (lg_sl ([.int v])).length) Slot.unset).toArray = ls at hl ⊢
  have hl : lv_has ls 1 [(0, .int v)] := hl
  refine lv_iload_n hx hb dX1_isPart_0 rfl (lv_at hl 0 rfl) ?_
  refine vp_callSi (W.runS (As := [.int v]) (rest := []) ⟨hx, hb, hml, hown, hts⟩ (c_X1_isBegin l v) (va_cwS 1 hts gX1_isPart_X1_isBegin rfl rfl rfl (by decide +kernel) ⟨Nat.le_of_ble_eq_true rfl, Nat.le_of_ble_eq_true rfl⟩) ⟨fun _ _ _ _ q => q, fun U hU hW => ⟨rfl, trivial⟩⟩ rfl rfl hl.1 rfl (lv_room (Nat.le_of_ble_eq_true rfl)) dX1_isPart_1 ⟨Nat.le_of_ble_eq_true rfl, Nat.le_of_ble_eq_true rfl⟩) (fun r_1 er_1 => ?_)
  obtain rfl : r_1 = bI (mBeg v) := er_1
  refine lv_if_ne (tgt := 63) hx hb dX1_isPart_4 (by decide) (fun c_2 => ?_) (fun c_2 => ?_)
  · have c_2 := bI_n0 c_2
    refine lv_iconst (v := 1) hx hb dX1_isPart_63 (by decide) ?_
    refine lv_goto (tgt := 68) hx hb dX1_isPart_64 (by decide) ?_
    exact W.zret (v := 1) (ty := .boolean) hx hb hr (rfl) (fun t ht hW => ⟨1, rfl, by first | (simp only [mPart, if_pos c_2, bI_t, bI_f]; done) | (simp only [mPart, if_pos c_2, bI_t, bI_f]; rfl), ht⟩) hS.2.2 dX1_isPart_68
  · have c_2 := bI_0 c_2
    refine lv_iload_n hx hb dX1_isPart_7 rfl (lv_at hl 0 rfl) ?_
    refine lv_bipush (v := 45) hx hb dX1_isPart_8 (by decide) ?_
    refine lv_icmp_eq (tgt := 63) hx hb dX1_isPart_10 (by decide) (fun c_3 => ?_) (fun c_3 => ?_)
    · refine lv_iconst (v := 1) hx hb dX1_isPart_63 (by decide) ?_
      refine lv_goto (tgt := 68) hx hb dX1_isPart_64 (by decide) ?_
      exact W.zret (v := 1) (ty := .boolean) hx hb hr (rfl) (fun t ht hW => ⟨1, rfl, by first | (simp only [mPart, if_neg c_2, if_pos c_3, bI_t, bI_f]; done) | (simp only [mPart, if_neg c_2, if_pos c_3, bI_t, bI_f]; rfl), ht⟩) hS.2.2 dX1_isPart_68
    · refine lv_iload_n hx hb dX1_isPart_13 rfl (lv_at hl 0 rfl) ?_
      refine lv_bipush (v := 46) hx hb dX1_isPart_14 (by decide) ?_
      refine lv_icmp_eq (tgt := 63) hx hb dX1_isPart_16 (by decide) (fun c_4 => ?_) (fun c_4 => ?_)
      · refine lv_iconst (v := 1) hx hb dX1_isPart_63 (by decide) ?_
        refine lv_goto (tgt := 68) hx hb dX1_isPart_64 (by decide) ?_
        exact W.zret (v := 1) (ty := .boolean) hx hb hr (rfl) (fun t ht hW => ⟨1, rfl, by first | (simp only [mPart, if_neg c_2, if_neg c_3, if_pos c_4, bI_t, bI_f]; done) | (simp only [mPart, if_neg c_2, if_neg c_3, if_pos c_4, bI_t, bI_f]; rfl), ht⟩) hS.2.2 dX1_isPart_68
      · refine lv_iload_n hx hb dX1_isPart_19 rfl (lv_at hl 0 rfl) ?_
        refine lv_bipush (v := 48) hx hb dX1_isPart_20 (by decide) ?_
        refine lv_bipush (v := 57) hx hb dX1_isPart_22 (by decide) ?_
        refine vp_callSi (W.runS (As := [.int v, .int 48, .int 57]) (rest := []) ⟨hx, hb, hml, hown, hts⟩ (c_X1_within l v 48 57) (va_cwS 3 hts gX1_isPart_X1_within rfl rfl rfl (by decide +kernel) ⟨Nat.le_of_ble_eq_true rfl, Nat.le_of_ble_eq_true rfl⟩) ⟨fun _ _ _ _ q => q, fun U hU hW => ⟨rfl, trivial⟩⟩ rfl rfl hl.1 rfl (lv_room (Nat.le_of_ble_eq_true rfl)) dX1_isPart_24 ⟨Nat.le_of_ble_eq_true rfl, Nat.le_of_ble_eq_true rfl⟩) (fun r_5 er_5 => ?_)
        obtain rfl : r_5 = bI (mWith v 48 57) := er_5
        refine lv_if_ne (tgt := 63) hx hb dX1_isPart_27 (by decide) (fun c_6 => ?_) (fun c_6 => ?_)
        · have c_6 := bI_n0 c_6
          refine lv_iconst (v := 1) hx hb dX1_isPart_63 (by decide) ?_
          refine lv_goto (tgt := 68) hx hb dX1_isPart_64 (by decide) ?_
          exact W.zret (v := 1) (ty := .boolean) hx hb hr (rfl) (fun t ht hW => ⟨1, rfl, by first | (simp only [mPart, if_neg c_2, if_neg c_3, if_neg c_4, if_pos c_6, bI_t, bI_f]; done) | (simp only [mPart, if_neg c_2, if_neg c_3, if_neg c_4, if_pos c_6, bI_t, bI_f]; rfl), ht⟩) hS.2.2 dX1_isPart_68
        · have c_6 := bI_0 c_6
          refine lv_iload_n hx hb dX1_isPart_30 rfl (lv_at hl 0 rfl) ?_
          refine lv_sipush (v := 183) hx hb dX1_isPart_31 (by decide) ?_
          refine lv_icmp_eq (tgt := 63) hx hb dX1_isPart_34 (by decide) (fun c_7 => ?_) (fun c_7 => ?_)
          · refine lv_iconst (v := 1) hx hb dX1_isPart_63 (by decide) ?_
            refine lv_goto (tgt := 68) hx hb dX1_isPart_64 (by decide) ?_
            exact W.zret (v := 1) (ty := .boolean) hx hb hr (rfl) (fun t ht hW => ⟨1, rfl, by first | (simp only [mPart, if_neg c_2, if_neg c_3, if_neg c_4, if_neg c_6, if_pos c_7, bI_t, bI_f]; done) | (simp only [mPart, if_neg c_2, if_neg c_3, if_neg c_4, if_neg c_6, if_pos c_7, bI_t, bI_f]; rfl), ht⟩) hS.2.2 dX1_isPart_68
          · refine lv_iload_n hx hb dX1_isPart_37 rfl (lv_at hl 0 rfl) ?_
            refine lv_sipush (v := 768) hx hb dX1_isPart_38 (by decide) ?_
            refine lv_sipush (v := 879) hx hb dX1_isPart_41 (by decide) ?_
            refine vp_callSi (W.runS (As := [.int v, .int 768, .int 879]) (rest := []) ⟨hx, hb, hml, hown, hts⟩ (c_X1_within l v 768 879) (va_cwS 3 hts gX1_isPart_X1_within rfl rfl rfl (by decide +kernel) ⟨Nat.le_of_ble_eq_true rfl, Nat.le_of_ble_eq_true rfl⟩) ⟨fun _ _ _ _ q => q, fun U hU hW => ⟨rfl, trivial⟩⟩ rfl rfl hl.1 rfl (lv_room (Nat.le_of_ble_eq_true rfl)) dX1_isPart_44 ⟨Nat.le_of_ble_eq_true rfl, Nat.le_of_ble_eq_true rfl⟩) (fun r_8 er_8 => ?_)
            obtain rfl : r_8 = bI (mWith v 768 879) := er_8
            refine lv_if_ne (tgt := 63) hx hb dX1_isPart_47 (by decide) (fun c_9 => ?_) (fun c_9 => ?_)
            · have c_9 := bI_n0 c_9
              refine lv_iconst (v := 1) hx hb dX1_isPart_63 (by decide) ?_
              refine lv_goto (tgt := 68) hx hb dX1_isPart_64 (by decide) ?_
              exact W.zret (v := 1) (ty := .boolean) hx hb hr (rfl) (fun t ht hW => ⟨1, rfl, by first | (simp only [mPart, if_neg c_2, if_neg c_3, if_neg c_4, if_neg c_6, if_neg c_7, if_pos c_9, bI_t, bI_f]; done) | (simp only [mPart, if_neg c_2, if_neg c_3, if_neg c_4, if_neg c_6, if_neg c_7, if_pos c_9, bI_t, bI_f]; rfl), ht⟩) hS.2.2 dX1_isPart_68
            · have c_9 := bI_0 c_9
              refine lv_iload_n hx hb dX1_isPart_50 rfl (lv_at hl 0 rfl) ?_
              refine lv_sipush (v := 8255) hx hb dX1_isPart_51 (by decide) ?_
              refine lv_sipush (v := 8256) hx hb dX1_isPart_54 (by decide) ?_
              refine vp_callSi (W.runS (As := [.int v, .int 8255, .int 8256]) (rest := []) ⟨hx, hb, hml, hown, hts⟩ (c_X1_within l v 8255 8256) (va_cwS 3 hts gX1_isPart_X1_within rfl rfl rfl (by decide +kernel) ⟨Nat.le_of_ble_eq_true rfl, Nat.le_of_ble_eq_true rfl⟩) ⟨fun _ _ _ _ q => q, fun U hU hW => ⟨rfl, trivial⟩⟩ rfl rfl hl.1 rfl (lv_room (Nat.le_of_ble_eq_true rfl)) dX1_isPart_57 ⟨Nat.le_of_ble_eq_true rfl, Nat.le_of_ble_eq_true rfl⟩) (fun r_10 er_10 => ?_)
              obtain rfl : r_10 = bI (mWith v 8255 8256) := er_10
              refine lv_if_eq (tgt := 67) hx hb dX1_isPart_60 (by decide) (fun c_11 => ?_) (fun c_11 => ?_)
              · have c_11 := bI_0 c_11
                refine lv_iconst (v := 0) hx hb dX1_isPart_67 (by decide) ?_
                exact W.zret (v := 0) (ty := .boolean) hx hb hr (rfl) (fun t ht hW => ⟨0, rfl, by first | (simp only [mPart, if_neg c_2, if_neg c_3, if_neg c_4, if_neg c_6, if_neg c_7, if_neg c_9, if_neg c_11, bI_t, bI_f]; done) | (simp only [mPart, if_neg c_2, if_neg c_3, if_neg c_4, if_neg c_6, if_neg c_7, if_neg c_9, if_neg c_11, bI_t, bI_f]; rfl), ht⟩) hS.2.2 dX1_isPart_68
              · have c_11 := bI_n0 c_11
                refine lv_iconst (v := 1) hx hb dX1_isPart_63 (by decide) ?_
                refine lv_goto (tgt := 68) hx hb dX1_isPart_64 (by decide) ?_
                exact W.zret (v := 1) (ty := .boolean) hx hb hr (rfl) (fun t ht hW => ⟨1, rfl, by first | (simp only [mPart, if_neg c_2, if_neg c_3, if_neg c_4, if_neg c_6, if_neg c_7, if_neg c_9, if_pos c_11, bI_t, bI_f]; done) | (simp only [mPart, if_neg c_2, if_neg c_3, if_neg c_4, if_neg c_6, if_neg c_7, if_neg c_9, if_pos c_11, bI_t, bI_f]; rfl), ht⟩) hS.2.2 dX1_isPart_68
set_option maxHeartbeats 4000000 in
set_option maxRecDepth 100000 in
theorem c_X1_kind (l : Launch) (dC : Nat → ClassId) (dI : Nat → Nat → Nat) (g0 g1 g2 : Nat) (cA : ClassId) (tb : Nat → Nat) (n : Nat) (kb : Nat → Nat) (ln : Nat) (rd : Bool) (fp : Int32) (st : Nat) (mt bg : Int32) (v : Int32) : Met l yX1_kind wsX1_kind ({ frames := 3, cells := 0, slots := 0, locals := 64 }) (va_Pc [.ref g0, .int v] (fun U => mpre dC dI g0 g1 g2 cA (tb, n, kb, ln, rd, fp, st, mt, bg) U)) (vp_Si (fun r => r = mKind v)) 0 0 (fun _ => False) := by
  refine Met.ofW (cc := cX1_kind) (maxL := 3) (ret := (some .int)) (by decide) rfl ?_
  intro p e s m args below meth c s₁ B hml hv
  obtain ⟨rfl, hP, hK⟩ := hv
  have hx := B.exec
  have hb := B.bytes
  have hr := B.returns
  have hts := atoms_spec (ws := wsX1_kind) B.pre
  have hown : s.vm.findClass RX1 = some m.cls := findClass_of_methodNamed B.named
  have hS : va_S (fun _ => False) s.heap s.heap [] := va_S.rf
  have hP : va_P (dC, dI) vwCl [(g0, .inr (1, [.ref g1, .int (nI n), .ref g2, .int (nI ln), .int (bI rd), .int fp, .int (nI st), .int mt, .int bg])), (g1, .inl (cA, 1000, .inl (fun j => nI (tb j)))), (g2, .inl (cA, 1000, .inl (fun j => nI (kb j))))] s.heap := hP
  have hl := lv_entry ([.ref g0, .int v]) (n := 3) (Nat.le_of_ble_eq_true rfl)
  rw [lg_entry_eq]
  generalize (lg_sl ([.ref g0, .int v]) ++ List.replicate (3 - (lg_sl ([.ref g0, .int v])).length) Slot.unset).toArray = ls at hl ⊢
  have hl : lv_has ls 3 [(0, .ref g0), (1, .int v)] := hl
  refine lv_iload_n hx hb dX1_kind_0 rfl (lv_at hl 1 rfl) ?_
  refine vp_callSi (W.runS (As := [.int v]) (rest := []) ⟨hx, hb, hml, hown, hts⟩ (c_X1_isAllowed l v) (va_cwS 1 hts gX1_kind_X1_isAllowed rfl rfl rfl (by decide +kernel) ⟨Nat.le_of_ble_eq_true rfl, Nat.le_of_ble_eq_true rfl⟩) ⟨fun _ _ _ _ q => q, fun U hU hW => ⟨rfl, trivial⟩⟩ rfl rfl hl.1 rfl (lv_room (Nat.le_of_ble_eq_true rfl)) dX1_kind_1 ⟨Nat.le_of_ble_eq_true rfl, Nat.le_of_ble_eq_true rfl⟩) (fun r_1 er_1 => ?_)
  obtain rfl : r_1 = bI (mAll v) := er_1
  refine lv_if_eq (tgt := 11) hx hb dX1_kind_4 (by decide) (fun c_2 => ?_) (fun c_2 => ?_)
  · have c_2 := bI_0 c_2
    refine lv_iconst (v := 0) hx hb dX1_kind_11 (by decide) ?_
    refine lv_istore_n (lv' := [(2, .int 0), (0, .ref g0), (1, .int v)]) hx hb dX1_kind_12 rfl hl (by decide) rfl (fun ls hl => ?_)
    refine lv_iload_n hx hb dX1_kind_13 rfl (lv_at hl 2 rfl) ?_
    refine vp_callSi (W.runS (As := [.int v]) (rest := []) ⟨hx, hb, hml, hown, hts⟩ (c_X1_isBlank l v) (va_cwS 1 hts gX1_kind_X1_isBlank rfl rfl rfl (by decide +kernel) ⟨Nat.le_of_ble_eq_true rfl, Nat.le_of_ble_eq_true rfl⟩) ⟨fun _ _ _ _ q => q, fun U hU hW => ⟨rfl, trivial⟩⟩ rfl rfl hl.1 rfl (lv_room (Nat.le_of_ble_eq_true rfl)) dX1_kind_14 ⟨Nat.le_of_ble_eq_true rfl, Nat.le_of_ble_eq_true rfl⟩) (fun r_3 er_3 => ?_)
    obtain rfl : r_3 = bI (mBlank v) := er_3
    refine lv_if_eq (tgt := 26) hx hb dX1_kind_17 (by decide) (fun c_4 => ?_) (fun c_4 => ?_)
    · have c_4 := bI_0 c_4
      refine lv_iload_n hx hb dX1_kind_26 rfl (lv_at hl 0 rfl) ?_
      refine lv_istore_n (lv' := [(2, .int 0), (0, .ref g0), (1, .int v)]) hx hb dX1_kind_27 rfl hl (by decide) rfl (fun ls hl => ?_)
      refine lv_iload_n hx hb dX1_kind_28 rfl (lv_at hl 2 rfl) ?_
      refine vp_callSi (W.runS (As := [.int v]) (rest := []) ⟨hx, hb, hml, hown, hts⟩ (c_X1_isBegin l v) (va_cwS 1 hts gX1_kind_X1_isBegin rfl rfl rfl (by decide +kernel) ⟨Nat.le_of_ble_eq_true rfl, Nat.le_of_ble_eq_true rfl⟩) ⟨fun _ _ _ _ q => q, fun U hU hW => ⟨rfl, trivial⟩⟩ rfl rfl hl.1 rfl (lv_room (Nat.le_of_ble_eq_true rfl)) dX1_kind_29 ⟨Nat.le_of_ble_eq_true rfl, Nat.le_of_ble_eq_true rfl⟩) (fun r_5 er_5 => ?_)
      obtain rfl : r_5 = bI (mBeg v) := er_5
      refine lv_if_eq (tgt := 41) hx hb dX1_kind_32 (by decide) (fun c_6 => ?_) (fun c_6 => ?_)
      · have c_6 := bI_0 c_6
        refine lv_iload_n hx hb dX1_kind_41 rfl (lv_at hl 0 rfl) ?_
        refine lv_istore_n (lv' := [(2, .int 0), (0, .ref g0), (1, .int v)]) hx hb dX1_kind_42 rfl hl (by decide) rfl (fun ls hl => ?_)
        refine lv_iload_n hx hb dX1_kind_43 rfl (lv_at hl 2 rfl) ?_
        refine vp_callSi (W.runS (As := [.int v]) (rest := []) ⟨hx, hb, hml, hown, hts⟩ (c_X1_isPart l v) (va_cwS 1 hts gX1_kind_X1_isPart rfl rfl rfl (by decide +kernel) ⟨Nat.le_of_ble_eq_true rfl, Nat.le_of_ble_eq_true rfl⟩) ⟨fun _ _ _ _ q => q, fun U hU hW => ⟨rfl, trivial⟩⟩ rfl rfl hl.1 rfl (lv_room (Nat.le_of_ble_eq_true rfl)) dX1_kind_44 ⟨Nat.le_of_ble_eq_true rfl, Nat.le_of_ble_eq_true rfl⟩) (fun r_7 er_7 => ?_)
        obtain rfl : r_7 = bI (mPart v) := er_7
        refine lv_if_eq (tgt := 57) hx hb dX1_kind_47 (by decide) (fun c_8 => ?_) (fun c_8 => ?_)
        · have c_8 := bI_0 c_8
          refine lv_iload_n hx hb dX1_kind_57 rfl (lv_at hl 0 rfl) ?_
          exact W.iret (v := 0) hx hb hr (fun t ht hW => ⟨0, rfl, by first | (simp only [mKind, if_neg c_2, if_neg c_4, if_neg c_6, if_neg c_8, bI_t, bI_f]; done) | (simp only [mKind, if_neg c_2, if_neg c_4, if_neg c_6, if_neg c_8, bI_t, bI_f]; rfl), ht⟩) hS.2.2 dX1_kind_58
        · have c_8 := bI_n0 c_8
          refine lv_iload_n hx hb dX1_kind_50 rfl (lv_at hl 0 rfl) ?_
          refine lv_bipush (v := 8) hx hb dX1_kind_51 (by decide) ?_
          refine lv_iadd hx hb dX1_kind_53 ?_
          refine lv_topi (fun x_9 ex_9 => ?_)
          obtain rfl : x_9 = 8 := ex_9.trans (by decide)
          refine lv_goto (tgt := 58) hx hb dX1_kind_54 (by decide) ?_
          exact W.iret (v := 8) hx hb hr (fun t ht hW => ⟨8, rfl, by first | (simp only [mKind, if_neg c_2, if_neg c_4, if_neg c_6, if_pos c_8, bI_t, bI_f]; done) | (simp only [mKind, if_neg c_2, if_neg c_4, if_neg c_6, if_pos c_8, bI_t, bI_f]; rfl), ht⟩) hS.2.2 dX1_kind_58
      · have c_6 := bI_n0 c_6
        refine lv_iload_n hx hb dX1_kind_35 rfl (lv_at hl 0 rfl) ?_
        refine lv_iconst (v := 4) hx hb dX1_kind_36 (by decide) ?_
        refine lv_iadd hx hb dX1_kind_37 ?_
        refine lv_topi (fun x_10 ex_10 => ?_)
        obtain rfl : x_10 = 4 := ex_10.trans (by decide)
        refine lv_goto (tgt := 42) hx hb dX1_kind_38 (by decide) ?_
        refine lv_istore_n (lv' := [(2, .int 4), (0, .ref g0), (1, .int v)]) hx hb dX1_kind_42 rfl hl (by decide) rfl (fun ls hl => ?_)
        refine lv_iload_n hx hb dX1_kind_43 rfl (lv_at hl 2 rfl) ?_
        refine vp_callSi (W.runS (As := [.int v]) (rest := []) ⟨hx, hb, hml, hown, hts⟩ (c_X1_isPart l v) (va_cwS 1 hts gX1_kind_X1_isPart rfl rfl rfl (by decide +kernel) ⟨Nat.le_of_ble_eq_true rfl, Nat.le_of_ble_eq_true rfl⟩) ⟨fun _ _ _ _ q => q, fun U hU hW => ⟨rfl, trivial⟩⟩ rfl rfl hl.1 rfl (lv_room (Nat.le_of_ble_eq_true rfl)) dX1_kind_44 ⟨Nat.le_of_ble_eq_true rfl, Nat.le_of_ble_eq_true rfl⟩) (fun r_11 er_11 => ?_)
        obtain rfl : r_11 = bI (mPart v) := er_11
        refine lv_if_eq (tgt := 57) hx hb dX1_kind_47 (by decide) (fun c_12 => ?_) (fun c_12 => ?_)
        · have c_12 := bI_0 c_12
          refine lv_iload_n hx hb dX1_kind_57 rfl (lv_at hl 0 rfl) ?_
          exact W.iret (v := 4) hx hb hr (fun t ht hW => ⟨4, rfl, by first | (simp only [mKind, if_neg c_2, if_neg c_4, if_pos c_6, if_neg c_12, bI_t, bI_f]; done) | (simp only [mKind, if_neg c_2, if_neg c_4, if_pos c_6, if_neg c_12, bI_t, bI_f]; rfl), ht⟩) hS.2.2 dX1_kind_58
        · have c_12 := bI_n0 c_12
          refine lv_iload_n hx hb dX1_kind_50 rfl (lv_at hl 0 rfl) ?_
          refine lv_bipush (v := 8) hx hb dX1_kind_51 (by decide) ?_
          refine lv_iadd hx hb dX1_kind_53 ?_
          refine lv_topi (fun x_13 ex_13 => ?_)
          obtain rfl : x_13 = 12 := ex_13.trans (by decide)
          refine lv_goto (tgt := 58) hx hb dX1_kind_54 (by decide) ?_
          exact W.iret (v := 12) hx hb hr (fun t ht hW => ⟨12, rfl, by first | (simp only [mKind, if_neg c_2, if_neg c_4, if_pos c_6, if_pos c_12, bI_t, bI_f]; done) | (simp only [mKind, if_neg c_2, if_neg c_4, if_pos c_6, if_pos c_12, bI_t, bI_f]; rfl), ht⟩) hS.2.2 dX1_kind_58
    · have c_4 := bI_n0 c_4
      refine lv_iload_n hx hb dX1_kind_20 rfl (lv_at hl 0 rfl) ?_
      refine lv_iconst (v := 2) hx hb dX1_kind_21 (by decide) ?_
      refine lv_iadd hx hb dX1_kind_22 ?_
      refine lv_topi (fun x_14 ex_14 => ?_)
      obtain rfl : x_14 = 2 := ex_14.trans (by decide)
      refine lv_goto (tgt := 27) hx hb dX1_kind_23 (by decide) ?_
      refine lv_istore_n (lv' := [(2, .int 2), (0, .ref g0), (1, .int v)]) hx hb dX1_kind_27 rfl hl (by decide) rfl (fun ls hl => ?_)
      refine lv_iload_n hx hb dX1_kind_28 rfl (lv_at hl 2 rfl) ?_
      refine vp_callSi (W.runS (As := [.int v]) (rest := []) ⟨hx, hb, hml, hown, hts⟩ (c_X1_isBegin l v) (va_cwS 1 hts gX1_kind_X1_isBegin rfl rfl rfl (by decide +kernel) ⟨Nat.le_of_ble_eq_true rfl, Nat.le_of_ble_eq_true rfl⟩) ⟨fun _ _ _ _ q => q, fun U hU hW => ⟨rfl, trivial⟩⟩ rfl rfl hl.1 rfl (lv_room (Nat.le_of_ble_eq_true rfl)) dX1_kind_29 ⟨Nat.le_of_ble_eq_true rfl, Nat.le_of_ble_eq_true rfl⟩) (fun r_15 er_15 => ?_)
      obtain rfl : r_15 = bI (mBeg v) := er_15
      refine lv_if_eq (tgt := 41) hx hb dX1_kind_32 (by decide) (fun c_16 => ?_) (fun c_16 => ?_)
      · have c_16 := bI_0 c_16
        refine lv_iload_n hx hb dX1_kind_41 rfl (lv_at hl 0 rfl) ?_
        refine lv_istore_n (lv' := [(2, .int 2), (0, .ref g0), (1, .int v)]) hx hb dX1_kind_42 rfl hl (by decide) rfl (fun ls hl => ?_)
        refine lv_iload_n hx hb dX1_kind_43 rfl (lv_at hl 2 rfl) ?_
        refine vp_callSi (W.runS (As := [.int v]) (rest := []) ⟨hx, hb, hml, hown, hts⟩ (c_X1_isPart l v) (va_cwS 1 hts gX1_kind_X1_isPart rfl rfl rfl (by decide +kernel) ⟨Nat.le_of_ble_eq_true rfl, Nat.le_of_ble_eq_true rfl⟩) ⟨fun _ _ _ _ q => q, fun U hU hW => ⟨rfl, trivial⟩⟩ rfl rfl hl.1 rfl (lv_room (Nat.le_of_ble_eq_true rfl)) dX1_kind_44 ⟨Nat.le_of_ble_eq_true rfl, Nat.le_of_ble_eq_true rfl⟩) (fun r_17 er_17 => ?_)
        obtain rfl : r_17 = bI (mPart v) := er_17
        refine lv_if_eq (tgt := 57) hx hb dX1_kind_47 (by decide) (fun c_18 => ?_) (fun c_18 => ?_)
        · have c_18 := bI_0 c_18
          refine lv_iload_n hx hb dX1_kind_57 rfl (lv_at hl 0 rfl) ?_
          exact W.iret (v := 2) hx hb hr (fun t ht hW => ⟨2, rfl, by first | (simp only [mKind, if_neg c_2, if_pos c_4, if_neg c_16, if_neg c_18, bI_t, bI_f]; done) | (simp only [mKind, if_neg c_2, if_pos c_4, if_neg c_16, if_neg c_18, bI_t, bI_f]; rfl), ht⟩) hS.2.2 dX1_kind_58
        · have c_18 := bI_n0 c_18
          refine lv_iload_n hx hb dX1_kind_50 rfl (lv_at hl 0 rfl) ?_
          refine lv_bipush (v := 8) hx hb dX1_kind_51 (by decide) ?_
          refine lv_iadd hx hb dX1_kind_53 ?_
          refine lv_topi (fun x_19 ex_19 => ?_)
          obtain rfl : x_19 = 10 := ex_19.trans (by decide)
          refine lv_goto (tgt := 58) hx hb dX1_kind_54 (by decide) ?_
          exact W.iret (v := 10) hx hb hr (fun t ht hW => ⟨10, rfl, by first | (simp only [mKind, if_neg c_2, if_pos c_4, if_neg c_16, if_pos c_18, bI_t, bI_f]; done) | (simp only [mKind, if_neg c_2, if_pos c_4, if_neg c_16, if_pos c_18, bI_t, bI_f]; rfl), ht⟩) hS.2.2 dX1_kind_58
      · have c_16 := bI_n0 c_16
        refine lv_iload_n hx hb dX1_kind_35 rfl (lv_at hl 0 rfl) ?_
        refine lv_iconst (v := 4) hx hb dX1_kind_36 (by decide) ?_
        refine lv_iadd hx hb dX1_kind_37 ?_
        refine lv_topi (fun x_20 ex_20 => ?_)
        obtain rfl : x_20 = 6 := ex_20.trans (by decide)
        refine lv_goto (tgt := 42) hx hb dX1_kind_38 (by decide) ?_
        refine lv_istore_n (lv' := [(2, .int 6), (0, .ref g0), (1, .int v)]) hx hb dX1_kind_42 rfl hl (by decide) rfl (fun ls hl => ?_)
        refine lv_iload_n hx hb dX1_kind_43 rfl (lv_at hl 2 rfl) ?_
        refine vp_callSi (W.runS (As := [.int v]) (rest := []) ⟨hx, hb, hml, hown, hts⟩ (c_X1_isPart l v) (va_cwS 1 hts gX1_kind_X1_isPart rfl rfl rfl (by decide +kernel) ⟨Nat.le_of_ble_eq_true rfl, Nat.le_of_ble_eq_true rfl⟩) ⟨fun _ _ _ _ q => q, fun U hU hW => ⟨rfl, trivial⟩⟩ rfl rfl hl.1 rfl (lv_room (Nat.le_of_ble_eq_true rfl)) dX1_kind_44 ⟨Nat.le_of_ble_eq_true rfl, Nat.le_of_ble_eq_true rfl⟩) (fun r_21 er_21 => ?_)
        obtain rfl : r_21 = bI (mPart v) := er_21
        refine lv_if_eq (tgt := 57) hx hb dX1_kind_47 (by decide) (fun c_22 => ?_) (fun c_22 => ?_)
        · have c_22 := bI_0 c_22
          refine lv_iload_n hx hb dX1_kind_57 rfl (lv_at hl 0 rfl) ?_
          exact W.iret (v := 6) hx hb hr (fun t ht hW => ⟨6, rfl, by first | (simp only [mKind, if_neg c_2, if_pos c_4, if_pos c_16, if_neg c_22, bI_t, bI_f]; done) | (simp only [mKind, if_neg c_2, if_pos c_4, if_pos c_16, if_neg c_22, bI_t, bI_f]; rfl), ht⟩) hS.2.2 dX1_kind_58
        · have c_22 := bI_n0 c_22
          refine lv_iload_n hx hb dX1_kind_50 rfl (lv_at hl 0 rfl) ?_
          refine lv_bipush (v := 8) hx hb dX1_kind_51 (by decide) ?_
          refine lv_iadd hx hb dX1_kind_53 ?_
          refine lv_topi (fun x_23 ex_23 => ?_)
          obtain rfl : x_23 = 14 := ex_23.trans (by decide)
          refine lv_goto (tgt := 58) hx hb dX1_kind_54 (by decide) ?_
          exact W.iret (v := 14) hx hb hr (fun t ht hW => ⟨14, rfl, by first | (simp only [mKind, if_neg c_2, if_pos c_4, if_pos c_16, if_pos c_22, bI_t, bI_f]; done) | (simp only [mKind, if_neg c_2, if_pos c_4, if_pos c_16, if_pos c_22, bI_t, bI_f]; rfl), ht⟩) hS.2.2 dX1_kind_58
  · have c_2 := bI_n0 c_2
    refine lv_iconst (v := 1) hx hb dX1_kind_7 (by decide) ?_
    refine lv_goto (tgt := 12) hx hb dX1_kind_8 (by decide) ?_
    refine lv_istore_n (lv' := [(2, .int 1), (0, .ref g0), (1, .int v)]) hx hb dX1_kind_12 rfl hl (by decide) rfl (fun ls hl => ?_)
    refine lv_iload_n hx hb dX1_kind_13 rfl (lv_at hl 2 rfl) ?_
    refine vp_callSi (W.runS (As := [.int v]) (rest := []) ⟨hx, hb, hml, hown, hts⟩ (c_X1_isBlank l v) (va_cwS 1 hts gX1_kind_X1_isBlank rfl rfl rfl (by decide +kernel) ⟨Nat.le_of_ble_eq_true rfl, Nat.le_of_ble_eq_true rfl⟩) ⟨fun _ _ _ _ q => q, fun U hU hW => ⟨rfl, trivial⟩⟩ rfl rfl hl.1 rfl (lv_room (Nat.le_of_ble_eq_true rfl)) dX1_kind_14 ⟨Nat.le_of_ble_eq_true rfl, Nat.le_of_ble_eq_true rfl⟩) (fun r_24 er_24 => ?_)
    obtain rfl : r_24 = bI (mBlank v) := er_24
    refine lv_if_eq (tgt := 26) hx hb dX1_kind_17 (by decide) (fun c_25 => ?_) (fun c_25 => ?_)
    · have c_25 := bI_0 c_25
      refine lv_iload_n hx hb dX1_kind_26 rfl (lv_at hl 0 rfl) ?_
      refine lv_istore_n (lv' := [(2, .int 1), (0, .ref g0), (1, .int v)]) hx hb dX1_kind_27 rfl hl (by decide) rfl (fun ls hl => ?_)
      refine lv_iload_n hx hb dX1_kind_28 rfl (lv_at hl 2 rfl) ?_
      refine vp_callSi (W.runS (As := [.int v]) (rest := []) ⟨hx, hb, hml, hown, hts⟩ (c_X1_isBegin l v) (va_cwS 1 hts gX1_kind_X1_isBegin rfl rfl rfl (by decide +kernel) ⟨Nat.le_of_ble_eq_true rfl, Nat.le_of_ble_eq_true rfl⟩) ⟨fun _ _ _ _ q => q, fun U hU hW => ⟨rfl, trivial⟩⟩ rfl rfl hl.1 rfl (lv_room (Nat.le_of_ble_eq_true rfl)) dX1_kind_29 ⟨Nat.le_of_ble_eq_true rfl, Nat.le_of_ble_eq_true rfl⟩) (fun r_26 er_26 => ?_)
      obtain rfl : r_26 = bI (mBeg v) := er_26
      refine lv_if_eq (tgt := 41) hx hb dX1_kind_32 (by decide) (fun c_27 => ?_) (fun c_27 => ?_)
      · have c_27 := bI_0 c_27
        refine lv_iload_n hx hb dX1_kind_41 rfl (lv_at hl 0 rfl) ?_
        refine lv_istore_n (lv' := [(2, .int 1), (0, .ref g0), (1, .int v)]) hx hb dX1_kind_42 rfl hl (by decide) rfl (fun ls hl => ?_)
        refine lv_iload_n hx hb dX1_kind_43 rfl (lv_at hl 2 rfl) ?_
        refine vp_callSi (W.runS (As := [.int v]) (rest := []) ⟨hx, hb, hml, hown, hts⟩ (c_X1_isPart l v) (va_cwS 1 hts gX1_kind_X1_isPart rfl rfl rfl (by decide +kernel) ⟨Nat.le_of_ble_eq_true rfl, Nat.le_of_ble_eq_true rfl⟩) ⟨fun _ _ _ _ q => q, fun U hU hW => ⟨rfl, trivial⟩⟩ rfl rfl hl.1 rfl (lv_room (Nat.le_of_ble_eq_true rfl)) dX1_kind_44 ⟨Nat.le_of_ble_eq_true rfl, Nat.le_of_ble_eq_true rfl⟩) (fun r_28 er_28 => ?_)
        obtain rfl : r_28 = bI (mPart v) := er_28
        refine lv_if_eq (tgt := 57) hx hb dX1_kind_47 (by decide) (fun c_29 => ?_) (fun c_29 => ?_)
        · have c_29 := bI_0 c_29
          refine lv_iload_n hx hb dX1_kind_57 rfl (lv_at hl 0 rfl) ?_
          exact W.iret (v := 1) hx hb hr (fun t ht hW => ⟨1, rfl, by first | (simp only [mKind, if_pos c_2, if_neg c_25, if_neg c_27, if_neg c_29, bI_t, bI_f]; done) | (simp only [mKind, if_pos c_2, if_neg c_25, if_neg c_27, if_neg c_29, bI_t, bI_f]; rfl), ht⟩) hS.2.2 dX1_kind_58
        · have c_29 := bI_n0 c_29
          refine lv_iload_n hx hb dX1_kind_50 rfl (lv_at hl 0 rfl) ?_
          refine lv_bipush (v := 8) hx hb dX1_kind_51 (by decide) ?_
          refine lv_iadd hx hb dX1_kind_53 ?_
          refine lv_topi (fun x_30 ex_30 => ?_)
          obtain rfl : x_30 = 9 := ex_30.trans (by decide)
          refine lv_goto (tgt := 58) hx hb dX1_kind_54 (by decide) ?_
          exact W.iret (v := 9) hx hb hr (fun t ht hW => ⟨9, rfl, by first | (simp only [mKind, if_pos c_2, if_neg c_25, if_neg c_27, if_pos c_29, bI_t, bI_f]; done) | (simp only [mKind, if_pos c_2, if_neg c_25, if_neg c_27, if_pos c_29, bI_t, bI_f]; rfl), ht⟩) hS.2.2 dX1_kind_58
      · have c_27 := bI_n0 c_27
        refine lv_iload_n hx hb dX1_kind_35 rfl (lv_at hl 0 rfl) ?_
        refine lv_iconst (v := 4) hx hb dX1_kind_36 (by decide) ?_
        refine lv_iadd hx hb dX1_kind_37 ?_
        refine lv_topi (fun x_31 ex_31 => ?_)
        obtain rfl : x_31 = 5 := ex_31.trans (by decide)
        refine lv_goto (tgt := 42) hx hb dX1_kind_38 (by decide) ?_
        refine lv_istore_n (lv' := [(2, .int 5), (0, .ref g0), (1, .int v)]) hx hb dX1_kind_42 rfl hl (by decide) rfl (fun ls hl => ?_)
        refine lv_iload_n hx hb dX1_kind_43 rfl (lv_at hl 2 rfl) ?_
        refine vp_callSi (W.runS (As := [.int v]) (rest := []) ⟨hx, hb, hml, hown, hts⟩ (c_X1_isPart l v) (va_cwS 1 hts gX1_kind_X1_isPart rfl rfl rfl (by decide +kernel) ⟨Nat.le_of_ble_eq_true rfl, Nat.le_of_ble_eq_true rfl⟩) ⟨fun _ _ _ _ q => q, fun U hU hW => ⟨rfl, trivial⟩⟩ rfl rfl hl.1 rfl (lv_room (Nat.le_of_ble_eq_true rfl)) dX1_kind_44 ⟨Nat.le_of_ble_eq_true rfl, Nat.le_of_ble_eq_true rfl⟩) (fun r_32 er_32 => ?_)
        obtain rfl : r_32 = bI (mPart v) := er_32
        refine lv_if_eq (tgt := 57) hx hb dX1_kind_47 (by decide) (fun c_33 => ?_) (fun c_33 => ?_)
        · have c_33 := bI_0 c_33
          refine lv_iload_n hx hb dX1_kind_57 rfl (lv_at hl 0 rfl) ?_
          exact W.iret (v := 5) hx hb hr (fun t ht hW => ⟨5, rfl, by first | (simp only [mKind, if_pos c_2, if_neg c_25, if_pos c_27, if_neg c_33, bI_t, bI_f]; done) | (simp only [mKind, if_pos c_2, if_neg c_25, if_pos c_27, if_neg c_33, bI_t, bI_f]; rfl), ht⟩) hS.2.2 dX1_kind_58
        · have c_33 := bI_n0 c_33
          refine lv_iload_n hx hb dX1_kind_50 rfl (lv_at hl 0 rfl) ?_
          refine lv_bipush (v := 8) hx hb dX1_kind_51 (by decide) ?_
          refine lv_iadd hx hb dX1_kind_53 ?_
          refine lv_topi (fun x_34 ex_34 => ?_)
          obtain rfl : x_34 = 13 := ex_34.trans (by decide)
          refine lv_goto (tgt := 58) hx hb dX1_kind_54 (by decide) ?_
          exact W.iret (v := 13) hx hb hr (fun t ht hW => ⟨13, rfl, by first | (simp only [mKind, if_pos c_2, if_neg c_25, if_pos c_27, if_pos c_33, bI_t, bI_f]; done) | (simp only [mKind, if_pos c_2, if_neg c_25, if_pos c_27, if_pos c_33, bI_t, bI_f]; rfl), ht⟩) hS.2.2 dX1_kind_58
    · have c_25 := bI_n0 c_25
      refine lv_iload_n hx hb dX1_kind_20 rfl (lv_at hl 0 rfl) ?_
      refine lv_iconst (v := 2) hx hb dX1_kind_21 (by decide) ?_
      refine lv_iadd hx hb dX1_kind_22 ?_
      refine lv_topi (fun x_35 ex_35 => ?_)
      obtain rfl : x_35 = 3 := ex_35.trans (by decide)
      refine lv_goto (tgt := 27) hx hb dX1_kind_23 (by decide) ?_
      refine lv_istore_n (lv' := [(2, .int 3), (0, .ref g0), (1, .int v)]) hx hb dX1_kind_27 rfl hl (by decide) rfl (fun ls hl => ?_)
      refine lv_iload_n hx hb dX1_kind_28 rfl (lv_at hl 2 rfl) ?_
      refine vp_callSi (W.runS (As := [.int v]) (rest := []) ⟨hx, hb, hml, hown, hts⟩ (c_X1_isBegin l v) (va_cwS 1 hts gX1_kind_X1_isBegin rfl rfl rfl (by decide +kernel) ⟨Nat.le_of_ble_eq_true rfl, Nat.le_of_ble_eq_true rfl⟩) ⟨fun _ _ _ _ q => q, fun U hU hW => ⟨rfl, trivial⟩⟩ rfl rfl hl.1 rfl (lv_room (Nat.le_of_ble_eq_true rfl)) dX1_kind_29 ⟨Nat.le_of_ble_eq_true rfl, Nat.le_of_ble_eq_true rfl⟩) (fun r_36 er_36 => ?_)
      obtain rfl : r_36 = bI (mBeg v) := er_36
      refine lv_if_eq (tgt := 41) hx hb dX1_kind_32 (by decide) (fun c_37 => ?_) (fun c_37 => ?_)
      · have c_37 := bI_0 c_37
        refine lv_iload_n hx hb dX1_kind_41 rfl (lv_at hl 0 rfl) ?_
        refine lv_istore_n (lv' := [(2, .int 3), (0, .ref g0), (1, .int v)]) hx hb dX1_kind_42 rfl hl (by decide) rfl (fun ls hl => ?_)
        refine lv_iload_n hx hb dX1_kind_43 rfl (lv_at hl 2 rfl) ?_
        refine vp_callSi (W.runS (As := [.int v]) (rest := []) ⟨hx, hb, hml, hown, hts⟩ (c_X1_isPart l v) (va_cwS 1 hts gX1_kind_X1_isPart rfl rfl rfl (by decide +kernel) ⟨Nat.le_of_ble_eq_true rfl, Nat.le_of_ble_eq_true rfl⟩) ⟨fun _ _ _ _ q => q, fun U hU hW => ⟨rfl, trivial⟩⟩ rfl rfl hl.1 rfl (lv_room (Nat.le_of_ble_eq_true rfl)) dX1_kind_44 ⟨Nat.le_of_ble_eq_true rfl, Nat.le_of_ble_eq_true rfl⟩) (fun r_38 er_38 => ?_)
        obtain rfl : r_38 = bI (mPart v) := er_38
        refine lv_if_eq (tgt := 57) hx hb dX1_kind_47 (by decide) (fun c_39 => ?_) (fun c_39 => ?_)
        · have c_39 := bI_0 c_39
          refine lv_iload_n hx hb dX1_kind_57 rfl (lv_at hl 0 rfl) ?_
          exact W.iret (v := 3) hx hb hr (fun t ht hW => ⟨3, rfl, by first | (simp only [mKind, if_pos c_2, if_pos c_25, if_neg c_37, if_neg c_39, bI_t, bI_f]; done) | (simp only [mKind, if_pos c_2, if_pos c_25, if_neg c_37, if_neg c_39, bI_t, bI_f]; rfl), ht⟩) hS.2.2 dX1_kind_58
        · have c_39 := bI_n0 c_39
          refine lv_iload_n hx hb dX1_kind_50 rfl (lv_at hl 0 rfl) ?_
          refine lv_bipush (v := 8) hx hb dX1_kind_51 (by decide) ?_
          refine lv_iadd hx hb dX1_kind_53 ?_
          refine lv_topi (fun x_40 ex_40 => ?_)
          obtain rfl : x_40 = 11 := ex_40.trans (by decide)
          refine lv_goto (tgt := 58) hx hb dX1_kind_54 (by decide) ?_
          exact W.iret (v := 11) hx hb hr (fun t ht hW => ⟨11, rfl, by first | (simp only [mKind, if_pos c_2, if_pos c_25, if_neg c_37, if_pos c_39, bI_t, bI_f]; done) | (simp only [mKind, if_pos c_2, if_pos c_25, if_neg c_37, if_pos c_39, bI_t, bI_f]; rfl), ht⟩) hS.2.2 dX1_kind_58
      · have c_37 := bI_n0 c_37
        refine lv_iload_n hx hb dX1_kind_35 rfl (lv_at hl 0 rfl) ?_
        refine lv_iconst (v := 4) hx hb dX1_kind_36 (by decide) ?_
        refine lv_iadd hx hb dX1_kind_37 ?_
        refine lv_topi (fun x_41 ex_41 => ?_)
        obtain rfl : x_41 = 7 := ex_41.trans (by decide)
        refine lv_goto (tgt := 42) hx hb dX1_kind_38 (by decide) ?_
        refine lv_istore_n (lv' := [(2, .int 7), (0, .ref g0), (1, .int v)]) hx hb dX1_kind_42 rfl hl (by decide) rfl (fun ls hl => ?_)
        refine lv_iload_n hx hb dX1_kind_43 rfl (lv_at hl 2 rfl) ?_
        refine vp_callSi (W.runS (As := [.int v]) (rest := []) ⟨hx, hb, hml, hown, hts⟩ (c_X1_isPart l v) (va_cwS 1 hts gX1_kind_X1_isPart rfl rfl rfl (by decide +kernel) ⟨Nat.le_of_ble_eq_true rfl, Nat.le_of_ble_eq_true rfl⟩) ⟨fun _ _ _ _ q => q, fun U hU hW => ⟨rfl, trivial⟩⟩ rfl rfl hl.1 rfl (lv_room (Nat.le_of_ble_eq_true rfl)) dX1_kind_44 ⟨Nat.le_of_ble_eq_true rfl, Nat.le_of_ble_eq_true rfl⟩) (fun r_42 er_42 => ?_)
        obtain rfl : r_42 = bI (mPart v) := er_42
        refine lv_if_eq (tgt := 57) hx hb dX1_kind_47 (by decide) (fun c_43 => ?_) (fun c_43 => ?_)
        · have c_43 := bI_0 c_43
          refine lv_iload_n hx hb dX1_kind_57 rfl (lv_at hl 0 rfl) ?_
          exact W.iret (v := 7) hx hb hr (fun t ht hW => ⟨7, rfl, by first | (simp only [mKind, if_pos c_2, if_pos c_25, if_pos c_37, if_neg c_43, bI_t, bI_f]; done) | (simp only [mKind, if_pos c_2, if_pos c_25, if_pos c_37, if_neg c_43, bI_t, bI_f]; rfl), ht⟩) hS.2.2 dX1_kind_58
        · have c_43 := bI_n0 c_43
          refine lv_iload_n hx hb dX1_kind_50 rfl (lv_at hl 0 rfl) ?_
          refine lv_bipush (v := 8) hx hb dX1_kind_51 (by decide) ?_
          refine lv_iadd hx hb dX1_kind_53 ?_
          refine lv_topi (fun x_44 ex_44 => ?_)
          obtain rfl : x_44 = 15 := ex_44.trans (by decide)
          refine lv_goto (tgt := 58) hx hb dX1_kind_54 (by decide) ?_
          exact W.iret (v := 15) hx hb hr (fun t ht hW => ⟨15, rfl, by first | (simp only [mKind, if_pos c_2, if_pos c_25, if_pos c_37, if_pos c_43, bI_t, bI_f]; done) | (simp only [mKind, if_pos c_2, if_pos c_25, if_pos c_37, if_pos c_43, bI_t, bI_f]; rfl), ht⟩) hS.2.2 dX1_kind_58
set_option maxHeartbeats 4000000 in
set_option maxRecDepth 100000 in
theorem c_X1_place (l : Launch) (dC : Nat → ClassId) (dI : Nat → Nat → Nat) (g0 g1 g2 : Nat) (cA : ClassId) (tb : Nat → Nat) (n : Nat) (kb : Nat → Nat) (ln : Nat) (rd : Bool) (fp : Int32) (st : Nat) (mt bg : Int32)  : Met l yX1_place wsX1_place ({ frames := 0, cells := 0, slots := 0, locals := 0 }) (va_Pc [.ref g0] (fun U => mpre dC dI g0 g1 g2 cA (tb, n, kb, ln, rd, fp, st, mt, bg) U)) (vp_Si (fun r => r = fp)) 0 0 (fun _ => False) := by
  refine Met.ofW (cc := cX1_place) (maxL := 1) (ret := (some .int)) (by decide) rfl ?_
  intro p e s m args below meth c s₁ B hml hv
  obtain ⟨rfl, hP, hK⟩ := hv
  have hx := B.exec
  have hb := B.bytes
  have hr := B.returns
  have hts := atoms_spec (ws := wsX1_place) B.pre
  have hown : s.vm.findClass RX1 = some m.cls := findClass_of_methodNamed B.named
  have hS : va_S (fun _ => False) s.heap s.heap [] := va_S.rf
  have hP : va_P (dC, dI) vwCl [(g0, .inr (1, [.ref g1, .int (nI n), .ref g2, .int (nI ln), .int (bI rd), .int fp, .int (nI st), .int mt, .int bg])), (g1, .inl (cA, 1000, .inl (fun j => nI (tb j)))), (g2, .inl (cA, 1000, .inl (fun j => nI (kb j))))] s.heap := hP
  have hIn : ∀ w ∈ wsX10, w ∈ wsX1_place := by decide +kernel
  have hl := lv_entry ([.ref g0]) (n := 1) (Nat.le_of_ble_eq_true rfl)
  rw [lg_entry_eq]
  generalize (lg_sl ([.ref g0]) ++ List.replicate (1 - (lg_sl ([.ref g0])).length) Slot.unset).toArray = ls at hl ⊢
  have hl : lv_has ls 1 [(0, .ref g0)] := hl
  refine lv_aload_n hx hb dX1_place_0 rfl (lv_at hl 0 rfl) ?_
  refine va_get (D := (dC, dI)) (ci := 1) (v := .int fp) (C := RX1) (T := TX1) (N := 9) hx hb hts hIn hown hK hP 0 rfl rfl 5 (by decide) (hts (.fieldLink RX1 16 RX1 "place" "I") (by decide +kernel)) (fun _ h9 => h9) rfl dX1_place_1 ?_
  exact W.iret (v := fp) hx hb hr (fun t ht hW => ⟨fp, rfl, rfl, ht⟩) hS.2.2 dX1_place_4
