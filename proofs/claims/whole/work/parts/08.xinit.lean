theorem nz_cell (n : Nat) (cA : ClassId) : vp_cell cA (n, .inl (fun _ => 0)) = arrV cA n (fun _ => defaultValue .int) := rfl
set_option maxHeartbeats 4000000 in
set_option maxRecDepth 100000 in
/-- CharDesk() -/
theorem c_X0_init (l : Launch) (dC : Nat → ClassId) (dI : Nat → Nat → Nat) (h0 : Nat) (sz : Nat) : Met l yX0_init wsX0_init ({ frames := 1, cells := 3, slots := 3000, locals := 20 }) (va_Pc [.ref h0] (fun U => U.heap.size = sz ∧ va_P (dC, dI) vwCl [(h0, .inr (0, [.null, .int 0, .null, .null, .int 0, .int 0, .int 0]))] U.heap ∧ va_K (dC, dI) vwCl [] U ∧ va_D (fun _ => True) [(h0, .inr (0, [.null, .int 0, .null, .null, .int 0, .int 0, .int 0]))])) (va_Qv (fun u : XS => u = (fun _ => 0, 0, fun _ => 0, fun _ => 0, 0, -1, -1)) (xatt0 dC dI h0 (va_A [(h0, .inr (0, [.null, .int 0, .null, .null, .int 0, .int 0, .int 0]))] sz)) (va_A [(h0, .inr (0, [.null, .int 0, .null, .null, .int 0, .int 0, .int 0]))] sz)) 3 3000 (va_A [(h0, .inr (0, [.null, .int 0, .null, .null, .int 0, .int 0, .int 0]))] sz) := by
  refine Met.ofW (cc := cX0_init) (maxL := 1) (ret := none) (by decide) rfl ?_
  intro p e s m args below meth c s₁ B hml hv
  obtain ⟨rfl, hsz, hP, hK, hD0⟩ := hv
  have hx := B.exec
  have hb := B.bytes
  have hr := B.returns
  have hts := atoms_spec (ws := wsX0_init) B.pre
  have hown : s.vm.findClass RX0 = some m.cls := findClass_of_methodNamed B.named
  have hin : meth.name = "<init>" := (name_of_methodNamed B.named B.method).1
  subst hsz
  have hD := hD0.self (sz := s.heap.size)
  generalize hAe : va_A [(h0, .inr (0, [.null, .int 0, .null, .null, .int 0, .int 0, .int 0]))] s.heap.size = A at hD ⊢
  have hA : ∀ q : Nat, s.heap.size ≤ q → A q := fun q h => by rw [← hAe]; exact Or.inr h
  have hS : va_S A s.heap s.heap [] := va_S.rf
  have hP : va_P (dC, dI) vwCl [(h0, .inr (0, [.null, .int 0, .null, .null, .int 0, .int 0, .int 0]))] s.heap := hP
  have hD : va_D A [(h0, .inr (0, [.null, .int 0, .null, .null, .int 0, .int 0, .int 0]))] := hD
  have hIn : ∀ w ∈ wsX00, w ∈ wsX0_init := by decide +kernel
  have hl := lv_entry ([.ref h0]) (n := 1) (Nat.le_of_ble_eq_true rfl)
  rw [lg_entry_eq]
  generalize (lg_sl ([.ref h0]) ++ List.replicate (1 - (lg_sl ([.ref h0])).length) Slot.unset).toArray = ls at hl ⊢
  have hl : lv_has ls 1 [(0, .ref h0)] := hl
  refine lv_aload_n hx hb dX0_init_0 rfl (lv_at hl 0 rfl) ?_
  refine W.objInit hx hb hown (hts (.methodLink RX0 1 objectInit) (by decide +kernel)) (hts (.instanceMethod objectInit) (by decide +kernel)) (hts (.code objectInit ⟨#[0xb1]⟩ 1 none) (by decide +kernel)) rfl (by rw [hml]; exact hl.1) rfl dX0_init_1 (Nat.le_of_ble_eq_true rfl) (Nat.le_of_ble_eq_true rfl) ?_
  refine W.eq (g2 := F0 m 4 ls []) rfl ?_
  refine lv_aload_n hx hb dX0_init_4 rfl (lv_at hl 0 rfl) ?_
  refine lv_sipush (v := 1000) hx hb dX0_init_5 (by decide) ?_
  refine va_newa (atype := .int) (ty := .int) (a0 := (1000, .inl (fun _ => 0))) (N' := 1000) hx hb (hts (.arrayClass .int) (by decide +kernel)) rfl hK hP hD hS hA (nz_cell 1000) (by decide) (by decide) (by decide) (Nat.le_of_ble_eq_true rfl) (Nat.le_of_ble_eq_true rfl) dX0_init_8 (fun a_1 cA_1 H hK hP hD hS => ?_)
  have hK : va_K (dC, dI) vwCl [(cA_1, .int)] s := hK
  have hP : va_P (dC, dI) vwCl [(h0, .inr (0, [.null, .int 0, .null, .null, .int 0, .int 0, .int 0])), (a_1, .inl (cA_1, 1000, .inl (fun _ => 0)))] H := hP
  have hD : va_D A [(h0, .inr (0, [.null, .int 0, .null, .null, .int 0, .int 0, .int 0])), (a_1, .inl (cA_1, 1000, .inl (fun _ => 0)))] := hD
  refine va_putF (D := (dC, dI)) (ci := 0) (v := .ref a_1) (ty := (.array .int)) (C := RX0) (T := TX0) (N := 7) hx hb hts hIn tyX0 tyX0_ok nmX0 hown hK hP hD hS 0 rfl rfl 0 (by decide) (hts (.fieldLink RX0 9 RX0 "text" "[I") (by decide +kernel)) (fun _ h9 => h9) rfl hin rfl (by decide +kernel) rfl rfl (Nat.le_of_ble_eq_true rfl) dX0_init_10 (fun H locs hP hD hS => ?_)
  have hP : va_P (dC, dI) vwCl [(h0, .inr (0, [.ref a_1, .int 0, .null, .null, .int 0, .int 0, .int 0])), (a_1, .inl (cA_1, 1000, .inl (fun _ => 0)))] H := hP
  have hD : va_D A [(h0, .inr (0, [.ref a_1, .int 0, .null, .null, .int 0, .int 0, .int 0])), (a_1, .inl (cA_1, 1000, .inl (fun _ => 0)))] := hD
  refine lv_aload_n hx hb dX0_init_13 rfl (lv_at hl 0 rfl) ?_
  refine lv_sipush (v := 1000) hx hb dX0_init_14 (by decide) ?_
  refine va_newa (atype := .int) (ty := .int) (a0 := (1000, .inl (fun _ => 0))) (N' := 1000) hx hb (hts (.arrayClass .int) (by decide +kernel)) rfl hK hP hD hS hA (nz_cell 1000) (by decide) (by decide) (by decide) (Nat.le_of_ble_eq_true rfl) (Nat.le_of_ble_eq_true rfl) dX0_init_17 (fun a_2 cA_2 H hK hP hD hS => ?_)
  have hK : va_K (dC, dI) vwCl [(cA_1, .int), (cA_2, .int)] s := hK
  have hP : va_P (dC, dI) vwCl [(h0, .inr (0, [.ref a_1, .int 0, .null, .null, .int 0, .int 0, .int 0])), (a_1, .inl (cA_1, 1000, .inl (fun _ => 0))), (a_2, .inl (cA_2, 1000, .inl (fun _ => 0)))] H := hP
  have hD : va_D A [(h0, .inr (0, [.ref a_1, .int 0, .null, .null, .int 0, .int 0, .int 0])), (a_1, .inl (cA_1, 1000, .inl (fun _ => 0))), (a_2, .inl (cA_2, 1000, .inl (fun _ => 0)))] := hD
  obtain rfl : cA_1 = cA_2 := va_cAeq hK
  have hK : va_K (dC, dI) vwCl [(cA_1, .int)] s := hK.sub [0] rfl
  have hP : va_P (dC, dI) vwCl [(h0, .inr (0, [.ref a_1, .int 0, .null, .null, .int 0, .int 0, .int 0])), (a_1, .inl (cA_1, 1000, .inl (fun _ => 0))), (a_2, .inl (cA_1, 1000, .inl (fun _ => 0)))] H := hP
  have hD : va_D A [(h0, .inr (0, [.ref a_1, .int 0, .null, .null, .int 0, .int 0, .int 0])), (a_1, .inl (cA_1, 1000, .inl (fun _ => 0))), (a_2, .inl (cA_1, 1000, .inl (fun _ => 0)))] := hD
  refine va_putF (D := (dC, dI)) (ci := 0) (v := .ref a_2) (ty := (.array .int)) (C := RX0) (T := TX0) (N := 7) hx hb hts hIn tyX0 tyX0_ok nmX0 hown hK hP hD hS 0 rfl rfl 2 (by decide) (hts (.fieldLink RX0 13 RX0 "characters" "[I") (by decide +kernel)) (fun _ h9 => h9) rfl hin rfl (by decide +kernel) rfl rfl (Nat.le_of_ble_eq_true rfl) dX0_init_19 (fun H locs hP hD hS => ?_)
  have hP : va_P (dC, dI) vwCl [(h0, .inr (0, [.ref a_1, .int 0, .ref a_2, .null, .int 0, .int 0, .int 0])), (a_1, .inl (cA_1, 1000, .inl (fun _ => 0))), (a_2, .inl (cA_1, 1000, .inl (fun _ => 0)))] H := hP
  have hD : va_D A [(h0, .inr (0, [.ref a_1, .int 0, .ref a_2, .null, .int 0, .int 0, .int 0])), (a_1, .inl (cA_1, 1000, .inl (fun _ => 0))), (a_2, .inl (cA_1, 1000, .inl (fun _ => 0)))] := hD
  refine lv_aload_n hx hb dX0_init_22 rfl (lv_at hl 0 rfl) ?_
  refine lv_sipush (v := 1000) hx hb dX0_init_23 (by decide) ?_
  refine va_newa (atype := .int) (ty := .int) (a0 := (1000, .inl (fun _ => 0))) (N' := 1000) hx hb (hts (.arrayClass .int) (by decide +kernel)) rfl hK hP hD hS hA (nz_cell 1000) (by decide) (by decide) (by decide) (Nat.le_of_ble_eq_true rfl) (Nat.le_of_ble_eq_true rfl) dX0_init_26 (fun a_3 cA_3 H hK hP hD hS => ?_)
  have hK : va_K (dC, dI) vwCl [(cA_1, .int), (cA_3, .int)] s := hK
  have hP : va_P (dC, dI) vwCl [(h0, .inr (0, [.ref a_1, .int 0, .ref a_2, .null, .int 0, .int 0, .int 0])), (a_1, .inl (cA_1, 1000, .inl (fun _ => 0))), (a_2, .inl (cA_1, 1000, .inl (fun _ => 0))), (a_3, .inl (cA_3, 1000, .inl (fun _ => 0)))] H := hP
  have hD : va_D A [(h0, .inr (0, [.ref a_1, .int 0, .ref a_2, .null, .int 0, .int 0, .int 0])), (a_1, .inl (cA_1, 1000, .inl (fun _ => 0))), (a_2, .inl (cA_1, 1000, .inl (fun _ => 0))), (a_3, .inl (cA_3, 1000, .inl (fun _ => 0)))] := hD
  obtain rfl : cA_1 = cA_3 := va_cAeq hK
  have hK : va_K (dC, dI) vwCl [(cA_1, .int)] s := hK.sub [0] rfl
  have hP : va_P (dC, dI) vwCl [(h0, .inr (0, [.ref a_1, .int 0, .ref a_2, .null, .int 0, .int 0, .int 0])), (a_1, .inl (cA_1, 1000, .inl (fun _ => 0))), (a_2, .inl (cA_1, 1000, .inl (fun _ => 0))), (a_3, .inl (cA_1, 1000, .inl (fun _ => 0)))] H := hP
  have hD : va_D A [(h0, .inr (0, [.ref a_1, .int 0, .ref a_2, .null, .int 0, .int 0, .int 0])), (a_1, .inl (cA_1, 1000, .inl (fun _ => 0))), (a_2, .inl (cA_1, 1000, .inl (fun _ => 0))), (a_3, .inl (cA_1, 1000, .inl (fun _ => 0)))] := hD
  refine va_putF (D := (dC, dI)) (ci := 0) (v := .ref a_3) (ty := (.array .int)) (C := RX0) (T := TX0) (N := 7) hx hb hts hIn tyX0 tyX0_ok nmX0 hown hK hP hD hS 0 rfl rfl 3 (by decide) (hts (.fieldLink RX0 16 RX0 "places" "[I") (by decide +kernel)) (fun _ h9 => h9) rfl hin rfl (by decide +kernel) rfl rfl (Nat.le_of_ble_eq_true rfl) dX0_init_28 (fun H locs hP hD hS => ?_)
  have hP : va_P (dC, dI) vwCl [(h0, .inr (0, [.ref a_1, .int 0, .ref a_2, .ref a_3, .int 0, .int 0, .int 0])), (a_1, .inl (cA_1, 1000, .inl (fun _ => 0))), (a_2, .inl (cA_1, 1000, .inl (fun _ => 0))), (a_3, .inl (cA_1, 1000, .inl (fun _ => 0)))] H := hP
  have hD : va_D A [(h0, .inr (0, [.ref a_1, .int 0, .ref a_2, .ref a_3, .int 0, .int 0, .int 0])), (a_1, .inl (cA_1, 1000, .inl (fun _ => 0))), (a_2, .inl (cA_1, 1000, .inl (fun _ => 0))), (a_3, .inl (cA_1, 1000, .inl (fun _ => 0)))] := hD
  refine lv_aload_n hx hb dX0_init_31 rfl (lv_at hl 0 rfl) ?_
  refine lv_iconst (v := 0) hx hb dX0_init_32 (by decide) ?_
  refine va_put (D := (dC, dI)) (ci := 0) (v := .int 0) (ty := .int) (C := RX0) (T := TX0) (N := 7) hx hb hts hIn tyX0 tyX0_ok nmX0 hown hK hP hD hS 0 rfl rfl 1 (by decide) (hts (.fieldLink RX0 19 RX0 "textLength" "I") (by decide +kernel)) (fun _ h9 => h9) rfl (by decide +kernel) rfl rfl (Nat.le_of_ble_eq_true rfl) dX0_init_33 (fun H locs hP hD hS => ?_)
  have hP : va_P (dC, dI) vwCl [(h0, .inr (0, [.ref a_1, .int 0, .ref a_2, .ref a_3, .int 0, .int 0, .int 0])), (a_1, .inl (cA_1, 1000, .inl (fun _ => 0))), (a_2, .inl (cA_1, 1000, .inl (fun _ => 0))), (a_3, .inl (cA_1, 1000, .inl (fun _ => 0)))] H := hP
  have hD : va_D A [(h0, .inr (0, [.ref a_1, .int 0, .ref a_2, .ref a_3, .int 0, .int 0, .int 0])), (a_1, .inl (cA_1, 1000, .inl (fun _ => 0))), (a_2, .inl (cA_1, 1000, .inl (fun _ => 0))), (a_3, .inl (cA_1, 1000, .inl (fun _ => 0)))] := hD
  refine lv_aload_n hx hb dX0_init_36 rfl (lv_at hl 0 rfl) ?_
  refine lv_iconst (v := 0) hx hb dX0_init_37 (by decide) ?_
  refine va_put (D := (dC, dI)) (ci := 0) (v := .int 0) (ty := .int) (C := RX0) (T := TX0) (N := 7) hx hb hts hIn tyX0 tyX0_ok nmX0 hown hK hP hD hS 0 rfl rfl 4 (by decide) (hts (.fieldLink RX0 23 RX0 "count" "I") (by decide +kernel)) (fun _ h9 => h9) rfl (by decide +kernel) rfl rfl (Nat.le_of_ble_eq_true rfl) dX0_init_38 (fun H locs hP hD hS => ?_)
  have hP : va_P (dC, dI) vwCl [(h0, .inr (0, [.ref a_1, .int 0, .ref a_2, .ref a_3, .int 0, .int 0, .int 0])), (a_1, .inl (cA_1, 1000, .inl (fun _ => 0))), (a_2, .inl (cA_1, 1000, .inl (fun _ => 0))), (a_3, .inl (cA_1, 1000, .inl (fun _ => 0)))] H := hP
  have hD : va_D A [(h0, .inr (0, [.ref a_1, .int 0, .ref a_2, .ref a_3, .int 0, .int 0, .int 0])), (a_1, .inl (cA_1, 1000, .inl (fun _ => 0))), (a_2, .inl (cA_1, 1000, .inl (fun _ => 0))), (a_3, .inl (cA_1, 1000, .inl (fun _ => 0)))] := hD
  refine lv_aload_n hx hb dX0_init_41 rfl (lv_at hl 0 rfl) ?_
  refine lv_iconst (v := -1) hx hb dX0_init_42 (by decide) ?_
  refine va_put (D := (dC, dI)) (ci := 0) (v := .int (-1)) (ty := .int) (C := RX0) (T := TX0) (N := 7) hx hb hts hIn tyX0 tyX0_ok nmX0 hown hK hP hD hS 0 rfl rfl 5 (by decide) (hts (.fieldLink RX0 26 RX0 "readLength" "I") (by decide +kernel)) (fun _ h9 => h9) rfl (by decide +kernel) rfl rfl (Nat.le_of_ble_eq_true rfl) dX0_init_43 (fun H locs hP hD hS => ?_)
  have hP : va_P (dC, dI) vwCl [(h0, .inr (0, [.ref a_1, .int 0, .ref a_2, .ref a_3, .int 0, .int (-1), .int 0])), (a_1, .inl (cA_1, 1000, .inl (fun _ => 0))), (a_2, .inl (cA_1, 1000, .inl (fun _ => 0))), (a_3, .inl (cA_1, 1000, .inl (fun _ => 0)))] H := hP
  have hD : va_D A [(h0, .inr (0, [.ref a_1, .int 0, .ref a_2, .ref a_3, .int 0, .int (-1), .int 0])), (a_1, .inl (cA_1, 1000, .inl (fun _ => 0))), (a_2, .inl (cA_1, 1000, .inl (fun _ => 0))), (a_3, .inl (cA_1, 1000, .inl (fun _ => 0)))] := hD
  refine lv_aload_n hx hb dX0_init_46 rfl (lv_at hl 0 rfl) ?_
  refine lv_iconst (v := -1) hx hb dX0_init_47 (by decide) ?_
  refine va_put (D := (dC, dI)) (ci := 0) (v := .int (-1)) (ty := .int) (C := RX0) (T := TX0) (N := 7) hx hb hts hIn tyX0 tyX0_ok nmX0 hown hK hP hD hS 0 rfl rfl 6 (by decide) (hts (.fieldLink RX0 29 RX0 "faultPlace" "I") (by decide +kernel)) (fun _ h9 => h9) rfl (by decide +kernel) rfl rfl (Nat.le_of_ble_eq_true rfl) dX0_init_48 (fun H locs hP hD hS => ?_)
  have hP : va_P (dC, dI) vwCl [(h0, .inr (0, [.ref a_1, .int 0, .ref a_2, .ref a_3, .int 0, .int (-1), .int (-1)])), (a_1, .inl (cA_1, 1000, .inl (fun _ => 0))), (a_2, .inl (cA_1, 1000, .inl (fun _ => 0))), (a_3, .inl (cA_1, 1000, .inl (fun _ => 0)))] H := hP
  have hD : va_D A [(h0, .inr (0, [.ref a_1, .int 0, .ref a_2, .ref a_3, .int 0, .int (-1), .int (-1)])), (a_1, .inl (cA_1, 1000, .inl (fun _ => 0))), (a_2, .inl (cA_1, 1000, .inl (fun _ => 0))), (a_3, .inl (cA_1, 1000, .inl (fun _ => 0)))] := hD
  have hP9 : va_P (dC, dI) vwCl (xw h0 a_1 a_2 a_3 cA_1 ((fun _ => 0), 0, (fun _ => 0), (fun _ => 0), 0, (-1), (-1))) H := hP
  have hD9 : va_D A (xw h0 a_1 a_2 a_3 cA_1 ((fun _ => 0), 0, (fun _ => 0), (fun _ => 0), 0, (-1), (-1))) := hD
  refine W.widen (k := 3) (n := 3000) (Nat.le_of_ble_eq_true rfl) (Nat.le_of_ble_eq_true rfl) ?_
  exact W.vret hx hb hr (fun t ht hW => ⟨⟨((fun _ => 0), 0, (fun _ => 0), (fun _ => 0), 0, (-1), (-1)), rfl, rfl, a_1, a_2, a_3, cA_1, by rw [ht]; exact hP9, va_K.moved hW.alike hK, hD9⟩, hS.F ht⟩) hS.2.2 dX0_init_51
