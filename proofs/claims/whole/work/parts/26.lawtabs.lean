def Rel (tx : Nat → Int32) (n : Nat) (ch pl : Nat → Int32) (k : Nat) (rl : Int32) (rd : Bool) (tb kb : Nat → Nat) (ln : Nat) (mf bf sg : Nat → Nat) : Prop :=
  n ≤ 1000 ∧ (∀ j, j < n → tx j = nI (tb j)) ∧ (∀ j, tb j < 256) ∧ (∀ j, kb j < 256) ∧ ln ≤ 1000 ∧ k ≤ 1000 ∧ (rd = true → Chain kb ln k mf bf sg) ∧ (∀ j, j < k → ch j = nI (mf j)) ∧ (∀ j, j < k → pl j = nI (bf j)) ∧ (rd = true → rl = nI ln) ∧ (rd = false → k = 0) ∧ (rd = false → rl = -1)
theorem lcmp_self (x : Int64) : lg_cmp x x = 0 := by
  rw [lg_cmp, if_neg (show ¬ x > x from Int64.lt_irrefl), if_pos rfl]
set_option maxHeartbeats 4000000 in
set_option maxRecDepth 100000 in
theorem law_tabs {s : State} {b : Nat} (hts : ∀ w ∈ lw_tbl, w.before #[Value.ref b] s = true) (hgv : (Jvm.Cond.and given_1 narrow_1).before #[Value.ref b] s = true) : ∃ t0 t1 t2 t3 : Nat, xtab t0 t1 t2 t3 (fun q : Nat => s.heap.size ≤ q) s s.heap := by
  have hf := flat_of_before _ hgv
  have hA : ∀ a : Nat, a < s.heap.size → ¬ (fun q : Nat => s.heap.size ≤ q) a := fun a h => Nat.not_le.mpr h
  have ha_t0 : (Cond.arrayOf (Term.static "CharDesk" "ALLOWED" "[I") .int).before #[Value.ref b] s = true := hf _ (by decide +kernel)
  have hl_t0 : (Term.length (Term.static "CharDesk" "ALLOWED" "[I")).eval #[Value.ref b] s none [] s = some (.int 10) := va_eqt (hf (Cond.eq (.length (Term.static "CharDesk" "ALLOWED" "[I")) (.int 10)) (by decide +kernel))
  have he_t0 : ∀ j : Nat, j < 10 → (Term.elem (Term.static "CharDesk" "ALLOWED" "[I") (.int (Int32.ofNat j))).eval #[Value.ref b] s none [] s = some (.int (fAL j)) := by
    intro j hj
    rcases (show j = 0 ∨ j = 1 ∨ j = 2 ∨ j = 3 ∨ j = 4 ∨ j = 5 ∨ j = 6 ∨ j = 7 ∨ j = 8 ∨ j = 9 by omega) with rfl | rfl | rfl | rfl | rfl | rfl | rfl | rfl | rfl | rfl
    · exact va_eqt (hf (Cond.eq (.elem (Term.static "CharDesk" "ALLOWED" "[I") (.int 0)) (.int 9)) (by decide +kernel))
    · exact va_eqt (hf (Cond.eq (.elem (Term.static "CharDesk" "ALLOWED" "[I") (.int 1)) (.int 10)) (by decide +kernel))
    · exact va_eqt (hf (Cond.eq (.elem (Term.static "CharDesk" "ALLOWED" "[I") (.int 2)) (.int 13)) (by decide +kernel))
    · exact va_eqt (hf (Cond.eq (.elem (Term.static "CharDesk" "ALLOWED" "[I") (.int 3)) (.int 13)) (by decide +kernel))
    · exact va_eqt (hf (Cond.eq (.elem (Term.static "CharDesk" "ALLOWED" "[I") (.int 4)) (.int 32)) (by decide +kernel))
    · exact va_eqt (hf (Cond.eq (.elem (Term.static "CharDesk" "ALLOWED" "[I") (.int 5)) (.int 55295)) (by decide +kernel))
    · exact va_eqt (hf (Cond.eq (.elem (Term.static "CharDesk" "ALLOWED" "[I") (.int 6)) (.int 57344)) (by decide +kernel))
    · exact va_eqt (hf (Cond.eq (.elem (Term.static "CharDesk" "ALLOWED" "[I") (.int 7)) (.int 65533)) (by decide +kernel))
    · exact va_eqt (hf (Cond.eq (.elem (Term.static "CharDesk" "ALLOWED" "[I") (.int 8)) (.int 65536)) (by decide +kernel))
    · exact va_eqt (hf (Cond.eq (.elem (Term.static "CharDesk" "ALLOWED" "[I") (.int 9)) (.int 1114111)) (by decide +kernel))
  obtain ⟨t0, e_t0, hT_t0⟩ := va_Tof (N := 10) (f := fun j => .int (fAL j)) (A := fun q : Nat => s.heap.size ≤ q) (by decide) ha_t0 hl_t0 he_t0 hA
  have hZ_t0 := va_Zref (A := fun q : Nat => s.heap.size ≤ q) (hts (.laysStatic RX0 "ALLOWED" "[I") (by decide +kernel)) (hts (.initialized RX0) (by decide +kernel)) e_t0 hA
  have ha_t1 : (Cond.arrayOf (Term.static "CharDesk" "BLANKS" "[I") .int).before #[Value.ref b] s = true := hf _ (by decide +kernel)
  have hl_t1 : (Term.length (Term.static "CharDesk" "BLANKS" "[I")).eval #[Value.ref b] s none [] s = some (.int 6) := va_eqt (hf (Cond.eq (.length (Term.static "CharDesk" "BLANKS" "[I")) (.int 6)) (by decide +kernel))
  have he_t1 : ∀ j : Nat, j < 6 → (Term.elem (Term.static "CharDesk" "BLANKS" "[I") (.int (Int32.ofNat j))).eval #[Value.ref b] s none [] s = some (.int (fBL j)) := by
    intro j hj
    rcases (show j = 0 ∨ j = 1 ∨ j = 2 ∨ j = 3 ∨ j = 4 ∨ j = 5 by omega) with rfl | rfl | rfl | rfl | rfl | rfl
    · exact va_eqt (hf (Cond.eq (.elem (Term.static "CharDesk" "BLANKS" "[I") (.int 0)) (.int 32)) (by decide +kernel))
    · exact va_eqt (hf (Cond.eq (.elem (Term.static "CharDesk" "BLANKS" "[I") (.int 1)) (.int 32)) (by decide +kernel))
    · exact va_eqt (hf (Cond.eq (.elem (Term.static "CharDesk" "BLANKS" "[I") (.int 2)) (.int 9)) (by decide +kernel))
    · exact va_eqt (hf (Cond.eq (.elem (Term.static "CharDesk" "BLANKS" "[I") (.int 3)) (.int 10)) (by decide +kernel))
    · exact va_eqt (hf (Cond.eq (.elem (Term.static "CharDesk" "BLANKS" "[I") (.int 4)) (.int 13)) (by decide +kernel))
    · exact va_eqt (hf (Cond.eq (.elem (Term.static "CharDesk" "BLANKS" "[I") (.int 5)) (.int 13)) (by decide +kernel))
  obtain ⟨t1, e_t1, hT_t1⟩ := va_Tof (N := 6) (f := fun j => .int (fBL j)) (A := fun q : Nat => s.heap.size ≤ q) (by decide) ha_t1 hl_t1 he_t1 hA
  have hZ_t1 := va_Zref (A := fun q : Nat => s.heap.size ≤ q) (hts (.laysStatic RX0 "BLANKS" "[I") (by decide +kernel)) (hts (.initialized RX0) (by decide +kernel)) e_t1 hA
  have ha_t2 : (Cond.arrayOf (Term.static "CharDesk" "NAME_BEGINS" "[I") .int).before #[Value.ref b] s = true := hf _ (by decide +kernel)
  have hl_t2 : (Term.length (Term.static "CharDesk" "NAME_BEGINS" "[I")).eval #[Value.ref b] s none [] s = some (.int 32) := va_eqt (hf (Cond.eq (.length (Term.static "CharDesk" "NAME_BEGINS" "[I")) (.int 32)) (by decide +kernel))
  have he_t2 : ∀ j : Nat, j < 32 → (Term.elem (Term.static "CharDesk" "NAME_BEGINS" "[I") (.int (Int32.ofNat j))).eval #[Value.ref b] s none [] s = some (.int (fNB j)) := by
    intro j hj
    rcases (show j = 0 ∨ j = 1 ∨ j = 2 ∨ j = 3 ∨ j = 4 ∨ j = 5 ∨ j = 6 ∨ j = 7 ∨ j = 8 ∨ j = 9 ∨ j = 10 ∨ j = 11 ∨ j = 12 ∨ j = 13 ∨ j = 14 ∨ j = 15 ∨ j = 16 ∨ j = 17 ∨ j = 18 ∨ j = 19 ∨ j = 20 ∨ j = 21 ∨ j = 22 ∨ j = 23 ∨ j = 24 ∨ j = 25 ∨ j = 26 ∨ j = 27 ∨ j = 28 ∨ j = 29 ∨ j = 30 ∨ j = 31 by omega) with rfl | rfl | rfl | rfl | rfl | rfl | rfl | rfl | rfl | rfl | rfl | rfl | rfl | rfl | rfl | rfl | rfl | rfl | rfl | rfl | rfl | rfl | rfl | rfl | rfl | rfl | rfl | rfl | rfl | rfl | rfl | rfl
    · exact va_eqt (hf (Cond.eq (.elem (Term.static "CharDesk" "NAME_BEGINS" "[I") (.int 0)) (.int 58)) (by decide +kernel))
    · exact va_eqt (hf (Cond.eq (.elem (Term.static "CharDesk" "NAME_BEGINS" "[I") (.int 1)) (.int 58)) (by decide +kernel))
    · exact va_eqt (hf (Cond.eq (.elem (Term.static "CharDesk" "NAME_BEGINS" "[I") (.int 2)) (.int 95)) (by decide +kernel))
    · exact va_eqt (hf (Cond.eq (.elem (Term.static "CharDesk" "NAME_BEGINS" "[I") (.int 3)) (.int 95)) (by decide +kernel))
    · exact va_eqt (hf (Cond.eq (.elem (Term.static "CharDesk" "NAME_BEGINS" "[I") (.int 4)) (.int 65)) (by decide +kernel))
    · exact va_eqt (hf (Cond.eq (.elem (Term.static "CharDesk" "NAME_BEGINS" "[I") (.int 5)) (.int 90)) (by decide +kernel))
    · exact va_eqt (hf (Cond.eq (.elem (Term.static "CharDesk" "NAME_BEGINS" "[I") (.int 6)) (.int 97)) (by decide +kernel))
    · exact va_eqt (hf (Cond.eq (.elem (Term.static "CharDesk" "NAME_BEGINS" "[I") (.int 7)) (.int 122)) (by decide +kernel))
    · exact va_eqt (hf (Cond.eq (.elem (Term.static "CharDesk" "NAME_BEGINS" "[I") (.int 8)) (.int 192)) (by decide +kernel))
    · exact va_eqt (hf (Cond.eq (.elem (Term.static "CharDesk" "NAME_BEGINS" "[I") (.int 9)) (.int 214)) (by decide +kernel))
    · exact va_eqt (hf (Cond.eq (.elem (Term.static "CharDesk" "NAME_BEGINS" "[I") (.int 10)) (.int 216)) (by decide +kernel))
    · exact va_eqt (hf (Cond.eq (.elem (Term.static "CharDesk" "NAME_BEGINS" "[I") (.int 11)) (.int 246)) (by decide +kernel))
    · exact va_eqt (hf (Cond.eq (.elem (Term.static "CharDesk" "NAME_BEGINS" "[I") (.int 12)) (.int 248)) (by decide +kernel))
    · exact va_eqt (hf (Cond.eq (.elem (Term.static "CharDesk" "NAME_BEGINS" "[I") (.int 13)) (.int 767)) (by decide +kernel))
    · exact va_eqt (hf (Cond.eq (.elem (Term.static "CharDesk" "NAME_BEGINS" "[I") (.int 14)) (.int 880)) (by decide +kernel))
    · exact va_eqt (hf (Cond.eq (.elem (Term.static "CharDesk" "NAME_BEGINS" "[I") (.int 15)) (.int 893)) (by decide +kernel))
    · exact va_eqt (hf (Cond.eq (.elem (Term.static "CharDesk" "NAME_BEGINS" "[I") (.int 16)) (.int 895)) (by decide +kernel))
    · exact va_eqt (hf (Cond.eq (.elem (Term.static "CharDesk" "NAME_BEGINS" "[I") (.int 17)) (.int 8191)) (by decide +kernel))
    · exact va_eqt (hf (Cond.eq (.elem (Term.static "CharDesk" "NAME_BEGINS" "[I") (.int 18)) (.int 8204)) (by decide +kernel))
    · exact va_eqt (hf (Cond.eq (.elem (Term.static "CharDesk" "NAME_BEGINS" "[I") (.int 19)) (.int 8205)) (by decide +kernel))
    · exact va_eqt (hf (Cond.eq (.elem (Term.static "CharDesk" "NAME_BEGINS" "[I") (.int 20)) (.int 8304)) (by decide +kernel))
    · exact va_eqt (hf (Cond.eq (.elem (Term.static "CharDesk" "NAME_BEGINS" "[I") (.int 21)) (.int 8591)) (by decide +kernel))
    · exact va_eqt (hf (Cond.eq (.elem (Term.static "CharDesk" "NAME_BEGINS" "[I") (.int 22)) (.int 11264)) (by decide +kernel))
    · exact va_eqt (hf (Cond.eq (.elem (Term.static "CharDesk" "NAME_BEGINS" "[I") (.int 23)) (.int 12271)) (by decide +kernel))
    · exact va_eqt (hf (Cond.eq (.elem (Term.static "CharDesk" "NAME_BEGINS" "[I") (.int 24)) (.int 12289)) (by decide +kernel))
    · exact va_eqt (hf (Cond.eq (.elem (Term.static "CharDesk" "NAME_BEGINS" "[I") (.int 25)) (.int 55295)) (by decide +kernel))
    · exact va_eqt (hf (Cond.eq (.elem (Term.static "CharDesk" "NAME_BEGINS" "[I") (.int 26)) (.int 63744)) (by decide +kernel))
    · exact va_eqt (hf (Cond.eq (.elem (Term.static "CharDesk" "NAME_BEGINS" "[I") (.int 27)) (.int 64975)) (by decide +kernel))
    · exact va_eqt (hf (Cond.eq (.elem (Term.static "CharDesk" "NAME_BEGINS" "[I") (.int 28)) (.int 65008)) (by decide +kernel))
    · exact va_eqt (hf (Cond.eq (.elem (Term.static "CharDesk" "NAME_BEGINS" "[I") (.int 29)) (.int 65533)) (by decide +kernel))
    · exact va_eqt (hf (Cond.eq (.elem (Term.static "CharDesk" "NAME_BEGINS" "[I") (.int 30)) (.int 65536)) (by decide +kernel))
    · exact va_eqt (hf (Cond.eq (.elem (Term.static "CharDesk" "NAME_BEGINS" "[I") (.int 31)) (.int 983039)) (by decide +kernel))
  obtain ⟨t2, e_t2, hT_t2⟩ := va_Tof (N := 32) (f := fun j => .int (fNB j)) (A := fun q : Nat => s.heap.size ≤ q) (by decide) ha_t2 hl_t2 he_t2 hA
  have hZ_t2 := va_Zref (A := fun q : Nat => s.heap.size ≤ q) (hts (.laysStatic RX0 "NAME_BEGINS" "[I") (by decide +kernel)) (hts (.initialized RX0) (by decide +kernel)) e_t2 hA
  have ha_t3 : (Cond.arrayOf (Term.static "CharDesk" "FURTHER_NAME_PARTS" "[I") .int).before #[Value.ref b] s = true := hf _ (by decide +kernel)
  have hl_t3 : (Term.length (Term.static "CharDesk" "FURTHER_NAME_PARTS" "[I")).eval #[Value.ref b] s none [] s = some (.int 10) := va_eqt (hf (Cond.eq (.length (Term.static "CharDesk" "FURTHER_NAME_PARTS" "[I")) (.int 10)) (by decide +kernel))
  have he_t3 : ∀ j : Nat, j < 10 → (Term.elem (Term.static "CharDesk" "FURTHER_NAME_PARTS" "[I") (.int (Int32.ofNat j))).eval #[Value.ref b] s none [] s = some (.int (fFN j)) := by
    intro j hj
    rcases (show j = 0 ∨ j = 1 ∨ j = 2 ∨ j = 3 ∨ j = 4 ∨ j = 5 ∨ j = 6 ∨ j = 7 ∨ j = 8 ∨ j = 9 by omega) with rfl | rfl | rfl | rfl | rfl | rfl | rfl | rfl | rfl | rfl
    · exact va_eqt (hf (Cond.eq (.elem (Term.static "CharDesk" "FURTHER_NAME_PARTS" "[I") (.int 0)) (.int 45)) (by decide +kernel))
    · exact va_eqt (hf (Cond.eq (.elem (Term.static "CharDesk" "FURTHER_NAME_PARTS" "[I") (.int 1)) (.int 46)) (by decide +kernel))
    · exact va_eqt (hf (Cond.eq (.elem (Term.static "CharDesk" "FURTHER_NAME_PARTS" "[I") (.int 2)) (.int 48)) (by decide +kernel))
    · exact va_eqt (hf (Cond.eq (.elem (Term.static "CharDesk" "FURTHER_NAME_PARTS" "[I") (.int 3)) (.int 57)) (by decide +kernel))
    · exact va_eqt (hf (Cond.eq (.elem (Term.static "CharDesk" "FURTHER_NAME_PARTS" "[I") (.int 4)) (.int 183)) (by decide +kernel))
    · exact va_eqt (hf (Cond.eq (.elem (Term.static "CharDesk" "FURTHER_NAME_PARTS" "[I") (.int 5)) (.int 183)) (by decide +kernel))
    · exact va_eqt (hf (Cond.eq (.elem (Term.static "CharDesk" "FURTHER_NAME_PARTS" "[I") (.int 6)) (.int 768)) (by decide +kernel))
    · exact va_eqt (hf (Cond.eq (.elem (Term.static "CharDesk" "FURTHER_NAME_PARTS" "[I") (.int 7)) (.int 879)) (by decide +kernel))
    · exact va_eqt (hf (Cond.eq (.elem (Term.static "CharDesk" "FURTHER_NAME_PARTS" "[I") (.int 8)) (.int 8255)) (by decide +kernel))
    · exact va_eqt (hf (Cond.eq (.elem (Term.static "CharDesk" "FURTHER_NAME_PARTS" "[I") (.int 9)) (.int 8256)) (by decide +kernel))
  obtain ⟨t3, e_t3, hT_t3⟩ := va_Tof (N := 10) (f := fun j => .int (fFN j)) (A := fun q : Nat => s.heap.size ≤ q) (by decide) ha_t3 hl_t3 he_t3 hA
  have hZ_t3 := va_Zref (A := fun q : Nat => s.heap.size ≤ q) (hts (.laysStatic RX0 "FURTHER_NAME_PARTS" "[I") (by decide +kernel)) (hts (.initialized RX0) (by decide +kernel)) e_t3 hA
  exact ⟨t0, t1, t2, t3, hZ_t0, hT_t0, hZ_t1, hT_t1, hZ_t2, hT_t2, hZ_t3, hT_t3⟩
