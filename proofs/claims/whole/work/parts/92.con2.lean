/-! 92: constructors: contracts -/
def fr0 : List Value := [.null, .null, .null, .null, .int 0, .int 0]
def fr1 : List Value := [.null, .null, .null, .null, .null, .int 0]
def fr2 : List Value := [.null, .null, .null, .int 0, .int 0, .int 0]
def fr3 : List Value := [.null, .null, .null, .null, .null, .null, .int 0, .int 0, .int 0]
def fr4 : List Value := [.null, .int 0, .int 0]
def fr5 : List Value := [.null, .int 0, .int 0, .int 0, .int 0, .int 0]
def fr6 : List Value := [.null, .int 0, .int 0, .int 0]
def fr7 : List Value := [.null, .null, .null, .null, .null, .null, .null, .null, .null, .null, .int 0, .int 0]
def fr8 : List Value := [.null, .null, .null, .int 0, .null, .int 0, .int 0, .null, .null, .int 0, .null, .int 0, .null, .int 0, .int 0, .int 0, .int 0, .null, .int 0, .int 0, .int 0, .int 0, .int 0, .int 0, .int 0, .int 0, .null, .null, .null, .null, .null, .null, .null, .null, .null, .null, .null, .int 0]
theorem fr0_ok : ∀ j, j < 6 → defaultValue (tyX0 j) = vp_V fr0 j
  | 0, _ => rfl
  | 1, _ => rfl
  | 2, _ => rfl
  | 3, _ => rfl
  | 4, _ => rfl
  | 5, _ => rfl
  | j + 6, h => absurd h (by omega)
theorem fr1_ok : ∀ j, j < 6 → defaultValue (tyX1 j) = vp_V fr1 j
  | 0, _ => rfl
  | 1, _ => rfl
  | 2, _ => rfl
  | 3, _ => rfl
  | 4, _ => rfl
  | 5, _ => rfl
  | j + 6, h => absurd h (by omega)
theorem fr2_ok : ∀ j, j < 6 → defaultValue (tyX2 j) = vp_V fr2 j
  | 0, _ => rfl
  | 1, _ => rfl
  | 2, _ => rfl
  | 3, _ => rfl
  | 4, _ => rfl
  | 5, _ => rfl
  | j + 6, h => absurd h (by omega)
theorem fr3_ok : ∀ j, j < 9 → defaultValue (tyX3 j) = vp_V fr3 j
  | 0, _ => rfl
  | 1, _ => rfl
  | 2, _ => rfl
  | 3, _ => rfl
  | 4, _ => rfl
  | 5, _ => rfl
  | 6, _ => rfl
  | 7, _ => rfl
  | 8, _ => rfl
  | j + 9, h => absurd h (by omega)
theorem fr4_ok : ∀ j, j < 3 → defaultValue (tyX4 j) = vp_V fr4 j
  | 0, _ => rfl
  | 1, _ => rfl
  | 2, _ => rfl
  | j + 3, h => absurd h (by omega)
theorem fr5_ok : ∀ j, j < 6 → defaultValue (tyX5 j) = vp_V fr5 j
  | 0, _ => rfl
  | 1, _ => rfl
  | 2, _ => rfl
  | 3, _ => rfl
  | 4, _ => rfl
  | 5, _ => rfl
  | j + 6, h => absurd h (by omega)
theorem fr6_ok : ∀ j, j < 4 → defaultValue (tyX6 j) = vp_V fr6 j
  | 0, _ => rfl
  | 1, _ => rfl
  | 2, _ => rfl
  | 3, _ => rfl
  | j + 4, h => absurd h (by omega)
theorem fr7_ok : ∀ j, j < 12 → defaultValue (tyX7 j) = vp_V fr7 j
  | 0, _ => rfl
  | 1, _ => rfl
  | 2, _ => rfl
  | 3, _ => rfl
  | 4, _ => rfl
  | 5, _ => rfl
  | 6, _ => rfl
  | 7, _ => rfl
  | 8, _ => rfl
  | 9, _ => rfl
  | 10, _ => rfl
  | 11, _ => rfl
  | j + 12, h => absurd h (by omega)
theorem fr8_ok : ∀ j, j < 38 → defaultValue (tyX8 j) = vp_V fr8 j
  | 0, _ => rfl
  | 1, _ => rfl
  | 2, _ => rfl
  | 3, _ => rfl
  | 4, _ => rfl
  | 5, _ => rfl
  | 6, _ => rfl
  | 7, _ => rfl
  | 8, _ => rfl
  | 9, _ => rfl
  | 10, _ => rfl
  | 11, _ => rfl
  | 12, _ => rfl
  | 13, _ => rfl
  | 14, _ => rfl
  | 15, _ => rfl
  | 16, _ => rfl
  | 17, _ => rfl
  | 18, _ => rfl
  | 19, _ => rfl
  | 20, _ => rfl
  | 21, _ => rfl
  | 22, _ => rfl
  | 23, _ => rfl
  | 24, _ => rfl
  | 25, _ => rfl
  | 26, _ => rfl
  | 27, _ => rfl
  | 28, _ => rfl
  | 29, _ => rfl
  | 30, _ => rfl
  | 31, _ => rfl
  | 32, _ => rfl
  | 33, _ => rfl
  | 34, _ => rfl
  | 35, _ => rfl
  | 36, _ => rfl
  | 37, _ => rfl
  | j + 38, h => absurd h (by omega)
def W0 (ca : Nat → ClassId) (h b1 b2 b3 b4 : Nat) : va_W := [(h, .inr (0, [.ref b1, .ref b2, .ref b3, .ref b4, .int (0), .int (0)])), (b1, .inl (ca 0, 24, .inl (fun _ => 0))), (b2, .inl (ca 0, 24, .inl (fun _ => 0))), (b3, .inl (ca 0, 24, .inl (fun _ => 0))), (b4, .inl (ca 0, 24, .inl (fun _ => 0)))]
abbrev nX0_init : MD := (yX0_init, cX0_init, 1, none, { frames := 1, cells := 4, slots := 96, locals := 20 })
theorem con_X0_init {D : va_G} {ca : Nat → ClassId} {h : Nat} {wr : va_W} : Semc nX0_init D ca h (wr ++ [(h, .inr (0, fr0))]) (fun ws => ∃ b1 b2 b3 b4 : Nat, ws = wr ++ W0 ca h b1 b2 b3 b4) := by
  refine Semc_of rfl (Nat.le_of_ble_eq_true rfl) (fun A => ?_)
  refine Bc_aload_0 (pc := 0) dX0_init_0 ?_
  refine Bc_obj (pc := 1) dX0_init_1 k_82 (Nat.le_of_ble_eq_true rfl) (Nat.le_of_ble_eq_true rfl) ?_
  refine Bc_aload_0 (pc := 4) dX0_init_4 ?_
  refine Bc_bipush (v := 24) (pc := 5) dX0_init_5 (by decide) ?_
  refine Bc_newi (N := 24) (pc := 7) dX0_init_7 (by decide) rfl (Nat.le_of_ble_eq_true rfl) (Nat.le_of_ble_eq_true rfl) (Nat.le_of_ble_eq_true rfl) (fun a1 => ?_)
  refine Bc_putF (a := .null) (i := 0) (j := 0) (ty := .array .int) ck0 (pc := 9) dX0_init_9 k_83 rfl (Nat.le_of_ble_eq_true rfl) (Nat.le_of_ble_eq_true rfl) rfl rfl rfl (by decide +kernel) rfl rfl rfl ?_
  refine Bc_aload_0 (pc := 12) dX0_init_12 ?_
  refine Bc_bipush (v := 24) (pc := 13) dX0_init_13 (by decide) ?_
  refine Bc_newi (N := 24) (pc := 15) dX0_init_15 (by decide) rfl (Nat.le_of_ble_eq_true rfl) (Nat.le_of_ble_eq_true rfl) (Nat.le_of_ble_eq_true rfl) (fun a2 => ?_)
  refine Bc_putF (a := .null) (i := 0) (j := 1) (ty := .array .int) ck0 (pc := 17) dX0_init_17 k_85 rfl (Nat.le_of_ble_eq_true rfl) (Nat.le_of_ble_eq_true rfl) rfl rfl rfl (by decide +kernel) rfl rfl rfl ?_
  refine Bc_aload_0 (pc := 20) dX0_init_20 ?_
  refine Bc_bipush (v := 24) (pc := 21) dX0_init_21 (by decide) ?_
  refine Bc_newi (N := 24) (pc := 23) dX0_init_23 (by decide) rfl (Nat.le_of_ble_eq_true rfl) (Nat.le_of_ble_eq_true rfl) (Nat.le_of_ble_eq_true rfl) (fun a3 => ?_)
  refine Bc_putF (a := .null) (i := 0) (j := 2) (ty := .array .int) ck0 (pc := 25) dX0_init_25 k_87 rfl (Nat.le_of_ble_eq_true rfl) (Nat.le_of_ble_eq_true rfl) rfl rfl rfl (by decide +kernel) rfl rfl rfl ?_
  refine Bc_aload_0 (pc := 28) dX0_init_28 ?_
  refine Bc_bipush (v := 24) (pc := 29) dX0_init_29 (by decide) ?_
  refine Bc_newi (N := 24) (pc := 31) dX0_init_31 (by decide) rfl (Nat.le_of_ble_eq_true rfl) (Nat.le_of_ble_eq_true rfl) (Nat.le_of_ble_eq_true rfl) (fun a4 => ?_)
  refine Bc_putF (a := .null) (i := 0) (j := 3) (ty := .array .int) ck0 (pc := 33) dX0_init_33 k_89 rfl (Nat.le_of_ble_eq_true rfl) (Nat.le_of_ble_eq_true rfl) rfl rfl rfl (by decide +kernel) rfl rfl rfl ?_
  refine Bc_ret (pc := 36) dX0_init_36 rfl (Nat.le_of_ble_eq_true rfl) (Nat.le_of_ble_eq_true rfl) ?_
  exact ⟨a1, a2, a3, a4, rfl⟩
def W1 (ca : Nat → ClassId) (h b1 b2 b3 b4 b5 : Nat) : va_W := [(h, .inr (1, [.ref b1, .ref b2, .ref b3, .ref b4, .ref b5, .int (0)])), (b1, .inl (ca 0, 24, .inl (fun _ => 0))), (b2, .inl (ca 0, 24, .inl (fun _ => 0))), (b3, .inl (ca 0, 24, .inl (fun _ => 0))), (b4, .inl (ca 0, 24, .inl (fun _ => 0))), (b5, .inl (ca 0, 24, .inl (fun _ => 0)))]
abbrev nX1_init : MD := (yX1_init, cX1_init, 1, none, { frames := 1, cells := 5, slots := 120, locals := 20 })
theorem con_X1_init {D : va_G} {ca : Nat → ClassId} {h : Nat} {wr : va_W} : Semc nX1_init D ca h (wr ++ [(h, .inr (1, fr1))]) (fun ws => ∃ b1 b2 b3 b4 b5 : Nat, ws = wr ++ W1 ca h b1 b2 b3 b4 b5) := by
  refine Semc_of rfl (Nat.le_of_ble_eq_true rfl) (fun A => ?_)
  refine Bc_aload_0 (pc := 0) dX1_init_0 ?_
  refine Bc_obj (pc := 1) dX1_init_1 k_113 (Nat.le_of_ble_eq_true rfl) (Nat.le_of_ble_eq_true rfl) ?_
  refine Bc_aload_0 (pc := 4) dX1_init_4 ?_
  refine Bc_bipush (v := 24) (pc := 5) dX1_init_5 (by decide) ?_
  refine Bc_newi (N := 24) (pc := 7) dX1_init_7 (by decide) rfl (Nat.le_of_ble_eq_true rfl) (Nat.le_of_ble_eq_true rfl) (Nat.le_of_ble_eq_true rfl) (fun a1 => ?_)
  refine Bc_putF (a := .null) (i := 0) (j := 0) (ty := .array .int) ck1 (pc := 9) dX1_init_9 k_114 rfl (Nat.le_of_ble_eq_true rfl) (Nat.le_of_ble_eq_true rfl) rfl rfl rfl (by decide +kernel) rfl rfl rfl ?_
  refine Bc_aload_0 (pc := 12) dX1_init_12 ?_
  refine Bc_bipush (v := 24) (pc := 13) dX1_init_13 (by decide) ?_
  refine Bc_newi (N := 24) (pc := 15) dX1_init_15 (by decide) rfl (Nat.le_of_ble_eq_true rfl) (Nat.le_of_ble_eq_true rfl) (Nat.le_of_ble_eq_true rfl) (fun a2 => ?_)
  refine Bc_putF (a := .null) (i := 0) (j := 1) (ty := .array .int) ck1 (pc := 17) dX1_init_17 k_115 rfl (Nat.le_of_ble_eq_true rfl) (Nat.le_of_ble_eq_true rfl) rfl rfl rfl (by decide +kernel) rfl rfl rfl ?_
  refine Bc_aload_0 (pc := 20) dX1_init_20 ?_
  refine Bc_bipush (v := 24) (pc := 21) dX1_init_21 (by decide) ?_
  refine Bc_newi (N := 24) (pc := 23) dX1_init_23 (by decide) rfl (Nat.le_of_ble_eq_true rfl) (Nat.le_of_ble_eq_true rfl) (Nat.le_of_ble_eq_true rfl) (fun a3 => ?_)
  refine Bc_putF (a := .null) (i := 0) (j := 2) (ty := .array .int) ck1 (pc := 25) dX1_init_25 k_116 rfl (Nat.le_of_ble_eq_true rfl) (Nat.le_of_ble_eq_true rfl) rfl rfl rfl (by decide +kernel) rfl rfl rfl ?_
  refine Bc_aload_0 (pc := 28) dX1_init_28 ?_
  refine Bc_bipush (v := 24) (pc := 29) dX1_init_29 (by decide) ?_
  refine Bc_newi (N := 24) (pc := 31) dX1_init_31 (by decide) rfl (Nat.le_of_ble_eq_true rfl) (Nat.le_of_ble_eq_true rfl) (Nat.le_of_ble_eq_true rfl) (fun a4 => ?_)
  refine Bc_putF (a := .null) (i := 0) (j := 3) (ty := .array .int) ck1 (pc := 33) dX1_init_33 k_117 rfl (Nat.le_of_ble_eq_true rfl) (Nat.le_of_ble_eq_true rfl) rfl rfl rfl (by decide +kernel) rfl rfl rfl ?_
  refine Bc_aload_0 (pc := 36) dX1_init_36 ?_
  refine Bc_bipush (v := 24) (pc := 37) dX1_init_37 (by decide) ?_
  refine Bc_newi (N := 24) (pc := 39) dX1_init_39 (by decide) rfl (Nat.le_of_ble_eq_true rfl) (Nat.le_of_ble_eq_true rfl) (Nat.le_of_ble_eq_true rfl) (fun a5 => ?_)
  refine Bc_putF (a := .null) (i := 0) (j := 4) (ty := .array .int) ck1 (pc := 41) dX1_init_41 k_118 rfl (Nat.le_of_ble_eq_true rfl) (Nat.le_of_ble_eq_true rfl) rfl rfl rfl (by decide +kernel) rfl rfl rfl ?_
  refine Bc_ret (pc := 44) dX1_init_44 rfl (Nat.le_of_ble_eq_true rfl) (Nat.le_of_ble_eq_true rfl) ?_
  exact ⟨a1, a2, a3, a4, a5, rfl⟩
def W4 (ca : Nat → ClassId) (h b1 : Nat) : va_W := [(h, .inr (4, [.ref b1, .int (-1), .int (0)])), (b1, .inl (ca 0, 40, .inl (fun _ => 0)))]
abbrev nX4_init : MD := (yX4_init, cX4_init, 1, none, { frames := 1, cells := 1, slots := 40, locals := 20 })
theorem con_X4_init {D : va_G} {ca : Nat → ClassId} {h : Nat} {wr : va_W} : Semc nX4_init D ca h (wr ++ [(h, .inr (4, fr4))]) (fun ws => ∃ b1 : Nat, ws = wr ++ W4 ca h b1) := by
  refine Semc_of rfl (Nat.le_of_ble_eq_true rfl) (fun A => ?_)
  refine Bc_aload_0 (pc := 0) dX4_init_0 ?_
  refine Bc_obj (pc := 1) dX4_init_1 k_222 (Nat.le_of_ble_eq_true rfl) (Nat.le_of_ble_eq_true rfl) ?_
  refine Bc_aload_0 (pc := 4) dX4_init_4 ?_
  refine Bc_bipush (v := 40) (pc := 5) dX4_init_5 (by decide) ?_
  refine Bc_newi (N := 40) (pc := 7) dX4_init_7 (by decide) rfl (Nat.le_of_ble_eq_true rfl) (Nat.le_of_ble_eq_true rfl) (Nat.le_of_ble_eq_true rfl) (fun a1 => ?_)
  refine Bc_putF (a := .null) (i := 0) (j := 0) (ty := .array .int) ck4 (pc := 9) dX4_init_9 k_223 rfl (Nat.le_of_ble_eq_true rfl) (Nat.le_of_ble_eq_true rfl) rfl rfl rfl (by decide +kernel) rfl rfl rfl ?_
  refine Bc_aload_0 (pc := 12) dX4_init_12 ?_
  refine Bc_iconst (v := -1) (pc := 13) dX4_init_13 (by decide) ?_
  refine Bc_put (i := 0) (j := 1) (ty := .int) ck4 (pc := 14) dX4_init_14 k_225 rfl (Nat.le_of_ble_eq_true rfl) (Nat.le_of_ble_eq_true rfl) rfl (by decide +kernel) rfl rfl rfl ?_
  refine Bc_ret (pc := 17) dX4_init_17 rfl (Nat.le_of_ble_eq_true rfl) (Nat.le_of_ble_eq_true rfl) ?_
  exact ⟨a1, rfl⟩
def W5 (ca : Nat → ClassId) (h b1 : Nat) : va_W := [(h, .inr (5, [.ref b1, .int (0), .int (0), .int (0), .int (0), .int (0)])), (b1, .inl (ca 1, 320, .inl (fun _ => 0)))]
abbrev nX5_init : MD := (yX5_init, cX5_init, 1, none, { frames := 1, cells := 1, slots := 320, locals := 20 })
theorem con_X5_init {D : va_G} {ca : Nat → ClassId} {h : Nat} {wr : va_W} : Semc nX5_init D ca h (wr ++ [(h, .inr (5, fr5))]) (fun ws => ∃ b1 : Nat, ws = wr ++ W5 ca h b1) := by
  refine Semc_of rfl (Nat.le_of_ble_eq_true rfl) (fun A => ?_)
  refine Bc_aload_0 (pc := 0) dX5_init_0 ?_
  refine Bc_obj (pc := 1) dX5_init_1 k_30 (Nat.le_of_ble_eq_true rfl) (Nat.le_of_ble_eq_true rfl) ?_
  refine Bc_aload_0 (pc := 4) dX5_init_4 ?_
  refine Bc_sipush (v := 320) (pc := 5) dX5_init_5 (by decide) ?_
  refine Bc_newb (N := 320) (pc := 8) dX5_init_8 (by decide) rfl (Nat.le_of_ble_eq_true rfl) (Nat.le_of_ble_eq_true rfl) (Nat.le_of_ble_eq_true rfl) (fun a1 => ?_)
  refine Bc_putF (a := .null) (i := 0) (j := 0) (ty := .array .byte) ck5 (pc := 10) dX5_init_10 k_31 rfl (Nat.le_of_ble_eq_true rfl) (Nat.le_of_ble_eq_true rfl) rfl rfl rfl (by decide +kernel) rfl rfl rfl ?_
  refine Bc_ret (pc := 13) dX5_init_13 rfl (Nat.le_of_ble_eq_true rfl) (Nat.le_of_ble_eq_true rfl) ?_
  exact ⟨a1, rfl⟩
def W6 (ca : Nat → ClassId) (h b1 : Nat) : va_W := [(h, .inr (6, [.ref b1, .int (0), .int (0), .int (0)])), (b1, .inl (ca 0, 3, .inl (fun _ => 0)))]
abbrev nX6_init : MD := (yX6_init, cX6_init, 1, none, { frames := 1, cells := 1, slots := 3, locals := 20 })
theorem con_X6_init {D : va_G} {ca : Nat → ClassId} {h : Nat} {wr : va_W} : Semc nX6_init D ca h (wr ++ [(h, .inr (6, fr6))]) (fun ws => ∃ b1 : Nat, ws = wr ++ W6 ca h b1) := by
  refine Semc_of rfl (Nat.le_of_ble_eq_true rfl) (fun A => ?_)
  refine Bc_aload_0 (pc := 0) dX6_init_0 ?_
  refine Bc_obj (pc := 1) dX6_init_1 k_61 (Nat.le_of_ble_eq_true rfl) (Nat.le_of_ble_eq_true rfl) ?_
  refine Bc_aload_0 (pc := 4) dX6_init_4 ?_
  refine Bc_iconst (v := 3) (pc := 5) dX6_init_5 (by decide) ?_
  refine Bc_newi (N := 3) (pc := 6) dX6_init_6 (by decide) rfl (Nat.le_of_ble_eq_true rfl) (Nat.le_of_ble_eq_true rfl) (Nat.le_of_ble_eq_true rfl) (fun a1 => ?_)
  refine Bc_putF (a := .null) (i := 0) (j := 0) (ty := .array .int) ck6 (pc := 8) dX6_init_8 k_62 rfl (Nat.le_of_ble_eq_true rfl) (Nat.le_of_ble_eq_true rfl) rfl rfl rfl (by decide +kernel) rfl rfl rfl ?_
  refine Bc_ret (pc := 11) dX6_init_11 rfl (Nat.le_of_ble_eq_true rfl) (Nat.le_of_ble_eq_true rfl) ?_
  exact ⟨a1, rfl⟩
def rulF : Nat → Int32 := upd (upd (upd (upd (upd (upd (fun _ => 0) 0 9) 1 9) 2 2) 3 3) 4 1) 5 1
def W3o (ca : Nat → ClassId) (h b1 b2 b3 b4 b5 b6 : Nat) : va_W := [(h, .inr (3, [.ref b1, .ref b2, .ref b3, .ref b4, .ref b5, .ref b6, .int 0, .int 0, .int 0])), (b1, .inl (ca 0, 6, .inl (fun _ => 0))), (b2, .inl (ca 0, 6, .inl (fun _ => 0))), (b3, .inl (ca 0, 6, .inl (fun _ => 0))), (b4, .inl (ca 0, 3, .inl (fun _ => 0))), (b5, .inl (ca 0, 12, .inl (fun _ => 0))), (b6, .inl (ca 0, 12, .inl (fun _ => 0)))]
def W3 (ca : Nat → ClassId) (h b1 b2 b3 b4 b5 b6 : Nat) : va_W := [(h, .inr (3, [.ref b1, .ref b2, .ref b3, .ref b4, .ref b5, .ref b6, .int 0, .int 0, .int 0])), (b1, .inl (ca 0, 6, .inl rulF)), (b2, .inl (ca 0, 6, .inl (fun _ => 0))), (b3, .inl (ca 0, 6, .inl (fun _ => 0))), (b4, .inl (ca 0, 3, .inl (fun _ => 0))), (b5, .inl (ca 0, 12, .inl (fun _ => 0))), (b6, .inl (ca 0, 12, .inl (fun _ => 0)))]
theorem con_X3_clear {D : va_G} {ca : Nat → ClassId} {h b1 b2 b3 b4 b5 b6 : Nat} {wr : va_W} : Semc mX3_clear D ca h (wr ++ W3o ca h b1 b2 b3 b4 b5 b6) (fun ws => ws = wr ++ W3 ca h b1 b2 b3 b4 b5 b6) := by
  refine Semc_of rfl (Nat.le_of_ble_eq_true rfl) (fun A => ?_)
  refine Bc_aload_0 (pc := 0) dX3_clear_0 ?_
  refine Bc_get (i := 0) (j := 0) ck3 (pc := 1) dX3_clear_1 k_147 rfl (Nat.le_of_ble_eq_true rfl) rfl ?_
  refine Bc_iconst (v := 0) (pc := 4) dX3_clear_4 (by decide) ?_
  refine Bc_bipush (v := 9) (pc := 5) dX3_clear_5 (by decide) ?_
  refine Bc_iast (i := 1) (j := 0) (pc := 7) dX3_clear_7 rfl (by unfold vp_in; decide) rfl ?_
  refine Bc_aload_0 (pc := 8) dX3_clear_8 ?_
  refine Bc_get (i := 0) (j := 0) ck3 (pc := 9) dX3_clear_9 k_147 rfl (Nat.le_of_ble_eq_true rfl) rfl ?_
  refine Bc_iconst (v := 1) (pc := 12) dX3_clear_12 (by decide) ?_
  refine Bc_bipush (v := 9) (pc := 13) dX3_clear_13 (by decide) ?_
  refine Bc_iast (i := 1) (j := 1) (pc := 15) dX3_clear_15 rfl (by unfold vp_in; decide) rfl ?_
  refine Bc_aload_0 (pc := 16) dX3_clear_16 ?_
  refine Bc_get (i := 0) (j := 0) ck3 (pc := 17) dX3_clear_17 k_147 rfl (Nat.le_of_ble_eq_true rfl) rfl ?_
  refine Bc_iconst (v := 2) (pc := 20) dX3_clear_20 (by decide) ?_
  refine Bc_iconst (v := 2) (pc := 21) dX3_clear_21 (by decide) ?_
  refine Bc_iast (i := 1) (j := 2) (pc := 22) dX3_clear_22 rfl (by unfold vp_in; decide) rfl ?_
  refine Bc_aload_0 (pc := 23) dX3_clear_23 ?_
  refine Bc_get (i := 0) (j := 0) ck3 (pc := 24) dX3_clear_24 k_147 rfl (Nat.le_of_ble_eq_true rfl) rfl ?_
  refine Bc_iconst (v := 3) (pc := 27) dX3_clear_27 (by decide) ?_
  refine Bc_iconst (v := 3) (pc := 28) dX3_clear_28 (by decide) ?_
  refine Bc_iast (i := 1) (j := 3) (pc := 29) dX3_clear_29 rfl (by unfold vp_in; decide) rfl ?_
  refine Bc_aload_0 (pc := 30) dX3_clear_30 ?_
  refine Bc_get (i := 0) (j := 0) ck3 (pc := 31) dX3_clear_31 k_147 rfl (Nat.le_of_ble_eq_true rfl) rfl ?_
  refine Bc_iconst (v := 4) (pc := 34) dX3_clear_34 (by decide) ?_
  refine Bc_iconst (v := 1) (pc := 35) dX3_clear_35 (by decide) ?_
  refine Bc_iast (i := 1) (j := 4) (pc := 36) dX3_clear_36 rfl (by unfold vp_in; decide) rfl ?_
  refine Bc_aload_0 (pc := 37) dX3_clear_37 ?_
  refine Bc_get (i := 0) (j := 0) ck3 (pc := 38) dX3_clear_38 k_147 rfl (Nat.le_of_ble_eq_true rfl) rfl ?_
  refine Bc_iconst (v := 5) (pc := 41) dX3_clear_41 (by decide) ?_
  refine Bc_iconst (v := 1) (pc := 42) dX3_clear_42 (by decide) ?_
  refine Bc_iast (i := 1) (j := 5) (pc := 43) dX3_clear_43 rfl (by unfold vp_in; decide) rfl ?_
  refine Bc_aload_0 (pc := 44) dX3_clear_44 ?_
  refine Bc_iconst (v := 0) (pc := 45) dX3_clear_45 (by decide) ?_
  refine Bc_put (i := 0) (j := 6) (ty := .int) ck3 (pc := 46) dX3_clear_46 k_163 rfl (Nat.le_of_ble_eq_true rfl) (Nat.le_of_ble_eq_true rfl) rfl (by decide +kernel) rfl rfl rfl ?_
  refine Bc_aload_0 (pc := 49) dX3_clear_49 ?_
  refine Bc_iconst (v := 0) (pc := 50) dX3_clear_50 (by decide) ?_
  refine Bc_put (i := 0) (j := 7) (ty := .int) ck3 (pc := 51) dX3_clear_51 k_166 rfl (Nat.le_of_ble_eq_true rfl) (Nat.le_of_ble_eq_true rfl) rfl (by decide +kernel) rfl rfl rfl ?_
  refine Bc_aload_0 (pc := 54) dX3_clear_54 ?_
  refine Bc_iconst (v := 0) (pc := 55) dX3_clear_55 (by decide) ?_
  refine Bc_put (i := 0) (j := 8) (ty := .int) ck3 (pc := 56) dX3_clear_56 k_169 rfl (Nat.le_of_ble_eq_true rfl) (Nat.le_of_ble_eq_true rfl) rfl (by decide +kernel) rfl rfl rfl ?_
  refine Bc_ret (pc := 59) dX3_clear_59 rfl (Nat.le_of_ble_eq_true rfl) (Nat.le_of_ble_eq_true rfl) ?_
  rfl
abbrev nX3_init : MD := (yX3_init, cX3_init, 1, none, { frames := 1, cells := 6, slots := 45, locals := 20 })
theorem con_X3_init {D : va_G} {ca : Nat → ClassId} {h : Nat} {wr : va_W} : Semc nX3_init D ca h (wr ++ [(h, .inr (3, fr3))]) (fun ws => ∃ b1 b2 b3 b4 b5 b6 : Nat, ws = wr ++ W3 ca h b1 b2 b3 b4 b5 b6) := by
  refine Semc_of rfl (Nat.le_of_ble_eq_true rfl) (fun A => ?_)
  refine Bc_aload_0 (pc := 0) dX3_init_0 ?_
  refine Bc_obj (pc := 1) dX3_init_1 k_142 (Nat.le_of_ble_eq_true rfl) (Nat.le_of_ble_eq_true rfl) ?_
  refine Bc_aload_0 (pc := 4) dX3_init_4 ?_
  refine Bc_bipush (v := 6) (pc := 5) dX3_init_5 (by decide) ?_
  refine Bc_newi (N := 6) (pc := 7) dX3_init_7 (by decide) rfl (Nat.le_of_ble_eq_true rfl) (Nat.le_of_ble_eq_true rfl) (Nat.le_of_ble_eq_true rfl) (fun a1 => ?_)
  refine Bc_putF (a := .null) (i := 0) (j := 0) (ty := .array .int) ck3 (pc := 9) dX3_init_9 k_147 rfl (Nat.le_of_ble_eq_true rfl) (Nat.le_of_ble_eq_true rfl) rfl rfl rfl (by decide +kernel) rfl rfl rfl ?_
  refine Bc_aload_0 (pc := 12) dX3_init_12 ?_
  refine Bc_bipush (v := 6) (pc := 13) dX3_init_13 (by decide) ?_
  refine Bc_newi (N := 6) (pc := 15) dX3_init_15 (by decide) rfl (Nat.le_of_ble_eq_true rfl) (Nat.le_of_ble_eq_true rfl) (Nat.le_of_ble_eq_true rfl) (fun a2 => ?_)
  refine Bc_putF (a := .null) (i := 0) (j := 1) (ty := .array .int) ck3 (pc := 17) dX3_init_17 k_151 rfl (Nat.le_of_ble_eq_true rfl) (Nat.le_of_ble_eq_true rfl) rfl rfl rfl (by decide +kernel) rfl rfl rfl ?_
  refine Bc_aload_0 (pc := 20) dX3_init_20 ?_
  refine Bc_bipush (v := 6) (pc := 21) dX3_init_21 (by decide) ?_
  refine Bc_newi (N := 6) (pc := 23) dX3_init_23 (by decide) rfl (Nat.le_of_ble_eq_true rfl) (Nat.le_of_ble_eq_true rfl) (Nat.le_of_ble_eq_true rfl) (fun a3 => ?_)
  refine Bc_putF (a := .null) (i := 0) (j := 2) (ty := .array .int) ck3 (pc := 25) dX3_init_25 k_154 rfl (Nat.le_of_ble_eq_true rfl) (Nat.le_of_ble_eq_true rfl) rfl rfl rfl (by decide +kernel) rfl rfl rfl ?_
  refine Bc_aload_0 (pc := 28) dX3_init_28 ?_
  refine Bc_iconst (v := 3) (pc := 29) dX3_init_29 (by decide) ?_
  refine Bc_newi (N := 3) (pc := 30) dX3_init_30 (by decide) rfl (Nat.le_of_ble_eq_true rfl) (Nat.le_of_ble_eq_true rfl) (Nat.le_of_ble_eq_true rfl) (fun a4 => ?_)
  refine Bc_putF (a := .null) (i := 0) (j := 3) (ty := .array .int) ck3 (pc := 32) dX3_init_32 k_157 rfl (Nat.le_of_ble_eq_true rfl) (Nat.le_of_ble_eq_true rfl) rfl rfl rfl (by decide +kernel) rfl rfl rfl ?_
  refine Bc_aload_0 (pc := 35) dX3_init_35 ?_
  refine Bc_bipush (v := 12) (pc := 36) dX3_init_36 (by decide) ?_
  refine Bc_newi (N := 12) (pc := 38) dX3_init_38 (by decide) rfl (Nat.le_of_ble_eq_true rfl) (Nat.le_of_ble_eq_true rfl) (Nat.le_of_ble_eq_true rfl) (fun a5 => ?_)
  refine Bc_putF (a := .null) (i := 0) (j := 4) (ty := .array .int) ck3 (pc := 40) dX3_init_40 k_159 rfl (Nat.le_of_ble_eq_true rfl) (Nat.le_of_ble_eq_true rfl) rfl rfl rfl (by decide +kernel) rfl rfl rfl ?_
  refine Bc_aload_0 (pc := 43) dX3_init_43 ?_
  refine Bc_bipush (v := 12) (pc := 44) dX3_init_44 (by decide) ?_
  refine Bc_newi (N := 12) (pc := 46) dX3_init_46 (by decide) rfl (Nat.le_of_ble_eq_true rfl) (Nat.le_of_ble_eq_true rfl) (Nat.le_of_ble_eq_true rfl) (fun a6 => ?_)
  refine Bc_putF (a := .null) (i := 0) (j := 5) (ty := .array .int) ck3 (pc := 48) dX3_init_48 k_161 rfl (Nat.le_of_ble_eq_true rfl) (Nat.le_of_ble_eq_true rfl) rfl rfl rfl (by decide +kernel) rfl rfl rfl ?_
  refine Bc_aload_0 (pc := 51) dX3_init_51 ?_
  refine Bc_cl (l' := W3o ca h a1 a2 a3 a4 a5 a6) ?_ rfl
  refine Bc_callv (cd := mX3_clear) (i := 0) rfl rfl (pc := 52) dX3_init_52 k_143 v_X3_clear ⟨(Nat.le_of_ble_eq_true rfl), (Nat.le_of_ble_eq_true rfl)⟩ con_X3_clear (Nat.le_of_ble_eq_true rfl) (Nat.le_of_ble_eq_true rfl) (Nat.le_of_ble_eq_true rfl) (fun ws hws => ?_)
  subst hws
  refine ⟨_, rfl, ?_⟩
  refine Bc_ret (pc := 55) dX3_init_55 rfl (Nat.le_of_ble_eq_true rfl) (Nat.le_of_ble_eq_true rfl) ?_
  exact ⟨a1, a2, a3, a4, a5, a6, rfl⟩
abbrev nX2_init : MD := (yX2_init, cX2_init, 1, none, { frames := 2, cells := 7, slots := 114, locals := 40 })
def W2 (ca : Nat → ClassId) (h b1 b2 b3 b4 b5 b6 b7 : Nat) : va_W := [(h, .inr (2, [.ref b1, .ref b2, .ref b3, .int 0, .int 0, .int 0])), (b1, .inl (ca 0, 6, .inl (fun _ => 0))), (b2, .inl (ca 0, 6, .inl (fun _ => 0))), (b3, .inr (0, [.ref b4, .ref b5, .ref b6, .ref b7, .int 0, .int 0])), (b4, .inl (ca 0, 24, .inl (fun _ => 0))), (b5, .inl (ca 0, 24, .inl (fun _ => 0))), (b6, .inl (ca 0, 24, .inl (fun _ => 0))), (b7, .inl (ca 0, 24, .inl (fun _ => 0)))]
theorem con_X2_init {D : va_G} {ca : Nat → ClassId} {h : Nat} {wr : va_W} : Semc nX2_init D ca h (wr ++ [(h, .inr (2, fr2))]) (fun ws => ∃ b1 b2 b3 b4 b5 b6 b7 : Nat, ws = wr ++ W2 ca h b1 b2 b3 b4 b5 b6 b7) := by
  refine Semc_of rfl (Nat.le_of_ble_eq_true rfl) (fun A => ?_)
  refine Bc_aload_0 (pc := 0) dX2_init_0 ?_
  refine Bc_obj (pc := 1) dX2_init_1 k_195 (Nat.le_of_ble_eq_true rfl) (Nat.le_of_ble_eq_true rfl) ?_
  refine Bc_aload_0 (pc := 4) dX2_init_4 ?_
  refine Bc_bipush (v := 6) (pc := 5) dX2_init_5 (by decide) ?_
  refine Bc_newi (N := 6) (pc := 7) dX2_init_7 (by decide) rfl (Nat.le_of_ble_eq_true rfl) (Nat.le_of_ble_eq_true rfl) (Nat.le_of_ble_eq_true rfl) (fun a1 => ?_)
  refine Bc_putF (a := .null) (i := 0) (j := 0) (ty := .array .int) ck2 (pc := 9) dX2_init_9 k_198 rfl (Nat.le_of_ble_eq_true rfl) (Nat.le_of_ble_eq_true rfl) rfl rfl rfl (by decide +kernel) rfl rfl rfl ?_
  refine Bc_aload_0 (pc := 12) dX2_init_12 ?_
  refine Bc_bipush (v := 6) (pc := 13) dX2_init_13 (by decide) ?_
  refine Bc_newi (N := 6) (pc := 15) dX2_init_15 (by decide) rfl (Nat.le_of_ble_eq_true rfl) (Nat.le_of_ble_eq_true rfl) (Nat.le_of_ble_eq_true rfl) (fun a2 => ?_)
  refine Bc_putF (a := .null) (i := 0) (j := 1) (ty := .array .int) ck2 (pc := 17) dX2_init_17 k_199 rfl (Nat.le_of_ble_eq_true rfl) (Nat.le_of_ble_eq_true rfl) rfl rfl rfl (by decide +kernel) rfl rfl rfl ?_
  refine Bc_aload_0 (pc := 20) dX2_init_20 ?_
  refine Bc_new (fs := fr0) ck0.1 inTB0 tyX0 tyX0_ok (pc := 21) dX2_init_21 k_196 k_78 k_4 fr0_ok (Nat.le_of_ble_eq_true rfl) (Nat.le_of_ble_eq_true rfl) (fun a3 => ?_)
  refine Bc_dup (pc := 24) dX2_init_24 rfl ?_
  refine Bc_initN (cd := nX0_init) (fs := fr0) rfl (pc := 25) dX2_init_25 (by decide) rfl k_80 k_4 k_81 rfl ⟨by decide, by decide, by decide +kernel⟩ ⟨(Nat.le_of_ble_eq_true rfl), (Nat.le_of_ble_eq_true rfl)⟩ con_X0_init (Nat.le_of_ble_eq_true rfl) (Nat.le_of_ble_eq_true rfl) (Nat.le_of_ble_eq_true rfl) (fun ws hws => ?_)
  obtain ⟨a3_0, a3_1, a3_2, a3_3, rfl⟩ := hws
  refine ⟨_, List.append_assoc _ _ _, ?_⟩
  refine Bc_putF (a := .null) (i := 0) (j := 2) (ty := .object "ChurchOrgan$Blows") ck2 (pc := 28) dX2_init_28 k_200 rfl (Nat.le_of_ble_eq_true rfl) (Nat.le_of_ble_eq_true rfl) rfl rfl rfl (by decide +kernel) rfl rfl rfl ?_
  refine Bc_ret (pc := 31) dX2_init_31 rfl (Nat.le_of_ble_eq_true rfl) (Nat.le_of_ble_eq_true rfl) ?_
  exact ⟨a1, a2, a3, a3_0, a3_1, a3_2, a3_3, rfl⟩
