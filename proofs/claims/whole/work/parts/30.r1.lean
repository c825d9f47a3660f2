/-! 30: the reference: what its rows hold, its small methods -/
def IVbf (g : Nat → Int32) (p : Nat) (f5 f6 f7 f8 f9 : Nat → Int32) : Prop := g (p + 86) = f5 4 ∧ (∀ i, i < cn (f5 4) → g (p + 14 + 3 * i) = f6 i ∧ g (p + 15 + 3 * i) = f7 i ∧ g (p + 16 + 3 * i) = f8 i) ∧ g (p + 112) = f5 5 ∧ ∀ i, i < cn (f5 5) → g (p + 88 + i) = f9 i
def IVl (C M : Mem) : Prop := (∀ j, j < 4 → M 60 j = C 45 j) ∧ ((M 58 6 = 1 ∧ M 59 12 = C 45 4 ∧ M 59 13 = C 45 5) ∨ (M 58 6 = 0 ∧ C 45 4 = 1 ∧ C 45 5 = 1)) ∧ M 59 113 = C 44 6 ∧ (∀ t, t < cn (C 44 6) → M 59 t = C 46 t ∧ M 59 (6 + t) = C 47 t) ∧ M 58 3 = C 44 7 ∧ (∀ h, h < cn (C 44 7) → M 61 h = C 48 h) ∧ M 58 5 = C 44 8 ∧ ∀ i, i < cn (C 44 8) → M 62 (2 * i) = C 49 i ∧ M 62 (2 * i + 1) = C 50 i
def IVb (C M : Mem) : Prop := IVbf (M 59) 0 (C 5) (C 6) (C 7) (C 8) (C 9)
def IVi (C M : Mem) (k b : Nat) : Prop := M 75 k = C b 5 ∧ (C b 5 = 1 → M 58 6 = 1 ∧ (∀ t, t < cn (C 44 6) → M 59 (120 * (k + 1) + t) = C (b + 1) t ∧ M 59 (120 * (k + 1) + 6 + t) = C (b + 2) t) ∧ M 59 (120 * (k + 1) + 12) = C b 3 ∧ M 59 (120 * (k + 1) + 13) = C b 4 ∧ M 59 (120 * (k + 1) + 113) = C 44 6 ∧ IVbf (M 59) (120 * (k + 1)) (C (b + 3)) (C (b + 4)) (C (b + 5)) (C (b + 6)) (C (b + 7)))
def IVt (C M : Mem) : Prop := M 58 18 = C 1 2 ∧ ∀ i, i < cn (C 1 2) → M 67 i = C 2 i &&& 255
def IVf (C M : Mem) : Prop := M 58 19 = C 0 10 ∧ M 58 37 = C 0 11
def IVs (C M : Mem) (k b : Nat) : Prop := ((C b 1 = -1 ∧ M 76 k = -4) ∨ (M 76 k = C b 1 ∧ bt (C b 1) 0 2)) ∧ M 77 k = C b 2 ∧ ∀ i, i < 40 → M 78 (40 * k + i) = C (b + 1) i
def cutT : List Int32 := [0, 6, 10, 13, 17, 22, 26, 30]
def letT : List Int32 := [103, 114, 111, 117, 110, 100, 112, 97, 99, 101, 114, 117, 110, 119, 105, 110, 100, 116, 111, 119, 101, 114, 104, 105, 108, 108, 110, 111, 116, 101]
def IVk (M : Mem) : Prop := (∀ j, j < 8 → M 68 j = cutT.getD j 0) ∧ ∀ j, j < 30 → M 69 j = letT.getD j 0
def IV (C M : Mem) : Prop := IVl C M ∧ IVb C M ∧ (IVi C M 0 17 ∧ IVi C M 1 25) ∧ IVt C M ∧ IVf C M ∧ (IVs C M 0 34 ∧ IVs C M 1 36 ∧ IVs C M 2 38 ∧ IVs C M 3 40) ∧ IVk M
/-- the reference's rows hold C -/
def RF (C M : Mem) : Prop := WF C ∧ IV C M
/-- .. and it is awake -/
def RK (C M : Mem) : Prop := WF C ∧ IV C M ∧ M 58 6 = 1
def awM (M : Mem) : Mem := if M 58 6 = 0 then updM (updM (updM M 59 12 1) 59 13 1) 58 6 1 else M
theorem awM_id {M : Mem} (h : M 58 6 = 1) : awM M = M := by unfold awM; rw [if_neg (by rw [h]; decide)]
theorem awM_ne {M : Mem} {k : Nat} (h : k ≠ 58) (h2 : k ≠ 59) : awM M k = M k := by
  unfold awM
  split
  · rw [updM_ne h, updM_ne h2, updM_ne h2]
  · rfl
theorem RK.rf {C M : Mem} (h : RK C M) : RF C M := ⟨h.1, h.2.1⟩
theorem RK.wd {C M : Mem} (h : RK C M) : M 59 12 = C 45 4 ∧ M 59 13 = C 45 5 := by
  rcases h.2.1.1.2.1 with ⟨-, q⟩ | ⟨q, -⟩
  · exact q
  · rw [h.2.2] at q; exact absurd q (by decide)
theorem RF.aw {C M : Mem} (h : RF C M) : RK C (awM M) := by
  obtain ⟨w, iv⟩ := h
  have hl := iv.1
  rcases hl.2.1 with ⟨q1, q2⟩ | ⟨q1, q2, q3⟩
  · rw [awM_id q1]; exact ⟨w, iv, q1⟩
  · have e : awM M = updM (updM (updM M 59 12 1) 59 13 1) 58 6 1 := by unfold awM; rw [if_pos q1]
    rw [e]
    have nt6 := w.nt6
    have nb24 := w.nb24
    have nm24 := w.nm24
    have g : ∀ j, j ≠ 12 → j ≠ 13 → updM (updM (updM M 59 12 1) 59 13 1) 58 6 1 59 j = M 59 j := fun j h1 h2 => by
      show upd (upd (M 59) 12 1) 13 1 j = M 59 j
      simp only [upd, if_neg h1, if_neg h2]
    have k0 : ¬ C 17 5 = 1 := fun z => by rw [(iv.2.2.1.1.2 z).1] at q1; exact absurd q1 (by decide)
    have k1 : ¬ C 25 5 = 1 := fun z => by rw [(iv.2.2.1.2.2 z).1] at q1; exact absurd q1 (by decide)
    refine ⟨w, ⟨⟨hl.1, Or.inl ⟨rfl, q2.symm, q3.symm⟩, hl.2.2.1, fun t ht => ?_, hl.2.2.2.2.1, hl.2.2.2.2.2.1, hl.2.2.2.2.2.2.1, hl.2.2.2.2.2.2.2⟩, ⟨iv.2.1.1, fun i hi => ?_, iv.2.1.2.2.1, fun i hi => ?_⟩, ⟨⟨iv.2.2.1.1.1, fun z => absurd z k0⟩, ⟨iv.2.2.1.2.1, fun z => absurd z k1⟩⟩, iv.2.2.2.1, iv.2.2.2.2.1, iv.2.2.2.2.2.1, iv.2.2.2.2.2.2⟩, rfl⟩
    · rw [g t (by omega) (by omega), g (6 + t) (by omega) (by omega)]; exact hl.2.2.2.1 t ht
    · have := iv.2.1.2.1 i hi
      rw [g _ (by omega) (by omega), g _ (by omega) (by omega), g _ (by omega) (by omega)]; exact this
    · rw [g _ (by omega) (by omega)]; exact iv.2.1.2.2.2 i hi
theorem lgc_lt {x y : Int64} : lg_cmp x y < 0 ↔ x < y := lg_cmp_lt x y
theorem lgc_gt {x y : Int64} : 0 < lg_cmp x y ↔ y < x := lg_cmp_gt x y
theorem l_le {x y : Int32} : x.toInt64 ≤ y.toInt64 ↔ x ≤ y := by rw [Int64.le_iff_toInt_le, Int32.le_iff_toInt_le, Int32.toInt_toInt64, Int32.toInt_toInt64]
set_option maxRecDepth 100000 in
set_option maxHeartbeats 4000000 in
theorem sem_in {sh : List Ds} {M : Mem} {n a b : Int32} {lo hi : Int64} (ha : lo = a.toInt64) (hb : hi = b.toInt64) : Sem mX8_in sh [.long n.toInt64, .long lo, .long hi] M (PD sh (some (.int (b2 (a ≤ n ∧ n ≤ b)))) M) := by
  refine Sem_of rfl (fun G => (Nat.le_of_ble_eq_true rfl)) (fun G => ?_)
  refine Bd_lload_0 (pc := 0) dX8_in_0 ?_
  refine Bd_lload_2 (pc := 1) dX8_in_1 ?_
  refine Bd_lcmp (pc := 2) dX8_in_2 ?_
  refine Bd_if_lt (t := 17) (pc := 3) dX8_in_3 (by decide) (fun b3 => ?_) (fun b3 => ?_)
  · refine Bd_iconst (v := 0) (pc := 17) dX8_in_17 (by decide) ?_
    refine Bd_zret (pc := 18) dX8_in_18 rfl rfl ?_
    subst ha; subst hb
    exact PD_i (b2_f (fun q => Int64.not_lt.mpr (l_le.mpr q.1) (lgc_lt.mp b3))) rfl
  · refine Bd_lload_0 (pc := 6) dX8_in_6 ?_
    refine Bd_lload_4 (pc := 7) dX8_in_7 ?_
    refine Bd_lcmp (pc := 9) dX8_in_9 ?_
    refine Bd_if_gt (t := 17) (pc := 10) dX8_in_10 (by decide) (fun b10 => ?_) (fun b10 => ?_)
    · refine Bd_iconst (v := 0) (pc := 17) dX8_in_17 (by decide) ?_
      refine Bd_zret (pc := 18) dX8_in_18 rfl rfl ?_
      subst ha; subst hb
      exact PD_i (b2_f (fun q => Int64.not_lt.mpr (l_le.mpr q.2) (lgc_gt.mp b10))) rfl
    · refine Bd_iconst (v := 1) (pc := 13) dX8_in_13 (by decide) ?_
      refine Bd_goto (t := 18) (pc := 14) dX8_in_14 (by decide) ?_
      refine Bd_zret (pc := 18) dX8_in_18 rfl rfl ?_
      subst ha; subst hb
      exact PD_i (b2_t ⟨l_le.mp (Int64.not_lt.mp (fun q => b3 (lgc_lt.mpr q))), l_le.mp (Int64.not_lt.mp (fun q => b10 (lgc_gt.mpr q)))⟩) rfl
set_option maxRecDepth 100000 in
set_option maxHeartbeats 4000000 in
theorem sem_X8_awake {M : Mem} (h6 : M 58 6 = 0 ∨ M 58 6 = 1) : Sem mX8_awake SH [.ref 58] M (PD SH none (awM M)) := by
  refine Sem_of rfl (fun G => (Nat.le_of_ble_eq_true rfl)) (fun G => ?_)
  refine Bd_aload_0 (pc := 0) dX8_awake_0 ?_
  refine Bd_getI (j := 6) ck8 (pc := 1) dX8_awake_1 k_792 rfl (Nat.le_of_ble_eq_true rfl) rfl ?_
  refine Bd_if_ne (t := 28) (pc := 4) dX8_awake_4 (by decide) (fun b4 => ?_) (fun b4 => ?_)
  · refine Bd_vret (pc := 28) dX8_awake_28 rfl ?_
    exact PD_v (by unfold awM; rw [if_neg b4])
  · refine Bd_aload_0 (pc := 7) dX8_awake_7 ?_
    refine Bd_getR (j := 0) ck8 (pc := 8) dX8_awake_8 k_786 rfl (Nat.le_of_ble_eq_true rfl) rfl ?_
    refine Bd_bipush (v := 12) (pc := 11) dX8_awake_11 (by decide) ?_
    refine Bd_iconst (v := 1) (pc := 13) dX8_awake_13 (by decide) ?_
    refine Bd_iastc (j := 12) rfl (pc := 14) dX8_awake_14 rfl (by unfold vp_in; decide) ?_
    refine Bd_aload_0 (pc := 15) dX8_awake_15 ?_
    refine Bd_getR (j := 0) ck8 (pc := 16) dX8_awake_16 k_786 rfl (Nat.le_of_ble_eq_true rfl) rfl ?_
    refine Bd_bipush (v := 13) (pc := 19) dX8_awake_19 (by decide) ?_
    refine Bd_iconst (v := 1) (pc := 21) dX8_awake_21 (by decide) ?_
    refine Bd_iastc (j := 13) rfl (pc := 22) dX8_awake_22 rfl (by unfold vp_in; decide) ?_
    refine Bd_aload_0 (pc := 23) dX8_awake_23 ?_
    refine Bd_iconst (v := 1) (pc := 24) dX8_awake_24 (by decide) ?_
    refine Bd_putI (j := 6) (ty := .boolean) ck8 (pc := 25) dX8_awake_25 k_792 rfl (Nat.le_of_ble_eq_true rfl) rfl rfl pfZ rfl (by rfl) ?_
    refine Bd_vret (pc := 28) dX8_awake_28 rfl ?_
    exact PD_v (by unfold awM; rw [if_pos b4])
theorem RF.a6 {C M : Mem} (h : RF C M) : M 58 6 = 0 ∨ M 58 6 = 1 := by
  rcases h.2.1.2.1 with ⟨q, -⟩ | ⟨q, -⟩
  · exact Or.inr q
  · exact Or.inl q
theorem ti0 : ∀ i, i < 24 → (14 + 3 * nI i : Int32) = nI (14 + 3 * i) := by decide +kernel
theorem ti1 : ∀ i, i < 24 → (14 + 3 * nI i + 1 : Int32) = nI (15 + 3 * i) := by decide +kernel
theorem ti2 : ∀ i, i < 24 → (14 + 3 * nI i + 2 : Int32) = nI (16 + 3 * i) := by decide +kernel
theorem ti6 : ∀ i, i < 6 → (6 + nI i : Int32) = nI (6 + i) := by decide +kernel
theorem ti00 : ∀ i, i < 24 → (0 + nI i : Int32) = nI i := by decide +kernel
theorem ti88 : ∀ i, i < 24 → (88 + nI i : Int32) = nI (88 + i) := by decide +kernel
theorem tn2 : ∀ i, i < 12 → (2 * nI i : Int32) = nI (2 * i) := by decide +kernel
theorem tn3 : ∀ i, i < 12 → (2 * nI i + 1 : Int32) = nI (2 * i + 1) := by decide +kernel
set_option maxRecDepth 100000 in
set_option maxHeartbeats 4000000 in
theorem sem_X8_blows {C M : Mem} (h : RF C M) : Sem mX8_blows SH [.ref 58] M (PD SH (some (.int (C 5 4))) (M)) := by
  refine Sem_of rfl (fun G => (Nat.le_of_ble_eq_true rfl)) (fun G => ?_)
  refine Bd_aload_0 (pc := 0) dX8_blows_0 ?_
  refine Bd_getR (j := 0) ck8 (pc := 1) dX8_blows_1 k_786 rfl (Nat.le_of_ble_eq_true rfl) rfl ?_
  refine Bd_bipush (v := 86) (pc := 4) dX8_blows_4 (by decide) ?_
  refine Bd_ialdc (j := 86) rfl (pc := 6) dX8_blows_6 rfl (by unfold vp_in; decide) ?_
  refine Bd_iret (pc := 7) dX8_blows_7 rfl ?_
  exact PD_i h.2.2.1.1 rfl
set_option maxRecDepth 100000 in
set_option maxHeartbeats 4000000 in
theorem sem_X8_noteds {C M : Mem} (h : RF C M) : Sem mX8_noteds SH [.ref 58] M (PD SH (some (.int (C 5 5))) (M)) := by
  refine Sem_of rfl (fun G => (Nat.le_of_ble_eq_true rfl)) (fun G => ?_)
  refine Bd_aload_0 (pc := 0) dX8_noteds_0 ?_
  refine Bd_getR (j := 0) ck8 (pc := 1) dX8_noteds_1 k_786 rfl (Nat.le_of_ble_eq_true rfl) rfl ?_
  refine Bd_bipush (v := 112) (pc := 4) dX8_noteds_4 (by decide) ?_
  refine Bd_ialdc (j := 112) rfl (pc := 6) dX8_noteds_6 rfl (by unfold vp_in; decide) ?_
  refine Bd_iret (pc := 7) dX8_noteds_7 rfl ?_
  exact PD_i h.2.2.1.2.2.1 rfl
set_option maxRecDepth 100000 in
set_option maxHeartbeats 4000000 in
theorem sem_X8_towerOf {C M : Mem} (h : RF C M) {i : Nat} (hi : i < cn (C 5 4)) : Sem mX8_towerOf SH [.ref 58, .int (nI i)] M (PD SH (some (.int (C 6 i))) (M)) := by
  have q1 := h.1.nb24
  refine Sem_of rfl (fun G => (Nat.le_of_ble_eq_true rfl)) (fun G => ?_)
  refine Bd_aload_0 (pc := 0) dX8_towerOf_0 ?_
  refine Bd_getR (j := 0) ck8 (pc := 1) dX8_towerOf_1 k_786 rfl (Nat.le_of_ble_eq_true rfl) rfl ?_
  refine Bd_bipush (v := 14) (pc := 4) dX8_towerOf_4 (by decide) ?_
  refine Bd_iconst (v := 3) (pc := 6) dX8_towerOf_6 (by decide) ?_
  refine Bd_iload_1 (pc := 7) dX8_towerOf_7 ?_
  refine Bd_imul (pc := 8) dX8_towerOf_8 ?_
  refine Bd_iadd (pc := 9) dX8_towerOf_9 ?_
  refine Bd_ialdc (j := 14 + 3 * i) (by rw [ti0 i (by omega)]; exact nI_clamp (by omega)) (pc := 10) dX8_towerOf_10 rfl (by rw [ti0 i (by omega)]; exact vpi (by omega) (by omega)) ?_
  refine Bd_iret (pc := 11) dX8_towerOf_11 rfl ?_
  exact PD_i (by have z := (h.2.2.1.2.1 i hi).1; rw [Nat.zero_add] at z; exact z) rfl
set_option maxRecDepth 100000 in
set_option maxHeartbeats 4000000 in
theorem sem_X8_beatOf {C M : Mem} (h : RF C M) {i : Nat} (hi : i < cn (C 5 4)) : Sem mX8_beatOf SH [.ref 58, .int (nI i)] M (PD SH (some (.int (C 7 i))) (M)) := by
  have q1 := h.1.nb24
  refine Sem_of rfl (fun G => (Nat.le_of_ble_eq_true rfl)) (fun G => ?_)
  refine Bd_aload_0 (pc := 0) dX8_beatOf_0 ?_
  refine Bd_getR (j := 0) ck8 (pc := 1) dX8_beatOf_1 k_786 rfl (Nat.le_of_ble_eq_true rfl) rfl ?_
  refine Bd_bipush (v := 14) (pc := 4) dX8_beatOf_4 (by decide) ?_
  refine Bd_iconst (v := 3) (pc := 6) dX8_beatOf_6 (by decide) ?_
  refine Bd_iload_1 (pc := 7) dX8_beatOf_7 ?_
  refine Bd_imul (pc := 8) dX8_beatOf_8 ?_
  refine Bd_iadd (pc := 9) dX8_beatOf_9 ?_
  refine Bd_iconst (v := 1) (pc := 10) dX8_beatOf_10 (by decide) ?_
  refine Bd_iadd (pc := 11) dX8_beatOf_11 ?_
  refine Bd_ialdc (j := 15 + 3 * i) (by rw [ti1 i (by omega)]; exact nI_clamp (by omega)) (pc := 12) dX8_beatOf_12 rfl (by rw [ti1 i (by omega)]; exact vpi (by omega) (by omega)) ?_
  refine Bd_iret (pc := 13) dX8_beatOf_13 rfl ?_
  exact PD_i (by have z := (h.2.2.1.2.1 i hi).2.1; rw [Nat.zero_add] at z; exact z) rfl
set_option maxRecDepth 100000 in
set_option maxHeartbeats 4000000 in
theorem sem_X8_toneOf {C M : Mem} (h : RF C M) {i : Nat} (hi : i < cn (C 5 4)) : Sem mX8_toneOf SH [.ref 58, .int (nI i)] M (PD SH (some (.int (C 8 i))) (M)) := by
  have q1 := h.1.nb24
  refine Sem_of rfl (fun G => (Nat.le_of_ble_eq_true rfl)) (fun G => ?_)
  refine Bd_aload_0 (pc := 0) dX8_toneOf_0 ?_
  refine Bd_getR (j := 0) ck8 (pc := 1) dX8_toneOf_1 k_786 rfl (Nat.le_of_ble_eq_true rfl) rfl ?_
  refine Bd_bipush (v := 14) (pc := 4) dX8_toneOf_4 (by decide) ?_
  refine Bd_iconst (v := 3) (pc := 6) dX8_toneOf_6 (by decide) ?_
  refine Bd_iload_1 (pc := 7) dX8_toneOf_7 ?_
  refine Bd_imul (pc := 8) dX8_toneOf_8 ?_
  refine Bd_iadd (pc := 9) dX8_toneOf_9 ?_
  refine Bd_iconst (v := 2) (pc := 10) dX8_toneOf_10 (by decide) ?_
  refine Bd_iadd (pc := 11) dX8_toneOf_11 ?_
  refine Bd_ialdc (j := 16 + 3 * i) (by rw [ti2 i (by omega)]; exact nI_clamp (by omega)) (pc := 12) dX8_toneOf_12 rfl (by rw [ti2 i (by omega)]; exact vpi (by omega) (by omega)) ?_
  refine Bd_iret (pc := 13) dX8_toneOf_13 rfl ?_
  exact PD_i (by have z := (h.2.2.1.2.1 i hi).2.2; rw [Nat.zero_add] at z; exact z) rfl
theorem ab_neg {x : Int32} : (if 0 ≤ x then x else -x) = abF x := by unfold abF; rw [show (0 : Int32) - x = -x from Int32.zero_sub x]
theorem mx_le (x y : Int32) : (if x ≤ y then y else x) = mxF x y := by
  unfold mxF
  by_cases h : x < y
  · rw [if_pos h, if_pos (Int32.le_of_lt h)]
  · rw [if_neg h]
    by_cases h2 : x ≤ y
    · rw [if_pos h2]; exact Int32.le_antisymm (Int32.not_lt.mp h) h2
    · rw [if_neg h2]
set_option maxRecDepth 100000 in
set_option maxHeartbeats 4000000 in
theorem sem_X8_size {sh : List Ds} {M : Mem} {x : Int32} : Sem mX8_size sh [.int x] M (PD sh (some (.int (abF x))) M) := by
  refine Sem_of rfl (fun G => (Nat.le_of_ble_eq_true rfl)) (fun G => ?_)
  refine Bd_iload_0 (pc := 0) dX8_size_0 ?_
  refine Bd_if_ge (t := 9) (pc := 1) dX8_size_1 (by decide) (fun b1 => ?_) (fun b1 => ?_)
  · refine Bd_iload_0 (pc := 9) dX8_size_9 ?_
    refine Bd_iret (pc := 10) dX8_size_10 rfl ?_
    exact PD_i (by rw [← ab_neg, if_pos b1]) rfl
  · refine Bd_iload_0 (pc := 4) dX8_size_4 ?_
    refine Bd_ineg (pc := 5) dX8_size_5 ?_
    refine Bd_goto (t := 10) (pc := 6) dX8_size_6 (by decide) ?_
    refine Bd_iret (pc := 10) dX8_size_10 rfl ?_
    exact PD_i (by rw [← ab_neg, if_neg b1]) rfl
set_option maxRecDepth 100000 in
set_option maxHeartbeats 4000000 in
theorem sem_X8_farOf {sh : List Ds} {M : Mem} {a b : Int32} : Sem mX8_farOf sh [.int a, .int b] M (PD sh (some (.int (hfF a b))) M) := by
  refine Sem_of rfl (fun G => (Nat.le_of_ble_eq_true rfl)) (fun G => ?_)
  refine Bd_iload_0 (pc := 0) dX8_farOf_0 ?_
  refine Bd_bipush (v := 9) (pc := 1) dX8_farOf_1 (by decide) ?_
  refine Bd_irem (pc := 3) dX8_farOf_3 (by decide) ?_
  refine Bd_iload_1 (pc := 4) dX8_farOf_4 ?_
  refine Bd_bipush (v := 9) (pc := 5) dX8_farOf_5 (by decide) ?_
  refine Bd_irem (pc := 7) dX8_farOf_7 (by decide) ?_
  refine Bd_isub (pc := 8) dX8_farOf_8 ?_
  refine Bd_callS1i (cd := mX8_size) (pc := 9) dX8_farOf_9 k_1027 v_X8_size ⟨(Nat.le_of_ble_eq_true rfl), (Nat.le_of_ble_eq_true rfl)⟩ sem_X8_size (Nat.le_of_ble_eq_true rfl) ?_
  refine Bd_istore_2 (pc := 12) dX8_farOf_12 (Nat.le_of_ble_eq_true rfl) rfl ?_
  refine Bd_iload_0 (pc := 13) dX8_farOf_13 ?_
  refine Bd_bipush (v := 9) (pc := 14) dX8_farOf_14 (by decide) ?_
  refine Bd_idiv (pc := 16) dX8_farOf_16 (by decide) ?_
  refine Bd_iload_1 (pc := 17) dX8_farOf_17 ?_
  refine Bd_bipush (v := 9) (pc := 18) dX8_farOf_18 (by decide) ?_
  refine Bd_idiv (pc := 20) dX8_farOf_20 (by decide) ?_
  refine Bd_isub (pc := 21) dX8_farOf_21 ?_
  refine Bd_callS1i (cd := mX8_size) (pc := 22) dX8_farOf_22 k_1027 v_X8_size ⟨(Nat.le_of_ble_eq_true rfl), (Nat.le_of_ble_eq_true rfl)⟩ sem_X8_size (Nat.le_of_ble_eq_true rfl) ?_
  refine Bd_istore_3 (pc := 25) dX8_farOf_25 (Nat.le_of_ble_eq_true rfl) rfl ?_
  refine Bd_iload_2 (pc := 26) dX8_farOf_26 ?_
  refine Bd_iload_3 (pc := 27) dX8_farOf_27 ?_
  refine Bd_icmp_le (t := 35) (pc := 28) dX8_farOf_28 (by decide) (fun b28 => ?_) (fun b28 => ?_)
  · refine Bd_iload_3 (pc := 35) dX8_farOf_35 ?_
    refine Bd_iret (pc := 36) dX8_farOf_36 rfl ?_
    exact PD_i (by rw [hfF, ← mx_le, if_pos b28]) rfl
  · refine Bd_iload_2 (pc := 31) dX8_farOf_31 ?_
    refine Bd_goto (t := 36) (pc := 32) dX8_farOf_32 (by decide) ?_
    refine Bd_iret (pc := 36) dX8_farOf_36 rfl ?_
    exact PD_i (by rw [hfF, ← mx_le, if_neg b28]) rfl
def raF (by_ wd : Int32) : Int32 := if (0 < by_ ∧ wd = 0) ∨ (by_ < 0 ∧ wd = 2) then abF by_ else 0
theorem ra17 : ∀ w, w < 3 → ∀ n, n < 17 → raF (nI n - 8) (nI w) = agF (nI n - 8) (nI w) := by decide +kernel
theorem ra_ag {x wd : Int32} (hx : bt x (-8) 8) (hw : bt wd 0 2) : raF x wd = agF x wd := by
  have h1 := cn_of hw
  have e8 : (8 : Int32).toInt = 8 := by decide
  have hp := i32_add (x := x) (y := 8) (by have := hx.1; omega) (by have := hx.2; omega)
  have h2 := cn_of (x := x + 8) (hi := 16) ⟨by have := hx.1; omega, by have := hx.2; omega⟩
  have e : x = nI (cn (x + 8)) - 8 := by rw [← h2.1]; simp
  rw [e, h1.1]
  exact ra17 _ (by have := h1.2.2; omega) _ (by have := h2.2.2; omega)
set_option maxRecDepth 100000 in
set_option maxHeartbeats 4000000 in
theorem sem_X8_against {sh : List Ds} {M : Mem} {x wd : Int32} : Sem mX8_against sh [.int x, .int wd] M (PD sh (some (.int (raF x wd))) M) := by
  refine Sem_of rfl (fun G => (Nat.le_of_ble_eq_true rfl)) (fun G => ?_)
  refine Bd_iload_0 (pc := 0) dX8_against_0 ?_
  refine Bd_if_le (t := 8) (pc := 1) dX8_against_1 (by decide) (fun b1 => ?_) (fun b1 => ?_)
  · refine Bd_iload_0 (pc := 8) dX8_against_8 ?_
    refine Bd_if_ge (t := 24) (pc := 9) dX8_against_9 (by decide) (fun b9 => ?_) (fun b9 => ?_)
    · refine Bd_iconst (v := 0) (pc := 24) dX8_against_24 (by decide) ?_
      refine Bd_iret (pc := 25) dX8_against_25 rfl ?_
      exact PD_i (by rw [raF, if_neg (fun q => q.elim (fun q => Int32.not_lt.mpr b1 q.1) (fun q => Int32.not_lt.mpr b9 q.1))]) rfl
    · refine Bd_iload_1 (pc := 12) dX8_against_12 ?_
      refine Bd_iconst (v := 2) (pc := 13) dX8_against_13 (by decide) ?_
      refine Bd_icmp_ne (t := 24) (pc := 14) dX8_against_14 (by decide) (fun b14 => ?_) (fun b14 => ?_)
      · refine Bd_iconst (v := 0) (pc := 24) dX8_against_24 (by decide) ?_
        refine Bd_iret (pc := 25) dX8_against_25 rfl ?_
        exact PD_i (by rw [raF, if_neg (fun q => q.elim (fun q => Int32.not_lt.mpr b1 q.1) (fun q => b14 q.2))]) rfl
      · refine Bd_iload_0 (pc := 17) dX8_against_17 ?_
        refine Bd_callS1i (cd := mX8_size) (pc := 18) dX8_against_18 k_1027 v_X8_size ⟨(Nat.le_of_ble_eq_true rfl), (Nat.le_of_ble_eq_true rfl)⟩ sem_X8_size (Nat.le_of_ble_eq_true rfl) ?_
        refine Bd_goto (t := 25) (pc := 21) dX8_against_21 (by decide) ?_
        refine Bd_iret (pc := 25) dX8_against_25 rfl ?_
        exact PD_i (by rw [raF, if_pos (Or.inr ⟨Int32.not_le.mp b9, b14⟩)]) rfl
  · refine Bd_iload_1 (pc := 4) dX8_against_4 ?_
    refine Bd_if_eq (t := 17) (pc := 5) dX8_against_5 (by decide) (fun b5 => ?_) (fun b5 => ?_)
    · refine Bd_iload_0 (pc := 17) dX8_against_17 ?_
      refine Bd_callS1i (cd := mX8_size) (pc := 18) dX8_against_18 k_1027 v_X8_size ⟨(Nat.le_of_ble_eq_true rfl), (Nat.le_of_ble_eq_true rfl)⟩ sem_X8_size (Nat.le_of_ble_eq_true rfl) ?_
      refine Bd_goto (t := 25) (pc := 21) dX8_against_21 (by decide) ?_
      refine Bd_iret (pc := 25) dX8_against_25 rfl ?_
      exact PD_i (by rw [raF, if_pos (Or.inl ⟨Int32.not_le.mp b1, b5⟩)]) rfl
    · refine Bd_iload_0 (pc := 8) dX8_against_8 ?_
      refine Bd_if_ge (t := 24) (pc := 9) dX8_against_9 (by decide) (fun b9 => ?_) (fun b9 => ?_)
      · refine Bd_iconst (v := 0) (pc := 24) dX8_against_24 (by decide) ?_
        refine Bd_iret (pc := 25) dX8_against_25 rfl ?_
        exact PD_i (by rw [raF, if_neg (fun q => q.elim (fun q => b5 q.2) (fun q => Int32.not_lt.mpr b9 q.1))]) rfl
      · refine Bd_iload_1 (pc := 12) dX8_against_12 ?_
        refine Bd_iconst (v := 2) (pc := 13) dX8_against_13 (by decide) ?_
        refine Bd_icmp_ne (t := 24) (pc := 14) dX8_against_14 (by decide) (fun b14 => ?_) (fun b14 => ?_)
        · refine Bd_iconst (v := 0) (pc := 24) dX8_against_24 (by decide) ?_
          refine Bd_iret (pc := 25) dX8_against_25 rfl ?_
          exact PD_i (by rw [raF, if_neg (fun q => q.elim (fun q => b5 q.2) (fun q => b14 q.2))]) rfl
        · refine Bd_iload_0 (pc := 17) dX8_against_17 ?_
          refine Bd_callS1i (cd := mX8_size) (pc := 18) dX8_against_18 k_1027 v_X8_size ⟨(Nat.le_of_ble_eq_true rfl), (Nat.le_of_ble_eq_true rfl)⟩ sem_X8_size (Nat.le_of_ble_eq_true rfl) ?_
          refine Bd_goto (t := 25) (pc := 21) dX8_against_21 (by decide) ?_
          refine Bd_iret (pc := 25) dX8_against_25 rfl ?_
          exact PD_i (by rw [raF, if_pos (Or.inr ⟨Int32.not_le.mp b9, b14⟩)]) rfl
abbrev c81 (a : Int32) : Prop := 0 ≤ a ∧ a < 81
theorem md81 : ∀ n, n < 81 → (0 ≤ (md9 (nI n)).toInt ∧ (md9 (nI n)).toInt ≤ 8) ∧ (0 ≤ (nI n / 9).toInt ∧ (nI n / 9).toInt ≤ 8) := by decide +kernel
theorem c81_n {a : Int32} (h : c81 a) : a = nI (cn a) ∧ cn a < 81 := vp_cn (n := 81) (vpP h (by decide)) (by omega)
theorem c81_b {a : Int32} (h : c81 a) : bt (md9 a) 0 8 ∧ bt (a / 9) 0 8 := by
  have h1 := c81_n h
  have h2 := md81 _ h1.2
  rw [← h1.1] at h2
  exact h2
theorem bt_sub8 {x y : Int32} (hx : bt x 0 8) (hy : bt y 0 8) : bt (x - y) (-8) 8 := by
  obtain ⟨x1, x2⟩ := hx
  obtain ⟨y1, y2⟩ := hy
  have := i32_sub (x := x) (y := y) (by omega) (by omega)
  exact ⟨by omega, by omega⟩
theorem WF.wd {C : Mem} (h : WF C) : bt (C 45 4) 0 2 ∧ bt (C 45 5) 0 2 := ⟨h.1.1.2.2.2.2.1, h.1.1.2.2.2.2.2⟩
set_option maxRecDepth 100000 in
set_option maxHeartbeats 4000000 in
theorem sem_X8_takesOf {C M : Mem} (h : RK C M) {a b : Int32} (ha : c81 a) (hb : c81 b) : Sem mX8_takesOf SH [.ref 58, .int a, .int b] M (PD SH (some (.int (sdF C a b))) (M)) := by
  refine Sem_of rfl (fun G => (Nat.le_of_ble_eq_true rfl)) (fun G => ?_)
  refine Bd_aload_0 (pc := 0) dX8_takesOf_0 ?_
  refine Bd_getR (j := 1) ck8 (pc := 1) dX8_takesOf_1 k_787 rfl (Nat.le_of_ble_eq_true rfl) rfl ?_
  refine Bd_iconst (v := 2) (pc := 4) dX8_takesOf_4 (by decide) ?_
  refine Bd_ialdc (j := 2) rfl (pc := 5) dX8_takesOf_5 rfl (by unfold vp_in; decide) ?_
  refine Bd_iload_1 (pc := 6) dX8_takesOf_6 ?_
  refine Bd_iload_2 (pc := 7) dX8_takesOf_7 ?_
  refine Bd_callS2i (cd := mX8_farOf) (pc := 8) dX8_takesOf_8 k_1024 v_X8_farOf ⟨(Nat.le_of_ble_eq_true rfl), (Nat.le_of_ble_eq_true rfl)⟩ sem_X8_farOf (Nat.le_of_ble_eq_true rfl) ?_
  refine Bd_imul (pc := 11) dX8_takesOf_11 ?_
  refine Bd_iload_2 (pc := 12) dX8_takesOf_12 ?_
  refine Bd_bipush (v := 9) (pc := 13) dX8_takesOf_13 (by decide) ?_
  refine Bd_irem (pc := 15) dX8_takesOf_15 (by decide) ?_
  refine Bd_iload_1 (pc := 16) dX8_takesOf_16 ?_
  refine Bd_bipush (v := 9) (pc := 17) dX8_takesOf_17 (by decide) ?_
  refine Bd_irem (pc := 19) dX8_takesOf_19 (by decide) ?_
  refine Bd_isub (pc := 20) dX8_takesOf_20 ?_
  refine Bd_aload_0 (pc := 21) dX8_takesOf_21 ?_
  refine Bd_getR (j := 0) ck8 (pc := 22) dX8_takesOf_22 k_786 rfl (Nat.le_of_ble_eq_true rfl) rfl ?_
  refine Bd_bipush (v := 12) (pc := 25) dX8_takesOf_25 (by decide) ?_
  refine Bd_ialdc (j := 12) rfl (pc := 27) dX8_takesOf_27 rfl (by unfold vp_in; decide) ?_
  refine Bd_callS2i (cd := mX8_against) (pc := 28) dX8_takesOf_28 k_1030 v_X8_against ⟨(Nat.le_of_ble_eq_true rfl), (Nat.le_of_ble_eq_true rfl)⟩ sem_X8_against (Nat.le_of_ble_eq_true rfl) ?_
  refine Bd_iadd (pc := 31) dX8_takesOf_31 ?_
  refine Bd_iload_2 (pc := 32) dX8_takesOf_32 ?_
  refine Bd_bipush (v := 9) (pc := 33) dX8_takesOf_33 (by decide) ?_
  refine Bd_idiv (pc := 35) dX8_takesOf_35 (by decide) ?_
  refine Bd_iload_1 (pc := 36) dX8_takesOf_36 ?_
  refine Bd_bipush (v := 9) (pc := 37) dX8_takesOf_37 (by decide) ?_
  refine Bd_idiv (pc := 39) dX8_takesOf_39 (by decide) ?_
  refine Bd_isub (pc := 40) dX8_takesOf_40 ?_
  refine Bd_aload_0 (pc := 41) dX8_takesOf_41 ?_
  refine Bd_getR (j := 0) ck8 (pc := 42) dX8_takesOf_42 k_786 rfl (Nat.le_of_ble_eq_true rfl) rfl ?_
  refine Bd_bipush (v := 13) (pc := 45) dX8_takesOf_45 (by decide) ?_
  refine Bd_ialdc (j := 13) rfl (pc := 47) dX8_takesOf_47 rfl (by unfold vp_in; decide) ?_
  refine Bd_callS2i (cd := mX8_against) (pc := 48) dX8_takesOf_48 k_1030 v_X8_against ⟨(Nat.le_of_ble_eq_true rfl), (Nat.le_of_ble_eq_true rfl)⟩ sem_X8_against (Nat.le_of_ble_eq_true rfl) ?_
  refine Bd_iadd (pc := 51) dX8_takesOf_51 ?_
  refine Bd_iret (pc := 52) dX8_takesOf_52 rfl ?_
  exact PD_i (by
    rw [h.2.1.1.1 2 (by decide), h.wd.1, h.wd.2, ra_ag (bt_sub8 (c81_b hb).1 (c81_b ha).1) h.1.wd.1, ra_ag (bt_sub8 (c81_b hb).2 (c81_b ha).2) h.1.wd.2, sdF, Int32.add_assoc]) rfl
theorem le_pred {x X : Int32} (h : 0 ≤ X.toInt) : x ≤ X - 1 ↔ x < X := by
  have h2 := X.toInt_lt
  have e1 : (1 : Int32).toInt = 1 := by decide
  rw [Int32.le_iff_toInt_le, Int32.lt_iff_toInt_lt, i32_sub (by omega) (by omega), e1]
  omega
theorem in_pred {x X : Int32} (h : 0 ≤ X.toInt) : (0 ≤ x ∧ x ≤ X - 1) ↔ (0 ≤ x ∧ x < X) := and_congr_right (fun _ => le_pred h)
theorem RF.g {C M : Mem} (h : RF C M) : (awM M) 59 113 = C 44 6 := h.aw.2.1.1.2.2.1
set_option maxRecDepth 100000 in
set_option maxHeartbeats 4000000 in
theorem sem_X8_isTower {C M : Mem} (h : RF C M) {t : Int32} : Sem mX8_isTower SH [.ref 58, .int t] M (PD SH (some (.int (b2 (0 ≤ t ∧ t < C 44 6)))) (awM M)) := by
  refine Sem_of rfl (fun G => (Nat.le_of_ble_eq_true rfl)) (fun G => ?_)
  refine Bd_aload_0 (pc := 0) dX8_isTower_0 ?_
  refine Bd_callV0v (cd := mX8_awake) (pc := 1) dX8_isTower_1 k_965 v_X8_awake ⟨(Nat.le_of_ble_eq_true rfl), (Nat.le_of_ble_eq_true rfl)⟩ rfl rfl (sem_X8_awake h.a6) (Nat.le_of_ble_eq_true rfl) ?_
  refine Bd_iload_1 (pc := 4) dX8_isTower_4 ?_
  refine Bd_i2l (pc := 5) dX8_isTower_5 ?_
  refine Bd_lconst (v := 0) (pc := 6) dX8_isTower_6 (by decide) ?_
  refine Bd_aload_0 (pc := 7) dX8_isTower_7 ?_
  refine Bd_getR (j := 0) ck8 (pc := 8) dX8_isTower_8 k_786 rfl (Nat.le_of_ble_eq_true rfl) rfl ?_
  refine Bd_bipush (v := 113) (pc := 11) dX8_isTower_11 (by decide) ?_
  refine Bd_ialdc (j := 113) rfl (pc := 13) dX8_isTower_13 rfl (by unfold vp_in; decide) ?_
  refine Bd_iconst (v := 1) (pc := 14) dX8_isTower_14 (by decide) ?_
  refine Bd_isub (pc := 15) dX8_isTower_15 ?_
  refine Bd_i2l (pc := 16) dX8_isTower_16 ?_
  refine Bd_callS3i (cd := mX8_in) (pc := 17) dX8_isTower_17 k_910 v_X8_in ⟨(Nat.le_of_ble_eq_true rfl), (Nat.le_of_ble_eq_true rfl)⟩ (sem_in (a := 0) (by decide) rfl) (Nat.le_of_ble_eq_true rfl) ?_
  refine Bd_zret (pc := 20) dX8_isTower_20 rfl b2_nar ?_
  exact PD_i (b2_c (by rw [h.g]; exact in_pred h.1.1.2.1.1.1)) rfl
theorem hc_iff {C : Mem} (h : WF C) {c : Int32} : (0 ≤ c ∧ md9 c < C 45 0 ∧ c / 9 < C 45 1) ↔ hcF C 45 c := by
  constructor
  · rintro ⟨h1, h2, h3⟩
    refine ⟨⟨h1, ?_⟩, h2, h3⟩
    have h4 := h.1.1.2.1.2
    rw [Int32.lt_iff_toInt_lt] at h3 ⊢
    rw [Int32.le_iff_toInt_le, Int32.toInt_zero] at h1
    rw [Int32.toInt_div_of_ne_right _ _ (by decide), show (9 : Int32).toInt = 9 by decide] at h3
    rw [show (81 : Int32).toInt = 81 by decide]
    rw [Int.tdiv_eq_ediv_of_nonneg h1] at h3
    omega
  · rintro ⟨h1, h2, h3⟩
    exact ⟨h1.1, h2, h3⟩
set_option maxRecDepth 100000 in
set_option maxHeartbeats 4000000 in
theorem sem_X8_isCell {C M : Mem} (h : RF C M) {c : Int32} : Sem mX8_isCell SH [.ref 58, .int c] M (PD SH (some (.int (b2 (hcF C 45 c)))) (awM M)) := by
  refine Sem_of rfl (fun G => (Nat.le_of_ble_eq_true rfl)) (fun G => ?_)
  refine Bd_aload_0 (pc := 0) dX8_isCell_0 ?_
  refine Bd_callV0v (cd := mX8_awake) (pc := 1) dX8_isCell_1 k_965 v_X8_awake ⟨(Nat.le_of_ble_eq_true rfl), (Nat.le_of_ble_eq_true rfl)⟩ rfl rfl (sem_X8_awake h.a6) (Nat.le_of_ble_eq_true rfl) ?_
  refine Bd_iload_1 (pc := 4) dX8_isCell_4 ?_
  refine Bd_if_lt (t := 38) (pc := 5) dX8_isCell_5 (by decide) (fun b5 => ?_) (fun b5 => ?_)
  · refine Bd_iconst (v := 0) (pc := 38) dX8_isCell_38 (by decide) ?_
    refine Bd_zret (pc := 39) dX8_isCell_39 rfl rfl ?_
    have e0 : (awM M) 60 0 = C 45 0 := h.aw.2.1.1.1 0 (by decide)
    have e1 : (awM M) 60 1 = C 45 1 := h.aw.2.1.1.1 1 (by decide)
    exact PD_i (b2_f (fun q => Int32.not_lt.mpr q.1.1 b5)) rfl
  · refine Bd_iload_1 (pc := 8) dX8_isCell_8 ?_
    refine Bd_bipush (v := 9) (pc := 9) dX8_isCell_9 (by decide) ?_
    refine Bd_irem (pc := 11) dX8_isCell_11 (by decide) ?_
    refine Bd_aload_0 (pc := 12) dX8_isCell_12 ?_
    refine Bd_getR (j := 1) ck8 (pc := 13) dX8_isCell_13 k_787 rfl (Nat.le_of_ble_eq_true rfl) rfl ?_
    refine Bd_iconst (v := 0) (pc := 16) dX8_isCell_16 (by decide) ?_
    refine Bd_ialdc (j := 0) rfl (pc := 17) dX8_isCell_17 rfl (by unfold vp_in; decide) ?_
    refine Bd_icmp_ge (t := 38) (pc := 18) dX8_isCell_18 (by decide) (fun b18 => ?_) (fun b18 => ?_)
    · refine Bd_iconst (v := 0) (pc := 38) dX8_isCell_38 (by decide) ?_
      refine Bd_zret (pc := 39) dX8_isCell_39 rfl rfl ?_
      have e0 : (awM M) 60 0 = C 45 0 := h.aw.2.1.1.1 0 (by decide)
      have e1 : (awM M) 60 1 = C 45 1 := h.aw.2.1.1.1 1 (by decide)
      rw [e0] at b18
      exact PD_i (b2_f (fun q => Int32.not_lt.mpr b18 q.2.1)) rfl
    · refine Bd_iload_1 (pc := 21) dX8_isCell_21 ?_
      refine Bd_bipush (v := 9) (pc := 22) dX8_isCell_22 (by decide) ?_
      refine Bd_idiv (pc := 24) dX8_isCell_24 (by decide) ?_
      refine Bd_aload_0 (pc := 25) dX8_isCell_25 ?_
      refine Bd_getR (j := 1) ck8 (pc := 26) dX8_isCell_26 k_787 rfl (Nat.le_of_ble_eq_true rfl) rfl ?_
      refine Bd_iconst (v := 1) (pc := 29) dX8_isCell_29 (by decide) ?_
      refine Bd_ialdc (j := 1) rfl (pc := 30) dX8_isCell_30 rfl (by unfold vp_in; decide) ?_
      refine Bd_icmp_ge (t := 38) (pc := 31) dX8_isCell_31 (by decide) (fun b31 => ?_) (fun b31 => ?_)
      · refine Bd_iconst (v := 0) (pc := 38) dX8_isCell_38 (by decide) ?_
        refine Bd_zret (pc := 39) dX8_isCell_39 rfl rfl ?_
        have e0 : (awM M) 60 0 = C 45 0 := h.aw.2.1.1.1 0 (by decide)
        have e1 : (awM M) 60 1 = C 45 1 := h.aw.2.1.1.1 1 (by decide)
        rw [e1] at b31
        exact PD_i (b2_f (fun q => Int32.not_lt.mpr b31 q.2.2)) rfl
      · refine Bd_iconst (v := 1) (pc := 34) dX8_isCell_34 (by decide) ?_
        refine Bd_goto (t := 39) (pc := 35) dX8_isCell_35 (by decide) ?_
        refine Bd_zret (pc := 39) dX8_isCell_39 rfl rfl ?_
        have e0 : (awM M) 60 0 = C 45 0 := h.aw.2.1.1.1 0 (by decide)
        have e1 : (awM M) 60 1 = C 45 1 := h.aw.2.1.1.1 1 (by decide)
        rw [e0] at b18
        rw [e1] at b31
        exact PD_i (b2_t ((hc_iff h.1).mp ⟨Int32.not_lt.mp b5, Int32.not_le.mp b18, Int32.not_le.mp b31⟩)) rfl
theorem sem_isTowerK {C M : Mem} (h : RK C M) {t : Int32} : Sem mX8_isTower SH [.ref 58, .int t] M (PD SH (some (.int (b2 (0 ≤ t ∧ t < C 44 6)))) M) := by
  have q := sem_X8_isTower h.rf (t := t)
  rw [awM_id h.2.2] at q
  exact q
theorem sem_isCellK {C M : Mem} (h : RK C M) {c : Int32} : Sem mX8_isCell SH [.ref 58, .int c] M (PD SH (some (.int (b2 (hcF C 45 c)))) M) := by
  have q := sem_X8_isCell h.rf (c := c)
  rw [awM_id h.2.2] at q
  exact q
theorem WF.tc {C : Mem} (h : WF C) {t : Nat} (ht : t < cn (C 44 6)) : c81 (C 46 t) := (h.1.2.2.1 t ht).1.1
theorem WF.hl {C : Mem} (h : WF C) {k : Nat} (hk : k < cn (C 44 7)) : c81 (C 48 k) := (h.1.2.2.2.1 k hk).1
theorem WF.bt' {C : Mem} (h : WF C) {i : Nat} (hi : i < cn (C 5 4)) : C 6 i = nI (cn (C 6 i)) ∧ cn (C 6 i) < cn (C 44 6) := by
  have h1 := (h.2.1.2.2.1 i hi).1
  have h2 := cn_of (x := C 6 i) (hi := (C 44 6).toInt - 1) h1
  have h3 := (cn_of h.1.2.1.1).2.1
  exact ⟨h2.1, by have := h2.2.2; omega⟩
set_option maxRecDepth 100000 in
set_option maxHeartbeats 4000000 in
theorem sem_X8_comes {C M : Mem} (h : RK C M) {i : Nat} (hi : i < cn (C 5 4)) {c : Int32} (hc : c81 c) : Sem mX8_comes SH [.ref 58, .int (nI i), .int c] M (PD SH (some (.int (cmF C i c))) (M)) := by
  have ht := h.1.bt' hi
  have q3 := h.1.nt6
  refine Sem_of rfl (fun G => (Nat.le_of_ble_eq_true rfl)) (fun G => ?_)
  refine Bd_aload_0 (pc := 0) dX8_comes_0 ?_
  refine Bd_iload_1 (pc := 1) dX8_comes_1 ?_
  refine Bd_callV1i (cd := mX8_beatOf) (pc := 2) dX8_comes_2 k_1059 v_X8_beatOf ⟨(Nat.le_of_ble_eq_true rfl), (Nat.le_of_ble_eq_true rfl)⟩ rfl rfl (sem_X8_beatOf h.rf hi) (Nat.le_of_ble_eq_true rfl) ?_
  refine Bd_aload_0 (pc := 5) dX8_comes_5 ?_
  refine Bd_aload_0 (pc := 6) dX8_comes_6 ?_
  refine Bd_getR (j := 0) ck8 (pc := 7) dX8_comes_7 k_786 rfl (Nat.le_of_ble_eq_true rfl) rfl ?_
  refine Bd_iconst (v := 0) (pc := 10) dX8_comes_10 (by decide) ?_
  refine Bd_aload_0 (pc := 11) dX8_comes_11 ?_
  refine Bd_iload_1 (pc := 12) dX8_comes_12 ?_
  refine Bd_callV1i (cd := mX8_towerOf) (pc := 13) dX8_comes_13 k_1000 v_X8_towerOf ⟨(Nat.le_of_ble_eq_true rfl), (Nat.le_of_ble_eq_true rfl)⟩ rfl rfl (sem_X8_towerOf h.rf hi) (Nat.le_of_ble_eq_true rfl) ?_
  refine Bd_iadd (pc := 16) dX8_comes_16 ?_
  refine Bd_ialdc (j := cn (C 6 i)) (by rw [Int32.zero_add]) (pc := 17) dX8_comes_17 rfl (by rw [Int32.zero_add, ht.1]; exact vpi (by omega) (by omega)) ?_
  refine Bd_iload_2 (pc := 18) dX8_comes_18 ?_
  refine Bd_callV2i (cd := mX8_takesOf) (pc := 19) dX8_comes_19 k_1020 v_X8_takesOf ⟨(Nat.le_of_ble_eq_true rfl), (Nat.le_of_ble_eq_true rfl)⟩ rfl rfl (sem_X8_takesOf h (by rw [(h.2.1.1.2.2.2.1 _ ht.2).1]; exact h.1.tc ht.2) hc) (Nat.le_of_ble_eq_true rfl) ?_
  refine Bd_iadd (pc := 22) dX8_comes_22 ?_
  refine Bd_iret (pc := 23) dX8_comes_23 rfl ?_
  exact PD_i (by rw [(h.2.1.1.2.2.2.1 _ ht.2).1]) rfl
