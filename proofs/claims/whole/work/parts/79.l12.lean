/-! 79: land of the reference: names, numbers -/
def RU (N : Mem) : Prop := UI N ∧ (N 58 20 = 0 ∨ 0 < N 58 20) ∧ ∀ k, k < uL N → 0 ≤ N 67 k
theorem RU_c {N N' : Mem} (h : RU N) (e1 : N' 58 18 = N 58 18) (e2 : N' 58 20 = 0 ∨ 0 < N' 58 20) (e3 : N' 58 22 = N 58 22) (e4 : N' 67 = N 67) : RU N' := by
  unfold RU UI uI uL at *
  rw [e1, e3, e4]
  exact ⟨h.1, e2, h.2.2⟩
theorem sem_X8_step' {N : Mem} (h : RU N) : Sem mX8_step SH [.ref 58] N (PD SH none (stM N)) := sem_X8_step h.1 h.2.1 h.2.2
theorem flM_20 {N : Mem} {c : Int32} (h : N 58 20 = 0) : flM N c 58 20 = c := by rw [flM_0 h]; rfl
theorem flM_RU {N : Mem} {c : Int32} (h : RU N) (hc : 0 < c) : RU (flM N c) := by
  by_cases z : N 58 20 = 0
  · rw [flM_0 z]; exact RU_c h rfl (Or.inr hc) rfl rfl
  · rw [flM_1 z]; exact h
theorem stN_RU {N : Mem} (h : RU N) : RU (stN N) := by
  have h1 := sR_b h.1
  have h2 := tkE_b (f := N 67) h1.2
  have h3 := h.1.2.2.2
  have e22 : stN N 58 22 = nI (rkE (N 67) (uL N) (sR N)) := by unfold stN; rw [stG_j]; rfl
  have e18 : stN N 58 18 = N 58 18 := by unfold stN; rw [stG_j]; rfl
  have e20 : stN N 58 20 = N 58 20 := by unfold stN; rw [stG_j]; rfl
  have e67 : stN N 67 = N 67 := stG_ne (by decide)
  have eI : uI (stN N) = rkE (N 67) (uL N) (sR N) := by show cn (stN N 58 22) = _; rw [e22]; exact nI_clamp (by unfold rkE; omega)
  have eL : uL (stN N) = uL N := by show cn (stN N 58 18) = _; rw [e18]
  refine ⟨⟨by rw [eI, e22], by rw [eL, e18]; exact h.1.2.1, ?_, by rw [eL]; exact h3⟩, by rw [e20]; exact h.2.1, by rw [eL, e67]; exact h.2.2⟩
  rw [eI, eL]; exact h2.2.1
theorem stM_RU {N : Mem} (h : RU N) : RU (stM N) := by
  unfold stM
  split
  · split
    · exact flM_RU (stN_RU h) (by decide)
    · exact stN_RU h
  · exact h
def nuV (N : Mem) (a b : Int32) : Int32 := if N 58 20 = 0 ∧ N 58 24 = 2 ∧ a ≤ N 58 25 ∧ N 58 25 ≤ b then N 58 25 else a
def nuM (N : Mem) (a b : Int32) : Mem := if N 58 20 = 0 then (if N 58 24 = 2 then (if a ≤ N 58 25 ∧ N 58 25 ≤ b then stM N else flM N 3) else flM N 2) else N
theorem nuM_RU {N : Mem} {a b : Int32} (h : RU N) : RU (nuM N a b) := by
  unfold nuM
  split
  · split
    · split
      · exact stM_RU h
      · exact flM_RU h (by decide)
    · exact flM_RU h (by decide)
  · exact h
set_option maxRecDepth 100000 in
set_option maxHeartbeats 4000000 in
theorem sem_X8_step0 {N : Mem} (h : 0 < N 58 20) : Sem mX8_step SH [.ref 58] N (PD SH none N) := by
  refine Sem_of rfl (fun G => (Nat.le_of_ble_eq_true rfl)) (fun G => ?_)
  refine Bd_aload_0 (pc := 0) dX8_step_0 ?_
  refine Bd_getI (j := 20) ck8 (pc := 1) dX8_step_1 k_806 rfl (Nat.le_of_ble_eq_true rfl) rfl ?_
  refine Bd_if_le (t := 8) (pc := 4) dX8_step_4 (by decide) (fun b4 => (show False from absurd b4 (Int32.not_le.mpr h)).elim) (fun b4 => ?_)
  refine Bd_vret (pc := 7) dX8_step_7 rfl ?_
  exact PD_v rfl
set_option maxRecDepth 100000 in
set_option maxHeartbeats 4000000 in
theorem sem_X8_number {N : Mem} {a b : Int32} (h : RU N) : Sem mX8_number SH [.ref 58, .int a, .int b] N (PD SH (some (.int (nuV N a b))) (nuM N a b)) := by
  refine Sem_of rfl (fun G => (Nat.le_of_ble_eq_true rfl)) (fun G => ?_)
  refine Bd_aload_0 (pc := 0) dX8_number_0 ?_
  refine Bd_getI (j := 20) ck8 (pc := 1) dX8_number_1 k_806 rfl (Nat.le_of_ble_eq_true rfl) rfl ?_
  refine Bd_if_ne (t := 20) (pc := 4) dX8_number_4 (by decide) (fun b4 => ?_) (fun b4 => ?_)
  · refine Bd_aload_0 (pc := 20) dX8_number_20 ?_
    refine Bd_getI (j := 20) ck8 (pc := 21) dX8_number_21 k_806 rfl (Nat.le_of_ble_eq_true rfl) rfl ?_
    refine Bd_if_ne (t := 47) (pc := 24) dX8_number_24 (by decide) (fun b24 => ?_) (fun b24 => (show False from b4 b24).elim)
    refine Bd_aload_0 (pc := 47) dX8_number_47 ?_
    refine Bd_getI (j := 20) ck8 (pc := 48) dX8_number_48 k_806 rfl (Nat.le_of_ble_eq_true rfl) rfl ?_
    refine Bd_if_ne (t := 61) (pc := 51) dX8_number_51 (by decide) (fun b51 => ?_) (fun b51 => (show False from b4 b51).elim)
    refine Bd_iload_1 (pc := 61) dX8_number_61 ?_
    refine Bd_istore_3 (pc := 62) dX8_number_62 (Nat.le_of_ble_eq_true rfl) rfl ?_
    refine Bd_aload_0 (pc := 63) dX8_number_63 ?_
    refine Bd_callV0v (cd := mX8_step) (pc := 64) dX8_number_64 k_917 v_X8_step ⟨(Nat.le_of_ble_eq_true rfl), (Nat.le_of_ble_eq_true rfl)⟩ rfl rfl (sem_X8_step0 (h.2.1.elim (fun z => absurd z b4) id)) (Nat.le_of_ble_eq_true rfl) ?_
    refine Bd_iload_3 (pc := 67) dX8_number_67 ?_
    refine Bd_iret (pc := 68) dX8_number_68 rfl ?_
    exact PD_i (by unfold nuV; rw [if_neg (fun z => b4 z.1)]) (by unfold nuM; rw [if_neg b4])
  · refine Bd_aload_0 (pc := 7) dX8_number_7 ?_
    refine Bd_getI (j := 24) ck8 (pc := 8) dX8_number_8 k_810 rfl (Nat.le_of_ble_eq_true rfl) rfl ?_
    refine Bd_iconst (v := 2) (pc := 11) dX8_number_11 (by decide) ?_
    refine Bd_icmp_eq (t := 20) (pc := 12) dX8_number_12 (by decide) (fun b12 => ?_) (fun b12 => ?_)
    · refine Bd_aload_0 (pc := 20) dX8_number_20 ?_
      refine Bd_getI (j := 20) ck8 (pc := 21) dX8_number_21 k_806 rfl (Nat.le_of_ble_eq_true rfl) rfl ?_
      refine Bd_if_ne (t := 47) (pc := 24) dX8_number_24 (by decide) (fun b24 => (show False from b24 b4).elim) (fun b24 => ?_)
      refine Bd_aload_0 (pc := 27) dX8_number_27 ?_
      refine Bd_getI (j := 25) ck8 (pc := 28) dX8_number_28 k_811 rfl (Nat.le_of_ble_eq_true rfl) rfl ?_
      refine Bd_i2l (pc := 31) dX8_number_31 ?_
      refine Bd_iload_1 (pc := 32) dX8_number_32 ?_
      refine Bd_i2l (pc := 33) dX8_number_33 ?_
      refine Bd_iload_2 (pc := 34) dX8_number_34 ?_
      refine Bd_i2l (pc := 35) dX8_number_35 ?_
      refine Bd_callS3i (cd := mX8_in) (pc := 36) dX8_number_36 k_910 v_X8_in ⟨(Nat.le_of_ble_eq_true rfl), (Nat.le_of_ble_eq_true rfl)⟩ (sem_in rfl rfl) (Nat.le_of_ble_eq_true rfl) ?_
      refine Bd_if_ne (t := 47) (pc := 39) dX8_number_39 (by decide) (fun b39 => ?_) (fun b39 => ?_)
      · refine Bd_aload_0 (pc := 47) dX8_number_47 ?_
        refine Bd_getI (j := 20) ck8 (pc := 48) dX8_number_48 k_806 rfl (Nat.le_of_ble_eq_true rfl) rfl ?_
        refine Bd_if_ne (t := 61) (pc := 51) dX8_number_51 (by decide) (fun b51 => (show False from b51 b4).elim) (fun b51 => ?_)
        refine Bd_aload_0 (pc := 54) dX8_number_54 ?_
        refine Bd_getI (j := 25) ck8 (pc := 55) dX8_number_55 k_811 rfl (Nat.le_of_ble_eq_true rfl) rfl ?_
        refine Bd_goto (t := 62) (pc := 58) dX8_number_58 (by decide) ?_
        refine Bd_istore_3 (pc := 62) dX8_number_62 (Nat.le_of_ble_eq_true rfl) rfl ?_
        refine Bd_aload_0 (pc := 63) dX8_number_63 ?_
        refine Bd_callV0v (cd := mX8_step) (pc := 64) dX8_number_64 k_917 v_X8_step ⟨(Nat.le_of_ble_eq_true rfl), (Nat.le_of_ble_eq_true rfl)⟩ rfl rfl (sem_X8_step' h) (Nat.le_of_ble_eq_true rfl) ?_
        refine Bd_iload_3 (pc := 67) dX8_number_67 ?_
        refine Bd_iret (pc := 68) dX8_number_68 rfl ?_
        exact PD_i (by unfold nuV; rw [if_pos ⟨b4, b12, b2_n.mp b39⟩]) (by unfold nuM; rw [if_pos b4, if_pos b12, if_pos (b2_n.mp b39)])
      · refine Bd_aload_0 (pc := 42) dX8_number_42 ?_
        refine Bd_iconst (v := 3) (pc := 43) dX8_number_43 (by decide) ?_
        refine Bd_callV1v (cd := mX8_fails) (pc := 44) dX8_number_44 k_929 v_X8_fails ⟨(Nat.le_of_ble_eq_true rfl), (Nat.le_of_ble_eq_true rfl)⟩ rfl rfl sem_X8_fails (Nat.le_of_ble_eq_true rfl) ?_
        refine Bd_cM ?_ (flM_0 b4).symm
        refine Bd_aload_0 (pc := 47) dX8_number_47 ?_
        refine Bd_getI (j := 20) ck8 (pc := 48) dX8_number_48 k_806 rfl (Nat.le_of_ble_eq_true rfl) rfl ?_
        refine Bd_if_ne (t := 61) (pc := 51) dX8_number_51 (by decide) (fun b51 => ?_) (fun b51 => (show False from absurd (show (3 : Int32) = 0 from b51) (by decide)).elim)
        refine Bd_iload_1 (pc := 61) dX8_number_61 ?_
        refine Bd_istore_3 (pc := 62) dX8_number_62 (Nat.le_of_ble_eq_true rfl) rfl ?_
        refine Bd_aload_0 (pc := 63) dX8_number_63 ?_
        refine Bd_callV0v (cd := mX8_step) (pc := 64) dX8_number_64 k_917 v_X8_step ⟨(Nat.le_of_ble_eq_true rfl), (Nat.le_of_ble_eq_true rfl)⟩ rfl rfl (sem_X8_step0 (show (0 : Int32) < 3 from by decide)) (Nat.le_of_ble_eq_true rfl) ?_
        refine Bd_iload_3 (pc := 67) dX8_number_67 ?_
        refine Bd_iret (pc := 68) dX8_number_68 rfl ?_
        exact PD_i (by unfold nuV; rw [if_neg (fun z => b2_0.mp b39 z.2.2)]) (by unfold nuM; rw [if_pos b4, if_pos b12, if_neg (b2_0.mp b39), flM_0 b4])
    · refine Bd_aload_0 (pc := 15) dX8_number_15 ?_
      refine Bd_iconst (v := 2) (pc := 16) dX8_number_16 (by decide) ?_
      refine Bd_callV1v (cd := mX8_fails) (pc := 17) dX8_number_17 k_929 v_X8_fails ⟨(Nat.le_of_ble_eq_true rfl), (Nat.le_of_ble_eq_true rfl)⟩ rfl rfl sem_X8_fails (Nat.le_of_ble_eq_true rfl) ?_
      refine Bd_cM ?_ (flM_0 b4).symm
      refine Bd_aload_0 (pc := 20) dX8_number_20 ?_
      refine Bd_getI (j := 20) ck8 (pc := 21) dX8_number_21 k_806 rfl (Nat.le_of_ble_eq_true rfl) rfl ?_
      refine Bd_if_ne (t := 47) (pc := 24) dX8_number_24 (by decide) (fun b24 => ?_) (fun b24 => (show False from absurd (show (2 : Int32) = 0 from b24) (by decide)).elim)
      refine Bd_aload_0 (pc := 47) dX8_number_47 ?_
      refine Bd_getI (j := 20) ck8 (pc := 48) dX8_number_48 k_806 rfl (Nat.le_of_ble_eq_true rfl) rfl ?_
      refine Bd_if_ne (t := 61) (pc := 51) dX8_number_51 (by decide) (fun b51 => ?_) (fun b51 => (show False from absurd (show (2 : Int32) = 0 from b51) (by decide)).elim)
      refine Bd_iload_1 (pc := 61) dX8_number_61 ?_
      refine Bd_istore_3 (pc := 62) dX8_number_62 (Nat.le_of_ble_eq_true rfl) rfl ?_
      refine Bd_aload_0 (pc := 63) dX8_number_63 ?_
      refine Bd_callV0v (cd := mX8_step) (pc := 64) dX8_number_64 k_917 v_X8_step ⟨(Nat.le_of_ble_eq_true rfl), (Nat.le_of_ble_eq_true rfl)⟩ rfl rfl (sem_X8_step0 (show (0 : Int32) < 2 from by decide)) (Nat.le_of_ble_eq_true rfl) ?_
      refine Bd_iload_3 (pc := 67) dX8_number_67 ?_
      refine Bd_iret (pc := 68) dX8_number_68 rfl ?_
      exact PD_i (by unfold nuV; rw [if_neg (fun z => b12 z.2.1)]) (by unfold nuM; rw [if_pos b4, if_neg b12, flM_0 b4])
def myF (x h : Int32) : Int32 := if x ≤ h then h else x
def rcH (N : Mem) (x y : Int32) : Mem := updM (updM N 58 14 (myF x (N 58 14))) 58 15 (myF y (N 58 15))
def rcM (N : Mem) (q at_ : Nat) : Mem := updM (rcH (nuM (nuM N 0 8) 0 8) (nuV N 0 8) (nuV (nuM N 0 8) 0 8)) q at_ (9 * nuV (nuM N 0 8) 0 8 + nuV N 0 8)
theorem RU_u {N : Mem} {q j : Nat} {v : Int32} (h : RU N) (h1 : q ≠ 58) (h2 : q ≠ 67) : RU (updM N q j v) := RU_c h (by rw [updM_ne (Ne.symm h1)]) (by rw [updM_ne (Ne.symm h1)]; exact h.2.1) (by rw [updM_ne (Ne.symm h1)]) (by rw [updM_ne (Ne.symm h2)])
theorem RU_s {N : Mem} {j : Nat} {v : Int32} (h : RU N) (h1 : j ≠ 18) (h2 : j ≠ 20) (h3 : j ≠ 22) : RU (updM N 58 j v) := RU_c h (by rw [updM_eq, upd_ne (Ne.symm h1)]) (by rw [updM_eq, upd_ne (Ne.symm h2)]; exact h.2.1) (by rw [updM_eq, upd_ne (Ne.symm h3)]) (by rw [updM_ne (by decide)])
theorem rcH_RU {N : Mem} {x y : Int32} (h : RU N) : RU (rcH N x y) := RU_s (RU_s h (by decide) (by decide) (by decide)) (by decide) (by decide) (by decide)
theorem rcM_RU {N : Mem} {q at_ : Nat} (h : RU N) (hq : q = 64 ∨ q = 65) : RU (rcM N q at_) := RU_u (rcH_RU (nuM_RU (nuM_RU h))) (by omega) (by omega)
set_option maxRecDepth 100000 in
set_option maxHeartbeats 4000000 in
theorem sem_X8_readCellT {N : Mem} {n : Nat} (h : RU N) (hn : n < 18) : Sem mX8_readCell SH [.ref 58, .int 1, .int (nI n)] N (PD SH none (rcM N 64 n)) := by
  refine Sem_of rfl (fun G => (Nat.le_of_ble_eq_true rfl)) (fun G => ?_)
  refine Bd_aload_0 (pc := 0) dX8_readCell_0 ?_
  refine Bd_iconst (v := 0) (pc := 1) dX8_readCell_1 (by decide) ?_
  refine Bd_bipush (v := 8) (pc := 2) dX8_readCell_2 (by decide) ?_
  refine Bd_callV2i (cd := mX8_number) (pc := 4) dX8_readCell_4 k_945 v_X8_number ⟨(Nat.le_of_ble_eq_true rfl), (Nat.le_of_ble_eq_true rfl)⟩ rfl rfl (sem_X8_number h) (Nat.le_of_ble_eq_true rfl) ?_
  refine Bd_istore_3 (pc := 7) dX8_readCell_7 (Nat.le_of_ble_eq_true rfl) rfl ?_
  refine Bd_aload_0 (pc := 8) dX8_readCell_8 ?_
  refine Bd_iconst (v := 0) (pc := 9) dX8_readCell_9 (by decide) ?_
  refine Bd_bipush (v := 8) (pc := 10) dX8_readCell_10 (by decide) ?_
  refine Bd_callV2i (cd := mX8_number) (pc := 12) dX8_readCell_12 k_945 v_X8_number ⟨(Nat.le_of_ble_eq_true rfl), (Nat.le_of_ble_eq_true rfl)⟩ rfl rfl (sem_X8_number (nuM_RU h)) (Nat.le_of_ble_eq_true rfl) ?_
  refine Bd_istore_4 (pc := 15) dX8_readCell_15 (Nat.le_of_ble_eq_true rfl) rfl ?_
  refine Bd_aload_0 (pc := 17) dX8_readCell_17 ?_
  refine Bd_iload_3 (pc := 18) dX8_readCell_18 ?_
  refine Bd_aload_0 (pc := 19) dX8_readCell_19 ?_
  refine Bd_getI (j := 14) ck8 (pc := 20) dX8_readCell_20 k_800 rfl (Nat.le_of_ble_eq_true rfl) rfl ?_
  refine Bd_icmp_le (t := 30) (pc := 23) dX8_readCell_23 (by decide) (fun b23 => ?_) (fun b23 => ?_)
  · refine Bd_aload_0 (pc := 30) dX8_readCell_30 ?_
    refine Bd_getI (j := 14) ck8 (pc := 31) dX8_readCell_31 k_800 rfl (Nat.le_of_ble_eq_true rfl) rfl ?_
    refine Bd_putI (j := 14) (ty := .int) ck8 (pc := 34) dX8_readCell_34 k_800 rfl (Nat.le_of_ble_eq_true rfl) rfl rfl pfI rfl rfl ?_
    refine Bd_aload_0 (pc := 37) dX8_readCell_37 ?_
    refine Bd_iload_4 (pc := 38) dX8_readCell_38 ?_
    refine Bd_aload_0 (pc := 40) dX8_readCell_40 ?_
    refine Bd_getI (j := 15) ck8 (pc := 41) dX8_readCell_41 k_801 rfl (Nat.le_of_ble_eq_true rfl) rfl ?_
    refine Bd_icmp_le (t := 52) (pc := 44) dX8_readCell_44 (by decide) (fun b44 => ?_) (fun b44 => ?_)
    · refine Bd_aload_0 (pc := 52) dX8_readCell_52 ?_
      refine Bd_getI (j := 15) ck8 (pc := 53) dX8_readCell_53 k_801 rfl (Nat.le_of_ble_eq_true rfl) rfl ?_
      refine Bd_putI (j := 15) (ty := .int) ck8 (pc := 56) dX8_readCell_56 k_801 rfl (Nat.le_of_ble_eq_true rfl) rfl rfl pfI rfl rfl ?_
      refine Bd_cM (M := rcH (nuM (nuM N 0 8) 0 8) (nuV N 0 8) (nuV (nuM N 0 8) 0 8)) ?_ (by unfold rcH myF; rw [if_pos (show nuV N 0 8 ≤ nuM (nuM N 0 8) 0 8 58 14 from b23), if_pos (show nuV (nuM N 0 8) 0 8 ≤ nuM (nuM N 0 8) 0 8 58 15 from b44)]; rfl)
      refine Bd_iload_1 (pc := 59) dX8_readCell_59 ?_
      refine Bd_if_eq (t := 79) (pc := 60) dX8_readCell_60 (by decide) (fun b60 => (show False from absurd b60 (by decide)).elim) (fun b60 => ?_)
      refine Bd_aload_0 (pc := 63) dX8_readCell_63 ?_
      refine Bd_getR (j := 8) ck8 (pc := 64) dX8_readCell_64 k_794 rfl (Nat.le_of_ble_eq_true rfl) rfl ?_
      refine Bd_iload_2 (pc := 67) dX8_readCell_67 ?_
      refine Bd_bipush (v := 9) (pc := 68) dX8_readCell_68 (by decide) ?_
      refine Bd_iload_4 (pc := 70) dX8_readCell_70 ?_
      refine Bd_imul (pc := 72) dX8_readCell_72 ?_
      refine Bd_iload_3 (pc := 73) dX8_readCell_73 ?_
      refine Bd_iadd (pc := 74) dX8_readCell_74 ?_
      refine Bd_iastc (j := n) (nI_clamp (by omega)) (pc := 75) dX8_readCell_75 rfl (vpi (by omega) (by omega)) ?_
      refine Bd_goto (t := 92) (pc := 76) dX8_readCell_76 (by decide) ?_
      refine Bd_vret (pc := 92) dX8_readCell_92 rfl ?_
      exact PD_v rfl
    · refine Bd_iload_4 (pc := 47) dX8_readCell_47 ?_
      refine Bd_goto (t := 56) (pc := 49) dX8_readCell_49 (by decide) ?_
      refine Bd_putI (j := 15) (ty := .int) ck8 (pc := 56) dX8_readCell_56 k_801 rfl (Nat.le_of_ble_eq_true rfl) rfl rfl pfI rfl rfl ?_
      refine Bd_cM (M := rcH (nuM (nuM N 0 8) 0 8) (nuV N 0 8) (nuV (nuM N 0 8) 0 8)) ?_ (by unfold rcH myF; rw [if_pos (show nuV N 0 8 ≤ nuM (nuM N 0 8) 0 8 58 14 from b23), if_neg (show ¬ nuV (nuM N 0 8) 0 8 ≤ nuM (nuM N 0 8) 0 8 58 15 from b44)])
      refine Bd_iload_1 (pc := 59) dX8_readCell_59 ?_
      refine Bd_if_eq (t := 79) (pc := 60) dX8_readCell_60 (by decide) (fun b60 => (show False from absurd b60 (by decide)).elim) (fun b60 => ?_)
      refine Bd_aload_0 (pc := 63) dX8_readCell_63 ?_
      refine Bd_getR (j := 8) ck8 (pc := 64) dX8_readCell_64 k_794 rfl (Nat.le_of_ble_eq_true rfl) rfl ?_
      refine Bd_iload_2 (pc := 67) dX8_readCell_67 ?_
      refine Bd_bipush (v := 9) (pc := 68) dX8_readCell_68 (by decide) ?_
      refine Bd_iload_4 (pc := 70) dX8_readCell_70 ?_
      refine Bd_imul (pc := 72) dX8_readCell_72 ?_
      refine Bd_iload_3 (pc := 73) dX8_readCell_73 ?_
      refine Bd_iadd (pc := 74) dX8_readCell_74 ?_
      refine Bd_iastc (j := n) (nI_clamp (by omega)) (pc := 75) dX8_readCell_75 rfl (vpi (by omega) (by omega)) ?_
      refine Bd_goto (t := 92) (pc := 76) dX8_readCell_76 (by decide) ?_
      refine Bd_vret (pc := 92) dX8_readCell_92 rfl ?_
      exact PD_v rfl
  · refine Bd_iload_3 (pc := 26) dX8_readCell_26 ?_
    refine Bd_goto (t := 34) (pc := 27) dX8_readCell_27 (by decide) ?_
    refine Bd_putI (j := 14) (ty := .int) ck8 (pc := 34) dX8_readCell_34 k_800 rfl (Nat.le_of_ble_eq_true rfl) rfl rfl pfI rfl rfl ?_
    refine Bd_aload_0 (pc := 37) dX8_readCell_37 ?_
    refine Bd_iload_4 (pc := 38) dX8_readCell_38 ?_
    refine Bd_aload_0 (pc := 40) dX8_readCell_40 ?_
    refine Bd_getI (j := 15) ck8 (pc := 41) dX8_readCell_41 k_801 rfl (Nat.le_of_ble_eq_true rfl) rfl ?_
    refine Bd_icmp_le (t := 52) (pc := 44) dX8_readCell_44 (by decide) (fun b44 => ?_) (fun b44 => ?_)
    · refine Bd_aload_0 (pc := 52) dX8_readCell_52 ?_
      refine Bd_getI (j := 15) ck8 (pc := 53) dX8_readCell_53 k_801 rfl (Nat.le_of_ble_eq_true rfl) rfl ?_
      refine Bd_putI (j := 15) (ty := .int) ck8 (pc := 56) dX8_readCell_56 k_801 rfl (Nat.le_of_ble_eq_true rfl) rfl rfl pfI rfl rfl ?_
      refine Bd_cM (M := rcH (nuM (nuM N 0 8) 0 8) (nuV N 0 8) (nuV (nuM N 0 8) 0 8)) ?_ (by unfold rcH myF; rw [if_neg (show ¬ nuV N 0 8 ≤ nuM (nuM N 0 8) 0 8 58 14 from b23), if_pos (show nuV (nuM N 0 8) 0 8 ≤ nuM (nuM N 0 8) 0 8 58 15 from b44)]; rfl)
      refine Bd_iload_1 (pc := 59) dX8_readCell_59 ?_
      refine Bd_if_eq (t := 79) (pc := 60) dX8_readCell_60 (by decide) (fun b60 => (show False from absurd b60 (by decide)).elim) (fun b60 => ?_)
      refine Bd_aload_0 (pc := 63) dX8_readCell_63 ?_
      refine Bd_getR (j := 8) ck8 (pc := 64) dX8_readCell_64 k_794 rfl (Nat.le_of_ble_eq_true rfl) rfl ?_
      refine Bd_iload_2 (pc := 67) dX8_readCell_67 ?_
      refine Bd_bipush (v := 9) (pc := 68) dX8_readCell_68 (by decide) ?_
      refine Bd_iload_4 (pc := 70) dX8_readCell_70 ?_
      refine Bd_imul (pc := 72) dX8_readCell_72 ?_
      refine Bd_iload_3 (pc := 73) dX8_readCell_73 ?_
      refine Bd_iadd (pc := 74) dX8_readCell_74 ?_
      refine Bd_iastc (j := n) (nI_clamp (by omega)) (pc := 75) dX8_readCell_75 rfl (vpi (by omega) (by omega)) ?_
      refine Bd_goto (t := 92) (pc := 76) dX8_readCell_76 (by decide) ?_
      refine Bd_vret (pc := 92) dX8_readCell_92 rfl ?_
      exact PD_v rfl
    · refine Bd_iload_4 (pc := 47) dX8_readCell_47 ?_
      refine Bd_goto (t := 56) (pc := 49) dX8_readCell_49 (by decide) ?_
      refine Bd_putI (j := 15) (ty := .int) ck8 (pc := 56) dX8_readCell_56 k_801 rfl (Nat.le_of_ble_eq_true rfl) rfl rfl pfI rfl rfl ?_
      refine Bd_cM (M := rcH (nuM (nuM N 0 8) 0 8) (nuV N 0 8) (nuV (nuM N 0 8) 0 8)) ?_ (by unfold rcH myF; rw [if_neg (show ¬ nuV N 0 8 ≤ nuM (nuM N 0 8) 0 8 58 14 from b23), if_neg (show ¬ nuV (nuM N 0 8) 0 8 ≤ nuM (nuM N 0 8) 0 8 58 15 from b44)])
      refine Bd_iload_1 (pc := 59) dX8_readCell_59 ?_
      refine Bd_if_eq (t := 79) (pc := 60) dX8_readCell_60 (by decide) (fun b60 => (show False from absurd b60 (by decide)).elim) (fun b60 => ?_)
      refine Bd_aload_0 (pc := 63) dX8_readCell_63 ?_
      refine Bd_getR (j := 8) ck8 (pc := 64) dX8_readCell_64 k_794 rfl (Nat.le_of_ble_eq_true rfl) rfl ?_
      refine Bd_iload_2 (pc := 67) dX8_readCell_67 ?_
      refine Bd_bipush (v := 9) (pc := 68) dX8_readCell_68 (by decide) ?_
      refine Bd_iload_4 (pc := 70) dX8_readCell_70 ?_
      refine Bd_imul (pc := 72) dX8_readCell_72 ?_
      refine Bd_iload_3 (pc := 73) dX8_readCell_73 ?_
      refine Bd_iadd (pc := 74) dX8_readCell_74 ?_
      refine Bd_iastc (j := n) (nI_clamp (by omega)) (pc := 75) dX8_readCell_75 rfl (vpi (by omega) (by omega)) ?_
      refine Bd_goto (t := 92) (pc := 76) dX8_readCell_76 (by decide) ?_
      refine Bd_vret (pc := 92) dX8_readCell_92 rfl ?_
      exact PD_v rfl
set_option maxRecDepth 100000 in
set_option maxHeartbeats 4000000 in
theorem sem_X8_readCellF {N : Mem} {n : Nat} (h : RU N) (hn : n < 6) : Sem mX8_readCell SH [.ref 58, .int 0, .int (nI n)] N (PD SH none (rcM N 65 n)) := by
  refine Sem_of rfl (fun G => (Nat.le_of_ble_eq_true rfl)) (fun G => ?_)
  refine Bd_aload_0 (pc := 0) dX8_readCell_0 ?_
  refine Bd_iconst (v := 0) (pc := 1) dX8_readCell_1 (by decide) ?_
  refine Bd_bipush (v := 8) (pc := 2) dX8_readCell_2 (by decide) ?_
  refine Bd_callV2i (cd := mX8_number) (pc := 4) dX8_readCell_4 k_945 v_X8_number ⟨(Nat.le_of_ble_eq_true rfl), (Nat.le_of_ble_eq_true rfl)⟩ rfl rfl (sem_X8_number h) (Nat.le_of_ble_eq_true rfl) ?_
  refine Bd_istore_3 (pc := 7) dX8_readCell_7 (Nat.le_of_ble_eq_true rfl) rfl ?_
  refine Bd_aload_0 (pc := 8) dX8_readCell_8 ?_
  refine Bd_iconst (v := 0) (pc := 9) dX8_readCell_9 (by decide) ?_
  refine Bd_bipush (v := 8) (pc := 10) dX8_readCell_10 (by decide) ?_
  refine Bd_callV2i (cd := mX8_number) (pc := 12) dX8_readCell_12 k_945 v_X8_number ⟨(Nat.le_of_ble_eq_true rfl), (Nat.le_of_ble_eq_true rfl)⟩ rfl rfl (sem_X8_number (nuM_RU h)) (Nat.le_of_ble_eq_true rfl) ?_
  refine Bd_istore_4 (pc := 15) dX8_readCell_15 (Nat.le_of_ble_eq_true rfl) rfl ?_
  refine Bd_aload_0 (pc := 17) dX8_readCell_17 ?_
  refine Bd_iload_3 (pc := 18) dX8_readCell_18 ?_
  refine Bd_aload_0 (pc := 19) dX8_readCell_19 ?_
  refine Bd_getI (j := 14) ck8 (pc := 20) dX8_readCell_20 k_800 rfl (Nat.le_of_ble_eq_true rfl) rfl ?_
  refine Bd_icmp_le (t := 30) (pc := 23) dX8_readCell_23 (by decide) (fun b23 => ?_) (fun b23 => ?_)
  · refine Bd_aload_0 (pc := 30) dX8_readCell_30 ?_
    refine Bd_getI (j := 14) ck8 (pc := 31) dX8_readCell_31 k_800 rfl (Nat.le_of_ble_eq_true rfl) rfl ?_
    refine Bd_putI (j := 14) (ty := .int) ck8 (pc := 34) dX8_readCell_34 k_800 rfl (Nat.le_of_ble_eq_true rfl) rfl rfl pfI rfl rfl ?_
    refine Bd_aload_0 (pc := 37) dX8_readCell_37 ?_
    refine Bd_iload_4 (pc := 38) dX8_readCell_38 ?_
    refine Bd_aload_0 (pc := 40) dX8_readCell_40 ?_
    refine Bd_getI (j := 15) ck8 (pc := 41) dX8_readCell_41 k_801 rfl (Nat.le_of_ble_eq_true rfl) rfl ?_
    refine Bd_icmp_le (t := 52) (pc := 44) dX8_readCell_44 (by decide) (fun b44 => ?_) (fun b44 => ?_)
    · refine Bd_aload_0 (pc := 52) dX8_readCell_52 ?_
      refine Bd_getI (j := 15) ck8 (pc := 53) dX8_readCell_53 k_801 rfl (Nat.le_of_ble_eq_true rfl) rfl ?_
      refine Bd_putI (j := 15) (ty := .int) ck8 (pc := 56) dX8_readCell_56 k_801 rfl (Nat.le_of_ble_eq_true rfl) rfl rfl pfI rfl rfl ?_
      refine Bd_cM (M := rcH (nuM (nuM N 0 8) 0 8) (nuV N 0 8) (nuV (nuM N 0 8) 0 8)) ?_ (by unfold rcH myF; rw [if_pos (show nuV N 0 8 ≤ nuM (nuM N 0 8) 0 8 58 14 from b23), if_pos (show nuV (nuM N 0 8) 0 8 ≤ nuM (nuM N 0 8) 0 8 58 15 from b44)]; rfl)
      refine Bd_iload_1 (pc := 59) dX8_readCell_59 ?_
      refine Bd_if_eq (t := 79) (pc := 60) dX8_readCell_60 (by decide) (fun b60 => ?_) (fun b60 => (show False from b60 rfl).elim)
      refine Bd_aload_0 (pc := 79) dX8_readCell_79 ?_
      refine Bd_getR (j := 10) ck8 (pc := 80) dX8_readCell_80 k_796 rfl (Nat.le_of_ble_eq_true rfl) rfl ?_
      refine Bd_iload_2 (pc := 83) dX8_readCell_83 ?_
      refine Bd_bipush (v := 9) (pc := 84) dX8_readCell_84 (by decide) ?_
      refine Bd_iload_4 (pc := 86) dX8_readCell_86 ?_
      refine Bd_imul (pc := 88) dX8_readCell_88 ?_
      refine Bd_iload_3 (pc := 89) dX8_readCell_89 ?_
      refine Bd_iadd (pc := 90) dX8_readCell_90 ?_
      refine Bd_iastc (j := n) (nI_clamp (by omega)) (pc := 91) dX8_readCell_91 rfl (vpi (by omega) (by omega)) ?_
      refine Bd_vret (pc := 92) dX8_readCell_92 rfl ?_
      exact PD_v rfl
    · refine Bd_iload_4 (pc := 47) dX8_readCell_47 ?_
      refine Bd_goto (t := 56) (pc := 49) dX8_readCell_49 (by decide) ?_
      refine Bd_putI (j := 15) (ty := .int) ck8 (pc := 56) dX8_readCell_56 k_801 rfl (Nat.le_of_ble_eq_true rfl) rfl rfl pfI rfl rfl ?_
      refine Bd_cM (M := rcH (nuM (nuM N 0 8) 0 8) (nuV N 0 8) (nuV (nuM N 0 8) 0 8)) ?_ (by unfold rcH myF; rw [if_pos (show nuV N 0 8 ≤ nuM (nuM N 0 8) 0 8 58 14 from b23), if_neg (show ¬ nuV (nuM N 0 8) 0 8 ≤ nuM (nuM N 0 8) 0 8 58 15 from b44)])
      refine Bd_iload_1 (pc := 59) dX8_readCell_59 ?_
      refine Bd_if_eq (t := 79) (pc := 60) dX8_readCell_60 (by decide) (fun b60 => ?_) (fun b60 => (show False from b60 rfl).elim)
      refine Bd_aload_0 (pc := 79) dX8_readCell_79 ?_
      refine Bd_getR (j := 10) ck8 (pc := 80) dX8_readCell_80 k_796 rfl (Nat.le_of_ble_eq_true rfl) rfl ?_
      refine Bd_iload_2 (pc := 83) dX8_readCell_83 ?_
      refine Bd_bipush (v := 9) (pc := 84) dX8_readCell_84 (by decide) ?_
      refine Bd_iload_4 (pc := 86) dX8_readCell_86 ?_
      refine Bd_imul (pc := 88) dX8_readCell_88 ?_
      refine Bd_iload_3 (pc := 89) dX8_readCell_89 ?_
      refine Bd_iadd (pc := 90) dX8_readCell_90 ?_
      refine Bd_iastc (j := n) (nI_clamp (by omega)) (pc := 91) dX8_readCell_91 rfl (vpi (by omega) (by omega)) ?_
      refine Bd_vret (pc := 92) dX8_readCell_92 rfl ?_
      exact PD_v rfl
  · refine Bd_iload_3 (pc := 26) dX8_readCell_26 ?_
    refine Bd_goto (t := 34) (pc := 27) dX8_readCell_27 (by decide) ?_
    refine Bd_putI (j := 14) (ty := .int) ck8 (pc := 34) dX8_readCell_34 k_800 rfl (Nat.le_of_ble_eq_true rfl) rfl rfl pfI rfl rfl ?_
    refine Bd_aload_0 (pc := 37) dX8_readCell_37 ?_
    refine Bd_iload_4 (pc := 38) dX8_readCell_38 ?_
    refine Bd_aload_0 (pc := 40) dX8_readCell_40 ?_
    refine Bd_getI (j := 15) ck8 (pc := 41) dX8_readCell_41 k_801 rfl (Nat.le_of_ble_eq_true rfl) rfl ?_
    refine Bd_icmp_le (t := 52) (pc := 44) dX8_readCell_44 (by decide) (fun b44 => ?_) (fun b44 => ?_)
    · refine Bd_aload_0 (pc := 52) dX8_readCell_52 ?_
      refine Bd_getI (j := 15) ck8 (pc := 53) dX8_readCell_53 k_801 rfl (Nat.le_of_ble_eq_true rfl) rfl ?_
      refine Bd_putI (j := 15) (ty := .int) ck8 (pc := 56) dX8_readCell_56 k_801 rfl (Nat.le_of_ble_eq_true rfl) rfl rfl pfI rfl rfl ?_
      refine Bd_cM (M := rcH (nuM (nuM N 0 8) 0 8) (nuV N 0 8) (nuV (nuM N 0 8) 0 8)) ?_ (by unfold rcH myF; rw [if_neg (show ¬ nuV N 0 8 ≤ nuM (nuM N 0 8) 0 8 58 14 from b23), if_pos (show nuV (nuM N 0 8) 0 8 ≤ nuM (nuM N 0 8) 0 8 58 15 from b44)]; rfl)
      refine Bd_iload_1 (pc := 59) dX8_readCell_59 ?_
      refine Bd_if_eq (t := 79) (pc := 60) dX8_readCell_60 (by decide) (fun b60 => ?_) (fun b60 => (show False from b60 rfl).elim)
      refine Bd_aload_0 (pc := 79) dX8_readCell_79 ?_
      refine Bd_getR (j := 10) ck8 (pc := 80) dX8_readCell_80 k_796 rfl (Nat.le_of_ble_eq_true rfl) rfl ?_
      refine Bd_iload_2 (pc := 83) dX8_readCell_83 ?_
      refine Bd_bipush (v := 9) (pc := 84) dX8_readCell_84 (by decide) ?_
      refine Bd_iload_4 (pc := 86) dX8_readCell_86 ?_
      refine Bd_imul (pc := 88) dX8_readCell_88 ?_
      refine Bd_iload_3 (pc := 89) dX8_readCell_89 ?_
      refine Bd_iadd (pc := 90) dX8_readCell_90 ?_
      refine Bd_iastc (j := n) (nI_clamp (by omega)) (pc := 91) dX8_readCell_91 rfl (vpi (by omega) (by omega)) ?_
      refine Bd_vret (pc := 92) dX8_readCell_92 rfl ?_
      exact PD_v rfl
    · refine Bd_iload_4 (pc := 47) dX8_readCell_47 ?_
      refine Bd_goto (t := 56) (pc := 49) dX8_readCell_49 (by decide) ?_
      refine Bd_putI (j := 15) (ty := .int) ck8 (pc := 56) dX8_readCell_56 k_801 rfl (Nat.le_of_ble_eq_true rfl) rfl rfl pfI rfl rfl ?_
      refine Bd_cM (M := rcH (nuM (nuM N 0 8) 0 8) (nuV N 0 8) (nuV (nuM N 0 8) 0 8)) ?_ (by unfold rcH myF; rw [if_neg (show ¬ nuV N 0 8 ≤ nuM (nuM N 0 8) 0 8 58 14 from b23), if_neg (show ¬ nuV (nuM N 0 8) 0 8 ≤ nuM (nuM N 0 8) 0 8 58 15 from b44)])
      refine Bd_iload_1 (pc := 59) dX8_readCell_59 ?_
      refine Bd_if_eq (t := 79) (pc := 60) dX8_readCell_60 (by decide) (fun b60 => ?_) (fun b60 => (show False from b60 rfl).elim)
      refine Bd_aload_0 (pc := 79) dX8_readCell_79 ?_
      refine Bd_getR (j := 10) ck8 (pc := 80) dX8_readCell_80 k_796 rfl (Nat.le_of_ble_eq_true rfl) rfl ?_
      refine Bd_iload_2 (pc := 83) dX8_readCell_83 ?_
      refine Bd_bipush (v := 9) (pc := 84) dX8_readCell_84 (by decide) ?_
      refine Bd_iload_4 (pc := 86) dX8_readCell_86 ?_
      refine Bd_imul (pc := 88) dX8_readCell_88 ?_
      refine Bd_iload_3 (pc := 89) dX8_readCell_89 ?_
      refine Bd_iadd (pc := 90) dX8_readCell_90 ?_
      refine Bd_iastc (j := n) (nI_clamp (by omega)) (pc := 91) dX8_readCell_91 rfl (vpi (by omega) (by omega)) ?_
      refine Bd_vret (pc := 92) dX8_readCell_92 rfl ?_
      exact PD_v rfl
def ro1 (N : Mem) (n : Nat) : Mem := if (N 58 16 >>> (nI n &&& 31)) &&& 1 = 1 then flM N 4 else N
def ro2 (N : Mem) (n : Nat) : Mem := stM (updM (ro1 N n) 58 16 (ro1 N n 58 16 ||| (1 <<< (nI n &&& 31))))
def roP (N : Mem) (a b : Int32) (j : Nat) : Mem := updM (nuM N a b) 63 j (nuV N a b)
def roM (N : Mem) (n : Nat) : Mem := if n = 0 then roP (roP (ro2 N n) 1 9 0) 1 9 1 else if n = 3 then roP (roP (ro2 N n) 0 2 4) 0 2 5 else roP (ro2 N n) 1 9 (n + 1)
theorem ro1_RU {N : Mem} {n : Nat} (h : RU N) : RU (ro1 N n) := by
  unfold ro1
  split
  · exact flM_RU h (by decide)
  · exact h
theorem ro3_RU {N : Mem} {v : Int32} (h : RU N) : RU (updM N 58 16 v) := RU_s h (by decide) (by decide) (by decide)
theorem ro2_RU {N : Mem} {n : Nat} (h : RU N) : RU (ro2 N n) := stM_RU (ro3_RU (ro1_RU h))
theorem roP_RU {N : Mem} {a b : Int32} {j : Nat} (h : RU N) : RU (roP N a b j) := RU_u (nuM_RU h) (by decide) (by decide)
theorem roM_RU {N : Mem} {n : Nat} (h : RU N) : RU (roM N n) := by
  unfold roM
  split
  · exact roP_RU (roP_RU (ro2_RU h))
  · split
    · exact roP_RU (roP_RU (ro2_RU h))
    · exact roP_RU (ro2_RU h)
set_option maxRecDepth 100000 in
set_option maxHeartbeats 4000000 in
theorem sem_X8_readOnce {N : Mem} {n : Nat} (h : RU N) (hn : n < 4) : Sem mX8_readOnce SH [.ref 58, .int (nI n)] N (PD SH none (roM N n)) := by
  refine Sem_of rfl (fun G => (Nat.le_of_ble_eq_true rfl)) (fun G => ?_)
  refine Bd_aload_0 (pc := 0) dX8_readOnce_0 ?_
  refine Bd_getI (j := 16) ck8 (pc := 1) dX8_readOnce_1 k_802 rfl (Nat.le_of_ble_eq_true rfl) rfl ?_
  refine Bd_iload_1 (pc := 4) dX8_readOnce_4 ?_
  refine Bd_ishr (pc := 5) dX8_readOnce_5 ?_
  refine Bd_iconst (v := 1) (pc := 6) dX8_readOnce_6 (by decide) ?_
  refine Bd_iand (pc := 7) dX8_readOnce_7 ?_
  refine Bd_iconst (v := 1) (pc := 8) dX8_readOnce_8 (by decide) ?_
  refine Bd_icmp_ne (t := 17) (pc := 9) dX8_readOnce_9 (by decide) (fun b9 => ?_) (fun b9 => ?_)
  · refine Bd_cM (M := ro1 N n) ?_ (by unfold ro1; rw [if_neg b9])
    refine Bd_aload_0 (pc := 17) dX8_readOnce_17 ?_
    refine Bd_dup (pc := 18) dX8_readOnce_18 rfl ?_
    refine Bd_getI (j := 16) ck8 (pc := 19) dX8_readOnce_19 k_802 rfl (Nat.le_of_ble_eq_true rfl) rfl ?_
    refine Bd_iconst (v := 1) (pc := 22) dX8_readOnce_22 (by decide) ?_
    refine Bd_iload_1 (pc := 23) dX8_readOnce_23 ?_
    refine Bd_ishl (pc := 24) dX8_readOnce_24 ?_
    refine Bd_ior (pc := 25) dX8_readOnce_25 ?_
    refine Bd_putI (j := 16) (ty := .int) ck8 (pc := 26) dX8_readOnce_26 k_802 rfl (Nat.le_of_ble_eq_true rfl) rfl rfl pfI rfl rfl ?_
    refine Bd_aload_0 (pc := 29) dX8_readOnce_29 ?_
    refine Bd_callV0v (cd := mX8_step) (pc := 30) dX8_readOnce_30 k_917 v_X8_step ⟨(Nat.le_of_ble_eq_true rfl), (Nat.le_of_ble_eq_true rfl)⟩ rfl rfl (sem_X8_step' (ro3_RU (ro1_RU h))) (Nat.le_of_ble_eq_true rfl) ?_
    refine Bd_cM (M := ro2 N n) ?_ rfl
    refine Bd_iload_1 (pc := 33) dX8_readOnce_33 ?_
    refine Bd_if_ne (t := 66) (pc := 34) dX8_readOnce_34 (by decide) (fun b34 => ?_) (fun b34 => ?_)
    · refine Bd_iload_1 (pc := 66) dX8_readOnce_66 ?_
      refine Bd_iconst (v := 3) (pc := 67) dX8_readOnce_67 (by decide) ?_
      refine Bd_icmp_ne (t := 98) (pc := 68) dX8_readOnce_68 (by decide) (fun b68 => ?_) (fun b68 => ?_)
      · refine Bd_aload_0 (pc := 98) dX8_readOnce_98 ?_
        refine Bd_getR (j := 7) ck8 (pc := 99) dX8_readOnce_99 k_793 rfl (Nat.le_of_ble_eq_true rfl) rfl ?_
        refine Bd_iload_1 (pc := 102) dX8_readOnce_102 ?_
        refine Bd_iconst (v := 1) (pc := 103) dX8_readOnce_103 (by decide) ?_
        refine Bd_iadd (pc := 104) dX8_readOnce_104 ?_
        refine Bd_aload_0 (pc := 105) dX8_readOnce_105 ?_
        refine Bd_iconst (v := 1) (pc := 106) dX8_readOnce_106 (by decide) ?_
        refine Bd_bipush (v := 9) (pc := 107) dX8_readOnce_107 (by decide) ?_
        refine Bd_callV2i (cd := mX8_number) (pc := 109) dX8_readOnce_109 k_945 v_X8_number ⟨(Nat.le_of_ble_eq_true rfl), (Nat.le_of_ble_eq_true rfl)⟩ rfl rfl (sem_X8_number (ro2_RU h)) (Nat.le_of_ble_eq_true rfl) ?_
        refine Bd_iastc (j := n + 1) (by rw [← nI_succ]; exact nI_clamp (by omega)) (pc := 112) dX8_readOnce_112 rfl (by rw [← nI_succ]; exact vpi (by omega) (by omega)) ?_
        refine Bd_vret (pc := 113) dX8_readOnce_113 rfl ?_
        exact PD_v (by unfold roM; rw [if_neg (fun z => b34 (by rw [z]; rfl)), if_neg (fun z => b68 (by rw [z]; rfl))]; rfl)
      · refine Bd_aload_0 (pc := 71) dX8_readOnce_71 ?_
        refine Bd_getR (j := 7) ck8 (pc := 72) dX8_readOnce_72 k_793 rfl (Nat.le_of_ble_eq_true rfl) rfl ?_
        refine Bd_iconst (v := 4) (pc := 75) dX8_readOnce_75 (by decide) ?_
        refine Bd_aload_0 (pc := 76) dX8_readOnce_76 ?_
        refine Bd_iconst (v := 0) (pc := 77) dX8_readOnce_77 (by decide) ?_
        refine Bd_iconst (v := 2) (pc := 78) dX8_readOnce_78 (by decide) ?_
        refine Bd_callV2i (cd := mX8_number) (pc := 79) dX8_readOnce_79 k_945 v_X8_number ⟨(Nat.le_of_ble_eq_true rfl), (Nat.le_of_ble_eq_true rfl)⟩ rfl rfl (sem_X8_number (ro2_RU h)) (Nat.le_of_ble_eq_true rfl) ?_
        refine Bd_iastc (j := 4) rfl (pc := 82) dX8_readOnce_82 rfl (by unfold vp_in; decide) ?_
        refine Bd_aload_0 (pc := 83) dX8_readOnce_83 ?_
        refine Bd_getR (j := 7) ck8 (pc := 84) dX8_readOnce_84 k_793 rfl (Nat.le_of_ble_eq_true rfl) rfl ?_
        refine Bd_iconst (v := 5) (pc := 87) dX8_readOnce_87 (by decide) ?_
        refine Bd_aload_0 (pc := 88) dX8_readOnce_88 ?_
        refine Bd_iconst (v := 0) (pc := 89) dX8_readOnce_89 (by decide) ?_
        refine Bd_iconst (v := 2) (pc := 90) dX8_readOnce_90 (by decide) ?_
        refine Bd_callV2i (cd := mX8_number) (pc := 91) dX8_readOnce_91 k_945 v_X8_number ⟨(Nat.le_of_ble_eq_true rfl), (Nat.le_of_ble_eq_true rfl)⟩ rfl rfl (sem_X8_number (show RU (roP (ro2 N n) 0 2 4) from roP_RU (ro2_RU h))) (Nat.le_of_ble_eq_true rfl) ?_
        refine Bd_iastc (j := 5) rfl (pc := 94) dX8_readOnce_94 rfl (by unfold vp_in; decide) ?_
        refine Bd_goto (t := 113) (pc := 95) dX8_readOnce_95 (by decide) ?_
        refine Bd_vret (pc := 113) dX8_readOnce_113 rfl ?_
        exact PD_v (by unfold roM; rw [if_neg (fun z => b34 (by rw [z]; rfl)), if_pos (nI_inj (a := n) (b := 3) b68)]; rfl)
    · refine Bd_aload_0 (pc := 37) dX8_readOnce_37 ?_
      refine Bd_getR (j := 7) ck8 (pc := 38) dX8_readOnce_38 k_793 rfl (Nat.le_of_ble_eq_true rfl) rfl ?_
      refine Bd_iconst (v := 0) (pc := 41) dX8_readOnce_41 (by decide) ?_
      refine Bd_aload_0 (pc := 42) dX8_readOnce_42 ?_
      refine Bd_iconst (v := 1) (pc := 43) dX8_readOnce_43 (by decide) ?_
      refine Bd_bipush (v := 9) (pc := 44) dX8_readOnce_44 (by decide) ?_
      refine Bd_callV2i (cd := mX8_number) (pc := 46) dX8_readOnce_46 k_945 v_X8_number ⟨(Nat.le_of_ble_eq_true rfl), (Nat.le_of_ble_eq_true rfl)⟩ rfl rfl (sem_X8_number (ro2_RU h)) (Nat.le_of_ble_eq_true rfl) ?_
      refine Bd_iastc (j := 0) rfl (pc := 49) dX8_readOnce_49 rfl (by unfold vp_in; decide) ?_
      refine Bd_aload_0 (pc := 50) dX8_readOnce_50 ?_
      refine Bd_getR (j := 7) ck8 (pc := 51) dX8_readOnce_51 k_793 rfl (Nat.le_of_ble_eq_true rfl) rfl ?_
      refine Bd_iconst (v := 1) (pc := 54) dX8_readOnce_54 (by decide) ?_
      refine Bd_aload_0 (pc := 55) dX8_readOnce_55 ?_
      refine Bd_iconst (v := 1) (pc := 56) dX8_readOnce_56 (by decide) ?_
      refine Bd_bipush (v := 9) (pc := 57) dX8_readOnce_57 (by decide) ?_
      refine Bd_callV2i (cd := mX8_number) (pc := 59) dX8_readOnce_59 k_945 v_X8_number ⟨(Nat.le_of_ble_eq_true rfl), (Nat.le_of_ble_eq_true rfl)⟩ rfl rfl (sem_X8_number (show RU (roP (ro2 N n) 1 9 0) from roP_RU (ro2_RU h))) (Nat.le_of_ble_eq_true rfl) ?_
      refine Bd_iastc (j := 1) rfl (pc := 62) dX8_readOnce_62 rfl (by unfold vp_in; decide) ?_
      refine Bd_goto (t := 113) (pc := 63) dX8_readOnce_63 (by decide) ?_
      refine Bd_vret (pc := 113) dX8_readOnce_113 rfl ?_
      exact PD_v (by unfold roM; rw [if_pos ((nI_z (by omega)).mp b34)]; rfl)
  · refine Bd_aload_0 (pc := 12) dX8_readOnce_12 ?_
    refine Bd_iconst (v := 4) (pc := 13) dX8_readOnce_13 (by decide) ?_
    refine Bd_callV1v (cd := mX8_fails) (pc := 14) dX8_readOnce_14 k_929 v_X8_fails ⟨(Nat.le_of_ble_eq_true rfl), (Nat.le_of_ble_eq_true rfl)⟩ rfl rfl sem_X8_fails (Nat.le_of_ble_eq_true rfl) ?_
    refine Bd_cM (M := ro1 N n) ?_ (by unfold ro1; rw [if_pos b9])
    refine Bd_aload_0 (pc := 17) dX8_readOnce_17 ?_
    refine Bd_dup (pc := 18) dX8_readOnce_18 rfl ?_
    refine Bd_getI (j := 16) ck8 (pc := 19) dX8_readOnce_19 k_802 rfl (Nat.le_of_ble_eq_true rfl) rfl ?_
    refine Bd_iconst (v := 1) (pc := 22) dX8_readOnce_22 (by decide) ?_
    refine Bd_iload_1 (pc := 23) dX8_readOnce_23 ?_
    refine Bd_ishl (pc := 24) dX8_readOnce_24 ?_
    refine Bd_ior (pc := 25) dX8_readOnce_25 ?_
    refine Bd_putI (j := 16) (ty := .int) ck8 (pc := 26) dX8_readOnce_26 k_802 rfl (Nat.le_of_ble_eq_true rfl) rfl rfl pfI rfl rfl ?_
    refine Bd_aload_0 (pc := 29) dX8_readOnce_29 ?_
    refine Bd_callV0v (cd := mX8_step) (pc := 30) dX8_readOnce_30 k_917 v_X8_step ⟨(Nat.le_of_ble_eq_true rfl), (Nat.le_of_ble_eq_true rfl)⟩ rfl rfl (sem_X8_step' (ro3_RU (ro1_RU h))) (Nat.le_of_ble_eq_true rfl) ?_
    refine Bd_cM (M := ro2 N n) ?_ rfl
    refine Bd_iload_1 (pc := 33) dX8_readOnce_33 ?_
    refine Bd_if_ne (t := 66) (pc := 34) dX8_readOnce_34 (by decide) (fun b34 => ?_) (fun b34 => ?_)
    · refine Bd_iload_1 (pc := 66) dX8_readOnce_66 ?_
      refine Bd_iconst (v := 3) (pc := 67) dX8_readOnce_67 (by decide) ?_
      refine Bd_icmp_ne (t := 98) (pc := 68) dX8_readOnce_68 (by decide) (fun b68 => ?_) (fun b68 => ?_)
      · refine Bd_aload_0 (pc := 98) dX8_readOnce_98 ?_
        refine Bd_getR (j := 7) ck8 (pc := 99) dX8_readOnce_99 k_793 rfl (Nat.le_of_ble_eq_true rfl) rfl ?_
        refine Bd_iload_1 (pc := 102) dX8_readOnce_102 ?_
        refine Bd_iconst (v := 1) (pc := 103) dX8_readOnce_103 (by decide) ?_
        refine Bd_iadd (pc := 104) dX8_readOnce_104 ?_
        refine Bd_aload_0 (pc := 105) dX8_readOnce_105 ?_
        refine Bd_iconst (v := 1) (pc := 106) dX8_readOnce_106 (by decide) ?_
        refine Bd_bipush (v := 9) (pc := 107) dX8_readOnce_107 (by decide) ?_
        refine Bd_callV2i (cd := mX8_number) (pc := 109) dX8_readOnce_109 k_945 v_X8_number ⟨(Nat.le_of_ble_eq_true rfl), (Nat.le_of_ble_eq_true rfl)⟩ rfl rfl (sem_X8_number (ro2_RU h)) (Nat.le_of_ble_eq_true rfl) ?_
        refine Bd_iastc (j := n + 1) (by rw [← nI_succ]; exact nI_clamp (by omega)) (pc := 112) dX8_readOnce_112 rfl (by rw [← nI_succ]; exact vpi (by omega) (by omega)) ?_
        refine Bd_vret (pc := 113) dX8_readOnce_113 rfl ?_
        exact PD_v (by unfold roM; rw [if_neg (fun z => b34 (by rw [z]; rfl)), if_neg (fun z => b68 (by rw [z]; rfl))]; rfl)
      · refine Bd_aload_0 (pc := 71) dX8_readOnce_71 ?_
        refine Bd_getR (j := 7) ck8 (pc := 72) dX8_readOnce_72 k_793 rfl (Nat.le_of_ble_eq_true rfl) rfl ?_
        refine Bd_iconst (v := 4) (pc := 75) dX8_readOnce_75 (by decide) ?_
        refine Bd_aload_0 (pc := 76) dX8_readOnce_76 ?_
        refine Bd_iconst (v := 0) (pc := 77) dX8_readOnce_77 (by decide) ?_
        refine Bd_iconst (v := 2) (pc := 78) dX8_readOnce_78 (by decide) ?_
        refine Bd_callV2i (cd := mX8_number) (pc := 79) dX8_readOnce_79 k_945 v_X8_number ⟨(Nat.le_of_ble_eq_true rfl), (Nat.le_of_ble_eq_true rfl)⟩ rfl rfl (sem_X8_number (ro2_RU h)) (Nat.le_of_ble_eq_true rfl) ?_
        refine Bd_iastc (j := 4) rfl (pc := 82) dX8_readOnce_82 rfl (by unfold vp_in; decide) ?_
        refine Bd_aload_0 (pc := 83) dX8_readOnce_83 ?_
        refine Bd_getR (j := 7) ck8 (pc := 84) dX8_readOnce_84 k_793 rfl (Nat.le_of_ble_eq_true rfl) rfl ?_
        refine Bd_iconst (v := 5) (pc := 87) dX8_readOnce_87 (by decide) ?_
        refine Bd_aload_0 (pc := 88) dX8_readOnce_88 ?_
        refine Bd_iconst (v := 0) (pc := 89) dX8_readOnce_89 (by decide) ?_
        refine Bd_iconst (v := 2) (pc := 90) dX8_readOnce_90 (by decide) ?_
        refine Bd_callV2i (cd := mX8_number) (pc := 91) dX8_readOnce_91 k_945 v_X8_number ⟨(Nat.le_of_ble_eq_true rfl), (Nat.le_of_ble_eq_true rfl)⟩ rfl rfl (sem_X8_number (show RU (roP (ro2 N n) 0 2 4) from roP_RU (ro2_RU h))) (Nat.le_of_ble_eq_true rfl) ?_
        refine Bd_iastc (j := 5) rfl (pc := 94) dX8_readOnce_94 rfl (by unfold vp_in; decide) ?_
        refine Bd_goto (t := 113) (pc := 95) dX8_readOnce_95 (by decide) ?_
        refine Bd_vret (pc := 113) dX8_readOnce_113 rfl ?_
        exact PD_v (by unfold roM; rw [if_neg (fun z => b34 (by rw [z]; rfl)), if_pos (nI_inj (a := n) (b := 3) b68)]; rfl)
    · refine Bd_aload_0 (pc := 37) dX8_readOnce_37 ?_
      refine Bd_getR (j := 7) ck8 (pc := 38) dX8_readOnce_38 k_793 rfl (Nat.le_of_ble_eq_true rfl) rfl ?_
      refine Bd_iconst (v := 0) (pc := 41) dX8_readOnce_41 (by decide) ?_
      refine Bd_aload_0 (pc := 42) dX8_readOnce_42 ?_
      refine Bd_iconst (v := 1) (pc := 43) dX8_readOnce_43 (by decide) ?_
      refine Bd_bipush (v := 9) (pc := 44) dX8_readOnce_44 (by decide) ?_
      refine Bd_callV2i (cd := mX8_number) (pc := 46) dX8_readOnce_46 k_945 v_X8_number ⟨(Nat.le_of_ble_eq_true rfl), (Nat.le_of_ble_eq_true rfl)⟩ rfl rfl (sem_X8_number (ro2_RU h)) (Nat.le_of_ble_eq_true rfl) ?_
      refine Bd_iastc (j := 0) rfl (pc := 49) dX8_readOnce_49 rfl (by unfold vp_in; decide) ?_
      refine Bd_aload_0 (pc := 50) dX8_readOnce_50 ?_
      refine Bd_getR (j := 7) ck8 (pc := 51) dX8_readOnce_51 k_793 rfl (Nat.le_of_ble_eq_true rfl) rfl ?_
      refine Bd_iconst (v := 1) (pc := 54) dX8_readOnce_54 (by decide) ?_
      refine Bd_aload_0 (pc := 55) dX8_readOnce_55 ?_
      refine Bd_iconst (v := 1) (pc := 56) dX8_readOnce_56 (by decide) ?_
      refine Bd_bipush (v := 9) (pc := 57) dX8_readOnce_57 (by decide) ?_
      refine Bd_callV2i (cd := mX8_number) (pc := 59) dX8_readOnce_59 k_945 v_X8_number ⟨(Nat.le_of_ble_eq_true rfl), (Nat.le_of_ble_eq_true rfl)⟩ rfl rfl (sem_X8_number (show RU (roP (ro2 N n) 1 9 0) from roP_RU (ro2_RU h))) (Nat.le_of_ble_eq_true rfl) ?_
      refine Bd_iastc (j := 1) rfl (pc := 62) dX8_readOnce_62 rfl (by unfold vp_in; decide) ?_
      refine Bd_goto (t := 113) (pc := 63) dX8_readOnce_63 (by decide) ?_
      refine Bd_vret (pc := 113) dX8_readOnce_113 rfl ?_
      exact PD_v (by unfold roM; rw [if_pos ((nI_z (by omega)).mp b34)]; rfl)
