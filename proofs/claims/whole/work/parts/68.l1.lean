/-! 68: land: the draft -/
def clD (M : Mem) : Mem := updM (updM (updM (updM (updM (updM (updM (updM (updM M 52 0 9) 52 1 9) 52 2 2) 52 3 3) 52 4 1) 52 5 1) 51 6 0) 51 7 0) 51 8 0
def atD (M : Mem) (n : Nat) (x y p : Int32) : Mem := updM (updM (updM M 53 n (9 * y + x)) 54 n p) 51 6 (nI (n + 1))
def ahD (M : Mem) (n : Nat) (x y : Int32) : Mem := updM (updM M 55 n (9 * y + x)) 51 7 (nI (n + 1))
def anD (M : Mem) (n : Nat) (b t : Int32) : Mem := updM (updM (updM M 56 n b) 57 n t) 51 8 (nI (n + 1))
set_option maxRecDepth 100000 in
set_option maxHeartbeats 4000000 in
theorem sem_X3_clear {M : Mem} : Sem mX3_clear SH [.ref 51] M (PD SH none (clD M)) := by
  refine Sem_of rfl (fun G => (Nat.le_of_ble_eq_true rfl)) (fun G => ?_)
  refine Bd_aload_0 (pc := 0) dX3_clear_0 ?_
  refine Bd_getR (j := 0) ck3 (pc := 1) dX3_clear_1 k_147 rfl (Nat.le_of_ble_eq_true rfl) rfl ?_
  refine Bd_iconst (v := 0) (pc := 4) dX3_clear_4 (by decide) ?_
  refine Bd_bipush (v := 9) (pc := 5) dX3_clear_5 (by decide) ?_
  refine Bd_iastc (j := 0) rfl (pc := 7) dX3_clear_7 rfl (by unfold vp_in; decide) ?_
  refine Bd_aload_0 (pc := 8) dX3_clear_8 ?_
  refine Bd_getR (j := 0) ck3 (pc := 9) dX3_clear_9 k_147 rfl (Nat.le_of_ble_eq_true rfl) rfl ?_
  refine Bd_iconst (v := 1) (pc := 12) dX3_clear_12 (by decide) ?_
  refine Bd_bipush (v := 9) (pc := 13) dX3_clear_13 (by decide) ?_
  refine Bd_iastc (j := 1) rfl (pc := 15) dX3_clear_15 rfl (by unfold vp_in; decide) ?_
  refine Bd_aload_0 (pc := 16) dX3_clear_16 ?_
  refine Bd_getR (j := 0) ck3 (pc := 17) dX3_clear_17 k_147 rfl (Nat.le_of_ble_eq_true rfl) rfl ?_
  refine Bd_iconst (v := 2) (pc := 20) dX3_clear_20 (by decide) ?_
  refine Bd_iconst (v := 2) (pc := 21) dX3_clear_21 (by decide) ?_
  refine Bd_iastc (j := 2) rfl (pc := 22) dX3_clear_22 rfl (by unfold vp_in; decide) ?_
  refine Bd_aload_0 (pc := 23) dX3_clear_23 ?_
  refine Bd_getR (j := 0) ck3 (pc := 24) dX3_clear_24 k_147 rfl (Nat.le_of_ble_eq_true rfl) rfl ?_
  refine Bd_iconst (v := 3) (pc := 27) dX3_clear_27 (by decide) ?_
  refine Bd_iconst (v := 3) (pc := 28) dX3_clear_28 (by decide) ?_
  refine Bd_iastc (j := 3) rfl (pc := 29) dX3_clear_29 rfl (by unfold vp_in; decide) ?_
  refine Bd_aload_0 (pc := 30) dX3_clear_30 ?_
  refine Bd_getR (j := 0) ck3 (pc := 31) dX3_clear_31 k_147 rfl (Nat.le_of_ble_eq_true rfl) rfl ?_
  refine Bd_iconst (v := 4) (pc := 34) dX3_clear_34 (by decide) ?_
  refine Bd_iconst (v := 1) (pc := 35) dX3_clear_35 (by decide) ?_
  refine Bd_iastc (j := 4) rfl (pc := 36) dX3_clear_36 rfl (by unfold vp_in; decide) ?_
  refine Bd_aload_0 (pc := 37) dX3_clear_37 ?_
  refine Bd_getR (j := 0) ck3 (pc := 38) dX3_clear_38 k_147 rfl (Nat.le_of_ble_eq_true rfl) rfl ?_
  refine Bd_iconst (v := 5) (pc := 41) dX3_clear_41 (by decide) ?_
  refine Bd_iconst (v := 1) (pc := 42) dX3_clear_42 (by decide) ?_
  refine Bd_iastc (j := 5) rfl (pc := 43) dX3_clear_43 rfl (by unfold vp_in; decide) ?_
  refine Bd_aload_0 (pc := 44) dX3_clear_44 ?_
  refine Bd_iconst (v := 0) (pc := 45) dX3_clear_45 (by decide) ?_
  refine Bd_putI (j := 6) (ty := .int) ck3 (pc := 46) dX3_clear_46 k_163 rfl (Nat.le_of_ble_eq_true rfl) rfl rfl pfI rfl rfl ?_
  refine Bd_aload_0 (pc := 49) dX3_clear_49 ?_
  refine Bd_iconst (v := 0) (pc := 50) dX3_clear_50 (by decide) ?_
  refine Bd_putI (j := 7) (ty := .int) ck3 (pc := 51) dX3_clear_51 k_166 rfl (Nat.le_of_ble_eq_true rfl) rfl rfl pfI rfl rfl ?_
  refine Bd_aload_0 (pc := 54) dX3_clear_54 ?_
  refine Bd_iconst (v := 0) (pc := 55) dX3_clear_55 (by decide) ?_
  refine Bd_putI (j := 8) (ty := .int) ck3 (pc := 56) dX3_clear_56 k_169 rfl (Nat.le_of_ble_eq_true rfl) rfl rfl pfI rfl rfl ?_
  refine Bd_vret (pc := 59) dX3_clear_59 rfl ?_
  exact PD_v rfl
set_option maxRecDepth 100000 in
set_option maxHeartbeats 4000000 in
theorem sem_X3_addTower {M : Mem} {n : Nat} {x y p : Int32} (hn : M 51 6 = nI n) (h6 : n < 6) : Sem mX3_addTower SH [.ref 51, .int x, .int y, .int p] M (PD SH none (atD M n x y p)) := by
  refine Sem_of rfl (fun G => (Nat.le_of_ble_eq_true rfl)) (fun G => ?_)
  refine Bd_aload_0 (pc := 0) dX3_addTower_0 ?_
  refine Bd_getI (j := 6) ck3 (pc := 1) dX3_addTower_1 k_163 rfl (Nat.le_of_ble_eq_true rfl) rfl ?_
  refine Bd_bipush (v := 6) (pc := 4) dX3_addTower_4 (by decide) ?_
  refine Bd_icmp_ge (t := 44) (pc := 6) dX3_addTower_6 (by decide) (fun b6 => (show False from nI_ge h6 (by decide) (hn ▸ b6)).elim) (fun b6 => ?_)
  refine Bd_aload_0 (pc := 9) dX3_addTower_9 ?_
  refine Bd_getR (j := 1) ck3 (pc := 10) dX3_addTower_10 k_151 rfl (Nat.le_of_ble_eq_true rfl) rfl ?_
  refine Bd_aload_0 (pc := 13) dX3_addTower_13 ?_
  refine Bd_getI (j := 6) ck3 (pc := 14) dX3_addTower_14 k_163 rfl (Nat.le_of_ble_eq_true rfl) rfl ?_
  refine Bd_bipush (v := 9) (pc := 17) dX3_addTower_17 (by decide) ?_
  refine Bd_iload_2 (pc := 19) dX3_addTower_19 ?_
  refine Bd_imul (pc := 20) dX3_addTower_20 ?_
  refine Bd_iload_1 (pc := 21) dX3_addTower_21 ?_
  refine Bd_iadd (pc := 22) dX3_addTower_22 ?_
  refine Bd_iastc (j := n) (by rw [hn]; exact nI_clamp (by omega)) (pc := 23) dX3_addTower_23 rfl (by rw [hn]; exact vpi (by omega) (by omega)) ?_
  refine Bd_aload_0 (pc := 24) dX3_addTower_24 ?_
  refine Bd_getR (j := 2) ck3 (pc := 25) dX3_addTower_25 k_154 rfl (Nat.le_of_ble_eq_true rfl) rfl ?_
  refine Bd_aload_0 (pc := 28) dX3_addTower_28 ?_
  refine Bd_getI (j := 6) ck3 (pc := 29) dX3_addTower_29 k_163 rfl (Nat.le_of_ble_eq_true rfl) rfl ?_
  refine Bd_iload_3 (pc := 32) dX3_addTower_32 ?_
  refine Bd_iastc (j := n) (by rw [(show updM M 53 n (9 * y + x) 51 6 = nI n from hn)]; exact nI_clamp (by omega)) (pc := 33) dX3_addTower_33 rfl (by rw [(show updM M 53 n (9 * y + x) 51 6 = nI n from hn)]; exact vpi (by omega) (by omega)) ?_
  refine Bd_aload_0 (pc := 34) dX3_addTower_34 ?_
  refine Bd_dup (pc := 35) dX3_addTower_35 rfl ?_
  refine Bd_getI (j := 6) ck3 (pc := 36) dX3_addTower_36 k_163 rfl (Nat.le_of_ble_eq_true rfl) rfl ?_
  refine Bd_iconst (v := 1) (pc := 39) dX3_addTower_39 (by decide) ?_
  refine Bd_iadd (pc := 40) dX3_addTower_40 ?_
  refine Bd_putI (j := 6) (ty := .int) ck3 (pc := 41) dX3_addTower_41 k_163 rfl (Nat.le_of_ble_eq_true rfl) rfl rfl pfI rfl rfl ?_
  refine Bd_vret (pc := 44) dX3_addTower_44 rfl ?_
  exact PD_v (by rw [atD, nI_succ, ← hn]; rfl)
set_option maxRecDepth 100000 in
set_option maxHeartbeats 4000000 in
theorem sem_X3_addHill {M : Mem} {n : Nat} {x y : Int32} (hn : M 51 7 = nI n) (h6 : n < 3) : Sem mX3_addHill SH [.ref 51, .int x, .int y] M (PD SH none (ahD M n x y)) := by
  refine Sem_of rfl (fun G => (Nat.le_of_ble_eq_true rfl)) (fun G => ?_)
  refine Bd_aload_0 (pc := 0) dX3_addHill_0 ?_
  refine Bd_getI (j := 7) ck3 (pc := 1) dX3_addHill_1 k_166 rfl (Nat.le_of_ble_eq_true rfl) rfl ?_
  refine Bd_iconst (v := 3) (pc := 4) dX3_addHill_4 (by decide) ?_
  refine Bd_icmp_ge (t := 33) (pc := 5) dX3_addHill_5 (by decide) (fun b5 => (show False from nI_ge h6 (by decide) (hn ▸ b5)).elim) (fun b5 => ?_)
  refine Bd_aload_0 (pc := 8) dX3_addHill_8 ?_
  refine Bd_getR (j := 3) ck3 (pc := 9) dX3_addHill_9 k_157 rfl (Nat.le_of_ble_eq_true rfl) rfl ?_
  refine Bd_aload_0 (pc := 12) dX3_addHill_12 ?_
  refine Bd_getI (j := 7) ck3 (pc := 13) dX3_addHill_13 k_166 rfl (Nat.le_of_ble_eq_true rfl) rfl ?_
  refine Bd_bipush (v := 9) (pc := 16) dX3_addHill_16 (by decide) ?_
  refine Bd_iload_2 (pc := 18) dX3_addHill_18 ?_
  refine Bd_imul (pc := 19) dX3_addHill_19 ?_
  refine Bd_iload_1 (pc := 20) dX3_addHill_20 ?_
  refine Bd_iadd (pc := 21) dX3_addHill_21 ?_
  refine Bd_iastc (j := n) (by rw [hn]; exact nI_clamp (by omega)) (pc := 22) dX3_addHill_22 rfl (by rw [hn]; exact vpi (by omega) (by omega)) ?_
  refine Bd_aload_0 (pc := 23) dX3_addHill_23 ?_
  refine Bd_dup (pc := 24) dX3_addHill_24 rfl ?_
  refine Bd_getI (j := 7) ck3 (pc := 25) dX3_addHill_25 k_166 rfl (Nat.le_of_ble_eq_true rfl) rfl ?_
  refine Bd_iconst (v := 1) (pc := 28) dX3_addHill_28 (by decide) ?_
  refine Bd_iadd (pc := 29) dX3_addHill_29 ?_
  refine Bd_putI (j := 7) (ty := .int) ck3 (pc := 30) dX3_addHill_30 k_166 rfl (Nat.le_of_ble_eq_true rfl) rfl rfl pfI rfl rfl ?_
  refine Bd_vret (pc := 33) dX3_addHill_33 rfl ?_
  exact PD_v (by rw [ahD, nI_succ, ← hn]; rfl)
set_option maxRecDepth 100000 in
set_option maxHeartbeats 4000000 in
theorem sem_X3_addNote {M : Mem} {n : Nat} {b t : Int32} (hn : M 51 8 = nI n) (h6 : n < 12) : Sem mX3_addNote SH [.ref 51, .int b, .int t] M (PD SH none (anD M n b t)) := by
  refine Sem_of rfl (fun G => (Nat.le_of_ble_eq_true rfl)) (fun G => ?_)
  refine Bd_aload_0 (pc := 0) dX3_addNote_0 ?_
  refine Bd_getI (j := 8) ck3 (pc := 1) dX3_addNote_1 k_169 rfl (Nat.le_of_ble_eq_true rfl) rfl ?_
  refine Bd_bipush (v := 12) (pc := 4) dX3_addNote_4 (by decide) ?_
  refine Bd_icmp_ge (t := 39) (pc := 6) dX3_addNote_6 (by decide) (fun b6 => (show False from nI_ge h6 (by decide) (hn ▸ b6)).elim) (fun b6 => ?_)
  refine Bd_aload_0 (pc := 9) dX3_addNote_9 ?_
  refine Bd_getR (j := 4) ck3 (pc := 10) dX3_addNote_10 k_159 rfl (Nat.le_of_ble_eq_true rfl) rfl ?_
  refine Bd_aload_0 (pc := 13) dX3_addNote_13 ?_
  refine Bd_getI (j := 8) ck3 (pc := 14) dX3_addNote_14 k_169 rfl (Nat.le_of_ble_eq_true rfl) rfl ?_
  refine Bd_iload_1 (pc := 17) dX3_addNote_17 ?_
  refine Bd_iastc (j := n) (by rw [hn]; exact nI_clamp (by omega)) (pc := 18) dX3_addNote_18 rfl (by rw [hn]; exact vpi (by omega) (by omega)) ?_
  refine Bd_aload_0 (pc := 19) dX3_addNote_19 ?_
  refine Bd_getR (j := 5) ck3 (pc := 20) dX3_addNote_20 k_161 rfl (Nat.le_of_ble_eq_true rfl) rfl ?_
  refine Bd_aload_0 (pc := 23) dX3_addNote_23 ?_
  refine Bd_getI (j := 8) ck3 (pc := 24) dX3_addNote_24 k_169 rfl (Nat.le_of_ble_eq_true rfl) rfl ?_
  refine Bd_iload_2 (pc := 27) dX3_addNote_27 ?_
  refine Bd_iastc (j := n) (by rw [(show updM M 56 n b 51 8 = nI n from hn)]; exact nI_clamp (by omega)) (pc := 28) dX3_addNote_28 rfl (by rw [(show updM M 56 n b 51 8 = nI n from hn)]; exact vpi (by omega) (by omega)) ?_
  refine Bd_aload_0 (pc := 29) dX3_addNote_29 ?_
  refine Bd_dup (pc := 30) dX3_addNote_30 rfl ?_
  refine Bd_getI (j := 8) ck3 (pc := 31) dX3_addNote_31 k_169 rfl (Nat.le_of_ble_eq_true rfl) rfl ?_
  refine Bd_iconst (v := 1) (pc := 34) dX3_addNote_34 (by decide) ?_
  refine Bd_iadd (pc := 35) dX3_addNote_35 ?_
  refine Bd_putI (j := 8) (ty := .int) ck3 (pc := 36) dX3_addNote_36 k_169 rfl (Nat.le_of_ble_eq_true rfl) rfl rfl pfI rfl rfl ?_
  refine Bd_vret (pc := 39) dX3_addNote_39 rfl ?_
  exact PD_v (by rw [anD, nI_succ, ← hn]; rfl)
