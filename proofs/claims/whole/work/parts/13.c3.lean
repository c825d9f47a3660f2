/-! 13: the class: public methods without loops -/
def endV (M : Mem) (n : Int32) : Int32 := if n < 0 then -1 else if n ≤ M 1 2 then M 1 2 else -1
def endU (M : Mem) (n : Int32) : Mem := if n < 0 then M else if n ≤ M 1 2 then updM M 1 2 n else M
set_option maxRecDepth 100000 in
set_option maxHeartbeats 4000000 in
theorem sem_X7_end {M : Mem} {n : Int32} : Sem mX7_end SH [.ref 0, .int n] M (PD SH (some (.int (endV M n))) (endU M n)) := by
  refine Sem_of rfl (fun G => (Nat.le_of_ble_eq_true rfl)) (fun G => ?_)
  refine Bd_aload_0 (pc := 0) dX7_end_0 ?_
  refine Bd_getR (j := 0) ck7 (pc := 1) dX7_end_1 k_235 rfl (Nat.le_of_ble_eq_true rfl) rfl ?_
  refine Bd_getI (j := 2) ck5 (pc := 4) dX7_end_4 k_34 rfl (Nat.le_of_ble_eq_true rfl) rfl ?_
  refine Bd_istore_2 (pc := 7) dX7_end_7 (Nat.le_of_ble_eq_true rfl) rfl ?_
  refine Bd_iload_1 (pc := 8) dX7_end_8 ?_
  refine Bd_if_lt (t := 17) (pc := 9) dX7_end_9 (by decide) (fun b9 => ?_) (fun b9 => ?_)
  · refine Bd_iconst (v := -1) (pc := 17) dX7_end_17 (by decide) ?_
    refine Bd_iret (pc := 18) dX7_end_18 rfl ?_
    exact ⟨by (try simp only [b2_0, Classical.not_not] at *); (first | rfl | (simp only [endV, *, if_true, if_false, not_false_eq_true, not_true_eq_false, and_self, and_true, true_and, false_and, and_false, if_pos rfl]; done) | (simp [endV, *]; done) | (simp only [endV, *, if_true, if_false, not_false_eq_true, not_true_eq_false, and_self, and_true, true_and, false_and, and_false, if_pos rfl]; rfl) | (unfold endV; repeat (first | rw [if_pos (by assumption)] | rw [if_neg (by assumption)]); done) | (unfold endV; repeat (first | rw [if_pos (by assumption)] | rw [if_neg (by assumption)]); rfl)), rfl, by (try simp only [b2_0, Classical.not_not] at *); (first | rfl | (simp only [endU, *, if_true, if_false, not_false_eq_true, not_true_eq_false, and_self, and_true, true_and, false_and, and_false, if_pos rfl]; done) | (simp [endU, *]; done) | (simp only [endU, *, if_true, if_false, not_false_eq_true, not_true_eq_false, and_self, and_true, true_and, false_and, and_false, if_pos rfl]; rfl) | (unfold endU; repeat (first | rw [if_pos (by assumption)] | rw [if_neg (by assumption)]); done) | (unfold endU; repeat (first | rw [if_pos (by assumption)] | rw [if_neg (by assumption)]); rfl))⟩
  · refine Bd_iload_1 (pc := 12) dX7_end_12 ?_
    refine Bd_iload_2 (pc := 13) dX7_end_13 ?_
    refine Bd_icmp_le (t := 19) (pc := 14) dX7_end_14 (by decide) (fun b14 => ?_) (fun b14 => ?_)
    · refine Bd_aload_0 (pc := 19) dX7_end_19 ?_
      refine Bd_getR (j := 0) ck7 (pc := 20) dX7_end_20 k_235 rfl (Nat.le_of_ble_eq_true rfl) rfl ?_
      refine Bd_iload_1 (pc := 23) dX7_end_23 ?_
      refine Bd_putI (j := 2) (ty := .int) ck5 (pc := 24) dX7_end_24 k_34 rfl (Nat.le_of_ble_eq_true rfl) rfl rfl pfI rfl rfl ?_
      refine Bd_iload_2 (pc := 27) dX7_end_27 ?_
      refine Bd_iret (pc := 28) dX7_end_28 rfl ?_
      exact ⟨by (try simp only [b2_0, Classical.not_not] at *); (first | rfl | (simp only [endV, *, if_true, if_false, not_false_eq_true, not_true_eq_false, and_self, and_true, true_and, false_and, and_false, if_pos rfl]; done) | (simp [endV, *]; done) | (simp only [endV, *, if_true, if_false, not_false_eq_true, not_true_eq_false, and_self, and_true, true_and, false_and, and_false, if_pos rfl]; rfl) | (unfold endV; repeat (first | rw [if_pos (by assumption)] | rw [if_neg (by assumption)]); done) | (unfold endV; repeat (first | rw [if_pos (by assumption)] | rw [if_neg (by assumption)]); rfl)), rfl, by (try simp only [b2_0, Classical.not_not] at *); (first | rfl | (simp only [endU, *, if_true, if_false, not_false_eq_true, not_true_eq_false, and_self, and_true, true_and, false_and, and_false, if_pos rfl]; done) | (simp [endU, *]; done) | (simp only [endU, *, if_true, if_false, not_false_eq_true, not_true_eq_false, and_self, and_true, true_and, false_and, and_false, if_pos rfl]; rfl) | (unfold endU; repeat (first | rw [if_pos (by assumption)] | rw [if_neg (by assumption)]); done) | (unfold endU; repeat (first | rw [if_pos (by assumption)] | rw [if_neg (by assumption)]); rfl))⟩
    · refine Bd_iconst (v := -1) (pc := 17) dX7_end_17 (by decide) ?_
      refine Bd_iret (pc := 18) dX7_end_18 rfl ?_
      exact ⟨by (try simp only [b2_0, Classical.not_not] at *); (first | rfl | (simp only [endV, *, if_true, if_false, not_false_eq_true, not_true_eq_false, and_self, and_true, true_and, false_and, and_false, if_pos rfl]; done) | (simp [endV, *]; done) | (simp only [endV, *, if_true, if_false, not_false_eq_true, not_true_eq_false, and_self, and_true, true_and, false_and, and_false, if_pos rfl]; rfl) | (unfold endV; repeat (first | rw [if_pos (by assumption)] | rw [if_neg (by assumption)]); done) | (unfold endV; repeat (first | rw [if_pos (by assumption)] | rw [if_neg (by assumption)]); rfl)), rfl, by (try simp only [b2_0, Classical.not_not] at *); (first | rfl | (simp only [endU, *, if_true, if_false, not_false_eq_true, not_true_eq_false, and_self, and_true, true_and, false_and, and_false, if_pos rfl]; done) | (simp [endU, *]; done) | (simp only [endU, *, if_true, if_false, not_false_eq_true, not_true_eq_false, and_self, and_true, true_and, false_and, and_false, if_pos rfl]; rfl) | (unfold endU; repeat (first | rw [if_pos (by assumption)] | rw [if_neg (by assumption)]); done) | (unfold endU; repeat (first | rw [if_pos (by assumption)] | rw [if_neg (by assumption)]); rfl))⟩
set_option maxRecDepth 100000 in
set_option maxHeartbeats 4000000 in
theorem sem_X7_fault {M : Mem} : Sem mX7_fault SH [.ref 0] M (PD SH (some (.int (M 0 10))) (M)) := by
  refine Sem_of rfl (fun G => (Nat.le_of_ble_eq_true rfl)) (fun G => ?_)
  refine Bd_aload_0 (pc := 0) dX7_fault_0 ?_
  refine Bd_getI (j := 10) ck7 (pc := 1) dX7_fault_1 k_245 rfl (Nat.le_of_ble_eq_true rfl) rfl ?_
  refine Bd_iret (pc := 4) dX7_fault_4 rfl ?_
  exact PD_i rfl rfl
set_option maxRecDepth 100000 in
set_option maxHeartbeats 4000000 in
theorem sem_X7_torn {M : Mem} : Sem mX7_torn SH [.ref 0] M (PD SH (some (.int (M 0 11))) (M)) := by
  refine Sem_of rfl (fun G => (Nat.le_of_ble_eq_true rfl)) (fun G => ?_)
  refine Bd_aload_0 (pc := 0) dX7_torn_0 ?_
  refine Bd_getI (j := 11) ck7 (pc := 1) dX7_torn_1 k_246 rfl (Nat.le_of_ble_eq_true rfl) rfl ?_
  refine Bd_iret (pc := 4) dX7_torn_4 rfl ?_
  exact PD_i rfl rfl
def ruleV (M : Mem) (k : Int32) : Int32 := if 0 ≤ k ∧ k < 6 then M 45 (cn k) else -1
set_option maxRecDepth 100000 in
set_option maxHeartbeats 4000000 in
theorem sem_X7_rule {M : Mem} {k : Int32} : Sem mX7_rule SH [.ref 0, .int k] M (PD SH (some (.int (ruleV M k))) (M)) := by
  refine Sem_of rfl (fun G => (Nat.le_of_ble_eq_true rfl)) (fun G => ?_)
  refine Bd_iload_1 (pc := 0) dX7_rule_0 ?_
  refine Bd_bipush (v := 6) (pc := 1) dX7_rule_1 (by decide) ?_
  refine Bd_callS2i (cd := mX7_isWithin) (pc := 3) dX7_rule_3 k_448 v_X7_isWithin ⟨(Nat.le_of_ble_eq_true rfl), (Nat.le_of_ble_eq_true rfl)⟩ sem_X7_isWithin (Nat.le_of_ble_eq_true rfl) ?_
  refine Bd_if_eq (t := 21) (pc := 6) dX7_rule_6 (by decide) (fun b6 => ?_) (fun b6 => ?_)
  · refine Bd_iconst (v := -1) (pc := 21) dX7_rule_21 (by decide) ?_
    refine Bd_iret (pc := 22) dX7_rule_22 rfl ?_
    exact PD_i (by (try simp only [b2_0, Classical.not_not] at *); (first | rfl | (simp only [ruleV, *, if_true, if_false, not_false_eq_true, not_true_eq_false, and_self, and_true, true_and, false_and, and_false, if_pos rfl]; done) | (simp [ruleV, *]; done) | (simp only [ruleV, *, if_true, if_false, not_false_eq_true, not_true_eq_false, and_self, and_true, true_and, false_and, and_false, if_pos rfl]; rfl) | (unfold ruleV; repeat (first | rw [if_pos (by assumption)] | rw [if_neg (by assumption)]); done) | (unfold ruleV; repeat (first | rw [if_pos (by assumption)] | rw [if_neg (by assumption)]); rfl))) rfl
  · refine Bd_aload_0 (pc := 9) dX7_rule_9 ?_
    refine Bd_getR (j := 8) ck7 (pc := 10) dX7_rule_10 k_243 rfl (Nat.le_of_ble_eq_true rfl) rfl ?_
    refine Bd_getR (j := 0) ck3 (pc := 13) dX7_rule_13 k_149 rfl (Nat.le_of_ble_eq_true rfl) rfl ?_
    refine Bd_iload_1 (pc := 16) dX7_rule_16 ?_
    refine Bd_iald (pc := 17) dX7_rule_17 rfl (vpB b6 (by decide)) ?_
    refine Bd_goto (t := 22) (pc := 18) dX7_rule_18 (by decide) ?_
    refine Bd_iret (pc := 22) dX7_rule_22 rfl ?_
    exact PD_i (by (try simp only [b2_0, Classical.not_not] at *); (first | rfl | (simp only [ruleV, *, if_true, if_false, not_false_eq_true, not_true_eq_false, and_self, and_true, true_and, false_and, and_false, if_pos rfl]; done) | (simp [ruleV, *]; done) | (simp only [ruleV, *, if_true, if_false, not_false_eq_true, not_true_eq_false, and_self, and_true, true_and, false_and, and_false, if_pos rfl]; rfl) | (unfold ruleV; repeat (first | rw [if_pos (by assumption)] | rw [if_neg (by assumption)]); done) | (unfold ruleV; repeat (first | rw [if_pos (by assumption)] | rw [if_neg (by assumption)]); rfl))) rfl
def towerV (M : Mem) (t k : Int32) : Int32 := if 0 ≤ t ∧ t < M 44 6 then if 0 ≤ k ∧ k < 2 then if k = 0 then M 46 (cn t) else M 47 (cn t) else -1 else -1
set_option maxRecDepth 100000 in
set_option maxHeartbeats 4000000 in
theorem sem_X7_tower {M : Mem} (h : WF M) {t k : Int32} : Sem mX7_tower SH [.ref 0, .int t, .int k] M (PD SH (some (.int (towerV M t k))) (M)) := by
  refine Sem_of rfl (fun G => (Nat.le_of_ble_eq_true rfl)) (fun G => ?_)
  refine Bd_aload_0 (pc := 0) dX7_tower_0 ?_
  refine Bd_getR (j := 8) ck7 (pc := 1) dX7_tower_1 k_243 rfl (Nat.le_of_ble_eq_true rfl) rfl ?_
  refine Bd_iload_1 (pc := 4) dX7_tower_4 ?_
  refine Bd_callV1i (cd := mX3_hasTower) (pc := 5) dX7_tower_5 k_453 v_X3_hasTower ⟨(Nat.le_of_ble_eq_true rfl), (Nat.le_of_ble_eq_true rfl)⟩ rfl rfl sem_X3_hasTower (Nat.le_of_ble_eq_true rfl) ?_
  refine Bd_if_eq (t := 19) (pc := 8) dX7_tower_8 (by decide) (fun b8 => ?_) (fun b8 => ?_)
  · refine Bd_iconst (v := -1) (pc := 19) dX7_tower_19 (by decide) ?_
    refine Bd_iret (pc := 20) dX7_tower_20 rfl ?_
    exact PD_i (by (try simp only [b2_0, Classical.not_not] at *); (first | rfl | (simp only [towerV, *, if_true, if_false, not_false_eq_true, not_true_eq_false, and_self, and_true, true_and, false_and, and_false, if_pos rfl]; done) | (simp [towerV, *]; done) | (simp only [towerV, *, if_true, if_false, not_false_eq_true, not_true_eq_false, and_self, and_true, true_and, false_and, and_false, if_pos rfl]; rfl) | (unfold towerV; repeat (first | rw [if_pos (by assumption)] | rw [if_neg (by assumption)]); done) | (unfold towerV; repeat (first | rw [if_pos (by assumption)] | rw [if_neg (by assumption)]); rfl))) rfl
  · refine Bd_iload_2 (pc := 11) dX7_tower_11 ?_
    refine Bd_iconst (v := 2) (pc := 12) dX7_tower_12 (by decide) ?_
    refine Bd_callS2i (cd := mX7_isWithin) (pc := 13) dX7_tower_13 k_448 v_X7_isWithin ⟨(Nat.le_of_ble_eq_true rfl), (Nat.le_of_ble_eq_true rfl)⟩ sem_X7_isWithin (Nat.le_of_ble_eq_true rfl) ?_
    refine Bd_if_ne (t := 21) (pc := 16) dX7_tower_16 (by decide) (fun b16 => ?_) (fun b16 => ?_)
    · refine Bd_iload_2 (pc := 21) dX7_tower_21 ?_
      refine Bd_if_ne (t := 37) (pc := 22) dX7_tower_22 (by decide) (fun b22 => ?_) (fun b22 => ?_)
      · refine Bd_aload_0 (pc := 37) dX7_tower_37 ?_
        refine Bd_getR (j := 8) ck7 (pc := 38) dX7_tower_38 k_243 rfl (Nat.le_of_ble_eq_true rfl) rfl ?_
        refine Bd_getR (j := 2) ck3 (pc := 41) dX7_tower_41 k_156 rfl (Nat.le_of_ble_eq_true rfl) rfl ?_
        refine Bd_iload_1 (pc := 44) dX7_tower_44 ?_
        refine Bd_iald (pc := 45) dX7_tower_45 rfl (vpB b8 h.nt6') ?_
        refine Bd_iret (pc := 46) dX7_tower_46 rfl ?_
        exact PD_i (by (try simp only [b2_0, Classical.not_not] at *); (first | rfl | (simp only [towerV, *, if_true, if_false, not_false_eq_true, not_true_eq_false, and_self, and_true, true_and, false_and, and_false, if_pos rfl]; done) | (simp [towerV, *]; done) | (simp only [towerV, *, if_true, if_false, not_false_eq_true, not_true_eq_false, and_self, and_true, true_and, false_and, and_false, if_pos rfl]; rfl) | (unfold towerV; repeat (first | rw [if_pos (by assumption)] | rw [if_neg (by assumption)]); done) | (unfold towerV; repeat (first | rw [if_pos (by assumption)] | rw [if_neg (by assumption)]); rfl))) rfl
      · refine Bd_aload_0 (pc := 25) dX7_tower_25 ?_
        refine Bd_getR (j := 8) ck7 (pc := 26) dX7_tower_26 k_243 rfl (Nat.le_of_ble_eq_true rfl) rfl ?_
        refine Bd_getR (j := 1) ck3 (pc := 29) dX7_tower_29 k_153 rfl (Nat.le_of_ble_eq_true rfl) rfl ?_
        refine Bd_iload_1 (pc := 32) dX7_tower_32 ?_
        refine Bd_iald (pc := 33) dX7_tower_33 rfl (vpB b8 h.nt6') ?_
        refine Bd_goto (t := 46) (pc := 34) dX7_tower_34 (by decide) ?_
        refine Bd_iret (pc := 46) dX7_tower_46 rfl ?_
        exact PD_i (by (try simp only [b2_0, Classical.not_not] at *); (first | rfl | (simp only [towerV, *, if_true, if_false, not_false_eq_true, not_true_eq_false, and_self, and_true, true_and, false_and, and_false, if_pos rfl]; done) | (simp [towerV, *]; done) | (simp only [towerV, *, if_true, if_false, not_false_eq_true, not_true_eq_false, and_self, and_true, true_and, false_and, and_false, if_pos rfl]; rfl) | (unfold towerV; repeat (first | rw [if_pos (by assumption)] | rw [if_neg (by assumption)]); done) | (unfold towerV; repeat (first | rw [if_pos (by assumption)] | rw [if_neg (by assumption)]); rfl))) rfl
    · refine Bd_iconst (v := -1) (pc := 19) dX7_tower_19 (by decide) ?_
      refine Bd_iret (pc := 20) dX7_tower_20 rfl ?_
      exact PD_i (by (try simp only [b2_0, Classical.not_not] at *); (first | rfl | (simp only [towerV, *, if_true, if_false, not_false_eq_true, not_true_eq_false, and_self, and_true, true_and, false_and, and_false, if_pos rfl]; done) | (simp [towerV, *]; done) | (simp only [towerV, *, if_true, if_false, not_false_eq_true, not_true_eq_false, and_self, and_true, true_and, false_and, and_false, if_pos rfl]; rfl) | (unfold towerV; repeat (first | rw [if_pos (by assumption)] | rw [if_neg (by assumption)]); done) | (unfold towerV; repeat (first | rw [if_pos (by assumption)] | rw [if_neg (by assumption)]); rfl))) rfl
def hillV (M : Mem) (k : Int32) : Int32 := if 0 ≤ k ∧ k < M 44 7 then M 48 (cn k) else -1
set_option maxRecDepth 100000 in
set_option maxHeartbeats 4000000 in
theorem sem_X7_hill {M : Mem} (h : WF M) {k : Int32} : Sem mX7_hill SH [.ref 0, .int k] M (PD SH (some (.int (hillV M k))) (M)) := by
  refine Sem_of rfl (fun G => (Nat.le_of_ble_eq_true rfl)) (fun G => ?_)
  refine Bd_iload_1 (pc := 0) dX7_hill_0 ?_
  refine Bd_aload_0 (pc := 1) dX7_hill_1 ?_
  refine Bd_getR (j := 8) ck7 (pc := 2) dX7_hill_2 k_243 rfl (Nat.le_of_ble_eq_true rfl) rfl ?_
  refine Bd_getI (j := 7) ck3 (pc := 5) dX7_hill_5 k_167 rfl (Nat.le_of_ble_eq_true rfl) rfl ?_
  refine Bd_callS2i (cd := mX7_isWithin) (pc := 8) dX7_hill_8 k_448 v_X7_isWithin ⟨(Nat.le_of_ble_eq_true rfl), (Nat.le_of_ble_eq_true rfl)⟩ sem_X7_isWithin (Nat.le_of_ble_eq_true rfl) ?_
  refine Bd_if_eq (t := 26) (pc := 11) dX7_hill_11 (by decide) (fun b11 => ?_) (fun b11 => ?_)
  · refine Bd_iconst (v := -1) (pc := 26) dX7_hill_26 (by decide) ?_
    refine Bd_iret (pc := 27) dX7_hill_27 rfl ?_
    exact PD_i (by (try simp only [b2_0, Classical.not_not] at *); (first | rfl | (simp only [hillV, *, if_true, if_false, not_false_eq_true, not_true_eq_false, and_self, and_true, true_and, false_and, and_false, if_pos rfl]; done) | (simp [hillV, *]; done) | (simp only [hillV, *, if_true, if_false, not_false_eq_true, not_true_eq_false, and_self, and_true, true_and, false_and, and_false, if_pos rfl]; rfl) | (unfold hillV; repeat (first | rw [if_pos (by assumption)] | rw [if_neg (by assumption)]); done) | (unfold hillV; repeat (first | rw [if_pos (by assumption)] | rw [if_neg (by assumption)]); rfl))) rfl
  · refine Bd_aload_0 (pc := 14) dX7_hill_14 ?_
    refine Bd_getR (j := 8) ck7 (pc := 15) dX7_hill_15 k_243 rfl (Nat.le_of_ble_eq_true rfl) rfl ?_
    refine Bd_getR (j := 3) ck3 (pc := 18) dX7_hill_18 k_158 rfl (Nat.le_of_ble_eq_true rfl) rfl ?_
    refine Bd_iload_1 (pc := 21) dX7_hill_21 ?_
    refine Bd_iald (pc := 22) dX7_hill_22 rfl (vpB b11 h.nh3') ?_
    refine Bd_goto (t := 27) (pc := 23) dX7_hill_23 (by decide) ?_
    refine Bd_iret (pc := 27) dX7_hill_27 rfl ?_
    exact PD_i (by (try simp only [b2_0, Classical.not_not] at *); (first | rfl | (simp only [hillV, *, if_true, if_false, not_false_eq_true, not_true_eq_false, and_self, and_true, true_and, false_and, and_false, if_pos rfl]; done) | (simp [hillV, *]; done) | (simp only [hillV, *, if_true, if_false, not_false_eq_true, not_true_eq_false, and_self, and_true, true_and, false_and, and_false, if_pos rfl]; rfl) | (unfold hillV; repeat (first | rw [if_pos (by assumption)] | rw [if_neg (by assumption)]); done) | (unfold hillV; repeat (first | rw [if_pos (by assumption)] | rw [if_neg (by assumption)]); rfl))) rfl
def noteV (M : Mem) (t k : Int32) : Int32 := if 0 ≤ t ∧ t < M 44 8 then if 0 ≤ k ∧ k < 2 then if k = 0 then M 49 (cn t) else M 50 (cn t) else -1 else -1
set_option maxRecDepth 100000 in
set_option maxHeartbeats 4000000 in
theorem sem_X7_note {M : Mem} (h : WF M) {t k : Int32} : Sem mX7_note SH [.ref 0, .int t, .int k] M (PD SH (some (.int (noteV M t k))) (M)) := by
  refine Sem_of rfl (fun G => (Nat.le_of_ble_eq_true rfl)) (fun G => ?_)
  refine Bd_iload_1 (pc := 0) dX7_note_0 ?_
  refine Bd_aload_0 (pc := 1) dX7_note_1 ?_
  refine Bd_getR (j := 8) ck7 (pc := 2) dX7_note_2 k_243 rfl (Nat.le_of_ble_eq_true rfl) rfl ?_
  refine Bd_getI (j := 8) ck3 (pc := 5) dX7_note_5 k_171 rfl (Nat.le_of_ble_eq_true rfl) rfl ?_
  refine Bd_callS2i (cd := mX7_isWithin) (pc := 8) dX7_note_8 k_448 v_X7_isWithin ⟨(Nat.le_of_ble_eq_true rfl), (Nat.le_of_ble_eq_true rfl)⟩ sem_X7_isWithin (Nat.le_of_ble_eq_true rfl) ?_
  refine Bd_if_eq (t := 22) (pc := 11) dX7_note_11 (by decide) (fun b11 => ?_) (fun b11 => ?_)
  · refine Bd_iconst (v := -1) (pc := 22) dX7_note_22 (by decide) ?_
    refine Bd_iret (pc := 23) dX7_note_23 rfl ?_
    exact PD_i (by (try simp only [b2_0, Classical.not_not] at *); (first | rfl | (simp only [noteV, *, if_true, if_false, not_false_eq_true, not_true_eq_false, and_self, and_true, true_and, false_and, and_false, if_pos rfl]; done) | (simp [noteV, *]; done) | (simp only [noteV, *, if_true, if_false, not_false_eq_true, not_true_eq_false, and_self, and_true, true_and, false_and, and_false, if_pos rfl]; rfl) | (unfold noteV; repeat (first | rw [if_pos (by assumption)] | rw [if_neg (by assumption)]); done) | (unfold noteV; repeat (first | rw [if_pos (by assumption)] | rw [if_neg (by assumption)]); rfl))) rfl
  · refine Bd_iload_2 (pc := 14) dX7_note_14 ?_
    refine Bd_iconst (v := 2) (pc := 15) dX7_note_15 (by decide) ?_
    refine Bd_callS2i (cd := mX7_isWithin) (pc := 16) dX7_note_16 k_448 v_X7_isWithin ⟨(Nat.le_of_ble_eq_true rfl), (Nat.le_of_ble_eq_true rfl)⟩ sem_X7_isWithin (Nat.le_of_ble_eq_true rfl) ?_
    refine Bd_if_ne (t := 24) (pc := 19) dX7_note_19 (by decide) (fun b19 => ?_) (fun b19 => ?_)
    · refine Bd_iload_2 (pc := 24) dX7_note_24 ?_
      refine Bd_if_ne (t := 40) (pc := 25) dX7_note_25 (by decide) (fun b25 => ?_) (fun b25 => ?_)
      · refine Bd_aload_0 (pc := 40) dX7_note_40 ?_
        refine Bd_getR (j := 8) ck7 (pc := 41) dX7_note_41 k_243 rfl (Nat.le_of_ble_eq_true rfl) rfl ?_
        refine Bd_getR (j := 5) ck3 (pc := 44) dX7_note_44 k_162 rfl (Nat.le_of_ble_eq_true rfl) rfl ?_
        refine Bd_iload_1 (pc := 47) dX7_note_47 ?_
        refine Bd_iald (pc := 48) dX7_note_48 rfl (vpB b11 h.nn12') ?_
        refine Bd_iret (pc := 49) dX7_note_49 rfl ?_
        exact PD_i (by (try simp only [b2_0, Classical.not_not] at *); (first | rfl | (simp only [noteV, *, if_true, if_false, not_false_eq_true, not_true_eq_false, and_self, and_true, true_and, false_and, and_false, if_pos rfl]; done) | (simp [noteV, *]; done) | (simp only [noteV, *, if_true, if_false, not_false_eq_true, not_true_eq_false, and_self, and_true, true_and, false_and, and_false, if_pos rfl]; rfl) | (unfold noteV; repeat (first | rw [if_pos (by assumption)] | rw [if_neg (by assumption)]); done) | (unfold noteV; repeat (first | rw [if_pos (by assumption)] | rw [if_neg (by assumption)]); rfl))) rfl
      · refine Bd_aload_0 (pc := 28) dX7_note_28 ?_
        refine Bd_getR (j := 8) ck7 (pc := 29) dX7_note_29 k_243 rfl (Nat.le_of_ble_eq_true rfl) rfl ?_
        refine Bd_getR (j := 4) ck3 (pc := 32) dX7_note_32 k_160 rfl (Nat.le_of_ble_eq_true rfl) rfl ?_
        refine Bd_iload_1 (pc := 35) dX7_note_35 ?_
        refine Bd_iald (pc := 36) dX7_note_36 rfl (vpB b11 h.nn12') ?_
        refine Bd_goto (t := 49) (pc := 37) dX7_note_37 (by decide) ?_
        refine Bd_iret (pc := 49) dX7_note_49 rfl ?_
        exact PD_i (by (try simp only [b2_0, Classical.not_not] at *); (first | rfl | (simp only [noteV, *, if_true, if_false, not_false_eq_true, not_true_eq_false, and_self, and_true, true_and, false_and, and_false, if_pos rfl]; done) | (simp [noteV, *]; done) | (simp only [noteV, *, if_true, if_false, not_false_eq_true, not_true_eq_false, and_self, and_true, true_and, false_and, and_false, if_pos rfl]; rfl) | (unfold noteV; repeat (first | rw [if_pos (by assumption)] | rw [if_neg (by assumption)]); done) | (unfold noteV; repeat (first | rw [if_pos (by assumption)] | rw [if_neg (by assumption)]); rfl))) rfl
    · refine Bd_iconst (v := -1) (pc := 22) dX7_note_22 (by decide) ?_
      refine Bd_iret (pc := 23) dX7_note_23 rfl ?_
      exact PD_i (by (try simp only [b2_0, Classical.not_not] at *); (first | rfl | (simp only [noteV, *, if_true, if_false, not_false_eq_true, not_true_eq_false, and_self, and_true, true_and, false_and, and_false, if_pos rfl]; done) | (simp [noteV, *]; done) | (simp only [noteV, *, if_true, if_false, not_false_eq_true, not_true_eq_false, and_self, and_true, true_and, false_and, and_false, if_pos rfl]; rfl) | (unfold noteV; repeat (first | rw [if_pos (by assumption)] | rw [if_neg (by assumption)]); done) | (unfold noteV; repeat (first | rw [if_pos (by assumption)] | rw [if_neg (by assumption)]); rfl))) rfl
def windV (M : Mem) (e s : Int32) : Int32 := if 0 ≤ e ∧ e < 3 then if 0 ≤ s ∧ s < 3 then 3 * M 45 4 + M 45 5 else -1 else -1
def windU (M : Mem) (e s : Int32) : Mem := if 0 ≤ e ∧ e < 3 then if 0 ≤ s ∧ s < 3 then updM (updM M 45 4 e) 45 5 s else M else M
set_option maxRecDepth 100000 in
set_option maxHeartbeats 4000000 in
theorem sem_X7_wind {M : Mem} {e s : Int32} : Sem mX7_wind SH [.ref 0, .int e, .int s] M (PD SH (some (.int (windV M e s))) (windU M e s)) := by
  refine Sem_of rfl (fun G => (Nat.le_of_ble_eq_true rfl)) (fun G => ?_)
  refine Bd_iload_1 (pc := 0) dX7_wind_0 ?_
  refine Bd_iconst (v := 3) (pc := 1) dX7_wind_1 (by decide) ?_
  refine Bd_callS2i (cd := mX7_isWithin) (pc := 2) dX7_wind_2 k_448 v_X7_isWithin ⟨(Nat.le_of_ble_eq_true rfl), (Nat.le_of_ble_eq_true rfl)⟩ sem_X7_isWithin (Nat.le_of_ble_eq_true rfl) ?_
  refine Bd_if_eq (t := 16) (pc := 5) dX7_wind_5 (by decide) (fun b5 => ?_) (fun b5 => ?_)
  · refine Bd_iconst (v := -1) (pc := 16) dX7_wind_16 (by decide) ?_
    refine Bd_iret (pc := 17) dX7_wind_17 rfl ?_
    exact ⟨by (try simp only [b2_0, Classical.not_not] at *); (first | rfl | (simp only [windV, *, if_true, if_false, not_false_eq_true, not_true_eq_false, and_self, and_true, true_and, false_and, and_false, if_pos rfl]; done) | (simp [windV, *]; done) | (simp only [windV, *, if_true, if_false, not_false_eq_true, not_true_eq_false, and_self, and_true, true_and, false_and, and_false, if_pos rfl]; rfl) | (unfold windV; repeat (first | rw [if_pos (by assumption)] | rw [if_neg (by assumption)]); done) | (unfold windV; repeat (first | rw [if_pos (by assumption)] | rw [if_neg (by assumption)]); rfl)), rfl, by (try simp only [b2_0, Classical.not_not] at *); (first | rfl | (simp only [windU, *, if_true, if_false, not_false_eq_true, not_true_eq_false, and_self, and_true, true_and, false_and, and_false, if_pos rfl]; done) | (simp [windU, *]; done) | (simp only [windU, *, if_true, if_false, not_false_eq_true, not_true_eq_false, and_self, and_true, true_and, false_and, and_false, if_pos rfl]; rfl) | (unfold windU; repeat (first | rw [if_pos (by assumption)] | rw [if_neg (by assumption)]); done) | (unfold windU; repeat (first | rw [if_pos (by assumption)] | rw [if_neg (by assumption)]); rfl))⟩
  · refine Bd_iload_2 (pc := 8) dX7_wind_8 ?_
    refine Bd_iconst (v := 3) (pc := 9) dX7_wind_9 (by decide) ?_
    refine Bd_callS2i (cd := mX7_isWithin) (pc := 10) dX7_wind_10 k_448 v_X7_isWithin ⟨(Nat.le_of_ble_eq_true rfl), (Nat.le_of_ble_eq_true rfl)⟩ sem_X7_isWithin (Nat.le_of_ble_eq_true rfl) ?_
    refine Bd_if_ne (t := 18) (pc := 13) dX7_wind_13 (by decide) (fun b13 => ?_) (fun b13 => ?_)
    · refine Bd_iconst (v := 3) (pc := 18) dX7_wind_18 (by decide) ?_
      refine Bd_aload_0 (pc := 19) dX7_wind_19 ?_
      refine Bd_getR (j := 8) ck7 (pc := 20) dX7_wind_20 k_243 rfl (Nat.le_of_ble_eq_true rfl) rfl ?_
      refine Bd_getR (j := 0) ck3 (pc := 23) dX7_wind_23 k_149 rfl (Nat.le_of_ble_eq_true rfl) rfl ?_
      refine Bd_iconst (v := 4) (pc := 26) dX7_wind_26 (by decide) ?_
      refine Bd_ialdc (j := 4) rfl (pc := 27) dX7_wind_27 rfl (by unfold vp_in; decide) ?_
      refine Bd_imul (pc := 28) dX7_wind_28 ?_
      refine Bd_aload_0 (pc := 29) dX7_wind_29 ?_
      refine Bd_getR (j := 8) ck7 (pc := 30) dX7_wind_30 k_243 rfl (Nat.le_of_ble_eq_true rfl) rfl ?_
      refine Bd_getR (j := 0) ck3 (pc := 33) dX7_wind_33 k_149 rfl (Nat.le_of_ble_eq_true rfl) rfl ?_
      refine Bd_iconst (v := 5) (pc := 36) dX7_wind_36 (by decide) ?_
      refine Bd_ialdc (j := 5) rfl (pc := 37) dX7_wind_37 rfl (by unfold vp_in; decide) ?_
      refine Bd_iadd (pc := 38) dX7_wind_38 ?_
      refine Bd_istore_3 (pc := 39) dX7_wind_39 (Nat.le_of_ble_eq_true rfl) rfl ?_
      refine Bd_aload_0 (pc := 40) dX7_wind_40 ?_
      refine Bd_getR (j := 8) ck7 (pc := 41) dX7_wind_41 k_243 rfl (Nat.le_of_ble_eq_true rfl) rfl ?_
      refine Bd_getR (j := 0) ck3 (pc := 44) dX7_wind_44 k_149 rfl (Nat.le_of_ble_eq_true rfl) rfl ?_
      refine Bd_iconst (v := 4) (pc := 47) dX7_wind_47 (by decide) ?_
      refine Bd_iload_1 (pc := 48) dX7_wind_48 ?_
      refine Bd_iastc (j := 4) rfl (pc := 49) dX7_wind_49 rfl (by unfold vp_in; decide) ?_
      refine Bd_aload_0 (pc := 50) dX7_wind_50 ?_
      refine Bd_getR (j := 8) ck7 (pc := 51) dX7_wind_51 k_243 rfl (Nat.le_of_ble_eq_true rfl) rfl ?_
      refine Bd_getR (j := 0) ck3 (pc := 54) dX7_wind_54 k_149 rfl (Nat.le_of_ble_eq_true rfl) rfl ?_
      refine Bd_iconst (v := 5) (pc := 57) dX7_wind_57 (by decide) ?_
      refine Bd_iload_2 (pc := 58) dX7_wind_58 ?_
      refine Bd_iastc (j := 5) rfl (pc := 59) dX7_wind_59 rfl (by unfold vp_in; decide) ?_
      refine Bd_iload_3 (pc := 60) dX7_wind_60 ?_
      refine Bd_iret (pc := 61) dX7_wind_61 rfl ?_
      exact ⟨by (try simp only [b2_0, Classical.not_not] at *); (first | rfl | (simp only [windV, *, if_true, if_false, not_false_eq_true, not_true_eq_false, and_self, and_true, true_and, false_and, and_false, if_pos rfl]; done) | (simp [windV, *]; done) | (simp only [windV, *, if_true, if_false, not_false_eq_true, not_true_eq_false, and_self, and_true, true_and, false_and, and_false, if_pos rfl]; rfl) | (unfold windV; repeat (first | rw [if_pos (by assumption)] | rw [if_neg (by assumption)]); done) | (unfold windV; repeat (first | rw [if_pos (by assumption)] | rw [if_neg (by assumption)]); rfl)), rfl, by (try simp only [b2_0, Classical.not_not] at *); (first | rfl | (simp only [windU, *, if_true, if_false, not_false_eq_true, not_true_eq_false, and_self, and_true, true_and, false_and, and_false, if_pos rfl]; done) | (simp [windU, *]; done) | (simp only [windU, *, if_true, if_false, not_false_eq_true, not_true_eq_false, and_self, and_true, true_and, false_and, and_false, if_pos rfl]; rfl) | (unfold windU; repeat (first | rw [if_pos (by assumption)] | rw [if_neg (by assumption)]); done) | (unfold windU; repeat (first | rw [if_pos (by assumption)] | rw [if_neg (by assumption)]); rfl))⟩
    · refine Bd_iconst (v := -1) (pc := 16) dX7_wind_16 (by decide) ?_
      refine Bd_iret (pc := 17) dX7_wind_17 rfl ?_
      exact ⟨by (try simp only [b2_0, Classical.not_not] at *); (first | rfl | (simp only [windV, *, if_true, if_false, not_false_eq_true, not_true_eq_false, and_self, and_true, true_and, false_and, and_false, if_pos rfl]; done) | (simp [windV, *]; done) | (simp only [windV, *, if_true, if_false, not_false_eq_true, not_true_eq_false, and_self, and_true, true_and, false_and, and_false, if_pos rfl]; rfl) | (unfold windV; repeat (first | rw [if_pos (by assumption)] | rw [if_neg (by assumption)]); done) | (unfold windV; repeat (first | rw [if_pos (by assumption)] | rw [if_neg (by assumption)]); rfl)), rfl, by (try simp only [b2_0, Classical.not_not] at *); (first | rfl | (simp only [windU, *, if_true, if_false, not_false_eq_true, not_true_eq_false, and_self, and_true, true_and, false_and, and_false, if_pos rfl]; done) | (simp [windU, *]; done) | (simp only [windU, *, if_true, if_false, not_false_eq_true, not_true_eq_false, and_self, and_true, true_and, false_and, and_false, if_pos rfl]; rfl) | (unfold windU; repeat (first | rw [if_pos (by assumption)] | rw [if_neg (by assumption)]); done) | (unfold windU; repeat (first | rw [if_pos (by assumption)] | rw [if_neg (by assumption)]); rfl))⟩
abbrev carB (M : Mem) (t p : Int32) : Prop := (0 ≤ t ∧ t < M 44 6) ∧ ¬ p < 0 ∧ p ≤ 255
abbrev carS (M : Mem) (t p : Int32) : Prop := toF M t (cn (M 5 4)) &&& (p ^^^ -1) = 0
def carryV (M : Mem) (t p : Int32) : Int32 := if carB M t p then if carS M t p then M 47 (cn t) else -2 else -1
def carryU (M : Mem) (t p : Int32) : Mem := if carB M t p then if carS M t p then updM M 47 (cn t) p else M else M
set_option maxRecDepth 100000 in
set_option maxHeartbeats 4000000 in
theorem sem_X7_carry {M : Mem} (h : WF M) {t p : Int32} : Sem mX7_carry SH [.ref 0, .int t, .int p] M (PD SH (some (.int (carryV M t p))) (carryU M t p)) := by
  refine Sem_of rfl (fun G => (Nat.le_of_ble_eq_true rfl)) (fun G => ?_)
  refine Bd_aload_0 (pc := 0) dX7_carry_0 ?_
  refine Bd_getR (j := 8) ck7 (pc := 1) dX7_carry_1 k_243 rfl (Nat.le_of_ble_eq_true rfl) rfl ?_
  refine Bd_iload_1 (pc := 4) dX7_carry_4 ?_
  refine Bd_callV1i (cd := mX3_hasTower) (pc := 5) dX7_carry_5 k_453 v_X3_hasTower ⟨(Nat.le_of_ble_eq_true rfl), (Nat.le_of_ble_eq_true rfl)⟩ rfl rfl sem_X3_hasTower (Nat.le_of_ble_eq_true rfl) ?_
  refine Bd_if_eq (t := 22) (pc := 8) dX7_carry_8 (by decide) (fun b8 => ?_) (fun b8 => ?_)
  · refine Bd_iconst (v := -1) (pc := 22) dX7_carry_22 (by decide) ?_
    refine Bd_iret (pc := 23) dX7_carry_23 rfl ?_
    exact ⟨by (try simp only [b2_0, Classical.not_not] at *); (first | rfl | (simp only [carryV, carB, carS, *, if_true, if_false, not_false_eq_true, not_true_eq_false, and_self, and_true, true_and, false_and, and_false, if_pos rfl]; done) | (simp [carryV, carB, carS, *]; done) | (simp only [carryV, carB, carS, *, if_true, if_false, not_false_eq_true, not_true_eq_false, and_self, and_true, true_and, false_and, and_false, if_pos rfl]; rfl) | (unfold carryV; repeat (first | rw [if_pos (by assumption)] | rw [if_neg (by assumption)]); done) | (unfold carryV; repeat (first | rw [if_pos (by assumption)] | rw [if_neg (by assumption)]); rfl)), rfl, by (try simp only [b2_0, Classical.not_not] at *); (first | rfl | (simp only [carryU, carB, carS, *, if_true, if_false, not_false_eq_true, not_true_eq_false, and_self, and_true, true_and, false_and, and_false, if_pos rfl]; done) | (simp [carryU, carB, carS, *]; done) | (simp only [carryU, carB, carS, *, if_true, if_false, not_false_eq_true, not_true_eq_false, and_self, and_true, true_and, false_and, and_false, if_pos rfl]; rfl) | (unfold carryU; repeat (first | rw [if_pos (by assumption)] | rw [if_neg (by assumption)]); done) | (unfold carryU; repeat (first | rw [if_pos (by assumption)] | rw [if_neg (by assumption)]); rfl))⟩
  · refine Bd_iload_2 (pc := 11) dX7_carry_11 ?_
    refine Bd_if_lt (t := 22) (pc := 12) dX7_carry_12 (by decide) (fun b12 => ?_) (fun b12 => ?_)
    · refine Bd_iconst (v := -1) (pc := 22) dX7_carry_22 (by decide) ?_
      refine Bd_iret (pc := 23) dX7_carry_23 rfl ?_
      exact ⟨by (try simp only [b2_0, Classical.not_not] at *); (first | rfl | (simp only [carryV, carB, carS, *, if_true, if_false, not_false_eq_true, not_true_eq_false, and_self, and_true, true_and, false_and, and_false, if_pos rfl]; done) | (simp [carryV, carB, carS, *]; done) | (simp only [carryV, carB, carS, *, if_true, if_false, not_false_eq_true, not_true_eq_false, and_self, and_true, true_and, false_and, and_false, if_pos rfl]; rfl) | (unfold carryV; repeat (first | rw [if_pos (by assumption)] | rw [if_neg (by assumption)]); done) | (unfold carryV; repeat (first | rw [if_pos (by assumption)] | rw [if_neg (by assumption)]); rfl)), rfl, by (try simp only [b2_0, Classical.not_not] at *); (first | rfl | (simp only [carryU, carB, carS, *, if_true, if_false, not_false_eq_true, not_true_eq_false, and_self, and_true, true_and, false_and, and_false, if_pos rfl]; done) | (simp [carryU, carB, carS, *]; done) | (simp only [carryU, carB, carS, *, if_true, if_false, not_false_eq_true, not_true_eq_false, and_self, and_true, true_and, false_and, and_false, if_pos rfl]; rfl) | (unfold carryU; repeat (first | rw [if_pos (by assumption)] | rw [if_neg (by assumption)]); done) | (unfold carryU; repeat (first | rw [if_pos (by assumption)] | rw [if_neg (by assumption)]); rfl))⟩
    · refine Bd_iload_2 (pc := 15) dX7_carry_15 ?_
      refine Bd_sipush (v := 255) (pc := 16) dX7_carry_16 (by decide) ?_
      refine Bd_icmp_le (t := 24) (pc := 19) dX7_carry_19 (by decide) (fun b19 => ?_) (fun b19 => ?_)
      · refine Bd_aload_0 (pc := 24) dX7_carry_24 ?_
        refine Bd_getR (j := 2) ck7 (pc := 25) dX7_carry_25 k_237 rfl (Nat.le_of_ble_eq_true rfl) rfl ?_
        refine Bd_iload_1 (pc := 28) dX7_carry_28 ?_
        refine Bd_callV1i (cd := mX0_tonesOf) (pc := 29) dX7_carry_29 k_473 v_X0_tonesOf ⟨(Nat.le_of_ble_eq_true rfl), (Nat.le_of_ble_eq_true rfl)⟩ rfl rfl (sem_X0_tonesOf h.nb h.nb24) (Nat.le_of_ble_eq_true rfl) ?_
        refine Bd_iload_2 (pc := 32) dX7_carry_32 ?_
        refine Bd_iconst (v := -1) (pc := 33) dX7_carry_33 (by decide) ?_
        refine Bd_ixor (pc := 34) dX7_carry_34 ?_
        refine Bd_iand (pc := 35) dX7_carry_35 ?_
        refine Bd_if_eq (t := 42) (pc := 36) dX7_carry_36 (by decide) (fun b36 => ?_) (fun b36 => ?_)
        · refine Bd_aload_0 (pc := 42) dX7_carry_42 ?_
          refine Bd_getR (j := 8) ck7 (pc := 43) dX7_carry_43 k_243 rfl (Nat.le_of_ble_eq_true rfl) rfl ?_
          refine Bd_getR (j := 2) ck3 (pc := 46) dX7_carry_46 k_156 rfl (Nat.le_of_ble_eq_true rfl) rfl ?_
          refine Bd_iload_1 (pc := 49) dX7_carry_49 ?_
          refine Bd_iald (pc := 50) dX7_carry_50 rfl (vpB b8 h.nt6') ?_
          refine Bd_istore_3 (pc := 51) dX7_carry_51 (Nat.le_of_ble_eq_true rfl) rfl ?_
          refine Bd_aload_0 (pc := 52) dX7_carry_52 ?_
          refine Bd_getR (j := 8) ck7 (pc := 53) dX7_carry_53 k_243 rfl (Nat.le_of_ble_eq_true rfl) rfl ?_
          refine Bd_getR (j := 2) ck3 (pc := 56) dX7_carry_56 k_156 rfl (Nat.le_of_ble_eq_true rfl) rfl ?_
          refine Bd_iload_1 (pc := 59) dX7_carry_59 ?_
          refine Bd_iload_2 (pc := 60) dX7_carry_60 ?_
          refine Bd_iast (pc := 61) dX7_carry_61 rfl (vpB b8 h.nt6') ?_
          refine Bd_iload_3 (pc := 62) dX7_carry_62 ?_
          refine Bd_iret (pc := 63) dX7_carry_63 rfl ?_
          exact ⟨by (try simp only [b2_0, Classical.not_not] at *); (first | rfl | (simp only [carryV, carB, carS, *, if_true, if_false, not_false_eq_true, not_true_eq_false, and_self, and_true, true_and, false_and, and_false, if_pos rfl]; done) | (simp [carryV, carB, carS, *]; done) | (simp only [carryV, carB, carS, *, if_true, if_false, not_false_eq_true, not_true_eq_false, and_self, and_true, true_and, false_and, and_false, if_pos rfl]; rfl) | (unfold carryV; repeat (first | rw [if_pos (by assumption)] | rw [if_neg (by assumption)]); done) | (unfold carryV; repeat (first | rw [if_pos (by assumption)] | rw [if_neg (by assumption)]); rfl)), rfl, by (try simp only [b2_0, Classical.not_not] at *); (first | rfl | (simp only [carryU, carB, carS, *, if_true, if_false, not_false_eq_true, not_true_eq_false, and_self, and_true, true_and, false_and, and_false, if_pos rfl]; done) | (simp [carryU, carB, carS, *]; done) | (simp only [carryU, carB, carS, *, if_true, if_false, not_false_eq_true, not_true_eq_false, and_self, and_true, true_and, false_and, and_false, if_pos rfl]; rfl) | (unfold carryU; repeat (first | rw [if_pos (by assumption)] | rw [if_neg (by assumption)]); done) | (unfold carryU; repeat (first | rw [if_pos (by assumption)] | rw [if_neg (by assumption)]); rfl))⟩
        · refine Bd_bipush (v := -2) (pc := 39) dX7_carry_39 (by decide) ?_
          refine Bd_iret (pc := 41) dX7_carry_41 rfl ?_
          exact ⟨by (try simp only [b2_0, Classical.not_not] at *); (first | rfl | (simp only [carryV, carB, carS, *, if_true, if_false, not_false_eq_true, not_true_eq_false, and_self, and_true, true_and, false_and, and_false, if_pos rfl]; done) | (simp [carryV, carB, carS, *]; done) | (simp only [carryV, carB, carS, *, if_true, if_false, not_false_eq_true, not_true_eq_false, and_self, and_true, true_and, false_and, and_false, if_pos rfl]; rfl) | (unfold carryV; repeat (first | rw [if_pos (by assumption)] | rw [if_neg (by assumption)]); done) | (unfold carryV; repeat (first | rw [if_pos (by assumption)] | rw [if_neg (by assumption)]); rfl)), rfl, by (try simp only [b2_0, Classical.not_not] at *); (first | rfl | (simp only [carryU, carB, carS, *, if_true, if_false, not_false_eq_true, not_true_eq_false, and_self, and_true, true_and, false_and, and_false, if_pos rfl]; done) | (simp [carryU, carB, carS, *]; done) | (simp only [carryU, carB, carS, *, if_true, if_false, not_false_eq_true, not_true_eq_false, and_self, and_true, true_and, false_and, and_false, if_pos rfl]; rfl) | (unfold carryU; repeat (first | rw [if_pos (by assumption)] | rw [if_neg (by assumption)]); done) | (unfold carryU; repeat (first | rw [if_pos (by assumption)] | rw [if_neg (by assumption)]); rfl))⟩
      · refine Bd_iconst (v := -1) (pc := 22) dX7_carry_22 (by decide) ?_
        refine Bd_iret (pc := 23) dX7_carry_23 rfl ?_
        exact ⟨by (try simp only [b2_0, Classical.not_not] at *); (first | rfl | (simp only [carryV, carB, carS, *, if_true, if_false, not_false_eq_true, not_true_eq_false, and_self, and_true, true_and, false_and, and_false, if_pos rfl]; done) | (simp [carryV, carB, carS, *]; done) | (simp only [carryV, carB, carS, *, if_true, if_false, not_false_eq_true, not_true_eq_false, and_self, and_true, true_and, false_and, and_false, if_pos rfl]; rfl) | (unfold carryV; repeat (first | rw [if_pos (by assumption)] | rw [if_neg (by assumption)]); done) | (unfold carryV; repeat (first | rw [if_pos (by assumption)] | rw [if_neg (by assumption)]); rfl)), rfl, by (try simp only [b2_0, Classical.not_not] at *); (first | rfl | (simp only [carryU, carB, carS, *, if_true, if_false, not_false_eq_true, not_true_eq_false, and_self, and_true, true_and, false_and, and_false, if_pos rfl]; done) | (simp [carryU, carB, carS, *]; done) | (simp only [carryU, carB, carS, *, if_true, if_false, not_false_eq_true, not_true_eq_false, and_self, and_true, true_and, false_and, and_false, if_pos rfl]; rfl) | (unfold carryU; repeat (first | rw [if_pos (by assumption)] | rw [if_neg (by assumption)]); done) | (unfold carryU; repeat (first | rw [if_pos (by assumption)] | rw [if_neg (by assumption)]); rfl))⟩
def moveV (M : Mem) (t c : Int32) : Int32 := if 0 ≤ t ∧ t < M 44 6 then if hcF M 45 c then M 46 (cn t) else -1 else -1
def moveU (M : Mem) (t c : Int32) : Mem := if 0 ≤ t ∧ t < M 44 6 then if hcF M 45 c then updM M 46 (cn t) c else M else M
set_option maxRecDepth 100000 in
set_option maxHeartbeats 4000000 in
theorem sem_X7_move {M : Mem} (h : WF M) {t c : Int32} : Sem mX7_move SH [.ref 0, .int t, .int c] M (PD SH (some (.int (moveV M t c))) (moveU M t c)) := by
  refine Sem_of rfl (fun G => (Nat.le_of_ble_eq_true rfl)) (fun G => ?_)
  refine Bd_aload_0 (pc := 0) dX7_move_0 ?_
  refine Bd_getR (j := 8) ck7 (pc := 1) dX7_move_1 k_243 rfl (Nat.le_of_ble_eq_true rfl) rfl ?_
  refine Bd_iload_1 (pc := 4) dX7_move_4 ?_
  refine Bd_callV1i (cd := mX3_hasTower) (pc := 5) dX7_move_5 k_453 v_X3_hasTower ⟨(Nat.le_of_ble_eq_true rfl), (Nat.le_of_ble_eq_true rfl)⟩ rfl rfl sem_X3_hasTower (Nat.le_of_ble_eq_true rfl) ?_
  refine Bd_if_eq (t := 22) (pc := 8) dX7_move_8 (by decide) (fun b8 => ?_) (fun b8 => ?_)
  · refine Bd_iconst (v := -1) (pc := 22) dX7_move_22 (by decide) ?_
    refine Bd_iret (pc := 23) dX7_move_23 rfl ?_
    exact ⟨by (try simp only [b2_0, Classical.not_not] at *); (first | rfl | (simp only [moveV, *, if_true, if_false, not_false_eq_true, not_true_eq_false, and_self, and_true, true_and, false_and, and_false, if_pos rfl]; done) | (simp [moveV, *]; done) | (simp only [moveV, *, if_true, if_false, not_false_eq_true, not_true_eq_false, and_self, and_true, true_and, false_and, and_false, if_pos rfl]; rfl) | (unfold moveV; repeat (first | rw [if_pos (by assumption)] | rw [if_neg (by assumption)]); done) | (unfold moveV; repeat (first | rw [if_pos (by assumption)] | rw [if_neg (by assumption)]); rfl)), rfl, by (try simp only [b2_0, Classical.not_not] at *); (first | rfl | (simp only [moveU, *, if_true, if_false, not_false_eq_true, not_true_eq_false, and_self, and_true, true_and, false_and, and_false, if_pos rfl]; done) | (simp [moveU, *]; done) | (simp only [moveU, *, if_true, if_false, not_false_eq_true, not_true_eq_false, and_self, and_true, true_and, false_and, and_false, if_pos rfl]; rfl) | (unfold moveU; repeat (first | rw [if_pos (by assumption)] | rw [if_neg (by assumption)]); done) | (unfold moveU; repeat (first | rw [if_pos (by assumption)] | rw [if_neg (by assumption)]); rfl))⟩
  · refine Bd_aload_0 (pc := 11) dX7_move_11 ?_
    refine Bd_getR (j := 8) ck7 (pc := 12) dX7_move_12 k_243 rfl (Nat.le_of_ble_eq_true rfl) rfl ?_
    refine Bd_iload_2 (pc := 15) dX7_move_15 ?_
    refine Bd_callV1i (cd := mX3_hasCell) (pc := 16) dX7_move_16 k_481 v_X3_hasCell ⟨(Nat.le_of_ble_eq_true rfl), (Nat.le_of_ble_eq_true rfl)⟩ rfl rfl sem_X3_hasCell (Nat.le_of_ble_eq_true rfl) ?_
    refine Bd_if_ne (t := 24) (pc := 19) dX7_move_19 (by decide) (fun b19 => ?_) (fun b19 => ?_)
    · refine Bd_aload_0 (pc := 24) dX7_move_24 ?_
      refine Bd_getR (j := 8) ck7 (pc := 25) dX7_move_25 k_243 rfl (Nat.le_of_ble_eq_true rfl) rfl ?_
      refine Bd_getR (j := 1) ck3 (pc := 28) dX7_move_28 k_153 rfl (Nat.le_of_ble_eq_true rfl) rfl ?_
      refine Bd_iload_1 (pc := 31) dX7_move_31 ?_
      refine Bd_iald (pc := 32) dX7_move_32 rfl (vpB b8 h.nt6') ?_
      refine Bd_istore_3 (pc := 33) dX7_move_33 (Nat.le_of_ble_eq_true rfl) rfl ?_
      refine Bd_aload_0 (pc := 34) dX7_move_34 ?_
      refine Bd_getR (j := 8) ck7 (pc := 35) dX7_move_35 k_243 rfl (Nat.le_of_ble_eq_true rfl) rfl ?_
      refine Bd_getR (j := 1) ck3 (pc := 38) dX7_move_38 k_153 rfl (Nat.le_of_ble_eq_true rfl) rfl ?_
      refine Bd_iload_1 (pc := 41) dX7_move_41 ?_
      refine Bd_iload_2 (pc := 42) dX7_move_42 ?_
      refine Bd_iast (pc := 43) dX7_move_43 rfl (vpB b8 h.nt6') ?_
      refine Bd_iload_3 (pc := 44) dX7_move_44 ?_
      refine Bd_iret (pc := 45) dX7_move_45 rfl ?_
      exact ⟨by (try simp only [b2_0, Classical.not_not] at *); (first | rfl | (simp only [moveV, *, if_true, if_false, not_false_eq_true, not_true_eq_false, and_self, and_true, true_and, false_and, and_false, if_pos rfl]; done) | (simp [moveV, *]; done) | (simp only [moveV, *, if_true, if_false, not_false_eq_true, not_true_eq_false, and_self, and_true, true_and, false_and, and_false, if_pos rfl]; rfl) | (unfold moveV; repeat (first | rw [if_pos (by assumption)] | rw [if_neg (by assumption)]); done) | (unfold moveV; repeat (first | rw [if_pos (by assumption)] | rw [if_neg (by assumption)]); rfl)), rfl, by (try simp only [b2_0, Classical.not_not] at *); (first | rfl | (simp only [moveU, *, if_true, if_false, not_false_eq_true, not_true_eq_false, and_self, and_true, true_and, false_and, and_false, if_pos rfl]; done) | (simp [moveU, *]; done) | (simp only [moveU, *, if_true, if_false, not_false_eq_true, not_true_eq_false, and_self, and_true, true_and, false_and, and_false, if_pos rfl]; rfl) | (unfold moveU; repeat (first | rw [if_pos (by assumption)] | rw [if_neg (by assumption)]); done) | (unfold moveU; repeat (first | rw [if_pos (by assumption)] | rw [if_neg (by assumption)]); rfl))⟩
    · refine Bd_iconst (v := -1) (pc := 22) dX7_move_22 (by decide) ?_
      refine Bd_iret (pc := 23) dX7_move_23 rfl ?_
      exact ⟨by (try simp only [b2_0, Classical.not_not] at *); (first | rfl | (simp only [moveV, *, if_true, if_false, not_false_eq_true, not_true_eq_false, and_self, and_true, true_and, false_and, and_false, if_pos rfl]; done) | (simp [moveV, *]; done) | (simp only [moveV, *, if_true, if_false, not_false_eq_true, not_true_eq_false, and_self, and_true, true_and, false_and, and_false, if_pos rfl]; rfl) | (unfold moveV; repeat (first | rw [if_pos (by assumption)] | rw [if_neg (by assumption)]); done) | (unfold moveV; repeat (first | rw [if_pos (by assumption)] | rw [if_neg (by assumption)]); rfl)), rfl, by (try simp only [b2_0, Classical.not_not] at *); (first | rfl | (simp only [moveU, *, if_true, if_false, not_false_eq_true, not_true_eq_false, and_self, and_true, true_and, false_and, and_false, if_pos rfl]; done) | (simp [moveU, *]; done) | (simp only [moveU, *, if_true, if_false, not_false_eq_true, not_true_eq_false, and_self, and_true, true_and, false_and, and_false, if_pos rfl]; rfl) | (unfold moveU; repeat (first | rw [if_pos (by assumption)] | rw [if_neg (by assumption)]); done) | (unfold moveU; repeat (first | rw [if_pos (by assumption)] | rw [if_neg (by assumption)]); rfl))⟩
def takesV (M : Mem) (a b : Int32) : Int32 := if hcF M 45 a then if hcF M 45 b then sdF M a b else -1 else -1
set_option maxRecDepth 100000 in
set_option maxHeartbeats 4000000 in
theorem sem_X7_takes {M : Mem} {a b : Int32} : Sem mX7_takes SH [.ref 0, .int a, .int b] M (PD SH (some (.int (takesV M a b))) (M)) := by
  refine Sem_of rfl (fun G => (Nat.le_of_ble_eq_true rfl)) (fun G => ?_)
  refine Bd_aload_0 (pc := 0) dX7_takes_0 ?_
  refine Bd_getR (j := 8) ck7 (pc := 1) dX7_takes_1 k_243 rfl (Nat.le_of_ble_eq_true rfl) rfl ?_
  refine Bd_iload_1 (pc := 4) dX7_takes_4 ?_
  refine Bd_callV1i (cd := mX3_hasCell) (pc := 5) dX7_takes_5 k_481 v_X3_hasCell ⟨(Nat.le_of_ble_eq_true rfl), (Nat.le_of_ble_eq_true rfl)⟩ rfl rfl sem_X3_hasCell (Nat.le_of_ble_eq_true rfl) ?_
  refine Bd_if_eq (t := 34) (pc := 8) dX7_takes_8 (by decide) (fun b8 => ?_) (fun b8 => ?_)
  · refine Bd_iconst (v := -1) (pc := 34) dX7_takes_34 (by decide) ?_
    refine Bd_iret (pc := 35) dX7_takes_35 rfl ?_
    first | exact PD_i (by rw [takesV, if_pos (b2_n.mp b8), if_pos (b2_n.mp b19)]) rfl | exact PD_i (by rw [takesV, if_pos (b2_n.mp b8), if_neg (b2_0.mp b19)]) rfl | exact PD_i (by rw [takesV, if_neg (b2_0.mp b8)]) rfl
  · refine Bd_aload_0 (pc := 11) dX7_takes_11 ?_
    refine Bd_getR (j := 8) ck7 (pc := 12) dX7_takes_12 k_243 rfl (Nat.le_of_ble_eq_true rfl) rfl ?_
    refine Bd_iload_2 (pc := 15) dX7_takes_15 ?_
    refine Bd_callV1i (cd := mX3_hasCell) (pc := 16) dX7_takes_16 k_481 v_X3_hasCell ⟨(Nat.le_of_ble_eq_true rfl), (Nat.le_of_ble_eq_true rfl)⟩ rfl rfl sem_X3_hasCell (Nat.le_of_ble_eq_true rfl) ?_
    refine Bd_if_eq (t := 34) (pc := 19) dX7_takes_19 (by decide) (fun b19 => ?_) (fun b19 => ?_)
    · refine Bd_iconst (v := -1) (pc := 34) dX7_takes_34 (by decide) ?_
      refine Bd_iret (pc := 35) dX7_takes_35 rfl ?_
      first | exact PD_i (by rw [takesV, if_pos (b2_n.mp b8), if_pos (b2_n.mp b19)]) rfl | exact PD_i (by rw [takesV, if_pos (b2_n.mp b8), if_neg (b2_0.mp b19)]) rfl | exact PD_i (by rw [takesV, if_neg (b2_0.mp b8)]) rfl
    · refine Bd_aload_0 (pc := 22) dX7_takes_22 ?_
      refine Bd_getR (j := 8) ck7 (pc := 23) dX7_takes_23 k_243 rfl (Nat.le_of_ble_eq_true rfl) rfl ?_
      refine Bd_iload_1 (pc := 26) dX7_takes_26 ?_
      refine Bd_iload_2 (pc := 27) dX7_takes_27 ?_
      refine Bd_callV2i (cd := mX3_sound) (pc := 28) dX7_takes_28 k_486 v_X3_sound ⟨(Nat.le_of_ble_eq_true rfl), (Nat.le_of_ble_eq_true rfl)⟩ rfl rfl sem_X3_sound (Nat.le_of_ble_eq_true rfl) ?_
      refine Bd_goto (t := 35) (pc := 31) dX7_takes_31 (by decide) ?_
      refine Bd_iret (pc := 35) dX7_takes_35 rfl ?_
      first | exact PD_i (by rw [takesV, if_pos (b2_n.mp b8), if_pos (b2_n.mp b19)]) rfl | exact PD_i (by rw [takesV, if_pos (b2_n.mp b8), if_neg (b2_0.mp b19)]) rfl | exact PD_i (by rw [takesV, if_neg (b2_0.mp b8)]) rfl
abbrev bloB (M : Mem) (t b n : Int32) : Prop := (0 ≤ t ∧ t < M 44 6) ∧ ¬ b < 0 ∧ ¬ 200 < b ∧ (0 ≤ n ∧ n < 8)
def blowV (M : Mem) (t b n : Int32) : Int32 := if bloB M t b n then if hpF M t n then if cn (M 5 4) < 24 then nI (cn (M 5 4) + 1) else -3 else -2 else -1
def blowU (M : Mem) (t b n : Int32) : Mem := if bloB M t b n then if hpF M t n then if cn (M 5 4) < 24 then adF M (cn (M 5 4)) t b n else M else M else M
set_option maxRecDepth 100000 in
set_option maxHeartbeats 4000000 in
theorem sem_X7_blow {M : Mem} (h : WF M) {t b n : Int32} : Sem mX7_blow SH [.ref 0, .int t, .int b, .int n] M (PD SH (some (.int (blowV M t b n))) (blowU M t b n)) := by
  refine Sem_of rfl (fun G => (Nat.le_of_ble_eq_true rfl)) (fun G => ?_)
  by_cases hf : cn (M 5 4) < 24
  · refine Bd_aload_0 (pc := 0) dX7_blow_0 ?_
    refine Bd_getR (j := 8) ck7 (pc := 1) dX7_blow_1 k_243 rfl (Nat.le_of_ble_eq_true rfl) rfl ?_
    refine Bd_iload_1 (pc := 4) dX7_blow_4 ?_
    refine Bd_callV1i (cd := mX3_hasTower) (pc := 5) dX7_blow_5 k_453 v_X3_hasTower ⟨(Nat.le_of_ble_eq_true rfl), (Nat.le_of_ble_eq_true rfl)⟩ rfl rfl sem_X3_hasTower (Nat.le_of_ble_eq_true rfl) ?_
    refine Bd_if_eq (t := 31) (pc := 8) dX7_blow_8 (by decide) (fun b8 => ?_) (fun b8 => ?_)
    · refine Bd_iconst (v := -1) (pc := 31) dX7_blow_31 (by decide) ?_
      refine Bd_iret (pc := 32) dX7_blow_32 rfl ?_
      exact ⟨by (try simp only [b2_0, Classical.not_not] at *); (first | rfl | (simp only [blowV, bloB, *, if_true, if_false, not_false_eq_true, not_true_eq_false, and_self, and_true, true_and, false_and, and_false, if_pos rfl]; done) | (simp [blowV, bloB, *]; done) | (simp only [blowV, bloB, *, if_true, if_false, not_false_eq_true, not_true_eq_false, and_self, and_true, true_and, false_and, and_false, if_pos rfl]; rfl) | (unfold blowV; repeat (first | rw [if_pos (by assumption)] | rw [if_neg (by assumption)]); done) | (unfold blowV; repeat (first | rw [if_pos (by assumption)] | rw [if_neg (by assumption)]); rfl)), rfl, by (try simp only [b2_0, Classical.not_not] at *); (first | rfl | (simp only [blowU, bloB, *, if_true, if_false, not_false_eq_true, not_true_eq_false, and_self, and_true, true_and, false_and, and_false, if_pos rfl]; done) | (simp [blowU, bloB, *]; done) | (simp only [blowU, bloB, *, if_true, if_false, not_false_eq_true, not_true_eq_false, and_self, and_true, true_and, false_and, and_false, if_pos rfl]; rfl) | (unfold blowU; repeat (first | rw [if_pos (by assumption)] | rw [if_neg (by assumption)]); done) | (unfold blowU; repeat (first | rw [if_pos (by assumption)] | rw [if_neg (by assumption)]); rfl))⟩
    · refine Bd_iload_2 (pc := 11) dX7_blow_11 ?_
      refine Bd_if_lt (t := 31) (pc := 12) dX7_blow_12 (by decide) (fun b12 => ?_) (fun b12 => ?_)
      · refine Bd_iconst (v := -1) (pc := 31) dX7_blow_31 (by decide) ?_
        refine Bd_iret (pc := 32) dX7_blow_32 rfl ?_
        exact ⟨by (try simp only [b2_0, Classical.not_not] at *); (first | rfl | (simp only [blowV, bloB, *, if_true, if_false, not_false_eq_true, not_true_eq_false, and_self, and_true, true_and, false_and, and_false, if_pos rfl]; done) | (simp [blowV, bloB, *]; done) | (simp only [blowV, bloB, *, if_true, if_false, not_false_eq_true, not_true_eq_false, and_self, and_true, true_and, false_and, and_false, if_pos rfl]; rfl) | (unfold blowV; repeat (first | rw [if_pos (by assumption)] | rw [if_neg (by assumption)]); done) | (unfold blowV; repeat (first | rw [if_pos (by assumption)] | rw [if_neg (by assumption)]); rfl)), rfl, by (try simp only [b2_0, Classical.not_not] at *); (first | rfl | (simp only [blowU, bloB, *, if_true, if_false, not_false_eq_true, not_true_eq_false, and_self, and_true, true_and, false_and, and_false, if_pos rfl]; done) | (simp [blowU, bloB, *]; done) | (simp only [blowU, bloB, *, if_true, if_false, not_false_eq_true, not_true_eq_false, and_self, and_true, true_and, false_and, and_false, if_pos rfl]; rfl) | (unfold blowU; repeat (first | rw [if_pos (by assumption)] | rw [if_neg (by assumption)]); done) | (unfold blowU; repeat (first | rw [if_pos (by assumption)] | rw [if_neg (by assumption)]); rfl))⟩
      · refine Bd_iload_2 (pc := 15) dX7_blow_15 ?_
        refine Bd_sipush (v := 200) (pc := 16) dX7_blow_16 (by decide) ?_
        refine Bd_icmp_gt (t := 31) (pc := 19) dX7_blow_19 (by decide) (fun b19 => ?_) (fun b19 => ?_)
        · refine Bd_iconst (v := -1) (pc := 31) dX7_blow_31 (by decide) ?_
          refine Bd_iret (pc := 32) dX7_blow_32 rfl ?_
          exact ⟨by (try simp only [b2_0, Classical.not_not] at *); (first | rfl | (simp only [blowV, bloB, *, if_true, if_false, not_false_eq_true, not_true_eq_false, and_self, and_true, true_and, false_and, and_false, if_pos rfl]; done) | (simp [blowV, bloB, *]; done) | (simp only [blowV, bloB, *, if_true, if_false, not_false_eq_true, not_true_eq_false, and_self, and_true, true_and, false_and, and_false, if_pos rfl]; rfl) | (unfold blowV; repeat (first | rw [if_pos (by assumption)] | rw [if_neg (by assumption)]); done) | (unfold blowV; repeat (first | rw [if_pos (by assumption)] | rw [if_neg (by assumption)]); rfl)), rfl, by (try simp only [b2_0, Classical.not_not] at *); (first | rfl | (simp only [blowU, bloB, *, if_true, if_false, not_false_eq_true, not_true_eq_false, and_self, and_true, true_and, false_and, and_false, if_pos rfl]; done) | (simp [blowU, bloB, *]; done) | (simp only [blowU, bloB, *, if_true, if_false, not_false_eq_true, not_true_eq_false, and_self, and_true, true_and, false_and, and_false, if_pos rfl]; rfl) | (unfold blowU; repeat (first | rw [if_pos (by assumption)] | rw [if_neg (by assumption)]); done) | (unfold blowU; repeat (first | rw [if_pos (by assumption)] | rw [if_neg (by assumption)]); rfl))⟩
        · refine Bd_iload_3 (pc := 22) dX7_blow_22 ?_
          refine Bd_bipush (v := 8) (pc := 23) dX7_blow_23 (by decide) ?_
          refine Bd_callS2i (cd := mX7_isWithin) (pc := 25) dX7_blow_25 k_448 v_X7_isWithin ⟨(Nat.le_of_ble_eq_true rfl), (Nat.le_of_ble_eq_true rfl)⟩ sem_X7_isWithin (Nat.le_of_ble_eq_true rfl) ?_
          refine Bd_if_ne (t := 33) (pc := 28) dX7_blow_28 (by decide) (fun b28 => ?_) (fun b28 => ?_)
          · refine Bd_aload_0 (pc := 33) dX7_blow_33 ?_
            refine Bd_getR (j := 8) ck7 (pc := 34) dX7_blow_34 k_243 rfl (Nat.le_of_ble_eq_true rfl) rfl ?_
            refine Bd_iload_1 (pc := 37) dX7_blow_37 ?_
            refine Bd_iload_3 (pc := 38) dX7_blow_38 ?_
            refine Bd_callV2i (cd := mX3_hasPipe) (pc := 39) dX7_blow_39 k_506 v_X3_hasPipe ⟨(Nat.le_of_ble_eq_true rfl), (Nat.le_of_ble_eq_true rfl)⟩ rfl rfl (sem_X3_hasPipe (vpB b8 h.nt6')) (Nat.le_of_ble_eq_true rfl) ?_
            refine Bd_if_ne (t := 48) (pc := 42) dX7_blow_42 (by decide) (fun b42 => ?_) (fun b42 => ?_)
            · refine Bd_aload_0 (pc := 48) dX7_blow_48 ?_
              refine Bd_getR (j := 2) ck7 (pc := 49) dX7_blow_49 k_237 rfl (Nat.le_of_ble_eq_true rfl) rfl ?_
              refine Bd_iload_1 (pc := 52) dX7_blow_52 ?_
              refine Bd_iload_2 (pc := 53) dX7_blow_53 ?_
              refine Bd_iload_3 (pc := 54) dX7_blow_54 ?_
              refine Bd_callV3i (cd := mX0_add) (pc := 55) dX7_blow_55 k_510 v_X0_add ⟨(Nat.le_of_ble_eq_true rfl), (Nat.le_of_ble_eq_true rfl)⟩ rfl rfl (sem_X0_add h.nb hf) (Nat.le_of_ble_eq_true rfl) ?_
              refine Bd_if_eq (t := 71) (pc := 58) dX7_blow_58 (by decide) (fun b58 => (show False from absurd b58 (by decide)).elim) (fun b58 => ?_)
              refine Bd_aload_0 (pc := 61) dX7_blow_61 ?_
              refine Bd_getR (j := 2) ck7 (pc := 62) dX7_blow_62 k_237 rfl (Nat.le_of_ble_eq_true rfl) rfl ?_
              refine Bd_getI (j := 4) ck0 (pc := 65) dX7_blow_65 k_92 rfl (Nat.le_of_ble_eq_true rfl) rfl ?_
              refine Bd_goto (t := 73) (pc := 68) dX7_blow_68 (by decide) ?_
              refine Bd_iret (pc := 73) dX7_blow_73 rfl ?_
              have hB : bloB M t b n := ⟨b2_n.mp b8, b12, b19, b2_n.mp b28⟩
              have hp := b2_n.mp b42
              exact ⟨by simp only [blowV, if_pos hB, if_pos hp, if_pos hf]; rfl, rfl, by simp only [blowU, if_pos hB, if_pos hp, if_pos hf]⟩
            · refine Bd_bipush (v := -2) (pc := 45) dX7_blow_45 (by decide) ?_
              refine Bd_iret (pc := 47) dX7_blow_47 rfl ?_
              have hB : bloB M t b n := ⟨b2_n.mp b8, b12, b19, b2_n.mp b28⟩
              have hp := b2_0.mp b42
              exact ⟨by simp only [blowV, if_pos hB, if_neg hp], rfl, by simp only [blowU, if_pos hB, if_neg hp]⟩
          · refine Bd_iconst (v := -1) (pc := 31) dX7_blow_31 (by decide) ?_
            refine Bd_iret (pc := 32) dX7_blow_32 rfl ?_
            exact ⟨by (try simp only [b2_0, Classical.not_not] at *); (first | rfl | (simp only [blowV, bloB, *, if_true, if_false, not_false_eq_true, not_true_eq_false, and_self, and_true, true_and, false_and, and_false, if_pos rfl]; done) | (simp [blowV, bloB, *]; done) | (simp only [blowV, bloB, *, if_true, if_false, not_false_eq_true, not_true_eq_false, and_self, and_true, true_and, false_and, and_false, if_pos rfl]; rfl) | (unfold blowV; repeat (first | rw [if_pos (by assumption)] | rw [if_neg (by assumption)]); done) | (unfold blowV; repeat (first | rw [if_pos (by assumption)] | rw [if_neg (by assumption)]); rfl)), rfl, by (try simp only [b2_0, Classical.not_not] at *); (first | rfl | (simp only [blowU, bloB, *, if_true, if_false, not_false_eq_true, not_true_eq_false, and_self, and_true, true_and, false_and, and_false, if_pos rfl]; done) | (simp [blowU, bloB, *]; done) | (simp only [blowU, bloB, *, if_true, if_false, not_false_eq_true, not_true_eq_false, and_self, and_true, true_and, false_and, and_false, if_pos rfl]; rfl) | (unfold blowU; repeat (first | rw [if_pos (by assumption)] | rw [if_neg (by assumption)]); done) | (unfold blowU; repeat (first | rw [if_pos (by assumption)] | rw [if_neg (by assumption)]); rfl))⟩
  · have h24 : M 5 4 = nI 24 := by have h1 := h.nb; have h2 := h.nb24; rw [h1]; congr 1; omega
    refine Bd_aload_0 (pc := 0) dX7_blow_0 ?_
    refine Bd_getR (j := 8) ck7 (pc := 1) dX7_blow_1 k_243 rfl (Nat.le_of_ble_eq_true rfl) rfl ?_
    refine Bd_iload_1 (pc := 4) dX7_blow_4 ?_
    refine Bd_callV1i (cd := mX3_hasTower) (pc := 5) dX7_blow_5 k_453 v_X3_hasTower ⟨(Nat.le_of_ble_eq_true rfl), (Nat.le_of_ble_eq_true rfl)⟩ rfl rfl sem_X3_hasTower (Nat.le_of_ble_eq_true rfl) ?_
    refine Bd_if_eq (t := 31) (pc := 8) dX7_blow_8 (by decide) (fun b8 => ?_) (fun b8 => ?_)
    · refine Bd_iconst (v := -1) (pc := 31) dX7_blow_31 (by decide) ?_
      refine Bd_iret (pc := 32) dX7_blow_32 rfl ?_
      exact ⟨by (try simp only [b2_0, Classical.not_not] at *); (first | rfl | (simp only [blowV, bloB, *, if_true, if_false, not_false_eq_true, not_true_eq_false, and_self, and_true, true_and, false_and, and_false, if_pos rfl]; done) | (simp [blowV, bloB, *]; done) | (simp only [blowV, bloB, *, if_true, if_false, not_false_eq_true, not_true_eq_false, and_self, and_true, true_and, false_and, and_false, if_pos rfl]; rfl) | (unfold blowV; repeat (first | rw [if_pos (by assumption)] | rw [if_neg (by assumption)]); done) | (unfold blowV; repeat (first | rw [if_pos (by assumption)] | rw [if_neg (by assumption)]); rfl)), rfl, by (try simp only [b2_0, Classical.not_not] at *); (first | rfl | (simp only [blowU, bloB, *, if_true, if_false, not_false_eq_true, not_true_eq_false, and_self, and_true, true_and, false_and, and_false, if_pos rfl]; done) | (simp [blowU, bloB, *]; done) | (simp only [blowU, bloB, *, if_true, if_false, not_false_eq_true, not_true_eq_false, and_self, and_true, true_and, false_and, and_false, if_pos rfl]; rfl) | (unfold blowU; repeat (first | rw [if_pos (by assumption)] | rw [if_neg (by assumption)]); done) | (unfold blowU; repeat (first | rw [if_pos (by assumption)] | rw [if_neg (by assumption)]); rfl))⟩
    · refine Bd_iload_2 (pc := 11) dX7_blow_11 ?_
      refine Bd_if_lt (t := 31) (pc := 12) dX7_blow_12 (by decide) (fun b12 => ?_) (fun b12 => ?_)
      · refine Bd_iconst (v := -1) (pc := 31) dX7_blow_31 (by decide) ?_
        refine Bd_iret (pc := 32) dX7_blow_32 rfl ?_
        exact ⟨by (try simp only [b2_0, Classical.not_not] at *); (first | rfl | (simp only [blowV, bloB, *, if_true, if_false, not_false_eq_true, not_true_eq_false, and_self, and_true, true_and, false_and, and_false, if_pos rfl]; done) | (simp [blowV, bloB, *]; done) | (simp only [blowV, bloB, *, if_true, if_false, not_false_eq_true, not_true_eq_false, and_self, and_true, true_and, false_and, and_false, if_pos rfl]; rfl) | (unfold blowV; repeat (first | rw [if_pos (by assumption)] | rw [if_neg (by assumption)]); done) | (unfold blowV; repeat (first | rw [if_pos (by assumption)] | rw [if_neg (by assumption)]); rfl)), rfl, by (try simp only [b2_0, Classical.not_not] at *); (first | rfl | (simp only [blowU, bloB, *, if_true, if_false, not_false_eq_true, not_true_eq_false, and_self, and_true, true_and, false_and, and_false, if_pos rfl]; done) | (simp [blowU, bloB, *]; done) | (simp only [blowU, bloB, *, if_true, if_false, not_false_eq_true, not_true_eq_false, and_self, and_true, true_and, false_and, and_false, if_pos rfl]; rfl) | (unfold blowU; repeat (first | rw [if_pos (by assumption)] | rw [if_neg (by assumption)]); done) | (unfold blowU; repeat (first | rw [if_pos (by assumption)] | rw [if_neg (by assumption)]); rfl))⟩
      · refine Bd_iload_2 (pc := 15) dX7_blow_15 ?_
        refine Bd_sipush (v := 200) (pc := 16) dX7_blow_16 (by decide) ?_
        refine Bd_icmp_gt (t := 31) (pc := 19) dX7_blow_19 (by decide) (fun b19 => ?_) (fun b19 => ?_)
        · refine Bd_iconst (v := -1) (pc := 31) dX7_blow_31 (by decide) ?_
          refine Bd_iret (pc := 32) dX7_blow_32 rfl ?_
          exact ⟨by (try simp only [b2_0, Classical.not_not] at *); (first | rfl | (simp only [blowV, bloB, *, if_true, if_false, not_false_eq_true, not_true_eq_false, and_self, and_true, true_and, false_and, and_false, if_pos rfl]; done) | (simp [blowV, bloB, *]; done) | (simp only [blowV, bloB, *, if_true, if_false, not_false_eq_true, not_true_eq_false, and_self, and_true, true_and, false_and, and_false, if_pos rfl]; rfl) | (unfold blowV; repeat (first | rw [if_pos (by assumption)] | rw [if_neg (by assumption)]); done) | (unfold blowV; repeat (first | rw [if_pos (by assumption)] | rw [if_neg (by assumption)]); rfl)), rfl, by (try simp only [b2_0, Classical.not_not] at *); (first | rfl | (simp only [blowU, bloB, *, if_true, if_false, not_false_eq_true, not_true_eq_false, and_self, and_true, true_and, false_and, and_false, if_pos rfl]; done) | (simp [blowU, bloB, *]; done) | (simp only [blowU, bloB, *, if_true, if_false, not_false_eq_true, not_true_eq_false, and_self, and_true, true_and, false_and, and_false, if_pos rfl]; rfl) | (unfold blowU; repeat (first | rw [if_pos (by assumption)] | rw [if_neg (by assumption)]); done) | (unfold blowU; repeat (first | rw [if_pos (by assumption)] | rw [if_neg (by assumption)]); rfl))⟩
        · refine Bd_iload_3 (pc := 22) dX7_blow_22 ?_
          refine Bd_bipush (v := 8) (pc := 23) dX7_blow_23 (by decide) ?_
          refine Bd_callS2i (cd := mX7_isWithin) (pc := 25) dX7_blow_25 k_448 v_X7_isWithin ⟨(Nat.le_of_ble_eq_true rfl), (Nat.le_of_ble_eq_true rfl)⟩ sem_X7_isWithin (Nat.le_of_ble_eq_true rfl) ?_
          refine Bd_if_ne (t := 33) (pc := 28) dX7_blow_28 (by decide) (fun b28 => ?_) (fun b28 => ?_)
          · refine Bd_aload_0 (pc := 33) dX7_blow_33 ?_
            refine Bd_getR (j := 8) ck7 (pc := 34) dX7_blow_34 k_243 rfl (Nat.le_of_ble_eq_true rfl) rfl ?_
            refine Bd_iload_1 (pc := 37) dX7_blow_37 ?_
            refine Bd_iload_3 (pc := 38) dX7_blow_38 ?_
            refine Bd_callV2i (cd := mX3_hasPipe) (pc := 39) dX7_blow_39 k_506 v_X3_hasPipe ⟨(Nat.le_of_ble_eq_true rfl), (Nat.le_of_ble_eq_true rfl)⟩ rfl rfl (sem_X3_hasPipe (vpB b8 h.nt6')) (Nat.le_of_ble_eq_true rfl) ?_
            refine Bd_if_ne (t := 48) (pc := 42) dX7_blow_42 (by decide) (fun b42 => ?_) (fun b42 => ?_)
            · refine Bd_aload_0 (pc := 48) dX7_blow_48 ?_
              refine Bd_getR (j := 2) ck7 (pc := 49) dX7_blow_49 k_237 rfl (Nat.le_of_ble_eq_true rfl) rfl ?_
              refine Bd_iload_1 (pc := 52) dX7_blow_52 ?_
              refine Bd_iload_2 (pc := 53) dX7_blow_53 ?_
              refine Bd_iload_3 (pc := 54) dX7_blow_54 ?_
              refine Bd_callV3i (cd := mX0_add) (pc := 55) dX7_blow_55 k_510 v_X0_add ⟨(Nat.le_of_ble_eq_true rfl), (Nat.le_of_ble_eq_true rfl)⟩ rfl rfl (sem_X0_addFull h24) (Nat.le_of_ble_eq_true rfl) ?_
              refine Bd_if_eq (t := 71) (pc := 58) dX7_blow_58 (by decide) (fun b58 => ?_) (fun b58 => (show False from b58 rfl).elim)
              refine Bd_bipush (v := -3) (pc := 71) dX7_blow_71 (by decide) ?_
              refine Bd_iret (pc := 73) dX7_blow_73 rfl ?_
              have hB : bloB M t b n := ⟨b2_n.mp b8, b12, b19, b2_n.mp b28⟩
              have hp := b2_n.mp b42
              exact ⟨by simp only [blowV, if_pos hB, if_pos hp, if_neg hf], rfl, by simp only [blowU, if_pos hB, if_pos hp, if_neg hf]⟩
            · refine Bd_bipush (v := -2) (pc := 45) dX7_blow_45 (by decide) ?_
              refine Bd_iret (pc := 47) dX7_blow_47 rfl ?_
              have hB : bloB M t b n := ⟨b2_n.mp b8, b12, b19, b2_n.mp b28⟩
              have hp := b2_0.mp b42
              exact ⟨by simp only [blowV, if_pos hB, if_neg hp], rfl, by simp only [blowU, if_pos hB, if_neg hp]⟩
          · refine Bd_iconst (v := -1) (pc := 31) dX7_blow_31 (by decide) ?_
            refine Bd_iret (pc := 32) dX7_blow_32 rfl ?_
            exact ⟨by (try simp only [b2_0, Classical.not_not] at *); (first | rfl | (simp only [blowV, bloB, *, if_true, if_false, not_false_eq_true, not_true_eq_false, and_self, and_true, true_and, false_and, and_false, if_pos rfl]; done) | (simp [blowV, bloB, *]; done) | (simp only [blowV, bloB, *, if_true, if_false, not_false_eq_true, not_true_eq_false, and_self, and_true, true_and, false_and, and_false, if_pos rfl]; rfl) | (unfold blowV; repeat (first | rw [if_pos (by assumption)] | rw [if_neg (by assumption)]); done) | (unfold blowV; repeat (first | rw [if_pos (by assumption)] | rw [if_neg (by assumption)]); rfl)), rfl, by (try simp only [b2_0, Classical.not_not] at *); (first | rfl | (simp only [blowU, bloB, *, if_true, if_false, not_false_eq_true, not_true_eq_false, and_self, and_true, true_and, false_and, and_false, if_pos rfl]; done) | (simp [blowU, bloB, *]; done) | (simp only [blowU, bloB, *, if_true, if_false, not_false_eq_true, not_true_eq_false, and_self, and_true, true_and, false_and, and_false, if_pos rfl]; rfl) | (unfold blowU; repeat (first | rw [if_pos (by assumption)] | rw [if_neg (by assumption)]); done) | (unfold blowU; repeat (first | rw [if_pos (by assumption)] | rw [if_neg (by assumption)]); rfl))⟩
set_option maxRecDepth 100000 in
set_option maxHeartbeats 4000000 in
theorem sem_X7_silence {M : Mem} : Sem mX7_silence SH [.ref 0] M (PD SH (some (.int (M 5 4))) (updM (updM M 5 4 0) 5 5 0)) := by
  refine Sem_of rfl (fun G => (Nat.le_of_ble_eq_true rfl)) (fun G => ?_)
  refine Bd_aload_0 (pc := 0) dX7_silence_0 ?_
  refine Bd_getR (j := 2) ck7 (pc := 1) dX7_silence_1 k_237 rfl (Nat.le_of_ble_eq_true rfl) rfl ?_
  refine Bd_getI (j := 4) ck0 (pc := 4) dX7_silence_4 k_92 rfl (Nat.le_of_ble_eq_true rfl) rfl ?_
  refine Bd_istore_1 (pc := 7) dX7_silence_7 (Nat.le_of_ble_eq_true rfl) rfl ?_
  refine Bd_aload_0 (pc := 8) dX7_silence_8 ?_
  refine Bd_getR (j := 2) ck7 (pc := 9) dX7_silence_9 k_237 rfl (Nat.le_of_ble_eq_true rfl) rfl ?_
  refine Bd_callV0v (cd := mX0_clear) (pc := 12) dX7_silence_12 k_436 v_X0_clear ⟨(Nat.le_of_ble_eq_true rfl), (Nat.le_of_ble_eq_true rfl)⟩ rfl rfl sem_X0_clear (Nat.le_of_ble_eq_true rfl) ?_
  refine Bd_iload_1 (pc := 15) dX7_silence_15 ?_
  refine Bd_iret (pc := 16) dX7_silence_16 rfl ?_
  exact PD_i rfl rfl
def blownV (M : Mem) (i k : Int32) : Int32 := if 0 ≤ i ∧ i < M 5 4 then if k = 0 then M 6 (cn i) else if k = 1 then M 7 (cn i) else if k = 2 then M 8 (cn i) else if k < 10 then -1 else if hcF M 45 (k - 10) then cmF M (cn i) (k - 10) else -1 else -1
theorem sw3 {x : Int32} (h0 : ¬ x = 0) (h1 : ¬ x = 1) (h2 : ¬ x = 2) : x.toInt < 0 ∨ 2 < x.toInt := by
  have e0 : ¬ x.toInt = 0 := fun q => h0 (Int32.toInt_inj.mp q)
  have e1 : ¬ x.toInt = 1 := fun q => h1 (Int32.toInt_inj.mp q)
  have e2 : ¬ x.toInt = 2 := fun q => h2 (Int32.toInt_inj.mp q)
  omega
theorem vp_cn {x : Int32} {n : Nat} (h : vp_in x n) (hn : n < 2 ^ 31) : x = nI (cn x) ∧ cn x < n := by
  obtain ⟨j, hj, rfl⟩ := vp_in_of h hn
  rw [show cn (nI j) = j from nI_clamp (by omega)]
  exact ⟨rfl, hj⟩
theorem cn_lt {x y : Int32} (h : 0 ≤ x ∧ x < y) : cn x < cn y := by
  obtain ⟨h1, h2⟩ := h
  rw [Int32.le_iff_toInt_le, Int32.toInt_zero] at h1
  rw [Int32.lt_iff_toInt_lt] at h2
  have e1 := (cn_of (x := x) (hi := x.toInt) ⟨h1, by omega⟩).2.1
  have e2 := (cn_of (x := y) (hi := y.toInt) ⟨by omega, by omega⟩).2.1
  omega
theorem sem_comes' {M : Mem} (h : WF M) {i c : Int32} (hi : 0 ≤ i ∧ i < M 5 4) : Sem mX7_comes SH [.ref 0, .int i, .int c] M (PD SH (some (.int (cmF M (cn i) c))) M) := by
  have hv := vp_cn (n := 24) (vpP hi h.nb24') (by omega)
  have := sem_X7_comes (M := M) (c := c) (i := cn i) hv.2 (h.bt6 (cn_lt hi))
  rw [← hv.1] at this
  exact this
set_option maxRecDepth 100000 in
set_option maxHeartbeats 4000000 in
theorem sem_X7_blown {M : Mem} (h : WF M) {i k : Int32} : Sem mX7_blown SH [.ref 0, .int i, .int k] M (PD SH (some (.int (blownV M i k))) (M)) := by
  refine Sem_of rfl (fun G => (Nat.le_of_ble_eq_true rfl)) (fun G => ?_)
  refine Bd_iload_1 (pc := 0) dX7_blown_0 ?_
  refine Bd_aload_0 (pc := 1) dX7_blown_1 ?_
  refine Bd_getR (j := 2) ck7 (pc := 2) dX7_blown_2 k_237 rfl (Nat.le_of_ble_eq_true rfl) rfl ?_
  refine Bd_getI (j := 4) ck0 (pc := 5) dX7_blown_5 k_92 rfl (Nat.le_of_ble_eq_true rfl) rfl ?_
  refine Bd_callS2i (cd := mX7_isWithin) (pc := 8) dX7_blown_8 k_448 v_X7_isWithin ⟨(Nat.le_of_ble_eq_true rfl), (Nat.le_of_ble_eq_true rfl)⟩ sem_X7_isWithin (Nat.le_of_ble_eq_true rfl) ?_
  refine Bd_if_ne (t := 16) (pc := 11) dX7_blown_11 (by decide) (fun b11 => ?_) (fun b11 => ?_)
  · refine Bd_iload_2 (pc := 16) dX7_blown_16 ?_
    rcases Decidable.em (k = 0) with z0 | z0
    · rw [z0]
      refine Bd_swIn (t := 44) (pc := 17) dX7_blown_17 (by decide) (by decide) rfl (by decide) ?_
      refine Bd_aload_0 (pc := 44) dX7_blown_44 ?_
      refine Bd_getR (j := 2) ck7 (pc := 45) dX7_blown_45 k_237 rfl (Nat.le_of_ble_eq_true rfl) rfl ?_
      refine Bd_getR (j := 0) ck0 (pc := 48) dX7_blown_48 k_84 rfl (Nat.le_of_ble_eq_true rfl) rfl ?_
      refine Bd_iload_1 (pc := 51) dX7_blown_51 ?_
      refine Bd_iald (pc := 52) dX7_blown_52 rfl (vpB b11 h.nb24') ?_
      refine Bd_iret (pc := 53) dX7_blown_53 rfl ?_
      exact PD_i (by (try simp only [b2_0, Classical.not_not] at *); (first | rfl | (simp only [blownV, *, if_true, if_false, not_false_eq_true, not_true_eq_false, and_self, and_true, true_and, false_and, and_false, if_pos rfl]; done) | (simp [blownV, *]; done) | (simp only [blownV, *, if_true, if_false, not_false_eq_true, not_true_eq_false, and_self, and_true, true_and, false_and, and_false, if_pos rfl]; rfl) | (unfold blownV; repeat (first | rw [if_pos (by assumption)] | rw [if_neg (by assumption)]); done) | (unfold blownV; repeat (first | rw [if_pos (by assumption)] | rw [if_neg (by assumption)]); rfl))) rfl
    rcases Decidable.em (k = 1) with z1 | z1
    · rw [z1]
      refine Bd_swIn (t := 54) (pc := 17) dX7_blown_17 (by decide) (by decide) rfl (by decide) ?_
      refine Bd_aload_0 (pc := 54) dX7_blown_54 ?_
      refine Bd_getR (j := 2) ck7 (pc := 55) dX7_blown_55 k_237 rfl (Nat.le_of_ble_eq_true rfl) rfl ?_
      refine Bd_getR (j := 1) ck0 (pc := 58) dX7_blown_58 k_86 rfl (Nat.le_of_ble_eq_true rfl) rfl ?_
      refine Bd_iload_1 (pc := 61) dX7_blown_61 ?_
      refine Bd_iald (pc := 62) dX7_blown_62 rfl (vpB b11 h.nb24') ?_
      refine Bd_iret (pc := 63) dX7_blown_63 rfl ?_
      exact PD_i (by (try simp only [b2_0, Classical.not_not] at *); (first | rfl | (simp only [blownV, *, if_true, if_false, not_false_eq_true, not_true_eq_false, and_self, and_true, true_and, false_and, and_false, if_pos rfl]; done) | (simp [blownV, *]; done) | (simp only [blownV, *, if_true, if_false, not_false_eq_true, not_true_eq_false, and_self, and_true, true_and, false_and, and_false, if_pos rfl]; rfl) | (unfold blownV; repeat (first | rw [if_pos (by assumption)] | rw [if_neg (by assumption)]); done) | (unfold blownV; repeat (first | rw [if_pos (by assumption)] | rw [if_neg (by assumption)]); rfl))) rfl
    rcases Decidable.em (k = 2) with z2 | z2
    · rw [z2]
      refine Bd_swIn (t := 64) (pc := 17) dX7_blown_17 (by decide) (by decide) rfl (by decide) ?_
      refine Bd_aload_0 (pc := 64) dX7_blown_64 ?_
      refine Bd_getR (j := 2) ck7 (pc := 65) dX7_blown_65 k_237 rfl (Nat.le_of_ble_eq_true rfl) rfl ?_
      refine Bd_getR (j := 2) ck0 (pc := 68) dX7_blown_68 k_88 rfl (Nat.le_of_ble_eq_true rfl) rfl ?_
      refine Bd_iload_1 (pc := 71) dX7_blown_71 ?_
      refine Bd_iald (pc := 72) dX7_blown_72 rfl (vpB b11 h.nb24') ?_
      refine Bd_iret (pc := 73) dX7_blown_73 rfl ?_
      exact PD_i (by (try simp only [b2_0, Classical.not_not] at *); (first | rfl | (simp only [blownV, *, if_true, if_false, not_false_eq_true, not_true_eq_false, and_self, and_true, true_and, false_and, and_false, if_pos rfl]; done) | (simp [blownV, *]; done) | (simp only [blownV, *, if_true, if_false, not_false_eq_true, not_true_eq_false, and_self, and_true, true_and, false_and, and_false, if_pos rfl]; rfl) | (unfold blownV; repeat (first | rw [if_pos (by assumption)] | rw [if_neg (by assumption)]); done) | (unfold blownV; repeat (first | rw [if_pos (by assumption)] | rw [if_neg (by assumption)]); rfl))) rfl
    refine Bd_swOut (t := 74) (pc := 17) dX7_blown_17 (sw3 z0 z1 z2) (by decide) ?_
    refine Bd_iload_2 (pc := 74) dX7_blown_74 ?_
    refine Bd_bipush (v := 10) (pc := 75) dX7_blown_75 (by decide) ?_
    refine Bd_icmp_lt (t := 106) (pc := 77) dX7_blown_77 (by decide) (fun b77 => ?_) (fun b77 => ?_)
    · refine Bd_iconst (v := -1) (pc := 106) dX7_blown_106 (by decide) ?_
      refine Bd_iret (pc := 107) dX7_blown_107 rfl ?_
      exact PD_i (by (try simp only [b2_0, Classical.not_not] at *); (first | rfl | (simp only [blownV, *, if_true, if_false, not_false_eq_true, not_true_eq_false, and_self, and_true, true_and, false_and, and_false, if_pos rfl]; done) | (simp [blownV, *]; done) | (simp only [blownV, *, if_true, if_false, not_false_eq_true, not_true_eq_false, and_self, and_true, true_and, false_and, and_false, if_pos rfl]; rfl) | (unfold blownV; repeat (first | rw [if_pos (by assumption)] | rw [if_neg (by assumption)]); done) | (unfold blownV; repeat (first | rw [if_pos (by assumption)] | rw [if_neg (by assumption)]); rfl))) rfl
    · refine Bd_aload_0 (pc := 80) dX7_blown_80 ?_
      refine Bd_getR (j := 8) ck7 (pc := 81) dX7_blown_81 k_243 rfl (Nat.le_of_ble_eq_true rfl) rfl ?_
      refine Bd_iload_2 (pc := 84) dX7_blown_84 ?_
      refine Bd_bipush (v := 10) (pc := 85) dX7_blown_85 (by decide) ?_
      refine Bd_isub (pc := 87) dX7_blown_87 ?_
      refine Bd_callV1i (cd := mX3_hasCell) (pc := 88) dX7_blown_88 k_481 v_X3_hasCell ⟨(Nat.le_of_ble_eq_true rfl), (Nat.le_of_ble_eq_true rfl)⟩ rfl rfl sem_X3_hasCell (Nat.le_of_ble_eq_true rfl) ?_
      refine Bd_if_eq (t := 106) (pc := 91) dX7_blown_91 (by decide) (fun b91 => ?_) (fun b91 => ?_)
      · refine Bd_iconst (v := -1) (pc := 106) dX7_blown_106 (by decide) ?_
        refine Bd_iret (pc := 107) dX7_blown_107 rfl ?_
        exact PD_i (by (try simp only [b2_0, Classical.not_not] at *); (first | rfl | (simp only [blownV, *, if_true, if_false, not_false_eq_true, not_true_eq_false, and_self, and_true, true_and, false_and, and_false, if_pos rfl]; done) | (simp [blownV, *]; done) | (simp only [blownV, *, if_true, if_false, not_false_eq_true, not_true_eq_false, and_self, and_true, true_and, false_and, and_false, if_pos rfl]; rfl) | (unfold blownV; repeat (first | rw [if_pos (by assumption)] | rw [if_neg (by assumption)]); done) | (unfold blownV; repeat (first | rw [if_pos (by assumption)] | rw [if_neg (by assumption)]); rfl))) rfl
      · refine Bd_aload_0 (pc := 94) dX7_blown_94 ?_
        refine Bd_iload_1 (pc := 95) dX7_blown_95 ?_
        refine Bd_iload_2 (pc := 96) dX7_blown_96 ?_
        refine Bd_bipush (v := 10) (pc := 97) dX7_blown_97 (by decide) ?_
        refine Bd_isub (pc := 99) dX7_blown_99 ?_
        refine Bd_callV2i (cd := mX7_comes) (pc := 100) dX7_blown_100 k_522 v_X7_comes ⟨(Nat.le_of_ble_eq_true rfl), (Nat.le_of_ble_eq_true rfl)⟩ rfl rfl (sem_comes' h (b2_n.mp b11)) (Nat.le_of_ble_eq_true rfl) ?_
        refine Bd_goto (t := 107) (pc := 103) dX7_blown_103 (by decide) ?_
        refine Bd_iret (pc := 107) dX7_blown_107 rfl ?_
        exact PD_i (by (try simp only [b2_0, Classical.not_not] at *); (first | rfl | (simp only [blownV, *, if_true, if_false, not_false_eq_true, not_true_eq_false, and_self, and_true, true_and, false_and, and_false, if_pos rfl]; done) | (simp [blownV, *]; done) | (simp only [blownV, *, if_true, if_false, not_false_eq_true, not_true_eq_false, and_self, and_true, true_and, false_and, and_false, if_pos rfl]; rfl) | (unfold blownV; repeat (first | rw [if_pos (by assumption)] | rw [if_neg (by assumption)]); done) | (unfold blownV; repeat (first | rw [if_pos (by assumption)] | rw [if_neg (by assumption)]); rfl))) rfl
  · refine Bd_iconst (v := -1) (pc := 14) dX7_blown_14 (by decide) ?_
    refine Bd_iret (pc := 15) dX7_blown_15 rfl ?_
    exact PD_i (by (try simp only [b2_0, Classical.not_not] at *); (first | rfl | (simp only [blownV, *, if_true, if_false, not_false_eq_true, not_true_eq_false, and_self, and_true, true_and, false_and, and_false, if_pos rfl]; done) | (simp [blownV, *]; done) | (simp only [blownV, *, if_true, if_false, not_false_eq_true, not_true_eq_false, and_self, and_true, true_and, false_and, and_false, if_pos rfl]; rfl) | (unfold blownV; repeat (first | rw [if_pos (by assumption)] | rw [if_neg (by assumption)]); done) | (unfold blownV; repeat (first | rw [if_pos (by assumption)] | rw [if_neg (by assumption)]); rfl))) rfl
abbrev crF (M : Mem) (i j : Nat) : Prop := mxF 1 (M 45 3 * hfF (M 46 (cn (M 6 i))) (M 46 (cn (M 6 j)))) ≤ M 7 j - M 7 i
def runsV (M : Mem) (i j : Int32) : Int32 := if 0 ≤ i ∧ i < M 5 4 then if 0 ≤ j ∧ j < M 5 4 then if i = j then -1 else b2 (crF M (cn i) (cn j)) else -1 else -1
set_option maxRecDepth 100000 in
set_option maxHeartbeats 4000000 in
theorem sem_X7_canRun {M : Mem} {i j : Nat} (hi : i < 24) (hj : j < 24) (ti : vp_in (M 6 i) 6) (tj : vp_in (M 6 j) 6) : Sem mX7_canRun SH [.ref 0, .int (nI i), .int (nI j)] M (PD SH (some (.int (b2 (crF M i j)))) (M)) := by
  refine Sem_of rfl (fun G => (Nat.le_of_ble_eq_true rfl)) (fun G => ?_)
  refine Bd_aload_0 (pc := 0) dX7_canRun_0 ?_
  refine Bd_getR (j := 8) ck7 (pc := 1) dX7_canRun_1 k_243 rfl (Nat.le_of_ble_eq_true rfl) rfl ?_
  refine Bd_getR (j := 1) ck3 (pc := 4) dX7_canRun_4 k_153 rfl (Nat.le_of_ble_eq_true rfl) rfl ?_
  refine Bd_aload_0 (pc := 7) dX7_canRun_7 ?_
  refine Bd_getR (j := 2) ck7 (pc := 8) dX7_canRun_8 k_237 rfl (Nat.le_of_ble_eq_true rfl) rfl ?_
  refine Bd_getR (j := 0) ck0 (pc := 11) dX7_canRun_11 k_84 rfl (Nat.le_of_ble_eq_true rfl) rfl ?_
  refine Bd_iload_1 (pc := 14) dX7_canRun_14 ?_
  refine Bd_ialdc (j := i) (nI_clamp (by omega)) (pc := 15) dX7_canRun_15 rfl (vpi (by omega) (by omega)) ?_
  refine Bd_iald (pc := 16) dX7_canRun_16 rfl ti ?_
  refine Bd_aload_0 (pc := 17) dX7_canRun_17 ?_
  refine Bd_getR (j := 8) ck7 (pc := 18) dX7_canRun_18 k_243 rfl (Nat.le_of_ble_eq_true rfl) rfl ?_
  refine Bd_getR (j := 1) ck3 (pc := 21) dX7_canRun_21 k_153 rfl (Nat.le_of_ble_eq_true rfl) rfl ?_
  refine Bd_aload_0 (pc := 24) dX7_canRun_24 ?_
  refine Bd_getR (j := 2) ck7 (pc := 25) dX7_canRun_25 k_237 rfl (Nat.le_of_ble_eq_true rfl) rfl ?_
  refine Bd_getR (j := 0) ck0 (pc := 28) dX7_canRun_28 k_84 rfl (Nat.le_of_ble_eq_true rfl) rfl ?_
  refine Bd_iload_2 (pc := 31) dX7_canRun_31 ?_
  refine Bd_ialdc (j := j) (nI_clamp (by omega)) (pc := 32) dX7_canRun_32 rfl (vpi (by omega) (by omega)) ?_
  refine Bd_iald (pc := 33) dX7_canRun_33 rfl tj ?_
  refine Bd_callS2i (cd := mX3_howFar) (pc := 34) dX7_canRun_34 k_660 v_X3_howFar ⟨(Nat.le_of_ble_eq_true rfl), (Nat.le_of_ble_eq_true rfl)⟩ sem_X3_howFar (Nat.le_of_ble_eq_true rfl) ?_
  refine Bd_istore_3 (pc := 37) dX7_canRun_37 (Nat.le_of_ble_eq_true rfl) rfl ?_
  refine Bd_aload_0 (pc := 38) dX7_canRun_38 ?_
  refine Bd_getR (j := 2) ck7 (pc := 39) dX7_canRun_39 k_237 rfl (Nat.le_of_ble_eq_true rfl) rfl ?_
  refine Bd_getR (j := 1) ck0 (pc := 42) dX7_canRun_42 k_86 rfl (Nat.le_of_ble_eq_true rfl) rfl ?_
  refine Bd_iload_2 (pc := 45) dX7_canRun_45 ?_
  refine Bd_ialdc (j := j) (nI_clamp (by omega)) (pc := 46) dX7_canRun_46 rfl (vpi (by omega) (by omega)) ?_
  refine Bd_aload_0 (pc := 47) dX7_canRun_47 ?_
  refine Bd_getR (j := 2) ck7 (pc := 48) dX7_canRun_48 k_237 rfl (Nat.le_of_ble_eq_true rfl) rfl ?_
  refine Bd_getR (j := 1) ck0 (pc := 51) dX7_canRun_51 k_86 rfl (Nat.le_of_ble_eq_true rfl) rfl ?_
  refine Bd_iload_1 (pc := 54) dX7_canRun_54 ?_
  refine Bd_ialdc (j := i) (nI_clamp (by omega)) (pc := 55) dX7_canRun_55 rfl (vpi (by omega) (by omega)) ?_
  refine Bd_isub (pc := 56) dX7_canRun_56 ?_
  refine Bd_iconst (v := 1) (pc := 57) dX7_canRun_57 (by decide) ?_
  refine Bd_aload_0 (pc := 58) dX7_canRun_58 ?_
  refine Bd_getR (j := 8) ck7 (pc := 59) dX7_canRun_59 k_243 rfl (Nat.le_of_ble_eq_true rfl) rfl ?_
  refine Bd_getR (j := 0) ck3 (pc := 62) dX7_canRun_62 k_149 rfl (Nat.le_of_ble_eq_true rfl) rfl ?_
  refine Bd_iconst (v := 3) (pc := 65) dX7_canRun_65 (by decide) ?_
  refine Bd_ialdc (j := 3) rfl (pc := 66) dX7_canRun_66 rfl (by unfold vp_in; decide) ?_
  refine Bd_iload_3 (pc := 67) dX7_canRun_67 ?_
  refine Bd_imul (pc := 68) dX7_canRun_68 ?_
  refine Bd_mmax (pc := 69) dX7_canRun_69 k_542 k_494 k_14 k_495 (Nat.le_of_ble_eq_true rfl) (Nat.le_of_ble_eq_true rfl) ?_
  refine Bd_icmp_lt (t := 79) (pc := 72) dX7_canRun_72 (by decide) (fun b72 => ?_) (fun b72 => ?_)
  · refine Bd_iconst (v := 0) (pc := 79) dX7_canRun_79 (by decide) ?_
    refine Bd_zret (pc := 80) dX7_canRun_80 rfl rfl ?_
    exact PD_i (by first | exact b2_t (Int32.not_lt.mp b72) | exact b2_f (Int32.not_le.mpr b72)) rfl
  · refine Bd_iconst (v := 1) (pc := 75) dX7_canRun_75 (by decide) ?_
    refine Bd_goto (t := 80) (pc := 76) dX7_canRun_76 (by decide) ?_
    refine Bd_zret (pc := 80) dX7_canRun_80 rfl rfl ?_
    exact PD_i (by first | exact b2_t (Int32.not_lt.mp b72) | exact b2_f (Int32.not_le.mpr b72)) rfl
theorem sem_canRun' {M : Mem} (h : WF M) {i j : Int32} (hi : 0 ≤ i ∧ i < M 5 4) (hj : 0 ≤ j ∧ j < M 5 4) : Sem mX7_canRun SH [.ref 0, .int i, .int j] M (PD SH (some (.int (b2 (crF M (cn i) (cn j))))) M) := by
  have hv := vp_cn (n := 24) (vpP hi h.nb24') (by omega)
  have hw := vp_cn (n := 24) (vpP hj h.nb24') (by omega)
  have := sem_X7_canRun (M := M) (i := cn i) (j := cn j) hv.2 hw.2 (h.bt6 (cn_lt hi)) (h.bt6 (cn_lt hj))
  rw [← hv.1, ← hw.1] at this
  exact this
set_option maxRecDepth 100000 in
set_option maxHeartbeats 4000000 in
theorem sem_X7_runs {M : Mem} (h : WF M) {i j : Int32} : Sem mX7_runs SH [.ref 0, .int i, .int j] M (PD SH (some (.int (runsV M i j))) (M)) := by
  refine Sem_of rfl (fun G => (Nat.le_of_ble_eq_true rfl)) (fun G => ?_)
  refine Bd_iload_1 (pc := 0) dX7_runs_0 ?_
  refine Bd_aload_0 (pc := 1) dX7_runs_1 ?_
  refine Bd_getR (j := 2) ck7 (pc := 2) dX7_runs_2 k_237 rfl (Nat.le_of_ble_eq_true rfl) rfl ?_
  refine Bd_getI (j := 4) ck0 (pc := 5) dX7_runs_5 k_92 rfl (Nat.le_of_ble_eq_true rfl) rfl ?_
  refine Bd_callS2i (cd := mX7_isWithin) (pc := 8) dX7_runs_8 k_448 v_X7_isWithin ⟨(Nat.le_of_ble_eq_true rfl), (Nat.le_of_ble_eq_true rfl)⟩ sem_X7_isWithin (Nat.le_of_ble_eq_true rfl) ?_
  refine Bd_if_eq (t := 33) (pc := 11) dX7_runs_11 (by decide) (fun b11 => ?_) (fun b11 => ?_)
  · refine Bd_iconst (v := -1) (pc := 33) dX7_runs_33 (by decide) ?_
    refine Bd_iret (pc := 34) dX7_runs_34 rfl ?_
    exact PD_i (by (try simp only [b2_0, Classical.not_not] at *); (first | rfl | (simp only [runsV, *, if_true, if_false, not_false_eq_true, not_true_eq_false, and_self, and_true, true_and, false_and, and_false, if_pos rfl]; done) | (simp [runsV, *]; done) | (simp only [runsV, *, if_true, if_false, not_false_eq_true, not_true_eq_false, and_self, and_true, true_and, false_and, and_false, if_pos rfl]; rfl) | (unfold runsV; repeat (first | rw [if_pos (by assumption)] | rw [if_neg (by assumption)]); done) | (unfold runsV; repeat (first | rw [if_pos (by assumption)] | rw [if_neg (by assumption)]); rfl))) rfl
  · refine Bd_iload_2 (pc := 14) dX7_runs_14 ?_
    refine Bd_aload_0 (pc := 15) dX7_runs_15 ?_
    refine Bd_getR (j := 2) ck7 (pc := 16) dX7_runs_16 k_237 rfl (Nat.le_of_ble_eq_true rfl) rfl ?_
    refine Bd_getI (j := 4) ck0 (pc := 19) dX7_runs_19 k_92 rfl (Nat.le_of_ble_eq_true rfl) rfl ?_
    refine Bd_callS2i (cd := mX7_isWithin) (pc := 22) dX7_runs_22 k_448 v_X7_isWithin ⟨(Nat.le_of_ble_eq_true rfl), (Nat.le_of_ble_eq_true rfl)⟩ sem_X7_isWithin (Nat.le_of_ble_eq_true rfl) ?_
    refine Bd_if_eq (t := 33) (pc := 25) dX7_runs_25 (by decide) (fun b25 => ?_) (fun b25 => ?_)
    · refine Bd_iconst (v := -1) (pc := 33) dX7_runs_33 (by decide) ?_
      refine Bd_iret (pc := 34) dX7_runs_34 rfl ?_
      exact PD_i (by (try simp only [b2_0, Classical.not_not] at *); (first | rfl | (simp only [runsV, *, if_true, if_false, not_false_eq_true, not_true_eq_false, and_self, and_true, true_and, false_and, and_false, if_pos rfl]; done) | (simp [runsV, *]; done) | (simp only [runsV, *, if_true, if_false, not_false_eq_true, not_true_eq_false, and_self, and_true, true_and, false_and, and_false, if_pos rfl]; rfl) | (unfold runsV; repeat (first | rw [if_pos (by assumption)] | rw [if_neg (by assumption)]); done) | (unfold runsV; repeat (first | rw [if_pos (by assumption)] | rw [if_neg (by assumption)]); rfl))) rfl
    · refine Bd_iload_1 (pc := 28) dX7_runs_28 ?_
      refine Bd_iload_2 (pc := 29) dX7_runs_29 ?_
      refine Bd_icmp_ne (t := 35) (pc := 30) dX7_runs_30 (by decide) (fun b30 => ?_) (fun b30 => ?_)
      · refine Bd_aload_0 (pc := 35) dX7_runs_35 ?_
        refine Bd_iload_1 (pc := 36) dX7_runs_36 ?_
        refine Bd_iload_2 (pc := 37) dX7_runs_37 ?_
        refine Bd_callV2i (cd := mX7_canRun) (pc := 38) dX7_runs_38 k_656 v_X7_canRun ⟨(Nat.le_of_ble_eq_true rfl), (Nat.le_of_ble_eq_true rfl)⟩ rfl rfl (sem_canRun' h (b2_n.mp b11) (b2_n.mp b25)) (Nat.le_of_ble_eq_true rfl) ?_
        refine Bd_if_eq (t := 48) (pc := 41) dX7_runs_41 (by decide) (fun b41 => ?_) (fun b41 => ?_)
        · refine Bd_iconst (v := 0) (pc := 48) dX7_runs_48 (by decide) ?_
          refine Bd_iret (pc := 49) dX7_runs_49 rfl ?_
          exact PD_i (by simp only [runsV, if_pos (b2_n.mp b11), if_pos (b2_n.mp b25), if_neg b30]; first | exact b2_t (b2_n.mp b41) | exact b2_f (b2_0.mp b41)) rfl
        · refine Bd_iconst (v := 1) (pc := 44) dX7_runs_44 (by decide) ?_
          refine Bd_goto (t := 49) (pc := 45) dX7_runs_45 (by decide) ?_
          refine Bd_iret (pc := 49) dX7_runs_49 rfl ?_
          exact PD_i (by simp only [runsV, if_pos (b2_n.mp b11), if_pos (b2_n.mp b25), if_neg b30]; first | exact b2_t (b2_n.mp b41) | exact b2_f (b2_0.mp b41)) rfl
      · refine Bd_iconst (v := -1) (pc := 33) dX7_runs_33 (by decide) ?_
        refine Bd_iret (pc := 34) dX7_runs_34 rfl ?_
        exact PD_i (by (try simp only [b2_0, Classical.not_not] at *); (first | rfl | (simp only [runsV, *, if_true, if_false, not_false_eq_true, not_true_eq_false, and_self, and_true, true_and, false_and, and_false, if_pos rfl]; done) | (simp [runsV, *]; done) | (simp only [runsV, *, if_true, if_false, not_false_eq_true, not_true_eq_false, and_self, and_true, true_and, false_and, and_false, if_pos rfl]; rfl) | (unfold runsV; repeat (first | rw [if_pos (by assumption)] | rw [if_neg (by assumption)]); done) | (unfold runsV; repeat (first | rw [if_pos (by assumption)] | rw [if_neg (by assumption)]); rfl))) rfl
def notedV (M : Mem) (b : Int32) : Int32 := if b < 0 then -1 else if b ≤ 400 then if M 5 5 < M 5 4 then M 5 5 + 1 else -2 else -1
def notedU (M : Mem) (b : Int32) : Mem := if b < 0 then M else if b ≤ 400 then if M 5 5 < M 5 4 then updM (updM M 9 (cn (M 5 5)) b) 5 5 (M 5 5 + 1) else M else M
set_option maxRecDepth 100000 in
set_option maxHeartbeats 4000000 in
theorem sem_X7_noted {M : Mem} (h : WF M) {b : Int32} : Sem mX7_noted SH [.ref 0, .int b] M (PD SH (some (.int (notedV M b))) (notedU M b)) := by
  refine Sem_of rfl (fun G => (Nat.le_of_ble_eq_true rfl)) (fun G => ?_)
  refine Bd_iload_1 (pc := 0) dX7_noted_0 ?_
  refine Bd_if_lt (t := 11) (pc := 1) dX7_noted_1 (by decide) (fun b1 => ?_) (fun b1 => ?_)
  · refine Bd_iconst (v := -1) (pc := 11) dX7_noted_11 (by decide) ?_
    refine Bd_iret (pc := 12) dX7_noted_12 rfl ?_
    exact ⟨by (try simp only [b2_0, Classical.not_not] at *); (first | rfl | (simp only [notedV, *, if_true, if_false, not_false_eq_true, not_true_eq_false, and_self, and_true, true_and, false_and, and_false, if_pos rfl]; done) | (simp [notedV, *]; done) | (simp only [notedV, *, if_true, if_false, not_false_eq_true, not_true_eq_false, and_self, and_true, true_and, false_and, and_false, if_pos rfl]; rfl) | (unfold notedV; repeat (first | rw [if_pos (by assumption)] | rw [if_neg (by assumption)]); done) | (unfold notedV; repeat (first | rw [if_pos (by assumption)] | rw [if_neg (by assumption)]); rfl)), rfl, by (try simp only [b2_0, Classical.not_not] at *); (first | rfl | (simp only [notedU, *, if_true, if_false, not_false_eq_true, not_true_eq_false, and_self, and_true, true_and, false_and, and_false, if_pos rfl]; done) | (simp [notedU, *]; done) | (simp only [notedU, *, if_true, if_false, not_false_eq_true, not_true_eq_false, and_self, and_true, true_and, false_and, and_false, if_pos rfl]; rfl) | (unfold notedU; repeat (first | rw [if_pos (by assumption)] | rw [if_neg (by assumption)]); done) | (unfold notedU; repeat (first | rw [if_pos (by assumption)] | rw [if_neg (by assumption)]); rfl))⟩
  · refine Bd_iload_1 (pc := 4) dX7_noted_4 ?_
    refine Bd_sipush (v := 400) (pc := 5) dX7_noted_5 (by decide) ?_
    refine Bd_icmp_le (t := 13) (pc := 8) dX7_noted_8 (by decide) (fun b8 => ?_) (fun b8 => ?_)
    · refine Bd_aload_0 (pc := 13) dX7_noted_13 ?_
      refine Bd_getR (j := 2) ck7 (pc := 14) dX7_noted_14 k_237 rfl (Nat.le_of_ble_eq_true rfl) rfl ?_
      refine Bd_getI (j := 5) ck0 (pc := 17) dX7_noted_17 k_94 rfl (Nat.le_of_ble_eq_true rfl) rfl ?_
      refine Bd_aload_0 (pc := 20) dX7_noted_20 ?_
      refine Bd_getR (j := 2) ck7 (pc := 21) dX7_noted_21 k_237 rfl (Nat.le_of_ble_eq_true rfl) rfl ?_
      refine Bd_getI (j := 4) ck0 (pc := 24) dX7_noted_24 k_92 rfl (Nat.le_of_ble_eq_true rfl) rfl ?_
      refine Bd_icmp_lt (t := 33) (pc := 27) dX7_noted_27 (by decide) (fun b27 => ?_) (fun b27 => ?_)
      · refine Bd_aload_0 (pc := 33) dX7_noted_33 ?_
        refine Bd_getR (j := 2) ck7 (pc := 34) dX7_noted_34 k_237 rfl (Nat.le_of_ble_eq_true rfl) rfl ?_
        refine Bd_getR (j := 3) ck0 (pc := 37) dX7_noted_37 k_90 rfl (Nat.le_of_ble_eq_true rfl) rfl ?_
        refine Bd_aload_0 (pc := 40) dX7_noted_40 ?_
        refine Bd_getR (j := 2) ck7 (pc := 41) dX7_noted_41 k_237 rfl (Nat.le_of_ble_eq_true rfl) rfl ?_
        refine Bd_getI (j := 5) ck0 (pc := 44) dX7_noted_44 k_94 rfl (Nat.le_of_ble_eq_true rfl) rfl ?_
        refine Bd_iload_1 (pc := 47) dX7_noted_47 ?_
        refine Bd_iast (pc := 48) dX7_noted_48 rfl (bt_vp (hi := 23) (by have h1 := h.2.1.2.1; have h2 := h.nb24'; rw [Int32.lt_iff_toInt_lt] at b27; exact ⟨h1.1, by omega⟩) (by omega)) ?_
        refine Bd_aload_0 (pc := 49) dX7_noted_49 ?_
        refine Bd_getR (j := 2) ck7 (pc := 50) dX7_noted_50 k_237 rfl (Nat.le_of_ble_eq_true rfl) rfl ?_
        refine Bd_dup (pc := 53) dX7_noted_53 rfl ?_
        refine Bd_getI (j := 5) ck0 (pc := 54) dX7_noted_54 k_94 rfl (Nat.le_of_ble_eq_true rfl) rfl ?_
        refine Bd_iconst (v := 1) (pc := 57) dX7_noted_57 (by decide) ?_
        refine Bd_iadd (pc := 58) dX7_noted_58 ?_
        refine Bd_putI (j := 5) (ty := .int) ck0 (pc := 59) dX7_noted_59 k_94 rfl (Nat.le_of_ble_eq_true rfl) rfl rfl pfI rfl rfl ?_
        refine Bd_aload_0 (pc := 62) dX7_noted_62 ?_
        refine Bd_getR (j := 2) ck7 (pc := 63) dX7_noted_63 k_237 rfl (Nat.le_of_ble_eq_true rfl) rfl ?_
        refine Bd_getI (j := 5) ck0 (pc := 66) dX7_noted_66 k_94 rfl (Nat.le_of_ble_eq_true rfl) rfl ?_
        refine Bd_iret (pc := 69) dX7_noted_69 rfl ?_
        exact ⟨by (try simp only [b2_0, Classical.not_not] at *); (first | rfl | (simp only [notedV, *, if_true, if_false, not_false_eq_true, not_true_eq_false, and_self, and_true, true_and, false_and, and_false, if_pos rfl]; done) | (simp [notedV, *]; done) | (simp only [notedV, *, if_true, if_false, not_false_eq_true, not_true_eq_false, and_self, and_true, true_and, false_and, and_false, if_pos rfl]; rfl) | (unfold notedV; repeat (first | rw [if_pos (by assumption)] | rw [if_neg (by assumption)]); done) | (unfold notedV; repeat (first | rw [if_pos (by assumption)] | rw [if_neg (by assumption)]); rfl)), rfl, by (try simp only [b2_0, Classical.not_not] at *); (first | rfl | (simp only [notedU, *, if_true, if_false, not_false_eq_true, not_true_eq_false, and_self, and_true, true_and, false_and, and_false, if_pos rfl]; done) | (simp [notedU, *]; done) | (simp only [notedU, *, if_true, if_false, not_false_eq_true, not_true_eq_false, and_self, and_true, true_and, false_and, and_false, if_pos rfl]; rfl) | (unfold notedU; repeat (first | rw [if_pos (by assumption)] | rw [if_neg (by assumption)]); done) | (unfold notedU; repeat (first | rw [if_pos (by assumption)] | rw [if_neg (by assumption)]); rfl))⟩
      · refine Bd_bipush (v := -2) (pc := 30) dX7_noted_30 (by decide) ?_
        refine Bd_iret (pc := 32) dX7_noted_32 rfl ?_
        exact ⟨by (try simp only [b2_0, Classical.not_not] at *); (first | rfl | (simp only [notedV, *, if_true, if_false, not_false_eq_true, not_true_eq_false, and_self, and_true, true_and, false_and, and_false, if_pos rfl]; done) | (simp [notedV, *]; done) | (simp only [notedV, *, if_true, if_false, not_false_eq_true, not_true_eq_false, and_self, and_true, true_and, false_and, and_false, if_pos rfl]; rfl) | (unfold notedV; repeat (first | rw [if_pos (by assumption)] | rw [if_neg (by assumption)]); done) | (unfold notedV; repeat (first | rw [if_pos (by assumption)] | rw [if_neg (by assumption)]); rfl)), rfl, by (try simp only [b2_0, Classical.not_not] at *); (first | rfl | (simp only [notedU, *, if_true, if_false, not_false_eq_true, not_true_eq_false, and_self, and_true, true_and, false_and, and_false, if_pos rfl]; done) | (simp [notedU, *]; done) | (simp only [notedU, *, if_true, if_false, not_false_eq_true, not_true_eq_false, and_self, and_true, true_and, false_and, and_false, if_pos rfl]; rfl) | (unfold notedU; repeat (first | rw [if_pos (by assumption)] | rw [if_neg (by assumption)]); done) | (unfold notedU; repeat (first | rw [if_pos (by assumption)] | rw [if_neg (by assumption)]); rfl))⟩
    · refine Bd_iconst (v := -1) (pc := 11) dX7_noted_11 (by decide) ?_
      refine Bd_iret (pc := 12) dX7_noted_12 rfl ?_
      exact ⟨by (try simp only [b2_0, Classical.not_not] at *); (first | rfl | (simp only [notedV, *, if_true, if_false, not_false_eq_true, not_true_eq_false, and_self, and_true, true_and, false_and, and_false, if_pos rfl]; done) | (simp [notedV, *]; done) | (simp only [notedV, *, if_true, if_false, not_false_eq_true, not_true_eq_false, and_self, and_true, true_and, false_and, and_false, if_pos rfl]; rfl) | (unfold notedV; repeat (first | rw [if_pos (by assumption)] | rw [if_neg (by assumption)]); done) | (unfold notedV; repeat (first | rw [if_pos (by assumption)] | rw [if_neg (by assumption)]); rfl)), rfl, by (try simp only [b2_0, Classical.not_not] at *); (first | rfl | (simp only [notedU, *, if_true, if_false, not_false_eq_true, not_true_eq_false, and_self, and_true, true_and, false_and, and_false, if_pos rfl]; done) | (simp [notedU, *]; done) | (simp only [notedU, *, if_true, if_false, not_false_eq_true, not_true_eq_false, and_self, and_true, true_and, false_and, and_false, if_pos rfl]; rfl) | (unfold notedU; repeat (first | rw [if_pos (by assumption)] | rw [if_neg (by assumption)]); done) | (unfold notedU; repeat (first | rw [if_pos (by assumption)] | rw [if_neg (by assumption)]); rfl))⟩
set_option maxRecDepth 100000 in
set_option maxHeartbeats 4000000 in
theorem sem_X7_forget {M : Mem} : Sem mX7_forget SH [.ref 0] M (PD SH (some (.int (M 5 5))) (updM M 5 5 0)) := by
  refine Sem_of rfl (fun G => (Nat.le_of_ble_eq_true rfl)) (fun G => ?_)
  refine Bd_aload_0 (pc := 0) dX7_forget_0 ?_
  refine Bd_getR (j := 2) ck7 (pc := 1) dX7_forget_1 k_237 rfl (Nat.le_of_ble_eq_true rfl) rfl ?_
  refine Bd_getI (j := 5) ck0 (pc := 4) dX7_forget_4 k_94 rfl (Nat.le_of_ble_eq_true rfl) rfl ?_
  refine Bd_istore_1 (pc := 7) dX7_forget_7 (Nat.le_of_ble_eq_true rfl) rfl ?_
  refine Bd_aload_0 (pc := 8) dX7_forget_8 ?_
  refine Bd_getR (j := 2) ck7 (pc := 9) dX7_forget_9 k_237 rfl (Nat.le_of_ble_eq_true rfl) rfl ?_
  refine Bd_iconst (v := 0) (pc := 12) dX7_forget_12 (by decide) ?_
  refine Bd_putI (j := 5) (ty := .int) ck0 (pc := 13) dX7_forget_13 k_94 rfl (Nat.le_of_ble_eq_true rfl) rfl rfl pfI rfl rfl ?_
  refine Bd_iload_1 (pc := 16) dX7_forget_16 ?_
  refine Bd_iret (pc := 17) dX7_forget_17 rfl ?_
  exact PD_i rfl rfl
