/-! 75: land: the Teller's parts -/
def rf (M : Mem) (c p : Int32) : Mem := updM (updM M 3 3 c) 3 2 p
def mpM (M : Mem) : Mem := rf M (if M 1 3 = 0 then 1 else 2) (M 1 4)
abbrev lnF (M : Mem) : Int32 := lnI (nmB (M 2) (cn (M 1 4)) (cn (M 1 1)) (M 1 3)) 7 0
/-- the draft's counts -/
def DI (M : Mem) : Prop := (M 51 6 = nI (cn (M 51 6)) ∧ cn (M 51 6) ≤ 6) ∧ (M 51 7 = nI (cn (M 51 7)) ∧ cn (M 51 7) ≤ 3) ∧ (M 51 8 = nI (cn (M 51 8)) ∧ cn (M 51 8) ≤ 12)
abbrev fuP (M : Mem) (n : Nat) : Prop := (n = 4 ∧ 6 ≤ M 51 6) ∨ (n = 5 ∧ 3 ≤ M 51 7) ∨ (n = 6 ∧ 12 ≤ M 51 8)
def tnL (M : Mem) (n k : Nat) : Int32 := if n = 6 ∧ k = 0 then lbF M (cn (M 51 8)) else tabL.getD (3 * n + k) 0
def tnG (n k : Nat) : Int32 := tabG.getD (3 * n + k) 0
abbrev tnP (M : Mem) (n k : Nat) : Prop := tnL M n k ≤ M 1 5 ∧ M 1 5 ≤ tnG n k
abbrev tnQ (M : Mem) (n k : Nat) : Prop := rt M 1 3 = 2 ∧ tnP (rt M) n k
def tnM (M : Mem) (n k : Nat) : Mem := if rt M 1 3 = 2 then (if tnP (rt M) n k then updM (rt M) 4 k (rt M 1 5) else rf (rt M) 3 (rt M 1 4)) else mpM (rt M)
def wrM (M : Mem) : Nat → Mem
  | 0 => updM (updM M 52 0 (M 4 0)) 52 1 (M 4 1)
  | 1 => updM M 52 2 (M 4 0)
  | 2 => updM M 52 3 (M 4 0)
  | 3 => updM (updM M 52 4 (M 4 0)) 52 5 (M 4 1)
  | 4 => atD M (cn (M 51 6)) (M 4 0) (M 4 1) (M 4 2)
  | 5 => ahD M (cn (M 51 7)) (M 4 0) (M 4 1)
  | _ => anD M (cn (M 51 8)) (M 4 0) (M 4 1)
set_option maxRecDepth 100000 in
set_option maxHeartbeats 4000000 in
theorem sem_X5_rewind {M : Mem} : Sem mX5_rewind SH [.ref 1] M (PD SH none (updM M 1 1 0)) := by
  refine Sem_of rfl (fun G => (Nat.le_of_ble_eq_true rfl)) (fun G => ?_)
  refine Bd_aload_0 (pc := 0) dX5_rewind_0 ?_
  refine Bd_iconst (v := 0) (pc := 1) dX5_rewind_1 (by decide) ?_
  refine Bd_putI (j := 1) (ty := .int) ck5 (pc := 2) dX5_rewind_2 k_32 rfl (Nat.le_of_ble_eq_true rfl) rfl rfl pfI rfl rfl ?_
  refine Bd_vret (pc := 5) dX5_rewind_5 rfl ?_
  exact PD_v rfl
set_option maxRecDepth 100000 in
set_option maxHeartbeats 4000000 in
theorem sem_X6_refuse {M : Mem} {c p : Int32} : Sem mX6_refuse SH [.ref 3, .int c, .int p] M (PD SH (some (.int (-10 - p))) (rf M c p)) := by
  refine Sem_of rfl (fun G => (Nat.le_of_ble_eq_true rfl)) (fun G => ?_)
  refine Bd_aload_0 (pc := 0) dX6_refuse_0 ?_
  refine Bd_iload_1 (pc := 1) dX6_refuse_1 ?_
  refine Bd_putI (j := 3) (ty := .int) ck6 (pc := 2) dX6_refuse_2 k_65 rfl (Nat.le_of_ble_eq_true rfl) rfl rfl pfI rfl rfl ?_
  refine Bd_aload_0 (pc := 5) dX6_refuse_5 ?_
  refine Bd_iload_2 (pc := 6) dX6_refuse_6 ?_
  refine Bd_putI (j := 2) (ty := .int) ck6 (pc := 7) dX6_refuse_7 k_64 rfl (Nat.le_of_ble_eq_true rfl) rfl rfl pfI rfl rfl ?_
  refine Bd_bipush (v := -10) (pc := 10) dX6_refuse_10 (by decide) ?_
  refine Bd_aload_0 (pc := 12) dX6_refuse_12 ?_
  refine Bd_getI (j := 2) ck6 (pc := 13) dX6_refuse_13 k_64 rfl (Nat.le_of_ble_eq_true rfl) rfl ?_
  refine Bd_isub (pc := 16) dX6_refuse_16 ?_
  refine Bd_iret (pc := 17) dX6_refuse_17 rfl ?_
  exact PD_i rfl rfl
set_option maxRecDepth 100000 in
set_option maxHeartbeats 4000000 in
theorem sem_X6_misplaced {M : Mem} : Sem mX6_misplaced SH [.ref 3, .ref 1] M (PD SH (some (.int 0)) (mpM M)) := by
  refine Sem_of rfl (fun G => (Nat.le_of_ble_eq_true rfl)) (fun G => ?_)
  refine Bd_aload_0 (pc := 0) dX6_misplaced_0 ?_
  refine Bd_aload_1 (pc := 1) dX6_misplaced_1 ?_
  refine Bd_getI (j := 3) ck5 (pc := 2) dX6_misplaced_2 k_36 rfl (Nat.le_of_ble_eq_true rfl) rfl ?_
  refine Bd_if_ne (t := 12) (pc := 5) dX6_misplaced_5 (by decide) (fun b5 => ?_) (fun b5 => ?_)
  · refine Bd_iconst (v := 2) (pc := 12) dX6_misplaced_12 (by decide) ?_
    refine Bd_aload_1 (pc := 13) dX6_misplaced_13 ?_
    refine Bd_getI (j := 4) ck5 (pc := 14) dX6_misplaced_14 k_38 rfl (Nat.le_of_ble_eq_true rfl) rfl ?_
    refine Bd_callV2i (cd := mX6_refuse) (pc := 17) dX6_misplaced_17 k_326 v_X6_refuse ⟨(Nat.le_of_ble_eq_true rfl), (Nat.le_of_ble_eq_true rfl)⟩ rfl rfl sem_X6_refuse (Nat.le_of_ble_eq_true rfl) ?_
    refine Bd_pop (pc := 20) dX6_misplaced_20 rfl ?_
    refine Bd_iconst (v := 0) (pc := 21) dX6_misplaced_21 (by decide) ?_
    refine Bd_zret (pc := 22) dX6_misplaced_22 rfl rfl ?_
    exact PD_i rfl (by rw [mpM, if_neg b5])
  · refine Bd_iconst (v := 1) (pc := 8) dX6_misplaced_8 (by decide) ?_
    refine Bd_goto (t := 13) (pc := 9) dX6_misplaced_9 (by decide) ?_
    refine Bd_aload_1 (pc := 13) dX6_misplaced_13 ?_
    refine Bd_getI (j := 4) ck5 (pc := 14) dX6_misplaced_14 k_38 rfl (Nat.le_of_ble_eq_true rfl) rfl ?_
    refine Bd_callV2i (cd := mX6_refuse) (pc := 17) dX6_misplaced_17 k_326 v_X6_refuse ⟨(Nat.le_of_ble_eq_true rfl), (Nat.le_of_ble_eq_true rfl)⟩ rfl rfl sem_X6_refuse (Nat.le_of_ble_eq_true rfl) ?_
    refine Bd_pop (pc := 20) dX6_misplaced_20 rfl ?_
    refine Bd_iconst (v := 0) (pc := 21) dX6_misplaced_21 (by decide) ?_
    refine Bd_zret (pc := 22) dX6_misplaced_22 rfl rfl ?_
    exact PD_i rfl (by rw [mpM, if_pos b5])
set_option maxRecDepth 100000 in
set_option maxHeartbeats 4000000 in
theorem sem_X6_isFull {M : Mem} {n : Nat} (hn : n < 7) : Sem mX6_isFull SH [.int (nI n), .ref 51] M (PD SH (some (.int (b2 (fuP M n)))) M) := by
  refine Sem_of rfl (fun G => (Nat.le_of_ble_eq_true rfl)) (fun G => ?_)
  match n, hn with
  | 0, hn =>
    refine Bd_iload_0 (pc := 0) dX6_isFull_0 ?_
    refine Bd_swOut (t := 72) (pc := 1) dX6_isFull_1 (by decide) (by decide) ?_
    refine Bd_iconst (v := 0) (pc := 72) dX6_isFull_72 (by decide) ?_
    refine Bd_zret (pc := 73) dX6_isFull_73 rfl rfl ?_
    exact PD_i (b2_f (by rintro (z | z | z) <;> exact absurd z.1 (by decide))) rfl
  | 1, hn =>
    refine Bd_iload_0 (pc := 0) dX6_isFull_0 ?_
    refine Bd_swOut (t := 72) (pc := 1) dX6_isFull_1 (by decide) (by decide) ?_
    refine Bd_iconst (v := 0) (pc := 72) dX6_isFull_72 (by decide) ?_
    refine Bd_zret (pc := 73) dX6_isFull_73 rfl rfl ?_
    exact PD_i (b2_f (by rintro (z | z | z) <;> exact absurd z.1 (by decide))) rfl
  | 2, hn =>
    refine Bd_iload_0 (pc := 0) dX6_isFull_0 ?_
    refine Bd_swOut (t := 72) (pc := 1) dX6_isFull_1 (by decide) (by decide) ?_
    refine Bd_iconst (v := 0) (pc := 72) dX6_isFull_72 (by decide) ?_
    refine Bd_zret (pc := 73) dX6_isFull_73 rfl rfl ?_
    exact PD_i (b2_f (by rintro (z | z | z) <;> exact absurd z.1 (by decide))) rfl
  | 3, hn =>
    refine Bd_iload_0 (pc := 0) dX6_isFull_0 ?_
    refine Bd_swOut (t := 72) (pc := 1) dX6_isFull_1 (by decide) (by decide) ?_
    refine Bd_iconst (v := 0) (pc := 72) dX6_isFull_72 (by decide) ?_
    refine Bd_zret (pc := 73) dX6_isFull_73 rfl rfl ?_
    exact PD_i (b2_f (by rintro (z | z | z) <;> exact absurd z.1 (by decide))) rfl
  | 4, hn =>
    refine Bd_iload_0 (pc := 0) dX6_isFull_0 ?_
    refine Bd_swIn (t := 28) (pc := 1) dX6_isFull_1 (by decide) (by decide) rfl (by decide) ?_
    refine Bd_aload_1 (pc := 28) dX6_isFull_28 ?_
    refine Bd_getI (j := 6) ck3 (pc := 29) dX6_isFull_29 k_164 rfl (Nat.le_of_ble_eq_true rfl) rfl ?_
    refine Bd_bipush (v := 6) (pc := 32) dX6_isFull_32 (by decide) ?_
    refine Bd_icmp_lt (t := 41) (pc := 34) dX6_isFull_34 (by decide) (fun b34 => ?_) (fun b34 => ?_)
    · refine Bd_iconst (v := 0) (pc := 41) dX6_isFull_41 (by decide) ?_
      refine Bd_zret (pc := 42) dX6_isFull_42 rfl rfl ?_
      exact PD_i (b2_f (fun z => z.elim (fun z => Int32.not_lt.mpr z.2 b34) (fun z => z.elim (fun z => absurd z.1 (by decide)) (fun z => absurd z.1 (by decide))))) rfl
    · refine Bd_iconst (v := 1) (pc := 37) dX6_isFull_37 (by decide) ?_
      refine Bd_goto (t := 42) (pc := 38) dX6_isFull_38 (by decide) ?_
      refine Bd_zret (pc := 42) dX6_isFull_42 rfl rfl ?_
      exact PD_i (b2_t (Or.inl ⟨rfl, Int32.not_lt.mp b34⟩)) rfl
  | 5, hn =>
    refine Bd_iload_0 (pc := 0) dX6_isFull_0 ?_
    refine Bd_swIn (t := 43) (pc := 1) dX6_isFull_1 (by decide) (by decide) rfl (by decide) ?_
    refine Bd_aload_1 (pc := 43) dX6_isFull_43 ?_
    refine Bd_getI (j := 7) ck3 (pc := 44) dX6_isFull_44 k_168 rfl (Nat.le_of_ble_eq_true rfl) rfl ?_
    refine Bd_iconst (v := 3) (pc := 47) dX6_isFull_47 (by decide) ?_
    refine Bd_icmp_lt (t := 55) (pc := 48) dX6_isFull_48 (by decide) (fun b48 => ?_) (fun b48 => ?_)
    · refine Bd_iconst (v := 0) (pc := 55) dX6_isFull_55 (by decide) ?_
      refine Bd_zret (pc := 56) dX6_isFull_56 rfl rfl ?_
      exact PD_i (b2_f (fun z => z.elim (fun z => absurd z.1 (by decide)) (fun z => z.elim (fun z => Int32.not_lt.mpr z.2 b48) (fun z => absurd z.1 (by decide))))) rfl
    · refine Bd_iconst (v := 1) (pc := 51) dX6_isFull_51 (by decide) ?_
      refine Bd_goto (t := 56) (pc := 52) dX6_isFull_52 (by decide) ?_
      refine Bd_zret (pc := 56) dX6_isFull_56 rfl rfl ?_
      exact PD_i (b2_t (Or.inr (Or.inl ⟨rfl, Int32.not_lt.mp b48⟩))) rfl
  | 6, hn =>
    refine Bd_iload_0 (pc := 0) dX6_isFull_0 ?_
    refine Bd_swIn (t := 57) (pc := 1) dX6_isFull_1 (by decide) (by decide) rfl (by decide) ?_
    refine Bd_aload_1 (pc := 57) dX6_isFull_57 ?_
    refine Bd_getI (j := 8) ck3 (pc := 58) dX6_isFull_58 k_170 rfl (Nat.le_of_ble_eq_true rfl) rfl ?_
    refine Bd_bipush (v := 12) (pc := 61) dX6_isFull_61 (by decide) ?_
    refine Bd_icmp_lt (t := 70) (pc := 63) dX6_isFull_63 (by decide) (fun b63 => ?_) (fun b63 => ?_)
    · refine Bd_iconst (v := 0) (pc := 70) dX6_isFull_70 (by decide) ?_
      refine Bd_zret (pc := 71) dX6_isFull_71 rfl rfl ?_
      exact PD_i (b2_f (fun z => z.elim (fun z => absurd z.1 (by decide)) (fun z => z.elim (fun z => absurd z.1 (by decide)) (fun z => Int32.not_lt.mpr z.2 b63)))) rfl
    · refine Bd_iconst (v := 1) (pc := 66) dX6_isFull_66 (by decide) ?_
      refine Bd_goto (t := 71) (pc := 67) dX6_isFull_67 (by decide) ?_
      refine Bd_zret (pc := 71) dX6_isFull_71 rfl rfl ?_
      exact PD_i (b2_t (Or.inr (Or.inr ⟨rfl, Int32.not_lt.mp b63⟩))) rfl
theorem n3k {n k : Nat} (hn : n < 7) (hk : k < 3) : (3 : Int32) * nI n + nI k = nI (3 * n + k) := by
  rw [show (3 : Int32) = nI 3 from rfl]
  simp [nI, Int32.ofNat_add, Int32.ofNat_mul]
theorem nI_6 {n : Nat} (hn : n < 7) : nI n = 6 ↔ n = 6 := ⟨fun h => nI_inj (a := n) (b := 6) h, fun h => by rw [h]; rfl⟩
theorem nI_z {n : Nat} (hn : n < 7) : nI n = 0 ↔ n = 0 := ⟨fun h => nI_inj (a := n) (b := 0) h, fun h => by rw [h]; rfl⟩
set_option maxRecDepth 100000 in
set_option maxHeartbeats 4000000 in
theorem sem_X6_takeNumber {M : Mem} {n k : Nat} (h : TI M) (hD : DI M) (hn : n < 7) (hk : k < 3) : Sem mX6_takeNumber SH [.ref 3, .ref 1, .ref 51, .int (nI n), .int (nI k)] M (PD SH (some (.int (b2 (tnQ M n k)))) (tnM M n k)) := by
  refine Sem_of rfl (fun G => (Nat.le_of_ble_eq_true rfl)) (fun G => ?_)
  have hD2 : rt M 51 8 = nI (cn (rt M 51 8)) ∧ cn (rt M 51 8) ≤ 12 := by rw [rt_ne (by decide)]; exact hD.2.2
  refine Bd_aload_1 (pc := 0) dX6_takeNumber_0 ?_
  refine Bd_callV0v (cd := mX5_readToken) (pc := 1) dX6_takeNumber_1 k_297 v_X5_readToken ⟨(Nat.le_of_ble_eq_true rfl), (Nat.le_of_ble_eq_true rfl)⟩ rfl rfl (sem_X5_readToken h) (Nat.le_of_ble_eq_true rfl) ?_
  refine Bd_aload_1 (pc := 4) dX6_takeNumber_4 ?_
  refine Bd_getI (j := 3) ck5 (pc := 5) dX6_takeNumber_5 k_36 rfl (Nat.le_of_ble_eq_true rfl) rfl ?_
  refine Bd_iconst (v := 2) (pc := 8) dX6_takeNumber_8 (by decide) ?_
  refine Bd_icmp_eq (t := 18) (pc := 9) dX6_takeNumber_9 (by decide) (fun b9 => ?_) (fun b9 => ?_)
  · refine Bd_iload_3 (pc := 18) dX6_takeNumber_18 ?_
    refine Bd_bipush (v := 6) (pc := 19) dX6_takeNumber_19 (by decide) ?_
    refine Bd_icmp_ne (t := 33) (pc := 21) dX6_takeNumber_21 (by decide) (fun b21 => ?_) (fun b21 => ?_)
    · refine Bd_iconst (v := 0) (pc := 33) dX6_takeNumber_33 (by decide) ?_
      refine Bd_istore_5 (pc := 34) dX6_takeNumber_34 (Nat.le_of_ble_eq_true rfl) rfl ?_
      refine Bd_iload_5 (pc := 36) dX6_takeNumber_36 ?_
      refine Bd_if_eq (t := 48) (pc := 38) dX6_takeNumber_38 (by decide) (fun b38 => ?_) (fun b38 => (show False from absurd rfl b38).elim)
      refine Bd_gets (v := .ref 121) (fun s S => S.2.2.2.2.2.2.2.1.1) k_416 (pc := 48) dX6_takeNumber_48 ?_
      refine Bd_iconst (v := 3) (pc := 51) dX6_takeNumber_51 (by decide) ?_
      refine Bd_iload_3 (pc := 52) dX6_takeNumber_52 ?_
      refine Bd_imul (pc := 53) dX6_takeNumber_53 ?_
      refine Bd_iload_4 (pc := 54) dX6_takeNumber_54 ?_
      refine Bd_iadd (pc := 56) dX6_takeNumber_56 ?_
      refine Bd_tald (t := tabL) (j := 3 * n + k) (fun s S => S.2.2.2.2.2.2.2.1.2) (by rw [n3k hn hk]; exact nI_clamp (by omega)) (pc := 57) dX6_takeNumber_57 (by rw [n3k hn hk]; exact vpi (by show _ < 21; omega) (by decide)) ?_
      refine Bd_istore_6 (pc := 58) dX6_takeNumber_58 (Nat.le_of_ble_eq_true rfl) rfl ?_
      refine Bd_aload_1 (pc := 60) dX6_takeNumber_60 ?_
      refine Bd_getI (j := 5) ck5 (pc := 61) dX6_takeNumber_61 k_41 rfl (Nat.le_of_ble_eq_true rfl) rfl ?_
      refine Bd_iload_6 (pc := 64) dX6_takeNumber_64 ?_
      refine Bd_icmp_lt (t := 86) (pc := 66) dX6_takeNumber_66 (by decide) (fun b66 => ?_) (fun b66 => ?_)
      · refine Bd_aload_0 (pc := 86) dX6_takeNumber_86 ?_
        refine Bd_iconst (v := 3) (pc := 87) dX6_takeNumber_87 (by decide) ?_
        refine Bd_aload_1 (pc := 88) dX6_takeNumber_88 ?_
        refine Bd_getI (j := 4) ck5 (pc := 89) dX6_takeNumber_89 k_38 rfl (Nat.le_of_ble_eq_true rfl) rfl ?_
        refine Bd_callV2i (cd := mX6_refuse) (pc := 92) dX6_takeNumber_92 k_326 v_X6_refuse ⟨(Nat.le_of_ble_eq_true rfl), (Nat.le_of_ble_eq_true rfl)⟩ rfl rfl sem_X6_refuse (Nat.le_of_ble_eq_true rfl) ?_
        refine Bd_pop (pc := 95) dX6_takeNumber_95 rfl ?_
        refine Bd_iconst (v := 0) (pc := 96) dX6_takeNumber_96 (by decide) ?_
        refine Bd_zret (pc := 97) dX6_takeNumber_97 rfl rfl ?_
        have hl : tnL (rt M) n k = tabL.getD (3 * n + k) 0 := by unfold tnL; rw [if_neg (fun z => b21 ((nI_6 hn).mpr z.1))]
        have np : ¬ tnP (rt M) n k := fun z => Int32.not_lt.mpr (hl ▸ z.1) b66
        exact PD_i (b2_f (fun z => np z.2)) (by rw [tnM, if_pos b9, if_neg np])
      · refine Bd_aload_1 (pc := 69) dX6_takeNumber_69 ?_
        refine Bd_getI (j := 5) ck5 (pc := 70) dX6_takeNumber_70 k_41 rfl (Nat.le_of_ble_eq_true rfl) rfl ?_
        refine Bd_gets (v := .ref 122) (fun s S => S.2.2.2.2.2.2.2.2.1) k_418 (pc := 73) dX6_takeNumber_73 ?_
        refine Bd_iconst (v := 3) (pc := 76) dX6_takeNumber_76 (by decide) ?_
        refine Bd_iload_3 (pc := 77) dX6_takeNumber_77 ?_
        refine Bd_imul (pc := 78) dX6_takeNumber_78 ?_
        refine Bd_iload_4 (pc := 79) dX6_takeNumber_79 ?_
        refine Bd_iadd (pc := 81) dX6_takeNumber_81 ?_
        refine Bd_tald (t := tabG) (j := 3 * n + k) (fun s S => S.2.2.2.2.2.2.2.2.2) (by rw [n3k hn hk]; exact nI_clamp (by omega)) (pc := 82) dX6_takeNumber_82 (by rw [n3k hn hk]; exact vpi (by show _ < 21; omega) (by decide)) ?_
        refine Bd_icmp_le (t := 98) (pc := 83) dX6_takeNumber_83 (by decide) (fun b83 => ?_) (fun b83 => ?_)
        · refine Bd_aload_0 (pc := 98) dX6_takeNumber_98 ?_
          refine Bd_getR (j := 0) ck6 (pc := 99) dX6_takeNumber_99 k_62 rfl (Nat.le_of_ble_eq_true rfl) rfl ?_
          refine Bd_iload_4 (pc := 102) dX6_takeNumber_102 ?_
          refine Bd_aload_1 (pc := 104) dX6_takeNumber_104 ?_
          refine Bd_getI (j := 5) ck5 (pc := 105) dX6_takeNumber_105 k_41 rfl (Nat.le_of_ble_eq_true rfl) rfl ?_
          refine Bd_iastc (j := k) (nI_clamp (by omega)) (pc := 108) dX6_takeNumber_108 rfl (vpi hk (by omega)) ?_
          refine Bd_iconst (v := 1) (pc := 109) dX6_takeNumber_109 (by decide) ?_
          refine Bd_zret (pc := 110) dX6_takeNumber_110 rfl rfl ?_
          have hl : tnL (rt M) n k = tabL.getD (3 * n + k) 0 := by unfold tnL; rw [if_neg (fun z => b21 ((nI_6 hn).mpr z.1))]
          have yp : tnP (rt M) n k := ⟨by rw [hl]; exact Int32.not_lt.mp b66, b83⟩
          exact PD_i (b2_t ⟨b9, yp⟩) (by rw [tnM, if_pos b9, if_pos yp])
        · refine Bd_aload_0 (pc := 86) dX6_takeNumber_86 ?_
          refine Bd_iconst (v := 3) (pc := 87) dX6_takeNumber_87 (by decide) ?_
          refine Bd_aload_1 (pc := 88) dX6_takeNumber_88 ?_
          refine Bd_getI (j := 4) ck5 (pc := 89) dX6_takeNumber_89 k_38 rfl (Nat.le_of_ble_eq_true rfl) rfl ?_
          refine Bd_callV2i (cd := mX6_refuse) (pc := 92) dX6_takeNumber_92 k_326 v_X6_refuse ⟨(Nat.le_of_ble_eq_true rfl), (Nat.le_of_ble_eq_true rfl)⟩ rfl rfl sem_X6_refuse (Nat.le_of_ble_eq_true rfl) ?_
          refine Bd_pop (pc := 95) dX6_takeNumber_95 rfl ?_
          refine Bd_iconst (v := 0) (pc := 96) dX6_takeNumber_96 (by decide) ?_
          refine Bd_zret (pc := 97) dX6_takeNumber_97 rfl rfl ?_
          have hl : tnL (rt M) n k = tabL.getD (3 * n + k) 0 := by unfold tnL; rw [if_neg (fun z => b21 ((nI_6 hn).mpr z.1))]
          have np : ¬ tnP (rt M) n k := fun z => b83 z.2
          exact PD_i (b2_f (fun z => np z.2)) (by rw [tnM, if_pos b9, if_neg np])
    · refine Bd_iload_4 (pc := 24) dX6_takeNumber_24 ?_
      refine Bd_if_ne (t := 33) (pc := 26) dX6_takeNumber_26 (by decide) (fun b26 => ?_) (fun b26 => ?_)
      · refine Bd_iconst (v := 0) (pc := 33) dX6_takeNumber_33 (by decide) ?_
        refine Bd_istore_5 (pc := 34) dX6_takeNumber_34 (Nat.le_of_ble_eq_true rfl) rfl ?_
        refine Bd_iload_5 (pc := 36) dX6_takeNumber_36 ?_
        refine Bd_if_eq (t := 48) (pc := 38) dX6_takeNumber_38 (by decide) (fun b38 => ?_) (fun b38 => (show False from absurd rfl b38).elim)
        refine Bd_gets (v := .ref 121) (fun s S => S.2.2.2.2.2.2.2.1.1) k_416 (pc := 48) dX6_takeNumber_48 ?_
        refine Bd_iconst (v := 3) (pc := 51) dX6_takeNumber_51 (by decide) ?_
        refine Bd_iload_3 (pc := 52) dX6_takeNumber_52 ?_
        refine Bd_imul (pc := 53) dX6_takeNumber_53 ?_
        refine Bd_iload_4 (pc := 54) dX6_takeNumber_54 ?_
        refine Bd_iadd (pc := 56) dX6_takeNumber_56 ?_
        refine Bd_tald (t := tabL) (j := 3 * n + k) (fun s S => S.2.2.2.2.2.2.2.1.2) (by rw [n3k hn hk]; exact nI_clamp (by omega)) (pc := 57) dX6_takeNumber_57 (by rw [n3k hn hk]; exact vpi (by show _ < 21; omega) (by decide)) ?_
        refine Bd_istore_6 (pc := 58) dX6_takeNumber_58 (Nat.le_of_ble_eq_true rfl) rfl ?_
        refine Bd_aload_1 (pc := 60) dX6_takeNumber_60 ?_
        refine Bd_getI (j := 5) ck5 (pc := 61) dX6_takeNumber_61 k_41 rfl (Nat.le_of_ble_eq_true rfl) rfl ?_
        refine Bd_iload_6 (pc := 64) dX6_takeNumber_64 ?_
        refine Bd_icmp_lt (t := 86) (pc := 66) dX6_takeNumber_66 (by decide) (fun b66 => ?_) (fun b66 => ?_)
        · refine Bd_aload_0 (pc := 86) dX6_takeNumber_86 ?_
          refine Bd_iconst (v := 3) (pc := 87) dX6_takeNumber_87 (by decide) ?_
          refine Bd_aload_1 (pc := 88) dX6_takeNumber_88 ?_
          refine Bd_getI (j := 4) ck5 (pc := 89) dX6_takeNumber_89 k_38 rfl (Nat.le_of_ble_eq_true rfl) rfl ?_
          refine Bd_callV2i (cd := mX6_refuse) (pc := 92) dX6_takeNumber_92 k_326 v_X6_refuse ⟨(Nat.le_of_ble_eq_true rfl), (Nat.le_of_ble_eq_true rfl)⟩ rfl rfl sem_X6_refuse (Nat.le_of_ble_eq_true rfl) ?_
          refine Bd_pop (pc := 95) dX6_takeNumber_95 rfl ?_
          refine Bd_iconst (v := 0) (pc := 96) dX6_takeNumber_96 (by decide) ?_
          refine Bd_zret (pc := 97) dX6_takeNumber_97 rfl rfl ?_
          have hl : tnL (rt M) n k = tabL.getD (3 * n + k) 0 := by unfold tnL; rw [if_neg (fun z => b26 ((nI_z (by omega)).mpr z.2))]
          have np : ¬ tnP (rt M) n k := fun z => Int32.not_lt.mpr (hl ▸ z.1) b66
          exact PD_i (b2_f (fun z => np z.2)) (by rw [tnM, if_pos b9, if_neg np])
        · refine Bd_aload_1 (pc := 69) dX6_takeNumber_69 ?_
          refine Bd_getI (j := 5) ck5 (pc := 70) dX6_takeNumber_70 k_41 rfl (Nat.le_of_ble_eq_true rfl) rfl ?_
          refine Bd_gets (v := .ref 122) (fun s S => S.2.2.2.2.2.2.2.2.1) k_418 (pc := 73) dX6_takeNumber_73 ?_
          refine Bd_iconst (v := 3) (pc := 76) dX6_takeNumber_76 (by decide) ?_
          refine Bd_iload_3 (pc := 77) dX6_takeNumber_77 ?_
          refine Bd_imul (pc := 78) dX6_takeNumber_78 ?_
          refine Bd_iload_4 (pc := 79) dX6_takeNumber_79 ?_
          refine Bd_iadd (pc := 81) dX6_takeNumber_81 ?_
          refine Bd_tald (t := tabG) (j := 3 * n + k) (fun s S => S.2.2.2.2.2.2.2.2.2) (by rw [n3k hn hk]; exact nI_clamp (by omega)) (pc := 82) dX6_takeNumber_82 (by rw [n3k hn hk]; exact vpi (by show _ < 21; omega) (by decide)) ?_
          refine Bd_icmp_le (t := 98) (pc := 83) dX6_takeNumber_83 (by decide) (fun b83 => ?_) (fun b83 => ?_)
          · refine Bd_aload_0 (pc := 98) dX6_takeNumber_98 ?_
            refine Bd_getR (j := 0) ck6 (pc := 99) dX6_takeNumber_99 k_62 rfl (Nat.le_of_ble_eq_true rfl) rfl ?_
            refine Bd_iload_4 (pc := 102) dX6_takeNumber_102 ?_
            refine Bd_aload_1 (pc := 104) dX6_takeNumber_104 ?_
            refine Bd_getI (j := 5) ck5 (pc := 105) dX6_takeNumber_105 k_41 rfl (Nat.le_of_ble_eq_true rfl) rfl ?_
            refine Bd_iastc (j := k) (nI_clamp (by omega)) (pc := 108) dX6_takeNumber_108 rfl (vpi hk (by omega)) ?_
            refine Bd_iconst (v := 1) (pc := 109) dX6_takeNumber_109 (by decide) ?_
            refine Bd_zret (pc := 110) dX6_takeNumber_110 rfl rfl ?_
            have hl : tnL (rt M) n k = tabL.getD (3 * n + k) 0 := by unfold tnL; rw [if_neg (fun z => b26 ((nI_z (by omega)).mpr z.2))]
            have yp : tnP (rt M) n k := ⟨by rw [hl]; exact Int32.not_lt.mp b66, b83⟩
            exact PD_i (b2_t ⟨b9, yp⟩) (by rw [tnM, if_pos b9, if_pos yp])
          · refine Bd_aload_0 (pc := 86) dX6_takeNumber_86 ?_
            refine Bd_iconst (v := 3) (pc := 87) dX6_takeNumber_87 (by decide) ?_
            refine Bd_aload_1 (pc := 88) dX6_takeNumber_88 ?_
            refine Bd_getI (j := 4) ck5 (pc := 89) dX6_takeNumber_89 k_38 rfl (Nat.le_of_ble_eq_true rfl) rfl ?_
            refine Bd_callV2i (cd := mX6_refuse) (pc := 92) dX6_takeNumber_92 k_326 v_X6_refuse ⟨(Nat.le_of_ble_eq_true rfl), (Nat.le_of_ble_eq_true rfl)⟩ rfl rfl sem_X6_refuse (Nat.le_of_ble_eq_true rfl) ?_
            refine Bd_pop (pc := 95) dX6_takeNumber_95 rfl ?_
            refine Bd_iconst (v := 0) (pc := 96) dX6_takeNumber_96 (by decide) ?_
            refine Bd_zret (pc := 97) dX6_takeNumber_97 rfl rfl ?_
            have hl : tnL (rt M) n k = tabL.getD (3 * n + k) 0 := by unfold tnL; rw [if_neg (fun z => b26 ((nI_z (by omega)).mpr z.2))]
            have np : ¬ tnP (rt M) n k := fun z => b83 z.2
            exact PD_i (b2_f (fun z => np z.2)) (by rw [tnM, if_pos b9, if_neg np])
      · refine Bd_iconst (v := 1) (pc := 29) dX6_takeNumber_29 (by decide) ?_
        refine Bd_goto (t := 34) (pc := 30) dX6_takeNumber_30 (by decide) ?_
        refine Bd_istore_5 (pc := 34) dX6_takeNumber_34 (Nat.le_of_ble_eq_true rfl) rfl ?_
        refine Bd_iload_5 (pc := 36) dX6_takeNumber_36 ?_
        refine Bd_if_eq (t := 48) (pc := 38) dX6_takeNumber_38 (by decide) (fun b38 => (show False from absurd b38 (by decide)).elim) (fun b38 => ?_)
        refine Bd_aload_2 (pc := 41) dX6_takeNumber_41 ?_
        refine Bd_callV0i (cd := mX3_latestBeat) (pc := 42) dX6_takeNumber_42 k_412 v_X3_latestBeat ⟨(Nat.le_of_ble_eq_true rfl), (Nat.le_of_ble_eq_true rfl)⟩ rfl rfl (sem_X3_latest hD2.1 hD2.2) (Nat.le_of_ble_eq_true rfl) ?_
        refine Bd_goto (t := 58) (pc := 45) dX6_takeNumber_45 (by decide) ?_
        refine Bd_istore_6 (pc := 58) dX6_takeNumber_58 (Nat.le_of_ble_eq_true rfl) rfl ?_
        refine Bd_aload_1 (pc := 60) dX6_takeNumber_60 ?_
        refine Bd_getI (j := 5) ck5 (pc := 61) dX6_takeNumber_61 k_41 rfl (Nat.le_of_ble_eq_true rfl) rfl ?_
        refine Bd_iload_6 (pc := 64) dX6_takeNumber_64 ?_
        refine Bd_icmp_lt (t := 86) (pc := 66) dX6_takeNumber_66 (by decide) (fun b66 => ?_) (fun b66 => ?_)
        · refine Bd_aload_0 (pc := 86) dX6_takeNumber_86 ?_
          refine Bd_iconst (v := 3) (pc := 87) dX6_takeNumber_87 (by decide) ?_
          refine Bd_aload_1 (pc := 88) dX6_takeNumber_88 ?_
          refine Bd_getI (j := 4) ck5 (pc := 89) dX6_takeNumber_89 k_38 rfl (Nat.le_of_ble_eq_true rfl) rfl ?_
          refine Bd_callV2i (cd := mX6_refuse) (pc := 92) dX6_takeNumber_92 k_326 v_X6_refuse ⟨(Nat.le_of_ble_eq_true rfl), (Nat.le_of_ble_eq_true rfl)⟩ rfl rfl sem_X6_refuse (Nat.le_of_ble_eq_true rfl) ?_
          refine Bd_pop (pc := 95) dX6_takeNumber_95 rfl ?_
          refine Bd_iconst (v := 0) (pc := 96) dX6_takeNumber_96 (by decide) ?_
          refine Bd_zret (pc := 97) dX6_takeNumber_97 rfl rfl ?_
          have hl : tnL (rt M) n k = lbF (rt M) (cn (rt M 51 8)) := by unfold tnL; rw [if_pos ⟨(nI_6 hn).mp b21, (nI_z (by omega)).mp b26⟩]
          have np : ¬ tnP (rt M) n k := fun z => Int32.not_lt.mpr (hl ▸ z.1) b66
          exact PD_i (b2_f (fun z => np z.2)) (by rw [tnM, if_pos b9, if_neg np])
        · refine Bd_aload_1 (pc := 69) dX6_takeNumber_69 ?_
          refine Bd_getI (j := 5) ck5 (pc := 70) dX6_takeNumber_70 k_41 rfl (Nat.le_of_ble_eq_true rfl) rfl ?_
          refine Bd_gets (v := .ref 122) (fun s S => S.2.2.2.2.2.2.2.2.1) k_418 (pc := 73) dX6_takeNumber_73 ?_
          refine Bd_iconst (v := 3) (pc := 76) dX6_takeNumber_76 (by decide) ?_
          refine Bd_iload_3 (pc := 77) dX6_takeNumber_77 ?_
          refine Bd_imul (pc := 78) dX6_takeNumber_78 ?_
          refine Bd_iload_4 (pc := 79) dX6_takeNumber_79 ?_
          refine Bd_iadd (pc := 81) dX6_takeNumber_81 ?_
          refine Bd_tald (t := tabG) (j := 3 * n + k) (fun s S => S.2.2.2.2.2.2.2.2.2) (by rw [n3k hn hk]; exact nI_clamp (by omega)) (pc := 82) dX6_takeNumber_82 (by rw [n3k hn hk]; exact vpi (by show _ < 21; omega) (by decide)) ?_
          refine Bd_icmp_le (t := 98) (pc := 83) dX6_takeNumber_83 (by decide) (fun b83 => ?_) (fun b83 => ?_)
          · refine Bd_aload_0 (pc := 98) dX6_takeNumber_98 ?_
            refine Bd_getR (j := 0) ck6 (pc := 99) dX6_takeNumber_99 k_62 rfl (Nat.le_of_ble_eq_true rfl) rfl ?_
            refine Bd_iload_4 (pc := 102) dX6_takeNumber_102 ?_
            refine Bd_aload_1 (pc := 104) dX6_takeNumber_104 ?_
            refine Bd_getI (j := 5) ck5 (pc := 105) dX6_takeNumber_105 k_41 rfl (Nat.le_of_ble_eq_true rfl) rfl ?_
            refine Bd_iastc (j := k) (nI_clamp (by omega)) (pc := 108) dX6_takeNumber_108 rfl (vpi hk (by omega)) ?_
            refine Bd_iconst (v := 1) (pc := 109) dX6_takeNumber_109 (by decide) ?_
            refine Bd_zret (pc := 110) dX6_takeNumber_110 rfl rfl ?_
            have hl : tnL (rt M) n k = lbF (rt M) (cn (rt M 51 8)) := by unfold tnL; rw [if_pos ⟨(nI_6 hn).mp b21, (nI_z (by omega)).mp b26⟩]
            have yp : tnP (rt M) n k := ⟨by rw [hl]; exact Int32.not_lt.mp b66, b83⟩
            exact PD_i (b2_t ⟨b9, yp⟩) (by rw [tnM, if_pos b9, if_pos yp])
          · refine Bd_aload_0 (pc := 86) dX6_takeNumber_86 ?_
            refine Bd_iconst (v := 3) (pc := 87) dX6_takeNumber_87 (by decide) ?_
            refine Bd_aload_1 (pc := 88) dX6_takeNumber_88 ?_
            refine Bd_getI (j := 4) ck5 (pc := 89) dX6_takeNumber_89 k_38 rfl (Nat.le_of_ble_eq_true rfl) rfl ?_
            refine Bd_callV2i (cd := mX6_refuse) (pc := 92) dX6_takeNumber_92 k_326 v_X6_refuse ⟨(Nat.le_of_ble_eq_true rfl), (Nat.le_of_ble_eq_true rfl)⟩ rfl rfl sem_X6_refuse (Nat.le_of_ble_eq_true rfl) ?_
            refine Bd_pop (pc := 95) dX6_takeNumber_95 rfl ?_
            refine Bd_iconst (v := 0) (pc := 96) dX6_takeNumber_96 (by decide) ?_
            refine Bd_zret (pc := 97) dX6_takeNumber_97 rfl rfl ?_
            have hl : tnL (rt M) n k = lbF (rt M) (cn (rt M 51 8)) := by unfold tnL; rw [if_pos ⟨(nI_6 hn).mp b21, (nI_z (by omega)).mp b26⟩]
            have np : ¬ tnP (rt M) n k := fun z => b83 z.2
            exact PD_i (b2_f (fun z => np z.2)) (by rw [tnM, if_pos b9, if_neg np])
  · refine Bd_aload_0 (pc := 12) dX6_takeNumber_12 ?_
    refine Bd_aload_1 (pc := 13) dX6_takeNumber_13 ?_
    refine Bd_callV1i (cd := mX6_misplaced) (pc := 14) dX6_takeNumber_14 k_399 v_X6_misplaced ⟨(Nat.le_of_ble_eq_true rfl), (Nat.le_of_ble_eq_true rfl)⟩ rfl rfl sem_X6_misplaced (Nat.le_of_ble_eq_true rfl) ?_
    refine Bd_zret (pc := 17) dX6_takeNumber_17 rfl rfl ?_
    exact PD_i (b2_f (fun z => b9 z.1)) (by rw [tnM, if_neg b9])
set_option maxRecDepth 100000 in
set_option maxHeartbeats 4000000 in
theorem sem_X6_write {M : Mem} {n : Nat} (hn : n < 7) (hD : DI M) (hf4 : n = 4 → cn (M 51 6) < 6) (hf5 : n = 5 → cn (M 51 7) < 3) (hf6 : n = 6 → cn (M 51 8) < 12) : Sem mX6_write SH [.ref 3, .ref 51, .int (nI n)] M (PD SH none (wrM M n)) := by
  refine Sem_of rfl (fun G => (Nat.le_of_ble_eq_true rfl)) (fun G => ?_)
  match n, hn with
  | 0, hn =>
    refine Bd_iload_2 (pc := 0) dX6_write_0 ?_
    refine Bd_swIn (t := 40) (pc := 1) dX6_write_1 (by decide) (by decide) rfl (by decide) ?_
    refine Bd_aload_1 (pc := 40) dX6_write_40 ?_
    refine Bd_getR (j := 0) ck3 (pc := 41) dX6_write_41 k_150 rfl (Nat.le_of_ble_eq_true rfl) rfl ?_
    refine Bd_iconst (v := 0) (pc := 44) dX6_write_44 (by decide) ?_
    refine Bd_aload_0 (pc := 45) dX6_write_45 ?_
    refine Bd_getR (j := 0) ck6 (pc := 46) dX6_write_46 k_62 rfl (Nat.le_of_ble_eq_true rfl) rfl ?_
    refine Bd_iconst (v := 0) (pc := 49) dX6_write_49 (by decide) ?_
    refine Bd_ialdc (j := 0) rfl (pc := 50) dX6_write_50 rfl (by unfold vp_in; decide) ?_
    refine Bd_iastc (j := 0) rfl (pc := 51) dX6_write_51 rfl (by unfold vp_in; decide) ?_
    refine Bd_aload_1 (pc := 52) dX6_write_52 ?_
    refine Bd_getR (j := 0) ck3 (pc := 53) dX6_write_53 k_150 rfl (Nat.le_of_ble_eq_true rfl) rfl ?_
    refine Bd_iconst (v := 1) (pc := 56) dX6_write_56 (by decide) ?_
    refine Bd_aload_0 (pc := 57) dX6_write_57 ?_
    refine Bd_getR (j := 0) ck6 (pc := 58) dX6_write_58 k_62 rfl (Nat.le_of_ble_eq_true rfl) rfl ?_
    refine Bd_iconst (v := 1) (pc := 61) dX6_write_61 (by decide) ?_
    refine Bd_ialdc (j := 1) rfl (pc := 62) dX6_write_62 rfl (by unfold vp_in; decide) ?_
    refine Bd_iastc (j := 1) rfl (pc := 63) dX6_write_63 rfl (by unfold vp_in; decide) ?_
    refine Bd_goto (t := 184) (pc := 64) dX6_write_64 (by decide) ?_
    refine Bd_vret (pc := 184) dX6_write_184 rfl ?_
    exact PD_v rfl
  | 1, hn =>
    refine Bd_iload_2 (pc := 0) dX6_write_0 ?_
    refine Bd_swIn (t := 67) (pc := 1) dX6_write_1 (by decide) (by decide) rfl (by decide) ?_
    refine Bd_aload_1 (pc := 67) dX6_write_67 ?_
    refine Bd_getR (j := 0) ck3 (pc := 68) dX6_write_68 k_150 rfl (Nat.le_of_ble_eq_true rfl) rfl ?_
    refine Bd_iconst (v := 2) (pc := 71) dX6_write_71 (by decide) ?_
    refine Bd_aload_0 (pc := 72) dX6_write_72 ?_
    refine Bd_getR (j := 0) ck6 (pc := 73) dX6_write_73 k_62 rfl (Nat.le_of_ble_eq_true rfl) rfl ?_
    refine Bd_iconst (v := 0) (pc := 76) dX6_write_76 (by decide) ?_
    refine Bd_ialdc (j := 0) rfl (pc := 77) dX6_write_77 rfl (by unfold vp_in; decide) ?_
    refine Bd_iastc (j := 2) rfl (pc := 78) dX6_write_78 rfl (by unfold vp_in; decide) ?_
    refine Bd_goto (t := 184) (pc := 79) dX6_write_79 (by decide) ?_
    refine Bd_vret (pc := 184) dX6_write_184 rfl ?_
    exact PD_v rfl
  | 2, hn =>
    refine Bd_iload_2 (pc := 0) dX6_write_0 ?_
    refine Bd_swIn (t := 82) (pc := 1) dX6_write_1 (by decide) (by decide) rfl (by decide) ?_
    refine Bd_aload_1 (pc := 82) dX6_write_82 ?_
    refine Bd_getR (j := 0) ck3 (pc := 83) dX6_write_83 k_150 rfl (Nat.le_of_ble_eq_true rfl) rfl ?_
    refine Bd_iconst (v := 3) (pc := 86) dX6_write_86 (by decide) ?_
    refine Bd_aload_0 (pc := 87) dX6_write_87 ?_
    refine Bd_getR (j := 0) ck6 (pc := 88) dX6_write_88 k_62 rfl (Nat.le_of_ble_eq_true rfl) rfl ?_
    refine Bd_iconst (v := 0) (pc := 91) dX6_write_91 (by decide) ?_
    refine Bd_ialdc (j := 0) rfl (pc := 92) dX6_write_92 rfl (by unfold vp_in; decide) ?_
    refine Bd_iastc (j := 3) rfl (pc := 93) dX6_write_93 rfl (by unfold vp_in; decide) ?_
    refine Bd_goto (t := 184) (pc := 94) dX6_write_94 (by decide) ?_
    refine Bd_vret (pc := 184) dX6_write_184 rfl ?_
    exact PD_v rfl
  | 3, hn =>
    refine Bd_iload_2 (pc := 0) dX6_write_0 ?_
    refine Bd_swIn (t := 97) (pc := 1) dX6_write_1 (by decide) (by decide) rfl (by decide) ?_
    refine Bd_aload_1 (pc := 97) dX6_write_97 ?_
    refine Bd_getR (j := 0) ck3 (pc := 98) dX6_write_98 k_150 rfl (Nat.le_of_ble_eq_true rfl) rfl ?_
    refine Bd_iconst (v := 4) (pc := 101) dX6_write_101 (by decide) ?_
    refine Bd_aload_0 (pc := 102) dX6_write_102 ?_
    refine Bd_getR (j := 0) ck6 (pc := 103) dX6_write_103 k_62 rfl (Nat.le_of_ble_eq_true rfl) rfl ?_
    refine Bd_iconst (v := 0) (pc := 106) dX6_write_106 (by decide) ?_
    refine Bd_ialdc (j := 0) rfl (pc := 107) dX6_write_107 rfl (by unfold vp_in; decide) ?_
    refine Bd_iastc (j := 4) rfl (pc := 108) dX6_write_108 rfl (by unfold vp_in; decide) ?_
    refine Bd_aload_1 (pc := 109) dX6_write_109 ?_
    refine Bd_getR (j := 0) ck3 (pc := 110) dX6_write_110 k_150 rfl (Nat.le_of_ble_eq_true rfl) rfl ?_
    refine Bd_iconst (v := 5) (pc := 113) dX6_write_113 (by decide) ?_
    refine Bd_aload_0 (pc := 114) dX6_write_114 ?_
    refine Bd_getR (j := 0) ck6 (pc := 115) dX6_write_115 k_62 rfl (Nat.le_of_ble_eq_true rfl) rfl ?_
    refine Bd_iconst (v := 1) (pc := 118) dX6_write_118 (by decide) ?_
    refine Bd_ialdc (j := 1) rfl (pc := 119) dX6_write_119 rfl (by unfold vp_in; decide) ?_
    refine Bd_iastc (j := 5) rfl (pc := 120) dX6_write_120 rfl (by unfold vp_in; decide) ?_
    refine Bd_goto (t := 184) (pc := 121) dX6_write_121 (by decide) ?_
    refine Bd_vret (pc := 184) dX6_write_184 rfl ?_
    exact PD_v rfl
  | 4, hn =>
    refine Bd_iload_2 (pc := 0) dX6_write_0 ?_
    refine Bd_swIn (t := 124) (pc := 1) dX6_write_1 (by decide) (by decide) rfl (by decide) ?_
    refine Bd_aload_1 (pc := 124) dX6_write_124 ?_
    refine Bd_aload_0 (pc := 125) dX6_write_125 ?_
    refine Bd_getR (j := 0) ck6 (pc := 126) dX6_write_126 k_62 rfl (Nat.le_of_ble_eq_true rfl) rfl ?_
    refine Bd_iconst (v := 0) (pc := 129) dX6_write_129 (by decide) ?_
    refine Bd_ialdc (j := 0) rfl (pc := 130) dX6_write_130 rfl (by unfold vp_in; decide) ?_
    refine Bd_aload_0 (pc := 131) dX6_write_131 ?_
    refine Bd_getR (j := 0) ck6 (pc := 132) dX6_write_132 k_62 rfl (Nat.le_of_ble_eq_true rfl) rfl ?_
    refine Bd_iconst (v := 1) (pc := 135) dX6_write_135 (by decide) ?_
    refine Bd_ialdc (j := 1) rfl (pc := 136) dX6_write_136 rfl (by unfold vp_in; decide) ?_
    refine Bd_aload_0 (pc := 137) dX6_write_137 ?_
    refine Bd_getR (j := 0) ck6 (pc := 138) dX6_write_138 k_62 rfl (Nat.le_of_ble_eq_true rfl) rfl ?_
    refine Bd_iconst (v := 2) (pc := 141) dX6_write_141 (by decide) ?_
    refine Bd_ialdc (j := 2) rfl (pc := 142) dX6_write_142 rfl (by unfold vp_in; decide) ?_
    refine Bd_callV3v (cd := mX3_addTower) (pc := 143) dX6_write_143 k_424 v_X3_addTower ⟨(Nat.le_of_ble_eq_true rfl), (Nat.le_of_ble_eq_true rfl)⟩ rfl rfl (sem_X3_addTower hD.1.1 (hf4 rfl)) (Nat.le_of_ble_eq_true rfl) ?_
    refine Bd_goto (t := 184) (pc := 146) dX6_write_146 (by decide) ?_
    refine Bd_vret (pc := 184) dX6_write_184 rfl ?_
    exact PD_v rfl
  | 5, hn =>
    refine Bd_iload_2 (pc := 0) dX6_write_0 ?_
    refine Bd_swIn (t := 149) (pc := 1) dX6_write_1 (by decide) (by decide) rfl (by decide) ?_
    refine Bd_aload_1 (pc := 149) dX6_write_149 ?_
    refine Bd_aload_0 (pc := 150) dX6_write_150 ?_
    refine Bd_getR (j := 0) ck6 (pc := 151) dX6_write_151 k_62 rfl (Nat.le_of_ble_eq_true rfl) rfl ?_
    refine Bd_iconst (v := 0) (pc := 154) dX6_write_154 (by decide) ?_
    refine Bd_ialdc (j := 0) rfl (pc := 155) dX6_write_155 rfl (by unfold vp_in; decide) ?_
    refine Bd_aload_0 (pc := 156) dX6_write_156 ?_
    refine Bd_getR (j := 0) ck6 (pc := 157) dX6_write_157 k_62 rfl (Nat.le_of_ble_eq_true rfl) rfl ?_
    refine Bd_iconst (v := 1) (pc := 160) dX6_write_160 (by decide) ?_
    refine Bd_ialdc (j := 1) rfl (pc := 161) dX6_write_161 rfl (by unfold vp_in; decide) ?_
    refine Bd_callV2v (cd := mX3_addHill) (pc := 162) dX6_write_162 k_428 v_X3_addHill ⟨(Nat.le_of_ble_eq_true rfl), (Nat.le_of_ble_eq_true rfl)⟩ rfl rfl (sem_X3_addHill hD.2.1.1 (hf5 rfl)) (Nat.le_of_ble_eq_true rfl) ?_
    refine Bd_goto (t := 184) (pc := 165) dX6_write_165 (by decide) ?_
    refine Bd_vret (pc := 184) dX6_write_184 rfl ?_
    exact PD_v rfl
  | 6, hn =>
    refine Bd_iload_2 (pc := 0) dX6_write_0 ?_
    refine Bd_swOut (t := 168) (pc := 1) dX6_write_1 (by decide) (by decide) ?_
    refine Bd_aload_1 (pc := 168) dX6_write_168 ?_
    refine Bd_aload_0 (pc := 169) dX6_write_169 ?_
    refine Bd_getR (j := 0) ck6 (pc := 170) dX6_write_170 k_62 rfl (Nat.le_of_ble_eq_true rfl) rfl ?_
    refine Bd_iconst (v := 0) (pc := 173) dX6_write_173 (by decide) ?_
    refine Bd_ialdc (j := 0) rfl (pc := 174) dX6_write_174 rfl (by unfold vp_in; decide) ?_
    refine Bd_aload_0 (pc := 175) dX6_write_175 ?_
    refine Bd_getR (j := 0) ck6 (pc := 176) dX6_write_176 k_62 rfl (Nat.le_of_ble_eq_true rfl) rfl ?_
    refine Bd_iconst (v := 1) (pc := 179) dX6_write_179 (by decide) ?_
    refine Bd_ialdc (j := 1) rfl (pc := 180) dX6_write_180 rfl (by unfold vp_in; decide) ?_
    refine Bd_callV2v (cd := mX3_addNote) (pc := 181) dX6_write_181 k_432 v_X3_addNote ⟨(Nat.le_of_ble_eq_true rfl), (Nat.le_of_ble_eq_true rfl)⟩ rfl rfl (sem_X3_addNote hD.2.2.1 (hf6 rfl)) (Nat.le_of_ble_eq_true rfl) ?_
    refine Bd_vret (pc := 184) dX6_write_184 rfl ?_
    exact PD_v rfl
