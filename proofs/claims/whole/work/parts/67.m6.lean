/-! 67: men of the reference -/
set_option maxRecDepth 100000 in
set_option maxHeartbeats 4000000 in
theorem sem_X8_men {C M : Mem} (h : RF C M)  : Sem mX8_men SH [.ref 58] M (RI SH (fun r N => r = menV C ∧ RP (C) M N)) := by
  refine Sem_of rfl (fun G => (Nat.le_of_ble_eq_true rfl)) (fun G => ?_)
  refine Bd_aload_0 (pc := 0) dX8_men_0 ?_
  refine Bd_callV0i (cd := mX8_blows) (pc := 1) dX8_men_1 k_996 v_X8_blows ⟨(Nat.le_of_ble_eq_true rfl), (Nat.le_of_ble_eq_true rfl)⟩ rfl rfl (sem_X8_blows h) (Nat.le_of_ble_eq_true rfl) ?_
  refine Bd_istore_1 (pc := 4) dX8_men_4 (Nat.le_of_ble_eq_true rfl) rfl ?_
  refine Bd_iconst (v := 0) (pc := 5) dX8_men_5 (by decide) ?_
  refine Bd_istore_2 (pc := 6) dX8_men_6 (Nat.le_of_ble_eq_true rfl) rfl ?_
  refine Bd_nx (Bd_wh (pc := 7) (σ := Nat × Mem) (fun x => x.1 ≤ 24 ∧ (∀ q, q ≠ 71 → q ≠ 72 → x.2 q = M q) ∧ ∀ j, j < x.1 → x.2 72 j = -4 ∧ x.2 71 j = -4) (fun x => 24 - x.1) (fun x => [some (.ref 58), some (.int (C 5 4)), some (.int (nI x.1)), none]) (fun x => x.2) (fun x hx ih => ?_) (0, M) ⟨Nat.zero_le _, fun _ _ _ => rfl, fun j hj => absurd hj (Nat.not_lt_zero j)⟩) ⟨rfl, rfl, rfl, trivial⟩
  obtain ⟨i, N0⟩ := x
  obtain ⟨hi, hy⟩ := hx
  have hi : i ≤ 24 := hi
  have hy : (∀ q, q ≠ 71 → q ≠ 72 → N0 q = M q) ∧ ∀ j, j < i → N0 72 j = -4 ∧ N0 71 j = -4 := hy
  show Bd mX8_men G _ SH 7 [some (.ref 58), some (.int (C 5 4)), some (.int (nI i)), none] [] N0
  rcases Nat.lt_or_ge i 24 with hi | hi2
  · refine Bd_iload_2 (pc := 7) dX8_men_7 ?_
    refine Bd_bipush (v := 24) (pc := 8) dX8_men_8 (by decide) ?_
    refine Bd_icmp_ge (t := 35) (pc := 10) dX8_men_10 (by decide) (fun b10 => (show False from lf_s (rfl : (24 : Int32) = nI 24) (by decide) hi b10).elim) (fun b10 => ?_)
    refine Bd_aload_0 (pc := 13) dX8_men_13 ?_
    refine Bd_getR (j := 29) ck8 (pc := 14) dX8_men_14 k_815 rfl (Nat.le_of_ble_eq_true rfl) rfl ?_
    refine Bd_iload_2 (pc := 17) dX8_men_17 ?_
    refine Bd_bipush (v := -4) (pc := 18) dX8_men_18 (by decide) ?_
    refine Bd_iastc (j := i) (nI_clamp (by omega)) (pc := 20) dX8_men_20 rfl (vpi (by omega) (by omega)) ?_
    refine Bd_aload_0 (pc := 21) dX8_men_21 ?_
    refine Bd_getR (j := 30) ck8 (pc := 22) dX8_men_22 k_816 rfl (Nat.le_of_ble_eq_true rfl) rfl ?_
    refine Bd_iload_2 (pc := 25) dX8_men_25 ?_
    refine Bd_bipush (v := -4) (pc := 26) dX8_men_26 (by decide) ?_
    refine Bd_iastc (j := i) (nI_clamp (by omega)) (pc := 28) dX8_men_28 rfl (vpi (by omega) (by omega)) ?_
    refine Bd_iinc_2 (pc := 29) dX8_men_29 (show _ + Int32.ofInt 1 = _ + 1 from rfl) (Nat.le_of_ble_eq_true rfl) rfl ?_
    refine Bd_goto (t := 7) (pc := 32) dX8_men_32 (by decide) ?_
    exact Bd_nx (ih (i + 1, updM (updM N0 71 i (-4)) 72 i (-4)) ⟨hi, fun q q1 q2 => (updM_ne q2).trans ((updM_ne q1).trans (hy.1 q q1 q2)), fun j hj => (show updM (updM N0 71 i (-4)) 72 i (-4) 72 j = -4 ∧ updM (updM N0 71 i (-4)) 72 i (-4) 71 j = -4 from by
        rw [updM_eq, updM_ne (by decide), updM_ne (by decide), updM_eq]
        by_cases z : j = i
        · rw [z, upd_eq, upd_eq]; exact ⟨rfl, rfl⟩
        · rw [upd_ne z, upd_ne z]; exact hy.2 j (by have : j < i + 1 := hj; omega))⟩ (by show 24 - (i + 1) < 24 - i; omega)) ⟨rfl, rfl, congrArg (fun x => some (Value.int x)) (nI_succ i).symm, trivial⟩
  · have em : i = 24 := by omega
    subst em
    refine Bd_iload_2 (pc := 7) dX8_men_7 ?_
    refine Bd_bipush (v := 24) (pc := 8) dX8_men_8 (by decide) ?_
    refine Bd_icmp_ge (t := 35) (pc := 10) dX8_men_10 (by decide) (fun b10 => ?_) (fun b10 => (show False from lf_x (rfl : (24 : Int32) = nI 24) b10).elim)
    refine Bd_iload_1 (pc := 35) dX8_men_35 ?_
    refine Bd_istore_2 (pc := 36) dX8_men_36 (Nat.le_of_ble_eq_true rfl) rfl ?_
    refine Bd_iconst (v := 0) (pc := 37) dX8_men_37 (by decide) ?_
    refine Bd_istore_3 (pc := 38) dX8_men_38 (Nat.le_of_ble_eq_true rfl) rfl ?_
    exact Bd_nx (bd_men h rfl rfl hy) ⟨rfl, rfl, rfl, rfl, trivial⟩
