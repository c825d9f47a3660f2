/-! 69: land: the draft stands on cells; its latest beat -/
abbrev dsA (M : Mem) (r n : Nat) : Prop := ∀ t, t < n → hcF M 52 (M r t)
abbrev dsP (M : Mem) : Prop := dsA M 53 (cn (M 51 6)) ∧ dsA M 55 (cn (M 51 7))
theorem dsA_s {M : Mem} {r n : Nat} (h : dsA M r n) (h2 : hcF M 52 (M r n)) : dsA M r (n + 1) := fun t ht => by
  rcases Nat.lt_succ_iff_lt_or_eq.mp ht with q | q
  · exact h t q
  · rw [q]; exact h2
set_option maxRecDepth 100000 in
set_option maxHeartbeats 4000000 in
theorem sem_X3_stands {M : Mem} (h6 : M 51 6 = nI (cn (M 51 6))) (h7 : M 51 7 = nI (cn (M 51 7))) (n6 : cn (M 51 6) ≤ 6) (n7 : cn (M 51 7) ≤ 3) : Sem mX3_standsOnCells SH [.ref 51] M (PD SH (some (.int (b2 (dsP M)))) (M)) := by
  refine Sem_of rfl (fun G => (Nat.le_of_ble_eq_true rfl)) (fun G => ?_)
  refine Bd_iconst (v := 0) (pc := 0) dX3_standsOnCells_0 (by decide) ?_
  refine Bd_istore_1 (pc := 1) dX3_standsOnCells_1 (Nat.le_of_ble_eq_true rfl) rfl ?_
  refine Bd_nx (L' := (fun i => [some (.ref 51), some (.int (nI i))]) 0) ?_ (by repeat (first | exact True.intro | refine And.intro rfl ?_))
  refine Bd_for (pc := 2) (c := (cn (M 51 6))) (fun i => [some (.ref 51), some (.int (nI i))]) (fun _ => M) (fun i => dsA M 53 i) (fun ivi => ?_) (fun i hi ivi ihi => ?_) (fun t ht => absurd ht (Nat.not_lt_zero t))
  · refine Bd_iload_1 (pc := 2) dX3_standsOnCells_2 ?_
    refine Bd_aload_0 (pc := 3) dX3_standsOnCells_3 ?_
    refine Bd_getI (j := 6) ck3 (pc := 4) dX3_standsOnCells_4 k_163 rfl (Nat.le_of_ble_eq_true rfl) rfl ?_
    refine Bd_icmp_ge (t := 31) (pc := 7) dX3_standsOnCells_7 (by decide) (fun b7 => ?_) (fun b7 => (show False from lf_x h6 b7).elim)
    refine Bd_iconst (v := 0) (pc := 31) dX3_standsOnCells_31 (by decide) ?_
    refine Bd_istore_1 (pc := 32) dX3_standsOnCells_32 (Nat.le_of_ble_eq_true rfl) rfl ?_
    have iva := ivi
    refine Bd_nx (L' := (fun i => [some (.ref 51), some (.int (nI i))]) 0) ?_ (by repeat (first | exact True.intro | refine And.intro rfl ?_))
    refine Bd_for (pc := 33) (c := (cn (M 51 7))) (fun i => [some (.ref 51), some (.int (nI i))]) (fun _ => M) (fun i => dsA M 55 i) (fun ivi => ?_) (fun i hi ivi ihi => ?_) (fun t ht => absurd ht (Nat.not_lt_zero t))
    · refine Bd_iload_1 (pc := 33) dX3_standsOnCells_33 ?_
      refine Bd_aload_0 (pc := 34) dX3_standsOnCells_34 ?_
      refine Bd_getI (j := 7) ck3 (pc := 35) dX3_standsOnCells_35 k_166 rfl (Nat.le_of_ble_eq_true rfl) rfl ?_
      refine Bd_icmp_ge (t := 62) (pc := 38) dX3_standsOnCells_38 (by decide) (fun b38 => ?_) (fun b38 => (show False from lf_x h7 b38).elim)
      refine Bd_iconst (v := 1) (pc := 62) dX3_standsOnCells_62 (by decide) ?_
      refine Bd_zret (pc := 63) dX3_standsOnCells_63 rfl rfl ?_
      exact PD_i (b2_t ⟨iva, ivi⟩) rfl
    · refine Bd_iload_1 (pc := 33) dX3_standsOnCells_33 ?_
      refine Bd_aload_0 (pc := 34) dX3_standsOnCells_34 ?_
      refine Bd_getI (j := 7) ck3 (pc := 35) dX3_standsOnCells_35 k_166 rfl (Nat.le_of_ble_eq_true rfl) rfl ?_
      refine Bd_icmp_ge (t := 62) (pc := 38) dX3_standsOnCells_38 (by decide) (fun b38 => (show False from lf_s h7 (by omega) hi b38).elim) (fun b38 => ?_)
      refine Bd_aload_0 (pc := 41) dX3_standsOnCells_41 ?_
      refine Bd_aload_0 (pc := 42) dX3_standsOnCells_42 ?_
      refine Bd_getR (j := 3) ck3 (pc := 43) dX3_standsOnCells_43 k_157 rfl (Nat.le_of_ble_eq_true rfl) rfl ?_
      refine Bd_iload_1 (pc := 46) dX3_standsOnCells_46 ?_
      refine Bd_ialdc (j := i) (nI_clamp (by omega)) (pc := 47) dX3_standsOnCells_47 rfl (vpi (by omega) (by omega)) ?_
      refine Bd_callV1i (cd := mX3_hasCell) (pc := 48) dX3_standsOnCells_48 k_319 v_X3_hasCell ⟨(Nat.le_of_ble_eq_true rfl), (Nat.le_of_ble_eq_true rfl)⟩ rfl rfl sem_X3_hasCelld (Nat.le_of_ble_eq_true rfl) ?_
      refine Bd_if_ne (t := 56) (pc := 51) dX3_standsOnCells_51 (by decide) (fun b51 => ?_) (fun b51 => ?_)
      · refine Bd_iinc_1 (pc := 56) dX3_standsOnCells_56 (show _ + Int32.ofInt 1 = _ + 1 from rfl) (Nat.le_of_ble_eq_true rfl) rfl ?_
        refine Bd_goto (t := 33) (pc := 59) dX3_standsOnCells_59 (by decide) ?_
        exact Bd_nx (ihi (dsA_s ivi (b2_n.mp b51))) ⟨rfl, congrArg (fun x => some (Value.int x)) (nI_succ i).symm, trivial⟩
      · refine Bd_iconst (v := 0) (pc := 54) dX3_standsOnCells_54 (by decide) ?_
        refine Bd_zret (pc := 55) dX3_standsOnCells_55 rfl rfl ?_
        exact PD_i (b2_f (fun z => b2_0.mp b51 (z.2 i hi))) rfl
  · refine Bd_iload_1 (pc := 2) dX3_standsOnCells_2 ?_
    refine Bd_aload_0 (pc := 3) dX3_standsOnCells_3 ?_
    refine Bd_getI (j := 6) ck3 (pc := 4) dX3_standsOnCells_4 k_163 rfl (Nat.le_of_ble_eq_true rfl) rfl ?_
    refine Bd_icmp_ge (t := 31) (pc := 7) dX3_standsOnCells_7 (by decide) (fun b7 => (show False from lf_s h6 (by omega) hi b7).elim) (fun b7 => ?_)
    refine Bd_aload_0 (pc := 10) dX3_standsOnCells_10 ?_
    refine Bd_aload_0 (pc := 11) dX3_standsOnCells_11 ?_
    refine Bd_getR (j := 1) ck3 (pc := 12) dX3_standsOnCells_12 k_151 rfl (Nat.le_of_ble_eq_true rfl) rfl ?_
    refine Bd_iload_1 (pc := 15) dX3_standsOnCells_15 ?_
    refine Bd_ialdc (j := i) (nI_clamp (by omega)) (pc := 16) dX3_standsOnCells_16 rfl (vpi (by omega) (by omega)) ?_
    refine Bd_callV1i (cd := mX3_hasCell) (pc := 17) dX3_standsOnCells_17 k_319 v_X3_hasCell ⟨(Nat.le_of_ble_eq_true rfl), (Nat.le_of_ble_eq_true rfl)⟩ rfl rfl sem_X3_hasCelld (Nat.le_of_ble_eq_true rfl) ?_
    refine Bd_if_ne (t := 25) (pc := 20) dX3_standsOnCells_20 (by decide) (fun b20 => ?_) (fun b20 => ?_)
    · refine Bd_iinc_1 (pc := 25) dX3_standsOnCells_25 (show _ + Int32.ofInt 1 = _ + 1 from rfl) (Nat.le_of_ble_eq_true rfl) rfl ?_
      refine Bd_goto (t := 2) (pc := 28) dX3_standsOnCells_28 (by decide) ?_
      exact Bd_nx (ihi (dsA_s ivi (b2_n.mp b20))) ⟨rfl, congrArg (fun x => some (Value.int x)) (nI_succ i).symm, trivial⟩
    · refine Bd_iconst (v := 0) (pc := 23) dX3_standsOnCells_23 (by decide) ?_
      refine Bd_zret (pc := 24) dX3_standsOnCells_24 rfl rfl ?_
      exact PD_i (b2_f (fun z => b2_0.mp b20 (z.1 i hi))) rfl
def lbF (M : Mem) (n : Nat) : Int32 := if n = 0 then 0 else M 56 (n - 1)
set_option maxRecDepth 100000 in
set_option maxHeartbeats 4000000 in
theorem sem_X3_latest {M : Mem} {n : Nat} (hn : M 51 8 = nI n) (h12 : n ≤ 12) : Sem mX3_latestBeat SH [.ref 51] M (PD SH (some (.int (lbF M n))) (M)) := by
  refine Sem_of rfl (fun G => (Nat.le_of_ble_eq_true rfl)) (fun G => ?_)
  refine Bd_aload_0 (pc := 0) dX3_latestBeat_0 ?_
  refine Bd_getI (j := 8) ck3 (pc := 1) dX3_latestBeat_1 k_169 rfl (Nat.le_of_ble_eq_true rfl) rfl ?_
  refine Bd_if_ne (t := 11) (pc := 4) dX3_latestBeat_4 (by decide) (fun b4 => ?_) (fun b4 => ?_)
  · have n0 : 0 < n := Nat.pos_of_ne_zero (fun z => b4 (by rw [hn, z]; rfl))
    have e1 : M 51 8 - 1 = nI (n - 1) := by rw [hn]; exact nI_sb (b := 1) n0
    refine Bd_aload_0 (pc := 11) dX3_latestBeat_11 ?_
    refine Bd_getR (j := 4) ck3 (pc := 12) dX3_latestBeat_12 k_159 rfl (Nat.le_of_ble_eq_true rfl) rfl ?_
    refine Bd_aload_0 (pc := 15) dX3_latestBeat_15 ?_
    refine Bd_getI (j := 8) ck3 (pc := 16) dX3_latestBeat_16 k_169 rfl (Nat.le_of_ble_eq_true rfl) rfl ?_
    refine Bd_iconst (v := 1) (pc := 19) dX3_latestBeat_19 (by decide) ?_
    refine Bd_isub (pc := 20) dX3_latestBeat_20 ?_
    refine Bd_ialdc (j := n - 1) (by rw [e1]; exact nI_clamp (by omega)) (pc := 21) dX3_latestBeat_21 rfl (by rw [e1]; exact vpi (by omega) (by omega)) ?_
    refine Bd_iret (pc := 22) dX3_latestBeat_22 rfl ?_
    exact PD_i (by rw [lbF, if_neg (by omega)]) rfl
  · refine Bd_iconst (v := 0) (pc := 7) dX3_latestBeat_7 (by decide) ?_
    refine Bd_goto (t := 22) (pc := 8) dX3_latestBeat_8 (by decide) ?_
    refine Bd_iret (pc := 22) dX3_latestBeat_22 rfl ?_
    exact PD_i (by rw [lbF, if_pos]; have z := congrArg Int32.toInt (hn.symm.trans b4); rw [nI_toInt (by omega), Int32.toInt_zero] at z; omega) rfl
