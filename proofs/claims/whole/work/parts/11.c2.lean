/-! 11: Blows, Land: reads -/
def toF (M : Mem) (t : Int32) : Nat → Int32
  | 0 => 0
  | n + 1 => if M 6 n = t then toF M t n ||| (1 <<< (M 8 n &&& 31)) else toF M t n
def ptF (M : Mem) : Nat → Int32
  | 0 => 0
  | n + 1 => ptF M n ||| (1 <<< (M 50 n &&& 31))
def psF (M : Mem) (set : Int32) : Nat → Int32
  | 0 => 0
  | n + 1 => if set >>> (nI n &&& 31) &&& 1 = 0 then psF M set n else psF M set n ||| M 47 n
set_option maxRecDepth 100000 in
set_option maxHeartbeats 4000000 in
theorem sem_X0_tonesOf {M : Mem} {t : Int32} {c : Nat} (hc : M 5 4 = nI c) (h24 : c ≤ 24) : Sem mX0_tonesOf SH [.ref 5, .int t] M (PD SH (some (.int (toF M t c))) M) := by
  refine Sem_of rfl (fun G => (Nat.le_of_ble_eq_true rfl)) (fun G => ?_)
  refine Bd_iconst (v := 0) (pc := 0) dX0_tonesOf_0 (by decide) ?_
  refine Bd_istore_2 (pc := 1) dX0_tonesOf_1 (Nat.le_of_ble_eq_true rfl) rfl ?_
  refine Bd_iconst (v := 0) (pc := 2) dX0_tonesOf_2 (by decide) ?_
  refine Bd_istore_3 (pc := 3) dX0_tonesOf_3 (Nat.le_of_ble_eq_true rfl) rfl ?_
  refine Bd_for (pc := 4) (c := c) (fun i => [some (.ref 5), some (.int t), some (.int (toF M t i)), some (.int (nI i))]) (fun _ => M) (fun _ => True) (fun ivi => ?_) (fun i hi ivi ihi => ?_) trivial
  · refine Bd_iload_3 (pc := 4) dX0_tonesOf_4 ?_
    refine Bd_aload_0 (pc := 5) dX0_tonesOf_5 ?_
    refine Bd_getI (j := 4) ck0 (pc := 6) dX0_tonesOf_6 k_91 rfl (Nat.le_of_ble_eq_true rfl) rfl ?_
    refine Bd_icmp_ge (t := 39) (pc := 9) dX0_tonesOf_9 (by decide) (fun b9 => ?_) (fun b9 => (show False from lf_x hc b9).elim)
    refine Bd_iload_2 (pc := 39) dX0_tonesOf_39 ?_
    refine Bd_iret (pc := 40) dX0_tonesOf_40 rfl ?_
    exact PD_i rfl rfl
  · refine Bd_iload_3 (pc := 4) dX0_tonesOf_4 ?_
    refine Bd_aload_0 (pc := 5) dX0_tonesOf_5 ?_
    refine Bd_getI (j := 4) ck0 (pc := 6) dX0_tonesOf_6 k_91 rfl (Nat.le_of_ble_eq_true rfl) rfl ?_
    refine Bd_icmp_ge (t := 39) (pc := 9) dX0_tonesOf_9 (by decide) (fun b9 => (show False from lf_s hc (by omega) hi b9).elim) (fun b9 => ?_)
    refine Bd_aload_0 (pc := 12) dX0_tonesOf_12 ?_
    refine Bd_getR (j := 0) ck0 (pc := 13) dX0_tonesOf_13 k_83 rfl (Nat.le_of_ble_eq_true rfl) rfl ?_
    refine Bd_iload_3 (pc := 16) dX0_tonesOf_16 ?_
    refine Bd_ialdc (j := i) (nI_clamp (by omega)) (pc := 17) dX0_tonesOf_17 rfl (vpi (by omega) (by omega)) ?_
    refine Bd_iload_1 (pc := 18) dX0_tonesOf_18 ?_
    refine Bd_icmp_ne (t := 33) (pc := 19) dX0_tonesOf_19 (by decide) (fun b19 => ?_) (fun b19 => ?_)
    · refine Bd_iinc_3 (pc := 33) dX0_tonesOf_33 (show _ + Int32.ofInt 1 = _ + 1 from rfl) (Nat.le_of_ble_eq_true rfl) rfl ?_
      refine Bd_goto (t := 4) (pc := 36) dX0_tonesOf_36 (by decide) ?_
      exact Bd_cg (ihi trivial) (by simp [toF, nI_succ, b19])
    · refine Bd_iload_2 (pc := 22) dX0_tonesOf_22 ?_
      refine Bd_iconst (v := 1) (pc := 23) dX0_tonesOf_23 (by decide) ?_
      refine Bd_aload_0 (pc := 24) dX0_tonesOf_24 ?_
      refine Bd_getR (j := 2) ck0 (pc := 25) dX0_tonesOf_25 k_87 rfl (Nat.le_of_ble_eq_true rfl) rfl ?_
      refine Bd_iload_3 (pc := 28) dX0_tonesOf_28 ?_
      refine Bd_ialdc (j := i) (nI_clamp (by omega)) (pc := 29) dX0_tonesOf_29 rfl (vpi (by omega) (by omega)) ?_
      refine Bd_ishl (pc := 30) dX0_tonesOf_30 ?_
      refine Bd_ior (pc := 31) dX0_tonesOf_31 ?_
      refine Bd_istore_2 (pc := 32) dX0_tonesOf_32 (Nat.le_of_ble_eq_true rfl) rfl ?_
      refine Bd_iinc_3 (pc := 33) dX0_tonesOf_33 (show _ + Int32.ofInt 1 = _ + 1 from rfl) (Nat.le_of_ble_eq_true rfl) rfl ?_
      refine Bd_goto (t := 4) (pc := 36) dX0_tonesOf_36 (by decide) ?_
      exact Bd_cg (ihi trivial) (by simp [toF, nI_succ, b19])
set_option maxRecDepth 100000 in
set_option maxHeartbeats 4000000 in
theorem sem_X3_psalmTones {M : Mem} {c : Nat} (hc : M 44 8 = nI c) (h12 : c ≤ 12) : Sem mX3_psalmTones SH [.ref 44] M (PD SH (some (.int (ptF M c))) M) := by
  refine Sem_of rfl (fun G => (Nat.le_of_ble_eq_true rfl)) (fun G => ?_)
  refine Bd_iconst (v := 0) (pc := 0) dX3_psalmTones_0 (by decide) ?_
  refine Bd_istore_1 (pc := 1) dX3_psalmTones_1 (Nat.le_of_ble_eq_true rfl) rfl ?_
  refine Bd_iconst (v := 0) (pc := 2) dX3_psalmTones_2 (by decide) ?_
  refine Bd_istore_2 (pc := 3) dX3_psalmTones_3 (Nat.le_of_ble_eq_true rfl) rfl ?_
  refine Bd_for (pc := 4) (c := c) (fun i => [some (.ref 44), some (.int (ptF M i)), some (.int (nI i))]) (fun _ => M) (fun _ => True) (fun ivi => ?_) (fun i hi ivi ihi => ?_) trivial
  · refine Bd_iload_2 (pc := 4) dX3_psalmTones_4 ?_
    refine Bd_aload_0 (pc := 5) dX3_psalmTones_5 ?_
    refine Bd_getI (j := 8) ck3 (pc := 6) dX3_psalmTones_6 k_169 rfl (Nat.le_of_ble_eq_true rfl) rfl ?_
    refine Bd_icmp_ge (t := 29) (pc := 9) dX3_psalmTones_9 (by decide) (fun b9 => ?_) (fun b9 => (show False from lf_x hc b9).elim)
    refine Bd_iload_1 (pc := 29) dX3_psalmTones_29 ?_
    refine Bd_iret (pc := 30) dX3_psalmTones_30 rfl ?_
    exact PD_i rfl rfl
  · refine Bd_iload_2 (pc := 4) dX3_psalmTones_4 ?_
    refine Bd_aload_0 (pc := 5) dX3_psalmTones_5 ?_
    refine Bd_getI (j := 8) ck3 (pc := 6) dX3_psalmTones_6 k_169 rfl (Nat.le_of_ble_eq_true rfl) rfl ?_
    refine Bd_icmp_ge (t := 29) (pc := 9) dX3_psalmTones_9 (by decide) (fun b9 => (show False from lf_s hc (by omega) hi b9).elim) (fun b9 => ?_)
    refine Bd_iload_1 (pc := 12) dX3_psalmTones_12 ?_
    refine Bd_iconst (v := 1) (pc := 13) dX3_psalmTones_13 (by decide) ?_
    refine Bd_aload_0 (pc := 14) dX3_psalmTones_14 ?_
    refine Bd_getR (j := 5) ck3 (pc := 15) dX3_psalmTones_15 k_161 rfl (Nat.le_of_ble_eq_true rfl) rfl ?_
    refine Bd_iload_2 (pc := 18) dX3_psalmTones_18 ?_
    refine Bd_ialdc (j := i) (nI_clamp (by omega)) (pc := 19) dX3_psalmTones_19 rfl (vpi (by omega) (by omega)) ?_
    refine Bd_ishl (pc := 20) dX3_psalmTones_20 ?_
    refine Bd_ior (pc := 21) dX3_psalmTones_21 ?_
    refine Bd_istore_1 (pc := 22) dX3_psalmTones_22 (Nat.le_of_ble_eq_true rfl) rfl ?_
    refine Bd_iinc_2 (pc := 23) dX3_psalmTones_23 (show _ + Int32.ofInt 1 = _ + 1 from rfl) (Nat.le_of_ble_eq_true rfl) rfl ?_
    refine Bd_goto (t := 4) (pc := 26) dX3_psalmTones_26 (by decide) ?_
    exact Bd_cg (ihi trivial) (by simp [ptF, nI_succ])
set_option maxRecDepth 100000 in
set_option maxHeartbeats 4000000 in
theorem sem_X3_pipesOfSet {M : Mem} {s : Int32} {c : Nat} (hc : M 44 6 = nI c) (h6 : c ≤ 6) : Sem mX3_pipesOfSet SH [.ref 44, .int s] M (PD SH (some (.int (psF M s c))) M) := by
  refine Sem_of rfl (fun G => (Nat.le_of_ble_eq_true rfl)) (fun G => ?_)
  refine Bd_iconst (v := 0) (pc := 0) dX3_pipesOfSet_0 (by decide) ?_
  refine Bd_istore_2 (pc := 1) dX3_pipesOfSet_1 (Nat.le_of_ble_eq_true rfl) rfl ?_
  refine Bd_iconst (v := 0) (pc := 2) dX3_pipesOfSet_2 (by decide) ?_
  refine Bd_istore_3 (pc := 3) dX3_pipesOfSet_3 (Nat.le_of_ble_eq_true rfl) rfl ?_
  refine Bd_for (pc := 4) (c := c) (fun i => [some (.ref 44), some (.int s), some (.int (psF M s i)), some (.int (nI i))]) (fun _ => M) (fun _ => True) (fun ivi => ?_) (fun i hi ivi ihi => ?_) trivial
  · refine Bd_iload_3 (pc := 4) dX3_pipesOfSet_4 ?_
    refine Bd_aload_0 (pc := 5) dX3_pipesOfSet_5 ?_
    refine Bd_getI (j := 6) ck3 (pc := 6) dX3_pipesOfSet_6 k_163 rfl (Nat.le_of_ble_eq_true rfl) rfl ?_
    refine Bd_icmp_ge (t := 35) (pc := 9) dX3_pipesOfSet_9 (by decide) (fun b9 => ?_) (fun b9 => (show False from lf_x hc b9).elim)
    refine Bd_iload_2 (pc := 35) dX3_pipesOfSet_35 ?_
    refine Bd_iret (pc := 36) dX3_pipesOfSet_36 rfl ?_
    exact PD_i rfl rfl
  · refine Bd_iload_3 (pc := 4) dX3_pipesOfSet_4 ?_
    refine Bd_aload_0 (pc := 5) dX3_pipesOfSet_5 ?_
    refine Bd_getI (j := 6) ck3 (pc := 6) dX3_pipesOfSet_6 k_163 rfl (Nat.le_of_ble_eq_true rfl) rfl ?_
    refine Bd_icmp_ge (t := 35) (pc := 9) dX3_pipesOfSet_9 (by decide) (fun b9 => (show False from lf_s hc (by omega) hi b9).elim) (fun b9 => ?_)
    refine Bd_iload_1 (pc := 12) dX3_pipesOfSet_12 ?_
    refine Bd_iload_3 (pc := 13) dX3_pipesOfSet_13 ?_
    refine Bd_ishr (pc := 14) dX3_pipesOfSet_14 ?_
    refine Bd_iconst (v := 1) (pc := 15) dX3_pipesOfSet_15 (by decide) ?_
    refine Bd_iand (pc := 16) dX3_pipesOfSet_16 ?_
    refine Bd_if_eq (t := 29) (pc := 17) dX3_pipesOfSet_17 (by decide) (fun b17 => ?_) (fun b17 => ?_)
    · refine Bd_iinc_3 (pc := 29) dX3_pipesOfSet_29 (show _ + Int32.ofInt 1 = _ + 1 from rfl) (Nat.le_of_ble_eq_true rfl) rfl ?_
      refine Bd_goto (t := 4) (pc := 32) dX3_pipesOfSet_32 (by decide) ?_
      exact Bd_cg (ihi trivial) (by simp [psF, nI_succ, b17])
    · refine Bd_iload_2 (pc := 20) dX3_pipesOfSet_20 ?_
      refine Bd_aload_0 (pc := 21) dX3_pipesOfSet_21 ?_
      refine Bd_getR (j := 2) ck3 (pc := 22) dX3_pipesOfSet_22 k_154 rfl (Nat.le_of_ble_eq_true rfl) rfl ?_
      refine Bd_iload_3 (pc := 25) dX3_pipesOfSet_25 ?_
      refine Bd_ialdc (j := i) (nI_clamp (by omega)) (pc := 26) dX3_pipesOfSet_26 rfl (vpi (by omega) (by omega)) ?_
      refine Bd_ior (pc := 27) dX3_pipesOfSet_27 ?_
      refine Bd_istore_2 (pc := 28) dX3_pipesOfSet_28 (Nat.le_of_ble_eq_true rfl) rfl ?_
      refine Bd_iinc_3 (pc := 29) dX3_pipesOfSet_29 (show _ + Int32.ofInt 1 = _ + 1 from rfl) (Nat.le_of_ble_eq_true rfl) rfl ?_
      refine Bd_goto (t := 4) (pc := 32) dX3_pipesOfSet_32 (by decide) ?_
      exact Bd_cg (ihi trivial) (by simp [psF, nI_succ, b17])
set_option maxRecDepth 100000 in
set_option maxHeartbeats 4000000 in
theorem sem_X0_clear {M : Mem} : Sem mX0_clear SH [.ref 5] M (PD SH none (updM (updM M 5 4 0) 5 5 0)) := by
  refine Sem_of rfl (fun G => (Nat.le_of_ble_eq_true rfl)) (fun G => ?_)
  refine Bd_aload_0 (pc := 0) dX0_clear_0 ?_
  refine Bd_iconst (v := 0) (pc := 1) dX0_clear_1 (by decide) ?_
  refine Bd_putI (j := 4) (ty := .int) ck0 (pc := 2) dX0_clear_2 k_91 rfl (Nat.le_of_ble_eq_true rfl) rfl rfl pfI rfl rfl ?_
  refine Bd_aload_0 (pc := 5) dX0_clear_5 ?_
  refine Bd_iconst (v := 0) (pc := 6) dX0_clear_6 (by decide) ?_
  refine Bd_putI (j := 5) (ty := .int) ck0 (pc := 7) dX0_clear_7 k_93 rfl (Nat.le_of_ble_eq_true rfl) rfl rfl pfI rfl rfl ?_
  refine Bd_vret (pc := 10) dX0_clear_10 rfl ?_
  exact PD_v rfl
/-- a BLOW put behind the others -/
def adF (M : Mem) (n : Nat) (t beat tone : Int32) : Mem := updM (updM (updM (updM M 6 n t) 7 n beat) 8 n tone) 5 4 (nI (n + 1))
set_option maxRecDepth 100000 in
set_option maxHeartbeats 4000000 in
theorem sem_X0_add {M : Mem} {t beat tone : Int32} {n : Nat} (hc : M 5 4 = nI n) (h24 : n < 24) : Sem mX0_add SH [.ref 5, .int t, .int beat, .int tone] M (PD SH (some (.int 1)) (adF M n t beat tone)) := by
  refine Sem_of rfl (fun G => (Nat.le_of_ble_eq_true rfl)) (fun G => ?_)
  refine Bd_aload_0 (pc := 0) dX0_add_0 ?_
  refine Bd_getI (j := 4) ck0 (pc := 1) dX0_add_1 k_91 rfl (Nat.le_of_ble_eq_true rfl) rfl ?_
  refine Bd_bipush (v := 24) (pc := 4) dX0_add_4 (by decide) ?_
  refine Bd_icmp_lt (t := 11) (pc := 6) dX0_add_6 (by decide) (fun b6 => ?_) (fun b6 => (show False from by rw [hc] at b6; exact b6 (nI_lt (b := 24) h24 (by omega))).elim)
  refine Bd_aload_0 (pc := 11) dX0_add_11 ?_
  refine Bd_getR (j := 0) ck0 (pc := 12) dX0_add_12 k_83 rfl (Nat.le_of_ble_eq_true rfl) rfl ?_
  refine Bd_aload_0 (pc := 15) dX0_add_15 ?_
  refine Bd_getI (j := 4) ck0 (pc := 16) dX0_add_16 k_91 rfl (Nat.le_of_ble_eq_true rfl) rfl ?_
  refine Bd_iload_1 (pc := 19) dX0_add_19 ?_
  refine Bd_iastc (j := n) (by rw [hc]; exact nI_clamp (by omega)) (pc := 20) dX0_add_20 rfl (by rw [hc]; exact vpi h24 (by omega)) ?_
  refine Bd_aload_0 (pc := 21) dX0_add_21 ?_
  refine Bd_getR (j := 1) ck0 (pc := 22) dX0_add_22 k_85 rfl (Nat.le_of_ble_eq_true rfl) rfl ?_
  refine Bd_aload_0 (pc := 25) dX0_add_25 ?_
  refine Bd_getI (j := 4) ck0 (pc := 26) dX0_add_26 k_91 rfl (Nat.le_of_ble_eq_true rfl) rfl ?_
  refine Bd_iload_2 (pc := 29) dX0_add_29 ?_
  refine Bd_iastc (j := n) (by show (M 5 4).toNatClampNeg = n; rw [hc]; exact nI_clamp (by omega)) (pc := 30) dX0_add_30 rfl (by show vp_in (M 5 4) 24; rw [hc]; exact vpi h24 (by omega)) ?_
  refine Bd_aload_0 (pc := 31) dX0_add_31 ?_
  refine Bd_getR (j := 2) ck0 (pc := 32) dX0_add_32 k_87 rfl (Nat.le_of_ble_eq_true rfl) rfl ?_
  refine Bd_aload_0 (pc := 35) dX0_add_35 ?_
  refine Bd_getI (j := 4) ck0 (pc := 36) dX0_add_36 k_91 rfl (Nat.le_of_ble_eq_true rfl) rfl ?_
  refine Bd_iload_3 (pc := 39) dX0_add_39 ?_
  refine Bd_iastc (j := n) (by show (M 5 4).toNatClampNeg = n; rw [hc]; exact nI_clamp (by omega)) (pc := 40) dX0_add_40 rfl (by show vp_in (M 5 4) 24; rw [hc]; exact vpi h24 (by omega)) ?_
  refine Bd_aload_0 (pc := 41) dX0_add_41 ?_
  refine Bd_dup (pc := 42) dX0_add_42 rfl ?_
  refine Bd_getI (j := 4) ck0 (pc := 43) dX0_add_43 k_91 rfl (Nat.le_of_ble_eq_true rfl) rfl ?_
  refine Bd_iconst (v := 1) (pc := 46) dX0_add_46 (by decide) ?_
  refine Bd_iadd (pc := 47) dX0_add_47 ?_
  refine Bd_putI (j := 4) (ty := .int) ck0 (pc := 48) dX0_add_48 k_91 rfl (Nat.le_of_ble_eq_true rfl) rfl rfl pfI rfl rfl ?_
  refine Bd_iconst (v := 1) (pc := 51) dX0_add_51 (by decide) ?_
  refine Bd_zret (pc := 52) dX0_add_52 rfl rfl ?_
  exact ⟨rfl, rfl, by show updM _ 5 4 (M 5 4 + 1) = _; rw [hc, ← nI_succ]; rfl⟩
set_option maxRecDepth 100000 in
set_option maxHeartbeats 4000000 in
theorem sem_X0_addFull {M : Mem} {t beat tone : Int32} (hc : M 5 4 = nI 24) : Sem mX0_add SH [.ref 5, .int t, .int beat, .int tone] M (PD SH (some (.int 0)) M) := by
  refine Sem_of rfl (fun G => (Nat.le_of_ble_eq_true rfl)) (fun G => ?_)
  refine Bd_aload_0 (pc := 0) dX0_add_0 ?_
  refine Bd_getI (j := 4) ck0 (pc := 1) dX0_add_1 k_91 rfl (Nat.le_of_ble_eq_true rfl) rfl ?_
  refine Bd_bipush (v := 24) (pc := 4) dX0_add_4 (by decide) ?_
  refine Bd_icmp_lt (t := 11) (pc := 6) dX0_add_6 (by decide) (fun b6 => (show False from by rw [hc] at b6; exact absurd b6 (by decide)).elim) (fun b6 => ?_)
  refine Bd_iconst (v := 0) (pc := 9) dX0_add_9 (by decide) ?_
  refine Bd_zret (pc := 10) dX0_add_10 rfl rfl ?_
  exact PD_i rfl rfl
abbrev cmF (M : Mem) (i : Nat) (c : Int32) : Int32 := M 7 i + sdF M (M 46 (M 6 i).toNatClampNeg) c
/-- way 0 is straight, way h + 1 is by HILL h -/
def cbF (M : Mem) (way i : Nat) (c : Int32) : Int32 := match way with
  | 0 => cmF M i c
  | h + 1 => cmF M i (M 48 h) + sdF M (M 48 h) c
set_option maxRecDepth 100000 in
set_option maxHeartbeats 4000000 in
theorem sem_X7_comes {M : Mem} {c : Int32} {i : Nat} (hi : i < 24) (ht : vp_in (M 6 i) 6) : Sem mX7_comes SH [.ref 0, .int (nI i), .int c] M (PD SH (some (.int (cmF M i c))) M) := by
  refine Sem_of rfl (fun G => (Nat.le_of_ble_eq_true rfl)) (fun G => ?_)
  refine Bd_aload_0 (pc := 0) dX7_comes_0 ?_
  refine Bd_getR (j := 2) ck7 (pc := 1) dX7_comes_1 k_237 rfl (Nat.le_of_ble_eq_true rfl) rfl ?_
  refine Bd_getR (j := 1) ck0 (pc := 4) dX7_comes_4 k_86 rfl (Nat.le_of_ble_eq_true rfl) rfl ?_
  refine Bd_iload_1 (pc := 7) dX7_comes_7 ?_
  refine Bd_ialdc (j := i) (nI_clamp (by omega)) (pc := 8) dX7_comes_8 rfl (vpi (by omega) (by omega)) ?_
  refine Bd_aload_0 (pc := 9) dX7_comes_9 ?_
  refine Bd_getR (j := 8) ck7 (pc := 10) dX7_comes_10 k_243 rfl (Nat.le_of_ble_eq_true rfl) rfl ?_
  refine Bd_aload_0 (pc := 13) dX7_comes_13 ?_
  refine Bd_getR (j := 8) ck7 (pc := 14) dX7_comes_14 k_243 rfl (Nat.le_of_ble_eq_true rfl) rfl ?_
  refine Bd_getR (j := 1) ck3 (pc := 17) dX7_comes_17 k_153 rfl (Nat.le_of_ble_eq_true rfl) rfl ?_
  refine Bd_aload_0 (pc := 20) dX7_comes_20 ?_
  refine Bd_getR (j := 2) ck7 (pc := 21) dX7_comes_21 k_237 rfl (Nat.le_of_ble_eq_true rfl) rfl ?_
  refine Bd_getR (j := 0) ck0 (pc := 24) dX7_comes_24 k_84 rfl (Nat.le_of_ble_eq_true rfl) rfl ?_
  refine Bd_iload_1 (pc := 27) dX7_comes_27 ?_
  refine Bd_ialdc (j := i) (nI_clamp (by omega)) (pc := 28) dX7_comes_28 rfl (vpi (by omega) (by omega)) ?_
  refine Bd_iald (pc := 29) dX7_comes_29 rfl ht ?_
  refine Bd_iload_2 (pc := 30) dX7_comes_30 ?_
  refine Bd_callV2i (cd := mX3_sound) (pc := 31) dX7_comes_31 k_486 v_X3_sound ⟨(Nat.le_of_ble_eq_true rfl), (Nat.le_of_ble_eq_true rfl)⟩ rfl rfl sem_X3_sound (Nat.le_of_ble_eq_true rfl) ?_
  refine Bd_iadd (pc := 34) dX7_comes_34 ?_
  refine Bd_iret (pc := 35) dX7_comes_35 rfl ?_
  exact PD_i rfl rfl
set_option maxRecDepth 100000 in
set_option maxHeartbeats 4000000 in
theorem sem_X7_comesBy {M : Mem} {c : Int32} {i way : Nat} (hi : i < 24) (hw : way ≤ 3) (ht : vp_in (M 6 i) 6) : Sem mX7_comesBy SH [.ref 0, .int (nI way), .int (nI i), .int c] M (PD SH (some (.int (cbF M way i c))) M) := by
  refine Sem_of rfl (fun G => (Nat.le_of_ble_eq_true rfl)) (fun G => ?_)
  rcases way with _ | h
  · refine Bd_iload_1 (pc := 0) dX7_comesBy_0 ?_
    refine Bd_if_ne (t := 11) (pc := 1) dX7_comesBy_1 (by decide) (fun b1 => (show False from b1 rfl).elim) (fun b1 => ?_)
    refine Bd_aload_0 (pc := 4) dX7_comesBy_4 ?_
    refine Bd_iload_2 (pc := 5) dX7_comesBy_5 ?_
    refine Bd_iload_3 (pc := 6) dX7_comesBy_6 ?_
    refine Bd_callV2i (cd := mX7_comes) (pc := 7) dX7_comesBy_7 k_522 v_X7_comes ⟨(Nat.le_of_ble_eq_true rfl), (Nat.le_of_ble_eq_true rfl)⟩ rfl rfl (sem_X7_comes hi ht) (Nat.le_of_ble_eq_true rfl) ?_
    refine Bd_iret (pc := 10) dX7_comesBy_10 rfl ?_
    exact PD_i rfl rfl
  · refine Bd_iload_1 (pc := 0) dX7_comesBy_0 ?_
    refine Bd_if_ne (t := 11) (pc := 1) dX7_comesBy_1 (by decide) (fun b1 => ?_) (fun b1 => (show False from nI_ne0 (Nat.succ_pos h) (by omega) b1).elim)
    refine Bd_aload_0 (pc := 11) dX7_comesBy_11 ?_
    refine Bd_getR (j := 8) ck7 (pc := 12) dX7_comesBy_12 k_243 rfl (Nat.le_of_ble_eq_true rfl) rfl ?_
    refine Bd_getR (j := 3) ck3 (pc := 15) dX7_comesBy_15 k_158 rfl (Nat.le_of_ble_eq_true rfl) rfl ?_
    refine Bd_iload_1 (pc := 18) dX7_comesBy_18 ?_
    refine Bd_iconst (v := 1) (pc := 19) dX7_comesBy_19 (by decide) ?_
    refine Bd_isub (pc := 20) dX7_comesBy_20 ?_
    rw [nI_pred h]
    refine Bd_ialdc (j := h) (nI_clamp (by omega)) (pc := 21) dX7_comesBy_21 rfl (vpi (by omega) (by omega)) ?_
    refine Bd_istore_4 (pc := 22) dX7_comesBy_22 (Nat.le_of_ble_eq_true rfl) rfl ?_
    refine Bd_aload_0 (pc := 24) dX7_comesBy_24 ?_
    refine Bd_iload_2 (pc := 25) dX7_comesBy_25 ?_
    refine Bd_iload_4 (pc := 26) dX7_comesBy_26 ?_
    refine Bd_callV2i (cd := mX7_comes) (pc := 28) dX7_comesBy_28 k_522 v_X7_comes ⟨(Nat.le_of_ble_eq_true rfl), (Nat.le_of_ble_eq_true rfl)⟩ rfl rfl (sem_X7_comes hi ht) (Nat.le_of_ble_eq_true rfl) ?_
    refine Bd_aload_0 (pc := 31) dX7_comesBy_31 ?_
    refine Bd_getR (j := 8) ck7 (pc := 32) dX7_comesBy_32 k_243 rfl (Nat.le_of_ble_eq_true rfl) rfl ?_
    refine Bd_iload_4 (pc := 35) dX7_comesBy_35 ?_
    refine Bd_iload_3 (pc := 37) dX7_comesBy_37 ?_
    refine Bd_callV2i (cd := mX3_sound) (pc := 38) dX7_comesBy_38 k_486 v_X3_sound ⟨(Nat.le_of_ble_eq_true rfl), (Nat.le_of_ble_eq_true rfl)⟩ rfl rfl sem_X3_sound (Nat.le_of_ble_eq_true rfl) ?_
    refine Bd_iadd (pc := 41) dX7_comesBy_41 ?_
    refine Bd_iret (pc := 42) dX7_comesBy_42 rfl ?_
    exact PD_i rfl rfl
