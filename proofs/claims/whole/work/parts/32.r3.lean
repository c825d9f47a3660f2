/-! 32: the reference: blows -/
def puM (M : Mem) (n : Nat) (t b o : Int32) : Mem := updM (updM (updM M 59 (14 + 3 * n) t) 59 (15 + 3 * n) b) 59 (16 + 3 * n) o
theorem puM_ne {M : Mem} {n k : Nat} {t b o : Int32} (h : k ≠ 59) : puM M n t b o k = M k := by unfold puM; rw [updM_ne h, updM_ne h, updM_ne h]
theorem puM_o {M : Mem} {n j : Nat} {t b o : Int32} (h0 : j ≠ 14 + 3 * n) (h1 : j ≠ 15 + 3 * n) (h2 : j ≠ 16 + 3 * n) : puM M n t b o 59 j = M 59 j := by
  unfold puM; rw [updM_eq, upd_ne h2, updM_eq, upd_ne h1, updM_eq, upd_ne h0]
theorem puM_0 {M : Mem} {n : Nat} {t b o : Int32} : puM M n t b o 59 (14 + 3 * n) = t := by
  unfold puM; rw [updM_eq, upd_ne (by omega), updM_eq, upd_ne (by omega), updM_eq, upd_eq]
theorem puM_1 {M : Mem} {n : Nat} {t b o : Int32} : puM M n t b o 59 (15 + 3 * n) = b := by
  unfold puM; rw [updM_eq, upd_ne (by omega), updM_eq, upd_eq]
theorem puM_2 {M : Mem} {n : Nat} {t b o : Int32} : puM M n t b o 59 (16 + 3 * n) = o := by
  unfold puM; rw [updM_eq, upd_eq]
set_option maxRecDepth 100000 in
set_option maxHeartbeats 4000000 in
theorem sem_X8_puts {M : Mem} {n : Nat} (hn : n < 24) {t b o : Int32} : Sem mX8_puts SH [.ref 58, .int (nI n), .int t, .int b, .int o] M (PD SH none (puM M n t b o)) := by
  refine Sem_of rfl (fun G => (Nat.le_of_ble_eq_true rfl)) (fun G => ?_)
  refine Bd_aload_0 (pc := 0) dX8_puts_0 ?_
  refine Bd_getR (j := 0) ck8 (pc := 1) dX8_puts_1 k_786 rfl (Nat.le_of_ble_eq_true rfl) rfl ?_
  refine Bd_bipush (v := 14) (pc := 4) dX8_puts_4 (by decide) ?_
  refine Bd_iconst (v := 3) (pc := 6) dX8_puts_6 (by decide) ?_
  refine Bd_iload_1 (pc := 7) dX8_puts_7 ?_
  refine Bd_imul (pc := 8) dX8_puts_8 ?_
  refine Bd_iadd (pc := 9) dX8_puts_9 ?_
  refine Bd_iload_2 (pc := 10) dX8_puts_10 ?_
  refine Bd_iastc (j := 14 + 3 * n) (by rw [ti0 n hn]; exact nI_clamp (by omega)) (pc := 11) dX8_puts_11 rfl (by rw [ti0 n hn]; exact vpi (by omega) (by omega)) ?_
  refine Bd_aload_0 (pc := 12) dX8_puts_12 ?_
  refine Bd_getR (j := 0) ck8 (pc := 13) dX8_puts_13 k_786 rfl (Nat.le_of_ble_eq_true rfl) rfl ?_
  refine Bd_bipush (v := 14) (pc := 16) dX8_puts_16 (by decide) ?_
  refine Bd_iconst (v := 3) (pc := 18) dX8_puts_18 (by decide) ?_
  refine Bd_iload_1 (pc := 19) dX8_puts_19 ?_
  refine Bd_imul (pc := 20) dX8_puts_20 ?_
  refine Bd_iadd (pc := 21) dX8_puts_21 ?_
  refine Bd_iconst (v := 1) (pc := 22) dX8_puts_22 (by decide) ?_
  refine Bd_iadd (pc := 23) dX8_puts_23 ?_
  refine Bd_iload_3 (pc := 24) dX8_puts_24 ?_
  refine Bd_iastc (j := 15 + 3 * n) (by rw [ti1 n hn]; exact nI_clamp (by omega)) (pc := 25) dX8_puts_25 rfl (by rw [ti1 n hn]; exact vpi (by omega) (by omega)) ?_
  refine Bd_aload_0 (pc := 26) dX8_puts_26 ?_
  refine Bd_getR (j := 0) ck8 (pc := 27) dX8_puts_27 k_786 rfl (Nat.le_of_ble_eq_true rfl) rfl ?_
  refine Bd_bipush (v := 14) (pc := 30) dX8_puts_30 (by decide) ?_
  refine Bd_iconst (v := 3) (pc := 32) dX8_puts_32 (by decide) ?_
  refine Bd_iload_1 (pc := 33) dX8_puts_33 ?_
  refine Bd_imul (pc := 34) dX8_puts_34 ?_
  refine Bd_iadd (pc := 35) dX8_puts_35 ?_
  refine Bd_iconst (v := 2) (pc := 36) dX8_puts_36 (by decide) ?_
  refine Bd_iadd (pc := 37) dX8_puts_37 ?_
  refine Bd_iload_4 (pc := 38) dX8_puts_38 ?_
  refine Bd_iastc (j := 16 + 3 * n) (by rw [ti2 n hn]; exact nI_clamp (by omega)) (pc := 40) dX8_puts_40 rfl (by rw [ti2 n hn]; exact vpi (by omega) (by omega)) ?_
  refine Bd_vret (pc := 41) dX8_puts_41 rfl ?_
  exact PD_v rfl
theorem IV_blow {C N : Mem} (h : RK C N) (h24 : cn (C 5 4) < 24) {t b o : Int32} : IV (adF C (cn (C 5 4)) t b o) (updM (puM N (cn (C 5 4)) t b o) 59 86 (nI (cn (C 5 4) + 1))) := by
  have nm := h.1.nmb
  have n6 := h.1.nt6
  have ec : cn (nI (cn (C 5 4) + 1)) = cn (C 5 4) + 1 := nI_clamp (by omega)
  have g : ∀ j, j ≠ 86 → j ≠ 14 + 3 * cn (C 5 4) → j ≠ 15 + 3 * cn (C 5 4) → j ≠ 16 + 3 * cn (C 5 4) → updM (puM N (cn (C 5 4)) t b o) 59 86 (nI (cn (C 5 4) + 1)) 59 j = N 59 j := fun j h0 h1 h2 h3 => by rw [updM_eq, upd_ne h0, puM_o h1 h2 h3]
  refine IV_pg0 h.2.1 (fun k hk => by rw [updM_ne hk, puM_ne hk]) (fun j hj => g j (by omega) (by omega) (by omega) (by omega)) (fun k hk => adF_ne (by omega) (by omega) (by omega) (by omega)) (IVl_hi h.2.1.1 (fun k hk => by rw [updM_ne hk, puM_ne hk]) (fun j hj => g j (by omega) (by omega) (by omega) (by omega)) (g 113 (by omega) (by omega) (by omega) (by omega)) (fun k hk => adF_ne (by omega) (by omega) (by omega) (by omega)) n6) ?_
  obtain ⟨b1, b2, b3, b4⟩ := h.2.1.2.1
  refine ⟨by rw [updM_eq]; exact upd_eq, fun i hi => ?_, by rw [g _ (by omega) (by omega) (by omega) (by omega)]; exact b3, fun i hi => ?_⟩
  · have hi : i < cn (nI (cn (C 5 4) + 1)) := hi
    rw [ec] at hi
    show _ = upd (C 6) (cn (C 5 4)) t i ∧ _ = upd (C 7) (cn (C 5 4)) b i ∧ _ = upd (C 8) (cn (C 5 4)) o i
    rw [show 0 + 14 + 3 * i = 14 + 3 * i by omega, show 0 + 15 + 3 * i = 15 + 3 * i by omega, show 0 + 16 + 3 * i = 16 + 3 * i by omega]
    by_cases z : i = cn (C 5 4)
    · subst z
      rw [upd_eq, upd_eq, upd_eq, updM_eq, upd_ne (by omega), upd_ne (by omega), upd_ne (by omega)]
      exact ⟨puM_0, puM_1, puM_2⟩
    · have q := b2 i (by omega)
      rw [show 0 + 14 + 3 * i = 14 + 3 * i by omega, show 0 + 15 + 3 * i = 15 + 3 * i by omega, show 0 + 16 + 3 * i = 16 + 3 * i by omega] at q
      rw [upd_ne z, upd_ne z, upd_ne z, g _ (by omega) (by omega) (by omega) (by omega), g _ (by omega) (by omega) (by omega) (by omega), g _ (by omega) (by omega) (by omega) (by omega)]
      exact q
  · have hi2 : i < cn (C 5 5) := hi
    rw [g _ (by omega) (by omega) (by omega) (by omega)]; exact b4 i hi2
theorem blo_iff {C : Mem} {t b n : Int32} : ((0 ≤ t ∧ t < C 44 6) ∧ (0 ≤ b ∧ b ≤ 200) ∧ (0 ≤ n ∧ n ≤ 7)) ↔ bloB C t b n := by
  have e : (0 ≤ n ∧ n ≤ 7) ↔ (0 ≤ n ∧ n < 8) := by
    rw [Int32.le_iff_toInt_le, Int32.le_iff_toInt_le, Int32.lt_iff_toInt_lt, show (7 : Int32).toInt = 7 by decide, show (8 : Int32).toInt = 8 by decide]
    omega
  rw [e]
  exact ⟨fun ⟨a, ⟨b1, b2⟩, c⟩ => ⟨a, Int32.not_lt.mpr b1, Int32.not_lt.mpr b2, c⟩, fun ⟨a, b1, b2, c⟩ => ⟨a, ⟨Int32.not_lt.mp b1, Int32.not_lt.mp b2⟩, c⟩⟩
theorem nb_24 {C : Mem} (h : WF C) (z : ¬ C 5 4 = 24) : cn (C 5 4) < 24 := by
  rcases Nat.lt_or_ge (cn (C 5 4)) 24 with q | q
  · exact q
  · exact absurd (by rw [h.nb, show cn (C 5 4) = 24 by have := h.nb24; omega]; rfl) z
set_option maxRecDepth 100000 in
set_option maxHeartbeats 4000000 in
theorem sem_raw86 {M : Mem} : Sem mX8_blows SH [.ref 58] M (PD SH (some (.int (M 59 86))) M) := by
  refine Sem_of rfl (fun G => (Nat.le_of_ble_eq_true rfl)) (fun G => ?_)
  refine Bd_aload_0 (pc := 0) dX8_blows_0 ?_
  refine Bd_getR (j := 0) ck8 (pc := 1) dX8_blows_1 k_786 rfl (Nat.le_of_ble_eq_true rfl) rfl ?_
  refine Bd_bipush (v := 86) (pc := 4) dX8_blows_4 (by decide) ?_
  refine Bd_ialdc (j := 86) rfl (pc := 6) dX8_blows_6 rfl (by unfold vp_in; decide) ?_
  refine Bd_iret (pc := 7) dX8_blows_7 rfl ?_
  exact PD_i rfl rfl
set_option maxRecDepth 100000 in
set_option maxHeartbeats 4000000 in
theorem sem_raw112 {M : Mem} : Sem mX8_noteds SH [.ref 58] M (PD SH (some (.int (M 59 112))) M) := by
  refine Sem_of rfl (fun G => (Nat.le_of_ble_eq_true rfl)) (fun G => ?_)
  refine Bd_aload_0 (pc := 0) dX8_noteds_0 ?_
  refine Bd_getR (j := 0) ck8 (pc := 1) dX8_noteds_1 k_786 rfl (Nat.le_of_ble_eq_true rfl) rfl ?_
  refine Bd_bipush (v := 112) (pc := 4) dX8_noteds_4 (by decide) ?_
  refine Bd_ialdc (j := 112) rfl (pc := 6) dX8_noteds_6 rfl (by unfold vp_in; decide) ?_
  refine Bd_iret (pc := 7) dX8_noteds_7 rfl ?_
  exact PD_i rfl rfl
set_option maxRecDepth 100000 in
set_option maxHeartbeats 4000000 in
theorem sem_X8_blowing {C M : Mem} (h : RF C M) {t b n : Int32} : Sem mX8_blowing SH [.ref 58, .int t, .int b, .int n] M (RI SH (fun r N => r = blowV C t b n ∧ RP (blowU C t b n) M N)) := by
  refine Sem_of rfl (fun G => (Nat.le_of_ble_eq_true rfl)) (fun G => ?_)
  refine Bd_aload_0 (pc := 0) dX8_blowing_0 ?_
  refine Bd_iload_1 (pc := 1) dX8_blowing_1 ?_
  refine Bd_callV1i (cd := mX8_isTower) (pc := 2) dX8_blowing_2 k_974 v_X8_isTower ⟨(Nat.le_of_ble_eq_true rfl), (Nat.le_of_ble_eq_true rfl)⟩ rfl rfl (sem_X8_isTower h) (Nat.le_of_ble_eq_true rfl) ?_
  refine Bd_if_eq (t := 32) (pc := 5) dX8_blowing_5 (by decide) (fun b5 => ?_) (fun b5 => ?_)
  · refine Bd_iconst (v := -1) (pc := 32) dX8_blowing_32 (by decide) ?_
    refine Bd_iret (pc := 33) dX8_blowing_33 rfl ?_
    have hB : ¬ bloB C t b n := fun z => (fun q => b2_0.mp b5 q.1) (blo_iff.mpr z)
    exact ⟨_, rfl, rfl, by rw [blowV, if_neg hB], by rw [blowU, if_neg hB]; exact RP_aw h⟩
  · refine Bd_iload_2 (pc := 8) dX8_blowing_8 ?_
    refine Bd_i2l (pc := 9) dX8_blowing_9 ?_
    refine Bd_lconst (v := 0) (pc := 10) dX8_blowing_10 (by decide) ?_
    refine Bd_ldc2 k_1041 (pc := 11) dX8_blowing_11 ?_
    refine Bd_callS3i (cd := mX8_in) (pc := 14) dX8_blowing_14 k_910 v_X8_in ⟨(Nat.le_of_ble_eq_true rfl), (Nat.le_of_ble_eq_true rfl)⟩ (sem_in (a := 0) (b := 200) (by decide) (by decide)) (Nat.le_of_ble_eq_true rfl) ?_
    refine Bd_if_eq (t := 32) (pc := 17) dX8_blowing_17 (by decide) (fun b17 => ?_) (fun b17 => ?_)
    · refine Bd_iconst (v := -1) (pc := 32) dX8_blowing_32 (by decide) ?_
      refine Bd_iret (pc := 33) dX8_blowing_33 rfl ?_
      have hB : ¬ bloB C t b n := fun z => (fun q => b2_0.mp b17 q.2.1) (blo_iff.mpr z)
      exact ⟨_, rfl, rfl, by rw [blowV, if_neg hB], by rw [blowU, if_neg hB]; exact RP_aw h⟩
    · refine Bd_iload_3 (pc := 20) dX8_blowing_20 ?_
      refine Bd_i2l (pc := 21) dX8_blowing_21 ?_
      refine Bd_lconst (v := 0) (pc := 22) dX8_blowing_22 (by decide) ?_
      refine Bd_ldc2 k_1042 (pc := 23) dX8_blowing_23 ?_
      refine Bd_callS3i (cd := mX8_in) (pc := 26) dX8_blowing_26 k_910 v_X8_in ⟨(Nat.le_of_ble_eq_true rfl), (Nat.le_of_ble_eq_true rfl)⟩ (sem_in (a := 0) (b := 7) (by decide) (by decide)) (Nat.le_of_ble_eq_true rfl) ?_
      refine Bd_if_ne (t := 34) (pc := 29) dX8_blowing_29 (by decide) (fun b29 => ?_) (fun b29 => ?_)
      · have hv := vp_cn (n := 6) (vpP (b2_n.mp b5) h.1.nt6') (by omega)
        
        refine Bd_aload_0 (pc := 34) dX8_blowing_34 ?_
        refine Bd_getR (j := 0) ck8 (pc := 35) dX8_blowing_35 k_786 rfl (Nat.le_of_ble_eq_true rfl) rfl ?_
        refine Bd_bipush (v := 6) (pc := 38) dX8_blowing_38 (by decide) ?_
        refine Bd_iload_1 (pc := 40) dX8_blowing_40 ?_
        refine Bd_iadd (pc := 41) dX8_blowing_41 ?_
        refine Bd_ialdc (j := 6 + cn t) (by rw [show (6 + t : Int32) = nI (6 + cn t) from by rw [← ti6 _ hv.2, ← hv.1]]; exact nI_clamp (by omega)) (pc := 42) dX8_blowing_42 rfl (by rw [show (6 + t : Int32) = nI (6 + cn t) from by rw [← ti6 _ hv.2, ← hv.1]]; exact vpi (by omega) (by omega)) ?_
        refine Bd_iload_3 (pc := 43) dX8_blowing_43 ?_
        refine Bd_ishr (pc := 44) dX8_blowing_44 ?_
        refine Bd_iconst (v := 1) (pc := 45) dX8_blowing_45 (by decide) ?_
        refine Bd_iand (pc := 46) dX8_blowing_46 ?_
        refine Bd_if_ne (t := 53) (pc := 47) dX8_blowing_47 (by decide) (fun b47 => ?_) (fun b47 => ?_)
        · refine Bd_aload_0 (pc := 53) dX8_blowing_53 ?_
          refine Bd_callV0i (cd := mX8_blows) (pc := 54) dX8_blowing_54 k_996 v_X8_blows ⟨(Nat.le_of_ble_eq_true rfl), (Nat.le_of_ble_eq_true rfl)⟩ rfl rfl (sem_X8_blows h.aw.rf) (Nat.le_of_ble_eq_true rfl) ?_
          refine Bd_bipush (v := 24) (pc := 57) dX8_blowing_57 (by decide) ?_
          refine Bd_icmp_ne (t := 65) (pc := 59) dX8_blowing_59 (by decide) (fun b59 => ?_) (fun b59 => ?_)
          · have h24 := nb_24 h.1 b59
            refine Bd_aload_0 (pc := 65) dX8_blowing_65 ?_
            refine Bd_aload_0 (pc := 66) dX8_blowing_66 ?_
            refine Bd_callV0i (cd := mX8_blows) (pc := 67) dX8_blowing_67 k_996 v_X8_blows ⟨(Nat.le_of_ble_eq_true rfl), (Nat.le_of_ble_eq_true rfl)⟩ rfl rfl (sem_X8_blows h.aw.rf) (Nat.le_of_ble_eq_true rfl) ?_
            rw [h.1.nb]
            refine Bd_iload_1 (pc := 70) dX8_blowing_70 ?_
            refine Bd_iload_2 (pc := 71) dX8_blowing_71 ?_
            refine Bd_iload_3 (pc := 72) dX8_blowing_72 ?_
            refine Bd_callV4v (cd := mX8_puts) (pc := 73) dX8_blowing_73 k_1043 v_X8_puts ⟨(Nat.le_of_ble_eq_true rfl), (Nat.le_of_ble_eq_true rfl)⟩ rfl rfl (sem_X8_puts h24) (Nat.le_of_ble_eq_true rfl) ?_
            refine Bd_aload_0 (pc := 76) dX8_blowing_76 ?_
            refine Bd_getR (j := 0) ck8 (pc := 77) dX8_blowing_77 k_786 rfl (Nat.le_of_ble_eq_true rfl) rfl ?_
            refine Bd_bipush (v := 86) (pc := 80) dX8_blowing_80 (by decide) ?_
            refine Bd_dup2 (pc := 82) dX8_blowing_82 rfl rfl ?_
            refine Bd_ialdc (j := 86) rfl (pc := 83) dX8_blowing_83 rfl (by unfold vp_in; decide) ?_
            refine Bd_iconst (v := 1) (pc := 84) dX8_blowing_84 (by decide) ?_
            refine Bd_iadd (pc := 85) dX8_blowing_85 ?_
            have e86 : (puM (awM M) (cn (C 5 4)) t b n) 59 86 = nI (cn (C 5 4)) := by { rw [puM_o (by omega) (by omega) (by omega), ← h.1.nb]; exact h.aw.2.1.2.1.1 }
            rw [e86, ← nI_succ]
            refine Bd_iastc (j := 86) rfl (pc := 86) dX8_blowing_86 rfl (by unfold vp_in; decide) ?_
            refine Bd_aload_0 (pc := 87) dX8_blowing_87 ?_
            refine Bd_callV0i (cd := mX8_blows) (pc := 88) dX8_blowing_88 k_996 v_X8_blows ⟨(Nat.le_of_ble_eq_true rfl), (Nat.le_of_ble_eq_true rfl)⟩ rfl rfl sem_raw86 (Nat.le_of_ble_eq_true rfl) ?_
            refine Bd_iret (pc := 91) dX8_blowing_91 rfl ?_
            have hB := blo_iff.mp ⟨b2_n.mp b5, b2_n.mp b17, b2_n.mp b29⟩
            have hpe : (awM M) 59 (6 + cn t) = C 47 (cn t) := (h.aw.2.1.1.2.2.2.1 (cn t) (cn_lt (b2_n.mp b5))).2
            rw [hpe] at b47
            exact ⟨_, rfl, rfl, by rw [blowV, if_pos hB, if_pos b47, if_pos h24, updM_eq]; exact upd_eq, by rw [blowU, if_pos hB, if_pos b47, if_pos h24]; exact ⟨IV_blow h.aw h24, fun k hk => by rw [updM_ne (by omega), puM_ne (by omega), awM_lt hk]⟩⟩
          · refine Bd_bipush (v := -3) (pc := 62) dX8_blowing_62 (by decide) ?_
            refine Bd_iret (pc := 64) dX8_blowing_64 rfl ?_
            have hB := blo_iff.mp ⟨b2_n.mp b5, b2_n.mp b17, b2_n.mp b29⟩
            have hpe : (awM M) 59 (6 + cn t) = C 47 (cn t) := (h.aw.2.1.1.2.2.2.1 (cn t) (cn_lt (b2_n.mp b5))).2
            rw [hpe] at b47
            have hn : ¬ cn (C 5 4) < 24 := by rw [b59]; decide
            exact ⟨_, rfl, rfl, by rw [blowV, if_pos hB, if_pos b47, if_neg hn], by rw [blowU, if_pos hB, if_pos b47, if_neg hn]; exact RP_aw h⟩
        · refine Bd_bipush (v := -2) (pc := 50) dX8_blowing_50 (by decide) ?_
          refine Bd_iret (pc := 52) dX8_blowing_52 rfl ?_
          have hB := blo_iff.mp ⟨b2_n.mp b5, b2_n.mp b17, b2_n.mp b29⟩
          have hpe : (awM M) 59 (6 + cn t) = C 47 (cn t) := (h.aw.2.1.1.2.2.2.1 (cn t) (cn_lt (b2_n.mp b5))).2
          rw [hpe] at b47
          have hp : ¬ hpF C t n := fun z => z b47
          exact ⟨_, rfl, rfl, by rw [blowV, if_pos hB, if_neg hp], by rw [blowU, if_pos hB, if_neg hp]; exact RP_aw h⟩
      · refine Bd_iconst (v := -1) (pc := 32) dX8_blowing_32 (by decide) ?_
        refine Bd_iret (pc := 33) dX8_blowing_33 rfl ?_
        have hB : ¬ bloB C t b n := fun z => (fun q => b2_0.mp b29 q.2.2) (blo_iff.mpr z)
        exact ⟨_, rfl, rfl, by rw [blowV, if_neg hB], by rw [blowU, if_neg hB]; exact RP_aw h⟩
set_option maxRecDepth 100000 in
set_option maxHeartbeats 4000000 in
theorem sem_X8_blow {C M : Mem} (h : RF C M) {t b n : Int32} : Sem mX8_blow SH [.ref 58, .int t, .int b, .int n] M (RI SH (fun r N => r = blowV C t b n ∧ RP (blowU C t b n) M N)) := by
  refine Sem_of rfl (fun G => (Nat.le_of_ble_eq_true rfl)) (fun G => ?_)
  refine Bd_aload_0 (pc := 0) dX8_blow_0 ?_
  refine Bd_iload_1 (pc := 1) dX8_blow_1 ?_
  refine Bd_iload_2 (pc := 2) dX8_blow_2 ?_
  refine Bd_iload_3 (pc := 3) dX8_blow_3 ?_
  refine Bd_callV3x (cd := mX8_blowing) (pc := 4) dX8_blow_4 k_1037 v_X8_blowing ⟨(Nat.le_of_ble_eq_true rfl), (Nat.le_of_ble_eq_true rfl)⟩ rfl rfl (sem_X8_blowing h) (Nat.le_of_ble_eq_true rfl) (fun x4 M4 e4 => ?_)
  refine Bd_iret (pc := 7) dX8_blow_7 rfl ?_
  exact ⟨_, rfl, rfl, e4⟩
theorem IV_noted {C C' N N' : Mem} (h : RF C N) (e : ∀ k, k ≠ 59 → N' k = N k) (hc : ∀ k, k ≠ 5 → k ≠ 9 → C' k = C k) (hj : ∀ j, j ≠ 86 → ¬ (88 ≤ j ∧ j ≤ 112) → N' 59 j = N 59 j) (hb : IVb C' N') : IV C' N' := by
  have n6 := h.1.nt6
  exact IV_pg0 h.2 e (fun j hj' => hj j (by omega) (by omega)) (fun k hk => hc k (by omega) (by omega)) (IVl_hi h.2.1 e (fun j hj' => hj j (by omega) (by omega)) (hj 113 (by omega) (by omega)) (fun k hk => hc k (by omega) (by omega)) n6) hb
set_option maxRecDepth 100000 in
set_option maxHeartbeats 4000000 in
theorem sem_X8_silence {C M : Mem} (h : RF C M)  : Sem mX8_silence SH [.ref 58] M (RI SH (fun r N => r = C 5 4 ∧ RP (updM (updM C 5 4 0) 5 5 0) M N)) := by
  refine Sem_of rfl (fun G => (Nat.le_of_ble_eq_true rfl)) (fun G => ?_)
  refine Bd_aload_0 (pc := 0) dX8_silence_0 ?_
  refine Bd_callV0i (cd := mX8_blows) (pc := 1) dX8_silence_1 k_996 v_X8_blows ⟨(Nat.le_of_ble_eq_true rfl), (Nat.le_of_ble_eq_true rfl)⟩ rfl rfl (sem_X8_blows h) (Nat.le_of_ble_eq_true rfl) ?_
  refine Bd_istore_1 (pc := 4) dX8_silence_4 (Nat.le_of_ble_eq_true rfl) rfl ?_
  refine Bd_aload_0 (pc := 5) dX8_silence_5 ?_
  refine Bd_getR (j := 0) ck8 (pc := 6) dX8_silence_6 k_786 rfl (Nat.le_of_ble_eq_true rfl) rfl ?_
  refine Bd_bipush (v := 86) (pc := 9) dX8_silence_9 (by decide) ?_
  refine Bd_iconst (v := 0) (pc := 11) dX8_silence_11 (by decide) ?_
  refine Bd_iastc (j := 86) rfl (pc := 12) dX8_silence_12 rfl (by unfold vp_in; decide) ?_
  refine Bd_aload_0 (pc := 13) dX8_silence_13 ?_
  refine Bd_getR (j := 0) ck8 (pc := 14) dX8_silence_14 k_786 rfl (Nat.le_of_ble_eq_true rfl) rfl ?_
  refine Bd_bipush (v := 112) (pc := 17) dX8_silence_17 (by decide) ?_
  refine Bd_iconst (v := 0) (pc := 19) dX8_silence_19 (by decide) ?_
  refine Bd_iastc (j := 112) rfl (pc := 20) dX8_silence_20 rfl (by unfold vp_in; decide) ?_
  refine Bd_iload_1 (pc := 21) dX8_silence_21 ?_
  refine Bd_iret (pc := 22) dX8_silence_22 rfl ?_
  refine ⟨_, rfl, rfl, rfl, IV_noted h (fun k hk => by rw [updM_ne hk, updM_ne hk]) (fun k h5 _ => by rw [updM_ne h5, updM_ne h5]) (fun j h1 h2 => by rw [updM_eq, upd_ne (by omega), updM_eq, upd_ne h1]) ⟨rfl, fun i hi => absurd hi (Nat.not_lt_zero i), rfl, fun i hi => absurd hi (Nat.not_lt_zero i)⟩, fun k hk => by rw [updM_ne (by omega), updM_ne (by omega)]⟩
set_option maxRecDepth 100000 in
set_option maxHeartbeats 4000000 in
theorem sem_X8_forget {C M : Mem} (h : RF C M)  : Sem mX8_forget SH [.ref 58] M (RI SH (fun r N => r = C 5 5 ∧ RP (updM C 5 5 0) M N)) := by
  refine Sem_of rfl (fun G => (Nat.le_of_ble_eq_true rfl)) (fun G => ?_)
  refine Bd_aload_0 (pc := 0) dX8_forget_0 ?_
  refine Bd_callV0i (cd := mX8_noteds) (pc := 1) dX8_forget_1 k_1179 v_X8_noteds ⟨(Nat.le_of_ble_eq_true rfl), (Nat.le_of_ble_eq_true rfl)⟩ rfl rfl (sem_X8_noteds h) (Nat.le_of_ble_eq_true rfl) ?_
  refine Bd_istore_1 (pc := 4) dX8_forget_4 (Nat.le_of_ble_eq_true rfl) rfl ?_
  refine Bd_aload_0 (pc := 5) dX8_forget_5 ?_
  refine Bd_getR (j := 0) ck8 (pc := 6) dX8_forget_6 k_786 rfl (Nat.le_of_ble_eq_true rfl) rfl ?_
  refine Bd_bipush (v := 112) (pc := 9) dX8_forget_9 (by decide) ?_
  refine Bd_iconst (v := 0) (pc := 11) dX8_forget_11 (by decide) ?_
  refine Bd_iastc (j := 112) rfl (pc := 12) dX8_forget_12 rfl (by unfold vp_in; decide) ?_
  refine Bd_iload_1 (pc := 13) dX8_forget_13 ?_
  refine Bd_iret (pc := 14) dX8_forget_14 rfl ?_
  have q1 := h.1.nb24
  refine ⟨_, rfl, rfl, rfl, IV_noted h (fun k hk => by rw [updM_ne hk]) (fun k h5 _ => by rw [updM_ne h5]) (fun j h1 h2 => by rw [updM_eq, upd_ne (by omega)]) ⟨h.2.2.1.1, fun i hi => ?_, rfl, fun i hi => absurd hi (Nat.not_lt_zero i)⟩, fun k hk => by rw [updM_ne (by omega)]⟩
  have hi2 : i < cn (C 5 4) := hi
  rw [updM_eq, upd_ne (by omega), upd_ne (by omega), upd_ne (by omega)]
  exact h.2.2.1.2.1 i hi2
theorem nt_lt {C : Mem} (h : WF C) : C 5 5 < C 5 4 ↔ ¬ C 5 5 = C 5 4 := by
  have h1 := h.2.1.2.1
  rw [Int32.lt_iff_toInt_lt, ← Int32.toInt_inj]
  have := h1.2
  omega
set_option maxRecDepth 100000 in
set_option maxHeartbeats 4000000 in
theorem sem_X8_noted {C M : Mem} (h : RF C M) {b : Int32} : Sem mX8_noted SH [.ref 58, .int b] M (RI SH (fun r N => r = notedV C b ∧ RP (notedU C b) M N)) := by
  refine Sem_of rfl (fun G => (Nat.le_of_ble_eq_true rfl)) (fun G => ?_)
  refine Bd_iload_1 (pc := 0) dX8_noted_0 ?_
  refine Bd_i2l (pc := 1) dX8_noted_1 ?_
  refine Bd_lconst (v := 0) (pc := 2) dX8_noted_2 (by decide) ?_
  refine Bd_ldc2 k_1178 (pc := 3) dX8_noted_3 ?_
  refine Bd_callS3i (cd := mX8_in) (pc := 6) dX8_noted_6 k_910 v_X8_in ⟨(Nat.le_of_ble_eq_true rfl), (Nat.le_of_ble_eq_true rfl)⟩ (sem_in (a := 0) (b := 400) (by decide) (by decide)) (Nat.le_of_ble_eq_true rfl) ?_
  refine Bd_if_ne (t := 14) (pc := 9) dX8_noted_9 (by decide) (fun b9 => ?_) (fun b9 => ?_)
  · refine Bd_aload_0 (pc := 14) dX8_noted_14 ?_
    refine Bd_callV0i (cd := mX8_noteds) (pc := 15) dX8_noted_15 k_1179 v_X8_noteds ⟨(Nat.le_of_ble_eq_true rfl), (Nat.le_of_ble_eq_true rfl)⟩ rfl rfl (sem_X8_noteds h) (Nat.le_of_ble_eq_true rfl) ?_
    refine Bd_aload_0 (pc := 18) dX8_noted_18 ?_
    refine Bd_callV0i (cd := mX8_blows) (pc := 19) dX8_noted_19 k_996 v_X8_blows ⟨(Nat.le_of_ble_eq_true rfl), (Nat.le_of_ble_eq_true rfl)⟩ rfl rfl (sem_X8_blows h) (Nat.le_of_ble_eq_true rfl) ?_
    refine Bd_icmp_ne (t := 28) (pc := 22) dX8_noted_22 (by decide) (fun b22 => ?_) (fun b22 => ?_)
    · have hm24 : cn (C 5 5) < 24 := by { have a := h.1.nb24; have b := h.1.nmb; have c : ¬ cn (C 5 5) = cn (C 5 4) := fun z => b22 (by rw [h.1.nm, h.1.nb, z]); omega }
      refine Bd_aload_0 (pc := 28) dX8_noted_28 ?_
      refine Bd_getR (j := 0) ck8 (pc := 29) dX8_noted_29 k_786 rfl (Nat.le_of_ble_eq_true rfl) rfl ?_
      refine Bd_bipush (v := 88) (pc := 32) dX8_noted_32 (by decide) ?_
      refine Bd_aload_0 (pc := 34) dX8_noted_34 ?_
      refine Bd_callV0i (cd := mX8_noteds) (pc := 35) dX8_noted_35 k_1179 v_X8_noteds ⟨(Nat.le_of_ble_eq_true rfl), (Nat.le_of_ble_eq_true rfl)⟩ rfl rfl (sem_X8_noteds h) (Nat.le_of_ble_eq_true rfl) ?_
      refine Bd_iadd (pc := 38) dX8_noted_38 ?_
      refine Bd_iload_1 (pc := 39) dX8_noted_39 ?_
      refine Bd_iastc (j := 88 + cn (C 5 5)) (by rw [show (88 + C 5 5 : Int32) = nI (88 + cn (C 5 5)) from by rw [← ti88 _ hm24, ← h.1.nm]]; exact nI_clamp (by omega)) (pc := 40) dX8_noted_40 rfl (by rw [show (88 + C 5 5 : Int32) = nI (88 + cn (C 5 5)) from by rw [← ti88 _ hm24, ← h.1.nm]]; exact vpi (by omega) (by omega)) ?_
      refine Bd_aload_0 (pc := 41) dX8_noted_41 ?_
      refine Bd_getR (j := 0) ck8 (pc := 42) dX8_noted_42 k_786 rfl (Nat.le_of_ble_eq_true rfl) rfl ?_
      refine Bd_bipush (v := 112) (pc := 45) dX8_noted_45 (by decide) ?_
      refine Bd_dup2 (pc := 47) dX8_noted_47 rfl rfl ?_
      refine Bd_ialdc (j := 112) rfl (pc := 48) dX8_noted_48 rfl (by unfold vp_in; decide) ?_
      refine Bd_iconst (v := 1) (pc := 49) dX8_noted_49 (by decide) ?_
      refine Bd_iadd (pc := 50) dX8_noted_50 ?_
      have e112 : (updM M 59 (88 + cn (C 5 5)) b) 59 112 = C 5 5 := by { rw [updM_eq, upd_ne (by omega)]; exact h.2.2.1.2.2.1 }
      rw [e112]
      refine Bd_iastc (j := 112) rfl (pc := 51) dX8_noted_51 rfl (by unfold vp_in; decide) ?_
      refine Bd_aload_0 (pc := 52) dX8_noted_52 ?_
      refine Bd_callV0i (cd := mX8_noteds) (pc := 53) dX8_noted_53 k_1179 v_X8_noteds ⟨(Nat.le_of_ble_eq_true rfl), (Nat.le_of_ble_eq_true rfl)⟩ rfl rfl sem_raw112 (Nat.le_of_ble_eq_true rfl) ?_
      refine Bd_iret (pc := 56) dX8_noted_56 rfl ?_
      have q := b2_n.mp b9
      have q1 : ¬ b < 0 := Int32.not_lt.mpr q.1
      have q3 := (nt_lt h.1).mpr b22
      refine ⟨_, rfl, rfl, by rw [notedV, if_neg q1, if_pos q.2, if_pos q3, updM_eq]; exact upd_eq, ?_, fun k hk => by rw [updM_ne (by omega), updM_ne (by omega)]⟩
      rw [notedU, if_neg q1, if_pos q.2, if_pos q3]
      have n24 := h.1.nb24
      have e1 : C 5 5 + 1 = nI (cn (C 5 5) + 1) := by rw [nI_succ, ← h.1.nm]
      rw [e1]
      have ec : cn (nI (cn (C 5 5) + 1)) = cn (C 5 5) + 1 := nI_clamp (by omega)
      refine IV_noted h (fun k hk => by rw [updM_ne hk, updM_ne hk]) (fun k h5 h9 => by rw [updM_ne h5, updM_ne h9]) (fun j h1 h2 => by rw [updM_eq, upd_ne (by omega), updM_eq, upd_ne (by omega)]) ⟨by rw [updM_eq, upd_ne (by omega), updM_eq, upd_ne (by omega)]; exact h.2.2.1.1, fun i hi => ?_, by rw [updM_eq]; exact upd_eq, fun i hi => ?_⟩
      · have hi2 : i < cn (C 5 4) := hi
        rw [updM_eq, upd_ne (by omega), upd_ne (by omega), upd_ne (by omega), updM_eq, upd_ne (by omega), upd_ne (by omega), upd_ne (by omega)]
        exact h.2.2.1.2.1 i hi2
      · have hi2 : i < cn (nI (cn (C 5 5) + 1)) := hi
        rw [ec] at hi2
        show _ = upd (C 9) (cn (C 5 5)) b i
        rw [updM_eq, upd_ne (by omega), updM_eq, show 0 + 88 + i = 88 + i by omega]
        by_cases z : i = cn (C 5 5)
        · subst z; rw [upd_eq, upd_eq]
        · rw [upd_ne (by omega), upd_ne z]
          have w1 := h.2.2.1.2.2.2 i (by omega)
          rw [show 0 + 88 + i = 88 + i by omega] at w1
          exact w1
    · refine Bd_bipush (v := -2) (pc := 25) dX8_noted_25 (by decide) ?_
      refine Bd_iret (pc := 27) dX8_noted_27 rfl ?_
      have q := b2_n.mp b9
      have q1 : ¬ b < 0 := Int32.not_lt.mpr q.1
      have q3 : ¬ C 5 5 < C 5 4 := fun z => (nt_lt h.1).mp z b22
      exact ⟨_, rfl, rfl, by rw [notedV, if_neg q1, if_pos q.2, if_neg q3], by rw [notedU, if_neg q1, if_pos q.2, if_neg q3]; exact RP_rf h⟩
  · refine Bd_iconst (v := -1) (pc := 12) dX8_noted_12 (by decide) ?_
    refine Bd_iret (pc := 13) dX8_noted_13 rfl ?_
    have q := b2_0.mp b9
    by_cases q1 : b < 0
    · exact ⟨_, rfl, rfl, by rw [notedV, if_pos q1], by rw [notedU, if_pos q1]; exact RP_rf h⟩
    · have q2 : ¬ b ≤ 400 := fun z => q ⟨Int32.not_lt.mp q1, z⟩
      exact ⟨_, rfl, rfl, by rw [notedV, if_neg q1, if_neg q2], by rw [notedU, if_neg q1, if_neg q2]; exact RP_rf h⟩
