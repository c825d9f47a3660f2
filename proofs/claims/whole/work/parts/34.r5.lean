/-! 34: the reference: carry, blown, runs, fits, lost, off, near -/
set_option maxRecDepth 100000 in
set_option maxHeartbeats 4000000 in
theorem sem_X8_carry {C M : Mem} (h : RF C M) {t p : Int32} : Sem mX8_carry SH [.ref 58, .int t, .int p] M (RI SH (fun r N => r = carryV C t p ∧ RP (carryU C t p) M N)) := by
  have q1 := h.1.nb24
  refine Sem_of rfl (fun G => (Nat.le_of_ble_eq_true rfl)) (fun G => ?_)
  refine Bd_aload_0 (pc := 0) dX8_carry_0 ?_
  refine Bd_iload_1 (pc := 1) dX8_carry_1 ?_
  refine Bd_callV1i (cd := mX8_isTower) (pc := 2) dX8_carry_2 k_974 v_X8_isTower ⟨(Nat.le_of_ble_eq_true rfl), (Nat.le_of_ble_eq_true rfl)⟩ rfl rfl (sem_X8_isTower h) (Nat.le_of_ble_eq_true rfl) ?_
  refine Bd_if_eq (t := 20) (pc := 5) dX8_carry_5 (by decide) (fun b5 => ?_) (fun b5 => ?_)
  · refine Bd_iconst (v := -1) (pc := 20) dX8_carry_20 (by decide) ?_
    refine Bd_iret (pc := 21) dX8_carry_21 rfl ?_
    have hB : ¬ carB C t p := fun q => b2_0.mp b5 q.1
    exact ⟨_, rfl, rfl, by rw [carryV, if_neg hB], by rw [carryU, if_neg hB]; exact RP_aw h⟩
  · refine Bd_iload_2 (pc := 8) dX8_carry_8 ?_
    refine Bd_i2l (pc := 9) dX8_carry_9 ?_
    refine Bd_lconst (v := 0) (pc := 10) dX8_carry_10 (by decide) ?_
    refine Bd_ldc2 k_995 (pc := 11) dX8_carry_11 ?_
    refine Bd_callS3i (cd := mX8_in) (pc := 14) dX8_carry_14 k_910 v_X8_in ⟨(Nat.le_of_ble_eq_true rfl), (Nat.le_of_ble_eq_true rfl)⟩ (sem_in (a := 0) (b := 255) (by decide) (by decide)) (Nat.le_of_ble_eq_true rfl) ?_
    refine Bd_if_ne (t := 22) (pc := 17) dX8_carry_17 (by decide) (fun b17 => ?_) (fun b17 => ?_)
    · refine Bd_iconst (v := 0) (pc := 22) dX8_carry_22 (by decide) ?_
      refine Bd_istore_3 (pc := 23) dX8_carry_23 (Nat.le_of_ble_eq_true rfl) rfl ?_
      have hB : carB C t p := ⟨b2_n.mp b5, Int32.not_lt.mpr (b2_n.mp b17).1, (b2_n.mp b17).2⟩
      refine Bd_nx (L' := (fun i => [some (.ref 58), some (.int t), some (.int p), some (.int (nI i))]) 0) ?_ (by repeat (first | exact True.intro | refine And.intro rfl ?_))
      refine Bd_for (pc := 24) (c := (cn (C 5 4))) (fun i => [some (.ref 58), some (.int t), some (.int p), some (.int (nI i))]) (fun _ => awM M) (fun i => ∀ j, j < i → C 6 j = t → ¬ (p >>> (C 8 j &&& 31) &&& 1) = 0) (fun ivi => ?_) (fun i hi ivi ihi => ?_) (fun j hj => absurd hj (Nat.not_lt_zero j))
      · refine Bd_iload_3 (pc := 24) dX8_carry_24 ?_
        refine Bd_aload_0 (pc := 25) dX8_carry_25 ?_
        refine Bd_callV0i (cd := mX8_blows) (pc := 26) dX8_carry_26 k_996 v_X8_blows ⟨(Nat.le_of_ble_eq_true rfl), (Nat.le_of_ble_eq_true rfl)⟩ rfl rfl (sem_X8_blows h.aw.rf) (Nat.le_of_ble_eq_true rfl) ?_
        refine Bd_icmp_ge (t := 62) (pc := 29) dX8_carry_29 (by decide) (fun b29 => ?_) (fun b29 => (show False from lf_x h.1.nb b29).elim)
        have hv := vp_cn (n := 6) (vpP (b2_n.mp b5) h.1.nt6') (by omega)
        
        refine Bd_aload_0 (pc := 62) dX8_carry_62 ?_
        refine Bd_getR (j := 0) ck8 (pc := 63) dX8_carry_63 k_786 rfl (Nat.le_of_ble_eq_true rfl) rfl ?_
        refine Bd_bipush (v := 6) (pc := 66) dX8_carry_66 (by decide) ?_
        refine Bd_iload_1 (pc := 68) dX8_carry_68 ?_
        refine Bd_iadd (pc := 69) dX8_carry_69 ?_
        refine Bd_ialdc (j := 6 + cn t) (by rw [show (6 + t : Int32) = nI (6 + cn t) from by rw [← ti6 _ hv.2, ← hv.1]]; exact nI_clamp (by omega)) (pc := 70) dX8_carry_70 rfl (by rw [show (6 + t : Int32) = nI (6 + cn t) from by rw [← ti6 _ hv.2, ← hv.1]]; exact vpi (by omega) (by omega)) ?_
        refine Bd_istore_3 (pc := 71) dX8_carry_71 (Nat.le_of_ble_eq_true rfl) rfl ?_
        refine Bd_aload_0 (pc := 72) dX8_carry_72 ?_
        refine Bd_getR (j := 0) ck8 (pc := 73) dX8_carry_73 k_786 rfl (Nat.le_of_ble_eq_true rfl) rfl ?_
        refine Bd_bipush (v := 6) (pc := 76) dX8_carry_76 (by decide) ?_
        refine Bd_iload_1 (pc := 78) dX8_carry_78 ?_
        refine Bd_iadd (pc := 79) dX8_carry_79 ?_
        refine Bd_iload_2 (pc := 80) dX8_carry_80 ?_
        refine Bd_iastc (j := 6 + cn t) (by rw [show (6 + t : Int32) = nI (6 + cn t) from by rw [← ti6 _ hv.2, ← hv.1]]; exact nI_clamp (by omega)) (pc := 81) dX8_carry_81 rfl (by rw [show (6 + t : Int32) = nI (6 + cn t) from by rw [← ti6 _ hv.2, ← hv.1]]; exact vpi (by omega) (by omega)) ?_
        refine Bd_iload_3 (pc := 82) dX8_carry_82 ?_
        refine Bd_iret (pc := 83) dX8_carry_83 rfl ?_
        have hS := (car_iff h.1).mpr ivi
        have ht := cn_lt (b2_n.mp b5)
        exact ⟨_, rfl, rfl, by rw [carryV, if_pos hB, if_pos hS]; exact (h.aw.2.1.1.2.2.2.1 (cn t) ht).2, by rw [carryU, if_pos hB, if_pos hS]; exact ⟨IV_carry h.aw ht, fun k hk => by rw [updM_ne (by omega), awM_lt hk]⟩⟩
      · refine Bd_iload_3 (pc := 24) dX8_carry_24 ?_
        refine Bd_aload_0 (pc := 25) dX8_carry_25 ?_
        refine Bd_callV0i (cd := mX8_blows) (pc := 26) dX8_carry_26 k_996 v_X8_blows ⟨(Nat.le_of_ble_eq_true rfl), (Nat.le_of_ble_eq_true rfl)⟩ rfl rfl (sem_X8_blows h.aw.rf) (Nat.le_of_ble_eq_true rfl) ?_
        refine Bd_icmp_ge (t := 62) (pc := 29) dX8_carry_29 (by decide) (fun b29 => (show False from lf_s h.1.nb (by omega) hi b29).elim) (fun b29 => ?_)
        refine Bd_aload_0 (pc := 32) dX8_carry_32 ?_
        refine Bd_iload_3 (pc := 33) dX8_carry_33 ?_
        refine Bd_callV1i (cd := mX8_towerOf) (pc := 34) dX8_carry_34 k_1000 v_X8_towerOf ⟨(Nat.le_of_ble_eq_true rfl), (Nat.le_of_ble_eq_true rfl)⟩ rfl rfl (sem_X8_towerOf h.aw.rf hi) (Nat.le_of_ble_eq_true rfl) ?_
        refine Bd_iload_1 (pc := 37) dX8_carry_37 ?_
        refine Bd_icmp_ne (t := 56) (pc := 38) dX8_carry_38 (by decide) (fun b38 => ?_) (fun b38 => ?_)
        · refine Bd_iinc_3 (pc := 56) dX8_carry_56 (show _ + Int32.ofInt 1 = _ + 1 from rfl) (Nat.le_of_ble_eq_true rfl) rfl ?_
          refine Bd_goto (t := 24) (pc := 59) dX8_carry_59 (by decide) ?_
          exact Bd_nx (ihi (fun j hj => by rcases Nat.lt_succ_iff_lt_or_eq.mp hj with q | q; exact ivi j q; rw [q]; exact fun z => absurd z b38)) (by simp [wkP, nI_succ])
        · refine Bd_iload_2 (pc := 41) dX8_carry_41 ?_
          refine Bd_aload_0 (pc := 42) dX8_carry_42 ?_
          refine Bd_iload_3 (pc := 43) dX8_carry_43 ?_
          refine Bd_callV1i (cd := mX8_toneOf) (pc := 44) dX8_carry_44 k_1004 v_X8_toneOf ⟨(Nat.le_of_ble_eq_true rfl), (Nat.le_of_ble_eq_true rfl)⟩ rfl rfl (sem_X8_toneOf h.aw.rf hi) (Nat.le_of_ble_eq_true rfl) ?_
          refine Bd_ishr (pc := 47) dX8_carry_47 ?_
          refine Bd_iconst (v := 1) (pc := 48) dX8_carry_48 (by decide) ?_
          refine Bd_iand (pc := 49) dX8_carry_49 ?_
          refine Bd_if_ne (t := 56) (pc := 50) dX8_carry_50 (by decide) (fun b50 => ?_) (fun b50 => ?_)
          · refine Bd_iinc_3 (pc := 56) dX8_carry_56 (show _ + Int32.ofInt 1 = _ + 1 from rfl) (Nat.le_of_ble_eq_true rfl) rfl ?_
            refine Bd_goto (t := 24) (pc := 59) dX8_carry_59 (by decide) ?_
            exact Bd_nx (ihi (fun j hj => by rcases Nat.lt_succ_iff_lt_or_eq.mp hj with q | q; exact ivi j q; rw [q]; exact fun _ => b50)) (by simp [wkP, nI_succ])
          · refine Bd_bipush (v := -2) (pc := 53) dX8_carry_53 (by decide) ?_
            refine Bd_iret (pc := 55) dX8_carry_55 rfl ?_
            have hS : ¬ carS C t p := fun z => (car_iff h.1).mp z i hi b38 b50
            exact ⟨_, rfl, rfl, by rw [carryV, if_pos hB, if_neg hS], by rw [carryU, if_pos hB, if_neg hS]; exact RP_aw h⟩
    · refine Bd_iconst (v := -1) (pc := 20) dX8_carry_20 (by decide) ?_
      refine Bd_iret (pc := 21) dX8_carry_21 rfl ?_
      have hB : ¬ carB C t p := fun q => b2_0.mp b17 ⟨Int32.not_lt.mp q.2.1, q.2.2⟩
      exact ⟨_, rfl, rfl, by rw [carryV, if_neg hB], by rw [carryU, if_neg hB]; exact RP_aw h⟩
theorem tk3 : ∀ n, n < 24 → ∀ q, q < 3 → (14 + 3 * nI n + nI q : Int32) = nI (14 + 3 * n + q) := by decide +kernel
theorem bw_v {C M : Mem} (h : RF C M) {n : Nat} (hn : n < cn (C 5 4)) {k : Int32} (hk : 0 ≤ k ∧ k ≤ 2) : M 59 (14 + 3 * n + cn k) = (if k = 0 then C 6 n else if k = 1 then C 7 n else if k = 2 then C 8 n else 0) := by
  have q := h.2.2.1.2.1 n hn
  rw [show 0 + 14 + 3 * n = 14 + 3 * n by omega, show 0 + 15 + 3 * n = 14 + 3 * n + 1 by omega, show 0 + 16 + 3 * n = 14 + 3 * n + 2 by omega] at q
  by_cases h0 : k = 0
  · subst h0; exact q.1
  · by_cases h1 : k = 1
    · subst h1; exact q.2.1
    · have := k3_2 hk h0 h1; subst this; exact q.2.2
theorem sem_comesI {C M : Mem} (h : RK C M) {i c : Int32} (hi : 0 ≤ i ∧ i < C 5 4) (hc : c81 c) : Sem mX8_comes SH [.ref 58, .int i, .int c] M (PD SH (some (.int (cmF C (cn i) c))) M) := by
  have hv := vp_cn (n := 24) (vpP hi h.1.nb24') (by omega)
  have := sem_X8_comes h (i := cn i) (cn_lt hi) hc
  rw [← hv.1] at this
  exact this
theorem tk3' {i k : Int32} {n : Nat} (hi : i = nI n) (hn : n < 24) (hk : 0 ≤ k ∧ k ≤ 2) : (14 + 3 * i + k : Int32) = nI (14 + 3 * n + cn k) ∧ cn k < 3 := by
  have hv := in_lt hk (n := 3) (by decide) (by decide)
  have := tk3 n hn (cn k) hv.2
  rw [← hv.1, ← hi] at this
  exact ⟨this, hv.2⟩
set_option maxRecDepth 100000 in
set_option maxHeartbeats 4000000 in
theorem sem_X8_blown {C M : Mem} (h : RF C M) {i k : Int32} : Sem mX8_blown SH [.ref 58, .int i, .int k] M (RI SH (fun r N => r = blownV C i k ∧ RP (C) M N)) := by
  refine Sem_of rfl (fun G => (Nat.le_of_ble_eq_true rfl)) (fun G => ?_)
  refine Bd_aload_0 (pc := 0) dX8_blown_0 ?_
  refine Bd_callV0v (cd := mX8_awake) (pc := 1) dX8_blown_1 k_965 v_X8_awake ⟨(Nat.le_of_ble_eq_true rfl), (Nat.le_of_ble_eq_true rfl)⟩ rfl rfl (sem_X8_awake h.a6) (Nat.le_of_ble_eq_true rfl) ?_
  refine Bd_iload_1 (pc := 4) dX8_blown_4 ?_
  refine Bd_i2l (pc := 5) dX8_blown_5 ?_
  refine Bd_lconst (v := 0) (pc := 6) dX8_blown_6 (by decide) ?_
  refine Bd_aload_0 (pc := 7) dX8_blown_7 ?_
  refine Bd_callV0i (cd := mX8_blows) (pc := 8) dX8_blown_8 k_996 v_X8_blows ⟨(Nat.le_of_ble_eq_true rfl), (Nat.le_of_ble_eq_true rfl)⟩ rfl rfl (sem_X8_blows h.aw.rf) (Nat.le_of_ble_eq_true rfl) ?_
  refine Bd_iconst (v := 1) (pc := 11) dX8_blown_11 (by decide) ?_
  refine Bd_isub (pc := 12) dX8_blown_12 ?_
  refine Bd_i2l (pc := 13) dX8_blown_13 ?_
  refine Bd_callS3i (cd := mX8_in) (pc := 14) dX8_blown_14 k_910 v_X8_in ⟨(Nat.le_of_ble_eq_true rfl), (Nat.le_of_ble_eq_true rfl)⟩ (sem_in (a := 0) (by decide) rfl) (Nat.le_of_ble_eq_true rfl) ?_
  refine Bd_if_ne (t := 22) (pc := 17) dX8_blown_17 (by decide) (fun b17 => ?_) (fun b17 => ?_)
  · refine Bd_iload_2 (pc := 22) dX8_blown_22 ?_
    refine Bd_i2l (pc := 23) dX8_blown_23 ?_
    refine Bd_lconst (v := 0) (pc := 24) dX8_blown_24 (by decide) ?_
    refine Bd_ldc2 k_990 (pc := 25) dX8_blown_25 ?_
    refine Bd_callS3i (cd := mX8_in) (pc := 28) dX8_blown_28 k_910 v_X8_in ⟨(Nat.le_of_ble_eq_true rfl), (Nat.le_of_ble_eq_true rfl)⟩ (sem_in (a := 0) (b := 2) (by decide) (by decide)) (Nat.le_of_ble_eq_true rfl) ?_
    refine Bd_if_eq (t := 50) (pc := 31) dX8_blown_31 (by decide) (fun b31 => ?_) (fun b31 => ?_)
    · refine Bd_iload_2 (pc := 50) dX8_blown_50 ?_
      refine Bd_bipush (v := 10) (pc := 51) dX8_blown_51 (by decide) ?_
      refine Bd_icmp_lt (t := 79) (pc := 53) dX8_blown_53 (by decide) (fun b53 => ?_) (fun b53 => ?_)
      · refine Bd_iconst (v := -1) (pc := 79) dX8_blown_79 (by decide) ?_
        refine Bd_iret (pc := 80) dX8_blown_80 rfl ?_
        have qi := b2_n.mp b17
        rw [in_pred h.1.2.1.1.1] at qi
        have n0 : ¬ k = 0 := fun z => b2_0.mp b31 (by rw [z]; decide)
        have n1 : ¬ k = 1 := fun z => b2_0.mp b31 (by rw [z]; decide)
        have n2 : ¬ k = 2 := fun z => b2_0.mp b31 (by rw [z]; decide)
        exact ⟨_, rfl, rfl, by rw [blownV, if_pos qi, if_neg n0, if_neg n1, if_neg n2, if_pos b53], RP_aw h⟩
      · refine Bd_aload_0 (pc := 56) dX8_blown_56 ?_
        refine Bd_iload_2 (pc := 57) dX8_blown_57 ?_
        refine Bd_bipush (v := 10) (pc := 58) dX8_blown_58 (by decide) ?_
        refine Bd_isub (pc := 60) dX8_blown_60 ?_
        refine Bd_callV1i (cd := mX8_isCell) (pc := 61) dX8_blown_61 k_1012 v_X8_isCell ⟨(Nat.le_of_ble_eq_true rfl), (Nat.le_of_ble_eq_true rfl)⟩ rfl rfl (sem_isCellK h.aw) (Nat.le_of_ble_eq_true rfl) ?_
        refine Bd_if_eq (t := 79) (pc := 64) dX8_blown_64 (by decide) (fun b64 => ?_) (fun b64 => ?_)
        · refine Bd_iconst (v := -1) (pc := 79) dX8_blown_79 (by decide) ?_
          refine Bd_iret (pc := 80) dX8_blown_80 rfl ?_
          have qi := b2_n.mp b17
          rw [in_pred h.1.2.1.1.1] at qi
          have n0 : ¬ k = 0 := fun z => b2_0.mp b31 (by rw [z]; decide)
          have n1 : ¬ k = 1 := fun z => b2_0.mp b31 (by rw [z]; decide)
          have n2 : ¬ k = 2 := fun z => b2_0.mp b31 (by rw [z]; decide)
          exact ⟨_, rfl, rfl, by rw [blownV, if_pos qi, if_neg n0, if_neg n1, if_neg n2, if_neg b53, if_neg (b2_0.mp b64)], RP_aw h⟩
        · have qi := b2_n.mp b17
          rw [in_pred h.1.2.1.1.1] at qi
          have hv := vp_cn (n := 24) (vpP qi h.1.nb24') (by omega)
          refine Bd_aload_0 (pc := 67) dX8_blown_67 ?_
          refine Bd_iload_1 (pc := 68) dX8_blown_68 ?_
          refine Bd_iload_2 (pc := 69) dX8_blown_69 ?_
          refine Bd_bipush (v := 10) (pc := 70) dX8_blown_70 (by decide) ?_
          refine Bd_isub (pc := 72) dX8_blown_72 ?_
          refine Bd_callV2i (cd := mX8_comes) (pc := 73) dX8_blown_73 k_1055 v_X8_comes ⟨(Nat.le_of_ble_eq_true rfl), (Nat.le_of_ble_eq_true rfl)⟩ rfl rfl (sem_comesI h.aw qi (b2_n.mp b64).1) (Nat.le_of_ble_eq_true rfl) ?_
          refine Bd_goto (t := 80) (pc := 76) dX8_blown_76 (by decide) ?_
          refine Bd_iret (pc := 80) dX8_blown_80 rfl ?_
          have n0 : ¬ k = 0 := fun z => b2_0.mp b31 (by rw [z]; decide)
          have n1 : ¬ k = 1 := fun z => b2_0.mp b31 (by rw [z]; decide)
          have n2 : ¬ k = 2 := fun z => b2_0.mp b31 (by rw [z]; decide)
          exact ⟨_, rfl, rfl, by rw [blownV, if_pos qi, if_neg n0, if_neg n1, if_neg n2, if_neg b53, if_pos (b2_n.mp b64)], RP_aw h⟩
    · have qi := b2_n.mp b17
      rw [in_pred h.1.2.1.1.1] at qi
      have hv := vp_cn (n := 24) (vpP qi h.1.nb24') (by omega)
      refine Bd_aload_0 (pc := 34) dX8_blown_34 ?_
      refine Bd_getR (j := 0) ck8 (pc := 35) dX8_blown_35 k_786 rfl (Nat.le_of_ble_eq_true rfl) rfl ?_
      refine Bd_bipush (v := 14) (pc := 38) dX8_blown_38 (by decide) ?_
      refine Bd_iconst (v := 3) (pc := 40) dX8_blown_40 (by decide) ?_
      refine Bd_iload_1 (pc := 41) dX8_blown_41 ?_
      refine Bd_imul (pc := 42) dX8_blown_42 ?_
      refine Bd_iadd (pc := 43) dX8_blown_43 ?_
      refine Bd_iload_2 (pc := 44) dX8_blown_44 ?_
      refine Bd_iadd (pc := 45) dX8_blown_45 ?_
      refine Bd_ialdc (j := 14 + 3 * cn i + cn k) (by rw [(tk3' hv.1 hv.2 (b2_n.mp b31)).1]; exact nI_clamp (by have := (tk3' hv.1 hv.2 (b2_n.mp b31)).2; omega)) (pc := 46) dX8_blown_46 rfl (by rw [(tk3' hv.1 hv.2 (b2_n.mp b31)).1]; exact vpi (by have := (tk3' hv.1 hv.2 (b2_n.mp b31)).2; omega) (by omega)) ?_
      refine Bd_goto (t := 80) (pc := 47) dX8_blown_47 (by decide) ?_
      refine Bd_iret (pc := 80) dX8_blown_80 rfl ?_
      refine ⟨_, rfl, rfl, ?_, RP_aw h⟩
      rw [bw_v h.aw.rf (cn_lt qi) (b2_n.mp b31), blownV, if_pos qi]
      have hk := b2_n.mp b31
      by_cases h0 : k = 0
      · rw [if_pos h0, if_pos h0]
      · rw [if_neg h0, if_neg h0]
        by_cases h1 : k = 1
        · rw [if_pos h1, if_pos h1]
        · rw [if_neg h1, if_neg h1, if_pos (k3_2 hk h0 h1), if_pos (k3_2 hk h0 h1)]
  · refine Bd_iconst (v := -1) (pc := 20) dX8_blown_20 (by decide) ?_
    refine Bd_iret (pc := 21) dX8_blown_21 rfl ?_
    have qi := b2_0.mp b17
    rw [in_pred h.1.2.1.1.1] at qi
    exact ⟨_, rfl, rfl, by rw [blownV, if_neg qi], RP_aw h⟩
theorem hf_self (a : Int32) : hfF a a = 0 := by unfold hfF; rw [Int32.sub_self, Int32.sub_self]; decide
theorem mx1 (n : Int32) : (if 1 ≤ n then n else 1) = mxF 1 n := by
  unfold mxF
  by_cases h : 1 < n
  · rw [if_pos h, if_pos (Int32.le_of_lt h)]
  · rw [if_neg h]
    by_cases h2 : 1 ≤ n
    · rw [if_pos h2]; exact Int32.le_antisymm (Int32.not_lt.mp h) h2
    · rw [if_neg h2]
set_option maxRecDepth 100000 in
set_option maxHeartbeats 4000000 in
theorem sem_X8_canRun {C M : Mem} (h : RF C M) {i j : Nat} (hi : i < cn (C 5 4)) (hj : j < cn (C 5 4)) : Sem mX8_canRun SH [.ref 58, .int (nI i), .int (nI j)] M (PD SH (some (.int (b2 (crF C i j)))) (M)) := by
  have q3 := h.1.nt6
  have ti := h.1.bt' hi
  have tj := h.1.bt' hj
  refine Sem_of rfl (fun G => (Nat.le_of_ble_eq_true rfl)) (fun G => ?_)
  refine Bd_aload_0 (pc := 0) dX8_canRun_0 ?_
  refine Bd_getR (j := 0) ck8 (pc := 1) dX8_canRun_1 k_786 rfl (Nat.le_of_ble_eq_true rfl) rfl ?_
  refine Bd_iconst (v := 0) (pc := 4) dX8_canRun_4 (by decide) ?_
  refine Bd_aload_0 (pc := 5) dX8_canRun_5 ?_
  refine Bd_iload_1 (pc := 6) dX8_canRun_6 ?_
  refine Bd_callV1i (cd := mX8_towerOf) (pc := 7) dX8_canRun_7 k_1000 v_X8_towerOf ⟨(Nat.le_of_ble_eq_true rfl), (Nat.le_of_ble_eq_true rfl)⟩ rfl rfl (sem_X8_towerOf h hi) (Nat.le_of_ble_eq_true rfl) ?_
  refine Bd_iadd (pc := 10) dX8_canRun_10 ?_
  refine Bd_ialdc (j := cn (C 6 i)) (by rw [Int32.zero_add]) (pc := 11) dX8_canRun_11 rfl (by rw [Int32.zero_add, ti.1]; exact vpi (by omega) (by omega)) ?_
  refine Bd_aload_0 (pc := 12) dX8_canRun_12 ?_
  refine Bd_getR (j := 0) ck8 (pc := 13) dX8_canRun_13 k_786 rfl (Nat.le_of_ble_eq_true rfl) rfl ?_
  refine Bd_iconst (v := 0) (pc := 16) dX8_canRun_16 (by decide) ?_
  refine Bd_aload_0 (pc := 17) dX8_canRun_17 ?_
  refine Bd_iload_2 (pc := 18) dX8_canRun_18 ?_
  refine Bd_callV1i (cd := mX8_towerOf) (pc := 19) dX8_canRun_19 k_1000 v_X8_towerOf ⟨(Nat.le_of_ble_eq_true rfl), (Nat.le_of_ble_eq_true rfl)⟩ rfl rfl (sem_X8_towerOf h hj) (Nat.le_of_ble_eq_true rfl) ?_
  refine Bd_iadd (pc := 22) dX8_canRun_22 ?_
  refine Bd_ialdc (j := cn (C 6 j)) (by rw [Int32.zero_add]) (pc := 23) dX8_canRun_23 rfl (by rw [Int32.zero_add, tj.1]; exact vpi (by omega) (by omega)) ?_
  rw [(h.2.1.2.2.2.1 _ ti.2).1, (h.2.1.2.2.2.1 _ tj.2).1]
  refine Bd_callS2i (cd := mX8_farOf) (pc := 24) dX8_canRun_24 k_1024 v_X8_farOf ⟨(Nat.le_of_ble_eq_true rfl), (Nat.le_of_ble_eq_true rfl)⟩ sem_X8_farOf (Nat.le_of_ble_eq_true rfl) ?_
  refine Bd_istore_3 (pc := 27) dX8_canRun_27 (Nat.le_of_ble_eq_true rfl) rfl ?_
  refine Bd_aload_0 (pc := 28) dX8_canRun_28 ?_
  refine Bd_iload_1 (pc := 29) dX8_canRun_29 ?_
  refine Bd_callV1i (cd := mX8_towerOf) (pc := 30) dX8_canRun_30 k_1000 v_X8_towerOf ⟨(Nat.le_of_ble_eq_true rfl), (Nat.le_of_ble_eq_true rfl)⟩ rfl rfl (sem_X8_towerOf h hi) (Nat.le_of_ble_eq_true rfl) ?_
  refine Bd_aload_0 (pc := 33) dX8_canRun_33 ?_
  refine Bd_iload_2 (pc := 34) dX8_canRun_34 ?_
  refine Bd_callV1i (cd := mX8_towerOf) (pc := 35) dX8_canRun_35 k_1000 v_X8_towerOf ⟨(Nat.le_of_ble_eq_true rfl), (Nat.le_of_ble_eq_true rfl)⟩ rfl rfl (sem_X8_towerOf h hj) (Nat.le_of_ble_eq_true rfl) ?_
  refine Bd_icmp_ne (t := 45) (pc := 38) dX8_canRun_38 (by decide) (fun b38 => ?_) (fun b38 => ?_)
  · refine Bd_aload_0 (pc := 45) dX8_canRun_45 ?_
    refine Bd_getR (j := 1) ck8 (pc := 46) dX8_canRun_46 k_787 rfl (Nat.le_of_ble_eq_true rfl) rfl ?_
    refine Bd_iconst (v := 3) (pc := 49) dX8_canRun_49 (by decide) ?_
    refine Bd_ialdc (j := 3) rfl (pc := 50) dX8_canRun_50 rfl (by unfold vp_in; decide) ?_
    refine Bd_iload_3 (pc := 51) dX8_canRun_51 ?_
    rw [h.2.1.1 3 (by decide)]
    refine Bd_imul (pc := 52) dX8_canRun_52 ?_
    refine Bd_istore_4 (pc := 53) dX8_canRun_53 (Nat.le_of_ble_eq_true rfl) rfl ?_
    refine Bd_aload_0 (pc := 55) dX8_canRun_55 ?_
    refine Bd_iload_2 (pc := 56) dX8_canRun_56 ?_
    refine Bd_callV1i (cd := mX8_beatOf) (pc := 57) dX8_canRun_57 k_1059 v_X8_beatOf ⟨(Nat.le_of_ble_eq_true rfl), (Nat.le_of_ble_eq_true rfl)⟩ rfl rfl (sem_X8_beatOf h hj) (Nat.le_of_ble_eq_true rfl) ?_
    refine Bd_aload_0 (pc := 60) dX8_canRun_60 ?_
    refine Bd_iload_1 (pc := 61) dX8_canRun_61 ?_
    refine Bd_callV1i (cd := mX8_beatOf) (pc := 62) dX8_canRun_62 k_1059 v_X8_beatOf ⟨(Nat.le_of_ble_eq_true rfl), (Nat.le_of_ble_eq_true rfl)⟩ rfl rfl (sem_X8_beatOf h hi) (Nat.le_of_ble_eq_true rfl) ?_
    refine Bd_isub (pc := 65) dX8_canRun_65 ?_
    refine Bd_iload_4 (pc := 66) dX8_canRun_66 ?_
    refine Bd_iconst (v := 1) (pc := 68) dX8_canRun_68 (by decide) ?_
    refine Bd_icmp_ge (t := 76) (pc := 69) dX8_canRun_69 (by decide) (fun b69 => ?_) (fun b69 => ?_)
    · refine Bd_iload_4 (pc := 76) dX8_canRun_76 ?_
      refine Bd_icmp_lt (t := 85) (pc := 78) dX8_canRun_78 (by decide) (fun b78 => ?_) (fun b78 => ?_)
      · refine Bd_iconst (v := 0) (pc := 85) dX8_canRun_85 (by decide) ?_
        refine Bd_zret (pc := 86) dX8_canRun_86 rfl rfl ?_
        have e : mxF 1 (C 45 3 * hfF (C 46 (cn (C 6 i))) (C 46 (cn (C 6 j)))) = (C 45 3 * hfF (C 46 (cn (C 6 i))) (C 46 (cn (C 6 j)))) := by rw [← mx1, if_pos b69]
        exact PD_i (b2_f (fun z => Int32.not_le.mpr b78 (by rw [crF, e] at z; exact z))) rfl
      · refine Bd_iconst (v := 1) (pc := 81) dX8_canRun_81 (by decide) ?_
        refine Bd_goto (t := 86) (pc := 82) dX8_canRun_82 (by decide) ?_
        refine Bd_zret (pc := 86) dX8_canRun_86 rfl rfl ?_
        have e : mxF 1 (C 45 3 * hfF (C 46 (cn (C 6 i))) (C 46 (cn (C 6 j)))) = (C 45 3 * hfF (C 46 (cn (C 6 i))) (C 46 (cn (C 6 j)))) := by rw [← mx1, if_pos b69]
        exact PD_i (b2_t (by rw [crF, e]; exact Int32.not_lt.mp b78)) rfl
    · refine Bd_iconst (v := 1) (pc := 72) dX8_canRun_72 (by decide) ?_
      refine Bd_goto (t := 78) (pc := 73) dX8_canRun_73 (by decide) ?_
      refine Bd_icmp_lt (t := 85) (pc := 78) dX8_canRun_78 (by decide) (fun b78 => ?_) (fun b78 => ?_)
      · refine Bd_iconst (v := 0) (pc := 85) dX8_canRun_85 (by decide) ?_
        refine Bd_zret (pc := 86) dX8_canRun_86 rfl rfl ?_
        have e : mxF 1 (C 45 3 * hfF (C 46 (cn (C 6 i))) (C 46 (cn (C 6 j)))) = 1 := by rw [← mx1, if_neg b69]
        exact PD_i (b2_f (fun z => Int32.not_le.mpr b78 (by rw [crF, e] at z; exact z))) rfl
      · refine Bd_iconst (v := 1) (pc := 81) dX8_canRun_81 (by decide) ?_
        refine Bd_goto (t := 86) (pc := 82) dX8_canRun_82 (by decide) ?_
        refine Bd_zret (pc := 86) dX8_canRun_86 rfl rfl ?_
        have e : mxF 1 (C 45 3 * hfF (C 46 (cn (C 6 i))) (C 46 (cn (C 6 j)))) = 1 := by rw [← mx1, if_neg b69]
        exact PD_i (b2_t (by rw [crF, e]; exact Int32.not_lt.mp b78)) rfl
  · refine Bd_iconst (v := 1) (pc := 41) dX8_canRun_41 (by decide) ?_
    refine Bd_goto (t := 53) (pc := 42) dX8_canRun_42 (by decide) ?_
    refine Bd_istore_4 (pc := 53) dX8_canRun_53 (Nat.le_of_ble_eq_true rfl) rfl ?_
    refine Bd_aload_0 (pc := 55) dX8_canRun_55 ?_
    refine Bd_iload_2 (pc := 56) dX8_canRun_56 ?_
    refine Bd_callV1i (cd := mX8_beatOf) (pc := 57) dX8_canRun_57 k_1059 v_X8_beatOf ⟨(Nat.le_of_ble_eq_true rfl), (Nat.le_of_ble_eq_true rfl)⟩ rfl rfl (sem_X8_beatOf h hj) (Nat.le_of_ble_eq_true rfl) ?_
    refine Bd_aload_0 (pc := 60) dX8_canRun_60 ?_
    refine Bd_iload_1 (pc := 61) dX8_canRun_61 ?_
    refine Bd_callV1i (cd := mX8_beatOf) (pc := 62) dX8_canRun_62 k_1059 v_X8_beatOf ⟨(Nat.le_of_ble_eq_true rfl), (Nat.le_of_ble_eq_true rfl)⟩ rfl rfl (sem_X8_beatOf h hi) (Nat.le_of_ble_eq_true rfl) ?_
    refine Bd_isub (pc := 65) dX8_canRun_65 ?_
    refine Bd_iload_4 (pc := 66) dX8_canRun_66 ?_
    refine Bd_iconst (v := 1) (pc := 68) dX8_canRun_68 (by decide) ?_
    refine Bd_icmp_ge (t := 76) (pc := 69) dX8_canRun_69 (by decide) (fun b69 => ?_) (fun b69 => (show False from b69 (by decide)).elim)
    refine Bd_iload_4 (pc := 76) dX8_canRun_76 ?_
    refine Bd_icmp_lt (t := 85) (pc := 78) dX8_canRun_78 (by decide) (fun b78 => ?_) (fun b78 => ?_)
    · refine Bd_iconst (v := 0) (pc := 85) dX8_canRun_85 (by decide) ?_
      refine Bd_zret (pc := 86) dX8_canRun_86 rfl rfl ?_
      have e : mxF 1 (C 45 3 * hfF (C 46 (cn (C 6 i))) (C 46 (cn (C 6 j)))) = 1 := by rw [b38, hf_self, Int32.mul_zero]; decide
      exact PD_i (b2_f (fun z => Int32.not_le.mpr b78 (by rw [crF, e] at z; exact z))) rfl
    · refine Bd_iconst (v := 1) (pc := 81) dX8_canRun_81 (by decide) ?_
      refine Bd_goto (t := 86) (pc := 82) dX8_canRun_82 (by decide) ?_
      refine Bd_zret (pc := 86) dX8_canRun_86 rfl rfl ?_
      have e : mxF 1 (C 45 3 * hfF (C 46 (cn (C 6 i))) (C 46 (cn (C 6 j)))) = 1 := by rw [b38, hf_self, Int32.mul_zero]; decide
      exact PD_i (b2_t (by rw [crF, e]; exact Int32.not_lt.mp b78)) rfl
theorem sem_canRunI {C M : Mem} (h : RF C M) {i j : Int32} (hi : 0 ≤ i ∧ i < C 5 4) (hj : 0 ≤ j ∧ j < C 5 4) : Sem mX8_canRun SH [.ref 58, .int i, .int j] M (PD SH (some (.int (b2 (crF C (cn i) (cn j))))) M) := by
  have hv := vp_cn (n := 24) (vpP hi h.1.nb24') (by omega)
  have hw := vp_cn (n := 24) (vpP hj h.1.nb24') (by omega)
  have := sem_X8_canRun h (i := cn i) (j := cn j) (cn_lt hi) (cn_lt hj)
  rw [← hv.1, ← hw.1] at this
  exact this
set_option maxRecDepth 100000 in
set_option maxHeartbeats 4000000 in
theorem sem_X8_runs {C M : Mem} (h : RF C M) {i j : Int32} : Sem mX8_runs SH [.ref 58, .int i, .int j] M (RI SH (fun r N => r = runsV C i j ∧ RP (C) M N)) := by
  refine Sem_of rfl (fun G => (Nat.le_of_ble_eq_true rfl)) (fun G => ?_)
  refine Bd_iload_1 (pc := 0) dX8_runs_0 ?_
  refine Bd_i2l (pc := 1) dX8_runs_1 ?_
  refine Bd_lconst (v := 0) (pc := 2) dX8_runs_2 (by decide) ?_
  refine Bd_aload_0 (pc := 3) dX8_runs_3 ?_
  refine Bd_callV0i (cd := mX8_blows) (pc := 4) dX8_runs_4 k_996 v_X8_blows ⟨(Nat.le_of_ble_eq_true rfl), (Nat.le_of_ble_eq_true rfl)⟩ rfl rfl (sem_X8_blows h) (Nat.le_of_ble_eq_true rfl) ?_
  refine Bd_iconst (v := 1) (pc := 7) dX8_runs_7 (by decide) ?_
  refine Bd_isub (pc := 8) dX8_runs_8 ?_
  refine Bd_i2l (pc := 9) dX8_runs_9 ?_
  refine Bd_callS3i (cd := mX8_in) (pc := 10) dX8_runs_10 k_910 v_X8_in ⟨(Nat.le_of_ble_eq_true rfl), (Nat.le_of_ble_eq_true rfl)⟩ (sem_in (a := 0) (by decide) rfl) (Nat.le_of_ble_eq_true rfl) ?_
  refine Bd_if_eq (t := 37) (pc := 13) dX8_runs_13 (by decide) (fun b13 => ?_) (fun b13 => ?_)
  · refine Bd_iconst (v := -1) (pc := 37) dX8_runs_37 (by decide) ?_
    refine Bd_iret (pc := 38) dX8_runs_38 rfl ?_
    have q := b2_0.mp b13
    rw [in_pred h.1.2.1.1.1] at q
    exact ⟨_, rfl, rfl, by rw [runsV, if_neg q], RP_rf h⟩
  · refine Bd_iload_2 (pc := 16) dX8_runs_16 ?_
    refine Bd_i2l (pc := 17) dX8_runs_17 ?_
    refine Bd_lconst (v := 0) (pc := 18) dX8_runs_18 (by decide) ?_
    refine Bd_aload_0 (pc := 19) dX8_runs_19 ?_
    refine Bd_callV0i (cd := mX8_blows) (pc := 20) dX8_runs_20 k_996 v_X8_blows ⟨(Nat.le_of_ble_eq_true rfl), (Nat.le_of_ble_eq_true rfl)⟩ rfl rfl (sem_X8_blows h) (Nat.le_of_ble_eq_true rfl) ?_
    refine Bd_iconst (v := 1) (pc := 23) dX8_runs_23 (by decide) ?_
    refine Bd_isub (pc := 24) dX8_runs_24 ?_
    refine Bd_i2l (pc := 25) dX8_runs_25 ?_
    refine Bd_callS3i (cd := mX8_in) (pc := 26) dX8_runs_26 k_910 v_X8_in ⟨(Nat.le_of_ble_eq_true rfl), (Nat.le_of_ble_eq_true rfl)⟩ (sem_in (a := 0) (by decide) rfl) (Nat.le_of_ble_eq_true rfl) ?_
    refine Bd_if_eq (t := 37) (pc := 29) dX8_runs_29 (by decide) (fun b29 => ?_) (fun b29 => ?_)
    · refine Bd_iconst (v := -1) (pc := 37) dX8_runs_37 (by decide) ?_
      refine Bd_iret (pc := 38) dX8_runs_38 rfl ?_
      have q := b2_n.mp b13
      rw [in_pred h.1.2.1.1.1] at q
      have q2 := b2_0.mp b29
      rw [in_pred h.1.2.1.1.1] at q2
      exact ⟨_, rfl, rfl, by rw [runsV, if_pos q, if_neg q2], RP_rf h⟩
    · refine Bd_iload_1 (pc := 32) dX8_runs_32 ?_
      refine Bd_iload_2 (pc := 33) dX8_runs_33 ?_
      refine Bd_icmp_ne (t := 39) (pc := 34) dX8_runs_34 (by decide) (fun b34 => ?_) (fun b34 => ?_)
      · have q := b2_n.mp b13
        rw [in_pred h.1.2.1.1.1] at q
        have q2 := b2_n.mp b29
        rw [in_pred h.1.2.1.1.1] at q2
        refine Bd_aload_0 (pc := 39) dX8_runs_39 ?_
        refine Bd_iload_1 (pc := 40) dX8_runs_40 ?_
        refine Bd_iload_2 (pc := 41) dX8_runs_41 ?_
        refine Bd_callV2i (cd := mX8_canRun) (pc := 42) dX8_runs_42 k_1162 v_X8_canRun ⟨(Nat.le_of_ble_eq_true rfl), (Nat.le_of_ble_eq_true rfl)⟩ rfl rfl (sem_canRunI h q q2) (Nat.le_of_ble_eq_true rfl) ?_
        refine Bd_if_eq (t := 52) (pc := 45) dX8_runs_45 (by decide) (fun b45 => ?_) (fun b45 => ?_)
        · refine Bd_iconst (v := 0) (pc := 52) dX8_runs_52 (by decide) ?_
          refine Bd_iret (pc := 53) dX8_runs_53 rfl ?_
          exact ⟨_, rfl, rfl, by rw [runsV, if_pos q, if_pos q2, if_neg b34]; exact b2_f (b2_0.mp b45), RP_rf h⟩
        · refine Bd_iconst (v := 1) (pc := 48) dX8_runs_48 (by decide) ?_
          refine Bd_goto (t := 53) (pc := 49) dX8_runs_49 (by decide) ?_
          refine Bd_iret (pc := 53) dX8_runs_53 rfl ?_
          exact ⟨_, rfl, rfl, by rw [runsV, if_pos q, if_pos q2, if_neg b34]; exact b2_t (b2_n.mp b45), RP_rf h⟩
      · refine Bd_iconst (v := -1) (pc := 37) dX8_runs_37 (by decide) ?_
        refine Bd_iret (pc := 38) dX8_runs_38 rfl ?_
        have q := b2_n.mp b13
        rw [in_pred h.1.2.1.1.1] at q
        have q2 := b2_n.mp b29
        rw [in_pred h.1.2.1.1.1] at q2
        exact ⟨_, rfl, rfl, by rw [runsV, if_pos q, if_pos q2, if_pos b34], RP_rf h⟩
theorem RF.mk {C M : Mem} (h : RF C M) {i : Nat} (hi : i < cn (C 5 5)) : M 59 (88 + i) = C 9 i := by
  have q := h.2.2.1.2.2.2 i hi
  rw [show 0 + 88 + i = 88 + i by omega] at q
  exact q
theorem lt0 {x y : Int32} : x - y = 0 ↔ x = y := by
  constructor
  · intro h
    have : x - y + y = 0 + y := by rw [h]
    rw [Int32.sub_add_cancel, Int32.zero_add] at this
    exact this
  · intro h; rw [h, Int32.sub_self]
set_option maxRecDepth 100000 in
set_option maxHeartbeats 4000000 in
theorem sem_X8_fits {C M : Mem} (h : RF C M) {c : Int32} : Sem mX8_fits SH [.ref 58, .int c] M (RI SH (fun r N => r = fitsV C c ∧ RP (C) M N)) := by
  have q1 := h.1.nb24
  have q5 := h.1.nmb
  refine Sem_of rfl (fun G => (Nat.le_of_ble_eq_true rfl)) (fun G => ?_)
  refine Bd_aload_0 (pc := 0) dX8_fits_0 ?_
  refine Bd_iload_1 (pc := 1) dX8_fits_1 ?_
  refine Bd_callV1i (cd := mX8_isCell) (pc := 2) dX8_fits_2 k_1012 v_X8_isCell ⟨(Nat.le_of_ble_eq_true rfl), (Nat.le_of_ble_eq_true rfl)⟩ rfl rfl (sem_X8_isCell h) (Nat.le_of_ble_eq_true rfl) ?_
  refine Bd_if_ne (t := 10) (pc := 5) dX8_fits_5 (by decide) (fun b5 => ?_) (fun b5 => ?_)
  · refine Bd_aload_0 (pc := 10) dX8_fits_10 ?_
    refine Bd_callV0i (cd := mX8_noteds) (pc := 11) dX8_fits_11 k_1179 v_X8_noteds ⟨(Nat.le_of_ble_eq_true rfl), (Nat.le_of_ble_eq_true rfl)⟩ rfl rfl (sem_X8_noteds h.aw.rf) (Nat.le_of_ble_eq_true rfl) ?_
    refine Bd_if_ne (t := 20) (pc := 14) dX8_fits_14 (by decide) (fun b14 => ?_) (fun b14 => ?_)
    · refine Bd_iconst (v := 0) (pc := 20) dX8_fits_20 (by decide) ?_
      refine Bd_istore_2 (pc := 21) dX8_fits_21 (Nat.le_of_ble_eq_true rfl) rfl ?_
      refine Bd_iconst (v := 0) (pc := 22) dX8_fits_22 (by decide) ?_
      refine Bd_istore_3 (pc := 23) dX8_fits_23 (Nat.le_of_ble_eq_true rfl) rfl ?_
      refine Bd_nx (L' := (fun i => [some (.ref 58), some (.int c), some (.int (ftF C c i)), some (.int (nI i))]) 0) ?_ (by repeat (first | exact True.intro | refine And.intro rfl ?_))
      refine Bd_for (pc := 24) (c := (cn (C 5 5))) (fun i => [some (.ref 58), some (.int c), some (.int (ftF C c i)), some (.int (nI i))]) (fun _ => awM M) (fun _ => True) (fun ivi => ?_) (fun i hi ivi ihi => ?_) trivial
      · refine Bd_iload_3 (pc := 24) dX8_fits_24 ?_
        refine Bd_aload_0 (pc := 25) dX8_fits_25 ?_
        refine Bd_callV0i (cd := mX8_noteds) (pc := 26) dX8_fits_26 k_1179 v_X8_noteds ⟨(Nat.le_of_ble_eq_true rfl), (Nat.le_of_ble_eq_true rfl)⟩ rfl rfl (sem_X8_noteds h.aw.rf) (Nat.le_of_ble_eq_true rfl) ?_
        refine Bd_icmp_ge (t := 64) (pc := 29) dX8_fits_29 (by decide) (fun b29 => ?_) (fun b29 => (show False from lf_x h.1.nm b29).elim)
        refine Bd_iload_2 (pc := 64) dX8_fits_64 ?_
        refine Bd_iret (pc := 65) dX8_fits_65 rfl ?_
        exact ⟨_, rfl, rfl, by rw [fitsV, if_pos (b2_n.mp b5), if_neg b14], RP_aw h⟩
      · refine Bd_iload_3 (pc := 24) dX8_fits_24 ?_
        refine Bd_aload_0 (pc := 25) dX8_fits_25 ?_
        refine Bd_callV0i (cd := mX8_noteds) (pc := 26) dX8_fits_26 k_1179 v_X8_noteds ⟨(Nat.le_of_ble_eq_true rfl), (Nat.le_of_ble_eq_true rfl)⟩ rfl rfl (sem_X8_noteds h.aw.rf) (Nat.le_of_ble_eq_true rfl) ?_
        refine Bd_icmp_ge (t := 64) (pc := 29) dX8_fits_29 (by decide) (fun b29 => (show False from lf_s h.1.nm (by omega) hi b29).elim) (fun b29 => ?_)
        refine Bd_iload_2 (pc := 32) dX8_fits_32 ?_
        refine Bd_aload_0 (pc := 33) dX8_fits_33 ?_
        refine Bd_getR (j := 0) ck8 (pc := 34) dX8_fits_34 k_786 rfl (Nat.le_of_ble_eq_true rfl) rfl ?_
        refine Bd_bipush (v := 88) (pc := 37) dX8_fits_37 (by decide) ?_
        refine Bd_iload_3 (pc := 39) dX8_fits_39 ?_
        refine Bd_iadd (pc := 40) dX8_fits_40 ?_
        refine Bd_ialdc (j := 88 + i) (by rw [ti88 i (by omega)]; exact nI_clamp (by omega)) (pc := 41) dX8_fits_41 rfl (by rw [ti88 i (by omega)]; exact vpi (by omega) (by omega)) ?_
        refine Bd_aload_0 (pc := 42) dX8_fits_42 ?_
        refine Bd_iload_3 (pc := 43) dX8_fits_43 ?_
        refine Bd_iload_1 (pc := 44) dX8_fits_44 ?_
        refine Bd_callV2i (cd := mX8_comes) (pc := 45) dX8_fits_45 k_1055 v_X8_comes ⟨(Nat.le_of_ble_eq_true rfl), (Nat.le_of_ble_eq_true rfl)⟩ rfl rfl (sem_X8_comes h.aw (i := i) (by omega) (b2_n.mp b5).1) (Nat.le_of_ble_eq_true rfl) ?_
        rw [h.aw.rf.mk hi]
        refine Bd_icmp_ne (t := 55) (pc := 48) dX8_fits_48 (by decide) (fun b48 => ?_) (fun b48 => ?_)
        · refine Bd_iconst (v := 0) (pc := 55) dX8_fits_55 (by decide) ?_
          refine Bd_iadd (pc := 56) dX8_fits_56 ?_
          refine Bd_istore_2 (pc := 57) dX8_fits_57 (Nat.le_of_ble_eq_true rfl) rfl ?_
          refine Bd_iinc_3 (pc := 58) dX8_fits_58 (show _ + Int32.ofInt 1 = _ + 1 from rfl) (Nat.le_of_ble_eq_true rfl) rfl ?_
          refine Bd_goto (t := 24) (pc := 61) dX8_fits_61 (by decide) ?_
          exact Bd_nx (ihi trivial) (by simp only [wkP, ftF, if_neg (fun z => b48 (lt0.mp z)), nI_succ, Int32.add_zero, and_self])
        · refine Bd_iconst (v := 1) (pc := 51) dX8_fits_51 (by decide) ?_
          refine Bd_goto (t := 56) (pc := 52) dX8_fits_52 (by decide) ?_
          refine Bd_iadd (pc := 56) dX8_fits_56 ?_
          refine Bd_istore_2 (pc := 57) dX8_fits_57 (Nat.le_of_ble_eq_true rfl) rfl ?_
          refine Bd_iinc_3 (pc := 58) dX8_fits_58 (show _ + Int32.ofInt 1 = _ + 1 from rfl) (Nat.le_of_ble_eq_true rfl) rfl ?_
          refine Bd_goto (t := 24) (pc := 61) dX8_fits_61 (by decide) ?_
          exact Bd_nx (ihi trivial) (by simp only [wkP, ftF, if_pos (lt0.mpr b48), nI_succ, Int32.add_zero, and_self])
    · refine Bd_bipush (v := -2) (pc := 17) dX8_fits_17 (by decide) ?_
      refine Bd_iret (pc := 19) dX8_fits_19 rfl ?_
      exact ⟨_, rfl, rfl, by rw [fitsV, if_pos (b2_n.mp b5), if_pos b14], RP_aw h⟩
  · refine Bd_iconst (v := -1) (pc := 8) dX8_fits_8 (by decide) ?_
    refine Bd_iret (pc := 9) dX8_fits_9 rfl ?_
    exact ⟨_, rfl, rfl, by rw [fitsV, if_neg (b2_0.mp b5)], RP_aw h⟩
