/-! 50: the reference: read -/
set_option maxRecDepth 100000 in
set_option maxHeartbeats 4000000 in
theorem bd_rd {C M : Mem} (w : WF C) (hI : IV C M) {kk b : Nat} (hkk : kk < 4) (hb : 33 < b) (hbb : b < 41) (hL : bt (C b 2) 0 40) (hS : ∀ C' N', IV C' N' → IVs C' N' kk b) {G : GD} {R : Rv} {lane f n : Int32} (hn : n = nI (cn n)) (hn13 : cn n ≤ 13) (hz : ¬ (¬ n = 0 ∧ ¬ rdF C b lane = 0)) (hR : ∀ r N, (∃ C', readB C b lane f n r C' ∧ RP C' M N) → R (some (.int r)) SH N) : Bd mX8_read G R SH 51 [some (.ref 58), some (.int (nI kk)), some (.int lane), some (.int f), some (.int n), some (.int 0), some (.int 0), some (.int 0), some (.int 0), none] [] M := by
  have h3 : 3 * n = nI (3 * cn n) := by have := rd3n (cn n) hn13; rw [← hn] at this; exact this
  refine Bd_nx (Bd_wh (pc := 51) (σ := Nat × Mem) (fun x => x.1 ≤ cn n ∧ (∀ j, j < x.1 → rdO C b f j) ∧ RP (rdM C b f x.1) M x.2) (fun x => cn n - x.1) (fun x => [some (.ref 58), some (.int (nI kk)), some (.int lane), some (.int f), some (.int n), some (.int 0), some (.int (nI x.1)), some (.int 0), some (.int (nI (3 * x.1))), none]) (fun x => x.2) (fun x hx ih => ?_) (0, M) ⟨Nat.zero_le _, fun j hj => absurd hj (Nat.not_lt_zero j), hI, fun _ _ => rfl⟩) ⟨rfl, rfl, rfl, rfl, rfl, rfl, rfl, rfl, rfl, trivial⟩
  obtain ⟨q, N⟩ := x
  obtain ⟨hq, hO, hN⟩ := hx
  have hq : q ≤ cn n := hq
  have hO : ∀ j, j < q → rdO C b f j := hO
  have hN : RP (rdM C b f q) M N := hN
  show Bd mX8_read G R SH 51 [some (.ref 58), some (.int (nI kk)), some (.int lane), some (.int f), some (.int n), some (.int 0), some (.int (nI q)), some (.int 0), some (.int (nI (3 * q))), none] [] N
  have hq13 : q ≤ 13 := by omega
  rcases Nat.lt_or_ge q (cn n) with hqn | hqn
  · have n0 : ¬ n = 0 := fun z => by rw [z] at hqn; exact absurd hqn (by show ¬ q < 0; omega)
    have hF : rdF C b lane = 0 := Classical.byContradiction (fun z => hz ⟨n0, z⟩)
    have ee : rdM C b f q (b + 1) = C (b + 1) := rdM_ne (by omega) (by omega) (by omega) (by omega) q
    have eb : rdM C b f q b = C b := rdM_ne (by omega) (by omega) (by omega) (by omega) q
    have iS := hS _ _ hN.1
    have h1 : ¬ C b 1 = -1 := fun z => by rw [rdF, if_pos z] at hF; exact absurd hF (by decide)
    have h2 : C b 1 = lane := Classical.byContradiction (fun z => by rw [rdF, if_neg h1, if_neg z] at hF; exact absurd hF (by decide))
    have hl4 : ¬ N 76 kk = -4 := fun z => h1 (by have := (IVs_4 iS).mp z; rw [eb] at this; exact this)
    have hll : N 76 kk = lane := by
      rcases iS.1 with ⟨z, -⟩ | ⟨z, -⟩
      · rw [eb] at z; exact absurd z h1
      · rw [z, eb]; exact h2
    have eL : N 77 kk = C b 2 := by rw [iS.2.1, eb]
    have hLN : bt (N 77 kk) 0 40 := by rw [eL]; exact hL
    have eC : ∀ i, i < 40 → N 78 (40 * kk + i) = C (b + 1) i := fun i hi => by rw [iS.2.2 i hi, ee]
    refine Bd_iload_8 (pc := 51) dX8_read_51 ?_
    refine Bd_iconst (v := 3) (pc := 53) dX8_read_53 (by decide) ?_
    refine Bd_iload_4 (pc := 54) dX8_read_54 ?_
    refine Bd_imul (pc := 56) dX8_read_56 ?_
    refine Bd_icmp_ge (t := 212) (pc := 57) dX8_read_57 (by decide) (fun b57 => (show False from lf_s h3 (by omega) (show (3 * q) < 3 * cn n by omega) b57).elim) (fun b57 => ?_)
    refine Bd_iload_5 (pc := 60) dX8_read_60 ?_
    refine Bd_if_ne (t := 212) (pc := 62) dX8_read_62 (by decide) (fun b62 => (show False from b62 rfl).elim) (fun b62 => ?_)
    refine Bd_iload_7 (pc := 65) dX8_read_65 ?_
    refine Bd_if_ne (t := 212) (pc := 67) dX8_read_67 (by decide) (fun b67 => (show False from b67 rfl).elim) (fun b67 => ?_)
    refine Bd_aload_0 (pc := 70) dX8_read_70 ?_
    refine Bd_getR (j := 34) ck8 (pc := 71) dX8_read_71 k_820 rfl (Nat.le_of_ble_eq_true rfl) rfl ?_
    refine Bd_iload_1 (pc := 74) dX8_read_74 ?_
    refine Bd_ialdc (j := kk) (nI_clamp (by omega)) (pc := 75) dX8_read_75 rfl (vpi (by omega) (by omega)) ?_
    refine Bd_bipush (v := -4) (pc := 76) dX8_read_76 (by decide) ?_
    refine Bd_icmp_ne (t := 85) (pc := 78) dX8_read_78 (by decide) (fun b78 => ?_) (fun b78 => (show False from hl4 b78).elim)
    refine Bd_aload_0 (pc := 85) dX8_read_85 ?_
    refine Bd_getR (j := 34) ck8 (pc := 86) dX8_read_86 k_820 rfl (Nat.le_of_ble_eq_true rfl) rfl ?_
    refine Bd_iload_1 (pc := 89) dX8_read_89 ?_
    refine Bd_ialdc (j := kk) (nI_clamp (by omega)) (pc := 90) dX8_read_90 rfl (vpi (by omega) (by omega)) ?_
    refine Bd_iload_2 (pc := 91) dX8_read_91 ?_
    refine Bd_icmp_eq (t := 99) (pc := 92) dX8_read_92 (by decide) (fun b92 => ?_) (fun b92 => (show False from b92 hll).elim)
    refine Bd_iload_3 (pc := 99) dX8_read_99 ?_
    refine Bd_i2l (pc := 100) dX8_read_100 ?_
    refine Bd_iload_8 (pc := 101) dX8_read_101 ?_
    refine Bd_i2l (pc := 103) dX8_read_103 ?_
    refine Bd_ladd (pc := 104) dX8_read_104 ?_
    refine Bd_lconst (v := 0) (pc := 105) dX8_read_105 (by decide) ?_
    refine Bd_aload_0 (pc := 106) dX8_read_106 ?_
    refine Bd_getR (j := 35) ck8 (pc := 107) dX8_read_107 k_821 rfl (Nat.le_of_ble_eq_true rfl) rfl ?_
    refine Bd_iload_1 (pc := 110) dX8_read_110 ?_
    refine Bd_ialdc (j := kk) (nI_clamp (by omega)) (pc := 111) dX8_read_111 rfl (vpi (by omega) (by omega)) ?_
    refine Bd_iconst (v := 1) (pc := 112) dX8_read_112 (by decide) ?_
    refine Bd_isub (pc := 113) dX8_read_113 ?_
    refine Bd_i2l (pc := 114) dX8_read_114 ?_
    refine Bd_callS3i (cd := mX8_in) (pc := 115) dX8_read_115 k_910 v_X8_in ⟨(Nat.le_of_ble_eq_true rfl), (Nat.le_of_ble_eq_true rfl)⟩ sem_inL (Nat.le_of_ble_eq_true rfl) ?_
    refine Bd_if_ne (t := 125) (pc := 118) dX8_read_118 (by decide) (fun b118 => ?_) (fun b118 => ?_)
    · refine Bd_iconst (v := 0) (pc := 125) dX8_read_125 (by decide) ?_
      refine Bd_istore_5 (pc := 126) dX8_read_126 (Nat.le_of_ble_eq_true rfl) rfl ?_
      refine Bd_iload_5 (pc := 128) dX8_read_128 ?_
      refine Bd_if_ne (t := 206) (pc := 130) dX8_read_130 (by decide) (fun b130 => (show False from b130 rfl).elim) (fun b130 => ?_)
      refine Bd_iload_8 (pc := 133) dX8_read_133 ?_
      refine Bd_iconst (v := 3) (pc := 135) dX8_read_135 (by decide) ?_
      refine Bd_irem (pc := 136) dX8_read_136 (by decide) ?_
      refine Bd_iconst (v := 2) (pc := 137) dX8_read_137 (by decide) ?_
      refine Bd_icmp_ne (t := 206) (pc := 138) dX8_read_138 (by decide) (fun b138 => ?_) (fun b138 => (show False from absurd ((rem3 (3 * q) (by omega)).mp b138) (by omega)).elim)
      refine Bd_iinc_8 (pc := 206) dX8_read_206 (show _ + Int32.ofInt 1 = _ + 1 from rfl) (Nat.le_of_ble_eq_true rfl) rfl ?_
      refine Bd_goto (t := 51) (pc := 209) dX8_read_209 (by decide) ?_
      have r0 := (rd_in (by omega) hLN).mp (b2_n.mp b118)
      refine Bd_nx (L' := [some (.ref 58), some (.int (nI kk)), some (.int lane), some (.int f), some (.int n), some (.int 0), some (.int (nI q)), some (.int 0), some (.int (nI (3 * q + 1))), none]) ?_ ⟨rfl, rfl, rfl, rfl, rfl, rfl, rfl, rfl, congrArg (fun x => some (Value.int x)) (show _ = nI (3 * q + 1) from (nI_succ (3 * q)).symm), trivial⟩
      refine Bd_iload_8 (pc := 51) dX8_read_51 ?_
      refine Bd_iconst (v := 3) (pc := 53) dX8_read_53 (by decide) ?_
      refine Bd_iload_4 (pc := 54) dX8_read_54 ?_
      refine Bd_imul (pc := 56) dX8_read_56 ?_
      refine Bd_icmp_ge (t := 212) (pc := 57) dX8_read_57 (by decide) (fun b57 => (show False from lf_s h3 (by omega) (show (3 * q + 1) < 3 * cn n by omega) b57).elim) (fun b57 => ?_)
      refine Bd_iload_5 (pc := 60) dX8_read_60 ?_
      refine Bd_if_ne (t := 212) (pc := 62) dX8_read_62 (by decide) (fun b62 => (show False from b62 rfl).elim) (fun b62 => ?_)
      refine Bd_iload_7 (pc := 65) dX8_read_65 ?_
      refine Bd_if_ne (t := 212) (pc := 67) dX8_read_67 (by decide) (fun b67 => (show False from b67 rfl).elim) (fun b67 => ?_)
      refine Bd_aload_0 (pc := 70) dX8_read_70 ?_
      refine Bd_getR (j := 34) ck8 (pc := 71) dX8_read_71 k_820 rfl (Nat.le_of_ble_eq_true rfl) rfl ?_
      refine Bd_iload_1 (pc := 74) dX8_read_74 ?_
      refine Bd_ialdc (j := kk) (nI_clamp (by omega)) (pc := 75) dX8_read_75 rfl (vpi (by omega) (by omega)) ?_
      refine Bd_bipush (v := -4) (pc := 76) dX8_read_76 (by decide) ?_
      refine Bd_icmp_ne (t := 85) (pc := 78) dX8_read_78 (by decide) (fun b78 => ?_) (fun b78 => (show False from hl4 b78).elim)
      refine Bd_aload_0 (pc := 85) dX8_read_85 ?_
      refine Bd_getR (j := 34) ck8 (pc := 86) dX8_read_86 k_820 rfl (Nat.le_of_ble_eq_true rfl) rfl ?_
      refine Bd_iload_1 (pc := 89) dX8_read_89 ?_
      refine Bd_ialdc (j := kk) (nI_clamp (by omega)) (pc := 90) dX8_read_90 rfl (vpi (by omega) (by omega)) ?_
      refine Bd_iload_2 (pc := 91) dX8_read_91 ?_
      refine Bd_icmp_eq (t := 99) (pc := 92) dX8_read_92 (by decide) (fun b92 => ?_) (fun b92 => (show False from b92 hll).elim)
      refine Bd_iload_3 (pc := 99) dX8_read_99 ?_
      refine Bd_i2l (pc := 100) dX8_read_100 ?_
      refine Bd_iload_8 (pc := 101) dX8_read_101 ?_
      refine Bd_i2l (pc := 103) dX8_read_103 ?_
      refine Bd_ladd (pc := 104) dX8_read_104 ?_
      refine Bd_lconst (v := 0) (pc := 105) dX8_read_105 (by decide) ?_
      refine Bd_aload_0 (pc := 106) dX8_read_106 ?_
      refine Bd_getR (j := 35) ck8 (pc := 107) dX8_read_107 k_821 rfl (Nat.le_of_ble_eq_true rfl) rfl ?_
      refine Bd_iload_1 (pc := 110) dX8_read_110 ?_
      refine Bd_ialdc (j := kk) (nI_clamp (by omega)) (pc := 111) dX8_read_111 rfl (vpi (by omega) (by omega)) ?_
      refine Bd_iconst (v := 1) (pc := 112) dX8_read_112 (by decide) ?_
      refine Bd_isub (pc := 113) dX8_read_113 ?_
      refine Bd_i2l (pc := 114) dX8_read_114 ?_
      refine Bd_callS3i (cd := mX8_in) (pc := 115) dX8_read_115 k_910 v_X8_in ⟨(Nat.le_of_ble_eq_true rfl), (Nat.le_of_ble_eq_true rfl)⟩ sem_inL (Nat.le_of_ble_eq_true rfl) ?_
      refine Bd_if_ne (t := 125) (pc := 118) dX8_read_118 (by decide) (fun b118 => ?_) (fun b118 => ?_)
      · refine Bd_iconst (v := 0) (pc := 125) dX8_read_125 (by decide) ?_
        refine Bd_istore_5 (pc := 126) dX8_read_126 (Nat.le_of_ble_eq_true rfl) rfl ?_
        refine Bd_iload_5 (pc := 128) dX8_read_128 ?_
        refine Bd_if_ne (t := 206) (pc := 130) dX8_read_130 (by decide) (fun b130 => (show False from b130 rfl).elim) (fun b130 => ?_)
        refine Bd_iload_8 (pc := 133) dX8_read_133 ?_
        refine Bd_iconst (v := 3) (pc := 135) dX8_read_135 (by decide) ?_
        refine Bd_irem (pc := 136) dX8_read_136 (by decide) ?_
        refine Bd_iconst (v := 2) (pc := 137) dX8_read_137 (by decide) ?_
        refine Bd_icmp_ne (t := 206) (pc := 138) dX8_read_138 (by decide) (fun b138 => ?_) (fun b138 => (show False from absurd ((rem3 (3 * q + 1) (by omega)).mp b138) (by omega)).elim)
        refine Bd_iinc_8 (pc := 206) dX8_read_206 (show _ + Int32.ofInt 1 = _ + 1 from rfl) (Nat.le_of_ble_eq_true rfl) rfl ?_
        refine Bd_goto (t := 51) (pc := 209) dX8_read_209 (by decide) ?_
        have r1 := (rd_in (by omega) hLN).mp (b2_n.mp b118)
        refine Bd_nx (L' := [some (.ref 58), some (.int (nI kk)), some (.int lane), some (.int f), some (.int n), some (.int 0), some (.int (nI q)), some (.int 0), some (.int (nI (3 * q + 2))), none]) ?_ ⟨rfl, rfl, rfl, rfl, rfl, rfl, rfl, rfl, congrArg (fun x => some (Value.int x)) (show _ = nI (3 * q + 2) from (nI_succ (3 * q + 1)).symm), trivial⟩
        refine Bd_iload_8 (pc := 51) dX8_read_51 ?_
        refine Bd_iconst (v := 3) (pc := 53) dX8_read_53 (by decide) ?_
        refine Bd_iload_4 (pc := 54) dX8_read_54 ?_
        refine Bd_imul (pc := 56) dX8_read_56 ?_
        refine Bd_icmp_ge (t := 212) (pc := 57) dX8_read_57 (by decide) (fun b57 => (show False from lf_s h3 (by omega) (show (3 * q + 2) < 3 * cn n by omega) b57).elim) (fun b57 => ?_)
        refine Bd_iload_5 (pc := 60) dX8_read_60 ?_
        refine Bd_if_ne (t := 212) (pc := 62) dX8_read_62 (by decide) (fun b62 => (show False from b62 rfl).elim) (fun b62 => ?_)
        refine Bd_iload_7 (pc := 65) dX8_read_65 ?_
        refine Bd_if_ne (t := 212) (pc := 67) dX8_read_67 (by decide) (fun b67 => (show False from b67 rfl).elim) (fun b67 => ?_)
        refine Bd_aload_0 (pc := 70) dX8_read_70 ?_
        refine Bd_getR (j := 34) ck8 (pc := 71) dX8_read_71 k_820 rfl (Nat.le_of_ble_eq_true rfl) rfl ?_
        refine Bd_iload_1 (pc := 74) dX8_read_74 ?_
        refine Bd_ialdc (j := kk) (nI_clamp (by omega)) (pc := 75) dX8_read_75 rfl (vpi (by omega) (by omega)) ?_
        refine Bd_bipush (v := -4) (pc := 76) dX8_read_76 (by decide) ?_
        refine Bd_icmp_ne (t := 85) (pc := 78) dX8_read_78 (by decide) (fun b78 => ?_) (fun b78 => (show False from hl4 b78).elim)
        refine Bd_aload_0 (pc := 85) dX8_read_85 ?_
        refine Bd_getR (j := 34) ck8 (pc := 86) dX8_read_86 k_820 rfl (Nat.le_of_ble_eq_true rfl) rfl ?_
        refine Bd_iload_1 (pc := 89) dX8_read_89 ?_
        refine Bd_ialdc (j := kk) (nI_clamp (by omega)) (pc := 90) dX8_read_90 rfl (vpi (by omega) (by omega)) ?_
        refine Bd_iload_2 (pc := 91) dX8_read_91 ?_
        refine Bd_icmp_eq (t := 99) (pc := 92) dX8_read_92 (by decide) (fun b92 => ?_) (fun b92 => (show False from b92 hll).elim)
        refine Bd_iload_3 (pc := 99) dX8_read_99 ?_
        refine Bd_i2l (pc := 100) dX8_read_100 ?_
        refine Bd_iload_8 (pc := 101) dX8_read_101 ?_
        refine Bd_i2l (pc := 103) dX8_read_103 ?_
        refine Bd_ladd (pc := 104) dX8_read_104 ?_
        refine Bd_lconst (v := 0) (pc := 105) dX8_read_105 (by decide) ?_
        refine Bd_aload_0 (pc := 106) dX8_read_106 ?_
        refine Bd_getR (j := 35) ck8 (pc := 107) dX8_read_107 k_821 rfl (Nat.le_of_ble_eq_true rfl) rfl ?_
        refine Bd_iload_1 (pc := 110) dX8_read_110 ?_
        refine Bd_ialdc (j := kk) (nI_clamp (by omega)) (pc := 111) dX8_read_111 rfl (vpi (by omega) (by omega)) ?_
        refine Bd_iconst (v := 1) (pc := 112) dX8_read_112 (by decide) ?_
        refine Bd_isub (pc := 113) dX8_read_113 ?_
        refine Bd_i2l (pc := 114) dX8_read_114 ?_
        refine Bd_callS3i (cd := mX8_in) (pc := 115) dX8_read_115 k_910 v_X8_in ⟨(Nat.le_of_ble_eq_true rfl), (Nat.le_of_ble_eq_true rfl)⟩ sem_inL (Nat.le_of_ble_eq_true rfl) ?_
        refine Bd_if_ne (t := 125) (pc := 118) dX8_read_118 (by decide) (fun b118 => ?_) (fun b118 => ?_)
        · refine Bd_iconst (v := 0) (pc := 125) dX8_read_125 (by decide) ?_
          refine Bd_istore_5 (pc := 126) dX8_read_126 (Nat.le_of_ble_eq_true rfl) rfl ?_
          refine Bd_iload_5 (pc := 128) dX8_read_128 ?_
          refine Bd_if_ne (t := 206) (pc := 130) dX8_read_130 (by decide) (fun b130 => (show False from b130 rfl).elim) (fun b130 => ?_)
          refine Bd_iload_8 (pc := 133) dX8_read_133 ?_
          refine Bd_iconst (v := 3) (pc := 135) dX8_read_135 (by decide) ?_
          refine Bd_irem (pc := 136) dX8_read_136 (by decide) ?_
          refine Bd_iconst (v := 2) (pc := 137) dX8_read_137 (by decide) ?_
          refine Bd_icmp_ne (t := 206) (pc := 138) dX8_read_138 (by decide) (fun b138 => (show False from b138 ((rem3 (3 * q + 2) (by omega)).mpr (by omega))).elim) (fun b138 => ?_)
          have r2 := (rd_in (by omega) hLN).mp (b2_n.mp b118)
          have hB : rdB C b f q := (rd_b hL hq13 (fun j hj => (hO j hj).1)).mpr (by rw [eL] at r0 r2; omega)
          obtain ⟨x1, x2, x3, x4, x5, x6⟩ := rd_x hL hq13 (fun j hj => (hO j hj).1) hB hkk
          refine Bd_bipush (v := 40) (pc := 141) dX8_read_141 (by decide) ?_
          refine Bd_iload_1 (pc := 143) dX8_read_143 ?_
          refine Bd_imul (pc := 144) dX8_read_144 ?_
          refine Bd_iload_3 (pc := 145) dX8_read_145 ?_
          refine Bd_iadd (pc := 146) dX8_read_146 ?_
          refine Bd_iload_8 (pc := 147) dX8_read_147 ?_
          refine Bd_iadd (pc := 149) dX8_read_149 ?_
          refine Bd_istore_9 (pc := 150) dX8_read_150 (Nat.le_of_ble_eq_true rfl) rfl ?_
          refine Bd_aload_0 (pc := 152) dX8_read_152 ?_
          refine Bd_aload_0 (pc := 153) dX8_read_153 ?_
          refine Bd_getR (j := 36) ck8 (pc := 154) dX8_read_154 k_822 rfl (Nat.le_of_ble_eq_true rfl) rfl ?_
          refine Bd_iload_9 (pc := 157) dX8_read_157 ?_
          refine Bd_iconst (v := 2) (pc := 159) dX8_read_159 (by decide) ?_
          refine Bd_isub (pc := 160) dX8_read_160 ?_
          refine Bd_ialdc (j := 40 * kk + cn (rdA f q)) (by rw [x4]; exact nI_clamp (by omega)) (pc := 161) dX8_read_161 rfl (by rw [x4]; exact vpi (by omega) (by omega)) ?_
          refine Bd_aload_0 (pc := 162) dX8_read_162 ?_
          refine Bd_getR (j := 36) ck8 (pc := 163) dX8_read_163 k_822 rfl (Nat.le_of_ble_eq_true rfl) rfl ?_
          refine Bd_iload_9 (pc := 166) dX8_read_166 ?_
          refine Bd_iconst (v := 1) (pc := 168) dX8_read_168 (by decide) ?_
          refine Bd_isub (pc := 169) dX8_read_169 ?_
          refine Bd_ialdc (j := 40 * kk + (cn (rdA f q) + 1)) (by rw [x5]; exact nI_clamp (by omega)) (pc := 170) dX8_read_170 rfl (by rw [x5]; exact vpi (by omega) (by omega)) ?_
          refine Bd_aload_0 (pc := 171) dX8_read_171 ?_
          refine Bd_getR (j := 36) ck8 (pc := 172) dX8_read_172 k_822 rfl (Nat.le_of_ble_eq_true rfl) rfl ?_
          refine Bd_iload_9 (pc := 175) dX8_read_175 ?_
          refine Bd_ialdc (j := 40 * kk + (cn (rdA f q) + 2)) (by rw [x6]; exact nI_clamp (by omega)) (pc := 177) dX8_read_177 rfl (by rw [x6]; exact vpi (by omega) (by omega)) ?_
          rw [eC _ (by omega), eC _ (by omega), eC _ (by omega)]
          refine Bd_callV3x (cd := mX8_blowing) (pc := 178) dX8_read_178 k_1037 v_X8_blowing ⟨(Nat.le_of_ble_eq_true rfl), (Nat.le_of_ble_eq_true rfl)⟩ rfl rfl (sem_X8_blowing ⟨rdM_wf w q, hN.1⟩) (Nat.le_of_ble_eq_true rfl) (fun x178 M178 e178 => ?_)
          have ev : x178 = rdW C b f q ∧ RP (rdM C b f (q + 1)) N M178 := by
            rw [rdM, rdW, ee, x2, x3]
            exact e178
          refine Bd_if_ge (t := 188) (pc := 181) dX8_read_181 (by decide) (fun b181 => ?_) (fun b181 => ?_)
          · refine Bd_iconst (v := 0) (pc := 188) dX8_read_188 (by decide) ?_
            refine Bd_istore_7 (pc := 189) dX8_read_189 (Nat.le_of_ble_eq_true rfl) rfl ?_
            refine Bd_iload_6 (pc := 191) dX8_read_191 ?_
            refine Bd_iload_7 (pc := 193) dX8_read_193 ?_
            refine Bd_if_eq (t := 202) (pc := 195) dX8_read_195 (by decide) (fun b195 => ?_) (fun b195 => (show False from b195 rfl).elim)
            refine Bd_iconst (v := 1) (pc := 202) dX8_read_202 (by decide) ?_
            refine Bd_iadd (pc := 203) dX8_read_203 ?_
            refine Bd_istore_6 (pc := 204) dX8_read_204 (Nat.le_of_ble_eq_true rfl) rfl ?_
            refine Bd_iinc_8 (pc := 206) dX8_read_206 (show _ + Int32.ofInt 1 = _ + 1 from rfl) (Nat.le_of_ble_eq_true rfl) rfl ?_
            refine Bd_goto (t := 51) (pc := 209) dX8_read_209 (by decide) ?_
            refine Bd_nx (ih (q + 1, M178) ⟨by show q + 1 ≤ cn n; omega, fun j hj => ?_, ⟨ev.2.1, fun k hk => (ev.2.2 k hk).trans (hN.2 k hk)⟩⟩ (by show cn n - (q + 1) < cn n - q; omega)) ⟨rfl, rfl, rfl, rfl, rfl, rfl, congrArg (fun x => some (Value.int x)) (nI_succ q).symm, rfl, congrArg (fun x => some (Value.int x)) (show _ = nI (3 * (q + 1)) from (nI_succ (3 * q + 2)).symm), trivial⟩
            rcases Nat.lt_succ_iff_lt_or_eq.mp hj with y | y
            · exact hO j y
            · rw [y]; exact ⟨hB, by rw [← ev.1]; exact b181⟩
          · refine Bd_iconst (v := 1) (pc := 184) dX8_read_184 (by decide) ?_
            refine Bd_goto (t := 189) (pc := 185) dX8_read_185 (by decide) ?_
            refine Bd_istore_7 (pc := 189) dX8_read_189 (Nat.le_of_ble_eq_true rfl) rfl ?_
            refine Bd_iload_6 (pc := 191) dX8_read_191 ?_
            refine Bd_iload_7 (pc := 193) dX8_read_193 ?_
            refine Bd_if_eq (t := 202) (pc := 195) dX8_read_195 (by decide) (fun b195 => (show False from absurd b195 (by decide)).elim) (fun b195 => ?_)
            refine Bd_iconst (v := 0) (pc := 198) dX8_read_198 (by decide) ?_
            refine Bd_goto (t := 203) (pc := 199) dX8_read_199 (by decide) ?_
            refine Bd_iadd (pc := 203) dX8_read_203 ?_
            refine Bd_istore_6 (pc := 204) dX8_read_204 (Nat.le_of_ble_eq_true rfl) rfl ?_
            refine Bd_iinc_8 (pc := 206) dX8_read_206 (show _ + Int32.ofInt 1 = _ + 1 from rfl) (Nat.le_of_ble_eq_true rfl) rfl ?_
            refine Bd_goto (t := 51) (pc := 209) dX8_read_209 (by decide) ?_
            have hneg : rdW C b f q < 0 := by rw [← ev.1]; exact Int32.not_le.mp b181
            have hno := blowU_no hneg (by have := (rdM_wf (b := b) (f := f) w q).nb24; omega)
            have iv2 := ev.2.1
            rw [rdM, ee] at iv2
            rw [hno] at iv2
            refine Bd_iload_8 (pc := 51) dX8_read_51 ?_
            refine Bd_iconst (v := 3) (pc := 53) dX8_read_53 (by decide) ?_
            refine Bd_iload_4 (pc := 54) dX8_read_54 ?_
            refine Bd_imul (pc := 56) dX8_read_56 ?_
            refine Bd_icmp_ge (t := 212) (pc := 57) dX8_read_57 (by decide) (fun b57 => ?_) (fun b57 => ?_)
            · refine Bd_iload_7 (pc := 212) dX8_read_212 ?_
              refine Bd_if_eq (t := 235) (pc := 214) dX8_read_214 (by decide) (fun b214 => (show False from absurd b214 (by decide)).elim) (fun b214 => ?_)
              refine Bd_aload_0 (pc := 217) dX8_read_217 ?_
              refine Bd_getR (j := 0) ck8 (pc := 218) dX8_read_218 k_786 rfl (Nat.le_of_ble_eq_true rfl) rfl ?_
              refine Bd_bipush (v := 86) (pc := 221) dX8_read_221 (by decide) ?_
              refine Bd_dup2 (pc := 223) dX8_read_223 rfl rfl ?_
              refine Bd_ialdc (j := 86) rfl (pc := 224) dX8_read_224 rfl (by unfold vp_in; decide) ?_
              refine Bd_iload_6 (pc := 225) dX8_read_225 ?_
              refine Bd_isub (pc := 227) dX8_read_227 ?_
              refine Bd_iastc (j := 86) rfl (pc := 228) dX8_read_228 rfl (by unfold vp_in; decide) ?_
              refine Bd_bipush (v := -20) (pc := 229) dX8_read_229 (by decide) ?_
              refine Bd_iload_6 (pc := 231) dX8_read_231 ?_
              refine Bd_isub (pc := 233) dX8_read_233 ?_
              refine Bd_iret (pc := 234) dX8_read_234 rfl ?_
              have e86 : M178 59 86 = nI (cn (C 5 4) + q) := iv2.2.1.1.trans (rd_cnt w (by omega) q hO).1
              have e54 : M178 59 86 - (nI q + 0) = C 5 4 := by rw [e86, Int32.add_zero, ← nI_add, ← w.nb]; exact Int32.add_sub_cancel _ _
              rw [e54]
              exact hR _ _ ⟨_, (by rw [readB, if_neg hz]; exact Or.inr (Or.inl ⟨q, hqn, hO, hB, hneg, by rw [Int32.add_zero], rfl⟩)), IV_undo w (by omega) hO iv2, fun k hk => by rw [updM_ne (by omega)]; exact (ev.2.2 k hk).trans (hN.2 k hk)⟩
            · refine Bd_iload_5 (pc := 60) dX8_read_60 ?_
              refine Bd_if_ne (t := 212) (pc := 62) dX8_read_62 (by decide) (fun b62 => (show False from b62 rfl).elim) (fun b62 => ?_)
              refine Bd_iload_7 (pc := 65) dX8_read_65 ?_
              refine Bd_if_ne (t := 212) (pc := 67) dX8_read_67 (by decide) (fun b67 => ?_) (fun b67 => (show False from absurd b67 (by decide)).elim)
              refine Bd_iload_7 (pc := 212) dX8_read_212 ?_
              refine Bd_if_eq (t := 235) (pc := 214) dX8_read_214 (by decide) (fun b214 => (show False from absurd b214 (by decide)).elim) (fun b214 => ?_)
              refine Bd_aload_0 (pc := 217) dX8_read_217 ?_
              refine Bd_getR (j := 0) ck8 (pc := 218) dX8_read_218 k_786 rfl (Nat.le_of_ble_eq_true rfl) rfl ?_
              refine Bd_bipush (v := 86) (pc := 221) dX8_read_221 (by decide) ?_
              refine Bd_dup2 (pc := 223) dX8_read_223 rfl rfl ?_
              refine Bd_ialdc (j := 86) rfl (pc := 224) dX8_read_224 rfl (by unfold vp_in; decide) ?_
              refine Bd_iload_6 (pc := 225) dX8_read_225 ?_
              refine Bd_isub (pc := 227) dX8_read_227 ?_
              refine Bd_iastc (j := 86) rfl (pc := 228) dX8_read_228 rfl (by unfold vp_in; decide) ?_
              refine Bd_bipush (v := -20) (pc := 229) dX8_read_229 (by decide) ?_
              refine Bd_iload_6 (pc := 231) dX8_read_231 ?_
              refine Bd_isub (pc := 233) dX8_read_233 ?_
              refine Bd_iret (pc := 234) dX8_read_234 rfl ?_
              have e86 : M178 59 86 = nI (cn (C 5 4) + q) := iv2.2.1.1.trans (rd_cnt w (by omega) q hO).1
              have e54 : M178 59 86 - (nI q + 0) = C 5 4 := by rw [e86, Int32.add_zero, ← nI_add, ← w.nb]; exact Int32.add_sub_cancel _ _
              rw [e54]
              exact hR _ _ ⟨_, (by rw [readB, if_neg hz]; exact Or.inr (Or.inl ⟨q, hqn, hO, hB, hneg, by rw [Int32.add_zero], rfl⟩)), IV_undo w (by omega) hO iv2, fun k hk => by rw [updM_ne (by omega)]; exact (ev.2.2 k hk).trans (hN.2 k hk)⟩
        · refine Bd_iconst (v := 2) (pc := 121) dX8_read_121 (by decide) ?_
          refine Bd_goto (t := 126) (pc := 122) dX8_read_122 (by decide) ?_
          refine Bd_istore_5 (pc := 126) dX8_read_126 (Nat.le_of_ble_eq_true rfl) rfl ?_
          refine Bd_iload_5 (pc := 128) dX8_read_128 ?_
          refine Bd_if_ne (t := 206) (pc := 130) dX8_read_130 (by decide) (fun b130 => ?_) (fun b130 => (show False from absurd b130 (by decide)).elim)
          refine Bd_iinc_8 (pc := 206) dX8_read_206 (show _ + Int32.ofInt 1 = _ + 1 from rfl) (Nat.le_of_ble_eq_true rfl) rfl ?_
          refine Bd_goto (t := 51) (pc := 209) dX8_read_209 (by decide) ?_
          refine Bd_iload_8 (pc := 51) dX8_read_51 ?_
          refine Bd_iconst (v := 3) (pc := 53) dX8_read_53 (by decide) ?_
          refine Bd_iload_4 (pc := 54) dX8_read_54 ?_
          refine Bd_imul (pc := 56) dX8_read_56 ?_
          refine Bd_icmp_ge (t := 212) (pc := 57) dX8_read_57 (by decide) (fun b57 => ?_) (fun b57 => ?_)
          · refine Bd_iload_7 (pc := 212) dX8_read_212 ?_
            refine Bd_if_eq (t := 235) (pc := 214) dX8_read_214 (by decide) (fun b214 => ?_) (fun b214 => (show False from b214 rfl).elim)
            refine Bd_aload_0 (pc := 235) dX8_read_235 ?_
            refine Bd_iload_5 (pc := 236) dX8_read_236 ?_
            refine Bd_putI (j := 37) (ty := .int) ck8 (pc := 238) dX8_read_238 k_823 rfl (Nat.le_of_ble_eq_true rfl) rfl rfl pfI rfl rfl ?_
            refine Bd_iload_6 (pc := 241) dX8_read_241 ?_
            refine Bd_iret (pc := 243) dX8_read_243 rfl ?_
            exact hR _ _ ⟨_, (by rw [readB, if_neg hz]; exact Or.inl ⟨q, hqn, hO, (fun z => b2_0.mp b118 ((rd_in (by omega) hLN).mpr (by have y := (rd_b hL hq13 (fun j hj => (hO j hj).1)).mp z; rw [eL]; omega))), rfl, rfl⟩), IV_torn hN.1, fun k hk => by rw [updM_ne (by omega)]; exact hN.2 k hk⟩
          · refine Bd_iload_5 (pc := 60) dX8_read_60 ?_
            refine Bd_if_ne (t := 212) (pc := 62) dX8_read_62 (by decide) (fun b62 => ?_) (fun b62 => (show False from absurd b62 (by decide)).elim)
            refine Bd_iload_7 (pc := 212) dX8_read_212 ?_
            refine Bd_if_eq (t := 235) (pc := 214) dX8_read_214 (by decide) (fun b214 => ?_) (fun b214 => (show False from b214 rfl).elim)
            refine Bd_aload_0 (pc := 235) dX8_read_235 ?_
            refine Bd_iload_5 (pc := 236) dX8_read_236 ?_
            refine Bd_putI (j := 37) (ty := .int) ck8 (pc := 238) dX8_read_238 k_823 rfl (Nat.le_of_ble_eq_true rfl) rfl rfl pfI rfl rfl ?_
            refine Bd_iload_6 (pc := 241) dX8_read_241 ?_
            refine Bd_iret (pc := 243) dX8_read_243 rfl ?_
            exact hR _ _ ⟨_, (by rw [readB, if_neg hz]; exact Or.inl ⟨q, hqn, hO, (fun z => b2_0.mp b118 ((rd_in (by omega) hLN).mpr (by have y := (rd_b hL hq13 (fun j hj => (hO j hj).1)).mp z; rw [eL]; omega))), rfl, rfl⟩), IV_torn hN.1, fun k hk => by rw [updM_ne (by omega)]; exact hN.2 k hk⟩
      · refine Bd_iconst (v := 2) (pc := 121) dX8_read_121 (by decide) ?_
        refine Bd_goto (t := 126) (pc := 122) dX8_read_122 (by decide) ?_
        refine Bd_istore_5 (pc := 126) dX8_read_126 (Nat.le_of_ble_eq_true rfl) rfl ?_
        refine Bd_iload_5 (pc := 128) dX8_read_128 ?_
        refine Bd_if_ne (t := 206) (pc := 130) dX8_read_130 (by decide) (fun b130 => ?_) (fun b130 => (show False from absurd b130 (by decide)).elim)
        refine Bd_iinc_8 (pc := 206) dX8_read_206 (show _ + Int32.ofInt 1 = _ + 1 from rfl) (Nat.le_of_ble_eq_true rfl) rfl ?_
        refine Bd_goto (t := 51) (pc := 209) dX8_read_209 (by decide) ?_
        refine Bd_iload_8 (pc := 51) dX8_read_51 ?_
        refine Bd_iconst (v := 3) (pc := 53) dX8_read_53 (by decide) ?_
        refine Bd_iload_4 (pc := 54) dX8_read_54 ?_
        refine Bd_imul (pc := 56) dX8_read_56 ?_
        refine Bd_icmp_ge (t := 212) (pc := 57) dX8_read_57 (by decide) (fun b57 => ?_) (fun b57 => ?_)
        · refine Bd_iload_7 (pc := 212) dX8_read_212 ?_
          refine Bd_if_eq (t := 235) (pc := 214) dX8_read_214 (by decide) (fun b214 => ?_) (fun b214 => (show False from b214 rfl).elim)
          refine Bd_aload_0 (pc := 235) dX8_read_235 ?_
          refine Bd_iload_5 (pc := 236) dX8_read_236 ?_
          refine Bd_putI (j := 37) (ty := .int) ck8 (pc := 238) dX8_read_238 k_823 rfl (Nat.le_of_ble_eq_true rfl) rfl rfl pfI rfl rfl ?_
          refine Bd_iload_6 (pc := 241) dX8_read_241 ?_
          refine Bd_iret (pc := 243) dX8_read_243 rfl ?_
          exact hR _ _ ⟨_, (by rw [readB, if_neg hz]; exact Or.inl ⟨q, hqn, hO, (fun z => b2_0.mp b118 ((rd_in (by omega) hLN).mpr (by have y := (rd_b hL hq13 (fun j hj => (hO j hj).1)).mp z; rw [eL]; omega))), rfl, rfl⟩), IV_torn hN.1, fun k hk => by rw [updM_ne (by omega)]; exact hN.2 k hk⟩
        · refine Bd_iload_5 (pc := 60) dX8_read_60 ?_
          refine Bd_if_ne (t := 212) (pc := 62) dX8_read_62 (by decide) (fun b62 => ?_) (fun b62 => (show False from absurd b62 (by decide)).elim)
          refine Bd_iload_7 (pc := 212) dX8_read_212 ?_
          refine Bd_if_eq (t := 235) (pc := 214) dX8_read_214 (by decide) (fun b214 => ?_) (fun b214 => (show False from b214 rfl).elim)
          refine Bd_aload_0 (pc := 235) dX8_read_235 ?_
          refine Bd_iload_5 (pc := 236) dX8_read_236 ?_
          refine Bd_putI (j := 37) (ty := .int) ck8 (pc := 238) dX8_read_238 k_823 rfl (Nat.le_of_ble_eq_true rfl) rfl rfl pfI rfl rfl ?_
          refine Bd_iload_6 (pc := 241) dX8_read_241 ?_
          refine Bd_iret (pc := 243) dX8_read_243 rfl ?_
          exact hR _ _ ⟨_, (by rw [readB, if_neg hz]; exact Or.inl ⟨q, hqn, hO, (fun z => b2_0.mp b118 ((rd_in (by omega) hLN).mpr (by have y := (rd_b hL hq13 (fun j hj => (hO j hj).1)).mp z; rw [eL]; omega))), rfl, rfl⟩), IV_torn hN.1, fun k hk => by rw [updM_ne (by omega)]; exact hN.2 k hk⟩
    · refine Bd_iconst (v := 2) (pc := 121) dX8_read_121 (by decide) ?_
      refine Bd_goto (t := 126) (pc := 122) dX8_read_122 (by decide) ?_
      refine Bd_istore_5 (pc := 126) dX8_read_126 (Nat.le_of_ble_eq_true rfl) rfl ?_
      refine Bd_iload_5 (pc := 128) dX8_read_128 ?_
      refine Bd_if_ne (t := 206) (pc := 130) dX8_read_130 (by decide) (fun b130 => ?_) (fun b130 => (show False from absurd b130 (by decide)).elim)
      refine Bd_iinc_8 (pc := 206) dX8_read_206 (show _ + Int32.ofInt 1 = _ + 1 from rfl) (Nat.le_of_ble_eq_true rfl) rfl ?_
      refine Bd_goto (t := 51) (pc := 209) dX8_read_209 (by decide) ?_
      refine Bd_iload_8 (pc := 51) dX8_read_51 ?_
      refine Bd_iconst (v := 3) (pc := 53) dX8_read_53 (by decide) ?_
      refine Bd_iload_4 (pc := 54) dX8_read_54 ?_
      refine Bd_imul (pc := 56) dX8_read_56 ?_
      refine Bd_icmp_ge (t := 212) (pc := 57) dX8_read_57 (by decide) (fun b57 => ?_) (fun b57 => ?_)
      · refine Bd_iload_7 (pc := 212) dX8_read_212 ?_
        refine Bd_if_eq (t := 235) (pc := 214) dX8_read_214 (by decide) (fun b214 => ?_) (fun b214 => (show False from b214 rfl).elim)
        refine Bd_aload_0 (pc := 235) dX8_read_235 ?_
        refine Bd_iload_5 (pc := 236) dX8_read_236 ?_
        refine Bd_putI (j := 37) (ty := .int) ck8 (pc := 238) dX8_read_238 k_823 rfl (Nat.le_of_ble_eq_true rfl) rfl rfl pfI rfl rfl ?_
        refine Bd_iload_6 (pc := 241) dX8_read_241 ?_
        refine Bd_iret (pc := 243) dX8_read_243 rfl ?_
        exact hR _ _ ⟨_, (by rw [readB, if_neg hz]; exact Or.inl ⟨q, hqn, hO, (fun z => b2_0.mp b118 ((rd_in (by omega) hLN).mpr (by have y := (rd_b hL hq13 (fun j hj => (hO j hj).1)).mp z; rw [eL]; omega))), rfl, rfl⟩), IV_torn hN.1, fun k hk => by rw [updM_ne (by omega)]; exact hN.2 k hk⟩
      · refine Bd_iload_5 (pc := 60) dX8_read_60 ?_
        refine Bd_if_ne (t := 212) (pc := 62) dX8_read_62 (by decide) (fun b62 => ?_) (fun b62 => (show False from absurd b62 (by decide)).elim)
        refine Bd_iload_7 (pc := 212) dX8_read_212 ?_
        refine Bd_if_eq (t := 235) (pc := 214) dX8_read_214 (by decide) (fun b214 => ?_) (fun b214 => (show False from b214 rfl).elim)
        refine Bd_aload_0 (pc := 235) dX8_read_235 ?_
        refine Bd_iload_5 (pc := 236) dX8_read_236 ?_
        refine Bd_putI (j := 37) (ty := .int) ck8 (pc := 238) dX8_read_238 k_823 rfl (Nat.le_of_ble_eq_true rfl) rfl rfl pfI rfl rfl ?_
        refine Bd_iload_6 (pc := 241) dX8_read_241 ?_
        refine Bd_iret (pc := 243) dX8_read_243 rfl ?_
        exact hR _ _ ⟨_, (by rw [readB, if_neg hz]; exact Or.inl ⟨q, hqn, hO, (fun z => b2_0.mp b118 ((rd_in (by omega) hLN).mpr (by have y := (rd_b hL hq13 (fun j hj => (hO j hj).1)).mp z; rw [eL]; omega))), rfl, rfl⟩), IV_torn hN.1, fun k hk => by rw [updM_ne (by omega)]; exact hN.2 k hk⟩
  · have eq : q = cn n := by omega
    subst eq
    refine Bd_iload_8 (pc := 51) dX8_read_51 ?_
    refine Bd_iconst (v := 3) (pc := 53) dX8_read_53 (by decide) ?_
    refine Bd_iload_4 (pc := 54) dX8_read_54 ?_
    refine Bd_imul (pc := 56) dX8_read_56 ?_
    refine Bd_icmp_ge (t := 212) (pc := 57) dX8_read_57 (by decide) (fun b57 => ?_) (fun b57 => (show False from lf_x h3 b57).elim)
    refine Bd_iload_7 (pc := 212) dX8_read_212 ?_
    refine Bd_if_eq (t := 235) (pc := 214) dX8_read_214 (by decide) (fun b214 => ?_) (fun b214 => (show False from b214 rfl).elim)
    refine Bd_aload_0 (pc := 235) dX8_read_235 ?_
    refine Bd_iload_5 (pc := 236) dX8_read_236 ?_
    refine Bd_putI (j := 37) (ty := .int) ck8 (pc := 238) dX8_read_238 k_823 rfl (Nat.le_of_ble_eq_true rfl) rfl rfl pfI rfl rfl ?_
    refine Bd_iload_6 (pc := 241) dX8_read_241 ?_
    refine Bd_iret (pc := 243) dX8_read_243 rfl ?_
    exact hR _ _ ⟨_, (by rw [readB, if_neg hz]; exact Or.inr (Or.inr ⟨hO, hn.symm, rfl⟩)), IV_torn hN.1, fun k hk => by rw [updM_ne (by omega)]; exact hN.2 k hk⟩
theorem k013 {n : Int32} : (0 ≤ n ∧ n ≤ 13) ↔ (¬ n < 0 ∧ n ≤ 13) := and_congr_left (fun _ => Int32.not_lt.symm)
set_option maxRecDepth 100000 in
set_option maxHeartbeats 4000000 in
theorem sem_X8_read0 {C M : Mem} (h : RF C M) {k lane f n : Int32} : Sem mX8_read SH [.ref 58, .int k, .int lane, .int f, .int n] M (RI SH (fun r N => ∃ C', readR C k lane f n r C' ∧ RP C' M N)) := by
  refine Sem_of rfl (fun G => (Nat.le_of_ble_eq_true rfl)) (fun G => ?_)
  by_cases hk : 0 ≤ k ∧ k < 4
  · rcases k4_c hk with rfl | rfl | rfl | rfl
    · refine Bd_iload_1 (pc := 0) dX8_read_0 ?_
      refine Bd_i2l (pc := 1) dX8_read_1 ?_
      refine Bd_lconst (v := 0) (pc := 2) dX8_read_2 (by decide) ?_
      refine Bd_ldc2 k_969 (pc := 3) dX8_read_3 ?_
      refine Bd_callS3i (cd := mX8_in) (pc := 6) dX8_read_6 k_910 v_X8_in ⟨(Nat.le_of_ble_eq_true rfl), (Nat.le_of_ble_eq_true rfl)⟩ (sem_in (a := 0) (b := 3) (by decide) (by decide)) (Nat.le_of_ble_eq_true rfl) ?_
      refine Bd_if_eq (t := 37) (pc := 9) dX8_read_9 (by decide) (fun b9 => (show False from absurd ((b2_t (k03.mpr hk)).trans b9) (by decide)).elim) (fun b9 => ?_)
      refine Bd_iload_2 (pc := 12) dX8_read_12 ?_
      refine Bd_i2l (pc := 13) dX8_read_13 ?_
      refine Bd_lconst (v := 0) (pc := 14) dX8_read_14 (by decide) ?_
      refine Bd_ldc2 k_990 (pc := 15) dX8_read_15 ?_
      refine Bd_callS3i (cd := mX8_in) (pc := 18) dX8_read_18 k_910 v_X8_in ⟨(Nat.le_of_ble_eq_true rfl), (Nat.le_of_ble_eq_true rfl)⟩ (sem_in (a := 0) (b := 2) (by decide) (by decide)) (Nat.le_of_ble_eq_true rfl) ?_
      refine Bd_if_eq (t := 37) (pc := 21) dX8_read_21 (by decide) (fun b21 => ?_) (fun b21 => ?_)
      · refine Bd_iconst (v := -1) (pc := 37) dX8_read_37 (by decide) ?_
        refine Bd_iret (pc := 38) dX8_read_38 rfl ?_
        exact ⟨_, rfl, rfl, C, (show readR C 0 lane f n _ _ from by rw [readR, if_neg (fun q => b2_0.mp b21 (k02'.mpr q.2.1))]; exact ⟨rfl, rfl⟩), RP_rf h⟩
      · refine Bd_iload_4 (pc := 24) dX8_read_24 ?_
        refine Bd_i2l (pc := 26) dX8_read_26 ?_
        refine Bd_lconst (v := 0) (pc := 27) dX8_read_27 (by decide) ?_
        refine Bd_ldc2 k_1227 (pc := 28) dX8_read_28 ?_
        refine Bd_callS3i (cd := mX8_in) (pc := 31) dX8_read_31 k_910 v_X8_in ⟨(Nat.le_of_ble_eq_true rfl), (Nat.le_of_ble_eq_true rfl)⟩ (sem_in (a := 0) (b := 13) (by decide) (by decide)) (Nat.le_of_ble_eq_true rfl) ?_
        refine Bd_if_ne (t := 39) (pc := 34) dX8_read_34 (by decide) (fun b34 => ?_) (fun b34 => ?_)
        · refine Bd_iconst (v := 0) (pc := 39) dX8_read_39 (by decide) ?_
          refine Bd_istore_5 (pc := 40) dX8_read_40 (Nat.le_of_ble_eq_true rfl) rfl ?_
          refine Bd_iconst (v := 0) (pc := 42) dX8_read_42 (by decide) ?_
          refine Bd_istore_6 (pc := 43) dX8_read_43 (Nat.le_of_ble_eq_true rfl) rfl ?_
          refine Bd_iconst (v := 0) (pc := 45) dX8_read_45 (by decide) ?_
          refine Bd_istore_7 (pc := 46) dX8_read_46 (Nat.le_of_ble_eq_true rfl) rfl ?_
          refine Bd_iconst (v := 0) (pc := 48) dX8_read_48 (by decide) ?_
          refine Bd_istore_8 (pc := 49) dX8_read_49 (Nat.le_of_ble_eq_true rfl) rfl ?_
          have hn := k013.mp (b2_n.mp b34)
          have hP : rdP 0 lane n := ⟨hk, k02'.mp (b2_n.mp b21), hn⟩
          have hnn := rd_n hn.1 hn.2
          by_cases hz : ¬ n = 0 ∧ ¬ rdF C 34 lane = 0
          · have h3 : 3 * n = nI (3 * cn n) := by have := rd3n (cn n) hnn.2; rw [← hnn.1] at this; exact this
            have n0 : 0 < cn n := Nat.pos_of_ne_zero (fun z => hz.1 (by rw [hnn.1, z]; rfl))
            refine Bd_iload_8 (pc := 51) dX8_read_51 ?_
            refine Bd_iconst (v := 3) (pc := 53) dX8_read_53 (by decide) ?_
            refine Bd_iload_4 (pc := 54) dX8_read_54 ?_
            refine Bd_imul (pc := 56) dX8_read_56 ?_
            refine Bd_icmp_ge (t := 212) (pc := 57) dX8_read_57 (by decide) (fun b57 => (show False from lf_s h3 (by omega) (show 0 < 3 * cn n by omega) b57).elim) (fun b57 => ?_)
            refine Bd_iload_5 (pc := 60) dX8_read_60 ?_
            refine Bd_if_ne (t := 212) (pc := 62) dX8_read_62 (by decide) (fun b62 => (show False from b62 rfl).elim) (fun b62 => ?_)
            refine Bd_iload_7 (pc := 65) dX8_read_65 ?_
            refine Bd_if_ne (t := 212) (pc := 67) dX8_read_67 (by decide) (fun b67 => (show False from b67 rfl).elim) (fun b67 => ?_)
            refine Bd_aload_0 (pc := 70) dX8_read_70 ?_
            refine Bd_getR (j := 34) ck8 (pc := 71) dX8_read_71 k_820 rfl (Nat.le_of_ble_eq_true rfl) rfl ?_
            refine Bd_iload_1 (pc := 74) dX8_read_74 ?_
            refine Bd_ialdc (j := 0) rfl (pc := 75) dX8_read_75 rfl (by unfold vp_in; decide) ?_
            refine Bd_bipush (v := -4) (pc := 76) dX8_read_76 (by decide) ?_
            refine Bd_icmp_ne (t := 85) (pc := 78) dX8_read_78 (by decide) (fun b78 => ?_) (fun b78 => ?_)
            · refine Bd_aload_0 (pc := 85) dX8_read_85 ?_
              refine Bd_getR (j := 34) ck8 (pc := 86) dX8_read_86 k_820 rfl (Nat.le_of_ble_eq_true rfl) rfl ?_
              refine Bd_iload_1 (pc := 89) dX8_read_89 ?_
              refine Bd_ialdc (j := 0) rfl (pc := 90) dX8_read_90 rfl (by unfold vp_in; decide) ?_
              refine Bd_iload_2 (pc := 91) dX8_read_91 ?_
              refine Bd_icmp_eq (t := 99) (pc := 92) dX8_read_92 (by decide) (fun b92 => (show False from hz.2 (by rw [rdF, if_neg (fun z => b78 ((IVs_4 h.2.2.2.2.2.2.1.1).mpr z)), if_pos (by rcases h.2.2.2.2.2.2.1.1.1 with ⟨y, -⟩ | ⟨y, -⟩; exact absurd ((IVs_4 h.2.2.2.2.2.2.1.1).mpr y) b78; rw [← y]; exact b92)])).elim) (fun b92 => ?_)
              refine Bd_iconst (v := 3) (pc := 95) dX8_read_95 (by decide) ?_
              refine Bd_goto (t := 126) (pc := 96) dX8_read_96 (by decide) ?_
              refine Bd_istore_5 (pc := 126) dX8_read_126 (Nat.le_of_ble_eq_true rfl) rfl ?_
              refine Bd_iload_5 (pc := 128) dX8_read_128 ?_
              refine Bd_if_ne (t := 206) (pc := 130) dX8_read_130 (by decide) (fun b130 => ?_) (fun b130 => (show False from absurd b130 (by decide)).elim)
              refine Bd_iinc_8 (pc := 206) dX8_read_206 (show _ + Int32.ofInt 1 = _ + 1 from rfl) (Nat.le_of_ble_eq_true rfl) rfl ?_
              refine Bd_goto (t := 51) (pc := 209) dX8_read_209 (by decide) ?_
              have hn1 : ¬ C 34 1 = -1 := fun z => b78 ((IVs_4 h.2.2.2.2.2.2.1.1).mpr z)
              have eF : rdF C 34 lane = 3 := by { rw [rdF, if_neg hn1, if_neg (fun z => b92 (by rcases h.2.2.2.2.2.2.1.1.1 with ⟨y, -⟩ | ⟨y, -⟩; exact absurd y hn1; rw [← z]; exact y))] }
              refine Bd_iload_8 (pc := 51) dX8_read_51 ?_
              refine Bd_iconst (v := 3) (pc := 53) dX8_read_53 (by decide) ?_
              refine Bd_iload_4 (pc := 54) dX8_read_54 ?_
              refine Bd_imul (pc := 56) dX8_read_56 ?_
              refine Bd_icmp_ge (t := 212) (pc := 57) dX8_read_57 (by decide) (fun b57 => ?_) (fun b57 => ?_)
              · refine Bd_iload_7 (pc := 212) dX8_read_212 ?_
                refine Bd_if_eq (t := 235) (pc := 214) dX8_read_214 (by decide) (fun b214 => ?_) (fun b214 => (show False from b214 rfl).elim)
                refine Bd_aload_0 (pc := 235) dX8_read_235 ?_
                refine Bd_iload_5 (pc := 236) dX8_read_236 ?_
                refine Bd_putI (j := 37) (ty := .int) ck8 (pc := 238) dX8_read_238 k_823 rfl (Nat.le_of_ble_eq_true rfl) rfl rfl pfI rfl rfl ?_
                refine Bd_iload_6 (pc := 241) dX8_read_241 ?_
                refine Bd_iret (pc := 243) dX8_read_243 rfl ?_
                exact ⟨_, rfl, rfl, _, (show readR C 0 lane f n _ _ from by rw [readR, if_pos hP, show shB 0 = 34 from rfl, readB, if_pos hz, eF]; exact ⟨rfl, rfl⟩), IV_torn h.2, fun k hk => updM_ne (by omega)⟩
              · refine Bd_iload_5 (pc := 60) dX8_read_60 ?_
                refine Bd_if_ne (t := 212) (pc := 62) dX8_read_62 (by decide) (fun b62 => ?_) (fun b62 => (show False from absurd b62 (by decide)).elim)
                refine Bd_iload_7 (pc := 212) dX8_read_212 ?_
                refine Bd_if_eq (t := 235) (pc := 214) dX8_read_214 (by decide) (fun b214 => ?_) (fun b214 => (show False from b214 rfl).elim)
                refine Bd_aload_0 (pc := 235) dX8_read_235 ?_
                refine Bd_iload_5 (pc := 236) dX8_read_236 ?_
                refine Bd_putI (j := 37) (ty := .int) ck8 (pc := 238) dX8_read_238 k_823 rfl (Nat.le_of_ble_eq_true rfl) rfl rfl pfI rfl rfl ?_
                refine Bd_iload_6 (pc := 241) dX8_read_241 ?_
                refine Bd_iret (pc := 243) dX8_read_243 rfl ?_
                exact ⟨_, rfl, rfl, _, (show readR C 0 lane f n _ _ from by rw [readR, if_pos hP, show shB 0 = 34 from rfl, readB, if_pos hz, eF]; exact ⟨rfl, rfl⟩), IV_torn h.2, fun k hk => updM_ne (by omega)⟩
            · refine Bd_iconst (v := 1) (pc := 81) dX8_read_81 (by decide) ?_
              refine Bd_goto (t := 126) (pc := 82) dX8_read_82 (by decide) ?_
              refine Bd_istore_5 (pc := 126) dX8_read_126 (Nat.le_of_ble_eq_true rfl) rfl ?_
              refine Bd_iload_5 (pc := 128) dX8_read_128 ?_
              refine Bd_if_ne (t := 206) (pc := 130) dX8_read_130 (by decide) (fun b130 => ?_) (fun b130 => (show False from absurd b130 (by decide)).elim)
              refine Bd_iinc_8 (pc := 206) dX8_read_206 (show _ + Int32.ofInt 1 = _ + 1 from rfl) (Nat.le_of_ble_eq_true rfl) rfl ?_
              refine Bd_goto (t := 51) (pc := 209) dX8_read_209 (by decide) ?_
              have eF : rdF C 34 lane = 1 := by rw [rdF, if_pos ((IVs_4 h.2.2.2.2.2.2.1.1).mp b78)]
              refine Bd_iload_8 (pc := 51) dX8_read_51 ?_
              refine Bd_iconst (v := 3) (pc := 53) dX8_read_53 (by decide) ?_
              refine Bd_iload_4 (pc := 54) dX8_read_54 ?_
              refine Bd_imul (pc := 56) dX8_read_56 ?_
              refine Bd_icmp_ge (t := 212) (pc := 57) dX8_read_57 (by decide) (fun b57 => ?_) (fun b57 => ?_)
              · refine Bd_iload_7 (pc := 212) dX8_read_212 ?_
                refine Bd_if_eq (t := 235) (pc := 214) dX8_read_214 (by decide) (fun b214 => ?_) (fun b214 => (show False from b214 rfl).elim)
                refine Bd_aload_0 (pc := 235) dX8_read_235 ?_
                refine Bd_iload_5 (pc := 236) dX8_read_236 ?_
                refine Bd_putI (j := 37) (ty := .int) ck8 (pc := 238) dX8_read_238 k_823 rfl (Nat.le_of_ble_eq_true rfl) rfl rfl pfI rfl rfl ?_
                refine Bd_iload_6 (pc := 241) dX8_read_241 ?_
                refine Bd_iret (pc := 243) dX8_read_243 rfl ?_
                exact ⟨_, rfl, rfl, _, (show readR C 0 lane f n _ _ from by rw [readR, if_pos hP, show shB 0 = 34 from rfl, readB, if_pos hz, eF]; exact ⟨rfl, rfl⟩), IV_torn h.2, fun k hk => updM_ne (by omega)⟩
              · refine Bd_iload_5 (pc := 60) dX8_read_60 ?_
                refine Bd_if_ne (t := 212) (pc := 62) dX8_read_62 (by decide) (fun b62 => ?_) (fun b62 => (show False from absurd b62 (by decide)).elim)
                refine Bd_iload_7 (pc := 212) dX8_read_212 ?_
                refine Bd_if_eq (t := 235) (pc := 214) dX8_read_214 (by decide) (fun b214 => ?_) (fun b214 => (show False from b214 rfl).elim)
                refine Bd_aload_0 (pc := 235) dX8_read_235 ?_
                refine Bd_iload_5 (pc := 236) dX8_read_236 ?_
                refine Bd_putI (j := 37) (ty := .int) ck8 (pc := 238) dX8_read_238 k_823 rfl (Nat.le_of_ble_eq_true rfl) rfl rfl pfI rfl rfl ?_
                refine Bd_iload_6 (pc := 241) dX8_read_241 ?_
                refine Bd_iret (pc := 243) dX8_read_243 rfl ?_
                exact ⟨_, rfl, rfl, _, (show readR C 0 lane f n _ _ from by rw [readR, if_pos hP, show shB 0 = 34 from rfl, readB, if_pos hz, eF]; exact ⟨rfl, rfl⟩), IV_torn h.2, fun k hk => updM_ne (by omega)⟩
          · refine Bd_nx (bd_rd (b := 34) (kk := 0) h.1 h.2 (by decide) (by decide) (by decide) h.1.2.2.2.2.1.2 (fun C' N' q => q.2.2.2.2.2.1.1) hnn.1 hnn.2 hz (fun r N hr => ⟨r, rfl, rfl, ?_⟩)) (by repeat (first | exact True.intro | refine And.intro rfl ?_))
            obtain ⟨C', h1, h2⟩ := hr
            exact ⟨C', (show readR C 0 lane f n r C' from by rw [readR, if_pos hP]; exact h1), h2⟩
        · refine Bd_iconst (v := -1) (pc := 37) dX8_read_37 (by decide) ?_
          refine Bd_iret (pc := 38) dX8_read_38 rfl ?_
          exact ⟨_, rfl, rfl, C, (show readR C 0 lane f n _ _ from by rw [readR, if_neg (fun q => b2_0.mp b34 (k013.mpr q.2.2))]; exact ⟨rfl, rfl⟩), RP_rf h⟩
    · refine Bd_iload_1 (pc := 0) dX8_read_0 ?_
      refine Bd_i2l (pc := 1) dX8_read_1 ?_
      refine Bd_lconst (v := 0) (pc := 2) dX8_read_2 (by decide) ?_
      refine Bd_ldc2 k_969 (pc := 3) dX8_read_3 ?_
      refine Bd_callS3i (cd := mX8_in) (pc := 6) dX8_read_6 k_910 v_X8_in ⟨(Nat.le_of_ble_eq_true rfl), (Nat.le_of_ble_eq_true rfl)⟩ (sem_in (a := 0) (b := 3) (by decide) (by decide)) (Nat.le_of_ble_eq_true rfl) ?_
      refine Bd_if_eq (t := 37) (pc := 9) dX8_read_9 (by decide) (fun b9 => (show False from absurd ((b2_t (k03.mpr hk)).trans b9) (by decide)).elim) (fun b9 => ?_)
      refine Bd_iload_2 (pc := 12) dX8_read_12 ?_
      refine Bd_i2l (pc := 13) dX8_read_13 ?_
      refine Bd_lconst (v := 0) (pc := 14) dX8_read_14 (by decide) ?_
      refine Bd_ldc2 k_990 (pc := 15) dX8_read_15 ?_
      refine Bd_callS3i (cd := mX8_in) (pc := 18) dX8_read_18 k_910 v_X8_in ⟨(Nat.le_of_ble_eq_true rfl), (Nat.le_of_ble_eq_true rfl)⟩ (sem_in (a := 0) (b := 2) (by decide) (by decide)) (Nat.le_of_ble_eq_true rfl) ?_
      refine Bd_if_eq (t := 37) (pc := 21) dX8_read_21 (by decide) (fun b21 => ?_) (fun b21 => ?_)
      · refine Bd_iconst (v := -1) (pc := 37) dX8_read_37 (by decide) ?_
        refine Bd_iret (pc := 38) dX8_read_38 rfl ?_
        exact ⟨_, rfl, rfl, C, (show readR C 1 lane f n _ _ from by rw [readR, if_neg (fun q => b2_0.mp b21 (k02'.mpr q.2.1))]; exact ⟨rfl, rfl⟩), RP_rf h⟩
      · refine Bd_iload_4 (pc := 24) dX8_read_24 ?_
        refine Bd_i2l (pc := 26) dX8_read_26 ?_
        refine Bd_lconst (v := 0) (pc := 27) dX8_read_27 (by decide) ?_
        refine Bd_ldc2 k_1227 (pc := 28) dX8_read_28 ?_
        refine Bd_callS3i (cd := mX8_in) (pc := 31) dX8_read_31 k_910 v_X8_in ⟨(Nat.le_of_ble_eq_true rfl), (Nat.le_of_ble_eq_true rfl)⟩ (sem_in (a := 0) (b := 13) (by decide) (by decide)) (Nat.le_of_ble_eq_true rfl) ?_
        refine Bd_if_ne (t := 39) (pc := 34) dX8_read_34 (by decide) (fun b34 => ?_) (fun b34 => ?_)
        · refine Bd_iconst (v := 0) (pc := 39) dX8_read_39 (by decide) ?_
          refine Bd_istore_5 (pc := 40) dX8_read_40 (Nat.le_of_ble_eq_true rfl) rfl ?_
          refine Bd_iconst (v := 0) (pc := 42) dX8_read_42 (by decide) ?_
          refine Bd_istore_6 (pc := 43) dX8_read_43 (Nat.le_of_ble_eq_true rfl) rfl ?_
          refine Bd_iconst (v := 0) (pc := 45) dX8_read_45 (by decide) ?_
          refine Bd_istore_7 (pc := 46) dX8_read_46 (Nat.le_of_ble_eq_true rfl) rfl ?_
          refine Bd_iconst (v := 0) (pc := 48) dX8_read_48 (by decide) ?_
          refine Bd_istore_8 (pc := 49) dX8_read_49 (Nat.le_of_ble_eq_true rfl) rfl ?_
          have hn := k013.mp (b2_n.mp b34)
          have hP : rdP 1 lane n := ⟨hk, k02'.mp (b2_n.mp b21), hn⟩
          have hnn := rd_n hn.1 hn.2
          by_cases hz : ¬ n = 0 ∧ ¬ rdF C 36 lane = 0
          · have h3 : 3 * n = nI (3 * cn n) := by have := rd3n (cn n) hnn.2; rw [← hnn.1] at this; exact this
            have n0 : 0 < cn n := Nat.pos_of_ne_zero (fun z => hz.1 (by rw [hnn.1, z]; rfl))
            refine Bd_iload_8 (pc := 51) dX8_read_51 ?_
            refine Bd_iconst (v := 3) (pc := 53) dX8_read_53 (by decide) ?_
            refine Bd_iload_4 (pc := 54) dX8_read_54 ?_
            refine Bd_imul (pc := 56) dX8_read_56 ?_
            refine Bd_icmp_ge (t := 212) (pc := 57) dX8_read_57 (by decide) (fun b57 => (show False from lf_s h3 (by omega) (show 0 < 3 * cn n by omega) b57).elim) (fun b57 => ?_)
            refine Bd_iload_5 (pc := 60) dX8_read_60 ?_
            refine Bd_if_ne (t := 212) (pc := 62) dX8_read_62 (by decide) (fun b62 => (show False from b62 rfl).elim) (fun b62 => ?_)
            refine Bd_iload_7 (pc := 65) dX8_read_65 ?_
            refine Bd_if_ne (t := 212) (pc := 67) dX8_read_67 (by decide) (fun b67 => (show False from b67 rfl).elim) (fun b67 => ?_)
            refine Bd_aload_0 (pc := 70) dX8_read_70 ?_
            refine Bd_getR (j := 34) ck8 (pc := 71) dX8_read_71 k_820 rfl (Nat.le_of_ble_eq_true rfl) rfl ?_
            refine Bd_iload_1 (pc := 74) dX8_read_74 ?_
            refine Bd_ialdc (j := 1) rfl (pc := 75) dX8_read_75 rfl (by unfold vp_in; decide) ?_
            refine Bd_bipush (v := -4) (pc := 76) dX8_read_76 (by decide) ?_
            refine Bd_icmp_ne (t := 85) (pc := 78) dX8_read_78 (by decide) (fun b78 => ?_) (fun b78 => ?_)
            · refine Bd_aload_0 (pc := 85) dX8_read_85 ?_
              refine Bd_getR (j := 34) ck8 (pc := 86) dX8_read_86 k_820 rfl (Nat.le_of_ble_eq_true rfl) rfl ?_
              refine Bd_iload_1 (pc := 89) dX8_read_89 ?_
              refine Bd_ialdc (j := 1) rfl (pc := 90) dX8_read_90 rfl (by unfold vp_in; decide) ?_
              refine Bd_iload_2 (pc := 91) dX8_read_91 ?_
              refine Bd_icmp_eq (t := 99) (pc := 92) dX8_read_92 (by decide) (fun b92 => (show False from hz.2 (by rw [rdF, if_neg (fun z => b78 ((IVs_4 h.2.2.2.2.2.2.1.2.1).mpr z)), if_pos (by rcases h.2.2.2.2.2.2.1.2.1.1 with ⟨y, -⟩ | ⟨y, -⟩; exact absurd ((IVs_4 h.2.2.2.2.2.2.1.2.1).mpr y) b78; rw [← y]; exact b92)])).elim) (fun b92 => ?_)
              refine Bd_iconst (v := 3) (pc := 95) dX8_read_95 (by decide) ?_
              refine Bd_goto (t := 126) (pc := 96) dX8_read_96 (by decide) ?_
              refine Bd_istore_5 (pc := 126) dX8_read_126 (Nat.le_of_ble_eq_true rfl) rfl ?_
              refine Bd_iload_5 (pc := 128) dX8_read_128 ?_
              refine Bd_if_ne (t := 206) (pc := 130) dX8_read_130 (by decide) (fun b130 => ?_) (fun b130 => (show False from absurd b130 (by decide)).elim)
              refine Bd_iinc_8 (pc := 206) dX8_read_206 (show _ + Int32.ofInt 1 = _ + 1 from rfl) (Nat.le_of_ble_eq_true rfl) rfl ?_
              refine Bd_goto (t := 51) (pc := 209) dX8_read_209 (by decide) ?_
              have hn1 : ¬ C 36 1 = -1 := fun z => b78 ((IVs_4 h.2.2.2.2.2.2.1.2.1).mpr z)
              have eF : rdF C 36 lane = 3 := by { rw [rdF, if_neg hn1, if_neg (fun z => b92 (by rcases h.2.2.2.2.2.2.1.2.1.1 with ⟨y, -⟩ | ⟨y, -⟩; exact absurd y hn1; rw [← z]; exact y))] }
              refine Bd_iload_8 (pc := 51) dX8_read_51 ?_
              refine Bd_iconst (v := 3) (pc := 53) dX8_read_53 (by decide) ?_
              refine Bd_iload_4 (pc := 54) dX8_read_54 ?_
              refine Bd_imul (pc := 56) dX8_read_56 ?_
              refine Bd_icmp_ge (t := 212) (pc := 57) dX8_read_57 (by decide) (fun b57 => ?_) (fun b57 => ?_)
              · refine Bd_iload_7 (pc := 212) dX8_read_212 ?_
                refine Bd_if_eq (t := 235) (pc := 214) dX8_read_214 (by decide) (fun b214 => ?_) (fun b214 => (show False from b214 rfl).elim)
                refine Bd_aload_0 (pc := 235) dX8_read_235 ?_
                refine Bd_iload_5 (pc := 236) dX8_read_236 ?_
                refine Bd_putI (j := 37) (ty := .int) ck8 (pc := 238) dX8_read_238 k_823 rfl (Nat.le_of_ble_eq_true rfl) rfl rfl pfI rfl rfl ?_
                refine Bd_iload_6 (pc := 241) dX8_read_241 ?_
                refine Bd_iret (pc := 243) dX8_read_243 rfl ?_
                exact ⟨_, rfl, rfl, _, (show readR C 1 lane f n _ _ from by rw [readR, if_pos hP, show shB 1 = 36 from rfl, readB, if_pos hz, eF]; exact ⟨rfl, rfl⟩), IV_torn h.2, fun k hk => updM_ne (by omega)⟩
              · refine Bd_iload_5 (pc := 60) dX8_read_60 ?_
                refine Bd_if_ne (t := 212) (pc := 62) dX8_read_62 (by decide) (fun b62 => ?_) (fun b62 => (show False from absurd b62 (by decide)).elim)
                refine Bd_iload_7 (pc := 212) dX8_read_212 ?_
                refine Bd_if_eq (t := 235) (pc := 214) dX8_read_214 (by decide) (fun b214 => ?_) (fun b214 => (show False from b214 rfl).elim)
                refine Bd_aload_0 (pc := 235) dX8_read_235 ?_
                refine Bd_iload_5 (pc := 236) dX8_read_236 ?_
                refine Bd_putI (j := 37) (ty := .int) ck8 (pc := 238) dX8_read_238 k_823 rfl (Nat.le_of_ble_eq_true rfl) rfl rfl pfI rfl rfl ?_
                refine Bd_iload_6 (pc := 241) dX8_read_241 ?_
                refine Bd_iret (pc := 243) dX8_read_243 rfl ?_
                exact ⟨_, rfl, rfl, _, (show readR C 1 lane f n _ _ from by rw [readR, if_pos hP, show shB 1 = 36 from rfl, readB, if_pos hz, eF]; exact ⟨rfl, rfl⟩), IV_torn h.2, fun k hk => updM_ne (by omega)⟩
            · refine Bd_iconst (v := 1) (pc := 81) dX8_read_81 (by decide) ?_
              refine Bd_goto (t := 126) (pc := 82) dX8_read_82 (by decide) ?_
              refine Bd_istore_5 (pc := 126) dX8_read_126 (Nat.le_of_ble_eq_true rfl) rfl ?_
              refine Bd_iload_5 (pc := 128) dX8_read_128 ?_
              refine Bd_if_ne (t := 206) (pc := 130) dX8_read_130 (by decide) (fun b130 => ?_) (fun b130 => (show False from absurd b130 (by decide)).elim)
              refine Bd_iinc_8 (pc := 206) dX8_read_206 (show _ + Int32.ofInt 1 = _ + 1 from rfl) (Nat.le_of_ble_eq_true rfl) rfl ?_
              refine Bd_goto (t := 51) (pc := 209) dX8_read_209 (by decide) ?_
              have eF : rdF C 36 lane = 1 := by rw [rdF, if_pos ((IVs_4 h.2.2.2.2.2.2.1.2.1).mp b78)]
              refine Bd_iload_8 (pc := 51) dX8_read_51 ?_
              refine Bd_iconst (v := 3) (pc := 53) dX8_read_53 (by decide) ?_
              refine Bd_iload_4 (pc := 54) dX8_read_54 ?_
              refine Bd_imul (pc := 56) dX8_read_56 ?_
              refine Bd_icmp_ge (t := 212) (pc := 57) dX8_read_57 (by decide) (fun b57 => ?_) (fun b57 => ?_)
              · refine Bd_iload_7 (pc := 212) dX8_read_212 ?_
                refine Bd_if_eq (t := 235) (pc := 214) dX8_read_214 (by decide) (fun b214 => ?_) (fun b214 => (show False from b214 rfl).elim)
                refine Bd_aload_0 (pc := 235) dX8_read_235 ?_
                refine Bd_iload_5 (pc := 236) dX8_read_236 ?_
                refine Bd_putI (j := 37) (ty := .int) ck8 (pc := 238) dX8_read_238 k_823 rfl (Nat.le_of_ble_eq_true rfl) rfl rfl pfI rfl rfl ?_
                refine Bd_iload_6 (pc := 241) dX8_read_241 ?_
                refine Bd_iret (pc := 243) dX8_read_243 rfl ?_
                exact ⟨_, rfl, rfl, _, (show readR C 1 lane f n _ _ from by rw [readR, if_pos hP, show shB 1 = 36 from rfl, readB, if_pos hz, eF]; exact ⟨rfl, rfl⟩), IV_torn h.2, fun k hk => updM_ne (by omega)⟩
              · refine Bd_iload_5 (pc := 60) dX8_read_60 ?_
                refine Bd_if_ne (t := 212) (pc := 62) dX8_read_62 (by decide) (fun b62 => ?_) (fun b62 => (show False from absurd b62 (by decide)).elim)
                refine Bd_iload_7 (pc := 212) dX8_read_212 ?_
                refine Bd_if_eq (t := 235) (pc := 214) dX8_read_214 (by decide) (fun b214 => ?_) (fun b214 => (show False from b214 rfl).elim)
                refine Bd_aload_0 (pc := 235) dX8_read_235 ?_
                refine Bd_iload_5 (pc := 236) dX8_read_236 ?_
                refine Bd_putI (j := 37) (ty := .int) ck8 (pc := 238) dX8_read_238 k_823 rfl (Nat.le_of_ble_eq_true rfl) rfl rfl pfI rfl rfl ?_
                refine Bd_iload_6 (pc := 241) dX8_read_241 ?_
                refine Bd_iret (pc := 243) dX8_read_243 rfl ?_
                exact ⟨_, rfl, rfl, _, (show readR C 1 lane f n _ _ from by rw [readR, if_pos hP, show shB 1 = 36 from rfl, readB, if_pos hz, eF]; exact ⟨rfl, rfl⟩), IV_torn h.2, fun k hk => updM_ne (by omega)⟩
          · refine Bd_nx (bd_rd (b := 36) (kk := 1) h.1 h.2 (by decide) (by decide) (by decide) h.1.2.2.2.2.2.1.2 (fun C' N' q => q.2.2.2.2.2.1.2.1) hnn.1 hnn.2 hz (fun r N hr => ⟨r, rfl, rfl, ?_⟩)) (by repeat (first | exact True.intro | refine And.intro rfl ?_))
            obtain ⟨C', h1, h2⟩ := hr
            exact ⟨C', (show readR C 1 lane f n r C' from by rw [readR, if_pos hP]; exact h1), h2⟩
        · refine Bd_iconst (v := -1) (pc := 37) dX8_read_37 (by decide) ?_
          refine Bd_iret (pc := 38) dX8_read_38 rfl ?_
          exact ⟨_, rfl, rfl, C, (show readR C 1 lane f n _ _ from by rw [readR, if_neg (fun q => b2_0.mp b34 (k013.mpr q.2.2))]; exact ⟨rfl, rfl⟩), RP_rf h⟩
    · refine Bd_iload_1 (pc := 0) dX8_read_0 ?_
      refine Bd_i2l (pc := 1) dX8_read_1 ?_
      refine Bd_lconst (v := 0) (pc := 2) dX8_read_2 (by decide) ?_
      refine Bd_ldc2 k_969 (pc := 3) dX8_read_3 ?_
      refine Bd_callS3i (cd := mX8_in) (pc := 6) dX8_read_6 k_910 v_X8_in ⟨(Nat.le_of_ble_eq_true rfl), (Nat.le_of_ble_eq_true rfl)⟩ (sem_in (a := 0) (b := 3) (by decide) (by decide)) (Nat.le_of_ble_eq_true rfl) ?_
      refine Bd_if_eq (t := 37) (pc := 9) dX8_read_9 (by decide) (fun b9 => (show False from absurd ((b2_t (k03.mpr hk)).trans b9) (by decide)).elim) (fun b9 => ?_)
      refine Bd_iload_2 (pc := 12) dX8_read_12 ?_
      refine Bd_i2l (pc := 13) dX8_read_13 ?_
      refine Bd_lconst (v := 0) (pc := 14) dX8_read_14 (by decide) ?_
      refine Bd_ldc2 k_990 (pc := 15) dX8_read_15 ?_
      refine Bd_callS3i (cd := mX8_in) (pc := 18) dX8_read_18 k_910 v_X8_in ⟨(Nat.le_of_ble_eq_true rfl), (Nat.le_of_ble_eq_true rfl)⟩ (sem_in (a := 0) (b := 2) (by decide) (by decide)) (Nat.le_of_ble_eq_true rfl) ?_
      refine Bd_if_eq (t := 37) (pc := 21) dX8_read_21 (by decide) (fun b21 => ?_) (fun b21 => ?_)
      · refine Bd_iconst (v := -1) (pc := 37) dX8_read_37 (by decide) ?_
        refine Bd_iret (pc := 38) dX8_read_38 rfl ?_
        exact ⟨_, rfl, rfl, C, (show readR C 2 lane f n _ _ from by rw [readR, if_neg (fun q => b2_0.mp b21 (k02'.mpr q.2.1))]; exact ⟨rfl, rfl⟩), RP_rf h⟩
      · refine Bd_iload_4 (pc := 24) dX8_read_24 ?_
        refine Bd_i2l (pc := 26) dX8_read_26 ?_
        refine Bd_lconst (v := 0) (pc := 27) dX8_read_27 (by decide) ?_
        refine Bd_ldc2 k_1227 (pc := 28) dX8_read_28 ?_
        refine Bd_callS3i (cd := mX8_in) (pc := 31) dX8_read_31 k_910 v_X8_in ⟨(Nat.le_of_ble_eq_true rfl), (Nat.le_of_ble_eq_true rfl)⟩ (sem_in (a := 0) (b := 13) (by decide) (by decide)) (Nat.le_of_ble_eq_true rfl) ?_
        refine Bd_if_ne (t := 39) (pc := 34) dX8_read_34 (by decide) (fun b34 => ?_) (fun b34 => ?_)
        · refine Bd_iconst (v := 0) (pc := 39) dX8_read_39 (by decide) ?_
          refine Bd_istore_5 (pc := 40) dX8_read_40 (Nat.le_of_ble_eq_true rfl) rfl ?_
          refine Bd_iconst (v := 0) (pc := 42) dX8_read_42 (by decide) ?_
          refine Bd_istore_6 (pc := 43) dX8_read_43 (Nat.le_of_ble_eq_true rfl) rfl ?_
          refine Bd_iconst (v := 0) (pc := 45) dX8_read_45 (by decide) ?_
          refine Bd_istore_7 (pc := 46) dX8_read_46 (Nat.le_of_ble_eq_true rfl) rfl ?_
          refine Bd_iconst (v := 0) (pc := 48) dX8_read_48 (by decide) ?_
          refine Bd_istore_8 (pc := 49) dX8_read_49 (Nat.le_of_ble_eq_true rfl) rfl ?_
          have hn := k013.mp (b2_n.mp b34)
          have hP : rdP 2 lane n := ⟨hk, k02'.mp (b2_n.mp b21), hn⟩
          have hnn := rd_n hn.1 hn.2
          by_cases hz : ¬ n = 0 ∧ ¬ rdF C 38 lane = 0
          · have h3 : 3 * n = nI (3 * cn n) := by have := rd3n (cn n) hnn.2; rw [← hnn.1] at this; exact this
            have n0 : 0 < cn n := Nat.pos_of_ne_zero (fun z => hz.1 (by rw [hnn.1, z]; rfl))
            refine Bd_iload_8 (pc := 51) dX8_read_51 ?_
            refine Bd_iconst (v := 3) (pc := 53) dX8_read_53 (by decide) ?_
            refine Bd_iload_4 (pc := 54) dX8_read_54 ?_
            refine Bd_imul (pc := 56) dX8_read_56 ?_
            refine Bd_icmp_ge (t := 212) (pc := 57) dX8_read_57 (by decide) (fun b57 => (show False from lf_s h3 (by omega) (show 0 < 3 * cn n by omega) b57).elim) (fun b57 => ?_)
            refine Bd_iload_5 (pc := 60) dX8_read_60 ?_
            refine Bd_if_ne (t := 212) (pc := 62) dX8_read_62 (by decide) (fun b62 => (show False from b62 rfl).elim) (fun b62 => ?_)
            refine Bd_iload_7 (pc := 65) dX8_read_65 ?_
            refine Bd_if_ne (t := 212) (pc := 67) dX8_read_67 (by decide) (fun b67 => (show False from b67 rfl).elim) (fun b67 => ?_)
            refine Bd_aload_0 (pc := 70) dX8_read_70 ?_
            refine Bd_getR (j := 34) ck8 (pc := 71) dX8_read_71 k_820 rfl (Nat.le_of_ble_eq_true rfl) rfl ?_
            refine Bd_iload_1 (pc := 74) dX8_read_74 ?_
            refine Bd_ialdc (j := 2) rfl (pc := 75) dX8_read_75 rfl (by unfold vp_in; decide) ?_
            refine Bd_bipush (v := -4) (pc := 76) dX8_read_76 (by decide) ?_
            refine Bd_icmp_ne (t := 85) (pc := 78) dX8_read_78 (by decide) (fun b78 => ?_) (fun b78 => ?_)
            · refine Bd_aload_0 (pc := 85) dX8_read_85 ?_
              refine Bd_getR (j := 34) ck8 (pc := 86) dX8_read_86 k_820 rfl (Nat.le_of_ble_eq_true rfl) rfl ?_
              refine Bd_iload_1 (pc := 89) dX8_read_89 ?_
              refine Bd_ialdc (j := 2) rfl (pc := 90) dX8_read_90 rfl (by unfold vp_in; decide) ?_
              refine Bd_iload_2 (pc := 91) dX8_read_91 ?_
              refine Bd_icmp_eq (t := 99) (pc := 92) dX8_read_92 (by decide) (fun b92 => (show False from hz.2 (by rw [rdF, if_neg (fun z => b78 ((IVs_4 h.2.2.2.2.2.2.1.2.2.1).mpr z)), if_pos (by rcases h.2.2.2.2.2.2.1.2.2.1.1 with ⟨y, -⟩ | ⟨y, -⟩; exact absurd ((IVs_4 h.2.2.2.2.2.2.1.2.2.1).mpr y) b78; rw [← y]; exact b92)])).elim) (fun b92 => ?_)
              refine Bd_iconst (v := 3) (pc := 95) dX8_read_95 (by decide) ?_
              refine Bd_goto (t := 126) (pc := 96) dX8_read_96 (by decide) ?_
              refine Bd_istore_5 (pc := 126) dX8_read_126 (Nat.le_of_ble_eq_true rfl) rfl ?_
              refine Bd_iload_5 (pc := 128) dX8_read_128 ?_
              refine Bd_if_ne (t := 206) (pc := 130) dX8_read_130 (by decide) (fun b130 => ?_) (fun b130 => (show False from absurd b130 (by decide)).elim)
              refine Bd_iinc_8 (pc := 206) dX8_read_206 (show _ + Int32.ofInt 1 = _ + 1 from rfl) (Nat.le_of_ble_eq_true rfl) rfl ?_
              refine Bd_goto (t := 51) (pc := 209) dX8_read_209 (by decide) ?_
              have hn1 : ¬ C 38 1 = -1 := fun z => b78 ((IVs_4 h.2.2.2.2.2.2.1.2.2.1).mpr z)
              have eF : rdF C 38 lane = 3 := by { rw [rdF, if_neg hn1, if_neg (fun z => b92 (by rcases h.2.2.2.2.2.2.1.2.2.1.1 with ⟨y, -⟩ | ⟨y, -⟩; exact absurd y hn1; rw [← z]; exact y))] }
              refine Bd_iload_8 (pc := 51) dX8_read_51 ?_
              refine Bd_iconst (v := 3) (pc := 53) dX8_read_53 (by decide) ?_
              refine Bd_iload_4 (pc := 54) dX8_read_54 ?_
              refine Bd_imul (pc := 56) dX8_read_56 ?_
              refine Bd_icmp_ge (t := 212) (pc := 57) dX8_read_57 (by decide) (fun b57 => ?_) (fun b57 => ?_)
              · refine Bd_iload_7 (pc := 212) dX8_read_212 ?_
                refine Bd_if_eq (t := 235) (pc := 214) dX8_read_214 (by decide) (fun b214 => ?_) (fun b214 => (show False from b214 rfl).elim)
                refine Bd_aload_0 (pc := 235) dX8_read_235 ?_
                refine Bd_iload_5 (pc := 236) dX8_read_236 ?_
                refine Bd_putI (j := 37) (ty := .int) ck8 (pc := 238) dX8_read_238 k_823 rfl (Nat.le_of_ble_eq_true rfl) rfl rfl pfI rfl rfl ?_
                refine Bd_iload_6 (pc := 241) dX8_read_241 ?_
                refine Bd_iret (pc := 243) dX8_read_243 rfl ?_
                exact ⟨_, rfl, rfl, _, (show readR C 2 lane f n _ _ from by rw [readR, if_pos hP, show shB 2 = 38 from rfl, readB, if_pos hz, eF]; exact ⟨rfl, rfl⟩), IV_torn h.2, fun k hk => updM_ne (by omega)⟩
              · refine Bd_iload_5 (pc := 60) dX8_read_60 ?_
                refine Bd_if_ne (t := 212) (pc := 62) dX8_read_62 (by decide) (fun b62 => ?_) (fun b62 => (show False from absurd b62 (by decide)).elim)
                refine Bd_iload_7 (pc := 212) dX8_read_212 ?_
                refine Bd_if_eq (t := 235) (pc := 214) dX8_read_214 (by decide) (fun b214 => ?_) (fun b214 => (show False from b214 rfl).elim)
                refine Bd_aload_0 (pc := 235) dX8_read_235 ?_
                refine Bd_iload_5 (pc := 236) dX8_read_236 ?_
                refine Bd_putI (j := 37) (ty := .int) ck8 (pc := 238) dX8_read_238 k_823 rfl (Nat.le_of_ble_eq_true rfl) rfl rfl pfI rfl rfl ?_
                refine Bd_iload_6 (pc := 241) dX8_read_241 ?_
                refine Bd_iret (pc := 243) dX8_read_243 rfl ?_
                exact ⟨_, rfl, rfl, _, (show readR C 2 lane f n _ _ from by rw [readR, if_pos hP, show shB 2 = 38 from rfl, readB, if_pos hz, eF]; exact ⟨rfl, rfl⟩), IV_torn h.2, fun k hk => updM_ne (by omega)⟩
            · refine Bd_iconst (v := 1) (pc := 81) dX8_read_81 (by decide) ?_
              refine Bd_goto (t := 126) (pc := 82) dX8_read_82 (by decide) ?_
              refine Bd_istore_5 (pc := 126) dX8_read_126 (Nat.le_of_ble_eq_true rfl) rfl ?_
              refine Bd_iload_5 (pc := 128) dX8_read_128 ?_
              refine Bd_if_ne (t := 206) (pc := 130) dX8_read_130 (by decide) (fun b130 => ?_) (fun b130 => (show False from absurd b130 (by decide)).elim)
              refine Bd_iinc_8 (pc := 206) dX8_read_206 (show _ + Int32.ofInt 1 = _ + 1 from rfl) (Nat.le_of_ble_eq_true rfl) rfl ?_
              refine Bd_goto (t := 51) (pc := 209) dX8_read_209 (by decide) ?_
              have eF : rdF C 38 lane = 1 := by rw [rdF, if_pos ((IVs_4 h.2.2.2.2.2.2.1.2.2.1).mp b78)]
              refine Bd_iload_8 (pc := 51) dX8_read_51 ?_
              refine Bd_iconst (v := 3) (pc := 53) dX8_read_53 (by decide) ?_
              refine Bd_iload_4 (pc := 54) dX8_read_54 ?_
              refine Bd_imul (pc := 56) dX8_read_56 ?_
              refine Bd_icmp_ge (t := 212) (pc := 57) dX8_read_57 (by decide) (fun b57 => ?_) (fun b57 => ?_)
              · refine Bd_iload_7 (pc := 212) dX8_read_212 ?_
                refine Bd_if_eq (t := 235) (pc := 214) dX8_read_214 (by decide) (fun b214 => ?_) (fun b214 => (show False from b214 rfl).elim)
                refine Bd_aload_0 (pc := 235) dX8_read_235 ?_
                refine Bd_iload_5 (pc := 236) dX8_read_236 ?_
                refine Bd_putI (j := 37) (ty := .int) ck8 (pc := 238) dX8_read_238 k_823 rfl (Nat.le_of_ble_eq_true rfl) rfl rfl pfI rfl rfl ?_
                refine Bd_iload_6 (pc := 241) dX8_read_241 ?_
                refine Bd_iret (pc := 243) dX8_read_243 rfl ?_
                exact ⟨_, rfl, rfl, _, (show readR C 2 lane f n _ _ from by rw [readR, if_pos hP, show shB 2 = 38 from rfl, readB, if_pos hz, eF]; exact ⟨rfl, rfl⟩), IV_torn h.2, fun k hk => updM_ne (by omega)⟩
              · refine Bd_iload_5 (pc := 60) dX8_read_60 ?_
                refine Bd_if_ne (t := 212) (pc := 62) dX8_read_62 (by decide) (fun b62 => ?_) (fun b62 => (show False from absurd b62 (by decide)).elim)
                refine Bd_iload_7 (pc := 212) dX8_read_212 ?_
                refine Bd_if_eq (t := 235) (pc := 214) dX8_read_214 (by decide) (fun b214 => ?_) (fun b214 => (show False from b214 rfl).elim)
                refine Bd_aload_0 (pc := 235) dX8_read_235 ?_
                refine Bd_iload_5 (pc := 236) dX8_read_236 ?_
                refine Bd_putI (j := 37) (ty := .int) ck8 (pc := 238) dX8_read_238 k_823 rfl (Nat.le_of_ble_eq_true rfl) rfl rfl pfI rfl rfl ?_
                refine Bd_iload_6 (pc := 241) dX8_read_241 ?_
                refine Bd_iret (pc := 243) dX8_read_243 rfl ?_
                exact ⟨_, rfl, rfl, _, (show readR C 2 lane f n _ _ from by rw [readR, if_pos hP, show shB 2 = 38 from rfl, readB, if_pos hz, eF]; exact ⟨rfl, rfl⟩), IV_torn h.2, fun k hk => updM_ne (by omega)⟩
          · refine Bd_nx (bd_rd (b := 38) (kk := 2) h.1 h.2 (by decide) (by decide) (by decide) h.1.2.2.2.2.2.2.1.2 (fun C' N' q => q.2.2.2.2.2.1.2.2.1) hnn.1 hnn.2 hz (fun r N hr => ⟨r, rfl, rfl, ?_⟩)) (by repeat (first | exact True.intro | refine And.intro rfl ?_))
            obtain ⟨C', h1, h2⟩ := hr
            exact ⟨C', (show readR C 2 lane f n r C' from by rw [readR, if_pos hP]; exact h1), h2⟩
        · refine Bd_iconst (v := -1) (pc := 37) dX8_read_37 (by decide) ?_
          refine Bd_iret (pc := 38) dX8_read_38 rfl ?_
          exact ⟨_, rfl, rfl, C, (show readR C 2 lane f n _ _ from by rw [readR, if_neg (fun q => b2_0.mp b34 (k013.mpr q.2.2))]; exact ⟨rfl, rfl⟩), RP_rf h⟩
    · refine Bd_iload_1 (pc := 0) dX8_read_0 ?_
      refine Bd_i2l (pc := 1) dX8_read_1 ?_
      refine Bd_lconst (v := 0) (pc := 2) dX8_read_2 (by decide) ?_
      refine Bd_ldc2 k_969 (pc := 3) dX8_read_3 ?_
      refine Bd_callS3i (cd := mX8_in) (pc := 6) dX8_read_6 k_910 v_X8_in ⟨(Nat.le_of_ble_eq_true rfl), (Nat.le_of_ble_eq_true rfl)⟩ (sem_in (a := 0) (b := 3) (by decide) (by decide)) (Nat.le_of_ble_eq_true rfl) ?_
      refine Bd_if_eq (t := 37) (pc := 9) dX8_read_9 (by decide) (fun b9 => (show False from absurd ((b2_t (k03.mpr hk)).trans b9) (by decide)).elim) (fun b9 => ?_)
      refine Bd_iload_2 (pc := 12) dX8_read_12 ?_
      refine Bd_i2l (pc := 13) dX8_read_13 ?_
      refine Bd_lconst (v := 0) (pc := 14) dX8_read_14 (by decide) ?_
      refine Bd_ldc2 k_990 (pc := 15) dX8_read_15 ?_
      refine Bd_callS3i (cd := mX8_in) (pc := 18) dX8_read_18 k_910 v_X8_in ⟨(Nat.le_of_ble_eq_true rfl), (Nat.le_of_ble_eq_true rfl)⟩ (sem_in (a := 0) (b := 2) (by decide) (by decide)) (Nat.le_of_ble_eq_true rfl) ?_
      refine Bd_if_eq (t := 37) (pc := 21) dX8_read_21 (by decide) (fun b21 => ?_) (fun b21 => ?_)
      · refine Bd_iconst (v := -1) (pc := 37) dX8_read_37 (by decide) ?_
        refine Bd_iret (pc := 38) dX8_read_38 rfl ?_
        exact ⟨_, rfl, rfl, C, (show readR C 3 lane f n _ _ from by rw [readR, if_neg (fun q => b2_0.mp b21 (k02'.mpr q.2.1))]; exact ⟨rfl, rfl⟩), RP_rf h⟩
      · refine Bd_iload_4 (pc := 24) dX8_read_24 ?_
        refine Bd_i2l (pc := 26) dX8_read_26 ?_
        refine Bd_lconst (v := 0) (pc := 27) dX8_read_27 (by decide) ?_
        refine Bd_ldc2 k_1227 (pc := 28) dX8_read_28 ?_
        refine Bd_callS3i (cd := mX8_in) (pc := 31) dX8_read_31 k_910 v_X8_in ⟨(Nat.le_of_ble_eq_true rfl), (Nat.le_of_ble_eq_true rfl)⟩ (sem_in (a := 0) (b := 13) (by decide) (by decide)) (Nat.le_of_ble_eq_true rfl) ?_
        refine Bd_if_ne (t := 39) (pc := 34) dX8_read_34 (by decide) (fun b34 => ?_) (fun b34 => ?_)
        · refine Bd_iconst (v := 0) (pc := 39) dX8_read_39 (by decide) ?_
          refine Bd_istore_5 (pc := 40) dX8_read_40 (Nat.le_of_ble_eq_true rfl) rfl ?_
          refine Bd_iconst (v := 0) (pc := 42) dX8_read_42 (by decide) ?_
          refine Bd_istore_6 (pc := 43) dX8_read_43 (Nat.le_of_ble_eq_true rfl) rfl ?_
          refine Bd_iconst (v := 0) (pc := 45) dX8_read_45 (by decide) ?_
          refine Bd_istore_7 (pc := 46) dX8_read_46 (Nat.le_of_ble_eq_true rfl) rfl ?_
          refine Bd_iconst (v := 0) (pc := 48) dX8_read_48 (by decide) ?_
          refine Bd_istore_8 (pc := 49) dX8_read_49 (Nat.le_of_ble_eq_true rfl) rfl ?_
          have hn := k013.mp (b2_n.mp b34)
          have hP : rdP 3 lane n := ⟨hk, k02'.mp (b2_n.mp b21), hn⟩
          have hnn := rd_n hn.1 hn.2
          by_cases hz : ¬ n = 0 ∧ ¬ rdF C 40 lane = 0
          · have h3 : 3 * n = nI (3 * cn n) := by have := rd3n (cn n) hnn.2; rw [← hnn.1] at this; exact this
            have n0 : 0 < cn n := Nat.pos_of_ne_zero (fun z => hz.1 (by rw [hnn.1, z]; rfl))
            refine Bd_iload_8 (pc := 51) dX8_read_51 ?_
            refine Bd_iconst (v := 3) (pc := 53) dX8_read_53 (by decide) ?_
            refine Bd_iload_4 (pc := 54) dX8_read_54 ?_
            refine Bd_imul (pc := 56) dX8_read_56 ?_
            refine Bd_icmp_ge (t := 212) (pc := 57) dX8_read_57 (by decide) (fun b57 => (show False from lf_s h3 (by omega) (show 0 < 3 * cn n by omega) b57).elim) (fun b57 => ?_)
            refine Bd_iload_5 (pc := 60) dX8_read_60 ?_
            refine Bd_if_ne (t := 212) (pc := 62) dX8_read_62 (by decide) (fun b62 => (show False from b62 rfl).elim) (fun b62 => ?_)
            refine Bd_iload_7 (pc := 65) dX8_read_65 ?_
            refine Bd_if_ne (t := 212) (pc := 67) dX8_read_67 (by decide) (fun b67 => (show False from b67 rfl).elim) (fun b67 => ?_)
            refine Bd_aload_0 (pc := 70) dX8_read_70 ?_
            refine Bd_getR (j := 34) ck8 (pc := 71) dX8_read_71 k_820 rfl (Nat.le_of_ble_eq_true rfl) rfl ?_
            refine Bd_iload_1 (pc := 74) dX8_read_74 ?_
            refine Bd_ialdc (j := 3) rfl (pc := 75) dX8_read_75 rfl (by unfold vp_in; decide) ?_
            refine Bd_bipush (v := -4) (pc := 76) dX8_read_76 (by decide) ?_
            refine Bd_icmp_ne (t := 85) (pc := 78) dX8_read_78 (by decide) (fun b78 => ?_) (fun b78 => ?_)
            · refine Bd_aload_0 (pc := 85) dX8_read_85 ?_
              refine Bd_getR (j := 34) ck8 (pc := 86) dX8_read_86 k_820 rfl (Nat.le_of_ble_eq_true rfl) rfl ?_
              refine Bd_iload_1 (pc := 89) dX8_read_89 ?_
              refine Bd_ialdc (j := 3) rfl (pc := 90) dX8_read_90 rfl (by unfold vp_in; decide) ?_
              refine Bd_iload_2 (pc := 91) dX8_read_91 ?_
              refine Bd_icmp_eq (t := 99) (pc := 92) dX8_read_92 (by decide) (fun b92 => (show False from hz.2 (by rw [rdF, if_neg (fun z => b78 ((IVs_4 h.2.2.2.2.2.2.1.2.2.2).mpr z)), if_pos (by rcases h.2.2.2.2.2.2.1.2.2.2.1 with ⟨y, -⟩ | ⟨y, -⟩; exact absurd ((IVs_4 h.2.2.2.2.2.2.1.2.2.2).mpr y) b78; rw [← y]; exact b92)])).elim) (fun b92 => ?_)
              refine Bd_iconst (v := 3) (pc := 95) dX8_read_95 (by decide) ?_
              refine Bd_goto (t := 126) (pc := 96) dX8_read_96 (by decide) ?_
              refine Bd_istore_5 (pc := 126) dX8_read_126 (Nat.le_of_ble_eq_true rfl) rfl ?_
              refine Bd_iload_5 (pc := 128) dX8_read_128 ?_
              refine Bd_if_ne (t := 206) (pc := 130) dX8_read_130 (by decide) (fun b130 => ?_) (fun b130 => (show False from absurd b130 (by decide)).elim)
              refine Bd_iinc_8 (pc := 206) dX8_read_206 (show _ + Int32.ofInt 1 = _ + 1 from rfl) (Nat.le_of_ble_eq_true rfl) rfl ?_
              refine Bd_goto (t := 51) (pc := 209) dX8_read_209 (by decide) ?_
              have hn1 : ¬ C 40 1 = -1 := fun z => b78 ((IVs_4 h.2.2.2.2.2.2.1.2.2.2).mpr z)
              have eF : rdF C 40 lane = 3 := by { rw [rdF, if_neg hn1, if_neg (fun z => b92 (by rcases h.2.2.2.2.2.2.1.2.2.2.1 with ⟨y, -⟩ | ⟨y, -⟩; exact absurd y hn1; rw [← z]; exact y))] }
              refine Bd_iload_8 (pc := 51) dX8_read_51 ?_
              refine Bd_iconst (v := 3) (pc := 53) dX8_read_53 (by decide) ?_
              refine Bd_iload_4 (pc := 54) dX8_read_54 ?_
              refine Bd_imul (pc := 56) dX8_read_56 ?_
              refine Bd_icmp_ge (t := 212) (pc := 57) dX8_read_57 (by decide) (fun b57 => ?_) (fun b57 => ?_)
              · refine Bd_iload_7 (pc := 212) dX8_read_212 ?_
                refine Bd_if_eq (t := 235) (pc := 214) dX8_read_214 (by decide) (fun b214 => ?_) (fun b214 => (show False from b214 rfl).elim)
                refine Bd_aload_0 (pc := 235) dX8_read_235 ?_
                refine Bd_iload_5 (pc := 236) dX8_read_236 ?_
                refine Bd_putI (j := 37) (ty := .int) ck8 (pc := 238) dX8_read_238 k_823 rfl (Nat.le_of_ble_eq_true rfl) rfl rfl pfI rfl rfl ?_
                refine Bd_iload_6 (pc := 241) dX8_read_241 ?_
                refine Bd_iret (pc := 243) dX8_read_243 rfl ?_
                exact ⟨_, rfl, rfl, _, (show readR C 3 lane f n _ _ from by rw [readR, if_pos hP, show shB 3 = 40 from rfl, readB, if_pos hz, eF]; exact ⟨rfl, rfl⟩), IV_torn h.2, fun k hk => updM_ne (by omega)⟩
              · refine Bd_iload_5 (pc := 60) dX8_read_60 ?_
                refine Bd_if_ne (t := 212) (pc := 62) dX8_read_62 (by decide) (fun b62 => ?_) (fun b62 => (show False from absurd b62 (by decide)).elim)
                refine Bd_iload_7 (pc := 212) dX8_read_212 ?_
                refine Bd_if_eq (t := 235) (pc := 214) dX8_read_214 (by decide) (fun b214 => ?_) (fun b214 => (show False from b214 rfl).elim)
                refine Bd_aload_0 (pc := 235) dX8_read_235 ?_
                refine Bd_iload_5 (pc := 236) dX8_read_236 ?_
                refine Bd_putI (j := 37) (ty := .int) ck8 (pc := 238) dX8_read_238 k_823 rfl (Nat.le_of_ble_eq_true rfl) rfl rfl pfI rfl rfl ?_
                refine Bd_iload_6 (pc := 241) dX8_read_241 ?_
                refine Bd_iret (pc := 243) dX8_read_243 rfl ?_
                exact ⟨_, rfl, rfl, _, (show readR C 3 lane f n _ _ from by rw [readR, if_pos hP, show shB 3 = 40 from rfl, readB, if_pos hz, eF]; exact ⟨rfl, rfl⟩), IV_torn h.2, fun k hk => updM_ne (by omega)⟩
            · refine Bd_iconst (v := 1) (pc := 81) dX8_read_81 (by decide) ?_
              refine Bd_goto (t := 126) (pc := 82) dX8_read_82 (by decide) ?_
              refine Bd_istore_5 (pc := 126) dX8_read_126 (Nat.le_of_ble_eq_true rfl) rfl ?_
              refine Bd_iload_5 (pc := 128) dX8_read_128 ?_
              refine Bd_if_ne (t := 206) (pc := 130) dX8_read_130 (by decide) (fun b130 => ?_) (fun b130 => (show False from absurd b130 (by decide)).elim)
              refine Bd_iinc_8 (pc := 206) dX8_read_206 (show _ + Int32.ofInt 1 = _ + 1 from rfl) (Nat.le_of_ble_eq_true rfl) rfl ?_
              refine Bd_goto (t := 51) (pc := 209) dX8_read_209 (by decide) ?_
              have eF : rdF C 40 lane = 1 := by rw [rdF, if_pos ((IVs_4 h.2.2.2.2.2.2.1.2.2.2).mp b78)]
              refine Bd_iload_8 (pc := 51) dX8_read_51 ?_
              refine Bd_iconst (v := 3) (pc := 53) dX8_read_53 (by decide) ?_
              refine Bd_iload_4 (pc := 54) dX8_read_54 ?_
              refine Bd_imul (pc := 56) dX8_read_56 ?_
              refine Bd_icmp_ge (t := 212) (pc := 57) dX8_read_57 (by decide) (fun b57 => ?_) (fun b57 => ?_)
              · refine Bd_iload_7 (pc := 212) dX8_read_212 ?_
                refine Bd_if_eq (t := 235) (pc := 214) dX8_read_214 (by decide) (fun b214 => ?_) (fun b214 => (show False from b214 rfl).elim)
                refine Bd_aload_0 (pc := 235) dX8_read_235 ?_
                refine Bd_iload_5 (pc := 236) dX8_read_236 ?_
                refine Bd_putI (j := 37) (ty := .int) ck8 (pc := 238) dX8_read_238 k_823 rfl (Nat.le_of_ble_eq_true rfl) rfl rfl pfI rfl rfl ?_
                refine Bd_iload_6 (pc := 241) dX8_read_241 ?_
                refine Bd_iret (pc := 243) dX8_read_243 rfl ?_
                exact ⟨_, rfl, rfl, _, (show readR C 3 lane f n _ _ from by rw [readR, if_pos hP, show shB 3 = 40 from rfl, readB, if_pos hz, eF]; exact ⟨rfl, rfl⟩), IV_torn h.2, fun k hk => updM_ne (by omega)⟩
              · refine Bd_iload_5 (pc := 60) dX8_read_60 ?_
                refine Bd_if_ne (t := 212) (pc := 62) dX8_read_62 (by decide) (fun b62 => ?_) (fun b62 => (show False from absurd b62 (by decide)).elim)
                refine Bd_iload_7 (pc := 212) dX8_read_212 ?_
                refine Bd_if_eq (t := 235) (pc := 214) dX8_read_214 (by decide) (fun b214 => ?_) (fun b214 => (show False from b214 rfl).elim)
                refine Bd_aload_0 (pc := 235) dX8_read_235 ?_
                refine Bd_iload_5 (pc := 236) dX8_read_236 ?_
                refine Bd_putI (j := 37) (ty := .int) ck8 (pc := 238) dX8_read_238 k_823 rfl (Nat.le_of_ble_eq_true rfl) rfl rfl pfI rfl rfl ?_
                refine Bd_iload_6 (pc := 241) dX8_read_241 ?_
                refine Bd_iret (pc := 243) dX8_read_243 rfl ?_
                exact ⟨_, rfl, rfl, _, (show readR C 3 lane f n _ _ from by rw [readR, if_pos hP, show shB 3 = 40 from rfl, readB, if_pos hz, eF]; exact ⟨rfl, rfl⟩), IV_torn h.2, fun k hk => updM_ne (by omega)⟩
          · refine Bd_nx (bd_rd (b := 40) (kk := 3) h.1 h.2 (by decide) (by decide) (by decide) h.1.2.2.2.2.2.2.2.2 (fun C' N' q => q.2.2.2.2.2.1.2.2.2) hnn.1 hnn.2 hz (fun r N hr => ⟨r, rfl, rfl, ?_⟩)) (by repeat (first | exact True.intro | refine And.intro rfl ?_))
            obtain ⟨C', h1, h2⟩ := hr
            exact ⟨C', (show readR C 3 lane f n r C' from by rw [readR, if_pos hP]; exact h1), h2⟩
        · refine Bd_iconst (v := -1) (pc := 37) dX8_read_37 (by decide) ?_
          refine Bd_iret (pc := 38) dX8_read_38 rfl ?_
          exact ⟨_, rfl, rfl, C, (show readR C 3 lane f n _ _ from by rw [readR, if_neg (fun q => b2_0.mp b34 (k013.mpr q.2.2))]; exact ⟨rfl, rfl⟩), RP_rf h⟩
  · refine Bd_iload_1 (pc := 0) dX8_read_0 ?_
    refine Bd_i2l (pc := 1) dX8_read_1 ?_
    refine Bd_lconst (v := 0) (pc := 2) dX8_read_2 (by decide) ?_
    refine Bd_ldc2 k_969 (pc := 3) dX8_read_3 ?_
    refine Bd_callS3i (cd := mX8_in) (pc := 6) dX8_read_6 k_910 v_X8_in ⟨(Nat.le_of_ble_eq_true rfl), (Nat.le_of_ble_eq_true rfl)⟩ (sem_in (a := 0) (b := 3) (by decide) (by decide)) (Nat.le_of_ble_eq_true rfl) ?_
    refine Bd_if_eq (t := 37) (pc := 9) dX8_read_9 (by decide) (fun b9 => ?_) (fun b9 => (show False from b9 (b2_f (fun z => hk (k03.mp z))).symm).elim)
    refine Bd_iconst (v := -1) (pc := 37) dX8_read_37 (by decide) ?_
    refine Bd_iret (pc := 38) dX8_read_38 rfl ?_
    exact ⟨_, rfl, rfl, C, (show readR C k lane f n _ _ from by rw [readR, if_neg (fun q => hk q.1)]; exact ⟨rfl, rfl⟩), RP_rf h⟩
