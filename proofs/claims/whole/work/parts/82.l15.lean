/-! 82: land of the reference: what was read is taken -/
theorem rm4 : ∀ i, i < 24 → nI i - nI i / 4 * 4 = nI (i % 4) := by decide +kernel
theorem rm3 : ∀ i, i < 24 → nI i - nI i / 3 * 3 = nI (i % 3) := by decide +kernel
def tkA (N : Mem) (i : Nat) (X : Mem) : Prop := (∀ j, j < i → X 62 j = N 66 j) ∧ (∀ j, j < i → j < 4 → X 60 j = N 63 j) ∧ (∀ j, j < i → j < 3 → X 61 j = N 65 j) ∧ ∀ q, q ≠ 60 → q ≠ 61 → q ≠ 62 → X q = N q
def tkB (N : Mem) (t : Nat) (Y X : Mem) : Prop := (∀ j, j < t → X 59 j = N 64 (2 * j) ∧ X 59 (6 + j) = N 64 (2 * j + 1)) ∧ ∀ q, q ≠ 59 → X q = Y q
def t2P (N X : Mem) : Prop := ((∀ j, j < 24 → X 62 j = N 66 j) ∧ (∀ j, j < 4 → X 60 j = N 63 j) ∧ (∀ j, j < 3 → X 61 j = N 65 j)) ∧ (∀ t, t < 6 → X 59 t = N 64 (2 * t) ∧ X 59 (6 + t) = N 64 (2 * t + 1)) ∧ (X 59 12 = N 63 4 ∧ X 59 13 = N 63 5 ∧ X 59 113 = N 58 9 ∧ X 59 86 = 0 ∧ X 59 112 = 0) ∧ (X 58 3 = N 58 11 ∧ X 58 5 = N 58 13 ∧ X 58 6 = 1 ∧ X 75 0 = 0 ∧ X 75 1 = 0) ∧ (∀ q, q ≠ 58 → q ≠ 59 → q ≠ 60 → q ≠ 61 → q ≠ 62 → q ≠ 75 → X q = N q) ∧ ∀ j, j ≠ 3 → j ≠ 5 → j ≠ 6 → X 58 j = N 58 j
theorem tkA_s {N X : Mem} {i : Nat} (hi : i < 24) (h : tkA N i X) : tkA N (i + 1) (updM (updM (updM X 62 i (X 66 i)) 60 (i % 4) (X 63 (i % 4))) 61 (i % 3) (X 65 (i % 3))) := by
  obtain ⟨h1, h2, h3, h4⟩ := h
  have e66 : X 66 = N 66 := h4 66 (by decide) (by decide) (by decide)
  have e63 : X 63 = N 63 := h4 63 (by decide) (by decide) (by decide)
  have e65 : X 65 = N 65 := h4 65 (by decide) (by decide) (by decide)
  rw [e66, e63, e65]
  refine ⟨fun j hj => ?_, fun j hj h => ?_, fun j hj h => ?_, fun q a b c => ?_⟩
  · rw [updM_ne (by decide), updM_ne (by decide), updM_eq]
    by_cases z : j = i
    · rw [z, upd_eq]
    · rw [upd_ne z]; exact h1 j (by omega)
  · rw [updM_ne (by decide), updM_eq]
    by_cases z : j = i % 4
    · rw [z, upd_eq]
    · rw [upd_ne z, updM_ne (by decide)]; exact h2 j (by omega) h
  · rw [updM_eq]
    by_cases z : j = i % 3
    · rw [z, upd_eq]
    · rw [upd_ne z, updM_ne (by decide), updM_ne (by decide)]; exact h3 j (by omega) h
  · rw [updM_ne b, updM_ne a, updM_ne c]; exact h4 q a b c
theorem tkB_s {N Y X : Mem} {t : Nat} (ht : t < 6) (e64 : Y 64 = N 64) (h : tkB N t Y X) : tkB N (t + 1) Y (updM (updM X 59 t (X 64 (2 * t))) 59 (6 + t) (X 64 (2 * t + 1))) := by
  obtain ⟨h1, h2⟩ := h
  rw [h2 64 (by decide), e64]
  refine ⟨fun j hj => ?_, fun q a => by rw [updM_ne a, updM_ne a]; exact h2 q a⟩
  rw [updM_eq, updM_eq, upd_ne (show j ≠ 6 + t by omega)]
  constructor
  · by_cases z : j = t
    · rw [z, upd_eq]
    · rw [upd_ne z]; exact (h1 j (by omega)).1
  · by_cases z : j = t
    · rw [z, upd_eq]
    · rw [upd_ne (show 6 + j ≠ 6 + t by omega), upd_ne (show 6 + j ≠ t by omega)]; exact (h1 j (by omega)).2
def tkZ (X : Mem) : Mem := updM (updM (updM (updM (updM (updM (updM (updM (updM (updM X 59 12 (X 63 4)) 59 13 (X 63 5)) 59 113 (X 58 9)) 59 86 0) 59 112 0) 58 3 (X 58 11)) 58 5 (X 58 13)) 58 6 1) 75 0 0) 75 1 0
theorem tkZ_p {N Y X : Mem} (hA : tkA N 24 Y) (hB : tkB N 6 Y X) : t2P N (tkZ X) := by
  obtain ⟨a1, a2, a3, a4⟩ := hA
  obtain ⟨b1, b2⟩ := hB
  have k : ∀ q, q ≠ 59 → q ≠ 60 → q ≠ 61 → q ≠ 62 → X q = N q := fun q h1 h2 h3 h4 => (b2 q h1).trans (a4 q h2 h3 h4)
  have z : ∀ q, q ≠ 58 → q ≠ 59 → q ≠ 75 → tkZ X q = X q := fun q h1 h2 h3 => by
    unfold tkZ
    rw [updM_ne h3, updM_ne h3, updM_ne h1, updM_ne h1, updM_ne h1, updM_ne h2, updM_ne h2, updM_ne h2, updM_ne h2, updM_ne h2]
  have e63 : X 63 = N 63 := k 63 (by decide) (by decide) (by decide) (by decide)
  have e58 : X 58 = N 58 := k 58 (by decide) (by decide) (by decide) (by decide)
  have y : ∀ j, j ≠ 12 → j ≠ 13 → j ≠ 113 → j ≠ 86 → j ≠ 112 → tkZ X 59 j = X 59 j := fun j h1 h2 h3 h4 h5 => by
    unfold tkZ
    rw [updM_ne (by decide), updM_ne (by decide), updM_ne (by decide), updM_ne (by decide), updM_ne (by decide), updM_eq, upd_ne h5, updM_eq, upd_ne h4, updM_eq, upd_ne h3, updM_eq, upd_ne h2, updM_eq, upd_ne h1]
  refine ⟨⟨fun j hj => ?_, fun j hj => ?_, fun j hj => ?_⟩, fun t ht => ?_, ?_, ?_, fun q h1 h2 h3 h4 h5 h6 => ?_, fun j h1 h2 h3 => ?_⟩
  · rw [z 62 (by decide) (by decide) (by decide), b2 62 (by decide)]; exact a1 j hj
  · rw [z 60 (by decide) (by decide) (by decide), b2 60 (by decide)]; exact a2 j (by omega) hj
  · rw [z 61 (by decide) (by decide) (by decide), b2 61 (by decide)]; exact a3 j (by omega) hj
  · rw [y t (by omega) (by omega) (by omega) (by omega) (by omega), y (6 + t) (by omega) (by omega) (by omega) (by omega) (by omega)]; exact b1 t ht
  · rw [← e63, ← e58]; exact ⟨rfl, rfl, rfl, rfl, rfl⟩
  · rw [← e58]; exact ⟨rfl, rfl, rfl, rfl, rfl⟩
  · rw [z q h1 h2 h6]; exact k q h2 h3 h4 h5
  · rw [← e58]
    unfold tkZ
    rw [updM_ne (by decide), updM_ne (by decide), updM_eq, upd_ne h3, updM_eq, upd_ne h2, updM_eq, upd_ne h1, updM_ne (by decide), updM_ne (by decide), updM_ne (by decide), updM_ne (by decide), updM_ne (by decide)]
set_option maxRecDepth 100000 in
set_option maxHeartbeats 4000000 in
theorem sem_X8_takes2 {N : Mem} : Sem mX8_takes2 SH [.ref 58] N (RV SH (fun X => t2P N X)) := by
  refine Sem_of rfl (fun G => (Nat.le_of_ble_eq_true rfl)) (fun G => ?_)
  refine Bd_iconst (v := 0) (pc := 0) dX8_takes2_0 (by decide) ?_
  refine Bd_istore_1 (pc := 1) dX8_takes2_1 (Nat.le_of_ble_eq_true rfl) rfl ?_
  refine Bd_nx (L' := [some (.ref 58), some (.int (nI 0))]) ?_ ⟨rfl, rfl, trivial⟩
  refine Bd_wh (pc := 2) (σ := Nat × Mem) (fun x => x.1 ≤ 24 ∧ tkA N x.1 x.2) (fun x => 24 - x.1) (fun x => [some (.ref 58), some (.int (nI x.1))]) (fun x => x.2) (fun x hx ih => ?_) (0, N) ⟨Nat.zero_le _, fun j hj => absurd hj (Nat.not_lt_zero j), fun j hj => absurd hj (Nat.not_lt_zero j), fun j hj => absurd hj (Nat.not_lt_zero j), fun _ _ _ _ => rfl⟩
  obtain ⟨h0, hA⟩ := hx
  rcases Nat.lt_or_eq_of_le h0 with hk | hk
  · refine Bd_iload_1 (pc := 2) dX8_takes2_2 ?_
    refine Bd_bipush (v := 24) (pc := 3) dX8_takes2_3 (by decide) ?_
    refine Bd_icmp_ge (t := 58) (pc := 5) dX8_takes2_5 (by decide) (fun b5 => (show False from nI_ge hk (by decide) b5).elim) (fun b5 => ?_)
    refine Bd_aload_0 (pc := 8) dX8_takes2_8 ?_
    refine Bd_getR (j := 4) ck8 (pc := 9) dX8_takes2_9 k_790 rfl (Nat.le_of_ble_eq_true rfl) rfl ?_
    refine Bd_iload_1 (pc := 12) dX8_takes2_12 ?_
    refine Bd_aload_0 (pc := 13) dX8_takes2_13 ?_
    refine Bd_getR (j := 12) ck8 (pc := 14) dX8_takes2_14 k_798 rfl (Nat.le_of_ble_eq_true rfl) rfl ?_
    refine Bd_iload_1 (pc := 17) dX8_takes2_17 ?_
    refine Bd_ialdc (j := x.1) (nI_clamp (by omega)) (pc := 18) dX8_takes2_18 rfl (vpi (by omega) (by omega)) ?_
    refine Bd_iastc (j := x.1) (nI_clamp (by omega)) (pc := 19) dX8_takes2_19 rfl (vpi (by omega) (by omega)) ?_
    refine Bd_aload_0 (pc := 20) dX8_takes2_20 ?_
    refine Bd_getR (j := 1) ck8 (pc := 21) dX8_takes2_21 k_787 rfl (Nat.le_of_ble_eq_true rfl) rfl ?_
    refine Bd_iload_1 (pc := 24) dX8_takes2_24 ?_
    refine Bd_iconst (v := 4) (pc := 25) dX8_takes2_25 (by decide) ?_
    refine Bd_irem (pc := 26) dX8_takes2_26 (by decide) ?_
    refine Bd_aload_0 (pc := 27) dX8_takes2_27 ?_
    refine Bd_getR (j := 7) ck8 (pc := 28) dX8_takes2_28 k_793 rfl (Nat.le_of_ble_eq_true rfl) rfl ?_
    refine Bd_iload_1 (pc := 31) dX8_takes2_31 ?_
    refine Bd_iconst (v := 4) (pc := 32) dX8_takes2_32 (by decide) ?_
    refine Bd_irem (pc := 33) dX8_takes2_33 (by decide) ?_
    refine Bd_ialdc (j := x.1 % 4) (by rw [rm4 x.1 hk]; exact nI_clamp (by omega)) (pc := 34) dX8_takes2_34 rfl (by rw [rm4 x.1 hk]; exact vpi (by omega) (by omega)) ?_
    refine Bd_iastc (j := x.1 % 4) (by rw [rm4 x.1 hk]; exact nI_clamp (by omega)) (pc := 35) dX8_takes2_35 rfl (by rw [rm4 x.1 hk]; exact vpi (by omega) (by omega)) ?_
    refine Bd_aload_0 (pc := 36) dX8_takes2_36 ?_
    refine Bd_getR (j := 2) ck8 (pc := 37) dX8_takes2_37 k_788 rfl (Nat.le_of_ble_eq_true rfl) rfl ?_
    refine Bd_iload_1 (pc := 40) dX8_takes2_40 ?_
    refine Bd_iconst (v := 3) (pc := 41) dX8_takes2_41 (by decide) ?_
    refine Bd_irem (pc := 42) dX8_takes2_42 (by decide) ?_
    refine Bd_aload_0 (pc := 43) dX8_takes2_43 ?_
    refine Bd_getR (j := 10) ck8 (pc := 44) dX8_takes2_44 k_796 rfl (Nat.le_of_ble_eq_true rfl) rfl ?_
    refine Bd_iload_1 (pc := 47) dX8_takes2_47 ?_
    refine Bd_iconst (v := 3) (pc := 48) dX8_takes2_48 (by decide) ?_
    refine Bd_irem (pc := 49) dX8_takes2_49 (by decide) ?_
    refine Bd_ialdc (j := x.1 % 3) (by rw [rm3 x.1 hk]; exact nI_clamp (by omega)) (pc := 50) dX8_takes2_50 rfl (by rw [rm3 x.1 hk]; exact vpi (by omega) (by omega)) ?_
    refine Bd_iastc (j := x.1 % 3) (by rw [rm3 x.1 hk]; exact nI_clamp (by omega)) (pc := 51) dX8_takes2_51 rfl (by rw [rm3 x.1 hk]; exact vpi (by omega) (by omega)) ?_
    refine Bd_iinc_1 (pc := 52) dX8_takes2_52 (show _ + Int32.ofInt 1 = _ + 1 from rfl) (Nat.le_of_ble_eq_true rfl) rfl ?_
    refine Bd_goto (t := 2) (pc := 55) dX8_takes2_55 (by decide) ?_
    exact Bd_nx (ih (x.1 + 1, _) ⟨hk, tkA_s hk hA⟩ (by show 24 - (x.1 + 1) < 24 - x.1; omega)) ⟨rfl, congrArg (fun z => some (Value.int z)) (nI_succ x.1).symm, trivial⟩
  · refine Bd_iload_1 (pc := 2) dX8_takes2_2 ?_
    refine Bd_bipush (v := 24) (pc := 3) dX8_takes2_3 (by decide) ?_
    refine Bd_icmp_ge (t := 58) (pc := 5) dX8_takes2_5 (by decide) (fun b5 => ?_) (fun b5 => (show False from b5 (by rw [hk]; decide)).elim)
    refine Bd_iconst (v := 0) (pc := 58) dX8_takes2_58 (by decide) ?_
    refine Bd_istore_1 (pc := 59) dX8_takes2_59 (Nat.le_of_ble_eq_true rfl) rfl ?_
    have e64 : x.2 64 = N 64 := hA.2.2.2 64 (by decide) (by decide) (by decide)
    refine Bd_nx (L' := [some (.ref 58), some (.int (nI 0))]) ?_ ⟨rfl, rfl, trivial⟩
    refine Bd_wh (pc := 60) (σ := Nat × Mem) (fun y => y.1 ≤ 6 ∧ tkB N y.1 x.2 y.2) (fun y => 6 - y.1) (fun y => [some (.ref 58), some (.int (nI y.1))]) (fun y => y.2) (fun y hy ih2 => ?_) (0, x.2) ⟨Nat.zero_le _, fun j hj => absurd hj (Nat.not_lt_zero j), fun _ _ => rfl⟩
    obtain ⟨h1, hB⟩ := hy
    rcases Nat.lt_or_eq_of_le h1 with hk2 | hk2
    · have z0 : (0 : Int32) + nI y.1 = nI y.1 := Int32.zero_add _
      have z6 : (6 : Int32) + nI y.1 = nI (6 + y.1) := nI_ad 6 y.1
      refine Bd_iload_1 (pc := 60) dX8_takes2_60 ?_
      refine Bd_bipush (v := 6) (pc := 61) dX8_takes2_61 (by decide) ?_
      refine Bd_icmp_ge (t := 107) (pc := 63) dX8_takes2_63 (by decide) (fun b63 => (show False from nI_ge hk2 (by decide) b63).elim) (fun b63 => ?_)
      refine Bd_aload_0 (pc := 66) dX8_takes2_66 ?_
      refine Bd_getR (j := 0) ck8 (pc := 67) dX8_takes2_67 k_786 rfl (Nat.le_of_ble_eq_true rfl) rfl ?_
      refine Bd_iconst (v := 0) (pc := 70) dX8_takes2_70 (by decide) ?_
      refine Bd_iload_1 (pc := 71) dX8_takes2_71 ?_
      refine Bd_iadd (pc := 72) dX8_takes2_72 ?_
      refine Bd_aload_0 (pc := 73) dX8_takes2_73 ?_
      refine Bd_getR (j := 8) ck8 (pc := 74) dX8_takes2_74 k_794 rfl (Nat.le_of_ble_eq_true rfl) rfl ?_
      refine Bd_iconst (v := 2) (pc := 77) dX8_takes2_77 (by decide) ?_
      refine Bd_iload_1 (pc := 78) dX8_takes2_78 ?_
      refine Bd_imul (pc := 79) dX8_takes2_79 ?_
      refine Bd_ialdc (j := 2 * y.1) (by rw [n2]; exact nI_clamp (by omega)) (pc := 80) dX8_takes2_80 rfl (by rw [n2]; exact vpi (by omega) (by omega)) ?_
      refine Bd_iastc (j := y.1) (by rw [z0]; exact nI_clamp (by omega)) (pc := 81) dX8_takes2_81 rfl (by rw [z0]; exact vpi (by omega) (by omega)) ?_
      refine Bd_aload_0 (pc := 82) dX8_takes2_82 ?_
      refine Bd_getR (j := 0) ck8 (pc := 83) dX8_takes2_83 k_786 rfl (Nat.le_of_ble_eq_true rfl) rfl ?_
      refine Bd_bipush (v := 6) (pc := 86) dX8_takes2_86 (by decide) ?_
      refine Bd_iload_1 (pc := 88) dX8_takes2_88 ?_
      refine Bd_iadd (pc := 89) dX8_takes2_89 ?_
      refine Bd_aload_0 (pc := 90) dX8_takes2_90 ?_
      refine Bd_getR (j := 8) ck8 (pc := 91) dX8_takes2_91 k_794 rfl (Nat.le_of_ble_eq_true rfl) rfl ?_
      refine Bd_iconst (v := 2) (pc := 94) dX8_takes2_94 (by decide) ?_
      refine Bd_iload_1 (pc := 95) dX8_takes2_95 ?_
      refine Bd_imul (pc := 96) dX8_takes2_96 ?_
      refine Bd_iconst (v := 1) (pc := 97) dX8_takes2_97 (by decide) ?_
      refine Bd_iadd (pc := 98) dX8_takes2_98 ?_
      refine Bd_ialdc (j := 2 * y.1 + 1) (by rw [n2, ← nI_succ]; exact nI_clamp (by omega)) (pc := 99) dX8_takes2_99 rfl (by rw [n2, ← nI_succ]; exact vpi (by omega) (by omega)) ?_
      refine Bd_iastc (j := 6 + y.1) (by rw [z6]; exact nI_clamp (by omega)) (pc := 100) dX8_takes2_100 rfl (by rw [z6]; exact vpi (by omega) (by omega)) ?_
      refine Bd_iinc_1 (pc := 101) dX8_takes2_101 (show _ + Int32.ofInt 1 = _ + 1 from rfl) (Nat.le_of_ble_eq_true rfl) rfl ?_
      refine Bd_goto (t := 60) (pc := 104) dX8_takes2_104 (by decide) ?_
      exact Bd_nx (ih2 (y.1 + 1, _) ⟨hk2, tkB_s hk2 e64 hB⟩ (by show 6 - (y.1 + 1) < 6 - y.1; omega)) ⟨rfl, congrArg (fun z => some (Value.int z)) (nI_succ y.1).symm, trivial⟩
    · refine Bd_iload_1 (pc := 60) dX8_takes2_60 ?_
      refine Bd_bipush (v := 6) (pc := 61) dX8_takes2_61 (by decide) ?_
      refine Bd_icmp_ge (t := 107) (pc := 63) dX8_takes2_63 (by decide) (fun b63 => ?_) (fun b63 => (show False from b63 (by rw [hk2]; decide)).elim)
      refine Bd_aload_0 (pc := 107) dX8_takes2_107 ?_
      refine Bd_getR (j := 0) ck8 (pc := 108) dX8_takes2_108 k_786 rfl (Nat.le_of_ble_eq_true rfl) rfl ?_
      refine Bd_bipush (v := 12) (pc := 111) dX8_takes2_111 (by decide) ?_
      refine Bd_aload_0 (pc := 113) dX8_takes2_113 ?_
      refine Bd_getR (j := 7) ck8 (pc := 114) dX8_takes2_114 k_793 rfl (Nat.le_of_ble_eq_true rfl) rfl ?_
      refine Bd_iconst (v := 4) (pc := 117) dX8_takes2_117 (by decide) ?_
      refine Bd_ialdc (j := 4) rfl (pc := 118) dX8_takes2_118 rfl (by unfold vp_in; decide) ?_
      refine Bd_iastc (j := 12) rfl (pc := 119) dX8_takes2_119 rfl (by unfold vp_in; decide) ?_
      refine Bd_aload_0 (pc := 120) dX8_takes2_120 ?_
      refine Bd_getR (j := 0) ck8 (pc := 121) dX8_takes2_121 k_786 rfl (Nat.le_of_ble_eq_true rfl) rfl ?_
      refine Bd_bipush (v := 13) (pc := 124) dX8_takes2_124 (by decide) ?_
      refine Bd_aload_0 (pc := 126) dX8_takes2_126 ?_
      refine Bd_getR (j := 7) ck8 (pc := 127) dX8_takes2_127 k_793 rfl (Nat.le_of_ble_eq_true rfl) rfl ?_
      refine Bd_iconst (v := 5) (pc := 130) dX8_takes2_130 (by decide) ?_
      refine Bd_ialdc (j := 5) rfl (pc := 131) dX8_takes2_131 rfl (by unfold vp_in; decide) ?_
      refine Bd_iastc (j := 13) rfl (pc := 132) dX8_takes2_132 rfl (by unfold vp_in; decide) ?_
      refine Bd_aload_0 (pc := 133) dX8_takes2_133 ?_
      refine Bd_getR (j := 0) ck8 (pc := 134) dX8_takes2_134 k_786 rfl (Nat.le_of_ble_eq_true rfl) rfl ?_
      refine Bd_bipush (v := 113) (pc := 137) dX8_takes2_137 (by decide) ?_
      refine Bd_aload_0 (pc := 139) dX8_takes2_139 ?_
      refine Bd_getI (j := 9) ck8 (pc := 140) dX8_takes2_140 k_795 rfl (Nat.le_of_ble_eq_true rfl) rfl ?_
      refine Bd_iastc (j := 113) rfl (pc := 143) dX8_takes2_143 rfl (by unfold vp_in; decide) ?_
      refine Bd_aload_0 (pc := 144) dX8_takes2_144 ?_
      refine Bd_getR (j := 0) ck8 (pc := 145) dX8_takes2_145 k_786 rfl (Nat.le_of_ble_eq_true rfl) rfl ?_
      refine Bd_bipush (v := 86) (pc := 148) dX8_takes2_148 (by decide) ?_
      refine Bd_iconst (v := 0) (pc := 150) dX8_takes2_150 (by decide) ?_
      refine Bd_iastc (j := 86) rfl (pc := 151) dX8_takes2_151 rfl (by unfold vp_in; decide) ?_
      refine Bd_aload_0 (pc := 152) dX8_takes2_152 ?_
      refine Bd_getR (j := 0) ck8 (pc := 153) dX8_takes2_153 k_786 rfl (Nat.le_of_ble_eq_true rfl) rfl ?_
      refine Bd_bipush (v := 112) (pc := 156) dX8_takes2_156 (by decide) ?_
      refine Bd_iconst (v := 0) (pc := 158) dX8_takes2_158 (by decide) ?_
      refine Bd_iastc (j := 112) rfl (pc := 159) dX8_takes2_159 rfl (by unfold vp_in; decide) ?_
      refine Bd_aload_0 (pc := 160) dX8_takes2_160 ?_
      refine Bd_aload_0 (pc := 161) dX8_takes2_161 ?_
      refine Bd_getI (j := 11) ck8 (pc := 162) dX8_takes2_162 k_797 rfl (Nat.le_of_ble_eq_true rfl) rfl ?_
      refine Bd_putI (j := 3) (ty := .int) ck8 (pc := 165) dX8_takes2_165 k_789 rfl (Nat.le_of_ble_eq_true rfl) rfl rfl pfI rfl rfl ?_
      refine Bd_aload_0 (pc := 168) dX8_takes2_168 ?_
      refine Bd_aload_0 (pc := 169) dX8_takes2_169 ?_
      refine Bd_getI (j := 13) ck8 (pc := 170) dX8_takes2_170 k_799 rfl (Nat.le_of_ble_eq_true rfl) rfl ?_
      refine Bd_putI (j := 5) (ty := .int) ck8 (pc := 173) dX8_takes2_173 k_791 rfl (Nat.le_of_ble_eq_true rfl) rfl rfl pfI rfl rfl ?_
      refine Bd_aload_0 (pc := 176) dX8_takes2_176 ?_
      refine Bd_iconst (v := 1) (pc := 177) dX8_takes2_177 (by decide) ?_
      refine Bd_putI (j := 6) (ty := .boolean) ck8 (pc := 178) dX8_takes2_178 k_792 rfl (Nat.le_of_ble_eq_true rfl) rfl rfl pfZ rfl (by rfl) ?_
      refine Bd_aload_0 (pc := 181) dX8_takes2_181 ?_
      refine Bd_getR (j := 33) ck8 (pc := 182) dX8_takes2_182 k_819 rfl (Nat.le_of_ble_eq_true rfl) rfl ?_
      refine Bd_iconst (v := 0) (pc := 185) dX8_takes2_185 (by decide) ?_
      refine Bd_iconst (v := 0) (pc := 186) dX8_takes2_186 (by decide) ?_
      refine Bd_zastc (j := 0) rfl (pc := 187) dX8_takes2_187 rfl (by unfold vp_in; decide) ?_
      refine Bd_aload_0 (pc := 188) dX8_takes2_188 ?_
      refine Bd_getR (j := 33) ck8 (pc := 189) dX8_takes2_189 k_819 rfl (Nat.le_of_ble_eq_true rfl) rfl ?_
      refine Bd_iconst (v := 1) (pc := 192) dX8_takes2_192 (by decide) ?_
      refine Bd_iconst (v := 0) (pc := 193) dX8_takes2_193 (by decide) ?_
      refine Bd_zastc (j := 1) rfl (pc := 194) dX8_takes2_194 rfl (by unfold vp_in; decide) ?_
      refine Bd_vret (pc := 195) dX8_takes2_195 rfl ?_
      exact ⟨rfl, rfl, tkZ_p (X := y.2) (by rw [← hk]; exact hA) (by rw [← hk2]; exact hB)⟩
