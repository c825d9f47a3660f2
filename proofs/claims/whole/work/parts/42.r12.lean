/-! 42: the reference: fewest, pipes -/
def bsF (x : Int32) : Nat → Int32
  | 0 => 0
  | n + 1 => bsF x n + (x >>> (nI n &&& 31) &&& 1)
theorem bs_bc : ∀ n, n < 256 → bsF (nI n) 8 = bcV (nI n) := by decide +kernel
theorem bc_z : ∀ n, n < 256 → (bcV (nI n) = 0 → nI n = 0) ∧ bcV (nI n) < 1000000 := by decide +kernel
abbrev by8 (x : Int32) : Prop := ∃ n, n < 256 ∧ x = nI n
theorem gb_255 : ∀ i, i < 32 → gb 255 i = decide (i < 8) := by decide +kernel
theorem by8_gb {x : Int32} (h : ∀ i, i < 32 → 8 ≤ i → gb x i = false) : by8 x := by
  have e : x = x &&& 255 := gb_ext (fun i hi => by
    rw [gb_and, gb_255 i hi]
    by_cases q : i < 8
    · simp [q]
    · rw [h i hi (by omega)]; simp)
  have e2 : x.toBitVec.toNat = x.toBitVec.toNat &&& 255 := by
    have z := congrArg (fun y => y.toBitVec.toNat) e
    simp only [Int32.toBitVec_and, BitVec.toNat_and] at z
    exact z
  have l : x.toBitVec.toNat ≤ 255 := by rw [e2]; exact Nat.and_le_right
  refine ⟨x.toBitVec.toNat, by omega, Int32.toBitVec_inj.mp ?_⟩
  show x.toBitVec = BitVec.ofNat 32 x.toBitVec.toNat
  rw [BitVec.ofNat_toNat, BitVec.setWidth_eq]
theorem gb_pt8 {C : Mem} (h : WF C) {y : Int32} : by8 (ptF C (cn (C 44 8)) &&& y) := by
  refine by8_gb (fun i hi h8 => ?_)
  rw [gb_and]
  cases q : gb (ptF C (cn (C 44 8))) i with
  | false => rfl
  | true =>
    obtain ⟨j, j1, j2⟩ := (gb_ptF i hi _ (fun j hj => (h.1.2.2.2.2 j hj).2)).mp q
    have := (h.1.2.2.2.2 j j1).2.2
    rw [j2, nI_toInt (by omega)] at this
    omega
theorem and_1 {x : Int32} (h : ¬ x &&& 1 = 0) : x &&& 1 = 1 := by
  have e : ∀ i, i < 32 → gb (x &&& 1) i = (gb x i && decide (i = 0)) := fun i hi => by rw [gb_and, gb_1 i hi]
  cases q : gb x 0 with
  | false => exact absurd (gb_z.mpr (fun i hi => by rw [e i hi]; by_cases z : i = 0; rw [z, q]; rfl; simp [z])) h
  | true => exact gb_ext (fun i hi => by rw [e i hi, gb_1 i hi]; by_cases z : i = 0; rw [z, q]; rfl; simp [z])
def lwF (C : Mem) (s : Int32) : Nat → Int32
  | 0 => ptF C (cn (C 44 8))
  | t + 1 => lwF C s t &&& (if (s >>> (nI t &&& 31) &&& 1) = 1 then C 47 t ^^^ -1 else -1)
theorem lw_e {C : Mem} {s : Int32} : ∀ t, lwF C s t = ptF C (cn (C 44 8)) &&& (psF C s t ^^^ -1)
  | 0 => gb_ext (fun i hi => by rw [gb_and, gb_xor, gb_m1 i hi, show psF C s 0 = 0 from rfl, gb_0]; simp [lwF])
  | t + 1 => by
    have ih := lw_e (C := C) (s := s) t
    unfold lwF psF
    by_cases q : (s >>> (nI t &&& 31) &&& 1) = 0
    · rw [if_pos q, if_neg (by rw [q]; decide), ih]
      exact gb_ext (fun i hi => by rw [gb_and, gb_m1 i hi, Bool.and_true])
    · rw [if_neg q, if_pos (and_1 q), ih]
      exact gb_ext (fun i hi => by
        simp only [gb_and, gb_xor, gb_or, gb_m1 i hi]
        cases gb (ptF C (cn (C 44 8))) i <;> cases gb (psF C s t) i <;> cases gb (C 47 t) i <;> rfl)
abbrev lkN (C : Mem) (s : Int32) : Int32 := ptF C (cn (C 44 8)) &&& (psF C s (cn (C 44 6)) ^^^ -1)
set_option maxRecDepth 100000 in
set_option maxHeartbeats 4000000 in
theorem sem_X8_bits0 {sh : List Ds} {M : Mem} {x : Int32} : Sem mX8_bitsOf sh [.int x] M (PD sh (some (.int (bsF x 8))) M) := by
  refine Sem_of rfl (fun G => (Nat.le_of_ble_eq_true rfl)) (fun G => ?_)
  refine Bd_iconst (v := 0) (pc := 0) dX8_bitsOf_0 (by decide) ?_
  refine Bd_istore_1 (pc := 1) dX8_bitsOf_1 (Nat.le_of_ble_eq_true rfl) rfl ?_
  refine Bd_iconst (v := 0) (pc := 2) dX8_bitsOf_2 (by decide) ?_
  refine Bd_istore_2 (pc := 3) dX8_bitsOf_3 (Nat.le_of_ble_eq_true rfl) rfl ?_
  refine Bd_nx (L' := (fun i => [some (.int x), some (.int (bsF x i)), some (.int (nI i))]) 0) ?_ (by repeat (first | exact True.intro | refine And.intro rfl ?_))
  refine Bd_for (pc := 4) (c := 8) (fun i => [some (.int x), some (.int (bsF x i)), some (.int (nI i))]) (fun _ => M) (fun _ => True) (fun ivi => ?_) (fun i hi ivi ihi => ?_) trivial
  · refine Bd_iload_2 (pc := 4) dX8_bitsOf_4 ?_
    refine Bd_bipush (v := 8) (pc := 5) dX8_bitsOf_5 (by decide) ?_
    refine Bd_icmp_ge (t := 24) (pc := 7) dX8_bitsOf_7 (by decide) (fun b7 => ?_) (fun b7 => (show False from lf_x (rfl : (8 : Int32) = nI 8) b7).elim)
    refine Bd_iload_1 (pc := 24) dX8_bitsOf_24 ?_
    refine Bd_iret (pc := 25) dX8_bitsOf_25 rfl ?_
    exact PD_i rfl rfl
  · refine Bd_iload_2 (pc := 4) dX8_bitsOf_4 ?_
    refine Bd_bipush (v := 8) (pc := 5) dX8_bitsOf_5 (by decide) ?_
    refine Bd_icmp_ge (t := 24) (pc := 7) dX8_bitsOf_7 (by decide) (fun b7 => (show False from lf_s (rfl : (8 : Int32) = nI 8) (by decide) hi b7).elim) (fun b7 => ?_)
    refine Bd_iload_1 (pc := 10) dX8_bitsOf_10 ?_
    refine Bd_iload_0 (pc := 11) dX8_bitsOf_11 ?_
    refine Bd_iload_2 (pc := 12) dX8_bitsOf_12 ?_
    refine Bd_ishr (pc := 13) dX8_bitsOf_13 ?_
    refine Bd_iconst (v := 1) (pc := 14) dX8_bitsOf_14 (by decide) ?_
    refine Bd_iand (pc := 15) dX8_bitsOf_15 ?_
    refine Bd_iadd (pc := 16) dX8_bitsOf_16 ?_
    refine Bd_istore_1 (pc := 17) dX8_bitsOf_17 (Nat.le_of_ble_eq_true rfl) rfl ?_
    refine Bd_iinc_2 (pc := 18) dX8_bitsOf_18 (show _ + Int32.ofInt 1 = _ + 1 from rfl) (Nat.le_of_ble_eq_true rfl) rfl ?_
    refine Bd_goto (t := 4) (pc := 21) dX8_bitsOf_21 (by decide) ?_
    exact Bd_nx (ihi trivial) ⟨rfl, rfl, congrArg (fun x => some (Value.int x)) (nI_succ i).symm, trivial⟩
theorem sem_X8_bitsOf {sh : List Ds} {M : Mem} {x : Int32} (hx : by8 x) : Sem mX8_bitsOf sh [.int x] M (PD sh (some (.int (bcV x))) M) := by
  obtain ⟨n, hn, e⟩ := hx
  have := sem_X8_bits0 (sh := sh) (M := M) (x := x)
  rw [show bsF x 8 = bcV x from by rw [e]; exact bs_bc n hn] at this
  exact this
set_option maxRecDepth 100000 in
set_option maxHeartbeats 4000000 in
theorem sem_X8_wanted {C M : Mem} (h : RF C M)  : Sem mX8_wanted SH [.ref 58] M (PD SH (some (.int (ptF C (cn (C 44 8))))) (M)) := by
  have q2 := h.1.nn12
  refine Sem_of rfl (fun G => (Nat.le_of_ble_eq_true rfl)) (fun G => ?_)
  refine Bd_iconst (v := 0) (pc := 0) dX8_wanted_0 (by decide) ?_
  refine Bd_istore_1 (pc := 1) dX8_wanted_1 (Nat.le_of_ble_eq_true rfl) rfl ?_
  refine Bd_iconst (v := 0) (pc := 2) dX8_wanted_2 (by decide) ?_
  refine Bd_istore_2 (pc := 3) dX8_wanted_3 (Nat.le_of_ble_eq_true rfl) rfl ?_
  refine Bd_nx (L' := (fun i => [some (.ref 58), some (.int (ptF C i)), some (.int (nI i))]) 0) ?_ (by repeat (first | exact True.intro | refine And.intro rfl ?_))
  refine Bd_for (pc := 4) (c := (cn (C 44 8))) (fun i => [some (.ref 58), some (.int (ptF C i)), some (.int (nI i))]) (fun _ => M) (fun _ => True) (fun ivi => ?_) (fun i hi ivi ihi => ?_) trivial
  · refine Bd_iload_2 (pc := 4) dX8_wanted_4 ?_
    refine Bd_aload_0 (pc := 5) dX8_wanted_5 ?_
    refine Bd_getI (j := 5) ck8 (pc := 6) dX8_wanted_6 k_791 rfl (Nat.le_of_ble_eq_true rfl) rfl ?_
    refine Bd_icmp_ge (t := 33) (pc := 9) dX8_wanted_9 (by decide) (fun b9 => ?_) (fun b9 => (show False from lf_x (h.2.1.2.2.2.2.2.2.1.trans h.1.nn) b9).elim)
    refine Bd_iload_1 (pc := 33) dX8_wanted_33 ?_
    refine Bd_iret (pc := 34) dX8_wanted_34 rfl ?_
    exact PD_i rfl rfl
  · refine Bd_iload_2 (pc := 4) dX8_wanted_4 ?_
    refine Bd_aload_0 (pc := 5) dX8_wanted_5 ?_
    refine Bd_getI (j := 5) ck8 (pc := 6) dX8_wanted_6 k_791 rfl (Nat.le_of_ble_eq_true rfl) rfl ?_
    refine Bd_icmp_ge (t := 33) (pc := 9) dX8_wanted_9 (by decide) (fun b9 => (show False from lf_s (h.2.1.2.2.2.2.2.2.1.trans h.1.nn) (by omega) hi b9).elim) (fun b9 => ?_)
    refine Bd_iload_1 (pc := 12) dX8_wanted_12 ?_
    refine Bd_iconst (v := 1) (pc := 13) dX8_wanted_13 (by decide) ?_
    refine Bd_aload_0 (pc := 14) dX8_wanted_14 ?_
    refine Bd_getR (j := 4) ck8 (pc := 15) dX8_wanted_15 k_790 rfl (Nat.le_of_ble_eq_true rfl) rfl ?_
    refine Bd_iconst (v := 2) (pc := 18) dX8_wanted_18 (by decide) ?_
    refine Bd_iload_2 (pc := 19) dX8_wanted_19 ?_
    refine Bd_imul (pc := 20) dX8_wanted_20 ?_
    refine Bd_iconst (v := 1) (pc := 21) dX8_wanted_21 (by decide) ?_
    refine Bd_iadd (pc := 22) dX8_wanted_22 ?_
    refine Bd_ialdc (j := 2 * i + 1) (by rw [tn3 i (by omega)]; exact nI_clamp (by omega)) (pc := 23) dX8_wanted_23 rfl (by rw [tn3 i (by omega)]; exact vpi (by omega) (by omega)) ?_
    rw [(h.2.1.2.2.2.2.2.2.2 i hi).2]
    refine Bd_ishl (pc := 24) dX8_wanted_24 ?_
    refine Bd_ior (pc := 25) dX8_wanted_25 ?_
    refine Bd_istore_1 (pc := 26) dX8_wanted_26 (Nat.le_of_ble_eq_true rfl) rfl ?_
    refine Bd_iinc_2 (pc := 27) dX8_wanted_27 (show _ + Int32.ofInt 1 = _ + 1 from rfl) (Nat.le_of_ble_eq_true rfl) rfl ?_
    refine Bd_goto (t := 4) (pc := 30) dX8_wanted_30 (by decide) ?_
    exact Bd_nx (ihi trivial) ⟨rfl, rfl, congrArg (fun x => some (Value.int x)) (nI_succ i).symm, trivial⟩
set_option maxRecDepth 100000 in
set_option maxHeartbeats 4000000 in
theorem sem_X8_lack {C M : Mem} (h : RF C M) {s : Int32} : Sem mX8_lack SH [.ref 58, .int s] M (PD SH (some (.int (bcV (lkN C s)))) (M)) := by
  have q3 := h.1.nt6
  refine Sem_of rfl (fun G => (Nat.le_of_ble_eq_true rfl)) (fun G => ?_)
  refine Bd_aload_0 (pc := 0) dX8_lack_0 ?_
  refine Bd_callV0i (cd := mX8_wanted) (pc := 1) dX8_lack_1 k_1143 v_X8_wanted ⟨(Nat.le_of_ble_eq_true rfl), (Nat.le_of_ble_eq_true rfl)⟩ rfl rfl (sem_X8_wanted h) (Nat.le_of_ble_eq_true rfl) ?_
  refine Bd_istore_2 (pc := 4) dX8_lack_4 (Nat.le_of_ble_eq_true rfl) rfl ?_
  refine Bd_iconst (v := 0) (pc := 5) dX8_lack_5 (by decide) ?_
  refine Bd_istore_3 (pc := 6) dX8_lack_6 (Nat.le_of_ble_eq_true rfl) rfl ?_
  refine Bd_nx (L' := (fun i => [some (.ref 58), some (.int s), some (.int (lwF C s i)), some (.int (nI i))]) 0) ?_ (by repeat (first | exact True.intro | refine And.intro rfl ?_))
  refine Bd_for (pc := 7) (c := (cn (C 44 6))) (fun i => [some (.ref 58), some (.int s), some (.int (lwF C s i)), some (.int (nI i))]) (fun _ => M) (fun _ => True) (fun ivi => ?_) (fun i hi ivi ihi => ?_) trivial
  · refine Bd_iload_3 (pc := 7) dX8_lack_7 ?_
    refine Bd_aload_0 (pc := 8) dX8_lack_8 ?_
    refine Bd_getR (j := 0) ck8 (pc := 9) dX8_lack_9 k_786 rfl (Nat.le_of_ble_eq_true rfl) rfl ?_
    refine Bd_bipush (v := 113) (pc := 12) dX8_lack_12 (by decide) ?_
    refine Bd_ialdc (j := 113) rfl (pc := 14) dX8_lack_14 rfl (by unfold vp_in; decide) ?_
    refine Bd_icmp_ge (t := 51) (pc := 15) dX8_lack_15 (by decide) (fun b15 => ?_) (fun b15 => (show False from lf_x (h.2.1.2.2.1.trans h.1.nt) b15).elim)
    refine Bd_iload_2 (pc := 51) dX8_lack_51 ?_
    refine Bd_callS1i (cd := mX8_bitsOf) (pc := 52) dX8_lack_52 k_1147 v_X8_bitsOf ⟨(Nat.le_of_ble_eq_true rfl), (Nat.le_of_ble_eq_true rfl)⟩ (sem_X8_bitsOf (by rw [lw_e]; exact gb_pt8 h.1)) (Nat.le_of_ble_eq_true rfl) ?_
    refine Bd_iret (pc := 55) dX8_lack_55 rfl ?_
    exact PD_i (by rw [lw_e]) rfl
  · refine Bd_iload_3 (pc := 7) dX8_lack_7 ?_
    refine Bd_aload_0 (pc := 8) dX8_lack_8 ?_
    refine Bd_getR (j := 0) ck8 (pc := 9) dX8_lack_9 k_786 rfl (Nat.le_of_ble_eq_true rfl) rfl ?_
    refine Bd_bipush (v := 113) (pc := 12) dX8_lack_12 (by decide) ?_
    refine Bd_ialdc (j := 113) rfl (pc := 14) dX8_lack_14 rfl (by unfold vp_in; decide) ?_
    refine Bd_icmp_ge (t := 51) (pc := 15) dX8_lack_15 (by decide) (fun b15 => (show False from lf_s (h.2.1.2.2.1.trans h.1.nt) (by omega) hi b15).elim) (fun b15 => ?_)
    refine Bd_iload_2 (pc := 18) dX8_lack_18 ?_
    refine Bd_iload_1 (pc := 19) dX8_lack_19 ?_
    refine Bd_iload_3 (pc := 20) dX8_lack_20 ?_
    refine Bd_ishr (pc := 21) dX8_lack_21 ?_
    refine Bd_iconst (v := 1) (pc := 22) dX8_lack_22 (by decide) ?_
    refine Bd_iand (pc := 23) dX8_lack_23 ?_
    refine Bd_iconst (v := 1) (pc := 24) dX8_lack_24 (by decide) ?_
    refine Bd_icmp_ne (t := 42) (pc := 25) dX8_lack_25 (by decide) (fun b25 => ?_) (fun b25 => ?_)
    · refine Bd_iconst (v := -1) (pc := 42) dX8_lack_42 (by decide) ?_
      refine Bd_iand (pc := 43) dX8_lack_43 ?_
      refine Bd_istore_2 (pc := 44) dX8_lack_44 (Nat.le_of_ble_eq_true rfl) rfl ?_
      refine Bd_iinc_3 (pc := 45) dX8_lack_45 (show _ + Int32.ofInt 1 = _ + 1 from rfl) (Nat.le_of_ble_eq_true rfl) rfl ?_
      refine Bd_goto (t := 7) (pc := 48) dX8_lack_48 (by decide) ?_
      exact Bd_nx (ihi trivial) ⟨rfl, rfl, congrArg (fun x => some (Value.int x)) (by rw [lwF, if_neg b25]), congrArg (fun x => some (Value.int x)) (nI_succ i).symm, trivial⟩
    · refine Bd_aload_0 (pc := 28) dX8_lack_28 ?_
      refine Bd_getR (j := 0) ck8 (pc := 29) dX8_lack_29 k_786 rfl (Nat.le_of_ble_eq_true rfl) rfl ?_
      refine Bd_bipush (v := 6) (pc := 32) dX8_lack_32 (by decide) ?_
      refine Bd_iload_3 (pc := 34) dX8_lack_34 ?_
      refine Bd_iadd (pc := 35) dX8_lack_35 ?_
      refine Bd_ialdc (j := 6 + i) (by rw [ti6 i (by omega)]; exact nI_clamp (by omega)) (pc := 36) dX8_lack_36 rfl (by rw [ti6 i (by omega)]; exact vpi (by omega) (by omega)) ?_
      rw [(h.2.1.2.2.2.1 i hi).2]
      refine Bd_iconst (v := -1) (pc := 37) dX8_lack_37 (by decide) ?_
      refine Bd_ixor (pc := 38) dX8_lack_38 ?_
      refine Bd_goto (t := 43) (pc := 39) dX8_lack_39 (by decide) ?_
      refine Bd_iand (pc := 43) dX8_lack_43 ?_
      refine Bd_istore_2 (pc := 44) dX8_lack_44 (Nat.le_of_ble_eq_true rfl) rfl ?_
      refine Bd_iinc_3 (pc := 45) dX8_lack_45 (show _ + Int32.ofInt 1 = _ + 1 from rfl) (Nat.le_of_ble_eq_true rfl) rfl ?_
      refine Bd_goto (t := 7) (pc := 48) dX8_lack_48 (by decide) ?_
      exact Bd_nx (ihi trivial) ⟨rfl, rfl, congrArg (fun x => some (Value.int x)) (by rw [lwF, if_pos b25]), congrArg (fun x => some (Value.int x)) (nI_succ i).symm, trivial⟩
theorem lkz {C : Mem} (h : WF C) {s : Int32} : bcV (lkN C s) = 0 ↔ lkN C s = 0 := by
  constructor
  · intro z
    obtain ⟨n, hn, e⟩ := gb_pt8 h (y := psF C s (cn (C 44 6)) ^^^ -1)
    have e : lkN C s = nI n := e
    rw [e] at z ⊢
    exact (bc_z n hn).1 z
  · intro z; rw [z]; decide
theorem fw_c {C : Mem} : ∀ s, fwF C s = -4 ∨ ∃ n, n < s ∧ fwF C s = nI n
  | 0 => Or.inl rfl
  | s + 1 => by
    unfold fwF
    split
    · exact Or.inr ⟨s, by omega, rfl⟩
    · rcases fw_c (C := C) s with q | ⟨n, h1, h2⟩
      · exact Or.inl q
      · exact Or.inr ⟨n, by omega, h2⟩
theorem fw_n {C : Mem} {s : Nat} (hs : s ≤ 64) : fwF C s < 0 ↔ fwF C s = -4 := by
  constructor
  · intro z
    rcases fw_c (C := C) s with q | ⟨n, h1, h2⟩
    · exact q
    · rw [h2] at z; exact absurd z (Int32.not_lt.mpr (nI_pos' (by omega)))
  · intro z; rw [z]; decide
theorem fw_8 {C : Mem} {s : Nat} (hs : s ≤ 64) (h : ¬ fwF C s = -4) : by8 (fwF C s) := by
  rcases fw_c (C := C) s with q | ⟨n, h1, h2⟩
  · exact absurd q h
  · exact ⟨n, by omega, h2⟩
set_option maxRecDepth 100000 in
set_option maxHeartbeats 4000000 in
theorem sem_X8_fewest {C M : Mem} (h : RF C M) {k : Int32} : Sem mX8_fewest SH [.ref 58, .int k] M (RI SH (fun r N => r = fewestV C k ∧ RP (C) M N)) := by
  have q6 := h.1.p64
  refine Sem_of rfl (fun G => (Nat.le_of_ble_eq_true rfl)) (fun G => ?_)
  refine Bd_aload_0 (pc := 0) dX8_fewest_0 ?_
  refine Bd_callV0v (cd := mX8_awake) (pc := 1) dX8_fewest_1 k_965 v_X8_awake ⟨(Nat.le_of_ble_eq_true rfl), (Nat.le_of_ble_eq_true rfl)⟩ rfl rfl (sem_X8_awake h.a6) (Nat.le_of_ble_eq_true rfl) ?_
  refine Bd_iload_1 (pc := 4) dX8_fewest_4 ?_
  refine Bd_i2l (pc := 5) dX8_fewest_5 ?_
  refine Bd_lconst (v := 0) (pc := 6) dX8_fewest_6 (by decide) ?_
  refine Bd_lconst (v := 1) (pc := 7) dX8_fewest_7 (by decide) ?_
  refine Bd_callS3i (cd := mX8_in) (pc := 8) dX8_fewest_8 k_910 v_X8_in ⟨(Nat.le_of_ble_eq_true rfl), (Nat.le_of_ble_eq_true rfl)⟩ (sem_in (a := 0) (b := 1) (by decide) (by decide)) (Nat.le_of_ble_eq_true rfl) ?_
  refine Bd_if_ne (t := 16) (pc := 11) dX8_fewest_11 (by decide) (fun b11 => ?_) (fun b11 => ?_)
  · refine Bd_bipush (v := -4) (pc := 16) dX8_fewest_16 (by decide) ?_
    refine Bd_istore_2 (pc := 18) dX8_fewest_18 (Nat.le_of_ble_eq_true rfl) rfl ?_
    refine Bd_iconst (v := 0) (pc := 19) dX8_fewest_19 (by decide) ?_
    refine Bd_istore_3 (pc := 20) dX8_fewest_20 (Nat.le_of_ble_eq_true rfl) rfl ?_
    refine Bd_nx (L' := (fun i => [some (.ref 58), some (.int k), some (.int (fwF C i)), some (.int (nI i))]) 0) ?_ (by repeat (first | exact True.intro | refine And.intro rfl ?_))
    refine Bd_for (pc := 21) (c := (2 ^ cn (C 44 6))) (fun i => [some (.ref 58), some (.int k), some (.int (fwF C i)), some (.int (nI i))]) (fun _ => awM M) (fun _ => True) (fun ivi => ?_) (fun i hi ivi ihi => ?_) trivial
    · refine Bd_iload_3 (pc := 21) dX8_fewest_21 ?_
      refine Bd_iconst (v := 1) (pc := 22) dX8_fewest_22 (by decide) ?_
      refine Bd_aload_0 (pc := 23) dX8_fewest_23 ?_
      refine Bd_getR (j := 0) ck8 (pc := 24) dX8_fewest_24 k_786 rfl (Nat.le_of_ble_eq_true rfl) rfl ?_
      refine Bd_bipush (v := 113) (pc := 27) dX8_fewest_27 (by decide) ?_
      refine Bd_ialdc (j := 113) rfl (pc := 29) dX8_fewest_29 rfl (by unfold vp_in; decide) ?_
      refine Bd_ishl (pc := 30) dX8_fewest_30 ?_
      refine Bd_icmp_ge (t := 71) (pc := 31) dX8_fewest_31 (by decide) (fun b31 => ?_) (fun b31 => (show False from lf_x (show (1 : Int32) <<< (awM M 59 113 &&& 31) = nI (2 ^ cn (C 44 6)) from by rw [show awM M 59 113 = C 44 6 from h.aw.2.1.1.2.2.1]; exact h.1.sh) b31).elim)
      refine Bd_iload_2 (pc := 71) dX8_fewest_71 ?_
      refine Bd_bipush (v := -4) (pc := 72) dX8_fewest_72 (by decide) ?_
      refine Bd_icmp_eq (t := 82) (pc := 74) dX8_fewest_74 (by decide) (fun b74 => ?_) (fun b74 => ?_)
      · refine Bd_iload_2 (pc := 82) dX8_fewest_82 ?_
        refine Bd_goto (t := 90) (pc := 83) dX8_fewest_83 (by decide) ?_
        refine Bd_iret (pc := 90) dX8_fewest_90 rfl ?_
        exact ⟨_, rfl, rfl, by rw [fewestV, if_pos (k01.mp (b2_n.mp b11)), if_pos (Or.inr ((fw_n q6).mpr b74))], RP_aw h⟩
      · refine Bd_iload_1 (pc := 77) dX8_fewest_77 ?_
        refine Bd_iconst (v := 1) (pc := 78) dX8_fewest_78 (by decide) ?_
        refine Bd_icmp_ne (t := 86) (pc := 79) dX8_fewest_79 (by decide) (fun b79 => ?_) (fun b79 => ?_)
        · refine Bd_iload_2 (pc := 86) dX8_fewest_86 ?_
          refine Bd_callS1i (cd := mX8_bitsOf) (pc := 87) dX8_fewest_87 k_1147 v_X8_bitsOf ⟨(Nat.le_of_ble_eq_true rfl), (Nat.le_of_ble_eq_true rfl)⟩ (sem_X8_bitsOf (fw_8 q6 b74)) (Nat.le_of_ble_eq_true rfl) ?_
          refine Bd_iret (pc := 90) dX8_fewest_90 rfl ?_
          exact ⟨_, rfl, rfl, by rw [fewestV, if_pos (k01.mp (b2_n.mp b11)), if_neg (fun q => q.elim b79 (fun z => b74 ((fw_n q6).mp z)))], RP_aw h⟩
        · refine Bd_iload_2 (pc := 82) dX8_fewest_82 ?_
          refine Bd_goto (t := 90) (pc := 83) dX8_fewest_83 (by decide) ?_
          refine Bd_iret (pc := 90) dX8_fewest_90 rfl ?_
          exact ⟨_, rfl, rfl, by rw [fewestV, if_pos (k01.mp (b2_n.mp b11)), if_pos (Or.inl b79)], RP_aw h⟩
    · refine Bd_iload_3 (pc := 21) dX8_fewest_21 ?_
      refine Bd_iconst (v := 1) (pc := 22) dX8_fewest_22 (by decide) ?_
      refine Bd_aload_0 (pc := 23) dX8_fewest_23 ?_
      refine Bd_getR (j := 0) ck8 (pc := 24) dX8_fewest_24 k_786 rfl (Nat.le_of_ble_eq_true rfl) rfl ?_
      refine Bd_bipush (v := 113) (pc := 27) dX8_fewest_27 (by decide) ?_
      refine Bd_ialdc (j := 113) rfl (pc := 29) dX8_fewest_29 rfl (by unfold vp_in; decide) ?_
      refine Bd_ishl (pc := 30) dX8_fewest_30 ?_
      refine Bd_icmp_ge (t := 71) (pc := 31) dX8_fewest_31 (by decide) (fun b31 => (show False from lf_s (show (1 : Int32) <<< (awM M 59 113 &&& 31) = nI (2 ^ cn (C 44 6)) from by rw [show awM M 59 113 = C 44 6 from h.aw.2.1.1.2.2.1]; exact h.1.sh) (by omega) hi b31).elim) (fun b31 => ?_)
      refine Bd_aload_0 (pc := 34) dX8_fewest_34 ?_
      refine Bd_iload_3 (pc := 35) dX8_fewest_35 ?_
      refine Bd_callV1i (cd := mX8_lack) (pc := 36) dX8_fewest_36 k_1139 v_X8_lack ⟨(Nat.le_of_ble_eq_true rfl), (Nat.le_of_ble_eq_true rfl)⟩ rfl rfl (sem_X8_lack h.aw.rf) (Nat.le_of_ble_eq_true rfl) ?_
      refine Bd_if_ne (t := 63) (pc := 39) dX8_fewest_39 (by decide) (fun b39 => ?_) (fun b39 => ?_)
      · refine Bd_iload_2 (pc := 63) dX8_fewest_63 ?_
        refine Bd_istore_2 (pc := 64) dX8_fewest_64 (Nat.le_of_ble_eq_true rfl) rfl ?_
        refine Bd_iinc_3 (pc := 65) dX8_fewest_65 (show _ + Int32.ofInt 1 = _ + 1 from rfl) (Nat.le_of_ble_eq_true rfl) rfl ?_
        refine Bd_goto (t := 21) (pc := 68) dX8_fewest_68 (by decide) ?_
        exact Bd_nx (ihi trivial) ⟨rfl, rfl, congrArg (fun x => some (Value.int x)) (by rw [fwF, if_neg (fun q => b39 (lkz h.1 |>.mpr q.2))]), congrArg (fun x => some (Value.int x)) (nI_succ i).symm, trivial⟩
      · refine Bd_iload_2 (pc := 42) dX8_fewest_42 ?_
        refine Bd_bipush (v := -4) (pc := 43) dX8_fewest_43 (by decide) ?_
        refine Bd_icmp_eq (t := 59) (pc := 45) dX8_fewest_45 (by decide) (fun b45 => ?_) (fun b45 => ?_)
        · refine Bd_iload_3 (pc := 59) dX8_fewest_59 ?_
          refine Bd_goto (t := 64) (pc := 60) dX8_fewest_60 (by decide) ?_
          refine Bd_istore_2 (pc := 64) dX8_fewest_64 (Nat.le_of_ble_eq_true rfl) rfl ?_
          refine Bd_iinc_3 (pc := 65) dX8_fewest_65 (show _ + Int32.ofInt 1 = _ + 1 from rfl) (Nat.le_of_ble_eq_true rfl) rfl ?_
          refine Bd_goto (t := 21) (pc := 68) dX8_fewest_68 (by decide) ?_
          exact Bd_nx (ihi trivial) ⟨rfl, rfl, congrArg (fun x => some (Value.int x)) (by rw [fwF, if_pos ⟨Or.inl ((fw_n (by omega)).mpr b45), (lkz h.1).mp b39⟩]), congrArg (fun x => some (Value.int x)) (nI_succ i).symm, trivial⟩
        · refine Bd_iload_3 (pc := 48) dX8_fewest_48 ?_
          refine Bd_callS1i (cd := mX8_bitsOf) (pc := 49) dX8_fewest_49 k_1147 v_X8_bitsOf ⟨(Nat.le_of_ble_eq_true rfl), (Nat.le_of_ble_eq_true rfl)⟩ (sem_X8_bitsOf ⟨i, by omega, rfl⟩) (Nat.le_of_ble_eq_true rfl) ?_
          refine Bd_iload_2 (pc := 52) dX8_fewest_52 ?_
          refine Bd_callS1i (cd := mX8_bitsOf) (pc := 53) dX8_fewest_53 k_1147 v_X8_bitsOf ⟨(Nat.le_of_ble_eq_true rfl), (Nat.le_of_ble_eq_true rfl)⟩ (sem_X8_bitsOf (fw_8 (by omega) b45)) (Nat.le_of_ble_eq_true rfl) ?_
          refine Bd_icmp_ge (t := 63) (pc := 56) dX8_fewest_56 (by decide) (fun b56 => ?_) (fun b56 => ?_)
          · refine Bd_iload_2 (pc := 63) dX8_fewest_63 ?_
            refine Bd_istore_2 (pc := 64) dX8_fewest_64 (Nat.le_of_ble_eq_true rfl) rfl ?_
            refine Bd_iinc_3 (pc := 65) dX8_fewest_65 (show _ + Int32.ofInt 1 = _ + 1 from rfl) (Nat.le_of_ble_eq_true rfl) rfl ?_
            refine Bd_goto (t := 21) (pc := 68) dX8_fewest_68 (by decide) ?_
            exact Bd_nx (ihi trivial) ⟨rfl, rfl, congrArg (fun x => some (Value.int x)) (by rw [fwF, if_neg (fun q => q.1.elim (fun z => b45 ((fw_n (by omega)).mp z)) (fun z => Int32.not_lt.mpr b56 z))]), congrArg (fun x => some (Value.int x)) (nI_succ i).symm, trivial⟩
          · refine Bd_iload_3 (pc := 59) dX8_fewest_59 ?_
            refine Bd_goto (t := 64) (pc := 60) dX8_fewest_60 (by decide) ?_
            refine Bd_istore_2 (pc := 64) dX8_fewest_64 (Nat.le_of_ble_eq_true rfl) rfl ?_
            refine Bd_iinc_3 (pc := 65) dX8_fewest_65 (show _ + Int32.ofInt 1 = _ + 1 from rfl) (Nat.le_of_ble_eq_true rfl) rfl ?_
            refine Bd_goto (t := 21) (pc := 68) dX8_fewest_68 (by decide) ?_
            exact Bd_nx (ihi trivial) ⟨rfl, rfl, congrArg (fun x => some (Value.int x)) (by rw [fwF, if_pos ⟨Or.inr (Int32.not_le.mp b56), (lkz h.1).mp b39⟩]), congrArg (fun x => some (Value.int x)) (nI_succ i).symm, trivial⟩
  · refine Bd_iconst (v := -1) (pc := 14) dX8_fewest_14 (by decide) ?_
    refine Bd_iret (pc := 15) dX8_fewest_15 rfl ?_
    exact ⟨_, rfl, rfl, by rw [fewestV, if_neg (fun z => b2_0.mp b11 (k01.mpr z))], RP_aw h⟩
def bbF (C : Mem) (tg : Int32) (s : Nat) : Int32 := if (ppF C tg s).1 = 0 then -4 else (ppF C tg s).1
theorem pp_c {C : Mem} {tg : Int32} (ht : ¬ tg = 0) : ∀ s, ppF C tg s = (0, 1000000) ∨ ∃ n, 0 < n ∧ n < s ∧ ppF C tg s = (nI n, bcV (lkN C (nI n))) ∧ bcV (nI n) = tg
  | 0 => Or.inl rfl
  | s + 1 => by
    have ih := pp_c (C := C) ht s
    have ih' : ppF C tg s = (0, 1000000) ∨ ∃ n, 0 < n ∧ n < s + 1 ∧ ppF C tg s = (nI n, bcV (lkN C (nI n))) ∧ bcV (nI n) = tg := by
      rcases ih with q | ⟨n, a, b, c⟩
      · exact Or.inl q
      · exact Or.inr ⟨n, a, by omega, c⟩
    unfold ppF
    split
    · rename_i q
      split
      · exact ih'
      · refine Or.inr ⟨s, Nat.pos_of_ne_zero (fun z => ht ?_), by omega, rfl, q⟩
        rw [← q, z]; decide
    · exact ih'
theorem bb_i {C : Mem} {tg : Int32} (ht : ¬ tg = 0) {s : Nat} (hs : s ≤ 64) : (bbF C tg s = -4 ∧ ppF C tg s = (0, 1000000)) ∨ ∃ n, n < 64 ∧ bbF C tg s = nI n ∧ ppF C tg s = (nI n, bcV (lkN C (nI n))) ∧ bcV (nI n) = tg ∧ ¬ nI n = 0 ∧ ¬ nI n = -4 := by
  rcases pp_c (C := C) ht s with q | ⟨n, a, b, c, d⟩
  · exact Or.inl ⟨by unfold bbF; rw [q, if_pos rfl], q⟩
  · have z : ¬ nI n = 0 := fun z => by have := congrArg Int32.toInt z; rw [nI_toInt (by omega), Int32.toInt_zero] at this; omega
    have z4 : ¬ nI n = -4 := fun z => by have := congrArg Int32.toInt z; rw [nI_toInt (by omega), show (-4 : Int32).toInt = -4 by decide] at this; omega
    exact Or.inr ⟨n, by omega, by unfold bbF; rw [c, if_neg z], c, d, z, z4⟩
theorem bb_n {C : Mem} {tg : Int32} {s : Nat} (h : ¬ bcV (nI s) = tg) : bbF C tg (s + 1) = bbF C tg s := by
  unfold bbF; rw [show ppF C tg (s + 1) = ppF C tg s from by rw [ppF, if_neg h]]
theorem lk_m {C : Mem} (h : WF C) {s : Int32} : bcV (lkN C s) < 1000000 := by
  obtain ⟨n, hn, e⟩ := gb_pt8 h (y := psF C s (cn (C 44 6)) ^^^ -1)
  have e : lkN C s = nI n := e
  rw [e]; exact (bc_z n hn).2
theorem bb_s {C : Mem} {tg : Int32} {s : Nat} (ht : ¬ tg = 0) (h : bcV (nI s) = tg) (hl : ¬ (ppF C tg s).2 ≤ bcV (lkN C (nI s))) : bbF C tg (s + 1) = nI s := by
  have z : ¬ nI s = 0 := fun z => ht (by rw [← h, z]; decide)
  unfold bbF
  rw [show ppF C tg (s + 1) = (nI s, bcV (lkN C (nI s))) from by rw [ppF, if_pos h, if_neg hl], if_neg z]
theorem bb_new {C : Mem} (w : WF C) {tg : Int32} {s : Nat} (hs : s < 64) (ht : ¬ tg = 0) (h : bcV (nI s) = tg) (hb : bbF C tg s = -4) : bbF C tg (s + 1) = nI s := by
  refine bb_s ht h (fun z => ?_)
  rcases bb_i (C := C) ht (s := s) (by omega) with ⟨-, q⟩ | ⟨n, -, q, -, -, -, y⟩
  · rw [q] at z; exact Int32.not_lt.mpr z (lk_m w)
  · exact y (q ▸ hb)
theorem bb_l {C : Mem} {tg : Int32} {s : Nat} (hs : s ≤ 64) (ht : ¬ tg = 0) (hb : ¬ bbF C tg s = -4) : bcV (lkN C (bbF C tg s)) = (ppF C tg s).2 := by
  rcases bb_i (C := C) ht hs with ⟨q, -⟩ | ⟨n, -, q1, q2, -⟩
  · exact absurd q hb
  · rw [q1, q2]
theorem bb_1 {C : Mem} {tg : Int32} {s : Nat} (hs : s ≤ 64) (ht : ¬ tg = 0) (hb : ¬ bbF C tg s = -4) : bbF C tg s = (ppF C tg s).1 ∧ ¬ (ppF C tg s).1 = 0 ∧ bcV (bbF C tg s) = tg := by
  rcases bb_i (C := C) ht hs with ⟨q, -⟩ | ⟨n, -, q1, q2, q3, q4, -⟩
  · exact absurd q hb
  · rw [q1, q2]; exact ⟨rfl, q4, q3⟩
theorem bb_0 {C : Mem} {tg : Int32} {s : Nat} (hs : s ≤ 64) (ht : ¬ tg = 0) (hb : bbF C tg s = -4) : (ppF C tg s).1 = 0 := by
  rcases bb_i (C := C) ht hs with ⟨-, q⟩ | ⟨n, -, q1, -, -, -, q4⟩
  · rw [q]
  · exact absurd (q1 ▸ hb) q4
theorem pw64 : ∀ n, n < 64 → bcV (nI n) = 1 → (∀ i, i < cn (bcV (nI n - 1)) → ¬ nI n >>> (nI i &&& 31) = 1) ∧ nI n >>> (nI (cn (bcV (nI n - 1))) &&& 31) = 1 ∧ nI (cn (bcV (nI n - 1))) = bcV (nI n - 1) ∧ cn (bcV (nI n - 1)) < 6 := by decide +kernel
theorem bb_p {C : Mem} {s : Nat} (hs : s ≤ 64) (hb : ¬ bbF C 1 s = -4) : (∀ i, i < cn (bcV (bbF C 1 s - 1)) → ¬ bbF C 1 s >>> (nI i &&& 31) = 1) ∧ bbF C 1 s >>> (nI (cn (bcV (bbF C 1 s - 1))) &&& 31) = 1 ∧ nI (cn (bcV (bbF C 1 s - 1))) = bcV (bbF C 1 s - 1) := by
  rcases bb_i (C := C) (tg := 1) (by decide) hs with ⟨q, -⟩ | ⟨n, n1, q1, q2, q3, -⟩
  · exact absurd q hb
  · rw [q1]; have := pw64 n n1 q3; exact ⟨this.1, this.2.1, this.2.2.1⟩
theorem k03 {k : Int32} : (0 ≤ k ∧ k ≤ 3) ↔ (0 ≤ k ∧ k < 4) := by
  rw [Int32.le_iff_toInt_le, Int32.lt_iff_toInt_lt, Int32.le_iff_toInt_le, show (4 : Int32).toInt = 4 by decide, show (3 : Int32).toInt = 3 by decide, Int32.toInt_zero]
  omega
set_option maxRecDepth 100000 in
set_option maxHeartbeats 4000000 in
theorem sem_X8_pipes {C M : Mem} (h : RF C M) {k : Int32} : Sem mX8_pipes SH [.ref 58, .int k] M (RI SH (fun r N => r = pipesV C k ∧ RP (C) M N)) := by
  have q6 := h.1.p64
  refine Sem_of rfl (fun G => (Nat.le_of_ble_eq_true rfl)) (fun G => ?_)
  have key : ¬ b2 (0 ≤ k ∧ k ≤ 3) = 0 → ∀ tg, (if k < 2 then (1 : Int32) else 2) = tg → Bd mX8_pipes G (RI SH (fun r N => r = pipesV C k ∧ RP (C) M N)) SH 29 [some (.ref 58), some (.int k), some (.int tg), none, none] [] (awM M) := by
    intro b13 tg htg
    have ht : ¬ tg = 0 := by
      rw [← htg]
      split
      · decide
      · decide
    refine Bd_bipush (v := -4) (pc := 29) dX8_pipes_29 (by decide) ?_
    refine Bd_istore_3 (pc := 31) dX8_pipes_31 (Nat.le_of_ble_eq_true rfl) rfl ?_
    refine Bd_iconst (v := 0) (pc := 32) dX8_pipes_32 (by decide) ?_
    refine Bd_istore_4 (pc := 33) dX8_pipes_33 (Nat.le_of_ble_eq_true rfl) rfl ?_
    refine Bd_nx (L' := (fun i => [some (.ref 58), some (.int k), some (.int tg), some (.int (bbF C tg i)), some (.int (nI i))]) 0) ?_ (by repeat (first | exact True.intro | refine And.intro rfl ?_))
    refine Bd_for (pc := 35) (c := (2 ^ cn (C 44 6))) (fun i => [some (.ref 58), some (.int k), some (.int tg), some (.int (bbF C tg i)), some (.int (nI i))]) (fun _ => awM M) (fun _ => True) (fun ivi => ?_) (fun i hi ivi ihi => ?_) trivial
    · refine Bd_iload_4 (pc := 35) dX8_pipes_35 ?_
      refine Bd_iconst (v := 1) (pc := 37) dX8_pipes_37 (by decide) ?_
      refine Bd_aload_0 (pc := 38) dX8_pipes_38 ?_
      refine Bd_getR (j := 0) ck8 (pc := 39) dX8_pipes_39 k_786 rfl (Nat.le_of_ble_eq_true rfl) rfl ?_
      refine Bd_bipush (v := 113) (pc := 42) dX8_pipes_42 (by decide) ?_
      refine Bd_ialdc (j := 113) rfl (pc := 44) dX8_pipes_44 rfl (by unfold vp_in; decide) ?_
      refine Bd_ishl (pc := 45) dX8_pipes_45 ?_
      refine Bd_icmp_ge (t := 91) (pc := 46) dX8_pipes_46 (by decide) (fun b46 => ?_) (fun b46 => (show False from lf_x (show (1 : Int32) <<< (awM M 59 113 &&& 31) = nI (2 ^ cn (C 44 6)) from by rw [show awM M 59 113 = C 44 6 from h.aw.2.1.1.2.2.1]; exact h.1.sh) b46).elim)
      refine Bd_iload_3 (pc := 91) dX8_pipes_91 ?_
      refine Bd_bipush (v := -4) (pc := 92) dX8_pipes_92 (by decide) ?_
      refine Bd_icmp_eq (t := 102) (pc := 94) dX8_pipes_94 (by decide) (fun b94 => ?_) (fun b94 => ?_)
      · refine Bd_iload_3 (pc := 102) dX8_pipes_102 ?_
        refine Bd_iret (pc := 103) dX8_pipes_103 rfl ?_
        have hk := k03.mp (b2_n.mp b13)
        exact ⟨_, rfl, rfl, by rw [pipesV, if_pos hk, htg, if_pos (bb_0 q6 ht b94)]; exact b94, RP_aw h⟩
      · refine Bd_iload_1 (pc := 97) dX8_pipes_97 ?_
        refine Bd_iconst (v := 3) (pc := 98) dX8_pipes_98 (by decide) ?_
        refine Bd_icmp_ne (t := 104) (pc := 99) dX8_pipes_99 (by decide) (fun b99 => ?_) (fun b99 => ?_)
        · refine Bd_iload_1 (pc := 104) dX8_pipes_104 ?_
          refine Bd_iconst (v := 1) (pc := 105) dX8_pipes_105 (by decide) ?_
          refine Bd_icmp_ne (t := 129) (pc := 106) dX8_pipes_106 (by decide) (fun b106 => ?_) (fun b106 => ?_)
          · refine Bd_aload_0 (pc := 129) dX8_pipes_129 ?_
            refine Bd_iload_3 (pc := 130) dX8_pipes_130 ?_
            refine Bd_callV1i (cd := mX8_lack) (pc := 131) dX8_pipes_131 k_1139 v_X8_lack ⟨(Nat.le_of_ble_eq_true rfl), (Nat.le_of_ble_eq_true rfl)⟩ rfl rfl (sem_X8_lack h.aw.rf) (Nat.le_of_ble_eq_true rfl) ?_
            refine Bd_iret (pc := 134) dX8_pipes_134 rfl ?_
            have hk := k03.mp (b2_n.mp b13)
            have h1 := bb_1 (C := C) q6 ht b94
            exact ⟨_, rfl, rfl, by rw [pipesV, if_pos hk, htg, if_neg h1.2.1, if_neg b99, if_neg b106]; exact bb_l q6 ht b94, RP_aw h⟩
          · refine Bd_iconst (v := 0) (pc := 109) dX8_pipes_109 (by decide) ?_
            refine Bd_istore_4 (pc := 110) dX8_pipes_110 (Nat.le_of_ble_eq_true rfl) rfl ?_
            subst b106
            have htg1 : tg = 1 := by rw [← htg]; decide
            subst htg1
            have hp := bb_p (C := C) q6 b94
            refine Bd_nx (L' := (fun i => [some (.ref 58), some (.int 1), some (.int 1), some (.int (bbF C 1 (2 ^ cn (C 44 6)))), some (.int (nI i))]) 0) ?_ (by repeat (first | exact True.intro | refine And.intro rfl ?_))
            refine Bd_for (pc := 112) (c := cn (bcV (bbF C 1 (2 ^ cn (C 44 6)) - 1))) (fun i => [some (.ref 58), some (.int 1), some (.int 1), some (.int (bbF C 1 (2 ^ cn (C 44 6)))), some (.int (nI i))]) (fun _ => awM M) (fun _ => True) (fun _ => ?_) (fun i hi _ ih => ?_) trivial
            · refine Bd_iload_3 (pc := 112) dX8_pipes_112 ?_
              refine Bd_iload_4 (pc := 113) dX8_pipes_113 ?_
              refine Bd_ishr (pc := 115) dX8_pipes_115 ?_
              refine Bd_iconst (v := 1) (pc := 116) dX8_pipes_116 (by decide) ?_
              refine Bd_icmp_eq (t := 126) (pc := 117) dX8_pipes_117 (by decide) (fun b117 => ?_) (fun b117 => (show False from b117 hp.2.1).elim)
              refine Bd_iload_4 (pc := 126) dX8_pipes_126 ?_
              refine Bd_iret (pc := 128) dX8_pipes_128 rfl ?_
              have h1 := bb_1 (C := C) q6 (by decide) b94
              exact ⟨_, rfl, rfl, by rw [pipesV, if_pos (by decide), show (if (1 : Int32) < 2 then (1 : Int32) else 2) = 1 from rfl, if_neg h1.2.1, if_neg (by decide), if_pos rfl, ← h1.1]; exact hp.2.2, RP_aw h⟩
            · refine Bd_iload_3 (pc := 112) dX8_pipes_112 ?_
              refine Bd_iload_4 (pc := 113) dX8_pipes_113 ?_
              refine Bd_ishr (pc := 115) dX8_pipes_115 ?_
              refine Bd_iconst (v := 1) (pc := 116) dX8_pipes_116 (by decide) ?_
              refine Bd_icmp_eq (t := 126) (pc := 117) dX8_pipes_117 (by decide) (fun b117 => (show False from hp.1 i hi b117).elim) (fun b117 => ?_)
              refine Bd_iinc_4 (pc := 120) dX8_pipes_120 (show _ + Int32.ofInt 1 = _ + 1 from rfl) (Nat.le_of_ble_eq_true rfl) rfl ?_
              refine Bd_goto (t := 112) (pc := 123) dX8_pipes_123 (by decide) ?_
              exact Bd_nx (ih trivial) ⟨rfl, rfl, rfl, rfl, congrArg (fun x => some (Value.int x)) (nI_succ i).symm, trivial⟩
        · refine Bd_iload_3 (pc := 102) dX8_pipes_102 ?_
          refine Bd_iret (pc := 103) dX8_pipes_103 rfl ?_
          have hk := k03.mp (b2_n.mp b13)
          have h1 := bb_1 (C := C) q6 ht b94
          exact ⟨_, rfl, rfl, by rw [pipesV, if_pos hk, htg, if_neg h1.2.1, if_pos b99]; exact h1.1, RP_aw h⟩
    · refine Bd_iload_4 (pc := 35) dX8_pipes_35 ?_
      refine Bd_iconst (v := 1) (pc := 37) dX8_pipes_37 (by decide) ?_
      refine Bd_aload_0 (pc := 38) dX8_pipes_38 ?_
      refine Bd_getR (j := 0) ck8 (pc := 39) dX8_pipes_39 k_786 rfl (Nat.le_of_ble_eq_true rfl) rfl ?_
      refine Bd_bipush (v := 113) (pc := 42) dX8_pipes_42 (by decide) ?_
      refine Bd_ialdc (j := 113) rfl (pc := 44) dX8_pipes_44 rfl (by unfold vp_in; decide) ?_
      refine Bd_ishl (pc := 45) dX8_pipes_45 ?_
      refine Bd_icmp_ge (t := 91) (pc := 46) dX8_pipes_46 (by decide) (fun b46 => (show False from lf_s (show (1 : Int32) <<< (awM M 59 113 &&& 31) = nI (2 ^ cn (C 44 6)) from by rw [show awM M 59 113 = C 44 6 from h.aw.2.1.1.2.2.1]; exact h.1.sh) (by omega) hi b46).elim) (fun b46 => ?_)
      refine Bd_iload_4 (pc := 49) dX8_pipes_49 ?_
      refine Bd_callS1i (cd := mX8_bitsOf) (pc := 51) dX8_pipes_51 k_1147 v_X8_bitsOf ⟨(Nat.le_of_ble_eq_true rfl), (Nat.le_of_ble_eq_true rfl)⟩ (sem_X8_bitsOf ⟨i, by omega, rfl⟩) (Nat.le_of_ble_eq_true rfl) ?_
      refine Bd_iload_2 (pc := 54) dX8_pipes_54 ?_
      refine Bd_icmp_ne (t := 83) (pc := 55) dX8_pipes_55 (by decide) (fun b55 => ?_) (fun b55 => ?_)
      · refine Bd_iload_3 (pc := 83) dX8_pipes_83 ?_
        refine Bd_istore_3 (pc := 84) dX8_pipes_84 (Nat.le_of_ble_eq_true rfl) rfl ?_
        refine Bd_iinc_4 (pc := 85) dX8_pipes_85 (show _ + Int32.ofInt 1 = _ + 1 from rfl) (Nat.le_of_ble_eq_true rfl) rfl ?_
        refine Bd_goto (t := 35) (pc := 88) dX8_pipes_88 (by decide) ?_
        exact Bd_nx (ihi trivial) ⟨rfl, rfl, rfl, congrArg (fun x => some (Value.int x)) (bb_n b55).symm, congrArg (fun x => some (Value.int x)) (nI_succ i).symm, trivial⟩
      · refine Bd_iload_3 (pc := 58) dX8_pipes_58 ?_
        refine Bd_bipush (v := -4) (pc := 59) dX8_pipes_59 (by decide) ?_
        refine Bd_icmp_eq (t := 78) (pc := 61) dX8_pipes_61 (by decide) (fun b61 => ?_) (fun b61 => ?_)
        · refine Bd_iload_4 (pc := 78) dX8_pipes_78 ?_
          refine Bd_goto (t := 84) (pc := 80) dX8_pipes_80 (by decide) ?_
          refine Bd_istore_3 (pc := 84) dX8_pipes_84 (Nat.le_of_ble_eq_true rfl) rfl ?_
          refine Bd_iinc_4 (pc := 85) dX8_pipes_85 (show _ + Int32.ofInt 1 = _ + 1 from rfl) (Nat.le_of_ble_eq_true rfl) rfl ?_
          refine Bd_goto (t := 35) (pc := 88) dX8_pipes_88 (by decide) ?_
          exact Bd_nx (ihi trivial) ⟨rfl, rfl, rfl, congrArg (fun x => some (Value.int x)) (bb_new h.1 (by omega) ht b55 b61).symm, congrArg (fun x => some (Value.int x)) (nI_succ i).symm, trivial⟩
        · refine Bd_aload_0 (pc := 64) dX8_pipes_64 ?_
          refine Bd_iload_4 (pc := 65) dX8_pipes_65 ?_
          refine Bd_callV1i (cd := mX8_lack) (pc := 67) dX8_pipes_67 k_1139 v_X8_lack ⟨(Nat.le_of_ble_eq_true rfl), (Nat.le_of_ble_eq_true rfl)⟩ rfl rfl (sem_X8_lack h.aw.rf) (Nat.le_of_ble_eq_true rfl) ?_
          refine Bd_aload_0 (pc := 70) dX8_pipes_70 ?_
          refine Bd_iload_3 (pc := 71) dX8_pipes_71 ?_
          refine Bd_callV1i (cd := mX8_lack) (pc := 72) dX8_pipes_72 k_1139 v_X8_lack ⟨(Nat.le_of_ble_eq_true rfl), (Nat.le_of_ble_eq_true rfl)⟩ rfl rfl (sem_X8_lack h.aw.rf) (Nat.le_of_ble_eq_true rfl) ?_
          refine Bd_icmp_ge (t := 83) (pc := 75) dX8_pipes_75 (by decide) (fun b75 => ?_) (fun b75 => ?_)
          · refine Bd_iload_3 (pc := 83) dX8_pipes_83 ?_
            refine Bd_istore_3 (pc := 84) dX8_pipes_84 (Nat.le_of_ble_eq_true rfl) rfl ?_
            refine Bd_iinc_4 (pc := 85) dX8_pipes_85 (show _ + Int32.ofInt 1 = _ + 1 from rfl) (Nat.le_of_ble_eq_true rfl) rfl ?_
            refine Bd_goto (t := 35) (pc := 88) dX8_pipes_88 (by decide) ?_
            exact Bd_nx (ihi trivial) ⟨rfl, rfl, rfl, congrArg (fun x => some (Value.int x)) ((show bbF C tg (i + 1) = bbF C tg i from by unfold bbF; rw [show ppF C tg (i + 1) = ppF C tg i from by rw [ppF, if_pos b55, if_pos (bb_l (by omega) ht b61 ▸ b75)]])).symm, congrArg (fun x => some (Value.int x)) (nI_succ i).symm, trivial⟩
          · refine Bd_iload_4 (pc := 78) dX8_pipes_78 ?_
            refine Bd_goto (t := 84) (pc := 80) dX8_pipes_80 (by decide) ?_
            refine Bd_istore_3 (pc := 84) dX8_pipes_84 (Nat.le_of_ble_eq_true rfl) rfl ?_
            refine Bd_iinc_4 (pc := 85) dX8_pipes_85 (show _ + Int32.ofInt 1 = _ + 1 from rfl) (Nat.le_of_ble_eq_true rfl) rfl ?_
            refine Bd_goto (t := 35) (pc := 88) dX8_pipes_88 (by decide) ?_
            exact Bd_nx (ihi trivial) ⟨rfl, rfl, rfl, congrArg (fun x => some (Value.int x)) (bb_s ht b55 (fun z => b75 (by rw [bb_l (by omega) ht b61]; exact z))).symm, congrArg (fun x => some (Value.int x)) (nI_succ i).symm, trivial⟩
  refine Bd_aload_0 (pc := 0) dX8_pipes_0 ?_
  refine Bd_callV0v (cd := mX8_awake) (pc := 1) dX8_pipes_1 k_965 v_X8_awake ⟨(Nat.le_of_ble_eq_true rfl), (Nat.le_of_ble_eq_true rfl)⟩ rfl rfl (sem_X8_awake h.a6) (Nat.le_of_ble_eq_true rfl) ?_
  refine Bd_iload_1 (pc := 4) dX8_pipes_4 ?_
  refine Bd_i2l (pc := 5) dX8_pipes_5 ?_
  refine Bd_lconst (v := 0) (pc := 6) dX8_pipes_6 (by decide) ?_
  refine Bd_ldc2 k_969 (pc := 7) dX8_pipes_7 ?_
  refine Bd_callS3i (cd := mX8_in) (pc := 10) dX8_pipes_10 k_910 v_X8_in ⟨(Nat.le_of_ble_eq_true rfl), (Nat.le_of_ble_eq_true rfl)⟩ (sem_in (a := 0) (b := 3) (by decide) (by decide)) (Nat.le_of_ble_eq_true rfl) ?_
  refine Bd_if_ne (t := 18) (pc := 13) dX8_pipes_13 (by decide) (fun b13 => ?_) (fun b13 => ?_)
  · refine Bd_iload_1 (pc := 18) dX8_pipes_18 ?_
    refine Bd_iconst (v := 2) (pc := 19) dX8_pipes_19 (by decide) ?_
    refine Bd_icmp_ge (t := 27) (pc := 20) dX8_pipes_20 (by decide) (fun b20 => ?_) (fun b20 => ?_)
    · refine Bd_iconst (v := 2) (pc := 27) dX8_pipes_27 (by decide) ?_
      refine Bd_istore_2 (pc := 28) dX8_pipes_28 (Nat.le_of_ble_eq_true rfl) rfl ?_
      exact key b13 _ (if_neg (Int32.not_lt.mpr b20))
    · refine Bd_iconst (v := 1) (pc := 23) dX8_pipes_23 (by decide) ?_
      refine Bd_goto (t := 28) (pc := 24) dX8_pipes_24 (by decide) ?_
      refine Bd_istore_2 (pc := 28) dX8_pipes_28 (Nat.le_of_ble_eq_true rfl) rfl ?_
      exact key b13 _ (if_pos (Int32.not_le.mp b20))
  · refine Bd_iconst (v := -1) (pc := 16) dX8_pipes_16 (by decide) ?_
    refine Bd_iret (pc := 17) dX8_pipes_17 rfl ?_
    exact ⟨_, rfl, rfl, by rw [pipesV, if_neg (fun z => b2_0.mp b13 (k03.mpr z))], RP_aw h⟩
