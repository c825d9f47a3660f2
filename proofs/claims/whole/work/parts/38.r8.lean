/-! 38: the reference: plays -/
theorem and1 (y : Int32) : y &&& 1 = 0 ∨ y &&& 1 = 1 := by
  cases h : gb y 0 with
  | false =>
    left
    rw [gb_z]
    intro i hi
    rw [gb_and, gb_1 i hi]
    by_cases z : i = 0
    · subst z; rw [h]; rfl
    · simp [z]
  | true =>
    right
    apply gb_ext
    intro i hi
    rw [gb_and, gb_1 i hi]
    by_cases z : i = 0
    · subst z; rw [h]; rfl
    · simp [z]
theorem and1' {y : Int32} : y &&& 1 = 1 ↔ ¬ y &&& 1 = 0 := by
  rcases and1 y with q | q
  · rw [q]; exact ⟨fun z => absurd z (by decide), fun z => absurd rfl z⟩
  · rw [q]; exact ⟨fun _ => by decide, fun _ => rfl⟩
/-- the reference's own scratch rows -/
def rsc (k : Nat) : Bool := Nat.ble 70 k && Nat.ble k 74
theorem rsc_eq {N M : Mem} (h : ∀ k, rsc k = false → N k = M k) : N = fun k => if rsc k then N k else M k := by
  funext k
  cases hs : rsc k with
  | true => rfl
  | false => exact h k hs
theorem RK_sc {C N M : Mem} (h : ∀ k, rsc k = false → N k = M k) (q : RK C M) : RK C N := by rw [rsc_eq h]; exact q
theorem RP_sc {C M N N' : Mem} (h : ∀ k, rsc k = false → N' k = N k) (q : RP C M N) : RP C M N' := by
  refine ⟨?_, fun k hk => ?_⟩
  · rw [rsc_eq h]; exact q.1
  · rw [h k (by unfold rsc; simp only [Bool.and_eq_false_iff]; left; exact Bool.eq_false_iff.mpr (fun z => by have := Nat.le_of_ble_eq_true z; omega))]; exact q.2 k hk
theorem IV_ce {C' C N : Mem} (h : CE C' C) (q : IV C N) : IV C' N := by rw [CE_eq h]; exact q
set_option maxRecDepth 100000 in
set_option maxHeartbeats 4000000 in
theorem sem_X8_has {C M : Mem} (h : RF C M) {t : Nat} (ht : t < cn (C 44 6)) {tone : Int32} : Sem mX8_has SH [.ref 58, .int (nI t), .int tone] M (PD SH (some (.int (b2 (hpN C t tone)))) (M)) := by
  have q3 := h.1.nt6
  refine Sem_of rfl (fun G => (Nat.le_of_ble_eq_true rfl)) (fun G => ?_)
  refine Bd_aload_0 (pc := 0) dX8_has_0 ?_
  refine Bd_getR (j := 0) ck8 (pc := 1) dX8_has_1 k_786 rfl (Nat.le_of_ble_eq_true rfl) rfl ?_
  refine Bd_bipush (v := 6) (pc := 4) dX8_has_4 (by decide) ?_
  refine Bd_iload_1 (pc := 6) dX8_has_6 ?_
  refine Bd_iadd (pc := 7) dX8_has_7 ?_
  refine Bd_ialdc (j := 6 + t) (by rw [ti6 t (by omega)]; exact nI_clamp (by omega)) (pc := 8) dX8_has_8 rfl (by rw [ti6 t (by omega)]; exact vpi (by omega) (by omega)) ?_
  rw [(h.2.1.2.2.2.1 t ht).2]
  refine Bd_iload_2 (pc := 9) dX8_has_9 ?_
  refine Bd_ishr (pc := 10) dX8_has_10 ?_
  refine Bd_iconst (v := 1) (pc := 11) dX8_has_11 (by decide) ?_
  refine Bd_iand (pc := 12) dX8_has_12 ?_
  refine Bd_iconst (v := 1) (pc := 13) dX8_has_13 (by decide) ?_
  refine Bd_icmp_ne (t := 21) (pc := 14) dX8_has_14 (by decide) (fun b14 => ?_) (fun b14 => ?_)
  · refine Bd_iconst (v := 0) (pc := 21) dX8_has_21 (by decide) ?_
    refine Bd_zret (pc := 22) dX8_has_22 rfl rfl ?_
    exact PD_i (b2_f (fun z => b14 (and1'.mpr z))) rfl
  · refine Bd_iconst (v := 1) (pc := 17) dX8_has_17 (by decide) ?_
    refine Bd_goto (t := 22) (pc := 18) dX8_has_18 (by decide) ?_
    refine Bd_zret (pc := 22) dX8_has_22 rfl rfl ?_
    exact PD_i (b2_t (and1'.mp b14)) rfl
set_option maxRecDepth 100000 in
set_option maxHeartbeats 4000000 in
theorem sem_takesG {C M : Mem} (w : WF C) (e2 : M 60 2 = C 45 2) (e12 : M 59 12 = C 45 4) (e13 : M 59 13 = C 45 5) {a b : Int32} (ha : c81 a) (hb : c81 b) : Sem mX8_takesOf SH [.ref 58, .int a, .int b] M (PD SH (some (.int (sdF C a b))) (M)) := by
  refine Sem_of rfl (fun G => (Nat.le_of_ble_eq_true rfl)) (fun G => ?_)
  refine Bd_aload_0 (pc := 0) dX8_takesOf_0 ?_
  refine Bd_getR (j := 1) ck8 (pc := 1) dX8_takesOf_1 k_787 rfl (Nat.le_of_ble_eq_true rfl) rfl ?_
  refine Bd_iconst (v := 2) (pc := 4) dX8_takesOf_4 (by decide) ?_
  refine Bd_ialdc (j := 2) rfl (pc := 5) dX8_takesOf_5 rfl (by unfold vp_in; decide) ?_
  refine Bd_iload_1 (pc := 6) dX8_takesOf_6 ?_
  refine Bd_iload_2 (pc := 7) dX8_takesOf_7 ?_
  refine Bd_callS2i (cd := mX8_farOf) (pc := 8) dX8_takesOf_8 k_1024 v_X8_farOf ⟨(Nat.le_of_ble_eq_true rfl), (Nat.le_of_ble_eq_true rfl)⟩ sem_X8_farOf (Nat.le_of_ble_eq_true rfl) ?_
  refine Bd_imul (pc := 11) dX8_takesOf_11 ?_
  refine Bd_iload_2 (pc := 12) dX8_takesOf_12 ?_
  refine Bd_bipush (v := 9) (pc := 13) dX8_takesOf_13 (by decide) ?_
  refine Bd_irem (pc := 15) dX8_takesOf_15 (by decide) ?_
  refine Bd_iload_1 (pc := 16) dX8_takesOf_16 ?_
  refine Bd_bipush (v := 9) (pc := 17) dX8_takesOf_17 (by decide) ?_
  refine Bd_irem (pc := 19) dX8_takesOf_19 (by decide) ?_
  refine Bd_isub (pc := 20) dX8_takesOf_20 ?_
  refine Bd_aload_0 (pc := 21) dX8_takesOf_21 ?_
  refine Bd_getR (j := 0) ck8 (pc := 22) dX8_takesOf_22 k_786 rfl (Nat.le_of_ble_eq_true rfl) rfl ?_
  refine Bd_bipush (v := 12) (pc := 25) dX8_takesOf_25 (by decide) ?_
  refine Bd_ialdc (j := 12) rfl (pc := 27) dX8_takesOf_27 rfl (by unfold vp_in; decide) ?_
  refine Bd_callS2i (cd := mX8_against) (pc := 28) dX8_takesOf_28 k_1030 v_X8_against ⟨(Nat.le_of_ble_eq_true rfl), (Nat.le_of_ble_eq_true rfl)⟩ sem_X8_against (Nat.le_of_ble_eq_true rfl) ?_
  refine Bd_iadd (pc := 31) dX8_takesOf_31 ?_
  refine Bd_iload_2 (pc := 32) dX8_takesOf_32 ?_
  refine Bd_bipush (v := 9) (pc := 33) dX8_takesOf_33 (by decide) ?_
  refine Bd_idiv (pc := 35) dX8_takesOf_35 (by decide) ?_
  refine Bd_iload_1 (pc := 36) dX8_takesOf_36 ?_
  refine Bd_bipush (v := 9) (pc := 37) dX8_takesOf_37 (by decide) ?_
  refine Bd_idiv (pc := 39) dX8_takesOf_39 (by decide) ?_
  refine Bd_isub (pc := 40) dX8_takesOf_40 ?_
  refine Bd_aload_0 (pc := 41) dX8_takesOf_41 ?_
  refine Bd_getR (j := 0) ck8 (pc := 42) dX8_takesOf_42 k_786 rfl (Nat.le_of_ble_eq_true rfl) rfl ?_
  refine Bd_bipush (v := 13) (pc := 45) dX8_takesOf_45 (by decide) ?_
  refine Bd_ialdc (j := 13) rfl (pc := 47) dX8_takesOf_47 rfl (by unfold vp_in; decide) ?_
  refine Bd_callS2i (cd := mX8_against) (pc := 48) dX8_takesOf_48 k_1030 v_X8_against ⟨(Nat.le_of_ble_eq_true rfl), (Nat.le_of_ble_eq_true rfl)⟩ sem_X8_against (Nat.le_of_ble_eq_true rfl) ?_
  refine Bd_iadd (pc := 51) dX8_takesOf_51 ?_
  refine Bd_iret (pc := 52) dX8_takesOf_52 rfl ?_
  exact PD_i (by
    rw [e2, e12, e13, ra_ag (bt_sub8 (c81_b hb).1 (c81_b ha).1) w.wd.1, ra_ag (bt_sub8 (c81_b hb).2 (c81_b ha).2) w.wd.2, sdF, Int32.add_assoc]) rfl
def spM (M C : Mem) (ch : Nat → Int32) (c l : Int32) : Nat → Mem
  | 0 => M
  | i + 1 => puM (spM M C ch c l i) i (ch i) (C 49 i + l - sdF C (C 46 (cn (ch i))) c) (C 50 i)
theorem spM_ne {M C : Mem} {ch : Nat → Int32} {c l : Int32} {k : Nat} (h : k ≠ 59) : ∀ i, spM M C ch c l i k = M k
  | 0 => rfl
  | i + 1 => by unfold spM; rw [puM_ne h]; exact spM_ne h i
theorem spM_o {M C : Mem} {ch : Nat → Int32} {c l : Int32} {j : Nat} : ∀ i, i ≤ 12 → (j < 14 ∨ 50 ≤ j) → spM M C ch c l i 59 j = M 59 j
  | 0, _, _ => rfl
  | i + 1, hi, hj => by unfold spM; rw [puM_o (by omega) (by omega) (by omega)]; exact spM_o i (by omega) hj
theorem spM_v {M C : Mem} {ch : Nat → Int32} {c l : Int32} : ∀ i j, j < i → spM M C ch c l i 59 (14 + 3 * j) = ch j ∧ spM M C ch c l i 59 (15 + 3 * j) = C 49 j + l - sdF C (C 46 (cn (ch j))) c ∧ spM M C ch c l i 59 (16 + 3 * j) = C 50 j
  | 0, j, h => absurd h (Nat.not_lt_zero j)
  | i + 1, j, h => by
    unfold spM
    by_cases z : j = i
    · subst z; exact ⟨puM_0, puM_1, puM_2⟩
    · rw [puM_o (by omega) (by omega) (by omega), puM_o (by omega) (by omega) (by omega), puM_o (by omega) (by omega) (by omega)]
      exact spM_v i j (by omega)
theorem IV_soon {C C' N : Mem} (h : RK C N) {ch : Nat → Int32} {c l : Int32} (hl : l = lcG C ch c (cn (C 44 8))) (hp : PU C ch c C') : IV C' (updM (updM (spM N C ch c l (cn (C 44 8))) 59 86 (C 44 8)) 59 112 0) := by
  obtain ⟨p1, p2, p3, p4⟩ := hp
  have n12 := h.1.nn12
  have n6 := h.1.nt6
  have ce : CE C' (fun k => if k = 43 then C 43 else C' k) := fun k hk => by
    have : k ≠ 43 := fun z => by rw [z] at hk; exact absurd hk (by decide)
    simp only [if_neg this]
  refine IV_ce ce ?_
  have e : ∀ k, k ≠ 59 → updM (updM (spM N C ch c l (cn (C 44 8))) 59 86 (C 44 8)) 59 112 0 k = N k := fun k hk => by rw [updM_ne hk, updM_ne hk, spM_ne hk]
  have g : ∀ j, j ≠ 86 → j ≠ 112 → updM (updM (spM N C ch c l (cn (C 44 8))) 59 86 (C 44 8)) 59 112 0 59 j = spM N C ch c l (cn (C 44 8)) 59 j := fun j h1 h2 => by rw [updM_eq, upd_ne h2, updM_eq, upd_ne h1]
  have hc : ∀ k, (k < 5 ∨ 9 ≤ k) → (fun k => if k = 43 then C 43 else C' k) k = C k := fun k hk => by
    show (if k = 43 then C 43 else C' k) = C k
    by_cases z : k = 43
    · rw [if_pos z, z]
    · rw [if_neg z]; exact p4 k (by omega) (by omega) (by omega) (by omega) z
  refine IV_pg0 h.2.1 e (fun j hj => by rw [g j (by omega) (by omega), spM_o _ n12 (by omega)]) (fun k hk => hc k (by omega)) (IVl_hi h.2.1.1 e (fun j hj => by rw [g j (by omega) (by omega), spM_o _ n12 (by omega)]) (by rw [g 113 (by decide) (by decide), spM_o _ n12 (by omega)]) (fun k hk => hc k (by omega)) n6) ?_
  refine ⟨by rw [updM_eq, upd_ne (by decide), updM_eq]; exact p1.symm, fun i hi => ?_, by rw [updM_eq]; exact p2.symm, fun i hi => ?_⟩
  · have hi : i < cn (C' 5 4) := hi
    rw [p1] at hi
    have q := p3 i hi
    have s := spM_v (M := N) (C := C) (ch := ch) (c := c) (l := l) (cn (C 44 8)) i hi
    rw [show 0 + 14 + 3 * i = 14 + 3 * i by omega, show 0 + 15 + 3 * i = 15 + 3 * i by omega, show 0 + 16 + 3 * i = 16 + 3 * i by omega, g _ (by omega) (by omega), g _ (by omega) (by omega), g _ (by omega) (by omega), s.1, s.2.1, s.2.2]
    exact ⟨q.1.symm, by rw [hl]; exact q.2.1.symm, q.2.2.symm⟩
  · have hi : i < cn (C' 5 5) := hi
    rw [p2] at hi
    exact absurd hi (Nat.not_lt_zero i)
set_option maxRecDepth 100000 in
set_option maxHeartbeats 4000000 in
theorem sem_X8_soonest {C M : Mem} (h : RK C M) {ch : Nat → Int32} (hv : ∀ i, i < cn (C 44 8) → ∃ t, t < cn (C 44 6) ∧ ch i = nI t) (hch : ∀ i, i < cn (C 44 8) → M 70 i = ch i) {c : Int32} (hc : c81 c) : Sem mX8_soonest SH [.ref 58, .int c] M (RI SH (fun r N => r = lcG C ch c (cn (C 44 8)) ∧ ∀ C', PU C ch c C' → RP C' M N)) := by
  have q2 := h.1.nn12
  have q3 := h.1.nt6
  have ht : ∀ i, i < cn (C 44 8) → cn (ch i) < cn (C 44 6) := fun i hi => by obtain ⟨t, t1, t2⟩ := hv i hi; rw [t2, show cn (nI t) = t from nI_clamp (by omega)]; exact t1
  have hcell : ∀ i, i < cn (C 44 8) → c81 (C 46 (cn (ch i))) := fun i hi => h.1.tc (ht i hi)
  have hcM : ∀ i, i < cn (C 44 8) → M 59 (cn (ch i)) = C 46 (cn (ch i)) := fun i hi => (h.2.1.1.2.2.2.1 _ (ht i hi)).1
  have hcc : ∀ i, i < cn (C 44 8) → spM M C ch c (lcG C ch c (cn (C 44 8))) i 59 (cn (ch i)) = C 46 (cn (ch i)) := fun i hi => by have := ht i hi; rw [spM_o i (by omega) (by omega)]; exact hcM i hi
  refine Sem_of rfl (fun G => (Nat.le_of_ble_eq_true rfl)) (fun G => ?_)
  refine Bd_iconst (v := 0) (pc := 0) dX8_soonest_0 (by decide) ?_
  refine Bd_istore_2 (pc := 1) dX8_soonest_1 (Nat.le_of_ble_eq_true rfl) rfl ?_
  refine Bd_iconst (v := 0) (pc := 2) dX8_soonest_2 (by decide) ?_
  refine Bd_istore_3 (pc := 3) dX8_soonest_3 (Nat.le_of_ble_eq_true rfl) rfl ?_
  refine Bd_nx (L' := (fun i => [some (.ref 58), some (.int c), some (.int (lcG C ch c i)), some (.int (nI i)), none]) 0) ?_ (by repeat (first | exact True.intro | refine And.intro rfl ?_))
  refine Bd_for (pc := 4) (c := (cn (C 44 8))) (fun i => [some (.ref 58), some (.int c), some (.int (lcG C ch c i)), some (.int (nI i)), none]) (fun _ => M) (fun _ => True) (fun ivi => ?_) (fun i hi ivi ihi => ?_) trivial
  · refine Bd_iload_3 (pc := 4) dX8_soonest_4 ?_
    refine Bd_aload_0 (pc := 5) dX8_soonest_5 ?_
    refine Bd_getI (j := 5) ck8 (pc := 6) dX8_soonest_6 k_791 rfl (Nat.le_of_ble_eq_true rfl) rfl ?_
    refine Bd_icmp_ge (t := 60) (pc := 9) dX8_soonest_9 (by decide) (fun b9 => ?_) (fun b9 => (show False from lf_x h.rf.nn' b9).elim)
    refine Bd_iconst (v := 0) (pc := 60) dX8_soonest_60 (by decide) ?_
    refine Bd_istore_3 (pc := 61) dX8_soonest_61 (Nat.le_of_ble_eq_true rfl) rfl ?_
    refine Bd_nx (L' := (fun i => [some (.ref 58), some (.int c), some (.int (lcG C ch c (cn (C 44 8)))), some (.int (nI i)), none]) 0) ?_ (by repeat (first | exact True.intro | refine And.intro rfl ?_))
    refine Bd_for (pc := 62) (c := (cn (C 44 8))) (fun i => [some (.ref 58), some (.int c), some (.int (lcG C ch c (cn (C 44 8)))), some (.int (nI i)), none]) (fun i => spM M C ch c (lcG C ch c (cn (C 44 8))) i) (fun _ => True) (fun ivi => ?_) (fun i hi ivi ihi => ?_) trivial
    · refine Bd_iload_3 (pc := 62) dX8_soonest_62 ?_
      refine Bd_aload_0 (pc := 63) dX8_soonest_63 ?_
      refine Bd_getI (j := 5) ck8 (pc := 64) dX8_soonest_64 k_791 rfl (Nat.le_of_ble_eq_true rfl) rfl ?_
      refine Bd_icmp_ge (t := 126) (pc := 67) dX8_soonest_67 (by decide) (fun b67 => ?_) (fun b67 => (show False from lf_x (show _ = nI (cn (C 44 8)) from by rw [spM_ne (by decide)]; exact h.rf.nn') b67).elim)
      refine Bd_aload_0 (pc := 126) dX8_soonest_126 ?_
      refine Bd_getR (j := 0) ck8 (pc := 127) dX8_soonest_127 k_786 rfl (Nat.le_of_ble_eq_true rfl) rfl ?_
      refine Bd_bipush (v := 86) (pc := 130) dX8_soonest_130 (by decide) ?_
      refine Bd_aload_0 (pc := 132) dX8_soonest_132 ?_
      refine Bd_getI (j := 5) ck8 (pc := 133) dX8_soonest_133 k_791 rfl (Nat.le_of_ble_eq_true rfl) rfl ?_
      rw [spM_ne (k := 58) (by decide), h.rf.n5]
      refine Bd_iastc (j := 86) rfl (pc := 136) dX8_soonest_136 rfl (by unfold vp_in; decide) ?_
      refine Bd_aload_0 (pc := 137) dX8_soonest_137 ?_
      refine Bd_getR (j := 0) ck8 (pc := 138) dX8_soonest_138 k_786 rfl (Nat.le_of_ble_eq_true rfl) rfl ?_
      refine Bd_bipush (v := 112) (pc := 141) dX8_soonest_141 (by decide) ?_
      refine Bd_iconst (v := 0) (pc := 143) dX8_soonest_143 (by decide) ?_
      refine Bd_iastc (j := 112) rfl (pc := 144) dX8_soonest_144 rfl (by unfold vp_in; decide) ?_
      refine Bd_iload_2 (pc := 145) dX8_soonest_145 ?_
      refine Bd_iret (pc := 146) dX8_soonest_146 rfl ?_
      exact ⟨_, rfl, rfl, rfl, fun C' hp => ⟨IV_soon h rfl hp, fun k hk => by rw [updM_ne (by omega), updM_ne (by omega), spM_ne (by omega)]⟩⟩
    · refine Bd_iload_3 (pc := 62) dX8_soonest_62 ?_
      refine Bd_aload_0 (pc := 63) dX8_soonest_63 ?_
      refine Bd_getI (j := 5) ck8 (pc := 64) dX8_soonest_64 k_791 rfl (Nat.le_of_ble_eq_true rfl) rfl ?_
      refine Bd_icmp_ge (t := 126) (pc := 67) dX8_soonest_67 (by decide) (fun b67 => (show False from lf_s (show _ = nI (cn (C 44 8)) from by rw [spM_ne (by decide)]; exact h.rf.nn') (by omega) hi b67).elim) (fun b67 => ?_)
      refine Bd_aload_0 (pc := 70) dX8_soonest_70 ?_
      refine Bd_iload_3 (pc := 71) dX8_soonest_71 ?_
      refine Bd_aload_0 (pc := 72) dX8_soonest_72 ?_
      refine Bd_getR (j := 28) ck8 (pc := 73) dX8_soonest_73 k_814 rfl (Nat.le_of_ble_eq_true rfl) rfl ?_
      refine Bd_iload_3 (pc := 76) dX8_soonest_76 ?_
      refine Bd_ialdc (j := i) (nI_clamp (by omega)) (pc := 77) dX8_soonest_77 rfl (vpi (by omega) (by omega)) ?_
      rw [spM_ne (k := 70) (by decide), hch i hi]
      refine Bd_aload_0 (pc := 78) dX8_soonest_78 ?_
      refine Bd_getR (j := 4) ck8 (pc := 79) dX8_soonest_79 k_790 rfl (Nat.le_of_ble_eq_true rfl) rfl ?_
      refine Bd_iconst (v := 2) (pc := 82) dX8_soonest_82 (by decide) ?_
      refine Bd_iload_3 (pc := 83) dX8_soonest_83 ?_
      refine Bd_imul (pc := 84) dX8_soonest_84 ?_
      refine Bd_ialdc (j := 2 * i) (by rw [tn2 i (by omega)]; exact nI_clamp (by omega)) (pc := 85) dX8_soonest_85 rfl (by rw [tn2 i (by omega)]; exact vpi (by omega) (by omega)) ?_
      rw [spM_ne (k := 62) (by decide), h.rf.nb' hi]
      refine Bd_iload_2 (pc := 86) dX8_soonest_86 ?_
      refine Bd_iadd (pc := 87) dX8_soonest_87 ?_
      refine Bd_aload_0 (pc := 88) dX8_soonest_88 ?_
      refine Bd_aload_0 (pc := 89) dX8_soonest_89 ?_
      refine Bd_getR (j := 0) ck8 (pc := 90) dX8_soonest_90 k_786 rfl (Nat.le_of_ble_eq_true rfl) rfl ?_
      refine Bd_iconst (v := 0) (pc := 93) dX8_soonest_93 (by decide) ?_
      refine Bd_aload_0 (pc := 94) dX8_soonest_94 ?_
      refine Bd_getR (j := 28) ck8 (pc := 95) dX8_soonest_95 k_814 rfl (Nat.le_of_ble_eq_true rfl) rfl ?_
      refine Bd_iload_3 (pc := 98) dX8_soonest_98 ?_
      refine Bd_ialdc (j := i) (nI_clamp (by omega)) (pc := 99) dX8_soonest_99 rfl (vpi (by omega) (by omega)) ?_
      refine Bd_iadd (pc := 100) dX8_soonest_100 ?_
      refine Bd_ialdc (j := cn (ch i)) (by rw [Int32.zero_add, spM_ne (k := 70) (by decide), hch i hi]) (pc := 101) dX8_soonest_101 rfl (by rw [Int32.zero_add, spM_ne (k := 70) (by decide), hch i hi]; obtain ⟨t, t1, t2⟩ := hv i hi; rw [t2]; exact vpi (by omega) (by omega)) ?_
      rw [hcc i hi]
      refine Bd_iload_1 (pc := 102) dX8_soonest_102 ?_
      refine Bd_callV2i (cd := mX8_takesOf) (pc := 103) dX8_soonest_103 k_1020 v_X8_takesOf ⟨(Nat.le_of_ble_eq_true rfl), (Nat.le_of_ble_eq_true rfl)⟩ rfl rfl (sem_takesG h.1 (by rw [spM_ne (by decide)]; exact h.2.1.1.1 2 (by decide)) (by rw [spM_o _ (by omega) (by omega)]; exact h.wd.1) (by rw [spM_o _ (by omega) (by omega)]; exact h.wd.2) (hcell i hi) hc) (Nat.le_of_ble_eq_true rfl) ?_
      refine Bd_isub (pc := 106) dX8_soonest_106 ?_
      refine Bd_aload_0 (pc := 107) dX8_soonest_107 ?_
      refine Bd_getR (j := 4) ck8 (pc := 108) dX8_soonest_108 k_790 rfl (Nat.le_of_ble_eq_true rfl) rfl ?_
      refine Bd_iconst (v := 2) (pc := 111) dX8_soonest_111 (by decide) ?_
      refine Bd_iload_3 (pc := 112) dX8_soonest_112 ?_
      refine Bd_imul (pc := 113) dX8_soonest_113 ?_
      refine Bd_iconst (v := 1) (pc := 114) dX8_soonest_114 (by decide) ?_
      refine Bd_iadd (pc := 115) dX8_soonest_115 ?_
      refine Bd_ialdc (j := 2 * i + 1) (by rw [tn3 i (by omega)]; exact nI_clamp (by omega)) (pc := 116) dX8_soonest_116 rfl (by rw [tn3 i (by omega)]; exact vpi (by omega) (by omega)) ?_
      rw [spM_ne (k := 62) (by decide), h.rf.nt' hi]
      refine Bd_callV4v (cd := mX8_puts) (pc := 117) dX8_soonest_117 k_1043 v_X8_puts ⟨(Nat.le_of_ble_eq_true rfl), (Nat.le_of_ble_eq_true rfl)⟩ rfl rfl (sem_X8_puts (n := i) (by omega)) (Nat.le_of_ble_eq_true rfl) ?_
      refine Bd_iinc_3 (pc := 120) dX8_soonest_120 (show _ + Int32.ofInt 1 = _ + 1 from rfl) (Nat.le_of_ble_eq_true rfl) rfl ?_
      refine Bd_goto (t := 62) (pc := 123) dX8_soonest_123 (by decide) ?_
      exact Bd_nx (ihi trivial) (by simp [wkP, nI_succ])
  · refine Bd_iload_3 (pc := 4) dX8_soonest_4 ?_
    refine Bd_aload_0 (pc := 5) dX8_soonest_5 ?_
    refine Bd_getI (j := 5) ck8 (pc := 6) dX8_soonest_6 k_791 rfl (Nat.le_of_ble_eq_true rfl) rfl ?_
    refine Bd_icmp_ge (t := 60) (pc := 9) dX8_soonest_9 (by decide) (fun b9 => (show False from lf_s h.rf.nn' (by omega) hi b9).elim) (fun b9 => ?_)
    refine Bd_aload_0 (pc := 12) dX8_soonest_12 ?_
    refine Bd_aload_0 (pc := 13) dX8_soonest_13 ?_
    refine Bd_getR (j := 0) ck8 (pc := 14) dX8_soonest_14 k_786 rfl (Nat.le_of_ble_eq_true rfl) rfl ?_
    refine Bd_iconst (v := 0) (pc := 17) dX8_soonest_17 (by decide) ?_
    refine Bd_aload_0 (pc := 18) dX8_soonest_18 ?_
    refine Bd_getR (j := 28) ck8 (pc := 19) dX8_soonest_19 k_814 rfl (Nat.le_of_ble_eq_true rfl) rfl ?_
    refine Bd_iload_3 (pc := 22) dX8_soonest_22 ?_
    refine Bd_ialdc (j := i) (nI_clamp (by omega)) (pc := 23) dX8_soonest_23 rfl (vpi (by omega) (by omega)) ?_
    refine Bd_iadd (pc := 24) dX8_soonest_24 ?_
    refine Bd_ialdc (j := cn (ch i)) (by rw [Int32.zero_add, hch i hi]) (pc := 25) dX8_soonest_25 rfl (by rw [Int32.zero_add, hch i hi]; obtain ⟨t, t1, t2⟩ := hv i hi; rw [t2]; exact vpi (by omega) (by omega)) ?_
    rw [hcM i hi]
    refine Bd_iload_1 (pc := 26) dX8_soonest_26 ?_
    refine Bd_callV2i (cd := mX8_takesOf) (pc := 27) dX8_soonest_27 k_1020 v_X8_takesOf ⟨(Nat.le_of_ble_eq_true rfl), (Nat.le_of_ble_eq_true rfl)⟩ rfl rfl (sem_X8_takesOf h (hcell i hi) hc) (Nat.le_of_ble_eq_true rfl) ?_
    refine Bd_aload_0 (pc := 30) dX8_soonest_30 ?_
    refine Bd_getR (j := 4) ck8 (pc := 31) dX8_soonest_31 k_790 rfl (Nat.le_of_ble_eq_true rfl) rfl ?_
    refine Bd_iconst (v := 2) (pc := 34) dX8_soonest_34 (by decide) ?_
    refine Bd_iload_3 (pc := 35) dX8_soonest_35 ?_
    refine Bd_imul (pc := 36) dX8_soonest_36 ?_
    refine Bd_ialdc (j := 2 * i) (by rw [tn2 i (by omega)]; exact nI_clamp (by omega)) (pc := 37) dX8_soonest_37 rfl (by rw [tn2 i (by omega)]; exact vpi (by omega) (by omega)) ?_
    rw [h.rf.nb' hi]
    refine Bd_isub (pc := 38) dX8_soonest_38 ?_
    refine Bd_istore_4 (pc := 39) dX8_soonest_39 (Nat.le_of_ble_eq_true rfl) rfl ?_
    refine Bd_iload_4 (pc := 41) dX8_soonest_41 ?_
    refine Bd_iload_2 (pc := 43) dX8_soonest_43 ?_
    refine Bd_icmp_le (t := 52) (pc := 44) dX8_soonest_44 (by decide) (fun b44 => ?_) (fun b44 => ?_)
    · refine Bd_iload_2 (pc := 52) dX8_soonest_52 ?_
      refine Bd_istore_2 (pc := 53) dX8_soonest_53 (Nat.le_of_ble_eq_true rfl) rfl ?_
      refine Bd_iinc_3 (pc := 54) dX8_soonest_54 (show _ + Int32.ofInt 1 = _ + 1 from rfl) (Nat.le_of_ble_eq_true rfl) rfl ?_
      refine Bd_goto (t := 4) (pc := 57) dX8_soonest_57 (by decide) ?_
      exact Bd_nx (ihi trivial) ⟨rfl, rfl, congrArg (fun x => some (Value.int x)) (if_neg (Int32.not_lt.mpr b44)).symm, congrArg (fun x => some (Value.int x)) (nI_succ i).symm, trivial⟩
    · refine Bd_iload_4 (pc := 47) dX8_soonest_47 ?_
      refine Bd_goto (t := 53) (pc := 49) dX8_soonest_49 (by decide) ?_
      refine Bd_istore_2 (pc := 53) dX8_soonest_53 (Nat.le_of_ble_eq_true rfl) rfl ?_
      refine Bd_iinc_3 (pc := 54) dX8_soonest_54 (show _ + Int32.ofInt 1 = _ + 1 from rfl) (Nat.le_of_ble_eq_true rfl) rfl ?_
      refine Bd_goto (t := 4) (pc := 57) dX8_soonest_57 (by decide) ?_
      exact Bd_nx (ihi trivial) ⟨rfl, rfl, congrArg (fun x => some (Value.int x)) (if_pos (Int32.not_le.mp b44)).symm, congrArg (fun x => some (Value.int x)) (nI_succ i).symm, trivial⟩
theorem stF_i {C : Mem} (h : WF C) {tone c : Int32} (hc : c81 c) : ∀ n, n ≤ cn (C 44 6) → ((stF C tone c n).1 = -4 ∧ (stF C tone c n).2 = 1000000) ∨ ∃ t, t < n ∧ (stF C tone c n).1 = nI t ∧ (stF C tone c n).2 = sdF C (C 46 t) c
  | 0, _ => Or.inl ⟨rfl, rfl⟩
  | n + 1, hn => by
    have ih := stF_i h (tone := tone) hc n (by omega)
    have ih' : ((stF C tone c n).1 = -4 ∧ (stF C tone c n).2 = 1000000) ∨ ∃ t, t < n + 1 ∧ (stF C tone c n).1 = nI t ∧ (stF C tone c n).2 = sdF C (C 46 t) c := ih.imp id (fun ⟨t, h1, h2⟩ => ⟨t, by omega, h2⟩)
    unfold stF
    split
    · split
      · exact ih'
      · exact Or.inr ⟨n, by omega, rfl, rfl⟩
    · exact ih'
theorem sd_lt {C : Mem} (h : WF C) {a b : Int32} (ha : c81 a) (hb : c81 b) : ¬ 1000000 ≤ sdF C a b := by
  have q := sdB h ha hb
  rw [Int32.le_iff_toInt_le, show (1000000 : Int32).toInt = 1000000 from by decide +kernel]
  have := q.2
  omega
/-- the next best tower, as the reference asks -/
theorem st_s {C : Mem} (h : WF C) {tone c : Int32} (hc : c81 c) {n : Nat} (hn : n < cn (C 44 6)) : (stF C tone c (n + 1)).1 = (if hpN C n tone then if (stF C tone c n).1 = -4 then nI n else if sdF C (C 46 (cn (stF C tone c n).1)) c ≤ sdF C (C 46 n) c then (stF C tone c n).1 else nI n else (stF C tone c n).1) := by
  have n6 := h.nt6
  show (if hpN C n tone then _ else _ : Int32 × Int32).1 = _
  by_cases hp : hpN C n tone
  · rw [if_pos hp, if_pos hp]
    rcases stF_i h (tone := tone) hc n (by omega) with ⟨q1, q2⟩ | ⟨t, t1, q1, q2⟩
    · rw [if_pos q1, q2, if_neg (sd_lt h (h.tc hn) hc)]
    · rw [if_neg (show ¬ (stF C tone c n).1 = -4 from by rw [q1]; exact nI_n4 (by omega)), q2, q1, show cn (nI t) = t from nI_clamp (by omega)]
      by_cases z : sdF C (C 46 t) c ≤ sdF C (C 46 n) c
      · rw [if_pos z, if_pos z]; exact q1
      · rw [if_neg z, if_neg z]
  · rw [if_neg hp, if_neg hp]
def prM (M C : Mem) (c : Int32) : Nat → Mem
  | 0 => M
  | i + 1 => updM (prM M C c i) 70 i (chF C c i)
theorem prM_ne {M C : Mem} {c : Int32} {k : Nat} (h : k ≠ 70) : ∀ i, prM M C c i k = M k
  | 0 => rfl
  | i + 1 => by unfold prM; rw [updM_ne h]; exact prM_ne h i
theorem prM_v {M C : Mem} {c : Int32} : ∀ i j, j < i → prM M C c i 70 j = chF C c j
  | 0, j, h => absurd h (Nat.not_lt_zero j)
  | i + 1, j, h => by
    unfold prM; rw [updM_eq]
    by_cases z : j = i
    · subst z; exact upd_eq
    · rw [upd_ne z]; exact prM_v i j (by omega)
theorem prM_sc {M C : Mem} {c : Int32} {i k : Nat} (h : rsc k = false) : prM M C c i k = M k := prM_ne (fun z => by rw [z] at h; exact absurd h (by decide)) i
theorem ch_4 {C : Mem} (h : WF C) {c : Int32} {i : Nat} : chF C c i = -4 ↔ ¬ 0 ≤ chF C c i := by
  have n6 := h.nt6
  rcases stF_r C (C 50 i) c (cn (C 44 6)) h.nt6 with q | ⟨t, t1, q⟩
  · rw [chF, q]; exact ⟨fun _ => by decide, fun _ => rfl⟩
  · rw [chF, q]; exact ⟨fun z => absurd z (nI_n4 (by omega)), fun z => absurd (nI_pos' (by omega)) z⟩
theorem RP_no {C C' M N : Mem} {c : Int32} (hb : ¬ plB C c) (hp : playsR C c C') (q : RP C M N) : RP C' M N := by
  rw [playsR, if_neg (fun z => hb z.2.2)] at hp
  exact ⟨IV_ce (fun k hk => hp k (fun z => by rw [z] at hk; exact absurd hk (by decide))) q.1, q.2⟩
theorem RP_no2 {C C' M N : Mem} {c : Int32} (hb : ¬ (hcF C 45 c ∧ ¬ C 44 8 = 0)) (hp : playsR C c C') (q : RP C M N) : RP C' M N := by
  rw [playsR, if_neg (fun z => hb ⟨z.1, z.2.1⟩)] at hp
  exact ⟨IV_ce (fun k hk => hp k (fun z => by rw [z] at hk; exact absurd hk (by decide))) q.1, q.2⟩
set_option maxRecDepth 100000 in
set_option maxHeartbeats 4000000 in
theorem sem_X8_plays {C M : Mem} (h : RF C M) {c : Int32} : Sem mX8_plays SH [.ref 58, .int c] M (RI SH (fun r N => r = playsV C c ∧ ∀ C', playsR C c C' → RP C' M N)) := by
  have q2 := h.1.nn12
  have q3 := h.1.nt6
  refine Sem_of rfl (fun G => (Nat.le_of_ble_eq_true rfl)) (fun G => ?_)
  refine Bd_aload_0 (pc := 0) dX8_plays_0 ?_
  refine Bd_iload_1 (pc := 1) dX8_plays_1 ?_
  refine Bd_callV1i (cd := mX8_isCell) (pc := 2) dX8_plays_2 k_1012 v_X8_isCell ⟨(Nat.le_of_ble_eq_true rfl), (Nat.le_of_ble_eq_true rfl)⟩ rfl rfl (sem_X8_isCell h) (Nat.le_of_ble_eq_true rfl) ?_
  refine Bd_if_ne (t := 10) (pc := 5) dX8_plays_5 (by decide) (fun b5 => ?_) (fun b5 => ?_)
  · refine Bd_aload_0 (pc := 10) dX8_plays_10 ?_
    refine Bd_getI (j := 5) ck8 (pc := 11) dX8_plays_11 k_791 rfl (Nat.le_of_ble_eq_true rfl) rfl ?_
    refine Bd_if_ne (t := 20) (pc := 14) dX8_plays_14 (by decide) (fun b14 => ?_) (fun b14 => ?_)
    · refine Bd_iconst (v := 0) (pc := 20) dX8_plays_20 (by decide) ?_
      refine Bd_istore_2 (pc := 21) dX8_plays_21 (Nat.le_of_ble_eq_true rfl) rfl ?_
      have hz : ¬ C 44 8 = 0 := fun z => b14 (h.aw.rf.n5.trans z)
      refine Bd_nx (L' := (fun i => [some (.ref 58), some (.int c), some (.int (nI i)), none, none, none]) 0) ?_ (by repeat (first | exact True.intro | refine And.intro rfl ?_))
      refine Bd_for (pc := 22) (c := (cn (C 44 8))) (fun i => [some (.ref 58), some (.int c), some (.int (nI i)), none, none, none]) (fun i => prM (awM M) C c i) (fun i => ∀ j, j < i → 0 ≤ chF C c j) (fun ivi => ?_) (fun i hi ivi ihi => ?_) (fun j hj => absurd hj (Nat.not_lt_zero j))
      · refine Bd_iload_2 (pc := 22) dX8_plays_22 ?_
        refine Bd_aload_0 (pc := 23) dX8_plays_23 ?_
        refine Bd_getI (j := 5) ck8 (pc := 24) dX8_plays_24 k_791 rfl (Nat.le_of_ble_eq_true rfl) rfl ?_
        refine Bd_icmp_ge (t := 142) (pc := 27) dX8_plays_27 (by decide) (fun b27 => ?_) (fun b27 => (show False from lf_x (show _ = nI (cn (C 44 8)) from by rw [prM_ne (by decide)]; exact h.aw.rf.nn') b27).elim)
        refine Bd_aload_0 (pc := 142) dX8_plays_142 ?_
        refine Bd_iload_1 (pc := 143) dX8_plays_143 ?_
        refine Bd_callV1x (cd := mX8_soonest) (pc := 144) dX8_plays_144 k_1084 v_X8_soonest ⟨(Nat.le_of_ble_eq_true rfl), (Nat.le_of_ble_eq_true rfl)⟩ rfl rfl (sem_X8_soonest (RK_sc (fun k hk => prM_sc hk) h.aw) (ch := chF C c) (fun i hi => chF_vp h.1 (ivi i hi)) (fun i hi => prM_v _ _ hi) (b2_n.mp b5).1) (Nat.le_of_ble_eq_true rfl) (fun x144 M144 e144 => ?_)
        refine Bd_iret (pc := 147) dX8_plays_147 rfl ?_
        obtain ⟨e1, e2⟩ := e144
        exact ⟨_, rfl, rfl, by rw [e1, playsV, if_pos (b2_n.mp b5), if_neg hz, if_pos ivi], fun C' hp => by rw [playsR, if_pos ⟨b2_n.mp b5, hz, ivi⟩] at hp; have q := e2 C' hp; exact ⟨q.1, fun k hk => (q.2 k hk).trans ((prM_ne (by omega) _).trans (awM_lt hk))⟩⟩
      · refine Bd_iload_2 (pc := 22) dX8_plays_22 ?_
        refine Bd_aload_0 (pc := 23) dX8_plays_23 ?_
        refine Bd_getI (j := 5) ck8 (pc := 24) dX8_plays_24 k_791 rfl (Nat.le_of_ble_eq_true rfl) rfl ?_
        refine Bd_icmp_ge (t := 142) (pc := 27) dX8_plays_27 (by decide) (fun b27 => (show False from lf_s (show _ = nI (cn (C 44 8)) from by rw [prM_ne (by decide)]; exact h.aw.rf.nn') (by omega) hi b27).elim) (fun b27 => ?_)
        have hK : RK C (prM (awM M) C c i) := RK_sc (fun k hk => prM_sc hk) h.aw
        have hst : ∀ j, j ≤ cn (C 44 6) → ¬ (stF C (C 50 i) c j).1 = -4 → vp_in (stF C (C 50 i) c j).1 480 ∧ c81 (C 46 (cn (stF C (C 50 i) c j).1)) := fun j hj z => by
          rcases stF_i h.1 (tone := C 50 i) (b2_n.mp b5).1 j hj with ⟨y, _⟩ | ⟨t, t1, y, _⟩
          · exact absurd y z
          · rw [y, show cn (nI t) = t from nI_clamp (by omega)]; exact ⟨vpi (by omega) (by omega), h.1.tc (by omega)⟩
        have hsm : ∀ j, j ≤ cn (C 44 6) → ¬ (stF C (C 50 i) c j).1 = -4 → prM (awM M) C c i 59 (cn (stF C (C 50 i) c j).1) = C 46 (cn (stF C (C 50 i) c j).1) := fun j hj z => by
          rcases stF_i h.1 (tone := C 50 i) (b2_n.mp b5).1 j hj with ⟨y, _⟩ | ⟨t, t1, y, _⟩
          · exact absurd y z
          · rw [y, show cn (nI t) = t from nI_clamp (by omega)]; exact (hK.2.1.1.2.2.2.1 t (by omega)).1
        refine Bd_bipush (v := -4) (pc := 30) dX8_plays_30 (by decide) ?_
        refine Bd_istore_3 (pc := 32) dX8_plays_32 (Nat.le_of_ble_eq_true rfl) rfl ?_
        refine Bd_iconst (v := 0) (pc := 33) dX8_plays_33 (by decide) ?_
        refine Bd_istore_4 (pc := 34) dX8_plays_34 (Nat.le_of_ble_eq_true rfl) rfl ?_
        refine Bd_nx (L' := (fun j => [some (.ref 58), some (.int c), some (.int (nI i)), some (.int (stF C (C 50 i) c j).1), some (.int (nI j)), none]) 0) ?_ (by repeat (first | exact True.intro | refine And.intro rfl ?_))
        refine Bd_for (pc := 36) (c := (cn (C 44 6))) (fun j => [some (.ref 58), some (.int c), some (.int (nI i)), some (.int (stF C (C 50 i) c j).1), some (.int (nI j)), none]) (fun _ => prM (awM M) C c i) (fun _ => True) (fun ivj => ?_) (fun j hj ivj ihj => ?_) trivial
        · refine Bd_iload_4 (pc := 36) dX8_plays_36 ?_
          refine Bd_aload_0 (pc := 38) dX8_plays_38 ?_
          refine Bd_getR (j := 0) ck8 (pc := 39) dX8_plays_39 k_786 rfl (Nat.le_of_ble_eq_true rfl) rfl ?_
          refine Bd_bipush (v := 113) (pc := 42) dX8_plays_42 (by decide) ?_
          refine Bd_ialdc (j := 113) rfl (pc := 44) dX8_plays_44 rfl (by unfold vp_in; decide) ?_
          refine Bd_icmp_ge (t := 120) (pc := 45) dX8_plays_45 (by decide) (fun b45 => ?_) (fun b45 => (show False from lf_x (show _ = nI (cn (C 44 6)) from by rw [hK.2.1.1.2.2.1]; exact h.1.nt) b45).elim)
          refine Bd_iload_3 (pc := 120) dX8_plays_120 ?_
          refine Bd_bipush (v := -4) (pc := 121) dX8_plays_121 (by decide) ?_
          refine Bd_icmp_ne (t := 129) (pc := 123) dX8_plays_123 (by decide) (fun b123 => ?_) (fun b123 => ?_)
          · refine Bd_aload_0 (pc := 129) dX8_plays_129 ?_
            refine Bd_getR (j := 28) ck8 (pc := 130) dX8_plays_130 k_814 rfl (Nat.le_of_ble_eq_true rfl) rfl ?_
            refine Bd_iload_2 (pc := 133) dX8_plays_133 ?_
            refine Bd_iload_3 (pc := 134) dX8_plays_134 ?_
            refine Bd_iastc (j := i) (nI_clamp (by omega)) (pc := 135) dX8_plays_135 rfl (vpi (by omega) (by omega)) ?_
            refine Bd_iinc_2 (pc := 136) dX8_plays_136 (show _ + Int32.ofInt 1 = _ + 1 from rfl) (Nat.le_of_ble_eq_true rfl) rfl ?_
            refine Bd_goto (t := 22) (pc := 139) dX8_plays_139 (by decide) ?_
            exact Bd_nx (ihi (fun k hk => by rcases Nat.lt_succ_iff_lt_or_eq.mp hk with q | q; exact ivi k q; rw [q]; exact Classical.byContradiction (fun z => b123 ((ch_4 h.1).mpr z)))) (by simp [wkP, nI_succ])
          · refine Bd_bipush (v := -4) (pc := 126) dX8_plays_126 (by decide) ?_
            refine Bd_iret (pc := 128) dX8_plays_128 rfl ?_
            have hb : ¬ plB C c := fun q => (ch_4 h.1).mp b123 (q i hi)
            exact ⟨_, rfl, rfl, by rw [playsV, if_pos (b2_n.mp b5), if_neg hz, if_neg hb], fun C' hp => RP_no hb hp (RP_sc (fun k hk => prM_sc hk) (RP_aw h))⟩
        · refine Bd_iload_4 (pc := 36) dX8_plays_36 ?_
          refine Bd_aload_0 (pc := 38) dX8_plays_38 ?_
          refine Bd_getR (j := 0) ck8 (pc := 39) dX8_plays_39 k_786 rfl (Nat.le_of_ble_eq_true rfl) rfl ?_
          refine Bd_bipush (v := 113) (pc := 42) dX8_plays_42 (by decide) ?_
          refine Bd_ialdc (j := 113) rfl (pc := 44) dX8_plays_44 rfl (by unfold vp_in; decide) ?_
          refine Bd_icmp_ge (t := 120) (pc := 45) dX8_plays_45 (by decide) (fun b45 => (show False from lf_s (show _ = nI (cn (C 44 6)) from by rw [hK.2.1.1.2.2.1]; exact h.1.nt) (by omega) hj b45).elim) (fun b45 => ?_)
          refine Bd_aload_0 (pc := 48) dX8_plays_48 ?_
          refine Bd_iload_4 (pc := 49) dX8_plays_49 ?_
          refine Bd_aload_0 (pc := 51) dX8_plays_51 ?_
          refine Bd_getR (j := 4) ck8 (pc := 52) dX8_plays_52 k_790 rfl (Nat.le_of_ble_eq_true rfl) rfl ?_
          refine Bd_iconst (v := 2) (pc := 55) dX8_plays_55 (by decide) ?_
          refine Bd_iload_2 (pc := 56) dX8_plays_56 ?_
          refine Bd_imul (pc := 57) dX8_plays_57 ?_
          refine Bd_iconst (v := 1) (pc := 58) dX8_plays_58 (by decide) ?_
          refine Bd_iadd (pc := 59) dX8_plays_59 ?_
          refine Bd_ialdc (j := 2 * i + 1) (by rw [tn3 i (by omega)]; exact nI_clamp (by omega)) (pc := 60) dX8_plays_60 rfl (by rw [tn3 i (by omega)]; exact vpi (by omega) (by omega)) ?_
          rw [hK.rf.nt' hi]
          refine Bd_callV2i (cd := mX8_has) (pc := 61) dX8_plays_61 k_1080 v_X8_has ⟨(Nat.le_of_ble_eq_true rfl), (Nat.le_of_ble_eq_true rfl)⟩ rfl rfl (sem_X8_has hK.rf hj) (Nat.le_of_ble_eq_true rfl) ?_
          refine Bd_istore_5 (pc := 64) dX8_plays_64 (Nat.le_of_ble_eq_true rfl) rfl ?_
          refine Bd_iload_5 (pc := 66) dX8_plays_66 ?_
          refine Bd_if_eq (t := 112) (pc := 68) dX8_plays_68 (by decide) (fun b68 => ?_) (fun b68 => ?_)
          · refine Bd_iload_3 (pc := 112) dX8_plays_112 ?_
            refine Bd_istore_3 (pc := 113) dX8_plays_113 (Nat.le_of_ble_eq_true rfl) rfl ?_
            refine Bd_iinc_4 (pc := 114) dX8_plays_114 (show _ + Int32.ofInt 1 = _ + 1 from rfl) (Nat.le_of_ble_eq_true rfl) rfl ?_
            refine Bd_goto (t := 36) (pc := 117) dX8_plays_117 (by decide) ?_
            have s := st_s h.1 (tone := C 50 i) (b2_n.mp b5).1 hj
            rw [if_neg (b2_0.mp b68)] at s
            exact Bd_nx (ihj trivial) ⟨rfl, rfl, rfl, congrArg (fun x => some (Value.int x)) s.symm, congrArg (fun x => some (Value.int x)) (nI_succ j).symm, trivial⟩
          · refine Bd_iload_3 (pc := 71) dX8_plays_71 ?_
            refine Bd_bipush (v := -4) (pc := 72) dX8_plays_72 (by decide) ?_
            refine Bd_icmp_eq (t := 107) (pc := 74) dX8_plays_74 (by decide) (fun b74 => ?_) (fun b74 => ?_)
            · refine Bd_iload_4 (pc := 107) dX8_plays_107 ?_
              refine Bd_goto (t := 113) (pc := 109) dX8_plays_109 (by decide) ?_
              refine Bd_istore_3 (pc := 113) dX8_plays_113 (Nat.le_of_ble_eq_true rfl) rfl ?_
              refine Bd_iinc_4 (pc := 114) dX8_plays_114 (show _ + Int32.ofInt 1 = _ + 1 from rfl) (Nat.le_of_ble_eq_true rfl) rfl ?_
              refine Bd_goto (t := 36) (pc := 117) dX8_plays_117 (by decide) ?_
              have s := st_s h.1 (tone := C 50 i) (b2_n.mp b5).1 hj
              rw [if_pos (b2_n.mp b68), if_pos b74] at s
              exact Bd_nx (ihj trivial) ⟨rfl, rfl, rfl, congrArg (fun x => some (Value.int x)) s.symm, congrArg (fun x => some (Value.int x)) (nI_succ j).symm, trivial⟩
            · refine Bd_aload_0 (pc := 77) dX8_plays_77 ?_
              refine Bd_aload_0 (pc := 78) dX8_plays_78 ?_
              refine Bd_getR (j := 0) ck8 (pc := 79) dX8_plays_79 k_786 rfl (Nat.le_of_ble_eq_true rfl) rfl ?_
              refine Bd_iconst (v := 0) (pc := 82) dX8_plays_82 (by decide) ?_
              refine Bd_iload_4 (pc := 83) dX8_plays_83 ?_
              refine Bd_iadd (pc := 85) dX8_plays_85 ?_
              refine Bd_ialdc (j := j) (by rw [Int32.zero_add]; exact nI_clamp (by omega)) (pc := 86) dX8_plays_86 rfl (by rw [Int32.zero_add]; exact vpi (by omega) (by omega)) ?_
              rw [(hK.2.1.1.2.2.2.1 j hj).1]
              refine Bd_iload_1 (pc := 87) dX8_plays_87 ?_
              refine Bd_callV2i (cd := mX8_takesOf) (pc := 88) dX8_plays_88 k_1020 v_X8_takesOf ⟨(Nat.le_of_ble_eq_true rfl), (Nat.le_of_ble_eq_true rfl)⟩ rfl rfl (sem_X8_takesOf hK (h.1.tc hj) (b2_n.mp b5).1) (Nat.le_of_ble_eq_true rfl) ?_
              refine Bd_aload_0 (pc := 91) dX8_plays_91 ?_
              refine Bd_aload_0 (pc := 92) dX8_plays_92 ?_
              refine Bd_getR (j := 0) ck8 (pc := 93) dX8_plays_93 k_786 rfl (Nat.le_of_ble_eq_true rfl) rfl ?_
              refine Bd_iconst (v := 0) (pc := 96) dX8_plays_96 (by decide) ?_
              refine Bd_iload_3 (pc := 97) dX8_plays_97 ?_
              refine Bd_iadd (pc := 98) dX8_plays_98 ?_
              refine Bd_ialdc (j := cn (stF C (C 50 i) c j).1) (by rw [Int32.zero_add]) (pc := 99) dX8_plays_99 rfl (by rw [Int32.zero_add]; exact (hst j (by omega) b74).1) ?_
              rw [hsm j (by omega) b74]
              refine Bd_iload_1 (pc := 100) dX8_plays_100 ?_
              refine Bd_callV2i (cd := mX8_takesOf) (pc := 101) dX8_plays_101 k_1020 v_X8_takesOf ⟨(Nat.le_of_ble_eq_true rfl), (Nat.le_of_ble_eq_true rfl)⟩ rfl rfl (sem_X8_takesOf hK (hst j (by omega) b74).2 (b2_n.mp b5).1) (Nat.le_of_ble_eq_true rfl) ?_
              refine Bd_icmp_ge (t := 112) (pc := 104) dX8_plays_104 (by decide) (fun b104 => ?_) (fun b104 => ?_)
              · refine Bd_iload_3 (pc := 112) dX8_plays_112 ?_
                refine Bd_istore_3 (pc := 113) dX8_plays_113 (Nat.le_of_ble_eq_true rfl) rfl ?_
                refine Bd_iinc_4 (pc := 114) dX8_plays_114 (show _ + Int32.ofInt 1 = _ + 1 from rfl) (Nat.le_of_ble_eq_true rfl) rfl ?_
                refine Bd_goto (t := 36) (pc := 117) dX8_plays_117 (by decide) ?_
                have s := st_s h.1 (tone := C 50 i) (b2_n.mp b5).1 hj
                rw [if_pos (b2_n.mp b68), if_neg b74, if_pos b104] at s
                exact Bd_nx (ihj trivial) ⟨rfl, rfl, rfl, congrArg (fun x => some (Value.int x)) s.symm, congrArg (fun x => some (Value.int x)) (nI_succ j).symm, trivial⟩
              · refine Bd_iload_4 (pc := 107) dX8_plays_107 ?_
                refine Bd_goto (t := 113) (pc := 109) dX8_plays_109 (by decide) ?_
                refine Bd_istore_3 (pc := 113) dX8_plays_113 (Nat.le_of_ble_eq_true rfl) rfl ?_
                refine Bd_iinc_4 (pc := 114) dX8_plays_114 (show _ + Int32.ofInt 1 = _ + 1 from rfl) (Nat.le_of_ble_eq_true rfl) rfl ?_
                refine Bd_goto (t := 36) (pc := 117) dX8_plays_117 (by decide) ?_
                have s := st_s h.1 (tone := C 50 i) (b2_n.mp b5).1 hj
                rw [if_pos (b2_n.mp b68), if_neg b74, if_neg b104] at s
                exact Bd_nx (ihj trivial) ⟨rfl, rfl, rfl, congrArg (fun x => some (Value.int x)) s.symm, congrArg (fun x => some (Value.int x)) (nI_succ j).symm, trivial⟩
    · refine Bd_bipush (v := -2) (pc := 17) dX8_plays_17 (by decide) ?_
      refine Bd_iret (pc := 19) dX8_plays_19 rfl ?_
      have hz := h.aw.rf.n5.symm.trans b14
      exact ⟨_, rfl, rfl, by rw [playsV, if_pos (b2_n.mp b5), if_pos hz], fun C' hp => RP_no2 (fun z => z.2 hz) hp (RP_aw h)⟩
  · refine Bd_iconst (v := -1) (pc := 8) dX8_plays_8 (by decide) ?_
    refine Bd_iret (pc := 9) dX8_plays_9 rfl ?_
    exact ⟨_, rfl, rfl, by rw [playsV, if_neg (b2_0.mp b5)], fun C' hp => RP_no2 (fun z => b2_0.mp b5 z.1) hp (RP_aw h)⟩
