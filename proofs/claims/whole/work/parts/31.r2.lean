/-! 31: the reference: public methods without loops -/
/-- after a call of the reference: its rows hold C'; the class's rows are as they were -/
def RP (C' M N : Mem) : Prop := IV C' N ∧ ∀ k, k < 58 → N k = M k
theorem RP_rf {C M : Mem} (h : RF C M) : RP C M M := ⟨h.2, fun _ _ => rfl⟩
theorem awM_lt {M : Mem} {k : Nat} (hk : k < 58) : awM M k = M k := awM_ne (by omega) (by omega)
theorem RP_aw {C M : Mem} (h : RF C M) : RP C M (awM M) := ⟨h.aw.2.1, fun _ hk => awM_lt hk⟩
theorem upd_ne {f : Nat → Int32} {k j : Nat} {v : Int32} (h : j ≠ k) : upd f k v j = f j := by unfold upd; rw [if_neg h]
theorem upd_eq {f : Nat → Int32} {k : Nat} {v : Int32} : upd f k v k = v := by unfold upd; rw [if_pos rfl]
theorem IVbf_c {g g' : Nat → Int32} {p q : Nat} {f5 f6 f7 f8 f9 : Nat → Int32} (hg : ∀ j, q ≤ j → g' j = g j) (hp : q ≤ p + 14) (h : IVbf g p f5 f6 f7 f8 f9) : IVbf g' p f5 f6 f7 f8 f9 := by
  obtain ⟨h1, h2, h3, h4⟩ := h
  exact ⟨by rw [hg _ (by omega)]; exact h1, fun i hi => by rw [hg _ (by omega), hg _ (by omega), hg _ (by omega)]; exact h2 i hi, by rw [hg _ (by omega)]; exact h3, fun i hi => by rw [hg _ (by omega)]; exact h4 i hi⟩
theorem IVi_c {C C' M N : Mem} {k b : Nat} (h : IVi C M k b) (e75 : N 75 = M 75) (e6 : N 58 6 = M 58 6) (hp : ∀ j, 120 ≤ j → N 59 j = M 59 j) (c0 : C' b = C b) (c1 : C' (b + 1) = C (b + 1)) (c2 : C' (b + 2) = C (b + 2)) (c3 : C' (b + 3) = C (b + 3)) (c4 : C' (b + 4) = C (b + 4)) (c5 : C' (b + 5) = C (b + 5)) (c6 : C' (b + 6) = C (b + 6)) (c7 : C' (b + 7) = C (b + 7)) (c44 : C' 44 6 = C 44 6) : IVi C' N k b := by
  obtain ⟨h1, h2⟩ := h
  refine ⟨by rw [e75, c0]; exact h1, fun z => ?_⟩
  rw [c0] at z
  obtain ⟨a1, a2, a3, a4, a5, a6⟩ := h2 z
  rw [c0, c1, c2, c3, c4, c5, c6, c7, c44, e6]
  exact ⟨a1, fun t ht => by rw [hp _ (by omega), hp _ (by omega)]; exact a2 t ht, by rw [hp _ (by omega)]; exact a3, by rw [hp _ (by omega)]; exact a4, by rw [hp _ (by omega)]; exact a5, IVbf_c hp (by omega) a6⟩
/-- only page 0 of the state has changed, and rows of the class that only page 0 tells of -/
theorem IV_pg0 {C C' M N : Mem} (h : IV C M) (e : ∀ k, k ≠ 59 → N k = M k) (hp : ∀ j, 120 ≤ j → N 59 j = M 59 j) (hc : ∀ k, (k < 5 ∨ (10 ≤ k ∧ k ≤ 44) ∨ 48 ≤ k) → C' k = C k) (hl : IVl C' N) (hb : IVb C' N) : IV C' N := by
  obtain ⟨-, -, ⟨i0, i1⟩, t, f, ⟨s0, s1, s2, s3⟩, kk⟩ := h
  have e58 := e 58 (by decide)
  have e75 := e 75 (by decide)
  have e67 := e 67 (by decide)
  have e76 := e 76 (by decide)
  have e77 := e 77 (by decide)
  have e78 := e 78 (by decide)
  have c : ∀ k, 10 ≤ k → k ≤ 44 → C' k = C k := fun k h1 h2 => hc k (Or.inr (Or.inl ⟨h1, h2⟩))
  have sh : ∀ k b, 10 ≤ b → b ≤ 43 → IVs C M k b → IVs C' N k b := fun k b h1 h2 q => by
    unfold IVs at q ⊢
    rw [e76, e77, e78, c b h1 (by omega), c (b + 1) (by omega) (by omega)]
    exact q
  refine ⟨hl, hb, ⟨IVi_c i0 e75 (by rw [e58]) hp (c _ (by decide) (by decide)) (c _ (by decide) (by decide)) (c _ (by decide) (by decide)) (c _ (by decide) (by decide)) (c _ (by decide) (by decide)) (c _ (by decide) (by decide)) (c _ (by decide) (by decide)) (c _ (by decide) (by decide)) (by rw [c 44 (by decide) (by decide)]), IVi_c i1 e75 (by rw [e58]) hp (c _ (by decide) (by decide)) (c _ (by decide) (by decide)) (c _ (by decide) (by decide)) (c _ (by decide) (by decide)) (c _ (by decide) (by decide)) (c _ (by decide) (by decide)) (c _ (by decide) (by decide)) (c _ (by decide) (by decide)) (by rw [c 44 (by decide) (by decide)])⟩, ?_, ?_, ⟨sh _ _ (by decide) (by decide) s0, sh _ _ (by decide) (by decide) s1, sh _ _ (by decide) (by decide) s2, sh _ _ (by decide) (by decide) s3⟩, ?_⟩
  · unfold IVt at t ⊢
    rw [e58, e67, hc 1 (Or.inl (by decide)), hc 2 (Or.inl (by decide))]
    exact t
  · unfold IVf at f ⊢
    rw [e58, hc 0 (Or.inl (by decide))]
    exact f
  · unfold IVk at kk ⊢
    rw [e 68 (by decide), e 69 (by decide)]
    exact kk
/-- the land is as it was, where only what stands behind place 13 has changed -/
theorem IVl_hi {C C' M N : Mem} (h : IVl C M) (e : ∀ k, k ≠ 59 → N k = M k) (hp : ∀ j, j < 14 → N 59 j = M 59 j) (h113 : N 59 113 = M 59 113) (hc : ∀ k, 44 ≤ k → C' k = C k) (h6 : cn (C 44 6) ≤ 6) : IVl C' N := by
  unfold IVl at h ⊢
  rw [e 58 (by decide), e 60 (by decide), e 61 (by decide), e 62 (by decide), hc 44 (by decide), hc 45 (by decide), hc 46 (by decide), hc 47 (by decide), hc 48 (by decide), hc 49 (by decide), hc 50 (by decide), hp 12 (by decide), hp 13 (by decide), h113]
  obtain ⟨h1, h2, h3, h4, h5⟩ := h
  exact ⟨h1, h2, h3, fun t ht => by rw [hp t (by omega), hp (6 + t) (by omega)]; exact h4 t ht, h5⟩
theorem IVb_lo {C C' M N : Mem} (h : IVb C M) (hp : ∀ j, 14 ≤ j → N 59 j = M 59 j) (hc : ∀ k, k < 10 → C' k = C k) : IVb C' N := by
  unfold IVb at h ⊢
  rw [hc 5 (by decide), hc 6 (by decide), hc 7 (by decide), hc 8 (by decide), hc 9 (by decide)]
  exact IVbf_c hp (by omega) h
set_option maxRecDepth 100000 in
set_option maxHeartbeats 4000000 in
theorem sem_X8_end {C M : Mem} (h : RF C M) {n : Int32} : Sem mX8_end SH [.ref 58, .int n] M (RI SH (fun r N => r = endV C n ∧ RP (endU C n) M N)) := by
  refine Sem_of rfl (fun G => (Nat.le_of_ble_eq_true rfl)) (fun G => ?_)
  refine Bd_iload_1 (pc := 0) dX8_end_0 ?_
  refine Bd_i2l (pc := 1) dX8_end_1 ?_
  refine Bd_lconst (v := 0) (pc := 2) dX8_end_2 (by decide) ?_
  refine Bd_aload_0 (pc := 3) dX8_end_3 ?_
  refine Bd_getI (j := 18) ck8 (pc := 4) dX8_end_4 k_804 rfl (Nat.le_of_ble_eq_true rfl) rfl ?_
  refine Bd_i2l (pc := 7) dX8_end_7 ?_
  refine Bd_callS3i (cd := mX8_in) (pc := 8) dX8_end_8 k_910 v_X8_in ⟨(Nat.le_of_ble_eq_true rfl), (Nat.le_of_ble_eq_true rfl)⟩ (sem_in (a := 0) (by decide) rfl) (Nat.le_of_ble_eq_true rfl) ?_
  refine Bd_if_ne (t := 16) (pc := 11) dX8_end_11 (by decide) (fun b11 => ?_) (fun b11 => ?_)
  · refine Bd_aload_0 (pc := 16) dX8_end_16 ?_
    refine Bd_getI (j := 18) ck8 (pc := 17) dX8_end_17 k_804 rfl (Nat.le_of_ble_eq_true rfl) rfl ?_
    refine Bd_istore_2 (pc := 20) dX8_end_20 (Nat.le_of_ble_eq_true rfl) rfl ?_
    refine Bd_aload_0 (pc := 21) dX8_end_21 ?_
    refine Bd_iload_1 (pc := 22) dX8_end_22 ?_
    refine Bd_putI (j := 18) (ty := .int) ck8 (pc := 23) dX8_end_23 k_804 rfl (Nat.le_of_ble_eq_true rfl) rfl rfl pfI rfl rfl ?_
    refine Bd_iload_2 (pc := 26) dX8_end_26 ?_
    refine Bd_iret (pc := 27) dX8_end_27 rfl ?_
    have e18 : M 58 18 = C 1 2 := h.2.2.2.2.1.1
    rw [e18] at b11
    have q := b2_n.mp b11
    have q1 : ¬ n < 0 := Int32.not_lt.mpr q.1
    refine ⟨_, rfl, rfl, by rw [endV, if_neg q1, if_pos q.2]; exact e18, ?_, fun k hk => updM_ne (by omega)⟩
    rw [endU, if_neg q1, if_pos q.2]
    refine ⟨h.2.1, h.2.2.1, h.2.2.2.1, ⟨rfl, fun i hi => ?_⟩, h.2.2.2.2.2⟩
    have hi : i < cn n := hi
    exact h.2.2.2.2.1.2 i (Nat.lt_of_lt_of_le hi (by have a := (cn_of (x := n) (hi := n.toInt) ⟨by have := Int32.le_iff_toInt_le.mp q.1; rw [Int32.toInt_zero] at this; exact this, by omega⟩).2.1; have b := (cn_of h.1.2.2.2.1.1).2.1; have c := Int32.le_iff_toInt_le.mp q.2; omega))
  · refine Bd_iconst (v := -1) (pc := 14) dX8_end_14 (by decide) ?_
    refine Bd_iret (pc := 15) dX8_end_15 rfl ?_
    have e18 : M 58 18 = C 1 2 := h.2.2.2.2.1.1
    rw [e18] at b11
    have q := b2_0.mp b11
    by_cases q1 : n < 0
    · exact ⟨_, rfl, rfl, by rw [endV, if_pos q1], by rw [endU, if_pos q1]; exact RP_rf h⟩
    · have q2 : ¬ n ≤ C 1 2 := fun z => q ⟨Int32.not_lt.mp q1, z⟩
      exact ⟨_, rfl, rfl, by rw [endV, if_neg q1, if_neg q2], by rw [endU, if_neg q1, if_neg q2]; exact RP_rf h⟩
set_option maxRecDepth 100000 in
set_option maxHeartbeats 4000000 in
theorem sem_X8_fault {C M : Mem} (h : RF C M)  : Sem mX8_fault SH [.ref 58] M (RI SH (fun r N => r = C 0 10 ∧ RP (C) M N)) := by
  refine Sem_of rfl (fun G => (Nat.le_of_ble_eq_true rfl)) (fun G => ?_)
  refine Bd_aload_0 (pc := 0) dX8_fault_0 ?_
  refine Bd_getI (j := 19) ck8 (pc := 1) dX8_fault_1 k_805 rfl (Nat.le_of_ble_eq_true rfl) rfl ?_
  refine Bd_iret (pc := 4) dX8_fault_4 rfl ?_
  exact ⟨_, rfl, rfl, h.2.2.2.2.2.1.1, RP_rf h⟩
set_option maxRecDepth 100000 in
set_option maxHeartbeats 4000000 in
theorem sem_X8_torn {C M : Mem} (h : RF C M)  : Sem mX8_torn SH [.ref 58] M (RI SH (fun r N => r = C 0 11 ∧ RP (C) M N)) := by
  refine Sem_of rfl (fun G => (Nat.le_of_ble_eq_true rfl)) (fun G => ?_)
  refine Bd_aload_0 (pc := 0) dX8_torn_0 ?_
  refine Bd_getI (j := 37) ck8 (pc := 1) dX8_torn_1 k_823 rfl (Nat.le_of_ble_eq_true rfl) rfl ?_
  refine Bd_iret (pc := 4) dX8_torn_4 rfl ?_
  exact ⟨_, rfl, rfl, h.2.2.2.2.2.1.2, RP_rf h⟩
theorem bt_i {x a b : Int32} (h : a ≤ x ∧ x ≤ b) : bt x a.toInt b.toInt := ⟨Int32.le_iff_toInt_le.mp h.1, Int32.le_iff_toInt_le.mp h.2⟩
theorem i_bt {x a b : Int32} (h : bt x a.toInt b.toInt) : a ≤ x ∧ x ≤ b := ⟨Int32.le_iff_toInt_le.mpr h.1, Int32.le_iff_toInt_le.mpr h.2⟩
theorem in_lt {x b : Int32} {n : Nat} (h : 0 ≤ x ∧ x ≤ b) (hb : b.toInt < n) (hn : n < 2 ^ 31) : x = nI (cn x) ∧ cn x < n := by
  have h1 := bt_i h
  have h2 := cn_of (x := x) (hi := b.toInt) (by rw [Int32.toInt_zero] at h1; exact h1)
  exact ⟨h2.1, by have := h2.2.2; omega⟩
theorem rule_in {k : Int32} : (0 ≤ k ∧ k < 6) ↔ (0 ≤ k ∧ k ≤ 3) ∨ k = 4 ∨ k = 5 := by
  rw [Int32.le_iff_toInt_le, Int32.lt_iff_toInt_lt, Int32.le_iff_toInt_le, ← Int32.toInt_inj, ← Int32.toInt_inj, show (6 : Int32).toInt = 6 by decide, show (3 : Int32).toInt = 3 by decide, show (4 : Int32).toInt = 4 by decide, show (5 : Int32).toInt = 5 by decide, Int32.toInt_zero]
  omega
theorem vp_of_in {x b : Int32} {n : Nat} (h : 0 ≤ x ∧ x ≤ b) (hb : b.toInt < n) : vp_in x n := by
  have h1 := bt_i h
  rw [Int32.toInt_zero] at h1
  exact vp_in_iff.mpr ⟨h1.1, by have := h1.2; omega⟩
theorem k01 {k : Int32} : (0 ≤ k ∧ k ≤ 1) ↔ (0 ≤ k ∧ k < 2) := by
  rw [Int32.le_iff_toInt_le, Int32.le_iff_toInt_le, Int32.lt_iff_toInt_lt, show (2 : Int32).toInt = 2 by decide, show (1 : Int32).toInt = 1 by decide]
  omega
theorem k02 {k : Int32} : (0 ≤ k ∧ k ≤ 2) ↔ (0 ≤ k ∧ k < 3) := by
  rw [Int32.le_iff_toInt_le, Int32.le_iff_toInt_le, Int32.lt_iff_toInt_lt, show (2 : Int32).toInt = 2 by decide, show (3 : Int32).toInt = 3 by decide]
  omega
set_option maxRecDepth 100000 in
set_option maxHeartbeats 4000000 in
theorem sem_X8_rule {C M : Mem} (h : RF C M) {k : Int32} : Sem mX8_rule SH [.ref 58, .int k] M (RI SH (fun r N => r = ruleV C k ∧ RP (C) M N)) := by
  refine Sem_of rfl (fun G => (Nat.le_of_ble_eq_true rfl)) (fun G => ?_)
  refine Bd_aload_0 (pc := 0) dX8_rule_0 ?_
  refine Bd_callV0v (cd := mX8_awake) (pc := 1) dX8_rule_1 k_965 v_X8_awake ⟨(Nat.le_of_ble_eq_true rfl), (Nat.le_of_ble_eq_true rfl)⟩ rfl rfl (sem_X8_awake h.a6) (Nat.le_of_ble_eq_true rfl) ?_
  refine Bd_iload_1 (pc := 4) dX8_rule_4 ?_
  refine Bd_i2l (pc := 5) dX8_rule_5 ?_
  refine Bd_lconst (v := 0) (pc := 6) dX8_rule_6 (by decide) ?_
  refine Bd_ldc2 k_969 (pc := 7) dX8_rule_7 ?_
  refine Bd_callS3i (cd := mX8_in) (pc := 10) dX8_rule_10 k_910 v_X8_in ⟨(Nat.le_of_ble_eq_true rfl), (Nat.le_of_ble_eq_true rfl)⟩ (sem_in (a := 0) (b := 3) (by decide) (by decide)) (Nat.le_of_ble_eq_true rfl) ?_
  refine Bd_if_eq (t := 25) (pc := 13) dX8_rule_13 (by decide) (fun b13 => ?_) (fun b13 => ?_)
  · refine Bd_iload_1 (pc := 25) dX8_rule_25 ?_
    refine Bd_iconst (v := 4) (pc := 26) dX8_rule_26 (by decide) ?_
    refine Bd_icmp_ne (t := 40) (pc := 27) dX8_rule_27 (by decide) (fun b27 => ?_) (fun b27 => ?_)
    · refine Bd_iload_1 (pc := 40) dX8_rule_40 ?_
      refine Bd_iconst (v := 5) (pc := 41) dX8_rule_41 (by decide) ?_
      refine Bd_icmp_ne (t := 55) (pc := 42) dX8_rule_42 (by decide) (fun b42 => ?_) (fun b42 => ?_)
      · refine Bd_iconst (v := -1) (pc := 55) dX8_rule_55 (by decide) ?_
        refine Bd_iret (pc := 56) dX8_rule_56 rfl ?_
        exact ⟨_, rfl, rfl, by rw [ruleV, if_neg (fun z => (rule_in.mp z).elim (b2_0.mp b13) (fun z => z.elim b27 b42))], RP_aw h⟩
      · refine Bd_aload_0 (pc := 45) dX8_rule_45 ?_
        refine Bd_getR (j := 0) ck8 (pc := 46) dX8_rule_46 k_786 rfl (Nat.le_of_ble_eq_true rfl) rfl ?_
        refine Bd_bipush (v := 13) (pc := 49) dX8_rule_49 (by decide) ?_
        refine Bd_ialdc (j := 13) rfl (pc := 51) dX8_rule_51 rfl (by unfold vp_in; decide) ?_
        refine Bd_goto (t := 56) (pc := 52) dX8_rule_52 (by decide) ?_
        refine Bd_iret (pc := 56) dX8_rule_56 rfl ?_
        subst b42
        exact ⟨_, rfl, rfl, by rw [ruleV, if_pos (by decide)]; exact h.aw.wd.2, RP_aw h⟩
    · refine Bd_aload_0 (pc := 30) dX8_rule_30 ?_
      refine Bd_getR (j := 0) ck8 (pc := 31) dX8_rule_31 k_786 rfl (Nat.le_of_ble_eq_true rfl) rfl ?_
      refine Bd_bipush (v := 12) (pc := 34) dX8_rule_34 (by decide) ?_
      refine Bd_ialdc (j := 12) rfl (pc := 36) dX8_rule_36 rfl (by unfold vp_in; decide) ?_
      refine Bd_goto (t := 56) (pc := 37) dX8_rule_37 (by decide) ?_
      refine Bd_iret (pc := 56) dX8_rule_56 rfl ?_
      subst b27
      exact ⟨_, rfl, rfl, by rw [ruleV, if_pos (by decide)]; exact h.aw.wd.1, RP_aw h⟩
  · refine Bd_aload_0 (pc := 16) dX8_rule_16 ?_
    refine Bd_getR (j := 1) ck8 (pc := 17) dX8_rule_17 k_787 rfl (Nat.le_of_ble_eq_true rfl) rfl ?_
    refine Bd_iload_1 (pc := 20) dX8_rule_20 ?_
    refine Bd_iald (pc := 21) dX8_rule_21 rfl (vp_of_in (b2_n.mp b13) (n := 4) (by decide)) ?_
    refine Bd_goto (t := 56) (pc := 22) dX8_rule_22 (by decide) ?_
    refine Bd_iret (pc := 56) dX8_rule_56 rfl ?_
    have q := b2_n.mp b13
    have hv := in_lt q (n := 4) (by decide) (by decide)
    exact ⟨_, rfl, rfl, by rw [ruleV, if_pos (rule_in.mpr (Or.inl q))]; exact h.aw.2.1.1.1 _ hv.2, RP_aw h⟩
set_option maxRecDepth 100000 in
set_option maxHeartbeats 4000000 in
theorem sem_X8_tower {C M : Mem} (h : RF C M) {t k : Int32} : Sem mX8_tower SH [.ref 58, .int t, .int k] M (RI SH (fun r N => r = towerV C t k ∧ RP (C) M N)) := by
  refine Sem_of rfl (fun G => (Nat.le_of_ble_eq_true rfl)) (fun G => ?_)
  refine Bd_aload_0 (pc := 0) dX8_tower_0 ?_
  refine Bd_iload_1 (pc := 1) dX8_tower_1 ?_
  refine Bd_callV1i (cd := mX8_isTower) (pc := 2) dX8_tower_2 k_974 v_X8_isTower ⟨(Nat.le_of_ble_eq_true rfl), (Nat.le_of_ble_eq_true rfl)⟩ rfl rfl (sem_X8_isTower h) (Nat.le_of_ble_eq_true rfl) ?_
  refine Bd_if_eq (t := 40) (pc := 5) dX8_tower_5 (by decide) (fun b5 => ?_) (fun b5 => ?_)
  · refine Bd_iconst (v := -1) (pc := 40) dX8_tower_40 (by decide) ?_
    refine Bd_iret (pc := 41) dX8_tower_41 rfl ?_
    exact ⟨_, rfl, rfl, by rw [towerV, if_neg (b2_0.mp b5)], RP_aw h⟩
  · refine Bd_iload_2 (pc := 8) dX8_tower_8 ?_
    refine Bd_i2l (pc := 9) dX8_tower_9 ?_
    refine Bd_lconst (v := 0) (pc := 10) dX8_tower_10 (by decide) ?_
    refine Bd_lconst (v := 1) (pc := 11) dX8_tower_11 (by decide) ?_
    refine Bd_callS3i (cd := mX8_in) (pc := 12) dX8_tower_12 k_910 v_X8_in ⟨(Nat.le_of_ble_eq_true rfl), (Nat.le_of_ble_eq_true rfl)⟩ (sem_in (a := 0) (b := 1) (by decide) (by decide)) (Nat.le_of_ble_eq_true rfl) ?_
    refine Bd_if_eq (t := 40) (pc := 15) dX8_tower_15 (by decide) (fun b15 => ?_) (fun b15 => ?_)
    · refine Bd_iconst (v := -1) (pc := 40) dX8_tower_40 (by decide) ?_
      refine Bd_iret (pc := 41) dX8_tower_41 rfl ?_
      exact ⟨_, rfl, rfl, by rw [towerV, if_pos (b2_n.mp b5), if_neg (fun z => b2_0.mp b15 (k01.mpr z))], RP_aw h⟩
    · refine Bd_aload_0 (pc := 18) dX8_tower_18 ?_
      refine Bd_getR (j := 0) ck8 (pc := 19) dX8_tower_19 k_786 rfl (Nat.le_of_ble_eq_true rfl) rfl ?_
      refine Bd_iload_2 (pc := 22) dX8_tower_22 ?_
      refine Bd_if_ne (t := 32) (pc := 23) dX8_tower_23 (by decide) (fun b23 => ?_) (fun b23 => ?_)
      · have hv := vp_cn (n := 6) (vpP (b2_n.mp b5) h.1.nt6') (by omega)
        
        refine Bd_bipush (v := 6) (pc := 32) dX8_tower_32 (by decide) ?_
        refine Bd_iload_1 (pc := 34) dX8_tower_34 ?_
        refine Bd_iadd (pc := 35) dX8_tower_35 ?_
        refine Bd_ialdc (j := 6 + cn t) (by rw [show (6 + t : Int32) = nI (6 + cn t) from by rw [← ti6 _ hv.2, ← hv.1]]; exact nI_clamp (by omega)) (pc := 36) dX8_tower_36 rfl (by rw [show (6 + t : Int32) = nI (6 + cn t) from by rw [← ti6 _ hv.2, ← hv.1]]; exact vpi (by omega) (by omega)) ?_
        refine Bd_goto (t := 41) (pc := 37) dX8_tower_37 (by decide) ?_
        refine Bd_iret (pc := 41) dX8_tower_41 rfl ?_
        have q := h.aw.2.1.1.2.2.2.1 (cn t) (cn_lt (b2_n.mp b5))
        exact ⟨_, rfl, rfl, by rw [towerV, if_pos (b2_n.mp b5), if_pos (k01.mp (b2_n.mp b15)), if_neg b23]; exact q.2, RP_aw h⟩
      · have hv := vp_cn (n := 6) (vpP (b2_n.mp b5) h.1.nt6') (by omega)
        
        refine Bd_iconst (v := 0) (pc := 26) dX8_tower_26 (by decide) ?_
        refine Bd_iload_1 (pc := 27) dX8_tower_27 ?_
        refine Bd_iadd (pc := 28) dX8_tower_28 ?_
        refine Bd_goto (t := 36) (pc := 29) dX8_tower_29 (by decide) ?_
        refine Bd_ialdc (j := cn t) (by rw [Int32.zero_add]) (pc := 36) dX8_tower_36 rfl (by rw [Int32.zero_add, hv.1]; exact vpi (by omega) (by omega)) ?_
        refine Bd_goto (t := 41) (pc := 37) dX8_tower_37 (by decide) ?_
        refine Bd_iret (pc := 41) dX8_tower_41 rfl ?_
        have q := h.aw.2.1.1.2.2.2.1 (cn t) (cn_lt (b2_n.mp b5))
        exact ⟨_, rfl, rfl, by rw [towerV, if_pos (b2_n.mp b5), if_pos (k01.mp (b2_n.mp b15)), if_pos b23]; exact q.1, RP_aw h⟩
set_option maxRecDepth 100000 in
set_option maxHeartbeats 4000000 in
theorem sem_X8_hill {C M : Mem} (h : RF C M) {k : Int32} : Sem mX8_hill SH [.ref 58, .int k] M (RI SH (fun r N => r = hillV C k ∧ RP (C) M N)) := by
  refine Sem_of rfl (fun G => (Nat.le_of_ble_eq_true rfl)) (fun G => ?_)
  refine Bd_iload_1 (pc := 0) dX8_hill_0 ?_
  refine Bd_i2l (pc := 1) dX8_hill_1 ?_
  refine Bd_lconst (v := 0) (pc := 2) dX8_hill_2 (by decide) ?_
  refine Bd_aload_0 (pc := 3) dX8_hill_3 ?_
  refine Bd_getI (j := 3) ck8 (pc := 4) dX8_hill_4 k_789 rfl (Nat.le_of_ble_eq_true rfl) rfl ?_
  refine Bd_iconst (v := 1) (pc := 7) dX8_hill_7 (by decide) ?_
  refine Bd_isub (pc := 8) dX8_hill_8 ?_
  refine Bd_i2l (pc := 9) dX8_hill_9 ?_
  refine Bd_callS3i (cd := mX8_in) (pc := 10) dX8_hill_10 k_910 v_X8_in ⟨(Nat.le_of_ble_eq_true rfl), (Nat.le_of_ble_eq_true rfl)⟩ (sem_in (a := 0) (by decide) rfl) (Nat.le_of_ble_eq_true rfl) ?_
  refine Bd_if_eq (t := 25) (pc := 13) dX8_hill_13 (by decide) (fun b13 => ?_) (fun b13 => ?_)
  · refine Bd_iconst (v := -1) (pc := 25) dX8_hill_25 (by decide) ?_
    refine Bd_iret (pc := 26) dX8_hill_26 rfl ?_
    have q := b2_0.mp b13
    rw [show M 58 3 = C 44 7 from h.2.1.2.2.2.2.1, in_pred h.1.1.2.1.2.1.1] at q
    exact ⟨_, rfl, rfl, by rw [hillV, if_neg q], RP_rf h⟩
  · have q := b2_n.mp b13
    rw [show M 58 3 = C 44 7 from h.2.1.2.2.2.2.1, in_pred h.1.1.2.1.2.1.1] at q
    refine Bd_aload_0 (pc := 16) dX8_hill_16 ?_
    refine Bd_getR (j := 2) ck8 (pc := 17) dX8_hill_17 k_788 rfl (Nat.le_of_ble_eq_true rfl) rfl ?_
    refine Bd_iload_1 (pc := 20) dX8_hill_20 ?_
    refine Bd_iald (pc := 21) dX8_hill_21 rfl (vpP q h.1.nh3') ?_
    refine Bd_goto (t := 26) (pc := 22) dX8_hill_22 (by decide) ?_
    refine Bd_iret (pc := 26) dX8_hill_26 rfl ?_
    exact ⟨_, rfl, rfl, by rw [hillV, if_pos q]; exact h.2.1.2.2.2.2.2.1 _ (cn_lt q), RP_rf h⟩
theorem t2k {t k : Int32} (ht : 0 ≤ t ∧ t < 12) (hk : 0 ≤ k ∧ k ≤ 1) : (k = 0 ∧ (2 * t + k) = nI (2 * cn t)) ∨ (¬ k = 0 ∧ (2 * t + k) = nI (2 * cn t + 1)) := by
  have hv := vp_cn (n := 12) (vpP ht (by decide)) (by omega)
  by_cases h0 : k = 0
  · left; refine ⟨h0, ?_⟩; rw [h0, Int32.add_zero, hv.1, tn2 _ hv.2, ← hv.1]
  · right; refine ⟨h0, ?_⟩; rw [k2_1 (k01.mp hk) h0, hv.1, tn3 _ hv.2, ← hv.1]
theorem lt_12 {t X : Int32} (h : 0 ≤ t ∧ t < X) (hX : X.toInt ≤ 12) : 0 ≤ t ∧ t < 12 := ⟨h.1, by have := Int32.lt_iff_toInt_lt.mp h.2; rw [Int32.lt_iff_toInt_lt, show (12 : Int32).toInt = 12 by decide]; omega⟩
set_option maxRecDepth 100000 in
set_option maxHeartbeats 4000000 in
theorem sem_X8_note {C M : Mem} (h : RF C M) {t k : Int32} : Sem mX8_note SH [.ref 58, .int t, .int k] M (RI SH (fun r N => r = noteV C t k ∧ RP (C) M N)) := by
  refine Sem_of rfl (fun G => (Nat.le_of_ble_eq_true rfl)) (fun G => ?_)
  refine Bd_iload_1 (pc := 0) dX8_note_0 ?_
  refine Bd_i2l (pc := 1) dX8_note_1 ?_
  refine Bd_lconst (v := 0) (pc := 2) dX8_note_2 (by decide) ?_
  refine Bd_aload_0 (pc := 3) dX8_note_3 ?_
  refine Bd_getI (j := 5) ck8 (pc := 4) dX8_note_4 k_791 rfl (Nat.le_of_ble_eq_true rfl) rfl ?_
  refine Bd_iconst (v := 1) (pc := 7) dX8_note_7 (by decide) ?_
  refine Bd_isub (pc := 8) dX8_note_8 ?_
  refine Bd_i2l (pc := 9) dX8_note_9 ?_
  refine Bd_callS3i (cd := mX8_in) (pc := 10) dX8_note_10 k_910 v_X8_in ⟨(Nat.le_of_ble_eq_true rfl), (Nat.le_of_ble_eq_true rfl)⟩ (sem_in (a := 0) (by decide) rfl) (Nat.le_of_ble_eq_true rfl) ?_
  refine Bd_if_eq (t := 39) (pc := 13) dX8_note_13 (by decide) (fun b13 => ?_) (fun b13 => ?_)
  · refine Bd_iconst (v := -1) (pc := 39) dX8_note_39 (by decide) ?_
    refine Bd_iret (pc := 40) dX8_note_40 rfl ?_
    have q := b2_0.mp b13
    rw [show M 58 5 = C 44 8 from h.2.1.2.2.2.2.2.2.1, in_pred h.1.1.2.1.2.2.1] at q
    exact ⟨_, rfl, rfl, by rw [noteV, if_neg q], RP_rf h⟩
  · refine Bd_iload_2 (pc := 16) dX8_note_16 ?_
    refine Bd_i2l (pc := 17) dX8_note_17 ?_
    refine Bd_lconst (v := 0) (pc := 18) dX8_note_18 (by decide) ?_
    refine Bd_lconst (v := 1) (pc := 19) dX8_note_19 (by decide) ?_
    refine Bd_callS3i (cd := mX8_in) (pc := 20) dX8_note_20 k_910 v_X8_in ⟨(Nat.le_of_ble_eq_true rfl), (Nat.le_of_ble_eq_true rfl)⟩ (sem_in (a := 0) (b := 1) (by decide) (by decide)) (Nat.le_of_ble_eq_true rfl) ?_
    refine Bd_if_eq (t := 39) (pc := 23) dX8_note_23 (by decide) (fun b23 => ?_) (fun b23 => ?_)
    · refine Bd_iconst (v := -1) (pc := 39) dX8_note_39 (by decide) ?_
      refine Bd_iret (pc := 40) dX8_note_40 rfl ?_
      have q := b2_n.mp b13
      rw [show M 58 5 = C 44 8 from h.2.1.2.2.2.2.2.2.1, in_pred h.1.1.2.1.2.2.1] at q
      exact ⟨_, rfl, rfl, by rw [noteV, if_pos q, if_neg (fun z => b2_0.mp b23 (k01.mpr z))], RP_rf h⟩
    · have q := b2_n.mp b13
      rw [show M 58 5 = C 44 8 from h.2.1.2.2.2.2.2.2.1, in_pred h.1.1.2.1.2.2.1] at q
      have q12 := lt_12 q h.1.nn12'
      have hv := vp_cn (n := 12) (vpP q12 (by decide)) (by omega)
      have hi := h.2.1.2.2.2.2.2.2.2 (cn t) (cn_lt q)
      rcases t2k q12 (b2_n.mp b23) with ⟨k0, ki⟩ | ⟨k0, ki⟩
      · refine Bd_aload_0 (pc := 26) dX8_note_26 ?_
        refine Bd_getR (j := 4) ck8 (pc := 27) dX8_note_27 k_790 rfl (Nat.le_of_ble_eq_true rfl) rfl ?_
        refine Bd_iconst (v := 2) (pc := 30) dX8_note_30 (by decide) ?_
        refine Bd_iload_1 (pc := 31) dX8_note_31 ?_
        refine Bd_imul (pc := 32) dX8_note_32 ?_
        refine Bd_iload_2 (pc := 33) dX8_note_33 ?_
        refine Bd_iadd (pc := 34) dX8_note_34 ?_
        refine Bd_ialdc (j := 2 * cn t) (by rw [ki]; exact nI_clamp (by omega)) (pc := 35) dX8_note_35 rfl (by rw [ki]; exact vpi (by omega) (by omega)) ?_
        refine Bd_goto (t := 40) (pc := 36) dX8_note_36 (by decide) ?_
        refine Bd_iret (pc := 40) dX8_note_40 rfl ?_
        exact ⟨_, rfl, rfl, by rw [noteV, if_pos q, if_pos (k01.mp (b2_n.mp b23)), if_pos k0]; exact hi.1, RP_rf h⟩
      · refine Bd_aload_0 (pc := 26) dX8_note_26 ?_
        refine Bd_getR (j := 4) ck8 (pc := 27) dX8_note_27 k_790 rfl (Nat.le_of_ble_eq_true rfl) rfl ?_
        refine Bd_iconst (v := 2) (pc := 30) dX8_note_30 (by decide) ?_
        refine Bd_iload_1 (pc := 31) dX8_note_31 ?_
        refine Bd_imul (pc := 32) dX8_note_32 ?_
        refine Bd_iload_2 (pc := 33) dX8_note_33 ?_
        refine Bd_iadd (pc := 34) dX8_note_34 ?_
        refine Bd_ialdc (j := 2 * cn t + 1) (by rw [ki]; exact nI_clamp (by omega)) (pc := 35) dX8_note_35 rfl (by rw [ki]; exact vpi (by omega) (by omega)) ?_
        refine Bd_goto (t := 40) (pc := 36) dX8_note_36 (by decide) ?_
        refine Bd_iret (pc := 40) dX8_note_40 rfl ?_
        exact ⟨_, rfl, rfl, by rw [noteV, if_pos q, if_pos (k01.mp (b2_n.mp b23)), if_neg k0]; exact hi.2, RP_rf h⟩
theorem IV_wind {C N : Mem} (h : RK C N) {e s : Int32} : IV (updM (updM C 45 4 e) 45 5 s) (updM (updM N 59 12 e) 59 13 s) := by
  have hl := h.2.1.1
  have n6 := h.1.nt6
  have g : ∀ j, j ≠ 12 → j ≠ 13 → updM (updM N 59 12 e) 59 13 s 59 j = N 59 j := fun j h1 h2 => by
    show upd (upd (N 59) 12 e) 13 s j = _
    rw [upd_ne h2, upd_ne h1]
  refine IV_pg0 h.2.1 (fun k hk => by rw [updM_ne hk, updM_ne hk]) (fun j hj => g j (by omega) (by omega)) (fun k hk => by rw [updM_ne (by omega), updM_ne (by omega)]) ?_ (IVb_lo h.2.1.2.1 (fun j hj => g j (by omega) (by omega)) (fun k hk => by rw [updM_ne (by omega), updM_ne (by omega)]))
  refine ⟨fun j hj => ?_, Or.inl ⟨h.2.2, rfl, rfl⟩, hl.2.2.1, fun t ht => ?_, hl.2.2.2.2⟩
  · show N 60 j = upd (upd (C 45) 4 e) 5 s j
    rw [upd_ne (by omega), upd_ne (by omega)]; exact hl.1 j hj
  · rw [g t (by have : t < cn (C 44 6) := ht; omega) (by have : t < cn (C 44 6) := ht; omega), g (6 + t) (by have : t < cn (C 44 6) := ht; omega) (by have : t < cn (C 44 6) := ht; omega)]; exact hl.2.2.2.1 t ht
set_option maxRecDepth 100000 in
set_option maxHeartbeats 4000000 in
theorem sem_X8_wind {C M : Mem} (h : RF C M) {e s : Int32} : Sem mX8_wind SH [.ref 58, .int e, .int s] M (RI SH (fun r N => r = windV C e s ∧ RP (windU C e s) M N)) := by
  refine Sem_of rfl (fun G => (Nat.le_of_ble_eq_true rfl)) (fun G => ?_)
  refine Bd_aload_0 (pc := 0) dX8_wind_0 ?_
  refine Bd_callV0v (cd := mX8_awake) (pc := 1) dX8_wind_1 k_965 v_X8_awake ⟨(Nat.le_of_ble_eq_true rfl), (Nat.le_of_ble_eq_true rfl)⟩ rfl rfl (sem_X8_awake h.a6) (Nat.le_of_ble_eq_true rfl) ?_
  refine Bd_iload_1 (pc := 4) dX8_wind_4 ?_
  refine Bd_i2l (pc := 5) dX8_wind_5 ?_
  refine Bd_lconst (v := 0) (pc := 6) dX8_wind_6 (by decide) ?_
  refine Bd_ldc2 k_990 (pc := 7) dX8_wind_7 ?_
  refine Bd_callS3i (cd := mX8_in) (pc := 10) dX8_wind_10 k_910 v_X8_in ⟨(Nat.le_of_ble_eq_true rfl), (Nat.le_of_ble_eq_true rfl)⟩ (sem_in (a := 0) (b := 2) (by decide) (by decide)) (Nat.le_of_ble_eq_true rfl) ?_
  refine Bd_if_eq (t := 28) (pc := 13) dX8_wind_13 (by decide) (fun b13 => ?_) (fun b13 => ?_)
  · refine Bd_iconst (v := -1) (pc := 28) dX8_wind_28 (by decide) ?_
    refine Bd_iret (pc := 29) dX8_wind_29 rfl ?_
    have q : ¬ (0 ≤ e ∧ e < 3) := fun z => b2_0.mp b13 (k02.mpr z)
    exact ⟨_, rfl, rfl, by rw [windV, if_neg q], by rw [windU, if_neg q]; exact RP_aw h⟩
  · refine Bd_iload_2 (pc := 16) dX8_wind_16 ?_
    refine Bd_i2l (pc := 17) dX8_wind_17 ?_
    refine Bd_lconst (v := 0) (pc := 18) dX8_wind_18 (by decide) ?_
    refine Bd_ldc2 k_990 (pc := 19) dX8_wind_19 ?_
    refine Bd_callS3i (cd := mX8_in) (pc := 22) dX8_wind_22 k_910 v_X8_in ⟨(Nat.le_of_ble_eq_true rfl), (Nat.le_of_ble_eq_true rfl)⟩ (sem_in (a := 0) (b := 2) (by decide) (by decide)) (Nat.le_of_ble_eq_true rfl) ?_
    refine Bd_if_ne (t := 30) (pc := 25) dX8_wind_25 (by decide) (fun b25 => ?_) (fun b25 => ?_)
    · refine Bd_iconst (v := 3) (pc := 30) dX8_wind_30 (by decide) ?_
      refine Bd_aload_0 (pc := 31) dX8_wind_31 ?_
      refine Bd_getR (j := 0) ck8 (pc := 32) dX8_wind_32 k_786 rfl (Nat.le_of_ble_eq_true rfl) rfl ?_
      refine Bd_bipush (v := 12) (pc := 35) dX8_wind_35 (by decide) ?_
      refine Bd_ialdc (j := 12) rfl (pc := 37) dX8_wind_37 rfl (by unfold vp_in; decide) ?_
      refine Bd_imul (pc := 38) dX8_wind_38 ?_
      refine Bd_aload_0 (pc := 39) dX8_wind_39 ?_
      refine Bd_getR (j := 0) ck8 (pc := 40) dX8_wind_40 k_786 rfl (Nat.le_of_ble_eq_true rfl) rfl ?_
      refine Bd_bipush (v := 13) (pc := 43) dX8_wind_43 (by decide) ?_
      refine Bd_ialdc (j := 13) rfl (pc := 45) dX8_wind_45 rfl (by unfold vp_in; decide) ?_
      refine Bd_iadd (pc := 46) dX8_wind_46 ?_
      refine Bd_istore_3 (pc := 47) dX8_wind_47 (Nat.le_of_ble_eq_true rfl) rfl ?_
      refine Bd_aload_0 (pc := 48) dX8_wind_48 ?_
      refine Bd_getR (j := 0) ck8 (pc := 49) dX8_wind_49 k_786 rfl (Nat.le_of_ble_eq_true rfl) rfl ?_
      refine Bd_bipush (v := 12) (pc := 52) dX8_wind_52 (by decide) ?_
      refine Bd_iload_1 (pc := 54) dX8_wind_54 ?_
      refine Bd_iastc (j := 12) rfl (pc := 55) dX8_wind_55 rfl (by unfold vp_in; decide) ?_
      refine Bd_aload_0 (pc := 56) dX8_wind_56 ?_
      refine Bd_getR (j := 0) ck8 (pc := 57) dX8_wind_57 k_786 rfl (Nat.le_of_ble_eq_true rfl) rfl ?_
      refine Bd_bipush (v := 13) (pc := 60) dX8_wind_60 (by decide) ?_
      refine Bd_iload_2 (pc := 62) dX8_wind_62 ?_
      refine Bd_iastc (j := 13) rfl (pc := 63) dX8_wind_63 rfl (by unfold vp_in; decide) ?_
      refine Bd_iload_3 (pc := 64) dX8_wind_64 ?_
      refine Bd_iret (pc := 65) dX8_wind_65 rfl ?_
      have q := k02.mp (b2_n.mp b13)
      have q2 := k02.mp (b2_n.mp b25)
      exact ⟨_, rfl, rfl, by rw [windV, if_pos q, if_pos q2, h.aw.wd.1, h.aw.wd.2], by rw [windU, if_pos q, if_pos q2]; exact ⟨IV_wind h.aw, fun k hk => by rw [updM_ne (by omega), updM_ne (by omega), awM_lt hk]⟩⟩
    · refine Bd_iconst (v := -1) (pc := 28) dX8_wind_28 (by decide) ?_
      refine Bd_iret (pc := 29) dX8_wind_29 rfl ?_
      have q := k02.mp (b2_n.mp b13)
      have q2 : ¬ (0 ≤ s ∧ s < 3) := fun z => b2_0.mp b25 (k02.mpr z)
      exact ⟨_, rfl, rfl, by rw [windV, if_pos q, if_neg q2], by rw [windU, if_pos q, if_neg q2]; exact RP_aw h⟩
theorem IV_move {C N : Mem} (h : RK C N) {t : Nat} (ht : t < cn (C 44 6)) {c : Int32} : IV (updM C 46 t c) (updM N 59 t c) := by
  have hl := h.2.1.1
  have n6 := h.1.nt6
  have g : ∀ j, j ≠ t → updM N 59 t c 59 j = N 59 j := fun j h1 => by rw [updM_eq, upd_ne h1]
  refine IV_pg0 h.2.1 (fun k hk => updM_ne hk) (fun j hj => g j (by omega)) (fun k hk => updM_ne (by omega)) ?_ (IVb_lo h.2.1.2.1 (fun j hj => g j (by omega)) (fun k hk => updM_ne (by omega)))
  refine ⟨hl.1, Or.inl ⟨h.2.2, by rw [g 12 (by omega)]; exact h.wd.1, by rw [g 13 (by omega)]; exact h.wd.2⟩, by rw [g 113 (by omega)]; exact hl.2.2.1, fun t' ht' => ?_, hl.2.2.2.2⟩
  have ht2 : t' < cn (C 44 6) := ht'
  rw [g (6 + t') (by omega), updM_ne (k := 46) (q := 47) (by decide)]
  refine ⟨?_, (hl.2.2.2.1 t' ht2).2⟩
  rw [updM_eq, updM_eq]
  by_cases z : t' = t
  · subst z; rw [upd_eq, upd_eq]
  · rw [upd_ne z, upd_ne z]; exact (hl.2.2.2.1 t' ht2).1
theorem IV_carry {C N : Mem} (h : RK C N) {t : Nat} (ht : t < cn (C 44 6)) {c : Int32} : IV (updM C 47 t c) (updM N 59 (6 + t) c) := by
  have hl := h.2.1.1
  have n6 := h.1.nt6
  have g : ∀ j, j ≠ 6 + t → updM N 59 (6 + t) c 59 j = N 59 j := fun j h1 => by rw [updM_eq, upd_ne h1]
  refine IV_pg0 h.2.1 (fun k hk => updM_ne hk) (fun j hj => g j (by omega)) (fun k hk => updM_ne (by omega)) ?_ (IVb_lo h.2.1.2.1 (fun j hj => g j (by omega)) (fun k hk => updM_ne (by omega)))
  refine ⟨hl.1, Or.inl ⟨h.2.2, by rw [g 12 (by omega)]; exact h.wd.1, by rw [g 13 (by omega)]; exact h.wd.2⟩, by rw [g 113 (by omega)]; exact hl.2.2.1, fun t' ht' => ?_, hl.2.2.2.2⟩
  have ht2 : t' < cn (C 44 6) := ht'
  rw [g t' (by omega), updM_ne (k := 47) (q := 46) (by decide)]
  refine ⟨(hl.2.2.2.1 t' ht2).1, ?_⟩
  rw [updM_eq, updM_eq]
  by_cases z : t' = t
  · subst z; rw [upd_eq, upd_eq]
  · rw [upd_ne (by omega), upd_ne z]; exact (hl.2.2.2.1 t' ht2).2
set_option maxRecDepth 100000 in
set_option maxHeartbeats 4000000 in
theorem sem_X8_move {C M : Mem} (h : RF C M) {t c : Int32} : Sem mX8_move SH [.ref 58, .int t, .int c] M (RI SH (fun r N => r = moveV C t c ∧ RP (moveU C t c) M N)) := by
  refine Sem_of rfl (fun G => (Nat.le_of_ble_eq_true rfl)) (fun G => ?_)
  refine Bd_aload_0 (pc := 0) dX8_move_0 ?_
  refine Bd_iload_1 (pc := 1) dX8_move_1 ?_
  refine Bd_callV1i (cd := mX8_isTower) (pc := 2) dX8_move_2 k_974 v_X8_isTower ⟨(Nat.le_of_ble_eq_true rfl), (Nat.le_of_ble_eq_true rfl)⟩ rfl rfl (sem_X8_isTower h) (Nat.le_of_ble_eq_true rfl) ?_
  refine Bd_if_eq (t := 16) (pc := 5) dX8_move_5 (by decide) (fun b5 => ?_) (fun b5 => ?_)
  · refine Bd_iconst (v := -1) (pc := 16) dX8_move_16 (by decide) ?_
    refine Bd_iret (pc := 17) dX8_move_17 rfl ?_
    exact ⟨_, rfl, rfl, by rw [moveV, if_neg (b2_0.mp b5)], by rw [moveU, if_neg (b2_0.mp b5)]; exact RP_aw h⟩
  · refine Bd_aload_0 (pc := 8) dX8_move_8 ?_
    refine Bd_iload_2 (pc := 9) dX8_move_9 ?_
    refine Bd_callV1i (cd := mX8_isCell) (pc := 10) dX8_move_10 k_1012 v_X8_isCell ⟨(Nat.le_of_ble_eq_true rfl), (Nat.le_of_ble_eq_true rfl)⟩ rfl rfl (sem_isCellK h.aw) (Nat.le_of_ble_eq_true rfl) ?_
    refine Bd_if_ne (t := 18) (pc := 13) dX8_move_13 (by decide) (fun b13 => ?_) (fun b13 => ?_)
    · have hv := vp_cn (n := 6) (vpP (b2_n.mp b5) h.1.nt6') (by omega)
      
      refine Bd_aload_0 (pc := 18) dX8_move_18 ?_
      refine Bd_getR (j := 0) ck8 (pc := 19) dX8_move_19 k_786 rfl (Nat.le_of_ble_eq_true rfl) rfl ?_
      refine Bd_iconst (v := 0) (pc := 22) dX8_move_22 (by decide) ?_
      refine Bd_iload_1 (pc := 23) dX8_move_23 ?_
      refine Bd_iadd (pc := 24) dX8_move_24 ?_
      refine Bd_ialdc (j := cn t) (by rw [Int32.zero_add]) (pc := 25) dX8_move_25 rfl (by rw [Int32.zero_add, hv.1]; exact vpi (by omega) (by omega)) ?_
      refine Bd_istore_3 (pc := 26) dX8_move_26 (Nat.le_of_ble_eq_true rfl) rfl ?_
      refine Bd_aload_0 (pc := 27) dX8_move_27 ?_
      refine Bd_getR (j := 0) ck8 (pc := 28) dX8_move_28 k_786 rfl (Nat.le_of_ble_eq_true rfl) rfl ?_
      refine Bd_iconst (v := 0) (pc := 31) dX8_move_31 (by decide) ?_
      refine Bd_iload_1 (pc := 32) dX8_move_32 ?_
      refine Bd_iadd (pc := 33) dX8_move_33 ?_
      refine Bd_iload_2 (pc := 34) dX8_move_34 ?_
      refine Bd_iastc (j := cn t) (by rw [Int32.zero_add]) (pc := 35) dX8_move_35 rfl (by rw [Int32.zero_add, hv.1]; exact vpi (by omega) (by omega)) ?_
      refine Bd_iload_3 (pc := 36) dX8_move_36 ?_
      refine Bd_iret (pc := 37) dX8_move_37 rfl ?_
      have ht := cn_lt (b2_n.mp b5)
      exact ⟨_, rfl, rfl, by rw [moveV, if_pos (b2_n.mp b5), if_pos (b2_n.mp b13)]; exact (h.aw.2.1.1.2.2.2.1 (cn t) ht).1, by rw [moveU, if_pos (b2_n.mp b5), if_pos (b2_n.mp b13)]; exact ⟨IV_move h.aw ht, fun k hk => by rw [updM_ne (by omega), awM_lt hk]⟩⟩
    · refine Bd_iconst (v := -1) (pc := 16) dX8_move_16 (by decide) ?_
      refine Bd_iret (pc := 17) dX8_move_17 rfl ?_
      exact ⟨_, rfl, rfl, by rw [moveV, if_pos (b2_n.mp b5), if_neg (b2_0.mp b13)], by rw [moveU, if_pos (b2_n.mp b5), if_neg (b2_0.mp b13)]; exact RP_aw h⟩
set_option maxRecDepth 100000 in
set_option maxHeartbeats 4000000 in
theorem sem_X8_takes {C M : Mem} (h : RF C M) {a b : Int32} : Sem mX8_takes SH [.ref 58, .int a, .int b] M (RI SH (fun r N => r = takesV C a b ∧ RP (C) M N)) := by
  refine Sem_of rfl (fun G => (Nat.le_of_ble_eq_true rfl)) (fun G => ?_)
  refine Bd_aload_0 (pc := 0) dX8_takes_0 ?_
  refine Bd_iload_1 (pc := 1) dX8_takes_1 ?_
  refine Bd_callV1i (cd := mX8_isCell) (pc := 2) dX8_takes_2 k_1012 v_X8_isCell ⟨(Nat.le_of_ble_eq_true rfl), (Nat.le_of_ble_eq_true rfl)⟩ rfl rfl (sem_X8_isCell h) (Nat.le_of_ble_eq_true rfl) ?_
  refine Bd_if_eq (t := 25) (pc := 5) dX8_takes_5 (by decide) (fun b5 => ?_) (fun b5 => ?_)
  · refine Bd_iconst (v := -1) (pc := 25) dX8_takes_25 (by decide) ?_
    refine Bd_iret (pc := 26) dX8_takes_26 rfl ?_
    exact ⟨_, rfl, rfl, by rw [takesV, if_neg (b2_0.mp b5)], RP_aw h⟩
  · refine Bd_aload_0 (pc := 8) dX8_takes_8 ?_
    refine Bd_iload_2 (pc := 9) dX8_takes_9 ?_
    refine Bd_callV1i (cd := mX8_isCell) (pc := 10) dX8_takes_10 k_1012 v_X8_isCell ⟨(Nat.le_of_ble_eq_true rfl), (Nat.le_of_ble_eq_true rfl)⟩ rfl rfl (sem_isCellK h.aw) (Nat.le_of_ble_eq_true rfl) ?_
    refine Bd_if_eq (t := 25) (pc := 13) dX8_takes_13 (by decide) (fun b13 => ?_) (fun b13 => ?_)
    · refine Bd_iconst (v := -1) (pc := 25) dX8_takes_25 (by decide) ?_
      refine Bd_iret (pc := 26) dX8_takes_26 rfl ?_
      exact ⟨_, rfl, rfl, by rw [takesV, if_pos (b2_n.mp b5), if_neg (b2_0.mp b13)], RP_aw h⟩
    · refine Bd_aload_0 (pc := 16) dX8_takes_16 ?_
      refine Bd_iload_1 (pc := 17) dX8_takes_17 ?_
      refine Bd_iload_2 (pc := 18) dX8_takes_18 ?_
      refine Bd_callV2i (cd := mX8_takesOf) (pc := 19) dX8_takes_19 k_1020 v_X8_takesOf ⟨(Nat.le_of_ble_eq_true rfl), (Nat.le_of_ble_eq_true rfl)⟩ rfl rfl (sem_X8_takesOf h.aw (b2_n.mp b5).1 (b2_n.mp b13).1) (Nat.le_of_ble_eq_true rfl) ?_
      refine Bd_goto (t := 26) (pc := 22) dX8_takes_22 (by decide) ?_
      refine Bd_iret (pc := 26) dX8_takes_26 rfl ?_
      exact ⟨_, rfl, rfl, by rw [takesV, if_pos (b2_n.mp b5), if_pos (b2_n.mp b13)], RP_aw h⟩
