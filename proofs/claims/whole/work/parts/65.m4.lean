/-! 65: men: the class -/
def bgR (n : Nat) (i : Nat) (M N : Mem) : Prop := (∀ q, q ≠ 10 → q ≠ 11 → q ≠ 12 → q ≠ 13 → N q = M q) ∧ N 10 5 = nI n ∧ ∀ j, j < i → N 11 j = 0 ∧ N 12 j = -1 ∧ N 13 j = -1
theorem bg_s {n i : Nat} {M N : Mem} (h : bgR n i M N) : bgR n (i + 1) M (updM (updM (updM N 11 i 0) 12 i (-1)) 13 i (-1)) := by
  obtain ⟨h1, h2, h3⟩ := h
  refine ⟨fun q q0 q1 q2 q3 => by rw [updM_ne q3, updM_ne q2, updM_ne q1]; exact h1 q q0 q1 q2 q3, by rw [updM_ne (by decide), updM_ne (by decide), updM_ne (by decide)]; exact h2, fun j hj => ?_⟩
  rw [updM_ne (by decide), updM_ne (by decide), updM_eq, updM_ne (by decide), updM_eq, updM_ne (by decide), updM_eq, updM_ne (by decide), updM_ne (by decide)]
  by_cases z : j = i
  · rw [z, upd_eq, upd_eq, upd_eq]; exact ⟨rfl, rfl, rfl⟩
  · rw [upd_ne z, upd_ne z, upd_ne z]; exact h3 j (by omega)
theorem mn24 {n : Nat} (h : n ≤ 24) : (if (24 : Int32) < nI n then 24 else nI n) = nI n := if_neg (nI_nlt (show n ≤ 24 from h) (by decide))
set_option maxRecDepth 100000 in
set_option maxHeartbeats 4000000 in
theorem sem_X1_begin {M : Mem} {n : Nat} (hn : n ≤ 24) : Sem mX1_begin SH [.ref 10, .int (nI n)] M (RV SH (fun N => bgR n n M N)) := by
  refine Sem_of rfl (fun G => (Nat.le_of_ble_eq_true rfl)) (fun G => ?_)
  refine Bd_aload_0 (pc := 0) dX1_begin_0 ?_
  refine Bd_iload_1 (pc := 1) dX1_begin_1 ?_
  refine Bd_bipush (v := 24) (pc := 2) dX1_begin_2 (by decide) ?_
  refine Bd_mmin (pc := 4) dX1_begin_4 k_655 k_544 k_14 k_545 (Nat.le_of_ble_eq_true rfl) (Nat.le_of_ble_eq_true rfl) ?_
  refine Bd_putI (j := 5) (ty := .int) ck1 (pc := 7) dX1_begin_7 k_119 rfl (Nat.le_of_ble_eq_true rfl) rfl rfl pfI rfl rfl ?_
  refine Bd_iconst (v := 0) (pc := 10) dX1_begin_10 (by decide) ?_
  refine Bd_istore_2 (pc := 11) dX1_begin_11 (Nat.le_of_ble_eq_true rfl) rfl ?_
  refine Bd_nx (Bd_wh (pc := 12) (σ := Nat × Mem) (fun x => x.1 ≤ n ∧ bgR n x.1 M x.2) (fun x => n - x.1) (fun x => [some (.ref 10), none, some (.int (nI x.1))]) (fun x => x.2) (fun x hx ih => ?_) (0, updM M 10 5 (if (24 : Int32) < nI n then 24 else nI n)) ⟨Nat.zero_le _, fun q q0 _ _ _ => updM_ne q0, (show updM M 10 5 (if (24 : Int32) < nI n then 24 else nI n) 10 5 = nI n from by rw [updM_eq, upd_eq]; exact mn24 hn), fun j hj => absurd hj (Nat.not_lt_zero j)⟩) ⟨rfl, rfl, trivial⟩
  obtain ⟨i, N⟩ := x
  obtain ⟨hi, hx⟩ := hx
  have hi : i ≤ n := hi
  have hx : bgR n i M N := hx
  show Bd mX1_begin G _ SH 12 [some (.ref 10), none, some (.int (nI i))] [] N
  rcases Nat.lt_or_ge i n with hi | hi2
  · refine Bd_iload_2 (pc := 12) dX1_begin_12 ?_
    refine Bd_aload_0 (pc := 13) dX1_begin_13 ?_
    refine Bd_getI (j := 5) ck1 (pc := 14) dX1_begin_14 k_119 rfl (Nat.le_of_ble_eq_true rfl) rfl ?_
    refine Bd_icmp_ge (t := 47) (pc := 17) dX1_begin_17 (by decide) (fun b17 => (show False from lf_s hx.2.1 (by omega) hi b17).elim) (fun b17 => ?_)
    refine Bd_aload_0 (pc := 20) dX1_begin_20 ?_
    refine Bd_getR (j := 0) ck1 (pc := 21) dX1_begin_21 k_114 rfl (Nat.le_of_ble_eq_true rfl) rfl ?_
    refine Bd_iload_2 (pc := 24) dX1_begin_24 ?_
    refine Bd_iconst (v := 0) (pc := 25) dX1_begin_25 (by decide) ?_
    refine Bd_iastc (j := i) (nI_clamp (by omega)) (pc := 26) dX1_begin_26 rfl (vpi (by omega) (by omega)) ?_
    refine Bd_aload_0 (pc := 27) dX1_begin_27 ?_
    refine Bd_getR (j := 1) ck1 (pc := 28) dX1_begin_28 k_115 rfl (Nat.le_of_ble_eq_true rfl) rfl ?_
    refine Bd_iload_2 (pc := 31) dX1_begin_31 ?_
    refine Bd_iconst (v := -1) (pc := 32) dX1_begin_32 (by decide) ?_
    refine Bd_iastc (j := i) (nI_clamp (by omega)) (pc := 33) dX1_begin_33 rfl (vpi (by omega) (by omega)) ?_
    refine Bd_aload_0 (pc := 34) dX1_begin_34 ?_
    refine Bd_getR (j := 2) ck1 (pc := 35) dX1_begin_35 k_116 rfl (Nat.le_of_ble_eq_true rfl) rfl ?_
    refine Bd_iload_2 (pc := 38) dX1_begin_38 ?_
    refine Bd_iconst (v := -1) (pc := 39) dX1_begin_39 (by decide) ?_
    refine Bd_iastc (j := i) (nI_clamp (by omega)) (pc := 40) dX1_begin_40 rfl (vpi (by omega) (by omega)) ?_
    refine Bd_iinc_2 (pc := 41) dX1_begin_41 (show _ + Int32.ofInt 1 = _ + 1 from rfl) (Nat.le_of_ble_eq_true rfl) rfl ?_
    refine Bd_goto (t := 12) (pc := 44) dX1_begin_44 (by decide) ?_
    exact Bd_nx (ih (i + 1, _) ⟨hi, bg_s hx⟩ (by show n - (i + 1) < n - i; omega)) ⟨rfl, congrArg (fun x => some (Value.int x)) (nI_succ i).symm, trivial⟩
  · have em : n = i := by omega
    subst em
    refine Bd_iload_2 (pc := 12) dX1_begin_12 ?_
    refine Bd_aload_0 (pc := 13) dX1_begin_13 ?_
    refine Bd_getI (j := 5) ck1 (pc := 14) dX1_begin_14 k_119 rfl (Nat.le_of_ble_eq_true rfl) rfl ?_
    refine Bd_icmp_ge (t := 47) (pc := 17) dX1_begin_17 (by decide) (fun b17 => ?_) (fun b17 => (show False from lf_x hx.2.1 b17).elim)
    refine Bd_vret (pc := 47) dX1_begin_47 rfl ?_
    exact ⟨rfl, rfl, hx⟩
set_option maxRecDepth 100000 in
set_option maxHeartbeats 4000000 in
theorem sem_X1_allow {M : Mem} {i j : Nat} (hi : i < 24) : Sem mX1_allow SH [.ref 10, .int (nI i), .int (nI j)] M (PD SH none (updM M 11 i (M 11 i ||| (1 : Int32) <<< (nI j &&& 31)))) := by
  refine Sem_of rfl (fun G => (Nat.le_of_ble_eq_true rfl)) (fun G => ?_)
  refine Bd_aload_0 (pc := 0) dX1_allow_0 ?_
  refine Bd_getR (j := 0) ck1 (pc := 1) dX1_allow_1 k_114 rfl (Nat.le_of_ble_eq_true rfl) rfl ?_
  refine Bd_iload_1 (pc := 4) dX1_allow_4 ?_
  refine Bd_dup2 (pc := 5) dX1_allow_5 rfl rfl ?_
  refine Bd_ialdc (j := i) (nI_clamp (by omega)) (pc := 6) dX1_allow_6 rfl (vpi (by omega) (by omega)) ?_
  refine Bd_iconst (v := 1) (pc := 7) dX1_allow_7 (by decide) ?_
  refine Bd_iload_2 (pc := 8) dX1_allow_8 ?_
  refine Bd_ishl (pc := 9) dX1_allow_9 ?_
  refine Bd_ior (pc := 10) dX1_allow_10 ?_
  refine Bd_iastc (j := i) (nI_clamp (by omega)) (pc := 11) dX1_allow_11 rfl (vpi (by omega) (by omega)) ?_
  refine Bd_vret (pc := 12) dX1_allow_12 rfl ?_
  exact PD_v rfl
/-- men: what may follow, up to i, j -/
def mnR (M : Mem) (n a b : Nat) (N : Mem) : Prop := (∀ q, q ≠ 10 → q ≠ 11 → q ≠ 12 → q ≠ 13 → N q = M q) ∧ N 10 5 = nI n ∧ (∀ j, j < n → N 12 j = -1 ∧ N 13 j = -1) ∧ ∀ i j, i < n → j < n → gb (N 11 i) j = (decide (crF M i j) && decide (i < a ∨ (i = a ∧ j < b)))
theorem mn_0 {M N : Mem} {n : Nat} (h : bgR n n M N) : mnR M n 0 0 N := ⟨h.1, h.2.1, fun j hj => (h.2.2 j hj).2, fun i j hi hj => by rw [(h.2.2 i hi).1, gb_0]; simp⟩
theorem mn_r {M N : Mem} {n a : Nat} (h : mnR M n a n N) : mnR M n (a + 1) 0 N := ⟨h.1, h.2.1, h.2.2.1, fun i j hi hj => by
  rw [h.2.2.2 i j hi hj, decide_eq_decide.mpr (show (i < a ∨ (i = a ∧ j < n)) ↔ (i < a + 1 ∨ (i = a + 1 ∧ j < 0)) by omega)]⟩
theorem mn_f {M N : Mem} {n a b : Nat} (h : mnR M n a b N) (hc : ¬ crF M a b) : mnR M n a (b + 1) N := ⟨h.1, h.2.1, h.2.2.1, fun i j hi hj => by
  rw [h.2.2.2 i j hi hj]
  by_cases z : i = a ∧ j = b
  · rw [z.1, z.2, decide_eq_false hc]; rfl
  · rw [decide_eq_decide.mpr (show (i < a ∨ (i = a ∧ j < b)) ↔ (i < a ∨ (i = a ∧ j < b + 1)) by omega)]⟩
theorem mn_t {M N : Mem} {n a b : Nat} (hn : n ≤ 24) (hb : b < n) (h : mnR M n a b N) (hc : crF M a b) : mnR M n a (b + 1) (updM N 11 a (N 11 a ||| (1 : Int32) <<< (nI b &&& 31))) := ⟨fun q q0 q1 q2 q3 => by rw [updM_ne q1]; exact h.1 q q0 q1 q2 q3, by rw [updM_ne (by decide)]; exact h.2.1, fun j hj => by rw [updM_ne (by decide), updM_ne (by decide)]; exact h.2.2.1 j hj, fun i j hi hj => by
  rw [updM_eq]
  by_cases y : i = a
  · subst y
    rw [upd_eq, mask1 (by omega) (by omega), h.2.2.2 i j hi hj]
    by_cases z : j = b
    · rw [z, decide_eq_true hc]; simp
    · rw [decide_eq_false z, Bool.or_false, decide_eq_decide.mpr (show (i < i ∨ (i = i ∧ j < b)) ↔ (i < i ∨ (i = i ∧ j < b + 1)) by omega)]
  · rw [upd_ne y, h.2.2.2 i j hi hj, decide_eq_decide.mpr (show (i < a ∨ (i = a ∧ j < b)) ↔ (i < a ∨ (i = a ∧ j < b + 1)) by omega)]⟩
theorem mn_ce {M N : Mem} {n a b : Nat} (h : mnR M n a b N) : CE N M := fun k hk => h.1 k (fun z => by rw [z] at hk; exact absurd hk (by decide)) (fun z => by rw [z] at hk; exact absurd hk (by decide)) (fun z => by rw [z] at hk; exact absurd hk (by decide)) (fun z => by rw [z] at hk; exact absurd hk (by decide))
theorem crF_c {M N : Mem} (h : CE N M) {i j : Nat} : crF N i j ↔ crF M i j := by
  show mxF 1 (N 45 3 * hfF (N 46 (cn (N 6 i))) (N 46 (cn (N 6 j)))) ≤ N 7 j - N 7 i ↔ _
  rw [h 45 rfl, h 46 rfl, h 6 rfl, h 7 rfl]
theorem scr_o {k : Nat} (hk : scr k = false) : k < 12 ∨ 15 < k := by
  rcases Nat.lt_or_ge k 12 with z | z
  · exact Or.inl z
  · rcases Nat.lt_or_ge 15 k with y | y
    · exact Or.inr y
    · have : k = 12 ∨ k = 13 ∨ k = 14 ∨ k = 15 := by omega
      rcases this with w | w | w | w
      · rw [w] at hk; exact absurd hk (by decide)
      · rw [w] at hk; exact absurd hk (by decide)
      · rw [w] at hk; exact absurd hk (by decide)
      · rw [w] at hk; exact absurd hk (by decide)
def menV (M : Mem) : Int32 := nI (cn (M 5 4) - menF M (cn (M 5 4)))
set_option maxRecDepth 100000 in
set_option maxHeartbeats 4000000 in
theorem sem_X7_men {M : Mem} (h : WF M) : Sem mX7_men SH [.ref 0] M (RI SH (fun r N => r = menV M ∧ CE N M)) := by
  have q1 := h.nb24
  have q2 := h.nn12
  have q3 := h.nt6
  have q4 := h.nh3
  have q5 := h.nmb
  refine Sem_of rfl (fun G => (Nat.le_of_ble_eq_true rfl)) (fun G => ?_)
  refine Bd_aload_0 (pc := 0) dX7_men_0 ?_
  refine Bd_getR (j := 3) ck7 (pc := 1) dX7_men_1 k_238 rfl (Nat.le_of_ble_eq_true rfl) rfl ?_
  refine Bd_aload_0 (pc := 4) dX7_men_4 ?_
  refine Bd_getR (j := 2) ck7 (pc := 5) dX7_men_5 k_237 rfl (Nat.le_of_ble_eq_true rfl) rfl ?_
  refine Bd_getI (j := 4) ck0 (pc := 8) dX7_men_8 k_92 rfl (Nat.le_of_ble_eq_true rfl) rfl ?_
  refine Bd_callV1y (cd := mX1_begin) (pc := 11) dX7_men_11 k_651 v_X1_begin ⟨(Nat.le_of_ble_eq_true rfl), (Nat.le_of_ble_eq_true rfl)⟩ rfl rfl (by have q := sem_X1_begin (M := M) (n := cn (M 5 4)) h.nb24; rw [← h.nb] at q; exact q) (Nat.le_of_ble_eq_true rfl) (fun M11 e11 => ?_)
  refine Bd_iconst (v := 0) (pc := 14) dX7_men_14 (by decide) ?_
  refine Bd_istore_1 (pc := 15) dX7_men_15 (Nat.le_of_ble_eq_true rfl) rfl ?_
  refine Bd_nx (Bd_wh (pc := 16) (σ := Nat × Mem) (fun x => x.1 ≤ cn (M 5 4) ∧ mnR M (cn (M 5 4)) x.1 0 x.2) (fun x => cn (M 5 4) - x.1) (fun x => [some (.ref 0), some (.int (nI x.1)), none]) (fun x => x.2) (fun x hx ih => ?_) (0, M11) ⟨Nat.zero_le _, mn_0 e11⟩) ⟨rfl, rfl, trivial⟩
  obtain ⟨a, N⟩ := x
  obtain ⟨ha, hx⟩ := hx
  have ha : a ≤ cn (M 5 4) := ha
  have hx : mnR M (cn (M 5 4)) a 0 N := hx
  show Bd mX7_men G _ SH 16 [some (.ref 0), some (.int (nI a)), none] [] N
  rcases Nat.lt_or_ge a (cn (M 5 4)) with ha | ha2
  · refine Bd_iload_1 (pc := 16) dX7_men_16 ?_
    refine Bd_aload_0 (pc := 17) dX7_men_17 ?_
    refine Bd_getR (j := 2) ck7 (pc := 18) dX7_men_18 k_237 rfl (Nat.le_of_ble_eq_true rfl) rfl ?_
    refine Bd_getI (j := 4) ck0 (pc := 21) dX7_men_21 k_92 rfl (Nat.le_of_ble_eq_true rfl) rfl ?_
    refine Bd_icmp_ge (t := 70) (pc := 24) dX7_men_24 (by decide) (fun b24 => (show False from lf_s ((congrFun (hx.1 5 (by decide) (by decide) (by decide) (by decide)) 4).trans h.nb) (by omega) ha b24).elim) (fun b24 => ?_)
    refine Bd_iconst (v := 0) (pc := 27) dX7_men_27 (by decide) ?_
    refine Bd_istore_2 (pc := 28) dX7_men_28 (Nat.le_of_ble_eq_true rfl) rfl ?_
    refine Bd_nx (Bd_wh (pc := 29) (σ := Nat × Mem) (fun y => y.1 ≤ cn (M 5 4) ∧ mnR M (cn (M 5 4)) a y.1 y.2) (fun y => cn (M 5 4) - y.1) (fun y => [some (.ref 0), some (.int (nI a)), some (.int (nI y.1))]) (fun y => y.2) (fun y hy ihj => ?_) (0, N) ⟨Nat.zero_le _, hx⟩) ⟨rfl, rfl, rfl, trivial⟩
    obtain ⟨b, N⟩ := y
    obtain ⟨hb, hx⟩ := hy
    have hb : b ≤ cn (M 5 4) := hb
    have hx : mnR M (cn (M 5 4)) a b N := hx
    show Bd mX7_men G _ SH 29 [some (.ref 0), some (.int (nI a)), some (.int (nI b))] [] N
    rcases Nat.lt_or_ge b (cn (M 5 4)) with hb | hb2
    · refine Bd_iload_2 (pc := 29) dX7_men_29 ?_
      refine Bd_aload_0 (pc := 30) dX7_men_30 ?_
      refine Bd_getR (j := 2) ck7 (pc := 31) dX7_men_31 k_237 rfl (Nat.le_of_ble_eq_true rfl) rfl ?_
      refine Bd_getI (j := 4) ck0 (pc := 34) dX7_men_34 k_92 rfl (Nat.le_of_ble_eq_true rfl) rfl ?_
      refine Bd_icmp_ge (t := 64) (pc := 37) dX7_men_37 (by decide) (fun b37 => (show False from lf_s ((congrFun (hx.1 5 (by decide) (by decide) (by decide) (by decide)) 4).trans h.nb) (by omega) hb b37).elim) (fun b37 => ?_)
      refine Bd_aload_0 (pc := 40) dX7_men_40 ?_
      refine Bd_iload_1 (pc := 41) dX7_men_41 ?_
      refine Bd_iload_2 (pc := 42) dX7_men_42 ?_
      refine Bd_callV2i (cd := mX7_canRun) (pc := 43) dX7_men_43 k_656 v_X7_canRun ⟨(Nat.le_of_ble_eq_true rfl), (Nat.le_of_ble_eq_true rfl)⟩ rfl rfl (sem_X7_canRun (by omega) (by omega) ((CE_wf (mn_ce hx) h).bt6 (by rw [hx.1 5 (by decide) (by decide) (by decide) (by decide)]; exact ha)) ((CE_wf (mn_ce hx) h).bt6 (by rw [hx.1 5 (by decide) (by decide) (by decide) (by decide)]; exact hb))) (Nat.le_of_ble_eq_true rfl) ?_
      refine Bd_if_eq (t := 58) (pc := 46) dX7_men_46 (by decide) (fun b46 => ?_) (fun b46 => ?_)
      · refine Bd_iinc_2 (pc := 58) dX7_men_58 (show _ + Int32.ofInt 1 = _ + 1 from rfl) (Nat.le_of_ble_eq_true rfl) rfl ?_
        refine Bd_goto (t := 29) (pc := 61) dX7_men_61 (by decide) ?_
        exact Bd_nx (ihj (b + 1, _) ⟨hb, mn_f hx (fun z => b2_0.mp b46 ((crF_c (mn_ce hx)).mpr z))⟩ (by show cn (M 5 4) - (b + 1) < cn (M 5 4) - b; omega)) ⟨rfl, rfl, congrArg (fun x => some (Value.int x)) (nI_succ b).symm, trivial⟩
      · refine Bd_aload_0 (pc := 49) dX7_men_49 ?_
        refine Bd_getR (j := 3) ck7 (pc := 50) dX7_men_50 k_238 rfl (Nat.le_of_ble_eq_true rfl) rfl ?_
        refine Bd_iload_1 (pc := 53) dX7_men_53 ?_
        refine Bd_iload_2 (pc := 54) dX7_men_54 ?_
        refine Bd_callV2v (cd := mX1_allow) (pc := 55) dX7_men_55 k_661 v_X1_allow ⟨(Nat.le_of_ble_eq_true rfl), (Nat.le_of_ble_eq_true rfl)⟩ rfl rfl (sem_X1_allow (by omega)) (Nat.le_of_ble_eq_true rfl) ?_
        refine Bd_iinc_2 (pc := 58) dX7_men_58 (show _ + Int32.ofInt 1 = _ + 1 from rfl) (Nat.le_of_ble_eq_true rfl) rfl ?_
        refine Bd_goto (t := 29) (pc := 61) dX7_men_61 (by decide) ?_
        exact Bd_nx (ihj (b + 1, _) ⟨hb, mn_t (by omega) hb hx ((crF_c (mn_ce hx)).mp (b2_n.mp b46))⟩ (by show cn (M 5 4) - (b + 1) < cn (M 5 4) - b; omega)) ⟨rfl, rfl, congrArg (fun x => some (Value.int x)) (nI_succ b).symm, trivial⟩
    · have eb : b = cn (M 5 4) := by omega
      subst eb
      refine Bd_iload_2 (pc := 29) dX7_men_29 ?_
      refine Bd_aload_0 (pc := 30) dX7_men_30 ?_
      refine Bd_getR (j := 2) ck7 (pc := 31) dX7_men_31 k_237 rfl (Nat.le_of_ble_eq_true rfl) rfl ?_
      refine Bd_getI (j := 4) ck0 (pc := 34) dX7_men_34 k_92 rfl (Nat.le_of_ble_eq_true rfl) rfl ?_
      refine Bd_icmp_ge (t := 64) (pc := 37) dX7_men_37 (by decide) (fun b37 => ?_) (fun b37 => (show False from lf_x ((congrFun (hx.1 5 (by decide) (by decide) (by decide) (by decide)) 4).trans h.nb) b37).elim)
      refine Bd_iinc_1 (pc := 64) dX7_men_64 (show _ + Int32.ofInt 1 = _ + 1 from rfl) (Nat.le_of_ble_eq_true rfl) rfl ?_
      refine Bd_goto (t := 16) (pc := 67) dX7_men_67 (by decide) ?_
      exact Bd_nx (ih (a + 1, N) ⟨ha, mn_r hx⟩ (by show cn (M 5 4) - (a + 1) < cn (M 5 4) - a; omega)) ⟨rfl, congrArg (fun x => some (Value.int x)) (nI_succ a).symm, trivial⟩
  · have ea : a = cn (M 5 4) := by omega
    subst ea
    refine Bd_iload_1 (pc := 16) dX7_men_16 ?_
    refine Bd_aload_0 (pc := 17) dX7_men_17 ?_
    refine Bd_getR (j := 2) ck7 (pc := 18) dX7_men_18 k_237 rfl (Nat.le_of_ble_eq_true rfl) rfl ?_
    refine Bd_getI (j := 4) ck0 (pc := 21) dX7_men_21 k_92 rfl (Nat.le_of_ble_eq_true rfl) rfl ?_
    refine Bd_icmp_ge (t := 70) (pc := 24) dX7_men_24 (by decide) (fun b24 => ?_) (fun b24 => (show False from lf_x ((congrFun (hx.1 5 (by decide) (by decide) (by decide) (by decide)) 4).trans h.nb) b24).elim)
    refine Bd_aload_0 (pc := 70) dX7_men_70 ?_
    refine Bd_getR (j := 3) ck7 (pc := 71) dX7_men_71 k_238 rfl (Nat.le_of_ble_eq_true rfl) rfl ?_
    refine Bd_callV0x (cd := mX1_least) (pc := 74) dX7_men_74 k_665 v_X1_least ⟨(Nat.le_of_ble_eq_true rfl), (Nat.le_of_ble_eq_true rfl)⟩ rfl rfl (sem_X1_least (can := fun i j => decide (crF M i j)) q1 hx.2.1 (fun i j hi hj => by rw [hx.2.2.2 i j hi hj, decide_eq_true (Or.inl hi), Bool.and_true]) hx.2.2.1) (Nat.le_of_ble_eq_true rfl) (fun x74 M74 e74 => ?_)
    refine Bd_iret (pc := 77) dX7_men_77 rfl ?_
    exact ⟨_, rfl, rfl, e74.1, fun k hk => by rw [e74.2 k (scr_o hk)]; exact mn_ce hx k hk⟩
