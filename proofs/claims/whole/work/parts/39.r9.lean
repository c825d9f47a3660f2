/-! 39: the reference: lags; both; count, sheet, lay, feed -/
def LN (C : Mem) (a b : Int32) : Mem := fun k => if k = 42 then lgF C a b else C k
theorem tlF_n {N N' : Mem} {tone g : Int32} (h47 : N 47 = N' 47) : ∀ n, (∀ t, t < n → N 42 t = N' 42 t) → tlF N tone g n = tlF N' tone g n
  | 0, _ => rfl
  | n + 1, h => by unfold tlF tlP hpN; rw [tlF_n h47 n (fun t ht => h t (by omega)), h n (by omega), h47]
theorem LN_tl {C N : Mem} {a b : Int32} (h1 : ∀ q, q ≠ 42 → N q = C q) (h2 : ∀ t, t < cn (C 44 6) → N 42 t = lgF C a b t) {tone g : Int32} : tlF N tone g (cn (C 44 6)) = tlF (LN C a b) tone g (cn (C 44 6)) := tlF_n (N' := LN C a b) (show N 47 = LN C a b 47 from h1 47 (by decide)) _ h2
theorem LN_tg {C N : Mem} {a b : Int32} (h1 : ∀ q, q ≠ 42 → N q = C q) (h2 : ∀ t, t < cn (C 44 6) → N 42 t = lgF C a b t) {g : Int32} (i : Nat) : tgF N g i = tgF (LN C a b) g i := by
  show tlF N (N 50 i) g (cn (N 44 6)) = tlF (LN C a b) (C 50 i) g (cn (C 44 6))
  rw [h1 50 (by decide), h1 44 (by decide)]
  exact LN_tl h1 h2
set_option maxRecDepth 100000 in
set_option maxHeartbeats 4000000 in
theorem sem_X8_towerBy {C M : Mem} (h : RK C M) {n : Nat} (hn : n < cn (C 44 8)) {a b g : Int32} (ha : c81 a) (hb : c81 b) : Sem mX8_towerBy SH [.ref 58, .int (nI n), .int a, .int b, .int g] M (PD SH (some (.int (tlF (LN C a b) (C 50 n) g (cn (C 44 6))))) (M)) := by
  have q3 := h.1.nt6
  have q2 := h.1.nn12
  refine Sem_of rfl (fun G => (Nat.le_of_ble_eq_true rfl)) (fun G => ?_)
  refine Bd_iconst (v := 0) (pc := 0) dX8_towerBy_0 (by decide) ?_
  refine Bd_istore_5 (pc := 1) dX8_towerBy_1 (Nat.le_of_ble_eq_true rfl) rfl ?_
  refine Bd_nx (L' := (fun i => [some (.ref 58), some (.int (nI n)), some (.int a), some (.int b), some (.int g), some (.int (nI i)), none]) 0) ?_ (by repeat (first | exact True.intro | refine And.intro rfl ?_))
  refine Bd_for (pc := 3) (c := (cn (C 44 6))) (fun i => [some (.ref 58), some (.int (nI n)), some (.int a), some (.int b), some (.int g), some (.int (nI i)), none]) (fun _ => M) (fun i => ¬ 0 ≤ tlF (LN C a b) (C 50 n) g i) (fun ivi => ?_) (fun i hi ivi ihi => ?_) (by show ¬ (0 : Int32) ≤ -4; decide)
  · refine Bd_iload_5 (pc := 3) dX8_towerBy_3 ?_
    refine Bd_aload_0 (pc := 5) dX8_towerBy_5 ?_
    refine Bd_getR (j := 0) ck8 (pc := 6) dX8_towerBy_6 k_786 rfl (Nat.le_of_ble_eq_true rfl) rfl ?_
    refine Bd_bipush (v := 113) (pc := 9) dX8_towerBy_9 (by decide) ?_
    refine Bd_ialdc (j := 113) rfl (pc := 11) dX8_towerBy_11 rfl (by unfold vp_in; decide) ?_
    refine Bd_icmp_ge (t := 74) (pc := 12) dX8_towerBy_12 (by decide) (fun b12 => ?_) (fun b12 => (show False from lf_x (show M 59 113 = nI (cn (C 44 6)) from by rw [show M 59 113 = C 44 6 from h.2.1.1.2.2.1]; exact h.1.nt) b12).elim)
    refine Bd_bipush (v := -4) (pc := 74) dX8_towerBy_74 (by decide) ?_
    refine Bd_iret (pc := 76) dX8_towerBy_76 rfl ?_
    exact PD_i (tlF_4 _ q3 ivi).symm rfl
  · refine Bd_iload_5 (pc := 3) dX8_towerBy_3 ?_
    refine Bd_aload_0 (pc := 5) dX8_towerBy_5 ?_
    refine Bd_getR (j := 0) ck8 (pc := 6) dX8_towerBy_6 k_786 rfl (Nat.le_of_ble_eq_true rfl) rfl ?_
    refine Bd_bipush (v := 113) (pc := 9) dX8_towerBy_9 (by decide) ?_
    refine Bd_ialdc (j := 113) rfl (pc := 11) dX8_towerBy_11 rfl (by unfold vp_in; decide) ?_
    refine Bd_icmp_ge (t := 74) (pc := 12) dX8_towerBy_12 (by decide) (fun b12 => (show False from lf_s (show M 59 113 = nI (cn (C 44 6)) from by rw [show M 59 113 = C 44 6 from h.2.1.1.2.2.1]; exact h.1.nt) (by omega) hi b12).elim) (fun b12 => ?_)
    refine Bd_aload_0 (pc := 15) dX8_towerBy_15 ?_
    refine Bd_getR (j := 0) ck8 (pc := 16) dX8_towerBy_16 k_786 rfl (Nat.le_of_ble_eq_true rfl) rfl ?_
    refine Bd_iconst (v := 0) (pc := 19) dX8_towerBy_19 (by decide) ?_
    refine Bd_iload_5 (pc := 20) dX8_towerBy_20 ?_
    refine Bd_iadd (pc := 22) dX8_towerBy_22 ?_
    refine Bd_ialdc (j := i) (by rw [Int32.zero_add]; exact nI_clamp (by omega)) (pc := 23) dX8_towerBy_23 rfl (by rw [Int32.zero_add]; exact vpi (by omega) (by omega)) ?_
    rw [(h.2.1.1.2.2.2.1 i hi).1]
    refine Bd_istore_6 (pc := 24) dX8_towerBy_24 (Nat.le_of_ble_eq_true rfl) rfl ?_
    refine Bd_aload_0 (pc := 26) dX8_towerBy_26 ?_
    refine Bd_iload_5 (pc := 27) dX8_towerBy_27 ?_
    refine Bd_aload_0 (pc := 29) dX8_towerBy_29 ?_
    refine Bd_getR (j := 4) ck8 (pc := 30) dX8_towerBy_30 k_790 rfl (Nat.le_of_ble_eq_true rfl) rfl ?_
    refine Bd_iconst (v := 2) (pc := 33) dX8_towerBy_33 (by decide) ?_
    refine Bd_iload_1 (pc := 34) dX8_towerBy_34 ?_
    refine Bd_imul (pc := 35) dX8_towerBy_35 ?_
    refine Bd_iconst (v := 1) (pc := 36) dX8_towerBy_36 (by decide) ?_
    refine Bd_iadd (pc := 37) dX8_towerBy_37 ?_
    refine Bd_ialdc (j := 2 * n + 1) (by rw [tn3 n (by omega)]; exact nI_clamp (by omega)) (pc := 38) dX8_towerBy_38 rfl (by rw [tn3 n (by omega)]; exact vpi (by omega) (by omega)) ?_
    rw [h.rf.nt' hn]
    refine Bd_callV2i (cd := mX8_has) (pc := 39) dX8_towerBy_39 k_1080 v_X8_has ⟨(Nat.le_of_ble_eq_true rfl), (Nat.le_of_ble_eq_true rfl)⟩ rfl rfl (sem_X8_has h.rf hi) (Nat.le_of_ble_eq_true rfl) ?_
    refine Bd_if_eq (t := 68) (pc := 42) dX8_towerBy_42 (by decide) (fun b42 => ?_) (fun b42 => ?_)
    · refine Bd_iinc_5 (pc := 68) dX8_towerBy_68 (show _ + Int32.ofInt 1 = _ + 1 from rfl) (Nat.le_of_ble_eq_true rfl) rfl ?_
      refine Bd_goto (t := 3) (pc := 71) dX8_towerBy_71 (by decide) ?_
      exact Bd_nx (ihi (by show ¬ 0 ≤ (if 0 ≤ tlF (LN C a b) (C 50 n) g i then _ else if tlP (LN C a b) (C 50 n) g i then nI i else -4); rw [if_neg ivi, if_neg (fun q => b2_0.mp b42 q.2)]; decide)) (by simp [wkP, nI_succ])
    · refine Bd_aload_0 (pc := 45) dX8_towerBy_45 ?_
      refine Bd_iload_6 (pc := 46) dX8_towerBy_46 ?_
      refine Bd_iload_3 (pc := 48) dX8_towerBy_48 ?_
      refine Bd_callV2i (cd := mX8_takesOf) (pc := 49) dX8_towerBy_49 k_1020 v_X8_takesOf ⟨(Nat.le_of_ble_eq_true rfl), (Nat.le_of_ble_eq_true rfl)⟩ rfl rfl (sem_X8_takesOf h (h.1.tc hi) hb) (Nat.le_of_ble_eq_true rfl) ?_
      refine Bd_aload_0 (pc := 52) dX8_towerBy_52 ?_
      refine Bd_iload_6 (pc := 53) dX8_towerBy_53 ?_
      refine Bd_iload_2 (pc := 55) dX8_towerBy_55 ?_
      refine Bd_callV2i (cd := mX8_takesOf) (pc := 56) dX8_towerBy_56 k_1020 v_X8_takesOf ⟨(Nat.le_of_ble_eq_true rfl), (Nat.le_of_ble_eq_true rfl)⟩ rfl rfl (sem_X8_takesOf h (h.1.tc hi) ha) (Nat.le_of_ble_eq_true rfl) ?_
      refine Bd_isub (pc := 59) dX8_towerBy_59 ?_
      refine Bd_iload_4 (pc := 60) dX8_towerBy_60 ?_
      refine Bd_icmp_ne (t := 68) (pc := 62) dX8_towerBy_62 (by decide) (fun b62 => ?_) (fun b62 => ?_)
      · refine Bd_iinc_5 (pc := 68) dX8_towerBy_68 (show _ + Int32.ofInt 1 = _ + 1 from rfl) (Nat.le_of_ble_eq_true rfl) rfl ?_
        refine Bd_goto (t := 3) (pc := 71) dX8_towerBy_71 (by decide) ?_
        exact Bd_nx (ihi (by show ¬ 0 ≤ (if 0 ≤ tlF (LN C a b) (C 50 n) g i then _ else if tlP (LN C a b) (C 50 n) g i then nI i else -4); rw [if_neg ivi, if_neg (fun q => b62 q.1)]; decide)) (by simp [wkP, nI_succ])
      · refine Bd_iload_5 (pc := 65) dX8_towerBy_65 ?_
        refine Bd_iret (pc := 67) dX8_towerBy_67 rfl ?_
        have he : tlF (LN C a b) (C 50 n) g (i + 1) = nI i := by { show (if 0 ≤ _ then _ else if tlP (LN C a b) (C 50 n) g i then nI i else -4) = _; rw [if_neg ivi, if_pos ⟨b62, b2_n.mp b42⟩] }
        exact PD_i (by rw [tlF_s (i := i + 1) (by rw [he]; exact nI_pos' (by omega)) _ (by omega), he]) rfl
def clM (M : Mem) (ch : Nat → Int32) : Nat → Mem
  | 0 => M
  | i + 1 => updM (clM M ch i) 70 i (ch i)
theorem clM_ne {M : Mem} {ch : Nat → Int32} {k : Nat} (h : k ≠ 70) : ∀ i, clM M ch i k = M k
  | 0 => rfl
  | i + 1 => by unfold clM; rw [updM_ne h]; exact clM_ne h i
theorem clM_v {M : Mem} {ch : Nat → Int32} : ∀ i j, j < i → clM M ch i 70 j = ch j
  | 0, j, h => absurd h (Nat.not_lt_zero j)
  | i + 1, j, h => by
    unfold clM; rw [updM_eq]
    by_cases z : j = i
    · subst z; exact upd_eq
    · rw [upd_ne z]; exact clM_v i j (by omega)
theorem clM_sc {M : Mem} {ch : Nat → Int32} {i k : Nat} (h : rsc k = false) : clM M ch i k = M k := clM_ne (fun z => by rw [z] at h; exact absurd h (by decide)) i
abbrev okL (C : Mem) (a b g : Int32) (n : Nat) : Prop := ∀ i, i < n → 0 ≤ tgF (LN C a b) g i
theorem tg_4 {C : Mem} (h : WF C) {a b g : Int32} {i : Nat} : tgF (LN C a b) g i = -4 ↔ ¬ 0 ≤ tgF (LN C a b) g i := by
  have n6 := h.nt6
  rcases tlF_r (M := LN C a b) (tone := C 50 i) (lag := g) (cn (C 44 6)) with q | ⟨t, t1, q, -⟩
  · show tlF (LN C a b) (C 50 i) g (cn (C 44 6)) = -4 ↔ ¬ 0 ≤ tlF (LN C a b) (C 50 i) g (cn (C 44 6))
    rw [q]; exact ⟨fun _ => by decide, fun _ => rfl⟩
  · show tlF (LN C a b) (C 50 i) g (cn (C 44 6)) = -4 ↔ ¬ 0 ≤ tlF (LN C a b) (C 50 i) g (cn (C 44 6))
    rw [q]; exact ⟨fun z => absurd z (nI_n4 (by omega)), fun z => absurd (nI_pos' (by omega)) z⟩
theorem tg_vp {C : Mem} (h : WF C) {a b g : Int32} {i : Nat} (h0 : 0 ≤ tgF (LN C a b) g i) : ∃ t, t < cn (C 44 6) ∧ tgF (LN C a b) g i = nI t := by
  rcases tlF_r (M := LN C a b) (tone := C 50 i) (lag := g) (cn (C 44 6)) with q | ⟨t, t1, q, -⟩
  · exact absurd h0 (tg_4 h |>.mp q)
  · exact ⟨t, t1, q⟩
set_option maxRecDepth 100000 in
set_option maxHeartbeats 4000000 in
theorem sem_X8_canLag {C M : Mem} (h : RK C M) {a b g : Int32} (ha : c81 a) (hb : c81 b) : Sem mX8_canLag SH [.ref 58, .int a, .int b, .int g] M (RI SH (fun r N => r = b2 (okL C a b g (cn (C 44 8))) ∧ (∀ k, k ≠ 70 → N k = M k) ∧ (okL C a b g (cn (C 44 8)) → ∀ i, i < cn (C 44 8) → N 70 i = tgF (LN C a b) g i))) := by
  have q2 := h.1.nn12
  refine Sem_of rfl (fun G => (Nat.le_of_ble_eq_true rfl)) (fun G => ?_)
  refine Bd_iconst (v := 1) (pc := 0) dX8_canLag_0 (by decide) ?_
  refine Bd_istore_4 (pc := 1) dX8_canLag_1 (Nat.le_of_ble_eq_true rfl) rfl ?_
  refine Bd_iconst (v := 0) (pc := 3) dX8_canLag_3 (by decide) ?_
  refine Bd_istore_5 (pc := 4) dX8_canLag_4 (Nat.le_of_ble_eq_true rfl) rfl ?_
  refine Bd_nx (L' := [some (.ref 58), some (.int a), some (.int b), some (.int g), some (.int (b2 (okL C a b g 0))), some (.int (nI 0))]) ?_ ⟨rfl, rfl, rfl, rfl, congrArg (fun x => some (Value.int x)) (b2_t (fun j hj => absurd hj (Nat.not_lt_zero j))), rfl, trivial⟩
  refine Bd_for (pc := 6) (c := (cn (C 44 8))) (fun i => [some (.ref 58), some (.int a), some (.int b), some (.int g), some (.int (b2 (okL C a b g i))), some (.int (nI i))]) (fun i => clM M (tgF (LN C a b) g) i) (fun _ => True) (fun ivi => ?_) (fun i hi ivi ihi => ?_) trivial
  · refine Bd_iload_5 (pc := 6) dX8_canLag_6 ?_
    refine Bd_aload_0 (pc := 8) dX8_canLag_8 ?_
    refine Bd_getI (j := 5) ck8 (pc := 9) dX8_canLag_9 k_791 rfl (Nat.le_of_ble_eq_true rfl) rfl ?_
    refine Bd_icmp_ge (t := 61) (pc := 12) dX8_canLag_12 (by decide) (fun b12 => ?_) (fun b12 => (show False from lf_x (show _ = nI (cn (C 44 8)) from by rw [clM_ne (by decide)]; exact h.rf.nn') b12).elim)
    refine Bd_iload_4 (pc := 61) dX8_canLag_61 ?_
    refine Bd_zret (pc := 63) dX8_canLag_63 rfl b2_nar ?_
    exact ⟨_, rfl, rfl, rfl, fun k hk => clM_ne hk _, fun _ i hi => clM_v _ _ hi⟩
  · refine Bd_iload_5 (pc := 6) dX8_canLag_6 ?_
    refine Bd_aload_0 (pc := 8) dX8_canLag_8 ?_
    refine Bd_getI (j := 5) ck8 (pc := 9) dX8_canLag_9 k_791 rfl (Nat.le_of_ble_eq_true rfl) rfl ?_
    refine Bd_icmp_ge (t := 61) (pc := 12) dX8_canLag_12 (by decide) (fun b12 => (show False from lf_s (show _ = nI (cn (C 44 8)) from by rw [clM_ne (by decide)]; exact h.rf.nn') (by omega) hi b12).elim) (fun b12 => ?_)
    refine Bd_iload_4 (pc := 15) dX8_canLag_15 ?_
    refine Bd_if_eq (t := 61) (pc := 17) dX8_canLag_17 (by decide) (fun b17 => ?_) (fun b17 => ?_)
    · refine Bd_iload_4 (pc := 61) dX8_canLag_61 ?_
      refine Bd_zret (pc := 63) dX8_canLag_63 rfl b2_nar ?_
      have hno : ¬ okL C a b g (cn (C 44 8)) := fun z => b2_0.mp b17 (fun j hj => z j (by omega))
      exact ⟨_, rfl, rfl, b2_c ⟨fun z => absurd z (b2_0.mp b17), fun z => absurd z hno⟩, fun k hk => clM_ne hk _, fun z => absurd z hno⟩
    · refine Bd_aload_0 (pc := 20) dX8_canLag_20 ?_
      refine Bd_getR (j := 28) ck8 (pc := 21) dX8_canLag_21 k_814 rfl (Nat.le_of_ble_eq_true rfl) rfl ?_
      refine Bd_iload_5 (pc := 24) dX8_canLag_24 ?_
      refine Bd_aload_0 (pc := 26) dX8_canLag_26 ?_
      refine Bd_iload_5 (pc := 27) dX8_canLag_27 ?_
      refine Bd_iload_1 (pc := 29) dX8_canLag_29 ?_
      refine Bd_iload_2 (pc := 30) dX8_canLag_30 ?_
      refine Bd_iload_3 (pc := 31) dX8_canLag_31 ?_
      refine Bd_callV4i (cd := mX8_towerBy) (pc := 32) dX8_canLag_32 k_1126 v_X8_towerBy ⟨(Nat.le_of_ble_eq_true rfl), (Nat.le_of_ble_eq_true rfl)⟩ rfl rfl (sem_X8_towerBy (RK_sc (fun k hk => clM_sc hk) h) hi ha hb) (Nat.le_of_ble_eq_true rfl) ?_
      refine Bd_iastc (j := i) (nI_clamp (by omega)) (pc := 35) dX8_canLag_35 rfl (vpi (by omega) (by omega)) ?_
      refine Bd_aload_0 (pc := 36) dX8_canLag_36 ?_
      refine Bd_getR (j := 28) ck8 (pc := 37) dX8_canLag_37 k_814 rfl (Nat.le_of_ble_eq_true rfl) rfl ?_
      refine Bd_iload_5 (pc := 40) dX8_canLag_40 ?_
      refine Bd_ialdc (j := i) (nI_clamp (by omega)) (pc := 42) dX8_canLag_42 rfl (vpi (by omega) (by omega)) ?_
      refine Bd_bipush (v := -4) (pc := 43) dX8_canLag_43 (by decide) ?_
      have hv : (updM (clM M (tgF (LN C a b) g) i) 70 i (tlF (LN C a b) (C 50 i) g (cn (C 44 6)))) 70 i = tgF (LN C a b) g i := by rw [updM_eq]; exact upd_eq
      rw [hv]
      refine Bd_icmp_eq (t := 52) (pc := 45) dX8_canLag_45 (by decide) (fun b45 => ?_) (fun b45 => ?_)
      · refine Bd_iconst (v := 0) (pc := 52) dX8_canLag_52 (by decide) ?_
        refine Bd_istore_4 (pc := 53) dX8_canLag_53 (Nat.le_of_ble_eq_true rfl) rfl ?_
        refine Bd_iinc_5 (pc := 55) dX8_canLag_55 (show _ + Int32.ofInt 1 = _ + 1 from rfl) (Nat.le_of_ble_eq_true rfl) rfl ?_
        refine Bd_goto (t := 6) (pc := 58) dX8_canLag_58 (by decide) ?_
        have z := b2_n.mp b17
        exact Bd_nx (ihi trivial) ⟨rfl, rfl, rfl, rfl, congrArg (fun x => some (Value.int x)) (b2_f (fun y => (tg_4 h.1).mp b45 (y i (by omega)))), congrArg (fun x => some (Value.int x)) (nI_succ i).symm, trivial⟩
      · refine Bd_iconst (v := 1) (pc := 48) dX8_canLag_48 (by decide) ?_
        refine Bd_goto (t := 53) (pc := 49) dX8_canLag_49 (by decide) ?_
        refine Bd_istore_4 (pc := 53) dX8_canLag_53 (Nat.le_of_ble_eq_true rfl) rfl ?_
        refine Bd_iinc_5 (pc := 55) dX8_canLag_55 (show _ + Int32.ofInt 1 = _ + 1 from rfl) (Nat.le_of_ble_eq_true rfl) rfl ?_
        refine Bd_goto (t := 6) (pc := 58) dX8_canLag_58 (by decide) ?_
        have z := b2_n.mp b17
        exact Bd_nx (ihi trivial) ⟨rfl, rfl, rfl, rfl, congrArg (fun x => some (Value.int x)) (b2_t (fun j hj => by rcases Nat.lt_succ_iff_lt_or_eq.mp hj with q | q; exact z j q; rw [q]; exact Classical.byContradiction (fun y => b45 ((tg_4 h.1).mpr y)))), congrArg (fun x => some (Value.int x)) (nI_succ i).symm, trivial⟩
/-- after both: any memory that the class may leave is held -/
def bothP (C M : Mem) (a b g r : Int32) (N : Mem) : Prop := ∀ r' K, bothR C a b g r' K → r = r' ∧ RP K M N
theorem bo_bad {C M N : Mem} {a b g : Int32} (hB : ¬ boB C a b g) (q : RP C M N) : bothP C M a b g (-1) N := fun r' K hR => by
  rw [bothR, if_neg hB] at hR
  exact ⟨hR.1.symm, IV_ce hR.2 q.1, q.2⟩
theorem bo_st {C M N : Mem} {a b g : Int32} (hB : boB C a b g) (hz : C 44 8 = 0) (q : RP C M N) : bothP C M a b g (-2) N := fun r' K hR => by
  rw [bothR, if_pos hB, if_pos hz] at hR
  exact ⟨hR.1.symm, IV_ce hR.2 q.1, q.2⟩
theorem bo_no {C M N : Mem} {a b g : Int32} (hB : boB C a b g) (hz : ¬ C 44 8 = 0) (hn : ¬ okL C a b g (cn (C 44 8))) (q : RP C M N) : bothP C M a b g (-4) N := fun r' K hR => by
  rw [bothR, if_pos hB, if_neg hz] at hR
  obtain ⟨N', h1, h2, h3⟩ := hR
  rw [if_neg (fun z => hn (fun i hi => by rw [← LN_tg h1 h2]; exact z i hi))] at h3
  exact ⟨h3.1.symm, IV_ce h3.2 q.1, q.2⟩
theorem bo_ok {C M N : Mem} {a b g r : Int32} (hB : boB C a b g) (hz : ¬ C 44 8 = 0) (hn : okL C a b g (cn (C 44 8))) (hr : r = lcG C (tgF (LN C a b) g) a (cn (C 44 8))) (q : ∀ C', PU C (tgF (LN C a b) g) a C' → RP C' M N) : bothP C M a b g r N := fun r' K hR => by
  rw [bothR, if_pos hB, if_neg hz] at hR
  obtain ⟨N', h1, h2, h3⟩ := hR
  rw [if_pos (fun i hi => by rw [LN_tg h1 h2]; exact hn i hi)] at h3
  obtain ⟨h4, K', h5, h6⟩ := h3
  have hp : PU C (tgF (LN C a b) g) a K' := PU_c (fun _ _ => rfl) (fun i _ => LN_tg h1 h2 i) h5
  refine ⟨?_, IV_ce h6 (q K' hp).1, (q K' hp).2⟩
  rw [hr, h4]
  exact (lcG_c rfl rfl rfl _ (fun i _ => LN_tg h1 h2 i)).symm
set_option maxRecDepth 100000 in
set_option maxHeartbeats 4000000 in
theorem sem_X8_both {C M : Mem} (h : RF C M) {a b g : Int32} : Sem mX8_both SH [.ref 58, .int a, .int b, .int g] M (RI SH (fun r N => bothP C M a b g r N)) := by
  refine Sem_of rfl (fun G => (Nat.le_of_ble_eq_true rfl)) (fun G => ?_)
  refine Bd_aload_0 (pc := 0) dX8_both_0 ?_
  refine Bd_iload_1 (pc := 1) dX8_both_1 ?_
  refine Bd_callV1i (cd := mX8_isCell) (pc := 2) dX8_both_2 k_1012 v_X8_isCell ⟨(Nat.le_of_ble_eq_true rfl), (Nat.le_of_ble_eq_true rfl)⟩ rfl rfl (sem_X8_isCell h) (Nat.le_of_ble_eq_true rfl) ?_
  refine Bd_if_eq (t := 30) (pc := 5) dX8_both_5 (by decide) (fun b5 => ?_) (fun b5 => ?_)
  · refine Bd_iconst (v := -1) (pc := 30) dX8_both_30 (by decide) ?_
    refine Bd_iret (pc := 31) dX8_both_31 rfl ?_
    exact ⟨_, rfl, rfl, bo_bad (fun q => b2_0.mp b5 q.1) (RP_aw h)⟩
  · refine Bd_aload_0 (pc := 8) dX8_both_8 ?_
    refine Bd_iload_2 (pc := 9) dX8_both_9 ?_
    refine Bd_callV1i (cd := mX8_isCell) (pc := 10) dX8_both_10 k_1012 v_X8_isCell ⟨(Nat.le_of_ble_eq_true rfl), (Nat.le_of_ble_eq_true rfl)⟩ rfl rfl (sem_isCellK h.aw) (Nat.le_of_ble_eq_true rfl) ?_
    refine Bd_if_eq (t := 30) (pc := 13) dX8_both_13 (by decide) (fun b13 => ?_) (fun b13 => ?_)
    · refine Bd_iconst (v := -1) (pc := 30) dX8_both_30 (by decide) ?_
      refine Bd_iret (pc := 31) dX8_both_31 rfl ?_
      exact ⟨_, rfl, rfl, bo_bad (fun q => b2_0.mp b13 q.2.1) (RP_aw h)⟩
    · refine Bd_iload_3 (pc := 16) dX8_both_16 ?_
      refine Bd_i2l (pc := 17) dX8_both_17 ?_
      refine Bd_ldc2 k_1134 (pc := 18) dX8_both_18 ?_
      refine Bd_ldc2 k_1116 (pc := 21) dX8_both_21 ?_
      refine Bd_callS3i (cd := mX8_in) (pc := 24) dX8_both_24 k_910 v_X8_in ⟨(Nat.le_of_ble_eq_true rfl), (Nat.le_of_ble_eq_true rfl)⟩ (sem_in (a := -99) (b := 99) (by decide) (by decide)) (Nat.le_of_ble_eq_true rfl) ?_
      refine Bd_if_ne (t := 32) (pc := 27) dX8_both_27 (by decide) (fun b27 => ?_) (fun b27 => ?_)
      · refine Bd_aload_0 (pc := 32) dX8_both_32 ?_
        refine Bd_getI (j := 5) ck8 (pc := 33) dX8_both_33 k_791 rfl (Nat.le_of_ble_eq_true rfl) rfl ?_
        refine Bd_if_ne (t := 42) (pc := 36) dX8_both_36 (by decide) (fun b36 => ?_) (fun b36 => ?_)
        · refine Bd_aload_0 (pc := 42) dX8_both_42 ?_
          refine Bd_iload_1 (pc := 43) dX8_both_43 ?_
          refine Bd_iload_2 (pc := 44) dX8_both_44 ?_
          refine Bd_iload_3 (pc := 45) dX8_both_45 ?_
          refine Bd_callV3x (cd := mX8_canLag) (pc := 46) dX8_both_46 k_1122 v_X8_canLag ⟨(Nat.le_of_ble_eq_true rfl), (Nat.le_of_ble_eq_true rfl)⟩ rfl rfl (sem_X8_canLag h.aw (b2_n.mp b5).1 (b2_n.mp b13).1) (Nat.le_of_ble_eq_true rfl) (fun x46 M46 e46 => ?_)
          rw [e46.1]
          refine Bd_if_eq (t := 60) (pc := 49) dX8_both_49 (by decide) (fun b49 => ?_) (fun b49 => ?_)
          · refine Bd_bipush (v := -4) (pc := 60) dX8_both_60 (by decide) ?_
            refine Bd_iret (pc := 62) dX8_both_62 rfl ?_
            have hz : ¬ C 44 8 = 0 := fun z => b36 (h.aw.rf.n5.trans z)
            exact ⟨_, rfl, rfl, bo_no ⟨b2_n.mp b5, b2_n.mp b13, Int32.not_lt.mpr (b2_n.mp b27).1, (b2_n.mp b27).2⟩ hz (b2_0.mp b49) (RP_sc (fun k hk => e46.2.1 k (fun z => by rw [z] at hk; exact absurd hk (by decide))) (RP_aw h))⟩
          · have hok := b2_n.mp b49
            refine Bd_aload_0 (pc := 52) dX8_both_52 ?_
            refine Bd_iload_1 (pc := 53) dX8_both_53 ?_
            refine Bd_callV1x (cd := mX8_soonest) (pc := 54) dX8_both_54 k_1084 v_X8_soonest ⟨(Nat.le_of_ble_eq_true rfl), (Nat.le_of_ble_eq_true rfl)⟩ rfl rfl (sem_X8_soonest (RK_sc (fun k hk => e46.2.1 k (fun z => by rw [z] at hk; exact absurd hk (by decide))) h.aw) (ch := tgF (LN C a b) g) (fun i hi => tg_vp h.1 (hok i hi)) (e46.2.2 hok) (b2_n.mp b5).1) (Nat.le_of_ble_eq_true rfl) (fun x54 M54 e54 => ?_)
            refine Bd_goto (t := 62) (pc := 57) dX8_both_57 (by decide) ?_
            refine Bd_iret (pc := 62) dX8_both_62 rfl ?_
            have hz : ¬ C 44 8 = 0 := fun z => b36 (h.aw.rf.n5.trans z)
            exact ⟨_, rfl, rfl, bo_ok ⟨b2_n.mp b5, b2_n.mp b13, Int32.not_lt.mpr (b2_n.mp b27).1, (b2_n.mp b27).2⟩ hz hok e54.1 (fun C' hp => ⟨(e54.2 C' hp).1, fun k hk => ((e54.2 C' hp).2 k hk).trans ((e46.2.1 k (by omega)).trans (awM_lt hk))⟩)⟩
        · refine Bd_bipush (v := -2) (pc := 39) dX8_both_39 (by decide) ?_
          refine Bd_iret (pc := 41) dX8_both_41 rfl ?_
          exact ⟨_, rfl, rfl, bo_st ⟨b2_n.mp b5, b2_n.mp b13, Int32.not_lt.mpr (b2_n.mp b27).1, (b2_n.mp b27).2⟩ (h.aw.rf.n5.symm.trans b36) (RP_aw h)⟩
      · refine Bd_iconst (v := -1) (pc := 30) dX8_both_30 (by decide) ?_
        refine Bd_iret (pc := 31) dX8_both_31 rfl ?_
        exact ⟨_, rfl, rfl, bo_bad (fun q => b2_0.mp b27 ⟨Int32.not_lt.mp q.2.2.1, q.2.2.2⟩) (RP_aw h)⟩
