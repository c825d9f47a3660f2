/-! 16: the class: lags, towers, pipes -/
/-- rows that a call may leave as it likes -/
def scr (k : Nat) : Bool := (Nat.ble 10 k && Nat.ble k 15) || Nat.beq k 42 || Nat.beq k 43
def CE (N M : Mem) : Prop := ∀ k, scr k = false → N k = M k
theorem CE_rf {M : Mem} : CE M M := fun _ _ => rfl
theorem CE_eq {N M : Mem} (h : CE N M) : N = fun k => if scr k then N k else M k := by
  funext k
  cases hs : scr k with
  | true => rfl
  | false => exact h k hs
theorem CE_wf {N M : Mem} (h : CE N M) (w : WF M) : WF N := by rw [CE_eq h]; exact w
theorem CE_hc {N M : Mem} (h : CE N M) (c : Int32) : hcF N 45 c ↔ hcF M 45 c := by rw [CE_eq h]; exact Iff.rfl
theorem ptF_c {N M : Mem} (h : N 50 = M 50) : ∀ n, ptF N n = ptF M n
  | 0 => rfl
  | n + 1 => by unfold ptF; rw [ptF_c h n, h]
theorem psF_c {N M : Mem} (h : N 47 = M 47) (s : Int32) : ∀ n, psF N s n = psF M s n
  | 0 => rfl
  | n + 1 => by unfold psF; rw [psF_c h s n, h]
def lgF (M : Mem) (a b : Int32) (t : Nat) : Int32 := sdF M (M 46 t) b - sdF M (M 46 t) a
def mlM (M : Mem) (a b : Int32) : Nat → Mem
  | 0 => M
  | i + 1 => updM (mlM M a b i) 42 i (sdF (mlM M a b i) (mlM M a b i 46 i) b - sdF (mlM M a b i) (mlM M a b i 46 i) a)
theorem mlM_ne {M : Mem} {a b : Int32} {k : Nat} (h : k ≠ 42) : ∀ i, mlM M a b i k = M k
  | 0 => rfl
  | i + 1 => by unfold mlM; rw [updM_ne h]; exact mlM_ne h i
theorem mlM_v {M : Mem} {a b : Int32} : ∀ i j, j < i → mlM M a b i 42 j = lgF M a b j
  | 0, j, h => absurd h (Nat.not_lt_zero j)
  | i + 1, j, h => by
    have e : mlM M a b (i + 1) 42 = upd (mlM M a b i 42) i (lgF M a b i) := by
      show updM _ 42 i _ 42 = _
      rw [updM_eq, sdF_c (mlM_ne (k := 45) (by decide) i), sdF_c (mlM_ne (k := 45) (by decide) i), mlM_ne (k := 46) (by decide) i, lgF]
    rw [e]
    by_cases hj : j = i
    · subst hj; simp [upd]
    · simp only [upd, if_neg hj]; exact mlM_v i j (by omega)
set_option maxRecDepth 100000 in
set_option maxHeartbeats 4000000 in
theorem sem_X7_measureLags {M : Mem} (h : WF M) {a b : Int32} : Sem mX7_measureLags SH [.ref 0, .int a, .int b] M (RV SH (fun N => (∀ k, k ≠ 42 → N k = M k) ∧ ∀ t, t < cn (M 44 6) → N 42 t = lgF M a b t)) := by
  have q1 := h.nb24
  have q2 := h.nn12
  have q3 := h.nt6
  have q4 := h.nh3
  have q5 := h.nmb
  refine Sem_of rfl (fun G => (Nat.le_of_ble_eq_true rfl)) (fun G => ?_)
  refine Bd_iconst (v := 0) (pc := 0) dX7_measureLags_0 (by decide) ?_
  refine Bd_istore_3 (pc := 1) dX7_measureLags_1 (Nat.le_of_ble_eq_true rfl) rfl ?_
  refine Bd_nx (L' := (fun i => [some (.ref 0), some (.int a), some (.int b), some (.int (nI i))]) 0) ?_ (by repeat (first | exact True.intro | refine And.intro rfl ?_))
  refine Bd_for (pc := 2) (c := (cn (M 44 6))) (fun i => [some (.ref 0), some (.int a), some (.int b), some (.int (nI i))]) (fun i => mlM M a b i) (fun _ => True) (fun ivi => ?_) (fun i hi ivi ihi => ?_) trivial
  · refine Bd_iload_3 (pc := 2) dX7_measureLags_2 ?_
    refine Bd_aload_0 (pc := 3) dX7_measureLags_3 ?_
    refine Bd_getR (j := 8) ck7 (pc := 4) dX7_measureLags_4 k_243 rfl (Nat.le_of_ble_eq_true rfl) rfl ?_
    refine Bd_getI (j := 6) ck3 (pc := 7) dX7_measureLags_7 k_165 rfl (Nat.le_of_ble_eq_true rfl) rfl ?_
    refine Bd_icmp_ge (t := 44) (pc := 10) dX7_measureLags_10 (by decide) (fun b10 => ?_) (fun b10 => (show False from lf_x (show _ = nI (cn (M 44 6)) by rw [mlM_ne (by decide)]; exact h.nt) b10).elim)
    refine Bd_vret (pc := 44) dX7_measureLags_44 rfl ?_
    exact ⟨rfl, rfl, fun k hk => mlM_ne hk _, fun t ht => mlM_v _ _ ht⟩
  · refine Bd_iload_3 (pc := 2) dX7_measureLags_2 ?_
    refine Bd_aload_0 (pc := 3) dX7_measureLags_3 ?_
    refine Bd_getR (j := 8) ck7 (pc := 4) dX7_measureLags_4 k_243 rfl (Nat.le_of_ble_eq_true rfl) rfl ?_
    refine Bd_getI (j := 6) ck3 (pc := 7) dX7_measureLags_7 k_165 rfl (Nat.le_of_ble_eq_true rfl) rfl ?_
    refine Bd_icmp_ge (t := 44) (pc := 10) dX7_measureLags_10 (by decide) (fun b10 => (show False from lf_s (show _ = nI (cn (M 44 6)) by rw [mlM_ne (by decide)]; exact h.nt) (by omega) hi b10).elim) (fun b10 => ?_)
    refine Bd_aload_0 (pc := 13) dX7_measureLags_13 ?_
    refine Bd_getR (j := 6) ck7 (pc := 14) dX7_measureLags_14 k_241 rfl (Nat.le_of_ble_eq_true rfl) rfl ?_
    refine Bd_iload_3 (pc := 17) dX7_measureLags_17 ?_
    refine Bd_aload_0 (pc := 18) dX7_measureLags_18 ?_
    refine Bd_getR (j := 8) ck7 (pc := 19) dX7_measureLags_19 k_243 rfl (Nat.le_of_ble_eq_true rfl) rfl ?_
    refine Bd_iload_3 (pc := 22) dX7_measureLags_22 ?_
    refine Bd_iload_2 (pc := 23) dX7_measureLags_23 ?_
    refine Bd_callV2i (cd := mX3_soundOf) (pc := 24) dX7_measureLags_24 k_555 v_X3_soundOf ⟨(Nat.le_of_ble_eq_true rfl), (Nat.le_of_ble_eq_true rfl)⟩ rfl rfl (sem_sdN (t := i) (by omega)) (Nat.le_of_ble_eq_true rfl) ?_
    refine Bd_aload_0 (pc := 27) dX7_measureLags_27 ?_
    refine Bd_getR (j := 8) ck7 (pc := 28) dX7_measureLags_28 k_243 rfl (Nat.le_of_ble_eq_true rfl) rfl ?_
    refine Bd_iload_3 (pc := 31) dX7_measureLags_31 ?_
    refine Bd_iload_1 (pc := 32) dX7_measureLags_32 ?_
    refine Bd_callV2i (cd := mX3_soundOf) (pc := 33) dX7_measureLags_33 k_555 v_X3_soundOf ⟨(Nat.le_of_ble_eq_true rfl), (Nat.le_of_ble_eq_true rfl)⟩ rfl rfl (sem_sdN (t := i) (by omega)) (Nat.le_of_ble_eq_true rfl) ?_
    refine Bd_isub (pc := 36) dX7_measureLags_36 ?_
    refine Bd_iastc (j := i) (nI_clamp (by omega)) (pc := 37) dX7_measureLags_37 rfl (vpi (by omega) (by omega)) ?_
    refine Bd_iinc_3 (pc := 38) dX7_measureLags_38 (show _ + Int32.ofInt 1 = _ + 1 from rfl) (Nat.le_of_ble_eq_true rfl) rfl ?_
    refine Bd_goto (t := 2) (pc := 41) dX7_measureLags_41 (by decide) ?_
    exact Bd_nx (ihi trivial) (by simp [wkP, nI_succ])
abbrev flF (M : Mem) (t : Nat) : Prop := ∀ j, j < t → ¬ M 42 j = M 42 t
def lhF (M : Mem) (lag : Int32) : Nat → Int32
  | 0 => 0
  | i + 1 => if M 42 i = lag then lhF M lag i ||| M 47 i else lhF M lag i
abbrev lkF (M : Mem) (lag : Int32) : Prop := ptF M (cn (M 44 8)) &&& (lhF M lag (cn (M 44 6)) ^^^ -1) = 0
abbrev tlP (M : Mem) (tone lag : Int32) (t : Nat) : Prop := M 42 t = lag ∧ hpN M t tone
def tlF (M : Mem) (tone lag : Int32) : Nat → Int32
  | 0 => -4
  | t + 1 => if 0 ≤ tlF M tone lag t then tlF M tone lag t else if tlP M tone lag t then nI t else -4
theorem tlF_s {M : Mem} {tone lag : Int32} {i : Nat} (h : 0 ≤ tlF M tone lag i) : ∀ j, i ≤ j → tlF M tone lag j = tlF M tone lag i
  | 0, hj => by rw [Nat.le_zero.mp hj]
  | j + 1, hj => by
    rcases Nat.lt_or_ge i (j + 1) with q | q
    · rw [show tlF M tone lag (j + 1) = (if 0 ≤ tlF M tone lag j then tlF M tone lag j else if tlP M tone lag j then nI j else -4) from rfl, tlF_s h j (by omega), if_pos h]
    · rw [show j + 1 = i by omega]
theorem tlF_r {M : Mem} {tone lag : Int32} : ∀ i, tlF M tone lag i = -4 ∨ ∃ j, j < i ∧ tlF M tone lag i = nI j ∧ tlP M tone lag j
  | 0 => Or.inl rfl
  | i + 1 => by
    have ih := tlF_r (M := M) (tone := tone) (lag := lag) i
    unfold tlF
    split
    · exact ih.imp id (fun ⟨j, h1, h2⟩ => ⟨j, by omega, h2⟩)
    · split
      · rename_i q; exact Or.inr ⟨i, by omega, rfl, q⟩
      · exact Or.inl rfl
theorem tlF_4 {M : Mem} {tone lag : Int32} (i : Nat) (hi : i ≤ 6) (h : ¬ 0 ≤ tlF M tone lag i) : tlF M tone lag i = -4 := by
  rcases tlF_r (M := M) (tone := tone) (lag := lag) i with q | ⟨j, h1, h2, -⟩
  · exact q
  · rw [h2] at h; exact absurd (nI_pos' (by omega)) h
set_option maxRecDepth 100000 in
set_option maxHeartbeats 4000000 in
theorem sem_X7_isFirstOfLag {M : Mem} {t : Nat} (ht : t < 6) : Sem mX7_isFirstOfLag SH [.ref 0, .int (nI t)] M (PD SH (some (.int (b2 (flF M t)))) (M)) := by
  refine Sem_of rfl (fun G => (Nat.le_of_ble_eq_true rfl)) (fun G => ?_)
  refine Bd_iconst (v := 0) (pc := 0) dX7_isFirstOfLag_0 (by decide) ?_
  refine Bd_istore_2 (pc := 1) dX7_isFirstOfLag_1 (Nat.le_of_ble_eq_true rfl) rfl ?_
  refine Bd_nx (L' := (fun i => [some (.ref 0), some (.int (nI t)), some (.int (nI i))]) 0) ?_ (by repeat (first | exact True.intro | refine And.intro rfl ?_))
  refine Bd_for (pc := 2) (c := t) (fun i => [some (.ref 0), some (.int (nI t)), some (.int (nI i))]) (fun _ => M) (fun i => ∀ j, j < i → ¬ M 42 j = M 42 t) (fun ivi => ?_) (fun i hi ivi ihi => ?_) (fun j hj => absurd hj (Nat.not_lt_zero j))
  · refine Bd_iload_2 (pc := 2) dX7_isFirstOfLag_2 ?_
    refine Bd_iload_1 (pc := 3) dX7_isFirstOfLag_3 ?_
    refine Bd_icmp_ge (t := 30) (pc := 4) dX7_isFirstOfLag_4 (by decide) (fun b4 => ?_) (fun b4 => (show False from lf_x (rfl : nI t = nI t) b4).elim)
    refine Bd_iconst (v := 1) (pc := 30) dX7_isFirstOfLag_30 (by decide) ?_
    refine Bd_zret (pc := 31) dX7_isFirstOfLag_31 rfl rfl ?_
    exact PD_i (b2_t ivi) rfl
  · refine Bd_iload_2 (pc := 2) dX7_isFirstOfLag_2 ?_
    refine Bd_iload_1 (pc := 3) dX7_isFirstOfLag_3 ?_
    refine Bd_icmp_ge (t := 30) (pc := 4) dX7_isFirstOfLag_4 (by decide) (fun b4 => (show False from lf_s (rfl : nI t = nI t) (by omega) hi b4).elim) (fun b4 => ?_)
    refine Bd_aload_0 (pc := 7) dX7_isFirstOfLag_7 ?_
    refine Bd_getR (j := 6) ck7 (pc := 8) dX7_isFirstOfLag_8 k_241 rfl (Nat.le_of_ble_eq_true rfl) rfl ?_
    refine Bd_iload_2 (pc := 11) dX7_isFirstOfLag_11 ?_
    refine Bd_ialdc (j := i) (nI_clamp (by omega)) (pc := 12) dX7_isFirstOfLag_12 rfl (vpi (by omega) (by omega)) ?_
    refine Bd_aload_0 (pc := 13) dX7_isFirstOfLag_13 ?_
    refine Bd_getR (j := 6) ck7 (pc := 14) dX7_isFirstOfLag_14 k_241 rfl (Nat.le_of_ble_eq_true rfl) rfl ?_
    refine Bd_iload_1 (pc := 17) dX7_isFirstOfLag_17 ?_
    refine Bd_ialdc (j := t) (nI_clamp (by omega)) (pc := 18) dX7_isFirstOfLag_18 rfl (vpi (by omega) (by omega)) ?_
    refine Bd_icmp_ne (t := 24) (pc := 19) dX7_isFirstOfLag_19 (by decide) (fun b19 => ?_) (fun b19 => ?_)
    · refine Bd_iinc_2 (pc := 24) dX7_isFirstOfLag_24 (show _ + Int32.ofInt 1 = _ + 1 from rfl) (Nat.le_of_ble_eq_true rfl) rfl ?_
      refine Bd_goto (t := 2) (pc := 27) dX7_isFirstOfLag_27 (by decide) ?_
      exact Bd_nx (ihi (fun j hj => by rcases Nat.lt_succ_iff_lt_or_eq.mp hj with q | q; exact ivi j q; rw [q]; exact b19)) (by simp [wkP, nI_succ])
    · refine Bd_iconst (v := 0) (pc := 22) dX7_isFirstOfLag_22 (by decide) ?_
      refine Bd_zret (pc := 23) dX7_isFirstOfLag_23 rfl rfl ?_
      exact PD_i (b2_f (fun q => q i hi b19)) rfl
set_option maxRecDepth 100000 in
set_option maxHeartbeats 4000000 in
theorem sem_X7_lagCanBe {M : Mem} (h : WF M) {g : Int32} : Sem mX7_lagCanBe SH [.ref 0, .int g] M (PD SH (some (.int (b2 (lkF M g)))) (M)) := by
  have q1 := h.nb24
  have q2 := h.nn12
  have q3 := h.nt6
  have q4 := h.nh3
  have q5 := h.nmb
  refine Sem_of rfl (fun G => (Nat.le_of_ble_eq_true rfl)) (fun G => ?_)
  refine Bd_iconst (v := 0) (pc := 0) dX7_lagCanBe_0 (by decide) ?_
  refine Bd_istore_2 (pc := 1) dX7_lagCanBe_1 (Nat.le_of_ble_eq_true rfl) rfl ?_
  refine Bd_iconst (v := 0) (pc := 2) dX7_lagCanBe_2 (by decide) ?_
  refine Bd_istore_3 (pc := 3) dX7_lagCanBe_3 (Nat.le_of_ble_eq_true rfl) rfl ?_
  refine Bd_nx (L' := (fun i => [some (.ref 0), some (.int g), some (.int (lhF M g i)), some (.int (nI i))]) 0) ?_ (by repeat (first | exact True.intro | refine And.intro rfl ?_))
  refine Bd_for (pc := 4) (c := (cn (M 44 6))) (fun i => [some (.ref 0), some (.int g), some (.int (lhF M g i)), some (.int (nI i))]) (fun _ => M) (fun _ => True) (fun ivi => ?_) (fun i hi ivi ihi => ?_) trivial
  · refine Bd_iload_3 (pc := 4) dX7_lagCanBe_4 ?_
    refine Bd_aload_0 (pc := 5) dX7_lagCanBe_5 ?_
    refine Bd_getR (j := 8) ck7 (pc := 6) dX7_lagCanBe_6 k_243 rfl (Nat.le_of_ble_eq_true rfl) rfl ?_
    refine Bd_getI (j := 6) ck3 (pc := 9) dX7_lagCanBe_9 k_165 rfl (Nat.le_of_ble_eq_true rfl) rfl ?_
    refine Bd_icmp_ge (t := 43) (pc := 12) dX7_lagCanBe_12 (by decide) (fun b12 => ?_) (fun b12 => (show False from lf_x h.nt b12).elim)
    refine Bd_aload_0 (pc := 43) dX7_lagCanBe_43 ?_
    refine Bd_getR (j := 8) ck7 (pc := 44) dX7_lagCanBe_44 k_243 rfl (Nat.le_of_ble_eq_true rfl) rfl ?_
    refine Bd_callV0i (cd := mX3_psalmTones) (pc := 47) dX7_lagCanBe_47 k_617 v_X3_psalmTones ⟨(Nat.le_of_ble_eq_true rfl), (Nat.le_of_ble_eq_true rfl)⟩ rfl rfl (sem_X3_psalmTones h.nn h.nn12) (Nat.le_of_ble_eq_true rfl) ?_
    refine Bd_iload_2 (pc := 50) dX7_lagCanBe_50 ?_
    refine Bd_iconst (v := -1) (pc := 51) dX7_lagCanBe_51 (by decide) ?_
    refine Bd_ixor (pc := 52) dX7_lagCanBe_52 ?_
    refine Bd_iand (pc := 53) dX7_lagCanBe_53 ?_
    refine Bd_if_ne (t := 61) (pc := 54) dX7_lagCanBe_54 (by decide) (fun b54 => ?_) (fun b54 => ?_)
    · refine Bd_iconst (v := 0) (pc := 61) dX7_lagCanBe_61 (by decide) ?_
      refine Bd_zret (pc := 62) dX7_lagCanBe_62 rfl rfl ?_
      exact PD_i (b2_f b54) rfl
    · refine Bd_iconst (v := 1) (pc := 57) dX7_lagCanBe_57 (by decide) ?_
      refine Bd_goto (t := 62) (pc := 58) dX7_lagCanBe_58 (by decide) ?_
      refine Bd_zret (pc := 62) dX7_lagCanBe_62 rfl rfl ?_
      exact PD_i (b2_t b54) rfl
  · refine Bd_iload_3 (pc := 4) dX7_lagCanBe_4 ?_
    refine Bd_aload_0 (pc := 5) dX7_lagCanBe_5 ?_
    refine Bd_getR (j := 8) ck7 (pc := 6) dX7_lagCanBe_6 k_243 rfl (Nat.le_of_ble_eq_true rfl) rfl ?_
    refine Bd_getI (j := 6) ck3 (pc := 9) dX7_lagCanBe_9 k_165 rfl (Nat.le_of_ble_eq_true rfl) rfl ?_
    refine Bd_icmp_ge (t := 43) (pc := 12) dX7_lagCanBe_12 (by decide) (fun b12 => (show False from lf_s h.nt (by omega) hi b12).elim) (fun b12 => ?_)
    refine Bd_aload_0 (pc := 15) dX7_lagCanBe_15 ?_
    refine Bd_getR (j := 6) ck7 (pc := 16) dX7_lagCanBe_16 k_241 rfl (Nat.le_of_ble_eq_true rfl) rfl ?_
    refine Bd_iload_3 (pc := 19) dX7_lagCanBe_19 ?_
    refine Bd_ialdc (j := i) (nI_clamp (by omega)) (pc := 20) dX7_lagCanBe_20 rfl (vpi (by omega) (by omega)) ?_
    refine Bd_iload_1 (pc := 21) dX7_lagCanBe_21 ?_
    refine Bd_icmp_ne (t := 37) (pc := 22) dX7_lagCanBe_22 (by decide) (fun b22 => ?_) (fun b22 => ?_)
    · refine Bd_iinc_3 (pc := 37) dX7_lagCanBe_37 (show _ + Int32.ofInt 1 = _ + 1 from rfl) (Nat.le_of_ble_eq_true rfl) rfl ?_
      refine Bd_goto (t := 4) (pc := 40) dX7_lagCanBe_40 (by decide) ?_
      exact Bd_nx (ihi trivial) (by simp only [wkP, lhF, if_neg b22, nI_succ, and_self])
    · refine Bd_iload_2 (pc := 25) dX7_lagCanBe_25 ?_
      refine Bd_aload_0 (pc := 26) dX7_lagCanBe_26 ?_
      refine Bd_getR (j := 8) ck7 (pc := 27) dX7_lagCanBe_27 k_243 rfl (Nat.le_of_ble_eq_true rfl) rfl ?_
      refine Bd_getR (j := 2) ck3 (pc := 30) dX7_lagCanBe_30 k_156 rfl (Nat.le_of_ble_eq_true rfl) rfl ?_
      refine Bd_iload_3 (pc := 33) dX7_lagCanBe_33 ?_
      refine Bd_ialdc (j := i) (nI_clamp (by omega)) (pc := 34) dX7_lagCanBe_34 rfl (vpi (by omega) (by omega)) ?_
      refine Bd_ior (pc := 35) dX7_lagCanBe_35 ?_
      refine Bd_istore_2 (pc := 36) dX7_lagCanBe_36 (Nat.le_of_ble_eq_true rfl) rfl ?_
      refine Bd_iinc_3 (pc := 37) dX7_lagCanBe_37 (show _ + Int32.ofInt 1 = _ + 1 from rfl) (Nat.le_of_ble_eq_true rfl) rfl ?_
      refine Bd_goto (t := 4) (pc := 40) dX7_lagCanBe_40 (by decide) ?_
      exact Bd_nx (ihi trivial) (by simp only [wkP, lhF, if_pos b22, nI_succ, and_self])
set_option maxRecDepth 100000 in
set_option maxHeartbeats 4000000 in
theorem sem_X7_towerOfLag {M : Mem} (h : WF M) {tone g : Int32} : Sem mX7_towerOfLag SH [.ref 0, .int tone, .int g] M (PD SH (some (.int (tlF M tone g (cn (M 44 6))))) (M)) := by
  have q1 := h.nb24
  have q2 := h.nn12
  have q3 := h.nt6
  have q4 := h.nh3
  have q5 := h.nmb
  refine Sem_of rfl (fun G => (Nat.le_of_ble_eq_true rfl)) (fun G => ?_)
  refine Bd_iconst (v := 0) (pc := 0) dX7_towerOfLag_0 (by decide) ?_
  refine Bd_istore_3 (pc := 1) dX7_towerOfLag_1 (Nat.le_of_ble_eq_true rfl) rfl ?_
  refine Bd_nx (L' := (fun i => [some (.ref 0), some (.int tone), some (.int g), some (.int (nI i))]) 0) ?_ (by repeat (first | exact True.intro | refine And.intro rfl ?_))
  refine Bd_for (pc := 2) (c := (cn (M 44 6))) (fun i => [some (.ref 0), some (.int tone), some (.int g), some (.int (nI i))]) (fun _ => M) (fun i => ¬ 0 ≤ tlF M tone g i) (fun ivi => ?_) (fun i hi ivi ihi => ?_) (by show ¬ (0 : Int32) ≤ -4; decide)
  · refine Bd_iload_3 (pc := 2) dX7_towerOfLag_2 ?_
    refine Bd_aload_0 (pc := 3) dX7_towerOfLag_3 ?_
    refine Bd_getR (j := 8) ck7 (pc := 4) dX7_towerOfLag_4 k_243 rfl (Nat.le_of_ble_eq_true rfl) rfl ?_
    refine Bd_getI (j := 6) ck3 (pc := 7) dX7_towerOfLag_7 k_165 rfl (Nat.le_of_ble_eq_true rfl) rfl ?_
    refine Bd_icmp_ge (t := 43) (pc := 10) dX7_towerOfLag_10 (by decide) (fun b10 => ?_) (fun b10 => (show False from lf_x h.nt b10).elim)
    refine Bd_bipush (v := -4) (pc := 43) dX7_towerOfLag_43 (by decide) ?_
    refine Bd_iret (pc := 45) dX7_towerOfLag_45 rfl ?_
    exact PD_i (tlF_4 _ q3 ivi).symm rfl
  · refine Bd_iload_3 (pc := 2) dX7_towerOfLag_2 ?_
    refine Bd_aload_0 (pc := 3) dX7_towerOfLag_3 ?_
    refine Bd_getR (j := 8) ck7 (pc := 4) dX7_towerOfLag_4 k_243 rfl (Nat.le_of_ble_eq_true rfl) rfl ?_
    refine Bd_getI (j := 6) ck3 (pc := 7) dX7_towerOfLag_7 k_165 rfl (Nat.le_of_ble_eq_true rfl) rfl ?_
    refine Bd_icmp_ge (t := 43) (pc := 10) dX7_towerOfLag_10 (by decide) (fun b10 => (show False from lf_s h.nt (by omega) hi b10).elim) (fun b10 => ?_)
    refine Bd_aload_0 (pc := 13) dX7_towerOfLag_13 ?_
    refine Bd_getR (j := 6) ck7 (pc := 14) dX7_towerOfLag_14 k_241 rfl (Nat.le_of_ble_eq_true rfl) rfl ?_
    refine Bd_iload_3 (pc := 17) dX7_towerOfLag_17 ?_
    refine Bd_ialdc (j := i) (nI_clamp (by omega)) (pc := 18) dX7_towerOfLag_18 rfl (vpi (by omega) (by omega)) ?_
    refine Bd_iload_2 (pc := 19) dX7_towerOfLag_19 ?_
    refine Bd_icmp_ne (t := 37) (pc := 20) dX7_towerOfLag_20 (by decide) (fun b20 => ?_) (fun b20 => ?_)
    · refine Bd_iinc_3 (pc := 37) dX7_towerOfLag_37 (show _ + Int32.ofInt 1 = _ + 1 from rfl) (Nat.le_of_ble_eq_true rfl) rfl ?_
      refine Bd_goto (t := 2) (pc := 40) dX7_towerOfLag_40 (by decide) ?_
      exact Bd_nx (ihi (by unfold tlF; rw [if_neg ivi, if_neg (fun q => b20 q.1)]; decide)) (by simp [wkP, nI_succ])
    · refine Bd_aload_0 (pc := 23) dX7_towerOfLag_23 ?_
      refine Bd_getR (j := 8) ck7 (pc := 24) dX7_towerOfLag_24 k_243 rfl (Nat.le_of_ble_eq_true rfl) rfl ?_
      refine Bd_iload_3 (pc := 27) dX7_towerOfLag_27 ?_
      refine Bd_iload_1 (pc := 28) dX7_towerOfLag_28 ?_
      refine Bd_callV2i (cd := mX3_hasPipe) (pc := 29) dX7_towerOfLag_29 k_506 v_X3_hasPipe ⟨(Nat.le_of_ble_eq_true rfl), (Nat.le_of_ble_eq_true rfl)⟩ rfl rfl (sem_hpN (t := i) (by omega)) (Nat.le_of_ble_eq_true rfl) ?_
      refine Bd_if_eq (t := 37) (pc := 32) dX7_towerOfLag_32 (by decide) (fun b32 => ?_) (fun b32 => ?_)
      · refine Bd_iinc_3 (pc := 37) dX7_towerOfLag_37 (show _ + Int32.ofInt 1 = _ + 1 from rfl) (Nat.le_of_ble_eq_true rfl) rfl ?_
        refine Bd_goto (t := 2) (pc := 40) dX7_towerOfLag_40 (by decide) ?_
        exact Bd_nx (ihi (by unfold tlF; rw [if_neg ivi, if_neg (fun q => b2_0.mp b32 q.2)]; decide)) (by simp [wkP, nI_succ])
      · refine Bd_iload_3 (pc := 35) dX7_towerOfLag_35 ?_
        refine Bd_iret (pc := 36) dX7_towerOfLag_36 rfl ?_
        have he : tlF M tone g (i + 1) = nI i := by unfold tlF; rw [if_neg ivi, if_pos ⟨b20, b2_n.mp b32⟩]
        exact PD_i (by rw [tlF_s (i := i + 1) (by rw [he]; exact nI_pos' (by omega)) _ (by omega), he]) rfl
/-- lags that can be: how many, the least, the greatest -/
def twF (M : Mem) : Nat → Int32 × Int32 × Int32
  | 0 => (0, 0, 0)
  | t + 1 => if flF M t then if lkF M (M 42 t) then ((twF M t).1 + 1, if (twF M t).1 = 0 then M 42 t else mnF (twF M t).2.1 (M 42 t), if (twF M t).1 = 0 then M 42 t else mxF (twF M t).2.2 (M 42 t)) else twF M t else twF M t
abbrev twA (M : Mem) (k : Int32) : Prop := ¬ k < 10 ∧ ¬ M 44 8 ≤ k - 10
abbrev twB (M : Mem) (a b k : Int32) : Prop := hcF M 45 a ∧ hcF M 45 b ∧ ((0 ≤ k ∧ k < 3) ∨ twA M k)
/-- what twice answers, where the lags are those of the memory -/
def twL (M : Mem) (k : Int32) : Int32 := if k = 0 then (twF M (cn (M 44 6))).1 else if (twF M (cn (M 44 6))).1 = 0 then -4 else if twA M k then tlF M (M 50 (cn (k - 10))) (twF M (cn (M 44 6))).2.1 (cn (M 44 6)) else 1000 + (if k = 1 then (twF M (cn (M 44 6))).2.1 else (twF M (cn (M 44 6))).2.2)
theorem i32_sub {x y : Int32} (h1 : -2147483648 ≤ x.toInt - y.toInt) (h2 : x.toInt - y.toInt < 2147483648) : (x - y).toInt = x.toInt - y.toInt := by
  rw [Int32.toInt_sub]
  exact Int.bmod_eq_of_le (by omega) (by omega)
theorem i32_add {x y : Int32} (h1 : -2147483648 ≤ x.toInt + y.toInt) (h2 : x.toInt + y.toInt < 2147483648) : (x + y).toInt = x.toInt + y.toInt := by
  rw [Int32.toInt_add]
  exact Int.bmod_eq_of_le (by omega) (by omega)
theorem i32_mul {x y : Int32} (h1 : -2147483648 ≤ x.toInt * y.toInt) (h2 : x.toInt * y.toInt < 2147483648) : (x * y).toInt = x.toInt * y.toInt := by
  rw [Int32.toInt_mul]
  exact Int.bmod_eq_of_le (by omega) (by omega)
theorem tw_vp {M : Mem} (h : WF M) {k : Int32} (q : twA M k) : vp_in (k - 10) 12 := by
  obtain ⟨h1, h2⟩ := q
  have h3 := h.nn12'
  have h4 := k.toInt_lt
  rw [Int32.lt_iff_toInt_lt, show (10 : Int32).toInt = 10 by decide] at h1
  rw [Int32.le_iff_toInt_le] at h2
  have e : (k - 10).toInt = k.toInt - 10 := by
    have := i32_sub (x := k) (y := 10) (by rw [show (10 : Int32).toInt = 10 by decide]; omega) (by rw [show (10 : Int32).toInt = 10 by decide]; omega)
    rw [this]; rfl
  exact vp_in_iff.mpr ⟨by omega, by omega⟩
set_option maxRecDepth 100000 in
set_option maxHeartbeats 4000000 in
theorem bd_twice {N : Mem} (hN : WF N) {G : GD} {R : Rv} {a b k x4 : Int32} (hx : ¬ x4 = 0 ↔ twA N k) (hR : ∀ r, r = twL N k → R (some (.int r)) SH N) : Bd mX7_twice G R SH 95 [some (.ref 0), some (.int a), some (.int b), some (.int k), some (.int x4), some (.int 0), some (.int 0), some (.int 0), some (.int 0)] [] N := by
  have q3 := hN.nt6
  have q2 := hN.nn12
  refine Bd_nx (L' := (fun i => [some (.ref 0), some (.int a), some (.int b), some (.int k), some (.int x4), some (.int (twF N i).1), some (.int (twF N i).2.1), some (.int (twF N i).2.2), some (.int (nI i))]) 0) ?_ (by repeat (first | exact True.intro | refine And.intro rfl ?_))
  refine Bd_for (pc := 95) (c := (cn (N 44 6))) (fun i => [some (.ref 0), some (.int a), some (.int b), some (.int k), some (.int x4), some (.int (twF N i).1), some (.int (twF N i).2.1), some (.int (twF N i).2.2), some (.int (nI i))]) (fun _ => N) (fun _ => True) (fun ivi => ?_) (fun i hi ivi ihi => ?_) trivial
  · refine Bd_iload_8 (pc := 95) dX7_twice_95 ?_
    refine Bd_aload_0 (pc := 97) dX7_twice_97 ?_
    refine Bd_getR (j := 8) ck7 (pc := 98) dX7_twice_98 k_243 rfl (Nat.le_of_ble_eq_true rfl) rfl ?_
    refine Bd_getI (j := 6) ck3 (pc := 101) dX7_twice_101 k_165 rfl (Nat.le_of_ble_eq_true rfl) rfl ?_
    refine Bd_icmp_ge (t := 197) (pc := 104) dX7_twice_104 (by decide) (fun b104 => ?_) (fun b104 => (show False from lf_x hN.nt b104).elim)
    refine Bd_iload_3 (pc := 197) dX7_twice_197 ?_
    refine Bd_if_ne (t := 204) (pc := 198) dX7_twice_198 (by decide) (fun b198 => ?_) (fun b198 => ?_)
    · refine Bd_iload_5 (pc := 204) dX7_twice_204 ?_
      refine Bd_if_ne (t := 212) (pc := 206) dX7_twice_206 (by decide) (fun b206 => ?_) (fun b206 => ?_)
      · refine Bd_iload_4 (pc := 212) dX7_twice_212 ?_
        refine Bd_if_eq (t := 236) (pc := 214) dX7_twice_214 (by decide) (fun b214 => ?_) (fun b214 => ?_)
        · refine Bd_sipush (v := 1000) (pc := 236) dX7_twice_236 (by decide) ?_
          refine Bd_iload_3 (pc := 239) dX7_twice_239 ?_
          refine Bd_iconst (v := 1) (pc := 240) dX7_twice_240 (by decide) ?_
          refine Bd_icmp_ne (t := 249) (pc := 241) dX7_twice_241 (by decide) (fun b241 => ?_) (fun b241 => ?_)
          · refine Bd_iload_7 (pc := 249) dX7_twice_249 ?_
            refine Bd_iadd (pc := 251) dX7_twice_251 ?_
            refine Bd_iret (pc := 252) dX7_twice_252 rfl ?_
            exact hR _ (by rw [twL, if_neg b198, if_neg b206, if_neg (fun q => hx.mpr q b214), if_neg b241])
          · refine Bd_iload_6 (pc := 244) dX7_twice_244 ?_
            refine Bd_goto (t := 251) (pc := 246) dX7_twice_246 (by decide) ?_
            refine Bd_iadd (pc := 251) dX7_twice_251 ?_
            refine Bd_iret (pc := 252) dX7_twice_252 rfl ?_
            exact hR _ (by rw [twL, if_neg b198, if_neg b206, if_neg (fun q => hx.mpr q b214), if_pos b241])
        · refine Bd_aload_0 (pc := 217) dX7_twice_217 ?_
          refine Bd_aload_0 (pc := 218) dX7_twice_218 ?_
          refine Bd_getR (j := 8) ck7 (pc := 219) dX7_twice_219 k_243 rfl (Nat.le_of_ble_eq_true rfl) rfl ?_
          refine Bd_getR (j := 5) ck3 (pc := 222) dX7_twice_222 k_162 rfl (Nat.le_of_ble_eq_true rfl) rfl ?_
          refine Bd_iload_3 (pc := 225) dX7_twice_225 ?_
          refine Bd_bipush (v := 10) (pc := 226) dX7_twice_226 (by decide) ?_
          refine Bd_isub (pc := 228) dX7_twice_228 ?_
          refine Bd_iald (pc := 229) dX7_twice_229 rfl (tw_vp hN (hx.mp b214)) ?_
          refine Bd_iload_6 (pc := 230) dX7_twice_230 ?_
          refine Bd_callV2i (cd := mX7_towerOfLag) (pc := 232) dX7_twice_232 k_621 v_X7_towerOfLag ⟨(Nat.le_of_ble_eq_true rfl), (Nat.le_of_ble_eq_true rfl)⟩ rfl rfl (sem_X7_towerOfLag hN) (Nat.le_of_ble_eq_true rfl) ?_
          refine Bd_iret (pc := 235) dX7_twice_235 rfl ?_
          exact hR _ (by rw [twL, if_neg b198, if_neg b206, if_pos (hx.mp b214)])
      · refine Bd_bipush (v := -4) (pc := 209) dX7_twice_209 (by decide) ?_
        refine Bd_iret (pc := 211) dX7_twice_211 rfl ?_
        exact hR _ (by rw [twL, if_neg b198, if_pos b206])
    · refine Bd_iload_5 (pc := 201) dX7_twice_201 ?_
      refine Bd_iret (pc := 203) dX7_twice_203 rfl ?_
      exact hR _ (by rw [twL, if_pos b198])
  · refine Bd_iload_8 (pc := 95) dX7_twice_95 ?_
    refine Bd_aload_0 (pc := 97) dX7_twice_97 ?_
    refine Bd_getR (j := 8) ck7 (pc := 98) dX7_twice_98 k_243 rfl (Nat.le_of_ble_eq_true rfl) rfl ?_
    refine Bd_getI (j := 6) ck3 (pc := 101) dX7_twice_101 k_165 rfl (Nat.le_of_ble_eq_true rfl) rfl ?_
    refine Bd_icmp_ge (t := 197) (pc := 104) dX7_twice_104 (by decide) (fun b104 => (show False from lf_s hN.nt (by omega) hi b104).elim) (fun b104 => ?_)
    refine Bd_aload_0 (pc := 107) dX7_twice_107 ?_
    refine Bd_iload_8 (pc := 108) dX7_twice_108 ?_
    refine Bd_callV1i (cd := mX7_isFirstOfLag) (pc := 110) dX7_twice_110 k_609 v_X7_isFirstOfLag ⟨(Nat.le_of_ble_eq_true rfl), (Nat.le_of_ble_eq_true rfl)⟩ rfl rfl (sem_X7_isFirstOfLag (t := i) (by omega)) (Nat.le_of_ble_eq_true rfl) ?_
    refine Bd_if_eq (t := 191) (pc := 113) dX7_twice_113 (by decide) (fun b113 => ?_) (fun b113 => ?_)
    · refine Bd_iinc_8 (pc := 191) dX7_twice_191 (show _ + Int32.ofInt 1 = _ + 1 from rfl) (Nat.le_of_ble_eq_true rfl) rfl ?_
      refine Bd_goto (t := 95) (pc := 194) dX7_twice_194 (by decide) ?_
      exact Bd_nx (ihi trivial) (by simp only [wkP, twF, if_neg (b2_0.mp b113), nI_succ, and_self]; try exact ⟨rfl, rfl⟩)
    · refine Bd_aload_0 (pc := 116) dX7_twice_116 ?_
      refine Bd_aload_0 (pc := 117) dX7_twice_117 ?_
      refine Bd_getR (j := 6) ck7 (pc := 118) dX7_twice_118 k_241 rfl (Nat.le_of_ble_eq_true rfl) rfl ?_
      refine Bd_iload_8 (pc := 121) dX7_twice_121 ?_
      refine Bd_ialdc (j := i) (nI_clamp (by omega)) (pc := 123) dX7_twice_123 rfl (vpi (by omega) (by omega)) ?_
      refine Bd_callV1i (cd := mX7_lagCanBe) (pc := 124) dX7_twice_124 k_613 v_X7_lagCanBe ⟨(Nat.le_of_ble_eq_true rfl), (Nat.le_of_ble_eq_true rfl)⟩ rfl rfl (sem_X7_lagCanBe hN) (Nat.le_of_ble_eq_true rfl) ?_
      refine Bd_if_eq (t := 191) (pc := 127) dX7_twice_127 (by decide) (fun b127 => ?_) (fun b127 => ?_)
      · refine Bd_iinc_8 (pc := 191) dX7_twice_191 (show _ + Int32.ofInt 1 = _ + 1 from rfl) (Nat.le_of_ble_eq_true rfl) rfl ?_
        refine Bd_goto (t := 95) (pc := 194) dX7_twice_194 (by decide) ?_
        exact Bd_nx (ihi trivial) (by simp only [wkP, twF, if_pos (b2_n.mp b113), if_neg (b2_0.mp b127), nI_succ, and_self]; try exact ⟨rfl, rfl⟩)
      · refine Bd_iload_5 (pc := 130) dX7_twice_130 ?_
        refine Bd_if_ne (t := 145) (pc := 132) dX7_twice_132 (by decide) (fun b132 => ?_) (fun b132 => ?_)
        · refine Bd_iload_6 (pc := 145) dX7_twice_145 ?_
          refine Bd_aload_0 (pc := 147) dX7_twice_147 ?_
          refine Bd_getR (j := 6) ck7 (pc := 148) dX7_twice_148 k_241 rfl (Nat.le_of_ble_eq_true rfl) rfl ?_
          refine Bd_iload_8 (pc := 151) dX7_twice_151 ?_
          refine Bd_ialdc (j := i) (nI_clamp (by omega)) (pc := 153) dX7_twice_153 rfl (vpi (by omega) (by omega)) ?_
          refine Bd_mmin (pc := 154) dX7_twice_154 k_543 k_544 k_14 k_545 (Nat.le_of_ble_eq_true rfl) (Nat.le_of_ble_eq_true rfl) ?_
          refine Bd_istore_6 (pc := 157) dX7_twice_157 (Nat.le_of_ble_eq_true rfl) rfl ?_
          refine Bd_iload_5 (pc := 159) dX7_twice_159 ?_
          refine Bd_if_ne (t := 174) (pc := 161) dX7_twice_161 (by decide) (fun b161 => ?_) (fun b161 => (show False from b132 b161).elim)
          refine Bd_iload_7 (pc := 174) dX7_twice_174 ?_
          refine Bd_aload_0 (pc := 176) dX7_twice_176 ?_
          refine Bd_getR (j := 6) ck7 (pc := 177) dX7_twice_177 k_241 rfl (Nat.le_of_ble_eq_true rfl) rfl ?_
          refine Bd_iload_8 (pc := 180) dX7_twice_180 ?_
          refine Bd_ialdc (j := i) (nI_clamp (by omega)) (pc := 182) dX7_twice_182 rfl (vpi (by omega) (by omega)) ?_
          refine Bd_mmax (pc := 183) dX7_twice_183 k_542 k_494 k_14 k_495 (Nat.le_of_ble_eq_true rfl) (Nat.le_of_ble_eq_true rfl) ?_
          refine Bd_istore_7 (pc := 186) dX7_twice_186 (Nat.le_of_ble_eq_true rfl) rfl ?_
          refine Bd_iinc_5 (pc := 188) dX7_twice_188 (show _ + Int32.ofInt 1 = _ + 1 from rfl) (Nat.le_of_ble_eq_true rfl) rfl ?_
          refine Bd_iinc_8 (pc := 191) dX7_twice_191 (show _ + Int32.ofInt 1 = _ + 1 from rfl) (Nat.le_of_ble_eq_true rfl) rfl ?_
          refine Bd_goto (t := 95) (pc := 194) dX7_twice_194 (by decide) ?_
          exact Bd_nx (ihi trivial) (by simp only [wkP, twF, if_pos (b2_n.mp b113), if_pos (b2_n.mp b127), if_neg b132, if_neg b132, mnF, mxF, true_and, nI_succ, and_self]; try exact ⟨rfl, rfl⟩)
        · refine Bd_aload_0 (pc := 135) dX7_twice_135 ?_
          refine Bd_getR (j := 6) ck7 (pc := 136) dX7_twice_136 k_241 rfl (Nat.le_of_ble_eq_true rfl) rfl ?_
          refine Bd_iload_8 (pc := 139) dX7_twice_139 ?_
          refine Bd_ialdc (j := i) (nI_clamp (by omega)) (pc := 141) dX7_twice_141 rfl (vpi (by omega) (by omega)) ?_
          refine Bd_goto (t := 157) (pc := 142) dX7_twice_142 (by decide) ?_
          refine Bd_istore_6 (pc := 157) dX7_twice_157 (Nat.le_of_ble_eq_true rfl) rfl ?_
          refine Bd_iload_5 (pc := 159) dX7_twice_159 ?_
          refine Bd_if_ne (t := 174) (pc := 161) dX7_twice_161 (by decide) (fun b161 => (show False from b161 b132).elim) (fun b161 => ?_)
          refine Bd_aload_0 (pc := 164) dX7_twice_164 ?_
          refine Bd_getR (j := 6) ck7 (pc := 165) dX7_twice_165 k_241 rfl (Nat.le_of_ble_eq_true rfl) rfl ?_
          refine Bd_iload_8 (pc := 168) dX7_twice_168 ?_
          refine Bd_ialdc (j := i) (nI_clamp (by omega)) (pc := 170) dX7_twice_170 rfl (vpi (by omega) (by omega)) ?_
          refine Bd_goto (t := 186) (pc := 171) dX7_twice_171 (by decide) ?_
          refine Bd_istore_7 (pc := 186) dX7_twice_186 (Nat.le_of_ble_eq_true rfl) rfl ?_
          refine Bd_iinc_5 (pc := 188) dX7_twice_188 (show _ + Int32.ofInt 1 = _ + 1 from rfl) (Nat.le_of_ble_eq_true rfl) rfl ?_
          refine Bd_iinc_8 (pc := 191) dX7_twice_191 (show _ + Int32.ofInt 1 = _ + 1 from rfl) (Nat.le_of_ble_eq_true rfl) rfl ?_
          refine Bd_goto (t := 95) (pc := 194) dX7_twice_194 (by decide) ?_
          exact Bd_nx (ihi trivial) (by simp only [wkP, twF, if_pos (b2_n.mp b113), if_pos (b2_n.mp b127), if_pos b132, mnF, mxF, true_and, nI_succ, and_self]; try exact ⟨rfl, rfl⟩)
def twiceR (M : Mem) (a b k : Int32) (r : Int32) : Prop := if twB M a b k then if M 44 8 = 0 then r = -2 else ∃ N, (∀ q, q ≠ 42 → N q = M q) ∧ (∀ t, t < cn (M 44 6) → N 42 t = lgF M a b t) ∧ r = twL N k else r = -1
set_option maxRecDepth 100000 in
set_option maxHeartbeats 4000000 in
theorem sem_X7_twice {M : Mem} (h : WF M) {a b k : Int32} : Sem mX7_twice SH [.ref 0, .int a, .int b, .int k] M (RI SH (fun r N => twiceR M a b k r ∧ ∀ q, q ≠ 42 → N q = M q)) := by
  have q1 := h.nb24
  have q2 := h.nn12
  have q3 := h.nt6
  have q4 := h.nh3
  have q5 := h.nmb
  refine Sem_of rfl (fun G => (Nat.le_of_ble_eq_true rfl)) (fun G => ?_)
  refine Bd_iload_3 (pc := 0) dX7_twice_0 ?_
  refine Bd_bipush (v := 10) (pc := 1) dX7_twice_1 (by decide) ?_
  refine Bd_icmp_lt (t := 24) (pc := 3) dX7_twice_3 (by decide) (fun b3 => ?_) (fun b3 => ?_)
  · refine Bd_iconst (v := 0) (pc := 24) dX7_twice_24 (by decide) ?_
    refine Bd_istore_4 (pc := 25) dX7_twice_25 (Nat.le_of_ble_eq_true rfl) rfl ?_
    refine Bd_aload_0 (pc := 27) dX7_twice_27 ?_
    refine Bd_getR (j := 8) ck7 (pc := 28) dX7_twice_28 k_243 rfl (Nat.le_of_ble_eq_true rfl) rfl ?_
    refine Bd_iload_1 (pc := 31) dX7_twice_31 ?_
    refine Bd_callV1i (cd := mX3_hasCell) (pc := 32) dX7_twice_32 k_481 v_X3_hasCell ⟨(Nat.le_of_ble_eq_true rfl), (Nat.le_of_ble_eq_true rfl)⟩ rfl rfl sem_X3_hasCell (Nat.le_of_ble_eq_true rfl) ?_
    refine Bd_if_eq (t := 62) (pc := 35) dX7_twice_35 (by decide) (fun b35 => ?_) (fun b35 => ?_)
    · refine Bd_iconst (v := -1) (pc := 62) dX7_twice_62 (by decide) ?_
      refine Bd_iret (pc := 63) dX7_twice_63 rfl ?_
      exact ⟨_, rfl, rfl, by rw [twiceR, if_neg (fun q => b2_0.mp b35 q.1)], fun _ _ => rfl⟩
    · refine Bd_aload_0 (pc := 38) dX7_twice_38 ?_
      refine Bd_getR (j := 8) ck7 (pc := 39) dX7_twice_39 k_243 rfl (Nat.le_of_ble_eq_true rfl) rfl ?_
      refine Bd_iload_2 (pc := 42) dX7_twice_42 ?_
      refine Bd_callV1i (cd := mX3_hasCell) (pc := 43) dX7_twice_43 k_481 v_X3_hasCell ⟨(Nat.le_of_ble_eq_true rfl), (Nat.le_of_ble_eq_true rfl)⟩ rfl rfl sem_X3_hasCell (Nat.le_of_ble_eq_true rfl) ?_
      refine Bd_if_eq (t := 62) (pc := 46) dX7_twice_46 (by decide) (fun b46 => ?_) (fun b46 => ?_)
      · refine Bd_iconst (v := -1) (pc := 62) dX7_twice_62 (by decide) ?_
        refine Bd_iret (pc := 63) dX7_twice_63 rfl ?_
        exact ⟨_, rfl, rfl, by rw [twiceR, if_neg (fun q => b2_0.mp b46 q.2.1)], fun _ _ => rfl⟩
      · refine Bd_iload_3 (pc := 49) dX7_twice_49 ?_
        refine Bd_iconst (v := 3) (pc := 50) dX7_twice_50 (by decide) ?_
        refine Bd_callS2i (cd := mX7_isWithin) (pc := 51) dX7_twice_51 k_448 v_X7_isWithin ⟨(Nat.le_of_ble_eq_true rfl), (Nat.le_of_ble_eq_true rfl)⟩ sem_X7_isWithin (Nat.le_of_ble_eq_true rfl) ?_
        refine Bd_if_ne (t := 64) (pc := 54) dX7_twice_54 (by decide) (fun b54 => ?_) (fun b54 => ?_)
        · refine Bd_aload_0 (pc := 64) dX7_twice_64 ?_
          refine Bd_getR (j := 8) ck7 (pc := 65) dX7_twice_65 k_243 rfl (Nat.le_of_ble_eq_true rfl) rfl ?_
          refine Bd_getI (j := 8) ck3 (pc := 68) dX7_twice_68 k_171 rfl (Nat.le_of_ble_eq_true rfl) rfl ?_
          refine Bd_if_ne (t := 77) (pc := 71) dX7_twice_71 (by decide) (fun b71 => ?_) (fun b71 => ?_)
          · refine Bd_aload_0 (pc := 77) dX7_twice_77 ?_
            refine Bd_iload_1 (pc := 78) dX7_twice_78 ?_
            refine Bd_iload_2 (pc := 79) dX7_twice_79 ?_
            refine Bd_callV2y (cd := mX7_measureLags) (pc := 80) dX7_twice_80 k_605 v_X7_measureLags ⟨(Nat.le_of_ble_eq_true rfl), (Nat.le_of_ble_eq_true rfl)⟩ rfl rfl (sem_X7_measureLags h) (Nat.le_of_ble_eq_true rfl) (fun M80 e80 => ?_)
            refine Bd_iconst (v := 0) (pc := 83) dX7_twice_83 (by decide) ?_
            refine Bd_istore_5 (pc := 84) dX7_twice_84 (Nat.le_of_ble_eq_true rfl) rfl ?_
            refine Bd_iconst (v := 0) (pc := 86) dX7_twice_86 (by decide) ?_
            refine Bd_istore_6 (pc := 87) dX7_twice_87 (Nat.le_of_ble_eq_true rfl) rfl ?_
            refine Bd_iconst (v := 0) (pc := 89) dX7_twice_89 (by decide) ?_
            refine Bd_istore_7 (pc := 90) dX7_twice_90 (Nat.le_of_ble_eq_true rfl) rfl ?_
            refine Bd_iconst (v := 0) (pc := 92) dX7_twice_92 (by decide) ?_
            refine Bd_istore_8 (pc := 93) dX7_twice_93 (Nat.le_of_ble_eq_true rfl) rfl ?_
            obtain ⟨hN1, hN2⟩ := e80
            have hA : twA M80 k ↔ twA M k := by rw [show twA M80 k ↔ (¬ k < 10 ∧ ¬ M80 44 8 ≤ k - 10) from Iff.rfl, hN1 44 (by decide)]
            refine bd_twice (CE_wf (fun q hq => hN1 q (fun z => by rw [z] at hq; exact absurd hq (by decide))) h) (x4 := 0) (Iff.trans ?_ hA.symm) (fun r hr => ⟨r, rfl, rfl, by rw [twiceR, if_pos ⟨b2_n.mp b35, b2_n.mp b46, Or.inl (b2_n.mp b54)⟩, if_neg b71]; exact ⟨M80, hN1, hN2, hr⟩, hN1⟩)
            exact ⟨fun q => absurd rfl q, fun q => absurd b3 q.1⟩
          · refine Bd_bipush (v := -2) (pc := 74) dX7_twice_74 (by decide) ?_
            refine Bd_iret (pc := 76) dX7_twice_76 rfl ?_
            exact ⟨_, rfl, rfl, by rw [twiceR, if_pos ⟨b2_n.mp b35, b2_n.mp b46, Or.inl (b2_n.mp b54)⟩, if_pos b71], fun _ _ => rfl⟩
        · refine Bd_iload_4 (pc := 57) dX7_twice_57 ?_
          refine Bd_if_ne (t := 64) (pc := 59) dX7_twice_59 (by decide) (fun b59 => (show False from absurd (show (0 : Int32) = 0 from rfl) b59).elim) (fun b59 => ?_)
          refine Bd_iconst (v := -1) (pc := 62) dX7_twice_62 (by decide) ?_
          refine Bd_iret (pc := 63) dX7_twice_63 rfl ?_
          exact ⟨_, rfl, rfl, by rw [twiceR, if_neg (fun q => q.2.2.elim (b2_0.mp b54) (fun z => z.1 b3))], fun _ _ => rfl⟩
  · refine Bd_iload_3 (pc := 6) dX7_twice_6 ?_
    refine Bd_bipush (v := 10) (pc := 7) dX7_twice_7 (by decide) ?_
    refine Bd_isub (pc := 9) dX7_twice_9 ?_
    refine Bd_aload_0 (pc := 10) dX7_twice_10 ?_
    refine Bd_getR (j := 8) ck7 (pc := 11) dX7_twice_11 k_243 rfl (Nat.le_of_ble_eq_true rfl) rfl ?_
    refine Bd_getI (j := 8) ck3 (pc := 14) dX7_twice_14 k_171 rfl (Nat.le_of_ble_eq_true rfl) rfl ?_
    refine Bd_icmp_ge (t := 24) (pc := 17) dX7_twice_17 (by decide) (fun b17 => ?_) (fun b17 => ?_)
    · refine Bd_iconst (v := 0) (pc := 24) dX7_twice_24 (by decide) ?_
      refine Bd_istore_4 (pc := 25) dX7_twice_25 (Nat.le_of_ble_eq_true rfl) rfl ?_
      refine Bd_aload_0 (pc := 27) dX7_twice_27 ?_
      refine Bd_getR (j := 8) ck7 (pc := 28) dX7_twice_28 k_243 rfl (Nat.le_of_ble_eq_true rfl) rfl ?_
      refine Bd_iload_1 (pc := 31) dX7_twice_31 ?_
      refine Bd_callV1i (cd := mX3_hasCell) (pc := 32) dX7_twice_32 k_481 v_X3_hasCell ⟨(Nat.le_of_ble_eq_true rfl), (Nat.le_of_ble_eq_true rfl)⟩ rfl rfl sem_X3_hasCell (Nat.le_of_ble_eq_true rfl) ?_
      refine Bd_if_eq (t := 62) (pc := 35) dX7_twice_35 (by decide) (fun b35 => ?_) (fun b35 => ?_)
      · refine Bd_iconst (v := -1) (pc := 62) dX7_twice_62 (by decide) ?_
        refine Bd_iret (pc := 63) dX7_twice_63 rfl ?_
        exact ⟨_, rfl, rfl, by rw [twiceR, if_neg (fun q => b2_0.mp b35 q.1)], fun _ _ => rfl⟩
      · refine Bd_aload_0 (pc := 38) dX7_twice_38 ?_
        refine Bd_getR (j := 8) ck7 (pc := 39) dX7_twice_39 k_243 rfl (Nat.le_of_ble_eq_true rfl) rfl ?_
        refine Bd_iload_2 (pc := 42) dX7_twice_42 ?_
        refine Bd_callV1i (cd := mX3_hasCell) (pc := 43) dX7_twice_43 k_481 v_X3_hasCell ⟨(Nat.le_of_ble_eq_true rfl), (Nat.le_of_ble_eq_true rfl)⟩ rfl rfl sem_X3_hasCell (Nat.le_of_ble_eq_true rfl) ?_
        refine Bd_if_eq (t := 62) (pc := 46) dX7_twice_46 (by decide) (fun b46 => ?_) (fun b46 => ?_)
        · refine Bd_iconst (v := -1) (pc := 62) dX7_twice_62 (by decide) ?_
          refine Bd_iret (pc := 63) dX7_twice_63 rfl ?_
          exact ⟨_, rfl, rfl, by rw [twiceR, if_neg (fun q => b2_0.mp b46 q.2.1)], fun _ _ => rfl⟩
        · refine Bd_iload_3 (pc := 49) dX7_twice_49 ?_
          refine Bd_iconst (v := 3) (pc := 50) dX7_twice_50 (by decide) ?_
          refine Bd_callS2i (cd := mX7_isWithin) (pc := 51) dX7_twice_51 k_448 v_X7_isWithin ⟨(Nat.le_of_ble_eq_true rfl), (Nat.le_of_ble_eq_true rfl)⟩ sem_X7_isWithin (Nat.le_of_ble_eq_true rfl) ?_
          refine Bd_if_ne (t := 64) (pc := 54) dX7_twice_54 (by decide) (fun b54 => ?_) (fun b54 => ?_)
          · refine Bd_aload_0 (pc := 64) dX7_twice_64 ?_
            refine Bd_getR (j := 8) ck7 (pc := 65) dX7_twice_65 k_243 rfl (Nat.le_of_ble_eq_true rfl) rfl ?_
            refine Bd_getI (j := 8) ck3 (pc := 68) dX7_twice_68 k_171 rfl (Nat.le_of_ble_eq_true rfl) rfl ?_
            refine Bd_if_ne (t := 77) (pc := 71) dX7_twice_71 (by decide) (fun b71 => ?_) (fun b71 => ?_)
            · refine Bd_aload_0 (pc := 77) dX7_twice_77 ?_
              refine Bd_iload_1 (pc := 78) dX7_twice_78 ?_
              refine Bd_iload_2 (pc := 79) dX7_twice_79 ?_
              refine Bd_callV2y (cd := mX7_measureLags) (pc := 80) dX7_twice_80 k_605 v_X7_measureLags ⟨(Nat.le_of_ble_eq_true rfl), (Nat.le_of_ble_eq_true rfl)⟩ rfl rfl (sem_X7_measureLags h) (Nat.le_of_ble_eq_true rfl) (fun M80 e80 => ?_)
              refine Bd_iconst (v := 0) (pc := 83) dX7_twice_83 (by decide) ?_
              refine Bd_istore_5 (pc := 84) dX7_twice_84 (Nat.le_of_ble_eq_true rfl) rfl ?_
              refine Bd_iconst (v := 0) (pc := 86) dX7_twice_86 (by decide) ?_
              refine Bd_istore_6 (pc := 87) dX7_twice_87 (Nat.le_of_ble_eq_true rfl) rfl ?_
              refine Bd_iconst (v := 0) (pc := 89) dX7_twice_89 (by decide) ?_
              refine Bd_istore_7 (pc := 90) dX7_twice_90 (Nat.le_of_ble_eq_true rfl) rfl ?_
              refine Bd_iconst (v := 0) (pc := 92) dX7_twice_92 (by decide) ?_
              refine Bd_istore_8 (pc := 93) dX7_twice_93 (Nat.le_of_ble_eq_true rfl) rfl ?_
              obtain ⟨hN1, hN2⟩ := e80
              have hA : twA M80 k ↔ twA M k := by rw [show twA M80 k ↔ (¬ k < 10 ∧ ¬ M80 44 8 ≤ k - 10) from Iff.rfl, hN1 44 (by decide)]
              refine bd_twice (CE_wf (fun q hq => hN1 q (fun z => by rw [z] at hq; exact absurd hq (by decide))) h) (x4 := 0) (Iff.trans ?_ hA.symm) (fun r hr => ⟨r, rfl, rfl, by rw [twiceR, if_pos ⟨b2_n.mp b35, b2_n.mp b46, Or.inl (b2_n.mp b54)⟩, if_neg b71]; exact ⟨M80, hN1, hN2, hr⟩, hN1⟩)
              exact ⟨fun q => absurd rfl q, fun q => absurd b17 q.2⟩
            · refine Bd_bipush (v := -2) (pc := 74) dX7_twice_74 (by decide) ?_
              refine Bd_iret (pc := 76) dX7_twice_76 rfl ?_
              exact ⟨_, rfl, rfl, by rw [twiceR, if_pos ⟨b2_n.mp b35, b2_n.mp b46, Or.inl (b2_n.mp b54)⟩, if_pos b71], fun _ _ => rfl⟩
          · refine Bd_iload_4 (pc := 57) dX7_twice_57 ?_
            refine Bd_if_ne (t := 64) (pc := 59) dX7_twice_59 (by decide) (fun b59 => (show False from absurd (show (0 : Int32) = 0 from rfl) b59).elim) (fun b59 => ?_)
            refine Bd_iconst (v := -1) (pc := 62) dX7_twice_62 (by decide) ?_
            refine Bd_iret (pc := 63) dX7_twice_63 rfl ?_
            exact ⟨_, rfl, rfl, by rw [twiceR, if_neg (fun q => q.2.2.elim (b2_0.mp b54) (fun z => z.2 b17))], fun _ _ => rfl⟩
    · refine Bd_iconst (v := 1) (pc := 20) dX7_twice_20 (by decide) ?_
      refine Bd_goto (t := 25) (pc := 21) dX7_twice_21 (by decide) ?_
      refine Bd_istore_4 (pc := 25) dX7_twice_25 (Nat.le_of_ble_eq_true rfl) rfl ?_
      refine Bd_aload_0 (pc := 27) dX7_twice_27 ?_
      refine Bd_getR (j := 8) ck7 (pc := 28) dX7_twice_28 k_243 rfl (Nat.le_of_ble_eq_true rfl) rfl ?_
      refine Bd_iload_1 (pc := 31) dX7_twice_31 ?_
      refine Bd_callV1i (cd := mX3_hasCell) (pc := 32) dX7_twice_32 k_481 v_X3_hasCell ⟨(Nat.le_of_ble_eq_true rfl), (Nat.le_of_ble_eq_true rfl)⟩ rfl rfl sem_X3_hasCell (Nat.le_of_ble_eq_true rfl) ?_
      refine Bd_if_eq (t := 62) (pc := 35) dX7_twice_35 (by decide) (fun b35 => ?_) (fun b35 => ?_)
      · refine Bd_iconst (v := -1) (pc := 62) dX7_twice_62 (by decide) ?_
        refine Bd_iret (pc := 63) dX7_twice_63 rfl ?_
        exact ⟨_, rfl, rfl, by rw [twiceR, if_neg (fun q => b2_0.mp b35 q.1)], fun _ _ => rfl⟩
      · refine Bd_aload_0 (pc := 38) dX7_twice_38 ?_
        refine Bd_getR (j := 8) ck7 (pc := 39) dX7_twice_39 k_243 rfl (Nat.le_of_ble_eq_true rfl) rfl ?_
        refine Bd_iload_2 (pc := 42) dX7_twice_42 ?_
        refine Bd_callV1i (cd := mX3_hasCell) (pc := 43) dX7_twice_43 k_481 v_X3_hasCell ⟨(Nat.le_of_ble_eq_true rfl), (Nat.le_of_ble_eq_true rfl)⟩ rfl rfl sem_X3_hasCell (Nat.le_of_ble_eq_true rfl) ?_
        refine Bd_if_eq (t := 62) (pc := 46) dX7_twice_46 (by decide) (fun b46 => ?_) (fun b46 => ?_)
        · refine Bd_iconst (v := -1) (pc := 62) dX7_twice_62 (by decide) ?_
          refine Bd_iret (pc := 63) dX7_twice_63 rfl ?_
          exact ⟨_, rfl, rfl, by rw [twiceR, if_neg (fun q => b2_0.mp b46 q.2.1)], fun _ _ => rfl⟩
        · refine Bd_iload_3 (pc := 49) dX7_twice_49 ?_
          refine Bd_iconst (v := 3) (pc := 50) dX7_twice_50 (by decide) ?_
          refine Bd_callS2i (cd := mX7_isWithin) (pc := 51) dX7_twice_51 k_448 v_X7_isWithin ⟨(Nat.le_of_ble_eq_true rfl), (Nat.le_of_ble_eq_true rfl)⟩ sem_X7_isWithin (Nat.le_of_ble_eq_true rfl) ?_
          refine Bd_if_ne (t := 64) (pc := 54) dX7_twice_54 (by decide) (fun b54 => ?_) (fun b54 => ?_)
          · refine Bd_aload_0 (pc := 64) dX7_twice_64 ?_
            refine Bd_getR (j := 8) ck7 (pc := 65) dX7_twice_65 k_243 rfl (Nat.le_of_ble_eq_true rfl) rfl ?_
            refine Bd_getI (j := 8) ck3 (pc := 68) dX7_twice_68 k_171 rfl (Nat.le_of_ble_eq_true rfl) rfl ?_
            refine Bd_if_ne (t := 77) (pc := 71) dX7_twice_71 (by decide) (fun b71 => ?_) (fun b71 => ?_)
            · refine Bd_aload_0 (pc := 77) dX7_twice_77 ?_
              refine Bd_iload_1 (pc := 78) dX7_twice_78 ?_
              refine Bd_iload_2 (pc := 79) dX7_twice_79 ?_
              refine Bd_callV2y (cd := mX7_measureLags) (pc := 80) dX7_twice_80 k_605 v_X7_measureLags ⟨(Nat.le_of_ble_eq_true rfl), (Nat.le_of_ble_eq_true rfl)⟩ rfl rfl (sem_X7_measureLags h) (Nat.le_of_ble_eq_true rfl) (fun M80 e80 => ?_)
              refine Bd_iconst (v := 0) (pc := 83) dX7_twice_83 (by decide) ?_
              refine Bd_istore_5 (pc := 84) dX7_twice_84 (Nat.le_of_ble_eq_true rfl) rfl ?_
              refine Bd_iconst (v := 0) (pc := 86) dX7_twice_86 (by decide) ?_
              refine Bd_istore_6 (pc := 87) dX7_twice_87 (Nat.le_of_ble_eq_true rfl) rfl ?_
              refine Bd_iconst (v := 0) (pc := 89) dX7_twice_89 (by decide) ?_
              refine Bd_istore_7 (pc := 90) dX7_twice_90 (Nat.le_of_ble_eq_true rfl) rfl ?_
              refine Bd_iconst (v := 0) (pc := 92) dX7_twice_92 (by decide) ?_
              refine Bd_istore_8 (pc := 93) dX7_twice_93 (Nat.le_of_ble_eq_true rfl) rfl ?_
              obtain ⟨hN1, hN2⟩ := e80
              have hA : twA M80 k ↔ twA M k := by rw [show twA M80 k ↔ (¬ k < 10 ∧ ¬ M80 44 8 ≤ k - 10) from Iff.rfl, hN1 44 (by decide)]
              refine bd_twice (CE_wf (fun q hq => hN1 q (fun z => by rw [z] at hq; exact absurd hq (by decide))) h) (x4 := 1) (Iff.trans ?_ hA.symm) (fun r hr => ⟨r, rfl, rfl, by rw [twiceR, if_pos ⟨b2_n.mp b35, b2_n.mp b46, Or.inl (b2_n.mp b54)⟩, if_neg b71]; exact ⟨M80, hN1, hN2, hr⟩, hN1⟩)
              exact ⟨fun _ => ⟨b3, b17⟩, fun _ => by decide⟩
            · refine Bd_bipush (v := -2) (pc := 74) dX7_twice_74 (by decide) ?_
              refine Bd_iret (pc := 76) dX7_twice_76 rfl ?_
              exact ⟨_, rfl, rfl, by rw [twiceR, if_pos ⟨b2_n.mp b35, b2_n.mp b46, Or.inl (b2_n.mp b54)⟩, if_pos b71], fun _ _ => rfl⟩
          · refine Bd_iload_4 (pc := 57) dX7_twice_57 ?_
            refine Bd_if_ne (t := 64) (pc := 59) dX7_twice_59 (by decide) (fun b59 => ?_) (fun b59 => (show False from absurd b59 (by decide)).elim)
            refine Bd_aload_0 (pc := 64) dX7_twice_64 ?_
            refine Bd_getR (j := 8) ck7 (pc := 65) dX7_twice_65 k_243 rfl (Nat.le_of_ble_eq_true rfl) rfl ?_
            refine Bd_getI (j := 8) ck3 (pc := 68) dX7_twice_68 k_171 rfl (Nat.le_of_ble_eq_true rfl) rfl ?_
            refine Bd_if_ne (t := 77) (pc := 71) dX7_twice_71 (by decide) (fun b71 => ?_) (fun b71 => ?_)
            · refine Bd_aload_0 (pc := 77) dX7_twice_77 ?_
              refine Bd_iload_1 (pc := 78) dX7_twice_78 ?_
              refine Bd_iload_2 (pc := 79) dX7_twice_79 ?_
              refine Bd_callV2y (cd := mX7_measureLags) (pc := 80) dX7_twice_80 k_605 v_X7_measureLags ⟨(Nat.le_of_ble_eq_true rfl), (Nat.le_of_ble_eq_true rfl)⟩ rfl rfl (sem_X7_measureLags h) (Nat.le_of_ble_eq_true rfl) (fun M80 e80 => ?_)
              refine Bd_iconst (v := 0) (pc := 83) dX7_twice_83 (by decide) ?_
              refine Bd_istore_5 (pc := 84) dX7_twice_84 (Nat.le_of_ble_eq_true rfl) rfl ?_
              refine Bd_iconst (v := 0) (pc := 86) dX7_twice_86 (by decide) ?_
              refine Bd_istore_6 (pc := 87) dX7_twice_87 (Nat.le_of_ble_eq_true rfl) rfl ?_
              refine Bd_iconst (v := 0) (pc := 89) dX7_twice_89 (by decide) ?_
              refine Bd_istore_7 (pc := 90) dX7_twice_90 (Nat.le_of_ble_eq_true rfl) rfl ?_
              refine Bd_iconst (v := 0) (pc := 92) dX7_twice_92 (by decide) ?_
              refine Bd_istore_8 (pc := 93) dX7_twice_93 (Nat.le_of_ble_eq_true rfl) rfl ?_
              obtain ⟨hN1, hN2⟩ := e80
              have hA : twA M80 k ↔ twA M k := by rw [show twA M80 k ↔ (¬ k < 10 ∧ ¬ M80 44 8 ≤ k - 10) from Iff.rfl, hN1 44 (by decide)]
              refine bd_twice (CE_wf (fun q hq => hN1 q (fun z => by rw [z] at hq; exact absurd hq (by decide))) h) (x4 := 1) (Iff.trans ?_ hA.symm) (fun r hr => ⟨r, rfl, rfl, by rw [twiceR, if_pos ⟨b2_n.mp b35, b2_n.mp b46, Or.inr ⟨b3, b17⟩⟩, if_neg b71]; exact ⟨M80, hN1, hN2, hr⟩, hN1⟩)
              exact ⟨fun _ => ⟨b3, b17⟩, fun _ => by decide⟩
            · refine Bd_bipush (v := -2) (pc := 74) dX7_twice_74 (by decide) ?_
              refine Bd_iret (pc := 76) dX7_twice_76 rfl ?_
              exact ⟨_, rfl, rfl, by rw [twiceR, if_pos ⟨b2_n.mp b35, b2_n.mp b46, Or.inr ⟨b3, b17⟩⟩, if_pos b71], fun _ _ => rfl⟩
