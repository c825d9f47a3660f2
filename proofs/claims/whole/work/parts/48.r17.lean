/-! 48: the reference: watch -/
def anF (C : Mem) (t : Int32) : Nat → Int32
  | 0 => 0
  | i + 1 => if C 6 i = t then 1 else anF C t i
theorem an01 {C : Mem} {t : Int32} : ∀ n, anF C t n = 0 ∨ anF C t n = 1
  | 0 => Or.inl rfl
  | n + 1 => by
    unfold anF
    split
    · exact Or.inr rfl
    · exact an01 n
theorem an_b {C : Mem} {t : Int32} {n : Nat} : anF C t n = b2 (¬ anF C t n = 0) := by
  rcases an01 (C := C) (t := t) n with q | q
  · rw [q]; rfl
  · rw [q]; rfl
theorem an_nar {C : Mem} {t : Int32} {n : Nat} : narrow .boolean (.int (anF C t n)) = .int (anF C t n) := by
  rcases an01 (C := C) (t := t) n with q | q
  · rw [q]; rfl
  · rw [q]; rfl
theorem an_e {C : Mem} {t : Int32} : ∀ n, ¬ anF C t n = 0 ↔ ∃ i, i < n ∧ C 6 i = t
  | 0 => by simp [anF]
  | n + 1 => by
    have ih := an_e (C := C) (t := t) n
    unfold anF
    by_cases q : C 6 n = t
    · rw [if_pos q]; exact ⟨fun _ => ⟨n, by omega, q⟩, fun _ => by decide⟩
    · rw [if_neg q, ih]
      constructor
      · rintro ⟨i, h1, h2⟩; exact ⟨i, by omega, h2⟩
      · rintro ⟨i, h1, h2⟩
        by_cases z : i = n
        · rw [z] at h2; exact absurd h2 q
        · exact ⟨i, by omega, h2⟩
abbrev wrA (C : Mem) (c t d : Int32) (n : Nat) : Prop := ∀ i, i < n → ltF C i c = (if C 6 i = t then d else 0)
abbrev wrP (C : Mem) (c t d : Int32) : Prop := ¬ anF C t (cn (C 5 5)) = 0 ∧ wrA C c t d (cn (C 5 5))
theorem lt_a {x y d : Int32} : x + d = y ↔ y - x = d := by
  constructor
  · intro h; rw [← h, Int32.add_comm, Int32.add_sub_cancel]
  · intro h; rw [← h, Int32.add_comm, Int32.sub_add_cancel]
theorem wrA_s {C : Mem} {c t d : Int32} {n : Nat} (h : wrA C c t d n) (h2 : ltF C n c = (if C 6 n = t then d else 0)) : wrA C c t d (n + 1) := fun i hi => by
  by_cases z : i = n
  · rw [z]; exact h2
  · exact h i (by omega)
/-- what the class's reckoning holds -/
theorem wb_i {C : Mem} {c t : Int32} : ∀ n, (∀ x, wbF C t c n = some x → wrA C c t x n ∧ (x = 0 → ∀ i, i < n → ¬ C 6 i = t) ∧ (¬ x = 0 → ∃ i, i < n ∧ C 6 i = t) ∧ ¬ 20 < abF x) ∧ (wbF C t c n = none → ∀ d, ¬ d = 0 → ¬ 20 < abF d → ¬ wrA C c t d n)
  | 0 => ⟨fun x hx => by
      have e : x = 0 := by unfold wbF at hx; exact (Option.some.inj hx).symm
      subst e
      exact ⟨fun i hi => absurd hi (Nat.not_lt_zero i), fun _ i hi => absurd hi (Nat.not_lt_zero i), fun z => absurd rfl z, by decide⟩, fun h => by simp [wbF] at h⟩
  | n + 1 => by
    obtain ⟨ih1, ih2⟩ := wb_i (C := C) (c := c) (t := t) n
    cases ex : wbF C t c n with
    | none =>
      have hz := wbF_n ex (n + 1) (by omega)
      rw [hz]
      exact ⟨fun x hx => (by cases hx), fun _ d h1 h2 h3 => ih2 ex d h1 h2 (fun i hi => h3 i (by omega))⟩
    | some x =>
      obtain ⟨a1, a2, a3, a4⟩ := ih1 x ex
      rw [wbF_s ex]
      by_cases hT : C 6 n = t
      · rw [if_pos hT]
        by_cases hB : ltF C n c = 0 ∨ 20 < abF (ltF C n c) ∨ (¬ x = 0 ∧ ¬ x = ltF C n c)
        · rw [if_pos hB]
          refine ⟨fun y hy => (by cases hy), fun _ d h1 h2 h3 => ?_⟩
          have e := h3 n (by omega)
          rw [if_pos hT] at e
          rcases hB with q | q | ⟨q1, q2⟩
          · exact h1 (e ▸ q)
          · exact h2 (e ▸ q)
          · obtain ⟨j, j1, j2⟩ := a3 q1
            have e1 := a1 j j1
            have e2 := h3 j (by omega)
            rw [if_pos j2] at e1 e2
            exact q2 (by rw [← e1, e2, e])
        · rw [if_neg hB]
          refine ⟨fun y hy => ?_, fun z => (by cases z)⟩
          have e := Option.some.inj hy
          subst e
          have h0 : ¬ ltF C n c = 0 := fun z => hB (Or.inl z)
          refine ⟨wrA_s (fun i hi => ?_) (by rw [if_pos hT]), fun z => absurd z h0, fun _ => ⟨n, by omega, hT⟩, fun z => hB (Or.inr (Or.inl z))⟩
          have e1 := a1 i hi
          by_cases q : x = 0
          · rw [if_neg (a2 q i hi)] at e1 ⊢; exact e1
          · have e2 : x = ltF C n c := Classical.byContradiction (fun z => hB (Or.inr (Or.inr ⟨q, z⟩)))
            rw [← e2]; exact e1
      · rw [if_neg hT]
        by_cases hL : ltF C n c = 0
        · rw [if_pos hL]
          refine ⟨fun y hy => ?_, fun z => (by cases z)⟩
          have e := Option.some.inj hy
          subst e
          refine ⟨wrA_s a1 (by rw [if_neg hT]; exact hL), fun z i hi => ?_, fun z => ?_, a4⟩
          · by_cases q : i = n
            · rw [q]; exact hT
            · exact a2 z i (by omega)
          · obtain ⟨i, i1, i2⟩ := a3 z
            exact ⟨i, by omega, i2⟩
        · rw [if_neg hL]
          refine ⟨fun y hy => (by cases hy), fun _ d h1 h2 h3 => ?_⟩
          have e := h3 n (by omega)
          rw [if_neg hT] at e
          exact hL e
theorem wr_wb {C : Mem} {c t d : Int32} (h0 : ¬ d = 0) (h20 : ¬ 20 < abF d) : wrP C c t d ↔ wbV C t c = d := by
  obtain ⟨i1, i2⟩ := wb_i (C := C) (c := c) (t := t) (cn (C 5 5))
  constructor
  · rintro ⟨a, b⟩
    obtain ⟨j, j1, j2⟩ := (an_e _).mp a
    cases ex : wbF C t c (cn (C 5 5)) with
    | none => exact absurd b (i2 ex d h0 h20)
    | some x =>
      have e1 := (i1 x ex).1 j j1
      have e2 := b j j1
      rw [if_pos j2] at e1 e2
      rw [wbV, ex, Option.getD_some, ← e1, e2]
  · intro z
    cases ex : wbF C t c (cn (C 5 5)) with
    | none => rw [wbV, ex] at z; exact absurd z.symm h0
    | some x =>
      rw [wbV, ex, Option.getD_some] at z
      subst z
      obtain ⟨a1, a2, a3, a4⟩ := i1 x ex
      exact ⟨(an_e _).mpr (a3 h0), a1⟩
theorem ab20 {x : Int32} (h : ¬ 20 < abF x) (hb : bt x (-1000) 1000) : bt x (-20) 20 := by
  have e20 : (20 : Int32).toInt = 20 := by decide
  obtain ⟨l, -⟩ := hb
  rw [Int32.lt_iff_toInt_lt, e20] at h
  unfold abF at h
  by_cases q : 0 ≤ x
  · rw [if_pos q] at h
    rw [Int32.le_iff_toInt_le, Int32.toInt_zero] at q
    exact ⟨by omega, by omega⟩
  · rw [if_neg q] at h
    rw [Int32.le_iff_toInt_le, Int32.toInt_zero] at q
    have := i32_sub (x := 0) (y := x) (by rw [Int32.toInt_zero]; omega) (by rw [Int32.toInt_zero]; omega)
    rw [this, Int32.toInt_zero] at h
    exact ⟨by omega, by omega⟩
theorem wb20 {C : Mem} (w : WF C) {c t : Int32} (hc : c81 c) : bt (wbV C t c) (-20) 20 := by
  cases ex : wbF C t c (cn (C 5 5)) with
  | none => rw [wbV, ex]; exact ⟨by decide, by decide⟩
  | some x =>
    rw [wbV, ex, Option.getD_some]
    obtain ⟨a1, a2, a3, a4⟩ := (wb_i (cn (C 5 5))).1 x ex
    by_cases q : x = 0
    · rw [q]; exact ⟨by decide, by decide⟩
    · obtain ⟨i, i1, i2⟩ := a3 q
      have e := a1 i i1
      rw [if_pos i2] at e
      refine ab20 a4 ?_
      rw [← e]
      have b1 := w.2.1.2.2.2 i i1
      have b2 := cmB w (i := i) (Nat.lt_of_lt_of_le i1 w.nmb) hc
      have := i32_sub (x := C 9 i) (y := cmF C i c) (by have := b1.1; have := b2.2; omega) (by have := b1.2; have := b2.1; omega)
      exact ⟨by rw [this]; have := b1.1; have := b2.2; omega, by rw [this]; have := b1.2; have := b2.1; omega⟩
abbrev dj (j : Nat) : Int32 := nI j - 20
theorem dj_t : ∀ j, j < 42 → (dj j).toInt = (j : Int) - 20 := by decide +kernel
theorem dj_a : ∀ j, j < 41 → ¬ 20 < abF (dj j) ∧ (dj j + 1 = dj (j + 1)) ∧ ¬ 20 < dj j := by decide +kernel
/-- the state of the reference's count: how many, the first, by how much -/
def wsF (C : Mem) (c : Int32) : Nat → Int32 × Int32 × Int32
  | 0 => (0, -4, 0)
  | t + 1 => if wbV C (nI t) c = 0 then wsF C c t else ((wsF C c t).1 + 1, if (wsF C c t).1 = 0 then nI t else (wsF C c t).2.1, if (wsF C c t).1 = 0 then wbV C (nI t) c else (wsF C c t).2.2)
theorem ws_c {C : Mem} {c : Int32} : ∀ t, (wsF C c t).1 = wcF C c t
  | 0 => rfl
  | t + 1 => by
    unfold wsF wcF
    split
    · exact ws_c t
    · show (wsF C c t).1 + 1 = wcF C c t + 1
      rw [ws_c t]
theorem wc_n {C : Mem} {c : Int32} : ∀ t, ∃ m, m ≤ t ∧ wcF C c t = nI m
  | 0 => ⟨0, Nat.le_refl _, rfl⟩
  | t + 1 => by
    obtain ⟨m, h1, h2⟩ := wc_n (C := C) (c := c) t
    unfold wcF
    split
    · exact ⟨m, by omega, h2⟩
    · exact ⟨m + 1, by omega, by rw [h2, ← nI_succ]⟩
theorem ws_t {C : Mem} {c k : Int32} : ∀ t, t ≤ 6 → ((wsF C c t).1 = 0 ∧ wtF C c k t = none) ∨ (¬ (wsF C c t).1 = 0 ∧ wtF C c k t = some (if k = 1 then (wsF C c t).2.1 else 100 + (wsF C c t).2.2))
  | 0, _ => Or.inl ⟨rfl, rfl⟩
  | t + 1, ht => by
    have ih := ws_t (C := C) (c := c) (k := k) t (by omega)
    unfold wsF wtF
    by_cases q : wbV C (nI t) c = 0
    · rw [if_pos q]
      rcases ih with ⟨a, b⟩ | ⟨a, b⟩
      · rw [b]; exact Or.inl ⟨a, if_pos q⟩
      · rw [b]; exact Or.inr ⟨a, rfl⟩
    · rw [if_neg q]
      have hn : ¬ (wsF C c t).1 + 1 = 0 := by
        rw [ws_c]
        obtain ⟨m, h1, h2⟩ := wc_n (C := C) (c := c) t
        rw [h2, ← nI_succ]
        intro z
        have := congrArg Int32.toInt z
        rw [nI_toInt (by omega), Int32.toInt_zero] at this
        omega
      refine Or.inr ⟨hn, ?_⟩
      rcases ih with ⟨a, b⟩ | ⟨a, b⟩
      · rw [b, a]
        show (if wbV C (nI t) c = 0 then none else some _) = _
        rw [if_neg q]
        rfl
      · rw [b]
        show some _ = some (if k = 1 then (if (wsF C c t).1 = 0 then nI t else (wsF C c t).2.1) else 100 + (if (wsF C c t).1 = 0 then wbV C (nI t) c else (wsF C c t).2.2))
        rw [if_neg a, if_neg a]
/-- tower t, the amounts before j are through -/
def wpF (C : Mem) (c : Int32) (t j : Nat) : Int32 × Int32 × Int32 := if ¬ wbV C (nI t) c = 0 ∧ wbV C (nI t) c < dj j then wsF C c (t + 1) else wsF C c t
theorem wp_0 {C : Mem} (w : WF C) {c : Int32} (hc : c81 c) {t : Nat} : wpF C c t 0 = wsF C c t := by
  have b := wb20 w (t := nI t) hc
  unfold wpF
  rw [if_neg (fun z => by have := Int32.lt_iff_toInt_lt.mp z.2; rw [dj_t 0 (by decide)] at this; have := b.1; omega)]
theorem wp_x {C : Mem} (w : WF C) {c : Int32} (hc : c81 c) {t : Nat} : wpF C c t 41 = wsF C c (t + 1) := by
  have b := wb20 w (t := nI t) hc
  unfold wpF
  by_cases q : wbV C (nI t) c = 0
  · rw [if_neg (fun z => z.1 q), wsF, if_pos q]
  · rw [if_pos ⟨q, by rw [Int32.lt_iff_toInt_lt, dj_t 41 (by decide)]; have := b.2; omega⟩]
theorem wp_n {C : Mem} (w : WF C) {c : Int32} (hc : c81 c) {t j : Nat} (hj : j < 41) (h : wbV C (nI t) c = 0 ∨ ¬ wbV C (nI t) c = dj j) : wpF C c t (j + 1) = wpF C c t j := by
  unfold wpF
  have e : (¬ wbV C (nI t) c = 0 ∧ wbV C (nI t) c < dj (j + 1)) ↔ (¬ wbV C (nI t) c = 0 ∧ wbV C (nI t) c < dj j) := by
    rw [Int32.lt_iff_toInt_lt, Int32.lt_iff_toInt_lt, dj_t j (by omega), dj_t (j + 1) (by omega)]
    constructor
    · rintro ⟨a, b⟩
      refine ⟨a, ?_⟩
      have h2 : ¬ (wbV C (nI t) c).toInt = (j : Int) - 20 := fun z => (h.resolve_left a) (Int32.toInt_inj.mp (by rw [z, dj_t j (by omega)]))
      omega
    · rintro ⟨a, b⟩; exact ⟨a, by omega⟩
  simp only [e]
theorem wp_s {C : Mem} {c : Int32} {t j : Nat} (hj : j < 41) (h0 : ¬ wbV C (nI t) c = 0) (h : wbV C (nI t) c = dj j) : wpF C c t j = wsF C c t ∧ wpF C c t (j + 1) = wsF C c (t + 1) := by
  unfold wpF
  refine ⟨?_, ?_⟩
  · rw [if_neg (fun z => by have := z.2; rw [h] at this; exact Int32.lt_irrefl this)]
  · rw [if_pos ⟨h0, by rw [h, Int32.lt_iff_toInt_lt, dj_t j (by omega), dj_t (j + 1) (by omega)]; omega⟩]
set_option maxRecDepth 100000 in
set_option maxHeartbeats 4000000 in
theorem sem_X8_isWrong {C M : Mem} (h : RK C M) {c t d : Int32} (hc : c81 c) : Sem mX8_isWrong SH [.ref 58, .int c, .int t, .int d] M (PD SH (some (.int (b2 (wrP C c t d)))) (M)) := by
  have q1 := h.1.nb24
  have q5 := h.1.nmb
  refine Sem_of rfl (fun G => (Nat.le_of_ble_eq_true rfl)) (fun G => ?_)
  refine Bd_iconst (v := 0) (pc := 0) dX8_isWrong_0 (by decide) ?_
  refine Bd_istore_4 (pc := 1) dX8_isWrong_1 (Nat.le_of_ble_eq_true rfl) rfl ?_
  refine Bd_iconst (v := 0) (pc := 3) dX8_isWrong_3 (by decide) ?_
  refine Bd_istore_5 (pc := 4) dX8_isWrong_4 (Nat.le_of_ble_eq_true rfl) rfl ?_
  refine Bd_nx (L' := (fun i => [some (.ref 58), some (.int c), some (.int t), some (.int d), some (.int (anF C t i)), some (.int (nI i)), none]) 0) ?_ (by repeat (first | exact True.intro | refine And.intro rfl ?_))
  refine Bd_for (pc := 6) (c := (cn (C 5 5))) (fun i => [some (.ref 58), some (.int c), some (.int t), some (.int d), some (.int (anF C t i)), some (.int (nI i)), none]) (fun _ => M) (fun i => wrA C c t d i) (fun ivi => ?_) (fun i hi ivi ihi => ?_) (fun i hi => absurd hi (Nat.not_lt_zero i))
  · refine Bd_iload_5 (pc := 6) dX8_isWrong_6 ?_
    refine Bd_aload_0 (pc := 8) dX8_isWrong_8 ?_
    refine Bd_callV0i (cd := mX8_noteds) (pc := 9) dX8_isWrong_9 k_1179 v_X8_noteds ⟨(Nat.le_of_ble_eq_true rfl), (Nat.le_of_ble_eq_true rfl)⟩ rfl rfl (sem_X8_noteds h.rf) (Nat.le_of_ble_eq_true rfl) ?_
    refine Bd_icmp_ge (t := 88) (pc := 12) dX8_isWrong_12 (by decide) (fun b12 => ?_) (fun b12 => (show False from lf_x h.1.nm b12).elim)
    refine Bd_iload_4 (pc := 88) dX8_isWrong_88 ?_
    refine Bd_zret (pc := 90) dX8_isWrong_90 rfl an_nar ?_
    exact PD_i (an_b.trans (b2_c ⟨fun z => ⟨z, ivi⟩, fun z => z.1⟩)) rfl
  · refine Bd_iload_5 (pc := 6) dX8_isWrong_6 ?_
    refine Bd_aload_0 (pc := 8) dX8_isWrong_8 ?_
    refine Bd_callV0i (cd := mX8_noteds) (pc := 9) dX8_isWrong_9 k_1179 v_X8_noteds ⟨(Nat.le_of_ble_eq_true rfl), (Nat.le_of_ble_eq_true rfl)⟩ rfl rfl (sem_X8_noteds h.rf) (Nat.le_of_ble_eq_true rfl) ?_
    refine Bd_icmp_ge (t := 88) (pc := 12) dX8_isWrong_12 (by decide) (fun b12 => (show False from lf_s h.1.nm (by omega) hi b12).elim) (fun b12 => ?_)
    refine Bd_aload_0 (pc := 15) dX8_isWrong_15 ?_
    refine Bd_iload_5 (pc := 16) dX8_isWrong_16 ?_
    refine Bd_callV1i (cd := mX8_towerOf) (pc := 18) dX8_isWrong_18 k_1000 v_X8_towerOf ⟨(Nat.le_of_ble_eq_true rfl), (Nat.le_of_ble_eq_true rfl)⟩ rfl rfl (sem_X8_towerOf h.rf (i := i) (by omega)) (Nat.le_of_ble_eq_true rfl) ?_
    refine Bd_iload_2 (pc := 21) dX8_isWrong_21 ?_
    refine Bd_icmp_ne (t := 29) (pc := 22) dX8_isWrong_22 (by decide) (fun b22 => ?_) (fun b22 => ?_)
    · refine Bd_iconst (v := 0) (pc := 29) dX8_isWrong_29 (by decide) ?_
      refine Bd_istore_6 (pc := 30) dX8_isWrong_30 (Nat.le_of_ble_eq_true rfl) rfl ?_
      refine Bd_iload_4 (pc := 32) dX8_isWrong_32 ?_
      refine Bd_if_ne (t := 42) (pc := 34) dX8_isWrong_34 (by decide) (fun b34 => ?_) (fun b34 => ?_)
      · refine Bd_iconst (v := 1) (pc := 42) dX8_isWrong_42 (by decide) ?_
        refine Bd_goto (t := 47) (pc := 43) dX8_isWrong_43 (by decide) ?_
        refine Bd_istore_4 (pc := 47) dX8_isWrong_47 (Nat.le_of_ble_eq_true rfl) rfl ?_
        refine Bd_aload_0 (pc := 49) dX8_isWrong_49 ?_
        refine Bd_iload_5 (pc := 50) dX8_isWrong_50 ?_
        refine Bd_iload_1 (pc := 52) dX8_isWrong_52 ?_
        refine Bd_callV2i (cd := mX8_comes) (pc := 53) dX8_isWrong_53 k_1055 v_X8_comes ⟨(Nat.le_of_ble_eq_true rfl), (Nat.le_of_ble_eq_true rfl)⟩ rfl rfl (sem_X8_comes h (i := i) (by omega) hc) (Nat.le_of_ble_eq_true rfl) ?_
        refine Bd_iload_6 (pc := 56) dX8_isWrong_56 ?_
        refine Bd_if_eq (t := 65) (pc := 58) dX8_isWrong_58 (by decide) (fun b58 => ?_) (fun b58 => (show False from b58 rfl).elim)
        refine Bd_iconst (v := 0) (pc := 65) dX8_isWrong_65 (by decide) ?_
        refine Bd_iadd (pc := 66) dX8_isWrong_66 ?_
        refine Bd_aload_0 (pc := 67) dX8_isWrong_67 ?_
        refine Bd_getR (j := 0) ck8 (pc := 68) dX8_isWrong_68 k_786 rfl (Nat.le_of_ble_eq_true rfl) rfl ?_
        refine Bd_bipush (v := 88) (pc := 71) dX8_isWrong_71 (by decide) ?_
        refine Bd_iload_5 (pc := 73) dX8_isWrong_73 ?_
        refine Bd_iadd (pc := 75) dX8_isWrong_75 ?_
        refine Bd_ialdc (j := 88 + i) (by rw [ti88 i (by omega)]; exact nI_clamp (by omega)) (pc := 76) dX8_isWrong_76 rfl (by rw [ti88 i (by omega)]; exact vpi (by omega) (by omega)) ?_
        rw [h.rf.mk hi]
        refine Bd_icmp_eq (t := 82) (pc := 77) dX8_isWrong_77 (by decide) (fun b77 => ?_) (fun b77 => ?_)
        · refine Bd_iinc_5 (pc := 82) dX8_isWrong_82 (show _ + Int32.ofInt 1 = _ + 1 from rfl) (Nat.le_of_ble_eq_true rfl) rfl ?_
          refine Bd_goto (t := 6) (pc := 85) dX8_isWrong_85 (by decide) ?_
          exact Bd_nx (ihi (wrA_s ivi (by rw [if_neg b22]; exact lt_a.mp b77))) ⟨rfl, rfl, rfl, rfl, congrArg (fun x => some (Value.int x)) (show (1 : Int32) = anF C t (i + 1) from by rw [anF, if_neg b22]; exact ((an01 i).resolve_left b34).symm), congrArg (fun x => some (Value.int x)) (nI_succ i).symm, trivial⟩
        · refine Bd_iconst (v := 0) (pc := 80) dX8_isWrong_80 (by decide) ?_
          refine Bd_zret (pc := 81) dX8_isWrong_81 rfl rfl ?_
          exact PD_i (b2_f (fun z => b77 (lt_a.mpr (by have := z.2 i hi; rw [if_neg b22] at this; exact this)))) rfl
      · refine Bd_iload_6 (pc := 37) dX8_isWrong_37 ?_
        refine Bd_if_eq (t := 46) (pc := 39) dX8_isWrong_39 (by decide) (fun b39 => ?_) (fun b39 => (show False from b39 rfl).elim)
        refine Bd_iconst (v := 0) (pc := 46) dX8_isWrong_46 (by decide) ?_
        refine Bd_istore_4 (pc := 47) dX8_isWrong_47 (Nat.le_of_ble_eq_true rfl) rfl ?_
        refine Bd_aload_0 (pc := 49) dX8_isWrong_49 ?_
        refine Bd_iload_5 (pc := 50) dX8_isWrong_50 ?_
        refine Bd_iload_1 (pc := 52) dX8_isWrong_52 ?_
        refine Bd_callV2i (cd := mX8_comes) (pc := 53) dX8_isWrong_53 k_1055 v_X8_comes ⟨(Nat.le_of_ble_eq_true rfl), (Nat.le_of_ble_eq_true rfl)⟩ rfl rfl (sem_X8_comes h (i := i) (by omega) hc) (Nat.le_of_ble_eq_true rfl) ?_
        refine Bd_iload_6 (pc := 56) dX8_isWrong_56 ?_
        refine Bd_if_eq (t := 65) (pc := 58) dX8_isWrong_58 (by decide) (fun b58 => ?_) (fun b58 => (show False from b58 rfl).elim)
        refine Bd_iconst (v := 0) (pc := 65) dX8_isWrong_65 (by decide) ?_
        refine Bd_iadd (pc := 66) dX8_isWrong_66 ?_
        refine Bd_aload_0 (pc := 67) dX8_isWrong_67 ?_
        refine Bd_getR (j := 0) ck8 (pc := 68) dX8_isWrong_68 k_786 rfl (Nat.le_of_ble_eq_true rfl) rfl ?_
        refine Bd_bipush (v := 88) (pc := 71) dX8_isWrong_71 (by decide) ?_
        refine Bd_iload_5 (pc := 73) dX8_isWrong_73 ?_
        refine Bd_iadd (pc := 75) dX8_isWrong_75 ?_
        refine Bd_ialdc (j := 88 + i) (by rw [ti88 i (by omega)]; exact nI_clamp (by omega)) (pc := 76) dX8_isWrong_76 rfl (by rw [ti88 i (by omega)]; exact vpi (by omega) (by omega)) ?_
        rw [h.rf.mk hi]
        refine Bd_icmp_eq (t := 82) (pc := 77) dX8_isWrong_77 (by decide) (fun b77 => ?_) (fun b77 => ?_)
        · refine Bd_iinc_5 (pc := 82) dX8_isWrong_82 (show _ + Int32.ofInt 1 = _ + 1 from rfl) (Nat.le_of_ble_eq_true rfl) rfl ?_
          refine Bd_goto (t := 6) (pc := 85) dX8_isWrong_85 (by decide) ?_
          exact Bd_nx (ihi (wrA_s ivi (by rw [if_neg b22]; exact lt_a.mp b77))) ⟨rfl, rfl, rfl, rfl, congrArg (fun x => some (Value.int x)) (show (0 : Int32) = anF C t (i + 1) from by rw [anF, if_neg b22]; exact b34.symm), congrArg (fun x => some (Value.int x)) (nI_succ i).symm, trivial⟩
        · refine Bd_iconst (v := 0) (pc := 80) dX8_isWrong_80 (by decide) ?_
          refine Bd_zret (pc := 81) dX8_isWrong_81 rfl rfl ?_
          exact PD_i (b2_f (fun z => b77 (lt_a.mpr (by have := z.2 i hi; rw [if_neg b22] at this; exact this)))) rfl
    · refine Bd_iconst (v := 1) (pc := 25) dX8_isWrong_25 (by decide) ?_
      refine Bd_goto (t := 30) (pc := 26) dX8_isWrong_26 (by decide) ?_
      refine Bd_istore_6 (pc := 30) dX8_isWrong_30 (Nat.le_of_ble_eq_true rfl) rfl ?_
      refine Bd_iload_4 (pc := 32) dX8_isWrong_32 ?_
      refine Bd_if_ne (t := 42) (pc := 34) dX8_isWrong_34 (by decide) (fun b34 => ?_) (fun b34 => ?_)
      · refine Bd_iconst (v := 1) (pc := 42) dX8_isWrong_42 (by decide) ?_
        refine Bd_goto (t := 47) (pc := 43) dX8_isWrong_43 (by decide) ?_
        refine Bd_istore_4 (pc := 47) dX8_isWrong_47 (Nat.le_of_ble_eq_true rfl) rfl ?_
        refine Bd_aload_0 (pc := 49) dX8_isWrong_49 ?_
        refine Bd_iload_5 (pc := 50) dX8_isWrong_50 ?_
        refine Bd_iload_1 (pc := 52) dX8_isWrong_52 ?_
        refine Bd_callV2i (cd := mX8_comes) (pc := 53) dX8_isWrong_53 k_1055 v_X8_comes ⟨(Nat.le_of_ble_eq_true rfl), (Nat.le_of_ble_eq_true rfl)⟩ rfl rfl (sem_X8_comes h (i := i) (by omega) hc) (Nat.le_of_ble_eq_true rfl) ?_
        refine Bd_iload_6 (pc := 56) dX8_isWrong_56 ?_
        refine Bd_if_eq (t := 65) (pc := 58) dX8_isWrong_58 (by decide) (fun b58 => (show False from absurd b58 (by decide)).elim) (fun b58 => ?_)
        refine Bd_iload_3 (pc := 61) dX8_isWrong_61 ?_
        refine Bd_goto (t := 66) (pc := 62) dX8_isWrong_62 (by decide) ?_
        refine Bd_iadd (pc := 66) dX8_isWrong_66 ?_
        refine Bd_aload_0 (pc := 67) dX8_isWrong_67 ?_
        refine Bd_getR (j := 0) ck8 (pc := 68) dX8_isWrong_68 k_786 rfl (Nat.le_of_ble_eq_true rfl) rfl ?_
        refine Bd_bipush (v := 88) (pc := 71) dX8_isWrong_71 (by decide) ?_
        refine Bd_iload_5 (pc := 73) dX8_isWrong_73 ?_
        refine Bd_iadd (pc := 75) dX8_isWrong_75 ?_
        refine Bd_ialdc (j := 88 + i) (by rw [ti88 i (by omega)]; exact nI_clamp (by omega)) (pc := 76) dX8_isWrong_76 rfl (by rw [ti88 i (by omega)]; exact vpi (by omega) (by omega)) ?_
        rw [h.rf.mk hi]
        refine Bd_icmp_eq (t := 82) (pc := 77) dX8_isWrong_77 (by decide) (fun b77 => ?_) (fun b77 => ?_)
        · refine Bd_iinc_5 (pc := 82) dX8_isWrong_82 (show _ + Int32.ofInt 1 = _ + 1 from rfl) (Nat.le_of_ble_eq_true rfl) rfl ?_
          refine Bd_goto (t := 6) (pc := 85) dX8_isWrong_85 (by decide) ?_
          exact Bd_nx (ihi (wrA_s ivi (by rw [if_pos b22]; exact lt_a.mp b77))) ⟨rfl, rfl, rfl, rfl, congrArg (fun x => some (Value.int x)) (show (1 : Int32) = anF C t (i + 1) from by rw [anF, if_pos b22]), congrArg (fun x => some (Value.int x)) (nI_succ i).symm, trivial⟩
        · refine Bd_iconst (v := 0) (pc := 80) dX8_isWrong_80 (by decide) ?_
          refine Bd_zret (pc := 81) dX8_isWrong_81 rfl rfl ?_
          exact PD_i (b2_f (fun z => b77 (lt_a.mpr (by have := z.2 i hi; rw [if_pos b22] at this; exact this)))) rfl
      · refine Bd_iload_6 (pc := 37) dX8_isWrong_37 ?_
        refine Bd_if_eq (t := 46) (pc := 39) dX8_isWrong_39 (by decide) (fun b39 => (show False from absurd b39 (by decide)).elim) (fun b39 => ?_)
        refine Bd_iconst (v := 1) (pc := 42) dX8_isWrong_42 (by decide) ?_
        refine Bd_goto (t := 47) (pc := 43) dX8_isWrong_43 (by decide) ?_
        refine Bd_istore_4 (pc := 47) dX8_isWrong_47 (Nat.le_of_ble_eq_true rfl) rfl ?_
        refine Bd_aload_0 (pc := 49) dX8_isWrong_49 ?_
        refine Bd_iload_5 (pc := 50) dX8_isWrong_50 ?_
        refine Bd_iload_1 (pc := 52) dX8_isWrong_52 ?_
        refine Bd_callV2i (cd := mX8_comes) (pc := 53) dX8_isWrong_53 k_1055 v_X8_comes ⟨(Nat.le_of_ble_eq_true rfl), (Nat.le_of_ble_eq_true rfl)⟩ rfl rfl (sem_X8_comes h (i := i) (by omega) hc) (Nat.le_of_ble_eq_true rfl) ?_
        refine Bd_iload_6 (pc := 56) dX8_isWrong_56 ?_
        refine Bd_if_eq (t := 65) (pc := 58) dX8_isWrong_58 (by decide) (fun b58 => (show False from absurd b58 (by decide)).elim) (fun b58 => ?_)
        refine Bd_iload_3 (pc := 61) dX8_isWrong_61 ?_
        refine Bd_goto (t := 66) (pc := 62) dX8_isWrong_62 (by decide) ?_
        refine Bd_iadd (pc := 66) dX8_isWrong_66 ?_
        refine Bd_aload_0 (pc := 67) dX8_isWrong_67 ?_
        refine Bd_getR (j := 0) ck8 (pc := 68) dX8_isWrong_68 k_786 rfl (Nat.le_of_ble_eq_true rfl) rfl ?_
        refine Bd_bipush (v := 88) (pc := 71) dX8_isWrong_71 (by decide) ?_
        refine Bd_iload_5 (pc := 73) dX8_isWrong_73 ?_
        refine Bd_iadd (pc := 75) dX8_isWrong_75 ?_
        refine Bd_ialdc (j := 88 + i) (by rw [ti88 i (by omega)]; exact nI_clamp (by omega)) (pc := 76) dX8_isWrong_76 rfl (by rw [ti88 i (by omega)]; exact vpi (by omega) (by omega)) ?_
        rw [h.rf.mk hi]
        refine Bd_icmp_eq (t := 82) (pc := 77) dX8_isWrong_77 (by decide) (fun b77 => ?_) (fun b77 => ?_)
        · refine Bd_iinc_5 (pc := 82) dX8_isWrong_82 (show _ + Int32.ofInt 1 = _ + 1 from rfl) (Nat.le_of_ble_eq_true rfl) rfl ?_
          refine Bd_goto (t := 6) (pc := 85) dX8_isWrong_85 (by decide) ?_
          exact Bd_nx (ihi (wrA_s ivi (by rw [if_pos b22]; exact lt_a.mp b77))) ⟨rfl, rfl, rfl, rfl, congrArg (fun x => some (Value.int x)) (show (1 : Int32) = anF C t (i + 1) from by rw [anF, if_pos b22]), congrArg (fun x => some (Value.int x)) (nI_succ i).symm, trivial⟩
        · refine Bd_iconst (v := 0) (pc := 80) dX8_isWrong_80 (by decide) ?_
          refine Bd_zret (pc := 81) dX8_isWrong_81 rfl rfl ?_
          exact PD_i (b2_f (fun z => b77 (lt_a.mpr (by have := z.2 i hi; rw [if_pos b22] at this; exact this)))) rfl
set_option maxRecDepth 100000 in
set_option maxHeartbeats 4000000 in
theorem sem_X8_watch {C M : Mem} (h : RF C M) {c k : Int32} : Sem mX8_watch SH [.ref 58, .int c, .int k] M (RI SH (fun r N => r = watchV C c k ∧ RP (C) M N)) := by
  have q6 := h.1.nt6
  refine Sem_of rfl (fun G => (Nat.le_of_ble_eq_true rfl)) (fun G => ?_)
  refine Bd_aload_0 (pc := 0) dX8_watch_0 ?_
  refine Bd_iload_1 (pc := 1) dX8_watch_1 ?_
  refine Bd_callV1i (cd := mX8_isCell) (pc := 2) dX8_watch_2 k_1012 v_X8_isCell ⟨(Nat.le_of_ble_eq_true rfl), (Nat.le_of_ble_eq_true rfl)⟩ rfl rfl (sem_X8_isCell h) (Nat.le_of_ble_eq_true rfl) ?_
  refine Bd_if_eq (t := 20) (pc := 5) dX8_watch_5 (by decide) (fun b5 => ?_) (fun b5 => ?_)
  · refine Bd_iconst (v := -1) (pc := 20) dX8_watch_20 (by decide) ?_
    refine Bd_iret (pc := 21) dX8_watch_21 rfl ?_
    exact ⟨_, rfl, rfl, by rw [watchV, if_neg (b2_0.mp b5)], RP_aw h⟩
  · refine Bd_iload_2 (pc := 8) dX8_watch_8 ?_
    refine Bd_i2l (pc := 9) dX8_watch_9 ?_
    refine Bd_lconst (v := 0) (pc := 10) dX8_watch_10 (by decide) ?_
    refine Bd_ldc2 k_990 (pc := 11) dX8_watch_11 ?_
    refine Bd_callS3i (cd := mX8_in) (pc := 14) dX8_watch_14 k_910 v_X8_in ⟨(Nat.le_of_ble_eq_true rfl), (Nat.le_of_ble_eq_true rfl)⟩ (sem_in (a := 0) (b := 2) (by decide) (by decide)) (Nat.le_of_ble_eq_true rfl) ?_
    refine Bd_if_ne (t := 22) (pc := 17) dX8_watch_17 (by decide) (fun b17 => ?_) (fun b17 => ?_)
    · refine Bd_aload_0 (pc := 22) dX8_watch_22 ?_
      refine Bd_callV0i (cd := mX8_noteds) (pc := 23) dX8_watch_23 k_1179 v_X8_noteds ⟨(Nat.le_of_ble_eq_true rfl), (Nat.le_of_ble_eq_true rfl)⟩ rfl rfl (sem_X8_noteds h.aw.rf) (Nat.le_of_ble_eq_true rfl) ?_
      refine Bd_if_ne (t := 32) (pc := 26) dX8_watch_26 (by decide) (fun b26 => ?_) (fun b26 => ?_)
      · refine Bd_iconst (v := 0) (pc := 32) dX8_watch_32 (by decide) ?_
        refine Bd_istore_3 (pc := 33) dX8_watch_33 (Nat.le_of_ble_eq_true rfl) rfl ?_
        refine Bd_bipush (v := -4) (pc := 34) dX8_watch_34 (by decide) ?_
        refine Bd_istore_4 (pc := 36) dX8_watch_36 (Nat.le_of_ble_eq_true rfl) rfl ?_
        refine Bd_iconst (v := 0) (pc := 38) dX8_watch_38 (by decide) ?_
        refine Bd_istore_5 (pc := 39) dX8_watch_39 (Nat.le_of_ble_eq_true rfl) rfl ?_
        refine Bd_iconst (v := 0) (pc := 41) dX8_watch_41 (by decide) ?_
        refine Bd_istore_6 (pc := 42) dX8_watch_42 (Nat.le_of_ble_eq_true rfl) rfl ?_
        have hc : c81 c := (b2_n.mp b5).1
        refine Bd_nx (L' := (fun i => [some (.ref 58), some (.int c), some (.int k), some (.int (wsF C c i).1), some (.int (wsF C c i).2.1), some (.int (wsF C c i).2.2), some (.int (nI i)), none]) 0) ?_ (by repeat (first | exact True.intro | refine And.intro rfl ?_))
        refine Bd_for (pc := 44) (c := (cn (C 44 6))) (fun i => [some (.ref 58), some (.int c), some (.int k), some (.int (wsF C c i).1), some (.int (wsF C c i).2.1), some (.int (wsF C c i).2.2), some (.int (nI i)), none]) (fun _ => awM M) (fun _ => True) (fun ivi => ?_) (fun i hi ivi ihi => ?_) trivial
        · refine Bd_iload_6 (pc := 44) dX8_watch_44 ?_
          refine Bd_aload_0 (pc := 46) dX8_watch_46 ?_
          refine Bd_getR (j := 0) ck8 (pc := 47) dX8_watch_47 k_786 rfl (Nat.le_of_ble_eq_true rfl) rfl ?_
          refine Bd_bipush (v := 113) (pc := 50) dX8_watch_50 (by decide) ?_
          refine Bd_ialdc (j := 113) rfl (pc := 52) dX8_watch_52 rfl (by unfold vp_in; decide) ?_
          refine Bd_icmp_ge (t := 125) (pc := 53) dX8_watch_53 (by decide) (fun b53 => ?_) (fun b53 => (show False from lf_x (show awM M 59 113 = nI (cn (C 44 6)) from h.aw.2.1.1.2.2.1.trans h.1.nt) b53).elim)
          refine Bd_iload_2 (pc := 125) dX8_watch_125 ?_
          refine Bd_if_ne (t := 133) (pc := 126) dX8_watch_126 (by decide) (fun b126 => ?_) (fun b126 => ?_)
          · refine Bd_iload_3 (pc := 133) dX8_watch_133 ?_
            refine Bd_if_ne (t := 142) (pc := 134) dX8_watch_134 (by decide) (fun b134 => ?_) (fun b134 => ?_)
            · refine Bd_iload_2 (pc := 142) dX8_watch_142 ?_
              refine Bd_iconst (v := 1) (pc := 143) dX8_watch_143 (by decide) ?_
              refine Bd_icmp_ne (t := 152) (pc := 144) dX8_watch_144 (by decide) (fun b144 => ?_) (fun b144 => ?_)
              · refine Bd_bipush (v := 100) (pc := 152) dX8_watch_152 (by decide) ?_
                refine Bd_iload_5 (pc := 154) dX8_watch_154 ?_
                refine Bd_iadd (pc := 156) dX8_watch_156 ?_
                refine Bd_iret (pc := 157) dX8_watch_157 rfl ?_
                have e := (ws_t (C := C) (c := c) (k := k) (cn (C 44 6)) q6).resolve_left (fun z => b134 z.1)
                exact ⟨_, rfl, rfl, by rw [watchV, if_pos (b2_n.mp b5), if_pos (k02'.mp (b2_n.mp b17)), if_neg b26, if_neg b126, e.2, Option.getD_some, if_neg b144], RP_aw h⟩
              · refine Bd_iload_4 (pc := 147) dX8_watch_147 ?_
                refine Bd_goto (t := 157) (pc := 149) dX8_watch_149 (by decide) ?_
                refine Bd_iret (pc := 157) dX8_watch_157 rfl ?_
                have e := (ws_t (C := C) (c := c) (k := k) (cn (C 44 6)) q6).resolve_left (fun z => b134 z.1)
                exact ⟨_, rfl, rfl, by rw [watchV, if_pos (b2_n.mp b5), if_pos (k02'.mp (b2_n.mp b17)), if_neg b26, if_neg b126, e.2, Option.getD_some, if_pos b144], RP_aw h⟩
            · refine Bd_bipush (v := -4) (pc := 137) dX8_watch_137 (by decide) ?_
              refine Bd_goto (t := 157) (pc := 139) dX8_watch_139 (by decide) ?_
              refine Bd_iret (pc := 157) dX8_watch_157 rfl ?_
              have e := (ws_t (C := C) (c := c) (k := k) (cn (C 44 6)) q6).resolve_right (fun z => z.1 b134)
              exact ⟨_, rfl, rfl, by rw [watchV, if_pos (b2_n.mp b5), if_pos (k02'.mp (b2_n.mp b17)), if_neg b26, if_neg b126, e.2]; rfl, RP_aw h⟩
          · refine Bd_iload_3 (pc := 129) dX8_watch_129 ?_
            refine Bd_goto (t := 157) (pc := 130) dX8_watch_130 (by decide) ?_
            refine Bd_iret (pc := 157) dX8_watch_157 rfl ?_
            exact ⟨_, rfl, rfl, by rw [watchV, if_pos (b2_n.mp b5), if_pos (k02'.mp (b2_n.mp b17)), if_neg b26, if_pos b126]; exact ws_c _, RP_aw h⟩
        · refine Bd_iload_6 (pc := 44) dX8_watch_44 ?_
          refine Bd_aload_0 (pc := 46) dX8_watch_46 ?_
          refine Bd_getR (j := 0) ck8 (pc := 47) dX8_watch_47 k_786 rfl (Nat.le_of_ble_eq_true rfl) rfl ?_
          refine Bd_bipush (v := 113) (pc := 50) dX8_watch_50 (by decide) ?_
          refine Bd_ialdc (j := 113) rfl (pc := 52) dX8_watch_52 rfl (by unfold vp_in; decide) ?_
          refine Bd_icmp_ge (t := 125) (pc := 53) dX8_watch_53 (by decide) (fun b53 => (show False from lf_s (show awM M 59 113 = nI (cn (C 44 6)) from h.aw.2.1.1.2.2.1.trans h.1.nt) (by omega) hi b53).elim) (fun b53 => ?_)
          refine Bd_bipush (v := -20) (pc := 56) dX8_watch_56 (by decide) ?_
          refine Bd_istore_7 (pc := 58) dX8_watch_58 (Nat.le_of_ble_eq_true rfl) rfl ?_
          refine Bd_nx (L' := (fun j => [some (.ref 58), some (.int c), some (.int k), some (.int (wpF C c i j).1), some (.int (wpF C c i j).2.1), some (.int (wpF C c i j).2.2), some (.int (nI i)), some (.int (dj j))]) 0) ?_ ?_
          · refine Bd_for (pc := 60) (c := 41) (fun j => [some (.ref 58), some (.int c), some (.int k), some (.int (wpF C c i j).1), some (.int (wpF C c i j).2.1), some (.int (wpF C c i j).2.2), some (.int (nI i)), some (.int (dj j))]) (fun _ => awM M) (fun _ => True) (fun _ => ?_) (fun j hj _ ihj => ?_) trivial
            · refine Bd_iload_7 (pc := 60) dX8_watch_60 ?_
              refine Bd_bipush (v := 20) (pc := 62) dX8_watch_62 (by decide) ?_
              refine Bd_icmp_gt (t := 119) (pc := 64) dX8_watch_64 (by decide) (fun b64 => ?_) (fun b64 => (show False from b64 (show (20 : Int32) < dj 41 by decide)).elim)
              refine Bd_iinc_6 (pc := 119) dX8_watch_119 (show _ + Int32.ofInt 1 = _ + 1 from rfl) (Nat.le_of_ble_eq_true rfl) rfl ?_
              refine Bd_goto (t := 44) (pc := 122) dX8_watch_122 (by decide) ?_
              exact Bd_nx (ihi trivial) ⟨rfl, rfl, rfl, congrArg (fun y => some (Value.int y.1)) (wp_x h.1 hc), congrArg (fun y => some (Value.int y.2.1)) (wp_x h.1 hc), congrArg (fun y => some (Value.int y.2.2)) (wp_x h.1 hc), congrArg (fun x => some (Value.int x)) (nI_succ i).symm, trivial⟩
            · refine Bd_iload_7 (pc := 60) dX8_watch_60 ?_
              refine Bd_bipush (v := 20) (pc := 62) dX8_watch_62 (by decide) ?_
              refine Bd_icmp_gt (t := 119) (pc := 64) dX8_watch_64 (by decide) (fun b64 => (show False from (dj_a j hj).2.2 b64).elim) (fun b64 => ?_)
              refine Bd_iload_7 (pc := 67) dX8_watch_67 ?_
              refine Bd_if_eq (t := 113) (pc := 69) dX8_watch_69 (by decide) (fun b69 => ?_) (fun b69 => ?_)
              · refine Bd_iinc_7 (pc := 113) dX8_watch_113 (show _ + Int32.ofInt 1 = _ + 1 from rfl) (Nat.le_of_ble_eq_true rfl) rfl ?_
                refine Bd_goto (t := 60) (pc := 116) dX8_watch_116 (by decide) ?_
                have e := wp_n h.1 hc (t := i) hj (Decidable.em (wbV C (nI i) c = 0) |>.elim Or.inl (fun z0 => Or.inr (fun z => z0 (z.trans b69))))
                exact Bd_nx (ihj trivial) ⟨rfl, rfl, rfl, congrArg (fun x => some (Value.int x)) (congrArg (fun y => y.1) e).symm, congrArg (fun x => some (Value.int x)) (congrArg (fun y => y.2.1) e).symm, congrArg (fun x => some (Value.int x)) (congrArg (fun y => y.2.2) e).symm, rfl, congrArg (fun x => some (Value.int x)) (dj_a j hj).2.1, trivial⟩
              · refine Bd_aload_0 (pc := 72) dX8_watch_72 ?_
                refine Bd_iload_1 (pc := 73) dX8_watch_73 ?_
                refine Bd_iload_6 (pc := 74) dX8_watch_74 ?_
                refine Bd_iload_7 (pc := 76) dX8_watch_76 ?_
                refine Bd_callV3i (cd := mX8_isWrong) (pc := 78) dX8_watch_78 k_1191 v_X8_isWrong ⟨(Nat.le_of_ble_eq_true rfl), (Nat.le_of_ble_eq_true rfl)⟩ rfl rfl (sem_X8_isWrong h.aw hc) (Nat.le_of_ble_eq_true rfl) ?_
                refine Bd_if_eq (t := 113) (pc := 81) dX8_watch_81 (by decide) (fun b81 => ?_) (fun b81 => ?_)
                · refine Bd_iinc_7 (pc := 113) dX8_watch_113 (show _ + Int32.ofInt 1 = _ + 1 from rfl) (Nat.le_of_ble_eq_true rfl) rfl ?_
                  refine Bd_goto (t := 60) (pc := 116) dX8_watch_116 (by decide) ?_
                  have e := wp_n h.1 hc (t := i) hj (Or.inr (fun z => b2_0.mp b81 ((wr_wb b69 (dj_a j hj).1).mpr z)))
                  exact Bd_nx (ihj trivial) ⟨rfl, rfl, rfl, congrArg (fun x => some (Value.int x)) (congrArg (fun y => y.1) e).symm, congrArg (fun x => some (Value.int x)) (congrArg (fun y => y.2.1) e).symm, congrArg (fun x => some (Value.int x)) (congrArg (fun y => y.2.2) e).symm, rfl, congrArg (fun x => some (Value.int x)) (dj_a j hj).2.1, trivial⟩
                · refine Bd_iload_3 (pc := 84) dX8_watch_84 ?_
                  refine Bd_if_ne (t := 93) (pc := 85) dX8_watch_85 (by decide) (fun b85 => ?_) (fun b85 => ?_)
                  · refine Bd_iload_4 (pc := 93) dX8_watch_93 ?_
                    refine Bd_istore_4 (pc := 95) dX8_watch_95 (Nat.le_of_ble_eq_true rfl) rfl ?_
                    refine Bd_iload_3 (pc := 97) dX8_watch_97 ?_
                    refine Bd_if_ne (t := 106) (pc := 98) dX8_watch_98 (by decide) (fun b98 => ?_) (fun b98 => (show False from b85 b98).elim)
                    refine Bd_iload_5 (pc := 106) dX8_watch_106 ?_
                    refine Bd_istore_5 (pc := 108) dX8_watch_108 (Nat.le_of_ble_eq_true rfl) rfl ?_
                    refine Bd_iinc_3 (pc := 110) dX8_watch_110 (show _ + Int32.ofInt 1 = _ + 1 from rfl) (Nat.le_of_ble_eq_true rfl) rfl ?_
                    refine Bd_iinc_7 (pc := 113) dX8_watch_113 (show _ + Int32.ofInt 1 = _ + 1 from rfl) (Nat.le_of_ble_eq_true rfl) rfl ?_
                    refine Bd_goto (t := 60) (pc := 116) dX8_watch_116 (by decide) ?_
                    have hw := (wr_wb b69 (dj_a j hj).1).mp (b2_n.mp b81)
                    have h0 : ¬ wbV C (nI i) c = 0 := fun z => b69 (hw.symm.trans z)
                    have e := wp_s hj h0 hw
                    have b85' := b85
                    rw [e.1] at b85'
                    have e2 : wsF C c (i + 1) = ((wsF C c i).1 + 1, (if (wsF C c i).1 = 0 then nI i else (wsF C c i).2.1), (if (wsF C c i).1 = 0 then wbV C (nI i) c else (wsF C c i).2.2)) := by rw [wsF, if_neg h0]
                    rw [if_neg b85', if_neg b85'] at e2
                    refine Bd_nx (ihj trivial) ⟨rfl, rfl, rfl, congrArg (fun x => some (Value.int x)) (show _ = (wpF C c i (j + 1)).1 from by rw [e.1, e.2, e2]), congrArg (fun x => some (Value.int x)) (show _ = (wpF C c i (j + 1)).2.1 from by rw [e.1, e.2, e2]), congrArg (fun x => some (Value.int x)) (show _ = (wpF C c i (j + 1)).2.2 from by rw [e.1, e.2, e2]), rfl, congrArg (fun x => some (Value.int x)) (dj_a j hj).2.1, trivial⟩
                  · refine Bd_iload_6 (pc := 88) dX8_watch_88 ?_
                    refine Bd_goto (t := 95) (pc := 90) dX8_watch_90 (by decide) ?_
                    refine Bd_istore_4 (pc := 95) dX8_watch_95 (Nat.le_of_ble_eq_true rfl) rfl ?_
                    refine Bd_iload_3 (pc := 97) dX8_watch_97 ?_
                    refine Bd_if_ne (t := 106) (pc := 98) dX8_watch_98 (by decide) (fun b98 => (show False from b98 b85).elim) (fun b98 => ?_)
                    refine Bd_iload_7 (pc := 101) dX8_watch_101 ?_
                    refine Bd_goto (t := 108) (pc := 103) dX8_watch_103 (by decide) ?_
                    refine Bd_istore_5 (pc := 108) dX8_watch_108 (Nat.le_of_ble_eq_true rfl) rfl ?_
                    refine Bd_iinc_3 (pc := 110) dX8_watch_110 (show _ + Int32.ofInt 1 = _ + 1 from rfl) (Nat.le_of_ble_eq_true rfl) rfl ?_
                    refine Bd_iinc_7 (pc := 113) dX8_watch_113 (show _ + Int32.ofInt 1 = _ + 1 from rfl) (Nat.le_of_ble_eq_true rfl) rfl ?_
                    refine Bd_goto (t := 60) (pc := 116) dX8_watch_116 (by decide) ?_
                    have hw := (wr_wb b69 (dj_a j hj).1).mp (b2_n.mp b81)
                    have h0 : ¬ wbV C (nI i) c = 0 := fun z => b69 (hw.symm.trans z)
                    have e := wp_s hj h0 hw
                    have b85' := b85
                    rw [e.1] at b85'
                    have e2 : wsF C c (i + 1) = ((wsF C c i).1 + 1, (if (wsF C c i).1 = 0 then nI i else (wsF C c i).2.1), (if (wsF C c i).1 = 0 then wbV C (nI i) c else (wsF C c i).2.2)) := by rw [wsF, if_neg h0]
                    rw [if_pos b85', if_pos b85'] at e2
                    refine Bd_nx (ihj trivial) ⟨rfl, rfl, rfl, congrArg (fun x => some (Value.int x)) (show _ = (wpF C c i (j + 1)).1 from by rw [e.1, e.2, e2]), congrArg (fun x => some (Value.int x)) (show _ = (wpF C c i (j + 1)).2.1 from by rw [e.2, e2]), congrArg (fun x => some (Value.int x)) (show _ = (wpF C c i (j + 1)).2.2 from by rw [e.2, e2, hw]), rfl, congrArg (fun x => some (Value.int x)) (dj_a j hj).2.1, trivial⟩
          · exact ⟨rfl, rfl, rfl, congrArg (fun y => some (Value.int y.1)) (wp_0 h.1 hc).symm, congrArg (fun y => some (Value.int y.2.1)) (wp_0 h.1 hc).symm, congrArg (fun y => some (Value.int y.2.2)) (wp_0 h.1 hc).symm, rfl, (show some (Value.int (-20)) = some (Value.int (dj 0)) from by decide), trivial⟩
      · refine Bd_bipush (v := -2) (pc := 29) dX8_watch_29 (by decide) ?_
        refine Bd_iret (pc := 31) dX8_watch_31 rfl ?_
        exact ⟨_, rfl, rfl, by rw [watchV, if_pos (b2_n.mp b5), if_pos (k02'.mp (b2_n.mp b17)), if_pos b26], RP_aw h⟩
    · refine Bd_iconst (v := -1) (pc := 20) dX8_watch_20 (by decide) ?_
      refine Bd_iret (pc := 21) dX8_watch_21 rfl ?_
      exact ⟨_, rfl, rfl, by rw [watchV, if_pos (b2_n.mp b5), if_neg (fun z => b2_0.mp b17 (k02'.mpr z))], RP_aw h⟩
