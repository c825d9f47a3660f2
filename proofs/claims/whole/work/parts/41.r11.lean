/-! 41: the reference: twice -/
def lsR (ok : Int32 → Bool) : Nat → Int32
  | 0 => 0
  | j + 1 => if ok (lj j) = true then (if ctN (fun q => ok (lj q)) j = 0 then lj j else lsR ok j) else lsR ok j
def msR (ok : Int32 → Bool) : Nat → Int32
  | 0 => 0
  | j + 1 => if ok (lj j) = true then lj j else msR ok j
theorem ct_0 {P : Nat → Bool} : ∀ n, ctN P n = 0 ↔ ¬ ∃ i, i < n ∧ P i = true
  | 0 => ⟨fun _ ⟨i, hi, _⟩ => absurd hi (Nat.not_lt_zero i), fun _ => rfl⟩
  | n + 1 => by
    show ctN P n + _ = 0 ↔ _
    have ih := ct_0 (P := P) n
    constructor
    · intro h ⟨i, hi, hp⟩
      by_cases z : i = n
      · rw [z] at hp; rw [if_pos hp] at h; omega
      · exact ih.mp (by omega) ⟨i, by omega, hp⟩
    · intro h
      have h1 : ctN P n = 0 := ih.mpr (fun ⟨i, hi, hp⟩ => h ⟨i, by omega, hp⟩)
      have h2 : ¬ P n = true := fun hp => h ⟨n, by omega, hp⟩
      rw [h1, if_neg h2]
theorem lsR_p {ok : Int32 → Bool} : ∀ j, (∃ i, i < j ∧ ok (lj i) = true) → ∃ i, i < j ∧ ok (lj i) = true ∧ lsR ok j = lj i ∧ ∀ q, q < j → ok (lj q) = true → i ≤ q
  | 0, ⟨i, hi, _⟩ => absurd hi (Nat.not_lt_zero i)
  | j + 1, ⟨i, hi, hok⟩ => by
    have c0 := ct_0 (P := fun q => ok (lj q)) j
    unfold lsR
    by_cases h1 : ok (lj j) = true
    · rw [if_pos h1]
      by_cases h2 : ctN (fun q => ok (lj q)) j = 0
      · rw [if_pos h2]
        refine ⟨j, by omega, h1, rfl, fun q hq hqo => ?_⟩
        by_cases z : q = j
        · omega
        · exact absurd ⟨q, by omega, hqo⟩ (c0.mp h2)
      · rw [if_neg h2]
        obtain ⟨i0, a1, a2, a3, a4⟩ := lsR_p j (Classical.byContradiction (fun z => h2 (c0.mpr z)))
        refine ⟨i0, by omega, a2, a3, fun q hq hqo => ?_⟩
        by_cases z : q = j
        · omega
        · exact a4 q (by omega) hqo
    · rw [if_neg h1]
      have hne : i ≠ j := fun z => h1 (by rw [← z]; exact hok)
      obtain ⟨i0, a1, a2, a3, a4⟩ := lsR_p (ok := ok) j ⟨i, by omega, hok⟩
      refine ⟨i0, by omega, a2, a3, fun q hq hqo => ?_⟩
      by_cases z : q = j
      · rw [z] at hqo; exact absurd hqo h1
      · exact a4 q (by omega) hqo
theorem msR_p {ok : Int32 → Bool} : ∀ j, (∃ i, i < j ∧ ok (lj i) = true) → ∃ i, i < j ∧ ok (lj i) = true ∧ msR ok j = lj i ∧ ∀ q, q < j → ok (lj q) = true → q ≤ i
  | 0, ⟨i, hi, _⟩ => absurd hi (Nat.not_lt_zero i)
  | j + 1, ⟨i, hi, hok⟩ => by
    unfold msR
    by_cases h1 : ok (lj j) = true
    · rw [if_pos h1]
      exact ⟨j, by omega, h1, rfl, fun q hq _ => by omega⟩
    · rw [if_neg h1]
      have hne : i ≠ j := fun z => h1 (by rw [← z]; exact hok)
      obtain ⟨i0, a1, a2, a3, a4⟩ := msR_p (ok := ok) j ⟨i, by omega, hok⟩
      refine ⟨i0, by omega, a2, a3, fun q hq hqo => ?_⟩
      by_cases z : q = j
      · rw [z] at hqo; exact absurd hqo h1
      · exact a4 q (by omega) hqo
abbrev okB (C : Mem) (a b : Int32) (g : Int32) : Bool := decide (okL C a b g (cn (C 44 8)))
/-- what the reference's loop has in the end -/
theorem tw_fin {C N : Mem} (w : WF C) {a b : Int32} (ha : c81 a) (hb : c81 b) (hz : ¬ C 44 8 = 0) (h1 : ∀ q, q ≠ 42 → N q = C q) (h2 : ∀ t, t < cn (C 44 6) → N 42 t = lgF C a b t) :
    (twF N (cn (N 44 6))).1 = nI (ctN (fun q => okB C a b (lj q)) 401) ∧ (¬ ctN (fun q => okB C a b (lj q)) 401 = 0 → (twF N (cn (N 44 6))).2.1 = lsR (okB C a b) 401 ∧ (twF N (cn (N 44 6))).2.2 = msR (okB C a b) 401) := by
  have n0 := w.nn0 hz
  have e44 : N 44 = C 44 := h1 44 (by decide)
  have wN : WF N := CE_wf (fun q hq => h1 q (fun z => by rw [z] at hq; exact absurd hq (by decide))) w
  have hok : ∀ g, lkF N g ↔ okB C a b g = true := fun g => by
    rw [lk_iff wN, decide_eq_true_eq, e44]
    exact ⟨fun q i hi => by rw [← LN_tg h1 h2]; exact q i hi, fun q i hi => by rw [LN_tg h1 h2]; exact q i hi⟩
  obtain ⟨i1, i2, i3⟩ := tw_all w ha hb h1 h2 hok (cn (C 44 6)) (Nat.le_refl _)
  have hin : ∀ g, okB C a b g = true → ∃ t, t < cn (C 44 6) ∧ lgF C a b t = g := fun g hg => by
    have q := (of_decide_eq_true hg) 0 n0
    obtain ⟨t, t1, t2, -⟩ := (tl_iff (N := LN C a b) w.nt6).mp q
    exact ⟨t, t1, t2⟩
  rw [e44]
  have ec : ctN (fun j => okB C a b (lj j) && (List.range (cn (C 44 6))).any (fun s => decide (ixL C a b s = j))) 401 = ctN (fun q => okB C a b (lj q)) 401 := ctN_c _ (fun j hj => by
    cases q : okB C a b (lj j) with
    | false => rfl
    | true =>
      obtain ⟨t, t1, t2⟩ := hin _ q
      have ei := ixL_e w ha hb t1
      rw [Bool.true_and, List.any_eq_true]
      exact ⟨t, List.mem_range.mpr t1, decide_eq_true ((lj_inj (by omega) (by omega)).mp (ei.2.trans t2))⟩)
  rw [ec] at i1
  refine ⟨i1, fun hne => ?_⟩
  have hex : ∃ i, i < 401 ∧ okB C a b (lj i) = true := Classical.byContradiction (fun z => hne ((ct_0 _).mpr z))
  have hex2 : ∃ s, s < cn (C 44 6) ∧ okB C a b (lgF C a b s) = true := by
    obtain ⟨i, a1, a2⟩ := hex
    obtain ⟨t, t1, t2⟩ := hin _ a2
    exact ⟨t, t1, by rw [t2]; exact a2⟩
  obtain ⟨⟨s1, a1, a2, a3⟩, ⟨s2, b1, b2, b3⟩, c1⟩ := i2 hex2
  obtain ⟨p, p1, p2, p3, p4⟩ := lsR_p 401 hex
  obtain ⟨r, r1, r2, r3, r4⟩ := msR_p 401 hex
  have e1 := ixL_e w ha hb a1
  have e2 := ixL_e w ha hb b1
  obtain ⟨tp, tp1, tp2⟩ := hin _ p2
  obtain ⟨tr, tr1, tr2⟩ := hin _ r2
  constructor
  · rw [a3, p3, ← e1.2]
    refine (lj_inj (by omega) (by omega)).mpr ?_
    have k1 := p4 _ e1.1 (by rw [e1.2]; exact a2)
    have k2 := (c1 tp tp1 (by rw [tp2]; exact p2)).1
    rw [a3, tp2, ← e1.2, Int32.le_iff_toInt_le, lj_i (by omega), lj_i (by omega)] at k2
    omega
  · rw [b3, r3, ← e2.2]
    refine (lj_inj (by omega) (by omega)).mpr ?_
    have k1 := r4 _ e2.1 (by rw [e2.2]; exact b2)
    have k2 := (c1 tr tr1 (by rw [tr2]; exact r2)).2
    rw [b3, tr2, ← e2.2, Int32.le_iff_toInt_le, lj_i (by omega), lj_i (by omega)] at k2
    omega
/-- any answer that the class may give is r -/
def twiceP (C : Mem) (a b k r : Int32) : Prop := ∀ r', twiceR C a b k r' → r = r'
theorem twA_iff {C : Mem} (h : WF C) {k : Int32} : (10 ≤ k ∧ k ≤ 9 + C 44 8) ↔ twA C k := by
  have h1 := h.1.2.1.2.2
  have e9 : (9 : Int32).toInt = 9 := by decide
  have e10 : (10 : Int32).toInt = 10 := by decide
  have l1 := k.toInt_lt
  have a1 := i32_add (x := 9) (y := C 44 8) (by have := h1.1; omega) (by have := h1.2; omega)
  rw [show twA C k ↔ (¬ k < 10 ∧ ¬ C 44 8 ≤ k - 10) from Iff.rfl, Int32.le_iff_toInt_le, Int32.le_iff_toInt_le, Int32.lt_iff_toInt_lt, Int32.le_iff_toInt_le, a1, e9, e10]
  constructor
  · rintro ⟨q1, q2⟩
    have s1 := i32_sub (x := k) (y := 10) (by omega) (by omega)
    exact ⟨by omega, by rw [s1, e10]; omega⟩
  · rintro ⟨q1, q2⟩
    have s1 := i32_sub (x := k) (y := 10) (by omega) (by omega)
    rw [s1, e10] at q2
    exact ⟨by omega, by omega⟩
theorem tw_ans {C : Mem} (w : WF C) {a b k r : Int32} (hB : twB C a b k) (hz : ¬ C 44 8 = 0) (hr : r = (if k = 0 then nI (ctN (fun q => okB C a b (lj q)) 401) else if ctN (fun q => okB C a b (lj q)) 401 = 0 then -4 else if twA C k then tlF (LN C a b) (C 50 (cn (k - 10))) (lsR (okB C a b) 401) (cn (C 44 6)) else 1000 + (if k = 1 then lsR (okB C a b) 401 else msR (okB C a b) 401))) : twiceP C a b k r := fun r' hR => by
  rw [twiceR, if_pos hB, if_neg hz] at hR
  obtain ⟨N, h1, h2, h3⟩ := hR
  obtain ⟨f1, f2⟩ := tw_fin w hB.1.1 hB.2.1.1 hz h1 h2
  have e44 : N 44 = C 44 := h1 44 (by decide)
  have hct := ctN_le (fun q => okB C a b (lj q)) 401
  have c0 : nI (ctN (fun q => okB C a b (lj q)) 401) = 0 ↔ ctN (fun q => okB C a b (lj q)) 401 = 0 := by rw [show (0 : Int32) = nI 0 from rfl, nI_eq (by omega) (by omega)]
  have hA : twA N k ↔ twA C k := by rw [show twA N k ↔ (¬ k < 10 ∧ ¬ N 44 8 ≤ k - 10) from Iff.rfl, e44]
  rw [hr, h3, twL, f1]
  by_cases q0 : k = 0
  · rw [if_pos q0, if_pos q0]
  · rw [if_neg q0, if_neg q0]
    by_cases qc : ctN (fun q => okB C a b (lj q)) 401 = 0
    · rw [if_pos qc, if_pos (c0.mpr qc)]
    · rw [if_neg qc, if_neg (fun z => qc (c0.mp z))]
      obtain ⟨g1, g2⟩ := f2 qc
      rw [g1, g2]
      by_cases qa : twA C k
      · rw [if_pos qa, if_pos (hA.mpr qa), e44, h1 50 (by decide)]
        exact (LN_tl h1 h2).symm
      · rw [if_neg qa, if_neg (fun z => qa (hA.mp z))]
theorem lj_s {j : Nat} : lj (j + 1) = lj j + 1 := by rw [lj, lj, nI_succ, ds_p]
theorem lj_200 {j : Nat} (h : j < 401) (b : 200 < lj j) : False := by
  rw [Int32.lt_iff_toInt_lt, lj_i (by omega), show (200 : Int32).toInt = 200 by decide] at b
  omega
set_option maxRecDepth 100000 in
set_option maxHeartbeats 4000000 in
theorem bd_twR {C M : Mem} (h : RF C M) {G : GD} {R : Rv} {a b k : Int32} (hca : c81 a) (hcb : c81 b) (hk : (0 ≤ k ∧ k < 3) ∨ twA C k) (hA : ∀ r N, (∀ q, q ≠ 70 → N q = awM M q) → r = (if k = 0 then nI (ctN (fun q => okB C a b (lj q)) 401) else if ctN (fun q => okB C a b (lj q)) 401 = 0 then -4 else if twA C k then tlF (LN C a b) (C 50 (cn (k - 10))) (lsR (okB C a b) 401) (cn (C 44 6)) else 1000 + (if k = 1 then lsR (okB C a b) 401 else msR (okB C a b) 401)) → R (some (.int r)) SH N) : Bd mX8_twice G R SH 73 [some (.ref 58), some (.int a), some (.int b), some (.int k), some (.int 0), some (.int 0), some (.int 0), some (.int (-200))] [] (awM M) := by
  have hct := fun j => ctN_le (fun q => okB C a b (lj q)) j
  refine Bd_nx (Bd_wh (pc := 73) (σ := Nat × Mem) (fun x => x.1 ≤ 401 ∧ ∀ q, q ≠ 70 → x.2 q = awM M q) (fun x => 401 - x.1) (fun x => [some (.ref 58), some (.int a), some (.int b), some (.int k), some (.int (nI (ctN (fun q => okB C a b (lj q)) x.1))), some (.int (lsR (okB C a b) x.1)), some (.int (msR (okB C a b) x.1)), some (.int (lj x.1))]) (fun x => x.2) (fun x hI ih => ?_) (0, awM M) ⟨Nat.zero_le _, fun _ _ => rfl⟩) ⟨rfl, rfl, rfl, rfl, rfl, rfl, rfl, (show some (Value.int (-200)) = some (Value.int (lj 0)) from by decide), trivial⟩
  obtain ⟨j, N⟩ := x
  have hI1 : j ≤ 401 := hI.1
  have hcj := hct j
  by_cases hj : j = 401
  · subst hj
    have hcj := hct 401
    refine Bd_iload_7 (pc := 73) dX8_twice_73 ?_
    refine Bd_sipush (v := 200) (pc := 75) dX8_twice_75 (by decide) ?_
    refine Bd_icmp_gt (t := 119) (pc := 78) dX8_twice_78 (by decide) (fun b78 => ?_) (fun b78 => (show False from b78 (show (200 : Int32) < lj 401 by decide)).elim)
    refine Bd_iload_4 (pc := 119) dX8_twice_119 ?_
    refine Bd_if_eq (t := 128) (pc := 121) dX8_twice_121 (by decide) (fun b121 => ?_) (fun b121 => ?_)
    · refine Bd_iload_3 (pc := 128) dX8_twice_128 ?_
      refine Bd_if_ne (t := 137) (pc := 129) dX8_twice_129 (by decide) (fun b129 => ?_) (fun b129 => ?_)
      · refine Bd_bipush (v := -4) (pc := 137) dX8_twice_137 (by decide) ?_
        refine Bd_iret (pc := 139) dX8_twice_139 rfl ?_
        have c0 : nI (ctN (fun q => okB C a b (lj q)) 401) = 0 ↔ ctN (fun q => okB C a b (lj q)) 401 = 0 := by rw [show (0 : Int32) = nI 0 from rfl, nI_eq (by omega) (by omega)]
        exact hA _ _ hI.2 (by rw [if_neg b129, if_pos (c0.mp b121)])
      · refine Bd_iload_4 (pc := 132) dX8_twice_132 ?_
        refine Bd_goto (t := 139) (pc := 134) dX8_twice_134 (by decide) ?_
        refine Bd_iret (pc := 139) dX8_twice_139 rfl ?_
        exact hA _ _ hI.2 (by rw [if_pos b129])
    · refine Bd_iload_3 (pc := 124) dX8_twice_124 ?_
      refine Bd_if_ne (t := 140) (pc := 125) dX8_twice_125 (by decide) (fun b125 => ?_) (fun b125 => ?_)
      · refine Bd_iload_3 (pc := 140) dX8_twice_140 ?_
        refine Bd_iconst (v := 1) (pc := 141) dX8_twice_141 (by decide) ?_
        refine Bd_icmp_ne (t := 154) (pc := 142) dX8_twice_142 (by decide) (fun b142 => ?_) (fun b142 => ?_)
        · refine Bd_iload_3 (pc := 154) dX8_twice_154 ?_
          refine Bd_iconst (v := 2) (pc := 155) dX8_twice_155 (by decide) ?_
          refine Bd_icmp_ne (t := 168) (pc := 156) dX8_twice_156 (by decide) (fun b156 => ?_) (fun b156 => ?_)
          · have qa : twA C k := by
              rcases hk with z | z
              · exact absurd (k3_2 (k02.mpr z) b125 b142) b156
              · exact z
            have hv := vp_cn (n := 12) (tw_vp h.1 qa) (by omega)
            have hlt : cn (k - 10) < cn (C 44 8) := by
              have z := qa.2
              have y := hv.1
              rw [Int32.not_le] at z
              exact cn_lt ⟨by rw [y]; exact nI_pos' (by omega), z⟩
            have sT := sem_X8_towerBy (RK_sc (fun q hq => hI.2 q (fun z => by rw [z] at hq; exact absurd hq (by decide))) h.aw) (n := cn (k - 10)) hlt (g := lsR (okB C a b) 401) hca hcb
            rw [← hv.1] at sT
            refine Bd_aload_0 (pc := 168) dX8_twice_168 ?_
            refine Bd_iload_3 (pc := 169) dX8_twice_169 ?_
            refine Bd_bipush (v := 10) (pc := 170) dX8_twice_170 (by decide) ?_
            refine Bd_isub (pc := 172) dX8_twice_172 ?_
            refine Bd_iload_1 (pc := 173) dX8_twice_173 ?_
            refine Bd_iload_2 (pc := 174) dX8_twice_174 ?_
            refine Bd_iload_5 (pc := 175) dX8_twice_175 ?_
            refine Bd_callV4i (cd := mX8_towerBy) (pc := 177) dX8_twice_177 k_1126 v_X8_towerBy ⟨(Nat.le_of_ble_eq_true rfl), (Nat.le_of_ble_eq_true rfl)⟩ rfl rfl sT (Nat.le_of_ble_eq_true rfl) ?_
            refine Bd_iret (pc := 180) dX8_twice_180 rfl ?_
            have c0 : nI (ctN (fun q => okB C a b (lj q)) 401) = 0 ↔ ctN (fun q => okB C a b (lj q)) 401 = 0 := by rw [show (0 : Int32) = nI 0 from rfl, nI_eq (by omega) (by omega)]
            have n0 := fun z => b121 (c0.mpr z)
            exact hA _ _ hI.2 (by rw [if_neg b125, if_neg n0, if_pos qa])
          · refine Bd_sipush (v := 1000) (pc := 159) dX8_twice_159 (by decide) ?_
            refine Bd_iload_6 (pc := 162) dX8_twice_162 ?_
            refine Bd_iadd (pc := 164) dX8_twice_164 ?_
            refine Bd_goto (t := 180) (pc := 165) dX8_twice_165 (by decide) ?_
            refine Bd_iret (pc := 180) dX8_twice_180 rfl ?_
            have c0 : nI (ctN (fun q => okB C a b (lj q)) 401) = 0 ↔ ctN (fun q => okB C a b (lj q)) 401 = 0 := by rw [show (0 : Int32) = nI 0 from rfl, nI_eq (by omega) (by omega)]
            have n0 := fun z => b121 (c0.mpr z)
            exact hA _ _ hI.2 (by rw [if_neg b125, if_neg n0, if_neg (fun z => z.1 (by rw [b156]; decide)), if_neg b142])
        · refine Bd_sipush (v := 1000) (pc := 145) dX8_twice_145 (by decide) ?_
          refine Bd_iload_5 (pc := 148) dX8_twice_148 ?_
          refine Bd_iadd (pc := 150) dX8_twice_150 ?_
          refine Bd_goto (t := 180) (pc := 151) dX8_twice_151 (by decide) ?_
          refine Bd_iret (pc := 180) dX8_twice_180 rfl ?_
          have c0 : nI (ctN (fun q => okB C a b (lj q)) 401) = 0 ↔ ctN (fun q => okB C a b (lj q)) 401 = 0 := by rw [show (0 : Int32) = nI 0 from rfl, nI_eq (by omega) (by omega)]
          have n0 := fun z => b121 (c0.mpr z)
          exact hA _ _ hI.2 (by rw [if_neg b125, if_neg n0, if_neg (fun z => z.1 (by rw [b142]; decide)), if_pos b142])
      · refine Bd_iload_3 (pc := 128) dX8_twice_128 ?_
        refine Bd_if_ne (t := 137) (pc := 129) dX8_twice_129 (by decide) (fun b129 => ?_) (fun b129 => ?_)
        · refine Bd_bipush (v := -4) (pc := 137) dX8_twice_137 (by decide) ?_
          refine Bd_iret (pc := 139) dX8_twice_139 rfl ?_
          exact absurd b125 b129
        · refine Bd_iload_4 (pc := 132) dX8_twice_132 ?_
          refine Bd_goto (t := 139) (pc := 134) dX8_twice_134 (by decide) ?_
          refine Bd_iret (pc := 139) dX8_twice_139 rfl ?_
          exact hA _ _ hI.2 (by rw [if_pos b129])
  · have hlt : j < 401 := by omega
    refine Bd_iload_7 (pc := 73) dX8_twice_73 ?_
    refine Bd_sipush (v := 200) (pc := 75) dX8_twice_75 (by decide) ?_
    refine Bd_icmp_gt (t := 119) (pc := 78) dX8_twice_78 (by decide) (fun b78 => (show False from lj_200 hlt b78).elim) (fun b78 => ?_)
    refine Bd_aload_0 (pc := 81) dX8_twice_81 ?_
    refine Bd_iload_1 (pc := 82) dX8_twice_82 ?_
    refine Bd_iload_2 (pc := 83) dX8_twice_83 ?_
    refine Bd_iload_7 (pc := 84) dX8_twice_84 ?_
    refine Bd_callV3x (cd := mX8_canLag) (pc := 86) dX8_twice_86 k_1122 v_X8_canLag ⟨(Nat.le_of_ble_eq_true rfl), (Nat.le_of_ble_eq_true rfl)⟩ rfl rfl (sem_X8_canLag (RK_sc (fun q hq => hI.2 q (fun z => by rw [z] at hq; exact absurd hq (by decide))) h.aw) (g := lj j) hca hcb) (Nat.le_of_ble_eq_true rfl) (fun x86 M86 e86 => ?_)
    rw [e86.1]
    refine Bd_if_eq (t := 113) (pc := 89) dX8_twice_89 (by decide) (fun b89 => ?_) (fun b89 => ?_)
    · refine Bd_iinc_7 (pc := 113) dX8_twice_113 (show _ + Int32.ofInt 1 = _ + 1 from rfl) (Nat.le_of_ble_eq_true rfl) rfl ?_
      refine Bd_goto (t := 73) (pc := 116) dX8_twice_116 (by decide) ?_
      have s1 : ctN (fun q => okB C a b (lj q)) (j + 1) = ctN (fun q => okB C a b (lj q)) j + (if okB C a b (lj j) = true then 1 else 0) := rfl
      have s2 : lsR (okB C a b) (j + 1) = (if okB C a b (lj j) = true then (if ctN (fun q => okB C a b (lj q)) j = 0 then lj j else lsR (okB C a b) j) else lsR (okB C a b) j) := rfl
      have s3 : msR (okB C a b) (j + 1) = (if okB C a b (lj j) = true then lj j else msR (okB C a b) j) := rfl
      have ho : ¬ okB C a b (lj j) = true := fun z => b2_0.mp b89 (of_decide_eq_true z)
      rw [if_neg ho] at s1 s2 s3
      refine Bd_nx (ih (j + 1, M86) ⟨by show j + 1 ≤ 401; omega, fun q hq => (e86.2.1 q hq).trans (hI.2 q hq)⟩ (by show 401 - (j + 1) < 401 - j; omega)) ?_
      exact ⟨rfl, rfl, rfl, rfl, by rw [s1, Nat.add_zero], by rw [s2], by rw [s3], by rw [lj_s], trivial⟩
    · refine Bd_iload_4 (pc := 92) dX8_twice_92 ?_
      refine Bd_if_ne (t := 102) (pc := 94) dX8_twice_94 (by decide) (fun b94 => ?_) (fun b94 => ?_)
      · refine Bd_iload_5 (pc := 102) dX8_twice_102 ?_
        refine Bd_istore_5 (pc := 104) dX8_twice_104 (Nat.le_of_ble_eq_true rfl) rfl ?_
        refine Bd_iload_7 (pc := 106) dX8_twice_106 ?_
        refine Bd_istore_6 (pc := 108) dX8_twice_108 (Nat.le_of_ble_eq_true rfl) rfl ?_
        refine Bd_iinc_4 (pc := 110) dX8_twice_110 (show _ + Int32.ofInt 1 = _ + 1 from rfl) (Nat.le_of_ble_eq_true rfl) rfl ?_
        refine Bd_iinc_7 (pc := 113) dX8_twice_113 (show _ + Int32.ofInt 1 = _ + 1 from rfl) (Nat.le_of_ble_eq_true rfl) rfl ?_
        refine Bd_goto (t := 73) (pc := 116) dX8_twice_116 (by decide) ?_
        have s1 : ctN (fun q => okB C a b (lj q)) (j + 1) = ctN (fun q => okB C a b (lj q)) j + (if okB C a b (lj j) = true then 1 else 0) := rfl
        have s2 : lsR (okB C a b) (j + 1) = (if okB C a b (lj j) = true then (if ctN (fun q => okB C a b (lj q)) j = 0 then lj j else lsR (okB C a b) j) else lsR (okB C a b) j) := rfl
        have s3 : msR (okB C a b) (j + 1) = (if okB C a b (lj j) = true then lj j else msR (okB C a b) j) := rfl
        have ho : okB C a b (lj j) = true := decide_eq_true (b2_n.mp b89)
        have c0 : nI (ctN (fun q => okB C a b (lj q)) j) = 0 ↔ ctN (fun q => okB C a b (lj q)) j = 0 := by rw [show (0 : Int32) = nI 0 from rfl, nI_eq (by omega) (by omega)]
        rw [if_pos ho] at s1 s2 s3
        rw [if_neg (fun z => b94 (c0.mpr z))] at s2
        refine Bd_nx (ih (j + 1, M86) ⟨by show j + 1 ≤ 401; omega, fun q hq => (e86.2.1 q hq).trans (hI.2 q hq)⟩ (by show 401 - (j + 1) < 401 - j; omega)) ?_
        exact ⟨rfl, rfl, rfl, rfl, by rw [s1, nI_succ], by rw [s2], by rw [s3], by rw [lj_s], trivial⟩
      · refine Bd_iload_7 (pc := 97) dX8_twice_97 ?_
        refine Bd_goto (t := 104) (pc := 99) dX8_twice_99 (by decide) ?_
        refine Bd_istore_5 (pc := 104) dX8_twice_104 (Nat.le_of_ble_eq_true rfl) rfl ?_
        refine Bd_iload_7 (pc := 106) dX8_twice_106 ?_
        refine Bd_istore_6 (pc := 108) dX8_twice_108 (Nat.le_of_ble_eq_true rfl) rfl ?_
        refine Bd_iinc_4 (pc := 110) dX8_twice_110 (show _ + Int32.ofInt 1 = _ + 1 from rfl) (Nat.le_of_ble_eq_true rfl) rfl ?_
        refine Bd_iinc_7 (pc := 113) dX8_twice_113 (show _ + Int32.ofInt 1 = _ + 1 from rfl) (Nat.le_of_ble_eq_true rfl) rfl ?_
        refine Bd_goto (t := 73) (pc := 116) dX8_twice_116 (by decide) ?_
        have s1 : ctN (fun q => okB C a b (lj q)) (j + 1) = ctN (fun q => okB C a b (lj q)) j + (if okB C a b (lj j) = true then 1 else 0) := rfl
        have s2 : lsR (okB C a b) (j + 1) = (if okB C a b (lj j) = true then (if ctN (fun q => okB C a b (lj q)) j = 0 then lj j else lsR (okB C a b) j) else lsR (okB C a b) j) := rfl
        have s3 : msR (okB C a b) (j + 1) = (if okB C a b (lj j) = true then lj j else msR (okB C a b) j) := rfl
        have ho : okB C a b (lj j) = true := decide_eq_true (b2_n.mp b89)
        have c0 : nI (ctN (fun q => okB C a b (lj q)) j) = 0 ↔ ctN (fun q => okB C a b (lj q)) j = 0 := by rw [show (0 : Int32) = nI 0 from rfl, nI_eq (by omega) (by omega)]
        rw [if_pos ho] at s1 s2 s3
        rw [if_pos (c0.mp b94)] at s2
        refine Bd_nx (ih (j + 1, M86) ⟨by show j + 1 ≤ 401; omega, fun q hq => (e86.2.1 q hq).trans (hI.2 q hq)⟩ (by show 401 - (j + 1) < 401 - j; omega)) ?_
        exact ⟨rfl, rfl, rfl, rfl, by rw [s1, nI_succ], by rw [s2], by rw [s3], by rw [lj_s], trivial⟩
set_option maxRecDepth 100000 in
set_option maxHeartbeats 4000000 in
theorem sem_X8_twice {C M : Mem} (h : RF C M) {a b k : Int32} : Sem mX8_twice SH [.ref 58, .int a, .int b, .int k] M (RI SH (fun r N => twiceP C a b k r ∧ RP C M N)) := by
  refine Sem_of rfl (fun G => (Nat.le_of_ble_eq_true rfl)) (fun G => ?_)
  refine Bd_aload_0 (pc := 0) dX8_twice_0 ?_
  refine Bd_iload_1 (pc := 1) dX8_twice_1 ?_
  refine Bd_callV1i (cd := mX8_isCell) (pc := 2) dX8_twice_2 k_1012 v_X8_isCell ⟨(Nat.le_of_ble_eq_true rfl), (Nat.le_of_ble_eq_true rfl)⟩ rfl rfl (sem_X8_isCell h) (Nat.le_of_ble_eq_true rfl) ?_
  refine Bd_if_eq (t := 47) (pc := 5) dX8_twice_5 (by decide) (fun b5 => ?_) (fun b5 => ?_)
  · refine Bd_iconst (v := -1) (pc := 47) dX8_twice_47 (by decide) ?_
    refine Bd_iret (pc := 48) dX8_twice_48 rfl ?_
    exact ⟨_, rfl, rfl, fun r' hR => by rw [twiceR, if_neg (fun q => b2_0.mp b5 q.1)] at hR; exact hR.symm, RP_aw h⟩
  · refine Bd_aload_0 (pc := 8) dX8_twice_8 ?_
    refine Bd_iload_2 (pc := 9) dX8_twice_9 ?_
    refine Bd_callV1i (cd := mX8_isCell) (pc := 10) dX8_twice_10 k_1012 v_X8_isCell ⟨(Nat.le_of_ble_eq_true rfl), (Nat.le_of_ble_eq_true rfl)⟩ rfl rfl (sem_isCellK h.aw) (Nat.le_of_ble_eq_true rfl) ?_
    refine Bd_if_eq (t := 47) (pc := 13) dX8_twice_13 (by decide) (fun b13 => ?_) (fun b13 => ?_)
    · refine Bd_iconst (v := -1) (pc := 47) dX8_twice_47 (by decide) ?_
      refine Bd_iret (pc := 48) dX8_twice_48 rfl ?_
      exact ⟨_, rfl, rfl, fun r' hR => by rw [twiceR, if_neg (fun q => b2_0.mp b13 q.2.1)] at hR; exact hR.symm, RP_aw h⟩
    · refine Bd_iload_3 (pc := 16) dX8_twice_16 ?_
      refine Bd_i2l (pc := 17) dX8_twice_17 ?_
      refine Bd_lconst (v := 0) (pc := 18) dX8_twice_18 (by decide) ?_
      refine Bd_ldc2 k_990 (pc := 19) dX8_twice_19 ?_
      refine Bd_callS3i (cd := mX8_in) (pc := 22) dX8_twice_22 k_910 v_X8_in ⟨(Nat.le_of_ble_eq_true rfl), (Nat.le_of_ble_eq_true rfl)⟩ (sem_in (a := 0) (b := 2) (by decide) (by decide)) (Nat.le_of_ble_eq_true rfl) ?_
      refine Bd_if_ne (t := 49) (pc := 25) dX8_twice_25 (by decide) (fun b25 => ?_) (fun b25 => ?_)
      · refine Bd_aload_0 (pc := 49) dX8_twice_49 ?_
        refine Bd_getI (j := 5) ck8 (pc := 50) dX8_twice_50 k_791 rfl (Nat.le_of_ble_eq_true rfl) rfl ?_
        refine Bd_if_ne (t := 59) (pc := 53) dX8_twice_53 (by decide) (fun b53 => ?_) (fun b53 => ?_)
        · refine Bd_iconst (v := 0) (pc := 59) dX8_twice_59 (by decide) ?_
          refine Bd_istore_4 (pc := 60) dX8_twice_60 (Nat.le_of_ble_eq_true rfl) rfl ?_
          refine Bd_iconst (v := 0) (pc := 62) dX8_twice_62 (by decide) ?_
          refine Bd_istore_5 (pc := 63) dX8_twice_63 (Nat.le_of_ble_eq_true rfl) rfl ?_
          refine Bd_iconst (v := 0) (pc := 65) dX8_twice_65 (by decide) ?_
          refine Bd_istore_6 (pc := 66) dX8_twice_66 (Nat.le_of_ble_eq_true rfl) rfl ?_
          refine Bd_sipush (v := -200) (pc := 68) dX8_twice_68 (by decide) ?_
          refine Bd_istore_7 (pc := 71) dX8_twice_71 (Nat.le_of_ble_eq_true rfl) rfl ?_
          have hk := (Or.inl (k02.mp (b2_n.mp b25)) : (0 ≤ k ∧ k < 3) ∨ twA C k)
          have hz : ¬ C 44 8 = 0 := fun z => b53 (h.aw.rf.n5.trans z)
          exact bd_twR h (b2_n.mp b5).1 (b2_n.mp b13).1 hk (fun r N hN hr => ⟨r, rfl, rfl, tw_ans h.1 ⟨b2_n.mp b5, b2_n.mp b13, hk⟩ hz hr, RP_sc (fun q hq => hN q (fun z => by rw [z] at hq; exact absurd hq (by decide))) (RP_aw h)⟩)
        · refine Bd_bipush (v := -2) (pc := 56) dX8_twice_56 (by decide) ?_
          refine Bd_iret (pc := 58) dX8_twice_58 rfl ?_
          have hk := (Or.inl (k02.mp (b2_n.mp b25)) : (0 ≤ k ∧ k < 3) ∨ twA C k)
          exact ⟨_, rfl, rfl, fun r' hR => by rw [twiceR, if_pos ⟨b2_n.mp b5, b2_n.mp b13, hk⟩, if_pos (h.aw.rf.n5.symm.trans b53)] at hR; exact hR.symm, RP_aw h⟩
      · refine Bd_iload_3 (pc := 28) dX8_twice_28 ?_
        refine Bd_i2l (pc := 29) dX8_twice_29 ?_
        refine Bd_ldc2 k_1121 (pc := 30) dX8_twice_30 ?_
        refine Bd_bipush (v := 9) (pc := 33) dX8_twice_33 (by decide) ?_
        refine Bd_aload_0 (pc := 35) dX8_twice_35 ?_
        refine Bd_getI (j := 5) ck8 (pc := 36) dX8_twice_36 k_791 rfl (Nat.le_of_ble_eq_true rfl) rfl ?_
        refine Bd_iadd (pc := 39) dX8_twice_39 ?_
        refine Bd_i2l (pc := 40) dX8_twice_40 ?_
        refine Bd_callS3i (cd := mX8_in) (pc := 41) dX8_twice_41 k_910 v_X8_in ⟨(Nat.le_of_ble_eq_true rfl), (Nat.le_of_ble_eq_true rfl)⟩ (sem_in (a := 10) (by decide) rfl) (Nat.le_of_ble_eq_true rfl) ?_
        refine Bd_if_ne (t := 49) (pc := 44) dX8_twice_44 (by decide) (fun b44 => ?_) (fun b44 => ?_)
        · refine Bd_aload_0 (pc := 49) dX8_twice_49 ?_
          refine Bd_getI (j := 5) ck8 (pc := 50) dX8_twice_50 k_791 rfl (Nat.le_of_ble_eq_true rfl) rfl ?_
          refine Bd_if_ne (t := 59) (pc := 53) dX8_twice_53 (by decide) (fun b53 => ?_) (fun b53 => ?_)
          · refine Bd_iconst (v := 0) (pc := 59) dX8_twice_59 (by decide) ?_
            refine Bd_istore_4 (pc := 60) dX8_twice_60 (Nat.le_of_ble_eq_true rfl) rfl ?_
            refine Bd_iconst (v := 0) (pc := 62) dX8_twice_62 (by decide) ?_
            refine Bd_istore_5 (pc := 63) dX8_twice_63 (Nat.le_of_ble_eq_true rfl) rfl ?_
            refine Bd_iconst (v := 0) (pc := 65) dX8_twice_65 (by decide) ?_
            refine Bd_istore_6 (pc := 66) dX8_twice_66 (Nat.le_of_ble_eq_true rfl) rfl ?_
            refine Bd_sipush (v := -200) (pc := 68) dX8_twice_68 (by decide) ?_
            refine Bd_istore_7 (pc := 71) dX8_twice_71 (Nat.le_of_ble_eq_true rfl) rfl ?_
            have hk := (Or.inr ((twA_iff h.1).mp (by have z := b2_n.mp b44; rw [h.aw.rf.n5] at z; exact z)) : (0 ≤ k ∧ k < 3) ∨ twA C k)
            have hz : ¬ C 44 8 = 0 := fun z => b53 (h.aw.rf.n5.trans z)
            exact bd_twR h (b2_n.mp b5).1 (b2_n.mp b13).1 hk (fun r N hN hr => ⟨r, rfl, rfl, tw_ans h.1 ⟨b2_n.mp b5, b2_n.mp b13, hk⟩ hz hr, RP_sc (fun q hq => hN q (fun z => by rw [z] at hq; exact absurd hq (by decide))) (RP_aw h)⟩)
          · refine Bd_bipush (v := -2) (pc := 56) dX8_twice_56 (by decide) ?_
            refine Bd_iret (pc := 58) dX8_twice_58 rfl ?_
            have hk := (Or.inr ((twA_iff h.1).mp (by have z := b2_n.mp b44; rw [h.aw.rf.n5] at z; exact z)) : (0 ≤ k ∧ k < 3) ∨ twA C k)
            exact ⟨_, rfl, rfl, fun r' hR => by rw [twiceR, if_pos ⟨b2_n.mp b5, b2_n.mp b13, hk⟩, if_pos (h.aw.rf.n5.symm.trans b53)] at hR; exact hR.symm, RP_aw h⟩
        · refine Bd_iconst (v := -1) (pc := 47) dX8_twice_47 (by decide) ?_
          refine Bd_iret (pc := 48) dX8_twice_48 rfl ?_
          exact ⟨_, rfl, rfl, fun r' hR => by rw [twiceR, if_neg (fun q => q.2.2.elim (fun z => b2_0.mp b25 (k02.mpr z)) (fun z => b2_0.mp b44 (by rw [h.aw.rf.n5]; exact (twA_iff h.1).mpr z)))] at hR; exact hR.symm, RP_aw h⟩
