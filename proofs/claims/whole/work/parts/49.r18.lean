/-! 49: the reference: read (lemmas) -/
theorem l64_add {f : Int32} {e : Nat} (he : e < 100) : (f.toInt64 + (nI e).toInt64).toInt = f.toInt + (e : Int) := by
  have h1 := Int32.le_toInt f
  have h2 := Int32.toInt_lt f
  rw [Int64.toInt_add, Int32.toInt_toInt64, Int32.toInt_toInt64, nI_toInt (by omega)]
  apply Int.bmod_eq_of_le
  · omega
  · omega
theorem rd_in {f L : Int32} {e : Nat} (he : e < 100) (hL : bt L 0 40) : (0 ≤ f.toInt64 + (nI e).toInt64 ∧ f.toInt64 + (nI e).toInt64 ≤ (L - 1).toInt64) ↔ (0 ≤ f.toInt + (e : Int) ∧ f.toInt + (e : Int) < L.toInt) := by
  have e1 : (1 : Int32).toInt = 1 := by decide
  have s := i32_sub (x := L) (y := 1) (by have := hL.1; omega) (by have := hL.2; omega)
  rw [Int64.le_iff_toInt_le, Int64.le_iff_toInt_le, l64_add he, Int32.toInt_toInt64, s, e1, show (0 : Int64).toInt = 0 by decide]
  omega
theorem rem3 : ∀ e, e < 42 → ((nI e - nI e / 3 * 3 = 2) ↔ e % 3 = 2) := by decide +kernel
theorem rd3n : ∀ n, n ≤ 13 → (3 * nI n : Int32) = nI (3 * n) := by decide +kernel
/-- while the blocks ahead were in range, nothing runs over -/
theorem rd_a {C : Mem} {b : Nat} {f : Int32} (hL : bt (C b 2) 0 40) : ∀ q, q ≤ 13 → (∀ j, j < q → rdB C b f j) → (rdA f q).toInt = f.toInt + 3 * (q : Int) ∧ (q = 0 ∨ (0 ≤ f.toInt ∧ f.toInt + 3 * (q : Int) ≤ (C b 2).toInt))
  | 0, _, _ => ⟨by rw [show rdA f 0 = f from by show f + 3 * nI 0 = f; rw [show (3 * nI 0 : Int32) = 0 from by decide, Int32.add_zero]]; omega, Or.inl rfl⟩
  | q + 1, hq, h => by
    obtain ⟨i1, i2⟩ := rd_a hL q (by omega) (fun j hj => h j (by omega))
    have hB := h q (by omega)
    have e3 : (3 : Int32).toInt = 3 := by decide
    have s := i32_sub (x := C b 2) (y := 3) (by have := hL.1; omega) (by have := hL.2; omega)
    have b1 := Int32.le_iff_toInt_le.mp (Int32.not_lt.mp hB.1)
    have b2 := Int32.le_iff_toInt_le.mp (Int32.not_lt.mp hB.2)
    rw [Int32.toInt_zero, i1] at b1
    rw [s, e3, i1] at b2
    have e : rdA f (q + 1) = rdA f q + 3 := by
      show f + 3 * nI (q + 1) = f + 3 * nI q + 3
      rw [nI_succ, Int32.mul_add, Int32.add_assoc]; rfl
    have a := i32_add (x := rdA f q) (y := 3) (by rw [i1]; omega) (by rw [i1]; have := hL.2; omega)
    have f0 : 0 ≤ f.toInt := by rcases i2 with z | z; subst z; omega; exact z.1
    exact ⟨by rw [e, a, i1, e3]; omega, Or.inr ⟨f0, by omega⟩⟩
theorem rd_b {C : Mem} {b : Nat} {f : Int32} (hL : bt (C b 2) 0 40) {q : Nat} (hq : q ≤ 13) (h : ∀ j, j < q → rdB C b f j) : rdB C b f q ↔ (0 ≤ f.toInt + 3 * (q : Int) ∧ f.toInt + 3 * (q : Int) + 2 < (C b 2).toInt) := by
  obtain ⟨i1, i2⟩ := rd_a hL q hq h
  have e3 : (3 : Int32).toInt = 3 := by decide
  have s := i32_sub (x := C b 2) (y := 3) (by have := hL.1; omega) (by have := hL.2; omega)
  show (¬ rdA f q < 0 ∧ ¬ C b 2 - 3 < rdA f q) ↔ _
  rw [Int32.lt_iff_toInt_lt, Int32.lt_iff_toInt_lt, s, e3, i1, Int32.toInt_zero]
  omega
/-- the places of a block -/
theorem rd_x {C : Mem} {b : Nat} {f : Int32} (hL : bt (C b 2) 0 40) {q : Nat} (hq : q ≤ 13) (h : ∀ j, j < q → rdB C b f j) (hB : rdB C b f q) {kk : Nat} (hk : kk < 4) :
    cn (rdA f q) + 2 < 40 ∧ cn (rdA f q + 1) = cn (rdA f q) + 1 ∧ cn (rdA f q + 2) = cn (rdA f q) + 2 ∧ (40 * nI kk + f + nI (3 * q + 2) - 2 : Int32) = nI (40 * kk + cn (rdA f q)) ∧ (40 * nI kk + f + nI (3 * q + 2) - 1 : Int32) = nI (40 * kk + (cn (rdA f q) + 1)) ∧ (40 * nI kk + f + nI (3 * q + 2) : Int32) = nI (40 * kk + (cn (rdA f q) + 2)) := by
  obtain ⟨i1, i2⟩ := rd_a hL q hq h
  have hb := (rd_b hL hq h).mp hB
  have h40 := hL.2
  have hc := cn_of (x := rdA f q) (hi := 37) ⟨by omega, by omega⟩
  have hcn := hc.2.1
  have e1 : rdA f q + 1 = nI (cn (rdA f q) + 1) := by rw [nI_succ, ← hc.1]
  have e2 : rdA f q + 2 = nI (cn (rdA f q) + 2) := by rw [show cn (rdA f q) + 2 = cn (rdA f q) + 1 + 1 from rfl, nI_succ, nI_succ, ← hc.1, Int32.add_assoc (rdA f q) 1 1]; rfl
  have ef : f.toInt = ((cn (rdA f q) : Nat) : Int) - 3 * (q : Int) := by omega
  have c4 : (40 * nI kk : Int32) = nI (40 * kk) := by have := c40 kk hk 0 (by decide); rw [show (40 * kk + 0) = 40 * kk from rfl] at this; rw [← this]; exact (Int32.add_zero _).symm
  have t1 : (nI (40 * kk)).toInt = 40 * (kk : Int) := by rw [nI_toInt (by omega)]; omega
  have a1 := i32_add (x := nI (40 * kk)) (y := f) (by rw [t1]; omega) (by rw [t1]; omega)
  have t2 : (nI (3 * q + 2)).toInt = 3 * (q : Int) + 2 := by rw [nI_toInt (by omega)]; omega
  have a2 := i32_add (x := nI (40 * kk) + f) (y := nI (3 * q + 2)) (by rw [a1, t1, t2]; omega) (by rw [a1, t1, t2]; omega)
  have z2 : (40 * nI kk + f + nI (3 * q + 2) : Int32) = nI (40 * kk + (cn (rdA f q) + 2)) := Int32.toInt_inj.mp (by rw [c4, a2, a1, t1, t2, nI_toInt (by omega)]; omega)
  refine ⟨by omega, by rw [e1]; exact nI_clamp (by omega), by rw [e2]; exact nI_clamp (by omega), ?_, ?_, z2⟩
  · rw [z2, show 40 * kk + (cn (rdA f q) + 2) = 40 * kk + cn (rdA f q) + 1 + 1 from rfl, nI_succ, nI_succ, Int32.add_assoc]
    exact Int32.add_sub_cancel _ _
  · rw [z2, show 40 * kk + (cn (rdA f q) + 2) = 40 * kk + (cn (rdA f q) + 1) + 1 from rfl, nI_succ]
    exact Int32.add_sub_cancel _ _
theorem rd_cnt {C : Mem} {b : Nat} {f : Int32} (w : WF C) (hb : 9 ≤ b) : ∀ q, (∀ j, j < q → rdO C b f j) → rdM C b f q 5 4 = nI (cn (C 5 4) + q) ∧ cn (C 5 4) + q ≤ 24 ∧ rdM C b f q 5 5 = C 5 5 ∧ rdM C b f q 9 = C 9 ∧ ∀ i, i < cn (C 5 4) → rdM C b f q 6 i = C 6 i ∧ rdM C b f q 7 i = C 7 i ∧ rdM C b f q 8 i = C 8 i
  | 0, _ => ⟨w.nb, w.nb24, rfl, rfl, fun _ _ => ⟨rfl, rfl, rfl⟩⟩
  | q + 1, h => by
    obtain ⟨i1, i2, i3, i4, i5⟩ := rd_cnt (f := f) w hb q (fun j hj => h j (by omega))
    have hO := (h q (by omega)).2
    have ee : rdM C b f q (b + 1) = C (b + 1) := rdM_ne (by omega) (by omega) (by omega) (by omega) q
    have ec : cn (rdM C b f q 5 4) = cn (C 5 4) + q := by rw [i1]; exact nI_clamp (by omega)
    unfold rdM
    rw [ee]
    unfold rdW blowV at hO
    unfold blowU
    split at hO
    · rename_i q1
      rw [if_pos q1]
      split at hO
      · rename_i q2
        rw [if_pos q2]
        split at hO
        · rename_i q3
          rw [if_pos q3, ec]
          rw [ec] at q3
          refine ⟨?_, by omega, ?_, ?_, fun i hi => ?_⟩
          · show upd (rdM C b f q 5) 4 (nI (cn (C 5 4) + q + 1)) 4 = _
            rw [upd_eq]; rfl
          · show upd (rdM C b f q 5) 4 (nI (cn (C 5 4) + q + 1)) 5 = _
            rw [upd_ne (by decide)]; exact i3
          · exact i4
          · have := i5 i hi
            refine ⟨?_, ?_, ?_⟩
            · show upd (rdM C b f q 6) (cn (C 5 4) + q) _ i = _
              rw [upd_ne (by omega)]; exact this.1
            · show upd (rdM C b f q 7) (cn (C 5 4) + q) _ i = _
              rw [upd_ne (by omega)]; exact this.2.1
            · show upd (rdM C b f q 8) (cn (C 5 4) + q) _ i = _
              rw [upd_ne (by omega)]; exact this.2.2
        · exact absurd hO (by decide)
      · exact absurd hO (by decide)
    · exact absurd hO (by decide)
theorem IV_torn {C N : Mem} (h : IV C N) {v : Int32} : IV (updM C 0 11 v) (updM N 58 37 v) := by
  obtain ⟨l, b, ⟨i0, i1⟩, t, f, s, kk⟩ := h
  exact ⟨l, b, ⟨i0, i1⟩, t, ⟨f.1, rfl⟩, s, kk⟩
/-- blows that were put are taken back -/
theorem IV_undo {C N : Mem} {b : Nat} {f : Int32} (w : WF C) (hb : 9 ≤ b) {q : Nat} (hO : ∀ j, j < q → rdO C b f j) (h : IV (rdM C b f q) N) : IV (updM (rdM C b f q) 5 4 (C 5 4)) (updM N 59 86 (C 5 4)) := by
  obtain ⟨c1, c2, c3, c4, c5⟩ := rd_cnt (f := f) w hb q hO
  have wq := rdM_wf (b := b) (f := f) w q
  have n24 := w.nb24
  have nm := w.nm24
  have ec : cn (rdM C b f q 5 4) = cn (C 5 4) + q := by rw [c1]; exact nI_clamp (by omega)
  have g : ∀ j, j ≠ 86 → updM N 59 86 (C 5 4) 59 j = N 59 j := fun j hj => by rw [updM_eq, upd_ne hj]
  refine IV_pg0 h (fun k hk => updM_ne hk) (fun j hj => g j (by omega)) (fun k hk => updM_ne (by omega)) (IVl_hi h.1 (fun k hk => updM_ne hk) (fun j hj => g j (by omega)) (g 113 (by decide)) (fun k hk => updM_ne (by omega)) wq.nt6) ?_
  obtain ⟨b1, b2, b3, b4⟩ := h.2.1
  refine ⟨by rw [updM_eq]; exact upd_eq, fun i hi => ?_, by rw [g _ (by decide)]; exact b3, fun i hi => ?_⟩
  · have hi : i < cn (C 5 4) := hi
    rw [g _ (by omega), g _ (by omega), g _ (by omega)]
    exact b2 i (by rw [ec]; omega)
  · have hi : i < cn (rdM C b f q 5 5) := hi
    rw [c3] at hi
    rw [g _ (by omega)]
    exact b4 i (by rw [c3]; exact hi)
theorem read_fn {C : Mem} {k lane f n r r' : Int32} {N N' : Mem} (h : readR C k lane f n r N) (h' : readR C k lane f n r' N') : r = r' ∧ N = N' := by
  unfold readR at h h'
  by_cases hP : rdP k lane n
  · rw [if_pos hP] at h h'
    unfold readB at h h'
    by_cases hz : ¬ n = 0 ∧ ¬ rdF C (shB k) lane = 0
    · rw [if_pos hz] at h h'
      exact ⟨by rw [h.1, h'.1], by rw [h.2, h'.2]⟩
    · rw [if_neg hz] at h h'
      rcases h with ⟨i, i1, i2, i3, i4, i5⟩ | ⟨i, i1, i2, i3, i6, i4, i5⟩ | ⟨i2, i4, i5⟩ <;> rcases h' with ⟨j, j1, j2, j3, j4, j5⟩ | ⟨j, j1, j2, j3, j6, j4, j5⟩ | ⟨j2, j4, j5⟩
      · have e : i = j := by
          rcases Nat.lt_trichotomy i j with z | z | z
          · exact absurd (j2 i z).1 i3
          · exact z
          · exact absurd (i2 j z).1 j3
        subst e; exact ⟨by rw [i4, j4], by rw [i5, j5]⟩
      · rcases Nat.lt_trichotomy i j with z | z | z
        · exact absurd (j2 i z).1 i3
        · subst z; exact absurd j3 i3
        · exact absurd (i2 j z).2 (Int32.not_le.mpr j6)
      · exact absurd (j2 i i1).1 i3
      · rcases Nat.lt_trichotomy i j with z | z | z
        · exact absurd (j2 i z).2 (Int32.not_le.mpr i6)
        · subst z; exact absurd i3 j3
        · exact absurd (i2 j z).1 j3
      · have e : i = j := by
          rcases Nat.lt_trichotomy i j with z | z | z
          · exact absurd (j2 i z).2 (Int32.not_le.mpr i6)
          · exact z
          · exact absurd (i2 j z).2 (Int32.not_le.mpr j6)
        subst e; exact ⟨by rw [i4, j4], by rw [i5, j5]⟩
      · exact absurd (j2 i i1).2 (Int32.not_le.mpr i6)
      · exact absurd (i2 j j1).1 j3
      · exact absurd (i2 j j1).2 (Int32.not_le.mpr j6)
      · exact ⟨by rw [i4, j4], by rw [i5, j5]⟩
  · rw [if_neg hP] at h h'
    exact ⟨by rw [h.1, h'.1], by rw [h.2, h'.2]⟩
set_option maxRecDepth 100000 in
set_option maxHeartbeats 4000000 in
theorem sem_inL {sh : List Ds} {M : Mem} {x lo hi : Int64} : Sem mX8_in sh [.long x, .long lo, .long hi] M (PD sh (some (.int (b2 (lo ≤ x ∧ x ≤ hi)))) M) := by
  refine Sem_of rfl (fun G => (Nat.le_of_ble_eq_true rfl)) (fun G => ?_)
  refine Bd_lload_0 (pc := 0) dX8_in_0 ?_
  refine Bd_lload_2 (pc := 1) dX8_in_1 ?_
  refine Bd_lcmp (pc := 2) dX8_in_2 ?_
  refine Bd_if_lt (t := 17) (pc := 3) dX8_in_3 (by decide) (fun b3 => ?_) (fun b3 => ?_)
  · refine Bd_iconst (v := 0) (pc := 17) dX8_in_17 (by decide) ?_
    refine Bd_zret (pc := 18) dX8_in_18 rfl rfl ?_
    exact PD_i (b2_f (fun q => Int64.not_lt.mpr q.1 (lgc_lt.mp b3))) rfl
  · refine Bd_lload_0 (pc := 6) dX8_in_6 ?_
    refine Bd_lload_4 (pc := 7) dX8_in_7 ?_
    refine Bd_lcmp (pc := 9) dX8_in_9 ?_
    refine Bd_if_gt (t := 17) (pc := 10) dX8_in_10 (by decide) (fun b10 => ?_) (fun b10 => ?_)
    · refine Bd_iconst (v := 0) (pc := 17) dX8_in_17 (by decide) ?_
      refine Bd_zret (pc := 18) dX8_in_18 rfl rfl ?_
      exact PD_i (b2_f (fun q => Int64.not_lt.mpr q.2 (lgc_gt.mp b10))) rfl
    · refine Bd_iconst (v := 1) (pc := 13) dX8_in_13 (by decide) ?_
      refine Bd_goto (t := 18) (pc := 14) dX8_in_14 (by decide) ?_
      refine Bd_zret (pc := 18) dX8_in_18 rfl rfl ?_
      exact PD_i (b2_t ⟨Int64.not_lt.mp (fun q => b3 (lgc_lt.mpr q)), Int64.not_lt.mp (fun q => b10 (lgc_gt.mpr q))⟩) rfl
