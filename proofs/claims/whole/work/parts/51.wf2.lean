/-! 51: WF after each call -/
theorem WF_end {C : Mem} (h : WF C) {n : Int32} : WF (endU C n) := by
  unfold endU
  split
  · exact h
  · rename_i q1
    split
    · rename_i q2
      refine ⟨h.1, h.2.1, h.2.2.1, ⟨?_, h.2.2.2.1.2⟩, h.2.2.2.2⟩
      show bt n 0 320
      have a := Int32.le_iff_toInt_le.mp (Int32.not_lt.mp q1)
      have b := Int32.le_iff_toInt_le.mp q2
      rw [Int32.toInt_zero] at a
      exact ⟨a, by have := h.2.2.2.1.1.2; omega⟩
    · exact h
theorem WF_wind {C : Mem} (h : WF C) {e s : Int32} : WF (windU C e s) := by
  unfold windU
  split
  · rename_i q1
    split
    · rename_i q2
      have b1 : bt e 0 2 := k02b (k02'.mpr q1)
      have b2 : bt s 0 2 := k02b (k02'.mpr q2)
      exact ⟨⟨⟨h.1.1.1, h.1.1.2.1, h.1.1.2.2.1, h.1.1.2.2.2.1, b1, b2⟩, h.1.2⟩, h.2⟩
    · exact h
  · exact h
theorem WF_carry {C : Mem} (h : WF C) {t p : Int32} : WF (carryU C t p) := by
  unfold carryU
  split
  · rename_i q1
    split
    · have bp : bt p 0 255 := bt_i ⟨Int32.not_lt.mp q1.2.1, q1.2.2⟩
      refine ⟨⟨h.1.1, h.1.2.1, fun j hj => ?_, h.1.2.2.2⟩, h.2⟩
      have := h.1.2.2.1 j hj
      refine ⟨this.1, ?_⟩
      show bt (upd (C 47) (cn t) p j) 0 255
      by_cases z : j = cn t
      · rw [z, upd_eq]; exact bp
      · rw [upd_ne z]; exact this.2
    · exact h
  · exact h
theorem WF_move {C : Mem} (h : WF C) {t c : Int32} : WF (moveU C t c) := by
  unfold moveU
  split
  · split
    · rename_i q2
      refine ⟨⟨h.1.1, h.1.2.1, fun j hj => ?_, h.1.2.2.2⟩, h.2⟩
      have := h.1.2.2.1 j hj
      refine ⟨?_, this.2⟩
      show hcF C 45 (upd (C 46) (cn t) c j)
      by_cases z : j = cn t
      · rw [z, upd_eq]; exact q2
      · rw [upd_ne z]; exact this.1
    · exact h
  · exact h
theorem WF_silence {C : Mem} (h : WF C) : WF (updM (updM C 5 4 0) 5 5 0) := ⟨h.1, ⟨show bt 0 0 24 from ⟨by decide, by decide⟩, show bt 0 0 (0 : Int32).toInt from ⟨by decide, by decide⟩, fun i hi => absurd hi (Nat.not_lt_zero i), fun i hi => absurd hi (Nat.not_lt_zero i)⟩, h.2.2⟩
theorem WF_forget {C : Mem} (h : WF C) : WF (updM C 5 5 0) := ⟨h.1, ⟨h.2.1.1, show bt 0 0 (C 5 4).toInt from ⟨by decide, h.2.1.1.1⟩, h.2.1.2.2.1, fun i hi => absurd hi (Nat.not_lt_zero i)⟩, h.2.2⟩
theorem WF_noted {C : Mem} (h : WF C) {b : Int32} : WF (notedU C b) := by
  unfold notedU
  split
  · exact h
  · rename_i q1
    split
    · rename_i q2
      split
      · rename_i q3
        have bb : bt b 0 400 := bt_i ⟨Int32.not_lt.mp q1, q2⟩
        have l := Int32.lt_iff_toInt_lt.mp q3
        have n5 := h.2.1.2.1
        have n4 := h.2.1.1
        have e1 : (1 : Int32).toInt = 1 := by decide
        have a := i32_add (x := C 5 5) (y := 1) (by have := n5.1; omega) (by have := n4.2; omega)
        have c5 := cn_of n5
        have ec : cn (C 5 5 + 1) = cn (C 5 5) + 1 := by
          have z : C 5 5 + 1 = nI (cn (C 5 5) + 1) := by rw [nI_succ, ← c5.1]
          rw [z]; exact nI_clamp (by have := h.nm24; omega)
        refine ⟨h.1, ⟨n4, ?_, h.2.1.2.2.1, fun i hi => ?_⟩, h.2.2⟩
        · show bt (C 5 5 + 1) 0 (C 5 4).toInt
          exact ⟨by rw [a]; have := n5.1; omega, by rw [a]; omega⟩
        · have hi : i < cn (C 5 5 + 1) := hi
          rw [ec] at hi
          show bt (upd (C 9) (cn (C 5 5)) b i) 0 400
          by_cases z : i = cn (C 5 5)
          · rw [z, upd_eq]; exact bb
          · rw [upd_ne z]; exact h.2.1.2.2.2 i (by omega)
      · exact h
    · exact h
theorem lcB {C : Mem} (w : WF C) {ch : Nat → Int32} {c : Int32} (hc : c81 c) : ∀ n, n ≤ cn (C 44 8) → (∀ i, i < n → ∃ t, t < cn (C 44 6) ∧ ch i = nI t) → bt (lcG C ch c n) 0 88 ∧ ∀ i, i < n → (sdF C (C 46 (cn (ch i))) c).toInt - (C 49 i).toInt ≤ (lcG C ch c n).toInt
  | 0, _, _ => ⟨show bt 0 0 88 from ⟨by decide, by decide⟩, fun i hi => absurd hi (Nat.not_lt_zero i)⟩
  | n + 1, hn, hv => by
    obtain ⟨i1, i2⟩ := lcB w hc n (by omega) (fun i hi => hv i (by omega))
    obtain ⟨t, t1, t2⟩ := hv n (by omega)
    have ec : cn (ch n) = t := by rw [t2]; exact nI_clamp (by have := w.nt6; omega)
    have b1 := sdB w (w.tc t1) hc
    have b2 := (w.1.2.2.2.2 n (by omega)).1
    have s := i32_sub (x := sdF C (C 46 (cn (ch n))) c) (y := C 49 n) (by rw [ec]; have := b1.1; have := b2.2; omega) (by rw [ec]; have := b1.2; have := b2.1; omega)
    have b3 : (sdF C (C 46 (cn (ch n))) c).toInt ≤ 88 := by rw [ec]; exact b1.2
    unfold lcG mxF
    by_cases q : lcG C ch c n < sdF C (C 46 (cn (ch n))) c - C 49 n
    · rw [if_pos q]
      have l := Int32.lt_iff_toInt_lt.mp q
      rw [s] at l
      refine ⟨⟨by rw [s]; have := i1.1; omega, by rw [s]; have := b2.1; omega⟩, fun i hi => ?_⟩
      rw [s]
      by_cases z : i = n
      · rw [z]; omega
      · have := i2 i (by omega); omega
    · rw [if_neg q]
      have l := Int32.le_iff_toInt_le.mp (Int32.not_lt.mp q)
      rw [s] at l
      refine ⟨i1, fun i hi => ?_⟩
      by_cases z : i = n
      · rw [z]; exact l
      · exact i2 i (by omega)
theorem WF_PU {C N : Mem} (w : WF C) {ch : Nat → Int32} {c : Int32} (hc : c81 c) (hv : ∀ i, i < cn (C 44 8) → ∃ t, t < cn (C 44 6) ∧ ch i = nI t) (h : PU C ch c N) : WF N := by
  obtain ⟨p1, p2, p3, p4⟩ := h
  obtain ⟨l1, l2⟩ := lcB w hc (cn (C 44 8)) (Nat.le_refl _) hv
  have e : ∀ k, 9 ≤ k → k ≠ 43 → N k = C k := fun k h1 h2 => p4 k (by omega) (by omega) (by omega) (by omega) h2
  have c44 := e 44 (by decide) (by decide)
  refine ⟨WL_c (fun q h1 h2 => e q (by omega) (by omega)) w.1, ⟨?_, ?_, fun i hi => ?_, fun i hi => ?_⟩, ⟨WI_c (fun q h1 h2 => e q (by omega) (by omega)) (by rw [c44]) (by rw [e 45 (by decide) (by decide)]) (by rw [e 45 (by decide) (by decide)]) w.2.2.1.1, WI_c (fun q h1 h2 => e q (by omega) (by omega)) (by rw [c44]) (by rw [e 45 (by decide) (by decide)]) (by rw [e 45 (by decide) (by decide)]) w.2.2.1.2⟩, WP_c (p4 1 (by decide) (by decide) (by decide) (by decide) (by decide)) (p4 2 (by decide) (by decide) (by decide) (by decide) (by decide)) w.2.2.2.1, WS_c (e 34 (by decide) (by decide)) w.2.2.2.2.1, WS_c (e 36 (by decide) (by decide)) w.2.2.2.2.2.1, WS_c (e 38 (by decide) (by decide)) w.2.2.2.2.2.2.1, WS_c (e 40 (by decide) (by decide)) w.2.2.2.2.2.2.2⟩
  · rw [p1]; have := w.1.2.1.2.2; exact ⟨this.1, by have := this.2; omega⟩
  · rw [p1, p2]; exact ⟨by decide, w.1.2.1.2.2.1⟩
  · rw [p1] at hi
    obtain ⟨a, b, d⟩ := p3 i hi
    obtain ⟨t, t1, t2⟩ := hv i hi
    have ec : cn (ch i) = t := by rw [t2]; exact nI_clamp (by have := w.nt6; omega)
    have b1 := sdB w (w.tc t1) hc
    have b2 := w.1.2.2.2.2 i hi
    have l3 := l2 i hi
    rw [ec] at l3 b
    have nt := cn_of w.1.2.1.1
    refine ⟨?_, ?_, by rw [d]; exact b2.2⟩
    · rw [a, t2, c44]
      exact ⟨by rw [nI_toInt (by have := w.nt6; omega)]; omega, by rw [nI_toInt (by have := w.nt6; omega)]; have := nt.2.1; omega⟩
    · rw [b]
      have a1 := i32_add (x := C 49 i) (y := lcG C ch c (cn (C 44 8))) (by have := b2.1.1; have := l1.1; omega) (by have := b2.1.2; have := l1.2; omega)
      have a2 := i32_sub (x := C 49 i + lcG C ch c (cn (C 44 8))) (y := sdF C (C 46 t) c) (by rw [a1]; have := b2.1.1; have := l1.1; have := b1.2; omega) (by rw [a1]; have := b2.1.2; have := l1.2; have := b1.1; omega)
      exact ⟨by rw [a2, a1]; omega, by rw [a2, a1]; have := b2.1.2; have := l1.2; have := b1.1; omega⟩
  · rw [p2] at hi; exact absurd hi (Nat.not_lt_zero i)
theorem WF_plays {C N : Mem} (w : WF C) {c : Int32} (h : playsR C c N) : WF N := by
  unfold playsR at h
  split at h
  · rename_i q
    exact WF_PU w q.1.1 (fun i hi => chF_vp w (q.2.2 i hi)) h
  · exact CE_wf (fun k hk => h k (fun z => by rw [z] at hk; exact absurd hk (by decide))) w
theorem WF_both {C K : Mem} (w : WF C) {a b g r : Int32} (ha : boB C a b g → c81 a) (h : bothR C a b g r K) : WF K := by
  unfold bothR at h
  split at h
  · rename_i hB
    split at h
    · exact CE_wf h.2 w
    · obtain ⟨N, n1, n2, h⟩ := h
      split at h
      · rename_i q
        obtain ⟨-, K', k1, k2⟩ := h
        refine CE_wf k2 (WF_PU w (ha hB) (fun i hi => ?_) k1)
        have z := q i hi
        rcases tlF_r (M := N) (tone := N 50 i) (lag := g) (cn (N 44 6)) with y | ⟨t, t1, t2, -⟩
        · rw [show tgF N g i = -4 from y] at z; exact absurd z (by decide)
        · rw [n1 44 (by decide)] at t1; exact ⟨t, t1, t2⟩
      · exact CE_wf h.2 w
  · exact CE_wf h.2 w
theorem WF_u0 {C : Mem} (w : WF C) {j : Nat} {v : Int32} : WF (updM C 0 j v) := w
theorem WF_undo {C : Mem} {b : Nat} {f : Int32} (w : WF C) (hb : 9 ≤ b) {q : Nat} (hO : ∀ j, j < q → rdO C b f j) : WF (updM (rdM C b f q) 5 4 (C 5 4)) := by
  obtain ⟨c1, c2, c3, c4, c5⟩ := rd_cnt (f := f) w hb q hO
  have wq := rdM_wf (b := b) (f := f) w q
  have ec : cn (rdM C b f q 5 4) = cn (C 5 4) + q := by rw [c1]; exact nI_clamp (by omega)
  refine ⟨wq.1, ⟨w.2.1.1, ?_, fun i hi => ?_, wq.2.1.2.2.2⟩, wq.2.2⟩
  · show bt (rdM C b f q 5 5) 0 (C 5 4).toInt
    rw [c3]; exact w.2.1.2.1
  · have hi : i < cn (C 5 4) := hi
    exact wq.2.1.2.2.1 i (by rw [ec]; omega)
theorem WF_read {C N : Mem} (w : WF C) {k lane f n r : Int32} (h : readR C k lane f n r N) : WF N := by
  unfold readR at h
  split at h
  · rename_i hP
    have hb : 9 ≤ shB k := by rcases k4_c hP.1 with rfl | rfl | rfl | rfl <;> decide
    unfold readB at h
    split at h
    · rw [h.2]; exact WF_u0 w
    · rcases h with ⟨i, -, -, -, -, z⟩ | ⟨i, -, hO, -, -, -, z⟩ | ⟨-, -, z⟩
      · rw [z]; exact WF_u0 (rdM_wf w i)
      · rw [z]; exact WF_undo w hb hO
      · rw [z]; exact WF_u0 (rdM_wf w (cn n))
  · rw [h.2]; exact w
