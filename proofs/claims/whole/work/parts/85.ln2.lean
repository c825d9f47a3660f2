/-! 85: land: towers, hills, notes -/
theorem CX_m {c : Int32} {X Y X' Y' : Nat} (h : CX c X Y) (h1 : X ≤ X') (h2 : Y ≤ Y') : CX c X' Y' := by
  obtain ⟨x, y, a, b, e⟩ := h
  exact ⟨x, y, by omega, by omega, e⟩
theorem myF_n {a b : Nat} (ha : a ≤ 8) (hb : b ≤ 8) : myF (nI a) (nI b) = nI (max a b) := by
  unfold myF
  by_cases h : a ≤ b
  · rw [if_pos (nI_le h (by omega)), Nat.max_eq_right h]
  · rw [if_neg (nI_ge (by omega) (by omega)), Nat.max_eq_left (by omega)]
theorem cxy {x y : Nat} : (9 : Int32) * nI y + nI x = nI (9 * y + x) := by
  rw [show (9 : Int32) = nI 9 from rfl]
  simp [nI, Int32.ofNat_add, Int32.ofNat_mul]
theorem n8 {v : Int32} (h : 0 ≤ v ∧ v ≤ 8) : ∃ x : Nat, x ≤ 8 ∧ v = nI x := by
  have hb : bt v 0 8 := bt_i h
  obtain ⟨h1, h2, h3⟩ := cn_of hb
  exact ⟨cn v, by omega, h1⟩
theorem RDr_tw {C N X A : Mem} {c x y : Nat} {p : Int32} (h : RDr C N) (hc : C 51 6 = nI c) (hc6 : c < 6) (hx : x ≤ 8) (hy : y ≤ 8) (hp : bt p 0 255) (X51 : X 51 = upd (C 51) 6 (nI (c + 1))) (X53 : X 53 = upd (C 53) c (nI (9 * y + x))) (X54 : X 54 = upd (C 54) c p) (Xq : ∀ q, q = 52 ∨ (55 ≤ q ∧ q ≤ 57) → X q = C q) (X3 : X 3 1 = C 3 1) (Aq : ∀ q, q = 63 ∨ q = 65 ∨ q = 66 → A q = N q) (A64 : A 64 = upd (upd (N 64) (2 * c) (nI (9 * y + x))) (2 * c + 1) p) (A9 : A 58 9 = nI (c + 1)) (A11 : A 58 11 = N 58 11) (A13 : A 58 13 = N 58 13) (A14 : A 58 14 = myF (nI x) (N 58 14)) (A15 : A 58 15 = myF (nI y) (N 58 15)) (A16 : A 58 16 = N 58 16) : RDr X A := by
  obtain ⟨h1, h2, h3, h4, h5, h6, h7, h8⟩ := h
  have cc : cn (C 51 6) = c := by rw [hc]; exact nI_clamp (by omega)
  have e6 : X 51 6 = nI (c + 1) := by rw [X51, upd_eq]
  have c6 : cn (X 51 6) = c + 1 := by rw [e6]; exact nI_clamp (by omega)
  have e7 : X 51 7 = C 51 7 := by rw [X51, upd_ne (by decide)]
  have e8 : X 51 8 = C 51 8 := by rw [X51, upd_ne (by decide)]
  have o3 : ∀ t, t < c → X 53 t = C 53 t := fun t ht => by rw [X53, upd_ne (by omega)]
  have n3 : X 53 c = nI (9 * y + x) := by rw [X53, upd_eq]
  have o5 : X 55 = C 55 := Xq 55 (by omega)
  refine ⟨?_, ?_, ?_, ?_, by rw [A16, X3]; exact h5, ?_, ?_, ?_⟩
  · intro j hj; rw [Aq 63 (by omega), Xq 52 (by omega)]; exact h1 j hj
  · refine ⟨by rw [A9, e6], fun t ht => ?_⟩
    rw [c6] at ht
    rw [A64, X53, X54]
    rcases Nat.lt_succ_iff_lt_or_eq.mp ht with q | q
    · have z := h2.2 t (by omega)
      rw [upd_ne (show 2 * t ≠ 2 * c + 1 by omega), upd_ne (show 2 * t ≠ 2 * c by omega), upd_ne (show 2 * t + 1 ≠ 2 * c + 1 by omega), upd_ne (show 2 * t + 1 ≠ 2 * c by omega), upd_ne (show t ≠ c by omega), upd_ne (show t ≠ c by omega)]
      exact z
    · subst q
      rw [upd_ne (show 2 * t ≠ 2 * t + 1 by omega), upd_eq, upd_eq, upd_eq, upd_eq]
      exact ⟨rfl, rfl⟩
  · unfold RDh; rw [A11, Aq 65 (by omega), e7, o5]; exact h3
  · unfold RDn; rw [A13, Aq 66 (by omega), e8, Xq 56 (by omega), Xq 57 (by omega)]; exact h4
  · obtain ⟨X0, Y0, x1, x2, x3, x4, x5, x6, x7, x8⟩ := h6
    rw [cc] at x5
    refine ⟨max x X0, max y Y0, by rw [A14, x1, myF_n hx x3], by rw [A15, x2, myF_n hy x4], by omega, by omega, ?_, ?_, ?_, ?_⟩
    · intro t ht
      rw [c6] at ht
      rcases Nat.lt_succ_iff_lt_or_eq.mp ht with q | q
      · rw [o3 t q]; exact CX_m (x5 t q) (by omega) (by omega)
      · rw [q, n3]; exact ⟨x, y, by omega, by omega, rfl⟩
    · intro t ht
      rw [e7] at ht
      rw [o5]; exact CX_m (x6 t ht) (by omega) (by omega)
    · by_cases q : X0 ≤ x
      · right; left
        exact ⟨c, by rw [c6]; omega, y, hy, by rw [n3, Nat.max_eq_left q]⟩
      · rw [Nat.max_eq_right (by omega)]
        right
        rcases x7.resolve_left (by omega) with ⟨t, ht, z⟩ | ⟨t, ht, z⟩
        · rw [cc] at ht
          left; exact ⟨t, by rw [c6]; omega, by rw [o3 t ht]; exact z⟩
        · right; exact ⟨t, by rw [e7]; exact ht, by rw [o5]; exact z⟩
    · by_cases q : Y0 ≤ y
      · right; left
        exact ⟨c, by rw [c6]; omega, x, hx, by rw [n3, Nat.max_eq_left q]⟩
      · rw [Nat.max_eq_right (by omega)]
        right
        rcases x8.resolve_left (by omega) with ⟨t, ht, z⟩ | ⟨t, ht, z⟩
        · rw [cc] at ht
          left; exact ⟨t, by rw [c6]; omega, by rw [o3 t ht]; exact z⟩
        · right; exact ⟨t, by rw [e7]; exact ht, by rw [o5]; exact z⟩
  · unfold DWr; rw [Xq 52 (by omega)]; exact h7
  · refine ⟨fun t ht => ?_, fun t ht => ?_⟩
    · rw [c6] at ht
      rw [X54]
      rcases Nat.lt_succ_iff_lt_or_eq.mp ht with q | q
      · rw [upd_ne (by omega)]; exact h8.1 t (by omega)
      · rw [q, upd_eq]; exact hp
    · rw [e8] at ht
      rw [Xq 56 (by omega), Xq 57 (by omega)]; exact h8.2 t ht
theorem RDr_hl {C N X A : Mem} {c x y : Nat} (h : RDr C N) (hc : C 51 7 = nI c) (hc6 : c < 3) (hx : x ≤ 8) (hy : y ≤ 8) (X51 : X 51 = upd (C 51) 7 (nI (c + 1))) (X55 : X 55 = upd (C 55) c (nI (9 * y + x))) (Xq : ∀ q, 52 ≤ q → q ≤ 57 → q ≠ 55 → X q = C q) (X3 : X 3 1 = C 3 1) (Aq : ∀ q, q = 63 ∨ q = 64 ∨ q = 66 → A q = N q) (A65 : A 65 = upd (N 65) c (nI (9 * y + x))) (A9 : A 58 9 = N 58 9) (A11 : A 58 11 = nI (c + 1)) (A13 : A 58 13 = N 58 13) (A14 : A 58 14 = myF (nI x) (N 58 14)) (A15 : A 58 15 = myF (nI y) (N 58 15)) (A16 : A 58 16 = N 58 16) : RDr X A := by
  obtain ⟨h1, h2, h3, h4, h5, h6, h7, h8⟩ := h
  have cc : cn (C 51 7) = c := by rw [hc]; exact nI_clamp (by omega)
  have e7 : X 51 7 = nI (c + 1) := by rw [X51, upd_eq]
  have c7 : cn (X 51 7) = c + 1 := by rw [e7]; exact nI_clamp (by omega)
  have e6 : X 51 6 = C 51 6 := by rw [X51, upd_ne (by decide)]
  have e8 : X 51 8 = C 51 8 := by rw [X51, upd_ne (by decide)]
  have o5 : ∀ t, t < c → X 55 t = C 55 t := fun t ht => by rw [X55, upd_ne (by omega)]
  have n5 : X 55 c = nI (9 * y + x) := by rw [X55, upd_eq]
  have o3 : X 53 = C 53 := Xq 53 (by omega) (by omega) (by omega)
  refine ⟨?_, ?_, ?_, ?_, by rw [A16, X3]; exact h5, ?_, ?_, ?_⟩
  · intro j hj; rw [Aq 63 (by omega), Xq 52 (by omega) (by omega) (by omega)]; exact h1 j hj
  · unfold RDt; rw [A9, Aq 64 (by omega), e6, o3, Xq 54 (by omega) (by omega) (by omega)]; exact h2
  · refine ⟨by rw [A11, e7], fun t ht => ?_⟩
    rw [c7] at ht
    rw [A65, X55]
    rcases Nat.lt_succ_iff_lt_or_eq.mp ht with q | q
    · rw [upd_ne (show t ≠ c by omega), upd_ne (show t ≠ c by omega)]
      exact h3.2 t (by omega)
    · subst q
      rw [upd_eq, upd_eq]
  · unfold RDn; rw [A13, Aq 66 (by omega), e8, Xq 56 (by omega) (by omega) (by omega), Xq 57 (by omega) (by omega) (by omega)]; exact h4
  · obtain ⟨X0, Y0, x1, x2, x3, x4, x5, x6, x7, x8⟩ := h6
    rw [cc] at x6
    refine ⟨max x X0, max y Y0, by rw [A14, x1, myF_n hx x3], by rw [A15, x2, myF_n hy x4], by omega, by omega, ?_, ?_, ?_, ?_⟩
    · intro t ht
      rw [e6] at ht
      rw [o3]; exact CX_m (x5 t ht) (by omega) (by omega)
    · intro t ht
      rw [c7] at ht
      rcases Nat.lt_succ_iff_lt_or_eq.mp ht with q | q
      · rw [o5 t q]; exact CX_m (x6 t q) (by omega) (by omega)
      · rw [q, n5]; exact ⟨x, y, by omega, by omega, rfl⟩
    · by_cases q : X0 ≤ x
      · right; right
        exact ⟨c, by rw [c7]; omega, y, hy, by rw [n5, Nat.max_eq_left q]⟩
      · rw [Nat.max_eq_right (by omega)]
        right
        rcases x7.resolve_left (by omega) with ⟨t, ht, z⟩ | ⟨t, ht, z⟩
        · left; exact ⟨t, by rw [e6]; exact ht, by rw [o3]; exact z⟩
        · rw [cc] at ht
          right; exact ⟨t, by rw [c7]; omega, by rw [o5 t ht]; exact z⟩
    · by_cases q : Y0 ≤ y
      · right; right
        exact ⟨c, by rw [c7]; omega, x, hx, by rw [n5, Nat.max_eq_left q]⟩
      · rw [Nat.max_eq_right (by omega)]
        right
        rcases x8.resolve_left (by omega) with ⟨t, ht, z⟩ | ⟨t, ht, z⟩
        · left; exact ⟨t, by rw [e6]; exact ht, by rw [o3]; exact z⟩
        · rw [cc] at ht
          right; exact ⟨t, by rw [c7]; omega, by rw [o5 t ht]; exact z⟩
  · unfold DWr; rw [Xq 52 (by omega) (by omega) (by omega)]; exact h7
  · unfold DWd; rw [e6, e8, Xq 54 (by omega) (by omega) (by omega), Xq 56 (by omega) (by omega) (by omega), Xq 57 (by omega) (by omega) (by omega)]; exact h8
theorem RDr_nt {C N X A : Mem} {c : Nat} {b t : Int32} (h : RDr C N) (hc : C 51 8 = nI c) (hc6 : c < 12) (hb : bt b 0 60) (ht : bt t 0 7) (X51 : X 51 = upd (C 51) 8 (nI (c + 1))) (X56 : X 56 = upd (C 56) c b) (X57 : X 57 = upd (C 57) c t) (Xq : ∀ q, 52 ≤ q → q ≤ 55 → X q = C q) (X3 : X 3 1 = C 3 1) (Aq : ∀ q, 63 ≤ q → q ≤ 65 → A q = N q) (A66 : A 66 = upd (upd (N 66) (2 * c) b) (2 * c + 1) t) (A9 : A 58 9 = N 58 9) (A11 : A 58 11 = N 58 11) (A13 : A 58 13 = nI (c + 1)) (A14 : A 58 14 = N 58 14) (A15 : A 58 15 = N 58 15) (A16 : A 58 16 = N 58 16) : RDr X A := by
  obtain ⟨h1, h2, h3, h4, h5, h6, h7, h8⟩ := h
  have cc : cn (C 51 8) = c := by rw [hc]; exact nI_clamp (by omega)
  have e8 : X 51 8 = nI (c + 1) := by rw [X51, upd_eq]
  have c8 : cn (X 51 8) = c + 1 := by rw [e8]; exact nI_clamp (by omega)
  have e6 : X 51 6 = C 51 6 := by rw [X51, upd_ne (by decide)]
  have e7 : X 51 7 = C 51 7 := by rw [X51, upd_ne (by decide)]
  refine ⟨?_, ?_, ?_, ?_, by rw [A16, X3]; exact h5, ?_, ?_, ?_⟩
  · intro j hj; rw [Aq 63 (by omega) (by omega), Xq 52 (by omega) (by omega)]; exact h1 j hj
  · unfold RDt; rw [A9, Aq 64 (by omega) (by omega), e6, Xq 53 (by omega) (by omega), Xq 54 (by omega) (by omega)]; exact h2
  · unfold RDh; rw [A11, Aq 65 (by omega) (by omega), e7, Xq 55 (by omega) (by omega)]; exact h3
  · refine ⟨by rw [A13, e8], fun i hi => ?_⟩
    rw [c8] at hi
    rw [A66, X56, X57]
    rcases Nat.lt_succ_iff_lt_or_eq.mp hi with q | q
    · have z := h4.2 i (by omega)
      rw [upd_ne (show 2 * i ≠ 2 * c + 1 by omega), upd_ne (show 2 * i ≠ 2 * c by omega), upd_ne (show 2 * i + 1 ≠ 2 * c + 1 by omega), upd_ne (show 2 * i + 1 ≠ 2 * c by omega), upd_ne (show i ≠ c by omega), upd_ne (show i ≠ c by omega)]
      exact z
    · subst q
      rw [upd_ne (show 2 * i ≠ 2 * i + 1 by omega), upd_eq, upd_eq, upd_eq, upd_eq]
      exact ⟨rfl, rfl⟩
  · unfold RDx AX AY at *
    rw [A14, A15, e6, e7, Xq 53 (by omega) (by omega), Xq 55 (by omega) (by omega)]; exact h6
  · unfold DWr; rw [Xq 52 (by omega) (by omega)]; exact h7
  · refine ⟨fun i hi => ?_, fun i hi => ?_⟩
    · rw [e6] at hi
      rw [Xq 54 (by omega) (by omega)]; exact h8.1 i hi
    · rw [c8] at hi
      rw [X56, X57]
      rcases Nat.lt_succ_iff_lt_or_eq.mp hi with q | q
      · rw [upd_ne (by omega), upd_ne (by omega)]; exact h8.2 i (by omega)
      · rw [q, upd_eq, upd_eq]; exact ⟨hb, ht⟩
/-- a fault goes through the rest of a line -/
theorem BRK_b {C X : Mem} {a b : Int32} (h : BRK C X) : BRK C (nuM X a b) := by rw [nu_b h.nz]; exact h
theorem BRK_Q {C X : Mem} {a b : Int32} {q j : Nat} (h : BRK C (nuM X a b)) (hq : q ≠ 58) : BRK C (roQ X a b q j) := BRK_j h (by unfold roQ; rw [updM_ne (Ne.symm hq)]) (by unfold roQ; rw [updM_ne (Ne.symm hq)])
theorem BRK_u {C X : Mem} {j : Nat} {v : Int32} (h : BRK C X) (hj : j < 20) : BRK C (updM X 58 j v) := BRK_j h (by rw [updM_eq, upd_ne (by omega)]) (by rw [updM_eq, upd_ne (by omega)])
theorem rc_j {K : Mem} {q at_ j : Nat} (hq : q ≠ 58) (hj : j ≠ 14) (hj2 : j ≠ 15) : rcM K q at_ 58 j = nuM (nuM K 0 8) 0 8 58 j := by
  unfold rcM rcH
  rw [updM_ne (Ne.symm hq), updM_eq, upd_ne hj2, updM_eq, upd_ne hj]
theorem rc_ne {K : Mem} {q at_ r : Nat} (h1 : r ≠ 58) (h2 : r ≠ q) : rcM K q at_ r = K r := by
  unfold rcM rcH
  rw [updM_ne h2, updM_ne h1, updM_ne h1, nu_ne h1, nu_ne h1]
theorem rc_q {K : Mem} {q at_ : Nat} (hq : q ≠ 58) : rcM K q at_ q = upd (K q) at_ (9 * nuV (nuM K 0 8) 0 8 + nuV K 0 8) := by
  unfold rcM rcH
  rw [updM_eq, updM_ne hq, updM_ne hq, nu_ne hq, nu_ne hq]
theorem rc_14 {K : Mem} {q at_ : Nat} (hq : q ≠ 58) : rcM K q at_ 58 14 = myF (nuV K 0 8) (K 58 14) := by
  unfold rcM rcH
  rw [updM_ne (Ne.symm hq), updM_eq, upd_ne (by decide), updM_eq, upd_eq, nu_j (by decide), nu_j (by decide)]
theorem rc_15 {K : Mem} {q at_ : Nat} (hq : q ≠ 58) : rcM K q at_ 58 15 = myF (nuV (nuM K 0 8) 0 8) (K 58 15) := by
  unfold rcM rcH
  rw [updM_ne (Ne.symm hq), updM_eq, upd_eq, nu_j (by decide), nu_j (by decide)]
theorem BRK_rc {C K : Mem} {q at_ : Nat} (h : BRK C (nuM (nuM K 0 8) 0 8)) (hq : q ≠ 58) : BRK C (rcM K q at_) := BRK_j h (rc_j hq (by decide) (by decide)) (rc_j hq (by decide) (by decide))
theorem LK_j {C N N' : Mem} (h : LK C N) (e : ∀ j, 20 ≤ j → N' 58 j = N 58 j) : LK C N' := by
  unfold LK at *
  rw [e 20 (by decide), e 21 (by decide), e 22 (by decide), e 23 (by decide), e 24 (by decide), e 25 (by decide)]; exact h
theorem se_4 {M : Mem} {n : Nat} (h : ¬ n ≤ 3) : seM M n = M := by unfold seM; rw [if_neg h]
theorem roQ_ne {X : Mem} {a b : Int32} {q j r : Nat} (h : r ≠ q) : roQ X a b q j r = nuM X a b r := by unfold roQ; rw [updM_ne h]
theorem roQ_q {X : Mem} {a b : Int32} {q j : Nat} : roQ X a b q j q = upd (nuM X a b q) j (nuV X a b) := by unfold roQ; rw [updM_eq]
