/-! 87: land: any line on both sides; what stays -/
theorem lnI_cg {p q : Nat → Bool} (h : ∀ i, i < 7 → p i = q i) : ∀ k i, i + k ≤ 7 → lnI p k i = lnI q k i
  | 0, _, _ => rfl
  | k + 1, i, hi => by
    unfold lnI
    rw [h i (by omega), lnI_cg h k (i + 1) (by omega)]
theorem nm_sim {C N : Mem} (hT : TI C) (hB : TBr C N) (h24 : N 58 24 = if kM C = 4 then 0 else kM C) : lnI (nmB (N 67) (sM C) (eM C) (N 58 24)) 7 0 = lnF (rt C) := by
  have he := eM_b hT
  have hb := hT.2.2.2
  have e4 : cn (rt C 1 4) = sM C := by rw [rt_4]; exact nI_clamp (by omega)
  have e1 : cn (rt C 1 1) = eM C := by rw [rt_1]; exact nI_clamp (by omega)
  show _ = lnI (nmB (rt C 2) (cn (rt C 1 4)) (cn (rt C 1 1)) (rt C 1 3)) 7 0
  rw [e4, e1, rt_3, rt_ne (by decide)]
  refine lnI_cg (fun i hi => ?_) 7 0 (by decide)
  refine decide_eq_decide.mpr ?_
  have hk : N 58 24 = 1 ↔ kM C = 1 := by
    rw [h24]
    by_cases z : kM C = 4
    · rw [if_pos z, z]; decide
    · rw [if_neg z]
  constructor
  · rintro ⟨a, b, c⟩
    refine ⟨hk.mp a, b, fun j hj => ?_⟩
    have hq := hB.2 (sM C + j) (by omega)
    exact (by_ch hq.2 ⟨(chV_c i hi j hj).2.2.1, (chV_c i hi j hj).2.2.2⟩).mp (hq.1 ▸ c j hj)
  · rintro ⟨a, b, c⟩
    refine ⟨hk.mpr a, b, fun j hj => ?_⟩
    have hq := hB.2 (sM C + j) (by omega)
    rw [hq.1]
    exact (by_ch hq.2 ⟨(chV_c i hi j hj).2.2.1, (chV_c i hi j hj).2.2.2⟩).mpr (c j hj)
/-- only lines that stand once have been seen -/
def SEn (C : Mem) : Prop := (∃ m, m < 16 ∧ C 3 1 = nI m) ∧ C 3 3 = 0
theorem se_or : ∀ m, m < 16 → ∀ n, n < 4 → ∃ m', m' < 16 ∧ nI m ||| (1 <<< (nI n &&& 31)) = nI m' := by decide +kernel
theorem se_hi : ∀ m, m < 16 → ∀ n, n < 7 → 4 ≤ n → (nI m >>> (nI n &&& 31)) &&& 1 = 0 := by decide +kernel
theorem ln_again {C N : Mem} {n : Nat} (h20 : N 58 20 = 0) (h23 : N 58 23 = nI (sM C)) (h16 : N 58 16 = rt C 3 1) (hs : ¬ (rt C 3 1 >>> (nI n &&& 31)) &&& 1 = 0) : BRK (rf (rt C) 4 (rt C 1 4)) (rlT (roM N n)) := by
  have e1 : ro1 N n = flM N 4 := by unfold ro1; rw [if_pos (by rw [h16]; exact and_1 hs)]
  have k1 : BRK (rf (rt C) 4 (rt C 1 4)) (flM N 4) := by
    rw [flM_0 h20]
    exact ⟨by show (0 : Int32) < 4; decide, rfl, by show N 58 23 = rt C 1 4; rw [rt_4, h23]⟩
  have k2 : BRK (rf (rt C) 4 (rt C 1 4)) (ro2 N n) := by
    have z : BRK (rf (rt C) 4 (rt C 1 4)) (updM (flM N 4) 58 16 (flM N 4 58 16 ||| (1 <<< (nI n &&& 31)))) := BRK_u k1 (by decide)
    unfold ro2
    rw [e1, stM_1 z.nz]; exact z
  have k3 : BRK (rf (rt C) 4 (rt C 1 4)) (roM N n) := by
    unfold roM
    split
    · exact BRK_P (BRK_b (BRK_P (BRK_b k2)))
    · split
      · exact BRK_P (BRK_b (BRK_P (BRK_b k2)))
      · exact BRK_P (BRK_b k2)
  rw [rlT_b k3.nz]; exact k3
theorem ln_full {C N : Mem} (h20 : N 58 20 = 0) (h23 : N 58 23 = nI (sM C)) : BRK (rf (rt C) 5 (rt C 1 4)) (rlT (flM N 5)) := by
  have k1 : BRK (rf (rt C) 5 (rt C 1 4)) (flM N 5) := by
    rw [flM_0 h20]
    exact ⟨by show (0 : Int32) < 5; decide, rfl, by show N 58 23 = rt C 1 4; rw [rt_4, h23]⟩
  rw [rlT_b k1.nz]; exact k1
theorem rl_0 {N : Mem} : rlM N (nI 0) = rlT (roM N 0) := by unfold rlM; rw [if_neg (by decide), if_pos (by decide)]; rfl
theorem rl_1 {N : Mem} : rlM N (nI 1) = rlT (roM N 1) := by unfold rlM; rw [if_neg (by decide), if_pos (by decide)]; rfl
theorem rl_2 {N : Mem} : rlM N (nI 2) = rlT (roM N 2) := by unfold rlM; rw [if_neg (by decide), if_pos (by decide)]; rfl
theorem rl_3 {N : Mem} : rlM N (nI 3) = rlT (roM N 3) := by unfold rlM; rw [if_neg (by decide), if_pos (by decide)]; rfl
theorem rl_f {N : Mem} {n : Int32} (h1 : ¬ n = -4) (h2 : ¬ n ≤ 3) (h : (n = 4 ∧ N 58 9 = 6) ∨ (n = 5 ∧ N 58 11 = 3) ∨ (n = 6 ∧ N 58 13 = 12)) : rlM N n = rlT (flM N 5) := by unfold rlM; rw [if_neg h1, if_neg h2, if_pos h]
theorem rl_4 {N : Mem} (h : ¬ N 58 9 = 6) : rlM N (nI 4) = rlT (rlA N (cn (N 58 9))) := by
  unfold rlM
  rw [if_neg (by decide), if_neg (by decide), if_neg, if_pos (by decide)]
  rintro (z | z | z)
  · exact h z.2
  · exact absurd z.1 (by decide)
  · exact absurd z.1 (by decide)
theorem rl_5 {N : Mem} (h : ¬ N 58 11 = 3) : rlM N (nI 5) = rlT (rlB N (cn (N 58 11))) := by
  unfold rlM
  rw [if_neg (by decide), if_neg (by decide), if_neg, if_neg (by decide), if_pos (by decide)]
  rintro (z | z | z)
  · exact absurd z.1 (by decide)
  · exact h z.2
  · exact absurd z.1 (by decide)
theorem rl_6 {N : Mem} (h : ¬ N 58 13 = 12) : rlM N (nI 6) = rlT (rlC N (cn (N 58 13))) := by
  unfold rlM
  rw [if_neg (by decide), if_neg (by decide), if_neg, if_neg (by decide), if_neg (by decide)]
  rintro (z | z | z)
  · exact absurd z.1 (by decide)
  · exact absurd z.1 (by decide)
  · exact h z.2
theorem line_sim {C N : Mem} (hT : TI C) (hD : DI C) (hS : SEn C) (hB : TBr C N) (hL : LK C N) (h0 : ¬ kM C = 0) (hR : RDr C N) : LRr (tlX (rt C)) (rlM N (lnF (rt C))) := by
  obtain ⟨-, h20, h22, h23, h24, -⟩ := hL.resolve_left (fun z => h0 z.1)
  by_cases a : lnF (rt C) < 0
  · have e : lnF (rt C) = -4 := by
      rcases lnI_r (p := nmB (rt C 2) (cn (rt C 1 4)) (cn (rt C 1 1)) (rt C 1 3)) 7 0 with z | ⟨n, -, z2, z3, -⟩
      · exact z
      · rw [show lnF (rt C) = nI n from z3] at a
        exact absurd a (nI_pos (by omega))
    rw [tlX_a a]
    right
    refine ⟨rfl, ?_⟩
    unfold rlM
    rw [if_pos e]
    exact mp_sim hL (fun _ => h0)
  · obtain ⟨n, hln⟩ : ∃ n, cn (lnF (rt C)) = n := ⟨_, rfl⟩
    obtain ⟨hn1, hn2⟩ := lnF_n a
    rw [hln] at hn1 hn2
    have h16 : N 58 16 = rt C 3 1 := by rw [rt_ne (by decide)]; exact hR.2.2.2.2.1
    have e51 : rt C 51 = C 51 := rt_ne (by decide)
    have c9 : N 58 9 = C 51 6 := hR.2.1.1
    have c11 : N 58 11 = C 51 7 := hR.2.2.1.1
    have c13 : N 58 13 = C 51 8 := hR.2.2.2.1.1
    by_cases b : (rt C 3 1 >>> (lnF (rt C) &&& 31)) &&& 1 = 0
    · by_cases c : fuP (rt C) (cn (lnF (rt C)))
      · rw [tlX_c a b c]
        right
        refine ⟨rfl, ?_⟩
        rw [hln] at c
        unfold fuP at c
        rw [e51] at c
        rw [hn1, rl_f]
        · exact ln_full h20 h23
        · intro z; rw [z] at hn1; rw [hn1] at a; exact a (by decide)
        · intro z
          have : nI n ≤ nI 3 := z
          exact nI_ge (show 3 < n by omega) (by omega) this
        · rcases c with z | z | z
          · left; refine ⟨by rw [z.1]; rfl, ?_⟩
            rw [c9, hD.1.1]
            have q : 6 ≤ cn (C 51 6) := Nat.not_lt.mp (fun y => nI_ge (b := 6) y (by decide) (by rw [← hD.1.1]; exact z.2))
            rw [show cn (C 51 6) = 6 by have := hD.1.2; omega]; rfl
          · right; left; refine ⟨by rw [z.1]; rfl, ?_⟩
            rw [c11, hD.2.1.1]
            have q : 3 ≤ cn (C 51 7) := Nat.not_lt.mp (fun y => nI_ge (b := 3) y (by decide) (by rw [← hD.2.1.1]; exact z.2))
            rw [show cn (C 51 7) = 3 by have := hD.2.1.2; omega]; rfl
          · right; right; refine ⟨by rw [z.1]; rfl, ?_⟩
            rw [c13, hD.2.2.1]
            have q : 12 ≤ cn (C 51 8) := Nat.not_lt.mp (fun y => nI_ge (b := 12) y (by decide) (by rw [← hD.2.2.1]; exact z.2))
            rw [show cn (C 51 8) = 12 by have := hD.2.2.2; omega]; rfl
      · rw [tlX_d a b c]
        rw [hln] at c ⊢
        rw [hn1] at b ⊢
        have hg := nfu (DI_c hD e51) c
        rw [e51] at hg
        match n, hn2 with
        | 0, _ => rw [rl_0]; exact ln_0 hT hB h20 h22 h23 hR b
        | 1, _ => rw [rl_1]; exact ln_1 hT hB h20 h22 h23 hR b
        | 2, _ => rw [rl_2]; exact ln_2 hT hB h20 h22 h23 hR b
        | 3, _ => rw [rl_3]; exact ln_3 hT hB h20 h22 h23 hR b
        | 4, _ =>
          have hl := hg.1 rfl
          rw [rl_4 (by rw [c9, hD.1.1]; intro z; have := nI_inj (b := 6) z (by omega) (by omega); omega), c9]
          exact ln_4 hT hB h20 h22 hR hD.1.1 hl
        | 5, _ =>
          have hl := hg.2.1 rfl
          rw [rl_5 (by rw [c11, hD.2.1.1]; intro z; have := nI_inj (b := 3) z (by omega) (by omega); omega), c11]
          exact ln_5 hT hB h20 h22 hR hD.2.1.1 hl
        | 6, _ =>
          have hl := hg.2.2 rfl
          rw [rl_6 (by rw [c13, hD.2.2.1]; intro z; have := nI_inj (b := 12) z (by omega) (by omega); omega), c13]
          exact ln_6 hT hB h20 h22 hR hD.2.2.1 hl
    · rw [tlX_b a b]
      right
      refine ⟨rfl, ?_⟩
      rw [hn1] at b ⊢
      have hn4 : n < 4 := by
        refine Nat.not_le.mp (fun z => b ?_)
        obtain ⟨⟨m, hm, em⟩, -⟩ := hS
        rw [rt_ne (by decide), em]
        exact se_hi m hm n hn2 z
      match n, hn4 with
      | 0, _ => rw [rl_0]; exact ln_again h20 h23 h16 b
      | 1, _ => rw [rl_1]; exact ln_again h20 h23 h16 b
      | 2, _ => rw [rl_2]; exact ln_again h20 h23 h16 b
      | 3, _ => rw [rl_3]; exact ln_again h20 h23 h16 b
/-- what a line of the class keeps -/
theorem tnM_y {M : Mem} {n k : Nat} (h : tnQ M n k) : tnM M n k = updM (rt M) 4 k (rt M 1 5) := by unfold tnM; rw [if_pos h.1, if_pos h.2]
theorem tnR_3 {n : Nat} : ∀ (c k : Nat) (M : Mem), (tnR M n c k).1 = true → (tnR M n c k).2 3 = M 3
  | 0, _, _, _ => rfl
  | c + 1, k, M, h => by
    by_cases z : tnQ M n k
    · rw [tnR_y z] at h ⊢
      rw [tnR_3 c (k + 1) _ h, tnM_y z, updM_ne (by decide), rt_ne (by decide)]
    · rw [tnR_n z] at h
      exact absurd (show false = true from h) (by decide)
theorem tnR_tI {n : Nat} : ∀ (c k : Nat) (M : Mem), TI M → tI M ≤ tI (tnR M n c k).2
  | 0, _, _, _ => Nat.le_refl _
  | c + 1, k, M, h => by
    have e : tI (tnM M n k) = tI (rt M) := by unfold tI; rw [tnM_ne (by decide) (by decide)]
    have l : tI M ≤ tI (tnM M n k) := by
      rw [e, rt_tI h]
      have := sM_b h
      have := eM_b h
      omega
    by_cases z : tnQ M n k
    · rw [tnR_y z]
      exact Nat.le_trans l (tnR_tI c (k + 1) _ (tnM_TI h))
    · rw [tnR_n z]; exact l
theorem tlX_ok {C : Mem} (h : TI C) (hS : SEn C) (h1 : (tlX C).1 = 1) : SEn (tlX C).2 ∧ tI C ≤ tI (tlX C).2 := by
  by_cases a : lnF C < 0
  · rw [tlX_a a] at h1; exact absurd (show (0 : Int32) = 1 from h1) (by decide)
  · by_cases b : (C 3 1 >>> (lnF C &&& 31)) &&& 1 = 0
    · by_cases c : fuP C (cn (lnF C))
      · rw [tlX_c a b c] at h1; exact absurd (show (0 : Int32) = 1 from h1) (by decide)
      · rw [tlX_d a b c] at h1 ⊢
        have hn := (lnF_n a).2
        generalize cn (lnF C) = n at h1 hn
        obtain ⟨r, N, hr⟩ : ∃ r N, tnR C n (ntab n) 0 = (r, N) := ⟨_, _, rfl⟩
        cases r with
        | false => rw [tlR_f hr] at h1; exact absurd (show (0 : Int32) = 1 from h1) (by decide)
        | true =>
          by_cases z : rt N 1 3 = 3
          · rw [tlR_t hr z]
            have e3 : N 3 = C 3 := by have := tnR_3 (n := n) (ntab n) 0 C; rw [hr] at this; exact this rfl
            have l := tnR_tI (n := n) (ntab n) 0 C h
            have hT := tnR_TI (n := n) (ntab n) 0 C h
            rw [hr] at l hT
            have hT : TI N := hT
            constructor
            · show SEn (wrM (seM (rt N) n) n)
              unfold SEn
              rw [wrM_lo (by decide)]
              obtain ⟨⟨m, hm, em⟩, e0⟩ := hS
              by_cases q : n ≤ 3
              · unfold seM
                rw [if_pos q, updM_eq, upd_eq, upd_ne (show (3 : Nat) ≠ 1 by decide), rt_ne (by decide), e3, em]
                exact ⟨se_or m hm n (by omega), e0⟩
              · rw [se_4 q, rt_ne (by decide), e3]
                exact ⟨⟨m, hm, em⟩, e0⟩
            · show tI C ≤ cn (wrM (seM (rt N) n) n 1 1)
              rw [wrM_lo (by decide), seM_ne (by decide)]
              show tI C ≤ tI (rt N)
              rw [rt_tI hT]
              exact Nat.le_trans (show tI C ≤ tI N from l) (Nat.le_trans (sM_b hT).1 (eM_b hT).1)
          · rw [tlR_m hr z] at h1; exact absurd (show (0 : Int32) = 1 from h1) (by decide)
    · rw [tlX_b a b] at h1; exact absurd (show (0 : Int32) = 1 from h1) (by decide)
/-- rows that a text leaves -/
def Fq (q : Nat) : Prop := q ≠ 1 ∧ q ≠ 3 ∧ q ≠ 4 ∧ (q < 51 ∨ 57 < q)
theorem wrM_hi {M : Mem} {q : Nat} (hq : 57 < q) : ∀ n, wrM M n q = M q
  | 0 => by rw [wr_0, updM_ne (by omega), updM_ne (by omega)]
  | 1 => by rw [wr_1, updM_ne (by omega)]
  | 2 => by rw [wr_2, updM_ne (by omega)]
  | 3 => by rw [wr_3, updM_ne (by omega), updM_ne (by omega)]
  | 4 => by rw [wr_4]; unfold atD; rw [updM_ne (by omega), updM_ne (by omega), updM_ne (by omega)]
  | 5 => by rw [wr_5]; unfold ahD; rw [updM_ne (by omega), updM_ne (by omega)]
  | n + 6 => by show anD M _ _ _ q = _; unfold anD; rw [updM_ne (by omega), updM_ne (by omega), updM_ne (by omega)]
theorem tlR_q {M : Mem} {n q : Nat} (h : Fq q) : (tlR M n).2 q = M q := by
  obtain ⟨h1, h3, h4, h5⟩ := h
  have hr := tnR_ne (n := n) h1 h3 h4 (ntab n) 0 M
  unfold tlR
  split
  · split
    · show wrM _ n q = _
      have e : wrM (seM (rt (tnR M n (ntab n) 0).2) n) n q = seM (rt (tnR M n (ntab n) 0).2) n q := by
        rcases h5 with z | z
        · exact wrM_lo z n
        · exact wrM_hi z n
      rw [e, seM_ne h3, rt_ne h1]; exact hr
    · show mpM _ q = _
      rw [mpM_ne h3, rt_ne h1]; exact hr
  · exact hr
theorem tlX_q {M : Mem} {q : Nat} (h : Fq q) : (tlX M).2 q = M q := by
  by_cases a : lnF M < 0
  · rw [tlX_a a]; exact mpM_ne h.2.1
  · by_cases b : (M 3 1 >>> (lnF M &&& 31)) &&& 1 = 0
    · by_cases c : fuP M (cn (lnF M))
      · rw [tlX_c a b c]; exact rf_ne h.2.1
      · rw [tlX_d a b c]; exact tlR_q h
    · rw [tlX_b a b]; exact rf_ne h.2.1
theorem teR_q {q : Nat} (h : Fq q) : ∀ (c n : Nat) (M : Mem), (teR c n M).2 q = M q
  | 0, _, _ => rf_ne h.2.1
  | c + 1, n, M => by
    unfold teR
    split
    · split
      · exact rt_ne h.1
      · show rf _ _ _ q = _
        rw [rf_ne h.2.1, rt_ne h.1]
    · split
      · show (tlX (rt M)).2 q = _
        rw [tlX_q h, rt_ne h.1]
      · rw [teR_q h c (n + 1) _, tlX_q h, rt_ne h.1]
theorem te_q {C : Mem} {q : Nat} (h : Fq q) : (te (clD C)).2 q = C q := by
  unfold te
  rw [teR_q h]
  unfold te0 clD
  obtain ⟨h1, h3, h4, h5⟩ := h
  rw [updM_ne h1, updM_ne h3, updM_ne h3, updM_ne (by omega), updM_ne (by omega), updM_ne (by omega), updM_ne (by omega), updM_ne (by omega), updM_ne (by omega), updM_ne (by omega), updM_ne (by omega), updM_ne (by omega)]
/-- the text's length stays -/
theorem tnR_12 {n : Nat} : ∀ (c k : Nat) (M : Mem), (tnR M n c k).2 1 2 = M 1 2
  | 0, _, _ => rfl
  | c + 1, k, M => by
    have e : tnM M n k 1 2 = M 1 2 := by rw [tnM_ne (by decide) (by decide)]; exact rt_2
    by_cases z : tnQ M n k
    · rw [tnR_y z, tnR_12 c (k + 1) _, e]
    · rw [tnR_n z]; exact e
theorem tlR_12 {M : Mem} {n : Nat} : (tlR M n).2 1 2 = M 1 2 := by
  obtain ⟨r, N, hr⟩ : ∃ r N, tnR M n (ntab n) 0 = (r, N) := ⟨_, _, rfl⟩
  have h12 : N 1 2 = M 1 2 := by have := tnR_12 (n := n) (ntab n) 0 M; rw [hr] at this; exact this
  cases r with
  | false => rw [tlR_f hr]; exact h12
  | true =>
    by_cases z : rt N 1 3 = 3
    · have e : wrM (seM (rt N) n) n 1 2 = N 1 2 := by rw [wrM_lo (by decide), seM_ne (by decide), rt_2]
      rw [tlR_t hr z]; exact e.trans h12
    · have e : mpM (rt N) 1 2 = N 1 2 := by rw [mpM_ne (by decide), rt_2]
      rw [tlR_m hr z]; exact e.trans h12
theorem tlX_12 {M : Mem} : (tlX M).2 1 2 = M 1 2 := by
  have e1 : mpM M 1 2 = M 1 2 := by rw [mpM_ne (by decide)]
  have e2 : ∀ c p, rf M c p 1 2 = M 1 2 := fun c p => by rw [rf_ne (by decide)]
  by_cases a : lnF M < 0
  · rw [tlX_a a]; exact e1
  · by_cases b : (M 3 1 >>> (lnF M &&& 31)) &&& 1 = 0
    · by_cases c : fuP M (cn (lnF M))
      · rw [tlX_c a b c]; exact e2 5 (M 1 4)
      · rw [tlX_d a b c]; exact tlR_12
    · rw [tlX_b a b]; exact e2 4 (M 1 4)
theorem rlT_RU {N : Mem} (h : RU N) : RU (rlT N) := by
  unfold rlT
  split
  · exact stM_RU (flM_RU h (by decide))
  · exact stM_RU h
theorem rl_RU {N : Mem} {n : Int32} (h : RU N) : RU (rlM N n) := by
  unfold rlM
  split
  · exact flM_RU h (by decide)
  · refine rlT_RU ?_
    split
    · exact roM_RU h
    · split
      · exact flM_RU h (by decide)
      · split
        · exact RU_s (roQ_RU (rcM_RU (stM_RU h) (Or.inl rfl)) (Or.inl rfl)) (by decide) (by decide) (by decide)
        · split
          · exact RU_s (rcM_RU (stM_RU h) (Or.inr rfl)) (by decide) (by decide) (by decide)
          · exact RU_s (roQ_RU (roQ_RU (stM_RU h) (Or.inr rfl)) (Or.inr rfl)) (by decide) (by decide) (by decide)
