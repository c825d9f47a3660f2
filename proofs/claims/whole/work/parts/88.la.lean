/-! 88: land: what holds behind it -/
theorem IV_rows {C C' M N : Mem} (h : IV C M) (hc : ∀ q, 5 ≤ q → q ≤ 50 → C' q = C q) (hn : ∀ q, 59 ≤ q → (q < 63 ∨ 67 < q) → N q = M q) (h58 : ∀ j, j = 3 ∨ j = 5 ∨ j = 6 → N 58 j = M 58 j) (ht : IVt C' N) (hf : IVf C' N) : IV C' N := by
  obtain ⟨hl, hb, ⟨hi0, hi1⟩, -, -, ⟨s0, s1, s2, s3⟩, hk⟩ := h
  have n59 := hn 59 (by decide) (by omega)
  have n60 := hn 60 (by decide) (by omega)
  have n61 := hn 61 (by decide) (by omega)
  have n62 := hn 62 (by decide) (by omega)
  have n75 := hn 75 (by decide) (by omega)
  have n76 := hn 76 (by decide) (by omega)
  have n77 := hn 77 (by decide) (by omega)
  have n78 := hn 78 (by decide) (by omega)
  have n68 := hn 68 (by decide) (by omega)
  have n69 := hn 69 (by decide) (by omega)
  have k3 := h58 3 (by omega)
  have k5 := h58 5 (by omega)
  have k6 := h58 6 (by omega)
  refine ⟨?_, ?_, ⟨?_, ?_⟩, ht, hf, ⟨?_, ?_, ?_, ?_⟩, ?_⟩
  · unfold IVl at *
    rw [hc 44 (by decide) (by decide), hc 45 (by decide) (by decide), hc 46 (by decide) (by decide), hc 47 (by decide) (by decide), hc 48 (by decide) (by decide), hc 49 (by decide) (by decide), hc 50 (by decide) (by decide), n59, n60, n61, n62, k3, k5, k6]
    exact hl
  · unfold IVb at *
    rw [hc 5 (by decide) (by decide), hc 6 (by decide) (by decide), hc 7 (by decide) (by decide), hc 8 (by decide) (by decide), hc 9 (by decide) (by decide), n59]
    exact hb
  · unfold IVi at *
    rw [hc 44 (by decide) (by decide), hc 17 (by decide) (by decide), hc (17 + 1) (by decide) (by decide), hc (17 + 2) (by decide) (by decide), hc (17 + 3) (by decide) (by decide), hc (17 + 4) (by decide) (by decide), hc (17 + 5) (by decide) (by decide), hc (17 + 6) (by decide) (by decide), hc (17 + 7) (by decide) (by decide), n59, n75, k6]
    exact hi0
  · unfold IVi at *
    rw [hc 44 (by decide) (by decide), hc 25 (by decide) (by decide), hc (25 + 1) (by decide) (by decide), hc (25 + 2) (by decide) (by decide), hc (25 + 3) (by decide) (by decide), hc (25 + 4) (by decide) (by decide), hc (25 + 5) (by decide) (by decide), hc (25 + 6) (by decide) (by decide), hc (25 + 7) (by decide) (by decide), n59, n75, k6]
    exact hi1
  · unfold IVs at *; rw [hc 34 (by decide) (by decide), hc (34 + 1) (by decide) (by decide), n76, n77, n78]; exact s0
  · unfold IVs at *; rw [hc 36 (by decide) (by decide), hc (36 + 1) (by decide) (by decide), n76, n77, n78]; exact s1
  · unfold IVs at *; rw [hc 38 (by decide) (by decide), hc (38 + 1) (by decide) (by decide), n76, n77, n78]; exact s2
  · unfold IVs at *; rw [hc 40 (by decide) (by decide), hc (40 + 1) (by decide) (by decide), n76, n77, n78]; exact s3
  · unfold IVk at *; rw [n68, n69]; exact hk
theorem WF_rows {C C' : Mem} (h : WF C) (hc : ∀ q, 5 ≤ q → q ≤ 50 → C' q = C q) (hp : WP C') : WF C' := by
  obtain ⟨hl, hb, ⟨hi0, hi1⟩, -, s0, s1, s2, s3⟩ := h
  refine ⟨?_, ?_, ⟨?_, ?_⟩, hp, ?_, ?_, ?_, ?_⟩
  · unfold WL hcF at *
    rw [hc 44 (by decide) (by decide), hc 45 (by decide) (by decide), hc 46 (by decide) (by decide), hc 47 (by decide) (by decide), hc 48 (by decide) (by decide), hc 49 (by decide) (by decide), hc 50 (by decide) (by decide)]
    exact hl
  · unfold WB at *
    rw [hc 5 (by decide) (by decide), hc 6 (by decide) (by decide), hc 7 (by decide) (by decide), hc 8 (by decide) (by decide), hc 9 (by decide) (by decide), hc 44 (by decide) (by decide)]
    exact hb
  · unfold WI hcF at *
    rw [hc 44 (by decide) (by decide), hc 45 (by decide) (by decide), hc 17 (by decide) (by decide), hc (17 + 1) (by decide) (by decide), hc (17 + 2) (by decide) (by decide), hc (17 + 3) (by decide) (by decide), hc (17 + 4) (by decide) (by decide), hc (17 + 5) (by decide) (by decide), hc (17 + 6) (by decide) (by decide), hc (17 + 7) (by decide) (by decide)]
    exact hi0
  · unfold WI hcF at *
    rw [hc 44 (by decide) (by decide), hc 45 (by decide) (by decide), hc 25 (by decide) (by decide), hc (25 + 1) (by decide) (by decide), hc (25 + 2) (by decide) (by decide), hc (25 + 3) (by decide) (by decide), hc (25 + 4) (by decide) (by decide), hc (25 + 5) (by decide) (by decide), hc (25 + 6) (by decide) (by decide), hc (25 + 7) (by decide) (by decide)]
    exact hi1
  · unfold WS at *; rw [hc 34 (by decide) (by decide)]; exact s0
  · unfold WS at *; rw [hc 36 (by decide) (by decide)]; exact s1
  · unfold WS at *; rw [hc 38 (by decide) (by decide)]; exact s2
  · unfold WS at *; rw [hc 40 (by decide) (by decide)]; exact s3
theorem la_q {C : Mem} {q : Nat} (h : Fq q) (h0 : q ≠ 0) : laM C q = C q := by
  unfold laM
  rw [updM_ne h0, updM_ne h.1, te_q h]
theorem la_2 {C : Mem} : laM C 2 = C 2 := la_q ⟨by decide, by decide, by decide, by omega⟩ (by decide)
theorem la_11 {C : Mem} : laM C 0 11 = C 0 11 := by
  unfold laM
  rw [updM_eq, upd_ne (by decide), updM_ne (by decide), te_q ⟨by decide, by decide, by decide, by omega⟩]
/-- the reference ahead of its first token -/
def inM (M : Mem) : Mem := updM (updM (updM (updM (updM (updM (updM (updM (updM (updM (updM (updM (updM (updM M 58 20 0) 58 22 0) 58 16 0) 58 9 0) 58 11 0) 58 13 0) 58 14 0) 58 15 0) 63 0 9) 63 1 9) 63 2 2) 63 3 3) 63 4 1) 63 5 1
theorem in_FR {M : Mem} : FRn M (inM M) := by
  unfold inM
  exact (((((((((((((FRn_u (by unfold Kj; omega)).tr (FRn_u (by unfold Kj; omega))).tr (FRn_u (by unfold Kj; omega))).tr (FRn_u (by unfold Kj; omega))).tr (FRn_u (by unfold Kj; omega))).tr (FRn_u (by unfold Kj; omega))).tr (FRn_u (by unfold Kj; omega))).tr (FRn_u (by unfold Kj; omega))).tr (FRn_v (by omega))).tr (FRn_v (by omega))).tr (FRn_v (by omega))).tr (FRn_v (by omega))).tr (FRn_v (by omega))).tr (FRn_v (by omega))
theorem in_TBr {C M : Mem} (h : RF C M) : TBr (te0 (clD C)) (inM M) := by
  have e1 : te0 (clD C) 1 2 = C 1 2 := rfl
  have e2 : te0 (clD C) 2 = C 2 := rfl
  have e3 : inM M 58 18 = M 58 18 := rfl
  have e4 : inM M 67 = M 67 := rfl
  unfold TBr tL
  rw [e1, e2, e3, e4]
  refine ⟨h.2.2.2.2.1.1, fun k hk => ⟨h.2.2.2.2.1.2 k hk, byQ_a (h.1.2.2.2.1.2 k ?_)⟩⟩
  have := (cn_of h.1.2.2.2.1.1).2.2
  omega
theorem in_TI {C M : Mem} (h : RF C M) : TI (te0 (clD C)) := by
  have hz := cn_of h.1.2.2.2.1.1
  exact te0_TI (M := clD C) hz.1 (by show cn (C 1 2) ≤ 320; omega)
theorem in_RU {C M : Mem} (h : RF C M) : RU (inM M) := by
  have hz := cn_of h.1.2.2.2.1.1
  have ht := in_TBr h
  have e3 : inM M 58 18 = C 1 2 := h.2.2.2.2.1.1
  have eL : uL (inM M) = cn (C 1 2) := by unfold uL; rw [e3]
  have eI : uI (inM M) = 0 := rfl
  refine ⟨⟨rfl, by rw [eL, e3]; exact hz.1, by rw [eI]; exact Nat.zero_le _, by rw [eL]; omega⟩, Or.inl rfl, fun k hk => ?_⟩
  rw [eL] at hk
  have q := ht.2 k hk
  rw [q.1]; exact q.2.1
theorem in_RDr {C M : Mem} : RDr (te0 (clD C)) (inM M) := by
  have z6 : te0 (clD C) 51 6 = 0 := rfl
  have z7 : te0 (clD C) 51 7 = 0 := rfl
  have z8 : te0 (clD C) 51 8 = 0 := rfl
  have c6 : cn (te0 (clD C) 51 6) = 0 := by rw [z6]; rfl
  have c7 : cn (te0 (clD C) 51 7) = 0 := by rw [z7]; rfl
  have c8 : cn (te0 (clD C) 51 8) = 0 := by rw [z8]; rfl
  refine ⟨fun j hj => ?_, ⟨rfl, fun t ht => ?_⟩, ⟨rfl, fun t ht => ?_⟩, ⟨rfl, fun t ht => ?_⟩, rfl, ⟨0, 0, rfl, rfl, by decide, by decide, fun t ht => ?_, fun t ht => ?_, Or.inl rfl, Or.inl rfl⟩, ?_, fun t ht => ?_, fun t ht => ?_⟩
  · match j, hj with
    | 0, _ => rfl
    | 1, _ => rfl
    | 2, _ => rfl
    | 3, _ => rfl
    | 4, _ => rfl
    | 5, _ => rfl
  · omega
  · omega
  · omega
  · omega
  · omega
  · exact ⟨show bt 9 1 9 from ⟨by decide, by decide⟩, show bt 9 1 9 from ⟨by decide, by decide⟩, show bt 2 1 9 from ⟨by decide, by decide⟩, show bt 3 1 9 from ⟨by decide, by decide⟩, show bt 1 0 2 from ⟨by decide, by decide⟩, show bt 1 0 2 from ⟨by decide, by decide⟩⟩
  · omega
  · omega
/-- the reference while lines are read; behind a fault -/
def Lv (C M : Mem) (n : Nat) (X : Mem) : Prop := RU X ∧ FRn M X ∧ ∃ K, n ≤ tI K ∧ TI K ∧ DI K ∧ SEn K ∧ TBr K X ∧ LK K X ∧ RDr K X ∧ te (clD C) = teR (321 - n) n K
def Fdd (C M X : Mem) : Prop := FRn M X ∧ 0 < X 58 20 ∧ ∃ K, te (clD C) = (-10 - X 58 21, K) ∧ K 3 3 = X 58 20
theorem Lv_0 {C M : Mem} (h : RF C M) : Lv C M 0 (stM (inM M)) := by
  refine ⟨stM_RU (in_RU h), in_FR.tr FRn_st, te0 (clD C), Nat.zero_le _, in_TI h, DI_c (clD_DI (M := C)) rfl, ⟨⟨0, by decide, rfl⟩, rfl⟩, ?_, st_sim (in_TI h) (in_TBr h) rfl rfl, RDr_st in_RDr, rfl⟩
  exact TBr_c (in_TBr h) rfl rfl (st_j (by decide)) (st_ne (by decide))
theorem k4 {K : Mem} : kM K = 4 ↔ tL K ≤ sM K := by
  unfold kM tkK
  by_cases a : tL K ≤ sM K
  · rw [if_pos a]; exact ⟨fun _ => a, fun _ => rfl⟩
  · rw [if_neg a]
    refine ⟨fun z => absurd z ?_, fun z => absurd z a⟩
    split
    · decide
    · split
      · split <;> decide
      · split <;> decide
theorem Lv_s {C M X : Mem} {n : Nat} {K : Mem} (hU : RU X) (hF : FRn M X) (hn : n ≤ tI K) (hT : TI K) (hD : DI K) (hS : SEn K) (hB : TBr K X) (hL : LK K X) (hR : RDr K X) (he : te (clD C) = teR (321 - n) n K) (h20 : X 58 20 = 0) (h24 : ¬ X 58 24 = 0) : (Lv C M (n + 1) (rlM X (lnF (rt K))) ∨ Fdd C M (rlM X (lnF (rt K)))) ∧ n < 321 := by
  have hk0 : ¬ kM K = 0 := by
    rcases hL with ⟨-, z, -⟩ | ⟨z, -⟩
    · rw [z] at h20; exact absurd h20 (by decide)
    · exact z
  obtain ⟨-, -, l22, l23, l24, -⟩ := hL.resolve_left (fun z => hk0 z.1)
  have hk4 : ¬ kM K = 4 := fun z => h24 (by rw [l24, if_pos z])
  have hb := hT.2.2.2
  have hi := hT.2.2.1
  have hlt : sM K < tL K := Nat.not_le.mp (fun z => hk4 (k4.mpr z))
  have hse := (eM_b hT).2.2 hlt
  have hs := (sM_b hT).1
  refine ⟨?_, by omega⟩
  have r4 : ¬ rt K 1 3 = 4 := fun z => hk4 (rt_3.symm.trans z)
  have hc : 321 - n = (320 - n) + 1 := by omega
  have hf : FRn M (rlM X (lnF (rt K))) := hF.tr FRn_rl
  rcases line_sim hT hD hS hB hL hk0 hR with ⟨a, b, c⟩ | ⟨a, b⟩
  · left
    have h51 : DI (rt K) := DI_c hD (rt_ne (by decide))
    have hk := tlX_k (rt_TI hT) h51
    have hS2 : SEn (rt K) := by unfold SEn; rw [rt_ne (by decide)]; exact hS
    have hok := tlX_ok (rt_TI hT) hS2 a
    have eI := rt_tI hT
    have fq : ∀ j, Kj j → rlM X (lnF (rt K)) 58 j = X 58 j := FRn_rl.2
    have f67 : rlM X (lnF (rt K)) 67 = X 67 := FRn_rl.1 67 (by decide) (by omega)
    have eP := (tlX_q (M := rt K) (q := 2) ⟨by decide, by decide, by decide, by omega⟩).trans (rt_ne (by decide))
    have hT2 := hk.1
    have hTL : (tlX (rt K)).2 1 2 = K 1 2 := tlX_12.trans rt_2
    have hBr : TBr (tlX (rt K)).2 (rlM X (lnF (rt K))) := TBr_c hB hTL eP (fq 18 (by unfold Kj; omega)) f67
    refine ⟨?_, hf, (tlX (rt K)).2, by omega, hk.1, hk.2, hok.1, hBr, b, c, ?_⟩
    · exact rl_RU hU
    · rw [he, hc, teR, if_neg r4, if_neg (by rw [a]; decide), show 320 - n = 321 - (n + 1) by omega]
  · right
    refine ⟨hf, b.1, (tlX (rt K)).2, ?_, b.2.1.symm⟩
    rw [he, hc, teR, if_neg r4, if_pos a, b.2.2]
