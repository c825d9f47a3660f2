/-! 89: land: the end of a text -/
theorem Lv_f {C M X : Mem} {n : Nat} {K : Mem} (hF : FRn M X) (hn : n ≤ tI K) (hT : TI K) (hL : LK K X) (he : te (clD C) = teR (321 - n) n K) (h20 : ¬ X 58 20 = 0) : Fdd C M X := by
  obtain ⟨k0, a, b⟩ := hL.resolve_right (fun z => h20 z.2.1)
  have r3 : rt K 1 3 = 0 := rt_3.trans k0
  have hb := hT.2.2.2
  have hi := hT.2.2.1
  have hc : 321 - n = (320 - n) + 1 := by omega
  have hl : lnF (rt K) < 0 := by
    have e : lnF (rt K) = -4 := lnI_no (fun i => nmB_f (fun z => absurd (r3.symm.trans z.1) (by decide))) 7 0
    rw [e]; decide
  have e2 : mpM (rt K) 3 2 = nI (sM K) := by show rt K 1 4 = _; exact rt_4
  have e3 : mpM (rt K) 3 3 = 1 := by show (if rt K 1 3 = 0 then (1 : Int32) else 2) = _; rw [if_pos r3]
  refine ⟨hF, by rw [a]; decide, mpM (rt K), ?_, by rw [e3, a]⟩
  rw [he, hc, teR, if_neg (by rw [r3]; decide), if_pos (by rw [tlX_a hl]), tlX_a hl, b]
  show (-10 - mpM (rt K) 3 2, mpM (rt K)) = _
  rw [e2]
/-- cells by their x and y -/
theorem hc9 : ∀ x, x ≤ 8 → ∀ y, y ≤ 8 → (0 ≤ nI (9 * y + x) ∧ nI (9 * y + x) < 81) ∧ md9 (nI (9 * y + x)) = nI x ∧ nI (9 * y + x) / 9 = nI y := by decide +kernel
theorem hc_xy {M : Mem} {w h x y : Nat} (hx : x ≤ 8) (hy : y ≤ 8) (ew : M 52 0 = nI w) (eh : M 52 1 = nI h) (hw : w ≤ 9) (hh : h ≤ 9) : hcF M 52 (nI (9 * y + x)) ↔ x < w ∧ y < h := by
  have z := hc9 x hx y hy
  unfold hcF
  rw [z.2.1, z.2.2, ew, eh]
  constructor
  · intro q
    exact ⟨Nat.not_le.mp (fun p => nI_nlt p (by omega) q.2.1), Nat.not_le.mp (fun p => nI_nlt p (by omega) q.2.2)⟩
  · intro q
    exact ⟨z.1, nI_lt q.1 (by omega), nI_lt q.2 (by omega)⟩
theorem hi_sim {K X : Mem} (hD : DI K) (hR : RDr K X) : dsP K ↔ ¬ ((X 63 0 ≤ X 58 14 ∨ X 63 1 ≤ X 58 15) ∧ 0 < X 58 9 + X 58 11) := by
  obtain ⟨ha, ht, hh, hn, -, ⟨x, y, ex, ey, hx, hy, cT, cH, aX, aY⟩, hw, -⟩ := hR
  have w0 := cn_of (show bt (K 52 0) 0 9 from ⟨by have := hw.1.1; omega, hw.1.2⟩)
  have w1 := cn_of (show bt (K 52 1) 0 9 from ⟨by have := hw.2.1.1; omega, hw.2.1.2⟩)
  have p0 : 1 ≤ cn (K 52 0) := by have := hw.1.1; omega
  have p1 : 1 ≤ cn (K 52 1) := by have := hw.2.1.1; omega
  have q0 : cn (K 52 0) ≤ 9 := by omega
  have q1 : cn (K 52 1) ≤ 9 := by omega
  have s6 := hD.1.2
  have s7 := hD.2.1.2
  have hx14 : X 63 0 ≤ X 58 14 ↔ cn (K 52 0) ≤ x := by
    rw [ha 0 (by decide), ex]
    constructor
    · intro q; rw [w0.1] at q; exact Nat.not_lt.mp (fun p => nI_ge p (by omega) q)
    · intro q; rw [w0.1]; exact nI_le q (by omega)
  have hy15 : X 63 1 ≤ X 58 15 ↔ cn (K 52 1) ≤ y := by
    rw [ha 1 (by decide), ey]
    constructor
    · intro q; rw [w1.1] at q; exact Nat.not_lt.mp (fun p => nI_ge p (by omega) q)
    · intro q; rw [w1.1]; exact nI_le q (by omega)
  have hs : 0 < X 58 9 + X 58 11 ↔ 0 < cn (K 51 6) + cn (K 51 7) := by
    rw [ht.1, hh.1, hD.1.1, hD.2.1.1, nI_ad]
    rw [cn_nI (by omega), cn_nI (by omega)]
    constructor
    · intro q; exact Nat.pos_of_ne_zero (fun p => by rw [p] at q; exact absurd q (by decide))
    · intro q; exact nI_lt (a := 0) q (by omega)
  rw [hx14, hy15, hs]
  have key : ∀ c, CX c x y → (hcF K 52 c → ∀ a b, a ≤ 8 → b ≤ 8 → c = nI (9 * b + a) → a < cn (K 52 0) ∧ b < cn (K 52 1)) := by
    intro c _ h a b hab hb e
    rw [e] at h
    exact (hc_xy hab hb w0.1 w1.1 q0 q1).mp h
  constructor
  · rintro ⟨dT, dH⟩ ⟨q, -⟩
    rcases q with q | q
    · rcases aX.resolve_left (by omega) with ⟨t, h1, b, hb, e⟩ | ⟨t, h1, b, hb, e⟩
      · have := (key _ (cT t h1) (dT t h1) x b hx hb e).1; omega
      · have := (key _ (cH t h1) (dH t h1) x b hx hb e).1; omega
    · rcases aY.resolve_left (by omega) with ⟨t, h1, b, hb, e⟩ | ⟨t, h1, b, hb, e⟩
      · have := (key _ (cT t h1) (dT t h1) b y hb hy e).2; omega
      · have := (key _ (cH t h1) (dH t h1) b y hb hy e).2; omega
  · intro q
    refine ⟨fun t h1 => ?_, fun t h1 => ?_⟩
    · obtain ⟨a, b, h2, h3, e⟩ := cT t h1
      rw [e]
      refine (hc_xy (by omega) (by omega) w0.1 w1.1 q0 q1).mpr ⟨Nat.not_le.mp (fun p => q ⟨Or.inl (by omega), by omega⟩), Nat.not_le.mp (fun p => q ⟨Or.inr (by omega), by omega⟩)⟩
    · obtain ⟨a, b, h2, h3, e⟩ := cH t h1
      rw [e]
      refine (hc_xy (by omega) (by omega) w0.1 w1.1 q0 q1).mpr ⟨Nat.not_le.mp (fun p => q ⟨Or.inl (by omega), by omega⟩), Nat.not_le.mp (fun p => q ⟨Or.inr (by omega), by omega⟩)⟩
/-- behind a fault -/
theorem fin_f {C M X : Mem} (h : RF C M) (hf : Fdd C M X) : -10 - X 58 21 = landV C ∧ RP (landU C) M (updM (updM X 58 18 0) 58 19 (X 58 20)) ∧ WF (landU C) := by
  obtain ⟨hF, hp, K, he, h3⟩ := hf
  have e2 : (te (clD C)).2 3 3 = X 58 20 := by rw [he]; exact h3
  have nz : ¬ (te (clD C)).2 3 3 = 0 := by
    rw [e2]; intro z; rw [z] at hp; exact absurd hp (by decide)
  have eU : landU C = laM C := by unfold landU; rw [if_neg nz]
  have z12 : laM C 1 2 = 0 := rfl
  have zc : cn (laM C 1 2) = 0 := by rw [z12]; rfl
  have rows : ∀ q, 5 ≤ q → q ≤ 50 → laM C q = C q := fun q a b => la_q ⟨by omega, by omega, by omega, by omega⟩ (by omega)
  rw [eU]
  refine ⟨by unfold landV; rw [he], ⟨?_, ?_⟩, ?_⟩
  · refine IV_rows h.2 rows (fun q a b => ?_) (fun j a => ?_) ⟨rfl, fun i hi => absurd (zc ▸ hi) (Nat.not_lt_zero i)⟩ ⟨?_, ?_⟩
    · rw [updM_ne (by omega), updM_ne (by omega)]; exact hF.1 q (by omega) (by omega)
    · rw [updM_eq, upd_ne (by omega), updM_eq, upd_ne (by omega)]; exact hF.2 j (by unfold Kj; omega)
    · show X 58 20 = (te (clD C)).2 3 3
      exact e2.symm
    · rw [la_11]
      show X 58 37 = _
      rw [hF.2 37 (by unfold Kj; omega)]; exact h.2.2.2.2.2.1.2
  · intro k hk
    rw [updM_ne (by omega), updM_ne (by omega)]; exact hF.1 k (by omega) (by omega)
  · refine WF_rows h.1 rows ⟨show bt 0 0 320 from ⟨by decide, by decide⟩, ?_⟩
    rw [la_2]; exact h.1.2.2.2.1.2
/-- behind a text that is taken -/
theorem sw_lo {N : Mem} {q : Nat} (h : q < 44) : swM N q = N q := by
  unfold swM pi7
  rw [if_neg (by omega), if_neg (by omega)]
theorem laN_q {C : Mem} {q : Nat} (h5 : q ≠ 5) (h17 : q ≠ 17) (h25 : q ≠ 25) : laN C q = laM C q := by
  unfold laN
  rw [updM_ne h25, updM_ne h17, updM_ne h5, updM_ne h5]
theorem laM_d {C : Mem} {q : Nat} (h : 51 ≤ q) : laM C q = (te (clD C)).2 q := by
  unfold laM
  rw [updM_ne (by omega), updM_ne (by omega)]
theorem fin_s {C M X Z : Mem} {K : Mem} {n : Nat} (h : RF C M) (hF : FRn M X) (hS : SEn K) (hD : DI K) (hR : RDr K X) (hd : dsP K) (he : te (clD C) = (nI n, K)) (hZ : t2P (updM (updM X 58 18 0) 58 19 0) Z) : nI n = landV C ∧ RP (landU C) M Z ∧ WF (landU C) := by
  have eT : (te (clD C)).2 = K := by rw [he]
  have e3 : (te (clD C)).2 3 3 = 0 := by rw [eT]; exact hS.2
  have eU : landU C = swM (laN C) := by unfold landU; rw [if_pos e3]
  have low : ∀ q, q < 44 → q ≠ 0 → q ≠ 1 → q ≠ 3 → q ≠ 4 → q ≠ 5 → q ≠ 17 → q ≠ 25 → landU C q = C q := fun q a a0 a1 a3 a4 b c d => by
    rw [eU, sw_lo a, laN_q b c d, la_q ⟨a1, a3, a4, by omega⟩ a0]
  have hiq : ∀ i, i < 7 → landU C (44 + i) = K (51 + i) := fun i hi => by
    rw [eU]
    show laN C (pi7 (44 + i)) = _
    rw [show pi7 (44 + i) = 51 + i by unfold pi7; rw [if_pos (by omega)]; omega, laN_q (by omega) (by omega) (by omega), laM_d (by omega), eT]
  have e44 : landU C 44 = K 51 := hiq 0 (by decide)
  have e45 : landU C 45 = K 52 := hiq 1 (by decide)
  have e46 : landU C 46 = K 53 := hiq 2 (by decide)
  have e47 : landU C 47 = K 54 := hiq 3 (by decide)
  have e48 : landU C 48 = K 55 := hiq 4 (by decide)
  have e49 : landU C 49 = K 56 := hiq 5 (by decide)
  have e50 : landU C 50 = K 57 := hiq 6 (by decide)
  have z54 : landU C 5 4 = 0 := by rw [eU]; rfl
  have z55 : landU C 5 5 = 0 := by rw [eU]; rfl
  have z17 : landU C 17 5 = 0 := by rw [eU]; rfl
  have z25 : landU C 25 5 = 0 := by rw [eU]; rfl
  have z12 : landU C 1 2 = 0 := by rw [eU]; rfl
  have z010 : landU C 0 10 = 0 := by rw [eU]; show (te (clD C)).2 3 3 = 0; exact e3
  have z011 : landU C 0 11 = C 0 11 := by rw [eU, sw_lo (by decide), laN_q (by decide) (by decide) (by decide), la_11]
  have z2 : landU C 2 = C 2 := low 2 (by decide) (by decide) (by decide) (by decide) (by decide) (by decide) (by decide) (by decide)
  have c54 : cn (landU C 5 4) = 0 := by rw [z54]; rfl
  have c55 : cn (landU C 5 5) = 0 := by rw [z55]; rfl
  have c12 : cn (landU C 1 2) = 0 := by rw [z12]; rfl
  have n1 : ¬ (0 : Int32) = 1 := by decide
  obtain ⟨⟨t62, t60, t61⟩, t59, ⟨u12, u13, u113, u86, u112⟩, ⟨v3, v5, v6, v70, v71⟩, tq, tj⟩ := hZ
  obtain ⟨ra, rt_, rh, rn, -, -, dw, dd⟩ := hR
  have x63 : updM (updM X 58 18 0) 58 19 0 63 = X 63 := by rw [updM_ne (by decide), updM_ne (by decide)]
  have x64 : updM (updM X 58 18 0) 58 19 0 64 = X 64 := by rw [updM_ne (by decide), updM_ne (by decide)]
  have x65 : updM (updM X 58 18 0) 58 19 0 65 = X 65 := by rw [updM_ne (by decide), updM_ne (by decide)]
  have x66 : updM (updM X 58 18 0) 58 19 0 66 = X 66 := by rw [updM_ne (by decide), updM_ne (by decide)]
  have xj : ∀ j, j ≠ 18 → j ≠ 19 → updM (updM X 58 18 0) 58 19 0 58 j = X 58 j := fun j a b => by rw [updM_eq, upd_ne b, updM_eq, upd_ne a]
  rw [x66] at t62
  rw [x63] at t60 u12 u13
  rw [x65] at t61
  rw [x64] at t59
  rw [xj 9 (by decide) (by decide)] at u113
  rw [xj 11 (by decide) (by decide)] at v3
  rw [xj 13 (by decide) (by decide)] at v5
  have zq : ∀ q, q ≠ 58 → q ≠ 59 → q ≠ 60 → q ≠ 61 → q ≠ 62 → q ≠ 75 → (q < 63 ∨ 66 < q) → Z q = M q := fun q a b c d e f g => by
    rw [tq q a b c d e f, updM_ne a, updM_ne a]; exact hF.1 q a g
  have s6 := hD.1.2
  have s7 := hD.2.1.2
  have s8 := hD.2.2.2
  have n76 : Z 76 = M 76 := zq 76 (by decide) (by decide) (by decide) (by decide) (by decide) (by decide) (by omega)
  have n77 : Z 77 = M 77 := zq 77 (by decide) (by decide) (by decide) (by decide) (by decide) (by decide) (by omega)
  have n78 : Z 78 = M 78 := zq 78 (by decide) (by decide) (by decide) (by decide) (by decide) (by decide) (by omega)
  have n68 : Z 68 = M 68 := zq 68 (by decide) (by decide) (by decide) (by decide) (by decide) (by decide) (by omega)
  have n69 : Z 69 = M 69 := zq 69 (by decide) (by decide) (by decide) (by decide) (by decide) (by decide) (by omega)
  have rsh : ∀ q, 34 ≤ q → q ≤ 41 → landU C q = C q := fun q a b => low q (by omega) (by omega) (by omega) (by omega) (by omega) (by omega) (by omega) (by omega)
  refine ⟨by unfold landV; rw [he], ⟨⟨?_, ?_, ⟨?_, ?_⟩, ?_, ⟨?_, ?_⟩, ⟨?_, ?_, ?_, ?_⟩, ?_⟩, ?_⟩, ⟨?_, ?_, ⟨?_, ?_⟩, ?_, ?_, ?_, ?_, ?_⟩⟩
  · unfold IVl
    rw [e44, e45, e46, e47, e48, e49, e50]
    refine ⟨fun j hj => by rw [t60 j hj]; exact ra j (by omega), Or.inl ⟨v6, by rw [u12]; exact ra 4 (by decide), by rw [u13]; exact ra 5 (by decide)⟩, by rw [u113]; exact rt_.1, fun t ht => ?_, by rw [v3]; exact rh.1, fun t ht => by rw [t61 t (by omega)]; exact rh.2 t ht, by rw [v5]; exact rn.1, fun t ht => ?_⟩
    · have z := t59 t (by omega)
      rw [z.1, z.2]; exact rt_.2 t ht
    · rw [t62 (2 * t) (by omega), t62 (2 * t + 1) (by omega)]; exact rn.2 t ht
  · unfold IVb IVbf
    refine ⟨by rw [z54]; exact u86, fun i hi => absurd (c54 ▸ hi) (Nat.not_lt_zero i), by rw [z55]; exact u112, fun i hi => absurd (c55 ▸ hi) (Nat.not_lt_zero i)⟩
  · exact ⟨by rw [z17]; exact v70, fun z => absurd (z17.symm.trans z) n1⟩
  · exact ⟨by rw [z25]; exact v71, fun z => absurd (z25.symm.trans z) n1⟩
  · refine ⟨?_, fun i hi => absurd (c12 ▸ hi) (Nat.not_lt_zero i)⟩
    rw [z12, tj 18 (by decide) (by decide) (by decide)]; rfl
  · rw [z010, tj 19 (by decide) (by decide) (by decide)]; rfl
  · rw [z011, tj 37 (by decide) (by decide) (by decide), xj 37 (by decide) (by decide), hF.2 37 (by unfold Kj; omega)]; exact h.2.2.2.2.2.1.2
  · have q := h.2.2.2.2.2.2.1.1
    unfold IVs at *; rw [rsh 34 (by decide) (by decide), rsh (34 + 1) (by decide) (by decide), n76, n77, n78]; exact q
  · have q := h.2.2.2.2.2.2.1.2.1
    unfold IVs at *; rw [rsh 36 (by decide) (by decide), rsh (36 + 1) (by decide) (by decide), n76, n77, n78]; exact q
  · have q := h.2.2.2.2.2.2.1.2.2.1
    unfold IVs at *; rw [rsh 38 (by decide) (by decide), rsh (38 + 1) (by decide) (by decide), n76, n77, n78]; exact q
  · have q := h.2.2.2.2.2.2.1.2.2.2
    unfold IVs at *; rw [rsh 40 (by decide) (by decide), rsh (40 + 1) (by decide) (by decide), n76, n77, n78]; exact q
  · have q := h.2.2.2.2.2.2.2
    unfold IVk at *; rw [n68, n69]; exact q
  · exact fun k hk => zq k (by omega) (by omega) (by omega) (by omega) (by omega) (by omega) (by omega)
  · unfold WL hcF
    rw [e44, e45, e46, e47, e48, e49, e50]
    have b6 : bt (K 51 6) 0 6 := by rw [hD.1.1]; exact ⟨by rw [nI_toInt (by omega)]; omega, by rw [nI_toInt (by omega)]; omega⟩
    have b7 : bt (K 51 7) 0 3 := by rw [hD.2.1.1]; exact ⟨by rw [nI_toInt (by omega)]; omega, by rw [nI_toInt (by omega)]; omega⟩
    have b8 : bt (K 51 8) 0 12 := by rw [hD.2.2.1]; exact ⟨by rw [nI_toInt (by omega)]; omega, by rw [nI_toInt (by omega)]; omega⟩
    exact ⟨dw, ⟨b6, b7, b8⟩, fun t ht => ⟨hd.1 t ht, dd.1 t ht⟩, hd.2, dd.2⟩
  · unfold WB WBf
    refine ⟨by rw [z54]; exact ⟨by decide, by decide⟩, by rw [z54, z55]; exact ⟨by decide, by decide⟩, fun i hi => absurd (c54 ▸ hi) (Nat.not_lt_zero i), fun i hi => absurd (c55 ▸ hi) (Nat.not_lt_zero i)⟩
  · exact ⟨by rw [z17]; exact ⟨by decide, by decide⟩, fun z => absurd (z17.symm.trans z) n1⟩
  · exact ⟨by rw [z25]; exact ⟨by decide, by decide⟩, fun z => absurd (z25.symm.trans z) n1⟩
  · exact ⟨by rw [z12]; exact ⟨by decide, by decide⟩, by rw [z2]; exact h.1.2.2.2.1.2⟩
  · have q := h.1.2.2.2.2.1
    unfold WS at *; rw [rsh 34 (by decide) (by decide)]; exact q
  · have q := h.1.2.2.2.2.2.1
    unfold WS at *; rw [rsh 36 (by decide) (by decide)]; exact q
  · have q := h.1.2.2.2.2.2.2.1
    unfold WS at *; rw [rsh 38 (by decide) (by decide)]; exact q
  · have q := h.1.2.2.2.2.2.2.2
    unfold WS at *; rw [rsh 40 (by decide) (by decide)]; exact q
