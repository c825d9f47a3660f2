/-! 46: the reference: sheet, lay, feed; WF of them -/
theorem IV_sh {C C' M N : Mem} (h : IV C M) (e : ∀ k, k ≠ 76 → k ≠ 77 → k ≠ 78 → N k = M k) (hc : ∀ k, (k < 33 ∨ 43 < k) → C' k = C k) (hs : IVs C' N 0 34 ∧ IVs C' N 1 36 ∧ IVs C' N 2 38 ∧ IVs C' N 3 40) : IV C' N := by
  obtain ⟨l, b, ⟨i0, i1⟩, t, f, -, kk⟩ := h
  have c : ∀ k, k < 33 → C' k = C k := fun k hk => hc k (Or.inl hk)
  have e58 := e 58 (by decide) (by decide) (by decide)
  have e59 := e 59 (by decide) (by decide) (by decide)
  have e75 := e 75 (by decide) (by decide) (by decide)
  have c44 := hc 44 (by decide)
  have ci : ∀ k b, b + 7 < 33 → IVi C M k b → IVi C' N k b := fun k b hb q => by
    unfold IVi at q ⊢
    rw [e58, e59, e75, c44, c b (by omega), c (b + 1) (by omega), c (b + 2) (by omega), c (b + 3) (by omega), c (b + 4) (by omega), c (b + 5) (by omega), c (b + 6) (by omega), c (b + 7) (by omega)]
    exact q
  refine ⟨?_, ?_, ⟨ci _ _ (by decide) i0, ci _ _ (by decide) i1⟩, ?_, ?_, hs, ?_⟩
  · unfold IVl at l ⊢
    rw [e58, e59, e 60 (by decide) (by decide) (by decide), e 61 (by decide) (by decide) (by decide), e 62 (by decide) (by decide) (by decide), c44, hc 45 (by decide), hc 46 (by decide), hc 47 (by decide), hc 48 (by decide), hc 49 (by decide), hc 50 (by decide)]
    exact l
  · unfold IVb at b ⊢
    rw [e59, c 5 (by decide), c 6 (by decide), c 7 (by decide), c 8 (by decide), c 9 (by decide)]
    exact b
  · unfold IVt at t ⊢
    rw [e58, e 67 (by decide) (by decide) (by decide), c 1 (by decide), c 2 (by decide)]
    exact t
  · unfold IVf at f ⊢
    rw [e58, c 0 (by decide)]
    exact f
  · unfold IVk at kk ⊢
    rw [e 68 (by decide) (by decide) (by decide), e 69 (by decide) (by decide) (by decide)]
    exact kk
theorem IVs_d {C C' M N : Mem} {k b : Nat} (h : IVs C M k b) (e76 : N 76 k = M 76 k) (e77 : N 77 k = M 77 k) (e78 : ∀ i, i < 40 → N 78 (40 * k + i) = M 78 (40 * k + i)) (c0 : C' b = C b) (c1 : C' (b + 1) = C (b + 1)) : IVs C' N k b := by
  obtain ⟨a, d, f⟩ := h
  unfold IVs
  rw [e76, e77, c0, c1]
  exact ⟨a, d, fun i hi => by rw [e78 i hi]; exact f i hi⟩
def zcM (M : Mem) (k i : Nat) : Mem := setR M 78 (fun j => if 40 * k ≤ j ∧ j < 40 * k + i then 0 else M 78 j)
theorem zcM_ne {M : Mem} {k i q : Nat} (h : q ≠ 78) : zcM M k i q = M q := setR_ne h
theorem zcM_e {M : Mem} {k i : Nat} : zcM M k i 78 = (fun j => if 40 * k ≤ j ∧ j < 40 * k + i then 0 else M 78 j) := by unfold zcM setR; rw [if_pos rfl]
theorem zcM_o {M : Mem} {k i j : Nat} (h : j < 40 * k ∨ 40 * k + i ≤ j) : zcM M k i 78 j = M 78 j := by rw [zcM_e]; exact if_neg (by omega)
theorem zcM_in {M : Mem} {k i j : Nat} (h : 40 * k ≤ j ∧ j < 40 * k + i) : zcM M k i 78 j = 0 := by rw [zcM_e]; exact if_pos h
theorem zcM_0 {M : Mem} {k : Nat} : zcM M k 0 = M := by
  funext q
  by_cases h : q = 78
  · subst h; funext j; exact zcM_o (by omega)
  · exact zcM_ne h
theorem zcM_s {M : Mem} {k i : Nat} : zcM M k (i + 1) = updM (zcM M k i) 78 (40 * k + i) 0 := by
  funext q
  by_cases h : q = 78
  · subst h
    rw [updM_eq]
    funext j
    by_cases hj : j = 40 * k + i
    · rw [hj, upd_eq, zcM_in (by omega)]
    · rw [upd_ne hj]
      by_cases z : 40 * k ≤ j ∧ j < 40 * k + i
      · rw [zcM_in (by omega), zcM_in z]
      · rw [zcM_o (by omega), zcM_o (by omega)]
  · rw [updM_ne h, zcM_ne h, zcM_ne h]
theorem rnM_ne {C : Mem} {b q : Nat} {lane n : Int32} (h0 : q ≠ b) (h1 : q ≠ b + 1) : rnM C b lane n q = C q := by unfold rnM zrR; rw [setR_ne h1, updM_ne h0, updM_ne h0]
theorem rnM_b {C : Mem} {b : Nat} {lane n : Int32} : rnM C b lane n b 1 = lane ∧ rnM C b lane n b 2 = n ∧ ∀ i, i < 40 → rnM C b lane n (b + 1) i = 0 := by
  refine ⟨?_, ?_, fun i hi => ?_⟩
  · unfold rnM zrR; rw [setR_ne (by omega), updM_eq, upd_ne (by decide), updM_eq, upd_eq]
  · unfold rnM zrR; rw [setR_ne (by omega), updM_eq, upd_eq]
  · unfold rnM zrR setR
    rw [if_pos rfl]
    exact if_pos hi
theorem c40 : ∀ k, k < 4 → ∀ i, i < 40 → (40 * nI k + nI i : Int32) = nI (40 * k + i) := by decide +kernel
theorem IV_sheet0 {C M : Mem} (h : IV C M) {lane n : Int32} (hl : bt lane 0 2) : IV (rnM C 34 lane n) (zcM (updM (updM M 76 0 lane) 77 0 n) 0 40) := by
  obtain ⟨r1, r2, r3⟩ := rnM_b (C := C) (b := 34) (lane := lane) (n := n)
  refine IV_sh h (fun q h1 h2 h3 => by rw [zcM_ne h3, updM_ne h2, updM_ne h1]) (fun q hq => rnM_ne (by omega) (by omega)) ⟨?_, IVs_d (C := C) (M := M) h.2.2.2.2.2.1.2.1 (by rw [zcM_ne (by decide), updM_ne (by decide), updM_eq, upd_ne (by decide)]) (by rw [zcM_ne (by decide), updM_eq, upd_ne (by decide), updM_ne (by decide)]) (fun i hi => by rw [zcM_o (by omega), updM_ne (by decide), updM_ne (by decide)]) (rnM_ne (by decide) (by decide)) (rnM_ne (by decide) (by decide)), IVs_d (C := C) (M := M) h.2.2.2.2.2.1.2.2.1 (by rw [zcM_ne (by decide), updM_ne (by decide), updM_eq, upd_ne (by decide)]) (by rw [zcM_ne (by decide), updM_eq, upd_ne (by decide), updM_ne (by decide)]) (fun i hi => by rw [zcM_o (by omega), updM_ne (by decide), updM_ne (by decide)]) (rnM_ne (by decide) (by decide)) (rnM_ne (by decide) (by decide)), IVs_d (C := C) (M := M) h.2.2.2.2.2.1.2.2.2 (by rw [zcM_ne (by decide), updM_ne (by decide), updM_eq, upd_ne (by decide)]) (by rw [zcM_ne (by decide), updM_eq, upd_ne (by decide), updM_ne (by decide)]) (fun i hi => by rw [zcM_o (by omega), updM_ne (by decide), updM_ne (by decide)]) (rnM_ne (by decide) (by decide)) (rnM_ne (by decide) (by decide))⟩
  exact ⟨Or.inr ⟨by rw [r1, zcM_ne (by decide), updM_ne (by decide), updM_eq, upd_eq], by rw [r1]; exact hl⟩, by rw [r2, zcM_ne (by decide), updM_eq, upd_eq], fun i hi => by rw [r3 i hi]; exact zcM_in (by omega)⟩
theorem IV_lay0 {C M : Mem} (h : IV C M) {i : Nat} (hi : i < 40) {v : Int32} : IV (updM C (34 + 1) i v) (updM M 78 (40 * 0 + i) v) := by
  refine IV_sh h (fun q h1 h2 h3 => updM_ne h3) (fun q hq => updM_ne (by omega)) ⟨?_, IVs_d (C := C) (M := M) h.2.2.2.2.2.1.2.1 (by rw [updM_ne (by decide)]) (by rw [updM_ne (by decide)]) (fun j hj => by rw [updM_eq, upd_ne (by omega)]) (updM_ne (by decide)) (updM_ne (by decide)), IVs_d (C := C) (M := M) h.2.2.2.2.2.1.2.2.1 (by rw [updM_ne (by decide)]) (by rw [updM_ne (by decide)]) (fun j hj => by rw [updM_eq, upd_ne (by omega)]) (updM_ne (by decide)) (updM_ne (by decide)), IVs_d (C := C) (M := M) h.2.2.2.2.2.1.2.2.2 (by rw [updM_ne (by decide)]) (by rw [updM_ne (by decide)]) (fun j hj => by rw [updM_eq, upd_ne (by omega)]) (updM_ne (by decide)) (updM_ne (by decide))⟩
  obtain ⟨a, d, f⟩ := h.2.2.2.2.2.1.1
  refine ⟨by rw [updM_ne (by decide), updM_ne (by decide)]; exact a, by rw [updM_ne (by decide), updM_ne (by decide)]; exact d, fun j hj => ?_⟩
  rw [updM_eq, updM_eq]
  by_cases z : j = i
  · rw [z, upd_eq, upd_eq]
  · rw [upd_ne (by omega), upd_ne z]; exact f j hj
theorem WF_rn0 {C : Mem} (h : WF C) {lane n : Int32} (hl : bt lane 0 2) (hn : bt n 0 40) : WF (rnM C 34 lane n) := by
  obtain ⟨r1, r2, -⟩ := rnM_b (C := C) (b := 34) (lane := lane) (n := n)
  have e : ∀ q, q ≠ 34 → q ≠ 34 + 1 → rnM C 34 lane n q = C q := fun q h1 h2 => rnM_ne h1 h2
  exact ⟨WL_c (fun q h1 h2 => e q (by omega) (by omega)) h.1, WB_c (fun q h1 h2 => e q (by omega) (by omega)) (by rw [e 44 (by decide) (by decide)]) h.2.1, ⟨WI_c (fun q h1 h2 => e q (by omega) (by omega)) (by rw [e 44 (by decide) (by decide)]) (by rw [e 45 (by decide) (by decide)]) (by rw [e 45 (by decide) (by decide)]) h.2.2.1.1, WI_c (fun q h1 h2 => e q (by omega) (by omega)) (by rw [e 44 (by decide) (by decide)]) (by rw [e 45 (by decide) (by decide)]) (by rw [e 45 (by decide) (by decide)]) h.2.2.1.2⟩, WP_c (e 1 (by decide) (by decide)) (e 2 (by decide) (by decide)) h.2.2.2.1, (show WS _ 34 from ⟨by rw [r1]; exact ⟨by have := hl.1; omega, hl.2⟩, by rw [r2]; exact hn⟩), WS_c (e 36 (by decide) (by decide)) h.2.2.2.2.2.1, WS_c (e 38 (by decide) (by decide)) h.2.2.2.2.2.2.1, WS_c (e 40 (by decide) (by decide)) h.2.2.2.2.2.2.2⟩
theorem WF_ly0 {C : Mem} (h : WF C) {i : Nat} {v : Int32} : WF (updM C (34 + 1) i v) := by
  have e : ∀ q, q ≠ 34 + 1 → updM C (34 + 1) i v q = C q := fun q h1 => updM_ne h1
  exact ⟨WL_c (fun q h1 h2 => e q (by omega)) h.1, WB_c (fun q h1 h2 => e q (by omega)) (by rw [e 44 (by decide)]) h.2.1, ⟨WI_c (fun q h1 h2 => e q (by omega)) (by rw [e 44 (by decide)]) (by rw [e 45 (by decide)]) (by rw [e 45 (by decide)]) h.2.2.1.1, WI_c (fun q h1 h2 => e q (by omega)) (by rw [e 44 (by decide)]) (by rw [e 45 (by decide)]) (by rw [e 45 (by decide)]) h.2.2.1.2⟩, WP_c (e 1 (by decide)) (e 2 (by decide)) h.2.2.2.1, WS_c (e 34 (by decide)) h.2.2.2.2.1, WS_c (e 36 (by decide)) h.2.2.2.2.2.1, WS_c (e 38 (by decide)) h.2.2.2.2.2.2.1, WS_c (e 40 (by decide)) h.2.2.2.2.2.2.2⟩
theorem IV_sheet1 {C M : Mem} (h : IV C M) {lane n : Int32} (hl : bt lane 0 2) : IV (rnM C 36 lane n) (zcM (updM (updM M 76 1 lane) 77 1 n) 1 40) := by
  obtain ⟨r1, r2, r3⟩ := rnM_b (C := C) (b := 36) (lane := lane) (n := n)
  refine IV_sh h (fun q h1 h2 h3 => by rw [zcM_ne h3, updM_ne h2, updM_ne h1]) (fun q hq => rnM_ne (by omega) (by omega)) ⟨IVs_d (C := C) (M := M) h.2.2.2.2.2.1.1 (by rw [zcM_ne (by decide), updM_ne (by decide), updM_eq, upd_ne (by decide)]) (by rw [zcM_ne (by decide), updM_eq, upd_ne (by decide), updM_ne (by decide)]) (fun i hi => by rw [zcM_o (by omega), updM_ne (by decide), updM_ne (by decide)]) (rnM_ne (by decide) (by decide)) (rnM_ne (by decide) (by decide)), ?_, IVs_d (C := C) (M := M) h.2.2.2.2.2.1.2.2.1 (by rw [zcM_ne (by decide), updM_ne (by decide), updM_eq, upd_ne (by decide)]) (by rw [zcM_ne (by decide), updM_eq, upd_ne (by decide), updM_ne (by decide)]) (fun i hi => by rw [zcM_o (by omega), updM_ne (by decide), updM_ne (by decide)]) (rnM_ne (by decide) (by decide)) (rnM_ne (by decide) (by decide)), IVs_d (C := C) (M := M) h.2.2.2.2.2.1.2.2.2 (by rw [zcM_ne (by decide), updM_ne (by decide), updM_eq, upd_ne (by decide)]) (by rw [zcM_ne (by decide), updM_eq, upd_ne (by decide), updM_ne (by decide)]) (fun i hi => by rw [zcM_o (by omega), updM_ne (by decide), updM_ne (by decide)]) (rnM_ne (by decide) (by decide)) (rnM_ne (by decide) (by decide))⟩
  exact ⟨Or.inr ⟨by rw [r1, zcM_ne (by decide), updM_ne (by decide), updM_eq, upd_eq], by rw [r1]; exact hl⟩, by rw [r2, zcM_ne (by decide), updM_eq, upd_eq], fun i hi => by rw [r3 i hi]; exact zcM_in (by omega)⟩
theorem IV_lay1 {C M : Mem} (h : IV C M) {i : Nat} (hi : i < 40) {v : Int32} : IV (updM C (36 + 1) i v) (updM M 78 (40 * 1 + i) v) := by
  refine IV_sh h (fun q h1 h2 h3 => updM_ne h3) (fun q hq => updM_ne (by omega)) ⟨IVs_d (C := C) (M := M) h.2.2.2.2.2.1.1 (by rw [updM_ne (by decide)]) (by rw [updM_ne (by decide)]) (fun j hj => by rw [updM_eq, upd_ne (by omega)]) (updM_ne (by decide)) (updM_ne (by decide)), ?_, IVs_d (C := C) (M := M) h.2.2.2.2.2.1.2.2.1 (by rw [updM_ne (by decide)]) (by rw [updM_ne (by decide)]) (fun j hj => by rw [updM_eq, upd_ne (by omega)]) (updM_ne (by decide)) (updM_ne (by decide)), IVs_d (C := C) (M := M) h.2.2.2.2.2.1.2.2.2 (by rw [updM_ne (by decide)]) (by rw [updM_ne (by decide)]) (fun j hj => by rw [updM_eq, upd_ne (by omega)]) (updM_ne (by decide)) (updM_ne (by decide))⟩
  obtain ⟨a, d, f⟩ := h.2.2.2.2.2.1.2.1
  refine ⟨by rw [updM_ne (by decide), updM_ne (by decide)]; exact a, by rw [updM_ne (by decide), updM_ne (by decide)]; exact d, fun j hj => ?_⟩
  rw [updM_eq, updM_eq]
  by_cases z : j = i
  · rw [z, upd_eq, upd_eq]
  · rw [upd_ne (by omega), upd_ne z]; exact f j hj
theorem WF_rn1 {C : Mem} (h : WF C) {lane n : Int32} (hl : bt lane 0 2) (hn : bt n 0 40) : WF (rnM C 36 lane n) := by
  obtain ⟨r1, r2, -⟩ := rnM_b (C := C) (b := 36) (lane := lane) (n := n)
  have e : ∀ q, q ≠ 36 → q ≠ 36 + 1 → rnM C 36 lane n q = C q := fun q h1 h2 => rnM_ne h1 h2
  exact ⟨WL_c (fun q h1 h2 => e q (by omega) (by omega)) h.1, WB_c (fun q h1 h2 => e q (by omega) (by omega)) (by rw [e 44 (by decide) (by decide)]) h.2.1, ⟨WI_c (fun q h1 h2 => e q (by omega) (by omega)) (by rw [e 44 (by decide) (by decide)]) (by rw [e 45 (by decide) (by decide)]) (by rw [e 45 (by decide) (by decide)]) h.2.2.1.1, WI_c (fun q h1 h2 => e q (by omega) (by omega)) (by rw [e 44 (by decide) (by decide)]) (by rw [e 45 (by decide) (by decide)]) (by rw [e 45 (by decide) (by decide)]) h.2.2.1.2⟩, WP_c (e 1 (by decide) (by decide)) (e 2 (by decide) (by decide)) h.2.2.2.1, WS_c (e 34 (by decide) (by decide)) h.2.2.2.2.1, (show WS _ 36 from ⟨by rw [r1]; exact ⟨by have := hl.1; omega, hl.2⟩, by rw [r2]; exact hn⟩), WS_c (e 38 (by decide) (by decide)) h.2.2.2.2.2.2.1, WS_c (e 40 (by decide) (by decide)) h.2.2.2.2.2.2.2⟩
theorem WF_ly1 {C : Mem} (h : WF C) {i : Nat} {v : Int32} : WF (updM C (36 + 1) i v) := by
  have e : ∀ q, q ≠ 36 + 1 → updM C (36 + 1) i v q = C q := fun q h1 => updM_ne h1
  exact ⟨WL_c (fun q h1 h2 => e q (by omega)) h.1, WB_c (fun q h1 h2 => e q (by omega)) (by rw [e 44 (by decide)]) h.2.1, ⟨WI_c (fun q h1 h2 => e q (by omega)) (by rw [e 44 (by decide)]) (by rw [e 45 (by decide)]) (by rw [e 45 (by decide)]) h.2.2.1.1, WI_c (fun q h1 h2 => e q (by omega)) (by rw [e 44 (by decide)]) (by rw [e 45 (by decide)]) (by rw [e 45 (by decide)]) h.2.2.1.2⟩, WP_c (e 1 (by decide)) (e 2 (by decide)) h.2.2.2.1, WS_c (e 34 (by decide)) h.2.2.2.2.1, WS_c (e 36 (by decide)) h.2.2.2.2.2.1, WS_c (e 38 (by decide)) h.2.2.2.2.2.2.1, WS_c (e 40 (by decide)) h.2.2.2.2.2.2.2⟩
theorem IV_sheet2 {C M : Mem} (h : IV C M) {lane n : Int32} (hl : bt lane 0 2) : IV (rnM C 38 lane n) (zcM (updM (updM M 76 2 lane) 77 2 n) 2 40) := by
  obtain ⟨r1, r2, r3⟩ := rnM_b (C := C) (b := 38) (lane := lane) (n := n)
  refine IV_sh h (fun q h1 h2 h3 => by rw [zcM_ne h3, updM_ne h2, updM_ne h1]) (fun q hq => rnM_ne (by omega) (by omega)) ⟨IVs_d (C := C) (M := M) h.2.2.2.2.2.1.1 (by rw [zcM_ne (by decide), updM_ne (by decide), updM_eq, upd_ne (by decide)]) (by rw [zcM_ne (by decide), updM_eq, upd_ne (by decide), updM_ne (by decide)]) (fun i hi => by rw [zcM_o (by omega), updM_ne (by decide), updM_ne (by decide)]) (rnM_ne (by decide) (by decide)) (rnM_ne (by decide) (by decide)), IVs_d (C := C) (M := M) h.2.2.2.2.2.1.2.1 (by rw [zcM_ne (by decide), updM_ne (by decide), updM_eq, upd_ne (by decide)]) (by rw [zcM_ne (by decide), updM_eq, upd_ne (by decide), updM_ne (by decide)]) (fun i hi => by rw [zcM_o (by omega), updM_ne (by decide), updM_ne (by decide)]) (rnM_ne (by decide) (by decide)) (rnM_ne (by decide) (by decide)), ?_, IVs_d (C := C) (M := M) h.2.2.2.2.2.1.2.2.2 (by rw [zcM_ne (by decide), updM_ne (by decide), updM_eq, upd_ne (by decide)]) (by rw [zcM_ne (by decide), updM_eq, upd_ne (by decide), updM_ne (by decide)]) (fun i hi => by rw [zcM_o (by omega), updM_ne (by decide), updM_ne (by decide)]) (rnM_ne (by decide) (by decide)) (rnM_ne (by decide) (by decide))⟩
  exact ⟨Or.inr ⟨by rw [r1, zcM_ne (by decide), updM_ne (by decide), updM_eq, upd_eq], by rw [r1]; exact hl⟩, by rw [r2, zcM_ne (by decide), updM_eq, upd_eq], fun i hi => by rw [r3 i hi]; exact zcM_in (by omega)⟩
theorem IV_lay2 {C M : Mem} (h : IV C M) {i : Nat} (hi : i < 40) {v : Int32} : IV (updM C (38 + 1) i v) (updM M 78 (40 * 2 + i) v) := by
  refine IV_sh h (fun q h1 h2 h3 => updM_ne h3) (fun q hq => updM_ne (by omega)) ⟨IVs_d (C := C) (M := M) h.2.2.2.2.2.1.1 (by rw [updM_ne (by decide)]) (by rw [updM_ne (by decide)]) (fun j hj => by rw [updM_eq, upd_ne (by omega)]) (updM_ne (by decide)) (updM_ne (by decide)), IVs_d (C := C) (M := M) h.2.2.2.2.2.1.2.1 (by rw [updM_ne (by decide)]) (by rw [updM_ne (by decide)]) (fun j hj => by rw [updM_eq, upd_ne (by omega)]) (updM_ne (by decide)) (updM_ne (by decide)), ?_, IVs_d (C := C) (M := M) h.2.2.2.2.2.1.2.2.2 (by rw [updM_ne (by decide)]) (by rw [updM_ne (by decide)]) (fun j hj => by rw [updM_eq, upd_ne (by omega)]) (updM_ne (by decide)) (updM_ne (by decide))⟩
  obtain ⟨a, d, f⟩ := h.2.2.2.2.2.1.2.2.1
  refine ⟨by rw [updM_ne (by decide), updM_ne (by decide)]; exact a, by rw [updM_ne (by decide), updM_ne (by decide)]; exact d, fun j hj => ?_⟩
  rw [updM_eq, updM_eq]
  by_cases z : j = i
  · rw [z, upd_eq, upd_eq]
  · rw [upd_ne (by omega), upd_ne z]; exact f j hj
theorem WF_rn2 {C : Mem} (h : WF C) {lane n : Int32} (hl : bt lane 0 2) (hn : bt n 0 40) : WF (rnM C 38 lane n) := by
  obtain ⟨r1, r2, -⟩ := rnM_b (C := C) (b := 38) (lane := lane) (n := n)
  have e : ∀ q, q ≠ 38 → q ≠ 38 + 1 → rnM C 38 lane n q = C q := fun q h1 h2 => rnM_ne h1 h2
  exact ⟨WL_c (fun q h1 h2 => e q (by omega) (by omega)) h.1, WB_c (fun q h1 h2 => e q (by omega) (by omega)) (by rw [e 44 (by decide) (by decide)]) h.2.1, ⟨WI_c (fun q h1 h2 => e q (by omega) (by omega)) (by rw [e 44 (by decide) (by decide)]) (by rw [e 45 (by decide) (by decide)]) (by rw [e 45 (by decide) (by decide)]) h.2.2.1.1, WI_c (fun q h1 h2 => e q (by omega) (by omega)) (by rw [e 44 (by decide) (by decide)]) (by rw [e 45 (by decide) (by decide)]) (by rw [e 45 (by decide) (by decide)]) h.2.2.1.2⟩, WP_c (e 1 (by decide) (by decide)) (e 2 (by decide) (by decide)) h.2.2.2.1, WS_c (e 34 (by decide) (by decide)) h.2.2.2.2.1, WS_c (e 36 (by decide) (by decide)) h.2.2.2.2.2.1, (show WS _ 38 from ⟨by rw [r1]; exact ⟨by have := hl.1; omega, hl.2⟩, by rw [r2]; exact hn⟩), WS_c (e 40 (by decide) (by decide)) h.2.2.2.2.2.2.2⟩
theorem WF_ly2 {C : Mem} (h : WF C) {i : Nat} {v : Int32} : WF (updM C (38 + 1) i v) := by
  have e : ∀ q, q ≠ 38 + 1 → updM C (38 + 1) i v q = C q := fun q h1 => updM_ne h1
  exact ⟨WL_c (fun q h1 h2 => e q (by omega)) h.1, WB_c (fun q h1 h2 => e q (by omega)) (by rw [e 44 (by decide)]) h.2.1, ⟨WI_c (fun q h1 h2 => e q (by omega)) (by rw [e 44 (by decide)]) (by rw [e 45 (by decide)]) (by rw [e 45 (by decide)]) h.2.2.1.1, WI_c (fun q h1 h2 => e q (by omega)) (by rw [e 44 (by decide)]) (by rw [e 45 (by decide)]) (by rw [e 45 (by decide)]) h.2.2.1.2⟩, WP_c (e 1 (by decide)) (e 2 (by decide)) h.2.2.2.1, WS_c (e 34 (by decide)) h.2.2.2.2.1, WS_c (e 36 (by decide)) h.2.2.2.2.2.1, WS_c (e 38 (by decide)) h.2.2.2.2.2.2.1, WS_c (e 40 (by decide)) h.2.2.2.2.2.2.2⟩
theorem IV_sheet3 {C M : Mem} (h : IV C M) {lane n : Int32} (hl : bt lane 0 2) : IV (rnM C 40 lane n) (zcM (updM (updM M 76 3 lane) 77 3 n) 3 40) := by
  obtain ⟨r1, r2, r3⟩ := rnM_b (C := C) (b := 40) (lane := lane) (n := n)
  refine IV_sh h (fun q h1 h2 h3 => by rw [zcM_ne h3, updM_ne h2, updM_ne h1]) (fun q hq => rnM_ne (by omega) (by omega)) ⟨IVs_d (C := C) (M := M) h.2.2.2.2.2.1.1 (by rw [zcM_ne (by decide), updM_ne (by decide), updM_eq, upd_ne (by decide)]) (by rw [zcM_ne (by decide), updM_eq, upd_ne (by decide), updM_ne (by decide)]) (fun i hi => by rw [zcM_o (by omega), updM_ne (by decide), updM_ne (by decide)]) (rnM_ne (by decide) (by decide)) (rnM_ne (by decide) (by decide)), IVs_d (C := C) (M := M) h.2.2.2.2.2.1.2.1 (by rw [zcM_ne (by decide), updM_ne (by decide), updM_eq, upd_ne (by decide)]) (by rw [zcM_ne (by decide), updM_eq, upd_ne (by decide), updM_ne (by decide)]) (fun i hi => by rw [zcM_o (by omega), updM_ne (by decide), updM_ne (by decide)]) (rnM_ne (by decide) (by decide)) (rnM_ne (by decide) (by decide)), IVs_d (C := C) (M := M) h.2.2.2.2.2.1.2.2.1 (by rw [zcM_ne (by decide), updM_ne (by decide), updM_eq, upd_ne (by decide)]) (by rw [zcM_ne (by decide), updM_eq, upd_ne (by decide), updM_ne (by decide)]) (fun i hi => by rw [zcM_o (by omega), updM_ne (by decide), updM_ne (by decide)]) (rnM_ne (by decide) (by decide)) (rnM_ne (by decide) (by decide)), ?_⟩
  exact ⟨Or.inr ⟨by rw [r1, zcM_ne (by decide), updM_ne (by decide), updM_eq, upd_eq], by rw [r1]; exact hl⟩, by rw [r2, zcM_ne (by decide), updM_eq, upd_eq], fun i hi => by rw [r3 i hi]; exact zcM_in (by omega)⟩
theorem IV_lay3 {C M : Mem} (h : IV C M) {i : Nat} (hi : i < 40) {v : Int32} : IV (updM C (40 + 1) i v) (updM M 78 (40 * 3 + i) v) := by
  refine IV_sh h (fun q h1 h2 h3 => updM_ne h3) (fun q hq => updM_ne (by omega)) ⟨IVs_d (C := C) (M := M) h.2.2.2.2.2.1.1 (by rw [updM_ne (by decide)]) (by rw [updM_ne (by decide)]) (fun j hj => by rw [updM_eq, upd_ne (by omega)]) (updM_ne (by decide)) (updM_ne (by decide)), IVs_d (C := C) (M := M) h.2.2.2.2.2.1.2.1 (by rw [updM_ne (by decide)]) (by rw [updM_ne (by decide)]) (fun j hj => by rw [updM_eq, upd_ne (by omega)]) (updM_ne (by decide)) (updM_ne (by decide)), IVs_d (C := C) (M := M) h.2.2.2.2.2.1.2.2.1 (by rw [updM_ne (by decide)]) (by rw [updM_ne (by decide)]) (fun j hj => by rw [updM_eq, upd_ne (by omega)]) (updM_ne (by decide)) (updM_ne (by decide)), ?_⟩
  obtain ⟨a, d, f⟩ := h.2.2.2.2.2.1.2.2.2
  refine ⟨by rw [updM_ne (by decide), updM_ne (by decide)]; exact a, by rw [updM_ne (by decide), updM_ne (by decide)]; exact d, fun j hj => ?_⟩
  rw [updM_eq, updM_eq]
  by_cases z : j = i
  · rw [z, upd_eq, upd_eq]
  · rw [upd_ne (by omega), upd_ne z]; exact f j hj
theorem WF_rn3 {C : Mem} (h : WF C) {lane n : Int32} (hl : bt lane 0 2) (hn : bt n 0 40) : WF (rnM C 40 lane n) := by
  obtain ⟨r1, r2, -⟩ := rnM_b (C := C) (b := 40) (lane := lane) (n := n)
  have e : ∀ q, q ≠ 40 → q ≠ 40 + 1 → rnM C 40 lane n q = C q := fun q h1 h2 => rnM_ne h1 h2
  exact ⟨WL_c (fun q h1 h2 => e q (by omega) (by omega)) h.1, WB_c (fun q h1 h2 => e q (by omega) (by omega)) (by rw [e 44 (by decide) (by decide)]) h.2.1, ⟨WI_c (fun q h1 h2 => e q (by omega) (by omega)) (by rw [e 44 (by decide) (by decide)]) (by rw [e 45 (by decide) (by decide)]) (by rw [e 45 (by decide) (by decide)]) h.2.2.1.1, WI_c (fun q h1 h2 => e q (by omega) (by omega)) (by rw [e 44 (by decide) (by decide)]) (by rw [e 45 (by decide) (by decide)]) (by rw [e 45 (by decide) (by decide)]) h.2.2.1.2⟩, WP_c (e 1 (by decide) (by decide)) (e 2 (by decide) (by decide)) h.2.2.2.1, WS_c (e 34 (by decide) (by decide)) h.2.2.2.2.1, WS_c (e 36 (by decide) (by decide)) h.2.2.2.2.2.1, WS_c (e 38 (by decide) (by decide)) h.2.2.2.2.2.2.1, (show WS _ 40 from ⟨by rw [r1]; exact ⟨by have := hl.1; omega, hl.2⟩, by rw [r2]; exact hn⟩)⟩
theorem WF_ly3 {C : Mem} (h : WF C) {i : Nat} {v : Int32} : WF (updM C (40 + 1) i v) := by
  have e : ∀ q, q ≠ 40 + 1 → updM C (40 + 1) i v q = C q := fun q h1 => updM_ne h1
  exact ⟨WL_c (fun q h1 h2 => e q (by omega)) h.1, WB_c (fun q h1 h2 => e q (by omega)) (by rw [e 44 (by decide)]) h.2.1, ⟨WI_c (fun q h1 h2 => e q (by omega)) (by rw [e 44 (by decide)]) (by rw [e 45 (by decide)]) (by rw [e 45 (by decide)]) h.2.2.1.1, WI_c (fun q h1 h2 => e q (by omega)) (by rw [e 44 (by decide)]) (by rw [e 45 (by decide)]) (by rw [e 45 (by decide)]) h.2.2.1.2⟩, WP_c (e 1 (by decide)) (e 2 (by decide)) h.2.2.2.1, WS_c (e 34 (by decide)) h.2.2.2.2.1, WS_c (e 36 (by decide)) h.2.2.2.2.2.1, WS_c (e 38 (by decide)) h.2.2.2.2.2.2.1, WS_c (e 40 (by decide)) h.2.2.2.2.2.2.2⟩
theorem k02' {k : Int32} : (0 ≤ k ∧ k ≤ 2) ↔ (0 ≤ k ∧ k < 3) := by
  rw [Int32.le_iff_toInt_le, Int32.lt_iff_toInt_lt, Int32.le_iff_toInt_le, show (2 : Int32).toInt = 2 by decide, show (3 : Int32).toInt = 3 by decide, Int32.toInt_zero]
  omega
theorem k02b {k : Int32} (h : 0 ≤ k ∧ k ≤ 2) : bt k 0 2 := bt_i h
theorem WF_sheet {C : Mem} (h : WF C) {k lane n : Int32} : WF (sheetU C k lane n) := by
  unfold sheetU
  split
  · rename_i q
    split
    · rename_i q2
      have hl : bt lane 0 2 := k02b (k02'.mpr q.2.1)
      have hn : bt n 0 40 := bt_i ⟨q2, q.2.2⟩
      rcases k4_c q.1 with rfl | rfl | rfl | rfl
      · exact WF_rn0 h hl hn
      · exact WF_rn1 h hl hn
      · exact WF_rn2 h hl hn
      · exact WF_rn3 h hl hn
    · exact h
  · exact h
theorem WF_lay {C : Mem} (h : WF C) {k i v : Int32} : WF (layU C k i v) := by
  unfold layU
  split
  · rename_i q
    split
    · exact h
    · split
      · rcases k4_c q with rfl | rfl | rfl | rfl
        · exact WF_ly0 h
        · exact WF_ly1 h
        · exact WF_ly2 h
        · exact WF_ly3 h
      · exact h
  · exact h
set_option maxRecDepth 100000 in
set_option maxHeartbeats 4000000 in
theorem sem_X8_sheet {C M : Mem} (h : RF C M) {k lane n : Int32} : Sem mX8_sheet SH [.ref 58, .int k, .int lane, .int n] M (RI SH (fun r N => r = sheetV k lane n ∧ RP (sheetU C k lane n) M N)) := by
  refine Sem_of rfl (fun G => (Nat.le_of_ble_eq_true rfl)) (fun G => ?_)
  by_cases hk : 0 ≤ k ∧ k < 4
  · rcases k4_c hk with rfl | rfl | rfl | rfl
    · refine Bd_iload_1 (pc := 0) dX8_sheet_0 ?_
      refine Bd_i2l (pc := 1) dX8_sheet_1 ?_
      refine Bd_lconst (v := 0) (pc := 2) dX8_sheet_2 (by decide) ?_
      refine Bd_ldc2 k_969 (pc := 3) dX8_sheet_3 ?_
      refine Bd_callS3i (cd := mX8_in) (pc := 6) dX8_sheet_6 k_910 v_X8_in ⟨(Nat.le_of_ble_eq_true rfl), (Nat.le_of_ble_eq_true rfl)⟩ (sem_in (a := 0) (b := 3) (by decide) (by decide)) (Nat.le_of_ble_eq_true rfl) ?_
      refine Bd_if_eq (t := 30) (pc := 9) dX8_sheet_9 (by decide) (fun b9 => (show False from absurd ((b2_t (k03.mpr hk)).trans b9) (by decide)).elim) (fun b9 => ?_)
      refine Bd_iload_2 (pc := 12) dX8_sheet_12 ?_
      refine Bd_i2l (pc := 13) dX8_sheet_13 ?_
      refine Bd_lconst (v := 0) (pc := 14) dX8_sheet_14 (by decide) ?_
      refine Bd_ldc2 k_990 (pc := 15) dX8_sheet_15 ?_
      refine Bd_callS3i (cd := mX8_in) (pc := 18) dX8_sheet_18 k_910 v_X8_in ⟨(Nat.le_of_ble_eq_true rfl), (Nat.le_of_ble_eq_true rfl)⟩ (sem_in (a := 0) (b := 2) (by decide) (by decide)) (Nat.le_of_ble_eq_true rfl) ?_
      refine Bd_if_eq (t := 30) (pc := 21) dX8_sheet_21 (by decide) (fun b21 => ?_) (fun b21 => ?_)
      · refine Bd_iconst (v := -1) (pc := 30) dX8_sheet_30 (by decide) ?_
        refine Bd_iret (pc := 31) dX8_sheet_31 rfl ?_
        exact ⟨_, rfl, rfl, by rw [sheetV, if_neg (fun q => b2_0.mp b21 (k02'.mpr q.2.1))], by rw [sheetU, if_neg (fun q => b2_0.mp b21 (k02'.mpr q.2.1))]; exact RP_rf h⟩
      · refine Bd_iload_3 (pc := 24) dX8_sheet_24 ?_
        refine Bd_bipush (v := 40) (pc := 25) dX8_sheet_25 (by decide) ?_
        refine Bd_icmp_le (t := 32) (pc := 27) dX8_sheet_27 (by decide) (fun b27 => ?_) (fun b27 => ?_)
        · refine Bd_iload_3 (pc := 32) dX8_sheet_32 ?_
          refine Bd_if_ge (t := 39) (pc := 33) dX8_sheet_33 (by decide) (fun b33 => ?_) (fun b33 => ?_)
          · refine Bd_aload_0 (pc := 39) dX8_sheet_39 ?_
            refine Bd_getR (j := 34) ck8 (pc := 40) dX8_sheet_40 k_820 rfl (Nat.le_of_ble_eq_true rfl) rfl ?_
            refine Bd_iload_1 (pc := 43) dX8_sheet_43 ?_
            refine Bd_iload_2 (pc := 44) dX8_sheet_44 ?_
            refine Bd_iastc (j := 0) rfl (pc := 45) dX8_sheet_45 rfl (by unfold vp_in; decide) ?_
            refine Bd_aload_0 (pc := 46) dX8_sheet_46 ?_
            refine Bd_getR (j := 35) ck8 (pc := 47) dX8_sheet_47 k_821 rfl (Nat.le_of_ble_eq_true rfl) rfl ?_
            refine Bd_iload_1 (pc := 50) dX8_sheet_50 ?_
            refine Bd_iload_3 (pc := 51) dX8_sheet_51 ?_
            refine Bd_iastc (j := 0) rfl (pc := 52) dX8_sheet_52 rfl (by unfold vp_in; decide) ?_
            refine Bd_iconst (v := 0) (pc := 53) dX8_sheet_53 (by decide) ?_
            refine Bd_istore_4 (pc := 54) dX8_sheet_54 (Nat.le_of_ble_eq_true rfl) rfl ?_
            have hP : shP 0 lane n := ⟨hk, k02'.mp (b2_n.mp b21), b27⟩
            refine Bd_cM ?_ (zcM_0 (k := 0))
            refine Bd_nx (L' := (fun i => [some (.ref 58), some (.int 0), some (.int lane), some (.int n), some (.int (nI i))]) 0) ?_ (by repeat (first | exact True.intro | refine And.intro rfl ?_))
            refine Bd_for (pc := 56) (c := 40) (fun i => [some (.ref 58), some (.int 0), some (.int lane), some (.int n), some (.int (nI i))]) (fun i => zcM (updM (updM M 76 0 lane) 77 0 n) 0 i) (fun _ => True) (fun ivi => ?_) (fun i hi ivi ihi => ?_) trivial
            · refine Bd_iload_4 (pc := 56) dX8_sheet_56 ?_
              refine Bd_bipush (v := 40) (pc := 58) dX8_sheet_58 (by decide) ?_
              refine Bd_icmp_ge (t := 82) (pc := 60) dX8_sheet_60 (by decide) (fun b60 => ?_) (fun b60 => (show False from lf_x (rfl : (40 : Int32) = nI 40) b60).elim)
              refine Bd_iconst (v := 1) (pc := 82) dX8_sheet_82 (by decide) ?_
              refine Bd_iret (pc := 83) dX8_sheet_83 rfl ?_
              exact ⟨_, rfl, rfl, by rw [sheetV, if_pos hP, if_pos b33], by rw [sheetU, if_pos hP, if_pos b33]; exact IV_sheet0 h.2 (k02b (b2_n.mp b21)), fun q hq => by rw [zcM_ne (by omega), updM_ne (by omega), updM_ne (by omega)]⟩
            · refine Bd_iload_4 (pc := 56) dX8_sheet_56 ?_
              refine Bd_bipush (v := 40) (pc := 58) dX8_sheet_58 (by decide) ?_
              refine Bd_icmp_ge (t := 82) (pc := 60) dX8_sheet_60 (by decide) (fun b60 => (show False from lf_s (rfl : (40 : Int32) = nI 40) (by decide) hi b60).elim) (fun b60 => ?_)
              refine Bd_aload_0 (pc := 63) dX8_sheet_63 ?_
              refine Bd_getR (j := 36) ck8 (pc := 64) dX8_sheet_64 k_822 rfl (Nat.le_of_ble_eq_true rfl) rfl ?_
              refine Bd_bipush (v := 40) (pc := 67) dX8_sheet_67 (by decide) ?_
              refine Bd_iload_1 (pc := 69) dX8_sheet_69 ?_
              refine Bd_imul (pc := 70) dX8_sheet_70 ?_
              refine Bd_iload_4 (pc := 71) dX8_sheet_71 ?_
              refine Bd_iadd (pc := 73) dX8_sheet_73 ?_
              refine Bd_iconst (v := 0) (pc := 74) dX8_sheet_74 (by decide) ?_
              refine Bd_iastc (j := 40 * 0 + i) (by rw [show (40 * 0 + nI i : Int32) = nI (40 * 0 + i) from c40 0 (by decide) i hi]; exact nI_clamp (by omega)) (pc := 75) dX8_sheet_75 rfl (by rw [show (40 * 0 + nI i : Int32) = nI (40 * 0 + i) from c40 0 (by decide) i hi]; exact vpi (by omega) (by omega)) ?_
              refine Bd_iinc_4 (pc := 76) dX8_sheet_76 (show _ + Int32.ofInt 1 = _ + 1 from rfl) (Nat.le_of_ble_eq_true rfl) rfl ?_
              refine Bd_goto (t := 56) (pc := 79) dX8_sheet_79 (by decide) ?_
              rw [← zcM_s]
              exact Bd_nx (ihi trivial) ⟨rfl, rfl, rfl, rfl, congrArg (fun x => some (Value.int x)) (nI_succ i).symm, trivial⟩
          · refine Bd_bipush (v := -14) (pc := 36) dX8_sheet_36 (by decide) ?_
            refine Bd_iret (pc := 38) dX8_sheet_38 rfl ?_
            have hP : shP 0 lane n := ⟨hk, k02'.mp (b2_n.mp b21), b27⟩
            exact ⟨_, rfl, rfl, by rw [sheetV, if_pos hP, if_neg b33], by rw [sheetU, if_pos hP, if_neg b33]; exact RP_rf h⟩
        · refine Bd_iconst (v := -1) (pc := 30) dX8_sheet_30 (by decide) ?_
          refine Bd_iret (pc := 31) dX8_sheet_31 rfl ?_
          exact ⟨_, rfl, rfl, by rw [sheetV, if_neg (fun q => b27 q.2.2)], by rw [sheetU, if_neg (fun q => b27 q.2.2)]; exact RP_rf h⟩
    · refine Bd_iload_1 (pc := 0) dX8_sheet_0 ?_
      refine Bd_i2l (pc := 1) dX8_sheet_1 ?_
      refine Bd_lconst (v := 0) (pc := 2) dX8_sheet_2 (by decide) ?_
      refine Bd_ldc2 k_969 (pc := 3) dX8_sheet_3 ?_
      refine Bd_callS3i (cd := mX8_in) (pc := 6) dX8_sheet_6 k_910 v_X8_in ⟨(Nat.le_of_ble_eq_true rfl), (Nat.le_of_ble_eq_true rfl)⟩ (sem_in (a := 0) (b := 3) (by decide) (by decide)) (Nat.le_of_ble_eq_true rfl) ?_
      refine Bd_if_eq (t := 30) (pc := 9) dX8_sheet_9 (by decide) (fun b9 => (show False from absurd ((b2_t (k03.mpr hk)).trans b9) (by decide)).elim) (fun b9 => ?_)
      refine Bd_iload_2 (pc := 12) dX8_sheet_12 ?_
      refine Bd_i2l (pc := 13) dX8_sheet_13 ?_
      refine Bd_lconst (v := 0) (pc := 14) dX8_sheet_14 (by decide) ?_
      refine Bd_ldc2 k_990 (pc := 15) dX8_sheet_15 ?_
      refine Bd_callS3i (cd := mX8_in) (pc := 18) dX8_sheet_18 k_910 v_X8_in ⟨(Nat.le_of_ble_eq_true rfl), (Nat.le_of_ble_eq_true rfl)⟩ (sem_in (a := 0) (b := 2) (by decide) (by decide)) (Nat.le_of_ble_eq_true rfl) ?_
      refine Bd_if_eq (t := 30) (pc := 21) dX8_sheet_21 (by decide) (fun b21 => ?_) (fun b21 => ?_)
      · refine Bd_iconst (v := -1) (pc := 30) dX8_sheet_30 (by decide) ?_
        refine Bd_iret (pc := 31) dX8_sheet_31 rfl ?_
        exact ⟨_, rfl, rfl, by rw [sheetV, if_neg (fun q => b2_0.mp b21 (k02'.mpr q.2.1))], by rw [sheetU, if_neg (fun q => b2_0.mp b21 (k02'.mpr q.2.1))]; exact RP_rf h⟩
      · refine Bd_iload_3 (pc := 24) dX8_sheet_24 ?_
        refine Bd_bipush (v := 40) (pc := 25) dX8_sheet_25 (by decide) ?_
        refine Bd_icmp_le (t := 32) (pc := 27) dX8_sheet_27 (by decide) (fun b27 => ?_) (fun b27 => ?_)
        · refine Bd_iload_3 (pc := 32) dX8_sheet_32 ?_
          refine Bd_if_ge (t := 39) (pc := 33) dX8_sheet_33 (by decide) (fun b33 => ?_) (fun b33 => ?_)
          · refine Bd_aload_0 (pc := 39) dX8_sheet_39 ?_
            refine Bd_getR (j := 34) ck8 (pc := 40) dX8_sheet_40 k_820 rfl (Nat.le_of_ble_eq_true rfl) rfl ?_
            refine Bd_iload_1 (pc := 43) dX8_sheet_43 ?_
            refine Bd_iload_2 (pc := 44) dX8_sheet_44 ?_
            refine Bd_iastc (j := 1) rfl (pc := 45) dX8_sheet_45 rfl (by unfold vp_in; decide) ?_
            refine Bd_aload_0 (pc := 46) dX8_sheet_46 ?_
            refine Bd_getR (j := 35) ck8 (pc := 47) dX8_sheet_47 k_821 rfl (Nat.le_of_ble_eq_true rfl) rfl ?_
            refine Bd_iload_1 (pc := 50) dX8_sheet_50 ?_
            refine Bd_iload_3 (pc := 51) dX8_sheet_51 ?_
            refine Bd_iastc (j := 1) rfl (pc := 52) dX8_sheet_52 rfl (by unfold vp_in; decide) ?_
            refine Bd_iconst (v := 0) (pc := 53) dX8_sheet_53 (by decide) ?_
            refine Bd_istore_4 (pc := 54) dX8_sheet_54 (Nat.le_of_ble_eq_true rfl) rfl ?_
            have hP : shP 1 lane n := ⟨hk, k02'.mp (b2_n.mp b21), b27⟩
            refine Bd_cM ?_ (zcM_0 (k := 1))
            refine Bd_nx (L' := (fun i => [some (.ref 58), some (.int 1), some (.int lane), some (.int n), some (.int (nI i))]) 0) ?_ (by repeat (first | exact True.intro | refine And.intro rfl ?_))
            refine Bd_for (pc := 56) (c := 40) (fun i => [some (.ref 58), some (.int 1), some (.int lane), some (.int n), some (.int (nI i))]) (fun i => zcM (updM (updM M 76 1 lane) 77 1 n) 1 i) (fun _ => True) (fun ivi => ?_) (fun i hi ivi ihi => ?_) trivial
            · refine Bd_iload_4 (pc := 56) dX8_sheet_56 ?_
              refine Bd_bipush (v := 40) (pc := 58) dX8_sheet_58 (by decide) ?_
              refine Bd_icmp_ge (t := 82) (pc := 60) dX8_sheet_60 (by decide) (fun b60 => ?_) (fun b60 => (show False from lf_x (rfl : (40 : Int32) = nI 40) b60).elim)
              refine Bd_iconst (v := 1) (pc := 82) dX8_sheet_82 (by decide) ?_
              refine Bd_iret (pc := 83) dX8_sheet_83 rfl ?_
              exact ⟨_, rfl, rfl, by rw [sheetV, if_pos hP, if_pos b33], by rw [sheetU, if_pos hP, if_pos b33]; exact IV_sheet1 h.2 (k02b (b2_n.mp b21)), fun q hq => by rw [zcM_ne (by omega), updM_ne (by omega), updM_ne (by omega)]⟩
            · refine Bd_iload_4 (pc := 56) dX8_sheet_56 ?_
              refine Bd_bipush (v := 40) (pc := 58) dX8_sheet_58 (by decide) ?_
              refine Bd_icmp_ge (t := 82) (pc := 60) dX8_sheet_60 (by decide) (fun b60 => (show False from lf_s (rfl : (40 : Int32) = nI 40) (by decide) hi b60).elim) (fun b60 => ?_)
              refine Bd_aload_0 (pc := 63) dX8_sheet_63 ?_
              refine Bd_getR (j := 36) ck8 (pc := 64) dX8_sheet_64 k_822 rfl (Nat.le_of_ble_eq_true rfl) rfl ?_
              refine Bd_bipush (v := 40) (pc := 67) dX8_sheet_67 (by decide) ?_
              refine Bd_iload_1 (pc := 69) dX8_sheet_69 ?_
              refine Bd_imul (pc := 70) dX8_sheet_70 ?_
              refine Bd_iload_4 (pc := 71) dX8_sheet_71 ?_
              refine Bd_iadd (pc := 73) dX8_sheet_73 ?_
              refine Bd_iconst (v := 0) (pc := 74) dX8_sheet_74 (by decide) ?_
              refine Bd_iastc (j := 40 * 1 + i) (by rw [show (40 * 1 + nI i : Int32) = nI (40 * 1 + i) from c40 1 (by decide) i hi]; exact nI_clamp (by omega)) (pc := 75) dX8_sheet_75 rfl (by rw [show (40 * 1 + nI i : Int32) = nI (40 * 1 + i) from c40 1 (by decide) i hi]; exact vpi (by omega) (by omega)) ?_
              refine Bd_iinc_4 (pc := 76) dX8_sheet_76 (show _ + Int32.ofInt 1 = _ + 1 from rfl) (Nat.le_of_ble_eq_true rfl) rfl ?_
              refine Bd_goto (t := 56) (pc := 79) dX8_sheet_79 (by decide) ?_
              rw [← zcM_s]
              exact Bd_nx (ihi trivial) ⟨rfl, rfl, rfl, rfl, congrArg (fun x => some (Value.int x)) (nI_succ i).symm, trivial⟩
          · refine Bd_bipush (v := -14) (pc := 36) dX8_sheet_36 (by decide) ?_
            refine Bd_iret (pc := 38) dX8_sheet_38 rfl ?_
            have hP : shP 1 lane n := ⟨hk, k02'.mp (b2_n.mp b21), b27⟩
            exact ⟨_, rfl, rfl, by rw [sheetV, if_pos hP, if_neg b33], by rw [sheetU, if_pos hP, if_neg b33]; exact RP_rf h⟩
        · refine Bd_iconst (v := -1) (pc := 30) dX8_sheet_30 (by decide) ?_
          refine Bd_iret (pc := 31) dX8_sheet_31 rfl ?_
          exact ⟨_, rfl, rfl, by rw [sheetV, if_neg (fun q => b27 q.2.2)], by rw [sheetU, if_neg (fun q => b27 q.2.2)]; exact RP_rf h⟩
    · refine Bd_iload_1 (pc := 0) dX8_sheet_0 ?_
      refine Bd_i2l (pc := 1) dX8_sheet_1 ?_
      refine Bd_lconst (v := 0) (pc := 2) dX8_sheet_2 (by decide) ?_
      refine Bd_ldc2 k_969 (pc := 3) dX8_sheet_3 ?_
      refine Bd_callS3i (cd := mX8_in) (pc := 6) dX8_sheet_6 k_910 v_X8_in ⟨(Nat.le_of_ble_eq_true rfl), (Nat.le_of_ble_eq_true rfl)⟩ (sem_in (a := 0) (b := 3) (by decide) (by decide)) (Nat.le_of_ble_eq_true rfl) ?_
      refine Bd_if_eq (t := 30) (pc := 9) dX8_sheet_9 (by decide) (fun b9 => (show False from absurd ((b2_t (k03.mpr hk)).trans b9) (by decide)).elim) (fun b9 => ?_)
      refine Bd_iload_2 (pc := 12) dX8_sheet_12 ?_
      refine Bd_i2l (pc := 13) dX8_sheet_13 ?_
      refine Bd_lconst (v := 0) (pc := 14) dX8_sheet_14 (by decide) ?_
      refine Bd_ldc2 k_990 (pc := 15) dX8_sheet_15 ?_
      refine Bd_callS3i (cd := mX8_in) (pc := 18) dX8_sheet_18 k_910 v_X8_in ⟨(Nat.le_of_ble_eq_true rfl), (Nat.le_of_ble_eq_true rfl)⟩ (sem_in (a := 0) (b := 2) (by decide) (by decide)) (Nat.le_of_ble_eq_true rfl) ?_
      refine Bd_if_eq (t := 30) (pc := 21) dX8_sheet_21 (by decide) (fun b21 => ?_) (fun b21 => ?_)
      · refine Bd_iconst (v := -1) (pc := 30) dX8_sheet_30 (by decide) ?_
        refine Bd_iret (pc := 31) dX8_sheet_31 rfl ?_
        exact ⟨_, rfl, rfl, by rw [sheetV, if_neg (fun q => b2_0.mp b21 (k02'.mpr q.2.1))], by rw [sheetU, if_neg (fun q => b2_0.mp b21 (k02'.mpr q.2.1))]; exact RP_rf h⟩
      · refine Bd_iload_3 (pc := 24) dX8_sheet_24 ?_
        refine Bd_bipush (v := 40) (pc := 25) dX8_sheet_25 (by decide) ?_
        refine Bd_icmp_le (t := 32) (pc := 27) dX8_sheet_27 (by decide) (fun b27 => ?_) (fun b27 => ?_)
        · refine Bd_iload_3 (pc := 32) dX8_sheet_32 ?_
          refine Bd_if_ge (t := 39) (pc := 33) dX8_sheet_33 (by decide) (fun b33 => ?_) (fun b33 => ?_)
          · refine Bd_aload_0 (pc := 39) dX8_sheet_39 ?_
            refine Bd_getR (j := 34) ck8 (pc := 40) dX8_sheet_40 k_820 rfl (Nat.le_of_ble_eq_true rfl) rfl ?_
            refine Bd_iload_1 (pc := 43) dX8_sheet_43 ?_
            refine Bd_iload_2 (pc := 44) dX8_sheet_44 ?_
            refine Bd_iastc (j := 2) rfl (pc := 45) dX8_sheet_45 rfl (by unfold vp_in; decide) ?_
            refine Bd_aload_0 (pc := 46) dX8_sheet_46 ?_
            refine Bd_getR (j := 35) ck8 (pc := 47) dX8_sheet_47 k_821 rfl (Nat.le_of_ble_eq_true rfl) rfl ?_
            refine Bd_iload_1 (pc := 50) dX8_sheet_50 ?_
            refine Bd_iload_3 (pc := 51) dX8_sheet_51 ?_
            refine Bd_iastc (j := 2) rfl (pc := 52) dX8_sheet_52 rfl (by unfold vp_in; decide) ?_
            refine Bd_iconst (v := 0) (pc := 53) dX8_sheet_53 (by decide) ?_
            refine Bd_istore_4 (pc := 54) dX8_sheet_54 (Nat.le_of_ble_eq_true rfl) rfl ?_
            have hP : shP 2 lane n := ⟨hk, k02'.mp (b2_n.mp b21), b27⟩
            refine Bd_cM ?_ (zcM_0 (k := 2))
            refine Bd_nx (L' := (fun i => [some (.ref 58), some (.int 2), some (.int lane), some (.int n), some (.int (nI i))]) 0) ?_ (by repeat (first | exact True.intro | refine And.intro rfl ?_))
            refine Bd_for (pc := 56) (c := 40) (fun i => [some (.ref 58), some (.int 2), some (.int lane), some (.int n), some (.int (nI i))]) (fun i => zcM (updM (updM M 76 2 lane) 77 2 n) 2 i) (fun _ => True) (fun ivi => ?_) (fun i hi ivi ihi => ?_) trivial
            · refine Bd_iload_4 (pc := 56) dX8_sheet_56 ?_
              refine Bd_bipush (v := 40) (pc := 58) dX8_sheet_58 (by decide) ?_
              refine Bd_icmp_ge (t := 82) (pc := 60) dX8_sheet_60 (by decide) (fun b60 => ?_) (fun b60 => (show False from lf_x (rfl : (40 : Int32) = nI 40) b60).elim)
              refine Bd_iconst (v := 1) (pc := 82) dX8_sheet_82 (by decide) ?_
              refine Bd_iret (pc := 83) dX8_sheet_83 rfl ?_
              exact ⟨_, rfl, rfl, by rw [sheetV, if_pos hP, if_pos b33], by rw [sheetU, if_pos hP, if_pos b33]; exact IV_sheet2 h.2 (k02b (b2_n.mp b21)), fun q hq => by rw [zcM_ne (by omega), updM_ne (by omega), updM_ne (by omega)]⟩
            · refine Bd_iload_4 (pc := 56) dX8_sheet_56 ?_
              refine Bd_bipush (v := 40) (pc := 58) dX8_sheet_58 (by decide) ?_
              refine Bd_icmp_ge (t := 82) (pc := 60) dX8_sheet_60 (by decide) (fun b60 => (show False from lf_s (rfl : (40 : Int32) = nI 40) (by decide) hi b60).elim) (fun b60 => ?_)
              refine Bd_aload_0 (pc := 63) dX8_sheet_63 ?_
              refine Bd_getR (j := 36) ck8 (pc := 64) dX8_sheet_64 k_822 rfl (Nat.le_of_ble_eq_true rfl) rfl ?_
              refine Bd_bipush (v := 40) (pc := 67) dX8_sheet_67 (by decide) ?_
              refine Bd_iload_1 (pc := 69) dX8_sheet_69 ?_
              refine Bd_imul (pc := 70) dX8_sheet_70 ?_
              refine Bd_iload_4 (pc := 71) dX8_sheet_71 ?_
              refine Bd_iadd (pc := 73) dX8_sheet_73 ?_
              refine Bd_iconst (v := 0) (pc := 74) dX8_sheet_74 (by decide) ?_
              refine Bd_iastc (j := 40 * 2 + i) (by rw [show (40 * 2 + nI i : Int32) = nI (40 * 2 + i) from c40 2 (by decide) i hi]; exact nI_clamp (by omega)) (pc := 75) dX8_sheet_75 rfl (by rw [show (40 * 2 + nI i : Int32) = nI (40 * 2 + i) from c40 2 (by decide) i hi]; exact vpi (by omega) (by omega)) ?_
              refine Bd_iinc_4 (pc := 76) dX8_sheet_76 (show _ + Int32.ofInt 1 = _ + 1 from rfl) (Nat.le_of_ble_eq_true rfl) rfl ?_
              refine Bd_goto (t := 56) (pc := 79) dX8_sheet_79 (by decide) ?_
              rw [← zcM_s]
              exact Bd_nx (ihi trivial) ⟨rfl, rfl, rfl, rfl, congrArg (fun x => some (Value.int x)) (nI_succ i).symm, trivial⟩
          · refine Bd_bipush (v := -14) (pc := 36) dX8_sheet_36 (by decide) ?_
            refine Bd_iret (pc := 38) dX8_sheet_38 rfl ?_
            have hP : shP 2 lane n := ⟨hk, k02'.mp (b2_n.mp b21), b27⟩
            exact ⟨_, rfl, rfl, by rw [sheetV, if_pos hP, if_neg b33], by rw [sheetU, if_pos hP, if_neg b33]; exact RP_rf h⟩
        · refine Bd_iconst (v := -1) (pc := 30) dX8_sheet_30 (by decide) ?_
          refine Bd_iret (pc := 31) dX8_sheet_31 rfl ?_
          exact ⟨_, rfl, rfl, by rw [sheetV, if_neg (fun q => b27 q.2.2)], by rw [sheetU, if_neg (fun q => b27 q.2.2)]; exact RP_rf h⟩
    · refine Bd_iload_1 (pc := 0) dX8_sheet_0 ?_
      refine Bd_i2l (pc := 1) dX8_sheet_1 ?_
      refine Bd_lconst (v := 0) (pc := 2) dX8_sheet_2 (by decide) ?_
      refine Bd_ldc2 k_969 (pc := 3) dX8_sheet_3 ?_
      refine Bd_callS3i (cd := mX8_in) (pc := 6) dX8_sheet_6 k_910 v_X8_in ⟨(Nat.le_of_ble_eq_true rfl), (Nat.le_of_ble_eq_true rfl)⟩ (sem_in (a := 0) (b := 3) (by decide) (by decide)) (Nat.le_of_ble_eq_true rfl) ?_
      refine Bd_if_eq (t := 30) (pc := 9) dX8_sheet_9 (by decide) (fun b9 => (show False from absurd ((b2_t (k03.mpr hk)).trans b9) (by decide)).elim) (fun b9 => ?_)
      refine Bd_iload_2 (pc := 12) dX8_sheet_12 ?_
      refine Bd_i2l (pc := 13) dX8_sheet_13 ?_
      refine Bd_lconst (v := 0) (pc := 14) dX8_sheet_14 (by decide) ?_
      refine Bd_ldc2 k_990 (pc := 15) dX8_sheet_15 ?_
      refine Bd_callS3i (cd := mX8_in) (pc := 18) dX8_sheet_18 k_910 v_X8_in ⟨(Nat.le_of_ble_eq_true rfl), (Nat.le_of_ble_eq_true rfl)⟩ (sem_in (a := 0) (b := 2) (by decide) (by decide)) (Nat.le_of_ble_eq_true rfl) ?_
      refine Bd_if_eq (t := 30) (pc := 21) dX8_sheet_21 (by decide) (fun b21 => ?_) (fun b21 => ?_)
      · refine Bd_iconst (v := -1) (pc := 30) dX8_sheet_30 (by decide) ?_
        refine Bd_iret (pc := 31) dX8_sheet_31 rfl ?_
        exact ⟨_, rfl, rfl, by rw [sheetV, if_neg (fun q => b2_0.mp b21 (k02'.mpr q.2.1))], by rw [sheetU, if_neg (fun q => b2_0.mp b21 (k02'.mpr q.2.1))]; exact RP_rf h⟩
      · refine Bd_iload_3 (pc := 24) dX8_sheet_24 ?_
        refine Bd_bipush (v := 40) (pc := 25) dX8_sheet_25 (by decide) ?_
        refine Bd_icmp_le (t := 32) (pc := 27) dX8_sheet_27 (by decide) (fun b27 => ?_) (fun b27 => ?_)
        · refine Bd_iload_3 (pc := 32) dX8_sheet_32 ?_
          refine Bd_if_ge (t := 39) (pc := 33) dX8_sheet_33 (by decide) (fun b33 => ?_) (fun b33 => ?_)
          · refine Bd_aload_0 (pc := 39) dX8_sheet_39 ?_
            refine Bd_getR (j := 34) ck8 (pc := 40) dX8_sheet_40 k_820 rfl (Nat.le_of_ble_eq_true rfl) rfl ?_
            refine Bd_iload_1 (pc := 43) dX8_sheet_43 ?_
            refine Bd_iload_2 (pc := 44) dX8_sheet_44 ?_
            refine Bd_iastc (j := 3) rfl (pc := 45) dX8_sheet_45 rfl (by unfold vp_in; decide) ?_
            refine Bd_aload_0 (pc := 46) dX8_sheet_46 ?_
            refine Bd_getR (j := 35) ck8 (pc := 47) dX8_sheet_47 k_821 rfl (Nat.le_of_ble_eq_true rfl) rfl ?_
            refine Bd_iload_1 (pc := 50) dX8_sheet_50 ?_
            refine Bd_iload_3 (pc := 51) dX8_sheet_51 ?_
            refine Bd_iastc (j := 3) rfl (pc := 52) dX8_sheet_52 rfl (by unfold vp_in; decide) ?_
            refine Bd_iconst (v := 0) (pc := 53) dX8_sheet_53 (by decide) ?_
            refine Bd_istore_4 (pc := 54) dX8_sheet_54 (Nat.le_of_ble_eq_true rfl) rfl ?_
            have hP : shP 3 lane n := ⟨hk, k02'.mp (b2_n.mp b21), b27⟩
            refine Bd_cM ?_ (zcM_0 (k := 3))
            refine Bd_nx (L' := (fun i => [some (.ref 58), some (.int 3), some (.int lane), some (.int n), some (.int (nI i))]) 0) ?_ (by repeat (first | exact True.intro | refine And.intro rfl ?_))
            refine Bd_for (pc := 56) (c := 40) (fun i => [some (.ref 58), some (.int 3), some (.int lane), some (.int n), some (.int (nI i))]) (fun i => zcM (updM (updM M 76 3 lane) 77 3 n) 3 i) (fun _ => True) (fun ivi => ?_) (fun i hi ivi ihi => ?_) trivial
            · refine Bd_iload_4 (pc := 56) dX8_sheet_56 ?_
              refine Bd_bipush (v := 40) (pc := 58) dX8_sheet_58 (by decide) ?_
              refine Bd_icmp_ge (t := 82) (pc := 60) dX8_sheet_60 (by decide) (fun b60 => ?_) (fun b60 => (show False from lf_x (rfl : (40 : Int32) = nI 40) b60).elim)
              refine Bd_iconst (v := 1) (pc := 82) dX8_sheet_82 (by decide) ?_
              refine Bd_iret (pc := 83) dX8_sheet_83 rfl ?_
              exact ⟨_, rfl, rfl, by rw [sheetV, if_pos hP, if_pos b33], by rw [sheetU, if_pos hP, if_pos b33]; exact IV_sheet3 h.2 (k02b (b2_n.mp b21)), fun q hq => by rw [zcM_ne (by omega), updM_ne (by omega), updM_ne (by omega)]⟩
            · refine Bd_iload_4 (pc := 56) dX8_sheet_56 ?_
              refine Bd_bipush (v := 40) (pc := 58) dX8_sheet_58 (by decide) ?_
              refine Bd_icmp_ge (t := 82) (pc := 60) dX8_sheet_60 (by decide) (fun b60 => (show False from lf_s (rfl : (40 : Int32) = nI 40) (by decide) hi b60).elim) (fun b60 => ?_)
              refine Bd_aload_0 (pc := 63) dX8_sheet_63 ?_
              refine Bd_getR (j := 36) ck8 (pc := 64) dX8_sheet_64 k_822 rfl (Nat.le_of_ble_eq_true rfl) rfl ?_
              refine Bd_bipush (v := 40) (pc := 67) dX8_sheet_67 (by decide) ?_
              refine Bd_iload_1 (pc := 69) dX8_sheet_69 ?_
              refine Bd_imul (pc := 70) dX8_sheet_70 ?_
              refine Bd_iload_4 (pc := 71) dX8_sheet_71 ?_
              refine Bd_iadd (pc := 73) dX8_sheet_73 ?_
              refine Bd_iconst (v := 0) (pc := 74) dX8_sheet_74 (by decide) ?_
              refine Bd_iastc (j := 40 * 3 + i) (by rw [show (40 * 3 + nI i : Int32) = nI (40 * 3 + i) from c40 3 (by decide) i hi]; exact nI_clamp (by omega)) (pc := 75) dX8_sheet_75 rfl (by rw [show (40 * 3 + nI i : Int32) = nI (40 * 3 + i) from c40 3 (by decide) i hi]; exact vpi (by omega) (by omega)) ?_
              refine Bd_iinc_4 (pc := 76) dX8_sheet_76 (show _ + Int32.ofInt 1 = _ + 1 from rfl) (Nat.le_of_ble_eq_true rfl) rfl ?_
              refine Bd_goto (t := 56) (pc := 79) dX8_sheet_79 (by decide) ?_
              rw [← zcM_s]
              exact Bd_nx (ihi trivial) ⟨rfl, rfl, rfl, rfl, congrArg (fun x => some (Value.int x)) (nI_succ i).symm, trivial⟩
          · refine Bd_bipush (v := -14) (pc := 36) dX8_sheet_36 (by decide) ?_
            refine Bd_iret (pc := 38) dX8_sheet_38 rfl ?_
            have hP : shP 3 lane n := ⟨hk, k02'.mp (b2_n.mp b21), b27⟩
            exact ⟨_, rfl, rfl, by rw [sheetV, if_pos hP, if_neg b33], by rw [sheetU, if_pos hP, if_neg b33]; exact RP_rf h⟩
        · refine Bd_iconst (v := -1) (pc := 30) dX8_sheet_30 (by decide) ?_
          refine Bd_iret (pc := 31) dX8_sheet_31 rfl ?_
          exact ⟨_, rfl, rfl, by rw [sheetV, if_neg (fun q => b27 q.2.2)], by rw [sheetU, if_neg (fun q => b27 q.2.2)]; exact RP_rf h⟩
  · refine Bd_iload_1 (pc := 0) dX8_sheet_0 ?_
    refine Bd_i2l (pc := 1) dX8_sheet_1 ?_
    refine Bd_lconst (v := 0) (pc := 2) dX8_sheet_2 (by decide) ?_
    refine Bd_ldc2 k_969 (pc := 3) dX8_sheet_3 ?_
    refine Bd_callS3i (cd := mX8_in) (pc := 6) dX8_sheet_6 k_910 v_X8_in ⟨(Nat.le_of_ble_eq_true rfl), (Nat.le_of_ble_eq_true rfl)⟩ (sem_in (a := 0) (b := 3) (by decide) (by decide)) (Nat.le_of_ble_eq_true rfl) ?_
    refine Bd_if_eq (t := 30) (pc := 9) dX8_sheet_9 (by decide) (fun b9 => ?_) (fun b9 => (show False from b9 (b2_f (fun z => hk (k03.mp z))).symm).elim)
    refine Bd_iconst (v := -1) (pc := 30) dX8_sheet_30 (by decide) ?_
    refine Bd_iret (pc := 31) dX8_sheet_31 rfl ?_
    exact ⟨_, rfl, rfl, by rw [sheetV, if_neg (fun q => hk q.1)], by rw [sheetU, if_neg (fun q => hk q.1)]; exact RP_rf h⟩
set_option maxRecDepth 100000 in
set_option maxHeartbeats 4000000 in
theorem sem_X8_lay {C M : Mem} (h : RF C M) {k i v : Int32} : Sem mX8_lay SH [.ref 58, .int k, .int i, .int v] M (RI SH (fun r N => r = layV C k i ∧ RP (layU C k i v) M N)) := by
  refine Sem_of rfl (fun G => (Nat.le_of_ble_eq_true rfl)) (fun G => ?_)
  by_cases hk : 0 ≤ k ∧ k < 4
  · rcases k4_c hk with rfl | rfl | rfl | rfl
    · refine Bd_iload_1 (pc := 0) dX8_lay_0 ?_
      refine Bd_i2l (pc := 1) dX8_lay_1 ?_
      refine Bd_lconst (v := 0) (pc := 2) dX8_lay_2 (by decide) ?_
      refine Bd_ldc2 k_969 (pc := 3) dX8_lay_3 ?_
      refine Bd_callS3i (cd := mX8_in) (pc := 6) dX8_lay_6 k_910 v_X8_in ⟨(Nat.le_of_ble_eq_true rfl), (Nat.le_of_ble_eq_true rfl)⟩ (sem_in (a := 0) (b := 3) (by decide) (by decide)) (Nat.le_of_ble_eq_true rfl) ?_
      refine Bd_if_ne (t := 14) (pc := 9) dX8_lay_9 (by decide) (fun b9 => ?_) (fun b9 => (show False from absurd ((b2_t (k03.mpr hk)).trans b9) (by decide)).elim)
      refine Bd_aload_0 (pc := 14) dX8_lay_14 ?_
      refine Bd_getR (j := 34) ck8 (pc := 15) dX8_lay_15 k_820 rfl (Nat.le_of_ble_eq_true rfl) rfl ?_
      refine Bd_iload_1 (pc := 18) dX8_lay_18 ?_
      refine Bd_ialdc (j := 0) rfl (pc := 19) dX8_lay_19 rfl (by unfold vp_in; decide) ?_
      refine Bd_bipush (v := -4) (pc := 20) dX8_lay_20 (by decide) ?_
      refine Bd_icmp_ne (t := 28) (pc := 22) dX8_lay_22 (by decide) (fun b22 => ?_) (fun b22 => ?_)
      · refine Bd_iload_2 (pc := 28) dX8_lay_28 ?_
        refine Bd_i2l (pc := 29) dX8_lay_29 ?_
        refine Bd_lconst (v := 0) (pc := 30) dX8_lay_30 (by decide) ?_
        refine Bd_aload_0 (pc := 31) dX8_lay_31 ?_
        refine Bd_getR (j := 35) ck8 (pc := 32) dX8_lay_32 k_821 rfl (Nat.le_of_ble_eq_true rfl) rfl ?_
        refine Bd_iload_1 (pc := 35) dX8_lay_35 ?_
        refine Bd_ialdc (j := 0) rfl (pc := 36) dX8_lay_36 rfl (by unfold vp_in; decide) ?_
        refine Bd_iconst (v := 1) (pc := 37) dX8_lay_37 (by decide) ?_
        refine Bd_isub (pc := 38) dX8_lay_38 ?_
        refine Bd_i2l (pc := 39) dX8_lay_39 ?_
        refine Bd_callS3i (cd := mX8_in) (pc := 40) dX8_lay_40 k_910 v_X8_in ⟨(Nat.le_of_ble_eq_true rfl), (Nat.le_of_ble_eq_true rfl)⟩ (sem_in (a := 0) (by decide) rfl) (Nat.le_of_ble_eq_true rfl) ?_
        refine Bd_if_ne (t := 49) (pc := 43) dX8_lay_43 (by decide) (fun b43 => ?_) (fun b43 => ?_)
        · have qi := b2_n.mp b43
          rw [show M 77 0 = C 34 2 from h.2.2.2.2.2.2.1.1.2.1, in_pred h.1.2.2.2.2.1.2.1] at qi
          have hv := vp_cn (n := 40) (vpP qi h.1.2.2.2.2.1.2.2) (by omega)
          have e40 : (40 * 0 + i : Int32) = nI (40 * 0 + cn i) := by rw [← c40 0 (by decide) _ hv.2, ← hv.1]; rfl
          refine Bd_aload_0 (pc := 49) dX8_lay_49 ?_
          refine Bd_getR (j := 36) ck8 (pc := 50) dX8_lay_50 k_822 rfl (Nat.le_of_ble_eq_true rfl) rfl ?_
          refine Bd_bipush (v := 40) (pc := 53) dX8_lay_53 (by decide) ?_
          refine Bd_iload_1 (pc := 55) dX8_lay_55 ?_
          refine Bd_imul (pc := 56) dX8_lay_56 ?_
          refine Bd_iload_2 (pc := 57) dX8_lay_57 ?_
          refine Bd_iadd (pc := 58) dX8_lay_58 ?_
          refine Bd_aload_0 (pc := 59) dX8_lay_59 ?_
          refine Bd_getR (j := 34) ck8 (pc := 60) dX8_lay_60 k_820 rfl (Nat.le_of_ble_eq_true rfl) rfl ?_
          refine Bd_iload_1 (pc := 63) dX8_lay_63 ?_
          refine Bd_ialdc (j := 0) rfl (pc := 64) dX8_lay_64 rfl (by unfold vp_in; decide) ?_
          refine Bd_if_ne (t := 78) (pc := 65) dX8_lay_65 (by decide) (fun b65 => ?_) (fun b65 => ?_)
          · refine Bd_aload_0 (pc := 78) dX8_lay_78 ?_
            refine Bd_getR (j := 34) ck8 (pc := 79) dX8_lay_79 k_820 rfl (Nat.le_of_ble_eq_true rfl) rfl ?_
            refine Bd_iload_1 (pc := 82) dX8_lay_82 ?_
            refine Bd_ialdc (j := 0) rfl (pc := 83) dX8_lay_83 rfl (by unfold vp_in; decide) ?_
            refine Bd_iconst (v := 1) (pc := 84) dX8_lay_84 (by decide) ?_
            refine Bd_icmp_ne (t := 98) (pc := 85) dX8_lay_85 (by decide) (fun b85 => ?_) (fun b85 => ?_)
            · refine Bd_iload_3 (pc := 98) dX8_lay_98 ?_
              refine Bd_iastc (j := 40 * 0 + cn i) (by rw [e40]; exact nI_clamp (by omega)) (pc := 99) dX8_lay_99 rfl (by rw [e40]; exact vpi (by omega) (by omega)) ?_
              refine Bd_iconst (v := 1) (pc := 100) dX8_lay_100 (by decide) ?_
              refine Bd_iret (pc := 101) dX8_lay_101 rfl ?_
              have hn : ¬ C 34 1 = -1 := fun z => b22 ((IVs_4 h.2.2.2.2.2.2.1.1).mpr z)
              have e76 : M 76 0 = C 34 1 := by
                rcases h.2.2.2.2.2.2.1.1.1 with ⟨z, -⟩ | ⟨z, -⟩
                · exact absurd z hn
                · exact z
              have ec : cutF (C 34 1) v = v := by rw [cutF, if_neg (fun z => b65 (e76.trans z)), if_neg (fun z => b85 (e76.trans z))]
              exact ⟨_, rfl, rfl, by rw [layV, if_pos hk, show shB 0 = 34 from rfl, if_neg hn, if_pos qi], by rw [layU, if_pos hk, show shB 0 = 34 from rfl, if_neg hn, if_pos qi, ec, ← show v = v from rfl]; exact IV_lay0 h.2 hv.2, fun q hq => updM_ne (by omega)⟩
            · refine Bd_iload_3 (pc := 88) dX8_lay_88 ?_
              refine Bd_bipush (v := 16) (pc := 89) dX8_lay_89 (by decide) ?_
              refine Bd_ishl (pc := 91) dX8_lay_91 ?_
              refine Bd_bipush (v := 16) (pc := 92) dX8_lay_92 (by decide) ?_
              refine Bd_ishr (pc := 94) dX8_lay_94 ?_
              refine Bd_goto (t := 99) (pc := 95) dX8_lay_95 (by decide) ?_
              refine Bd_iastc (j := 40 * 0 + cn i) (by rw [e40]; exact nI_clamp (by omega)) (pc := 99) dX8_lay_99 rfl (by rw [e40]; exact vpi (by omega) (by omega)) ?_
              refine Bd_iconst (v := 1) (pc := 100) dX8_lay_100 (by decide) ?_
              refine Bd_iret (pc := 101) dX8_lay_101 rfl ?_
              have hn : ¬ C 34 1 = -1 := fun z => b22 ((IVs_4 h.2.2.2.2.2.2.1.1).mpr z)
              have e76 : M 76 0 = C 34 1 := by
                rcases h.2.2.2.2.2.2.1.1.1 with ⟨z, -⟩ | ⟨z, -⟩
                · exact absurd z hn
                · exact z
              have ec : cutF (C 34 1) v = v.toInt16.toInt32 := by rw [cutF, if_neg (fun z => b65 (e76.trans z)), if_pos (e76 ▸ b85)]
              exact ⟨_, rfl, rfl, by rw [layV, if_pos hk, show shB 0 = 34 from rfl, if_neg hn, if_pos qi], by rw [layU, if_pos hk, show shB 0 = 34 from rfl, if_neg hn, if_pos qi, ec, ← show (v <<< ((16 : Int32) &&& 31)) >>> ((16 : Int32) &&& 31) = v.toInt16.toInt32 from cut_16 v]; exact IV_lay0 h.2 hv.2, fun q hq => updM_ne (by omega)⟩
          · refine Bd_iload_3 (pc := 68) dX8_lay_68 ?_
            refine Bd_bipush (v := 24) (pc := 69) dX8_lay_69 (by decide) ?_
            refine Bd_ishl (pc := 71) dX8_lay_71 ?_
            refine Bd_bipush (v := 24) (pc := 72) dX8_lay_72 (by decide) ?_
            refine Bd_ishr (pc := 74) dX8_lay_74 ?_
            refine Bd_goto (t := 99) (pc := 75) dX8_lay_75 (by decide) ?_
            refine Bd_iastc (j := 40 * 0 + cn i) (by rw [e40]; exact nI_clamp (by omega)) (pc := 99) dX8_lay_99 rfl (by rw [e40]; exact vpi (by omega) (by omega)) ?_
            refine Bd_iconst (v := 1) (pc := 100) dX8_lay_100 (by decide) ?_
            refine Bd_iret (pc := 101) dX8_lay_101 rfl ?_
            have hn : ¬ C 34 1 = -1 := fun z => b22 ((IVs_4 h.2.2.2.2.2.2.1.1).mpr z)
            have e76 : M 76 0 = C 34 1 := by
              rcases h.2.2.2.2.2.2.1.1.1 with ⟨z, -⟩ | ⟨z, -⟩
              · exact absurd z hn
              · exact z
            have ec : cutF (C 34 1) v = v.toInt8.toInt32 := by rw [cutF, if_pos (e76 ▸ b65)]
            exact ⟨_, rfl, rfl, by rw [layV, if_pos hk, show shB 0 = 34 from rfl, if_neg hn, if_pos qi], by rw [layU, if_pos hk, show shB 0 = 34 from rfl, if_neg hn, if_pos qi, ec, ← show (v <<< ((24 : Int32) &&& 31)) >>> ((24 : Int32) &&& 31) = v.toInt8.toInt32 from cut_8 v]; exact IV_lay0 h.2 hv.2, fun q hq => updM_ne (by omega)⟩
        · refine Bd_bipush (v := -12) (pc := 46) dX8_lay_46 (by decide) ?_
          refine Bd_iret (pc := 48) dX8_lay_48 rfl ?_
          have hn : ¬ C 34 1 = -1 := fun z => b22 ((IVs_4 h.2.2.2.2.2.2.1.1).mpr z)
          have qi := b2_0.mp b43
          rw [show M 77 0 = C 34 2 from h.2.2.2.2.2.2.1.1.2.1, in_pred h.1.2.2.2.2.1.2.1] at qi
          exact ⟨_, rfl, rfl, by rw [layV, if_pos hk, show shB 0 = 34 from rfl, if_neg hn, if_neg qi], by rw [layU, if_pos hk, show shB 0 = 34 from rfl, if_neg hn, if_neg qi]; exact RP_rf h⟩
      · refine Bd_bipush (v := -11) (pc := 25) dX8_lay_25 (by decide) ?_
        refine Bd_iret (pc := 27) dX8_lay_27 rfl ?_
        have hn := (IVs_4 h.2.2.2.2.2.2.1.1).mp b22
        exact ⟨_, rfl, rfl, by rw [layV, if_pos hk, show shB 0 = 34 from rfl, if_pos hn], by rw [layU, if_pos hk, show shB 0 = 34 from rfl, if_pos hn]; exact RP_rf h⟩
    · refine Bd_iload_1 (pc := 0) dX8_lay_0 ?_
      refine Bd_i2l (pc := 1) dX8_lay_1 ?_
      refine Bd_lconst (v := 0) (pc := 2) dX8_lay_2 (by decide) ?_
      refine Bd_ldc2 k_969 (pc := 3) dX8_lay_3 ?_
      refine Bd_callS3i (cd := mX8_in) (pc := 6) dX8_lay_6 k_910 v_X8_in ⟨(Nat.le_of_ble_eq_true rfl), (Nat.le_of_ble_eq_true rfl)⟩ (sem_in (a := 0) (b := 3) (by decide) (by decide)) (Nat.le_of_ble_eq_true rfl) ?_
      refine Bd_if_ne (t := 14) (pc := 9) dX8_lay_9 (by decide) (fun b9 => ?_) (fun b9 => (show False from absurd ((b2_t (k03.mpr hk)).trans b9) (by decide)).elim)
      refine Bd_aload_0 (pc := 14) dX8_lay_14 ?_
      refine Bd_getR (j := 34) ck8 (pc := 15) dX8_lay_15 k_820 rfl (Nat.le_of_ble_eq_true rfl) rfl ?_
      refine Bd_iload_1 (pc := 18) dX8_lay_18 ?_
      refine Bd_ialdc (j := 1) rfl (pc := 19) dX8_lay_19 rfl (by unfold vp_in; decide) ?_
      refine Bd_bipush (v := -4) (pc := 20) dX8_lay_20 (by decide) ?_
      refine Bd_icmp_ne (t := 28) (pc := 22) dX8_lay_22 (by decide) (fun b22 => ?_) (fun b22 => ?_)
      · refine Bd_iload_2 (pc := 28) dX8_lay_28 ?_
        refine Bd_i2l (pc := 29) dX8_lay_29 ?_
        refine Bd_lconst (v := 0) (pc := 30) dX8_lay_30 (by decide) ?_
        refine Bd_aload_0 (pc := 31) dX8_lay_31 ?_
        refine Bd_getR (j := 35) ck8 (pc := 32) dX8_lay_32 k_821 rfl (Nat.le_of_ble_eq_true rfl) rfl ?_
        refine Bd_iload_1 (pc := 35) dX8_lay_35 ?_
        refine Bd_ialdc (j := 1) rfl (pc := 36) dX8_lay_36 rfl (by unfold vp_in; decide) ?_
        refine Bd_iconst (v := 1) (pc := 37) dX8_lay_37 (by decide) ?_
        refine Bd_isub (pc := 38) dX8_lay_38 ?_
        refine Bd_i2l (pc := 39) dX8_lay_39 ?_
        refine Bd_callS3i (cd := mX8_in) (pc := 40) dX8_lay_40 k_910 v_X8_in ⟨(Nat.le_of_ble_eq_true rfl), (Nat.le_of_ble_eq_true rfl)⟩ (sem_in (a := 0) (by decide) rfl) (Nat.le_of_ble_eq_true rfl) ?_
        refine Bd_if_ne (t := 49) (pc := 43) dX8_lay_43 (by decide) (fun b43 => ?_) (fun b43 => ?_)
        · have qi := b2_n.mp b43
          rw [show M 77 1 = C 36 2 from h.2.2.2.2.2.2.1.2.1.2.1, in_pred h.1.2.2.2.2.2.1.2.1] at qi
          have hv := vp_cn (n := 40) (vpP qi h.1.2.2.2.2.2.1.2.2) (by omega)
          have e40 : (40 * 1 + i : Int32) = nI (40 * 1 + cn i) := by rw [← c40 1 (by decide) _ hv.2, ← hv.1]; rfl
          refine Bd_aload_0 (pc := 49) dX8_lay_49 ?_
          refine Bd_getR (j := 36) ck8 (pc := 50) dX8_lay_50 k_822 rfl (Nat.le_of_ble_eq_true rfl) rfl ?_
          refine Bd_bipush (v := 40) (pc := 53) dX8_lay_53 (by decide) ?_
          refine Bd_iload_1 (pc := 55) dX8_lay_55 ?_
          refine Bd_imul (pc := 56) dX8_lay_56 ?_
          refine Bd_iload_2 (pc := 57) dX8_lay_57 ?_
          refine Bd_iadd (pc := 58) dX8_lay_58 ?_
          refine Bd_aload_0 (pc := 59) dX8_lay_59 ?_
          refine Bd_getR (j := 34) ck8 (pc := 60) dX8_lay_60 k_820 rfl (Nat.le_of_ble_eq_true rfl) rfl ?_
          refine Bd_iload_1 (pc := 63) dX8_lay_63 ?_
          refine Bd_ialdc (j := 1) rfl (pc := 64) dX8_lay_64 rfl (by unfold vp_in; decide) ?_
          refine Bd_if_ne (t := 78) (pc := 65) dX8_lay_65 (by decide) (fun b65 => ?_) (fun b65 => ?_)
          · refine Bd_aload_0 (pc := 78) dX8_lay_78 ?_
            refine Bd_getR (j := 34) ck8 (pc := 79) dX8_lay_79 k_820 rfl (Nat.le_of_ble_eq_true rfl) rfl ?_
            refine Bd_iload_1 (pc := 82) dX8_lay_82 ?_
            refine Bd_ialdc (j := 1) rfl (pc := 83) dX8_lay_83 rfl (by unfold vp_in; decide) ?_
            refine Bd_iconst (v := 1) (pc := 84) dX8_lay_84 (by decide) ?_
            refine Bd_icmp_ne (t := 98) (pc := 85) dX8_lay_85 (by decide) (fun b85 => ?_) (fun b85 => ?_)
            · refine Bd_iload_3 (pc := 98) dX8_lay_98 ?_
              refine Bd_iastc (j := 40 * 1 + cn i) (by rw [e40]; exact nI_clamp (by omega)) (pc := 99) dX8_lay_99 rfl (by rw [e40]; exact vpi (by omega) (by omega)) ?_
              refine Bd_iconst (v := 1) (pc := 100) dX8_lay_100 (by decide) ?_
              refine Bd_iret (pc := 101) dX8_lay_101 rfl ?_
              have hn : ¬ C 36 1 = -1 := fun z => b22 ((IVs_4 h.2.2.2.2.2.2.1.2.1).mpr z)
              have e76 : M 76 1 = C 36 1 := by
                rcases h.2.2.2.2.2.2.1.2.1.1 with ⟨z, -⟩ | ⟨z, -⟩
                · exact absurd z hn
                · exact z
              have ec : cutF (C 36 1) v = v := by rw [cutF, if_neg (fun z => b65 (e76.trans z)), if_neg (fun z => b85 (e76.trans z))]
              exact ⟨_, rfl, rfl, by rw [layV, if_pos hk, show shB 1 = 36 from rfl, if_neg hn, if_pos qi], by rw [layU, if_pos hk, show shB 1 = 36 from rfl, if_neg hn, if_pos qi, ec, ← show v = v from rfl]; exact IV_lay1 h.2 hv.2, fun q hq => updM_ne (by omega)⟩
            · refine Bd_iload_3 (pc := 88) dX8_lay_88 ?_
              refine Bd_bipush (v := 16) (pc := 89) dX8_lay_89 (by decide) ?_
              refine Bd_ishl (pc := 91) dX8_lay_91 ?_
              refine Bd_bipush (v := 16) (pc := 92) dX8_lay_92 (by decide) ?_
              refine Bd_ishr (pc := 94) dX8_lay_94 ?_
              refine Bd_goto (t := 99) (pc := 95) dX8_lay_95 (by decide) ?_
              refine Bd_iastc (j := 40 * 1 + cn i) (by rw [e40]; exact nI_clamp (by omega)) (pc := 99) dX8_lay_99 rfl (by rw [e40]; exact vpi (by omega) (by omega)) ?_
              refine Bd_iconst (v := 1) (pc := 100) dX8_lay_100 (by decide) ?_
              refine Bd_iret (pc := 101) dX8_lay_101 rfl ?_
              have hn : ¬ C 36 1 = -1 := fun z => b22 ((IVs_4 h.2.2.2.2.2.2.1.2.1).mpr z)
              have e76 : M 76 1 = C 36 1 := by
                rcases h.2.2.2.2.2.2.1.2.1.1 with ⟨z, -⟩ | ⟨z, -⟩
                · exact absurd z hn
                · exact z
              have ec : cutF (C 36 1) v = v.toInt16.toInt32 := by rw [cutF, if_neg (fun z => b65 (e76.trans z)), if_pos (e76 ▸ b85)]
              exact ⟨_, rfl, rfl, by rw [layV, if_pos hk, show shB 1 = 36 from rfl, if_neg hn, if_pos qi], by rw [layU, if_pos hk, show shB 1 = 36 from rfl, if_neg hn, if_pos qi, ec, ← show (v <<< ((16 : Int32) &&& 31)) >>> ((16 : Int32) &&& 31) = v.toInt16.toInt32 from cut_16 v]; exact IV_lay1 h.2 hv.2, fun q hq => updM_ne (by omega)⟩
          · refine Bd_iload_3 (pc := 68) dX8_lay_68 ?_
            refine Bd_bipush (v := 24) (pc := 69) dX8_lay_69 (by decide) ?_
            refine Bd_ishl (pc := 71) dX8_lay_71 ?_
            refine Bd_bipush (v := 24) (pc := 72) dX8_lay_72 (by decide) ?_
            refine Bd_ishr (pc := 74) dX8_lay_74 ?_
            refine Bd_goto (t := 99) (pc := 75) dX8_lay_75 (by decide) ?_
            refine Bd_iastc (j := 40 * 1 + cn i) (by rw [e40]; exact nI_clamp (by omega)) (pc := 99) dX8_lay_99 rfl (by rw [e40]; exact vpi (by omega) (by omega)) ?_
            refine Bd_iconst (v := 1) (pc := 100) dX8_lay_100 (by decide) ?_
            refine Bd_iret (pc := 101) dX8_lay_101 rfl ?_
            have hn : ¬ C 36 1 = -1 := fun z => b22 ((IVs_4 h.2.2.2.2.2.2.1.2.1).mpr z)
            have e76 : M 76 1 = C 36 1 := by
              rcases h.2.2.2.2.2.2.1.2.1.1 with ⟨z, -⟩ | ⟨z, -⟩
              · exact absurd z hn
              · exact z
            have ec : cutF (C 36 1) v = v.toInt8.toInt32 := by rw [cutF, if_pos (e76 ▸ b65)]
            exact ⟨_, rfl, rfl, by rw [layV, if_pos hk, show shB 1 = 36 from rfl, if_neg hn, if_pos qi], by rw [layU, if_pos hk, show shB 1 = 36 from rfl, if_neg hn, if_pos qi, ec, ← show (v <<< ((24 : Int32) &&& 31)) >>> ((24 : Int32) &&& 31) = v.toInt8.toInt32 from cut_8 v]; exact IV_lay1 h.2 hv.2, fun q hq => updM_ne (by omega)⟩
        · refine Bd_bipush (v := -12) (pc := 46) dX8_lay_46 (by decide) ?_
          refine Bd_iret (pc := 48) dX8_lay_48 rfl ?_
          have hn : ¬ C 36 1 = -1 := fun z => b22 ((IVs_4 h.2.2.2.2.2.2.1.2.1).mpr z)
          have qi := b2_0.mp b43
          rw [show M 77 1 = C 36 2 from h.2.2.2.2.2.2.1.2.1.2.1, in_pred h.1.2.2.2.2.2.1.2.1] at qi
          exact ⟨_, rfl, rfl, by rw [layV, if_pos hk, show shB 1 = 36 from rfl, if_neg hn, if_neg qi], by rw [layU, if_pos hk, show shB 1 = 36 from rfl, if_neg hn, if_neg qi]; exact RP_rf h⟩
      · refine Bd_bipush (v := -11) (pc := 25) dX8_lay_25 (by decide) ?_
        refine Bd_iret (pc := 27) dX8_lay_27 rfl ?_
        have hn := (IVs_4 h.2.2.2.2.2.2.1.2.1).mp b22
        exact ⟨_, rfl, rfl, by rw [layV, if_pos hk, show shB 1 = 36 from rfl, if_pos hn], by rw [layU, if_pos hk, show shB 1 = 36 from rfl, if_pos hn]; exact RP_rf h⟩
    · refine Bd_iload_1 (pc := 0) dX8_lay_0 ?_
      refine Bd_i2l (pc := 1) dX8_lay_1 ?_
      refine Bd_lconst (v := 0) (pc := 2) dX8_lay_2 (by decide) ?_
      refine Bd_ldc2 k_969 (pc := 3) dX8_lay_3 ?_
      refine Bd_callS3i (cd := mX8_in) (pc := 6) dX8_lay_6 k_910 v_X8_in ⟨(Nat.le_of_ble_eq_true rfl), (Nat.le_of_ble_eq_true rfl)⟩ (sem_in (a := 0) (b := 3) (by decide) (by decide)) (Nat.le_of_ble_eq_true rfl) ?_
      refine Bd_if_ne (t := 14) (pc := 9) dX8_lay_9 (by decide) (fun b9 => ?_) (fun b9 => (show False from absurd ((b2_t (k03.mpr hk)).trans b9) (by decide)).elim)
      refine Bd_aload_0 (pc := 14) dX8_lay_14 ?_
      refine Bd_getR (j := 34) ck8 (pc := 15) dX8_lay_15 k_820 rfl (Nat.le_of_ble_eq_true rfl) rfl ?_
      refine Bd_iload_1 (pc := 18) dX8_lay_18 ?_
      refine Bd_ialdc (j := 2) rfl (pc := 19) dX8_lay_19 rfl (by unfold vp_in; decide) ?_
      refine Bd_bipush (v := -4) (pc := 20) dX8_lay_20 (by decide) ?_
      refine Bd_icmp_ne (t := 28) (pc := 22) dX8_lay_22 (by decide) (fun b22 => ?_) (fun b22 => ?_)
      · refine Bd_iload_2 (pc := 28) dX8_lay_28 ?_
        refine Bd_i2l (pc := 29) dX8_lay_29 ?_
        refine Bd_lconst (v := 0) (pc := 30) dX8_lay_30 (by decide) ?_
        refine Bd_aload_0 (pc := 31) dX8_lay_31 ?_
        refine Bd_getR (j := 35) ck8 (pc := 32) dX8_lay_32 k_821 rfl (Nat.le_of_ble_eq_true rfl) rfl ?_
        refine Bd_iload_1 (pc := 35) dX8_lay_35 ?_
        refine Bd_ialdc (j := 2) rfl (pc := 36) dX8_lay_36 rfl (by unfold vp_in; decide) ?_
        refine Bd_iconst (v := 1) (pc := 37) dX8_lay_37 (by decide) ?_
        refine Bd_isub (pc := 38) dX8_lay_38 ?_
        refine Bd_i2l (pc := 39) dX8_lay_39 ?_
        refine Bd_callS3i (cd := mX8_in) (pc := 40) dX8_lay_40 k_910 v_X8_in ⟨(Nat.le_of_ble_eq_true rfl), (Nat.le_of_ble_eq_true rfl)⟩ (sem_in (a := 0) (by decide) rfl) (Nat.le_of_ble_eq_true rfl) ?_
        refine Bd_if_ne (t := 49) (pc := 43) dX8_lay_43 (by decide) (fun b43 => ?_) (fun b43 => ?_)
        · have qi := b2_n.mp b43
          rw [show M 77 2 = C 38 2 from h.2.2.2.2.2.2.1.2.2.1.2.1, in_pred h.1.2.2.2.2.2.2.1.2.1] at qi
          have hv := vp_cn (n := 40) (vpP qi h.1.2.2.2.2.2.2.1.2.2) (by omega)
          have e40 : (40 * 2 + i : Int32) = nI (40 * 2 + cn i) := by rw [← c40 2 (by decide) _ hv.2, ← hv.1]; rfl
          refine Bd_aload_0 (pc := 49) dX8_lay_49 ?_
          refine Bd_getR (j := 36) ck8 (pc := 50) dX8_lay_50 k_822 rfl (Nat.le_of_ble_eq_true rfl) rfl ?_
          refine Bd_bipush (v := 40) (pc := 53) dX8_lay_53 (by decide) ?_
          refine Bd_iload_1 (pc := 55) dX8_lay_55 ?_
          refine Bd_imul (pc := 56) dX8_lay_56 ?_
          refine Bd_iload_2 (pc := 57) dX8_lay_57 ?_
          refine Bd_iadd (pc := 58) dX8_lay_58 ?_
          refine Bd_aload_0 (pc := 59) dX8_lay_59 ?_
          refine Bd_getR (j := 34) ck8 (pc := 60) dX8_lay_60 k_820 rfl (Nat.le_of_ble_eq_true rfl) rfl ?_
          refine Bd_iload_1 (pc := 63) dX8_lay_63 ?_
          refine Bd_ialdc (j := 2) rfl (pc := 64) dX8_lay_64 rfl (by unfold vp_in; decide) ?_
          refine Bd_if_ne (t := 78) (pc := 65) dX8_lay_65 (by decide) (fun b65 => ?_) (fun b65 => ?_)
          · refine Bd_aload_0 (pc := 78) dX8_lay_78 ?_
            refine Bd_getR (j := 34) ck8 (pc := 79) dX8_lay_79 k_820 rfl (Nat.le_of_ble_eq_true rfl) rfl ?_
            refine Bd_iload_1 (pc := 82) dX8_lay_82 ?_
            refine Bd_ialdc (j := 2) rfl (pc := 83) dX8_lay_83 rfl (by unfold vp_in; decide) ?_
            refine Bd_iconst (v := 1) (pc := 84) dX8_lay_84 (by decide) ?_
            refine Bd_icmp_ne (t := 98) (pc := 85) dX8_lay_85 (by decide) (fun b85 => ?_) (fun b85 => ?_)
            · refine Bd_iload_3 (pc := 98) dX8_lay_98 ?_
              refine Bd_iastc (j := 40 * 2 + cn i) (by rw [e40]; exact nI_clamp (by omega)) (pc := 99) dX8_lay_99 rfl (by rw [e40]; exact vpi (by omega) (by omega)) ?_
              refine Bd_iconst (v := 1) (pc := 100) dX8_lay_100 (by decide) ?_
              refine Bd_iret (pc := 101) dX8_lay_101 rfl ?_
              have hn : ¬ C 38 1 = -1 := fun z => b22 ((IVs_4 h.2.2.2.2.2.2.1.2.2.1).mpr z)
              have e76 : M 76 2 = C 38 1 := by
                rcases h.2.2.2.2.2.2.1.2.2.1.1 with ⟨z, -⟩ | ⟨z, -⟩
                · exact absurd z hn
                · exact z
              have ec : cutF (C 38 1) v = v := by rw [cutF, if_neg (fun z => b65 (e76.trans z)), if_neg (fun z => b85 (e76.trans z))]
              exact ⟨_, rfl, rfl, by rw [layV, if_pos hk, show shB 2 = 38 from rfl, if_neg hn, if_pos qi], by rw [layU, if_pos hk, show shB 2 = 38 from rfl, if_neg hn, if_pos qi, ec, ← show v = v from rfl]; exact IV_lay2 h.2 hv.2, fun q hq => updM_ne (by omega)⟩
            · refine Bd_iload_3 (pc := 88) dX8_lay_88 ?_
              refine Bd_bipush (v := 16) (pc := 89) dX8_lay_89 (by decide) ?_
              refine Bd_ishl (pc := 91) dX8_lay_91 ?_
              refine Bd_bipush (v := 16) (pc := 92) dX8_lay_92 (by decide) ?_
              refine Bd_ishr (pc := 94) dX8_lay_94 ?_
              refine Bd_goto (t := 99) (pc := 95) dX8_lay_95 (by decide) ?_
              refine Bd_iastc (j := 40 * 2 + cn i) (by rw [e40]; exact nI_clamp (by omega)) (pc := 99) dX8_lay_99 rfl (by rw [e40]; exact vpi (by omega) (by omega)) ?_
              refine Bd_iconst (v := 1) (pc := 100) dX8_lay_100 (by decide) ?_
              refine Bd_iret (pc := 101) dX8_lay_101 rfl ?_
              have hn : ¬ C 38 1 = -1 := fun z => b22 ((IVs_4 h.2.2.2.2.2.2.1.2.2.1).mpr z)
              have e76 : M 76 2 = C 38 1 := by
                rcases h.2.2.2.2.2.2.1.2.2.1.1 with ⟨z, -⟩ | ⟨z, -⟩
                · exact absurd z hn
                · exact z
              have ec : cutF (C 38 1) v = v.toInt16.toInt32 := by rw [cutF, if_neg (fun z => b65 (e76.trans z)), if_pos (e76 ▸ b85)]
              exact ⟨_, rfl, rfl, by rw [layV, if_pos hk, show shB 2 = 38 from rfl, if_neg hn, if_pos qi], by rw [layU, if_pos hk, show shB 2 = 38 from rfl, if_neg hn, if_pos qi, ec, ← show (v <<< ((16 : Int32) &&& 31)) >>> ((16 : Int32) &&& 31) = v.toInt16.toInt32 from cut_16 v]; exact IV_lay2 h.2 hv.2, fun q hq => updM_ne (by omega)⟩
          · refine Bd_iload_3 (pc := 68) dX8_lay_68 ?_
            refine Bd_bipush (v := 24) (pc := 69) dX8_lay_69 (by decide) ?_
            refine Bd_ishl (pc := 71) dX8_lay_71 ?_
            refine Bd_bipush (v := 24) (pc := 72) dX8_lay_72 (by decide) ?_
            refine Bd_ishr (pc := 74) dX8_lay_74 ?_
            refine Bd_goto (t := 99) (pc := 75) dX8_lay_75 (by decide) ?_
            refine Bd_iastc (j := 40 * 2 + cn i) (by rw [e40]; exact nI_clamp (by omega)) (pc := 99) dX8_lay_99 rfl (by rw [e40]; exact vpi (by omega) (by omega)) ?_
            refine Bd_iconst (v := 1) (pc := 100) dX8_lay_100 (by decide) ?_
            refine Bd_iret (pc := 101) dX8_lay_101 rfl ?_
            have hn : ¬ C 38 1 = -1 := fun z => b22 ((IVs_4 h.2.2.2.2.2.2.1.2.2.1).mpr z)
            have e76 : M 76 2 = C 38 1 := by
              rcases h.2.2.2.2.2.2.1.2.2.1.1 with ⟨z, -⟩ | ⟨z, -⟩
              · exact absurd z hn
              · exact z
            have ec : cutF (C 38 1) v = v.toInt8.toInt32 := by rw [cutF, if_pos (e76 ▸ b65)]
            exact ⟨_, rfl, rfl, by rw [layV, if_pos hk, show shB 2 = 38 from rfl, if_neg hn, if_pos qi], by rw [layU, if_pos hk, show shB 2 = 38 from rfl, if_neg hn, if_pos qi, ec, ← show (v <<< ((24 : Int32) &&& 31)) >>> ((24 : Int32) &&& 31) = v.toInt8.toInt32 from cut_8 v]; exact IV_lay2 h.2 hv.2, fun q hq => updM_ne (by omega)⟩
        · refine Bd_bipush (v := -12) (pc := 46) dX8_lay_46 (by decide) ?_
          refine Bd_iret (pc := 48) dX8_lay_48 rfl ?_
          have hn : ¬ C 38 1 = -1 := fun z => b22 ((IVs_4 h.2.2.2.2.2.2.1.2.2.1).mpr z)
          have qi := b2_0.mp b43
          rw [show M 77 2 = C 38 2 from h.2.2.2.2.2.2.1.2.2.1.2.1, in_pred h.1.2.2.2.2.2.2.1.2.1] at qi
          exact ⟨_, rfl, rfl, by rw [layV, if_pos hk, show shB 2 = 38 from rfl, if_neg hn, if_neg qi], by rw [layU, if_pos hk, show shB 2 = 38 from rfl, if_neg hn, if_neg qi]; exact RP_rf h⟩
      · refine Bd_bipush (v := -11) (pc := 25) dX8_lay_25 (by decide) ?_
        refine Bd_iret (pc := 27) dX8_lay_27 rfl ?_
        have hn := (IVs_4 h.2.2.2.2.2.2.1.2.2.1).mp b22
        exact ⟨_, rfl, rfl, by rw [layV, if_pos hk, show shB 2 = 38 from rfl, if_pos hn], by rw [layU, if_pos hk, show shB 2 = 38 from rfl, if_pos hn]; exact RP_rf h⟩
    · refine Bd_iload_1 (pc := 0) dX8_lay_0 ?_
      refine Bd_i2l (pc := 1) dX8_lay_1 ?_
      refine Bd_lconst (v := 0) (pc := 2) dX8_lay_2 (by decide) ?_
      refine Bd_ldc2 k_969 (pc := 3) dX8_lay_3 ?_
      refine Bd_callS3i (cd := mX8_in) (pc := 6) dX8_lay_6 k_910 v_X8_in ⟨(Nat.le_of_ble_eq_true rfl), (Nat.le_of_ble_eq_true rfl)⟩ (sem_in (a := 0) (b := 3) (by decide) (by decide)) (Nat.le_of_ble_eq_true rfl) ?_
      refine Bd_if_ne (t := 14) (pc := 9) dX8_lay_9 (by decide) (fun b9 => ?_) (fun b9 => (show False from absurd ((b2_t (k03.mpr hk)).trans b9) (by decide)).elim)
      refine Bd_aload_0 (pc := 14) dX8_lay_14 ?_
      refine Bd_getR (j := 34) ck8 (pc := 15) dX8_lay_15 k_820 rfl (Nat.le_of_ble_eq_true rfl) rfl ?_
      refine Bd_iload_1 (pc := 18) dX8_lay_18 ?_
      refine Bd_ialdc (j := 3) rfl (pc := 19) dX8_lay_19 rfl (by unfold vp_in; decide) ?_
      refine Bd_bipush (v := -4) (pc := 20) dX8_lay_20 (by decide) ?_
      refine Bd_icmp_ne (t := 28) (pc := 22) dX8_lay_22 (by decide) (fun b22 => ?_) (fun b22 => ?_)
      · refine Bd_iload_2 (pc := 28) dX8_lay_28 ?_
        refine Bd_i2l (pc := 29) dX8_lay_29 ?_
        refine Bd_lconst (v := 0) (pc := 30) dX8_lay_30 (by decide) ?_
        refine Bd_aload_0 (pc := 31) dX8_lay_31 ?_
        refine Bd_getR (j := 35) ck8 (pc := 32) dX8_lay_32 k_821 rfl (Nat.le_of_ble_eq_true rfl) rfl ?_
        refine Bd_iload_1 (pc := 35) dX8_lay_35 ?_
        refine Bd_ialdc (j := 3) rfl (pc := 36) dX8_lay_36 rfl (by unfold vp_in; decide) ?_
        refine Bd_iconst (v := 1) (pc := 37) dX8_lay_37 (by decide) ?_
        refine Bd_isub (pc := 38) dX8_lay_38 ?_
        refine Bd_i2l (pc := 39) dX8_lay_39 ?_
        refine Bd_callS3i (cd := mX8_in) (pc := 40) dX8_lay_40 k_910 v_X8_in ⟨(Nat.le_of_ble_eq_true rfl), (Nat.le_of_ble_eq_true rfl)⟩ (sem_in (a := 0) (by decide) rfl) (Nat.le_of_ble_eq_true rfl) ?_
        refine Bd_if_ne (t := 49) (pc := 43) dX8_lay_43 (by decide) (fun b43 => ?_) (fun b43 => ?_)
        · have qi := b2_n.mp b43
          rw [show M 77 3 = C 40 2 from h.2.2.2.2.2.2.1.2.2.2.2.1, in_pred h.1.2.2.2.2.2.2.2.2.1] at qi
          have hv := vp_cn (n := 40) (vpP qi h.1.2.2.2.2.2.2.2.2.2) (by omega)
          have e40 : (40 * 3 + i : Int32) = nI (40 * 3 + cn i) := by rw [← c40 3 (by decide) _ hv.2, ← hv.1]; rfl
          refine Bd_aload_0 (pc := 49) dX8_lay_49 ?_
          refine Bd_getR (j := 36) ck8 (pc := 50) dX8_lay_50 k_822 rfl (Nat.le_of_ble_eq_true rfl) rfl ?_
          refine Bd_bipush (v := 40) (pc := 53) dX8_lay_53 (by decide) ?_
          refine Bd_iload_1 (pc := 55) dX8_lay_55 ?_
          refine Bd_imul (pc := 56) dX8_lay_56 ?_
          refine Bd_iload_2 (pc := 57) dX8_lay_57 ?_
          refine Bd_iadd (pc := 58) dX8_lay_58 ?_
          refine Bd_aload_0 (pc := 59) dX8_lay_59 ?_
          refine Bd_getR (j := 34) ck8 (pc := 60) dX8_lay_60 k_820 rfl (Nat.le_of_ble_eq_true rfl) rfl ?_
          refine Bd_iload_1 (pc := 63) dX8_lay_63 ?_
          refine Bd_ialdc (j := 3) rfl (pc := 64) dX8_lay_64 rfl (by unfold vp_in; decide) ?_
          refine Bd_if_ne (t := 78) (pc := 65) dX8_lay_65 (by decide) (fun b65 => ?_) (fun b65 => ?_)
          · refine Bd_aload_0 (pc := 78) dX8_lay_78 ?_
            refine Bd_getR (j := 34) ck8 (pc := 79) dX8_lay_79 k_820 rfl (Nat.le_of_ble_eq_true rfl) rfl ?_
            refine Bd_iload_1 (pc := 82) dX8_lay_82 ?_
            refine Bd_ialdc (j := 3) rfl (pc := 83) dX8_lay_83 rfl (by unfold vp_in; decide) ?_
            refine Bd_iconst (v := 1) (pc := 84) dX8_lay_84 (by decide) ?_
            refine Bd_icmp_ne (t := 98) (pc := 85) dX8_lay_85 (by decide) (fun b85 => ?_) (fun b85 => ?_)
            · refine Bd_iload_3 (pc := 98) dX8_lay_98 ?_
              refine Bd_iastc (j := 40 * 3 + cn i) (by rw [e40]; exact nI_clamp (by omega)) (pc := 99) dX8_lay_99 rfl (by rw [e40]; exact vpi (by omega) (by omega)) ?_
              refine Bd_iconst (v := 1) (pc := 100) dX8_lay_100 (by decide) ?_
              refine Bd_iret (pc := 101) dX8_lay_101 rfl ?_
              have hn : ¬ C 40 1 = -1 := fun z => b22 ((IVs_4 h.2.2.2.2.2.2.1.2.2.2).mpr z)
              have e76 : M 76 3 = C 40 1 := by
                rcases h.2.2.2.2.2.2.1.2.2.2.1 with ⟨z, -⟩ | ⟨z, -⟩
                · exact absurd z hn
                · exact z
              have ec : cutF (C 40 1) v = v := by rw [cutF, if_neg (fun z => b65 (e76.trans z)), if_neg (fun z => b85 (e76.trans z))]
              exact ⟨_, rfl, rfl, by rw [layV, if_pos hk, show shB 3 = 40 from rfl, if_neg hn, if_pos qi], by rw [layU, if_pos hk, show shB 3 = 40 from rfl, if_neg hn, if_pos qi, ec, ← show v = v from rfl]; exact IV_lay3 h.2 hv.2, fun q hq => updM_ne (by omega)⟩
            · refine Bd_iload_3 (pc := 88) dX8_lay_88 ?_
              refine Bd_bipush (v := 16) (pc := 89) dX8_lay_89 (by decide) ?_
              refine Bd_ishl (pc := 91) dX8_lay_91 ?_
              refine Bd_bipush (v := 16) (pc := 92) dX8_lay_92 (by decide) ?_
              refine Bd_ishr (pc := 94) dX8_lay_94 ?_
              refine Bd_goto (t := 99) (pc := 95) dX8_lay_95 (by decide) ?_
              refine Bd_iastc (j := 40 * 3 + cn i) (by rw [e40]; exact nI_clamp (by omega)) (pc := 99) dX8_lay_99 rfl (by rw [e40]; exact vpi (by omega) (by omega)) ?_
              refine Bd_iconst (v := 1) (pc := 100) dX8_lay_100 (by decide) ?_
              refine Bd_iret (pc := 101) dX8_lay_101 rfl ?_
              have hn : ¬ C 40 1 = -1 := fun z => b22 ((IVs_4 h.2.2.2.2.2.2.1.2.2.2).mpr z)
              have e76 : M 76 3 = C 40 1 := by
                rcases h.2.2.2.2.2.2.1.2.2.2.1 with ⟨z, -⟩ | ⟨z, -⟩
                · exact absurd z hn
                · exact z
              have ec : cutF (C 40 1) v = v.toInt16.toInt32 := by rw [cutF, if_neg (fun z => b65 (e76.trans z)), if_pos (e76 ▸ b85)]
              exact ⟨_, rfl, rfl, by rw [layV, if_pos hk, show shB 3 = 40 from rfl, if_neg hn, if_pos qi], by rw [layU, if_pos hk, show shB 3 = 40 from rfl, if_neg hn, if_pos qi, ec, ← show (v <<< ((16 : Int32) &&& 31)) >>> ((16 : Int32) &&& 31) = v.toInt16.toInt32 from cut_16 v]; exact IV_lay3 h.2 hv.2, fun q hq => updM_ne (by omega)⟩
          · refine Bd_iload_3 (pc := 68) dX8_lay_68 ?_
            refine Bd_bipush (v := 24) (pc := 69) dX8_lay_69 (by decide) ?_
            refine Bd_ishl (pc := 71) dX8_lay_71 ?_
            refine Bd_bipush (v := 24) (pc := 72) dX8_lay_72 (by decide) ?_
            refine Bd_ishr (pc := 74) dX8_lay_74 ?_
            refine Bd_goto (t := 99) (pc := 75) dX8_lay_75 (by decide) ?_
            refine Bd_iastc (j := 40 * 3 + cn i) (by rw [e40]; exact nI_clamp (by omega)) (pc := 99) dX8_lay_99 rfl (by rw [e40]; exact vpi (by omega) (by omega)) ?_
            refine Bd_iconst (v := 1) (pc := 100) dX8_lay_100 (by decide) ?_
            refine Bd_iret (pc := 101) dX8_lay_101 rfl ?_
            have hn : ¬ C 40 1 = -1 := fun z => b22 ((IVs_4 h.2.2.2.2.2.2.1.2.2.2).mpr z)
            have e76 : M 76 3 = C 40 1 := by
              rcases h.2.2.2.2.2.2.1.2.2.2.1 with ⟨z, -⟩ | ⟨z, -⟩
              · exact absurd z hn
              · exact z
            have ec : cutF (C 40 1) v = v.toInt8.toInt32 := by rw [cutF, if_pos (e76 ▸ b65)]
            exact ⟨_, rfl, rfl, by rw [layV, if_pos hk, show shB 3 = 40 from rfl, if_neg hn, if_pos qi], by rw [layU, if_pos hk, show shB 3 = 40 from rfl, if_neg hn, if_pos qi, ec, ← show (v <<< ((24 : Int32) &&& 31)) >>> ((24 : Int32) &&& 31) = v.toInt8.toInt32 from cut_8 v]; exact IV_lay3 h.2 hv.2, fun q hq => updM_ne (by omega)⟩
        · refine Bd_bipush (v := -12) (pc := 46) dX8_lay_46 (by decide) ?_
          refine Bd_iret (pc := 48) dX8_lay_48 rfl ?_
          have hn : ¬ C 40 1 = -1 := fun z => b22 ((IVs_4 h.2.2.2.2.2.2.1.2.2.2).mpr z)
          have qi := b2_0.mp b43
          rw [show M 77 3 = C 40 2 from h.2.2.2.2.2.2.1.2.2.2.2.1, in_pred h.1.2.2.2.2.2.2.2.2.1] at qi
          exact ⟨_, rfl, rfl, by rw [layV, if_pos hk, show shB 3 = 40 from rfl, if_neg hn, if_neg qi], by rw [layU, if_pos hk, show shB 3 = 40 from rfl, if_neg hn, if_neg qi]; exact RP_rf h⟩
      · refine Bd_bipush (v := -11) (pc := 25) dX8_lay_25 (by decide) ?_
        refine Bd_iret (pc := 27) dX8_lay_27 rfl ?_
        have hn := (IVs_4 h.2.2.2.2.2.2.1.2.2.2).mp b22
        exact ⟨_, rfl, rfl, by rw [layV, if_pos hk, show shB 3 = 40 from rfl, if_pos hn], by rw [layU, if_pos hk, show shB 3 = 40 from rfl, if_pos hn]; exact RP_rf h⟩
  · refine Bd_iload_1 (pc := 0) dX8_lay_0 ?_
    refine Bd_i2l (pc := 1) dX8_lay_1 ?_
    refine Bd_lconst (v := 0) (pc := 2) dX8_lay_2 (by decide) ?_
    refine Bd_ldc2 k_969 (pc := 3) dX8_lay_3 ?_
    refine Bd_callS3i (cd := mX8_in) (pc := 6) dX8_lay_6 k_910 v_X8_in ⟨(Nat.le_of_ble_eq_true rfl), (Nat.le_of_ble_eq_true rfl)⟩ (sem_in (a := 0) (b := 3) (by decide) (by decide)) (Nat.le_of_ble_eq_true rfl) ?_
    refine Bd_if_ne (t := 14) (pc := 9) dX8_lay_9 (by decide) (fun b9 => (show False from b9 (b2_f (fun z => hk (k03.mp z))).symm).elim) (fun b9 => ?_)
    refine Bd_iconst (v := -1) (pc := 12) dX8_lay_12 (by decide) ?_
    refine Bd_iret (pc := 13) dX8_lay_13 rfl ?_
    exact ⟨_, rfl, rfl, by rw [layV, if_neg hk], by rw [layU, if_neg hk]; exact RP_rf h⟩
