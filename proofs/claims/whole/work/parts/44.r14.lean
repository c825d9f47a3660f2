/-! 44: the reference: keep, back; WF of both -/
theorem WL_c {C C' : Mem} (hc : ∀ k, 44 ≤ k → k ≤ 50 → C' k = C k) (h : WL C) : WL C' := by
  unfold WL hcF at h ⊢
  rw [hc 44 (by decide) (by decide), hc 45 (by decide) (by decide), hc 46 (by decide) (by decide), hc 47 (by decide) (by decide), hc 48 (by decide) (by decide), hc 49 (by decide) (by decide), hc 50 (by decide) (by decide)]
  exact h
theorem WB_c {C C' : Mem} (hc : ∀ k, 5 ≤ k → k ≤ 9 → C' k = C k) (h44 : C' 44 6 = C 44 6) (h : WB C) : WB C' := by
  unfold WB at h ⊢
  rw [hc 5 (by decide) (by decide), hc 6 (by decide) (by decide), hc 7 (by decide) (by decide), hc 8 (by decide) (by decide), hc 9 (by decide) (by decide), h44]
  exact h
theorem WP_c {C C' : Mem} (h1 : C' 1 = C 1) (h2 : C' 2 = C 2) (h : WP C) : WP C' := by unfold WP at h ⊢; rw [h1, h2]; exact h
theorem WS_c {C C' : Mem} {b : Nat} (h1 : C' b = C b) (h : WS C b) : WS C' b := by unfold WS at h ⊢; rw [h1]; exact h
theorem WI_c {C C' : Mem} {b : Nat} (hc : ∀ k, b ≤ k → k < b + 8 → C' k = C k) (h44 : C' 44 6 = C 44 6) (h0 : C' 45 0 = C 45 0) (h1 : C' 45 1 = C 45 1) (h : WI C b) : WI C' b := by
  unfold WI hcF at h ⊢
  rw [hc b (by omega) (by omega), hc (b + 1) (by omega) (by omega), hc (b + 2) (by omega) (by omega), hc (b + 3) (by omega) (by omega), hc (b + 4) (by omega) (by omega), hc (b + 5) (by omega) (by omega), hc (b + 6) (by omega) (by omega), hc (b + 7) (by omega) (by omega), h44, h0, h1]
  exact h
theorem WBf_e {f5 f6 f7 f8 f9 e5 e6 e7 e8 e9 : Nat → Int32} {nt : Int32} (h54 : e5 4 = f5 4) (h55 : e5 5 = f5 5) (h6 : ∀ i, i < 24 → e6 i = f6 i) (h7 : ∀ i, i < 24 → e7 i = f7 i) (h8 : ∀ i, i < 24 → e8 i = f8 i) (h9 : ∀ i, i < 24 → e9 i = f9 i) (h : WBf f5 f6 f7 f8 f9 nt) : WBf e5 e6 e7 e8 e9 nt := by
  obtain ⟨a, b, c, d⟩ := h
  have n4 := (cn_of a).2
  have n5 := (cn_of b).2
  have := a.2
  unfold WBf
  rw [h54, h55]
  exact ⟨a, b, fun i hi => by rw [h6 i (by omega), h7 i (by omega), h8 i (by omega)]; exact c i hi, fun i hi => by rw [h9 i (by omega)]; exact d i hi⟩
theorem WI.n {C : Mem} {b : Nat} (h : WI C b) (z : C b 5 = 1) : cn (C (b + 3) 4) ≤ 24 ∧ cn (C (b + 3) 5) ≤ 24 := by
  have := (h.2 z).2.2.2
  have n4 := (cn_of this.1).2
  have n5 := (cn_of this.2.1).2
  have := this.1.2
  exact ⟨by omega, by omega⟩
theorem IVi_d {C C' M N : Mem} {k b : Nat} (w : WI C b) (n6 : cn (C 44 6) ≤ 6) (h : IVi C M k b) (e75 : N 75 k = M 75 k) (e6 : N 58 6 = M 58 6) (hp : ∀ j, j < 120 → N 59 (120 * (k + 1) + j) = M 59 (120 * (k + 1) + j)) (hc : ∀ q, b ≤ q → q < b + 8 → C' q = C q) (c44 : C' 44 6 = C 44 6) : IVi C' N k b := by
  obtain ⟨h1, h2⟩ := h
  unfold IVi
  rw [hc b (by omega) (by omega), hc (b + 1) (by omega) (by omega), hc (b + 2) (by omega) (by omega), hc (b + 3) (by omega) (by omega), hc (b + 4) (by omega) (by omega), hc (b + 5) (by omega) (by omega), hc (b + 6) (by omega) (by omega), hc (b + 7) (by omega) (by omega), c44, e75, e6]
  refine ⟨h1, fun z => ?_⟩
  obtain ⟨a1, a2, a3, a4, a5, a6⟩ := h2 z
  have nn := w.n z
  refine ⟨a1, fun t ht => ?_, by rw [hp 12 (by omega)]; exact a3, by rw [hp 13 (by omega)]; exact a4, by rw [hp 113 (by omega)]; exact a5, IVbf_e (fun j _ h2 => hp j (by omega)) rfl rfl nn.1 nn.2 (fun _ _ => rfl) (fun _ _ => rfl) (fun _ _ => rfl) (fun _ _ => rfl) a6⟩
  rw [hp t (by omega), show 120 * (k + 1) + 6 + t = 120 * (k + 1) + (6 + t) by omega, hp (6 + t) (by omega), show 120 * (k + 1) + (6 + t) = 120 * (k + 1) + 6 + t by omega]
  exact a2 t ht
theorem IV_mk {C C' M N : Mem} (h : IV C M) (e : ∀ k, k ≠ 59 → k ≠ 75 → N k = M k) (hc : ∀ k, (k < 5 ∨ (33 ≤ k ∧ k ≤ 43)) → C' k = C k) (hl : IVl C' N) (hb : IVb C' N) (hi : IVi C' N 0 17 ∧ IVi C' N 1 25) : IV C' N := by
  obtain ⟨-, -, -, t, f, ⟨s0, s1, s2, s3⟩, kk⟩ := h
  have sh : ∀ k b, 33 ≤ b → b ≤ 42 → IVs C M k b → IVs C' N k b := fun k b h1 h2 q => by
    unfold IVs at q ⊢
    rw [e 76 (by decide) (by decide), e 77 (by decide) (by decide), e 78 (by decide) (by decide), hc b (by omega), hc (b + 1) (by omega)]
    exact q
  refine ⟨hl, hb, hi, ?_, ?_, ⟨sh _ _ (by decide) (by decide) s0, sh _ _ (by decide) (by decide) s1, sh _ _ (by decide) (by decide) s2, sh _ _ (by decide) (by decide) s3⟩, ?_⟩
  · unfold IVt at t ⊢
    rw [e 58 (by decide) (by decide), e 67 (by decide) (by decide), hc 1 (by decide), hc 2 (by decide)]
    exact t
  · unfold IVf at f ⊢
    rw [e 58 (by decide) (by decide), hc 0 (by decide)]
    exact f
  · unfold IVk at kk ⊢
    rw [e 68 (by decide) (by decide), e 69 (by decide) (by decide)]
    exact kk
theorem IV_keep0 {C N : Mem} (h : RK C N) : IV (tkM C 17) (updM (cyM N 0 120 120) 75 0 1) := by
  have n6 := h.1.nt6
  have wo := h.1.2.2.1.2
  have io := h.2.1.2.2.1.2
  have g59 : updM (cyM N 0 120 120) 75 0 1 59 = cyM N 0 120 120 59 := updM_ne (by decide)
  have g58 : updM (cyM N 0 120 120) 75 0 1 58 = N 58 := by rw [updM_ne (by decide), cyM_ne (by decide)]
  have e : ∀ q, q ≠ 59 → q ≠ 75 → updM (cyM N 0 120 120) 75 0 1 q = N q := fun q h1 h2 => by rw [updM_ne h2, cyM_ne h1]
  obtain ⟨-, s3, s4, s5, s6, s7, s8, s9, s10, s11, s12⟩ := tkM_s17 (C := C)
  have c44 : tkM C 17 44 = C 44 := tkM_ne17 (by decide)
  have pg : ∀ j, j < 120 → updM (cyM N 0 120 120) 75 0 1 59 (120 + j) = N 59 j := fun j hj => by rw [g59, cyM_in hj, Nat.zero_add]
  refine IV_mk h.2.1 e (fun q hq => tkM_ne17 (by omega)) (IVl_c h.2.1.1 g58 (e 60 (by decide) (by decide)) (e 61 (by decide) (by decide)) (e 62 (by decide) (by decide)) (fun j hj => by rw [g59]; exact cyM_o (by omega)) (fun q h1 h2 => tkM_ne17 (by omega)) n6) ?_ ⟨?_, IVi_d (C := C) (M := N) wo h.1.nt6 io (by rw [updM_eq, upd_ne (by decide), cyM_ne (by decide)]) (by rw [g58]) (fun j hj => by rw [g59]; exact cyM_o (by omega)) (fun q h1 h2 => tkM_ne17 (by omega)) (by rw [tkM_ne17 (by decide)])⟩
  · unfold IVb
    rw [tkM_ne17 (q := 5) (by decide), tkM_ne17 (q := 6) (by decide), tkM_ne17 (q := 7) (by decide), tkM_ne17 (q := 8) (by decide), tkM_ne17 (q := 9) (by decide)]
    exact IVbf_e (p := 0) (g := N 59) (fun j h1 h2 => by rw [g59]; exact cyM_o (by omega)) rfl rfl h.1.nb24 h.1.nm24 (fun _ _ => rfl) (fun _ _ => rfl) (fun _ _ => rfl) (fun _ _ => rfl) h.2.1.2.1
  · refine ⟨by rw [updM_eq, upd_eq, tkM_s17.1], fun _ => ⟨by rw [g58]; exact h.2.2, fun t ht => ?_, ?_, ?_, ?_, ?_⟩⟩
    · rw [c44] at ht
      have := h.2.1.1.2.2.2.1 t ht
      rw [show 120 * (0 + 1) = 120 from rfl, show 120 + 6 + t = 120 + (6 + t) by omega, pg t (by omega), pg (6 + t) (by omega), s5 t (by omega), s6 t (by omega)]
      exact this
    · rw [show 120 * (0 + 1) = 120 from rfl, pg 12 (by decide), s3]; exact h.wd.1
    · rw [show 120 * (0 + 1) = 120 from rfl, pg 13 (by decide), s4]; exact h.wd.2
    · rw [show 120 * (0 + 1) = 120 from rfl, pg 113 (by decide), c44]; exact h.2.1.1.2.2.1
    · exact IVbf_e (p := 0) (g := N 59) (fun j h1 h2 => by rw [show 120 * (0 + 1) = 120 from rfl, pg j (by omega), Nat.zero_add]) s7 s8 h.1.nb24 h.1.nm24 s9 s10 s11 s12 h.2.1.2.1
theorem WF_tk17 {C : Mem} (h : WF C) : WF (tkM C 17) := by
  have n6 := h.nt6
  have wo := h.2.2.1.2
  obtain ⟨-, s3, s4, s5, s6, s7, s8, s9, s10, s11, s12⟩ := tkM_s17 (C := C)
  have c44 : tkM C 17 44 = C 44 := tkM_ne17 (by decide)
  refine ⟨WL_c (fun q h1 h2 => tkM_ne17 (by omega)) h.1, WB_c (fun q h1 h2 => tkM_ne17 (by omega)) (by rw [c44]) h.2.1, ⟨?_, WI_c (fun q h1 h2 => tkM_ne17 (by omega)) (by rw [tkM_ne17 (by decide)]) (by rw [tkM_ne17 (by decide)]) (by rw [tkM_ne17 (by decide)]) wo⟩, WP_c (tkM_ne17 (by decide)) (tkM_ne17 (by decide)) h.2.2.2.1, WS_c (tkM_ne17 (by decide)) h.2.2.2.2.1, WS_c (tkM_ne17 (by decide)) h.2.2.2.2.2.1, WS_c (tkM_ne17 (by decide)) h.2.2.2.2.2.2.1, WS_c (tkM_ne17 (by decide)) h.2.2.2.2.2.2.2⟩
  refine ⟨by rw [tkM_s17.1]; exact ⟨by decide, by decide⟩, fun _ => ⟨fun t ht => ?_, by rw [s3]; exact h.1.1.2.2.2.2.1, by rw [s4]; exact h.1.1.2.2.2.2.2, ?_⟩⟩
  · rw [c44] at ht
    have := h.1.2.2.1 t ht
    rw [s5 t (by omega), s6 t (by omega)]
    unfold hcF
    rw [tkM_ne17 (q := 45) (by decide)]
    exact this
  · rw [c44]; exact WBf_e s7 s8 s9 s10 s11 s12 h.2.1
theorem IV_back0 {C M : Mem} (h : RF C M) (z : C 17 5 = 1) : IV (gvM C 17) (cyM M 120 0 120) := by
  have n6 := h.1.nt6
  have w0 := h.1.2.2.1.1
  have w1 := h.1.2.2.1.2
  have wb := h.1.2.2.1.1
  have nn := WI.n wb z
  obtain ⟨-, iz⟩ := h.2.2.2.1.1
  obtain ⟨i1, i2, i3, i4, i5, i6⟩ := iz z
  rw [show 120 * (0 + 1) = 120 from rfl] at i2 i3 i4 i5 i6
  obtain ⟨s3, s4, s0, s5, s6, s7, s8, s9, s10, s11, s12⟩ := gvM_s17 (C := C)
  have c44 : gvM C 17 44 = C 44 := gvM_ne17 (by decide)
  have pg : ∀ j, j < 120 → cyM M 120 0 120 59 j = M 59 (120 + j) := fun j hj => by have := cyM_in (M := M) (a := 120) (b := 0) hj; rw [Nat.zero_add] at this; exact this
  have hi : ∀ j, 120 ≤ j → cyM M 120 0 120 59 j = M 59 j := fun j hj => cyM_o (by omega)
  refine IV_mk h.2 (fun q h1 _ => cyM_ne h1) (fun q hq => gvM_ne17 (by omega)) ?_ ?_ ⟨IVi_d (C := C) (M := M) w0 n6 h.2.2.2.1.1 (by rw [cyM_ne (by decide)]) (by rw [cyM_ne (by decide)]) (fun j hj => hi _ (by omega)) (fun q h1 h2 => gvM_ne17 (by omega)) (by rw [c44]), IVi_d (C := C) (M := M) w1 n6 h.2.2.2.1.2 (by rw [cyM_ne (by decide)]) (by rw [cyM_ne (by decide)]) (fun j hj => hi _ (by omega)) (fun q h1 h2 => gvM_ne17 (by omega)) (by rw [c44])⟩
  · have hl := h.2.1
    unfold IVl
    rw [cyM_ne (q := 58) (by decide), cyM_ne (q := 60) (by decide), cyM_ne (q := 61) (by decide), cyM_ne (q := 62) (by decide), c44, gvM_ne17 (q := 48) (by decide), gvM_ne17 (q := 49) (by decide), gvM_ne17 (q := 50) (by decide), pg 12 (by decide), pg 13 (by decide), pg 113 (by decide)]
    refine ⟨fun j hj => by rw [s0 j hj]; exact hl.1 j hj, Or.inl ⟨i1, by rw [s3]; exact i3, by rw [s4]; exact i4⟩, i5, fun t ht => ?_, hl.2.2.2.2.1, hl.2.2.2.2.2.1, hl.2.2.2.2.2.2.1, hl.2.2.2.2.2.2.2⟩
    rw [pg t (by omega), pg (6 + t) (by omega), s5 t (by omega), s6 t (by omega), show 120 + (6 + t) = 120 + 6 + t by omega]
    exact i2 t ht
  · exact IVbf_e (p := 120) (g := M 59) (fun j h1 h2 => by rw [Nat.zero_add]; exact pg j (by omega)) s7 s8 nn.1 nn.2 s9 s10 s11 s12 i6
theorem WF_gv17 {C : Mem} (h : WF C) (z : C 17 5 = 1) : WF (gvM C 17) := by
  have n6 := h.nt6
  obtain ⟨i2, i3, i4, i5⟩ := (h.2.2.1.1).2 z
  obtain ⟨s3, s4, s0, s5, s6, s7, s8, s9, s10, s11, s12⟩ := gvM_s17 (C := C)
  have c44 : gvM C 17 44 = C 44 := gvM_ne17 (by decide)
  have hl := h.1
  refine ⟨?_, ?_, ⟨WI_c (fun q h1 h2 => gvM_ne17 (by omega)) (by rw [c44]) (s0 0 (by decide)) (s0 1 (by decide)) h.2.2.1.1, WI_c (fun q h1 h2 => gvM_ne17 (by omega)) (by rw [c44]) (s0 0 (by decide)) (s0 1 (by decide)) h.2.2.1.2⟩, WP_c (gvM_ne17 (by decide)) (gvM_ne17 (by decide)) h.2.2.2.1, WS_c (gvM_ne17 (by decide)) h.2.2.2.2.1, WS_c (gvM_ne17 (by decide)) h.2.2.2.2.2.1, WS_c (gvM_ne17 (by decide)) h.2.2.2.2.2.2.1, WS_c (gvM_ne17 (by decide)) h.2.2.2.2.2.2.2⟩
  · unfold WL hcF at hl ⊢
    rw [s0 0 (by decide), s0 1 (by decide), s0 2 (by decide), s0 3 (by decide), s3, s4, c44, gvM_ne17 (q := 48) (by decide), gvM_ne17 (q := 49) (by decide), gvM_ne17 (q := 50) (by decide)]
    refine ⟨⟨hl.1.1, hl.1.2.1, hl.1.2.2.1, hl.1.2.2.2.1, i3, i4⟩, hl.2.1, fun t ht => ?_, hl.2.2.2⟩
    rw [s5 t (by omega), s6 t (by omega)]
    exact i2 t ht
  · unfold WB
    rw [c44]
    exact WBf_e s7 s8 s9 s10 s11 s12 i5
theorem IV_keep1 {C N : Mem} (h : RK C N) : IV (tkM C 25) (updM (cyM N 0 240 120) 75 1 1) := by
  have n6 := h.1.nt6
  have wo := h.1.2.2.1.1
  have io := h.2.1.2.2.1.1
  have g59 : updM (cyM N 0 240 120) 75 1 1 59 = cyM N 0 240 120 59 := updM_ne (by decide)
  have g58 : updM (cyM N 0 240 120) 75 1 1 58 = N 58 := by rw [updM_ne (by decide), cyM_ne (by decide)]
  have e : ∀ q, q ≠ 59 → q ≠ 75 → updM (cyM N 0 240 120) 75 1 1 q = N q := fun q h1 h2 => by rw [updM_ne h2, cyM_ne h1]
  obtain ⟨-, s3, s4, s5, s6, s7, s8, s9, s10, s11, s12⟩ := tkM_s25 (C := C)
  have c44 : tkM C 25 44 = C 44 := tkM_ne25 (by decide)
  have pg : ∀ j, j < 120 → updM (cyM N 0 240 120) 75 1 1 59 (240 + j) = N 59 j := fun j hj => by rw [g59, cyM_in hj, Nat.zero_add]
  refine IV_mk h.2.1 e (fun q hq => tkM_ne25 (by omega)) (IVl_c h.2.1.1 g58 (e 60 (by decide) (by decide)) (e 61 (by decide) (by decide)) (e 62 (by decide) (by decide)) (fun j hj => by rw [g59]; exact cyM_o (by omega)) (fun q h1 h2 => tkM_ne25 (by omega)) n6) ?_ ⟨IVi_d (C := C) (M := N) wo h.1.nt6 io (by rw [updM_eq, upd_ne (by decide), cyM_ne (by decide)]) (by rw [g58]) (fun j hj => by rw [g59]; exact cyM_o (by omega)) (fun q h1 h2 => tkM_ne25 (by omega)) (by rw [tkM_ne25 (by decide)]), ?_⟩
  · unfold IVb
    rw [tkM_ne25 (q := 5) (by decide), tkM_ne25 (q := 6) (by decide), tkM_ne25 (q := 7) (by decide), tkM_ne25 (q := 8) (by decide), tkM_ne25 (q := 9) (by decide)]
    exact IVbf_e (p := 0) (g := N 59) (fun j h1 h2 => by rw [g59]; exact cyM_o (by omega)) rfl rfl h.1.nb24 h.1.nm24 (fun _ _ => rfl) (fun _ _ => rfl) (fun _ _ => rfl) (fun _ _ => rfl) h.2.1.2.1
  · refine ⟨by rw [updM_eq, upd_eq, tkM_s25.1], fun _ => ⟨by rw [g58]; exact h.2.2, fun t ht => ?_, ?_, ?_, ?_, ?_⟩⟩
    · rw [c44] at ht
      have := h.2.1.1.2.2.2.1 t ht
      rw [show 120 * (1 + 1) = 240 from rfl, show 240 + 6 + t = 240 + (6 + t) by omega, pg t (by omega), pg (6 + t) (by omega), s5 t (by omega), s6 t (by omega)]
      exact this
    · rw [show 120 * (1 + 1) = 240 from rfl, pg 12 (by decide), s3]; exact h.wd.1
    · rw [show 120 * (1 + 1) = 240 from rfl, pg 13 (by decide), s4]; exact h.wd.2
    · rw [show 120 * (1 + 1) = 240 from rfl, pg 113 (by decide), c44]; exact h.2.1.1.2.2.1
    · exact IVbf_e (p := 0) (g := N 59) (fun j h1 h2 => by rw [show 120 * (1 + 1) = 240 from rfl, pg j (by omega), Nat.zero_add]) s7 s8 h.1.nb24 h.1.nm24 s9 s10 s11 s12 h.2.1.2.1
theorem WF_tk25 {C : Mem} (h : WF C) : WF (tkM C 25) := by
  have n6 := h.nt6
  have wo := h.2.2.1.1
  obtain ⟨-, s3, s4, s5, s6, s7, s8, s9, s10, s11, s12⟩ := tkM_s25 (C := C)
  have c44 : tkM C 25 44 = C 44 := tkM_ne25 (by decide)
  refine ⟨WL_c (fun q h1 h2 => tkM_ne25 (by omega)) h.1, WB_c (fun q h1 h2 => tkM_ne25 (by omega)) (by rw [c44]) h.2.1, ⟨WI_c (fun q h1 h2 => tkM_ne25 (by omega)) (by rw [tkM_ne25 (by decide)]) (by rw [tkM_ne25 (by decide)]) (by rw [tkM_ne25 (by decide)]) wo, ?_⟩, WP_c (tkM_ne25 (by decide)) (tkM_ne25 (by decide)) h.2.2.2.1, WS_c (tkM_ne25 (by decide)) h.2.2.2.2.1, WS_c (tkM_ne25 (by decide)) h.2.2.2.2.2.1, WS_c (tkM_ne25 (by decide)) h.2.2.2.2.2.2.1, WS_c (tkM_ne25 (by decide)) h.2.2.2.2.2.2.2⟩
  refine ⟨by rw [tkM_s25.1]; exact ⟨by decide, by decide⟩, fun _ => ⟨fun t ht => ?_, by rw [s3]; exact h.1.1.2.2.2.2.1, by rw [s4]; exact h.1.1.2.2.2.2.2, ?_⟩⟩
  · rw [c44] at ht
    have := h.1.2.2.1 t ht
    rw [s5 t (by omega), s6 t (by omega)]
    unfold hcF
    rw [tkM_ne25 (q := 45) (by decide)]
    exact this
  · rw [c44]; exact WBf_e s7 s8 s9 s10 s11 s12 h.2.1
theorem IV_back1 {C M : Mem} (h : RF C M) (z : C 25 5 = 1) : IV (gvM C 25) (cyM M 240 0 120) := by
  have n6 := h.1.nt6
  have w0 := h.1.2.2.1.1
  have w1 := h.1.2.2.1.2
  have wb := h.1.2.2.1.2
  have nn := WI.n wb z
  obtain ⟨-, iz⟩ := h.2.2.2.1.2
  obtain ⟨i1, i2, i3, i4, i5, i6⟩ := iz z
  rw [show 120 * (1 + 1) = 240 from rfl] at i2 i3 i4 i5 i6
  obtain ⟨s3, s4, s0, s5, s6, s7, s8, s9, s10, s11, s12⟩ := gvM_s25 (C := C)
  have c44 : gvM C 25 44 = C 44 := gvM_ne25 (by decide)
  have pg : ∀ j, j < 120 → cyM M 240 0 120 59 j = M 59 (240 + j) := fun j hj => by have := cyM_in (M := M) (a := 240) (b := 0) hj; rw [Nat.zero_add] at this; exact this
  have hi : ∀ j, 120 ≤ j → cyM M 240 0 120 59 j = M 59 j := fun j hj => cyM_o (by omega)
  refine IV_mk h.2 (fun q h1 _ => cyM_ne h1) (fun q hq => gvM_ne25 (by omega)) ?_ ?_ ⟨IVi_d (C := C) (M := M) w0 n6 h.2.2.2.1.1 (by rw [cyM_ne (by decide)]) (by rw [cyM_ne (by decide)]) (fun j hj => hi _ (by omega)) (fun q h1 h2 => gvM_ne25 (by omega)) (by rw [c44]), IVi_d (C := C) (M := M) w1 n6 h.2.2.2.1.2 (by rw [cyM_ne (by decide)]) (by rw [cyM_ne (by decide)]) (fun j hj => hi _ (by omega)) (fun q h1 h2 => gvM_ne25 (by omega)) (by rw [c44])⟩
  · have hl := h.2.1
    unfold IVl
    rw [cyM_ne (q := 58) (by decide), cyM_ne (q := 60) (by decide), cyM_ne (q := 61) (by decide), cyM_ne (q := 62) (by decide), c44, gvM_ne25 (q := 48) (by decide), gvM_ne25 (q := 49) (by decide), gvM_ne25 (q := 50) (by decide), pg 12 (by decide), pg 13 (by decide), pg 113 (by decide)]
    refine ⟨fun j hj => by rw [s0 j hj]; exact hl.1 j hj, Or.inl ⟨i1, by rw [s3]; exact i3, by rw [s4]; exact i4⟩, i5, fun t ht => ?_, hl.2.2.2.2.1, hl.2.2.2.2.2.1, hl.2.2.2.2.2.2.1, hl.2.2.2.2.2.2.2⟩
    rw [pg t (by omega), pg (6 + t) (by omega), s5 t (by omega), s6 t (by omega), show 240 + (6 + t) = 240 + 6 + t by omega]
    exact i2 t ht
  · exact IVbf_e (p := 240) (g := M 59) (fun j h1 h2 => by rw [Nat.zero_add]; exact pg j (by omega)) s7 s8 nn.1 nn.2 s9 s10 s11 s12 i6
theorem WF_gv25 {C : Mem} (h : WF C) (z : C 25 5 = 1) : WF (gvM C 25) := by
  have n6 := h.nt6
  obtain ⟨i2, i3, i4, i5⟩ := (h.2.2.1.2).2 z
  obtain ⟨s3, s4, s0, s5, s6, s7, s8, s9, s10, s11, s12⟩ := gvM_s25 (C := C)
  have c44 : gvM C 25 44 = C 44 := gvM_ne25 (by decide)
  have hl := h.1
  refine ⟨?_, ?_, ⟨WI_c (fun q h1 h2 => gvM_ne25 (by omega)) (by rw [c44]) (s0 0 (by decide)) (s0 1 (by decide)) h.2.2.1.1, WI_c (fun q h1 h2 => gvM_ne25 (by omega)) (by rw [c44]) (s0 0 (by decide)) (s0 1 (by decide)) h.2.2.1.2⟩, WP_c (gvM_ne25 (by decide)) (gvM_ne25 (by decide)) h.2.2.2.1, WS_c (gvM_ne25 (by decide)) h.2.2.2.2.1, WS_c (gvM_ne25 (by decide)) h.2.2.2.2.2.1, WS_c (gvM_ne25 (by decide)) h.2.2.2.2.2.2.1, WS_c (gvM_ne25 (by decide)) h.2.2.2.2.2.2.2⟩
  · unfold WL hcF at hl ⊢
    rw [s0 0 (by decide), s0 1 (by decide), s0 2 (by decide), s0 3 (by decide), s3, s4, c44, gvM_ne25 (q := 48) (by decide), gvM_ne25 (q := 49) (by decide), gvM_ne25 (q := 50) (by decide)]
    refine ⟨⟨hl.1.1, hl.1.2.1, hl.1.2.2.1, hl.1.2.2.2.1, i3, i4⟩, hl.2.1, fun t ht => ?_, hl.2.2.2⟩
    rw [s5 t (by omega), s6 t (by omega)]
    exact i2 t ht
  · unfold WB
    rw [c44]
    exact WBf_e s7 s8 s9 s10 s11 s12 i5
theorem WF_keep {C : Mem} (h : WF C) {k : Int32} : WF (keepU C k) := by
  unfold keepU
  split
  · exact WF_tk17 h
  · split
    · exact WF_tk25 h
    · exact h
theorem WF_back {C : Mem} (h : WF C) {k : Int32} : WF (backU C k) := by
  have a0 := kp01 h.2.2.1.1.1
  have a1 := kp01 h.2.2.1.2.1
  unfold backU
  split
  · split
    · exact h
    · rename_i q; exact WF_gv17 h (a0.resolve_left q)
  · split
    · split
      · exact h
      · rename_i q; exact WF_gv25 h (a1.resolve_left q)
    · exact h
set_option maxRecDepth 100000 in
set_option maxHeartbeats 4000000 in
theorem sem_X8_keep {C M : Mem} (h : RF C M) {k : Int32} : Sem mX8_keep SH [.ref 58, .int k] M (RI SH (fun r N => r = keepV C k ∧ RP (keepU C k) M N)) := by
  refine Sem_of rfl (fun G => (Nat.le_of_ble_eq_true rfl)) (fun G => ?_)
  by_cases hk : 0 ≤ k ∧ k < 2
  · rcases k2_c hk with rfl | rfl
    · refine Bd_aload_0 (pc := 0) dX8_keep_0 ?_
      refine Bd_callV0v (cd := mX8_awake) (pc := 1) dX8_keep_1 k_965 v_X8_awake ⟨(Nat.le_of_ble_eq_true rfl), (Nat.le_of_ble_eq_true rfl)⟩ rfl rfl (sem_X8_awake h.a6) (Nat.le_of_ble_eq_true rfl) ?_
      refine Bd_iload_1 (pc := 4) dX8_keep_4 ?_
      refine Bd_i2l (pc := 5) dX8_keep_5 ?_
      refine Bd_lconst (v := 0) (pc := 6) dX8_keep_6 (by decide) ?_
      refine Bd_lconst (v := 1) (pc := 7) dX8_keep_7 (by decide) ?_
      refine Bd_callS3i (cd := mX8_in) (pc := 8) dX8_keep_8 k_910 v_X8_in ⟨(Nat.le_of_ble_eq_true rfl), (Nat.le_of_ble_eq_true rfl)⟩ (sem_in (a := 0) (b := 1) (by decide) (by decide)) (Nat.le_of_ble_eq_true rfl) ?_
      refine Bd_if_ne (t := 16) (pc := 11) dX8_keep_11 (by decide) (fun b11 => ?_) (fun b11 => (show False from absurd ((b2_t (k01.mpr hk)).trans b11) (by decide)).elim)
      refine Bd_aload_0 (pc := 16) dX8_keep_16 ?_
      refine Bd_iconst (v := 0) (pc := 17) dX8_keep_17 (by decide) ?_
      refine Bd_bipush (v := 120) (pc := 18) dX8_keep_18 (by decide) ?_
      refine Bd_iload_1 (pc := 20) dX8_keep_20 ?_
      refine Bd_iconst (v := 1) (pc := 21) dX8_keep_21 (by decide) ?_
      refine Bd_iadd (pc := 22) dX8_keep_22 ?_
      refine Bd_imul (pc := 23) dX8_keep_23 ?_
      refine Bd_callV2v (cd := mX8_copies) (pc := 24) dX8_keep_24 k_1207 v_X8_copies ⟨(Nat.le_of_ble_eq_true rfl), (Nat.le_of_ble_eq_true rfl)⟩ rfl rfl (sem_X8_copies (a := 0) (b := 120) rfl (by decide) (by decide) (by decide) (by decide)) (Nat.le_of_ble_eq_true rfl) ?_
      refine Bd_aload_0 (pc := 27) dX8_keep_27 ?_
      refine Bd_getR (j := 33) ck8 (pc := 28) dX8_keep_28 k_819 rfl (Nat.le_of_ble_eq_true rfl) rfl ?_
      refine Bd_iload_1 (pc := 31) dX8_keep_31 ?_
      refine Bd_zaldc (j := 0) rfl (pc := 32) dX8_keep_32 rfl (by unfold vp_in; decide) ?_
      refine Bd_if_eq (t := 40) (pc := 33) dX8_keep_33 (by decide) (fun b33 => ?_) (fun b33 => ?_)
      · refine Bd_iconst (v := 0) (pc := 40) dX8_keep_40 (by decide) ?_
        refine Bd_istore_2 (pc := 41) dX8_keep_41 (Nat.le_of_ble_eq_true rfl) rfl ?_
        refine Bd_aload_0 (pc := 42) dX8_keep_42 ?_
        refine Bd_getR (j := 33) ck8 (pc := 43) dX8_keep_43 k_819 rfl (Nat.le_of_ble_eq_true rfl) rfl ?_
        refine Bd_iload_1 (pc := 46) dX8_keep_46 ?_
        refine Bd_iconst (v := 1) (pc := 47) dX8_keep_47 (by decide) ?_
        refine Bd_zastc (j := 0) rfl (pc := 48) dX8_keep_48 rfl (by unfold vp_in; decide) ?_
        refine Bd_iload_2 (pc := 49) dX8_keep_49 ?_
        refine Bd_iret (pc := 50) dX8_keep_50 rfl ?_
        have e0 : cyM (awM M) 0 120 120 75 0 = C 17 5 := by rw [cyM_ne (by decide)]; exact h.aw.2.1.2.2.1.1.1
        rw [e0] at b33
        exact ⟨_, rfl, rfl, by rw [keepV, if_pos rfl, if_pos b33], by rw [keepU, if_pos rfl]; exact IV_keep0 h.aw, fun q hq => by rw [updM_ne (by omega), cyM_ne (by omega), awM_lt hq]⟩
      · refine Bd_iconst (v := 1) (pc := 36) dX8_keep_36 (by decide) ?_
        refine Bd_goto (t := 41) (pc := 37) dX8_keep_37 (by decide) ?_
        refine Bd_istore_2 (pc := 41) dX8_keep_41 (Nat.le_of_ble_eq_true rfl) rfl ?_
        refine Bd_aload_0 (pc := 42) dX8_keep_42 ?_
        refine Bd_getR (j := 33) ck8 (pc := 43) dX8_keep_43 k_819 rfl (Nat.le_of_ble_eq_true rfl) rfl ?_
        refine Bd_iload_1 (pc := 46) dX8_keep_46 ?_
        refine Bd_iconst (v := 1) (pc := 47) dX8_keep_47 (by decide) ?_
        refine Bd_zastc (j := 0) rfl (pc := 48) dX8_keep_48 rfl (by unfold vp_in; decide) ?_
        refine Bd_iload_2 (pc := 49) dX8_keep_49 ?_
        refine Bd_iret (pc := 50) dX8_keep_50 rfl ?_
        have e0 : cyM (awM M) 0 120 120 75 0 = C 17 5 := by rw [cyM_ne (by decide)]; exact h.aw.2.1.2.2.1.1.1
        rw [e0] at b33
        exact ⟨_, rfl, rfl, by rw [keepV, if_pos rfl, if_neg b33], by rw [keepU, if_pos rfl]; exact IV_keep0 h.aw, fun q hq => by rw [updM_ne (by omega), cyM_ne (by omega), awM_lt hq]⟩
    · refine Bd_aload_0 (pc := 0) dX8_keep_0 ?_
      refine Bd_callV0v (cd := mX8_awake) (pc := 1) dX8_keep_1 k_965 v_X8_awake ⟨(Nat.le_of_ble_eq_true rfl), (Nat.le_of_ble_eq_true rfl)⟩ rfl rfl (sem_X8_awake h.a6) (Nat.le_of_ble_eq_true rfl) ?_
      refine Bd_iload_1 (pc := 4) dX8_keep_4 ?_
      refine Bd_i2l (pc := 5) dX8_keep_5 ?_
      refine Bd_lconst (v := 0) (pc := 6) dX8_keep_6 (by decide) ?_
      refine Bd_lconst (v := 1) (pc := 7) dX8_keep_7 (by decide) ?_
      refine Bd_callS3i (cd := mX8_in) (pc := 8) dX8_keep_8 k_910 v_X8_in ⟨(Nat.le_of_ble_eq_true rfl), (Nat.le_of_ble_eq_true rfl)⟩ (sem_in (a := 0) (b := 1) (by decide) (by decide)) (Nat.le_of_ble_eq_true rfl) ?_
      refine Bd_if_ne (t := 16) (pc := 11) dX8_keep_11 (by decide) (fun b11 => ?_) (fun b11 => (show False from absurd ((b2_t (k01.mpr hk)).trans b11) (by decide)).elim)
      refine Bd_aload_0 (pc := 16) dX8_keep_16 ?_
      refine Bd_iconst (v := 0) (pc := 17) dX8_keep_17 (by decide) ?_
      refine Bd_bipush (v := 120) (pc := 18) dX8_keep_18 (by decide) ?_
      refine Bd_iload_1 (pc := 20) dX8_keep_20 ?_
      refine Bd_iconst (v := 1) (pc := 21) dX8_keep_21 (by decide) ?_
      refine Bd_iadd (pc := 22) dX8_keep_22 ?_
      refine Bd_imul (pc := 23) dX8_keep_23 ?_
      refine Bd_callV2v (cd := mX8_copies) (pc := 24) dX8_keep_24 k_1207 v_X8_copies ⟨(Nat.le_of_ble_eq_true rfl), (Nat.le_of_ble_eq_true rfl)⟩ rfl rfl (sem_X8_copies (a := 0) (b := 240) rfl (by decide) (by decide) (by decide) (by decide)) (Nat.le_of_ble_eq_true rfl) ?_
      refine Bd_aload_0 (pc := 27) dX8_keep_27 ?_
      refine Bd_getR (j := 33) ck8 (pc := 28) dX8_keep_28 k_819 rfl (Nat.le_of_ble_eq_true rfl) rfl ?_
      refine Bd_iload_1 (pc := 31) dX8_keep_31 ?_
      refine Bd_zaldc (j := 1) rfl (pc := 32) dX8_keep_32 rfl (by unfold vp_in; decide) ?_
      refine Bd_if_eq (t := 40) (pc := 33) dX8_keep_33 (by decide) (fun b33 => ?_) (fun b33 => ?_)
      · refine Bd_iconst (v := 0) (pc := 40) dX8_keep_40 (by decide) ?_
        refine Bd_istore_2 (pc := 41) dX8_keep_41 (Nat.le_of_ble_eq_true rfl) rfl ?_
        refine Bd_aload_0 (pc := 42) dX8_keep_42 ?_
        refine Bd_getR (j := 33) ck8 (pc := 43) dX8_keep_43 k_819 rfl (Nat.le_of_ble_eq_true rfl) rfl ?_
        refine Bd_iload_1 (pc := 46) dX8_keep_46 ?_
        refine Bd_iconst (v := 1) (pc := 47) dX8_keep_47 (by decide) ?_
        refine Bd_zastc (j := 1) rfl (pc := 48) dX8_keep_48 rfl (by unfold vp_in; decide) ?_
        refine Bd_iload_2 (pc := 49) dX8_keep_49 ?_
        refine Bd_iret (pc := 50) dX8_keep_50 rfl ?_
        have e0 : cyM (awM M) 0 240 120 75 1 = C 25 5 := by rw [cyM_ne (by decide)]; exact h.aw.2.1.2.2.1.2.1
        rw [e0] at b33
        exact ⟨_, rfl, rfl, by rw [keepV, if_neg (by decide), if_pos rfl, if_pos b33], by rw [keepU, if_neg (by decide), if_pos rfl]; exact IV_keep1 h.aw, fun q hq => by rw [updM_ne (by omega), cyM_ne (by omega), awM_lt hq]⟩
      · refine Bd_iconst (v := 1) (pc := 36) dX8_keep_36 (by decide) ?_
        refine Bd_goto (t := 41) (pc := 37) dX8_keep_37 (by decide) ?_
        refine Bd_istore_2 (pc := 41) dX8_keep_41 (Nat.le_of_ble_eq_true rfl) rfl ?_
        refine Bd_aload_0 (pc := 42) dX8_keep_42 ?_
        refine Bd_getR (j := 33) ck8 (pc := 43) dX8_keep_43 k_819 rfl (Nat.le_of_ble_eq_true rfl) rfl ?_
        refine Bd_iload_1 (pc := 46) dX8_keep_46 ?_
        refine Bd_iconst (v := 1) (pc := 47) dX8_keep_47 (by decide) ?_
        refine Bd_zastc (j := 1) rfl (pc := 48) dX8_keep_48 rfl (by unfold vp_in; decide) ?_
        refine Bd_iload_2 (pc := 49) dX8_keep_49 ?_
        refine Bd_iret (pc := 50) dX8_keep_50 rfl ?_
        have e0 : cyM (awM M) 0 240 120 75 1 = C 25 5 := by rw [cyM_ne (by decide)]; exact h.aw.2.1.2.2.1.2.1
        rw [e0] at b33
        exact ⟨_, rfl, rfl, by rw [keepV, if_neg (by decide), if_pos rfl, if_neg b33], by rw [keepU, if_neg (by decide), if_pos rfl]; exact IV_keep1 h.aw, fun q hq => by rw [updM_ne (by omega), cyM_ne (by omega), awM_lt hq]⟩
  · refine Bd_aload_0 (pc := 0) dX8_keep_0 ?_
    refine Bd_callV0v (cd := mX8_awake) (pc := 1) dX8_keep_1 k_965 v_X8_awake ⟨(Nat.le_of_ble_eq_true rfl), (Nat.le_of_ble_eq_true rfl)⟩ rfl rfl (sem_X8_awake h.a6) (Nat.le_of_ble_eq_true rfl) ?_
    refine Bd_iload_1 (pc := 4) dX8_keep_4 ?_
    refine Bd_i2l (pc := 5) dX8_keep_5 ?_
    refine Bd_lconst (v := 0) (pc := 6) dX8_keep_6 (by decide) ?_
    refine Bd_lconst (v := 1) (pc := 7) dX8_keep_7 (by decide) ?_
    refine Bd_callS3i (cd := mX8_in) (pc := 8) dX8_keep_8 k_910 v_X8_in ⟨(Nat.le_of_ble_eq_true rfl), (Nat.le_of_ble_eq_true rfl)⟩ (sem_in (a := 0) (b := 1) (by decide) (by decide)) (Nat.le_of_ble_eq_true rfl) ?_
    refine Bd_if_ne (t := 16) (pc := 11) dX8_keep_11 (by decide) (fun b11 => (show False from b11 (b2_f (fun z => hk (k01.mp z))).symm).elim) (fun b11 => ?_)
    refine Bd_iconst (v := -1) (pc := 14) dX8_keep_14 (by decide) ?_
    refine Bd_iret (pc := 15) dX8_keep_15 rfl ?_
    have hq := k2_n hk
    exact ⟨_, rfl, rfl, by rw [keepV, if_neg hq.1, if_neg hq.2], by rw [keepU, if_neg hq.1, if_neg hq.2]; exact RP_aw h⟩
set_option maxRecDepth 100000 in
set_option maxHeartbeats 4000000 in
theorem sem_X8_back {C M : Mem} (h : RF C M) {k : Int32} : Sem mX8_back SH [.ref 58, .int k] M (RI SH (fun r N => r = backV C k ∧ RP (backU C k) M N)) := by
  refine Sem_of rfl (fun G => (Nat.le_of_ble_eq_true rfl)) (fun G => ?_)
  by_cases hk : 0 ≤ k ∧ k < 2
  · rcases k2_c hk with rfl | rfl
    · refine Bd_iload_1 (pc := 0) dX8_back_0 ?_
      refine Bd_i2l (pc := 1) dX8_back_1 ?_
      refine Bd_lconst (v := 0) (pc := 2) dX8_back_2 (by decide) ?_
      refine Bd_lconst (v := 1) (pc := 3) dX8_back_3 (by decide) ?_
      refine Bd_callS3i (cd := mX8_in) (pc := 4) dX8_back_4 k_910 v_X8_in ⟨(Nat.le_of_ble_eq_true rfl), (Nat.le_of_ble_eq_true rfl)⟩ (sem_in (a := 0) (b := 1) (by decide) (by decide)) (Nat.le_of_ble_eq_true rfl) ?_
      refine Bd_if_ne (t := 12) (pc := 7) dX8_back_7 (by decide) (fun b7 => ?_) (fun b7 => (show False from absurd ((b2_t (k01.mpr hk)).trans b7) (by decide)).elim)
      refine Bd_aload_0 (pc := 12) dX8_back_12 ?_
      refine Bd_getR (j := 33) ck8 (pc := 13) dX8_back_13 k_819 rfl (Nat.le_of_ble_eq_true rfl) rfl ?_
      refine Bd_iload_1 (pc := 16) dX8_back_16 ?_
      refine Bd_zaldc (j := 0) rfl (pc := 17) dX8_back_17 rfl (by unfold vp_in; decide) ?_
      refine Bd_if_ne (t := 24) (pc := 18) dX8_back_18 (by decide) (fun b18 => ?_) (fun b18 => ?_)
      · refine Bd_aload_0 (pc := 24) dX8_back_24 ?_
        refine Bd_bipush (v := 120) (pc := 25) dX8_back_25 (by decide) ?_
        refine Bd_iload_1 (pc := 27) dX8_back_27 ?_
        refine Bd_iconst (v := 1) (pc := 28) dX8_back_28 (by decide) ?_
        refine Bd_iadd (pc := 29) dX8_back_29 ?_
        refine Bd_imul (pc := 30) dX8_back_30 ?_
        refine Bd_iconst (v := 0) (pc := 31) dX8_back_31 (by decide) ?_
        refine Bd_callV2v (cd := mX8_copies) (pc := 32) dX8_back_32 k_1207 v_X8_copies ⟨(Nat.le_of_ble_eq_true rfl), (Nat.le_of_ble_eq_true rfl)⟩ rfl rfl (sem_X8_copies (a := 120) (b := 0) (by decide) rfl (by decide) (by decide) (by decide)) (Nat.le_of_ble_eq_true rfl) ?_
        refine Bd_aload_0 (pc := 35) dX8_back_35 ?_
        refine Bd_callV0i (cd := mX8_blows) (pc := 36) dX8_back_36 k_996 v_X8_blows ⟨(Nat.le_of_ble_eq_true rfl), (Nat.le_of_ble_eq_true rfl)⟩ rfl rfl sem_X8_blowsM (Nat.le_of_ble_eq_true rfl) ?_
        refine Bd_iret (pc := 39) dX8_back_39 rfl ?_
        have e0 : M 75 0 = C 17 5 := h.2.2.2.1.1.1
        rw [e0] at b18
        have z := (kp01 h.1.2.2.1.1.1).resolve_left b18
        have iz := h.2.2.2.1.1.2 z
        exact ⟨_, rfl, rfl, by rw [backV, if_pos rfl, if_neg b18]; exact iz.2.2.2.2.2.1, by rw [backU, if_pos rfl, if_neg b18]; exact IV_back0 h z, fun q hq => cyM_ne (by omega)⟩
      · refine Bd_bipush (v := -2) (pc := 21) dX8_back_21 (by decide) ?_
        refine Bd_iret (pc := 23) dX8_back_23 rfl ?_
        have e0 : M 75 0 = C 17 5 := h.2.2.2.1.1.1
        rw [e0] at b18
        exact ⟨_, rfl, rfl, by rw [backV, if_pos rfl, if_pos b18], by rw [backU, if_pos rfl, if_pos b18]; exact RP_rf h⟩
    · refine Bd_iload_1 (pc := 0) dX8_back_0 ?_
      refine Bd_i2l (pc := 1) dX8_back_1 ?_
      refine Bd_lconst (v := 0) (pc := 2) dX8_back_2 (by decide) ?_
      refine Bd_lconst (v := 1) (pc := 3) dX8_back_3 (by decide) ?_
      refine Bd_callS3i (cd := mX8_in) (pc := 4) dX8_back_4 k_910 v_X8_in ⟨(Nat.le_of_ble_eq_true rfl), (Nat.le_of_ble_eq_true rfl)⟩ (sem_in (a := 0) (b := 1) (by decide) (by decide)) (Nat.le_of_ble_eq_true rfl) ?_
      refine Bd_if_ne (t := 12) (pc := 7) dX8_back_7 (by decide) (fun b7 => ?_) (fun b7 => (show False from absurd ((b2_t (k01.mpr hk)).trans b7) (by decide)).elim)
      refine Bd_aload_0 (pc := 12) dX8_back_12 ?_
      refine Bd_getR (j := 33) ck8 (pc := 13) dX8_back_13 k_819 rfl (Nat.le_of_ble_eq_true rfl) rfl ?_
      refine Bd_iload_1 (pc := 16) dX8_back_16 ?_
      refine Bd_zaldc (j := 1) rfl (pc := 17) dX8_back_17 rfl (by unfold vp_in; decide) ?_
      refine Bd_if_ne (t := 24) (pc := 18) dX8_back_18 (by decide) (fun b18 => ?_) (fun b18 => ?_)
      · refine Bd_aload_0 (pc := 24) dX8_back_24 ?_
        refine Bd_bipush (v := 120) (pc := 25) dX8_back_25 (by decide) ?_
        refine Bd_iload_1 (pc := 27) dX8_back_27 ?_
        refine Bd_iconst (v := 1) (pc := 28) dX8_back_28 (by decide) ?_
        refine Bd_iadd (pc := 29) dX8_back_29 ?_
        refine Bd_imul (pc := 30) dX8_back_30 ?_
        refine Bd_iconst (v := 0) (pc := 31) dX8_back_31 (by decide) ?_
        refine Bd_callV2v (cd := mX8_copies) (pc := 32) dX8_back_32 k_1207 v_X8_copies ⟨(Nat.le_of_ble_eq_true rfl), (Nat.le_of_ble_eq_true rfl)⟩ rfl rfl (sem_X8_copies (a := 240) (b := 0) (by decide) rfl (by decide) (by decide) (by decide)) (Nat.le_of_ble_eq_true rfl) ?_
        refine Bd_aload_0 (pc := 35) dX8_back_35 ?_
        refine Bd_callV0i (cd := mX8_blows) (pc := 36) dX8_back_36 k_996 v_X8_blows ⟨(Nat.le_of_ble_eq_true rfl), (Nat.le_of_ble_eq_true rfl)⟩ rfl rfl sem_X8_blowsM (Nat.le_of_ble_eq_true rfl) ?_
        refine Bd_iret (pc := 39) dX8_back_39 rfl ?_
        have e0 : M 75 1 = C 25 5 := h.2.2.2.1.2.1
        rw [e0] at b18
        have z := (kp01 h.1.2.2.1.2.1).resolve_left b18
        have iz := h.2.2.2.1.2.2 z
        exact ⟨_, rfl, rfl, by rw [backV, if_neg (by decide), if_pos rfl, if_neg b18]; exact iz.2.2.2.2.2.1, by rw [backU, if_neg (by decide), if_pos rfl, if_neg b18]; exact IV_back1 h z, fun q hq => cyM_ne (by omega)⟩
      · refine Bd_bipush (v := -2) (pc := 21) dX8_back_21 (by decide) ?_
        refine Bd_iret (pc := 23) dX8_back_23 rfl ?_
        have e0 : M 75 1 = C 25 5 := h.2.2.2.1.2.1
        rw [e0] at b18
        exact ⟨_, rfl, rfl, by rw [backV, if_neg (by decide), if_pos rfl, if_pos b18], by rw [backU, if_neg (by decide), if_pos rfl, if_pos b18]; exact RP_rf h⟩
  · refine Bd_iload_1 (pc := 0) dX8_back_0 ?_
    refine Bd_i2l (pc := 1) dX8_back_1 ?_
    refine Bd_lconst (v := 0) (pc := 2) dX8_back_2 (by decide) ?_
    refine Bd_lconst (v := 1) (pc := 3) dX8_back_3 (by decide) ?_
    refine Bd_callS3i (cd := mX8_in) (pc := 4) dX8_back_4 k_910 v_X8_in ⟨(Nat.le_of_ble_eq_true rfl), (Nat.le_of_ble_eq_true rfl)⟩ (sem_in (a := 0) (b := 1) (by decide) (by decide)) (Nat.le_of_ble_eq_true rfl) ?_
    refine Bd_if_ne (t := 12) (pc := 7) dX8_back_7 (by decide) (fun b7 => (show False from b7 (b2_f (fun z => hk (k01.mp z))).symm).elim) (fun b7 => ?_)
    refine Bd_iconst (v := -1) (pc := 10) dX8_back_10 (by decide) ?_
    refine Bd_iret (pc := 11) dX8_back_11 rfl ?_
    have hq := k2_n hk
    exact ⟨_, rfl, rfl, by rw [backV, if_neg hq.1, if_neg hq.2], by rw [backU, if_neg hq.1, if_neg hq.2]; exact RP_rf h⟩
