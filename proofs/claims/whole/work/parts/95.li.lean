/-! 95: the law: what holds between calls -/
def Hi (M U : Mem) : Prop := ∀ q, 58 ≤ q → U q = M q
theorem Hi.rf {M : Mem} : Hi M M := fun _ _ => rfl
theorem Hi.tr {A B C : Mem} (h : Hi A B) (g : Hi B C) : Hi A C := fun q hq => (g q hq).trans (h q hq)
theorem Hi_u {M : Mem} {k j : Nat} {v : Int32} (h : k < 58) : Hi M (updM M k j v) := fun q hq => updM_ne (by omega)
theorem Hi_set {M : Mem} {k : Nat} {f : Nat → Int32} (h : k < 58) : Hi M (setR M k f) := fun q hq => by
  unfold setR
  rw [if_neg (by omega)]
theorem Hi_cp {M : Mem} {a b n : Nat} (h : b < 58) : Hi M (cpR M a b n) := Hi_set h
theorem Hi_zr {M : Mem} {b n : Nat} (h : b < 58) : Hi M (zrR M b n) := Hi_set h
theorem Hi_cf {M : Mem} {r s : Nat} (h : r + 4 < 58) : Hi M (cfM M r s) := ((((((Hi_cp (by omega)).tr (Hi_cp (by omega))).tr (Hi_cp (by omega))).tr (Hi_cp (by omega))).tr (Hi_u (by omega))).tr (Hi_u (by omega)))
theorem Hi_fd {M : Mem} {v : Int64} : ∀ i, Hi M (fdM M v i)
  | 0 => Hi.rf
  | i + 1 => by
    unfold fdM
    exact ((Hi_fd i).tr (Hi_u (by decide))).tr (Hi_u (by decide))
theorem Hi_feed {M : Mem} {v : Int64} : Hi M (feedU M v) := by unfold feedU; split; exact Hi_fd 8; exact Hi.rf
theorem Hi_end {M : Mem} {n : Int32} : Hi M (endU M n) := by unfold endU; split; exact Hi.rf; split; exact Hi_u (by decide); exact Hi.rf
theorem Hi_wind {M : Mem} {e s : Int32} : Hi M (windU M e s) := by unfold windU; split; split; exact (Hi_u (by decide)).tr (Hi_u (by decide)); exact Hi.rf; exact Hi.rf
theorem Hi_carry {M : Mem} {t p : Int32} : Hi M (carryU M t p) := by unfold carryU; split; split; exact Hi_u (by decide); exact Hi.rf; exact Hi.rf
theorem Hi_move {M : Mem} {t c : Int32} : Hi M (moveU M t c) := by unfold moveU; split; split; exact Hi_u (by decide); exact Hi.rf; exact Hi.rf
theorem Hi_ad {M : Mem} {n : Nat} {t b o : Int32} : Hi M (adF M n t b o) := (((Hi_u (by decide)).tr (Hi_u (by decide))).tr (Hi_u (by decide))).tr (Hi_u (by decide))
theorem Hi_blow {M : Mem} {t b n : Int32} : Hi M (blowU M t b n) := by unfold blowU; split; split; split; exact Hi_ad; exact Hi.rf; exact Hi.rf; exact Hi.rf
theorem Hi_silence {M : Mem} : Hi M (updM (updM M 5 4 0) 5 5 0) := (Hi_u (by decide)).tr (Hi_u (by decide))
theorem Hi_noted {M : Mem} {b : Int32} : Hi M (notedU M b) := by unfold notedU; split; exact Hi.rf; split; split; exact (Hi_u (by decide)).tr (Hi_u (by decide)); exact Hi.rf; exact Hi.rf
theorem Hi_tk {M : Mem} {b : Nat} (h : b + 7 < 58) : Hi M (tkM M b) := ((((((Hi_cp (by omega)).tr (Hi_cp (by omega))).tr (Hi_u (by omega))).tr (Hi_u (by omega))).tr (Hi_cf (by omega))).tr (Hi_u (by omega)))
theorem Hi_gv {M : Mem} {b : Nat} : Hi M (gvM M b) := (((((Hi_cp (by omega)).tr (Hi_cp (by omega))).tr (Hi_u (by omega))).tr (Hi_u (by omega))).tr (Hi_cf (by omega)))
theorem Hi_keep {M : Mem} {k : Int32} : Hi M (keepU M k) := by unfold keepU; split; exact Hi_tk (by decide); split; exact Hi_tk (by decide); exact Hi.rf
theorem Hi_back {M : Mem} {k : Int32} : Hi M (backU M k) := by
  unfold backU
  split
  · split
    · exact Hi.rf
    · exact Hi_gv
  · split
    · split
      · exact Hi.rf
      · exact Hi_gv
    · exact Hi.rf
theorem shB_lt {k : Int32} : shB k ≤ 40 := by
  unfold shB
  split
  · decide
  · split
    · decide
    · split <;> decide
theorem Hi_sheet {M : Mem} {k lane n : Int32} : Hi M (sheetU M k lane n) := by
  have := shB_lt (k := k)
  unfold sheetU
  split
  · split
    · exact ((Hi_u (by omega)).tr (Hi_u (by omega))).tr (Hi_zr (by omega))
    · exact Hi.rf
  · exact Hi.rf
theorem Hi_lay {M : Mem} {k i v : Int32} : Hi M (layU M k i v) := by
  have := shB_lt (k := k)
  unfold layU
  split
  · split
    · exact Hi.rf
    · split
      · exact Hi_u (by omega)
      · exact Hi.rf
  · exact Hi.rf
theorem Hi_ce {N M : Mem} (h : CE N M) : Hi M N := fun q hq => h q (by
  unfold scr
  have h1 : Nat.ble q 15 = false := Bool.eq_false_iff.mpr (fun z => by have := Nat.le_of_ble_eq_true z; omega)
  have h2 : Nat.beq q 42 = false := Bool.eq_false_iff.mpr (fun z => by have := Nat.eq_of_beq_eq_true z; omega)
  have h3 : Nat.beq q 43 = false := Bool.eq_false_iff.mpr (fun z => by have := Nat.eq_of_beq_eq_true z; omega)
  rw [h1, h2, h3, Bool.and_false]; rfl)
theorem Hi_PU {M N : Mem} {ch : Nat → Int32} {c : Int32} (h : PU M ch c N) : Hi M N := fun q hq => h.2.2.2 q (by omega) (by omega) (by omega) (by omega) (by omega)
theorem Hi_plays {M N : Mem} {c : Int32} (h : playsR M c N) : Hi M N := by
  unfold playsR at h
  split at h
  · exact Hi_PU h
  · exact fun q hq => h q (by omega)
theorem Hi_both {M K : Mem} {a b g r : Int32} (h : bothR M a b g r K) : Hi M K := by
  unfold bothR at h
  split at h
  · split at h
    · exact Hi_ce h.2
    · obtain ⟨N, -, -, h⟩ := h
      split at h
      · obtain ⟨-, K', h1, h2⟩ := h
        exact (Hi_PU h1).tr (Hi_ce h2)
      · exact Hi_ce h.2
  · exact Hi_ce h.2
theorem Hi_rd {M : Mem} {b : Nat} {f : Int32} {i : Nat} : Hi M (rdM M b f i) := fun q hq => rdM_ne (by omega) (by omega) (by omega) (by omega) i
theorem Hi_read {M N : Mem} {k lane f n r : Int32} (h : readR M k lane f n r N) : Hi M N := by
  unfold readR at h
  split at h
  · unfold readB at h
    split at h
    · rw [h.2]; exact Hi_u (by decide)
    · rcases h with ⟨i, -, -, -, -, h⟩ | ⟨i, -, -, -, -, -, h⟩ | ⟨-, -, h⟩
      · rw [h]; exact Hi_rd.tr (Hi_u (by decide))
      · rw [h]; exact Hi_rd.tr (Hi_u (by decide))
      · rw [h]; exact Hi_rd.tr (Hi_u (by decide))
  · rw [h.2]; exact Hi.rf
theorem laM_hi {M : Mem} : Hi M (laM M) := fun q hq => la_q ⟨by omega, by omega, by omega, by omega⟩ (by omega)
theorem laN_hi {M : Mem} : Hi M (laN M) := fun q hq => (laN_q (by omega) (by omega) (by omega)).trans (laM_hi q hq)
theorem Hi_land {M : Mem} : Hi M (landU M) := by
  unfold landU
  split
  · exact fun q hq => by
      show laN M (pi7 q) = _
      rw [pi7_hi hq]; exact laN_hi q hq
  · exact laM_hi
theorem IV_m {C M N : Mem} (h : IV C M) (hn : Hi M N) : IV C N := by
  refine IV_rows h (fun _ _ _ => rfl) (fun q a _ => hn q (by omega)) (fun j _ => by rw [hn 58 (by decide)]) ?_ ?_
  · have z := h.2.2.2.1
    unfold IVt at *
    rw [hn 58 (by decide), hn 67 (by decide)]; exact z
  · have z := h.2.2.2.2.1
    unfold IVf at *
    rw [hn 58 (by decide)]; exact z
theorem IV_lo {C N : Mem} (h : IV C N) (hc : ∀ q, q < 58 → N q = C q) : IV N N := by
  refine IV_rows h (fun q _ _ => hc q (by omega)) (fun _ _ _ => rfl) (fun _ _ => rfl) ?_ ?_
  · have z := h.2.2.2.1
    unfold IVt at *
    rw [hc 1 (by decide), hc 2 (by decide)]; exact z
  · have z := h.2.2.2.2.1
    unfold IVf at *
    rw [hc 0 (by decide)]; exact z
theorem WF_lo {C N : Mem} (h : WF C) (hc : ∀ q, q < 58 → N q = C q) : WF N := WF_rows h (fun q _ _ => hc q (by omega)) (by
  have z := h.2.2.2.1
  unfold WP at *
  rw [hc 1 (by decide), hc 2 (by decide)]; exact z)
/-- what holds between calls -/
def LI (M : Mem) : Prop := WF M ∧ IV M M
theorem LI.rf {M U : Mem} (h : LI M) (hu : Hi M U) : RF M U := ⟨h.1, IV_m h.2 hu⟩
theorem LI_n {U N : Mem} (w : WF U) (h : RP U U N) : LI N := ⟨WF_lo w h.2, IV_lo h.1 h.2⟩
/-- RP speaks of the memory ahead of the reference's call alone by its rows -/
theorem LI_c {C U N : Mem} (w : WF C) (h : RP C U N) (hc : ∀ q, q < 58 → U q = C q) : LI N := LI_n (U := C) w ⟨h.1, fun k hk => (h.2 k hk).trans (hc k hk)⟩
