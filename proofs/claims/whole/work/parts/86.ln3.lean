/-! 86: land: a line on both sides -/
theorem ln_4 {C N : Mem} {c : Nat} (hT : TI C) (hB : TBr C N) (h20 : N 58 20 = 0) (h22 : N 58 22 = nI (eM C)) (hR : RDr C N) (hc : C 51 6 = nI c) (hc6 : c < 6) : LRr (tlR (rt C) 4) (rlT (rlA N c)) := by
  have hB0 : TBr (rt C) (stM N) := TBr_c hB rt_2 (rt_ne (by decide)) (st_j (by decide)) (st_ne (by decide))
  have hL0 : LK (rt C) (stM N) := st_sim (rt_TI hT) (TBr_c hB rt_2 (rt_ne (by decide)) rfl rfl) (by rw [rt_1]; exact h22) h20
  rcases num_sim (n := 4) (k := 0) (a := 0) (b := 8) (rt_TI hT) hB0 hL0 tl_4_0 tg_4_0 with ⟨q0, m0, v0, b0, -, l0⟩ | ⟨q0, k0⟩
  · generalize eC1 : updM (rt (rt C)) 4 0 (vM (rt C)) = C1 at m0
    have hT1 : TI C1 := by rw [← m0]; exact tnM_TI (rt_TI hT)
    have hB1 : TBr C1 (nuM (stM N) 0 8) := TBr_c hB0 (by rw [← eC1]; exact U_1) (by rw [← eC1]; exact U_q (by decide) (by decide)) (nu_j (by decide)) (nu_ne (by decide))
    rw [m0] at l0
    rcases num_sim (n := 4) (k := 1) (a := 0) (b := 8) hT1 hB1 l0 tl_4_1 tg_4_1 with ⟨q1, m1, v1, b1, -, l1⟩ | ⟨q1, k1⟩
    · generalize eC2 : updM (rt C1) 4 1 (vM C1) = C2 at m1
      have hT2 : TI C2 := by rw [← m1]; exact tnM_TI hT1
      rw [m1] at l1
      have hB2 : TBr C2 (rcM (stM N) 64 (2 * c)) := TBr_c hB1 (by rw [← eC2]; exact U_1) (by rw [← eC2]; exact U_q (by decide) (by decide)) (by rw [rc_j (by decide) (by decide) (by decide), nu_j (by decide)]) (by rw [rc_ne (by decide) (by decide), nu_ne (by decide)])
      have hL2 : LK C2 (rcM (stM N) 64 (2 * c)) := LK_j l1 (fun j hj => rc_j (by decide) (by omega) (by omega))
      rcases num_sim (n := 4) (k := 2) (a := 0) (b := 255) hT2 hB2 hL2 tl_4_2 tg_4_2 with ⟨q2, m2, v2, b2_, -, l2⟩ | ⟨q2, k2⟩
      · generalize eC3 : updM (rt C2) 4 2 (vM C2) = C3 at m2
        have hT3 : TI C3 := by rw [← m2]; exact tnM_TI hT2
        rw [m2] at l2
        have hRR : tnR (rt C) 4 (ntab 4) 0 = (true, C3) := by
          show tnR (rt C) 4 (2 + 1) 0 = _
          rw [tnR_y q0, m0]
          show tnR C1 4 (1 + 1) 1 = _
          rw [tnR_y q1, m1]
          show tnR C2 4 (0 + 1) 2 = _
          rw [tnR_y q2, m2]; rfl
        obtain ⟨x, hx, ex⟩ := n8 b0
        obtain ⟨y, hy, ey⟩ := n8 b1
        have r3 : ∀ q, q ≠ 1 → q ≠ 4 → C3 q = C q := fun q h1 h4 => by rw [← eC3, U_q h1 h4, ← eC2, U_q h1 h4, ← eC1, U_q h1 h4, rt_ne h1]
        have g0 : C3 4 0 = nI x := by rw [← eC3, U_j (by decide), ← eC2, U_j (by decide), ← eC1, U_k, ex]
        have g1 : C3 4 1 = nI y := by rw [← eC3, U_j (by decide), ← eC2, U_k, ey]
        have g2 : C3 4 2 = vM C2 := by rw [← eC3, U_k]
        have eW : wrM (seM (rt C3) 4) 4 = atD (rt C3) c (nI x) (nI y) (vM C2) := by
          rw [se_4 (by decide), wr_4, rt_ne (by decide), rt_ne (by decide), g0, g1, g2, r3 51 (by decide) (by decide), hc, cn_nI (by omega)]
        refine sg_sim hRR hT3 (TBr_c hB2 (by rw [← eC3]; exact U_1) (by rw [← eC3]; exact U_q (by decide) (by decide)) ?_ ?_) (LK_j l2 ?_) ?_
        · unfold rlA; rw [updM_eq, upd_ne (by decide), roQ_ne (by decide), nu_j (by decide)]
        · unfold rlA; rw [updM_ne (by decide), roQ_ne (by decide), nu_ne (by decide)]
        · intro j hj; unfold rlA; rw [updM_eq, upd_ne (by omega), roQ_ne (by decide)]
        · rw [eW]
          unfold atD rlA
          refine RDr_tw (c := c) (x := x) (y := y) (p := vM C2) hR hc hc6 hx hy (bt_i (a := 0) (b := 255) b2_) ?_ ?_ ?_ ?_ ?_ ?_ ?_ ?_ ?_ ?_ ?_ ?_ ?_
          · rw [updM_eq, updM_ne (by decide), updM_ne (by decide), rt_ne (by decide), r3 51 (by decide) (by decide)]
          · rw [updM_ne (by decide), updM_ne (by decide), updM_eq, rt_ne (by decide), r3 53 (by decide) (by decide), cxy]
          · rw [updM_ne (by decide), updM_eq, updM_ne (by decide), rt_ne (by decide), r3 54 (by decide) (by decide)]
          · intro q hq; rw [updM_ne (by omega), updM_ne (by omega), updM_ne (by omega), rt_ne (by omega), r3 q (by omega) (by omega)]
          · rw [updM_ne (by decide), updM_ne (by decide), updM_ne (by decide), rt_ne (by decide), r3 3 (by decide) (by decide)]
          · intro q hq; rw [updM_ne (by omega), roQ_ne (by omega), nu_ne (by omega), rc_ne (by omega) (by omega), st_ne (by omega)]
          · rw [updM_ne (by decide), roQ_q, nu_ne (by decide), rc_q (by decide), v2, v1, v0, st_ne (by decide), ex, ey, cxy]
          · rw [updM_eq, upd_eq]
          · rw [updM_eq, upd_ne (by decide), roQ_ne (by decide), nu_j (by decide), rc_j (by decide) (by decide) (by decide), nu_j (by decide), nu_j (by decide), st_j (by decide)]
          · rw [updM_eq, upd_ne (by decide), roQ_ne (by decide), nu_j (by decide), rc_j (by decide) (by decide) (by decide), nu_j (by decide), nu_j (by decide), st_j (by decide)]
          · rw [updM_eq, upd_ne (by decide), roQ_ne (by decide), nu_j (by decide), rc_14 (by decide), v0, ex, st_j (by decide)]
          · rw [updM_eq, upd_ne (by decide), roQ_ne (by decide), nu_j (by decide), rc_15 (by decide), v1, ey, st_j (by decide)]
          · rw [updM_eq, upd_ne (by decide), roQ_ne (by decide), nu_j (by decide), rc_j (by decide) (by decide) (by decide), nu_j (by decide), nu_j (by decide), st_j (by decide)]
      · refine fl_sim (n := 4) (C1 := tnM C2 4 2) ?_ (BRK_u (BRK_Q k2 (by decide)) (by decide))
        show tnR (rt C) 4 (2 + 1) 0 = _
        rw [tnR_y q0, m0]
        show tnR C1 4 (1 + 1) 1 = _
        rw [tnR_y q1, m1]
        exact tnR_n (c := 0) q2
    · refine fl_sim (n := 4) (C1 := tnM C1 4 1) ?_ (BRK_u (BRK_Q (BRK_b (BRK_rc k1 (by decide))) (by decide)) (by decide))
      show tnR (rt C) 4 (2 + 1) 0 = _
      rw [tnR_y q0, m0]
      exact tnR_n (c := 1) q1
  · exact fl_sim (n := 4) (tnR_n (c := 2) q0) (BRK_u (BRK_Q (BRK_b (BRK_rc (BRK_b k0) (by decide))) (by decide)) (by decide))
theorem ln_5 {C N : Mem} {c : Nat} (hT : TI C) (hB : TBr C N) (h20 : N 58 20 = 0) (h22 : N 58 22 = nI (eM C)) (hR : RDr C N) (hc : C 51 7 = nI c) (hc6 : c < 3) : LRr (tlR (rt C) 5) (rlT (rlB N c)) := by
  have hB0 : TBr (rt C) (stM N) := TBr_c hB rt_2 (rt_ne (by decide)) (st_j (by decide)) (st_ne (by decide))
  have hL0 : LK (rt C) (stM N) := st_sim (rt_TI hT) (TBr_c hB rt_2 (rt_ne (by decide)) rfl rfl) (by rw [rt_1]; exact h22) h20
  rcases num_sim (n := 5) (k := 0) (a := 0) (b := 8) (rt_TI hT) hB0 hL0 tl_5_0 tg_5_0 with ⟨q0, m0, v0, b0, -, l0⟩ | ⟨q0, k0⟩
  · generalize eC1 : updM (rt (rt C)) 4 0 (vM (rt C)) = C1 at m0
    have hT1 : TI C1 := by rw [← m0]; exact tnM_TI (rt_TI hT)
    have hB1 : TBr C1 (nuM (stM N) 0 8) := TBr_c hB0 (by rw [← eC1]; exact U_1) (by rw [← eC1]; exact U_q (by decide) (by decide)) (nu_j (by decide)) (nu_ne (by decide))
    rw [m0] at l0
    rcases num_sim (n := 5) (k := 1) (a := 0) (b := 8) hT1 hB1 l0 tl_5_1 tg_5_1 with ⟨q1, m1, v1, b1, -, l1⟩ | ⟨q1, k1⟩
    · generalize eC2 : updM (rt C1) 4 1 (vM C1) = C2 at m1
      have hT2 : TI C2 := by rw [← m1]; exact tnM_TI hT1
      rw [m1] at l1
      have hRR : tnR (rt C) 5 (ntab 5) 0 = (true, C2) := by
        show tnR (rt C) 5 (1 + 1) 0 = _
        rw [tnR_y q0, m0]
        show tnR C1 5 (0 + 1) 1 = _
        rw [tnR_y q1, m1]; rfl
      obtain ⟨x, hx, ex⟩ := n8 b0
      obtain ⟨y, hy, ey⟩ := n8 b1
      have r3 : ∀ q, q ≠ 1 → q ≠ 4 → C2 q = C q := fun q h1 h4 => by rw [← eC2, U_q h1 h4, ← eC1, U_q h1 h4, rt_ne h1]
      have g0 : C2 4 0 = nI x := by rw [← eC2, U_j (by decide), ← eC1, U_k, ex]
      have g1 : C2 4 1 = nI y := by rw [← eC2, U_k, ey]
      have eW : wrM (seM (rt C2) 5) 5 = ahD (rt C2) c (nI x) (nI y) := by
        rw [se_4 (by decide), wr_5, rt_ne (by decide), rt_ne (by decide), g0, g1, r3 51 (by decide) (by decide), hc, cn_nI (by omega)]
      refine sg_sim hRR hT2 (TBr_c hB1 (by rw [← eC2]; exact U_1) (by rw [← eC2]; exact U_q (by decide) (by decide)) ?_ ?_) (LK_j l1 ?_) ?_
      · unfold rlB; rw [updM_eq, upd_ne (by decide), rc_j (by decide) (by decide) (by decide), nu_j (by decide)]
      · unfold rlB; rw [updM_ne (by decide), rc_ne (by decide) (by decide), nu_ne (by decide)]
      · intro j hj; unfold rlB; rw [updM_eq, upd_ne (by omega), rc_j (by decide) (by omega) (by omega)]
      · rw [eW]
        unfold ahD rlB
        refine RDr_hl (c := c) (x := x) (y := y) hR hc hc6 hx hy ?_ ?_ ?_ ?_ ?_ ?_ ?_ ?_ ?_ ?_ ?_ ?_
        · rw [updM_eq, updM_ne (by decide), rt_ne (by decide), r3 51 (by decide) (by decide)]
        · rw [updM_ne (by decide), updM_eq, rt_ne (by decide), r3 55 (by decide) (by decide), cxy]
        · intro q h1 h2 h3; rw [updM_ne (by omega), updM_ne (by omega), rt_ne (by omega), r3 q (by omega) (by omega)]
        · rw [updM_ne (by decide), updM_ne (by decide), rt_ne (by decide), r3 3 (by decide) (by decide)]
        · intro q hq; rw [updM_ne (by omega), rc_ne (by omega) (by omega), st_ne (by omega)]
        · rw [updM_ne (by decide), rc_q (by decide), v1, v0, st_ne (by decide), ex, ey, cxy]
        · rw [updM_eq, upd_ne (by decide), rc_j (by decide) (by decide) (by decide), nu_j (by decide), nu_j (by decide), st_j (by decide)]
        · rw [updM_eq, upd_eq]
        · rw [updM_eq, upd_ne (by decide), rc_j (by decide) (by decide) (by decide), nu_j (by decide), nu_j (by decide), st_j (by decide)]
        · rw [updM_eq, upd_ne (by decide), rc_14 (by decide), v0, ex, st_j (by decide)]
        · rw [updM_eq, upd_ne (by decide), rc_15 (by decide), v1, ey, st_j (by decide)]
        · rw [updM_eq, upd_ne (by decide), rc_j (by decide) (by decide) (by decide), nu_j (by decide), nu_j (by decide), st_j (by decide)]
    · refine fl_sim (n := 5) (C1 := tnM C1 5 1) ?_ (BRK_u (BRK_rc k1 (by decide)) (by decide))
      show tnR (rt C) 5 (1 + 1) 0 = _
      rw [tnR_y q0, m0]
      exact tnR_n (c := 0) q1
  · exact fl_sim (n := 5) (tnR_n (c := 1) q0) (BRK_u (BRK_rc (BRK_b k0) (by decide)) (by decide))
theorem ln_6 {C N : Mem} {c : Nat} (hT : TI C) (hB : TBr C N) (h20 : N 58 20 = 0) (h22 : N 58 22 = nI (eM C)) (hR : RDr C N) (hc : C 51 8 = nI c) (hc6 : c < 12) : LRr (tlR (rt C) 6) (rlT (rlC N c)) := by
  have hB0 : TBr (rt C) (stM N) := TBr_c hB rt_2 (rt_ne (by decide)) (st_j (by decide)) (st_ne (by decide))
  have hL0 : LK (rt C) (stM N) := st_sim (rt_TI hT) (TBr_c hB rt_2 (rt_ne (by decide)) rfl rfl) (by rw [rt_1]; exact h22) h20
  have cc : cn (C 51 8) = c := by rw [hc]; exact nI_clamp (by omega)
  have eL : tnL (rt (rt C)) 6 0 = rlL (stM N) c := by
    unfold tnL lbF rlL
    rw [if_pos ⟨rfl, rfl⟩, rt_ne (by decide), rt_ne (by decide), rt_ne (by decide), rt_ne (by decide), cc]
    by_cases z : c = 0
    · rw [if_pos z, if_pos z]
    · rw [if_neg z, if_neg z, st_ne (by decide)]
      have := (hR.2.2.2.1.2 (c - 1) (by omega)).1
      rw [← this]
      congr 1
      omega
  have hlo : 0 ≤ rlL (stM N) c := by
    unfold rlL
    by_cases z : c = 0
    · rw [if_pos z]; decide
    · rw [if_neg z, st_ne (by decide)]
      have h1 := (hR.2.2.2.1.2 (c - 1) (by omega)).1
      have h2 := (hR.2.2.2.2.2.2.2.2 (c - 1) (by omega)).1
      rw [show 2 * c - 2 = 2 * (c - 1) by omega, h1]
      rw [Int32.le_iff_toInt_le, Int32.toInt_zero]; exact h2.1
  rcases num_sim (n := 6) (k := 0) (a := rlL (stM N) c) (b := 60) (rt_TI hT) hB0 hL0 eL tg_6_0 with ⟨q0, m0, v0, b0, -, l0⟩ | ⟨q0, k0⟩
  · generalize eC1 : updM (rt (rt C)) 4 0 (vM (rt C)) = C1 at m0
    have hT1 : TI C1 := by rw [← m0]; exact tnM_TI (rt_TI hT)
    have hB1 : TBr C1 (roQ (stM N) (rlL (stM N) c) 60 66 (2 * c)) := TBr_c hB0 (by rw [← eC1]; exact U_1) (by rw [← eC1]; exact U_q (by decide) (by decide)) (by rw [roQ_ne (by decide), nu_j (by decide)]) (by rw [roQ_ne (by decide), nu_ne (by decide)])
    rw [m0] at l0
    have hL1 : LK C1 (roQ (stM N) (rlL (stM N) c) 60 66 (2 * c)) := LK_c l0 (roQ_ne (by decide))
    rcases num_sim (n := 6) (k := 1) (a := 0) (b := 7) hT1 hB1 hL1 tl_6_1 tg_6_1 with ⟨q1, m1, v1, b1, -, l1⟩ | ⟨q1, k1⟩
    · generalize eC2 : updM (rt C1) 4 1 (vM C1) = C2 at m1
      have hT2 : TI C2 := by rw [← m1]; exact tnM_TI hT1
      rw [m1] at l1
      have hRR : tnR (rt C) 6 (ntab 6) 0 = (true, C2) := by
        show tnR (rt C) 6 (1 + 1) 0 = _
        rw [tnR_y q0, m0]
        show tnR C1 6 (0 + 1) 1 = _
        rw [tnR_y q1, m1]; rfl
      have r3 : ∀ q, q ≠ 1 → q ≠ 4 → C2 q = C q := fun q h1 h4 => by rw [← eC2, U_q h1 h4, ← eC1, U_q h1 h4, rt_ne h1]
      have g0 : C2 4 0 = vM (rt C) := by rw [← eC2, U_j (by decide), ← eC1, U_k]
      have g1 : C2 4 1 = vM C1 := by rw [← eC2, U_k]
      have eW : wrM (seM (rt C2) 6) 6 = anD (rt C2) c (vM (rt C)) (vM C1) := by
        rw [se_4 (by decide), wr_6, rt_ne (by decide), rt_ne (by decide), g0, g1, r3 51 (by decide) (by decide), cc]
      have hbb : bt (vM (rt C)) 0 60 := bt_i (a := 0) (b := 60) ⟨Int32.le_trans hlo b0.1, b0.2⟩
      have hbt : bt (vM C1) 0 7 := bt_i (a := 0) (b := 7) b1
      refine sg_sim hRR hT2 (TBr_c hB1 (by rw [← eC2]; exact U_1) (by rw [← eC2]; exact U_q (by decide) (by decide)) ?_ ?_) (LK_j l1 ?_) ?_
      · unfold rlC; rw [updM_eq, upd_ne (by decide), roQ_ne (by decide), nu_j (by decide)]
      · unfold rlC; rw [updM_ne (by decide), roQ_ne (by decide), nu_ne (by decide)]
      · intro j hj; unfold rlC; rw [updM_eq, upd_ne (by omega), roQ_ne (by decide)]
      · rw [eW]
        unfold anD rlC
        refine RDr_nt (c := c) (b := vM (rt C)) (t := vM C1) hR hc hc6 hbb hbt ?_ ?_ ?_ ?_ ?_ ?_ ?_ ?_ ?_ ?_ ?_ ?_ ?_
        · rw [updM_eq, updM_ne (by decide), updM_ne (by decide), rt_ne (by decide), r3 51 (by decide) (by decide)]
        · rw [updM_ne (by decide), updM_ne (by decide), updM_eq, rt_ne (by decide), r3 56 (by decide) (by decide)]
        · rw [updM_ne (by decide), updM_eq, updM_ne (by decide), rt_ne (by decide), r3 57 (by decide) (by decide)]
        · intro q h1 h2; rw [updM_ne (by omega), updM_ne (by omega), updM_ne (by omega), rt_ne (by omega), r3 q (by omega) (by omega)]
        · rw [updM_ne (by decide), updM_ne (by decide), updM_ne (by decide), rt_ne (by decide), r3 3 (by decide) (by decide)]
        · intro q h1 h2; rw [updM_ne (by omega), roQ_ne (by omega), nu_ne (by omega), roQ_ne (by omega), nu_ne (by omega), st_ne (by omega)]
        · rw [updM_ne (by decide), roQ_q, nu_ne (by decide), roQ_q, nu_ne (by decide), st_ne (by decide), v1, v0]
        · rw [updM_eq, upd_ne (by decide), roQ_ne (by decide), nu_j (by decide), roQ_ne (by decide), nu_j (by decide), st_j (by decide)]
        · rw [updM_eq, upd_ne (by decide), roQ_ne (by decide), nu_j (by decide), roQ_ne (by decide), nu_j (by decide), st_j (by decide)]
        · rw [updM_eq, upd_eq]
        · rw [updM_eq, upd_ne (by decide), roQ_ne (by decide), nu_j (by decide), roQ_ne (by decide), nu_j (by decide), st_j (by decide)]
        · rw [updM_eq, upd_ne (by decide), roQ_ne (by decide), nu_j (by decide), roQ_ne (by decide), nu_j (by decide), st_j (by decide)]
        · rw [updM_eq, upd_ne (by decide), roQ_ne (by decide), nu_j (by decide), roQ_ne (by decide), nu_j (by decide), st_j (by decide)]
    · refine fl_sim (n := 6) (C1 := tnM C1 6 1) ?_ (BRK_u (BRK_Q k1 (by decide)) (by decide))
      show tnR (rt C) 6 (1 + 1) 0 = _
      rw [tnR_y q0, m0]
      exact tnR_n (c := 0) q1
  · exact fl_sim (n := 6) (tnR_n (c := 1) q0) (BRK_u (BRK_Q (BRK_b (BRK_Q k0 (by decide))) (by decide)) (by decide))
