/-! 47: the reference: feed; WF of it -/
def feM (M : Mem) (a : Nat) (v : Int64) : Nat → Mem
  | 0 => M
  | i + 1 => updM (updM (feM M a v i) 67 (a + i) ((v >>> ((56 - 8 * nI i : Int32).toInt64 &&& 63)).toInt32 &&& 255)) 58 18 (nI (a + i + 1))
theorem feM_l {M : Mem} {a : Nat} {v : Int64} (h : M 58 18 = nI a) : ∀ i, feM M a v i 58 18 = nI (a + i)
  | 0 => h
  | i + 1 => by unfold feM; rw [updM_eq, upd_eq]; rfl
theorem feM_ne {M : Mem} {a : Nat} {v : Int64} {q : Nat} (h : q ≠ 58) (h2 : q ≠ 67) : ∀ i, feM M a v i q = M q
  | 0 => rfl
  | i + 1 => by unfold feM; rw [updM_ne h, updM_ne h2]; exact feM_ne h h2 i
theorem feM_58 {M : Mem} {a : Nat} {v : Int64} {j : Nat} (h : j ≠ 18) : ∀ i, feM M a v i 58 j = M 58 j
  | 0 => rfl
  | i + 1 => by unfold feM; rw [updM_eq, upd_ne h, updM_ne (by decide)]; exact feM_58 h i
theorem fdM_ne {M : Mem} {v : Int64} {q : Nat} (h : q ≠ 1) (h2 : q ≠ 2) : ∀ i, fdM M v i q = M q
  | 0 => rfl
  | i + 1 => by unfold fdM; rw [updM_ne h, updM_ne h2]; exact fdM_ne h h2 i
theorem fe_t {C M : Mem} {v : Int64} (h : ∀ j, j < cn (C 1 2) → M 67 j = C 2 j &&& 255) : ∀ i j, j < cn (C 1 2) + i → feM M (cn (C 1 2)) v i 67 j = fdM C v i 2 j &&& 255
  | 0, j, hj => h j hj
  | i + 1, j, hj => by
    unfold feM fdM
    rw [updM_ne (by decide), updM_eq, updM_ne (by decide), updM_eq]
    by_cases z : j = cn (C 1 2) + i
    · rw [z, upd_eq, upd_eq, and_255]
    · rw [upd_ne z, upd_ne z]; exact fe_t h i j (by omega)
theorem IV_feed {C M : Mem} (h : IV C M) (w : WF C) (h8 : cn (C 1 2) + 8 ≤ 320) {v : Int64} : IV (fdM C v 8) (feM M (cn (C 1 2)) v 8) := by
  obtain ⟨l, b, ⟨i0, i1⟩, t, f, ⟨s0, s1, s2, s3⟩, kk⟩ := h
  have c : ∀ q, 3 ≤ q → fdM C v 8 q = C q := fun q hq => fdM_ne (by omega) (by omega) 8
  have c0 : fdM C v 8 0 = C 0 := fdM_ne (by decide) (by decide) 8
  have e : ∀ q, q ≠ 58 → q ≠ 67 → feM M (cn (C 1 2)) v 8 q = M q := fun q h1 h2 => feM_ne h1 h2 8
  have e6 : ∀ j, j ≠ 18 → feM M (cn (C 1 2)) v 8 58 j = M 58 j := fun j hj => feM_58 hj 8
  have ci : ∀ k b, 3 ≤ b → IVi C M k b → IVi (fdM C v 8) (feM M (cn (C 1 2)) v 8) k b := fun k b hb q => by
    unfold IVi at q ⊢
    rw [e6 6 (by decide), e 59 (by decide) (by decide), e 75 (by decide) (by decide), c 44 (by decide), c b (by omega), c (b + 1) (by omega), c (b + 2) (by omega), c (b + 3) (by omega), c (b + 4) (by omega), c (b + 5) (by omega), c (b + 6) (by omega), c (b + 7) (by omega)]
    exact q
  have cs : ∀ k b, 3 ≤ b → IVs C M k b → IVs (fdM C v 8) (feM M (cn (C 1 2)) v 8) k b := fun k b hb q => by
    unfold IVs at q ⊢
    rw [e 76 (by decide) (by decide), e 77 (by decide) (by decide), e 78 (by decide) (by decide), c b (by omega), c (b + 1) (by omega)]
    exact q
  refine ⟨?_, ?_, ⟨ci _ _ (by decide) i0, ci _ _ (by decide) i1⟩, ⟨?_, fun j hj => ?_⟩, ?_, ⟨cs _ _ (by decide) s0, cs _ _ (by decide) s1, cs _ _ (by decide) s2, cs _ _ (by decide) s3⟩, ?_⟩
  · unfold IVl at l ⊢
    rw [e6 6 (by decide), e6 3 (by decide), e6 5 (by decide), e 59 (by decide) (by decide), e 60 (by decide) (by decide), e 61 (by decide) (by decide), e 62 (by decide) (by decide), c 44 (by decide), c 45 (by decide), c 46 (by decide), c 47 (by decide), c 48 (by decide), c 49 (by decide), c 50 (by decide)]
    exact l
  · unfold IVb at b ⊢
    rw [e 59 (by decide) (by decide), c 5 (by decide), c 6 (by decide), c 7 (by decide), c 8 (by decide), c 9 (by decide)]
    exact b
  · rw [feM_l (t.1.trans w.tl) 8, fdM_l w.tl 8]
  · rw [fdM_l w.tl 8, show cn (nI (cn (C 1 2) + 8)) = cn (C 1 2) + 8 from nI_clamp (by omega)] at hj
    exact fe_t t.2 8 j hj
  · unfold IVf at f ⊢
    rw [e6 19 (by decide), e6 37 (by decide), c0]
    exact f
  · unfold IVk at kk ⊢
    rw [e 68 (by decide) (by decide), e 69 (by decide) (by decide)]
    exact kk
theorem fd_b {C : Mem} {v : Int64} (h : ∀ j, j < 320 → bt (C 2 j) (-128) 127) : ∀ i j, j < 320 → bt (fdM C v i 2 j) (-128) 127
  | 0, j, hj => h j hj
  | i + 1, j, hj => by
    unfold fdM
    rw [updM_ne (by decide), updM_eq]
    by_cases z : j = cn (C 1 2) + i
    · rw [z, upd_eq]; exact i8_bt _
    · rw [upd_ne z]; exact fd_b h i j hj
theorem fd_8 {C : Mem} (w : WF C) (hb : C 1 2 + 8 ≤ 320) : cn (C 1 2) + 8 ≤ 320 := by
  have q7 := w.tl320
  have h1 := w.tl
  rw [h1, show (8 : Int32) = nI 8 from rfl, nI_add, show (320 : Int32) = nI 320 from rfl, nI_leI (by omega) (by omega)] at hb
  exact hb
theorem WF_feed {C : Mem} (w : WF C) {v : Int64} : WF (feedU C v) := by
  unfold feedU
  split
  · rename_i hb
    have h8 := fd_8 w hb
    have c : ∀ q, 3 ≤ q → fdM C v 8 q = C q := fun q hq => fdM_ne (by omega) (by omega) 8
    refine ⟨WL_c (fun q h1 h2 => c q (by omega)) w.1, WB_c (fun q h1 h2 => c q (by omega)) (by rw [c 44 (by decide)]) w.2.1, ⟨WI_c (fun q h1 h2 => c q (by omega)) (by rw [c 44 (by decide)]) (by rw [c 45 (by decide)]) (by rw [c 45 (by decide)]) w.2.2.1.1, WI_c (fun q h1 h2 => c q (by omega)) (by rw [c 44 (by decide)]) (by rw [c 45 (by decide)]) (by rw [c 45 (by decide)]) w.2.2.1.2⟩, ⟨?_, fd_b w.2.2.2.1.2 8⟩, WS_c (c 34 (by decide)) w.2.2.2.2.1, WS_c (c 36 (by decide)) w.2.2.2.2.2.1, WS_c (c 38 (by decide)) w.2.2.2.2.2.2.1, WS_c (c 40 (by decide)) w.2.2.2.2.2.2.2⟩
    rw [fdM_l w.tl 8]
    exact ⟨by rw [nI_toInt (by omega)]; omega, by rw [nI_toInt (by omega)]; omega⟩
  · exact w
set_option maxRecDepth 100000 in
set_option maxHeartbeats 4000000 in
theorem sem_X8_feed {C M : Mem} (h : RF C M) {v : Int64} : Sem mX8_feed SH [.ref 58, .long v] M (RI SH (fun r N => r = feedV C ∧ RP (feedU C v) M N)) := by
  refine Sem_of rfl (fun G => (Nat.le_of_ble_eq_true rfl)) (fun G => ?_)
  refine Bd_aload_0 (pc := 0) dX8_feed_0 ?_
  refine Bd_getI (j := 18) ck8 (pc := 1) dX8_feed_1 k_804 rfl (Nat.le_of_ble_eq_true rfl) rfl ?_
  refine Bd_bipush (v := 8) (pc := 4) dX8_feed_4 (by decide) ?_
  refine Bd_iadd (pc := 6) dX8_feed_6 ?_
  refine Bd_sipush (v := 320) (pc := 7) dX8_feed_7 (by decide) ?_
  refine Bd_icmp_le (t := 16) (pc := 10) dX8_feed_10 (by decide) (fun b10 => ?_) (fun b10 => ?_)
  · refine Bd_bipush (v := 56) (pc := 16) dX8_feed_16 (by decide) ?_
    refine Bd_istore_3 (pc := 18) dX8_feed_18 (Nat.le_of_ble_eq_true rfl) rfl ?_
    have e18 : M 58 18 = C 1 2 := h.2.2.2.2.1.1
    rw [e18] at b10
    have h8 := fd_8 h.1 b10
    have ha : M 58 18 = nI (cn (C 1 2)) := e18.trans h.1.tl
    refine Bd_nx (L' := (fun i => [some (.ref 58), some (.long v), none, some (.int (56 - 8 * nI i))]) 0) ?_ ⟨rfl, rfl, rfl, trivial⟩
    refine Bd_for (pc := 19) (c := 8) (fun i => [some (.ref 58), some (.long v), none, some (.int (56 - 8 * nI i))]) (fun i => feM M (cn (C 1 2)) v i) (fun _ => True) (fun _ => ?_) (fun i hi _ ih => ?_) trivial
    · refine Bd_iload_3 (pc := 19) dX8_feed_19 ?_
      refine Bd_if_lt (t := 56) (pc := 20) dX8_feed_20 (by decide) (fun b20 => ?_) (fun b20 => (show False from b20 (by decide)).elim)
      refine Bd_aload_0 (pc := 56) dX8_feed_56 ?_
      refine Bd_getI (j := 18) ck8 (pc := 57) dX8_feed_57 k_804 rfl (Nat.le_of_ble_eq_true rfl) rfl ?_
      refine Bd_iret (pc := 60) dX8_feed_60 rfl ?_
      exact ⟨_, rfl, rfl, by rw [feM_l ha 8, feedV, if_pos b10], by rw [feedU, if_pos b10]; exact IV_feed h.2 h.1 h8, fun q hq => feM_ne (by omega) (by omega) 8⟩
    · have hL := feM_l (v := v) ha i
      refine Bd_iload_3 (pc := 19) dX8_feed_19 ?_
      refine Bd_if_lt (t := 56) (pc := 20) dX8_feed_20 (by decide) (fun b20 => (show False from (fd8 i hi).2 b20).elim) (fun b20 => ?_)
      refine Bd_aload_0 (pc := 23) dX8_feed_23 ?_
      refine Bd_getR (j := 17) ck8 (pc := 24) dX8_feed_24 k_803 rfl (Nat.le_of_ble_eq_true rfl) rfl ?_
      refine Bd_aload_0 (pc := 27) dX8_feed_27 ?_
      refine Bd_getI (j := 18) ck8 (pc := 28) dX8_feed_28 k_804 rfl (Nat.le_of_ble_eq_true rfl) rfl ?_
      refine Bd_lload_1 (pc := 31) dX8_feed_31 ?_
      refine Bd_iload_3 (pc := 32) dX8_feed_32 ?_
      refine Bd_lshr (pc := 33) dX8_feed_33 ?_
      refine Bd_l2i (pc := 34) dX8_feed_34 ?_
      refine Bd_sipush (v := 255) (pc := 35) dX8_feed_35 (by decide) ?_
      refine Bd_iand (pc := 38) dX8_feed_38 ?_
      refine Bd_iastc (j := cn (C 1 2) + i) (by rw [hL]; exact nI_clamp (by omega)) (pc := 39) dX8_feed_39 rfl (by rw [hL]; exact vpi (by omega) (by omega)) ?_
      refine Bd_aload_0 (pc := 40) dX8_feed_40 ?_
      refine Bd_dup (pc := 41) dX8_feed_41 rfl ?_
      refine Bd_getI (j := 18) ck8 (pc := 42) dX8_feed_42 k_804 rfl (Nat.le_of_ble_eq_true rfl) rfl ?_
      refine Bd_iconst (v := 1) (pc := 45) dX8_feed_45 (by decide) ?_
      refine Bd_iadd (pc := 46) dX8_feed_46 ?_
      refine Bd_putI (j := 18) (ty := .int) ck8 (pc := 47) dX8_feed_47 k_804 rfl (Nat.le_of_ble_eq_true rfl) rfl rfl pfI rfl rfl ?_
      refine Bd_iinc_3 (pc := 50) dX8_feed_50 (show _ + Int32.ofInt (-8) = _ + (-8) from rfl) (Nat.le_of_ble_eq_true rfl) rfl ?_
      refine Bd_goto (t := 19) (pc := 53) dX8_feed_53 (by decide) ?_
      refine Bd_nx (Bd_cM (ih trivial) ?_) ⟨rfl, rfl, congrArg (fun x => some (Value.int x)) (fd8 i hi).1, trivial⟩
      show feM M (cn (C 1 2)) v (i + 1) = updM _ 58 18 (feM M (cn (C 1 2)) v i 58 18 + 1)
      rw [hL, ← nI_succ]
      rfl
  · refine Bd_bipush (v := -3) (pc := 13) dX8_feed_13 (by decide) ?_
    refine Bd_iret (pc := 15) dX8_feed_15 rfl ?_
    have e18 : M 58 18 = C 1 2 := h.2.2.2.2.1.1
    rw [e18] at b10
    exact ⟨_, rfl, rfl, by rw [feedV, if_neg b10], by rw [feedU, if_neg b10]; exact RP_rf h⟩
