/-! 18: the class: both, fewest, pipes, feed, read -/
def chB (M : Mem) (a b g : Int32) (N : Mem) (i : Nat) : Int32 := tlF N (M 50 i) g (cn (M 44 6))
def boM (N : Mem) (g : Int32) : Nat → Mem
  | 0 => N
  | i + 1 => updM (boM N g i) 43 i (tlF (boM N g i) (boM N g i 50 i) g (cn (boM N g i 44 6)))
theorem boM_ne {N : Mem} {g : Int32} {k : Nat} (h : k ≠ 43) : ∀ i, boM N g i k = N k
  | 0 => rfl
  | i + 1 => by unfold boM; rw [updM_ne h]; exact boM_ne h i
theorem tlF_c {M N : Mem} (h42 : N 42 = M 42) (h47 : N 47 = M 47) (tone g : Int32) : ∀ n, tlF N tone g n = tlF M tone g n
  | 0 => rfl
  | n + 1 => by unfold tlF tlP hpN; rw [tlF_c h42 h47 tone g n, h42, h47]
abbrev tgF (N : Mem) (g : Int32) (i : Nat) : Int32 := tlF N (N 50 i) g (cn (N 44 6))
theorem boM_t {N : Mem} {g : Int32} (i : Nat) : tlF (boM N g i) (boM N g i 50 i) g (cn (boM N g i 44 6)) = tgF N g i := by
  rw [tlF_c (boM_ne (by decide) i) (boM_ne (by decide) i), boM_ne (k := 50) (by decide) i, boM_ne (k := 44) (by decide) i]
theorem boM_v {N : Mem} {g : Int32} : ∀ i j, j < i → boM N g i 43 j = tgF N g j
  | 0, j, h => absurd h (Nat.not_lt_zero j)
  | i + 1, j, h => by
    have e : boM N g (i + 1) 43 = upd (boM N g i 43) i (tgF N g i) := by
      show updM _ 43 i _ 43 = _
      rw [updM_eq, boM_t]
    rw [e]
    by_cases hj : j = i
    · subst hj; simp [upd]
    · simp only [upd, if_neg hj]; exact boM_v i j (by omega)
theorem boM_wf {N : Mem} {g : Int32} (h : WF N) (i : Nat) : WF (boM N g i) := CE_wf (fun k hk => boM_ne (fun z => by rw [z] at hk; exact absurd hk (by decide)) i) h
abbrev boB (M : Mem) (a b g : Int32) : Prop := hcF M 45 a ∧ hcF M 45 b ∧ ¬ g < -99 ∧ g ≤ 99
def bothR (M : Mem) (a b g r : Int32) (K : Mem) : Prop := if boB M a b g then if M 44 8 = 0 then r = -2 ∧ CE K M else ∃ N, (∀ q, q ≠ 42 → N q = M q) ∧ (∀ t, t < cn (M 44 6) → N 42 t = lgF M a b t) ∧ if (∀ i, i < cn (M 44 8) → 0 ≤ tgF N g i) then r = lcG M (tgF N g) a (cn (M 44 8)) ∧ ∃ K', PU M (tgF N g) a K' ∧ CE K K' else r = -4 ∧ CE K M else r = -1 ∧ CE K M
set_option maxRecDepth 100000 in
set_option maxHeartbeats 4000000 in
theorem bd_both {N : Mem} (hN : WF N) {G : GD} {R : Rv} {a b g : Int32} (hOK : (∀ i, i < cn (N 44 8) → 0 ≤ tgF N g i) → ∀ r K, r = lcG N (tgF N g) a (cn (N 44 8)) → PU N (tgF N g) a K → R (some (.int r)) SH K) (hNO : ¬ (∀ i, i < cn (N 44 8) → 0 ≤ tgF N g i) → ∀ K, (∀ k, k ≠ 43 → K k = N k) → R (some (.int (-4))) SH K) : Bd mX7_both G R SH 58 [some (.ref 0), some (.int a), some (.int b), some (.int g), some (.int 0)] [] N := by
  have q3 := hN.nt6
  have q2 := hN.nn12
  refine Bd_for (pc := 58) (c := (cn (N 44 8))) (fun i => [some (.ref 0), some (.int a), some (.int b), some (.int g), some (.int (nI i))]) (fun i => boM N g i) (fun i => ∀ j, j < i → 0 ≤ tgF N g j) (fun ivi => ?_) (fun i hi ivi ihi => ?_) (fun j hj => absurd hj (Nat.not_lt_zero j))
  · refine Bd_iload_4 (pc := 58) dX7_both_58 ?_
    refine Bd_aload_0 (pc := 60) dX7_both_60 ?_
    refine Bd_getR (j := 8) ck7 (pc := 61) dX7_both_61 k_243 rfl (Nat.le_of_ble_eq_true rfl) rfl ?_
    refine Bd_getI (j := 8) ck3 (pc := 64) dX7_both_64 k_171 rfl (Nat.le_of_ble_eq_true rfl) rfl ?_
    refine Bd_icmp_ge (t := 111) (pc := 67) dX7_both_67 (by decide) (fun b67 => ?_) (fun b67 => (show False from lf_x (show _ = nI (cn (N 44 8)) by rw [boM_ne (by decide)]; exact hN.nn) b67).elim)
    refine Bd_aload_0 (pc := 111) dX7_both_111 ?_
    refine Bd_iload_1 (pc := 112) dX7_both_112 ?_
    refine Bd_callV1x (cd := mX7_blowChosen) (pc := 113) dX7_both_113 k_560 v_X7_blowChosen ⟨(Nat.le_of_ble_eq_true rfl), (Nat.le_of_ble_eq_true rfl)⟩ rfl rfl (sem_X7_blowChosen (n := cn (N 44 8)) (by rw [boM_ne (by decide)]; exact hN.nn) hN.nn12 (fun i hi => by rw [boM_v _ _ hi]; rcases tlF_r (M := N) (tone := N 50 i) (lag := g) (cn (N 44 6)) with q | ⟨t, h1, h2, -⟩; exact absurd (ivi i hi) (by rw [tgF, q]; decide); rw [tgF, h2]; exact vpi (by omega) (by omega))) (Nat.le_of_ble_eq_true rfl) (fun x113 M113 e113 => ?_)
    refine Bd_iret (pc := 116) dX7_both_116 rfl ?_
    obtain ⟨e1, e2⟩ := e113
    exact hOK ivi _ _ (by rw [e1]; exact lcG_c (boM_ne (by decide) _) (boM_ne (by decide) _) (boM_ne (by decide) _) _ (fun i hi => boM_v _ _ hi)) (PU_c (fun k hk => boM_ne hk _) (fun i hi => boM_v _ _ hi) e2)
  · refine Bd_iload_4 (pc := 58) dX7_both_58 ?_
    refine Bd_aload_0 (pc := 60) dX7_both_60 ?_
    refine Bd_getR (j := 8) ck7 (pc := 61) dX7_both_61 k_243 rfl (Nat.le_of_ble_eq_true rfl) rfl ?_
    refine Bd_getI (j := 8) ck3 (pc := 64) dX7_both_64 k_171 rfl (Nat.le_of_ble_eq_true rfl) rfl ?_
    refine Bd_icmp_ge (t := 111) (pc := 67) dX7_both_67 (by decide) (fun b67 => (show False from lf_s (show _ = nI (cn (N 44 8)) by rw [boM_ne (by decide)]; exact hN.nn) (by omega) hi b67).elim) (fun b67 => ?_)
    refine Bd_aload_0 (pc := 70) dX7_both_70 ?_
    refine Bd_getR (j := 7) ck7 (pc := 71) dX7_both_71 k_242 rfl (Nat.le_of_ble_eq_true rfl) rfl ?_
    refine Bd_iload_4 (pc := 74) dX7_both_74 ?_
    refine Bd_aload_0 (pc := 76) dX7_both_76 ?_
    refine Bd_aload_0 (pc := 77) dX7_both_77 ?_
    refine Bd_getR (j := 8) ck7 (pc := 78) dX7_both_78 k_243 rfl (Nat.le_of_ble_eq_true rfl) rfl ?_
    refine Bd_getR (j := 5) ck3 (pc := 81) dX7_both_81 k_162 rfl (Nat.le_of_ble_eq_true rfl) rfl ?_
    refine Bd_iload_4 (pc := 84) dX7_both_84 ?_
    refine Bd_ialdc (j := i) (nI_clamp (by omega)) (pc := 86) dX7_both_86 rfl (vpi (by omega) (by omega)) ?_
    refine Bd_iload_3 (pc := 87) dX7_both_87 ?_
    refine Bd_callV2i (cd := mX7_towerOfLag) (pc := 88) dX7_both_88 k_621 v_X7_towerOfLag ⟨(Nat.le_of_ble_eq_true rfl), (Nat.le_of_ble_eq_true rfl)⟩ rfl rfl (sem_X7_towerOfLag (boM_wf hN i)) (Nat.le_of_ble_eq_true rfl) ?_
    refine Bd_iastc (j := i) (nI_clamp (by omega)) (pc := 91) dX7_both_91 rfl (vpi (by omega) (by omega)) ?_
    refine Bd_aload_0 (pc := 92) dX7_both_92 ?_
    refine Bd_getR (j := 7) ck7 (pc := 93) dX7_both_93 k_242 rfl (Nat.le_of_ble_eq_true rfl) rfl ?_
    refine Bd_iload_4 (pc := 96) dX7_both_96 ?_
    refine Bd_ialdc (j := i) (nI_clamp (by omega)) (pc := 98) dX7_both_98 rfl (vpi (by omega) (by omega)) ?_
    have hv : (updM (boM N g i) 43 i (tlF (boM N g i) (boM N g i 50 i) g (cn (boM N g i 44 6)))) 43 i = tgF N g i := by rw [updM_eq, boM_t]; simp [upd]
    rw [hv]
    refine Bd_if_ge (t := 105) (pc := 99) dX7_both_99 (by decide) (fun b99 => ?_) (fun b99 => ?_)
    · refine Bd_iinc_4 (pc := 105) dX7_both_105 (show _ + Int32.ofInt 1 = _ + 1 from rfl) (Nat.le_of_ble_eq_true rfl) rfl ?_
      refine Bd_goto (t := 58) (pc := 108) dX7_both_108 (by decide) ?_
      exact Bd_nx (ihi (fun j hj => by rcases Nat.lt_succ_iff_lt_or_eq.mp hj with q | q; exact ivi j q; rw [q]; exact b99)) (by simp [wkP, nI_succ])
    · refine Bd_bipush (v := -4) (pc := 102) dX7_both_102 (by decide) ?_
      refine Bd_iret (pc := 104) dX7_both_104 rfl ?_
      exact hNO (fun q => b99 (q i hi)) _ (fun k hk => by rw [updM_ne hk]; exact boM_ne hk i)
theorem CE_42 {K N M : Mem} (h1 : ∀ k, k ≠ 43 → K k = N k) (h2 : ∀ q, q ≠ 42 → N q = M q) : CE K M := fun k hk => by
  rw [h1 k (fun z => by rw [z] at hk; exact absurd hk (by decide)), h2 k (fun z => by rw [z] at hk; exact absurd hk (by decide))]
theorem PU_m {N M K : Mem} {ch : Nat → Int32} {c : Int32} (hN : ∀ q, q ≠ 42 → N q = M q) (hp : PU N ch c K) : ∃ K', PU M ch c K' ∧ CE K K' := by
  refine ⟨fun k => if k = 42 then M 42 else K k, ?_, fun k hk => ?_⟩
  · obtain ⟨h1, h2, h3, h4⟩ := hp
    have e44 := hN 44 (by decide)
    have e45 := hN 45 (by decide)
    have e46 := hN 46 (by decide)
    have e49 := hN 49 (by decide)
    have e50 := hN 50 (by decide)
    refine ⟨by rw [← e44]; exact h1, h2, fun i hi => ?_, fun k a5 a6 a7 a8 a43 => ?_⟩
    · obtain ⟨q1, q2, q3⟩ := h3 i (by rw [e44]; exact hi)
      refine ⟨q1, ?_, by rw [← e50]; exact q3⟩
      show K 7 i = _
      rw [q2, e44, e46, e49, sdF_c e45, lcG_c e45 e46 e49 _ (fun _ _ => rfl)]
    · show (if k = 42 then M 42 else K k) = M k
      by_cases hk : k = 42
      · rw [if_pos hk, hk]
      · rw [if_neg hk, h4 k a5 a6 a7 a8 a43, hN k hk]
  · have : k ≠ 42 := fun z => by rw [z] at hk; exact absurd hk (by decide)
    simp only [if_neg this]
set_option maxRecDepth 100000 in
set_option maxHeartbeats 4000000 in
theorem sem_X7_both {M : Mem} (h : WF M) {a b g : Int32} : Sem mX7_both SH [.ref 0, .int a, .int b, .int g] M (RI SH (fun r K => bothR M a b g r K)) := by
  have q1 := h.nb24
  have q2 := h.nn12
  have q3 := h.nt6
  have q4 := h.nh3
  have q5 := h.nmb
  refine Sem_of rfl (fun G => (Nat.le_of_ble_eq_true rfl)) (fun G => ?_)
  refine Bd_aload_0 (pc := 0) dX7_both_0 ?_
  refine Bd_getR (j := 8) ck7 (pc := 1) dX7_both_1 k_243 rfl (Nat.le_of_ble_eq_true rfl) rfl ?_
  refine Bd_iload_1 (pc := 4) dX7_both_4 ?_
  refine Bd_callV1i (cd := mX3_hasCell) (pc := 5) dX7_both_5 k_481 v_X3_hasCell ⟨(Nat.le_of_ble_eq_true rfl), (Nat.le_of_ble_eq_true rfl)⟩ rfl rfl sem_X3_hasCell (Nat.le_of_ble_eq_true rfl) ?_
  refine Bd_if_eq (t := 34) (pc := 8) dX7_both_8 (by decide) (fun b8 => ?_) (fun b8 => ?_)
  · refine Bd_iconst (v := -1) (pc := 34) dX7_both_34 (by decide) ?_
    refine Bd_iret (pc := 35) dX7_both_35 rfl ?_
    exact ⟨_, rfl, rfl, by show bothR _ _ _ _ _ _; rw [bothR, if_neg (fun q => b2_0.mp b8 q.1)]; exact ⟨rfl, CE_rf⟩⟩
  · refine Bd_aload_0 (pc := 11) dX7_both_11 ?_
    refine Bd_getR (j := 8) ck7 (pc := 12) dX7_both_12 k_243 rfl (Nat.le_of_ble_eq_true rfl) rfl ?_
    refine Bd_iload_2 (pc := 15) dX7_both_15 ?_
    refine Bd_callV1i (cd := mX3_hasCell) (pc := 16) dX7_both_16 k_481 v_X3_hasCell ⟨(Nat.le_of_ble_eq_true rfl), (Nat.le_of_ble_eq_true rfl)⟩ rfl rfl sem_X3_hasCell (Nat.le_of_ble_eq_true rfl) ?_
    refine Bd_if_eq (t := 34) (pc := 19) dX7_both_19 (by decide) (fun b19 => ?_) (fun b19 => ?_)
    · refine Bd_iconst (v := -1) (pc := 34) dX7_both_34 (by decide) ?_
      refine Bd_iret (pc := 35) dX7_both_35 rfl ?_
      exact ⟨_, rfl, rfl, by show bothR _ _ _ _ _ _; rw [bothR, if_neg (fun q => b2_0.mp b19 q.2.1)]; exact ⟨rfl, CE_rf⟩⟩
    · refine Bd_iload_3 (pc := 22) dX7_both_22 ?_
      refine Bd_bipush (v := -99) (pc := 23) dX7_both_23 (by decide) ?_
      refine Bd_icmp_lt (t := 34) (pc := 25) dX7_both_25 (by decide) (fun b25 => ?_) (fun b25 => ?_)
      · refine Bd_iconst (v := -1) (pc := 34) dX7_both_34 (by decide) ?_
        refine Bd_iret (pc := 35) dX7_both_35 rfl ?_
        exact ⟨_, rfl, rfl, by show bothR _ _ _ _ _ _; rw [bothR, if_neg (fun q => q.2.2.1 b25)]; exact ⟨rfl, CE_rf⟩⟩
      · refine Bd_iload_3 (pc := 28) dX7_both_28 ?_
        refine Bd_bipush (v := 99) (pc := 29) dX7_both_29 (by decide) ?_
        refine Bd_icmp_le (t := 36) (pc := 31) dX7_both_31 (by decide) (fun b31 => ?_) (fun b31 => ?_)
        · refine Bd_aload_0 (pc := 36) dX7_both_36 ?_
          refine Bd_getR (j := 8) ck7 (pc := 37) dX7_both_37 k_243 rfl (Nat.le_of_ble_eq_true rfl) rfl ?_
          refine Bd_getI (j := 8) ck3 (pc := 40) dX7_both_40 k_171 rfl (Nat.le_of_ble_eq_true rfl) rfl ?_
          refine Bd_if_ne (t := 49) (pc := 43) dX7_both_43 (by decide) (fun b43 => ?_) (fun b43 => ?_)
          · refine Bd_aload_0 (pc := 49) dX7_both_49 ?_
            refine Bd_iload_1 (pc := 50) dX7_both_50 ?_
            refine Bd_iload_2 (pc := 51) dX7_both_51 ?_
            refine Bd_callV2y (cd := mX7_measureLags) (pc := 52) dX7_both_52 k_605 v_X7_measureLags ⟨(Nat.le_of_ble_eq_true rfl), (Nat.le_of_ble_eq_true rfl)⟩ rfl rfl (sem_X7_measureLags h) (Nat.le_of_ble_eq_true rfl) (fun M52 e52 => ?_)
            refine Bd_iconst (v := 0) (pc := 55) dX7_both_55 (by decide) ?_
            refine Bd_istore_4 (pc := 56) dX7_both_56 (Nat.le_of_ble_eq_true rfl) rfl ?_
            obtain ⟨hN1, hN2⟩ := e52
            have e44 := hN1 44 (by decide)
            refine bd_both (CE_wf (fun q hq => hN1 q (fun z => by rw [z] at hq; exact absurd hq (by decide))) h) (fun hall r K hr hp => ⟨r, rfl, rfl, by show bothR _ _ _ _ _ _; rw [bothR, if_pos ⟨b2_n.mp b8, b2_n.mp b19, b25, b31⟩, if_neg b43]; refine ⟨M52, hN1, hN2, ?_⟩; rw [if_pos (by rw [← e44]; exact hall)]; exact ⟨by rw [hr, e44]; exact lcG_c (hN1 45 (by decide)) (hN1 46 (by decide)) (hN1 49 (by decide)) _ (fun _ _ => rfl), PU_m hN1 hp⟩⟩) (fun hn K hK => ⟨_, rfl, rfl, by show bothR _ _ _ _ _ _; rw [bothR, if_pos ⟨b2_n.mp b8, b2_n.mp b19, b25, b31⟩, if_neg b43]; refine ⟨M52, hN1, hN2, ?_⟩; rw [if_neg (by rw [← e44]; exact hn)]; exact ⟨rfl, CE_42 hK hN1⟩⟩)
          · refine Bd_bipush (v := -2) (pc := 46) dX7_both_46 (by decide) ?_
            refine Bd_iret (pc := 48) dX7_both_48 rfl ?_
            exact ⟨_, rfl, rfl, by show bothR _ _ _ _ _ _; rw [bothR, if_pos ⟨b2_n.mp b8, b2_n.mp b19, b25, b31⟩, if_pos b43]; exact ⟨rfl, CE_rf⟩⟩
        · refine Bd_iconst (v := -1) (pc := 34) dX7_both_34 (by decide) ?_
          refine Bd_iret (pc := 35) dX7_both_35 rfl ?_
          exact ⟨_, rfl, rfl, by show bothR _ _ _ _ _ _; rw [bothR, if_neg (fun q => b31 q.2.2.2)]; exact ⟨rfl, CE_rf⟩⟩
def bc1 (x : Int32) : Int32 := x - ((x.toUInt32 >>> ((1 : Int32).toUInt32 &&& Int32.toUInt32 31)).toInt32 &&& 1431655765)
def bc2 (x : Int32) : Int32 := (x &&& 858993459) + ((x.toUInt32 >>> ((2 : Int32).toUInt32 &&& Int32.toUInt32 31)).toInt32 &&& 858993459)
def bc3 (x : Int32) : Int32 := (x + (x.toUInt32 >>> ((4 : Int32).toUInt32 &&& Int32.toUInt32 31)).toInt32) &&& 252645135
def bc4 (x : Int32) : Int32 := x + (x.toUInt32 >>> ((8 : Int32).toUInt32 &&& Int32.toUInt32 31)).toInt32
def bc5 (x : Int32) : Int32 := x + (x.toUInt32 >>> ((16 : Int32).toUInt32 &&& Int32.toUInt32 31)).toInt32
def bcV (x : Int32) : Int32 := bc5 (bc4 (bc3 (bc2 (bc1 x)))) &&& 63
set_option maxRecDepth 100000 in
set_option maxHeartbeats 4000000 in
theorem sem_J6_bitCount_0f7a4 {sh : List Ds} {M : Mem} {x : Int32} : Sem mJ6_bitCount_0f7a4 sh [.int x] M (PD sh (some (.int (bcV x))) M) := by
  refine Sem_of rfl (fun G => (Nat.le_of_ble_eq_true rfl)) (fun G => ?_)
  refine Bd_iload_0 (pc := 0) dJ6_bitCount_0f7a4_0 ?_
  refine Bd_iload_0 (pc := 1) dJ6_bitCount_0f7a4_1 ?_
  refine Bd_iconst (v := 1) (pc := 2) dJ6_bitCount_0f7a4_2 (by decide) ?_
  refine Bd_iushr (pc := 3) dJ6_bitCount_0f7a4_3 ?_
  refine Bd_ldc_w k_636 (pc := 4) dJ6_bitCount_0f7a4_4 ?_
  refine Bd_iand (pc := 7) dJ6_bitCount_0f7a4_7 ?_
  refine Bd_isub (pc := 8) dJ6_bitCount_0f7a4_8 ?_
  refine Bd_istore_0 (pc := 9) dJ6_bitCount_0f7a4_9 (Nat.le_of_ble_eq_true rfl) rfl ?_
  refine Bd_iload_0 (pc := 10) dJ6_bitCount_0f7a4_10 ?_
  refine Bd_ldc_w k_637 (pc := 11) dJ6_bitCount_0f7a4_11 ?_
  refine Bd_iand (pc := 14) dJ6_bitCount_0f7a4_14 ?_
  refine Bd_iload_0 (pc := 15) dJ6_bitCount_0f7a4_15 ?_
  refine Bd_iconst (v := 2) (pc := 16) dJ6_bitCount_0f7a4_16 (by decide) ?_
  refine Bd_iushr (pc := 17) dJ6_bitCount_0f7a4_17 ?_
  refine Bd_ldc_w k_637 (pc := 18) dJ6_bitCount_0f7a4_18 ?_
  refine Bd_iand (pc := 21) dJ6_bitCount_0f7a4_21 ?_
  refine Bd_iadd (pc := 22) dJ6_bitCount_0f7a4_22 ?_
  refine Bd_istore_0 (pc := 23) dJ6_bitCount_0f7a4_23 (Nat.le_of_ble_eq_true rfl) rfl ?_
  refine Bd_iload_0 (pc := 24) dJ6_bitCount_0f7a4_24 ?_
  refine Bd_iload_0 (pc := 25) dJ6_bitCount_0f7a4_25 ?_
  refine Bd_iconst (v := 4) (pc := 26) dJ6_bitCount_0f7a4_26 (by decide) ?_
  refine Bd_iushr (pc := 27) dJ6_bitCount_0f7a4_27 ?_
  refine Bd_iadd (pc := 28) dJ6_bitCount_0f7a4_28 ?_
  refine Bd_ldc_w k_638 (pc := 29) dJ6_bitCount_0f7a4_29 ?_
  refine Bd_iand (pc := 32) dJ6_bitCount_0f7a4_32 ?_
  refine Bd_istore_0 (pc := 33) dJ6_bitCount_0f7a4_33 (Nat.le_of_ble_eq_true rfl) rfl ?_
  refine Bd_iload_0 (pc := 34) dJ6_bitCount_0f7a4_34 ?_
  refine Bd_iload_0 (pc := 35) dJ6_bitCount_0f7a4_35 ?_
  refine Bd_bipush (v := 8) (pc := 36) dJ6_bitCount_0f7a4_36 (by decide) ?_
  refine Bd_iushr (pc := 38) dJ6_bitCount_0f7a4_38 ?_
  refine Bd_iadd (pc := 39) dJ6_bitCount_0f7a4_39 ?_
  refine Bd_istore_0 (pc := 40) dJ6_bitCount_0f7a4_40 (Nat.le_of_ble_eq_true rfl) rfl ?_
  refine Bd_iload_0 (pc := 41) dJ6_bitCount_0f7a4_41 ?_
  refine Bd_iload_0 (pc := 42) dJ6_bitCount_0f7a4_42 ?_
  refine Bd_bipush (v := 16) (pc := 43) dJ6_bitCount_0f7a4_43 (by decide) ?_
  refine Bd_iushr (pc := 45) dJ6_bitCount_0f7a4_45 ?_
  refine Bd_iadd (pc := 46) dJ6_bitCount_0f7a4_46 ?_
  refine Bd_istore_0 (pc := 47) dJ6_bitCount_0f7a4_47 (Nat.le_of_ble_eq_true rfl) rfl ?_
  refine Bd_iload_0 (pc := 48) dJ6_bitCount_0f7a4_48 ?_
  refine Bd_bipush (v := 63) (pc := 49) dJ6_bitCount_0f7a4_49 (by decide) ?_
  refine Bd_iand (pc := 51) dJ6_bitCount_0f7a4_51 ?_
  refine Bd_iret (pc := 52) dJ6_bitCount_0f7a4_52 rfl ?_
  exact PD_i rfl rfl
theorem sh6 : ∀ n, n ≤ 6 → (1 : Int32) <<< (nI n &&& 31) = nI (2 ^ n) := by decide +kernel
theorem WF.sh {M : Mem} (h : WF M) : (1 : Int32) <<< (M 44 6 &&& 31) = nI (2 ^ cn (M 44 6)) := by
  have h1 := h.nt
  have h2 := sh6 (cn (M 44 6)) h.nt6
  rw [← h1] at h2
  exact h2
theorem WF.p64 {M : Mem} (h : WF M) : 2 ^ cn (M 44 6) ≤ 64 := Nat.pow_le_pow_right (n := 2) (by decide) h.nt6
/-- fewest: the best set so far -/
def fwF (M : Mem) : Nat → Int32
  | 0 => -4
  | s + 1 => if (fwF M s < 0 ∨ bcV (nI s) < bcV (fwF M s)) ∧ ptF M (cn (M 44 8)) &&& (psF M (nI s) (cn (M 44 6)) ^^^ -1) = 0 then nI s else fwF M s
def fewestV (M : Mem) (k : Int32) : Int32 := if 0 ≤ k ∧ k < 2 then if k = 1 ∨ fwF M (2 ^ cn (M 44 6)) < 0 then fwF M (2 ^ cn (M 44 6)) else bcV (fwF M (2 ^ cn (M 44 6))) else -1
set_option maxRecDepth 100000 in
set_option maxHeartbeats 4000000 in
theorem sem_X7_fewest {M : Mem} (h : WF M) {k : Int32} : Sem mX7_fewest SH [.ref 0, .int k] M (PD SH (some (.int (fewestV M k))) (M)) := by
  have q1 := h.nb24
  have q2 := h.nn12
  have q3 := h.nt6
  have q4 := h.nh3
  have q5 := h.nmb
  have q6 := h.p64
  refine Sem_of rfl (fun G => (Nat.le_of_ble_eq_true rfl)) (fun G => ?_)
  refine Bd_iload_1 (pc := 0) dX7_fewest_0 ?_
  refine Bd_iconst (v := 2) (pc := 1) dX7_fewest_1 (by decide) ?_
  refine Bd_callS2i (cd := mX7_isWithin) (pc := 2) dX7_fewest_2 k_448 v_X7_isWithin ⟨(Nat.le_of_ble_eq_true rfl), (Nat.le_of_ble_eq_true rfl)⟩ sem_X7_isWithin (Nat.le_of_ble_eq_true rfl) ?_
  refine Bd_if_ne (t := 10) (pc := 5) dX7_fewest_5 (by decide) (fun b5 => ?_) (fun b5 => ?_)
  · refine Bd_aload_0 (pc := 10) dX7_fewest_10 ?_
    refine Bd_getR (j := 8) ck7 (pc := 11) dX7_fewest_11 k_243 rfl (Nat.le_of_ble_eq_true rfl) rfl ?_
    refine Bd_callV0i (cd := mX3_psalmTones) (pc := 14) dX7_fewest_14 k_617 v_X3_psalmTones ⟨(Nat.le_of_ble_eq_true rfl), (Nat.le_of_ble_eq_true rfl)⟩ rfl rfl (sem_X3_psalmTones h.nn h.nn12) (Nat.le_of_ble_eq_true rfl) ?_
    refine Bd_istore_2 (pc := 17) dX7_fewest_17 (Nat.le_of_ble_eq_true rfl) rfl ?_
    refine Bd_bipush (v := -4) (pc := 18) dX7_fewest_18 (by decide) ?_
    refine Bd_istore_3 (pc := 20) dX7_fewest_20 (Nat.le_of_ble_eq_true rfl) rfl ?_
    refine Bd_iconst (v := 0) (pc := 21) dX7_fewest_21 (by decide) ?_
    refine Bd_istore_4 (pc := 22) dX7_fewest_22 (Nat.le_of_ble_eq_true rfl) rfl ?_
    refine Bd_nx (L' := (fun i => [some (.ref 0), some (.int k), some (.int (ptF M (cn (M 44 8)))), some (.int (fwF M i)), some (.int (nI i)), none]) 0) ?_ (by repeat (first | exact True.intro | refine And.intro rfl ?_))
    refine Bd_for (pc := 24) (c := (2 ^ cn (M 44 6))) (fun i => [some (.ref 0), some (.int k), some (.int (ptF M (cn (M 44 8)))), some (.int (fwF M i)), some (.int (nI i)), none]) (fun _ => M) (fun _ => True) (fun ivi => ?_) (fun i hi ivi ihi => ?_) trivial
    · refine Bd_iload_4 (pc := 24) dX7_fewest_24 ?_
      refine Bd_iconst (v := 1) (pc := 26) dX7_fewest_26 (by decide) ?_
      refine Bd_aload_0 (pc := 27) dX7_fewest_27 ?_
      refine Bd_getR (j := 8) ck7 (pc := 28) dX7_fewest_28 k_243 rfl (Nat.le_of_ble_eq_true rfl) rfl ?_
      refine Bd_getI (j := 6) ck3 (pc := 31) dX7_fewest_31 k_165 rfl (Nat.le_of_ble_eq_true rfl) rfl ?_
      refine Bd_ishl (pc := 34) dX7_fewest_34 ?_
      refine Bd_icmp_ge (t := 91) (pc := 35) dX7_fewest_35 (by decide) (fun b35 => ?_) (fun b35 => (show False from lf_x h.sh b35).elim)
      refine Bd_iload_1 (pc := 91) dX7_fewest_91 ?_
      refine Bd_iconst (v := 1) (pc := 92) dX7_fewest_92 (by decide) ?_
      refine Bd_icmp_eq (t := 100) (pc := 93) dX7_fewest_93 (by decide) (fun b93 => ?_) (fun b93 => ?_)
      · refine Bd_iload_3 (pc := 100) dX7_fewest_100 ?_
        refine Bd_goto (t := 108) (pc := 101) dX7_fewest_101 (by decide) ?_
        refine Bd_iret (pc := 108) dX7_fewest_108 rfl ?_
        exact PD_i (by rw [fewestV, if_pos (b2_n.mp b5), if_pos (Or.inl b93)]) rfl
      · refine Bd_iload_3 (pc := 96) dX7_fewest_96 ?_
        refine Bd_if_ge (t := 104) (pc := 97) dX7_fewest_97 (by decide) (fun b97 => ?_) (fun b97 => ?_)
        · refine Bd_iload_3 (pc := 104) dX7_fewest_104 ?_
          refine Bd_callS1i (cd := mJ6_bitCount_0f7a4) (pc := 105) dX7_fewest_105 k_633 v_J6_bitCount_0f7a4 ⟨(Nat.le_of_ble_eq_true rfl), (Nat.le_of_ble_eq_true rfl)⟩ sem_J6_bitCount_0f7a4 (Nat.le_of_ble_eq_true rfl) ?_
          refine Bd_iret (pc := 108) dX7_fewest_108 rfl ?_
          exact PD_i (by rw [fewestV, if_pos (b2_n.mp b5), if_neg (fun q => q.elim b93 (fun z => Int32.not_lt.mpr b97 z))]) rfl
        · refine Bd_iload_3 (pc := 100) dX7_fewest_100 ?_
          refine Bd_goto (t := 108) (pc := 101) dX7_fewest_101 (by decide) ?_
          refine Bd_iret (pc := 108) dX7_fewest_108 rfl ?_
          exact PD_i (by rw [fewestV, if_pos (b2_n.mp b5), if_pos (Or.inr (Int32.not_le.mp b97))]) rfl
    · refine Bd_iload_4 (pc := 24) dX7_fewest_24 ?_
      refine Bd_iconst (v := 1) (pc := 26) dX7_fewest_26 (by decide) ?_
      refine Bd_aload_0 (pc := 27) dX7_fewest_27 ?_
      refine Bd_getR (j := 8) ck7 (pc := 28) dX7_fewest_28 k_243 rfl (Nat.le_of_ble_eq_true rfl) rfl ?_
      refine Bd_getI (j := 6) ck3 (pc := 31) dX7_fewest_31 k_165 rfl (Nat.le_of_ble_eq_true rfl) rfl ?_
      refine Bd_ishl (pc := 34) dX7_fewest_34 ?_
      refine Bd_icmp_ge (t := 91) (pc := 35) dX7_fewest_35 (by decide) (fun b35 => (show False from lf_s h.sh (by omega) hi b35).elim) (fun b35 => ?_)
      refine Bd_iload_3 (pc := 38) dX7_fewest_38 ?_
      refine Bd_if_lt (t := 54) (pc := 39) dX7_fewest_39 (by decide) (fun b39 => ?_) (fun b39 => ?_)
      · refine Bd_iconst (v := 1) (pc := 54) dX7_fewest_54 (by decide) ?_
        refine Bd_goto (t := 59) (pc := 55) dX7_fewest_55 (by decide) ?_
        refine Bd_istore_5 (pc := 59) dX7_fewest_59 (Nat.le_of_ble_eq_true rfl) rfl ?_
        refine Bd_iload_5 (pc := 61) dX7_fewest_61 ?_
        refine Bd_if_eq (t := 85) (pc := 63) dX7_fewest_63 (by decide) (fun b63 => (show False from absurd b63 (by decide)).elim) (fun b63 => ?_)
        refine Bd_iload_2 (pc := 66) dX7_fewest_66 ?_
        refine Bd_aload_0 (pc := 67) dX7_fewest_67 ?_
        refine Bd_getR (j := 8) ck7 (pc := 68) dX7_fewest_68 k_243 rfl (Nat.le_of_ble_eq_true rfl) rfl ?_
        refine Bd_iload_4 (pc := 71) dX7_fewest_71 ?_
        refine Bd_callV1i (cd := mX3_pipesOfSet) (pc := 73) dX7_fewest_73 k_639 v_X3_pipesOfSet ⟨(Nat.le_of_ble_eq_true rfl), (Nat.le_of_ble_eq_true rfl)⟩ rfl rfl (sem_X3_pipesOfSet h.nt h.nt6) (Nat.le_of_ble_eq_true rfl) ?_
        refine Bd_iconst (v := -1) (pc := 76) dX7_fewest_76 (by decide) ?_
        refine Bd_ixor (pc := 77) dX7_fewest_77 ?_
        refine Bd_iand (pc := 78) dX7_fewest_78 ?_
        refine Bd_if_ne (t := 85) (pc := 79) dX7_fewest_79 (by decide) (fun b79 => ?_) (fun b79 => ?_)
        · refine Bd_iinc_4 (pc := 85) dX7_fewest_85 (show _ + Int32.ofInt 1 = _ + 1 from rfl) (Nat.le_of_ble_eq_true rfl) rfl ?_
          refine Bd_goto (t := 24) (pc := 88) dX7_fewest_88 (by decide) ?_
          exact Bd_nx (ihi trivial) (by simp only [wkP, fwF, nI_succ]; rw [if_neg (fun q => b79 q.2)]; simp)
        · refine Bd_iload_4 (pc := 82) dX7_fewest_82 ?_
          refine Bd_istore_3 (pc := 84) dX7_fewest_84 (Nat.le_of_ble_eq_true rfl) rfl ?_
          refine Bd_iinc_4 (pc := 85) dX7_fewest_85 (show _ + Int32.ofInt 1 = _ + 1 from rfl) (Nat.le_of_ble_eq_true rfl) rfl ?_
          refine Bd_goto (t := 24) (pc := 88) dX7_fewest_88 (by decide) ?_
          exact Bd_nx (ihi trivial) (by simp only [wkP, fwF, nI_succ]; rw [if_pos ⟨Or.inl b39, b79⟩]; simp)
      · refine Bd_iload_4 (pc := 42) dX7_fewest_42 ?_
        refine Bd_callS1i (cd := mJ6_bitCount_0f7a4) (pc := 44) dX7_fewest_44 k_633 v_J6_bitCount_0f7a4 ⟨(Nat.le_of_ble_eq_true rfl), (Nat.le_of_ble_eq_true rfl)⟩ sem_J6_bitCount_0f7a4 (Nat.le_of_ble_eq_true rfl) ?_
        refine Bd_iload_3 (pc := 47) dX7_fewest_47 ?_
        refine Bd_callS1i (cd := mJ6_bitCount_0f7a4) (pc := 48) dX7_fewest_48 k_633 v_J6_bitCount_0f7a4 ⟨(Nat.le_of_ble_eq_true rfl), (Nat.le_of_ble_eq_true rfl)⟩ sem_J6_bitCount_0f7a4 (Nat.le_of_ble_eq_true rfl) ?_
        refine Bd_icmp_ge (t := 58) (pc := 51) dX7_fewest_51 (by decide) (fun b51 => ?_) (fun b51 => ?_)
        · refine Bd_iconst (v := 0) (pc := 58) dX7_fewest_58 (by decide) ?_
          refine Bd_istore_5 (pc := 59) dX7_fewest_59 (Nat.le_of_ble_eq_true rfl) rfl ?_
          refine Bd_iload_5 (pc := 61) dX7_fewest_61 ?_
          refine Bd_if_eq (t := 85) (pc := 63) dX7_fewest_63 (by decide) (fun b63 => ?_) (fun b63 => (show False from b63 rfl).elim)
          refine Bd_iinc_4 (pc := 85) dX7_fewest_85 (show _ + Int32.ofInt 1 = _ + 1 from rfl) (Nat.le_of_ble_eq_true rfl) rfl ?_
          refine Bd_goto (t := 24) (pc := 88) dX7_fewest_88 (by decide) ?_
          exact Bd_nx (ihi trivial) (by simp only [wkP, fwF, nI_succ]; rw [if_neg (fun q => q.1.elim (fun z => b39 z) (fun z => Int32.not_lt.mpr b51 z))]; simp)
        · refine Bd_iconst (v := 1) (pc := 54) dX7_fewest_54 (by decide) ?_
          refine Bd_goto (t := 59) (pc := 55) dX7_fewest_55 (by decide) ?_
          refine Bd_istore_5 (pc := 59) dX7_fewest_59 (Nat.le_of_ble_eq_true rfl) rfl ?_
          refine Bd_iload_5 (pc := 61) dX7_fewest_61 ?_
          refine Bd_if_eq (t := 85) (pc := 63) dX7_fewest_63 (by decide) (fun b63 => (show False from absurd b63 (by decide)).elim) (fun b63 => ?_)
          refine Bd_iload_2 (pc := 66) dX7_fewest_66 ?_
          refine Bd_aload_0 (pc := 67) dX7_fewest_67 ?_
          refine Bd_getR (j := 8) ck7 (pc := 68) dX7_fewest_68 k_243 rfl (Nat.le_of_ble_eq_true rfl) rfl ?_
          refine Bd_iload_4 (pc := 71) dX7_fewest_71 ?_
          refine Bd_callV1i (cd := mX3_pipesOfSet) (pc := 73) dX7_fewest_73 k_639 v_X3_pipesOfSet ⟨(Nat.le_of_ble_eq_true rfl), (Nat.le_of_ble_eq_true rfl)⟩ rfl rfl (sem_X3_pipesOfSet h.nt h.nt6) (Nat.le_of_ble_eq_true rfl) ?_
          refine Bd_iconst (v := -1) (pc := 76) dX7_fewest_76 (by decide) ?_
          refine Bd_ixor (pc := 77) dX7_fewest_77 ?_
          refine Bd_iand (pc := 78) dX7_fewest_78 ?_
          refine Bd_if_ne (t := 85) (pc := 79) dX7_fewest_79 (by decide) (fun b79 => ?_) (fun b79 => ?_)
          · refine Bd_iinc_4 (pc := 85) dX7_fewest_85 (show _ + Int32.ofInt 1 = _ + 1 from rfl) (Nat.le_of_ble_eq_true rfl) rfl ?_
            refine Bd_goto (t := 24) (pc := 88) dX7_fewest_88 (by decide) ?_
            exact Bd_nx (ihi trivial) (by simp only [wkP, fwF, nI_succ]; rw [if_neg (fun q => b79 q.2)]; simp)
          · refine Bd_iload_4 (pc := 82) dX7_fewest_82 ?_
            refine Bd_istore_3 (pc := 84) dX7_fewest_84 (Nat.le_of_ble_eq_true rfl) rfl ?_
            refine Bd_iinc_4 (pc := 85) dX7_fewest_85 (show _ + Int32.ofInt 1 = _ + 1 from rfl) (Nat.le_of_ble_eq_true rfl) rfl ?_
            refine Bd_goto (t := 24) (pc := 88) dX7_fewest_88 (by decide) ?_
            exact Bd_nx (ihi trivial) (by simp only [wkP, fwF, nI_succ]; rw [if_pos ⟨Or.inr (Int32.not_le.mp b51), b79⟩]; simp)
  · refine Bd_iconst (v := -1) (pc := 8) dX7_fewest_8 (by decide) ?_
    refine Bd_iret (pc := 9) dX7_fewest_9 rfl ?_
    exact PD_i (by rw [fewestV, if_neg (b2_0.mp b5)]) rfl
/-- pipes: best set and how many are lacking, so far -/
def ppF (M : Mem) (tg : Int32) : Nat → Int32 × Int32
  | 0 => (0, 1000000)
  | s + 1 => if bcV (nI s) = tg then if (ppF M tg s).2 ≤ bcV (ptF M (cn (M 44 8)) &&& (psF M (nI s) (cn (M 44 6)) ^^^ -1)) then ppF M tg s else (nI s, bcV (ptF M (cn (M 44 8)) &&& (psF M (nI s) (cn (M 44 6)) ^^^ -1))) else ppF M tg s
def pipesV (M : Mem) (k : Int32) : Int32 := if 0 ≤ k ∧ k < 4 then if (ppF M (if k < 2 then 1 else 2) (2 ^ cn (M 44 6))).1 = 0 then -4 else if k = 3 then (ppF M (if k < 2 then 1 else 2) (2 ^ cn (M 44 6))).1 else if k = 1 then bcV ((ppF M (if k < 2 then 1 else 2) (2 ^ cn (M 44 6))).1 - 1) else (ppF M (if k < 2 then 1 else 2) (2 ^ cn (M 44 6))).2 else -1
set_option maxRecDepth 100000 in
set_option maxHeartbeats 4000000 in
theorem sem_X7_pipes {M : Mem} (h : WF M) {k : Int32} : Sem mX7_pipes SH [.ref 0, .int k] M (PD SH (some (.int (pipesV M k))) (M)) := by
  have q1 := h.nb24
  have q2 := h.nn12
  have q3 := h.nt6
  have q4 := h.nh3
  have q5 := h.nmb
  have q6 := h.p64
  refine Sem_of rfl (fun G => (Nat.le_of_ble_eq_true rfl)) (fun G => ?_)
  have key : ¬ b2 (0 ≤ k ∧ k < 4) = 0 → ∀ tg, (if k < 2 then (1 : Int32) else 2) = tg → Bd mX7_pipes G (PD SH (some (.int (pipesV M k))) (M)) SH 21 [some (.ref 0), some (.int k), some (.int tg), none, none, none, none, none] [] M := by
    intro b5 tg htg
    refine Bd_aload_0 (pc := 21) dX7_pipes_21 ?_
    refine Bd_getR (j := 8) ck7 (pc := 22) dX7_pipes_22 k_243 rfl (Nat.le_of_ble_eq_true rfl) rfl ?_
    refine Bd_callV0i (cd := mX3_psalmTones) (pc := 25) dX7_pipes_25 k_617 v_X3_psalmTones ⟨(Nat.le_of_ble_eq_true rfl), (Nat.le_of_ble_eq_true rfl)⟩ rfl rfl (sem_X3_psalmTones h.nn h.nn12) (Nat.le_of_ble_eq_true rfl) ?_
    refine Bd_istore_3 (pc := 28) dX7_pipes_28 (Nat.le_of_ble_eq_true rfl) rfl ?_
    refine Bd_iconst (v := 0) (pc := 29) dX7_pipes_29 (by decide) ?_
    refine Bd_istore_4 (pc := 30) dX7_pipes_30 (Nat.le_of_ble_eq_true rfl) rfl ?_
    refine Bd_ldc k_554 (pc := 32) dX7_pipes_32 ?_
    refine Bd_istore_5 (pc := 34) dX7_pipes_34 (Nat.le_of_ble_eq_true rfl) rfl ?_
    refine Bd_iconst (v := 0) (pc := 36) dX7_pipes_36 (by decide) ?_
    refine Bd_istore_6 (pc := 37) dX7_pipes_37 (Nat.le_of_ble_eq_true rfl) rfl ?_
    refine Bd_nx (L' := (fun i => [some (.ref 0), some (.int k), some (.int tg), some (.int (ptF M (cn (M 44 8)))), some (.int (ppF M tg i).1), some (.int (ppF M tg i).2), some (.int (nI i)), none]) 0) ?_ (by repeat (first | exact True.intro | refine And.intro rfl ?_))
    refine Bd_for (pc := 39) (c := (2 ^ cn (M 44 6))) (fun i => [some (.ref 0), some (.int k), some (.int tg), some (.int (ptF M (cn (M 44 8)))), some (.int (ppF M tg i).1), some (.int (ppF M tg i).2), some (.int (nI i)), none]) (fun _ => M) (fun _ => True) (fun ivi => ?_) (fun i hi ivi ihi => ?_) trivial
    · refine Bd_iload_6 (pc := 39) dX7_pipes_39 ?_
      refine Bd_iconst (v := 1) (pc := 41) dX7_pipes_41 (by decide) ?_
      refine Bd_aload_0 (pc := 42) dX7_pipes_42 ?_
      refine Bd_getR (j := 8) ck7 (pc := 43) dX7_pipes_43 k_243 rfl (Nat.le_of_ble_eq_true rfl) rfl ?_
      refine Bd_getI (j := 6) ck3 (pc := 46) dX7_pipes_46 k_165 rfl (Nat.le_of_ble_eq_true rfl) rfl ?_
      refine Bd_ishl (pc := 49) dX7_pipes_49 ?_
      refine Bd_icmp_ge (t := 101) (pc := 50) dX7_pipes_50 (by decide) (fun b50 => ?_) (fun b50 => (show False from lf_x h.sh b50).elim)
      refine Bd_iload_4 (pc := 101) dX7_pipes_101 ?_
      refine Bd_if_ne (t := 109) (pc := 103) dX7_pipes_103 (by decide) (fun b103 => ?_) (fun b103 => ?_)
      · refine Bd_iload_1 (pc := 109) dX7_pipes_109 ?_
        refine Bd_iconst (v := 3) (pc := 110) dX7_pipes_110 (by decide) ?_
        refine Bd_icmp_ne (t := 117) (pc := 111) dX7_pipes_111 (by decide) (fun b111 => ?_) (fun b111 => ?_)
        · refine Bd_iload_1 (pc := 117) dX7_pipes_117 ?_
          refine Bd_iconst (v := 1) (pc := 118) dX7_pipes_118 (by decide) ?_
          refine Bd_icmp_ne (t := 132) (pc := 119) dX7_pipes_119 (by decide) (fun b119 => ?_) (fun b119 => ?_)
          · refine Bd_iload_5 (pc := 132) dX7_pipes_132 ?_
            refine Bd_iret (pc := 134) dX7_pipes_134 rfl ?_
            exact PD_i (by rw [pipesV, if_pos (b2_n.mp b5), htg, if_neg b103, if_neg b111, if_neg b119]) rfl
          · refine Bd_iload_4 (pc := 122) dX7_pipes_122 ?_
            refine Bd_iconst (v := 1) (pc := 124) dX7_pipes_124 (by decide) ?_
            refine Bd_isub (pc := 125) dX7_pipes_125 ?_
            refine Bd_callS1i (cd := mJ6_bitCount_0f7a4) (pc := 126) dX7_pipes_126 k_633 v_J6_bitCount_0f7a4 ⟨(Nat.le_of_ble_eq_true rfl), (Nat.le_of_ble_eq_true rfl)⟩ sem_J6_bitCount_0f7a4 (Nat.le_of_ble_eq_true rfl) ?_
            refine Bd_goto (t := 134) (pc := 129) dX7_pipes_129 (by decide) ?_
            refine Bd_iret (pc := 134) dX7_pipes_134 rfl ?_
            exact PD_i (by rw [pipesV, if_pos (b2_n.mp b5), htg, if_neg b103, if_neg b111, if_pos b119]) rfl
        · refine Bd_iload_4 (pc := 114) dX7_pipes_114 ?_
          refine Bd_iret (pc := 116) dX7_pipes_116 rfl ?_
          exact PD_i (by rw [pipesV, if_pos (b2_n.mp b5), htg, if_neg b103, if_pos b111]) rfl
      · refine Bd_bipush (v := -4) (pc := 106) dX7_pipes_106 (by decide) ?_
        refine Bd_iret (pc := 108) dX7_pipes_108 rfl ?_
        exact PD_i (by rw [pipesV, if_pos (b2_n.mp b5), htg, if_pos b103]) rfl
    · refine Bd_iload_6 (pc := 39) dX7_pipes_39 ?_
      refine Bd_iconst (v := 1) (pc := 41) dX7_pipes_41 (by decide) ?_
      refine Bd_aload_0 (pc := 42) dX7_pipes_42 ?_
      refine Bd_getR (j := 8) ck7 (pc := 43) dX7_pipes_43 k_243 rfl (Nat.le_of_ble_eq_true rfl) rfl ?_
      refine Bd_getI (j := 6) ck3 (pc := 46) dX7_pipes_46 k_165 rfl (Nat.le_of_ble_eq_true rfl) rfl ?_
      refine Bd_ishl (pc := 49) dX7_pipes_49 ?_
      refine Bd_icmp_ge (t := 101) (pc := 50) dX7_pipes_50 (by decide) (fun b50 => (show False from lf_s h.sh (by omega) hi b50).elim) (fun b50 => ?_)
      refine Bd_iload_6 (pc := 53) dX7_pipes_53 ?_
      refine Bd_callS1i (cd := mJ6_bitCount_0f7a4) (pc := 55) dX7_pipes_55 k_633 v_J6_bitCount_0f7a4 ⟨(Nat.le_of_ble_eq_true rfl), (Nat.le_of_ble_eq_true rfl)⟩ sem_J6_bitCount_0f7a4 (Nat.le_of_ble_eq_true rfl) ?_
      refine Bd_iload_2 (pc := 58) dX7_pipes_58 ?_
      refine Bd_icmp_ne (t := 95) (pc := 59) dX7_pipes_59 (by decide) (fun b59 => ?_) (fun b59 => ?_)
      · refine Bd_iinc_6 (pc := 95) dX7_pipes_95 (show _ + Int32.ofInt 1 = _ + 1 from rfl) (Nat.le_of_ble_eq_true rfl) rfl ?_
        refine Bd_goto (t := 39) (pc := 98) dX7_pipes_98 (by decide) ?_
        exact Bd_nx (ihi trivial) (by simp only [wkP, ppF, if_neg b59, nI_succ, and_self])
      · refine Bd_iload_3 (pc := 62) dX7_pipes_62 ?_
        refine Bd_aload_0 (pc := 63) dX7_pipes_63 ?_
        refine Bd_getR (j := 8) ck7 (pc := 64) dX7_pipes_64 k_243 rfl (Nat.le_of_ble_eq_true rfl) rfl ?_
        refine Bd_iload_6 (pc := 67) dX7_pipes_67 ?_
        refine Bd_callV1i (cd := mX3_pipesOfSet) (pc := 69) dX7_pipes_69 k_639 v_X3_pipesOfSet ⟨(Nat.le_of_ble_eq_true rfl), (Nat.le_of_ble_eq_true rfl)⟩ rfl rfl (sem_X3_pipesOfSet h.nt h.nt6) (Nat.le_of_ble_eq_true rfl) ?_
        refine Bd_iconst (v := -1) (pc := 72) dX7_pipes_72 (by decide) ?_
        refine Bd_ixor (pc := 73) dX7_pipes_73 ?_
        refine Bd_iand (pc := 74) dX7_pipes_74 ?_
        refine Bd_callS1i (cd := mJ6_bitCount_0f7a4) (pc := 75) dX7_pipes_75 k_633 v_J6_bitCount_0f7a4 ⟨(Nat.le_of_ble_eq_true rfl), (Nat.le_of_ble_eq_true rfl)⟩ sem_J6_bitCount_0f7a4 (Nat.le_of_ble_eq_true rfl) ?_
        refine Bd_istore_7 (pc := 78) dX7_pipes_78 (Nat.le_of_ble_eq_true rfl) rfl ?_
        refine Bd_iload_7 (pc := 80) dX7_pipes_80 ?_
        refine Bd_iload_5 (pc := 82) dX7_pipes_82 ?_
        refine Bd_icmp_ge (t := 95) (pc := 84) dX7_pipes_84 (by decide) (fun b84 => ?_) (fun b84 => ?_)
        · refine Bd_iinc_6 (pc := 95) dX7_pipes_95 (show _ + Int32.ofInt 1 = _ + 1 from rfl) (Nat.le_of_ble_eq_true rfl) rfl ?_
          refine Bd_goto (t := 39) (pc := 98) dX7_pipes_98 (by decide) ?_
          exact Bd_nx (ihi trivial) (by simp only [wkP, ppF, if_pos b59, if_pos b84, nI_succ, and_self])
        · refine Bd_iload_7 (pc := 87) dX7_pipes_87 ?_
          refine Bd_istore_5 (pc := 89) dX7_pipes_89 (Nat.le_of_ble_eq_true rfl) rfl ?_
          refine Bd_iload_6 (pc := 91) dX7_pipes_91 ?_
          refine Bd_istore_4 (pc := 93) dX7_pipes_93 (Nat.le_of_ble_eq_true rfl) rfl ?_
          refine Bd_iinc_6 (pc := 95) dX7_pipes_95 (show _ + Int32.ofInt 1 = _ + 1 from rfl) (Nat.le_of_ble_eq_true rfl) rfl ?_
          refine Bd_goto (t := 39) (pc := 98) dX7_pipes_98 (by decide) ?_
          exact Bd_nx (ihi trivial) (by simp only [wkP, ppF, if_pos b59, if_neg b84, nI_succ, and_self])
  refine Bd_iload_1 (pc := 0) dX7_pipes_0 ?_
  refine Bd_iconst (v := 4) (pc := 1) dX7_pipes_1 (by decide) ?_
  refine Bd_callS2i (cd := mX7_isWithin) (pc := 2) dX7_pipes_2 k_448 v_X7_isWithin ⟨(Nat.le_of_ble_eq_true rfl), (Nat.le_of_ble_eq_true rfl)⟩ sem_X7_isWithin (Nat.le_of_ble_eq_true rfl) ?_
  refine Bd_if_ne (t := 10) (pc := 5) dX7_pipes_5 (by decide) (fun b5 => ?_) (fun b5 => ?_)
  · refine Bd_iload_1 (pc := 10) dX7_pipes_10 ?_
    refine Bd_iconst (v := 2) (pc := 11) dX7_pipes_11 (by decide) ?_
    refine Bd_icmp_ge (t := 19) (pc := 12) dX7_pipes_12 (by decide) (fun b12 => ?_) (fun b12 => ?_)
    · refine Bd_iconst (v := 2) (pc := 19) dX7_pipes_19 (by decide) ?_
      refine Bd_istore_2 (pc := 20) dX7_pipes_20 (Nat.le_of_ble_eq_true rfl) rfl ?_
      exact key b5 _ (if_neg (Int32.not_lt.mpr b12))
    · refine Bd_iconst (v := 1) (pc := 15) dX7_pipes_15 (by decide) ?_
      refine Bd_goto (t := 20) (pc := 16) dX7_pipes_16 (by decide) ?_
      refine Bd_istore_2 (pc := 20) dX7_pipes_20 (Nat.le_of_ble_eq_true rfl) rfl ?_
      exact key b5 _ (if_pos (Int32.not_le.mp b12))
  · refine Bd_iconst (v := -1) (pc := 8) dX7_pipes_8 (by decide) ?_
    refine Bd_iret (pc := 9) dX7_pipes_9 rfl ?_
    exact PD_i (by rw [pipesV, if_neg (b2_0.mp b5)]) rfl
/-- eight bytes behind the tape -/
def fdM (M : Mem) (v : Int64) : Nat → Mem
  | 0 => M
  | i + 1 => updM (updM (fdM M v i) 2 (cn (M 1 2) + i) (vp_nar .byte ((v >>> ((56 - 8 * nI i : Int32).toInt64 &&& 63)).toInt32.toInt8.toInt32))) 1 2 (nI (cn (M 1 2) + i + 1))
theorem fdM_l {M : Mem} {v : Int64} (h : M 1 2 = nI (cn (M 1 2))) : ∀ i, fdM M v i 1 2 = nI (cn (M 1 2) + i)
  | 0 => h
  | i + 1 => by unfold fdM; rw [updM_eq]; rfl
theorem fd8 : ∀ i, i < 8 → (56 - 8 * nI i : Int32) + -8 = 56 - 8 * nI (i + 1) ∧ ¬ (56 - 8 * nI i : Int32) < 0 := by decide +kernel
def feedV (M : Mem) : Int32 := if M 1 2 + 8 ≤ 320 then nI (cn (M 1 2) + 8) else -3
def feedU (M : Mem) (v : Int64) : Mem := if M 1 2 + 8 ≤ 320 then fdM M v 8 else M
theorem WF.tl {M : Mem} (h : WF M) : M 1 2 = nI (cn (M 1 2)) := (cn_of h.2.2.2.1.1).1
theorem WF.tl320 {M : Mem} (h : WF M) : cn (M 1 2) ≤ 320 := by have := (cn_of h.2.2.2.1.1).2.2; omega
set_option maxRecDepth 100000 in
set_option maxHeartbeats 4000000 in
theorem sem_X5_put {M : Mem} (h : WF M) {v : Int64} (hb : M 1 2 + 8 ≤ 320) : Sem mX5_put SH [.ref 1, .long v] M (PD SH (some (.int (1))) (feedU M v)) := by
  have q1 := h.nb24
  have q2 := h.nn12
  have q3 := h.nt6
  have q4 := h.nh3
  have q5 := h.nmb
  have q7 := h.tl320
  have q8 : cn (M 1 2) + 8 ≤ 320 := by { have h1 := h.tl; rw [h1, show (8 : Int32) = nI 8 from rfl, nI_add, show (320 : Int32) = nI 320 from rfl, nI_leI (by omega) (by omega)] at hb; exact hb }
  refine Sem_of rfl (fun G => (Nat.le_of_ble_eq_true rfl)) (fun G => ?_)
  refine Bd_aload_0 (pc := 0) dX5_put_0 ?_
  refine Bd_getI (j := 2) ck5 (pc := 1) dX5_put_1 k_33 rfl (Nat.le_of_ble_eq_true rfl) rfl ?_
  refine Bd_bipush (v := 8) (pc := 4) dX5_put_4 (by decide) ?_
  refine Bd_iadd (pc := 6) dX5_put_6 ?_
  refine Bd_sipush (v := 320) (pc := 7) dX5_put_7 (by decide) ?_
  refine Bd_icmp_le (t := 15) (pc := 10) dX5_put_10 (by decide) (fun b10 => ?_) (fun b10 => (show False from b10 hb).elim)
  refine Bd_bipush (v := 56) (pc := 15) dX5_put_15 (by decide) ?_
  refine Bd_istore_3 (pc := 17) dX5_put_17 (Nat.le_of_ble_eq_true rfl) rfl ?_
  refine Bd_for (pc := 18) (c := 8) (fun i => [some (.ref 1), some (.long v), none, some (.int (56 - 8 * nI i))]) (fun i => fdM M v i) (fun _ => True) (fun _ => ?_) (fun i hi _ ih => ?_) trivial
  · refine Bd_iload_3 (pc := 18) dX5_put_18 ?_
    refine Bd_if_lt (t := 52) (pc := 19) dX5_put_19 (by decide) (fun b19 => ?_) (fun b19 => (show False from b19 (by decide)).elim)
    refine Bd_iconst (v := 1) (pc := 52) dX5_put_52 (by decide) ?_
    refine Bd_zret (pc := 53) dX5_put_53 rfl rfl ?_
    exact PD_i rfl (by rw [feedU, if_pos hb])
  · have hL := fdM_l (v := v) h.tl i
    refine Bd_iload_3 (pc := 18) dX5_put_18 ?_
    refine Bd_if_lt (t := 52) (pc := 19) dX5_put_19 (by decide) (fun b19 => (show False from (fd8 i hi).2 b19).elim) (fun b19 => ?_)
    refine Bd_aload_0 (pc := 22) dX5_put_22 ?_
    refine Bd_getR (j := 0) ck5 (pc := 23) dX5_put_23 k_31 rfl (Nat.le_of_ble_eq_true rfl) rfl ?_
    refine Bd_aload_0 (pc := 26) dX5_put_26 ?_
    refine Bd_getI (j := 2) ck5 (pc := 27) dX5_put_27 k_33 rfl (Nat.le_of_ble_eq_true rfl) rfl ?_
    refine Bd_lload_1 (pc := 30) dX5_put_30 ?_
    refine Bd_iload_3 (pc := 31) dX5_put_31 ?_
    refine Bd_lshr (pc := 32) dX5_put_32 ?_
    refine Bd_l2i (pc := 33) dX5_put_33 ?_
    refine Bd_i2b (pc := 34) dX5_put_34 ?_
    refine Bd_bastc (j := cn (M 1 2) + i) (by rw [hL]; exact nI_clamp (by omega)) (pc := 35) dX5_put_35 rfl (by rw [hL]; exact vpi (by omega) (by omega)) ?_
    refine Bd_aload_0 (pc := 36) dX5_put_36 ?_
    refine Bd_dup (pc := 37) dX5_put_37 rfl ?_
    refine Bd_getI (j := 2) ck5 (pc := 38) dX5_put_38 k_33 rfl (Nat.le_of_ble_eq_true rfl) rfl ?_
    refine Bd_iconst (v := 1) (pc := 41) dX5_put_41 (by decide) ?_
    refine Bd_iadd (pc := 42) dX5_put_42 ?_
    refine Bd_putI (j := 2) (ty := .int) ck5 (pc := 43) dX5_put_43 k_33 rfl (Nat.le_of_ble_eq_true rfl) rfl rfl pfI rfl rfl ?_
    refine Bd_iinc_3 (pc := 46) dX5_put_46 (show _ + Int32.ofInt (-8) = _ + (-8) from rfl) (Nat.le_of_ble_eq_true rfl) rfl ?_
    refine Bd_goto (t := 18) (pc := 49) dX5_put_49 (by decide) ?_
    refine Bd_nx (Bd_cM (ih trivial) ?_) (by simp [wkP, (fd8 i hi).1])
    show fdM M v (i + 1) = updM _ 1 2 (fdM M v i 1 2 + 1)
    rw [hL, ← nI_succ]
    rfl
set_option maxRecDepth 100000 in
set_option maxHeartbeats 4000000 in
theorem sem_X5_putF {M : Mem} {v : Int64} (hb : ¬ M 1 2 + 8 ≤ 320) : Sem mX5_put SH [.ref 1, .long v] M (PD SH (some (.int (0))) (feedU M v)) := by
  refine Sem_of rfl (fun G => (Nat.le_of_ble_eq_true rfl)) (fun G => ?_)
  refine Bd_aload_0 (pc := 0) dX5_put_0 ?_
  refine Bd_getI (j := 2) ck5 (pc := 1) dX5_put_1 k_33 rfl (Nat.le_of_ble_eq_true rfl) rfl ?_
  refine Bd_bipush (v := 8) (pc := 4) dX5_put_4 (by decide) ?_
  refine Bd_iadd (pc := 6) dX5_put_6 ?_
  refine Bd_sipush (v := 320) (pc := 7) dX5_put_7 (by decide) ?_
  refine Bd_icmp_le (t := 15) (pc := 10) dX5_put_10 (by decide) (fun b10 => (show False from hb b10).elim) (fun b10 => ?_)
  refine Bd_iconst (v := 0) (pc := 13) dX5_put_13 (by decide) ?_
  refine Bd_zret (pc := 14) dX5_put_14 rfl rfl ?_
  exact PD_i rfl (by rw [feedU, if_neg hb])
set_option maxRecDepth 100000 in
set_option maxHeartbeats 4000000 in
theorem sem_X7_feed {M : Mem} (h : WF M) {v : Int64} : Sem mX7_feed SH [.ref 0, .long v] M (PD SH (some (.int (feedV M))) (feedU M v)) := by
  have q1 := h.nb24
  have q2 := h.nn12
  have q3 := h.nt6
  have q4 := h.nh3
  have q5 := h.nmb
  refine Sem_of rfl (fun G => (Nat.le_of_ble_eq_true rfl)) (fun G => ?_)
  by_cases hb : M 1 2 + 8 ≤ 320
  · refine Bd_aload_0 (pc := 0) dX7_feed_0 ?_
    refine Bd_getR (j := 0) ck7 (pc := 1) dX7_feed_1 k_235 rfl (Nat.le_of_ble_eq_true rfl) rfl ?_
    refine Bd_lload_1 (pc := 4) dX7_feed_4 ?_
    refine Bd_callV1i (cd := mX5_put) (pc := 5) dX7_feed_5 k_276 v_X5_put ⟨(Nat.le_of_ble_eq_true rfl), (Nat.le_of_ble_eq_true rfl)⟩ rfl rfl (sem_X5_put h hb) (Nat.le_of_ble_eq_true rfl) ?_
    refine Bd_if_eq (t := 21) (pc := 8) dX7_feed_8 (by decide) (fun b8 => (show False from absurd b8 (by decide)).elim) (fun b8 => ?_)
    refine Bd_aload_0 (pc := 11) dX7_feed_11 ?_
    refine Bd_getR (j := 0) ck7 (pc := 12) dX7_feed_12 k_235 rfl (Nat.le_of_ble_eq_true rfl) rfl ?_
    refine Bd_getI (j := 2) ck5 (pc := 15) dX7_feed_15 k_34 rfl (Nat.le_of_ble_eq_true rfl) rfl ?_
    refine Bd_goto (t := 23) (pc := 18) dX7_feed_18 (by decide) ?_
    refine Bd_iret (pc := 23) dX7_feed_23 rfl ?_
    exact PD_i (by rw [feedV, feedU, if_pos hb, if_pos hb]; exact fdM_l h.tl 8) rfl
  · refine Bd_aload_0 (pc := 0) dX7_feed_0 ?_
    refine Bd_getR (j := 0) ck7 (pc := 1) dX7_feed_1 k_235 rfl (Nat.le_of_ble_eq_true rfl) rfl ?_
    refine Bd_lload_1 (pc := 4) dX7_feed_4 ?_
    refine Bd_callV1i (cd := mX5_put) (pc := 5) dX7_feed_5 k_276 v_X5_put ⟨(Nat.le_of_ble_eq_true rfl), (Nat.le_of_ble_eq_true rfl)⟩ rfl rfl (sem_X5_putF hb) (Nat.le_of_ble_eq_true rfl) ?_
    refine Bd_if_eq (t := 21) (pc := 8) dX7_feed_8 (by decide) (fun b8 => ?_) (fun b8 => (show False from b8 rfl).elim)
    refine Bd_bipush (v := -3) (pc := 21) dX7_feed_21 (by decide) ?_
    refine Bd_iret (pc := 23) dX7_feed_23 rfl ?_
    exact PD_i (by rw [feedV, if_neg hb]) rfl
