/-! 33: the reference: bounds; heard, span, carry, runs -/
theorem abB {x : Int32} (h : bt x (-8) 8) : bt (abF x) 0 8 := by
  unfold abF
  split
  · rename_i q
    rw [Int32.le_iff_toInt_le, Int32.toInt_zero] at q
    exact ⟨q, h.2⟩
  · rename_i q
    rw [Int32.le_iff_toInt_le, Int32.toInt_zero] at q
    have := i32_sub (x := 0) (y := x) (by rw [Int32.toInt_zero]; have := h.1; omega) (by rw [Int32.toInt_zero]; have := h.1; have := h.2; omega)
    rw [Int32.toInt_zero] at this
    exact ⟨by omega, by have := h.1; omega⟩
theorem mxB {x y : Int32} {a b : Int} (hx : bt x a b) (hy : bt y a b) : bt (mxF x y) a b := by unfold mxF; split <;> assumption
theorem mnB {x y : Int32} {a b : Int} (hx : bt x a b) (hy : bt y a b) : bt (mnF x y) a b := by unfold mnF; split <;> assumption
theorem hfB {a b : Int32} (ha : c81 a) (hb : c81 b) : bt (hfF a b) 0 8 := mxB (abB (bt_sub8 (c81_b ha).1 (c81_b hb).1)) (abB (bt_sub8 (c81_b ha).2 (c81_b hb).2))
theorem agB {x wd : Int32} (hx : bt x (-8) 8) (hw : bt wd 0 2) : bt (agF x wd) 0 8 := by
  rw [← ra_ag hx hw]
  unfold raF
  split
  · exact abB hx
  · exact ⟨by decide, by decide⟩
theorem adB {x y : Int32} {a b c d : Int} (hx : bt x a b) (hy : bt y c d) (h1 : -2147483648 ≤ a + c) (h2 : b + d < 2147483648) : bt (x + y) (a + c) (b + d) := by
  obtain ⟨x1, x2⟩ := hx
  obtain ⟨y1, y2⟩ := hy
  have := i32_add (x := x) (y := y) (by omega) (by omega)
  exact ⟨by omega, by omega⟩
theorem sbB {x y : Int32} {a b c d : Int} (hx : bt x a b) (hy : bt y c d) (h1 : -2147483648 ≤ a - d) (h2 : b - c < 2147483648) : bt (x - y) (a - d) (b - c) := by
  obtain ⟨x1, x2⟩ := hx
  obtain ⟨y1, y2⟩ := hy
  have := i32_sub (x := x) (y := y) (by omega) (by omega)
  exact ⟨by omega, by omega⟩
theorem btW {x : Int32} {a b c d : Int} (h : bt x a b) (h1 : c ≤ a) (h2 : b ≤ d) : bt x c d := ⟨by have := h.1; omega, by have := h.2; omega⟩
theorem ml9 : ∀ p, p < 10 → ∀ q, q < 9 → 0 ≤ (nI p * nI q).toInt ∧ (nI p * nI q).toInt ≤ 72 := by decide +kernel
theorem mlB {x y : Int32} (hx : bt x 0 9) (hy : bt y 0 8) : bt (x * y) 0 72 := by
  have h1 := cn_of hx
  have h2 := cn_of hy
  have := ml9 (cn x) (by have := h1.2.2; omega) (cn y) (by have := h2.2.2; omega)
  rw [← h1.1, ← h2.1] at this
  exact this
theorem sdB {C : Mem} (h : WF C) {a b : Int32} (ha : c81 a) (hb : c81 b) : bt (sdF C a b) 0 88 := by
  have h1 := mlB (btW h.1.1.2.2.1 (by decide) (by decide)) (hfB ha hb)
  have h2 := agB (bt_sub8 (c81_b hb).1 (c81_b ha).1) h.wd.1
  have h3 := agB (bt_sub8 (c81_b hb).2 (c81_b ha).2) h.wd.2
  exact adB (c := 0) (d := 16) h1 (adB h2 h3 (by decide) (by decide)) (by decide) (by decide)
theorem cmB {C : Mem} (h : WF C) {i : Nat} (hi : i < cn (C 5 4)) {c : Int32} (hc : c81 c) : bt (cmF C i c) 0 388 :=
  adB (h.2.1.2.2.1 i hi).2.1 (sdB h (h.tc (h.bt' hi).2) hc) (by decide) (by decide)
theorem cbB {C : Mem} (h : WF C) {i k : Nat} (hi : i < cn (C 5 4)) (hk : k ≤ cn (C 44 7)) {c : Int32} (hc : c81 c) : bt (cbF C k i c) 0 476 := by
  cases k with
  | zero => exact btW (cmB h hi hc) (by decide) (by decide)
  | succ k => exact adB (cmB h hi (h.hl (by omega))) (sdB h (h.hl (by omega)) hc) (by decide) (by decide)
theorem bt_n4 {x : Int32} {b : Int} (h : bt x 0 b) : ¬ x = -4 := fun q => by rw [q] at h; exact absurd h.1 (by decide)
theorem hm (j : Nat) : nI j - 1 + 1 = nI (j + 1) - 1 := by rw [nI_pred, Int32.sub_add_cancel]
theorem lm_x {X : Int32} {c : Nat} (h : X = nI c) (hc : c + 1 < 2 ^ 31) (b : ¬ X ≤ nI (c + 1) - 1) : False := b (by rw [h, nI_pred]; exact Int32.le_refl _)
theorem lm_s {X : Int32} {c i : Nat} (h : X = nI c) (hc : c + 1 < 2 ^ 31) (hi : i < c + 1) (b : X ≤ nI i - 1) : False := by
  rw [h] at b
  cases i with
  | zero =>
    rw [Int32.le_iff_toInt_le, nI_toInt (by omega), show (nI 0 - 1 : Int32).toInt = -1 by decide] at b
    omega
  | succ i => rw [nI_pred] at b; exact nI_ge (show i < c by omega) (by omega) b
set_option maxRecDepth 100000 in
set_option maxHeartbeats 4000000 in
theorem sem_X8_comesBy {C M : Mem} (h : RK C M) {i k : Nat} (hi : i < cn (C 5 4)) (hk : k ≤ cn (C 44 7)) {c : Int32} (hc : c81 c) : Sem mX8_comesBy SH [.ref 58, .int (nI i), .int c, .int (nI k - 1)] M (PD SH (some (.int (cbF C k i c))) (M)) := by
  refine Sem_of rfl (fun G => (Nat.le_of_ble_eq_true rfl)) (fun G => ?_)
  have q4 := h.1.nh3
  rcases k with _ | k
  · refine Bd_iload_3 (pc := 0) dX8_comesBy_0 ?_
    refine Bd_if_ge (t := 11) (pc := 1) dX8_comesBy_1 (by decide) (fun b1 => (show False from absurd b1 (by decide)).elim) (fun b1 => ?_)
    refine Bd_aload_0 (pc := 4) dX8_comesBy_4 ?_
    refine Bd_iload_1 (pc := 5) dX8_comesBy_5 ?_
    refine Bd_iload_2 (pc := 6) dX8_comesBy_6 ?_
    refine Bd_callV2i (cd := mX8_comes) (pc := 7) dX8_comesBy_7 k_1055 v_X8_comes ⟨(Nat.le_of_ble_eq_true rfl), (Nat.le_of_ble_eq_true rfl)⟩ rfl rfl (sem_X8_comes h hi hc) (Nat.le_of_ble_eq_true rfl) ?_
    refine Bd_iret (pc := 10) dX8_comesBy_10 rfl ?_
    exact PD_i rfl rfl
  · have hv : M 61 k = C 48 k := h.2.1.1.2.2.2.2.2.1 k (by omega)
    have hh := h.1.hl (k := k) (by omega)
    rw [nI_pred]
    refine Bd_iload_3 (pc := 0) dX8_comesBy_0 ?_
    refine Bd_if_ge (t := 11) (pc := 1) dX8_comesBy_1 (by decide) (fun b1 => ?_) (fun b1 => (show False from b1 (nI_pos' (by omega))).elim)
    refine Bd_aload_0 (pc := 11) dX8_comesBy_11 ?_
    refine Bd_iload_1 (pc := 12) dX8_comesBy_12 ?_
    refine Bd_aload_0 (pc := 13) dX8_comesBy_13 ?_
    refine Bd_getR (j := 2) ck8 (pc := 14) dX8_comesBy_14 k_788 rfl (Nat.le_of_ble_eq_true rfl) rfl ?_
    refine Bd_iload_3 (pc := 17) dX8_comesBy_17 ?_
    refine Bd_ialdc (j := k) (nI_clamp (by omega)) (pc := 18) dX8_comesBy_18 rfl (vpi (by omega) (by omega)) ?_
    rw [hv]
    refine Bd_callV2i (cd := mX8_comes) (pc := 19) dX8_comesBy_19 k_1055 v_X8_comes ⟨(Nat.le_of_ble_eq_true rfl), (Nat.le_of_ble_eq_true rfl)⟩ rfl rfl (sem_X8_comes h hi hh) (Nat.le_of_ble_eq_true rfl) ?_
    refine Bd_aload_0 (pc := 22) dX8_comesBy_22 ?_
    refine Bd_aload_0 (pc := 23) dX8_comesBy_23 ?_
    refine Bd_getR (j := 2) ck8 (pc := 24) dX8_comesBy_24 k_788 rfl (Nat.le_of_ble_eq_true rfl) rfl ?_
    refine Bd_iload_3 (pc := 27) dX8_comesBy_27 ?_
    refine Bd_ialdc (j := k) (nI_clamp (by omega)) (pc := 28) dX8_comesBy_28 rfl (vpi (by omega) (by omega)) ?_
    refine Bd_iload_2 (pc := 29) dX8_comesBy_29 ?_
    rw [hv]
    refine Bd_callV2i (cd := mX8_takesOf) (pc := 30) dX8_comesBy_30 k_1020 v_X8_takesOf ⟨(Nat.le_of_ble_eq_true rfl), (Nat.le_of_ble_eq_true rfl)⟩ rfl rfl (sem_X8_takesOf h hh hc) (Nat.le_of_ble_eq_true rfl) ?_
    refine Bd_iadd (pc := 33) dX8_comesBy_33 ?_
    refine Bd_iret (pc := 34) dX8_comesBy_34 rfl ?_
    exact PD_i rfl rfl
set_option maxRecDepth 100000 in
set_option maxHeartbeats 4000000 in
theorem sem_X8_heard {C M : Mem} (h : RF C M) {c b e : Int32} : Sem mX8_heard SH [.ref 58, .int c, .int b, .int e] M (RI SH (fun r N => r = heardV C c b e ∧ RP (C) M N)) := by
  refine Sem_of rfl (fun G => (Nat.le_of_ble_eq_true rfl)) (fun G => ?_)
  have q1 := h.1.nb24
  have q4 := h.1.nh3
  by_cases he : e = 0
  · refine Bd_aload_0 (pc := 0) dX8_heard_0 ?_
    refine Bd_iload_1 (pc := 1) dX8_heard_1 ?_
    refine Bd_callV1i (cd := mX8_isCell) (pc := 2) dX8_heard_2 k_1012 v_X8_isCell ⟨(Nat.le_of_ble_eq_true rfl), (Nat.le_of_ble_eq_true rfl)⟩ rfl rfl (sem_X8_isCell h) (Nat.le_of_ble_eq_true rfl) ?_
    refine Bd_if_eq (t := 20) (pc := 5) dX8_heard_5 (by decide) (fun b5 => ?_) (fun b5 => ?_)
    · refine Bd_iconst (v := -1) (pc := 20) dX8_heard_20 (by decide) ?_
      refine Bd_iret (pc := 21) dX8_heard_21 rfl ?_
      exact ⟨_, rfl, rfl, by rw [heardV, if_neg (b2_0.mp b5)], RP_aw h⟩
    · refine Bd_iload_2 (pc := 8) dX8_heard_8 ?_
      refine Bd_i2l (pc := 9) dX8_heard_9 ?_
      refine Bd_lconst (v := 0) (pc := 10) dX8_heard_10 (by decide) ?_
      refine Bd_ldc2 k_1067 (pc := 11) dX8_heard_11 ?_
      refine Bd_callS3i (cd := mX8_in) (pc := 14) dX8_heard_14 k_910 v_X8_in ⟨(Nat.le_of_ble_eq_true rfl), (Nat.le_of_ble_eq_true rfl)⟩ (sem_in (a := 0) (b := 999) (by decide) (by decide)) (Nat.le_of_ble_eq_true rfl) ?_
      refine Bd_if_ne (t := 22) (pc := 17) dX8_heard_17 (by decide) (fun b17 => ?_) (fun b17 => ?_)
      · refine Bd_iconst (v := 0) (pc := 22) dX8_heard_22 (by decide) ?_
        refine Bd_istore_4 (pc := 23) dX8_heard_23 (Nat.le_of_ble_eq_true rfl) rfl ?_
        refine Bd_iconst (v := 0) (pc := 25) dX8_heard_25 (by decide) ?_
        refine Bd_istore_5 (pc := 26) dX8_heard_26 (Nat.le_of_ble_eq_true rfl) rfl ?_
        refine Bd_nx (L' := (fun i => [some (.ref 58), some (.int c), some (.int b), some (.int e), some (.int (hdF C c b 0 i)), some (.int (nI i)), none]) 0) ?_ (by repeat (first | exact True.intro | refine And.intro rfl ?_))
        refine Bd_for (pc := 28) (c := (cn (C 5 4))) (fun i => [some (.ref 58), some (.int c), some (.int b), some (.int e), some (.int (hdF C c b 0 i)), some (.int (nI i)), none]) (fun _ => awM M) (fun _ => True) (fun ivi => ?_) (fun i hi ivi ihi => ?_) trivial
        · refine Bd_iload_5 (pc := 28) dX8_heard_28 ?_
          refine Bd_aload_0 (pc := 30) dX8_heard_30 ?_
          refine Bd_callV0i (cd := mX8_blows) (pc := 31) dX8_heard_31 k_996 v_X8_blows ⟨(Nat.le_of_ble_eq_true rfl), (Nat.le_of_ble_eq_true rfl)⟩ rfl rfl (sem_X8_blows h.aw.rf) (Nat.le_of_ble_eq_true rfl) ?_
          refine Bd_icmp_ge (t := 99) (pc := 34) dX8_heard_34 (by decide) (fun b34 => ?_) (fun b34 => (show False from lf_x h.1.nb b34).elim)
          refine Bd_iload_4 (pc := 99) dX8_heard_99 ?_
          refine Bd_iret (pc := 101) dX8_heard_101 rfl ?_
          exact ⟨_, rfl, rfl, by rw [heardV, if_pos (b2_n.mp b5), if_neg (Int32.not_lt.mpr (b2_n.mp b17).1), if_pos (b2_n.mp b17).2, if_pos he], RP_aw h⟩
        · refine Bd_iload_5 (pc := 28) dX8_heard_28 ?_
          refine Bd_aload_0 (pc := 30) dX8_heard_30 ?_
          refine Bd_callV0i (cd := mX8_blows) (pc := 31) dX8_heard_31 k_996 v_X8_blows ⟨(Nat.le_of_ble_eq_true rfl), (Nat.le_of_ble_eq_true rfl)⟩ rfl rfl (sem_X8_blows h.aw.rf) (Nat.le_of_ble_eq_true rfl) ?_
          refine Bd_icmp_ge (t := 99) (pc := 34) dX8_heard_34 (by decide) (fun b34 => (show False from lf_s h.1.nb (by omega) hi b34).elim) (fun b34 => ?_)
          refine Bd_iconst (v := -1) (pc := 37) dX8_heard_37 (by decide) ?_
          refine Bd_istore_6 (pc := 38) dX8_heard_38 (Nat.le_of_ble_eq_true rfl) rfl ?_
          refine Bd_nx (L' := (fun j => [some (.ref 58), some (.int c), some (.int b), some (.int e), some (.int (hwF C c b i (hdF C c b 0 i) j)), some (.int (nI i)), some (.int (nI j - 1))]) 0) ?_ (by repeat (first | exact True.intro | refine And.intro rfl ?_))
          refine Bd_for (pc := 40) (c := 0 + 1) (fun j => [some (.ref 58), some (.int c), some (.int b), some (.int e), some (.int (hwF C c b i (hdF C c b 0 i) j)), some (.int (nI i)), some (.int (nI j - 1))]) (fun _ => awM M) (fun _ => True) (fun ivj => ?_) (fun j hj ivj ihj => ?_) trivial
          · refine Bd_iload_6 (pc := 40) dX8_heard_40 ?_
            refine Bd_iload_3 (pc := 42) dX8_heard_42 ?_
            refine Bd_if_eq (t := 53) (pc := 43) dX8_heard_43 (by decide) (fun b43 => ?_) (fun b43 => (show False from b43 he).elim)
            refine Bd_iconst (v := 0) (pc := 53) dX8_heard_53 (by decide) ?_
            refine Bd_icmp_ge (t := 93) (pc := 54) dX8_heard_54 (by decide) (fun b54 => ?_) (fun b54 => (show False from lm_x (rfl : (0 : Int32) = nI 0) (by decide) b54).elim)
            refine Bd_iinc_5 (pc := 93) dX8_heard_93 (show _ + Int32.ofInt 1 = _ + 1 from rfl) (Nat.le_of_ble_eq_true rfl) rfl ?_
            refine Bd_goto (t := 28) (pc := 96) dX8_heard_96 (by decide) ?_
            exact Bd_nx (ihi trivial) (by simp [wkP, hdF, nI_succ])
          · refine Bd_iload_6 (pc := 40) dX8_heard_40 ?_
            refine Bd_iload_3 (pc := 42) dX8_heard_42 ?_
            refine Bd_if_eq (t := 53) (pc := 43) dX8_heard_43 (by decide) (fun b43 => ?_) (fun b43 => (show False from b43 he).elim)
            refine Bd_iconst (v := 0) (pc := 53) dX8_heard_53 (by decide) ?_
            refine Bd_icmp_ge (t := 93) (pc := 54) dX8_heard_54 (by decide) (fun b54 => (show False from lm_s (rfl : (0 : Int32) = nI 0) (by decide) hj b54).elim) (fun b54 => ?_)
            refine Bd_iload_4 (pc := 57) dX8_heard_57 ?_
            refine Bd_aload_0 (pc := 59) dX8_heard_59 ?_
            refine Bd_iload_5 (pc := 60) dX8_heard_60 ?_
            refine Bd_iload_1 (pc := 62) dX8_heard_62 ?_
            refine Bd_iload_6 (pc := 63) dX8_heard_63 ?_
            refine Bd_callV3i (cd := mX8_comesBy) (pc := 65) dX8_heard_65 k_1068 v_X8_comesBy ⟨(Nat.le_of_ble_eq_true rfl), (Nat.le_of_ble_eq_true rfl)⟩ rfl rfl (sem_X8_comesBy h.aw hi (by omega) (b2_n.mp b5).1) (Nat.le_of_ble_eq_true rfl) ?_
            refine Bd_iload_2 (pc := 68) dX8_heard_68 ?_
            refine Bd_icmp_ne (t := 83) (pc := 69) dX8_heard_69 (by decide) (fun b69 => ?_) (fun b69 => ?_)
            · refine Bd_iconst (v := 0) (pc := 83) dX8_heard_83 (by decide) ?_
              refine Bd_ior (pc := 84) dX8_heard_84 ?_
              refine Bd_istore_4 (pc := 85) dX8_heard_85 (Nat.le_of_ble_eq_true rfl) rfl ?_
              refine Bd_iinc_6 (pc := 87) dX8_heard_87 (show _ + Int32.ofInt 1 = _ + 1 from rfl) (Nat.le_of_ble_eq_true rfl) rfl ?_
              refine Bd_goto (t := 40) (pc := 90) dX8_heard_90 (by decide) ?_
              exact Bd_nx (ihj trivial) (by simp [wkP, hwF, nI_pred, b69])
            · refine Bd_iconst (v := 1) (pc := 72) dX8_heard_72 (by decide) ?_
              refine Bd_aload_0 (pc := 73) dX8_heard_73 ?_
              refine Bd_iload_5 (pc := 74) dX8_heard_74 ?_
              refine Bd_callV1i (cd := mX8_toneOf) (pc := 76) dX8_heard_76 k_1004 v_X8_toneOf ⟨(Nat.le_of_ble_eq_true rfl), (Nat.le_of_ble_eq_true rfl)⟩ rfl rfl (sem_X8_toneOf h.aw.rf hi) (Nat.le_of_ble_eq_true rfl) ?_
              refine Bd_ishl (pc := 79) dX8_heard_79 ?_
              refine Bd_goto (t := 84) (pc := 80) dX8_heard_80 (by decide) ?_
              refine Bd_ior (pc := 84) dX8_heard_84 ?_
              refine Bd_istore_4 (pc := 85) dX8_heard_85 (Nat.le_of_ble_eq_true rfl) rfl ?_
              refine Bd_iinc_6 (pc := 87) dX8_heard_87 (show _ + Int32.ofInt 1 = _ + 1 from rfl) (Nat.le_of_ble_eq_true rfl) rfl ?_
              refine Bd_goto (t := 40) (pc := 90) dX8_heard_90 (by decide) ?_
              exact Bd_nx (ihj trivial) (by simp [wkP, hwF, nI_pred, b69])
      · refine Bd_iconst (v := -1) (pc := 20) dX8_heard_20 (by decide) ?_
        refine Bd_iret (pc := 21) dX8_heard_21 rfl ?_
        have q := b2_0.mp b17
        refine ⟨_, rfl, rfl, ?_, RP_aw h⟩
        rw [heardV, if_pos (b2_n.mp b5)]
        by_cases q1 : b < 0
        · rw [if_pos q1]
        · rw [if_neg q1, if_neg (fun z => q ⟨Int32.not_lt.mp q1, z⟩)]
  · refine Bd_aload_0 (pc := 0) dX8_heard_0 ?_
    refine Bd_iload_1 (pc := 1) dX8_heard_1 ?_
    refine Bd_callV1i (cd := mX8_isCell) (pc := 2) dX8_heard_2 k_1012 v_X8_isCell ⟨(Nat.le_of_ble_eq_true rfl), (Nat.le_of_ble_eq_true rfl)⟩ rfl rfl (sem_X8_isCell h) (Nat.le_of_ble_eq_true rfl) ?_
    refine Bd_if_eq (t := 20) (pc := 5) dX8_heard_5 (by decide) (fun b5 => ?_) (fun b5 => ?_)
    · refine Bd_iconst (v := -1) (pc := 20) dX8_heard_20 (by decide) ?_
      refine Bd_iret (pc := 21) dX8_heard_21 rfl ?_
      exact ⟨_, rfl, rfl, by rw [heardV, if_neg (b2_0.mp b5)], RP_aw h⟩
    · refine Bd_iload_2 (pc := 8) dX8_heard_8 ?_
      refine Bd_i2l (pc := 9) dX8_heard_9 ?_
      refine Bd_lconst (v := 0) (pc := 10) dX8_heard_10 (by decide) ?_
      refine Bd_ldc2 k_1067 (pc := 11) dX8_heard_11 ?_
      refine Bd_callS3i (cd := mX8_in) (pc := 14) dX8_heard_14 k_910 v_X8_in ⟨(Nat.le_of_ble_eq_true rfl), (Nat.le_of_ble_eq_true rfl)⟩ (sem_in (a := 0) (b := 999) (by decide) (by decide)) (Nat.le_of_ble_eq_true rfl) ?_
      refine Bd_if_ne (t := 22) (pc := 17) dX8_heard_17 (by decide) (fun b17 => ?_) (fun b17 => ?_)
      · refine Bd_iconst (v := 0) (pc := 22) dX8_heard_22 (by decide) ?_
        refine Bd_istore_4 (pc := 23) dX8_heard_23 (Nat.le_of_ble_eq_true rfl) rfl ?_
        refine Bd_iconst (v := 0) (pc := 25) dX8_heard_25 (by decide) ?_
        refine Bd_istore_5 (pc := 26) dX8_heard_26 (Nat.le_of_ble_eq_true rfl) rfl ?_
        refine Bd_nx (L' := (fun i => [some (.ref 58), some (.int c), some (.int b), some (.int e), some (.int (hdF C c b (cn (C 44 7)) i)), some (.int (nI i)), none]) 0) ?_ (by repeat (first | exact True.intro | refine And.intro rfl ?_))
        refine Bd_for (pc := 28) (c := (cn (C 5 4))) (fun i => [some (.ref 58), some (.int c), some (.int b), some (.int e), some (.int (hdF C c b (cn (C 44 7)) i)), some (.int (nI i)), none]) (fun _ => awM M) (fun _ => True) (fun ivi => ?_) (fun i hi ivi ihi => ?_) trivial
        · refine Bd_iload_5 (pc := 28) dX8_heard_28 ?_
          refine Bd_aload_0 (pc := 30) dX8_heard_30 ?_
          refine Bd_callV0i (cd := mX8_blows) (pc := 31) dX8_heard_31 k_996 v_X8_blows ⟨(Nat.le_of_ble_eq_true rfl), (Nat.le_of_ble_eq_true rfl)⟩ rfl rfl (sem_X8_blows h.aw.rf) (Nat.le_of_ble_eq_true rfl) ?_
          refine Bd_icmp_ge (t := 99) (pc := 34) dX8_heard_34 (by decide) (fun b34 => ?_) (fun b34 => (show False from lf_x h.1.nb b34).elim)
          refine Bd_iload_4 (pc := 99) dX8_heard_99 ?_
          refine Bd_iret (pc := 101) dX8_heard_101 rfl ?_
          exact ⟨_, rfl, rfl, by rw [heardV, if_pos (b2_n.mp b5), if_neg (Int32.not_lt.mpr (b2_n.mp b17).1), if_pos (b2_n.mp b17).2, if_neg he], RP_aw h⟩
        · refine Bd_iload_5 (pc := 28) dX8_heard_28 ?_
          refine Bd_aload_0 (pc := 30) dX8_heard_30 ?_
          refine Bd_callV0i (cd := mX8_blows) (pc := 31) dX8_heard_31 k_996 v_X8_blows ⟨(Nat.le_of_ble_eq_true rfl), (Nat.le_of_ble_eq_true rfl)⟩ rfl rfl (sem_X8_blows h.aw.rf) (Nat.le_of_ble_eq_true rfl) ?_
          refine Bd_icmp_ge (t := 99) (pc := 34) dX8_heard_34 (by decide) (fun b34 => (show False from lf_s h.1.nb (by omega) hi b34).elim) (fun b34 => ?_)
          refine Bd_iconst (v := -1) (pc := 37) dX8_heard_37 (by decide) ?_
          refine Bd_istore_6 (pc := 38) dX8_heard_38 (Nat.le_of_ble_eq_true rfl) rfl ?_
          refine Bd_nx (L' := (fun j => [some (.ref 58), some (.int c), some (.int b), some (.int e), some (.int (hwF C c b i (hdF C c b (cn (C 44 7)) i) j)), some (.int (nI i)), some (.int (nI j - 1))]) 0) ?_ (by repeat (first | exact True.intro | refine And.intro rfl ?_))
          refine Bd_for (pc := 40) (c := (cn (C 44 7)) + 1) (fun j => [some (.ref 58), some (.int c), some (.int b), some (.int e), some (.int (hwF C c b i (hdF C c b (cn (C 44 7)) i) j)), some (.int (nI i)), some (.int (nI j - 1))]) (fun _ => awM M) (fun _ => True) (fun ivj => ?_) (fun j hj ivj ihj => ?_) trivial
          · refine Bd_iload_6 (pc := 40) dX8_heard_40 ?_
            refine Bd_iload_3 (pc := 42) dX8_heard_42 ?_
            refine Bd_if_eq (t := 53) (pc := 43) dX8_heard_43 (by decide) (fun b43 => (show False from he b43).elim) (fun b43 => ?_)
            refine Bd_aload_0 (pc := 46) dX8_heard_46 ?_
            refine Bd_getI (j := 3) ck8 (pc := 47) dX8_heard_47 k_789 rfl (Nat.le_of_ble_eq_true rfl) rfl ?_
            refine Bd_goto (t := 54) (pc := 50) dX8_heard_50 (by decide) ?_
            refine Bd_icmp_ge (t := 93) (pc := 54) dX8_heard_54 (by decide) (fun b54 => ?_) (fun b54 => (show False from lm_x (show (awM M) 58 3 = nI (cn (C 44 7)) from by rw [show (awM M) 58 3 = C 44 7 from h.aw.2.1.1.2.2.2.2.1]; exact h.1.nh) (by omega) b54).elim)
            refine Bd_iinc_5 (pc := 93) dX8_heard_93 (show _ + Int32.ofInt 1 = _ + 1 from rfl) (Nat.le_of_ble_eq_true rfl) rfl ?_
            refine Bd_goto (t := 28) (pc := 96) dX8_heard_96 (by decide) ?_
            exact Bd_nx (ihi trivial) (by simp [wkP, hdF, nI_succ])
          · refine Bd_iload_6 (pc := 40) dX8_heard_40 ?_
            refine Bd_iload_3 (pc := 42) dX8_heard_42 ?_
            refine Bd_if_eq (t := 53) (pc := 43) dX8_heard_43 (by decide) (fun b43 => (show False from he b43).elim) (fun b43 => ?_)
            refine Bd_aload_0 (pc := 46) dX8_heard_46 ?_
            refine Bd_getI (j := 3) ck8 (pc := 47) dX8_heard_47 k_789 rfl (Nat.le_of_ble_eq_true rfl) rfl ?_
            refine Bd_goto (t := 54) (pc := 50) dX8_heard_50 (by decide) ?_
            refine Bd_icmp_ge (t := 93) (pc := 54) dX8_heard_54 (by decide) (fun b54 => (show False from lm_s (show (awM M) 58 3 = nI (cn (C 44 7)) from by rw [show (awM M) 58 3 = C 44 7 from h.aw.2.1.1.2.2.2.2.1]; exact h.1.nh) (by omega) hj b54).elim) (fun b54 => ?_)
            refine Bd_iload_4 (pc := 57) dX8_heard_57 ?_
            refine Bd_aload_0 (pc := 59) dX8_heard_59 ?_
            refine Bd_iload_5 (pc := 60) dX8_heard_60 ?_
            refine Bd_iload_1 (pc := 62) dX8_heard_62 ?_
            refine Bd_iload_6 (pc := 63) dX8_heard_63 ?_
            refine Bd_callV3i (cd := mX8_comesBy) (pc := 65) dX8_heard_65 k_1068 v_X8_comesBy ⟨(Nat.le_of_ble_eq_true rfl), (Nat.le_of_ble_eq_true rfl)⟩ rfl rfl (sem_X8_comesBy h.aw hi (by omega) (b2_n.mp b5).1) (Nat.le_of_ble_eq_true rfl) ?_
            refine Bd_iload_2 (pc := 68) dX8_heard_68 ?_
            refine Bd_icmp_ne (t := 83) (pc := 69) dX8_heard_69 (by decide) (fun b69 => ?_) (fun b69 => ?_)
            · refine Bd_iconst (v := 0) (pc := 83) dX8_heard_83 (by decide) ?_
              refine Bd_ior (pc := 84) dX8_heard_84 ?_
              refine Bd_istore_4 (pc := 85) dX8_heard_85 (Nat.le_of_ble_eq_true rfl) rfl ?_
              refine Bd_iinc_6 (pc := 87) dX8_heard_87 (show _ + Int32.ofInt 1 = _ + 1 from rfl) (Nat.le_of_ble_eq_true rfl) rfl ?_
              refine Bd_goto (t := 40) (pc := 90) dX8_heard_90 (by decide) ?_
              exact Bd_nx (ihj trivial) (by simp [wkP, hwF, nI_pred, b69])
            · refine Bd_iconst (v := 1) (pc := 72) dX8_heard_72 (by decide) ?_
              refine Bd_aload_0 (pc := 73) dX8_heard_73 ?_
              refine Bd_iload_5 (pc := 74) dX8_heard_74 ?_
              refine Bd_callV1i (cd := mX8_toneOf) (pc := 76) dX8_heard_76 k_1004 v_X8_toneOf ⟨(Nat.le_of_ble_eq_true rfl), (Nat.le_of_ble_eq_true rfl)⟩ rfl rfl (sem_X8_toneOf h.aw.rf hi) (Nat.le_of_ble_eq_true rfl) ?_
              refine Bd_ishl (pc := 79) dX8_heard_79 ?_
              refine Bd_goto (t := 84) (pc := 80) dX8_heard_80 (by decide) ?_
              refine Bd_ior (pc := 84) dX8_heard_84 ?_
              refine Bd_istore_4 (pc := 85) dX8_heard_85 (Nat.le_of_ble_eq_true rfl) rfl ?_
              refine Bd_iinc_6 (pc := 87) dX8_heard_87 (show _ + Int32.ofInt 1 = _ + 1 from rfl) (Nat.le_of_ble_eq_true rfl) rfl ?_
              refine Bd_goto (t := 40) (pc := 90) dX8_heard_90 (by decide) ?_
              exact Bd_nx (ihj trivial) (by simp [wkP, hwF, nI_pred, b69])
      · refine Bd_iconst (v := -1) (pc := 20) dX8_heard_20 (by decide) ?_
        refine Bd_iret (pc := 21) dX8_heard_21 rfl ?_
        have q := b2_0.mp b17
        refine ⟨_, rfl, rfl, ?_, RP_aw h⟩
        rw [heardV, if_pos (b2_n.mp b5)]
        by_cases q1 : b < 0
        · rw [if_pos q1]
        · rw [if_neg q1, if_neg (fun z => q ⟨Int32.not_lt.mp q1, z⟩)]
theorem egWB {C : Mem} (h : WF C) {c l a : Int32} {i : Nat} (hi : i < cn (C 5 4)) (hc : c81 c) (ha : bt a 0 476) : ∀ k, k ≤ cn (C 44 7) + 1 → bt (egW C c l i a k) 0 476
  | 0, _ => ha
  | k + 1, hk => by
    unfold egW
    have h1 := egWB (l := l) h hi hc ha k (by omega)
    have h2 := cbB h hi (k := k) (by omega) hc
    split
    · exact mnB h1 h2
    · exact mxB h1 h2
theorem egFB {C : Mem} (h : WF C) {c l : Int32} (h0 : 0 < cn (C 5 4)) (hc : c81 c) : ∀ i, i ≤ cn (C 5 4) → bt (egF C c l (cn (C 44 7)) i) 0 476
  | 0, _ => btW (cmB h h0 hc) (by decide) (by decide)
  | i + 1, hi => egWB h (by omega) hc (egFB h h0 hc i (by omega)) _ (Nat.le_refl _)
abbrev sq (C : Mem) (c l : Int32) (i j : Nat) : Int32 := if i = 0 ∧ j = 0 then -4 else egW C c l i (egF C c l (cn (C 44 7)) i) j
theorem sq_s0 {C : Mem} (h : WF C) {c : Int32} (hc : c81 c) {i j : Nat} (hi : i < cn (C 5 4)) (hj : j < cn (C 44 7) + 1) : (if sq C c 0 i j = -4 then cbF C j i c else if sq C c 0 i j ≤ cbF C j i c then sq C c 0 i j else cbF C j i c) = sq C c 0 i (j + 1) := by
  have e : sq C c 0 i (j + 1) = mnF (egW C c 0 i (egF C c 0 (cn (C 44 7)) i) j) (cbF C j i c) := by
    unfold sq
    rw [if_neg (by omega)]
    show (if (0 : Int32) = 0 then _ else _) = _
    rw [if_pos rfl]
  rw [e]
  by_cases z : i = 0 ∧ j = 0
  · obtain ⟨rfl, rfl⟩ := z
    rw [show sq C c 0 0 0 = -4 from if_pos ⟨rfl, rfl⟩, if_pos rfl]
    show cmF C 0 c = mnF (cmF C 0 c) (cmF C 0 c)
    unfold mnF; split <;> rfl
  · have ez : sq C c 0 i j = egW C c 0 i (egF C c 0 (cn (C 44 7)) i) j := if_neg z
    rw [ez, if_neg (bt_n4 (egWB h hi hc (egFB h (by omega) hc i (by omega)) j (by omega)))]
    unfold mnF
    by_cases y : cbF C j i c < egW C c 0 i (egF C c 0 (cn (C 44 7)) i) j
    · rw [if_pos y, if_neg (Int32.not_le.mpr y)]
    · rw [if_neg y, if_pos (Int32.not_lt.mp y)]
theorem sq_s1 {C : Mem} (h : WF C) {c : Int32} (hc : c81 c) {i j : Nat} (hi : i < cn (C 5 4)) (hj : j < cn (C 44 7) + 1) : (if cbF C j i c ≤ sq C c 1 i j then sq C c 1 i j else cbF C j i c) = sq C c 1 i (j + 1) := by
  have e : sq C c 1 i (j + 1) = mxF (egW C c 1 i (egF C c 1 (cn (C 44 7)) i) j) (cbF C j i c) := by
    unfold sq
    rw [if_neg (by omega)]
    show (if (1 : Int32) = 0 then _ else _) = _
    rw [if_neg (by decide)]
  rw [e]
  have hb := cbB h hi (k := j) (by omega) hc
  by_cases z : i = 0 ∧ j = 0
  · obtain ⟨rfl, rfl⟩ := z
    rw [show sq C c 1 0 0 = -4 from if_pos ⟨rfl, rfl⟩, if_neg (by rw [Int32.le_iff_toInt_le, show (-4 : Int32).toInt = -4 by decide]; have := hb.1; omega)]
    show cmF C 0 c = mxF (cmF C 0 c) (cmF C 0 c)
    unfold mxF; split <;> rfl
  · have ez : sq C c 1 i j = egW C c 1 i (egF C c 1 (cn (C 44 7)) i) j := if_neg z
    rw [ez]
    unfold mxF
    by_cases y : egW C c 1 i (egF C c 1 (cn (C 44 7)) i) j < cbF C j i c
    · rw [if_pos y, if_neg (Int32.not_le.mpr y)]
    · rw [if_neg y, if_pos (Int32.not_lt.mp y)]
theorem sq_n {C : Mem} {c l : Int32} {i : Nat} : sq C c l i (cn (C 44 7) + 1) = sq C c l (i + 1) 0 := by
  unfold sq
  rw [if_neg (by omega), if_neg (by omega)]
  rfl
theorem k3_2 {k : Int32} (h : 0 ≤ k ∧ k ≤ 2) (h0 : ¬ k = 0) (h1 : ¬ k = 1) : k = 2 := by
  have q := bt_i h
  have e0 : ¬ k.toInt = 0 := fun z => h0 (Int32.toInt_inj.mp z)
  have e1 : ¬ k.toInt = 1 := fun z => h1 (Int32.toInt_inj.mp z)
  have q1 := q.1
  have q2 := q.2
  rw [Int32.toInt_zero] at q1
  rw [show (2 : Int32).toInt = 2 by decide] at q2
  exact Int32.toInt_inj.mp (show k.toInt = (2 : Int32).toInt by rw [show (2 : Int32).toInt = 2 by decide]; omega)
set_option maxRecDepth 100000 in
set_option maxHeartbeats 4000000 in
theorem sem_X8_span {C M : Mem} (h : RF C M) {c k : Int32} : Sem mX8_span SH [.ref 58, .int c, .int k] M (RI SH (fun r N => r = spanV C c k ∧ RP (C) M N)) := by
  have q1 := h.1.nb24
  have q4 := h.1.nh3
  refine Sem_of rfl (fun G => (Nat.le_of_ble_eq_true rfl)) (fun G => ?_)
  refine Bd_aload_0 (pc := 0) dX8_span_0 ?_
  refine Bd_iload_1 (pc := 1) dX8_span_1 ?_
  refine Bd_callV1i (cd := mX8_isCell) (pc := 2) dX8_span_2 k_1012 v_X8_isCell ⟨(Nat.le_of_ble_eq_true rfl), (Nat.le_of_ble_eq_true rfl)⟩ rfl rfl (sem_X8_isCell h) (Nat.le_of_ble_eq_true rfl) ?_
  refine Bd_if_eq (t := 20) (pc := 5) dX8_span_5 (by decide) (fun b5 => ?_) (fun b5 => ?_)
  · refine Bd_iconst (v := -1) (pc := 20) dX8_span_20 (by decide) ?_
    refine Bd_iret (pc := 21) dX8_span_21 rfl ?_
    exact ⟨_, rfl, rfl, by rw [spanV, if_neg (b2_0.mp b5)], RP_aw h⟩
  · refine Bd_iload_2 (pc := 8) dX8_span_8 ?_
    refine Bd_i2l (pc := 9) dX8_span_9 ?_
    refine Bd_lconst (v := 0) (pc := 10) dX8_span_10 (by decide) ?_
    refine Bd_ldc2 k_990 (pc := 11) dX8_span_11 ?_
    refine Bd_callS3i (cd := mX8_in) (pc := 14) dX8_span_14 k_910 v_X8_in ⟨(Nat.le_of_ble_eq_true rfl), (Nat.le_of_ble_eq_true rfl)⟩ (sem_in (a := 0) (b := 2) (by decide) (by decide)) (Nat.le_of_ble_eq_true rfl) ?_
    refine Bd_if_ne (t := 22) (pc := 17) dX8_span_17 (by decide) (fun b17 => ?_) (fun b17 => ?_)
    · refine Bd_bipush (v := -4) (pc := 22) dX8_span_22 (by decide) ?_
      refine Bd_istore_3 (pc := 24) dX8_span_24 (Nat.le_of_ble_eq_true rfl) rfl ?_
      refine Bd_bipush (v := -4) (pc := 25) dX8_span_25 (by decide) ?_
      refine Bd_istore_4 (pc := 27) dX8_span_27 (Nat.le_of_ble_eq_true rfl) rfl ?_
      refine Bd_iconst (v := 0) (pc := 29) dX8_span_29 (by decide) ?_
      refine Bd_istore_5 (pc := 30) dX8_span_30 (Nat.le_of_ble_eq_true rfl) rfl ?_
      refine Bd_nx (L' := (fun i => [some (.ref 58), some (.int c), some (.int k), some (.int (sq C c 0 i 0)), some (.int (sq C c 1 i 0)), some (.int (nI i)), none, none]) 0) ?_ (by repeat (first | exact True.intro | refine And.intro rfl ?_))
      refine Bd_for (pc := 32) (c := (cn (C 5 4))) (fun i => [some (.ref 58), some (.int c), some (.int k), some (.int (sq C c 0 i 0)), some (.int (sq C c 1 i 0)), some (.int (nI i)), none, none]) (fun _ => awM M) (fun _ => True) (fun ivi => ?_) (fun i hi ivi ihi => ?_) trivial
      · refine Bd_iload_5 (pc := 32) dX8_span_32 ?_
        refine Bd_aload_0 (pc := 34) dX8_span_34 ?_
        refine Bd_callV0i (cd := mX8_blows) (pc := 35) dX8_span_35 k_996 v_X8_blows ⟨(Nat.le_of_ble_eq_true rfl), (Nat.le_of_ble_eq_true rfl)⟩ rfl rfl (sem_X8_blows h.aw.rf) (Nat.le_of_ble_eq_true rfl) ?_
        refine Bd_icmp_ge (t := 111) (pc := 38) dX8_span_38 (by decide) (fun b38 => ?_) (fun b38 => (show False from lf_x h.1.nb b38).elim)
        refine Bd_iload_2 (pc := 111) dX8_span_111 ?_
        refine Bd_if_ne (t := 119) (pc := 112) dX8_span_112 (by decide) (fun b112 => ?_) (fun b112 => ?_)
        · refine Bd_iload_2 (pc := 119) dX8_span_119 ?_
          refine Bd_iconst (v := 1) (pc := 120) dX8_span_120 (by decide) ?_
          refine Bd_icmp_ne (t := 129) (pc := 121) dX8_span_121 (by decide) (fun b121 => ?_) (fun b121 => ?_)
          · refine Bd_aload_0 (pc := 129) dX8_span_129 ?_
            refine Bd_callV0i (cd := mX8_blows) (pc := 130) dX8_span_130 k_996 v_X8_blows ⟨(Nat.le_of_ble_eq_true rfl), (Nat.le_of_ble_eq_true rfl)⟩ rfl rfl (sem_X8_blows h.aw.rf) (Nat.le_of_ble_eq_true rfl) ?_
            refine Bd_aload_0 (pc := 133) dX8_span_133 ?_
            refine Bd_getI (j := 3) ck8 (pc := 134) dX8_span_134 k_789 rfl (Nat.le_of_ble_eq_true rfl) rfl ?_
            refine Bd_iconst (v := 1) (pc := 137) dX8_span_137 (by decide) ?_
            refine Bd_iadd (pc := 138) dX8_span_138 ?_
            refine Bd_imul (pc := 139) dX8_span_139 ?_
            refine Bd_iret (pc := 140) dX8_span_140 rfl ?_
            have e3 : (awM M) 58 3 = C 44 7 := h.aw.2.1.1.2.2.2.2.1
            refine ⟨_, rfl, rfl, ?_, RP_aw h⟩
            rw [spanV, if_pos (b2_n.mp b5), if_pos (k02.mp (b2_n.mp b17))]
            rw [if_pos (k3_2 (b2_n.mp b17) b112 b121), e3, Int32.add_comm]
          · refine Bd_iload_4 (pc := 124) dX8_span_124 ?_
            refine Bd_goto (t := 140) (pc := 126) dX8_span_126 (by decide) ?_
            refine Bd_iret (pc := 140) dX8_span_140 rfl ?_
            have e3 : (awM M) 58 3 = C 44 7 := h.aw.2.1.1.2.2.2.2.1
            refine ⟨_, rfl, rfl, ?_, RP_aw h⟩
            rw [spanV, if_pos (b2_n.mp b5), if_pos (k02.mp (b2_n.mp b17))]
            rw [if_neg (by rw [b121]; decide)]
            by_cases z : C 5 4 = 0
            · rw [if_pos z]; exact if_pos ⟨by rw [z]; rfl, rfl⟩
            · rw [if_neg z, if_pos b121]
              exact if_neg (fun y => by have := h.1.nb0 z; omega)
        · refine Bd_iload_3 (pc := 115) dX8_span_115 ?_
          refine Bd_goto (t := 140) (pc := 116) dX8_span_116 (by decide) ?_
          refine Bd_iret (pc := 140) dX8_span_140 rfl ?_
          have e3 : (awM M) 58 3 = C 44 7 := h.aw.2.1.1.2.2.2.2.1
          refine ⟨_, rfl, rfl, ?_, RP_aw h⟩
          rw [spanV, if_pos (b2_n.mp b5), if_pos (k02.mp (b2_n.mp b17))]
          rw [if_neg (by rw [b112]; decide)]
          by_cases z : C 5 4 = 0
          · rw [if_pos z]; exact if_pos ⟨by rw [z]; rfl, rfl⟩
          · rw [if_neg z, if_neg (show ¬ k = 1 by rw [b112]; decide)]
            exact if_neg (fun y => by have := h.1.nb0 z; omega)
      · refine Bd_iload_5 (pc := 32) dX8_span_32 ?_
        refine Bd_aload_0 (pc := 34) dX8_span_34 ?_
        refine Bd_callV0i (cd := mX8_blows) (pc := 35) dX8_span_35 k_996 v_X8_blows ⟨(Nat.le_of_ble_eq_true rfl), (Nat.le_of_ble_eq_true rfl)⟩ rfl rfl (sem_X8_blows h.aw.rf) (Nat.le_of_ble_eq_true rfl) ?_
        refine Bd_icmp_ge (t := 111) (pc := 38) dX8_span_38 (by decide) (fun b38 => (show False from lf_s h.1.nb (by omega) hi b38).elim) (fun b38 => ?_)
        refine Bd_iconst (v := -1) (pc := 41) dX8_span_41 (by decide) ?_
        refine Bd_istore_6 (pc := 42) dX8_span_42 (Nat.le_of_ble_eq_true rfl) rfl ?_
        refine Bd_nx (L' := (fun j => [some (.ref 58), some (.int c), some (.int k), some (.int (sq C c 0 i j)), some (.int (sq C c 1 i j)), some (.int (nI i)), some (.int (nI j - 1)), none]) 0) ?_ (by repeat (first | exact True.intro | refine And.intro rfl ?_))
        refine Bd_for (pc := 44) (c := (cn (C 44 7)) + 1) (fun j => [some (.ref 58), some (.int c), some (.int k), some (.int (sq C c 0 i j)), some (.int (sq C c 1 i j)), some (.int (nI i)), some (.int (nI j - 1)), none]) (fun _ => awM M) (fun _ => True) (fun ivj => ?_) (fun j hj ivj ihj => ?_) trivial
        · refine Bd_iload_6 (pc := 44) dX8_span_44 ?_
          refine Bd_aload_0 (pc := 46) dX8_span_46 ?_
          refine Bd_getI (j := 3) ck8 (pc := 47) dX8_span_47 k_789 rfl (Nat.le_of_ble_eq_true rfl) rfl ?_
          refine Bd_icmp_ge (t := 105) (pc := 50) dX8_span_50 (by decide) (fun b50 => ?_) (fun b50 => (show False from lm_x (show (awM M) 58 3 = nI (cn (C 44 7)) from by rw [show (awM M) 58 3 = C 44 7 from h.aw.2.1.1.2.2.2.2.1]; exact h.1.nh) (by omega) b50).elim)
          refine Bd_iinc_5 (pc := 105) dX8_span_105 (show _ + Int32.ofInt 1 = _ + 1 from rfl) (Nat.le_of_ble_eq_true rfl) rfl ?_
          refine Bd_goto (t := 32) (pc := 108) dX8_span_108 (by decide) ?_
          exact Bd_nx (ihi trivial) (by simp only [wkP, sq_n, nI_succ, and_self])
        · refine Bd_iload_6 (pc := 44) dX8_span_44 ?_
          refine Bd_aload_0 (pc := 46) dX8_span_46 ?_
          refine Bd_getI (j := 3) ck8 (pc := 47) dX8_span_47 k_789 rfl (Nat.le_of_ble_eq_true rfl) rfl ?_
          refine Bd_icmp_ge (t := 105) (pc := 50) dX8_span_50 (by decide) (fun b50 => (show False from lm_s (show (awM M) 58 3 = nI (cn (C 44 7)) from by rw [show (awM M) 58 3 = C 44 7 from h.aw.2.1.1.2.2.2.2.1]; exact h.1.nh) (by omega) hj b50).elim) (fun b50 => ?_)
          refine Bd_aload_0 (pc := 53) dX8_span_53 ?_
          refine Bd_iload_5 (pc := 54) dX8_span_54 ?_
          refine Bd_iload_1 (pc := 56) dX8_span_56 ?_
          refine Bd_iload_6 (pc := 57) dX8_span_57 ?_
          refine Bd_callV3i (cd := mX8_comesBy) (pc := 59) dX8_span_59 k_1068 v_X8_comesBy ⟨(Nat.le_of_ble_eq_true rfl), (Nat.le_of_ble_eq_true rfl)⟩ rfl rfl (sem_X8_comesBy h.aw hi (by omega) (b2_n.mp b5).1) (Nat.le_of_ble_eq_true rfl) ?_
          refine Bd_istore_7 (pc := 62) dX8_span_62 (Nat.le_of_ble_eq_true rfl) rfl ?_
          refine Bd_iload_3 (pc := 64) dX8_span_64 ?_
          refine Bd_bipush (v := -4) (pc := 65) dX8_span_65 (by decide) ?_
          refine Bd_icmp_eq (t := 76) (pc := 67) dX8_span_67 (by decide) (fun b67 => ?_) (fun b67 => ?_)
          · refine Bd_iload_7 (pc := 76) dX8_span_76 ?_
            refine Bd_goto (t := 82) (pc := 78) dX8_span_78 (by decide) ?_
            refine Bd_istore_3 (pc := 82) dX8_span_82 (Nat.le_of_ble_eq_true rfl) rfl ?_
            refine Bd_iload_7 (pc := 83) dX8_span_83 ?_
            refine Bd_iload_4 (pc := 85) dX8_span_85 ?_
            refine Bd_icmp_le (t := 95) (pc := 87) dX8_span_87 (by decide) (fun b87 => ?_) (fun b87 => ?_)
            · refine Bd_iload_4 (pc := 95) dX8_span_95 ?_
              refine Bd_istore_4 (pc := 97) dX8_span_97 (Nat.le_of_ble_eq_true rfl) rfl ?_
              refine Bd_iinc_6 (pc := 99) dX8_span_99 (show _ + Int32.ofInt 1 = _ + 1 from rfl) (Nat.le_of_ble_eq_true rfl) rfl ?_
              refine Bd_goto (t := 44) (pc := 102) dX8_span_102 (by decide) ?_
              have s0 := sq_s0 h.1 (b2_n.mp b5).1 hi hj
              have s1 := sq_s1 h.1 (b2_n.mp b5).1 hi hj
              rw [if_pos b67] at s0
              rw [if_pos b87] at s1
              exact Bd_nx (ihj trivial) (by simp only [wkP, ← s0, ← s1, hm, and_self])
            · refine Bd_iload_7 (pc := 90) dX8_span_90 ?_
              refine Bd_goto (t := 97) (pc := 92) dX8_span_92 (by decide) ?_
              refine Bd_istore_4 (pc := 97) dX8_span_97 (Nat.le_of_ble_eq_true rfl) rfl ?_
              refine Bd_iinc_6 (pc := 99) dX8_span_99 (show _ + Int32.ofInt 1 = _ + 1 from rfl) (Nat.le_of_ble_eq_true rfl) rfl ?_
              refine Bd_goto (t := 44) (pc := 102) dX8_span_102 (by decide) ?_
              have s0 := sq_s0 h.1 (b2_n.mp b5).1 hi hj
              have s1 := sq_s1 h.1 (b2_n.mp b5).1 hi hj
              rw [if_pos b67] at s0
              rw [if_neg b87] at s1
              exact Bd_nx (ihj trivial) (by simp only [wkP, ← s0, ← s1, hm, and_self])
          · refine Bd_iload_7 (pc := 70) dX8_span_70 ?_
            refine Bd_iload_3 (pc := 72) dX8_span_72 ?_
            refine Bd_icmp_ge (t := 81) (pc := 73) dX8_span_73 (by decide) (fun b73 => ?_) (fun b73 => ?_)
            · refine Bd_iload_3 (pc := 81) dX8_span_81 ?_
              refine Bd_istore_3 (pc := 82) dX8_span_82 (Nat.le_of_ble_eq_true rfl) rfl ?_
              refine Bd_iload_7 (pc := 83) dX8_span_83 ?_
              refine Bd_iload_4 (pc := 85) dX8_span_85 ?_
              refine Bd_icmp_le (t := 95) (pc := 87) dX8_span_87 (by decide) (fun b87 => ?_) (fun b87 => ?_)
              · refine Bd_iload_4 (pc := 95) dX8_span_95 ?_
                refine Bd_istore_4 (pc := 97) dX8_span_97 (Nat.le_of_ble_eq_true rfl) rfl ?_
                refine Bd_iinc_6 (pc := 99) dX8_span_99 (show _ + Int32.ofInt 1 = _ + 1 from rfl) (Nat.le_of_ble_eq_true rfl) rfl ?_
                refine Bd_goto (t := 44) (pc := 102) dX8_span_102 (by decide) ?_
                have s0 := sq_s0 h.1 (b2_n.mp b5).1 hi hj
                have s1 := sq_s1 h.1 (b2_n.mp b5).1 hi hj
                rw [if_neg b67, if_pos b73] at s0
                rw [if_pos b87] at s1
                exact Bd_nx (ihj trivial) (by simp only [wkP, ← s0, ← s1, hm, and_self])
              · refine Bd_iload_7 (pc := 90) dX8_span_90 ?_
                refine Bd_goto (t := 97) (pc := 92) dX8_span_92 (by decide) ?_
                refine Bd_istore_4 (pc := 97) dX8_span_97 (Nat.le_of_ble_eq_true rfl) rfl ?_
                refine Bd_iinc_6 (pc := 99) dX8_span_99 (show _ + Int32.ofInt 1 = _ + 1 from rfl) (Nat.le_of_ble_eq_true rfl) rfl ?_
                refine Bd_goto (t := 44) (pc := 102) dX8_span_102 (by decide) ?_
                have s0 := sq_s0 h.1 (b2_n.mp b5).1 hi hj
                have s1 := sq_s1 h.1 (b2_n.mp b5).1 hi hj
                rw [if_neg b67, if_pos b73] at s0
                rw [if_neg b87] at s1
                exact Bd_nx (ihj trivial) (by simp only [wkP, ← s0, ← s1, hm, and_self])
            · refine Bd_iload_7 (pc := 76) dX8_span_76 ?_
              refine Bd_goto (t := 82) (pc := 78) dX8_span_78 (by decide) ?_
              refine Bd_istore_3 (pc := 82) dX8_span_82 (Nat.le_of_ble_eq_true rfl) rfl ?_
              refine Bd_iload_7 (pc := 83) dX8_span_83 ?_
              refine Bd_iload_4 (pc := 85) dX8_span_85 ?_
              refine Bd_icmp_le (t := 95) (pc := 87) dX8_span_87 (by decide) (fun b87 => ?_) (fun b87 => ?_)
              · refine Bd_iload_4 (pc := 95) dX8_span_95 ?_
                refine Bd_istore_4 (pc := 97) dX8_span_97 (Nat.le_of_ble_eq_true rfl) rfl ?_
                refine Bd_iinc_6 (pc := 99) dX8_span_99 (show _ + Int32.ofInt 1 = _ + 1 from rfl) (Nat.le_of_ble_eq_true rfl) rfl ?_
                refine Bd_goto (t := 44) (pc := 102) dX8_span_102 (by decide) ?_
                have s0 := sq_s0 h.1 (b2_n.mp b5).1 hi hj
                have s1 := sq_s1 h.1 (b2_n.mp b5).1 hi hj
                rw [if_neg b67, if_neg b73] at s0
                rw [if_pos b87] at s1
                exact Bd_nx (ihj trivial) (by simp only [wkP, ← s0, ← s1, hm, and_self])
              · refine Bd_iload_7 (pc := 90) dX8_span_90 ?_
                refine Bd_goto (t := 97) (pc := 92) dX8_span_92 (by decide) ?_
                refine Bd_istore_4 (pc := 97) dX8_span_97 (Nat.le_of_ble_eq_true rfl) rfl ?_
                refine Bd_iinc_6 (pc := 99) dX8_span_99 (show _ + Int32.ofInt 1 = _ + 1 from rfl) (Nat.le_of_ble_eq_true rfl) rfl ?_
                refine Bd_goto (t := 44) (pc := 102) dX8_span_102 (by decide) ?_
                have s0 := sq_s0 h.1 (b2_n.mp b5).1 hi hj
                have s1 := sq_s1 h.1 (b2_n.mp b5).1 hi hj
                rw [if_neg b67, if_neg b73] at s0
                rw [if_neg b87] at s1
                exact Bd_nx (ihj trivial) (by simp only [wkP, ← s0, ← s1, hm, and_self])
    · refine Bd_iconst (v := -1) (pc := 20) dX8_span_20 (by decide) ?_
      refine Bd_iret (pc := 21) dX8_span_21 rfl ?_
      exact ⟨_, rfl, rfl, by rw [spanV, if_pos (b2_n.mp b5), if_neg (fun z => b2_0.mp b17 (k02.mpr z))], RP_aw h⟩
