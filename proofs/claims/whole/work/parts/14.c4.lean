/-! 14: the class: loops over blows and towers -/
abbrev hpN (M : Mem) (t : Nat) (tone : Int32) : Prop := ¬ (M 47 t >>> (tone &&& 31) &&& 1) = 0
set_option maxRecDepth 100000 in
set_option maxHeartbeats 4000000 in
theorem sem_hpN {M : Mem} {t : Nat} {tone : Int32} (ht : t < 6) : Sem mX3_hasPipe SH [.ref 44, .int (nI t), .int tone] M (PD SH (some (.int (b2 (hpN M t tone)))) (M)) := by
  refine Sem_of rfl (fun G => (Nat.le_of_ble_eq_true rfl)) (fun G => ?_)
  refine Bd_aload_0 (pc := 0) dX3_hasPipe_0 ?_
  refine Bd_getR (j := 2) ck3 (pc := 1) dX3_hasPipe_1 k_154 rfl (Nat.le_of_ble_eq_true rfl) rfl ?_
  refine Bd_iload_1 (pc := 4) dX3_hasPipe_4 ?_
  refine Bd_ialdc (j := t) (nI_clamp (by omega)) (pc := 5) dX3_hasPipe_5 rfl (vpi (by omega) (by omega)) ?_
  refine Bd_iload_2 (pc := 6) dX3_hasPipe_6 ?_
  refine Bd_ishr (pc := 7) dX3_hasPipe_7 ?_
  refine Bd_iconst (v := 1) (pc := 8) dX3_hasPipe_8 (by decide) ?_
  refine Bd_iand (pc := 9) dX3_hasPipe_9 ?_
  refine Bd_if_eq (t := 17) (pc := 10) dX3_hasPipe_10 (by decide) (fun b10 => ?_) (fun b10 => ?_)
  · refine Bd_iconst (v := 0) (pc := 17) dX3_hasPipe_17 (by decide) ?_
    refine Bd_zret (pc := 18) dX3_hasPipe_18 rfl rfl ?_
    exact PD_i (by first | exact b2_t (by assumption) | exact b2_f (fun h => h (by assumption))) rfl
  · refine Bd_iconst (v := 1) (pc := 13) dX3_hasPipe_13 (by decide) ?_
    refine Bd_goto (t := 18) (pc := 14) dX3_hasPipe_14 (by decide) ?_
    refine Bd_zret (pc := 18) dX3_hasPipe_18 rfl rfl ?_
    exact PD_i (by first | exact b2_t (by assumption) | exact b2_f (fun h => h (by assumption))) rfl
set_option maxRecDepth 100000 in
set_option maxHeartbeats 4000000 in
theorem sem_sdN {M : Mem} {t : Nat} {c : Int32} (ht : t < 6) : Sem mX3_soundOf SH [.ref 44, .int (nI t), .int c] M (PD SH (some (.int (sdF M (M 46 t) c))) (M)) := by
  refine Sem_of rfl (fun G => (Nat.le_of_ble_eq_true rfl)) (fun G => ?_)
  refine Bd_aload_0 (pc := 0) dX3_soundOf_0 ?_
  refine Bd_aload_0 (pc := 1) dX3_soundOf_1 ?_
  refine Bd_getR (j := 1) ck3 (pc := 2) dX3_soundOf_2 k_151 rfl (Nat.le_of_ble_eq_true rfl) rfl ?_
  refine Bd_iload_1 (pc := 5) dX3_soundOf_5 ?_
  refine Bd_ialdc (j := t) (nI_clamp (by omega)) (pc := 6) dX3_soundOf_6 rfl (vpi (by omega) (by omega)) ?_
  refine Bd_iload_2 (pc := 7) dX3_soundOf_7 ?_
  refine Bd_callV2i (cd := mX3_sound) (pc := 8) dX3_soundOf_8 k_559 v_X3_sound ⟨(Nat.le_of_ble_eq_true rfl), (Nat.le_of_ble_eq_true rfl)⟩ rfl rfl sem_X3_sound (Nat.le_of_ble_eq_true rfl) ?_
  refine Bd_iret (pc := 11) dX3_soundOf_11 rfl ?_
  exact PD_i rfl rfl
def hwF (M : Mem) (c b : Int32) (i : Nat) (a : Int32) : Nat → Int32
  | 0 => a
  | k + 1 => if cbF M k i c = b then hwF M c b i a k ||| (1 <<< (M 8 i &&& 31)) else hwF M c b i a k
def hdF (M : Mem) (c b : Int32) (k : Nat) : Nat → Int32
  | 0 => 0
  | i + 1 => hwF M c b i (hdF M c b k i) (k + 1)
def heardV (M : Mem) (c b e : Int32) : Int32 := if hcF M 45 c then if b < 0 then -1 else if b ≤ 999 then hdF M c b (if e = 0 then 0 else cn (M 44 7)) (cn (M 5 4)) else -1 else -1
set_option maxRecDepth 100000 in
set_option maxHeartbeats 4000000 in
theorem sem_X7_heard {M : Mem} (h : WF M) {c b e : Int32} : Sem mX7_heard SH [.ref 0, .int c, .int b, .int e] M (PD SH (some (.int (heardV M c b e))) (M)) := by
  have q1 := h.nb24
  have q2 := h.nn12
  have q3 := h.nt6
  have q4 := h.nh3
  have q5 := h.nmb
  refine Sem_of rfl (fun G => (Nat.le_of_ble_eq_true rfl)) (fun G => ?_)
  have key : ∀ k, k ≤ 3 → heardV M c b e = hdF M c b k (cn (M 5 4)) → Bd mX7_heard G (PD SH (some (.int (heardV M c b e))) (M)) SH 41 [some (.ref 0), some (.int c), some (.int b), some (.int e), some (.int (nI k)), none, none, none] [] M := by
    intro k hk hv
    refine Bd_iconst (v := 0) (pc := 41) dX7_heard_41 (by decide) ?_
    refine Bd_istore_5 (pc := 42) dX7_heard_42 (Nat.le_of_ble_eq_true rfl) rfl ?_
    refine Bd_iconst (v := 0) (pc := 44) dX7_heard_44 (by decide) ?_
    refine Bd_istore_6 (pc := 45) dX7_heard_45 (Nat.le_of_ble_eq_true rfl) rfl ?_
    refine Bd_nx (L' := (fun i => [some (.ref 0), some (.int c), some (.int b), some (.int e), some (.int (nI k)), some (.int (hdF M c b k i)), some (.int (nI i)), none]) 0) ?_ (by repeat (first | exact True.intro | refine And.intro rfl ?_))
    refine Bd_for (pc := 47) (c := (cn (M 5 4))) (fun i => [some (.ref 0), some (.int c), some (.int b), some (.int e), some (.int (nI k)), some (.int (hdF M c b k i)), some (.int (nI i)), none]) (fun _ => M) (fun _ => True) (fun ivi => ?_) (fun i hi ivi ihi => ?_) trivial
    · refine Bd_iload_6 (pc := 47) dX7_heard_47 ?_
      refine Bd_aload_0 (pc := 49) dX7_heard_49 ?_
      refine Bd_getR (j := 2) ck7 (pc := 50) dX7_heard_50 k_237 rfl (Nat.le_of_ble_eq_true rfl) rfl ?_
      refine Bd_getI (j := 4) ck0 (pc := 53) dX7_heard_53 k_92 rfl (Nat.le_of_ble_eq_true rfl) rfl ?_
      refine Bd_icmp_ge (t := 111) (pc := 56) dX7_heard_56 (by decide) (fun b56 => ?_) (fun b56 => (show False from lf_x h.nb b56).elim)
      refine Bd_iload_5 (pc := 111) dX7_heard_111 ?_
      refine Bd_iret (pc := 113) dX7_heard_113 rfl ?_
      exact PD_i hv.symm rfl
    · refine Bd_iload_6 (pc := 47) dX7_heard_47 ?_
      refine Bd_aload_0 (pc := 49) dX7_heard_49 ?_
      refine Bd_getR (j := 2) ck7 (pc := 50) dX7_heard_50 k_237 rfl (Nat.le_of_ble_eq_true rfl) rfl ?_
      refine Bd_getI (j := 4) ck0 (pc := 53) dX7_heard_53 k_92 rfl (Nat.le_of_ble_eq_true rfl) rfl ?_
      refine Bd_icmp_ge (t := 111) (pc := 56) dX7_heard_56 (by decide) (fun b56 => (show False from lf_s h.nb (by have := h.nb24; omega) hi b56).elim) (fun b56 => ?_)
      refine Bd_iconst (v := 0) (pc := 59) dX7_heard_59 (by decide) ?_
      refine Bd_istore_7 (pc := 60) dX7_heard_60 (Nat.le_of_ble_eq_true rfl) rfl ?_
      refine Bd_nx (L' := (fun j => [some (.ref 0), some (.int c), some (.int b), some (.int e), some (.int (nI k)), some (.int (hwF M c b i (hdF M c b k i) j)), some (.int (nI i)), some (.int (nI j))]) 0) ?_ (by repeat (first | exact True.intro | refine And.intro rfl ?_))
      refine Bd_for (pc := 62) (c := k + 1) (fun j => [some (.ref 0), some (.int c), some (.int b), some (.int e), some (.int (nI k)), some (.int (hwF M c b i (hdF M c b k i) j)), some (.int (nI i)), some (.int (nI j))]) (fun _ => M) (fun _ => True) (fun ivj => ?_) (fun j hj ivj ihj => ?_) trivial
      · refine Bd_iload_7 (pc := 62) dX7_heard_62 ?_
        refine Bd_iload_4 (pc := 64) dX7_heard_64 ?_
        refine Bd_icmp_gt (t := 105) (pc := 66) dX7_heard_66 (by decide) (fun b66 => ?_) (fun b66 => (show False from lg_x (rfl : nI k = nI k) (by omega) b66).elim)
        refine Bd_iinc_6 (pc := 105) dX7_heard_105 (show _ + Int32.ofInt 1 = _ + 1 from rfl) (Nat.le_of_ble_eq_true rfl) rfl ?_
        refine Bd_goto (t := 47) (pc := 108) dX7_heard_108 (by decide) ?_
        exact Bd_nx (ihi trivial) (by simp [wkP, hdF, nI_succ, b66])
      · refine Bd_iload_7 (pc := 62) dX7_heard_62 ?_
        refine Bd_iload_4 (pc := 64) dX7_heard_64 ?_
        refine Bd_icmp_gt (t := 105) (pc := 66) dX7_heard_66 (by decide) (fun b66 => (show False from lg_s (rfl : nI k = nI k) (by omega) hj b66).elim) (fun b66 => ?_)
        refine Bd_aload_0 (pc := 69) dX7_heard_69 ?_
        refine Bd_iload_7 (pc := 70) dX7_heard_70 ?_
        refine Bd_iload_6 (pc := 72) dX7_heard_72 ?_
        refine Bd_iload_1 (pc := 74) dX7_heard_74 ?_
        refine Bd_callV3i (cd := mX7_comesBy) (pc := 75) dX7_heard_75 k_530 v_X7_comesBy ⟨(Nat.le_of_ble_eq_true rfl), (Nat.le_of_ble_eq_true rfl)⟩ rfl rfl (sem_X7_comesBy (i := i) (way := j) (by have := h.nb24; omega) (by omega) (h.bt6 hi)) (Nat.le_of_ble_eq_true rfl) ?_
        refine Bd_iload_2 (pc := 78) dX7_heard_78 ?_
        refine Bd_icmp_ne (t := 99) (pc := 79) dX7_heard_79 (by decide) (fun b79 => ?_) (fun b79 => ?_)
        · refine Bd_iinc_7 (pc := 99) dX7_heard_99 (show _ + Int32.ofInt 1 = _ + 1 from rfl) (Nat.le_of_ble_eq_true rfl) rfl ?_
          refine Bd_goto (t := 62) (pc := 102) dX7_heard_102 (by decide) ?_
          exact Bd_nx (ihj trivial) (by simp [wkP, hwF, nI_succ, b79])
        · refine Bd_iload_5 (pc := 82) dX7_heard_82 ?_
          refine Bd_iconst (v := 1) (pc := 84) dX7_heard_84 (by decide) ?_
          refine Bd_aload_0 (pc := 85) dX7_heard_85 ?_
          refine Bd_getR (j := 2) ck7 (pc := 86) dX7_heard_86 k_237 rfl (Nat.le_of_ble_eq_true rfl) rfl ?_
          refine Bd_getR (j := 2) ck0 (pc := 89) dX7_heard_89 k_88 rfl (Nat.le_of_ble_eq_true rfl) rfl ?_
          refine Bd_iload_6 (pc := 92) dX7_heard_92 ?_
          refine Bd_ialdc (j := i) (nI_clamp (by omega)) (pc := 94) dX7_heard_94 rfl (vpi (by have := h.nb24; omega) (by omega)) ?_
          refine Bd_ishl (pc := 95) dX7_heard_95 ?_
          refine Bd_ior (pc := 96) dX7_heard_96 ?_
          refine Bd_istore_5 (pc := 97) dX7_heard_97 (Nat.le_of_ble_eq_true rfl) rfl ?_
          refine Bd_iinc_7 (pc := 99) dX7_heard_99 (show _ + Int32.ofInt 1 = _ + 1 from rfl) (Nat.le_of_ble_eq_true rfl) rfl ?_
          refine Bd_goto (t := 62) (pc := 102) dX7_heard_102 (by decide) ?_
          exact Bd_nx (ihj trivial) (by simp [wkP, hwF, nI_succ, b79])
  refine Bd_aload_0 (pc := 0) dX7_heard_0 ?_
  refine Bd_getR (j := 8) ck7 (pc := 1) dX7_heard_1 k_243 rfl (Nat.le_of_ble_eq_true rfl) rfl ?_
  refine Bd_iload_1 (pc := 4) dX7_heard_4 ?_
  refine Bd_callV1i (cd := mX3_hasCell) (pc := 5) dX7_heard_5 k_481 v_X3_hasCell ⟨(Nat.le_of_ble_eq_true rfl), (Nat.le_of_ble_eq_true rfl)⟩ rfl rfl sem_X3_hasCell (Nat.le_of_ble_eq_true rfl) ?_
  refine Bd_if_eq (t := 22) (pc := 8) dX7_heard_8 (by decide) (fun b8 => ?_) (fun b8 => ?_)
  · refine Bd_iconst (v := -1) (pc := 22) dX7_heard_22 (by decide) ?_
    refine Bd_iret (pc := 23) dX7_heard_23 rfl ?_
    exact PD_i (by simp [heardV, (b2_0.mp b8)]) rfl
  · refine Bd_iload_2 (pc := 11) dX7_heard_11 ?_
    refine Bd_if_lt (t := 22) (pc := 12) dX7_heard_12 (by decide) (fun b12 => ?_) (fun b12 => ?_)
    · refine Bd_iconst (v := -1) (pc := 22) dX7_heard_22 (by decide) ?_
      refine Bd_iret (pc := 23) dX7_heard_23 rfl ?_
      exact PD_i (by simp [heardV, (b2_n.mp b8), b12]) rfl
    · refine Bd_iload_2 (pc := 15) dX7_heard_15 ?_
      refine Bd_sipush (v := 999) (pc := 16) dX7_heard_16 (by decide) ?_
      refine Bd_icmp_le (t := 24) (pc := 19) dX7_heard_19 (by decide) (fun b19 => ?_) (fun b19 => ?_)
      · refine Bd_iload_3 (pc := 24) dX7_heard_24 ?_
        refine Bd_if_eq (t := 38) (pc := 25) dX7_heard_25 (by decide) (fun b25 => ?_) (fun b25 => ?_)
        · refine Bd_iconst (v := 0) (pc := 38) dX7_heard_38 (by decide) ?_
          refine Bd_istore_4 (pc := 39) dX7_heard_39 (Nat.le_of_ble_eq_true rfl) rfl ?_
          exact key 0 (by omega) (by simp [heardV, (b2_n.mp b8), b12, b19, b25])
        · refine Bd_aload_0 (pc := 28) dX7_heard_28 ?_
          refine Bd_getR (j := 8) ck7 (pc := 29) dX7_heard_29 k_243 rfl (Nat.le_of_ble_eq_true rfl) rfl ?_
          refine Bd_getI (j := 7) ck3 (pc := 32) dX7_heard_32 k_167 rfl (Nat.le_of_ble_eq_true rfl) rfl ?_
          refine Bd_goto (t := 39) (pc := 35) dX7_heard_35 (by decide) ?_
          refine Bd_istore_4 (pc := 39) dX7_heard_39 (Nat.le_of_ble_eq_true rfl) rfl ?_
          rw [h.nh]
          exact key _ h.nh3 (by simp [heardV, (b2_n.mp b8), b12, b19, b25])
      · refine Bd_iconst (v := -1) (pc := 22) dX7_heard_22 (by decide) ?_
        refine Bd_iret (pc := 23) dX7_heard_23 rfl ?_
        exact PD_i (by simp [heardV, (b2_n.mp b8), b12, b19]) rfl
def egW (M : Mem) (c l : Int32) (i : Nat) (a : Int32) : Nat → Int32
  | 0 => a
  | k + 1 => if l = 0 then mnF (egW M c l i a k) (cbF M k i c) else mxF (egW M c l i a k) (cbF M k i c)
def egF (M : Mem) (c l : Int32) (k : Nat) : Nat → Int32
  | 0 => cmF M 0 c
  | i + 1 => egW M c l i (egF M c l k i) (k + 1)
def spanV (M : Mem) (c k : Int32) : Int32 := if hcF M 45 c then if 0 ≤ k ∧ k < 3 then if k = 2 then M 5 4 * (1 + M 44 7) else if M 5 4 = 0 then -4 else egF M c (if k = 1 then 1 else 0) (cn (M 44 7)) (cn (M 5 4)) else -1 else -1
set_option maxRecDepth 100000 in
set_option maxHeartbeats 4000000 in
theorem sem_X7_edge {M : Mem} (h : WF M) {c l : Int32} (h0 : 0 < cn (M 5 4)) : Sem mX7_edge SH [.ref 0, .int c, .int l] M (PD SH (some (.int (egF M c l (cn (M 44 7)) (cn (M 5 4))))) (M)) := by
  have q1 := h.nb24
  have q2 := h.nn12
  have q3 := h.nt6
  have q4 := h.nh3
  have q5 := h.nmb
  refine Sem_of rfl (fun G => (Nat.le_of_ble_eq_true rfl)) (fun G => ?_)
  refine Bd_aload_0 (pc := 0) dX7_edge_0 ?_
  refine Bd_iconst (v := 0) (pc := 1) dX7_edge_1 (by decide) ?_
  refine Bd_iload_1 (pc := 2) dX7_edge_2 ?_
  refine Bd_callV2i (cd := mX7_comes) (pc := 3) dX7_edge_3 k_522 v_X7_comes ⟨(Nat.le_of_ble_eq_true rfl), (Nat.le_of_ble_eq_true rfl)⟩ rfl rfl (sem_X7_comes (i := 0) (by omega) (h.bt6 h0)) (Nat.le_of_ble_eq_true rfl) ?_
  refine Bd_istore_3 (pc := 6) dX7_edge_6 (Nat.le_of_ble_eq_true rfl) rfl ?_
  refine Bd_iconst (v := 0) (pc := 7) dX7_edge_7 (by decide) ?_
  refine Bd_istore_4 (pc := 8) dX7_edge_8 (Nat.le_of_ble_eq_true rfl) rfl ?_
  refine Bd_nx (L' := (fun i => [some (.ref 0), some (.int c), some (.int l), some (.int (egF M c l (cn (M 44 7)) i)), some (.int (nI i)), none, none]) 0) ?_ (by repeat (first | exact True.intro | refine And.intro rfl ?_))
  refine Bd_for (pc := 10) (c := (cn (M 5 4))) (fun i => [some (.ref 0), some (.int c), some (.int l), some (.int (egF M c l (cn (M 44 7)) i)), some (.int (nI i)), none, none]) (fun _ => M) (fun _ => True) (fun ivi => ?_) (fun i hi ivi ihi => ?_) trivial
  · refine Bd_iload_4 (pc := 10) dX7_edge_10 ?_
    refine Bd_aload_0 (pc := 12) dX7_edge_12 ?_
    refine Bd_getR (j := 2) ck7 (pc := 13) dX7_edge_13 k_237 rfl (Nat.le_of_ble_eq_true rfl) rfl ?_
    refine Bd_getI (j := 4) ck0 (pc := 16) dX7_edge_16 k_92 rfl (Nat.le_of_ble_eq_true rfl) rfl ?_
    refine Bd_icmp_ge (t := 80) (pc := 19) dX7_edge_19 (by decide) (fun b19 => ?_) (fun b19 => (show False from lf_x h.nb b19).elim)
    refine Bd_iload_3 (pc := 80) dX7_edge_80 ?_
    refine Bd_iret (pc := 81) dX7_edge_81 rfl ?_
    exact PD_i rfl rfl
  · refine Bd_iload_4 (pc := 10) dX7_edge_10 ?_
    refine Bd_aload_0 (pc := 12) dX7_edge_12 ?_
    refine Bd_getR (j := 2) ck7 (pc := 13) dX7_edge_13 k_237 rfl (Nat.le_of_ble_eq_true rfl) rfl ?_
    refine Bd_getI (j := 4) ck0 (pc := 16) dX7_edge_16 k_92 rfl (Nat.le_of_ble_eq_true rfl) rfl ?_
    refine Bd_icmp_ge (t := 80) (pc := 19) dX7_edge_19 (by decide) (fun b19 => (show False from lf_s h.nb (by have := h.nb24; omega) hi b19).elim) (fun b19 => ?_)
    refine Bd_iconst (v := 0) (pc := 22) dX7_edge_22 (by decide) ?_
    refine Bd_istore_5 (pc := 23) dX7_edge_23 (Nat.le_of_ble_eq_true rfl) rfl ?_
    refine Bd_nx (L' := (fun j => [some (.ref 0), some (.int c), some (.int l), some (.int (egW M c l i (egF M c l (cn (M 44 7)) i) j)), some (.int (nI i)), some (.int (nI j)), none]) 0) ?_ (by repeat (first | exact True.intro | refine And.intro rfl ?_))
    refine Bd_for (pc := 25) (c := (cn (M 44 7)) + 1) (fun j => [some (.ref 0), some (.int c), some (.int l), some (.int (egW M c l i (egF M c l (cn (M 44 7)) i) j)), some (.int (nI i)), some (.int (nI j)), none]) (fun _ => M) (fun _ => True) (fun ivj => ?_) (fun j hj ivj ihj => ?_) trivial
    · refine Bd_iload_5 (pc := 25) dX7_edge_25 ?_
      refine Bd_aload_0 (pc := 27) dX7_edge_27 ?_
      refine Bd_getR (j := 8) ck7 (pc := 28) dX7_edge_28 k_243 rfl (Nat.le_of_ble_eq_true rfl) rfl ?_
      refine Bd_getI (j := 7) ck3 (pc := 31) dX7_edge_31 k_167 rfl (Nat.le_of_ble_eq_true rfl) rfl ?_
      refine Bd_icmp_gt (t := 74) (pc := 34) dX7_edge_34 (by decide) (fun b34 => ?_) (fun b34 => (show False from lg_x h.nh (by have := h.nh3; omega) b34).elim)
      refine Bd_iinc_4 (pc := 74) dX7_edge_74 (show _ + Int32.ofInt 1 = _ + 1 from rfl) (Nat.le_of_ble_eq_true rfl) rfl ?_
      refine Bd_goto (t := 10) (pc := 77) dX7_edge_77 (by decide) ?_
      exact Bd_nx (ihi trivial) (by simp [wkP, egF, nI_succ, b34])
    · refine Bd_iload_5 (pc := 25) dX7_edge_25 ?_
      refine Bd_aload_0 (pc := 27) dX7_edge_27 ?_
      refine Bd_getR (j := 8) ck7 (pc := 28) dX7_edge_28 k_243 rfl (Nat.le_of_ble_eq_true rfl) rfl ?_
      refine Bd_getI (j := 7) ck3 (pc := 31) dX7_edge_31 k_167 rfl (Nat.le_of_ble_eq_true rfl) rfl ?_
      refine Bd_icmp_gt (t := 74) (pc := 34) dX7_edge_34 (by decide) (fun b34 => (show False from lg_s h.nh (by have := h.nh3; omega) hj b34).elim) (fun b34 => ?_)
      refine Bd_aload_0 (pc := 37) dX7_edge_37 ?_
      refine Bd_iload_5 (pc := 38) dX7_edge_38 ?_
      refine Bd_iload_4 (pc := 40) dX7_edge_40 ?_
      refine Bd_iload_1 (pc := 42) dX7_edge_42 ?_
      refine Bd_callV3i (cd := mX7_comesBy) (pc := 43) dX7_edge_43 k_530 v_X7_comesBy ⟨(Nat.le_of_ble_eq_true rfl), (Nat.le_of_ble_eq_true rfl)⟩ rfl rfl (sem_X7_comesBy (i := i) (way := j) (by have := h.nb24; omega) (by have := h.nh3; omega) (h.bt6 hi)) (Nat.le_of_ble_eq_true rfl) ?_
      refine Bd_istore_6 (pc := 46) dX7_edge_46 (Nat.le_of_ble_eq_true rfl) rfl ?_
      refine Bd_iload_2 (pc := 48) dX7_edge_48 ?_
      refine Bd_if_eq (t := 61) (pc := 49) dX7_edge_49 (by decide) (fun b49 => ?_) (fun b49 => ?_)
      · refine Bd_iload_3 (pc := 61) dX7_edge_61 ?_
        refine Bd_iload_6 (pc := 62) dX7_edge_62 ?_
        refine Bd_mmin (pc := 64) dX7_edge_64 k_543 k_544 k_14 k_545 (Nat.le_of_ble_eq_true rfl) (Nat.le_of_ble_eq_true rfl) ?_
        refine Bd_istore_3 (pc := 67) dX7_edge_67 (Nat.le_of_ble_eq_true rfl) rfl ?_
        refine Bd_iinc_5 (pc := 68) dX7_edge_68 (show _ + Int32.ofInt 1 = _ + 1 from rfl) (Nat.le_of_ble_eq_true rfl) rfl ?_
        refine Bd_goto (t := 25) (pc := 71) dX7_edge_71 (by decide) ?_
        exact Bd_nx (ihj trivial) (by simp [wkP, egW, mxF, mnF, nI_succ, b49])
      · refine Bd_iload_3 (pc := 52) dX7_edge_52 ?_
        refine Bd_iload_6 (pc := 53) dX7_edge_53 ?_
        refine Bd_mmax (pc := 55) dX7_edge_55 k_542 k_494 k_14 k_495 (Nat.le_of_ble_eq_true rfl) (Nat.le_of_ble_eq_true rfl) ?_
        refine Bd_goto (t := 67) (pc := 58) dX7_edge_58 (by decide) ?_
        refine Bd_istore_3 (pc := 67) dX7_edge_67 (Nat.le_of_ble_eq_true rfl) rfl ?_
        refine Bd_iinc_5 (pc := 68) dX7_edge_68 (show _ + Int32.ofInt 1 = _ + 1 from rfl) (Nat.le_of_ble_eq_true rfl) rfl ?_
        refine Bd_goto (t := 25) (pc := 71) dX7_edge_71 (by decide) ?_
        exact Bd_nx (ihj trivial) (by simp [wkP, egW, mxF, mnF, nI_succ, b49])
theorem WF.nb0 {M : Mem} (h : WF M) (b : ¬ M 5 4 = 0) : 0 < cn (M 5 4) := by
  rcases Nat.eq_zero_or_pos (cn (M 5 4)) with q | q
  · exact absurd (by rw [h.nb, q]; rfl) b
  · exact q
theorem WF.nn0 {M : Mem} (h : WF M) (b : ¬ M 44 8 = 0) : 0 < cn (M 44 8) := by
  rcases Nat.eq_zero_or_pos (cn (M 44 8)) with q | q
  · exact absurd (by rw [h.nn, q]; rfl) b
  · exact q
theorem WF.nm0 {M : Mem} (h : WF M) (b : ¬ M 5 5 = 0) : 0 < cn (M 5 5) := by
  rcases Nat.eq_zero_or_pos (cn (M 5 5)) with q | q
  · exact absurd (by rw [h.nm, q]; rfl) b
  · exact q
set_option maxRecDepth 100000 in
set_option maxHeartbeats 4000000 in
theorem sem_X7_span {M : Mem} (h : WF M) {c k : Int32} : Sem mX7_span SH [.ref 0, .int c, .int k] M (PD SH (some (.int (spanV M c k))) (M)) := by
  have q1 := h.nb24
  have q2 := h.nn12
  have q3 := h.nt6
  have q4 := h.nh3
  have q5 := h.nmb
  refine Sem_of rfl (fun G => (Nat.le_of_ble_eq_true rfl)) (fun G => ?_)
  refine Bd_aload_0 (pc := 0) dX7_span_0 ?_
  refine Bd_getR (j := 8) ck7 (pc := 1) dX7_span_1 k_243 rfl (Nat.le_of_ble_eq_true rfl) rfl ?_
  refine Bd_iload_1 (pc := 4) dX7_span_4 ?_
  refine Bd_callV1i (cd := mX3_hasCell) (pc := 5) dX7_span_5 k_481 v_X3_hasCell ⟨(Nat.le_of_ble_eq_true rfl), (Nat.le_of_ble_eq_true rfl)⟩ rfl rfl sem_X3_hasCell (Nat.le_of_ble_eq_true rfl) ?_
  refine Bd_if_eq (t := 19) (pc := 8) dX7_span_8 (by decide) (fun b8 => ?_) (fun b8 => ?_)
  · refine Bd_iconst (v := -1) (pc := 19) dX7_span_19 (by decide) ?_
    refine Bd_iret (pc := 20) dX7_span_20 rfl ?_
    exact PD_i (by simp [spanV, (b2_0.mp b8)]) rfl
  · refine Bd_iload_2 (pc := 11) dX7_span_11 ?_
    refine Bd_iconst (v := 3) (pc := 12) dX7_span_12 (by decide) ?_
    refine Bd_callS2i (cd := mX7_isWithin) (pc := 13) dX7_span_13 k_448 v_X7_isWithin ⟨(Nat.le_of_ble_eq_true rfl), (Nat.le_of_ble_eq_true rfl)⟩ sem_X7_isWithin (Nat.le_of_ble_eq_true rfl) ?_
    refine Bd_if_ne (t := 21) (pc := 16) dX7_span_16 (by decide) (fun b16 => ?_) (fun b16 => ?_)
    · refine Bd_iload_2 (pc := 21) dX7_span_21 ?_
      refine Bd_iconst (v := 2) (pc := 22) dX7_span_22 (by decide) ?_
      refine Bd_icmp_ne (t := 44) (pc := 23) dX7_span_23 (by decide) (fun b23 => ?_) (fun b23 => ?_)
      · refine Bd_aload_0 (pc := 44) dX7_span_44 ?_
        refine Bd_getR (j := 2) ck7 (pc := 45) dX7_span_45 k_237 rfl (Nat.le_of_ble_eq_true rfl) rfl ?_
        refine Bd_getI (j := 4) ck0 (pc := 48) dX7_span_48 k_92 rfl (Nat.le_of_ble_eq_true rfl) rfl ?_
        refine Bd_if_ne (t := 59) (pc := 51) dX7_span_51 (by decide) (fun b51 => ?_) (fun b51 => ?_)
        · refine Bd_aload_0 (pc := 59) dX7_span_59 ?_
          refine Bd_iload_1 (pc := 60) dX7_span_60 ?_
          refine Bd_iload_2 (pc := 61) dX7_span_61 ?_
          refine Bd_iconst (v := 1) (pc := 62) dX7_span_62 (by decide) ?_
          refine Bd_icmp_ne (t := 70) (pc := 63) dX7_span_63 (by decide) (fun b63 => ?_) (fun b63 => ?_)
          · refine Bd_iconst (v := 0) (pc := 70) dX7_span_70 (by decide) ?_
            refine Bd_callV2i (cd := mX7_edge) (pc := 71) dX7_span_71 k_538 v_X7_edge ⟨(Nat.le_of_ble_eq_true rfl), (Nat.le_of_ble_eq_true rfl)⟩ rfl rfl (sem_X7_edge h (h.nb0 b51)) (Nat.le_of_ble_eq_true rfl) ?_
            refine Bd_iret (pc := 74) dX7_span_74 rfl ?_
            exact PD_i (by simp [spanV, (b2_n.mp b8), (b2_n.mp b16), b23, b51, b63]) rfl
          · refine Bd_iconst (v := 1) (pc := 66) dX7_span_66 (by decide) ?_
            refine Bd_goto (t := 71) (pc := 67) dX7_span_67 (by decide) ?_
            refine Bd_callV2i (cd := mX7_edge) (pc := 71) dX7_span_71 k_538 v_X7_edge ⟨(Nat.le_of_ble_eq_true rfl), (Nat.le_of_ble_eq_true rfl)⟩ rfl rfl (sem_X7_edge h (h.nb0 b51)) (Nat.le_of_ble_eq_true rfl) ?_
            refine Bd_iret (pc := 74) dX7_span_74 rfl ?_
            exact PD_i (by simp [spanV, (b2_n.mp b8), (b2_n.mp b16), b23, b51, b63]) rfl
        · refine Bd_bipush (v := -4) (pc := 54) dX7_span_54 (by decide) ?_
          refine Bd_goto (t := 74) (pc := 56) dX7_span_56 (by decide) ?_
          refine Bd_iret (pc := 74) dX7_span_74 rfl ?_
          exact PD_i (by simp [spanV, (b2_n.mp b8), (b2_n.mp b16), b23, b51]) rfl
      · refine Bd_aload_0 (pc := 26) dX7_span_26 ?_
        refine Bd_getR (j := 2) ck7 (pc := 27) dX7_span_27 k_237 rfl (Nat.le_of_ble_eq_true rfl) rfl ?_
        refine Bd_getI (j := 4) ck0 (pc := 30) dX7_span_30 k_92 rfl (Nat.le_of_ble_eq_true rfl) rfl ?_
        refine Bd_iconst (v := 1) (pc := 33) dX7_span_33 (by decide) ?_
        refine Bd_aload_0 (pc := 34) dX7_span_34 ?_
        refine Bd_getR (j := 8) ck7 (pc := 35) dX7_span_35 k_243 rfl (Nat.le_of_ble_eq_true rfl) rfl ?_
        refine Bd_getI (j := 7) ck3 (pc := 38) dX7_span_38 k_167 rfl (Nat.le_of_ble_eq_true rfl) rfl ?_
        refine Bd_iadd (pc := 41) dX7_span_41 ?_
        refine Bd_imul (pc := 42) dX7_span_42 ?_
        refine Bd_iret (pc := 43) dX7_span_43 rfl ?_
        exact PD_i (by simp [spanV, (b2_n.mp b8), (b2_n.mp b16), b23]) rfl
    · refine Bd_iconst (v := -1) (pc := 19) dX7_span_19 (by decide) ?_
      refine Bd_iret (pc := 20) dX7_span_20 rfl ?_
      exact PD_i (by simp [spanV, (b2_n.mp b8), (b2_0.mp b16)]) rfl
def stF (M : Mem) (tone c : Int32) : Nat → Int32 × Int32
  | 0 => (-4, 1000000)
  | t + 1 => if hpN M t tone then if (stF M tone c t).2 ≤ sdF M (M 46 t) c then stF M tone c t else (nI t, sdF M (M 46 t) c) else stF M tone c t
set_option maxRecDepth 100000 in
set_option maxHeartbeats 4000000 in
theorem sem_X7_soonestTower {M : Mem} {tone c : Int32} {n : Nat} (hn : M 44 6 = nI n) (h6 : n ≤ 6) : Sem mX7_soonestTower SH [.ref 0, .int tone, .int c] M (PD SH (some (.int ((stF M tone c n).1))) (M)) := by
  refine Sem_of rfl (fun G => (Nat.le_of_ble_eq_true rfl)) (fun G => ?_)
  refine Bd_bipush (v := -4) (pc := 0) dX7_soonestTower_0 (by decide) ?_
  refine Bd_istore_3 (pc := 2) dX7_soonestTower_2 (Nat.le_of_ble_eq_true rfl) rfl ?_
  refine Bd_ldc k_554 (pc := 3) dX7_soonestTower_3 ?_
  refine Bd_istore_4 (pc := 5) dX7_soonestTower_5 (Nat.le_of_ble_eq_true rfl) rfl ?_
  refine Bd_iconst (v := 0) (pc := 7) dX7_soonestTower_7 (by decide) ?_
  refine Bd_istore_5 (pc := 8) dX7_soonestTower_8 (Nat.le_of_ble_eq_true rfl) rfl ?_
  refine Bd_nx (L' := (fun i => [some (.ref 0), some (.int tone), some (.int c), some (.int (stF M tone c i).1), some (.int (stF M tone c i).2), some (.int (nI i))]) 0) ?_ (by repeat (first | exact True.intro | refine And.intro rfl ?_))
  refine Bd_for (pc := 10) (c := n) (fun i => [some (.ref 0), some (.int tone), some (.int c), some (.int (stF M tone c i).1), some (.int (stF M tone c i).2), some (.int (nI i))]) (fun _ => M) (fun _ => True) (fun ivi => ?_) (fun i hi ivi ihi => ?_) trivial
  · refine Bd_iload_5 (pc := 10) dX7_soonestTower_10 ?_
    refine Bd_aload_0 (pc := 12) dX7_soonestTower_12 ?_
    refine Bd_getR (j := 8) ck7 (pc := 13) dX7_soonestTower_13 k_243 rfl (Nat.le_of_ble_eq_true rfl) rfl ?_
    refine Bd_getI (j := 6) ck3 (pc := 16) dX7_soonestTower_16 k_165 rfl (Nat.le_of_ble_eq_true rfl) rfl ?_
    refine Bd_icmp_ge (t := 71) (pc := 19) dX7_soonestTower_19 (by decide) (fun b19 => ?_) (fun b19 => (show False from lf_x hn b19).elim)
    refine Bd_iload_3 (pc := 71) dX7_soonestTower_71 ?_
    refine Bd_iret (pc := 72) dX7_soonestTower_72 rfl ?_
    exact PD_i rfl rfl
  · refine Bd_iload_5 (pc := 10) dX7_soonestTower_10 ?_
    refine Bd_aload_0 (pc := 12) dX7_soonestTower_12 ?_
    refine Bd_getR (j := 8) ck7 (pc := 13) dX7_soonestTower_13 k_243 rfl (Nat.le_of_ble_eq_true rfl) rfl ?_
    refine Bd_getI (j := 6) ck3 (pc := 16) dX7_soonestTower_16 k_165 rfl (Nat.le_of_ble_eq_true rfl) rfl ?_
    refine Bd_icmp_ge (t := 71) (pc := 19) dX7_soonestTower_19 (by decide) (fun b19 => (show False from lf_s hn (by omega) hi b19).elim) (fun b19 => ?_)
    refine Bd_aload_0 (pc := 22) dX7_soonestTower_22 ?_
    refine Bd_getR (j := 8) ck7 (pc := 23) dX7_soonestTower_23 k_243 rfl (Nat.le_of_ble_eq_true rfl) rfl ?_
    refine Bd_iload_5 (pc := 26) dX7_soonestTower_26 ?_
    refine Bd_iload_1 (pc := 28) dX7_soonestTower_28 ?_
    refine Bd_callV2i (cd := mX3_hasPipe) (pc := 29) dX7_soonestTower_29 k_506 v_X3_hasPipe ⟨(Nat.le_of_ble_eq_true rfl), (Nat.le_of_ble_eq_true rfl)⟩ rfl rfl (sem_hpN (t := i) (by omega)) (Nat.le_of_ble_eq_true rfl) ?_
    refine Bd_if_eq (t := 65) (pc := 32) dX7_soonestTower_32 (by decide) (fun b32 => ?_) (fun b32 => ?_)
    · refine Bd_iinc_5 (pc := 65) dX7_soonestTower_65 (show _ + Int32.ofInt 1 = _ + 1 from rfl) (Nat.le_of_ble_eq_true rfl) rfl ?_
      refine Bd_goto (t := 10) (pc := 68) dX7_soonestTower_68 (by decide) ?_
      exact Bd_nx (ihi trivial) (by simp [wkP, stF, nI_succ, (b2_0.mp b32)])
    · refine Bd_aload_0 (pc := 35) dX7_soonestTower_35 ?_
      refine Bd_getR (j := 8) ck7 (pc := 36) dX7_soonestTower_36 k_243 rfl (Nat.le_of_ble_eq_true rfl) rfl ?_
      refine Bd_iload_5 (pc := 39) dX7_soonestTower_39 ?_
      refine Bd_iload_2 (pc := 41) dX7_soonestTower_41 ?_
      refine Bd_callV2i (cd := mX3_soundOf) (pc := 42) dX7_soonestTower_42 k_555 v_X3_soundOf ⟨(Nat.le_of_ble_eq_true rfl), (Nat.le_of_ble_eq_true rfl)⟩ rfl rfl (sem_sdN (t := i) (by omega)) (Nat.le_of_ble_eq_true rfl) ?_
      refine Bd_iload_4 (pc := 45) dX7_soonestTower_45 ?_
      refine Bd_icmp_ge (t := 65) (pc := 47) dX7_soonestTower_47 (by decide) (fun b47 => ?_) (fun b47 => ?_)
      · refine Bd_iinc_5 (pc := 65) dX7_soonestTower_65 (show _ + Int32.ofInt 1 = _ + 1 from rfl) (Nat.le_of_ble_eq_true rfl) rfl ?_
        refine Bd_goto (t := 10) (pc := 68) dX7_soonestTower_68 (by decide) ?_
        exact Bd_nx (ihi trivial) (by simp [wkP, stF, nI_succ, (b2_n.mp b32), b47])
      · refine Bd_aload_0 (pc := 50) dX7_soonestTower_50 ?_
        refine Bd_getR (j := 8) ck7 (pc := 51) dX7_soonestTower_51 k_243 rfl (Nat.le_of_ble_eq_true rfl) rfl ?_
        refine Bd_iload_5 (pc := 54) dX7_soonestTower_54 ?_
        refine Bd_iload_2 (pc := 56) dX7_soonestTower_56 ?_
        refine Bd_callV2i (cd := mX3_soundOf) (pc := 57) dX7_soonestTower_57 k_555 v_X3_soundOf ⟨(Nat.le_of_ble_eq_true rfl), (Nat.le_of_ble_eq_true rfl)⟩ rfl rfl (sem_sdN (t := i) (by omega)) (Nat.le_of_ble_eq_true rfl) ?_
        refine Bd_istore_4 (pc := 60) dX7_soonestTower_60 (Nat.le_of_ble_eq_true rfl) rfl ?_
        refine Bd_iload_5 (pc := 62) dX7_soonestTower_62 ?_
        refine Bd_istore_3 (pc := 64) dX7_soonestTower_64 (Nat.le_of_ble_eq_true rfl) rfl ?_
        refine Bd_iinc_5 (pc := 65) dX7_soonestTower_65 (show _ + Int32.ofInt 1 = _ + 1 from rfl) (Nat.le_of_ble_eq_true rfl) rfl ?_
        refine Bd_goto (t := 10) (pc := 68) dX7_soonestTower_68 (by decide) ?_
        exact Bd_nx (ihi trivial) (by simp [wkP, stF, nI_succ, (b2_n.mp b32), b47])
def lcG (M : Mem) (ch : Nat → Int32) (c : Int32) : Nat → Int32
  | 0 => 0
  | i + 1 => mxF (lcG M ch c i) (sdF M (M 46 (cn (ch i))) c - M 49 i)
def bcM (M : Mem) (c l : Int32) : Nat → Mem
  | 0 => updM (updM M 5 4 0) 5 5 0
  | i + 1 => adF (bcM M c l i) i (bcM M c l i 43 i) (bcM M c l i 49 i + l - sdF (bcM M c l i) (bcM M c l i 46 (cn (bcM M c l i 43 i))) c) (bcM M c l i 50 i)
theorem adF_ne {M : Mem} {n k : Nat} {t b o : Int32} (h5 : k ≠ 5) (h6 : k ≠ 6) (h7 : k ≠ 7) (h8 : k ≠ 8) : adF M n t b o k = M k := by
  unfold adF; rw [updM_ne h5, updM_ne h8, updM_ne h7, updM_ne h6]
theorem bcM_ne {M : Mem} {c l : Int32} {k : Nat} (h5 : k ≠ 5) (h6 : k ≠ 6) (h7 : k ≠ 7) (h8 : k ≠ 8) : ∀ i, bcM M c l i k = M k
  | 0 => by unfold bcM; rw [updM_ne h5, updM_ne h5]
  | i + 1 => by unfold bcM; rw [adF_ne h5 h6 h7 h8]; exact bcM_ne h5 h6 h7 h8 i
theorem bcM_c {M : Mem} {c l : Int32} : ∀ i, bcM M c l i 5 4 = nI i
  | 0 => rfl
  | i + 1 => by unfold bcM adF; rw [updM_eq]; rfl
theorem bcM_m {M : Mem} {c l : Int32} : ∀ i, bcM M c l i 5 5 = 0
  | 0 => rfl
  | i + 1 => (show bcM M c l (i + 1) 5 5 = bcM M c l i 5 5 from rfl).trans (bcM_m i)
theorem sdF_c {M N : Mem} (h : N 45 = M 45) (a b : Int32) : sdF N a b = sdF M a b := by unfold sdF; rw [h]
theorem bcM_v {M : Mem} {c l : Int32} : ∀ i j, j < i → bcM M c l i 6 j = M 43 j ∧ bcM M c l i 7 j = M 49 j + l - sdF M (M 46 (cn (M 43 j))) c ∧ bcM M c l i 8 j = M 50 j
  | 0, j, h => absurd h (Nat.not_lt_zero j)
  | i + 1, j, h => by
    have e : ∀ k, k ≠ 5 → k ≠ 6 → k ≠ 7 → k ≠ 8 → bcM M c l i k = M k := fun k a b c2 d => bcM_ne a b c2 d i
    have e6 : bcM M c l (i + 1) 6 = upd (bcM M c l i 6) i (M 43 i) := by
      show adF _ _ _ _ _ 6 = _
      unfold adF; rw [updM_ne (by decide), updM_ne (by decide), updM_ne (by decide), updM_eq, e 43 (by decide) (by decide) (by decide) (by decide)]
    have e7 : bcM M c l (i + 1) 7 = upd (bcM M c l i 7) i (M 49 i + l - sdF M (M 46 (cn (M 43 i))) c) := by
      show adF _ _ _ _ _ 7 = _
      unfold adF; rw [updM_ne (by decide), updM_ne (by decide), updM_eq, updM_ne (by decide), e 43 (by decide) (by decide) (by decide) (by decide), e 49 (by decide) (by decide) (by decide) (by decide), e 46 (by decide) (by decide) (by decide) (by decide), sdF_c (e 45 (by decide) (by decide) (by decide) (by decide))]
    have e8 : bcM M c l (i + 1) 8 = upd (bcM M c l i 8) i (M 50 i) := by
      show adF _ _ _ _ _ 8 = _
      unfold adF; rw [updM_ne (by decide), updM_eq, updM_ne (by decide), updM_ne (by decide), e 50 (by decide) (by decide) (by decide) (by decide)]
    rw [e6, e7, e8]
    by_cases hj : j = i
    · subst hj; simp [upd]
    · have ih := bcM_v (M := M) (c := c) (l := l) i j (by omega)
      simp only [upd, if_neg hj]
      exact ih
/-- BLOWS of the towers ch, right at c -/
def PU (M : Mem) (ch : Nat → Int32) (c : Int32) (N : Mem) : Prop := N 5 4 = M 44 8 ∧ N 5 5 = 0 ∧ (∀ i, i < cn (M 44 8) → N 6 i = ch i ∧ N 7 i = M 49 i + lcG M ch c (cn (M 44 8)) - sdF M (M 46 (cn (ch i))) c ∧ N 8 i = M 50 i) ∧ ∀ k, k ≠ 5 → k ≠ 6 → k ≠ 7 → k ≠ 8 → k ≠ 43 → N k = M k
set_option maxRecDepth 100000 in
set_option maxHeartbeats 4000000 in
theorem sem_X7_blowChosen {M : Mem} {c : Int32} {n : Nat} (hn : M 44 8 = nI n) (h12 : n ≤ 12) (hch : ∀ i, i < n → vp_in (M 43 i) 6) : Sem mX7_blowChosen SH [.ref 0, .int c] M (RI SH (fun r N => r = lcG M (M 43) c n ∧ PU M (M 43) c N)) := by
  refine Sem_of rfl (fun G => (Nat.le_of_ble_eq_true rfl)) (fun G => ?_)
  refine Bd_iconst (v := 0) (pc := 0) dX7_blowChosen_0 (by decide) ?_
  refine Bd_istore_2 (pc := 1) dX7_blowChosen_1 (Nat.le_of_ble_eq_true rfl) rfl ?_
  refine Bd_iconst (v := 0) (pc := 2) dX7_blowChosen_2 (by decide) ?_
  refine Bd_istore_3 (pc := 3) dX7_blowChosen_3 (Nat.le_of_ble_eq_true rfl) rfl ?_
  refine Bd_nx (L' := (fun i => [some (.ref 0), some (.int c), some (.int (lcG M (M 43) c i)), some (.int (nI i)), none]) 0) ?_ (by repeat (first | exact True.intro | refine And.intro rfl ?_))
  refine Bd_for (pc := 4) (c := n) (fun i => [some (.ref 0), some (.int c), some (.int (lcG M (M 43) c i)), some (.int (nI i)), none]) (fun _ => M) (fun _ => True) (fun ivi => ?_) (fun i hi ivi ihi => ?_) trivial
  · refine Bd_iload_3 (pc := 4) dX7_blowChosen_4 ?_
    refine Bd_aload_0 (pc := 5) dX7_blowChosen_5 ?_
    refine Bd_getR (j := 8) ck7 (pc := 6) dX7_blowChosen_6 k_243 rfl (Nat.le_of_ble_eq_true rfl) rfl ?_
    refine Bd_getI (j := 8) ck3 (pc := 9) dX7_blowChosen_9 k_171 rfl (Nat.le_of_ble_eq_true rfl) rfl ?_
    refine Bd_icmp_ge (t := 50) (pc := 12) dX7_blowChosen_12 (by decide) (fun b12 => ?_) (fun b12 => (show False from lf_x hn b12).elim)
    refine Bd_aload_0 (pc := 50) dX7_blowChosen_50 ?_
    refine Bd_getR (j := 2) ck7 (pc := 51) dX7_blowChosen_51 k_237 rfl (Nat.le_of_ble_eq_true rfl) rfl ?_
    refine Bd_callV0v (cd := mX0_clear) (pc := 54) dX7_blowChosen_54 k_436 v_X0_clear ⟨(Nat.le_of_ble_eq_true rfl), (Nat.le_of_ble_eq_true rfl)⟩ rfl rfl sem_X0_clear (Nat.le_of_ble_eq_true rfl) ?_
    refine Bd_iconst (v := 0) (pc := 57) dX7_blowChosen_57 (by decide) ?_
    refine Bd_istore_3 (pc := 58) dX7_blowChosen_58 (Nat.le_of_ble_eq_true rfl) rfl ?_
    refine Bd_nx (L' := (fun i => [some (.ref 0), some (.int c), some (.int (lcG M (M 43) c n)), some (.int (nI i)), none]) 0) ?_ (by repeat (first | exact True.intro | refine And.intro rfl ?_))
    refine Bd_for (pc := 59) (c := n) (fun i => [some (.ref 0), some (.int c), some (.int (lcG M (M 43) c n)), some (.int (nI i)), none]) (fun i => bcM M c (lcG M (M 43) c n) i) (fun _ => True) (fun ivi => ?_) (fun i hi ivi ihi => ?_) trivial
    · refine Bd_iload_3 (pc := 59) dX7_blowChosen_59 ?_
      refine Bd_aload_0 (pc := 60) dX7_blowChosen_60 ?_
      refine Bd_getR (j := 8) ck7 (pc := 61) dX7_blowChosen_61 k_243 rfl (Nat.le_of_ble_eq_true rfl) rfl ?_
      refine Bd_getI (j := 8) ck3 (pc := 64) dX7_blowChosen_64 k_171 rfl (Nat.le_of_ble_eq_true rfl) rfl ?_
      refine Bd_icmp_ge (t := 129) (pc := 67) dX7_blowChosen_67 (by decide) (fun b67 => ?_) (fun b67 => (show False from lf_x (show _ = nI n by rw [bcM_ne (by decide) (by decide) (by decide) (by decide)]; exact hn) b67).elim)
      refine Bd_iload_2 (pc := 129) dX7_blowChosen_129 ?_
      refine Bd_iret (pc := 130) dX7_blowChosen_130 rfl ?_
      exact ⟨_, rfl, rfl, rfl, by rw [bcM_c]; exact hn.symm, bcM_m n, fun i hi => by have hc : cn (M 44 8) = n := by { rw [hn]; exact nI_clamp (by omega) }; rw [hc] at hi ⊢; exact bcM_v n i hi, fun k h5 h6 h7 h8 _ => bcM_ne h5 h6 h7 h8 n⟩
    · refine Bd_iload_3 (pc := 59) dX7_blowChosen_59 ?_
      refine Bd_aload_0 (pc := 60) dX7_blowChosen_60 ?_
      refine Bd_getR (j := 8) ck7 (pc := 61) dX7_blowChosen_61 k_243 rfl (Nat.le_of_ble_eq_true rfl) rfl ?_
      refine Bd_getI (j := 8) ck3 (pc := 64) dX7_blowChosen_64 k_171 rfl (Nat.le_of_ble_eq_true rfl) rfl ?_
      refine Bd_icmp_ge (t := 129) (pc := 67) dX7_blowChosen_67 (by decide) (fun b67 => (show False from lf_s (show _ = nI n by rw [bcM_ne (by decide) (by decide) (by decide) (by decide)]; exact hn) (by omega) hi b67).elim) (fun b67 => ?_)
      refine Bd_aload_0 (pc := 70) dX7_blowChosen_70 ?_
      refine Bd_getR (j := 8) ck7 (pc := 71) dX7_blowChosen_71 k_243 rfl (Nat.le_of_ble_eq_true rfl) rfl ?_
      refine Bd_getR (j := 4) ck3 (pc := 74) dX7_blowChosen_74 k_160 rfl (Nat.le_of_ble_eq_true rfl) rfl ?_
      refine Bd_iload_3 (pc := 77) dX7_blowChosen_77 ?_
      refine Bd_ialdc (j := i) (nI_clamp (by omega)) (pc := 78) dX7_blowChosen_78 rfl (vpi (by omega) (by omega)) ?_
      refine Bd_iload_2 (pc := 79) dX7_blowChosen_79 ?_
      refine Bd_iadd (pc := 80) dX7_blowChosen_80 ?_
      refine Bd_aload_0 (pc := 81) dX7_blowChosen_81 ?_
      refine Bd_getR (j := 8) ck7 (pc := 82) dX7_blowChosen_82 k_243 rfl (Nat.le_of_ble_eq_true rfl) rfl ?_
      refine Bd_aload_0 (pc := 85) dX7_blowChosen_85 ?_
      refine Bd_getR (j := 7) ck7 (pc := 86) dX7_blowChosen_86 k_242 rfl (Nat.le_of_ble_eq_true rfl) rfl ?_
      refine Bd_iload_3 (pc := 89) dX7_blowChosen_89 ?_
      refine Bd_ialdc (j := i) (nI_clamp (by omega)) (pc := 90) dX7_blowChosen_90 rfl (vpi (by omega) (by omega)) ?_
      refine Bd_iload_1 (pc := 91) dX7_blowChosen_91 ?_
      refine Bd_callV2i (cd := mX3_soundOf) (pc := 92) dX7_blowChosen_92 k_555 v_X3_soundOf ⟨(Nat.le_of_ble_eq_true rfl), (Nat.le_of_ble_eq_true rfl)⟩ rfl rfl (sem_X3_soundOf (by rw [bcM_ne (by decide) (by decide) (by decide) (by decide)]; exact hch i hi)) (Nat.le_of_ble_eq_true rfl) ?_
      refine Bd_isub (pc := 95) dX7_blowChosen_95 ?_
      refine Bd_istore_4 (pc := 96) dX7_blowChosen_96 (Nat.le_of_ble_eq_true rfl) rfl ?_
      refine Bd_aload_0 (pc := 98) dX7_blowChosen_98 ?_
      refine Bd_getR (j := 2) ck7 (pc := 99) dX7_blowChosen_99 k_237 rfl (Nat.le_of_ble_eq_true rfl) rfl ?_
      refine Bd_aload_0 (pc := 102) dX7_blowChosen_102 ?_
      refine Bd_getR (j := 7) ck7 (pc := 103) dX7_blowChosen_103 k_242 rfl (Nat.le_of_ble_eq_true rfl) rfl ?_
      refine Bd_iload_3 (pc := 106) dX7_blowChosen_106 ?_
      refine Bd_ialdc (j := i) (nI_clamp (by omega)) (pc := 107) dX7_blowChosen_107 rfl (vpi (by omega) (by omega)) ?_
      refine Bd_iload_4 (pc := 108) dX7_blowChosen_108 ?_
      refine Bd_aload_0 (pc := 110) dX7_blowChosen_110 ?_
      refine Bd_getR (j := 8) ck7 (pc := 111) dX7_blowChosen_111 k_243 rfl (Nat.le_of_ble_eq_true rfl) rfl ?_
      refine Bd_getR (j := 5) ck3 (pc := 114) dX7_blowChosen_114 k_162 rfl (Nat.le_of_ble_eq_true rfl) rfl ?_
      refine Bd_iload_3 (pc := 117) dX7_blowChosen_117 ?_
      refine Bd_ialdc (j := i) (nI_clamp (by omega)) (pc := 118) dX7_blowChosen_118 rfl (vpi (by omega) (by omega)) ?_
      refine Bd_callV3i (cd := mX0_add) (pc := 119) dX7_blowChosen_119 k_510 v_X0_add ⟨(Nat.le_of_ble_eq_true rfl), (Nat.le_of_ble_eq_true rfl)⟩ rfl rfl (sem_X0_add (bcM_c i) (by omega)) (Nat.le_of_ble_eq_true rfl) ?_
      refine Bd_pop (pc := 122) dX7_blowChosen_122 rfl ?_
      refine Bd_iinc_3 (pc := 123) dX7_blowChosen_123 (show _ + Int32.ofInt 1 = _ + 1 from rfl) (Nat.le_of_ble_eq_true rfl) rfl ?_
      refine Bd_goto (t := 59) (pc := 126) dX7_blowChosen_126 (by decide) ?_
      exact Bd_nx (ihi trivial) (by simp [wkP, nI_succ])
  · refine Bd_iload_3 (pc := 4) dX7_blowChosen_4 ?_
    refine Bd_aload_0 (pc := 5) dX7_blowChosen_5 ?_
    refine Bd_getR (j := 8) ck7 (pc := 6) dX7_blowChosen_6 k_243 rfl (Nat.le_of_ble_eq_true rfl) rfl ?_
    refine Bd_getI (j := 8) ck3 (pc := 9) dX7_blowChosen_9 k_171 rfl (Nat.le_of_ble_eq_true rfl) rfl ?_
    refine Bd_icmp_ge (t := 50) (pc := 12) dX7_blowChosen_12 (by decide) (fun b12 => (show False from lf_s hn (by omega) hi b12).elim) (fun b12 => ?_)
    refine Bd_iload_2 (pc := 15) dX7_blowChosen_15 ?_
    refine Bd_aload_0 (pc := 16) dX7_blowChosen_16 ?_
    refine Bd_getR (j := 8) ck7 (pc := 17) dX7_blowChosen_17 k_243 rfl (Nat.le_of_ble_eq_true rfl) rfl ?_
    refine Bd_aload_0 (pc := 20) dX7_blowChosen_20 ?_
    refine Bd_getR (j := 7) ck7 (pc := 21) dX7_blowChosen_21 k_242 rfl (Nat.le_of_ble_eq_true rfl) rfl ?_
    refine Bd_iload_3 (pc := 24) dX7_blowChosen_24 ?_
    refine Bd_ialdc (j := i) (nI_clamp (by omega)) (pc := 25) dX7_blowChosen_25 rfl (vpi (by omega) (by omega)) ?_
    refine Bd_iload_1 (pc := 26) dX7_blowChosen_26 ?_
    refine Bd_callV2i (cd := mX3_soundOf) (pc := 27) dX7_blowChosen_27 k_555 v_X3_soundOf ⟨(Nat.le_of_ble_eq_true rfl), (Nat.le_of_ble_eq_true rfl)⟩ rfl rfl (sem_X3_soundOf (hch i hi)) (Nat.le_of_ble_eq_true rfl) ?_
    refine Bd_aload_0 (pc := 30) dX7_blowChosen_30 ?_
    refine Bd_getR (j := 8) ck7 (pc := 31) dX7_blowChosen_31 k_243 rfl (Nat.le_of_ble_eq_true rfl) rfl ?_
    refine Bd_getR (j := 4) ck3 (pc := 34) dX7_blowChosen_34 k_160 rfl (Nat.le_of_ble_eq_true rfl) rfl ?_
    refine Bd_iload_3 (pc := 37) dX7_blowChosen_37 ?_
    refine Bd_ialdc (j := i) (nI_clamp (by omega)) (pc := 38) dX7_blowChosen_38 rfl (vpi (by omega) (by omega)) ?_
    refine Bd_isub (pc := 39) dX7_blowChosen_39 ?_
    refine Bd_mmax (pc := 40) dX7_blowChosen_40 k_542 k_494 k_14 k_495 (Nat.le_of_ble_eq_true rfl) (Nat.le_of_ble_eq_true rfl) ?_
    refine Bd_istore_2 (pc := 43) dX7_blowChosen_43 (Nat.le_of_ble_eq_true rfl) rfl ?_
    refine Bd_iinc_3 (pc := 44) dX7_blowChosen_44 (show _ + Int32.ofInt 1 = _ + 1 from rfl) (Nat.le_of_ble_eq_true rfl) rfl ?_
    refine Bd_goto (t := 4) (pc := 47) dX7_blowChosen_47 (by decide) ?_
    exact Bd_nx (ihi trivial) (by simp [wkP, lcG, mxF, nI_succ, b12])
def chF (M : Mem) (c : Int32) (i : Nat) : Int32 := (stF M (M 50 i) c (cn (M 44 6))).1
def psM (M : Mem) (c : Int32) : Nat → Mem
  | 0 => M
  | i + 1 => updM (psM M c i) 43 i (stF (psM M c i) (psM M c i 50 i) c (cn (M 44 6))).1
theorem psM_ne {M : Mem} {c : Int32} {k : Nat} (h : k ≠ 43) : ∀ i, psM M c i k = M k
  | 0 => rfl
  | i + 1 => by unfold psM; rw [updM_ne h]; exact psM_ne h i
theorem stF_c {M N : Mem} (h45 : N 45 = M 45) (h46 : N 46 = M 46) (h47 : N 47 = M 47) (tone c : Int32) : ∀ n, stF N tone c n = stF M tone c n
  | 0 => rfl
  | n + 1 => by unfold stF hpN; rw [stF_c h45 h46 h47 tone c n, sdF_c h45, h46, h47]
theorem psM_s {M : Mem} {c : Int32} (i : Nat) : (stF (psM M c i) (psM M c i 50 i) c (cn (M 44 6))).1 = chF M c i := by
  unfold chF; rw [stF_c (psM_ne (by decide) i) (psM_ne (by decide) i) (psM_ne (by decide) i), psM_ne (by decide) i]
theorem psM_v {M : Mem} {c : Int32} : ∀ i j, j < i → psM M c i 43 j = chF M c j
  | 0, j, h => absurd h (Nat.not_lt_zero j)
  | i + 1, j, h => by
    unfold psM; rw [updM_eq, psM_s i]
    by_cases hj : j = i
    · subst hj; simp [upd]
    · simp only [upd, if_neg hj]; exact psM_v i j (by omega)
theorem stF_r (M : Mem) (tone c : Int32) : ∀ n, n ≤ 6 → (stF M tone c n).1 = -4 ∨ ∃ t, t < n ∧ (stF M tone c n).1 = nI t
  | 0, _ => Or.inl rfl
  | n + 1, h => by
    have ih := stF_r M tone c n (by omega)
    have ih' : (stF M tone c n).1 = -4 ∨ ∃ t, t < n + 1 ∧ (stF M tone c n).1 = nI t := ih.imp id (fun ⟨t, h1, h2⟩ => ⟨t, by omega, h2⟩)
    unfold stF
    split
    · split
      · exact ih'
      · exact Or.inr ⟨n, by omega, rfl⟩
    · exact ih'
theorem chF_vp {M : Mem} (h : WF M) {c : Int32} {i : Nat} (h0 : 0 ≤ chF M c i) : ∃ t, t < cn (M 44 6) ∧ chF M c i = nI t := by
  rcases stF_r M (M 50 i) c (cn (M 44 6)) h.nt6 with q | q
  · unfold chF at h0; rw [q] at h0; exact absurd h0 (by decide)
  · exact q
theorem lcG_c {M N : Mem} {a b : Nat → Int32} {c : Int32} (h45 : N 45 = M 45) (h46 : N 46 = M 46) (h49 : N 49 = M 49) : ∀ n, (∀ i, i < n → a i = b i) → lcG N a c n = lcG M b c n
  | 0, _ => rfl
  | n + 1, h => by unfold lcG; rw [lcG_c h45 h46 h49 n (fun i hi => h i (by omega)), sdF_c h45, h46, h49, h n (by omega)]
theorem PU_c {M N N' : Mem} {a b : Nat → Int32} {c : Int32} (hN : ∀ k, k ≠ 43 → N k = M k) (h : ∀ i, i < cn (M 44 8) → a i = b i) (hp : PU N a c N') : PU M b c N' := by
  obtain ⟨h1, h2, h3, h4⟩ := hp
  have e : ∀ k, k ≠ 43 → N k = M k := hN
  refine ⟨by rw [h1, e 44 (by decide)], h2, fun i hi => ?_, fun k a5 a6 a7 a8 a43 => by rw [h4 k a5 a6 a7 a8 a43, e k a43]⟩
  obtain ⟨q1, q2, q3⟩ := h3 i (by rw [e 44 (by decide)]; exact hi)
  refine ⟨by rw [q1, h i hi], ?_, by rw [q3, e 50 (by decide)]⟩
  rw [q2, e 49 (by decide), e 44 (by decide), e 46 (by decide), sdF_c (e 45 (by decide)), h i hi, lcG_c (e 45 (by decide)) (e 46 (by decide)) (e 49 (by decide)) _ h]
abbrev plB (M : Mem) (c : Int32) : Prop := ∀ i, i < cn (M 44 8) → 0 ≤ chF M c i
def playsV (M : Mem) (c : Int32) : Int32 := if hcF M 45 c then if M 44 8 = 0 then -2 else if plB M c then lcG M (chF M c) c (cn (M 44 8)) else -4 else -1
def playsR (M : Mem) (c : Int32) (N : Mem) : Prop := if hcF M 45 c ∧ ¬ M 44 8 = 0 ∧ plB M c then PU M (chF M c) c N else ∀ k, k ≠ 43 → N k = M k
set_option maxRecDepth 100000 in
set_option maxHeartbeats 4000000 in
theorem sem_X7_plays {M : Mem} (h : WF M) {c : Int32} : Sem mX7_plays SH [.ref 0, .int c] M (RI SH (fun r N => r = playsV M c ∧ playsR M c N)) := by
  have q1 := h.nb24
  have q2 := h.nn12
  have q3 := h.nt6
  have q4 := h.nh3
  have q5 := h.nmb
  refine Sem_of rfl (fun G => (Nat.le_of_ble_eq_true rfl)) (fun G => ?_)
  refine Bd_aload_0 (pc := 0) dX7_plays_0 ?_
  refine Bd_getR (j := 8) ck7 (pc := 1) dX7_plays_1 k_243 rfl (Nat.le_of_ble_eq_true rfl) rfl ?_
  refine Bd_iload_1 (pc := 4) dX7_plays_4 ?_
  refine Bd_callV1i (cd := mX3_hasCell) (pc := 5) dX7_plays_5 k_481 v_X3_hasCell ⟨(Nat.le_of_ble_eq_true rfl), (Nat.le_of_ble_eq_true rfl)⟩ rfl rfl sem_X3_hasCell (Nat.le_of_ble_eq_true rfl) ?_
  refine Bd_if_ne (t := 13) (pc := 8) dX7_plays_8 (by decide) (fun b8 => ?_) (fun b8 => ?_)
  · refine Bd_aload_0 (pc := 13) dX7_plays_13 ?_
    refine Bd_getR (j := 8) ck7 (pc := 14) dX7_plays_14 k_243 rfl (Nat.le_of_ble_eq_true rfl) rfl ?_
    refine Bd_getI (j := 8) ck3 (pc := 17) dX7_plays_17 k_171 rfl (Nat.le_of_ble_eq_true rfl) rfl ?_
    refine Bd_if_ne (t := 26) (pc := 20) dX7_plays_20 (by decide) (fun b20 => ?_) (fun b20 => ?_)
    · refine Bd_iconst (v := 0) (pc := 26) dX7_plays_26 (by decide) ?_
      refine Bd_istore_2 (pc := 27) dX7_plays_27 (Nat.le_of_ble_eq_true rfl) rfl ?_
      refine Bd_for (pc := 28) (c := (cn (M 44 8))) (fun i => [some (.ref 0), some (.int c), some (.int (nI i))]) (fun i => psM M c i) (fun i => ∀ j, j < i → 0 ≤ chF M c j) (fun ivi => ?_) (fun i hi ivi ihi => ?_) (fun j hj => absurd hj (Nat.not_lt_zero j))
      · refine Bd_iload_2 (pc := 28) dX7_plays_28 ?_
        refine Bd_aload_0 (pc := 29) dX7_plays_29 ?_
        refine Bd_getR (j := 8) ck7 (pc := 30) dX7_plays_30 k_243 rfl (Nat.le_of_ble_eq_true rfl) rfl ?_
        refine Bd_getI (j := 8) ck3 (pc := 33) dX7_plays_33 k_171 rfl (Nat.le_of_ble_eq_true rfl) rfl ?_
        refine Bd_icmp_ge (t := 77) (pc := 36) dX7_plays_36 (by decide) (fun b36 => ?_) (fun b36 => (show False from lf_x (show _ = nI (cn (M 44 8)) by rw [psM_ne (by decide)]; exact h.nn) b36).elim)
        refine Bd_aload_0 (pc := 77) dX7_plays_77 ?_
        refine Bd_iload_1 (pc := 78) dX7_plays_78 ?_
        refine Bd_callV1x (cd := mX7_blowChosen) (pc := 79) dX7_plays_79 k_560 v_X7_blowChosen ⟨(Nat.le_of_ble_eq_true rfl), (Nat.le_of_ble_eq_true rfl)⟩ rfl rfl (sem_X7_blowChosen (n := cn (M 44 8)) (by rw [psM_ne (by decide)]; exact h.nn) h.nn12 (fun i hi => by rw [psM_v _ _ hi]; obtain ⟨t, h1, h2⟩ := chF_vp h (ivi i hi); rw [h2]; exact vpi (by have := h.nt6; omega) (by omega))) (Nat.le_of_ble_eq_true rfl) (fun x79 M79 e79 => ?_)
        refine Bd_iret (pc := 82) dX7_plays_82 rfl ?_
        obtain ⟨e1, e2⟩ := e79
        have hl : lcG (psM M c (cn (M 44 8))) (psM M c (cn (M 44 8)) 43) c (cn (M 44 8)) = lcG M (chF M c) c (cn (M 44 8)) := lcG_c (psM_ne (by decide) _) (psM_ne (by decide) _) (psM_ne (by decide) _) _ (fun i hi => psM_v _ _ hi)
        exact ⟨_, rfl, rfl, by rw [e1, hl, playsV, if_pos (b2_n.mp b8), if_neg b20, if_pos ivi], by rw [playsR, if_pos ⟨b2_n.mp b8, b20, ivi⟩]; exact PU_c (fun k hk => psM_ne hk _) (fun i hi => psM_v _ _ hi) e2⟩
      · refine Bd_iload_2 (pc := 28) dX7_plays_28 ?_
        refine Bd_aload_0 (pc := 29) dX7_plays_29 ?_
        refine Bd_getR (j := 8) ck7 (pc := 30) dX7_plays_30 k_243 rfl (Nat.le_of_ble_eq_true rfl) rfl ?_
        refine Bd_getI (j := 8) ck3 (pc := 33) dX7_plays_33 k_171 rfl (Nat.le_of_ble_eq_true rfl) rfl ?_
        refine Bd_icmp_ge (t := 77) (pc := 36) dX7_plays_36 (by decide) (fun b36 => (show False from lf_s (show _ = nI (cn (M 44 8)) by rw [psM_ne (by decide)]; exact h.nn) (by have := h.nn12; omega) hi b36).elim) (fun b36 => ?_)
        refine Bd_aload_0 (pc := 39) dX7_plays_39 ?_
        refine Bd_getR (j := 7) ck7 (pc := 40) dX7_plays_40 k_242 rfl (Nat.le_of_ble_eq_true rfl) rfl ?_
        refine Bd_iload_2 (pc := 43) dX7_plays_43 ?_
        refine Bd_aload_0 (pc := 44) dX7_plays_44 ?_
        refine Bd_aload_0 (pc := 45) dX7_plays_45 ?_
        refine Bd_getR (j := 8) ck7 (pc := 46) dX7_plays_46 k_243 rfl (Nat.le_of_ble_eq_true rfl) rfl ?_
        refine Bd_getR (j := 5) ck3 (pc := 49) dX7_plays_49 k_162 rfl (Nat.le_of_ble_eq_true rfl) rfl ?_
        refine Bd_iload_2 (pc := 52) dX7_plays_52 ?_
        refine Bd_ialdc (j := i) (nI_clamp (by omega)) (pc := 53) dX7_plays_53 rfl (vpi (by have := h.nn12; omega) (by omega)) ?_
        refine Bd_iload_1 (pc := 54) dX7_plays_54 ?_
        refine Bd_callV2i (cd := mX7_soonestTower) (pc := 55) dX7_plays_55 k_550 v_X7_soonestTower ⟨(Nat.le_of_ble_eq_true rfl), (Nat.le_of_ble_eq_true rfl)⟩ rfl rfl (sem_X7_soonestTower (n := cn (M 44 6)) (by rw [psM_ne (by decide)]; exact h.nt) h.nt6) (Nat.le_of_ble_eq_true rfl) ?_
        refine Bd_iastc (j := i) (nI_clamp (by omega)) (pc := 58) dX7_plays_58 rfl (vpi (by have := h.nn12; omega) (by omega)) ?_
        refine Bd_aload_0 (pc := 59) dX7_plays_59 ?_
        refine Bd_getR (j := 7) ck7 (pc := 60) dX7_plays_60 k_242 rfl (Nat.le_of_ble_eq_true rfl) rfl ?_
        refine Bd_iload_2 (pc := 63) dX7_plays_63 ?_
        refine Bd_ialdc (j := i) (nI_clamp (by omega)) (pc := 64) dX7_plays_64 rfl (vpi (by have := h.nn12; omega) (by omega)) ?_
        have hv : (updM (psM M c i) 43 i (stF (psM M c i) (psM M c i 50 i) c (cn (M 44 6))).1) 43 i = chF M c i := by rw [updM_eq, psM_s]; simp [upd]
        rw [hv]
        refine Bd_if_ge (t := 71) (pc := 65) dX7_plays_65 (by decide) (fun b65 => ?_) (fun b65 => ?_)
        · refine Bd_iinc_2 (pc := 71) dX7_plays_71 (show _ + Int32.ofInt 1 = _ + 1 from rfl) (Nat.le_of_ble_eq_true rfl) rfl ?_
          refine Bd_goto (t := 28) (pc := 74) dX7_plays_74 (by decide) ?_
          exact Bd_nx (ihi (fun j hj => by rcases Nat.lt_succ_iff_lt_or_eq.mp hj with q | q; exact ivi j q; rw [q]; exact b65)) (by simp [wkP, nI_succ])
        · refine Bd_bipush (v := -4) (pc := 68) dX7_plays_68 (by decide) ?_
          refine Bd_iret (pc := 70) dX7_plays_70 rfl ?_
          have hb : ¬ plB M c := fun q => b65 (q i hi)
          exact ⟨_, rfl, rfl, by rw [playsV, if_pos (b2_n.mp b8), if_neg b20, if_neg hb], by rw [playsR, if_neg (fun q => hb q.2.2)]; intro k hk; rw [updM_ne hk]; exact psM_ne hk i⟩
    · refine Bd_bipush (v := -2) (pc := 23) dX7_plays_23 (by decide) ?_
      refine Bd_iret (pc := 25) dX7_plays_25 rfl ?_
      exact ⟨_, rfl, rfl, by rw [playsV, if_pos (b2_n.mp b8), if_pos b20], by rw [playsR, if_neg (fun q => q.2.1 b20)]; exact fun _ _ => rfl⟩
  · refine Bd_iconst (v := -1) (pc := 11) dX7_plays_11 (by decide) ?_
    refine Bd_iret (pc := 12) dX7_plays_12 rfl ?_
    exact ⟨_, rfl, rfl, by rw [playsV, if_neg (b2_0.mp b8)], by rw [playsR, if_neg (fun q => b2_0.mp b8 q.1)]; exact fun _ _ => rfl⟩
