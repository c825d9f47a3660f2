/-! 15: the class: the psalm, watches -/
def ofF (M : Mem) (c : Int32) : Nat → Int32
  | 0 => 1000000
  | i + 1 => mnF (ofF M c i) (cmF M i c)
abbrev ofV (M : Mem) (c : Int32) : Int32 := ofF M c (cn (M 5 4)) - M 49 0
set_option maxRecDepth 100000 in
set_option maxHeartbeats 4000000 in
theorem sem_X7_offset {M : Mem} (h : WF M) {c : Int32} : Sem mX7_offset SH [.ref 0, .int c] M (PD SH (some (.int (ofV M c))) (M)) := by
  have q1 := h.nb24
  have q2 := h.nn12
  have q3 := h.nt6
  have q4 := h.nh3
  have q5 := h.nmb
  refine Sem_of rfl (fun G => (Nat.le_of_ble_eq_true rfl)) (fun G => ?_)
  refine Bd_ldc k_554 (pc := 0) dX7_offset_0 ?_
  refine Bd_istore_2 (pc := 2) dX7_offset_2 (Nat.le_of_ble_eq_true rfl) rfl ?_
  refine Bd_iconst (v := 0) (pc := 3) dX7_offset_3 (by decide) ?_
  refine Bd_istore_3 (pc := 4) dX7_offset_4 (Nat.le_of_ble_eq_true rfl) rfl ?_
  refine Bd_nx (L' := (fun i => [some (.ref 0), some (.int c), some (.int (ofF M c i)), some (.int (nI i))]) 0) ?_ (by repeat (first | exact True.intro | refine And.intro rfl ?_))
  refine Bd_for (pc := 5) (c := (cn (M 5 4))) (fun i => [some (.ref 0), some (.int c), some (.int (ofF M c i)), some (.int (nI i))]) (fun _ => M) (fun _ => True) (fun ivi => ?_) (fun i hi ivi ihi => ?_) trivial
  · refine Bd_iload_3 (pc := 5) dX7_offset_5 ?_
    refine Bd_aload_0 (pc := 6) dX7_offset_6 ?_
    refine Bd_getR (j := 2) ck7 (pc := 7) dX7_offset_7 k_237 rfl (Nat.le_of_ble_eq_true rfl) rfl ?_
    refine Bd_getI (j := 4) ck0 (pc := 10) dX7_offset_10 k_92 rfl (Nat.le_of_ble_eq_true rfl) rfl ?_
    refine Bd_icmp_ge (t := 33) (pc := 13) dX7_offset_13 (by decide) (fun b13 => ?_) (fun b13 => (show False from lf_x h.nb b13).elim)
    refine Bd_iload_2 (pc := 33) dX7_offset_33 ?_
    refine Bd_aload_0 (pc := 34) dX7_offset_34 ?_
    refine Bd_getR (j := 8) ck7 (pc := 35) dX7_offset_35 k_243 rfl (Nat.le_of_ble_eq_true rfl) rfl ?_
    refine Bd_getR (j := 4) ck3 (pc := 38) dX7_offset_38 k_160 rfl (Nat.le_of_ble_eq_true rfl) rfl ?_
    refine Bd_iconst (v := 0) (pc := 41) dX7_offset_41 (by decide) ?_
    refine Bd_ialdc (j := 0) rfl (pc := 42) dX7_offset_42 rfl (by unfold vp_in; decide) ?_
    refine Bd_isub (pc := 43) dX7_offset_43 ?_
    refine Bd_iret (pc := 44) dX7_offset_44 rfl ?_
    exact PD_i rfl rfl
  · refine Bd_iload_3 (pc := 5) dX7_offset_5 ?_
    refine Bd_aload_0 (pc := 6) dX7_offset_6 ?_
    refine Bd_getR (j := 2) ck7 (pc := 7) dX7_offset_7 k_237 rfl (Nat.le_of_ble_eq_true rfl) rfl ?_
    refine Bd_getI (j := 4) ck0 (pc := 10) dX7_offset_10 k_92 rfl (Nat.le_of_ble_eq_true rfl) rfl ?_
    refine Bd_icmp_ge (t := 33) (pc := 13) dX7_offset_13 (by decide) (fun b13 => (show False from lf_s h.nb (by omega) hi b13).elim) (fun b13 => ?_)
    refine Bd_iload_2 (pc := 16) dX7_offset_16 ?_
    refine Bd_aload_0 (pc := 17) dX7_offset_17 ?_
    refine Bd_iload_3 (pc := 18) dX7_offset_18 ?_
    refine Bd_iload_1 (pc := 19) dX7_offset_19 ?_
    refine Bd_callV2i (cd := mX7_comes) (pc := 20) dX7_offset_20 k_522 v_X7_comes ⟨(Nat.le_of_ble_eq_true rfl), (Nat.le_of_ble_eq_true rfl)⟩ rfl rfl (sem_X7_comes (i := i) (by omega) (h.bt6 (by omega))) (Nat.le_of_ble_eq_true rfl) ?_
    refine Bd_mmin (pc := 23) dX7_offset_23 k_543 k_544 k_14 k_545 (Nat.le_of_ble_eq_true rfl) (Nat.le_of_ble_eq_true rfl) ?_
    refine Bd_istore_2 (pc := 26) dX7_offset_26 (Nat.le_of_ble_eq_true rfl) rfl ?_
    refine Bd_iinc_3 (pc := 27) dX7_offset_27 (show _ + Int32.ofInt 1 = _ + 1 from rfl) (Nat.le_of_ble_eq_true rfl) rfl ?_
    refine Bd_goto (t := 5) (pc := 30) dX7_offset_30 (by decide) ?_
    exact Bd_nx (ihi trivial) (by simp [wkP, ofF, mnF, nI_succ])
abbrev mtF (M : Mem) (tk b n : Int32) (i : Nat) : Prop := (tk >>> (nI i &&& 31) &&& 1 = 0) ∧ M 49 i = b ∧ M 50 i = n
def fnV (M : Mem) (tk b n : Int32) : Nat → Int32
  | 0 => -4
  | i + 1 => if 0 ≤ fnV M tk b n i then fnV M tk b n i else if mtF M tk b n i then nI i else -4
theorem fnV_s {M : Mem} {tk b n : Int32} {i : Nat} (h : 0 ≤ fnV M tk b n i) : ∀ j, i ≤ j → fnV M tk b n j = fnV M tk b n i
  | 0, hj => by rw [Nat.le_zero.mp hj]
  | j + 1, hj => by
    rcases Nat.lt_or_ge i (j + 1) with q | q
    · have ih := fnV_s h j (by omega)
      rw [show fnV M tk b n (j + 1) = (if 0 ≤ fnV M tk b n j then fnV M tk b n j else if mtF M tk b n j then nI j else -4) from rfl, ih, if_pos h]
    · rw [show j + 1 = i by omega]
theorem fnV_r {M : Mem} {tk b n : Int32} : ∀ i, fnV M tk b n i = -4 ∨ ∃ j, j < i ∧ fnV M tk b n i = nI j ∧ mtF M tk b n j
  | 0 => Or.inl rfl
  | i + 1 => by
    have ih := fnV_r (M := M) (tk := tk) (b := b) (n := n) i
    unfold fnV
    split
    · exact ih.imp id (fun ⟨j, h1, h2⟩ => ⟨j, by omega, h2⟩)
    · split
      · rename_i q; exact Or.inr ⟨i, by omega, rfl, q⟩
      · exact Or.inl rfl
theorem fnV_4 {M : Mem} {tk b n : Int32} (i : Nat) (hi : i ≤ 12) (h : ¬ 0 ≤ fnV M tk b n i) : fnV M tk b n i = -4 := by
  rcases fnV_r (M := M) (tk := tk) (b := b) (n := n) i with q | ⟨j, h1, h2, -⟩
  · exact q
  · rw [h2] at h; exact absurd (nI_pos' (by omega)) h
set_option maxRecDepth 100000 in
set_option maxHeartbeats 4000000 in
theorem sem_X7_freeNote {M : Mem} (h : WF M) {tk b n : Int32} : Sem mX7_freeNote SH [.ref 0, .int tk, .int b, .int n] M (PD SH (some (.int (fnV M tk b n (cn (M 44 8))))) (M)) := by
  have q1 := h.nb24
  have q2 := h.nn12
  have q3 := h.nt6
  have q4 := h.nh3
  have q5 := h.nmb
  refine Sem_of rfl (fun G => (Nat.le_of_ble_eq_true rfl)) (fun G => ?_)
  refine Bd_iconst (v := 0) (pc := 0) dX7_freeNote_0 (by decide) ?_
  refine Bd_istore_4 (pc := 1) dX7_freeNote_1 (Nat.le_of_ble_eq_true rfl) rfl ?_
  refine Bd_nx (L' := (fun i => [some (.ref 0), some (.int tk), some (.int b), some (.int n), some (.int (nI i)), none]) 0) ?_ (by repeat (first | exact True.intro | refine And.intro rfl ?_))
  refine Bd_for (pc := 3) (c := (cn (M 44 8))) (fun i => [some (.ref 0), some (.int tk), some (.int b), some (.int n), some (.int (nI i)), none]) (fun _ => M) (fun i => ¬ 0 ≤ fnV M tk b n i) (fun ivi => ?_) (fun i hi ivi ihi => ?_) (by show ¬ (0 : Int32) ≤ -4; decide)
  · refine Bd_iload_4 (pc := 3) dX7_freeNote_3 ?_
    refine Bd_aload_0 (pc := 5) dX7_freeNote_5 ?_
    refine Bd_getR (j := 8) ck7 (pc := 6) dX7_freeNote_6 k_243 rfl (Nat.le_of_ble_eq_true rfl) rfl ?_
    refine Bd_getI (j := 8) ck3 (pc := 9) dX7_freeNote_9 k_171 rfl (Nat.le_of_ble_eq_true rfl) rfl ?_
    refine Bd_icmp_ge (t := 73) (pc := 12) dX7_freeNote_12 (by decide) (fun b12 => ?_) (fun b12 => (show False from lf_x h.nn b12).elim)
    refine Bd_bipush (v := -4) (pc := 73) dX7_freeNote_73 (by decide) ?_
    refine Bd_iret (pc := 75) dX7_freeNote_75 rfl ?_
    exact PD_i (fnV_4 _ q2 ivi).symm rfl
  · refine Bd_iload_4 (pc := 3) dX7_freeNote_3 ?_
    refine Bd_aload_0 (pc := 5) dX7_freeNote_5 ?_
    refine Bd_getR (j := 8) ck7 (pc := 6) dX7_freeNote_6 k_243 rfl (Nat.le_of_ble_eq_true rfl) rfl ?_
    refine Bd_getI (j := 8) ck3 (pc := 9) dX7_freeNote_9 k_171 rfl (Nat.le_of_ble_eq_true rfl) rfl ?_
    refine Bd_icmp_ge (t := 73) (pc := 12) dX7_freeNote_12 (by decide) (fun b12 => (show False from lf_s h.nn (by omega) hi b12).elim) (fun b12 => ?_)
    refine Bd_iload_1 (pc := 15) dX7_freeNote_15 ?_
    refine Bd_iload_4 (pc := 16) dX7_freeNote_16 ?_
    refine Bd_ishr (pc := 18) dX7_freeNote_18 ?_
    refine Bd_iconst (v := 1) (pc := 19) dX7_freeNote_19 (by decide) ?_
    refine Bd_iand (pc := 20) dX7_freeNote_20 ?_
    refine Bd_if_ne (t := 28) (pc := 21) dX7_freeNote_21 (by decide) (fun b21 => ?_) (fun b21 => ?_)
    · refine Bd_iconst (v := 0) (pc := 28) dX7_freeNote_28 (by decide) ?_
      refine Bd_istore_5 (pc := 29) dX7_freeNote_29 (Nat.le_of_ble_eq_true rfl) rfl ?_
      refine Bd_iload_5 (pc := 31) dX7_freeNote_31 ?_
      refine Bd_if_eq (t := 67) (pc := 33) dX7_freeNote_33 (by decide) (fun b33 => ?_) (fun b33 => (show False from b33 rfl).elim)
      refine Bd_iinc_4 (pc := 67) dX7_freeNote_67 (show _ + Int32.ofInt 1 = _ + 1 from rfl) (Nat.le_of_ble_eq_true rfl) rfl ?_
      refine Bd_goto (t := 3) (pc := 70) dX7_freeNote_70 (by decide) ?_
      exact Bd_nx (ihi (by unfold fnV; rw [if_neg ivi, if_neg (fun q => b21 q.1)]; decide)) (by simp [wkP, nI_succ])
    · refine Bd_iconst (v := 1) (pc := 24) dX7_freeNote_24 (by decide) ?_
      refine Bd_goto (t := 29) (pc := 25) dX7_freeNote_25 (by decide) ?_
      refine Bd_istore_5 (pc := 29) dX7_freeNote_29 (Nat.le_of_ble_eq_true rfl) rfl ?_
      refine Bd_iload_5 (pc := 31) dX7_freeNote_31 ?_
      refine Bd_if_eq (t := 67) (pc := 33) dX7_freeNote_33 (by decide) (fun b33 => (show False from absurd b33 (by decide)).elim) (fun b33 => ?_)
      refine Bd_aload_0 (pc := 36) dX7_freeNote_36 ?_
      refine Bd_getR (j := 8) ck7 (pc := 37) dX7_freeNote_37 k_243 rfl (Nat.le_of_ble_eq_true rfl) rfl ?_
      refine Bd_getR (j := 4) ck3 (pc := 40) dX7_freeNote_40 k_160 rfl (Nat.le_of_ble_eq_true rfl) rfl ?_
      refine Bd_iload_4 (pc := 43) dX7_freeNote_43 ?_
      refine Bd_ialdc (j := i) (nI_clamp (by omega)) (pc := 45) dX7_freeNote_45 rfl (vpi (by omega) (by omega)) ?_
      refine Bd_iload_2 (pc := 46) dX7_freeNote_46 ?_
      refine Bd_icmp_ne (t := 67) (pc := 47) dX7_freeNote_47 (by decide) (fun b47 => ?_) (fun b47 => ?_)
      · refine Bd_iinc_4 (pc := 67) dX7_freeNote_67 (show _ + Int32.ofInt 1 = _ + 1 from rfl) (Nat.le_of_ble_eq_true rfl) rfl ?_
        refine Bd_goto (t := 3) (pc := 70) dX7_freeNote_70 (by decide) ?_
        exact Bd_nx (ihi (by unfold fnV; rw [if_neg ivi, if_neg (fun q => b47 q.2.1)]; decide)) (by simp [wkP, nI_succ])
      · refine Bd_aload_0 (pc := 50) dX7_freeNote_50 ?_
        refine Bd_getR (j := 8) ck7 (pc := 51) dX7_freeNote_51 k_243 rfl (Nat.le_of_ble_eq_true rfl) rfl ?_
        refine Bd_getR (j := 5) ck3 (pc := 54) dX7_freeNote_54 k_162 rfl (Nat.le_of_ble_eq_true rfl) rfl ?_
        refine Bd_iload_4 (pc := 57) dX7_freeNote_57 ?_
        refine Bd_ialdc (j := i) (nI_clamp (by omega)) (pc := 59) dX7_freeNote_59 rfl (vpi (by omega) (by omega)) ?_
        refine Bd_iload_3 (pc := 60) dX7_freeNote_60 ?_
        refine Bd_icmp_ne (t := 67) (pc := 61) dX7_freeNote_61 (by decide) (fun b61 => ?_) (fun b61 => ?_)
        · refine Bd_iinc_4 (pc := 67) dX7_freeNote_67 (show _ + Int32.ofInt 1 = _ + 1 from rfl) (Nat.le_of_ble_eq_true rfl) rfl ?_
          refine Bd_goto (t := 3) (pc := 70) dX7_freeNote_70 (by decide) ?_
          exact Bd_nx (ihi (by unfold fnV; rw [if_neg ivi, if_neg (fun q => b61 q.2.2)]; decide)) (by simp [wkP, nI_succ])
        · refine Bd_iload_4 (pc := 64) dX7_freeNote_64 ?_
          refine Bd_iret (pc := 66) dX7_freeNote_66 rfl ?_
          have he : fnV M tk b n (i + 1) = nI i := by unfold fnV; rw [if_neg ivi, if_pos ⟨b21, b47, b61⟩]
          exact PD_i (by rw [fnV_s (i := i + 1) (by rw [he]; exact nI_pos' (by omega)) _ (by omega), he]) rfl
def trF (M : Mem) (c l : Int32) : Nat → Option Int32
  | 0 => some 0
  | i + 1 => match trF M c l i with
    | none => none
    | some tk => if 0 ≤ fnV M tk (cmF M i c - l) (M 8 i) (cn (M 44 8)) then some (tk ||| (1 <<< (fnV M tk (cmF M i c - l) (M 8 i) (cn (M 44 8)) &&& 31))) else none
theorem trF_n {M : Mem} {c l : Int32} {i : Nat} (h : trF M c l i = none) : ∀ j, i ≤ j → trF M c l j = none
  | 0, hj => by rw [← Nat.le_zero.mp hj]; exact h
  | j + 1, hj => by
    rcases Nat.lt_or_ge i (j + 1) with q | q
    · unfold trF; rw [trF_n h j (by omega)]
    · rw [← show i = j + 1 by omega]; exact h
abbrev irF (M : Mem) (c : Int32) : Prop := M 5 4 = M 44 8 ∧ ¬ trF M c (ofV M c) (cn (M 5 4)) = none
set_option maxRecDepth 100000 in
set_option maxHeartbeats 4000000 in
theorem sem_X7_isRight {M : Mem} (h : WF M) {c : Int32} : Sem mX7_isRight SH [.ref 0, .int c] M (PD SH (some (.int (b2 (irF M c)))) (M)) := by
  have q1 := h.nb24
  have q2 := h.nn12
  have q3 := h.nt6
  have q4 := h.nh3
  have q5 := h.nmb
  refine Sem_of rfl (fun G => (Nat.le_of_ble_eq_true rfl)) (fun G => ?_)
  refine Bd_aload_0 (pc := 0) dX7_isRight_0 ?_
  refine Bd_getR (j := 2) ck7 (pc := 1) dX7_isRight_1 k_237 rfl (Nat.le_of_ble_eq_true rfl) rfl ?_
  refine Bd_getI (j := 4) ck0 (pc := 4) dX7_isRight_4 k_92 rfl (Nat.le_of_ble_eq_true rfl) rfl ?_
  refine Bd_aload_0 (pc := 7) dX7_isRight_7 ?_
  refine Bd_getR (j := 8) ck7 (pc := 8) dX7_isRight_8 k_243 rfl (Nat.le_of_ble_eq_true rfl) rfl ?_
  refine Bd_getI (j := 8) ck3 (pc := 11) dX7_isRight_11 k_171 rfl (Nat.le_of_ble_eq_true rfl) rfl ?_
  refine Bd_icmp_eq (t := 19) (pc := 14) dX7_isRight_14 (by decide) (fun b14 => ?_) (fun b14 => ?_)
  · refine Bd_aload_0 (pc := 19) dX7_isRight_19 ?_
    refine Bd_iload_1 (pc := 20) dX7_isRight_20 ?_
    refine Bd_callV1i (cd := mX7_offset) (pc := 21) dX7_isRight_21 k_572 v_X7_offset ⟨(Nat.le_of_ble_eq_true rfl), (Nat.le_of_ble_eq_true rfl)⟩ rfl rfl (sem_X7_offset h) (Nat.le_of_ble_eq_true rfl) ?_
    refine Bd_istore_2 (pc := 24) dX7_isRight_24 (Nat.le_of_ble_eq_true rfl) rfl ?_
    refine Bd_iconst (v := 0) (pc := 25) dX7_isRight_25 (by decide) ?_
    refine Bd_istore_3 (pc := 26) dX7_isRight_26 (Nat.le_of_ble_eq_true rfl) rfl ?_
    refine Bd_iconst (v := 0) (pc := 27) dX7_isRight_27 (by decide) ?_
    refine Bd_istore_4 (pc := 28) dX7_isRight_28 (Nat.le_of_ble_eq_true rfl) rfl ?_
    refine Bd_nx (L' := (fun i => [some (.ref 0), some (.int c), some (.int (ofV M c)), some (.int ((trF M c (ofV M c) i).getD 0)), some (.int (nI i)), none]) 0) ?_ (by repeat (first | exact True.intro | refine And.intro rfl ?_))
    refine Bd_for (pc := 30) (c := (cn (M 5 4))) (fun i => [some (.ref 0), some (.int c), some (.int (ofV M c)), some (.int ((trF M c (ofV M c) i).getD 0)), some (.int (nI i)), none]) (fun _ => M) (fun i => ¬ trF M c (ofV M c) i = none) (fun ivi => ?_) (fun i hi ivi ihi => ?_) (by simp [trF])
    · refine Bd_iload_4 (pc := 30) dX7_isRight_30 ?_
      refine Bd_aload_0 (pc := 32) dX7_isRight_32 ?_
      refine Bd_getR (j := 2) ck7 (pc := 33) dX7_isRight_33 k_237 rfl (Nat.le_of_ble_eq_true rfl) rfl ?_
      refine Bd_getI (j := 4) ck0 (pc := 36) dX7_isRight_36 k_92 rfl (Nat.le_of_ble_eq_true rfl) rfl ?_
      refine Bd_icmp_ge (t := 88) (pc := 39) dX7_isRight_39 (by decide) (fun b39 => ?_) (fun b39 => (show False from lf_x h.nb b39).elim)
      refine Bd_iconst (v := 1) (pc := 88) dX7_isRight_88 (by decide) ?_
      refine Bd_zret (pc := 89) dX7_isRight_89 rfl rfl ?_
      exact PD_i (b2_t ⟨b14, ivi⟩) rfl
    · refine Bd_iload_4 (pc := 30) dX7_isRight_30 ?_
      refine Bd_aload_0 (pc := 32) dX7_isRight_32 ?_
      refine Bd_getR (j := 2) ck7 (pc := 33) dX7_isRight_33 k_237 rfl (Nat.le_of_ble_eq_true rfl) rfl ?_
      refine Bd_getI (j := 4) ck0 (pc := 36) dX7_isRight_36 k_92 rfl (Nat.le_of_ble_eq_true rfl) rfl ?_
      refine Bd_icmp_ge (t := 88) (pc := 39) dX7_isRight_39 (by decide) (fun b39 => (show False from lf_s h.nb (by omega) hi b39).elim) (fun b39 => ?_)
      obtain ⟨tk, etk⟩ := Option.ne_none_iff_exists'.mp ivi
      rw [etk, Option.getD_some]
      refine Bd_aload_0 (pc := 42) dX7_isRight_42 ?_
      refine Bd_iload_3 (pc := 43) dX7_isRight_43 ?_
      refine Bd_aload_0 (pc := 44) dX7_isRight_44 ?_
      refine Bd_iload_4 (pc := 45) dX7_isRight_45 ?_
      refine Bd_iload_1 (pc := 47) dX7_isRight_47 ?_
      refine Bd_callV2i (cd := mX7_comes) (pc := 48) dX7_isRight_48 k_522 v_X7_comes ⟨(Nat.le_of_ble_eq_true rfl), (Nat.le_of_ble_eq_true rfl)⟩ rfl rfl (sem_X7_comes (i := i) (by omega) (h.bt6 (by omega))) (Nat.le_of_ble_eq_true rfl) ?_
      refine Bd_iload_2 (pc := 51) dX7_isRight_51 ?_
      refine Bd_isub (pc := 52) dX7_isRight_52 ?_
      refine Bd_aload_0 (pc := 53) dX7_isRight_53 ?_
      refine Bd_getR (j := 2) ck7 (pc := 54) dX7_isRight_54 k_237 rfl (Nat.le_of_ble_eq_true rfl) rfl ?_
      refine Bd_getR (j := 2) ck0 (pc := 57) dX7_isRight_57 k_88 rfl (Nat.le_of_ble_eq_true rfl) rfl ?_
      refine Bd_iload_4 (pc := 60) dX7_isRight_60 ?_
      refine Bd_ialdc (j := i) (nI_clamp (by omega)) (pc := 62) dX7_isRight_62 rfl (vpi (by omega) (by omega)) ?_
      refine Bd_callV3i (cd := mX7_freeNote) (pc := 63) dX7_isRight_63 k_576 v_X7_freeNote ⟨(Nat.le_of_ble_eq_true rfl), (Nat.le_of_ble_eq_true rfl)⟩ rfl rfl (sem_X7_freeNote h) (Nat.le_of_ble_eq_true rfl) ?_
      refine Bd_istore_5 (pc := 66) dX7_isRight_66 (Nat.le_of_ble_eq_true rfl) rfl ?_
      refine Bd_iload_5 (pc := 68) dX7_isRight_68 ?_
      refine Bd_if_ge (t := 75) (pc := 70) dX7_isRight_70 (by decide) (fun b70 => ?_) (fun b70 => ?_)
      · refine Bd_iload_3 (pc := 75) dX7_isRight_75 ?_
        refine Bd_iconst (v := 1) (pc := 76) dX7_isRight_76 (by decide) ?_
        refine Bd_iload_5 (pc := 77) dX7_isRight_77 ?_
        refine Bd_ishl (pc := 79) dX7_isRight_79 ?_
        refine Bd_ior (pc := 80) dX7_isRight_80 ?_
        refine Bd_istore_3 (pc := 81) dX7_isRight_81 (Nat.le_of_ble_eq_true rfl) rfl ?_
        refine Bd_iinc_4 (pc := 82) dX7_isRight_82 (show _ + Int32.ofInt 1 = _ + 1 from rfl) (Nat.le_of_ble_eq_true rfl) rfl ?_
        refine Bd_goto (t := 30) (pc := 85) dX7_isRight_85 (by decide) ?_
        have hs : trF M c (ofV M c) (i + 1) = some (tk ||| (1 <<< (fnV M tk (cmF M i c - (ofV M c)) (M 8 i) (cn (M 44 8)) &&& 31))) := by { show (match trF M c (ofV M c) i with | none => none | some tk => _) = _; rw [etk]; simp only [if_pos b70] }
        exact Bd_nx (ihi (by rw [hs]; exact fun q => by cases q)) (by simp [wkP, nI_succ, hs])
      · refine Bd_iconst (v := 0) (pc := 73) dX7_isRight_73 (by decide) ?_
        refine Bd_zret (pc := 74) dX7_isRight_74 rfl rfl ?_
        have hnone : trF M c (ofV M c) (i + 1) = none := by unfold trF; rw [etk]; simp only [if_neg b70]
        exact PD_i (b2_f (fun q => q.2 (trF_n hnone _ hi))) rfl
  · refine Bd_iconst (v := 0) (pc := 17) dX7_isRight_17 (by decide) ?_
    refine Bd_zret (pc := 18) dX7_isRight_18 rfl rfl ?_
    exact PD_i (b2_f (fun q => b14 q.1)) rfl
def rightV (M : Mem) (c : Int32) : Int32 := if hcF M 45 c then if M 44 8 = 0 then -2 else if irF M c then 1000 + ofV M c else -4 else -1
set_option maxRecDepth 100000 in
set_option maxHeartbeats 4000000 in
theorem sem_X7_right {M : Mem} (h : WF M) {c : Int32} : Sem mX7_right SH [.ref 0, .int c] M (PD SH (some (.int (rightV M c))) (M)) := by
  have q1 := h.nb24
  have q2 := h.nn12
  have q3 := h.nt6
  have q4 := h.nh3
  have q5 := h.nmb
  refine Sem_of rfl (fun G => (Nat.le_of_ble_eq_true rfl)) (fun G => ?_)
  refine Bd_aload_0 (pc := 0) dX7_right_0 ?_
  refine Bd_getR (j := 8) ck7 (pc := 1) dX7_right_1 k_243 rfl (Nat.le_of_ble_eq_true rfl) rfl ?_
  refine Bd_iload_1 (pc := 4) dX7_right_4 ?_
  refine Bd_callV1i (cd := mX3_hasCell) (pc := 5) dX7_right_5 k_481 v_X3_hasCell ⟨(Nat.le_of_ble_eq_true rfl), (Nat.le_of_ble_eq_true rfl)⟩ rfl rfl sem_X3_hasCell (Nat.le_of_ble_eq_true rfl) ?_
  refine Bd_if_ne (t := 13) (pc := 8) dX7_right_8 (by decide) (fun b8 => ?_) (fun b8 => ?_)
  · refine Bd_aload_0 (pc := 13) dX7_right_13 ?_
    refine Bd_getR (j := 8) ck7 (pc := 14) dX7_right_14 k_243 rfl (Nat.le_of_ble_eq_true rfl) rfl ?_
    refine Bd_getI (j := 8) ck3 (pc := 17) dX7_right_17 k_171 rfl (Nat.le_of_ble_eq_true rfl) rfl ?_
    refine Bd_if_ne (t := 26) (pc := 20) dX7_right_20 (by decide) (fun b20 => ?_) (fun b20 => ?_)
    · refine Bd_aload_0 (pc := 26) dX7_right_26 ?_
      refine Bd_iload_1 (pc := 27) dX7_right_27 ?_
      refine Bd_callV1i (cd := mX7_isRight) (pc := 28) dX7_right_28 k_568 v_X7_isRight ⟨(Nat.le_of_ble_eq_true rfl), (Nat.le_of_ble_eq_true rfl)⟩ rfl rfl (sem_X7_isRight h) (Nat.le_of_ble_eq_true rfl) ?_
      refine Bd_if_eq (t := 46) (pc := 31) dX7_right_31 (by decide) (fun b31 => ?_) (fun b31 => ?_)
      · refine Bd_bipush (v := -4) (pc := 46) dX7_right_46 (by decide) ?_
        refine Bd_iret (pc := 48) dX7_right_48 rfl ?_
        exact PD_i (by rw [rightV, if_pos (b2_n.mp b8), if_neg b20, if_neg (b2_0.mp b31)]) rfl
      · refine Bd_sipush (v := 1000) (pc := 34) dX7_right_34 (by decide) ?_
        refine Bd_aload_0 (pc := 37) dX7_right_37 ?_
        refine Bd_iload_1 (pc := 38) dX7_right_38 ?_
        refine Bd_callV1i (cd := mX7_offset) (pc := 39) dX7_right_39 k_572 v_X7_offset ⟨(Nat.le_of_ble_eq_true rfl), (Nat.le_of_ble_eq_true rfl)⟩ rfl rfl (sem_X7_offset h) (Nat.le_of_ble_eq_true rfl) ?_
        refine Bd_iadd (pc := 42) dX7_right_42 ?_
        refine Bd_goto (t := 48) (pc := 43) dX7_right_43 (by decide) ?_
        refine Bd_iret (pc := 48) dX7_right_48 rfl ?_
        exact PD_i (by rw [rightV, if_pos (b2_n.mp b8), if_neg b20, if_pos (b2_n.mp b31)]) rfl
    · refine Bd_bipush (v := -2) (pc := 23) dX7_right_23 (by decide) ?_
      refine Bd_iret (pc := 25) dX7_right_25 rfl ?_
      exact PD_i (by rw [rightV, if_pos (b2_n.mp b8), if_pos b20]) rfl
  · refine Bd_iconst (v := -1) (pc := 11) dX7_right_11 (by decide) ?_
    refine Bd_iret (pc := 12) dX7_right_12 rfl ?_
    exact PD_i (by rw [rightV, if_neg (b2_0.mp b8)]) rfl
/-- how many of the first n cells, and the first of them -/
def ctF (P : Nat → Bool) : Nat → Int32
  | 0 => 0
  | n + 1 => if P n then ctF P n + 1 else ctF P n
def fsF (P : Nat → Bool) : Nat → Int32
  | 0 => -4
  | n + 1 => if fsF P n = -4 then if P n then nI n else -4 else fsF P n
theorem fsF_s {P : Nat → Bool} {i : Nat} (h : ¬ fsF P i = -4) : ∀ j, i ≤ j → fsF P j = fsF P i
  | 0, hj => by rw [Nat.le_zero.mp hj]
  | j + 1, hj => by
    rcases Nat.lt_or_ge i (j + 1) with q | q
    · have ih := fsF_s h j (by omega)
      rw [show fsF P (j + 1) = (if fsF P j = -4 then if P j then nI j else -4 else fsF P j) from rfl, ih, if_neg h]
    · rw [show j + 1 = i by omega]
theorem nI_n4 {i : Nat} (h : i < 81) : ¬ nI i = -4 := by
  intro q
  have h1 := nI_pos' (n := i) (by omega)
  rw [q] at h1
  exact absurd h1 (by decide)
abbrev rtP (M : Mem) (n : Nat) : Bool := decide (hcF M 45 (nI n)) && decide (irF M (nI n))
def rightsV (M : Mem) (k : Int32) : Int32 := if 0 ≤ k ∧ k < 2 then if M 44 8 = 0 then -2 else if k = 0 then ctF (rtP M) 81 else fsF (rtP M) 81 else -1
theorem k2_1 {k : Int32} (h : 0 ≤ k ∧ k < 2) (h0 : ¬ k = 0) : k = 1 := by
  obtain ⟨h1, h2⟩ := h
  rw [Int32.le_iff_toInt_le, Int32.toInt_zero] at h1
  rw [Int32.lt_iff_toInt_lt] at h2
  have e0 : ¬ k.toInt = 0 := fun q => h0 (Int32.toInt_inj.mp q)
  have e2 : (2 : Int32).toInt = 2 := by decide
  exact Int32.toInt_inj.mp (show k.toInt = (1 : Int32).toInt by rw [show (1 : Int32).toInt = 1 by decide]; omega)
set_option maxRecDepth 100000 in
set_option maxHeartbeats 4000000 in
theorem sem_X7_rights {M : Mem} (h : WF M) {k : Int32} : Sem mX7_rights SH [.ref 0, .int k] M (PD SH (some (.int (rightsV M k))) (M)) := by
  have q1 := h.nb24
  have q2 := h.nn12
  have q3 := h.nt6
  have q4 := h.nh3
  have q5 := h.nmb
  refine Sem_of rfl (fun G => (Nat.le_of_ble_eq_true rfl)) (fun G => ?_)
  refine Bd_iload_1 (pc := 0) dX7_rights_0 ?_
  refine Bd_iconst (v := 2) (pc := 1) dX7_rights_1 (by decide) ?_
  refine Bd_callS2i (cd := mX7_isWithin) (pc := 2) dX7_rights_2 k_448 v_X7_isWithin ⟨(Nat.le_of_ble_eq_true rfl), (Nat.le_of_ble_eq_true rfl)⟩ sem_X7_isWithin (Nat.le_of_ble_eq_true rfl) ?_
  refine Bd_if_ne (t := 10) (pc := 5) dX7_rights_5 (by decide) (fun b5 => ?_) (fun b5 => ?_)
  · refine Bd_aload_0 (pc := 10) dX7_rights_10 ?_
    refine Bd_getR (j := 8) ck7 (pc := 11) dX7_rights_11 k_243 rfl (Nat.le_of_ble_eq_true rfl) rfl ?_
    refine Bd_getI (j := 8) ck3 (pc := 14) dX7_rights_14 k_171 rfl (Nat.le_of_ble_eq_true rfl) rfl ?_
    refine Bd_if_ne (t := 23) (pc := 17) dX7_rights_17 (by decide) (fun b17 => ?_) (fun b17 => ?_)
    · refine Bd_iconst (v := 0) (pc := 23) dX7_rights_23 (by decide) ?_
      refine Bd_istore_2 (pc := 24) dX7_rights_24 (Nat.le_of_ble_eq_true rfl) rfl ?_
      refine Bd_iconst (v := 0) (pc := 25) dX7_rights_25 (by decide) ?_
      refine Bd_istore_3 (pc := 26) dX7_rights_26 (Nat.le_of_ble_eq_true rfl) rfl ?_
      refine Bd_nx (L' := (fun i => [some (.ref 0), some (.int k), some (.int (ctF (rtP M) i)), some (.int (nI i))]) 0) ?_ (by repeat (first | exact True.intro | refine And.intro rfl ?_))
      refine Bd_for (pc := 27) (c := 81) (fun i => [some (.ref 0), some (.int k), some (.int (ctF (rtP M) i)), some (.int (nI i))]) (fun _ => M) (fun i => k = 1 → fsF (rtP M) i = -4) (fun ivi => ?_) (fun i hi ivi ihi => ?_) (fun _ => rfl)
      · refine Bd_iload_3 (pc := 27) dX7_rights_27 ?_
        refine Bd_bipush (v := 81) (pc := 28) dX7_rights_28 (by decide) ?_
        refine Bd_icmp_ge (t := 68) (pc := 30) dX7_rights_30 (by decide) (fun b30 => ?_) (fun b30 => (show False from lf_x (rfl : (81 : Int32) = nI 81) b30).elim)
        refine Bd_iload_1 (pc := 68) dX7_rights_68 ?_
        refine Bd_if_ne (t := 76) (pc := 69) dX7_rights_69 (by decide) (fun b69 => ?_) (fun b69 => ?_)
        · refine Bd_bipush (v := -4) (pc := 76) dX7_rights_76 (by decide) ?_
          refine Bd_iret (pc := 78) dX7_rights_78 rfl ?_
          exact PD_i (by rw [rightsV, if_pos (b2_n.mp b5), if_neg b17, if_neg b69, ivi (k2_1 (b2_n.mp b5) b69)]) rfl
        · refine Bd_iload_2 (pc := 72) dX7_rights_72 ?_
          refine Bd_goto (t := 78) (pc := 73) dX7_rights_73 (by decide) ?_
          refine Bd_iret (pc := 78) dX7_rights_78 rfl ?_
          exact PD_i (by rw [rightsV, if_pos (b2_n.mp b5), if_neg b17, if_pos b69]) rfl
      · refine Bd_iload_3 (pc := 27) dX7_rights_27 ?_
        refine Bd_bipush (v := 81) (pc := 28) dX7_rights_28 (by decide) ?_
        refine Bd_icmp_ge (t := 68) (pc := 30) dX7_rights_30 (by decide) (fun b30 => (show False from lf_s (rfl : (81 : Int32) = nI 81) (by decide) hi b30).elim) (fun b30 => ?_)
        refine Bd_aload_0 (pc := 33) dX7_rights_33 ?_
        refine Bd_getR (j := 8) ck7 (pc := 34) dX7_rights_34 k_243 rfl (Nat.le_of_ble_eq_true rfl) rfl ?_
        refine Bd_iload_3 (pc := 37) dX7_rights_37 ?_
        refine Bd_callV1i (cd := mX3_hasCell) (pc := 38) dX7_rights_38 k_481 v_X3_hasCell ⟨(Nat.le_of_ble_eq_true rfl), (Nat.le_of_ble_eq_true rfl)⟩ rfl rfl sem_X3_hasCell (Nat.le_of_ble_eq_true rfl) ?_
        refine Bd_if_eq (t := 62) (pc := 41) dX7_rights_41 (by decide) (fun b41 => ?_) (fun b41 => ?_)
        · refine Bd_iinc_3 (pc := 62) dX7_rights_62 (show _ + Int32.ofInt 1 = _ + 1 from rfl) (Nat.le_of_ble_eq_true rfl) rfl ?_
          refine Bd_goto (t := 27) (pc := 65) dX7_rights_65 (by decide) ?_
          have hP : (rtP M) i = false := by simp only [rtP, Bool.and_eq_false_iff, decide_eq_false_iff_not]; exact Or.inl (b2_0.mp b41)
          exact Bd_nx (ihi (fun q => by unfold fsF; rw [if_pos (ivi q), hP]; rfl)) (by simp [wkP, ctF, nI_succ, hP])
        · refine Bd_aload_0 (pc := 44) dX7_rights_44 ?_
          refine Bd_iload_3 (pc := 45) dX7_rights_45 ?_
          refine Bd_callV1i (cd := mX7_isRight) (pc := 46) dX7_rights_46 k_568 v_X7_isRight ⟨(Nat.le_of_ble_eq_true rfl), (Nat.le_of_ble_eq_true rfl)⟩ rfl rfl (sem_X7_isRight h) (Nat.le_of_ble_eq_true rfl) ?_
          refine Bd_if_eq (t := 62) (pc := 49) dX7_rights_49 (by decide) (fun b49 => ?_) (fun b49 => ?_)
          · refine Bd_iinc_3 (pc := 62) dX7_rights_62 (show _ + Int32.ofInt 1 = _ + 1 from rfl) (Nat.le_of_ble_eq_true rfl) rfl ?_
            refine Bd_goto (t := 27) (pc := 65) dX7_rights_65 (by decide) ?_
            have hP : (rtP M) i = false := by simp only [rtP, Bool.and_eq_false_iff, decide_eq_false_iff_not]; exact Or.inr (b2_0.mp b49)
            exact Bd_nx (ihi (fun q => by unfold fsF; rw [if_pos (ivi q), hP]; rfl)) (by simp [wkP, ctF, nI_succ, hP])
          · refine Bd_iload_1 (pc := 52) dX7_rights_52 ?_
            refine Bd_iconst (v := 1) (pc := 53) dX7_rights_53 (by decide) ?_
            refine Bd_icmp_ne (t := 59) (pc := 54) dX7_rights_54 (by decide) (fun b54 => ?_) (fun b54 => ?_)
            · refine Bd_iinc_2 (pc := 59) dX7_rights_59 (show _ + Int32.ofInt 1 = _ + 1 from rfl) (Nat.le_of_ble_eq_true rfl) rfl ?_
              refine Bd_iinc_3 (pc := 62) dX7_rights_62 (show _ + Int32.ofInt 1 = _ + 1 from rfl) (Nat.le_of_ble_eq_true rfl) rfl ?_
              refine Bd_goto (t := 27) (pc := 65) dX7_rights_65 (by decide) ?_
              have hP : (rtP M) i = true := by simp only [rtP, Bool.and_eq_true, decide_eq_true_eq]; exact ⟨b2_n.mp b41, b2_n.mp b49⟩
              exact Bd_nx (ihi (fun q => absurd q b54)) (by simp [wkP, ctF, nI_succ, hP])
            · refine Bd_iload_3 (pc := 57) dX7_rights_57 ?_
              refine Bd_iret (pc := 58) dX7_rights_58 rfl ?_
              have hP : (rtP M) i = true := by simp only [rtP, Bool.and_eq_true, decide_eq_true_eq]; exact ⟨b2_n.mp b41, b2_n.mp b49⟩
              have he : fsF (rtP M) (i + 1) = nI i := by unfold fsF; rw [if_pos (ivi b54), if_pos hP]
              exact PD_i (by rw [rightsV, if_pos (b2_n.mp b5), if_neg b17, if_neg (by rw [b54]; decide), fsF_s (i := i + 1) (by rw [he]; exact nI_n4 hi) 81 hi, he]) rfl
    · refine Bd_bipush (v := -2) (pc := 20) dX7_rights_20 (by decide) ?_
      refine Bd_iret (pc := 22) dX7_rights_22 rfl ?_
      exact PD_i (by rw [rightsV, if_pos (b2_n.mp b5), if_pos b17]) rfl
  · refine Bd_iconst (v := -1) (pc := 8) dX7_rights_8 (by decide) ?_
    refine Bd_iret (pc := 9) dX7_rights_9 rfl ?_
    exact PD_i (by rw [rightsV, if_neg (b2_0.mp b5)]) rfl
abbrev asF (M : Mem) : Prop := ¬ M 44 8 = 0 ∧ M 5 4 = M 44 8 ∧ ∀ i, i < cn (M 44 8) → M 8 i = M 50 i
def obF (M : Mem) (c : Int32) : Nat → Int32 × Int32
  | 0 => (1000000, -1000000)
  | i + 1 => (mnF (obF M c i).1 (cmF M i c - M 49 i), mxF (obF M c i).2 (cmF M i c - M 49 i))
abbrev obV (M : Mem) (c : Int32) : Int32 := (obF M c (cn (M 44 8))).2 - (obF M c (cn (M 44 8))).1
def offV (M : Mem) (c : Int32) : Int32 := if hcF M 45 c then if asF M then obV M c else -2 else -1
/-- near: how many, the first, the least -/
def nrF (M : Mem) (n : Int32) : Nat → Int32 × Int32 × Int32
  | 0 => (0, 0, 1000000)
  | i + 1 => if hcF M 45 (nI i) then (if n < obV M (nI i) then (nrF M n i).1 else (nrF M n i).1 + 1, if (nrF M n i).2.2 ≤ obV M (nI i) then (nrF M n i).2 else (nI i, obV M (nI i))) else nrF M n i
def nearV (M : Mem) (n k : Int32) : Int32 := if n < 0 then -1 else if 99 < n then -1 else if 0 ≤ k ∧ k < 3 then if asF M then if k = 0 then (nrF M n 81).1 else if k = 1 then (nrF M n 81).2.2 else (nrF M n 81).2.1 else -2 else -1
set_option maxRecDepth 100000 in
set_option maxHeartbeats 4000000 in
theorem sem_X7_blowsAreAsNotes {M : Mem} (h : WF M)  : Sem mX7_blowsAreAsNotes SH [.ref 0] M (PD SH (some (.int (b2 (asF M)))) (M)) := by
  have q1 := h.nb24
  have q2 := h.nn12
  have q3 := h.nt6
  have q4 := h.nh3
  have q5 := h.nmb
  refine Sem_of rfl (fun G => (Nat.le_of_ble_eq_true rfl)) (fun G => ?_)
  refine Bd_aload_0 (pc := 0) dX7_blowsAreAsNotes_0 ?_
  refine Bd_getR (j := 8) ck7 (pc := 1) dX7_blowsAreAsNotes_1 k_243 rfl (Nat.le_of_ble_eq_true rfl) rfl ?_
  refine Bd_getI (j := 8) ck3 (pc := 4) dX7_blowsAreAsNotes_4 k_171 rfl (Nat.le_of_ble_eq_true rfl) rfl ?_
  refine Bd_if_eq (t := 27) (pc := 7) dX7_blowsAreAsNotes_7 (by decide) (fun b7 => ?_) (fun b7 => ?_)
  · refine Bd_iconst (v := 0) (pc := 27) dX7_blowsAreAsNotes_27 (by decide) ?_
    refine Bd_zret (pc := 28) dX7_blowsAreAsNotes_28 rfl rfl ?_
    exact PD_i (b2_f (fun q => q.1 b7)) rfl
  · refine Bd_aload_0 (pc := 10) dX7_blowsAreAsNotes_10 ?_
    refine Bd_getR (j := 2) ck7 (pc := 11) dX7_blowsAreAsNotes_11 k_237 rfl (Nat.le_of_ble_eq_true rfl) rfl ?_
    refine Bd_getI (j := 4) ck0 (pc := 14) dX7_blowsAreAsNotes_14 k_92 rfl (Nat.le_of_ble_eq_true rfl) rfl ?_
    refine Bd_aload_0 (pc := 17) dX7_blowsAreAsNotes_17 ?_
    refine Bd_getR (j := 8) ck7 (pc := 18) dX7_blowsAreAsNotes_18 k_243 rfl (Nat.le_of_ble_eq_true rfl) rfl ?_
    refine Bd_getI (j := 8) ck3 (pc := 21) dX7_blowsAreAsNotes_21 k_171 rfl (Nat.le_of_ble_eq_true rfl) rfl ?_
    refine Bd_icmp_eq (t := 29) (pc := 24) dX7_blowsAreAsNotes_24 (by decide) (fun b24 => ?_) (fun b24 => ?_)
    · refine Bd_iconst (v := 0) (pc := 29) dX7_blowsAreAsNotes_29 (by decide) ?_
      refine Bd_istore_1 (pc := 30) dX7_blowsAreAsNotes_30 (Nat.le_of_ble_eq_true rfl) rfl ?_
      refine Bd_nx (L' := (fun i => [some (.ref 0), some (.int (nI i))]) 0) ?_ (by repeat (first | exact True.intro | refine And.intro rfl ?_))
      refine Bd_for (pc := 31) (c := (cn (M 44 8))) (fun i => [some (.ref 0), some (.int (nI i))]) (fun _ => M) (fun i => ∀ j, j < i → M 8 j = M 50 j) (fun ivi => ?_) (fun i hi ivi ihi => ?_) (fun j hj => absurd hj (Nat.not_lt_zero j))
      · refine Bd_iload_1 (pc := 31) dX7_blowsAreAsNotes_31 ?_
        refine Bd_aload_0 (pc := 32) dX7_blowsAreAsNotes_32 ?_
        refine Bd_getR (j := 8) ck7 (pc := 33) dX7_blowsAreAsNotes_33 k_243 rfl (Nat.le_of_ble_eq_true rfl) rfl ?_
        refine Bd_getI (j := 8) ck3 (pc := 36) dX7_blowsAreAsNotes_36 k_171 rfl (Nat.le_of_ble_eq_true rfl) rfl ?_
        refine Bd_icmp_ge (t := 71) (pc := 39) dX7_blowsAreAsNotes_39 (by decide) (fun b39 => ?_) (fun b39 => (show False from lf_x h.nn b39).elim)
        refine Bd_iconst (v := 1) (pc := 71) dX7_blowsAreAsNotes_71 (by decide) ?_
        refine Bd_zret (pc := 72) dX7_blowsAreAsNotes_72 rfl rfl ?_
        exact PD_i (b2_t ⟨b7, b24, ivi⟩) rfl
      · refine Bd_iload_1 (pc := 31) dX7_blowsAreAsNotes_31 ?_
        refine Bd_aload_0 (pc := 32) dX7_blowsAreAsNotes_32 ?_
        refine Bd_getR (j := 8) ck7 (pc := 33) dX7_blowsAreAsNotes_33 k_243 rfl (Nat.le_of_ble_eq_true rfl) rfl ?_
        refine Bd_getI (j := 8) ck3 (pc := 36) dX7_blowsAreAsNotes_36 k_171 rfl (Nat.le_of_ble_eq_true rfl) rfl ?_
        refine Bd_icmp_ge (t := 71) (pc := 39) dX7_blowsAreAsNotes_39 (by decide) (fun b39 => (show False from lf_s h.nn (by omega) hi b39).elim) (fun b39 => ?_)
        refine Bd_aload_0 (pc := 42) dX7_blowsAreAsNotes_42 ?_
        refine Bd_getR (j := 2) ck7 (pc := 43) dX7_blowsAreAsNotes_43 k_237 rfl (Nat.le_of_ble_eq_true rfl) rfl ?_
        refine Bd_getR (j := 2) ck0 (pc := 46) dX7_blowsAreAsNotes_46 k_88 rfl (Nat.le_of_ble_eq_true rfl) rfl ?_
        refine Bd_iload_1 (pc := 49) dX7_blowsAreAsNotes_49 ?_
        refine Bd_ialdc (j := i) (nI_clamp (by omega)) (pc := 50) dX7_blowsAreAsNotes_50 rfl (vpi (by omega) (by omega)) ?_
        refine Bd_aload_0 (pc := 51) dX7_blowsAreAsNotes_51 ?_
        refine Bd_getR (j := 8) ck7 (pc := 52) dX7_blowsAreAsNotes_52 k_243 rfl (Nat.le_of_ble_eq_true rfl) rfl ?_
        refine Bd_getR (j := 5) ck3 (pc := 55) dX7_blowsAreAsNotes_55 k_162 rfl (Nat.le_of_ble_eq_true rfl) rfl ?_
        refine Bd_iload_1 (pc := 58) dX7_blowsAreAsNotes_58 ?_
        refine Bd_ialdc (j := i) (nI_clamp (by omega)) (pc := 59) dX7_blowsAreAsNotes_59 rfl (vpi (by omega) (by omega)) ?_
        refine Bd_icmp_eq (t := 65) (pc := 60) dX7_blowsAreAsNotes_60 (by decide) (fun b60 => ?_) (fun b60 => ?_)
        · refine Bd_iinc_1 (pc := 65) dX7_blowsAreAsNotes_65 (show _ + Int32.ofInt 1 = _ + 1 from rfl) (Nat.le_of_ble_eq_true rfl) rfl ?_
          refine Bd_goto (t := 31) (pc := 68) dX7_blowsAreAsNotes_68 (by decide) ?_
          exact Bd_nx (ihi (fun j hj => by rcases Nat.lt_succ_iff_lt_or_eq.mp hj with q | q; exact ivi j q; rw [q]; exact b60)) (by simp [wkP, nI_succ])
        · refine Bd_iconst (v := 0) (pc := 63) dX7_blowsAreAsNotes_63 (by decide) ?_
          refine Bd_zret (pc := 64) dX7_blowsAreAsNotes_64 rfl rfl ?_
          exact PD_i (b2_f (fun q => b60 (q.2.2 i hi))) rfl
    · refine Bd_iconst (v := 0) (pc := 27) dX7_blowsAreAsNotes_27 (by decide) ?_
      refine Bd_zret (pc := 28) dX7_blowsAreAsNotes_28 rfl rfl ?_
      exact PD_i (b2_f (fun q => b24 q.2.1)) rfl
set_option maxRecDepth 100000 in
set_option maxHeartbeats 4000000 in
theorem sem_X7_offBy {M : Mem} (h : WF M) {c : Int32} (hb : M 5 4 = M 44 8) : Sem mX7_offBy SH [.ref 0, .int c] M (PD SH (some (.int (obV M c))) (M)) := by
  have q1 := h.nb24
  have q2 := h.nn12
  have q3 := h.nt6
  have q4 := h.nh3
  have q5 := h.nmb
  refine Sem_of rfl (fun G => (Nat.le_of_ble_eq_true rfl)) (fun G => ?_)
  refine Bd_ldc k_554 (pc := 0) dX7_offBy_0 ?_
  refine Bd_istore_2 (pc := 2) dX7_offBy_2 (Nat.le_of_ble_eq_true rfl) rfl ?_
  refine Bd_ldc_w k_596 (pc := 3) dX7_offBy_3 ?_
  refine Bd_istore_3 (pc := 6) dX7_offBy_6 (Nat.le_of_ble_eq_true rfl) rfl ?_
  refine Bd_iconst (v := 0) (pc := 7) dX7_offBy_7 (by decide) ?_
  refine Bd_istore_4 (pc := 8) dX7_offBy_8 (Nat.le_of_ble_eq_true rfl) rfl ?_
  refine Bd_nx (L' := (fun i => [some (.ref 0), some (.int c), some (.int (obF M c i).1), some (.int (obF M c i).2), some (.int (nI i)), none]) 0) ?_ (by repeat (first | exact True.intro | refine And.intro rfl ?_))
  refine Bd_for (pc := 10) (c := (cn (M 44 8))) (fun i => [some (.ref 0), some (.int c), some (.int (obF M c i).1), some (.int (obF M c i).2), some (.int (nI i)), none]) (fun _ => M) (fun _ => True) (fun ivi => ?_) (fun i hi ivi ihi => ?_) trivial
  · refine Bd_iload_4 (pc := 10) dX7_offBy_10 ?_
    refine Bd_aload_0 (pc := 12) dX7_offBy_12 ?_
    refine Bd_getR (j := 8) ck7 (pc := 13) dX7_offBy_13 k_243 rfl (Nat.le_of_ble_eq_true rfl) rfl ?_
    refine Bd_getI (j := 8) ck3 (pc := 16) dX7_offBy_16 k_171 rfl (Nat.le_of_ble_eq_true rfl) rfl ?_
    refine Bd_icmp_ge (t := 62) (pc := 19) dX7_offBy_19 (by decide) (fun b19 => ?_) (fun b19 => (show False from lf_x h.nn b19).elim)
    refine Bd_iload_3 (pc := 62) dX7_offBy_62 ?_
    refine Bd_iload_2 (pc := 63) dX7_offBy_63 ?_
    refine Bd_isub (pc := 64) dX7_offBy_64 ?_
    refine Bd_iret (pc := 65) dX7_offBy_65 rfl ?_
    exact PD_i rfl rfl
  · refine Bd_iload_4 (pc := 10) dX7_offBy_10 ?_
    refine Bd_aload_0 (pc := 12) dX7_offBy_12 ?_
    refine Bd_getR (j := 8) ck7 (pc := 13) dX7_offBy_13 k_243 rfl (Nat.le_of_ble_eq_true rfl) rfl ?_
    refine Bd_getI (j := 8) ck3 (pc := 16) dX7_offBy_16 k_171 rfl (Nat.le_of_ble_eq_true rfl) rfl ?_
    refine Bd_icmp_ge (t := 62) (pc := 19) dX7_offBy_19 (by decide) (fun b19 => (show False from lf_s h.nn (by omega) hi b19).elim) (fun b19 => ?_)
    refine Bd_aload_0 (pc := 22) dX7_offBy_22 ?_
    refine Bd_iload_4 (pc := 23) dX7_offBy_23 ?_
    refine Bd_iload_1 (pc := 25) dX7_offBy_25 ?_
    refine Bd_callV2i (cd := mX7_comes) (pc := 26) dX7_offBy_26 k_522 v_X7_comes ⟨(Nat.le_of_ble_eq_true rfl), (Nat.le_of_ble_eq_true rfl)⟩ rfl rfl (sem_X7_comes (i := i) (by omega) (h.bt6 (by rw [hb]; exact hi))) (Nat.le_of_ble_eq_true rfl) ?_
    refine Bd_aload_0 (pc := 29) dX7_offBy_29 ?_
    refine Bd_getR (j := 8) ck7 (pc := 30) dX7_offBy_30 k_243 rfl (Nat.le_of_ble_eq_true rfl) rfl ?_
    refine Bd_getR (j := 4) ck3 (pc := 33) dX7_offBy_33 k_160 rfl (Nat.le_of_ble_eq_true rfl) rfl ?_
    refine Bd_iload_4 (pc := 36) dX7_offBy_36 ?_
    refine Bd_ialdc (j := i) (nI_clamp (by omega)) (pc := 38) dX7_offBy_38 rfl (vpi (by omega) (by omega)) ?_
    refine Bd_isub (pc := 39) dX7_offBy_39 ?_
    refine Bd_istore_5 (pc := 40) dX7_offBy_40 (Nat.le_of_ble_eq_true rfl) rfl ?_
    refine Bd_iload_2 (pc := 42) dX7_offBy_42 ?_
    refine Bd_iload_5 (pc := 43) dX7_offBy_43 ?_
    refine Bd_mmin (pc := 45) dX7_offBy_45 k_543 k_544 k_14 k_545 (Nat.le_of_ble_eq_true rfl) (Nat.le_of_ble_eq_true rfl) ?_
    refine Bd_istore_2 (pc := 48) dX7_offBy_48 (Nat.le_of_ble_eq_true rfl) rfl ?_
    refine Bd_iload_3 (pc := 49) dX7_offBy_49 ?_
    refine Bd_iload_5 (pc := 50) dX7_offBy_50 ?_
    refine Bd_mmax (pc := 52) dX7_offBy_52 k_542 k_494 k_14 k_495 (Nat.le_of_ble_eq_true rfl) (Nat.le_of_ble_eq_true rfl) ?_
    refine Bd_istore_3 (pc := 55) dX7_offBy_55 (Nat.le_of_ble_eq_true rfl) rfl ?_
    refine Bd_iinc_4 (pc := 56) dX7_offBy_56 (show _ + Int32.ofInt 1 = _ + 1 from rfl) (Nat.le_of_ble_eq_true rfl) rfl ?_
    refine Bd_goto (t := 10) (pc := 59) dX7_offBy_59 (by decide) ?_
    exact Bd_nx (ihi trivial) (by simp [wkP, obF, mnF, mxF, nI_succ])
set_option maxRecDepth 100000 in
set_option maxHeartbeats 4000000 in
theorem sem_X7_off {M : Mem} (h : WF M) {c : Int32} : Sem mX7_off SH [.ref 0, .int c] M (PD SH (some (.int (offV M c))) (M)) := by
  have q1 := h.nb24
  have q2 := h.nn12
  have q3 := h.nt6
  have q4 := h.nh3
  have q5 := h.nmb
  refine Sem_of rfl (fun G => (Nat.le_of_ble_eq_true rfl)) (fun G => ?_)
  refine Bd_aload_0 (pc := 0) dX7_off_0 ?_
  refine Bd_getR (j := 8) ck7 (pc := 1) dX7_off_1 k_243 rfl (Nat.le_of_ble_eq_true rfl) rfl ?_
  refine Bd_iload_1 (pc := 4) dX7_off_4 ?_
  refine Bd_callV1i (cd := mX3_hasCell) (pc := 5) dX7_off_5 k_481 v_X3_hasCell ⟨(Nat.le_of_ble_eq_true rfl), (Nat.le_of_ble_eq_true rfl)⟩ rfl rfl sem_X3_hasCell (Nat.le_of_ble_eq_true rfl) ?_
  refine Bd_if_ne (t := 13) (pc := 8) dX7_off_8 (by decide) (fun b8 => ?_) (fun b8 => ?_)
  · refine Bd_aload_0 (pc := 13) dX7_off_13 ?_
    refine Bd_callV0i (cd := mX7_blowsAreAsNotes) (pc := 14) dX7_off_14 k_588 v_X7_blowsAreAsNotes ⟨(Nat.le_of_ble_eq_true rfl), (Nat.le_of_ble_eq_true rfl)⟩ rfl rfl (sem_X7_blowsAreAsNotes h) (Nat.le_of_ble_eq_true rfl) ?_
    refine Bd_if_eq (t := 28) (pc := 17) dX7_off_17 (by decide) (fun b17 => ?_) (fun b17 => ?_)
    · refine Bd_bipush (v := -2) (pc := 28) dX7_off_28 (by decide) ?_
      refine Bd_iret (pc := 30) dX7_off_30 rfl ?_
      exact PD_i (by rw [offV, if_pos (b2_n.mp b8), if_neg (b2_0.mp b17)]) rfl
    · refine Bd_aload_0 (pc := 20) dX7_off_20 ?_
      refine Bd_iload_1 (pc := 21) dX7_off_21 ?_
      refine Bd_callV1i (cd := mX7_offBy) (pc := 22) dX7_off_22 k_592 v_X7_offBy ⟨(Nat.le_of_ble_eq_true rfl), (Nat.le_of_ble_eq_true rfl)⟩ rfl rfl (sem_X7_offBy h (b2_n.mp b17).2.1) (Nat.le_of_ble_eq_true rfl) ?_
      refine Bd_goto (t := 30) (pc := 25) dX7_off_25 (by decide) ?_
      refine Bd_iret (pc := 30) dX7_off_30 rfl ?_
      exact PD_i (by rw [offV, if_pos (b2_n.mp b8), if_pos (b2_n.mp b17)]) rfl
  · refine Bd_iconst (v := -1) (pc := 11) dX7_off_11 (by decide) ?_
    refine Bd_iret (pc := 12) dX7_off_12 rfl ?_
    exact PD_i (by rw [offV, if_neg (b2_0.mp b8)]) rfl
set_option maxRecDepth 100000 in
set_option maxHeartbeats 4000000 in
theorem sem_X7_near {M : Mem} (h : WF M) {n k : Int32} : Sem mX7_near SH [.ref 0, .int n, .int k] M (PD SH (some (.int (nearV M n k))) (M)) := by
  have q1 := h.nb24
  have q2 := h.nn12
  have q3 := h.nt6
  have q4 := h.nh3
  have q5 := h.nmb
  refine Sem_of rfl (fun G => (Nat.le_of_ble_eq_true rfl)) (fun G => ?_)
  refine Bd_iload_1 (pc := 0) dX7_near_0 ?_
  refine Bd_if_lt (t := 18) (pc := 1) dX7_near_1 (by decide) (fun b1 => ?_) (fun b1 => ?_)
  · refine Bd_iconst (v := -1) (pc := 18) dX7_near_18 (by decide) ?_
    refine Bd_iret (pc := 19) dX7_near_19 rfl ?_
    exact PD_i (by rw [nearV, if_pos b1]) rfl
  · refine Bd_iload_1 (pc := 4) dX7_near_4 ?_
    refine Bd_bipush (v := 99) (pc := 5) dX7_near_5 (by decide) ?_
    refine Bd_icmp_gt (t := 18) (pc := 7) dX7_near_7 (by decide) (fun b7 => ?_) (fun b7 => ?_)
    · refine Bd_iconst (v := -1) (pc := 18) dX7_near_18 (by decide) ?_
      refine Bd_iret (pc := 19) dX7_near_19 rfl ?_
      exact PD_i (by rw [nearV, if_neg b1, if_pos b7]) rfl
    · refine Bd_iload_2 (pc := 10) dX7_near_10 ?_
      refine Bd_iconst (v := 3) (pc := 11) dX7_near_11 (by decide) ?_
      refine Bd_callS2i (cd := mX7_isWithin) (pc := 12) dX7_near_12 k_448 v_X7_isWithin ⟨(Nat.le_of_ble_eq_true rfl), (Nat.le_of_ble_eq_true rfl)⟩ sem_X7_isWithin (Nat.le_of_ble_eq_true rfl) ?_
      refine Bd_if_ne (t := 20) (pc := 15) dX7_near_15 (by decide) (fun b15 => ?_) (fun b15 => ?_)
      · refine Bd_aload_0 (pc := 20) dX7_near_20 ?_
        refine Bd_callV0i (cd := mX7_blowsAreAsNotes) (pc := 21) dX7_near_21 k_588 v_X7_blowsAreAsNotes ⟨(Nat.le_of_ble_eq_true rfl), (Nat.le_of_ble_eq_true rfl)⟩ rfl rfl (sem_X7_blowsAreAsNotes h) (Nat.le_of_ble_eq_true rfl) ?_
        refine Bd_if_ne (t := 30) (pc := 24) dX7_near_24 (by decide) (fun b24 => ?_) (fun b24 => ?_)
        · refine Bd_iconst (v := 0) (pc := 30) dX7_near_30 (by decide) ?_
          refine Bd_istore_3 (pc := 31) dX7_near_31 (Nat.le_of_ble_eq_true rfl) rfl ?_
          refine Bd_iconst (v := 0) (pc := 32) dX7_near_32 (by decide) ?_
          refine Bd_istore_4 (pc := 33) dX7_near_33 (Nat.le_of_ble_eq_true rfl) rfl ?_
          refine Bd_ldc k_554 (pc := 35) dX7_near_35 ?_
          refine Bd_istore_5 (pc := 37) dX7_near_37 (Nat.le_of_ble_eq_true rfl) rfl ?_
          refine Bd_iconst (v := 0) (pc := 39) dX7_near_39 (by decide) ?_
          refine Bd_istore_6 (pc := 40) dX7_near_40 (Nat.le_of_ble_eq_true rfl) rfl ?_
          refine Bd_nx (L' := (fun i => [some (.ref 0), some (.int n), some (.int k), some (.int (nrF M n i).1), some (.int (nrF M n i).2.1), some (.int (nrF M n i).2.2), some (.int (nI i)), none]) 0) ?_ (by repeat (first | exact True.intro | refine And.intro rfl ?_))
          refine Bd_for (pc := 42) (c := 81) (fun i => [some (.ref 0), some (.int n), some (.int k), some (.int (nrF M n i).1), some (.int (nrF M n i).2.1), some (.int (nrF M n i).2.2), some (.int (nI i)), none]) (fun _ => M) (fun _ => True) (fun ivi => ?_) (fun i hi ivi ihi => ?_) trivial
          · refine Bd_iload_6 (pc := 42) dX7_near_42 ?_
            refine Bd_bipush (v := 81) (pc := 44) dX7_near_44 (by decide) ?_
            refine Bd_icmp_ge (t := 99) (pc := 46) dX7_near_46 (by decide) (fun b46 => ?_) (fun b46 => (show False from lf_x (rfl : (81 : Int32) = nI 81) b46).elim)
            refine Bd_iload_2 (pc := 99) dX7_near_99 ?_
            refine Bd_if_ne (t := 105) (pc := 100) dX7_near_100 (by decide) (fun b100 => ?_) (fun b100 => ?_)
            · refine Bd_iload_2 (pc := 105) dX7_near_105 ?_
              refine Bd_iconst (v := 1) (pc := 106) dX7_near_106 (by decide) ?_
              refine Bd_icmp_ne (t := 115) (pc := 107) dX7_near_107 (by decide) (fun b107 => ?_) (fun b107 => ?_)
              · refine Bd_iload_4 (pc := 115) dX7_near_115 ?_
                refine Bd_iret (pc := 117) dX7_near_117 rfl ?_
                exact PD_i (by rw [nearV, if_neg b1, if_neg b7, if_pos (b2_n.mp b15), if_pos (b2_n.mp b24), if_neg b100, if_neg b107]) rfl
              · refine Bd_iload_5 (pc := 110) dX7_near_110 ?_
                refine Bd_goto (t := 117) (pc := 112) dX7_near_112 (by decide) ?_
                refine Bd_iret (pc := 117) dX7_near_117 rfl ?_
                exact PD_i (by rw [nearV, if_neg b1, if_neg b7, if_pos (b2_n.mp b15), if_pos (b2_n.mp b24), if_neg b100, if_pos b107]) rfl
            · refine Bd_iload_3 (pc := 103) dX7_near_103 ?_
              refine Bd_iret (pc := 104) dX7_near_104 rfl ?_
              exact PD_i (by rw [nearV, if_neg b1, if_neg b7, if_pos (b2_n.mp b15), if_pos (b2_n.mp b24), if_pos b100]) rfl
          · refine Bd_iload_6 (pc := 42) dX7_near_42 ?_
            refine Bd_bipush (v := 81) (pc := 44) dX7_near_44 (by decide) ?_
            refine Bd_icmp_ge (t := 99) (pc := 46) dX7_near_46 (by decide) (fun b46 => (show False from lf_s (rfl : (81 : Int32) = nI 81) (by decide) hi b46).elim) (fun b46 => ?_)
            refine Bd_aload_0 (pc := 49) dX7_near_49 ?_
            refine Bd_getR (j := 8) ck7 (pc := 50) dX7_near_50 k_243 rfl (Nat.le_of_ble_eq_true rfl) rfl ?_
            refine Bd_iload_6 (pc := 53) dX7_near_53 ?_
            refine Bd_callV1i (cd := mX3_hasCell) (pc := 55) dX7_near_55 k_481 v_X3_hasCell ⟨(Nat.le_of_ble_eq_true rfl), (Nat.le_of_ble_eq_true rfl)⟩ rfl rfl sem_X3_hasCell (Nat.le_of_ble_eq_true rfl) ?_
            refine Bd_if_eq (t := 93) (pc := 58) dX7_near_58 (by decide) (fun b58 => ?_) (fun b58 => ?_)
            · refine Bd_iinc_6 (pc := 93) dX7_near_93 (show _ + Int32.ofInt 1 = _ + 1 from rfl) (Nat.le_of_ble_eq_true rfl) rfl ?_
              refine Bd_goto (t := 42) (pc := 96) dX7_near_96 (by decide) ?_
              exact Bd_nx (ihi trivial) (by simp only [wkP, nrF, if_neg (b2_0.mp b58), nI_succ, and_self])
            · refine Bd_aload_0 (pc := 61) dX7_near_61 ?_
              refine Bd_iload_6 (pc := 62) dX7_near_62 ?_
              refine Bd_callV1i (cd := mX7_offBy) (pc := 64) dX7_near_64 k_592 v_X7_offBy ⟨(Nat.le_of_ble_eq_true rfl), (Nat.le_of_ble_eq_true rfl)⟩ rfl rfl (sem_X7_offBy h (b2_n.mp b24).2.1) (Nat.le_of_ble_eq_true rfl) ?_
              refine Bd_istore_7 (pc := 67) dX7_near_67 (Nat.le_of_ble_eq_true rfl) rfl ?_
              refine Bd_iload_7 (pc := 69) dX7_near_69 ?_
              refine Bd_iload_1 (pc := 71) dX7_near_71 ?_
              refine Bd_icmp_gt (t := 78) (pc := 72) dX7_near_72 (by decide) (fun b72 => ?_) (fun b72 => ?_)
              · refine Bd_iload_7 (pc := 78) dX7_near_78 ?_
                refine Bd_iload_5 (pc := 80) dX7_near_80 ?_
                refine Bd_icmp_ge (t := 93) (pc := 82) dX7_near_82 (by decide) (fun b82 => ?_) (fun b82 => ?_)
                · refine Bd_iinc_6 (pc := 93) dX7_near_93 (show _ + Int32.ofInt 1 = _ + 1 from rfl) (Nat.le_of_ble_eq_true rfl) rfl ?_
                  refine Bd_goto (t := 42) (pc := 96) dX7_near_96 (by decide) ?_
                  exact Bd_nx (ihi trivial) (by simp only [wkP, nrF, if_pos (b2_n.mp b58), if_pos b72, if_pos b82, nI_succ, and_self])
                · refine Bd_iload_7 (pc := 85) dX7_near_85 ?_
                  refine Bd_istore_5 (pc := 87) dX7_near_87 (Nat.le_of_ble_eq_true rfl) rfl ?_
                  refine Bd_iload_6 (pc := 89) dX7_near_89 ?_
                  refine Bd_istore_4 (pc := 91) dX7_near_91 (Nat.le_of_ble_eq_true rfl) rfl ?_
                  refine Bd_iinc_6 (pc := 93) dX7_near_93 (show _ + Int32.ofInt 1 = _ + 1 from rfl) (Nat.le_of_ble_eq_true rfl) rfl ?_
                  refine Bd_goto (t := 42) (pc := 96) dX7_near_96 (by decide) ?_
                  exact Bd_nx (ihi trivial) (by simp only [wkP, nrF, if_pos (b2_n.mp b58), if_pos b72, if_neg b82, nI_succ, and_self])
              · refine Bd_iinc_3 (pc := 75) dX7_near_75 (show _ + Int32.ofInt 1 = _ + 1 from rfl) (Nat.le_of_ble_eq_true rfl) rfl ?_
                refine Bd_iload_7 (pc := 78) dX7_near_78 ?_
                refine Bd_iload_5 (pc := 80) dX7_near_80 ?_
                refine Bd_icmp_ge (t := 93) (pc := 82) dX7_near_82 (by decide) (fun b82 => ?_) (fun b82 => ?_)
                · refine Bd_iinc_6 (pc := 93) dX7_near_93 (show _ + Int32.ofInt 1 = _ + 1 from rfl) (Nat.le_of_ble_eq_true rfl) rfl ?_
                  refine Bd_goto (t := 42) (pc := 96) dX7_near_96 (by decide) ?_
                  exact Bd_nx (ihi trivial) (by simp only [wkP, nrF, if_pos (b2_n.mp b58), if_neg b72, if_pos b82, nI_succ, and_self])
                · refine Bd_iload_7 (pc := 85) dX7_near_85 ?_
                  refine Bd_istore_5 (pc := 87) dX7_near_87 (Nat.le_of_ble_eq_true rfl) rfl ?_
                  refine Bd_iload_6 (pc := 89) dX7_near_89 ?_
                  refine Bd_istore_4 (pc := 91) dX7_near_91 (Nat.le_of_ble_eq_true rfl) rfl ?_
                  refine Bd_iinc_6 (pc := 93) dX7_near_93 (show _ + Int32.ofInt 1 = _ + 1 from rfl) (Nat.le_of_ble_eq_true rfl) rfl ?_
                  refine Bd_goto (t := 42) (pc := 96) dX7_near_96 (by decide) ?_
                  exact Bd_nx (ihi trivial) (by simp only [wkP, nrF, if_pos (b2_n.mp b58), if_neg b72, if_neg b82, nI_succ, and_self])
        · refine Bd_bipush (v := -2) (pc := 27) dX7_near_27 (by decide) ?_
          refine Bd_iret (pc := 29) dX7_near_29 rfl ?_
          exact PD_i (by rw [nearV, if_neg b1, if_neg b7, if_pos (b2_n.mp b15), if_neg (b2_0.mp b24)]) rfl
      · refine Bd_iconst (v := -1) (pc := 18) dX7_near_18 (by decide) ?_
        refine Bd_iret (pc := 19) dX7_near_19 rfl ?_
        exact PD_i (by rw [nearV, if_neg b1, if_neg b7, if_neg (b2_0.mp b15)]) rfl
abbrev ltF (M : Mem) (i : Nat) (c : Int32) : Int32 := M 9 i - cmF M i c
abbrev cbP (M : Mem) (c : Int32) : Prop := ∀ i, i < cn (M 5 5) → ltF M i c = ltF M 0 c
abbrev loP (M : Mem) (n : Nat) : Bool := decide (hcF M 45 (nI n)) && decide (cbP M (nI n))
def lostV (M : Mem) (k : Int32) : Int32 := if 0 ≤ k ∧ k < 2 then if M 5 5 = 0 then -2 else if k = 0 then ctF (loP M) 81 else fsF (loP M) 81 else -1
def ftF (M : Mem) (c : Int32) : Nat → Int32
  | 0 => 0
  | i + 1 => if ltF M i c = 0 then ftF M c i + 1 else ftF M c i
def fitsV (M : Mem) (c : Int32) : Int32 := if hcF M 45 c then if M 5 5 = 0 then -2 else ftF M c (cn (M 5 5)) else -1
set_option maxRecDepth 100000 in
set_option maxHeartbeats 4000000 in
theorem sem_X7_lateness {M : Mem} (h : WF M) {i : Nat} {c : Int32} (hi : i < cn (M 5 5)) : Sem mX7_lateness SH [.ref 0, .int (nI i), .int c] M (PD SH (some (.int (ltF M i c))) (M)) := by
  have q1 := h.nb24
  have q2 := h.nn12
  have q3 := h.nt6
  have q4 := h.nh3
  have q5 := h.nmb
  refine Sem_of rfl (fun G => (Nat.le_of_ble_eq_true rfl)) (fun G => ?_)
  refine Bd_aload_0 (pc := 0) dX7_lateness_0 ?_
  refine Bd_getR (j := 2) ck7 (pc := 1) dX7_lateness_1 k_237 rfl (Nat.le_of_ble_eq_true rfl) rfl ?_
  refine Bd_getR (j := 3) ck0 (pc := 4) dX7_lateness_4 k_90 rfl (Nat.le_of_ble_eq_true rfl) rfl ?_
  refine Bd_iload_1 (pc := 7) dX7_lateness_7 ?_
  refine Bd_ialdc (j := i) (nI_clamp (by omega)) (pc := 8) dX7_lateness_8 rfl (vpi (by omega) (by omega)) ?_
  refine Bd_aload_0 (pc := 9) dX7_lateness_9 ?_
  refine Bd_iload_1 (pc := 10) dX7_lateness_10 ?_
  refine Bd_iload_2 (pc := 11) dX7_lateness_11 ?_
  refine Bd_callV2i (cd := mX7_comes) (pc := 12) dX7_lateness_12 k_522 v_X7_comes ⟨(Nat.le_of_ble_eq_true rfl), (Nat.le_of_ble_eq_true rfl)⟩ rfl rfl (sem_X7_comes (i := i) (by omega) (h.bt6 (by omega))) (Nat.le_of_ble_eq_true rfl) ?_
  refine Bd_isub (pc := 15) dX7_lateness_15 ?_
  refine Bd_iret (pc := 16) dX7_lateness_16 rfl ?_
  exact PD_i rfl rfl
set_option maxRecDepth 100000 in
set_option maxHeartbeats 4000000 in
theorem sem_X7_couldBeAt {M : Mem} (h : WF M) {c : Int32} (h0 : 0 < cn (M 5 5)) : Sem mX7_couldBeAt SH [.ref 0, .int c] M (PD SH (some (.int (b2 (cbP M c)))) (M)) := by
  have q1 := h.nb24
  have q2 := h.nn12
  have q3 := h.nt6
  have q4 := h.nh3
  have q5 := h.nmb
  refine Sem_of rfl (fun G => (Nat.le_of_ble_eq_true rfl)) (fun G => ?_)
  refine Bd_aload_0 (pc := 0) dX7_couldBeAt_0 ?_
  refine Bd_iconst (v := 0) (pc := 1) dX7_couldBeAt_1 (by decide) ?_
  refine Bd_iload_1 (pc := 2) dX7_couldBeAt_2 ?_
  refine Bd_callV2i (cd := mX7_lateness) (pc := 3) dX7_couldBeAt_3 k_697 v_X7_lateness ⟨(Nat.le_of_ble_eq_true rfl), (Nat.le_of_ble_eq_true rfl)⟩ rfl rfl (sem_X7_lateness h (i := 0) h0) (Nat.le_of_ble_eq_true rfl) ?_
  refine Bd_istore_2 (pc := 6) dX7_couldBeAt_6 (Nat.le_of_ble_eq_true rfl) rfl ?_
  refine Bd_iconst (v := 1) (pc := 7) dX7_couldBeAt_7 (by decide) ?_
  refine Bd_istore_3 (pc := 8) dX7_couldBeAt_8 (Nat.le_of_ble_eq_true rfl) rfl ?_
  refine Bd_nx (L' := (fun i => [some (.ref 0), some (.int c), some (.int (ltF M 0 c)), some (.int (nI (i + 1)))]) 0) ?_ (by repeat (first | exact True.intro | refine And.intro rfl ?_))
  refine Bd_for (pc := 9) (c := (cn (M 5 5) - 1)) (fun i => [some (.ref 0), some (.int c), some (.int (ltF M 0 c)), some (.int (nI (i + 1)))]) (fun _ => M) (fun i => ∀ j, j < i + 1 → ltF M j c = ltF M 0 c) (fun ivi => ?_) (fun i hi ivi ihi => ?_) (fun j hj => by rw [show j = 0 by omega])
  · refine Bd_iload_3 (pc := 9) dX7_couldBeAt_9 ?_
    refine Bd_aload_0 (pc := 10) dX7_couldBeAt_10 ?_
    refine Bd_getR (j := 2) ck7 (pc := 11) dX7_couldBeAt_11 k_237 rfl (Nat.le_of_ble_eq_true rfl) rfl ?_
    refine Bd_getI (j := 5) ck0 (pc := 14) dX7_couldBeAt_14 k_94 rfl (Nat.le_of_ble_eq_true rfl) rfl ?_
    refine Bd_icmp_ge (t := 38) (pc := 17) dX7_couldBeAt_17 (by decide) (fun b17 => ?_) (fun b17 => (show False from lf_x (show M 5 5 = nI (cn (M 5 5) - 1 + 1) by rw [show cn (M 5 5) - 1 + 1 = cn (M 5 5) by omega]; exact h.nm) b17).elim)
    refine Bd_iconst (v := 1) (pc := 38) dX7_couldBeAt_38 (by decide) ?_
    refine Bd_zret (pc := 39) dX7_couldBeAt_39 rfl rfl ?_
    exact PD_i (b2_t (fun j hj => ivi j (by omega))) rfl
  · refine Bd_iload_3 (pc := 9) dX7_couldBeAt_9 ?_
    refine Bd_aload_0 (pc := 10) dX7_couldBeAt_10 ?_
    refine Bd_getR (j := 2) ck7 (pc := 11) dX7_couldBeAt_11 k_237 rfl (Nat.le_of_ble_eq_true rfl) rfl ?_
    refine Bd_getI (j := 5) ck0 (pc := 14) dX7_couldBeAt_14 k_94 rfl (Nat.le_of_ble_eq_true rfl) rfl ?_
    refine Bd_icmp_ge (t := 38) (pc := 17) dX7_couldBeAt_17 (by decide) (fun b17 => (show False from lf_s (show M 5 5 = nI (cn (M 5 5) - 1 + 1) by rw [show cn (M 5 5) - 1 + 1 = cn (M 5 5) by omega]; exact h.nm) (by omega) (by omega) b17).elim) (fun b17 => ?_)
    refine Bd_aload_0 (pc := 20) dX7_couldBeAt_20 ?_
    refine Bd_iload_3 (pc := 21) dX7_couldBeAt_21 ?_
    refine Bd_iload_1 (pc := 22) dX7_couldBeAt_22 ?_
    refine Bd_callV2i (cd := mX7_lateness) (pc := 23) dX7_couldBeAt_23 k_697 v_X7_lateness ⟨(Nat.le_of_ble_eq_true rfl), (Nat.le_of_ble_eq_true rfl)⟩ rfl rfl (sem_X7_lateness h (i := i + 1) (by omega)) (Nat.le_of_ble_eq_true rfl) ?_
    refine Bd_iload_2 (pc := 26) dX7_couldBeAt_26 ?_
    refine Bd_icmp_eq (t := 32) (pc := 27) dX7_couldBeAt_27 (by decide) (fun b27 => ?_) (fun b27 => ?_)
    · refine Bd_iinc_3 (pc := 32) dX7_couldBeAt_32 (show _ + Int32.ofInt 1 = _ + 1 from rfl) (Nat.le_of_ble_eq_true rfl) rfl ?_
      refine Bd_goto (t := 9) (pc := 35) dX7_couldBeAt_35 (by decide) ?_
      exact Bd_nx (ihi (fun j hj => by rcases Nat.lt_succ_iff_lt_or_eq.mp hj with q | q; exact ivi j q; rw [q]; exact b27)) (by simp [wkP, nI_succ])
    · refine Bd_iconst (v := 0) (pc := 30) dX7_couldBeAt_30 (by decide) ?_
      refine Bd_zret (pc := 31) dX7_couldBeAt_31 rfl rfl ?_
      exact PD_i (b2_f (fun q => b27 (q (i + 1) (by omega)))) rfl
set_option maxRecDepth 100000 in
set_option maxHeartbeats 4000000 in
theorem sem_X7_lost {M : Mem} (h : WF M) {k : Int32} : Sem mX7_lost SH [.ref 0, .int k] M (PD SH (some (.int (lostV M k))) (M)) := by
  have q1 := h.nb24
  have q2 := h.nn12
  have q3 := h.nt6
  have q4 := h.nh3
  have q5 := h.nmb
  refine Sem_of rfl (fun G => (Nat.le_of_ble_eq_true rfl)) (fun G => ?_)
  refine Bd_iload_1 (pc := 0) dX7_lost_0 ?_
  refine Bd_iconst (v := 2) (pc := 1) dX7_lost_1 (by decide) ?_
  refine Bd_callS2i (cd := mX7_isWithin) (pc := 2) dX7_lost_2 k_448 v_X7_isWithin ⟨(Nat.le_of_ble_eq_true rfl), (Nat.le_of_ble_eq_true rfl)⟩ sem_X7_isWithin (Nat.le_of_ble_eq_true rfl) ?_
  refine Bd_if_ne (t := 10) (pc := 5) dX7_lost_5 (by decide) (fun b5 => ?_) (fun b5 => ?_)
  · refine Bd_aload_0 (pc := 10) dX7_lost_10 ?_
    refine Bd_getR (j := 2) ck7 (pc := 11) dX7_lost_11 k_237 rfl (Nat.le_of_ble_eq_true rfl) rfl ?_
    refine Bd_getI (j := 5) ck0 (pc := 14) dX7_lost_14 k_94 rfl (Nat.le_of_ble_eq_true rfl) rfl ?_
    refine Bd_if_ne (t := 23) (pc := 17) dX7_lost_17 (by decide) (fun b17 => ?_) (fun b17 => ?_)
    · refine Bd_iconst (v := 0) (pc := 23) dX7_lost_23 (by decide) ?_
      refine Bd_istore_2 (pc := 24) dX7_lost_24 (Nat.le_of_ble_eq_true rfl) rfl ?_
      refine Bd_iconst (v := 0) (pc := 25) dX7_lost_25 (by decide) ?_
      refine Bd_istore_3 (pc := 26) dX7_lost_26 (Nat.le_of_ble_eq_true rfl) rfl ?_
      refine Bd_nx (L' := (fun i => [some (.ref 0), some (.int k), some (.int (ctF (loP M) i)), some (.int (nI i))]) 0) ?_ (by repeat (first | exact True.intro | refine And.intro rfl ?_))
      refine Bd_for (pc := 27) (c := 81) (fun i => [some (.ref 0), some (.int k), some (.int (ctF (loP M) i)), some (.int (nI i))]) (fun _ => M) (fun i => k = 1 → fsF (loP M) i = -4) (fun ivi => ?_) (fun i hi ivi ihi => ?_) (fun _ => rfl)
      · refine Bd_iload_3 (pc := 27) dX7_lost_27 ?_
        refine Bd_bipush (v := 81) (pc := 28) dX7_lost_28 (by decide) ?_
        refine Bd_icmp_ge (t := 68) (pc := 30) dX7_lost_30 (by decide) (fun b30 => ?_) (fun b30 => (show False from lf_x (rfl : (81 : Int32) = nI 81) b30).elim)
        refine Bd_iload_1 (pc := 68) dX7_lost_68 ?_
        refine Bd_if_ne (t := 76) (pc := 69) dX7_lost_69 (by decide) (fun b69 => ?_) (fun b69 => ?_)
        · refine Bd_bipush (v := -4) (pc := 76) dX7_lost_76 (by decide) ?_
          refine Bd_iret (pc := 78) dX7_lost_78 rfl ?_
          exact PD_i (by rw [lostV, if_pos (b2_n.mp b5), if_neg b17, if_neg b69, ivi (k2_1 (b2_n.mp b5) b69)]) rfl
        · refine Bd_iload_2 (pc := 72) dX7_lost_72 ?_
          refine Bd_goto (t := 78) (pc := 73) dX7_lost_73 (by decide) ?_
          refine Bd_iret (pc := 78) dX7_lost_78 rfl ?_
          exact PD_i (by rw [lostV, if_pos (b2_n.mp b5), if_neg b17, if_pos b69]) rfl
      · refine Bd_iload_3 (pc := 27) dX7_lost_27 ?_
        refine Bd_bipush (v := 81) (pc := 28) dX7_lost_28 (by decide) ?_
        refine Bd_icmp_ge (t := 68) (pc := 30) dX7_lost_30 (by decide) (fun b30 => (show False from lf_s (rfl : (81 : Int32) = nI 81) (by decide) hi b30).elim) (fun b30 => ?_)
        refine Bd_aload_0 (pc := 33) dX7_lost_33 ?_
        refine Bd_getR (j := 8) ck7 (pc := 34) dX7_lost_34 k_243 rfl (Nat.le_of_ble_eq_true rfl) rfl ?_
        refine Bd_iload_3 (pc := 37) dX7_lost_37 ?_
        refine Bd_callV1i (cd := mX3_hasCell) (pc := 38) dX7_lost_38 k_481 v_X3_hasCell ⟨(Nat.le_of_ble_eq_true rfl), (Nat.le_of_ble_eq_true rfl)⟩ rfl rfl sem_X3_hasCell (Nat.le_of_ble_eq_true rfl) ?_
        refine Bd_if_eq (t := 62) (pc := 41) dX7_lost_41 (by decide) (fun b41 => ?_) (fun b41 => ?_)
        · refine Bd_iinc_3 (pc := 62) dX7_lost_62 (show _ + Int32.ofInt 1 = _ + 1 from rfl) (Nat.le_of_ble_eq_true rfl) rfl ?_
          refine Bd_goto (t := 27) (pc := 65) dX7_lost_65 (by decide) ?_
          have hP : (loP M) i = false := by simp only [loP, Bool.and_eq_false_iff, decide_eq_false_iff_not]; exact Or.inl (b2_0.mp b41)
          exact Bd_nx (ihi (fun q => by unfold fsF; rw [if_pos (ivi q), hP]; rfl)) (by simp [wkP, ctF, nI_succ, hP])
        · refine Bd_aload_0 (pc := 44) dX7_lost_44 ?_
          refine Bd_iload_3 (pc := 45) dX7_lost_45 ?_
          refine Bd_callV1i (cd := mX7_couldBeAt) (pc := 46) dX7_lost_46 k_706 v_X7_couldBeAt ⟨(Nat.le_of_ble_eq_true rfl), (Nat.le_of_ble_eq_true rfl)⟩ rfl rfl (sem_X7_couldBeAt h (h.nm0 b17)) (Nat.le_of_ble_eq_true rfl) ?_
          refine Bd_if_eq (t := 62) (pc := 49) dX7_lost_49 (by decide) (fun b49 => ?_) (fun b49 => ?_)
          · refine Bd_iinc_3 (pc := 62) dX7_lost_62 (show _ + Int32.ofInt 1 = _ + 1 from rfl) (Nat.le_of_ble_eq_true rfl) rfl ?_
            refine Bd_goto (t := 27) (pc := 65) dX7_lost_65 (by decide) ?_
            have hP : (loP M) i = false := by simp only [loP, Bool.and_eq_false_iff, decide_eq_false_iff_not]; exact Or.inr (b2_0.mp b49)
            exact Bd_nx (ihi (fun q => by unfold fsF; rw [if_pos (ivi q), hP]; rfl)) (by simp [wkP, ctF, nI_succ, hP])
          · refine Bd_iload_1 (pc := 52) dX7_lost_52 ?_
            refine Bd_iconst (v := 1) (pc := 53) dX7_lost_53 (by decide) ?_
            refine Bd_icmp_ne (t := 59) (pc := 54) dX7_lost_54 (by decide) (fun b54 => ?_) (fun b54 => ?_)
            · refine Bd_iinc_2 (pc := 59) dX7_lost_59 (show _ + Int32.ofInt 1 = _ + 1 from rfl) (Nat.le_of_ble_eq_true rfl) rfl ?_
              refine Bd_iinc_3 (pc := 62) dX7_lost_62 (show _ + Int32.ofInt 1 = _ + 1 from rfl) (Nat.le_of_ble_eq_true rfl) rfl ?_
              refine Bd_goto (t := 27) (pc := 65) dX7_lost_65 (by decide) ?_
              have hP : (loP M) i = true := by simp only [loP, Bool.and_eq_true, decide_eq_true_eq]; exact ⟨b2_n.mp b41, b2_n.mp b49⟩
              exact Bd_nx (ihi (fun q => absurd q b54)) (by simp [wkP, ctF, nI_succ, hP])
            · refine Bd_iload_3 (pc := 57) dX7_lost_57 ?_
              refine Bd_iret (pc := 58) dX7_lost_58 rfl ?_
              have hP : (loP M) i = true := by simp only [loP, Bool.and_eq_true, decide_eq_true_eq]; exact ⟨b2_n.mp b41, b2_n.mp b49⟩
              have he : fsF (loP M) (i + 1) = nI i := by unfold fsF; rw [if_pos (ivi b54), if_pos hP]
              exact PD_i (by rw [lostV, if_pos (b2_n.mp b5), if_neg b17, if_neg (by rw [b54]; decide), fsF_s (i := i + 1) (by rw [he]; exact nI_n4 hi) 81 hi, he]) rfl
    · refine Bd_bipush (v := -2) (pc := 20) dX7_lost_20 (by decide) ?_
      refine Bd_iret (pc := 22) dX7_lost_22 rfl ?_
      exact PD_i (by rw [lostV, if_pos (b2_n.mp b5), if_pos b17]) rfl
  · refine Bd_iconst (v := -1) (pc := 8) dX7_lost_8 (by decide) ?_
    refine Bd_iret (pc := 9) dX7_lost_9 rfl ?_
    exact PD_i (by rw [lostV, if_neg (b2_0.mp b5)]) rfl
set_option maxRecDepth 100000 in
set_option maxHeartbeats 4000000 in
theorem sem_X7_fits {M : Mem} (h : WF M) {c : Int32} : Sem mX7_fits SH [.ref 0, .int c] M (PD SH (some (.int (fitsV M c))) (M)) := by
  have q1 := h.nb24
  have q2 := h.nn12
  have q3 := h.nt6
  have q4 := h.nh3
  have q5 := h.nmb
  refine Sem_of rfl (fun G => (Nat.le_of_ble_eq_true rfl)) (fun G => ?_)
  refine Bd_aload_0 (pc := 0) dX7_fits_0 ?_
  refine Bd_getR (j := 8) ck7 (pc := 1) dX7_fits_1 k_243 rfl (Nat.le_of_ble_eq_true rfl) rfl ?_
  refine Bd_iload_1 (pc := 4) dX7_fits_4 ?_
  refine Bd_callV1i (cd := mX3_hasCell) (pc := 5) dX7_fits_5 k_481 v_X3_hasCell ⟨(Nat.le_of_ble_eq_true rfl), (Nat.le_of_ble_eq_true rfl)⟩ rfl rfl sem_X3_hasCell (Nat.le_of_ble_eq_true rfl) ?_
  refine Bd_if_ne (t := 13) (pc := 8) dX7_fits_8 (by decide) (fun b8 => ?_) (fun b8 => ?_)
  · refine Bd_aload_0 (pc := 13) dX7_fits_13 ?_
    refine Bd_getR (j := 2) ck7 (pc := 14) dX7_fits_14 k_237 rfl (Nat.le_of_ble_eq_true rfl) rfl ?_
    refine Bd_getI (j := 5) ck0 (pc := 17) dX7_fits_17 k_94 rfl (Nat.le_of_ble_eq_true rfl) rfl ?_
    refine Bd_if_ne (t := 26) (pc := 20) dX7_fits_20 (by decide) (fun b20 => ?_) (fun b20 => ?_)
    · refine Bd_iconst (v := 0) (pc := 26) dX7_fits_26 (by decide) ?_
      refine Bd_istore_2 (pc := 27) dX7_fits_27 (Nat.le_of_ble_eq_true rfl) rfl ?_
      refine Bd_iconst (v := 0) (pc := 28) dX7_fits_28 (by decide) ?_
      refine Bd_istore_3 (pc := 29) dX7_fits_29 (Nat.le_of_ble_eq_true rfl) rfl ?_
      refine Bd_nx (L' := (fun i => [some (.ref 0), some (.int c), some (.int (ftF M c i)), some (.int (nI i))]) 0) ?_ (by repeat (first | exact True.intro | refine And.intro rfl ?_))
      refine Bd_for (pc := 30) (c := (cn (M 5 5))) (fun i => [some (.ref 0), some (.int c), some (.int (ftF M c i)), some (.int (nI i))]) (fun _ => M) (fun _ => True) (fun ivi => ?_) (fun i hi ivi ihi => ?_) trivial
      · refine Bd_iload_3 (pc := 30) dX7_fits_30 ?_
        refine Bd_aload_0 (pc := 31) dX7_fits_31 ?_
        refine Bd_getR (j := 2) ck7 (pc := 32) dX7_fits_32 k_237 rfl (Nat.le_of_ble_eq_true rfl) rfl ?_
        refine Bd_getI (j := 5) ck0 (pc := 35) dX7_fits_35 k_94 rfl (Nat.le_of_ble_eq_true rfl) rfl ?_
        refine Bd_icmp_ge (t := 59) (pc := 38) dX7_fits_38 (by decide) (fun b38 => ?_) (fun b38 => (show False from lf_x h.nm b38).elim)
        refine Bd_iload_2 (pc := 59) dX7_fits_59 ?_
        refine Bd_iret (pc := 60) dX7_fits_60 rfl ?_
        exact PD_i (by rw [fitsV, if_pos (b2_n.mp b8), if_neg b20]) rfl
      · refine Bd_iload_3 (pc := 30) dX7_fits_30 ?_
        refine Bd_aload_0 (pc := 31) dX7_fits_31 ?_
        refine Bd_getR (j := 2) ck7 (pc := 32) dX7_fits_32 k_237 rfl (Nat.le_of_ble_eq_true rfl) rfl ?_
        refine Bd_getI (j := 5) ck0 (pc := 35) dX7_fits_35 k_94 rfl (Nat.le_of_ble_eq_true rfl) rfl ?_
        refine Bd_icmp_ge (t := 59) (pc := 38) dX7_fits_38 (by decide) (fun b38 => (show False from lf_s h.nm (by omega) hi b38).elim) (fun b38 => ?_)
        refine Bd_aload_0 (pc := 41) dX7_fits_41 ?_
        refine Bd_iload_3 (pc := 42) dX7_fits_42 ?_
        refine Bd_iload_1 (pc := 43) dX7_fits_43 ?_
        refine Bd_callV2i (cd := mX7_lateness) (pc := 44) dX7_fits_44 k_697 v_X7_lateness ⟨(Nat.le_of_ble_eq_true rfl), (Nat.le_of_ble_eq_true rfl)⟩ rfl rfl (sem_X7_lateness h (i := i) hi) (Nat.le_of_ble_eq_true rfl) ?_
        refine Bd_if_ne (t := 53) (pc := 47) dX7_fits_47 (by decide) (fun b47 => ?_) (fun b47 => ?_)
        · refine Bd_iinc_3 (pc := 53) dX7_fits_53 (show _ + Int32.ofInt 1 = _ + 1 from rfl) (Nat.le_of_ble_eq_true rfl) rfl ?_
          refine Bd_goto (t := 30) (pc := 56) dX7_fits_56 (by decide) ?_
          exact Bd_nx (ihi trivial) (by simp only [wkP, ftF, if_neg b47, nI_succ, and_self])
        · refine Bd_iinc_2 (pc := 50) dX7_fits_50 (show _ + Int32.ofInt 1 = _ + 1 from rfl) (Nat.le_of_ble_eq_true rfl) rfl ?_
          refine Bd_iinc_3 (pc := 53) dX7_fits_53 (show _ + Int32.ofInt 1 = _ + 1 from rfl) (Nat.le_of_ble_eq_true rfl) rfl ?_
          refine Bd_goto (t := 30) (pc := 56) dX7_fits_56 (by decide) ?_
          exact Bd_nx (ihi trivial) (by simp only [wkP, ftF, if_pos b47, nI_succ, and_self])
    · refine Bd_bipush (v := -2) (pc := 23) dX7_fits_23 (by decide) ?_
      refine Bd_iret (pc := 25) dX7_fits_25 rfl ?_
      exact PD_i (by rw [fitsV, if_pos (b2_n.mp b8), if_pos b20]) rfl
  · refine Bd_iconst (v := -1) (pc := 11) dX7_fits_11 (by decide) ?_
    refine Bd_iret (pc := 12) dX7_fits_12 rfl ?_
    exact PD_i (by rw [fitsV, if_neg (b2_0.mp b8)]) rfl
def wbF (M : Mem) (t c : Int32) : Nat → Option Int32
  | 0 => some 0
  | i + 1 => match wbF M t c i with
    | none => none
    | some x => if M 6 i = t then if ltF M i c = 0 ∨ 20 < abF (ltF M i c) ∨ (¬ x = 0 ∧ ¬ x = ltF M i c) then none else some (ltF M i c) else if ltF M i c = 0 then some x else none
theorem wbF_n {M : Mem} {t c : Int32} {i : Nat} (h : wbF M t c i = none) : ∀ j, i ≤ j → wbF M t c j = none
  | 0, hj => by rw [← Nat.le_zero.mp hj]; exact h
  | j + 1, hj => by
    rcases Nat.lt_or_ge i (j + 1) with q | q
    · unfold wbF; rw [wbF_n h j (by omega)]
    · rw [← show i = j + 1 by omega]; exact h
theorem wbF_s {M : Mem} {t c : Int32} {i : Nat} {x : Int32} (h : wbF M t c i = some x) : wbF M t c (i + 1) = if M 6 i = t then if ltF M i c = 0 ∨ 20 < abF (ltF M i c) ∨ (¬ x = 0 ∧ ¬ x = ltF M i c) then none else some (ltF M i c) else if ltF M i c = 0 then some x else none := by
  show (match wbF M t c i with | none => none | some x => _) = _
  rw [h]
abbrev wbV (M : Mem) (t c : Int32) : Int32 := (wbF M t c (cn (M 5 5))).getD 0
def wcF (M : Mem) (c : Int32) : Nat → Int32
  | 0 => 0
  | t + 1 => if wbV M (nI t) c = 0 then wcF M c t else wcF M c t + 1
/-- the first tower whose watch may be wrong (1), by how much and 100 (2) -/
def wtF (M : Mem) (c k : Int32) : Nat → Option Int32
  | 0 => none
  | t + 1 => match wtF M c k t with
    | some x => some x
    | none => if wbV M (nI t) c = 0 then none else some (if k = 1 then nI t else 100 + wbV M (nI t) c)
theorem wtF_s {M : Mem} {c k x : Int32} {i : Nat} (h : wtF M c k i = some x) : ∀ j, i ≤ j → wtF M c k j = some x
  | 0, hj => by rw [← Nat.le_zero.mp hj]; exact h
  | j + 1, hj => by
    rcases Nat.lt_or_ge i (j + 1) with q | q
    · unfold wtF; rw [wtF_s h j (by omega)]
    · rw [← show i = j + 1 by omega]; exact h
def watchV (M : Mem) (c k : Int32) : Int32 := if hcF M 45 c then if 0 ≤ k ∧ k < 3 then if M 5 5 = 0 then -2 else if k = 0 then wcF M c (cn (M 44 6)) else (wtF M c k (cn (M 44 6))).getD (-4) else -1 else -1
set_option maxRecDepth 100000 in
set_option maxHeartbeats 4000000 in
theorem sem_X7_wrongBy {M : Mem} (h : WF M) {t c : Int32} : Sem mX7_wrongBy SH [.ref 0, .int t, .int c] M (PD SH (some (.int (wbV M t c))) (M)) := by
  have q1 := h.nb24
  have q2 := h.nn12
  have q3 := h.nt6
  have q4 := h.nh3
  have q5 := h.nmb
  refine Sem_of rfl (fun G => (Nat.le_of_ble_eq_true rfl)) (fun G => ?_)
  refine Bd_iconst (v := 0) (pc := 0) dX7_wrongBy_0 (by decide) ?_
  refine Bd_istore_3 (pc := 1) dX7_wrongBy_1 (Nat.le_of_ble_eq_true rfl) rfl ?_
  refine Bd_iconst (v := 0) (pc := 2) dX7_wrongBy_2 (by decide) ?_
  refine Bd_istore_4 (pc := 3) dX7_wrongBy_3 (Nat.le_of_ble_eq_true rfl) rfl ?_
  refine Bd_nx (L' := (fun i => [some (.ref 0), some (.int t), some (.int c), some (.int ((wbF M t c i).getD 0)), some (.int (nI i)), none]) 0) ?_ (by repeat (first | exact True.intro | refine And.intro rfl ?_))
  refine Bd_for (pc := 5) (c := (cn (M 5 5))) (fun i => [some (.ref 0), some (.int t), some (.int c), some (.int ((wbF M t c i).getD 0)), some (.int (nI i)), none]) (fun _ => M) (fun i => ¬ wbF M t c i = none) (fun ivi => ?_) (fun i hi ivi ihi => ?_) (by simp [wbF])
  · refine Bd_iload_4 (pc := 5) dX7_wrongBy_5 ?_
    refine Bd_aload_0 (pc := 7) dX7_wrongBy_7 ?_
    refine Bd_getR (j := 2) ck7 (pc := 8) dX7_wrongBy_8 k_237 rfl (Nat.le_of_ble_eq_true rfl) rfl ?_
    refine Bd_getI (j := 5) ck0 (pc := 11) dX7_wrongBy_11 k_94 rfl (Nat.le_of_ble_eq_true rfl) rfl ?_
    refine Bd_icmp_ge (t := 83) (pc := 14) dX7_wrongBy_14 (by decide) (fun b14 => ?_) (fun b14 => (show False from lf_x h.nm b14).elim)
    refine Bd_iload_3 (pc := 83) dX7_wrongBy_83 ?_
    refine Bd_iret (pc := 84) dX7_wrongBy_84 rfl ?_
    exact PD_i rfl rfl
  · refine Bd_iload_4 (pc := 5) dX7_wrongBy_5 ?_
    refine Bd_aload_0 (pc := 7) dX7_wrongBy_7 ?_
    refine Bd_getR (j := 2) ck7 (pc := 8) dX7_wrongBy_8 k_237 rfl (Nat.le_of_ble_eq_true rfl) rfl ?_
    refine Bd_getI (j := 5) ck0 (pc := 11) dX7_wrongBy_11 k_94 rfl (Nat.le_of_ble_eq_true rfl) rfl ?_
    refine Bd_icmp_ge (t := 83) (pc := 14) dX7_wrongBy_14 (by decide) (fun b14 => (show False from lf_s h.nm (by omega) hi b14).elim) (fun b14 => ?_)
    obtain ⟨x, ex⟩ := Option.ne_none_iff_exists'.mp ivi
    rw [ex, Option.getD_some]
    refine Bd_aload_0 (pc := 17) dX7_wrongBy_17 ?_
    refine Bd_iload_4 (pc := 18) dX7_wrongBy_18 ?_
    refine Bd_iload_2 (pc := 20) dX7_wrongBy_20 ?_
    refine Bd_callV2i (cd := mX7_lateness) (pc := 21) dX7_wrongBy_21 k_697 v_X7_lateness ⟨(Nat.le_of_ble_eq_true rfl), (Nat.le_of_ble_eq_true rfl)⟩ rfl rfl (sem_X7_lateness h (i := i) hi) (Nat.le_of_ble_eq_true rfl) ?_
    refine Bd_istore_5 (pc := 24) dX7_wrongBy_24 (Nat.le_of_ble_eq_true rfl) rfl ?_
    refine Bd_aload_0 (pc := 26) dX7_wrongBy_26 ?_
    refine Bd_getR (j := 2) ck7 (pc := 27) dX7_wrongBy_27 k_237 rfl (Nat.le_of_ble_eq_true rfl) rfl ?_
    refine Bd_getR (j := 0) ck0 (pc := 30) dX7_wrongBy_30 k_84 rfl (Nat.le_of_ble_eq_true rfl) rfl ?_
    refine Bd_iload_4 (pc := 33) dX7_wrongBy_33 ?_
    refine Bd_ialdc (j := i) (nI_clamp (by omega)) (pc := 35) dX7_wrongBy_35 rfl (vpi (by omega) (by omega)) ?_
    refine Bd_iload_1 (pc := 36) dX7_wrongBy_36 ?_
    refine Bd_icmp_eq (t := 47) (pc := 37) dX7_wrongBy_37 (by decide) (fun b37 => ?_) (fun b37 => ?_)
    · refine Bd_iload_5 (pc := 47) dX7_wrongBy_47 ?_
      refine Bd_if_eq (t := 72) (pc := 49) dX7_wrongBy_49 (by decide) (fun b49 => ?_) (fun b49 => ?_)
      · refine Bd_iconst (v := 0) (pc := 72) dX7_wrongBy_72 (by decide) ?_
        refine Bd_iret (pc := 73) dX7_wrongBy_73 rfl ?_
        have hz : wbF M t c (i + 1) = none := by rw [wbF_s ex, if_pos b37, if_pos (Or.inl b49)]
        exact PD_i (by rw [wbV, wbF_n hz _ hi]; rfl) rfl
      · refine Bd_iload_5 (pc := 52) dX7_wrongBy_52 ?_
        refine Bd_mabs (pc := 54) dX7_wrongBy_54 k_701 k_500 k_14 k_501 (Nat.le_of_ble_eq_true rfl) (Nat.le_of_ble_eq_true rfl) ?_
        refine Bd_bipush (v := 20) (pc := 57) dX7_wrongBy_57 (by decide) ?_
        refine Bd_icmp_gt (t := 72) (pc := 59) dX7_wrongBy_59 (by decide) (fun b59 => ?_) (fun b59 => ?_)
        · refine Bd_iconst (v := 0) (pc := 72) dX7_wrongBy_72 (by decide) ?_
          refine Bd_iret (pc := 73) dX7_wrongBy_73 rfl ?_
          have hz : wbF M t c (i + 1) = none := by rw [wbF_s ex, if_pos b37, if_pos (show _ ∨ 20 < abF (ltF M i c) ∨ _ from Or.inr (Or.inl b59))]
          exact PD_i (by rw [wbV, wbF_n hz _ hi]; rfl) rfl
        · refine Bd_iload_3 (pc := 62) dX7_wrongBy_62 ?_
          refine Bd_if_eq (t := 74) (pc := 63) dX7_wrongBy_63 (by decide) (fun b63 => ?_) (fun b63 => ?_)
          · refine Bd_iload_5 (pc := 74) dX7_wrongBy_74 ?_
            refine Bd_istore_3 (pc := 76) dX7_wrongBy_76 (Nat.le_of_ble_eq_true rfl) rfl ?_
            refine Bd_iinc_4 (pc := 77) dX7_wrongBy_77 (show _ + Int32.ofInt 1 = _ + 1 from rfl) (Nat.le_of_ble_eq_true rfl) rfl ?_
            refine Bd_goto (t := 5) (pc := 80) dX7_wrongBy_80 (by decide) ?_
            have hz : wbF M t c (i + 1) = some (ltF M i c) := by rw [wbF_s ex, if_pos b37, if_neg (fun q => q.elim b49 (fun q => q.elim b59 (fun q => q.1 b63)))]
            exact Bd_nx (ihi (by rw [hz]; exact fun q => by cases q)) (by simp [wkP, nI_succ, hz])
          · refine Bd_iload_3 (pc := 66) dX7_wrongBy_66 ?_
            refine Bd_iload_5 (pc := 67) dX7_wrongBy_67 ?_
            refine Bd_icmp_eq (t := 74) (pc := 69) dX7_wrongBy_69 (by decide) (fun b69 => ?_) (fun b69 => ?_)
            · refine Bd_iload_5 (pc := 74) dX7_wrongBy_74 ?_
              refine Bd_istore_3 (pc := 76) dX7_wrongBy_76 (Nat.le_of_ble_eq_true rfl) rfl ?_
              refine Bd_iinc_4 (pc := 77) dX7_wrongBy_77 (show _ + Int32.ofInt 1 = _ + 1 from rfl) (Nat.le_of_ble_eq_true rfl) rfl ?_
              refine Bd_goto (t := 5) (pc := 80) dX7_wrongBy_80 (by decide) ?_
              have hz : wbF M t c (i + 1) = some (ltF M i c) := by rw [wbF_s ex, if_pos b37, if_neg (fun q => q.elim b49 (fun q => q.elim b59 (fun q => q.2 b69)))]
              exact Bd_nx (ihi (by rw [hz]; exact fun q => by cases q)) (by simp [wkP, nI_succ, hz])
            · refine Bd_iconst (v := 0) (pc := 72) dX7_wrongBy_72 (by decide) ?_
              refine Bd_iret (pc := 73) dX7_wrongBy_73 rfl ?_
              have hz : wbF M t c (i + 1) = none := by rw [wbF_s ex, if_pos b37, if_pos (Or.inr (Or.inr ⟨b63, b69⟩))]
              exact PD_i (by rw [wbV, wbF_n hz _ hi]; rfl) rfl
    · refine Bd_iload_5 (pc := 40) dX7_wrongBy_40 ?_
      refine Bd_if_eq (t := 77) (pc := 42) dX7_wrongBy_42 (by decide) (fun b42 => ?_) (fun b42 => ?_)
      · refine Bd_iinc_4 (pc := 77) dX7_wrongBy_77 (show _ + Int32.ofInt 1 = _ + 1 from rfl) (Nat.le_of_ble_eq_true rfl) rfl ?_
        refine Bd_goto (t := 5) (pc := 80) dX7_wrongBy_80 (by decide) ?_
        have hz : wbF M t c (i + 1) = some x := by rw [wbF_s ex, if_neg b37, if_pos b42]
        exact Bd_nx (ihi (by rw [hz]; exact fun q => by cases q)) (by simp [wkP, nI_succ, hz])
      · refine Bd_iconst (v := 0) (pc := 45) dX7_wrongBy_45 (by decide) ?_
        refine Bd_iret (pc := 46) dX7_wrongBy_46 rfl ?_
        have hz : wbF M t c (i + 1) = none := by rw [wbF_s ex, if_neg b37, if_neg b42]
        exact PD_i (by rw [wbV, wbF_n hz _ hi]; rfl) rfl
set_option maxRecDepth 100000 in
set_option maxHeartbeats 4000000 in
theorem sem_X7_watch {M : Mem} (h : WF M) {c k : Int32} : Sem mX7_watch SH [.ref 0, .int c, .int k] M (PD SH (some (.int (watchV M c k))) (M)) := by
  have q1 := h.nb24
  have q2 := h.nn12
  have q3 := h.nt6
  have q4 := h.nh3
  have q5 := h.nmb
  refine Sem_of rfl (fun G => (Nat.le_of_ble_eq_true rfl)) (fun G => ?_)
  refine Bd_aload_0 (pc := 0) dX7_watch_0 ?_
  refine Bd_getR (j := 8) ck7 (pc := 1) dX7_watch_1 k_243 rfl (Nat.le_of_ble_eq_true rfl) rfl ?_
  refine Bd_iload_1 (pc := 4) dX7_watch_4 ?_
  refine Bd_callV1i (cd := mX3_hasCell) (pc := 5) dX7_watch_5 k_481 v_X3_hasCell ⟨(Nat.le_of_ble_eq_true rfl), (Nat.le_of_ble_eq_true rfl)⟩ rfl rfl sem_X3_hasCell (Nat.le_of_ble_eq_true rfl) ?_
  refine Bd_if_eq (t := 19) (pc := 8) dX7_watch_8 (by decide) (fun b8 => ?_) (fun b8 => ?_)
  · refine Bd_iconst (v := -1) (pc := 19) dX7_watch_19 (by decide) ?_
    refine Bd_iret (pc := 20) dX7_watch_20 rfl ?_
    exact PD_i (by rw [watchV, if_neg (b2_0.mp b8)]) rfl
  · refine Bd_iload_2 (pc := 11) dX7_watch_11 ?_
    refine Bd_iconst (v := 3) (pc := 12) dX7_watch_12 (by decide) ?_
    refine Bd_callS2i (cd := mX7_isWithin) (pc := 13) dX7_watch_13 k_448 v_X7_isWithin ⟨(Nat.le_of_ble_eq_true rfl), (Nat.le_of_ble_eq_true rfl)⟩ sem_X7_isWithin (Nat.le_of_ble_eq_true rfl) ?_
    refine Bd_if_ne (t := 21) (pc := 16) dX7_watch_16 (by decide) (fun b16 => ?_) (fun b16 => ?_)
    · refine Bd_aload_0 (pc := 21) dX7_watch_21 ?_
      refine Bd_getR (j := 2) ck7 (pc := 22) dX7_watch_22 k_237 rfl (Nat.le_of_ble_eq_true rfl) rfl ?_
      refine Bd_getI (j := 5) ck0 (pc := 25) dX7_watch_25 k_94 rfl (Nat.le_of_ble_eq_true rfl) rfl ?_
      refine Bd_if_ne (t := 34) (pc := 28) dX7_watch_28 (by decide) (fun b28 => ?_) (fun b28 => ?_)
      · refine Bd_iconst (v := 0) (pc := 34) dX7_watch_34 (by decide) ?_
        refine Bd_istore_3 (pc := 35) dX7_watch_35 (Nat.le_of_ble_eq_true rfl) rfl ?_
        refine Bd_iconst (v := 0) (pc := 36) dX7_watch_36 (by decide) ?_
        refine Bd_istore_4 (pc := 37) dX7_watch_37 (Nat.le_of_ble_eq_true rfl) rfl ?_
        refine Bd_nx (L' := (fun i => [some (.ref 0), some (.int c), some (.int k), some (.int (wcF M c i)), some (.int (nI i)), none]) 0) ?_ (by repeat (first | exact True.intro | refine And.intro rfl ?_))
        refine Bd_for (pc := 39) (c := (cn (M 44 6))) (fun i => [some (.ref 0), some (.int c), some (.int k), some (.int (wcF M c i)), some (.int (nI i)), none]) (fun _ => M) (fun i => ¬ k = 0 → wtF M c k i = none) (fun ivi => ?_) (fun i hi ivi ihi => ?_) (fun _ => rfl)
        · refine Bd_iload_4 (pc := 39) dX7_watch_39 ?_
          refine Bd_aload_0 (pc := 41) dX7_watch_41 ?_
          refine Bd_getR (j := 8) ck7 (pc := 42) dX7_watch_42 k_243 rfl (Nat.le_of_ble_eq_true rfl) rfl ?_
          refine Bd_getI (j := 6) ck3 (pc := 45) dX7_watch_45 k_165 rfl (Nat.le_of_ble_eq_true rfl) rfl ?_
          refine Bd_icmp_ge (t := 94) (pc := 48) dX7_watch_48 (by decide) (fun b48 => ?_) (fun b48 => (show False from lf_x h.nt b48).elim)
          refine Bd_iload_2 (pc := 94) dX7_watch_94 ?_
          refine Bd_if_ne (t := 102) (pc := 95) dX7_watch_95 (by decide) (fun b95 => ?_) (fun b95 => ?_)
          · refine Bd_bipush (v := -4) (pc := 102) dX7_watch_102 (by decide) ?_
            refine Bd_iret (pc := 104) dX7_watch_104 rfl ?_
            exact PD_i (by rw [watchV, if_pos (b2_n.mp b8), if_pos (b2_n.mp b16), if_neg b28, if_neg b95, ivi b95]; rfl) rfl
          · refine Bd_iload_3 (pc := 98) dX7_watch_98 ?_
            refine Bd_goto (t := 104) (pc := 99) dX7_watch_99 (by decide) ?_
            refine Bd_iret (pc := 104) dX7_watch_104 rfl ?_
            exact PD_i (by rw [watchV, if_pos (b2_n.mp b8), if_pos (b2_n.mp b16), if_neg b28, if_pos b95]) rfl
        · refine Bd_iload_4 (pc := 39) dX7_watch_39 ?_
          refine Bd_aload_0 (pc := 41) dX7_watch_41 ?_
          refine Bd_getR (j := 8) ck7 (pc := 42) dX7_watch_42 k_243 rfl (Nat.le_of_ble_eq_true rfl) rfl ?_
          refine Bd_getI (j := 6) ck3 (pc := 45) dX7_watch_45 k_165 rfl (Nat.le_of_ble_eq_true rfl) rfl ?_
          refine Bd_icmp_ge (t := 94) (pc := 48) dX7_watch_48 (by decide) (fun b48 => (show False from lf_s h.nt (by omega) hi b48).elim) (fun b48 => ?_)
          refine Bd_aload_0 (pc := 51) dX7_watch_51 ?_
          refine Bd_iload_4 (pc := 52) dX7_watch_52 ?_
          refine Bd_iload_1 (pc := 54) dX7_watch_54 ?_
          refine Bd_callV2i (cd := mX7_wrongBy) (pc := 55) dX7_watch_55 k_693 v_X7_wrongBy ⟨(Nat.le_of_ble_eq_true rfl), (Nat.le_of_ble_eq_true rfl)⟩ rfl rfl (sem_X7_wrongBy h) (Nat.le_of_ble_eq_true rfl) ?_
          refine Bd_istore_5 (pc := 58) dX7_watch_58 (Nat.le_of_ble_eq_true rfl) rfl ?_
          refine Bd_iload_5 (pc := 60) dX7_watch_60 ?_
          refine Bd_if_eq (t := 88) (pc := 62) dX7_watch_62 (by decide) (fun b62 => ?_) (fun b62 => ?_)
          · refine Bd_iinc_4 (pc := 88) dX7_watch_88 (show _ + Int32.ofInt 1 = _ + 1 from rfl) (Nat.le_of_ble_eq_true rfl) rfl ?_
            refine Bd_goto (t := 39) (pc := 91) dX7_watch_91 (by decide) ?_
            exact Bd_nx (ihi (fun q => by unfold wtF; rw [ivi q]; simp only [if_pos b62])) (by simp only [wkP, wcF, if_pos b62, nI_succ, and_self])
          · refine Bd_iload_2 (pc := 65) dX7_watch_65 ?_
            refine Bd_if_eq (t := 85) (pc := 66) dX7_watch_66 (by decide) (fun b66 => ?_) (fun b66 => ?_)
            · refine Bd_iinc_3 (pc := 85) dX7_watch_85 (show _ + Int32.ofInt 1 = _ + 1 from rfl) (Nat.le_of_ble_eq_true rfl) rfl ?_
              refine Bd_iinc_4 (pc := 88) dX7_watch_88 (show _ + Int32.ofInt 1 = _ + 1 from rfl) (Nat.le_of_ble_eq_true rfl) rfl ?_
              refine Bd_goto (t := 39) (pc := 91) dX7_watch_91 (by decide) ?_
              exact Bd_nx (ihi (fun q => absurd b66 q)) (by simp only [wkP, wcF, if_neg b62, nI_succ, and_self])
            · refine Bd_iload_2 (pc := 69) dX7_watch_69 ?_
              refine Bd_iconst (v := 1) (pc := 70) dX7_watch_70 (by decide) ?_
              refine Bd_icmp_ne (t := 79) (pc := 71) dX7_watch_71 (by decide) (fun b71 => ?_) (fun b71 => ?_)
              · refine Bd_bipush (v := 100) (pc := 79) dX7_watch_79 (by decide) ?_
                refine Bd_iload_5 (pc := 81) dX7_watch_81 ?_
                refine Bd_iadd (pc := 83) dX7_watch_83 ?_
                refine Bd_iret (pc := 84) dX7_watch_84 rfl ?_
                have hz : wtF M c k (i + 1) = some (if k = 1 then nI i else 100 + wbV M (nI i) c) := by { unfold wtF; rw [ivi b66]; simp only [if_neg b62] }
                exact PD_i (by rw [watchV, if_pos (b2_n.mp b8), if_pos (b2_n.mp b16), if_neg b28, if_neg b66, wtF_s hz _ hi, Option.getD_some, if_neg b71]) rfl
              · refine Bd_iload_4 (pc := 74) dX7_watch_74 ?_
                refine Bd_goto (t := 84) (pc := 76) dX7_watch_76 (by decide) ?_
                refine Bd_iret (pc := 84) dX7_watch_84 rfl ?_
                have hz : wtF M c k (i + 1) = some (if k = 1 then nI i else 100 + wbV M (nI i) c) := by { unfold wtF; rw [ivi b66]; simp only [if_neg b62] }
                exact PD_i (by rw [watchV, if_pos (b2_n.mp b8), if_pos (b2_n.mp b16), if_neg b28, if_neg b66, wtF_s hz _ hi, Option.getD_some, if_pos b71]) rfl
      · refine Bd_bipush (v := -2) (pc := 31) dX7_watch_31 (by decide) ?_
        refine Bd_iret (pc := 33) dX7_watch_33 rfl ?_
        exact PD_i (by rw [watchV, if_pos (b2_n.mp b8), if_pos (b2_n.mp b16), if_pos b28]) rfl
    · refine Bd_iconst (v := -1) (pc := 19) dX7_watch_19 (by decide) ?_
      refine Bd_iret (pc := 20) dX7_watch_20 rfl ?_
      exact PD_i (by rw [watchV, if_pos (b2_n.mp b8), if_neg (b2_0.mp b16)]) rfl
