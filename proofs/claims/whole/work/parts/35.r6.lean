/-! 35: the reference: off, near, lost -/
theorem RF.n5 {C M : Mem} (h : RF C M) : M 58 5 = C 44 8 := h.2.1.2.2.2.2.2.2.1
theorem RF.nn' {C M : Mem} (h : RF C M) : M 58 5 = nI (cn (C 44 8)) := by rw [h.n5]; exact h.1.nn
theorem RF.nb' {C M : Mem} (h : RF C M) {i : Nat} (hi : i < cn (C 44 8)) : M 62 (2 * i) = C 49 i := (h.2.1.2.2.2.2.2.2.2 i hi).1
theorem RF.nt' {C M : Mem} (h : RF C M) {i : Nat} (hi : i < cn (C 44 8)) : M 62 (2 * i + 1) = C 50 i := (h.2.1.2.2.2.2.2.2.2 i hi).2
theorem nn_pos {C : Mem} (h : WF C) : 0 < C 44 8 ↔ ¬ C 44 8 = 0 := by
  have h1 := h.1.2.1.2.2.1
  rw [Int32.lt_iff_toInt_lt, ← Int32.toInt_inj, Int32.toInt_zero]
  omega
abbrev alF (C : Mem) (i : Nat) : Prop := C 5 4 = C 44 8 ∧ ¬ C 44 8 = 0 ∧ ∀ j, j < i → C 8 j = C 50 j
set_option maxRecDepth 100000 in
set_option maxHeartbeats 4000000 in
theorem sem_X8_areLike {C M : Mem} (h : RF C M)  : Sem mX8_areLike SH [.ref 58] M (PD SH (some (.int (b2 (asF C)))) (M)) := by
  have q1 := h.1.nb24
  have q2 := h.1.nn12
  have q4 := h.1.nh3
  have q5 := h.1.nmb
  refine Sem_of rfl (fun G => (Nat.le_of_ble_eq_true rfl)) (fun G => ?_)
  refine Bd_aload_0 (pc := 0) dX8_areLike_0 ?_
  refine Bd_callV0i (cd := mX8_blows) (pc := 1) dX8_areLike_1 k_996 v_X8_blows ⟨(Nat.le_of_ble_eq_true rfl), (Nat.le_of_ble_eq_true rfl)⟩ rfl rfl (sem_X8_blows h) (Nat.le_of_ble_eq_true rfl) ?_
  refine Bd_aload_0 (pc := 4) dX8_areLike_4 ?_
  refine Bd_getI (j := 5) ck8 (pc := 5) dX8_areLike_5 k_791 rfl (Nat.le_of_ble_eq_true rfl) rfl ?_
  refine Bd_icmp_ne (t := 22) (pc := 8) dX8_areLike_8 (by decide) (fun b8 => ?_) (fun b8 => ?_)
  · refine Bd_iconst (v := 0) (pc := 22) dX8_areLike_22 (by decide) ?_
    refine Bd_istore_1 (pc := 23) dX8_areLike_23 (Nat.le_of_ble_eq_true rfl) rfl ?_
    refine Bd_iconst (v := 0) (pc := 24) dX8_areLike_24 (by decide) ?_
    refine Bd_istore_2 (pc := 25) dX8_areLike_25 (Nat.le_of_ble_eq_true rfl) rfl ?_
    refine Bd_nx (L' := [some (.ref 58), some (.int (b2 (alF C 0))), some (.int (nI 0))]) ?_ ⟨rfl, congrArg (fun x => some (Value.int x)) (b2_f (fun z => b8 (by rw [h.n5]; exact z.1))), rfl, trivial⟩
    refine Bd_for (pc := 26) (c := (cn (C 44 8))) (fun i => [some (.ref 58), some (.int (b2 (alF C i))), some (.int (nI i))]) (fun _ => M) (fun _ => True) (fun ivi => ?_) (fun i hi ivi ihi => ?_) trivial
    · refine Bd_iload_2 (pc := 26) dX8_areLike_26 ?_
      refine Bd_aload_0 (pc := 27) dX8_areLike_27 ?_
      refine Bd_getI (j := 5) ck8 (pc := 28) dX8_areLike_28 k_791 rfl (Nat.le_of_ble_eq_true rfl) rfl ?_
      refine Bd_icmp_ge (t := 68) (pc := 31) dX8_areLike_31 (by decide) (fun b31 => ?_) (fun b31 => (show False from lf_x h.nn' b31).elim)
      refine Bd_iload_1 (pc := 68) dX8_areLike_68 ?_
      refine Bd_zret (pc := 69) dX8_areLike_69 rfl b2_nar ?_
      exact PD_i (b2_c ⟨fun z => ⟨z.2.1, z.1, z.2.2⟩, fun z => ⟨z.2.1, z.1, z.2.2⟩⟩) rfl
    · refine Bd_iload_2 (pc := 26) dX8_areLike_26 ?_
      refine Bd_aload_0 (pc := 27) dX8_areLike_27 ?_
      refine Bd_getI (j := 5) ck8 (pc := 28) dX8_areLike_28 k_791 rfl (Nat.le_of_ble_eq_true rfl) rfl ?_
      refine Bd_icmp_ge (t := 68) (pc := 31) dX8_areLike_31 (by decide) (fun b31 => (show False from lf_s h.nn' (by omega) hi b31).elim) (fun b31 => ?_)
      refine Bd_iload_1 (pc := 34) dX8_areLike_34 ?_
      refine Bd_if_eq (t := 68) (pc := 35) dX8_areLike_35 (by decide) (fun b35 => ?_) (fun b35 => ?_)
      · refine Bd_iload_1 (pc := 68) dX8_areLike_68 ?_
        refine Bd_zret (pc := 69) dX8_areLike_69 rfl b2_nar ?_
        exact PD_i (b2_c ⟨fun z => absurd z (b2_0.mp b35), fun z => absurd ⟨z.2.1, z.1, fun j hj => z.2.2 j (by omega)⟩ (b2_0.mp b35)⟩) rfl
      · refine Bd_aload_0 (pc := 38) dX8_areLike_38 ?_
        refine Bd_iload_2 (pc := 39) dX8_areLike_39 ?_
        refine Bd_callV1i (cd := mX8_toneOf) (pc := 40) dX8_areLike_40 k_1004 v_X8_toneOf ⟨(Nat.le_of_ble_eq_true rfl), (Nat.le_of_ble_eq_true rfl)⟩ rfl rfl (sem_X8_toneOf h (i := i) (by rw [(b2_n.mp b35).1]; exact hi)) (Nat.le_of_ble_eq_true rfl) ?_
        refine Bd_aload_0 (pc := 43) dX8_areLike_43 ?_
        refine Bd_getR (j := 4) ck8 (pc := 44) dX8_areLike_44 k_790 rfl (Nat.le_of_ble_eq_true rfl) rfl ?_
        refine Bd_iconst (v := 2) (pc := 47) dX8_areLike_47 (by decide) ?_
        refine Bd_iload_2 (pc := 48) dX8_areLike_48 ?_
        refine Bd_imul (pc := 49) dX8_areLike_49 ?_
        refine Bd_iconst (v := 1) (pc := 50) dX8_areLike_50 (by decide) ?_
        refine Bd_iadd (pc := 51) dX8_areLike_51 ?_
        refine Bd_ialdc (j := 2 * i + 1) (by rw [tn3 i (by omega)]; exact nI_clamp (by omega)) (pc := 52) dX8_areLike_52 rfl (by rw [tn3 i (by omega)]; exact vpi (by omega) (by omega)) ?_
        rw [h.nt' hi]
        refine Bd_icmp_ne (t := 60) (pc := 53) dX8_areLike_53 (by decide) (fun b53 => ?_) (fun b53 => ?_)
        · refine Bd_iconst (v := 0) (pc := 60) dX8_areLike_60 (by decide) ?_
          refine Bd_istore_1 (pc := 61) dX8_areLike_61 (Nat.le_of_ble_eq_true rfl) rfl ?_
          refine Bd_iinc_2 (pc := 62) dX8_areLike_62 (show _ + Int32.ofInt 1 = _ + 1 from rfl) (Nat.le_of_ble_eq_true rfl) rfl ?_
          refine Bd_goto (t := 26) (pc := 65) dX8_areLike_65 (by decide) ?_
          have z := b2_n.mp b35
          exact Bd_nx (ihi trivial) ⟨rfl, congrArg (fun x => some (Value.int x)) (b2_f (fun y => b53 (y.2.2 i (by omega)))), congrArg (fun x => some (Value.int x)) (nI_succ i).symm, trivial⟩
        · refine Bd_iconst (v := 1) (pc := 56) dX8_areLike_56 (by decide) ?_
          refine Bd_goto (t := 61) (pc := 57) dX8_areLike_57 (by decide) ?_
          refine Bd_istore_1 (pc := 61) dX8_areLike_61 (Nat.le_of_ble_eq_true rfl) rfl ?_
          refine Bd_iinc_2 (pc := 62) dX8_areLike_62 (show _ + Int32.ofInt 1 = _ + 1 from rfl) (Nat.le_of_ble_eq_true rfl) rfl ?_
          refine Bd_goto (t := 26) (pc := 65) dX8_areLike_65 (by decide) ?_
          have z := b2_n.mp b35
          exact Bd_nx (ihi trivial) ⟨rfl, congrArg (fun x => some (Value.int x)) (b2_t ⟨z.1, z.2.1, fun j hj => by rcases Nat.lt_succ_iff_lt_or_eq.mp hj with q | q; exact z.2.2 j q; rw [q]; exact b53⟩), congrArg (fun x => some (Value.int x)) (nI_succ i).symm, trivial⟩
  · refine Bd_aload_0 (pc := 11) dX8_areLike_11 ?_
    refine Bd_getI (j := 5) ck8 (pc := 12) dX8_areLike_12 k_791 rfl (Nat.le_of_ble_eq_true rfl) rfl ?_
    refine Bd_if_le (t := 22) (pc := 15) dX8_areLike_15 (by decide) (fun b15 => ?_) (fun b15 => ?_)
    · refine Bd_iconst (v := 0) (pc := 22) dX8_areLike_22 (by decide) ?_
      refine Bd_istore_1 (pc := 23) dX8_areLike_23 (Nat.le_of_ble_eq_true rfl) rfl ?_
      refine Bd_iconst (v := 0) (pc := 24) dX8_areLike_24 (by decide) ?_
      refine Bd_istore_2 (pc := 25) dX8_areLike_25 (Nat.le_of_ble_eq_true rfl) rfl ?_
      refine Bd_nx (L' := [some (.ref 58), some (.int (b2 (alF C 0))), some (.int (nI 0))]) ?_ ⟨rfl, congrArg (fun x => some (Value.int x)) (b2_f (fun z => z.2.1 (by have y := h.n5; rw [y] at b15; exact Classical.byContradiction (fun q => Int32.not_lt.mpr b15 ((nn_pos h.1).mpr q))))), rfl, trivial⟩
      refine Bd_for (pc := 26) (c := (cn (C 44 8))) (fun i => [some (.ref 58), some (.int (b2 (alF C i))), some (.int (nI i))]) (fun _ => M) (fun _ => True) (fun ivi => ?_) (fun i hi ivi ihi => ?_) trivial
      · refine Bd_iload_2 (pc := 26) dX8_areLike_26 ?_
        refine Bd_aload_0 (pc := 27) dX8_areLike_27 ?_
        refine Bd_getI (j := 5) ck8 (pc := 28) dX8_areLike_28 k_791 rfl (Nat.le_of_ble_eq_true rfl) rfl ?_
        refine Bd_icmp_ge (t := 68) (pc := 31) dX8_areLike_31 (by decide) (fun b31 => ?_) (fun b31 => (show False from lf_x h.nn' b31).elim)
        refine Bd_iload_1 (pc := 68) dX8_areLike_68 ?_
        refine Bd_zret (pc := 69) dX8_areLike_69 rfl b2_nar ?_
        exact PD_i (b2_c ⟨fun z => ⟨z.2.1, z.1, z.2.2⟩, fun z => ⟨z.2.1, z.1, z.2.2⟩⟩) rfl
      · refine Bd_iload_2 (pc := 26) dX8_areLike_26 ?_
        refine Bd_aload_0 (pc := 27) dX8_areLike_27 ?_
        refine Bd_getI (j := 5) ck8 (pc := 28) dX8_areLike_28 k_791 rfl (Nat.le_of_ble_eq_true rfl) rfl ?_
        refine Bd_icmp_ge (t := 68) (pc := 31) dX8_areLike_31 (by decide) (fun b31 => (show False from lf_s h.nn' (by omega) hi b31).elim) (fun b31 => ?_)
        refine Bd_iload_1 (pc := 34) dX8_areLike_34 ?_
        refine Bd_if_eq (t := 68) (pc := 35) dX8_areLike_35 (by decide) (fun b35 => ?_) (fun b35 => ?_)
        · refine Bd_iload_1 (pc := 68) dX8_areLike_68 ?_
          refine Bd_zret (pc := 69) dX8_areLike_69 rfl b2_nar ?_
          exact PD_i (b2_c ⟨fun z => absurd z (b2_0.mp b35), fun z => absurd ⟨z.2.1, z.1, fun j hj => z.2.2 j (by omega)⟩ (b2_0.mp b35)⟩) rfl
        · refine Bd_aload_0 (pc := 38) dX8_areLike_38 ?_
          refine Bd_iload_2 (pc := 39) dX8_areLike_39 ?_
          refine Bd_callV1i (cd := mX8_toneOf) (pc := 40) dX8_areLike_40 k_1004 v_X8_toneOf ⟨(Nat.le_of_ble_eq_true rfl), (Nat.le_of_ble_eq_true rfl)⟩ rfl rfl (sem_X8_toneOf h (i := i) (by rw [(b2_n.mp b35).1]; exact hi)) (Nat.le_of_ble_eq_true rfl) ?_
          refine Bd_aload_0 (pc := 43) dX8_areLike_43 ?_
          refine Bd_getR (j := 4) ck8 (pc := 44) dX8_areLike_44 k_790 rfl (Nat.le_of_ble_eq_true rfl) rfl ?_
          refine Bd_iconst (v := 2) (pc := 47) dX8_areLike_47 (by decide) ?_
          refine Bd_iload_2 (pc := 48) dX8_areLike_48 ?_
          refine Bd_imul (pc := 49) dX8_areLike_49 ?_
          refine Bd_iconst (v := 1) (pc := 50) dX8_areLike_50 (by decide) ?_
          refine Bd_iadd (pc := 51) dX8_areLike_51 ?_
          refine Bd_ialdc (j := 2 * i + 1) (by rw [tn3 i (by omega)]; exact nI_clamp (by omega)) (pc := 52) dX8_areLike_52 rfl (by rw [tn3 i (by omega)]; exact vpi (by omega) (by omega)) ?_
          rw [h.nt' hi]
          refine Bd_icmp_ne (t := 60) (pc := 53) dX8_areLike_53 (by decide) (fun b53 => ?_) (fun b53 => ?_)
          · refine Bd_iconst (v := 0) (pc := 60) dX8_areLike_60 (by decide) ?_
            refine Bd_istore_1 (pc := 61) dX8_areLike_61 (Nat.le_of_ble_eq_true rfl) rfl ?_
            refine Bd_iinc_2 (pc := 62) dX8_areLike_62 (show _ + Int32.ofInt 1 = _ + 1 from rfl) (Nat.le_of_ble_eq_true rfl) rfl ?_
            refine Bd_goto (t := 26) (pc := 65) dX8_areLike_65 (by decide) ?_
            have z := b2_n.mp b35
            exact Bd_nx (ihi trivial) ⟨rfl, congrArg (fun x => some (Value.int x)) (b2_f (fun y => b53 (y.2.2 i (by omega)))), congrArg (fun x => some (Value.int x)) (nI_succ i).symm, trivial⟩
          · refine Bd_iconst (v := 1) (pc := 56) dX8_areLike_56 (by decide) ?_
            refine Bd_goto (t := 61) (pc := 57) dX8_areLike_57 (by decide) ?_
            refine Bd_istore_1 (pc := 61) dX8_areLike_61 (Nat.le_of_ble_eq_true rfl) rfl ?_
            refine Bd_iinc_2 (pc := 62) dX8_areLike_62 (show _ + Int32.ofInt 1 = _ + 1 from rfl) (Nat.le_of_ble_eq_true rfl) rfl ?_
            refine Bd_goto (t := 26) (pc := 65) dX8_areLike_65 (by decide) ?_
            have z := b2_n.mp b35
            exact Bd_nx (ihi trivial) ⟨rfl, congrArg (fun x => some (Value.int x)) (b2_t ⟨z.1, z.2.1, fun j hj => by rcases Nat.lt_succ_iff_lt_or_eq.mp hj with q | q; exact z.2.2 j q; rw [q]; exact b53⟩), congrArg (fun x => some (Value.int x)) (nI_succ i).symm, trivial⟩
    · refine Bd_iconst (v := 1) (pc := 18) dX8_areLike_18 (by decide) ?_
      refine Bd_goto (t := 23) (pc := 19) dX8_areLike_19 (by decide) ?_
      refine Bd_istore_1 (pc := 23) dX8_areLike_23 (Nat.le_of_ble_eq_true rfl) rfl ?_
      refine Bd_iconst (v := 0) (pc := 24) dX8_areLike_24 (by decide) ?_
      refine Bd_istore_2 (pc := 25) dX8_areLike_25 (Nat.le_of_ble_eq_true rfl) rfl ?_
      refine Bd_nx (L' := [some (.ref 58), some (.int (b2 (alF C 0))), some (.int (nI 0))]) ?_ ⟨rfl, congrArg (fun x => some (Value.int x)) (b2_t ⟨by rw [← h.n5]; exact b8, (nn_pos h.1).mp (by rw [← h.n5]; exact Int32.not_le.mp b15), fun j hj => absurd hj (Nat.not_lt_zero j)⟩), rfl, trivial⟩
      refine Bd_for (pc := 26) (c := (cn (C 44 8))) (fun i => [some (.ref 58), some (.int (b2 (alF C i))), some (.int (nI i))]) (fun _ => M) (fun _ => True) (fun ivi => ?_) (fun i hi ivi ihi => ?_) trivial
      · refine Bd_iload_2 (pc := 26) dX8_areLike_26 ?_
        refine Bd_aload_0 (pc := 27) dX8_areLike_27 ?_
        refine Bd_getI (j := 5) ck8 (pc := 28) dX8_areLike_28 k_791 rfl (Nat.le_of_ble_eq_true rfl) rfl ?_
        refine Bd_icmp_ge (t := 68) (pc := 31) dX8_areLike_31 (by decide) (fun b31 => ?_) (fun b31 => (show False from lf_x h.nn' b31).elim)
        refine Bd_iload_1 (pc := 68) dX8_areLike_68 ?_
        refine Bd_zret (pc := 69) dX8_areLike_69 rfl b2_nar ?_
        exact PD_i (b2_c ⟨fun z => ⟨z.2.1, z.1, z.2.2⟩, fun z => ⟨z.2.1, z.1, z.2.2⟩⟩) rfl
      · refine Bd_iload_2 (pc := 26) dX8_areLike_26 ?_
        refine Bd_aload_0 (pc := 27) dX8_areLike_27 ?_
        refine Bd_getI (j := 5) ck8 (pc := 28) dX8_areLike_28 k_791 rfl (Nat.le_of_ble_eq_true rfl) rfl ?_
        refine Bd_icmp_ge (t := 68) (pc := 31) dX8_areLike_31 (by decide) (fun b31 => (show False from lf_s h.nn' (by omega) hi b31).elim) (fun b31 => ?_)
        refine Bd_iload_1 (pc := 34) dX8_areLike_34 ?_
        refine Bd_if_eq (t := 68) (pc := 35) dX8_areLike_35 (by decide) (fun b35 => ?_) (fun b35 => ?_)
        · refine Bd_iload_1 (pc := 68) dX8_areLike_68 ?_
          refine Bd_zret (pc := 69) dX8_areLike_69 rfl b2_nar ?_
          exact PD_i (b2_c ⟨fun z => absurd z (b2_0.mp b35), fun z => absurd ⟨z.2.1, z.1, fun j hj => z.2.2 j (by omega)⟩ (b2_0.mp b35)⟩) rfl
        · refine Bd_aload_0 (pc := 38) dX8_areLike_38 ?_
          refine Bd_iload_2 (pc := 39) dX8_areLike_39 ?_
          refine Bd_callV1i (cd := mX8_toneOf) (pc := 40) dX8_areLike_40 k_1004 v_X8_toneOf ⟨(Nat.le_of_ble_eq_true rfl), (Nat.le_of_ble_eq_true rfl)⟩ rfl rfl (sem_X8_toneOf h (i := i) (by rw [(b2_n.mp b35).1]; exact hi)) (Nat.le_of_ble_eq_true rfl) ?_
          refine Bd_aload_0 (pc := 43) dX8_areLike_43 ?_
          refine Bd_getR (j := 4) ck8 (pc := 44) dX8_areLike_44 k_790 rfl (Nat.le_of_ble_eq_true rfl) rfl ?_
          refine Bd_iconst (v := 2) (pc := 47) dX8_areLike_47 (by decide) ?_
          refine Bd_iload_2 (pc := 48) dX8_areLike_48 ?_
          refine Bd_imul (pc := 49) dX8_areLike_49 ?_
          refine Bd_iconst (v := 1) (pc := 50) dX8_areLike_50 (by decide) ?_
          refine Bd_iadd (pc := 51) dX8_areLike_51 ?_
          refine Bd_ialdc (j := 2 * i + 1) (by rw [tn3 i (by omega)]; exact nI_clamp (by omega)) (pc := 52) dX8_areLike_52 rfl (by rw [tn3 i (by omega)]; exact vpi (by omega) (by omega)) ?_
          rw [h.nt' hi]
          refine Bd_icmp_ne (t := 60) (pc := 53) dX8_areLike_53 (by decide) (fun b53 => ?_) (fun b53 => ?_)
          · refine Bd_iconst (v := 0) (pc := 60) dX8_areLike_60 (by decide) ?_
            refine Bd_istore_1 (pc := 61) dX8_areLike_61 (Nat.le_of_ble_eq_true rfl) rfl ?_
            refine Bd_iinc_2 (pc := 62) dX8_areLike_62 (show _ + Int32.ofInt 1 = _ + 1 from rfl) (Nat.le_of_ble_eq_true rfl) rfl ?_
            refine Bd_goto (t := 26) (pc := 65) dX8_areLike_65 (by decide) ?_
            have z := b2_n.mp b35
            exact Bd_nx (ihi trivial) ⟨rfl, congrArg (fun x => some (Value.int x)) (b2_f (fun y => b53 (y.2.2 i (by omega)))), congrArg (fun x => some (Value.int x)) (nI_succ i).symm, trivial⟩
          · refine Bd_iconst (v := 1) (pc := 56) dX8_areLike_56 (by decide) ?_
            refine Bd_goto (t := 61) (pc := 57) dX8_areLike_57 (by decide) ?_
            refine Bd_istore_1 (pc := 61) dX8_areLike_61 (Nat.le_of_ble_eq_true rfl) rfl ?_
            refine Bd_iinc_2 (pc := 62) dX8_areLike_62 (show _ + Int32.ofInt 1 = _ + 1 from rfl) (Nat.le_of_ble_eq_true rfl) rfl ?_
            refine Bd_goto (t := 26) (pc := 65) dX8_areLike_65 (by decide) ?_
            have z := b2_n.mp b35
            exact Bd_nx (ihi trivial) ⟨rfl, congrArg (fun x => some (Value.int x)) (b2_t ⟨z.1, z.2.1, fun j hj => by rcases Nat.lt_succ_iff_lt_or_eq.mp hj with q | q; exact z.2.2 j q; rw [q]; exact b53⟩), congrArg (fun x => some (Value.int x)) (nI_succ i).symm, trivial⟩
theorem obB {C : Mem} (h : WF C) (hb : C 5 4 = C 44 8) {i : Nat} (hi : i < cn (C 44 8)) {c : Int32} (hc : c81 c) : bt (cmF C i c - C 49 i) (-60) 388 := sbB (cmB h (by rw [hb]; exact hi) hc) (h.1.2.2.2.2 i hi).1 (by decide) (by decide)
theorem ob1 {C : Mem} (h : WF C) (hb : C 5 4 = C 44 8) (h0 : 0 < cn (C 44 8)) {c : Int32} (hc : c81 c) : (obF C c 1).1 = cmF C 0 c - C 49 0 ∧ (obF C c 1).2 = cmF C 0 c - C 49 0 := by
  have q := obB h hb h0 hc
  have l1 : cmF C 0 c - C 49 0 < 1000000 := by rw [Int32.lt_iff_toInt_lt, show (1000000 : Int32).toInt = 1000000 from by decide +kernel]; have := q.2; omega
  have l2 : -1000000 < cmF C 0 c - C 49 0 := by rw [Int32.lt_iff_toInt_lt, show (-1000000 : Int32).toInt = -1000000 from by decide +kernel]; have := q.1; omega
  exact ⟨if_pos l1, if_pos l2⟩
theorem obFB {C : Mem} (h : WF C) (hb : C 5 4 = C 44 8) {c : Int32} (hc : c81 c) : ∀ n, n < cn (C 44 8) → bt (obF C c (n + 1)).1 (-60) 388 ∧ bt (obF C c (n + 1)).2 (-60) 388
  | 0, hn => by
    have q := obB h hb hn hc
    rw [(ob1 h hb hn hc).1, (ob1 h hb hn hc).2]; exact ⟨q, q⟩
  | n + 1, hn => by
    have ih := obFB h hb hc n (by omega)
    have q := obB h hb hn hc
    exact ⟨mnB ih.1 q, mxB ih.2 q⟩
theorem obVB {C : Mem} (h : WF C) (hb : C 5 4 = C 44 8) (h0 : 0 < cn (C 44 8)) {c : Int32} (hc : c81 c) : bt (obV C c) (-448) 448 := by
  have q := obFB h hb hc (cn (C 44 8) - 1) (by omega)
  rw [show cn (C 44 8) - 1 + 1 = cn (C 44 8) by omega] at q
  exact sbB q.2 q.1 (by decide) (by decide)
set_option maxRecDepth 100000 in
set_option maxHeartbeats 4000000 in
theorem sem_X8_offAt {C M : Mem} (h : RK C M) (hb : C 5 4 = C 44 8) (h0 : 0 < cn (C 44 8)) {c : Int32} (hc : c81 c) : Sem mX8_offAt SH [.ref 58, .int c] M (PD SH (some (.int (obV C c))) (M)) := by
  have q2 := h.1.nn12
  refine Sem_of rfl (fun G => (Nat.le_of_ble_eq_true rfl)) (fun G => ?_)
  refine Bd_aload_0 (pc := 0) dX8_offAt_0 ?_
  refine Bd_iconst (v := 0) (pc := 1) dX8_offAt_1 (by decide) ?_
  refine Bd_iload_1 (pc := 2) dX8_offAt_2 ?_
  refine Bd_callV2i (cd := mX8_comes) (pc := 3) dX8_offAt_3 k_1055 v_X8_comes ⟨(Nat.le_of_ble_eq_true rfl), (Nat.le_of_ble_eq_true rfl)⟩ rfl rfl (sem_X8_comes h (i := 0) (by rw [hb]; exact h0) hc) (Nat.le_of_ble_eq_true rfl) ?_
  refine Bd_aload_0 (pc := 6) dX8_offAt_6 ?_
  refine Bd_getR (j := 4) ck8 (pc := 7) dX8_offAt_7 k_790 rfl (Nat.le_of_ble_eq_true rfl) rfl ?_
  refine Bd_iconst (v := 0) (pc := 10) dX8_offAt_10 (by decide) ?_
  refine Bd_ialdc (j := 0) rfl (pc := 11) dX8_offAt_11 rfl (by unfold vp_in; decide) ?_
  rw [show M 62 0 = C 49 0 from h.rf.nb' h0]
  refine Bd_isub (pc := 12) dX8_offAt_12 ?_
  refine Bd_istore_2 (pc := 13) dX8_offAt_13 (Nat.le_of_ble_eq_true rfl) rfl ?_
  refine Bd_iload_2 (pc := 14) dX8_offAt_14 ?_
  refine Bd_istore_3 (pc := 15) dX8_offAt_15 (Nat.le_of_ble_eq_true rfl) rfl ?_
  refine Bd_iconst (v := 1) (pc := 16) dX8_offAt_16 (by decide) ?_
  refine Bd_istore_4 (pc := 17) dX8_offAt_17 (Nat.le_of_ble_eq_true rfl) rfl ?_
  have e1 := ob1 h.1 hb h0 hc
  refine Bd_nx (L' := [some (.ref 58), some (.int c), some (.int (obF C c (0 + 1)).1), some (.int (obF C c (0 + 1)).2), some (.int (nI (0 + 1))), none]) ?_ (by rw [show (0 : Nat) + 1 = 1 from rfl, e1.1, e1.2]; exact ⟨rfl, rfl, rfl, rfl, rfl, trivial⟩)
  refine Bd_for (pc := 19) (c := (cn (C 44 8) - 1)) (fun i => [some (.ref 58), some (.int c), some (.int (obF C c (i + 1)).1), some (.int (obF C c (i + 1)).2), some (.int (nI (i + 1))), none]) (fun _ => M) (fun _ => True) (fun ivi => ?_) (fun i hi ivi ihi => ?_) trivial
  · refine Bd_iload_4 (pc := 19) dX8_offAt_19 ?_
    refine Bd_aload_0 (pc := 21) dX8_offAt_21 ?_
    refine Bd_getI (j := 5) ck8 (pc := 22) dX8_offAt_22 k_791 rfl (Nat.le_of_ble_eq_true rfl) rfl ?_
    refine Bd_icmp_ge (t := 79) (pc := 25) dX8_offAt_25 (by decide) (fun b25 => ?_) (fun b25 => (show False from lf_x (show M 58 5 = nI (cn (C 44 8) - 1 + 1) from by rw [show cn (C 44 8) - 1 + 1 = cn (C 44 8) by omega]; exact h.rf.nn') b25).elim)
    refine Bd_iload_3 (pc := 79) dX8_offAt_79 ?_
    refine Bd_iload_2 (pc := 80) dX8_offAt_80 ?_
    refine Bd_isub (pc := 81) dX8_offAt_81 ?_
    refine Bd_iret (pc := 82) dX8_offAt_82 rfl ?_
    exact PD_i (by rw [show cn (C 44 8) - 1 + 1 = cn (C 44 8) by omega]) rfl
  · refine Bd_iload_4 (pc := 19) dX8_offAt_19 ?_
    refine Bd_aload_0 (pc := 21) dX8_offAt_21 ?_
    refine Bd_getI (j := 5) ck8 (pc := 22) dX8_offAt_22 k_791 rfl (Nat.le_of_ble_eq_true rfl) rfl ?_
    refine Bd_icmp_ge (t := 79) (pc := 25) dX8_offAt_25 (by decide) (fun b25 => (show False from lf_s (show M 58 5 = nI (cn (C 44 8) - 1 + 1) from by rw [show cn (C 44 8) - 1 + 1 = cn (C 44 8) by omega]; exact h.rf.nn') (by omega) (by omega) b25).elim) (fun b25 => ?_)
    refine Bd_aload_0 (pc := 28) dX8_offAt_28 ?_
    refine Bd_iload_4 (pc := 29) dX8_offAt_29 ?_
    refine Bd_iload_1 (pc := 31) dX8_offAt_31 ?_
    refine Bd_callV2i (cd := mX8_comes) (pc := 32) dX8_offAt_32 k_1055 v_X8_comes ⟨(Nat.le_of_ble_eq_true rfl), (Nat.le_of_ble_eq_true rfl)⟩ rfl rfl (sem_X8_comes h (i := i + 1) (by rw [hb]; omega) hc) (Nat.le_of_ble_eq_true rfl) ?_
    refine Bd_aload_0 (pc := 35) dX8_offAt_35 ?_
    refine Bd_getR (j := 4) ck8 (pc := 36) dX8_offAt_36 k_790 rfl (Nat.le_of_ble_eq_true rfl) rfl ?_
    refine Bd_iconst (v := 2) (pc := 39) dX8_offAt_39 (by decide) ?_
    refine Bd_iload_4 (pc := 40) dX8_offAt_40 ?_
    refine Bd_imul (pc := 42) dX8_offAt_42 ?_
    refine Bd_ialdc (j := 2 * (i + 1)) (by rw [tn2 (i + 1) (by omega)]; exact nI_clamp (by omega)) (pc := 43) dX8_offAt_43 rfl (by rw [tn2 (i + 1) (by omega)]; exact vpi (by omega) (by omega)) ?_
    rw [h.rf.nb' (i := i + 1) (by omega)]
    refine Bd_isub (pc := 44) dX8_offAt_44 ?_
    refine Bd_istore_5 (pc := 45) dX8_offAt_45 (Nat.le_of_ble_eq_true rfl) rfl ?_
    refine Bd_iload_5 (pc := 47) dX8_offAt_47 ?_
    refine Bd_iload_2 (pc := 49) dX8_offAt_49 ?_
    refine Bd_icmp_ge (t := 58) (pc := 50) dX8_offAt_50 (by decide) (fun b50 => ?_) (fun b50 => ?_)
    · refine Bd_iload_2 (pc := 58) dX8_offAt_58 ?_
      refine Bd_istore_2 (pc := 59) dX8_offAt_59 (Nat.le_of_ble_eq_true rfl) rfl ?_
      refine Bd_iload_5 (pc := 60) dX8_offAt_60 ?_
      refine Bd_iload_3 (pc := 62) dX8_offAt_62 ?_
      refine Bd_icmp_le (t := 71) (pc := 63) dX8_offAt_63 (by decide) (fun b63 => ?_) (fun b63 => ?_)
      · refine Bd_iload_3 (pc := 71) dX8_offAt_71 ?_
        refine Bd_istore_3 (pc := 72) dX8_offAt_72 (Nat.le_of_ble_eq_true rfl) rfl ?_
        refine Bd_iinc_4 (pc := 73) dX8_offAt_73 (show _ + Int32.ofInt 1 = _ + 1 from rfl) (Nat.le_of_ble_eq_true rfl) rfl ?_
        refine Bd_goto (t := 19) (pc := 76) dX8_offAt_76 (by decide) ?_
        exact Bd_nx (ihi trivial) ⟨rfl, rfl, congrArg (fun x => some (Value.int x)) (if_neg (Int32.not_lt.mpr b50)).symm, congrArg (fun x => some (Value.int x)) (if_neg (Int32.not_lt.mpr b63)).symm, congrArg (fun x => some (Value.int x)) (nI_succ (i + 1)).symm, trivial⟩
      · refine Bd_iload_5 (pc := 66) dX8_offAt_66 ?_
        refine Bd_goto (t := 72) (pc := 68) dX8_offAt_68 (by decide) ?_
        refine Bd_istore_3 (pc := 72) dX8_offAt_72 (Nat.le_of_ble_eq_true rfl) rfl ?_
        refine Bd_iinc_4 (pc := 73) dX8_offAt_73 (show _ + Int32.ofInt 1 = _ + 1 from rfl) (Nat.le_of_ble_eq_true rfl) rfl ?_
        refine Bd_goto (t := 19) (pc := 76) dX8_offAt_76 (by decide) ?_
        exact Bd_nx (ihi trivial) ⟨rfl, rfl, congrArg (fun x => some (Value.int x)) (if_neg (Int32.not_lt.mpr b50)).symm, congrArg (fun x => some (Value.int x)) (if_pos (Int32.not_le.mp b63)).symm, congrArg (fun x => some (Value.int x)) (nI_succ (i + 1)).symm, trivial⟩
    · refine Bd_iload_5 (pc := 53) dX8_offAt_53 ?_
      refine Bd_goto (t := 59) (pc := 55) dX8_offAt_55 (by decide) ?_
      refine Bd_istore_2 (pc := 59) dX8_offAt_59 (Nat.le_of_ble_eq_true rfl) rfl ?_
      refine Bd_iload_5 (pc := 60) dX8_offAt_60 ?_
      refine Bd_iload_3 (pc := 62) dX8_offAt_62 ?_
      refine Bd_icmp_le (t := 71) (pc := 63) dX8_offAt_63 (by decide) (fun b63 => ?_) (fun b63 => ?_)
      · refine Bd_iload_3 (pc := 71) dX8_offAt_71 ?_
        refine Bd_istore_3 (pc := 72) dX8_offAt_72 (Nat.le_of_ble_eq_true rfl) rfl ?_
        refine Bd_iinc_4 (pc := 73) dX8_offAt_73 (show _ + Int32.ofInt 1 = _ + 1 from rfl) (Nat.le_of_ble_eq_true rfl) rfl ?_
        refine Bd_goto (t := 19) (pc := 76) dX8_offAt_76 (by decide) ?_
        exact Bd_nx (ihi trivial) ⟨rfl, rfl, congrArg (fun x => some (Value.int x)) (if_pos (Int32.not_le.mp b50)).symm, congrArg (fun x => some (Value.int x)) (if_neg (Int32.not_lt.mpr b63)).symm, congrArg (fun x => some (Value.int x)) (nI_succ (i + 1)).symm, trivial⟩
      · refine Bd_iload_5 (pc := 66) dX8_offAt_66 ?_
        refine Bd_goto (t := 72) (pc := 68) dX8_offAt_68 (by decide) ?_
        refine Bd_istore_3 (pc := 72) dX8_offAt_72 (Nat.le_of_ble_eq_true rfl) rfl ?_
        refine Bd_iinc_4 (pc := 73) dX8_offAt_73 (show _ + Int32.ofInt 1 = _ + 1 from rfl) (Nat.le_of_ble_eq_true rfl) rfl ?_
        refine Bd_goto (t := 19) (pc := 76) dX8_offAt_76 (by decide) ?_
        exact Bd_nx (ihi trivial) ⟨rfl, rfl, congrArg (fun x => some (Value.int x)) (if_pos (Int32.not_le.mp b50)).symm, congrArg (fun x => some (Value.int x)) (if_pos (Int32.not_le.mp b63)).symm, congrArg (fun x => some (Value.int x)) (nI_succ (i + 1)).symm, trivial⟩
set_option maxRecDepth 100000 in
set_option maxHeartbeats 4000000 in
theorem sem_X8_off {C M : Mem} (h : RF C M) {c : Int32} : Sem mX8_off SH [.ref 58, .int c] M (RI SH (fun r N => r = offV C c ∧ RP (C) M N)) := by
  refine Sem_of rfl (fun G => (Nat.le_of_ble_eq_true rfl)) (fun G => ?_)
  refine Bd_aload_0 (pc := 0) dX8_off_0 ?_
  refine Bd_iload_1 (pc := 1) dX8_off_1 ?_
  refine Bd_callV1i (cd := mX8_isCell) (pc := 2) dX8_off_2 k_1012 v_X8_isCell ⟨(Nat.le_of_ble_eq_true rfl), (Nat.le_of_ble_eq_true rfl)⟩ rfl rfl (sem_X8_isCell h) (Nat.le_of_ble_eq_true rfl) ?_
  refine Bd_if_ne (t := 10) (pc := 5) dX8_off_5 (by decide) (fun b5 => ?_) (fun b5 => ?_)
  · refine Bd_aload_0 (pc := 10) dX8_off_10 ?_
    refine Bd_callV0i (cd := mX8_areLike) (pc := 11) dX8_off_11 k_1104 v_X8_areLike ⟨(Nat.le_of_ble_eq_true rfl), (Nat.le_of_ble_eq_true rfl)⟩ rfl rfl (sem_X8_areLike h.aw.rf) (Nat.le_of_ble_eq_true rfl) ?_
    refine Bd_if_eq (t := 25) (pc := 14) dX8_off_14 (by decide) (fun b14 => ?_) (fun b14 => ?_)
    · refine Bd_bipush (v := -2) (pc := 25) dX8_off_25 (by decide) ?_
      refine Bd_iret (pc := 27) dX8_off_27 rfl ?_
      exact ⟨_, rfl, rfl, by rw [offV, if_pos (b2_n.mp b5), if_neg (b2_0.mp b14)], RP_aw h⟩
    · refine Bd_aload_0 (pc := 17) dX8_off_17 ?_
      refine Bd_iload_1 (pc := 18) dX8_off_18 ?_
      refine Bd_callV1i (cd := mX8_offAt) (pc := 19) dX8_off_19 k_1108 v_X8_offAt ⟨(Nat.le_of_ble_eq_true rfl), (Nat.le_of_ble_eq_true rfl)⟩ rfl rfl (sem_X8_offAt h.aw (b2_n.mp b14).2.1 (h.1.nn0 (b2_n.mp b14).1) (b2_n.mp b5).1) (Nat.le_of_ble_eq_true rfl) ?_
      refine Bd_goto (t := 27) (pc := 22) dX8_off_22 (by decide) ?_
      refine Bd_iret (pc := 27) dX8_off_27 rfl ?_
      exact ⟨_, rfl, rfl, by rw [offV, if_pos (b2_n.mp b5), if_pos (b2_n.mp b14)], RP_aw h⟩
  · refine Bd_iconst (v := -1) (pc := 8) dX8_off_8 (by decide) ?_
    refine Bd_iret (pc := 9) dX8_off_9 rfl ?_
    exact ⟨_, rfl, rfl, by rw [offV, if_neg (b2_0.mp b5)], RP_aw h⟩
theorem hc0 {C : Mem} (h : WF C) : hcF C 45 (nI 0) := by
  have h1 := h.1.1.1.1
  have h2 := h.1.1.2.1.1
  refine ⟨by decide, ?_, ?_⟩
  · rw [show md9 (nI 0) = 0 by decide, Int32.lt_iff_toInt_lt, Int32.toInt_zero]; omega
  · rw [show nI 0 / 9 = 0 by decide, Int32.lt_iff_toInt_lt, Int32.toInt_zero]; omega
/-- near, as the reference counts: first and least -/
def nqF (C : Mem) (n : Int32) (i : Nat) : Int32 × Int32 := if i = 0 then (-4, 9999) else (nrF C n i).2
theorem nq_s {C : Mem} (h : WF C) (ha : asF C) {n : Int32} {i : Nat} (hc : hcF C 45 (nI i)) : (if (nqF C n i).2 ≤ obV C (nI i) then nqF C n i else (nI i, obV C (nI i))) = nqF C n (i + 1) := by
  have e : nqF C n (i + 1) = (if (nrF C n i).2.2 ≤ obV C (nI i) then (nrF C n i).2 else (nI i, obV C (nI i))) := by
    unfold nqF
    rw [if_neg (by omega)]
    show (if hcF C 45 (nI i) then _ else _ : Int32 × Int32 × Int32).2 = _
    rw [if_pos hc]
  rw [e]
  cases i with
  | zero =>
    have q := obVB h ha.2.1 (h.nn0 ha.1) hc.1
    rw [show nqF C n 0 = (-4, 9999) from rfl, show (nrF C n 0).2 = (0, 1000000) from rfl, if_neg (by rw [Int32.le_iff_toInt_le, show (9999 : Int32).toInt = 9999 by decide]; have := q.2; omega), if_neg (by rw [Int32.le_iff_toInt_le, show (1000000 : Int32).toInt = 1000000 by decide]; have := q.2; omega)]
  | succ i => rw [show nqF C n (i + 1) = (nrF C n (i + 1)).2 from if_neg (by omega)]
theorem nq_n {C : Mem} (h : WF C) {n : Int32} {i : Nat} (hc : ¬ hcF C 45 (nI i)) : nqF C n (i + 1) = nqF C n i := by
  cases i with
  | zero => exact absurd (hc0 h) hc
  | succ i =>
    unfold nqF
    rw [if_neg (by omega), if_neg (by omega)]
    show (if hcF C 45 (nI (i + 1)) then _ else _ : Int32 × Int32 × Int32).2 = _
    rw [if_neg hc]
theorem nq81 {C : Mem} {n : Int32} : nqF C n 81 = (nrF C n 81).2 := if_neg (by decide)
theorem nr_m {C : Mem} {n : Int32} {i : Nat} : (nrF C n (i + 1)).1 = (if hcF C 45 (nI i) then if n < obV C (nI i) then (nrF C n i).1 else (nrF C n i).1 + 1 else (nrF C n i).1) := by
  show (if hcF C 45 (nI i) then _ else _ : Int32 × Int32 × Int32).1 = _
  split <;> rfl
set_option maxRecDepth 100000 in
set_option maxHeartbeats 4000000 in
theorem sem_X8_near {C M : Mem} (h : RF C M) {n k : Int32} : Sem mX8_near SH [.ref 58, .int n, .int k] M (RI SH (fun r N => r = nearV C n k ∧ RP (C) M N)) := by
  refine Sem_of rfl (fun G => (Nat.le_of_ble_eq_true rfl)) (fun G => ?_)
  refine Bd_aload_0 (pc := 0) dX8_near_0 ?_
  refine Bd_callV0v (cd := mX8_awake) (pc := 1) dX8_near_1 k_965 v_X8_awake ⟨(Nat.le_of_ble_eq_true rfl), (Nat.le_of_ble_eq_true rfl)⟩ rfl rfl (sem_X8_awake h.a6) (Nat.le_of_ble_eq_true rfl) ?_
  refine Bd_iload_1 (pc := 4) dX8_near_4 ?_
  refine Bd_i2l (pc := 5) dX8_near_5 ?_
  refine Bd_lconst (v := 0) (pc := 6) dX8_near_6 (by decide) ?_
  refine Bd_ldc2 k_1116 (pc := 7) dX8_near_7 ?_
  refine Bd_callS3i (cd := mX8_in) (pc := 10) dX8_near_10 k_910 v_X8_in ⟨(Nat.le_of_ble_eq_true rfl), (Nat.le_of_ble_eq_true rfl)⟩ (sem_in (a := 0) (b := 99) (by decide) (by decide)) (Nat.le_of_ble_eq_true rfl) ?_
  refine Bd_if_eq (t := 28) (pc := 13) dX8_near_13 (by decide) (fun b13 => ?_) (fun b13 => ?_)
  · refine Bd_iconst (v := -1) (pc := 28) dX8_near_28 (by decide) ?_
    refine Bd_iret (pc := 29) dX8_near_29 rfl ?_
    have q := b2_0.mp b13
    refine ⟨_, rfl, rfl, ?_, RP_aw h⟩
    rw [nearV]
    by_cases q1 : n < 0
    · rw [if_pos q1]
    · rw [if_neg q1, if_pos (Int32.not_le.mp (fun z => q ⟨Int32.not_lt.mp q1, z⟩))]
  · refine Bd_iload_2 (pc := 16) dX8_near_16 ?_
    refine Bd_i2l (pc := 17) dX8_near_17 ?_
    refine Bd_lconst (v := 0) (pc := 18) dX8_near_18 (by decide) ?_
    refine Bd_ldc2 k_990 (pc := 19) dX8_near_19 ?_
    refine Bd_callS3i (cd := mX8_in) (pc := 22) dX8_near_22 k_910 v_X8_in ⟨(Nat.le_of_ble_eq_true rfl), (Nat.le_of_ble_eq_true rfl)⟩ (sem_in (a := 0) (b := 2) (by decide) (by decide)) (Nat.le_of_ble_eq_true rfl) ?_
    refine Bd_if_ne (t := 30) (pc := 25) dX8_near_25 (by decide) (fun b25 => ?_) (fun b25 => ?_)
    · refine Bd_aload_0 (pc := 30) dX8_near_30 ?_
      refine Bd_callV0i (cd := mX8_areLike) (pc := 31) dX8_near_31 k_1104 v_X8_areLike ⟨(Nat.le_of_ble_eq_true rfl), (Nat.le_of_ble_eq_true rfl)⟩ rfl rfl (sem_X8_areLike h.aw.rf) (Nat.le_of_ble_eq_true rfl) ?_
      refine Bd_if_ne (t := 40) (pc := 34) dX8_near_34 (by decide) (fun b34 => ?_) (fun b34 => ?_)
      · refine Bd_iconst (v := 0) (pc := 40) dX8_near_40 (by decide) ?_
        refine Bd_istore_3 (pc := 41) dX8_near_41 (Nat.le_of_ble_eq_true rfl) rfl ?_
        refine Bd_sipush (v := 9999) (pc := 42) dX8_near_42 (by decide) ?_
        refine Bd_istore_4 (pc := 45) dX8_near_45 (Nat.le_of_ble_eq_true rfl) rfl ?_
        refine Bd_bipush (v := -4) (pc := 47) dX8_near_47 (by decide) ?_
        refine Bd_istore_5 (pc := 49) dX8_near_49 (Nat.le_of_ble_eq_true rfl) rfl ?_
        refine Bd_iconst (v := 0) (pc := 51) dX8_near_51 (by decide) ?_
        refine Bd_istore_6 (pc := 52) dX8_near_52 (Nat.le_of_ble_eq_true rfl) rfl ?_
        have q := b2_n.mp b13
        have qn : ¬ n < 0 ∧ ¬ 99 < n := ⟨Int32.not_lt.mpr q.1, Int32.not_lt.mpr q.2⟩
        have qk := k02.mp (b2_n.mp b25)
        have hA := b2_n.mp b34
        refine Bd_nx (L' := (fun i => [some (.ref 58), some (.int n), some (.int k), some (.int (nrF C n i).1), some (.int (nqF C n i).2), some (.int (nqF C n i).1), some (.int (nI i)), none]) 0) ?_ (by repeat (first | exact True.intro | refine And.intro rfl ?_))
        refine Bd_for (pc := 54) (c := 81) (fun i => [some (.ref 58), some (.int n), some (.int k), some (.int (nrF C n i).1), some (.int (nqF C n i).2), some (.int (nqF C n i).1), some (.int (nI i)), none]) (fun _ => awM M) (fun _ => True) (fun ivi => ?_) (fun i hi ivi ihi => ?_) trivial
        · refine Bd_iload_6 (pc := 54) dX8_near_54 ?_
          refine Bd_bipush (v := 81) (pc := 56) dX8_near_56 (by decide) ?_
          refine Bd_icmp_ge (t := 130) (pc := 58) dX8_near_58 (by decide) (fun b58 => ?_) (fun b58 => (show False from lf_x (rfl : (81 : Int32) = nI 81) b58).elim)
          refine Bd_iload_2 (pc := 130) dX8_near_130 ?_
          refine Bd_if_ne (t := 138) (pc := 131) dX8_near_131 (by decide) (fun b131 => ?_) (fun b131 => ?_)
          · refine Bd_iload_2 (pc := 138) dX8_near_138 ?_
            refine Bd_iconst (v := 1) (pc := 139) dX8_near_139 (by decide) ?_
            refine Bd_icmp_ne (t := 148) (pc := 140) dX8_near_140 (by decide) (fun b140 => ?_) (fun b140 => ?_)
            · refine Bd_iload_5 (pc := 148) dX8_near_148 ?_
              refine Bd_iret (pc := 150) dX8_near_150 rfl ?_
              exact ⟨_, rfl, rfl, by rw [nearV, if_neg qn.1, if_neg qn.2, if_pos qk, if_pos hA, if_neg b131, if_neg b140, nq81], RP_aw h⟩
            · refine Bd_iload_4 (pc := 143) dX8_near_143 ?_
              refine Bd_goto (t := 150) (pc := 145) dX8_near_145 (by decide) ?_
              refine Bd_iret (pc := 150) dX8_near_150 rfl ?_
              exact ⟨_, rfl, rfl, by rw [nearV, if_neg qn.1, if_neg qn.2, if_pos qk, if_pos hA, if_neg b131, if_pos b140, nq81], RP_aw h⟩
          · refine Bd_iload_3 (pc := 134) dX8_near_134 ?_
            refine Bd_goto (t := 150) (pc := 135) dX8_near_135 (by decide) ?_
            refine Bd_iret (pc := 150) dX8_near_150 rfl ?_
            exact ⟨_, rfl, rfl, by rw [nearV, if_neg qn.1, if_neg qn.2, if_pos qk, if_pos hA, if_pos b131], RP_aw h⟩
        · refine Bd_iload_6 (pc := 54) dX8_near_54 ?_
          refine Bd_bipush (v := 81) (pc := 56) dX8_near_56 (by decide) ?_
          refine Bd_icmp_ge (t := 130) (pc := 58) dX8_near_58 (by decide) (fun b58 => (show False from lf_s (rfl : (81 : Int32) = nI 81) (by decide) hi b58).elim) (fun b58 => ?_)
          refine Bd_aload_0 (pc := 61) dX8_near_61 ?_
          refine Bd_iload_6 (pc := 62) dX8_near_62 ?_
          refine Bd_callV1i (cd := mX8_isCell) (pc := 64) dX8_near_64 k_1012 v_X8_isCell ⟨(Nat.le_of_ble_eq_true rfl), (Nat.le_of_ble_eq_true rfl)⟩ rfl rfl (sem_isCellK h.aw) (Nat.le_of_ble_eq_true rfl) ?_
          refine Bd_if_eq (t := 124) (pc := 67) dX8_near_67 (by decide) (fun b67 => ?_) (fun b67 => ?_)
          · refine Bd_iinc_6 (pc := 124) dX8_near_124 (show _ + Int32.ofInt 1 = _ + 1 from rfl) (Nat.le_of_ble_eq_true rfl) rfl ?_
            refine Bd_goto (t := 54) (pc := 127) dX8_near_127 (by decide) ?_
            have hc := b2_0.mp b67
            exact Bd_nx (ihi trivial) (by simp only [wkP, nr_m, nq_n h.1 hc, if_neg hc, nI_succ, and_self])
          · refine Bd_aload_0 (pc := 70) dX8_near_70 ?_
            refine Bd_iload_6 (pc := 71) dX8_near_71 ?_
            refine Bd_callV1i (cd := mX8_offAt) (pc := 73) dX8_near_73 k_1108 v_X8_offAt ⟨(Nat.le_of_ble_eq_true rfl), (Nat.le_of_ble_eq_true rfl)⟩ rfl rfl (sem_X8_offAt h.aw hA.2.1 (h.1.nn0 hA.1) (b2_n.mp b67).1) (Nat.le_of_ble_eq_true rfl) ?_
            refine Bd_istore_7 (pc := 76) dX8_near_76 (Nat.le_of_ble_eq_true rfl) rfl ?_
            refine Bd_iload_3 (pc := 78) dX8_near_78 ?_
            refine Bd_iload_7 (pc := 79) dX8_near_79 ?_
            refine Bd_iload_1 (pc := 81) dX8_near_81 ?_
            refine Bd_icmp_gt (t := 89) (pc := 82) dX8_near_82 (by decide) (fun b82 => ?_) (fun b82 => ?_)
            · refine Bd_iconst (v := 0) (pc := 89) dX8_near_89 (by decide) ?_
              refine Bd_iadd (pc := 90) dX8_near_90 ?_
              refine Bd_istore_3 (pc := 91) dX8_near_91 (Nat.le_of_ble_eq_true rfl) rfl ?_
              refine Bd_iload_7 (pc := 92) dX8_near_92 ?_
              refine Bd_iload_4 (pc := 94) dX8_near_94 ?_
              refine Bd_icmp_ge (t := 104) (pc := 96) dX8_near_96 (by decide) (fun b96 => ?_) (fun b96 => ?_)
              · refine Bd_iload_5 (pc := 104) dX8_near_104 ?_
                refine Bd_istore_5 (pc := 106) dX8_near_106 (Nat.le_of_ble_eq_true rfl) rfl ?_
                refine Bd_iload_7 (pc := 108) dX8_near_108 ?_
                refine Bd_iload_4 (pc := 110) dX8_near_110 ?_
                refine Bd_icmp_ge (t := 120) (pc := 112) dX8_near_112 (by decide) (fun b112 => ?_) (fun b112 => (show False from b112 b96).elim)
                refine Bd_iload_4 (pc := 120) dX8_near_120 ?_
                refine Bd_istore_4 (pc := 122) dX8_near_122 (Nat.le_of_ble_eq_true rfl) rfl ?_
                refine Bd_iinc_6 (pc := 124) dX8_near_124 (show _ + Int32.ofInt 1 = _ + 1 from rfl) (Nat.le_of_ble_eq_true rfl) rfl ?_
                refine Bd_goto (t := 54) (pc := 127) dX8_near_127 (by decide) ?_
                have hc := b2_n.mp b67
                have s := nq_s h.1 hA (n := n) hc
                rw [if_pos b96] at s
                exact Bd_nx (ihi trivial) (by simp only [wkP, nr_m, if_pos hc, if_pos b82, ← s, nI_succ, Int32.add_zero, and_self])
              · refine Bd_iload_6 (pc := 99) dX8_near_99 ?_
                refine Bd_goto (t := 106) (pc := 101) dX8_near_101 (by decide) ?_
                refine Bd_istore_5 (pc := 106) dX8_near_106 (Nat.le_of_ble_eq_true rfl) rfl ?_
                refine Bd_iload_7 (pc := 108) dX8_near_108 ?_
                refine Bd_iload_4 (pc := 110) dX8_near_110 ?_
                refine Bd_icmp_ge (t := 120) (pc := 112) dX8_near_112 (by decide) (fun b112 => (show False from b96 b112).elim) (fun b112 => ?_)
                refine Bd_iload_7 (pc := 115) dX8_near_115 ?_
                refine Bd_goto (t := 122) (pc := 117) dX8_near_117 (by decide) ?_
                refine Bd_istore_4 (pc := 122) dX8_near_122 (Nat.le_of_ble_eq_true rfl) rfl ?_
                refine Bd_iinc_6 (pc := 124) dX8_near_124 (show _ + Int32.ofInt 1 = _ + 1 from rfl) (Nat.le_of_ble_eq_true rfl) rfl ?_
                refine Bd_goto (t := 54) (pc := 127) dX8_near_127 (by decide) ?_
                have hc := b2_n.mp b67
                have s := nq_s h.1 hA (n := n) hc
                rw [if_neg b96] at s
                exact Bd_nx (ihi trivial) (by simp only [wkP, nr_m, if_pos hc, if_pos b82, ← s, nI_succ, Int32.add_zero, and_self])
            · refine Bd_iconst (v := 1) (pc := 85) dX8_near_85 (by decide) ?_
              refine Bd_goto (t := 90) (pc := 86) dX8_near_86 (by decide) ?_
              refine Bd_iadd (pc := 90) dX8_near_90 ?_
              refine Bd_istore_3 (pc := 91) dX8_near_91 (Nat.le_of_ble_eq_true rfl) rfl ?_
              refine Bd_iload_7 (pc := 92) dX8_near_92 ?_
              refine Bd_iload_4 (pc := 94) dX8_near_94 ?_
              refine Bd_icmp_ge (t := 104) (pc := 96) dX8_near_96 (by decide) (fun b96 => ?_) (fun b96 => ?_)
              · refine Bd_iload_5 (pc := 104) dX8_near_104 ?_
                refine Bd_istore_5 (pc := 106) dX8_near_106 (Nat.le_of_ble_eq_true rfl) rfl ?_
                refine Bd_iload_7 (pc := 108) dX8_near_108 ?_
                refine Bd_iload_4 (pc := 110) dX8_near_110 ?_
                refine Bd_icmp_ge (t := 120) (pc := 112) dX8_near_112 (by decide) (fun b112 => ?_) (fun b112 => (show False from b112 b96).elim)
                refine Bd_iload_4 (pc := 120) dX8_near_120 ?_
                refine Bd_istore_4 (pc := 122) dX8_near_122 (Nat.le_of_ble_eq_true rfl) rfl ?_
                refine Bd_iinc_6 (pc := 124) dX8_near_124 (show _ + Int32.ofInt 1 = _ + 1 from rfl) (Nat.le_of_ble_eq_true rfl) rfl ?_
                refine Bd_goto (t := 54) (pc := 127) dX8_near_127 (by decide) ?_
                have hc := b2_n.mp b67
                have s := nq_s h.1 hA (n := n) hc
                rw [if_pos b96] at s
                exact Bd_nx (ihi trivial) (by simp only [wkP, nr_m, if_pos hc, if_neg b82, ← s, nI_succ, Int32.add_zero, and_self])
              · refine Bd_iload_6 (pc := 99) dX8_near_99 ?_
                refine Bd_goto (t := 106) (pc := 101) dX8_near_101 (by decide) ?_
                refine Bd_istore_5 (pc := 106) dX8_near_106 (Nat.le_of_ble_eq_true rfl) rfl ?_
                refine Bd_iload_7 (pc := 108) dX8_near_108 ?_
                refine Bd_iload_4 (pc := 110) dX8_near_110 ?_
                refine Bd_icmp_ge (t := 120) (pc := 112) dX8_near_112 (by decide) (fun b112 => (show False from b96 b112).elim) (fun b112 => ?_)
                refine Bd_iload_7 (pc := 115) dX8_near_115 ?_
                refine Bd_goto (t := 122) (pc := 117) dX8_near_117 (by decide) ?_
                refine Bd_istore_4 (pc := 122) dX8_near_122 (Nat.le_of_ble_eq_true rfl) rfl ?_
                refine Bd_iinc_6 (pc := 124) dX8_near_124 (show _ + Int32.ofInt 1 = _ + 1 from rfl) (Nat.le_of_ble_eq_true rfl) rfl ?_
                refine Bd_goto (t := 54) (pc := 127) dX8_near_127 (by decide) ?_
                have hc := b2_n.mp b67
                have s := nq_s h.1 hA (n := n) hc
                rw [if_neg b96] at s
                exact Bd_nx (ihi trivial) (by simp only [wkP, nr_m, if_pos hc, if_neg b82, ← s, nI_succ, Int32.add_zero, and_self])
      · refine Bd_bipush (v := -2) (pc := 37) dX8_near_37 (by decide) ?_
        refine Bd_iret (pc := 39) dX8_near_39 rfl ?_
        have q := b2_n.mp b13
        have qn : ¬ n < 0 ∧ ¬ 99 < n := ⟨Int32.not_lt.mpr q.1, Int32.not_lt.mpr q.2⟩
        have qk := k02.mp (b2_n.mp b25)
        exact ⟨_, rfl, rfl, by rw [nearV, if_neg qn.1, if_neg qn.2, if_pos qk, if_neg (b2_0.mp b34)], RP_aw h⟩
    · refine Bd_iconst (v := -1) (pc := 28) dX8_near_28 (by decide) ?_
      refine Bd_iret (pc := 29) dX8_near_29 rfl ?_
      have q := b2_n.mp b13
      exact ⟨_, rfl, rfl, by rw [nearV, if_neg (Int32.not_lt.mpr q.1), if_neg (Int32.not_lt.mpr q.2), if_neg (fun z => b2_0.mp b25 (k02.mpr z))], RP_aw h⟩
theorem ctfs {P : Nat → Bool} : ∀ n, n ≤ 81 → (ctF P n = 0 ↔ fsF P n = -4) ∧ ∃ k, k ≤ n ∧ ctF P n = nI k
  | 0, _ => ⟨⟨fun _ => rfl, fun _ => rfl⟩, 0, Nat.le_refl 0, rfl⟩
  | n + 1, hn => by
    obtain ⟨ih, k, hk, ek⟩ := ctfs (P := P) n (by omega)
    unfold ctF fsF
    cases hP : P n with
    | false =>
      simp only [Bool.false_eq_true, if_false]
      refine ⟨?_, k, by omega, ek⟩
      rw [ih]
      by_cases z : fsF P n = -4
      · rw [if_pos z]; exact ⟨fun _ => rfl, fun _ => z⟩
      · rw [if_neg z]
    | true =>
      simp only [if_true]
      refine ⟨?_, k + 1, by omega, by rw [ek, nI_succ]⟩
      constructor
      · intro q; rw [ek, ← nI_succ] at q; exact absurd q (nI_ne0 (by omega) (by omega))
      · intro q
        by_cases z : fsF P n = -4
        · rw [if_pos z] at q; exact absurd q (nI_n4 (by omega))
        · rw [if_neg z] at q; exact absurd q z
theorem fs_s {P : Nat → Bool} {n : Nat} (hn : n ≤ 81) : fsF P (n + 1) = (if P n = true then (if ctF P n = 0 then nI n else fsF P n) else fsF P n) := by
  have h := (ctfs (P := P) n hn).1
  show (if fsF P n = -4 then if P n then nI n else -4 else fsF P n) = _
  by_cases z : fsF P n = -4
  · rw [if_pos z, if_pos (h.mpr z)]
    split
    · rfl
    · exact z.symm
  · rw [if_neg z, if_neg (fun q => z (h.mp q))]
    split <;> rfl
abbrev loQ (C : Mem) (i j : Nat) : Prop := hcF C 45 (nI i) ∧ ∀ q, q < j → ltF C q (nI i) = ltF C 0 (nI i)
theorem loP_t {C : Mem} {i : Nat} (h : loQ C i (cn (C 5 5))) : loP C i = true := by simp only [loP, Bool.and_eq_true, decide_eq_true_eq]; exact h
theorem loP_f {C : Mem} {i : Nat} (h : ¬ loQ C i (cn (C 5 5))) : loP C i = false := by
  cases q : loP C i with
  | false => rfl
  | true =>
    simp only [loP, Bool.and_eq_true, decide_eq_true_eq] at q
    exact absurd q h
set_option maxRecDepth 100000 in
set_option maxHeartbeats 4000000 in
theorem sem_X8_lost {C M : Mem} (h : RF C M) {k : Int32} : Sem mX8_lost SH [.ref 58, .int k] M (RI SH (fun r N => r = lostV C k ∧ RP (C) M N)) := by
  have q1 := h.1.nb24
  have q2 := h.1.nn12
  have q4 := h.1.nh3
  have q5 := h.1.nmb
  refine Sem_of rfl (fun G => (Nat.le_of_ble_eq_true rfl)) (fun G => ?_)
  refine Bd_aload_0 (pc := 0) dX8_lost_0 ?_
  refine Bd_callV0v (cd := mX8_awake) (pc := 1) dX8_lost_1 k_965 v_X8_awake ⟨(Nat.le_of_ble_eq_true rfl), (Nat.le_of_ble_eq_true rfl)⟩ rfl rfl (sem_X8_awake h.a6) (Nat.le_of_ble_eq_true rfl) ?_
  refine Bd_iload_1 (pc := 4) dX8_lost_4 ?_
  refine Bd_i2l (pc := 5) dX8_lost_5 ?_
  refine Bd_lconst (v := 0) (pc := 6) dX8_lost_6 (by decide) ?_
  refine Bd_lconst (v := 1) (pc := 7) dX8_lost_7 (by decide) ?_
  refine Bd_callS3i (cd := mX8_in) (pc := 8) dX8_lost_8 k_910 v_X8_in ⟨(Nat.le_of_ble_eq_true rfl), (Nat.le_of_ble_eq_true rfl)⟩ (sem_in (a := 0) (b := 1) (by decide) (by decide)) (Nat.le_of_ble_eq_true rfl) ?_
  refine Bd_if_ne (t := 16) (pc := 11) dX8_lost_11 (by decide) (fun b11 => ?_) (fun b11 => ?_)
  · refine Bd_aload_0 (pc := 16) dX8_lost_16 ?_
    refine Bd_callV0i (cd := mX8_noteds) (pc := 17) dX8_lost_17 k_1179 v_X8_noteds ⟨(Nat.le_of_ble_eq_true rfl), (Nat.le_of_ble_eq_true rfl)⟩ rfl rfl (sem_X8_noteds h.aw.rf) (Nat.le_of_ble_eq_true rfl) ?_
    refine Bd_if_ne (t := 26) (pc := 20) dX8_lost_20 (by decide) (fun b20 => ?_) (fun b20 => ?_)
    · refine Bd_iconst (v := 0) (pc := 26) dX8_lost_26 (by decide) ?_
      refine Bd_istore_2 (pc := 27) dX8_lost_27 (Nat.le_of_ble_eq_true rfl) rfl ?_
      refine Bd_bipush (v := -4) (pc := 28) dX8_lost_28 (by decide) ?_
      refine Bd_istore_3 (pc := 30) dX8_lost_30 (Nat.le_of_ble_eq_true rfl) rfl ?_
      refine Bd_iconst (v := 0) (pc := 31) dX8_lost_31 (by decide) ?_
      refine Bd_istore_4 (pc := 32) dX8_lost_32 (Nat.le_of_ble_eq_true rfl) rfl ?_
      have h0 := h.1.nm0 b20
      refine Bd_nx (L' := (fun i => [some (.ref 58), some (.int k), some (.int (ctF (loP C) i)), some (.int (fsF (loP C) i)), some (.int (nI i)), none, none]) 0) ?_ (by repeat (first | exact True.intro | refine And.intro rfl ?_))
      refine Bd_for (pc := 34) (c := 81) (fun i => [some (.ref 58), some (.int k), some (.int (ctF (loP C) i)), some (.int (fsF (loP C) i)), some (.int (nI i)), none, none]) (fun _ => awM M) (fun _ => True) (fun ivi => ?_) (fun i hi ivi ihi => ?_) trivial
      · refine Bd_iload_4 (pc := 34) dX8_lost_34 ?_
        refine Bd_bipush (v := 81) (pc := 36) dX8_lost_36 (by decide) ?_
        refine Bd_icmp_ge (t := 151) (pc := 38) dX8_lost_38 (by decide) (fun b38 => ?_) (fun b38 => (show False from lf_x (rfl : (81 : Int32) = nI 81) b38).elim)
        refine Bd_iload_1 (pc := 151) dX8_lost_151 ?_
        refine Bd_if_ne (t := 159) (pc := 152) dX8_lost_152 (by decide) (fun b152 => ?_) (fun b152 => ?_)
        · refine Bd_iload_3 (pc := 159) dX8_lost_159 ?_
          refine Bd_iret (pc := 160) dX8_lost_160 rfl ?_
          have q := k01.mp (b2_n.mp b11)
          exact ⟨_, rfl, rfl, by rw [lostV, if_pos q, if_neg b20, if_neg b152], RP_aw h⟩
        · refine Bd_iload_2 (pc := 155) dX8_lost_155 ?_
          refine Bd_goto (t := 160) (pc := 156) dX8_lost_156 (by decide) ?_
          refine Bd_iret (pc := 160) dX8_lost_160 rfl ?_
          have q := k01.mp (b2_n.mp b11)
          exact ⟨_, rfl, rfl, by rw [lostV, if_pos q, if_neg b20, if_pos b152], RP_aw h⟩
      · refine Bd_iload_4 (pc := 34) dX8_lost_34 ?_
        refine Bd_bipush (v := 81) (pc := 36) dX8_lost_36 (by decide) ?_
        refine Bd_icmp_ge (t := 151) (pc := 38) dX8_lost_38 (by decide) (fun b38 => (show False from lf_s (rfl : (81 : Int32) = nI 81) (by decide) hi b38).elim) (fun b38 => ?_)
        have k116 : Bd mX8_lost G (RI SH (fun r N => r = lostV C k ∧ RP (C) M N)) SH 116 [some (.ref 58), some (.int k), some (.int (ctF (loP C) i)), some (.int (fsF (loP C) i)), some (.int (nI i)), some (.int (b2 (loQ C i (cn (C 5 5))))), none] [] (awM M) := by
          refine Bd_iload_5 (pc := 116) dX8_lost_116 ?_
          refine Bd_if_eq (t := 130) (pc := 118) dX8_lost_118 (by decide) (fun b118 => ?_) (fun b118 => ?_)
          · refine Bd_iload_3 (pc := 130) dX8_lost_130 ?_
            refine Bd_istore_3 (pc := 131) dX8_lost_131 (Nat.le_of_ble_eq_true rfl) rfl ?_
            refine Bd_iload_2 (pc := 132) dX8_lost_132 ?_
            refine Bd_iload_5 (pc := 133) dX8_lost_133 ?_
            refine Bd_if_eq (t := 142) (pc := 135) dX8_lost_135 (by decide) (fun b135 => ?_) (fun b135 => (show False from b135 b118).elim)
            refine Bd_iconst (v := 0) (pc := 142) dX8_lost_142 (by decide) ?_
            refine Bd_iadd (pc := 143) dX8_lost_143 ?_
            refine Bd_istore_2 (pc := 144) dX8_lost_144 (Nat.le_of_ble_eq_true rfl) rfl ?_
            refine Bd_iinc_4 (pc := 145) dX8_lost_145 (show _ + Int32.ofInt 1 = _ + 1 from rfl) (Nat.le_of_ble_eq_true rfl) rfl ?_
            refine Bd_goto (t := 34) (pc := 148) dX8_lost_148 (by decide) ?_
            have hP : loP C i = false := loP_f (b2_0.mp b118)
            exact Bd_nx (ihi trivial) (by simp only [wkP, ctF, fs_s (Nat.le_of_lt hi), hP, Bool.false_eq_true, if_false, nI_succ, Int32.add_zero, and_self])
          · refine Bd_iload_2 (pc := 121) dX8_lost_121 ?_
            refine Bd_if_ne (t := 130) (pc := 122) dX8_lost_122 (by decide) (fun b122 => ?_) (fun b122 => ?_)
            · refine Bd_iload_3 (pc := 130) dX8_lost_130 ?_
              refine Bd_istore_3 (pc := 131) dX8_lost_131 (Nat.le_of_ble_eq_true rfl) rfl ?_
              refine Bd_iload_2 (pc := 132) dX8_lost_132 ?_
              refine Bd_iload_5 (pc := 133) dX8_lost_133 ?_
              refine Bd_if_eq (t := 142) (pc := 135) dX8_lost_135 (by decide) (fun b135 => (show False from b118 b135).elim) (fun b135 => ?_)
              refine Bd_iconst (v := 1) (pc := 138) dX8_lost_138 (by decide) ?_
              refine Bd_goto (t := 143) (pc := 139) dX8_lost_139 (by decide) ?_
              refine Bd_iadd (pc := 143) dX8_lost_143 ?_
              refine Bd_istore_2 (pc := 144) dX8_lost_144 (Nat.le_of_ble_eq_true rfl) rfl ?_
              refine Bd_iinc_4 (pc := 145) dX8_lost_145 (show _ + Int32.ofInt 1 = _ + 1 from rfl) (Nat.le_of_ble_eq_true rfl) rfl ?_
              refine Bd_goto (t := 34) (pc := 148) dX8_lost_148 (by decide) ?_
              have hP : loP C i = true := loP_t (b2_n.mp b118)
              exact Bd_nx (ihi trivial) (by simp only [wkP, ctF, fs_s (Nat.le_of_lt hi), hP, if_true, if_neg b122, nI_succ, and_self])
            · refine Bd_iload_4 (pc := 125) dX8_lost_125 ?_
              refine Bd_goto (t := 131) (pc := 127) dX8_lost_127 (by decide) ?_
              refine Bd_istore_3 (pc := 131) dX8_lost_131 (Nat.le_of_ble_eq_true rfl) rfl ?_
              refine Bd_iload_2 (pc := 132) dX8_lost_132 ?_
              refine Bd_iload_5 (pc := 133) dX8_lost_133 ?_
              refine Bd_if_eq (t := 142) (pc := 135) dX8_lost_135 (by decide) (fun b135 => (show False from b118 b135).elim) (fun b135 => ?_)
              refine Bd_iconst (v := 1) (pc := 138) dX8_lost_138 (by decide) ?_
              refine Bd_goto (t := 143) (pc := 139) dX8_lost_139 (by decide) ?_
              refine Bd_iadd (pc := 143) dX8_lost_143 ?_
              refine Bd_istore_2 (pc := 144) dX8_lost_144 (Nat.le_of_ble_eq_true rfl) rfl ?_
              refine Bd_iinc_4 (pc := 145) dX8_lost_145 (show _ + Int32.ofInt 1 = _ + 1 from rfl) (Nat.le_of_ble_eq_true rfl) rfl ?_
              refine Bd_goto (t := 34) (pc := 148) dX8_lost_148 (by decide) ?_
              have hP : loP C i = true := loP_t (b2_n.mp b118)
              exact Bd_nx (ihi trivial) (by simp only [wkP, ctF, fs_s (Nat.le_of_lt hi), hP, if_true, if_pos b122, nI_succ, and_self])
        refine Bd_aload_0 (pc := 41) dX8_lost_41 ?_
        refine Bd_iload_4 (pc := 42) dX8_lost_42 ?_
        refine Bd_callV1i (cd := mX8_isCell) (pc := 44) dX8_lost_44 k_1012 v_X8_isCell ⟨(Nat.le_of_ble_eq_true rfl), (Nat.le_of_ble_eq_true rfl)⟩ rfl rfl (sem_isCellK h.aw) (Nat.le_of_ble_eq_true rfl) ?_
        refine Bd_istore_5 (pc := 47) dX8_lost_47 (Nat.le_of_ble_eq_true rfl) rfl ?_
        refine Bd_iconst (v := 1) (pc := 49) dX8_lost_49 (by decide) ?_
        refine Bd_istore_6 (pc := 50) dX8_lost_50 (Nat.le_of_ble_eq_true rfl) rfl ?_
        refine Bd_nx (L' := [some (.ref 58), some (.int k), some (.int (ctF (loP C) i)), some (.int (fsF (loP C) i)), some (.int (nI i)), some (.int (b2 (loQ C i (0 + 1)))), some (.int (nI (0 + 1)))]) ?_ ⟨rfl, rfl, rfl, rfl, rfl, congrArg (fun x => some (Value.int x)) (b2_c ⟨fun z => ⟨z, fun q hq => by rw [show q = 0 by omega]⟩, fun z => z.1⟩), rfl, trivial⟩
        refine Bd_for (pc := 52) (c := (cn (C 5 5) - 1)) (fun j => [some (.ref 58), some (.int k), some (.int (ctF (loP C) i)), some (.int (fsF (loP C) i)), some (.int (nI i)), some (.int (b2 (loQ C i (j + 1)))), some (.int (nI (j + 1)))]) (fun _ => awM M) (fun _ => True) (fun ivj => ?_) (fun j hj ivj ihj => ?_) trivial
        · refine Bd_iload_6 (pc := 52) dX8_lost_52 ?_
          refine Bd_aload_0 (pc := 54) dX8_lost_54 ?_
          refine Bd_callV0i (cd := mX8_noteds) (pc := 55) dX8_lost_55 k_1179 v_X8_noteds ⟨(Nat.le_of_ble_eq_true rfl), (Nat.le_of_ble_eq_true rfl)⟩ rfl rfl (sem_X8_noteds h.aw.rf) (Nat.le_of_ble_eq_true rfl) ?_
          refine Bd_icmp_ge (t := 116) (pc := 58) dX8_lost_58 (by decide) (fun b58 => ?_) (fun b58 => (show False from lf_x (show C 5 5 = nI (cn (C 5 5) - 1 + 1) from by rw [show cn (C 5 5) - 1 + 1 = cn (C 5 5) by omega]; exact h.1.nm) b58).elim)
          refine Bd_nx k116 ?_
          rw [show cn (C 5 5) - 1 + 1 = cn (C 5 5) by omega]
          exact ⟨rfl, rfl, rfl, rfl, rfl, rfl, trivial⟩
        · refine Bd_iload_6 (pc := 52) dX8_lost_52 ?_
          refine Bd_aload_0 (pc := 54) dX8_lost_54 ?_
          refine Bd_callV0i (cd := mX8_noteds) (pc := 55) dX8_lost_55 k_1179 v_X8_noteds ⟨(Nat.le_of_ble_eq_true rfl), (Nat.le_of_ble_eq_true rfl)⟩ rfl rfl (sem_X8_noteds h.aw.rf) (Nat.le_of_ble_eq_true rfl) ?_
          refine Bd_icmp_ge (t := 116) (pc := 58) dX8_lost_58 (by decide) (fun b58 => (show False from lf_s (show C 5 5 = nI (cn (C 5 5) - 1 + 1) from by rw [show cn (C 5 5) - 1 + 1 = cn (C 5 5) by omega]; exact h.1.nm) (by omega) (by omega) b58).elim) (fun b58 => ?_)
          refine Bd_iload_5 (pc := 61) dX8_lost_61 ?_
          refine Bd_if_eq (t := 116) (pc := 63) dX8_lost_63 (by decide) (fun b63 => ?_) (fun b63 => ?_)
          · exact Bd_nx k116 ⟨rfl, rfl, rfl, rfl, rfl, congrArg (fun x => some (Value.int x)) (b2_c ⟨fun z => absurd z (b2_0.mp b63), fun z => absurd ⟨z.1, fun q hq => z.2 q (by omega)⟩ (b2_0.mp b63)⟩), trivial⟩
          · refine Bd_aload_0 (pc := 66) dX8_lost_66 ?_
            refine Bd_getR (j := 0) ck8 (pc := 67) dX8_lost_67 k_786 rfl (Nat.le_of_ble_eq_true rfl) rfl ?_
            refine Bd_bipush (v := 88) (pc := 70) dX8_lost_70 (by decide) ?_
            refine Bd_iload_6 (pc := 72) dX8_lost_72 ?_
            refine Bd_iadd (pc := 74) dX8_lost_74 ?_
            refine Bd_ialdc (j := 88 + (j + 1)) (by rw [ti88 (j + 1) (by omega)]; exact nI_clamp (by omega)) (pc := 75) dX8_lost_75 rfl (by rw [ti88 (j + 1) (by omega)]; exact vpi (by omega) (by omega)) ?_
            refine Bd_aload_0 (pc := 76) dX8_lost_76 ?_
            refine Bd_iload_6 (pc := 77) dX8_lost_77 ?_
            refine Bd_iload_4 (pc := 79) dX8_lost_79 ?_
            refine Bd_callV2i (cd := mX8_comes) (pc := 81) dX8_lost_81 k_1055 v_X8_comes ⟨(Nat.le_of_ble_eq_true rfl), (Nat.le_of_ble_eq_true rfl)⟩ rfl rfl (sem_X8_comes h.aw (i := j + 1) (by omega) (b2_n.mp b63).1.1) (Nat.le_of_ble_eq_true rfl) ?_
            rw [h.aw.rf.mk (i := j + 1) (by omega)]
            refine Bd_isub (pc := 84) dX8_lost_84 ?_
            refine Bd_aload_0 (pc := 85) dX8_lost_85 ?_
            refine Bd_getR (j := 0) ck8 (pc := 86) dX8_lost_86 k_786 rfl (Nat.le_of_ble_eq_true rfl) rfl ?_
            refine Bd_bipush (v := 88) (pc := 89) dX8_lost_89 (by decide) ?_
            refine Bd_ialdc (j := 88) rfl (pc := 91) dX8_lost_91 rfl (by unfold vp_in; decide) ?_
            refine Bd_aload_0 (pc := 92) dX8_lost_92 ?_
            refine Bd_iconst (v := 0) (pc := 93) dX8_lost_93 (by decide) ?_
            refine Bd_iload_4 (pc := 94) dX8_lost_94 ?_
            refine Bd_callV2i (cd := mX8_comes) (pc := 96) dX8_lost_96 k_1055 v_X8_comes ⟨(Nat.le_of_ble_eq_true rfl), (Nat.le_of_ble_eq_true rfl)⟩ rfl rfl (sem_X8_comes h.aw (i := 0) (by omega) (b2_n.mp b63).1.1) (Nat.le_of_ble_eq_true rfl) ?_
            rw [show (awM M) 59 88 = C 9 0 from h.aw.rf.mk (i := 0) h0]
            refine Bd_isub (pc := 99) dX8_lost_99 ?_
            refine Bd_icmp_ne (t := 107) (pc := 100) dX8_lost_100 (by decide) (fun b100 => ?_) (fun b100 => ?_)
            · refine Bd_iconst (v := 0) (pc := 107) dX8_lost_107 (by decide) ?_
              refine Bd_istore_5 (pc := 108) dX8_lost_108 (Nat.le_of_ble_eq_true rfl) rfl ?_
              refine Bd_iinc_6 (pc := 110) dX8_lost_110 (show _ + Int32.ofInt 1 = _ + 1 from rfl) (Nat.le_of_ble_eq_true rfl) rfl ?_
              refine Bd_goto (t := 52) (pc := 113) dX8_lost_113 (by decide) ?_
              have z := b2_n.mp b63
              exact Bd_nx (ihj trivial) ⟨rfl, rfl, rfl, rfl, rfl, congrArg (fun x => some (Value.int x)) (b2_f (fun y => b100 (y.2 (j + 1) (by omega)))), congrArg (fun x => some (Value.int x)) (nI_succ (j + 1)).symm, trivial⟩
            · refine Bd_iconst (v := 1) (pc := 103) dX8_lost_103 (by decide) ?_
              refine Bd_goto (t := 108) (pc := 104) dX8_lost_104 (by decide) ?_
              refine Bd_istore_5 (pc := 108) dX8_lost_108 (Nat.le_of_ble_eq_true rfl) rfl ?_
              refine Bd_iinc_6 (pc := 110) dX8_lost_110 (show _ + Int32.ofInt 1 = _ + 1 from rfl) (Nat.le_of_ble_eq_true rfl) rfl ?_
              refine Bd_goto (t := 52) (pc := 113) dX8_lost_113 (by decide) ?_
              have z := b2_n.mp b63
              exact Bd_nx (ihj trivial) ⟨rfl, rfl, rfl, rfl, rfl, congrArg (fun x => some (Value.int x)) (b2_t ⟨z.1, fun q hq => by rcases Nat.lt_succ_iff_lt_or_eq.mp hq with y | y; exact z.2 q y; rw [y]; exact b100⟩), congrArg (fun x => some (Value.int x)) (nI_succ (j + 1)).symm, trivial⟩
    · refine Bd_bipush (v := -2) (pc := 23) dX8_lost_23 (by decide) ?_
      refine Bd_iret (pc := 25) dX8_lost_25 rfl ?_
      exact ⟨_, rfl, rfl, by rw [lostV, if_pos (k01.mp (b2_n.mp b11)), if_pos b20], RP_aw h⟩
  · refine Bd_iconst (v := -1) (pc := 14) dX8_lost_14 (by decide) ?_
    refine Bd_iret (pc := 15) dX8_lost_15 rfl ?_
    exact ⟨_, rfl, rfl, by rw [lostV, if_neg (fun z => b2_0.mp b11 (k01.mpr z))], RP_aw h⟩
