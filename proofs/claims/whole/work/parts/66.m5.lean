/-! 66: men: the reference's search -/
def FQ (n : Nat) (s : BS) (M N : Mem) : Prop := (∀ q, q ≠ 73 → q ≠ 74 → N q = M q) ∧ (∀ j, j < n → N 74 j = enc (-4) s.1 j) ∧ ∀ (p x : Nat), s.2.1[p]? = some x → N 73 p = nI x
def PR (can : Nat → Nat → Bool) (n st : Nat) (ah bh : OM) (r : Int32) (M N : Mem) : Prop := (∀ q, q < 71 ∨ 74 < q → N q = M q) ∧ match (bhs can ah n st n).2.2 with
  | none => r = 0 ∧ ∀ j, j < n → N 72 j = enc (-4) ah j ∧ N 71 j = enc (-4) bh j
  | some j0 => r = 1 ∧ ∀ j, j < n → N 72 j = enc (-4) (tu (bhs can ah n st n).1 n (some j0) ah bh).1 j ∧ N 71 j = enc (-4) (tu (bhs can ah n st n).1 n (some j0) ah bh).2 j
theorem FQ_rk {n : Nat} {s : BS} {C M N : Mem} (h : FQ n s M N) (q : RF C M) : RF C N := by rw [rsc_eq (N := N) (M := M) (fun k hk => h.1 k (fun z => by rw [z] at hk; exact absurd hk (by decide)) (fun z => by rw [z] at hk; exact absurd hk (by decide)))]; exact q
theorem cr_i {C : Mem} {i : Nat} : ¬ crF C i i := fun z => by
  have z : mxF 1 (C 45 3 * hfF (C 46 (cn (C 6 i))) (C 46 (cn (C 6 i)))) ≤ C 7 i - C 7 i := z
  rw [hf_self, Int32.mul_zero, Int32.sub_self] at z
  exact absurd z (by decide)
theorem nI_inj {a b : Nat} (h : nI a = nI b) (ha : a < 2 ^ 31 := by omega) (hb : b < 2 ^ 31 := by omega) : a = b := by
  have := congrArg Int32.toInt h
  rw [nI_toInt ha, nI_toInt hb] at this
  omega
set_option maxRecDepth 100000 in
set_option maxHeartbeats 4000000 in
theorem sem_X8_pairs {can : Nat → Nat → Bool} {C M : Mem} (hR : RF C M) {n st : Nat} (hnn : n = cn (C 5 4)) (hst : st < n) {ah bh : OM} (g : GD3 n st ah bh) (hab : ∀ j, j < n → M 72 j = enc (-4) ah j ∧ M 71 j = enc (-4) bh j) (hcan : can = fun i j => decide (crF C i j)) : Sem mX8_pairs SH [.ref 58, .int (nI st)] M (RI SH (fun r N => PR can n st ah bh r M N)) := by
  have hn : n ≤ 24 := by rw [hnn]; exact hR.1.nb24
  have h54 : C 5 4 = nI n := by rw [hnn]; exact hR.1.nb
  refine Sem_of rfl (fun G => (Nat.le_of_ble_eq_true rfl)) (fun G => ?_)
  refine Bd_aload_0 (pc := 0) dX8_pairs_0 ?_
  refine Bd_callV0i (cd := mX8_blows) (pc := 1) dX8_pairs_1 k_996 v_X8_blows ⟨(Nat.le_of_ble_eq_true rfl), (Nat.le_of_ble_eq_true rfl)⟩ rfl rfl (sem_X8_blows hR) (Nat.le_of_ble_eq_true rfl) ?_
  rw [h54]
  refine Bd_istore_2 (pc := 4) dX8_pairs_4 (Nat.le_of_ble_eq_true rfl) rfl ?_
  refine Bd_iconst (v := 0) (pc := 5) dX8_pairs_5 (by decide) ?_
  refine Bd_istore_3 (pc := 6) dX8_pairs_6 (Nat.le_of_ble_eq_true rfl) rfl ?_
  refine Bd_iconst (v := 1) (pc := 7) dX8_pairs_7 (by decide) ?_
  refine Bd_istore_4 (pc := 8) dX8_pairs_8 (Nat.le_of_ble_eq_true rfl) rfl ?_
  refine Bd_aload_0 (pc := 10) dX8_pairs_10 ?_
  refine Bd_getR (j := 31) ck8 (pc := 11) dX8_pairs_11 k_817 rfl (Nat.le_of_ble_eq_true rfl) rfl ?_
  refine Bd_iconst (v := 0) (pc := 14) dX8_pairs_14 (by decide) ?_
  refine Bd_iload_1 (pc := 15) dX8_pairs_15 ?_
  refine Bd_iastc (j := 0) rfl (pc := 16) dX8_pairs_16 rfl (by unfold vp_in; decide) ?_
  refine Bd_iconst (v := 0) (pc := 17) dX8_pairs_17 (by decide) ?_
  refine Bd_istore_5 (pc := 18) dX8_pairs_18 (Nat.le_of_ble_eq_true rfl) rfl ?_
  refine Bd_nx (Bd_wh (pc := 20) (σ := Nat × Mem) (fun x => x.1 ≤ n ∧ (∀ q, q ≠ 73 → q ≠ 74 → x.2 q = M q) ∧ x.2 73 0 = nI st ∧ ∀ j, j < x.1 → x.2 74 j = -4) (fun x => n - x.1) (fun x => [some (.ref 58), some (.int (nI st)), some (.int (nI n)), some (.int 0), some (.int 1), some (.int (nI x.1)), none]) (fun x => x.2) (fun x hx ih => ?_) (0, updM M 73 0 (nI st)) ⟨Nat.zero_le _, fun q q1 _ => updM_ne q1, (show updM M 73 0 (nI st) 73 0 = nI st from by rw [updM_eq, upd_eq]), fun j hj => absurd hj (Nat.not_lt_zero j)⟩) ⟨rfl, rfl, rfl, rfl, rfl, rfl, trivial⟩
  obtain ⟨i, N0⟩ := x
  obtain ⟨hi, hy⟩ := hx
  have hi : i ≤ n := hi
  have hy : (∀ q, q ≠ 73 → q ≠ 74 → N0 q = M q) ∧ N0 73 0 = nI st ∧ ∀ j, j < i → N0 74 j = -4 := hy
  show Bd mX8_pairs G _ SH 20 [some (.ref 58), some (.int (nI st)), some (.int (nI n)), some (.int 0), some (.int 1), some (.int (nI i)), none] [] N0
  rcases Nat.lt_or_ge i n with hi | hi2
  · refine Bd_iload_5 (pc := 20) dX8_pairs_20 ?_
    refine Bd_iload_2 (pc := 22) dX8_pairs_22 ?_
    refine Bd_icmp_ge (t := 41) (pc := 23) dX8_pairs_23 (by decide) (fun b23 => (show False from lf_s rfl (by omega) hi b23).elim) (fun b23 => ?_)
    refine Bd_aload_0 (pc := 26) dX8_pairs_26 ?_
    refine Bd_getR (j := 32) ck8 (pc := 27) dX8_pairs_27 k_818 rfl (Nat.le_of_ble_eq_true rfl) rfl ?_
    refine Bd_iload_5 (pc := 30) dX8_pairs_30 ?_
    refine Bd_bipush (v := -4) (pc := 32) dX8_pairs_32 (by decide) ?_
    refine Bd_iastc (j := i) (nI_clamp (by omega)) (pc := 34) dX8_pairs_34 rfl (vpi (by omega) (by omega)) ?_
    refine Bd_iinc_5 (pc := 35) dX8_pairs_35 (show _ + Int32.ofInt 1 = _ + 1 from rfl) (Nat.le_of_ble_eq_true rfl) rfl ?_
    refine Bd_goto (t := 20) (pc := 38) dX8_pairs_38 (by decide) ?_
    exact Bd_nx (ih (i + 1, updM N0 74 i (-4)) ⟨hi, fun q q1 q2 => (updM_ne q2).trans (hy.1 q q1 q2), (show updM N0 74 i (-4) 73 0 = nI st from by rw [updM_ne (by decide)]; exact hy.2.1), fun j hj => (show updM N0 74 i (-4) 74 j = -4 from by rw [updM_eq]; by_cases z : j = i; rw [z, upd_eq]; rw [upd_ne z]; exact hy.2.2 j (by have : j < i + 1 := hj; omega))⟩ (by show n - (i + 1) < n - i; omega)) ⟨rfl, rfl, rfl, rfl, rfl, congrArg (fun x => some (Value.int x)) (nI_succ i).symm, trivial⟩
  · have em : n = i := by omega
    subst em
    refine Bd_iload_5 (pc := 20) dX8_pairs_20 ?_
    refine Bd_iload_2 (pc := 22) dX8_pairs_22 ?_
    refine Bd_icmp_ge (t := 41) (pc := 23) dX8_pairs_23 (by decide) (fun b23 => ?_) (fun b23 => (show False from lf_x rfl b23).elim)
    refine Bd_nx (Bd_wh (pc := 41) (σ := Nat × Mem) (fun x => x.1 ≤ n ∧ (bhs can ah n st x.1).2.2 = none ∧ FQ n (bhs can ah n st x.1) M x.2) (fun x => n + 1 - x.1) (fun x => [some (.ref 58), some (.int (nI st)), some (.int (nI n)), some (.int (nI x.1)), some (.int (nI (bhs can ah n st x.1).2.1.length)), none, none]) (fun x => x.2) (fun x hx ih => ?_) (0, N0) ⟨Nat.zero_le _, rfl, hy.1, fun j hj => (hy.2.2 j hj), fun p x z => ?_⟩) ⟨rfl, rfl, rfl, rfl, rfl, trivial⟩
    · obtain ⟨h, N⟩ := x
      obtain ⟨hh, hf0, hx0⟩ := hx
      have hh : h ≤ n := hh
      have hf0 : (bhs can ah n st h).2.2 = none := hf0
      have hx0 : FQ n (bhs can ah n st h) M N := hx0
      show Bd mX8_pairs G _ SH 41 [some (.ref 58), some (.int (nI st)), some (.int (nI n)), some (.int (nI h)), some (.int (nI (bhs can ah n st h).2.1.length)), none, none] [] N
      have bi := BI_hs (can := can) g h
      have hlen := bi.len
      rcases Nat.lt_or_ge h (bhs can ah n st h).2.1.length with hlt | hge
      · obtain ⟨i, hqi⟩ : ∃ i, (bhs can ah n st h).2.1[h]? = some i := ⟨_, List.getElem?_eq_getElem hlt⟩
        have hin : i < n := by have := bi.2.1 i (List.mem_of_getElem? hqi); omega
        refine Bd_iload_3 (pc := 41) dX8_pairs_41 ?_
        refine Bd_iload_4 (pc := 42) dX8_pairs_42 ?_
        refine Bd_icmp_ge (t := 152) (pc := 44) dX8_pairs_44 (by decide) (fun b44 => (show False from nI_ge hlt (by omega) b44).elim) (fun b44 => ?_)
        refine Bd_aload_0 (pc := 47) dX8_pairs_47 ?_
        refine Bd_getR (j := 31) ck8 (pc := 48) dX8_pairs_48 k_817 rfl (Nat.le_of_ble_eq_true rfl) rfl ?_
        refine Bd_iload_3 (pc := 51) dX8_pairs_51 ?_
        refine Bd_ialdc (j := h) (nI_clamp (by omega)) (pc := 52) dX8_pairs_52 rfl (vpi (by omega) (by omega)) ?_
        rw [hx0.2.2 h i hqi]
        refine Bd_istore_5 (pc := 53) dX8_pairs_53 (Nat.le_of_ble_eq_true rfl) rfl ?_
        refine Bd_iinc_3 (pc := 55) dX8_pairs_55 (show _ + Int32.ofInt 1 = _ + 1 from rfl) (Nat.le_of_ble_eq_true rfl) rfl ?_
        refine Bd_iconst (v := 0) (pc := 58) dX8_pairs_58 (by decide) ?_
        refine Bd_istore_6 (pc := 59) dX8_pairs_59 (Nat.le_of_ble_eq_true rfl) rfl ?_
        refine Bd_nx (Bd_wh (pc := 61) (σ := Nat × Mem) (fun y => y.1 ≤ n ∧ (bjs can ah i (bhs can ah n st h) y.1).2.2 = none ∧ FQ n (bjs can ah i (bhs can ah n st h) y.1) M y.2) (fun y => n - y.1) (fun y => [some (.ref 58), some (.int (nI st)), some (.int (nI n)), some (.int (nI (h + 1))), some (.int (nI (bjs can ah i (bhs can ah n st h) y.1).2.1.length)), some (.int (nI i)), some (.int (nI y.1))]) (fun y => y.2) (fun y hy ihj => ?_) (0, N) ⟨Nat.zero_le _, hf0, hx0⟩) ⟨rfl, rfl, rfl, congrArg (fun x => some (Value.int x)) (nI_succ h).symm, rfl, rfl, rfl, trivial⟩
        obtain ⟨m, N⟩ := y
        obtain ⟨hm, hf, hx⟩ := hy
        have hm : m ≤ n := hm
        have hf : (bjs can ah i (bhs can ah n st h) m).2.2 = none := hf
        have hx : FQ n (bjs can ah i (bhs can ah n st h) m) M N := hx
        show Bd mX8_pairs G _ SH 61 [some (.ref 58), some (.int (nI st)), some (.int (nI n)), some (.int (nI (h + 1))), some (.int (nI (bjs can ah i (bhs can ah n st h) m).2.1.length)), some (.int (nI i)), some (.int (nI m))] [] N
        rcases Nat.lt_or_ge m n with hm | hm2
        · refine Bd_iload_6 (pc := 61) dX8_pairs_61 ?_
          refine Bd_iload_2 (pc := 63) dX8_pairs_63 ?_
          refine Bd_icmp_ge (t := 149) (pc := 64) dX8_pairs_64 (by decide) (fun b64 => (show False from lf_s rfl (by omega) hm b64).elim) (fun b64 => ?_)
          refine Bd_iload_6 (pc := 67) dX8_pairs_67 ?_
          refine Bd_iload_5 (pc := 69) dX8_pairs_69 ?_
          refine Bd_icmp_eq (t := 143) (pc := 71) dX8_pairs_71 (by decide) (fun b71 => ?_) (fun b71 => ?_)
          · refine Bd_iinc_6 (pc := 143) dX8_pairs_143 (show _ + Int32.ofInt 1 = _ + 1 from rfl) (Nat.le_of_ble_eq_true rfl) rfl ?_
            refine Bd_goto (t := 61) (pc := 146) dX8_pairs_146 (by decide) ?_
            have eb : bj can ah i m (bjs can ah i (bhs can ah n st h) m) = (bjs can ah i (bhs can ah n st h) m) := by unfold bj; exact if_neg (fun z => by rw [hcan] at z; rw [show m = i from nI_inj b71] at z; exact cr_i (of_decide_eq_true z.1))
            have es : bjs can ah i (bhs can ah n st h) (m + 1) = (bjs can ah i (bhs can ah n st h) m) := by rw [bjs, if_pos hf, eb]
            exact Bd_nx (ihj (m + 1, N) ⟨hm, by rw [es]; exact hf, by rw [es]; exact hx⟩ (by show n - (m + 1) < n - m; omega)) ⟨rfl, rfl, rfl, rfl, congrArg (fun x => some (Value.int x)) (show nI _ = nI _ from by rw [es]), rfl, congrArg (fun x => some (Value.int x)) (nI_succ m).symm, trivial⟩
          · refine Bd_aload_0 (pc := 74) dX8_pairs_74 ?_
            refine Bd_getR (j := 32) ck8 (pc := 75) dX8_pairs_75 k_818 rfl (Nat.le_of_ble_eq_true rfl) rfl ?_
            refine Bd_iload_6 (pc := 78) dX8_pairs_78 ?_
            refine Bd_ialdc (j := m) (nI_clamp (by omega)) (pc := 80) dX8_pairs_80 rfl (vpi (by omega) (by omega)) ?_
            refine Bd_bipush (v := -4) (pc := 81) dX8_pairs_81 (by decide) ?_
            refine Bd_icmp_ne (t := 143) (pc := 83) dX8_pairs_83 (by decide) (fun b83 => ?_) (fun b83 => ?_)
            · refine Bd_iinc_6 (pc := 143) dX8_pairs_143 (show _ + Int32.ofInt 1 = _ + 1 from rfl) (Nat.le_of_ble_eq_true rfl) rfl ?_
              refine Bd_goto (t := 61) (pc := 146) dX8_pairs_146 (by decide) ?_
              have eb : bj can ah i m (bjs can ah i (bhs can ah n st h) m) = (bjs can ah i (bhs can ah n st h) m) := by unfold bj; exact if_neg (fun z => b83 (by rw [hx.2.1 m hm]; exact enc_n z.2))
              have es : bjs can ah i (bhs can ah n st h) (m + 1) = (bjs can ah i (bhs can ah n st h) m) := by rw [bjs, if_pos hf, eb]
              exact Bd_nx (ihj (m + 1, N) ⟨hm, by rw [es]; exact hf, by rw [es]; exact hx⟩ (by show n - (m + 1) < n - m; omega)) ⟨rfl, rfl, rfl, rfl, congrArg (fun x => some (Value.int x)) (show nI _ = nI _ from by rw [es]), rfl, congrArg (fun x => some (Value.int x)) (nI_succ m).symm, trivial⟩
            · refine Bd_aload_0 (pc := 86) dX8_pairs_86 ?_
              refine Bd_iload_5 (pc := 87) dX8_pairs_87 ?_
              refine Bd_iload_6 (pc := 89) dX8_pairs_89 ?_
              refine Bd_callV2i (cd := mX8_canRun) (pc := 91) dX8_pairs_91 k_1162 v_X8_canRun ⟨(Nat.le_of_ble_eq_true rfl), (Nat.le_of_ble_eq_true rfl)⟩ rfl rfl (sem_X8_canRun (FQ_rk hx hR) (by omega) (by omega)) (Nat.le_of_ble_eq_true rfl) ?_
              refine Bd_if_eq (t := 143) (pc := 94) dX8_pairs_94 (by decide) (fun b94 => ?_) (fun b94 => ?_)
              · refine Bd_iinc_6 (pc := 143) dX8_pairs_143 (show _ + Int32.ofInt 1 = _ + 1 from rfl) (Nat.le_of_ble_eq_true rfl) rfl ?_
                refine Bd_goto (t := 61) (pc := 146) dX8_pairs_146 (by decide) ?_
                have eb : bj can ah i m (bjs can ah i (bhs can ah n st h) m) = (bjs can ah i (bhs can ah n st h) m) := by unfold bj; exact if_neg (fun z => by rw [hcan] at z; exact b2_0.mp b94 (of_decide_eq_true z.1))
                have es : bjs can ah i (bhs can ah n st h) (m + 1) = (bjs can ah i (bhs can ah n st h) m) := by rw [bjs, if_pos hf, eb]
                exact Bd_nx (ihj (m + 1, N) ⟨hm, by rw [es]; exact hf, by rw [es]; exact hx⟩ (by show n - (m + 1) < n - m; omega)) ⟨rfl, rfl, rfl, rfl, congrArg (fun x => some (Value.int x)) (show nI _ = nI _ from by rw [es]), rfl, congrArg (fun x => some (Value.int x)) (nI_succ m).symm, trivial⟩
              · have hc : can i m = true ∧ (bjs can ah i (bhs can ah n st h) m).1 m = none := ⟨by rw [hcan]; exact decide_eq_true (b2_n.mp b94), by
                  cases q : (bjs can ah i (bhs can ah n st h) m).1 m with
                  | none => rfl
                  | some v =>
                    rw [hx.2.1 m hm, enc_s q] at b83
                    obtain ⟨p, hp⟩ := ((BI_js (can := can) g (BI_hs g h) hqi m (by omega)).2.2.2.2.1 m v q).2
                    have := (BI_js (can := can) g (BI_hs g h) hqi m (by omega)).2.1 v (List.mem_of_getElem? hp)
                    exact absurd b83 (nI_ne (by omega)).2⟩
                have e72 : updM N 74 m (nI i) 72 m = enc (-4) ah m := by rw [updM_ne (by decide), hx.1 72 (by decide) (by decide)]; exact (hab m hm).1
                refine Bd_aload_0 (pc := 97) dX8_pairs_97 ?_
                refine Bd_getR (j := 32) ck8 (pc := 98) dX8_pairs_98 k_818 rfl (Nat.le_of_ble_eq_true rfl) rfl ?_
                refine Bd_iload_6 (pc := 101) dX8_pairs_101 ?_
                refine Bd_iload_5 (pc := 103) dX8_pairs_103 ?_
                refine Bd_iastc (j := m) (nI_clamp (by omega)) (pc := 105) dX8_pairs_105 rfl (vpi (by omega) (by omega)) ?_
                refine Bd_aload_0 (pc := 106) dX8_pairs_106 ?_
                refine Bd_getR (j := 30) ck8 (pc := 107) dX8_pairs_107 k_816 rfl (Nat.le_of_ble_eq_true rfl) rfl ?_
                refine Bd_iload_6 (pc := 110) dX8_pairs_110 ?_
                refine Bd_ialdc (j := m) (nI_clamp (by omega)) (pc := 112) dX8_pairs_112 rfl (vpi (by omega) (by omega)) ?_
                refine Bd_bipush (v := -4) (pc := 113) dX8_pairs_113 (by decide) ?_
                refine Bd_icmp_ne (t := 126) (pc := 115) dX8_pairs_115 (by decide) (fun b115 => ?_) (fun b115 => ?_)
                · obtain ⟨a, ea⟩ : ∃ a, ah m = some a := by
                    cases q : ah m with
                    | none => exact absurd (e72.trans (enc_n q)) b115
                    | some v => exact ⟨v, rfl⟩
                  have es : bjs can ah i (bhs can ah n st h) (m + 1) = (fs (bjs can ah i (bhs can ah n st h) m).1 m i, (bjs can ah i (bhs can ah n st h) m).2.1 ++ [a], none) := by rw [bjs, if_pos hf, bj, if_pos hc, ea]
                  have hl := (BI_js (can := can) g (BI_hs g h) hqi (m + 1) hm).len
                  rw [es, List.length_append] at hl
                  have hl : (bjs can ah i (bhs can ah n st h) m).2.1.length + 1 ≤ st + 1 := hl
                  refine Bd_aload_0 (pc := 126) dX8_pairs_126 ?_
                  refine Bd_getR (j := 31) ck8 (pc := 127) dX8_pairs_127 k_817 rfl (Nat.le_of_ble_eq_true rfl) rfl ?_
                  refine Bd_iload_4 (pc := 130) dX8_pairs_130 ?_
                  refine Bd_aload_0 (pc := 132) dX8_pairs_132 ?_
                  refine Bd_getR (j := 30) ck8 (pc := 133) dX8_pairs_133 k_816 rfl (Nat.le_of_ble_eq_true rfl) rfl ?_
                  refine Bd_iload_6 (pc := 136) dX8_pairs_136 ?_
                  refine Bd_ialdc (j := m) (nI_clamp (by omega)) (pc := 138) dX8_pairs_138 rfl (vpi (by omega) (by omega)) ?_
                  rw [e72, enc_s ea]
                  refine Bd_iastc (j := (bjs can ah i (bhs can ah n st h) m).2.1.length) (nI_clamp (by omega)) (pc := 139) dX8_pairs_139 rfl (vpi (by omega) (by omega)) ?_
                  refine Bd_iinc_4 (pc := 140) dX8_pairs_140 (show _ + Int32.ofInt 1 = _ + 1 from rfl) (Nat.le_of_ble_eq_true rfl) rfl ?_
                  refine Bd_iinc_6 (pc := 143) dX8_pairs_143 (show _ + Int32.ofInt 1 = _ + 1 from rfl) (Nat.le_of_ble_eq_true rfl) rfl ?_
                  refine Bd_goto (t := 61) (pc := 146) dX8_pairs_146 (by decide) ?_
                  refine Bd_nx (ihj (m + 1, updM (updM N 74 m (nI i)) 73 (bjs can ah i (bhs can ah n st h) m).2.1.length (nI a)) ⟨hm, by rw [es], ?_⟩ (by show n - (m + 1) < n - m; omega)) ⟨rfl, rfl, rfl, rfl, congrArg (fun x => some (Value.int x)) (show nI _ + 1 = nI _ from by rw [es, ← nI_succ]; simp), rfl, congrArg (fun x => some (Value.int x)) (nI_succ m).symm, trivial⟩
                  show FQ n (bjs can ah i (bhs can ah n st h) (m + 1)) M (updM (updM N 74 m (nI i)) 73 (bjs can ah i (bhs can ah n st h) m).2.1.length (nI a))
                  rw [es]
                  refine ⟨fun q q1 q2 => by rw [updM_ne q1, updM_ne q2]; exact hx.1 q q1 q2, fun j hj => by rw [updM_ne (by decide), updM_eq]; exact enc_fs hx.2.1 j hj, fun p x z => ?_⟩
                  rw [updM_eq, updM_ne (by decide)]
                  by_cases y : p = (bjs can ah i (bhs can ah n st h) m).2.1.length
                  · have z : ((bjs can ah i (bhs can ah n st h) m).2.1 ++ [a])[p]? = some x := z
                    rw [y, List.getElem?_append_right (Nat.le_refl _), Nat.sub_self] at z
                    rw [y, upd_eq, Option.some.inj z]
                  · have z : ((bjs can ah i (bhs can ah n st h) m).2.1 ++ [a])[p]? = some x := z
                    rw [upd_ne y]
                    have l := (List.getElem?_eq_some_iff.mp z).1
                    rw [List.length_append] at l
                    have l2 : p < (bjs can ah i (bhs can ah n st h) m).2.1.length := by have : [a].length = 1 := rfl; omega
                    rw [List.getElem?_append_left l2] at z
                    exact hx.2.2 p x z
                · have ea : ah m = none := by
                    cases q : ah m with
                    | none => rfl
                    | some v => rw [e72, enc_s q] at b115; exact absurd b115 (nI_ne (by have := g.1 m v q; have := Nat.lt_of_not_le (fun y => by have z := g.2.2 v y; rw [this.2] at z; cases z); omega)).2
                  have es : bjs can ah i (bhs can ah n st h) (m + 1) = (fs (bjs can ah i (bhs can ah n st h) m).1 m i, (bjs can ah i (bhs can ah n st h) m).2.1, some m) := by rw [bjs, if_pos hf, bj, if_pos hc, ea]
                  have ej := bjs_st (can := can) (ah := ah) (i := i) (s := (bhs can ah n st h)) (m := m + 1) (by rw [es]; exact fun z => by cases z) (n - (m + 1))
                  rw [show m + 1 + (n - (m + 1)) = n by omega] at ej
                  have eh : bhs can ah n st (h + 1) = (fs (bjs can ah i (bhs can ah n st h) m).1 m i, (bjs can ah i (bhs can ah n st h) m).2.1, some m) := by rw [bhs, if_pos hf0, hqi]; exact ej.trans es
                  have en := bhs_st (can := can) (ah := ah) (n := n) (st := st) (h := h + 1) (Or.inl (by rw [eh]; exact fun z => by cases z)) (n - (h + 1))
                  rw [show h + 1 + (n - (h + 1)) = n by omega, eh] at en
                  have efd : (bhs can ah n st n).2.2 = some m := by rw [en]
                  refine Bd_aload_0 (pc := 118) dX8_pairs_118 ?_
                  refine Bd_iload_6 (pc := 119) dX8_pairs_119 ?_
                  refine Bd_callV1y (cd := mX8_turns) (pc := 121) dX8_pairs_121 k_1166 v_X8_turns ⟨(Nat.le_of_ble_eq_true rfl), (Nat.le_of_ble_eq_true rfl)⟩ rfl rfl (sem_X8_turns hn hst g (BI_hs (can := can) g n) (fun j' i' z => by rw [en] at z; rw [updM_eq]; have := enc_fs (k := m) (v := i) hx.2.1 j' (((BI_hs (can := can) g n).2.2.2.2.1 j' i' (by rw [en]; exact z)).1); rw [this]; exact enc_s z) (fun j hj => by rw [updM_ne (by decide), updM_ne (by decide), hx.1 72 (by decide) (by decide), hx.1 71 (by decide) (by decide)]; exact hab j hj) efd) (Nat.le_of_ble_eq_true rfl) (fun M121 e121 => ?_)
                  refine Bd_iconst (v := 1) (pc := 124) dX8_pairs_124 (by decide) ?_
                  refine Bd_zret (pc := 125) dX8_pairs_125 rfl rfl ?_
                  refine ⟨_, rfl, rfl, fun q hq => ?_, ?_⟩
                  · rw [e121.1 q (by omega) (by omega), updM_ne (by omega)]; exact hx.1 q (by omega) (by omega)
                  · rw [efd]; exact ⟨rfl, e121.2⟩
        · have em : n = m := by omega
          subst em
          refine Bd_iload_6 (pc := 61) dX8_pairs_61 ?_
          refine Bd_iload_2 (pc := 63) dX8_pairs_63 ?_
          refine Bd_icmp_ge (t := 149) (pc := 64) dX8_pairs_64 (by decide) (fun b64 => ?_) (fun b64 => (show False from lf_x rfl b64).elim)
          refine Bd_goto (t := 41) (pc := 149) dX8_pairs_149 (by decide) ?_
          have eh : bhs can ah n st (h + 1) = bjs can ah i (bhs can ah n st h) n := by rw [bhs, if_pos hf0, hqi]
          exact Bd_nx (ih (h + 1, N) ⟨by show h + 1 ≤ n; omega, by rw [eh]; exact hf, by rw [eh]; exact hx⟩ (by show n + 1 - (h + 1) < n + 1 - h; omega)) ⟨rfl, rfl, rfl, rfl, congrArg (fun x => some (Value.int x)) (show nI _ = nI _ from by rw [eh]), trivial⟩
      · refine Bd_iload_3 (pc := 41) dX8_pairs_41 ?_
        refine Bd_iload_4 (pc := 42) dX8_pairs_42 ?_
        refine Bd_icmp_ge (t := 152) (pc := 44) dX8_pairs_44 (by decide) (fun b44 => ?_) (fun b44 => (show False from b44 (nI_le hge (by omega))).elim)
        refine Bd_iconst (v := 0) (pc := 152) dX8_pairs_152 (by decide) ?_
        refine Bd_zret (pc := 153) dX8_pairs_153 rfl rfl ?_
        have en := bhs_st (can := can) (ah := ah) (n := n) (st := st) (h := h) (Or.inr hge) (n - h)
        rw [show h + (n - h) = n by omega] at en
        refine ⟨_, rfl, rfl, fun q hq => hx0.1 q (by omega) (by omega), ?_⟩
        rw [en, hf0]
        exact ⟨rfl, fun j hj => by rw [hx0.1 72 (by decide) (by decide), hx0.1 71 (by decide) (by decide)]; exact hab j hj⟩
    · have z : [st][p]? = some x := z
      cases p with
      | zero => have := Option.some.inj z; rw [← this]; exact hy.2.1
      | succ p => simp at z
def MR (can : Nat → Nat → Bool) (n s : Nat) (M N : Mem) : Prop := (∀ q, q < 71 ∨ 74 < q → N q = M q) ∧ ∀ j, j < n → N 72 j = enc (-4) (mt can n s).1 j ∧ N 71 j = enc (-4) (mt can n s).2.1 j
theorem MR_rf {can : Nat → Nat → Bool} {n s : Nat} {C M N : Mem} (h : MR can n s M N) (q : RF C M) : RF C N := by
  rw [rsc_eq (N := N) (M := M) (fun k hk => h.1 k (by
    rcases Nat.lt_or_ge k 71 with z | z
    · exact Or.inl z
    · rcases Nat.lt_or_ge 74 k with y | y
      · exact Or.inr y
      · have : k = 71 ∨ k = 72 ∨ k = 73 ∨ k = 74 := by omega
        rcases this with w | w | w | w
        · rw [w] at hk; exact absurd hk (by decide)
        · rw [w] at hk; exact absurd hk (by decide)
        · rw [w] at hk; exact absurd hk (by decide)
        · rw [w] at hk; exact absurd hk (by decide)))]
  exact q
set_option maxRecDepth 100000 in
set_option maxHeartbeats 4000000 in
theorem bd_men {C M : Mem} (h : RF C M) {n : Nat} (hnn : n = cn (C 5 4)) {can : Nat → Nat → Bool} (hc : can = fun i j => decide (crF C i j)) {G : GD} {N0 : Mem} (hy : (∀ q, q ≠ 71 → q ≠ 72 → N0 q = M q) ∧ ∀ j, j < 24 → N0 72 j = -4 ∧ N0 71 j = -4) : Bd mX8_men G (RI SH (fun r N => r = nI (n - (mt can n n).2.2) ∧ RP C M N)) SH 39 [some (.ref 58), some (.int (C 5 4)), some (.int (C 5 4)), some (.int 0)] [] N0 := by
  have hn : n ≤ 24 := by rw [hnn]; exact h.1.nb24
  have h54 : C 5 4 = nI n := by rw [hnn]; exact h.1.nb
  refine Bd_nx (Bd_wh (pc := 39) (σ := Nat × Mem) (fun x => x.1 ≤ n ∧ MR can n x.1 M x.2) (fun x => n - x.1) (fun x => [some (.ref 58), some (.int (C 5 4)), some (.int (nI (n - (mt can n x.1).2.2))), some (.int (nI x.1))]) (fun x => x.2) (fun x hx ih => ?_) (0, N0) ⟨Nat.zero_le _, fun q hq => hy.1 q (by omega) (by omega), fun j hj => ⟨(hy.2 j (by omega)).1, (hy.2 j (by omega)).2⟩⟩) ⟨rfl, rfl, congrArg (fun x => some (Value.int x)) h54, rfl, trivial⟩
  obtain ⟨s, N⟩ := x
  obtain ⟨hs, hx⟩ := hx
  have hs : s ≤ n := hs
  have hx : MR can n s M N := hx
  show Bd mX8_men G _ SH 39 [some (.ref 58), some (.int (C 5 4)), some (.int (nI (n - (mt can n s).2.2))), some (.int (nI s))] [] N
  have g := mt_ok (can := can) (n := n) s hs
  rcases Nat.lt_or_ge s n with hs | hs2
  · refine Bd_iload_3 (pc := 39) dX8_men_39 ?_
    refine Bd_iload_1 (pc := 40) dX8_men_40 ?_
    refine Bd_icmp_ge (t := 66) (pc := 41) dX8_men_41 (by decide) (fun b41 => (show False from lf_s h54 (by omega) hs b41).elim) (fun b41 => ?_)
    refine Bd_iload_2 (pc := 44) dX8_men_44 ?_
    refine Bd_aload_0 (pc := 45) dX8_men_45 ?_
    refine Bd_iload_3 (pc := 46) dX8_men_46 ?_
    refine Bd_callV1x (cd := mX8_pairs) (pc := 47) dX8_men_47 k_1158 v_X8_pairs ⟨(Nat.le_of_ble_eq_true rfl), (Nat.le_of_ble_eq_true rfl)⟩ rfl rfl (sem_X8_pairs (can := can) (MR_rf hx h) hnn hs g hx.2 hc) (Nat.le_of_ble_eq_true rfl) (fun x47 M47 e47 => ?_)
    have hP := e47
    obtain ⟨p1, p2⟩ := hP
    cases efd : (bhs can (mt can n s).1 n s n).2.2 with
    | none =>
      rw [efd] at p2
      have em : mt can n (s + 1) = mt can n s := by rw [mt, efd]
      have hx2 : MR can n (s + 1) M M47 := ⟨fun q hq => (p1 q hq).trans (hx.1 q hq), fun j hj => by rw [em]; exact p2.2 j hj⟩
      obtain ⟨r0, -⟩ := p2
      subst r0
      refine Bd_if_eq (t := 57) (pc := 50) dX8_men_50 (by decide) (fun b50 => ?_) (fun b50 => (show False from b50 rfl).elim)
      refine Bd_iconst (v := 0) (pc := 57) dX8_men_57 (by decide) ?_
      refine Bd_isub (pc := 58) dX8_men_58 ?_
      refine Bd_istore_2 (pc := 59) dX8_men_59 (Nat.le_of_ble_eq_true rfl) rfl ?_
      refine Bd_iinc_3 (pc := 60) dX8_men_60 (show _ + Int32.ofInt 1 = _ + 1 from rfl) (Nat.le_of_ble_eq_true rfl) rfl ?_
      refine Bd_goto (t := 39) (pc := 63) dX8_men_63 (by decide) ?_
      exact Bd_nx (ih (s + 1, M47) ⟨hs, hx2⟩ (by show n - (s + 1) < n - s; omega)) ⟨rfl, rfl, congrArg (fun x => some (Value.int x)) (show nI (n - (mt can n s).2.2) - 0 = nI _ from by rw [em, Int32.sub_zero]), congrArg (fun x => some (Value.int x)) (nI_succ s).symm, trivial⟩
    | some j =>
      rw [efd] at p2
      have em : mt can n (s + 1) = ((tu (bhs can (mt can n s).1 n s n).1 n (some j) (mt can n s).1 (mt can n s).2.1).1, (tu (bhs can (mt can n s).1 n s n).1 n (some j) (mt can n s).1 (mt can n s).2.1).2, (mt can n s).2.2 + 1) := by rw [mt, efd]
      have hx2 : MR can n (s + 1) M M47 := ⟨fun q hq => (p1 q hq).trans (hx.1 q hq), fun j hj => by rw [em]; exact p2.2 j hj⟩
      have hle := mt_le (can := can) (n := n) (s + 1)
      rw [em] at hle
      have hle : (mt can n s).2.2 + 1 ≤ s + 1 := hle
      obtain ⟨r0, -⟩ := p2
      subst r0
      refine Bd_if_eq (t := 57) (pc := 50) dX8_men_50 (by decide) (fun b50 => (show False from absurd b50 (by decide)).elim) (fun b50 => ?_)
      refine Bd_iconst (v := 1) (pc := 53) dX8_men_53 (by decide) ?_
      refine Bd_goto (t := 58) (pc := 54) dX8_men_54 (by decide) ?_
      refine Bd_isub (pc := 58) dX8_men_58 ?_
      refine Bd_istore_2 (pc := 59) dX8_men_59 (Nat.le_of_ble_eq_true rfl) rfl ?_
      refine Bd_iinc_3 (pc := 60) dX8_men_60 (show _ + Int32.ofInt 1 = _ + 1 from rfl) (Nat.le_of_ble_eq_true rfl) rfl ?_
      refine Bd_goto (t := 39) (pc := 63) dX8_men_63 (by decide) ?_
      exact Bd_nx (ih (s + 1, M47) ⟨hs, hx2⟩ (by show n - (s + 1) < n - s; omega)) ⟨rfl, rfl, congrArg (fun x => some (Value.int x)) (show nI (n - (mt can n s).2.2) - 1 = nI (n - (mt can n (s + 1)).2.2) from by rw [em]; exact nI_sb (b := 1) (by omega)), congrArg (fun x => some (Value.int x)) (nI_succ s).symm, trivial⟩
  · have em : s = n := by omega
    rw [em] at hx
    rw [em]
    refine Bd_iload_3 (pc := 39) dX8_men_39 ?_
    refine Bd_iload_1 (pc := 40) dX8_men_40 ?_
    refine Bd_icmp_ge (t := 66) (pc := 41) dX8_men_41 (by decide) (fun b41 => ?_) (fun b41 => (show False from lf_x h54 b41).elim)
    refine Bd_iload_2 (pc := 66) dX8_men_66 ?_
    refine Bd_iret (pc := 67) dX8_men_67 rfl ?_
    exact ⟨_, rfl, rfl, rfl, (MR_rf hx h).2, fun k hk => hx.1 k (Or.inl (by omega))⟩
