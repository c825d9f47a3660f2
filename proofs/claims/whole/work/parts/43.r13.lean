/-! 43: the reference: count, copies, keep, back -/
theorem IVs_4 {C M : Mem} {k b : Nat} (h : IVs C M k b) : M 76 k = -4 ↔ C b 1 = -1 := by
  rcases h.1 with ⟨a, c⟩ | ⟨a, c⟩
  · rw [a, c]; simp
  · rw [a]
    constructor
    · intro z; rw [z] at c; exact absurd c.1 (by decide)
    · intro z; rw [z] at c; exact absurd c.1 (by decide)
theorem kp01 {x : Int32} (h : bt x 0 1) : x = 0 ∨ x = 1 := by
  have := cn_of h
  have e : cn x = 0 ∨ cn x = 1 := by have := this.2.2; omega
  rcases e with q | q
  · exact Or.inl (by rw [this.1, q]; rfl)
  · exact Or.inr (by rw [this.1, q]; rfl)
set_option maxRecDepth 100000 in
set_option maxHeartbeats 4000000 in
theorem sem_X8_count {C M : Mem} (h : RF C M) {k : Int32} : Sem mX8_count SH [.ref 58, .int k] M (RI SH (fun r N => r = countV C k ∧ RP (C) M N)) := by
  refine Sem_of rfl (fun G => (Nat.le_of_ble_eq_true rfl)) (fun G => ?_)
  refine Bd_iload_1 (pc := 0) dX8_count_0 ?_
  rcases Decidable.em (k = 0) with z0 | z0
  · subst z0
    refine Bd_swIn (t := 48) (pc := 1) dX8_count_1 (by decide) (by decide) rfl (by decide) ?_
    refine Bd_aload_0 (pc := 48) dX8_count_48 ?_
    refine Bd_getR (j := 0) ck8 (pc := 49) dX8_count_49 k_786 rfl (Nat.le_of_ble_eq_true rfl) rfl ?_
    refine Bd_bipush (v := 113) (pc := 52) dX8_count_52 (by decide) ?_
    refine Bd_ialdc (j := 113) rfl (pc := 54) dX8_count_54 rfl (by unfold vp_in; decide) ?_
    refine Bd_iret (pc := 55) dX8_count_55 rfl ?_
    exact ⟨_, rfl, rfl, h.2.1.2.2.1, RP_rf h⟩
  rcases Decidable.em (k = 1) with z1 | z1
  · subst z1
    refine Bd_swIn (t := 56) (pc := 1) dX8_count_1 (by decide) (by decide) rfl (by decide) ?_
    refine Bd_aload_0 (pc := 56) dX8_count_56 ?_
    refine Bd_getI (j := 3) ck8 (pc := 57) dX8_count_57 k_789 rfl (Nat.le_of_ble_eq_true rfl) rfl ?_
    refine Bd_iret (pc := 60) dX8_count_60 rfl ?_
    exact ⟨_, rfl, rfl, h.2.1.2.2.2.2.1, RP_rf h⟩
  rcases Decidable.em (k = 2) with z2 | z2
  · subst z2
    refine Bd_swIn (t := 61) (pc := 1) dX8_count_1 (by decide) (by decide) rfl (by decide) ?_
    refine Bd_aload_0 (pc := 61) dX8_count_61 ?_
    refine Bd_getI (j := 5) ck8 (pc := 62) dX8_count_62 k_791 rfl (Nat.le_of_ble_eq_true rfl) rfl ?_
    refine Bd_iret (pc := 65) dX8_count_65 rfl ?_
    exact ⟨_, rfl, rfl, h.2.1.2.2.2.2.2.2.1, RP_rf h⟩
  rcases Decidable.em (k = 3) with z3 | z3
  · subst z3
    refine Bd_swIn (t := 66) (pc := 1) dX8_count_1 (by decide) (by decide) rfl (by decide) ?_
    refine Bd_aload_0 (pc := 66) dX8_count_66 ?_
    refine Bd_callV0i (cd := mX8_blows) (pc := 67) dX8_count_67 k_996 v_X8_blows ⟨(Nat.le_of_ble_eq_true rfl), (Nat.le_of_ble_eq_true rfl)⟩ rfl rfl (sem_X8_blows h) (Nat.le_of_ble_eq_true rfl) ?_
    refine Bd_iret (pc := 70) dX8_count_70 rfl ?_
    exact ⟨_, rfl, rfl, rfl, RP_rf h⟩
  rcases Decidable.em (k = 4) with z4 | z4
  · subst z4
    refine Bd_swIn (t := 71) (pc := 1) dX8_count_1 (by decide) (by decide) rfl (by decide) ?_
    refine Bd_aload_0 (pc := 71) dX8_count_71 ?_
    refine Bd_callV0i (cd := mX8_noteds) (pc := 72) dX8_count_72 k_1179 v_X8_noteds ⟨(Nat.le_of_ble_eq_true rfl), (Nat.le_of_ble_eq_true rfl)⟩ rfl rfl (sem_X8_noteds h) (Nat.le_of_ble_eq_true rfl) ?_
    refine Bd_iret (pc := 75) dX8_count_75 rfl ?_
    exact ⟨_, rfl, rfl, rfl, RP_rf h⟩
  rcases Decidable.em (k = 5) with z5 | z5
  · subst z5
    refine Bd_swIn (t := 76) (pc := 1) dX8_count_1 (by decide) (by decide) rfl (by decide) ?_
    refine Bd_aload_0 (pc := 76) dX8_count_76 ?_
    refine Bd_getR (j := 33) ck8 (pc := 77) dX8_count_77 k_819 rfl (Nat.le_of_ble_eq_true rfl) rfl ?_
    refine Bd_iconst (v := 0) (pc := 80) dX8_count_80 (by decide) ?_
    refine Bd_zaldc (j := 0) rfl (pc := 81) dX8_count_81 rfl (by unfold vp_in; decide) ?_
    refine Bd_if_eq (t := 89) (pc := 82) dX8_count_82 (by decide) (fun b82 => ?_) (fun b82 => ?_)
    · refine Bd_iconst (v := 0) (pc := 89) dX8_count_89 (by decide) ?_
      refine Bd_aload_0 (pc := 90) dX8_count_90 ?_
      refine Bd_getR (j := 33) ck8 (pc := 91) dX8_count_91 k_819 rfl (Nat.le_of_ble_eq_true rfl) rfl ?_
      refine Bd_iconst (v := 1) (pc := 94) dX8_count_94 (by decide) ?_
      refine Bd_zaldc (j := 1) rfl (pc := 95) dX8_count_95 rfl (by unfold vp_in; decide) ?_
      refine Bd_if_eq (t := 103) (pc := 96) dX8_count_96 (by decide) (fun b96 => ?_) (fun b96 => ?_)
      · refine Bd_iconst (v := 0) (pc := 103) dX8_count_103 (by decide) ?_
        refine Bd_iadd (pc := 104) dX8_count_104 ?_
        refine Bd_iret (pc := 105) dX8_count_105 rfl ?_
        have e0 : M 75 0 = C 17 5 := h.2.2.2.1.1.1
        have e1 : M 75 1 = C 25 5 := h.2.2.2.1.2.1
        rw [e0] at b82
        rw [e1] at b96
        exact ⟨_, rfl, rfl, by rw [show countV C 5 = (if C 17 5 = 0 then 0 else 1) + (if C 25 5 = 0 then 0 else 1) from rfl, if_pos b82, if_pos b96], RP_rf h⟩
      · refine Bd_iconst (v := 1) (pc := 99) dX8_count_99 (by decide) ?_
        refine Bd_goto (t := 104) (pc := 100) dX8_count_100 (by decide) ?_
        refine Bd_iadd (pc := 104) dX8_count_104 ?_
        refine Bd_iret (pc := 105) dX8_count_105 rfl ?_
        have e0 : M 75 0 = C 17 5 := h.2.2.2.1.1.1
        have e1 : M 75 1 = C 25 5 := h.2.2.2.1.2.1
        rw [e0] at b82
        rw [e1] at b96
        exact ⟨_, rfl, rfl, by rw [show countV C 5 = (if C 17 5 = 0 then 0 else 1) + (if C 25 5 = 0 then 0 else 1) from rfl, if_pos b82, if_neg b96], RP_rf h⟩
    · refine Bd_iconst (v := 1) (pc := 85) dX8_count_85 (by decide) ?_
      refine Bd_goto (t := 90) (pc := 86) dX8_count_86 (by decide) ?_
      refine Bd_aload_0 (pc := 90) dX8_count_90 ?_
      refine Bd_getR (j := 33) ck8 (pc := 91) dX8_count_91 k_819 rfl (Nat.le_of_ble_eq_true rfl) rfl ?_
      refine Bd_iconst (v := 1) (pc := 94) dX8_count_94 (by decide) ?_
      refine Bd_zaldc (j := 1) rfl (pc := 95) dX8_count_95 rfl (by unfold vp_in; decide) ?_
      refine Bd_if_eq (t := 103) (pc := 96) dX8_count_96 (by decide) (fun b96 => ?_) (fun b96 => ?_)
      · refine Bd_iconst (v := 0) (pc := 103) dX8_count_103 (by decide) ?_
        refine Bd_iadd (pc := 104) dX8_count_104 ?_
        refine Bd_iret (pc := 105) dX8_count_105 rfl ?_
        have e0 : M 75 0 = C 17 5 := h.2.2.2.1.1.1
        have e1 : M 75 1 = C 25 5 := h.2.2.2.1.2.1
        rw [e0] at b82
        rw [e1] at b96
        exact ⟨_, rfl, rfl, by rw [show countV C 5 = (if C 17 5 = 0 then 0 else 1) + (if C 25 5 = 0 then 0 else 1) from rfl, if_neg b82, if_pos b96], RP_rf h⟩
      · refine Bd_iconst (v := 1) (pc := 99) dX8_count_99 (by decide) ?_
        refine Bd_goto (t := 104) (pc := 100) dX8_count_100 (by decide) ?_
        refine Bd_iadd (pc := 104) dX8_count_104 ?_
        refine Bd_iret (pc := 105) dX8_count_105 rfl ?_
        have e0 : M 75 0 = C 17 5 := h.2.2.2.1.1.1
        have e1 : M 75 1 = C 25 5 := h.2.2.2.1.2.1
        rw [e0] at b82
        rw [e1] at b96
        exact ⟨_, rfl, rfl, by rw [show countV C 5 = (if C 17 5 = 0 then 0 else 1) + (if C 25 5 = 0 then 0 else 1) from rfl, if_neg b82, if_neg b96], RP_rf h⟩
  rcases Decidable.em (k = 6) with z6 | z6
  · subst z6
    refine Bd_swIn (t := 106) (pc := 1) dX8_count_1 (by decide) (by decide) rfl (by decide) ?_
    refine Bd_aload_0 (pc := 106) dX8_count_106 ?_
    refine Bd_getI (j := 18) ck8 (pc := 107) dX8_count_107 k_804 rfl (Nat.le_of_ble_eq_true rfl) rfl ?_
    refine Bd_iret (pc := 110) dX8_count_110 rfl ?_
    exact ⟨_, rfl, rfl, h.2.2.2.2.1.1, RP_rf h⟩
  rcases Decidable.em (k = 7) with z7 | z7
  · subst z7
    refine Bd_swIn (t := 111) (pc := 1) dX8_count_1 (by decide) (by decide) rfl (by decide) ?_
    refine Bd_aload_0 (pc := 111) dX8_count_111 ?_
    refine Bd_getR (j := 34) ck8 (pc := 112) dX8_count_112 k_820 rfl (Nat.le_of_ble_eq_true rfl) rfl ?_
    refine Bd_iconst (v := 0) (pc := 115) dX8_count_115 (by decide) ?_
    refine Bd_ialdc (j := 0) rfl (pc := 116) dX8_count_116 rfl (by unfold vp_in; decide) ?_
    refine Bd_bipush (v := -4) (pc := 117) dX8_count_117 (by decide) ?_
    refine Bd_icmp_ne (t := 127) (pc := 119) dX8_count_119 (by decide) (fun b119 => ?_) (fun b119 => ?_)
    · refine Bd_aload_0 (pc := 127) dX8_count_127 ?_
      refine Bd_getR (j := 35) ck8 (pc := 128) dX8_count_128 k_821 rfl (Nat.le_of_ble_eq_true rfl) rfl ?_
      refine Bd_iconst (v := 0) (pc := 131) dX8_count_131 (by decide) ?_
      refine Bd_ialdc (j := 0) rfl (pc := 132) dX8_count_132 rfl (by unfold vp_in; decide) ?_
      refine Bd_iret (pc := 133) dX8_count_133 rfl ?_
      have e := IVs_4 h.2.2.2.2.2.2.1.1
      exact ⟨_, rfl, rfl, by rw [show countV C 7 = (if C 34 1 = -1 then -4 else C 34 2) from rfl, if_neg (fun z => b119 (e.mpr z))]; exact h.2.2.2.2.2.2.1.1.2.1, RP_rf h⟩
    · refine Bd_bipush (v := -4) (pc := 122) dX8_count_122 (by decide) ?_
      refine Bd_goto (t := 133) (pc := 124) dX8_count_124 (by decide) ?_
      refine Bd_iret (pc := 133) dX8_count_133 rfl ?_
      have e := IVs_4 h.2.2.2.2.2.2.1.1
      exact ⟨_, rfl, rfl, by rw [show countV C 7 = (if C 34 1 = -1 then -4 else C 34 2) from rfl, if_pos (e.mp b119)], RP_rf h⟩
  refine Bd_swOut (t := 134) (pc := 1) dX8_count_1 (sw8 z0 z1 z2 z3 z4 z5 z6 z7) (by decide) ?_
  refine Bd_iconst (v := -1) (pc := 134) dX8_count_134 (by decide) ?_
  refine Bd_iret (pc := 135) dX8_count_135 rfl ?_
  exact ⟨_, rfl, rfl, by rw [countV, if_neg z0, if_neg z1, if_neg z2, if_neg z3, if_neg z4, if_neg z5, if_neg z6, if_neg z7], RP_rf h⟩
def cyM (M : Mem) (a b i : Nat) : Mem := setR M 59 (fun j => if b ≤ j ∧ j < b + i then M 59 (a + (j - b)) else M 59 j)
theorem cyM_ne {M : Mem} {a b i q : Nat} (h : q ≠ 59) : cyM M a b i q = M q := setR_ne h
theorem cyM_e {M : Mem} {a b i : Nat} : cyM M a b i 59 = (fun j => if b ≤ j ∧ j < b + i then M 59 (a + (j - b)) else M 59 j) := by unfold cyM setR; rw [if_pos rfl]
theorem cyM_o {M : Mem} {a b i j : Nat} (h : j < b ∨ b + i ≤ j) : cyM M a b i 59 j = M 59 j := by rw [cyM_e]; exact if_neg (by omega)
theorem cyM_in {M : Mem} {a b i j : Nat} (h : j < i) : cyM M a b i 59 (b + j) = M 59 (a + j) := by
  rw [cyM_e]
  show (if b ≤ b + j ∧ b + j < b + i then M 59 (a + (b + j - b)) else M 59 (b + j)) = M 59 (a + j)
  rw [if_pos (by omega), show a + (b + j - b) = a + j by omega]
theorem cyM_0 {M : Mem} {a b : Nat} : cyM M a b 0 = M := by
  funext q
  by_cases h : q = 59
  · subst h; funext j; exact cyM_o (by omega)
  · exact cyM_ne h
theorem cyM_s {M : Mem} {a b i : Nat} (hab : a + 120 ≤ b ∨ b + 120 ≤ a) (hi : i < 120) : cyM M a b (i + 1) = updM (cyM M a b i) 59 (b + i) (cyM M a b i 59 (a + i)) := by
  funext q
  by_cases h : q = 59
  · subst h
    rw [updM_eq]
    funext j
    by_cases hj : j = b + i
    · rw [hj, upd_eq, cyM_in (by omega), cyM_o (by omega)]
    · rw [upd_ne hj]
      by_cases z : b ≤ j ∧ j < b + i
      · rw [show j = b + (j - b) by omega, cyM_in (by omega), cyM_in (by omega)]
      · rw [cyM_o (by omega), cyM_o (by omega)]
  · rw [updM_ne h, cyM_ne h, cyM_ne h]
theorem nIa {a i : Nat} {x : Int32} (h : x = nI a) : x + nI i = nI (a + i) := by rw [h, nI_add]
set_option maxRecDepth 100000 in
set_option maxHeartbeats 4000000 in
theorem sem_X8_copies {M : Mem} {x y : Int32} {a b : Nat} (hx : x = nI a) (hy : y = nI b) (hab : a + 120 ≤ b ∨ b + 120 ≤ a) (ha : a ≤ 240) (hb : b ≤ 240) : Sem mX8_copies SH [.ref 58, .int x, .int y] M (PD SH none (cyM M a b 120)) := by
  refine Sem_of rfl (fun G => (Nat.le_of_ble_eq_true rfl)) (fun G => ?_)
  refine Bd_iconst (v := 0) (pc := 0) dX8_copies_0 (by decide) ?_
  refine Bd_istore_3 (pc := 1) dX8_copies_1 (Nat.le_of_ble_eq_true rfl) rfl ?_
  refine Bd_cM ?_ (cyM_0 (M := M) (a := a) (b := b))
  refine Bd_nx (L' := (fun i => [some (.ref 58), some (.int x), some (.int y), some (.int (nI i))]) 0) ?_ (by repeat (first | exact True.intro | refine And.intro rfl ?_))
  refine Bd_for (pc := 2) (c := 120) (fun i => [some (.ref 58), some (.int x), some (.int y), some (.int (nI i))]) (fun i => cyM M a b i) (fun _ => True) (fun ivi => ?_) (fun i hi ivi ihi => ?_) trivial
  · refine Bd_iload_3 (pc := 2) dX8_copies_2 ?_
    refine Bd_bipush (v := 120) (pc := 3) dX8_copies_3 (by decide) ?_
    refine Bd_icmp_ge (t := 30) (pc := 5) dX8_copies_5 (by decide) (fun b5 => ?_) (fun b5 => (show False from lf_x (rfl : (120 : Int32) = nI 120) b5).elim)
    refine Bd_vret (pc := 30) dX8_copies_30 rfl ?_
    exact PD_v rfl
  · refine Bd_iload_3 (pc := 2) dX8_copies_2 ?_
    refine Bd_bipush (v := 120) (pc := 3) dX8_copies_3 (by decide) ?_
    refine Bd_icmp_ge (t := 30) (pc := 5) dX8_copies_5 (by decide) (fun b5 => (show False from lf_s (rfl : (120 : Int32) = nI 120) (by decide) hi b5).elim) (fun b5 => ?_)
    refine Bd_aload_0 (pc := 8) dX8_copies_8 ?_
    refine Bd_getR (j := 0) ck8 (pc := 9) dX8_copies_9 k_786 rfl (Nat.le_of_ble_eq_true rfl) rfl ?_
    refine Bd_iload_2 (pc := 12) dX8_copies_12 ?_
    refine Bd_iload_3 (pc := 13) dX8_copies_13 ?_
    refine Bd_iadd (pc := 14) dX8_copies_14 ?_
    refine Bd_aload_0 (pc := 15) dX8_copies_15 ?_
    refine Bd_getR (j := 0) ck8 (pc := 16) dX8_copies_16 k_786 rfl (Nat.le_of_ble_eq_true rfl) rfl ?_
    refine Bd_iload_1 (pc := 19) dX8_copies_19 ?_
    refine Bd_iload_3 (pc := 20) dX8_copies_20 ?_
    refine Bd_iadd (pc := 21) dX8_copies_21 ?_
    refine Bd_ialdc (j := a + i) (by rw [nIa hx]; exact nI_clamp (by omega)) (pc := 22) dX8_copies_22 rfl (by rw [nIa hx]; exact vpi (by omega) (by omega)) ?_
    refine Bd_iastc (j := b + i) (by rw [nIa hy]; exact nI_clamp (by omega)) (pc := 23) dX8_copies_23 rfl (by rw [nIa hy]; exact vpi (by omega) (by omega)) ?_
    refine Bd_iinc_3 (pc := 24) dX8_copies_24 (show _ + Int32.ofInt 1 = _ + 1 from rfl) (Nat.le_of_ble_eq_true rfl) rfl ?_
    refine Bd_goto (t := 2) (pc := 27) dX8_copies_27 (by decide) ?_
    rw [← cyM_s hab hi]
    exact Bd_nx (ihi trivial) ⟨rfl, rfl, rfl, congrArg (fun x => some (Value.int x)) (nI_succ i).symm, trivial⟩
set_option maxRecDepth 100000 in
set_option maxHeartbeats 4000000 in
theorem sem_X8_blowsM {M : Mem} : Sem mX8_blows SH [.ref 58] M (PD SH (some (.int (M 59 86))) (M)) := by
  refine Sem_of rfl (fun G => (Nat.le_of_ble_eq_true rfl)) (fun G => ?_)
  refine Bd_aload_0 (pc := 0) dX8_blows_0 ?_
  refine Bd_getR (j := 0) ck8 (pc := 1) dX8_blows_1 k_786 rfl (Nat.le_of_ble_eq_true rfl) rfl ?_
  refine Bd_bipush (v := 86) (pc := 4) dX8_blows_4 (by decide) ?_
  refine Bd_ialdc (j := 86) rfl (pc := 6) dX8_blows_6 rfl (by unfold vp_in; decide) ?_
  refine Bd_iret (pc := 7) dX8_blows_7 rfl ?_
  exact PD_i rfl rfl
theorem IVbf_e {g g' : Nat → Int32} {p p' : Nat} {f5 f6 f7 f8 f9 e5 e6 e7 e8 e9 : Nat → Int32} (hg : ∀ j, 14 ≤ j → j < 113 → g' (p' + j) = g (p + j)) (h54 : e5 4 = f5 4) (h55 : e5 5 = f5 5) (n4 : cn (f5 4) ≤ 24) (n5 : cn (f5 5) ≤ 24) (h6 : ∀ i, i < 24 → e6 i = f6 i) (h7 : ∀ i, i < 24 → e7 i = f7 i) (h8 : ∀ i, i < 24 → e8 i = f8 i) (h9 : ∀ i, i < 24 → e9 i = f9 i) (h : IVbf g p f5 f6 f7 f8 f9) : IVbf g' p' e5 e6 e7 e8 e9 := by
  obtain ⟨a, b, c, d⟩ := h
  refine ⟨by rw [hg 86 (by omega) (by omega), h54]; exact a, fun i hi => ?_, by rw [hg 112 (by omega) (by omega), h55]; exact c, fun i hi => ?_⟩
  · rw [h54] at hi
    have := b i hi
    rw [show p' + 14 + 3 * i = p' + (14 + 3 * i) by omega, show p' + 15 + 3 * i = p' + (15 + 3 * i) by omega, show p' + 16 + 3 * i = p' + (16 + 3 * i) by omega, hg _ (by omega) (by omega), hg _ (by omega) (by omega), hg _ (by omega) (by omega), h6 i (by omega), h7 i (by omega), h8 i (by omega)]
    rw [show p + 14 + 3 * i = p + (14 + 3 * i) by omega, show p + 15 + 3 * i = p + (15 + 3 * i) by omega, show p + 16 + 3 * i = p + (16 + 3 * i) by omega] at this
    exact this
  · rw [h55] at hi
    have := d i hi
    rw [show p' + 88 + i = p' + (88 + i) by omega, hg _ (by omega) (by omega), h9 i (by omega)]
    rw [show p + 88 + i = p + (88 + i) by omega] at this
    exact this
theorem IVl_c {C C' M N : Mem} (h : IVl C M) (e58 : N 58 = M 58) (e60 : N 60 = M 60) (e61 : N 61 = M 61) (e62 : N 62 = M 62) (hp : ∀ j, j < 120 → N 59 j = M 59 j) (hc : ∀ k, 44 ≤ k → k ≤ 50 → C' k = C k) (h6 : cn (C 44 6) ≤ 6) : IVl C' N := by
  unfold IVl at h ⊢
  rw [e58, e60, e61, e62, hc 44 (by decide) (by decide), hc 45 (by decide) (by decide), hc 46 (by decide) (by decide), hc 47 (by decide) (by decide), hc 48 (by decide) (by decide), hc 49 (by decide) (by decide), hc 50 (by decide) (by decide), hp 12 (by decide), hp 13 (by decide), hp 113 (by decide)]
  obtain ⟨h1, h2, h3, h4, h5⟩ := h
  exact ⟨h1, h2, h3, fun t ht => by rw [hp t (by omega), hp (6 + t) (by omega)]; exact h4 t ht, h5⟩
theorem tkM_ne17 {C : Mem} {q : Nat} (h : q < 17 ∨ 17 + 8 ≤ q) : tkM C 17 q = C q := by
  have h0 : q ≠ 17 := by omega
  have h1 : q ≠ 17 + 1 := by omega
  have h2 : q ≠ 17 + 2 := by omega
  have h3 : q ≠ 17 + 3 := by omega
  have h4 : q ≠ 17 + 3 + 1 := by omega
  have h5 : q ≠ 17 + 3 + 2 := by omega
  have h6 : q ≠ 17 + 3 + 3 := by omega
  have h7 : q ≠ 17 + 3 + 4 := by omega
  simp only [tkM, cfM, cpR, updM_ne h0, updM_ne h1, updM_ne h2, updM_ne h3, setR_ne h1, setR_ne h2, setR_ne h4, setR_ne h5, setR_ne h6, setR_ne h7]
theorem tkM_s17 {C : Mem} : tkM C 17 17 5 = 1 ∧ tkM C 17 17 3 = C 45 4 ∧ tkM C 17 17 4 = C 45 5 ∧ (∀ t, t < 6 → tkM C 17 (17 + 1) t = C 46 t) ∧ (∀ t, t < 6 → tkM C 17 (17 + 2) t = C 47 t) ∧ tkM C 17 (17 + 3) 4 = C 5 4 ∧ tkM C 17 (17 + 3) 5 = C 5 5 ∧ (∀ t, t < 24 → tkM C 17 (17 + 4) t = C 6 t) ∧ (∀ t, t < 24 → tkM C 17 (17 + 5) t = C 7 t) ∧ (∀ t, t < 24 → tkM C 17 (17 + 6) t = C 8 t) ∧ ∀ t, t < 24 → tkM C 17 (17 + 7) t = C 9 t := by
  refine ⟨by simp [tkM, cfM, cpR, setR, updM, upd], by simp [tkM, cfM, cpR, setR, updM, upd], by simp [tkM, cfM, cpR, setR, updM, upd], fun t ht => ?_, fun t ht => ?_, by simp [tkM, cfM, cpR, setR, updM, upd], by simp [tkM, cfM, cpR, setR, updM, upd], fun t ht => ?_, fun t ht => ?_, fun t ht => ?_, fun t ht => ?_⟩ <;> (simp [tkM, cfM, cpR, setR, updM, upd]; intro z; omega)
theorem gvM_ne17 {C : Mem} {q : Nat} (h : q < 5 ∨ (10 ≤ q ∧ q < 45) ∨ 48 ≤ q) : gvM C 17 q = C q := by
  have h0 : q ≠ 45 := by omega
  have h1 : q ≠ 46 := by omega
  have h2 : q ≠ 47 := by omega
  have h3 : q ≠ 5 := by omega
  have h4 : q ≠ 5 + 1 := by omega
  have h5 : q ≠ 5 + 2 := by omega
  have h6 : q ≠ 5 + 3 := by omega
  have h7 : q ≠ 5 + 4 := by omega
  simp only [gvM, cfM, cpR, updM_ne h0, updM_ne h1, updM_ne h2, updM_ne h3, setR_ne h1, setR_ne h2, setR_ne h4, setR_ne h5, setR_ne h6, setR_ne h7]
theorem gvM_s17 {C : Mem} : gvM C 17 45 4 = C 17 3 ∧ gvM C 17 45 5 = C 17 4 ∧ (∀ t, t < 4 → gvM C 17 45 t = C 45 t) ∧ (∀ t, t < 6 → gvM C 17 46 t = C (17 + 1) t) ∧ (∀ t, t < 6 → gvM C 17 47 t = C (17 + 2) t) ∧ gvM C 17 5 4 = C (17 + 3) 4 ∧ gvM C 17 5 5 = C (17 + 3) 5 ∧ (∀ t, t < 24 → gvM C 17 6 t = C (17 + 4) t) ∧ (∀ t, t < 24 → gvM C 17 7 t = C (17 + 5) t) ∧ (∀ t, t < 24 → gvM C 17 8 t = C (17 + 6) t) ∧ ∀ t, t < 24 → gvM C 17 9 t = C (17 + 7) t := by
  refine ⟨by simp [gvM, cfM, cpR, setR, updM, upd], by simp [gvM, cfM, cpR, setR, updM, upd], fun t ht => ?_, fun t ht => ?_, fun t ht => ?_, by simp [gvM, cfM, cpR, setR, updM, upd], by simp [gvM, cfM, cpR, setR, updM, upd], fun t ht => ?_, fun t ht => ?_, fun t ht => ?_, fun t ht => ?_⟩
  · have h4 : t ≠ 4 := by omega
    have h5 : t ≠ 5 := by omega
    simp [gvM, cfM, cpR, setR, updM, upd, h4, h5]
  all_goals (simp [gvM, cfM, cpR, setR, updM, upd]; intro z; omega)
theorem tkM_ne25 {C : Mem} {q : Nat} (h : q < 25 ∨ 25 + 8 ≤ q) : tkM C 25 q = C q := by
  have h0 : q ≠ 25 := by omega
  have h1 : q ≠ 25 + 1 := by omega
  have h2 : q ≠ 25 + 2 := by omega
  have h3 : q ≠ 25 + 3 := by omega
  have h4 : q ≠ 25 + 3 + 1 := by omega
  have h5 : q ≠ 25 + 3 + 2 := by omega
  have h6 : q ≠ 25 + 3 + 3 := by omega
  have h7 : q ≠ 25 + 3 + 4 := by omega
  simp only [tkM, cfM, cpR, updM_ne h0, updM_ne h1, updM_ne h2, updM_ne h3, setR_ne h1, setR_ne h2, setR_ne h4, setR_ne h5, setR_ne h6, setR_ne h7]
theorem tkM_s25 {C : Mem} : tkM C 25 25 5 = 1 ∧ tkM C 25 25 3 = C 45 4 ∧ tkM C 25 25 4 = C 45 5 ∧ (∀ t, t < 6 → tkM C 25 (25 + 1) t = C 46 t) ∧ (∀ t, t < 6 → tkM C 25 (25 + 2) t = C 47 t) ∧ tkM C 25 (25 + 3) 4 = C 5 4 ∧ tkM C 25 (25 + 3) 5 = C 5 5 ∧ (∀ t, t < 24 → tkM C 25 (25 + 4) t = C 6 t) ∧ (∀ t, t < 24 → tkM C 25 (25 + 5) t = C 7 t) ∧ (∀ t, t < 24 → tkM C 25 (25 + 6) t = C 8 t) ∧ ∀ t, t < 24 → tkM C 25 (25 + 7) t = C 9 t := by
  refine ⟨by simp [tkM, cfM, cpR, setR, updM, upd], by simp [tkM, cfM, cpR, setR, updM, upd], by simp [tkM, cfM, cpR, setR, updM, upd], fun t ht => ?_, fun t ht => ?_, by simp [tkM, cfM, cpR, setR, updM, upd], by simp [tkM, cfM, cpR, setR, updM, upd], fun t ht => ?_, fun t ht => ?_, fun t ht => ?_, fun t ht => ?_⟩ <;> (simp [tkM, cfM, cpR, setR, updM, upd]; intro z; omega)
theorem gvM_ne25 {C : Mem} {q : Nat} (h : q < 5 ∨ (10 ≤ q ∧ q < 45) ∨ 48 ≤ q) : gvM C 25 q = C q := by
  have h0 : q ≠ 45 := by omega
  have h1 : q ≠ 46 := by omega
  have h2 : q ≠ 47 := by omega
  have h3 : q ≠ 5 := by omega
  have h4 : q ≠ 5 + 1 := by omega
  have h5 : q ≠ 5 + 2 := by omega
  have h6 : q ≠ 5 + 3 := by omega
  have h7 : q ≠ 5 + 4 := by omega
  simp only [gvM, cfM, cpR, updM_ne h0, updM_ne h1, updM_ne h2, updM_ne h3, setR_ne h1, setR_ne h2, setR_ne h4, setR_ne h5, setR_ne h6, setR_ne h7]
theorem gvM_s25 {C : Mem} : gvM C 25 45 4 = C 25 3 ∧ gvM C 25 45 5 = C 25 4 ∧ (∀ t, t < 4 → gvM C 25 45 t = C 45 t) ∧ (∀ t, t < 6 → gvM C 25 46 t = C (25 + 1) t) ∧ (∀ t, t < 6 → gvM C 25 47 t = C (25 + 2) t) ∧ gvM C 25 5 4 = C (25 + 3) 4 ∧ gvM C 25 5 5 = C (25 + 3) 5 ∧ (∀ t, t < 24 → gvM C 25 6 t = C (25 + 4) t) ∧ (∀ t, t < 24 → gvM C 25 7 t = C (25 + 5) t) ∧ (∀ t, t < 24 → gvM C 25 8 t = C (25 + 6) t) ∧ ∀ t, t < 24 → gvM C 25 9 t = C (25 + 7) t := by
  refine ⟨by simp [gvM, cfM, cpR, setR, updM, upd], by simp [gvM, cfM, cpR, setR, updM, upd], fun t ht => ?_, fun t ht => ?_, fun t ht => ?_, by simp [gvM, cfM, cpR, setR, updM, upd], by simp [gvM, cfM, cpR, setR, updM, upd], fun t ht => ?_, fun t ht => ?_, fun t ht => ?_, fun t ht => ?_⟩
  · have h4 : t ≠ 4 := by omega
    have h5 : t ≠ 5 := by omega
    simp [gvM, cfM, cpR, setR, updM, upd, h4, h5]
  all_goals (simp [gvM, cfM, cpR, setR, updM, upd]; intro z; omega)
