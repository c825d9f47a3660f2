/-! 19: the class: read -/
theorem bt_of {x : Int32} {a b : Int32} (h1 : a ≤ x) (h2 : x ≤ b) : bt x a.toInt b.toInt := ⟨Int32.le_iff_toInt_le.mp h1, Int32.le_iff_toInt_le.mp h2⟩
theorem WF_ad {M : Mem} (h : WF M) {t b n : Int32} (h24 : cn (M 5 4) < 24) (ht : 0 ≤ t ∧ t < M 44 6) (hb : bt b 0 300) (hn : bt n 0 7) : WF (adF M (cn (M 5 4)) t b n) := by
  have hc := cn_of h.2.1.1
  have e : ∀ k : Nat, k < 2 ^ 31 → (nI k).toInt = (k : Int) := fun k hk => nI_toInt hk
  have ec : cn (nI (cn (M 5 4) + 1)) = cn (M 5 4) + 1 := nI_clamp (by omega)
  refine ⟨h.1, ⟨?_, ?_, ?_, ?_⟩, h.2.2⟩
  · show bt (nI (cn (M 5 4) + 1)) 0 24
    exact ⟨by rw [e _ (by omega)]; omega, by rw [e _ (by omega)]; omega⟩
  · show bt (M 5 5) 0 (nI (cn (M 5 4) + 1)).toInt
    have := h.2.1.2.1
    exact ⟨this.1, by rw [e _ (by omega)]; have := this.2; omega⟩
  · intro i hi
    have hi : i < cn (nI (cn (M 5 4) + 1)) := hi
    rw [ec] at hi
    show bt (upd (M 6) (cn (M 5 4)) t i) 0 _ ∧ bt (upd (M 7) (cn (M 5 4)) b i) 0 300 ∧ bt (upd (M 8) (cn (M 5 4)) n i) 0 7
    by_cases hj : i = cn (M 5 4)
    · subst hj
      simp only [upd, if_true]
      have h1 := Int32.le_iff_toInt_le.mp ht.1
      have h2 := Int32.lt_iff_toInt_lt.mp ht.2
      rw [Int32.toInt_zero] at h1
      exact ⟨⟨h1, show t.toInt ≤ (M 44 6).toInt - 1 by omega⟩, hb, hn⟩
    · simp only [upd, if_neg hj]
      exact h.2.1.2.2.1 i (by omega)
  · exact h.2.1.2.2.2
theorem WF_blow {M : Mem} (h : WF M) {t b n : Int32} : WF (blowU M t b n) := by
  unfold blowU
  split
  · rename_i hB
    split
    · split
      · rename_i h24
        refine WF_ad h h24 hB.1 ?_ ?_
        · have h1 := Int32.not_lt.mp hB.2.1
          have h2 := Int32.not_lt.mp hB.2.2.1
          have := bt_of h1 h2
          exact ⟨this.1, by have := this.2; rw [show (200 : Int32).toInt = 200 by decide] at this; omega⟩
        · have h1 := hB.2.2.2.1
          have h2 := Int32.lt_iff_toInt_lt.mp hB.2.2.2.2
          rw [show (8 : Int32).toInt = 8 by decide] at h2
          exact ⟨Int32.le_iff_toInt_le.mp h1, by omega⟩
      · exact h
    · exact h
  · exact h
theorem blowU_ne {M : Mem} {t b n : Int32} {k : Nat} (h5 : k ≠ 5) (h6 : k ≠ 6) (h7 : k ≠ 7) (h8 : k ≠ 8) : blowU M t b n k = M k := by
  unfold blowU
  split
  · split
    · split
      · exact adF_ne h5 h6 h7 h8
      · rfl
    · rfl
  · rfl
theorem blowU_no {M : Mem} {t b n : Int32} (h : blowV M t b n < 0) (hn : cn (M 5 4) < 2 ^ 30) : blowU M t b n = M := by
  unfold blowV at h
  unfold blowU
  split
  · rename_i q1
    rw [if_pos q1] at h
    split
    · rename_i q2
      rw [if_pos q2] at h
      split
      · rename_i q3
        rw [if_pos q3] at h
        exact absurd h (nI_pos (by omega))
      · rfl
    · rfl
  · rfl
abbrev rdA (f : Int32) (i : Nat) : Int32 := f + 3 * nI i
def rdM (M : Mem) (b : Nat) (f : Int32) : Nat → Mem
  | 0 => M
  | i + 1 => blowU (rdM M b f i) (rdM M b f i (b + 1) (cn (rdA f i))) (rdM M b f i (b + 1) (cn (rdA f i + 1))) (rdM M b f i (b + 1) (cn (rdA f i + 2)))
theorem rdM_ne {M : Mem} {b k : Nat} {f : Int32} (h5 : k ≠ 5) (h6 : k ≠ 6) (h7 : k ≠ 7) (h8 : k ≠ 8) : ∀ i, rdM M b f i k = M k
  | 0 => rfl
  | i + 1 => by unfold rdM; rw [blowU_ne h5 h6 h7 h8]; exact rdM_ne h5 h6 h7 h8 i
theorem rdM_wf {M : Mem} {b : Nat} {f : Int32} (h : WF M) : ∀ i, WF (rdM M b f i)
  | 0 => h
  | i + 1 => WF_blow (rdM_wf h i)
abbrev rdB (M : Mem) (b : Nat) (f : Int32) (i : Nat) : Prop := ¬ rdA f i < 0 ∧ ¬ M b 2 - 3 < rdA f i
abbrev rdW (M : Mem) (b : Nat) (f : Int32) (i : Nat) : Int32 := blowV (rdM M b f i) (M (b + 1) (cn (rdA f i))) (M (b + 1) (cn (rdA f i + 1))) (M (b + 1) (cn (rdA f i + 2)))
abbrev rdO (M : Mem) (b : Nat) (f : Int32) (i : Nat) : Prop := rdB M b f i ∧ 0 ≤ rdW M b f i
abbrev rdF (M : Mem) (b : Nat) (lane : Int32) : Int32 := if M b 1 = -1 then 1 else if M b 1 = lane then 0 else 3
abbrev rdP (k lane n : Int32) : Prop := (0 ≤ k ∧ k < 4) ∧ (0 ≤ lane ∧ lane < 3) ∧ ¬ n < 0 ∧ n ≤ 13
def readB (M : Mem) (b : Nat) (lane f n r : Int32) (N : Mem) : Prop := if ¬ n = 0 ∧ ¬ rdF M b lane = 0 then r = 0 ∧ N = updM M 0 11 (rdF M b lane) else
  (∃ i, i < cn n ∧ (∀ j, j < i → rdO M b f j) ∧ ¬ rdB M b f i ∧ r = nI i ∧ N = updM (rdM M b f i) 0 11 2) ∨ (∃ i, i < cn n ∧ (∀ j, j < i → rdO M b f j) ∧ rdB M b f i ∧ rdW M b f i < 0 ∧ r = -20 - nI i ∧ N = updM (rdM M b f i) 5 4 (M 5 4)) ∨ ((∀ j, j < cn n → rdO M b f j) ∧ r = n ∧ N = updM (rdM M b f (cn n)) 0 11 0)
def readR (M : Mem) (k lane f n r : Int32) (N : Mem) : Prop := if rdP k lane n then readB M (shB k) lane f n r N else r = -1 ∧ N = M
theorem rd_vp {s a : Int32} (hs : bt s 0 40) (q : ¬ a < 0 ∧ ¬ s - 3 < a) : vp_in a 40 ∧ vp_in (a + 1) 40 ∧ vp_in (a + 2) 40 := by
  obtain ⟨q1, q2⟩ := q
  have h1 := Int32.le_iff_toInt_le.mp (Int32.not_lt.mp q1)
  have h2 := Int32.le_iff_toInt_le.mp (Int32.not_lt.mp q2)
  obtain ⟨s1, s2⟩ := hs
  rw [Int32.toInt_zero] at h1
  have e3 : (3 : Int32).toInt = 3 := by decide
  have e1 : (1 : Int32).toInt = 1 := by decide
  have e2 : (2 : Int32).toInt = 2 := by decide
  rw [i32_sub (by omega) (by omega), e3] at h2
  have a1 := i32_add (x := a) (y := 1) (by omega) (by omega)
  have a2 := i32_add (x := a) (y := 2) (by omega) (by omega)
  exact ⟨vp_in_iff.mpr ⟨by omega, by omega⟩, vp_in_iff.mpr ⟨by omega, by omega⟩, vp_in_iff.mpr ⟨by omega, by omega⟩⟩
set_option maxRecDepth 100000 in
set_option maxHeartbeats 4000000 in
theorem bd_read_34 {M : Mem} (h : WF M) (hs : bt (M 34 2) 0 40) {G : GD} {R : Rv} {k lane f n : Int32} (hn : n = nI (cn n)) (hn13 : cn n ≤ 13) (hz : ¬ (¬ n = 0 ∧ ¬ rdF M 34 lane = 0)) (hR : ∀ r N, readB M 34 lane f n r N → R (some (.int r)) SH N) : Bd mX7_read G R SH 77 [some (.ref 0), some (.int k), some (.int lane), some (.int f), some (.int n), some (.ref 34), some (.int (M 5 4)), none, none, none] [] M := by
  have q1 := h.nb24
  refine Bd_iconst (v := 0) (pc := 77) dX7_read_77 (by decide) ?_
  refine Bd_istore_8 (pc := 78) dX7_read_78 (Nat.le_of_ble_eq_true rfl) rfl ?_
  refine Bd_nx (L' := (fun i => [some (.ref 0), some (.int k), some (.int lane), some (.int f), some (.int n), some (.ref 34), some (.int (M 5 4)), none, some (.int (nI i)), none]) 0) ?_ (by repeat (first | exact True.intro | refine And.intro rfl ?_))
  refine Bd_for (pc := 80) (c := (cn n)) (fun i => [some (.ref 0), some (.int k), some (.int lane), some (.int f), some (.int n), some (.ref 34), some (.int (M 5 4)), none, some (.int (nI i)), none]) (fun i => rdM M 34 f i) (fun i => ∀ j, j < i → rdO M 34 f j) (fun ivi => ?_) (fun i hi ivi ihi => ?_) (fun j hj => absurd hj (Nat.not_lt_zero j))
  · refine Bd_iload_8 (pc := 80) dX7_read_80 ?_
    refine Bd_iload_4 (pc := 82) dX7_read_82 ?_
    refine Bd_icmp_ge (t := 169) (pc := 84) dX7_read_84 (by decide) (fun b84 => ?_) (fun b84 => (show False from lf_x hn b84).elim)
    refine Bd_aload_0 (pc := 169) dX7_read_169 ?_
    refine Bd_iconst (v := 0) (pc := 170) dX7_read_170 (by decide) ?_
    refine Bd_putI (j := 11) (ty := .int) ck7 (pc := 171) dX7_read_171 k_246 rfl (Nat.le_of_ble_eq_true rfl) rfl rfl pfI rfl rfl ?_
    refine Bd_iload_4 (pc := 174) dX7_read_174 ?_
    refine Bd_iret (pc := 176) dX7_read_176 rfl ?_
    exact hR _ _ (by rw [readB, if_neg hz]; exact Or.inr (Or.inr ⟨ivi, rfl, rfl⟩))
  · refine Bd_iload_8 (pc := 80) dX7_read_80 ?_
    refine Bd_iload_4 (pc := 82) dX7_read_82 ?_
    refine Bd_icmp_ge (t := 169) (pc := 84) dX7_read_84 (by decide) (fun b84 => (show False from lf_s hn (by omega) hi b84).elim) (fun b84 => ?_)
    refine Bd_iload_3 (pc := 87) dX7_read_87 ?_
    refine Bd_iconst (v := 3) (pc := 88) dX7_read_88 (by decide) ?_
    refine Bd_iload_8 (pc := 89) dX7_read_89 ?_
    refine Bd_imul (pc := 91) dX7_read_91 ?_
    refine Bd_iadd (pc := 92) dX7_read_92 ?_
    refine Bd_istore_9 (pc := 93) dX7_read_93 (Nat.le_of_ble_eq_true rfl) rfl ?_
    refine Bd_aload_5 (pc := 95) dX7_read_95 ?_
    refine Bd_iload_9 (pc := 97) dX7_read_97 ?_
    refine Bd_callV1i (cd := mX4_hasBlowAt) (pc := 99) dX7_read_99 k_767 v_X4_hasBlowAt ⟨(Nat.le_of_ble_eq_true rfl), (Nat.le_of_ble_eq_true rfl)⟩ rfl rfl sem_hba_34 (Nat.le_of_ble_eq_true rfl) ?_
    refine Bd_if_ne (t := 113) (pc := 102) dX7_read_102 (by decide) (fun b102 => ?_) (fun b102 => ?_)
    · have hB : rdB M 34 f i := (show ¬ rdA f i < 0 ∧ ¬ M 34 2 - 3 < rdA f i from by have q := b2_n.mp b102; rw [rdM_ne (by decide) (by decide) (by decide) (by decide)] at q; exact q)
      refine Bd_aload_0 (pc := 113) dX7_read_113 ?_
      refine Bd_aload_5 (pc := 114) dX7_read_114 ?_
      refine Bd_getR (j := 0) ck4 (pc := 116) dX7_read_116 k_224 rfl (Nat.le_of_ble_eq_true rfl) rfl ?_
      refine Bd_iload_9 (pc := 119) dX7_read_119 ?_
      refine Bd_iald (pc := 121) dX7_read_121 rfl (rd_vp hs (show ¬ rdA f i < 0 ∧ ¬ M 34 2 - 3 < rdA f i from by have q := b2_n.mp b102; rw [rdM_ne (by decide) (by decide) (by decide) (by decide)] at q; exact q)).1 ?_
      refine Bd_aload_5 (pc := 122) dX7_read_122 ?_
      refine Bd_getR (j := 0) ck4 (pc := 124) dX7_read_124 k_224 rfl (Nat.le_of_ble_eq_true rfl) rfl ?_
      refine Bd_iload_9 (pc := 127) dX7_read_127 ?_
      refine Bd_iconst (v := 1) (pc := 129) dX7_read_129 (by decide) ?_
      refine Bd_iadd (pc := 130) dX7_read_130 ?_
      refine Bd_iald (pc := 131) dX7_read_131 rfl (rd_vp hs (show ¬ rdA f i < 0 ∧ ¬ M 34 2 - 3 < rdA f i from by have q := b2_n.mp b102; rw [rdM_ne (by decide) (by decide) (by decide) (by decide)] at q; exact q)).2.1 ?_
      refine Bd_aload_5 (pc := 132) dX7_read_132 ?_
      refine Bd_getR (j := 0) ck4 (pc := 134) dX7_read_134 k_224 rfl (Nat.le_of_ble_eq_true rfl) rfl ?_
      refine Bd_iload_9 (pc := 137) dX7_read_137 ?_
      refine Bd_iconst (v := 2) (pc := 139) dX7_read_139 (by decide) ?_
      refine Bd_iadd (pc := 140) dX7_read_140 ?_
      refine Bd_iald (pc := 141) dX7_read_141 rfl (rd_vp hs (show ¬ rdA f i < 0 ∧ ¬ M 34 2 - 3 < rdA f i from by have q := b2_n.mp b102; rw [rdM_ne (by decide) (by decide) (by decide) (by decide)] at q; exact q)).2.2 ?_
      refine Bd_callV3i (cd := mX7_blow) (pc := 142) dX7_read_142 k_771 v_X7_blow ⟨(Nat.le_of_ble_eq_true rfl), (Nat.le_of_ble_eq_true rfl)⟩ rfl rfl (sem_X7_blow (rdM_wf h i)) (Nat.le_of_ble_eq_true rfl) ?_
      have ew : blowV (rdM M 34 f i) (rdM M 34 f i 35 (cn (rdA f i))) (rdM M 34 f i 35 (cn (rdA f i + 1))) (rdM M 34 f i 35 (cn (rdA f i + 2))) = rdW M 34 f i := by rw [rdM_ne (k := 35) (by decide) (by decide) (by decide) (by decide)]
      have ew2 := blowU_no (M := rdM M 34 f i) (t := rdM M 34 f i 35 (cn (rdA f i))) (b := rdM M 34 f i 35 (cn (rdA f i + 1))) (n := rdM M 34 f i 35 (cn (rdA f i + 2)))
      refine Bd_if_ge (t := 163) (pc := 145) dX7_read_145 (by decide) (fun b145 => ?_) (fun b145 => ?_)
      · refine Bd_iinc_8 (pc := 163) dX7_read_163 (show _ + Int32.ofInt 1 = _ + 1 from rfl) (Nat.le_of_ble_eq_true rfl) rfl ?_
        refine Bd_goto (t := 80) (pc := 166) dX7_read_166 (by decide) ?_
        exact Bd_nx (ihi (fun j hj => by rcases Nat.lt_succ_iff_lt_or_eq.mp hj with q | q; exact ivi j q; rw [q]; exact ⟨hB, by rw [← ew]; exact b145⟩)) (by simp [wkP, nI_succ])
      · refine Bd_aload_0 (pc := 148) dX7_read_148 ?_
        refine Bd_getR (j := 2) ck7 (pc := 149) dX7_read_149 k_237 rfl (Nat.le_of_ble_eq_true rfl) rfl ?_
        refine Bd_iload_6 (pc := 152) dX7_read_152 ?_
        refine Bd_putI (j := 4) (ty := .int) ck0 (pc := 154) dX7_read_154 k_92 rfl (Nat.le_of_ble_eq_true rfl) rfl rfl pfI rfl rfl ?_
        refine Bd_bipush (v := -20) (pc := 157) dX7_read_157 (by decide) ?_
        refine Bd_iload_8 (pc := 159) dX7_read_159 ?_
        refine Bd_isub (pc := 161) dX7_read_161 ?_
        refine Bd_iret (pc := 162) dX7_read_162 rfl ?_
        have hneg : rdW M 34 f i < 0 := by rw [← ew]; exact Int32.not_le.mp b145
        exact hR _ _ (by rw [readB, if_neg hz]; refine Or.inr (Or.inl ⟨i, hi, ivi, hB, hneg, rfl, ?_⟩); exact congrArg (fun X => updM X 5 4 (M 5 4)) (ew2 (Int32.not_le.mp b145) (by have := (rdM_wf (b := 34) (f := f) h i).nb24; omega)))
    · have hB : ¬ rdB M 34 f i := (show ¬ (¬ rdA f i < 0 ∧ ¬ M 34 2 - 3 < rdA f i) from by have q := b2_0.mp b102; rw [rdM_ne (by decide) (by decide) (by decide) (by decide)] at q; exact q)
      refine Bd_aload_0 (pc := 105) dX7_read_105 ?_
      refine Bd_iconst (v := 2) (pc := 106) dX7_read_106 (by decide) ?_
      refine Bd_putI (j := 11) (ty := .int) ck7 (pc := 107) dX7_read_107 k_246 rfl (Nat.le_of_ble_eq_true rfl) rfl rfl pfI rfl rfl ?_
      refine Bd_iload_8 (pc := 110) dX7_read_110 ?_
      refine Bd_iret (pc := 112) dX7_read_112 rfl ?_
      exact hR _ _ (by rw [readB, if_neg hz]; exact Or.inl ⟨i, hi, ivi, hB, rfl, rfl⟩)
set_option maxRecDepth 100000 in
set_option maxHeartbeats 4000000 in
theorem bd_read_36 {M : Mem} (h : WF M) (hs : bt (M 36 2) 0 40) {G : GD} {R : Rv} {k lane f n : Int32} (hn : n = nI (cn n)) (hn13 : cn n ≤ 13) (hz : ¬ (¬ n = 0 ∧ ¬ rdF M 36 lane = 0)) (hR : ∀ r N, readB M 36 lane f n r N → R (some (.int r)) SH N) : Bd mX7_read G R SH 77 [some (.ref 0), some (.int k), some (.int lane), some (.int f), some (.int n), some (.ref 36), some (.int (M 5 4)), none, none, none] [] M := by
  have q1 := h.nb24
  refine Bd_iconst (v := 0) (pc := 77) dX7_read_77 (by decide) ?_
  refine Bd_istore_8 (pc := 78) dX7_read_78 (Nat.le_of_ble_eq_true rfl) rfl ?_
  refine Bd_nx (L' := (fun i => [some (.ref 0), some (.int k), some (.int lane), some (.int f), some (.int n), some (.ref 36), some (.int (M 5 4)), none, some (.int (nI i)), none]) 0) ?_ (by repeat (first | exact True.intro | refine And.intro rfl ?_))
  refine Bd_for (pc := 80) (c := (cn n)) (fun i => [some (.ref 0), some (.int k), some (.int lane), some (.int f), some (.int n), some (.ref 36), some (.int (M 5 4)), none, some (.int (nI i)), none]) (fun i => rdM M 36 f i) (fun i => ∀ j, j < i → rdO M 36 f j) (fun ivi => ?_) (fun i hi ivi ihi => ?_) (fun j hj => absurd hj (Nat.not_lt_zero j))
  · refine Bd_iload_8 (pc := 80) dX7_read_80 ?_
    refine Bd_iload_4 (pc := 82) dX7_read_82 ?_
    refine Bd_icmp_ge (t := 169) (pc := 84) dX7_read_84 (by decide) (fun b84 => ?_) (fun b84 => (show False from lf_x hn b84).elim)
    refine Bd_aload_0 (pc := 169) dX7_read_169 ?_
    refine Bd_iconst (v := 0) (pc := 170) dX7_read_170 (by decide) ?_
    refine Bd_putI (j := 11) (ty := .int) ck7 (pc := 171) dX7_read_171 k_246 rfl (Nat.le_of_ble_eq_true rfl) rfl rfl pfI rfl rfl ?_
    refine Bd_iload_4 (pc := 174) dX7_read_174 ?_
    refine Bd_iret (pc := 176) dX7_read_176 rfl ?_
    exact hR _ _ (by rw [readB, if_neg hz]; exact Or.inr (Or.inr ⟨ivi, rfl, rfl⟩))
  · refine Bd_iload_8 (pc := 80) dX7_read_80 ?_
    refine Bd_iload_4 (pc := 82) dX7_read_82 ?_
    refine Bd_icmp_ge (t := 169) (pc := 84) dX7_read_84 (by decide) (fun b84 => (show False from lf_s hn (by omega) hi b84).elim) (fun b84 => ?_)
    refine Bd_iload_3 (pc := 87) dX7_read_87 ?_
    refine Bd_iconst (v := 3) (pc := 88) dX7_read_88 (by decide) ?_
    refine Bd_iload_8 (pc := 89) dX7_read_89 ?_
    refine Bd_imul (pc := 91) dX7_read_91 ?_
    refine Bd_iadd (pc := 92) dX7_read_92 ?_
    refine Bd_istore_9 (pc := 93) dX7_read_93 (Nat.le_of_ble_eq_true rfl) rfl ?_
    refine Bd_aload_5 (pc := 95) dX7_read_95 ?_
    refine Bd_iload_9 (pc := 97) dX7_read_97 ?_
    refine Bd_callV1i (cd := mX4_hasBlowAt) (pc := 99) dX7_read_99 k_767 v_X4_hasBlowAt ⟨(Nat.le_of_ble_eq_true rfl), (Nat.le_of_ble_eq_true rfl)⟩ rfl rfl sem_hba_36 (Nat.le_of_ble_eq_true rfl) ?_
    refine Bd_if_ne (t := 113) (pc := 102) dX7_read_102 (by decide) (fun b102 => ?_) (fun b102 => ?_)
    · have hB : rdB M 36 f i := (show ¬ rdA f i < 0 ∧ ¬ M 36 2 - 3 < rdA f i from by have q := b2_n.mp b102; rw [rdM_ne (by decide) (by decide) (by decide) (by decide)] at q; exact q)
      refine Bd_aload_0 (pc := 113) dX7_read_113 ?_
      refine Bd_aload_5 (pc := 114) dX7_read_114 ?_
      refine Bd_getR (j := 0) ck4 (pc := 116) dX7_read_116 k_224 rfl (Nat.le_of_ble_eq_true rfl) rfl ?_
      refine Bd_iload_9 (pc := 119) dX7_read_119 ?_
      refine Bd_iald (pc := 121) dX7_read_121 rfl (rd_vp hs (show ¬ rdA f i < 0 ∧ ¬ M 36 2 - 3 < rdA f i from by have q := b2_n.mp b102; rw [rdM_ne (by decide) (by decide) (by decide) (by decide)] at q; exact q)).1 ?_
      refine Bd_aload_5 (pc := 122) dX7_read_122 ?_
      refine Bd_getR (j := 0) ck4 (pc := 124) dX7_read_124 k_224 rfl (Nat.le_of_ble_eq_true rfl) rfl ?_
      refine Bd_iload_9 (pc := 127) dX7_read_127 ?_
      refine Bd_iconst (v := 1) (pc := 129) dX7_read_129 (by decide) ?_
      refine Bd_iadd (pc := 130) dX7_read_130 ?_
      refine Bd_iald (pc := 131) dX7_read_131 rfl (rd_vp hs (show ¬ rdA f i < 0 ∧ ¬ M 36 2 - 3 < rdA f i from by have q := b2_n.mp b102; rw [rdM_ne (by decide) (by decide) (by decide) (by decide)] at q; exact q)).2.1 ?_
      refine Bd_aload_5 (pc := 132) dX7_read_132 ?_
      refine Bd_getR (j := 0) ck4 (pc := 134) dX7_read_134 k_224 rfl (Nat.le_of_ble_eq_true rfl) rfl ?_
      refine Bd_iload_9 (pc := 137) dX7_read_137 ?_
      refine Bd_iconst (v := 2) (pc := 139) dX7_read_139 (by decide) ?_
      refine Bd_iadd (pc := 140) dX7_read_140 ?_
      refine Bd_iald (pc := 141) dX7_read_141 rfl (rd_vp hs (show ¬ rdA f i < 0 ∧ ¬ M 36 2 - 3 < rdA f i from by have q := b2_n.mp b102; rw [rdM_ne (by decide) (by decide) (by decide) (by decide)] at q; exact q)).2.2 ?_
      refine Bd_callV3i (cd := mX7_blow) (pc := 142) dX7_read_142 k_771 v_X7_blow ⟨(Nat.le_of_ble_eq_true rfl), (Nat.le_of_ble_eq_true rfl)⟩ rfl rfl (sem_X7_blow (rdM_wf h i)) (Nat.le_of_ble_eq_true rfl) ?_
      have ew : blowV (rdM M 36 f i) (rdM M 36 f i 37 (cn (rdA f i))) (rdM M 36 f i 37 (cn (rdA f i + 1))) (rdM M 36 f i 37 (cn (rdA f i + 2))) = rdW M 36 f i := by rw [rdM_ne (k := 37) (by decide) (by decide) (by decide) (by decide)]
      have ew2 := blowU_no (M := rdM M 36 f i) (t := rdM M 36 f i 37 (cn (rdA f i))) (b := rdM M 36 f i 37 (cn (rdA f i + 1))) (n := rdM M 36 f i 37 (cn (rdA f i + 2)))
      refine Bd_if_ge (t := 163) (pc := 145) dX7_read_145 (by decide) (fun b145 => ?_) (fun b145 => ?_)
      · refine Bd_iinc_8 (pc := 163) dX7_read_163 (show _ + Int32.ofInt 1 = _ + 1 from rfl) (Nat.le_of_ble_eq_true rfl) rfl ?_
        refine Bd_goto (t := 80) (pc := 166) dX7_read_166 (by decide) ?_
        exact Bd_nx (ihi (fun j hj => by rcases Nat.lt_succ_iff_lt_or_eq.mp hj with q | q; exact ivi j q; rw [q]; exact ⟨hB, by rw [← ew]; exact b145⟩)) (by simp [wkP, nI_succ])
      · refine Bd_aload_0 (pc := 148) dX7_read_148 ?_
        refine Bd_getR (j := 2) ck7 (pc := 149) dX7_read_149 k_237 rfl (Nat.le_of_ble_eq_true rfl) rfl ?_
        refine Bd_iload_6 (pc := 152) dX7_read_152 ?_
        refine Bd_putI (j := 4) (ty := .int) ck0 (pc := 154) dX7_read_154 k_92 rfl (Nat.le_of_ble_eq_true rfl) rfl rfl pfI rfl rfl ?_
        refine Bd_bipush (v := -20) (pc := 157) dX7_read_157 (by decide) ?_
        refine Bd_iload_8 (pc := 159) dX7_read_159 ?_
        refine Bd_isub (pc := 161) dX7_read_161 ?_
        refine Bd_iret (pc := 162) dX7_read_162 rfl ?_
        have hneg : rdW M 36 f i < 0 := by rw [← ew]; exact Int32.not_le.mp b145
        exact hR _ _ (by rw [readB, if_neg hz]; refine Or.inr (Or.inl ⟨i, hi, ivi, hB, hneg, rfl, ?_⟩); exact congrArg (fun X => updM X 5 4 (M 5 4)) (ew2 (Int32.not_le.mp b145) (by have := (rdM_wf (b := 36) (f := f) h i).nb24; omega)))
    · have hB : ¬ rdB M 36 f i := (show ¬ (¬ rdA f i < 0 ∧ ¬ M 36 2 - 3 < rdA f i) from by have q := b2_0.mp b102; rw [rdM_ne (by decide) (by decide) (by decide) (by decide)] at q; exact q)
      refine Bd_aload_0 (pc := 105) dX7_read_105 ?_
      refine Bd_iconst (v := 2) (pc := 106) dX7_read_106 (by decide) ?_
      refine Bd_putI (j := 11) (ty := .int) ck7 (pc := 107) dX7_read_107 k_246 rfl (Nat.le_of_ble_eq_true rfl) rfl rfl pfI rfl rfl ?_
      refine Bd_iload_8 (pc := 110) dX7_read_110 ?_
      refine Bd_iret (pc := 112) dX7_read_112 rfl ?_
      exact hR _ _ (by rw [readB, if_neg hz]; exact Or.inl ⟨i, hi, ivi, hB, rfl, rfl⟩)
set_option maxRecDepth 100000 in
set_option maxHeartbeats 4000000 in
theorem bd_read_38 {M : Mem} (h : WF M) (hs : bt (M 38 2) 0 40) {G : GD} {R : Rv} {k lane f n : Int32} (hn : n = nI (cn n)) (hn13 : cn n ≤ 13) (hz : ¬ (¬ n = 0 ∧ ¬ rdF M 38 lane = 0)) (hR : ∀ r N, readB M 38 lane f n r N → R (some (.int r)) SH N) : Bd mX7_read G R SH 77 [some (.ref 0), some (.int k), some (.int lane), some (.int f), some (.int n), some (.ref 38), some (.int (M 5 4)), none, none, none] [] M := by
  have q1 := h.nb24
  refine Bd_iconst (v := 0) (pc := 77) dX7_read_77 (by decide) ?_
  refine Bd_istore_8 (pc := 78) dX7_read_78 (Nat.le_of_ble_eq_true rfl) rfl ?_
  refine Bd_nx (L' := (fun i => [some (.ref 0), some (.int k), some (.int lane), some (.int f), some (.int n), some (.ref 38), some (.int (M 5 4)), none, some (.int (nI i)), none]) 0) ?_ (by repeat (first | exact True.intro | refine And.intro rfl ?_))
  refine Bd_for (pc := 80) (c := (cn n)) (fun i => [some (.ref 0), some (.int k), some (.int lane), some (.int f), some (.int n), some (.ref 38), some (.int (M 5 4)), none, some (.int (nI i)), none]) (fun i => rdM M 38 f i) (fun i => ∀ j, j < i → rdO M 38 f j) (fun ivi => ?_) (fun i hi ivi ihi => ?_) (fun j hj => absurd hj (Nat.not_lt_zero j))
  · refine Bd_iload_8 (pc := 80) dX7_read_80 ?_
    refine Bd_iload_4 (pc := 82) dX7_read_82 ?_
    refine Bd_icmp_ge (t := 169) (pc := 84) dX7_read_84 (by decide) (fun b84 => ?_) (fun b84 => (show False from lf_x hn b84).elim)
    refine Bd_aload_0 (pc := 169) dX7_read_169 ?_
    refine Bd_iconst (v := 0) (pc := 170) dX7_read_170 (by decide) ?_
    refine Bd_putI (j := 11) (ty := .int) ck7 (pc := 171) dX7_read_171 k_246 rfl (Nat.le_of_ble_eq_true rfl) rfl rfl pfI rfl rfl ?_
    refine Bd_iload_4 (pc := 174) dX7_read_174 ?_
    refine Bd_iret (pc := 176) dX7_read_176 rfl ?_
    exact hR _ _ (by rw [readB, if_neg hz]; exact Or.inr (Or.inr ⟨ivi, rfl, rfl⟩))
  · refine Bd_iload_8 (pc := 80) dX7_read_80 ?_
    refine Bd_iload_4 (pc := 82) dX7_read_82 ?_
    refine Bd_icmp_ge (t := 169) (pc := 84) dX7_read_84 (by decide) (fun b84 => (show False from lf_s hn (by omega) hi b84).elim) (fun b84 => ?_)
    refine Bd_iload_3 (pc := 87) dX7_read_87 ?_
    refine Bd_iconst (v := 3) (pc := 88) dX7_read_88 (by decide) ?_
    refine Bd_iload_8 (pc := 89) dX7_read_89 ?_
    refine Bd_imul (pc := 91) dX7_read_91 ?_
    refine Bd_iadd (pc := 92) dX7_read_92 ?_
    refine Bd_istore_9 (pc := 93) dX7_read_93 (Nat.le_of_ble_eq_true rfl) rfl ?_
    refine Bd_aload_5 (pc := 95) dX7_read_95 ?_
    refine Bd_iload_9 (pc := 97) dX7_read_97 ?_
    refine Bd_callV1i (cd := mX4_hasBlowAt) (pc := 99) dX7_read_99 k_767 v_X4_hasBlowAt ⟨(Nat.le_of_ble_eq_true rfl), (Nat.le_of_ble_eq_true rfl)⟩ rfl rfl sem_hba_38 (Nat.le_of_ble_eq_true rfl) ?_
    refine Bd_if_ne (t := 113) (pc := 102) dX7_read_102 (by decide) (fun b102 => ?_) (fun b102 => ?_)
    · have hB : rdB M 38 f i := (show ¬ rdA f i < 0 ∧ ¬ M 38 2 - 3 < rdA f i from by have q := b2_n.mp b102; rw [rdM_ne (by decide) (by decide) (by decide) (by decide)] at q; exact q)
      refine Bd_aload_0 (pc := 113) dX7_read_113 ?_
      refine Bd_aload_5 (pc := 114) dX7_read_114 ?_
      refine Bd_getR (j := 0) ck4 (pc := 116) dX7_read_116 k_224 rfl (Nat.le_of_ble_eq_true rfl) rfl ?_
      refine Bd_iload_9 (pc := 119) dX7_read_119 ?_
      refine Bd_iald (pc := 121) dX7_read_121 rfl (rd_vp hs (show ¬ rdA f i < 0 ∧ ¬ M 38 2 - 3 < rdA f i from by have q := b2_n.mp b102; rw [rdM_ne (by decide) (by decide) (by decide) (by decide)] at q; exact q)).1 ?_
      refine Bd_aload_5 (pc := 122) dX7_read_122 ?_
      refine Bd_getR (j := 0) ck4 (pc := 124) dX7_read_124 k_224 rfl (Nat.le_of_ble_eq_true rfl) rfl ?_
      refine Bd_iload_9 (pc := 127) dX7_read_127 ?_
      refine Bd_iconst (v := 1) (pc := 129) dX7_read_129 (by decide) ?_
      refine Bd_iadd (pc := 130) dX7_read_130 ?_
      refine Bd_iald (pc := 131) dX7_read_131 rfl (rd_vp hs (show ¬ rdA f i < 0 ∧ ¬ M 38 2 - 3 < rdA f i from by have q := b2_n.mp b102; rw [rdM_ne (by decide) (by decide) (by decide) (by decide)] at q; exact q)).2.1 ?_
      refine Bd_aload_5 (pc := 132) dX7_read_132 ?_
      refine Bd_getR (j := 0) ck4 (pc := 134) dX7_read_134 k_224 rfl (Nat.le_of_ble_eq_true rfl) rfl ?_
      refine Bd_iload_9 (pc := 137) dX7_read_137 ?_
      refine Bd_iconst (v := 2) (pc := 139) dX7_read_139 (by decide) ?_
      refine Bd_iadd (pc := 140) dX7_read_140 ?_
      refine Bd_iald (pc := 141) dX7_read_141 rfl (rd_vp hs (show ¬ rdA f i < 0 ∧ ¬ M 38 2 - 3 < rdA f i from by have q := b2_n.mp b102; rw [rdM_ne (by decide) (by decide) (by decide) (by decide)] at q; exact q)).2.2 ?_
      refine Bd_callV3i (cd := mX7_blow) (pc := 142) dX7_read_142 k_771 v_X7_blow ⟨(Nat.le_of_ble_eq_true rfl), (Nat.le_of_ble_eq_true rfl)⟩ rfl rfl (sem_X7_blow (rdM_wf h i)) (Nat.le_of_ble_eq_true rfl) ?_
      have ew : blowV (rdM M 38 f i) (rdM M 38 f i 39 (cn (rdA f i))) (rdM M 38 f i 39 (cn (rdA f i + 1))) (rdM M 38 f i 39 (cn (rdA f i + 2))) = rdW M 38 f i := by rw [rdM_ne (k := 39) (by decide) (by decide) (by decide) (by decide)]
      have ew2 := blowU_no (M := rdM M 38 f i) (t := rdM M 38 f i 39 (cn (rdA f i))) (b := rdM M 38 f i 39 (cn (rdA f i + 1))) (n := rdM M 38 f i 39 (cn (rdA f i + 2)))
      refine Bd_if_ge (t := 163) (pc := 145) dX7_read_145 (by decide) (fun b145 => ?_) (fun b145 => ?_)
      · refine Bd_iinc_8 (pc := 163) dX7_read_163 (show _ + Int32.ofInt 1 = _ + 1 from rfl) (Nat.le_of_ble_eq_true rfl) rfl ?_
        refine Bd_goto (t := 80) (pc := 166) dX7_read_166 (by decide) ?_
        exact Bd_nx (ihi (fun j hj => by rcases Nat.lt_succ_iff_lt_or_eq.mp hj with q | q; exact ivi j q; rw [q]; exact ⟨hB, by rw [← ew]; exact b145⟩)) (by simp [wkP, nI_succ])
      · refine Bd_aload_0 (pc := 148) dX7_read_148 ?_
        refine Bd_getR (j := 2) ck7 (pc := 149) dX7_read_149 k_237 rfl (Nat.le_of_ble_eq_true rfl) rfl ?_
        refine Bd_iload_6 (pc := 152) dX7_read_152 ?_
        refine Bd_putI (j := 4) (ty := .int) ck0 (pc := 154) dX7_read_154 k_92 rfl (Nat.le_of_ble_eq_true rfl) rfl rfl pfI rfl rfl ?_
        refine Bd_bipush (v := -20) (pc := 157) dX7_read_157 (by decide) ?_
        refine Bd_iload_8 (pc := 159) dX7_read_159 ?_
        refine Bd_isub (pc := 161) dX7_read_161 ?_
        refine Bd_iret (pc := 162) dX7_read_162 rfl ?_
        have hneg : rdW M 38 f i < 0 := by rw [← ew]; exact Int32.not_le.mp b145
        exact hR _ _ (by rw [readB, if_neg hz]; refine Or.inr (Or.inl ⟨i, hi, ivi, hB, hneg, rfl, ?_⟩); exact congrArg (fun X => updM X 5 4 (M 5 4)) (ew2 (Int32.not_le.mp b145) (by have := (rdM_wf (b := 38) (f := f) h i).nb24; omega)))
    · have hB : ¬ rdB M 38 f i := (show ¬ (¬ rdA f i < 0 ∧ ¬ M 38 2 - 3 < rdA f i) from by have q := b2_0.mp b102; rw [rdM_ne (by decide) (by decide) (by decide) (by decide)] at q; exact q)
      refine Bd_aload_0 (pc := 105) dX7_read_105 ?_
      refine Bd_iconst (v := 2) (pc := 106) dX7_read_106 (by decide) ?_
      refine Bd_putI (j := 11) (ty := .int) ck7 (pc := 107) dX7_read_107 k_246 rfl (Nat.le_of_ble_eq_true rfl) rfl rfl pfI rfl rfl ?_
      refine Bd_iload_8 (pc := 110) dX7_read_110 ?_
      refine Bd_iret (pc := 112) dX7_read_112 rfl ?_
      exact hR _ _ (by rw [readB, if_neg hz]; exact Or.inl ⟨i, hi, ivi, hB, rfl, rfl⟩)
set_option maxRecDepth 100000 in
set_option maxHeartbeats 4000000 in
theorem bd_read_40 {M : Mem} (h : WF M) (hs : bt (M 40 2) 0 40) {G : GD} {R : Rv} {k lane f n : Int32} (hn : n = nI (cn n)) (hn13 : cn n ≤ 13) (hz : ¬ (¬ n = 0 ∧ ¬ rdF M 40 lane = 0)) (hR : ∀ r N, readB M 40 lane f n r N → R (some (.int r)) SH N) : Bd mX7_read G R SH 77 [some (.ref 0), some (.int k), some (.int lane), some (.int f), some (.int n), some (.ref 40), some (.int (M 5 4)), none, none, none] [] M := by
  have q1 := h.nb24
  refine Bd_iconst (v := 0) (pc := 77) dX7_read_77 (by decide) ?_
  refine Bd_istore_8 (pc := 78) dX7_read_78 (Nat.le_of_ble_eq_true rfl) rfl ?_
  refine Bd_nx (L' := (fun i => [some (.ref 0), some (.int k), some (.int lane), some (.int f), some (.int n), some (.ref 40), some (.int (M 5 4)), none, some (.int (nI i)), none]) 0) ?_ (by repeat (first | exact True.intro | refine And.intro rfl ?_))
  refine Bd_for (pc := 80) (c := (cn n)) (fun i => [some (.ref 0), some (.int k), some (.int lane), some (.int f), some (.int n), some (.ref 40), some (.int (M 5 4)), none, some (.int (nI i)), none]) (fun i => rdM M 40 f i) (fun i => ∀ j, j < i → rdO M 40 f j) (fun ivi => ?_) (fun i hi ivi ihi => ?_) (fun j hj => absurd hj (Nat.not_lt_zero j))
  · refine Bd_iload_8 (pc := 80) dX7_read_80 ?_
    refine Bd_iload_4 (pc := 82) dX7_read_82 ?_
    refine Bd_icmp_ge (t := 169) (pc := 84) dX7_read_84 (by decide) (fun b84 => ?_) (fun b84 => (show False from lf_x hn b84).elim)
    refine Bd_aload_0 (pc := 169) dX7_read_169 ?_
    refine Bd_iconst (v := 0) (pc := 170) dX7_read_170 (by decide) ?_
    refine Bd_putI (j := 11) (ty := .int) ck7 (pc := 171) dX7_read_171 k_246 rfl (Nat.le_of_ble_eq_true rfl) rfl rfl pfI rfl rfl ?_
    refine Bd_iload_4 (pc := 174) dX7_read_174 ?_
    refine Bd_iret (pc := 176) dX7_read_176 rfl ?_
    exact hR _ _ (by rw [readB, if_neg hz]; exact Or.inr (Or.inr ⟨ivi, rfl, rfl⟩))
  · refine Bd_iload_8 (pc := 80) dX7_read_80 ?_
    refine Bd_iload_4 (pc := 82) dX7_read_82 ?_
    refine Bd_icmp_ge (t := 169) (pc := 84) dX7_read_84 (by decide) (fun b84 => (show False from lf_s hn (by omega) hi b84).elim) (fun b84 => ?_)
    refine Bd_iload_3 (pc := 87) dX7_read_87 ?_
    refine Bd_iconst (v := 3) (pc := 88) dX7_read_88 (by decide) ?_
    refine Bd_iload_8 (pc := 89) dX7_read_89 ?_
    refine Bd_imul (pc := 91) dX7_read_91 ?_
    refine Bd_iadd (pc := 92) dX7_read_92 ?_
    refine Bd_istore_9 (pc := 93) dX7_read_93 (Nat.le_of_ble_eq_true rfl) rfl ?_
    refine Bd_aload_5 (pc := 95) dX7_read_95 ?_
    refine Bd_iload_9 (pc := 97) dX7_read_97 ?_
    refine Bd_callV1i (cd := mX4_hasBlowAt) (pc := 99) dX7_read_99 k_767 v_X4_hasBlowAt ⟨(Nat.le_of_ble_eq_true rfl), (Nat.le_of_ble_eq_true rfl)⟩ rfl rfl sem_hba_40 (Nat.le_of_ble_eq_true rfl) ?_
    refine Bd_if_ne (t := 113) (pc := 102) dX7_read_102 (by decide) (fun b102 => ?_) (fun b102 => ?_)
    · have hB : rdB M 40 f i := (show ¬ rdA f i < 0 ∧ ¬ M 40 2 - 3 < rdA f i from by have q := b2_n.mp b102; rw [rdM_ne (by decide) (by decide) (by decide) (by decide)] at q; exact q)
      refine Bd_aload_0 (pc := 113) dX7_read_113 ?_
      refine Bd_aload_5 (pc := 114) dX7_read_114 ?_
      refine Bd_getR (j := 0) ck4 (pc := 116) dX7_read_116 k_224 rfl (Nat.le_of_ble_eq_true rfl) rfl ?_
      refine Bd_iload_9 (pc := 119) dX7_read_119 ?_
      refine Bd_iald (pc := 121) dX7_read_121 rfl (rd_vp hs (show ¬ rdA f i < 0 ∧ ¬ M 40 2 - 3 < rdA f i from by have q := b2_n.mp b102; rw [rdM_ne (by decide) (by decide) (by decide) (by decide)] at q; exact q)).1 ?_
      refine Bd_aload_5 (pc := 122) dX7_read_122 ?_
      refine Bd_getR (j := 0) ck4 (pc := 124) dX7_read_124 k_224 rfl (Nat.le_of_ble_eq_true rfl) rfl ?_
      refine Bd_iload_9 (pc := 127) dX7_read_127 ?_
      refine Bd_iconst (v := 1) (pc := 129) dX7_read_129 (by decide) ?_
      refine Bd_iadd (pc := 130) dX7_read_130 ?_
      refine Bd_iald (pc := 131) dX7_read_131 rfl (rd_vp hs (show ¬ rdA f i < 0 ∧ ¬ M 40 2 - 3 < rdA f i from by have q := b2_n.mp b102; rw [rdM_ne (by decide) (by decide) (by decide) (by decide)] at q; exact q)).2.1 ?_
      refine Bd_aload_5 (pc := 132) dX7_read_132 ?_
      refine Bd_getR (j := 0) ck4 (pc := 134) dX7_read_134 k_224 rfl (Nat.le_of_ble_eq_true rfl) rfl ?_
      refine Bd_iload_9 (pc := 137) dX7_read_137 ?_
      refine Bd_iconst (v := 2) (pc := 139) dX7_read_139 (by decide) ?_
      refine Bd_iadd (pc := 140) dX7_read_140 ?_
      refine Bd_iald (pc := 141) dX7_read_141 rfl (rd_vp hs (show ¬ rdA f i < 0 ∧ ¬ M 40 2 - 3 < rdA f i from by have q := b2_n.mp b102; rw [rdM_ne (by decide) (by decide) (by decide) (by decide)] at q; exact q)).2.2 ?_
      refine Bd_callV3i (cd := mX7_blow) (pc := 142) dX7_read_142 k_771 v_X7_blow ⟨(Nat.le_of_ble_eq_true rfl), (Nat.le_of_ble_eq_true rfl)⟩ rfl rfl (sem_X7_blow (rdM_wf h i)) (Nat.le_of_ble_eq_true rfl) ?_
      have ew : blowV (rdM M 40 f i) (rdM M 40 f i 41 (cn (rdA f i))) (rdM M 40 f i 41 (cn (rdA f i + 1))) (rdM M 40 f i 41 (cn (rdA f i + 2))) = rdW M 40 f i := by rw [rdM_ne (k := 41) (by decide) (by decide) (by decide) (by decide)]
      have ew2 := blowU_no (M := rdM M 40 f i) (t := rdM M 40 f i 41 (cn (rdA f i))) (b := rdM M 40 f i 41 (cn (rdA f i + 1))) (n := rdM M 40 f i 41 (cn (rdA f i + 2)))
      refine Bd_if_ge (t := 163) (pc := 145) dX7_read_145 (by decide) (fun b145 => ?_) (fun b145 => ?_)
      · refine Bd_iinc_8 (pc := 163) dX7_read_163 (show _ + Int32.ofInt 1 = _ + 1 from rfl) (Nat.le_of_ble_eq_true rfl) rfl ?_
        refine Bd_goto (t := 80) (pc := 166) dX7_read_166 (by decide) ?_
        exact Bd_nx (ihi (fun j hj => by rcases Nat.lt_succ_iff_lt_or_eq.mp hj with q | q; exact ivi j q; rw [q]; exact ⟨hB, by rw [← ew]; exact b145⟩)) (by simp [wkP, nI_succ])
      · refine Bd_aload_0 (pc := 148) dX7_read_148 ?_
        refine Bd_getR (j := 2) ck7 (pc := 149) dX7_read_149 k_237 rfl (Nat.le_of_ble_eq_true rfl) rfl ?_
        refine Bd_iload_6 (pc := 152) dX7_read_152 ?_
        refine Bd_putI (j := 4) (ty := .int) ck0 (pc := 154) dX7_read_154 k_92 rfl (Nat.le_of_ble_eq_true rfl) rfl rfl pfI rfl rfl ?_
        refine Bd_bipush (v := -20) (pc := 157) dX7_read_157 (by decide) ?_
        refine Bd_iload_8 (pc := 159) dX7_read_159 ?_
        refine Bd_isub (pc := 161) dX7_read_161 ?_
        refine Bd_iret (pc := 162) dX7_read_162 rfl ?_
        have hneg : rdW M 40 f i < 0 := by rw [← ew]; exact Int32.not_le.mp b145
        exact hR _ _ (by rw [readB, if_neg hz]; refine Or.inr (Or.inl ⟨i, hi, ivi, hB, hneg, rfl, ?_⟩); exact congrArg (fun X => updM X 5 4 (M 5 4)) (ew2 (Int32.not_le.mp b145) (by have := (rdM_wf (b := 40) (f := f) h i).nb24; omega)))
    · have hB : ¬ rdB M 40 f i := (show ¬ (¬ rdA f i < 0 ∧ ¬ M 40 2 - 3 < rdA f i) from by have q := b2_0.mp b102; rw [rdM_ne (by decide) (by decide) (by decide) (by decide)] at q; exact q)
      refine Bd_aload_0 (pc := 105) dX7_read_105 ?_
      refine Bd_iconst (v := 2) (pc := 106) dX7_read_106 (by decide) ?_
      refine Bd_putI (j := 11) (ty := .int) ck7 (pc := 107) dX7_read_107 k_246 rfl (Nat.le_of_ble_eq_true rfl) rfl rfl pfI rfl rfl ?_
      refine Bd_iload_8 (pc := 110) dX7_read_110 ?_
      refine Bd_iret (pc := 112) dX7_read_112 rfl ?_
      exact hR _ _ (by rw [readB, if_neg hz]; exact Or.inl ⟨i, hi, ivi, hB, rfl, rfl⟩)
theorem rd_n {n : Int32} (h1 : ¬ n < 0) (h2 : n ≤ 13) : n = nI (cn n) ∧ cn n ≤ 13 := by
  have h3 := Int32.le_iff_toInt_le.mp (Int32.not_lt.mp h1)
  have h4 := Int32.le_iff_toInt_le.mp h2
  rw [Int32.toInt_zero] at h3
  rw [show (13 : Int32).toInt = 13 by decide] at h4
  have := cn_of (x := n) (hi := 13) ⟨h3, h4⟩
  exact ⟨this.1, by have := this.2.2; omega⟩
set_option maxRecDepth 100000 in
set_option maxHeartbeats 4000000 in
theorem sem_X7_read {M : Mem} (h : WF M) {k lane f n : Int32} : Sem mX7_read SH [.ref 0, .int k, .int lane, .int f, .int n] M (RI SH (fun r N => readR M k lane f n r N)) := by
  have q1 := h.nb24
  have q2 := h.nn12
  have q3 := h.nt6
  have q4 := h.nh3
  have q5 := h.nmb
  refine Sem_of rfl (fun G => (Nat.le_of_ble_eq_true rfl)) (fun G => ?_)
  by_cases hk : 0 ≤ k ∧ k < 4
  · rcases k4_c hk with rfl | rfl | rfl | rfl
    · refine Bd_iload_1 (pc := 0) dX7_read_0 ?_
      refine Bd_iconst (v := 4) (pc := 1) dX7_read_1 (by decide) ?_
      refine Bd_callS2i (cd := mX7_isWithin) (pc := 2) dX7_read_2 k_448 v_X7_isWithin ⟨(Nat.le_of_ble_eq_true rfl), (Nat.le_of_ble_eq_true rfl)⟩ sem_X7_isWithin (Nat.le_of_ble_eq_true rfl) ?_
      refine Bd_if_eq (t := 28) (pc := 5) dX7_read_5 (by decide) (fun b5 => (show False from absurd ((b2_t hk).trans b5) (by decide)).elim) (fun b5 => ?_)
      refine Bd_iload_2 (pc := 8) dX7_read_8 ?_
      refine Bd_iconst (v := 3) (pc := 9) dX7_read_9 (by decide) ?_
      refine Bd_callS2i (cd := mX7_isWithin) (pc := 10) dX7_read_10 k_448 v_X7_isWithin ⟨(Nat.le_of_ble_eq_true rfl), (Nat.le_of_ble_eq_true rfl)⟩ sem_X7_isWithin (Nat.le_of_ble_eq_true rfl) ?_
      refine Bd_if_eq (t := 28) (pc := 13) dX7_read_13 (by decide) (fun b13 => ?_) (fun b13 => ?_)
      · refine Bd_iconst (v := -1) (pc := 28) dX7_read_28 (by decide) ?_
        refine Bd_iret (pc := 29) dX7_read_29 rfl ?_
        exact ⟨_, rfl, rfl, show readR M 0 lane f n _ _ from by rw [readR, if_neg (fun q => b2_0.mp b13 q.2.1)]; exact ⟨rfl, rfl⟩⟩
      · refine Bd_iload_4 (pc := 16) dX7_read_16 ?_
        refine Bd_if_lt (t := 28) (pc := 18) dX7_read_18 (by decide) (fun b18 => ?_) (fun b18 => ?_)
        · refine Bd_iconst (v := -1) (pc := 28) dX7_read_28 (by decide) ?_
          refine Bd_iret (pc := 29) dX7_read_29 rfl ?_
          exact ⟨_, rfl, rfl, show readR M 0 lane f n _ _ from by rw [readR, if_neg (fun q => q.2.2.1 b18)]; exact ⟨rfl, rfl⟩⟩
        · refine Bd_iload_4 (pc := 21) dX7_read_21 ?_
          refine Bd_bipush (v := 13) (pc := 23) dX7_read_23 (by decide) ?_
          refine Bd_icmp_le (t := 30) (pc := 25) dX7_read_25 (by decide) (fun b25 => ?_) (fun b25 => ?_)
          · refine Bd_aload_0 (pc := 30) dX7_read_30 ?_
            refine Bd_getR (j := 5) ck7 (pc := 31) dX7_read_31 k_240 rfl (Nat.le_of_ble_eq_true rfl) rfl ?_
            refine Bd_iload_1 (pc := 34) dX7_read_34 ?_
            refine Bd_aald (pc := 35) dX7_read_35 rfl (fun _ => rfl) (by unfold vp_in; decide) rfl ?_
            refine Bd_astore_5 (pc := 36) dX7_read_36 (Nat.le_of_ble_eq_true rfl) rfl ?_
            refine Bd_aload_0 (pc := 38) dX7_read_38 ?_
            refine Bd_getR (j := 2) ck7 (pc := 39) dX7_read_39 k_237 rfl (Nat.le_of_ble_eq_true rfl) rfl ?_
            refine Bd_getI (j := 4) ck0 (pc := 42) dX7_read_42 k_92 rfl (Nat.le_of_ble_eq_true rfl) rfl ?_
            refine Bd_istore_6 (pc := 45) dX7_read_45 (Nat.le_of_ble_eq_true rfl) rfl ?_
            refine Bd_iload_4 (pc := 47) dX7_read_47 ?_
            refine Bd_if_ne (t := 56) (pc := 49) dX7_read_49 (by decide) (fun b49 => ?_) (fun b49 => ?_)
            · refine Bd_aload_5 (pc := 56) dX7_read_56 ?_
              refine Bd_iload_2 (pc := 58) dX7_read_58 ?_
              refine Bd_callV1i (cd := mX4_faultAs) (pc := 59) dX7_read_59 k_762 v_X4_faultAs ⟨(Nat.le_of_ble_eq_true rfl), (Nat.le_of_ble_eq_true rfl)⟩ rfl rfl sem_fault_34 (Nat.le_of_ble_eq_true rfl) ?_
              refine Bd_istore_7 (pc := 62) dX7_read_62 (Nat.le_of_ble_eq_true rfl) rfl ?_
              refine Bd_iload_7 (pc := 64) dX7_read_64 ?_
              refine Bd_if_eq (t := 77) (pc := 66) dX7_read_66 (by decide) (fun b66 => ?_) (fun b66 => ?_)
              · have hn := rd_n b18 b25
                refine Bd_nx (bd_read_34 h h.2.2.2.2.1.2 hn.1 hn.2 (fun q => q.2 b66) (fun r N hr => ⟨r, rfl, rfl, show readR M 0 lane f n r N from by rw [readR, if_pos ⟨hk, b2_n.mp b13, b18, b25⟩]; exact hr⟩)) (by repeat (first | exact True.intro | refine And.intro rfl ?_))
              · refine Bd_aload_0 (pc := 69) dX7_read_69 ?_
                refine Bd_iload_7 (pc := 70) dX7_read_70 ?_
                refine Bd_putI (j := 11) (ty := .int) ck7 (pc := 72) dX7_read_72 k_246 rfl (Nat.le_of_ble_eq_true rfl) rfl rfl pfI rfl rfl ?_
                refine Bd_iconst (v := 0) (pc := 75) dX7_read_75 (by decide) ?_
                refine Bd_iret (pc := 76) dX7_read_76 rfl ?_
                exact ⟨_, rfl, rfl, show readR M 0 lane f n _ _ from by rw [readR, if_pos ⟨hk, b2_n.mp b13, b18, b25⟩, show shB 0 = 34 from rfl, readB, if_pos ⟨b49, b66⟩]; exact ⟨rfl, rfl⟩⟩
            · refine Bd_iconst (v := 0) (pc := 52) dX7_read_52 (by decide) ?_
              refine Bd_goto (t := 62) (pc := 53) dX7_read_53 (by decide) ?_
              refine Bd_istore_7 (pc := 62) dX7_read_62 (Nat.le_of_ble_eq_true rfl) rfl ?_
              refine Bd_iload_7 (pc := 64) dX7_read_64 ?_
              refine Bd_if_eq (t := 77) (pc := 66) dX7_read_66 (by decide) (fun b66 => ?_) (fun b66 => (show False from b66 rfl).elim)
              have hn := rd_n b18 b25
              refine Bd_nx (bd_read_34 h h.2.2.2.2.1.2 hn.1 hn.2 (fun q => q.1 b49) (fun r N hr => ⟨r, rfl, rfl, show readR M 0 lane f n r N from by rw [readR, if_pos ⟨hk, b2_n.mp b13, b18, b25⟩]; exact hr⟩)) (by repeat (first | exact True.intro | refine And.intro rfl ?_))
          · refine Bd_iconst (v := -1) (pc := 28) dX7_read_28 (by decide) ?_
            refine Bd_iret (pc := 29) dX7_read_29 rfl ?_
            exact ⟨_, rfl, rfl, show readR M 0 lane f n _ _ from by rw [readR, if_neg (fun q => b25 q.2.2.2)]; exact ⟨rfl, rfl⟩⟩
    · refine Bd_iload_1 (pc := 0) dX7_read_0 ?_
      refine Bd_iconst (v := 4) (pc := 1) dX7_read_1 (by decide) ?_
      refine Bd_callS2i (cd := mX7_isWithin) (pc := 2) dX7_read_2 k_448 v_X7_isWithin ⟨(Nat.le_of_ble_eq_true rfl), (Nat.le_of_ble_eq_true rfl)⟩ sem_X7_isWithin (Nat.le_of_ble_eq_true rfl) ?_
      refine Bd_if_eq (t := 28) (pc := 5) dX7_read_5 (by decide) (fun b5 => (show False from absurd ((b2_t hk).trans b5) (by decide)).elim) (fun b5 => ?_)
      refine Bd_iload_2 (pc := 8) dX7_read_8 ?_
      refine Bd_iconst (v := 3) (pc := 9) dX7_read_9 (by decide) ?_
      refine Bd_callS2i (cd := mX7_isWithin) (pc := 10) dX7_read_10 k_448 v_X7_isWithin ⟨(Nat.le_of_ble_eq_true rfl), (Nat.le_of_ble_eq_true rfl)⟩ sem_X7_isWithin (Nat.le_of_ble_eq_true rfl) ?_
      refine Bd_if_eq (t := 28) (pc := 13) dX7_read_13 (by decide) (fun b13 => ?_) (fun b13 => ?_)
      · refine Bd_iconst (v := -1) (pc := 28) dX7_read_28 (by decide) ?_
        refine Bd_iret (pc := 29) dX7_read_29 rfl ?_
        exact ⟨_, rfl, rfl, show readR M 1 lane f n _ _ from by rw [readR, if_neg (fun q => b2_0.mp b13 q.2.1)]; exact ⟨rfl, rfl⟩⟩
      · refine Bd_iload_4 (pc := 16) dX7_read_16 ?_
        refine Bd_if_lt (t := 28) (pc := 18) dX7_read_18 (by decide) (fun b18 => ?_) (fun b18 => ?_)
        · refine Bd_iconst (v := -1) (pc := 28) dX7_read_28 (by decide) ?_
          refine Bd_iret (pc := 29) dX7_read_29 rfl ?_
          exact ⟨_, rfl, rfl, show readR M 1 lane f n _ _ from by rw [readR, if_neg (fun q => q.2.2.1 b18)]; exact ⟨rfl, rfl⟩⟩
        · refine Bd_iload_4 (pc := 21) dX7_read_21 ?_
          refine Bd_bipush (v := 13) (pc := 23) dX7_read_23 (by decide) ?_
          refine Bd_icmp_le (t := 30) (pc := 25) dX7_read_25 (by decide) (fun b25 => ?_) (fun b25 => ?_)
          · refine Bd_aload_0 (pc := 30) dX7_read_30 ?_
            refine Bd_getR (j := 5) ck7 (pc := 31) dX7_read_31 k_240 rfl (Nat.le_of_ble_eq_true rfl) rfl ?_
            refine Bd_iload_1 (pc := 34) dX7_read_34 ?_
            refine Bd_aald (pc := 35) dX7_read_35 rfl (fun _ => rfl) (by unfold vp_in; decide) rfl ?_
            refine Bd_astore_5 (pc := 36) dX7_read_36 (Nat.le_of_ble_eq_true rfl) rfl ?_
            refine Bd_aload_0 (pc := 38) dX7_read_38 ?_
            refine Bd_getR (j := 2) ck7 (pc := 39) dX7_read_39 k_237 rfl (Nat.le_of_ble_eq_true rfl) rfl ?_
            refine Bd_getI (j := 4) ck0 (pc := 42) dX7_read_42 k_92 rfl (Nat.le_of_ble_eq_true rfl) rfl ?_
            refine Bd_istore_6 (pc := 45) dX7_read_45 (Nat.le_of_ble_eq_true rfl) rfl ?_
            refine Bd_iload_4 (pc := 47) dX7_read_47 ?_
            refine Bd_if_ne (t := 56) (pc := 49) dX7_read_49 (by decide) (fun b49 => ?_) (fun b49 => ?_)
            · refine Bd_aload_5 (pc := 56) dX7_read_56 ?_
              refine Bd_iload_2 (pc := 58) dX7_read_58 ?_
              refine Bd_callV1i (cd := mX4_faultAs) (pc := 59) dX7_read_59 k_762 v_X4_faultAs ⟨(Nat.le_of_ble_eq_true rfl), (Nat.le_of_ble_eq_true rfl)⟩ rfl rfl sem_fault_36 (Nat.le_of_ble_eq_true rfl) ?_
              refine Bd_istore_7 (pc := 62) dX7_read_62 (Nat.le_of_ble_eq_true rfl) rfl ?_
              refine Bd_iload_7 (pc := 64) dX7_read_64 ?_
              refine Bd_if_eq (t := 77) (pc := 66) dX7_read_66 (by decide) (fun b66 => ?_) (fun b66 => ?_)
              · have hn := rd_n b18 b25
                refine Bd_nx (bd_read_36 h h.2.2.2.2.2.1.2 hn.1 hn.2 (fun q => q.2 b66) (fun r N hr => ⟨r, rfl, rfl, show readR M 1 lane f n r N from by rw [readR, if_pos ⟨hk, b2_n.mp b13, b18, b25⟩]; exact hr⟩)) (by repeat (first | exact True.intro | refine And.intro rfl ?_))
              · refine Bd_aload_0 (pc := 69) dX7_read_69 ?_
                refine Bd_iload_7 (pc := 70) dX7_read_70 ?_
                refine Bd_putI (j := 11) (ty := .int) ck7 (pc := 72) dX7_read_72 k_246 rfl (Nat.le_of_ble_eq_true rfl) rfl rfl pfI rfl rfl ?_
                refine Bd_iconst (v := 0) (pc := 75) dX7_read_75 (by decide) ?_
                refine Bd_iret (pc := 76) dX7_read_76 rfl ?_
                exact ⟨_, rfl, rfl, show readR M 1 lane f n _ _ from by rw [readR, if_pos ⟨hk, b2_n.mp b13, b18, b25⟩, show shB 1 = 36 from rfl, readB, if_pos ⟨b49, b66⟩]; exact ⟨rfl, rfl⟩⟩
            · refine Bd_iconst (v := 0) (pc := 52) dX7_read_52 (by decide) ?_
              refine Bd_goto (t := 62) (pc := 53) dX7_read_53 (by decide) ?_
              refine Bd_istore_7 (pc := 62) dX7_read_62 (Nat.le_of_ble_eq_true rfl) rfl ?_
              refine Bd_iload_7 (pc := 64) dX7_read_64 ?_
              refine Bd_if_eq (t := 77) (pc := 66) dX7_read_66 (by decide) (fun b66 => ?_) (fun b66 => (show False from b66 rfl).elim)
              have hn := rd_n b18 b25
              refine Bd_nx (bd_read_36 h h.2.2.2.2.2.1.2 hn.1 hn.2 (fun q => q.1 b49) (fun r N hr => ⟨r, rfl, rfl, show readR M 1 lane f n r N from by rw [readR, if_pos ⟨hk, b2_n.mp b13, b18, b25⟩]; exact hr⟩)) (by repeat (first | exact True.intro | refine And.intro rfl ?_))
          · refine Bd_iconst (v := -1) (pc := 28) dX7_read_28 (by decide) ?_
            refine Bd_iret (pc := 29) dX7_read_29 rfl ?_
            exact ⟨_, rfl, rfl, show readR M 1 lane f n _ _ from by rw [readR, if_neg (fun q => b25 q.2.2.2)]; exact ⟨rfl, rfl⟩⟩
    · refine Bd_iload_1 (pc := 0) dX7_read_0 ?_
      refine Bd_iconst (v := 4) (pc := 1) dX7_read_1 (by decide) ?_
      refine Bd_callS2i (cd := mX7_isWithin) (pc := 2) dX7_read_2 k_448 v_X7_isWithin ⟨(Nat.le_of_ble_eq_true rfl), (Nat.le_of_ble_eq_true rfl)⟩ sem_X7_isWithin (Nat.le_of_ble_eq_true rfl) ?_
      refine Bd_if_eq (t := 28) (pc := 5) dX7_read_5 (by decide) (fun b5 => (show False from absurd ((b2_t hk).trans b5) (by decide)).elim) (fun b5 => ?_)
      refine Bd_iload_2 (pc := 8) dX7_read_8 ?_
      refine Bd_iconst (v := 3) (pc := 9) dX7_read_9 (by decide) ?_
      refine Bd_callS2i (cd := mX7_isWithin) (pc := 10) dX7_read_10 k_448 v_X7_isWithin ⟨(Nat.le_of_ble_eq_true rfl), (Nat.le_of_ble_eq_true rfl)⟩ sem_X7_isWithin (Nat.le_of_ble_eq_true rfl) ?_
      refine Bd_if_eq (t := 28) (pc := 13) dX7_read_13 (by decide) (fun b13 => ?_) (fun b13 => ?_)
      · refine Bd_iconst (v := -1) (pc := 28) dX7_read_28 (by decide) ?_
        refine Bd_iret (pc := 29) dX7_read_29 rfl ?_
        exact ⟨_, rfl, rfl, show readR M 2 lane f n _ _ from by rw [readR, if_neg (fun q => b2_0.mp b13 q.2.1)]; exact ⟨rfl, rfl⟩⟩
      · refine Bd_iload_4 (pc := 16) dX7_read_16 ?_
        refine Bd_if_lt (t := 28) (pc := 18) dX7_read_18 (by decide) (fun b18 => ?_) (fun b18 => ?_)
        · refine Bd_iconst (v := -1) (pc := 28) dX7_read_28 (by decide) ?_
          refine Bd_iret (pc := 29) dX7_read_29 rfl ?_
          exact ⟨_, rfl, rfl, show readR M 2 lane f n _ _ from by rw [readR, if_neg (fun q => q.2.2.1 b18)]; exact ⟨rfl, rfl⟩⟩
        · refine Bd_iload_4 (pc := 21) dX7_read_21 ?_
          refine Bd_bipush (v := 13) (pc := 23) dX7_read_23 (by decide) ?_
          refine Bd_icmp_le (t := 30) (pc := 25) dX7_read_25 (by decide) (fun b25 => ?_) (fun b25 => ?_)
          · refine Bd_aload_0 (pc := 30) dX7_read_30 ?_
            refine Bd_getR (j := 5) ck7 (pc := 31) dX7_read_31 k_240 rfl (Nat.le_of_ble_eq_true rfl) rfl ?_
            refine Bd_iload_1 (pc := 34) dX7_read_34 ?_
            refine Bd_aald (pc := 35) dX7_read_35 rfl (fun _ => rfl) (by unfold vp_in; decide) rfl ?_
            refine Bd_astore_5 (pc := 36) dX7_read_36 (Nat.le_of_ble_eq_true rfl) rfl ?_
            refine Bd_aload_0 (pc := 38) dX7_read_38 ?_
            refine Bd_getR (j := 2) ck7 (pc := 39) dX7_read_39 k_237 rfl (Nat.le_of_ble_eq_true rfl) rfl ?_
            refine Bd_getI (j := 4) ck0 (pc := 42) dX7_read_42 k_92 rfl (Nat.le_of_ble_eq_true rfl) rfl ?_
            refine Bd_istore_6 (pc := 45) dX7_read_45 (Nat.le_of_ble_eq_true rfl) rfl ?_
            refine Bd_iload_4 (pc := 47) dX7_read_47 ?_
            refine Bd_if_ne (t := 56) (pc := 49) dX7_read_49 (by decide) (fun b49 => ?_) (fun b49 => ?_)
            · refine Bd_aload_5 (pc := 56) dX7_read_56 ?_
              refine Bd_iload_2 (pc := 58) dX7_read_58 ?_
              refine Bd_callV1i (cd := mX4_faultAs) (pc := 59) dX7_read_59 k_762 v_X4_faultAs ⟨(Nat.le_of_ble_eq_true rfl), (Nat.le_of_ble_eq_true rfl)⟩ rfl rfl sem_fault_38 (Nat.le_of_ble_eq_true rfl) ?_
              refine Bd_istore_7 (pc := 62) dX7_read_62 (Nat.le_of_ble_eq_true rfl) rfl ?_
              refine Bd_iload_7 (pc := 64) dX7_read_64 ?_
              refine Bd_if_eq (t := 77) (pc := 66) dX7_read_66 (by decide) (fun b66 => ?_) (fun b66 => ?_)
              · have hn := rd_n b18 b25
                refine Bd_nx (bd_read_38 h h.2.2.2.2.2.2.1.2 hn.1 hn.2 (fun q => q.2 b66) (fun r N hr => ⟨r, rfl, rfl, show readR M 2 lane f n r N from by rw [readR, if_pos ⟨hk, b2_n.mp b13, b18, b25⟩]; exact hr⟩)) (by repeat (first | exact True.intro | refine And.intro rfl ?_))
              · refine Bd_aload_0 (pc := 69) dX7_read_69 ?_
                refine Bd_iload_7 (pc := 70) dX7_read_70 ?_
                refine Bd_putI (j := 11) (ty := .int) ck7 (pc := 72) dX7_read_72 k_246 rfl (Nat.le_of_ble_eq_true rfl) rfl rfl pfI rfl rfl ?_
                refine Bd_iconst (v := 0) (pc := 75) dX7_read_75 (by decide) ?_
                refine Bd_iret (pc := 76) dX7_read_76 rfl ?_
                exact ⟨_, rfl, rfl, show readR M 2 lane f n _ _ from by rw [readR, if_pos ⟨hk, b2_n.mp b13, b18, b25⟩, show shB 2 = 38 from rfl, readB, if_pos ⟨b49, b66⟩]; exact ⟨rfl, rfl⟩⟩
            · refine Bd_iconst (v := 0) (pc := 52) dX7_read_52 (by decide) ?_
              refine Bd_goto (t := 62) (pc := 53) dX7_read_53 (by decide) ?_
              refine Bd_istore_7 (pc := 62) dX7_read_62 (Nat.le_of_ble_eq_true rfl) rfl ?_
              refine Bd_iload_7 (pc := 64) dX7_read_64 ?_
              refine Bd_if_eq (t := 77) (pc := 66) dX7_read_66 (by decide) (fun b66 => ?_) (fun b66 => (show False from b66 rfl).elim)
              have hn := rd_n b18 b25
              refine Bd_nx (bd_read_38 h h.2.2.2.2.2.2.1.2 hn.1 hn.2 (fun q => q.1 b49) (fun r N hr => ⟨r, rfl, rfl, show readR M 2 lane f n r N from by rw [readR, if_pos ⟨hk, b2_n.mp b13, b18, b25⟩]; exact hr⟩)) (by repeat (first | exact True.intro | refine And.intro rfl ?_))
          · refine Bd_iconst (v := -1) (pc := 28) dX7_read_28 (by decide) ?_
            refine Bd_iret (pc := 29) dX7_read_29 rfl ?_
            exact ⟨_, rfl, rfl, show readR M 2 lane f n _ _ from by rw [readR, if_neg (fun q => b25 q.2.2.2)]; exact ⟨rfl, rfl⟩⟩
    · refine Bd_iload_1 (pc := 0) dX7_read_0 ?_
      refine Bd_iconst (v := 4) (pc := 1) dX7_read_1 (by decide) ?_
      refine Bd_callS2i (cd := mX7_isWithin) (pc := 2) dX7_read_2 k_448 v_X7_isWithin ⟨(Nat.le_of_ble_eq_true rfl), (Nat.le_of_ble_eq_true rfl)⟩ sem_X7_isWithin (Nat.le_of_ble_eq_true rfl) ?_
      refine Bd_if_eq (t := 28) (pc := 5) dX7_read_5 (by decide) (fun b5 => (show False from absurd ((b2_t hk).trans b5) (by decide)).elim) (fun b5 => ?_)
      refine Bd_iload_2 (pc := 8) dX7_read_8 ?_
      refine Bd_iconst (v := 3) (pc := 9) dX7_read_9 (by decide) ?_
      refine Bd_callS2i (cd := mX7_isWithin) (pc := 10) dX7_read_10 k_448 v_X7_isWithin ⟨(Nat.le_of_ble_eq_true rfl), (Nat.le_of_ble_eq_true rfl)⟩ sem_X7_isWithin (Nat.le_of_ble_eq_true rfl) ?_
      refine Bd_if_eq (t := 28) (pc := 13) dX7_read_13 (by decide) (fun b13 => ?_) (fun b13 => ?_)
      · refine Bd_iconst (v := -1) (pc := 28) dX7_read_28 (by decide) ?_
        refine Bd_iret (pc := 29) dX7_read_29 rfl ?_
        exact ⟨_, rfl, rfl, show readR M 3 lane f n _ _ from by rw [readR, if_neg (fun q => b2_0.mp b13 q.2.1)]; exact ⟨rfl, rfl⟩⟩
      · refine Bd_iload_4 (pc := 16) dX7_read_16 ?_
        refine Bd_if_lt (t := 28) (pc := 18) dX7_read_18 (by decide) (fun b18 => ?_) (fun b18 => ?_)
        · refine Bd_iconst (v := -1) (pc := 28) dX7_read_28 (by decide) ?_
          refine Bd_iret (pc := 29) dX7_read_29 rfl ?_
          exact ⟨_, rfl, rfl, show readR M 3 lane f n _ _ from by rw [readR, if_neg (fun q => q.2.2.1 b18)]; exact ⟨rfl, rfl⟩⟩
        · refine Bd_iload_4 (pc := 21) dX7_read_21 ?_
          refine Bd_bipush (v := 13) (pc := 23) dX7_read_23 (by decide) ?_
          refine Bd_icmp_le (t := 30) (pc := 25) dX7_read_25 (by decide) (fun b25 => ?_) (fun b25 => ?_)
          · refine Bd_aload_0 (pc := 30) dX7_read_30 ?_
            refine Bd_getR (j := 5) ck7 (pc := 31) dX7_read_31 k_240 rfl (Nat.le_of_ble_eq_true rfl) rfl ?_
            refine Bd_iload_1 (pc := 34) dX7_read_34 ?_
            refine Bd_aald (pc := 35) dX7_read_35 rfl (fun _ => rfl) (by unfold vp_in; decide) rfl ?_
            refine Bd_astore_5 (pc := 36) dX7_read_36 (Nat.le_of_ble_eq_true rfl) rfl ?_
            refine Bd_aload_0 (pc := 38) dX7_read_38 ?_
            refine Bd_getR (j := 2) ck7 (pc := 39) dX7_read_39 k_237 rfl (Nat.le_of_ble_eq_true rfl) rfl ?_
            refine Bd_getI (j := 4) ck0 (pc := 42) dX7_read_42 k_92 rfl (Nat.le_of_ble_eq_true rfl) rfl ?_
            refine Bd_istore_6 (pc := 45) dX7_read_45 (Nat.le_of_ble_eq_true rfl) rfl ?_
            refine Bd_iload_4 (pc := 47) dX7_read_47 ?_
            refine Bd_if_ne (t := 56) (pc := 49) dX7_read_49 (by decide) (fun b49 => ?_) (fun b49 => ?_)
            · refine Bd_aload_5 (pc := 56) dX7_read_56 ?_
              refine Bd_iload_2 (pc := 58) dX7_read_58 ?_
              refine Bd_callV1i (cd := mX4_faultAs) (pc := 59) dX7_read_59 k_762 v_X4_faultAs ⟨(Nat.le_of_ble_eq_true rfl), (Nat.le_of_ble_eq_true rfl)⟩ rfl rfl sem_fault_40 (Nat.le_of_ble_eq_true rfl) ?_
              refine Bd_istore_7 (pc := 62) dX7_read_62 (Nat.le_of_ble_eq_true rfl) rfl ?_
              refine Bd_iload_7 (pc := 64) dX7_read_64 ?_
              refine Bd_if_eq (t := 77) (pc := 66) dX7_read_66 (by decide) (fun b66 => ?_) (fun b66 => ?_)
              · have hn := rd_n b18 b25
                refine Bd_nx (bd_read_40 h h.2.2.2.2.2.2.2.2 hn.1 hn.2 (fun q => q.2 b66) (fun r N hr => ⟨r, rfl, rfl, show readR M 3 lane f n r N from by rw [readR, if_pos ⟨hk, b2_n.mp b13, b18, b25⟩]; exact hr⟩)) (by repeat (first | exact True.intro | refine And.intro rfl ?_))
              · refine Bd_aload_0 (pc := 69) dX7_read_69 ?_
                refine Bd_iload_7 (pc := 70) dX7_read_70 ?_
                refine Bd_putI (j := 11) (ty := .int) ck7 (pc := 72) dX7_read_72 k_246 rfl (Nat.le_of_ble_eq_true rfl) rfl rfl pfI rfl rfl ?_
                refine Bd_iconst (v := 0) (pc := 75) dX7_read_75 (by decide) ?_
                refine Bd_iret (pc := 76) dX7_read_76 rfl ?_
                exact ⟨_, rfl, rfl, show readR M 3 lane f n _ _ from by rw [readR, if_pos ⟨hk, b2_n.mp b13, b18, b25⟩, show shB 3 = 40 from rfl, readB, if_pos ⟨b49, b66⟩]; exact ⟨rfl, rfl⟩⟩
            · refine Bd_iconst (v := 0) (pc := 52) dX7_read_52 (by decide) ?_
              refine Bd_goto (t := 62) (pc := 53) dX7_read_53 (by decide) ?_
              refine Bd_istore_7 (pc := 62) dX7_read_62 (Nat.le_of_ble_eq_true rfl) rfl ?_
              refine Bd_iload_7 (pc := 64) dX7_read_64 ?_
              refine Bd_if_eq (t := 77) (pc := 66) dX7_read_66 (by decide) (fun b66 => ?_) (fun b66 => (show False from b66 rfl).elim)
              have hn := rd_n b18 b25
              refine Bd_nx (bd_read_40 h h.2.2.2.2.2.2.2.2 hn.1 hn.2 (fun q => q.1 b49) (fun r N hr => ⟨r, rfl, rfl, show readR M 3 lane f n r N from by rw [readR, if_pos ⟨hk, b2_n.mp b13, b18, b25⟩]; exact hr⟩)) (by repeat (first | exact True.intro | refine And.intro rfl ?_))
          · refine Bd_iconst (v := -1) (pc := 28) dX7_read_28 (by decide) ?_
            refine Bd_iret (pc := 29) dX7_read_29 rfl ?_
            exact ⟨_, rfl, rfl, show readR M 3 lane f n _ _ from by rw [readR, if_neg (fun q => b25 q.2.2.2)]; exact ⟨rfl, rfl⟩⟩
  · refine Bd_iload_1 (pc := 0) dX7_read_0 ?_
    refine Bd_iconst (v := 4) (pc := 1) dX7_read_1 (by decide) ?_
    refine Bd_callS2i (cd := mX7_isWithin) (pc := 2) dX7_read_2 k_448 v_X7_isWithin ⟨(Nat.le_of_ble_eq_true rfl), (Nat.le_of_ble_eq_true rfl)⟩ sem_X7_isWithin (Nat.le_of_ble_eq_true rfl) ?_
    refine Bd_if_eq (t := 28) (pc := 5) dX7_read_5 (by decide) (fun b5 => ?_) (fun b5 => (show False from b5 (b2_f hk).symm).elim)
    refine Bd_iconst (v := -1) (pc := 28) dX7_read_28 (by decide) ?_
    refine Bd_iret (pc := 29) dX7_read_29 rfl ?_
    exact ⟨_, rfl, rfl, show readR M k lane f n _ _ from by rw [readR, if_neg (fun q => hk q.1)]; exact ⟨rfl, rfl⟩⟩
