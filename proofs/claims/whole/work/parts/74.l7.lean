/-! 74: land: the token model; a token is read -/
abbrev spB (c : Int32) : Bool := decide (c = 32)
abbrev tI (M : Mem) : Nat := cn (M 1 1)
abbrev tL (M : Mem) : Nat := cn (M 1 2)
def TI (M : Mem) : Prop := M 1 1 = nI (tI M) ∧ M 1 2 = nI (tL M) ∧ tI M ≤ tL M ∧ tL M ≤ 320
def tkE (f : Nat → Int32) (L s : Nat) : Nat := if L ≤ s then s else if ltP (f s) then rnE ltB f (L - s) s else if fgP (f s) then (nmE f (L - s) s 0).1 else s + 1
def tkK (f : Nat → Int32) (L s : Nat) : Int32 := if L ≤ s then 4 else if ltP (f s) then 1 else if fgP (f s) then (if nI (nmE f (L - s) s 0).1 - nI s ≤ 3 then 2 else 0) else if f s = 59 then 3 else 0
def tkV (f : Nat → Int32) (L s : Nat) (v : Int32) : Int32 := if L ≤ s then v else if ltP (f s) then v else if fgP (f s) then (nmE f (L - s) s 0).2 else v
abbrev sM (M : Mem) : Nat := rnE spB (M 2) (tL M - tI M) (tI M)
abbrev eM (M : Mem) : Nat := tkE (M 2) (tL M) (sM M)
abbrev kM (M : Mem) : Int32 := tkK (M 2) (tL M) (sM M)
abbrev vM (M : Mem) : Int32 := tkV (M 2) (tL M) (sM M) (M 1 5)
def rtG (M : Mem) (s e k v : Int32) : Mem := updM (updM (updM (updM M 1 4 s) 1 5 v) 1 1 e) 1 3 k
def rt (M : Mem) : Mem := rtG M (nI (sM M)) (nI (eM M)) (kM M) (vM M)
theorem mem_ext {A B : Mem} (k : Nat) (h0 : ∀ q, q ≠ k → A q = B q) (h1 : ∀ j, A k j = B k j) : A = B := by
  funext q
  by_cases h : q = k
  · subst h; funext j; exact h1 j
  · exact h0 q h
theorem rtG_ne {M : Mem} {s e k v : Int32} {q : Nat} (h : q ≠ 1) : rtG M s e k v q = M q := by
  unfold rtG
  rw [updM_ne h, updM_ne h, updM_ne h, updM_ne h]
theorem rtG_j {M : Mem} {s e k v : Int32} (j : Nat) : rtG M s e k v 1 j = if j = 3 then k else if j = 1 then e else if j = 5 then v else if j = 4 then s else M 1 j := by
  unfold rtG
  simp only [updM_eq, upd]
theorem rnE_le {p : Int32 → Bool} {f : Nat → Int32} : ∀ k i, i ≤ rnE p f k i ∧ rnE p f k i ≤ i + k
  | 0, i => ⟨Nat.le_refl _, Nat.le_refl _⟩
  | k + 1, i => by
    have h := rnE_le (p := p) (f := f) k (i + 1)
    unfold rnE
    split <;> omega
theorem nmE_le {f : Nat → Int32} : ∀ k i v, i ≤ (nmE f k i v).1 ∧ (nmE f k i v).1 ≤ i + k
  | 0, i, v => ⟨Nat.le_refl _, Nat.le_refl _⟩
  | k + 1, i, v => by
    have h := nmE_le (f := f) k (i + 1) (10 * v + f i - 48)
    unfold nmE
    split
    · omega
    · exact ⟨Nat.le_refl _, Nat.le_add_right _ _⟩
theorem rnE_pos {p : Int32 → Bool} {f : Nat → Int32} {L s : Nat} (h : s < L) (hp : p (f s) = true) : s < rnE p f (L - s) s := by
  rw [rnE_s h, if_pos hp]
  have := rnE_le (p := p) (f := f) (L - (s + 1)) (s + 1)
  omega
theorem nmE_pos {f : Nat → Int32} {L s : Nat} {v : Int32} (h : s < L) (hp : fgB (f s) = true) : s < (nmE f (L - s) s v).1 := by
  rw [nmE_s h, if_pos hp]
  have := nmE_le (f := f) (L - (s + 1)) (s + 1) (10 * v + f s - 48)
  omega
theorem sM_b {M : Mem} (h : TI M) : tI M ≤ sM M ∧ sM M ≤ tL M := by
  have a : tI M ≤ sM M ∧ sM M ≤ tI M + (tL M - tI M) := rnE_le (p := spB) (f := M 2) (tL M - tI M) (tI M)
  have := h.2.2.1
  omega
theorem tkE_b {f : Nat → Int32} {L s : Nat} (h : s ≤ L) : s ≤ tkE f L s ∧ tkE f L s ≤ L ∧ (s < L → s < tkE f L s) := by
  unfold tkE
  by_cases h1 : L ≤ s
  · rw [if_pos h1]; omega
  · rw [if_neg h1]
    by_cases h2 : ltP (f s)
    · rw [if_pos h2]
      have a := rnE_le (p := ltB) (f := f) (L - s) s
      have b := rnE_pos (p := ltB) (f := f) (L := L) (s := s) (by omega) (decide_eq_true h2)
      omega
    · rw [if_neg h2]
      by_cases h3 : fgP (f s)
      · rw [if_pos h3]
        have a := nmE_le (f := f) (L - s) s 0
        have b := nmE_pos (f := f) (L := L) (s := s) (v := 0) (by omega) (decide_eq_true h3)
        omega
      · rw [if_neg h3]; omega
theorem rt_1 {M : Mem} : rt M 1 1 = nI (eM M) := by rw [rt, rtG_j]; rfl
theorem rt_3 {M : Mem} : rt M 1 3 = kM M := by rw [rt, rtG_j]; rfl
theorem rt_4 {M : Mem} : rt M 1 4 = nI (sM M) := by rw [rt, rtG_j]; rfl
theorem rt_5 {M : Mem} : rt M 1 5 = vM M := by rw [rt, rtG_j]; rfl
theorem rt_2 {M : Mem} : rt M 1 2 = M 1 2 := by rw [rt, rtG_j]; rfl
theorem rt_ne {M : Mem} {q : Nat} (h : q ≠ 1) : rt M q = M q := rtG_ne h
theorem eM_b {M : Mem} (h : TI M) : sM M ≤ eM M ∧ eM M ≤ tL M ∧ (sM M < tL M → sM M < eM M) := tkE_b (sM_b h).2
theorem rt_tI {M : Mem} (h : TI M) : tI (rt M) = eM M := by
  have := eM_b h
  have := h.2.2.2
  show cn (rt M 1 1) = _
  rw [rt_1]; exact nI_clamp (by omega)
theorem rt_tL {M : Mem} : tL (rt M) = tL M := by show cn (rt M 1 2) = _; rw [rt_2]
theorem rt_TI {M : Mem} (h : TI M) : TI (rt M) := by
  refine ⟨by rw [rt_tI h]; exact rt_1, by rw [rt_tL, rt_2]; exact h.2.1, ?_, by rw [rt_tL]; exact h.2.2.2⟩
  rw [rt_tI h, rt_tL]; exact (eM_b h).2.1
/-- the ends of a walk -/
theorem rt_end {M : Mem} (hs : tL M ≤ sM M) : updM (updM (updM M 1 1 (nI (sM M))) 1 4 (nI (sM M))) 1 3 4 = rt M := by
  rw [rt, show kM M = 4 from by unfold kM tkK; rw [if_pos hs], show vM M = M 1 5 from by unfold vM tkV; rw [if_pos hs], show eM M = sM M from by unfold eM tkE; rw [if_pos hs]]
  refine mem_ext 1 (fun q h => by rw [rtG_ne h, updM_ne h, updM_ne h, updM_ne h]) (fun j => ?_)
  rw [rtG_j]
  simp only [updM_eq, upd]
  by_cases a : j = 3
  · simp [a]
  · by_cases b : j = 4
    · simp [b]
    · by_cases c : j = 1
      · simp [c]
      · by_cases d : j = 5
        · simp [d]
        · simp [a, b, c, d]
theorem rt_let {M : Mem} (hs : ¬ tL M ≤ sM M) (hl : ltP (M 2 (sM M))) : updM (updM (updM (updM M 1 1 (nI (sM M))) 1 4 (nI (sM M))) 1 3 1) 1 1 (nI (rnE ltB (M 2) (tL M - sM M) (sM M))) = rt M := by
  rw [rt, show kM M = 1 from by unfold kM tkK; rw [if_neg hs, if_pos hl], show vM M = M 1 5 from by unfold vM tkV; rw [if_neg hs, if_pos hl], show eM M = rnE ltB (M 2) (tL M - sM M) (sM M) from by unfold eM tkE; rw [if_neg hs, if_pos hl]]
  refine mem_ext 1 (fun q h => by rw [rtG_ne h, updM_ne h, updM_ne h, updM_ne h, updM_ne h]) (fun j => ?_)
  rw [rtG_j]
  simp only [updM_eq, upd]
  by_cases a : j = 3
  · simp [a]
  · by_cases b : j = 4
    · simp [b]
    · by_cases c : j = 1
      · simp [c]
      · by_cases d : j = 5
        · simp [d]
        · simp [a, b, c, d]
theorem rt_num {M : Mem} (hs : ¬ tL M ≤ sM M) (hl : ¬ ltP (M 2 (sM M))) (hf : fgP (M 2 (sM M))) : updM (updM (updM (updM (updM M 1 1 (nI (sM M))) 1 4 (nI (sM M))) 1 5 (nmE (M 2) (tL M - sM M) (sM M) 0).2) 1 1 (nI (nmE (M 2) (tL M - sM M) (sM M) 0).1)) 1 3 (if nI (nmE (M 2) (tL M - sM M) (sM M) 0).1 - nI (sM M) ≤ 3 then 2 else 0) = rt M := by
  rw [rt, show kM M = (if nI (nmE (M 2) (tL M - sM M) (sM M) 0).1 - nI (sM M) ≤ 3 then 2 else 0) from by unfold kM tkK; rw [if_neg hs, if_neg hl, if_pos hf], show vM M = (nmE (M 2) (tL M - sM M) (sM M) 0).2 from by unfold vM tkV; rw [if_neg hs, if_neg hl, if_pos hf], show eM M = (nmE (M 2) (tL M - sM M) (sM M) 0).1 from by unfold eM tkE; rw [if_neg hs, if_neg hl, if_pos hf]]
  refine mem_ext 1 (fun q h => by rw [rtG_ne h, updM_ne h, updM_ne h, updM_ne h, updM_ne h, updM_ne h]) (fun j => ?_)
  rw [rtG_j]
  simp only [updM_eq, upd]
  by_cases a : j = 3
  · simp [a]
  · by_cases b : j = 4
    · simp [b]
    · by_cases c : j = 1
      · simp [c]
      · by_cases d : j = 5
        · simp [d]
        · simp [a, b, c, d]
theorem rt_oth {M : Mem} {k : Int32} (hs : ¬ tL M ≤ sM M) (hl : ¬ ltP (M 2 (sM M))) (hf : ¬ fgP (M 2 (sM M))) (hk : k = if M 2 (sM M) = 59 then 3 else 0) : updM (updM (updM (updM M 1 1 (nI (sM M))) 1 4 (nI (sM M))) 1 3 k) 1 1 (nI (sM M) + 1) = rt M := by
  rw [rt, show kM M = k from by unfold kM tkK; rw [if_neg hs, if_neg hl, if_neg hf, hk], show vM M = M 1 5 from by unfold vM tkV; rw [if_neg hs, if_neg hl, if_neg hf], show eM M = sM M + 1 from by unfold eM tkE; rw [if_neg hs, if_neg hl, if_neg hf], nI_succ]
  refine mem_ext 1 (fun q h => by rw [rtG_ne h, updM_ne h, updM_ne h, updM_ne h, updM_ne h]) (fun j => ?_)
  rw [rtG_j]
  simp only [updM_eq, upd]
  by_cases a : j = 3
  · simp [a]
  · by_cases b : j = 4
    · simp [b]
    · by_cases c : j = 1
      · simp [c]
      · by_cases d : j = 5
        · simp [d]
        · simp [a, b, c, d]
set_option maxRecDepth 100000 in
set_option maxHeartbeats 4000000 in
theorem sem_X5_readToken {M : Mem} (h : TI M) : Sem mX5_readToken SH [.ref 1] M (PD SH none (rt M)) := by
  refine Sem_of rfl (fun G => (Nat.le_of_ble_eq_true rfl)) (fun G => ?_)
  obtain ⟨hi, hL, hiL, h320⟩ := h
  have hsb := sM_b ⟨hi, hL, hiL, h320⟩
  refine Bd_cM ?_ (updM_id (M := M) (k := 1) (j := 1) (v := nI (tI M)) hi)
  refine Bd_wh (pc := 0) (σ := Nat) (fun x => tI M ≤ x ∧ x ≤ tL M ∧ rnE spB (M 2) (tL M - x) x = rnE spB (M 2) (tL M - tI M) (tI M)) (fun x => tL M - x) (fun _ => [some (.ref 1)]) (fun x => (updM M 1 1 (nI x))) (fun x hx ih => ?_) (tI M) ⟨Nat.le_refl _, hiL, rfl⟩
  obtain ⟨h0, h1, he⟩ := hx
  rcases Nat.lt_or_ge x (tL M) with hx | hx2
  · refine Bd_aload_0 (pc := 0) dX5_readToken_0 ?_
    refine Bd_getI (j := 1) ck5 (pc := 1) dX5_readToken_1 k_32 rfl (Nat.le_of_ble_eq_true rfl) rfl ?_
    refine Bd_aload_0 (pc := 4) dX5_readToken_4 ?_
    refine Bd_getI (j := 2) ck5 (pc := 5) dX5_readToken_5 k_33 rfl (Nat.le_of_ble_eq_true rfl) rfl ?_
    refine Bd_icmp_ge (t := 38) (pc := 8) dX5_readToken_8 (by decide) (fun b8 => (show False from lf_s (show (updM M 1 1 (nI x)) 1 2 = nI (tL M) from hL) (by omega) hx b8).elim) (fun b8 => ?_)
    refine Bd_aload_0 (pc := 11) dX5_readToken_11 ?_
    refine Bd_getR (j := 0) ck5 (pc := 12) dX5_readToken_12 k_31 rfl (Nat.le_of_ble_eq_true rfl) rfl ?_
    refine Bd_aload_0 (pc := 15) dX5_readToken_15 ?_
    refine Bd_getI (j := 1) ck5 (pc := 16) dX5_readToken_16 k_32 rfl (Nat.le_of_ble_eq_true rfl) rfl ?_
    refine Bd_baldc (j := x) (nI_clamp (by omega)) (pc := 19) dX5_readToken_19 rfl (vpi (by omega) (by omega)) ?_
    refine Bd_bipush (v := 32) (pc := 20) dX5_readToken_20 (by decide) ?_
    refine Bd_icmp_ne (t := 38) (pc := 22) dX5_readToken_22 (by decide) (fun b22 => ?_) (fun b22 => ?_)
    · have ex : x = sM M := by
        show x = rnE spB (M 2) (tL M - tI M) (tI M)
        rw [← he, rnE_s hx, if_neg (show ¬ spB (M 2 x) = true from fun z => b22 (of_decide_eq_true z))]
      subst ex
      refine Bd_aload_0 (pc := 38) dX5_readToken_38 ?_
      refine Bd_aload_0 (pc := 39) dX5_readToken_39 ?_
      refine Bd_getI (j := 1) ck5 (pc := 40) dX5_readToken_40 k_32 rfl (Nat.le_of_ble_eq_true rfl) rfl ?_
      refine Bd_putI (j := 4) (ty := .int) ck5 (pc := 43) dX5_readToken_43 k_39 rfl (Nat.le_of_ble_eq_true rfl) rfl rfl pfI rfl rfl ?_
      refine Bd_aload_0 (pc := 46) dX5_readToken_46 ?_
      refine Bd_getI (j := 1) ck5 (pc := 47) dX5_readToken_47 k_32 rfl (Nat.le_of_ble_eq_true rfl) rfl ?_
      refine Bd_aload_0 (pc := 50) dX5_readToken_50 ?_
      refine Bd_getI (j := 2) ck5 (pc := 51) dX5_readToken_51 k_33 rfl (Nat.le_of_ble_eq_true rfl) rfl ?_
      refine Bd_icmp_lt (t := 65) (pc := 54) dX5_readToken_54 (by decide) (fun b54 => ?_) (fun b54 => ?_)
      · have hs : ¬ tL M ≤ sM M := fun z => by
          have b : nI (sM M) < M 1 2 := b54
          rw [hL] at b
          exact nI_nlt z (by omega) b
        refine Bd_aload_0 (pc := 65) dX5_readToken_65 ?_
        refine Bd_getR (j := 0) ck5 (pc := 66) dX5_readToken_66 k_31 rfl (Nat.le_of_ble_eq_true rfl) rfl ?_
        refine Bd_aload_0 (pc := 69) dX5_readToken_69 ?_
        refine Bd_getI (j := 1) ck5 (pc := 70) dX5_readToken_70 k_32 rfl (Nat.le_of_ble_eq_true rfl) rfl ?_
        refine Bd_baldc (j := sM M) (nI_clamp (by omega)) (pc := 73) dX5_readToken_73 rfl (vpi (by omega) (by omega)) ?_
        refine Bd_callS1i (cd := mX5_isLetter) (pc := 74) dX5_readToken_74 k_301 v_X5_isLetter ⟨(Nat.le_of_ble_eq_true rfl), (Nat.le_of_ble_eq_true rfl)⟩ sem_X5_isLetter (Nat.le_of_ble_eq_true rfl) ?_
        refine Bd_if_eq (t := 87) (pc := 77) dX5_readToken_77 (by decide) (fun b77 => ?_) (fun b77 => ?_)
        · refine Bd_aload_0 (pc := 87) dX5_readToken_87 ?_
          refine Bd_getR (j := 0) ck5 (pc := 88) dX5_readToken_88 k_31 rfl (Nat.le_of_ble_eq_true rfl) rfl ?_
          refine Bd_aload_0 (pc := 91) dX5_readToken_91 ?_
          refine Bd_getI (j := 1) ck5 (pc := 92) dX5_readToken_92 k_32 rfl (Nat.le_of_ble_eq_true rfl) rfl ?_
          refine Bd_baldc (j := sM M) (nI_clamp (by omega)) (pc := 95) dX5_readToken_95 rfl (vpi (by omega) (by omega)) ?_
          refine Bd_callS1i (cd := mX5_isFigure) (pc := 96) dX5_readToken_96 k_308 v_X5_isFigure ⟨(Nat.le_of_ble_eq_true rfl), (Nat.le_of_ble_eq_true rfl)⟩ sem_X5_isFigure (Nat.le_of_ble_eq_true rfl) ?_
          refine Bd_if_eq (t := 109) (pc := 99) dX5_readToken_99 (by decide) (fun b99 => ?_) (fun b99 => ?_)
          · refine Bd_aload_0 (pc := 109) dX5_readToken_109 ?_
            refine Bd_aload_0 (pc := 110) dX5_readToken_110 ?_
            refine Bd_getR (j := 0) ck5 (pc := 111) dX5_readToken_111 k_31 rfl (Nat.le_of_ble_eq_true rfl) rfl ?_
            refine Bd_aload_0 (pc := 114) dX5_readToken_114 ?_
            refine Bd_getI (j := 1) ck5 (pc := 115) dX5_readToken_115 k_32 rfl (Nat.le_of_ble_eq_true rfl) rfl ?_
            refine Bd_baldc (j := sM M) (nI_clamp (by omega)) (pc := 118) dX5_readToken_118 rfl (vpi (by omega) (by omega)) ?_
            refine Bd_bipush (v := 59) (pc := 119) dX5_readToken_119 (by decide) ?_
            refine Bd_icmp_ne (t := 128) (pc := 121) dX5_readToken_121 (by decide) (fun b121 => ?_) (fun b121 => ?_)
            · refine Bd_iconst (v := 0) (pc := 128) dX5_readToken_128 (by decide) ?_
              refine Bd_putI (j := 3) (ty := .int) ck5 (pc := 129) dX5_readToken_129 k_37 rfl (Nat.le_of_ble_eq_true rfl) rfl rfl pfI rfl rfl ?_
              refine Bd_aload_0 (pc := 132) dX5_readToken_132 ?_
              refine Bd_dup (pc := 133) dX5_readToken_133 rfl ?_
              refine Bd_getI (j := 1) ck5 (pc := 134) dX5_readToken_134 k_32 rfl (Nat.le_of_ble_eq_true rfl) rfl ?_
              refine Bd_iconst (v := 1) (pc := 137) dX5_readToken_137 (by decide) ?_
              refine Bd_iadd (pc := 138) dX5_readToken_138 ?_
              refine Bd_putI (j := 1) (ty := .int) ck5 (pc := 139) dX5_readToken_139 k_32 rfl (Nat.le_of_ble_eq_true rfl) rfl rfl pfI rfl rfl ?_
              refine Bd_vret (pc := 142) dX5_readToken_142 rfl ?_
              exact PD_v (rt_oth hs (b2_0.mp b77) (b2_0.mp b99) (by rw [if_neg (show ¬ M 2 (sM M) = 59 from b121)]))
            · refine Bd_iconst (v := 3) (pc := 124) dX5_readToken_124 (by decide) ?_
              refine Bd_goto (t := 129) (pc := 125) dX5_readToken_125 (by decide) ?_
              refine Bd_putI (j := 3) (ty := .int) ck5 (pc := 129) dX5_readToken_129 k_37 rfl (Nat.le_of_ble_eq_true rfl) rfl rfl pfI rfl rfl ?_
              refine Bd_aload_0 (pc := 132) dX5_readToken_132 ?_
              refine Bd_dup (pc := 133) dX5_readToken_133 rfl ?_
              refine Bd_getI (j := 1) ck5 (pc := 134) dX5_readToken_134 k_32 rfl (Nat.le_of_ble_eq_true rfl) rfl ?_
              refine Bd_iconst (v := 1) (pc := 137) dX5_readToken_137 (by decide) ?_
              refine Bd_iadd (pc := 138) dX5_readToken_138 ?_
              refine Bd_putI (j := 1) (ty := .int) ck5 (pc := 139) dX5_readToken_139 k_32 rfl (Nat.le_of_ble_eq_true rfl) rfl rfl pfI rfl rfl ?_
              refine Bd_vret (pc := 142) dX5_readToken_142 rfl ?_
              exact PD_v (rt_oth hs (b2_0.mp b77) (b2_0.mp b99) (by rw [if_pos (show  M 2 (sM M) = 59 from b121)]))
          · refine Bd_aload_0 (pc := 102) dX5_readToken_102 ?_
            refine Bd_callV0v (cd := mX5_readNumber) (pc := 103) dX5_readToken_103 k_311 v_X5_readNumber ⟨(Nat.le_of_ble_eq_true rfl), (Nat.le_of_ble_eq_true rfl)⟩ rfl rfl (sem_X5_readNumber (i := sM M) (L := tL M) rfl hL (by omega) h320) (Nat.le_of_ble_eq_true rfl) ?_
            refine Bd_goto (t := 142) (pc := 106) dX5_readToken_106 (by decide) ?_
            refine Bd_vret (pc := 142) dX5_readToken_142 rfl ?_
            exact PD_v (rt_num hs (b2_0.mp b77) (b2_n.mp b99))
        · refine Bd_aload_0 (pc := 80) dX5_readToken_80 ?_
          refine Bd_callV0v (cd := mX5_readName) (pc := 81) dX5_readToken_81 k_304 v_X5_readName ⟨(Nat.le_of_ble_eq_true rfl), (Nat.le_of_ble_eq_true rfl)⟩ rfl rfl (sem_X5_readName (i := sM M) (L := tL M) rfl hL (by omega) h320) (Nat.le_of_ble_eq_true rfl) ?_
          refine Bd_goto (t := 142) (pc := 84) dX5_readToken_84 (by decide) ?_
          refine Bd_vret (pc := 142) dX5_readToken_142 rfl ?_
          exact PD_v (rt_let hs (b2_n.mp b77))
      · have hs : tL M ≤ sM M := by
          refine Nat.not_lt.mp (fun z => b54 ?_)
          show nI (sM M) < M 1 2
          rw [hL]
          exact nI_lt z (by omega)
        refine Bd_aload_0 (pc := 57) dX5_readToken_57 ?_
        refine Bd_iconst (v := 4) (pc := 58) dX5_readToken_58 (by decide) ?_
        refine Bd_putI (j := 3) (ty := .int) ck5 (pc := 59) dX5_readToken_59 k_37 rfl (Nat.le_of_ble_eq_true rfl) rfl rfl pfI rfl rfl ?_
        refine Bd_goto (t := 142) (pc := 62) dX5_readToken_62 (by decide) ?_
        refine Bd_vret (pc := 142) dX5_readToken_142 rfl ?_
        exact PD_v (rt_end hs)
    · refine Bd_aload_0 (pc := 25) dX5_readToken_25 ?_
      refine Bd_dup (pc := 26) dX5_readToken_26 rfl ?_
      refine Bd_getI (j := 1) ck5 (pc := 27) dX5_readToken_27 k_32 rfl (Nat.le_of_ble_eq_true rfl) rfl ?_
      refine Bd_iconst (v := 1) (pc := 30) dX5_readToken_30 (by decide) ?_
      refine Bd_iadd (pc := 31) dX5_readToken_31 ?_
      refine Bd_putI (j := 1) (ty := .int) ck5 (pc := 32) dX5_readToken_32 k_32 rfl (Nat.le_of_ble_eq_true rfl) rfl rfl pfI rfl rfl ?_
      refine Bd_goto (t := 0) (pc := 35) dX5_readToken_35 (by decide) ?_
      refine Bd_cM (ih (x + 1) ⟨by omega, hx, by rw [← he, rnE_s hx, if_pos (show spB (M 2 x) = true from decide_eq_true b22)]⟩ (by omega)) ?_
      show updM M 1 1 (nI (x + 1)) = updM (updM M 1 1 (nI x)) 1 1 (nI x + 1)
      rw [updM_tw, nI_succ]
  · have em : tL M = x := by omega
    have hL2 : M 1 2 = nI x := by rw [← em]; exact hL
    refine Bd_aload_0 (pc := 0) dX5_readToken_0 ?_
    refine Bd_getI (j := 1) ck5 (pc := 1) dX5_readToken_1 k_32 rfl (Nat.le_of_ble_eq_true rfl) rfl ?_
    refine Bd_aload_0 (pc := 4) dX5_readToken_4 ?_
    refine Bd_getI (j := 2) ck5 (pc := 5) dX5_readToken_5 k_33 rfl (Nat.le_of_ble_eq_true rfl) rfl ?_
    refine Bd_icmp_ge (t := 38) (pc := 8) dX5_readToken_8 (by decide) (fun b8 => ?_) (fun b8 => (show False from lf_x (show (updM M 1 1 (nI x)) 1 2 = nI x from hL2) b8).elim)
    have ex : x = sM M := by
      show x = rnE spB (M 2) (tL M - tI M) (tI M)
      rw [← he, em, Nat.sub_self]; rfl
    subst ex
    refine Bd_aload_0 (pc := 38) dX5_readToken_38 ?_
    refine Bd_aload_0 (pc := 39) dX5_readToken_39 ?_
    refine Bd_getI (j := 1) ck5 (pc := 40) dX5_readToken_40 k_32 rfl (Nat.le_of_ble_eq_true rfl) rfl ?_
    refine Bd_putI (j := 4) (ty := .int) ck5 (pc := 43) dX5_readToken_43 k_39 rfl (Nat.le_of_ble_eq_true rfl) rfl rfl pfI rfl rfl ?_
    refine Bd_aload_0 (pc := 46) dX5_readToken_46 ?_
    refine Bd_getI (j := 1) ck5 (pc := 47) dX5_readToken_47 k_32 rfl (Nat.le_of_ble_eq_true rfl) rfl ?_
    refine Bd_aload_0 (pc := 50) dX5_readToken_50 ?_
    refine Bd_getI (j := 2) ck5 (pc := 51) dX5_readToken_51 k_33 rfl (Nat.le_of_ble_eq_true rfl) rfl ?_
    refine Bd_icmp_lt (t := 65) (pc := 54) dX5_readToken_54 (by decide) (fun b54 => ?_) (fun b54 => ?_)
    · have hs : ¬ tL M ≤ sM M := fun z => by
        have b : nI (sM M) < M 1 2 := b54
        rw [hL] at b
        exact nI_nlt z (by omega) b
      refine Bd_aload_0 (pc := 65) dX5_readToken_65 ?_
      refine Bd_getR (j := 0) ck5 (pc := 66) dX5_readToken_66 k_31 rfl (Nat.le_of_ble_eq_true rfl) rfl ?_
      refine Bd_aload_0 (pc := 69) dX5_readToken_69 ?_
      refine Bd_getI (j := 1) ck5 (pc := 70) dX5_readToken_70 k_32 rfl (Nat.le_of_ble_eq_true rfl) rfl ?_
      refine Bd_baldc (j := sM M) (nI_clamp (by omega)) (pc := 73) dX5_readToken_73 rfl (vpi (by omega) (by omega)) ?_
      refine Bd_callS1i (cd := mX5_isLetter) (pc := 74) dX5_readToken_74 k_301 v_X5_isLetter ⟨(Nat.le_of_ble_eq_true rfl), (Nat.le_of_ble_eq_true rfl)⟩ sem_X5_isLetter (Nat.le_of_ble_eq_true rfl) ?_
      refine Bd_if_eq (t := 87) (pc := 77) dX5_readToken_77 (by decide) (fun b77 => ?_) (fun b77 => ?_)
      · refine Bd_aload_0 (pc := 87) dX5_readToken_87 ?_
        refine Bd_getR (j := 0) ck5 (pc := 88) dX5_readToken_88 k_31 rfl (Nat.le_of_ble_eq_true rfl) rfl ?_
        refine Bd_aload_0 (pc := 91) dX5_readToken_91 ?_
        refine Bd_getI (j := 1) ck5 (pc := 92) dX5_readToken_92 k_32 rfl (Nat.le_of_ble_eq_true rfl) rfl ?_
        refine Bd_baldc (j := sM M) (nI_clamp (by omega)) (pc := 95) dX5_readToken_95 rfl (vpi (by omega) (by omega)) ?_
        refine Bd_callS1i (cd := mX5_isFigure) (pc := 96) dX5_readToken_96 k_308 v_X5_isFigure ⟨(Nat.le_of_ble_eq_true rfl), (Nat.le_of_ble_eq_true rfl)⟩ sem_X5_isFigure (Nat.le_of_ble_eq_true rfl) ?_
        refine Bd_if_eq (t := 109) (pc := 99) dX5_readToken_99 (by decide) (fun b99 => ?_) (fun b99 => ?_)
        · refine Bd_aload_0 (pc := 109) dX5_readToken_109 ?_
          refine Bd_aload_0 (pc := 110) dX5_readToken_110 ?_
          refine Bd_getR (j := 0) ck5 (pc := 111) dX5_readToken_111 k_31 rfl (Nat.le_of_ble_eq_true rfl) rfl ?_
          refine Bd_aload_0 (pc := 114) dX5_readToken_114 ?_
          refine Bd_getI (j := 1) ck5 (pc := 115) dX5_readToken_115 k_32 rfl (Nat.le_of_ble_eq_true rfl) rfl ?_
          refine Bd_baldc (j := sM M) (nI_clamp (by omega)) (pc := 118) dX5_readToken_118 rfl (vpi (by omega) (by omega)) ?_
          refine Bd_bipush (v := 59) (pc := 119) dX5_readToken_119 (by decide) ?_
          refine Bd_icmp_ne (t := 128) (pc := 121) dX5_readToken_121 (by decide) (fun b121 => ?_) (fun b121 => ?_)
          · refine Bd_iconst (v := 0) (pc := 128) dX5_readToken_128 (by decide) ?_
            refine Bd_putI (j := 3) (ty := .int) ck5 (pc := 129) dX5_readToken_129 k_37 rfl (Nat.le_of_ble_eq_true rfl) rfl rfl pfI rfl rfl ?_
            refine Bd_aload_0 (pc := 132) dX5_readToken_132 ?_
            refine Bd_dup (pc := 133) dX5_readToken_133 rfl ?_
            refine Bd_getI (j := 1) ck5 (pc := 134) dX5_readToken_134 k_32 rfl (Nat.le_of_ble_eq_true rfl) rfl ?_
            refine Bd_iconst (v := 1) (pc := 137) dX5_readToken_137 (by decide) ?_
            refine Bd_iadd (pc := 138) dX5_readToken_138 ?_
            refine Bd_putI (j := 1) (ty := .int) ck5 (pc := 139) dX5_readToken_139 k_32 rfl (Nat.le_of_ble_eq_true rfl) rfl rfl pfI rfl rfl ?_
            refine Bd_vret (pc := 142) dX5_readToken_142 rfl ?_
            exact PD_v (rt_oth hs (b2_0.mp b77) (b2_0.mp b99) (by rw [if_neg (show ¬ M 2 (sM M) = 59 from b121)]))
          · refine Bd_iconst (v := 3) (pc := 124) dX5_readToken_124 (by decide) ?_
            refine Bd_goto (t := 129) (pc := 125) dX5_readToken_125 (by decide) ?_
            refine Bd_putI (j := 3) (ty := .int) ck5 (pc := 129) dX5_readToken_129 k_37 rfl (Nat.le_of_ble_eq_true rfl) rfl rfl pfI rfl rfl ?_
            refine Bd_aload_0 (pc := 132) dX5_readToken_132 ?_
            refine Bd_dup (pc := 133) dX5_readToken_133 rfl ?_
            refine Bd_getI (j := 1) ck5 (pc := 134) dX5_readToken_134 k_32 rfl (Nat.le_of_ble_eq_true rfl) rfl ?_
            refine Bd_iconst (v := 1) (pc := 137) dX5_readToken_137 (by decide) ?_
            refine Bd_iadd (pc := 138) dX5_readToken_138 ?_
            refine Bd_putI (j := 1) (ty := .int) ck5 (pc := 139) dX5_readToken_139 k_32 rfl (Nat.le_of_ble_eq_true rfl) rfl rfl pfI rfl rfl ?_
            refine Bd_vret (pc := 142) dX5_readToken_142 rfl ?_
            exact PD_v (rt_oth hs (b2_0.mp b77) (b2_0.mp b99) (by rw [if_pos (show  M 2 (sM M) = 59 from b121)]))
        · refine Bd_aload_0 (pc := 102) dX5_readToken_102 ?_
          refine Bd_callV0v (cd := mX5_readNumber) (pc := 103) dX5_readToken_103 k_311 v_X5_readNumber ⟨(Nat.le_of_ble_eq_true rfl), (Nat.le_of_ble_eq_true rfl)⟩ rfl rfl (sem_X5_readNumber (i := sM M) (L := tL M) rfl hL (by omega) h320) (Nat.le_of_ble_eq_true rfl) ?_
          refine Bd_goto (t := 142) (pc := 106) dX5_readToken_106 (by decide) ?_
          refine Bd_vret (pc := 142) dX5_readToken_142 rfl ?_
          exact PD_v (rt_num hs (b2_0.mp b77) (b2_n.mp b99))
      · refine Bd_aload_0 (pc := 80) dX5_readToken_80 ?_
        refine Bd_callV0v (cd := mX5_readName) (pc := 81) dX5_readToken_81 k_304 v_X5_readName ⟨(Nat.le_of_ble_eq_true rfl), (Nat.le_of_ble_eq_true rfl)⟩ rfl rfl (sem_X5_readName (i := sM M) (L := tL M) rfl hL (by omega) h320) (Nat.le_of_ble_eq_true rfl) ?_
        refine Bd_goto (t := 142) (pc := 84) dX5_readToken_84 (by decide) ?_
        refine Bd_vret (pc := 142) dX5_readToken_142 rfl ?_
        exact PD_v (rt_let hs (b2_n.mp b77))
    · have hs : tL M ≤ sM M := by
        refine Nat.not_lt.mp (fun z => b54 ?_)
        show nI (sM M) < M 1 2
        rw [hL]
        exact nI_lt z (by omega)
      refine Bd_aload_0 (pc := 57) dX5_readToken_57 ?_
      refine Bd_iconst (v := 4) (pc := 58) dX5_readToken_58 (by decide) ?_
      refine Bd_putI (j := 3) (ty := .int) ck5 (pc := 59) dX5_readToken_59 k_37 rfl (Nat.le_of_ble_eq_true rfl) rfl rfl pfI rfl rfl ?_
      refine Bd_goto (t := 142) (pc := 62) dX5_readToken_62 (by decide) ?_
      refine Bd_vret (pc := 142) dX5_readToken_142 rfl ?_
      exact PD_v (rt_end hs)
