/-! 76: land: a line, a text -/
def ntab (n : Nat) : Nat := [2, 1, 1, 2, 3, 2, 2].getD n 0
theorem ntab_e : ∀ n, n < 7 → tabN.getD n 0 = nI (ntab n) ∧ ntab n ≤ 3 ∧ 0 < ntab n := by decide
def tnR (M : Mem) (n : Nat) : Nat → Nat → Bool × Mem
  | 0, _ => (true, M)
  | c + 1, k => if tnQ M n k then tnR (tnM M n k) n c (k + 1) else (false, tnM M n k)
def seM (M : Mem) (n : Nat) : Mem := if n ≤ 3 then updM M 3 1 (M 3 1 ||| (1 <<< (nI n &&& 31))) else M
def tlR (M : Mem) (n : Nat) : Int32 × Mem := if (tnR M n (ntab n) 0).1 = true then (if rt (tnR M n (ntab n) 0).2 1 3 = 3 then (1, wrM (seM (rt (tnR M n (ntab n) 0).2) n) n) else (0, mpM (rt (tnR M n (ntab n) 0).2))) else (0, (tnR M n (ntab n) 0).2)
def tlX (M : Mem) : Int32 × Mem := if lnF M < 0 then (0, mpM M) else if ¬ (M 3 1 >>> (lnF M &&& 31)) &&& 1 = 0 then (0, rf M 4 (M 1 4)) else if fuP M (cn (lnF M)) then (0, rf M 5 (M 1 4)) else tlR M (cn (lnF M))
theorem tlX_a {M : Mem} (h : lnF M < 0) : tlX M = (0, mpM M) := by unfold tlX; rw [if_pos h]
theorem tlX_b {M : Mem} (h : ¬ lnF M < 0) (h2 : ¬ (M 3 1 >>> (lnF M &&& 31)) &&& 1 = 0) : tlX M = (0, rf M 4 (M 1 4)) := by unfold tlX; rw [if_neg h, if_pos h2]
theorem tlX_c {M : Mem} (h : ¬ lnF M < 0) (h2 : (M 3 1 >>> (lnF M &&& 31)) &&& 1 = 0) (h3 : fuP M (cn (lnF M))) : tlX M = (0, rf M 5 (M 1 4)) := by unfold tlX; rw [if_neg h, if_neg (fun z => z h2), if_pos h3]
theorem tlX_d {M : Mem} (h : ¬ lnF M < 0) (h2 : (M 3 1 >>> (lnF M &&& 31)) &&& 1 = 0) (h3 : ¬ fuP M (cn (lnF M))) : tlX M = tlR M (cn (lnF M)) := by unfold tlX; rw [if_neg h, if_neg (fun z => z h2), if_neg h3]
theorem tlR_f {M N : Mem} {n : Nat} (h : tnR M n (ntab n) 0 = (false, N)) : tlR M n = (0, N) := by unfold tlR; rw [h]; rfl
theorem tlR_m {M N : Mem} {n : Nat} (h : tnR M n (ntab n) 0 = (true, N)) (h3 : ¬ rt N 1 3 = 3) : tlR M n = (0, mpM (rt N)) := by unfold tlR; rw [h]; rw [if_pos rfl, if_neg h3]
theorem tlR_t {M N : Mem} {n : Nat} (h : tnR M n (ntab n) 0 = (true, N)) (h3 : rt N 1 3 = 3) : tlR M n = (1, wrM (seM (rt N) n) n) := by unfold tlR; rw [h]; rw [if_pos rfl, if_pos h3]
def teR : Nat → Nat → Mem → Int32 × Mem
  | 0, _, M => (-10 - M 1 2, rf M 2 (M 1 2))
  | c + 1, n, M => if rt M 1 3 = 4 then (if dsP (rt M) then (nI n, rt M) else (-10 - rt M 1 2, rf (rt M) 6 (rt M 1 2))) else if (tlX (rt M)).1 = 0 then (-10 - (tlX (rt M)).2 3 2, (tlX (rt M)).2) else teR c (n + 1) (tlX (rt M)).2
def te0 (M : Mem) : Mem := updM (updM (updM M 3 3 0) 3 1 0) 1 1 0
def te (M : Mem) : Int32 × Mem := teR 321 0 (te0 M)
/-- what a step keeps -/
theorem cn_nI {n : Nat} (h : n < 2 ^ 31) : cn (nI n) = n := nI_clamp h
theorem TI_c {M N : Mem} (h : TI M) (e : N 1 = M 1) : TI N := by unfold TI tI tL at *; rw [e]; exact h
theorem DI_c {M N : Mem} (h : DI M) (e : N 51 = M 51) : DI N := by unfold DI at *; rw [e]; exact h
theorem rf_ne {M : Mem} {c p : Int32} {q : Nat} (h : q ≠ 3) : rf M c p q = M q := by unfold rf; rw [updM_ne h, updM_ne h]
theorem mpM_ne {M : Mem} {q : Nat} (h : q ≠ 3) : mpM M q = M q := rf_ne h
theorem rf_k {M : Mem} {c p : Int32} (h : TI M) (hD : DI M) : TI (rf M c p) ∧ DI (rf M c p) := ⟨TI_c h (rf_ne (by decide)), DI_c hD (rf_ne (by decide))⟩
theorem mp_k {M : Mem} (h : TI M) (hD : DI M) : TI (mpM M) ∧ DI (mpM M) := rf_k h hD
theorem tnM_ne {M : Mem} {n k q : Nat} (h3 : q ≠ 3) (h4 : q ≠ 4) : tnM M n k q = rt M q := by
  unfold tnM
  split
  · split
    · rw [updM_ne h4]
    · rw [rf_ne h3]
  · rw [mpM_ne h3]
theorem tnM_TI {M : Mem} {n k : Nat} (h : TI M) : TI (tnM M n k) := TI_c (rt_TI h) (tnM_ne (by decide) (by decide))
theorem tnM_51 {M : Mem} {n k q : Nat} (h1 : q ≠ 1) (h3 : q ≠ 3) (h4 : q ≠ 4) : tnM M n k q = M q := by rw [tnM_ne h3 h4, rt_ne h1]
theorem tnR_TI {n : Nat} : ∀ (c k : Nat) (M : Mem), TI M → TI (tnR M n c k).2
  | 0, _, _, h => h
  | c + 1, k, M, h => by
    unfold tnR
    split
    · exact tnR_TI c (k + 1) _ (tnM_TI h)
    · exact tnM_TI h
theorem tnR_ne {n q : Nat} (h1 : q ≠ 1) (h3 : q ≠ 3) (h4 : q ≠ 4) : ∀ (c k : Nat) (M : Mem), (tnR M n c k).2 q = M q
  | 0, _, _ => rfl
  | c + 1, k, M => by
    unfold tnR
    split
    · rw [tnR_ne h1 h3 h4 c (k + 1) _, tnM_51 h1 h3 h4]
    · exact tnM_51 h1 h3 h4
theorem seM_ne {M : Mem} {n q : Nat} (h : q ≠ 3) : seM M n q = M q := by
  unfold seM
  split
  · rw [updM_ne h]
  · rfl
theorem wrM_lo {M : Mem} {q : Nat} (hq : q < 51) : ∀ n, wrM M n q = M q
  | 0 => by simp only [wrM]; rw [updM_ne (by omega), updM_ne (by omega)]
  | 1 => by simp only [wrM]; rw [updM_ne (by omega)]
  | 2 => by simp only [wrM]; rw [updM_ne (by omega)]
  | 3 => by simp only [wrM]; rw [updM_ne (by omega), updM_ne (by omega)]
  | 4 => by simp only [wrM, atD]; rw [updM_ne (by omega), updM_ne (by omega), updM_ne (by omega)]
  | 5 => by simp only [wrM, ahD]; rw [updM_ne (by omega), updM_ne (by omega)]
  | _ + 6 => by simp only [wrM, anD]; rw [updM_ne (by omega), updM_ne (by omega), updM_ne (by omega)]
theorem nfu {M : Mem} {n : Nat} (hD : DI M) (h : ¬ fuP M n) : (n = 4 → cn (M 51 6) < 6) ∧ (n = 5 → cn (M 51 7) < 3) ∧ (n = 6 → cn (M 51 8) < 12) := by
  refine ⟨fun z => Nat.not_le.mp fun q => h (Or.inl ⟨z, ?_⟩), fun z => Nat.not_le.mp fun q => h (Or.inr (Or.inl ⟨z, ?_⟩)), fun z => Nat.not_le.mp fun q => h (Or.inr (Or.inr ⟨z, ?_⟩))⟩
  · rw [hD.1.1]; exact nI_le (a := 6) q (by have := hD.1.2; omega)
  · rw [hD.2.1.1]; exact nI_le (a := 3) q (by have := hD.2.1.2; omega)
  · rw [hD.2.2.1]; exact nI_le (a := 12) q (by have := hD.2.2.2; omega)
theorem wrM_DI {M : Mem} {n : Nat} (hn : n < 7) (hD : DI M) (hf4 : n = 4 → cn (M 51 6) < 6) (hf5 : n = 5 → cn (M 51 7) < 3) (hf6 : n = 6 → cn (M 51 8) < 12) : DI (wrM M n) := by
  match n, hn with
  | 0, _ => exact DI_c hD (by simp only [wrM]; rw [updM_ne (by omega), updM_ne (by omega)])
  | 1, _ => exact DI_c hD (by simp only [wrM]; rw [updM_ne (by omega)])
  | 2, _ => exact DI_c hD (by simp only [wrM]; rw [updM_ne (by omega)])
  | 3, _ => exact DI_c hD (by simp only [wrM]; rw [updM_ne (by omega), updM_ne (by omega)])
  | 4, _ =>
    have h := hf4 rfl
    have e6 : wrM M 4 51 6 = nI (cn (M 51 6) + 1) := rfl
    have e7 : wrM M 4 51 7 = M 51 7 := rfl
    have e8 : wrM M 4 51 8 = M 51 8 := rfl
    refine ⟨?_, by rw [e7]; exact hD.2.1, by rw [e8]; exact hD.2.2⟩
    rw [e6, cn_nI (n := cn (M 51 6) + 1) (by omega)]
    exact ⟨rfl, by omega⟩
  | 5, _ =>
    have h := hf5 rfl
    have e6 : wrM M 5 51 6 = M 51 6 := rfl
    have e7 : wrM M 5 51 7 = nI (cn (M 51 7) + 1) := rfl
    have e8 : wrM M 5 51 8 = M 51 8 := rfl
    refine ⟨by rw [e6]; exact hD.1, ?_, by rw [e8]; exact hD.2.2⟩
    rw [e7, cn_nI (n := cn (M 51 7) + 1) (by omega)]
    exact ⟨rfl, by omega⟩
  | 6, _ =>
    have h := hf6 rfl
    have e6 : wrM M 6 51 6 = M 51 6 := rfl
    have e7 : wrM M 6 51 7 = M 51 7 := rfl
    have e8 : wrM M 6 51 8 = nI (cn (M 51 8) + 1) := rfl
    refine ⟨by rw [e6]; exact hD.1, by rw [e7]; exact hD.2.1, ?_⟩
    rw [e8, cn_nI (n := cn (M 51 8) + 1) (by omega)]
    exact ⟨rfl, by omega⟩
theorem lnI_r {p : Nat → Bool} : ∀ k i, lnI p k i = -4 ∨ ∃ n, i ≤ n ∧ n < i + k ∧ lnI p k i = nI n ∧ p n = true
  | 0, i => Or.inl rfl
  | k + 1, i => by
    unfold lnI
    by_cases h : p i = true
    · rw [if_pos h]; exact Or.inr ⟨i, Nat.le_refl _, by omega, rfl, h⟩
    · rw [if_neg h]
      rcases lnI_r (p := p) k (i + 1) with z | ⟨n, h1, h2, h3, h4⟩
      · exact Or.inl z
      · exact Or.inr ⟨n, by omega, by omega, h3, h4⟩
theorem lnF_n {M : Mem} (h : ¬ lnF M < 0) : lnF M = nI (cn (lnF M)) ∧ cn (lnF M) < 7 := by
  rcases lnI_r (p := nmB (M 2) (cn (M 1 4)) (cn (M 1 1)) (M 1 3)) 7 0 with z | ⟨n, h1, h2, h3, h4⟩
  · exact absurd (show lnF M < 0 by rw [show lnF M = -4 from z]; decide) h
  · have e : lnF M = nI n := h3
    have : cn (lnF M) = n := by rw [e]; exact nI_clamp (by omega)
    rw [this]; exact ⟨e, by omega⟩
/-- a token has been read -/
def TK (M : Mem) : Prop := TI M ∧ M 1 4 = nI (cn (M 1 4)) ∧ cn (M 1 4) ≤ tI M
theorem rt_TK {M : Mem} (h : TI M) : TK (rt M) := by
  have h1 := eM_b h
  have h2 := h.2.2.2
  have e : cn (rt M 1 4) = sM M := by rw [rt_4]; exact nI_clamp (by omega)
  refine ⟨rt_TI h, by rw [e]; exact rt_4, ?_⟩
  rw [e, rt_tI h]; exact h1.1
theorem tlR_k {M : Mem} {n : Nat} (hn : n < 7) (h : TI M) (hD : DI M) (hf : ¬ fuP M n) : TI (tlR M n).2 ∧ DI (tlR M n).2 := by
  have hT := tnR_TI (n := n) (ntab n) 0 M h
  have hR : DI (tnR M n (ntab n) 0).2 := DI_c hD (tnR_ne (by decide) (by decide) (by decide) _ _ _)
  unfold tlR
  split
  · split
    · have hD2 : DI (seM (rt (tnR M n (ntab n) 0).2) n) := DI_c hR (by rw [seM_ne (by decide), rt_ne (by decide)])
      have e51 : seM (rt (tnR M n (ntab n) 0).2) n 51 = M 51 := by rw [seM_ne (by decide), rt_ne (by decide), tnR_ne (by decide) (by decide) (by decide)]
      have hg := nfu hD hf
      refine ⟨TI_c (rt_TI hT) ((wrM_lo (q := 1) (by decide) n).trans (seM_ne (by decide))), wrM_DI hn hD2 ?_ ?_ ?_⟩
      · rw [e51]; exact hg.1
      · rw [e51]; exact hg.2.1
      · rw [e51]; exact hg.2.2
    · exact mp_k (rt_TI hT) (DI_c hR (rt_ne (by decide)))
  · exact ⟨hT, hR⟩
theorem tlX_k {M : Mem} (h : TI M) (hD : DI M) : TI (tlX M).2 ∧ DI (tlX M).2 := by
  by_cases a : lnF M < 0
  · rw [tlX_a a]; exact mp_k h hD
  · by_cases b : (M 3 1 >>> (lnF M &&& 31)) &&& 1 = 0
    · by_cases c : fuP M (cn (lnF M))
      · rw [tlX_c a b c]; exact rf_k h hD
      · rw [tlX_d a b c]; exact tlR_k (lnF_n a).2 h hD c
    · rw [tlX_b a b]; exact rf_k h hD
theorem tlR_01 {M : Mem} {n : Nat} : (tlR M n).1 = 0 ∨ (tlR M n).1 = 1 := by
  unfold tlR
  split
  · split
    · exact Or.inr rfl
    · exact Or.inl rfl
  · exact Or.inl rfl
set_option maxRecDepth 100000 in
set_option maxHeartbeats 4000000 in
theorem sem_X6_tellLine {M : Mem} (hK : TK M) (hD : DI M) : Sem mX6_tellLine SH [.ref 3, .ref 1, .ref 51] M (PD SH (some (.int (tlX M).1)) (tlX M).2) := by
  refine Sem_of rfl (fun G => (Nat.le_of_ble_eq_true rfl)) (fun G => ?_)
  refine Bd_aload_1 (pc := 0) dX6_tellLine_0 ?_
  refine Bd_callS1i (cd := mX6_lineOfName) (pc := 1) dX6_tellLine_1 k_334 v_X6_lineOfName ⟨(Nat.le_of_ble_eq_true rfl), (Nat.le_of_ble_eq_true rfl)⟩ (sem_X6_lineOfName hK.2.1 hK.1.1 hK.2.2 (Nat.le_trans hK.1.2.2.1 hK.1.2.2.2)) (Nat.le_of_ble_eq_true rfl) ?_
  refine Bd_istore_3 (pc := 4) dX6_tellLine_4 (Nat.le_of_ble_eq_true rfl) rfl ?_
  refine Bd_iload_3 (pc := 5) dX6_tellLine_5 ?_
  refine Bd_if_ge (t := 15) (pc := 6) dX6_tellLine_6 (by decide) (fun b6 => ?_) (fun b6 => ?_)
  · obtain ⟨n, hln⟩ : ∃ n, cn (lnF M) = n := ⟨_, rfl⟩
    have hn0 := lnF_n (M := M) (Int32.not_lt.mpr b6)
    rw [hln] at hn0
    have hn := hn0.2
    refine Bd_aload_0 (pc := 15) dX6_tellLine_15 ?_
    refine Bd_getI (j := 1) ck6 (pc := 16) dX6_tellLine_16 k_63 rfl (Nat.le_of_ble_eq_true rfl) rfl ?_
    refine Bd_iload_3 (pc := 19) dX6_tellLine_19 ?_
    refine Bd_ishr (pc := 20) dX6_tellLine_20 ?_
    refine Bd_iconst (v := 1) (pc := 21) dX6_tellLine_21 (by decide) ?_
    refine Bd_iand (pc := 22) dX6_tellLine_22 ?_
    refine Bd_if_eq (t := 38) (pc := 23) dX6_tellLine_23 (by decide) (fun b23 => ?_) (fun b23 => ?_)
    · refine Bd_nx (L' := [some (.ref 3), some (.ref 1), some (.ref 51), some (.int (nI n)), none]) ?_ ⟨rfl, rfl, rfl, congrArg (fun z => some (Value.int z)) hn0.1, trivial⟩
      refine Bd_iload_3 (pc := 38) dX6_tellLine_38 ?_
      refine Bd_aload_2 (pc := 39) dX6_tellLine_39 ?_
      refine Bd_callS2i (cd := mX6_isFull) (pc := 40) dX6_tellLine_40 k_403 v_X6_isFull ⟨(Nat.le_of_ble_eq_true rfl), (Nat.le_of_ble_eq_true rfl)⟩ (sem_X6_isFull hn) (Nat.le_of_ble_eq_true rfl) ?_
      refine Bd_if_eq (t := 58) (pc := 43) dX6_tellLine_43 (by decide) (fun b43 => ?_) (fun b43 => ?_)
      · have hT := tlX_d (M := M) (Int32.not_lt.mpr b6) b23 (by rw [hln]; exact b2_0.mp b43)
        rw [hln] at hT
        have hg := nfu hD (b2_0.mp b43)
        have h3 := ntab_e n hn
        refine Bd_iconst (v := 0) (pc := 58) dX6_tellLine_58 (by decide) ?_
        refine Bd_istore_4 (pc := 59) dX6_tellLine_59 (Nat.le_of_ble_eq_true rfl) rfl ?_
        refine Bd_nx (L' := [some (.ref 3), some (.ref 1), some (.ref 51), some (.int (nI n)), some (.int (nI 0))]) ?_ ⟨rfl, rfl, rfl, rfl, rfl, trivial⟩
        refine Bd_wh (pc := 61) (σ := Nat × Mem) (fun x => x.1 ≤ ntab n ∧ TI x.2 ∧ DI x.2 ∧ x.2 51 = M 51 ∧ tnR M n (ntab n) 0 = tnR x.2 n (ntab n - x.1) x.1) (fun x => ntab n - x.1) (fun x => [some (.ref 3), some (.ref 1), some (.ref 51), some (.int (nI n)), some (.int (nI x.1))]) (fun x => x.2) (fun x hx ih => ?_) (0, M) ⟨Nat.zero_le _, hK.1, hD, rfl, rfl⟩
        obtain ⟨h0, ht, hd, e5, he⟩ := hx
        rcases Nat.lt_or_eq_of_le h0 with hx1 | hx1
        · refine Bd_iload_4 (pc := 61) dX6_tellLine_61 ?_
          refine Bd_gets (v := .ref 120) (fun s S => S.2.2.2.2.2.2.1.1) k_406 (pc := 63) dX6_tellLine_63 ?_
          refine Bd_iload_3 (pc := 66) dX6_tellLine_66 ?_
          refine Bd_tald (t := tabN) (j := n) (fun s S => S.2.2.2.2.2.2.1.2) (nI_clamp (by omega)) (pc := 67) dX6_tellLine_67 (vpi (show n < 7 from hn) (by decide)) ?_
          refine Bd_icmp_ge (t := 91) (pc := 68) dX6_tellLine_68 (by decide) (fun b68 => (show False from nI_ge hx1 (by omega) (h3.1 ▸ b68)).elim) (fun b68 => ?_)
          refine Bd_aload_0 (pc := 71) dX6_tellLine_71 ?_
          refine Bd_aload_1 (pc := 72) dX6_tellLine_72 ?_
          refine Bd_aload_2 (pc := 73) dX6_tellLine_73 ?_
          refine Bd_iload_3 (pc := 74) dX6_tellLine_74 ?_
          refine Bd_iload_4 (pc := 75) dX6_tellLine_75 ?_
          refine Bd_callV4i (cd := mX6_takeNumber) (pc := 77) dX6_tellLine_77 k_408 v_X6_takeNumber ⟨(Nat.le_of_ble_eq_true rfl), (Nat.le_of_ble_eq_true rfl)⟩ rfl rfl (sem_X6_takeNumber ht hd hn (by omega)) (Nat.le_of_ble_eq_true rfl) ?_
          refine Bd_if_ne (t := 85) (pc := 80) dX6_tellLine_80 (by decide) (fun b80 => ?_) (fun b80 => ?_)
          · refine Bd_iinc_4 (pc := 85) dX6_tellLine_85 (show _ + Int32.ofInt 1 = _ + 1 from rfl) (Nat.le_of_ble_eq_true rfl) rfl ?_
            refine Bd_goto (t := 61) (pc := 88) dX6_tellLine_88 (by decide) ?_
            refine Bd_nx (ih (x.1 + 1, tnM x.2 n x.1) ⟨hx1, tnM_TI ht, DI_c hd (tnM_51 (by decide) (by decide) (by decide)), (tnM_51 (by decide) (by decide) (by decide)).trans e5, ?_⟩ (by show ntab n - (x.1 + 1) < ntab n - x.1; omega)) ⟨rfl, rfl, rfl, rfl, congrArg (fun z => some (Value.int z)) (nI_succ x.1).symm, trivial⟩
            rw [he, show ntab n - x.1 = (ntab n - (x.1 + 1)) + 1 by omega]
            show (if _ then _ else _) = _
            rw [if_pos (b2_n.mp b80)]
          · have hx : tnR M n (ntab n) 0 = (false, tnM x.2 n x.1) := by
              rw [he, show ntab n - x.1 = (ntab n - (x.1 + 1)) + 1 by omega]
              show (if _ then _ else _) = _
              rw [if_neg (b2_0.mp b80)]
            refine Bd_iconst (v := 0) (pc := 83) dX6_tellLine_83 (by decide) ?_
            refine Bd_zret (pc := 84) dX6_tellLine_84 rfl rfl ?_
            exact PD_i (by rw [hT, tlR_f hx]) (by rw [hT, tlR_f hx])
        · refine Bd_iload_4 (pc := 61) dX6_tellLine_61 ?_
          refine Bd_gets (v := .ref 120) (fun s S => S.2.2.2.2.2.2.1.1) k_406 (pc := 63) dX6_tellLine_63 ?_
          refine Bd_iload_3 (pc := 66) dX6_tellLine_66 ?_
          refine Bd_tald (t := tabN) (j := n) (fun s S => S.2.2.2.2.2.2.1.2) (nI_clamp (by omega)) (pc := 67) dX6_tellLine_67 (vpi (show n < 7 from hn) (by decide)) ?_
          refine Bd_icmp_ge (t := 91) (pc := 68) dX6_tellLine_68 (by decide) (fun b68 => ?_) (fun b68 => (show False from b68 (by rw [h3.1, hx1]; exact Int32.le_refl _)).elim)
          have hx : tnR M n (ntab n) 0 = (true, x.2) := by rw [he, hx1, Nat.sub_self]; rfl
          refine Bd_aload_1 (pc := 91) dX6_tellLine_91 ?_
          refine Bd_callV0v (cd := mX5_readToken) (pc := 92) dX6_tellLine_92 k_297 v_X5_readToken ⟨(Nat.le_of_ble_eq_true rfl), (Nat.le_of_ble_eq_true rfl)⟩ rfl rfl (sem_X5_readToken ht) (Nat.le_of_ble_eq_true rfl) ?_
          refine Bd_aload_1 (pc := 95) dX6_tellLine_95 ?_
          refine Bd_getI (j := 3) ck5 (pc := 96) dX6_tellLine_96 k_36 rfl (Nat.le_of_ble_eq_true rfl) rfl ?_
          refine Bd_iconst (v := 3) (pc := 99) dX6_tellLine_99 (by decide) ?_
          refine Bd_icmp_eq (t := 109) (pc := 100) dX6_tellLine_100 (by decide) (fun b100 => ?_) (fun b100 => ?_)
          · have hD3 : DI (seM (rt x.2) n) := DI_c hd (by rw [seM_ne (by decide), rt_ne (by decide)])
            have e51 : seM (rt x.2) n 51 = M 51 := by rw [seM_ne (by decide), rt_ne (by decide), e5]
            refine Bd_iload_3 (pc := 109) dX6_tellLine_109 ?_
            refine Bd_iconst (v := 3) (pc := 110) dX6_tellLine_110 (by decide) ?_
            refine Bd_icmp_gt (t := 126) (pc := 111) dX6_tellLine_111 (by decide) (fun b111 => ?_) (fun b111 => ?_)
            · refine Bd_cM (M := seM (rt x.2) n) ?_ (by unfold seM; rw [if_neg (fun z => Int32.not_lt.mpr (show nI n ≤ 3 from nI_le (b := 3) z (by decide)) b111)])
              refine Bd_aload_0 (pc := 126) dX6_tellLine_126 ?_
              refine Bd_aload_2 (pc := 127) dX6_tellLine_127 ?_
              refine Bd_iload_3 (pc := 128) dX6_tellLine_128 ?_
              refine Bd_callV2v (cd := mX6_write) (pc := 129) dX6_tellLine_129 k_420 v_X6_write ⟨(Nat.le_of_ble_eq_true rfl), (Nat.le_of_ble_eq_true rfl)⟩ rfl rfl (sem_X6_write hn hD3 (by rw [e51]; exact hg.1) (by rw [e51]; exact hg.2.1) (by rw [e51]; exact hg.2.2)) (Nat.le_of_ble_eq_true rfl) ?_
              refine Bd_iconst (v := 1) (pc := 132) dX6_tellLine_132 (by decide) ?_
              refine Bd_zret (pc := 133) dX6_tellLine_133 rfl rfl ?_
              exact PD_i (by rw [hT, tlR_t hx (show rt x.2 1 3 = 3 from b100)]) (by rw [hT, tlR_t hx (show rt x.2 1 3 = 3 from b100)])
            · refine Bd_aload_0 (pc := 114) dX6_tellLine_114 ?_
              refine Bd_dup (pc := 115) dX6_tellLine_115 rfl ?_
              refine Bd_getI (j := 1) ck6 (pc := 116) dX6_tellLine_116 k_63 rfl (Nat.le_of_ble_eq_true rfl) rfl ?_
              refine Bd_iconst (v := 1) (pc := 119) dX6_tellLine_119 (by decide) ?_
              refine Bd_iload_3 (pc := 120) dX6_tellLine_120 ?_
              refine Bd_ishl (pc := 121) dX6_tellLine_121 ?_
              refine Bd_ior (pc := 122) dX6_tellLine_122 ?_
              refine Bd_putI (j := 1) (ty := .int) ck6 (pc := 123) dX6_tellLine_123 k_63 rfl (Nat.le_of_ble_eq_true rfl) rfl rfl pfI rfl rfl ?_
              refine Bd_cM (M := seM (rt x.2) n) ?_ (by unfold seM; rw [if_pos (Nat.not_lt.mp (fun z => b111 (show (3 : Int32) < nI n from nI_lt (a := 3) z (by omega))))])
              refine Bd_aload_0 (pc := 126) dX6_tellLine_126 ?_
              refine Bd_aload_2 (pc := 127) dX6_tellLine_127 ?_
              refine Bd_iload_3 (pc := 128) dX6_tellLine_128 ?_
              refine Bd_callV2v (cd := mX6_write) (pc := 129) dX6_tellLine_129 k_420 v_X6_write ⟨(Nat.le_of_ble_eq_true rfl), (Nat.le_of_ble_eq_true rfl)⟩ rfl rfl (sem_X6_write hn hD3 (by rw [e51]; exact hg.1) (by rw [e51]; exact hg.2.1) (by rw [e51]; exact hg.2.2)) (Nat.le_of_ble_eq_true rfl) ?_
              refine Bd_iconst (v := 1) (pc := 132) dX6_tellLine_132 (by decide) ?_
              refine Bd_zret (pc := 133) dX6_tellLine_133 rfl rfl ?_
              exact PD_i (by rw [hT, tlR_t hx (show rt x.2 1 3 = 3 from b100)]) (by rw [hT, tlR_t hx (show rt x.2 1 3 = 3 from b100)])
          · refine Bd_aload_0 (pc := 103) dX6_tellLine_103 ?_
            refine Bd_aload_1 (pc := 104) dX6_tellLine_104 ?_
            refine Bd_callV1i (cd := mX6_misplaced) (pc := 105) dX6_tellLine_105 k_399 v_X6_misplaced ⟨(Nat.le_of_ble_eq_true rfl), (Nat.le_of_ble_eq_true rfl)⟩ rfl rfl sem_X6_misplaced (Nat.le_of_ble_eq_true rfl) ?_
            refine Bd_zret (pc := 108) dX6_tellLine_108 rfl rfl ?_
            exact PD_i (by rw [hT, tlR_m hx (show ¬ rt x.2 1 3 = 3 from b100)]) (by rw [hT, tlR_m hx (show ¬ rt x.2 1 3 = 3 from b100)])
      · refine Bd_aload_0 (pc := 46) dX6_tellLine_46 ?_
        refine Bd_iconst (v := 5) (pc := 47) dX6_tellLine_47 (by decide) ?_
        refine Bd_aload_1 (pc := 48) dX6_tellLine_48 ?_
        refine Bd_getI (j := 4) ck5 (pc := 49) dX6_tellLine_49 k_38 rfl (Nat.le_of_ble_eq_true rfl) rfl ?_
        refine Bd_callV2i (cd := mX6_refuse) (pc := 52) dX6_tellLine_52 k_326 v_X6_refuse ⟨(Nat.le_of_ble_eq_true rfl), (Nat.le_of_ble_eq_true rfl)⟩ rfl rfl sem_X6_refuse (Nat.le_of_ble_eq_true rfl) ?_
        refine Bd_pop (pc := 55) dX6_tellLine_55 rfl ?_
        refine Bd_iconst (v := 0) (pc := 56) dX6_tellLine_56 (by decide) ?_
        refine Bd_zret (pc := 57) dX6_tellLine_57 rfl rfl ?_
        exact PD_i (by rw [tlX_c (Int32.not_lt.mpr b6) b23 (by rw [hln]; exact b2_n.mp b43)]) (by rw [tlX_c (Int32.not_lt.mpr b6) b23 (by rw [hln]; exact b2_n.mp b43)])
    · refine Bd_aload_0 (pc := 26) dX6_tellLine_26 ?_
      refine Bd_iconst (v := 4) (pc := 27) dX6_tellLine_27 (by decide) ?_
      refine Bd_aload_1 (pc := 28) dX6_tellLine_28 ?_
      refine Bd_getI (j := 4) ck5 (pc := 29) dX6_tellLine_29 k_38 rfl (Nat.le_of_ble_eq_true rfl) rfl ?_
      refine Bd_callV2i (cd := mX6_refuse) (pc := 32) dX6_tellLine_32 k_326 v_X6_refuse ⟨(Nat.le_of_ble_eq_true rfl), (Nat.le_of_ble_eq_true rfl)⟩ rfl rfl sem_X6_refuse (Nat.le_of_ble_eq_true rfl) ?_
      refine Bd_pop (pc := 35) dX6_tellLine_35 rfl ?_
      refine Bd_iconst (v := 0) (pc := 36) dX6_tellLine_36 (by decide) ?_
      refine Bd_zret (pc := 37) dX6_tellLine_37 rfl rfl ?_
      exact PD_i (by rw [tlX_b (Int32.not_lt.mpr b6) b23]) (by rw [tlX_b (Int32.not_lt.mpr b6) b23])
  · refine Bd_aload_0 (pc := 9) dX6_tellLine_9 ?_
    refine Bd_aload_1 (pc := 10) dX6_tellLine_10 ?_
    refine Bd_callV1i (cd := mX6_misplaced) (pc := 11) dX6_tellLine_11 k_399 v_X6_misplaced ⟨(Nat.le_of_ble_eq_true rfl), (Nat.le_of_ble_eq_true rfl)⟩ rfl rfl sem_X6_misplaced (Nat.le_of_ble_eq_true rfl) ?_
    refine Bd_zret (pc := 14) dX6_tellLine_14 rfl rfl ?_
    exact PD_i (by rw [tlX_a (Int32.not_le.mp b6)]) (by rw [tlX_a (Int32.not_le.mp b6)])
theorem te0_TI {M : Mem} (h1 : M 1 2 = nI (tL M)) (h2 : tL M ≤ 320) : TI (te0 M) := by
  have e1 : te0 M 1 1 = 0 := rfl
  have e2 : te0 M 1 2 = M 1 2 := rfl
  refine ⟨by rw [tI, e1]; rfl, by rw [tL, e2]; exact h1, ?_, by rw [tL, e2]; exact h2⟩
  rw [tI, e1]; exact Nat.zero_le _
set_option maxRecDepth 100000 in
set_option maxHeartbeats 4000000 in
theorem sem_X6_tell {M : Mem} (h1 : M 1 2 = nI (tL M)) (h2 : tL M ≤ 320) (hD : DI M) : Sem mX6_tell SH [.ref 3, .ref 1, .ref 51] M (PD SH (some (.int (te M).1)) (te M).2) := by
  refine Sem_of rfl (fun G => (Nat.le_of_ble_eq_true rfl)) (fun G => ?_)
  refine Bd_aload_0 (pc := 0) dX6_tell_0 ?_
  refine Bd_iconst (v := 0) (pc := 1) dX6_tell_1 (by decide) ?_
  refine Bd_putI (j := 3) (ty := .int) ck6 (pc := 2) dX6_tell_2 k_65 rfl (Nat.le_of_ble_eq_true rfl) rfl rfl pfI rfl rfl ?_
  refine Bd_aload_0 (pc := 5) dX6_tell_5 ?_
  refine Bd_iconst (v := 0) (pc := 6) dX6_tell_6 (by decide) ?_
  refine Bd_putI (j := 1) (ty := .int) ck6 (pc := 7) dX6_tell_7 k_63 rfl (Nat.le_of_ble_eq_true rfl) rfl rfl pfI rfl rfl ?_
  refine Bd_aload_1 (pc := 10) dX6_tell_10 ?_
  refine Bd_callV0v (cd := mX5_rewind) (pc := 11) dX6_tell_11 k_293 v_X5_rewind ⟨(Nat.le_of_ble_eq_true rfl), (Nat.le_of_ble_eq_true rfl)⟩ rfl rfl sem_X5_rewind (Nat.le_of_ble_eq_true rfl) ?_
  refine Bd_iconst (v := 0) (pc := 14) dX6_tell_14 (by decide) ?_
  refine Bd_istore_3 (pc := 15) dX6_tell_15 (Nat.le_of_ble_eq_true rfl) rfl ?_
  refine Bd_nx (L' := [some (.ref 3), some (.ref 1), some (.ref 51), some (.int (nI 0))]) ?_ ⟨rfl, rfl, rfl, rfl, trivial⟩
  refine Bd_wh (pc := 16) (σ := Nat × Mem) (fun x => x.1 ≤ 321 ∧ TI x.2 ∧ DI x.2 ∧ te M = teR (321 - x.1) x.1 x.2) (fun x => 321 - x.1) (fun x => [some (.ref 3), some (.ref 1), some (.ref 51), some (.int (nI x.1))]) (fun x => x.2) (fun x hx ih => ?_) (0, te0 M) ⟨Nat.zero_le _, te0_TI h1 h2, hD, rfl⟩
  obtain ⟨h0, ht, hd, he⟩ := hx
  rcases Nat.lt_or_eq_of_le h0 with hx1 | hx1
  · refine Bd_iload_3 (pc := 16) dX6_tell_16 ?_
    refine Bd_sipush (v := 320) (pc := 17) dX6_tell_17 (by decide) ?_
    refine Bd_icmp_gt (t := 80) (pc := 20) dX6_tell_20 (by decide) (fun b20 => (show False from nI_nlt (show x.1 ≤ 320 by omega) (by decide) b20).elim) (fun b20 => ?_)
    refine Bd_aload_1 (pc := 23) dX6_tell_23 ?_
    refine Bd_callV0v (cd := mX5_readToken) (pc := 24) dX6_tell_24 k_297 v_X5_readToken ⟨(Nat.le_of_ble_eq_true rfl), (Nat.le_of_ble_eq_true rfl)⟩ rfl rfl (sem_X5_readToken ht) (Nat.le_of_ble_eq_true rfl) ?_
    have h51 : DI (rt x.2) := DI_c hd (rt_ne (by decide))
    have hc : 321 - x.1 = (320 - x.1) + 1 := by omega
    refine Bd_aload_1 (pc := 27) dX6_tell_27 ?_
    refine Bd_getI (j := 3) ck5 (pc := 28) dX6_tell_28 k_36 rfl (Nat.le_of_ble_eq_true rfl) rfl ?_
    refine Bd_iconst (v := 4) (pc := 31) dX6_tell_31 (by decide) ?_
    refine Bd_icmp_ne (t := 57) (pc := 32) dX6_tell_32 (by decide) (fun b32 => ?_) (fun b32 => ?_)
    · refine Bd_aload_0 (pc := 57) dX6_tell_57 ?_
      refine Bd_aload_1 (pc := 58) dX6_tell_58 ?_
      refine Bd_aload_2 (pc := 59) dX6_tell_59 ?_
      refine Bd_callV2i (cd := mX6_tellLine) (pc := 60) dX6_tell_60 k_330 v_X6_tellLine ⟨(Nat.le_of_ble_eq_true rfl), (Nat.le_of_ble_eq_true rfl)⟩ rfl rfl (sem_X6_tellLine (rt_TK ht) h51) (Nat.le_of_ble_eq_true rfl) ?_
      refine Bd_if_ne (t := 74) (pc := 63) dX6_tell_63 (by decide) (fun b63 => ?_) (fun b63 => ?_)
      · refine Bd_iinc_3 (pc := 74) dX6_tell_74 (show _ + Int32.ofInt 1 = _ + 1 from rfl) (Nat.le_of_ble_eq_true rfl) rfl ?_
        refine Bd_goto (t := 16) (pc := 77) dX6_tell_77 (by decide) ?_
        have hk := tlX_k (rt_TI ht) h51
        refine Bd_nx (ih (x.1 + 1, (tlX (rt x.2)).2) ⟨hx1, hk.1, hk.2, ?_⟩ (by show 321 - (x.1 + 1) < 321 - x.1; omega)) ⟨rfl, rfl, rfl, congrArg (fun z => some (Value.int z)) (nI_succ x.1).symm, trivial⟩
        rw [he, hc, teR, if_neg b32, if_neg b63, show 320 - x.1 = 321 - (x.1 + 1) by omega]
      · refine Bd_bipush (v := -10) (pc := 66) dX6_tell_66 (by decide) ?_
        refine Bd_aload_0 (pc := 68) dX6_tell_68 ?_
        refine Bd_getI (j := 2) ck6 (pc := 69) dX6_tell_69 k_64 rfl (Nat.le_of_ble_eq_true rfl) rfl ?_
        refine Bd_isub (pc := 72) dX6_tell_72 ?_
        refine Bd_iret (pc := 73) dX6_tell_73 rfl ?_
        exact PD_i (by rw [he, hc, teR, if_neg b32, if_pos b63]) (by rw [he, hc, teR, if_neg b32, if_pos b63])
    · refine Bd_aload_2 (pc := 35) dX6_tell_35 ?_
      refine Bd_callV0i (cd := mX3_standsOnCells) (pc := 36) dX6_tell_36 k_315 v_X3_standsOnCells ⟨(Nat.le_of_ble_eq_true rfl), (Nat.le_of_ble_eq_true rfl)⟩ rfl rfl (sem_X3_stands h51.1.1 h51.2.1.1 h51.1.2 h51.2.1.2) (Nat.le_of_ble_eq_true rfl) ?_
      refine Bd_if_eq (t := 46) (pc := 39) dX6_tell_39 (by decide) (fun b39 => ?_) (fun b39 => ?_)
      · refine Bd_aload_0 (pc := 46) dX6_tell_46 ?_
        refine Bd_bipush (v := 6) (pc := 47) dX6_tell_47 (by decide) ?_
        refine Bd_aload_1 (pc := 49) dX6_tell_49 ?_
        refine Bd_getI (j := 2) ck5 (pc := 50) dX6_tell_50 k_35 rfl (Nat.le_of_ble_eq_true rfl) rfl ?_
        refine Bd_callV2i (cd := mX6_refuse) (pc := 53) dX6_tell_53 k_326 v_X6_refuse ⟨(Nat.le_of_ble_eq_true rfl), (Nat.le_of_ble_eq_true rfl)⟩ rfl rfl sem_X6_refuse (Nat.le_of_ble_eq_true rfl) ?_
        refine Bd_iret (pc := 56) dX6_tell_56 rfl ?_
        exact PD_i (by rw [he, hc, teR, if_pos b32, if_neg (b2_0.mp b39)]) (by rw [he, hc, teR, if_pos b32, if_neg (b2_0.mp b39)])
      · refine Bd_iload_3 (pc := 42) dX6_tell_42 ?_
        refine Bd_goto (t := 56) (pc := 43) dX6_tell_43 (by decide) ?_
        refine Bd_iret (pc := 56) dX6_tell_56 rfl ?_
        exact PD_i (by rw [he, hc, teR, if_pos b32, if_pos (b2_n.mp b39)]) (by rw [he, hc, teR, if_pos b32, if_pos (b2_n.mp b39)])
  · refine Bd_iload_3 (pc := 16) dX6_tell_16 ?_
    refine Bd_sipush (v := 320) (pc := 17) dX6_tell_17 (by decide) ?_
    refine Bd_icmp_gt (t := 80) (pc := 20) dX6_tell_20 (by decide) (fun b20 => ?_) (fun b20 => (show False from b20 (by rw [hx1]; decide)).elim)
    refine Bd_aload_0 (pc := 80) dX6_tell_80 ?_
    refine Bd_iconst (v := 2) (pc := 81) dX6_tell_81 (by decide) ?_
    refine Bd_aload_1 (pc := 82) dX6_tell_82 ?_
    refine Bd_getI (j := 2) ck5 (pc := 83) dX6_tell_83 k_35 rfl (Nat.le_of_ble_eq_true rfl) rfl ?_
    refine Bd_callV2i (cd := mX6_refuse) (pc := 86) dX6_tell_86 k_326 v_X6_refuse ⟨(Nat.le_of_ble_eq_true rfl), (Nat.le_of_ble_eq_true rfl)⟩ rfl rfl sem_X6_refuse (Nat.le_of_ble_eq_true rfl) ?_
    refine Bd_iret (pc := 89) dX6_tell_89 rfl ?_
    exact PD_i (by rw [he, hx1]; rfl) (by rw [he, hx1]; rfl)
