/-! 71: land: a name is read -/
abbrev ltB (c : Int32) : Bool := decide (ltP c)
theorem updM_id {M : Mem} {k j : Nat} {v : Int32} (h : M k j = v) : updM M k j v = M := by
  funext q
  by_cases z : q = k
  · subst z
    rw [updM_eq]
    funext x
    by_cases y : x = j
    · rw [y, upd_eq, h]
    · rw [upd_ne y]
  · rw [updM_ne z]
theorem updM_tw {M : Mem} {k j : Nat} {u v : Int32} : updM (updM M k j u) k j v = updM M k j v := by
  funext q
  by_cases z : q = k
  · subst z
    rw [updM_eq, updM_eq, updM_eq]
    funext x
    by_cases y : x = j
    · rw [y, upd_eq, upd_eq]
    · rw [upd_ne y, upd_ne y, upd_ne y]
  · rw [updM_ne z, updM_ne z, updM_ne z]
theorem rnE_s {p : Int32 → Bool} {f : Nat → Int32} {L x : Nat} (h : x < L) : rnE p f (L - x) x = if p (f x) = true then rnE p f (L - (x + 1)) (x + 1) else x := by
  rw [show L - x = (L - (x + 1)) + 1 by omega]; rfl
set_option maxRecDepth 100000 in
set_option maxHeartbeats 4000000 in
theorem sem_X5_readName {M : Mem} {i L : Nat} (hi : M 1 1 = nI i) (hL : M 1 2 = nI L) (hiL : i ≤ L) (h320 : L ≤ 320) : Sem mX5_readName SH [.ref 1] M (PD SH none (updM (updM M 1 3 1) 1 1 (nI (rnE ltB (M 2) (L - i) i)))) := by
  refine Sem_of rfl (fun G => (Nat.le_of_ble_eq_true rfl)) (fun G => ?_)
  refine Bd_aload_0 (pc := 0) dX5_readName_0 ?_
  refine Bd_iconst (v := 1) (pc := 1) dX5_readName_1 (by decide) ?_
  refine Bd_putI (j := 3) (ty := .int) ck5 (pc := 2) dX5_readName_2 k_37 rfl (Nat.le_of_ble_eq_true rfl) rfl rfl pfI rfl rfl ?_
  refine Bd_cM ?_ (updM_id (M := updM M 1 3 1) (k := 1) (j := 1) (v := nI i) hi)
  refine Bd_wh (pc := 5) (σ := Nat) (fun x => i ≤ x ∧ x ≤ L ∧ rnE ltB (M 2) (L - x) x = rnE ltB (M 2) (L - i) i) (fun x => L - x) (fun _ => [some (.ref 1)]) (fun x => (updM (updM M 1 3 1) 1 1 (nI x))) (fun x hx ih => ?_) i ⟨Nat.le_refl _, hiL, rfl⟩
  obtain ⟨h0, h1, he⟩ := hx
  rcases Nat.lt_or_ge x L with hx | hx2
  · refine Bd_aload_0 (pc := 5) dX5_readName_5 ?_
    refine Bd_getI (j := 1) ck5 (pc := 6) dX5_readName_6 k_32 rfl (Nat.le_of_ble_eq_true rfl) rfl ?_
    refine Bd_aload_0 (pc := 9) dX5_readName_9 ?_
    refine Bd_getI (j := 2) ck5 (pc := 10) dX5_readName_10 k_33 rfl (Nat.le_of_ble_eq_true rfl) rfl ?_
    refine Bd_icmp_ge (t := 44) (pc := 13) dX5_readName_13 (by decide) (fun b13 => (show False from lf_s (show (updM (updM M 1 3 1) 1 1 (nI x)) 1 2 = nI L from hL) (by omega) hx b13).elim) (fun b13 => ?_)
    refine Bd_aload_0 (pc := 16) dX5_readName_16 ?_
    refine Bd_getR (j := 0) ck5 (pc := 17) dX5_readName_17 k_31 rfl (Nat.le_of_ble_eq_true rfl) rfl ?_
    refine Bd_aload_0 (pc := 20) dX5_readName_20 ?_
    refine Bd_getI (j := 1) ck5 (pc := 21) dX5_readName_21 k_32 rfl (Nat.le_of_ble_eq_true rfl) rfl ?_
    refine Bd_baldc (j := x) (nI_clamp (by omega)) (pc := 24) dX5_readName_24 rfl (vpi (by omega) (by omega)) ?_
    refine Bd_callS1i (cd := mX5_isLetter) (pc := 25) dX5_readName_25 k_301 v_X5_isLetter ⟨(Nat.le_of_ble_eq_true rfl), (Nat.le_of_ble_eq_true rfl)⟩ sem_X5_isLetter (Nat.le_of_ble_eq_true rfl) ?_
    refine Bd_if_eq (t := 44) (pc := 28) dX5_readName_28 (by decide) (fun b28 => ?_) (fun b28 => ?_)
    · refine Bd_vret (pc := 44) dX5_readName_44 rfl ?_
      exact PD_v (by rw [← he, rnE_s hx, if_neg (show ¬ ltB (M 2 x) = true from fun z => b2_0.mp b28 (of_decide_eq_true z))])
    · refine Bd_aload_0 (pc := 31) dX5_readName_31 ?_
      refine Bd_dup (pc := 32) dX5_readName_32 rfl ?_
      refine Bd_getI (j := 1) ck5 (pc := 33) dX5_readName_33 k_32 rfl (Nat.le_of_ble_eq_true rfl) rfl ?_
      refine Bd_iconst (v := 1) (pc := 36) dX5_readName_36 (by decide) ?_
      refine Bd_iadd (pc := 37) dX5_readName_37 ?_
      refine Bd_putI (j := 1) (ty := .int) ck5 (pc := 38) dX5_readName_38 k_32 rfl (Nat.le_of_ble_eq_true rfl) rfl rfl pfI rfl rfl ?_
      refine Bd_goto (t := 5) (pc := 41) dX5_readName_41 (by decide) ?_
      refine Bd_cM (ih (x + 1) ⟨by omega, hx, by rw [← he, rnE_s hx, if_pos (show ltB (M 2 x) = true from decide_eq_true (b2_n.mp b28))]⟩ (by omega)) ?_
      show updM (updM M 1 3 1) 1 1 (nI (x + 1)) = updM (updM (updM M 1 3 1) 1 1 (nI x)) 1 1 (nI x + 1)
      rw [updM_tw, nI_succ]
  · have em : L = x := by omega
    subst em
    refine Bd_aload_0 (pc := 5) dX5_readName_5 ?_
    refine Bd_getI (j := 1) ck5 (pc := 6) dX5_readName_6 k_32 rfl (Nat.le_of_ble_eq_true rfl) rfl ?_
    refine Bd_aload_0 (pc := 9) dX5_readName_9 ?_
    refine Bd_getI (j := 2) ck5 (pc := 10) dX5_readName_10 k_33 rfl (Nat.le_of_ble_eq_true rfl) rfl ?_
    refine Bd_icmp_ge (t := 44) (pc := 13) dX5_readName_13 (by decide) (fun b13 => ?_) (fun b13 => (show False from lf_x (show (updM (updM M 1 3 1) 1 1 (nI L)) 1 2 = nI L from hL) b13).elim)
    refine Bd_vret (pc := 44) dX5_readName_44 rfl ?_
    exact PD_v (by rw [← he, Nat.sub_self]; rfl)
