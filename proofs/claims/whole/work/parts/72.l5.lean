/-! 72: land: a number is read -/
abbrev fgB (c : Int32) : Bool := decide (fgP c)
theorem updM_cm {M : Mem} {k i j : Nat} {u v : Int32} (h : i ≠ j) : updM (updM M k i u) k j v = updM (updM M k j v) k i u := by
  funext q
  by_cases z : q = k
  · subst z
    rw [updM_eq, updM_eq, updM_eq, updM_eq]
    funext x
    by_cases y : x = i
    · subst y; rw [upd_ne h, upd_eq, upd_eq]
    · rw [upd_ne (k := i) y]
      by_cases w : x = j
      · subst w; rw [upd_eq, upd_eq]
      · rw [upd_ne w, upd_ne w, upd_ne y]
  · rw [updM_ne z, updM_ne z, updM_ne z, updM_ne z]
/-- where a number ends, and its value -/
def nmE (f : Nat → Int32) : Nat → Nat → Int32 → Nat × Int32
  | 0, i, v => (i, v)
  | k + 1, i, v => if fgB (f i) = true then nmE f k (i + 1) (10 * v + f i - 48) else (i, v)
theorem nmE_s {f : Nat → Int32} {L x : Nat} {v : Int32} (h : x < L) : nmE f (L - x) x v = if fgB (f x) = true then nmE f (L - (x + 1)) (x + 1) (10 * v + f x - 48) else (x, v) := by
  rw [show L - x = (L - (x + 1)) + 1 by omega]; rfl
set_option maxRecDepth 100000 in
set_option maxHeartbeats 4000000 in
theorem sem_X5_readNumber {M : Mem} {i L : Nat} (hi : M 1 1 = nI i) (hL : M 1 2 = nI L) (hiL : i ≤ L) (h320 : L ≤ 320) : Sem mX5_readNumber SH [.ref 1] M (PD SH none (updM (updM (updM M 1 5 (nmE (M 2) (L - i) i 0).2) 1 1 (nI (nmE (M 2) (L - i) i 0).1)) 1 3 (if nI (nmE (M 2) (L - i) i 0).1 - M 1 4 ≤ 3 then 2 else 0))) := by
  refine Sem_of rfl (fun G => (Nat.le_of_ble_eq_true rfl)) (fun G => ?_)
  refine Bd_aload_0 (pc := 0) dX5_readNumber_0 ?_
  refine Bd_iconst (v := 0) (pc := 1) dX5_readNumber_1 (by decide) ?_
  refine Bd_putI (j := 5) (ty := .int) ck5 (pc := 2) dX5_readNumber_2 k_40 rfl (Nat.le_of_ble_eq_true rfl) rfl rfl pfI rfl rfl ?_
  refine Bd_cM ?_ (updM_id (M := updM M 1 5 0) (k := 1) (j := 1) (v := nI i) hi)
  refine Bd_wh (pc := 5) (σ := Nat × Int32) (fun x => i ≤ x.1 ∧ x.1 ≤ L ∧ nmE (M 2) (L - x.1) x.1 x.2 = nmE (M 2) (L - i) i 0) (fun x => L - x.1) (fun _ => [some (.ref 1)]) (fun x => updM (updM M 1 5 x.2) 1 1 (nI x.1)) (fun x hx ih => ?_) (i, 0) ⟨Nat.le_refl _, hiL, rfl⟩
  obtain ⟨x, v⟩ := x
  obtain ⟨h0, h1, he⟩ := hx
  have h0 : i ≤ x := h0
  have h1 : x ≤ L := h1
  have he : nmE (M 2) (L - x) x v = nmE (M 2) (L - i) i 0 := he
  show Bd mX5_readNumber G _ SH 5 [some (.ref 1)] [] (updM (updM M 1 5 v) 1 1 (nI x))
  rcases Nat.lt_or_ge x L with hx | hx2
  · refine Bd_aload_0 (pc := 5) dX5_readNumber_5 ?_
    refine Bd_getI (j := 1) ck5 (pc := 6) dX5_readNumber_6 k_32 rfl (Nat.le_of_ble_eq_true rfl) rfl ?_
    refine Bd_aload_0 (pc := 9) dX5_readNumber_9 ?_
    refine Bd_getI (j := 2) ck5 (pc := 10) dX5_readNumber_10 k_33 rfl (Nat.le_of_ble_eq_true rfl) rfl ?_
    refine Bd_icmp_ge (t := 68) (pc := 13) dX5_readNumber_13 (by decide) (fun b13 => (show False from lf_s (show (updM (updM M 1 5 v) 1 1 (nI x)) 1 2 = nI L from hL) (by omega) hx b13).elim) (fun b13 => ?_)
    refine Bd_aload_0 (pc := 16) dX5_readNumber_16 ?_
    refine Bd_getR (j := 0) ck5 (pc := 17) dX5_readNumber_17 k_31 rfl (Nat.le_of_ble_eq_true rfl) rfl ?_
    refine Bd_aload_0 (pc := 20) dX5_readNumber_20 ?_
    refine Bd_getI (j := 1) ck5 (pc := 21) dX5_readNumber_21 k_32 rfl (Nat.le_of_ble_eq_true rfl) rfl ?_
    refine Bd_baldc (j := x) (nI_clamp (by omega)) (pc := 24) dX5_readNumber_24 rfl (vpi (by omega) (by omega)) ?_
    refine Bd_callS1i (cd := mX5_isFigure) (pc := 25) dX5_readNumber_25 k_308 v_X5_isFigure ⟨(Nat.le_of_ble_eq_true rfl), (Nat.le_of_ble_eq_true rfl)⟩ sem_X5_isFigure (Nat.le_of_ble_eq_true rfl) ?_
    refine Bd_if_eq (t := 68) (pc := 28) dX5_readNumber_28 (by decide) (fun b28 => ?_) (fun b28 => ?_)
    · refine Bd_aload_0 (pc := 68) dX5_readNumber_68 ?_
      refine Bd_aload_0 (pc := 69) dX5_readNumber_69 ?_
      refine Bd_getI (j := 1) ck5 (pc := 70) dX5_readNumber_70 k_32 rfl (Nat.le_of_ble_eq_true rfl) rfl ?_
      refine Bd_aload_0 (pc := 73) dX5_readNumber_73 ?_
      refine Bd_getI (j := 4) ck5 (pc := 74) dX5_readNumber_74 k_39 rfl (Nat.le_of_ble_eq_true rfl) rfl ?_
      refine Bd_isub (pc := 77) dX5_readNumber_77 ?_
      refine Bd_iconst (v := 3) (pc := 78) dX5_readNumber_78 (by decide) ?_
      refine Bd_icmp_le (t := 86) (pc := 79) dX5_readNumber_79 (by decide) (fun b79 => ?_) (fun b79 => ?_)
      · refine Bd_iconst (v := 2) (pc := 86) dX5_readNumber_86 (by decide) ?_
        refine Bd_putI (j := 3) (ty := .int) ck5 (pc := 87) dX5_readNumber_87 k_37 rfl (Nat.le_of_ble_eq_true rfl) rfl rfl pfI rfl rfl ?_
        refine Bd_vret (pc := 90) dX5_readNumber_90 rfl ?_
        exact PD_v (by rw [← he, nmE_s hx, if_neg (show ¬ fgB (M 2 x) = true from fun z => b2_0.mp b28 (of_decide_eq_true z))]; show _ = updM (updM (updM M 1 5 v) 1 1 (nI x)) 1 3 (if nI x - M 1 4 ≤ 3 then 2 else 0); rw [if_pos (show nI x - M 1 4 ≤ 3 from b79)])
      · refine Bd_iconst (v := 0) (pc := 82) dX5_readNumber_82 (by decide) ?_
        refine Bd_goto (t := 87) (pc := 83) dX5_readNumber_83 (by decide) ?_
        refine Bd_putI (j := 3) (ty := .int) ck5 (pc := 87) dX5_readNumber_87 k_37 rfl (Nat.le_of_ble_eq_true rfl) rfl rfl pfI rfl rfl ?_
        refine Bd_vret (pc := 90) dX5_readNumber_90 rfl ?_
        exact PD_v (by rw [← he, nmE_s hx, if_neg (show ¬ fgB (M 2 x) = true from fun z => b2_0.mp b28 (of_decide_eq_true z))]; show _ = updM (updM (updM M 1 5 v) 1 1 (nI x)) 1 3 (if nI x - M 1 4 ≤ 3 then 2 else 0); rw [if_neg (show ¬ nI x - M 1 4 ≤ 3 from b79)])
    · refine Bd_aload_0 (pc := 31) dX5_readNumber_31 ?_
      refine Bd_bipush (v := 10) (pc := 32) dX5_readNumber_32 (by decide) ?_
      refine Bd_aload_0 (pc := 34) dX5_readNumber_34 ?_
      refine Bd_getI (j := 5) ck5 (pc := 35) dX5_readNumber_35 k_40 rfl (Nat.le_of_ble_eq_true rfl) rfl ?_
      refine Bd_imul (pc := 38) dX5_readNumber_38 ?_
      refine Bd_aload_0 (pc := 39) dX5_readNumber_39 ?_
      refine Bd_getR (j := 0) ck5 (pc := 40) dX5_readNumber_40 k_31 rfl (Nat.le_of_ble_eq_true rfl) rfl ?_
      refine Bd_aload_0 (pc := 43) dX5_readNumber_43 ?_
      refine Bd_getI (j := 1) ck5 (pc := 44) dX5_readNumber_44 k_32 rfl (Nat.le_of_ble_eq_true rfl) rfl ?_
      refine Bd_baldc (j := x) (nI_clamp (by omega)) (pc := 47) dX5_readNumber_47 rfl (vpi (by omega) (by omega)) ?_
      refine Bd_iadd (pc := 48) dX5_readNumber_48 ?_
      refine Bd_bipush (v := 48) (pc := 49) dX5_readNumber_49 (by decide) ?_
      refine Bd_isub (pc := 51) dX5_readNumber_51 ?_
      refine Bd_putI (j := 5) (ty := .int) ck5 (pc := 52) dX5_readNumber_52 k_40 rfl (Nat.le_of_ble_eq_true rfl) rfl rfl pfI rfl rfl ?_
      refine Bd_aload_0 (pc := 55) dX5_readNumber_55 ?_
      refine Bd_dup (pc := 56) dX5_readNumber_56 rfl ?_
      refine Bd_getI (j := 1) ck5 (pc := 57) dX5_readNumber_57 k_32 rfl (Nat.le_of_ble_eq_true rfl) rfl ?_
      refine Bd_iconst (v := 1) (pc := 60) dX5_readNumber_60 (by decide) ?_
      refine Bd_iadd (pc := 61) dX5_readNumber_61 ?_
      refine Bd_putI (j := 1) (ty := .int) ck5 (pc := 62) dX5_readNumber_62 k_32 rfl (Nat.le_of_ble_eq_true rfl) rfl rfl pfI rfl rfl ?_
      refine Bd_goto (t := 5) (pc := 65) dX5_readNumber_65 (by decide) ?_
      refine Bd_cM (ih (x + 1, 10 * v + M 2 x - 48) ⟨by show i ≤ x + 1; omega, hx, by rw [← he, nmE_s hx, if_pos (show fgB (M 2 x) = true from decide_eq_true (b2_n.mp b28))]⟩ (by show L - (x + 1) < L - x; omega)) ?_
      show updM (updM M 1 5 (10 * v + M 2 x - 48)) 1 1 (nI (x + 1)) = updM (updM (updM (updM M 1 5 v) 1 1 (nI x)) 1 5 (10 * v + M 2 x - 48)) 1 1 (nI x + 1)
      rw [updM_cm (i := 1) (j := 5) (by decide), updM_tw, updM_tw, nI_succ]
  · have em : x = L := by omega
    subst em
    refine Bd_aload_0 (pc := 5) dX5_readNumber_5 ?_
    refine Bd_getI (j := 1) ck5 (pc := 6) dX5_readNumber_6 k_32 rfl (Nat.le_of_ble_eq_true rfl) rfl ?_
    refine Bd_aload_0 (pc := 9) dX5_readNumber_9 ?_
    refine Bd_getI (j := 2) ck5 (pc := 10) dX5_readNumber_10 k_33 rfl (Nat.le_of_ble_eq_true rfl) rfl ?_
    refine Bd_icmp_ge (t := 68) (pc := 13) dX5_readNumber_13 (by decide) (fun b13 => ?_) (fun b13 => (show False from lf_x (show (updM (updM M 1 5 v) 1 1 (nI x)) 1 2 = nI x from hL) b13).elim)
    refine Bd_aload_0 (pc := 68) dX5_readNumber_68 ?_
    refine Bd_aload_0 (pc := 69) dX5_readNumber_69 ?_
    refine Bd_getI (j := 1) ck5 (pc := 70) dX5_readNumber_70 k_32 rfl (Nat.le_of_ble_eq_true rfl) rfl ?_
    refine Bd_aload_0 (pc := 73) dX5_readNumber_73 ?_
    refine Bd_getI (j := 4) ck5 (pc := 74) dX5_readNumber_74 k_39 rfl (Nat.le_of_ble_eq_true rfl) rfl ?_
    refine Bd_isub (pc := 77) dX5_readNumber_77 ?_
    refine Bd_iconst (v := 3) (pc := 78) dX5_readNumber_78 (by decide) ?_
    refine Bd_icmp_le (t := 86) (pc := 79) dX5_readNumber_79 (by decide) (fun b79 => ?_) (fun b79 => ?_)
    · refine Bd_iconst (v := 2) (pc := 86) dX5_readNumber_86 (by decide) ?_
      refine Bd_putI (j := 3) (ty := .int) ck5 (pc := 87) dX5_readNumber_87 k_37 rfl (Nat.le_of_ble_eq_true rfl) rfl rfl pfI rfl rfl ?_
      refine Bd_vret (pc := 90) dX5_readNumber_90 rfl ?_
      exact PD_v (by rw [← he, Nat.sub_self, show nmE (M 2) 0 x v = (x, v) from rfl]; show _ = updM (updM (updM M 1 5 v) 1 1 (nI x)) 1 3 (if nI x - M 1 4 ≤ 3 then 2 else 0); rw [if_pos (show nI x - M 1 4 ≤ 3 from b79)])
    · refine Bd_iconst (v := 0) (pc := 82) dX5_readNumber_82 (by decide) ?_
      refine Bd_goto (t := 87) (pc := 83) dX5_readNumber_83 (by decide) ?_
      refine Bd_putI (j := 3) (ty := .int) ck5 (pc := 87) dX5_readNumber_87 k_37 rfl (Nat.le_of_ble_eq_true rfl) rfl rfl pfI rfl rfl ?_
      refine Bd_vret (pc := 90) dX5_readNumber_90 rfl ?_
      exact PD_v (by rw [← he, Nat.sub_self, show nmE (M 2) 0 x v = (x, v) from rfl]; show _ = updM (updM (updM M 1 5 v) 1 1 (nI x)) 1 3 (if nI x - M 1 4 ≤ 3 then 2 else 0); rw [if_neg (show ¬ nI x - M 1 4 ≤ 3 from b79)])
