/-! 90: land of the reference -/
theorem lnF_r {M : Mem} : lnF M = -4 ∨ (lnF M = nI (cn (lnF M)) ∧ cn (lnF M) < 7) := by
  by_cases a : lnF M < 0
  · left
    rcases lnI_r (p := nmB (M 2) (cn (M 1 4)) (cn (M 1 1)) (M 1 3)) 7 0 with z | ⟨n, -, z2, z3, -⟩
    · exact z
    · rw [show lnF M = nI n from z3] at a
      exact absurd a (nI_pos (by omega))
  · exact Or.inr (lnF_n a)
theorem RC_of {K X : Mem} (hD : DI K) (hR : RDr K X) : RC X := by
  unfold RC
  rw [hR.2.1.1, hR.2.2.1.1, hR.2.2.2.1.1]
  exact hD
theorem nh_sem {C M K X : Mem} (h : RF C M) (hF : FRn M X) (hU : RU X) (hT : TI K) (hB : TBr K X) (hL : LK K X) (h20 : X 58 20 = 0) : Sem mX8_nameHere SH [.ref 58] X (PD SH (some (.int (lnF (rt K)))) X) := by
  obtain ⟨-, -, l22, l23, l24, -⟩ := hL.resolve_left (fun z => absurd (h20.symm.trans z.2.1) (by decide))
  have eL : uL X = tL K := by show cn (X 58 18) = _; rw [hB.1]
  have hk : IVk X := by
    have q := h.2.2.2.2.2.2.2
    unfold IVk at *
    rw [hF.1 68 (by decide) (by omega), hF.1 69 (by decide) (by omega)]; exact q
  have he := eM_b hT
  have z := sem_X8_nameHere (N := X) (s := sM K) (e := eM K) l23 l22 he.1 (by rw [eL]; exact he.2.1) hU.1.2.1 hU.1.2.2.2 hk
  rw [nm_sim hT hB l24] at z
  exact z
theorem Lv_6 {C M X : Mem} {n : Nat} {K : Mem} (hF : FRn M X) (hn : n ≤ tI K) (hT : TI K) (hL : LK K X) (he : te (clD C) = teR (321 - n) n K) (h20 : X 58 20 = 0) (h24 : X 58 24 = 0) : kM K = 4 ∧ (dsP (rt K) → te (clD C) = (nI n, rt K)) ∧ (¬ dsP (rt K) → Fdd C M (flM X 6)) := by
  obtain ⟨k0, -, l22, l23, l24, -⟩ := hL.resolve_left (fun z => absurd (h20.symm.trans z.2.1) (by decide))
  have k4' : kM K = 4 := by
    rw [h24] at l24
    by_cases z : kM K = 4
    · exact z
    · rw [if_neg z] at l24; exact absurd l24.symm k0
  have hb := hT.2.2.2
  have hi := hT.2.2.1
  have hc : 321 - n = (320 - n) + 1 := by omega
  have r3 : rt K 1 3 = 4 := rt_3.trans k4'
  have es : sM K = tL K := by
    have a := k4.mp k4'
    have b := (sM_b hT).2
    omega
  refine ⟨k4', fun hd => ?_, fun hd => ?_⟩
  · rw [he, hc, teR, if_pos r3, if_pos hd]
  · refine ⟨hF.tr FRn_fl, by rw [flM_20 h20]; decide, rf (rt K) 6 (rt K 1 2), ?_, by rw [flM_20 h20]; rfl⟩
    rw [he, hc, teR, if_pos r3, if_neg hd, flM_0 h20]
    show (-10 - rt K 1 2, _) = (-10 - X 58 23, _)
    rw [l23, es, rt_2, hT.2.1]
set_option maxRecDepth 100000 in
set_option maxHeartbeats 4000000 in
theorem sem_X8_land {C M : Mem} (h : RF C M) : Sem mX8_land SH [.ref 58] M (RI SH (fun r N => r = landV C ∧ RP (landU C) M N ∧ WF (landU C))) := by
  refine Sem_of rfl (fun G => (Nat.le_of_ble_eq_true rfl)) (fun G => ?_)
  refine Bd_aload_0 (pc := 0) dX8_land_0 ?_
  refine Bd_iconst (v := 0) (pc := 1) dX8_land_1 (by decide) ?_
  refine Bd_putI (j := 20) (ty := .int) ck8 (pc := 2) dX8_land_2 k_806 rfl (Nat.le_of_ble_eq_true rfl) rfl rfl pfI rfl rfl ?_
  refine Bd_aload_0 (pc := 5) dX8_land_5 ?_
  refine Bd_iconst (v := 0) (pc := 6) dX8_land_6 (by decide) ?_
  refine Bd_putI (j := 22) (ty := .int) ck8 (pc := 7) dX8_land_7 k_808 rfl (Nat.le_of_ble_eq_true rfl) rfl rfl pfI rfl rfl ?_
  refine Bd_aload_0 (pc := 10) dX8_land_10 ?_
  refine Bd_iconst (v := 0) (pc := 11) dX8_land_11 (by decide) ?_
  refine Bd_putI (j := 16) (ty := .int) ck8 (pc := 12) dX8_land_12 k_802 rfl (Nat.le_of_ble_eq_true rfl) rfl rfl pfI rfl rfl ?_
  refine Bd_aload_0 (pc := 15) dX8_land_15 ?_
  refine Bd_iconst (v := 0) (pc := 16) dX8_land_16 (by decide) ?_
  refine Bd_putI (j := 9) (ty := .int) ck8 (pc := 17) dX8_land_17 k_795 rfl (Nat.le_of_ble_eq_true rfl) rfl rfl pfI rfl rfl ?_
  refine Bd_aload_0 (pc := 20) dX8_land_20 ?_
  refine Bd_iconst (v := 0) (pc := 21) dX8_land_21 (by decide) ?_
  refine Bd_putI (j := 11) (ty := .int) ck8 (pc := 22) dX8_land_22 k_797 rfl (Nat.le_of_ble_eq_true rfl) rfl rfl pfI rfl rfl ?_
  refine Bd_aload_0 (pc := 25) dX8_land_25 ?_
  refine Bd_iconst (v := 0) (pc := 26) dX8_land_26 (by decide) ?_
  refine Bd_putI (j := 13) (ty := .int) ck8 (pc := 27) dX8_land_27 k_799 rfl (Nat.le_of_ble_eq_true rfl) rfl rfl pfI rfl rfl ?_
  refine Bd_aload_0 (pc := 30) dX8_land_30 ?_
  refine Bd_iconst (v := 0) (pc := 31) dX8_land_31 (by decide) ?_
  refine Bd_putI (j := 14) (ty := .int) ck8 (pc := 32) dX8_land_32 k_800 rfl (Nat.le_of_ble_eq_true rfl) rfl rfl pfI rfl rfl ?_
  refine Bd_aload_0 (pc := 35) dX8_land_35 ?_
  refine Bd_iconst (v := 0) (pc := 36) dX8_land_36 (by decide) ?_
  refine Bd_putI (j := 15) (ty := .int) ck8 (pc := 37) dX8_land_37 k_801 rfl (Nat.le_of_ble_eq_true rfl) rfl rfl pfI rfl rfl ?_
  refine Bd_iconst (v := 0) (pc := 40) dX8_land_40 (by decide) ?_
  refine Bd_istore_1 (pc := 41) dX8_land_41 (Nat.le_of_ble_eq_true rfl) rfl ?_
  refine Bd_iconst (v := 0) (pc := 42) dX8_land_42 (by decide) ?_
  refine Bd_istore_2 (pc := 43) dX8_land_43 (Nat.le_of_ble_eq_true rfl) rfl ?_
  refine Bd_nx (L' := [some (.ref 58), some (.int 0), some (.int 0)]) ?_ ⟨rfl, rfl, rfl, trivial⟩
  refine Bd_iload_2 (pc := 44) dX8_land_44 ?_
  refine Bd_bipush (v := 6) (pc := 45) dX8_land_45 (by decide) ?_
  refine Bd_icmp_ge (t := 91) (pc := 47) dX8_land_47 (by decide) (fun b47 => (show False from absurd b47 (by decide)).elim) (fun b47 => ?_)
  refine Bd_aload_0 (pc := 50) dX8_land_50 ?_
  refine Bd_getR (j := 7) ck8 (pc := 51) dX8_land_51 k_793 rfl (Nat.le_of_ble_eq_true rfl) rfl ?_
  refine Bd_iload_2 (pc := 54) dX8_land_54 ?_
  refine Bd_iload_2 (pc := 55) dX8_land_55 ?_
  refine Bd_iconst (v := 2) (pc := 56) dX8_land_56 (by decide) ?_
  refine Bd_icmp_ge (t := 65) (pc := 57) dX8_land_57 (by decide) (fun b57 => (show False from absurd b57 (by decide)).elim) (fun b57 => ?_)
  refine Bd_bipush (v := 9) (pc := 60) dX8_land_60 (by decide) ?_
  refine Bd_goto (t := 84) (pc := 62) dX8_land_62 (by decide) ?_
  refine Bd_iastc (j := 0) rfl (pc := 84) dX8_land_84 rfl (by unfold vp_in; decide) ?_
  refine Bd_iinc_2 (pc := 85) dX8_land_85 (show _ + Int32.ofInt 1 = _ + 1 from rfl) (Nat.le_of_ble_eq_true rfl) rfl ?_
  refine Bd_goto (t := 44) (pc := 88) dX8_land_88 (by decide) ?_
  refine Bd_nx (L' := [some (.ref 58), some (.int 0), some (.int 1)]) ?_ ⟨rfl, rfl, rfl, trivial⟩
  refine Bd_iload_2 (pc := 44) dX8_land_44 ?_
  refine Bd_bipush (v := 6) (pc := 45) dX8_land_45 (by decide) ?_
  refine Bd_icmp_ge (t := 91) (pc := 47) dX8_land_47 (by decide) (fun b47 => (show False from absurd b47 (by decide)).elim) (fun b47 => ?_)
  refine Bd_aload_0 (pc := 50) dX8_land_50 ?_
  refine Bd_getR (j := 7) ck8 (pc := 51) dX8_land_51 k_793 rfl (Nat.le_of_ble_eq_true rfl) rfl ?_
  refine Bd_iload_2 (pc := 54) dX8_land_54 ?_
  refine Bd_iload_2 (pc := 55) dX8_land_55 ?_
  refine Bd_iconst (v := 2) (pc := 56) dX8_land_56 (by decide) ?_
  refine Bd_icmp_ge (t := 65) (pc := 57) dX8_land_57 (by decide) (fun b57 => (show False from absurd b57 (by decide)).elim) (fun b57 => ?_)
  refine Bd_bipush (v := 9) (pc := 60) dX8_land_60 (by decide) ?_
  refine Bd_goto (t := 84) (pc := 62) dX8_land_62 (by decide) ?_
  refine Bd_iastc (j := 1) rfl (pc := 84) dX8_land_84 rfl (by unfold vp_in; decide) ?_
  refine Bd_iinc_2 (pc := 85) dX8_land_85 (show _ + Int32.ofInt 1 = _ + 1 from rfl) (Nat.le_of_ble_eq_true rfl) rfl ?_
  refine Bd_goto (t := 44) (pc := 88) dX8_land_88 (by decide) ?_
  refine Bd_nx (L' := [some (.ref 58), some (.int 0), some (.int 2)]) ?_ ⟨rfl, rfl, rfl, trivial⟩
  refine Bd_iload_2 (pc := 44) dX8_land_44 ?_
  refine Bd_bipush (v := 6) (pc := 45) dX8_land_45 (by decide) ?_
  refine Bd_icmp_ge (t := 91) (pc := 47) dX8_land_47 (by decide) (fun b47 => (show False from absurd b47 (by decide)).elim) (fun b47 => ?_)
  refine Bd_aload_0 (pc := 50) dX8_land_50 ?_
  refine Bd_getR (j := 7) ck8 (pc := 51) dX8_land_51 k_793 rfl (Nat.le_of_ble_eq_true rfl) rfl ?_
  refine Bd_iload_2 (pc := 54) dX8_land_54 ?_
  refine Bd_iload_2 (pc := 55) dX8_land_55 ?_
  refine Bd_iconst (v := 2) (pc := 56) dX8_land_56 (by decide) ?_
  refine Bd_icmp_ge (t := 65) (pc := 57) dX8_land_57 (by decide) (fun b57 => ?_) (fun b57 => (show False from b57 (by decide)).elim)
  refine Bd_iload_2 (pc := 65) dX8_land_65 ?_
  refine Bd_iconst (v := 2) (pc := 66) dX8_land_66 (by decide) ?_
  refine Bd_icmp_ne (t := 74) (pc := 67) dX8_land_67 (by decide) (fun b67 => (show False from b67 rfl).elim) (fun b67 => ?_)
  refine Bd_iconst (v := 2) (pc := 70) dX8_land_70 (by decide) ?_
  refine Bd_goto (t := 84) (pc := 71) dX8_land_71 (by decide) ?_
  refine Bd_iastc (j := 2) rfl (pc := 84) dX8_land_84 rfl (by unfold vp_in; decide) ?_
  refine Bd_iinc_2 (pc := 85) dX8_land_85 (show _ + Int32.ofInt 1 = _ + 1 from rfl) (Nat.le_of_ble_eq_true rfl) rfl ?_
  refine Bd_goto (t := 44) (pc := 88) dX8_land_88 (by decide) ?_
  refine Bd_nx (L' := [some (.ref 58), some (.int 0), some (.int 3)]) ?_ ⟨rfl, rfl, rfl, trivial⟩
  refine Bd_iload_2 (pc := 44) dX8_land_44 ?_
  refine Bd_bipush (v := 6) (pc := 45) dX8_land_45 (by decide) ?_
  refine Bd_icmp_ge (t := 91) (pc := 47) dX8_land_47 (by decide) (fun b47 => (show False from absurd b47 (by decide)).elim) (fun b47 => ?_)
  refine Bd_aload_0 (pc := 50) dX8_land_50 ?_
  refine Bd_getR (j := 7) ck8 (pc := 51) dX8_land_51 k_793 rfl (Nat.le_of_ble_eq_true rfl) rfl ?_
  refine Bd_iload_2 (pc := 54) dX8_land_54 ?_
  refine Bd_iload_2 (pc := 55) dX8_land_55 ?_
  refine Bd_iconst (v := 2) (pc := 56) dX8_land_56 (by decide) ?_
  refine Bd_icmp_ge (t := 65) (pc := 57) dX8_land_57 (by decide) (fun b57 => ?_) (fun b57 => (show False from b57 (by decide)).elim)
  refine Bd_iload_2 (pc := 65) dX8_land_65 ?_
  refine Bd_iconst (v := 2) (pc := 66) dX8_land_66 (by decide) ?_
  refine Bd_icmp_ne (t := 74) (pc := 67) dX8_land_67 (by decide) (fun b67 => ?_) (fun b67 => (show False from absurd b67 (by decide)).elim)
  refine Bd_iload_2 (pc := 74) dX8_land_74 ?_
  refine Bd_iconst (v := 3) (pc := 75) dX8_land_75 (by decide) ?_
  refine Bd_icmp_ne (t := 83) (pc := 76) dX8_land_76 (by decide) (fun b76 => (show False from b76 rfl).elim) (fun b76 => ?_)
  refine Bd_iconst (v := 3) (pc := 79) dX8_land_79 (by decide) ?_
  refine Bd_goto (t := 84) (pc := 80) dX8_land_80 (by decide) ?_
  refine Bd_iastc (j := 3) rfl (pc := 84) dX8_land_84 rfl (by unfold vp_in; decide) ?_
  refine Bd_iinc_2 (pc := 85) dX8_land_85 (show _ + Int32.ofInt 1 = _ + 1 from rfl) (Nat.le_of_ble_eq_true rfl) rfl ?_
  refine Bd_goto (t := 44) (pc := 88) dX8_land_88 (by decide) ?_
  refine Bd_nx (L' := [some (.ref 58), some (.int 0), some (.int 4)]) ?_ ⟨rfl, rfl, rfl, trivial⟩
  refine Bd_iload_2 (pc := 44) dX8_land_44 ?_
  refine Bd_bipush (v := 6) (pc := 45) dX8_land_45 (by decide) ?_
  refine Bd_icmp_ge (t := 91) (pc := 47) dX8_land_47 (by decide) (fun b47 => (show False from absurd b47 (by decide)).elim) (fun b47 => ?_)
  refine Bd_aload_0 (pc := 50) dX8_land_50 ?_
  refine Bd_getR (j := 7) ck8 (pc := 51) dX8_land_51 k_793 rfl (Nat.le_of_ble_eq_true rfl) rfl ?_
  refine Bd_iload_2 (pc := 54) dX8_land_54 ?_
  refine Bd_iload_2 (pc := 55) dX8_land_55 ?_
  refine Bd_iconst (v := 2) (pc := 56) dX8_land_56 (by decide) ?_
  refine Bd_icmp_ge (t := 65) (pc := 57) dX8_land_57 (by decide) (fun b57 => ?_) (fun b57 => (show False from b57 (by decide)).elim)
  refine Bd_iload_2 (pc := 65) dX8_land_65 ?_
  refine Bd_iconst (v := 2) (pc := 66) dX8_land_66 (by decide) ?_
  refine Bd_icmp_ne (t := 74) (pc := 67) dX8_land_67 (by decide) (fun b67 => ?_) (fun b67 => (show False from absurd b67 (by decide)).elim)
  refine Bd_iload_2 (pc := 74) dX8_land_74 ?_
  refine Bd_iconst (v := 3) (pc := 75) dX8_land_75 (by decide) ?_
  refine Bd_icmp_ne (t := 83) (pc := 76) dX8_land_76 (by decide) (fun b76 => ?_) (fun b76 => (show False from absurd b76 (by decide)).elim)
  refine Bd_iconst (v := 1) (pc := 83) dX8_land_83 (by decide) ?_
  refine Bd_iastc (j := 4) rfl (pc := 84) dX8_land_84 rfl (by unfold vp_in; decide) ?_
  refine Bd_iinc_2 (pc := 85) dX8_land_85 (show _ + Int32.ofInt 1 = _ + 1 from rfl) (Nat.le_of_ble_eq_true rfl) rfl ?_
  refine Bd_goto (t := 44) (pc := 88) dX8_land_88 (by decide) ?_
  refine Bd_nx (L' := [some (.ref 58), some (.int 0), some (.int 5)]) ?_ ⟨rfl, rfl, rfl, trivial⟩
  refine Bd_iload_2 (pc := 44) dX8_land_44 ?_
  refine Bd_bipush (v := 6) (pc := 45) dX8_land_45 (by decide) ?_
  refine Bd_icmp_ge (t := 91) (pc := 47) dX8_land_47 (by decide) (fun b47 => (show False from absurd b47 (by decide)).elim) (fun b47 => ?_)
  refine Bd_aload_0 (pc := 50) dX8_land_50 ?_
  refine Bd_getR (j := 7) ck8 (pc := 51) dX8_land_51 k_793 rfl (Nat.le_of_ble_eq_true rfl) rfl ?_
  refine Bd_iload_2 (pc := 54) dX8_land_54 ?_
  refine Bd_iload_2 (pc := 55) dX8_land_55 ?_
  refine Bd_iconst (v := 2) (pc := 56) dX8_land_56 (by decide) ?_
  refine Bd_icmp_ge (t := 65) (pc := 57) dX8_land_57 (by decide) (fun b57 => ?_) (fun b57 => (show False from b57 (by decide)).elim)
  refine Bd_iload_2 (pc := 65) dX8_land_65 ?_
  refine Bd_iconst (v := 2) (pc := 66) dX8_land_66 (by decide) ?_
  refine Bd_icmp_ne (t := 74) (pc := 67) dX8_land_67 (by decide) (fun b67 => ?_) (fun b67 => (show False from absurd b67 (by decide)).elim)
  refine Bd_iload_2 (pc := 74) dX8_land_74 ?_
  refine Bd_iconst (v := 3) (pc := 75) dX8_land_75 (by decide) ?_
  refine Bd_icmp_ne (t := 83) (pc := 76) dX8_land_76 (by decide) (fun b76 => ?_) (fun b76 => (show False from absurd b76 (by decide)).elim)
  refine Bd_iconst (v := 1) (pc := 83) dX8_land_83 (by decide) ?_
  refine Bd_iastc (j := 5) rfl (pc := 84) dX8_land_84 rfl (by unfold vp_in; decide) ?_
  refine Bd_iinc_2 (pc := 85) dX8_land_85 (show _ + Int32.ofInt 1 = _ + 1 from rfl) (Nat.le_of_ble_eq_true rfl) rfl ?_
  refine Bd_goto (t := 44) (pc := 88) dX8_land_88 (by decide) ?_
  refine Bd_nx (L' := [some (.ref 58), some (.int 0), some (.int 6)]) ?_ ⟨rfl, rfl, rfl, trivial⟩
  refine Bd_iload_2 (pc := 44) dX8_land_44 ?_
  refine Bd_bipush (v := 6) (pc := 45) dX8_land_45 (by decide) ?_
  refine Bd_icmp_ge (t := 91) (pc := 47) dX8_land_47 (by decide) (fun b47 => ?_) (fun b47 => (show False from b47 (by decide)).elim)
  refine Bd_cM (M := inM M) ?_ rfl
  refine Bd_aload_0 (pc := 91) dX8_land_91 ?_
  refine Bd_callV0v (cd := mX8_step) (pc := 92) dX8_land_92 k_917 v_X8_step ⟨(Nat.le_of_ble_eq_true rfl), (Nat.le_of_ble_eq_true rfl)⟩ rfl rfl (sem_X8_step' (in_RU h)) (Nat.le_of_ble_eq_true rfl) ?_
  refine Bd_nx (L' := [some (.ref 58), some (.int (nI 0)), none]) ?_ ⟨rfl, rfl, trivial⟩
  refine Bd_wh (pc := 95) (σ := Nat × Bool × Mem) (fun x => if x.2.1 = true then Lv C M x.1 x.2.2 else Fdd C M x.2.2) (fun x => if x.2.1 = true then 322 - x.1 else 0) (fun x => [some (.ref 58), some (.int (nI x.1)), none]) (fun x => x.2.2) (fun x hx ih => ?_) (0, true, stM (inM M)) (Lv_0 h)
  obtain ⟨n, b, X⟩ := x
  cases b with
  | true =>
    obtain ⟨hU, hF, K, hn, hT, hD, hS, hB, hL, hR, he⟩ := (show Lv C M n X from hx)
    show Bd mX8_land G _ SH 95 [some (.ref 58), some (.int (nI n)), none] [] X
    refine Bd_aload_0 (pc := 95) dX8_land_95 ?_
    refine Bd_getI (j := 20) ck8 (pc := 96) dX8_land_96 k_806 rfl (Nat.le_of_ble_eq_true rfl) rfl ?_
    refine Bd_if_ne (t := 119) (pc := 99) dX8_land_99 (by decide) (fun b99 => ?_) (fun b99 => ?_)
    · have hf := Lv_f hF hn hT hL he b99
      refine Bd_aload_0 (pc := 119) dX8_land_119 ?_
      refine Bd_getI (j := 20) ck8 (pc := 120) dX8_land_120 k_806 rfl (Nat.le_of_ble_eq_true rfl) rfl ?_
      refine Bd_if_ne (t := 170) (pc := 123) dX8_land_123 (by decide) (fun b123 => ?_) (fun b123 => (show False from absurd (show X 58 20 = 0 from b123) (fun z => by have q := hf.2.1; rw [z] at q; exact absurd q (by decide))).elim)
      refine Bd_aload_0 (pc := 170) dX8_land_170 ?_
      refine Bd_iconst (v := 0) (pc := 171) dX8_land_171 (by decide) ?_
      refine Bd_putI (j := 18) (ty := .int) ck8 (pc := 172) dX8_land_172 k_804 rfl (Nat.le_of_ble_eq_true rfl) rfl rfl pfI rfl rfl ?_
      refine Bd_aload_0 (pc := 175) dX8_land_175 ?_
      refine Bd_aload_0 (pc := 176) dX8_land_176 ?_
      refine Bd_getI (j := 20) ck8 (pc := 177) dX8_land_177 k_806 rfl (Nat.le_of_ble_eq_true rfl) rfl ?_
      refine Bd_putI (j := 19) (ty := .int) ck8 (pc := 180) dX8_land_180 k_805 rfl (Nat.le_of_ble_eq_true rfl) rfl rfl pfI rfl rfl ?_
      refine Bd_aload_0 (pc := 183) dX8_land_183 ?_
      refine Bd_getI (j := 20) ck8 (pc := 184) dX8_land_184 k_806 rfl (Nat.le_of_ble_eq_true rfl) rfl ?_
      refine Bd_if_le (t := 198) (pc := 187) dX8_land_187 (by decide) (fun b187 => (show False from absurd b187 (Int32.not_le.mpr (show 0 < X 58 20 from hf.2.1))).elim) (fun b187 => ?_)
      refine Bd_bipush (v := -10) (pc := 190) dX8_land_190 (by decide) ?_
      refine Bd_aload_0 (pc := 192) dX8_land_192 ?_
      refine Bd_getI (j := 21) ck8 (pc := 193) dX8_land_193 k_807 rfl (Nat.le_of_ble_eq_true rfl) rfl ?_
      refine Bd_isub (pc := 196) dX8_land_196 ?_
      refine Bd_iret (pc := 197) dX8_land_197 rfl ?_
      exact ⟨_, rfl, rfl, fin_f h hf⟩
    · refine Bd_aload_0 (pc := 102) dX8_land_102 ?_
      refine Bd_getI (j := 24) ck8 (pc := 103) dX8_land_103 k_810 rfl (Nat.le_of_ble_eq_true rfl) rfl ?_
      refine Bd_if_eq (t := 119) (pc := 106) dX8_land_106 (by decide) (fun b106 => ?_) (fun b106 => ?_)
      · have h20 : X 58 20 = 0 := b99
        have h24 : X 58 24 = 0 := b106
        have h6 := Lv_6 hF hn hT hL he h20 h24
        have hD2 : DI (rt K) := DI_c hD (rt_ne (by decide))
        have hS2 : SEn (rt K) := by unfold SEn; rw [rt_ne (by decide)]; exact hS
        have hR2 : RDr (rt K) X := RDr_cc hR (fun q a b => rt_ne (by omega)) (by rw [rt_ne (by decide)])
        refine Bd_aload_0 (pc := 119) dX8_land_119 ?_
        refine Bd_getI (j := 20) ck8 (pc := 120) dX8_land_120 k_806 rfl (Nat.le_of_ble_eq_true rfl) rfl ?_
        refine Bd_if_ne (t := 170) (pc := 123) dX8_land_123 (by decide) (fun b123 => (show False from b123 h20).elim) (fun b123 => ?_)
        refine Bd_aload_0 (pc := 126) dX8_land_126 ?_
        refine Bd_getI (j := 14) ck8 (pc := 127) dX8_land_127 k_800 rfl (Nat.le_of_ble_eq_true rfl) rfl ?_
        refine Bd_aload_0 (pc := 130) dX8_land_130 ?_
        refine Bd_getR (j := 7) ck8 (pc := 131) dX8_land_131 k_793 rfl (Nat.le_of_ble_eq_true rfl) rfl ?_
        refine Bd_iconst (v := 0) (pc := 134) dX8_land_134 (by decide) ?_
        refine Bd_ialdc (j := 0) rfl (pc := 135) dX8_land_135 rfl (by unfold vp_in; decide) ?_
        refine Bd_icmp_ge (t := 152) (pc := 136) dX8_land_136 (by decide) (fun b136 => ?_) (fun b136 => ?_)
        · refine Bd_aload_0 (pc := 152) dX8_land_152 ?_
          refine Bd_getI (j := 9) ck8 (pc := 153) dX8_land_153 k_795 rfl (Nat.le_of_ble_eq_true rfl) rfl ?_
          refine Bd_aload_0 (pc := 156) dX8_land_156 ?_
          refine Bd_getI (j := 11) ck8 (pc := 157) dX8_land_157 k_797 rfl (Nat.le_of_ble_eq_true rfl) rfl ?_
          refine Bd_iadd (pc := 160) dX8_land_160 ?_
          refine Bd_if_le (t := 170) (pc := 161) dX8_land_161 (by decide) (fun b161 => ?_) (fun b161 => ?_)
          · have hd : dsP (rt K) := (hi_sim hD2 hR2).mpr (fun z => absurd z.2 (Int32.not_lt.mpr b161))
            have he2 := h6.2.1 hd
            refine Bd_aload_0 (pc := 170) dX8_land_170 ?_
            refine Bd_iconst (v := 0) (pc := 171) dX8_land_171 (by decide) ?_
            refine Bd_putI (j := 18) (ty := .int) ck8 (pc := 172) dX8_land_172 k_804 rfl (Nat.le_of_ble_eq_true rfl) rfl rfl pfI rfl rfl ?_
            refine Bd_aload_0 (pc := 175) dX8_land_175 ?_
            refine Bd_aload_0 (pc := 176) dX8_land_176 ?_
            refine Bd_getI (j := 20) ck8 (pc := 177) dX8_land_177 k_806 rfl (Nat.le_of_ble_eq_true rfl) rfl ?_
            refine Bd_putI (j := 19) (ty := .int) ck8 (pc := 180) dX8_land_180 k_805 rfl (Nat.le_of_ble_eq_true rfl) rfl rfl pfI rfl rfl ?_
            refine Bd_aload_0 (pc := 183) dX8_land_183 ?_
            refine Bd_getI (j := 20) ck8 (pc := 184) dX8_land_184 k_806 rfl (Nat.le_of_ble_eq_true rfl) rfl ?_
            refine Bd_if_le (t := 198) (pc := 187) dX8_land_187 (by decide) (fun b187 => ?_) (fun b187 => (show False from b187 (by rw [show updM (updM X 58 18 0) 58 19 (updM X 58 18 0 58 20) 58 20 = X 58 20 from rfl, h20]; decide)).elim)
            refine Bd_cM (M := updM (updM X 58 18 0) 58 19 0) ?_ (by rw [show updM X 58 18 0 58 20 = X 58 20 from rfl, h20])
            refine Bd_aload_0 (pc := 198) dX8_land_198 ?_
            refine Bd_callV0y (cd := mX8_takes2) (pc := 199) dX8_land_199 k_953 v_X8_takes2 ⟨(Nat.le_of_ble_eq_true rfl), (Nat.le_of_ble_eq_true rfl)⟩ rfl rfl sem_X8_takes2 (Nat.le_of_ble_eq_true rfl) (fun M199 e199 => ?_)
            refine Bd_iload_1 (pc := 202) dX8_land_202 ?_
            refine Bd_iret (pc := 203) dX8_land_203 rfl ?_
            exact ⟨_, rfl, rfl, fin_s h hF hS2 hD2 hR2 hd he2 e199⟩
          · refine Bd_aload_0 (pc := 164) dX8_land_164 ?_
            refine Bd_bipush (v := 6) (pc := 165) dX8_land_165 (by decide) ?_
            refine Bd_callV1v (cd := mX8_fails) (pc := 167) dX8_land_167 k_929 v_X8_fails ⟨(Nat.le_of_ble_eq_true rfl), (Nat.le_of_ble_eq_true rfl)⟩ rfl rfl sem_X8_fails (Nat.le_of_ble_eq_true rfl) ?_
            have hnd : ¬ dsP (rt K) := fun z => (hi_sim hD2 hR2).mp z ⟨Or.inl b136, Int32.not_le.mp b161⟩
            have hf := h6.2.2 hnd
            refine Bd_aload_0 (pc := 170) dX8_land_170 ?_
            refine Bd_iconst (v := 0) (pc := 171) dX8_land_171 (by decide) ?_
            refine Bd_putI (j := 18) (ty := .int) ck8 (pc := 172) dX8_land_172 k_804 rfl (Nat.le_of_ble_eq_true rfl) rfl rfl pfI rfl rfl ?_
            refine Bd_aload_0 (pc := 175) dX8_land_175 ?_
            refine Bd_aload_0 (pc := 176) dX8_land_176 ?_
            refine Bd_getI (j := 20) ck8 (pc := 177) dX8_land_177 k_806 rfl (Nat.le_of_ble_eq_true rfl) rfl ?_
            refine Bd_putI (j := 19) (ty := .int) ck8 (pc := 180) dX8_land_180 k_805 rfl (Nat.le_of_ble_eq_true rfl) rfl rfl pfI rfl rfl ?_
            refine Bd_aload_0 (pc := 183) dX8_land_183 ?_
            refine Bd_getI (j := 20) ck8 (pc := 184) dX8_land_184 k_806 rfl (Nat.le_of_ble_eq_true rfl) rfl ?_
            refine Bd_if_le (t := 198) (pc := 187) dX8_land_187 (by decide) (fun b187 => (show False from absurd b187 (Int32.not_le.mpr (show 0 < (flM X 6) 58 20 from hf.2.1))).elim) (fun b187 => ?_)
            refine Bd_bipush (v := -10) (pc := 190) dX8_land_190 (by decide) ?_
            refine Bd_aload_0 (pc := 192) dX8_land_192 ?_
            refine Bd_getI (j := 21) ck8 (pc := 193) dX8_land_193 k_807 rfl (Nat.le_of_ble_eq_true rfl) rfl ?_
            refine Bd_isub (pc := 196) dX8_land_196 ?_
            refine Bd_iret (pc := 197) dX8_land_197 rfl ?_
            exact ⟨_, rfl, rfl, fin_f h hf⟩
        · refine Bd_aload_0 (pc := 139) dX8_land_139 ?_
          refine Bd_getI (j := 15) ck8 (pc := 140) dX8_land_140 k_801 rfl (Nat.le_of_ble_eq_true rfl) rfl ?_
          refine Bd_aload_0 (pc := 143) dX8_land_143 ?_
          refine Bd_getR (j := 7) ck8 (pc := 144) dX8_land_144 k_793 rfl (Nat.le_of_ble_eq_true rfl) rfl ?_
          refine Bd_iconst (v := 1) (pc := 147) dX8_land_147 (by decide) ?_
          refine Bd_ialdc (j := 1) rfl (pc := 148) dX8_land_148 rfl (by unfold vp_in; decide) ?_
          refine Bd_icmp_lt (t := 170) (pc := 149) dX8_land_149 (by decide) (fun b149 => ?_) (fun b149 => ?_)
          · have hd : dsP (rt K) := (hi_sim hD2 hR2).mpr (fun z => z.1.elim b136 (fun y => Int32.not_le.mpr b149 y))
            have he2 := h6.2.1 hd
            refine Bd_aload_0 (pc := 170) dX8_land_170 ?_
            refine Bd_iconst (v := 0) (pc := 171) dX8_land_171 (by decide) ?_
            refine Bd_putI (j := 18) (ty := .int) ck8 (pc := 172) dX8_land_172 k_804 rfl (Nat.le_of_ble_eq_true rfl) rfl rfl pfI rfl rfl ?_
            refine Bd_aload_0 (pc := 175) dX8_land_175 ?_
            refine Bd_aload_0 (pc := 176) dX8_land_176 ?_
            refine Bd_getI (j := 20) ck8 (pc := 177) dX8_land_177 k_806 rfl (Nat.le_of_ble_eq_true rfl) rfl ?_
            refine Bd_putI (j := 19) (ty := .int) ck8 (pc := 180) dX8_land_180 k_805 rfl (Nat.le_of_ble_eq_true rfl) rfl rfl pfI rfl rfl ?_
            refine Bd_aload_0 (pc := 183) dX8_land_183 ?_
            refine Bd_getI (j := 20) ck8 (pc := 184) dX8_land_184 k_806 rfl (Nat.le_of_ble_eq_true rfl) rfl ?_
            refine Bd_if_le (t := 198) (pc := 187) dX8_land_187 (by decide) (fun b187 => ?_) (fun b187 => (show False from b187 (by rw [show updM (updM X 58 18 0) 58 19 (updM X 58 18 0 58 20) 58 20 = X 58 20 from rfl, h20]; decide)).elim)
            refine Bd_cM (M := updM (updM X 58 18 0) 58 19 0) ?_ (by rw [show updM X 58 18 0 58 20 = X 58 20 from rfl, h20])
            refine Bd_aload_0 (pc := 198) dX8_land_198 ?_
            refine Bd_callV0y (cd := mX8_takes2) (pc := 199) dX8_land_199 k_953 v_X8_takes2 ⟨(Nat.le_of_ble_eq_true rfl), (Nat.le_of_ble_eq_true rfl)⟩ rfl rfl sem_X8_takes2 (Nat.le_of_ble_eq_true rfl) (fun M199 e199 => ?_)
            refine Bd_iload_1 (pc := 202) dX8_land_202 ?_
            refine Bd_iret (pc := 203) dX8_land_203 rfl ?_
            exact ⟨_, rfl, rfl, fin_s h hF hS2 hD2 hR2 hd he2 e199⟩
          · refine Bd_aload_0 (pc := 152) dX8_land_152 ?_
            refine Bd_getI (j := 9) ck8 (pc := 153) dX8_land_153 k_795 rfl (Nat.le_of_ble_eq_true rfl) rfl ?_
            refine Bd_aload_0 (pc := 156) dX8_land_156 ?_
            refine Bd_getI (j := 11) ck8 (pc := 157) dX8_land_157 k_797 rfl (Nat.le_of_ble_eq_true rfl) rfl ?_
            refine Bd_iadd (pc := 160) dX8_land_160 ?_
            refine Bd_if_le (t := 170) (pc := 161) dX8_land_161 (by decide) (fun b161 => ?_) (fun b161 => ?_)
            · have hd : dsP (rt K) := (hi_sim hD2 hR2).mpr (fun z => absurd z.2 (Int32.not_lt.mpr b161))
              have he2 := h6.2.1 hd
              refine Bd_aload_0 (pc := 170) dX8_land_170 ?_
              refine Bd_iconst (v := 0) (pc := 171) dX8_land_171 (by decide) ?_
              refine Bd_putI (j := 18) (ty := .int) ck8 (pc := 172) dX8_land_172 k_804 rfl (Nat.le_of_ble_eq_true rfl) rfl rfl pfI rfl rfl ?_
              refine Bd_aload_0 (pc := 175) dX8_land_175 ?_
              refine Bd_aload_0 (pc := 176) dX8_land_176 ?_
              refine Bd_getI (j := 20) ck8 (pc := 177) dX8_land_177 k_806 rfl (Nat.le_of_ble_eq_true rfl) rfl ?_
              refine Bd_putI (j := 19) (ty := .int) ck8 (pc := 180) dX8_land_180 k_805 rfl (Nat.le_of_ble_eq_true rfl) rfl rfl pfI rfl rfl ?_
              refine Bd_aload_0 (pc := 183) dX8_land_183 ?_
              refine Bd_getI (j := 20) ck8 (pc := 184) dX8_land_184 k_806 rfl (Nat.le_of_ble_eq_true rfl) rfl ?_
              refine Bd_if_le (t := 198) (pc := 187) dX8_land_187 (by decide) (fun b187 => ?_) (fun b187 => (show False from b187 (by rw [show updM (updM X 58 18 0) 58 19 (updM X 58 18 0 58 20) 58 20 = X 58 20 from rfl, h20]; decide)).elim)
              refine Bd_cM (M := updM (updM X 58 18 0) 58 19 0) ?_ (by rw [show updM X 58 18 0 58 20 = X 58 20 from rfl, h20])
              refine Bd_aload_0 (pc := 198) dX8_land_198 ?_
              refine Bd_callV0y (cd := mX8_takes2) (pc := 199) dX8_land_199 k_953 v_X8_takes2 ⟨(Nat.le_of_ble_eq_true rfl), (Nat.le_of_ble_eq_true rfl)⟩ rfl rfl sem_X8_takes2 (Nat.le_of_ble_eq_true rfl) (fun M199 e199 => ?_)
              refine Bd_iload_1 (pc := 202) dX8_land_202 ?_
              refine Bd_iret (pc := 203) dX8_land_203 rfl ?_
              exact ⟨_, rfl, rfl, fin_s h hF hS2 hD2 hR2 hd he2 e199⟩
            · refine Bd_aload_0 (pc := 164) dX8_land_164 ?_
              refine Bd_bipush (v := 6) (pc := 165) dX8_land_165 (by decide) ?_
              refine Bd_callV1v (cd := mX8_fails) (pc := 167) dX8_land_167 k_929 v_X8_fails ⟨(Nat.le_of_ble_eq_true rfl), (Nat.le_of_ble_eq_true rfl)⟩ rfl rfl sem_X8_fails (Nat.le_of_ble_eq_true rfl) ?_
              have hnd : ¬ dsP (rt K) := fun z => (hi_sim hD2 hR2).mp z ⟨Or.inr (Int32.not_lt.mp b149), Int32.not_le.mp b161⟩
              have hf := h6.2.2 hnd
              refine Bd_aload_0 (pc := 170) dX8_land_170 ?_
              refine Bd_iconst (v := 0) (pc := 171) dX8_land_171 (by decide) ?_
              refine Bd_putI (j := 18) (ty := .int) ck8 (pc := 172) dX8_land_172 k_804 rfl (Nat.le_of_ble_eq_true rfl) rfl rfl pfI rfl rfl ?_
              refine Bd_aload_0 (pc := 175) dX8_land_175 ?_
              refine Bd_aload_0 (pc := 176) dX8_land_176 ?_
              refine Bd_getI (j := 20) ck8 (pc := 177) dX8_land_177 k_806 rfl (Nat.le_of_ble_eq_true rfl) rfl ?_
              refine Bd_putI (j := 19) (ty := .int) ck8 (pc := 180) dX8_land_180 k_805 rfl (Nat.le_of_ble_eq_true rfl) rfl rfl pfI rfl rfl ?_
              refine Bd_aload_0 (pc := 183) dX8_land_183 ?_
              refine Bd_getI (j := 20) ck8 (pc := 184) dX8_land_184 k_806 rfl (Nat.le_of_ble_eq_true rfl) rfl ?_
              refine Bd_if_le (t := 198) (pc := 187) dX8_land_187 (by decide) (fun b187 => (show False from absurd b187 (Int32.not_le.mpr (show 0 < (flM X 6) 58 20 from hf.2.1))).elim) (fun b187 => ?_)
              refine Bd_bipush (v := -10) (pc := 190) dX8_land_190 (by decide) ?_
              refine Bd_aload_0 (pc := 192) dX8_land_192 ?_
              refine Bd_getI (j := 21) ck8 (pc := 193) dX8_land_193 k_807 rfl (Nat.le_of_ble_eq_true rfl) rfl ?_
              refine Bd_isub (pc := 196) dX8_land_196 ?_
              refine Bd_iret (pc := 197) dX8_land_197 rfl ?_
              exact ⟨_, rfl, rfl, fin_f h hf⟩
      · refine Bd_aload_0 (pc := 109) dX8_land_109 ?_
        refine Bd_callV0v (cd := mX8_readLine) (pc := 110) dX8_land_110 k_933 v_X8_readLine ⟨(Nat.le_of_ble_eq_true rfl), (Nat.le_of_ble_eq_true rfl)⟩ rfl rfl (sem_X8_readLine hU (RC_of hD hR) (nh_sem h hF hU hT hB hL b99) lnF_r) (Nat.le_of_ble_eq_true rfl) ?_
        refine Bd_iinc_1 (pc := 113) dX8_land_113 (show _ + Int32.ofInt 1 = _ + 1 from rfl) (Nat.le_of_ble_eq_true rfl) rfl ?_
        refine Bd_goto (t := 95) (pc := 116) dX8_land_116 (by decide) ?_
        have hz := Lv_s hU hF hn hT hD hS hB hL hR he b99 b106
        rcases hz.1 with z | z
        · exact Bd_nx (ih (n + 1, true, _) z (by show 322 - (n + 1) < 322 - n; omega)) ⟨rfl, congrArg (fun z => some (Value.int z)) (nI_succ n).symm, trivial⟩
        · exact Bd_nx (ih (n + 1, false, _) z (by show 0 < 322 - n; omega)) ⟨rfl, congrArg (fun z => some (Value.int z)) (nI_succ n).symm, trivial⟩
  | false =>
    have hf : Fdd C M X := hx
    show Bd mX8_land G _ SH 95 [some (.ref 58), some (.int (nI n)), none] [] X
    refine Bd_aload_0 (pc := 95) dX8_land_95 ?_
    refine Bd_getI (j := 20) ck8 (pc := 96) dX8_land_96 k_806 rfl (Nat.le_of_ble_eq_true rfl) rfl ?_
    refine Bd_if_ne (t := 119) (pc := 99) dX8_land_99 (by decide) (fun b99 => ?_) (fun b99 => (show False from absurd (show X 58 20 = 0 from b99) (fun z => by have q := hf.2.1; rw [z] at q; exact absurd q (by decide))).elim)
    refine Bd_aload_0 (pc := 119) dX8_land_119 ?_
    refine Bd_getI (j := 20) ck8 (pc := 120) dX8_land_120 k_806 rfl (Nat.le_of_ble_eq_true rfl) rfl ?_
    refine Bd_if_ne (t := 170) (pc := 123) dX8_land_123 (by decide) (fun b123 => ?_) (fun b123 => (show False from absurd (show X 58 20 = 0 from b123) (fun z => by have q := hf.2.1; rw [z] at q; exact absurd q (by decide))).elim)
    refine Bd_aload_0 (pc := 170) dX8_land_170 ?_
    refine Bd_iconst (v := 0) (pc := 171) dX8_land_171 (by decide) ?_
    refine Bd_putI (j := 18) (ty := .int) ck8 (pc := 172) dX8_land_172 k_804 rfl (Nat.le_of_ble_eq_true rfl) rfl rfl pfI rfl rfl ?_
    refine Bd_aload_0 (pc := 175) dX8_land_175 ?_
    refine Bd_aload_0 (pc := 176) dX8_land_176 ?_
    refine Bd_getI (j := 20) ck8 (pc := 177) dX8_land_177 k_806 rfl (Nat.le_of_ble_eq_true rfl) rfl ?_
    refine Bd_putI (j := 19) (ty := .int) ck8 (pc := 180) dX8_land_180 k_805 rfl (Nat.le_of_ble_eq_true rfl) rfl rfl pfI rfl rfl ?_
    refine Bd_aload_0 (pc := 183) dX8_land_183 ?_
    refine Bd_getI (j := 20) ck8 (pc := 184) dX8_land_184 k_806 rfl (Nat.le_of_ble_eq_true rfl) rfl ?_
    refine Bd_if_le (t := 198) (pc := 187) dX8_land_187 (by decide) (fun b187 => (show False from absurd b187 (Int32.not_le.mpr (show 0 < X 58 20 from hf.2.1))).elim) (fun b187 => ?_)
    refine Bd_bipush (v := -10) (pc := 190) dX8_land_190 (by decide) ?_
    refine Bd_aload_0 (pc := 192) dX8_land_192 ?_
    refine Bd_getI (j := 21) ck8 (pc := 193) dX8_land_193 k_807 rfl (Nat.le_of_ble_eq_true rfl) rfl ?_
    refine Bd_isub (pc := 196) dX8_land_196 ?_
    refine Bd_iret (pc := 197) dX8_land_197 rfl ?_
    exact ⟨_, rfl, rfl, fin_f h hf⟩
