/-! 17: the class: images, sheets, count -/
def setR (M : Mem) (k : Nat) (f : Nat → Int32) : Mem := fun q => if q = k then f else M q
def cpR (M : Mem) (a b n : Nat) : Mem := setR M b (fun j => if j < n then M a j else M b j)
theorem setR_ne {M : Mem} {k q : Nat} {f : Nat → Int32} (h : q ≠ k) : setR M k f q = M q := by unfold setR; rw [if_neg h]
theorem Bd_copy {d : MD} {G : GD} {R : Rv} {sh : List Ds} {pc : Nat} {L : List (Option Value)} {st : List Value} {M : Mem} {a b n0 n1 nn i : Nat} {n : Int32} (hd : decode d.2.1 pc = .ok (.invokestatic i, 3)) (hk : Cond.methodLink d.1.cls i arraycopyName ∈ TB) (h0 : sh[a]? = some (.inl (0, n0))) (h1 : sh[b]? = some (.inl (0, n1))) (hn : n.toNatClampNeg = nn) (hneg : ¬ n < 0) (l0 : nn ≤ n0) (l1 : nn ≤ n1) (hf : 1 ≤ d.2.2.2.2.frames) (hw : ((st.map (cv G)).map fun v => v.category).sum + (nativeFrameWords "java/lang/System" "arraycopy" 5 + 11) ≤ d.2.2.2.2.locals) (k2 : Bd d G R sh (pc + 3) L st (cpR M a b nn)) : Bd d G R sh pc L (.int n :: .int 0 :: .ref b :: .int 0 :: .ref a :: st) M := fun p l e0 s m ar be me c H lo ls F r q S hl P D Z => by
  subst hn
  refine va_copyi F.1 F.2.1 (by rw [hl.1]; exact F.2.2.1) F.2.2.2.1 (F.2.2.2.2 _ hk) (F.2.2.2.2 _ k_724) (F.2.2.2.2 _ k_723) (F.2.2.2.2 _ k_16) S.1 P D Z a b 0 0 (wl_at h0) (wl_at h1) rfl rfl rfl (by decide) (by decide) hneg (by simpa using l0) (by simpa using l1) (fun i hi => rfl) hf hw hd (fun H1 locs1 P1 D1 Z1 => ?_)
  have e : wl G sh (cpR M a b n.toNatClampNeg) = (wl G sh M).set b (G.2.1 b, .inl (G.2.2 0, n1, .inl (va_cpy (M a) (M b) (0 : Int32).toNatClampNeg (0 : Int32).toNatClampNeg n.toNatClampNeg))) := by
    rw [wl_upd (M := M) (M' := cpR M a b n.toNatClampNeg) h1 (fun q h => setR_ne h)]
    congr 1
    have : cpR M a b n.toNatClampNeg b = va_cpy (M a) (M b) (0 : Int32).toNatClampNeg (0 : Int32).toNatClampNeg n.toNatClampNeg := by
      funext j
      simp [cpR, setR, va_cpy]
    simp only [ent, this]
  rw [← e] at P1 D1
  exact k2 p l e0 s m ar be me c H1 locs1 ls F r q S hl P1 D1 Z1
def cfM (M : Mem) (r s : Nat) : Mem := updM (updM (cpR (cpR (cpR (cpR M (s + 1) (r + 1) 24) (s + 2) (r + 2) 24) (s + 3) (r + 3) 24) (s + 4) (r + 4) 24) r 4 (M s 4)) r 5 (M s 5)
def tkM (M : Mem) (b : Nat) : Mem := updM (cfM (updM (updM (cpR (cpR M 46 (b + 1) 6) 47 (b + 2) 6) b 3 (M 45 4)) b 4 (M 45 5)) (b + 3) 5) b 5 1
def gvM (M : Mem) (b : Nat) : Mem := cfM (updM (updM (cpR (cpR M (b + 1) 46 6) (b + 2) 47 6) 45 4 (M b 3)) 45 5 (M b 4)) 5 (b + 3)
set_option maxRecDepth 100000 in
set_option maxHeartbeats 4000000 in
theorem sem_copy_20_5 {M : Mem} : Sem mX0_copyFrom SH [.ref 20, .ref 5] M (PD SH none (cfM M 20 5)) := by
  refine Sem_of rfl (fun G => (Nat.le_of_ble_eq_true rfl)) (fun G => ?_)
  refine Bd_aload_1 (pc := 0) dX0_copyFrom_0 ?_
  refine Bd_getR (j := 0) ck0 (pc := 1) dX0_copyFrom_1 k_83 rfl (Nat.le_of_ble_eq_true rfl) rfl ?_
  refine Bd_iconst (v := 0) (pc := 4) dX0_copyFrom_4 (by decide) ?_
  refine Bd_aload_0 (pc := 5) dX0_copyFrom_5 ?_
  refine Bd_getR (j := 0) ck0 (pc := 6) dX0_copyFrom_6 k_83 rfl (Nat.le_of_ble_eq_true rfl) rfl ?_
  refine Bd_iconst (v := 0) (pc := 9) dX0_copyFrom_9 (by decide) ?_
  refine Bd_bipush (v := 24) (pc := 10) dX0_copyFrom_10 (by decide) ?_
  refine Bd_copy (nn := 24) (pc := 12) dX0_copyFrom_12 k_729 rfl rfl rfl (by decide) (Nat.le_of_ble_eq_true rfl) (Nat.le_of_ble_eq_true rfl) (Nat.le_of_ble_eq_true rfl) (Nat.le_of_ble_eq_true rfl) ?_
  refine Bd_aload_1 (pc := 15) dX0_copyFrom_15 ?_
  refine Bd_getR (j := 1) ck0 (pc := 16) dX0_copyFrom_16 k_85 rfl (Nat.le_of_ble_eq_true rfl) rfl ?_
  refine Bd_iconst (v := 0) (pc := 19) dX0_copyFrom_19 (by decide) ?_
  refine Bd_aload_0 (pc := 20) dX0_copyFrom_20 ?_
  refine Bd_getR (j := 1) ck0 (pc := 21) dX0_copyFrom_21 k_85 rfl (Nat.le_of_ble_eq_true rfl) rfl ?_
  refine Bd_iconst (v := 0) (pc := 24) dX0_copyFrom_24 (by decide) ?_
  refine Bd_bipush (v := 24) (pc := 25) dX0_copyFrom_25 (by decide) ?_
  refine Bd_copy (nn := 24) (pc := 27) dX0_copyFrom_27 k_729 rfl rfl rfl (by decide) (Nat.le_of_ble_eq_true rfl) (Nat.le_of_ble_eq_true rfl) (Nat.le_of_ble_eq_true rfl) (Nat.le_of_ble_eq_true rfl) ?_
  refine Bd_aload_1 (pc := 30) dX0_copyFrom_30 ?_
  refine Bd_getR (j := 2) ck0 (pc := 31) dX0_copyFrom_31 k_87 rfl (Nat.le_of_ble_eq_true rfl) rfl ?_
  refine Bd_iconst (v := 0) (pc := 34) dX0_copyFrom_34 (by decide) ?_
  refine Bd_aload_0 (pc := 35) dX0_copyFrom_35 ?_
  refine Bd_getR (j := 2) ck0 (pc := 36) dX0_copyFrom_36 k_87 rfl (Nat.le_of_ble_eq_true rfl) rfl ?_
  refine Bd_iconst (v := 0) (pc := 39) dX0_copyFrom_39 (by decide) ?_
  refine Bd_bipush (v := 24) (pc := 40) dX0_copyFrom_40 (by decide) ?_
  refine Bd_copy (nn := 24) (pc := 42) dX0_copyFrom_42 k_729 rfl rfl rfl (by decide) (Nat.le_of_ble_eq_true rfl) (Nat.le_of_ble_eq_true rfl) (Nat.le_of_ble_eq_true rfl) (Nat.le_of_ble_eq_true rfl) ?_
  refine Bd_aload_1 (pc := 45) dX0_copyFrom_45 ?_
  refine Bd_getR (j := 3) ck0 (pc := 46) dX0_copyFrom_46 k_89 rfl (Nat.le_of_ble_eq_true rfl) rfl ?_
  refine Bd_iconst (v := 0) (pc := 49) dX0_copyFrom_49 (by decide) ?_
  refine Bd_aload_0 (pc := 50) dX0_copyFrom_50 ?_
  refine Bd_getR (j := 3) ck0 (pc := 51) dX0_copyFrom_51 k_89 rfl (Nat.le_of_ble_eq_true rfl) rfl ?_
  refine Bd_iconst (v := 0) (pc := 54) dX0_copyFrom_54 (by decide) ?_
  refine Bd_bipush (v := 24) (pc := 55) dX0_copyFrom_55 (by decide) ?_
  refine Bd_copy (nn := 24) (pc := 57) dX0_copyFrom_57 k_729 rfl rfl rfl (by decide) (Nat.le_of_ble_eq_true rfl) (Nat.le_of_ble_eq_true rfl) (Nat.le_of_ble_eq_true rfl) (Nat.le_of_ble_eq_true rfl) ?_
  refine Bd_aload_0 (pc := 60) dX0_copyFrom_60 ?_
  refine Bd_aload_1 (pc := 61) dX0_copyFrom_61 ?_
  refine Bd_getI (j := 4) ck0 (pc := 62) dX0_copyFrom_62 k_91 rfl (Nat.le_of_ble_eq_true rfl) rfl ?_
  refine Bd_putI (j := 4) (ty := .int) ck0 (pc := 65) dX0_copyFrom_65 k_91 rfl (Nat.le_of_ble_eq_true rfl) rfl rfl pfI rfl rfl ?_
  refine Bd_aload_0 (pc := 68) dX0_copyFrom_68 ?_
  refine Bd_aload_1 (pc := 69) dX0_copyFrom_69 ?_
  refine Bd_getI (j := 5) ck0 (pc := 70) dX0_copyFrom_70 k_93 rfl (Nat.le_of_ble_eq_true rfl) rfl ?_
  refine Bd_putI (j := 5) (ty := .int) ck0 (pc := 73) dX0_copyFrom_73 k_93 rfl (Nat.le_of_ble_eq_true rfl) rfl rfl pfI rfl rfl ?_
  refine Bd_vret (pc := 76) dX0_copyFrom_76 rfl ?_
  exact PD_v rfl
set_option maxRecDepth 100000 in
set_option maxHeartbeats 4000000 in
theorem sem_copy_28_5 {M : Mem} : Sem mX0_copyFrom SH [.ref 28, .ref 5] M (PD SH none (cfM M 28 5)) := by
  refine Sem_of rfl (fun G => (Nat.le_of_ble_eq_true rfl)) (fun G => ?_)
  refine Bd_aload_1 (pc := 0) dX0_copyFrom_0 ?_
  refine Bd_getR (j := 0) ck0 (pc := 1) dX0_copyFrom_1 k_83 rfl (Nat.le_of_ble_eq_true rfl) rfl ?_
  refine Bd_iconst (v := 0) (pc := 4) dX0_copyFrom_4 (by decide) ?_
  refine Bd_aload_0 (pc := 5) dX0_copyFrom_5 ?_
  refine Bd_getR (j := 0) ck0 (pc := 6) dX0_copyFrom_6 k_83 rfl (Nat.le_of_ble_eq_true rfl) rfl ?_
  refine Bd_iconst (v := 0) (pc := 9) dX0_copyFrom_9 (by decide) ?_
  refine Bd_bipush (v := 24) (pc := 10) dX0_copyFrom_10 (by decide) ?_
  refine Bd_copy (nn := 24) (pc := 12) dX0_copyFrom_12 k_729 rfl rfl rfl (by decide) (Nat.le_of_ble_eq_true rfl) (Nat.le_of_ble_eq_true rfl) (Nat.le_of_ble_eq_true rfl) (Nat.le_of_ble_eq_true rfl) ?_
  refine Bd_aload_1 (pc := 15) dX0_copyFrom_15 ?_
  refine Bd_getR (j := 1) ck0 (pc := 16) dX0_copyFrom_16 k_85 rfl (Nat.le_of_ble_eq_true rfl) rfl ?_
  refine Bd_iconst (v := 0) (pc := 19) dX0_copyFrom_19 (by decide) ?_
  refine Bd_aload_0 (pc := 20) dX0_copyFrom_20 ?_
  refine Bd_getR (j := 1) ck0 (pc := 21) dX0_copyFrom_21 k_85 rfl (Nat.le_of_ble_eq_true rfl) rfl ?_
  refine Bd_iconst (v := 0) (pc := 24) dX0_copyFrom_24 (by decide) ?_
  refine Bd_bipush (v := 24) (pc := 25) dX0_copyFrom_25 (by decide) ?_
  refine Bd_copy (nn := 24) (pc := 27) dX0_copyFrom_27 k_729 rfl rfl rfl (by decide) (Nat.le_of_ble_eq_true rfl) (Nat.le_of_ble_eq_true rfl) (Nat.le_of_ble_eq_true rfl) (Nat.le_of_ble_eq_true rfl) ?_
  refine Bd_aload_1 (pc := 30) dX0_copyFrom_30 ?_
  refine Bd_getR (j := 2) ck0 (pc := 31) dX0_copyFrom_31 k_87 rfl (Nat.le_of_ble_eq_true rfl) rfl ?_
  refine Bd_iconst (v := 0) (pc := 34) dX0_copyFrom_34 (by decide) ?_
  refine Bd_aload_0 (pc := 35) dX0_copyFrom_35 ?_
  refine Bd_getR (j := 2) ck0 (pc := 36) dX0_copyFrom_36 k_87 rfl (Nat.le_of_ble_eq_true rfl) rfl ?_
  refine Bd_iconst (v := 0) (pc := 39) dX0_copyFrom_39 (by decide) ?_
  refine Bd_bipush (v := 24) (pc := 40) dX0_copyFrom_40 (by decide) ?_
  refine Bd_copy (nn := 24) (pc := 42) dX0_copyFrom_42 k_729 rfl rfl rfl (by decide) (Nat.le_of_ble_eq_true rfl) (Nat.le_of_ble_eq_true rfl) (Nat.le_of_ble_eq_true rfl) (Nat.le_of_ble_eq_true rfl) ?_
  refine Bd_aload_1 (pc := 45) dX0_copyFrom_45 ?_
  refine Bd_getR (j := 3) ck0 (pc := 46) dX0_copyFrom_46 k_89 rfl (Nat.le_of_ble_eq_true rfl) rfl ?_
  refine Bd_iconst (v := 0) (pc := 49) dX0_copyFrom_49 (by decide) ?_
  refine Bd_aload_0 (pc := 50) dX0_copyFrom_50 ?_
  refine Bd_getR (j := 3) ck0 (pc := 51) dX0_copyFrom_51 k_89 rfl (Nat.le_of_ble_eq_true rfl) rfl ?_
  refine Bd_iconst (v := 0) (pc := 54) dX0_copyFrom_54 (by decide) ?_
  refine Bd_bipush (v := 24) (pc := 55) dX0_copyFrom_55 (by decide) ?_
  refine Bd_copy (nn := 24) (pc := 57) dX0_copyFrom_57 k_729 rfl rfl rfl (by decide) (Nat.le_of_ble_eq_true rfl) (Nat.le_of_ble_eq_true rfl) (Nat.le_of_ble_eq_true rfl) (Nat.le_of_ble_eq_true rfl) ?_
  refine Bd_aload_0 (pc := 60) dX0_copyFrom_60 ?_
  refine Bd_aload_1 (pc := 61) dX0_copyFrom_61 ?_
  refine Bd_getI (j := 4) ck0 (pc := 62) dX0_copyFrom_62 k_91 rfl (Nat.le_of_ble_eq_true rfl) rfl ?_
  refine Bd_putI (j := 4) (ty := .int) ck0 (pc := 65) dX0_copyFrom_65 k_91 rfl (Nat.le_of_ble_eq_true rfl) rfl rfl pfI rfl rfl ?_
  refine Bd_aload_0 (pc := 68) dX0_copyFrom_68 ?_
  refine Bd_aload_1 (pc := 69) dX0_copyFrom_69 ?_
  refine Bd_getI (j := 5) ck0 (pc := 70) dX0_copyFrom_70 k_93 rfl (Nat.le_of_ble_eq_true rfl) rfl ?_
  refine Bd_putI (j := 5) (ty := .int) ck0 (pc := 73) dX0_copyFrom_73 k_93 rfl (Nat.le_of_ble_eq_true rfl) rfl rfl pfI rfl rfl ?_
  refine Bd_vret (pc := 76) dX0_copyFrom_76 rfl ?_
  exact PD_v rfl
set_option maxRecDepth 100000 in
set_option maxHeartbeats 4000000 in
theorem sem_copy_5_20 {M : Mem} : Sem mX0_copyFrom SH [.ref 5, .ref 20] M (PD SH none (cfM M 5 20)) := by
  refine Sem_of rfl (fun G => (Nat.le_of_ble_eq_true rfl)) (fun G => ?_)
  refine Bd_aload_1 (pc := 0) dX0_copyFrom_0 ?_
  refine Bd_getR (j := 0) ck0 (pc := 1) dX0_copyFrom_1 k_83 rfl (Nat.le_of_ble_eq_true rfl) rfl ?_
  refine Bd_iconst (v := 0) (pc := 4) dX0_copyFrom_4 (by decide) ?_
  refine Bd_aload_0 (pc := 5) dX0_copyFrom_5 ?_
  refine Bd_getR (j := 0) ck0 (pc := 6) dX0_copyFrom_6 k_83 rfl (Nat.le_of_ble_eq_true rfl) rfl ?_
  refine Bd_iconst (v := 0) (pc := 9) dX0_copyFrom_9 (by decide) ?_
  refine Bd_bipush (v := 24) (pc := 10) dX0_copyFrom_10 (by decide) ?_
  refine Bd_copy (nn := 24) (pc := 12) dX0_copyFrom_12 k_729 rfl rfl rfl (by decide) (Nat.le_of_ble_eq_true rfl) (Nat.le_of_ble_eq_true rfl) (Nat.le_of_ble_eq_true rfl) (Nat.le_of_ble_eq_true rfl) ?_
  refine Bd_aload_1 (pc := 15) dX0_copyFrom_15 ?_
  refine Bd_getR (j := 1) ck0 (pc := 16) dX0_copyFrom_16 k_85 rfl (Nat.le_of_ble_eq_true rfl) rfl ?_
  refine Bd_iconst (v := 0) (pc := 19) dX0_copyFrom_19 (by decide) ?_
  refine Bd_aload_0 (pc := 20) dX0_copyFrom_20 ?_
  refine Bd_getR (j := 1) ck0 (pc := 21) dX0_copyFrom_21 k_85 rfl (Nat.le_of_ble_eq_true rfl) rfl ?_
  refine Bd_iconst (v := 0) (pc := 24) dX0_copyFrom_24 (by decide) ?_
  refine Bd_bipush (v := 24) (pc := 25) dX0_copyFrom_25 (by decide) ?_
  refine Bd_copy (nn := 24) (pc := 27) dX0_copyFrom_27 k_729 rfl rfl rfl (by decide) (Nat.le_of_ble_eq_true rfl) (Nat.le_of_ble_eq_true rfl) (Nat.le_of_ble_eq_true rfl) (Nat.le_of_ble_eq_true rfl) ?_
  refine Bd_aload_1 (pc := 30) dX0_copyFrom_30 ?_
  refine Bd_getR (j := 2) ck0 (pc := 31) dX0_copyFrom_31 k_87 rfl (Nat.le_of_ble_eq_true rfl) rfl ?_
  refine Bd_iconst (v := 0) (pc := 34) dX0_copyFrom_34 (by decide) ?_
  refine Bd_aload_0 (pc := 35) dX0_copyFrom_35 ?_
  refine Bd_getR (j := 2) ck0 (pc := 36) dX0_copyFrom_36 k_87 rfl (Nat.le_of_ble_eq_true rfl) rfl ?_
  refine Bd_iconst (v := 0) (pc := 39) dX0_copyFrom_39 (by decide) ?_
  refine Bd_bipush (v := 24) (pc := 40) dX0_copyFrom_40 (by decide) ?_
  refine Bd_copy (nn := 24) (pc := 42) dX0_copyFrom_42 k_729 rfl rfl rfl (by decide) (Nat.le_of_ble_eq_true rfl) (Nat.le_of_ble_eq_true rfl) (Nat.le_of_ble_eq_true rfl) (Nat.le_of_ble_eq_true rfl) ?_
  refine Bd_aload_1 (pc := 45) dX0_copyFrom_45 ?_
  refine Bd_getR (j := 3) ck0 (pc := 46) dX0_copyFrom_46 k_89 rfl (Nat.le_of_ble_eq_true rfl) rfl ?_
  refine Bd_iconst (v := 0) (pc := 49) dX0_copyFrom_49 (by decide) ?_
  refine Bd_aload_0 (pc := 50) dX0_copyFrom_50 ?_
  refine Bd_getR (j := 3) ck0 (pc := 51) dX0_copyFrom_51 k_89 rfl (Nat.le_of_ble_eq_true rfl) rfl ?_
  refine Bd_iconst (v := 0) (pc := 54) dX0_copyFrom_54 (by decide) ?_
  refine Bd_bipush (v := 24) (pc := 55) dX0_copyFrom_55 (by decide) ?_
  refine Bd_copy (nn := 24) (pc := 57) dX0_copyFrom_57 k_729 rfl rfl rfl (by decide) (Nat.le_of_ble_eq_true rfl) (Nat.le_of_ble_eq_true rfl) (Nat.le_of_ble_eq_true rfl) (Nat.le_of_ble_eq_true rfl) ?_
  refine Bd_aload_0 (pc := 60) dX0_copyFrom_60 ?_
  refine Bd_aload_1 (pc := 61) dX0_copyFrom_61 ?_
  refine Bd_getI (j := 4) ck0 (pc := 62) dX0_copyFrom_62 k_91 rfl (Nat.le_of_ble_eq_true rfl) rfl ?_
  refine Bd_putI (j := 4) (ty := .int) ck0 (pc := 65) dX0_copyFrom_65 k_91 rfl (Nat.le_of_ble_eq_true rfl) rfl rfl pfI rfl rfl ?_
  refine Bd_aload_0 (pc := 68) dX0_copyFrom_68 ?_
  refine Bd_aload_1 (pc := 69) dX0_copyFrom_69 ?_
  refine Bd_getI (j := 5) ck0 (pc := 70) dX0_copyFrom_70 k_93 rfl (Nat.le_of_ble_eq_true rfl) rfl ?_
  refine Bd_putI (j := 5) (ty := .int) ck0 (pc := 73) dX0_copyFrom_73 k_93 rfl (Nat.le_of_ble_eq_true rfl) rfl rfl pfI rfl rfl ?_
  refine Bd_vret (pc := 76) dX0_copyFrom_76 rfl ?_
  exact PD_v rfl
set_option maxRecDepth 100000 in
set_option maxHeartbeats 4000000 in
theorem sem_copy_5_28 {M : Mem} : Sem mX0_copyFrom SH [.ref 5, .ref 28] M (PD SH none (cfM M 5 28)) := by
  refine Sem_of rfl (fun G => (Nat.le_of_ble_eq_true rfl)) (fun G => ?_)
  refine Bd_aload_1 (pc := 0) dX0_copyFrom_0 ?_
  refine Bd_getR (j := 0) ck0 (pc := 1) dX0_copyFrom_1 k_83 rfl (Nat.le_of_ble_eq_true rfl) rfl ?_
  refine Bd_iconst (v := 0) (pc := 4) dX0_copyFrom_4 (by decide) ?_
  refine Bd_aload_0 (pc := 5) dX0_copyFrom_5 ?_
  refine Bd_getR (j := 0) ck0 (pc := 6) dX0_copyFrom_6 k_83 rfl (Nat.le_of_ble_eq_true rfl) rfl ?_
  refine Bd_iconst (v := 0) (pc := 9) dX0_copyFrom_9 (by decide) ?_
  refine Bd_bipush (v := 24) (pc := 10) dX0_copyFrom_10 (by decide) ?_
  refine Bd_copy (nn := 24) (pc := 12) dX0_copyFrom_12 k_729 rfl rfl rfl (by decide) (Nat.le_of_ble_eq_true rfl) (Nat.le_of_ble_eq_true rfl) (Nat.le_of_ble_eq_true rfl) (Nat.le_of_ble_eq_true rfl) ?_
  refine Bd_aload_1 (pc := 15) dX0_copyFrom_15 ?_
  refine Bd_getR (j := 1) ck0 (pc := 16) dX0_copyFrom_16 k_85 rfl (Nat.le_of_ble_eq_true rfl) rfl ?_
  refine Bd_iconst (v := 0) (pc := 19) dX0_copyFrom_19 (by decide) ?_
  refine Bd_aload_0 (pc := 20) dX0_copyFrom_20 ?_
  refine Bd_getR (j := 1) ck0 (pc := 21) dX0_copyFrom_21 k_85 rfl (Nat.le_of_ble_eq_true rfl) rfl ?_
  refine Bd_iconst (v := 0) (pc := 24) dX0_copyFrom_24 (by decide) ?_
  refine Bd_bipush (v := 24) (pc := 25) dX0_copyFrom_25 (by decide) ?_
  refine Bd_copy (nn := 24) (pc := 27) dX0_copyFrom_27 k_729 rfl rfl rfl (by decide) (Nat.le_of_ble_eq_true rfl) (Nat.le_of_ble_eq_true rfl) (Nat.le_of_ble_eq_true rfl) (Nat.le_of_ble_eq_true rfl) ?_
  refine Bd_aload_1 (pc := 30) dX0_copyFrom_30 ?_
  refine Bd_getR (j := 2) ck0 (pc := 31) dX0_copyFrom_31 k_87 rfl (Nat.le_of_ble_eq_true rfl) rfl ?_
  refine Bd_iconst (v := 0) (pc := 34) dX0_copyFrom_34 (by decide) ?_
  refine Bd_aload_0 (pc := 35) dX0_copyFrom_35 ?_
  refine Bd_getR (j := 2) ck0 (pc := 36) dX0_copyFrom_36 k_87 rfl (Nat.le_of_ble_eq_true rfl) rfl ?_
  refine Bd_iconst (v := 0) (pc := 39) dX0_copyFrom_39 (by decide) ?_
  refine Bd_bipush (v := 24) (pc := 40) dX0_copyFrom_40 (by decide) ?_
  refine Bd_copy (nn := 24) (pc := 42) dX0_copyFrom_42 k_729 rfl rfl rfl (by decide) (Nat.le_of_ble_eq_true rfl) (Nat.le_of_ble_eq_true rfl) (Nat.le_of_ble_eq_true rfl) (Nat.le_of_ble_eq_true rfl) ?_
  refine Bd_aload_1 (pc := 45) dX0_copyFrom_45 ?_
  refine Bd_getR (j := 3) ck0 (pc := 46) dX0_copyFrom_46 k_89 rfl (Nat.le_of_ble_eq_true rfl) rfl ?_
  refine Bd_iconst (v := 0) (pc := 49) dX0_copyFrom_49 (by decide) ?_
  refine Bd_aload_0 (pc := 50) dX0_copyFrom_50 ?_
  refine Bd_getR (j := 3) ck0 (pc := 51) dX0_copyFrom_51 k_89 rfl (Nat.le_of_ble_eq_true rfl) rfl ?_
  refine Bd_iconst (v := 0) (pc := 54) dX0_copyFrom_54 (by decide) ?_
  refine Bd_bipush (v := 24) (pc := 55) dX0_copyFrom_55 (by decide) ?_
  refine Bd_copy (nn := 24) (pc := 57) dX0_copyFrom_57 k_729 rfl rfl rfl (by decide) (Nat.le_of_ble_eq_true rfl) (Nat.le_of_ble_eq_true rfl) (Nat.le_of_ble_eq_true rfl) (Nat.le_of_ble_eq_true rfl) ?_
  refine Bd_aload_0 (pc := 60) dX0_copyFrom_60 ?_
  refine Bd_aload_1 (pc := 61) dX0_copyFrom_61 ?_
  refine Bd_getI (j := 4) ck0 (pc := 62) dX0_copyFrom_62 k_91 rfl (Nat.le_of_ble_eq_true rfl) rfl ?_
  refine Bd_putI (j := 4) (ty := .int) ck0 (pc := 65) dX0_copyFrom_65 k_91 rfl (Nat.le_of_ble_eq_true rfl) rfl rfl pfI rfl rfl ?_
  refine Bd_aload_0 (pc := 68) dX0_copyFrom_68 ?_
  refine Bd_aload_1 (pc := 69) dX0_copyFrom_69 ?_
  refine Bd_getI (j := 5) ck0 (pc := 70) dX0_copyFrom_70 k_93 rfl (Nat.le_of_ble_eq_true rfl) rfl ?_
  refine Bd_putI (j := 5) (ty := .int) ck0 (pc := 73) dX0_copyFrom_73 k_93 rfl (Nat.le_of_ble_eq_true rfl) rfl rfl pfI rfl rfl ?_
  refine Bd_vret (pc := 76) dX0_copyFrom_76 rfl ?_
  exact PD_v rfl
set_option maxRecDepth 100000 in
set_option maxHeartbeats 4000000 in
theorem sem_take_17 {M : Mem} : Sem mX2_take SH [.ref 17, .ref 44, .ref 5] M (PD SH none (tkM M 17)) := by
  refine Sem_of rfl (fun G => (Nat.le_of_ble_eq_true rfl)) (fun G => ?_)
  refine Bd_aload_1 (pc := 0) dX2_take_0 ?_
  refine Bd_getR (j := 1) ck3 (pc := 1) dX2_take_1 k_152 rfl (Nat.le_of_ble_eq_true rfl) rfl ?_
  refine Bd_iconst (v := 0) (pc := 4) dX2_take_4 (by decide) ?_
  refine Bd_aload_0 (pc := 5) dX2_take_5 ?_
  refine Bd_getR (j := 0) ck2 (pc := 6) dX2_take_6 k_198 rfl (Nat.le_of_ble_eq_true rfl) rfl ?_
  refine Bd_iconst (v := 0) (pc := 9) dX2_take_9 (by decide) ?_
  refine Bd_bipush (v := 6) (pc := 10) dX2_take_10 (by decide) ?_
  refine Bd_copy (nn := 6) (pc := 12) dX2_take_12 k_722 rfl rfl rfl (by decide) (Nat.le_of_ble_eq_true rfl) (Nat.le_of_ble_eq_true rfl) (Nat.le_of_ble_eq_true rfl) (Nat.le_of_ble_eq_true rfl) ?_
  refine Bd_aload_1 (pc := 15) dX2_take_15 ?_
  refine Bd_getR (j := 2) ck3 (pc := 16) dX2_take_16 k_155 rfl (Nat.le_of_ble_eq_true rfl) rfl ?_
  refine Bd_iconst (v := 0) (pc := 19) dX2_take_19 (by decide) ?_
  refine Bd_aload_0 (pc := 20) dX2_take_20 ?_
  refine Bd_getR (j := 1) ck2 (pc := 21) dX2_take_21 k_199 rfl (Nat.le_of_ble_eq_true rfl) rfl ?_
  refine Bd_iconst (v := 0) (pc := 24) dX2_take_24 (by decide) ?_
  refine Bd_bipush (v := 6) (pc := 25) dX2_take_25 (by decide) ?_
  refine Bd_copy (nn := 6) (pc := 27) dX2_take_27 k_722 rfl rfl rfl (by decide) (Nat.le_of_ble_eq_true rfl) (Nat.le_of_ble_eq_true rfl) (Nat.le_of_ble_eq_true rfl) (Nat.le_of_ble_eq_true rfl) ?_
  refine Bd_aload_0 (pc := 30) dX2_take_30 ?_
  refine Bd_aload_1 (pc := 31) dX2_take_31 ?_
  refine Bd_getR (j := 0) ck3 (pc := 32) dX2_take_32 k_148 rfl (Nat.le_of_ble_eq_true rfl) rfl ?_
  refine Bd_iconst (v := 4) (pc := 35) dX2_take_35 (by decide) ?_
  refine Bd_ialdc (j := 4) rfl (pc := 36) dX2_take_36 rfl (by unfold vp_in; decide) ?_
  refine Bd_putI (j := 3) (ty := .int) ck2 (pc := 37) dX2_take_37 k_201 rfl (Nat.le_of_ble_eq_true rfl) rfl rfl pfI rfl rfl ?_
  refine Bd_aload_0 (pc := 40) dX2_take_40 ?_
  refine Bd_aload_1 (pc := 41) dX2_take_41 ?_
  refine Bd_getR (j := 0) ck3 (pc := 42) dX2_take_42 k_148 rfl (Nat.le_of_ble_eq_true rfl) rfl ?_
  refine Bd_iconst (v := 5) (pc := 45) dX2_take_45 (by decide) ?_
  refine Bd_ialdc (j := 5) rfl (pc := 46) dX2_take_46 rfl (by unfold vp_in; decide) ?_
  refine Bd_putI (j := 4) (ty := .int) ck2 (pc := 47) dX2_take_47 k_202 rfl (Nat.le_of_ble_eq_true rfl) rfl rfl pfI rfl rfl ?_
  refine Bd_aload_0 (pc := 50) dX2_take_50 ?_
  refine Bd_getR (j := 2) ck2 (pc := 51) dX2_take_51 k_200 rfl (Nat.le_of_ble_eq_true rfl) rfl ?_
  refine Bd_aload_2 (pc := 54) dX2_take_54 ?_
  refine Bd_callV1v (cd := mX0_copyFrom) (pc := 55) dX2_take_55 k_725 v_X0_copyFrom ⟨(Nat.le_of_ble_eq_true rfl), (Nat.le_of_ble_eq_true rfl)⟩ rfl rfl sem_copy_20_5 (Nat.le_of_ble_eq_true rfl) ?_
  refine Bd_aload_0 (pc := 58) dX2_take_58 ?_
  refine Bd_iconst (v := 1) (pc := 59) dX2_take_59 (by decide) ?_
  refine Bd_putI (j := 5) (ty := .boolean) ck2 (pc := 60) dX2_take_60 k_203 rfl (Nat.le_of_ble_eq_true rfl) rfl rfl pfZ rfl (by rfl) ?_
  refine Bd_vret (pc := 63) dX2_take_63 rfl ?_
  exact PD_v rfl
set_option maxRecDepth 100000 in
set_option maxHeartbeats 4000000 in
theorem sem_give_17 {M : Mem} : Sem mX2_give SH [.ref 17, .ref 44, .ref 5] M (PD SH none (gvM M 17)) := by
  refine Sem_of rfl (fun G => (Nat.le_of_ble_eq_true rfl)) (fun G => ?_)
  refine Bd_aload_0 (pc := 0) dX2_give_0 ?_
  refine Bd_getR (j := 0) ck2 (pc := 1) dX2_give_1 k_198 rfl (Nat.le_of_ble_eq_true rfl) rfl ?_
  refine Bd_iconst (v := 0) (pc := 4) dX2_give_4 (by decide) ?_
  refine Bd_aload_1 (pc := 5) dX2_give_5 ?_
  refine Bd_getR (j := 1) ck3 (pc := 6) dX2_give_6 k_152 rfl (Nat.le_of_ble_eq_true rfl) rfl ?_
  refine Bd_iconst (v := 0) (pc := 9) dX2_give_9 (by decide) ?_
  refine Bd_bipush (v := 6) (pc := 10) dX2_give_10 (by decide) ?_
  refine Bd_copy (nn := 6) (pc := 12) dX2_give_12 k_722 rfl rfl rfl (by decide) (Nat.le_of_ble_eq_true rfl) (Nat.le_of_ble_eq_true rfl) (Nat.le_of_ble_eq_true rfl) (Nat.le_of_ble_eq_true rfl) ?_
  refine Bd_aload_0 (pc := 15) dX2_give_15 ?_
  refine Bd_getR (j := 1) ck2 (pc := 16) dX2_give_16 k_199 rfl (Nat.le_of_ble_eq_true rfl) rfl ?_
  refine Bd_iconst (v := 0) (pc := 19) dX2_give_19 (by decide) ?_
  refine Bd_aload_1 (pc := 20) dX2_give_20 ?_
  refine Bd_getR (j := 2) ck3 (pc := 21) dX2_give_21 k_155 rfl (Nat.le_of_ble_eq_true rfl) rfl ?_
  refine Bd_iconst (v := 0) (pc := 24) dX2_give_24 (by decide) ?_
  refine Bd_bipush (v := 6) (pc := 25) dX2_give_25 (by decide) ?_
  refine Bd_copy (nn := 6) (pc := 27) dX2_give_27 k_722 rfl rfl rfl (by decide) (Nat.le_of_ble_eq_true rfl) (Nat.le_of_ble_eq_true rfl) (Nat.le_of_ble_eq_true rfl) (Nat.le_of_ble_eq_true rfl) ?_
  refine Bd_aload_1 (pc := 30) dX2_give_30 ?_
  refine Bd_getR (j := 0) ck3 (pc := 31) dX2_give_31 k_148 rfl (Nat.le_of_ble_eq_true rfl) rfl ?_
  refine Bd_iconst (v := 4) (pc := 34) dX2_give_34 (by decide) ?_
  refine Bd_aload_0 (pc := 35) dX2_give_35 ?_
  refine Bd_getI (j := 3) ck2 (pc := 36) dX2_give_36 k_201 rfl (Nat.le_of_ble_eq_true rfl) rfl ?_
  refine Bd_iastc (j := 4) rfl (pc := 39) dX2_give_39 rfl (by unfold vp_in; decide) ?_
  refine Bd_aload_1 (pc := 40) dX2_give_40 ?_
  refine Bd_getR (j := 0) ck3 (pc := 41) dX2_give_41 k_148 rfl (Nat.le_of_ble_eq_true rfl) rfl ?_
  refine Bd_iconst (v := 5) (pc := 44) dX2_give_44 (by decide) ?_
  refine Bd_aload_0 (pc := 45) dX2_give_45 ?_
  refine Bd_getI (j := 4) ck2 (pc := 46) dX2_give_46 k_202 rfl (Nat.le_of_ble_eq_true rfl) rfl ?_
  refine Bd_iastc (j := 5) rfl (pc := 49) dX2_give_49 rfl (by unfold vp_in; decide) ?_
  refine Bd_aload_2 (pc := 50) dX2_give_50 ?_
  refine Bd_aload_0 (pc := 51) dX2_give_51 ?_
  refine Bd_getR (j := 2) ck2 (pc := 52) dX2_give_52 k_200 rfl (Nat.le_of_ble_eq_true rfl) rfl ?_
  refine Bd_callV1v (cd := mX0_copyFrom) (pc := 55) dX2_give_55 k_725 v_X0_copyFrom ⟨(Nat.le_of_ble_eq_true rfl), (Nat.le_of_ble_eq_true rfl)⟩ rfl rfl sem_copy_5_20 (Nat.le_of_ble_eq_true rfl) ?_
  refine Bd_vret (pc := 58) dX2_give_58 rfl ?_
  exact PD_v rfl
set_option maxRecDepth 100000 in
set_option maxHeartbeats 4000000 in
theorem sem_take_25 {M : Mem} : Sem mX2_take SH [.ref 25, .ref 44, .ref 5] M (PD SH none (tkM M 25)) := by
  refine Sem_of rfl (fun G => (Nat.le_of_ble_eq_true rfl)) (fun G => ?_)
  refine Bd_aload_1 (pc := 0) dX2_take_0 ?_
  refine Bd_getR (j := 1) ck3 (pc := 1) dX2_take_1 k_152 rfl (Nat.le_of_ble_eq_true rfl) rfl ?_
  refine Bd_iconst (v := 0) (pc := 4) dX2_take_4 (by decide) ?_
  refine Bd_aload_0 (pc := 5) dX2_take_5 ?_
  refine Bd_getR (j := 0) ck2 (pc := 6) dX2_take_6 k_198 rfl (Nat.le_of_ble_eq_true rfl) rfl ?_
  refine Bd_iconst (v := 0) (pc := 9) dX2_take_9 (by decide) ?_
  refine Bd_bipush (v := 6) (pc := 10) dX2_take_10 (by decide) ?_
  refine Bd_copy (nn := 6) (pc := 12) dX2_take_12 k_722 rfl rfl rfl (by decide) (Nat.le_of_ble_eq_true rfl) (Nat.le_of_ble_eq_true rfl) (Nat.le_of_ble_eq_true rfl) (Nat.le_of_ble_eq_true rfl) ?_
  refine Bd_aload_1 (pc := 15) dX2_take_15 ?_
  refine Bd_getR (j := 2) ck3 (pc := 16) dX2_take_16 k_155 rfl (Nat.le_of_ble_eq_true rfl) rfl ?_
  refine Bd_iconst (v := 0) (pc := 19) dX2_take_19 (by decide) ?_
  refine Bd_aload_0 (pc := 20) dX2_take_20 ?_
  refine Bd_getR (j := 1) ck2 (pc := 21) dX2_take_21 k_199 rfl (Nat.le_of_ble_eq_true rfl) rfl ?_
  refine Bd_iconst (v := 0) (pc := 24) dX2_take_24 (by decide) ?_
  refine Bd_bipush (v := 6) (pc := 25) dX2_take_25 (by decide) ?_
  refine Bd_copy (nn := 6) (pc := 27) dX2_take_27 k_722 rfl rfl rfl (by decide) (Nat.le_of_ble_eq_true rfl) (Nat.le_of_ble_eq_true rfl) (Nat.le_of_ble_eq_true rfl) (Nat.le_of_ble_eq_true rfl) ?_
  refine Bd_aload_0 (pc := 30) dX2_take_30 ?_
  refine Bd_aload_1 (pc := 31) dX2_take_31 ?_
  refine Bd_getR (j := 0) ck3 (pc := 32) dX2_take_32 k_148 rfl (Nat.le_of_ble_eq_true rfl) rfl ?_
  refine Bd_iconst (v := 4) (pc := 35) dX2_take_35 (by decide) ?_
  refine Bd_ialdc (j := 4) rfl (pc := 36) dX2_take_36 rfl (by unfold vp_in; decide) ?_
  refine Bd_putI (j := 3) (ty := .int) ck2 (pc := 37) dX2_take_37 k_201 rfl (Nat.le_of_ble_eq_true rfl) rfl rfl pfI rfl rfl ?_
  refine Bd_aload_0 (pc := 40) dX2_take_40 ?_
  refine Bd_aload_1 (pc := 41) dX2_take_41 ?_
  refine Bd_getR (j := 0) ck3 (pc := 42) dX2_take_42 k_148 rfl (Nat.le_of_ble_eq_true rfl) rfl ?_
  refine Bd_iconst (v := 5) (pc := 45) dX2_take_45 (by decide) ?_
  refine Bd_ialdc (j := 5) rfl (pc := 46) dX2_take_46 rfl (by unfold vp_in; decide) ?_
  refine Bd_putI (j := 4) (ty := .int) ck2 (pc := 47) dX2_take_47 k_202 rfl (Nat.le_of_ble_eq_true rfl) rfl rfl pfI rfl rfl ?_
  refine Bd_aload_0 (pc := 50) dX2_take_50 ?_
  refine Bd_getR (j := 2) ck2 (pc := 51) dX2_take_51 k_200 rfl (Nat.le_of_ble_eq_true rfl) rfl ?_
  refine Bd_aload_2 (pc := 54) dX2_take_54 ?_
  refine Bd_callV1v (cd := mX0_copyFrom) (pc := 55) dX2_take_55 k_725 v_X0_copyFrom ⟨(Nat.le_of_ble_eq_true rfl), (Nat.le_of_ble_eq_true rfl)⟩ rfl rfl sem_copy_28_5 (Nat.le_of_ble_eq_true rfl) ?_
  refine Bd_aload_0 (pc := 58) dX2_take_58 ?_
  refine Bd_iconst (v := 1) (pc := 59) dX2_take_59 (by decide) ?_
  refine Bd_putI (j := 5) (ty := .boolean) ck2 (pc := 60) dX2_take_60 k_203 rfl (Nat.le_of_ble_eq_true rfl) rfl rfl pfZ rfl (by rfl) ?_
  refine Bd_vret (pc := 63) dX2_take_63 rfl ?_
  exact PD_v rfl
set_option maxRecDepth 100000 in
set_option maxHeartbeats 4000000 in
theorem sem_give_25 {M : Mem} : Sem mX2_give SH [.ref 25, .ref 44, .ref 5] M (PD SH none (gvM M 25)) := by
  refine Sem_of rfl (fun G => (Nat.le_of_ble_eq_true rfl)) (fun G => ?_)
  refine Bd_aload_0 (pc := 0) dX2_give_0 ?_
  refine Bd_getR (j := 0) ck2 (pc := 1) dX2_give_1 k_198 rfl (Nat.le_of_ble_eq_true rfl) rfl ?_
  refine Bd_iconst (v := 0) (pc := 4) dX2_give_4 (by decide) ?_
  refine Bd_aload_1 (pc := 5) dX2_give_5 ?_
  refine Bd_getR (j := 1) ck3 (pc := 6) dX2_give_6 k_152 rfl (Nat.le_of_ble_eq_true rfl) rfl ?_
  refine Bd_iconst (v := 0) (pc := 9) dX2_give_9 (by decide) ?_
  refine Bd_bipush (v := 6) (pc := 10) dX2_give_10 (by decide) ?_
  refine Bd_copy (nn := 6) (pc := 12) dX2_give_12 k_722 rfl rfl rfl (by decide) (Nat.le_of_ble_eq_true rfl) (Nat.le_of_ble_eq_true rfl) (Nat.le_of_ble_eq_true rfl) (Nat.le_of_ble_eq_true rfl) ?_
  refine Bd_aload_0 (pc := 15) dX2_give_15 ?_
  refine Bd_getR (j := 1) ck2 (pc := 16) dX2_give_16 k_199 rfl (Nat.le_of_ble_eq_true rfl) rfl ?_
  refine Bd_iconst (v := 0) (pc := 19) dX2_give_19 (by decide) ?_
  refine Bd_aload_1 (pc := 20) dX2_give_20 ?_
  refine Bd_getR (j := 2) ck3 (pc := 21) dX2_give_21 k_155 rfl (Nat.le_of_ble_eq_true rfl) rfl ?_
  refine Bd_iconst (v := 0) (pc := 24) dX2_give_24 (by decide) ?_
  refine Bd_bipush (v := 6) (pc := 25) dX2_give_25 (by decide) ?_
  refine Bd_copy (nn := 6) (pc := 27) dX2_give_27 k_722 rfl rfl rfl (by decide) (Nat.le_of_ble_eq_true rfl) (Nat.le_of_ble_eq_true rfl) (Nat.le_of_ble_eq_true rfl) (Nat.le_of_ble_eq_true rfl) ?_
  refine Bd_aload_1 (pc := 30) dX2_give_30 ?_
  refine Bd_getR (j := 0) ck3 (pc := 31) dX2_give_31 k_148 rfl (Nat.le_of_ble_eq_true rfl) rfl ?_
  refine Bd_iconst (v := 4) (pc := 34) dX2_give_34 (by decide) ?_
  refine Bd_aload_0 (pc := 35) dX2_give_35 ?_
  refine Bd_getI (j := 3) ck2 (pc := 36) dX2_give_36 k_201 rfl (Nat.le_of_ble_eq_true rfl) rfl ?_
  refine Bd_iastc (j := 4) rfl (pc := 39) dX2_give_39 rfl (by unfold vp_in; decide) ?_
  refine Bd_aload_1 (pc := 40) dX2_give_40 ?_
  refine Bd_getR (j := 0) ck3 (pc := 41) dX2_give_41 k_148 rfl (Nat.le_of_ble_eq_true rfl) rfl ?_
  refine Bd_iconst (v := 5) (pc := 44) dX2_give_44 (by decide) ?_
  refine Bd_aload_0 (pc := 45) dX2_give_45 ?_
  refine Bd_getI (j := 4) ck2 (pc := 46) dX2_give_46 k_202 rfl (Nat.le_of_ble_eq_true rfl) rfl ?_
  refine Bd_iastc (j := 5) rfl (pc := 49) dX2_give_49 rfl (by unfold vp_in; decide) ?_
  refine Bd_aload_2 (pc := 50) dX2_give_50 ?_
  refine Bd_aload_0 (pc := 51) dX2_give_51 ?_
  refine Bd_getR (j := 2) ck2 (pc := 52) dX2_give_52 k_200 rfl (Nat.le_of_ble_eq_true rfl) rfl ?_
  refine Bd_callV1v (cd := mX0_copyFrom) (pc := 55) dX2_give_55 k_725 v_X0_copyFrom ⟨(Nat.le_of_ble_eq_true rfl), (Nat.le_of_ble_eq_true rfl)⟩ rfl rfl sem_copy_5_28 (Nat.le_of_ble_eq_true rfl) ?_
  refine Bd_vret (pc := 58) dX2_give_58 rfl ?_
  exact PD_v rfl
theorem k2_c {k : Int32} (h : 0 ≤ k ∧ k < 2) : k = 0 ∨ k = 1 := by
  rcases Decidable.em (k = 0) with q | q
  · exact Or.inl q
  · exact Or.inr (k2_1 h q)
theorem k4_c {k : Int32} (h : 0 ≤ k ∧ k < 4) : k = 0 ∨ k = 1 ∨ k = 2 ∨ k = 3 := by
  obtain ⟨h1, h2⟩ := h
  rw [Int32.le_iff_toInt_le, Int32.toInt_zero] at h1
  rw [Int32.lt_iff_toInt_lt, show (4 : Int32).toInt = 4 by decide] at h2
  have e : k.toInt = 0 ∨ k.toInt = 1 ∨ k.toInt = 2 ∨ k.toInt = 3 := by omega
  rcases e with q | q | q | q
  · exact Or.inl (Int32.toInt_inj.mp q)
  · exact Or.inr (Or.inl (Int32.toInt_inj.mp q))
  · exact Or.inr (Or.inr (Or.inl (Int32.toInt_inj.mp q)))
  · exact Or.inr (Or.inr (Or.inr (Int32.toInt_inj.mp q)))
def keepV (M : Mem) (k : Int32) : Int32 := if k = 0 then (if M 17 5 = 0 then 0 else 1) else if k = 1 then (if M 25 5 = 0 then 0 else 1) else -1
def keepU (M : Mem) (k : Int32) : Mem := if k = 0 then tkM M 17 else if k = 1 then tkM M 25 else M
def backV (M : Mem) (k : Int32) : Int32 := if k = 0 then (if M 17 5 = 0 then -2 else M 20 4) else if k = 1 then (if M 25 5 = 0 then -2 else M 28 4) else -1
def backU (M : Mem) (k : Int32) : Mem := if k = 0 then (if M 17 5 = 0 then M else gvM M 17) else if k = 1 then (if M 25 5 = 0 then M else gvM M 25) else M
theorem k2_n {k : Int32} (h : ¬ (0 ≤ k ∧ k < 2)) : ¬ k = 0 ∧ ¬ k = 1 := ⟨fun q => h (by rw [q]; decide), fun q => h (by rw [q]; decide)⟩
theorem k4_n {k : Int32} (h : ¬ (0 ≤ k ∧ k < 4)) : ¬ k = 0 ∧ ¬ k = 1 ∧ ¬ k = 2 ∧ ¬ k = 3 := ⟨fun q => h (by rw [q]; decide), fun q => h (by rw [q]; decide), fun q => h (by rw [q]; decide), fun q => h (by rw [q]; decide)⟩
set_option maxRecDepth 100000 in
set_option maxHeartbeats 4000000 in
theorem sem_X7_keep {M : Mem} {k : Int32} : Sem mX7_keep SH [.ref 0, .int k] M (PD SH (some (.int (keepV M k))) (keepU M k)) := by
  refine Sem_of rfl (fun G => (Nat.le_of_ble_eq_true rfl)) (fun G => ?_)
  by_cases hk : 0 ≤ k ∧ k < 2
  · rcases k2_c hk with rfl | rfl
    · refine Bd_iload_1 (pc := 0) dX7_keep_0 ?_
      refine Bd_iconst (v := 2) (pc := 1) dX7_keep_1 (by decide) ?_
      refine Bd_callS2i (cd := mX7_isWithin) (pc := 2) dX7_keep_2 k_448 v_X7_isWithin ⟨(Nat.le_of_ble_eq_true rfl), (Nat.le_of_ble_eq_true rfl)⟩ sem_X7_isWithin (Nat.le_of_ble_eq_true rfl) ?_
      refine Bd_if_ne (t := 10) (pc := 5) dX7_keep_5 (by decide) (fun b5 => ?_) (fun b5 => (show False from absurd ((b2_t hk).trans b5) (by decide)).elim)
      refine Bd_aload_0 (pc := 10) dX7_keep_10 ?_
      refine Bd_getR (j := 4) ck7 (pc := 11) dX7_keep_11 k_239 rfl (Nat.le_of_ble_eq_true rfl) rfl ?_
      refine Bd_iload_1 (pc := 14) dX7_keep_14 ?_
      refine Bd_aald (pc := 15) dX7_keep_15 rfl (fun _ => rfl) (by unfold vp_in; decide) rfl ?_
      refine Bd_getI (j := 5) ck2 (pc := 16) dX7_keep_16 k_204 rfl (Nat.le_of_ble_eq_true rfl) rfl ?_
      refine Bd_istore_2 (pc := 19) dX7_keep_19 (Nat.le_of_ble_eq_true rfl) rfl ?_
      refine Bd_aload_0 (pc := 20) dX7_keep_20 ?_
      refine Bd_getR (j := 4) ck7 (pc := 21) dX7_keep_21 k_239 rfl (Nat.le_of_ble_eq_true rfl) rfl ?_
      refine Bd_iload_1 (pc := 24) dX7_keep_24 ?_
      refine Bd_aald (pc := 25) dX7_keep_25 rfl (fun _ => rfl) (by unfold vp_in; decide) rfl ?_
      refine Bd_aload_0 (pc := 26) dX7_keep_26 ?_
      refine Bd_getR (j := 8) ck7 (pc := 27) dX7_keep_27 k_243 rfl (Nat.le_of_ble_eq_true rfl) rfl ?_
      refine Bd_aload_0 (pc := 30) dX7_keep_30 ?_
      refine Bd_getR (j := 2) ck7 (pc := 31) dX7_keep_31 k_237 rfl (Nat.le_of_ble_eq_true rfl) rfl ?_
      refine Bd_callV2v (cd := mX2_take) (pc := 34) dX7_keep_34 k_718 v_X2_take ⟨(Nat.le_of_ble_eq_true rfl), (Nat.le_of_ble_eq_true rfl)⟩ rfl rfl sem_take_17 (Nat.le_of_ble_eq_true rfl) ?_
      refine Bd_iload_2 (pc := 37) dX7_keep_37 ?_
      refine Bd_if_eq (t := 45) (pc := 38) dX7_keep_38 (by decide) (fun b38 => ?_) (fun b38 => ?_)
      · refine Bd_iconst (v := 0) (pc := 45) dX7_keep_45 (by decide) ?_
        refine Bd_iret (pc := 46) dX7_keep_46 rfl ?_
        exact ⟨by rw [keepV, if_pos rfl, if_pos b38], rfl, rfl⟩
      · refine Bd_iconst (v := 1) (pc := 41) dX7_keep_41 (by decide) ?_
        refine Bd_goto (t := 46) (pc := 42) dX7_keep_42 (by decide) ?_
        refine Bd_iret (pc := 46) dX7_keep_46 rfl ?_
        exact ⟨by rw [keepV, if_pos rfl, if_neg b38], rfl, rfl⟩
    · refine Bd_iload_1 (pc := 0) dX7_keep_0 ?_
      refine Bd_iconst (v := 2) (pc := 1) dX7_keep_1 (by decide) ?_
      refine Bd_callS2i (cd := mX7_isWithin) (pc := 2) dX7_keep_2 k_448 v_X7_isWithin ⟨(Nat.le_of_ble_eq_true rfl), (Nat.le_of_ble_eq_true rfl)⟩ sem_X7_isWithin (Nat.le_of_ble_eq_true rfl) ?_
      refine Bd_if_ne (t := 10) (pc := 5) dX7_keep_5 (by decide) (fun b5 => ?_) (fun b5 => (show False from absurd ((b2_t hk).trans b5) (by decide)).elim)
      refine Bd_aload_0 (pc := 10) dX7_keep_10 ?_
      refine Bd_getR (j := 4) ck7 (pc := 11) dX7_keep_11 k_239 rfl (Nat.le_of_ble_eq_true rfl) rfl ?_
      refine Bd_iload_1 (pc := 14) dX7_keep_14 ?_
      refine Bd_aald (pc := 15) dX7_keep_15 rfl (fun _ => rfl) (by unfold vp_in; decide) rfl ?_
      refine Bd_getI (j := 5) ck2 (pc := 16) dX7_keep_16 k_204 rfl (Nat.le_of_ble_eq_true rfl) rfl ?_
      refine Bd_istore_2 (pc := 19) dX7_keep_19 (Nat.le_of_ble_eq_true rfl) rfl ?_
      refine Bd_aload_0 (pc := 20) dX7_keep_20 ?_
      refine Bd_getR (j := 4) ck7 (pc := 21) dX7_keep_21 k_239 rfl (Nat.le_of_ble_eq_true rfl) rfl ?_
      refine Bd_iload_1 (pc := 24) dX7_keep_24 ?_
      refine Bd_aald (pc := 25) dX7_keep_25 rfl (fun _ => rfl) (by unfold vp_in; decide) rfl ?_
      refine Bd_aload_0 (pc := 26) dX7_keep_26 ?_
      refine Bd_getR (j := 8) ck7 (pc := 27) dX7_keep_27 k_243 rfl (Nat.le_of_ble_eq_true rfl) rfl ?_
      refine Bd_aload_0 (pc := 30) dX7_keep_30 ?_
      refine Bd_getR (j := 2) ck7 (pc := 31) dX7_keep_31 k_237 rfl (Nat.le_of_ble_eq_true rfl) rfl ?_
      refine Bd_callV2v (cd := mX2_take) (pc := 34) dX7_keep_34 k_718 v_X2_take ⟨(Nat.le_of_ble_eq_true rfl), (Nat.le_of_ble_eq_true rfl)⟩ rfl rfl sem_take_25 (Nat.le_of_ble_eq_true rfl) ?_
      refine Bd_iload_2 (pc := 37) dX7_keep_37 ?_
      refine Bd_if_eq (t := 45) (pc := 38) dX7_keep_38 (by decide) (fun b38 => ?_) (fun b38 => ?_)
      · refine Bd_iconst (v := 0) (pc := 45) dX7_keep_45 (by decide) ?_
        refine Bd_iret (pc := 46) dX7_keep_46 rfl ?_
        exact ⟨by rw [keepV, if_neg (by decide), if_pos rfl, if_pos b38], rfl, rfl⟩
      · refine Bd_iconst (v := 1) (pc := 41) dX7_keep_41 (by decide) ?_
        refine Bd_goto (t := 46) (pc := 42) dX7_keep_42 (by decide) ?_
        refine Bd_iret (pc := 46) dX7_keep_46 rfl ?_
        exact ⟨by rw [keepV, if_neg (by decide), if_pos rfl, if_neg b38], rfl, rfl⟩
  · refine Bd_iload_1 (pc := 0) dX7_keep_0 ?_
    refine Bd_iconst (v := 2) (pc := 1) dX7_keep_1 (by decide) ?_
    refine Bd_callS2i (cd := mX7_isWithin) (pc := 2) dX7_keep_2 k_448 v_X7_isWithin ⟨(Nat.le_of_ble_eq_true rfl), (Nat.le_of_ble_eq_true rfl)⟩ sem_X7_isWithin (Nat.le_of_ble_eq_true rfl) ?_
    refine Bd_if_ne (t := 10) (pc := 5) dX7_keep_5 (by decide) (fun b5 => (show False from b5 (b2_f hk).symm).elim) (fun b5 => ?_)
    refine Bd_iconst (v := -1) (pc := 8) dX7_keep_8 (by decide) ?_
    refine Bd_iret (pc := 9) dX7_keep_9 rfl ?_
    have hq := k2_n hk
    exact ⟨by rw [keepV, if_neg hq.1, if_neg hq.2], rfl, by rw [keepU, if_neg hq.1, if_neg hq.2]⟩
set_option maxRecDepth 100000 in
set_option maxHeartbeats 4000000 in
theorem sem_X7_back {M : Mem} {k : Int32} : Sem mX7_back SH [.ref 0, .int k] M (PD SH (some (.int (backV M k))) (backU M k)) := by
  refine Sem_of rfl (fun G => (Nat.le_of_ble_eq_true rfl)) (fun G => ?_)
  by_cases hk : 0 ≤ k ∧ k < 2
  · rcases k2_c hk with rfl | rfl
    · refine Bd_iload_1 (pc := 0) dX7_back_0 ?_
      refine Bd_iconst (v := 2) (pc := 1) dX7_back_1 (by decide) ?_
      refine Bd_callS2i (cd := mX7_isWithin) (pc := 2) dX7_back_2 k_448 v_X7_isWithin ⟨(Nat.le_of_ble_eq_true rfl), (Nat.le_of_ble_eq_true rfl)⟩ sem_X7_isWithin (Nat.le_of_ble_eq_true rfl) ?_
      refine Bd_if_ne (t := 10) (pc := 5) dX7_back_5 (by decide) (fun b5 => ?_) (fun b5 => (show False from absurd ((b2_t hk).trans b5) (by decide)).elim)
      refine Bd_aload_0 (pc := 10) dX7_back_10 ?_
      refine Bd_getR (j := 4) ck7 (pc := 11) dX7_back_11 k_239 rfl (Nat.le_of_ble_eq_true rfl) rfl ?_
      refine Bd_iload_1 (pc := 14) dX7_back_14 ?_
      refine Bd_aald (pc := 15) dX7_back_15 rfl (fun _ => rfl) (by unfold vp_in; decide) rfl ?_
      refine Bd_getI (j := 5) ck2 (pc := 16) dX7_back_16 k_204 rfl (Nat.le_of_ble_eq_true rfl) rfl ?_
      refine Bd_if_ne (t := 25) (pc := 19) dX7_back_19 (by decide) (fun b19 => ?_) (fun b19 => ?_)
      · refine Bd_aload_0 (pc := 25) dX7_back_25 ?_
        refine Bd_getR (j := 4) ck7 (pc := 26) dX7_back_26 k_239 rfl (Nat.le_of_ble_eq_true rfl) rfl ?_
        refine Bd_iload_1 (pc := 29) dX7_back_29 ?_
        refine Bd_aald (pc := 30) dX7_back_30 rfl (fun _ => rfl) (by unfold vp_in; decide) rfl ?_
        refine Bd_aload_0 (pc := 31) dX7_back_31 ?_
        refine Bd_getR (j := 8) ck7 (pc := 32) dX7_back_32 k_243 rfl (Nat.le_of_ble_eq_true rfl) rfl ?_
        refine Bd_aload_0 (pc := 35) dX7_back_35 ?_
        refine Bd_getR (j := 2) ck7 (pc := 36) dX7_back_36 k_237 rfl (Nat.le_of_ble_eq_true rfl) rfl ?_
        refine Bd_callV2v (cd := mX2_give) (pc := 39) dX7_back_39 k_734 v_X2_give ⟨(Nat.le_of_ble_eq_true rfl), (Nat.le_of_ble_eq_true rfl)⟩ rfl rfl sem_give_17 (Nat.le_of_ble_eq_true rfl) ?_
        refine Bd_aload_0 (pc := 42) dX7_back_42 ?_
        refine Bd_getR (j := 2) ck7 (pc := 43) dX7_back_43 k_237 rfl (Nat.le_of_ble_eq_true rfl) rfl ?_
        refine Bd_getI (j := 4) ck0 (pc := 46) dX7_back_46 k_92 rfl (Nat.le_of_ble_eq_true rfl) rfl ?_
        refine Bd_iret (pc := 49) dX7_back_49 rfl ?_
        exact ⟨by rw [backV, if_pos rfl, if_neg b19]; rfl, rfl, by rw [backU, if_pos rfl, if_neg b19]⟩
      · refine Bd_bipush (v := -2) (pc := 22) dX7_back_22 (by decide) ?_
        refine Bd_iret (pc := 24) dX7_back_24 rfl ?_
        exact ⟨by rw [backV, if_pos rfl, if_pos b19], rfl, by rw [backU, if_pos rfl, if_pos b19]⟩
    · refine Bd_iload_1 (pc := 0) dX7_back_0 ?_
      refine Bd_iconst (v := 2) (pc := 1) dX7_back_1 (by decide) ?_
      refine Bd_callS2i (cd := mX7_isWithin) (pc := 2) dX7_back_2 k_448 v_X7_isWithin ⟨(Nat.le_of_ble_eq_true rfl), (Nat.le_of_ble_eq_true rfl)⟩ sem_X7_isWithin (Nat.le_of_ble_eq_true rfl) ?_
      refine Bd_if_ne (t := 10) (pc := 5) dX7_back_5 (by decide) (fun b5 => ?_) (fun b5 => (show False from absurd ((b2_t hk).trans b5) (by decide)).elim)
      refine Bd_aload_0 (pc := 10) dX7_back_10 ?_
      refine Bd_getR (j := 4) ck7 (pc := 11) dX7_back_11 k_239 rfl (Nat.le_of_ble_eq_true rfl) rfl ?_
      refine Bd_iload_1 (pc := 14) dX7_back_14 ?_
      refine Bd_aald (pc := 15) dX7_back_15 rfl (fun _ => rfl) (by unfold vp_in; decide) rfl ?_
      refine Bd_getI (j := 5) ck2 (pc := 16) dX7_back_16 k_204 rfl (Nat.le_of_ble_eq_true rfl) rfl ?_
      refine Bd_if_ne (t := 25) (pc := 19) dX7_back_19 (by decide) (fun b19 => ?_) (fun b19 => ?_)
      · refine Bd_aload_0 (pc := 25) dX7_back_25 ?_
        refine Bd_getR (j := 4) ck7 (pc := 26) dX7_back_26 k_239 rfl (Nat.le_of_ble_eq_true rfl) rfl ?_
        refine Bd_iload_1 (pc := 29) dX7_back_29 ?_
        refine Bd_aald (pc := 30) dX7_back_30 rfl (fun _ => rfl) (by unfold vp_in; decide) rfl ?_
        refine Bd_aload_0 (pc := 31) dX7_back_31 ?_
        refine Bd_getR (j := 8) ck7 (pc := 32) dX7_back_32 k_243 rfl (Nat.le_of_ble_eq_true rfl) rfl ?_
        refine Bd_aload_0 (pc := 35) dX7_back_35 ?_
        refine Bd_getR (j := 2) ck7 (pc := 36) dX7_back_36 k_237 rfl (Nat.le_of_ble_eq_true rfl) rfl ?_
        refine Bd_callV2v (cd := mX2_give) (pc := 39) dX7_back_39 k_734 v_X2_give ⟨(Nat.le_of_ble_eq_true rfl), (Nat.le_of_ble_eq_true rfl)⟩ rfl rfl sem_give_25 (Nat.le_of_ble_eq_true rfl) ?_
        refine Bd_aload_0 (pc := 42) dX7_back_42 ?_
        refine Bd_getR (j := 2) ck7 (pc := 43) dX7_back_43 k_237 rfl (Nat.le_of_ble_eq_true rfl) rfl ?_
        refine Bd_getI (j := 4) ck0 (pc := 46) dX7_back_46 k_92 rfl (Nat.le_of_ble_eq_true rfl) rfl ?_
        refine Bd_iret (pc := 49) dX7_back_49 rfl ?_
        exact ⟨by rw [backV, if_neg (by decide), if_pos rfl, if_neg b19]; rfl, rfl, by rw [backU, if_neg (by decide), if_pos rfl, if_neg b19]⟩
      · refine Bd_bipush (v := -2) (pc := 22) dX7_back_22 (by decide) ?_
        refine Bd_iret (pc := 24) dX7_back_24 rfl ?_
        exact ⟨by rw [backV, if_neg (by decide), if_pos rfl, if_pos b19], rfl, by rw [backU, if_neg (by decide), if_pos rfl, if_pos b19]⟩
  · refine Bd_iload_1 (pc := 0) dX7_back_0 ?_
    refine Bd_iconst (v := 2) (pc := 1) dX7_back_1 (by decide) ?_
    refine Bd_callS2i (cd := mX7_isWithin) (pc := 2) dX7_back_2 k_448 v_X7_isWithin ⟨(Nat.le_of_ble_eq_true rfl), (Nat.le_of_ble_eq_true rfl)⟩ sem_X7_isWithin (Nat.le_of_ble_eq_true rfl) ?_
    refine Bd_if_ne (t := 10) (pc := 5) dX7_back_5 (by decide) (fun b5 => (show False from b5 (b2_f hk).symm).elim) (fun b5 => ?_)
    refine Bd_iconst (v := -1) (pc := 8) dX7_back_8 (by decide) ?_
    refine Bd_iret (pc := 9) dX7_back_9 rfl ?_
    have hq := k2_n hk
    exact ⟨by rw [backV, if_neg hq.1, if_neg hq.2], rfl, by rw [backU, if_neg hq.1, if_neg hq.2]⟩
def zrR (M : Mem) (b i : Nat) : Mem := setR M b (fun j => if j < i then 0 else M b j)
theorem zrR_0 {M : Mem} {b : Nat} : zrR M b 0 = M := by
  funext q
  by_cases h : q = b
  · subst h; funext j; simp [zrR, setR]
  · rw [zrR, setR_ne h]
theorem zrR_s {M : Mem} {b i : Nat} : zrR M b (i + 1) = updM (zrR M b i) b i 0 := by
  funext q
  by_cases h : q = b
  · subst h
    rw [updM_eq]
    funext j
    simp only [zrR, setR, if_true, upd]
    by_cases hj : j = i
    · subst hj; simp
    · rw [if_neg hj]
      by_cases h2 : j < i
      · rw [if_pos h2, if_pos (by omega)]
      · rw [if_neg h2, if_neg (by omega)]
  · rw [updM_ne h, zrR, zrR, setR_ne h, setR_ne h]
def rnM (M : Mem) (b : Nat) (lane n : Int32) : Mem := zrR (updM (updM M b 1 lane) b 2 n) (b + 1) 40
def cutF (lane v : Int32) : Int32 := if lane = 0 then v.toInt8.toInt32 else if lane = 1 then v.toInt16.toInt32 else v
set_option maxRecDepth 100000 in
set_option maxHeartbeats 4000000 in
theorem sem_renew_34 {M : Mem} {lane n : Int32} : Sem mX4_renew SH [.ref 34, .int lane, .int n] M (PD SH none (rnM M 34 lane n)) := by
  refine Sem_of rfl (fun G => (Nat.le_of_ble_eq_true rfl)) (fun G => ?_)
  refine Bd_aload_0 (pc := 0) dX4_renew_0 ?_
  refine Bd_iload_1 (pc := 1) dX4_renew_1 ?_
  refine Bd_putI (j := 1) (ty := .int) ck4 (pc := 2) dX4_renew_2 k_225 rfl (Nat.le_of_ble_eq_true rfl) rfl rfl pfI rfl rfl ?_
  refine Bd_aload_0 (pc := 5) dX4_renew_5 ?_
  refine Bd_iload_2 (pc := 6) dX4_renew_6 ?_
  refine Bd_putI (j := 2) (ty := .int) ck4 (pc := 7) dX4_renew_7 k_226 rfl (Nat.le_of_ble_eq_true rfl) rfl rfl pfI rfl rfl ?_
  refine Bd_iconst (v := 0) (pc := 10) dX4_renew_10 (by decide) ?_
  refine Bd_istore_3 (pc := 11) dX4_renew_11 (Nat.le_of_ble_eq_true rfl) rfl ?_
  refine Bd_cM ?_ (zrR_0 (b := 35))
  refine Bd_for (pc := 12) (c := 40) (fun i => [some (.ref 34), some (.int lane), some (.int n), some (.int (nI i))]) (fun i => zrR (updM (updM M 34 1 lane) 34 2 n) 35 i) (fun _ => True) (fun ivi => ?_) (fun i hi ivi ihi => ?_) trivial
  · refine Bd_iload_3 (pc := 12) dX4_renew_12 ?_
    refine Bd_bipush (v := 40) (pc := 13) dX4_renew_13 (by decide) ?_
    refine Bd_icmp_ge (t := 31) (pc := 15) dX4_renew_15 (by decide) (fun b15 => ?_) (fun b15 => (show False from lf_x (rfl : (40 : Int32) = nI 40) b15).elim)
    refine Bd_vret (pc := 31) dX4_renew_31 rfl ?_
    exact PD_v rfl
  · refine Bd_iload_3 (pc := 12) dX4_renew_12 ?_
    refine Bd_bipush (v := 40) (pc := 13) dX4_renew_13 (by decide) ?_
    refine Bd_icmp_ge (t := 31) (pc := 15) dX4_renew_15 (by decide) (fun b15 => (show False from lf_s (rfl : (40 : Int32) = nI 40) (by decide) hi b15).elim) (fun b15 => ?_)
    refine Bd_aload_0 (pc := 18) dX4_renew_18 ?_
    refine Bd_getR (j := 0) ck4 (pc := 19) dX4_renew_19 k_223 rfl (Nat.le_of_ble_eq_true rfl) rfl ?_
    refine Bd_iload_3 (pc := 22) dX4_renew_22 ?_
    refine Bd_iconst (v := 0) (pc := 23) dX4_renew_23 (by decide) ?_
    refine Bd_iastc (j := i) (nI_clamp (by omega)) (pc := 24) dX4_renew_24 rfl (vpi (by omega) (by omega)) ?_
    refine Bd_iinc_3 (pc := 25) dX4_renew_25 (show _ + Int32.ofInt 1 = _ + 1 from rfl) (Nat.le_of_ble_eq_true rfl) rfl ?_
    refine Bd_goto (t := 12) (pc := 28) dX4_renew_28 (by decide) ?_
    rw [← zrR_s]
    exact Bd_nx (ihi trivial) (by simp [wkP, nI_succ])
set_option maxRecDepth 100000 in
set_option maxHeartbeats 4000000 in
theorem sem_isNo_34 {M : Mem} : Sem mX4_isNothing SH [.ref 34] M (PD SH (some (.int (b2 (M 34 1 = -1)))) (M)) := by
  refine Sem_of rfl (fun G => (Nat.le_of_ble_eq_true rfl)) (fun G => ?_)
  refine Bd_aload_0 (pc := 0) dX4_isNothing_0 ?_
  refine Bd_getI (j := 1) ck4 (pc := 1) dX4_isNothing_1 k_225 rfl (Nat.le_of_ble_eq_true rfl) rfl ?_
  refine Bd_iconst (v := -1) (pc := 4) dX4_isNothing_4 (by decide) ?_
  refine Bd_icmp_ne (t := 12) (pc := 5) dX4_isNothing_5 (by decide) (fun b5 => ?_) (fun b5 => ?_)
  · refine Bd_iconst (v := 0) (pc := 12) dX4_isNothing_12 (by decide) ?_
    refine Bd_zret (pc := 13) dX4_isNothing_13 rfl rfl ?_
    exact PD_i (b2_f b5) rfl
  · refine Bd_iconst (v := 1) (pc := 8) dX4_isNothing_8 (by decide) ?_
    refine Bd_goto (t := 13) (pc := 9) dX4_isNothing_9 (by decide) ?_
    refine Bd_zret (pc := 13) dX4_isNothing_13 rfl rfl ?_
    exact PD_i (b2_t b5) rfl
set_option maxRecDepth 100000 in
set_option maxHeartbeats 4000000 in
theorem sem_put_34 {M : Mem} {i v : Int32} (hi : vp_in i 40) : Sem mX4_put SH [.ref 34, .int i, .int v] M (PD SH none (updM M 35 (cn i) (cutF (M 34 1) v))) := by
  refine Sem_of rfl (fun G => (Nat.le_of_ble_eq_true rfl)) (fun G => ?_)
  refine Bd_aload_0 (pc := 0) dX4_put_0 ?_
  refine Bd_getI (j := 1) ck4 (pc := 1) dX4_put_1 k_225 rfl (Nat.le_of_ble_eq_true rfl) rfl ?_
  refine Bd_if_ne (t := 18) (pc := 4) dX4_put_4 (by decide) (fun b4 => ?_) (fun b4 => ?_)
  · refine Bd_aload_0 (pc := 18) dX4_put_18 ?_
    refine Bd_getI (j := 1) ck4 (pc := 19) dX4_put_19 k_225 rfl (Nat.le_of_ble_eq_true rfl) rfl ?_
    refine Bd_iconst (v := 1) (pc := 22) dX4_put_22 (by decide) ?_
    refine Bd_icmp_ne (t := 37) (pc := 23) dX4_put_23 (by decide) (fun b23 => ?_) (fun b23 => ?_)
    · refine Bd_aload_0 (pc := 37) dX4_put_37 ?_
      refine Bd_getR (j := 0) ck4 (pc := 38) dX4_put_38 k_223 rfl (Nat.le_of_ble_eq_true rfl) rfl ?_
      refine Bd_iload_1 (pc := 41) dX4_put_41 ?_
      refine Bd_iload_2 (pc := 42) dX4_put_42 ?_
      refine Bd_iast (pc := 43) dX4_put_43 rfl hi ?_
      refine Bd_vret (pc := 44) dX4_put_44 rfl ?_
      exact PD_v (by rw [cutF, if_neg b4, if_neg b23])
    · refine Bd_aload_0 (pc := 26) dX4_put_26 ?_
      refine Bd_getR (j := 0) ck4 (pc := 27) dX4_put_27 k_223 rfl (Nat.le_of_ble_eq_true rfl) rfl ?_
      refine Bd_iload_1 (pc := 30) dX4_put_30 ?_
      refine Bd_iload_2 (pc := 31) dX4_put_31 ?_
      refine Bd_i2s (pc := 32) dX4_put_32 ?_
      refine Bd_iast (pc := 33) dX4_put_33 rfl hi ?_
      refine Bd_goto (t := 44) (pc := 34) dX4_put_34 (by decide) ?_
      refine Bd_vret (pc := 44) dX4_put_44 rfl ?_
      exact PD_v (by rw [cutF, if_neg b4, if_pos b23])
  · refine Bd_aload_0 (pc := 7) dX4_put_7 ?_
    refine Bd_getR (j := 0) ck4 (pc := 8) dX4_put_8 k_223 rfl (Nat.le_of_ble_eq_true rfl) rfl ?_
    refine Bd_iload_1 (pc := 11) dX4_put_11 ?_
    refine Bd_iload_2 (pc := 12) dX4_put_12 ?_
    refine Bd_i2b (pc := 13) dX4_put_13 ?_
    refine Bd_iast (pc := 14) dX4_put_14 rfl hi ?_
    refine Bd_goto (t := 44) (pc := 15) dX4_put_15 (by decide) ?_
    refine Bd_vret (pc := 44) dX4_put_44 rfl ?_
    exact PD_v (by rw [cutF, if_pos b4])
set_option maxRecDepth 100000 in
set_option maxHeartbeats 4000000 in
theorem sem_fault_34 {M : Mem} {l : Int32} : Sem mX4_faultAs SH [.ref 34, .int l] M (PD SH (some (.int (if M 34 1 = -1 then 1 else if M 34 1 = l then 0 else 3))) (M)) := by
  refine Sem_of rfl (fun G => (Nat.le_of_ble_eq_true rfl)) (fun G => ?_)
  refine Bd_aload_0 (pc := 0) dX4_faultAs_0 ?_
  refine Bd_callV0i (cd := mX4_isNothing) (pc := 1) dX4_faultAs_1 k_766 v_X4_isNothing ⟨(Nat.le_of_ble_eq_true rfl), (Nat.le_of_ble_eq_true rfl)⟩ rfl rfl sem_isNo_34 (Nat.le_of_ble_eq_true rfl) ?_
  refine Bd_if_eq (t := 9) (pc := 4) dX4_faultAs_4 (by decide) (fun b4 => ?_) (fun b4 => ?_)
  · refine Bd_aload_0 (pc := 9) dX4_faultAs_9 ?_
    refine Bd_getI (j := 1) ck4 (pc := 10) dX4_faultAs_10 k_225 rfl (Nat.le_of_ble_eq_true rfl) rfl ?_
    refine Bd_iload_1 (pc := 13) dX4_faultAs_13 ?_
    refine Bd_icmp_ne (t := 21) (pc := 14) dX4_faultAs_14 (by decide) (fun b14 => ?_) (fun b14 => ?_)
    · refine Bd_iconst (v := 3) (pc := 21) dX4_faultAs_21 (by decide) ?_
      refine Bd_iret (pc := 22) dX4_faultAs_22 rfl ?_
      exact PD_i (by rw [if_neg (b2_0.mp b4), if_neg b14]) rfl
    · refine Bd_iconst (v := 0) (pc := 17) dX4_faultAs_17 (by decide) ?_
      refine Bd_goto (t := 22) (pc := 18) dX4_faultAs_18 (by decide) ?_
      refine Bd_iret (pc := 22) dX4_faultAs_22 rfl ?_
      exact PD_i (by rw [if_neg (b2_0.mp b4), if_pos b14]) rfl
  · refine Bd_iconst (v := 1) (pc := 7) dX4_faultAs_7 (by decide) ?_
    refine Bd_iret (pc := 8) dX4_faultAs_8 rfl ?_
    exact PD_i (by rw [if_pos (b2_n.mp b4)]) rfl
set_option maxRecDepth 100000 in
set_option maxHeartbeats 4000000 in
theorem sem_hba_34 {M : Mem} {i : Int32} : Sem mX4_hasBlowAt SH [.ref 34, .int i] M (PD SH (some (.int (b2 (¬ i < 0 ∧ ¬ M 34 2 - 3 < i)))) (M)) := by
  refine Sem_of rfl (fun G => (Nat.le_of_ble_eq_true rfl)) (fun G => ?_)
  refine Bd_iload_1 (pc := 0) dX4_hasBlowAt_0 ?_
  refine Bd_if_lt (t := 18) (pc := 1) dX4_hasBlowAt_1 (by decide) (fun b1 => ?_) (fun b1 => ?_)
  · refine Bd_iconst (v := 0) (pc := 18) dX4_hasBlowAt_18 (by decide) ?_
    refine Bd_zret (pc := 19) dX4_hasBlowAt_19 rfl rfl ?_
    exact PD_i (b2_f (fun q => q.1 b1)) rfl
  · refine Bd_iload_1 (pc := 4) dX4_hasBlowAt_4 ?_
    refine Bd_aload_0 (pc := 5) dX4_hasBlowAt_5 ?_
    refine Bd_getI (j := 2) ck4 (pc := 6) dX4_hasBlowAt_6 k_226 rfl (Nat.le_of_ble_eq_true rfl) rfl ?_
    refine Bd_iconst (v := 3) (pc := 9) dX4_hasBlowAt_9 (by decide) ?_
    refine Bd_isub (pc := 10) dX4_hasBlowAt_10 ?_
    refine Bd_icmp_gt (t := 18) (pc := 11) dX4_hasBlowAt_11 (by decide) (fun b11 => ?_) (fun b11 => ?_)
    · refine Bd_iconst (v := 0) (pc := 18) dX4_hasBlowAt_18 (by decide) ?_
      refine Bd_zret (pc := 19) dX4_hasBlowAt_19 rfl rfl ?_
      exact PD_i (b2_f (fun q => q.2 b11)) rfl
    · refine Bd_iconst (v := 1) (pc := 14) dX4_hasBlowAt_14 (by decide) ?_
      refine Bd_goto (t := 19) (pc := 15) dX4_hasBlowAt_15 (by decide) ?_
      refine Bd_zret (pc := 19) dX4_hasBlowAt_19 rfl rfl ?_
      exact PD_i (b2_t ⟨b1, b11⟩) rfl
set_option maxRecDepth 100000 in
set_option maxHeartbeats 4000000 in
theorem sem_renew_36 {M : Mem} {lane n : Int32} : Sem mX4_renew SH [.ref 36, .int lane, .int n] M (PD SH none (rnM M 36 lane n)) := by
  refine Sem_of rfl (fun G => (Nat.le_of_ble_eq_true rfl)) (fun G => ?_)
  refine Bd_aload_0 (pc := 0) dX4_renew_0 ?_
  refine Bd_iload_1 (pc := 1) dX4_renew_1 ?_
  refine Bd_putI (j := 1) (ty := .int) ck4 (pc := 2) dX4_renew_2 k_225 rfl (Nat.le_of_ble_eq_true rfl) rfl rfl pfI rfl rfl ?_
  refine Bd_aload_0 (pc := 5) dX4_renew_5 ?_
  refine Bd_iload_2 (pc := 6) dX4_renew_6 ?_
  refine Bd_putI (j := 2) (ty := .int) ck4 (pc := 7) dX4_renew_7 k_226 rfl (Nat.le_of_ble_eq_true rfl) rfl rfl pfI rfl rfl ?_
  refine Bd_iconst (v := 0) (pc := 10) dX4_renew_10 (by decide) ?_
  refine Bd_istore_3 (pc := 11) dX4_renew_11 (Nat.le_of_ble_eq_true rfl) rfl ?_
  refine Bd_cM ?_ (zrR_0 (b := 37))
  refine Bd_for (pc := 12) (c := 40) (fun i => [some (.ref 36), some (.int lane), some (.int n), some (.int (nI i))]) (fun i => zrR (updM (updM M 36 1 lane) 36 2 n) 37 i) (fun _ => True) (fun ivi => ?_) (fun i hi ivi ihi => ?_) trivial
  · refine Bd_iload_3 (pc := 12) dX4_renew_12 ?_
    refine Bd_bipush (v := 40) (pc := 13) dX4_renew_13 (by decide) ?_
    refine Bd_icmp_ge (t := 31) (pc := 15) dX4_renew_15 (by decide) (fun b15 => ?_) (fun b15 => (show False from lf_x (rfl : (40 : Int32) = nI 40) b15).elim)
    refine Bd_vret (pc := 31) dX4_renew_31 rfl ?_
    exact PD_v rfl
  · refine Bd_iload_3 (pc := 12) dX4_renew_12 ?_
    refine Bd_bipush (v := 40) (pc := 13) dX4_renew_13 (by decide) ?_
    refine Bd_icmp_ge (t := 31) (pc := 15) dX4_renew_15 (by decide) (fun b15 => (show False from lf_s (rfl : (40 : Int32) = nI 40) (by decide) hi b15).elim) (fun b15 => ?_)
    refine Bd_aload_0 (pc := 18) dX4_renew_18 ?_
    refine Bd_getR (j := 0) ck4 (pc := 19) dX4_renew_19 k_223 rfl (Nat.le_of_ble_eq_true rfl) rfl ?_
    refine Bd_iload_3 (pc := 22) dX4_renew_22 ?_
    refine Bd_iconst (v := 0) (pc := 23) dX4_renew_23 (by decide) ?_
    refine Bd_iastc (j := i) (nI_clamp (by omega)) (pc := 24) dX4_renew_24 rfl (vpi (by omega) (by omega)) ?_
    refine Bd_iinc_3 (pc := 25) dX4_renew_25 (show _ + Int32.ofInt 1 = _ + 1 from rfl) (Nat.le_of_ble_eq_true rfl) rfl ?_
    refine Bd_goto (t := 12) (pc := 28) dX4_renew_28 (by decide) ?_
    rw [← zrR_s]
    exact Bd_nx (ihi trivial) (by simp [wkP, nI_succ])
set_option maxRecDepth 100000 in
set_option maxHeartbeats 4000000 in
theorem sem_isNo_36 {M : Mem} : Sem mX4_isNothing SH [.ref 36] M (PD SH (some (.int (b2 (M 36 1 = -1)))) (M)) := by
  refine Sem_of rfl (fun G => (Nat.le_of_ble_eq_true rfl)) (fun G => ?_)
  refine Bd_aload_0 (pc := 0) dX4_isNothing_0 ?_
  refine Bd_getI (j := 1) ck4 (pc := 1) dX4_isNothing_1 k_225 rfl (Nat.le_of_ble_eq_true rfl) rfl ?_
  refine Bd_iconst (v := -1) (pc := 4) dX4_isNothing_4 (by decide) ?_
  refine Bd_icmp_ne (t := 12) (pc := 5) dX4_isNothing_5 (by decide) (fun b5 => ?_) (fun b5 => ?_)
  · refine Bd_iconst (v := 0) (pc := 12) dX4_isNothing_12 (by decide) ?_
    refine Bd_zret (pc := 13) dX4_isNothing_13 rfl rfl ?_
    exact PD_i (b2_f b5) rfl
  · refine Bd_iconst (v := 1) (pc := 8) dX4_isNothing_8 (by decide) ?_
    refine Bd_goto (t := 13) (pc := 9) dX4_isNothing_9 (by decide) ?_
    refine Bd_zret (pc := 13) dX4_isNothing_13 rfl rfl ?_
    exact PD_i (b2_t b5) rfl
set_option maxRecDepth 100000 in
set_option maxHeartbeats 4000000 in
theorem sem_put_36 {M : Mem} {i v : Int32} (hi : vp_in i 40) : Sem mX4_put SH [.ref 36, .int i, .int v] M (PD SH none (updM M 37 (cn i) (cutF (M 36 1) v))) := by
  refine Sem_of rfl (fun G => (Nat.le_of_ble_eq_true rfl)) (fun G => ?_)
  refine Bd_aload_0 (pc := 0) dX4_put_0 ?_
  refine Bd_getI (j := 1) ck4 (pc := 1) dX4_put_1 k_225 rfl (Nat.le_of_ble_eq_true rfl) rfl ?_
  refine Bd_if_ne (t := 18) (pc := 4) dX4_put_4 (by decide) (fun b4 => ?_) (fun b4 => ?_)
  · refine Bd_aload_0 (pc := 18) dX4_put_18 ?_
    refine Bd_getI (j := 1) ck4 (pc := 19) dX4_put_19 k_225 rfl (Nat.le_of_ble_eq_true rfl) rfl ?_
    refine Bd_iconst (v := 1) (pc := 22) dX4_put_22 (by decide) ?_
    refine Bd_icmp_ne (t := 37) (pc := 23) dX4_put_23 (by decide) (fun b23 => ?_) (fun b23 => ?_)
    · refine Bd_aload_0 (pc := 37) dX4_put_37 ?_
      refine Bd_getR (j := 0) ck4 (pc := 38) dX4_put_38 k_223 rfl (Nat.le_of_ble_eq_true rfl) rfl ?_
      refine Bd_iload_1 (pc := 41) dX4_put_41 ?_
      refine Bd_iload_2 (pc := 42) dX4_put_42 ?_
      refine Bd_iast (pc := 43) dX4_put_43 rfl hi ?_
      refine Bd_vret (pc := 44) dX4_put_44 rfl ?_
      exact PD_v (by rw [cutF, if_neg b4, if_neg b23])
    · refine Bd_aload_0 (pc := 26) dX4_put_26 ?_
      refine Bd_getR (j := 0) ck4 (pc := 27) dX4_put_27 k_223 rfl (Nat.le_of_ble_eq_true rfl) rfl ?_
      refine Bd_iload_1 (pc := 30) dX4_put_30 ?_
      refine Bd_iload_2 (pc := 31) dX4_put_31 ?_
      refine Bd_i2s (pc := 32) dX4_put_32 ?_
      refine Bd_iast (pc := 33) dX4_put_33 rfl hi ?_
      refine Bd_goto (t := 44) (pc := 34) dX4_put_34 (by decide) ?_
      refine Bd_vret (pc := 44) dX4_put_44 rfl ?_
      exact PD_v (by rw [cutF, if_neg b4, if_pos b23])
  · refine Bd_aload_0 (pc := 7) dX4_put_7 ?_
    refine Bd_getR (j := 0) ck4 (pc := 8) dX4_put_8 k_223 rfl (Nat.le_of_ble_eq_true rfl) rfl ?_
    refine Bd_iload_1 (pc := 11) dX4_put_11 ?_
    refine Bd_iload_2 (pc := 12) dX4_put_12 ?_
    refine Bd_i2b (pc := 13) dX4_put_13 ?_
    refine Bd_iast (pc := 14) dX4_put_14 rfl hi ?_
    refine Bd_goto (t := 44) (pc := 15) dX4_put_15 (by decide) ?_
    refine Bd_vret (pc := 44) dX4_put_44 rfl ?_
    exact PD_v (by rw [cutF, if_pos b4])
set_option maxRecDepth 100000 in
set_option maxHeartbeats 4000000 in
theorem sem_fault_36 {M : Mem} {l : Int32} : Sem mX4_faultAs SH [.ref 36, .int l] M (PD SH (some (.int (if M 36 1 = -1 then 1 else if M 36 1 = l then 0 else 3))) (M)) := by
  refine Sem_of rfl (fun G => (Nat.le_of_ble_eq_true rfl)) (fun G => ?_)
  refine Bd_aload_0 (pc := 0) dX4_faultAs_0 ?_
  refine Bd_callV0i (cd := mX4_isNothing) (pc := 1) dX4_faultAs_1 k_766 v_X4_isNothing ⟨(Nat.le_of_ble_eq_true rfl), (Nat.le_of_ble_eq_true rfl)⟩ rfl rfl sem_isNo_36 (Nat.le_of_ble_eq_true rfl) ?_
  refine Bd_if_eq (t := 9) (pc := 4) dX4_faultAs_4 (by decide) (fun b4 => ?_) (fun b4 => ?_)
  · refine Bd_aload_0 (pc := 9) dX4_faultAs_9 ?_
    refine Bd_getI (j := 1) ck4 (pc := 10) dX4_faultAs_10 k_225 rfl (Nat.le_of_ble_eq_true rfl) rfl ?_
    refine Bd_iload_1 (pc := 13) dX4_faultAs_13 ?_
    refine Bd_icmp_ne (t := 21) (pc := 14) dX4_faultAs_14 (by decide) (fun b14 => ?_) (fun b14 => ?_)
    · refine Bd_iconst (v := 3) (pc := 21) dX4_faultAs_21 (by decide) ?_
      refine Bd_iret (pc := 22) dX4_faultAs_22 rfl ?_
      exact PD_i (by rw [if_neg (b2_0.mp b4), if_neg b14]) rfl
    · refine Bd_iconst (v := 0) (pc := 17) dX4_faultAs_17 (by decide) ?_
      refine Bd_goto (t := 22) (pc := 18) dX4_faultAs_18 (by decide) ?_
      refine Bd_iret (pc := 22) dX4_faultAs_22 rfl ?_
      exact PD_i (by rw [if_neg (b2_0.mp b4), if_pos b14]) rfl
  · refine Bd_iconst (v := 1) (pc := 7) dX4_faultAs_7 (by decide) ?_
    refine Bd_iret (pc := 8) dX4_faultAs_8 rfl ?_
    exact PD_i (by rw [if_pos (b2_n.mp b4)]) rfl
set_option maxRecDepth 100000 in
set_option maxHeartbeats 4000000 in
theorem sem_hba_36 {M : Mem} {i : Int32} : Sem mX4_hasBlowAt SH [.ref 36, .int i] M (PD SH (some (.int (b2 (¬ i < 0 ∧ ¬ M 36 2 - 3 < i)))) (M)) := by
  refine Sem_of rfl (fun G => (Nat.le_of_ble_eq_true rfl)) (fun G => ?_)
  refine Bd_iload_1 (pc := 0) dX4_hasBlowAt_0 ?_
  refine Bd_if_lt (t := 18) (pc := 1) dX4_hasBlowAt_1 (by decide) (fun b1 => ?_) (fun b1 => ?_)
  · refine Bd_iconst (v := 0) (pc := 18) dX4_hasBlowAt_18 (by decide) ?_
    refine Bd_zret (pc := 19) dX4_hasBlowAt_19 rfl rfl ?_
    exact PD_i (b2_f (fun q => q.1 b1)) rfl
  · refine Bd_iload_1 (pc := 4) dX4_hasBlowAt_4 ?_
    refine Bd_aload_0 (pc := 5) dX4_hasBlowAt_5 ?_
    refine Bd_getI (j := 2) ck4 (pc := 6) dX4_hasBlowAt_6 k_226 rfl (Nat.le_of_ble_eq_true rfl) rfl ?_
    refine Bd_iconst (v := 3) (pc := 9) dX4_hasBlowAt_9 (by decide) ?_
    refine Bd_isub (pc := 10) dX4_hasBlowAt_10 ?_
    refine Bd_icmp_gt (t := 18) (pc := 11) dX4_hasBlowAt_11 (by decide) (fun b11 => ?_) (fun b11 => ?_)
    · refine Bd_iconst (v := 0) (pc := 18) dX4_hasBlowAt_18 (by decide) ?_
      refine Bd_zret (pc := 19) dX4_hasBlowAt_19 rfl rfl ?_
      exact PD_i (b2_f (fun q => q.2 b11)) rfl
    · refine Bd_iconst (v := 1) (pc := 14) dX4_hasBlowAt_14 (by decide) ?_
      refine Bd_goto (t := 19) (pc := 15) dX4_hasBlowAt_15 (by decide) ?_
      refine Bd_zret (pc := 19) dX4_hasBlowAt_19 rfl rfl ?_
      exact PD_i (b2_t ⟨b1, b11⟩) rfl
set_option maxRecDepth 100000 in
set_option maxHeartbeats 4000000 in
theorem sem_renew_38 {M : Mem} {lane n : Int32} : Sem mX4_renew SH [.ref 38, .int lane, .int n] M (PD SH none (rnM M 38 lane n)) := by
  refine Sem_of rfl (fun G => (Nat.le_of_ble_eq_true rfl)) (fun G => ?_)
  refine Bd_aload_0 (pc := 0) dX4_renew_0 ?_
  refine Bd_iload_1 (pc := 1) dX4_renew_1 ?_
  refine Bd_putI (j := 1) (ty := .int) ck4 (pc := 2) dX4_renew_2 k_225 rfl (Nat.le_of_ble_eq_true rfl) rfl rfl pfI rfl rfl ?_
  refine Bd_aload_0 (pc := 5) dX4_renew_5 ?_
  refine Bd_iload_2 (pc := 6) dX4_renew_6 ?_
  refine Bd_putI (j := 2) (ty := .int) ck4 (pc := 7) dX4_renew_7 k_226 rfl (Nat.le_of_ble_eq_true rfl) rfl rfl pfI rfl rfl ?_
  refine Bd_iconst (v := 0) (pc := 10) dX4_renew_10 (by decide) ?_
  refine Bd_istore_3 (pc := 11) dX4_renew_11 (Nat.le_of_ble_eq_true rfl) rfl ?_
  refine Bd_cM ?_ (zrR_0 (b := 39))
  refine Bd_for (pc := 12) (c := 40) (fun i => [some (.ref 38), some (.int lane), some (.int n), some (.int (nI i))]) (fun i => zrR (updM (updM M 38 1 lane) 38 2 n) 39 i) (fun _ => True) (fun ivi => ?_) (fun i hi ivi ihi => ?_) trivial
  · refine Bd_iload_3 (pc := 12) dX4_renew_12 ?_
    refine Bd_bipush (v := 40) (pc := 13) dX4_renew_13 (by decide) ?_
    refine Bd_icmp_ge (t := 31) (pc := 15) dX4_renew_15 (by decide) (fun b15 => ?_) (fun b15 => (show False from lf_x (rfl : (40 : Int32) = nI 40) b15).elim)
    refine Bd_vret (pc := 31) dX4_renew_31 rfl ?_
    exact PD_v rfl
  · refine Bd_iload_3 (pc := 12) dX4_renew_12 ?_
    refine Bd_bipush (v := 40) (pc := 13) dX4_renew_13 (by decide) ?_
    refine Bd_icmp_ge (t := 31) (pc := 15) dX4_renew_15 (by decide) (fun b15 => (show False from lf_s (rfl : (40 : Int32) = nI 40) (by decide) hi b15).elim) (fun b15 => ?_)
    refine Bd_aload_0 (pc := 18) dX4_renew_18 ?_
    refine Bd_getR (j := 0) ck4 (pc := 19) dX4_renew_19 k_223 rfl (Nat.le_of_ble_eq_true rfl) rfl ?_
    refine Bd_iload_3 (pc := 22) dX4_renew_22 ?_
    refine Bd_iconst (v := 0) (pc := 23) dX4_renew_23 (by decide) ?_
    refine Bd_iastc (j := i) (nI_clamp (by omega)) (pc := 24) dX4_renew_24 rfl (vpi (by omega) (by omega)) ?_
    refine Bd_iinc_3 (pc := 25) dX4_renew_25 (show _ + Int32.ofInt 1 = _ + 1 from rfl) (Nat.le_of_ble_eq_true rfl) rfl ?_
    refine Bd_goto (t := 12) (pc := 28) dX4_renew_28 (by decide) ?_
    rw [← zrR_s]
    exact Bd_nx (ihi trivial) (by simp [wkP, nI_succ])
set_option maxRecDepth 100000 in
set_option maxHeartbeats 4000000 in
theorem sem_isNo_38 {M : Mem} : Sem mX4_isNothing SH [.ref 38] M (PD SH (some (.int (b2 (M 38 1 = -1)))) (M)) := by
  refine Sem_of rfl (fun G => (Nat.le_of_ble_eq_true rfl)) (fun G => ?_)
  refine Bd_aload_0 (pc := 0) dX4_isNothing_0 ?_
  refine Bd_getI (j := 1) ck4 (pc := 1) dX4_isNothing_1 k_225 rfl (Nat.le_of_ble_eq_true rfl) rfl ?_
  refine Bd_iconst (v := -1) (pc := 4) dX4_isNothing_4 (by decide) ?_
  refine Bd_icmp_ne (t := 12) (pc := 5) dX4_isNothing_5 (by decide) (fun b5 => ?_) (fun b5 => ?_)
  · refine Bd_iconst (v := 0) (pc := 12) dX4_isNothing_12 (by decide) ?_
    refine Bd_zret (pc := 13) dX4_isNothing_13 rfl rfl ?_
    exact PD_i (b2_f b5) rfl
  · refine Bd_iconst (v := 1) (pc := 8) dX4_isNothing_8 (by decide) ?_
    refine Bd_goto (t := 13) (pc := 9) dX4_isNothing_9 (by decide) ?_
    refine Bd_zret (pc := 13) dX4_isNothing_13 rfl rfl ?_
    exact PD_i (b2_t b5) rfl
set_option maxRecDepth 100000 in
set_option maxHeartbeats 4000000 in
theorem sem_put_38 {M : Mem} {i v : Int32} (hi : vp_in i 40) : Sem mX4_put SH [.ref 38, .int i, .int v] M (PD SH none (updM M 39 (cn i) (cutF (M 38 1) v))) := by
  refine Sem_of rfl (fun G => (Nat.le_of_ble_eq_true rfl)) (fun G => ?_)
  refine Bd_aload_0 (pc := 0) dX4_put_0 ?_
  refine Bd_getI (j := 1) ck4 (pc := 1) dX4_put_1 k_225 rfl (Nat.le_of_ble_eq_true rfl) rfl ?_
  refine Bd_if_ne (t := 18) (pc := 4) dX4_put_4 (by decide) (fun b4 => ?_) (fun b4 => ?_)
  · refine Bd_aload_0 (pc := 18) dX4_put_18 ?_
    refine Bd_getI (j := 1) ck4 (pc := 19) dX4_put_19 k_225 rfl (Nat.le_of_ble_eq_true rfl) rfl ?_
    refine Bd_iconst (v := 1) (pc := 22) dX4_put_22 (by decide) ?_
    refine Bd_icmp_ne (t := 37) (pc := 23) dX4_put_23 (by decide) (fun b23 => ?_) (fun b23 => ?_)
    · refine Bd_aload_0 (pc := 37) dX4_put_37 ?_
      refine Bd_getR (j := 0) ck4 (pc := 38) dX4_put_38 k_223 rfl (Nat.le_of_ble_eq_true rfl) rfl ?_
      refine Bd_iload_1 (pc := 41) dX4_put_41 ?_
      refine Bd_iload_2 (pc := 42) dX4_put_42 ?_
      refine Bd_iast (pc := 43) dX4_put_43 rfl hi ?_
      refine Bd_vret (pc := 44) dX4_put_44 rfl ?_
      exact PD_v (by rw [cutF, if_neg b4, if_neg b23])
    · refine Bd_aload_0 (pc := 26) dX4_put_26 ?_
      refine Bd_getR (j := 0) ck4 (pc := 27) dX4_put_27 k_223 rfl (Nat.le_of_ble_eq_true rfl) rfl ?_
      refine Bd_iload_1 (pc := 30) dX4_put_30 ?_
      refine Bd_iload_2 (pc := 31) dX4_put_31 ?_
      refine Bd_i2s (pc := 32) dX4_put_32 ?_
      refine Bd_iast (pc := 33) dX4_put_33 rfl hi ?_
      refine Bd_goto (t := 44) (pc := 34) dX4_put_34 (by decide) ?_
      refine Bd_vret (pc := 44) dX4_put_44 rfl ?_
      exact PD_v (by rw [cutF, if_neg b4, if_pos b23])
  · refine Bd_aload_0 (pc := 7) dX4_put_7 ?_
    refine Bd_getR (j := 0) ck4 (pc := 8) dX4_put_8 k_223 rfl (Nat.le_of_ble_eq_true rfl) rfl ?_
    refine Bd_iload_1 (pc := 11) dX4_put_11 ?_
    refine Bd_iload_2 (pc := 12) dX4_put_12 ?_
    refine Bd_i2b (pc := 13) dX4_put_13 ?_
    refine Bd_iast (pc := 14) dX4_put_14 rfl hi ?_
    refine Bd_goto (t := 44) (pc := 15) dX4_put_15 (by decide) ?_
    refine Bd_vret (pc := 44) dX4_put_44 rfl ?_
    exact PD_v (by rw [cutF, if_pos b4])
set_option maxRecDepth 100000 in
set_option maxHeartbeats 4000000 in
theorem sem_fault_38 {M : Mem} {l : Int32} : Sem mX4_faultAs SH [.ref 38, .int l] M (PD SH (some (.int (if M 38 1 = -1 then 1 else if M 38 1 = l then 0 else 3))) (M)) := by
  refine Sem_of rfl (fun G => (Nat.le_of_ble_eq_true rfl)) (fun G => ?_)
  refine Bd_aload_0 (pc := 0) dX4_faultAs_0 ?_
  refine Bd_callV0i (cd := mX4_isNothing) (pc := 1) dX4_faultAs_1 k_766 v_X4_isNothing ⟨(Nat.le_of_ble_eq_true rfl), (Nat.le_of_ble_eq_true rfl)⟩ rfl rfl sem_isNo_38 (Nat.le_of_ble_eq_true rfl) ?_
  refine Bd_if_eq (t := 9) (pc := 4) dX4_faultAs_4 (by decide) (fun b4 => ?_) (fun b4 => ?_)
  · refine Bd_aload_0 (pc := 9) dX4_faultAs_9 ?_
    refine Bd_getI (j := 1) ck4 (pc := 10) dX4_faultAs_10 k_225 rfl (Nat.le_of_ble_eq_true rfl) rfl ?_
    refine Bd_iload_1 (pc := 13) dX4_faultAs_13 ?_
    refine Bd_icmp_ne (t := 21) (pc := 14) dX4_faultAs_14 (by decide) (fun b14 => ?_) (fun b14 => ?_)
    · refine Bd_iconst (v := 3) (pc := 21) dX4_faultAs_21 (by decide) ?_
      refine Bd_iret (pc := 22) dX4_faultAs_22 rfl ?_
      exact PD_i (by rw [if_neg (b2_0.mp b4), if_neg b14]) rfl
    · refine Bd_iconst (v := 0) (pc := 17) dX4_faultAs_17 (by decide) ?_
      refine Bd_goto (t := 22) (pc := 18) dX4_faultAs_18 (by decide) ?_
      refine Bd_iret (pc := 22) dX4_faultAs_22 rfl ?_
      exact PD_i (by rw [if_neg (b2_0.mp b4), if_pos b14]) rfl
  · refine Bd_iconst (v := 1) (pc := 7) dX4_faultAs_7 (by decide) ?_
    refine Bd_iret (pc := 8) dX4_faultAs_8 rfl ?_
    exact PD_i (by rw [if_pos (b2_n.mp b4)]) rfl
set_option maxRecDepth 100000 in
set_option maxHeartbeats 4000000 in
theorem sem_hba_38 {M : Mem} {i : Int32} : Sem mX4_hasBlowAt SH [.ref 38, .int i] M (PD SH (some (.int (b2 (¬ i < 0 ∧ ¬ M 38 2 - 3 < i)))) (M)) := by
  refine Sem_of rfl (fun G => (Nat.le_of_ble_eq_true rfl)) (fun G => ?_)
  refine Bd_iload_1 (pc := 0) dX4_hasBlowAt_0 ?_
  refine Bd_if_lt (t := 18) (pc := 1) dX4_hasBlowAt_1 (by decide) (fun b1 => ?_) (fun b1 => ?_)
  · refine Bd_iconst (v := 0) (pc := 18) dX4_hasBlowAt_18 (by decide) ?_
    refine Bd_zret (pc := 19) dX4_hasBlowAt_19 rfl rfl ?_
    exact PD_i (b2_f (fun q => q.1 b1)) rfl
  · refine Bd_iload_1 (pc := 4) dX4_hasBlowAt_4 ?_
    refine Bd_aload_0 (pc := 5) dX4_hasBlowAt_5 ?_
    refine Bd_getI (j := 2) ck4 (pc := 6) dX4_hasBlowAt_6 k_226 rfl (Nat.le_of_ble_eq_true rfl) rfl ?_
    refine Bd_iconst (v := 3) (pc := 9) dX4_hasBlowAt_9 (by decide) ?_
    refine Bd_isub (pc := 10) dX4_hasBlowAt_10 ?_
    refine Bd_icmp_gt (t := 18) (pc := 11) dX4_hasBlowAt_11 (by decide) (fun b11 => ?_) (fun b11 => ?_)
    · refine Bd_iconst (v := 0) (pc := 18) dX4_hasBlowAt_18 (by decide) ?_
      refine Bd_zret (pc := 19) dX4_hasBlowAt_19 rfl rfl ?_
      exact PD_i (b2_f (fun q => q.2 b11)) rfl
    · refine Bd_iconst (v := 1) (pc := 14) dX4_hasBlowAt_14 (by decide) ?_
      refine Bd_goto (t := 19) (pc := 15) dX4_hasBlowAt_15 (by decide) ?_
      refine Bd_zret (pc := 19) dX4_hasBlowAt_19 rfl rfl ?_
      exact PD_i (b2_t ⟨b1, b11⟩) rfl
set_option maxRecDepth 100000 in
set_option maxHeartbeats 4000000 in
theorem sem_renew_40 {M : Mem} {lane n : Int32} : Sem mX4_renew SH [.ref 40, .int lane, .int n] M (PD SH none (rnM M 40 lane n)) := by
  refine Sem_of rfl (fun G => (Nat.le_of_ble_eq_true rfl)) (fun G => ?_)
  refine Bd_aload_0 (pc := 0) dX4_renew_0 ?_
  refine Bd_iload_1 (pc := 1) dX4_renew_1 ?_
  refine Bd_putI (j := 1) (ty := .int) ck4 (pc := 2) dX4_renew_2 k_225 rfl (Nat.le_of_ble_eq_true rfl) rfl rfl pfI rfl rfl ?_
  refine Bd_aload_0 (pc := 5) dX4_renew_5 ?_
  refine Bd_iload_2 (pc := 6) dX4_renew_6 ?_
  refine Bd_putI (j := 2) (ty := .int) ck4 (pc := 7) dX4_renew_7 k_226 rfl (Nat.le_of_ble_eq_true rfl) rfl rfl pfI rfl rfl ?_
  refine Bd_iconst (v := 0) (pc := 10) dX4_renew_10 (by decide) ?_
  refine Bd_istore_3 (pc := 11) dX4_renew_11 (Nat.le_of_ble_eq_true rfl) rfl ?_
  refine Bd_cM ?_ (zrR_0 (b := 41))
  refine Bd_for (pc := 12) (c := 40) (fun i => [some (.ref 40), some (.int lane), some (.int n), some (.int (nI i))]) (fun i => zrR (updM (updM M 40 1 lane) 40 2 n) 41 i) (fun _ => True) (fun ivi => ?_) (fun i hi ivi ihi => ?_) trivial
  · refine Bd_iload_3 (pc := 12) dX4_renew_12 ?_
    refine Bd_bipush (v := 40) (pc := 13) dX4_renew_13 (by decide) ?_
    refine Bd_icmp_ge (t := 31) (pc := 15) dX4_renew_15 (by decide) (fun b15 => ?_) (fun b15 => (show False from lf_x (rfl : (40 : Int32) = nI 40) b15).elim)
    refine Bd_vret (pc := 31) dX4_renew_31 rfl ?_
    exact PD_v rfl
  · refine Bd_iload_3 (pc := 12) dX4_renew_12 ?_
    refine Bd_bipush (v := 40) (pc := 13) dX4_renew_13 (by decide) ?_
    refine Bd_icmp_ge (t := 31) (pc := 15) dX4_renew_15 (by decide) (fun b15 => (show False from lf_s (rfl : (40 : Int32) = nI 40) (by decide) hi b15).elim) (fun b15 => ?_)
    refine Bd_aload_0 (pc := 18) dX4_renew_18 ?_
    refine Bd_getR (j := 0) ck4 (pc := 19) dX4_renew_19 k_223 rfl (Nat.le_of_ble_eq_true rfl) rfl ?_
    refine Bd_iload_3 (pc := 22) dX4_renew_22 ?_
    refine Bd_iconst (v := 0) (pc := 23) dX4_renew_23 (by decide) ?_
    refine Bd_iastc (j := i) (nI_clamp (by omega)) (pc := 24) dX4_renew_24 rfl (vpi (by omega) (by omega)) ?_
    refine Bd_iinc_3 (pc := 25) dX4_renew_25 (show _ + Int32.ofInt 1 = _ + 1 from rfl) (Nat.le_of_ble_eq_true rfl) rfl ?_
    refine Bd_goto (t := 12) (pc := 28) dX4_renew_28 (by decide) ?_
    rw [← zrR_s]
    exact Bd_nx (ihi trivial) (by simp [wkP, nI_succ])
set_option maxRecDepth 100000 in
set_option maxHeartbeats 4000000 in
theorem sem_isNo_40 {M : Mem} : Sem mX4_isNothing SH [.ref 40] M (PD SH (some (.int (b2 (M 40 1 = -1)))) (M)) := by
  refine Sem_of rfl (fun G => (Nat.le_of_ble_eq_true rfl)) (fun G => ?_)
  refine Bd_aload_0 (pc := 0) dX4_isNothing_0 ?_
  refine Bd_getI (j := 1) ck4 (pc := 1) dX4_isNothing_1 k_225 rfl (Nat.le_of_ble_eq_true rfl) rfl ?_
  refine Bd_iconst (v := -1) (pc := 4) dX4_isNothing_4 (by decide) ?_
  refine Bd_icmp_ne (t := 12) (pc := 5) dX4_isNothing_5 (by decide) (fun b5 => ?_) (fun b5 => ?_)
  · refine Bd_iconst (v := 0) (pc := 12) dX4_isNothing_12 (by decide) ?_
    refine Bd_zret (pc := 13) dX4_isNothing_13 rfl rfl ?_
    exact PD_i (b2_f b5) rfl
  · refine Bd_iconst (v := 1) (pc := 8) dX4_isNothing_8 (by decide) ?_
    refine Bd_goto (t := 13) (pc := 9) dX4_isNothing_9 (by decide) ?_
    refine Bd_zret (pc := 13) dX4_isNothing_13 rfl rfl ?_
    exact PD_i (b2_t b5) rfl
set_option maxRecDepth 100000 in
set_option maxHeartbeats 4000000 in
theorem sem_put_40 {M : Mem} {i v : Int32} (hi : vp_in i 40) : Sem mX4_put SH [.ref 40, .int i, .int v] M (PD SH none (updM M 41 (cn i) (cutF (M 40 1) v))) := by
  refine Sem_of rfl (fun G => (Nat.le_of_ble_eq_true rfl)) (fun G => ?_)
  refine Bd_aload_0 (pc := 0) dX4_put_0 ?_
  refine Bd_getI (j := 1) ck4 (pc := 1) dX4_put_1 k_225 rfl (Nat.le_of_ble_eq_true rfl) rfl ?_
  refine Bd_if_ne (t := 18) (pc := 4) dX4_put_4 (by decide) (fun b4 => ?_) (fun b4 => ?_)
  · refine Bd_aload_0 (pc := 18) dX4_put_18 ?_
    refine Bd_getI (j := 1) ck4 (pc := 19) dX4_put_19 k_225 rfl (Nat.le_of_ble_eq_true rfl) rfl ?_
    refine Bd_iconst (v := 1) (pc := 22) dX4_put_22 (by decide) ?_
    refine Bd_icmp_ne (t := 37) (pc := 23) dX4_put_23 (by decide) (fun b23 => ?_) (fun b23 => ?_)
    · refine Bd_aload_0 (pc := 37) dX4_put_37 ?_
      refine Bd_getR (j := 0) ck4 (pc := 38) dX4_put_38 k_223 rfl (Nat.le_of_ble_eq_true rfl) rfl ?_
      refine Bd_iload_1 (pc := 41) dX4_put_41 ?_
      refine Bd_iload_2 (pc := 42) dX4_put_42 ?_
      refine Bd_iast (pc := 43) dX4_put_43 rfl hi ?_
      refine Bd_vret (pc := 44) dX4_put_44 rfl ?_
      exact PD_v (by rw [cutF, if_neg b4, if_neg b23])
    · refine Bd_aload_0 (pc := 26) dX4_put_26 ?_
      refine Bd_getR (j := 0) ck4 (pc := 27) dX4_put_27 k_223 rfl (Nat.le_of_ble_eq_true rfl) rfl ?_
      refine Bd_iload_1 (pc := 30) dX4_put_30 ?_
      refine Bd_iload_2 (pc := 31) dX4_put_31 ?_
      refine Bd_i2s (pc := 32) dX4_put_32 ?_
      refine Bd_iast (pc := 33) dX4_put_33 rfl hi ?_
      refine Bd_goto (t := 44) (pc := 34) dX4_put_34 (by decide) ?_
      refine Bd_vret (pc := 44) dX4_put_44 rfl ?_
      exact PD_v (by rw [cutF, if_neg b4, if_pos b23])
  · refine Bd_aload_0 (pc := 7) dX4_put_7 ?_
    refine Bd_getR (j := 0) ck4 (pc := 8) dX4_put_8 k_223 rfl (Nat.le_of_ble_eq_true rfl) rfl ?_
    refine Bd_iload_1 (pc := 11) dX4_put_11 ?_
    refine Bd_iload_2 (pc := 12) dX4_put_12 ?_
    refine Bd_i2b (pc := 13) dX4_put_13 ?_
    refine Bd_iast (pc := 14) dX4_put_14 rfl hi ?_
    refine Bd_goto (t := 44) (pc := 15) dX4_put_15 (by decide) ?_
    refine Bd_vret (pc := 44) dX4_put_44 rfl ?_
    exact PD_v (by rw [cutF, if_pos b4])
set_option maxRecDepth 100000 in
set_option maxHeartbeats 4000000 in
theorem sem_fault_40 {M : Mem} {l : Int32} : Sem mX4_faultAs SH [.ref 40, .int l] M (PD SH (some (.int (if M 40 1 = -1 then 1 else if M 40 1 = l then 0 else 3))) (M)) := by
  refine Sem_of rfl (fun G => (Nat.le_of_ble_eq_true rfl)) (fun G => ?_)
  refine Bd_aload_0 (pc := 0) dX4_faultAs_0 ?_
  refine Bd_callV0i (cd := mX4_isNothing) (pc := 1) dX4_faultAs_1 k_766 v_X4_isNothing ⟨(Nat.le_of_ble_eq_true rfl), (Nat.le_of_ble_eq_true rfl)⟩ rfl rfl sem_isNo_40 (Nat.le_of_ble_eq_true rfl) ?_
  refine Bd_if_eq (t := 9) (pc := 4) dX4_faultAs_4 (by decide) (fun b4 => ?_) (fun b4 => ?_)
  · refine Bd_aload_0 (pc := 9) dX4_faultAs_9 ?_
    refine Bd_getI (j := 1) ck4 (pc := 10) dX4_faultAs_10 k_225 rfl (Nat.le_of_ble_eq_true rfl) rfl ?_
    refine Bd_iload_1 (pc := 13) dX4_faultAs_13 ?_
    refine Bd_icmp_ne (t := 21) (pc := 14) dX4_faultAs_14 (by decide) (fun b14 => ?_) (fun b14 => ?_)
    · refine Bd_iconst (v := 3) (pc := 21) dX4_faultAs_21 (by decide) ?_
      refine Bd_iret (pc := 22) dX4_faultAs_22 rfl ?_
      exact PD_i (by rw [if_neg (b2_0.mp b4), if_neg b14]) rfl
    · refine Bd_iconst (v := 0) (pc := 17) dX4_faultAs_17 (by decide) ?_
      refine Bd_goto (t := 22) (pc := 18) dX4_faultAs_18 (by decide) ?_
      refine Bd_iret (pc := 22) dX4_faultAs_22 rfl ?_
      exact PD_i (by rw [if_neg (b2_0.mp b4), if_pos b14]) rfl
  · refine Bd_iconst (v := 1) (pc := 7) dX4_faultAs_7 (by decide) ?_
    refine Bd_iret (pc := 8) dX4_faultAs_8 rfl ?_
    exact PD_i (by rw [if_pos (b2_n.mp b4)]) rfl
set_option maxRecDepth 100000 in
set_option maxHeartbeats 4000000 in
theorem sem_hba_40 {M : Mem} {i : Int32} : Sem mX4_hasBlowAt SH [.ref 40, .int i] M (PD SH (some (.int (b2 (¬ i < 0 ∧ ¬ M 40 2 - 3 < i)))) (M)) := by
  refine Sem_of rfl (fun G => (Nat.le_of_ble_eq_true rfl)) (fun G => ?_)
  refine Bd_iload_1 (pc := 0) dX4_hasBlowAt_0 ?_
  refine Bd_if_lt (t := 18) (pc := 1) dX4_hasBlowAt_1 (by decide) (fun b1 => ?_) (fun b1 => ?_)
  · refine Bd_iconst (v := 0) (pc := 18) dX4_hasBlowAt_18 (by decide) ?_
    refine Bd_zret (pc := 19) dX4_hasBlowAt_19 rfl rfl ?_
    exact PD_i (b2_f (fun q => q.1 b1)) rfl
  · refine Bd_iload_1 (pc := 4) dX4_hasBlowAt_4 ?_
    refine Bd_aload_0 (pc := 5) dX4_hasBlowAt_5 ?_
    refine Bd_getI (j := 2) ck4 (pc := 6) dX4_hasBlowAt_6 k_226 rfl (Nat.le_of_ble_eq_true rfl) rfl ?_
    refine Bd_iconst (v := 3) (pc := 9) dX4_hasBlowAt_9 (by decide) ?_
    refine Bd_isub (pc := 10) dX4_hasBlowAt_10 ?_
    refine Bd_icmp_gt (t := 18) (pc := 11) dX4_hasBlowAt_11 (by decide) (fun b11 => ?_) (fun b11 => ?_)
    · refine Bd_iconst (v := 0) (pc := 18) dX4_hasBlowAt_18 (by decide) ?_
      refine Bd_zret (pc := 19) dX4_hasBlowAt_19 rfl rfl ?_
      exact PD_i (b2_f (fun q => q.2 b11)) rfl
    · refine Bd_iconst (v := 1) (pc := 14) dX4_hasBlowAt_14 (by decide) ?_
      refine Bd_goto (t := 19) (pc := 15) dX4_hasBlowAt_15 (by decide) ?_
      refine Bd_zret (pc := 19) dX4_hasBlowAt_19 rfl rfl ?_
      exact PD_i (b2_t ⟨b1, b11⟩) rfl
def shB (k : Int32) : Nat := if k = 0 then 34 else if k = 1 then 36 else if k = 2 then 38 else 40
abbrev shP (k lane n : Int32) : Prop := (0 ≤ k ∧ k < 4) ∧ (0 ≤ lane ∧ lane < 3) ∧ n ≤ 40
def sheetV (k lane n : Int32) : Int32 := if shP k lane n then if 0 ≤ n then 1 else -14 else -1
def sheetU (M : Mem) (k lane n : Int32) : Mem := if shP k lane n then if 0 ≤ n then rnM M (shB k) lane n else M else M
def layV (M : Mem) (k i : Int32) : Int32 := if 0 ≤ k ∧ k < 4 then if M (shB k) 1 = -1 then -11 else if 0 ≤ i ∧ i < M (shB k) 2 then 1 else -12 else -1
def layU (M : Mem) (k i v : Int32) : Mem := if 0 ≤ k ∧ k < 4 then if M (shB k) 1 = -1 then M else if 0 ≤ i ∧ i < M (shB k) 2 then updM M (shB k + 1) (cn i) (cutF (M (shB k) 1) v) else M else M
set_option maxRecDepth 100000 in
set_option maxHeartbeats 4000000 in
theorem sem_X7_sheet {M : Mem} {k lane n : Int32} : Sem mX7_sheet SH [.ref 0, .int k, .int lane, .int n] M (PD SH (some (.int (sheetV k lane n))) (sheetU M k lane n)) := by
  refine Sem_of rfl (fun G => (Nat.le_of_ble_eq_true rfl)) (fun G => ?_)
  by_cases hk : 0 ≤ k ∧ k < 4
  · rcases k4_c hk with rfl | rfl | rfl | rfl
    · refine Bd_iload_1 (pc := 0) dX7_sheet_0 ?_
      refine Bd_iconst (v := 4) (pc := 1) dX7_sheet_1 (by decide) ?_
      refine Bd_callS2i (cd := mX7_isWithin) (pc := 2) dX7_sheet_2 k_448 v_X7_isWithin ⟨(Nat.le_of_ble_eq_true rfl), (Nat.le_of_ble_eq_true rfl)⟩ sem_X7_isWithin (Nat.le_of_ble_eq_true rfl) ?_
      refine Bd_if_eq (t := 22) (pc := 5) dX7_sheet_5 (by decide) (fun b5 => (show False from absurd ((b2_t hk).trans b5) (by decide)).elim) (fun b5 => ?_)
      refine Bd_iload_2 (pc := 8) dX7_sheet_8 ?_
      refine Bd_iconst (v := 3) (pc := 9) dX7_sheet_9 (by decide) ?_
      refine Bd_callS2i (cd := mX7_isWithin) (pc := 10) dX7_sheet_10 k_448 v_X7_isWithin ⟨(Nat.le_of_ble_eq_true rfl), (Nat.le_of_ble_eq_true rfl)⟩ sem_X7_isWithin (Nat.le_of_ble_eq_true rfl) ?_
      refine Bd_if_eq (t := 22) (pc := 13) dX7_sheet_13 (by decide) (fun b13 => ?_) (fun b13 => ?_)
      · refine Bd_iconst (v := -1) (pc := 22) dX7_sheet_22 (by decide) ?_
        refine Bd_iret (pc := 23) dX7_sheet_23 rfl ?_
        exact ⟨by rw [sheetV, if_neg (fun q => b2_0.mp b13 q.2.1)], rfl, by rw [sheetU, if_neg (fun q => b2_0.mp b13 q.2.1)]⟩
      · refine Bd_iload_3 (pc := 16) dX7_sheet_16 ?_
        refine Bd_bipush (v := 40) (pc := 17) dX7_sheet_17 (by decide) ?_
        refine Bd_icmp_le (t := 24) (pc := 19) dX7_sheet_19 (by decide) (fun b19 => ?_) (fun b19 => ?_)
        · refine Bd_iload_3 (pc := 24) dX7_sheet_24 ?_
          refine Bd_if_ge (t := 31) (pc := 25) dX7_sheet_25 (by decide) (fun b25 => ?_) (fun b25 => ?_)
          · refine Bd_aload_0 (pc := 31) dX7_sheet_31 ?_
            refine Bd_getR (j := 5) ck7 (pc := 32) dX7_sheet_32 k_240 rfl (Nat.le_of_ble_eq_true rfl) rfl ?_
            refine Bd_iload_1 (pc := 35) dX7_sheet_35 ?_
            refine Bd_aald (pc := 36) dX7_sheet_36 rfl (fun _ => rfl) (by unfold vp_in; decide) rfl ?_
            refine Bd_iload_2 (pc := 37) dX7_sheet_37 ?_
            refine Bd_iload_3 (pc := 38) dX7_sheet_38 ?_
            refine Bd_callV2v (cd := mX4_renew) (pc := 39) dX7_sheet_39 k_742 v_X4_renew ⟨(Nat.le_of_ble_eq_true rfl), (Nat.le_of_ble_eq_true rfl)⟩ rfl rfl sem_renew_34 (Nat.le_of_ble_eq_true rfl) ?_
            refine Bd_iconst (v := 1) (pc := 42) dX7_sheet_42 (by decide) ?_
            refine Bd_iret (pc := 43) dX7_sheet_43 rfl ?_
            exact ⟨by rw [sheetV, if_pos ⟨hk, b2_n.mp b13, b19⟩, if_pos b25], rfl, by rw [sheetU, if_pos ⟨hk, b2_n.mp b13, b19⟩, if_pos b25]; rfl⟩
          · refine Bd_bipush (v := -14) (pc := 28) dX7_sheet_28 (by decide) ?_
            refine Bd_iret (pc := 30) dX7_sheet_30 rfl ?_
            exact ⟨by rw [sheetV, if_pos ⟨hk, b2_n.mp b13, b19⟩, if_neg b25], rfl, by rw [sheetU, if_pos ⟨hk, b2_n.mp b13, b19⟩, if_neg b25]⟩
        · refine Bd_iconst (v := -1) (pc := 22) dX7_sheet_22 (by decide) ?_
          refine Bd_iret (pc := 23) dX7_sheet_23 rfl ?_
          exact ⟨by rw [sheetV, if_neg (fun q => b19 q.2.2)], rfl, by rw [sheetU, if_neg (fun q => b19 q.2.2)]⟩
    · refine Bd_iload_1 (pc := 0) dX7_sheet_0 ?_
      refine Bd_iconst (v := 4) (pc := 1) dX7_sheet_1 (by decide) ?_
      refine Bd_callS2i (cd := mX7_isWithin) (pc := 2) dX7_sheet_2 k_448 v_X7_isWithin ⟨(Nat.le_of_ble_eq_true rfl), (Nat.le_of_ble_eq_true rfl)⟩ sem_X7_isWithin (Nat.le_of_ble_eq_true rfl) ?_
      refine Bd_if_eq (t := 22) (pc := 5) dX7_sheet_5 (by decide) (fun b5 => (show False from absurd ((b2_t hk).trans b5) (by decide)).elim) (fun b5 => ?_)
      refine Bd_iload_2 (pc := 8) dX7_sheet_8 ?_
      refine Bd_iconst (v := 3) (pc := 9) dX7_sheet_9 (by decide) ?_
      refine Bd_callS2i (cd := mX7_isWithin) (pc := 10) dX7_sheet_10 k_448 v_X7_isWithin ⟨(Nat.le_of_ble_eq_true rfl), (Nat.le_of_ble_eq_true rfl)⟩ sem_X7_isWithin (Nat.le_of_ble_eq_true rfl) ?_
      refine Bd_if_eq (t := 22) (pc := 13) dX7_sheet_13 (by decide) (fun b13 => ?_) (fun b13 => ?_)
      · refine Bd_iconst (v := -1) (pc := 22) dX7_sheet_22 (by decide) ?_
        refine Bd_iret (pc := 23) dX7_sheet_23 rfl ?_
        exact ⟨by rw [sheetV, if_neg (fun q => b2_0.mp b13 q.2.1)], rfl, by rw [sheetU, if_neg (fun q => b2_0.mp b13 q.2.1)]⟩
      · refine Bd_iload_3 (pc := 16) dX7_sheet_16 ?_
        refine Bd_bipush (v := 40) (pc := 17) dX7_sheet_17 (by decide) ?_
        refine Bd_icmp_le (t := 24) (pc := 19) dX7_sheet_19 (by decide) (fun b19 => ?_) (fun b19 => ?_)
        · refine Bd_iload_3 (pc := 24) dX7_sheet_24 ?_
          refine Bd_if_ge (t := 31) (pc := 25) dX7_sheet_25 (by decide) (fun b25 => ?_) (fun b25 => ?_)
          · refine Bd_aload_0 (pc := 31) dX7_sheet_31 ?_
            refine Bd_getR (j := 5) ck7 (pc := 32) dX7_sheet_32 k_240 rfl (Nat.le_of_ble_eq_true rfl) rfl ?_
            refine Bd_iload_1 (pc := 35) dX7_sheet_35 ?_
            refine Bd_aald (pc := 36) dX7_sheet_36 rfl (fun _ => rfl) (by unfold vp_in; decide) rfl ?_
            refine Bd_iload_2 (pc := 37) dX7_sheet_37 ?_
            refine Bd_iload_3 (pc := 38) dX7_sheet_38 ?_
            refine Bd_callV2v (cd := mX4_renew) (pc := 39) dX7_sheet_39 k_742 v_X4_renew ⟨(Nat.le_of_ble_eq_true rfl), (Nat.le_of_ble_eq_true rfl)⟩ rfl rfl sem_renew_36 (Nat.le_of_ble_eq_true rfl) ?_
            refine Bd_iconst (v := 1) (pc := 42) dX7_sheet_42 (by decide) ?_
            refine Bd_iret (pc := 43) dX7_sheet_43 rfl ?_
            exact ⟨by rw [sheetV, if_pos ⟨hk, b2_n.mp b13, b19⟩, if_pos b25], rfl, by rw [sheetU, if_pos ⟨hk, b2_n.mp b13, b19⟩, if_pos b25]; rfl⟩
          · refine Bd_bipush (v := -14) (pc := 28) dX7_sheet_28 (by decide) ?_
            refine Bd_iret (pc := 30) dX7_sheet_30 rfl ?_
            exact ⟨by rw [sheetV, if_pos ⟨hk, b2_n.mp b13, b19⟩, if_neg b25], rfl, by rw [sheetU, if_pos ⟨hk, b2_n.mp b13, b19⟩, if_neg b25]⟩
        · refine Bd_iconst (v := -1) (pc := 22) dX7_sheet_22 (by decide) ?_
          refine Bd_iret (pc := 23) dX7_sheet_23 rfl ?_
          exact ⟨by rw [sheetV, if_neg (fun q => b19 q.2.2)], rfl, by rw [sheetU, if_neg (fun q => b19 q.2.2)]⟩
    · refine Bd_iload_1 (pc := 0) dX7_sheet_0 ?_
      refine Bd_iconst (v := 4) (pc := 1) dX7_sheet_1 (by decide) ?_
      refine Bd_callS2i (cd := mX7_isWithin) (pc := 2) dX7_sheet_2 k_448 v_X7_isWithin ⟨(Nat.le_of_ble_eq_true rfl), (Nat.le_of_ble_eq_true rfl)⟩ sem_X7_isWithin (Nat.le_of_ble_eq_true rfl) ?_
      refine Bd_if_eq (t := 22) (pc := 5) dX7_sheet_5 (by decide) (fun b5 => (show False from absurd ((b2_t hk).trans b5) (by decide)).elim) (fun b5 => ?_)
      refine Bd_iload_2 (pc := 8) dX7_sheet_8 ?_
      refine Bd_iconst (v := 3) (pc := 9) dX7_sheet_9 (by decide) ?_
      refine Bd_callS2i (cd := mX7_isWithin) (pc := 10) dX7_sheet_10 k_448 v_X7_isWithin ⟨(Nat.le_of_ble_eq_true rfl), (Nat.le_of_ble_eq_true rfl)⟩ sem_X7_isWithin (Nat.le_of_ble_eq_true rfl) ?_
      refine Bd_if_eq (t := 22) (pc := 13) dX7_sheet_13 (by decide) (fun b13 => ?_) (fun b13 => ?_)
      · refine Bd_iconst (v := -1) (pc := 22) dX7_sheet_22 (by decide) ?_
        refine Bd_iret (pc := 23) dX7_sheet_23 rfl ?_
        exact ⟨by rw [sheetV, if_neg (fun q => b2_0.mp b13 q.2.1)], rfl, by rw [sheetU, if_neg (fun q => b2_0.mp b13 q.2.1)]⟩
      · refine Bd_iload_3 (pc := 16) dX7_sheet_16 ?_
        refine Bd_bipush (v := 40) (pc := 17) dX7_sheet_17 (by decide) ?_
        refine Bd_icmp_le (t := 24) (pc := 19) dX7_sheet_19 (by decide) (fun b19 => ?_) (fun b19 => ?_)
        · refine Bd_iload_3 (pc := 24) dX7_sheet_24 ?_
          refine Bd_if_ge (t := 31) (pc := 25) dX7_sheet_25 (by decide) (fun b25 => ?_) (fun b25 => ?_)
          · refine Bd_aload_0 (pc := 31) dX7_sheet_31 ?_
            refine Bd_getR (j := 5) ck7 (pc := 32) dX7_sheet_32 k_240 rfl (Nat.le_of_ble_eq_true rfl) rfl ?_
            refine Bd_iload_1 (pc := 35) dX7_sheet_35 ?_
            refine Bd_aald (pc := 36) dX7_sheet_36 rfl (fun _ => rfl) (by unfold vp_in; decide) rfl ?_
            refine Bd_iload_2 (pc := 37) dX7_sheet_37 ?_
            refine Bd_iload_3 (pc := 38) dX7_sheet_38 ?_
            refine Bd_callV2v (cd := mX4_renew) (pc := 39) dX7_sheet_39 k_742 v_X4_renew ⟨(Nat.le_of_ble_eq_true rfl), (Nat.le_of_ble_eq_true rfl)⟩ rfl rfl sem_renew_38 (Nat.le_of_ble_eq_true rfl) ?_
            refine Bd_iconst (v := 1) (pc := 42) dX7_sheet_42 (by decide) ?_
            refine Bd_iret (pc := 43) dX7_sheet_43 rfl ?_
            exact ⟨by rw [sheetV, if_pos ⟨hk, b2_n.mp b13, b19⟩, if_pos b25], rfl, by rw [sheetU, if_pos ⟨hk, b2_n.mp b13, b19⟩, if_pos b25]; rfl⟩
          · refine Bd_bipush (v := -14) (pc := 28) dX7_sheet_28 (by decide) ?_
            refine Bd_iret (pc := 30) dX7_sheet_30 rfl ?_
            exact ⟨by rw [sheetV, if_pos ⟨hk, b2_n.mp b13, b19⟩, if_neg b25], rfl, by rw [sheetU, if_pos ⟨hk, b2_n.mp b13, b19⟩, if_neg b25]⟩
        · refine Bd_iconst (v := -1) (pc := 22) dX7_sheet_22 (by decide) ?_
          refine Bd_iret (pc := 23) dX7_sheet_23 rfl ?_
          exact ⟨by rw [sheetV, if_neg (fun q => b19 q.2.2)], rfl, by rw [sheetU, if_neg (fun q => b19 q.2.2)]⟩
    · refine Bd_iload_1 (pc := 0) dX7_sheet_0 ?_
      refine Bd_iconst (v := 4) (pc := 1) dX7_sheet_1 (by decide) ?_
      refine Bd_callS2i (cd := mX7_isWithin) (pc := 2) dX7_sheet_2 k_448 v_X7_isWithin ⟨(Nat.le_of_ble_eq_true rfl), (Nat.le_of_ble_eq_true rfl)⟩ sem_X7_isWithin (Nat.le_of_ble_eq_true rfl) ?_
      refine Bd_if_eq (t := 22) (pc := 5) dX7_sheet_5 (by decide) (fun b5 => (show False from absurd ((b2_t hk).trans b5) (by decide)).elim) (fun b5 => ?_)
      refine Bd_iload_2 (pc := 8) dX7_sheet_8 ?_
      refine Bd_iconst (v := 3) (pc := 9) dX7_sheet_9 (by decide) ?_
      refine Bd_callS2i (cd := mX7_isWithin) (pc := 10) dX7_sheet_10 k_448 v_X7_isWithin ⟨(Nat.le_of_ble_eq_true rfl), (Nat.le_of_ble_eq_true rfl)⟩ sem_X7_isWithin (Nat.le_of_ble_eq_true rfl) ?_
      refine Bd_if_eq (t := 22) (pc := 13) dX7_sheet_13 (by decide) (fun b13 => ?_) (fun b13 => ?_)
      · refine Bd_iconst (v := -1) (pc := 22) dX7_sheet_22 (by decide) ?_
        refine Bd_iret (pc := 23) dX7_sheet_23 rfl ?_
        exact ⟨by rw [sheetV, if_neg (fun q => b2_0.mp b13 q.2.1)], rfl, by rw [sheetU, if_neg (fun q => b2_0.mp b13 q.2.1)]⟩
      · refine Bd_iload_3 (pc := 16) dX7_sheet_16 ?_
        refine Bd_bipush (v := 40) (pc := 17) dX7_sheet_17 (by decide) ?_
        refine Bd_icmp_le (t := 24) (pc := 19) dX7_sheet_19 (by decide) (fun b19 => ?_) (fun b19 => ?_)
        · refine Bd_iload_3 (pc := 24) dX7_sheet_24 ?_
          refine Bd_if_ge (t := 31) (pc := 25) dX7_sheet_25 (by decide) (fun b25 => ?_) (fun b25 => ?_)
          · refine Bd_aload_0 (pc := 31) dX7_sheet_31 ?_
            refine Bd_getR (j := 5) ck7 (pc := 32) dX7_sheet_32 k_240 rfl (Nat.le_of_ble_eq_true rfl) rfl ?_
            refine Bd_iload_1 (pc := 35) dX7_sheet_35 ?_
            refine Bd_aald (pc := 36) dX7_sheet_36 rfl (fun _ => rfl) (by unfold vp_in; decide) rfl ?_
            refine Bd_iload_2 (pc := 37) dX7_sheet_37 ?_
            refine Bd_iload_3 (pc := 38) dX7_sheet_38 ?_
            refine Bd_callV2v (cd := mX4_renew) (pc := 39) dX7_sheet_39 k_742 v_X4_renew ⟨(Nat.le_of_ble_eq_true rfl), (Nat.le_of_ble_eq_true rfl)⟩ rfl rfl sem_renew_40 (Nat.le_of_ble_eq_true rfl) ?_
            refine Bd_iconst (v := 1) (pc := 42) dX7_sheet_42 (by decide) ?_
            refine Bd_iret (pc := 43) dX7_sheet_43 rfl ?_
            exact ⟨by rw [sheetV, if_pos ⟨hk, b2_n.mp b13, b19⟩, if_pos b25], rfl, by rw [sheetU, if_pos ⟨hk, b2_n.mp b13, b19⟩, if_pos b25]; rfl⟩
          · refine Bd_bipush (v := -14) (pc := 28) dX7_sheet_28 (by decide) ?_
            refine Bd_iret (pc := 30) dX7_sheet_30 rfl ?_
            exact ⟨by rw [sheetV, if_pos ⟨hk, b2_n.mp b13, b19⟩, if_neg b25], rfl, by rw [sheetU, if_pos ⟨hk, b2_n.mp b13, b19⟩, if_neg b25]⟩
        · refine Bd_iconst (v := -1) (pc := 22) dX7_sheet_22 (by decide) ?_
          refine Bd_iret (pc := 23) dX7_sheet_23 rfl ?_
          exact ⟨by rw [sheetV, if_neg (fun q => b19 q.2.2)], rfl, by rw [sheetU, if_neg (fun q => b19 q.2.2)]⟩
  · refine Bd_iload_1 (pc := 0) dX7_sheet_0 ?_
    refine Bd_iconst (v := 4) (pc := 1) dX7_sheet_1 (by decide) ?_
    refine Bd_callS2i (cd := mX7_isWithin) (pc := 2) dX7_sheet_2 k_448 v_X7_isWithin ⟨(Nat.le_of_ble_eq_true rfl), (Nat.le_of_ble_eq_true rfl)⟩ sem_X7_isWithin (Nat.le_of_ble_eq_true rfl) ?_
    refine Bd_if_eq (t := 22) (pc := 5) dX7_sheet_5 (by decide) (fun b5 => ?_) (fun b5 => (show False from b5 (b2_f hk).symm).elim)
    refine Bd_iconst (v := -1) (pc := 22) dX7_sheet_22 (by decide) ?_
    refine Bd_iret (pc := 23) dX7_sheet_23 rfl ?_
    exact ⟨by rw [sheetV, if_neg (fun q => hk q.1)], rfl, by rw [sheetU, if_neg (fun q => hk q.1)]⟩
set_option maxRecDepth 100000 in
set_option maxHeartbeats 4000000 in
theorem sem_X7_lay {M : Mem} (h : WF M) {k i v : Int32} : Sem mX7_lay SH [.ref 0, .int k, .int i, .int v] M (PD SH (some (.int (layV M k i))) (layU M k i v)) := by
  have q1 := h.nb24
  have q2 := h.nn12
  have q3 := h.nt6
  have q4 := h.nh3
  have q5 := h.nmb
  refine Sem_of rfl (fun G => (Nat.le_of_ble_eq_true rfl)) (fun G => ?_)
  by_cases hk : 0 ≤ k ∧ k < 4
  · rcases k4_c hk with rfl | rfl | rfl | rfl
    · refine Bd_iload_1 (pc := 0) dX7_lay_0 ?_
      refine Bd_iconst (v := 4) (pc := 1) dX7_lay_1 (by decide) ?_
      refine Bd_callS2i (cd := mX7_isWithin) (pc := 2) dX7_lay_2 k_448 v_X7_isWithin ⟨(Nat.le_of_ble_eq_true rfl), (Nat.le_of_ble_eq_true rfl)⟩ sem_X7_isWithin (Nat.le_of_ble_eq_true rfl) ?_
      refine Bd_if_ne (t := 10) (pc := 5) dX7_lay_5 (by decide) (fun b5 => ?_) (fun b5 => (show False from absurd ((b2_t hk).trans b5) (by decide)).elim)
      refine Bd_aload_0 (pc := 10) dX7_lay_10 ?_
      refine Bd_getR (j := 5) ck7 (pc := 11) dX7_lay_11 k_240 rfl (Nat.le_of_ble_eq_true rfl) rfl ?_
      refine Bd_iload_1 (pc := 14) dX7_lay_14 ?_
      refine Bd_aald (pc := 15) dX7_lay_15 rfl (fun _ => rfl) (by unfold vp_in; decide) rfl ?_
      refine Bd_astore_4 (pc := 16) dX7_lay_16 (Nat.le_of_ble_eq_true rfl) rfl ?_
      refine Bd_aload_4 (pc := 18) dX7_lay_18 ?_
      refine Bd_callV0i (cd := mX4_isNothing) (pc := 20) dX7_lay_20 k_750 v_X4_isNothing ⟨(Nat.le_of_ble_eq_true rfl), (Nat.le_of_ble_eq_true rfl)⟩ rfl rfl sem_isNo_34 (Nat.le_of_ble_eq_true rfl) ?_
      refine Bd_if_eq (t := 29) (pc := 23) dX7_lay_23 (by decide) (fun b23 => ?_) (fun b23 => ?_)
      · refine Bd_iload_2 (pc := 29) dX7_lay_29 ?_
        refine Bd_aload_4 (pc := 30) dX7_lay_30 ?_
        refine Bd_getI (j := 2) ck4 (pc := 32) dX7_lay_32 k_227 rfl (Nat.le_of_ble_eq_true rfl) rfl ?_
        refine Bd_callS2i (cd := mX7_isWithin) (pc := 35) dX7_lay_35 k_448 v_X7_isWithin ⟨(Nat.le_of_ble_eq_true rfl), (Nat.le_of_ble_eq_true rfl)⟩ sem_X7_isWithin (Nat.le_of_ble_eq_true rfl) ?_
        refine Bd_if_ne (t := 44) (pc := 38) dX7_lay_38 (by decide) (fun b38 => ?_) (fun b38 => ?_)
        · refine Bd_aload_4 (pc := 44) dX7_lay_44 ?_
          refine Bd_iload_2 (pc := 46) dX7_lay_46 ?_
          refine Bd_iload_3 (pc := 47) dX7_lay_47 ?_
          refine Bd_callV2v (cd := mX4_put) (pc := 48) dX7_lay_48 k_754 v_X4_put ⟨(Nat.le_of_ble_eq_true rfl), (Nat.le_of_ble_eq_true rfl)⟩ rfl rfl (sem_put_34 (vpB b38 h.2.2.2.2.1.2.2)) (Nat.le_of_ble_eq_true rfl) ?_
          refine Bd_iconst (v := 1) (pc := 51) dX7_lay_51 (by decide) ?_
          refine Bd_iret (pc := 52) dX7_lay_52 rfl ?_
          exact ⟨by rw [layV, if_pos hk, show shB 0 = 34 from rfl, if_neg (b2_0.mp b23), if_pos (b2_n.mp b38)], rfl, by rw [layU, if_pos hk, show shB 0 = 34 from rfl, if_neg (b2_0.mp b23), if_pos (b2_n.mp b38)]⟩
        · refine Bd_bipush (v := -12) (pc := 41) dX7_lay_41 (by decide) ?_
          refine Bd_iret (pc := 43) dX7_lay_43 rfl ?_
          exact ⟨by rw [layV, if_pos hk, show shB 0 = 34 from rfl, if_neg (b2_0.mp b23), if_neg (b2_0.mp b38)], rfl, by rw [layU, if_pos hk, show shB 0 = 34 from rfl, if_neg (b2_0.mp b23), if_neg (b2_0.mp b38)]⟩
      · refine Bd_bipush (v := -11) (pc := 26) dX7_lay_26 (by decide) ?_
        refine Bd_iret (pc := 28) dX7_lay_28 rfl ?_
        exact ⟨by rw [layV, if_pos hk, show shB 0 = 34 from rfl, if_pos (b2_n.mp b23)], rfl, by rw [layU, if_pos hk, show shB 0 = 34 from rfl, if_pos (b2_n.mp b23)]⟩
    · refine Bd_iload_1 (pc := 0) dX7_lay_0 ?_
      refine Bd_iconst (v := 4) (pc := 1) dX7_lay_1 (by decide) ?_
      refine Bd_callS2i (cd := mX7_isWithin) (pc := 2) dX7_lay_2 k_448 v_X7_isWithin ⟨(Nat.le_of_ble_eq_true rfl), (Nat.le_of_ble_eq_true rfl)⟩ sem_X7_isWithin (Nat.le_of_ble_eq_true rfl) ?_
      refine Bd_if_ne (t := 10) (pc := 5) dX7_lay_5 (by decide) (fun b5 => ?_) (fun b5 => (show False from absurd ((b2_t hk).trans b5) (by decide)).elim)
      refine Bd_aload_0 (pc := 10) dX7_lay_10 ?_
      refine Bd_getR (j := 5) ck7 (pc := 11) dX7_lay_11 k_240 rfl (Nat.le_of_ble_eq_true rfl) rfl ?_
      refine Bd_iload_1 (pc := 14) dX7_lay_14 ?_
      refine Bd_aald (pc := 15) dX7_lay_15 rfl (fun _ => rfl) (by unfold vp_in; decide) rfl ?_
      refine Bd_astore_4 (pc := 16) dX7_lay_16 (Nat.le_of_ble_eq_true rfl) rfl ?_
      refine Bd_aload_4 (pc := 18) dX7_lay_18 ?_
      refine Bd_callV0i (cd := mX4_isNothing) (pc := 20) dX7_lay_20 k_750 v_X4_isNothing ⟨(Nat.le_of_ble_eq_true rfl), (Nat.le_of_ble_eq_true rfl)⟩ rfl rfl sem_isNo_36 (Nat.le_of_ble_eq_true rfl) ?_
      refine Bd_if_eq (t := 29) (pc := 23) dX7_lay_23 (by decide) (fun b23 => ?_) (fun b23 => ?_)
      · refine Bd_iload_2 (pc := 29) dX7_lay_29 ?_
        refine Bd_aload_4 (pc := 30) dX7_lay_30 ?_
        refine Bd_getI (j := 2) ck4 (pc := 32) dX7_lay_32 k_227 rfl (Nat.le_of_ble_eq_true rfl) rfl ?_
        refine Bd_callS2i (cd := mX7_isWithin) (pc := 35) dX7_lay_35 k_448 v_X7_isWithin ⟨(Nat.le_of_ble_eq_true rfl), (Nat.le_of_ble_eq_true rfl)⟩ sem_X7_isWithin (Nat.le_of_ble_eq_true rfl) ?_
        refine Bd_if_ne (t := 44) (pc := 38) dX7_lay_38 (by decide) (fun b38 => ?_) (fun b38 => ?_)
        · refine Bd_aload_4 (pc := 44) dX7_lay_44 ?_
          refine Bd_iload_2 (pc := 46) dX7_lay_46 ?_
          refine Bd_iload_3 (pc := 47) dX7_lay_47 ?_
          refine Bd_callV2v (cd := mX4_put) (pc := 48) dX7_lay_48 k_754 v_X4_put ⟨(Nat.le_of_ble_eq_true rfl), (Nat.le_of_ble_eq_true rfl)⟩ rfl rfl (sem_put_36 (vpB b38 h.2.2.2.2.2.1.2.2)) (Nat.le_of_ble_eq_true rfl) ?_
          refine Bd_iconst (v := 1) (pc := 51) dX7_lay_51 (by decide) ?_
          refine Bd_iret (pc := 52) dX7_lay_52 rfl ?_
          exact ⟨by rw [layV, if_pos hk, show shB 1 = 36 from rfl, if_neg (b2_0.mp b23), if_pos (b2_n.mp b38)], rfl, by rw [layU, if_pos hk, show shB 1 = 36 from rfl, if_neg (b2_0.mp b23), if_pos (b2_n.mp b38)]⟩
        · refine Bd_bipush (v := -12) (pc := 41) dX7_lay_41 (by decide) ?_
          refine Bd_iret (pc := 43) dX7_lay_43 rfl ?_
          exact ⟨by rw [layV, if_pos hk, show shB 1 = 36 from rfl, if_neg (b2_0.mp b23), if_neg (b2_0.mp b38)], rfl, by rw [layU, if_pos hk, show shB 1 = 36 from rfl, if_neg (b2_0.mp b23), if_neg (b2_0.mp b38)]⟩
      · refine Bd_bipush (v := -11) (pc := 26) dX7_lay_26 (by decide) ?_
        refine Bd_iret (pc := 28) dX7_lay_28 rfl ?_
        exact ⟨by rw [layV, if_pos hk, show shB 1 = 36 from rfl, if_pos (b2_n.mp b23)], rfl, by rw [layU, if_pos hk, show shB 1 = 36 from rfl, if_pos (b2_n.mp b23)]⟩
    · refine Bd_iload_1 (pc := 0) dX7_lay_0 ?_
      refine Bd_iconst (v := 4) (pc := 1) dX7_lay_1 (by decide) ?_
      refine Bd_callS2i (cd := mX7_isWithin) (pc := 2) dX7_lay_2 k_448 v_X7_isWithin ⟨(Nat.le_of_ble_eq_true rfl), (Nat.le_of_ble_eq_true rfl)⟩ sem_X7_isWithin (Nat.le_of_ble_eq_true rfl) ?_
      refine Bd_if_ne (t := 10) (pc := 5) dX7_lay_5 (by decide) (fun b5 => ?_) (fun b5 => (show False from absurd ((b2_t hk).trans b5) (by decide)).elim)
      refine Bd_aload_0 (pc := 10) dX7_lay_10 ?_
      refine Bd_getR (j := 5) ck7 (pc := 11) dX7_lay_11 k_240 rfl (Nat.le_of_ble_eq_true rfl) rfl ?_
      refine Bd_iload_1 (pc := 14) dX7_lay_14 ?_
      refine Bd_aald (pc := 15) dX7_lay_15 rfl (fun _ => rfl) (by unfold vp_in; decide) rfl ?_
      refine Bd_astore_4 (pc := 16) dX7_lay_16 (Nat.le_of_ble_eq_true rfl) rfl ?_
      refine Bd_aload_4 (pc := 18) dX7_lay_18 ?_
      refine Bd_callV0i (cd := mX4_isNothing) (pc := 20) dX7_lay_20 k_750 v_X4_isNothing ⟨(Nat.le_of_ble_eq_true rfl), (Nat.le_of_ble_eq_true rfl)⟩ rfl rfl sem_isNo_38 (Nat.le_of_ble_eq_true rfl) ?_
      refine Bd_if_eq (t := 29) (pc := 23) dX7_lay_23 (by decide) (fun b23 => ?_) (fun b23 => ?_)
      · refine Bd_iload_2 (pc := 29) dX7_lay_29 ?_
        refine Bd_aload_4 (pc := 30) dX7_lay_30 ?_
        refine Bd_getI (j := 2) ck4 (pc := 32) dX7_lay_32 k_227 rfl (Nat.le_of_ble_eq_true rfl) rfl ?_
        refine Bd_callS2i (cd := mX7_isWithin) (pc := 35) dX7_lay_35 k_448 v_X7_isWithin ⟨(Nat.le_of_ble_eq_true rfl), (Nat.le_of_ble_eq_true rfl)⟩ sem_X7_isWithin (Nat.le_of_ble_eq_true rfl) ?_
        refine Bd_if_ne (t := 44) (pc := 38) dX7_lay_38 (by decide) (fun b38 => ?_) (fun b38 => ?_)
        · refine Bd_aload_4 (pc := 44) dX7_lay_44 ?_
          refine Bd_iload_2 (pc := 46) dX7_lay_46 ?_
          refine Bd_iload_3 (pc := 47) dX7_lay_47 ?_
          refine Bd_callV2v (cd := mX4_put) (pc := 48) dX7_lay_48 k_754 v_X4_put ⟨(Nat.le_of_ble_eq_true rfl), (Nat.le_of_ble_eq_true rfl)⟩ rfl rfl (sem_put_38 (vpB b38 h.2.2.2.2.2.2.1.2.2)) (Nat.le_of_ble_eq_true rfl) ?_
          refine Bd_iconst (v := 1) (pc := 51) dX7_lay_51 (by decide) ?_
          refine Bd_iret (pc := 52) dX7_lay_52 rfl ?_
          exact ⟨by rw [layV, if_pos hk, show shB 2 = 38 from rfl, if_neg (b2_0.mp b23), if_pos (b2_n.mp b38)], rfl, by rw [layU, if_pos hk, show shB 2 = 38 from rfl, if_neg (b2_0.mp b23), if_pos (b2_n.mp b38)]⟩
        · refine Bd_bipush (v := -12) (pc := 41) dX7_lay_41 (by decide) ?_
          refine Bd_iret (pc := 43) dX7_lay_43 rfl ?_
          exact ⟨by rw [layV, if_pos hk, show shB 2 = 38 from rfl, if_neg (b2_0.mp b23), if_neg (b2_0.mp b38)], rfl, by rw [layU, if_pos hk, show shB 2 = 38 from rfl, if_neg (b2_0.mp b23), if_neg (b2_0.mp b38)]⟩
      · refine Bd_bipush (v := -11) (pc := 26) dX7_lay_26 (by decide) ?_
        refine Bd_iret (pc := 28) dX7_lay_28 rfl ?_
        exact ⟨by rw [layV, if_pos hk, show shB 2 = 38 from rfl, if_pos (b2_n.mp b23)], rfl, by rw [layU, if_pos hk, show shB 2 = 38 from rfl, if_pos (b2_n.mp b23)]⟩
    · refine Bd_iload_1 (pc := 0) dX7_lay_0 ?_
      refine Bd_iconst (v := 4) (pc := 1) dX7_lay_1 (by decide) ?_
      refine Bd_callS2i (cd := mX7_isWithin) (pc := 2) dX7_lay_2 k_448 v_X7_isWithin ⟨(Nat.le_of_ble_eq_true rfl), (Nat.le_of_ble_eq_true rfl)⟩ sem_X7_isWithin (Nat.le_of_ble_eq_true rfl) ?_
      refine Bd_if_ne (t := 10) (pc := 5) dX7_lay_5 (by decide) (fun b5 => ?_) (fun b5 => (show False from absurd ((b2_t hk).trans b5) (by decide)).elim)
      refine Bd_aload_0 (pc := 10) dX7_lay_10 ?_
      refine Bd_getR (j := 5) ck7 (pc := 11) dX7_lay_11 k_240 rfl (Nat.le_of_ble_eq_true rfl) rfl ?_
      refine Bd_iload_1 (pc := 14) dX7_lay_14 ?_
      refine Bd_aald (pc := 15) dX7_lay_15 rfl (fun _ => rfl) (by unfold vp_in; decide) rfl ?_
      refine Bd_astore_4 (pc := 16) dX7_lay_16 (Nat.le_of_ble_eq_true rfl) rfl ?_
      refine Bd_aload_4 (pc := 18) dX7_lay_18 ?_
      refine Bd_callV0i (cd := mX4_isNothing) (pc := 20) dX7_lay_20 k_750 v_X4_isNothing ⟨(Nat.le_of_ble_eq_true rfl), (Nat.le_of_ble_eq_true rfl)⟩ rfl rfl sem_isNo_40 (Nat.le_of_ble_eq_true rfl) ?_
      refine Bd_if_eq (t := 29) (pc := 23) dX7_lay_23 (by decide) (fun b23 => ?_) (fun b23 => ?_)
      · refine Bd_iload_2 (pc := 29) dX7_lay_29 ?_
        refine Bd_aload_4 (pc := 30) dX7_lay_30 ?_
        refine Bd_getI (j := 2) ck4 (pc := 32) dX7_lay_32 k_227 rfl (Nat.le_of_ble_eq_true rfl) rfl ?_
        refine Bd_callS2i (cd := mX7_isWithin) (pc := 35) dX7_lay_35 k_448 v_X7_isWithin ⟨(Nat.le_of_ble_eq_true rfl), (Nat.le_of_ble_eq_true rfl)⟩ sem_X7_isWithin (Nat.le_of_ble_eq_true rfl) ?_
        refine Bd_if_ne (t := 44) (pc := 38) dX7_lay_38 (by decide) (fun b38 => ?_) (fun b38 => ?_)
        · refine Bd_aload_4 (pc := 44) dX7_lay_44 ?_
          refine Bd_iload_2 (pc := 46) dX7_lay_46 ?_
          refine Bd_iload_3 (pc := 47) dX7_lay_47 ?_
          refine Bd_callV2v (cd := mX4_put) (pc := 48) dX7_lay_48 k_754 v_X4_put ⟨(Nat.le_of_ble_eq_true rfl), (Nat.le_of_ble_eq_true rfl)⟩ rfl rfl (sem_put_40 (vpB b38 h.2.2.2.2.2.2.2.2.2)) (Nat.le_of_ble_eq_true rfl) ?_
          refine Bd_iconst (v := 1) (pc := 51) dX7_lay_51 (by decide) ?_
          refine Bd_iret (pc := 52) dX7_lay_52 rfl ?_
          exact ⟨by rw [layV, if_pos hk, show shB 3 = 40 from rfl, if_neg (b2_0.mp b23), if_pos (b2_n.mp b38)], rfl, by rw [layU, if_pos hk, show shB 3 = 40 from rfl, if_neg (b2_0.mp b23), if_pos (b2_n.mp b38)]⟩
        · refine Bd_bipush (v := -12) (pc := 41) dX7_lay_41 (by decide) ?_
          refine Bd_iret (pc := 43) dX7_lay_43 rfl ?_
          exact ⟨by rw [layV, if_pos hk, show shB 3 = 40 from rfl, if_neg (b2_0.mp b23), if_neg (b2_0.mp b38)], rfl, by rw [layU, if_pos hk, show shB 3 = 40 from rfl, if_neg (b2_0.mp b23), if_neg (b2_0.mp b38)]⟩
      · refine Bd_bipush (v := -11) (pc := 26) dX7_lay_26 (by decide) ?_
        refine Bd_iret (pc := 28) dX7_lay_28 rfl ?_
        exact ⟨by rw [layV, if_pos hk, show shB 3 = 40 from rfl, if_pos (b2_n.mp b23)], rfl, by rw [layU, if_pos hk, show shB 3 = 40 from rfl, if_pos (b2_n.mp b23)]⟩
  · refine Bd_iload_1 (pc := 0) dX7_lay_0 ?_
    refine Bd_iconst (v := 4) (pc := 1) dX7_lay_1 (by decide) ?_
    refine Bd_callS2i (cd := mX7_isWithin) (pc := 2) dX7_lay_2 k_448 v_X7_isWithin ⟨(Nat.le_of_ble_eq_true rfl), (Nat.le_of_ble_eq_true rfl)⟩ sem_X7_isWithin (Nat.le_of_ble_eq_true rfl) ?_
    refine Bd_if_ne (t := 10) (pc := 5) dX7_lay_5 (by decide) (fun b5 => (show False from b5 (b2_f hk).symm).elim) (fun b5 => ?_)
    refine Bd_iconst (v := -1) (pc := 8) dX7_lay_8 (by decide) ?_
    refine Bd_iret (pc := 9) dX7_lay_9 rfl ?_
    exact ⟨by rw [layV, if_neg hk], rfl, by rw [layU, if_neg hk]⟩
def countV (M : Mem) (k : Int32) : Int32 := if k = 0 then M 44 6 else if k = 1 then M 44 7 else if k = 2 then M 44 8 else if k = 3 then M 5 4 else if k = 4 then M 5 5 else if k = 5 then (if M 17 5 = 0 then 0 else 1) + (if M 25 5 = 0 then 0 else 1) else if k = 6 then M 1 2 else if k = 7 then (if M 34 1 = -1 then -4 else M 34 2) else -1
theorem sw8 {x : Int32} (h0 : ¬ x = 0) (h1 : ¬ x = 1) (h2 : ¬ x = 2) (h3 : ¬ x = 3) (h4 : ¬ x = 4) (h5 : ¬ x = 5) (h6 : ¬ x = 6) (h7 : ¬ x = 7) : x.toInt < 0 ∨ 7 < x.toInt := by
  have e0 : ¬ x.toInt = 0 := fun q => h0 (Int32.toInt_inj.mp q)
  have e1 : ¬ x.toInt = 1 := fun q => h1 (Int32.toInt_inj.mp q)
  have e2 : ¬ x.toInt = 2 := fun q => h2 (Int32.toInt_inj.mp q)
  have e3 : ¬ x.toInt = 3 := fun q => h3 (Int32.toInt_inj.mp q)
  have e4 : ¬ x.toInt = 4 := fun q => h4 (Int32.toInt_inj.mp q)
  have e5 : ¬ x.toInt = 5 := fun q => h5 (Int32.toInt_inj.mp q)
  have e6 : ¬ x.toInt = 6 := fun q => h6 (Int32.toInt_inj.mp q)
  have e7 : ¬ x.toInt = 7 := fun q => h7 (Int32.toInt_inj.mp q)
  omega
set_option maxRecDepth 100000 in
set_option maxHeartbeats 4000000 in
theorem sem_X7_count {M : Mem} {k : Int32} : Sem mX7_count SH [.ref 0, .int k] M (PD SH (some (.int (countV M k))) (M)) := by
  refine Sem_of rfl (fun G => (Nat.le_of_ble_eq_true rfl)) (fun G => ?_)
  refine Bd_iload_1 (pc := 0) dX7_count_0 ?_
  rcases Decidable.em (k = 0) with z0 | z0
  · rw [z0]
    refine Bd_swIn (t := 48) (pc := 1) dX7_count_1 (by decide) (by decide) rfl (by decide) ?_
    refine Bd_aload_0 (pc := 48) dX7_count_48 ?_
    refine Bd_getR (j := 8) ck7 (pc := 49) dX7_count_49 k_243 rfl (Nat.le_of_ble_eq_true rfl) rfl ?_
    refine Bd_getI (j := 6) ck3 (pc := 52) dX7_count_52 k_165 rfl (Nat.le_of_ble_eq_true rfl) rfl ?_
    refine Bd_iret (pc := 55) dX7_count_55 rfl ?_
    exact PD_i (by unfold countV; simp [*]) rfl
  rcases Decidable.em (k = 1) with z1 | z1
  · rw [z1]
    refine Bd_swIn (t := 56) (pc := 1) dX7_count_1 (by decide) (by decide) rfl (by decide) ?_
    refine Bd_aload_0 (pc := 56) dX7_count_56 ?_
    refine Bd_getR (j := 8) ck7 (pc := 57) dX7_count_57 k_243 rfl (Nat.le_of_ble_eq_true rfl) rfl ?_
    refine Bd_getI (j := 7) ck3 (pc := 60) dX7_count_60 k_167 rfl (Nat.le_of_ble_eq_true rfl) rfl ?_
    refine Bd_iret (pc := 63) dX7_count_63 rfl ?_
    exact PD_i (by unfold countV; simp [*]) rfl
  rcases Decidable.em (k = 2) with z2 | z2
  · rw [z2]
    refine Bd_swIn (t := 64) (pc := 1) dX7_count_1 (by decide) (by decide) rfl (by decide) ?_
    refine Bd_aload_0 (pc := 64) dX7_count_64 ?_
    refine Bd_getR (j := 8) ck7 (pc := 65) dX7_count_65 k_243 rfl (Nat.le_of_ble_eq_true rfl) rfl ?_
    refine Bd_getI (j := 8) ck3 (pc := 68) dX7_count_68 k_171 rfl (Nat.le_of_ble_eq_true rfl) rfl ?_
    refine Bd_iret (pc := 71) dX7_count_71 rfl ?_
    exact PD_i (by unfold countV; simp [*]) rfl
  rcases Decidable.em (k = 3) with z3 | z3
  · rw [z3]
    refine Bd_swIn (t := 72) (pc := 1) dX7_count_1 (by decide) (by decide) rfl (by decide) ?_
    refine Bd_aload_0 (pc := 72) dX7_count_72 ?_
    refine Bd_getR (j := 2) ck7 (pc := 73) dX7_count_73 k_237 rfl (Nat.le_of_ble_eq_true rfl) rfl ?_
    refine Bd_getI (j := 4) ck0 (pc := 76) dX7_count_76 k_92 rfl (Nat.le_of_ble_eq_true rfl) rfl ?_
    refine Bd_iret (pc := 79) dX7_count_79 rfl ?_
    exact PD_i (by unfold countV; simp [*]) rfl
  rcases Decidable.em (k = 4) with z4 | z4
  · rw [z4]
    refine Bd_swIn (t := 80) (pc := 1) dX7_count_1 (by decide) (by decide) rfl (by decide) ?_
    refine Bd_aload_0 (pc := 80) dX7_count_80 ?_
    refine Bd_getR (j := 2) ck7 (pc := 81) dX7_count_81 k_237 rfl (Nat.le_of_ble_eq_true rfl) rfl ?_
    refine Bd_getI (j := 5) ck0 (pc := 84) dX7_count_84 k_94 rfl (Nat.le_of_ble_eq_true rfl) rfl ?_
    refine Bd_iret (pc := 87) dX7_count_87 rfl ?_
    exact PD_i (by unfold countV; simp [*]) rfl
  rcases Decidable.em (k = 5) with z5 | z5
  · rw [z5]
    refine Bd_swIn (t := 88) (pc := 1) dX7_count_1 (by decide) (by decide) rfl (by decide) ?_
    refine Bd_aload_0 (pc := 88) dX7_count_88 ?_
    refine Bd_getR (j := 4) ck7 (pc := 89) dX7_count_89 k_239 rfl (Nat.le_of_ble_eq_true rfl) rfl ?_
    refine Bd_iconst (v := 0) (pc := 92) dX7_count_92 (by decide) ?_
    refine Bd_aald (pc := 93) dX7_count_93 rfl (fun _ => rfl) (by unfold vp_in; decide) rfl ?_
    refine Bd_getI (j := 5) ck2 (pc := 94) dX7_count_94 k_204 rfl (Nat.le_of_ble_eq_true rfl) rfl ?_
    refine Bd_if_eq (t := 104) (pc := 97) dX7_count_97 (by decide) (fun b97 => ?_) (fun b97 => ?_)
    · refine Bd_iconst (v := 0) (pc := 104) dX7_count_104 (by decide) ?_
      refine Bd_aload_0 (pc := 105) dX7_count_105 ?_
      refine Bd_getR (j := 4) ck7 (pc := 106) dX7_count_106 k_239 rfl (Nat.le_of_ble_eq_true rfl) rfl ?_
      refine Bd_iconst (v := 1) (pc := 109) dX7_count_109 (by decide) ?_
      refine Bd_aald (pc := 110) dX7_count_110 rfl (fun _ => rfl) (by unfold vp_in; decide) rfl ?_
      refine Bd_getI (j := 5) ck2 (pc := 111) dX7_count_111 k_204 rfl (Nat.le_of_ble_eq_true rfl) rfl ?_
      refine Bd_if_eq (t := 121) (pc := 114) dX7_count_114 (by decide) (fun b114 => ?_) (fun b114 => ?_)
      · refine Bd_iconst (v := 0) (pc := 121) dX7_count_121 (by decide) ?_
        refine Bd_iadd (pc := 122) dX7_count_122 ?_
        refine Bd_iret (pc := 123) dX7_count_123 rfl ?_
        exact PD_i (by unfold countV; simp [b97, b114, *]) rfl
      · refine Bd_iconst (v := 1) (pc := 117) dX7_count_117 (by decide) ?_
        refine Bd_goto (t := 122) (pc := 118) dX7_count_118 (by decide) ?_
        refine Bd_iadd (pc := 122) dX7_count_122 ?_
        refine Bd_iret (pc := 123) dX7_count_123 rfl ?_
        exact PD_i (by unfold countV; simp [b97, b114, *]) rfl
    · refine Bd_iconst (v := 1) (pc := 100) dX7_count_100 (by decide) ?_
      refine Bd_goto (t := 105) (pc := 101) dX7_count_101 (by decide) ?_
      refine Bd_aload_0 (pc := 105) dX7_count_105 ?_
      refine Bd_getR (j := 4) ck7 (pc := 106) dX7_count_106 k_239 rfl (Nat.le_of_ble_eq_true rfl) rfl ?_
      refine Bd_iconst (v := 1) (pc := 109) dX7_count_109 (by decide) ?_
      refine Bd_aald (pc := 110) dX7_count_110 rfl (fun _ => rfl) (by unfold vp_in; decide) rfl ?_
      refine Bd_getI (j := 5) ck2 (pc := 111) dX7_count_111 k_204 rfl (Nat.le_of_ble_eq_true rfl) rfl ?_
      refine Bd_if_eq (t := 121) (pc := 114) dX7_count_114 (by decide) (fun b114 => ?_) (fun b114 => ?_)
      · refine Bd_iconst (v := 0) (pc := 121) dX7_count_121 (by decide) ?_
        refine Bd_iadd (pc := 122) dX7_count_122 ?_
        refine Bd_iret (pc := 123) dX7_count_123 rfl ?_
        exact PD_i (by unfold countV; simp [b97, b114, *]) rfl
      · refine Bd_iconst (v := 1) (pc := 117) dX7_count_117 (by decide) ?_
        refine Bd_goto (t := 122) (pc := 118) dX7_count_118 (by decide) ?_
        refine Bd_iadd (pc := 122) dX7_count_122 ?_
        refine Bd_iret (pc := 123) dX7_count_123 rfl ?_
        exact PD_i (by unfold countV; simp [b97, b114, *]) rfl
  rcases Decidable.em (k = 6) with z6 | z6
  · rw [z6]
    refine Bd_swIn (t := 124) (pc := 1) dX7_count_1 (by decide) (by decide) rfl (by decide) ?_
    refine Bd_aload_0 (pc := 124) dX7_count_124 ?_
    refine Bd_getR (j := 0) ck7 (pc := 125) dX7_count_125 k_235 rfl (Nat.le_of_ble_eq_true rfl) rfl ?_
    refine Bd_getI (j := 2) ck5 (pc := 128) dX7_count_128 k_34 rfl (Nat.le_of_ble_eq_true rfl) rfl ?_
    refine Bd_iret (pc := 131) dX7_count_131 rfl ?_
    exact PD_i (by unfold countV; simp [*]) rfl
  rcases Decidable.em (k = 7) with z7 | z7
  · rw [z7]
    refine Bd_swIn (t := 132) (pc := 1) dX7_count_1 (by decide) (by decide) rfl (by decide) ?_
    refine Bd_aload_0 (pc := 132) dX7_count_132 ?_
    refine Bd_getR (j := 5) ck7 (pc := 133) dX7_count_133 k_240 rfl (Nat.le_of_ble_eq_true rfl) rfl ?_
    refine Bd_iconst (v := 0) (pc := 136) dX7_count_136 (by decide) ?_
    refine Bd_aald (pc := 137) dX7_count_137 rfl (fun _ => rfl) (by unfold vp_in; decide) rfl ?_
    refine Bd_callV0i (cd := mX4_isNothing) (pc := 138) dX7_count_138 k_750 v_X4_isNothing ⟨(Nat.le_of_ble_eq_true rfl), (Nat.le_of_ble_eq_true rfl)⟩ rfl rfl sem_isNo_34 (Nat.le_of_ble_eq_true rfl) ?_
    refine Bd_if_eq (t := 149) (pc := 141) dX7_count_141 (by decide) (fun b141 => ?_) (fun b141 => ?_)
    · refine Bd_aload_0 (pc := 149) dX7_count_149 ?_
      refine Bd_getR (j := 5) ck7 (pc := 150) dX7_count_150 k_240 rfl (Nat.le_of_ble_eq_true rfl) rfl ?_
      refine Bd_iconst (v := 0) (pc := 153) dX7_count_153 (by decide) ?_
      refine Bd_aald (pc := 154) dX7_count_154 rfl (fun _ => rfl) (by unfold vp_in; decide) rfl ?_
      refine Bd_getI (j := 2) ck4 (pc := 155) dX7_count_155 k_227 rfl (Nat.le_of_ble_eq_true rfl) rfl ?_
      refine Bd_iret (pc := 158) dX7_count_158 rfl ?_
      exact PD_i (by unfold countV; simp [(b2_0.mp b141), *]) rfl
    · refine Bd_bipush (v := -4) (pc := 144) dX7_count_144 (by decide) ?_
      refine Bd_goto (t := 158) (pc := 146) dX7_count_146 (by decide) ?_
      refine Bd_iret (pc := 158) dX7_count_158 rfl ?_
      exact PD_i (by unfold countV; simp [(b2_n.mp b141), *]) rfl
  refine Bd_swOut (t := 159) (pc := 1) dX7_count_1 (sw8 z0 z1 z2 z3 z4 z5 z6 z7) (by decide) ?_
  refine Bd_iconst (v := -1) (pc := 159) dX7_count_159 (by decide) ?_
  refine Bd_iret (pc := 160) dX7_count_160 rfl ?_
  exact PD_i (by unfold countV; simp [*]) rfl
