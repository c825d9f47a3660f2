/-! 78: land of the reference: its tokens -/
-- places of the reference's own numbers: 18 taped, 19 fault, 20 broken, 21 brokenAt, 22 spot, 23 here, 24 token, 25 value
abbrev uI (N : Mem) : Nat := cn (N 58 22)
abbrev uL (N : Mem) : Nat := cn (N 58 18)
def UI (N : Mem) : Prop := N 58 22 = nI (uI N) ∧ N 58 18 = nI (uL N) ∧ uI N ≤ uL N ∧ uL N ≤ 320
def baF (N : Mem) (k : Nat) : Int32 := if k < uL N then N 67 k else -4
def flM (N : Mem) (c : Int32) : Mem := if N 58 20 = 0 then updM (updM N 58 20 c) 58 21 (N 58 23) else N
theorem flM_0 {N : Mem} {c : Int32} (h : N 58 20 = 0) : flM N c = updM (updM N 58 20 c) 58 21 (N 58 23) := by unfold flM; rw [if_pos h]
theorem flM_1 {N : Mem} {c : Int32} (h : ¬ N 58 20 = 0) : flM N c = N := by unfold flM; rw [if_neg h]
/-- the reference's number: its value is that of three figures -/
def nmR (f : Nat → Int32) (s : Nat) : Nat → Nat → Int32 → Nat × Int32
  | 0, i, v => (i, v)
  | k + 1, i, v => if fgB (f i) = true then nmR f s k (i + 1) (if nI i - nI s < 3 then 10 * v + f i - 48 else v) else (i, v)
theorem nmR_s {f : Nat → Int32} {s L x : Nat} {v : Int32} (h : x < L) : nmR f s (L - x) x v = if fgB (f x) = true then nmR f s (L - (x + 1)) (x + 1) (if nI x - nI s < 3 then 10 * v + f x - 48 else v) else (x, v) := by
  rw [show L - x = (L - (x + 1)) + 1 by omega]; rfl
theorem nmR_1 {f : Nat → Int32} {s : Nat} : ∀ k i v w, (nmR f s k i v).1 = (nmE f k i w).1
  | 0, _, _, _ => rfl
  | k + 1, i, v, w => by
    unfold nmR nmE
    split
    · exact nmR_1 k (i + 1) _ _
    · rfl
abbrev sR (N : Mem) : Nat := rnE spB (N 67) (uL N - uI N) (uI N)
/-- where the token ends, its kind (0 end, 1 name, 2 number, 3 sign), its value, whether it fails -/
def rkE (f : Nat → Int32) (L s : Nat) : Nat := tkE f L s
def rkT (f : Nat → Int32) (L s : Nat) : Int32 := if L ≤ s then 0 else if ltP (f s) then 1 else if fgP (f s) then 2 else 3
def rkV (f : Nat → Int32) (L s : Nat) : Int32 := if L ≤ s then 0 else if ltP (f s) then 0 else if fgP (f s) then (nmR f s (L - s) s 0).2 else 0
abbrev rkB (f : Nat → Int32) (L s : Nat) : Prop := ¬ L ≤ s ∧ ¬ ltP (f s) ∧ ((fgP (f s) ∧ ¬ nI (nmE f (L - s) s 0).1 - nI s ≤ 3) ∨ (¬ fgP (f s) ∧ ¬ f s = 59))
def stG (N : Mem) (s e t v : Int32) : Mem := updM (updM (updM (updM N 58 23 s) 58 25 v) 58 22 e) 58 24 t
def stN (N : Mem) : Mem := stG N (nI (sR N)) (nI (rkE (N 67) (uL N) (sR N))) (rkT (N 67) (uL N) (sR N)) (rkV (N 67) (uL N) (sR N))
def stM (N : Mem) : Mem := if N 58 20 = 0 then (if rkB (N 67) (uL N) (sR N) then flM (stN N) 1 else stN N) else N
theorem stG_ne {M : Mem} {s e k v : Int32} {q : Nat} (h : q ≠ 58) : stG M s e k v q = M q := by
  unfold stG
  rw [updM_ne h, updM_ne h, updM_ne h, updM_ne h]
theorem stG_j {M : Mem} {s e k v : Int32} (j : Nat) : stG M s e k v 58 j = if j = 24 then k else if j = 22 then e else if j = 25 then v else if j = 23 then s else M 58 j := by
  unfold stG
  simp only [updM_eq, upd]
theorem sR_b {N : Mem} (h : UI N) : uI N ≤ sR N ∧ sR N ≤ uL N := by
  have a : uI N ≤ sR N ∧ sR N ≤ uI N + (uL N - uI N) := rnE_le (p := spB) (f := N 67) (uL N - uI N) (uI N)
  have := h.2.2.1
  omega
set_option maxRecDepth 100000 in
set_option maxHeartbeats 4000000 in
theorem sem_X8_byteAt {N : Mem} {k : Nat} (hL : N 58 18 = nI (uL N)) (h320 : uL N ≤ 320) (hk : k ≤ 320) : Sem mX8_byteAt SH [.ref 58, .int (nI k)] N (PD SH (some (.int (baF N k))) N) := by
  refine Sem_of rfl (fun G => (Nat.le_of_ble_eq_true rfl)) (fun G => ?_)
  refine Bd_iload_1 (pc := 0) dX8_byteAt_0 ?_
  refine Bd_aload_0 (pc := 1) dX8_byteAt_1 ?_
  refine Bd_getI (j := 18) ck8 (pc := 2) dX8_byteAt_2 k_804 rfl (Nat.le_of_ble_eq_true rfl) rfl ?_
  refine Bd_icmp_ge (t := 17) (pc := 5) dX8_byteAt_5 (by decide) (fun b5 => ?_) (fun b5 => ?_)
  · have hx : ¬ k < uL N := fun z => nI_ge z (by omega) (hL ▸ b5)
    refine Bd_bipush (v := -4) (pc := 17) dX8_byteAt_17 (by decide) ?_
    refine Bd_iret (pc := 19) dX8_byteAt_19 rfl ?_
    exact PD_i (by rw [baF, if_neg hx]) rfl
  · have hx : k < uL N := Nat.not_le.mp (fun z => b5 (by rw [hL]; exact nI_le z (by omega)))
    refine Bd_aload_0 (pc := 8) dX8_byteAt_8 ?_
    refine Bd_getR (j := 17) ck8 (pc := 9) dX8_byteAt_9 k_803 rfl (Nat.le_of_ble_eq_true rfl) rfl ?_
    refine Bd_iload_1 (pc := 12) dX8_byteAt_12 ?_
    refine Bd_ialdc (j := k) (nI_clamp (by omega)) (pc := 13) dX8_byteAt_13 rfl (vpi (by omega) (by omega)) ?_
    refine Bd_goto (t := 19) (pc := 14) dX8_byteAt_14 (by decide) ?_
    refine Bd_iret (pc := 19) dX8_byteAt_19 rfl ?_
    exact PD_i (by rw [baF, if_pos hx]) rfl
set_option maxRecDepth 100000 in
set_option maxHeartbeats 4000000 in
theorem sem_X8_fails {N : Mem} {c : Int32} : Sem mX8_fails SH [.ref 58, .int c] N (PD SH none (flM N c)) := by
  refine Sem_of rfl (fun G => (Nat.le_of_ble_eq_true rfl)) (fun G => ?_)
  refine Bd_aload_0 (pc := 0) dX8_fails_0 ?_
  refine Bd_getI (j := 20) ck8 (pc := 1) dX8_fails_1 k_806 rfl (Nat.le_of_ble_eq_true rfl) rfl ?_
  refine Bd_if_ne (t := 20) (pc := 4) dX8_fails_4 (by decide) (fun b4 => ?_) (fun b4 => ?_)
  · refine Bd_vret (pc := 20) dX8_fails_20 rfl ?_
    exact PD_v (flM_1 b4).symm
  · refine Bd_aload_0 (pc := 7) dX8_fails_7 ?_
    refine Bd_iload_1 (pc := 8) dX8_fails_8 ?_
    refine Bd_putI (j := 20) (ty := .int) ck8 (pc := 9) dX8_fails_9 k_806 rfl (Nat.le_of_ble_eq_true rfl) rfl rfl pfI rfl rfl ?_
    refine Bd_aload_0 (pc := 12) dX8_fails_12 ?_
    refine Bd_aload_0 (pc := 13) dX8_fails_13 ?_
    refine Bd_getI (j := 23) ck8 (pc := 14) dX8_fails_14 k_809 rfl (Nat.le_of_ble_eq_true rfl) rfl ?_
    refine Bd_putI (j := 21) (ty := .int) ck8 (pc := 17) dX8_fails_17 k_807 rfl (Nat.le_of_ble_eq_true rfl) rfl rfl pfI rfl rfl ?_
    refine Bd_vret (pc := 20) dX8_fails_20 rfl ?_
    exact PD_v (flM_0 b4).symm
theorem baF_in {N : Mem} {k : Nat} (h : k < uL N) : baF N k = N 67 k := by unfold baF; rw [if_pos h]
theorem baF_out {N : Mem} {k : Nat} (h : ¬ k < uL N) : baF N k = -4 := by unfold baF; rw [if_neg h]
theorem st_end {N : Mem} {s : Int32} : updM (updM (updM (updM N 58 22 s) 58 23 s) 58 25 0) 58 24 0 = stG N s s 0 0 := by
  refine mem_ext 58 (fun q h => by rw [stG_ne h, updM_ne h, updM_ne h, updM_ne h, updM_ne h]) (fun j => ?_)
  rw [stG_j]
  simp only [updM_eq, upd]
  by_cases a : j = 24
  · simp [a]
  · by_cases b : j = 22
    · simp [b]
    · by_cases c : j = 25
      · simp [c]
      · by_cases d : j = 23
        · simp [d]
        · simp [a, b, c, d]
theorem st_nam {N : Mem} {s e : Int32} : updM (updM (updM (updM (updM N 58 22 s) 58 23 s) 58 25 0) 58 22 e) 58 24 1 = stG N s e 1 0 := by
  refine mem_ext 58 (fun q h => by rw [stG_ne h, updM_ne h, updM_ne h, updM_ne h, updM_ne h, updM_ne h]) (fun j => ?_)
  rw [stG_j]
  simp only [updM_eq, upd]
  by_cases a : j = 24
  · simp [a]
  · by_cases b : j = 22
    · simp [b]
    · by_cases c : j = 25
      · simp [c]
      · by_cases d : j = 23
        · simp [d]
        · simp [a, b, c, d]
theorem st_num {N : Mem} {s e v : Int32} : updM (updM (updM (updM (updM (updM N 58 22 s) 58 23 s) 58 25 0) 58 25 v) 58 22 e) 58 24 2 = stG N s e 2 v := by
  refine mem_ext 58 (fun q h => by rw [stG_ne h, updM_ne h, updM_ne h, updM_ne h, updM_ne h, updM_ne h, updM_ne h]) (fun j => ?_)
  rw [stG_j]
  simp only [updM_eq, upd]
  by_cases a : j = 24
  · simp [a]
  · by_cases b : j = 22
    · simp [b]
    · by_cases c : j = 25
      · simp [c]
      · by_cases d : j = 23
        · simp [d]
        · simp [a, b, c, d]
theorem st_oth {N : Mem} {s e : Int32} : updM (updM (updM (updM (updM N 58 22 s) 58 23 s) 58 25 0) 58 24 3) 58 22 e = stG N s e 3 0 := by
  refine mem_ext 58 (fun q h => by rw [stG_ne h, updM_ne h, updM_ne h, updM_ne h, updM_ne h, updM_ne h]) (fun j => ?_)
  rw [stG_j]
  simp only [updM_eq, upd]
  by_cases a : j = 24
  · simp [a]
  · by_cases b : j = 22
    · simp [b]
    · by_cases c : j = 25
      · simp [c]
      · by_cases d : j = 23
        · simp [d]
        · simp [a, b, c, d]
theorem stM_e {N : Mem} (hb : N 58 20 = 0) (hs : uL N ≤ sR N) : stM N = stG N (nI (sR N)) (nI (sR N)) 0 0 := by
  unfold stM
  rw [if_pos hb, if_neg (fun z => z.1 hs)]
  unfold stN rkE tkE rkT rkV
  rw [if_pos hs, if_pos hs, if_pos hs]
theorem stM_n {N : Mem} (hb : N 58 20 = 0) (hs : ¬ uL N ≤ sR N) (hl : ltP (N 67 (sR N))) : stM N = stG N (nI (sR N)) (nI (rnE ltB (N 67) (uL N - sR N) (sR N))) 1 0 := by
  unfold stM
  rw [if_pos hb, if_neg (fun z => z.2.1 hl)]
  unfold stN rkE tkE rkT rkV
  rw [if_neg hs, if_neg hs, if_neg hs, if_pos hl, if_pos hl, if_pos hl]
theorem stN_f {N : Mem} (hs : ¬ uL N ≤ sR N) (hl : ¬ ltP (N 67 (sR N))) (hf : fgP (N 67 (sR N))) : stN N = stG N (nI (sR N)) (nI (nmR (N 67) (sR N) (uL N - sR N) (sR N) 0).1) 2 (nmR (N 67) (sR N) (uL N - sR N) (sR N) 0).2 := by
  unfold stN rkE tkE rkT rkV
  rw [if_neg hs, if_neg hs, if_neg hs, if_neg hl, if_neg hl, if_neg hl, if_pos hf, if_pos hf, if_pos hf, nmR_1 _ _ 0 0]
theorem stN_o {N : Mem} (hs : ¬ uL N ≤ sR N) (hl : ¬ ltP (N 67 (sR N))) (hf : ¬ fgP (N 67 (sR N))) : stN N = stG N (nI (sR N)) (nI (sR N) + 1) 3 0 := by
  unfold stN rkE tkE rkT rkV
  rw [if_neg hs, if_neg hs, if_neg hs, if_neg hl, if_neg hl, if_neg hl, if_neg hf, if_neg hf, if_neg hf, nI_succ]
theorem stM_g {N : Mem} (hb : N 58 20 = 0) (h : ¬ rkB (N 67) (uL N) (sR N)) : stM N = stN N := by unfold stM; rw [if_pos hb, if_neg h]
theorem stM_x {N : Mem} (hb : N 58 20 = 0) (h : rkB (N 67) (uL N) (sR N)) : stM N = flM (stN N) 1 := by unfold stM; rw [if_pos hb, if_pos h]
theorem stM_1 {N : Mem} (h : ¬ N 58 20 = 0) : stM N = N := by unfold stM; rw [if_neg h]
set_option maxRecDepth 100000 in
set_option maxHeartbeats 4000000 in
theorem sem_X8_step {N : Mem} (h : UI N) (hbb : N 58 20 = 0 ∨ 0 < N 58 20) (hB : ∀ k, k < uL N → 0 ≤ N 67 k) : Sem mX8_step SH [.ref 58] N (PD SH none (stM N)) := by
  refine Sem_of rfl (fun G => (Nat.le_of_ble_eq_true rfl)) (fun G => ?_)
  obtain ⟨hi, hL, hiL, h320⟩ := h
  have hsb := sR_b ⟨hi, hL, hiL, h320⟩
  refine Bd_aload_0 (pc := 0) dX8_step_0 ?_
  refine Bd_getI (j := 20) ck8 (pc := 1) dX8_step_1 k_806 rfl (Nat.le_of_ble_eq_true rfl) rfl ?_
  refine Bd_if_le (t := 8) (pc := 4) dX8_step_4 (by decide) (fun b4 => ?_) (fun b4 => ?_)
  · have hb0 : N 58 20 = 0 := hbb.elim id (fun z => absurd b4 (Int32.not_le.mpr z))
    refine Bd_cM ?_ (updM_id (M := N) (k := 58) (j := 22) (v := nI (uI N)) hi)
    refine Bd_nx (L' := [some (.ref 58), none]) ?_ ⟨rfl, trivial⟩
    refine Bd_wh (pc := 8) (σ := Nat) (fun x => uI N ≤ x ∧ x ≤ uL N ∧ rnE spB (N 67) (uL N - x) x = rnE spB (N 67) (uL N - uI N) (uI N)) (fun x => uL N - x) (fun _ => [some (.ref 58), none]) (fun x => (updM N 58 22 (nI x))) (fun x hx ih => ?_) (uI N) ⟨Nat.le_refl _, hiL, rfl⟩
    obtain ⟨h0, h1, he⟩ := hx
    refine Bd_aload_0 (pc := 8) dX8_step_8 ?_
    refine Bd_aload_0 (pc := 9) dX8_step_9 ?_
    refine Bd_getI (j := 22) ck8 (pc := 10) dX8_step_10 k_808 rfl (Nat.le_of_ble_eq_true rfl) rfl ?_
    refine Bd_callV1i (cd := mX8_byteAt) (pc := 13) dX8_step_13 k_921 v_X8_byteAt ⟨(Nat.le_of_ble_eq_true rfl), (Nat.le_of_ble_eq_true rfl)⟩ rfl rfl (sem_X8_byteAt (N := (updM N 58 22 (nI x))) (k := x) hL h320 (by omega)) (Nat.le_of_ble_eq_true rfl) ?_
    refine Bd_bipush (v := 32) (pc := 16) dX8_step_16 (by decide) ?_
    refine Bd_icmp_ne (t := 34) (pc := 18) dX8_step_18 (by decide) (fun b18 => ?_) (fun b18 => ?_)
    · have ex : x = sR N := by
        show x = rnE spB (N 67) (uL N - uI N) (uI N)
        rcases Nat.lt_or_ge x (uL N) with hx | hx
        · rw [← he, rnE_s hx, if_neg (show ¬ spB (N 67 x) = true from fun z => b18 (by rw [show baF (updM N 58 22 (nI x)) x = N 67 x from baF_in hx]; exact of_decide_eq_true z))]
        · have em : x = uL N := by omega
          rw [← he, em, Nat.sub_self]; rfl
      subst ex
      refine Bd_aload_0 (pc := 34) dX8_step_34 ?_
      refine Bd_aload_0 (pc := 35) dX8_step_35 ?_
      refine Bd_getI (j := 22) ck8 (pc := 36) dX8_step_36 k_808 rfl (Nat.le_of_ble_eq_true rfl) rfl ?_
      refine Bd_putI (j := 23) (ty := .int) ck8 (pc := 39) dX8_step_39 k_809 rfl (Nat.le_of_ble_eq_true rfl) rfl rfl pfI rfl rfl ?_
      refine Bd_aload_0 (pc := 42) dX8_step_42 ?_
      refine Bd_aload_0 (pc := 43) dX8_step_43 ?_
      refine Bd_getI (j := 22) ck8 (pc := 44) dX8_step_44 k_808 rfl (Nat.le_of_ble_eq_true rfl) rfl ?_
      refine Bd_callV1i (cd := mX8_byteAt) (pc := 47) dX8_step_47 k_921 v_X8_byteAt ⟨(Nat.le_of_ble_eq_true rfl), (Nat.le_of_ble_eq_true rfl)⟩ rfl rfl (sem_X8_byteAt (N := (updM (updM N 58 22 (nI (sR N))) 58 23 (nI (sR N)))) (k := sR N) hL h320 (by omega)) (Nat.le_of_ble_eq_true rfl) ?_
      refine Bd_istore_1 (pc := 50) dX8_step_50 (Nat.le_of_ble_eq_true rfl) rfl ?_
      refine Bd_aload_0 (pc := 51) dX8_step_51 ?_
      refine Bd_iconst (v := 0) (pc := 52) dX8_step_52 (by decide) ?_
      refine Bd_putI (j := 25) (ty := .int) ck8 (pc := 53) dX8_step_53 k_811 rfl (Nat.le_of_ble_eq_true rfl) rfl rfl pfI rfl rfl ?_
      refine Bd_iload_1 (pc := 56) dX8_step_56 ?_
      refine Bd_bipush (v := -4) (pc := 57) dX8_step_57 (by decide) ?_
      refine Bd_icmp_ne (t := 70) (pc := 59) dX8_step_59 (by decide) (fun b59 => ?_) (fun b59 => ?_)
      · have hs : ¬ uL N ≤ sR N := fun z => b59 (baF_out (Nat.not_lt.mpr z))
        have hc : baF N (sR N) = N 67 (sR N) := baF_in (Nat.not_le.mp hs)
        refine Bd_iload_1 (pc := 70) dX8_step_70 ?_
        refine Bd_i2l (pc := 71) dX8_step_71 ?_
        refine Bd_ldc2 k_925 (pc := 72) dX8_step_72 ?_
        refine Bd_ldc2 k_926 (pc := 75) dX8_step_75 ?_
        refine Bd_callS3i (cd := mX8_in) (pc := 78) dX8_step_78 k_910 v_X8_in ⟨(Nat.le_of_ble_eq_true rfl), (Nat.le_of_ble_eq_true rfl)⟩ (sem_in (a := 97) (b := 122) (by decide) (by decide)) (Nat.le_of_ble_eq_true rfl) ?_
        refine Bd_if_eq (t := 126) (pc := 81) dX8_step_81 (by decide) (fun b81 => ?_) (fun b81 => ?_)
        · have hl : ¬ ltP (N 67 (sR N)) := hc ▸ (b2_0.mp b81)
          refine Bd_iload_1 (pc := 126) dX8_step_126 ?_
          refine Bd_i2l (pc := 127) dX8_step_127 ?_
          refine Bd_ldc2 k_927 (pc := 128) dX8_step_128 ?_
          refine Bd_ldc2 k_928 (pc := 131) dX8_step_131 ?_
          refine Bd_callS3i (cd := mX8_in) (pc := 134) dX8_step_134 k_910 v_X8_in ⟨(Nat.le_of_ble_eq_true rfl), (Nat.le_of_ble_eq_true rfl)⟩ (sem_in (a := 48) (b := 57) (by decide) (by decide)) (Nat.le_of_ble_eq_true rfl) ?_
          refine Bd_if_eq (t := 243) (pc := 137) dX8_step_137 (by decide) (fun b137 => ?_) (fun b137 => ?_)
          · have hf : ¬ fgP (N 67 (sR N)) := hc ▸ (b2_0.mp b137)
            refine Bd_aload_0 (pc := 243) dX8_step_243 ?_
            refine Bd_iconst (v := 3) (pc := 244) dX8_step_244 (by decide) ?_
            refine Bd_putI (j := 24) (ty := .int) ck8 (pc := 245) dX8_step_245 k_810 rfl (Nat.le_of_ble_eq_true rfl) rfl rfl pfI rfl rfl ?_
            refine Bd_aload_0 (pc := 248) dX8_step_248 ?_
            refine Bd_dup (pc := 249) dX8_step_249 rfl ?_
            refine Bd_getI (j := 22) ck8 (pc := 250) dX8_step_250 k_808 rfl (Nat.le_of_ble_eq_true rfl) rfl ?_
            refine Bd_iconst (v := 1) (pc := 253) dX8_step_253 (by decide) ?_
            refine Bd_iadd (pc := 254) dX8_step_254 ?_
            refine Bd_putI (j := 22) (ty := .int) ck8 (pc := 255) dX8_step_255 k_808 rfl (Nat.le_of_ble_eq_true rfl) rfl rfl pfI rfl rfl ?_
            refine Bd_iload_1 (pc := 258) dX8_step_258 ?_
            refine Bd_bipush (v := 59) (pc := 259) dX8_step_259 (by decide) ?_
            refine Bd_icmp_eq (t := 269) (pc := 261) dX8_step_261 (by decide) (fun b261 => ?_) (fun b261 => ?_)
            · refine Bd_vret (pc := 269) dX8_step_269 rfl ?_
              exact PD_v (by rw [stM_g hb0 (fun z => z.2.2.elim (fun y => hf y.1) (fun y => y.2 (hc ▸ b261))), stN_o hs hl hf]; exact st_oth)
            · refine Bd_cM (M := stN N) ?_ (by rw [stN_o hs hl hf]; exact st_oth.symm)
              refine Bd_aload_0 (pc := 264) dX8_step_264 ?_
              refine Bd_iconst (v := 1) (pc := 265) dX8_step_265 (by decide) ?_
              refine Bd_callV1v (cd := mX8_fails) (pc := 266) dX8_step_266 k_929 v_X8_fails ⟨(Nat.le_of_ble_eq_true rfl), (Nat.le_of_ble_eq_true rfl)⟩ rfl rfl sem_X8_fails (Nat.le_of_ble_eq_true rfl) ?_
              refine Bd_vret (pc := 269) dX8_step_269 rfl ?_
              exact PD_v (by rw [stM_x hb0 ⟨hs, hl, Or.inr ⟨hf, hc ▸ b261⟩⟩])
          · have hf : fgP (N 67 (sR N)) := hc ▸ (b2_n.mp b137)
            refine Bd_cM (M := updM (updM (updM (updM (updM N 58 22 (nI (sR N))) 58 23 (nI (sR N))) 58 25 0) 58 25 0) 58 22 (nI (sR N))) ?_ (by rw [updM_id (M := (updM (updM (updM N 58 22 (nI (sR N))) 58 23 (nI (sR N))) 58 25 0)) (k := 58) (j := 25) (v := 0) rfl, updM_id (M := (updM (updM (updM N 58 22 (nI (sR N))) 58 23 (nI (sR N))) 58 25 0)) (k := 58) (j := 22) (v := nI (sR N)) rfl])
            refine Bd_nx (L' := [some (.ref 58)]) ?_ ⟨rfl, trivial⟩
            refine Bd_wh (pc := 140) (σ := Nat × Int32) (fun x => sR N ≤ x.1 ∧ x.1 ≤ uL N ∧ nmR (N 67) (sR N) (uL N - x.1) x.1 x.2 = nmR (N 67) (sR N) (uL N - sR N) (sR N) 0) (fun x => uL N - x.1) (fun _ => [some (.ref 58)]) (fun x => updM (updM (updM (updM (updM N 58 22 (nI (sR N))) 58 23 (nI (sR N))) 58 25 0) 58 25 x.2) 58 22 (nI x.1)) (fun x hx ih => ?_) (sR N, 0) ⟨Nat.le_refl _, hsb.2, rfl⟩
            obtain ⟨x, v⟩ := x
            obtain ⟨h0, h1, he⟩ := hx
            have h0 : sR N ≤ x := h0
            have h1 : x ≤ uL N := h1
            have he : nmR (N 67) (sR N) (uL N - x) x v = nmR (N 67) (sR N) (uL N - sR N) (sR N) 0 := he
            show Bd mX8_step G _ SH 140 [some (.ref 58)] [] (updM (updM (updM (updM (updM N 58 22 (nI (sR N))) 58 23 (nI (sR N))) 58 25 0) 58 25 v) 58 22 (nI x))
            refine Bd_aload_0 (pc := 140) dX8_step_140 ?_
            refine Bd_aload_0 (pc := 141) dX8_step_141 ?_
            refine Bd_getI (j := 22) ck8 (pc := 142) dX8_step_142 k_808 rfl (Nat.le_of_ble_eq_true rfl) rfl ?_
            refine Bd_callV1i (cd := mX8_byteAt) (pc := 145) dX8_step_145 k_921 v_X8_byteAt ⟨(Nat.le_of_ble_eq_true rfl), (Nat.le_of_ble_eq_true rfl)⟩ rfl rfl (sem_X8_byteAt (N := (updM (updM (updM (updM (updM N 58 22 (nI (sR N))) 58 23 (nI (sR N))) 58 25 0) 58 25 v) 58 22 (nI x))) (k := x) hL h320 (by omega)) (Nat.le_of_ble_eq_true rfl) ?_
            refine Bd_i2l (pc := 148) dX8_step_148 ?_
            refine Bd_ldc2 k_927 (pc := 149) dX8_step_149 ?_
            refine Bd_ldc2 k_928 (pc := 152) dX8_step_152 ?_
            refine Bd_callS3i (cd := mX8_in) (pc := 155) dX8_step_155 k_910 v_X8_in ⟨(Nat.le_of_ble_eq_true rfl), (Nat.le_of_ble_eq_true rfl)⟩ (sem_in (a := 48) (b := 57) (by decide) (by decide)) (Nat.le_of_ble_eq_true rfl) ?_
            refine Bd_if_eq (t := 217) (pc := 158) dX8_step_158 (by decide) (fun b158 => ?_) (fun b158 => ?_)
            · have ex : nmR (N 67) (sR N) (uL N - sR N) (sR N) 0 = (x, v) := by
                rcases Nat.lt_or_ge x (uL N) with hx | hx
                · rw [← he, nmR_s hx, if_neg (show ¬ fgB (N 67 x) = true from fun z => b2_0.mp b158 (by rw [show baF (updM (updM (updM (updM (updM N 58 22 (nI (sR N))) 58 23 (nI (sR N))) 58 25 0) 58 25 v) 58 22 (nI x)) x = N 67 x from baF_in hx]; exact of_decide_eq_true z))]
                · have em : x = uL N := by omega
                  rw [← he, em, Nat.sub_self]; rfl
              have ex1 : (nmE (N 67) (uL N - sR N) (sR N) 0).1 = x := by rw [← nmR_1 (s := sR N) _ _ 0 0, ex]
              refine Bd_aload_0 (pc := 217) dX8_step_217 ?_
              refine Bd_iconst (v := 2) (pc := 218) dX8_step_218 (by decide) ?_
              refine Bd_putI (j := 24) (ty := .int) ck8 (pc := 219) dX8_step_219 k_810 rfl (Nat.le_of_ble_eq_true rfl) rfl rfl pfI rfl rfl ?_
              refine Bd_aload_0 (pc := 222) dX8_step_222 ?_
              refine Bd_getI (j := 22) ck8 (pc := 223) dX8_step_223 k_808 rfl (Nat.le_of_ble_eq_true rfl) rfl ?_
              refine Bd_aload_0 (pc := 226) dX8_step_226 ?_
              refine Bd_getI (j := 23) ck8 (pc := 227) dX8_step_227 k_809 rfl (Nat.le_of_ble_eq_true rfl) rfl ?_
              refine Bd_isub (pc := 230) dX8_step_230 ?_
              refine Bd_iconst (v := 3) (pc := 231) dX8_step_231 (by decide) ?_
              refine Bd_icmp_le (t := 269) (pc := 232) dX8_step_232 (by decide) (fun b232 => ?_) (fun b232 => ?_)
              · refine Bd_vret (pc := 269) dX8_step_269 rfl ?_
                exact PD_v (by rw [stM_g hb0 (fun z => z.2.2.elim (fun y => y.2 (by rw [ex1]; exact b232)) (fun y => y.1 hf)), stN_f hs hl hf, ex]; exact st_num)
              · refine Bd_cM (M := stN N) ?_ (by rw [stN_f hs hl hf, ex]; exact st_num.symm)
                refine Bd_aload_0 (pc := 235) dX8_step_235 ?_
                refine Bd_iconst (v := 1) (pc := 236) dX8_step_236 (by decide) ?_
                refine Bd_callV1v (cd := mX8_fails) (pc := 237) dX8_step_237 k_929 v_X8_fails ⟨(Nat.le_of_ble_eq_true rfl), (Nat.le_of_ble_eq_true rfl)⟩ rfl rfl sem_X8_fails (Nat.le_of_ble_eq_true rfl) ?_
                refine Bd_goto (t := 269) (pc := 240) dX8_step_240 (by decide) ?_
                refine Bd_vret (pc := 269) dX8_step_269 rfl ?_
                exact PD_v (by rw [stM_x hb0 ⟨hs, hl, Or.inl ⟨hf, by rw [ex1]; exact b232⟩⟩])
            · have hx : x < uL N := Decidable.byContradiction (fun z => absurd (b2_n.mp b158) (by rw [show baF (updM (updM (updM (updM (updM N 58 22 (nI (sR N))) 58 23 (nI (sR N))) 58 25 0) 58 25 v) 58 22 (nI x)) x = -4 from baF_out z]; decide))
              have hg : fgB (N 67 x) = true := decide_eq_true (by have z := b2_n.mp b158; rw [show baF (updM (updM (updM (updM (updM N 58 22 (nI (sR N))) 58 23 (nI (sR N))) 58 25 0) 58 25 v) 58 22 (nI x)) x = N 67 x from baF_in hx] at z; exact z)
              refine Bd_aload_0 (pc := 161) dX8_step_161 ?_
              refine Bd_aload_0 (pc := 162) dX8_step_162 ?_
              refine Bd_getI (j := 22) ck8 (pc := 163) dX8_step_163 k_808 rfl (Nat.le_of_ble_eq_true rfl) rfl ?_
              refine Bd_aload_0 (pc := 166) dX8_step_166 ?_
              refine Bd_getI (j := 23) ck8 (pc := 167) dX8_step_167 k_809 rfl (Nat.le_of_ble_eq_true rfl) rfl ?_
              refine Bd_isub (pc := 170) dX8_step_170 ?_
              refine Bd_iconst (v := 3) (pc := 171) dX8_step_171 (by decide) ?_
              refine Bd_icmp_ge (t := 197) (pc := 172) dX8_step_172 (by decide) (fun b172 => ?_) (fun b172 => ?_)
              · refine Bd_aload_0 (pc := 197) dX8_step_197 ?_
                refine Bd_getI (j := 25) ck8 (pc := 198) dX8_step_198 k_811 rfl (Nat.le_of_ble_eq_true rfl) rfl ?_
                refine Bd_putI (j := 25) (ty := .int) ck8 (pc := 201) dX8_step_201 k_811 rfl (Nat.le_of_ble_eq_true rfl) rfl rfl pfI rfl rfl ?_
                refine Bd_aload_0 (pc := 204) dX8_step_204 ?_
                refine Bd_dup (pc := 205) dX8_step_205 rfl ?_
                refine Bd_getI (j := 22) ck8 (pc := 206) dX8_step_206 k_808 rfl (Nat.le_of_ble_eq_true rfl) rfl ?_
                refine Bd_iconst (v := 1) (pc := 209) dX8_step_209 (by decide) ?_
                refine Bd_iadd (pc := 210) dX8_step_210 ?_
                refine Bd_putI (j := 22) (ty := .int) ck8 (pc := 211) dX8_step_211 k_808 rfl (Nat.le_of_ble_eq_true rfl) rfl rfl pfI rfl rfl ?_
                refine Bd_goto (t := 140) (pc := 214) dX8_step_214 (by decide) ?_
                refine Bd_cM (ih (x + 1, v) ⟨by show sR N ≤ x + 1; omega, hx, by rw [← he, nmR_s hx, if_pos hg, if_neg (show ¬ nI x - nI (sR N) < 3 from Int32.not_lt.mpr b172)]⟩ (by show uL N - (x + 1) < uL N - x; omega)) ?_
                show updM (updM (updM (updM (updM N 58 22 (nI (sR N))) 58 23 (nI (sR N))) 58 25 0) 58 25 (v)) 58 22 (nI (x + 1)) = updM (updM (updM (updM (updM (updM (updM N 58 22 (nI (sR N))) 58 23 (nI (sR N))) 58 25 0) 58 25 v) 58 22 (nI x)) 58 25 (v)) 58 22 (nI x + 1)
                rw [updM_cm (i := 22) (j := 25) (by decide), nI_succ]
                simp only [updM_tw]
              · refine Bd_bipush (v := 10) (pc := 175) dX8_step_175 (by decide) ?_
                refine Bd_aload_0 (pc := 177) dX8_step_177 ?_
                refine Bd_getI (j := 25) ck8 (pc := 178) dX8_step_178 k_811 rfl (Nat.le_of_ble_eq_true rfl) rfl ?_
                refine Bd_imul (pc := 181) dX8_step_181 ?_
                refine Bd_aload_0 (pc := 182) dX8_step_182 ?_
                refine Bd_aload_0 (pc := 183) dX8_step_183 ?_
                refine Bd_getI (j := 22) ck8 (pc := 184) dX8_step_184 k_808 rfl (Nat.le_of_ble_eq_true rfl) rfl ?_
                refine Bd_callV1i (cd := mX8_byteAt) (pc := 187) dX8_step_187 k_921 v_X8_byteAt ⟨(Nat.le_of_ble_eq_true rfl), (Nat.le_of_ble_eq_true rfl)⟩ rfl rfl (sem_X8_byteAt (N := (updM (updM (updM (updM (updM N 58 22 (nI (sR N))) 58 23 (nI (sR N))) 58 25 0) 58 25 v) 58 22 (nI x))) (k := x) hL h320 (by omega)) (Nat.le_of_ble_eq_true rfl) ?_
                refine Bd_iadd (pc := 190) dX8_step_190 ?_
                refine Bd_bipush (v := 48) (pc := 191) dX8_step_191 (by decide) ?_
                refine Bd_isub (pc := 193) dX8_step_193 ?_
                refine Bd_goto (t := 201) (pc := 194) dX8_step_194 (by decide) ?_
                refine Bd_putI (j := 25) (ty := .int) ck8 (pc := 201) dX8_step_201 k_811 rfl (Nat.le_of_ble_eq_true rfl) rfl rfl pfI rfl rfl ?_
                refine Bd_aload_0 (pc := 204) dX8_step_204 ?_
                refine Bd_dup (pc := 205) dX8_step_205 rfl ?_
                refine Bd_getI (j := 22) ck8 (pc := 206) dX8_step_206 k_808 rfl (Nat.le_of_ble_eq_true rfl) rfl ?_
                refine Bd_iconst (v := 1) (pc := 209) dX8_step_209 (by decide) ?_
                refine Bd_iadd (pc := 210) dX8_step_210 ?_
                refine Bd_putI (j := 22) (ty := .int) ck8 (pc := 211) dX8_step_211 k_808 rfl (Nat.le_of_ble_eq_true rfl) rfl rfl pfI rfl rfl ?_
                refine Bd_goto (t := 140) (pc := 214) dX8_step_214 (by decide) ?_
                refine Bd_cM (ih (x + 1, 10 * v + N 67 x - 48) ⟨by show sR N ≤ x + 1; omega, hx, by rw [← he, nmR_s hx, if_pos hg, if_pos (show nI x - nI (sR N) < 3 from Int32.not_le.mp b172)]⟩ (by show uL N - (x + 1) < uL N - x; omega)) ?_
                show updM (updM (updM (updM (updM N 58 22 (nI (sR N))) 58 23 (nI (sR N))) 58 25 0) 58 25 (10 * v + N 67 x - 48)) 58 22 (nI (x + 1)) = updM (updM (updM (updM (updM (updM (updM N 58 22 (nI (sR N))) 58 23 (nI (sR N))) 58 25 0) 58 25 v) 58 22 (nI x)) 58 25 (10 * v + baF N x - 48)) 58 22 (nI x + 1)
                rw [baF_in hx, updM_cm (i := 22) (j := 25) (by decide), nI_succ]
                simp only [updM_tw]
        · have hl : ltP (N 67 (sR N)) := hc ▸ (b2_n.mp b81)
          refine Bd_cM ?_ (updM_id (M := (updM (updM (updM N 58 22 (nI (sR N))) 58 23 (nI (sR N))) 58 25 0)) (k := 58) (j := 22) (v := nI (sR N)) rfl)
          refine Bd_nx (L' := [some (.ref 58)]) ?_ ⟨rfl, trivial⟩
          refine Bd_wh (pc := 84) (σ := Nat) (fun x => sR N ≤ x ∧ x ≤ uL N ∧ rnE ltB (N 67) (uL N - x) x = rnE ltB (N 67) (uL N - sR N) (sR N)) (fun x => uL N - x) (fun _ => [some (.ref 58)]) (fun x => (updM (updM (updM (updM N 58 22 (nI (sR N))) 58 23 (nI (sR N))) 58 25 0) 58 22 (nI x))) (fun x hx ih => ?_) (sR N) ⟨Nat.le_refl _, hsb.2, rfl⟩
          obtain ⟨h0, h1, he⟩ := hx
          refine Bd_aload_0 (pc := 84) dX8_step_84 ?_
          refine Bd_aload_0 (pc := 85) dX8_step_85 ?_
          refine Bd_getI (j := 22) ck8 (pc := 86) dX8_step_86 k_808 rfl (Nat.le_of_ble_eq_true rfl) rfl ?_
          refine Bd_callV1i (cd := mX8_byteAt) (pc := 89) dX8_step_89 k_921 v_X8_byteAt ⟨(Nat.le_of_ble_eq_true rfl), (Nat.le_of_ble_eq_true rfl)⟩ rfl rfl (sem_X8_byteAt (N := (updM (updM (updM (updM N 58 22 (nI (sR N))) 58 23 (nI (sR N))) 58 25 0) 58 22 (nI x))) (k := x) hL h320 (by omega)) (Nat.le_of_ble_eq_true rfl) ?_
          refine Bd_i2l (pc := 92) dX8_step_92 ?_
          refine Bd_ldc2 k_925 (pc := 93) dX8_step_93 ?_
          refine Bd_ldc2 k_926 (pc := 96) dX8_step_96 ?_
          refine Bd_callS3i (cd := mX8_in) (pc := 99) dX8_step_99 k_910 v_X8_in ⟨(Nat.le_of_ble_eq_true rfl), (Nat.le_of_ble_eq_true rfl)⟩ (sem_in (a := 97) (b := 122) (by decide) (by decide)) (Nat.le_of_ble_eq_true rfl) ?_
          refine Bd_if_eq (t := 118) (pc := 102) dX8_step_102 (by decide) (fun b102 => ?_) (fun b102 => ?_)
          · have ex : x = rnE ltB (N 67) (uL N - sR N) (sR N) := by
              rcases Nat.lt_or_ge x (uL N) with hx | hx
              · rw [← he, rnE_s hx, if_neg (show ¬ ltB (N 67 x) = true from fun z => b2_0.mp b102 (by rw [show baF (updM (updM (updM (updM N 58 22 (nI (sR N))) 58 23 (nI (sR N))) 58 25 0) 58 22 (nI x)) x = N 67 x from baF_in hx]; exact of_decide_eq_true z))]
              · have em : x = uL N := by omega
                rw [← he, em, Nat.sub_self]; rfl
            refine Bd_aload_0 (pc := 118) dX8_step_118 ?_
            refine Bd_iconst (v := 1) (pc := 119) dX8_step_119 (by decide) ?_
            refine Bd_putI (j := 24) (ty := .int) ck8 (pc := 120) dX8_step_120 k_810 rfl (Nat.le_of_ble_eq_true rfl) rfl rfl pfI rfl rfl ?_
            refine Bd_goto (t := 269) (pc := 123) dX8_step_123 (by decide) ?_
            refine Bd_vret (pc := 269) dX8_step_269 rfl ?_
            exact PD_v (by rw [stM_n hb0 hs hl, ← ex]; exact st_nam)
          · refine Bd_aload_0 (pc := 105) dX8_step_105 ?_
            refine Bd_dup (pc := 106) dX8_step_106 rfl ?_
            refine Bd_getI (j := 22) ck8 (pc := 107) dX8_step_107 k_808 rfl (Nat.le_of_ble_eq_true rfl) rfl ?_
            refine Bd_iconst (v := 1) (pc := 110) dX8_step_110 (by decide) ?_
            refine Bd_iadd (pc := 111) dX8_step_111 ?_
            refine Bd_putI (j := 22) (ty := .int) ck8 (pc := 112) dX8_step_112 k_808 rfl (Nat.le_of_ble_eq_true rfl) rfl rfl pfI rfl rfl ?_
            refine Bd_goto (t := 84) (pc := 115) dX8_step_115 (by decide) ?_
            have hx : x < uL N := Decidable.byContradiction (fun z => absurd (b2_n.mp b102) (by rw [show baF (updM (updM (updM (updM N 58 22 (nI (sR N))) 58 23 (nI (sR N))) 58 25 0) 58 22 (nI x)) x = -4 from baF_out z]; decide))
            refine Bd_cM (ih (x + 1) ⟨by omega, hx, by rw [← he, rnE_s hx, if_pos (show ltB (N 67 x) = true from decide_eq_true (by have z := b2_n.mp b102; rw [show baF (updM (updM (updM (updM N 58 22 (nI (sR N))) 58 23 (nI (sR N))) 58 25 0) 58 22 (nI x)) x = N 67 x from baF_in hx] at z; exact z))]⟩ (by omega)) ?_
            show updM (updM (updM (updM N 58 22 (nI (sR N))) 58 23 (nI (sR N))) 58 25 0) 58 22 (nI (x + 1)) = updM (updM (updM (updM (updM N 58 22 (nI (sR N))) 58 23 (nI (sR N))) 58 25 0) 58 22 (nI x)) 58 22 (nI x + 1)
            rw [updM_tw, nI_succ]
      · have hs : uL N ≤ sR N := Nat.not_lt.mp (fun z => by
          have y : baF N (sR N) = -4 := b59
          rw [baF_in z] at y
          exact absurd (y ▸ hB _ z) (by decide))
        refine Bd_aload_0 (pc := 62) dX8_step_62 ?_
        refine Bd_iconst (v := 0) (pc := 63) dX8_step_63 (by decide) ?_
        refine Bd_putI (j := 24) (ty := .int) ck8 (pc := 64) dX8_step_64 k_810 rfl (Nat.le_of_ble_eq_true rfl) rfl rfl pfI rfl rfl ?_
        refine Bd_goto (t := 269) (pc := 67) dX8_step_67 (by decide) ?_
        refine Bd_vret (pc := 269) dX8_step_269 rfl ?_
        exact PD_v (by rw [stM_e hb0 hs]; exact st_end)
    · refine Bd_aload_0 (pc := 21) dX8_step_21 ?_
      refine Bd_dup (pc := 22) dX8_step_22 rfl ?_
      refine Bd_getI (j := 22) ck8 (pc := 23) dX8_step_23 k_808 rfl (Nat.le_of_ble_eq_true rfl) rfl ?_
      refine Bd_iconst (v := 1) (pc := 26) dX8_step_26 (by decide) ?_
      refine Bd_iadd (pc := 27) dX8_step_27 ?_
      refine Bd_putI (j := 22) (ty := .int) ck8 (pc := 28) dX8_step_28 k_808 rfl (Nat.le_of_ble_eq_true rfl) rfl rfl pfI rfl rfl ?_
      refine Bd_goto (t := 8) (pc := 31) dX8_step_31 (by decide) ?_
      have hx : x < uL N := Decidable.byContradiction (fun z => absurd b18 (by rw [show baF (updM N 58 22 (nI x)) x = -4 from baF_out z]; decide))
      refine Bd_cM (ih (x + 1) ⟨by omega, hx, by rw [← he, rnE_s hx, if_pos (show spB (N 67 x) = true from decide_eq_true (by have z := b18; rw [show baF (updM N 58 22 (nI x)) x = N 67 x from baF_in hx] at z; exact z))]⟩ (by omega)) ?_
      show updM N 58 22 (nI (x + 1)) = updM (updM N 58 22 (nI x)) 58 22 (nI x + 1)
      rw [updM_tw, nI_succ]
  · refine Bd_vret (pc := 7) dX8_step_7 rfl ?_
    exact PD_v (stM_1 (fun z => b4 (by rw [z]; decide))).symm
