/-! 70: land: runs of letters -/
abbrev ltP (c : Int32) : Prop := 97 ≤ c ∧ c ≤ 122
abbrev fgP (c : Int32) : Prop := 48 ≤ c ∧ c ≤ 57
/-- where a run from i ends, k steps at most -/
def rnE (p : Int32 → Bool) (f : Nat → Int32) : Nat → Nat → Nat
  | 0, i => i
  | k + 1, i => if p (f i) = true then rnE p f k (i + 1) else i
set_option maxRecDepth 100000 in
set_option maxHeartbeats 4000000 in
theorem sem_X5_isLetter {sh : List Ds} {M : Mem} {c : Int32} : Sem mX5_isLetter sh [.int c] M (PD sh (some (.int (b2 (ltP c)))) M) := by
  refine Sem_of rfl (fun G => (Nat.le_of_ble_eq_true rfl)) (fun G => ?_)
  refine Bd_iload_0 (pc := 0) dX5_isLetter_0 ?_
  refine Bd_bipush (v := 97) (pc := 1) dX5_isLetter_1 (by decide) ?_
  refine Bd_icmp_lt (t := 16) (pc := 3) dX5_isLetter_3 (by decide) (fun b3 => ?_) (fun b3 => ?_)
  · refine Bd_iconst (v := 0) (pc := 16) dX5_isLetter_16 (by decide) ?_
    refine Bd_zret (pc := 17) dX5_isLetter_17 rfl rfl ?_
    exact PD_i (by first | exact b2_t ⟨Int32.not_lt.mp b3, Int32.not_lt.mp b9⟩ | exact b2_f (fun z => Int32.not_lt.mpr z.1 b3) | exact b2_f (fun z => Int32.not_lt.mpr z.2 b9)) rfl
  · refine Bd_iload_0 (pc := 6) dX5_isLetter_6 ?_
    refine Bd_bipush (v := 122) (pc := 7) dX5_isLetter_7 (by decide) ?_
    refine Bd_icmp_gt (t := 16) (pc := 9) dX5_isLetter_9 (by decide) (fun b9 => ?_) (fun b9 => ?_)
    · refine Bd_iconst (v := 0) (pc := 16) dX5_isLetter_16 (by decide) ?_
      refine Bd_zret (pc := 17) dX5_isLetter_17 rfl rfl ?_
      exact PD_i (by first | exact b2_t ⟨Int32.not_lt.mp b3, Int32.not_lt.mp b9⟩ | exact b2_f (fun z => Int32.not_lt.mpr z.1 b3) | exact b2_f (fun z => Int32.not_lt.mpr z.2 b9)) rfl
    · refine Bd_iconst (v := 1) (pc := 12) dX5_isLetter_12 (by decide) ?_
      refine Bd_goto (t := 17) (pc := 13) dX5_isLetter_13 (by decide) ?_
      refine Bd_zret (pc := 17) dX5_isLetter_17 rfl rfl ?_
      exact PD_i (by first | exact b2_t ⟨Int32.not_lt.mp b3, Int32.not_lt.mp b9⟩ | exact b2_f (fun z => Int32.not_lt.mpr z.1 b3) | exact b2_f (fun z => Int32.not_lt.mpr z.2 b9)) rfl
set_option maxRecDepth 100000 in
set_option maxHeartbeats 4000000 in
theorem sem_X5_isFigure {sh : List Ds} {M : Mem} {c : Int32} : Sem mX5_isFigure sh [.int c] M (PD sh (some (.int (b2 (fgP c)))) M) := by
  refine Sem_of rfl (fun G => (Nat.le_of_ble_eq_true rfl)) (fun G => ?_)
  refine Bd_iload_0 (pc := 0) dX5_isFigure_0 ?_
  refine Bd_bipush (v := 48) (pc := 1) dX5_isFigure_1 (by decide) ?_
  refine Bd_icmp_lt (t := 16) (pc := 3) dX5_isFigure_3 (by decide) (fun b3 => ?_) (fun b3 => ?_)
  · refine Bd_iconst (v := 0) (pc := 16) dX5_isFigure_16 (by decide) ?_
    refine Bd_zret (pc := 17) dX5_isFigure_17 rfl rfl ?_
    exact PD_i (by first | exact b2_t ⟨Int32.not_lt.mp b3, Int32.not_lt.mp b9⟩ | exact b2_f (fun z => Int32.not_lt.mpr z.1 b3) | exact b2_f (fun z => Int32.not_lt.mpr z.2 b9)) rfl
  · refine Bd_iload_0 (pc := 6) dX5_isFigure_6 ?_
    refine Bd_bipush (v := 57) (pc := 7) dX5_isFigure_7 (by decide) ?_
    refine Bd_icmp_gt (t := 16) (pc := 9) dX5_isFigure_9 (by decide) (fun b9 => ?_) (fun b9 => ?_)
    · refine Bd_iconst (v := 0) (pc := 16) dX5_isFigure_16 (by decide) ?_
      refine Bd_zret (pc := 17) dX5_isFigure_17 rfl rfl ?_
      exact PD_i (by first | exact b2_t ⟨Int32.not_lt.mp b3, Int32.not_lt.mp b9⟩ | exact b2_f (fun z => Int32.not_lt.mpr z.1 b3) | exact b2_f (fun z => Int32.not_lt.mpr z.2 b9)) rfl
    · refine Bd_iconst (v := 1) (pc := 12) dX5_isFigure_12 (by decide) ?_
      refine Bd_goto (t := 17) (pc := 13) dX5_isFigure_13 (by decide) ?_
      refine Bd_zret (pc := 17) dX5_isFigure_17 rfl rfl ?_
      exact PD_i (by first | exact b2_t ⟨Int32.not_lt.mp b3, Int32.not_lt.mp b9⟩ | exact b2_f (fun z => Int32.not_lt.mpr z.1 b3) | exact b2_f (fun z => Int32.not_lt.mpr z.2 b9)) rfl
