/-! 10: the first of the class's methods -/
def b2 (c : Prop) [Decidable c] : Int32 := if c then 1 else 0
theorem b2_t {c : Prop} [Decidable c] (h : c) : (1 : Int32) = b2 c := by unfold b2; rw [if_pos h]
theorem b2_f {c : Prop} [Decidable c] (h : ¬ c) : (0 : Int32) = b2 c := by unfold b2; rw [if_neg h]
theorem b2_0 {c : Prop} [Decidable c] : b2 c = 0 ↔ ¬ c := by unfold b2; split <;> simp_all
theorem b2_n {c : Prop} [Decidable c] : ¬ b2 c = 0 ↔ c := by rw [b2_0]; exact Decidable.not_not
theorem b2_1 {c : Prop} [Decidable c] : b2 c = 1 ↔ c := by unfold b2; split <;> simp_all
theorem b2_c {c d : Prop} [Decidable c] [Decidable d] (h : c ↔ d) : b2 c = b2 d := by unfold b2; simp only [h]
theorem b2_nar {c : Prop} [Decidable c] : narrow .boolean (.int (b2 c)) = .int (b2 c) := by unfold b2; split <;> rfl
abbrev md9 (a : Int32) : Int32 := a - a / 9 * 9
def mxF (x y : Int32) : Int32 := if x < y then y else x
def mnF (x y : Int32) : Int32 := if y < x then y else x
def abF (x : Int32) : Int32 := if 0 ≤ x then x else 0 - x
def agF (way wd : Int32) : Int32 := mxF 0 (way * (1 - wd))
def hfF (a b : Int32) : Int32 := mxF (abF (md9 a - md9 b)) (abF (a / 9 - b / 9))
/-- what SOUND TAKES from a cell to another, by the RULES of cell 45 -/
def sdF (M : Mem) (a b : Int32) : Int32 := M 45 2 * hfF a b + (agF (md9 b - md9 a) (M 45 4) + agF (b / 9 - a / 9) (M 45 5))
abbrev hcF (M : Mem) (k : Nat) (c : Int32) : Prop := (0 ≤ c ∧ c < 81) ∧ md9 c < M k 0 ∧ c / 9 < M k 1
abbrev hpF (M : Mem) (t tone : Int32) : Prop := ¬ (M 47 t.toNatClampNeg >>> (tone &&& 31) &&& 1) = 0
set_option maxRecDepth 100000 in
set_option maxHeartbeats 4000000 in
theorem sem_X7_isWithin {sh : List Ds} {M : Mem} {i n : Int32} : Sem mX7_isWithin sh [.int i, .int n] M (PD sh (some (.int (b2 (0 ≤ i ∧ i < n)))) M) := by
  refine Sem_of rfl (fun G => (Nat.le_of_ble_eq_true rfl)) (fun G => ?_)
  refine Bd_iload_0 (pc := 0) dX7_isWithin_0 ?_
  refine Bd_if_lt (t := 13) (pc := 1) dX7_isWithin_1 (by decide) (fun b1 => ?_) (fun b1 => ?_)
  · refine Bd_iconst (v := 0) (pc := 13) dX7_isWithin_13 (by decide) ?_
    refine Bd_zret (pc := 14) dX7_isWithin_14 rfl rfl ?_
    exact PD_i (by first | exact b2_t ⟨Int32.not_lt.mp b1, Int32.not_le.mp b6⟩ | exact b2_f (fun h => absurd h.1 (Int32.not_le.mpr b1)) | exact b2_f (fun h => absurd h.2 (Int32.not_lt.mpr b6))) rfl
  · refine Bd_iload_0 (pc := 4) dX7_isWithin_4 ?_
    refine Bd_iload_1 (pc := 5) dX7_isWithin_5 ?_
    refine Bd_icmp_ge (t := 13) (pc := 6) dX7_isWithin_6 (by decide) (fun b6 => ?_) (fun b6 => ?_)
    · refine Bd_iconst (v := 0) (pc := 13) dX7_isWithin_13 (by decide) ?_
      refine Bd_zret (pc := 14) dX7_isWithin_14 rfl rfl ?_
      exact PD_i (by first | exact b2_t ⟨Int32.not_lt.mp b1, Int32.not_le.mp b6⟩ | exact b2_f (fun h => absurd h.1 (Int32.not_le.mpr b1)) | exact b2_f (fun h => absurd h.2 (Int32.not_lt.mpr b6))) rfl
    · refine Bd_iconst (v := 1) (pc := 9) dX7_isWithin_9 (by decide) ?_
      refine Bd_goto (t := 14) (pc := 10) dX7_isWithin_10 (by decide) ?_
      refine Bd_zret (pc := 14) dX7_isWithin_14 rfl rfl ?_
      exact PD_i (by first | exact b2_t ⟨Int32.not_lt.mp b1, Int32.not_le.mp b6⟩ | exact b2_f (fun h => absurd h.1 (Int32.not_le.mpr b1)) | exact b2_f (fun h => absurd h.2 (Int32.not_lt.mpr b6))) rfl
set_option maxRecDepth 100000 in
set_option maxHeartbeats 4000000 in
theorem sem_X3_hasCell {M : Mem} {c : Int32} : Sem mX3_hasCell SH [.ref 44, .int c] M (PD SH (some (.int (b2 (hcF M 45 c)))) M) := by
  refine Sem_of rfl (fun G => (Nat.le_of_ble_eq_true rfl)) (fun G => ?_)
  refine Bd_iload_1 (pc := 0) dX3_hasCell_0 ?_
  refine Bd_bipush (v := 81) (pc := 1) dX3_hasCell_1 (by decide) ?_
  refine Bd_callNi (cd := mX7_isWithin) rfl rfl (pc := 3) dX3_hasCell_3 v_X7_isWithin ⟨(Nat.le_of_ble_eq_true rfl), (Nat.le_of_ble_eq_true rfl)⟩ sem_X7_isWithin (Nat.le_of_ble_eq_true rfl) ?_
  refine Bd_if_eq (t := 39) (pc := 6) dX3_hasCell_6 (by decide) (fun b6 => ?_) (fun b6 => ?_)
  · refine Bd_iconst (v := 0) (pc := 39) dX3_hasCell_39 (by decide) ?_
    refine Bd_zret (pc := 40) dX3_hasCell_40 rfl rfl ?_
    exact PD_i (by first | exact b2_t ⟨b2_n.mp b6, Int32.not_le.mp b19, Int32.not_le.mp b32⟩ | exact b2_f (fun h => b2_0.mp b6 h.1) | exact b2_f (fun h => Int32.not_lt.mpr b19 h.2.1) | exact b2_f (fun h => Int32.not_lt.mpr b32 h.2.2)) rfl
  · refine Bd_iload_1 (pc := 9) dX3_hasCell_9 ?_
    refine Bd_bipush (v := 9) (pc := 10) dX3_hasCell_10 (by decide) ?_
    refine Bd_irem (pc := 12) dX3_hasCell_12 (by decide) ?_
    refine Bd_aload_0 (pc := 13) dX3_hasCell_13 ?_
    refine Bd_getR (j := 0) ck3 (pc := 14) dX3_hasCell_14 k_147 rfl (Nat.le_of_ble_eq_true rfl) rfl ?_
    refine Bd_iconst (v := 0) (pc := 17) dX3_hasCell_17 (by decide) ?_
    refine Bd_ialdc (j := 0) rfl (pc := 18) dX3_hasCell_18 rfl (by unfold vp_in; decide) ?_
    refine Bd_icmp_ge (t := 39) (pc := 19) dX3_hasCell_19 (by decide) (fun b19 => ?_) (fun b19 => ?_)
    · refine Bd_iconst (v := 0) (pc := 39) dX3_hasCell_39 (by decide) ?_
      refine Bd_zret (pc := 40) dX3_hasCell_40 rfl rfl ?_
      exact PD_i (by first | exact b2_t ⟨b2_n.mp b6, Int32.not_le.mp b19, Int32.not_le.mp b32⟩ | exact b2_f (fun h => b2_0.mp b6 h.1) | exact b2_f (fun h => Int32.not_lt.mpr b19 h.2.1) | exact b2_f (fun h => Int32.not_lt.mpr b32 h.2.2)) rfl
    · refine Bd_iload_1 (pc := 22) dX3_hasCell_22 ?_
      refine Bd_bipush (v := 9) (pc := 23) dX3_hasCell_23 (by decide) ?_
      refine Bd_idiv (pc := 25) dX3_hasCell_25 (by decide) ?_
      refine Bd_aload_0 (pc := 26) dX3_hasCell_26 ?_
      refine Bd_getR (j := 0) ck3 (pc := 27) dX3_hasCell_27 k_147 rfl (Nat.le_of_ble_eq_true rfl) rfl ?_
      refine Bd_iconst (v := 1) (pc := 30) dX3_hasCell_30 (by decide) ?_
      refine Bd_ialdc (j := 1) rfl (pc := 31) dX3_hasCell_31 rfl (by unfold vp_in; decide) ?_
      refine Bd_icmp_ge (t := 39) (pc := 32) dX3_hasCell_32 (by decide) (fun b32 => ?_) (fun b32 => ?_)
      · refine Bd_iconst (v := 0) (pc := 39) dX3_hasCell_39 (by decide) ?_
        refine Bd_zret (pc := 40) dX3_hasCell_40 rfl rfl ?_
        exact PD_i (by first | exact b2_t ⟨b2_n.mp b6, Int32.not_le.mp b19, Int32.not_le.mp b32⟩ | exact b2_f (fun h => b2_0.mp b6 h.1) | exact b2_f (fun h => Int32.not_lt.mpr b19 h.2.1) | exact b2_f (fun h => Int32.not_lt.mpr b32 h.2.2)) rfl
      · refine Bd_iconst (v := 1) (pc := 35) dX3_hasCell_35 (by decide) ?_
        refine Bd_goto (t := 40) (pc := 36) dX3_hasCell_36 (by decide) ?_
        refine Bd_zret (pc := 40) dX3_hasCell_40 rfl rfl ?_
        exact PD_i (by first | exact b2_t ⟨b2_n.mp b6, Int32.not_le.mp b19, Int32.not_le.mp b32⟩ | exact b2_f (fun h => b2_0.mp b6 h.1) | exact b2_f (fun h => Int32.not_lt.mpr b19 h.2.1) | exact b2_f (fun h => Int32.not_lt.mpr b32 h.2.2)) rfl
set_option maxRecDepth 100000 in
set_option maxHeartbeats 4000000 in
theorem sem_X3_hasCelld {M : Mem} {c : Int32} : Sem mX3_hasCell SH [.ref 51, .int c] M (PD SH (some (.int (b2 (hcF M 52 c)))) M) := by
  refine Sem_of rfl (fun G => (Nat.le_of_ble_eq_true rfl)) (fun G => ?_)
  refine Bd_iload_1 (pc := 0) dX3_hasCell_0 ?_
  refine Bd_bipush (v := 81) (pc := 1) dX3_hasCell_1 (by decide) ?_
  refine Bd_callNi (cd := mX7_isWithin) rfl rfl (pc := 3) dX3_hasCell_3 v_X7_isWithin ⟨(Nat.le_of_ble_eq_true rfl), (Nat.le_of_ble_eq_true rfl)⟩ sem_X7_isWithin (Nat.le_of_ble_eq_true rfl) ?_
  refine Bd_if_eq (t := 39) (pc := 6) dX3_hasCell_6 (by decide) (fun b6 => ?_) (fun b6 => ?_)
  · refine Bd_iconst (v := 0) (pc := 39) dX3_hasCell_39 (by decide) ?_
    refine Bd_zret (pc := 40) dX3_hasCell_40 rfl rfl ?_
    exact PD_i (by first | exact b2_t ⟨b2_n.mp b6, Int32.not_le.mp b19, Int32.not_le.mp b32⟩ | exact b2_f (fun h => b2_0.mp b6 h.1) | exact b2_f (fun h => Int32.not_lt.mpr b19 h.2.1) | exact b2_f (fun h => Int32.not_lt.mpr b32 h.2.2)) rfl
  · refine Bd_iload_1 (pc := 9) dX3_hasCell_9 ?_
    refine Bd_bipush (v := 9) (pc := 10) dX3_hasCell_10 (by decide) ?_
    refine Bd_irem (pc := 12) dX3_hasCell_12 (by decide) ?_
    refine Bd_aload_0 (pc := 13) dX3_hasCell_13 ?_
    refine Bd_getR (j := 0) ck3 (pc := 14) dX3_hasCell_14 k_147 rfl (Nat.le_of_ble_eq_true rfl) rfl ?_
    refine Bd_iconst (v := 0) (pc := 17) dX3_hasCell_17 (by decide) ?_
    refine Bd_ialdc (j := 0) rfl (pc := 18) dX3_hasCell_18 rfl (by unfold vp_in; decide) ?_
    refine Bd_icmp_ge (t := 39) (pc := 19) dX3_hasCell_19 (by decide) (fun b19 => ?_) (fun b19 => ?_)
    · refine Bd_iconst (v := 0) (pc := 39) dX3_hasCell_39 (by decide) ?_
      refine Bd_zret (pc := 40) dX3_hasCell_40 rfl rfl ?_
      exact PD_i (by first | exact b2_t ⟨b2_n.mp b6, Int32.not_le.mp b19, Int32.not_le.mp b32⟩ | exact b2_f (fun h => b2_0.mp b6 h.1) | exact b2_f (fun h => Int32.not_lt.mpr b19 h.2.1) | exact b2_f (fun h => Int32.not_lt.mpr b32 h.2.2)) rfl
    · refine Bd_iload_1 (pc := 22) dX3_hasCell_22 ?_
      refine Bd_bipush (v := 9) (pc := 23) dX3_hasCell_23 (by decide) ?_
      refine Bd_idiv (pc := 25) dX3_hasCell_25 (by decide) ?_
      refine Bd_aload_0 (pc := 26) dX3_hasCell_26 ?_
      refine Bd_getR (j := 0) ck3 (pc := 27) dX3_hasCell_27 k_147 rfl (Nat.le_of_ble_eq_true rfl) rfl ?_
      refine Bd_iconst (v := 1) (pc := 30) dX3_hasCell_30 (by decide) ?_
      refine Bd_ialdc (j := 1) rfl (pc := 31) dX3_hasCell_31 rfl (by unfold vp_in; decide) ?_
      refine Bd_icmp_ge (t := 39) (pc := 32) dX3_hasCell_32 (by decide) (fun b32 => ?_) (fun b32 => ?_)
      · refine Bd_iconst (v := 0) (pc := 39) dX3_hasCell_39 (by decide) ?_
        refine Bd_zret (pc := 40) dX3_hasCell_40 rfl rfl ?_
        exact PD_i (by first | exact b2_t ⟨b2_n.mp b6, Int32.not_le.mp b19, Int32.not_le.mp b32⟩ | exact b2_f (fun h => b2_0.mp b6 h.1) | exact b2_f (fun h => Int32.not_lt.mpr b19 h.2.1) | exact b2_f (fun h => Int32.not_lt.mpr b32 h.2.2)) rfl
      · refine Bd_iconst (v := 1) (pc := 35) dX3_hasCell_35 (by decide) ?_
        refine Bd_goto (t := 40) (pc := 36) dX3_hasCell_36 (by decide) ?_
        refine Bd_zret (pc := 40) dX3_hasCell_40 rfl rfl ?_
        exact PD_i (by first | exact b2_t ⟨b2_n.mp b6, Int32.not_le.mp b19, Int32.not_le.mp b32⟩ | exact b2_f (fun h => b2_0.mp b6 h.1) | exact b2_f (fun h => Int32.not_lt.mpr b19 h.2.1) | exact b2_f (fun h => Int32.not_lt.mpr b32 h.2.2)) rfl
set_option maxRecDepth 100000 in
set_option maxHeartbeats 4000000 in
theorem sem_X3_hasTower {M : Mem} {t : Int32} : Sem mX3_hasTower SH [.ref 44, .int t] M (PD SH (some (.int (b2 (0 ≤ t ∧ t < M 44 6)))) M) := by
  refine Sem_of rfl (fun G => (Nat.le_of_ble_eq_true rfl)) (fun G => ?_)
  refine Bd_iload_1 (pc := 0) dX3_hasTower_0 ?_
  refine Bd_aload_0 (pc := 1) dX3_hasTower_1 ?_
  refine Bd_getI (j := 6) ck3 (pc := 2) dX3_hasTower_2 k_163 rfl (Nat.le_of_ble_eq_true rfl) rfl ?_
  refine Bd_callNi (cd := mX7_isWithin) rfl rfl (pc := 5) dX3_hasTower_5 v_X7_isWithin ⟨(Nat.le_of_ble_eq_true rfl), (Nat.le_of_ble_eq_true rfl)⟩ sem_X7_isWithin (Nat.le_of_ble_eq_true rfl) ?_
  refine Bd_zret (pc := 8) dX3_hasTower_8 rfl b2_nar ?_
  exact PD_i rfl rfl
set_option maxRecDepth 100000 in
set_option maxHeartbeats 4000000 in
theorem sem_X3_hasPipe {M : Mem} {t tone : Int32} (ht : vp_in t 6) : Sem mX3_hasPipe SH [.ref 44, .int t, .int tone] M (PD SH (some (.int (b2 (hpF M t tone)))) M) := by
  refine Sem_of rfl (fun G => (Nat.le_of_ble_eq_true rfl)) (fun G => ?_)
  refine Bd_aload_0 (pc := 0) dX3_hasPipe_0 ?_
  refine Bd_getR (j := 2) ck3 (pc := 1) dX3_hasPipe_1 k_154 rfl (Nat.le_of_ble_eq_true rfl) rfl ?_
  refine Bd_iload_1 (pc := 4) dX3_hasPipe_4 ?_
  refine Bd_iald (pc := 5) dX3_hasPipe_5 rfl ht ?_
  refine Bd_iload_2 (pc := 6) dX3_hasPipe_6 ?_
  refine Bd_ishr (pc := 7) dX3_hasPipe_7 ?_
  refine Bd_iconst (v := 1) (pc := 8) dX3_hasPipe_8 (by decide) ?_
  refine Bd_iand (pc := 9) dX3_hasPipe_9 ?_
  refine Bd_if_eq (t := 17) (pc := 10) dX3_hasPipe_10 (by decide) (fun b10 => ?_) (fun b10 => ?_)
  · refine Bd_iconst (v := 0) (pc := 17) dX3_hasPipe_17 (by decide) ?_
    refine Bd_zret (pc := 18) dX3_hasPipe_18 rfl rfl ?_
    exact PD_i (by first | exact b2_t (by assumption) | exact b2_f (fun h => h (by assumption))) rfl
  · refine Bd_iconst (v := 1) (pc := 13) dX3_hasPipe_13 (by decide) ?_
    refine Bd_goto (t := 18) (pc := 14) dX3_hasPipe_14 (by decide) ?_
    refine Bd_zret (pc := 18) dX3_hasPipe_18 rfl rfl ?_
    exact PD_i (by first | exact b2_t (by assumption) | exact b2_f (fun h => h (by assumption))) rfl
set_option maxRecDepth 100000 in
set_option maxHeartbeats 4000000 in
theorem sem_X3_howFar {sh : List Ds} {M : Mem} {a b : Int32} : Sem mX3_howFar sh [.int a, .int b] M (PD sh (some (.int (hfF a b))) M) := by
  refine Sem_of rfl (fun G => (Nat.le_of_ble_eq_true rfl)) (fun G => ?_)
  refine Bd_iload_0 (pc := 0) dX3_howFar_0 ?_
  refine Bd_bipush (v := 9) (pc := 1) dX3_howFar_1 (by decide) ?_
  refine Bd_irem (pc := 3) dX3_howFar_3 (by decide) ?_
  refine Bd_iload_1 (pc := 4) dX3_howFar_4 ?_
  refine Bd_bipush (v := 9) (pc := 5) dX3_howFar_5 (by decide) ?_
  refine Bd_irem (pc := 7) dX3_howFar_7 (by decide) ?_
  refine Bd_isub (pc := 8) dX3_howFar_8 ?_
  refine Bd_mabs (pc := 9) dX3_howFar_9 k_499 k_500 k_14 k_501 (Nat.le_of_ble_eq_true rfl) (Nat.le_of_ble_eq_true rfl) ?_
  refine Bd_iload_0 (pc := 12) dX3_howFar_12 ?_
  refine Bd_bipush (v := 9) (pc := 13) dX3_howFar_13 (by decide) ?_
  refine Bd_idiv (pc := 15) dX3_howFar_15 (by decide) ?_
  refine Bd_iload_1 (pc := 16) dX3_howFar_16 ?_
  refine Bd_bipush (v := 9) (pc := 17) dX3_howFar_17 (by decide) ?_
  refine Bd_idiv (pc := 19) dX3_howFar_19 (by decide) ?_
  refine Bd_isub (pc := 20) dX3_howFar_20 ?_
  refine Bd_mabs (pc := 21) dX3_howFar_21 k_499 k_500 k_14 k_501 (Nat.le_of_ble_eq_true rfl) (Nat.le_of_ble_eq_true rfl) ?_
  refine Bd_mmax (pc := 24) dX3_howFar_24 k_493 k_494 k_14 k_495 (Nat.le_of_ble_eq_true rfl) (Nat.le_of_ble_eq_true rfl) ?_
  refine Bd_iret (pc := 27) dX3_howFar_27 rfl ?_
  exact PD_i rfl rfl
set_option maxRecDepth 100000 in
set_option maxHeartbeats 4000000 in
theorem sem_X3_against {sh : List Ds} {M : Mem} {a b : Int32} : Sem mX3_against sh [.int a, .int b] M (PD sh (some (.int (agF a b))) M) := by
  refine Sem_of rfl (fun G => (Nat.le_of_ble_eq_true rfl)) (fun G => ?_)
  refine Bd_iconst (v := 0) (pc := 0) dX3_against_0 (by decide) ?_
  refine Bd_iload_0 (pc := 1) dX3_against_1 ?_
  refine Bd_iconst (v := 1) (pc := 2) dX3_against_2 (by decide) ?_
  refine Bd_iload_1 (pc := 3) dX3_against_3 ?_
  refine Bd_isub (pc := 4) dX3_against_4 ?_
  refine Bd_imul (pc := 5) dX3_against_5 ?_
  refine Bd_mmax (pc := 6) dX3_against_6 k_493 k_494 k_14 k_495 (Nat.le_of_ble_eq_true rfl) (Nat.le_of_ble_eq_true rfl) ?_
  refine Bd_iret (pc := 9) dX3_against_9 rfl ?_
  exact PD_i rfl rfl
set_option maxRecDepth 100000 in
set_option maxHeartbeats 4000000 in
theorem sem_X3_sound {M : Mem} {a b : Int32} : Sem mX3_sound SH [.ref 44, .int a, .int b] M (PD SH (some (.int (sdF M a b))) M) := by
  refine Sem_of rfl (fun G => (Nat.le_of_ble_eq_true rfl)) (fun G => ?_)
  refine Bd_iload_2 (pc := 0) dX3_sound_0 ?_
  refine Bd_bipush (v := 9) (pc := 1) dX3_sound_1 (by decide) ?_
  refine Bd_irem (pc := 3) dX3_sound_3 (by decide) ?_
  refine Bd_iload_1 (pc := 4) dX3_sound_4 ?_
  refine Bd_bipush (v := 9) (pc := 5) dX3_sound_5 (by decide) ?_
  refine Bd_irem (pc := 7) dX3_sound_7 (by decide) ?_
  refine Bd_isub (pc := 8) dX3_sound_8 ?_
  refine Bd_aload_0 (pc := 9) dX3_sound_9 ?_
  refine Bd_getR (j := 0) ck3 (pc := 10) dX3_sound_10 k_147 rfl (Nat.le_of_ble_eq_true rfl) rfl ?_
  refine Bd_iconst (v := 4) (pc := 13) dX3_sound_13 (by decide) ?_
  refine Bd_ialdc (j := 4) rfl (pc := 14) dX3_sound_14 rfl (by unfold vp_in; decide) ?_
  refine Bd_callS2i (cd := mX3_against) (pc := 15) dX3_sound_15 k_490 v_X3_against ⟨(Nat.le_of_ble_eq_true rfl), (Nat.le_of_ble_eq_true rfl)⟩ sem_X3_against (Nat.le_of_ble_eq_true rfl) ?_
  refine Bd_iload_2 (pc := 18) dX3_sound_18 ?_
  refine Bd_bipush (v := 9) (pc := 19) dX3_sound_19 (by decide) ?_
  refine Bd_idiv (pc := 21) dX3_sound_21 (by decide) ?_
  refine Bd_iload_1 (pc := 22) dX3_sound_22 ?_
  refine Bd_bipush (v := 9) (pc := 23) dX3_sound_23 (by decide) ?_
  refine Bd_idiv (pc := 25) dX3_sound_25 (by decide) ?_
  refine Bd_isub (pc := 26) dX3_sound_26 ?_
  refine Bd_aload_0 (pc := 27) dX3_sound_27 ?_
  refine Bd_getR (j := 0) ck3 (pc := 28) dX3_sound_28 k_147 rfl (Nat.le_of_ble_eq_true rfl) rfl ?_
  refine Bd_iconst (v := 5) (pc := 31) dX3_sound_31 (by decide) ?_
  refine Bd_ialdc (j := 5) rfl (pc := 32) dX3_sound_32 rfl (by unfold vp_in; decide) ?_
  refine Bd_callS2i (cd := mX3_against) (pc := 33) dX3_sound_33 k_490 v_X3_against ⟨(Nat.le_of_ble_eq_true rfl), (Nat.le_of_ble_eq_true rfl)⟩ sem_X3_against (Nat.le_of_ble_eq_true rfl) ?_
  refine Bd_iadd (pc := 36) dX3_sound_36 ?_
  refine Bd_istore_3 (pc := 37) dX3_sound_37 (Nat.le_of_ble_eq_true rfl) rfl ?_
  refine Bd_aload_0 (pc := 38) dX3_sound_38 ?_
  refine Bd_getR (j := 0) ck3 (pc := 39) dX3_sound_39 k_147 rfl (Nat.le_of_ble_eq_true rfl) rfl ?_
  refine Bd_iconst (v := 2) (pc := 42) dX3_sound_42 (by decide) ?_
  refine Bd_ialdc (j := 2) rfl (pc := 43) dX3_sound_43 rfl (by unfold vp_in; decide) ?_
  refine Bd_iload_1 (pc := 44) dX3_sound_44 ?_
  refine Bd_iload_2 (pc := 45) dX3_sound_45 ?_
  refine Bd_callS2i (cd := mX3_howFar) (pc := 46) dX3_sound_46 k_496 v_X3_howFar ⟨(Nat.le_of_ble_eq_true rfl), (Nat.le_of_ble_eq_true rfl)⟩ sem_X3_howFar (Nat.le_of_ble_eq_true rfl) ?_
  refine Bd_imul (pc := 49) dX3_sound_49 ?_
  refine Bd_iload_3 (pc := 50) dX3_sound_50 ?_
  refine Bd_iadd (pc := 51) dX3_sound_51 ?_
  refine Bd_iret (pc := 52) dX3_sound_52 rfl ?_
  exact PD_i rfl rfl
set_option maxRecDepth 100000 in
set_option maxHeartbeats 4000000 in
theorem sem_X3_soundOf {M : Mem} {t c : Int32} (ht : vp_in t 6) : Sem mX3_soundOf SH [.ref 44, .int t, .int c] M (PD SH (some (.int (sdF M (M 46 t.toNatClampNeg) c))) M) := by
  refine Sem_of rfl (fun G => (Nat.le_of_ble_eq_true rfl)) (fun G => ?_)
  refine Bd_aload_0 (pc := 0) dX3_soundOf_0 ?_
  refine Bd_aload_0 (pc := 1) dX3_soundOf_1 ?_
  refine Bd_getR (j := 1) ck3 (pc := 2) dX3_soundOf_2 k_151 rfl (Nat.le_of_ble_eq_true rfl) rfl ?_
  refine Bd_iload_1 (pc := 5) dX3_soundOf_5 ?_
  refine Bd_iald (pc := 6) dX3_soundOf_6 rfl ht ?_
  refine Bd_iload_2 (pc := 7) dX3_soundOf_7 ?_
  refine Bd_callV2i (cd := mX3_sound) (pc := 8) dX3_soundOf_8 k_559 v_X3_sound ⟨(Nat.le_of_ble_eq_true rfl), (Nat.le_of_ble_eq_true rfl)⟩ rfl rfl sem_X3_sound (Nat.le_of_ble_eq_true rfl) ?_
  refine Bd_iret (pc := 11) dX3_soundOf_11 rfl ?_
  exact PD_i rfl rfl
