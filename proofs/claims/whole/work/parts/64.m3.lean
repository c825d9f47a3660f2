/-! 64: men: the class: least -/
def LR (can : Nat → Nat → Bool) (n s : Nat) (M N : Mem) : Prop := (∀ q, q ≠ 12 → q ≠ 13 → q ≠ 14 → q ≠ 15 → N q = M q) ∧ ∀ j, j < n → N 12 j = enc (-1) (mt can n s).1 j ∧ N 13 j = enc (-1) (mt can n s).2.1 j
theorem mt_le {can : Nat → Nat → Bool} {n : Nat} : ∀ s, (mt can n s).2.2 ≤ s
  | 0 => Nat.le_refl _
  | s + 1 => by
    have ih := mt_le (can := can) (n := n) s
    unfold mt
    cases (bhs can (mt can n s).1 n s n).2.2 with
    | none => show (mt can n s).2.2 ≤ s + 1; omega
    | some j => show (mt can n s).2.2 + 1 ≤ s + 1; omega
theorem nI_sb {a b : Nat} (h : b ≤ a) : nI a - nI b = nI (a - b) := by
  have e : nI a = nI (a - b) + nI b := by rw [nI_add, show a - b + b = a by omega]
  rw [e]; exact Int32.add_sub_cancel _ _
set_option maxRecDepth 100000 in
set_option maxHeartbeats 4000000 in
theorem sem_X1_least {can : Nat → Nat → Bool} {M : Mem} {n : Nat} (hn : n ≤ 24) (hsz : M 10 5 = nI n) (hcan : ∀ i j, i < n → j < n → gb (M 11 i) j = can i j) (h0 : ∀ j, j < n → M 12 j = -1 ∧ M 13 j = -1) : Sem mX1_least SH [.ref 10] M (RI SH (fun r N => r = nI (n - (mt can n n).2.2) ∧ ∀ q, (q < 12 ∨ 15 < q) → N q = M q)) := by
  refine Sem_of rfl (fun G => (Nat.le_of_ble_eq_true rfl)) (fun G => ?_)
  refine Bd_iconst (v := 0) (pc := 0) dX1_least_0 (by decide) ?_
  refine Bd_istore_1 (pc := 1) dX1_least_1 (Nat.le_of_ble_eq_true rfl) rfl ?_
  refine Bd_iconst (v := 0) (pc := 2) dX1_least_2 (by decide) ?_
  refine Bd_istore_2 (pc := 3) dX1_least_3 (Nat.le_of_ble_eq_true rfl) rfl ?_
  refine Bd_nx (Bd_wh (pc := 4) (σ := Nat × Mem) (fun x => x.1 ≤ n ∧ LR can n x.1 M x.2) (fun x => n - x.1) (fun x => [some (.ref 10), some (.int (nI (mt can n x.1).2.2)), some (.int (nI x.1)), none]) (fun x => x.2) (fun x hx ih => ?_) (0, M) ⟨Nat.zero_le _, fun _ _ _ _ _ => rfl, h0⟩) ⟨rfl, rfl, rfl, trivial⟩
  obtain ⟨s, N⟩ := x
  obtain ⟨hs, hx⟩ := hx
  have hs : s ≤ n := hs
  have hx : LR can n s M N := hx
  show Bd mX1_least G _ SH 4 [some (.ref 10), some (.int (nI (mt can n s).2.2)), some (.int (nI s)), none] [] N
  have g := mt_ok (can := can) (n := n) s hs
  have hz : N 10 5 = nI n := (congrFun (hx.1 10 (by decide) (by decide) (by decide) (by decide)) 5).trans hsz
  have bi := BI_hs (can := can) g n
  rcases Nat.lt_or_ge s n with hs | hs2
  · refine Bd_iload_2 (pc := 4) dX1_least_4 ?_
    refine Bd_aload_0 (pc := 5) dX1_least_5 ?_
    refine Bd_getI (j := 5) ck1 (pc := 6) dX1_least_6 k_119 rfl (Nat.le_of_ble_eq_true rfl) rfl ?_
    refine Bd_icmp_ge (t := 37) (pc := 9) dX1_least_9 (by decide) (fun b9 => (show False from lf_s hz (by omega) hs b9).elim) (fun b9 => ?_)
    refine Bd_aload_0 (pc := 12) dX1_least_12 ?_
    refine Bd_iload_2 (pc := 13) dX1_least_13 ?_
    refine Bd_callV1x (cd := mX1_findFree) (pc := 14) dX1_least_14 k_669 v_X1_findFree ⟨(Nat.le_of_ble_eq_true rfl), (Nat.le_of_ble_eq_true rfl)⟩ rfl rfl (sem_X1_findFree (can := can) hn hs g hz (fun j hj => (hx.2 j hj).1) (fun i j hi hj => by rw [hx.1 11 (by decide) (by decide) (by decide) (by decide)]; exact hcan i j hi hj)) (Nat.le_of_ble_eq_true rfl) (fun x14 M14 e14 => ?_)
    refine Bd_istore_3 (pc := 17) dX1_least_17 (Nat.le_of_ble_eq_true rfl) rfl ?_
    cases efd : (bhs can (mt can n s).1 n s n).2.2 with
    | none =>
      refine Bd_iload_3 (pc := 18) dX1_least_18 ?_
      refine Bd_iconst (v := -1) (pc := 19) dX1_least_19 (by decide) ?_
      refine Bd_icmp_eq (t := 31) (pc := 20) dX1_least_20 (by decide) (fun b20 => ?_) (fun b20 => (show False from b20 (by rw [e14.1, efd]; rfl)).elim)
      refine Bd_iinc_2 (pc := 31) dX1_least_31 (show _ + Int32.ofInt 1 = _ + 1 from rfl) (Nat.le_of_ble_eq_true rfl) rfl ?_
      refine Bd_goto (t := 4) (pc := 34) dX1_least_34 (by decide) ?_
      have em : mt can n (s + 1) = mt can n s := by rw [mt, efd]
      refine Bd_nx (ih (s + 1, M14) ⟨hs, by show LR can n (s + 1) M M14; exact ⟨fun q q1 q2 q3 q4 => (e14.2.1 q q3 q4).trans (hx.1 q q1 q2 q3 q4), fun j hj => by rw [em, e14.2.1 12 (by decide) (by decide), e14.2.1 13 (by decide) (by decide)]; exact hx.2 j hj⟩⟩ (by show n - (s + 1) < n - s; omega)) ⟨rfl, congrArg (fun x => some (Value.int x)) (show nI _ = nI _ from by rw [em]), congrArg (fun x => some (Value.int x)) (nI_succ s).symm, trivial⟩
    | some j =>
      have ej : x14 = nI j := by rw [e14.1, efd]; rfl
      have hjn : j < n := by obtain ⟨-, i, hi⟩ := bi.2.2.2.2.2 j efd; exact (bi.2.2.2.2.1 j i hi).1
      subst ej
      refine Bd_iload_3 (pc := 18) dX1_least_18 ?_
      refine Bd_iconst (v := -1) (pc := 19) dX1_least_19 (by decide) ?_
      refine Bd_icmp_eq (t := 31) (pc := 20) dX1_least_20 (by decide) (fun b20 => (show False from (nI_ne (show j < 24 by omega)).1 b20).elim) (fun b20 => ?_)
      refine Bd_aload_0 (pc := 23) dX1_least_23 ?_
      refine Bd_iload_3 (pc := 24) dX1_least_24 ?_
      refine Bd_callV1y (cd := mX1_turnPath) (pc := 25) dX1_least_25 k_673 v_X1_turnPath ⟨(Nat.le_of_ble_eq_true rfl), (Nat.le_of_ble_eq_true rfl)⟩ rfl rfl (sem_X1_turnPath hn hs g bi ((congrFun (e14.2.1 10 (by decide) (by decide)) 5).trans hz) e14.2.2 (fun j hj => by rw [e14.2.1 12 (by decide) (by decide), e14.2.1 13 (by decide) (by decide)]; exact hx.2 j hj) efd) (Nat.le_of_ble_eq_true rfl) (fun M25 e25 => ?_)
      refine Bd_iinc_1 (pc := 28) dX1_least_28 (show _ + Int32.ofInt 1 = _ + 1 from rfl) (Nat.le_of_ble_eq_true rfl) rfl ?_
      refine Bd_iinc_2 (pc := 31) dX1_least_31 (show _ + Int32.ofInt 1 = _ + 1 from rfl) (Nat.le_of_ble_eq_true rfl) rfl ?_
      refine Bd_goto (t := 4) (pc := 34) dX1_least_34 (by decide) ?_
      have em : mt can n (s + 1) = ((tu (bhs can (mt can n s).1 n s n).1 n (some j) (mt can n s).1 (mt can n s).2.1).1, (tu (bhs can (mt can n s).1 n s n).1 n (some j) (mt can n s).1 (mt can n s).2.1).2, (mt can n s).2.2 + 1) := by rw [mt, efd]
      refine Bd_nx (ih (s + 1, M25) ⟨hs, by show LR can n (s + 1) M M25; exact ⟨fun q q1 q2 q3 q4 => (e25.1 q q1 q2).trans ((e14.2.1 q q3 q4).trans (hx.1 q q1 q2 q3 q4)), fun j hj => by rw [em]; exact e25.2 j hj⟩⟩ (by show n - (s + 1) < n - s; omega)) ⟨rfl, congrArg (fun x => some (Value.int x)) (show nI _ + 1 = nI _ from by rw [em, ← nI_succ]), congrArg (fun x => some (Value.int x)) (nI_succ s).symm, trivial⟩
  · have em : n = s := by omega
    subst em
    refine Bd_iload_2 (pc := 4) dX1_least_4 ?_
    refine Bd_aload_0 (pc := 5) dX1_least_5 ?_
    refine Bd_getI (j := 5) ck1 (pc := 6) dX1_least_6 k_119 rfl (Nat.le_of_ble_eq_true rfl) rfl ?_
    refine Bd_icmp_ge (t := 37) (pc := 9) dX1_least_9 (by decide) (fun b9 => ?_) (fun b9 => (show False from lf_x hz b9).elim)
    refine Bd_aload_0 (pc := 37) dX1_least_37 ?_
    refine Bd_getI (j := 5) ck1 (pc := 38) dX1_least_38 k_119 rfl (Nat.le_of_ble_eq_true rfl) rfl ?_
    refine Bd_iload_1 (pc := 41) dX1_least_41 ?_
    refine Bd_isub (pc := 42) dX1_least_42 ?_
    refine Bd_iret (pc := 43) dX1_least_43 rfl ?_
    exact ⟨_, rfl, rfl, by rw [show N 10 5 = nI n from hz]; exact nI_sb (mt_le n), fun q q1 => hx.1 q (by omega) (by omega) (by omega) (by omega)⟩
