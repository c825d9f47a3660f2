/-! 62: men: the path is turned, on both sides -/
def pe (e : Int32) : Option Nat → Int32
  | none => e
  | some j => nI j
theorem enc_pe {e : Int32} {f : OM} {j : Nat} : enc e f j = pe e (f j) := by unfold enc pe; cases f j <;> rfl
theorem nI_ne {j : Nat} (h : j < 24) : ¬ nI j = -1 ∧ ¬ nI j = -4 := by
  have e := nI_toInt (n := j) (by omega)
  exact ⟨fun z => by have := congrArg Int32.toInt z; rw [e, show (-1 : Int32).toInt = -1 by decide] at this; omega, fun z => by have := congrArg Int32.toInt z; rw [e, show (-4 : Int32).toInt = -4 by decide] at this; omega⟩
/-- along the path: k steps at most are left, fin is what will be -/
def TL (n st : Nat) (bh : OM) (s : BS) (fin : OM × OM) (e : Int32) (ra rb : Nat) (M : Mem) (k : Nat) (pd : Option Nat) (ah' bh' : OM) (N : Mem) : Prop := k ≤ n ∧ (∀ j, pd = some j → ∃ i p, p < k ∧ TP n st bh s p j i ah' bh') ∧ tu s.1 k pd ah' bh' = fin ∧ (∀ q, q ≠ ra → q ≠ rb → N q = M q) ∧ ∀ j, j < n → N ra j = enc e ah' j ∧ N rb j = enc e bh' j
def TR (n : Nat) (fin : OM × OM) (e : Int32) (ra rb : Nat) (M N : Mem) : Prop := (∀ q, q ≠ ra → q ≠ rb → N q = M q) ∧ ∀ j, j < n → N ra j = enc e fin.1 j ∧ N rb j = enc e fin.2 j
theorem TL_n {n st : Nat} {bh : OM} {s : BS} {fin : OM × OM} {e : Int32} {ra rb : Nat} {M : Mem} {k : Nat} {ah' bh' : OM} {N : Mem} (h : TL n st bh s fin e ra rb M k none ah' bh' N) : TR n fin e ra rb M N := by
  obtain ⟨-, -, h3, h4, h5⟩ := h
  rw [tu_n] at h3
  rw [← h3]
  exact ⟨h4, h5⟩
theorem TL_s {n st : Nat} {ah bh : OM} (g : GD3 n st ah bh) {s : BS} (b : BI n st ah s) {fin : OM × OM} {e : Int32} {ra rb : Nat} (hr : ra ≠ rb) {M : Mem} {k j i p : Nat} {ah' bh' : OM} {N : Mem} (h : TL n st bh s fin e ra rb M (k + 1) (some j) ah' bh' N) (hp : p < k + 1) (ht : TP n st bh s p j i ah' bh') : TL n st bh s fin e ra rb M k (bh' i) (fs ah' j i) (fs bh' i j) (updM (updM N ra j (nI i)) rb i (nI j)) := by
  obtain ⟨h1, -, h3, h4, h5⟩ := h
  refine ⟨by omega, fun j2 z => ?_, by rw [← h3, tu_s ht.1.1], fun q q1 q2 => by rw [updM_ne q2, updM_ne q1]; exact h4 q q1 q2, fun j' hj => ?_⟩
  · obtain ⟨i3, p3, c1, c2⟩ := TP_s g b ht z
    exact ⟨i3, p3, by omega, c2⟩
  · refine ⟨?_, ?_⟩
    · rw [updM_ne hr, updM_eq]
      exact enc_fs (n := n) (fun x hx => (h5 x hx).1) j' hj
    · rw [updM_eq, updM_ne (fun z => hr z.symm)]
      exact enc_fs (n := n) (fun x hx => (h5 x hx).2) j' hj
set_option maxRecDepth 100000 in
set_option maxHeartbeats 4000000 in
theorem sem_X1_turnPath {M : Mem} {n st : Nat} (hn : n ≤ 24) (hst : st < n) {ah bh : OM} (g : GD3 n st ah bh) {s : BS} (b : BI n st ah s) (hsz : M 10 5 = nI n) (hwh : ∀ j i, s.1 j = some i → M 14 j = nI i) (hab : ∀ j, j < n → M 12 j = enc (-1) ah j ∧ M 13 j = enc (-1) bh j) {j0 : Nat} (hf : s.2.2 = some j0) : Sem mX1_turnPath SH [.ref 10, .int (nI j0)] M (RV SH (fun N => TR n (tu s.1 n (some j0) ah bh) (-1) 12 13 M N)) := by
  refine Sem_of rfl (fun G => (Nat.le_of_ble_eq_true rfl)) (fun G => ?_)
  refine Bd_iload_1 (pc := 0) dX1_turnPath_0 ?_
  refine Bd_istore_2 (pc := 1) dX1_turnPath_1 (Nat.le_of_ble_eq_true rfl) rfl ?_
  refine Bd_iconst (v := 0) (pc := 2) dX1_turnPath_2 (by decide) ?_
  refine Bd_istore_3 (pc := 3) dX1_turnPath_3 (Nat.le_of_ble_eq_true rfl) rfl ?_
  obtain ⟨i0, p0, hp0, ht0⟩ := TP_0 g b hf
  refine Bd_nx (Bd_wh (pc := 4) (σ := Nat × Option Nat × OM × OM × Mem) (fun x => TL n st bh s (tu s.1 n (some j0) ah bh) (-1) 12 13 M x.1 x.2.1 x.2.2.1 x.2.2.2.1 x.2.2.2.2) (fun x => x.1) (fun x => [some (.ref 10), none, some (.int (pe (-1) x.2.1)), some (.int (nI (n - x.1))), none, none]) (fun x => x.2.2.2.2) (fun x hx ih => ?_) (n, some j0, ah, bh, M) ⟨Nat.le_refl _, fun j z => ⟨i0, p0, by omega, (Option.some.inj z) ▸ ht0⟩, rfl, fun _ _ _ => rfl, hab⟩) ?_
  · obtain ⟨k, pd, ah', bh', N⟩ := x
    have hx : TL n st bh s (tu s.1 n (some j0) ah bh) (-1) 12 13 M k pd ah' bh' N := hx
    show Bd mX1_turnPath G _ SH 4 [some (.ref 10), none, some (.int (pe (-1) pd)), some (.int (nI (n - k))), none, none] [] N
    cases pd with
    | none =>
      show Bd mX1_turnPath G _ SH 4 [some (.ref 10), none, some (.int ((-1))), some (.int (nI (n - k))), none, none] [] N
      refine Bd_iload_3 (pc := 4) dX1_turnPath_4 ?_
      refine Bd_aload_0 (pc := 5) dX1_turnPath_5 ?_
      refine Bd_getI (j := 5) ck1 (pc := 6) dX1_turnPath_6 k_119 rfl (Nat.le_of_ble_eq_true rfl) rfl ?_
      refine Bd_icmp_ge (t := 59) (pc := 9) dX1_turnPath_9 (by decide) (fun b9 => ?_) (fun b9 => ?_)
      · refine Bd_vret (pc := 59) dX1_turnPath_59 rfl ?_
        exact ⟨rfl, rfl, TL_n hx⟩
      · refine Bd_iload_2 (pc := 12) dX1_turnPath_12 ?_
        refine Bd_iconst (v := -1) (pc := 13) dX1_turnPath_13 (by decide) ?_
        refine Bd_icmp_eq (t := 59) (pc := 14) dX1_turnPath_14 (by decide) (fun b14 => ?_) (fun b14 => (show False from b14 rfl).elim)
        refine Bd_vret (pc := 59) dX1_turnPath_59 rfl ?_
        exact ⟨rfl, rfl, TL_n hx⟩
    | some j =>
      obtain ⟨i, p, hp, ht⟩ := hx.2.1 j rfl
      have hjn := (b.2.2.2.2.1 j i ht.1.1).1
      have hist := b.2.1 i (List.mem_of_getElem? ht.1.2)
      have hj24 : j < 24 := by omega
      have hin : i < n := by omega
      have hkn := hx.1
      cases k with
      | zero => omega
      | succ k =>
        show Bd mX1_turnPath G _ SH 4 [some (.ref 10), none, some (.int (nI j)), some (.int (nI (n - (k + 1)))), none, none] [] N
        refine Bd_iload_3 (pc := 4) dX1_turnPath_4 ?_
        refine Bd_aload_0 (pc := 5) dX1_turnPath_5 ?_
        refine Bd_getI (j := 5) ck1 (pc := 6) dX1_turnPath_6 k_119 rfl (Nat.le_of_ble_eq_true rfl) rfl ?_
        refine Bd_icmp_ge (t := 59) (pc := 9) dX1_turnPath_9 (by decide) (fun b9 => (show False from lf_s ((congrFun (hx.2.2.2.1 10 (by decide) (by decide)) 5).trans hsz) (by omega) (show n - (k + 1) < n by omega) b9).elim) (fun b9 => ?_)
        refine Bd_iload_2 (pc := 12) dX1_turnPath_12 ?_
        refine Bd_iconst (v := -1) (pc := 13) dX1_turnPath_13 (by decide) ?_
        refine Bd_icmp_eq (t := 59) (pc := 14) dX1_turnPath_14 (by decide) (fun b14 => (show False from (nI_ne hj24).1 b14).elim) (fun b14 => ?_)
        refine Bd_aload_0 (pc := 17) dX1_turnPath_17 ?_
        refine Bd_getR (j := 3) ck1 (pc := 18) dX1_turnPath_18 k_117 rfl (Nat.le_of_ble_eq_true rfl) rfl ?_
        refine Bd_iload_2 (pc := 21) dX1_turnPath_21 ?_
        refine Bd_ialdc (j := j) (nI_clamp (by omega)) (pc := 22) dX1_turnPath_22 rfl (vpi (by omega) (by omega)) ?_
        rw [show N 14 j = nI i from (congrFun (hx.2.2.2.1 14 (by decide) (by decide)) j).trans (hwh j i ht.1.1)]
        refine Bd_istore_4 (pc := 23) dX1_turnPath_23 (Nat.le_of_ble_eq_true rfl) rfl ?_
        refine Bd_aload_0 (pc := 25) dX1_turnPath_25 ?_
        refine Bd_getR (j := 2) ck1 (pc := 26) dX1_turnPath_26 k_116 rfl (Nat.le_of_ble_eq_true rfl) rfl ?_
        refine Bd_iload_4 (pc := 29) dX1_turnPath_29 ?_
        refine Bd_ialdc (j := i) (nI_clamp (by omega)) (pc := 31) dX1_turnPath_31 rfl (vpi (by omega) (by omega)) ?_
        refine Bd_istore_5 (pc := 32) dX1_turnPath_32 (Nat.le_of_ble_eq_true rfl) rfl ?_
        refine Bd_aload_0 (pc := 34) dX1_turnPath_34 ?_
        refine Bd_getR (j := 1) ck1 (pc := 35) dX1_turnPath_35 k_115 rfl (Nat.le_of_ble_eq_true rfl) rfl ?_
        refine Bd_iload_2 (pc := 38) dX1_turnPath_38 ?_
        refine Bd_iload_4 (pc := 39) dX1_turnPath_39 ?_
        refine Bd_iastc (j := j) (nI_clamp (by omega)) (pc := 41) dX1_turnPath_41 rfl (vpi (by omega) (by omega)) ?_
        refine Bd_aload_0 (pc := 42) dX1_turnPath_42 ?_
        refine Bd_getR (j := 2) ck1 (pc := 43) dX1_turnPath_43 k_116 rfl (Nat.le_of_ble_eq_true rfl) rfl ?_
        refine Bd_iload_4 (pc := 46) dX1_turnPath_46 ?_
        refine Bd_iload_2 (pc := 48) dX1_turnPath_48 ?_
        refine Bd_iastc (j := i) (nI_clamp (by omega)) (pc := 49) dX1_turnPath_49 rfl (vpi (by omega) (by omega)) ?_
        refine Bd_iload_5 (pc := 50) dX1_turnPath_50 ?_
        refine Bd_istore_2 (pc := 52) dX1_turnPath_52 (Nat.le_of_ble_eq_true rfl) rfl ?_
        refine Bd_iinc_3 (pc := 53) dX1_turnPath_53 (show _ + Int32.ofInt 1 = _ + 1 from rfl) (Nat.le_of_ble_eq_true rfl) rfl ?_
        refine Bd_goto (t := 4) (pc := 56) dX1_turnPath_56 (by decide) ?_
        refine Bd_nx (ih (k, bh' i, fs ah' j i, fs bh' i j, updM (updM N 12 j (nI i)) 13 i (nI j)) (TL_s g b (by decide) hx hp ht) (Nat.lt_succ_self k)) ⟨rfl, congrArg (fun x => some (Value.int x)) ((hx.2.2.2.2 i hin).2.trans enc_pe), congrArg (fun x => some (Value.int x)) (show nI (n - (k + 1)) + 1 = nI (n - k) from by rw [← nI_succ, show n - (k + 1) + 1 = n - k by omega]), trivial⟩
  · exact ⟨rfl, rfl, congrArg (fun x => some (Value.int x)) (show (0 : Int32) = nI (n - n) from by rw [Nat.sub_self]; rfl), trivial⟩
theorem updM_sw {N : Mem} {a b i j : Nat} {u v : Int32} (h : a ≠ b) : updM (updM N a j u) b i v = updM (updM N b i v) a j u := by
  funext q
  by_cases z : q = a
  · subst z; rw [updM_ne h, updM_eq, updM_eq, updM_ne h]
  · rw [updM_ne z]
    by_cases y : q = b
    · subst y; rw [updM_eq, updM_eq, updM_ne z]
    · rw [updM_ne y, updM_ne y, updM_ne z]
set_option maxRecDepth 100000 in
set_option maxHeartbeats 4000000 in
theorem sem_X8_turns {M : Mem} {n st : Nat} (hn : n ≤ 24) (hst : st < n) {ah bh : OM} (g : GD3 n st ah bh) {s : BS} (b : BI n st ah s) (hwh : ∀ j i, s.1 j = some i → M 74 j = nI i) (hab : ∀ j, j < n → M 72 j = enc (-4) ah j ∧ M 71 j = enc (-4) bh j) {j0 : Nat} (hf : s.2.2 = some j0) : Sem mX8_turns SH [.ref 58, .int (nI j0)] M (RV SH (fun N => TR n (tu s.1 n (some j0) ah bh) (-4) 72 71 M N)) := by
  refine Sem_of rfl (fun G => (Nat.le_of_ble_eq_true rfl)) (fun G => ?_)
  refine Bd_iload_1 (pc := 0) dX8_turns_0 ?_
  refine Bd_istore_2 (pc := 1) dX8_turns_1 (Nat.le_of_ble_eq_true rfl) rfl ?_
  obtain ⟨i0, p0, hp0, ht0⟩ := TP_0 g b hf
  refine Bd_nx (Bd_wh (pc := 2) (σ := Nat × Option Nat × OM × OM × Mem) (fun x => TL n st bh s (tu s.1 n (some j0) ah bh) (-4) 72 71 M x.1 x.2.1 x.2.2.1 x.2.2.2.1 x.2.2.2.2) (fun x => x.1) (fun x => [some (.ref 58), none, some (.int (pe (-4) x.2.1)), none, none]) (fun x => x.2.2.2.2) (fun x hx ih => ?_) (n, some j0, ah, bh, M) ⟨Nat.le_refl _, fun j z => ⟨i0, p0, by omega, (Option.some.inj z) ▸ ht0⟩, rfl, fun _ _ _ => rfl, hab⟩) ?_
  · obtain ⟨k, pd, ah', bh', N⟩ := x
    have hx : TL n st bh s (tu s.1 n (some j0) ah bh) (-4) 72 71 M k pd ah' bh' N := hx
    show Bd mX8_turns G _ SH 2 [some (.ref 58), none, some (.int (pe (-4) pd)), none, none] [] N
    cases pd with
    | none =>
      show Bd mX8_turns G _ SH 2 [some (.ref 58), none, some (.int ((-4))), none, none] [] N
      refine Bd_iload_2 (pc := 2) dX8_turns_2 ?_
      refine Bd_bipush (v := -4) (pc := 3) dX8_turns_3 (by decide) ?_
      refine Bd_icmp_eq (t := 43) (pc := 5) dX8_turns_5 (by decide) (fun b5 => ?_) (fun b5 => (show False from b5 rfl).elim)
      refine Bd_vret (pc := 43) dX8_turns_43 rfl ?_
      exact ⟨rfl, rfl, TL_n hx⟩
    | some j =>
      obtain ⟨i, p, hp, ht⟩ := hx.2.1 j rfl
      have hjn := (b.2.2.2.2.1 j i ht.1.1).1
      have hist := b.2.1 i (List.mem_of_getElem? ht.1.2)
      have hj24 : j < 24 := by omega
      have hin : i < n := by omega
      have hkn := hx.1
      cases k with
      | zero => omega
      | succ k =>
        show Bd mX8_turns G _ SH 2 [some (.ref 58), none, some (.int (nI j)), none, none] [] N
        refine Bd_iload_2 (pc := 2) dX8_turns_2 ?_
        refine Bd_bipush (v := -4) (pc := 3) dX8_turns_3 (by decide) ?_
        refine Bd_icmp_eq (t := 43) (pc := 5) dX8_turns_5 (by decide) (fun b5 => (show False from (nI_ne hj24).2 b5).elim) (fun b5 => ?_)
        refine Bd_aload_0 (pc := 8) dX8_turns_8 ?_
        refine Bd_getR (j := 32) ck8 (pc := 9) dX8_turns_9 k_818 rfl (Nat.le_of_ble_eq_true rfl) rfl ?_
        refine Bd_iload_2 (pc := 12) dX8_turns_12 ?_
        refine Bd_ialdc (j := j) (nI_clamp (by omega)) (pc := 13) dX8_turns_13 rfl (vpi (by omega) (by omega)) ?_
        rw [show N 74 j = nI i from (congrFun (hx.2.2.2.1 74 (by decide) (by decide)) j).trans (hwh j i ht.1.1)]
        refine Bd_istore_3 (pc := 14) dX8_turns_14 (Nat.le_of_ble_eq_true rfl) rfl ?_
        refine Bd_aload_0 (pc := 15) dX8_turns_15 ?_
        refine Bd_getR (j := 29) ck8 (pc := 16) dX8_turns_16 k_815 rfl (Nat.le_of_ble_eq_true rfl) rfl ?_
        refine Bd_iload_3 (pc := 19) dX8_turns_19 ?_
        refine Bd_ialdc (j := i) (nI_clamp (by omega)) (pc := 20) dX8_turns_20 rfl (vpi (by omega) (by omega)) ?_
        refine Bd_istore_4 (pc := 21) dX8_turns_21 (Nat.le_of_ble_eq_true rfl) rfl ?_
        refine Bd_aload_0 (pc := 23) dX8_turns_23 ?_
        refine Bd_getR (j := 29) ck8 (pc := 24) dX8_turns_24 k_815 rfl (Nat.le_of_ble_eq_true rfl) rfl ?_
        refine Bd_iload_3 (pc := 27) dX8_turns_27 ?_
        refine Bd_iload_2 (pc := 28) dX8_turns_28 ?_
        refine Bd_iastc (j := i) (nI_clamp (by omega)) (pc := 29) dX8_turns_29 rfl (vpi (by omega) (by omega)) ?_
        refine Bd_aload_0 (pc := 30) dX8_turns_30 ?_
        refine Bd_getR (j := 30) ck8 (pc := 31) dX8_turns_31 k_816 rfl (Nat.le_of_ble_eq_true rfl) rfl ?_
        refine Bd_iload_2 (pc := 34) dX8_turns_34 ?_
        refine Bd_iload_3 (pc := 35) dX8_turns_35 ?_
        refine Bd_iastc (j := j) (nI_clamp (by omega)) (pc := 36) dX8_turns_36 rfl (vpi (by omega) (by omega)) ?_
        refine Bd_iload_4 (pc := 37) dX8_turns_37 ?_
        refine Bd_istore_2 (pc := 39) dX8_turns_39 (Nat.le_of_ble_eq_true rfl) rfl ?_
        refine Bd_goto (t := 2) (pc := 40) dX8_turns_40 (by decide) ?_
        refine Bd_nx (Bd_cM (ih (k, bh' i, fs ah' j i, fs bh' i j, updM (updM N 72 j (nI i)) 71 i (nI j)) (TL_s g b (by decide) hx hp ht) (Nat.lt_succ_self k)) (updM_sw (by decide))) ⟨rfl, congrArg (fun x => some (Value.int x)) ((hx.2.2.2.2 i hin).2.trans enc_pe), trivial⟩
  · exact ⟨rfl, rfl, trivial⟩
