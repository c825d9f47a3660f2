/-! 63: men: the class's search -/
theorem mask0 {a r : Int32} {j : Nat} (hj : j < 32) : (a &&& (r ^^^ -1)) &&& ((1 : Int32) <<< (nI j &&& 31)) = 0 ↔ ¬ (gb a j = true ∧ gb r j = false) := by
  rw [gb_z]
  constructor
  · rintro h ⟨h1, h2⟩
    have := h j hj
    rw [gb_and, gb_and, gb_xor, gb_m1 j hj, gb_1s j hj j hj, h1, h2] at this
    simp at this
  · intro h i hi
    rw [gb_and, gb_and, gb_xor, gb_m1 i hi, gb_1s j hj i hi]
    by_cases z : i = j
    · subst z
      cases q1 : gb a i <;> cases q2 : gb r i <;> simp_all
    · simp [z]
theorem mask1 {r : Int32} {j x : Nat} (hj : j < 32) (hx : x < 32) : gb (r ||| (1 : Int32) <<< (nI j &&& 31)) x = (gb r x || decide (x = j)) := by rw [gb_or, gb_1s j hj x hx]
/-- found, it stays -/
theorem bhs_st {can : Nat → Nat → Bool} {ah : OM} {n st h : Nat} (q : ¬ (bhs can ah n st h).2.2 = none ∨ (bhs can ah n st h).2.1.length ≤ h) : ∀ d, bhs can ah n st (h + d) = bhs can ah n st h
  | 0 => rfl
  | d + 1 => by
    have ih := bhs_st q d
    have e : bhs can ah n st (h + (d + 1)) = (if (bhs can ah n st (h + d)).2.2 = none then (match (bhs can ah n st (h + d)).2.1[h + d]? with
      | none => bhs can ah n st (h + d)
      | some i => bjs can ah i (bhs can ah n st (h + d)) n) else bhs can ah n st (h + d)) := rfl
    rw [e, ih]
    split
    · rename_i z
      have l := q.resolve_left (fun y => y z)
      rw [List.getElem?_eq_none (by omega)]
    · rfl
theorem bjs_st {can : Nat → Nat → Bool} {ah : OM} {i : Nat} {s : BS} {m : Nat} (q : ¬ (bjs can ah i s m).2.2 = none) : ∀ d, bjs can ah i s (m + d) = bjs can ah i s m
  | 0 => rfl
  | d + 1 => by
    have ih := bjs_st q d
    have e : bjs can ah i s (m + (d + 1)) = (if (bjs can ah i s (m + d)).2.2 = none then bj can ah i (m + d) (bjs can ah i s (m + d)) else bjs can ah i s (m + d)) := rfl
    rw [e, ih, if_neg q]
def FR (n : Nat) (s : BS) (M N : Mem) (re : Int32) : Prop := (∀ q, q ≠ 14 → q ≠ 15 → N q = M q) ∧ (∀ j i, s.1 j = some i → N 14 j = nI i) ∧ (∀ (p x : Nat), s.2.1[p]? = some x → N 15 p = nI x) ∧ ∀ j, j < n → gb re j = (s.1 j).isSome
def FO (s : BS) (M N : Mem) : Prop := (∀ q, q ≠ 14 → q ≠ 15 → N q = M q) ∧ ∀ j i, s.1 j = some i → N 14 j = nI i
theorem FR_w {n : Nat} {s : BS} {M N : Mem} {re : Int32} (h : FR n s M N re) {j i : Nat} : ∀ j' i', fs s.1 j i j' = some i' → updM N 14 j (nI i) 14 j' = nI i' := fun j' i' z => by
  rw [updM_eq]
  by_cases y : j' = j
  · rw [y, fs_e] at z; rw [y, upd_eq, Option.some.inj z]
  · rw [fs_n y] at z; rw [upd_ne y]; exact h.2.1 j' i' z
theorem FR_r {n : Nat} {s : BS} {M N : Mem} {re : Int32} (h : FR n s M N re) (hn : n ≤ 24) {j i : Nat} (hj : j < n) : ∀ j', j' < n → gb (re ||| (1 : Int32) <<< (nI j &&& 31)) j' = (fs s.1 j i j').isSome := fun j' hj' => by
  rw [mask1 (by omega) (by omega), h.2.2.2 j' hj']
  by_cases y : j' = j
  · rw [y, fs_e]; simp
  · rw [fs_n y]; simp [y]
set_option maxRecDepth 100000 in
set_option maxHeartbeats 4000000 in
theorem sem_X1_findFree {can : Nat → Nat → Bool} {M : Mem} {n st : Nat} (hn : n ≤ 24) (hst : st < n) {ah bh : OM} (g : GD3 n st ah bh) (hsz : M 10 5 = nI n) (hah : ∀ j, j < n → M 12 j = enc (-1) ah j) (hcan : ∀ i j, i < n → j < n → gb (M 11 i) j = can i j) : Sem mX1_findFree SH [.ref 10, .int (nI st)] M (RI SH (fun r N => r = pe (-1) (bhs can ah n st n).2.2 ∧ FO (bhs can ah n st n) M N)) := by
  refine Sem_of rfl (fun G => (Nat.le_of_ble_eq_true rfl)) (fun G => ?_)
  refine Bd_iconst (v := 0) (pc := 0) dX1_findFree_0 (by decide) ?_
  refine Bd_istore_2 (pc := 1) dX1_findFree_1 (Nat.le_of_ble_eq_true rfl) rfl ?_
  refine Bd_iconst (v := 1) (pc := 2) dX1_findFree_2 (by decide) ?_
  refine Bd_istore_3 (pc := 3) dX1_findFree_3 (Nat.le_of_ble_eq_true rfl) rfl ?_
  refine Bd_aload_0 (pc := 4) dX1_findFree_4 ?_
  refine Bd_getR (j := 4) ck1 (pc := 5) dX1_findFree_5 k_118 rfl (Nat.le_of_ble_eq_true rfl) rfl ?_
  refine Bd_iconst (v := 0) (pc := 8) dX1_findFree_8 (by decide) ?_
  refine Bd_iload_1 (pc := 9) dX1_findFree_9 ?_
  refine Bd_iastc (j := 0) rfl (pc := 10) dX1_findFree_10 rfl (by unfold vp_in; decide) ?_
  refine Bd_iconst (v := 0) (pc := 11) dX1_findFree_11 (by decide) ?_
  refine Bd_istore_4 (pc := 12) dX1_findFree_12 (Nat.le_of_ble_eq_true rfl) rfl ?_
  refine Bd_nx (Bd_wh (pc := 14) (σ := Nat × Mem × Int32) (fun x => x.1 ≤ n ∧ (bhs can ah n st x.1).2.2 = none ∧ FR n (bhs can ah n st x.1) M x.2.1 x.2.2) (fun x => n + 1 - x.1) (fun x => [some (.ref 10), some (.int (nI st)), some (.int x.2.2), some (.int (nI (bhs can ah n st x.1).2.1.length)), some (.int (nI x.1)), none, none]) (fun x => x.2.1) (fun x hx ih => ?_) (0, updM M 15 0 (nI st), 0) ⟨Nat.zero_le _, rfl, fun q q1 q2 => updM_ne q2, fun j i z => (by cases z), fun p x z => ?_, fun j hj => by rw [gb_0]; rfl⟩) ⟨rfl, rfl, rfl, rfl, rfl, trivial⟩
  · obtain ⟨h, N, re⟩ := x
    obtain ⟨hh, hf0, hx0⟩ := hx
    have hh : h ≤ n := hh
    have hf0 : (bhs can ah n st h).2.2 = none := hf0
    have hx0 : FR n (bhs can ah n st h) M N re := hx0
    show Bd mX1_findFree G _ SH 14 [some (.ref 10), some (.int (nI st)), some (.int re), some (.int (nI (bhs can ah n st h).2.1.length)), some (.int (nI h)), none, none] [] N
    have bi := BI_hs (can := can) g h
    have hlen := bi.len
    rcases Nat.lt_or_ge h (bhs can ah n st h).2.1.length with hlt | hge
    · obtain ⟨i, hqi⟩ : ∃ i, (bhs can ah n st h).2.1[h]? = some i := ⟨_, List.getElem?_eq_getElem hlt⟩
      have hin : i < n := by have := bi.2.1 i (List.mem_of_getElem? hqi); omega
      refine Bd_iload_4 (pc := 14) dX1_findFree_14 ?_
      refine Bd_iload_3 (pc := 16) dX1_findFree_16 ?_
      refine Bd_icmp_ge (t := 124) (pc := 17) dX1_findFree_17 (by decide) (fun b17 => (show False from nI_ge hlt (by omega) b17).elim) (fun b17 => ?_)
      refine Bd_aload_0 (pc := 20) dX1_findFree_20 ?_
      refine Bd_getR (j := 4) ck1 (pc := 21) dX1_findFree_21 k_118 rfl (Nat.le_of_ble_eq_true rfl) rfl ?_
      refine Bd_iload_4 (pc := 24) dX1_findFree_24 ?_
      refine Bd_ialdc (j := h) (nI_clamp (by omega)) (pc := 26) dX1_findFree_26 rfl (vpi (by omega) (by omega)) ?_
      rw [hx0.2.2.1 h i hqi]
      refine Bd_istore_5 (pc := 27) dX1_findFree_27 (Nat.le_of_ble_eq_true rfl) rfl ?_
      refine Bd_iconst (v := 0) (pc := 29) dX1_findFree_29 (by decide) ?_
      refine Bd_istore_6 (pc := 30) dX1_findFree_30 (Nat.le_of_ble_eq_true rfl) rfl ?_
      refine Bd_nx (Bd_wh (pc := 32) (σ := Nat × Mem × Int32) (fun y => y.1 ≤ n ∧ (bjs can ah i (bhs can ah n st h) y.1).2.2 = none ∧ FR n (bjs can ah i (bhs can ah n st h) y.1) M y.2.1 y.2.2) (fun y => n - y.1) (fun y => [some (.ref 10), some (.int (nI st)), some (.int y.2.2), some (.int (nI (bjs can ah i (bhs can ah n st h) y.1).2.1.length)), some (.int (nI h)), some (.int (nI i)), some (.int (nI y.1))]) (fun y => y.2.1) (fun y hy ihj => ?_) (0, N, re) ⟨Nat.zero_le _, hf0, hx0⟩) ⟨rfl, rfl, rfl, rfl, rfl, rfl, rfl, trivial⟩
      obtain ⟨m, N, re⟩ := y
      obtain ⟨hm, hf, hx⟩ := hy
      have hm : m ≤ n := hm
      have hf : (bjs can ah i (bhs can ah n st h) m).2.2 = none := hf
      have hx : FR n (bjs can ah i (bhs can ah n st h) m) M N re := hx
      show Bd mX1_findFree G _ SH 32 [some (.ref 10), some (.int (nI st)), some (.int re), some (.int (nI (bjs can ah i (bhs can ah n st h) m).2.1.length)), some (.int (nI h)), some (.int (nI i)), some (.int (nI m))] [] N
      rcases Nat.lt_or_ge m n with hm | hm2
      · refine Bd_iload_6 (pc := 32) dX1_findFree_32 ?_
        refine Bd_aload_0 (pc := 34) dX1_findFree_34 ?_
        refine Bd_getI (j := 5) ck1 (pc := 35) dX1_findFree_35 k_119 rfl (Nat.le_of_ble_eq_true rfl) rfl ?_
        refine Bd_icmp_ge (t := 118) (pc := 38) dX1_findFree_38 (by decide) (fun b38 => (show False from lf_s ((congrFun (hx.1 10 (by decide) (by decide)) 5).trans hsz) (by omega) hm b38).elim) (fun b38 => ?_)
        refine Bd_aload_0 (pc := 41) dX1_findFree_41 ?_
        refine Bd_getR (j := 0) ck1 (pc := 42) dX1_findFree_42 k_114 rfl (Nat.le_of_ble_eq_true rfl) rfl ?_
        refine Bd_iload_5 (pc := 45) dX1_findFree_45 ?_
        refine Bd_ialdc (j := i) (nI_clamp (by omega)) (pc := 47) dX1_findFree_47 rfl (vpi (by omega) (by omega)) ?_
        have e11 : gb (N 11 i) m = can i m := by rw [hx.1 11 (by decide) (by decide)]; exact hcan i m hin hm
        refine Bd_iload_2 (pc := 48) dX1_findFree_48 ?_
        refine Bd_iconst (v := -1) (pc := 49) dX1_findFree_49 (by decide) ?_
        refine Bd_ixor (pc := 50) dX1_findFree_50 ?_
        refine Bd_iand (pc := 51) dX1_findFree_51 ?_
        refine Bd_iconst (v := 1) (pc := 52) dX1_findFree_52 (by decide) ?_
        refine Bd_iload_6 (pc := 53) dX1_findFree_53 ?_
        refine Bd_ishl (pc := 55) dX1_findFree_55 ?_
        refine Bd_iand (pc := 56) dX1_findFree_56 ?_
        refine Bd_if_eq (t := 112) (pc := 57) dX1_findFree_57 (by decide) (fun b57 => ?_) (fun b57 => ?_)
        · refine Bd_iinc_6 (pc := 112) dX1_findFree_112 (show _ + Int32.ofInt 1 = _ + 1 from rfl) (Nat.le_of_ble_eq_true rfl) rfl ?_
          refine Bd_goto (t := 32) (pc := 115) dX1_findFree_115 (by decide) ?_
          have eb : bj can ah i m (bjs can ah i (bhs can ah n st h) m) = (bjs can ah i (bhs can ah n st h) m) := by unfold bj; rw [if_neg]; exact fun z => (mask0 (by omega)).mp b57 ⟨by rw [e11]; exact z.1, by rw [hx.2.2.2 m hm, z.2]; rfl⟩
          have es : bjs can ah i (bhs can ah n st h) (m + 1) = (bjs can ah i (bhs can ah n st h) m) := by rw [bjs, if_pos hf, eb]
          refine Bd_nx (ihj (m + 1, N, re) ⟨hm, by rw [es]; exact hf, by rw [es]; exact hx⟩ (by show n - (m + 1) < n - m; omega)) ⟨rfl, rfl, rfl, congrArg (fun x => some (Value.int x)) (show nI _ = nI _ from by rw [es]), rfl, rfl, congrArg (fun x => some (Value.int x)) (nI_succ m).symm, trivial⟩
        · have hc : can i m = true ∧ (bjs can ah i (bhs can ah n st h) m).1 m = none := by
            have z := Classical.not_not.mp (fun y => b57 ((mask0 (by omega)).mpr y))
            rw [e11, hx.2.2.2 m hm] at z
            exact ⟨z.1, by cases q : (bjs can ah i (bhs can ah n st h) m).1 m with | none => rfl | some v => rw [q] at z; exact absurd z.2 (by simp)⟩
          have e12 : updM N 14 m (nI i) 12 m = enc (-1) ah m := by rw [updM_ne (by decide), hx.1 12 (by decide) (by decide)]; exact hah m hm
          refine Bd_iload_2 (pc := 60) dX1_findFree_60 ?_
          refine Bd_iconst (v := 1) (pc := 61) dX1_findFree_61 (by decide) ?_
          refine Bd_iload_6 (pc := 62) dX1_findFree_62 ?_
          refine Bd_ishl (pc := 64) dX1_findFree_64 ?_
          refine Bd_ior (pc := 65) dX1_findFree_65 ?_
          refine Bd_istore_2 (pc := 66) dX1_findFree_66 (Nat.le_of_ble_eq_true rfl) rfl ?_
          refine Bd_aload_0 (pc := 67) dX1_findFree_67 ?_
          refine Bd_getR (j := 3) ck1 (pc := 68) dX1_findFree_68 k_117 rfl (Nat.le_of_ble_eq_true rfl) rfl ?_
          refine Bd_iload_6 (pc := 71) dX1_findFree_71 ?_
          refine Bd_iload_5 (pc := 73) dX1_findFree_73 ?_
          refine Bd_iastc (j := m) (nI_clamp (by omega)) (pc := 75) dX1_findFree_75 rfl (vpi (by omega) (by omega)) ?_
          refine Bd_aload_0 (pc := 76) dX1_findFree_76 ?_
          refine Bd_getR (j := 1) ck1 (pc := 77) dX1_findFree_77 k_115 rfl (Nat.le_of_ble_eq_true rfl) rfl ?_
          refine Bd_iload_6 (pc := 80) dX1_findFree_80 ?_
          refine Bd_ialdc (j := m) (nI_clamp (by omega)) (pc := 82) dX1_findFree_82 rfl (vpi (by omega) (by omega)) ?_
          refine Bd_iconst (v := -1) (pc := 83) dX1_findFree_83 (by decide) ?_
          refine Bd_icmp_ne (t := 90) (pc := 84) dX1_findFree_84 (by decide) (fun b84 => ?_) (fun b84 => ?_)
          · obtain ⟨a, ea⟩ : ∃ a, ah m = some a := by
              cases q : ah m with
              | none => exact absurd (e12.trans (enc_n q)) b84
              | some v => exact ⟨v, rfl⟩
            have es : bjs can ah i (bhs can ah n st h) (m + 1) = (fs (bjs can ah i (bhs can ah n st h) m).1 m i, (bjs can ah i (bhs can ah n st h) m).2.1 ++ [a], none) := by rw [bjs, if_pos hf, bj, if_pos hc, ea]
            have hl := (BI_js (can := can) g (BI_hs g h) hqi (m + 1) hm).len
            rw [es, List.length_append] at hl
            have hl : (bjs can ah i (bhs can ah n st h) m).2.1.length + 1 ≤ st + 1 := hl
            refine Bd_iload_3 (pc := 90) dX1_findFree_90 ?_
            refine Bd_bipush (v := 24) (pc := 91) dX1_findFree_91 (by decide) ?_
            refine Bd_icmp_ge (t := 112) (pc := 93) dX1_findFree_93 (by decide) (fun b93 => (show False from nI_ge (show (bjs can ah i (bhs can ah n st h) m).2.1.length < 24 by omega) (by decide) b93).elim) (fun b93 => ?_)
            refine Bd_aload_0 (pc := 96) dX1_findFree_96 ?_
            refine Bd_getR (j := 4) ck1 (pc := 97) dX1_findFree_97 k_118 rfl (Nat.le_of_ble_eq_true rfl) rfl ?_
            refine Bd_iload_3 (pc := 100) dX1_findFree_100 ?_
            refine Bd_aload_0 (pc := 101) dX1_findFree_101 ?_
            refine Bd_getR (j := 1) ck1 (pc := 102) dX1_findFree_102 k_115 rfl (Nat.le_of_ble_eq_true rfl) rfl ?_
            refine Bd_iload_6 (pc := 105) dX1_findFree_105 ?_
            refine Bd_ialdc (j := m) (nI_clamp (by omega)) (pc := 107) dX1_findFree_107 rfl (vpi (by omega) (by omega)) ?_
            rw [e12, enc_s ea]
            refine Bd_iastc (j := (bjs can ah i (bhs can ah n st h) m).2.1.length) (nI_clamp (by omega)) (pc := 108) dX1_findFree_108 rfl (vpi (by omega) (by omega)) ?_
            refine Bd_iinc_3 (pc := 109) dX1_findFree_109 (show _ + Int32.ofInt 1 = _ + 1 from rfl) (Nat.le_of_ble_eq_true rfl) rfl ?_
            refine Bd_iinc_6 (pc := 112) dX1_findFree_112 (show _ + Int32.ofInt 1 = _ + 1 from rfl) (Nat.le_of_ble_eq_true rfl) rfl ?_
            refine Bd_goto (t := 32) (pc := 115) dX1_findFree_115 (by decide) ?_
            refine Bd_nx (ihj (m + 1, updM (updM N 14 m (nI i)) 15 (bjs can ah i (bhs can ah n st h) m).2.1.length (nI a), re ||| (1 : Int32) <<< (nI m &&& 31)) ⟨hm, by rw [es], ?_⟩ (by show n - (m + 1) < n - m; omega)) ⟨rfl, rfl, rfl, congrArg (fun x => some (Value.int x)) (show nI _ + 1 = nI _ from by rw [es, ← nI_succ]; simp), rfl, rfl, congrArg (fun x => some (Value.int x)) (nI_succ m).symm, trivial⟩
            show FR n (bjs can ah i (bhs can ah n st h) (m + 1)) M (updM (updM N 14 m (nI i)) 15 (bjs can ah i (bhs can ah n st h) m).2.1.length (nI a)) (re ||| (1 : Int32) <<< (nI m &&& 31))
            rw [es]
            refine ⟨fun q q1 q2 => by rw [updM_ne q2, updM_ne q1]; exact hx.1 q q1 q2, fun j' i' z => by rw [updM_ne (by decide)]; exact FR_w hx j' i' z, fun p x z => ?_, FR_r hx hn hm⟩
            rw [updM_eq, updM_ne (by decide)]
            by_cases y : p = (bjs can ah i (bhs can ah n st h) m).2.1.length
            · have z : ((bjs can ah i (bhs can ah n st h) m).2.1 ++ [a])[p]? = some x := z
              rw [y, List.getElem?_append_right (Nat.le_refl _), Nat.sub_self] at z
              rw [y, upd_eq, Option.some.inj z]
            · have z : ((bjs can ah i (bhs can ah n st h) m).2.1 ++ [a])[p]? = some x := z
              rw [upd_ne y]
              have l := (List.getElem?_eq_some_iff.mp z).1
              rw [List.length_append] at l
              have l2 : p < (bjs can ah i (bhs can ah n st h) m).2.1.length := by have : [a].length = 1 := rfl; omega
              rw [List.getElem?_append_left l2] at z
              exact hx.2.2.1 p x z
          · have ea : ah m = none := by
              cases q : ah m with
              | none => rfl
              | some v => rw [e12, enc_s q] at b84; exact absurd b84 (nI_ne (by have := g.1 m v q; have := Nat.lt_of_not_le (fun y => by have z := g.2.2 v y; rw [this.2] at z; cases z); omega)).1
            have es : bjs can ah i (bhs can ah n st h) (m + 1) = (fs (bjs can ah i (bhs can ah n st h) m).1 m i, (bjs can ah i (bhs can ah n st h) m).2.1, some m) := by rw [bjs, if_pos hf, bj, if_pos hc, ea]
            have ej := bjs_st (can := can) (ah := ah) (i := i) (s := (bhs can ah n st h)) (m := m + 1) (by rw [es]; exact fun z => by cases z) (n - (m + 1))
            rw [show m + 1 + (n - (m + 1)) = n by omega] at ej
            have eh : bhs can ah n st (h + 1) = (fs (bjs can ah i (bhs can ah n st h) m).1 m i, (bjs can ah i (bhs can ah n st h) m).2.1, some m) := by rw [bhs, if_pos hf0, hqi]; exact ej.trans es
            have en := bhs_st (can := can) (ah := ah) (n := n) (st := st) (h := h + 1) (Or.inl (by rw [eh]; exact fun z => by cases z)) (n - (h + 1))
            rw [show h + 1 + (n - (h + 1)) = n by omega, eh] at en
            refine Bd_iload_6 (pc := 87) dX1_findFree_87 ?_
            refine Bd_iret (pc := 89) dX1_findFree_89 rfl ?_
            exact ⟨_, rfl, rfl, by rw [en]; rfl, by rw [en]; exact ⟨fun q q1 q2 => by rw [updM_ne q1]; exact hx.1 q q1 q2, FR_w hx⟩⟩
      · have em : n = m := by omega
        subst em
        refine Bd_iload_6 (pc := 32) dX1_findFree_32 ?_
        refine Bd_aload_0 (pc := 34) dX1_findFree_34 ?_
        refine Bd_getI (j := 5) ck1 (pc := 35) dX1_findFree_35 k_119 rfl (Nat.le_of_ble_eq_true rfl) rfl ?_
        refine Bd_icmp_ge (t := 118) (pc := 38) dX1_findFree_38 (by decide) (fun b38 => ?_) (fun b38 => (show False from lf_x ((congrFun (hx.1 10 (by decide) (by decide)) 5).trans hsz) b38).elim)
        refine Bd_iinc_4 (pc := 118) dX1_findFree_118 (show _ + Int32.ofInt 1 = _ + 1 from rfl) (Nat.le_of_ble_eq_true rfl) rfl ?_
        refine Bd_goto (t := 14) (pc := 121) dX1_findFree_121 (by decide) ?_
        have eh : bhs can ah n st (h + 1) = bjs can ah i (bhs can ah n st h) n := by rw [bhs, if_pos hf0, hqi]
        refine Bd_nx (ih (h + 1, N, re) ⟨by show h + 1 ≤ n; omega, by rw [eh]; exact hf, by rw [eh]; exact hx⟩ (by show n + 1 - (h + 1) < n + 1 - h; omega)) ⟨rfl, rfl, rfl, congrArg (fun x => some (Value.int x)) (show nI _ = nI _ from by rw [eh]), congrArg (fun x => some (Value.int x)) (nI_succ h).symm, trivial⟩
    · refine Bd_iload_4 (pc := 14) dX1_findFree_14 ?_
      refine Bd_iload_3 (pc := 16) dX1_findFree_16 ?_
      refine Bd_icmp_ge (t := 124) (pc := 17) dX1_findFree_17 (by decide) (fun b17 => ?_) (fun b17 => (show False from b17 (nI_le hge (by omega))).elim)
      refine Bd_iconst (v := -1) (pc := 124) dX1_findFree_124 (by decide) ?_
      refine Bd_iret (pc := 125) dX1_findFree_125 rfl ?_
      have en := bhs_st (can := can) (ah := ah) (n := n) (st := st) (h := h) (Or.inr hge) (n - h)
      rw [show h + (n - h) = n by omega] at en
      exact ⟨_, rfl, rfl, by rw [en, hf0]; rfl, by rw [en]; exact ⟨hx0.1, hx0.2.1⟩⟩
  · have z : [st][p]? = some x := z
    cases p with
    | zero => have := Option.some.inj z; rw [← this]; rfl
    | succ p => simp at z
