/-! 40: twice -/
theorem gb_lhF {N : Mem} {g : Int32} (i : Nat) : ∀ n, (gb (lhF N g n) i = true ↔ ∃ t, t < n ∧ N 42 t = g ∧ gb (N 47 t) i = true)
  | 0 => by simp [lhF, gb_0]
  | n + 1 => by
    have ih := gb_lhF (N := N) (g := g) i n
    unfold lhF
    split
    · rename_i q
      rw [gb_or, Bool.or_eq_true, ih]
      constructor
      · rintro (⟨t, h1, h2⟩ | h2)
        · exact ⟨t, by omega, h2⟩
        · exact ⟨n, by omega, q, h2⟩
      · rintro ⟨t, h1, h2, h3⟩
        by_cases z : t = n
        · subst z; exact Or.inr h3
        · exact Or.inl ⟨t, by omega, h2, h3⟩
    · rename_i q
      rw [ih]
      constructor
      · rintro ⟨t, h1, h2⟩; exact ⟨t, by omega, h2⟩
      · rintro ⟨t, h1, h2, h3⟩
        by_cases z : t = n
        · subst z; exact absurd h2 q
        · exact ⟨t, by omega, h2, h3⟩
theorem tlF_no {N : Mem} {tone g : Int32} : ∀ n, n ≤ 6 → ¬ 0 ≤ tlF N tone g n → ∀ t, t < n → ¬ tlP N tone g t
  | 0, _, _, t, ht => absurd ht (Nat.not_lt_zero t)
  | n + 1, hn, h, t, ht => by
    have e : tlF N tone g (n + 1) = (if 0 ≤ tlF N tone g n then tlF N tone g n else if tlP N tone g n then nI n else -4) := rfl
    rw [e] at h
    by_cases z : 0 ≤ tlF N tone g n
    · rw [if_pos z] at h; exact absurd z h
    · rw [if_neg z] at h
      by_cases y : tlP N tone g n
      · rw [if_pos y] at h; exact absurd (nI_pos' (by omega)) h
      · by_cases x : t = n
        · rw [x]; exact y
        · exact tlF_no n (by omega) z t (by omega)
theorem tl_iff {N : Mem} {tone g : Int32} {n : Nat} (hn : n ≤ 6) : 0 ≤ tlF N tone g n ↔ ∃ t, t < n ∧ tlP N tone g t := by
  constructor
  · intro h
    rcases tlF_r (M := N) (tone := tone) (lag := g) n with q | ⟨t, t1, -, t3⟩
    · rw [q] at h; exact absurd h (by decide)
    · exact ⟨t, t1, t3⟩
  · rintro ⟨t, t1, t2⟩
    exact Classical.byContradiction (fun z => tlF_no n hn z t t1 t2)
theorem lk_iff {N : Mem} (h : WF N) {g : Int32} : lkF N g ↔ ∀ i, i < cn (N 44 8) → 0 ≤ tgF N g i := by
  have hb : ∀ j, j < cn (N 44 8) → bt (N 50 j) 0 7 := fun j hj => (h.1.2.2.2.2 j hj).2
  rw [show lkF N g ↔ ptF N (cn (N 44 8)) &&& (lhF N g (cn (N 44 6)) ^^^ -1) = 0 from Iff.rfl, gb_sub]
  constructor
  · intro q i hi
    have hc := cn_of (hb i hi)
    have hk : cn (N 50 i) < 32 := by have := hc.2.2; omega
    obtain ⟨t, t1, t2, t3⟩ := (gb_lhF _ _).mp (q _ hk ((gb_ptF _ hk _ hb).mpr ⟨i, hi, hc.1⟩))
    refine (tl_iff h.nt6).mpr ⟨t, t1, t2, fun z => ?_⟩
    rw [hc.1, gb_ask hk, t3] at z
    exact absurd z (by decide)
  · intro q i hi hx
    obtain ⟨j, j1, j2⟩ := (gb_ptF i hi _ hb).mp hx
    obtain ⟨t, t1, t2, t3⟩ := (tl_iff h.nt6).mp (q j j1)
    refine (gb_lhF _ _).mpr ⟨t, t1, t2, ?_⟩
    rw [j2] at t3
    have t3 : ¬ (N 47 t >>> (nI i &&& 31) &&& 1) = 0 := t3
    rw [gb_ask hi] at t3
    cases hg : gb (N 47 t) i with
    | true => rfl
    | false => exact absurd hg t3
abbrev lj (j : Nat) : Int32 := nI j - 200
theorem lj_i {j : Nat} (h : j ≤ 401) : (lj j).toInt = (j : Int) - 200 := by
  have e : (200 : Int32).toInt = 200 := by decide
  have := i32_sub (x := nI j) (y := 200) (by rw [nI_toInt (by omega), e]; omega) (by rw [nI_toInt (by omega), e]; omega)
  rw [this, nI_toInt (by omega), e]
theorem lj_inj {i j : Nat} (hi : i ≤ 401) (hj : j ≤ 401) : lj i = lj j ↔ i = j := by
  constructor
  · intro q
    have := congrArg Int32.toInt q
    rw [lj_i hi, lj_i hj] at this
    omega
  · intro q; rw [q]
theorem lgB {C : Mem} (h : WF C) {a b : Int32} (ha : c81 a) (hb : c81 b) {t : Nat} (ht : t < cn (C 44 6)) : bt (lgF C a b t) (-88) 88 := sbB (sdB h (h.tc ht) hb) (sdB h (h.tc ht) ha) (by decide) (by decide)
/-- the place of a tower's lag among -200 .. 200 -/
def ixL (C : Mem) (a b : Int32) (t : Nat) : Nat := (lgF C a b t).toInt.toNat + 0 + ((lgF C a b t).toInt + 200).toNat - (lgF C a b t).toInt.toNat
theorem ixL_e {C : Mem} (h : WF C) {a b : Int32} (ha : c81 a) (hb : c81 b) {t : Nat} (ht : t < cn (C 44 6)) : ixL C a b t < 401 ∧ lj (ixL C a b t) = lgF C a b t := by
  have q := lgB h ha hb ht
  obtain ⟨q1, q2⟩ := q
  have e : ixL C a b t = ((lgF C a b t).toInt + 200).toNat := by unfold ixL; omega
  have hl : ixL C a b t < 401 := by rw [e]; omega
  refine ⟨hl, Int32.toInt_inj.mp ?_⟩
  rw [lj_i (by omega), e]
  omega
section TW
/-- towers' lags as the memory N has them, which lags can be: both sides count the same -/
theorem tw_all {C N : Mem} (w : WF C) {a b : Int32} (ha : c81 a) (hb : c81 b) (h1 : ∀ q, q ≠ 42 → N q = C q) (h2 : ∀ t, t < cn (C 44 6) → N 42 t = lgF C a b t) {ok : Int32 → Bool} (hok : ∀ g, lkF N g ↔ ok g = true) : ∀ t, t ≤ cn (C 44 6) →
    (twF N t).1 = nI (ctN (fun j => ok (lj j) && (List.range t).any (fun s => decide (ixL C a b s = j))) 401) ∧
    ((∃ s, s < t ∧ ok (lgF C a b s) = true) → (∃ s, s < t ∧ ok (lgF C a b s) = true ∧ (twF N t).2.1 = lgF C a b s) ∧ (∃ s, s < t ∧ ok (lgF C a b s) = true ∧ (twF N t).2.2 = lgF C a b s) ∧ ∀ s, s < t → ok (lgF C a b s) = true → (twF N t).2.1 ≤ lgF C a b s ∧ lgF C a b s ≤ (twF N t).2.2) ∧ ((twF N t).1 = 0 ↔ ¬ ∃ s, s < t ∧ ok (lgF C a b s) = true)
  | 0, _ => by
    refine ⟨?_, fun ⟨s, hs, _⟩ => absurd hs (Nat.not_lt_zero s), ⟨fun _ ⟨s, hs, _⟩ => absurd hs (Nat.not_lt_zero s), fun _ => rfl⟩⟩
    rw [ctN_c (Q := fun _ => false) _ (fun j _ => by simp)]
    have : ∀ m, ctN (fun _ => false) m = 0 := fun m => by induction m with
      | zero => rfl
      | succ m ih => unfold ctN; rw [ih]; simp
    rw [this]; rfl
  | t + 1, ht => by
    obtain ⟨i1, i2, i3⟩ := tw_all w ha hb h1 h2 hok t (by omega)
    have et : N 42 t = lgF C a b t := h2 t (by omega)
    have ei := ixL_e w ha hb (t := t) (by omega)
    have hcl := ctN_le (fun j => ok (lj j) && (List.range t).any (fun s => decide (ixL C a b s = j))) 401
    have eS : twF N (t + 1) = (if flF N t then if lkF N (N 42 t) then ((twF N t).1 + 1, if (twF N t).1 = 0 then N 42 t else mnF (twF N t).2.1 (N 42 t), if (twF N t).1 = 0 then N 42 t else mxF (twF N t).2.2 (N 42 t)) else twF N t else twF N t) := rfl
    have eq_ix : ∀ s, s < t → (N 42 s = N 42 t ↔ ixL C a b s = ixL C a b t) := fun s hs => by
      have es := ixL_e w ha hb (t := s) (by omega)
      rw [h2 s (by omega), et, ← es.2, ← ei.2, lj_inj (by omega) (by omega)]
    by_cases hfl : flF N t
    · by_cases hk : lkF N (N 42 t)
      · have okt : ok (lgF C a b t) = true := by rw [← et]; exact (hok _).mp hk
        rw [eS, if_pos hfl, if_pos hk]
        have new : ∀ s, s < t → ¬ ixL C a b s = ixL C a b t := fun s hs z => hfl s hs ((eq_ix s hs).mpr z)
        refine ⟨?_, ?_, ?_⟩
        · show (twF N t).1 + 1 = _
          rw [i1, ← nI_succ]
          refine congrArg nI ?_
          refine (ctN_one (f := ixL C a b t) ?_ ?_ ?_ 401 ei.1).symm
          · rw [Bool.and_eq_false_iff]; right
            rw [List.any_eq_false]
            intro s hs
            simp only [decide_eq_true_eq]
            exact new s (List.mem_range.mp hs)
          · rw [ei.2, okt, Bool.true_and, List.any_eq_true]
            exact ⟨t, List.mem_range.mpr (by omega), decide_eq_true rfl⟩
          · intro j hj
            rw [List.range_succ, List.any_append]
            simp only [List.any_cons, List.any_nil, Bool.or_false, decide_eq_false (fun z => hj z.symm : ¬ ixL C a b t = j)]
        · intro _
          by_cases z : (twF N t).1 = 0
          · have no := i3.mp z
            simp only [if_pos z]
            rw [et]
            refine ⟨⟨t, by omega, okt, rfl⟩, ⟨t, by omega, okt, rfl⟩, fun s hs hso => ?_⟩
            by_cases y : s = t
            · rw [y]; exact ⟨Int32.le_refl _, Int32.le_refl _⟩
            · exact absurd ⟨s, by omega, hso⟩ no
          · have yes : ∃ s, s < t ∧ ok (lgF C a b s) = true := Classical.byContradiction (fun y => z (i3.mpr y))
            obtain ⟨⟨s1, a1, a2, a3⟩, ⟨s2, b1, b2, b3⟩, c1⟩ := i2 yes
            simp only [if_neg z]
            rw [et]
            refine ⟨?_, ?_, fun s hs hso => ?_⟩
            · unfold mnF
              split
              · exact ⟨t, by omega, okt, rfl⟩
              · exact ⟨s1, by omega, a2, a3⟩
            · unfold mxF
              split
              · exact ⟨t, by omega, okt, rfl⟩
              · exact ⟨s2, by omega, b2, b3⟩
            · have base : s = t ∨ ((twF N t).2.1 ≤ lgF C a b s ∧ lgF C a b s ≤ (twF N t).2.2) := by
                by_cases y : s = t
                · exact Or.inl y
                · exact Or.inr (c1 s (by omega) hso)
              unfold mnF mxF
              constructor
              · split
                · rename_i q
                  rcases base with rfl | y
                  · exact Int32.le_refl _
                  · exact Int32.le_trans (Int32.le_of_lt q) y.1
                · rename_i q
                  rcases base with rfl | y
                  · exact Int32.not_lt.mp q
                  · exact y.1
              · split
                · rename_i q
                  rcases base with rfl | y
                  · exact Int32.le_refl _
                  · exact Int32.le_trans y.2 (Int32.le_of_lt q)
                · rename_i q
                  rcases base with rfl | y
                  · exact Int32.not_lt.mp q
                  · exact y.2
        · show (twF N t).1 + 1 = 0 ↔ _
          rw [i1, ← nI_succ]
          exact ⟨fun z => absurd z (nI_ne0 (by omega) (by omega)), fun z => absurd ⟨t, by omega, okt⟩ z⟩
      · have nok : ok (lgF C a b t) = false := by
          cases q : ok (lgF C a b t) with
          | false => rfl
          | true => rw [← et] at q; exact absurd ((hok _).mpr q) hk
        rw [eS, if_pos hfl, if_neg hk]
        have exi : (∃ s, s < t + 1 ∧ ok (lgF C a b s) = true) ↔ ∃ s, s < t ∧ ok (lgF C a b s) = true := ⟨fun ⟨s, hs, q⟩ => ⟨s, by { have : s ≠ t := (fun y => by rw [y, nok] at q; exact absurd q (by decide)); omega }, q⟩, fun ⟨s, hs, q⟩ => ⟨s, by omega, q⟩⟩
        refine ⟨?_, ?_, by rw [exi]; exact i3⟩
        · rw [i1]
          refine congrArg nI ?_
          refine ctN_c _ (fun j hj => ?_)
          rw [List.range_succ, List.any_append]
          simp only [List.any_cons, List.any_nil, Bool.or_false]
          by_cases y : ixL C a b t = j
          · rw [← y, ei.2, nok, Bool.false_and, Bool.false_and]
          · rw [decide_eq_false y, Bool.or_false]
        · intro e
          obtain ⟨⟨s1, a1, a2, a3⟩, ⟨s2, b1, b2, b3⟩, c1⟩ := i2 (exi.mp e)
          exact ⟨⟨s1, by omega, a2, a3⟩, ⟨s2, by omega, b2, b3⟩, fun s hs q => c1 s (by { have : s ≠ t := (fun y => by rw [y, nok] at q; exact absurd q (by decide)); omega }) q⟩
    · rw [eS, if_neg hfl]
      obtain ⟨s0, hs0, e0⟩ : ∃ s, s < t ∧ N 42 s = N 42 t := Classical.byContradiction (fun y => hfl (fun s hs z => y ⟨s, hs, z⟩))
      have el0 : lgF C a b s0 = lgF C a b t := by rw [← h2 s0 (by omega), e0, et]
      have exi : (∃ s, s < t + 1 ∧ ok (lgF C a b s) = true) ↔ ∃ s, s < t ∧ ok (lgF C a b s) = true := ⟨fun ⟨s, hs, q⟩ => by
          by_cases y : s = t
          · rw [y, ← el0] at q; exact ⟨s0, hs0, q⟩
          · exact ⟨s, by omega, q⟩, fun ⟨s, hs, q⟩ => ⟨s, by omega, q⟩⟩
      refine ⟨?_, ?_, by rw [exi]; exact i3⟩
      · rw [i1]
        refine congrArg nI ?_
        refine ctN_c _ (fun j hj => ?_)
        rw [List.range_succ, List.any_append]
        simp only [List.any_cons, List.any_nil, Bool.or_false]
        by_cases y : ixL C a b t = j
        · have : (List.range t).any (fun s => decide (ixL C a b s = j)) = true := List.any_eq_true.mpr ⟨s0, List.mem_range.mpr hs0, decide_eq_true (((eq_ix s0 hs0).mp e0).trans y)⟩
          rw [this]; rfl
        · rw [decide_eq_false y, Bool.or_false]
      · intro e
        obtain ⟨⟨s1, a1, a2, a3⟩, ⟨s2, b1, b2, b3⟩, c1⟩ := i2 (exi.mp e)
        refine ⟨⟨s1, by omega, a2, a3⟩, ⟨s2, by omega, b2, b3⟩, fun s hs q => ?_⟩
        by_cases y : s = t
        · rw [y, ← el0] at q ⊢; exact c1 s0 hs0 q
        · exact c1 s (by omega) q
end TW
