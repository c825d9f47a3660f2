/-! 36: counting; the greedy match against counting -/
def ctN (P : Nat → Bool) : Nat → Nat
  | 0 => 0
  | k + 1 => ctN P k + (if P k then 1 else 0)
theorem ctN_le (P : Nat → Bool) : ∀ n, ctN P n ≤ n
  | 0 => Nat.le_refl 0
  | n + 1 => by
    have := ctN_le P n
    unfold ctN
    split <;> omega
theorem ctN_c {P Q : Nat → Bool} : ∀ n, (∀ k, k < n → P k = Q k) → ctN P n = ctN Q n
  | 0, _ => rfl
  | n + 1, h => by unfold ctN; rw [ctN_c n (fun k hk => h k (by omega)), h n (by omega)]
theorem ctN_all {P : Nat → Bool} : ∀ n, ctN P n = n → ∀ k, k < n → P k = true
  | 0, _, k, hk => absurd hk (Nat.not_lt_zero k)
  | n + 1, h, k, hk => by
    have h1 := ctN_le P n
    unfold ctN at h
    cases hP : P n with
    | false => rw [hP] at h; simp at h; omega
    | true =>
      rw [hP] at h
      simp at h
      by_cases z : k = n
      · rw [z]; exact hP
      · exact ctN_all n (by omega) k (by omega)
theorem ctN_one {P Q : Nat → Bool} {f : Nat} (hP : P f = false) (hQ : Q f = true) (ho : ∀ k, k ≠ f → Q k = P k) : ∀ n, f < n → ctN Q n = ctN P n + 1
  | 0, h => absurd h (Nat.not_lt_zero f)
  | n + 1, h => by
    unfold ctN
    by_cases z : f = n
    · subst z
      rw [hP, hQ, ctN_c (P := Q) (Q := P) f (fun k hk => ho k (by omega))]
      simp
    · rw [ctN_one hP hQ ho n (by omega), ho n (by omega)]
      split <;> omega
theorem ctN_mono {P Q : Nat → Bool} : ∀ n, (∀ k, k < n → P k = true → Q k = true) → ctN P n ≤ ctN Q n
  | 0, _ => Nat.le_refl 0
  | n + 1, h => by
    have ih := ctN_mono n (fun k hk => h k (by omega))
    unfold ctN
    cases hP : P n with
    | false => simp; split <;> omega
    | true => rw [h n (by omega) hP]; simp; exact ih
theorem ctN_ext {P : Nat → Bool} {a : Nat} : ∀ n, a ≤ n → ctN P a ≤ ctN P n
  | 0, h => by rw [Nat.le_zero.mp h]; exact Nat.le_refl _
  | n + 1, h => by
    by_cases z : a = n + 1
    · rw [z]; exact Nat.le_refl _
    · have := ctN_ext (P := P) (a := a) n (by omega)
      show ctN P a ≤ ctN P n + _
      omega
theorem ctN_or {P Q : Nat → Bool} : ∀ n, (∀ k, k < n → ¬ (P k = true ∧ Q k = true)) → ctN (fun k => P k || Q k) n = ctN P n + ctN Q n
  | 0, _ => rfl
  | n + 1, h => by
    have ih := ctN_or (P := P) (Q := Q) n (fun k hk => h k (by omega))
    have hn := h n (by omega)
    show ctN (fun k => P k || Q k) n + (if (P n || Q n) = true then 1 else 0) = ctN P n + (if P n = true then 1 else 0) + (ctN Q n + (if Q n = true then 1 else 0))
    rw [ih]
    cases hP : P n <;> cases hQ : Q n <;> simp <;> first | omega | (exact absurd ⟨hP, hQ⟩ hn)
section MATCH
variable {α : Type}
/-- all values of b are values of N, where each value of N comes as often in both -/
theorem mt_all [DecidableEq α] {N b : Nat → α} {n : Nat} (h : ∀ i, i < n → ctN (fun k => decide (N k = N i)) n = ctN (fun k => decide (b k = N i)) n) : ∀ k, k < n → ∃ i, i < n ∧ b k = N i := by
  have inS : ∀ (m : Nat) (x : α), Bool := fun m x => (List.range m).any (fun i => decide (x = N i))
  have key : ∀ m, m ≤ n → ctN (fun k => (List.range m).any (fun i => decide (b k = N i))) n = ctN (fun k => (List.range m).any (fun i => decide (N k = N i))) n := by
    intro m
    induction m with
    | zero => intro _; exact ctN_c n (fun k _ => by simp)
    | succ m ih =>
      intro hm
      have ih := ih (by omega)
      by_cases hin : ∃ i, i < m ∧ N m = N i
      · obtain ⟨i, hi, hN⟩ := hin
        have e : ∀ x : α, (List.range (m + 1)).any (fun i => decide (x = N i)) = (List.range m).any (fun i => decide (x = N i)) := by
          intro x
          rw [List.range_succ, List.any_append]
          cases q : (List.range m).any (fun i => decide (x = N i)) with
          | true => rfl
          | false =>
            simp only [List.any_cons, List.any_nil, Bool.or_false, Bool.false_or, decide_eq_false_iff_not]
            intro z
            have := List.any_eq_false.mp q i (List.mem_range.mpr hi)
            simp only [decide_eq_true_eq] at this
            exact this (z.trans hN)
        rw [ctN_c n (fun k _ => e (b k)), ctN_c n (fun k _ => e (N k))]
        exact ih
      · have e : ∀ x : α, (List.range (m + 1)).any (fun i => decide (x = N i)) = ((List.range m).any (fun i => decide (x = N i)) || decide (x = N m)) := by
          intro x
          rw [List.range_succ, List.any_append]
          simp
        have dj : ∀ x : α, ¬ ((List.range m).any (fun i => decide (x = N i)) = true ∧ decide (x = N m) = true) := by
          rintro x ⟨h1, h2⟩
          obtain ⟨i, hi, hx⟩ := List.any_eq_true.mp h1
          simp only [decide_eq_true_eq] at hx h2
          exact hin ⟨i, List.mem_range.mp hi, h2.symm.trans hx⟩
        rw [ctN_c n (fun k _ => e (b k)), ctN_c n (fun k _ => e (N k)), ctN_or n (fun k _ => dj (b k)), ctN_or n (fun k _ => dj (N k)), ih, h m (by omega)]
  have hall : ctN (fun k => (List.range n).any (fun i => decide (N k = N i))) n = n := by
    have : ∀ k, k < n → (List.range n).any (fun i => decide (N k = N i)) = true := fun k hk => List.any_eq_true.mpr ⟨k, List.mem_range.mpr hk, by simp⟩
    rw [ctN_c (Q := fun _ => true) n this]
    have : ∀ m, ctN (fun _ => true) m = m := by
      intro m
      induction m with
      | zero => rfl
      | succ m ih => unfold ctN; rw [ih]; simp
    exact this n
  have hb := key n (Nat.le_refl n)
  rw [hall] at hb
  intro k hk
  have := ctN_all n hb k hk
  obtain ⟨i, hi, hx⟩ := List.any_eq_true.mp this
  simp only [decide_eq_true_eq] at hx
  exact ⟨i, List.mem_range.mp hi, hx⟩
end MATCH
theorem fnV_no {M : Mem} {tk b n : Int32} : ∀ i, ¬ 0 ≤ fnV M tk b n i → i ≤ 12 → ∀ j, j < i → ¬ mtF M tk b n j
  | 0, _, _, j, hj => absurd hj (Nat.not_lt_zero j)
  | i + 1, h, hi, j, hj => by
    have e : fnV M tk b n (i + 1) = (if 0 ≤ fnV M tk b n i then fnV M tk b n i else if mtF M tk b n i then nI i else -4) := rfl
    rw [e] at h
    by_cases z : 0 ≤ fnV M tk b n i
    · rw [if_pos z] at h; exact absurd z h
    · rw [if_neg z] at h
      by_cases y : mtF M tk b n i
      · rw [if_pos y] at h; exact absurd (nI_pos' (by omega)) h
      · by_cases x : j = i
        · rw [x]; exact y
        · exact fnV_no i z (by omega) j (by omega)
abbrev nvF (C : Mem) (j : Nat) : Int32 × Int32 := (C 49 j, C 50 j)
abbrev bvF (C : Mem) (c l : Int32) (k : Nat) : Int32 × Int32 := (cmF C k c - l, C 8 k)
theorem mt_gb {C : Mem} {tk b n : Int32} {j : Nat} (hj : j < 32) : mtF C tk b n j ↔ gb tk j = false ∧ nvF C j = (b, n) := by
  unfold mtF
  rw [gb_ask hj, Prod.mk.injEq]
/-- the match so far: each value is taken as often as it came -/
theorem tr_inv {C : Mem} {c l : Int32} (n12 : cn (C 44 8) ≤ 12) : ∀ k tk, trF C c l k = some tk → (∀ v, ctN (fun j => gb tk j && decide (nvF C j = v)) (cn (C 44 8)) = ctN (fun q => decide (bvF C c l q = v)) k) ∧ ctN (fun j => gb tk j) (cn (C 44 8)) = k
  | 0, tk, h => by
    cases h
    refine ⟨fun v => ?_, ?_⟩
    · rw [ctN_c (Q := fun _ => false) _ (fun j _ => by rw [gb_0]; rfl)]
      have : ∀ m, ctN (fun _ => false) m = 0 := fun m => by induction m with
        | zero => rfl
        | succ m ih => unfold ctN; rw [ih]; simp
      exact this _
    · rw [ctN_c (Q := fun _ => false) _ (fun j _ => by rw [gb_0])]
      have : ∀ m, ctN (fun _ => false) m = 0 := fun m => by induction m with
        | zero => rfl
        | succ m ih => unfold ctN; rw [ih]; simp
      exact this _
  | k + 1, tk, h => by
    have e : trF C c l (k + 1) = (match trF C c l k with | none => none | some tk => if 0 ≤ fnV C tk (cmF C k c - l) (C 8 k) (cn (C 44 8)) then some (tk ||| (1 <<< (fnV C tk (cmF C k c - l) (C 8 k) (cn (C 44 8)) &&& 31))) else none) := rfl
    rw [e] at h
    cases h0 : trF C c l k with
    | none => rw [h0] at h; cases h
    | some t0 =>
      rw [h0] at h
      simp only at h
      split at h
      · rename_i hf
        cases h
        obtain ⟨ih1, ih2⟩ := tr_inv n12 k t0 h0
        rcases fnV_r (M := C) (tk := t0) (b := cmF C k c - l) (n := C 8 k) (cn (C 44 8)) with q | ⟨f, f1, f2, f3⟩
        · rw [q] at hf; exact absurd hf (by decide)
        · rw [f2]
          have g := (mt_gb (by omega)).mp f3
          have eb : ∀ j, j < 32 → gb (t0 ||| (1 <<< (nI f &&& 31))) j = (gb t0 j || decide (j = f)) := fun j hj => by rw [gb_or, gb_1s f (by omega) j hj]
          refine ⟨fun v => ?_, ?_⟩
          · show _ = ctN _ k + (if decide (bvF C c l k = v) = true then 1 else 0)
            rw [ctN_c (Q := fun j => (gb t0 j || decide (j = f)) && decide (nvF C j = v)) _ (fun j hj => by rw [eb j (by omega)]), ← ih1 v]
            by_cases hv : bvF C c l k = v
            · rw [if_pos (decide_eq_true hv)]
              refine ctN_one (f := f) (by rw [g.1]; rfl) (by rw [decide_eq_true rfl, Bool.or_true, Bool.true_and]; exact decide_eq_true (g.2.trans hv)) (fun j hj => by rw [decide_eq_false hj, Bool.or_false]) _ f1
            · rw [if_neg (by rw [decide_eq_false hv]; decide)]
              refine ctN_c _ (fun j hj => ?_)
              by_cases z : j = f
              · subst z
                have : ¬ nvF C j = v := fun y => hv (g.2.symm.trans y)
                rw [decide_eq_false this, Bool.and_false, Bool.and_false]
              · rw [decide_eq_false z, Bool.or_false]
          · rw [ctN_c (Q := fun j => gb t0 j || decide (j = f)) _ (fun j hj => eb j (by omega)), ← ih2]
            exact (ctN_one (P := fun j => gb t0 j) (Q := fun j => gb t0 j || decide (j = f)) (f := f) g.1 (by rw [decide_eq_true rfl, Bool.or_true]) (fun j hj => by rw [decide_eq_false hj, Bool.or_false]) _ f1).trans (by rw [ih2])
      · cases h
theorem tr_ok {C : Mem} {c l : Int32} (n12 : cn (C 44 8) ≤ 12) (h : ∀ i, i < cn (C 44 8) → ctN (fun k => decide (nvF C k = nvF C i)) (cn (C 44 8)) = ctN (fun k => decide (bvF C c l k = nvF C i)) (cn (C 44 8))) : ∀ k, k ≤ cn (C 44 8) → ¬ trF C c l k = none
  | 0, _ => by simp [trF]
  | k + 1, hk => by
    obtain ⟨t0, h0⟩ := Option.ne_none_iff_exists'.mp (tr_ok n12 h k (by omega))
    have e : trF C c l (k + 1) = (match trF C c l k with | none => none | some tk => if 0 ≤ fnV C tk (cmF C k c - l) (C 8 k) (cn (C 44 8)) then some (tk ||| (1 <<< (fnV C tk (cmF C k c - l) (C 8 k) (cn (C 44 8)) &&& 31))) else none) := rfl
    rw [e, h0]
    simp only
    by_cases hf : 0 ≤ fnV C t0 (cmF C k c - l) (C 8 k) (cn (C 44 8))
    · rw [if_pos hf]; exact fun q => by cases q
    · exfalso
      have hno := fnV_no _ hf n12
      obtain ⟨i, hi, hv⟩ := mt_all h k (by omega)
      have ih := (tr_inv n12 k t0 h0).1 (nvF C i)
      have hall : ctN (fun j => gb t0 j && decide (nvF C j = nvF C i)) (cn (C 44 8)) = ctN (fun j => decide (nvF C j = nvF C i)) (cn (C 44 8)) := ctN_c _ (fun j hj => by
        by_cases z : nvF C j = nvF C i
        · have := hno j hj
          rw [mt_gb (by omega)] at this
          cases hg : gb t0 j with
          | true => rfl
          | false => exact absurd ⟨hg, z.trans hv.symm⟩ this
        · rw [decide_eq_false z, Bool.and_false])
      have hle := ctN_ext (P := fun q => decide (bvF C c l q = nvF C i)) (a := k + 1) (cn (C 44 8)) hk
      have hs : ctN (fun q => decide (bvF C c l q = nvF C i)) (k + 1) = ctN (fun q => decide (bvF C c l q = nvF C i)) k + 1 := by
        show _ + (if decide (bvF C c l k = nvF C i) = true then 1 else 0) = _
        rw [if_pos (decide_eq_true hv)]
      have := h i hi
      omega
/-- THE PSALM is right: the greedy match goes through just where each note comes as often as it must -/
theorem tr_iff {C : Mem} {c l : Int32} (n12 : cn (C 44 8) ≤ 12) : ¬ trF C c l (cn (C 44 8)) = none ↔ ∀ i, i < cn (C 44 8) → ctN (fun k => decide (nvF C k = nvF C i)) (cn (C 44 8)) = ctN (fun k => decide (bvF C c l k = nvF C i)) (cn (C 44 8)) := by
  constructor
  · intro h i hi
    obtain ⟨tk, h0⟩ := Option.ne_none_iff_exists'.mp h
    obtain ⟨h1, h2⟩ := tr_inv n12 _ tk h0
    have ha := ctN_all _ h2
    rw [← h1 (nvF C i)]
    exact ctN_c _ (fun j hj => by rw [ha j hj, Bool.true_and])
  · exact fun h => tr_ok n12 h _ (Nat.le_refl _)
