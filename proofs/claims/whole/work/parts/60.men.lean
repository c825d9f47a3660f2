/-! 60: men: the matching, as both sides run it -/
abbrev OM := Nat → Option Nat
def fs (f : OM) (k v : Nat) : OM := fun x => if x = k then some v else f x
theorem fs_e {f : OM} {k v : Nat} : fs f k v k = some v := if_pos rfl
theorem fs_n {f : OM} {k v x : Nat} (h : x ≠ k) : fs f k v x = f x := if_neg h
/-- whence, queue, found -/
abbrev BS := OM × List Nat × Option Nat
def bj (can : Nat → Nat → Bool) (ah : OM) (i j : Nat) (s : BS) : BS :=
  if can i j = true ∧ s.1 j = none then
    match ah j with
    | none => (fs s.1 j i, s.2.1, some j)
    | some a => (fs s.1 j i, s.2.1 ++ [a], none)
  else s
def bjs (can : Nat → Nat → Bool) (ah : OM) (i : Nat) (s : BS) : Nat → BS
  | 0 => s
  | m + 1 => if (bjs can ah i s m).2.2 = none then bj can ah i m (bjs can ah i s m) else bjs can ah i s m
def bhs (can : Nat → Nat → Bool) (ah : OM) (n st : Nat) : Nat → BS
  | 0 => (fun _ => none, [st], none)
  | h + 1 => if (bhs can ah n st h).2.2 = none then
      match (bhs can ah n st h).2.1[h]? with
      | none => bhs can ah n st h
      | some i => bjs can ah i (bhs can ah n st h) n
    else bhs can ah n st h
/-- the path is turned -/
def tu (wh : OM) : Nat → Option Nat → OM → OM → OM × OM
  | 0, _, ah, bh => (ah, bh)
  | _ + 1, none, ah, bh => (ah, bh)
  | k + 1, some j, ah, bh => match wh j with
    | none => (ah, bh)
    | some i => tu wh k (bh i) (fs ah j i) (fs bh i j)
/-- ahead, behind, how many pairs -/
def mt (can : Nat → Nat → Bool) (n : Nat) : Nat → OM × OM × Nat
  | 0 => (fun _ => none, fun _ => none, 0)
  | s + 1 => match (bhs can (mt can n s).1 n s n).2.2 with
    | none => mt can n s
    | some j => ((tu (bhs can (mt can n s).1 n s n).1 n (some j) (mt can n s).1 (mt can n s).2.1).1, (tu (bhs can (mt can n s).1 n s n).1 n (some j) (mt can n s).1 (mt can n s).2.1).2, (mt can n s).2.2 + 1)
theorem nd_len : ∀ (n : Nat) (l : List Nat), l.Nodup → (∀ x, x ∈ l → x < n) → l.length ≤ n
  | 0, l, _, h => by
    cases l with
    | nil => exact Nat.le_refl _
    | cons a r => exact absurd (h a (List.mem_cons_self ..)) (Nat.not_lt_zero a)
  | n + 1, l, hn, h => by
    by_cases q : n ∈ l
    · have e := List.length_erase_of_mem q
      have ih := nd_len n (l.erase n) (hn.erase n) (fun x hx => by
        have h1 := (hn.mem_erase_iff).mp hx
        have := h x h1.2
        have := h1.1
        omega)
      omega
    · have ih := nd_len n l hn (fun x hx => by
        have := h x hx
        have : x ≠ n := fun z => q (z ▸ hx)
        omega)
      omega
/-- the pairs are pairs, on both sides; those from s on have none behind -/
def GD3 (n s : Nat) (ah bh : OM) : Prop := (∀ j i, ah j = some i → j < n ∧ bh i = some j) ∧ (∀ i j, bh i = some j → ah j = some i) ∧ ∀ i, s ≤ i → bh i = none
/-- what the search holds: st is the start -/
def BI (n st : Nat) (ah : OM) (s : BS) : Prop := s.2.1.Nodup ∧ (∀ x, x ∈ s.2.1 → x ≤ st) ∧ s.2.1[0]? = some st ∧ (∀ (p x : Nat), 0 < p → s.2.1[p]? = some x → ∃ j i p', ah j = some x ∧ s.1 j = some i ∧ s.2.1[p']? = some i ∧ p' < p) ∧ (∀ j i, s.1 j = some i → j < n ∧ ∃ p : Nat, s.2.1[p]? = some i) ∧ ∀ j, s.2.2 = some j → ah j = none ∧ ∃ i, s.1 j = some i
theorem BI_0 {n st : Nat} {ah : OM} : BI n st ah (fun _ => none, [st], none) := by
  refine ⟨by simp, fun x hx => ?_, rfl, fun p x hp hx => ?_, fun j i h => (by cases h), fun j h => (by cases h)⟩
  · have : x = st := by simpa using hx
    omega
  · cases p with
    | zero => omega
    | succ p => simp at hx
theorem BI_j {can : Nat → Nat → Bool} {n st : Nat} {ah bh : OM} (g : GD3 n st ah bh) {s : BS} (h : BI n st ah s) (h0 : s.2.2 = none) {i j p : Nat} (hi : s.2.1[p]? = some i) (hj : j < n) : BI n st ah (bj can ah i j s) := by
  obtain ⟨b1, b2, b3, b4, b5, b6⟩ := h
  unfold bj
  split
  · rename_i hc
    have hw : ∀ x y, s.1 x = some y → fs s.1 j i x = some y := fun x y z => by
      rw [fs_n (fun e => by rw [e, hc.2] at z; cases z)]; exact z
    cases ea : ah j with
    | none =>
      refine ⟨b1, b2, b3, fun p x hp hx => ?_, fun j' i' z => ?_, fun j' z => ?_⟩
      · obtain ⟨j1, i1, p1, c1, c2, c3⟩ := b4 p x hp hx
        exact ⟨j1, i1, p1, c1, hw _ _ c2, c3⟩
      · by_cases e : j' = j
        · have z : fs s.1 j i j' = some i' := z
          rw [e, fs_e] at z
          exact ⟨by omega, p, by rw [hi, z]⟩
        · have z : fs s.1 j i j' = some i' := z
          rw [fs_n e] at z; exact b5 j' i' z
      · have z : some j = some j' := z
        have z := Option.some.inj z
        rw [← z]
        exact ⟨ea, i, fs_e⟩
    | some a =>
      have ga := g.1 j a ea
      have ast : a < st := Nat.lt_of_not_le (fun z => by have := g.2.2 a z; rw [ga.2] at this; cases this)
      have anq : ¬ a ∈ s.2.1 := fun z => by
        obtain ⟨p1, hp1⟩ := List.getElem?_of_mem z
        rcases Nat.eq_zero_or_pos p1 with y | y
        · rw [y, b3] at hp1
          have := Option.some.inj hp1
          omega
        · obtain ⟨j1, i1, p2, c1, c2, -⟩ := b4 p1 a y hp1
          have e := (g.1 j1 a c1).2
          rw [ga.2] at e
          have e := Option.some.inj e
          rw [← e, hc.2] at c2
          cases c2
      have lift : ∀ (p x : Nat), s.2.1[p]? = some x → (s.2.1 ++ [a])[p]? = some x := fun p x z => by
        have hp := (List.getElem?_eq_some_iff.mp z).1
        rw [List.getElem?_append_left hp]; exact z
      refine ⟨?_, fun x hx => ?_, lift 0 _ b3, fun p' x hp hx => ?_, fun j' i' z => ?_, fun j' z => (by cases z)⟩
      · show (s.2.1 ++ [a]).Nodup
        rw [List.nodup_append]
        refine ⟨b1, by simp, fun x hx y hy => ?_⟩
        have : y = a := by simpa using hy
        rw [this]
        exact fun z => anq (z ▸ hx)
      · have hx : x ∈ s.2.1 ++ [a] := hx
        rcases List.mem_append.mp hx with z | z
        · exact b2 x z
        · have : x = a := by simpa using z
          omega
      · have hx : (s.2.1 ++ [a])[p']? = some x := hx
        rcases Nat.lt_or_ge p' s.2.1.length with y | y
        · rw [List.getElem?_append_left y] at hx
          obtain ⟨j1, i1, p1, c1, c2, c3, c4⟩ := b4 p' x hp hx
          exact ⟨j1, i1, p1, c1, hw _ _ c2, lift _ _ c3, c4⟩
        · rw [List.getElem?_append_right y] at hx
          have hpl := (List.getElem?_eq_some_iff.mp hi).1
          have e0 : p' - s.2.1.length = 0 := by
            have := (List.getElem?_eq_some_iff.mp hx).1
            simp at this
            omega
          rw [e0] at hx
          have ex : a = x := by simpa using hx
          exact ⟨j, i, p, by rw [ea, ex], fs_e, lift _ _ hi, by omega⟩
      · have z : fs s.1 j i j' = some i' := z
        by_cases e : j' = j
        · rw [e, fs_e] at z
          exact ⟨by omega, p, lift _ _ (by rw [hi, z])⟩
        · rw [fs_n e] at z
          obtain ⟨c1, p1, c2⟩ := b5 j' i' z
          exact ⟨c1, p1, lift _ _ c2⟩
  · exact ⟨b1, b2, b3, b4, b5, b6⟩
/-- the queue only grows -/
theorem bj_q {can : Nat → Nat → Bool} {ah : OM} {i j : Nat} {s : BS} {p x : Nat} (h : s.2.1[p]? = some x) : (bj can ah i j s).2.1[p]? = some x := by
  unfold bj
  split
  · cases ah j with
    | none => exact h
    | some a =>
      show (s.2.1 ++ [a])[p]? = some x
      rw [List.getElem?_append_left (List.getElem?_eq_some_iff.mp h).1]; exact h
  · exact h
theorem bjs_q {can : Nat → Nat → Bool} {ah : OM} {i : Nat} {s : BS} {p x : Nat} (h : s.2.1[p]? = some x) : ∀ m, (bjs can ah i s m).2.1[p]? = some x
  | 0 => h
  | m + 1 => by
    have ih := bjs_q (can := can) (ah := ah) (i := i) h m
    unfold bjs
    split
    · exact bj_q ih
    · exact ih
theorem BI_js {can : Nat → Nat → Bool} {n st : Nat} {ah bh : OM} (g : GD3 n st ah bh) {s : BS} (h : BI n st ah s) {i p : Nat} (hi : s.2.1[p]? = some i) : ∀ m, m ≤ n → BI n st ah (bjs can ah i s m)
  | 0, _ => h
  | m + 1, hm => by
    have ih := BI_js (can := can) g h hi m (by omega)
    unfold bjs
    split
    · rename_i z; exact BI_j g ih z (bjs_q hi m) (by omega)
    · exact ih
theorem BI_hs {can : Nat → Nat → Bool} {n st : Nat} {ah bh : OM} (g : GD3 n st ah bh) : ∀ h, BI n st ah (bhs can ah n st h)
  | 0 => BI_0
  | h + 1 => by
    have ih := BI_hs (can := can) g h
    unfold bhs
    split
    · cases e : (bhs can ah n st h).2.1[h]? with
      | none => exact ih
      | some i => exact BI_js g ih e n (Nat.le_refl _)
    · exact ih
theorem BI.len {n st : Nat} {ah : OM} {s : BS} (h : BI n st ah s) : s.2.1.length ≤ st + 1 := nd_len (st + 1) s.2.1 h.1 (fun x hx => Nat.lt_succ_of_le (h.2.1 x hx))
/-- half way along a path -/
theorem tu_ok {n st : Nat} {ah bh : OM} (g : GD3 n st ah bh) {s : BS} (b : BI n st ah s) : ∀ (p k : Nat), p < k → ∀ (j i : Nat) (ah' bh' : OM), s.1 j = some i → s.2.1[p]? = some i → (∀ q x, q ≤ p → s.2.1[q]? = some x → bh' x = bh x) → (∀ i' j', bh' i' = some j' → j' ≠ j ∧ ah' j' = some i') → (∀ j' i', ah' j' = some i' → j' ≠ j → j' < n ∧ bh' i' = some j') → (∀ i, st + 1 ≤ i → bh' i = none) → GD3 n (st + 1) (tu s.1 k (some j) ah' bh').1 (tu s.1 k (some j) ah' bh').2 := by
  intro p
  induction p using Nat.strongRecOn with
  | ind p ih =>
    intro k hk j i ah' bh' hw hq h1 h2 h3 h4
    cases k with
    | zero => omega
    | succ k =>
      have hj := (b.2.2.2.2.1 j i hw).1
      have hist : i ≤ st := b.2.1 i (List.mem_of_getElem? hq)
      have e : tu s.1 (k + 1) (some j) ah' bh' = tu s.1 k (bh' i) (fs ah' j i) (fs bh' i j) := by
        show (match s.1 j with | none => (ah', bh') | some i => tu s.1 k (bh' i) (fs ah' j i) (fs bh' i j)) = _
        rw [hw]
      rw [e]
      have h4' : ∀ x, st + 1 ≤ x → fs bh' i j x = none := fun x hx => by rw [fs_n (by omega)]; exact h4 x hx
      cases eb : bh' i with
      | none =>
        have e2 : tu s.1 k none (fs ah' j i) (fs bh' i j) = (fs ah' j i, fs bh' i j) := by cases k <;> rfl
        rw [e2]
        refine ⟨fun j' i' z => ?_, fun i' j' z => ?_, h4'⟩
        · have z : fs ah' j i j' = some i' := z
          by_cases y : j' = j
          · rw [y, fs_e] at z
            rw [← Option.some.inj z, y]
            exact ⟨hj, fs_e⟩
          · rw [fs_n y] at z
            obtain ⟨c1, c2⟩ := h3 j' i' z y
            exact ⟨c1, by show fs bh' i j i' = _; rw [fs_n (fun w => by rw [w, eb] at c2; cases c2)]; exact c2⟩
        · have z : fs bh' i j i' = some j' := z
          by_cases y : i' = i
          · rw [y, fs_e] at z
            rw [← Option.some.inj z, y]
            exact fs_e
          · rw [fs_n y] at z
            obtain ⟨c1, c2⟩ := h2 i' j' z
            show fs ah' j i j' = _
            rw [fs_n c1]; exact c2
      | some j2 =>
        have eo : bh i = some j2 := by rw [← h1 p i (Nat.le_refl _) hq]; exact eb
        have p0 : 0 < p := Nat.pos_of_ne_zero (fun z => by
          rw [z, b.2.2.1] at hq
          have := g.2.2 i (by rw [Option.some.inj hq]; exact Nat.le_refl _)
          rw [eo] at this
          cases this)
        obtain ⟨j3, i3, p3, c1, c2, c3, c4⟩ := b.2.2.2.1 p i p0 hq
        have e3 : j3 = j2 := by
          have := (g.1 j3 i c1).2
          rw [eo] at this
          exact (Option.some.inj this).symm
        rw [e3] at c2
        have h2i := h2 i j2 eb
        refine ih p3 c4 k (by omega) j2 i3 _ _ c2 c3 (fun q x hq2 hx => ?_) (fun i' j' z => ?_) (fun j' i' z y2 => ?_) h4'
        · have : x ≠ i := fun w => by
            rw [w] at hx
            have l1 := (List.getElem?_eq_some_iff.mp hx).1
            have := (List.getElem?_inj l1 b.1).mp (hx.trans hq.symm)
            omega
          rw [fs_n this]
          exact h1 q x (by omega) hx
        · by_cases y : i' = i
          · rw [y, fs_e] at z
            have z := Option.some.inj z
            rw [← z, y]
            exact ⟨fun w => h2i.1 w.symm, fs_e⟩
          · rw [fs_n y] at z
            obtain ⟨d1, d2⟩ := h2 i' j' z
            refine ⟨fun w => ?_, by rw [fs_n d1]; exact d2⟩
            rw [w, h2i.2] at d2
            exact y (Option.some.inj d2).symm
        · by_cases y : j' = j
          · rw [y, fs_e] at z
            rw [← Option.some.inj z, y]
            exact ⟨hj, fs_e⟩
          · rw [fs_n y] at z
            obtain ⟨d1, d2⟩ := h3 j' i' z y
            exact ⟨d1, by rw [fs_n (fun w => by rw [w, eb] at d2; exact y2 (Option.some.inj d2).symm)]; exact d2⟩
