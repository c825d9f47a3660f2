/-! 61: men: the path step by step; the whole matching is sound -/
/-- on the path: j is to be given i; i stands at place p of the queue -/
def TP (n st : Nat) (bh : OM) (s : BS) (p j i : Nat) (ah' bh' : OM) : Prop := (s.1 j = some i ∧ s.2.1[p]? = some i) ∧ (∀ q x, q ≤ p → s.2.1[q]? = some x → bh' x = bh x) ∧ (∀ i' j', bh' i' = some j' → j' ≠ j ∧ ah' j' = some i') ∧ (∀ j' i', ah' j' = some i' → j' ≠ j → j' < n ∧ bh' i' = some j') ∧ ∀ i, st + 1 ≤ i → bh' i = none
theorem TP_s {n st : Nat} {ah bh : OM} (g : GD3 n st ah bh) {s : BS} (b : BI n st ah s) {p j i j2 : Nat} {ah' bh' : OM} (h : TP n st bh s p j i ah' bh') (eb : bh' i = some j2) : ∃ i3 p3, p3 < p ∧ TP n st bh s p3 j2 i3 (fs ah' j i) (fs bh' i j) := by
  obtain ⟨⟨hw, hq⟩, h1, h2, h3, h4⟩ := h
  have hj := (b.2.2.2.2.1 j i hw).1
  have hist : i ≤ st := b.2.1 i (List.mem_of_getElem? hq)
  have eo : bh i = some j2 := by rw [← h1 p i (Nat.le_refl _) hq]; exact eb
  have p0 : 0 < p := Nat.pos_of_ne_zero (fun z => by
    rw [z, b.2.2.1] at hq
    have := g.2.2 i (by rw [Option.some.inj hq]; exact Nat.le_refl _)
    rw [eo] at this
    cases this)
  obtain ⟨j3, i3, p3, c1, c2, c3, c4⟩ := b.2.2.2.1 p i p0 hq
  have e3 : j3 = j2 := by
    have := (g.1 j3 i c1).2
    rw [eo] at this
    exact (Option.some.inj this).symm
  rw [e3] at c2
  have h2i := h2 i j2 eb
  refine ⟨i3, p3, c4, ⟨c2, c3⟩, fun q x hq2 hx => ?_, fun i' j' z => ?_, fun j' i' z y2 => ?_, fun x hx => by rw [fs_n (by omega)]; exact h4 x hx⟩
  · have : x ≠ i := fun w => by
      rw [w] at hx
      have l1 := (List.getElem?_eq_some_iff.mp hx).1
      have := (List.getElem?_inj l1 b.1).mp (hx.trans hq.symm)
      omega
    rw [fs_n this]
    exact h1 q x (by omega) hx
  · by_cases y : i' = i
    · rw [y, fs_e] at z
      have z := Option.some.inj z
      rw [← z, y]
      exact ⟨fun w => h2i.1 w.symm, fs_e⟩
    · rw [fs_n y] at z
      obtain ⟨d1, d2⟩ := h2 i' j' z
      refine ⟨fun w => ?_, by rw [fs_n d1]; exact d2⟩
      rw [w, h2i.2] at d2
      exact y (Option.some.inj d2).symm
  · by_cases y : j' = j
    · rw [y, fs_e] at z
      rw [← Option.some.inj z, y]
      exact ⟨hj, fs_e⟩
    · rw [fs_n y] at z
      obtain ⟨d1, d2⟩ := h3 j' i' z y
      exact ⟨d1, by rw [fs_n (fun w => by rw [w, eb] at d2; exact y2 (Option.some.inj d2).symm)]; exact d2⟩
theorem TP_0 {n st : Nat} {ah bh : OM} (g : GD3 n st ah bh) {s : BS} (b : BI n st ah s) {j : Nat} (h : s.2.2 = some j) : ∃ i p, p < st + 1 ∧ TP n st bh s p j i ah bh := by
  obtain ⟨a, i, hi⟩ := b.2.2.2.2.2 j h
  obtain ⟨hj, p, hp⟩ := b.2.2.2.2.1 j i hi
  have hl := b.len
  have hpl := (List.getElem?_eq_some_iff.mp hp).1
  refine ⟨i, p, by omega, ⟨hi, hp⟩, fun _ _ _ _ => rfl, fun i' j' z => ⟨fun w => ?_, g.2.1 i' j' z⟩, fun j' i' z _ => g.1 j' i' z, fun x hx => g.2.2 x (by omega)⟩
  have := g.2.1 i' j' z
  rw [w, a] at this
  cases this
theorem tu_s {wh ah bh : OM} {k j i : Nat} (h : wh j = some i) : tu wh (k + 1) (some j) ah bh = tu wh k (bh i) (fs ah j i) (fs bh i j) := by
  show (match wh j with | none => (ah, bh) | some i => tu wh k (bh i) (fs ah j i) (fs bh i j)) = _
  rw [h]
theorem tu_n {wh ah bh : OM} {k : Nat} : tu wh k none ah bh = (ah, bh) := by cases k <;> rfl
theorem mt_ok {can : Nat → Nat → Bool} {n : Nat} : ∀ s, s ≤ n → GD3 n s (mt can n s).1 (mt can n s).2.1
  | 0, _ => ⟨fun j i z => (by cases z), fun i j z => (by cases z), fun _ _ => rfl⟩
  | s + 1, hs => by
    have g := mt_ok (can := can) (n := n) s (by omega)
    have b := BI_hs (can := can) g n
    unfold mt
    cases e : (bhs can (mt can n s).1 n s n).2.2 with
    | none => exact ⟨g.1, g.2.1, fun i hi => g.2.2 i (by omega)⟩
    | some j =>
      obtain ⟨i, p, hp, ⟨a1, a2⟩, a3, a4, a5, a6⟩ := TP_0 g b e
      exact tu_ok g b p n (by omega) j i _ _ a1 a2 a3 a4 a5 a6
def menF (C : Mem) (n : Nat) : Nat := (mt (fun i j => decide (crF C i j)) n n).2.2
def enc (e : Int32) (f : OM) (j : Nat) : Int32 := match f j with
  | none => e
  | some i => nI i
theorem enc_n {e : Int32} {f : OM} {j : Nat} (h : f j = none) : enc e f j = e := by unfold enc; rw [h]
theorem enc_s {e : Int32} {f : OM} {j i : Nat} (h : f j = some i) : enc e f j = nI i := by unfold enc; rw [h]
theorem enc_fs {e : Int32} {f : OM} {k v : Nat} {g : Nat → Int32} {n : Nat} (h : ∀ j, j < n → g j = enc e f j) : ∀ j, j < n → upd g k (nI v) j = enc e (fs f k v) j := fun j hj => by
  by_cases z : j = k
  · rw [z, upd_eq, enc_s fs_e]
  · rw [upd_ne z, h j hj]; unfold enc; rw [fs_n z]
