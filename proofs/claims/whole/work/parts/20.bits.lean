/-! 20: bits (the first rows began as kit/laws/BITS, under another name) -/
def gb (x : Int32) (i : Nat) : Bool := x.toBitVec.getLsbD i
theorem gb_ext {x y : Int32} (h : ∀ i, i < 32 → gb x i = gb y i) : x = y := Int32.toBitVec_inj.mp (BitVec.eq_of_getLsbD_eq (fun i hi => h i hi))
theorem gb_or (x y : Int32) (i : Nat) : gb (x ||| y) i = (gb x i || gb y i) := by unfold gb; rw [Int32.toBitVec_or, BitVec.getLsbD_or]
theorem gb_and (x y : Int32) (i : Nat) : gb (x &&& y) i = (gb x i && gb y i) := by unfold gb; rw [Int32.toBitVec_and, BitVec.getLsbD_and]
theorem gb_xor (x y : Int32) (i : Nat) : gb (x ^^^ y) i = (gb x i ^^ gb y i) := by unfold gb; rw [Int32.toBitVec_xor, BitVec.getLsbD_xor]
theorem gb_0 (i : Nat) : gb 0 i = false := BitVec.getLsbD_zero
theorem gb_m1 : ∀ i, i < 32 → gb (-1) i = true := by decide +kernel
theorem gs_l : ∀ n, n < 32 → ((nI n &&& 31).toBitVec.smod 32).toNat = n := by decide +kernel
theorem gb_1s : ∀ k, k < 32 → ∀ i, i < 32 → gb ((1 : Int32) <<< (nI k &&& 31)) i = decide (i = k) := by decide +kernel
theorem gb_1 : ∀ i, i < 32 → gb 1 i = decide (i = 0) := by decide +kernel
theorem gb_sshr (n : Nat) (hn : n < 32) (x : Int32) {i : Nat} (hi : i < 32) : gb (x >>> (nI n &&& 31)) i = if n + i < 32 then gb x (n + i) else gb x 31 := by
  unfold gb
  rw [Int32.toBitVec_shiftRight]
  show (x.toBitVec.sshiftRight ((nI n &&& 31).toBitVec.smod 32).toNat).getLsbD i = _
  rw [gs_l n hn, BitVec.getLsbD_sshiftRight, BitVec.msb_eq_getLsbD_last]
  have h1 : decide (32 ≤ i) = false := by simp; omega
  simp [h1]
theorem gb_z {x : Int32} : x = 0 ↔ ∀ i, i < 32 → gb x i = false := ⟨fun h i _ => by rw [h]; exact gb_0 i, fun h => gb_ext (fun i hi => by rw [h i hi, gb_0])⟩
/-- the bit k of x, as the code asks it -/
theorem gb_ask {x : Int32} {k : Nat} (hk : k < 32) : (x >>> (nI k &&& 31) &&& 1) = 0 ↔ gb x k = false := by
  rw [gb_z]
  constructor
  · intro h
    have := h 0 (by decide)
    rw [gb_and, gb_1 0 (by decide), gb_sshr k hk x (by decide)] at this
    simpa [hk] using this
  · intro h i hi
    rw [gb_and, gb_1 i hi]
    by_cases z : i = 0
    · subst z
      rw [gb_sshr k hk x (by decide)]
      simp [hk, h]
    · simp [z]
/-- x has no bit that m lacks -/
theorem gb_sub {x m : Int32} : x &&& (m ^^^ -1) = 0 ↔ ∀ i, i < 32 → gb x i = true → gb m i = true := by
  rw [gb_z]
  constructor
  · intro h i hi hx
    have := h i hi
    rw [gb_and, gb_xor, gb_m1 i hi, hx] at this
    simpa using this
  · intro h i hi
    rw [gb_and, gb_xor, gb_m1 i hi]
    cases hx : gb x i with
    | false => rfl
    | true => rw [h i hi hx]; rfl
theorem gb_toF {M : Mem} {t : Int32} (i : Nat) (hi : i < 32) : ∀ n, (∀ j, j < n → bt (M 8 j) 0 7) → (gb (toF M t n) i = true ↔ ∃ j, j < n ∧ M 6 j = t ∧ M 8 j = nI i)
  | 0, _ => by simp [toF, gb_0]
  | n + 1, h => by
    have ih := gb_toF (M := M) (t := t) i hi n (fun j hj => h j (by omega))
    have hb := cn_of (h n (by omega))
    have hk : cn (M 8 n) < 32 := by have := hb.2.2; omega
    have e1 : ∀ k, k < 32 → (decide (i = k) = true ↔ nI k = nI i) := fun k hk => by rw [decide_eq_true_eq, nI_eq (by omega) (by omega)]; exact eq_comm
    unfold toF
    split
    · rename_i q
      rw [gb_or, hb.1, gb_1s _ hk _ hi, Bool.or_eq_true, ih, e1 _ hk]
      constructor
      · rintro (⟨j, h1, h2⟩ | h2)
        · exact ⟨j, by omega, h2⟩
        · exact ⟨n, by omega, q, by rw [hb.1]; exact h2⟩
      · rintro ⟨j, h1, h2, h3⟩
        by_cases z : j = n
        · subst z; exact Or.inr (by rw [← hb.1]; exact h3)
        · exact Or.inl ⟨j, by omega, h2, h3⟩
    · rename_i q
      rw [ih]
      constructor
      · rintro ⟨j, h1, h2⟩; exact ⟨j, by omega, h2⟩
      · rintro ⟨j, h1, h2, h3⟩
        by_cases z : j = n
        · subst z; exact absurd h2 q
        · exact ⟨j, by omega, h2, h3⟩
theorem gb_ptF {M : Mem} (i : Nat) (hi : i < 32) : ∀ n, (∀ j, j < n → bt (M 50 j) 0 7) → (gb (ptF M n) i = true ↔ ∃ j, j < n ∧ M 50 j = nI i)
  | 0, _ => by simp [ptF, gb_0]
  | n + 1, h => by
    have ih := gb_ptF (M := M) i hi n (fun j hj => h j (by omega))
    have hb := cn_of (h n (by omega))
    have hk : cn (M 50 n) < 32 := by have := hb.2.2; omega
    have e1 : ∀ k, k < 32 → (decide (i = k) = true ↔ nI k = nI i) := fun k hk => by rw [decide_eq_true_eq, nI_eq (by omega) (by omega)]; exact eq_comm
    unfold ptF
    rw [gb_or, hb.1, gb_1s _ hk _ hi, Bool.or_eq_true, ih, e1 _ hk]
    constructor
    · rintro (⟨j, h1, h2⟩ | h2)
      · exact ⟨j, by omega, h2⟩
      · exact ⟨n, by omega, by rw [hb.1]; exact h2⟩
    · rintro ⟨j, h1, h3⟩
      by_cases z : j = n
      · subst z; exact Or.inr (by rw [← hb.1]; exact h3)
      · exact Or.inl ⟨j, by omega, h3⟩
/-- carry: what the class asks of all blows at once, the reference asks of each -/
theorem car_iff {C : Mem} (h : WF C) {t p : Int32} : carS C t p ↔ ∀ i, i < cn (C 5 4) → C 6 i = t → ¬ (p >>> (C 8 i &&& 31) &&& 1) = 0 := by
  have hb : ∀ j, j < cn (C 5 4) → bt (C 8 j) 0 7 := fun j hj => (h.2.1.2.2.1 j hj).2.2
  rw [show carS C t p ↔ toF C t (cn (C 5 4)) &&& (p ^^^ -1) = 0 from Iff.rfl, gb_sub]
  constructor
  · intro q i hi ht hz
    have hc := cn_of (hb i hi)
    have hk : cn (C 8 i) < 32 := by have := hc.2.2; omega
    rw [hc.1, gb_ask hk] at hz
    have := q (cn (C 8 i)) hk ((gb_toF _ hk _ hb).mpr ⟨i, hi, ht, hc.1⟩)
    rw [hz] at this
    exact absurd this (by decide)
  · intro q i hi hx
    obtain ⟨j, h1, h2, h3⟩ := (gb_toF i hi _ hb).mp hx
    have := q j h1 h2
    rw [h3, gb_ask hi] at this
    cases hg : gb p i with
    | true => rfl
    | false => exact absurd hg this
