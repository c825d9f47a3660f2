/-! 12: what holds of the class's memory between calls -/
def bt (x : Int32) (lo hi : Int) : Prop := lo ≤ x.toInt ∧ x.toInt ≤ hi
abbrev cn (x : Int32) : Nat := x.toNatClampNeg
theorem cn_of {x : Int32} {hi : Int} (h : bt x 0 hi) : x = nI (cn x) ∧ (cn x : Int) = x.toInt ∧ (cn x : Int) ≤ hi := by
  obtain ⟨h1, h2⟩ := h
  obtain ⟨j, hj, hx⟩ := nI_of (x := x) (fun q => by rw [Int32.lt_iff_toInt_lt, Int32.toInt_zero] at q; omega)
  have hc : cn x = j := by rw [hx]; exact nI_clamp hj
  have ht : x.toInt = (j : Int) := by rw [hx]; exact nI_toInt hj
  exact ⟨by rw [hc]; exact hx, by rw [hc, ht], by rw [hc]; omega⟩
theorem bt_vp {x : Int32} {hi : Int} {n : Nat} (h : bt x 0 hi) (hn : hi < n) : vp_in x n := vp_in_iff.mpr ⟨h.1, by have := h.2; omega⟩
theorem vpB {x k : Int32} {n : Nat} (h : ¬ b2 (0 ≤ x ∧ x < k) = 0) (hk : k.toInt ≤ n) : vp_in x n := by
  obtain ⟨h1, h2⟩ := b2_n.mp h
  rw [Int32.le_iff_toInt_le, Int32.toInt_zero] at h1
  rw [Int32.lt_iff_toInt_lt] at h2
  exact vp_in_iff.mpr ⟨h1, by omega⟩
theorem vpP {x k : Int32} {n : Nat} (h : 0 ≤ x ∧ x < k) (hk : k.toInt ≤ n) : vp_in x n := vpB (b2_n.mpr h) hk
def WL (M : Mem) : Prop := (bt (M 45 0) 1 9 ∧ bt (M 45 1) 1 9 ∧ bt (M 45 2) 1 9 ∧ bt (M 45 3) 1 9 ∧ bt (M 45 4) 0 2 ∧ bt (M 45 5) 0 2) ∧ (bt (M 44 6) 0 6 ∧ bt (M 44 7) 0 3 ∧ bt (M 44 8) 0 12) ∧ (∀ t, t < cn (M 44 6) → hcF M 45 (M 46 t) ∧ bt (M 47 t) 0 255) ∧ (∀ h, h < cn (M 44 7) → hcF M 45 (M 48 h)) ∧ ∀ i, i < cn (M 44 8) → bt (M 49 i) 0 60 ∧ bt (M 50 i) 0 7
def WBf (f5 f6 f7 f8 f9 : Nat → Int32) (nt : Int32) : Prop := bt (f5 4) 0 24 ∧ bt (f5 5) 0 (f5 4).toInt ∧ (∀ i, i < cn (f5 4) → bt (f6 i) 0 (nt.toInt - 1) ∧ bt (f7 i) 0 300 ∧ bt (f8 i) 0 7) ∧ ∀ i, i < cn (f5 5) → bt (f9 i) 0 400
def WB (M : Mem) : Prop := WBf (M 5) (M 6) (M 7) (M 8) (M 9) (M 44 6)
def WI (M : Mem) (b : Nat) : Prop := bt (M b 5) 0 1 ∧ (M b 5 = 1 → (∀ t, t < cn (M 44 6) → hcF M 45 (M (b + 1) t) ∧ bt (M (b + 2) t) 0 255) ∧ bt (M b 3) 0 2 ∧ bt (M b 4) 0 2 ∧ WBf (M (b + 3)) (M (b + 4)) (M (b + 5)) (M (b + 6)) (M (b + 7)) (M 44 6))
def WP (M : Mem) : Prop := bt (M 1 2) 0 320 ∧ ∀ i, i < 320 → bt (M 2 i) (-128) 127
def WS (M : Mem) (b : Nat) : Prop := bt (M b 1) (-1) 2 ∧ bt (M b 2) 0 40
def WF (M : Mem) : Prop := WL M ∧ WB M ∧ (WI M 17 ∧ WI M 25) ∧ WP M ∧ WS M 34 ∧ WS M 36 ∧ WS M 38 ∧ WS M 40
theorem WF.nt {M : Mem} (h : WF M) : M 44 6 = nI (cn (M 44 6)) := (cn_of h.1.2.1.1).1
theorem WF.nt6 {M : Mem} (h : WF M) : cn (M 44 6) ≤ 6 := by have := (cn_of h.1.2.1.1).2.2; omega
theorem WF.nt6' {M : Mem} (h : WF M) : (M 44 6).toInt ≤ 6 := h.1.2.1.1.2
theorem WF.nh {M : Mem} (h : WF M) : M 44 7 = nI (cn (M 44 7)) := (cn_of h.1.2.1.2.1).1
theorem WF.nh3 {M : Mem} (h : WF M) : cn (M 44 7) ≤ 3 := by have := (cn_of h.1.2.1.2.1).2.2; omega
theorem WF.nh3' {M : Mem} (h : WF M) : (M 44 7).toInt ≤ 3 := h.1.2.1.2.1.2
theorem WF.nn {M : Mem} (h : WF M) : M 44 8 = nI (cn (M 44 8)) := (cn_of h.1.2.1.2.2).1
theorem WF.nn12 {M : Mem} (h : WF M) : cn (M 44 8) ≤ 12 := by have := (cn_of h.1.2.1.2.2).2.2; omega
theorem WF.nn12' {M : Mem} (h : WF M) : (M 44 8).toInt ≤ 12 := h.1.2.1.2.2.2
theorem WF.nb {M : Mem} (h : WF M) : M 5 4 = nI (cn (M 5 4)) := (cn_of h.2.1.1).1
theorem WF.nb24 {M : Mem} (h : WF M) : cn (M 5 4) ≤ 24 := by have := (cn_of h.2.1.1).2.2; omega
theorem WF.nb24' {M : Mem} (h : WF M) : (M 5 4).toInt ≤ 24 := h.2.1.1.2
theorem WF.nm {M : Mem} (h : WF M) : M 5 5 = nI (cn (M 5 5)) := (cn_of h.2.1.2.1).1
theorem WF.nmb {M : Mem} (h : WF M) : cn (M 5 5) ≤ cn (M 5 4) := by
  have h1 := (cn_of h.2.1.2.1).2
  have h2 := (cn_of h.2.1.1).2.1
  omega
theorem WF.nm24 {M : Mem} (h : WF M) : cn (M 5 5) ≤ 24 := Nat.le_trans h.nmb h.nb24
theorem WF.bt6 {M : Mem} (h : WF M) {i : Nat} (hi : i < cn (M 5 4)) : vp_in (M 6 i) 6 := by
  have h1 := (h.2.1.2.2.1 i hi).1
  have h2 := h.nt6'
  exact bt_vp (hi := 5) ⟨h1.1, by have := h1.2; omega⟩ (by omega)
