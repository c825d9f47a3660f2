/-! 09: loops -/
section LOOPS
variable {d : MD} {G : GD} {R : Rv} {sh : List Ds} {pc : Nat} {L L' : List (Option Value)} {st : List Value} {M M' : Mem}
theorem Bd_cg (h : Bd d G R sh pc L st M) (e : L = L') : Bd d G R sh pc L' st M := e ▸ h
theorem Bd_cM (h : Bd d G R sh pc L st M) (e : M = M') : Bd d G R sh pc L st M' := e ▸ h
/-- a loop that counts up to c: what its locals and the memory are at each count; what else is known there -/
theorem Bd_for {c : Nat} (Li : Nat → List (Option Value)) (Mi : Nat → Mem) (Iv : Nat → Prop) (hx : Iv c → Bd d G R sh pc (Li c) st (Mi c)) (hs : ∀ i, i < c → Iv i → (Iv (i + 1) → Bd d G R sh pc (Li (i + 1)) st (Mi (i + 1))) → Bd d G R sh pc (Li i) st (Mi i)) (h0 : Iv 0) : Bd d G R sh pc (Li 0) st (Mi 0) := by
  have key : ∀ n i, i + n = c → Iv i → Bd d G R sh pc (Li i) st (Mi i) := by
    intro n
    induction n with
    | zero => intro i hi iv; rw [Nat.add_zero] at hi; subst hi; exact hx iv
    | succ n ih => intro i hi iv; exact hs i (by omega) iv (fun q => ih (i + 1) (by omega) q)
  exact key c 0 (Nat.zero_add c) h0
/-- any loop: a measure falls -/
theorem Bd_wh {σ : Type} (I : σ → Prop) (μ : σ → Nat) (Lx : σ → List (Option Value)) (Mx : σ → Mem) (hs : ∀ x, I x → (∀ y, I y → μ y < μ x → Bd d G R sh pc (Lx y) st (Mx y)) → Bd d G R sh pc (Lx x) st (Mx x)) : ∀ x, I x → Bd d G R sh pc (Lx x) st (Mx x) := by
  have key : ∀ n x, μ x < n → I x → Bd d G R sh pc (Lx x) st (Mx x) := by
    intro n
    induction n with
    | zero => intro x h; omega
    | succ n ih => intro x h hI; exact hs x hI (fun y hy hm => ih y (by omega) hy)
  exact fun x => key (μ x + 1) x (Nat.lt_succ_self _)
end LOOPS
theorem lf_x {X : Int32} {c : Nat} (h : X = nI c) (b : ¬ X ≤ nI c) : False := b (by rw [h]; exact Int32.le_refl _)
theorem lf_s {X : Int32} {c i : Nat} (h : X = nI c) (hc : c < 2 ^ 31) (hi : i < c) (b : X ≤ nI i) : False := nI_ge hi hc (h ▸ b)
theorem lg_x {X : Int32} {c : Nat} (h : X = nI c) (hc : c + 1 < 2 ^ 31) (b : ¬ X < nI (c + 1)) : False := b (by rw [h]; exact nI_lt (Nat.lt_succ_self c) hc)
theorem lg_s {X : Int32} {c i : Nat} (h : X = nI c) (hc : c + 1 < 2 ^ 31) (hi : i < c + 1) (b : X < nI i) : False := by
  rw [h] at b
  exact nI_nlt (show i ≤ c by omega) (by omega) b
theorem vpi {i n : Nat} (h : i < n) (hn : n < 2 ^ 31) : vp_in (nI i) n := vp_in_nI h hn
/-- less is asked of the locals -/
def wkP : List (Option Value) → List (Option Value) → Prop
  | [], _ => True
  | none :: r, _ :: q => wkP r q
  | some v :: r, t :: q => t = some v ∧ wkP r q
  | _ :: _, [] => False
theorem wkP_at : ∀ (A B : List (Option Value)), wkP A B → ∀ (i : Nat) (v : Value), A[i]? = some (some v) → B[i]? = some (some v)
  | [], _, _, i, v, h => by simp at h
  | none :: r, b :: q, hw, i, v, h => by
    match i, h with
    | 0, h => simp at h
    | i + 1, h => simpa using wkP_at r q hw i v (by simpa using h)
  | some u :: r, b :: q, hw, i, v, h => by
    match i, h with
    | 0, h => simp only [List.getElem?_cons_zero, Option.some.injEq] at h ⊢; rw [hw.1, h]
    | i + 1, h => simpa using wkP_at r q hw.2 i v (by simpa using h)
  | none :: _, [], hw, _, _, _ => hw.elim
  | some _ :: _, [], hw, _, _, _ => hw.elim
theorem Bd_nx {d : MD} {G : GD} {R : Rv} {sh : List Ds} {pc : Nat} {L L' : List (Option Value)} {st : List Value} {M : Mem} (k : Bd d G R sh pc L' st M) (h : wkP L' L) : Bd d G R sh pc L st M := fun p l e s m a b me c H lo ls F r q S hl P D Z => k p l e s m a b me c H lo ls F r q S ⟨hl.1, hl.2.1, fun i v hi => hl.2.2 i v (wkP_at L' L h i v hi)⟩ P D Z
