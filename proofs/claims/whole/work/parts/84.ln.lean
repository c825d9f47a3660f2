/-! 84: land: both sides read the same lines -/
def CX (c : Int32) (X Y : Nat) : Prop := ∃ x y : Nat, x ≤ X ∧ y ≤ Y ∧ c = nI (9 * y + x)
def AX (C : Mem) (X : Nat) : Prop := (∃ t, t < cn (C 51 6) ∧ ∃ y, y ≤ 8 ∧ C 53 t = nI (9 * y + X)) ∨ ∃ t, t < cn (C 51 7) ∧ ∃ y, y ≤ 8 ∧ C 55 t = nI (9 * y + X)
def AY (C : Mem) (Y : Nat) : Prop := (∃ t, t < cn (C 51 6) ∧ ∃ x, x ≤ 8 ∧ C 53 t = nI (9 * Y + x)) ∨ ∃ t, t < cn (C 51 7) ∧ ∃ x, x ≤ 8 ∧ C 55 t = nI (9 * Y + x)
def RDa (C N : Mem) : Prop := ∀ j, j < 6 → N 63 j = C 52 j
def RDt (C N : Mem) : Prop := N 58 9 = C 51 6 ∧ ∀ t, t < cn (C 51 6) → N 64 (2 * t) = C 53 t ∧ N 64 (2 * t + 1) = C 54 t
def RDh (C N : Mem) : Prop := N 58 11 = C 51 7 ∧ ∀ t, t < cn (C 51 7) → N 65 t = C 55 t
def RDn (C N : Mem) : Prop := N 58 13 = C 51 8 ∧ ∀ t, t < cn (C 51 8) → N 66 (2 * t) = C 56 t ∧ N 66 (2 * t + 1) = C 57 t
def RDx (C N : Mem) : Prop := ∃ X Y : Nat, N 58 14 = nI X ∧ N 58 15 = nI Y ∧ X ≤ 8 ∧ Y ≤ 8 ∧ (∀ t, t < cn (C 51 6) → CX (C 53 t) X Y) ∧ (∀ t, t < cn (C 51 7) → CX (C 55 t) X Y) ∧ (X = 0 ∨ AX C X) ∧ (Y = 0 ∨ AY C Y)
def DWr (C : Mem) : Prop := bt (C 52 0) 1 9 ∧ bt (C 52 1) 1 9 ∧ bt (C 52 2) 1 9 ∧ bt (C 52 3) 1 9 ∧ bt (C 52 4) 0 2 ∧ bt (C 52 5) 0 2
def DWd (C : Mem) : Prop := (∀ t, t < cn (C 51 6) → bt (C 54 t) 0 255) ∧ ∀ t, t < cn (C 51 8) → bt (C 56 t) 0 60 ∧ bt (C 57 t) 0 7
def RDr (C N : Mem) : Prop := RDa C N ∧ RDt C N ∧ RDh C N ∧ RDn C N ∧ N 58 16 = C 3 1 ∧ RDx C N ∧ DWr C ∧ DWd C
theorem RDr_n {C N N' : Mem} (h : RDr C N) (e : ∀ q, 63 ≤ q → q ≤ 66 → N' q = N q) (ej : ∀ j, j < 20 → N' 58 j = N 58 j) : RDr C N' := by
  unfold RDr RDa RDt RDh RDn RDx at *
  rw [e 63 (by decide) (by decide), e 64 (by decide) (by decide), e 65 (by decide) (by decide), e 66 (by decide) (by decide), ej 9 (by decide), ej 11 (by decide), ej 13 (by decide), ej 14 (by decide), ej 15 (by decide), ej 16 (by decide)]
  exact h
theorem RDr_st {C N : Mem} (h : RDr C N) : RDr C (stM N) := RDr_n h (fun q a _ => st_ne (by omega)) (fun j a => st_j a)
theorem RDr_cc {C C' N : Mem} (h : RDr C N) (e : ∀ q, 51 ≤ q → q ≤ 57 → C' q = C q) (e3 : C' 3 1 = C 3 1) : RDr C' N := by
  unfold RDr RDa RDt RDh RDn RDx DWr DWd AX AY at *
  rw [e 51 (by decide) (by decide), e 52 (by decide) (by decide), e 53 (by decide) (by decide), e 54 (by decide) (by decide), e 55 (by decide) (by decide), e 56 (by decide) (by decide), e 57 (by decide) (by decide), e3]
  exact h
/-- what a line comes to on both sides -/
def LRr (r : Int32 × Mem) (N : Mem) : Prop := (r.1 = 1 ∧ LK r.2 N ∧ RDr r.2 N) ∨ (r.1 = 0 ∧ BRK r.2 N)
theorem sg_sim {M C1 N1 : Mem} {n : Nat} (hR : tnR M n (ntab n) 0 = (true, C1)) (hT : TI C1) (hB : TBr C1 N1) (hL : LK C1 N1) (hD : RDr (wrM (seM (rt C1) n) n) N1) : LRr (tlR M n) (rlT N1) := by
  by_cases h3 : kM C1 = 3
  · have r3 : rt C1 1 3 = 3 := rt_3.trans h3
    rw [tlR_t hR r3]
    obtain ⟨-, h20, h22, -, h24, -⟩ := hL.resolve_left (fun z => absurd (h3.symm.trans z.1) (by decide))
    have e : rlT N1 = stM N1 := by unfold rlT; rw [if_neg (fun z => z.2 (by rw [h24, h3]; rfl))]
    rw [e]
    have e1 : wrM (seM (rt C1) n) n 1 = rt C1 1 := by rw [wrM_lo (by decide), seM_ne (by decide)]
    have e12 : wrM (seM (rt C1) n) n 1 2 = rt C1 1 2 := by rw [e1]
    have e11 : wrM (seM (rt C1) n) n 1 1 = rt C1 1 1 := by rw [e1]
    have e2 : wrM (seM (rt C1) n) n 2 = C1 2 := by rw [wrM_lo (by decide), seM_ne (by decide), rt_ne (by decide)]
    left
    refine ⟨rfl, st_sim (TI_c (rt_TI hT) e1) (TBr_c hB (e12.trans rt_2) e2 rfl rfl) (h22.trans (rt_1.symm.trans e11.symm)) h20, RDr_st hD⟩
  · have r3 : ¬ rt C1 1 3 = 3 := fun z => h3 (rt_3.symm.trans z)
    rw [tlR_m hR r3]
    right
    refine ⟨rfl, ?_⟩
    have e : rlT N1 = flM N1 2 := by
      rcases hL with ⟨-, z, -⟩ | ⟨z0, z, -, -, z24, -⟩
      · have nz : ¬ N1 58 20 = 0 := by rw [z]; decide
        rw [rlT_b nz, flM_1 nz]
      · unfold rlT
        rw [if_pos ⟨z, by rw [z24]; split; decide; exact h3⟩, stM_1 (by rw [flM_20 z]; decide)]
    rw [e]
    refine mp_sim hL (fun z => ?_)
    rcases hL with ⟨-, y, -⟩ | ⟨y, -⟩
    · rw [y] at z; exact absurd z (by decide)
    · exact y
theorem fl_sim {M C1 N1 : Mem} {n : Nat} (hR : tnR M n (ntab n) 0 = (false, C1)) (hK : BRK C1 N1) : LRr (tlR M n) (rlT N1) := by
  rw [tlR_f hR, rlT_b hK.nz]
  exact Or.inr ⟨rfl, hK⟩
theorem BRK_j {C N N' : Mem} (h : BRK C N) (e20 : N' 58 20 = N 58 20) (e21 : N' 58 21 = N 58 21) : BRK C N' := by
  unfold BRK at *
  rw [e20, e21]; exact h
theorem U_q {A : Mem} {k q : Nat} {v : Int32} (h1 : q ≠ 1) (h4 : q ≠ 4) : updM (rt A) 4 k v q = A q := by rw [updM_ne h4, rt_ne h1]
theorem U_k {A : Mem} {k : Nat} {v : Int32} : updM (rt A) 4 k v 4 k = v := by rw [updM_eq, upd_eq]
theorem U_j {A : Mem} {k j : Nat} {v : Int32} (h : j ≠ k) : updM (rt A) 4 k v 4 j = A 4 j := by rw [updM_eq, upd_ne h, rt_ne (by decide)]
theorem U_1 {A : Mem} {k : Nat} {v : Int32} : updM (rt A) 4 k v 1 2 = A 1 2 := by rw [updM_ne (by decide)]; exact rt_2
theorem tnR_y {M : Mem} {n c k : Nat} (h : tnQ M n k) : tnR M n (c + 1) k = tnR (tnM M n k) n c (k + 1) := by
  show (if _ then _ else _) = _
  rw [if_pos h]
theorem tnR_n {M : Mem} {n c k : Nat} (h : ¬ tnQ M n k) : tnR M n (c + 1) k = (false, tnM M n k) := by
  show (if _ then _ else _) = _
  rw [if_neg h]
/-- rules -/
theorem RDr_rules {C N X N1 : Mem} (h : RDr C N) (e : ∀ q, 51 ≤ q → q ≤ 57 → q ≠ 52 → X q = C q) (e64 : ∀ q, 64 ≤ q → q ≤ 66 → N1 q = N q) (ej : ∀ j, j < 16 → N1 58 j = N 58 j) (ha : RDa X N1) (h16 : N1 58 16 = X 3 1) (hw : DWr X) : RDr X N1 := by
  obtain ⟨-, h2, h3, h4, -, h6, -, h8⟩ := h
  refine ⟨ha, ?_, ?_, ?_, h16, ?_, hw, ?_⟩
  · unfold RDt at *; rw [ej 9 (by decide), e64 64 (by decide) (by decide), e 51 (by decide) (by decide) (by decide), e 53 (by decide) (by decide) (by decide), e 54 (by decide) (by decide) (by decide)]; exact h2
  · unfold RDh at *; rw [ej 11 (by decide), e64 65 (by decide) (by decide), e 51 (by decide) (by decide) (by decide), e 55 (by decide) (by decide) (by decide)]; exact h3
  · unfold RDn at *; rw [ej 13 (by decide), e64 66 (by decide) (by decide), e 51 (by decide) (by decide) (by decide), e 56 (by decide) (by decide) (by decide), e 57 (by decide) (by decide) (by decide)]; exact h4
  · unfold RDx AX AY at *; rw [ej 14 (by decide), ej 15 (by decide), e 51 (by decide) (by decide) (by decide), e 53 (by decide) (by decide) (by decide), e 55 (by decide) (by decide) (by decide)]; exact h6
  · unfold DWd at *; rw [e 51 (by decide) (by decide) (by decide), e 54 (by decide) (by decide) (by decide), e 56 (by decide) (by decide) (by decide), e 57 (by decide) (by decide) (by decide)]; exact h8
theorem tl_0_0 {M : Mem} : tnL M 0 0 = 1 := by unfold tnL; rw [if_neg (by decide)]; rfl
theorem tg_0_0 : tnG 0 0 = 9 := rfl
theorem tl_0_1 {M : Mem} : tnL M 0 1 = 1 := by unfold tnL; rw [if_neg (by decide)]; rfl
theorem tg_0_1 : tnG 0 1 = 9 := rfl
theorem tl_1_0 {M : Mem} : tnL M 1 0 = 1 := by unfold tnL; rw [if_neg (by decide)]; rfl
theorem tg_1_0 : tnG 1 0 = 9 := rfl
theorem tl_2_0 {M : Mem} : tnL M 2 0 = 1 := by unfold tnL; rw [if_neg (by decide)]; rfl
theorem tg_2_0 : tnG 2 0 = 9 := rfl
theorem tl_3_0 {M : Mem} : tnL M 3 0 = 0 := by unfold tnL; rw [if_neg (by decide)]; rfl
theorem tg_3_0 : tnG 3 0 = 2 := rfl
theorem tl_3_1 {M : Mem} : tnL M 3 1 = 0 := by unfold tnL; rw [if_neg (by decide)]; rfl
theorem tg_3_1 : tnG 3 1 = 2 := rfl
theorem tl_4_0 {M : Mem} : tnL M 4 0 = 0 := by unfold tnL; rw [if_neg (by decide)]; rfl
theorem tg_4_0 : tnG 4 0 = 8 := rfl
theorem tl_4_1 {M : Mem} : tnL M 4 1 = 0 := by unfold tnL; rw [if_neg (by decide)]; rfl
theorem tg_4_1 : tnG 4 1 = 8 := rfl
theorem tl_4_2 {M : Mem} : tnL M 4 2 = 0 := by unfold tnL; rw [if_neg (by decide)]; rfl
theorem tg_4_2 : tnG 4 2 = 255 := rfl
theorem tl_5_0 {M : Mem} : tnL M 5 0 = 0 := by unfold tnL; rw [if_neg (by decide)]; rfl
theorem tg_5_0 : tnG 5 0 = 8 := rfl
theorem tl_5_1 {M : Mem} : tnL M 5 1 = 0 := by unfold tnL; rw [if_neg (by decide)]; rfl
theorem tg_5_1 : tnG 5 1 = 8 := rfl
theorem tl_6_1 {M : Mem} : tnL M 6 1 = 0 := by unfold tnL; rw [if_neg (by decide)]; rfl
theorem tg_6_1 : tnG 6 1 = 7 := rfl
theorem tg_6_0 : tnG 6 0 = 60 := rfl
theorem wr_0 {M : Mem} : wrM M 0 = updM (updM M 52 0 (M 4 0)) 52 1 (M 4 1) := rfl
theorem wr_1 {M : Mem} : wrM M 1 = updM M 52 2 (M 4 0) := rfl
theorem wr_2 {M : Mem} : wrM M 2 = updM M 52 3 (M 4 0) := rfl
theorem wr_3 {M : Mem} : wrM M 3 = updM (updM M 52 4 (M 4 0)) 52 5 (M 4 1) := rfl
theorem wr_4 {M : Mem} : wrM M 4 = atD M (cn (M 51 6)) (M 4 0) (M 4 1) (M 4 2) := rfl
theorem wr_5 {M : Mem} : wrM M 5 = ahD M (cn (M 51 7)) (M 4 0) (M 4 1) := rfl
theorem wr_6 {M : Mem} : wrM M 6 = anD M (cn (M 51 8)) (M 4 0) (M 4 1) := rfl
theorem roP_ne {X : Mem} {a b : Int32} {j q : Nat} (h : q ≠ 63) : roP X a b j q = nuM X a b q := by unfold roP; rw [updM_ne h]
theorem LK_c {C N N' : Mem} (h : LK C N) (e : N' 58 = N 58) : LK C N' := by unfold LK at *; rw [e]; exact h
theorem LK_P {C X : Mem} {a b : Int32} {j : Nat} (h : LK C (nuM X a b)) : LK C (roP X a b j) := LK_c h (roP_ne (by decide))
theorem BRK_P {C X : Mem} {a b : Int32} {j : Nat} (h : BRK C (nuM X a b)) : BRK C (roP X a b j) := BRK_j h (by rw [roP_ne (by decide)]) (by rw [roP_ne (by decide)])
theorem TBr_P {C A X : Mem} {a b v : Int32} {j k : Nat} (h : TBr A X) (hC : C = updM (rt A) 4 k v) : TBr C (roP X a b j) := TBr_c h (by rw [hC]; exact U_1) (by rw [hC]; exact U_q (by decide) (by decide)) (by rw [roP_ne (by decide), nu_j (by decide)]) (by rw [roP_ne (by decide), nu_ne (by decide)])
theorem BRK_PP {C X : Mem} {a b c d : Int32} {j i : Nat} (h : BRK C (nuM X a b)) : BRK C (roP (roP X a b j) c d i) := by
  have h1 : BRK C (roP X a b j) := BRK_P h
  exact BRK_P (by rw [nu_b h1.nz]; exact h1)
theorem bt19 {x : Int32} (h : 1 ≤ x ∧ x ≤ 9) : bt x 1 9 := bt_i h
theorem bt02 {x : Int32} (h : 0 ≤ x ∧ x ≤ 2) : bt x 0 2 := bt_i h
theorem upd_cg {f g : Nat → Int32} {a : Nat} {v : Int32} (h : ∀ j, j < 6 → f j = g j) : ∀ j, j < 6 → upd f a v j = upd g a v j := fun j hj => by
  by_cases z : j = a
  · rw [z, upd_eq, upd_eq]
  · rw [upd_ne z, upd_ne z]; exact h j hj
theorem ln_0 {C N : Mem} (hT : TI C) (hB : TBr C N) (h20 : N 58 20 = 0) (h22 : N 58 22 = nI (eM C)) (h23 : N 58 23 = nI (sM C)) (hR : RDr C N) (hs : (rt C 3 1 >>> (nI 0 &&& 31)) &&& 1 = 0) : LRr (tlR (rt C) 0) (rlT (roM N 0)) := by
  have hs16 : N 58 16 = rt C 3 1 := by rw [rt_ne (by decide)]; exact hR.2.2.2.2.1
  have e1 : ro1 N 0 = N := by unfold ro1; rw [if_neg (by rw [hs16, hs]; decide)]
  have eN : ro2 N 0 = stM (updM N 58 16 (N 58 16 ||| (1 <<< (nI 0 &&& 31)))) := by unfold ro2; rw [e1]
  have hB0 : TBr (rt C) (ro2 N 0) := TBr_c hB rt_2 (rt_ne (by decide)) (by rw [eN, st_j (by decide)]; rfl) (by rw [eN, st_ne (by decide)]; rfl)
  have hL0 : LK (rt C) (ro2 N 0) := by
    rw [eN]
    exact st_sim (rt_TI hT) (TBr_c hB rt_2 (rt_ne (by decide)) rfl rfl) (by rw [rt_1]; exact h22) h20
  have hq0 : ∀ q, 63 ≤ q → q ≤ 66 → ro2 N 0 q = N q := fun q a b => by rw [eN, st_ne (by omega), updM_ne (by omega)]
  have hj0 : ∀ j, j < 16 → ro2 N 0 58 j = N 58 j := fun j a => by rw [eN, st_j (by omega), updM_eq, upd_ne (by omega)]
  have h16 : ro2 N 0 58 16 = N 58 16 ||| (1 <<< (nI 0 &&& 31)) := by rw [eN, st_j (by decide)]; rfl
  have eR : roM N 0 = roP (roP (ro2 N 0) 1 9 0) 1 9 1 := by unfold roM; rw [if_pos rfl]
  rw [eR]
  rcases num_sim (n := 0) (k := 0) (a := 1) (b := 9) (rt_TI hT) hB0 hL0 tl_0_0 tg_0_0 with ⟨q0, m0, v0, b0, -, l0⟩ | ⟨q0, k0⟩
  · rw [m0] at l0
    have hB1 : TBr (updM (rt (rt C)) 4 0 (vM (rt C))) (roP (ro2 N 0) 1 9 0) := TBr_P hB0 rfl
    have hT1 : TI (updM (rt (rt C)) 4 0 (vM (rt C))) := by rw [← m0]; exact tnM_TI (rt_TI hT)
    rcases num_sim (C := updM (rt (rt C)) 4 0 (vM (rt C))) (N := roP (ro2 N 0) 1 9 0) (n := 0) (k := 1) (a := 1) (b := 9) hT1 hB1 (LK_P l0) tl_0_1 tg_0_1 with ⟨q1, m1, v1, b1, -, l1⟩ | ⟨q1, k1⟩
    · have hRR : tnR (rt C) 0 (ntab 0) 0 = (true, tnM (updM (rt (rt C)) 4 0 (vM (rt C))) 0 1) := by
        show tnR (rt C) 0 (1 + 1) 0 = _
        rw [tnR_y q0, m0]; exact tnR_y q1
      refine sg_sim hRR (tnM_TI hT1) (TBr_P hB1 m1) (LK_P l1) ?_
      · rw [m1]
        have eS : ∀ q, 51 ≤ q → q ≤ 57 → seM (rt (updM (rt (updM (rt (rt C)) 4 0 (vM (rt C)))) 4 1 (vM (updM (rt (rt C)) 4 0 (vM (rt C)))))) 0 q = C q := fun q a b => by rw [seM_ne (by omega), rt_ne (by omega), U_q (by omega) (by omega), U_q (by omega) (by omega), rt_ne (by omega)]
        have eV : seM (rt (updM (rt (updM (rt (rt C)) 4 0 (vM (rt C)))) 4 1 (vM (updM (rt (rt C)) 4 0 (vM (rt C)))))) 0 4 0 = vM (rt C) := by rw [seM_ne (by decide), rt_ne (by decide), U_j (by decide)]; exact U_k
        have eW : seM (rt (updM (rt (updM (rt (rt C)) 4 0 (vM (rt C)))) 4 1 (vM (updM (rt (rt C)) 4 0 (vM (rt C)))))) 0 4 1 = vM (updM (rt (rt C)) 4 0 (vM (rt C))) := by rw [seM_ne (by decide), rt_ne (by decide)]; exact U_k
        have eX : wrM (seM (rt (updM (rt (updM (rt (rt C)) 4 0 (vM (rt C)))) 4 1 (vM (updM (rt (rt C)) 4 0 (vM (rt C)))))) 0) 0 52 = upd (upd (C 52) 0 (vM (rt C))) 1 (vM (updM (rt (rt C)) 4 0 (vM (rt C)))) := by
          rw [wr_0, updM_eq, updM_eq, eV, eW, eS 52 (by decide) (by decide)]
        refine RDr_rules hR (fun q a b c => ?_) (fun q a b => ?_) (fun j a => ?_) ?_ ?_ ?_
        · show updM (updM _ 52 0 _) 52 1 _ q = _
          rw [updM_ne c, updM_ne c]; exact eS q a b
        · show updM (nuM (updM (nuM _ _ _) 63 0 _) _ _) 63 1 _ q = _
          rw [updM_ne (by omega), nu_ne (by omega), updM_ne (by omega), nu_ne (by omega)]; exact hq0 q (by omega) b
        · show updM (nuM (updM (nuM _ _ _) 63 0 _) _ _) 63 1 _ 58 j = _
          rw [updM_ne (by decide), nu_j (by omega), updM_ne (by decide), nu_j (by omega)]; exact hj0 j a
        · unfold RDa
          rw [eX]
          show ∀ j, j < 6 → updM (nuM (roP (ro2 N 0) 1 9 0) 1 9) 63 1 (nuV (roP (ro2 N 0) 1 9 0) 1 9) 63 j = _
          rw [updM_eq, v1, nu_ne (by decide)]
          show ∀ j, j < 6 → upd (updM (nuM (ro2 N 0) 1 9) 63 0 (nuV (ro2 N 0) 1 9) 63) 1 _ j = _
          rw [updM_eq, v0, nu_ne (by decide), hq0 63 (by decide) (by decide)]
          exact upd_cg (upd_cg hR.1)
        · rw [wr_0, roP_ne (by decide), updM_ne (by decide), updM_ne (by decide), nu_j (by decide), roP_ne (by decide), nu_j (by decide), h16]
          unfold seM
          rw [if_pos (by decide), updM_eq, upd_eq, rt_ne (by decide), U_q (by decide) (by decide), U_q (by decide) (by decide), hs16]
        · obtain ⟨w0, w1, w2, w3, w4, w5⟩ := hR.2.2.2.2.2.2.1
          unfold DWr
          rw [eX]
          exact ⟨by rw [upd_ne (by decide), upd_eq]; exact bt19 b0, by rw [upd_eq]; exact bt19 b1, w2, w3, w4, w5⟩
    · refine fl_sim (n := 0) (N1 := roP (roP (ro2 N 0) 1 9 0) 1 9 1) (C1 := tnM (updM (rt (rt C)) 4 0 (vM (rt C))) 0 1) ?_ (BRK_P k1)
      show tnR (rt C) 0 (1 + 1) 0 = _
      rw [tnR_y q0, m0]; exact tnR_n q1
  · refine fl_sim (n := 0) (N1 := roP (roP (ro2 N 0) 1 9 0) 1 9 1) (tnR_n (c := 1) q0) ?_
    exact BRK_PP k0
theorem ln_1 {C N : Mem} (hT : TI C) (hB : TBr C N) (h20 : N 58 20 = 0) (h22 : N 58 22 = nI (eM C)) (h23 : N 58 23 = nI (sM C)) (hR : RDr C N) (hs : (rt C 3 1 >>> (nI 1 &&& 31)) &&& 1 = 0) : LRr (tlR (rt C) 1) (rlT (roM N 1)) := by
  have hs16 : N 58 16 = rt C 3 1 := by rw [rt_ne (by decide)]; exact hR.2.2.2.2.1
  have e1 : ro1 N 1 = N := by unfold ro1; rw [if_neg (by rw [hs16, hs]; decide)]
  have eN : ro2 N 1 = stM (updM N 58 16 (N 58 16 ||| (1 <<< (nI 1 &&& 31)))) := by unfold ro2; rw [e1]
  have hB0 : TBr (rt C) (ro2 N 1) := TBr_c hB rt_2 (rt_ne (by decide)) (by rw [eN, st_j (by decide)]; rfl) (by rw [eN, st_ne (by decide)]; rfl)
  have hL0 : LK (rt C) (ro2 N 1) := by
    rw [eN]
    exact st_sim (rt_TI hT) (TBr_c hB rt_2 (rt_ne (by decide)) rfl rfl) (by rw [rt_1]; exact h22) h20
  have hq0 : ∀ q, 63 ≤ q → q ≤ 66 → ro2 N 1 q = N q := fun q a b => by rw [eN, st_ne (by omega), updM_ne (by omega)]
  have hj0 : ∀ j, j < 16 → ro2 N 1 58 j = N 58 j := fun j a => by rw [eN, st_j (by omega), updM_eq, upd_ne (by omega)]
  have h16 : ro2 N 1 58 16 = N 58 16 ||| (1 <<< (nI 1 &&& 31)) := by rw [eN, st_j (by decide)]; rfl
  have eR : roM N 1 = roP (ro2 N 1) 1 9 2 := by unfold roM; rw [if_neg (by decide), if_neg (by decide)]
  rw [eR]
  rcases num_sim (n := 1) (k := 0) (a := 1) (b := 9) (rt_TI hT) hB0 hL0 tl_1_0 tg_1_0 with ⟨q0, m0, v0, b0, -, l0⟩ | ⟨q0, k0⟩
  · have hRR : tnR (rt C) 1 (ntab 1) 0 = (true, tnM (rt C) 1 0) := tnR_y q0
    refine sg_sim hRR (tnM_TI (rt_TI hT)) (TBr_P hB0 m0) (LK_P l0) ?_
    · rw [m0]
      have eS : ∀ q, 51 ≤ q → q ≤ 57 → seM (rt (updM (rt (rt C)) 4 0 (vM (rt C)))) 1 q = C q := fun q a b => by rw [seM_ne (by omega), rt_ne (by omega), U_q (by omega) (by omega), rt_ne (by omega)]
      have eV : seM (rt (updM (rt (rt C)) 4 0 (vM (rt C)))) 1 4 0 = vM (rt C) := by rw [seM_ne (by decide), rt_ne (by decide)]; exact U_k
      refine RDr_rules hR (fun q a b c => ?_) (fun q a b => ?_) (fun j a => ?_) ?_ ?_ ?_
      · show updM _ 52 2 _ q = _
        rw [updM_ne c]; exact eS q a b
      · show updM _ 63 2 _ q = _
        rw [updM_ne (by omega), nu_ne (by omega)]; exact hq0 q (by omega) b
      · show updM _ 63 2 _ 58 j = _
        rw [updM_ne (by decide), nu_j (by omega)]; exact hj0 j a
      · show ∀ j, j < 6 → updM _ 63 2 _ 63 j = updM _ 52 2 _ 52 j
        rw [updM_eq, updM_eq, v0, eV, nu_ne (by decide), hq0 63 (by decide) (by decide), eS 52 (by decide) (by decide)]
        exact upd_cg hR.1
      · rw [wr_1, roP_ne (by decide), updM_ne (by decide), nu_j (by decide), h16]
        unfold seM
        rw [if_pos (by decide), updM_eq, upd_eq, rt_ne (by decide), U_q (by decide) (by decide), hs16]
      · obtain ⟨w0, w1, w2, w3, w4, w5⟩ := hR.2.2.2.2.2.2.1
        unfold DWr
        rw [wr_1, updM_eq, eV, eS 52 (by decide) (by decide)]
        exact ⟨w0, w1, by rw [upd_eq]; exact bt19 b0, w3, w4, w5⟩
  · refine fl_sim (n := 1) (N1 := roP (ro2 N 1) 1 9 2) (tnR_n q0) ?_
    exact BRK_P k0
theorem ln_2 {C N : Mem} (hT : TI C) (hB : TBr C N) (h20 : N 58 20 = 0) (h22 : N 58 22 = nI (eM C)) (h23 : N 58 23 = nI (sM C)) (hR : RDr C N) (hs : (rt C 3 1 >>> (nI 2 &&& 31)) &&& 1 = 0) : LRr (tlR (rt C) 2) (rlT (roM N 2)) := by
  have hs16 : N 58 16 = rt C 3 1 := by rw [rt_ne (by decide)]; exact hR.2.2.2.2.1
  have e1 : ro1 N 2 = N := by unfold ro1; rw [if_neg (by rw [hs16, hs]; decide)]
  have eN : ro2 N 2 = stM (updM N 58 16 (N 58 16 ||| (1 <<< (nI 2 &&& 31)))) := by unfold ro2; rw [e1]
  have hB0 : TBr (rt C) (ro2 N 2) := TBr_c hB rt_2 (rt_ne (by decide)) (by rw [eN, st_j (by decide)]; rfl) (by rw [eN, st_ne (by decide)]; rfl)
  have hL0 : LK (rt C) (ro2 N 2) := by
    rw [eN]
    exact st_sim (rt_TI hT) (TBr_c hB rt_2 (rt_ne (by decide)) rfl rfl) (by rw [rt_1]; exact h22) h20
  have hq0 : ∀ q, 63 ≤ q → q ≤ 66 → ro2 N 2 q = N q := fun q a b => by rw [eN, st_ne (by omega), updM_ne (by omega)]
  have hj0 : ∀ j, j < 16 → ro2 N 2 58 j = N 58 j := fun j a => by rw [eN, st_j (by omega), updM_eq, upd_ne (by omega)]
  have h16 : ro2 N 2 58 16 = N 58 16 ||| (1 <<< (nI 2 &&& 31)) := by rw [eN, st_j (by decide)]; rfl
  have eR : roM N 2 = roP (ro2 N 2) 1 9 3 := by unfold roM; rw [if_neg (by decide), if_neg (by decide)]
  rw [eR]
  rcases num_sim (n := 2) (k := 0) (a := 1) (b := 9) (rt_TI hT) hB0 hL0 tl_2_0 tg_2_0 with ⟨q0, m0, v0, b0, -, l0⟩ | ⟨q0, k0⟩
  · have hRR : tnR (rt C) 2 (ntab 2) 0 = (true, tnM (rt C) 2 0) := tnR_y q0
    refine sg_sim hRR (tnM_TI (rt_TI hT)) (TBr_P hB0 m0) (LK_P l0) ?_
    · rw [m0]
      have eS : ∀ q, 51 ≤ q → q ≤ 57 → seM (rt (updM (rt (rt C)) 4 0 (vM (rt C)))) 2 q = C q := fun q a b => by rw [seM_ne (by omega), rt_ne (by omega), U_q (by omega) (by omega), rt_ne (by omega)]
      have eV : seM (rt (updM (rt (rt C)) 4 0 (vM (rt C)))) 2 4 0 = vM (rt C) := by rw [seM_ne (by decide), rt_ne (by decide)]; exact U_k
      refine RDr_rules hR (fun q a b c => ?_) (fun q a b => ?_) (fun j a => ?_) ?_ ?_ ?_
      · show updM _ 52 3 _ q = _
        rw [updM_ne c]; exact eS q a b
      · show updM _ 63 3 _ q = _
        rw [updM_ne (by omega), nu_ne (by omega)]; exact hq0 q (by omega) b
      · show updM _ 63 3 _ 58 j = _
        rw [updM_ne (by decide), nu_j (by omega)]; exact hj0 j a
      · show ∀ j, j < 6 → updM _ 63 3 _ 63 j = updM _ 52 3 _ 52 j
        rw [updM_eq, updM_eq, v0, eV, nu_ne (by decide), hq0 63 (by decide) (by decide), eS 52 (by decide) (by decide)]
        exact upd_cg hR.1
      · rw [wr_2, roP_ne (by decide), updM_ne (by decide), nu_j (by decide), h16]
        unfold seM
        rw [if_pos (by decide), updM_eq, upd_eq, rt_ne (by decide), U_q (by decide) (by decide), hs16]
      · obtain ⟨w0, w1, w2, w3, w4, w5⟩ := hR.2.2.2.2.2.2.1
        unfold DWr
        rw [wr_2, updM_eq, eV, eS 52 (by decide) (by decide)]
        exact ⟨w0, w1, w2, by rw [upd_eq]; exact bt19 b0, w4, w5⟩
  · refine fl_sim (n := 2) (N1 := roP (ro2 N 2) 1 9 3) (tnR_n q0) ?_
    exact BRK_P k0
theorem ln_3 {C N : Mem} (hT : TI C) (hB : TBr C N) (h20 : N 58 20 = 0) (h22 : N 58 22 = nI (eM C)) (h23 : N 58 23 = nI (sM C)) (hR : RDr C N) (hs : (rt C 3 1 >>> (nI 3 &&& 31)) &&& 1 = 0) : LRr (tlR (rt C) 3) (rlT (roM N 3)) := by
  have hs16 : N 58 16 = rt C 3 1 := by rw [rt_ne (by decide)]; exact hR.2.2.2.2.1
  have e1 : ro1 N 3 = N := by unfold ro1; rw [if_neg (by rw [hs16, hs]; decide)]
  have eN : ro2 N 3 = stM (updM N 58 16 (N 58 16 ||| (1 <<< (nI 3 &&& 31)))) := by unfold ro2; rw [e1]
  have hB0 : TBr (rt C) (ro2 N 3) := TBr_c hB rt_2 (rt_ne (by decide)) (by rw [eN, st_j (by decide)]; rfl) (by rw [eN, st_ne (by decide)]; rfl)
  have hL0 : LK (rt C) (ro2 N 3) := by
    rw [eN]
    exact st_sim (rt_TI hT) (TBr_c hB rt_2 (rt_ne (by decide)) rfl rfl) (by rw [rt_1]; exact h22) h20
  have hq0 : ∀ q, 63 ≤ q → q ≤ 66 → ro2 N 3 q = N q := fun q a b => by rw [eN, st_ne (by omega), updM_ne (by omega)]
  have hj0 : ∀ j, j < 16 → ro2 N 3 58 j = N 58 j := fun j a => by rw [eN, st_j (by omega), updM_eq, upd_ne (by omega)]
  have h16 : ro2 N 3 58 16 = N 58 16 ||| (1 <<< (nI 3 &&& 31)) := by rw [eN, st_j (by decide)]; rfl
  have eR : roM N 3 = roP (roP (ro2 N 3) 0 2 4) 0 2 5 := by unfold roM; rw [if_neg (by decide), if_pos rfl]
  rw [eR]
  rcases num_sim (n := 3) (k := 0) (a := 0) (b := 2) (rt_TI hT) hB0 hL0 tl_3_0 tg_3_0 with ⟨q0, m0, v0, b0, -, l0⟩ | ⟨q0, k0⟩
  · rw [m0] at l0
    have hB1 : TBr (updM (rt (rt C)) 4 0 (vM (rt C))) (roP (ro2 N 3) 0 2 4) := TBr_P hB0 rfl
    have hT1 : TI (updM (rt (rt C)) 4 0 (vM (rt C))) := by rw [← m0]; exact tnM_TI (rt_TI hT)
    rcases num_sim (C := updM (rt (rt C)) 4 0 (vM (rt C))) (N := roP (ro2 N 3) 0 2 4) (n := 3) (k := 1) (a := 0) (b := 2) hT1 hB1 (LK_P l0) tl_3_1 tg_3_1 with ⟨q1, m1, v1, b1, -, l1⟩ | ⟨q1, k1⟩
    · have hRR : tnR (rt C) 3 (ntab 3) 0 = (true, tnM (updM (rt (rt C)) 4 0 (vM (rt C))) 3 1) := by
        show tnR (rt C) 3 (1 + 1) 0 = _
        rw [tnR_y q0, m0]; exact tnR_y q1
      refine sg_sim hRR (tnM_TI hT1) (TBr_P hB1 m1) (LK_P l1) ?_
      · rw [m1]
        have eS : ∀ q, 51 ≤ q → q ≤ 57 → seM (rt (updM (rt (updM (rt (rt C)) 4 0 (vM (rt C)))) 4 1 (vM (updM (rt (rt C)) 4 0 (vM (rt C)))))) 3 q = C q := fun q a b => by rw [seM_ne (by omega), rt_ne (by omega), U_q (by omega) (by omega), U_q (by omega) (by omega), rt_ne (by omega)]
        have eV : seM (rt (updM (rt (updM (rt (rt C)) 4 0 (vM (rt C)))) 4 1 (vM (updM (rt (rt C)) 4 0 (vM (rt C)))))) 3 4 0 = vM (rt C) := by rw [seM_ne (by decide), rt_ne (by decide), U_j (by decide)]; exact U_k
        have eW : seM (rt (updM (rt (updM (rt (rt C)) 4 0 (vM (rt C)))) 4 1 (vM (updM (rt (rt C)) 4 0 (vM (rt C)))))) 3 4 1 = vM (updM (rt (rt C)) 4 0 (vM (rt C))) := by rw [seM_ne (by decide), rt_ne (by decide)]; exact U_k
        have eX : wrM (seM (rt (updM (rt (updM (rt (rt C)) 4 0 (vM (rt C)))) 4 1 (vM (updM (rt (rt C)) 4 0 (vM (rt C)))))) 3) 3 52 = upd (upd (C 52) 4 (vM (rt C))) 5 (vM (updM (rt (rt C)) 4 0 (vM (rt C)))) := by
          rw [wr_3, updM_eq, updM_eq, eV, eW, eS 52 (by decide) (by decide)]
        refine RDr_rules hR (fun q a b c => ?_) (fun q a b => ?_) (fun j a => ?_) ?_ ?_ ?_
        · show updM (updM _ 52 4 _) 52 5 _ q = _
          rw [updM_ne c, updM_ne c]; exact eS q a b
        · show updM (nuM (updM (nuM _ _ _) 63 4 _) _ _) 63 5 _ q = _
          rw [updM_ne (by omega), nu_ne (by omega), updM_ne (by omega), nu_ne (by omega)]; exact hq0 q (by omega) b
        · show updM (nuM (updM (nuM _ _ _) 63 4 _) _ _) 63 5 _ 58 j = _
          rw [updM_ne (by decide), nu_j (by omega), updM_ne (by decide), nu_j (by omega)]; exact hj0 j a
        · unfold RDa
          rw [eX]
          show ∀ j, j < 6 → updM (nuM (roP (ro2 N 3) 0 2 4) 0 2) 63 5 (nuV (roP (ro2 N 3) 0 2 4) 0 2) 63 j = _
          rw [updM_eq, v1, nu_ne (by decide)]
          show ∀ j, j < 6 → upd (updM (nuM (ro2 N 3) 0 2) 63 4 (nuV (ro2 N 3) 0 2) 63) 5 _ j = _
          rw [updM_eq, v0, nu_ne (by decide), hq0 63 (by decide) (by decide)]
          exact upd_cg (upd_cg hR.1)
        · rw [wr_3, roP_ne (by decide), updM_ne (by decide), updM_ne (by decide), nu_j (by decide), roP_ne (by decide), nu_j (by decide), h16]
          unfold seM
          rw [if_pos (by decide), updM_eq, upd_eq, rt_ne (by decide), U_q (by decide) (by decide), U_q (by decide) (by decide), hs16]
        · obtain ⟨w0, w1, w2, w3, w4, w5⟩ := hR.2.2.2.2.2.2.1
          unfold DWr
          rw [eX]
          exact ⟨w0, w1, w2, w3, by rw [upd_ne (by decide), upd_eq]; exact bt02 b0, by rw [upd_eq]; exact bt02 b1⟩
    · refine fl_sim (n := 3) (N1 := roP (roP (ro2 N 3) 0 2 4) 0 2 5) (C1 := tnM (updM (rt (rt C)) 4 0 (vM (rt C))) 3 1) ?_ (BRK_P k1)
      show tnR (rt C) 3 (1 + 1) 0 = _
      rw [tnR_y q0, m0]; exact tnR_n q1
  · refine fl_sim (n := 3) (N1 := roP (roP (ro2 N 3) 0 2 4) 0 2 5) (tnR_n (c := 1) q0) ?_
    exact BRK_PP k0
