/-! 83: land: both sides read the same tokens -/
abbrev byQ (b : Int32) : Prop := 0 ≤ b &&& 255 ∧ (ltP (b &&& 255) ↔ ltP b) ∧ (fgP (b &&& 255) ↔ fgP b) ∧ (b &&& 255 = 32 ↔ b = 32) ∧ (b &&& 255 = 59 ↔ b = 59) ∧ (0 ≤ b → b &&& 255 = b)
theorem byQ_f : ∀ n, n < 256 → byQ (nI n - 128) := by decide +kernel
theorem byQ_a {b : Int32} (hb : bt b (-128) 127) : byQ b := by
  obtain ⟨h1, h2⟩ := hb
  have e : b = nI (b.toInt + 128).toNat - 128 := by
    apply Int32.toInt_inj.mp
    have e1 : (nI (b.toInt + 128).toNat).toInt = b.toInt + 128 := by rw [nI_toInt (by omega)]; omega
    have e2 : (128 : Int32).toInt = 128 := by decide
    rw [i32_sub (by rw [e1, e2]; omega) (by rw [e1, e2]; omega), e1, e2]
    omega
  rw [e]
  exact byQ_f _ (by omega)
theorem by_ch {b c : Int32} (hb : byQ b) (hc : ltP c) : b &&& 255 = c ↔ b = c := by
  constructor
  · intro h
    have hl : ltP b := hb.2.1.mp (h ▸ hc)
    have h0 : 0 ≤ b := Int32.le_trans (by decide) hl.1
    rw [← h, hb.2.2.2.2.2 h0]
  · intro h
    rw [h] at hb ⊢
    exact hb.2.2.2.2.2 (Int32.le_trans (by decide) hc.1)
theorem rnE_cg {p : Int32 → Bool} {f g : Nat → Int32} {L : Nat} (h : ∀ k, k < L → p (f k) = p (g k)) : ∀ k i, i + k ≤ L → rnE p f k i = rnE p g k i
  | 0, _, _ => rfl
  | k + 1, i, hi => by
    unfold rnE
    rw [h i (by omega), rnE_cg h k (i + 1) (by omega)]
theorem nmE_cg {f g : Nat → Int32} {L : Nat} (h : ∀ k, k < L → fgB (f k) = fgB (g k)) (h2 : ∀ k, k < L → fgB (g k) = true → f k = g k) : ∀ k i v, i + k ≤ L → nmE f k i v = nmE g k i v
  | 0, _, _, _ => rfl
  | k + 1, i, v, hi => by
    unfold nmE
    rw [h i (by omega)]
    by_cases z : fgB (g i) = true
    · rw [if_pos z, if_pos z, h2 i (by omega) z]
      exact nmE_cg h h2 k (i + 1) _ (by omega)
    · rw [if_neg z, if_neg z]
theorem nmR_v {f : Nat → Int32} {s : Nat} : ∀ k i v, s ≤ i → i + k < 2 ^ 31 → (nmE f k i v).1 ≤ s + 3 → (nmR f s k i v).2 = (nmE f k i v).2
  | 0, _, _, _, _, _ => rfl
  | k + 1, i, v, hs, hb, h => by
    unfold nmR nmE
    unfold nmE at h
    by_cases z : fgB (f i) = true
    · rw [if_pos z] at h
      have h1 := nmE_le (f := f) k (i + 1) (10 * v + f i - 48)
      rw [if_pos z, if_pos z, if_pos (show nI i - nI s < 3 from by rw [nI_sb hs]; exact nI_lt (b := 3) (by omega) (by decide))]
      exact nmR_v k (i + 1) _ (by omega) (by omega) h
    · rw [if_neg z, if_neg z]
/-- the tape on both sides -/
def TBr (C N : Mem) : Prop := N 58 18 = C 1 2 ∧ ∀ k, k < tL C → N 67 k = C 2 k &&& 255 ∧ byQ (C 2 k)
theorem TBr_c {C N C' N' : Mem} (h : TBr C N) (e1 : C' 1 2 = C 1 2) (e2 : C' 2 = C 2) (e3 : N' 58 18 = N 58 18) (e4 : N' 67 = N 67) : TBr C' N' := by
  unfold TBr tL at *
  rw [e1, e2, e3, e4]
  exact h
def LK (C N : Mem) : Prop := (kM C = 0 ∧ N 58 20 = 1 ∧ N 58 21 = nI (sM C)) ∨ (¬ kM C = 0 ∧ N 58 20 = 0 ∧ N 58 22 = nI (eM C) ∧ N 58 23 = nI (sM C) ∧ N 58 24 = (if kM C = 4 then 0 else kM C) ∧ (kM C = 2 → N 58 25 = vM C))
theorem st_sim {C N : Mem} (hT : TI C) (hB : TBr C N) (hI : N 58 22 = C 1 1) (h0 : N 58 20 = 0) : LK C (stM N) := by
  have eI : uI N = tI C := by show cn (N 58 22) = _; rw [hI]
  have eL : uL N = tL C := by show cn (N 58 18) = _; rw [hB.1]
  have hb := hT.2.2.2
  have hi := hT.2.2.1
  have es : sR N = sM C := by
    show rnE spB (N 67) (uL N - uI N) (uI N) = rnE spB (C 2) (tL C - tI C) (tI C)
    rw [eI, eL]
    refine rnE_cg (L := tL C) (fun k hk => ?_) _ _ (by omega)
    rw [(hB.2 k hk).1]
    exact decide_eq_decide.mpr (hB.2 k hk).2.2.2.2.1
  have hs := sM_b hT
  by_cases a : tL C ≤ sM C
  · have ek : kM C = 4 := by unfold kM tkK; rw [if_pos a]
    have ee : eM C = sM C := by unfold eM tkE; rw [if_pos a]
    right
    rw [stM_e h0 (by rw [eL, es]; exact a), ek, ee, es]
    refine ⟨by decide, by rw [stG_j]; exact h0, by rw [stG_j]; rfl, by rw [stG_j]; rfl, by rw [stG_j]; rfl, fun z => absurd z (by decide)⟩
  · have hlt : sM C < tL C := Nat.not_le.mp a
    have hq := (hB.2 _ hlt).2
    have e67 := (hB.2 _ hlt).1
    have a' : ¬ uL N ≤ sR N := by rw [eL, es]; exact a
    by_cases b : ltP (C 2 (sM C))
    · have ek : kM C = 1 := by unfold kM tkK; rw [if_neg a, if_pos b]
      have ee : eM C = rnE ltB (C 2) (tL C - sM C) (sM C) := by unfold eM tkE; rw [if_neg a, if_pos b]
      have b' : ltP (N 67 (sR N)) := by rw [es, e67]; exact hq.2.1.mpr b
      have er : rnE ltB (N 67) (uL N - sR N) (sR N) = rnE ltB (C 2) (tL C - sM C) (sM C) := by
        rw [eL, es]
        refine rnE_cg (L := tL C) (fun k hk => ?_) _ _ (by omega)
        rw [(hB.2 k hk).1]
        exact decide_eq_decide.mpr (hB.2 k hk).2.2.1
      right
      rw [stM_n h0 a' b', ek, ee, er, es]
      refine ⟨by decide, by rw [stG_j]; exact h0, by rw [stG_j]; rfl, by rw [stG_j]; rfl, by rw [stG_j]; rfl, fun z => absurd z (by decide)⟩
    · have b' : ¬ ltP (N 67 (sR N)) := by rw [es, e67]; exact fun z => b (hq.2.1.mp z)
      by_cases c : fgP (C 2 (sM C))
      · have c' : fgP (N 67 (sR N)) := by rw [es, e67]; exact hq.2.2.1.mpr c
        have ee : eM C = (nmE (C 2) (tL C - sM C) (sM C) 0).1 := by unfold eM tkE; rw [if_neg a, if_neg b, if_pos c]
        have en : nmE (N 67) (uL N - sR N) (sR N) 0 = nmE (C 2) (tL C - sM C) (sM C) 0 := by
          rw [eL, es]
          refine nmE_cg (L := tL C) (fun k hk => ?_) (fun k hk hf => ?_) _ _ _ (by omega)
          · rw [(hB.2 k hk).1]
            exact decide_eq_decide.mpr (hB.2 k hk).2.2.2.1
          · rw [(hB.2 k hk).1]
            exact (hB.2 k hk).2.2.2.2.2.2 (Int32.le_trans (by decide) (of_decide_eq_true hf).1)
        have ef : (nmR (N 67) (sR N) (uL N - sR N) (sR N) 0).1 = (nmE (C 2) (tL C - sM C) (sM C) 0).1 := by rw [nmR_1 _ _ 0 0, en]
        have hle := nmE_le (f := C 2) (tL C - sM C) (sM C) 0
        by_cases d : nI (nmE (C 2) (tL C - sM C) (sM C) 0).1 - nI (sM C) ≤ 3
        · have ek : kM C = 2 := by unfold kM tkK; rw [if_neg a, if_neg b, if_pos c, if_pos d]
          have ev : vM C = (nmE (C 2) (tL C - sM C) (sM C) 0).2 := by unfold vM tkV; rw [if_neg a, if_neg b, if_pos c]
          have d3 : (nmE (C 2) (tL C - sM C) (sM C) 0).1 ≤ sM C + 3 := by
            refine Nat.not_lt.mp (fun z => ?_)
            rw [nI_sb hle.1] at d
            exact nI_ge (a := 3) (show 3 < (nmE (C 2) (tL C - sM C) (sM C) 0).1 - sM C by omega) (by omega) d
          have ew : (nmR (N 67) (sR N) (uL N - sR N) (sR N) 0).2 = vM C := by
            rw [nmR_v _ _ _ (Nat.le_refl _) (by rw [eL, es]; omega) (by rw [en, es]; exact d3), en, ev]
          right
          rw [stM_g h0 (fun z => z.2.2.elim (fun y => y.2 (by rw [en, es]; exact d)) (fun y => y.1 c')), stN_f a' b' c', ef, ew, ek, ee, es]
          refine ⟨by decide, by rw [stG_j]; exact h0, by rw [stG_j]; rfl, by rw [stG_j]; rfl, by rw [stG_j]; rfl, fun _ => by rw [stG_j]; rfl⟩
        · have ek : kM C = 0 := by unfold kM tkK; rw [if_neg a, if_neg b, if_pos c, if_neg d]
          left
          have h20 : stN N 58 20 = 0 := by unfold stN; rw [stG_j]; exact h0
          rw [stM_x h0 ⟨a', b', Or.inl ⟨c', by rw [en, es]; exact d⟩⟩, flM_0 h20]
          exact ⟨ek, rfl, by show stN N 58 23 = _; unfold stN; rw [stG_j, es]; rfl⟩
      · have c' : ¬ fgP (N 67 (sR N)) := by rw [es, e67]; exact fun z => c (hq.2.2.1.mp z)
        have ee : eM C = sM C + 1 := by unfold eM tkE; rw [if_neg a, if_neg b, if_neg c]
        by_cases d : C 2 (sM C) = 59
        · have ek : kM C = 3 := by unfold kM tkK; rw [if_neg a, if_neg b, if_neg c, if_pos d]
          right
          rw [stM_g h0 (fun z => z.2.2.elim (fun y => c' y.1) (fun y => y.2 (by rw [es, e67]; exact hq.2.2.2.2.1.mpr d))), stN_o a' b' c', ek, ee, es, nI_succ]
          refine ⟨by decide, by rw [stG_j]; exact h0, by rw [stG_j]; rfl, by rw [stG_j]; rfl, by rw [stG_j]; rfl, fun z => absurd z (by decide)⟩
        · have ek : kM C = 0 := by unfold kM tkK; rw [if_neg a, if_neg b, if_neg c, if_neg d]
          left
          have h20 : stN N 58 20 = 0 := by unfold stN; rw [stG_j]; exact h0
          rw [stM_x h0 ⟨a', b', Or.inr ⟨c', by rw [es, e67]; exact fun z => d (hq.2.2.2.2.1.mp z)⟩⟩, flM_0 h20]
          exact ⟨ek, rfl, by show stN N 58 23 = _; unfold stN; rw [stG_j, es]; rfl⟩
/-- the same fault on both sides -/
def BRK (C N : Mem) : Prop := 0 < N 58 20 ∧ N 58 20 = C 3 3 ∧ N 58 21 = C 3 2
theorem BRK.nz {C N : Mem} (h : BRK C N) : ¬ N 58 20 = 0 := fun z => by have := h.1; rw [z] at this; exact absurd this (by decide)
theorem mp_sim {C N : Mem} (hL : LK C N) (h2 : N 58 20 = 0 → kM C ≠ 0) : BRK (mpM (rt C)) (flM N 2) := by
  have e2 : mpM (rt C) 3 2 = nI (sM C) := by show rt C 1 4 = _; exact rt_4
  have e3 : mpM (rt C) 3 3 = if kM C = 0 then 1 else 2 := by show (if rt C 1 3 = 0 then (1 : Int32) else 2) = _; rw [rt_3]
  rcases hL with ⟨a, b, c⟩ | ⟨a, b, c, d, -⟩
  · have nz : ¬ N 58 20 = 0 := by rw [b]; decide
    rw [flM_1 nz]
    exact ⟨by rw [b]; decide, by rw [e3, if_pos a, b], by rw [e2, c]⟩
  · rw [flM_0 b]
    exact ⟨by show (0 : Int32) < 2; decide, by rw [e3, if_neg a]; rfl, by rw [e2]; exact d⟩
theorem num_sim {C N : Mem} {n k : Nat} {a b : Int32} (hT : TI C) (hB : TBr C N) (hL : LK C N) (ha : tnL (rt C) n k = a) (hb : tnG n k = b) :
    (tnQ C n k ∧ tnM C n k = updM (rt C) 4 k (vM C) ∧ nuV N a b = vM C ∧ (a ≤ vM C ∧ vM C ≤ b) ∧ N 58 20 = 0 ∧ LK (tnM C n k) (nuM N a b)) ∨ (¬ tnQ C n k ∧ BRK (tnM C n k) (nuM N a b)) := by
  by_cases h2 : kM C = 2
  · have h20 : N 58 20 = 0 := by
      rcases hL with ⟨z, -⟩ | ⟨-, z, -⟩
      · rw [h2] at z; exact absurd z (by decide)
      · exact z
    obtain ⟨-, -, l22, l23, l24, l25⟩ := hL.resolve_left (fun z => absurd (h2.symm.trans z.1) (by decide))
    have l24 : N 58 24 = 2 := by rw [l24, h2]; rfl
    have l25 := l25 h2
    have r3 : rt C 1 3 = 2 := rt_3.trans h2
    by_cases hp : a ≤ vM C ∧ vM C ≤ b
    · left
      have hq : tnP (rt C) n k := by unfold tnP; rw [ha, hb, rt_5]; exact hp
      have em : tnM C n k = updM (rt C) 4 k (vM C) := by unfold tnM; rw [if_pos r3, if_pos hq, rt_5]
      have en : nuM N a b = stM N := by unfold nuM; rw [if_pos h20, if_pos l24, if_pos (by rw [l25]; exact hp)]
      refine ⟨⟨r3, hq⟩, em, by unfold nuV; rw [if_pos ⟨h20, l24, by rw [l25]; exact hp⟩, l25], hp, h20, ?_⟩
      rw [en]
      refine st_sim (tnM_TI hT) (TBr_c hB ?_ ?_ rfl rfl) ?_ h20
      · rw [em, updM_ne (by decide)]; exact rt_2
      · rw [em, updM_ne (by decide)]; exact rt_ne (by decide)
      · rw [em, updM_ne (by decide), rt_1]; exact l22
    · right
      have hq : ¬ tnP (rt C) n k := fun z => hp (by unfold tnP at z; rw [ha, hb, rt_5] at z; exact z)
      refine ⟨fun z => hq z.2, ?_⟩
      have em : tnM C n k = rf (rt C) 3 (rt C 1 4) := by unfold tnM; rw [if_pos r3, if_neg hq]
      have en : nuM N a b = flM N 3 := by unfold nuM; rw [if_pos h20, if_pos l24, if_neg (by rw [l25]; exact hp)]
      rw [em, en, flM_0 h20]
      exact ⟨by show (0 : Int32) < 3; decide, rfl, by show N 58 23 = rt C 1 4; rw [rt_4, l23]⟩
  · right
    have r3 : ¬ rt C 1 3 = 2 := fun z => h2 (rt_3.symm.trans z)
    refine ⟨fun z => r3 z.1, ?_⟩
    have em : tnM C n k = mpM (rt C) := by unfold tnM; rw [if_neg r3]
    have en : nuM N a b = flM N 2 := by
      rcases hL with ⟨-, z, -⟩ | ⟨z0, z, -, -, z24, -⟩
      · have nz : ¬ N 58 20 = 0 := by rw [z]; decide
        unfold nuM
        rw [if_neg nz, flM_1 nz]
      · unfold nuM
        rw [if_pos z, if_neg]
        rw [z24]
        split
        · decide
        · exact h2
    rw [em, en]
    refine mp_sim hL (fun z => ?_)
    rcases hL with ⟨-, y, -⟩ | ⟨y, -⟩
    · rw [y] at z; exact absurd z (by decide)
    · exact y
/-- behind a fault nothing is read -/
theorem nu_b {N : Mem} {a b : Int32} (h : ¬ N 58 20 = 0) : nuM N a b = N := by unfold nuM; rw [if_neg h]
theorem nuV_b {N : Mem} {a b : Int32} (h : ¬ N 58 20 = 0) : nuV N a b = a := by unfold nuV; rw [if_neg (fun z => h z.1)]
theorem rlT_b {N : Mem} (h : ¬ N 58 20 = 0) : rlT N = N := by unfold rlT; rw [if_neg (fun z => h z.1), stM_1 h]
/-- which rows and places stay -/
theorem fl_ne {N : Mem} {c : Int32} {q : Nat} (h : q ≠ 58) : flM N c q = N q := by
  unfold flM
  split
  · rw [updM_ne h, updM_ne h]
  · rfl
theorem fl_j {N : Mem} {c : Int32} {j : Nat} (h : j < 20) : flM N c 58 j = N 58 j := by
  unfold flM
  split
  · rw [updM_eq, upd_ne (by omega), updM_eq, upd_ne (by omega)]
  · rfl
theorem st_ne {N : Mem} {q : Nat} (h : q ≠ 58) : stM N q = N q := by
  unfold stM
  split
  · split
    · rw [fl_ne h]; exact stG_ne h
    · exact stG_ne h
  · rfl
theorem stN_j {N : Mem} {j : Nat} (h : j < 20) : stN N 58 j = N 58 j := by
  unfold stN
  rw [stG_j, if_neg (by omega), if_neg (by omega), if_neg (by omega), if_neg (by omega)]
theorem st_j {N : Mem} {j : Nat} (h : j < 20) : stM N 58 j = N 58 j := by
  unfold stM
  split
  · split
    · rw [fl_j h]; exact stN_j h
    · exact stN_j h
  · rfl
theorem nu_ne {N : Mem} {a b : Int32} {q : Nat} (h : q ≠ 58) : nuM N a b q = N q := by
  unfold nuM
  split
  · split
    · split
      · exact st_ne h
      · exact fl_ne h
    · exact fl_ne h
  · rfl
theorem nu_j {N : Mem} {a b : Int32} {j : Nat} (h : j < 20) : nuM N a b 58 j = N 58 j := by
  unfold nuM
  split
  · split
    · split
      · exact st_j h
      · exact fl_j h
    · exact fl_j h
  · rfl
