/-! 98: the law: its loop -/
theorem law_loop {b LL : Nat} {xs : Nat → Int32} (hL : LL ≤ 2560) : ∀ (n j : Nat), LL - 5 * j ≤ n → 5 * j ≤ LL → ∀ (G : GD) (M : Mem), LI M → Bl b LL xs G SH 18 [some (.ref 140), some (.ref 0), some (.ref 58), some (.int (nI (5 * j)))] [] M := by
  intro n
  induction n with
  | zero =>
    intro j h1 h2 G M h
    refine Bl_iload_3 (pc := 18) dL_law_18 ?_
    refine Bl_aload_0 (pc := 19) dL_law_19 ?_
    refine Bl_slen (pc := 20) dL_law_20 ?_
    refine Bl_iconst (v := 5) (pc := 21) dL_law_21 (by decide) ?_
    refine Bl_isub (pc := 22) dL_law_22 ?_
    refine Bl_icmp_gt (t := 1380) (pc := 23) dL_law_23 (by decide) (fun _ => Bl_end dL_law_1380 dL_law_1381) (fun q => absurd ?_ q)
    rw [Int32.lt_iff_toInt_lt, i32_sub (by rw [nI_toInt (by omega)]; show -2147483648 ≤ (LL : Int) - 5; omega) (by rw [nI_toInt (by omega)]; show (LL : Int) - 5 < 2147483648; omega), nI_toInt (by omega), nI_toInt (by omega)]
    show (LL : Int) - 5 < ((5 * j : Nat) : Int)
    omega
  | succ n ih =>
    intro j h1 h2 G M h
    refine Bl_iload_3 (pc := 18) dL_law_18 ?_
    refine Bl_aload_0 (pc := 19) dL_law_19 ?_
    refine Bl_slen (pc := 20) dL_law_20 ?_
    refine Bl_iconst (v := 5) (pc := 21) dL_law_21 (by decide) ?_
    refine Bl_isub (pc := 22) dL_law_22 ?_
    refine Bl_icmp_gt (t := 1380) (pc := 23) dL_law_23 (by decide) (fun _ => Bl_end dL_law_1380 dL_law_1381) (fun q => ?_)
    have hj : 5 * j + 5 ≤ LL := by
      rw [Int32.lt_iff_toInt_lt, i32_sub (by rw [nI_toInt (by omega)]; show -2147483648 ≤ (LL : Int) - 5; omega) (by rw [nI_toInt (by omega)]; show (LL : Int) - 5 < 2147483648; omega), nI_toInt (by omega), nI_toInt (by omega)] at q
      have q : ¬ (LL : Int) - 5 < ((5 * j : Nat) : Int) := q
      omega
    have kN : ∀ (G : GD) (N : Mem), LI N → Bl b LL xs G SH 1374 [some (.ref 140), some (.ref 0), some (.ref 58), some (.int (nI (5 * j)))] [] N := by
      intro G N hN
      refine Bl_iinc_3 (pc := 1374) dL_law_1374 (show nI (5 * j) + Int32.ofInt 5 = nI (5 * (j + 1)) from by rw [show Int32.ofInt 5 = nI 5 from rfl, nI_ad]; congr 1) rfl ?_
      refine Bl_goto (t := 18) (pc := 1377) dL_law_1377 (by decide) ?_
      exact ih (j + 1) (by omega) (by omega) G N hN
    refine Bl_aload_0 (pc := 26) dL_law_26 ?_
    refine Bl_iload_3 (pc := 27) dL_law_27 ?_
    refine Bl_sld (j := 5 * j) (pc := 28) dL_law_28 (vpi (by omega) (by omega)) (nI_clamp (by omega)) ?_
    refine Bl_bipush (v := 63) (pc := 29) dL_law_29 (by decide) ?_
    refine Bl_iand (pc := 31) dL_law_31 ?_
    generalize xs (5 * j) &&& 63 = x
    by_cases hx : x.toInt < 0 ∨ 39 < x.toInt
    · exact Bl_swOut (t := 1374) (pc := 32) dL_law_32 hx (by decide) (kN G M h)
    · obtain ⟨t, ht, et⟩ : ∃ t : Nat, t < 40 ∧ x.toInt = (t : Int) := ⟨x.toInt.toNat, by omega, by omega⟩
      match t, ht, et with
      | 0, _, et => exact Bl_swIn (t := 208) (o := 176) (pc := 32) dL_law_32 (by rw [et]; decide) (by rw [et]; decide) (by rw [et]; rfl) (by decide) (case_0 hj hL h kN)
      | 1, _, et => exact Bl_swIn (t := 261) (o := 229) (pc := 32) dL_law_32 (by rw [et]; decide) (by rw [et]; decide) (by rw [et]; rfl) (by decide) (case_1 hj hL h kN)
      | 2, _, et => exact Bl_swIn (t := 284) (o := 252) (pc := 32) dL_law_32 (by rw [et]; decide) (by rw [et]; decide) (by rw [et]; rfl) (by decide) (case_2 hj hL h kN)
      | 3, _, et => exact Bl_swIn (t := 297) (o := 265) (pc := 32) dL_law_32 (by rw [et]; decide) (by rw [et]; decide) (by rw [et]; rfl) (by decide) (case_3 hj hL h kN)
      | 4, _, et => exact Bl_swIn (t := 310) (o := 278) (pc := 32) dL_law_32 (by rw [et]; decide) (by rw [et]; decide) (by rw [et]; rfl) (by decide) (case_4 hj hL h kN)
      | 5, _, et => exact Bl_swIn (t := 333) (o := 301) (pc := 32) dL_law_32 (by rw [et]; decide) (by rw [et]; decide) (by rw [et]; rfl) (by decide) (case_5 hj hL h kN)
      | 6, _, et => exact Bl_swIn (t := 366) (o := 334) (pc := 32) dL_law_32 (by rw [et]; decide) (by rw [et]; decide) (by rw [et]; rfl) (by decide) (case_6 hj hL h kN)
      | 7, _, et => exact Bl_swIn (t := 389) (o := 357) (pc := 32) dL_law_32 (by rw [et]; decide) (by rw [et]; decide) (by rw [et]; rfl) (by decide) (case_7 hj hL h kN)
      | 8, _, et => exact Bl_swIn (t := 422) (o := 390) (pc := 32) dL_law_32 (by rw [et]; decide) (by rw [et]; decide) (by rw [et]; rfl) (by decide) (case_8 hj hL h kN)
      | 9, _, et => exact Bl_swIn (t := 455) (o := 423) (pc := 32) dL_law_32 (by rw [et]; decide) (by rw [et]; decide) (by rw [et]; rfl) (by decide) (case_9 hj hL h kN)
      | 10, _, et => exact Bl_swIn (t := 488) (o := 456) (pc := 32) dL_law_32 (by rw [et]; decide) (by rw [et]; decide) (by rw [et]; rfl) (by decide) (case_10 hj hL h kN)
      | 11, _, et => exact Bl_swIn (t := 521) (o := 489) (pc := 32) dL_law_32 (by rw [et]; decide) (by rw [et]; decide) (by rw [et]; rfl) (by decide) (case_11 hj hL h kN)
      | 12, _, et => exact Bl_swIn (t := 554) (o := 522) (pc := 32) dL_law_32 (by rw [et]; decide) (by rw [et]; decide) (by rw [et]; rfl) (by decide) (case_12 hj hL h kN)
      | 13, _, et => exact Bl_swIn (t := 597) (o := 565) (pc := 32) dL_law_32 (by rw [et]; decide) (by rw [et]; decide) (by rw [et]; rfl) (by decide) (case_13 hj hL h kN)
      | 14, _, et => exact Bl_swIn (t := 610) (o := 578) (pc := 32) dL_law_32 (by rw [et]; decide) (by rw [et]; decide) (by rw [et]; rfl) (by decide) (case_14 hj hL h kN)
      | 15, _, et => exact Bl_swIn (t := 643) (o := 611) (pc := 32) dL_law_32 (by rw [et]; decide) (by rw [et]; decide) (by rw [et]; rfl) (by decide) (case_15 hj hL h kN)
      | 16, _, et => exact Bl_swIn (t := 702) (o := 670) (pc := 32) dL_law_32 (by rw [et]; decide) (by rw [et]; decide) (by rw [et]; rfl) (by decide) (case_16 hj hL h kN)
      | 17, _, et => exact Bl_swIn (t := 735) (o := 703) (pc := 32) dL_law_32 (by rw [et]; decide) (by rw [et]; decide) (by rw [et]; rfl) (by decide) (case_17 hj hL h kN)
      | 18, _, et => exact Bl_swIn (t := 758) (o := 726) (pc := 32) dL_law_32 (by rw [et]; decide) (by rw [et]; decide) (by rw [et]; rfl) (by decide) (case_18 hj hL h kN)
      | 19, _, et => exact Bl_swIn (t := 781) (o := 749) (pc := 32) dL_law_32 (by rw [et]; decide) (by rw [et]; decide) (by rw [et]; rfl) (by decide) (case_19 hj hL h kN)
      | 20, _, et => exact Bl_swIn (t := 804) (o := 772) (pc := 32) dL_law_32 (by rw [et]; decide) (by rw [et]; decide) (by rw [et]; rfl) (by decide) (case_20 hj hL h kN)
      | 21, _, et => exact Bl_swIn (t := 827) (o := 795) (pc := 32) dL_law_32 (by rw [et]; decide) (by rw [et]; decide) (by rw [et]; rfl) (by decide) (case_21 hj hL h kN)
      | 22, _, et => exact Bl_swIn (t := 860) (o := 828) (pc := 32) dL_law_32 (by rw [et]; decide) (by rw [et]; decide) (by rw [et]; rfl) (by decide) (case_22 hj hL h kN)
      | 23, _, et => exact Bl_swIn (t := 903) (o := 871) (pc := 32) dL_law_32 (by rw [et]; decide) (by rw [et]; decide) (by rw [et]; rfl) (by decide) (case_23 hj hL h kN)
      | 24, _, et => exact Bl_swIn (t := 946) (o := 914) (pc := 32) dL_law_32 (by rw [et]; decide) (by rw [et]; decide) (by rw [et]; rfl) (by decide) (case_24 hj hL h kN)
      | 25, _, et => exact Bl_swIn (t := 969) (o := 937) (pc := 32) dL_law_32 (by rw [et]; decide) (by rw [et]; decide) (by rw [et]; rfl) (by decide) (case_25 hj hL h kN)
      | 26, _, et => exact Bl_swIn (t := 992) (o := 960) (pc := 32) dL_law_32 (by rw [et]; decide) (by rw [et]; decide) (by rw [et]; rfl) (by decide) (case_26 hj hL h kN)
      | 27, _, et => exact Bl_swIn (t := 1005) (o := 973) (pc := 32) dL_law_32 (by rw [et]; decide) (by rw [et]; decide) (by rw [et]; rfl) (by decide) (case_27 hj hL h kN)
      | 28, _, et => exact Bl_swIn (t := 1038) (o := 1006) (pc := 32) dL_law_32 (by rw [et]; decide) (by rw [et]; decide) (by rw [et]; rfl) (by decide) (case_28 hj hL h kN)
      | 29, _, et => exact Bl_swIn (t := 1061) (o := 1029) (pc := 32) dL_law_32 (by rw [et]; decide) (by rw [et]; decide) (by rw [et]; rfl) (by decide) (case_29 hj hL h kN)
      | 30, _, et => exact Bl_swIn (t := 1074) (o := 1042) (pc := 32) dL_law_32 (by rw [et]; decide) (by rw [et]; decide) (by rw [et]; rfl) (by decide) (case_30 hj hL h kN)
      | 31, _, et => exact Bl_swIn (t := 1107) (o := 1075) (pc := 32) dL_law_32 (by rw [et]; decide) (by rw [et]; decide) (by rw [et]; rfl) (by decide) (case_31 hj hL h kN)
      | 32, _, et => exact Bl_swIn (t := 1130) (o := 1098) (pc := 32) dL_law_32 (by rw [et]; decide) (by rw [et]; decide) (by rw [et]; rfl) (by decide) (case_32 hj hL h kN)
      | 33, _, et => exact Bl_swIn (t := 1153) (o := 1121) (pc := 32) dL_law_32 (by rw [et]; decide) (by rw [et]; decide) (by rw [et]; rfl) (by decide) (case_33 hj hL h kN)
      | 34, _, et => exact Bl_swIn (t := 1176) (o := 1144) (pc := 32) dL_law_32 (by rw [et]; decide) (by rw [et]; decide) (by rw [et]; rfl) (by decide) (case_34 hj hL h kN)
      | 35, _, et => exact Bl_swIn (t := 1199) (o := 1167) (pc := 32) dL_law_32 (by rw [et]; decide) (by rw [et]; decide) (by rw [et]; rfl) (by decide) (case_35 hj hL h kN)
      | 36, _, et => exact Bl_swIn (t := 1242) (o := 1210) (pc := 32) dL_law_32 (by rw [et]; decide) (by rw [et]; decide) (by rw [et]; rfl) (by decide) (case_36 hj hL h kN)
      | 37, _, et => exact Bl_swIn (t := 1285) (o := 1253) (pc := 32) dL_law_32 (by rw [et]; decide) (by rw [et]; decide) (by rw [et]; rfl) (by decide) (case_37 hj hL h kN)
      | 38, _, et => exact Bl_swIn (t := 1338) (o := 1306) (pc := 32) dL_law_32 (by rw [et]; decide) (by rw [et]; decide) (by rw [et]; rfl) (by decide) (case_38 hj hL h kN)
      | 39, _, et => exact Bl_swIn (t := 1351) (o := 1319) (pc := 32) dL_law_32 (by rw [et]; decide) (by rw [et]; decide) (by rw [et]; rfl) (by decide) (case_39 hj hL h kN)
      | t + 40, hz, _ => exact absurd hz (by omega)
/-- the memory behind both constructors -/
def M0 : Mem := fun k => if k = 45 then rulF else if k = 52 then rulF else if k = 34 then (fun j => if j = 1 then -1 else 0) else if k = 36 then (fun j => if j = 1 then -1 else 0) else if k = 38 then (fun j => if j = 1 then -1 else 0) else if k = 40 then (fun j => if j = 1 then -1 else 0) else if k = 60 then k8r else if k = 68 then k8c else if k = 69 then k8l else if k = 76 then k8n else fun _ => 0
theorem b0 {lo hi : Int} (h1 : lo ≤ 0) (h2 : 0 ≤ hi) : bt 0 lo hi := ⟨by rw [Int32.toInt_zero]; exact h1, by rw [Int32.toInt_zero]; exact h2⟩
theorem nov {P : Prop} {t : Nat} (h : t < cn 0) : P := absurd h (Nat.not_lt_zero t)
theorem k8_c : ∀ j, j < 8 → k8c j = cutT.getD j 0 := by decide +kernel
theorem k8_l : ∀ j, j < 30 → k8l j = letT.getD j 0 := by decide +kernel
theorem k8_r : ∀ j, j < 4 → k8r j = rulF j := by decide +kernel
theorem M0_LI : LI M0 := by
  have n1 : ¬ (0 : Int32) = 1 := by decide
  refine ⟨⟨?_, ?_, ⟨?_, ?_⟩, ?_, ?_, ?_, ?_, ?_⟩, ?_, ?_, ⟨?_, ?_⟩, ?_, ?_, ⟨?_, ?_, ?_, ?_⟩, ?_⟩
  · exact ⟨⟨show bt 9 1 9 from ⟨by decide, by decide⟩, show bt 9 1 9 from ⟨by decide, by decide⟩, show bt 2 1 9 from ⟨by decide, by decide⟩, show bt 3 1 9 from ⟨by decide, by decide⟩, show bt 1 0 2 from ⟨by decide, by decide⟩, show bt 1 0 2 from ⟨by decide, by decide⟩⟩, ⟨b0 (by decide) (by decide), b0 (by decide) (by decide), b0 (by decide) (by decide)⟩, fun t h => nov h, fun t h => nov h, fun t h => nov h⟩
  · exact ⟨b0 (by decide) (by decide), show bt 0 0 (0 : Int32).toInt from b0 (by decide) (by decide), fun t h => nov h, fun t h => nov h⟩
  · exact ⟨b0 (by decide) (by decide), fun z => absurd (show (0 : Int32) = 1 from z) n1⟩
  · exact ⟨b0 (by decide) (by decide), fun z => absurd (show (0 : Int32) = 1 from z) n1⟩
  · exact ⟨b0 (by decide) (by decide), fun i _ => show bt 0 (-128) 127 from b0 (by decide) (by decide)⟩
  · exact ⟨show bt (-1) (-1) 2 from ⟨by decide, by decide⟩, b0 (by decide) (by decide)⟩
  · exact ⟨show bt (-1) (-1) 2 from ⟨by decide, by decide⟩, b0 (by decide) (by decide)⟩
  · exact ⟨show bt (-1) (-1) 2 from ⟨by decide, by decide⟩, b0 (by decide) (by decide)⟩
  · exact ⟨show bt (-1) (-1) 2 from ⟨by decide, by decide⟩, b0 (by decide) (by decide)⟩
  · exact ⟨fun j hj => k8_r j hj, Or.inr ⟨rfl, rfl, rfl⟩, rfl, fun t h => nov h, rfl, fun t h => nov h, rfl, fun t h => nov h⟩
  · exact ⟨rfl, fun t h => nov h, rfl, fun t h => nov h⟩
  · exact ⟨rfl, fun z => absurd (show (0 : Int32) = 1 from z) n1⟩
  · exact ⟨rfl, fun z => absurd (show (0 : Int32) = 1 from z) n1⟩
  · exact ⟨rfl, fun t h => nov h⟩
  · exact ⟨rfl, rfl⟩
  · exact ⟨Or.inl ⟨rfl, rfl⟩, rfl, fun _ _ => rfl⟩
  · exact ⟨Or.inl ⟨rfl, rfl⟩, rfl, fun _ _ => rfl⟩
  · exact ⟨Or.inl ⟨rfl, rfl⟩, rfl, fun _ _ => rfl⟩
  · exact ⟨Or.inl ⟨rfl, rfl⟩, rfl, fun _ _ => rfl⟩
  · exact ⟨fun j hj => k8_c j hj, fun j hj => k8_l j hj⟩
/-- where a cell lies in the order of its making -/
def g0 (k : Nat) : Nat := if k ≤ 16 then k else if k ≤ 32 then k + 17 else if k = 33 then 17 else if k ≤ 41 then k + 16 else if k = 42 then 18 else if k = 43 then 19 else if k ≤ 57 then k - 24 else k
def g1 (k : Nat) : Nat := if k ≤ 16 then k else if k = 17 then 33 else if k = 18 then 42 else if k = 19 then 43 else if k ≤ 33 then k + 24 else if k ≤ 49 then k - 17 else if k ≤ 57 then k - 16 else k
theorem g1_0 : ∀ k, k < 79 → g1 (g0 k) = k := by decide +kernel
theorem up2 {f : Nat → Nat} {a c : Nat} (h1 : f 17 = a) (h2 : f 25 = c) : va_up (va_up (fun _ => none) 0 (some a)) 1 (some c) = fun j => (([17, 25] : List Nat)[j]?).map f := by
  funext j
  match j with
  | 0 => rw [← h1]; rfl
  | 1 => rw [← h2]; rfl
  | j + 2 => rfl
theorem up4 {f : Nat → Nat} {a c d e : Nat} (h1 : f 34 = a) (h2 : f 36 = c) (h3 : f 38 = d) (h4 : f 40 = e) : va_up (va_up (va_up (va_up (fun _ => none) 0 (some a)) 1 (some c)) 2 (some d)) 3 (some e) = fun j => (([34, 36, 38, 40] : List Nat)[j]?).map f := by
  funext j
  match j with
  | 0 => rw [← h1]; rfl
  | 1 => rw [← h2]; rfl
  | 2 => rw [← h3]; rfl
  | 3 => rw [← h4]; rfl
  | j + 4 => rfl
