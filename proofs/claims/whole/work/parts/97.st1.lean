/-! 97: the law: the start: constants -/
def FL1 : List Cond := flatC (Jvm.Cond.and given_1 narrow_1)
abbrev tmS (i : Nat) : Term := Term.string RX6 (strI.getD i (0, "")).1
abbrev tmV (i : Nat) : Term := Term.field (tmS i) "java/lang/String" "value" "[B"
theorem fl_ex : ∀ i, i < 7 → Cond.exactly (tmS i) "java/lang/String" ∈ FL1 := by decide +kernel
theorem fl_co : ∀ i, i < 7 → Cond.eq (.field (tmS i) "java/lang/String" "coder" "B") (.int 0) ∈ FL1 := by decide +kernel
theorem fl_ar : ∀ i, i < 7 → Cond.arrayOf (tmV i) .byte ∈ FL1 := by decide +kernel
theorem fl_le : ∀ i, i < 7 → Cond.eq (.length (tmV i)) (.int (Int32.ofNat (strL.getD i 0))) ∈ FL1 := by decide +kernel
theorem fl_el : ∀ i, i < 7 → ∀ j, j < strL.getD i 0 → Cond.eq (.elem (tmV i) (.int (Int32.ofNat j))) (.int ((strB.getD i []).getD j 0)) ∈ FL1 := by decide +kernel
theorem fl_nq : ∀ i, i < 7 → ∀ j, j < 7 → i ≠ j → Cond.not (Cond.eq (tmS i) (tmS j)) ∈ FL1 ∨ Cond.not (Cond.eq (tmS j) (tmS i)) ∈ FL1 := by decide +kernel
abbrev tmT (n : String) : Term := Term.static RX6 n "[I"
theorem fl_nA : Cond.arrayOf (tmT "NUMBERS") .int ∈ FL1 := by decide +kernel
theorem fl_nL : Cond.eq (.length (tmT "NUMBERS")) (.int (Int32.ofNat 7)) ∈ FL1 := by decide +kernel
theorem fl_nE : ∀ j, j < 7 → Cond.eq (.elem (tmT "NUMBERS") (.int (Int32.ofNat j))) (.int (tabN.getD j 0)) ∈ FL1 := by decide +kernel
theorem fl_lA : Cond.arrayOf (tmT "LEAST") .int ∈ FL1 := by decide +kernel
theorem fl_lL : Cond.eq (.length (tmT "LEAST")) (.int (Int32.ofNat 21)) ∈ FL1 := by decide +kernel
theorem fl_lE : ∀ j, j < 21 → Cond.eq (.elem (tmT "LEAST") (.int (Int32.ofNat j))) (.int (tabL.getD j 0)) ∈ FL1 := by decide +kernel
theorem fl_gA : Cond.arrayOf (tmT "GREATEST") .int ∈ FL1 := by decide +kernel
theorem fl_gL : Cond.eq (.length (tmT "GREATEST")) (.int (Int32.ofNat 21)) ∈ FL1 := by decide +kernel
theorem fl_gE : ∀ j, j < 21 → Cond.eq (.elem (tmT "GREATEST") (.int (Int32.ofNat j))) (.int (tabG.getD j 0)) ∈ FL1 := by decide +kernel
theorem fl_cs : Cond.eq (.static "java/lang/String" "COMPACT_STRINGS" "Z") (.int 1) ∈ FL1 := by decide +kernel
theorem fl_sf : Cond.isRef (.static "jdk/internal/util/Preconditions" "SIOOBE_FORMATTER" "Ljava/util/function/BiFunction;") ∈ FL1 := by decide +kernel
theorem vkS_c {f f' g g' : Nat → Nat} {A : Nat → Prop} {U : State} {H : Heap} (h : vk_S 7 strL strB f g A U H) (h1 : ∀ i, i < 7 → f' i = f i) (h2 : ∀ i, i < 7 → g' i = g i) : vk_S 7 strL strB f' g' A U H := ⟨fun i hi => by rw [h1 i hi, h2 i hi]; exact h.1 i hi, fun i j hi hj e => h.2 i j hi hj (by rw [← h1 i hi, ← h1 j hj]; exact e)⟩
theorem cs_start {s : State} {b : Nat} (hts : ∀ w ∈ lw_tbl, w.before #[Value.ref b] s = true) (hgv : (Jvm.Cond.and given_1 narrow_1).before #[Value.ref b] s = true) : ∃ f : Nat → Nat, ∀ G : GD, (∀ k, 100 ≤ k → k ≤ 130 → G.2.1 k = f k) → Cs G (fun q => s.heap.size ≤ q) s s.heap := by
  have hs := flat_of_before _ hgv
  have hA : ∀ a : Nat, a < s.heap.size → ¬ (fun q : Nat => s.heap.size ≤ q) a := fun a ha => Nat.not_le.mpr ha
  obtain ⟨adK, adV, hS, hE⟩ := vk_Sof (args := #[Value.ref b]) (s := s) (N := 7) (tm := tmS) (len := strL) (byt := strB) (A := fun q : Nat => s.heap.size ≤ q) (by decide) (fun i hi => hs _ (fl_ex i hi)) (fun i hi => hs _ (fl_co i hi)) (fun i hi => hs _ (fl_ar i hi)) (fun i hi => hs _ (fl_le i hi)) (fun i hi j hj => hs _ (fl_el i hi j hj)) (fun i j hi hj hn => (fl_nq i hi j hj hn).imp (fun z => hs _ z) (fun z => hs _ z)) hA
  obtain ⟨t0, e0, T0⟩ := va_Tof (args := #[Value.ref b]) (s := s) (tm := tmT "NUMBERS") (ty := .int) (N := 7) (f := fun j => .int (tabN.getD j 0)) (A := fun q : Nat => s.heap.size ≤ q) (by decide) (hs _ fl_nA) (va_eqt (hs _ fl_nL)) (fun j hj => va_eqt (hs _ (fl_nE j hj))) hA
  obtain ⟨t1, e1, T1⟩ := va_Tof (args := #[Value.ref b]) (s := s) (tm := tmT "LEAST") (ty := .int) (N := 21) (f := fun j => .int (tabL.getD j 0)) (A := fun q : Nat => s.heap.size ≤ q) (by decide) (hs _ fl_lA) (va_eqt (hs _ fl_lL)) (fun j hj => va_eqt (hs _ (fl_lE j hj))) hA
  obtain ⟨t2, e2, T2⟩ := va_Tof (args := #[Value.ref b]) (s := s) (tm := tmT "GREATEST") (ty := .int) (N := 21) (f := fun j => .int (tabG.getD j 0)) (A := fun q : Nat => s.heap.size ≤ q) (by decide) (hs _ fl_gA) (va_eqt (hs _ fl_gL)) (fun j hj => va_eqt (hs _ (fl_gE j hj))) hA
  have hZ0 := va_Zref (A := fun q : Nat => s.heap.size ≤ q) (hts _ (List.mem_of_getElem? (i := 470) (by decide +kernel))) (hts _ (TB_in _ k_3)) e0 hA
  have hZ1 := va_Zref (A := fun q : Nat => s.heap.size ≤ q) (hts _ (List.mem_of_getElem? (i := 480) (by decide +kernel))) (hts _ (TB_in _ k_3)) e1 hA
  have hZ2 := va_Zref (A := fun q : Nat => s.heap.size ≤ q) (hts _ (List.mem_of_getElem? (i := 482) (by decide +kernel))) (hts _ (TB_in _ k_3)) e2 hA
  have hC := va_Zof (A := fun q : Nat => s.heap.size ≤ q) (hts _ (List.mem_of_getElem? (i := 423) (by decide +kernel))) (hts _ (TB_in _ k_10)) (va_eqt (hs _ fl_cs)) hA
  have hF := va_Zqof (A := fun q : Nat => s.heap.size ≤ q) (hts _ (List.mem_of_getElem? (i := 439) (by decide +kernel))) (hts _ (TB_in _ k_12)) (hs _ fl_sf) hA
  obtain ⟨t3, hF⟩ : ∃ t3 : Nat, va_Z "jdk/internal/util/Preconditions" "SIOOBE_FORMATTER" "Ljava/util/function/BiFunction;" .null (fun q : Nat => s.heap.size ≤ q) s s.heap ∨ va_Z "jdk/internal/util/Preconditions" "SIOOBE_FORMATTER" "Ljava/util/function/BiFunction;" (.ref t3) (fun q : Nat => s.heap.size ≤ q) s s.heap := by
    rcases hF with z | ⟨t, z⟩
    · exact ⟨0, Or.inl z⟩
    · exact ⟨t, Or.inr z⟩
  have hR : ∀ i : Nat, i < 7 → vk_R RX6 (strI.getD i (0, "")).1 (strI.getD i (0, "")).2 (adK i) s := by
    intro i hi
    have hw : (Cond.stringRef RX6 (strI.getD i (0, "")).1 (strI.getD i (0, "")).2).before #[Value.ref b] s = true := by
      match i, hi with
      | 0, _ => exact (hts _ (List.mem_of_getElem? (i := 403) (by decide +kernel)))
      | 1, _ => exact (hts _ (List.mem_of_getElem? (i := 404) (by decide +kernel)))
      | 2, _ => exact (hts _ (List.mem_of_getElem? (i := 405) (by decide +kernel)))
      | 3, _ => exact (hts _ (List.mem_of_getElem? (i := 406) (by decide +kernel)))
      | 4, _ => exact (hts _ (List.mem_of_getElem? (i := 407) (by decide +kernel)))
      | 5, _ => exact (hts _ (List.mem_of_getElem? (i := 408) (by decide +kernel)))
      | 6, _ => exact (hts _ (List.mem_of_getElem? (i := 409) (by decide +kernel)))
    exact vk_R.of hw (hE i hi)
  refine ⟨fun k => if k < 110 then adK (k - 100) else if k < 120 then adV (k - 110) else if k = 120 then t0 else if k = 121 then t1 else if k = 122 then t2 else t3, fun G hG => ?_⟩
  have gK : ∀ i, i < 7 → G.2.1 (100 + i) = adK i := fun i hi => by
    rw [hG (100 + i) (by omega) (by omega)]
    show (if 100 + i < 110 then adK (100 + i - 100) else _) = _
    rw [if_pos (by omega), Nat.add_sub_cancel_left]
  have gV : ∀ i, i < 7 → G.2.1 (110 + i) = adV i := fun i hi => by
    rw [hG (110 + i) (by omega) (by omega)]
    show (if 110 + i < 110 then _ else if 110 + i < 120 then adV (110 + i - 110) else _) = _
    rw [if_neg (by omega), if_pos (by omega), Nat.add_sub_cancel_left]
  have g0 : G.2.1 120 = t0 := hG 120 (by decide) (by decide)
  have g1 : G.2.1 121 = t1 := hG 121 (by decide) (by decide)
  have g2 : G.2.1 122 = t2 := hG 122 (by decide) (by decide)
  have g3 : G.2.1 130 = t3 := hG 130 (by decide) (by decide)
  unfold Cs Tb
  rw [g0, g1, g2, g3]
  exact ⟨vkS_c hS gK gV, fun i hi => by rw [gK i hi]; exact hR i hi, hC, hF, ⟨hZ0, T0⟩, ⟨hZ1, T1⟩, ⟨hZ2, T2⟩⟩
theorem Cs.nw {G : GD} {A B : Nat → Prop} {U : State} {H : Heap} (h : Cs G A U H) (hAB : ∀ q, B q → A q) : Cs G B U H := by
  obtain ⟨h1, h2, h3, h4, h5, h6, h7⟩ := h
  exact ⟨h1.narrow hAB, h2, h3.narrow hAB, h4.imp (fun z => z.narrow hAB) (fun z => z.narrow hAB), ⟨h5.1.narrow hAB, h5.2.narrow hAB⟩, ⟨h6.1.narrow hAB, h6.2.narrow hAB⟩, ⟨h7.1.narrow hAB, h7.2.narrow hAB⟩⟩
theorem sk_start {s : State} {b : Nat} (hts : ∀ w ∈ lw_tbl, w.before #[Value.ref b] s = true) : ∃ (D : va_G) (ca : Nat → ClassId), SK D ca s := by
  have htb : ∀ w ∈ TB, w.before #[Value.ref b] s = true := fun w hw => hts w (TB_in w hw)
  obtain ⟨c0, i0, h0⟩ := u_known (C := RX0) (T := TX0) (N := 6) (n := 6) htb inTB0 (htb _ k_78)
  obtain ⟨c1, i1, h1⟩ := u_known (C := RX1) (T := TX1) (N := 6) (n := 6) htb inTB1 (htb _ k_109)
  obtain ⟨c2, i2, h2⟩ := u_known (C := RX2) (T := TX2) (N := 6) (n := 6) htb inTB2 (htb _ k_191)
  obtain ⟨c3, i3, h3⟩ := u_known (C := RX3) (T := TX3) (N := 9) (n := 9) htb inTB3 (htb _ k_138)
  obtain ⟨c4, i4, h4⟩ := u_known (C := RX4) (T := TX4) (N := 3) (n := 3) htb inTB4 (htb _ k_218)
  obtain ⟨c5, i5, h5⟩ := u_known (C := RX5) (T := TX5) (N := 6) (n := 6) htb inTB5 (htb _ k_26)
  obtain ⟨c6, i6, h6⟩ := u_known (C := RX6) (T := TX6) (N := 4) (n := 4) htb inTB6 (htb _ k_57)
  obtain ⟨c7, i7, h7⟩ := u_known (C := RX7) (T := TX7) (N := 12) (n := 12) htb inTB7 (htb _ k_18)
  obtain ⟨c8, i8, h8⟩ := u_known (C := RX8) (T := TX8) (N := 38) (n := 38) htb inTB8 (htb _ k_781)
  obtain ⟨a0, k0, p0, x0, y0, z0⟩ := Cond.arrayClass_spec (htb _ k_76)
  obtain ⟨a1, k1, p1, x1, y1, z1⟩ := Cond.arrayClass_spec (htb _ k_55)
  obtain ⟨a2, k2, p2, x2, y2, z2⟩ := Cond.arrayClass_spec (htb _ k_901)
  have ho2 : (Cond.arrayOver (.object RX2)).before #[Value.ref b] s = true := (hts _ (List.mem_of_getElem? (i := 197) (by decide +kernel)))
  have ho4 : (Cond.arrayOver (.object RX4)).before #[Value.ref b] s = true := (hts _ (List.mem_of_getElem? (i := 199) (by decide +kernel)))
  obtain ⟨p3, a3, k3, f3, -, y3, z3, x3⟩ := Cond.arrayOver_spec ho2
  obtain ⟨p4, a4, k4, f4, -, y4, z4, x4⟩ := Cond.arrayOver_spec ho4
  refine ⟨(fun k => [c0, c1, c2, c3, c4, c5, c6, c7, c8].getD k c0, fun k => [i0, i1, i2, i3, i4, i5, i6, i7, i8].getD k i0), fun k => [a0, a1, a2, a3, a4].getD k a0, ⟨fun k q hq => ?_, fun k q hq => ?_⟩, va_AO.of ho2, va_AO.of ho4, fun q hq => ?_⟩
  · match k, hq with
    | 0, hq => cases hq; exact h0
    | 1, hq => cases hq; exact h1
    | 2, hq => cases hq; exact h2
    | 3, hq => cases hq; exact h3
    | 4, hq => cases hq; exact h4
    | 5, hq => cases hq; exact h5
    | 6, hq => cases hq; exact h6
    | 7, hq => cases hq; exact h7
    | 8, hq => cases hq; exact h8
    | k + 9, hq => simp [vwCl] at hq
  · match k, hq with
    | 0, hq => cases hq; exact ⟨fun n z => ⟨fun k h => (by cases h), k0, y0, p0, z0⟩, x0⟩
    | 1, hq => cases hq; exact ⟨fun n z => ⟨fun k h => (by cases h), k1, y1, p1, z1⟩, x1⟩
    | 2, hq => cases hq; exact ⟨fun n z => ⟨fun k h => (by cases h), k2, y2, p2, z2⟩, x2⟩
    | 3, hq => cases hq; exact ⟨fun n z => ⟨fun k h => (by cases h), k3, y3, p3, z3⟩, k3, p3, y3, z3, f3, x3⟩
    | 4, hq => cases hq; exact ⟨fun n z => ⟨fun k h => (by cases h), k4, y4, p4, z4⟩, k4, p4, y4, z4, f4, x4⟩
    | k + 5, hq => simp [tyc] at hq
  · obtain ⟨k, hk⟩ := List.getElem?_of_mem hq
    match k, hk with
    | 0, hk => cases hk; exact va_Nw.of rfl (hts _ (List.mem_of_getElem? (i := 90) (by decide +kernel)))
    | 1, hk => cases hk; exact va_Nw.of rfl (hts _ (List.mem_of_getElem? (i := 121) (by decide +kernel)))
    | 2, hk => cases hk; exact va_Nw.of rfl (hts _ (List.mem_of_getElem? (i := 142) (by decide +kernel)))
    | 3, hk => cases hk; exact va_Nw.of rfl (hts _ (List.mem_of_getElem? (i := 173) (by decide +kernel)))
    | 4, hk => cases hk; exact va_Nw.of rfl (hts _ (List.mem_of_getElem? (i := 255) (by decide +kernel)))
    | 5, hk => cases hk; exact va_Nw.of rfl (hts _ (List.mem_of_getElem? (i := 260) (by decide +kernel)))
    | 6, hk => cases hk; exact va_Nw.of rfl (hts _ (List.mem_of_getElem? (i := 282) (by decide +kernel)))
    | k + 7, hk => simp [nestL] at hk
