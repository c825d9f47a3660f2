/-! 80: land of the reference: a line; what was read is taken -/
theorem cut_e : ∀ n, n < 7 → cutT.getD (n + 1) 0 - cutT.getD n 0 = nI (strL.getD n 0) ∧ ∀ k, k < strL.getD n 0 → cutT.getD n 0 + nI k = nI ((cutT.getD n 0).toNatClampNeg + k) ∧ (cutT.getD n 0).toNatClampNeg + k < 30 ∧ letT.getD ((cutT.getD n 0).toNatClampNeg + k) 0 = chV n k := by decide +kernel
theorem nmB_f {f : Nat → Int32} {s e : Nat} {k : Int32} {i : Nat} (h : ¬ (k = 1 ∧ e = s + strL.getD i 0 ∧ ∀ j, j < strL.getD i 0 → f (s + j) = chV i j)) : nmB f s e k i = false := decide_eq_false h
theorem nmB_t {f : Nat → Int32} {s e : Nat} {k : Int32} {i : Nat} (h : k = 1 ∧ e = s + strL.getD i 0 ∧ ∀ j, j < strL.getD i 0 → f (s + j) = chV i j) : nmB f s e k i = true := decide_eq_true h
theorem lnI_no {p : Nat → Bool} (h : ∀ i, p i = false) : ∀ k i, lnI p k i = -4
  | 0, _ => rfl
  | k + 1, i => by
    unfold lnI
    rw [if_neg (by rw [h i]; decide)]
    exact lnI_no h k (i + 1)
set_option maxRecDepth 100000 in
set_option maxHeartbeats 4000000 in
theorem sem_X8_nameHere {N : Mem} {s e : Nat} (hs : N 58 23 = nI s) (he : N 58 22 = nI e) (hse : s ≤ e) (heL : e ≤ uL N) (hL : N 58 18 = nI (uL N)) (h320 : uL N ≤ 320) (hK : IVk N) : Sem mX8_nameHere SH [.ref 58] N (PD SH (some (.int (lnI (nmB (N 67) s e (N 58 24)) 7 0))) N) := by
  refine Sem_of rfl (fun G => (Nat.le_of_ble_eq_true rfl)) (fun G => ?_)
  refine Bd_iconst (v := 0) (pc := 0) dX8_nameHere_0 (by decide) ?_
  refine Bd_istore_1 (pc := 1) dX8_nameHere_1 (Nat.le_of_ble_eq_true rfl) rfl ?_
  refine Bd_nx (L' := (fun i => [some (.ref 58), some (.int (nI i)), none, none]) 0) ?_ (by repeat (first | exact True.intro | refine And.intro rfl ?_))
  refine Bd_for (pc := 2) (c := 7) (fun i => [some (.ref 58), some (.int (nI i)), none, none]) (fun _ => N) (fun i => lnI (nmB (N 67) s e (N 58 24)) 7 0 = lnI (nmB (N 67) s e (N 58 24)) (7 - i) i) (fun ivi => ?_) (fun i hi ivi ihi => ?_) rfl
  · refine Bd_iload_1 (pc := 2) dX8_nameHere_2 ?_
    refine Bd_bipush (v := 7) (pc := 3) dX8_nameHere_3 (by decide) ?_
    refine Bd_icmp_ge (t := 118) (pc := 5) dX8_nameHere_5 (by decide) (fun b5 => ?_) (fun b5 => (show False from lf_x (show (7 : Int32) = nI 7 from rfl) b5).elim)
    refine Bd_bipush (v := -4) (pc := 118) dX8_nameHere_118 (by decide) ?_
    refine Bd_iret (pc := 120) dX8_nameHere_120 rfl ?_
    exact PD_i (by rw [ivi]; rfl) rfl
  · refine Bd_iload_1 (pc := 2) dX8_nameHere_2 ?_
    refine Bd_bipush (v := 7) (pc := 3) dX8_nameHere_3 (by decide) ?_
    refine Bd_icmp_ge (t := 118) (pc := 5) dX8_nameHere_5 (by decide) (fun b5 => (show False from lf_s (show (7 : Int32) = nI 7 from rfl) (by omega) hi b5).elim) (fun b5 => ?_)
    refine Bd_aload_0 (pc := 8) dX8_nameHere_8 ?_
    refine Bd_getI (j := 24) ck8 (pc := 9) dX8_nameHere_9 k_810 rfl (Nat.le_of_ble_eq_true rfl) rfl ?_
    refine Bd_iconst (v := 1) (pc := 12) dX8_nameHere_12 (by decide) ?_
    refine Bd_icmp_ne (t := 118) (pc := 13) dX8_nameHere_13 (by decide) (fun b13 => ?_) (fun b13 => ?_)
    · refine Bd_bipush (v := -4) (pc := 118) dX8_nameHere_118 (by decide) ?_
      refine Bd_iret (pc := 120) dX8_nameHere_120 rfl ?_
      exact PD_i (by rw [lnI_no (fun i => nmB_f (fun z => b13 z.1))]) rfl
    · refine Bd_aload_0 (pc := 16) dX8_nameHere_16 ?_
      refine Bd_getI (j := 22) ck8 (pc := 17) dX8_nameHere_17 k_808 rfl (Nat.le_of_ble_eq_true rfl) rfl ?_
      refine Bd_aload_0 (pc := 20) dX8_nameHere_20 ?_
      refine Bd_getI (j := 23) ck8 (pc := 21) dX8_nameHere_21 k_809 rfl (Nat.le_of_ble_eq_true rfl) rfl ?_
      refine Bd_isub (pc := 24) dX8_nameHere_24 ?_
      refine Bd_aload_0 (pc := 25) dX8_nameHere_25 ?_
      refine Bd_getR (j := 26) ck8 (pc := 26) dX8_nameHere_26 k_812 rfl (Nat.le_of_ble_eq_true rfl) rfl ?_
      refine Bd_iload_1 (pc := 29) dX8_nameHere_29 ?_
      refine Bd_iconst (v := 1) (pc := 30) dX8_nameHere_30 (by decide) ?_
      refine Bd_iadd (pc := 31) dX8_nameHere_31 ?_
      refine Bd_ialdc (j := i + 1) (by rw [← nI_succ]; exact nI_clamp (by omega)) (pc := 32) dX8_nameHere_32 rfl (by rw [← nI_succ]; exact vpi (by omega) (by omega)) ?_
      refine Bd_aload_0 (pc := 33) dX8_nameHere_33 ?_
      refine Bd_getR (j := 26) ck8 (pc := 34) dX8_nameHere_34 k_812 rfl (Nat.le_of_ble_eq_true rfl) rfl ?_
      refine Bd_iload_1 (pc := 37) dX8_nameHere_37 ?_
      refine Bd_ialdc (j := i) (nI_clamp (by omega)) (pc := 38) dX8_nameHere_38 rfl (vpi (by omega) (by omega)) ?_
      refine Bd_isub (pc := 39) dX8_nameHere_39 ?_
      refine Bd_icmp_ne (t := 47) (pc := 40) dX8_nameHere_40 (by decide) (fun b40 => ?_) (fun b40 => ?_)
      · refine Bd_iconst (v := 0) (pc := 47) dX8_nameHere_47 (by decide) ?_
        refine Bd_istore_2 (pc := 48) dX8_nameHere_48 (Nat.le_of_ble_eq_true rfl) rfl ?_
        refine Bd_iconst (v := 0) (pc := 49) dX8_nameHere_49 (by decide) ?_
        refine Bd_istore_3 (pc := 50) dX8_nameHere_50 (Nat.le_of_ble_eq_true rfl) rfl ?_
        refine Bd_nx (L' := [some (.ref 58), some (.int (nI i)), some (.int (if (false : Bool) then 1 else 0)), some (.int (nI 0))]) ?_ ⟨rfl, rfl, rfl, rfl, trivial⟩
        have htk : N 58 24 = 1 := b13
        have hce := cut_e i hi
        have h7 := strL_lt i hi
        refine Bd_wh (pc := 51) (σ := Nat × Bool) (fun x => x.1 ≤ strL.getD i 0 ∧ if x.2 = true then (e = s + strL.getD i 0 ∧ ∀ j, j < x.1 → N 67 (s + j) = chV i j) else nmB (N 67) s e (N 58 24) i = false) (fun x => if x.2 = true then 8 - x.1 else 0) (fun x => [some (.ref 58), some (.int (nI i)), some (.int (if x.2 then 1 else 0)), some (.int (nI x.1))]) (fun _ => N) (fun x hx ih => ?_) (0, false) ⟨Nat.zero_le _, by rw [if_neg (by decide)]; exact nmB_f (fun z => b40 (by rw [hs, he, nI_sb hse, hK.1 (i + 1) (by omega), hK.1 i (by omega), (cut_e i hi).1]; congr 1; omega))⟩
        obtain ⟨hk0, hin⟩ := hx
        by_cases hb : x.2 = true
        · rw [if_pos hb] at hin
          rcases Nat.lt_or_eq_of_le hk0 with hk | hk
          · have hba : baF N (s + x.1) = N 67 (s + x.1) := baF_in (by omega)
            refine Bd_iload_2 (pc := 51) dX8_nameHere_51 ?_
            refine Bd_if_eq (t := 106) (pc := 52) dX8_nameHere_52 (by decide) (fun b52 => (show False from absurd b52 (by rw [if_pos hb]; decide)).elim) (fun b52 => ?_)
            refine Bd_iload_3 (pc := 55) dX8_nameHere_55 ?_
            refine Bd_aload_0 (pc := 56) dX8_nameHere_56 ?_
            refine Bd_getI (j := 22) ck8 (pc := 57) dX8_nameHere_57 k_808 rfl (Nat.le_of_ble_eq_true rfl) rfl ?_
            refine Bd_aload_0 (pc := 60) dX8_nameHere_60 ?_
            refine Bd_getI (j := 23) ck8 (pc := 61) dX8_nameHere_61 k_809 rfl (Nat.le_of_ble_eq_true rfl) rfl ?_
            refine Bd_isub (pc := 64) dX8_nameHere_64 ?_
            refine Bd_icmp_ge (t := 106) (pc := 65) dX8_nameHere_65 (by decide) (fun b65 => (show False from by rw [hs, he, nI_sb hse] at b65; exact nI_ge hk (by omega) (show nI (strL.getD i 0) ≤ nI x.1 from by have z := b65; rw [show e - s = strL.getD i 0 by omega] at z; exact z)).elim) (fun b65 => ?_)
            refine Bd_aload_0 (pc := 68) dX8_nameHere_68 ?_
            refine Bd_aload_0 (pc := 69) dX8_nameHere_69 ?_
            refine Bd_getI (j := 23) ck8 (pc := 70) dX8_nameHere_70 k_809 rfl (Nat.le_of_ble_eq_true rfl) rfl ?_
            refine Bd_iload_3 (pc := 73) dX8_nameHere_73 ?_
            refine Bd_iadd (pc := 74) dX8_nameHere_74 ?_
            rw [hs, nI_ad]
            refine Bd_callV1i (cd := mX8_byteAt) (pc := 75) dX8_nameHere_75 k_921 v_X8_byteAt ⟨(Nat.le_of_ble_eq_true rfl), (Nat.le_of_ble_eq_true rfl)⟩ rfl rfl (sem_X8_byteAt (N := N) (k := s + x.1) hL h320 (by omega)) (Nat.le_of_ble_eq_true rfl) ?_
            refine Bd_aload_0 (pc := 78) dX8_nameHere_78 ?_
            refine Bd_getR (j := 27) ck8 (pc := 79) dX8_nameHere_79 k_813 rfl (Nat.le_of_ble_eq_true rfl) rfl ?_
            refine Bd_aload_0 (pc := 82) dX8_nameHere_82 ?_
            refine Bd_getR (j := 26) ck8 (pc := 83) dX8_nameHere_83 k_812 rfl (Nat.le_of_ble_eq_true rfl) rfl ?_
            refine Bd_iload_1 (pc := 86) dX8_nameHere_86 ?_
            refine Bd_ialdc (j := i) (nI_clamp (by omega)) (pc := 87) dX8_nameHere_87 rfl (vpi (by omega) (by omega)) ?_
            refine Bd_iload_3 (pc := 88) dX8_nameHere_88 ?_
            refine Bd_iadd (pc := 89) dX8_nameHere_89 ?_
            refine Bd_ialdc (j := (cutT.getD i 0).toNatClampNeg + x.1) (by rw [hK.1 i (by omega), (hce.2 x.1 hk).1]; exact nI_clamp (by have := (hce.2 x.1 hk).2.1; omega)) (pc := 90) dX8_nameHere_90 rfl (by rw [hK.1 i (by omega), (hce.2 x.1 hk).1]; exact vpi (hce.2 x.1 hk).2.1 (by decide)) ?_
            refine Bd_icmp_ne (t := 98) (pc := 91) dX8_nameHere_91 (by decide) (fun b91 => ?_) (fun b91 => ?_)
            · refine Bd_iconst (v := 0) (pc := 98) dX8_nameHere_98 (by decide) ?_
              refine Bd_istore_2 (pc := 99) dX8_nameHere_99 (Nat.le_of_ble_eq_true rfl) rfl ?_
              refine Bd_iinc_3 (pc := 100) dX8_nameHere_100 (show _ + Int32.ofInt 1 = _ + 1 from rfl) (Nat.le_of_ble_eq_true rfl) rfl ?_
              refine Bd_goto (t := 51) (pc := 103) dX8_nameHere_103 (by decide) ?_
              have hq : ¬ N 67 (s + x.1) = chV i x.1 := fun z => b91 (by rw [hba, z, hK.2 _ (hce.2 x.1 hk).2.1, (hce.2 x.1 hk).2.2])
              refine Bd_nx (ih (x.1 + 1, false) ⟨hk, by rw [if_neg (show ¬ (false = true) by decide)]; exact nmB_f (fun z => hq (z.2.2 x.1 hk))⟩ (by show (if (false : Bool) then _ else _) < _; rw [if_neg (by decide), if_pos hb]; omega)) ⟨rfl, rfl, rfl, congrArg (fun z => some (Value.int z)) (nI_succ x.1).symm, trivial⟩
            · refine Bd_iconst (v := 1) (pc := 94) dX8_nameHere_94 (by decide) ?_
              refine Bd_goto (t := 99) (pc := 95) dX8_nameHere_95 (by decide) ?_
              refine Bd_istore_2 (pc := 99) dX8_nameHere_99 (Nat.le_of_ble_eq_true rfl) rfl ?_
              refine Bd_iinc_3 (pc := 100) dX8_nameHere_100 (show _ + Int32.ofInt 1 = _ + 1 from rfl) (Nat.le_of_ble_eq_true rfl) rfl ?_
              refine Bd_goto (t := 51) (pc := 103) dX8_nameHere_103 (by decide) ?_
              have hq : N 67 (s + x.1) = chV i x.1 := by
                rw [← (hce.2 x.1 hk).2.2, ← hK.2 _ (hce.2 x.1 hk).2.1, ← hba]
                exact b91
              refine Bd_nx (ih (x.1 + 1, true) ⟨hk, by rw [if_pos rfl]; exact ⟨hin.1, fun j hj => (Nat.lt_succ_iff_lt_or_eq.mp hj).elim (hin.2 j) (fun z => by rw [z]; exact hq)⟩⟩ (by show (if (true : Bool) then _ else _) < _; rw [if_pos rfl, if_pos hb]; show 8 - (x.1 + 1) < 8 - x.1; omega)) ⟨rfl, rfl, rfl, congrArg (fun z => some (Value.int z)) (nI_succ x.1).symm, trivial⟩
          · refine Bd_iload_2 (pc := 51) dX8_nameHere_51 ?_
            refine Bd_if_eq (t := 106) (pc := 52) dX8_nameHere_52 (by decide) (fun b52 => (show False from absurd b52 (by rw [if_pos hb]; decide)).elim) (fun b52 => ?_)
            refine Bd_iload_3 (pc := 55) dX8_nameHere_55 ?_
            refine Bd_aload_0 (pc := 56) dX8_nameHere_56 ?_
            refine Bd_getI (j := 22) ck8 (pc := 57) dX8_nameHere_57 k_808 rfl (Nat.le_of_ble_eq_true rfl) rfl ?_
            refine Bd_aload_0 (pc := 60) dX8_nameHere_60 ?_
            refine Bd_getI (j := 23) ck8 (pc := 61) dX8_nameHere_61 k_809 rfl (Nat.le_of_ble_eq_true rfl) rfl ?_
            refine Bd_isub (pc := 64) dX8_nameHere_64 ?_
            refine Bd_icmp_ge (t := 106) (pc := 65) dX8_nameHere_65 (by decide) (fun b65 => ?_) (fun b65 => (show False from b65 (by rw [hs, he, nI_sb hse]; exact nI_le (show e - s ≤ x.1 by omega) (by omega))).elim)
            refine Bd_iload_2 (pc := 106) dX8_nameHere_106 ?_
            refine Bd_if_eq (t := 112) (pc := 107) dX8_nameHere_107 (by decide) (fun b107 => (show False from absurd b107 (by rw [if_pos hb]; decide)).elim) (fun b107 => ?_)
            refine Bd_iload_1 (pc := 110) dX8_nameHere_110 ?_
            refine Bd_iret (pc := 111) dX8_nameHere_111 rfl ?_
            exact PD_i (by rw [ivi, show 7 - i = (6 - i) + 1 by omega]; show _ = (if _ then _ else _); rw [if_pos (nmB_t ⟨htk, hin.1, fun j hj => hin.2 j (by omega)⟩)]) rfl
        · rw [if_neg hb] at hin
          have hfalse := hin
          refine Bd_iload_2 (pc := 51) dX8_nameHere_51 ?_
          refine Bd_if_eq (t := 106) (pc := 52) dX8_nameHere_52 (by decide) (fun b52 => ?_) (fun b52 => (show False from b52 (by rw [if_neg hb])).elim)
          refine Bd_iload_2 (pc := 106) dX8_nameHere_106 ?_
          refine Bd_if_eq (t := 112) (pc := 107) dX8_nameHere_107 (by decide) (fun b107 => ?_) (fun b107 => (show False from b107 (by rw [if_neg hb])).elim)
          refine Bd_iinc_1 (pc := 112) dX8_nameHere_112 (show _ + Int32.ofInt 1 = _ + 1 from rfl) (Nat.le_of_ble_eq_true rfl) rfl ?_
          refine Bd_goto (t := 2) (pc := 115) dX8_nameHere_115 (by decide) ?_
          exact Bd_nx (ihi (by rw [ivi, show 7 - i = (7 - (i + 1)) + 1 by omega]; show (if _ then _ else _) = _; rw [if_neg (by rw [hfalse]; decide)])) ⟨rfl, congrArg (fun z => some (Value.int z)) (nI_succ i).symm, trivial⟩
      · refine Bd_iconst (v := 1) (pc := 43) dX8_nameHere_43 (by decide) ?_
        refine Bd_goto (t := 48) (pc := 44) dX8_nameHere_44 (by decide) ?_
        refine Bd_istore_2 (pc := 48) dX8_nameHere_48 (Nat.le_of_ble_eq_true rfl) rfl ?_
        refine Bd_iconst (v := 0) (pc := 49) dX8_nameHere_49 (by decide) ?_
        refine Bd_istore_3 (pc := 50) dX8_nameHere_50 (Nat.le_of_ble_eq_true rfl) rfl ?_
        refine Bd_nx (L' := [some (.ref 58), some (.int (nI i)), some (.int (if (true : Bool) then 1 else 0)), some (.int (nI 0))]) ?_ ⟨rfl, rfl, rfl, rfl, trivial⟩
        have htk : N 58 24 = 1 := b13
        have hce := cut_e i hi
        have h7 := strL_lt i hi
        refine Bd_wh (pc := 51) (σ := Nat × Bool) (fun x => x.1 ≤ strL.getD i 0 ∧ if x.2 = true then (e = s + strL.getD i 0 ∧ ∀ j, j < x.1 → N 67 (s + j) = chV i j) else nmB (N 67) s e (N 58 24) i = false) (fun x => if x.2 = true then 8 - x.1 else 0) (fun x => [some (.ref 58), some (.int (nI i)), some (.int (if x.2 then 1 else 0)), some (.int (nI x.1))]) (fun _ => N) (fun x hx ih => ?_) (0, true) ⟨Nat.zero_le _, by rw [if_pos rfl]; exact ⟨by have z := b40; rw [hs, he, nI_sb hse, hK.1 (i + 1) (by omega), hK.1 i (by omega), (cut_e i hi).1] at z; have := nI_inj z (by omega) (by omega); omega, fun j hj => absurd hj (Nat.not_lt_zero j)⟩⟩
        obtain ⟨hk0, hin⟩ := hx
        by_cases hb : x.2 = true
        · rw [if_pos hb] at hin
          rcases Nat.lt_or_eq_of_le hk0 with hk | hk
          · have hba : baF N (s + x.1) = N 67 (s + x.1) := baF_in (by omega)
            refine Bd_iload_2 (pc := 51) dX8_nameHere_51 ?_
            refine Bd_if_eq (t := 106) (pc := 52) dX8_nameHere_52 (by decide) (fun b52 => (show False from absurd b52 (by rw [if_pos hb]; decide)).elim) (fun b52 => ?_)
            refine Bd_iload_3 (pc := 55) dX8_nameHere_55 ?_
            refine Bd_aload_0 (pc := 56) dX8_nameHere_56 ?_
            refine Bd_getI (j := 22) ck8 (pc := 57) dX8_nameHere_57 k_808 rfl (Nat.le_of_ble_eq_true rfl) rfl ?_
            refine Bd_aload_0 (pc := 60) dX8_nameHere_60 ?_
            refine Bd_getI (j := 23) ck8 (pc := 61) dX8_nameHere_61 k_809 rfl (Nat.le_of_ble_eq_true rfl) rfl ?_
            refine Bd_isub (pc := 64) dX8_nameHere_64 ?_
            refine Bd_icmp_ge (t := 106) (pc := 65) dX8_nameHere_65 (by decide) (fun b65 => (show False from by rw [hs, he, nI_sb hse] at b65; exact nI_ge hk (by omega) (show nI (strL.getD i 0) ≤ nI x.1 from by have z := b65; rw [show e - s = strL.getD i 0 by omega] at z; exact z)).elim) (fun b65 => ?_)
            refine Bd_aload_0 (pc := 68) dX8_nameHere_68 ?_
            refine Bd_aload_0 (pc := 69) dX8_nameHere_69 ?_
            refine Bd_getI (j := 23) ck8 (pc := 70) dX8_nameHere_70 k_809 rfl (Nat.le_of_ble_eq_true rfl) rfl ?_
            refine Bd_iload_3 (pc := 73) dX8_nameHere_73 ?_
            refine Bd_iadd (pc := 74) dX8_nameHere_74 ?_
            rw [hs, nI_ad]
            refine Bd_callV1i (cd := mX8_byteAt) (pc := 75) dX8_nameHere_75 k_921 v_X8_byteAt ⟨(Nat.le_of_ble_eq_true rfl), (Nat.le_of_ble_eq_true rfl)⟩ rfl rfl (sem_X8_byteAt (N := N) (k := s + x.1) hL h320 (by omega)) (Nat.le_of_ble_eq_true rfl) ?_
            refine Bd_aload_0 (pc := 78) dX8_nameHere_78 ?_
            refine Bd_getR (j := 27) ck8 (pc := 79) dX8_nameHere_79 k_813 rfl (Nat.le_of_ble_eq_true rfl) rfl ?_
            refine Bd_aload_0 (pc := 82) dX8_nameHere_82 ?_
            refine Bd_getR (j := 26) ck8 (pc := 83) dX8_nameHere_83 k_812 rfl (Nat.le_of_ble_eq_true rfl) rfl ?_
            refine Bd_iload_1 (pc := 86) dX8_nameHere_86 ?_
            refine Bd_ialdc (j := i) (nI_clamp (by omega)) (pc := 87) dX8_nameHere_87 rfl (vpi (by omega) (by omega)) ?_
            refine Bd_iload_3 (pc := 88) dX8_nameHere_88 ?_
            refine Bd_iadd (pc := 89) dX8_nameHere_89 ?_
            refine Bd_ialdc (j := (cutT.getD i 0).toNatClampNeg + x.1) (by rw [hK.1 i (by omega), (hce.2 x.1 hk).1]; exact nI_clamp (by have := (hce.2 x.1 hk).2.1; omega)) (pc := 90) dX8_nameHere_90 rfl (by rw [hK.1 i (by omega), (hce.2 x.1 hk).1]; exact vpi (hce.2 x.1 hk).2.1 (by decide)) ?_
            refine Bd_icmp_ne (t := 98) (pc := 91) dX8_nameHere_91 (by decide) (fun b91 => ?_) (fun b91 => ?_)
            · refine Bd_iconst (v := 0) (pc := 98) dX8_nameHere_98 (by decide) ?_
              refine Bd_istore_2 (pc := 99) dX8_nameHere_99 (Nat.le_of_ble_eq_true rfl) rfl ?_
              refine Bd_iinc_3 (pc := 100) dX8_nameHere_100 (show _ + Int32.ofInt 1 = _ + 1 from rfl) (Nat.le_of_ble_eq_true rfl) rfl ?_
              refine Bd_goto (t := 51) (pc := 103) dX8_nameHere_103 (by decide) ?_
              have hq : ¬ N 67 (s + x.1) = chV i x.1 := fun z => b91 (by rw [hba, z, hK.2 _ (hce.2 x.1 hk).2.1, (hce.2 x.1 hk).2.2])
              refine Bd_nx (ih (x.1 + 1, false) ⟨hk, by rw [if_neg (show ¬ (false = true) by decide)]; exact nmB_f (fun z => hq (z.2.2 x.1 hk))⟩ (by show (if (false : Bool) then _ else _) < _; rw [if_neg (by decide), if_pos hb]; omega)) ⟨rfl, rfl, rfl, congrArg (fun z => some (Value.int z)) (nI_succ x.1).symm, trivial⟩
            · refine Bd_iconst (v := 1) (pc := 94) dX8_nameHere_94 (by decide) ?_
              refine Bd_goto (t := 99) (pc := 95) dX8_nameHere_95 (by decide) ?_
              refine Bd_istore_2 (pc := 99) dX8_nameHere_99 (Nat.le_of_ble_eq_true rfl) rfl ?_
              refine Bd_iinc_3 (pc := 100) dX8_nameHere_100 (show _ + Int32.ofInt 1 = _ + 1 from rfl) (Nat.le_of_ble_eq_true rfl) rfl ?_
              refine Bd_goto (t := 51) (pc := 103) dX8_nameHere_103 (by decide) ?_
              have hq : N 67 (s + x.1) = chV i x.1 := by
                rw [← (hce.2 x.1 hk).2.2, ← hK.2 _ (hce.2 x.1 hk).2.1, ← hba]
                exact b91
              refine Bd_nx (ih (x.1 + 1, true) ⟨hk, by rw [if_pos rfl]; exact ⟨hin.1, fun j hj => (Nat.lt_succ_iff_lt_or_eq.mp hj).elim (hin.2 j) (fun z => by rw [z]; exact hq)⟩⟩ (by show (if (true : Bool) then _ else _) < _; rw [if_pos rfl, if_pos hb]; show 8 - (x.1 + 1) < 8 - x.1; omega)) ⟨rfl, rfl, rfl, congrArg (fun z => some (Value.int z)) (nI_succ x.1).symm, trivial⟩
          · refine Bd_iload_2 (pc := 51) dX8_nameHere_51 ?_
            refine Bd_if_eq (t := 106) (pc := 52) dX8_nameHere_52 (by decide) (fun b52 => (show False from absurd b52 (by rw [if_pos hb]; decide)).elim) (fun b52 => ?_)
            refine Bd_iload_3 (pc := 55) dX8_nameHere_55 ?_
            refine Bd_aload_0 (pc := 56) dX8_nameHere_56 ?_
            refine Bd_getI (j := 22) ck8 (pc := 57) dX8_nameHere_57 k_808 rfl (Nat.le_of_ble_eq_true rfl) rfl ?_
            refine Bd_aload_0 (pc := 60) dX8_nameHere_60 ?_
            refine Bd_getI (j := 23) ck8 (pc := 61) dX8_nameHere_61 k_809 rfl (Nat.le_of_ble_eq_true rfl) rfl ?_
            refine Bd_isub (pc := 64) dX8_nameHere_64 ?_
            refine Bd_icmp_ge (t := 106) (pc := 65) dX8_nameHere_65 (by decide) (fun b65 => ?_) (fun b65 => (show False from b65 (by rw [hs, he, nI_sb hse]; exact nI_le (show e - s ≤ x.1 by omega) (by omega))).elim)
            refine Bd_iload_2 (pc := 106) dX8_nameHere_106 ?_
            refine Bd_if_eq (t := 112) (pc := 107) dX8_nameHere_107 (by decide) (fun b107 => (show False from absurd b107 (by rw [if_pos hb]; decide)).elim) (fun b107 => ?_)
            refine Bd_iload_1 (pc := 110) dX8_nameHere_110 ?_
            refine Bd_iret (pc := 111) dX8_nameHere_111 rfl ?_
            exact PD_i (by rw [ivi, show 7 - i = (6 - i) + 1 by omega]; show _ = (if _ then _ else _); rw [if_pos (nmB_t ⟨htk, hin.1, fun j hj => hin.2 j (by omega)⟩)]) rfl
        · rw [if_neg hb] at hin
          have hfalse := hin
          refine Bd_iload_2 (pc := 51) dX8_nameHere_51 ?_
          refine Bd_if_eq (t := 106) (pc := 52) dX8_nameHere_52 (by decide) (fun b52 => ?_) (fun b52 => (show False from b52 (by rw [if_neg hb])).elim)
          refine Bd_iload_2 (pc := 106) dX8_nameHere_106 ?_
          refine Bd_if_eq (t := 112) (pc := 107) dX8_nameHere_107 (by decide) (fun b107 => ?_) (fun b107 => (show False from b107 (by rw [if_neg hb])).elim)
          refine Bd_iinc_1 (pc := 112) dX8_nameHere_112 (show _ + Int32.ofInt 1 = _ + 1 from rfl) (Nat.le_of_ble_eq_true rfl) rfl ?_
          refine Bd_goto (t := 2) (pc := 115) dX8_nameHere_115 (by decide) ?_
          exact Bd_nx (ihi (by rw [ivi, show 7 - i = (7 - (i + 1)) + 1 by omega]; show (if _ then _ else _) = _; rw [if_neg (by rw [hfalse]; decide)])) ⟨rfl, congrArg (fun z => some (Value.int z)) (nI_succ i).symm, trivial⟩
