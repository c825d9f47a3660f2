/-! 37: the reference: right, rights -/
theorem ds_p (x y : Int32) : x - y + 1 = x + 1 - y := by
  rw [Int32.sub_eq_add_neg, Int32.sub_eq_add_neg, Int32.add_assoc, Int32.add_comm (-y) 1, ← Int32.add_assoc]
theorem ds_m (x y : Int32) : x - y - 1 = x - (y + 1) := by
  rw [Int32.sub_eq_add_neg, Int32.sub_eq_add_neg, Int32.sub_eq_add_neg, Int32.neg_add, Int32.add_assoc, Int32.sub_eq_add_neg]
/-- how often so far: notes less blows -/
def dcF (C : Mem) (c l : Int32) (i k : Nat) : Int32 := nI (ctN (fun j => decide (nvF C j = nvF C i)) k) - nI (ctN (fun j => decide (bvF C c l j = nvF C i)) k)
theorem dc_z {C : Mem} {c l : Int32} {i : Nat} : dcF C c l i 0 = 0 := Int32.sub_self _
theorem dc_s {C : Mem} {c l : Int32} {i k : Nat} : dcF C c l i (k + 1) = (dcF C c l i k + (if nvF C k = nvF C i then 1 else 0)) - (if bvF C c l k = nvF C i then 1 else 0) := by
  unfold dcF
  show nI (_ + (if decide (nvF C k = nvF C i) = true then 1 else 0)) - nI (_ + (if decide (bvF C c l k = nvF C i) = true then 1 else 0)) = _
  by_cases h1 : nvF C k = nvF C i <;> by_cases h2 : bvF C c l k = nvF C i
  · rw [if_pos (decide_eq_true h1), if_pos (decide_eq_true h2), if_pos h1, if_pos h2, nI_succ, nI_succ, ds_p, ds_m]
  · rw [if_pos (decide_eq_true h1), if_neg (by rw [decide_eq_false h2]; decide), if_pos h1, if_neg h2, nI_succ, Nat.add_zero, ds_p, Int32.sub_zero]
  · rw [if_neg (by rw [decide_eq_false h1]; decide), if_pos (decide_eq_true h2), if_neg h1, if_pos h2, nI_succ, Nat.add_zero, Int32.add_zero, ds_m]
  · rw [if_neg (by rw [decide_eq_false h1]; decide), if_neg (by rw [decide_eq_false h2]; decide), if_neg h1, if_neg h2, Nat.add_zero, Nat.add_zero, Int32.add_zero, Int32.sub_zero]
theorem dc_0 {C : Mem} {c l : Int32} {i n : Nat} (hn : n ≤ 12) : dcF C c l i n = 0 ↔ ctN (fun k => decide (nvF C k = nvF C i)) n = ctN (fun k => decide (bvF C c l k = nvF C i)) n := by
  unfold dcF
  have h1 := ctN_le (fun k => decide (nvF C k = nvF C i)) n
  have h2 := ctN_le (fun k => decide (bvF C c l k = nvF C i)) n
  rw [lt0, nI_eq (by omega) (by omega)]
theorem bv_iff {C : Mem} {c l : Int32} {k i : Nat} : bvF C c l k = nvF C i ↔ cmF C k c = C 49 i + l ∧ C 8 k = C 50 i := by
  rw [Prod.mk.injEq]
  have : cmF C k c - l = C 49 i ↔ cmF C k c = C 49 i + l := by
    constructor
    · intro q; rw [← q, Int32.sub_add_cancel]
    · intro q; rw [q, Int32.add_sub_cancel]
  rw [this]
theorem of1 {C : Mem} (h : WF C) {c : Int32} (h0 : 0 < cn (C 5 4)) (hc : c81 c) : ofF C c 1 = cmF C 0 c := by
  have q := cmB h h0 hc
  have l1 : cmF C 0 c < 1000000 := by rw [Int32.lt_iff_toInt_lt, show (1000000 : Int32).toInt = 1000000 from by decide +kernel]; have := q.2; omega
  exact if_pos l1
/-- what the reference's rightAt answers -/
def rgF (C : Mem) (c : Int32) : Int32 := if irF C c then 1000 + ofV C c else -4
set_option maxRecDepth 100000 in
set_option maxHeartbeats 4000000 in
theorem sem_X8_rightAt {C M : Mem} (h : RK C M) (hz : ¬ C 44 8 = 0) {c : Int32} (hc : c81 c) : Sem mX8_rightAt SH [.ref 58, .int c] M (PD SH (some (.int (rgF C c))) (M)) := by
  have q1 := h.1.nb24
  have q2 := h.1.nn12
  refine Sem_of rfl (fun G => (Nat.le_of_ble_eq_true rfl)) (fun G => ?_)
  refine Bd_aload_0 (pc := 0) dX8_rightAt_0 ?_
  refine Bd_callV0i (cd := mX8_blows) (pc := 1) dX8_rightAt_1 k_996 v_X8_blows ⟨(Nat.le_of_ble_eq_true rfl), (Nat.le_of_ble_eq_true rfl)⟩ rfl rfl (sem_X8_blows h.rf) (Nat.le_of_ble_eq_true rfl) ?_
  refine Bd_aload_0 (pc := 4) dX8_rightAt_4 ?_
  refine Bd_getI (j := 5) ck8 (pc := 5) dX8_rightAt_5 k_791 rfl (Nat.le_of_ble_eq_true rfl) rfl ?_
  refine Bd_icmp_eq (t := 14) (pc := 8) dX8_rightAt_8 (by decide) (fun b8 => ?_) (fun b8 => ?_)
  · rw [h.rf.n5] at b8
    have hb : C 5 4 = C 44 8 := b8
    have hn0 := h.1.nn0 hz
    have h0 : 0 < cn (C 5 4) := by rw [hb]; exact hn0
    refine Bd_aload_0 (pc := 14) dX8_rightAt_14 ?_
    refine Bd_iconst (v := 0) (pc := 15) dX8_rightAt_15 (by decide) ?_
    refine Bd_iload_1 (pc := 16) dX8_rightAt_16 ?_
    refine Bd_callV2i (cd := mX8_comes) (pc := 17) dX8_rightAt_17 k_1055 v_X8_comes ⟨(Nat.le_of_ble_eq_true rfl), (Nat.le_of_ble_eq_true rfl)⟩ rfl rfl (sem_X8_comes h (i := 0) h0 hc) (Nat.le_of_ble_eq_true rfl) ?_
    refine Bd_istore_2 (pc := 20) dX8_rightAt_20 (Nat.le_of_ble_eq_true rfl) rfl ?_
    refine Bd_iconst (v := 1) (pc := 21) dX8_rightAt_21 (by decide) ?_
    refine Bd_istore_3 (pc := 22) dX8_rightAt_22 (Nat.le_of_ble_eq_true rfl) rfl ?_
    refine Bd_nx (L' := [some (.ref 58), some (.int c), some (.int (ofF C c (0 + 1))), some (.int (nI (0 + 1))), none, none, none]) ?_ ⟨rfl, rfl, congrArg (fun x => some (Value.int x)) (of1 h.1 h0 hc).symm, rfl, trivial⟩
    refine Bd_for (pc := 23) (c := (cn (C 5 4) - 1)) (fun i => [some (.ref 58), some (.int c), some (.int (ofF C c (i + 1))), some (.int (nI (i + 1))), none, none, none]) (fun _ => M) (fun _ => True) (fun ivi => ?_) (fun i hi ivi ihi => ?_) trivial
    · refine Bd_iload_3 (pc := 23) dX8_rightAt_23 ?_
      refine Bd_aload_0 (pc := 24) dX8_rightAt_24 ?_
      refine Bd_callV0i (cd := mX8_blows) (pc := 25) dX8_rightAt_25 k_996 v_X8_blows ⟨(Nat.le_of_ble_eq_true rfl), (Nat.le_of_ble_eq_true rfl)⟩ rfl rfl (sem_X8_blows h.rf) (Nat.le_of_ble_eq_true rfl) ?_
      refine Bd_icmp_ge (t := 58) (pc := 28) dX8_rightAt_28 (by decide) (fun b28 => ?_) (fun b28 => (show False from lf_x (show C 5 4 = nI (cn (C 5 4) - 1 + 1) from by rw [show cn (C 5 4) - 1 + 1 = cn (C 5 4) by omega]; exact h.1.nb) b28).elim)
      rw [show cn (C 5 4) - 1 + 1 = cn (C 5 4) by omega]
      refine Bd_iload_2 (pc := 58) dX8_rightAt_58 ?_
      refine Bd_aload_0 (pc := 59) dX8_rightAt_59 ?_
      refine Bd_getR (j := 4) ck8 (pc := 60) dX8_rightAt_60 k_790 rfl (Nat.le_of_ble_eq_true rfl) rfl ?_
      refine Bd_iconst (v := 0) (pc := 63) dX8_rightAt_63 (by decide) ?_
      refine Bd_ialdc (j := 0) rfl (pc := 64) dX8_rightAt_64 rfl (by unfold vp_in; decide) ?_
      rw [show M 62 0 = C 49 0 from h.rf.nb' hn0]
      refine Bd_isub (pc := 65) dX8_rightAt_65 ?_
      refine Bd_istore_3 (pc := 66) dX8_rightAt_66 (Nat.le_of_ble_eq_true rfl) rfl ?_
      refine Bd_iconst (v := 0) (pc := 67) dX8_rightAt_67 (by decide) ?_
      refine Bd_istore_4 (pc := 68) dX8_rightAt_68 (Nat.le_of_ble_eq_true rfl) rfl ?_
      refine Bd_nx (L' := (fun i => [some (.ref 58), some (.int c), some (.int (ofF C c (cn (C 5 4)))), some (.int (ofV C c)), some (.int (nI i)), none, none]) 0) ?_ (by repeat (first | exact True.intro | refine And.intro rfl ?_))
      refine Bd_for (pc := 70) (c := (cn (C 44 8))) (fun i => [some (.ref 58), some (.int c), some (.int (ofF C c (cn (C 5 4)))), some (.int (ofV C c)), some (.int (nI i)), none, none]) (fun _ => M) (fun i => ∀ k, k < i → ctN (fun q => decide (nvF C q = nvF C k)) (cn (C 44 8)) = ctN (fun q => decide (bvF C c (ofV C c) q = nvF C k)) (cn (C 44 8))) (fun ivi => ?_) (fun i hi ivi ihi => ?_) (fun k hk => absurd hk (Nat.not_lt_zero k))
      · refine Bd_iload_4 (pc := 70) dX8_rightAt_70 ?_
        refine Bd_aload_0 (pc := 72) dX8_rightAt_72 ?_
        refine Bd_getI (j := 5) ck8 (pc := 73) dX8_rightAt_73 k_791 rfl (Nat.le_of_ble_eq_true rfl) rfl ?_
        refine Bd_icmp_ge (t := 221) (pc := 76) dX8_rightAt_76 (by decide) (fun b76 => ?_) (fun b76 => (show False from lf_x h.rf.nn' b76).elim)
        refine Bd_sipush (v := 1000) (pc := 221) dX8_rightAt_221 (by decide) ?_
        refine Bd_iload_3 (pc := 224) dX8_rightAt_224 ?_
        refine Bd_iadd (pc := 225) dX8_rightAt_225 ?_
        refine Bd_iret (pc := 226) dX8_rightAt_226 rfl ?_
        have hyes : irF C c := ⟨hb, by rw [hb]; exact (tr_iff q2).mpr ivi⟩
        exact PD_i (by rw [rgF, if_pos hyes]) rfl
      · refine Bd_iload_4 (pc := 70) dX8_rightAt_70 ?_
        refine Bd_aload_0 (pc := 72) dX8_rightAt_72 ?_
        refine Bd_getI (j := 5) ck8 (pc := 73) dX8_rightAt_73 k_791 rfl (Nat.le_of_ble_eq_true rfl) rfl ?_
        refine Bd_icmp_ge (t := 221) (pc := 76) dX8_rightAt_76 (by decide) (fun b76 => (show False from lf_s h.rf.nn' (by omega) hi b76).elim) (fun b76 => ?_)
        refine Bd_iconst (v := 0) (pc := 79) dX8_rightAt_79 (by decide) ?_
        refine Bd_istore_5 (pc := 80) dX8_rightAt_80 (Nat.le_of_ble_eq_true rfl) rfl ?_
        refine Bd_iconst (v := 0) (pc := 82) dX8_rightAt_82 (by decide) ?_
        refine Bd_istore_6 (pc := 83) dX8_rightAt_83 (Nat.le_of_ble_eq_true rfl) rfl ?_
        refine Bd_nx (L' := [some (.ref 58), some (.int c), some (.int (ofF C c (cn (C 5 4)))), some (.int (ofV C c)), some (.int (nI i)), some (.int (dcF C c (ofV C c) i 0)), some (.int (nI 0))]) ?_ ⟨rfl, rfl, rfl, rfl, rfl, congrArg (fun x => some (Value.int x)) dc_z.symm, rfl, trivial⟩
        refine Bd_for (pc := 85) (c := (cn (C 44 8))) (fun j => [some (.ref 58), some (.int c), some (.int (ofF C c (cn (C 5 4)))), some (.int (ofV C c)), some (.int (nI i)), some (.int (dcF C c (ofV C c) i j)), some (.int (nI j))]) (fun _ => M) (fun _ => True) (fun ivj => ?_) (fun j hj ivj ihj => ?_) trivial
        · refine Bd_iload_6 (pc := 85) dX8_rightAt_85 ?_
          refine Bd_aload_0 (pc := 87) dX8_rightAt_87 ?_
          refine Bd_getI (j := 5) ck8 (pc := 88) dX8_rightAt_88 k_791 rfl (Nat.le_of_ble_eq_true rfl) rfl ?_
          refine Bd_icmp_ge (t := 207) (pc := 91) dX8_rightAt_91 (by decide) (fun b91 => ?_) (fun b91 => (show False from lf_x h.rf.nn' b91).elim)
          refine Bd_iload_5 (pc := 207) dX8_rightAt_207 ?_
          refine Bd_if_eq (t := 215) (pc := 209) dX8_rightAt_209 (by decide) (fun b209 => ?_) (fun b209 => ?_)
          · refine Bd_iinc_4 (pc := 215) dX8_rightAt_215 (show _ + Int32.ofInt 1 = _ + 1 from rfl) (Nat.le_of_ble_eq_true rfl) rfl ?_
            refine Bd_goto (t := 70) (pc := 218) dX8_rightAt_218 (by decide) ?_
            exact Bd_nx (ihi (fun k hk => by rcases Nat.lt_succ_iff_lt_or_eq.mp hk with q | q; exact ivi k q; rw [q]; exact (dc_0 q2).mp b209)) (by simp [wkP, nI_succ])
          · refine Bd_bipush (v := -4) (pc := 212) dX8_rightAt_212 (by decide) ?_
            refine Bd_iret (pc := 214) dX8_rightAt_214 rfl ?_
            have hno : ¬ irF C c := fun z => b209 ((dc_0 q2).mpr ((tr_iff q2).mp (by have := z.2; rw [hb] at this; exact this) i hi))
            exact PD_i (by rw [rgF, if_neg hno]) rfl
        · refine Bd_iload_6 (pc := 85) dX8_rightAt_85 ?_
          refine Bd_aload_0 (pc := 87) dX8_rightAt_87 ?_
          refine Bd_getI (j := 5) ck8 (pc := 88) dX8_rightAt_88 k_791 rfl (Nat.le_of_ble_eq_true rfl) rfl ?_
          refine Bd_icmp_ge (t := 207) (pc := 91) dX8_rightAt_91 (by decide) (fun b91 => (show False from lf_s h.rf.nn' (by omega) hj b91).elim) (fun b91 => ?_)
          refine Bd_iload_5 (pc := 94) dX8_rightAt_94 ?_
          refine Bd_aload_0 (pc := 96) dX8_rightAt_96 ?_
          refine Bd_getR (j := 4) ck8 (pc := 97) dX8_rightAt_97 k_790 rfl (Nat.le_of_ble_eq_true rfl) rfl ?_
          refine Bd_iconst (v := 2) (pc := 100) dX8_rightAt_100 (by decide) ?_
          refine Bd_iload_6 (pc := 101) dX8_rightAt_101 ?_
          refine Bd_imul (pc := 103) dX8_rightAt_103 ?_
          refine Bd_ialdc (j := 2 * j) (by rw [tn2 j (by omega)]; exact nI_clamp (by omega)) (pc := 104) dX8_rightAt_104 rfl (by rw [tn2 j (by omega)]; exact vpi (by omega) (by omega)) ?_
          refine Bd_aload_0 (pc := 105) dX8_rightAt_105 ?_
          refine Bd_getR (j := 4) ck8 (pc := 106) dX8_rightAt_106 k_790 rfl (Nat.le_of_ble_eq_true rfl) rfl ?_
          refine Bd_iconst (v := 2) (pc := 109) dX8_rightAt_109 (by decide) ?_
          refine Bd_iload_4 (pc := 110) dX8_rightAt_110 ?_
          refine Bd_imul (pc := 112) dX8_rightAt_112 ?_
          refine Bd_ialdc (j := 2 * i) (by rw [tn2 i (by omega)]; exact nI_clamp (by omega)) (pc := 113) dX8_rightAt_113 rfl (by rw [tn2 i (by omega)]; exact vpi (by omega) (by omega)) ?_
          rw [h.rf.nb' hj, h.rf.nb' hi]
          refine Bd_icmp_ne (t := 146) (pc := 114) dX8_rightAt_114 (by decide) (fun b114 => ?_) (fun b114 => ?_)
          · refine Bd_iconst (v := 0) (pc := 146) dX8_rightAt_146 (by decide) ?_
            refine Bd_iadd (pc := 147) dX8_rightAt_147 ?_
            refine Bd_istore_5 (pc := 148) dX8_rightAt_148 (Nat.le_of_ble_eq_true rfl) rfl ?_
            refine Bd_iload_5 (pc := 150) dX8_rightAt_150 ?_
            refine Bd_aload_0 (pc := 152) dX8_rightAt_152 ?_
            refine Bd_iload_6 (pc := 153) dX8_rightAt_153 ?_
            refine Bd_iload_1 (pc := 155) dX8_rightAt_155 ?_
            refine Bd_callV2i (cd := mX8_comes) (pc := 156) dX8_rightAt_156 k_1055 v_X8_comes ⟨(Nat.le_of_ble_eq_true rfl), (Nat.le_of_ble_eq_true rfl)⟩ rfl rfl (sem_X8_comes h (i := j) (by rw [hb]; exact hj) hc) (Nat.le_of_ble_eq_true rfl) ?_
            refine Bd_aload_0 (pc := 159) dX8_rightAt_159 ?_
            refine Bd_getR (j := 4) ck8 (pc := 160) dX8_rightAt_160 k_790 rfl (Nat.le_of_ble_eq_true rfl) rfl ?_
            refine Bd_iconst (v := 2) (pc := 163) dX8_rightAt_163 (by decide) ?_
            refine Bd_iload_4 (pc := 164) dX8_rightAt_164 ?_
            refine Bd_imul (pc := 166) dX8_rightAt_166 ?_
            refine Bd_ialdc (j := 2 * i) (by rw [tn2 i (by omega)]; exact nI_clamp (by omega)) (pc := 167) dX8_rightAt_167 rfl (by rw [tn2 i (by omega)]; exact vpi (by omega) (by omega)) ?_
            rw [h.rf.nb' hi]
            refine Bd_iload_3 (pc := 168) dX8_rightAt_168 ?_
            refine Bd_iadd (pc := 169) dX8_rightAt_169 ?_
            refine Bd_icmp_ne (t := 197) (pc := 170) dX8_rightAt_170 (by decide) (fun b170 => ?_) (fun b170 => ?_)
            · refine Bd_iconst (v := 0) (pc := 197) dX8_rightAt_197 (by decide) ?_
              refine Bd_isub (pc := 198) dX8_rightAt_198 ?_
              refine Bd_istore_5 (pc := 199) dX8_rightAt_199 (Nat.le_of_ble_eq_true rfl) rfl ?_
              refine Bd_iinc_6 (pc := 201) dX8_rightAt_201 (show _ + Int32.ofInt 1 = _ + 1 from rfl) (Nat.le_of_ble_eq_true rfl) rfl ?_
              refine Bd_goto (t := 85) (pc := 204) dX8_rightAt_204 (by decide) ?_
              have s := dc_s (C := C) (c := c) (l := ofV C c) (i := i) (k := j)
              rw [if_neg (show ¬ nvF C j = nvF C i from fun z => b114 (Prod.mk.inj z).1), if_neg (show ¬ bvF C c (ofV C c) j = nvF C i from fun z => b170 (bv_iff.mp z).1)] at s
              exact Bd_nx (ihj trivial) (by simp only [wkP, s, nI_succ, and_self])
            · refine Bd_aload_0 (pc := 173) dX8_rightAt_173 ?_
              refine Bd_iload_6 (pc := 174) dX8_rightAt_174 ?_
              refine Bd_callV1i (cd := mX8_toneOf) (pc := 176) dX8_rightAt_176 k_1004 v_X8_toneOf ⟨(Nat.le_of_ble_eq_true rfl), (Nat.le_of_ble_eq_true rfl)⟩ rfl rfl (sem_X8_toneOf h.rf (i := j) (by rw [hb]; exact hj)) (Nat.le_of_ble_eq_true rfl) ?_
              refine Bd_aload_0 (pc := 179) dX8_rightAt_179 ?_
              refine Bd_getR (j := 4) ck8 (pc := 180) dX8_rightAt_180 k_790 rfl (Nat.le_of_ble_eq_true rfl) rfl ?_
              refine Bd_iconst (v := 2) (pc := 183) dX8_rightAt_183 (by decide) ?_
              refine Bd_iload_4 (pc := 184) dX8_rightAt_184 ?_
              refine Bd_imul (pc := 186) dX8_rightAt_186 ?_
              refine Bd_iconst (v := 1) (pc := 187) dX8_rightAt_187 (by decide) ?_
              refine Bd_iadd (pc := 188) dX8_rightAt_188 ?_
              refine Bd_ialdc (j := 2 * i + 1) (by rw [tn3 i (by omega)]; exact nI_clamp (by omega)) (pc := 189) dX8_rightAt_189 rfl (by rw [tn3 i (by omega)]; exact vpi (by omega) (by omega)) ?_
              rw [h.rf.nt' hi]
              refine Bd_icmp_ne (t := 197) (pc := 190) dX8_rightAt_190 (by decide) (fun b190 => ?_) (fun b190 => ?_)
              · refine Bd_iconst (v := 0) (pc := 197) dX8_rightAt_197 (by decide) ?_
                refine Bd_isub (pc := 198) dX8_rightAt_198 ?_
                refine Bd_istore_5 (pc := 199) dX8_rightAt_199 (Nat.le_of_ble_eq_true rfl) rfl ?_
                refine Bd_iinc_6 (pc := 201) dX8_rightAt_201 (show _ + Int32.ofInt 1 = _ + 1 from rfl) (Nat.le_of_ble_eq_true rfl) rfl ?_
                refine Bd_goto (t := 85) (pc := 204) dX8_rightAt_204 (by decide) ?_
                have s := dc_s (C := C) (c := c) (l := ofV C c) (i := i) (k := j)
                rw [if_neg (show ¬ nvF C j = nvF C i from fun z => b114 (Prod.mk.inj z).1), if_neg (show ¬ bvF C c (ofV C c) j = nvF C i from fun z => b190 (bv_iff.mp z).2)] at s
                exact Bd_nx (ihj trivial) (by simp only [wkP, s, nI_succ, and_self])
              · refine Bd_iconst (v := 1) (pc := 193) dX8_rightAt_193 (by decide) ?_
                refine Bd_goto (t := 198) (pc := 194) dX8_rightAt_194 (by decide) ?_
                refine Bd_isub (pc := 198) dX8_rightAt_198 ?_
                refine Bd_istore_5 (pc := 199) dX8_rightAt_199 (Nat.le_of_ble_eq_true rfl) rfl ?_
                refine Bd_iinc_6 (pc := 201) dX8_rightAt_201 (show _ + Int32.ofInt 1 = _ + 1 from rfl) (Nat.le_of_ble_eq_true rfl) rfl ?_
                refine Bd_goto (t := 85) (pc := 204) dX8_rightAt_204 (by decide) ?_
                have s := dc_s (C := C) (c := c) (l := ofV C c) (i := i) (k := j)
                rw [if_neg (show ¬ nvF C j = nvF C i from fun z => b114 (Prod.mk.inj z).1), if_pos (bv_iff.mpr ⟨b170, b190⟩)] at s
                exact Bd_nx (ihj trivial) (by simp only [wkP, s, nI_succ, and_self])
          · refine Bd_aload_0 (pc := 117) dX8_rightAt_117 ?_
            refine Bd_getR (j := 4) ck8 (pc := 118) dX8_rightAt_118 k_790 rfl (Nat.le_of_ble_eq_true rfl) rfl ?_
            refine Bd_iconst (v := 2) (pc := 121) dX8_rightAt_121 (by decide) ?_
            refine Bd_iload_6 (pc := 122) dX8_rightAt_122 ?_
            refine Bd_imul (pc := 124) dX8_rightAt_124 ?_
            refine Bd_iconst (v := 1) (pc := 125) dX8_rightAt_125 (by decide) ?_
            refine Bd_iadd (pc := 126) dX8_rightAt_126 ?_
            refine Bd_ialdc (j := 2 * j + 1) (by rw [tn3 j (by omega)]; exact nI_clamp (by omega)) (pc := 127) dX8_rightAt_127 rfl (by rw [tn3 j (by omega)]; exact vpi (by omega) (by omega)) ?_
            refine Bd_aload_0 (pc := 128) dX8_rightAt_128 ?_
            refine Bd_getR (j := 4) ck8 (pc := 129) dX8_rightAt_129 k_790 rfl (Nat.le_of_ble_eq_true rfl) rfl ?_
            refine Bd_iconst (v := 2) (pc := 132) dX8_rightAt_132 (by decide) ?_
            refine Bd_iload_4 (pc := 133) dX8_rightAt_133 ?_
            refine Bd_imul (pc := 135) dX8_rightAt_135 ?_
            refine Bd_iconst (v := 1) (pc := 136) dX8_rightAt_136 (by decide) ?_
            refine Bd_iadd (pc := 137) dX8_rightAt_137 ?_
            refine Bd_ialdc (j := 2 * i + 1) (by rw [tn3 i (by omega)]; exact nI_clamp (by omega)) (pc := 138) dX8_rightAt_138 rfl (by rw [tn3 i (by omega)]; exact vpi (by omega) (by omega)) ?_
            rw [h.rf.nt' hj, h.rf.nt' hi]
            refine Bd_icmp_ne (t := 146) (pc := 139) dX8_rightAt_139 (by decide) (fun b139 => ?_) (fun b139 => ?_)
            · refine Bd_iconst (v := 0) (pc := 146) dX8_rightAt_146 (by decide) ?_
              refine Bd_iadd (pc := 147) dX8_rightAt_147 ?_
              refine Bd_istore_5 (pc := 148) dX8_rightAt_148 (Nat.le_of_ble_eq_true rfl) rfl ?_
              refine Bd_iload_5 (pc := 150) dX8_rightAt_150 ?_
              refine Bd_aload_0 (pc := 152) dX8_rightAt_152 ?_
              refine Bd_iload_6 (pc := 153) dX8_rightAt_153 ?_
              refine Bd_iload_1 (pc := 155) dX8_rightAt_155 ?_
              refine Bd_callV2i (cd := mX8_comes) (pc := 156) dX8_rightAt_156 k_1055 v_X8_comes ⟨(Nat.le_of_ble_eq_true rfl), (Nat.le_of_ble_eq_true rfl)⟩ rfl rfl (sem_X8_comes h (i := j) (by rw [hb]; exact hj) hc) (Nat.le_of_ble_eq_true rfl) ?_
              refine Bd_aload_0 (pc := 159) dX8_rightAt_159 ?_
              refine Bd_getR (j := 4) ck8 (pc := 160) dX8_rightAt_160 k_790 rfl (Nat.le_of_ble_eq_true rfl) rfl ?_
              refine Bd_iconst (v := 2) (pc := 163) dX8_rightAt_163 (by decide) ?_
              refine Bd_iload_4 (pc := 164) dX8_rightAt_164 ?_
              refine Bd_imul (pc := 166) dX8_rightAt_166 ?_
              refine Bd_ialdc (j := 2 * i) (by rw [tn2 i (by omega)]; exact nI_clamp (by omega)) (pc := 167) dX8_rightAt_167 rfl (by rw [tn2 i (by omega)]; exact vpi (by omega) (by omega)) ?_
              rw [h.rf.nb' hi]
              refine Bd_iload_3 (pc := 168) dX8_rightAt_168 ?_
              refine Bd_iadd (pc := 169) dX8_rightAt_169 ?_
              refine Bd_icmp_ne (t := 197) (pc := 170) dX8_rightAt_170 (by decide) (fun b170 => ?_) (fun b170 => ?_)
              · refine Bd_iconst (v := 0) (pc := 197) dX8_rightAt_197 (by decide) ?_
                refine Bd_isub (pc := 198) dX8_rightAt_198 ?_
                refine Bd_istore_5 (pc := 199) dX8_rightAt_199 (Nat.le_of_ble_eq_true rfl) rfl ?_
                refine Bd_iinc_6 (pc := 201) dX8_rightAt_201 (show _ + Int32.ofInt 1 = _ + 1 from rfl) (Nat.le_of_ble_eq_true rfl) rfl ?_
                refine Bd_goto (t := 85) (pc := 204) dX8_rightAt_204 (by decide) ?_
                have s := dc_s (C := C) (c := c) (l := ofV C c) (i := i) (k := j)
                rw [if_neg (show ¬ nvF C j = nvF C i from fun z => b139 (Prod.mk.inj z).2), if_neg (show ¬ bvF C c (ofV C c) j = nvF C i from fun z => b170 (bv_iff.mp z).1)] at s
                exact Bd_nx (ihj trivial) (by simp only [wkP, s, nI_succ, and_self])
              · refine Bd_aload_0 (pc := 173) dX8_rightAt_173 ?_
                refine Bd_iload_6 (pc := 174) dX8_rightAt_174 ?_
                refine Bd_callV1i (cd := mX8_toneOf) (pc := 176) dX8_rightAt_176 k_1004 v_X8_toneOf ⟨(Nat.le_of_ble_eq_true rfl), (Nat.le_of_ble_eq_true rfl)⟩ rfl rfl (sem_X8_toneOf h.rf (i := j) (by rw [hb]; exact hj)) (Nat.le_of_ble_eq_true rfl) ?_
                refine Bd_aload_0 (pc := 179) dX8_rightAt_179 ?_
                refine Bd_getR (j := 4) ck8 (pc := 180) dX8_rightAt_180 k_790 rfl (Nat.le_of_ble_eq_true rfl) rfl ?_
                refine Bd_iconst (v := 2) (pc := 183) dX8_rightAt_183 (by decide) ?_
                refine Bd_iload_4 (pc := 184) dX8_rightAt_184 ?_
                refine Bd_imul (pc := 186) dX8_rightAt_186 ?_
                refine Bd_iconst (v := 1) (pc := 187) dX8_rightAt_187 (by decide) ?_
                refine Bd_iadd (pc := 188) dX8_rightAt_188 ?_
                refine Bd_ialdc (j := 2 * i + 1) (by rw [tn3 i (by omega)]; exact nI_clamp (by omega)) (pc := 189) dX8_rightAt_189 rfl (by rw [tn3 i (by omega)]; exact vpi (by omega) (by omega)) ?_
                rw [h.rf.nt' hi]
                refine Bd_icmp_ne (t := 197) (pc := 190) dX8_rightAt_190 (by decide) (fun b190 => ?_) (fun b190 => ?_)
                · refine Bd_iconst (v := 0) (pc := 197) dX8_rightAt_197 (by decide) ?_
                  refine Bd_isub (pc := 198) dX8_rightAt_198 ?_
                  refine Bd_istore_5 (pc := 199) dX8_rightAt_199 (Nat.le_of_ble_eq_true rfl) rfl ?_
                  refine Bd_iinc_6 (pc := 201) dX8_rightAt_201 (show _ + Int32.ofInt 1 = _ + 1 from rfl) (Nat.le_of_ble_eq_true rfl) rfl ?_
                  refine Bd_goto (t := 85) (pc := 204) dX8_rightAt_204 (by decide) ?_
                  have s := dc_s (C := C) (c := c) (l := ofV C c) (i := i) (k := j)
                  rw [if_neg (show ¬ nvF C j = nvF C i from fun z => b139 (Prod.mk.inj z).2), if_neg (show ¬ bvF C c (ofV C c) j = nvF C i from fun z => b190 (bv_iff.mp z).2)] at s
                  exact Bd_nx (ihj trivial) (by simp only [wkP, s, nI_succ, and_self])
                · refine Bd_iconst (v := 1) (pc := 193) dX8_rightAt_193 (by decide) ?_
                  refine Bd_goto (t := 198) (pc := 194) dX8_rightAt_194 (by decide) ?_
                  refine Bd_isub (pc := 198) dX8_rightAt_198 ?_
                  refine Bd_istore_5 (pc := 199) dX8_rightAt_199 (Nat.le_of_ble_eq_true rfl) rfl ?_
                  refine Bd_iinc_6 (pc := 201) dX8_rightAt_201 (show _ + Int32.ofInt 1 = _ + 1 from rfl) (Nat.le_of_ble_eq_true rfl) rfl ?_
                  refine Bd_goto (t := 85) (pc := 204) dX8_rightAt_204 (by decide) ?_
                  have s := dc_s (C := C) (c := c) (l := ofV C c) (i := i) (k := j)
                  rw [if_neg (show ¬ nvF C j = nvF C i from fun z => b139 (Prod.mk.inj z).2), if_pos (bv_iff.mpr ⟨b170, b190⟩)] at s
                  exact Bd_nx (ihj trivial) (by simp only [wkP, s, nI_succ, and_self])
            · refine Bd_iconst (v := 1) (pc := 142) dX8_rightAt_142 (by decide) ?_
              refine Bd_goto (t := 147) (pc := 143) dX8_rightAt_143 (by decide) ?_
              refine Bd_iadd (pc := 147) dX8_rightAt_147 ?_
              refine Bd_istore_5 (pc := 148) dX8_rightAt_148 (Nat.le_of_ble_eq_true rfl) rfl ?_
              refine Bd_iload_5 (pc := 150) dX8_rightAt_150 ?_
              refine Bd_aload_0 (pc := 152) dX8_rightAt_152 ?_
              refine Bd_iload_6 (pc := 153) dX8_rightAt_153 ?_
              refine Bd_iload_1 (pc := 155) dX8_rightAt_155 ?_
              refine Bd_callV2i (cd := mX8_comes) (pc := 156) dX8_rightAt_156 k_1055 v_X8_comes ⟨(Nat.le_of_ble_eq_true rfl), (Nat.le_of_ble_eq_true rfl)⟩ rfl rfl (sem_X8_comes h (i := j) (by rw [hb]; exact hj) hc) (Nat.le_of_ble_eq_true rfl) ?_
              refine Bd_aload_0 (pc := 159) dX8_rightAt_159 ?_
              refine Bd_getR (j := 4) ck8 (pc := 160) dX8_rightAt_160 k_790 rfl (Nat.le_of_ble_eq_true rfl) rfl ?_
              refine Bd_iconst (v := 2) (pc := 163) dX8_rightAt_163 (by decide) ?_
              refine Bd_iload_4 (pc := 164) dX8_rightAt_164 ?_
              refine Bd_imul (pc := 166) dX8_rightAt_166 ?_
              refine Bd_ialdc (j := 2 * i) (by rw [tn2 i (by omega)]; exact nI_clamp (by omega)) (pc := 167) dX8_rightAt_167 rfl (by rw [tn2 i (by omega)]; exact vpi (by omega) (by omega)) ?_
              rw [h.rf.nb' hi]
              refine Bd_iload_3 (pc := 168) dX8_rightAt_168 ?_
              refine Bd_iadd (pc := 169) dX8_rightAt_169 ?_
              refine Bd_icmp_ne (t := 197) (pc := 170) dX8_rightAt_170 (by decide) (fun b170 => ?_) (fun b170 => ?_)
              · refine Bd_iconst (v := 0) (pc := 197) dX8_rightAt_197 (by decide) ?_
                refine Bd_isub (pc := 198) dX8_rightAt_198 ?_
                refine Bd_istore_5 (pc := 199) dX8_rightAt_199 (Nat.le_of_ble_eq_true rfl) rfl ?_
                refine Bd_iinc_6 (pc := 201) dX8_rightAt_201 (show _ + Int32.ofInt 1 = _ + 1 from rfl) (Nat.le_of_ble_eq_true rfl) rfl ?_
                refine Bd_goto (t := 85) (pc := 204) dX8_rightAt_204 (by decide) ?_
                have s := dc_s (C := C) (c := c) (l := ofV C c) (i := i) (k := j)
                rw [if_pos (show nvF C j = nvF C i from by rw [nvF, nvF, b114, b139]), if_neg (show ¬ bvF C c (ofV C c) j = nvF C i from fun z => b170 (bv_iff.mp z).1)] at s
                exact Bd_nx (ihj trivial) (by simp only [wkP, s, nI_succ, and_self])
              · refine Bd_aload_0 (pc := 173) dX8_rightAt_173 ?_
                refine Bd_iload_6 (pc := 174) dX8_rightAt_174 ?_
                refine Bd_callV1i (cd := mX8_toneOf) (pc := 176) dX8_rightAt_176 k_1004 v_X8_toneOf ⟨(Nat.le_of_ble_eq_true rfl), (Nat.le_of_ble_eq_true rfl)⟩ rfl rfl (sem_X8_toneOf h.rf (i := j) (by rw [hb]; exact hj)) (Nat.le_of_ble_eq_true rfl) ?_
                refine Bd_aload_0 (pc := 179) dX8_rightAt_179 ?_
                refine Bd_getR (j := 4) ck8 (pc := 180) dX8_rightAt_180 k_790 rfl (Nat.le_of_ble_eq_true rfl) rfl ?_
                refine Bd_iconst (v := 2) (pc := 183) dX8_rightAt_183 (by decide) ?_
                refine Bd_iload_4 (pc := 184) dX8_rightAt_184 ?_
                refine Bd_imul (pc := 186) dX8_rightAt_186 ?_
                refine Bd_iconst (v := 1) (pc := 187) dX8_rightAt_187 (by decide) ?_
                refine Bd_iadd (pc := 188) dX8_rightAt_188 ?_
                refine Bd_ialdc (j := 2 * i + 1) (by rw [tn3 i (by omega)]; exact nI_clamp (by omega)) (pc := 189) dX8_rightAt_189 rfl (by rw [tn3 i (by omega)]; exact vpi (by omega) (by omega)) ?_
                rw [h.rf.nt' hi]
                refine Bd_icmp_ne (t := 197) (pc := 190) dX8_rightAt_190 (by decide) (fun b190 => ?_) (fun b190 => ?_)
                · refine Bd_iconst (v := 0) (pc := 197) dX8_rightAt_197 (by decide) ?_
                  refine Bd_isub (pc := 198) dX8_rightAt_198 ?_
                  refine Bd_istore_5 (pc := 199) dX8_rightAt_199 (Nat.le_of_ble_eq_true rfl) rfl ?_
                  refine Bd_iinc_6 (pc := 201) dX8_rightAt_201 (show _ + Int32.ofInt 1 = _ + 1 from rfl) (Nat.le_of_ble_eq_true rfl) rfl ?_
                  refine Bd_goto (t := 85) (pc := 204) dX8_rightAt_204 (by decide) ?_
                  have s := dc_s (C := C) (c := c) (l := ofV C c) (i := i) (k := j)
                  rw [if_pos (show nvF C j = nvF C i from by rw [nvF, nvF, b114, b139]), if_neg (show ¬ bvF C c (ofV C c) j = nvF C i from fun z => b190 (bv_iff.mp z).2)] at s
                  exact Bd_nx (ihj trivial) (by simp only [wkP, s, nI_succ, and_self])
                · refine Bd_iconst (v := 1) (pc := 193) dX8_rightAt_193 (by decide) ?_
                  refine Bd_goto (t := 198) (pc := 194) dX8_rightAt_194 (by decide) ?_
                  refine Bd_isub (pc := 198) dX8_rightAt_198 ?_
                  refine Bd_istore_5 (pc := 199) dX8_rightAt_199 (Nat.le_of_ble_eq_true rfl) rfl ?_
                  refine Bd_iinc_6 (pc := 201) dX8_rightAt_201 (show _ + Int32.ofInt 1 = _ + 1 from rfl) (Nat.le_of_ble_eq_true rfl) rfl ?_
                  refine Bd_goto (t := 85) (pc := 204) dX8_rightAt_204 (by decide) ?_
                  have s := dc_s (C := C) (c := c) (l := ofV C c) (i := i) (k := j)
                  rw [if_pos (show nvF C j = nvF C i from by rw [nvF, nvF, b114, b139]), if_pos (bv_iff.mpr ⟨b170, b190⟩)] at s
                  exact Bd_nx (ihj trivial) (by simp only [wkP, s, nI_succ, and_self])
    · refine Bd_iload_3 (pc := 23) dX8_rightAt_23 ?_
      refine Bd_aload_0 (pc := 24) dX8_rightAt_24 ?_
      refine Bd_callV0i (cd := mX8_blows) (pc := 25) dX8_rightAt_25 k_996 v_X8_blows ⟨(Nat.le_of_ble_eq_true rfl), (Nat.le_of_ble_eq_true rfl)⟩ rfl rfl (sem_X8_blows h.rf) (Nat.le_of_ble_eq_true rfl) ?_
      refine Bd_icmp_ge (t := 58) (pc := 28) dX8_rightAt_28 (by decide) (fun b28 => (show False from lf_s (show C 5 4 = nI (cn (C 5 4) - 1 + 1) from by rw [show cn (C 5 4) - 1 + 1 = cn (C 5 4) by omega]; exact h.1.nb) (by omega) (by omega) b28).elim) (fun b28 => ?_)
      refine Bd_aload_0 (pc := 31) dX8_rightAt_31 ?_
      refine Bd_iload_3 (pc := 32) dX8_rightAt_32 ?_
      refine Bd_iload_1 (pc := 33) dX8_rightAt_33 ?_
      refine Bd_callV2i (cd := mX8_comes) (pc := 34) dX8_rightAt_34 k_1055 v_X8_comes ⟨(Nat.le_of_ble_eq_true rfl), (Nat.le_of_ble_eq_true rfl)⟩ rfl rfl (sem_X8_comes h (i := i + 1) (by omega) hc) (Nat.le_of_ble_eq_true rfl) ?_
      refine Bd_iload_2 (pc := 37) dX8_rightAt_37 ?_
      refine Bd_icmp_ge (t := 50) (pc := 38) dX8_rightAt_38 (by decide) (fun b38 => ?_) (fun b38 => ?_)
      · refine Bd_iload_2 (pc := 50) dX8_rightAt_50 ?_
        refine Bd_istore_2 (pc := 51) dX8_rightAt_51 (Nat.le_of_ble_eq_true rfl) rfl ?_
        refine Bd_iinc_3 (pc := 52) dX8_rightAt_52 (show _ + Int32.ofInt 1 = _ + 1 from rfl) (Nat.le_of_ble_eq_true rfl) rfl ?_
        refine Bd_goto (t := 23) (pc := 55) dX8_rightAt_55 (by decide) ?_
        exact Bd_nx (ihi trivial) ⟨rfl, rfl, congrArg (fun x => some (Value.int x)) (if_neg (Int32.not_lt.mpr b38)).symm, congrArg (fun x => some (Value.int x)) (nI_succ (i + 1)).symm, trivial⟩
      · refine Bd_aload_0 (pc := 41) dX8_rightAt_41 ?_
        refine Bd_iload_3 (pc := 42) dX8_rightAt_42 ?_
        refine Bd_iload_1 (pc := 43) dX8_rightAt_43 ?_
        refine Bd_callV2i (cd := mX8_comes) (pc := 44) dX8_rightAt_44 k_1055 v_X8_comes ⟨(Nat.le_of_ble_eq_true rfl), (Nat.le_of_ble_eq_true rfl)⟩ rfl rfl (sem_X8_comes h (i := i + 1) (by omega) hc) (Nat.le_of_ble_eq_true rfl) ?_
        refine Bd_goto (t := 51) (pc := 47) dX8_rightAt_47 (by decide) ?_
        refine Bd_istore_2 (pc := 51) dX8_rightAt_51 (Nat.le_of_ble_eq_true rfl) rfl ?_
        refine Bd_iinc_3 (pc := 52) dX8_rightAt_52 (show _ + Int32.ofInt 1 = _ + 1 from rfl) (Nat.le_of_ble_eq_true rfl) rfl ?_
        refine Bd_goto (t := 23) (pc := 55) dX8_rightAt_55 (by decide) ?_
        exact Bd_nx (ihi trivial) ⟨rfl, rfl, congrArg (fun x => some (Value.int x)) (if_pos (Int32.not_le.mp b38)).symm, congrArg (fun x => some (Value.int x)) (nI_succ (i + 1)).symm, trivial⟩
  · refine Bd_bipush (v := -4) (pc := 11) dX8_rightAt_11 (by decide) ?_
    refine Bd_iret (pc := 13) dX8_rightAt_13 rfl ?_
    rw [h.rf.n5] at b8
    exact PD_i (by rw [rgF, if_neg (fun z => b8 z.1)]) rfl
set_option maxRecDepth 100000 in
set_option maxHeartbeats 4000000 in
theorem sem_X8_right {C M : Mem} (h : RF C M) {c : Int32} : Sem mX8_right SH [.ref 58, .int c] M (RI SH (fun r N => r = rightV C c ∧ RP (C) M N)) := by
  refine Sem_of rfl (fun G => (Nat.le_of_ble_eq_true rfl)) (fun G => ?_)
  refine Bd_aload_0 (pc := 0) dX8_right_0 ?_
  refine Bd_iload_1 (pc := 1) dX8_right_1 ?_
  refine Bd_callV1i (cd := mX8_isCell) (pc := 2) dX8_right_2 k_1012 v_X8_isCell ⟨(Nat.le_of_ble_eq_true rfl), (Nat.le_of_ble_eq_true rfl)⟩ rfl rfl (sem_X8_isCell h) (Nat.le_of_ble_eq_true rfl) ?_
  refine Bd_if_ne (t := 10) (pc := 5) dX8_right_5 (by decide) (fun b5 => ?_) (fun b5 => ?_)
  · refine Bd_aload_0 (pc := 10) dX8_right_10 ?_
    refine Bd_getI (j := 5) ck8 (pc := 11) dX8_right_11 k_791 rfl (Nat.le_of_ble_eq_true rfl) rfl ?_
    refine Bd_if_ne (t := 22) (pc := 14) dX8_right_14 (by decide) (fun b14 => ?_) (fun b14 => ?_)
    · refine Bd_aload_0 (pc := 22) dX8_right_22 ?_
      refine Bd_iload_1 (pc := 23) dX8_right_23 ?_
      refine Bd_callV1i (cd := mX8_rightAt) (pc := 24) dX8_right_24 k_1092 v_X8_rightAt ⟨(Nat.le_of_ble_eq_true rfl), (Nat.le_of_ble_eq_true rfl)⟩ rfl rfl (sem_X8_rightAt h.aw (fun z => b14 (h.aw.rf.n5.trans z)) (b2_n.mp b5).1) (Nat.le_of_ble_eq_true rfl) ?_
      refine Bd_iret (pc := 27) dX8_right_27 rfl ?_
      exact ⟨_, rfl, rfl, by rw [rightV, if_pos (b2_n.mp b5), if_neg (fun z => b14 (h.aw.rf.n5.trans z))]; rfl, RP_aw h⟩
    · refine Bd_bipush (v := -2) (pc := 17) dX8_right_17 (by decide) ?_
      refine Bd_goto (t := 27) (pc := 19) dX8_right_19 (by decide) ?_
      refine Bd_iret (pc := 27) dX8_right_27 rfl ?_
      exact ⟨_, rfl, rfl, by rw [rightV, if_pos (b2_n.mp b5), if_pos (h.aw.rf.n5.symm.trans b14)], RP_aw h⟩
  · refine Bd_iconst (v := -1) (pc := 8) dX8_right_8 (by decide) ?_
    refine Bd_iret (pc := 9) dX8_right_9 rfl ?_
    exact ⟨_, rfl, rfl, by rw [rightV, if_neg (b2_0.mp b5)], RP_aw h⟩
theorem ofB {C : Mem} (h : WF C) {c : Int32} (hc : c81 c) : ∀ n, n < cn (C 5 4) → bt (ofF C c (n + 1)) 0 388
  | 0, hn => by rw [of1 h hn hc]; exact cmB h hn hc
  | n + 1, hn => mnB (ofB h hc n (by omega)) (cmB h hn hc)
theorem rg_4 {C : Mem} (h : WF C) (hz : ¬ C 44 8 = 0) {c : Int32} (hc : c81 c) : rgF C c = -4 ↔ ¬ irF C c := by
  unfold rgF
  by_cases q : irF C c
  · rw [if_pos q]
    refine ⟨fun z => ?_, fun z => absurd q z⟩
    exfalso
    have n0 := h.nn0 hz
    have n1 : 0 < cn (C 5 4) := by rw [q.1]; exact n0
    have b := ofB h hc (cn (C 5 4) - 1) (by omega)
    rw [show cn (C 5 4) - 1 + 1 = cn (C 5 4) by omega] at b
    have b2' := sbB b (h.1.2.2.2.2 0 n0).1 (by decide) (by decide)
    have b3 := adB (x := 1000) (a := 1000) (b := 1000) ⟨by decide, by decide⟩ b2' (by decide) (by decide)
    have b4 : bt (1000 + ofV C c) 0 2000 := btW b3 (by decide) (by decide)
    rw [z] at b4
    exact absurd b4.1 (by decide)
  · rw [if_neg q]; exact ⟨fun _ => q, fun _ => rfl⟩
theorem rtP_t {C : Mem} {i : Nat} (h1 : hcF C 45 (nI i)) (h2 : irF C (nI i)) : rtP C i = true := by simp only [rtP, Bool.and_eq_true, decide_eq_true_eq]; exact ⟨h1, h2⟩
theorem rtP_f {C : Mem} {i : Nat} (h : ¬ hcF C 45 (nI i) ∨ ¬ irF C (nI i)) : rtP C i = false := by simp only [rtP, Bool.and_eq_false_iff, decide_eq_false_iff_not]; exact h
set_option maxRecDepth 100000 in
set_option maxHeartbeats 4000000 in
theorem sem_X8_rights {C M : Mem} (h : RF C M) {k : Int32} : Sem mX8_rights SH [.ref 58, .int k] M (RI SH (fun r N => r = rightsV C k ∧ RP (C) M N)) := by
  refine Sem_of rfl (fun G => (Nat.le_of_ble_eq_true rfl)) (fun G => ?_)
  refine Bd_aload_0 (pc := 0) dX8_rights_0 ?_
  refine Bd_callV0v (cd := mX8_awake) (pc := 1) dX8_rights_1 k_965 v_X8_awake ⟨(Nat.le_of_ble_eq_true rfl), (Nat.le_of_ble_eq_true rfl)⟩ rfl rfl (sem_X8_awake h.a6) (Nat.le_of_ble_eq_true rfl) ?_
  refine Bd_iload_1 (pc := 4) dX8_rights_4 ?_
  refine Bd_i2l (pc := 5) dX8_rights_5 ?_
  refine Bd_lconst (v := 0) (pc := 6) dX8_rights_6 (by decide) ?_
  refine Bd_lconst (v := 1) (pc := 7) dX8_rights_7 (by decide) ?_
  refine Bd_callS3i (cd := mX8_in) (pc := 8) dX8_rights_8 k_910 v_X8_in ⟨(Nat.le_of_ble_eq_true rfl), (Nat.le_of_ble_eq_true rfl)⟩ (sem_in (a := 0) (b := 1) (by decide) (by decide)) (Nat.le_of_ble_eq_true rfl) ?_
  refine Bd_if_ne (t := 16) (pc := 11) dX8_rights_11 (by decide) (fun b11 => ?_) (fun b11 => ?_)
  · refine Bd_aload_0 (pc := 16) dX8_rights_16 ?_
    refine Bd_getI (j := 5) ck8 (pc := 17) dX8_rights_17 k_791 rfl (Nat.le_of_ble_eq_true rfl) rfl ?_
    refine Bd_if_ne (t := 26) (pc := 20) dX8_rights_20 (by decide) (fun b20 => ?_) (fun b20 => ?_)
    · refine Bd_iconst (v := 0) (pc := 26) dX8_rights_26 (by decide) ?_
      refine Bd_istore_2 (pc := 27) dX8_rights_27 (Nat.le_of_ble_eq_true rfl) rfl ?_
      refine Bd_bipush (v := -4) (pc := 28) dX8_rights_28 (by decide) ?_
      refine Bd_istore_3 (pc := 30) dX8_rights_30 (Nat.le_of_ble_eq_true rfl) rfl ?_
      refine Bd_iconst (v := 0) (pc := 31) dX8_rights_31 (by decide) ?_
      refine Bd_istore_4 (pc := 32) dX8_rights_32 (Nat.le_of_ble_eq_true rfl) rfl ?_
      have hz : ¬ C 44 8 = 0 := fun z => b20 (h.aw.rf.n5.trans z)
      refine Bd_nx (L' := (fun i => [some (.ref 58), some (.int k), some (.int (ctF (rtP C) i)), some (.int (fsF (rtP C) i)), some (.int (nI i))]) 0) ?_ (by repeat (first | exact True.intro | refine And.intro rfl ?_))
      refine Bd_for (pc := 34) (c := 81) (fun i => [some (.ref 58), some (.int k), some (.int (ctF (rtP C) i)), some (.int (fsF (rtP C) i)), some (.int (nI i))]) (fun _ => awM M) (fun _ => True) (fun ivi => ?_) (fun i hi ivi ihi => ?_) trivial
      · refine Bd_iload_4 (pc := 34) dX8_rights_34 ?_
        refine Bd_bipush (v := 81) (pc := 36) dX8_rights_36 (by decide) ?_
        refine Bd_icmp_ge (t := 81) (pc := 38) dX8_rights_38 (by decide) (fun b38 => ?_) (fun b38 => (show False from lf_x (rfl : (81 : Int32) = nI 81) b38).elim)
        refine Bd_iload_1 (pc := 81) dX8_rights_81 ?_
        refine Bd_if_ne (t := 89) (pc := 82) dX8_rights_82 (by decide) (fun b82 => ?_) (fun b82 => ?_)
        · refine Bd_iload_3 (pc := 89) dX8_rights_89 ?_
          refine Bd_iret (pc := 90) dX8_rights_90 rfl ?_
          have q := k01.mp (b2_n.mp b11)
          exact ⟨_, rfl, rfl, by rw [rightsV, if_pos q, if_neg hz, if_neg b82], RP_aw h⟩
        · refine Bd_iload_2 (pc := 85) dX8_rights_85 ?_
          refine Bd_goto (t := 90) (pc := 86) dX8_rights_86 (by decide) ?_
          refine Bd_iret (pc := 90) dX8_rights_90 rfl ?_
          have q := k01.mp (b2_n.mp b11)
          exact ⟨_, rfl, rfl, by rw [rightsV, if_pos q, if_neg hz, if_pos b82], RP_aw h⟩
      · refine Bd_iload_4 (pc := 34) dX8_rights_34 ?_
        refine Bd_bipush (v := 81) (pc := 36) dX8_rights_36 (by decide) ?_
        refine Bd_icmp_ge (t := 81) (pc := 38) dX8_rights_38 (by decide) (fun b38 => (show False from lf_s (rfl : (81 : Int32) = nI 81) (by decide) hi b38).elim) (fun b38 => ?_)
        refine Bd_aload_0 (pc := 41) dX8_rights_41 ?_
        refine Bd_iload_4 (pc := 42) dX8_rights_42 ?_
        refine Bd_callV1i (cd := mX8_isCell) (pc := 44) dX8_rights_44 k_1012 v_X8_isCell ⟨(Nat.le_of_ble_eq_true rfl), (Nat.le_of_ble_eq_true rfl)⟩ rfl rfl (sem_isCellK h.aw) (Nat.le_of_ble_eq_true rfl) ?_
        refine Bd_if_eq (t := 75) (pc := 47) dX8_rights_47 (by decide) (fun b47 => ?_) (fun b47 => ?_)
        · refine Bd_iinc_4 (pc := 75) dX8_rights_75 (show _ + Int32.ofInt 1 = _ + 1 from rfl) (Nat.le_of_ble_eq_true rfl) rfl ?_
          refine Bd_goto (t := 34) (pc := 78) dX8_rights_78 (by decide) ?_
          have hP := rtP_f (Or.inl (b2_0.mp b47))
          exact Bd_nx (ihi trivial) (by simp only [wkP, ctF, fs_s (Nat.le_of_lt hi), hP, Bool.false_eq_true, if_false, nI_succ, and_self])
        · refine Bd_aload_0 (pc := 50) dX8_rights_50 ?_
          refine Bd_iload_4 (pc := 51) dX8_rights_51 ?_
          refine Bd_callV1i (cd := mX8_rightAt) (pc := 53) dX8_rights_53 k_1092 v_X8_rightAt ⟨(Nat.le_of_ble_eq_true rfl), (Nat.le_of_ble_eq_true rfl)⟩ rfl rfl (sem_X8_rightAt h.aw hz (b2_n.mp b47).1) (Nat.le_of_ble_eq_true rfl) ?_
          refine Bd_bipush (v := -4) (pc := 56) dX8_rights_56 (by decide) ?_
          refine Bd_icmp_eq (t := 75) (pc := 58) dX8_rights_58 (by decide) (fun b58 => ?_) (fun b58 => ?_)
          · refine Bd_iinc_4 (pc := 75) dX8_rights_75 (show _ + Int32.ofInt 1 = _ + 1 from rfl) (Nat.le_of_ble_eq_true rfl) rfl ?_
            refine Bd_goto (t := 34) (pc := 78) dX8_rights_78 (by decide) ?_
            have hP := rtP_f (Or.inr ((rg_4 h.1 hz (b2_n.mp b47).1).mp b58))
            exact Bd_nx (ihi trivial) (by simp only [wkP, ctF, fs_s (Nat.le_of_lt hi), hP, Bool.false_eq_true, if_false, nI_succ, and_self])
          · refine Bd_iload_2 (pc := 61) dX8_rights_61 ?_
            refine Bd_if_ne (t := 70) (pc := 62) dX8_rights_62 (by decide) (fun b62 => ?_) (fun b62 => ?_)
            · refine Bd_iload_3 (pc := 70) dX8_rights_70 ?_
              refine Bd_istore_3 (pc := 71) dX8_rights_71 (Nat.le_of_ble_eq_true rfl) rfl ?_
              refine Bd_iinc_2 (pc := 72) dX8_rights_72 (show _ + Int32.ofInt 1 = _ + 1 from rfl) (Nat.le_of_ble_eq_true rfl) rfl ?_
              refine Bd_iinc_4 (pc := 75) dX8_rights_75 (show _ + Int32.ofInt 1 = _ + 1 from rfl) (Nat.le_of_ble_eq_true rfl) rfl ?_
              refine Bd_goto (t := 34) (pc := 78) dX8_rights_78 (by decide) ?_
              have hP := rtP_t (b2_n.mp b47) (Classical.byContradiction (fun z => b58 ((rg_4 h.1 hz (b2_n.mp b47).1).mpr z)))
              exact Bd_nx (ihi trivial) (by simp only [wkP, ctF, fs_s (Nat.le_of_lt hi), hP, if_true, if_neg b62, nI_succ, and_self])
            · refine Bd_iload_4 (pc := 65) dX8_rights_65 ?_
              refine Bd_goto (t := 71) (pc := 67) dX8_rights_67 (by decide) ?_
              refine Bd_istore_3 (pc := 71) dX8_rights_71 (Nat.le_of_ble_eq_true rfl) rfl ?_
              refine Bd_iinc_2 (pc := 72) dX8_rights_72 (show _ + Int32.ofInt 1 = _ + 1 from rfl) (Nat.le_of_ble_eq_true rfl) rfl ?_
              refine Bd_iinc_4 (pc := 75) dX8_rights_75 (show _ + Int32.ofInt 1 = _ + 1 from rfl) (Nat.le_of_ble_eq_true rfl) rfl ?_
              refine Bd_goto (t := 34) (pc := 78) dX8_rights_78 (by decide) ?_
              have hP := rtP_t (b2_n.mp b47) (Classical.byContradiction (fun z => b58 ((rg_4 h.1 hz (b2_n.mp b47).1).mpr z)))
              exact Bd_nx (ihi trivial) (by simp only [wkP, ctF, fs_s (Nat.le_of_lt hi), hP, if_true, if_pos b62, nI_succ, and_self])
    · refine Bd_bipush (v := -2) (pc := 23) dX8_rights_23 (by decide) ?_
      refine Bd_iret (pc := 25) dX8_rights_25 rfl ?_
      exact ⟨_, rfl, rfl, by rw [rightsV, if_pos (k01.mp (b2_n.mp b11)), if_pos (h.aw.rf.n5.symm.trans b20)], RP_aw h⟩
  · refine Bd_iconst (v := -1) (pc := 14) dX8_rights_14 (by decide) ?_
    refine Bd_iret (pc := 15) dX8_rights_15 rfl ?_
    exact ⟨_, rfl, rfl, by rw [rightsV, if_neg (fun z => b2_0.mp b11 (k01.mpr z))], RP_aw h⟩
