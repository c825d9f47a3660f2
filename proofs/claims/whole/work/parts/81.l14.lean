/-! 81: land of the reference: a line; what was read is taken -/
def rlT (N : Mem) : Mem := stM (if N 58 20 = 0 ∧ ¬ N 58 24 = 3 then flM N 2 else N)
def roQ (N : Mem) (a b : Int32) (q j : Nat) : Mem := updM (nuM N a b) q j (nuV N a b)
theorem roQ_RU {N : Mem} {a b : Int32} {q j : Nat} (h : RU N) (hq : q = 64 ∨ q = 66) : RU (roQ N a b q j) := RU_u (nuM_RU h) (by omega) (by omega)
def rlA (N : Mem) (c : Nat) : Mem := updM (roQ (rcM (stM N) 64 (2 * c)) 0 255 64 (2 * c + 1)) 58 9 (nI (c + 1))
def rlB (N : Mem) (c : Nat) : Mem := updM (rcM (stM N) 65 c) 58 11 (nI (c + 1))
def rlL (N : Mem) (c : Nat) : Int32 := if c = 0 then 0 else N 66 (2 * c - 2)
def rlC (N : Mem) (c : Nat) : Mem := updM (roQ (roQ (stM N) (rlL (stM N) c) 60 66 (2 * c)) 0 7 66 (2 * c + 1)) 58 13 (nI (c + 1))
def rlM (N : Mem) (n : Int32) : Mem := if n = -4 then flM N 2 else rlT (if n ≤ 3 then roM N (cn n) else if (n = 4 ∧ N 58 9 = 6) ∨ (n = 5 ∧ N 58 11 = 3) ∨ (n = 6 ∧ N 58 13 = 12) then flM N 5 else if n = 4 then rlA N (cn (N 58 9)) else if n = 5 then rlB N (cn (N 58 11)) else rlC N (cn (N 58 13)))
/-- the reference's counts of what was read -/
def RC (N : Mem) : Prop := (N 58 9 = nI (cn (N 58 9)) ∧ cn (N 58 9) ≤ 6) ∧ (N 58 11 = nI (cn (N 58 11)) ∧ cn (N 58 11) ≤ 3) ∧ (N 58 13 = nI (cn (N 58 13)) ∧ cn (N 58 13) ≤ 12)
/-- nothing but its own is changed: 58 (9 to 16, 20 to 25), 63 to 66 -/
def Kj (j : Nat) : Prop := j < 9 ∨ (17 ≤ j ∧ j < 20) ∨ 26 ≤ j
def FRn (N N' : Mem) : Prop := (∀ q, q ≠ 58 → (q < 63 ∨ 66 < q) → N' q = N q) ∧ ∀ j, Kj j → N' 58 j = N 58 j
theorem FRn.rf {N : Mem} : FRn N N := ⟨fun _ _ _ => rfl, fun _ _ => rfl⟩
theorem FRn.tr {A B C : Mem} (h : FRn A B) (g : FRn B C) : FRn A C := ⟨fun q a b => (g.1 q a b).trans (h.1 q a b), fun j a => (g.2 j a).trans (h.2 j a)⟩
theorem FRn_u {N : Mem} {j : Nat} {v : Int32} (h : ¬ Kj j) : FRn N (updM N 58 j v) := ⟨fun q a _ => updM_ne a, fun i a => by rw [updM_eq, upd_ne (show i ≠ j from fun z => h (z ▸ a))]⟩
theorem FRn_v {N : Mem} {q j : Nat} {v : Int32} (h : 63 ≤ q ∧ q ≤ 66) : FRn N (updM N q j v) := ⟨fun r a b => updM_ne (by omega), fun i a => by rw [updM_ne (by omega)]⟩
theorem FRn_fl {N : Mem} {c : Int32} : FRn N (flM N c) := by
  by_cases z : N 58 20 = 0
  · rw [flM_0 z]; exact (FRn_u (by unfold Kj; omega)).tr (FRn_u (by unfold Kj; omega))
  · rw [flM_1 z]; exact FRn.rf
theorem FRn_stN {N : Mem} : FRn N (stN N) := by
  unfold stN stG
  exact (((FRn_u (by unfold Kj; omega)).tr (FRn_u (by unfold Kj; omega))).tr (FRn_u (by unfold Kj; omega))).tr (FRn_u (by unfold Kj; omega))
theorem FRn_st {N : Mem} : FRn N (stM N) := by
  unfold stM
  split
  · split
    · exact FRn_stN.tr FRn_fl
    · exact FRn_stN
  · exact FRn.rf
theorem FRn_nu {N : Mem} {a b : Int32} : FRn N (nuM N a b) := by
  unfold nuM
  split
  · split
    · split
      · exact FRn_st
      · exact FRn_fl
    · exact FRn_fl
  · exact FRn.rf
theorem FRn_roP {N : Mem} {a b : Int32} {j : Nat} : FRn N (roP N a b j) := FRn_nu.tr (FRn_v (by omega))
theorem FRn_roQ {N : Mem} {a b : Int32} {q j : Nat} (h : 63 ≤ q ∧ q ≤ 66) : FRn N (roQ N a b q j) := FRn_nu.tr (FRn_v h)
theorem FRn_rc {N : Mem} {q j : Nat} (h : 63 ≤ q ∧ q ≤ 66) : FRn N (rcM N q j) := by
  unfold rcM rcH
  exact (((FRn_nu.tr FRn_nu).tr (FRn_u (by unfold Kj; omega))).tr (FRn_u (by unfold Kj; omega))).tr (FRn_v h)
theorem FRn_ro {N : Mem} {n : Nat} : FRn N (roM N n) := by
  have h1 : FRn N (ro1 N n) := by
    unfold ro1
    split
    · exact FRn_fl
    · exact FRn.rf
  have h2 : FRn N (ro2 N n) := (h1.tr (FRn_u (by unfold Kj; omega))).tr FRn_st
  unfold roM
  split
  · exact (h2.tr FRn_roP).tr FRn_roP
  · split
    · exact (h2.tr FRn_roP).tr FRn_roP
    · exact h2.tr FRn_roP
theorem FRn_rlT {N : Mem} : FRn N (rlT N) := by
  unfold rlT
  split
  · exact FRn_fl.tr FRn_st
  · exact FRn_st
theorem FRn_rl {N : Mem} {n : Int32} : FRn N (rlM N n) := by
  unfold rlM
  split
  · exact FRn_fl
  · refine FRn.tr ?_ FRn_rlT
    split
    · exact FRn_ro
    · split
      · exact FRn_fl
      · split
        · exact ((FRn_st.tr (FRn_rc (by omega))).tr (FRn_roQ (by omega))).tr (FRn_u (by unfold Kj; omega))
        · split
          · exact (FRn_st.tr (FRn_rc (by omega))).tr (FRn_u (by unfold Kj; omega))
          · exact ((FRn_st.tr (FRn_roQ (by omega))).tr (FRn_roQ (by omega))).tr (FRn_u (by unfold Kj; omega))
/-- the counts stay while numbers are read -/
def CK (N N' : Mem) : Prop := N' 58 9 = N 58 9 ∧ N' 58 11 = N 58 11 ∧ N' 58 13 = N 58 13
theorem CK.tr {A B C : Mem} (h : CK A B) (g : CK B C) : CK A C := ⟨g.1.trans h.1, g.2.1.trans h.2.1, g.2.2.trans h.2.2⟩
theorem CK_fl {N : Mem} {c : Int32} : CK N (flM N c) := by
  by_cases z : N 58 20 = 0
  · rw [flM_0 z]; exact ⟨rfl, rfl, rfl⟩
  · rw [flM_1 z]; exact ⟨rfl, rfl, rfl⟩
theorem CK_st {N : Mem} : CK N (stM N) := by
  unfold stM
  split
  · split
    · exact CK.tr (B := stN N) ⟨by unfold stN; rw [stG_j]; rfl, by unfold stN; rw [stG_j]; rfl, by unfold stN; rw [stG_j]; rfl⟩ CK_fl
    · exact ⟨by unfold stN; rw [stG_j]; rfl, by unfold stN; rw [stG_j]; rfl, by unfold stN; rw [stG_j]; rfl⟩
  · exact ⟨rfl, rfl, rfl⟩
theorem CK_nu {N : Mem} {a b : Int32} : CK N (nuM N a b) := by
  unfold nuM
  split
  · split
    · split
      · exact CK_st
      · exact CK_fl
    · exact CK_fl
  · exact ⟨rfl, rfl, rfl⟩
theorem CK_rc {N : Mem} {q j : Nat} (h : q = 64 ∨ q = 65) : CK N (rcM N q j) := by
  have z := (CK_nu (N := N) (a := 0) (b := 8)).tr (CK_nu (a := 0) (b := 8))
  rcases h with rfl | rfl
  · exact ⟨z.1, z.2.1, z.2.2⟩
  · exact ⟨z.1, z.2.1, z.2.2⟩
theorem CK_roQ {N : Mem} {a b : Int32} {q j : Nat} (h : q = 64 ∨ q = 66) : CK N (roQ N a b q j) := by
  have z := CK_nu (N := N) (a := a) (b := b)
  rcases h with rfl | rfl
  · exact ⟨z.1, z.2.1, z.2.2⟩
  · exact ⟨z.1, z.2.1, z.2.2⟩
theorem n2 (c : Nat) : (2 : Int32) * nI c = nI (2 * c) := by
  rw [show (2 : Int32) = nI 2 from rfl]
  simp [nI, Int32.ofNat_mul]
set_option maxRecDepth 100000 in
set_option maxHeartbeats 4000000 in
theorem sem_X8_readLine {N : Mem} {n : Int32} (h : RU N) (hC : RC N) (hN : Sem mX8_nameHere SH [.ref 58] N (PD SH (some (.int n)) N)) (hnr : n = -4 ∨ (n = nI (cn n) ∧ cn n < 7)) : Sem mX8_readLine SH [.ref 58] N (PD SH none (rlM N n)) := by
  refine Sem_of rfl (fun G => (Nat.le_of_ble_eq_true rfl)) (fun G => ?_)
  refine Bd_aload_0 (pc := 0) dX8_readLine_0 ?_
  refine Bd_callV0i (cd := mX8_nameHere) (pc := 1) dX8_readLine_1 k_937 v_X8_nameHere ⟨(Nat.le_of_ble_eq_true rfl), (Nat.le_of_ble_eq_true rfl)⟩ rfl rfl hN (Nat.le_of_ble_eq_true rfl) ?_
  refine Bd_istore_1 (pc := 4) dX8_readLine_4 (Nat.le_of_ble_eq_true rfl) rfl ?_
  refine Bd_iload_1 (pc := 5) dX8_readLine_5 ?_
  refine Bd_bipush (v := -4) (pc := 6) dX8_readLine_6 (by decide) ?_
  refine Bd_icmp_ne (t := 17) (pc := 8) dX8_readLine_8 (by decide) (fun b8 => ?_) (fun b8 => ?_)
  · have h4 : ¬ n = -4 := b8
    have hn := hnr.resolve_left h4
    refine Bd_iload_1 (pc := 17) dX8_readLine_17 ?_
    refine Bd_iconst (v := 3) (pc := 18) dX8_readLine_18 (by decide) ?_
    refine Bd_icmp_gt (t := 30) (pc := 19) dX8_readLine_19 (by decide) (fun b19 => ?_) (fun b19 => ?_)
    · have g3 : ¬ n ≤ 3 := Int32.not_le.mpr b19
      refine Bd_iload_1 (pc := 30) dX8_readLine_30 ?_
      refine Bd_iconst (v := 4) (pc := 31) dX8_readLine_31 (by decide) ?_
      refine Bd_icmp_ne (t := 47) (pc := 32) dX8_readLine_32 (by decide) (fun b32 => ?_) (fun b32 => ?_)
      · refine Bd_iload_1 (pc := 47) dX8_readLine_47 ?_
        refine Bd_iconst (v := 5) (pc := 48) dX8_readLine_48 (by decide) ?_
        refine Bd_icmp_ne (t := 63) (pc := 49) dX8_readLine_49 (by decide) (fun b49 => ?_) (fun b49 => ?_)
        · refine Bd_aload_0 (pc := 63) dX8_readLine_63 ?_
          refine Bd_getI (j := 13) ck8 (pc := 64) dX8_readLine_64 k_799 rfl (Nat.le_of_ble_eq_true rfl) rfl ?_
          refine Bd_bipush (v := 12) (pc := 67) dX8_readLine_67 (by decide) ?_
          refine Bd_icmp_ne (t := 80) (pc := 69) dX8_readLine_69 (by decide) (fun b69 => ?_) (fun b69 => ?_)
          · have hf : ¬ ((n = 4 ∧ N 58 9 = 6) ∨ (n = 5 ∧ N 58 11 = 3) ∨ (n = 6 ∧ N 58 13 = 12)) := fun z => z.elim (fun z => b32 z.1) (fun z => z.elim (fun z => b49 z.1) (fun z => b69 z.2))
            have hlt : (cn (N 58 13)) < 12 := Nat.lt_of_le_of_ne hC.2.2.2 (fun z => b69 (by rw [hC.2.2.1, z]; rfl))
            refine Bd_aload_0 (pc := 80) dX8_readLine_80 ?_
            refine Bd_callV0v (cd := mX8_step) (pc := 81) dX8_readLine_81 k_917 v_X8_step ⟨(Nat.le_of_ble_eq_true rfl), (Nat.le_of_ble_eq_true rfl)⟩ rfl rfl (sem_X8_step' h) (Nat.le_of_ble_eq_true rfl) ?_
            refine Bd_iload_1 (pc := 84) dX8_readLine_84 ?_
            refine Bd_iconst (v := 4) (pc := 85) dX8_readLine_85 (by decide) ?_
            refine Bd_icmp_ne (t := 134) (pc := 86) dX8_readLine_86 (by decide) (fun b86 => ?_) (fun b86 => (show False from b32 b86).elim)
            refine Bd_iload_1 (pc := 134) dX8_readLine_134 ?_
            refine Bd_iconst (v := 5) (pc := 135) dX8_readLine_135 (by decide) ?_
            refine Bd_icmp_ne (t := 161) (pc := 136) dX8_readLine_136 (by decide) (fun b136 => ?_) (fun b136 => (show False from b49 b136).elim)
            have hn0 : stM N 58 13 = nI (cn (N 58 13)) := ((CK_st (N := N)).2.2).trans hC.2.2.1
            refine Bd_aload_0 (pc := 161) dX8_readLine_161 ?_
            refine Bd_getR (j := 12) ck8 (pc := 162) dX8_readLine_162 k_798 rfl (Nat.le_of_ble_eq_true rfl) rfl ?_
            refine Bd_iconst (v := 2) (pc := 165) dX8_readLine_165 (by decide) ?_
            refine Bd_aload_0 (pc := 166) dX8_readLine_166 ?_
            refine Bd_getI (j := 13) ck8 (pc := 167) dX8_readLine_167 k_799 rfl (Nat.le_of_ble_eq_true rfl) rfl ?_
            refine Bd_imul (pc := 170) dX8_readLine_170 ?_
            refine Bd_aload_0 (pc := 171) dX8_readLine_171 ?_
            refine Bd_aload_0 (pc := 172) dX8_readLine_172 ?_
            refine Bd_getI (j := 13) ck8 (pc := 173) dX8_readLine_173 k_799 rfl (Nat.le_of_ble_eq_true rfl) rfl ?_
            refine Bd_if_ne (t := 183) (pc := 176) dX8_readLine_176 (by decide) (fun b176 => ?_) (fun b176 => ?_)
            · have n0 : 0 < (cn (N 58 13)) := Nat.pos_of_ne_zero (fun z => b176 (by rw [hn0, z]; rfl))
              have e2 : (2 : Int32) * stM N 58 13 - 2 = nI (2 * (cn (N 58 13)) - 2) := by rw [hn0, n2]; exact nI_sb (b := 2) (by omega)
              refine Bd_aload_0 (pc := 183) dX8_readLine_183 ?_
              refine Bd_getR (j := 12) ck8 (pc := 184) dX8_readLine_184 k_798 rfl (Nat.le_of_ble_eq_true rfl) rfl ?_
              refine Bd_iconst (v := 2) (pc := 187) dX8_readLine_187 (by decide) ?_
              refine Bd_aload_0 (pc := 188) dX8_readLine_188 ?_
              refine Bd_getI (j := 13) ck8 (pc := 189) dX8_readLine_189 k_799 rfl (Nat.le_of_ble_eq_true rfl) rfl ?_
              refine Bd_imul (pc := 192) dX8_readLine_192 ?_
              refine Bd_iconst (v := 2) (pc := 193) dX8_readLine_193 (by decide) ?_
              refine Bd_isub (pc := 194) dX8_readLine_194 ?_
              refine Bd_ialdc (j := 2 * (cn (N 58 13)) - 2) (by rw [e2]; exact nI_clamp (by omega)) (pc := 195) dX8_readLine_195 rfl (by rw [e2]; exact vpi (by omega) (by omega)) ?_
              refine Bd_bipush (v := 60) (pc := 196) dX8_readLine_196 (by decide) ?_
              have hLs : stM N 66 (2 * (cn (N 58 13)) - 2) = rlL (stM N) (cn (N 58 13)) := by unfold rlL; rw [if_neg (by omega)]
              refine Bd_callV2i (cd := mX8_number) (pc := 198) dX8_readLine_198 k_945 v_X8_number ⟨(Nat.le_of_ble_eq_true rfl), (Nat.le_of_ble_eq_true rfl)⟩ rfl rfl (by rw [hLs]; exact sem_X8_number (stM_RU h)) (Nat.le_of_ble_eq_true rfl) ?_
              refine Bd_iastc (j := 2 * (cn (N 58 13))) (by rw [hn0, n2]; exact nI_clamp (by omega)) (pc := 201) dX8_readLine_201 rfl (by rw [hn0, n2]; exact vpi (by omega) (by omega)) ?_
              refine Bd_cM (M := roQ (stM N) (rlL (stM N) (cn (N 58 13))) 60 66 (2 * (cn (N 58 13)))) ?_ rfl
              have hn1 : roQ (stM N) (rlL (stM N) (cn (N 58 13))) 60 66 (2 * (cn (N 58 13))) 58 13 = nI (cn (N 58 13)) := ((CK_st.tr (CK_roQ (Or.inr rfl))).2.2).trans hC.2.2.1
              have hn2 : roQ (roQ (stM N) (rlL (stM N) (cn (N 58 13))) 60 66 (2 * (cn (N 58 13)))) 0 7 66 (2 * (cn (N 58 13)) + 1) 58 13 = nI (cn (N 58 13)) := (((CK_st.tr (CK_roQ (Or.inr rfl))).tr (CK_roQ (Or.inr rfl))).2.2).trans hC.2.2.1
              refine Bd_aload_0 (pc := 202) dX8_readLine_202 ?_
              refine Bd_getR (j := 12) ck8 (pc := 203) dX8_readLine_203 k_798 rfl (Nat.le_of_ble_eq_true rfl) rfl ?_
              refine Bd_iconst (v := 2) (pc := 206) dX8_readLine_206 (by decide) ?_
              refine Bd_aload_0 (pc := 207) dX8_readLine_207 ?_
              refine Bd_getI (j := 13) ck8 (pc := 208) dX8_readLine_208 k_799 rfl (Nat.le_of_ble_eq_true rfl) rfl ?_
              refine Bd_imul (pc := 211) dX8_readLine_211 ?_
              refine Bd_iconst (v := 1) (pc := 212) dX8_readLine_212 (by decide) ?_
              refine Bd_iadd (pc := 213) dX8_readLine_213 ?_
              refine Bd_aload_0 (pc := 214) dX8_readLine_214 ?_
              refine Bd_iconst (v := 0) (pc := 215) dX8_readLine_215 (by decide) ?_
              refine Bd_bipush (v := 7) (pc := 216) dX8_readLine_216 (by decide) ?_
              refine Bd_callV2i (cd := mX8_number) (pc := 218) dX8_readLine_218 k_945 v_X8_number ⟨(Nat.le_of_ble_eq_true rfl), (Nat.le_of_ble_eq_true rfl)⟩ rfl rfl (sem_X8_number (roQ_RU (stM_RU h) (Or.inr rfl))) (Nat.le_of_ble_eq_true rfl) ?_
              refine Bd_iastc (j := 2 * (cn (N 58 13)) + 1) (by rw [hn1, n2, ← nI_succ]; exact nI_clamp (by omega)) (pc := 221) dX8_readLine_221 rfl (by rw [hn1, n2, ← nI_succ]; exact vpi (by omega) (by omega)) ?_
              refine Bd_aload_0 (pc := 222) dX8_readLine_222 ?_
              refine Bd_dup (pc := 223) dX8_readLine_223 rfl ?_
              refine Bd_getI (j := 13) ck8 (pc := 224) dX8_readLine_224 k_799 rfl (Nat.le_of_ble_eq_true rfl) rfl ?_
              refine Bd_iconst (v := 1) (pc := 227) dX8_readLine_227 (by decide) ?_
              refine Bd_iadd (pc := 228) dX8_readLine_228 ?_
              refine Bd_putI (j := 13) (ty := .int) ck8 (pc := 229) dX8_readLine_229 k_799 rfl (Nat.le_of_ble_eq_true rfl) rfl rfl pfI rfl rfl ?_
              refine Bd_cM (M := rlC N (cn (N 58 13))) ?_ (by unfold rlC; rw [nI_succ, ← hn2]; rfl)
              have hX : RU (rlC N (cn (N 58 13))) := (show RU (updM (roQ (roQ (stM N) (rlL (stM N) (cn (N 58 13))) 60 66 (2 * (cn (N 58 13)))) 0 7 66 (2 * (cn (N 58 13)) + 1)) 58 13 _) from RU_s (roQ_RU (roQ_RU (stM_RU h) (Or.inr rfl)) (Or.inr rfl)) (by decide) (by decide) (by decide))
              have hM : rlM N n = rlT (rlC N (cn (N 58 13))) := by unfold rlM; rw [if_neg h4, if_neg g3, if_neg hf, if_neg b86, if_neg b136]
              refine Bd_aload_0 (pc := 232) dX8_readLine_232 ?_
              refine Bd_getI (j := 20) ck8 (pc := 233) dX8_readLine_233 k_806 rfl (Nat.le_of_ble_eq_true rfl) rfl ?_
              refine Bd_if_ne (t := 252) (pc := 236) dX8_readLine_236 (by decide) (fun b236 => ?_) (fun b236 => ?_)
              · refine Bd_aload_0 (pc := 252) dX8_readLine_252 ?_
                refine Bd_callV0v (cd := mX8_step) (pc := 253) dX8_readLine_253 k_917 v_X8_step ⟨(Nat.le_of_ble_eq_true rfl), (Nat.le_of_ble_eq_true rfl)⟩ rfl rfl (sem_X8_step' hX) (Nat.le_of_ble_eq_true rfl) ?_
                refine Bd_vret (pc := 256) dX8_readLine_256 rfl ?_
                exact PD_v (by rw [hM]; unfold rlT; rw [if_neg (fun z => b236 z.1)])
              · refine Bd_aload_0 (pc := 239) dX8_readLine_239 ?_
                refine Bd_getI (j := 24) ck8 (pc := 240) dX8_readLine_240 k_810 rfl (Nat.le_of_ble_eq_true rfl) rfl ?_
                refine Bd_iconst (v := 3) (pc := 243) dX8_readLine_243 (by decide) ?_
                refine Bd_icmp_eq (t := 252) (pc := 244) dX8_readLine_244 (by decide) (fun b244 => ?_) (fun b244 => ?_)
                · refine Bd_aload_0 (pc := 252) dX8_readLine_252 ?_
                  refine Bd_callV0v (cd := mX8_step) (pc := 253) dX8_readLine_253 k_917 v_X8_step ⟨(Nat.le_of_ble_eq_true rfl), (Nat.le_of_ble_eq_true rfl)⟩ rfl rfl (sem_X8_step' hX) (Nat.le_of_ble_eq_true rfl) ?_
                  refine Bd_vret (pc := 256) dX8_readLine_256 rfl ?_
                  exact PD_v (by rw [hM]; unfold rlT; rw [if_neg (fun z => z.2 b244)])
                · refine Bd_aload_0 (pc := 247) dX8_readLine_247 ?_
                  refine Bd_iconst (v := 2) (pc := 248) dX8_readLine_248 (by decide) ?_
                  refine Bd_callV1v (cd := mX8_fails) (pc := 249) dX8_readLine_249 k_929 v_X8_fails ⟨(Nat.le_of_ble_eq_true rfl), (Nat.le_of_ble_eq_true rfl)⟩ rfl rfl sem_X8_fails (Nat.le_of_ble_eq_true rfl) ?_
                  refine Bd_aload_0 (pc := 252) dX8_readLine_252 ?_
                  refine Bd_callV0v (cd := mX8_step) (pc := 253) dX8_readLine_253 k_917 v_X8_step ⟨(Nat.le_of_ble_eq_true rfl), (Nat.le_of_ble_eq_true rfl)⟩ rfl rfl (sem_X8_step' (flM_RU hX (by decide))) (Nat.le_of_ble_eq_true rfl) ?_
                  refine Bd_vret (pc := 256) dX8_readLine_256 rfl ?_
                  exact PD_v (by rw [hM]; unfold rlT; rw [if_pos ⟨b236, b244⟩])
            · refine Bd_iconst (v := 0) (pc := 179) dX8_readLine_179 (by decide) ?_
              refine Bd_goto (t := 196) (pc := 180) dX8_readLine_180 (by decide) ?_
              refine Bd_bipush (v := 60) (pc := 196) dX8_readLine_196 (by decide) ?_
              have hLs : (0 : Int32) = rlL (stM N) (cn (N 58 13)) := by unfold rlL; rw [if_pos (nI_inj (b := 0) (hn0.symm.trans b176) (by omega) (by omega))]
              refine Bd_callV2i (cd := mX8_number) (pc := 198) dX8_readLine_198 k_945 v_X8_number ⟨(Nat.le_of_ble_eq_true rfl), (Nat.le_of_ble_eq_true rfl)⟩ rfl rfl (by rw [hLs]; exact sem_X8_number (stM_RU h)) (Nat.le_of_ble_eq_true rfl) ?_
              refine Bd_iastc (j := 2 * (cn (N 58 13))) (by rw [hn0, n2]; exact nI_clamp (by omega)) (pc := 201) dX8_readLine_201 rfl (by rw [hn0, n2]; exact vpi (by omega) (by omega)) ?_
              refine Bd_cM (M := roQ (stM N) (rlL (stM N) (cn (N 58 13))) 60 66 (2 * (cn (N 58 13)))) ?_ rfl
              have hn1 : roQ (stM N) (rlL (stM N) (cn (N 58 13))) 60 66 (2 * (cn (N 58 13))) 58 13 = nI (cn (N 58 13)) := ((CK_st.tr (CK_roQ (Or.inr rfl))).2.2).trans hC.2.2.1
              have hn2 : roQ (roQ (stM N) (rlL (stM N) (cn (N 58 13))) 60 66 (2 * (cn (N 58 13)))) 0 7 66 (2 * (cn (N 58 13)) + 1) 58 13 = nI (cn (N 58 13)) := (((CK_st.tr (CK_roQ (Or.inr rfl))).tr (CK_roQ (Or.inr rfl))).2.2).trans hC.2.2.1
              refine Bd_aload_0 (pc := 202) dX8_readLine_202 ?_
              refine Bd_getR (j := 12) ck8 (pc := 203) dX8_readLine_203 k_798 rfl (Nat.le_of_ble_eq_true rfl) rfl ?_
              refine Bd_iconst (v := 2) (pc := 206) dX8_readLine_206 (by decide) ?_
              refine Bd_aload_0 (pc := 207) dX8_readLine_207 ?_
              refine Bd_getI (j := 13) ck8 (pc := 208) dX8_readLine_208 k_799 rfl (Nat.le_of_ble_eq_true rfl) rfl ?_
              refine Bd_imul (pc := 211) dX8_readLine_211 ?_
              refine Bd_iconst (v := 1) (pc := 212) dX8_readLine_212 (by decide) ?_
              refine Bd_iadd (pc := 213) dX8_readLine_213 ?_
              refine Bd_aload_0 (pc := 214) dX8_readLine_214 ?_
              refine Bd_iconst (v := 0) (pc := 215) dX8_readLine_215 (by decide) ?_
              refine Bd_bipush (v := 7) (pc := 216) dX8_readLine_216 (by decide) ?_
              refine Bd_callV2i (cd := mX8_number) (pc := 218) dX8_readLine_218 k_945 v_X8_number ⟨(Nat.le_of_ble_eq_true rfl), (Nat.le_of_ble_eq_true rfl)⟩ rfl rfl (sem_X8_number (roQ_RU (stM_RU h) (Or.inr rfl))) (Nat.le_of_ble_eq_true rfl) ?_
              refine Bd_iastc (j := 2 * (cn (N 58 13)) + 1) (by rw [hn1, n2, ← nI_succ]; exact nI_clamp (by omega)) (pc := 221) dX8_readLine_221 rfl (by rw [hn1, n2, ← nI_succ]; exact vpi (by omega) (by omega)) ?_
              refine Bd_aload_0 (pc := 222) dX8_readLine_222 ?_
              refine Bd_dup (pc := 223) dX8_readLine_223 rfl ?_
              refine Bd_getI (j := 13) ck8 (pc := 224) dX8_readLine_224 k_799 rfl (Nat.le_of_ble_eq_true rfl) rfl ?_
              refine Bd_iconst (v := 1) (pc := 227) dX8_readLine_227 (by decide) ?_
              refine Bd_iadd (pc := 228) dX8_readLine_228 ?_
              refine Bd_putI (j := 13) (ty := .int) ck8 (pc := 229) dX8_readLine_229 k_799 rfl (Nat.le_of_ble_eq_true rfl) rfl rfl pfI rfl rfl ?_
              refine Bd_cM (M := rlC N (cn (N 58 13))) ?_ (by unfold rlC; rw [nI_succ, ← hn2]; rfl)
              have hX : RU (rlC N (cn (N 58 13))) := (show RU (updM (roQ (roQ (stM N) (rlL (stM N) (cn (N 58 13))) 60 66 (2 * (cn (N 58 13)))) 0 7 66 (2 * (cn (N 58 13)) + 1)) 58 13 _) from RU_s (roQ_RU (roQ_RU (stM_RU h) (Or.inr rfl)) (Or.inr rfl)) (by decide) (by decide) (by decide))
              have hM : rlM N n = rlT (rlC N (cn (N 58 13))) := by unfold rlM; rw [if_neg h4, if_neg g3, if_neg hf, if_neg b86, if_neg b136]
              refine Bd_aload_0 (pc := 232) dX8_readLine_232 ?_
              refine Bd_getI (j := 20) ck8 (pc := 233) dX8_readLine_233 k_806 rfl (Nat.le_of_ble_eq_true rfl) rfl ?_
              refine Bd_if_ne (t := 252) (pc := 236) dX8_readLine_236 (by decide) (fun b236 => ?_) (fun b236 => ?_)
              · refine Bd_aload_0 (pc := 252) dX8_readLine_252 ?_
                refine Bd_callV0v (cd := mX8_step) (pc := 253) dX8_readLine_253 k_917 v_X8_step ⟨(Nat.le_of_ble_eq_true rfl), (Nat.le_of_ble_eq_true rfl)⟩ rfl rfl (sem_X8_step' hX) (Nat.le_of_ble_eq_true rfl) ?_
                refine Bd_vret (pc := 256) dX8_readLine_256 rfl ?_
                exact PD_v (by rw [hM]; unfold rlT; rw [if_neg (fun z => b236 z.1)])
              · refine Bd_aload_0 (pc := 239) dX8_readLine_239 ?_
                refine Bd_getI (j := 24) ck8 (pc := 240) dX8_readLine_240 k_810 rfl (Nat.le_of_ble_eq_true rfl) rfl ?_
                refine Bd_iconst (v := 3) (pc := 243) dX8_readLine_243 (by decide) ?_
                refine Bd_icmp_eq (t := 252) (pc := 244) dX8_readLine_244 (by decide) (fun b244 => ?_) (fun b244 => ?_)
                · refine Bd_aload_0 (pc := 252) dX8_readLine_252 ?_
                  refine Bd_callV0v (cd := mX8_step) (pc := 253) dX8_readLine_253 k_917 v_X8_step ⟨(Nat.le_of_ble_eq_true rfl), (Nat.le_of_ble_eq_true rfl)⟩ rfl rfl (sem_X8_step' hX) (Nat.le_of_ble_eq_true rfl) ?_
                  refine Bd_vret (pc := 256) dX8_readLine_256 rfl ?_
                  exact PD_v (by rw [hM]; unfold rlT; rw [if_neg (fun z => z.2 b244)])
                · refine Bd_aload_0 (pc := 247) dX8_readLine_247 ?_
                  refine Bd_iconst (v := 2) (pc := 248) dX8_readLine_248 (by decide) ?_
                  refine Bd_callV1v (cd := mX8_fails) (pc := 249) dX8_readLine_249 k_929 v_X8_fails ⟨(Nat.le_of_ble_eq_true rfl), (Nat.le_of_ble_eq_true rfl)⟩ rfl rfl sem_X8_fails (Nat.le_of_ble_eq_true rfl) ?_
                  refine Bd_aload_0 (pc := 252) dX8_readLine_252 ?_
                  refine Bd_callV0v (cd := mX8_step) (pc := 253) dX8_readLine_253 k_917 v_X8_step ⟨(Nat.le_of_ble_eq_true rfl), (Nat.le_of_ble_eq_true rfl)⟩ rfl rfl (sem_X8_step' (flM_RU hX (by decide))) (Nat.le_of_ble_eq_true rfl) ?_
                  refine Bd_vret (pc := 256) dX8_readLine_256 rfl ?_
                  exact PD_v (by rw [hM]; unfold rlT; rw [if_pos ⟨b236, b244⟩])
          · have hf : (n = 4 ∧ N 58 9 = 6) ∨ (n = 5 ∧ N 58 11 = 3) ∨ (n = 6 ∧ N 58 13 = 12) := Or.inr (Or.inr ⟨(by
                    have q : 3 < n := b19
                    rw [hn.1] at q b32 b49
                    have q1 : 3 < cn n := Nat.not_le.mp (fun z => nI_nlt (a := 3) z (by decide) q)
                    have q2 : cn n ≠ 4 := fun z => b32 (by rw [z]; rfl)
                    have q3 : cn n ≠ 5 := fun z => b49 (by rw [z]; rfl)
                    rw [hn.1, show cn n = 6 by have := hn.2; omega]; rfl), b69⟩)
            refine Bd_aload_0 (pc := 72) dX8_readLine_72 ?_
            refine Bd_iconst (v := 5) (pc := 73) dX8_readLine_73 (by decide) ?_
            refine Bd_callV1v (cd := mX8_fails) (pc := 74) dX8_readLine_74 k_929 v_X8_fails ⟨(Nat.le_of_ble_eq_true rfl), (Nat.le_of_ble_eq_true rfl)⟩ rfl rfl sem_X8_fails (Nat.le_of_ble_eq_true rfl) ?_
            refine Bd_goto (t := 232) (pc := 77) dX8_readLine_77 (by decide) ?_
            have hX : RU (flM N 5) := flM_RU h (by decide)
            have hM : rlM N n = rlT (flM N 5) := by unfold rlM; rw [if_neg h4, if_neg g3, if_pos hf]
            refine Bd_aload_0 (pc := 232) dX8_readLine_232 ?_
            refine Bd_getI (j := 20) ck8 (pc := 233) dX8_readLine_233 k_806 rfl (Nat.le_of_ble_eq_true rfl) rfl ?_
            refine Bd_if_ne (t := 252) (pc := 236) dX8_readLine_236 (by decide) (fun b236 => ?_) (fun b236 => ?_)
            · refine Bd_aload_0 (pc := 252) dX8_readLine_252 ?_
              refine Bd_callV0v (cd := mX8_step) (pc := 253) dX8_readLine_253 k_917 v_X8_step ⟨(Nat.le_of_ble_eq_true rfl), (Nat.le_of_ble_eq_true rfl)⟩ rfl rfl (sem_X8_step' hX) (Nat.le_of_ble_eq_true rfl) ?_
              refine Bd_vret (pc := 256) dX8_readLine_256 rfl ?_
              exact PD_v (by rw [hM]; unfold rlT; rw [if_neg (fun z => b236 z.1)])
            · refine Bd_aload_0 (pc := 239) dX8_readLine_239 ?_
              refine Bd_getI (j := 24) ck8 (pc := 240) dX8_readLine_240 k_810 rfl (Nat.le_of_ble_eq_true rfl) rfl ?_
              refine Bd_iconst (v := 3) (pc := 243) dX8_readLine_243 (by decide) ?_
              refine Bd_icmp_eq (t := 252) (pc := 244) dX8_readLine_244 (by decide) (fun b244 => ?_) (fun b244 => ?_)
              · refine Bd_aload_0 (pc := 252) dX8_readLine_252 ?_
                refine Bd_callV0v (cd := mX8_step) (pc := 253) dX8_readLine_253 k_917 v_X8_step ⟨(Nat.le_of_ble_eq_true rfl), (Nat.le_of_ble_eq_true rfl)⟩ rfl rfl (sem_X8_step' hX) (Nat.le_of_ble_eq_true rfl) ?_
                refine Bd_vret (pc := 256) dX8_readLine_256 rfl ?_
                exact PD_v (by rw [hM]; unfold rlT; rw [if_neg (fun z => z.2 b244)])
              · refine Bd_aload_0 (pc := 247) dX8_readLine_247 ?_
                refine Bd_iconst (v := 2) (pc := 248) dX8_readLine_248 (by decide) ?_
                refine Bd_callV1v (cd := mX8_fails) (pc := 249) dX8_readLine_249 k_929 v_X8_fails ⟨(Nat.le_of_ble_eq_true rfl), (Nat.le_of_ble_eq_true rfl)⟩ rfl rfl sem_X8_fails (Nat.le_of_ble_eq_true rfl) ?_
                refine Bd_aload_0 (pc := 252) dX8_readLine_252 ?_
                refine Bd_callV0v (cd := mX8_step) (pc := 253) dX8_readLine_253 k_917 v_X8_step ⟨(Nat.le_of_ble_eq_true rfl), (Nat.le_of_ble_eq_true rfl)⟩ rfl rfl (sem_X8_step' (flM_RU hX (by decide))) (Nat.le_of_ble_eq_true rfl) ?_
                refine Bd_vret (pc := 256) dX8_readLine_256 rfl ?_
                exact PD_v (by rw [hM]; unfold rlT; rw [if_pos ⟨b236, b244⟩])
        · refine Bd_aload_0 (pc := 52) dX8_readLine_52 ?_
          refine Bd_getI (j := 11) ck8 (pc := 53) dX8_readLine_53 k_797 rfl (Nat.le_of_ble_eq_true rfl) rfl ?_
          refine Bd_iconst (v := 3) (pc := 56) dX8_readLine_56 (by decide) ?_
          refine Bd_icmp_ne (t := 80) (pc := 57) dX8_readLine_57 (by decide) (fun b57 => ?_) (fun b57 => ?_)
          · have hf : ¬ ((n = 4 ∧ N 58 9 = 6) ∨ (n = 5 ∧ N 58 11 = 3) ∨ (n = 6 ∧ N 58 13 = 12)) := fun z => z.elim (fun z => b32 z.1) (fun z => z.elim (fun z => b57 z.2) (fun z => absurd (b49.symm.trans z.1) (by decide)))
            have hlt : (cn (N 58 11)) < 3 := Nat.lt_of_le_of_ne hC.2.1.2 (fun z => b57 (by rw [hC.2.1.1, z]; rfl))
            refine Bd_aload_0 (pc := 80) dX8_readLine_80 ?_
            refine Bd_callV0v (cd := mX8_step) (pc := 81) dX8_readLine_81 k_917 v_X8_step ⟨(Nat.le_of_ble_eq_true rfl), (Nat.le_of_ble_eq_true rfl)⟩ rfl rfl (sem_X8_step' h) (Nat.le_of_ble_eq_true rfl) ?_
            refine Bd_iload_1 (pc := 84) dX8_readLine_84 ?_
            refine Bd_iconst (v := 4) (pc := 85) dX8_readLine_85 (by decide) ?_
            refine Bd_icmp_ne (t := 134) (pc := 86) dX8_readLine_86 (by decide) (fun b86 => ?_) (fun b86 => (show False from b32 b86).elim)
            refine Bd_iload_1 (pc := 134) dX8_readLine_134 ?_
            refine Bd_iconst (v := 5) (pc := 135) dX8_readLine_135 (by decide) ?_
            refine Bd_icmp_ne (t := 161) (pc := 136) dX8_readLine_136 (by decide) (fun b136 => (show False from b136 b49).elim) (fun b136 => ?_)
            refine Bd_aload_0 (pc := 139) dX8_readLine_139 ?_
            refine Bd_iconst (v := 0) (pc := 140) dX8_readLine_140 (by decide) ?_
            refine Bd_aload_0 (pc := 141) dX8_readLine_141 ?_
            refine Bd_getI (j := 11) ck8 (pc := 142) dX8_readLine_142 k_797 rfl (Nat.le_of_ble_eq_true rfl) rfl ?_
            rw [show stM N 58 11 = N 58 11 from (CK_st (N := N)).2.1, hC.2.1.1]
            refine Bd_callV2v (cd := mX8_readCell) (pc := 145) dX8_readLine_145 k_949 v_X8_readCell ⟨(Nat.le_of_ble_eq_true rfl), (Nat.le_of_ble_eq_true rfl)⟩ rfl rfl (sem_X8_readCellF (stM_RU h) (by omega)) (Nat.le_of_ble_eq_true rfl) ?_
            have hc2 : rcM (stM N) 65 (cn (N 58 11)) 58 11 = nI (cn (N 58 11)) := ((CK_st.tr (CK_rc (Or.inr rfl))).2.1).trans hC.2.1.1
            refine Bd_aload_0 (pc := 148) dX8_readLine_148 ?_
            refine Bd_dup (pc := 149) dX8_readLine_149 rfl ?_
            refine Bd_getI (j := 11) ck8 (pc := 150) dX8_readLine_150 k_797 rfl (Nat.le_of_ble_eq_true rfl) rfl ?_
            refine Bd_iconst (v := 1) (pc := 153) dX8_readLine_153 (by decide) ?_
            refine Bd_iadd (pc := 154) dX8_readLine_154 ?_
            refine Bd_putI (j := 11) (ty := .int) ck8 (pc := 155) dX8_readLine_155 k_797 rfl (Nat.le_of_ble_eq_true rfl) rfl rfl pfI rfl rfl ?_
            refine Bd_goto (t := 232) (pc := 158) dX8_readLine_158 (by decide) ?_
            refine Bd_cM (M := rlB N (cn (N 58 11))) ?_ (by unfold rlB; rw [nI_succ, ← hc2])
            have hX : RU (rlB N (cn (N 58 11))) := (show RU (updM (rcM (stM N) 65 (cn (N 58 11))) 58 11 _) from RU_s (rcM_RU (stM_RU h) (Or.inr rfl)) (by decide) (by decide) (by decide))
            have hM : rlM N n = rlT (rlB N (cn (N 58 11))) := by unfold rlM; rw [if_neg h4, if_neg g3, if_neg hf, if_neg b86, if_pos (show n = 5 from b136)]
            refine Bd_aload_0 (pc := 232) dX8_readLine_232 ?_
            refine Bd_getI (j := 20) ck8 (pc := 233) dX8_readLine_233 k_806 rfl (Nat.le_of_ble_eq_true rfl) rfl ?_
            refine Bd_if_ne (t := 252) (pc := 236) dX8_readLine_236 (by decide) (fun b236 => ?_) (fun b236 => ?_)
            · refine Bd_aload_0 (pc := 252) dX8_readLine_252 ?_
              refine Bd_callV0v (cd := mX8_step) (pc := 253) dX8_readLine_253 k_917 v_X8_step ⟨(Nat.le_of_ble_eq_true rfl), (Nat.le_of_ble_eq_true rfl)⟩ rfl rfl (sem_X8_step' hX) (Nat.le_of_ble_eq_true rfl) ?_
              refine Bd_vret (pc := 256) dX8_readLine_256 rfl ?_
              exact PD_v (by rw [hM]; unfold rlT; rw [if_neg (fun z => b236 z.1)])
            · refine Bd_aload_0 (pc := 239) dX8_readLine_239 ?_
              refine Bd_getI (j := 24) ck8 (pc := 240) dX8_readLine_240 k_810 rfl (Nat.le_of_ble_eq_true rfl) rfl ?_
              refine Bd_iconst (v := 3) (pc := 243) dX8_readLine_243 (by decide) ?_
              refine Bd_icmp_eq (t := 252) (pc := 244) dX8_readLine_244 (by decide) (fun b244 => ?_) (fun b244 => ?_)
              · refine Bd_aload_0 (pc := 252) dX8_readLine_252 ?_
                refine Bd_callV0v (cd := mX8_step) (pc := 253) dX8_readLine_253 k_917 v_X8_step ⟨(Nat.le_of_ble_eq_true rfl), (Nat.le_of_ble_eq_true rfl)⟩ rfl rfl (sem_X8_step' hX) (Nat.le_of_ble_eq_true rfl) ?_
                refine Bd_vret (pc := 256) dX8_readLine_256 rfl ?_
                exact PD_v (by rw [hM]; unfold rlT; rw [if_neg (fun z => z.2 b244)])
              · refine Bd_aload_0 (pc := 247) dX8_readLine_247 ?_
                refine Bd_iconst (v := 2) (pc := 248) dX8_readLine_248 (by decide) ?_
                refine Bd_callV1v (cd := mX8_fails) (pc := 249) dX8_readLine_249 k_929 v_X8_fails ⟨(Nat.le_of_ble_eq_true rfl), (Nat.le_of_ble_eq_true rfl)⟩ rfl rfl sem_X8_fails (Nat.le_of_ble_eq_true rfl) ?_
                refine Bd_aload_0 (pc := 252) dX8_readLine_252 ?_
                refine Bd_callV0v (cd := mX8_step) (pc := 253) dX8_readLine_253 k_917 v_X8_step ⟨(Nat.le_of_ble_eq_true rfl), (Nat.le_of_ble_eq_true rfl)⟩ rfl rfl (sem_X8_step' (flM_RU hX (by decide))) (Nat.le_of_ble_eq_true rfl) ?_
                refine Bd_vret (pc := 256) dX8_readLine_256 rfl ?_
                exact PD_v (by rw [hM]; unfold rlT; rw [if_pos ⟨b236, b244⟩])
          · refine Bd_goto (t := 72) (pc := 60) dX8_readLine_60 (by decide) ?_
            have hf : (n = 4 ∧ N 58 9 = 6) ∨ (n = 5 ∧ N 58 11 = 3) ∨ (n = 6 ∧ N 58 13 = 12) := Or.inr (Or.inl ⟨b49, b57⟩)
            refine Bd_aload_0 (pc := 72) dX8_readLine_72 ?_
            refine Bd_iconst (v := 5) (pc := 73) dX8_readLine_73 (by decide) ?_
            refine Bd_callV1v (cd := mX8_fails) (pc := 74) dX8_readLine_74 k_929 v_X8_fails ⟨(Nat.le_of_ble_eq_true rfl), (Nat.le_of_ble_eq_true rfl)⟩ rfl rfl sem_X8_fails (Nat.le_of_ble_eq_true rfl) ?_
            refine Bd_goto (t := 232) (pc := 77) dX8_readLine_77 (by decide) ?_
            have hX : RU (flM N 5) := flM_RU h (by decide)
            have hM : rlM N n = rlT (flM N 5) := by unfold rlM; rw [if_neg h4, if_neg g3, if_pos hf]
            refine Bd_aload_0 (pc := 232) dX8_readLine_232 ?_
            refine Bd_getI (j := 20) ck8 (pc := 233) dX8_readLine_233 k_806 rfl (Nat.le_of_ble_eq_true rfl) rfl ?_
            refine Bd_if_ne (t := 252) (pc := 236) dX8_readLine_236 (by decide) (fun b236 => ?_) (fun b236 => ?_)
            · refine Bd_aload_0 (pc := 252) dX8_readLine_252 ?_
              refine Bd_callV0v (cd := mX8_step) (pc := 253) dX8_readLine_253 k_917 v_X8_step ⟨(Nat.le_of_ble_eq_true rfl), (Nat.le_of_ble_eq_true rfl)⟩ rfl rfl (sem_X8_step' hX) (Nat.le_of_ble_eq_true rfl) ?_
              refine Bd_vret (pc := 256) dX8_readLine_256 rfl ?_
              exact PD_v (by rw [hM]; unfold rlT; rw [if_neg (fun z => b236 z.1)])
            · refine Bd_aload_0 (pc := 239) dX8_readLine_239 ?_
              refine Bd_getI (j := 24) ck8 (pc := 240) dX8_readLine_240 k_810 rfl (Nat.le_of_ble_eq_true rfl) rfl ?_
              refine Bd_iconst (v := 3) (pc := 243) dX8_readLine_243 (by decide) ?_
              refine Bd_icmp_eq (t := 252) (pc := 244) dX8_readLine_244 (by decide) (fun b244 => ?_) (fun b244 => ?_)
              · refine Bd_aload_0 (pc := 252) dX8_readLine_252 ?_
                refine Bd_callV0v (cd := mX8_step) (pc := 253) dX8_readLine_253 k_917 v_X8_step ⟨(Nat.le_of_ble_eq_true rfl), (Nat.le_of_ble_eq_true rfl)⟩ rfl rfl (sem_X8_step' hX) (Nat.le_of_ble_eq_true rfl) ?_
                refine Bd_vret (pc := 256) dX8_readLine_256 rfl ?_
                exact PD_v (by rw [hM]; unfold rlT; rw [if_neg (fun z => z.2 b244)])
              · refine Bd_aload_0 (pc := 247) dX8_readLine_247 ?_
                refine Bd_iconst (v := 2) (pc := 248) dX8_readLine_248 (by decide) ?_
                refine Bd_callV1v (cd := mX8_fails) (pc := 249) dX8_readLine_249 k_929 v_X8_fails ⟨(Nat.le_of_ble_eq_true rfl), (Nat.le_of_ble_eq_true rfl)⟩ rfl rfl sem_X8_fails (Nat.le_of_ble_eq_true rfl) ?_
                refine Bd_aload_0 (pc := 252) dX8_readLine_252 ?_
                refine Bd_callV0v (cd := mX8_step) (pc := 253) dX8_readLine_253 k_917 v_X8_step ⟨(Nat.le_of_ble_eq_true rfl), (Nat.le_of_ble_eq_true rfl)⟩ rfl rfl (sem_X8_step' (flM_RU hX (by decide))) (Nat.le_of_ble_eq_true rfl) ?_
                refine Bd_vret (pc := 256) dX8_readLine_256 rfl ?_
                exact PD_v (by rw [hM]; unfold rlT; rw [if_pos ⟨b236, b244⟩])
      · refine Bd_aload_0 (pc := 35) dX8_readLine_35 ?_
        refine Bd_getI (j := 9) ck8 (pc := 36) dX8_readLine_36 k_795 rfl (Nat.le_of_ble_eq_true rfl) rfl ?_
        refine Bd_bipush (v := 6) (pc := 39) dX8_readLine_39 (by decide) ?_
        refine Bd_icmp_ne (t := 80) (pc := 41) dX8_readLine_41 (by decide) (fun b41 => ?_) (fun b41 => ?_)
        · have hf : ¬ ((n = 4 ∧ N 58 9 = 6) ∨ (n = 5 ∧ N 58 11 = 3) ∨ (n = 6 ∧ N 58 13 = 12)) := fun z => z.elim (fun z => b41 z.2) (fun z => z.elim (fun z => absurd (b32.symm.trans z.1) (by decide)) (fun z => absurd (b32.symm.trans z.1) (by decide)))
          have hlt : (cn (N 58 9)) < 6 := Nat.lt_of_le_of_ne hC.1.2 (fun z => b41 (by rw [hC.1.1, z]; rfl))
          refine Bd_aload_0 (pc := 80) dX8_readLine_80 ?_
          refine Bd_callV0v (cd := mX8_step) (pc := 81) dX8_readLine_81 k_917 v_X8_step ⟨(Nat.le_of_ble_eq_true rfl), (Nat.le_of_ble_eq_true rfl)⟩ rfl rfl (sem_X8_step' h) (Nat.le_of_ble_eq_true rfl) ?_
          refine Bd_iload_1 (pc := 84) dX8_readLine_84 ?_
          refine Bd_iconst (v := 4) (pc := 85) dX8_readLine_85 (by decide) ?_
          refine Bd_icmp_ne (t := 134) (pc := 86) dX8_readLine_86 (by decide) (fun b86 => (show False from b86 b32).elim) (fun b86 => ?_)
          refine Bd_aload_0 (pc := 89) dX8_readLine_89 ?_
          refine Bd_iconst (v := 1) (pc := 90) dX8_readLine_90 (by decide) ?_
          refine Bd_iconst (v := 2) (pc := 91) dX8_readLine_91 (by decide) ?_
          refine Bd_aload_0 (pc := 92) dX8_readLine_92 ?_
          refine Bd_getI (j := 9) ck8 (pc := 93) dX8_readLine_93 k_795 rfl (Nat.le_of_ble_eq_true rfl) rfl ?_
          refine Bd_imul (pc := 96) dX8_readLine_96 ?_
          rw [show stM N 58 9 = N 58 9 from (CK_st (N := N)).1, hC.1.1, n2]
          refine Bd_callV2v (cd := mX8_readCell) (pc := 97) dX8_readLine_97 k_949 v_X8_readCell ⟨(Nat.le_of_ble_eq_true rfl), (Nat.le_of_ble_eq_true rfl)⟩ rfl rfl (sem_X8_readCellT (stM_RU h) (by omega)) (Nat.le_of_ble_eq_true rfl) ?_
          have hc2 : rcM (stM N) 64 (2 * (cn (N 58 9))) 58 9 = nI (cn (N 58 9)) := ((CK_st.tr (CK_rc (Or.inl rfl))).1).trans hC.1.1
          have hc3 : roQ (rcM (stM N) 64 (2 * (cn (N 58 9)))) 0 255 64 (2 * (cn (N 58 9)) + 1) 58 9 = nI (cn (N 58 9)) := (((CK_st.tr (CK_rc (Or.inl rfl))).tr (CK_roQ (Or.inl rfl))).1).trans hC.1.1
          refine Bd_aload_0 (pc := 100) dX8_readLine_100 ?_
          refine Bd_getR (j := 8) ck8 (pc := 101) dX8_readLine_101 k_794 rfl (Nat.le_of_ble_eq_true rfl) rfl ?_
          refine Bd_iconst (v := 2) (pc := 104) dX8_readLine_104 (by decide) ?_
          refine Bd_aload_0 (pc := 105) dX8_readLine_105 ?_
          refine Bd_getI (j := 9) ck8 (pc := 106) dX8_readLine_106 k_795 rfl (Nat.le_of_ble_eq_true rfl) rfl ?_
          refine Bd_imul (pc := 109) dX8_readLine_109 ?_
          refine Bd_iconst (v := 1) (pc := 110) dX8_readLine_110 (by decide) ?_
          refine Bd_iadd (pc := 111) dX8_readLine_111 ?_
          refine Bd_aload_0 (pc := 112) dX8_readLine_112 ?_
          refine Bd_iconst (v := 0) (pc := 113) dX8_readLine_113 (by decide) ?_
          refine Bd_sipush (v := 255) (pc := 114) dX8_readLine_114 (by decide) ?_
          refine Bd_callV2i (cd := mX8_number) (pc := 117) dX8_readLine_117 k_945 v_X8_number ⟨(Nat.le_of_ble_eq_true rfl), (Nat.le_of_ble_eq_true rfl)⟩ rfl rfl (sem_X8_number (rcM_RU (stM_RU h) (Or.inl rfl))) (Nat.le_of_ble_eq_true rfl) ?_
          refine Bd_iastc (j := 2 * (cn (N 58 9)) + 1) (by rw [hc2, n2, ← nI_succ]; exact nI_clamp (by omega)) (pc := 120) dX8_readLine_120 rfl (by rw [hc2, n2, ← nI_succ]; exact vpi (by omega) (by omega)) ?_
          refine Bd_aload_0 (pc := 121) dX8_readLine_121 ?_
          refine Bd_dup (pc := 122) dX8_readLine_122 rfl ?_
          refine Bd_getI (j := 9) ck8 (pc := 123) dX8_readLine_123 k_795 rfl (Nat.le_of_ble_eq_true rfl) rfl ?_
          refine Bd_iconst (v := 1) (pc := 126) dX8_readLine_126 (by decide) ?_
          refine Bd_iadd (pc := 127) dX8_readLine_127 ?_
          refine Bd_putI (j := 9) (ty := .int) ck8 (pc := 128) dX8_readLine_128 k_795 rfl (Nat.le_of_ble_eq_true rfl) rfl rfl pfI rfl rfl ?_
          refine Bd_goto (t := 232) (pc := 131) dX8_readLine_131 (by decide) ?_
          refine Bd_cM (M := rlA N (cn (N 58 9))) ?_ (by unfold rlA; rw [nI_succ, ← hc3]; rfl)
          have hX : RU (rlA N (cn (N 58 9))) := (show RU (updM (roQ (rcM (stM N) 64 (2 * (cn (N 58 9)))) 0 255 64 (2 * (cn (N 58 9)) + 1)) 58 9 _) from RU_s (roQ_RU (rcM_RU (stM_RU h) (Or.inl rfl)) (Or.inl rfl)) (by decide) (by decide) (by decide))
          have hM : rlM N n = rlT (rlA N (cn (N 58 9))) := by unfold rlM; rw [if_neg h4, if_neg g3, if_neg hf, if_pos (show n = 4 from b86)]
          refine Bd_aload_0 (pc := 232) dX8_readLine_232 ?_
          refine Bd_getI (j := 20) ck8 (pc := 233) dX8_readLine_233 k_806 rfl (Nat.le_of_ble_eq_true rfl) rfl ?_
          refine Bd_if_ne (t := 252) (pc := 236) dX8_readLine_236 (by decide) (fun b236 => ?_) (fun b236 => ?_)
          · refine Bd_aload_0 (pc := 252) dX8_readLine_252 ?_
            refine Bd_callV0v (cd := mX8_step) (pc := 253) dX8_readLine_253 k_917 v_X8_step ⟨(Nat.le_of_ble_eq_true rfl), (Nat.le_of_ble_eq_true rfl)⟩ rfl rfl (sem_X8_step' hX) (Nat.le_of_ble_eq_true rfl) ?_
            refine Bd_vret (pc := 256) dX8_readLine_256 rfl ?_
            exact PD_v (by rw [hM]; unfold rlT; rw [if_neg (fun z => b236 z.1)])
          · refine Bd_aload_0 (pc := 239) dX8_readLine_239 ?_
            refine Bd_getI (j := 24) ck8 (pc := 240) dX8_readLine_240 k_810 rfl (Nat.le_of_ble_eq_true rfl) rfl ?_
            refine Bd_iconst (v := 3) (pc := 243) dX8_readLine_243 (by decide) ?_
            refine Bd_icmp_eq (t := 252) (pc := 244) dX8_readLine_244 (by decide) (fun b244 => ?_) (fun b244 => ?_)
            · refine Bd_aload_0 (pc := 252) dX8_readLine_252 ?_
              refine Bd_callV0v (cd := mX8_step) (pc := 253) dX8_readLine_253 k_917 v_X8_step ⟨(Nat.le_of_ble_eq_true rfl), (Nat.le_of_ble_eq_true rfl)⟩ rfl rfl (sem_X8_step' hX) (Nat.le_of_ble_eq_true rfl) ?_
              refine Bd_vret (pc := 256) dX8_readLine_256 rfl ?_
              exact PD_v (by rw [hM]; unfold rlT; rw [if_neg (fun z => z.2 b244)])
            · refine Bd_aload_0 (pc := 247) dX8_readLine_247 ?_
              refine Bd_iconst (v := 2) (pc := 248) dX8_readLine_248 (by decide) ?_
              refine Bd_callV1v (cd := mX8_fails) (pc := 249) dX8_readLine_249 k_929 v_X8_fails ⟨(Nat.le_of_ble_eq_true rfl), (Nat.le_of_ble_eq_true rfl)⟩ rfl rfl sem_X8_fails (Nat.le_of_ble_eq_true rfl) ?_
              refine Bd_aload_0 (pc := 252) dX8_readLine_252 ?_
              refine Bd_callV0v (cd := mX8_step) (pc := 253) dX8_readLine_253 k_917 v_X8_step ⟨(Nat.le_of_ble_eq_true rfl), (Nat.le_of_ble_eq_true rfl)⟩ rfl rfl (sem_X8_step' (flM_RU hX (by decide))) (Nat.le_of_ble_eq_true rfl) ?_
              refine Bd_vret (pc := 256) dX8_readLine_256 rfl ?_
              exact PD_v (by rw [hM]; unfold rlT; rw [if_pos ⟨b236, b244⟩])
        · refine Bd_goto (t := 72) (pc := 44) dX8_readLine_44 (by decide) ?_
          have hf : (n = 4 ∧ N 58 9 = 6) ∨ (n = 5 ∧ N 58 11 = 3) ∨ (n = 6 ∧ N 58 13 = 12) := Or.inl ⟨b32, b41⟩
          refine Bd_aload_0 (pc := 72) dX8_readLine_72 ?_
          refine Bd_iconst (v := 5) (pc := 73) dX8_readLine_73 (by decide) ?_
          refine Bd_callV1v (cd := mX8_fails) (pc := 74) dX8_readLine_74 k_929 v_X8_fails ⟨(Nat.le_of_ble_eq_true rfl), (Nat.le_of_ble_eq_true rfl)⟩ rfl rfl sem_X8_fails (Nat.le_of_ble_eq_true rfl) ?_
          refine Bd_goto (t := 232) (pc := 77) dX8_readLine_77 (by decide) ?_
          have hX : RU (flM N 5) := flM_RU h (by decide)
          have hM : rlM N n = rlT (flM N 5) := by unfold rlM; rw [if_neg h4, if_neg g3, if_pos hf]
          refine Bd_aload_0 (pc := 232) dX8_readLine_232 ?_
          refine Bd_getI (j := 20) ck8 (pc := 233) dX8_readLine_233 k_806 rfl (Nat.le_of_ble_eq_true rfl) rfl ?_
          refine Bd_if_ne (t := 252) (pc := 236) dX8_readLine_236 (by decide) (fun b236 => ?_) (fun b236 => ?_)
          · refine Bd_aload_0 (pc := 252) dX8_readLine_252 ?_
            refine Bd_callV0v (cd := mX8_step) (pc := 253) dX8_readLine_253 k_917 v_X8_step ⟨(Nat.le_of_ble_eq_true rfl), (Nat.le_of_ble_eq_true rfl)⟩ rfl rfl (sem_X8_step' hX) (Nat.le_of_ble_eq_true rfl) ?_
            refine Bd_vret (pc := 256) dX8_readLine_256 rfl ?_
            exact PD_v (by rw [hM]; unfold rlT; rw [if_neg (fun z => b236 z.1)])
          · refine Bd_aload_0 (pc := 239) dX8_readLine_239 ?_
            refine Bd_getI (j := 24) ck8 (pc := 240) dX8_readLine_240 k_810 rfl (Nat.le_of_ble_eq_true rfl) rfl ?_
            refine Bd_iconst (v := 3) (pc := 243) dX8_readLine_243 (by decide) ?_
            refine Bd_icmp_eq (t := 252) (pc := 244) dX8_readLine_244 (by decide) (fun b244 => ?_) (fun b244 => ?_)
            · refine Bd_aload_0 (pc := 252) dX8_readLine_252 ?_
              refine Bd_callV0v (cd := mX8_step) (pc := 253) dX8_readLine_253 k_917 v_X8_step ⟨(Nat.le_of_ble_eq_true rfl), (Nat.le_of_ble_eq_true rfl)⟩ rfl rfl (sem_X8_step' hX) (Nat.le_of_ble_eq_true rfl) ?_
              refine Bd_vret (pc := 256) dX8_readLine_256 rfl ?_
              exact PD_v (by rw [hM]; unfold rlT; rw [if_neg (fun z => z.2 b244)])
            · refine Bd_aload_0 (pc := 247) dX8_readLine_247 ?_
              refine Bd_iconst (v := 2) (pc := 248) dX8_readLine_248 (by decide) ?_
              refine Bd_callV1v (cd := mX8_fails) (pc := 249) dX8_readLine_249 k_929 v_X8_fails ⟨(Nat.le_of_ble_eq_true rfl), (Nat.le_of_ble_eq_true rfl)⟩ rfl rfl sem_X8_fails (Nat.le_of_ble_eq_true rfl) ?_
              refine Bd_aload_0 (pc := 252) dX8_readLine_252 ?_
              refine Bd_callV0v (cd := mX8_step) (pc := 253) dX8_readLine_253 k_917 v_X8_step ⟨(Nat.le_of_ble_eq_true rfl), (Nat.le_of_ble_eq_true rfl)⟩ rfl rfl (sem_X8_step' (flM_RU hX (by decide))) (Nat.le_of_ble_eq_true rfl) ?_
              refine Bd_vret (pc := 256) dX8_readLine_256 rfl ?_
              exact PD_v (by rw [hM]; unfold rlT; rw [if_pos ⟨b236, b244⟩])
    · have g3 : n ≤ 3 := Int32.not_lt.mp b19
      have hlt : cn n < 4 := by
        refine Nat.not_le.mp (fun z => b19 ?_)
        rw [hn.1]
        exact nI_lt (a := 3) (by omega) (by omega)
      refine Bd_nx (L' := [some (.ref 58), some (.int (nI (cn n)))]) ?_ ⟨rfl, congrArg (fun z => some (Value.int z)) hn.1, trivial⟩
      refine Bd_aload_0 (pc := 22) dX8_readLine_22 ?_
      refine Bd_iload_1 (pc := 23) dX8_readLine_23 ?_
      refine Bd_callV1v (cd := mX8_readOnce) (pc := 24) dX8_readLine_24 k_941 v_X8_readOnce ⟨(Nat.le_of_ble_eq_true rfl), (Nat.le_of_ble_eq_true rfl)⟩ rfl rfl (sem_X8_readOnce h hlt) (Nat.le_of_ble_eq_true rfl) ?_
      refine Bd_goto (t := 232) (pc := 27) dX8_readLine_27 (by decide) ?_
      have hX : RU (roM N (cn n)) := roM_RU h
      have hM : rlM N n = rlT (roM N (cn n)) := by unfold rlM; rw [if_neg h4, if_pos g3]
      refine Bd_aload_0 (pc := 232) dX8_readLine_232 ?_
      refine Bd_getI (j := 20) ck8 (pc := 233) dX8_readLine_233 k_806 rfl (Nat.le_of_ble_eq_true rfl) rfl ?_
      refine Bd_if_ne (t := 252) (pc := 236) dX8_readLine_236 (by decide) (fun b236 => ?_) (fun b236 => ?_)
      · refine Bd_aload_0 (pc := 252) dX8_readLine_252 ?_
        refine Bd_callV0v (cd := mX8_step) (pc := 253) dX8_readLine_253 k_917 v_X8_step ⟨(Nat.le_of_ble_eq_true rfl), (Nat.le_of_ble_eq_true rfl)⟩ rfl rfl (sem_X8_step' hX) (Nat.le_of_ble_eq_true rfl) ?_
        refine Bd_vret (pc := 256) dX8_readLine_256 rfl ?_
        exact PD_v (by rw [hM]; unfold rlT; rw [if_neg (fun z => b236 z.1)])
      · refine Bd_aload_0 (pc := 239) dX8_readLine_239 ?_
        refine Bd_getI (j := 24) ck8 (pc := 240) dX8_readLine_240 k_810 rfl (Nat.le_of_ble_eq_true rfl) rfl ?_
        refine Bd_iconst (v := 3) (pc := 243) dX8_readLine_243 (by decide) ?_
        refine Bd_icmp_eq (t := 252) (pc := 244) dX8_readLine_244 (by decide) (fun b244 => ?_) (fun b244 => ?_)
        · refine Bd_aload_0 (pc := 252) dX8_readLine_252 ?_
          refine Bd_callV0v (cd := mX8_step) (pc := 253) dX8_readLine_253 k_917 v_X8_step ⟨(Nat.le_of_ble_eq_true rfl), (Nat.le_of_ble_eq_true rfl)⟩ rfl rfl (sem_X8_step' hX) (Nat.le_of_ble_eq_true rfl) ?_
          refine Bd_vret (pc := 256) dX8_readLine_256 rfl ?_
          exact PD_v (by rw [hM]; unfold rlT; rw [if_neg (fun z => z.2 b244)])
        · refine Bd_aload_0 (pc := 247) dX8_readLine_247 ?_
          refine Bd_iconst (v := 2) (pc := 248) dX8_readLine_248 (by decide) ?_
          refine Bd_callV1v (cd := mX8_fails) (pc := 249) dX8_readLine_249 k_929 v_X8_fails ⟨(Nat.le_of_ble_eq_true rfl), (Nat.le_of_ble_eq_true rfl)⟩ rfl rfl sem_X8_fails (Nat.le_of_ble_eq_true rfl) ?_
          refine Bd_aload_0 (pc := 252) dX8_readLine_252 ?_
          refine Bd_callV0v (cd := mX8_step) (pc := 253) dX8_readLine_253 k_917 v_X8_step ⟨(Nat.le_of_ble_eq_true rfl), (Nat.le_of_ble_eq_true rfl)⟩ rfl rfl (sem_X8_step' (flM_RU hX (by decide))) (Nat.le_of_ble_eq_true rfl) ?_
          refine Bd_vret (pc := 256) dX8_readLine_256 rfl ?_
          exact PD_v (by rw [hM]; unfold rlT; rw [if_pos ⟨b236, b244⟩])
  · refine Bd_aload_0 (pc := 11) dX8_readLine_11 ?_
    refine Bd_iconst (v := 2) (pc := 12) dX8_readLine_12 (by decide) ?_
    refine Bd_callV1v (cd := mX8_fails) (pc := 13) dX8_readLine_13 k_929 v_X8_fails ⟨(Nat.le_of_ble_eq_true rfl), (Nat.le_of_ble_eq_true rfl)⟩ rfl rfl sem_X8_fails (Nat.le_of_ble_eq_true rfl) ?_
    refine Bd_vret (pc := 16) dX8_readLine_16 rfl ?_
    exact PD_v (by unfold rlM; rw [if_pos (show n = -4 from b8)])
