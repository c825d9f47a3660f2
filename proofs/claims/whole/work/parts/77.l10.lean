/-! 77: land of the class: told and draft change places -/
section PUTR
variable {d : MD} {G : GD} {R : Rv} {sh : List Ds} {pc : Nat} {L : List (Option Value)} {st : List Value} {M : Mem}
theorem wl_set {k : Nat} {D' : Ds} : wl G (sh.set k D') M = (wl G sh M).set k (G.2.1 k, ent G M k D') := by unfold wl; rw [List.mapIdx_set]
theorem Bd_putR {t : Nat} {ty : FieldType} {ci k j i N t0 : Nat} {C : String} {T : u_T} {fs : List (Option Nat)} (hc : Ck ci C T N) (hd : decode d.2.1 pc = .ok (.putfield i, 3)) (hk : Cond.fieldLink d.1.cls i (T j).1 (T j).2.1 (T j).2.2.1 ∈ TB) (hs : sh[k]? = some (.inr (.inr (ci, fs)))) (hj : j < N) (hf : fs[j]? = some (some t0)) (hfin : (T j).2.2.2 = false) (hty : parseFieldDescriptor (T j).2.2.1 = some ty) (hn : ∀ a : Nat, narrow ty (.ref a) = .ref a) (hft : ∀ a : Nat, fits ty (.ref a) = true) (k2 : Bd d G R (sh.set k (.inr (.inr (ci, fs.set j (some t))))) (pc + 3) L st M) : Bd d G R sh pc L (.ref t :: .ref k :: st) M := fun p l e0 s m a b me c H lo ls F r q S hl P D Z => by
  obtain ⟨c1, c2, ty0, c3, c4⟩ := hc
  have hlen : j < (fs.mapIdx (fun j o => fv G M k j o)).length := by simpa using (List.getElem?_eq_some_iff.mp hf).1
  have he : wl G (sh.set k (.inr (.inr (ci, fs.set j (some t))))) M = (wl G sh M).set k (G.2.1 k, .inr (ci, (fs.mapIdx (fun j o => fv G M k j o)).set j (.ref (G.2.1 t)))) := by
    rw [wl_set]
    show (wl G sh M).set k (G.2.1 k, .inr (ci, (fs.set j (some t)).mapIdx (fun j o => fv G M k j o))) = _
    rw [List.mapIdx_set]
    rfl
  refine va_put (v := .ref (G.2.1 t)) F.1 F.2.1 F.2.2.2.2 c2 ty0 c3 c4 F.2.2.2.1 S.1 P D Z k (wl_at hs) c1 j hj (F.2.2.2.2 _ hk) (fun _ h => h) hfin hty (hn _) (hft _) hlen hd (fun H1 locs1 P1 D1 Z1 => ?_)
  rw [← he] at P1 D1
  exact k2 p l e0 s m a b me c H1 locs1 ls F r q S hl P1 D1 Z1
theorem Bd_csh {sh' : List Ds} (h : Bd d G R sh' pc L st M) (e : sh' = sh) : Bd d G R sh pc L st M := e ▸ h
end PUTR
def pi7 (k : Nat) : Nat := if 44 ≤ k ∧ k < 51 then k + 7 else if 51 ≤ k ∧ k < 58 then k - 7 else k
theorem pi7_2 (k : Nat) : pi7 (pi7 k) = k := by
  unfold pi7
  by_cases h : 44 ≤ k ∧ k < 51
  · rw [if_pos h, if_neg (by omega), if_pos (by omega)]; omega
  · by_cases h2 : 51 ≤ k ∧ k < 58
    · rw [if_neg h, if_pos h2, if_pos (by omega)]; omega
    · rw [if_neg h, if_neg h2, if_neg h, if_neg h2]
theorem pi7_lt {k : Nat} (h : k < NC) : pi7 k < NC := by
  unfold NC at *
  unfold pi7
  split
  · omega
  · split <;> omega
theorem pi7_hi {k : Nat} (h : 58 ≤ k) : pi7 k = k := by
  unfold pi7
  rw [if_neg (by omega), if_neg (by omega)]
def SHs : List Ds := (SH.set 0 (.inr (.inr (7, ([some 1, some 3, some 5, some 10, some 16, some 33, some 42, some 43, some 44, some 51, none, none] : List (Option Nat)).set 8 (some 51))))).set 0 (.inr (.inr (7, (([some 1, some 3, some 5, some 10, some 16, some 33, some 42, some 43, some 44, some 51, none, none] : List (Option Nat)).set 8 (some 51)).set 9 (some 44))))
def rnm : Ds → Ds
  | .inl q => .inl q
  | .inr (.inl (t, ks)) => .inr (.inl (t, ks.map pi7))
  | .inr (.inr (ci, fs)) => .inr (.inr (ci, fs.map (fun o => o.map pi7)))
theorem SHs_at : ∀ k, k < 79 → SHs[pi7 k]? = (SH[k]?).map rnm
  | 0, _ => rfl
  | 1, _ => rfl
  | 2, _ => rfl
  | 3, _ => rfl
  | 4, _ => rfl
  | 5, _ => rfl
  | 6, _ => rfl
  | 7, _ => rfl
  | 8, _ => rfl
  | 9, _ => rfl
  | 10, _ => rfl
  | 11, _ => rfl
  | 12, _ => rfl
  | 13, _ => rfl
  | 14, _ => rfl
  | 15, _ => rfl
  | 16, _ => rfl
  | 17, _ => rfl
  | 18, _ => rfl
  | 19, _ => rfl
  | 20, _ => rfl
  | 21, _ => rfl
  | 22, _ => rfl
  | 23, _ => rfl
  | 24, _ => rfl
  | 25, _ => rfl
  | 26, _ => rfl
  | 27, _ => rfl
  | 28, _ => rfl
  | 29, _ => rfl
  | 30, _ => rfl
  | 31, _ => rfl
  | 32, _ => rfl
  | 33, _ => rfl
  | 34, _ => rfl
  | 35, _ => rfl
  | 36, _ => rfl
  | 37, _ => rfl
  | 38, _ => rfl
  | 39, _ => rfl
  | 40, _ => rfl
  | 41, _ => rfl
  | 42, _ => rfl
  | 43, _ => rfl
  | 44, _ => rfl
  | 45, _ => rfl
  | 46, _ => rfl
  | 47, _ => rfl
  | 48, _ => rfl
  | 49, _ => rfl
  | 50, _ => rfl
  | 51, _ => rfl
  | 52, _ => rfl
  | 53, _ => rfl
  | 54, _ => rfl
  | 55, _ => rfl
  | 56, _ => rfl
  | 57, _ => rfl
  | 58, _ => rfl
  | 59, _ => rfl
  | 60, _ => rfl
  | 61, _ => rfl
  | 62, _ => rfl
  | 63, _ => rfl
  | 64, _ => rfl
  | 65, _ => rfl
  | 66, _ => rfl
  | 67, _ => rfl
  | 68, _ => rfl
  | 69, _ => rfl
  | 70, _ => rfl
  | 71, _ => rfl
  | 72, _ => rfl
  | 73, _ => rfl
  | 74, _ => rfl
  | 75, _ => rfl
  | 76, _ => rfl
  | 77, _ => rfl
  | 78, _ => rfl
  | k + 79, h => absurd h (by omega)
theorem SH_at79 {k : Nat} {d : Ds} (h : SH[k]? = some d) : k < 79 := (List.getElem?_eq_some_iff.mp h).1
def swM (N : Mem) : Mem := fun k => N (pi7 k)
def swG (G : GD) : GD := (G.1, fun k => G.2.1 (pi7 k), G.2.2)
theorem ent_rn {G : GD} {N : Mem} {k : Nat} (d : Ds) : ent (swG G) (swM N) k d = ent G N (pi7 k) (rnm d) := by
  rcases d with ⟨t, n⟩ | ⟨t, ks⟩ | ⟨ci, fs⟩
  · rfl
  · simp only [ent, rnm, swG, List.length_map]
    refine congrArg (fun f => (Sum.inl (G.2.2 t, ks.length, .inr (.inr (.inr (.inr f)))) : va_E)) ?_
    funext j
    simp [List.getElem?_map, Option.map_map, Function.comp_def]
  · simp only [ent, rnm]
    congr 2
    apply List.ext_getElem?
    intro i
    simp only [List.getElem?_mapIdx, List.getElem?_map]
    cases fs[i]? with
    | none => rfl
    | some o => cases o <;> rfl
theorem gA_sw (G : GD) : gA (swG G) = gA G := by
  funext q
  apply propext
  constructor
  · rintro ⟨k, h, e⟩; exact ⟨pi7 k, pi7_lt h, e⟩
  · rintro ⟨k, h, e⟩; exact ⟨pi7 k, pi7_lt h, by show q = G.2.1 (pi7 (pi7 k)); rw [pi7_2]; exact e⟩
theorem swG_hi {G : GD} {k : Nat} (h : 58 ≤ k) : (swG G).2.1 k = G.2.1 k := by show G.2.1 (pi7 k) = _; rw [pi7_hi h]
theorem Cs_sw {G : GD} {A : Nat → Prop} {U : State} {H : Heap} (h : Cs G A U H) : Cs (swG G) A U H := by
  unfold Cs Tb at *
  have e1 : (fun i => (swG G).2.1 (100 + i)) = (fun i => G.2.1 (100 + i)) := by funext i; exact swG_hi (by omega)
  have e2 : (fun i => (swG G).2.1 (110 + i)) = (fun i => G.2.1 (110 + i)) := by funext i; exact swG_hi (by omega)
  have e3 : ∀ i, (swG G).2.1 (100 + i) = G.2.1 (100 + i) := fun i => swG_hi (by omega)
  rw [e1, e2, swG_hi (k := 120) (by decide), swG_hi (k := 121) (by decide), swG_hi (k := 122) (by decide), swG_hi (k := 130) (by decide)]
  refine ⟨h.1, fun i hi => by rw [e3]; exact h.2.1 i hi, h.2.2⟩
theorem WT_sw {G : GD} {N : Mem} {U : State} (h : WT G SHs N U) : WT (swG G) SH (swM N) U := by
  obtain ⟨hP, hD, hS⟩ := h
  have hg : ∀ (k : Nat) (q : Nat × va_E), (wl (swG G) SH (swM N))[k]? = some q → (wl G SHs N)[pi7 k]? = some q := by
    intro k q hk
    cases hs : SH[k]? with
    | none => simp [wl, List.getElem?_mapIdx, hs] at hk
    | some d =>
      rw [wl_at hs] at hk
      have h2 := SHs_at k (SH_at79 hs)
      rw [hs] at h2
      rw [wl_at (show SHs[pi7 k]? = some (rnm d) from h2), ← hk, ent_rn]
      rfl
  refine ⟨hP.by pi7 hg, ?_, hS.1, hS.2.1, ?_⟩
  · rw [gA_sw]
    exact hD.by pi7 hg (fun i j _ _ e => by rw [← pi7_2 i, e, pi7_2])
  · rw [gA_sw]
    exact Cs_sw hS.2.2
/-- what land answers, and the memory behind it -/
def laM (M : Mem) : Mem := updM (updM (te (clD M)).2 1 2 0) 0 10 ((te (clD M)).2 3 3)
def laN (M : Mem) : Mem := updM (updM (updM (updM (laM M) 5 4 0) 5 5 0) 17 5 0) 25 5 0
def landV (M : Mem) : Int32 := (te (clD M)).1
def landU (M : Mem) : Mem := if (te (clD M)).2 3 3 = 0 then swM (laN M) else laM M
def landR (M : Mem) : Rv := fun v sh' N => v = some (.int (landV M)) ∧ ((¬ (te (clD M)).2 3 3 = 0 ∧ sh' = SH ∧ N = laM M) ∨ ((te (clD M)).2 3 3 = 0 ∧ sh' = SHs ∧ N = laN M))
theorem clD_DI {M : Mem} : DI (clD M) := by
  have e6 : clD M 51 6 = 0 := rfl
  have e7 : clD M 51 7 = 0 := rfl
  have e8 : clD M 51 8 = 0 := rfl
  unfold DI
  rw [e6, e7, e8]
  exact ⟨⟨rfl, by decide⟩, ⟨rfl, by decide⟩, ⟨rfl, by decide⟩⟩
theorem pfL : parseFieldDescriptor "LChurchOrgan$Land;" = some (.object "ChurchOrgan$Land") := by decide +kernel
set_option maxRecDepth 100000 in
set_option maxHeartbeats 4000000 in
theorem sem_X0_clears {M : Mem} : Sem mX0_clear SHs [.ref 5] M (PD SHs none (updM (updM M 5 4 0) 5 5 0)) := by
  refine Sem_of rfl (fun G => (Nat.le_of_ble_eq_true rfl)) (fun G => ?_)
  refine Bd_aload_0 (pc := 0) dX0_clear_0 ?_
  refine Bd_iconst (v := 0) (pc := 1) dX0_clear_1 (by decide) ?_
  refine Bd_putI (j := 4) (ty := .int) ck0 (pc := 2) dX0_clear_2 k_91 rfl (Nat.le_of_ble_eq_true rfl) rfl rfl pfI rfl rfl ?_
  refine Bd_aload_0 (pc := 5) dX0_clear_5 ?_
  refine Bd_iconst (v := 0) (pc := 6) dX0_clear_6 (by decide) ?_
  refine Bd_putI (j := 5) (ty := .int) ck0 (pc := 7) dX0_clear_7 k_93 rfl (Nat.le_of_ble_eq_true rfl) rfl rfl pfI rfl rfl ?_
  refine Bd_vret (pc := 10) dX0_clear_10 rfl ?_
  exact PD_v rfl
set_option maxRecDepth 100000 in
set_option maxHeartbeats 4000000 in
theorem sem_X7_land {M : Mem} (h1 : M 1 2 = nI (tL M)) (h2 : tL M ≤ 320) : Sem mX7_land SH [.ref 0] M (landR M) := by
  refine Sem_of rfl (fun G => (Nat.le_of_ble_eq_true rfl)) (fun G => ?_)
  refine Bd_aload_0 (pc := 0) dX7_land_0 ?_
  refine Bd_getR (j := 9) ck7 (pc := 1) dX7_land_1 k_244 rfl (Nat.le_of_ble_eq_true rfl) rfl ?_
  refine Bd_callV0v (cd := mX3_clear) (pc := 4) dX7_land_4 k_288 v_X3_clear ⟨(Nat.le_of_ble_eq_true rfl), (Nat.le_of_ble_eq_true rfl)⟩ rfl rfl sem_X3_clear (Nat.le_of_ble_eq_true rfl) ?_
  refine Bd_aload_0 (pc := 7) dX7_land_7 ?_
  refine Bd_getR (j := 1) ck7 (pc := 8) dX7_land_8 k_236 rfl (Nat.le_of_ble_eq_true rfl) rfl ?_
  refine Bd_aload_0 (pc := 11) dX7_land_11 ?_
  refine Bd_getR (j := 0) ck7 (pc := 12) dX7_land_12 k_235 rfl (Nat.le_of_ble_eq_true rfl) rfl ?_
  refine Bd_aload_0 (pc := 15) dX7_land_15 ?_
  refine Bd_getR (j := 9) ck7 (pc := 16) dX7_land_16 k_244 rfl (Nat.le_of_ble_eq_true rfl) rfl ?_
  refine Bd_callV2i (cd := mX6_tell) (pc := 19) dX7_land_19 k_289 v_X6_tell ⟨(Nat.le_of_ble_eq_true rfl), (Nat.le_of_ble_eq_true rfl)⟩ rfl rfl (sem_X6_tell (M := clD M) h1 h2 clD_DI) (Nat.le_of_ble_eq_true rfl) ?_
  refine Bd_istore_1 (pc := 22) dX7_land_22 (Nat.le_of_ble_eq_true rfl) rfl ?_
  refine Bd_aload_0 (pc := 23) dX7_land_23 ?_
  refine Bd_getR (j := 0) ck7 (pc := 24) dX7_land_24 k_235 rfl (Nat.le_of_ble_eq_true rfl) rfl ?_
  refine Bd_iconst (v := 0) (pc := 27) dX7_land_27 (by decide) ?_
  refine Bd_putI (j := 2) (ty := .int) ck5 (pc := 28) dX7_land_28 k_34 rfl (Nat.le_of_ble_eq_true rfl) rfl rfl pfI rfl rfl ?_
  refine Bd_aload_0 (pc := 31) dX7_land_31 ?_
  refine Bd_aload_0 (pc := 32) dX7_land_32 ?_
  refine Bd_getR (j := 1) ck7 (pc := 33) dX7_land_33 k_236 rfl (Nat.le_of_ble_eq_true rfl) rfl ?_
  refine Bd_getI (j := 3) ck6 (pc := 36) dX7_land_36 k_66 rfl (Nat.le_of_ble_eq_true rfl) rfl ?_
  refine Bd_putI (j := 10) (ty := .int) ck7 (pc := 39) dX7_land_39 k_245 rfl (Nat.le_of_ble_eq_true rfl) rfl rfl pfI rfl rfl ?_
  refine Bd_aload_0 (pc := 42) dX7_land_42 ?_
  refine Bd_getI (j := 10) ck7 (pc := 43) dX7_land_43 k_245 rfl (Nat.le_of_ble_eq_true rfl) rfl ?_
  refine Bd_if_eq (t := 51) (pc := 46) dX7_land_46 (by decide) (fun b46 => ?_) (fun b46 => ?_)
  · refine Bd_aload_0 (pc := 51) dX7_land_51 ?_
    refine Bd_getR (j := 8) ck7 (pc := 52) dX7_land_52 k_243 rfl (Nat.le_of_ble_eq_true rfl) rfl ?_
    refine Bd_astore_2 (pc := 55) dX7_land_55 (Nat.le_of_ble_eq_true rfl) rfl ?_
    refine Bd_aload_0 (pc := 56) dX7_land_56 ?_
    refine Bd_aload_0 (pc := 57) dX7_land_57 ?_
    refine Bd_getR (j := 9) ck7 (pc := 58) dX7_land_58 k_244 rfl (Nat.le_of_ble_eq_true rfl) rfl ?_
    refine Bd_putR (ty := .object "ChurchOrgan$Land") (t0 := 44) (j := 8) ck7 (pc := 61) dX7_land_61 k_243 rfl (Nat.le_of_ble_eq_true rfl) rfl rfl pfL (fun _ => rfl) (fun _ => rfl) ?_
    refine Bd_aload_0 (pc := 64) dX7_land_64 ?_
    refine Bd_aload_2 (pc := 65) dX7_land_65 ?_
    refine Bd_putR (ty := .object "ChurchOrgan$Land") (t0 := 51) (j := 9) ck7 (pc := 66) dX7_land_66 k_244 rfl (Nat.le_of_ble_eq_true rfl) rfl rfl pfL (fun _ => rfl) (fun _ => rfl) ?_
    refine Bd_csh (sh' := SHs) ?_ rfl
    refine Bd_aload_0 (pc := 69) dX7_land_69 ?_
    refine Bd_getR (j := 2) ck7 (pc := 70) dX7_land_70 k_237 rfl (Nat.le_of_ble_eq_true rfl) rfl ?_
    refine Bd_callV0v (cd := mX0_clear) (pc := 73) dX7_land_73 k_436 v_X0_clear ⟨(Nat.le_of_ble_eq_true rfl), (Nat.le_of_ble_eq_true rfl)⟩ rfl rfl sem_X0_clears (Nat.le_of_ble_eq_true rfl) ?_
    refine Bd_iconst (v := 0) (pc := 76) dX7_land_76 (by decide) ?_
    refine Bd_istore_3 (pc := 77) dX7_land_77 (Nat.le_of_ble_eq_true rfl) rfl ?_
    refine Bd_iload_3 (pc := 78) dX7_land_78 ?_
    refine Bd_iconst (v := 2) (pc := 79) dX7_land_79 (by decide) ?_
    refine Bd_icmp_ge (t := 99) (pc := 80) dX7_land_80 (by decide) (fun b80 => (show False from absurd b80 (by decide)).elim) (fun b80 => ?_)
    refine Bd_aload_0 (pc := 83) dX7_land_83 ?_
    refine Bd_getR (j := 4) ck7 (pc := 84) dX7_land_84 k_239 rfl (Nat.le_of_ble_eq_true rfl) rfl ?_
    refine Bd_iload_3 (pc := 87) dX7_land_87 ?_
    refine Bd_aald (pc := 88) dX7_land_88 rfl (fun _ => rfl) (by unfold vp_in; decide) rfl ?_
    refine Bd_iconst (v := 0) (pc := 89) dX7_land_89 (by decide) ?_
    refine Bd_putI (j := 5) (ty := .boolean) ck2 (pc := 90) dX7_land_90 k_204 rfl (Nat.le_of_ble_eq_true rfl) rfl rfl pfZ rfl (by rfl) ?_
    refine Bd_iinc_3 (pc := 93) dX7_land_93 (show _ + Int32.ofInt 1 = _ + 1 from rfl) (Nat.le_of_ble_eq_true rfl) rfl ?_
    refine Bd_goto (t := 78) (pc := 96) dX7_land_96 (by decide) ?_
    refine Bd_nx (L' := [some (.ref 0), some (.int (landV M)), some (.ref 44), some (.int 1)]) ?_ ⟨rfl, rfl, rfl, rfl, trivial⟩
    refine Bd_iload_3 (pc := 78) dX7_land_78 ?_
    refine Bd_iconst (v := 2) (pc := 79) dX7_land_79 (by decide) ?_
    refine Bd_icmp_ge (t := 99) (pc := 80) dX7_land_80 (by decide) (fun b80 => (show False from absurd b80 (by decide)).elim) (fun b80 => ?_)
    refine Bd_aload_0 (pc := 83) dX7_land_83 ?_
    refine Bd_getR (j := 4) ck7 (pc := 84) dX7_land_84 k_239 rfl (Nat.le_of_ble_eq_true rfl) rfl ?_
    refine Bd_iload_3 (pc := 87) dX7_land_87 ?_
    refine Bd_aald (pc := 88) dX7_land_88 rfl (fun _ => rfl) (by unfold vp_in; decide) rfl ?_
    refine Bd_iconst (v := 0) (pc := 89) dX7_land_89 (by decide) ?_
    refine Bd_putI (j := 5) (ty := .boolean) ck2 (pc := 90) dX7_land_90 k_204 rfl (Nat.le_of_ble_eq_true rfl) rfl rfl pfZ rfl (by rfl) ?_
    refine Bd_iinc_3 (pc := 93) dX7_land_93 (show _ + Int32.ofInt 1 = _ + 1 from rfl) (Nat.le_of_ble_eq_true rfl) rfl ?_
    refine Bd_goto (t := 78) (pc := 96) dX7_land_96 (by decide) ?_
    refine Bd_nx (L' := [some (.ref 0), some (.int (landV M)), some (.ref 44), some (.int 2)]) ?_ ⟨rfl, rfl, rfl, rfl, trivial⟩
    refine Bd_iload_3 (pc := 78) dX7_land_78 ?_
    refine Bd_iconst (v := 2) (pc := 79) dX7_land_79 (by decide) ?_
    refine Bd_icmp_ge (t := 99) (pc := 80) dX7_land_80 (by decide) (fun b80 => ?_) (fun b80 => (show False from b80 (by decide)).elim)
    refine Bd_iload_1 (pc := 99) dX7_land_99 ?_
    refine Bd_iret (pc := 100) dX7_land_100 rfl ?_
    exact ⟨rfl, Or.inr ⟨b46, rfl, rfl⟩⟩
  · refine Bd_iload_1 (pc := 49) dX7_land_49 ?_
    refine Bd_iret (pc := 50) dX7_land_50 rfl ?_
    exact ⟨rfl, Or.inl ⟨b46, rfl, rfl⟩⟩
