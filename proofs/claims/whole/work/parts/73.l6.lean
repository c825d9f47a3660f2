/-! 73: land: String constants, static tables -/
section STR
variable {d : MD} {G : GD} {R : Rv} {sh : List Ds} {pc : Nat} {L : List (Option Value)} {st : List Value} {M : Mem}
theorem Bd_i2c {x : Int32} (hd : decode d.2.1 pc = .ok (.i2c, 1)) (k : Bd d G R sh (pc + 1) L (.int (x.toUInt32 % 65536).toInt32 :: st) M) : Bd d G R sh pc L (.int x :: st) M := fun p l e s m a b me c H lo ls F r q S hl P D Z => lv_i2c F.1 F.2.1 hd rfl (k p l e s m a b me c H lo ls F r q S hl P D Z)
theorem Bd_ldcS {i x : Nat} {tx : String} (ho : d.1.cls = RX6) (hi : i < 7) (hx : strI.getD i (0, "") = (x, tx)) (hd : decode d.2.1 pc = .ok (.ldc x, 2)) (k : Bd d G R sh (pc + 2) L (.ref (100 + i) :: st) M) : Bd d G R sh pc L st M := fun p l e s m a b me c H lo ls F r q S hl P D Z => va_ldcS (own := RX6) (tx := tx) F.1 F.2.1 (by rw [← ho]; exact F.2.2.2.1) (by have z := S.2.2.2.1 i hi; rw [hx] at z; exact z) hd (k p l e s m a b me c H lo ls F r q S hl P D Z)
theorem Bd_gets {x : Nat} {C n ds : String} {v : Value} (hZ : ∀ s, St G s → va_Z C n ds (cv G v) (gA G) s s.heap) (hk : Cond.fieldLink d.1.cls x C n ds ∈ TB) (hd : decode d.2.1 pc = .ok (.getstatic x, 3)) (k : Bd d G R sh (pc + 3) L (v :: st) M) : Bd d G R sh pc L st M := fun p l e s m a b me c H lo ls F r q S hl P D Z => va_gets F.1 F.2.1 (hZ s S) Z F.2.2.2.1 (F.2.2.2.2 _ hk) (fun _ h => h) hd (k p l e s m a b me c H lo ls F r q S hl P D Z)
theorem Bd_tald {j x : Nat} {t : List Int32} {i : Int32} (hT : ∀ s, St G s → va_T .int (G.2.1 x) t.length (fun j => .int (t.getD j 0)) (gA G) s s.heap) (hj : i.toNatClampNeg = j) (hd : decode d.2.1 pc = .ok (.iaload, 1)) (hin : vp_in i t.length) (k : Bd d G R sh (pc + 1) L (.int (t.getD j 0) :: st) M) : Bd d G R sh pc L (.int i :: .ref x :: st) M := fun p l e s m a b me c H lo ls F r q S hl P D Z => va_ti F.1 F.2.1 (hT s S) Z hin (by rw [hj]; rfl) hd (k p l e s m a b me c H lo ls F r q S hl P D Z)
theorem Bd_sval {i x : Nat} (hi : i < 7) (hk : Cond.fieldLink d.1.cls x "java/lang/String" "value" "[B" ∈ TB) (hd : decode d.2.1 pc = .ok (.getfield x, 3)) (k : Bd d G R sh (pc + 3) L (.ref (110 + i) :: st) M) : Bd d G R sh pc L (.ref (100 + i) :: st) M := fun p l e s m a b me c H lo ls F r q S hl P D Z => vk_getf F.1 F.2.1 (S.2.2.1.1 i hi).2.2.1 Z F.2.2.2.1 (F.2.2.2.2 _ hk) (fun _ h => h) hd (k p l e s m a b me c H lo ls F r q S hl P D Z)
theorem Bd_scod {i x : Nat} (hi : i < 7) (hk : Cond.fieldLink d.1.cls x "java/lang/String" "coder" "B" ∈ TB) (hd : decode d.2.1 pc = .ok (.getfield x, 3)) (k : Bd d G R sh (pc + 3) L (.int 0 :: st) M) : Bd d G R sh pc L (.ref (100 + i) :: st) M := fun p l e s m a b me c H lo ls F r q S hl P D Z => vk_getf F.1 F.2.1 (S.2.2.1.1 i hi).2.1 Z F.2.2.2.1 (F.2.2.2.2 _ hk) (fun _ h => h) hd (k p l e s m a b me c H lo ls F r q S hl P D Z)
theorem Bd_sarl {i : Nat} (hi : i < 7) (hd : decode d.2.1 pc = .ok (.arraylength, 1)) (k : Bd d G R sh (pc + 1) L (.int (nI (strL.getD i 0)) :: st) M) : Bd d G R sh pc L (.ref (110 + i) :: st) M := fun p l e s m a b me c H lo ls F r q S hl P D Z => va_tlen F.1 F.2.1 (S.2.2.1.1 i hi).2.2.2 Z rfl hd (k p l e s m a b me c H lo ls F r q S hl P D Z)
theorem Bd_sbal {i j : Nat} {x : Int32} (hi : i < 7) (hj : x.toNatClampNeg = j) (hd : decode d.2.1 pc = .ok (.baload, 1)) (hin : vp_in x (strL.getD i 0)) (k : Bd d G R sh (pc + 1) L (.int ((strB.getD i []).getD j 0) :: st) M) : Bd d G R sh pc L (.int x :: .ref (110 + i) :: st) M := fun p l e s m a b me c H lo ls F r q S hl P D Z => va_tb F.1 F.2.1 (S.2.2.1.1 i hi).2.2.2 Z hin (by rw [hj]; rfl) hd (k p l e s m a b me c H lo ls F r q S hl P D Z)
theorem Bd_callT0 {cd : MD} {b i : Nat} {x : Int32} (hb : b < 7) (hd : decode d.2.1 pc = .ok (.invokevirtual i, 3)) (hk : Cond.methodLink d.1.cls i cd.1 ∈ TB) (mv : MV cd 0) (rm : Rm d cd) (hc : cd.1.cls = "java/lang/String") (hM : Sem cd sh [.ref (100 + b)] M (PD sh (some (.int x)) M)) (hw : ((st.map (cv G)).map fun v => v.category).sum ≤ 8) (k : Bd d G R sh (pc + 3) L (.int x :: st) M) : Bd d G R sh pc L (.ref (100 + b) :: st) M := fun p l e s m a b0 me c H lo ls F r q S hl P D Z => by
  obtain ⟨m1, m2, m3, m4, ⟨n1, n2, n3⟩, m5, m6⟩ := mv
  have hcb := callB_of (R := d.2.2.2.2) (own := d.1.cls) (index := i) (rm := cd.2.2.2.2) (mc := 0) (ms := 0) 0 F.2.2.2.2 (TBc m4) rfl m5 m6 (F.2.2.2.2 _ m3) (F.2.2.2.2 _ hk) ⟨n1, n2, n3⟩ rm
  refine Bd_after F r q S hl Z (va_runV (As := []) (rest := st.map (cv G)) (b := G.2.1 (100 + b)) (C := cd.1.cls) F (hM l G) ⟨hcb, F.2.2.2.2 _ m1, F.2.2.2.2 _ m2⟩ ⟨fun a U g mk h => ⟨h.1, h.2.blind⟩, ?_, fun U hU hW => ⟨rfl, WT_of S P D Z hU hW⟩⟩ rfl rfl hl.1 rfl (lv_room hw) hd ⟨Nat.zero_le _, Nat.zero_le _⟩) (fun v sh2 M2 h => by obtain ⟨rfl, rfl, rfl⟩ := h; exact k)
  rw [hc]
  exact vk_recv (adK := fun i => G.2.1 (100 + i)) (i := b) S.2.2.1 hb Z
theorem Bd_callT1 {cd : MD} {b i : Nat} {x1 : Value} {x : Int32} (hb : b < 7) (hd : decode d.2.1 pc = .ok (.invokevirtual i, 3)) (hk : Cond.methodLink d.1.cls i cd.1 ∈ TB) (mv : MV cd 1) (rm : Rm d cd) (hc : cd.1.cls = "java/lang/String") (hM : Sem cd sh [.ref (100 + b), x1] M (PD sh (some (.int x)) M)) (hw : ((st.map (cv G)).map fun v => v.category).sum ≤ 8) (k : Bd d G R sh (pc + 3) L (.int x :: st) M) : Bd d G R sh pc L (x1 :: .ref (100 + b) :: st) M := fun p l e s m a b0 me c H lo ls F r q S hl P D Z => by
  obtain ⟨m1, m2, m3, m4, ⟨n1, n2, n3⟩, m5, m6⟩ := mv
  have hcb := callB_of (R := d.2.2.2.2) (own := d.1.cls) (index := i) (rm := cd.2.2.2.2) (mc := 0) (ms := 0) 1 F.2.2.2.2 (TBc m4) rfl m5 m6 (F.2.2.2.2 _ m3) (F.2.2.2.2 _ hk) ⟨n1, n2, n3⟩ rm
  refine Bd_after F r q S hl Z (va_runV (As := [cv G x1]) (rest := st.map (cv G)) (b := G.2.1 (100 + b)) (C := cd.1.cls) F (hM l G) ⟨hcb, F.2.2.2.2 _ m1, F.2.2.2.2 _ m2⟩ ⟨fun a U g mk h => ⟨h.1, h.2.blind⟩, ?_, fun U hU hW => ⟨rfl, WT_of S P D Z hU hW⟩⟩ rfl rfl hl.1 rfl (lv_room hw) hd ⟨Nat.zero_le _, Nat.zero_le _⟩) (fun v sh2 M2 h => by obtain ⟨rfl, rfl, rfl⟩ := h; exact k)
  rw [hc]
  exact vk_recv (adK := fun i => G.2.1 (100 + i)) (i := b) S.2.2.1 hb Z
theorem Bd_getsF {x : Nat} (hk : Cond.fieldLink d.1.cls x "jdk/internal/util/Preconditions" "SIOOBE_FORMATTER" "Ljava/util/function/BiFunction;" ∈ TB) (hd : decode d.2.1 pc = .ok (.getstatic x, 3)) (k1 : Bd d G R sh (pc + 3) L (.null :: st) M) (k2 : Bd d G R sh (pc + 3) L (.ref 130 :: st) M) : Bd d G R sh pc L st M := fun p l e s m a b me c H lo ls F r q S hl P D Z => by
  rcases S.2.2.2.2.2.1 with z | z
  · exact va_gets F.1 F.2.1 z Z F.2.2.2.1 (F.2.2.2.2 _ hk) (fun _ h => h) hd (k1 p l e s m a b me c H lo ls F r q S hl P D Z)
  · exact va_gets F.1 F.2.1 z Z F.2.2.2.1 (F.2.2.2.2 _ hk) (fun _ h => h) hd (k2 p l e s m a b me c H lo ls F r q S hl P D Z)
end STR
theorem PD_a {sh : List Ds} {M : Mem} {n : Nat} : PD sh (some (.ref n)) M (some (.ref n)) sh M := ⟨rfl, rfl, rfl⟩
set_option maxRecDepth 100000 in
set_option maxHeartbeats 4000000 in
theorem sem_J0_coder_7d493 {sh : List Ds} {M : Mem} {i : Nat} (hi : i < 7)  : Sem mJ0_coder_7d493 sh [.ref (100 + i)] M (PD sh (some (.int 0)) M) := by
  refine Sem_of rfl (fun G => (Nat.le_of_ble_eq_true rfl)) (fun G => ?_)
  refine Bd_gets (v := .int 1) (fun s S => S.2.2.2.2.1) k_359 (pc := 0) dJ0_coder_7d493_0 ?_
  refine Bd_if_eq (t := 13) (pc := 3) dJ0_coder_7d493_3 (by decide) (fun b3 => (show False from absurd b3 (by decide)).elim) (fun b3 => ?_)
  refine Bd_aload_0 (pc := 6) dJ0_coder_7d493_6 ?_
  refine Bd_scod hi k_1238 (pc := 7) dJ0_coder_7d493_7 ?_
  refine Bd_goto (t := 14) (pc := 10) dJ0_coder_7d493_10 (by decide) ?_
  refine Bd_zret (pc := 14) dJ0_coder_7d493_14 rfl rfl ?_
  exact PD_i rfl rfl
set_option maxRecDepth 100000 in
set_option maxHeartbeats 4000000 in
theorem sem_J0_isLatin1_aae02 {sh : List Ds} {M : Mem} {i : Nat} (hi : i < 7)  : Sem mJ0_isLatin1_aae02 sh [.ref (100 + i)] M (PD sh (some (.int 1)) M) := by
  refine Sem_of rfl (fun G => (Nat.le_of_ble_eq_true rfl)) (fun G => ?_)
  refine Bd_gets (v := .int 1) (fun s S => S.2.2.2.2.1) k_359 (pc := 0) dJ0_isLatin1_aae02_0 ?_
  refine Bd_if_eq (t := 17) (pc := 3) dJ0_isLatin1_aae02_3 (by decide) (fun b3 => (show False from absurd b3 (by decide)).elim) (fun b3 => ?_)
  refine Bd_aload_0 (pc := 6) dJ0_isLatin1_aae02_6 ?_
  refine Bd_scod hi k_1238 (pc := 7) dJ0_isLatin1_aae02_7 ?_
  refine Bd_if_ne (t := 17) (pc := 10) dJ0_isLatin1_aae02_10 (by decide) (fun b10 => (show False from absurd rfl b10).elim) (fun b10 => ?_)
  refine Bd_iconst (v := 1) (pc := 13) dJ0_isLatin1_aae02_13 (by decide) ?_
  refine Bd_goto (t := 18) (pc := 14) dJ0_isLatin1_aae02_14 (by decide) ?_
  refine Bd_zret (pc := 18) dJ0_isLatin1_aae02_18 rfl rfl ?_
  exact PD_i rfl rfl
theorem shr0 (x : Int32) : x >>> ((0 : Int32) &&& 31) = x := by
  apply Int32.toBitVec_inj.mp
  simp [Int32.toBitVec_shiftRight]
set_option maxRecDepth 100000 in
set_option maxHeartbeats 4000000 in
theorem sem_J0_length_8abf5 {sh : List Ds} {M : Mem} {i : Nat} (hi : i < 7)  : Sem mJ0_length_8abf5 sh [.ref (100 + i)] M (PD sh (some (.int (nI (strL.getD i 0)))) M) := by
  refine Sem_of rfl (fun G => (Nat.le_of_ble_eq_true rfl)) (fun G => ?_)
  refine Bd_aload_0 (pc := 0) dJ0_length_8abf5_0 ?_
  refine Bd_sval hi k_1237 (pc := 1) dJ0_length_8abf5_1 ?_
  refine Bd_sarl hi (pc := 4) dJ0_length_8abf5_4 ?_
  refine Bd_aload_0 (pc := 5) dJ0_length_8abf5_5 ?_
  refine Bd_callT0 (cd := mJ0_coder_7d493) hi (pc := 6) dJ0_length_8abf5_6 k_355 v_J0_coder_7d493 ⟨(Nat.le_of_ble_eq_true rfl), (Nat.le_of_ble_eq_true rfl)⟩ rfl (sem_J0_coder_7d493 hi) (Nat.le_of_ble_eq_true rfl) ?_
  refine Bd_ishr (pc := 9) dJ0_length_8abf5_9 ?_
  refine Bd_iret (pc := 10) dJ0_length_8abf5_10 rfl ?_
  exact PD_i (shr0 _) rfl
set_option maxRecDepth 100000 in
set_option maxHeartbeats 4000000 in
theorem sem_J3_cin {sh : List Ds} {M : Mem} {x y : Int32} (h0 : 0 ≤ x) (h1 : x < y) : Sem mJ3_checkIndex_8e157 sh [.int x, .int y, .null] M (PD sh (some (.int x)) M) := by
  refine Sem_of rfl (fun G => (Nat.le_of_ble_eq_true rfl)) (fun G => ?_)
  refine Bd_iload_0 (pc := 0) dJ3_checkIndex_8e157_0 ?_
  refine Bd_if_lt (t := 9) (pc := 1) dJ3_checkIndex_8e157_1 (by decide) (fun b1 => (show False from absurd b1 (Int32.not_lt.mpr h0)).elim) (fun b1 => ?_)
  refine Bd_iload_0 (pc := 4) dJ3_checkIndex_8e157_4 ?_
  refine Bd_iload_1 (pc := 5) dJ3_checkIndex_8e157_5 ?_
  refine Bd_icmp_lt (t := 16) (pc := 6) dJ3_checkIndex_8e157_6 (by decide) (fun b6 => ?_) (fun b6 => (show False from absurd h1 b6).elim)
  refine Bd_iload_0 (pc := 16) dJ3_checkIndex_8e157_16 ?_
  refine Bd_iret (pc := 17) dJ3_checkIndex_8e157_17 rfl ?_
  exact PD_i rfl rfl
set_option maxRecDepth 100000 in
set_option maxHeartbeats 4000000 in
theorem sem_J3_cir {sh : List Ds} {M : Mem} {x y : Int32} (h0 : 0 ≤ x) (h1 : x < y) : Sem mJ3_checkIndex_8e157 sh [.int x, .int y, .ref 130] M (PD sh (some (.int x)) M) := by
  refine Sem_of rfl (fun G => (Nat.le_of_ble_eq_true rfl)) (fun G => ?_)
  refine Bd_iload_0 (pc := 0) dJ3_checkIndex_8e157_0 ?_
  refine Bd_if_lt (t := 9) (pc := 1) dJ3_checkIndex_8e157_1 (by decide) (fun b1 => (show False from absurd b1 (Int32.not_lt.mpr h0)).elim) (fun b1 => ?_)
  refine Bd_iload_0 (pc := 4) dJ3_checkIndex_8e157_4 ?_
  refine Bd_iload_1 (pc := 5) dJ3_checkIndex_8e157_5 ?_
  refine Bd_icmp_lt (t := 16) (pc := 6) dJ3_checkIndex_8e157_6 (by decide) (fun b6 => ?_) (fun b6 => (show False from absurd h1 b6).elim)
  refine Bd_iload_0 (pc := 16) dJ3_checkIndex_8e157_16 ?_
  refine Bd_iret (pc := 17) dJ3_checkIndex_8e157_17 rfl ?_
  exact PD_i rfl rfl
set_option maxRecDepth 100000 in
set_option maxHeartbeats 4000000 in
theorem sem_J0_checkIndex_df160 {sh : List Ds} {M : Mem} {x y : Int32} (h0 : 0 ≤ x) (h1 : x < y) : Sem mJ0_checkIndex_df160 sh [.int x, .int y] M (PD sh none M) := by
  refine Sem_of rfl (fun G => (Nat.le_of_ble_eq_true rfl)) (fun G => ?_)
  refine Bd_iload_0 (pc := 0) dJ0_checkIndex_df160_0 ?_
  refine Bd_iload_1 (pc := 1) dJ0_checkIndex_df160_1 ?_
  refine Bd_getsF k_375 (pc := 2) dJ0_checkIndex_df160_2 ?_ ?_
  · refine Bd_callS3i (cd := mJ3_checkIndex_8e157) (pc := 5) dJ0_checkIndex_df160_5 k_377 v_J3_checkIndex_8e157 ⟨(Nat.le_of_ble_eq_true rfl), (Nat.le_of_ble_eq_true rfl)⟩ (sem_J3_cin h0 h1) (Nat.le_of_ble_eq_true rfl) ?_
    refine Bd_pop (pc := 8) dJ0_checkIndex_df160_8 rfl ?_
    refine Bd_vret (pc := 9) dJ0_checkIndex_df160_9 rfl ?_
    exact PD_v rfl
  · refine Bd_callS3i (cd := mJ3_checkIndex_8e157) (pc := 5) dJ0_checkIndex_df160_5 k_377 v_J3_checkIndex_8e157 ⟨(Nat.le_of_ble_eq_true rfl), (Nat.le_of_ble_eq_true rfl)⟩ (sem_J3_cir h0 h1) (Nat.le_of_ble_eq_true rfl) ?_
    refine Bd_pop (pc := 8) dJ0_checkIndex_df160_8 rfl ?_
    refine Bd_vret (pc := 9) dJ0_checkIndex_df160_9 rfl ?_
    exact PD_v rfl
def chV (i j : Nat) : Int32 := (strB.getD i []).getD j 0
theorem chV_c : ∀ i, i < 7 → ∀ j, j < strL.getD i 0 → ((chV i j &&& 255).toUInt32 % 65536).toInt32 = chV i j ∧ narrow .char (.int (chV i j)) = .int (chV i j) ∧ 97 ≤ chV i j ∧ chV i j ≤ 122 := by decide +kernel
theorem strL_lt : ∀ i, i < 7 → strL.getD i 0 < 7 := by decide
set_option maxRecDepth 100000 in
set_option maxHeartbeats 4000000 in
theorem sem_J1_charAt_3b067 {sh : List Ds} {M : Mem} {i j : Nat} (hi : i < 7) (hj : j < strL.getD i 0)  : Sem mJ1_charAt_3b067 sh [.ref (110 + i), .int (nI j)] M (PD sh (some (.int (chV i j))) M) := by
  refine Sem_of rfl (fun G => (Nat.le_of_ble_eq_true rfl)) (fun G => ?_)
  have h7 := strL_lt i hi
  refine Bd_iload_1 (pc := 0) dJ1_charAt_3b067_0 ?_
  refine Bd_aload_0 (pc := 1) dJ1_charAt_3b067_1 ?_
  refine Bd_sarl hi (pc := 2) dJ1_charAt_3b067_2 ?_
  refine Bd_callS2v (cd := mJ0_checkIndex_df160) (pc := 3) dJ1_charAt_3b067_3 k_372 v_J0_checkIndex_df160 ⟨(Nat.le_of_ble_eq_true rfl), (Nat.le_of_ble_eq_true rfl)⟩ (sem_J0_checkIndex_df160 (nI_pos' (by omega)) (nI_lt hj (by omega))) (Nat.le_of_ble_eq_true rfl) ?_
  refine Bd_aload_0 (pc := 6) dJ1_charAt_3b067_6 ?_
  refine Bd_iload_1 (pc := 7) dJ1_charAt_3b067_7 ?_
  refine Bd_sbal (j := j) hi (nI_clamp (by omega)) (pc := 8) dJ1_charAt_3b067_8 (vpi hj (by omega)) ?_
  refine Bd_sipush (v := 255) (pc := 9) dJ1_charAt_3b067_9 (by decide) ?_
  refine Bd_iand (pc := 12) dJ1_charAt_3b067_12 ?_
  refine Bd_i2c (pc := 13) dJ1_charAt_3b067_13 ?_
  refine Bd_zret (pc := 14) dJ1_charAt_3b067_14 rfl (by rw [show ((strB.getD i []).getD j 0) = chV i j from rfl, (chV_c i hi j hj).1]; exact (chV_c i hi j hj).2.1) ?_
  exact PD_i (chV_c i hi j hj).1 rfl
set_option maxRecDepth 100000 in
set_option maxHeartbeats 4000000 in
theorem sem_J0_charAt_5068e {sh : List Ds} {M : Mem} {i j : Nat} (hi : i < 7) (hj : j < strL.getD i 0)  : Sem mJ0_charAt_5068e sh [.ref (100 + i), .int (nI j)] M (PD sh (some (.int (chV i j))) M) := by
  refine Sem_of rfl (fun G => (Nat.le_of_ble_eq_true rfl)) (fun G => ?_)
  refine Bd_aload_0 (pc := 0) dJ0_charAt_5068e_0 ?_
  refine Bd_callT0 (cd := mJ0_isLatin1_aae02) hi (pc := 1) dJ0_charAt_5068e_1 k_365 v_J0_isLatin1_aae02 ⟨(Nat.le_of_ble_eq_true rfl), (Nat.le_of_ble_eq_true rfl)⟩ rfl (sem_J0_isLatin1_aae02 hi) (Nat.le_of_ble_eq_true rfl) ?_
  refine Bd_if_eq (t := 16) (pc := 4) dJ0_charAt_5068e_4 (by decide) (fun b4 => (show False from absurd b4 (by decide)).elim) (fun b4 => ?_)
  refine Bd_aload_0 (pc := 7) dJ0_charAt_5068e_7 ?_
  refine Bd_sval hi k_1237 (pc := 8) dJ0_charAt_5068e_8 ?_
  refine Bd_iload_1 (pc := 11) dJ0_charAt_5068e_11 ?_
  refine Bd_callS2i (cd := mJ1_charAt_3b067) (pc := 12) dJ0_charAt_5068e_12 k_369 v_J1_charAt_3b067 ⟨(Nat.le_of_ble_eq_true rfl), (Nat.le_of_ble_eq_true rfl)⟩ (sem_J1_charAt_3b067 hi hj) (Nat.le_of_ble_eq_true rfl) ?_
  refine Bd_zret (pc := 15) dJ0_charAt_5068e_15 rfl (chV_c i hi j hj).2.1 ?_
  exact PD_i rfl rfl
theorem aret_S {d : MD} {G : GD} {R : Rv} {sh : List Ds} {pc : Nat} {L : List (Option Value)} {M : Mem} {v : Nat} (hd : decode d.2.1 pc = .ok (.areturn, 1)) (hr : d.2.2.2.1 = some (.object "java/lang/String")) (h : R (some (.ref v)) sh M) : Bd d G R sh pc L [.ref v] M := Bd_aret hd hr h
set_option maxRecDepth 100000 in
set_option maxHeartbeats 4000000 in
theorem sem_X6_nameOf {sh : List Ds} {M : Mem} {i : Nat} (hi : i < 7) : Sem mX6_nameOf sh [.int (nI i)] M (PD sh (some (.ref (100 + i))) M) := by
  refine Sem_of rfl (fun G => (Nat.le_of_ble_eq_true rfl)) (fun G => ?_)
  match i, hi with
  | 0, hi =>
    refine Bd_iload_0 (pc := 0) dX6_nameOf_0 ?_
    refine Bd_swIn (t := 40) (pc := 1) dX6_nameOf_1 (by decide) (by decide) rfl (by decide) ?_
    refine Bd_ldcS (i := 0) rfl (by decide) rfl (pc := 40) dX6_nameOf_40 ?_
    refine Bd_aret (pc := 42) dX6_nameOf_42 rfl ?_
    exact PD_a
  | 1, hi =>
    refine Bd_iload_0 (pc := 0) dX6_nameOf_0 ?_
    refine Bd_swIn (t := 43) (pc := 1) dX6_nameOf_1 (by decide) (by decide) rfl (by decide) ?_
    refine Bd_ldcS (i := 1) rfl (by decide) rfl (pc := 43) dX6_nameOf_43 ?_
    refine Bd_aret (pc := 45) dX6_nameOf_45 rfl ?_
    exact PD_a
  | 2, hi =>
    refine Bd_iload_0 (pc := 0) dX6_nameOf_0 ?_
    refine Bd_swIn (t := 46) (pc := 1) dX6_nameOf_1 (by decide) (by decide) rfl (by decide) ?_
    refine Bd_ldcS (i := 2) rfl (by decide) rfl (pc := 46) dX6_nameOf_46 ?_
    refine Bd_aret (pc := 48) dX6_nameOf_48 rfl ?_
    exact PD_a
  | 3, hi =>
    refine Bd_iload_0 (pc := 0) dX6_nameOf_0 ?_
    refine Bd_swIn (t := 49) (pc := 1) dX6_nameOf_1 (by decide) (by decide) rfl (by decide) ?_
    refine Bd_ldcS (i := 3) rfl (by decide) rfl (pc := 49) dX6_nameOf_49 ?_
    refine Bd_aret (pc := 51) dX6_nameOf_51 rfl ?_
    exact PD_a
  | 4, hi =>
    refine Bd_iload_0 (pc := 0) dX6_nameOf_0 ?_
    refine Bd_swIn (t := 52) (pc := 1) dX6_nameOf_1 (by decide) (by decide) rfl (by decide) ?_
    refine Bd_ldcS (i := 4) rfl (by decide) rfl (pc := 52) dX6_nameOf_52 ?_
    refine Bd_aret (pc := 54) dX6_nameOf_54 rfl ?_
    exact PD_a
  | 5, hi =>
    refine Bd_iload_0 (pc := 0) dX6_nameOf_0 ?_
    refine Bd_swIn (t := 55) (pc := 1) dX6_nameOf_1 (by decide) (by decide) rfl (by decide) ?_
    refine Bd_ldcS (i := 5) rfl (by decide) rfl (pc := 55) dX6_nameOf_55 ?_
    refine Bd_aret (pc := 57) dX6_nameOf_57 rfl ?_
    exact PD_a
  | 6, hi =>
    refine Bd_iload_0 (pc := 0) dX6_nameOf_0 ?_
    refine Bd_swOut (t := 58) (pc := 1) dX6_nameOf_1 (by decide) (by decide) ?_
    refine Bd_ldcS (i := 6) rfl (by decide) rfl (pc := 58) dX6_nameOf_58 ?_
    refine Bd_aret (pc := 60) dX6_nameOf_60 rfl ?_
    exact PD_a
def nmB (f : Nat → Int32) (s e : Nat) (k : Int32) (i : Nat) : Bool := decide (k = 1 ∧ e = s + strL.getD i 0 ∧ ∀ j, j < strL.getD i 0 → f (s + j) = chV i j)
def lnI (p : Nat → Bool) : Nat → Nat → Int32
  | 0, _ => -4
  | k + 1, i => if p i = true then nI i else lnI p k (i + 1)
theorem nI_ad (a b : Nat) : nI a + nI b = nI (a + b) := by simp [nI, Int32.ofNat_add]
set_option maxRecDepth 100000 in
set_option maxHeartbeats 4000000 in
theorem sem_X5_nameIs {M : Mem} {i s e : Nat} (hi : i < 7) (hst : M 1 4 = nI s) (hnx : M 1 1 = nI e) (hse : s ≤ e) (he : e ≤ 320) : Sem mX5_nameIs SH [.ref 1, .ref (100 + i)] M (PD SH (some (.int (if nmB (M 2) s e (M 1 3) i = true then 1 else 0))) M) := by
  refine Sem_of rfl (fun G => (Nat.le_of_ble_eq_true rfl)) (fun G => ?_)
  have h7 := strL_lt i hi
  refine Bd_aload_0 (pc := 0) dX5_nameIs_0 ?_
  refine Bd_getI (j := 3) ck5 (pc := 1) dX5_nameIs_1 k_37 rfl (Nat.le_of_ble_eq_true rfl) rfl ?_
  refine Bd_iconst (v := 1) (pc := 4) dX5_nameIs_4 (by decide) ?_
  refine Bd_icmp_ne (t := 24) (pc := 5) dX5_nameIs_5 (by decide) (fun b5 => ?_) (fun b5 => ?_)
  · refine Bd_iconst (v := 0) (pc := 24) dX5_nameIs_24 (by decide) ?_
    refine Bd_zret (pc := 25) dX5_nameIs_25 rfl rfl ?_
    exact PD_i (by rw [nmB, decide_eq_false (fun z : M 1 3 = 1 ∧ e = s + strL.getD i 0 ∧ ∀ j, j < strL.getD i 0 → M 2 (s + j) = chV i j => b5 z.1)]; rfl) rfl
  · refine Bd_aload_0 (pc := 8) dX5_nameIs_8 ?_
    refine Bd_getI (j := 1) ck5 (pc := 9) dX5_nameIs_9 k_32 rfl (Nat.le_of_ble_eq_true rfl) rfl ?_
    refine Bd_aload_0 (pc := 12) dX5_nameIs_12 ?_
    refine Bd_getI (j := 4) ck5 (pc := 13) dX5_nameIs_13 k_39 rfl (Nat.le_of_ble_eq_true rfl) rfl ?_
    refine Bd_isub (pc := 16) dX5_nameIs_16 ?_
    refine Bd_aload_1 (pc := 17) dX5_nameIs_17 ?_
    refine Bd_callT0 (cd := mJ0_length_8abf5) hi (pc := 18) dX5_nameIs_18 k_351 v_J0_length_8abf5 ⟨(Nat.le_of_ble_eq_true rfl), (Nat.le_of_ble_eq_true rfl)⟩ rfl (sem_J0_length_8abf5 hi) (Nat.le_of_ble_eq_true rfl) ?_
    refine Bd_icmp_eq (t := 26) (pc := 21) dX5_nameIs_21 (by decide) (fun b21 => ?_) (fun b21 => ?_)
    · have hlen : e = s + strL.getD i 0 := by
        have z := b21
        rw [hst, hnx, nI_sb hse] at z
        have := nI_inj z (by omega) (by omega)
        omega
      refine Bd_iconst (v := 0) (pc := 26) dX5_nameIs_26 (by decide) ?_
      refine Bd_istore_2 (pc := 27) dX5_nameIs_27 (Nat.le_of_ble_eq_true rfl) rfl ?_
      refine Bd_nx (L' := (fun j => [some (.ref 1), some (.ref (100 + i)), some (.int (nI j))]) 0) ?_ (by repeat (first | exact True.intro | refine And.intro rfl ?_))
      refine Bd_for (pc := 28) (c := (strL.getD i 0)) (fun j => [some (.ref 1), some (.ref (100 + i)), some (.int (nI j))]) (fun _ => M) (fun j => ∀ q, q < j → M 2 (s + q) = chV i q) (fun ivj => ?_) (fun j hj ivj ihj => ?_) (fun q hq => absurd hq (Nat.not_lt_zero q))
      · refine Bd_iload_2 (pc := 28) dX5_nameIs_28 ?_
        refine Bd_aload_1 (pc := 29) dX5_nameIs_29 ?_
        refine Bd_callT0 (cd := mJ0_length_8abf5) hi (pc := 30) dX5_nameIs_30 k_351 v_J0_length_8abf5 ⟨(Nat.le_of_ble_eq_true rfl), (Nat.le_of_ble_eq_true rfl)⟩ rfl (sem_J0_length_8abf5 hi) (Nat.le_of_ble_eq_true rfl) ?_
        refine Bd_icmp_ge (t := 63) (pc := 33) dX5_nameIs_33 (by decide) (fun b33 => ?_) (fun b33 => (show False from lf_x rfl b33).elim)
        refine Bd_iconst (v := 1) (pc := 63) dX5_nameIs_63 (by decide) ?_
        refine Bd_zret (pc := 64) dX5_nameIs_64 rfl rfl ?_
        exact PD_i (by rw [nmB, decide_eq_true (show M 1 3 = 1 ∧ e = s + strL.getD i 0 ∧ ∀ j, j < strL.getD i 0 → M 2 (s + j) = chV i j from ⟨b5, hlen, ivj⟩)]; rfl) rfl
      · refine Bd_iload_2 (pc := 28) dX5_nameIs_28 ?_
        refine Bd_aload_1 (pc := 29) dX5_nameIs_29 ?_
        refine Bd_callT0 (cd := mJ0_length_8abf5) hi (pc := 30) dX5_nameIs_30 k_351 v_J0_length_8abf5 ⟨(Nat.le_of_ble_eq_true rfl), (Nat.le_of_ble_eq_true rfl)⟩ rfl (sem_J0_length_8abf5 hi) (Nat.le_of_ble_eq_true rfl) ?_
        refine Bd_icmp_ge (t := 63) (pc := 33) dX5_nameIs_33 (by decide) (fun b33 => (show False from lf_s rfl (by omega) hj b33).elim) (fun b33 => ?_)
        refine Bd_aload_0 (pc := 36) dX5_nameIs_36 ?_
        refine Bd_getR (j := 0) ck5 (pc := 37) dX5_nameIs_37 k_31 rfl (Nat.le_of_ble_eq_true rfl) rfl ?_
        refine Bd_aload_0 (pc := 40) dX5_nameIs_40 ?_
        refine Bd_getI (j := 4) ck5 (pc := 41) dX5_nameIs_41 k_39 rfl (Nat.le_of_ble_eq_true rfl) rfl ?_
        refine Bd_iload_2 (pc := 44) dX5_nameIs_44 ?_
        refine Bd_iadd (pc := 45) dX5_nameIs_45 ?_
        refine Bd_baldc (j := s + j) (by rw [hst, nI_ad]; exact nI_clamp (by omega)) (pc := 46) dX5_nameIs_46 rfl (by rw [hst, nI_ad]; exact vpi (by omega) (by omega)) ?_
        refine Bd_aload_1 (pc := 47) dX5_nameIs_47 ?_
        refine Bd_iload_2 (pc := 48) dX5_nameIs_48 ?_
        refine Bd_callT1 (cd := mJ0_charAt_5068e) hi (pc := 49) dX5_nameIs_49 k_361 v_J0_charAt_5068e ⟨(Nat.le_of_ble_eq_true rfl), (Nat.le_of_ble_eq_true rfl)⟩ rfl (sem_J0_charAt_5068e hi hj) (Nat.le_of_ble_eq_true rfl) ?_
        refine Bd_icmp_eq (t := 57) (pc := 52) dX5_nameIs_52 (by decide) (fun b52 => ?_) (fun b52 => ?_)
        · refine Bd_iinc_2 (pc := 57) dX5_nameIs_57 (show _ + Int32.ofInt 1 = _ + 1 from rfl) (Nat.le_of_ble_eq_true rfl) rfl ?_
          refine Bd_goto (t := 28) (pc := 60) dX5_nameIs_60 (by decide) ?_
          exact Bd_nx (ihj (fun q hq => (Nat.lt_succ_iff_lt_or_eq.mp hq).elim (ivj q) (fun z => by rw [z]; exact b52))) ⟨rfl, rfl, congrArg (fun x => some (Value.int x)) (nI_succ j).symm, trivial⟩
        · refine Bd_iconst (v := 0) (pc := 55) dX5_nameIs_55 (by decide) ?_
          refine Bd_zret (pc := 56) dX5_nameIs_56 rfl rfl ?_
          exact PD_i (by rw [nmB, decide_eq_false (fun z : M 1 3 = 1 ∧ e = s + strL.getD i 0 ∧ ∀ j, j < strL.getD i 0 → M 2 (s + j) = chV i j => b52 (z.2.2 j hj))]; rfl) rfl
    · refine Bd_iconst (v := 0) (pc := 24) dX5_nameIs_24 (by decide) ?_
      refine Bd_zret (pc := 25) dX5_nameIs_25 rfl rfl ?_
      exact PD_i (by rw [nmB, decide_eq_false (fun z : M 1 3 = 1 ∧ e = s + strL.getD i 0 ∧ ∀ j, j < strL.getD i 0 → M 2 (s + j) = chV i j => b21 (by rw [hst, hnx, nI_sb hse]; congr 1; omega))]; rfl) rfl
set_option maxRecDepth 100000 in
set_option maxHeartbeats 4000000 in
theorem sem_X6_lineOfName {M : Mem} {s e : Nat} (hst : M 1 4 = nI s) (hnx : M 1 1 = nI e) (hse : s ≤ e) (he : e ≤ 320) : Sem mX6_lineOfName SH [.ref 1] M (PD SH (some (.int (lnI (nmB (M 2) s e (M 1 3)) 7 0))) M) := by
  refine Sem_of rfl (fun G => (Nat.le_of_ble_eq_true rfl)) (fun G => ?_)
  refine Bd_iconst (v := 0) (pc := 0) dX6_lineOfName_0 (by decide) ?_
  refine Bd_istore_1 (pc := 1) dX6_lineOfName_1 (Nat.le_of_ble_eq_true rfl) rfl ?_
  refine Bd_nx (L' := (fun i => [some (.ref 1), some (.int (nI i))]) 0) ?_ (by repeat (first | exact True.intro | refine And.intro rfl ?_))
  refine Bd_for (pc := 2) (c := 7) (fun i => [some (.ref 1), some (.int (nI i))]) (fun _ => M) (fun i => lnI (nmB (M 2) s e (M 1 3)) 7 0 = lnI (nmB (M 2) s e (M 1 3)) (7 - i) i) (fun ivi => ?_) (fun i hi ivi ihi => ?_) rfl
  · refine Bd_iload_1 (pc := 2) dX6_lineOfName_2 ?_
    refine Bd_bipush (v := 7) (pc := 3) dX6_lineOfName_3 (by decide) ?_
    refine Bd_icmp_ge (t := 27) (pc := 5) dX6_lineOfName_5 (by decide) (fun b5 => ?_) (fun b5 => (show False from lf_x (show (7 : Int32) = nI 7 from rfl) b5).elim)
    refine Bd_bipush (v := -4) (pc := 27) dX6_lineOfName_27 (by decide) ?_
    refine Bd_iret (pc := 29) dX6_lineOfName_29 rfl ?_
    exact PD_i (by rw [ivi]; rfl) rfl
  · refine Bd_iload_1 (pc := 2) dX6_lineOfName_2 ?_
    refine Bd_bipush (v := 7) (pc := 3) dX6_lineOfName_3 (by decide) ?_
    refine Bd_icmp_ge (t := 27) (pc := 5) dX6_lineOfName_5 (by decide) (fun b5 => (show False from lf_s (show (7 : Int32) = nI 7 from rfl) (by omega) hi b5).elim) (fun b5 => ?_)
    refine Bd_aload_0 (pc := 8) dX6_lineOfName_8 ?_
    refine Bd_iload_1 (pc := 9) dX6_lineOfName_9 ?_
    refine Bd_callS1a (cd := mX6_nameOf) (pc := 10) dX6_lineOfName_10 k_337 v_X6_nameOf ⟨(Nat.le_of_ble_eq_true rfl), (Nat.le_of_ble_eq_true rfl)⟩ (sem_X6_nameOf hi) (Nat.le_of_ble_eq_true rfl) ?_
    refine Bd_callV1i (cd := mX5_nameIs) (pc := 13) dX6_lineOfName_13 k_347 v_X5_nameIs ⟨(Nat.le_of_ble_eq_true rfl), (Nat.le_of_ble_eq_true rfl)⟩ rfl rfl (sem_X5_nameIs hi hst hnx hse he) (Nat.le_of_ble_eq_true rfl) ?_
    refine Bd_if_eq (t := 21) (pc := 16) dX6_lineOfName_16 (by decide) (fun b16 => ?_) (fun b16 => ?_)
    · refine Bd_iinc_1 (pc := 21) dX6_lineOfName_21 (show _ + Int32.ofInt 1 = _ + 1 from rfl) (Nat.le_of_ble_eq_true rfl) rfl ?_
      refine Bd_goto (t := 2) (pc := 24) dX6_lineOfName_24 (by decide) ?_
      exact Bd_nx (ihi (by rw [ivi, show 7 - i = (7 - (i + 1)) + 1 by omega]; show (if _ then _ else _) = _; rw [if_neg (fun z => by rw [if_pos z] at b16; exact absurd b16 (by decide))])) ⟨rfl, congrArg (fun x => some (Value.int x)) (nI_succ i).symm, trivial⟩
    · refine Bd_iload_1 (pc := 19) dX6_lineOfName_19 ?_
      refine Bd_iret (pc := 20) dX6_lineOfName_20 rfl ?_
      exact PD_i (by rw [ivi, show 7 - i = (6 - i) + 1 by omega]; unfold lnI; rw [if_pos (Decidable.byContradiction fun z => b16 (if_neg z))]) rfl
