/-! 94: the law: the judgement of its loop (the first rows are the skeleton's) -/
def R_law : String := "ChurchOrganLaw"
def lw_P (b : Addr) (xs : List Int32) (args : Array Value) (s : State) : Prop := args = #[.ref b] ∧ s.IntsAt b xs ∧ xs.length ≤ 2560 ∧ (Jvm.Cond.and given_1 narrow_1).before args s = true
def lw_Q (_ : Array Value) (s : State) (o : Outcome) (t : State) : Prop := o = .returned (some (.int 1)) ∧ Framed s o t [] 600000 7302250
def lw_Z (below : List Frame) (a : Array Value) (s : State) : State → Prop := fun t => ∃ o, t.status = .running ∧ Ended t below o ∧ lw_Q a s o t
/-- the law's own end, with 1 on the stack, nothing written that was there before, its room as the claim has it -/
theorem lw_ret {p : Program} {l : Launch} {e : Env} {s : State} {m : MethodId} {below : List Frame} {meth : Method} {c : Code} {b : Nat} (hx : p.tables.exec = Jvm.exec) (hb : c.code = code) (hr : meth.sig.returnType = ret) (hlocks : meth.locks = false) {pc : Nat} {H : Heap} {ls : Array Slot} (hdg : decode code pc = .ok (.ireturn, 1)) : W p l e room_1 s m #[Value.ref b] below meth c H [] 600000 7302250 (lw_Z below #[Value.ref b] s) (F0 m pc ls [.int 1]) := by
  intro T hT X
  obtain ⟨fs, hret, hrun, hended, hW, hframe⟩ := X.leave (v := some (.int 1)) (hlocks := hlocks) (fun h => by rw [hr] at h; cases h)
  have hmeth' : T.vm.method? m = some meth := X.method'
  refine ⟨T.setFrames fs, ?_, .returned (some (.int 1)), hrun, hended, rfl, ⟨_, rfl⟩, hW, hframe⟩
  jvm_step X.here [X.here.top, hx, hb, hdg, hmeth', hr, ret, narrow_b1]
  (try refine ⟨rfl, ?_⟩); (try refine ⟨rfl, ?_⟩)
  first | (intro acts; rw [hret _ acts rfl rfl rfl]) | rw [hret _ _ rfl rfl rfl]
  exact Steps.refl _
/-- what holds at the law's entry: the machine, the code, the tables' words (any of lw_tbl by 'hts w (by decide +kernel)'), the script of L ints xs at the cell b, what the Statement gives of the start (any of its parts by flat_of_before) -/
def lw_At (p : Program) (s : State) (m : MethodId) (meth : Method) (c : Code) (b L : Nat) (xs : Nat → Int32) : Prop :=
  p.tables.exec = Jvm.exec ∧ c.code = code ∧ meth.sig.returnType = ret ∧ c.maxLocals = 4 ∧ s.vm.findClass R_law = some m.cls ∧ (∀ w ∈ lw_tbl, w.before #[Value.ref b] s = true) ∧ va_X b L xs s s.heap ∧ b < s.heap.size ∧ meth.locks = false ∧ (Jvm.Cond.and given_1 narrow_1).before #[Value.ref b] s = true
abbrev mL : MD := (x, code, 4, ret, room_1)
def KC : Nat := 79
def KS : Nat := 2356
theorem KC_le : KC ≤ 600000 := Nat.le_of_ble_eq_true rfl
theorem KS_le : KS ≤ 7302250 := Nat.le_of_ble_eq_true rfl
def LF (p : Program) (s : State) (m : MethodId) (meth : Method) (c : Code) (b LL : Nat) (xs : Nat → Int32) (G : GD) : Prop := CallFix p m c code 4 s #[Value.ref b] TB R_law ∧ meth.sig.returnType = ret ∧ meth.locks = false ∧ va_X b LL xs s s.heap ∧ b < s.heap.size ∧ G.2.1 140 = b ∧ ∀ k, k < NC → s.heap.size ≤ G.2.1 k
def Bl (b LL : Nat) (xs : Nat → Int32) (G : GD) (sh : List Ds) (pc : Nat) (L : List (Option Value)) (st : List Value) (M : Mem) : Prop :=
  ∀ (p : Program) (l : Launch) (e : Env) (s : State) (m : MethodId) (below : List Frame) (meth : Method) (c : Code) (H : Heap) (locs : List Loc) (ls : Array Slot),
    LF p s m meth c b LL xs G → St G s → LH G ls 4 L → va_P G.1 vwCl (wl G sh M) H → va_D (gA G) (wl G sh M) → va_S (gA G) s.heap H locs →
    W p l e room_1 s m #[Value.ref b] below meth c H locs KC KS (lw_Z below #[Value.ref b] s) (F0 m pc ls (st.map (cv G)))
section BL
variable {b LL : Nat} {xs : Nat → Int32} {G : GD} {sh : List Ds} {pc : Nat} {L : List (Option Value)} {st : List Value} {M : Mem}
theorem Bl_iconst {n : Int} {v : Int32} (hd : decode code pc = .ok (.iconst n, 1)) (hv : Int32.ofInt n = v) (k : Bl b LL xs G sh (pc + 1) L (.int v :: st) M) : Bl b LL xs G sh pc L (st) M := fun p l e s m be me c H lo ls F S hl P D Z => lv_iconst F.1.1 F.1.2.1 hd hv (k p l e s m be me c H lo ls F S hl P D Z)
theorem Bl_bipush {n : Int} {v : Int32} (hd : decode code pc = .ok (.bipush n, 2)) (hv : (Int8.ofInt n).toInt32 = v) (k : Bl b LL xs G sh (pc + 2) L (.int v :: st) M) : Bl b LL xs G sh pc L (st) M := fun p l e s m be me c H lo ls F S hl P D Z => lv_bipush F.1.1 F.1.2.1 hd hv (k p l e s m be me c H lo ls F S hl P D Z)
theorem Bl_iadd {x y : Int32} (hd : decode code pc = .ok (.iadd, 1)) (k : Bl b LL xs G sh (pc + 1) L (.int (x + y) :: st) M) : Bl b LL xs G sh pc L (.int y :: .int x :: st) M := fun p l e s m be me c H lo ls F S hl P D Z => lv_iadd F.1.1 F.1.2.1 hd (k p l e s m be me c H lo ls F S hl P D Z)
theorem Bl_isub {x y : Int32} (hd : decode code pc = .ok (.isub, 1)) (k : Bl b LL xs G sh (pc + 1) L (.int (x - y) :: st) M) : Bl b LL xs G sh pc L (.int y :: .int x :: st) M := fun p l e s m be me c H lo ls F S hl P D Z => lv_isub F.1.1 F.1.2.1 hd (k p l e s m be me c H lo ls F S hl P D Z)
theorem Bl_iand {x y : Int32} (hd : decode code pc = .ok (.iand, 1)) (k : Bl b LL xs G sh (pc + 1) L (.int (x &&& y) :: st) M) : Bl b LL xs G sh pc L (.int y :: .int x :: st) M := fun p l e s m be me c H lo ls F S hl P D Z => lv_iand F.1.1 F.1.2.1 hd (k p l e s m be me c H lo ls F S hl P D Z)
theorem Bl_land {x y : Int64} (hd : decode code pc = .ok (.land, 1)) (k : Bl b LL xs G sh (pc + 1) L (.long (x &&& y) :: st) M) : Bl b LL xs G sh pc L (.long y :: .long x :: st) M := fun p l e s m be me c H lo ls F S hl P D Z => lv_land F.1.1 F.1.2.1 hd (k p l e s m be me c H lo ls F S hl P D Z)
theorem Bl_lor {x y : Int64} (hd : decode code pc = .ok (.lor, 1)) (k : Bl b LL xs G sh (pc + 1) L (.long (x ||| y) :: st) M) : Bl b LL xs G sh pc L (.long y :: .long x :: st) M := fun p l e s m be me c H lo ls F S hl P D Z => lv_lor F.1.1 F.1.2.1 hd (k p l e s m be me c H lo ls F S hl P D Z)
theorem Bl_lshl {x : Int64} {y : Int32} (hd : decode code pc = .ok (.lshl, 1)) (k : Bl b LL xs G sh (pc + 1) L (.long (x <<< (y.toInt64 &&& 63)) :: st) M) : Bl b LL xs G sh pc L (.int y :: .long x :: st) M := fun p l e s m be me c H lo ls F S hl P D Z => lv_lshl F.1.1 F.1.2.1 hd rfl (k p l e s m be me c H lo ls F S hl P D Z)
theorem Bl_i2l {x : Int32} (hd : decode code pc = .ok (.i2l, 1)) (k : Bl b LL xs G sh (pc + 1) L (.long x.toInt64 :: st) M) : Bl b LL xs G sh pc L (.int x :: st) M := fun p l e s m be me c H lo ls F S hl P D Z => lv_i2l F.1.1 F.1.2.1 hd rfl (k p l e s m be me c H lo ls F S hl P D Z)
theorem Bl_ldc2 {i : Nat} {v : Int64} (hk : Cond.constantLong R_law i v ∈ TB) (hd : decode code pc = .ok (.ldc2_w i, 3)) (k : Bl b LL xs G sh (pc + 3) L (.long v :: st) M) : Bl b LL xs G sh pc L st M := fun p l e s m be me c H lo ls F S hl P D Z => lv_ldc2 F.1.1 F.1.2.1 F.1.2.2.2.1 (F.1.2.2.2.2 _ hk) hd (k p l e s m be me c H lo ls F S hl P D Z)
theorem Bl_aload_0 {r0 : List (Option Value)} {x : Nat} (hd : decode code pc = .ok (.aload_n 0, 1)) (k : Bl b LL xs G sh (pc + 1) (some (.ref x) :: r0) (.ref x :: st) M) : Bl b LL xs G sh pc (some (.ref x) :: r0) st M := fun p l e s m be me c H lo ls F S hl P D Z => lv_aload_n F.1.1 F.1.2.1 hd rfl (hl.2.2 0 (.ref x) rfl) (k p l e s m be me c H lo ls F S hl P D Z)
theorem Bl_aload_1 {a0 : Option Value} {r0 : List (Option Value)} {x : Nat} (hd : decode code pc = .ok (.aload_n 1, 1)) (k : Bl b LL xs G sh (pc + 1) (a0 :: some (.ref x) :: r0) (.ref x :: st) M) : Bl b LL xs G sh pc (a0 :: some (.ref x) :: r0) st M := fun p l e s m be me c H lo ls F S hl P D Z => lv_aload_n F.1.1 F.1.2.1 hd rfl (hl.2.2 1 (.ref x) rfl) (k p l e s m be me c H lo ls F S hl P D Z)
theorem Bl_aload_2 {a0 a1 : Option Value} {r0 : List (Option Value)} {x : Nat} (hd : decode code pc = .ok (.aload_n 2, 1)) (k : Bl b LL xs G sh (pc + 1) (a0 :: a1 :: some (.ref x) :: r0) (.ref x :: st) M) : Bl b LL xs G sh pc (a0 :: a1 :: some (.ref x) :: r0) st M := fun p l e s m be me c H lo ls F S hl P D Z => lv_aload_n F.1.1 F.1.2.1 hd rfl (hl.2.2 2 (.ref x) rfl) (k p l e s m be me c H lo ls F S hl P D Z)
theorem Bl_iload_3 {a0 a1 a2 : Option Value} {r0 : List (Option Value)} {x : Int32} (hd : decode code pc = .ok (.iload_n 3, 1)) (k : Bl b LL xs G sh (pc + 1) (a0 :: a1 :: a2 :: some (.int x) :: r0) (.int x :: st) M) : Bl b LL xs G sh pc (a0 :: a1 :: a2 :: some (.int x) :: r0) st M := fun p l e s m be me c H lo ls F S hl P D Z => lv_iload_n F.1.1 F.1.2.1 hd rfl (hl.2.2 3 (.int x) rfl) (k p l e s m be me c H lo ls F S hl P D Z)
theorem Bl_iinc_3 {a0 a1 a2 : Option Value} {r0 : List (Option Value)} {x v : Int32} {o : Int} (hd : decode code pc = .ok (.iinc 3 o, 3)) (hv : x + Int32.ofInt o = v) (ho : okb (a0 :: a1 :: a2 :: some (.int x) :: r0) 3 = true) (k : Bl b LL xs G sh (pc + 3) (a0 :: a1 :: a2 :: some (.int v) :: r0) st M) : Bl b LL xs G sh pc (a0 :: a1 :: a2 :: some (.int x) :: r0) st M := fun p l e s m be me c H lo ls F S hl P D Z => by
  obtain ⟨j, hj⟩ := List.getElem?_of_mem (lvl_mem (q := (3, Value.int x)).mpr ⟨.int x, rfl, rfl⟩ : (3, Value.int x) ∈ lvl G (a0 :: a1 :: a2 :: some (.int x) :: r0))
  exact lv_iinc F.1.1 F.1.2.1 hd hl.has hj hv (by decide) rfl (fun ls h => k p l e s m be me c H lo ls F S (LH.st (v := .int v) ho h) P D Z)
theorem Bl_goto {o : Int} {t : Nat} (hd : decode code pc = .ok (.goto o, 3)) (ht : (pc : Int) + o = (t : Int)) (k : Bl b LL xs G sh t L st M) : Bl b LL xs G sh pc L st M := fun p l e s m be me c H lo ls F S hl P D Z => lv_goto F.1.1 F.1.2.1 hd ht (k p l e s m be me c H lo ls F S hl P D Z)
theorem Bl_icmp_gt {x y : Int32} {o : Int} {t : Nat} (hd : decode code pc = .ok (.if_icmp .gt o, 3)) (ht : (pc : Int) + o = (t : Int)) (kt : y < x → Bl b LL xs G sh t L st M) (kf : ¬ y < x → Bl b LL xs G sh (pc + 3) L st M) : Bl b LL xs G sh pc L (.int y :: .int x :: st) M := fun p l e s m be me c H lo ls F S hl P D Z => lv_icmp_gt F.1.1 F.1.2.1 hd ht (fun z => kt z p l e s m be me c H lo ls F S hl P D Z) (fun z => kf z p l e s m be me c H lo ls F S hl P D Z)
theorem Bl_icmp_eq {x y : Int32} {o : Int} {t : Nat} (hd : decode code pc = .ok (.if_icmp .eq o, 3)) (ht : (pc : Int) + o = (t : Int)) (kt : x = y → Bl b LL xs G sh t L st M) (kf : ¬ x = y → Bl b LL xs G sh (pc + 3) L st M) : Bl b LL xs G sh pc L (.int y :: .int x :: st) M := fun p l e s m be me c H lo ls F S hl P D Z => lv_icmp_eq F.1.1 F.1.2.1 hd ht (fun z => kt z p l e s m be me c H lo ls F S hl P D Z) (fun z => kf z p l e s m be me c H lo ls F S hl P D Z)
theorem Bl_if_eq {x : Int32} {o : Int} {t : Nat} (hd : decode code pc = .ok (.ifCond .eq o, 3)) (ht : (pc : Int) + o = (t : Int)) (kt : x = 0 → Bl b LL xs G sh t L st M) (kf : ¬ x = 0 → Bl b LL xs G sh (pc + 3) L st M) : Bl b LL xs G sh pc L (.int x :: st) M := fun p l e s m be me c H lo ls F S hl P D Z => lv_if_eq F.1.1 F.1.2.1 hd ht (fun z => kt z p l e s m be me c H lo ls F S hl P D Z) (fun z => kf z p l e s m be me c H lo ls F S hl P D Z)
theorem Bl_swOut {x : Int32} {t : Nat} {df lo hi : Int} {of : Array Int} {n : Nat} (hd : decode code pc = .ok (.tableswitch df lo hi of, n)) (h : x.toInt < lo ∨ hi < x.toInt) (ht : (pc : Int) + df = (t : Int)) (k : Bl b LL xs G sh t L st M) : Bl b LL xs G sh pc L (.int x :: st) M := fun p l e s m be me c H lo2 ls F S hl P D Z => lv_tableOut F.1.1 F.1.2.1 hd h ht (k p l e s m be me c H lo2 ls F S hl P D Z)
theorem Bl_swIn {x : Int32} {t : Nat} {df lo hi : Int} {of : Array Int} {n : Nat} {o : Int} (hd : decode code pc = .ok (.tableswitch df lo hi of, n)) (h1 : ¬ x.toInt < lo) (h2 : ¬ hi < x.toInt) (ho : of[(x.toInt - lo).toNat]? = some o) (ht : (pc : Int) + o = (t : Int)) (k : Bl b LL xs G sh t L st M) : Bl b LL xs G sh pc L (.int x :: st) M := fun p l e s m be me c H lo2 ls F S hl P D Z => lv_tableIn F.1.1 F.1.2.1 hd h1 h2 ho ht (k p l e s m be me c H lo2 ls F S hl P D Z)
theorem LF.nA {p : Program} {s : State} {m : MethodId} {me : Method} {c : Code} (F : LF p s m me c b LL xs G) : ¬ gA G b := fun ⟨k, hk, e⟩ => by
  have h1 := F.2.2.2.2.2.2 k hk
  have h2 := F.2.2.2.2.1
  omega
theorem Bl_sld {i : Int32} {j : Nat} (hd : decode code pc = .ok (.iaload, 1)) (hin : vp_in i LL) (hj : i.toNatClampNeg = j) (k : Bl b LL xs G sh (pc + 1) L (.int (xs j) :: st) M) : Bl b LL xs G sh pc L (.int i :: .ref 140 :: st) M := fun p l e s m be me c H lo ls F S hl P D Z => by
  subst hj
  show W _ _ _ _ _ _ _ _ _ _ _ _ _ _ _ (F0 m pc ls (.int i :: .ref (G.2.1 140) :: st.map (cv G)))
  rw [F.2.2.2.2.2.1]
  exact va_sld F.1.1 F.1.2.1 F.2.2.2.1 F.2.2.2.2.1 F.nA Z hin hd (k p l e s m be me c H lo ls F S hl P D Z)
theorem Bl_slen (hd : decode code pc = .ok (.arraylength, 1)) (k : Bl b LL xs G sh (pc + 1) L (.int (nI LL) :: st) M) : Bl b LL xs G sh pc L (.ref 140 :: st) M := fun p l e s m be me c H lo ls F S hl P D Z => by
  show W _ _ _ _ _ _ _ _ _ _ _ _ _ _ _ (F0 m pc ls (.ref (G.2.1 140) :: st.map (cv G)))
  rw [F.2.2.2.2.2.1]
  exact va_slen F.1.1 F.1.2.1 F.2.2.2.1 F.2.2.2.2.1 F.nA Z hd (k p l e s m be me c H lo ls F S hl P D Z)
theorem Bl_end (h1 : decode code pc = .ok (.iconst 1, 1)) (h2 : decode code (pc + 1) = .ok (.ireturn, 1)) : Bl b LL xs G sh pc L [] M := fun p l e s m be me c H lo ls F S hl P D Z => lv_iconst F.1.1 F.1.2.1 h1 (v := 1) rfl (va_forget (fun q hq => by obtain ⟨k, hk, e⟩ := Z.2.2 q hq; rw [e]; exact F.2.2.2.2.2.2 k hk) (W.widen KC_le KS_le (lw_ret F.1.1 F.1.2.1 F.2.1 F.2.2.1 h2)))
theorem Bl_after {p : Program} {l : Launch} {e : Env} {s : State} {m : MethodId} {be : List Frame} {me : Method} {c : Code} {H : Heap} {lo : List Loc} {ls : Array Slot} {st0 : List Value} {aa : Array Value} {R2 : Rv} (F : LF p s m me c b LL xs G) (S : St G s) (hl : LH G ls 4 L) (Z : va_S (gA G) s.heap H lo)
    (hr : va_Run p l e room_1 s m #[Value.ref b] be me c H lo KC KS 0 0 (F0 m pc ls st0) (st.map (cv G)) (QR G R2 aa) (gA G)) (k : ∀ (v : Option Value) (sh' : List Ds) (M' : Mem), R2 v sh' M' → Bl b LL xs G sh' (pc + 3) L (v.toList ++ st) M') :
    W p l e room_1 s m #[Value.ref b] be me c H lo KC KS (lw_Z be #[Value.ref b] s) (F0 m pc ls st0) := by
  intro T hT X
  obtain ⟨v, st₀, t, T', LL2, h0, X', hL, e1, e2, ⟨⟨v', sh', M', hv, hR2, hP1, hD1, hS1⟩, hz, hk⟩, stp⟩ := hr T hT X
  cases hv
  rw [h0] at hz hk
  have Z1 : va_S (gA G) s.heap T'.heap (lo ++ LL2) := ⟨Nat.le_trans Z.1 (by rw [e1]; exact hz), fun q h1 h2 => by rw [e1, hk q (Nat.lt_of_lt_of_le h1 Z.1) h2]; exact Z.2.1 q h1 h2, fun q hq => by
    rcases List.mem_append.mp hq with h | h
    · exact Z.2.2 q h
    · exact hL q h⟩
  obtain ⟨t2, a1, b1⟩ := k v' sh' M' hR2 p l e s m be me c T'.heap (lo ++ LL2) ls F S hl (by rw [e1]; exact hP1) hD1 Z1 T' rfl X'
  refine ⟨t2, stp t2 ?_, b1⟩
  have : (v'.map (cv G)).toList ++ st.map (cv G) = (v'.toList ++ st).map (cv G) := by cases v' <;> rfl
  rw [this]
  exact a1
theorem Bl_call0 {cd : MD} {q ci i : Nat} {fs : List (Option Nat)} {R2 : Rv} (hd : decode code pc = .ok (.invokevirtual i, 3)) (hk : Cond.methodLink R_law i cd.1 ∈ TB) (mv : MV cd 0) (rm : Rm mL cd) (hs : sh[q]? = some (.inr (.inr (ci, fs)))) (hc : (vwCl[ci]?).map (fun q => q.1) = some cd.1.cls) (hM : Sem cd sh [.ref q] M R2) (hw : ((st.map (cv G)).map fun v => v.category).sum ≤ 8) (k : ∀ (v : Option Value) (sh' : List Ds) (M' : Mem), R2 v sh' M' → Bl b LL xs G sh' (pc + 3) L (v.toList ++ st) M') : Bl b LL xs G sh pc L (.ref q :: st) M := fun p l e s m be me c H lo ls F S hl P D Z => by
  obtain ⟨m1, m2, m3, m4, ⟨n1, n2, n3⟩, m5, m6⟩ := mv
  obtain ⟨cc, hcc, hcn⟩ := Option.map_eq_some_iff.mp hc
  have hcb := callB_of (R := room_1) (own := R_law) (index := i) (rm := cd.2.2.2.2) (mc := 0) (ms := 0) 0 F.1.2.2.2.2 (TBc m4) rfl m5 m6 (F.1.2.2.2.2 _ m3) (F.1.2.2.2.2 _ hk) ⟨n1, n2, n3⟩ rm
  refine Bl_after F S hl Z (va_runV (As := []) (rest := st.map (cv G)) (b := G.2.1 q) (C := cd.1.cls) F.1 (hM l G) ⟨hcb, F.1.2.2.2.2 _ m1, F.1.2.2.2.2 _ m2⟩ ⟨fun a U g mk h => ⟨h.1, h.2.blind⟩, ?_, fun U hU hW => ⟨rfl, WT_of S P D Z hU hW⟩⟩ rfl rfl hl.1 rfl (lv_room hw) hd ⟨KC_le, KS_le⟩) k
  rw [← hcn]
  exact va_recv S.1 P hcc (wl_at hs)
theorem Bl_call1 {cd : MD} {q ci i : Nat} {x1 : Value} {fs : List (Option Nat)} {R2 : Rv} (hd : decode code pc = .ok (.invokevirtual i, 3)) (hk : Cond.methodLink R_law i cd.1 ∈ TB) (mv : MV cd 1) (rm : Rm mL cd) (hs : sh[q]? = some (.inr (.inr (ci, fs)))) (hc : (vwCl[ci]?).map (fun q => q.1) = some cd.1.cls) (hM : Sem cd sh [.ref q, x1] M R2) (hw : ((st.map (cv G)).map fun v => v.category).sum ≤ 8) (k : ∀ (v : Option Value) (sh' : List Ds) (M' : Mem), R2 v sh' M' → Bl b LL xs G sh' (pc + 3) L (v.toList ++ st) M') : Bl b LL xs G sh pc L (x1 :: .ref q :: st) M := fun p l e s m be me c H lo ls F S hl P D Z => by
  obtain ⟨m1, m2, m3, m4, ⟨n1, n2, n3⟩, m5, m6⟩ := mv
  obtain ⟨cc, hcc, hcn⟩ := Option.map_eq_some_iff.mp hc
  have hcb := callB_of (R := room_1) (own := R_law) (index := i) (rm := cd.2.2.2.2) (mc := 0) (ms := 0) 1 F.1.2.2.2.2 (TBc m4) rfl m5 m6 (F.1.2.2.2.2 _ m3) (F.1.2.2.2.2 _ hk) ⟨n1, n2, n3⟩ rm
  refine Bl_after F S hl Z (va_runV (As := [cv G x1]) (rest := st.map (cv G)) (b := G.2.1 q) (C := cd.1.cls) F.1 (hM l G) ⟨hcb, F.1.2.2.2.2 _ m1, F.1.2.2.2.2 _ m2⟩ ⟨fun a U g mk h => ⟨h.1, h.2.blind⟩, ?_, fun U hU hW => ⟨rfl, WT_of S P D Z hU hW⟩⟩ rfl rfl hl.1 rfl (lv_room hw) hd ⟨KC_le, KS_le⟩) k
  rw [← hcn]
  exact va_recv S.1 P hcc (wl_at hs)
theorem Bl_call2 {cd : MD} {q ci i : Nat} {x1 x2 : Value} {fs : List (Option Nat)} {R2 : Rv} (hd : decode code pc = .ok (.invokevirtual i, 3)) (hk : Cond.methodLink R_law i cd.1 ∈ TB) (mv : MV cd 2) (rm : Rm mL cd) (hs : sh[q]? = some (.inr (.inr (ci, fs)))) (hc : (vwCl[ci]?).map (fun q => q.1) = some cd.1.cls) (hM : Sem cd sh [.ref q, x1, x2] M R2) (hw : ((st.map (cv G)).map fun v => v.category).sum ≤ 8) (k : ∀ (v : Option Value) (sh' : List Ds) (M' : Mem), R2 v sh' M' → Bl b LL xs G sh' (pc + 3) L (v.toList ++ st) M') : Bl b LL xs G sh pc L (x2 :: x1 :: .ref q :: st) M := fun p l e s m be me c H lo ls F S hl P D Z => by
  obtain ⟨m1, m2, m3, m4, ⟨n1, n2, n3⟩, m5, m6⟩ := mv
  obtain ⟨cc, hcc, hcn⟩ := Option.map_eq_some_iff.mp hc
  have hcb := callB_of (R := room_1) (own := R_law) (index := i) (rm := cd.2.2.2.2) (mc := 0) (ms := 0) 2 F.1.2.2.2.2 (TBc m4) rfl m5 m6 (F.1.2.2.2.2 _ m3) (F.1.2.2.2.2 _ hk) ⟨n1, n2, n3⟩ rm
  refine Bl_after F S hl Z (va_runV (As := [cv G x1, cv G x2]) (rest := st.map (cv G)) (b := G.2.1 q) (C := cd.1.cls) F.1 (hM l G) ⟨hcb, F.1.2.2.2.2 _ m1, F.1.2.2.2.2 _ m2⟩ ⟨fun a U g mk h => ⟨h.1, h.2.blind⟩, ?_, fun U hU hW => ⟨rfl, WT_of S P D Z hU hW⟩⟩ rfl rfl hl.1 rfl (lv_room hw) hd ⟨KC_le, KS_le⟩) k
  rw [← hcn]
  exact va_recv S.1 P hcc (wl_at hs)
theorem Bl_call3 {cd : MD} {q ci i : Nat} {x1 x2 x3 : Value} {fs : List (Option Nat)} {R2 : Rv} (hd : decode code pc = .ok (.invokevirtual i, 3)) (hk : Cond.methodLink R_law i cd.1 ∈ TB) (mv : MV cd 3) (rm : Rm mL cd) (hs : sh[q]? = some (.inr (.inr (ci, fs)))) (hc : (vwCl[ci]?).map (fun q => q.1) = some cd.1.cls) (hM : Sem cd sh [.ref q, x1, x2, x3] M R2) (hw : ((st.map (cv G)).map fun v => v.category).sum ≤ 8) (k : ∀ (v : Option Value) (sh' : List Ds) (M' : Mem), R2 v sh' M' → Bl b LL xs G sh' (pc + 3) L (v.toList ++ st) M') : Bl b LL xs G sh pc L (x3 :: x2 :: x1 :: .ref q :: st) M := fun p l e s m be me c H lo ls F S hl P D Z => by
  obtain ⟨m1, m2, m3, m4, ⟨n1, n2, n3⟩, m5, m6⟩ := mv
  obtain ⟨cc, hcc, hcn⟩ := Option.map_eq_some_iff.mp hc
  have hcb := callB_of (R := room_1) (own := R_law) (index := i) (rm := cd.2.2.2.2) (mc := 0) (ms := 0) 3 F.1.2.2.2.2 (TBc m4) rfl m5 m6 (F.1.2.2.2.2 _ m3) (F.1.2.2.2.2 _ hk) ⟨n1, n2, n3⟩ rm
  refine Bl_after F S hl Z (va_runV (As := [cv G x1, cv G x2, cv G x3]) (rest := st.map (cv G)) (b := G.2.1 q) (C := cd.1.cls) F.1 (hM l G) ⟨hcb, F.1.2.2.2.2 _ m1, F.1.2.2.2.2 _ m2⟩ ⟨fun a U g mk h => ⟨h.1, h.2.blind⟩, ?_, fun U hU hW => ⟨rfl, WT_of S P D Z hU hW⟩⟩ rfl rfl hl.1 rfl (lv_room hw) hd ⟨KC_le, KS_le⟩) k
  rw [← hcn]
  exact va_recv S.1 P hcc (wl_at hs)
theorem Bl_call4 {cd : MD} {q ci i : Nat} {x1 x2 x3 x4 : Value} {fs : List (Option Nat)} {R2 : Rv} (hd : decode code pc = .ok (.invokevirtual i, 3)) (hk : Cond.methodLink R_law i cd.1 ∈ TB) (mv : MV cd 4) (rm : Rm mL cd) (hs : sh[q]? = some (.inr (.inr (ci, fs)))) (hc : (vwCl[ci]?).map (fun q => q.1) = some cd.1.cls) (hM : Sem cd sh [.ref q, x1, x2, x3, x4] M R2) (hw : ((st.map (cv G)).map fun v => v.category).sum ≤ 8) (k : ∀ (v : Option Value) (sh' : List Ds) (M' : Mem), R2 v sh' M' → Bl b LL xs G sh' (pc + 3) L (v.toList ++ st) M') : Bl b LL xs G sh pc L (x4 :: x3 :: x2 :: x1 :: .ref q :: st) M := fun p l e s m be me c H lo ls F S hl P D Z => by
  obtain ⟨m1, m2, m3, m4, ⟨n1, n2, n3⟩, m5, m6⟩ := mv
  obtain ⟨cc, hcc, hcn⟩ := Option.map_eq_some_iff.mp hc
  have hcb := callB_of (R := room_1) (own := R_law) (index := i) (rm := cd.2.2.2.2) (mc := 0) (ms := 0) 4 F.1.2.2.2.2 (TBc m4) rfl m5 m6 (F.1.2.2.2.2 _ m3) (F.1.2.2.2.2 _ hk) ⟨n1, n2, n3⟩ rm
  refine Bl_after F S hl Z (va_runV (As := [cv G x1, cv G x2, cv G x3, cv G x4]) (rest := st.map (cv G)) (b := G.2.1 q) (C := cd.1.cls) F.1 (hM l G) ⟨hcb, F.1.2.2.2.2 _ m1, F.1.2.2.2.2 _ m2⟩ ⟨fun a U g mk h => ⟨h.1, h.2.blind⟩, ?_, fun U hU hW => ⟨rfl, WT_of S P D Z hU hW⟩⟩ rfl rfl hl.1 rfl (lv_room hw) hd ⟨KC_le, KS_le⟩) k
  rw [← hcn]
  exact va_recv S.1 P hcc (wl_at hs)
theorem Bl_nx {L' : List (Option Value)} (k : Bl b LL xs G sh pc L' st M) (h : wkP L' L) : Bl b LL xs G sh pc L st M := fun p l e s m be me c H lo ls F S hl P D Z => k p l e s m be me c H lo ls F S ⟨hl.1, hl.2.1, fun i v hi => hl.2.2 i v (wkP_at L' L h i v hi)⟩ P D Z
/-- told and draft have changed places -/
theorem Bl_sw {i : Int32} {r : Int32} {N : Mem} (k : Bl b LL xs (swG G) SH pc [some (.ref 140), some (.ref 0), some (.ref 58), some (.int i)] [.int r] (swM N)) : Bl b LL xs G SHs pc [some (.ref 140), some (.ref 0), some (.ref 58), some (.int i)] [.int r] N := fun p l e s m be me c H lo ls F S hl P D Z => by
  have hg : ∀ (k : Nat) (q : Nat × va_E), (wl (swG G) SH (swM N))[k]? = some q → (wl G SHs N)[pi7 k]? = some q := by
    intro k q hk
    cases hs : SH[k]? with
    | none => simp [wl, List.getElem?_mapIdx, hs] at hk
    | some d =>
      rw [wl_at hs] at hk
      have h2 := SHs_at k (SH_at79 hs)
      rw [hs] at h2
      rw [wl_at (show SHs[pi7 k]? = some (rnm d) from h2), ← hk, ent_rn]
      rfl
  have hcv : ∀ v : Value, v = .ref 140 ∨ v = .ref 0 ∨ v = .ref 58 ∨ v = .int i → cv (swG G) v = cv G v := by
    rintro v (rfl | rfl | rfl | rfl) <;> rfl
  refine k p l e s m be me c H lo ls ⟨F.1, F.2.1, F.2.2.1, F.2.2.2.1, F.2.2.2.2.1, F.2.2.2.2.2.1, fun k hk => F.2.2.2.2.2.2 (pi7 k) (pi7_lt hk)⟩ ⟨S.1, S.2.1, by rw [gA_sw]; exact Cs_sw S.2.2⟩ ⟨hl.1, hl.2.1, fun j v hj => ?_⟩ (P.by pi7 hg) (by rw [gA_sw]; exact D.by pi7 hg (fun i j _ _ e => by rw [← pi7_2 i, e, pi7_2])) (by rw [gA_sw]; exact Z)
  rw [hcv v ?_]
  · exact hl.2.2 j v hj
  · match j, hj with
    | 0, hj => left; simpa using hj.symm
    | 1, hj => right; left; simpa using hj.symm
    | 2, hj => right; right; left; simpa using hj.symm
    | 3, hj => right; right; right; simpa using hj.symm
    | j + 4, hj => simp at hj
end BL
