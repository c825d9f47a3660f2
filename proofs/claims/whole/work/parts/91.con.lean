/-! 91: constructors: a walk over a world that grows -/
def tyc (ca : Nat → ClassId) : List (ClassId × FieldType) := [(ca 0, .int), (ca 1, .byte), (ca 2, .boolean), (ca 3, .object RX2), (ca 4, .object RX4)]
def nestL : List (String × Nat × MethodName) := [(RX7, 9, yX5_init), (RX7, 18, yX6_init), (RX7, 25, yX0_init), (RX7, 32, yX1_init), (RX7, 66, yX2_init), (RX2, 20, yX0_init), (RX7, 67, yX4_init)]
def NW (U : State) : Prop := ∀ q ∈ nestL, va_Nw (.methodLinkNest q.1 q.2.1 q.2.2 "ChurchOrgan") U
def SK (D : va_G) (ca : Nat → ClassId) (U : State) : Prop := va_K D vwCl (tyc ca) U ∧ va_AO RX2 U ∧ va_AO RX4 U ∧ NW U
theorem SK.mv {D : va_G} {ca : Nat → ClassId} {s t : State} (h : SK D ca s) (hW : s.WarmedH t.vm) : SK D ca t := ⟨h.1.moved hW.alike, va_AO.moved hW.alike h.2.1, va_AO.moved hW.alike h.2.2.1, fun q hq => (h.2.2.2 q hq).warmM hW⟩
theorem SK.blind {D : va_G} {ca : Nat → ClassId} {U : State} {g : JFrame} {mk : MethodId} {a : Array Value} (h : SK D ca U) : SK D ca (U.calling g mk a) := ⟨h.1.moved (u := U) (U := U.calling g mk a) (Vm.Alike.refl U.vm), va_AO.moved (u := U) (U := U.calling g mk a) (Vm.Alike.refl U.vm) h.2.1, va_AO.moved (u := U) (U := U.calling g mk a) (Vm.Alike.refl U.vm) h.2.2.1, fun q hq => va_Nw.same (u := U) (U := U.calling g mk a) rfl rfl (h.2.2.2 q hq)⟩
def QC (D : va_G) (ca : Nat → ClassId) (A : Nat → Prop) (R : va_W → Prop) : Array Value → State → Outcome → State → Prop := fun _ st oc t => (∃ ws : va_W, oc = .returned none ∧ R ws ∧ va_P D vwCl ws t.heap ∧ va_D A ws ∧ SK D ca t) ∧ va_F A st t
def Semc (d : MD) (D : va_G) (ca : Nat → ClassId) (h0 : Nat) (ws : va_W) (R : va_W → Prop) : Prop := ∀ (l : Launch) (A : Nat → Prop), Met l d.1 (Cond.code d.1 d.2.1 d.2.2.1 d.2.2.2.1 :: TB) d.2.2.2.2 (va_Pc [.ref h0] (fun U => va_P D vwCl ws U.heap ∧ va_D A ws ∧ SK D ca U ∧ ∀ q, U.heap.size ≤ q → A q)) (QC D ca A R) d.2.2.2.2.cells d.2.2.2.2.slots A
def GI : GD := ((fun _ => 0, fun _ _ => 0), id, fun _ => 0)
theorem cvI (v : Value) : cv GI v = v := by cases v <;> rfl
def Bc (d : MD) (D : va_G) (ca : Nat → ClassId) (A : Nat → Prop) (R : va_W → Prop) (wr l : va_W) (pc : Nat) (L : List (Option Value)) (st : List Value) (k n : Nat) : Prop :=
  ∀ (p : Program) (lx : Launch) (e : Env) (s : State) (m : MethodId) (args : Array Value) (below : List Frame) (meth : Method) (c : Code) (H : Heap) (locs : List Loc) (ls : Array Slot),
    CallFix p m c d.2.1 d.2.2.1 s args TB d.1.cls → meth.sig.returnType = d.2.2.2.1 → meth.locks = false → meth.name = d.1.name → SK D ca s → (∀ q, s.heap.size ≤ q → A q) → LH GI ls d.2.2.1 L → va_P D vwCl (wr ++ l) H → va_D A (wr ++ l) → va_S A s.heap H locs →
    W p lx e d.2.2.2.2 s m args below meth c H locs k n (MQ below (QC D ca A R) args s d.2.2.2.2.cells d.2.2.2.2.slots A) (F0 m pc ls st)
theorem pl {wr l : va_W} {i : Nat} {x : Nat × va_E} (h : l[i]? = some x) : (wr ++ l)[wr.length + i]? = some x := by
  rw [List.getElem?_append_right (Nat.le_add_right _ _), Nat.add_sub_cancel_left]; exact h
theorem ps {wr l : va_W} {i : Nat} {x : Nat × va_E} : (wr ++ l).set (wr.length + i) x = wr ++ l.set i x := by
  rw [List.set_append_right _ _ (Nat.le_add_right _ _), Nat.add_sub_cancel_left]
theorem Semc_of {d : MD} {D : va_G} {ca : Nat → ClassId} {h0 : Nat} {wr l : va_W} {R : va_W → Prop} (hy : plainName d.1.cls = true) (hn : 1 ≤ d.2.2.1) (h : ∀ A, Bc d D ca A R wr l 0 (some (.ref h0) :: List.replicate (d.2.2.1 - 1) none) [] 0 0) : Semc d D ca h0 (wr ++ l) R := by
  intro lx A
  refine Met.ofW (cc := d.2.1) (maxL := d.2.2.1) (ret := d.2.2.2.1) hy rfl ?_
  intro p e s m args below meth c s₁ B hml hv
  obtain ⟨rfl, hP, hD, hS, hA⟩ := hv
  have hts := atoms_spec (ws := Cond.code d.1 d.2.1 d.2.2.1 d.2.2.2.1 :: TB) B.pre
  have hl := lv_entry [Value.ref h0] (n := d.2.2.1) hn
  rw [lg_entry_eq]
  generalize (lg_sl [Value.ref h0] ++ List.replicate (d.2.2.1 - (lg_sl [Value.ref h0]).length) Slot.unset).toArray = ls at hl ⊢
  refine h A p lx e s m _ below meth c s.heap [] ls ⟨B.exec, B.bytes, hml, findClass_of_methodNamed B.named, fun w hw => hts w (List.mem_cons_of_mem _ hw)⟩ B.returns B.notSynchronized (name_of_methodNamed B.named B.method).1 hS hA ⟨hl.1, hl.2.1, ?_⟩ hP hD va_S.rf
  intro i v hi
  match i, hi with
  | 0, hi =>
    simp only [List.getElem?_cons_zero, Option.some.injEq] at hi
    rw [← hi, cvI]
    exact hl.2.2 (0, .ref h0) List.mem_cons_self
  | i + 1, hi =>
    have := List.mem_of_getElem? (show (List.replicate (d.2.2.1 - 1) (none : Option Value))[i]? = some (some v) from hi)
    simp [List.mem_replicate] at this
section BC
variable {d : MD} {D : va_G} {ca : Nat → ClassId} {A : Nat → Prop} {R : va_W → Prop} {wr l : va_W} {pc : Nat} {L : List (Option Value)} {st : List Value} {k n : Nat}
theorem Bc_cl {l' : va_W} (h : Bc d D ca A R wr l' pc L st k n) (e : l = l') : Bc d D ca A R wr l pc L st k n := e ▸ h
theorem Bc_iconst {x : Int} {v : Int32} (hd : decode d.2.1 pc = .ok (.iconst x, 1)) (hv : Int32.ofInt x = v) (kk : Bc d D ca A R wr l (pc + 1) L (.int v :: st) k n) : Bc d D ca A R wr l pc L st k n := fun p lx e s m a b me c H lo ls F r q N S hA hl P Dd Z => lv_iconst F.1 F.2.1 hd hv (kk p lx e s m a b me c H lo ls F r q N S hA hl P Dd Z)
theorem Bc_bipush {x : Int} {v : Int32} (hd : decode d.2.1 pc = .ok (.bipush x, 2)) (hv : (Int8.ofInt x).toInt32 = v) (kk : Bc d D ca A R wr l (pc + 2) L (.int v :: st) k n) : Bc d D ca A R wr l pc L st k n := fun p lx e s m a b me c H lo ls F r q N S hA hl P Dd Z => lv_bipush F.1 F.2.1 hd hv (kk p lx e s m a b me c H lo ls F r q N S hA hl P Dd Z)
theorem Bc_sipush {x : Int} {v : Int32} (hd : decode d.2.1 pc = .ok (.sipush x, 3)) (hv : (Int16.ofInt x).toInt32 = v) (kk : Bc d D ca A R wr l (pc + 3) L (.int v :: st) k n) : Bc d D ca A R wr l pc L st k n := fun p lx e s m a b me c H lo ls F r q N S hA hl P Dd Z => lv_sipush F.1 F.2.1 hd hv (kk p lx e s m a b me c H lo ls F r q N S hA hl P Dd Z)
theorem Bc_dup {v : Value} (hd : decode d.2.1 pc = .ok (.dup, 1)) (hv : v.category = 1) (kk : Bc d D ca A R wr l (pc + 1) L (v :: v :: st) k n) : Bc d D ca A R wr l pc L (v :: st) k n := fun p lx e s m a b me c H lo ls F r q N S hA hl P Dd Z => lv_dup F.1 F.2.1 hd hv (kk p lx e s m a b me c H lo ls F r q N S hA hl P Dd Z)
theorem Bc_goto {o : Int} {t : Nat} (hd : decode d.2.1 pc = .ok (.goto o, 3)) (ht : (pc : Int) + o = (t : Int)) (kk : Bc d D ca A R wr l t L st k n) : Bc d D ca A R wr l pc L st k n := fun p lx e s m a b me c H lo ls F r q N S hA hl P Dd Z => lv_goto F.1 F.2.1 hd ht (kk p lx e s m a b me c H lo ls F r q N S hA hl P Dd Z)
theorem Bc_icmp_ge {x y : Int32} {o : Int} {t : Nat} (hd : decode d.2.1 pc = .ok (.if_icmp .ge o, 3)) (ht : (pc : Int) + o = (t : Int)) (kt : y ≤ x → Bc d D ca A R wr l t L st k n) (kf : ¬ y ≤ x → Bc d D ca A R wr l (pc + 3) L st k n) : Bc d D ca A R wr l pc L (.int y :: .int x :: st) k n := fun p lx e s m a b me c H lo ls F r q N S hA hl P Dd Z => lv_icmp_ge F.1 F.2.1 hd ht (fun z => kt z p lx e s m a b me c H lo ls F r q N S hA hl P Dd Z) (fun z => kf z p lx e s m a b me c H lo ls F r q N S hA hl P Dd Z)
theorem Bc_aload_0 {r0 : List (Option Value)} {x : Nat} (hd : decode d.2.1 pc = .ok (.aload_n 0, 1)) (kk : Bc d D ca A R wr l (pc + 1) (some (.ref x) :: r0) (.ref x :: st) k n) : Bc d D ca A R wr l pc (some (.ref x) :: r0) st k n := fun p lx e s m a b me c H lo ls F r q N S hA hl P Dd Z => lv_aload_n F.1 F.2.1 hd rfl (hl.2.2 0 (.ref x) rfl) (kk p lx e s m a b me c H lo ls F r q N S hA hl P Dd Z)
theorem Bc_iload_1 {a0 : Option Value} {r0 : List (Option Value)} {x : Int32} (hd : decode d.2.1 pc = .ok (.iload_n 1, 1)) (kk : Bc d D ca A R wr l (pc + 1) (a0 :: some (.int x) :: r0) (.int x :: st) k n) : Bc d D ca A R wr l pc (a0 :: some (.int x) :: r0) st k n := fun p lx e s m a b me c H lo ls F r q N S hA hl P Dd Z => lv_iload_n F.1 F.2.1 hd rfl (hl.2.2 1 (.int x) rfl) (kk p lx e s m a b me c H lo ls F r q N S hA hl P Dd Z)
theorem Bc_istore_1 {a0 a1 : Option Value} {r0 : List (Option Value)} {x : Int32} (hd : decode d.2.1 pc = .ok (.istore_n 1, 1)) (hi : 1 < d.2.2.1) (ho : okb (a0 :: a1 :: r0) 1 = true) (kk : Bc d D ca A R wr l (pc + 1) (a0 :: some (.int x) :: r0) st k n) : Bc d D ca A R wr l pc (a0 :: a1 :: r0) (.int x :: st) k n := fun p lx e s m a b me c H lo ls F r q N S hA hl P Dd Z => lv_istore_n F.1 F.2.1 hd rfl hl.has hi rfl (fun ls h => kk p lx e s m a b me c H lo ls F r q N S hA (LH.st (v := .int x) ho h) P Dd Z)
theorem Bc_iinc_1 {a0 : Option Value} {r0 : List (Option Value)} {x v : Int32} {o : Int} (hd : decode d.2.1 pc = .ok (.iinc 1 o, 3)) (hv : x + Int32.ofInt o = v) (hi : 1 < d.2.2.1) (ho : okb (a0 :: some (.int x) :: r0) 1 = true) (kk : Bc d D ca A R wr l (pc + 3) (a0 :: some (.int v) :: r0) st k n) : Bc d D ca A R wr l pc (a0 :: some (.int x) :: r0) st k n := fun p lx e s m a b me c H lo ls F r q N S hA hl P Dd Z => by
  obtain ⟨j, hj⟩ := List.getElem?_of_mem (lvl_mem (q := (1, Value.int x)).mpr ⟨.int x, rfl, rfl⟩ : (1, Value.int x) ∈ lvl GI (a0 :: some (.int x) :: r0))
  exact lv_iinc F.1 F.2.1 hd hl.has hj hv hi rfl (fun ls h => kk p lx e s m a b me c H lo ls F r q N S hA (LH.st (v := .int v) ho h) P Dd Z)
/-- Object.<init> -/
theorem Bc_obj {x i : Nat} (hd : decode d.2.1 pc = .ok (.invokespecial i, 3)) (hk : Cond.methodLink d.1.cls i Lib.objectInit ∈ TB) (hf : 1 ≤ d.2.2.2.2.frames) (hw : (st.map fun v => v.category).sum + 12 ≤ d.2.2.2.2.locals) (kk : Bc d D ca A R wr l (pc + 3) L st k n) : Bc d D ca A R wr l pc L (.ref x :: st) k n := fun p lx e s m a b me c H lo ls F r q N S hA hl P Dd Z => W.objInit F.1 F.2.1 F.2.2.2.1 (F.2.2.2.2 _ hk) (F.2.2.2.2 _ k_23) (F.2.2.2.2 _ k_24) rfl (by rw [F.2.2.1]; exact hl.1) rfl hd hf (by show 2 * 0 + _ + 12 ≤ _; omega) (kk p lx e s m a b me c H lo ls F r q N S hA hl P Dd Z)
theorem Bc_newi {x : Int32} {N : Nat} (hd : decode d.2.1 pc = .ok (.newarray .int, 2)) (hx : ¬ x < 0) (hN : x.toNatClampNeg = N) (hb : N * 4 ≤ 536870912) (hc : k + 1 ≤ d.2.2.2.2.cells) (hs : n + N ≤ d.2.2.2.2.slots) (kk : ∀ q : Nat, Bc d D ca A R wr (l ++ [(q, .inl (ca 0, N, .inl (fun _ => 0)))]) (pc + 2) L (.ref q :: st) (k + 1) (n + N)) : Bc d D ca A R wr l pc L (.int x :: st) k n := fun p lx e s m a b me c H lo ls F r ql N0 S hA hl P Dd Z => by
  refine va_newa (atype := .int) (ty := .int) (a0 := (N, .inl (fun _ => 0))) F.1 F.2.1 (F.2.2.2.2 _ k_76) rfl S.1 P Dd Z hA (fun _ => rfl) hx hN hb hc hs hd (fun q cA H1 K1 P1 D1 Z1 => ?_)
  have e1 : cA = ca 0 := Option.some.inj ((show s.vm.findClass _ = some cA from (K1.2 5 (cA, .int) rfl).2).symm.trans (S.1.2 0 (ca 0, .int) rfl).2)
  subst e1
  rw [List.append_assoc] at P1 D1
  exact kk q p lx e s m a b me c H1 lo ls F r ql N0 S hA hl P1 D1 Z1
theorem Bc_newb {x : Int32} {N : Nat} (hd : decode d.2.1 pc = .ok (.newarray .byte, 2)) (hx : ¬ x < 0) (hN : x.toNatClampNeg = N) (hb : N * 1 ≤ 536870912) (hc : k + 1 ≤ d.2.2.2.2.cells) (hs : n + N ≤ d.2.2.2.2.slots) (kk : ∀ q : Nat, Bc d D ca A R wr (l ++ [(q, .inl (ca 1, N, .inl (fun _ => 0)))]) (pc + 2) L (.ref q :: st) (k + 1) (n + N)) : Bc d D ca A R wr l pc L (.int x :: st) k n := fun p lx e s m a b me c H lo ls F r ql N0 S hA hl P Dd Z => by
  refine va_newa (atype := .byte) (ty := .byte) (a0 := (N, .inl (fun _ => 0))) F.1 F.2.1 (F.2.2.2.2 _ k_55) rfl S.1 P Dd Z hA (fun _ => rfl) hx hN hb hc hs hd (fun q cA H1 K1 P1 D1 Z1 => ?_)
  have e1 : cA = ca 1 := Option.some.inj ((show s.vm.findClass _ = some cA from (K1.2 5 (cA, .byte) rfl).2).symm.trans (S.1.2 1 (ca 1, .byte) rfl).2)
  subst e1
  rw [List.append_assoc] at P1 D1
  exact kk q p lx e s m a b me c H1 lo ls F r ql N0 S hA hl P1 D1 Z1
theorem Bc_newz {x : Int32} {N : Nat} (hd : decode d.2.1 pc = .ok (.newarray .boolean, 2)) (hx : ¬ x < 0) (hN : x.toNatClampNeg = N) (hb : N * 1 ≤ 536870912) (hc : k + 1 ≤ d.2.2.2.2.cells) (hs : n + N ≤ d.2.2.2.2.slots) (kk : ∀ q : Nat, Bc d D ca A R wr (l ++ [(q, .inl (ca 2, N, .inl (fun _ => 0)))]) (pc + 2) L (.ref q :: st) (k + 1) (n + N)) : Bc d D ca A R wr l pc L (.int x :: st) k n := fun p lx e s m a b me c H lo ls F r ql N0 S hA hl P Dd Z => by
  refine va_newa (atype := .boolean) (ty := .boolean) (a0 := (N, .inl (fun _ => 0))) F.1 F.2.1 (F.2.2.2.2 _ k_901) rfl S.1 P Dd Z hA (fun _ => rfl) hx hN hb hc hs hd (fun q cA H1 K1 P1 D1 Z1 => ?_)
  have e1 : cA = ca 2 := Option.some.inj ((show s.vm.findClass _ = some cA from (K1.2 5 (cA, .boolean) rfl).2).symm.trans (S.1.2 2 (ca 2, .boolean) rfl).2)
  subst e1
  rw [List.append_assoc] at P1 D1
  exact kk q p lx e s m a b me c H1 lo ls F r ql N0 S hA hl P1 D1 Z1
theorem RA_o {U : State} {cA cB : ClassId} {C : String} (h1 : va_RA U cA (.object C)) (h2 : va_RA U cB (.object C)) : cA = cB := by
  obtain ⟨_, _, _, _, _, a⟩ := h1
  obtain ⟨_, _, _, _, _, b⟩ := h2
  exact Option.some.inj (a.symm.trans b)
theorem Bc_newq2 {x : Int32} {N i : Nat} (hd : decode d.2.1 pc = .ok (.anewarray i, 3)) (hk : Cond.classLink d.1.cls i RX2 ∈ TB) (hx : ¬ x < 0) (hN : x.toNatClampNeg = N) (hb : N * 4 ≤ 536870912) (hc : k + 1 ≤ d.2.2.2.2.cells) (hs : n + N ≤ d.2.2.2.2.slots) (kk : ∀ q : Nat, Bc d D ca A R wr (l ++ [(q, .inl (ca 3, N, .inr (.inr (.inr (.inr (fun _ => none))))))]) (pc + 3) L (.ref q :: st) (k + 1) (n + N)) : Bc d D ca A R wr l pc L (.int x :: st) k n := fun p lx e s m a b me c H lo ls F r ql N0 S hA hl P Dd Z => by
  refine va_newq (C := RX2) F.1 F.2.1 F.2.2.2.1 (F.2.2.2.2 _ hk) S.2.1 S.1 P Dd Z hA hx hN hb hc hs hd (fun q cA H1 K1 P1 D1 Z1 => ?_)
  have e1 : cA = ca 3 := RA_o (K1.2 5 (cA, .object RX2) rfl).2 (S.1.2 3 (ca 3, .object RX2) rfl).2
  subst e1
  rw [List.append_assoc] at P1 D1
  exact kk q p lx e s m a b me c H1 lo ls F r ql N0 S hA hl P1 D1 Z1
theorem Bc_newq4 {x : Int32} {N i : Nat} (hd : decode d.2.1 pc = .ok (.anewarray i, 3)) (hk : Cond.classLink d.1.cls i RX4 ∈ TB) (hx : ¬ x < 0) (hN : x.toNatClampNeg = N) (hb : N * 4 ≤ 536870912) (hc : k + 1 ≤ d.2.2.2.2.cells) (hs : n + N ≤ d.2.2.2.2.slots) (kk : ∀ q : Nat, Bc d D ca A R wr (l ++ [(q, .inl (ca 4, N, .inr (.inr (.inr (.inr (fun _ => none))))))]) (pc + 3) L (.ref q :: st) (k + 1) (n + N)) : Bc d D ca A R wr l pc L (.int x :: st) k n := fun p lx e s m a b me c H lo ls F r ql N0 S hA hl P Dd Z => by
  refine va_newq (C := RX4) F.1 F.2.1 F.2.2.2.1 (F.2.2.2.2 _ hk) S.2.2.1 S.1 P Dd Z hA hx hN hb hc hs hd (fun q cA H1 K1 P1 D1 Z1 => ?_)
  have e1 : cA = ca 4 := RA_o (K1.2 5 (cA, .object RX4) rfl).2 (S.1.2 4 (ca 4, .object RX4) rfl).2
  subst e1
  rw [List.append_assoc] at P1 D1
  exact kk q p lx e s m a b me c H1 lo ls F r ql N0 S hA hl P1 D1 Z1
/-- a final field of the object at place i -/
theorem Bc_putF {a v : Value} {x i j ci id N : Nat} {C : String} {T : u_T} {fs fs' : List Value} {ty : FieldType} (hc : Ck ci C T N) (hd : decode d.2.1 pc = .ok (.putfield id, 3)) (hk : Cond.fieldLink d.1.cls id (T j).1 (T j).2.1 (T j).2.2.1 ∈ TB) (hi : l[i]? = some (x, .inr (ci, fs))) (hj : j < N) (hl0 : j < fs.length) (hfin : (T j).2.2.2 = true) (hin : d.1.name = "<init>") (hdecl : (T j).1 = d.1.cls) (hty : parseFieldDescriptor (T j).2.2.1 = some ty) (hn : narrow ty v = v) (hft : fits ty v = true) (hfs : fs.set j v = fs') (kk : Bc d D ca A R wr (l.set i (x, .inr (ci, fs'))) (pc + 3) L st k n) : Bc d D ca A R wr l pc L (v :: .ref x :: st) k n := fun p lx e s m a b me c H lo ls F r q N0 S hA hl P Dd Z => by
  obtain ⟨c1, c2, ty0, c3, c4⟩ := hc
  subst hfs
  refine va_putF (v := v) F.1 F.2.1 F.2.2.2.2 c2 ty0 c3 c4 F.2.2.2.1 S.1 P Dd Z (wr.length + i) (pl hi) c1 j hj (F.2.2.2.2 _ hk) (fun _ h => h) hfin (N0.trans hin) hdecl hty hn hft hl0 hd (fun H1 locs1 P1 D1 Z1 => ?_)
  rw [ps] at P1 D1
  exact kk p lx e s m _ b me c H1 locs1 ls F r q N0 S hA hl P1 D1 Z1
theorem Bc_put {v : Value} {x i j ci id N : Nat} {C : String} {T : u_T} {fs fs' : List Value} {ty : FieldType} (hc : Ck ci C T N) (hd : decode d.2.1 pc = .ok (.putfield id, 3)) (hk : Cond.fieldLink d.1.cls id (T j).1 (T j).2.1 (T j).2.2.1 ∈ TB) (hi : l[i]? = some (x, .inr (ci, fs))) (hj : j < N) (hl0 : j < fs.length) (hfin : (T j).2.2.2 = false) (hty : parseFieldDescriptor (T j).2.2.1 = some ty) (hn : narrow ty v = v) (hft : fits ty v = true) (hfs : fs.set j v = fs') (kk : Bc d D ca A R wr (l.set i (x, .inr (ci, fs'))) (pc + 3) L st k n) : Bc d D ca A R wr l pc L (v :: .ref x :: st) k n := fun p lx e s m a b me c H lo ls F r q N0 S hA hl P Dd Z => by
  obtain ⟨c1, c2, ty0, c3, c4⟩ := hc
  subst hfs
  refine va_put (v := v) F.1 F.2.1 F.2.2.2.2 c2 ty0 c3 c4 F.2.2.2.1 S.1 P Dd Z (wr.length + i) (pl hi) c1 j hj (F.2.2.2.2 _ hk) (fun _ h => h) hfin hty hn hft hl0 hd (fun H1 locs1 P1 D1 Z1 => ?_)
  rw [ps] at P1 D1
  exact kk p lx e s m a b me c H1 locs1 ls F r q N0 S hA hl P1 D1 Z1
theorem Bc_get {v : Value} {x i j ci id N : Nat} {C : String} {T : u_T} {fs : List Value} (hc : Ck ci C T N) (hd : decode d.2.1 pc = .ok (.getfield id, 3)) (hk : Cond.fieldLink d.1.cls id (T j).1 (T j).2.1 (T j).2.2.1 ∈ TB) (hi : l[i]? = some (x, .inr (ci, fs))) (hj : j < N) (hv : fs[j]? = some v) (kk : Bc d D ca A R wr l (pc + 3) L (v :: st) k n) : Bc d D ca A R wr l pc L (.ref x :: st) k n := fun p lx e s m a b me c H lo ls F r q N0 S hA hl P Dd Z => va_get F.1 F.2.1 F.2.2.2.2 hc.2.1 F.2.2.2.1 S.1 P (wr.length + i) (pl hi) hc.1 j hj (F.2.2.2.2 _ hk) (fun _ h => h) (v := v) hv hd (kk p lx e s m a b me c H lo ls F r q N0 S hA hl P Dd Z)
theorem Bc_iast {x i N j : Nat} {y z : Int32} {f : Nat → Int32} (hd : decode d.2.1 pc = .ok (.iastore, 1)) (hi : l[i]? = some (x, .inl (ca 0, N, .inl f))) (hin : vp_in y N) (hj : y.toNatClampNeg = j) (kk : Bc d D ca A R wr (l.set i (x, .inl (ca 0, N, .inl (upd f j z)))) (pc + 1) L st k n) : Bc d D ca A R wr l pc L (.int z :: .int y :: .ref x :: st) k n := fun p lx e s m a b me c H lo ls F r q N0 S hA hl P Dd Z => by
  subst hj
  refine va_iast F.1 F.2.1 S.1 P Dd Z (wr.length + i) 0 (pl hi) rfl hin hd (fun H1 locs1 P1 D1 Z1 => ?_)
  rw [ps] at P1 D1
  exact kk p lx e s m a b me c H1 locs1 ls F r q N0 S hA hl P1 D1 Z1
theorem Bc_aast {x v i qk t0 ci N j : Nat} {y : Int32} {f : Nat → Option Nat} {vs : List Value} {rr : vw_C} (hd : decode d.2.1 pc = .ok (.aastore, 1)) (hi : l[i]? = some (x, .inl (ca t0, N, .inr (.inr (.inr (.inr f)))))) (ht : (tyc ca)[t0]? = some (ca t0, .object rr.1)) (hv : l[qk]? = some (v, .inr (ci, vs))) (hc : vwCl[ci]? = some rr) (hin : vp_in y N) (hj : y.toNatClampNeg = j) (kk : Bc d D ca A R wr (l.set i (x, .inl (ca t0, N, .inr (.inr (.inr (.inr (va_up f j (some v)))))))) (pc + 1) L st k n) : Bc d D ca A R wr l pc L (.ref v :: .int y :: .ref x :: st) k n := fun p lx e s m a b me c H lo ls F r q N0 S hA hl P Dd Z => by
  subst hj
  refine va_astq F.1 F.2.1 S.1 P Dd Z (wr.length + i) t0 (wr.length + qk) ci (pl hi) ht (pl hv) hc hin hd (fun H1 locs1 P1 D1 Z1 => ?_)
  rw [ps] at P1 D1
  exact kk p lx e s m a b me c H1 locs1 ls F r q N0 S hA hl P1 D1 Z1
theorem Bc_new {ci id N : Nat} {C : String} {T : u_T} {fs : List Value} (hc : vwCl[ci]? = some (C, T, N)) (hin : ∀ w ∈ u_ws C T N, w ∈ TB) (ty : Nat → FieldType) (hty : ∀ k, k < N → parseFieldDescriptor (T k).2.2.1 = some (ty k)) (hd : decode d.2.1 pc = .ok (.new id, 3)) (hk : Cond.classLink d.1.cls id C ∈ TB) (hi : Cond.instantiable C N ∈ TB) (hini : Cond.initialized C ∈ TB) (hfs : ∀ j, j < N → defaultValue (ty j) = vp_V fs j) (hcc : k + 1 ≤ d.2.2.2.2.cells) (hs : n + N ≤ d.2.2.2.2.slots) (kk : ∀ q : Nat, Bc d D ca A R wr (l ++ [(q, .inr (ci, fs))]) (pc + 3) L (.ref q :: st) (k + 1) (n + N)) : Bc d D ca A R wr l pc L st k n := fun p lx e s m a b me c H lo ls F r ql N0 S hA hl P Dd Z => by
  refine va_new F.1 F.2.1 F.2.2.2.2 hin ty hty F.2.2.2.1 (F.2.2.2.2 _ hk) (F.2.2.2.2 _ hi) (F.2.2.2.2 _ hini) S.1 P Dd Z hA hc hfs hcc hs hd (fun q H1 P1 D1 Z1 => ?_)
  rw [List.append_assoc] at P1 D1
  exact kk q p lx e s m a b me c H1 lo ls F r ql N0 S hA hl P1 D1 Z1
theorem Bc_ret (hd : decode d.2.1 pc = .ok (.return_, 1)) (hr : d.2.2.2.1 = none) (h1 : k ≤ d.2.2.2.2.cells) (h2 : n ≤ d.2.2.2.2.slots) (h : R (wr ++ l)) : Bc d D ca A R wr l pc L [] k n := fun p lx e s m a b me c H lo ls F r q N0 S hA hl P Dd Z => W.widen h1 h2 (W.vret F.1 F.2.1 (r.trans hr) (fun t ht hW => ⟨⟨wr ++ l, rfl, h, by rw [ht]; exact P, Dd, S.mv hW⟩, Z.F ht⟩) Z.2.2 hd q)
/-- behind a call of a constructor (or of a method that returns nothing) over the whole world -/
theorem Bc_after {R2 : va_W → Prop} {p : Program} {lx : Launch} {e : Env} {s : State} {m : MethodId} {args : Array Value} {below : List Frame} {meth : Method} {c : Code} {H : Heap} {locs : List Loc} {ls : Array Slot} {st0 : List Value} {aa : Array Value} {mc ms : Nat} (F : CallFix p m c d.2.1 d.2.2.1 s args TB d.1.cls) (r : meth.sig.returnType = d.2.2.2.1) (q : meth.locks = false) (N0 : meth.name = d.1.name) (S : SK D ca s) (hA : ∀ q, s.heap.size ≤ q → A q) (hl : LH GI ls d.2.2.1 L) (Z : va_S A s.heap H locs)
    (hr : va_Run p lx e d.2.2.2.2 s m args below meth c H locs k n mc ms (F0 m pc ls st0) st (QC D ca A R2 aa) A) (kk : ∀ ws : va_W, R2 ws → ∃ l', ws = wr ++ l' ∧ Bc d D ca A R wr l' (pc + 3) L st (k + mc) (n + ms)) :
    W p lx e d.2.2.2.2 s m args below meth c H locs k n (MQ below (QC D ca A R) args s d.2.2.2.2.cells d.2.2.2.2.slots A) (F0 m pc ls st0) := by
  intro T hT X
  obtain ⟨v, st₀, t, T', LL, h0, X', hL, e1, e2, ⟨⟨ws, hv, hR2, hP1, hD1, hS1⟩, hz, hk⟩, stp⟩ := hr T hT X
  cases hv
  rw [h0] at hz hk
  have Z1 : va_S A s.heap T'.heap (locs ++ LL) := ⟨Nat.le_trans Z.1 (by rw [e1]; exact hz), fun q h1 h2 => by rw [e1, hk q (Nat.lt_of_lt_of_le h1 Z.1) h2]; exact Z.2.1 q h1 h2, fun q hq => by
    rcases List.mem_append.mp hq with h | h
    · exact Z.2.2 q h
    · exact hL q h⟩
  obtain ⟨l', rfl, hB⟩ := kk ws hR2
  obtain ⟨t2, a1, b1⟩ := hB p lx e s m args below meth c T'.heap (locs ++ LL) ls F r q N0 S hA hl (by rw [e1]; exact hP1) hD1 Z1 T' rfl X'
  exact ⟨t2, stp t2 a1, b1⟩
/-- a nested constructor: the new object is the last cell -/
theorem Bc_init {cd : MD} {R2 : va_W → Prop} {l0 : va_W} {x id ci : Nat} {fs : List Value} (hl0 : l = l0 ++ [(x, .inr (ci, fs))]) (hd : decode d.2.1 pc = .ok (.invokespecial id, 3)) (hk : Cond.methodLink d.1.cls id cd.1 ∈ TB) (hnm : cd.1.name = "<init>") (h1 : Cond.instanceMethod cd.1 ∈ TB) (h2 : Cond.initialized cd.1.cls ∈ TB) (h3 : Cond.code cd.1 cd.2.1 cd.2.2.1 none ∈ TB) (hret : cd.2.2.2.1 = none) (hns : cd.1.cls ≠ "java/lang/invoke/MethodHandle" ∧ cd.1.cls ≠ "java/lang/invoke/VarHandle" ∧ (parseMethodDescriptor cd.1.desc).map (fun q => q.parameters.length) = some 0) (rm : Rm d cd) (hM : Semc cd D ca x ((wr ++ l0) ++ [(x, .inr (ci, fs))]) R2) (hw : (st.map fun v => v.category).sum ≤ 8) (hcc : k + cd.2.2.2.2.cells ≤ d.2.2.2.2.cells) (hss : n + cd.2.2.2.2.slots ≤ d.2.2.2.2.slots) (kk : ∀ ws : va_W, R2 ws → ∃ l', ws = wr ++ l' ∧ Bc d D ca A R wr l' (pc + 3) L st (k + cd.2.2.2.2.cells) (n + cd.2.2.2.2.slots)) : Bc d D ca A R wr l pc L (.ref x :: st) k n := fun p lx e s m a b me c H lo ls F r q N0 S hA hl P Dd Z => by
  subst hl0
  rw [← List.append_assoc] at P Dd
  have h3' : Cond.code cd.1 cd.2.1 cd.2.2.1 cd.2.2.2.1 ∈ TB := by rw [hret]; exact h3
  have hcb := callB_of (R := d.2.2.2.2) (own := d.1.cls) (index := id) (rm := cd.2.2.2.2) (mc := cd.2.2.2.2.cells) (ms := cd.2.2.2.2.slots) 0 F.2.2.2.2 (TBc h3') rfl rfl rfl (F.2.2.2.2 _ h2) (F.2.2.2.2 _ hk) hns rm
  rw [hret] at hcb
  have hM' := hM lx A
  rw [hret] at hM'
  exact Bc_after F r q N0 S hA hl Z (va_runI (As := []) (rest := st) (b := x) F hM' ⟨hcb, hnm, F.2.2.2.2 _ h1⟩ ⟨fun a U g mk h => ⟨h.1, h.2.1, h.2.2.1, h.2.2.2.1.blind, h.2.2.2.2⟩, fun U hU hW => ⟨rfl, by rw [hU]; exact P, Dd, S.mv hW, fun q hq => hA q (by rw [hU] at hq; exact Nat.le_trans Z.1 hq)⟩⟩ rfl rfl hl.1 rfl (lv_room hw) hd ⟨hcc, hss⟩) kk
/-- the same, private to a nest mate -/
theorem Bc_initN {cd : MD} {R2 : va_W → Prop} {l0 : va_W} {x id ci : Nat} {fs : List Value} (hl0 : l = l0 ++ [(x, .inr (ci, fs))]) (hd : decode d.2.1 pc = .ok (.invokespecial id, 3)) (hk : (d.1.cls, id, cd.1) ∈ nestL) (hnm : cd.1.name = "<init>") (h1 : Cond.instanceMethod cd.1 ∈ TB) (h2 : Cond.initialized cd.1.cls ∈ TB) (h3 : Cond.code cd.1 cd.2.1 cd.2.2.1 none ∈ TB) (hret : cd.2.2.2.1 = none) (hns : cd.1.cls ≠ "java/lang/invoke/MethodHandle" ∧ cd.1.cls ≠ "java/lang/invoke/VarHandle" ∧ (parseMethodDescriptor cd.1.desc).map (fun q => q.parameters.length) = some 0) (rm : Rm d cd) (hM : Semc cd D ca x ((wr ++ l0) ++ [(x, .inr (ci, fs))]) R2) (hw : (st.map fun v => v.category).sum ≤ 8) (hcc : k + cd.2.2.2.2.cells ≤ d.2.2.2.2.cells) (hss : n + cd.2.2.2.2.slots ≤ d.2.2.2.2.slots) (kk : ∀ ws : va_W, R2 ws → ∃ l', ws = wr ++ l' ∧ Bc d D ca A R wr l' (pc + 3) L st (k + cd.2.2.2.2.cells) (n + cd.2.2.2.2.slots)) : Bc d D ca A R wr l pc L (.ref x :: st) k n := fun p lx e s m a b me c H lo ls F r q N0 S hA hl P Dd Z => by
  subst hl0
  rw [← List.append_assoc] at P Dd
  have h3' : Cond.code cd.1 cd.2.1 cd.2.2.1 cd.2.2.2.1 ∈ TB := by rw [hret]; exact h3
  have hcb := va_cnB (R := d.2.2.2.2) (own := d.1.cls) (host := "ChurchOrgan") (index := id) (rm := cd.2.2.2.2) (mc := cd.2.2.2.2.cells) (ms := cd.2.2.2.2.slots) 0 F.2.2.2.2 (TBc h3') rfl rfl rfl (S.2.2.2 _ hk) (F.2.2.2.2 _ h2) hns rm
  rw [hret] at hcb
  have hM' := hM lx A
  rw [hret] at hM'
  exact Bc_after F r q N0 S hA hl Z (va_runIN (As := []) (rest := st) (b := x) F hM' ⟨hcb, hnm, F.2.2.2.2 _ h1⟩ ⟨fun a U g mk h => ⟨h.1, h.2.1, h.2.2.1, h.2.2.2.1.blind, h.2.2.2.2⟩, fun U hU hW => ⟨rfl, by rw [hU]; exact P, Dd, S.mv hW, fun q hq => hA q (by rw [hU] at hq; exact Nat.le_trans Z.1 hq)⟩⟩ rfl rfl hl.1 rfl (lv_room hw) hd ⟨hcc, hss⟩) kk
/-- a method that returns nothing, on the object at place i -/
theorem Bc_callv {cd : MD} {R2 : va_W → Prop} {x i id ci : Nat} {fs : List Value} (hi : l[i]? = some (x, .inr (ci, fs))) (hc : (vwCl[ci]?).map (fun q => q.1) = some cd.1.cls) (hd : decode d.2.1 pc = .ok (.invokevirtual id, 3)) (hk : Cond.methodLink d.1.cls id cd.1 ∈ TB) (mv : MV cd 0) (rm : Rm d cd) (hM : Semc cd D ca x (wr ++ l) R2) (hw : (st.map fun v => v.category).sum ≤ 8) (hcc : k ≤ d.2.2.2.2.cells) (hss : n ≤ d.2.2.2.2.slots) (kk : ∀ ws : va_W, R2 ws → ∃ l', ws = wr ++ l' ∧ Bc d D ca A R wr l' (pc + 3) L st k n) : Bc d D ca A R wr l pc L (.ref x :: st) k n := fun p lx e s m a b me c H lo ls F r q N0 S hA hl P Dd Z => by
  obtain ⟨m1, m2, m3, m4, ⟨n1, n2, n3⟩, m5, m6⟩ := mv
  obtain ⟨cc, hcc', hcn⟩ := Option.map_eq_some_iff.mp hc
  have hcb := callB_of (R := d.2.2.2.2) (own := d.1.cls) (index := id) (rm := cd.2.2.2.2) (mc := cd.2.2.2.2.cells) (ms := cd.2.2.2.2.slots) 0 F.2.2.2.2 (TBc m4) rfl rfl rfl (F.2.2.2.2 _ m3) (F.2.2.2.2 _ hk) ⟨n1, n2, n3⟩ rm
  refine Bc_after F r q N0 S hA hl Z (va_runV (As := []) (rest := st) (b := x) (C := cd.1.cls) F (hM lx A) ⟨hcb, F.2.2.2.2 _ m1, F.2.2.2.2 _ m2⟩ ⟨fun a U g mk h => ⟨h.1, h.2.1, h.2.2.1, h.2.2.2.1.blind, h.2.2.2.2⟩, ?_, fun U hU hW => ⟨rfl, by rw [hU]; exact P, Dd, S.mv hW, fun q hq => hA q (by rw [hU] at hq; exact Nat.le_trans Z.1 hq)⟩⟩ rfl rfl hl.1 rfl (lv_room hw) hd ⟨by rw [m5]; exact hcc, by rw [m6]; exact hss⟩) (by rw [m5, m6]; exact kk)
  rw [← hcn]
  exact va_recv S.1 P hcc' (pl hi)
end BC
