/-! 99: the law: from its entry -/
theorem Wl_init {cd : MD} {R2 : va_W → Prop} {D : va_G} {ca : Nat → ClassId} {ws : va_W} {x id k n pc : Nat} {p : Program} {l : Launch} {e : Env} {s : State} {m : MethodId} {b : Nat} {below : List Frame} {meth : Method} {c : Code} {H : Heap} {locs : List Loc} {ls : Array Slot} {st : List Value} {Q : State → Prop} (F : CallFix p m c code 4 s #[Value.ref b] TB R_law) (S : SK D ca s) (hsz : ls.size = 4) (P : va_P D vwCl ws H) (Dd : va_D (fun q : Nat => s.heap.size ≤ q) ws) (Z : va_S (fun q : Nat => s.heap.size ≤ q) s.heap H locs) (hd : decode code pc = .ok (.invokespecial id, 3)) (hk : Cond.methodLink R_law id cd.1 ∈ TB) (hnm : cd.1.name = "<init>") (h1 : Cond.instanceMethod cd.1 ∈ TB) (h2 : Cond.initialized cd.1.cls ∈ TB) (h3 : Cond.code cd.1 cd.2.1 cd.2.2.1 none ∈ TB) (hret : cd.2.2.2.1 = none) (hns : cd.1.cls ≠ "java/lang/invoke/MethodHandle" ∧ cd.1.cls ≠ "java/lang/invoke/VarHandle" ∧ (parseMethodDescriptor cd.1.desc).map (fun q => q.parameters.length) = some 0) (rm : Rm mL cd) (hM : Semc cd D ca x ws R2) (hw : (st.map fun v => v.category).sum ≤ 8) (hcc : k + cd.2.2.2.2.cells ≤ 600000) (hss : n + cd.2.2.2.2.slots ≤ 7302250) (kk : ∀ (ws' : va_W) (H1 : Heap) (locs1 : List Loc), R2 ws' → va_P D vwCl ws' H1 → va_D (fun q : Nat => s.heap.size ≤ q) ws' → va_S (fun q : Nat => s.heap.size ≤ q) s.heap H1 locs1 → W p l e room_1 s m #[Value.ref b] below meth c H1 locs1 (k + cd.2.2.2.2.cells) (n + cd.2.2.2.2.slots) Q (F0 m (pc + 3) ls st)) : W p l e room_1 s m #[Value.ref b] below meth c H locs k n Q (F0 m pc ls (.ref x :: st)) := by
  have h3' : Cond.code cd.1 cd.2.1 cd.2.2.1 cd.2.2.2.1 ∈ TB := by rw [hret]; exact h3
  have hcb := callB_of (R := room_1) (own := R_law) (index := id) (rm := cd.2.2.2.2) (mc := cd.2.2.2.2.cells) (ms := cd.2.2.2.2.slots) 0 F.2.2.2.2 (TBc h3') rfl rfl rfl (F.2.2.2.2 _ h2) (F.2.2.2.2 _ hk) hns rm
  rw [hret] at hcb
  have hM' := hM l (fun q : Nat => s.heap.size ≤ q)
  rw [hret] at hM'
  have hr := va_runI (below := below) (meth := meth) (e := e) (locs := locs) (cells := k) (slots := n) (g := F0 m pc ls (.ref x :: st)) (As := []) (rest := st) (b := x) F hM' ⟨hcb, hnm, F.2.2.2.2 _ h1⟩ ⟨fun a U g mk h => ⟨h.1, h.2.1, h.2.2.1, h.2.2.2.1.blind, h.2.2.2.2⟩, fun U hU hW => ⟨rfl, by rw [hU]; exact P, Dd, S.mv hW, fun q hq => by rw [hU] at hq; exact Nat.le_trans Z.1 hq⟩⟩ rfl rfl hsz rfl (lv_room hw) hd ⟨hcc, hss⟩
  intro T hT X
  obtain ⟨v, st₀, t, T', LL, h0, X', hL, e1, e2, ⟨⟨ws', hv, hR2, hP1, hD1, hS1⟩, hz, hk2⟩, stp⟩ := hr T hT X
  cases hv
  rw [h0] at hz hk2
  have Z1 : va_S (fun q : Nat => s.heap.size ≤ q) s.heap T'.heap (locs ++ LL) := ⟨Nat.le_trans Z.1 (by rw [e1]; exact hz), fun q h1 h2 => by rw [e1, hk2 q (Nat.lt_of_lt_of_le h1 Z.1) h2]; exact Z.2.1 q h1 h2, fun q hq => by
    rcases List.mem_append.mp hq with h | h
    · exact Z.2.2 q h
    · exact hL q h⟩
  obtain ⟨t2, a1, b1⟩ := kk ws' T'.heap (locs ++ LL) hR2 (by rw [e1]; exact hP1) hD1 Z1 T' rfl X'
  exact ⟨t2, stp t2 a1, b1⟩
/-- the law's loop over the world that both constructors leave -/
theorem law_enter {p : Program} {e : Env} {s : State} {m : MethodId} {below : List Frame} {meth : Method} {c : Code} {l : Launch} {b L : Nat} {xs : Nat → Int32} {H : Heap} {locs : List Loc} {ls : Array Slot} {D : va_G} {ca : Nat → ClassId} {a f : Nat → Nat} (hL : L ≤ 2560) (F : CallFix p m c code 4 s #[Value.ref b] TB R_law) (hr : meth.sig.returnType = ret) (hlocks : meth.locks = false) (hX : va_X b L xs s s.heap) (hbl : b < s.heap.size) (S : SK D ca s) (hn : va_Nw (.methodLinkNest RX3 43 yX7_isWithin "ChurchOrgan") s) (hf : ∀ G : GD, (∀ k, 100 ≤ k → k ≤ 130 → G.2.1 k = f k) → Cs G (fun q => s.heap.size ≤ q) s s.heap) (hl : lv_has ls 4 [(3, .int 0), (2, .ref (a 58)), (1, .ref (a 0)), (0, .ref b)]) (P : va_P D vwCl (WW ca a) H) (Dd : va_D (fun q : Nat => s.heap.size ≤ q) (WW ca a)) (Z : va_S (fun q : Nat => s.heap.size ≤ q) s.heap H locs) : W p l e room_1 s m #[Value.ref b] below meth c H locs KC KS (lw_Z below #[Value.ref b] s) (F0 m 18 ls []) := by
  have hlen : (wl (A0 D ca a f b) SH M0).length = 79 := by unfold wl; rw [List.length_mapIdx]; rfl
  have hlt : ∀ (k : Nat) (q : Nat × va_E), (wl (A0 D ca a f b) SH M0)[k]? = some q → k < 79 := fun k q hk => by
    have z := (List.getElem?_eq_some_iff.mp hk).1
    omega
  have hg : ∀ (k : Nat) (q : Nat × va_E), (wl (A0 D ca a f b) SH M0)[k]? = some q → (WW ca a)[g0 k]? = some q := fun k q hk => w0_all k (hlt k q hk) q hk
  have hat : ∀ k, k < 79 → ∃ q : Nat × va_E, (wl (A0 D ca a f b) SH M0)[k]? = some q ∧ q.1 = (A0 D ca a f b).2.1 k := fun k hk => by
    cases hs : SH[k]? with
    | none => exact absurd (List.getElem?_eq_none_iff.mp hs) (Nat.not_le.mpr hk)
    | some d => exact ⟨_, wl_at hs, rfl⟩
  have hge : ∀ k, k < NC → s.heap.size ≤ (A0 D ca a f b).2.1 k := fun k hk => by
    obtain ⟨q, h1, h2⟩ := hat k hk
    rw [← h2]
    exact Dd.2 (g0 k) q (hg k q h1)
  have hgA : ∀ q, gA (A0 D ca a f b) q → s.heap.size ≤ q := fun q ⟨k, hk, e⟩ => by rw [e]; exact hge k hk
  have hSt : St (A0 D ca a f b) s := ⟨S.1, hn, (hf (A0 D ca a f b) (fun k h1 h2 => by
    show (if k < 79 then a (g0 k) else if k = 140 then b else f k) = f k
    rw [if_neg (by omega), if_neg (by omega)])).nw hgA⟩
  have hLH : LH (A0 D ca a f b) ls 4 [some (.ref 140), some (.ref 0), some (.ref 58), some (.int (nI (5 * 0)))] := ⟨hl.1, hl.2.1, fun i v hi => by
    match i, hi with
    | 0, hi => cases hi; exact hl.2.2 (0, .ref b) (by simp)
    | 1, hi => cases hi; exact hl.2.2 (1, .ref (a 0)) (by simp)
    | 2, hi => cases hi; exact hl.2.2 (2, .ref (a 58)) (by simp)
    | 3, hi => cases hi; exact hl.2.2 (3, .int 0) (by simp)
    | i + 4, hi => simp at hi⟩
  have hD2 : va_D (gA (A0 D ca a f b)) (wl (A0 D ca a f b) SH M0) := (Dd.by g0 hg (fun i j hi hj e => by rw [← g1_0 i (by omega), e, g1_0 j (by omega)])).weaken (fun k q hk _ => by
    have h79 := hlt k q hk
    obtain ⟨q', h1, h2⟩ := hat k h79
    have e := Option.some.inj (hk.symm.trans h1)
    exact ⟨k, h79, by rw [e]; exact h2⟩)
  refine va_forget (fun q hq => Z.2.2 q hq) ?_
  exact law_loop hL L 0 (by omega) (by omega) (A0 D ca a f b) M0 M0_LI p l e s m below meth c H [] ls ⟨F, hr, hlocks, hX, hbl, rfl, hge⟩ hSt hLH (P.by g0 hg) hD2 ⟨Z.1, fun q h1 h2 => Z.2.1 q h1 (Nat.not_le.mpr h1), fun q hq => absurd hq List.not_mem_nil⟩
set_option maxHeartbeats 4000000 in
set_option maxRecDepth 20000 in
/-- from the entry, for every script of at most 2560 ints, the law comes to its end with true -/
theorem whole_start {p : Program} {e : Env} {s : State} {m : MethodId} {below : List Frame} {meth : Method} {c : Code} (l : Launch) (hflags : l.flags = flags0) {b L : Nat} {xs : Nat → Int32} (hL : L ≤ 2560) (C0 : lw_At p s m meth c b L xs) : W p l e room_1 s m #[Value.ref b] below meth c s.heap [] 0 0 (lw_Z below #[Value.ref b] s) (entryFrame m ([Value.ref b] : List Value).toArray 4) := by
  obtain ⟨hx, hb, hr, hml, hown, hts, hX, hbl, hlocks, hgv⟩ := C0
  obtain ⟨D, ca, S⟩ := sk_start hts
  obtain ⟨f, hf⟩ := cs_start hts hgv
  have htb : ∀ w ∈ TB, w.before #[Value.ref b] s = true := fun w hw => hts w (TB_in w hw)
  have F : CallFix p m c code 4 s #[Value.ref b] TB R_law := ⟨hx, hb, hml, hown, htb⟩
  have hA : ∀ q : Nat, s.heap.size ≤ q → (fun q : Nat => s.heap.size ≤ q) q := fun _ h => h
  have hn : va_Nw (.methodLinkNest RX3 43 yX7_isWithin "ChurchOrgan") s := va_Nw.of rfl (hts _ (List.mem_of_getElem? (i := 386) (by decide +kernel)))
  have hS : va_S (fun q : Nat => s.heap.size ≤ q) s.heap s.heap [] := va_S.rf
  have hP : va_P D vwCl [] s.heap := fun k q h => by simp at h
  have hD : va_D (fun q : Nat => s.heap.size ≤ q) [] := ⟨fun i j p q h => by simp at h, fun k q h => by simp at h⟩
  have hl := lv_entry ([.ref b]) (n := 4) (Nat.le_of_ble_eq_true rfl)
  rw [lg_entry_eq]
  generalize (lg_sl ([.ref b]) ++ List.replicate (4 - (lg_sl ([.ref b])).length) Slot.unset).toArray = ls at hl ⊢
  have hl : lv_has ls 4 [(0, .ref b)] := hl
  refine va_new (ci := 7) (fs := fr7) (C := RX7) (T := TX7) (N := 12) hx hb htb inTB7 tyX7 tyX7_ok hown (htb _ k_17) (htb _ k_18) (htb _ k_1) S.1 hP hD hS hA rfl fr7_ok (Nat.le_of_ble_eq_true rfl) (Nat.le_of_ble_eq_true rfl) dL_law_0 (fun h H hP hD hS => ?_)
  refine lv_dup hx hb dL_law_3 rfl ?_
  refine Wl_init (cd := nX7_init) (pc := 4) F S hl.1 hP hD hS dL_law_4 k_19 rfl k_20 k_1 k_21 rfl ⟨by decide, by decide, by decide +kernel⟩ ⟨(Nat.le_of_ble_eq_true rfl), (Nat.le_of_ble_eq_true rfl)⟩ con_X7_init (Nat.le_of_ble_eq_true rfl) (Nat.le_of_ble_eq_true rfl) (Nat.le_of_ble_eq_true rfl) (fun ws H locs hws hP hD hS => ?_)
  obtain ⟨b1, b2, b3, b4, b5, b6, b7, b8, b9, b10, b11, b12, b13, b14, b15, b16, b17, b18, b19, b20, b21, b22, b23, b24, b25, b26, b27, b28, b29, b30, b31, b32, b33, b34, b35, b36, b37, b38, b39, b40, b41, b42, b43, b44, b45, b46, b47, b48, b49, b50, b51, b52, b53, b54, b55, b56, b57, rfl⟩ := hws
  refine lv_astore_n (lv' := [(1, .ref h), (0, .ref b)]) hx hb dL_law_7 rfl hl (by decide) rfl (fun ls hl => ?_)
  refine va_new (ci := 8) (fs := fr8) (C := RX8) (T := TX8) (N := 38) hx hb htb inTB8 tyX8 tyX8_ok hown (htb _ k_780) (htb _ k_781) (htb _ k_9) S.1 hP hD hS hA rfl fr8_ok (Nat.le_of_ble_eq_true rfl) (Nat.le_of_ble_eq_true rfl) dL_law_8 (fun g H hP hD hS => ?_)
  refine lv_dup hx hb dL_law_11 rfl ?_
  refine Wl_init (cd := nX8_init) (pc := 12) F S hl.1 hP hD hS dL_law_12 k_782 rfl k_783 k_9 k_784 rfl ⟨by decide, by decide, by decide +kernel⟩ ⟨(Nat.le_of_ble_eq_true rfl), (Nat.le_of_ble_eq_true rfl)⟩ con_X8_init (Nat.le_of_ble_eq_true rfl) (Nat.le_of_ble_eq_true rfl) (Nat.le_of_ble_eq_true rfl) (fun ws H locs hws hP hD hS => ?_)
  obtain ⟨c1, c2, c3, c4, c5, c6, c7, c8, c9, c10, c11, c12, c13, c14, c15, c16, c17, c18, c19, c20, rfl⟩ := hws
  refine lv_astore_n (lv' := [(2, .ref g), (1, .ref h), (0, .ref b)]) hx hb dL_law_15 rfl hl (by decide) rfl (fun ls hl => ?_)
  refine lv_iconst (v := 0) hx hb dL_law_16 (by decide) ?_
  refine lv_istore_n (lv' := [(3, .int 0), (2, .ref g), (1, .ref h), (0, .ref b)]) hx hb dL_law_17 rfl hl (by decide) rfl (fun ls hl => ?_)
  exact law_enter (a := fun i => ([h, b1, b2, b3, b4, b5, b6, b7, b8, b9, b10, b11, b12, b13, b14, b15, b16, b17, b18, b19, b20, b21, b22, b23, b24, b25, b26, b27, b28, b29, b30, b31, b32, b33, b34, b35, b36, b37, b38, b39, b40, b41, b42, b43, b44, b45, b46, b47, b48, b49, b50, b51, b52, b53, b54, b55, b56, b57, g, c1, c2, c3, c4, c5, c6, c7, c8, c9, c10, c11, c12, c13, c14, c15, c16, c17, c18, c19, c20] : List Nat).getD i 0) hL F hr hlocks hX hbl S hn hf hl hP hD hS
