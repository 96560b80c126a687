/-! Making: rules for constructors, over worlds that grow. -/
def nW (D : va_G) (A : Nat → Prop) (H0 H : Heap) (locs : List Loc) (ws : va_W) : Prop := va_P D vwCl ws H ∧ va_D A ws ∧ va_S A H0 H locs
def nPc (D : va_G) (cI : ClassId) (w0 : va_W) (sz : Nat) : State → Prop := fun U => U.heap.size = sz ∧ va_P D vwCl w0 U.heap ∧ va_K D vwCl [(cI, .int)] U ∧ va_D (fun _ => True) w0 ∧ ∀ w ∈ lw_tbl, mNest w = true → va_Nw w U
def nB (D : va_G) (wf : (Nat → Nat) → va_W) (A : Nat → Prop) (u : Nat → Nat) (t : State) : Prop := va_P D vwCl (wf u) t.heap ∧ va_D A (wf u)
def nMet (l : Launch) (y : MethodName) (J : mI) (As : List Value) (D : va_G) (cI : ClassId) (w0 : va_W) (wf : (Nat → Nat) → va_W) : Prop := ∀ sz, Met l y (Cond.code y J.2.1 J.2.2.1 J.2.2.2.1 :: wG) J.2.2.2.2 (va_Pc As (nPc D cI w0 sz)) (va_Qv (fun _ : Nat → Nat => True) (nB D wf (va_A w0 sz)) (va_A w0 sz)) J.2.2.2.2.cells J.2.2.2.2.slots (va_A w0 sz)
theorem nPc_blind (D : va_G) (cI : ClassId) (w0 : va_W) (sz : Nat) (As : List Value) : FrameBlind (va_Pc As (nPc D cI w0 sz)) := by
  intro a U g mk q
  obtain ⟨e, q1, q2, q3, q4, q5⟩ := q
  exact ⟨e, q1, q2, va_K.moved (u := U) (U := U.calling g mk a) (Vm.Alike.refl U.vm) q3, q4, fun w hw hn => va_tabs (mNest_on hn) (u := U) (U := U.calling g mk a) rfl (q5 w hw hn)⟩
/-- the goal of a walk of a constructor -/
def nGo (l : Launch) (J : mI) (As : List Value) (D : va_G) (cI : ClassId) (w0 : va_W) (wf : (Nat → Nat) → va_W) : Prop := ∀ (p : Program) (e : Env) (s : State) (m : MethodId) (args : Array Value) (below : List Frame) (meth : Method) (c : Code) (Q : State → Prop) (A : Nat → Prop) (lr : Array Slot), mC none J p s m args meth c D cI (fun _ => 0) A → meth.name = "<init>" → nW D A s.heap s.heap [] w0 → lv_has lr J.2.2.1 (lv_args 0 As) → (∀ (u : Nat → Nat) (H : Heap) (locs : List Loc) (pc : Nat) (lr : Array Slot), nW D A s.heap H locs (wf u) → decode J.2.1 pc = .ok (.return_, 1) → W p l e J.2.2.2.2 s m args below meth c H locs J.2.2.2.2.cells J.2.2.2.2.slots Q (F0 m pc lr [])) → W p l e J.2.2.2.2 s m args below meth c s.heap [] 0 0 Q (F0 m 0 lr [])
theorem n_met {l : Launch} {y : MethodName} {J : mI} {As : List Value} {D : va_G} {cI : ClassId} {w0 : va_W} {wf : (Nat → Nat) → va_W} (hpl : plainName y.cls = true) (hcl : y.cls = J.1) (hr0 : J.2.2.2.1 = none) (hname : y.name = "<init>") (hn : (lg_sl As).length ≤ J.2.2.1) (hE : nGo l J As D cI w0 wf) : nMet l y J As D cI w0 wf := by
  intro sz
  refine Met.ofW (cc := J.2.1) (maxL := J.2.2.1) (ret := J.2.2.2.1) hpl rfl ?_
  intro p e s m args below meth c s₁ B hml hv
  obtain ⟨rfl, hsz, hP, hK, hD0, hN⟩ := hv
  have hts := atoms_spec (ws := Cond.code y J.2.1 J.2.2.1 J.2.2.2.1 :: wG) B.pre
  have hown : s.vm.findClass y.cls = some m.cls := findClass_of_methodNamed B.named
  have hin : meth.name = y.name := (name_of_methodNamed B.named B.method).1
  rw [hcl] at hown
  have hlocks := B.notSynchronized
  subst hsz
  rw [lg_entry_eq]
  refine hE p e s m _ below meth c _ (va_A w0 s.heap.size) _ ⟨B.exec, B.bytes, hml, B.returns, hlocks, hown, fun w h => hts w (List.mem_cons_of_mem _ h), hN, hK, fun q h => Or.inr h, fun L xs q => by cases q⟩ (hin.trans hname) ⟨hP, hD0.self, va_S.rf⟩ (lv_entry As hn) ?_
  intro u H locs pc lr hw hd
  exact W.vret B.exec B.bytes (B.returns.trans hr0) (fun t ht hW => ⟨⟨u, rfl, trivial, by rw [ht]; exact hw.1, hw.2.1⟩, hw.2.2.F ht⟩) hw.2.2.2.2 hd
/-- a constructor's name and words -/
def nY (y : MethodName) (J : mI) (n : Nat) : Prop := plainName y.cls = true ∧ y.cls = J.1 ∧ (y.cls ≠ "java/lang/invoke/MethodHandle" ∧ y.cls ≠ "java/lang/invoke/VarHandle" ∧ (parseMethodDescriptor y.desc).map (fun d => d.parameters.length) = some n) ∧ Cond.code y J.2.1 J.2.2.1 J.2.2.2.1 ∈ wG ∧ Cond.initialized y.cls ∈ wG ∧ y.name = "<init>" ∧ Cond.instanceMethod y ∈ wG ∧ J.2.2.2.1 = none
section MAKE
variable {p : Program} {l : Launch} {e : Env} {s : State} {m : MethodId} {args : Array Value} {below : List Frame} {meth : Method} {c : Code} {H : Heap} {locs : List Loc} {cells slots : Nat} {Q : State → Prop} {sx : Option (Nat × (Nat → Int32))} {I : mI} {D : va_G} {cI : ClassId} {ad : Nat → Nat} {A : Nat → Prop} {pc : Nat} {lr : Array Slot} {rest : List Value} {ws : va_W}
theorem n_call {J : mI} {y : MethodName} {n idx h0 : Nat} {As stk : List Value} {w0 wr : va_W} {wf : (Nat → Nat) → va_W} (C : mC sx I p s m args meth c D cI ad A) (Wd : nW D A s.heap H locs ws) (hM : nMet l y J (.ref h0 :: As) D cI w0 wf) (hd : decode I.2.1 pc = .ok (.invokespecial idx, 3)) (hl : mLk I.1 idx y) (hy : nY y J n) (hn : As.length = n) (isC isR : List Nat) (hC : isC.map (fun i => ws[i]?) = w0.map some) (hRr : isR.map (fun i => ws[i]?) = wr.map some) (hnd : va_nd isC = true) (hnr : va_nd isR = true) (hdis : ∀ i ∈ isR, i ∉ isC) (hsize : lr.size = I.2.2.1) (hstk : stk = As.reverse ++ .ref h0 :: rest) (hq : (rest.map fun v => v.category).sum ≤ 8) (hR : J.2.2.2.2.frames + 1 ≤ I.2.2.2.2.frames ∧ 8 + (J.2.2.1 + 11) + J.2.2.2.2.locals ≤ I.2.2.2.2.locals) (hf : cells + J.2.2.2.2.cells ≤ I.2.2.2.2.cells ∧ slots + J.2.2.2.2.slots ≤ I.2.2.2.2.slots)
    (kk : ∀ (u : Nat → Nat) (H1 : Heap) (locs1 : List Loc), nW D A s.heap H1 locs1 (wr ++ wf u) → W p l e I.2.2.2.2 s m args below meth c H1 locs1 (cells + J.2.2.2.2.cells) (slots + J.2.2.2.2.slots) Q (F0 m (pc + 3) lr rest)) : W p l e I.2.2.2.2 s m args below meth c H locs cells slots Q (F0 m pc lr stk) := by
  obtain ⟨hP, hD, hS⟩ := Wd
  have hK := C.2.2.2.2.2.2.2.2.1
  have hA := C.2.2.2.2.2.2.2.2.2.1
  have hDc : va_D A w0 := hD.sub isC hnd hC
  have hPc : va_P D vwCl w0 H := by
    intro k q hk
    have h1 : (isC.map (fun i => ws[i]?))[k]? = some (some q) := by rw [hC, List.getElem?_map, hk]; rfl
    rw [List.getElem?_map] at h1
    cases hi : isC[k]? with
    | none => rw [hi] at h1; cases h1
    | some i => rw [hi] at h1; exact hP i q (Option.some.inj h1)
  have hFc := va_free (wc := w0) hD hS hA isC hC
  have hG : GoodIn wG (Cond.code y J.2.1 J.2.2.1 J.2.2.2.1 :: wG) := wG_good (fun w h => by
    rcases List.mem_cons.mp h with rfl | h
    · exact hy.2.2.2.1
    · exact h)
  have hfix : CallFix p m c I.2.1 I.2.2.1 s args wG I.1 := ⟨C.1, C.2.1, C.2.2.1, C.2.2.2.2.2.1, C.2.2.2.2.2.2.1⟩
  have hpre : PreS s H (va_Pc (.ref h0 :: As) (nPc D cI w0 H.size)) (.ref h0 :: As) := ⟨nPc_blind D cI w0 H.size _, fun U hU hW => ⟨rfl, by rw [hU], by rw [hU]; exact hPc, va_K.moved hW.alike hK, hDc.weaken (fun _ _ _ _ => trivial), fun w hw hn => mNest_warm hn hW (C.2.2.2.2.2.2.2.1 w hw hn)⟩⟩
  have hrun : va_Run p l e I.2.2.2.2 s m args below meth c H locs cells slots J.2.2.2.2.cells J.2.2.2.2.slots (F0 m pc lr stk) rest (va_Qv (fun _ : Nat → Nat => True) (nB D wf (va_A w0 H.size)) (va_A w0 H.size) (Value.ref h0 :: As).toArray) (va_A w0 H.size) := by
    have hMs := hM H.size
    rw [hy.2.2.2.2.2.2.2] at hMs hG
    rcases hl with hl | ⟨host, hl⟩
    · exact va_runI (As := As) hfix hMs ⟨callB_of n C.2.2.2.2.2.2.1 hG rfl rfl rfl (C.2.2.2.2.2.2.1 _ hy.2.2.2.2.1) (C.2.2.2.2.2.2.1 _ hl) hy.2.2.1 hR, hy.2.2.2.2.2.1, C.2.2.2.2.2.2.1 _ hy.2.2.2.2.2.2.1⟩ hpre rfl hn hsize hstk (lv_room hq) hd hf
    · exact va_runIN (As := As) hfix hMs ⟨va_cnB n C.2.2.2.2.2.2.1 hG rfl rfl rfl (C.2.2.2.2.2.2.2.1 _ hl rfl) (C.2.2.2.2.2.2.1 _ hy.2.2.2.2.1) hy.2.2.1 hR, hy.2.2.2.2.2.1, C.2.2.2.2.2.2.1 _ hy.2.2.2.2.2.2.1⟩ hpre rfl hn hsize hstk (lv_room hq) hd hf
  refine va_callv hrun hS (fun q _ h => hFc q h) hFc (fun u t H1 locs1 ht hvm hw hB hz1 hk1 hS1 => ?_)
  obtain ⟨hP1, hD1⟩ := hB
  rw [ht] at hP1
  obtain ⟨hP2, hD2⟩ := va_join (wr := wr) (w1 := wf u) hP hD isC isR hC hRr hnr hdis hk1 hFc hP1 hD1
  exact kk u H1 locs1 ⟨hP2, hD2, hS1⟩
theorem n_newa {N : Nat} {n : Int32} (C : mC sx I p s m args meth c D cI ad A) (Wd : nW D A s.heap H locs ws) (hn : n = nI N) (hN : N ≤ 12000) (hc1 : cells + 1 ≤ I.2.2.2.2.cells) (hs1 : slots + N ≤ I.2.2.2.2.slots) (hd : decode I.2.1 pc = .ok (.newarray .int, 2)) (kk : ∀ (q : Nat) (H1 : Heap), nW D A s.heap H1 locs (ws ++ [(q, .inl (cI, N, .inl (fun _ => 0)))]) → W p l e I.2.2.2.2 s m args below meth c H1 locs (cells + 1) (slots + N) Q (F0 m (pc + 2) lr (.ref q :: rest))) : W p l e I.2.2.2.2 s m args below meth c H locs cells slots Q (F0 m pc lr (.int n :: rest)) := by
  obtain ⟨hP, hD, hS⟩ := Wd
  have hK := C.2.2.2.2.2.2.2.2.1
  have hA := C.2.2.2.2.2.2.2.2.2.1
  have harr : (Cond.arrayClass (newarray.typeOf .int)).before args s = true := C.2.2.2.2.2.2.1 _ (wG_at 79 (by decide +kernel) rfl)
  refine va_newa C.1 C.2.1 harr (ty := .int) rfl hK hP hD hS hA (N' := N) (a0 := (N, .inl (fun _ => 0))) (fun cA => rfl) (by rw [hn]; intro z; have := Int32.lt_iff_toInt_lt.mp z; rw [nI_toInt (by omega)] at this; have : ((N : Nat) : Int) < 0 := this; omega) (by rw [hn]; exact nI_clamp (by omega)) (by show N * 4 ≤ 536870912; omega) hc1 hs1 hd (fun q cA H1 k1 k2 k3 k4 => ?_)
  have e1 : s.vm.findClass ("[" ++ (FieldType.int).toString) = some cI := (k1.2 0 (cI, .int) rfl).2
  have e2 : s.vm.findClass ("[" ++ (FieldType.int).toString) = some cA := (k1.2 1 (cA, .int) rfl).2
  have e3 : cA = cI := Option.some.inj (e2.symm.trans e1)
  subst e3
  exact kk q H1 ⟨k2, k3, k4⟩
end MAKE
/-- a world that grew, as a world by numbers -/
theorem mws_of {D : va_G} {cI : ClassId} {ad : Nat → Nat} {h : mH} {A : Nat → Prop} {H : Heap} {ws : va_W} (Sh : mS) (sg : Nat → Nat) (hi : ∀ i, i < Sh.length → ∀ j, j < Sh.length → sg i = sg j → i = j) (hw : ∀ (k : Nat) (e : (Nat × List Nat) ⊕ Nat), Sh[k]? = some e → ws[sg k]? = some (ad k, ment ad cI h k e)) (hP : va_P D vwCl ws H) (hD : va_D A ws) : va_P D vwCl (mws Sh ad cI h) H ∧ va_D A (mws Sh ad cI h) := by
  have key : ∀ (k : Nat) (q : Nat × va_E), (mws Sh ad cI h)[k]? = some q → k < Sh.length ∧ ws[sg k]? = some q := by
    intro k q hk
    obtain ⟨-, h2⟩ := mws_addr hk
    obtain ⟨e, he⟩ : ∃ e, Sh[k]? = some e := ⟨_, List.getElem?_eq_getElem h2⟩
    rw [mws_at Sh ad cI h k he] at hk
    exact ⟨h2, by rw [← hk]; exact hw k e he⟩
  refine ⟨fun k q hk => hP _ _ (key k q hk).2, fun i j x y hx hy hxy => ?_, fun k q hk => hD.2 _ _ (key k q hk).2⟩
  exact hi i (key i x hx).1 j (key j y hy).1 (hD.1 _ _ x y (key i x hx).2 (key j y hy).2 hxy)
