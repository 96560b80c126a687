/-! A calculus over the whole world: cells by number, a heap of ints, a judgement mE for a method's place, rules by instruction. -/
abbrev mI : Type := String × ByteArray × Nat × Option FieldType × Room
abbrev mV : Type := Int32 ⊕ Nat
abbrev mH : Type := Nat → Nat → Int32
abbrev mS : Type := List ((Nat × List Nat) ⊕ Nat)
def mv (ad : Nat → Nat) : mV → Value
  | .inl x => .int x
  | .inr k => .ref (ad k)
def mvl (h : mH) (k j : Nat) : Nat → mV
  | 0 => .inl (h k j)
  | 1 => .inl (h k j)
  | 2 => .inr (h k j).toNatClampNeg
  | r + 3 => .inr r
def ment (ad : Nat → Nat) (cI : ClassId) (h : mH) (k : Nat) : ((Nat × List Nat) ⊕ Nat) → va_E
  | .inl q => .inr (q.1, q.2.mapIdx (fun j f => mv ad (mvl h k j f)))
  | .inr n => .inl (cI, n, .inl (h k))
def mws (Sh : mS) (ad : Nat → Nat) (cI : ClassId) (h : mH) : va_W := Sh.mapIdx (fun k s => (ad k, ment ad cI h k s))
def hs (h : mH) (k j : Nat) (v : Int32) : mH := fun a b => if a = k ∧ b = j then v else h a b
def mNest : Cond → Bool
  | .fieldLinkNest .. => true
  | .methodLinkNest .. => true
  | _ => false
def mRet (r : Option FieldType) (v : Int32) : Prop := ∃ ty, r = some ty ∧ narrow ty (.int v) = .int v
theorem mv_cat (ad : Nat → Nat) (v : mV) : (mv ad v).category = 1 := by cases v <;> rfl
theorem mws_at (Sh : mS) (ad : Nat → Nat) (cI : ClassId) (h : mH) (k : Nat) {e : (Nat × List Nat) ⊕ Nat} (he : Sh[k]? = some e) : (mws Sh ad cI h)[k]? = some (ad k, ment ad cI h k e) := by
  simp [mws, List.getElem?_mapIdx, he]
theorem mws_addr {Sh : mS} {ad : Nat → Nat} {cI : ClassId} {h : mH} {k : Nat} {q : Nat × va_E} (hq : (mws Sh ad cI h)[k]? = some q) : q.1 = ad k ∧ k < Sh.length := by
  simp only [mws, List.getElem?_mapIdx] at hq
  cases he : Sh[k]? with
  | none => rw [he] at hq; cases hq
  | some e =>
    rw [he] at hq
    have := (List.getElem?_eq_some_iff.mp he).1
    cases hq
    exact ⟨rfl, this⟩
theorem mws_D {Sh : mS} {ad : Nat → Nat} {cI : ClassId} {h h' : mH} {A : Nat → Prop} (hD : va_D A (mws Sh ad cI h)) : va_D A (mws Sh ad cI h') := by
  have key : ∀ (k : Nat) (q : Nat × va_E), (mws Sh ad cI h')[k]? = some q → ∃ q', (mws Sh ad cI h)[k]? = some q' ∧ q'.1 = q.1 := by
    intro k q hq
    obtain ⟨h1, h2⟩ := mws_addr hq
    obtain ⟨e, he⟩ : ∃ e, Sh[k]? = some e := ⟨_, List.getElem?_eq_getElem h2⟩
    exact ⟨_, mws_at Sh ad cI h k he, h1.symm⟩
  refine ⟨fun i j p q hi hj hpq => ?_, fun k q hk => ?_⟩
  · obtain ⟨p', hp', ep⟩ := key i p hi
    obtain ⟨q', hq', eq⟩ := key j q hj
    exact hD.1 i j p' q' hp' hq' (by rw [ep, eq]; exact hpq)
  · obtain ⟨q', hq', eq⟩ := key k q hk
    rw [← eq]
    exact hD.2 k q' hq'
theorem mws_A {Sh : mS} {ad : Nat → Nat} {cI : ClassId} {h h' : mH} {sz q : Nat} (hq : va_A (mws Sh ad cI h) sz q) : va_A (mws Sh ad cI h') sz q := by
  rcases hq with ⟨k, e, hk⟩ | hq
  · obtain ⟨h1, h2⟩ := mws_addr hk
    obtain ⟨e', he⟩ : ∃ e, Sh[k]? = some e := ⟨_, List.getElem?_eq_getElem h2⟩
    have h3 := mws_at Sh ad cI h' k he
    exact Or.inl ⟨k, _, by rw [h3, ← h1]⟩
  · exact Or.inr hq
theorem hs_at (h : mH) (k j : Nat) (v : Int32) : hs h k j v k j = v := by simp [hs]
theorem hs_ne (h : mH) {k j a b : Nat} (v : Int32) (hne : ¬ (a = k ∧ b = j)) : hs h k j v a b = h a b := by simp [hs, hne]
theorem hs_row (h : mH) (k j : Nat) (v : Int32) : hs h k j v k = upd (h k) j v := by
  funext b
  by_cases hb : b = j
  · subst hb; rw [hs_at, pk_us]
  · rw [hs_ne _ _ (fun q => hb q.2), pk_un hb]
theorem hs_rown (h : mH) {k a : Nat} (j : Nat) (v : Int32) (hne : a ≠ k) : hs h k j v a = h a := by
  funext b
  exact hs_ne _ _ (fun q => hne q.1)
/-- a put into an array's cell -/
theorem mws_setA {Sh : mS} {ad : Nat → Nat} {cI : ClassId} {h : mH} {k n j : Nat} {v : Int32} (he : Sh[k]? = some (.inr n)) : (mws Sh ad cI h).set k (ad k, .inl (cI, n, .inl (upd (h k) j v))) = mws Sh ad cI (hs h k j v) := by
  apply List.ext_getElem?
  intro i
  rw [List.getElem?_set]
  by_cases hi : k = i
  · subst hi
    have hl : k < (mws Sh ad cI h).length := by simp only [mws, List.length_mapIdx]; exact (List.getElem?_eq_some_iff.mp he).1
    rw [if_pos rfl, if_pos hl, mws_at Sh ad cI _ k he]
    simp only [ment, hs_row]
  · rw [if_neg hi]
    cases hei : Sh[i]? with
    | none => simp [mws, List.getElem?_mapIdx, hei]
    | some e =>
      rw [mws_at Sh ad cI _ i hei, mws_at Sh ad cI _ i hei]
      have h1 : hs h k j v i = h i := hs_rown h j v (fun q => hi q.symm)
      have h2 : ∀ j' f, mvl (hs h k j v) i j' f = mvl h i j' f := fun j' f => by
        have h3 : hs h k j v i j' = h i j' := by rw [h1]
        match f with
        | 0 => simp only [mvl, h3]
        | 1 => simp only [mvl, h3]
        | 2 => simp only [mvl, h3]
        | r + 3 => rfl
      cases e with
      | inl q => simp only [ment, h2]
      | inr n => simp only [ment, h1]
/-- a put into a field -/
theorem mws_setF {Sh : mS} {ad : Nat → Nat} {cI : ClassId} {h : mH} {k ci j f : Nat} {fks : List Nat} {x : Int32} {v : mV} (he : Sh[k]? = some (.inl (ci, fks))) (hj : fks[j]? = some f) (hv : mvl (hs h k j x) k j f = v) : (mws Sh ad cI h).set k (ad k, .inr (ci, (fks.mapIdx (fun j f => mv ad (mvl h k j f))).set j (mv ad v))) = mws Sh ad cI (hs h k j x) := by
  apply List.ext_getElem?
  intro i
  rw [List.getElem?_set]
  by_cases hi : k = i
  · subst hi
    have hl : k < (mws Sh ad cI h).length := by simp only [mws, List.length_mapIdx]; exact (List.getElem?_eq_some_iff.mp he).1
    rw [if_pos rfl, if_pos hl, mws_at Sh ad cI _ k he]
    simp only [ment]
    refine congrArg (fun z => some (ad k, Sum.inr (ci, z))) ?_
    apply List.ext_getElem?
    intro b
    rw [List.getElem?_set]
    by_cases hb : j = b
    · subst hb
      have hjl := (List.getElem?_eq_some_iff.mp hj).1
      rw [if_pos rfl, if_pos (by rw [List.length_mapIdx]; exact hjl), List.getElem?_mapIdx, hj]
      simp only [Option.map_some, hv]
    · rw [if_neg hb, List.getElem?_mapIdx, List.getElem?_mapIdx]
      refine congrArg (fun g => Option.map g fks[b]?) ?_
      funext f'
      have h3 : hs h k j x k b = h k b := hs_ne _ _ (fun q => hb q.2.symm)
      match f' with
      | 0 => simp only [mvl, h3]
      | 1 => simp only [mvl, h3]
      | 2 => simp only [mvl, h3]
      | r + 3 => rfl
  · rw [if_neg hi]
    cases hei : Sh[i]? with
    | none => simp [mws, List.getElem?_mapIdx, hei]
    | some e =>
      rw [mws_at Sh ad cI _ i hei, mws_at Sh ad cI _ i hei]
      have h1 : hs h k j x i = h i := hs_rown h j x (fun q => hi q.symm)
      have h2 : ∀ j' f, mvl (hs h k j x) i j' f = mvl h i j' f := fun j' f => by
        have h3 : hs h k j x i j' = h i j' := by rw [h1]
        match f with
        | 0 => simp only [mvl, h3]
        | 1 => simp only [mvl, h3]
        | 2 => simp only [mvl, h3]
        | r + 3 => rfl
      cases e with
      | inl q => simp only [ment, h2]
      | inr n => simp only [ment, h1]
/-- the world: the cells, apart, nothing else changed -/
def mW (Sh : mS) (D : va_G) (cI : ClassId) (ad : Nat → Nat) (A : Nat → Prop) (H0 : Heap) (H : Heap) (locs : List Loc) (h : mH) : Prop := va_P D vwCl (mws Sh ad cI h) H ∧ va_D A (mws Sh ad cI h) ∧ va_S A H0 H locs
/-- the locals -/
def mL (ad : Nat → Nat) (nL : Nat) (ls : List (Option mV)) (lr : Array Slot) : Prop := lr.size = nL ∧ lv_wf lr ∧ ∀ (i : Nat) (v : mV), ls[i]? = some (some v) → lr[i]? = some (.val (mv ad v))
def mC (sx : Option (Nat × (Nat → Int32))) (I : mI) (p : Program) (s : State) (m : MethodId) (args : Array Value) (meth : Method) (c : Code) (D : va_G) (cI : ClassId) (ad : Nat → Nat) (A : Nat → Prop) : Prop :=
  p.tables.exec = Jvm.exec ∧ c.code = I.2.1 ∧ c.maxLocals = I.2.2.1 ∧ meth.sig.returnType = I.2.2.2.1 ∧ meth.locks = false ∧ s.vm.findClass I.1 = some m.cls ∧ (∀ w ∈ wG, w.before args s = true) ∧ (∀ w ∈ lw_tbl, mNest w = true → va_Nw w s) ∧ va_K D vwCl [(cI, .int)] s ∧ (∀ q : Nat, s.heap.size ≤ q → A q) ∧ (∀ (L : Nat) (xs : Nat → Int32), sx = some (L, xs) → va_X (ad 1000) L xs s s.heap ∧ ad 1000 < s.heap.size ∧ ¬ A (ad 1000))
def mF (l : Launch) (Sh : mS) (I : mI) (RT : Option Int32 → mH → Prop) (p : Program) (e : Env) (s : State) (m : MethodId) (args : Array Value) (below : List Frame) (meth : Method) (c : Code) (Q : State → Prop) (D : va_G) (cI : ClassId) (ad : Nat → Nat) (A : Nat → Prop) : Prop :=
  (∀ (v : Int32) (h : mH) (H : Heap) (locs : List Loc) (pc : Nat) (lr : Array Slot), RT (some v) h → mRet I.2.2.2.1 v → mW Sh D cI ad A s.heap H locs h → decode I.2.1 pc = .ok (.ireturn, 1) → W p l e I.2.2.2.2 s m args below meth c H locs 0 0 Q (F0 m pc lr [.int v])) ∧
  (∀ (h : mH) (H : Heap) (locs : List Loc) (pc : Nat) (lr : Array Slot), RT none h → I.2.2.2.1 = none → mW Sh D cI ad A s.heap H locs h → decode I.2.1 pc = .ok (.return_, 1) → W p l e I.2.2.2.2 s m args below meth c H locs 0 0 Q (F0 m pc lr []))
/-- from this place of method I, with locals ls, stack st and heap h, the method comes to an end that RT takes -/
def mE (l : Launch) (Sh : mS) (sx : Option (Nat × (Nat → Int32))) (I : mI) (RT : Option Int32 → mH → Prop) (pc : Nat) (ls : List (Option mV)) (st : List mV) (h : mH) : Prop :=
  ∀ (p : Program) (e : Env) (s : State) (m : MethodId) (args : Array Value) (below : List Frame) (meth : Method) (c : Code) (Q : State → Prop) (D : va_G) (cI : ClassId) (ad : Nat → Nat) (A : Nat → Prop) (H : Heap) (locs : List Loc) (lr : Array Slot), mC sx I p s m args meth c D cI ad A → mF l Sh I RT p e s m args below meth c Q D cI ad A → mW Sh D cI ad A s.heap H locs h → mL ad I.2.2.1 ls lr → W p l e I.2.2.2.2 s m args below meth c H locs 0 0 Q (F0 m pc lr (st.map (mv ad)))
def mAl (ad : Nat → Nat) : Nat → List (Option mV) → List (Nat × Value)
  | _, [] => []
  | i, none :: t => mAl ad (i + 1) t
  | i, some v :: t => (i, mv ad v) :: mAl ad (i + 1) t
theorem mAl_in {ad : Nat → Nat} : ∀ {ls : List (Option mV)} {i0 : Nat} {q : Nat × Value}, q ∈ mAl ad i0 ls → ∃ (i : Nat) (v : mV), ls[i]? = some (some v) ∧ q = (i0 + i, mv ad v)
  | [], _, _, h => by cases h
  | none :: t, i0, q, h => by
    obtain ⟨i, v, h1, h2⟩ := mAl_in (ls := t) (i0 := i0 + 1) h
    exact ⟨i + 1, v, by simpa using h1, by rw [h2, Nat.add_assoc, Nat.add_comm 1 i]⟩
  | some v :: t, i0, q, h => by
    rcases List.mem_cons.mp h with h | h
    · exact ⟨0, v, rfl, h⟩
    · obtain ⟨i, v, h1, h2⟩ := mAl_in (ls := t) (i0 := i0 + 1) h
      exact ⟨i + 1, v, by simpa using h1, by rw [h2, Nat.add_assoc, Nat.add_comm 1 i]⟩
theorem mAl_mem {ad : Nat → Nat} : ∀ {ls : List (Option mV)} {i0 i : Nat} {v : mV}, ls[i]? = some (some v) → (i0 + i, mv ad v) ∈ mAl ad i0 ls
  | [], _, _, _, h => by simp at h
  | none :: t, i0, 0, v, h => by simp at h
  | none :: t, i0, i + 1, v, h => by
    have := mAl_mem (ad := ad) (ls := t) (i0 := i0 + 1) (i := i) (v := v) (by simpa using h)
    rw [Nat.add_assoc, Nat.add_comm 1 i] at this
    exact this
  | some w :: t, i0, 0, v, h => by
    simp at h
    subst h
    exact List.mem_cons_self
  | some w :: t, i0, i + 1, v, h => by
    have := mAl_mem (ad := ad) (ls := t) (i0 := i0 + 1) (i := i) (v := v) (by simpa using h)
    rw [Nat.add_assoc, Nat.add_comm 1 i] at this
    exact List.mem_cons_of_mem _ this
theorem mL_has {ad : Nat → Nat} {nL : Nat} {ls : List (Option mV)} {lr : Array Slot} (L : mL ad nL ls lr) : lv_has lr nL (mAl ad 0 ls) := by
  refine ⟨L.1, L.2.1, fun q hq => ?_⟩
  obtain ⟨i, v, h1, h2⟩ := mAl_in hq
  rw [h2]
  simpa using L.2.2 i v h1
theorem mL_st {ad : Nat → Nat} {nL i : Nat} {ls : List (Option mV)} {lr : Array Slot} {v : mV} (h : lv_has lr nL ((i, mv ad v) :: (mAl ad 0 ls).filter (fun q => !(q.1 == i) && !(q.1 + 1 == i && q.2.category == 2)))) : mL ad nL (ls.set i (some v)) lr := by
  refine ⟨h.1, h.2.1, fun j w hj => ?_⟩
  rw [List.getElem?_set] at hj
  by_cases hi : i = j
  · subst hi
    rw [if_pos rfl] at hj
    split at hj
    · cases hj
      exact h.2.2 _ List.mem_cons_self
    · cases hj
  · rw [if_neg hi] at hj
    have h1 := mAl_mem (ad := ad) (i0 := 0) hj
    rw [Nat.zero_add] at h1
    refine h.2.2 (j, mv ad w) (List.mem_cons_of_mem _ (List.mem_filter.mpr ⟨h1, ?_⟩))
    have h2 : ¬ j = i := fun q => hi q.symm
    simp [h2, mv_cat]
section RULES
variable {l : Launch} {Sh : mS} {sx : Option (Nat × (Nat → Int32))} {I : mI} {RT : Option Int32 → mH → Prop} {pc : Nat} {ls : List (Option mV)} {st : List mV} {h : mH}
theorem mE_mono {RT' : Option Int32 → mH → Prop} (hm : ∀ v h, RT v h → RT' v h) (k : mE l Sh sx I RT pc ls st h) : mE l Sh sx I RT' pc ls st h := fun p e s m args below meth c Q D cI ad A H locs lr C F Wd L => k p e s m args below meth c Q D cI ad A H locs lr C ⟨fun v h H locs pc lr r => F.1 v h H locs pc lr (hm _ _ r), fun h H locs pc lr r => F.2 h H locs pc lr (hm _ _ r)⟩ Wd L
theorem e_iadd {x y : Int32} (hd : decode I.2.1 pc = .ok (.iadd, 1))  (k : mE l Sh sx I RT (pc + 1) ls (.inl (x + y) :: st) h) : mE l Sh sx I RT pc ls (.inl y :: .inl x :: st) h := by
  intro p e s m args below meth c Q D cI ad A H locs lr C F Wd L
  exact lv_iadd C.1 C.2.1 hd  (k p e s m args below meth c Q D cI ad A H locs lr C F Wd L)
theorem e_isub {x y : Int32} (hd : decode I.2.1 pc = .ok (.isub, 1))  (k : mE l Sh sx I RT (pc + 1) ls (.inl (x - y) :: st) h) : mE l Sh sx I RT pc ls (.inl y :: .inl x :: st) h := by
  intro p e s m args below meth c Q D cI ad A H locs lr C F Wd L
  exact lv_isub C.1 C.2.1 hd  (k p e s m args below meth c Q D cI ad A H locs lr C F Wd L)
theorem e_imul {x y : Int32} (hd : decode I.2.1 pc = .ok (.imul, 1))  (k : mE l Sh sx I RT (pc + 1) ls (.inl (x * y) :: st) h) : mE l Sh sx I RT pc ls (.inl y :: .inl x :: st) h := by
  intro p e s m args below meth c Q D cI ad A H locs lr C F Wd L
  exact lv_imul C.1 C.2.1 hd  (k p e s m args below meth c Q D cI ad A H locs lr C F Wd L)
theorem e_iand {x y : Int32} (hd : decode I.2.1 pc = .ok (.iand, 1))  (k : mE l Sh sx I RT (pc + 1) ls (.inl (x &&& y) :: st) h) : mE l Sh sx I RT pc ls (.inl y :: .inl x :: st) h := by
  intro p e s m args below meth c Q D cI ad A H locs lr C F Wd L
  exact lv_iand C.1 C.2.1 hd  (k p e s m args below meth c Q D cI ad A H locs lr C F Wd L)
theorem e_ior {x y : Int32} (hd : decode I.2.1 pc = .ok (.ior, 1))  (k : mE l Sh sx I RT (pc + 1) ls (.inl (x ||| y) :: st) h) : mE l Sh sx I RT pc ls (.inl y :: .inl x :: st) h := by
  intro p e s m args below meth c Q D cI ad A H locs lr C F Wd L
  exact lv_ior C.1 C.2.1 hd  (k p e s m args below meth c Q D cI ad A H locs lr C F Wd L)
theorem e_ixor {x y : Int32} (hd : decode I.2.1 pc = .ok (.ixor, 1))  (k : mE l Sh sx I RT (pc + 1) ls (.inl (x ^^^ y) :: st) h) : mE l Sh sx I RT pc ls (.inl y :: .inl x :: st) h := by
  intro p e s m args below meth c Q D cI ad A H locs lr C F Wd L
  exact lv_ixor C.1 C.2.1 hd  (k p e s m args below meth c Q D cI ad A H locs lr C F Wd L)
theorem e_ishl {x y : Int32} (hd : decode I.2.1 pc = .ok (.ishl, 1))  (k : mE l Sh sx I RT (pc + 1) ls (.inl (x <<< (y &&& 31)) :: st) h) : mE l Sh sx I RT pc ls (.inl y :: .inl x :: st) h := by
  intro p e s m args below meth c Q D cI ad A H locs lr C F Wd L
  exact lv_ishl C.1 C.2.1 hd  (k p e s m args below meth c Q D cI ad A H locs lr C F Wd L)
theorem e_ishr {x y : Int32} (hd : decode I.2.1 pc = .ok (.ishr, 1))  (k : mE l Sh sx I RT (pc + 1) ls (.inl (x >>> (y &&& 31)) :: st) h) : mE l Sh sx I RT pc ls (.inl y :: .inl x :: st) h := by
  intro p e s m args below meth c Q D cI ad A H locs lr C F Wd L
  exact lv_ishr C.1 C.2.1 hd  (k p e s m args below meth c Q D cI ad A H locs lr C F Wd L)
theorem e_idiv {x y : Int32} (hd : decode I.2.1 pc = .ok (.idiv, 1)) (hne : ¬ y = 0) (k : mE l Sh sx I RT (pc + 1) ls (.inl (x / y) :: st) h) : mE l Sh sx I RT pc ls (.inl y :: .inl x :: st) h := by
  intro p e s m args below meth c Q D cI ad A H locs lr C F Wd L
  exact lv_idiv C.1 C.2.1 hd hne (k p e s m args below meth c Q D cI ad A H locs lr C F Wd L)
theorem e_irem {x y : Int32} (hd : decode I.2.1 pc = .ok (.irem, 1)) (hne : ¬ y = 0) (k : mE l Sh sx I RT (pc + 1) ls (.inl (x - x / y * y) :: st) h) : mE l Sh sx I RT pc ls (.inl y :: .inl x :: st) h := by
  intro p e s m args below meth c Q D cI ad A H locs lr C F Wd L
  exact lv_irem C.1 C.2.1 hd hne (k p e s m args below meth c Q D cI ad A H locs lr C F Wd L)
theorem e_iconst {n : Int} {v : Int32} (hd : decode I.2.1 pc = .ok (.iconst n, 1)) (hv : Int32.ofInt n = v) (k : mE l Sh sx I RT (pc + 1) ls (.inl v :: st) h) : mE l Sh sx I RT pc ls (st) h := by
  intro p e s m args below meth c Q D cI ad A H locs lr C F Wd L
  exact lv_iconst C.1 C.2.1 hd hv (k p e s m args below meth c Q D cI ad A H locs lr C F Wd L)
theorem e_bipush {n : Int} {v : Int32} (hd : decode I.2.1 pc = .ok (.bipush n, 2)) (hv : (Int8.ofInt n).toInt32 = v) (k : mE l Sh sx I RT (pc + 2) ls (.inl v :: st) h) : mE l Sh sx I RT pc ls (st) h := by
  intro p e s m args below meth c Q D cI ad A H locs lr C F Wd L
  exact lv_bipush C.1 C.2.1 hd hv (k p e s m args below meth c Q D cI ad A H locs lr C F Wd L)
theorem e_sipush {n : Int} {v : Int32} (hd : decode I.2.1 pc = .ok (.sipush n, 3)) (hv : (Int16.ofInt n).toInt32 = v) (k : mE l Sh sx I RT (pc + 3) ls (.inl v :: st) h) : mE l Sh sx I RT pc ls (st) h := by
  intro p e s m args below meth c Q D cI ad A H locs lr C F Wd L
  exact lv_sipush C.1 C.2.1 hd hv (k p e s m args below meth c Q D cI ad A H locs lr C F Wd L)
theorem e_dup {v : mV} (hd : decode I.2.1 pc = .ok (.dup, 1))  (k : mE l Sh sx I RT (pc + 1) ls (v :: v :: st) h) : mE l Sh sx I RT pc ls (v :: st) h := by
  intro p e s m args below meth c Q D cI ad A H locs lr C F Wd L
  exact lv_dup C.1 C.2.1 hd (mv_cat ad v) (k p e s m args below meth c Q D cI ad A H locs lr C F Wd L)
theorem e_pop {v : mV} (hd : decode I.2.1 pc = .ok (.pop, 1))  (k : mE l Sh sx I RT (pc + 1) ls (st) h) : mE l Sh sx I RT pc ls (v :: st) h := by
  intro p e s m args below meth c Q D cI ad A H locs lr C F Wd L
  exact lv_pop C.1 C.2.1 hd (mv_cat ad v) (k p e s m args below meth c Q D cI ad A H locs lr C F Wd L)
theorem e_dup2 {v v2 : mV} (hd : decode I.2.1 pc = .ok (.dup2, 1))  (k : mE l Sh sx I RT (pc + 1) ls (v :: v2 :: v :: v2 :: st) h) : mE l Sh sx I RT pc ls (v :: v2 :: st) h := by
  intro p e s m args below meth c Q D cI ad A H locs lr C F Wd L
  exact lv_dup2_11 C.1 C.2.1 hd (mv_cat ad v) (mv_cat ad v2) (k p e s m args below meth c Q D cI ad A H locs lr C F Wd L)
theorem e_iload_n {n : Fin 4} {i : Nat} {x : Int32} (hd : decode I.2.1 pc = .ok (.iload_n n, 1)) (hi : (n : Nat) = i) (hl : ls[i]? = some (some (.inl x))) (k : mE l Sh sx I RT (pc + 1) ls (.inl x :: st) h) : mE l Sh sx I RT pc ls (st) h := by
  intro p e s m args below meth c Q D cI ad A H locs lr C F Wd L
  exact lv_iload_n C.1 C.2.1 hd hi (L.2.2 _ _ hl) (k p e s m args below meth c Q D cI ad A H locs lr C F Wd L)
theorem e_iload {i : Nat} {x : Int32} (hd : decode I.2.1 pc = .ok (.iload i, 2)) (hl : ls[i]? = some (some (.inl x))) (k : mE l Sh sx I RT (pc + 2) ls (.inl x :: st) h) : mE l Sh sx I RT pc ls (st) h := by
  intro p e s m args below meth c Q D cI ad A H locs lr C F Wd L
  exact lv_iload C.1 C.2.1 hd (L.2.2 _ _ hl) (k p e s m args below meth c Q D cI ad A H locs lr C F Wd L)
theorem e_aload_n {n : Fin 4} {i : Nat} {x : Nat} (hd : decode I.2.1 pc = .ok (.aload_n n, 1)) (hi : (n : Nat) = i) (hl : ls[i]? = some (some (.inr x))) (k : mE l Sh sx I RT (pc + 1) ls (.inr x :: st) h) : mE l Sh sx I RT pc ls (st) h := by
  intro p e s m args below meth c Q D cI ad A H locs lr C F Wd L
  exact lv_aload_n C.1 C.2.1 hd hi (L.2.2 _ _ hl) (k p e s m args below meth c Q D cI ad A H locs lr C F Wd L)
theorem e_aload {i : Nat} {x : Nat} (hd : decode I.2.1 pc = .ok (.aload i, 2)) (hl : ls[i]? = some (some (.inr x))) (k : mE l Sh sx I RT (pc + 2) ls (.inr x :: st) h) : mE l Sh sx I RT pc ls (st) h := by
  intro p e s m args below meth c Q D cI ad A H locs lr C F Wd L
  exact lv_aload C.1 C.2.1 hd (L.2.2 _ _ hl) (k p e s m args below meth c Q D cI ad A H locs lr C F Wd L)
theorem e_ldc {index : Nat} {v : Int32} (hd : decode I.2.1 pc = .ok (.ldc index, 2)) (hw : Cond.constant I.1 index v ∈ wG) (k : mE l Sh sx I RT (pc + 2) ls (.inl v :: st) h) : mE l Sh sx I RT pc ls st h := by
  intro p e s m args below meth c Q D cI ad A H locs lr C F Wd L
  exact lv_ldc C.1 C.2.1 C.2.2.2.2.2.1 (C.2.2.2.2.2.2.1 _ hw) hd (k p e s m args below meth c Q D cI ad A H locs lr C F Wd L)
theorem e_istore_n {n : Fin 4} {i : Nat} {x : Int32} {ls2 : List (Option mV)} (hd : decode I.2.1 pc = .ok (.istore_n n, 1)) (hi : (n : Nat) = i) (hn : i < I.2.2.1) (hl : ls.set i (some (.inl x)) = ls2) (k : mE l Sh sx I RT (pc + 1) ls2 st h) : mE l Sh sx I RT pc ls (.inl x :: st) h := by
  intro p e s m args below meth c Q D cI ad A H locs lr C F Wd L
  exact lv_istore_n C.1 C.2.1 hd hi (mL_has L) hn rfl (fun lr2 hl2 => k p e s m args below meth c Q D cI ad A H locs lr2 C F Wd (by rw [← hl]; exact mL_st hl2))
theorem e_istore {i : Nat} {x : Int32} {ls2 : List (Option mV)} (hd : decode I.2.1 pc = .ok (.istore i, 2)) (hn : i < I.2.2.1) (hl : ls.set i (some (.inl x)) = ls2) (k : mE l Sh sx I RT (pc + 2) ls2 st h) : mE l Sh sx I RT pc ls (.inl x :: st) h := by
  intro p e s m args below meth c Q D cI ad A H locs lr C F Wd L
  exact lv_istore C.1 C.2.1 hd (mL_has L) hn rfl (fun lr2 hl2 => k p e s m args below meth c Q D cI ad A H locs lr2 C F Wd (by rw [← hl]; exact mL_st hl2))
theorem e_iinc {i : Nat} {n : Int} {x v : Int32} {ls2 : List (Option mV)} (hd : decode I.2.1 pc = .ok (.iinc i n, 3)) (hx : ls[i]? = some (some (.inl x))) (hv : x + Int32.ofInt n = v) (hn : i < I.2.2.1) (hl : ls.set i (some (.inl v)) = ls2) (k : mE l Sh sx I RT (pc + 3) ls2 st h) : mE l Sh sx I RT pc ls st h := by
  intro p e s m args below meth c Q D cI ad A H locs lr C F Wd L
  have hm := mAl_mem (ad := ad) (i0 := 0) hx
  rw [Nat.zero_add] at hm
  obtain ⟨kk, hkk⟩ := List.getElem?_of_mem hm
  exact lv_iinc C.1 C.2.1 hd (mL_has L) hkk hv hn rfl (fun lr2 hl2 => k p e s m args below meth c Q D cI ad A H locs lr2 C F Wd (by rw [← hl]; exact mL_st hl2))
theorem e_if_eq {x : Int32} {off : Int} {tgt : Nat} (hd : decode I.2.1 pc = .ok (.ifCond .eq off, 3)) (ht : (pc : Int) + off = (tgt : Int)) (kt : x = 0 → mE l Sh sx I RT tgt ls st h) (kf : ¬ x = 0 → mE l Sh sx I RT (pc + 3) ls st h) : mE l Sh sx I RT pc ls (.inl x :: st) h := by
  intro p e s m args below meth c Q D cI ad A H locs lr C F Wd L
  exact lv_if_eq C.1 C.2.1 hd ht (fun q => kt q p e s m args below meth c Q D cI ad A H locs lr C F Wd L) (fun q => kf q p e s m args below meth c Q D cI ad A H locs lr C F Wd L)
theorem e_icmp_eq {x y : Int32} {off : Int} {tgt : Nat} (hd : decode I.2.1 pc = .ok (.if_icmp .eq off, 3)) (ht : (pc : Int) + off = (tgt : Int)) (kt : x = y → mE l Sh sx I RT tgt ls st h) (kf : ¬ x = y → mE l Sh sx I RT (pc + 3) ls st h) : mE l Sh sx I RT pc ls (.inl y :: .inl x :: st) h := by
  intro p e s m args below meth c Q D cI ad A H locs lr C F Wd L
  exact lv_icmp_eq C.1 C.2.1 hd ht (fun q => kt q p e s m args below meth c Q D cI ad A H locs lr C F Wd L) (fun q => kf q p e s m args below meth c Q D cI ad A H locs lr C F Wd L)
theorem e_if_ne {x : Int32} {off : Int} {tgt : Nat} (hd : decode I.2.1 pc = .ok (.ifCond .ne off, 3)) (ht : (pc : Int) + off = (tgt : Int)) (kt : ¬ x = 0 → mE l Sh sx I RT tgt ls st h) (kf : x = 0 → mE l Sh sx I RT (pc + 3) ls st h) : mE l Sh sx I RT pc ls (.inl x :: st) h := by
  intro p e s m args below meth c Q D cI ad A H locs lr C F Wd L
  exact lv_if_ne C.1 C.2.1 hd ht (fun q => kt q p e s m args below meth c Q D cI ad A H locs lr C F Wd L) (fun q => kf q p e s m args below meth c Q D cI ad A H locs lr C F Wd L)
theorem e_icmp_ne {x y : Int32} {off : Int} {tgt : Nat} (hd : decode I.2.1 pc = .ok (.if_icmp .ne off, 3)) (ht : (pc : Int) + off = (tgt : Int)) (kt : ¬ x = y → mE l Sh sx I RT tgt ls st h) (kf : x = y → mE l Sh sx I RT (pc + 3) ls st h) : mE l Sh sx I RT pc ls (.inl y :: .inl x :: st) h := by
  intro p e s m args below meth c Q D cI ad A H locs lr C F Wd L
  exact lv_icmp_ne C.1 C.2.1 hd ht (fun q => kt q p e s m args below meth c Q D cI ad A H locs lr C F Wd L) (fun q => kf q p e s m args below meth c Q D cI ad A H locs lr C F Wd L)
theorem e_if_lt {x : Int32} {off : Int} {tgt : Nat} (hd : decode I.2.1 pc = .ok (.ifCond .lt off, 3)) (ht : (pc : Int) + off = (tgt : Int)) (kt : x < 0 → mE l Sh sx I RT tgt ls st h) (kf : ¬ x < 0 → mE l Sh sx I RT (pc + 3) ls st h) : mE l Sh sx I RT pc ls (.inl x :: st) h := by
  intro p e s m args below meth c Q D cI ad A H locs lr C F Wd L
  exact lv_if_lt C.1 C.2.1 hd ht (fun q => kt q p e s m args below meth c Q D cI ad A H locs lr C F Wd L) (fun q => kf q p e s m args below meth c Q D cI ad A H locs lr C F Wd L)
theorem e_icmp_lt {x y : Int32} {off : Int} {tgt : Nat} (hd : decode I.2.1 pc = .ok (.if_icmp .lt off, 3)) (ht : (pc : Int) + off = (tgt : Int)) (kt : x < y → mE l Sh sx I RT tgt ls st h) (kf : ¬ x < y → mE l Sh sx I RT (pc + 3) ls st h) : mE l Sh sx I RT pc ls (.inl y :: .inl x :: st) h := by
  intro p e s m args below meth c Q D cI ad A H locs lr C F Wd L
  exact lv_icmp_lt C.1 C.2.1 hd ht (fun q => kt q p e s m args below meth c Q D cI ad A H locs lr C F Wd L) (fun q => kf q p e s m args below meth c Q D cI ad A H locs lr C F Wd L)
theorem e_if_ge {x : Int32} {off : Int} {tgt : Nat} (hd : decode I.2.1 pc = .ok (.ifCond .ge off, 3)) (ht : (pc : Int) + off = (tgt : Int)) (kt : 0 ≤ x → mE l Sh sx I RT tgt ls st h) (kf : ¬ 0 ≤ x → mE l Sh sx I RT (pc + 3) ls st h) : mE l Sh sx I RT pc ls (.inl x :: st) h := by
  intro p e s m args below meth c Q D cI ad A H locs lr C F Wd L
  exact lv_if_ge C.1 C.2.1 hd ht (fun q => kt q p e s m args below meth c Q D cI ad A H locs lr C F Wd L) (fun q => kf q p e s m args below meth c Q D cI ad A H locs lr C F Wd L)
theorem e_icmp_ge {x y : Int32} {off : Int} {tgt : Nat} (hd : decode I.2.1 pc = .ok (.if_icmp .ge off, 3)) (ht : (pc : Int) + off = (tgt : Int)) (kt : y ≤ x → mE l Sh sx I RT tgt ls st h) (kf : ¬ y ≤ x → mE l Sh sx I RT (pc + 3) ls st h) : mE l Sh sx I RT pc ls (.inl y :: .inl x :: st) h := by
  intro p e s m args below meth c Q D cI ad A H locs lr C F Wd L
  exact lv_icmp_ge C.1 C.2.1 hd ht (fun q => kt q p e s m args below meth c Q D cI ad A H locs lr C F Wd L) (fun q => kf q p e s m args below meth c Q D cI ad A H locs lr C F Wd L)
theorem e_if_gt {x : Int32} {off : Int} {tgt : Nat} (hd : decode I.2.1 pc = .ok (.ifCond .gt off, 3)) (ht : (pc : Int) + off = (tgt : Int)) (kt : 0 < x → mE l Sh sx I RT tgt ls st h) (kf : ¬ 0 < x → mE l Sh sx I RT (pc + 3) ls st h) : mE l Sh sx I RT pc ls (.inl x :: st) h := by
  intro p e s m args below meth c Q D cI ad A H locs lr C F Wd L
  exact lv_if_gt C.1 C.2.1 hd ht (fun q => kt q p e s m args below meth c Q D cI ad A H locs lr C F Wd L) (fun q => kf q p e s m args below meth c Q D cI ad A H locs lr C F Wd L)
theorem e_icmp_gt {x y : Int32} {off : Int} {tgt : Nat} (hd : decode I.2.1 pc = .ok (.if_icmp .gt off, 3)) (ht : (pc : Int) + off = (tgt : Int)) (kt : y < x → mE l Sh sx I RT tgt ls st h) (kf : ¬ y < x → mE l Sh sx I RT (pc + 3) ls st h) : mE l Sh sx I RT pc ls (.inl y :: .inl x :: st) h := by
  intro p e s m args below meth c Q D cI ad A H locs lr C F Wd L
  exact lv_icmp_gt C.1 C.2.1 hd ht (fun q => kt q p e s m args below meth c Q D cI ad A H locs lr C F Wd L) (fun q => kf q p e s m args below meth c Q D cI ad A H locs lr C F Wd L)
theorem e_if_le {x : Int32} {off : Int} {tgt : Nat} (hd : decode I.2.1 pc = .ok (.ifCond .le off, 3)) (ht : (pc : Int) + off = (tgt : Int)) (kt : x ≤ 0 → mE l Sh sx I RT tgt ls st h) (kf : ¬ x ≤ 0 → mE l Sh sx I RT (pc + 3) ls st h) : mE l Sh sx I RT pc ls (.inl x :: st) h := by
  intro p e s m args below meth c Q D cI ad A H locs lr C F Wd L
  exact lv_if_le C.1 C.2.1 hd ht (fun q => kt q p e s m args below meth c Q D cI ad A H locs lr C F Wd L) (fun q => kf q p e s m args below meth c Q D cI ad A H locs lr C F Wd L)
theorem e_icmp_le {x y : Int32} {off : Int} {tgt : Nat} (hd : decode I.2.1 pc = .ok (.if_icmp .le off, 3)) (ht : (pc : Int) + off = (tgt : Int)) (kt : x ≤ y → mE l Sh sx I RT tgt ls st h) (kf : ¬ x ≤ y → mE l Sh sx I RT (pc + 3) ls st h) : mE l Sh sx I RT pc ls (.inl y :: .inl x :: st) h := by
  intro p e s m args below meth c Q D cI ad A H locs lr C F Wd L
  exact lv_icmp_le C.1 C.2.1 hd ht (fun q => kt q p e s m args below meth c Q D cI ad A H locs lr C F Wd L) (fun q => kf q p e s m args below meth c Q D cI ad A H locs lr C F Wd L)
theorem e_goto {off : Int} {tgt : Nat} (hd : decode I.2.1 pc = .ok (.goto off, 3)) (ht : (pc : Int) + off = (tgt : Int)) (k : mE l Sh sx I RT tgt ls st h) : mE l Sh sx I RT pc ls st h := by
  intro p e s m args below meth c Q D cI ad A H locs lr C F Wd L
  exact lv_goto C.1 C.2.1 hd ht (k p e s m args below meth c Q D cI ad A H locs lr C F Wd L)
theorem e_lookup {dflt : Int} {ps : Array (Int × Int)} {len : Nat} {x : Int32} {off : Int} {tgt : Nat} (hd : decode I.2.1 pc = .ok (.lookupswitch dflt ps, len)) (hp : (ps.toList.zip (ps.toList.drop 1)).all (fun (a, next) => a.1 < next.1) = true) (ho : Op.lookupswitch.offset ps.toList dflt x.toInt = off) (ht : (pc : Int) + off = (tgt : Int)) (k : mE l Sh sx I RT tgt ls st h) : mE l Sh sx I RT pc ls (.inl x :: st) h := by
  intro p e s m args below meth c Q D cI ad A H locs lr C F Wd L
  exact lv_lookup C.1 C.2.1 hd hp ho ht (k p e s m args below meth c Q D cI ad A H locs lr C F Wd L)
theorem e_tableOut {dflt lo hi : Int} {offs : Array Int} {len : Nat} {x : Int32} {tgt : Nat} (hd : decode I.2.1 pc = .ok (.tableswitch dflt lo hi offs, len)) (hq : x.toInt < lo ∨ hi < x.toInt) (ht : (pc : Int) + dflt = (tgt : Int)) (k : mE l Sh sx I RT tgt ls st h) : mE l Sh sx I RT pc ls (.inl x :: st) h := by
  intro p e s m args below meth c Q D cI ad A H locs lr C F Wd L
  exact lv_tableOut C.1 C.2.1 hd hq ht (k p e s m args below meth c Q D cI ad A H locs lr C F Wd L)
theorem e_tableIn {dflt lo hi : Int} {offs : Array Int} {len : Nat} {x : Int32} {off : Int} {tgt : Nat} (hd : decode I.2.1 pc = .ok (.tableswitch dflt lo hi offs, len)) (h1 : ¬ x.toInt < lo) (h2 : ¬ hi < x.toInt) (ho : offs[(x.toInt - lo).toNat]? = some off) (ht : (pc : Int) + off = (tgt : Int)) (k : mE l Sh sx I RT tgt ls st h) : mE l Sh sx I RT pc ls (.inl x :: st) h := by
  intro p e s m args below meth c Q D cI ad A H locs lr C F Wd L
  exact lv_tableIn C.1 C.2.1 hd h1 h2 ho ht (k p e s m args below meth c Q D cI ad A H locs lr C F Wd L)
theorem e_iret {v : Int32} (hd : decode I.2.1 pc = .ok (.ireturn, 1)) (hr : mRet I.2.2.2.1 v) (r : RT (some v) h) : mE l Sh sx I RT pc ls [.inl v] h := by
  intro p e s m args below meth c Q D cI ad A H locs lr C F Wd L
  exact F.1 v h H locs pc lr r hr Wd hd
theorem e_ret (hd : decode I.2.1 pc = .ok (.return_, 1)) (hr : I.2.2.2.1 = none) (r : RT none h) : mE l Sh sx I RT pc ls [] h := by
  intro p e s m args below meth c Q D cI ad A H locs lr C F Wd L
  exact F.2 h H locs pc lr r hr Wd hd
/-- a field's link -/
def mFL (own : String) (idx ci j : Nat) : Prop := ∃ (C : String) (T : u_T) (N : Nat), vwCl[ci]? = some (C, T, N) ∧ j < N ∧ (∀ w ∈ u_ws C T N, w ∈ wG) ∧ (Cond.fieldLink own idx (T j).1 (T j).2.1 (T j).2.2.1 ∈ wG ∨ ∃ host, Cond.fieldLinkNest own idx (T j).1 (T j).2.1 (T j).2.2.1 host ∈ lw_tbl)
def mFP (ci j : Nat) (ty : FieldType) : Prop := ∃ (C : String) (T : u_T) (N : Nat), vwCl[ci]? = some (C, T, N) ∧ (∃ ty0 : Nat → FieldType, ∀ k, k < N → parseFieldDescriptor (T k).2.2.1 = some (ty0 k)) ∧ (∀ a, a < N → ∀ b, b < N → a ≠ b → (T a).2.1 ≠ (T b).2.1) ∧ (T j).2.2.2 = false ∧ parseFieldDescriptor (T j).2.2.1 = some ty
theorem e_get {idx ci j k f : Nat} {fks : List Nat} (hd : decode I.2.1 pc = .ok (.getfield idx, 3)) (hf : mFL I.1 idx ci j) (hS : Sh[k]? = some (.inl (ci, fks))) (hj : fks[j]? = some f) (kk : mE l Sh sx I RT (pc + 3) ls (mvl h k j f :: st) h) : mE l Sh sx I RT pc ls (.inr k :: st) h := by
  intro p e s m args below meth c Q D cI ad A H locs lr C F Wd L
  obtain ⟨C1, T1, N1, hc, hjN, hin, hlk⟩ := hf
  have hv : (fks.mapIdx (fun j f => mv ad (mvl h k j f)))[j]? = some (mv ad (mvl h k j f)) := by rw [List.getElem?_mapIdx, hj]; rfl
  have k2 := kk p e s m args below meth c Q D cI ad A H locs lr C F Wd L
  rcases hlk with hlk | ⟨host, hlk⟩
  · exact va_get C.1 C.2.1 C.2.2.2.2.2.2.1 hin C.2.2.2.2.2.1 C.2.2.2.2.2.2.2.2.1 Wd.1 k (mws_at Sh ad cI h k hS) hc j hjN (C.2.2.2.2.2.2.1 _ hlk) (fun _ h9 => h9) hv hd k2
  · exact va_getN C.1 C.2.1 C.2.2.2.2.2.2.1 hin C.2.2.2.2.2.1 C.2.2.2.2.2.2.2.2.1 Wd.1 k (mws_at Sh ad cI h k hS) hc j hjN (va_Nw.use rfl (C.2.2.2.2.2.2.2.1 _ hlk rfl)) (fun _ h9 => h9) hv hd k2
theorem e_getI {idx ci j k : Nat} {fks : List Nat} {x : Int32} (hd : decode I.2.1 pc = .ok (.getfield idx, 3)) (hf : mFL I.1 idx ci j) (hS : Sh[k]? = some (.inl (ci, fks))) (hj : fks[j]? = some 0) (hx : h k j = x) (kk : mE l Sh sx I RT (pc + 3) ls (.inl x :: st) h) : mE l Sh sx I RT pc ls (.inr k :: st) h := e_get hd hf hS hj (by subst hx; exact kk)
theorem e_getZ {idx ci j k : Nat} {fks : List Nat} {x : Int32} (hd : decode I.2.1 pc = .ok (.getfield idx, 3)) (hf : mFL I.1 idx ci j) (hS : Sh[k]? = some (.inl (ci, fks))) (hj : fks[j]? = some 1) (hx : h k j = x) (kk : mE l Sh sx I RT (pc + 3) ls (.inl x :: st) h) : mE l Sh sx I RT pc ls (.inr k :: st) h := e_get hd hf hS hj (by subst hx; exact kk)
theorem e_getR {idx ci j k r : Nat} {fks : List Nat} (hd : decode I.2.1 pc = .ok (.getfield idx, 3)) (hf : mFL I.1 idx ci j) (hS : Sh[k]? = some (.inl (ci, fks))) (hj : fks[j]? = some (r + 3)) (kk : mE l Sh sx I RT (pc + 3) ls (.inr r :: st) h) : mE l Sh sx I RT pc ls (.inr k :: st) h := e_get hd hf hS hj kk
theorem e_getD {idx ci j k r : Nat} {fks : List Nat} (hd : decode I.2.1 pc = .ok (.getfield idx, 3)) (hf : mFL I.1 idx ci j) (hS : Sh[k]? = some (.inl (ci, fks))) (hj : fks[j]? = some 2) (hx : (h k j).toNatClampNeg = r) (kk : mE l Sh sx I RT (pc + 3) ls (.inr r :: st) h) : mE l Sh sx I RT pc ls (.inr k :: st) h := e_get hd hf hS hj (by subst hx; exact kk)
theorem e_put {idx ci j k f : Nat} {ty : FieldType} {fks : List Nat} {x : Int32} {v : mV} (hd : decode I.2.1 pc = .ok (.putfield idx, 3)) (hf : mFL I.1 idx ci j) (hp : mFP ci j ty) (hS : Sh[k]? = some (.inl (ci, fks))) (hj : fks[j]? = some f) (hv : mvl (hs h k j x) k j f = v) (hn : ∀ ad, narrow ty (mv ad v) = mv ad v) (hfit : ∀ ad, fits ty (mv ad v) = true) (kk : mE l Sh sx I RT (pc + 3) ls st (hs h k j x)) : mE l Sh sx I RT pc ls (v :: .inr k :: st) h := by
  intro p e s m args below meth c Q D cI ad A H locs lr C F Wd L
  obtain ⟨C1, T1, N1, hc, hjN, hin, hlk⟩ := hf
  obtain ⟨C2, T2, N2, hc2, ⟨ty0, hty⟩, hnm, hfin, hd2⟩ := hp
  obtain ⟨rfl, rfl, rfl⟩ : C1 = C2 ∧ T1 = T2 ∧ N1 = N2 := by
    have := Option.some.inj (hc.symm.trans hc2)
    cases this
    exact ⟨rfl, rfl, rfl⟩
  have hlen : j < (fks.mapIdx (fun j f => mv ad (mvl h k j f))).length := by rw [List.length_mapIdx]; exact (List.getElem?_eq_some_iff.mp hj).1
  have hset := mws_setF (ad := ad) (cI := cI) (x := x) hS hj hv
  have k2 : ∀ (H1 : Heap) (locs1 : List Loc), va_P D vwCl ((mws Sh ad cI h).set k (ad k, .inr (ci, (fks.mapIdx (fun j f => mv ad (mvl h k j f))).set j (mv ad v)))) H1 → va_D A ((mws Sh ad cI h).set k (ad k, .inr (ci, (fks.mapIdx (fun j f => mv ad (mvl h k j f))).set j (mv ad v)))) → va_S A s.heap H1 locs1 → W p l e I.2.2.2.2 s m args below meth c H1 locs1 0 0 Q (F0 m (pc + 3) lr (st.map (mv ad))) := by
    intro H1 locs1 q1 q2 q3
    rw [hset] at q1 q2
    exact kk p e s m args below meth c Q D cI ad A H1 locs1 lr C F ⟨q1, q2, q3⟩ L
  rcases hlk with hlk | ⟨host, hlk⟩
  · exact va_put C.1 C.2.1 C.2.2.2.2.2.2.1 hin ty0 hty hnm C.2.2.2.2.2.1 C.2.2.2.2.2.2.2.2.1 Wd.1 Wd.2.1 Wd.2.2 k (mws_at Sh ad cI h k hS) hc j hjN (C.2.2.2.2.2.2.1 _ hlk) (fun _ h9 => h9) hfin hd2 (hn ad) (hfit ad) hlen hd k2
  · exact va_putN C.1 C.2.1 C.2.2.2.2.2.2.1 hin ty0 hty hnm C.2.2.2.2.2.1 C.2.2.2.2.2.2.2.2.1 Wd.1 Wd.2.1 Wd.2.2 k (mws_at Sh ad cI h k hS) hc j hjN (va_Nw.use rfl (C.2.2.2.2.2.2.2.1 _ hlk rfl)) (fun _ h9 => h9) hfin hd2 (hn ad) (hfit ad) hlen hd k2
theorem e_putI {idx ci j k : Nat} {fks : List Nat} {x : Int32} (hd : decode I.2.1 pc = .ok (.putfield idx, 3)) (hf : mFL I.1 idx ci j) (hp : mFP ci j .int) (hS : Sh[k]? = some (.inl (ci, fks))) (hj : fks[j]? = some 0) (kk : mE l Sh sx I RT (pc + 3) ls st (hs h k j x)) : mE l Sh sx I RT pc ls (.inl x :: .inr k :: st) h := e_put hd hf hp hS hj (by simp only [mvl, hs_at]) (fun _ => rfl) (fun _ => rfl) kk
theorem e_putZ {idx ci j k : Nat} {fks : List Nat} {x : Int32} (hd : decode I.2.1 pc = .ok (.putfield idx, 3)) (hf : mFL I.1 idx ci j) (hp : mFP ci j .boolean) (hS : Sh[k]? = some (.inl (ci, fks))) (hj : fks[j]? = some 1) (hx : x = 0 ∨ x = 1) (kk : mE l Sh sx I RT (pc + 3) ls st (hs h k j x)) : mE l Sh sx I RT pc ls (.inl x :: .inr k :: st) h := e_put hd hf hp hS hj (by simp only [mvl, hs_at]) (fun _ => by rcases hx with rfl | rfl <;> rfl) (fun _ => by rcases hx with rfl | rfl <;> rfl) kk
theorem e_putD {idx ci j k r : Nat} {C : String} {fks : List Nat} (hd : decode I.2.1 pc = .ok (.putfield idx, 3)) (hf : mFL I.1 idx ci j) (hp : mFP ci j (.object C)) (hS : Sh[k]? = some (.inl (ci, fks))) (hj : fks[j]? = some 2) (hr : r < 2 ^ 31) (kk : mE l Sh sx I RT (pc + 3) ls st (hs h k j (nI r))) : mE l Sh sx I RT pc ls (.inr r :: .inr k :: st) h := e_put hd hf hp hS hj (by simp only [mvl, hs_at, nI_clamp hr]) (fun _ => rfl) (fun _ => rfl) kk
theorem e_iald {k n : Nat} {i x : Int32} (hd : decode I.2.1 pc = .ok (.iaload, 1)) (hS : Sh[k]? = some (.inr n)) (hin : vp_in i n) (hx : h k i.toNatClampNeg = x) (kk : mE l Sh sx I RT (pc + 1) ls (.inl x :: st) h) : mE l Sh sx I RT pc ls (.inl i :: .inr k :: st) h := by
  intro p e s m args below meth c Q D cI ad A H locs lr C F Wd L
  subst hx
  exact va_iald C.1 C.2.1 C.2.2.2.2.2.2.2.2.1 Wd.1 k 0 (mws_at Sh ad cI h k hS) rfl hin hd (kk p e s m args below meth c Q D cI ad A H locs lr C F Wd L)
theorem e_iast {k n : Nat} {i x : Int32} (hd : decode I.2.1 pc = .ok (.iastore, 1)) (hS : Sh[k]? = some (.inr n)) (hin : vp_in i n) (kk : mE l Sh sx I RT (pc + 1) ls st (hs h k i.toNatClampNeg x)) : mE l Sh sx I RT pc ls (.inl x :: .inl i :: .inr k :: st) h := by
  intro p e s m args below meth c Q D cI ad A H locs lr C F Wd L
  refine va_iast C.1 C.2.1 C.2.2.2.2.2.2.2.2.1 Wd.1 Wd.2.1 Wd.2.2 k 0 (mws_at Sh ad cI h k hS) rfl hin hd (fun H1 locs1 q1 q2 q3 => ?_)
  rw [mws_setA hS] at q1 q2
  exact kk p e s m args below meth c Q D cI ad A H1 locs1 lr C F ⟨q1, q2, q3⟩ L
theorem e_sld {n : Nat} {xs : Nat → Int32} {i : Int32} (hd : decode I.2.1 pc = .ok (.iaload, 1)) (hsx : sx = some (n, xs)) (hin : vp_in i n) (kk : mE l Sh sx I RT (pc + 1) ls (.inl (xs i.toNatClampNeg) :: st) h) : mE l Sh sx I RT pc ls (.inl i :: .inr 1000 :: st) h := by
  intro p e s m args below meth c Q D cI ad A H locs lr C F Wd L
  obtain ⟨h1, h2, h3⟩ := C.2.2.2.2.2.2.2.2.2.2 n xs hsx
  exact va_sld C.1 C.2.1 h1 h2 h3 Wd.2.2 hin hd (kk p e s m args below meth c Q D cI ad A H locs lr C F Wd L)
theorem e_slen {n : Nat} {xs : Nat → Int32} (hd : decode I.2.1 pc = .ok (.arraylength, 1)) (hsx : sx = some (n, xs)) (kk : mE l Sh sx I RT (pc + 1) ls (.inl (nI n) :: st) h) : mE l Sh sx I RT pc ls (.inr 1000 :: st) h := by
  intro p e s m args below meth c Q D cI ad A H locs lr C F Wd L
  obtain ⟨h1, h2, h3⟩ := C.2.2.2.2.2.2.2.2.2.2 n xs hsx
  exact va_slen C.1 C.2.1 h1 h2 h3 Wd.2.2 hd (kk p e s m args below meth c Q D cI ad A H locs lr C F Wd L)
/-! calls -/
def mLk (own : String) (idx : Nat) (y : MethodName) : Prop := Cond.methodLink own idx y ∈ wG ∨ ∃ host, Cond.methodLinkNest own idx y host ∈ lw_tbl
def mY (y : MethodName) (J : mI) (n : Nat) : Prop := plainName y.cls = true ∧ y.cls = J.1 ∧ (y.cls ≠ "java/lang/invoke/MethodHandle" ∧ y.cls ≠ "java/lang/invoke/VarHandle" ∧ (parseMethodDescriptor y.desc).map (fun d => d.parameters.length) = some n) ∧ Cond.code y J.2.1 J.2.2.1 J.2.2.2.1 ∈ wG ∧ Cond.initialized y.cls ∈ wG ∧ J.2.2.2.2.cells = 0 ∧ J.2.2.2.2.slots = 0
def mYv (y : MethodName) (J : mI) (n : Nat) : Prop := mY y J n ∧ Cond.instanceMethod y ∈ wG ∧ Cond.selects y.cls y y ∈ wG
def mYs (y : MethodName) (J : mI) (n : Nat) : Prop := mY y J n ∧ Cond.static y ∈ wG
theorem wG_good {ws : List Cond} (hw : ∀ w ∈ ws, w ∈ wG) : GoodIn wG ws := fun w h => ⟨hw w h, good_of_word (List.mem_filter.mp (hw w h)).2⟩
def entl (n : Nat) (As : List mV) : List (Option mV) := As.map some ++ List.replicate (n - As.length) none
/-- method J on these arguments, from h, answers v and leaves h' -/
def mD (l : Launch) (Sh : mS) (J : mI) (As : List mV) (h : mH) (v : Option Int32) (h' : mH) : Prop := ∀ RT : Option Int32 → mH → Prop, RT v h' → mE l Sh none J RT 0 (entl J.2.2.1 As) [] h
/-- the same, with all ends that P takes -/
def mG (l : Launch) (Sh : mS) (J : mI) (As : List mV) (h : mH) (P : Option Int32 → mH → Prop) : Prop := ∀ RT : Option Int32 → mH → Prop, (∀ v u, P v u → RT v u) → mE l Sh none J RT 0 (entl J.2.2.1 As) [] h
theorem mD.g {J : mI} {As : List mV} {v : Option Int32} {h2 : mH} (hE : mD l Sh J As h v h2) : mG l Sh J As h (fun w u => w = v ∧ u = h2) := fun RT r => hE RT (r _ _ ⟨rfl, rfl⟩)
theorem mG.weaken {J : mI} {As : List mV} {P P2 : Option Int32 → mH → Prop} (hE : mG l Sh J As h P) (hm : ∀ v u, P v u → P2 v u) : mG l Sh J As h P2 := fun RT r => hE RT (fun v u q => r v u (hm v u q))
theorem lg_sl_len (ad : Nat → Nat) : ∀ As : List mV, (lg_sl (As.map (mv ad))).length = As.length
  | [] => rfl
  | v :: t => by
    have ih := lg_sl_len ad t
    simp only [lg_sl, List.map_cons, List.flatMap_cons, mv_cat] at ih ⊢
    simp [ih]
theorem lv_args_mem (ad : Nat → Nat) : ∀ (As : List mV) (i0 i : Nat) (v : mV), As[i]? = some v → (i0 + i, mv ad v) ∈ lv_args i0 (As.map (mv ad))
  | [], _, _, _, h => by simp at h
  | w :: t, i0, 0, v, h => by
    simp at h
    subst h
    exact List.mem_cons_self
  | w :: t, i0, i + 1, v, h => by
    have ih := lv_args_mem ad t (i0 + 1) i v (by simpa using h)
    rw [Nat.add_assoc, Nat.add_comm 1 i] at ih
    refine List.mem_cons_of_mem _ ?_
    rw [if_neg (by rw [mv_cat]; decide)]
    exact ih
theorem mL_entry (ad : Nat → Nat) (As : List mV) {n : Nat} (hn : As.length ≤ n) : mL ad n (entl n As) ((lg_sl (As.map (mv ad)) ++ List.replicate (n - (lg_sl (As.map (mv ad))).length) Slot.unset).toArray) := by
  have h1 := lv_entry (As.map (mv ad)) (n := n) (by rw [lg_sl_len]; exact hn)
  refine ⟨h1.1, h1.2.1, fun i v hi => ?_⟩
  have h2 : As[i]? = some v := by
    unfold entl at hi
    rw [List.getElem?_append] at hi
    split at hi
    · rw [List.getElem?_map] at hi
      cases hq : As[i]? with
      | none => rw [hq] at hi; cases hi
      | some w => rw [hq] at hi; cases hi; rfl
    · rw [List.getElem?_replicate] at hi
      split at hi <;> cases hi
  have h3 := lv_args_mem ad As 0 i v h2
  rw [Nat.zero_add] at h3
  exact h1.2.2 _ h3
theorem mNest_on {w : Cond} (h : mNest w = true) : w.onTables = true := by cases w <;> first | rfl | cases h
theorem mNest_warm {w : Cond} {s U : State} (h : mNest w = true) (hW : s.WarmedH U.vm) (hN : va_Nw w s) : va_Nw w U := by
  cases w <;> first | exact va_Nw.warmF hW hN | exact va_Nw.warmM hW hN | cases h
def mPc (Sh : mS) (D : va_G) (cI : ClassId) (ad : Nat → Nat) (h : mH) (sz : Nat) : State → Prop := fun U => U.heap.size = sz ∧ va_P D vwCl (mws Sh ad cI h) U.heap ∧ va_K D vwCl [(cI, .int)] U ∧ va_D (fun _ => True) (mws Sh ad cI h) ∧ ∀ w ∈ lw_tbl, mNest w = true → va_Nw w U
def mB (Sh : mS) (D : va_G) (cI : ClassId) (ad : Nat → Nat) (h : mH) (t : State) : Prop := va_P D vwCl (mws Sh ad cI h) t.heap
theorem mPc_blind (Sh : mS) (D : va_G) (cI : ClassId) (ad : Nat → Nat) (h : mH) (sz : Nat) (As : List Value) : FrameBlind (va_Pc As (mPc Sh D cI ad h sz)) := by
  intro a U g mk q
  obtain ⟨e, q1, q2, q3, q4, q5⟩ := q
  exact ⟨e, q1, q2, va_K.moved (u := U) (U := U.calling g mk a) (Vm.Alike.refl U.vm) q3, q4, fun w hw hn => va_tabs (mNest_on hn) (u := U) (U := U.calling g mk a) rfl (q5 w hw hn)⟩
theorem met_i {y : MethodName} {J : mI} {n : Nat} (hy : mY y J n) {ty : FieldType} (hr0 : J.2.2.2.1 = some ty) {As : List mV} {h0 : mH} {RT0 : Int32 → mH → Prop} (hn : As.length ≤ J.2.2.1) (hE : mE l Sh none J (fun v u => ∀ r, v = some r → RT0 r u) 0 (entl J.2.2.1 As) [] h0) (D : va_G) (cI : ClassId) (ad : Nat → Nat) (sz : Nat) : Met l y (Cond.code y J.2.1 J.2.2.1 J.2.2.2.1 :: wG) J.2.2.2.2 (va_Pc (As.map (mv ad)) (mPc Sh D cI ad h0 sz)) (va_Qi RT0 (mB Sh D cI ad) (va_A (mws Sh ad cI h0) sz)) 0 0 (va_A (mws Sh ad cI h0) sz) := by
  refine Met.ofW (cc := J.2.1) (maxL := J.2.2.1) (ret := J.2.2.2.1) hy.1 rfl ?_
  intro p e s m args below meth c s₁ B hml hv
  obtain ⟨rfl, hsz, hP, hK, hD0, hN⟩ := hv
  have hts := atoms_spec (ws := Cond.code y J.2.1 J.2.2.1 J.2.2.2.1 :: wG) B.pre
  have hown : s.vm.findClass y.cls = some m.cls := findClass_of_methodNamed B.named
  rw [hy.2.1] at hown
  have hlocks := B.notSynchronized
  subst hsz
  rw [lg_entry_eq]
  refine hE p e s m _ below meth c _ D cI ad (va_A (mws Sh ad cI h0) s.heap.size) s.heap [] _ ⟨B.exec, B.bytes, hml, B.returns, hlocks, hown, fun w h => hts w (List.mem_cons_of_mem _ h), hN, hK, fun q h => Or.inr h, fun L xs q => by cases q⟩ ⟨?_, ?_⟩ ⟨hP, hD0.self, va_S.rf⟩ (mL_entry ad As hn)
  · intro v u H locs pc lr r hret hw hd
    obtain ⟨ty', e2, hnr⟩ := hret
    exact W.zret B.exec B.bytes (B.returns.trans e2) hnr (fun t ht hW => ⟨⟨v, u, rfl, r v rfl, by show va_P _ _ _ t.heap; rw [ht]; exact hw.1⟩, hw.2.2.F ht⟩) hw.2.2.2.2 hd
  · intro u H locs pc lr r hret hw hd
    rw [hr0] at hret
    cases hret
theorem met_v {y : MethodName} {J : mI} {n : Nat} (hy : mY y J n) (hr0 : J.2.2.2.1 = none) {As : List mV} {h0 : mH} {RT0 : mH → Prop} (hn : As.length ≤ J.2.2.1) (hE : mE l Sh none J (fun v u => v = none → RT0 u) 0 (entl J.2.2.1 As) [] h0) (D : va_G) (cI : ClassId) (ad : Nat → Nat) (sz : Nat) : Met l y (Cond.code y J.2.1 J.2.2.1 J.2.2.2.1 :: wG) J.2.2.2.2 (va_Pc (As.map (mv ad)) (mPc Sh D cI ad h0 sz)) (va_Qv RT0 (mB Sh D cI ad) (va_A (mws Sh ad cI h0) sz)) 0 0 (va_A (mws Sh ad cI h0) sz) := by
  refine Met.ofW (cc := J.2.1) (maxL := J.2.2.1) (ret := J.2.2.2.1) hy.1 rfl ?_
  intro p e s m args below meth c s₁ B hml hv
  obtain ⟨rfl, hsz, hP, hK, hD0, hN⟩ := hv
  have hts := atoms_spec (ws := Cond.code y J.2.1 J.2.2.1 J.2.2.2.1 :: wG) B.pre
  have hown : s.vm.findClass y.cls = some m.cls := findClass_of_methodNamed B.named
  rw [hy.2.1] at hown
  have hlocks := B.notSynchronized
  subst hsz
  rw [lg_entry_eq]
  refine hE p e s m _ below meth c _ D cI ad (va_A (mws Sh ad cI h0) s.heap.size) s.heap [] _ ⟨B.exec, B.bytes, hml, B.returns, hlocks, hown, fun w h => hts w (List.mem_cons_of_mem _ h), hN, hK, fun q h => Or.inr h, fun L xs q => by cases q⟩ ⟨?_, ?_⟩ ⟨hP, hD0.self, va_S.rf⟩ (mL_entry ad As hn)
  · intro v u H locs pc lr r hret hw hd
    obtain ⟨ty', e2, hnr⟩ := hret
    rw [hr0] at e2
    cases e2
  · intro u H locs pc lr r hret hw hd
    exact W.vret B.exec B.bytes (B.returns.trans hr0) (fun t ht hW => ⟨⟨u, rfl, r rfl, by show va_P _ _ _ t.heap; rw [ht]; exact hw.1⟩, hw.2.2.F ht⟩) hw.2.2.2.2 hd
theorem mA_in {D : va_G} {cI : ClassId} {ad : Nat → Nat} {A : Nat → Prop} {H0 H : Heap} {locs : List Loc} (hA : ∀ q : Nat, H0.size ≤ q → A q) (Wd : mW Sh D cI ad A H0 H locs h) : ∀ q, va_A (mws Sh ad cI h) H.size q → A q := by
  intro q hq
  rcases hq with ⟨k, e, hk⟩ | hq
  · exact Wd.2.1.2 k _ hk
  · exact hA q (Nat.le_trans Wd.2.2.1 hq)
theorem cat_sum (ad : Nat → Nat) : ∀ st : List mV, ((st.map (mv ad)).map fun v => v.category).sum = st.length
  | [] => rfl
  | v :: t => by
    have ih := cat_sum ad t
    simp only [List.map_cons, List.sum_cons, mv_cat, List.length_cons, ih]
    omega
theorem mPre {D : va_G} {cI : ClassId} {ad : Nat → Nat} {A : Nat → Prop} {p : Program} {s : State} {m : MethodId} {args : Array Value} {meth : Method} {c : Code} {H : Heap} {locs : List Loc} (C : mC sx I p s m args meth c D cI ad A) (Wd : mW Sh D cI ad A s.heap H locs h) (As : List Value) : ∀ U : State, U.heap = H → s.WarmedH U.vm → va_Pc As (mPc Sh D cI ad h H.size) As.toArray U :=
  fun U hU hW => ⟨rfl, by rw [hU], by rw [hU]; exact Wd.1, va_K.moved hW.alike C.2.2.2.2.2.2.2.2.1, Wd.2.1.weaken (fun _ _ _ _ => trivial), fun w hw hn => mNest_warm hn hW (C.2.2.2.2.2.2.2.1 w hw hn)⟩
theorem wsV_in {own : String} {idx : Nat} {y : MethodName} {J : mI} {n : Nat} (hy : mYv y J n) (hl : Cond.methodLink own idx y ∈ wG) : GoodIn wG (wsV own idx y.cls y (Cond.code y J.2.1 J.2.2.1 J.2.2.2.1 :: wG)) := by
  refine wG_good (fun w hw => ?_)
  simp only [wsV, List.cons_append, List.nil_append, List.mem_cons] at hw
  rcases hw with rfl | rfl | rfl | rfl | rfl | hw
  · exact hl
  · exact hy.2.1
  · exact hy.2.2
  · exact hy.1.2.2.2.2.1
  · exact hy.1.2.2.2.1
  · exact hw
theorem wsS_in {y : MethodName} {J : mI} {n : Nat} (hy : mY y J n) : GoodIn wG (Cond.code y J.2.1 J.2.2.1 J.2.2.2.1 :: wG) := by
  refine wG_good (fun w hw => ?_)
  rcases List.mem_cons.mp hw with rfl | hw
  · exact hy.2.2.2.1
  · exact hw
theorem e_invViG {idx n k ci : Nat} {ty : FieldType} {y : MethodName} {J : mI} {As stk : List mV} {fks : List Nat} {PP : Option Int32 → mH → Prop} (hd : decode I.2.1 pc = .ok (.invokevirtual idx, 3)) (hl : mLk I.1 idx y) (hy : mYv y J n) (hr : J.2.2.2.1 = some ty) (hst : stk = As.reverse ++ .inr k :: st) (hn : As.length = n) (hnl : (.inr k :: As).length ≤ J.2.2.1) (hS : Sh[k]? = some (.inl (ci, fks))) (hci : (vwCl[ci]?).map (fun q => q.1) = some J.1) (hq : st.length ≤ 8) (hR : J.2.2.2.2.frames + 1 ≤ I.2.2.2.2.frames ∧ 8 + (J.2.2.1 + 11) + J.2.2.2.2.locals ≤ I.2.2.2.2.locals) (hE : mG l Sh J (.inr k :: As) h PP) (kk : ∀ (v : Int32) (h2 : mH), PP (some v) h2 → mE l Sh sx I RT (pc + 3) ls (.inl v :: st) h2) : mE l Sh sx I RT pc ls stk h := by
  intro p e s m args below meth c Q D cI ad A H locs lr C F Wd L
  have hFc := mA_in C.2.2.2.2.2.2.2.2.2.1 Wd
  have hM := met_i (RT0 := fun r u => PP (some r) u) hy.1 hr hnl (hE _ (fun v u q r e => by rw [← e]; exact q)) D cI ad H.size
  have hstk : (stk.map (mv ad)) = (As.map (mv ad)).reverse ++ .ref (ad k) :: (st.map (mv ad)) := by rw [hst, List.map_append, List.map_reverse]; rfl
  obtain ⟨q, hq1, hq2⟩ : ∃ q, vwCl[ci]? = some q ∧ q.1 = y.cls := by
    cases hv : vwCl[ci]? with
    | none => rw [hv] at hci; cases hci
    | some q => rw [hv] at hci; exact ⟨q, rfl, (Option.some.inj hci).trans hy.1.2.1.symm⟩
  have hrecv := va_recv C.2.2.2.2.2.2.2.2.1 Wd.1 hq1 (mws_at Sh ad cI h k hS)
  rw [hq2] at hrecv
  have hfix : CallFix p m c I.2.1 I.2.2.1 s args wG I.1 := ⟨C.1, C.2.1, C.2.2.1, C.2.2.2.2.2.1, C.2.2.2.2.2.2.1⟩
  have hrun : va_Run p l e I.2.2.2.2 s m args below meth c H locs 0 0 0 0 (F0 m pc lr (stk.map (mv ad))) (st.map (mv ad)) (va_Qi (fun r u => PP (some r) u) (mB Sh D cI ad) (va_A (mws Sh ad cI h) H.size) (List.map (mv ad) (.inr k :: As)).toArray) (va_A (mws Sh ad cI h) H.size) := by
    rcases hl with hl | ⟨host, hl⟩
    · exact va_runV (As := As.map (mv ad)) hfix hM (cwV n C.2.2.2.2.2.2.1 (wsV_in hy hl) rfl hy.1.2.2.2.2.2.1 hy.1.2.2.2.2.2.2 ⟨rfl, hy.1.2.2.1⟩ hR) ⟨mPc_blind Sh D cI ad h H.size _, hrecv, mPre C Wd (Value.ref (ad k) :: As.map (mv ad))⟩ rfl (by rw [List.length_map]; exact hn) L.1 hstk (lv_room (by rw [cat_sum]; exact hq)) hd ⟨Nat.zero_le _, Nat.zero_le _⟩
    · exact va_runVN (As := As.map (mv ad)) hfix hM ⟨va_cnB n C.2.2.2.2.2.2.1 (wsS_in hy.1) rfl hy.1.2.2.2.2.2.1 hy.1.2.2.2.2.2.2 (C.2.2.2.2.2.2.2.1 _ hl rfl) (C.2.2.2.2.2.2.1 _ hy.1.2.2.2.2.1) hy.1.2.2.1 hR, C.2.2.2.2.2.2.1 _ hy.2.1, C.2.2.2.2.2.2.1 _ hy.2.2⟩ ⟨mPc_blind Sh D cI ad h H.size _, hrecv, mPre C Wd (Value.ref (ad k) :: As.map (mv ad))⟩ rfl (by rw [List.length_map]; exact hn) L.1 hstk (lv_room (by rw [cat_sum]; exact hq)) hd ⟨Nat.zero_le _, Nat.zero_le _⟩
  refine va_calli hrun Wd.2.2 (fun q _ hq => hFc q hq) hFc (fun r u t H1 locs1 ht hvm hw hB hz1 hk1 hS1 => ?_)
  exact kk r u hw p e s m args below meth c Q D cI ad A H1 locs1 lr C F ⟨by rw [← ht]; exact hB, mws_D Wd.2.1, hS1⟩ L
theorem e_invVvG {idx n k ci : Nat} {ty : FieldType} {y : MethodName} {J : mI} {As stk : List mV} {fks : List Nat} {PP : Option Int32 → mH → Prop} (hd : decode I.2.1 pc = .ok (.invokevirtual idx, 3)) (hl : mLk I.1 idx y) (hy : mYv y J n) (hr : J.2.2.2.1 = none) (hst : stk = As.reverse ++ .inr k :: st) (hn : As.length = n) (hnl : (.inr k :: As).length ≤ J.2.2.1) (hS : Sh[k]? = some (.inl (ci, fks))) (hci : (vwCl[ci]?).map (fun q => q.1) = some J.1) (hq : st.length ≤ 8) (hR : J.2.2.2.2.frames + 1 ≤ I.2.2.2.2.frames ∧ 8 + (J.2.2.1 + 11) + J.2.2.2.2.locals ≤ I.2.2.2.2.locals) (hE : mG l Sh J (.inr k :: As) h PP) (kk : ∀ h2 : mH, PP none h2 → mE l Sh sx I RT (pc + 3) ls (st) h2) : mE l Sh sx I RT pc ls stk h := by
  intro p e s m args below meth c Q D cI ad A H locs lr C F Wd L
  have hFc := mA_in C.2.2.2.2.2.2.2.2.2.1 Wd
  have hM := met_v (RT0 := fun u => PP none u) hy.1 hr hnl (hE _ (fun v u q e => by rw [← e]; exact q)) D cI ad H.size
  have hstk : (stk.map (mv ad)) = (As.map (mv ad)).reverse ++ .ref (ad k) :: (st.map (mv ad)) := by rw [hst, List.map_append, List.map_reverse]; rfl
  obtain ⟨q, hq1, hq2⟩ : ∃ q, vwCl[ci]? = some q ∧ q.1 = y.cls := by
    cases hv : vwCl[ci]? with
    | none => rw [hv] at hci; cases hci
    | some q => rw [hv] at hci; exact ⟨q, rfl, (Option.some.inj hci).trans hy.1.2.1.symm⟩
  have hrecv := va_recv C.2.2.2.2.2.2.2.2.1 Wd.1 hq1 (mws_at Sh ad cI h k hS)
  rw [hq2] at hrecv
  have hfix : CallFix p m c I.2.1 I.2.2.1 s args wG I.1 := ⟨C.1, C.2.1, C.2.2.1, C.2.2.2.2.2.1, C.2.2.2.2.2.2.1⟩
  have hrun : va_Run p l e I.2.2.2.2 s m args below meth c H locs 0 0 0 0 (F0 m pc lr (stk.map (mv ad))) (st.map (mv ad)) (va_Qv (fun u => PP none u) (mB Sh D cI ad) (va_A (mws Sh ad cI h) H.size) (List.map (mv ad) (.inr k :: As)).toArray) (va_A (mws Sh ad cI h) H.size) := by
    rcases hl with hl | ⟨host, hl⟩
    · exact va_runV (As := As.map (mv ad)) hfix hM (cwV n C.2.2.2.2.2.2.1 (wsV_in hy hl) rfl hy.1.2.2.2.2.2.1 hy.1.2.2.2.2.2.2 ⟨rfl, hy.1.2.2.1⟩ hR) ⟨mPc_blind Sh D cI ad h H.size _, hrecv, mPre C Wd (Value.ref (ad k) :: As.map (mv ad))⟩ rfl (by rw [List.length_map]; exact hn) L.1 hstk (lv_room (by rw [cat_sum]; exact hq)) hd ⟨Nat.zero_le _, Nat.zero_le _⟩
    · exact va_runVN (As := As.map (mv ad)) hfix hM ⟨va_cnB n C.2.2.2.2.2.2.1 (wsS_in hy.1) rfl hy.1.2.2.2.2.2.1 hy.1.2.2.2.2.2.2 (C.2.2.2.2.2.2.2.1 _ hl rfl) (C.2.2.2.2.2.2.1 _ hy.1.2.2.2.2.1) hy.1.2.2.1 hR, C.2.2.2.2.2.2.1 _ hy.2.1, C.2.2.2.2.2.2.1 _ hy.2.2⟩ ⟨mPc_blind Sh D cI ad h H.size _, hrecv, mPre C Wd (Value.ref (ad k) :: As.map (mv ad))⟩ rfl (by rw [List.length_map]; exact hn) L.1 hstk (lv_room (by rw [cat_sum]; exact hq)) hd ⟨Nat.zero_le _, Nat.zero_le _⟩
  refine va_callv hrun Wd.2.2 (fun q _ hq => hFc q hq) hFc (fun u t H1 locs1 ht hvm hw hB hz1 hk1 hS1 => ?_)
  exact kk u hw p e s m args below meth c Q D cI ad A H1 locs1 lr C F ⟨by rw [← ht]; exact hB, mws_D Wd.2.1, hS1⟩ L
theorem e_invSiG {idx n : Nat} {ty : FieldType} {y : MethodName} {J : mI} {As stk : List mV} {PP : Option Int32 → mH → Prop} (hd : decode I.2.1 pc = .ok (.invokestatic idx, 3)) (hl : mLk I.1 idx y) (hy : mYs y J n) (hr : J.2.2.2.1 = some ty) (hst : stk = As.reverse ++ st) (hn : As.length = n) (hnl : (As).length ≤ J.2.2.1) (hq : st.length ≤ 8) (hR : J.2.2.2.2.frames + 1 ≤ I.2.2.2.2.frames ∧ 8 + (J.2.2.1 + 11) + J.2.2.2.2.locals ≤ I.2.2.2.2.locals) (hE : mG l Sh J (As) h PP) (kk : ∀ (v : Int32) (h2 : mH), PP (some v) h2 → mE l Sh sx I RT (pc + 3) ls (.inl v :: st) h2) : mE l Sh sx I RT pc ls stk h := by
  intro p e s m args below meth c Q D cI ad A H locs lr C F Wd L
  have hFc := mA_in C.2.2.2.2.2.2.2.2.2.1 Wd
  have hM := met_i (RT0 := fun r u => PP (some r) u) hy.1 hr hnl (hE _ (fun v u q r e => by rw [← e]; exact q)) D cI ad H.size
  have hstk : (stk.map (mv ad)) = (As.map (mv ad)).reverse ++ (st.map (mv ad)) := by rw [hst, List.map_append, List.map_reverse]
  have hfix : CallFix p m c I.2.1 I.2.2.1 s args wG I.1 := ⟨C.1, C.2.1, C.2.2.1, C.2.2.2.2.2.1, C.2.2.2.2.2.2.1⟩
  have hrun : va_Run p l e I.2.2.2.2 s m args below meth c H locs 0 0 0 0 (F0 m pc lr (stk.map (mv ad))) (st.map (mv ad)) (va_Qi (fun r u => PP (some r) u) (mB Sh D cI ad) (va_A (mws Sh ad cI h) H.size) (List.map (mv ad) (As)).toArray) (va_A (mws Sh ad cI h) H.size) := by
    rcases hl with hl | ⟨host, hl⟩
    · exact va_runS (As := As.map (mv ad)) hfix hM ⟨callB_of n C.2.2.2.2.2.2.1 (wsS_in hy.1) rfl hy.1.2.2.2.2.2.1 hy.1.2.2.2.2.2.2 (C.2.2.2.2.2.2.1 _ hy.1.2.2.2.2.1) (C.2.2.2.2.2.2.1 _ hl) hy.1.2.2.1 hR, C.2.2.2.2.2.2.1 _ hy.2⟩ ⟨mPc_blind Sh D cI ad h H.size _, mPre C Wd (As.map (mv ad))⟩ rfl (by rw [List.length_map]; exact hn) L.1 hstk (lv_room (by rw [cat_sum]; exact hq)) hd ⟨Nat.zero_le _, Nat.zero_le _⟩
    · exact va_runSN (As := As.map (mv ad)) hfix hM ⟨va_cnB n C.2.2.2.2.2.2.1 (wsS_in hy.1) rfl hy.1.2.2.2.2.2.1 hy.1.2.2.2.2.2.2 (C.2.2.2.2.2.2.2.1 _ hl rfl) (C.2.2.2.2.2.2.1 _ hy.1.2.2.2.2.1) hy.1.2.2.1 hR, C.2.2.2.2.2.2.1 _ hy.2, trivial⟩ ⟨mPc_blind Sh D cI ad h H.size _, mPre C Wd (As.map (mv ad))⟩ rfl (by rw [List.length_map]; exact hn) L.1 hstk (lv_room (by rw [cat_sum]; exact hq)) hd ⟨Nat.zero_le _, Nat.zero_le _⟩
  refine va_calli hrun Wd.2.2 (fun q _ hq => hFc q hq) hFc (fun r u t H1 locs1 ht hvm hw hB hz1 hk1 hS1 => ?_)
  exact kk r u hw p e s m args below meth c Q D cI ad A H1 locs1 lr C F ⟨by rw [← ht]; exact hB, mws_D Wd.2.1, hS1⟩ L
theorem e_invSvG {idx n : Nat} {ty : FieldType} {y : MethodName} {J : mI} {As stk : List mV} {PP : Option Int32 → mH → Prop} (hd : decode I.2.1 pc = .ok (.invokestatic idx, 3)) (hl : mLk I.1 idx y) (hy : mYs y J n) (hr : J.2.2.2.1 = none) (hst : stk = As.reverse ++ st) (hn : As.length = n) (hnl : (As).length ≤ J.2.2.1) (hq : st.length ≤ 8) (hR : J.2.2.2.2.frames + 1 ≤ I.2.2.2.2.frames ∧ 8 + (J.2.2.1 + 11) + J.2.2.2.2.locals ≤ I.2.2.2.2.locals) (hE : mG l Sh J (As) h PP) (kk : ∀ h2 : mH, PP none h2 → mE l Sh sx I RT (pc + 3) ls (st) h2) : mE l Sh sx I RT pc ls stk h := by
  intro p e s m args below meth c Q D cI ad A H locs lr C F Wd L
  have hFc := mA_in C.2.2.2.2.2.2.2.2.2.1 Wd
  have hM := met_v (RT0 := fun u => PP none u) hy.1 hr hnl (hE _ (fun v u q e => by rw [← e]; exact q)) D cI ad H.size
  have hstk : (stk.map (mv ad)) = (As.map (mv ad)).reverse ++ (st.map (mv ad)) := by rw [hst, List.map_append, List.map_reverse]
  have hfix : CallFix p m c I.2.1 I.2.2.1 s args wG I.1 := ⟨C.1, C.2.1, C.2.2.1, C.2.2.2.2.2.1, C.2.2.2.2.2.2.1⟩
  have hrun : va_Run p l e I.2.2.2.2 s m args below meth c H locs 0 0 0 0 (F0 m pc lr (stk.map (mv ad))) (st.map (mv ad)) (va_Qv (fun u => PP none u) (mB Sh D cI ad) (va_A (mws Sh ad cI h) H.size) (List.map (mv ad) (As)).toArray) (va_A (mws Sh ad cI h) H.size) := by
    rcases hl with hl | ⟨host, hl⟩
    · exact va_runS (As := As.map (mv ad)) hfix hM ⟨callB_of n C.2.2.2.2.2.2.1 (wsS_in hy.1) rfl hy.1.2.2.2.2.2.1 hy.1.2.2.2.2.2.2 (C.2.2.2.2.2.2.1 _ hy.1.2.2.2.2.1) (C.2.2.2.2.2.2.1 _ hl) hy.1.2.2.1 hR, C.2.2.2.2.2.2.1 _ hy.2⟩ ⟨mPc_blind Sh D cI ad h H.size _, mPre C Wd (As.map (mv ad))⟩ rfl (by rw [List.length_map]; exact hn) L.1 hstk (lv_room (by rw [cat_sum]; exact hq)) hd ⟨Nat.zero_le _, Nat.zero_le _⟩
    · exact va_runSN (As := As.map (mv ad)) hfix hM ⟨va_cnB n C.2.2.2.2.2.2.1 (wsS_in hy.1) rfl hy.1.2.2.2.2.2.1 hy.1.2.2.2.2.2.2 (C.2.2.2.2.2.2.2.1 _ hl rfl) (C.2.2.2.2.2.2.1 _ hy.1.2.2.2.2.1) hy.1.2.2.1 hR, C.2.2.2.2.2.2.1 _ hy.2, trivial⟩ ⟨mPc_blind Sh D cI ad h H.size _, mPre C Wd (As.map (mv ad))⟩ rfl (by rw [List.length_map]; exact hn) L.1 hstk (lv_room (by rw [cat_sum]; exact hq)) hd ⟨Nat.zero_le _, Nat.zero_le _⟩
  refine va_callv hrun Wd.2.2 (fun q _ hq => hFc q hq) hFc (fun u t H1 locs1 ht hvm hw hB hz1 hk1 hS1 => ?_)
  exact kk u hw p e s m args below meth c Q D cI ad A H1 locs1 lr C F ⟨by rw [← ht]; exact hB, mws_D Wd.2.1, hS1⟩ L
theorem e_invVi {idx n k ci : Nat} {ty : FieldType} {y : MethodName} {J : mI} {As stk : List mV} {fks : List Nat} {v : Int32} {h2 : mH} (hd : decode I.2.1 pc = .ok (.invokevirtual idx, 3)) (hl : mLk I.1 idx y) (hy : mYv y J n) (hr : J.2.2.2.1 = some ty) (hst : stk = As.reverse ++ .inr k :: st) (hn : As.length = n) (hnl : (.inr k :: As).length ≤ J.2.2.1) (hS : Sh[k]? = some (.inl (ci, fks))) (hci : (vwCl[ci]?).map (fun q => q.1) = some J.1) (hq : st.length ≤ 8) (hR : J.2.2.2.2.frames + 1 ≤ I.2.2.2.2.frames ∧ 8 + (J.2.2.1 + 11) + J.2.2.2.2.locals ≤ I.2.2.2.2.locals) (hE : mD l Sh J (.inr k :: As) h (some v) h2) (kk : mE l Sh sx I RT (pc + 3) ls (.inl v :: st) h2) : mE l Sh sx I RT pc ls stk h := e_invViG hd hl hy hr hst hn hnl hS hci hq hR hE.g (fun w u q => by obtain ⟨q1, rfl⟩ := q; cases q1; exact kk)
theorem e_invVv {idx n k ci : Nat} {ty : FieldType} {y : MethodName} {J : mI} {As stk : List mV} {fks : List Nat} {v : Int32} {h2 : mH} (hd : decode I.2.1 pc = .ok (.invokevirtual idx, 3)) (hl : mLk I.1 idx y) (hy : mYv y J n) (hr : J.2.2.2.1 = none) (hst : stk = As.reverse ++ .inr k :: st) (hn : As.length = n) (hnl : (.inr k :: As).length ≤ J.2.2.1) (hS : Sh[k]? = some (.inl (ci, fks))) (hci : (vwCl[ci]?).map (fun q => q.1) = some J.1) (hq : st.length ≤ 8) (hR : J.2.2.2.2.frames + 1 ≤ I.2.2.2.2.frames ∧ 8 + (J.2.2.1 + 11) + J.2.2.2.2.locals ≤ I.2.2.2.2.locals) (hE : mD l Sh J (.inr k :: As) h none h2) (kk : mE l Sh sx I RT (pc + 3) ls (st) h2) : mE l Sh sx I RT pc ls stk h := e_invVvG (ty := ty) hd hl hy hr hst hn hnl hS hci hq hR hE.g (fun u q => by obtain ⟨-, rfl⟩ := q; exact kk)
theorem e_invSi {idx n : Nat} {ty : FieldType} {y : MethodName} {J : mI} {As stk : List mV} {v : Int32} {h2 : mH} (hd : decode I.2.1 pc = .ok (.invokestatic idx, 3)) (hl : mLk I.1 idx y) (hy : mYs y J n) (hr : J.2.2.2.1 = some ty) (hst : stk = As.reverse ++ st) (hn : As.length = n) (hnl : (As).length ≤ J.2.2.1) (hq : st.length ≤ 8) (hR : J.2.2.2.2.frames + 1 ≤ I.2.2.2.2.frames ∧ 8 + (J.2.2.1 + 11) + J.2.2.2.2.locals ≤ I.2.2.2.2.locals) (hE : mD l Sh J (As) h (some v) h2) (kk : mE l Sh sx I RT (pc + 3) ls (.inl v :: st) h2) : mE l Sh sx I RT pc ls stk h := e_invSiG hd hl hy hr hst hn hnl hq hR hE.g (fun w u q => by obtain ⟨q1, rfl⟩ := q; cases q1; exact kk)
theorem e_invSv {idx n : Nat} {ty : FieldType} {y : MethodName} {J : mI} {As stk : List mV} {v : Int32} {h2 : mH} (hd : decode I.2.1 pc = .ok (.invokestatic idx, 3)) (hl : mLk I.1 idx y) (hy : mYs y J n) (hr : J.2.2.2.1 = none) (hst : stk = As.reverse ++ st) (hn : As.length = n) (hnl : (As).length ≤ J.2.2.1) (hq : st.length ≤ 8) (hR : J.2.2.2.2.frames + 1 ≤ I.2.2.2.2.frames ∧ 8 + (J.2.2.1 + 11) + J.2.2.2.2.locals ≤ I.2.2.2.2.locals) (hE : mD l Sh J (As) h none h2) (kk : mE l Sh sx I RT (pc + 3) ls (st) h2) : mE l Sh sx I RT pc ls stk h := e_invSvG (ty := ty) hd hl hy hr hst hn hnl hq hR hE.g (fun u q => by obtain ⟨-, rfl⟩ := q; exact kk)
theorem e_min {idx : Nat} {x y : Int32} (hd : decode I.2.1 pc = .ok (.invokestatic idx, 3)) (hl : Cond.methodLink I.1 idx Lib.Math.min.name ∈ wG) (hs1 : Cond.static Lib.Math.min.name ∈ wG) (hs2 : Cond.initialized "java/lang/Math" ∈ wG) (hs3 : Cond.code Lib.Math.min.name Lib.Math.min.code 2 (some .int) ∈ wG) (hR : 1 ≤ I.2.2.2.2.frames ∧ st.length + 13 ≤ I.2.2.2.2.locals) (k : mE l Sh sx I RT (pc + 3) ls (.inl (if y < x then y else x) :: st) h) : mE l Sh sx I RT pc ls (.inl y :: .inl x :: st) h := by
  intro p e s m args below meth c Q D cI ad A H locs lr C F Wd L
  exact va_mmin C.1 C.2.1 (C.2.2.1.trans L.1.symm) C.2.2.2.2.2.1 (C.2.2.2.2.2.2.1 _ hl) (C.2.2.2.2.2.2.1 _ hs1) (C.2.2.2.2.2.2.1 _ hs2) (C.2.2.2.2.2.2.1 _ hs3) hR.1 (by rw [cat_sum]; exact hR.2) (Nat.zero_le _) (Nat.zero_le _) hd (k p e s m args below meth c Q D cI ad A H locs lr C F Wd L)
theorem e_max {idx : Nat} {x y : Int32} (hd : decode I.2.1 pc = .ok (.invokestatic idx, 3)) (hl : Cond.methodLink I.1 idx Lib.Math.max.name ∈ wG) (hs1 : Cond.static Lib.Math.max.name ∈ wG) (hs2 : Cond.initialized "java/lang/Math" ∈ wG) (hs3 : Cond.code Lib.Math.max.name Lib.Math.max.code 2 (some .int) ∈ wG) (hR : 1 ≤ I.2.2.2.2.frames ∧ st.length + 13 ≤ I.2.2.2.2.locals) (k : mE l Sh sx I RT (pc + 3) ls (.inl (if x < y then y else x) :: st) h) : mE l Sh sx I RT pc ls (.inl y :: .inl x :: st) h := by
  intro p e s m args below meth c Q D cI ad A H locs lr C F Wd L
  exact va_mmax C.1 C.2.1 (C.2.2.1.trans L.1.symm) C.2.2.2.2.2.1 (C.2.2.2.2.2.2.1 _ hl) (C.2.2.2.2.2.2.1 _ hs1) (C.2.2.2.2.2.2.1 _ hs2) (C.2.2.2.2.2.2.1 _ hs3) hR.1 (by rw [cat_sum]; exact hR.2) (Nat.zero_le _) (Nat.zero_le _) hd (k p e s m args below meth c Q D cI ad A H locs lr C F Wd L)

theorem b_icmp_lt {x y : Int32} {X Y : Int} {off : Int} {tgt : Nat} (hx : x.toInt = X) (hy : y.toInt = Y) (hd : decode I.2.1 pc = .ok (.if_icmp .lt off, 3)) (ht : (pc : Int) + off = (tgt : Int)) (kt : X < Y → mE l Sh sx I RT tgt ls st h) (kf : Y ≤ X → mE l Sh sx I RT (pc + 3) ls st h) : mE l Sh sx I RT pc ls (.inl y :: .inl x :: st) h := by
  subst hx hy
  exact e_icmp_lt hd ht (fun q => kt (Int32.lt_iff_toInt_lt.mp q)) (fun q => kf (Int.not_lt.mp (fun z => q (Int32.lt_iff_toInt_lt.mpr z))))
theorem b_if_lt {x : Int32} {X : Int} {off : Int} {tgt : Nat} (hx : x.toInt = X) (hd : decode I.2.1 pc = .ok (.ifCond .lt off, 3)) (ht : (pc : Int) + off = (tgt : Int)) (kt : X < 0 → mE l Sh sx I RT tgt ls st h) (kf : 0 ≤ X → mE l Sh sx I RT (pc + 3) ls st h) : mE l Sh sx I RT pc ls (.inl x :: st) h := by
  subst hx
  exact e_if_lt hd ht (fun q => kt (Int32.lt_iff_toInt_lt.mp q)) (fun q => kf (Int.not_lt.mp (fun z => q (Int32.lt_iff_toInt_lt.mpr z))))
theorem b_icmp_ge {x y : Int32} {X Y : Int} {off : Int} {tgt : Nat} (hx : x.toInt = X) (hy : y.toInt = Y) (hd : decode I.2.1 pc = .ok (.if_icmp .ge off, 3)) (ht : (pc : Int) + off = (tgt : Int)) (kt : Y ≤ X → mE l Sh sx I RT tgt ls st h) (kf : X < Y → mE l Sh sx I RT (pc + 3) ls st h) : mE l Sh sx I RT pc ls (.inl y :: .inl x :: st) h := by
  subst hx hy
  exact e_icmp_ge hd ht (fun q => kt (Int32.le_iff_toInt_le.mp q)) (fun q => kf (Int.not_le.mp (fun z => q (Int32.le_iff_toInt_le.mpr z))))
theorem b_if_ge {x : Int32} {X : Int} {off : Int} {tgt : Nat} (hx : x.toInt = X) (hd : decode I.2.1 pc = .ok (.ifCond .ge off, 3)) (ht : (pc : Int) + off = (tgt : Int)) (kt : 0 ≤ X → mE l Sh sx I RT tgt ls st h) (kf : X < 0 → mE l Sh sx I RT (pc + 3) ls st h) : mE l Sh sx I RT pc ls (.inl x :: st) h := by
  subst hx
  exact e_if_ge hd ht (fun q => kt (Int32.le_iff_toInt_le.mp q)) (fun q => kf (Int.not_le.mp (fun z => q (Int32.le_iff_toInt_le.mpr z))))
theorem b_icmp_gt {x y : Int32} {X Y : Int} {off : Int} {tgt : Nat} (hx : x.toInt = X) (hy : y.toInt = Y) (hd : decode I.2.1 pc = .ok (.if_icmp .gt off, 3)) (ht : (pc : Int) + off = (tgt : Int)) (kt : Y < X → mE l Sh sx I RT tgt ls st h) (kf : X ≤ Y → mE l Sh sx I RT (pc + 3) ls st h) : mE l Sh sx I RT pc ls (.inl y :: .inl x :: st) h := by
  subst hx hy
  exact e_icmp_gt hd ht (fun q => kt (Int32.lt_iff_toInt_lt.mp q)) (fun q => kf (Int.not_lt.mp (fun z => q (Int32.lt_iff_toInt_lt.mpr z))))
theorem b_if_gt {x : Int32} {X : Int} {off : Int} {tgt : Nat} (hx : x.toInt = X) (hd : decode I.2.1 pc = .ok (.ifCond .gt off, 3)) (ht : (pc : Int) + off = (tgt : Int)) (kt : 0 < X → mE l Sh sx I RT tgt ls st h) (kf : X ≤ 0 → mE l Sh sx I RT (pc + 3) ls st h) : mE l Sh sx I RT pc ls (.inl x :: st) h := by
  subst hx
  exact e_if_gt hd ht (fun q => kt (Int32.lt_iff_toInt_lt.mp q)) (fun q => kf (Int.not_lt.mp (fun z => q (Int32.lt_iff_toInt_lt.mpr z))))
theorem b_icmp_le {x y : Int32} {X Y : Int} {off : Int} {tgt : Nat} (hx : x.toInt = X) (hy : y.toInt = Y) (hd : decode I.2.1 pc = .ok (.if_icmp .le off, 3)) (ht : (pc : Int) + off = (tgt : Int)) (kt : X ≤ Y → mE l Sh sx I RT tgt ls st h) (kf : Y < X → mE l Sh sx I RT (pc + 3) ls st h) : mE l Sh sx I RT pc ls (.inl y :: .inl x :: st) h := by
  subst hx hy
  exact e_icmp_le hd ht (fun q => kt (Int32.le_iff_toInt_le.mp q)) (fun q => kf (Int.not_le.mp (fun z => q (Int32.le_iff_toInt_le.mpr z))))
theorem b_if_le {x : Int32} {X : Int} {off : Int} {tgt : Nat} (hx : x.toInt = X) (hd : decode I.2.1 pc = .ok (.ifCond .le off, 3)) (ht : (pc : Int) + off = (tgt : Int)) (kt : X ≤ 0 → mE l Sh sx I RT tgt ls st h) (kf : 0 < X → mE l Sh sx I RT (pc + 3) ls st h) : mE l Sh sx I RT pc ls (.inl x :: st) h := by
  subst hx
  exact e_if_le hd ht (fun q => kt (Int32.le_iff_toInt_le.mp q)) (fun q => kf (Int.not_le.mp (fun z => q (Int32.le_iff_toInt_le.mpr z))))
theorem b_icmp_eq {x y : Int32} {X Y : Int} {off : Int} {tgt : Nat} (hx : x.toInt = X) (hy : y.toInt = Y) (hd : decode I.2.1 pc = .ok (.if_icmp .eq off, 3)) (ht : (pc : Int) + off = (tgt : Int)) (kt : x = y → X = Y → mE l Sh sx I RT tgt ls st h) (kf : ¬ x = y → ¬ X = Y → mE l Sh sx I RT (pc + 3) ls st h) : mE l Sh sx I RT pc ls (.inl y :: .inl x :: st) h := by
  subst hx hy
  exact e_icmp_eq hd ht (fun q => kt q (by subst q; rfl)) (fun q => kf q (fun z => q (Int32.toInt_inj.mp z)))
theorem b_if_eq {x : Int32} {X : Int} {off : Int} {tgt : Nat} (hx : x.toInt = X) (hd : decode I.2.1 pc = .ok (.ifCond .eq off, 3)) (ht : (pc : Int) + off = (tgt : Int)) (kt : x = 0 → X = 0 → mE l Sh sx I RT tgt ls st h) (kf : ¬ x = 0 → ¬ X = 0 → mE l Sh sx I RT (pc + 3) ls st h) : mE l Sh sx I RT pc ls (.inl x :: st) h := by
  subst hx
  exact e_if_eq hd ht (fun q => kt q (by subst q; rfl)) (fun q => kf q (fun z => q (Int32.toInt_inj.mp z)))
theorem b_icmp_ne {x y : Int32} {X Y : Int} {off : Int} {tgt : Nat} (hx : x.toInt = X) (hy : y.toInt = Y) (hd : decode I.2.1 pc = .ok (.if_icmp .ne off, 3)) (ht : (pc : Int) + off = (tgt : Int)) (kt : ¬ x = y → ¬ X = Y → mE l Sh sx I RT tgt ls st h) (kf : x = y → X = Y → mE l Sh sx I RT (pc + 3) ls st h) : mE l Sh sx I RT pc ls (.inl y :: .inl x :: st) h := by
  subst hx hy
  exact e_icmp_ne hd ht (fun q => kt q (fun z => q (Int32.toInt_inj.mp z))) (fun q => kf q (by subst q; rfl))
theorem b_if_ne {x : Int32} {X : Int} {off : Int} {tgt : Nat} (hx : x.toInt = X) (hd : decode I.2.1 pc = .ok (.ifCond .ne off, 3)) (ht : (pc : Int) + off = (tgt : Int)) (kt : ¬ x = 0 → ¬ X = 0 → mE l Sh sx I RT tgt ls st h) (kf : x = 0 → X = 0 → mE l Sh sx I RT (pc + 3) ls st h) : mE l Sh sx I RT pc ls (.inl x :: st) h := by
  subst hx
  exact e_if_ne hd ht (fun q => kt q (fun z => q (Int32.toInt_inj.mp z))) (fun q => kf q (by subst q; rfl))
theorem z_iadd {x y z : Int32} (hz : x + y = z) (hd : decode I.2.1 pc = .ok (.iadd, 1)) (k : mE l Sh sx I RT (pc + 1) ls (.inl z :: st) h) : mE l Sh sx I RT pc ls (.inl y :: .inl x :: st) h := e_iadd hd (by rw [hz]; exact k)
theorem z_isub {x y z : Int32} (hz : x - y = z) (hd : decode I.2.1 pc = .ok (.isub, 1)) (k : mE l Sh sx I RT (pc + 1) ls (.inl z :: st) h) : mE l Sh sx I RT pc ls (.inl y :: .inl x :: st) h := e_isub hd (by rw [hz]; exact k)
theorem z_imul {x y z : Int32} (hz : x * y = z) (hd : decode I.2.1 pc = .ok (.imul, 1)) (k : mE l Sh sx I RT (pc + 1) ls (.inl z :: st) h) : mE l Sh sx I RT pc ls (.inl y :: .inl x :: st) h := e_imul hd (by rw [hz]; exact k)
theorem z_iand {x y z : Int32} (hz : x &&& y = z) (hd : decode I.2.1 pc = .ok (.iand, 1)) (k : mE l Sh sx I RT (pc + 1) ls (.inl z :: st) h) : mE l Sh sx I RT pc ls (.inl y :: .inl x :: st) h := e_iand hd (by rw [hz]; exact k)
theorem z_ior {x y z : Int32} (hz : x ||| y = z) (hd : decode I.2.1 pc = .ok (.ior, 1)) (k : mE l Sh sx I RT (pc + 1) ls (.inl z :: st) h) : mE l Sh sx I RT pc ls (.inl y :: .inl x :: st) h := e_ior hd (by rw [hz]; exact k)
theorem z_ixor {x y z : Int32} (hz : x ^^^ y = z) (hd : decode I.2.1 pc = .ok (.ixor, 1)) (k : mE l Sh sx I RT (pc + 1) ls (.inl z :: st) h) : mE l Sh sx I RT pc ls (.inl y :: .inl x :: st) h := e_ixor hd (by rw [hz]; exact k)
theorem z_ishl {x y z : Int32} (hz : x <<< (y &&& 31) = z) (hd : decode I.2.1 pc = .ok (.ishl, 1)) (k : mE l Sh sx I RT (pc + 1) ls (.inl z :: st) h) : mE l Sh sx I RT pc ls (.inl y :: .inl x :: st) h := e_ishl hd (by rw [hz]; exact k)
theorem z_ishr {x y z : Int32} (hz : x >>> (y &&& 31) = z) (hd : decode I.2.1 pc = .ok (.ishr, 1)) (k : mE l Sh sx I RT (pc + 1) ls (.inl z :: st) h) : mE l Sh sx I RT pc ls (.inl y :: .inl x :: st) h := e_ishr hd (by rw [hz]; exact k)
theorem z_idiv {x y z : Int32} (hz : x / y = z) (hd : decode I.2.1 pc = .ok (.idiv, 1)) (hne : ¬ y = 0) (k : mE l Sh sx I RT (pc + 1) ls (.inl z :: st) h) : mE l Sh sx I RT pc ls (.inl y :: .inl x :: st) h := e_idiv hd hne (by rw [hz]; exact k)
theorem z_irem {x y z : Int32} (hz : x - x / y * y = z) (hd : decode I.2.1 pc = .ok (.irem, 1)) (hne : ¬ y = 0) (k : mE l Sh sx I RT (pc + 1) ls (.inl z :: st) h) : mE l Sh sx I RT pc ls (.inl y :: .inl x :: st) h := e_irem hd hne (by rw [hz]; exact k)
theorem vin_of {x : Int32} {n : Nat} (h0 : 0 ≤ x.toInt) (h1 : x.toInt < n) : vp_in x n := vp_in_iff.mpr ⟨h0, h1⟩
theorem vin_ofX {x : Int32} {X : Int} {n : Nat} (hx : x.toInt = X) (h0 : 0 ≤ X) (h1 : X < n) : vp_in x n := vp_in_iff.mpr ⟨by rw [hx]; exact h0, by rw [hx]; exact h1⟩
theorem mret_i (v : Int32) : mRet (some .int) v := ⟨_, rfl, rfl⟩
theorem mret_z {v : Int32} (h : v = 0 ∨ v = 1) : mRet (some .boolean) v := ⟨_, rfl, by rcases h with rfl | rfl <;> rfl⟩
end RULES
