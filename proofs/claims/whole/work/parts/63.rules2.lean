/-! The calculus once more, behind k0 cells of n0 slots that were made. -/
def mF2 (l : Launch) (Sh : mS) (I : mI) (RT : Option Int32 → mH → Prop) (k0 n0 : Nat) (p : Program) (e : Env) (s : State) (m : MethodId) (args : Array Value) (below : List Frame) (meth : Method) (c : Code) (Q : State → Prop) (D : va_G) (cI : ClassId) (ad : Nat → Nat) (A : Nat → Prop) : Prop :=
  (∀ (v : Int32) (h : mH) (H : Heap) (locs : List Loc) (pc : Nat) (lr : Array Slot), RT (some v) h → mRet I.2.2.2.1 v → mW Sh D cI ad A s.heap H locs h → decode I.2.1 pc = .ok (.ireturn, 1) → W p l e I.2.2.2.2 s m args below meth c H locs k0 n0 Q (F0 m pc lr [.int v])) ∧
  (∀ (h : mH) (H : Heap) (locs : List Loc) (pc : Nat) (lr : Array Slot), RT none h → I.2.2.2.1 = none → mW Sh D cI ad A s.heap H locs h → decode I.2.1 pc = .ok (.return_, 1) → W p l e I.2.2.2.2 s m args below meth c H locs k0 n0 Q (F0 m pc lr []))
def mE2 (l : Launch) (Sh : mS) (sx : Option (Nat × (Nat → Int32))) (I : mI) (RT : Option Int32 → mH → Prop) (k0 n0 : Nat) (pc : Nat) (ls : List (Option mV)) (st : List mV) (h : mH) : Prop :=
  ∀ (p : Program) (e : Env) (s : State) (m : MethodId) (args : Array Value) (below : List Frame) (meth : Method) (c : Code) (Q : State → Prop) (D : va_G) (cI : ClassId) (ad : Nat → Nat) (A : Nat → Prop) (H : Heap) (locs : List Loc) (lr : Array Slot), mC sx I p s m args meth c D cI ad A → mF2 l Sh I RT k0 n0 p e s m args below meth c Q D cI ad A → mW Sh D cI ad A s.heap H locs h → mL ad I.2.2.1 ls lr → W p l e I.2.2.2.2 s m args below meth c H locs k0 n0 Q (F0 m pc lr (st.map (mv ad)))
section RULES2
variable {l : Launch} {Sh : mS} {sx : Option (Nat × (Nat → Int32))} {I : mI} {RT : Option Int32 → mH → Prop} {k0 n0 : Nat} {pc : Nat} {ls : List (Option mV)} {st : List mV} {h : mH}
theorem e2_iadd {x y : Int32} (hd : decode I.2.1 pc = .ok (.iadd, 1))  (k : mE2 l Sh sx I RT k0 n0 (pc + 1) ls (.inl (x + y) :: st) h) : mE2 l Sh sx I RT k0 n0 pc ls (.inl y :: .inl x :: st) h := by
  intro p e s m args below meth c Q D cI ad A H locs lr C F Wd L
  exact lv_iadd C.1 C.2.1 hd  (k p e s m args below meth c Q D cI ad A H locs lr C F Wd L)
theorem e2_isub {x y : Int32} (hd : decode I.2.1 pc = .ok (.isub, 1))  (k : mE2 l Sh sx I RT k0 n0 (pc + 1) ls (.inl (x - y) :: st) h) : mE2 l Sh sx I RT k0 n0 pc ls (.inl y :: .inl x :: st) h := by
  intro p e s m args below meth c Q D cI ad A H locs lr C F Wd L
  exact lv_isub C.1 C.2.1 hd  (k p e s m args below meth c Q D cI ad A H locs lr C F Wd L)
theorem e2_imul {x y : Int32} (hd : decode I.2.1 pc = .ok (.imul, 1))  (k : mE2 l Sh sx I RT k0 n0 (pc + 1) ls (.inl (x * y) :: st) h) : mE2 l Sh sx I RT k0 n0 pc ls (.inl y :: .inl x :: st) h := by
  intro p e s m args below meth c Q D cI ad A H locs lr C F Wd L
  exact lv_imul C.1 C.2.1 hd  (k p e s m args below meth c Q D cI ad A H locs lr C F Wd L)
theorem e2_iand {x y : Int32} (hd : decode I.2.1 pc = .ok (.iand, 1))  (k : mE2 l Sh sx I RT k0 n0 (pc + 1) ls (.inl (x &&& y) :: st) h) : mE2 l Sh sx I RT k0 n0 pc ls (.inl y :: .inl x :: st) h := by
  intro p e s m args below meth c Q D cI ad A H locs lr C F Wd L
  exact lv_iand C.1 C.2.1 hd  (k p e s m args below meth c Q D cI ad A H locs lr C F Wd L)
theorem e2_ior {x y : Int32} (hd : decode I.2.1 pc = .ok (.ior, 1))  (k : mE2 l Sh sx I RT k0 n0 (pc + 1) ls (.inl (x ||| y) :: st) h) : mE2 l Sh sx I RT k0 n0 pc ls (.inl y :: .inl x :: st) h := by
  intro p e s m args below meth c Q D cI ad A H locs lr C F Wd L
  exact lv_ior C.1 C.2.1 hd  (k p e s m args below meth c Q D cI ad A H locs lr C F Wd L)
theorem e2_ixor {x y : Int32} (hd : decode I.2.1 pc = .ok (.ixor, 1))  (k : mE2 l Sh sx I RT k0 n0 (pc + 1) ls (.inl (x ^^^ y) :: st) h) : mE2 l Sh sx I RT k0 n0 pc ls (.inl y :: .inl x :: st) h := by
  intro p e s m args below meth c Q D cI ad A H locs lr C F Wd L
  exact lv_ixor C.1 C.2.1 hd  (k p e s m args below meth c Q D cI ad A H locs lr C F Wd L)
theorem e2_ishl {x y : Int32} (hd : decode I.2.1 pc = .ok (.ishl, 1))  (k : mE2 l Sh sx I RT k0 n0 (pc + 1) ls (.inl (x <<< (y &&& 31)) :: st) h) : mE2 l Sh sx I RT k0 n0 pc ls (.inl y :: .inl x :: st) h := by
  intro p e s m args below meth c Q D cI ad A H locs lr C F Wd L
  exact lv_ishl C.1 C.2.1 hd  (k p e s m args below meth c Q D cI ad A H locs lr C F Wd L)
theorem e2_ishr {x y : Int32} (hd : decode I.2.1 pc = .ok (.ishr, 1))  (k : mE2 l Sh sx I RT k0 n0 (pc + 1) ls (.inl (x >>> (y &&& 31)) :: st) h) : mE2 l Sh sx I RT k0 n0 pc ls (.inl y :: .inl x :: st) h := by
  intro p e s m args below meth c Q D cI ad A H locs lr C F Wd L
  exact lv_ishr C.1 C.2.1 hd  (k p e s m args below meth c Q D cI ad A H locs lr C F Wd L)
theorem e2_idiv {x y : Int32} (hd : decode I.2.1 pc = .ok (.idiv, 1)) (hne : ¬ y = 0) (k : mE2 l Sh sx I RT k0 n0 (pc + 1) ls (.inl (x / y) :: st) h) : mE2 l Sh sx I RT k0 n0 pc ls (.inl y :: .inl x :: st) h := by
  intro p e s m args below meth c Q D cI ad A H locs lr C F Wd L
  exact lv_idiv C.1 C.2.1 hd hne (k p e s m args below meth c Q D cI ad A H locs lr C F Wd L)
theorem e2_irem {x y : Int32} (hd : decode I.2.1 pc = .ok (.irem, 1)) (hne : ¬ y = 0) (k : mE2 l Sh sx I RT k0 n0 (pc + 1) ls (.inl (x - x / y * y) :: st) h) : mE2 l Sh sx I RT k0 n0 pc ls (.inl y :: .inl x :: st) h := by
  intro p e s m args below meth c Q D cI ad A H locs lr C F Wd L
  exact lv_irem C.1 C.2.1 hd hne (k p e s m args below meth c Q D cI ad A H locs lr C F Wd L)
theorem e2_iconst {n : Int} {v : Int32} (hd : decode I.2.1 pc = .ok (.iconst n, 1)) (hv : Int32.ofInt n = v) (k : mE2 l Sh sx I RT k0 n0 (pc + 1) ls (.inl v :: st) h) : mE2 l Sh sx I RT k0 n0 pc ls (st) h := by
  intro p e s m args below meth c Q D cI ad A H locs lr C F Wd L
  exact lv_iconst C.1 C.2.1 hd hv (k p e s m args below meth c Q D cI ad A H locs lr C F Wd L)
theorem e2_bipush {n : Int} {v : Int32} (hd : decode I.2.1 pc = .ok (.bipush n, 2)) (hv : (Int8.ofInt n).toInt32 = v) (k : mE2 l Sh sx I RT k0 n0 (pc + 2) ls (.inl v :: st) h) : mE2 l Sh sx I RT k0 n0 pc ls (st) h := by
  intro p e s m args below meth c Q D cI ad A H locs lr C F Wd L
  exact lv_bipush C.1 C.2.1 hd hv (k p e s m args below meth c Q D cI ad A H locs lr C F Wd L)
theorem e2_sipush {n : Int} {v : Int32} (hd : decode I.2.1 pc = .ok (.sipush n, 3)) (hv : (Int16.ofInt n).toInt32 = v) (k : mE2 l Sh sx I RT k0 n0 (pc + 3) ls (.inl v :: st) h) : mE2 l Sh sx I RT k0 n0 pc ls (st) h := by
  intro p e s m args below meth c Q D cI ad A H locs lr C F Wd L
  exact lv_sipush C.1 C.2.1 hd hv (k p e s m args below meth c Q D cI ad A H locs lr C F Wd L)
theorem e2_dup {v : mV} (hd : decode I.2.1 pc = .ok (.dup, 1))  (k : mE2 l Sh sx I RT k0 n0 (pc + 1) ls (v :: v :: st) h) : mE2 l Sh sx I RT k0 n0 pc ls (v :: st) h := by
  intro p e s m args below meth c Q D cI ad A H locs lr C F Wd L
  exact lv_dup C.1 C.2.1 hd (mv_cat ad v) (k p e s m args below meth c Q D cI ad A H locs lr C F Wd L)
theorem e2_pop {v : mV} (hd : decode I.2.1 pc = .ok (.pop, 1))  (k : mE2 l Sh sx I RT k0 n0 (pc + 1) ls (st) h) : mE2 l Sh sx I RT k0 n0 pc ls (v :: st) h := by
  intro p e s m args below meth c Q D cI ad A H locs lr C F Wd L
  exact lv_pop C.1 C.2.1 hd (mv_cat ad v) (k p e s m args below meth c Q D cI ad A H locs lr C F Wd L)
theorem e2_dup2 {v v2 : mV} (hd : decode I.2.1 pc = .ok (.dup2, 1))  (k : mE2 l Sh sx I RT k0 n0 (pc + 1) ls (v :: v2 :: v :: v2 :: st) h) : mE2 l Sh sx I RT k0 n0 pc ls (v :: v2 :: st) h := by
  intro p e s m args below meth c Q D cI ad A H locs lr C F Wd L
  exact lv_dup2_11 C.1 C.2.1 hd (mv_cat ad v) (mv_cat ad v2) (k p e s m args below meth c Q D cI ad A H locs lr C F Wd L)
theorem e2_iload_n {n : Fin 4} {i : Nat} {x : Int32} (hd : decode I.2.1 pc = .ok (.iload_n n, 1)) (hi : (n : Nat) = i) (hl : ls[i]? = some (some (.inl x))) (k : mE2 l Sh sx I RT k0 n0 (pc + 1) ls (.inl x :: st) h) : mE2 l Sh sx I RT k0 n0 pc ls (st) h := by
  intro p e s m args below meth c Q D cI ad A H locs lr C F Wd L
  exact lv_iload_n C.1 C.2.1 hd hi (L.2.2 _ _ hl) (k p e s m args below meth c Q D cI ad A H locs lr C F Wd L)
theorem e2_iload {i : Nat} {x : Int32} (hd : decode I.2.1 pc = .ok (.iload i, 2)) (hl : ls[i]? = some (some (.inl x))) (k : mE2 l Sh sx I RT k0 n0 (pc + 2) ls (.inl x :: st) h) : mE2 l Sh sx I RT k0 n0 pc ls (st) h := by
  intro p e s m args below meth c Q D cI ad A H locs lr C F Wd L
  exact lv_iload C.1 C.2.1 hd (L.2.2 _ _ hl) (k p e s m args below meth c Q D cI ad A H locs lr C F Wd L)
theorem e2_aload_n {n : Fin 4} {i : Nat} {x : Nat} (hd : decode I.2.1 pc = .ok (.aload_n n, 1)) (hi : (n : Nat) = i) (hl : ls[i]? = some (some (.inr x))) (k : mE2 l Sh sx I RT k0 n0 (pc + 1) ls (.inr x :: st) h) : mE2 l Sh sx I RT k0 n0 pc ls (st) h := by
  intro p e s m args below meth c Q D cI ad A H locs lr C F Wd L
  exact lv_aload_n C.1 C.2.1 hd hi (L.2.2 _ _ hl) (k p e s m args below meth c Q D cI ad A H locs lr C F Wd L)
theorem e2_aload {i : Nat} {x : Nat} (hd : decode I.2.1 pc = .ok (.aload i, 2)) (hl : ls[i]? = some (some (.inr x))) (k : mE2 l Sh sx I RT k0 n0 (pc + 2) ls (.inr x :: st) h) : mE2 l Sh sx I RT k0 n0 pc ls (st) h := by
  intro p e s m args below meth c Q D cI ad A H locs lr C F Wd L
  exact lv_aload C.1 C.2.1 hd (L.2.2 _ _ hl) (k p e s m args below meth c Q D cI ad A H locs lr C F Wd L)
theorem e2_ldc {index : Nat} {v : Int32} (hd : decode I.2.1 pc = .ok (.ldc index, 2)) (hw : Cond.constant I.1 index v ∈ wG) (k : mE2 l Sh sx I RT k0 n0 (pc + 2) ls (.inl v :: st) h) : mE2 l Sh sx I RT k0 n0 pc ls st h := by
  intro p e s m args below meth c Q D cI ad A H locs lr C F Wd L
  exact lv_ldc C.1 C.2.1 C.2.2.2.2.2.1 (C.2.2.2.2.2.2.1 _ hw) hd (k p e s m args below meth c Q D cI ad A H locs lr C F Wd L)
theorem e2_istore_n {n : Fin 4} {i : Nat} {x : Int32} {ls2 : List (Option mV)} (hd : decode I.2.1 pc = .ok (.istore_n n, 1)) (hi : (n : Nat) = i) (hn : i < I.2.2.1) (hl : ls.set i (some (.inl x)) = ls2) (k : mE2 l Sh sx I RT k0 n0 (pc + 1) ls2 st h) : mE2 l Sh sx I RT k0 n0 pc ls (.inl x :: st) h := by
  intro p e s m args below meth c Q D cI ad A H locs lr C F Wd L
  exact lv_istore_n C.1 C.2.1 hd hi (mL_has L) hn rfl (fun lr2 hl2 => k p e s m args below meth c Q D cI ad A H locs lr2 C F Wd (by rw [← hl]; exact mL_st hl2))
theorem e2_istore {i : Nat} {x : Int32} {ls2 : List (Option mV)} (hd : decode I.2.1 pc = .ok (.istore i, 2)) (hn : i < I.2.2.1) (hl : ls.set i (some (.inl x)) = ls2) (k : mE2 l Sh sx I RT k0 n0 (pc + 2) ls2 st h) : mE2 l Sh sx I RT k0 n0 pc ls (.inl x :: st) h := by
  intro p e s m args below meth c Q D cI ad A H locs lr C F Wd L
  exact lv_istore C.1 C.2.1 hd (mL_has L) hn rfl (fun lr2 hl2 => k p e s m args below meth c Q D cI ad A H locs lr2 C F Wd (by rw [← hl]; exact mL_st hl2))
theorem e2_iinc {i : Nat} {n : Int} {x v : Int32} {ls2 : List (Option mV)} (hd : decode I.2.1 pc = .ok (.iinc i n, 3)) (hx : ls[i]? = some (some (.inl x))) (hv : x + Int32.ofInt n = v) (hn : i < I.2.2.1) (hl : ls.set i (some (.inl v)) = ls2) (k : mE2 l Sh sx I RT k0 n0 (pc + 3) ls2 st h) : mE2 l Sh sx I RT k0 n0 pc ls st h := by
  intro p e s m args below meth c Q D cI ad A H locs lr C F Wd L
  have hm := mAl_mem (ad := ad) (i0 := 0) hx
  rw [Nat.zero_add] at hm
  obtain ⟨kk, hkk⟩ := List.getElem?_of_mem hm
  exact lv_iinc C.1 C.2.1 hd (mL_has L) hkk hv hn rfl (fun lr2 hl2 => k p e s m args below meth c Q D cI ad A H locs lr2 C F Wd (by rw [← hl]; exact mL_st hl2))
theorem e2_if_eq {x : Int32} {off : Int} {tgt : Nat} (hd : decode I.2.1 pc = .ok (.ifCond .eq off, 3)) (ht : (pc : Int) + off = (tgt : Int)) (kt : x = 0 → mE2 l Sh sx I RT k0 n0 tgt ls st h) (kf : ¬ x = 0 → mE2 l Sh sx I RT k0 n0 (pc + 3) ls st h) : mE2 l Sh sx I RT k0 n0 pc ls (.inl x :: st) h := by
  intro p e s m args below meth c Q D cI ad A H locs lr C F Wd L
  exact lv_if_eq C.1 C.2.1 hd ht (fun q => kt q p e s m args below meth c Q D cI ad A H locs lr C F Wd L) (fun q => kf q p e s m args below meth c Q D cI ad A H locs lr C F Wd L)
theorem e2_icmp_eq {x y : Int32} {off : Int} {tgt : Nat} (hd : decode I.2.1 pc = .ok (.if_icmp .eq off, 3)) (ht : (pc : Int) + off = (tgt : Int)) (kt : x = y → mE2 l Sh sx I RT k0 n0 tgt ls st h) (kf : ¬ x = y → mE2 l Sh sx I RT k0 n0 (pc + 3) ls st h) : mE2 l Sh sx I RT k0 n0 pc ls (.inl y :: .inl x :: st) h := by
  intro p e s m args below meth c Q D cI ad A H locs lr C F Wd L
  exact lv_icmp_eq C.1 C.2.1 hd ht (fun q => kt q p e s m args below meth c Q D cI ad A H locs lr C F Wd L) (fun q => kf q p e s m args below meth c Q D cI ad A H locs lr C F Wd L)
theorem e2_if_ne {x : Int32} {off : Int} {tgt : Nat} (hd : decode I.2.1 pc = .ok (.ifCond .ne off, 3)) (ht : (pc : Int) + off = (tgt : Int)) (kt : ¬ x = 0 → mE2 l Sh sx I RT k0 n0 tgt ls st h) (kf : x = 0 → mE2 l Sh sx I RT k0 n0 (pc + 3) ls st h) : mE2 l Sh sx I RT k0 n0 pc ls (.inl x :: st) h := by
  intro p e s m args below meth c Q D cI ad A H locs lr C F Wd L
  exact lv_if_ne C.1 C.2.1 hd ht (fun q => kt q p e s m args below meth c Q D cI ad A H locs lr C F Wd L) (fun q => kf q p e s m args below meth c Q D cI ad A H locs lr C F Wd L)
theorem e2_icmp_ne {x y : Int32} {off : Int} {tgt : Nat} (hd : decode I.2.1 pc = .ok (.if_icmp .ne off, 3)) (ht : (pc : Int) + off = (tgt : Int)) (kt : ¬ x = y → mE2 l Sh sx I RT k0 n0 tgt ls st h) (kf : x = y → mE2 l Sh sx I RT k0 n0 (pc + 3) ls st h) : mE2 l Sh sx I RT k0 n0 pc ls (.inl y :: .inl x :: st) h := by
  intro p e s m args below meth c Q D cI ad A H locs lr C F Wd L
  exact lv_icmp_ne C.1 C.2.1 hd ht (fun q => kt q p e s m args below meth c Q D cI ad A H locs lr C F Wd L) (fun q => kf q p e s m args below meth c Q D cI ad A H locs lr C F Wd L)
theorem e2_if_lt {x : Int32} {off : Int} {tgt : Nat} (hd : decode I.2.1 pc = .ok (.ifCond .lt off, 3)) (ht : (pc : Int) + off = (tgt : Int)) (kt : x < 0 → mE2 l Sh sx I RT k0 n0 tgt ls st h) (kf : ¬ x < 0 → mE2 l Sh sx I RT k0 n0 (pc + 3) ls st h) : mE2 l Sh sx I RT k0 n0 pc ls (.inl x :: st) h := by
  intro p e s m args below meth c Q D cI ad A H locs lr C F Wd L
  exact lv_if_lt C.1 C.2.1 hd ht (fun q => kt q p e s m args below meth c Q D cI ad A H locs lr C F Wd L) (fun q => kf q p e s m args below meth c Q D cI ad A H locs lr C F Wd L)
theorem e2_icmp_lt {x y : Int32} {off : Int} {tgt : Nat} (hd : decode I.2.1 pc = .ok (.if_icmp .lt off, 3)) (ht : (pc : Int) + off = (tgt : Int)) (kt : x < y → mE2 l Sh sx I RT k0 n0 tgt ls st h) (kf : ¬ x < y → mE2 l Sh sx I RT k0 n0 (pc + 3) ls st h) : mE2 l Sh sx I RT k0 n0 pc ls (.inl y :: .inl x :: st) h := by
  intro p e s m args below meth c Q D cI ad A H locs lr C F Wd L
  exact lv_icmp_lt C.1 C.2.1 hd ht (fun q => kt q p e s m args below meth c Q D cI ad A H locs lr C F Wd L) (fun q => kf q p e s m args below meth c Q D cI ad A H locs lr C F Wd L)
theorem e2_if_ge {x : Int32} {off : Int} {tgt : Nat} (hd : decode I.2.1 pc = .ok (.ifCond .ge off, 3)) (ht : (pc : Int) + off = (tgt : Int)) (kt : 0 ≤ x → mE2 l Sh sx I RT k0 n0 tgt ls st h) (kf : ¬ 0 ≤ x → mE2 l Sh sx I RT k0 n0 (pc + 3) ls st h) : mE2 l Sh sx I RT k0 n0 pc ls (.inl x :: st) h := by
  intro p e s m args below meth c Q D cI ad A H locs lr C F Wd L
  exact lv_if_ge C.1 C.2.1 hd ht (fun q => kt q p e s m args below meth c Q D cI ad A H locs lr C F Wd L) (fun q => kf q p e s m args below meth c Q D cI ad A H locs lr C F Wd L)
theorem e2_icmp_ge {x y : Int32} {off : Int} {tgt : Nat} (hd : decode I.2.1 pc = .ok (.if_icmp .ge off, 3)) (ht : (pc : Int) + off = (tgt : Int)) (kt : y ≤ x → mE2 l Sh sx I RT k0 n0 tgt ls st h) (kf : ¬ y ≤ x → mE2 l Sh sx I RT k0 n0 (pc + 3) ls st h) : mE2 l Sh sx I RT k0 n0 pc ls (.inl y :: .inl x :: st) h := by
  intro p e s m args below meth c Q D cI ad A H locs lr C F Wd L
  exact lv_icmp_ge C.1 C.2.1 hd ht (fun q => kt q p e s m args below meth c Q D cI ad A H locs lr C F Wd L) (fun q => kf q p e s m args below meth c Q D cI ad A H locs lr C F Wd L)
theorem e2_if_gt {x : Int32} {off : Int} {tgt : Nat} (hd : decode I.2.1 pc = .ok (.ifCond .gt off, 3)) (ht : (pc : Int) + off = (tgt : Int)) (kt : 0 < x → mE2 l Sh sx I RT k0 n0 tgt ls st h) (kf : ¬ 0 < x → mE2 l Sh sx I RT k0 n0 (pc + 3) ls st h) : mE2 l Sh sx I RT k0 n0 pc ls (.inl x :: st) h := by
  intro p e s m args below meth c Q D cI ad A H locs lr C F Wd L
  exact lv_if_gt C.1 C.2.1 hd ht (fun q => kt q p e s m args below meth c Q D cI ad A H locs lr C F Wd L) (fun q => kf q p e s m args below meth c Q D cI ad A H locs lr C F Wd L)
theorem e2_icmp_gt {x y : Int32} {off : Int} {tgt : Nat} (hd : decode I.2.1 pc = .ok (.if_icmp .gt off, 3)) (ht : (pc : Int) + off = (tgt : Int)) (kt : y < x → mE2 l Sh sx I RT k0 n0 tgt ls st h) (kf : ¬ y < x → mE2 l Sh sx I RT k0 n0 (pc + 3) ls st h) : mE2 l Sh sx I RT k0 n0 pc ls (.inl y :: .inl x :: st) h := by
  intro p e s m args below meth c Q D cI ad A H locs lr C F Wd L
  exact lv_icmp_gt C.1 C.2.1 hd ht (fun q => kt q p e s m args below meth c Q D cI ad A H locs lr C F Wd L) (fun q => kf q p e s m args below meth c Q D cI ad A H locs lr C F Wd L)
theorem e2_if_le {x : Int32} {off : Int} {tgt : Nat} (hd : decode I.2.1 pc = .ok (.ifCond .le off, 3)) (ht : (pc : Int) + off = (tgt : Int)) (kt : x ≤ 0 → mE2 l Sh sx I RT k0 n0 tgt ls st h) (kf : ¬ x ≤ 0 → mE2 l Sh sx I RT k0 n0 (pc + 3) ls st h) : mE2 l Sh sx I RT k0 n0 pc ls (.inl x :: st) h := by
  intro p e s m args below meth c Q D cI ad A H locs lr C F Wd L
  exact lv_if_le C.1 C.2.1 hd ht (fun q => kt q p e s m args below meth c Q D cI ad A H locs lr C F Wd L) (fun q => kf q p e s m args below meth c Q D cI ad A H locs lr C F Wd L)
theorem e2_icmp_le {x y : Int32} {off : Int} {tgt : Nat} (hd : decode I.2.1 pc = .ok (.if_icmp .le off, 3)) (ht : (pc : Int) + off = (tgt : Int)) (kt : x ≤ y → mE2 l Sh sx I RT k0 n0 tgt ls st h) (kf : ¬ x ≤ y → mE2 l Sh sx I RT k0 n0 (pc + 3) ls st h) : mE2 l Sh sx I RT k0 n0 pc ls (.inl y :: .inl x :: st) h := by
  intro p e s m args below meth c Q D cI ad A H locs lr C F Wd L
  exact lv_icmp_le C.1 C.2.1 hd ht (fun q => kt q p e s m args below meth c Q D cI ad A H locs lr C F Wd L) (fun q => kf q p e s m args below meth c Q D cI ad A H locs lr C F Wd L)
theorem e2_goto {off : Int} {tgt : Nat} (hd : decode I.2.1 pc = .ok (.goto off, 3)) (ht : (pc : Int) + off = (tgt : Int)) (k : mE2 l Sh sx I RT k0 n0 tgt ls st h) : mE2 l Sh sx I RT k0 n0 pc ls st h := by
  intro p e s m args below meth c Q D cI ad A H locs lr C F Wd L
  exact lv_goto C.1 C.2.1 hd ht (k p e s m args below meth c Q D cI ad A H locs lr C F Wd L)
theorem e2_lookup {dflt : Int} {ps : Array (Int × Int)} {len : Nat} {x : Int32} {off : Int} {tgt : Nat} (hd : decode I.2.1 pc = .ok (.lookupswitch dflt ps, len)) (hp : (ps.toList.zip (ps.toList.drop 1)).all (fun (a, next) => a.1 < next.1) = true) (ho : Op.lookupswitch.offset ps.toList dflt x.toInt = off) (ht : (pc : Int) + off = (tgt : Int)) (k : mE2 l Sh sx I RT k0 n0 tgt ls st h) : mE2 l Sh sx I RT k0 n0 pc ls (.inl x :: st) h := by
  intro p e s m args below meth c Q D cI ad A H locs lr C F Wd L
  exact lv_lookup C.1 C.2.1 hd hp ho ht (k p e s m args below meth c Q D cI ad A H locs lr C F Wd L)
theorem e2_tableOut {dflt lo hi : Int} {offs : Array Int} {len : Nat} {x : Int32} {tgt : Nat} (hd : decode I.2.1 pc = .ok (.tableswitch dflt lo hi offs, len)) (hq : x.toInt < lo ∨ hi < x.toInt) (ht : (pc : Int) + dflt = (tgt : Int)) (k : mE2 l Sh sx I RT k0 n0 tgt ls st h) : mE2 l Sh sx I RT k0 n0 pc ls (.inl x :: st) h := by
  intro p e s m args below meth c Q D cI ad A H locs lr C F Wd L
  exact lv_tableOut C.1 C.2.1 hd hq ht (k p e s m args below meth c Q D cI ad A H locs lr C F Wd L)
theorem e2_tableIn {dflt lo hi : Int} {offs : Array Int} {len : Nat} {x : Int32} {off : Int} {tgt : Nat} (hd : decode I.2.1 pc = .ok (.tableswitch dflt lo hi offs, len)) (h1 : ¬ x.toInt < lo) (h2 : ¬ hi < x.toInt) (ho : offs[(x.toInt - lo).toNat]? = some off) (ht : (pc : Int) + off = (tgt : Int)) (k : mE2 l Sh sx I RT k0 n0 tgt ls st h) : mE2 l Sh sx I RT k0 n0 pc ls (.inl x :: st) h := by
  intro p e s m args below meth c Q D cI ad A H locs lr C F Wd L
  exact lv_tableIn C.1 C.2.1 hd h1 h2 ho ht (k p e s m args below meth c Q D cI ad A H locs lr C F Wd L)
theorem e2_iret {v : Int32} (hd : decode I.2.1 pc = .ok (.ireturn, 1)) (hr : mRet I.2.2.2.1 v) (r : RT (some v) h) : mE2 l Sh sx I RT k0 n0 pc ls [.inl v] h := by
  intro p e s m args below meth c Q D cI ad A H locs lr C F Wd L
  exact F.1 v h H locs pc lr r hr Wd hd
theorem e2_ret (hd : decode I.2.1 pc = .ok (.return_, 1)) (hr : I.2.2.2.1 = none) (r : RT none h) : mE2 l Sh sx I RT k0 n0 pc ls [] h := by
  intro p e s m args below meth c Q D cI ad A H locs lr C F Wd L
  exact F.2 h H locs pc lr r hr Wd hd
theorem e2_get {idx ci j k f : Nat} {fks : List Nat} (hd : decode I.2.1 pc = .ok (.getfield idx, 3)) (hf : mFL I.1 idx ci j) (hS : Sh[k]? = some (.inl (ci, fks))) (hj : fks[j]? = some f) (kk : mE2 l Sh sx I RT k0 n0 (pc + 3) ls (mvl h k j f :: st) h) : mE2 l Sh sx I RT k0 n0 pc ls (.inr k :: st) h := by
  intro p e s m args below meth c Q D cI ad A H locs lr C F Wd L
  obtain ⟨C1, T1, N1, hc, hjN, hin, hlk⟩ := hf
  have hv : (fks.mapIdx (fun j f => mv ad (mvl h k j f)))[j]? = some (mv ad (mvl h k j f)) := by rw [List.getElem?_mapIdx, hj]; rfl
  have k2 := kk p e s m args below meth c Q D cI ad A H locs lr C F Wd L
  rcases hlk with hlk | ⟨host, hlk⟩
  · exact va_get C.1 C.2.1 C.2.2.2.2.2.2.1 hin C.2.2.2.2.2.1 C.2.2.2.2.2.2.2.2.1 Wd.1 k (mws_at Sh ad cI h k hS) hc j hjN (C.2.2.2.2.2.2.1 _ hlk) (fun _ h9 => h9) hv hd k2
  · exact va_getN C.1 C.2.1 C.2.2.2.2.2.2.1 hin C.2.2.2.2.2.1 C.2.2.2.2.2.2.2.2.1 Wd.1 k (mws_at Sh ad cI h k hS) hc j hjN (va_Nw.use rfl (C.2.2.2.2.2.2.2.1 _ hlk rfl)) (fun _ h9 => h9) hv hd k2
theorem e2_getI {idx ci j k : Nat} {fks : List Nat} {x : Int32} (hd : decode I.2.1 pc = .ok (.getfield idx, 3)) (hf : mFL I.1 idx ci j) (hS : Sh[k]? = some (.inl (ci, fks))) (hj : fks[j]? = some 0) (hx : h k j = x) (kk : mE2 l Sh sx I RT k0 n0 (pc + 3) ls (.inl x :: st) h) : mE2 l Sh sx I RT k0 n0 pc ls (.inr k :: st) h := e2_get hd hf hS hj (by subst hx; exact kk)
theorem e2_getZ {idx ci j k : Nat} {fks : List Nat} {x : Int32} (hd : decode I.2.1 pc = .ok (.getfield idx, 3)) (hf : mFL I.1 idx ci j) (hS : Sh[k]? = some (.inl (ci, fks))) (hj : fks[j]? = some 1) (hx : h k j = x) (kk : mE2 l Sh sx I RT k0 n0 (pc + 3) ls (.inl x :: st) h) : mE2 l Sh sx I RT k0 n0 pc ls (.inr k :: st) h := e2_get hd hf hS hj (by subst hx; exact kk)
theorem e2_getR {idx ci j k r : Nat} {fks : List Nat} (hd : decode I.2.1 pc = .ok (.getfield idx, 3)) (hf : mFL I.1 idx ci j) (hS : Sh[k]? = some (.inl (ci, fks))) (hj : fks[j]? = some (r + 3)) (kk : mE2 l Sh sx I RT k0 n0 (pc + 3) ls (.inr r :: st) h) : mE2 l Sh sx I RT k0 n0 pc ls (.inr k :: st) h := e2_get hd hf hS hj kk
theorem e2_getD {idx ci j k r : Nat} {fks : List Nat} (hd : decode I.2.1 pc = .ok (.getfield idx, 3)) (hf : mFL I.1 idx ci j) (hS : Sh[k]? = some (.inl (ci, fks))) (hj : fks[j]? = some 2) (hx : (h k j).toNatClampNeg = r) (kk : mE2 l Sh sx I RT k0 n0 (pc + 3) ls (.inr r :: st) h) : mE2 l Sh sx I RT k0 n0 pc ls (.inr k :: st) h := e2_get hd hf hS hj (by subst hx; exact kk)
theorem e2_put {idx ci j k f : Nat} {ty : FieldType} {fks : List Nat} {x : Int32} {v : mV} (hd : decode I.2.1 pc = .ok (.putfield idx, 3)) (hf : mFL I.1 idx ci j) (hp : mFP ci j ty) (hS : Sh[k]? = some (.inl (ci, fks))) (hj : fks[j]? = some f) (hv : mvl (hs h k j x) k j f = v) (hn : ∀ ad, narrow ty (mv ad v) = mv ad v) (hfit : ∀ ad, fits ty (mv ad v) = true) (kk : mE2 l Sh sx I RT k0 n0 (pc + 3) ls st (hs h k j x)) : mE2 l Sh sx I RT k0 n0 pc ls (v :: .inr k :: st) h := by
  intro p e s m args below meth c Q D cI ad A H locs lr C F Wd L
  obtain ⟨C1, T1, N1, hc, hjN, hin, hlk⟩ := hf
  obtain ⟨C2, T2, N2, hc2, ⟨ty0, hty⟩, hnm, hfin, hd2⟩ := hp
  obtain ⟨rfl, rfl, rfl⟩ : C1 = C2 ∧ T1 = T2 ∧ N1 = N2 := by
    have := Option.some.inj (hc.symm.trans hc2)
    cases this
    exact ⟨rfl, rfl, rfl⟩
  have hlen : j < (fks.mapIdx (fun j f => mv ad (mvl h k j f))).length := by rw [List.length_mapIdx]; exact (List.getElem?_eq_some_iff.mp hj).1
  have hset := mws_setF (ad := ad) (cI := cI) (x := x) hS hj hv
  have k2 : ∀ (H1 : Heap) (locs1 : List Loc), va_P D vwCl ((mws Sh ad cI h).set k (ad k, .inr (ci, (fks.mapIdx (fun j f => mv ad (mvl h k j f))).set j (mv ad v)))) H1 → va_D A ((mws Sh ad cI h).set k (ad k, .inr (ci, (fks.mapIdx (fun j f => mv ad (mvl h k j f))).set j (mv ad v)))) → va_S A s.heap H1 locs1 → W p l e I.2.2.2.2 s m args below meth c H1 locs1 k0 n0 Q (F0 m (pc + 3) lr (st.map (mv ad))) := by
    intro H1 locs1 q1 q2 q3
    rw [hset] at q1 q2
    exact kk p e s m args below meth c Q D cI ad A H1 locs1 lr C F ⟨q1, q2, q3⟩ L
  rcases hlk with hlk | ⟨host, hlk⟩
  · exact va_put C.1 C.2.1 C.2.2.2.2.2.2.1 hin ty0 hty hnm C.2.2.2.2.2.1 C.2.2.2.2.2.2.2.2.1 Wd.1 Wd.2.1 Wd.2.2 k (mws_at Sh ad cI h k hS) hc j hjN (C.2.2.2.2.2.2.1 _ hlk) (fun _ h9 => h9) hfin hd2 (hn ad) (hfit ad) hlen hd k2
  · exact va_putN C.1 C.2.1 C.2.2.2.2.2.2.1 hin ty0 hty hnm C.2.2.2.2.2.1 C.2.2.2.2.2.2.2.2.1 Wd.1 Wd.2.1 Wd.2.2 k (mws_at Sh ad cI h k hS) hc j hjN (va_Nw.use rfl (C.2.2.2.2.2.2.2.1 _ hlk rfl)) (fun _ h9 => h9) hfin hd2 (hn ad) (hfit ad) hlen hd k2
theorem e2_putI {idx ci j k : Nat} {fks : List Nat} {x : Int32} (hd : decode I.2.1 pc = .ok (.putfield idx, 3)) (hf : mFL I.1 idx ci j) (hp : mFP ci j .int) (hS : Sh[k]? = some (.inl (ci, fks))) (hj : fks[j]? = some 0) (kk : mE2 l Sh sx I RT k0 n0 (pc + 3) ls st (hs h k j x)) : mE2 l Sh sx I RT k0 n0 pc ls (.inl x :: .inr k :: st) h := e2_put hd hf hp hS hj (by simp only [mvl, hs_at]) (fun _ => rfl) (fun _ => rfl) kk
theorem e2_putZ {idx ci j k : Nat} {fks : List Nat} {x : Int32} (hd : decode I.2.1 pc = .ok (.putfield idx, 3)) (hf : mFL I.1 idx ci j) (hp : mFP ci j .boolean) (hS : Sh[k]? = some (.inl (ci, fks))) (hj : fks[j]? = some 1) (hx : x = 0 ∨ x = 1) (kk : mE2 l Sh sx I RT k0 n0 (pc + 3) ls st (hs h k j x)) : mE2 l Sh sx I RT k0 n0 pc ls (.inl x :: .inr k :: st) h := e2_put hd hf hp hS hj (by simp only [mvl, hs_at]) (fun _ => by rcases hx with rfl | rfl <;> rfl) (fun _ => by rcases hx with rfl | rfl <;> rfl) kk
theorem e2_putD {idx ci j k r : Nat} {C : String} {fks : List Nat} (hd : decode I.2.1 pc = .ok (.putfield idx, 3)) (hf : mFL I.1 idx ci j) (hp : mFP ci j (.object C)) (hS : Sh[k]? = some (.inl (ci, fks))) (hj : fks[j]? = some 2) (hr : r < 2 ^ 31) (kk : mE2 l Sh sx I RT k0 n0 (pc + 3) ls st (hs h k j (nI r))) : mE2 l Sh sx I RT k0 n0 pc ls (.inr r :: .inr k :: st) h := e2_put hd hf hp hS hj (by simp only [mvl, hs_at, nI_clamp hr]) (fun _ => rfl) (fun _ => rfl) kk
theorem e2_iald {k n : Nat} {i x : Int32} (hd : decode I.2.1 pc = .ok (.iaload, 1)) (hS : Sh[k]? = some (.inr n)) (hin : vp_in i n) (hx : h k i.toNatClampNeg = x) (kk : mE2 l Sh sx I RT k0 n0 (pc + 1) ls (.inl x :: st) h) : mE2 l Sh sx I RT k0 n0 pc ls (.inl i :: .inr k :: st) h := by
  intro p e s m args below meth c Q D cI ad A H locs lr C F Wd L
  subst hx
  exact va_iald C.1 C.2.1 C.2.2.2.2.2.2.2.2.1 Wd.1 k 0 (mws_at Sh ad cI h k hS) rfl hin hd (kk p e s m args below meth c Q D cI ad A H locs lr C F Wd L)
theorem e2_iast {k n : Nat} {i x : Int32} (hd : decode I.2.1 pc = .ok (.iastore, 1)) (hS : Sh[k]? = some (.inr n)) (hin : vp_in i n) (kk : mE2 l Sh sx I RT k0 n0 (pc + 1) ls st (hs h k i.toNatClampNeg x)) : mE2 l Sh sx I RT k0 n0 pc ls (.inl x :: .inl i :: .inr k :: st) h := by
  intro p e s m args below meth c Q D cI ad A H locs lr C F Wd L
  refine va_iast C.1 C.2.1 C.2.2.2.2.2.2.2.2.1 Wd.1 Wd.2.1 Wd.2.2 k 0 (mws_at Sh ad cI h k hS) rfl hin hd (fun H1 locs1 q1 q2 q3 => ?_)
  rw [mws_setA hS] at q1 q2
  exact kk p e s m args below meth c Q D cI ad A H1 locs1 lr C F ⟨q1, q2, q3⟩ L
theorem e2_sld {n : Nat} {xs : Nat → Int32} {i : Int32} (hd : decode I.2.1 pc = .ok (.iaload, 1)) (hsx : sx = some (n, xs)) (hin : vp_in i n) (kk : mE2 l Sh sx I RT k0 n0 (pc + 1) ls (.inl (xs i.toNatClampNeg) :: st) h) : mE2 l Sh sx I RT k0 n0 pc ls (.inl i :: .inr 1000 :: st) h := by
  intro p e s m args below meth c Q D cI ad A H locs lr C F Wd L
  obtain ⟨h1, h2, h3⟩ := C.2.2.2.2.2.2.2.2.2.2 n xs hsx
  exact va_sld C.1 C.2.1 h1 h2 h3 Wd.2.2 hin hd (kk p e s m args below meth c Q D cI ad A H locs lr C F Wd L)
theorem e2_slen {n : Nat} {xs : Nat → Int32} (hd : decode I.2.1 pc = .ok (.arraylength, 1)) (hsx : sx = some (n, xs)) (kk : mE2 l Sh sx I RT k0 n0 (pc + 1) ls (.inl (nI n) :: st) h) : mE2 l Sh sx I RT k0 n0 pc ls (.inr 1000 :: st) h := by
  intro p e s m args below meth c Q D cI ad A H locs lr C F Wd L
  obtain ⟨h1, h2, h3⟩ := C.2.2.2.2.2.2.2.2.2.2 n xs hsx
  exact va_slen C.1 C.2.1 h1 h2 h3 Wd.2.2 hd (kk p e s m args below meth c Q D cI ad A H locs lr C F Wd L)
/-! calls -/
theorem e2_invViG {idx n k ci : Nat} {ty : FieldType} {y : MethodName} {J : mI} {As stk : List mV} {fks : List Nat} {PP : Option Int32 → mH → Prop} (hkn : k0 + 0 ≤ I.2.2.2.2.cells ∧ n0 + 0 ≤ I.2.2.2.2.slots) (hd : decode I.2.1 pc = .ok (.invokevirtual idx, 3)) (hl : mLk I.1 idx y) (hy : mYv y J n) (hr : J.2.2.2.1 = some ty) (hst : stk = As.reverse ++ .inr k :: st) (hn : As.length = n) (hnl : (.inr k :: As).length ≤ J.2.2.1) (hS : Sh[k]? = some (.inl (ci, fks))) (hci : (vwCl[ci]?).map (fun q => q.1) = some J.1) (hq : st.length ≤ 8) (hR : J.2.2.2.2.frames + 1 ≤ I.2.2.2.2.frames ∧ 8 + (J.2.2.1 + 11) + J.2.2.2.2.locals ≤ I.2.2.2.2.locals) (hE : mG l Sh J (.inr k :: As) h PP) (kk : ∀ (v : Int32) (h2 : mH), PP (some v) h2 → mE2 l Sh sx I RT k0 n0 (pc + 3) ls (.inl v :: st) h2) : mE2 l Sh sx I RT k0 n0 pc ls stk h := by
  intro p e s m args below meth c Q D cI ad A H locs lr C F Wd L
  have hFc := mA_in C.2.2.2.2.2.2.2.2.2.1 Wd
  have hM := met_i (RT0 := fun r u => PP (some r) u) hy.1 hr hnl (hE _ (fun v u q r e => by rw [← e]; exact q)) D cI ad H.size
  have hstk : (stk.map (mv ad)) = (As.map (mv ad)).reverse ++ .ref (ad k) :: (st.map (mv ad)) := by rw [hst, List.map_append, List.map_reverse]; rfl
  obtain ⟨q, hq1, hq2⟩ : ∃ q, vwCl[ci]? = some q ∧ q.1 = y.cls := by
    cases hv : vwCl[ci]? with
    | none => rw [hv] at hci; cases hci
    | some q => rw [hv] at hci; exact ⟨q, rfl, (Option.some.inj hci).trans hy.1.2.1.symm⟩
  have hrecv := va_recv C.2.2.2.2.2.2.2.2.1 Wd.1 hq1 (mws_at Sh ad cI h k hS)
  rw [hq2] at hrecv
  have hfix : CallFix p m c I.2.1 I.2.2.1 s args wG I.1 := ⟨C.1, C.2.1, C.2.2.1, C.2.2.2.2.2.1, C.2.2.2.2.2.2.1⟩
  have hrun : va_Run p l e I.2.2.2.2 s m args below meth c H locs k0 n0 0 0 (F0 m pc lr (stk.map (mv ad))) (st.map (mv ad)) (va_Qi (fun r u => PP (some r) u) (mB Sh D cI ad) (va_A (mws Sh ad cI h) H.size) (List.map (mv ad) (.inr k :: As)).toArray) (va_A (mws Sh ad cI h) H.size) := by
    rcases hl with hl | ⟨host, hl⟩
    · exact va_runV (As := As.map (mv ad)) hfix hM (cwV n C.2.2.2.2.2.2.1 (wsV_in hy hl) rfl hy.1.2.2.2.2.2.1 hy.1.2.2.2.2.2.2 ⟨rfl, hy.1.2.2.1⟩ hR) ⟨mPc_blind Sh D cI ad h H.size _, hrecv, mPre C Wd (Value.ref (ad k) :: As.map (mv ad))⟩ rfl (by rw [List.length_map]; exact hn) L.1 hstk (lv_room (by rw [cat_sum]; exact hq)) hd hkn
    · exact va_runVN (As := As.map (mv ad)) hfix hM ⟨va_cnB n C.2.2.2.2.2.2.1 (wsS_in hy.1) rfl hy.1.2.2.2.2.2.1 hy.1.2.2.2.2.2.2 (C.2.2.2.2.2.2.2.1 _ hl rfl) (C.2.2.2.2.2.2.1 _ hy.1.2.2.2.2.1) hy.1.2.2.1 hR, C.2.2.2.2.2.2.1 _ hy.2.1, C.2.2.2.2.2.2.1 _ hy.2.2⟩ ⟨mPc_blind Sh D cI ad h H.size _, hrecv, mPre C Wd (Value.ref (ad k) :: As.map (mv ad))⟩ rfl (by rw [List.length_map]; exact hn) L.1 hstk (lv_room (by rw [cat_sum]; exact hq)) hd hkn
  refine va_calli hrun Wd.2.2 (fun q _ hq => hFc q hq) hFc (fun r u t H1 locs1 ht hvm hw hB hz1 hk1 hS1 => ?_)
  exact kk r u hw p e s m args below meth c Q D cI ad A H1 locs1 lr C F ⟨by rw [← ht]; exact hB, mws_D Wd.2.1, hS1⟩ L
theorem e2_invVvG {idx n k ci : Nat} {ty : FieldType} {y : MethodName} {J : mI} {As stk : List mV} {fks : List Nat} {PP : Option Int32 → mH → Prop} (hkn : k0 + 0 ≤ I.2.2.2.2.cells ∧ n0 + 0 ≤ I.2.2.2.2.slots) (hd : decode I.2.1 pc = .ok (.invokevirtual idx, 3)) (hl : mLk I.1 idx y) (hy : mYv y J n) (hr : J.2.2.2.1 = none) (hst : stk = As.reverse ++ .inr k :: st) (hn : As.length = n) (hnl : (.inr k :: As).length ≤ J.2.2.1) (hS : Sh[k]? = some (.inl (ci, fks))) (hci : (vwCl[ci]?).map (fun q => q.1) = some J.1) (hq : st.length ≤ 8) (hR : J.2.2.2.2.frames + 1 ≤ I.2.2.2.2.frames ∧ 8 + (J.2.2.1 + 11) + J.2.2.2.2.locals ≤ I.2.2.2.2.locals) (hE : mG l Sh J (.inr k :: As) h PP) (kk : ∀ h2 : mH, PP none h2 → mE2 l Sh sx I RT k0 n0 (pc + 3) ls (st) h2) : mE2 l Sh sx I RT k0 n0 pc ls stk h := by
  intro p e s m args below meth c Q D cI ad A H locs lr C F Wd L
  have hFc := mA_in C.2.2.2.2.2.2.2.2.2.1 Wd
  have hM := met_v (RT0 := fun u => PP none u) hy.1 hr hnl (hE _ (fun v u q e => by rw [← e]; exact q)) D cI ad H.size
  have hstk : (stk.map (mv ad)) = (As.map (mv ad)).reverse ++ .ref (ad k) :: (st.map (mv ad)) := by rw [hst, List.map_append, List.map_reverse]; rfl
  obtain ⟨q, hq1, hq2⟩ : ∃ q, vwCl[ci]? = some q ∧ q.1 = y.cls := by
    cases hv : vwCl[ci]? with
    | none => rw [hv] at hci; cases hci
    | some q => rw [hv] at hci; exact ⟨q, rfl, (Option.some.inj hci).trans hy.1.2.1.symm⟩
  have hrecv := va_recv C.2.2.2.2.2.2.2.2.1 Wd.1 hq1 (mws_at Sh ad cI h k hS)
  rw [hq2] at hrecv
  have hfix : CallFix p m c I.2.1 I.2.2.1 s args wG I.1 := ⟨C.1, C.2.1, C.2.2.1, C.2.2.2.2.2.1, C.2.2.2.2.2.2.1⟩
  have hrun : va_Run p l e I.2.2.2.2 s m args below meth c H locs k0 n0 0 0 (F0 m pc lr (stk.map (mv ad))) (st.map (mv ad)) (va_Qv (fun u => PP none u) (mB Sh D cI ad) (va_A (mws Sh ad cI h) H.size) (List.map (mv ad) (.inr k :: As)).toArray) (va_A (mws Sh ad cI h) H.size) := by
    rcases hl with hl | ⟨host, hl⟩
    · exact va_runV (As := As.map (mv ad)) hfix hM (cwV n C.2.2.2.2.2.2.1 (wsV_in hy hl) rfl hy.1.2.2.2.2.2.1 hy.1.2.2.2.2.2.2 ⟨rfl, hy.1.2.2.1⟩ hR) ⟨mPc_blind Sh D cI ad h H.size _, hrecv, mPre C Wd (Value.ref (ad k) :: As.map (mv ad))⟩ rfl (by rw [List.length_map]; exact hn) L.1 hstk (lv_room (by rw [cat_sum]; exact hq)) hd hkn
    · exact va_runVN (As := As.map (mv ad)) hfix hM ⟨va_cnB n C.2.2.2.2.2.2.1 (wsS_in hy.1) rfl hy.1.2.2.2.2.2.1 hy.1.2.2.2.2.2.2 (C.2.2.2.2.2.2.2.1 _ hl rfl) (C.2.2.2.2.2.2.1 _ hy.1.2.2.2.2.1) hy.1.2.2.1 hR, C.2.2.2.2.2.2.1 _ hy.2.1, C.2.2.2.2.2.2.1 _ hy.2.2⟩ ⟨mPc_blind Sh D cI ad h H.size _, hrecv, mPre C Wd (Value.ref (ad k) :: As.map (mv ad))⟩ rfl (by rw [List.length_map]; exact hn) L.1 hstk (lv_room (by rw [cat_sum]; exact hq)) hd hkn
  refine va_callv hrun Wd.2.2 (fun q _ hq => hFc q hq) hFc (fun u t H1 locs1 ht hvm hw hB hz1 hk1 hS1 => ?_)
  exact kk u hw p e s m args below meth c Q D cI ad A H1 locs1 lr C F ⟨by rw [← ht]; exact hB, mws_D Wd.2.1, hS1⟩ L
theorem e2_invVi {idx n k ci : Nat} {ty : FieldType} {y : MethodName} {J : mI} {As stk : List mV} {fks : List Nat} {v : Int32} {h2 : mH} (hkn : k0 + 0 ≤ I.2.2.2.2.cells ∧ n0 + 0 ≤ I.2.2.2.2.slots) (hd : decode I.2.1 pc = .ok (.invokevirtual idx, 3)) (hl : mLk I.1 idx y) (hy : mYv y J n) (hr : J.2.2.2.1 = some ty) (hst : stk = As.reverse ++ .inr k :: st) (hn : As.length = n) (hnl : (.inr k :: As).length ≤ J.2.2.1) (hS : Sh[k]? = some (.inl (ci, fks))) (hci : (vwCl[ci]?).map (fun q => q.1) = some J.1) (hq : st.length ≤ 8) (hR : J.2.2.2.2.frames + 1 ≤ I.2.2.2.2.frames ∧ 8 + (J.2.2.1 + 11) + J.2.2.2.2.locals ≤ I.2.2.2.2.locals) (hE : mD l Sh J (.inr k :: As) h (some v) h2) (kk : mE2 l Sh sx I RT k0 n0 (pc + 3) ls (.inl v :: st) h2) : mE2 l Sh sx I RT k0 n0 pc ls stk h := e2_invViG (hkn := hkn) hd hl hy hr hst hn hnl hS hci hq hR hE.g (fun w u q => by obtain ⟨q1, rfl⟩ := q; cases q1; exact kk)
theorem e2_invVv {idx n k ci : Nat} {ty : FieldType} {y : MethodName} {J : mI} {As stk : List mV} {fks : List Nat} {v : Int32} {h2 : mH} (hkn : k0 + 0 ≤ I.2.2.2.2.cells ∧ n0 + 0 ≤ I.2.2.2.2.slots) (hd : decode I.2.1 pc = .ok (.invokevirtual idx, 3)) (hl : mLk I.1 idx y) (hy : mYv y J n) (hr : J.2.2.2.1 = none) (hst : stk = As.reverse ++ .inr k :: st) (hn : As.length = n) (hnl : (.inr k :: As).length ≤ J.2.2.1) (hS : Sh[k]? = some (.inl (ci, fks))) (hci : (vwCl[ci]?).map (fun q => q.1) = some J.1) (hq : st.length ≤ 8) (hR : J.2.2.2.2.frames + 1 ≤ I.2.2.2.2.frames ∧ 8 + (J.2.2.1 + 11) + J.2.2.2.2.locals ≤ I.2.2.2.2.locals) (hE : mD l Sh J (.inr k :: As) h none h2) (kk : mE2 l Sh sx I RT k0 n0 (pc + 3) ls (st) h2) : mE2 l Sh sx I RT k0 n0 pc ls stk h := e2_invVvG (hkn := hkn) (ty := ty) hd hl hy hr hst hn hnl hS hci hq hR hE.g (fun u q => by obtain ⟨-, rfl⟩ := q; exact kk)
theorem b2_icmp_lt {x y : Int32} {X Y : Int} {off : Int} {tgt : Nat} (hx : x.toInt = X) (hy : y.toInt = Y) (hd : decode I.2.1 pc = .ok (.if_icmp .lt off, 3)) (ht : (pc : Int) + off = (tgt : Int)) (kt : X < Y → mE2 l Sh sx I RT k0 n0 tgt ls st h) (kf : Y ≤ X → mE2 l Sh sx I RT k0 n0 (pc + 3) ls st h) : mE2 l Sh sx I RT k0 n0 pc ls (.inl y :: .inl x :: st) h := by
  subst hx hy
  exact e2_icmp_lt hd ht (fun q => kt (Int32.lt_iff_toInt_lt.mp q)) (fun q => kf (Int.not_lt.mp (fun z => q (Int32.lt_iff_toInt_lt.mpr z))))
theorem b2_if_lt {x : Int32} {X : Int} {off : Int} {tgt : Nat} (hx : x.toInt = X) (hd : decode I.2.1 pc = .ok (.ifCond .lt off, 3)) (ht : (pc : Int) + off = (tgt : Int)) (kt : X < 0 → mE2 l Sh sx I RT k0 n0 tgt ls st h) (kf : 0 ≤ X → mE2 l Sh sx I RT k0 n0 (pc + 3) ls st h) : mE2 l Sh sx I RT k0 n0 pc ls (.inl x :: st) h := by
  subst hx
  exact e2_if_lt hd ht (fun q => kt (Int32.lt_iff_toInt_lt.mp q)) (fun q => kf (Int.not_lt.mp (fun z => q (Int32.lt_iff_toInt_lt.mpr z))))
theorem b2_icmp_ge {x y : Int32} {X Y : Int} {off : Int} {tgt : Nat} (hx : x.toInt = X) (hy : y.toInt = Y) (hd : decode I.2.1 pc = .ok (.if_icmp .ge off, 3)) (ht : (pc : Int) + off = (tgt : Int)) (kt : Y ≤ X → mE2 l Sh sx I RT k0 n0 tgt ls st h) (kf : X < Y → mE2 l Sh sx I RT k0 n0 (pc + 3) ls st h) : mE2 l Sh sx I RT k0 n0 pc ls (.inl y :: .inl x :: st) h := by
  subst hx hy
  exact e2_icmp_ge hd ht (fun q => kt (Int32.le_iff_toInt_le.mp q)) (fun q => kf (Int.not_le.mp (fun z => q (Int32.le_iff_toInt_le.mpr z))))
theorem b2_if_ge {x : Int32} {X : Int} {off : Int} {tgt : Nat} (hx : x.toInt = X) (hd : decode I.2.1 pc = .ok (.ifCond .ge off, 3)) (ht : (pc : Int) + off = (tgt : Int)) (kt : 0 ≤ X → mE2 l Sh sx I RT k0 n0 tgt ls st h) (kf : X < 0 → mE2 l Sh sx I RT k0 n0 (pc + 3) ls st h) : mE2 l Sh sx I RT k0 n0 pc ls (.inl x :: st) h := by
  subst hx
  exact e2_if_ge hd ht (fun q => kt (Int32.le_iff_toInt_le.mp q)) (fun q => kf (Int.not_le.mp (fun z => q (Int32.le_iff_toInt_le.mpr z))))
theorem b2_icmp_gt {x y : Int32} {X Y : Int} {off : Int} {tgt : Nat} (hx : x.toInt = X) (hy : y.toInt = Y) (hd : decode I.2.1 pc = .ok (.if_icmp .gt off, 3)) (ht : (pc : Int) + off = (tgt : Int)) (kt : Y < X → mE2 l Sh sx I RT k0 n0 tgt ls st h) (kf : X ≤ Y → mE2 l Sh sx I RT k0 n0 (pc + 3) ls st h) : mE2 l Sh sx I RT k0 n0 pc ls (.inl y :: .inl x :: st) h := by
  subst hx hy
  exact e2_icmp_gt hd ht (fun q => kt (Int32.lt_iff_toInt_lt.mp q)) (fun q => kf (Int.not_lt.mp (fun z => q (Int32.lt_iff_toInt_lt.mpr z))))
theorem b2_if_gt {x : Int32} {X : Int} {off : Int} {tgt : Nat} (hx : x.toInt = X) (hd : decode I.2.1 pc = .ok (.ifCond .gt off, 3)) (ht : (pc : Int) + off = (tgt : Int)) (kt : 0 < X → mE2 l Sh sx I RT k0 n0 tgt ls st h) (kf : X ≤ 0 → mE2 l Sh sx I RT k0 n0 (pc + 3) ls st h) : mE2 l Sh sx I RT k0 n0 pc ls (.inl x :: st) h := by
  subst hx
  exact e2_if_gt hd ht (fun q => kt (Int32.lt_iff_toInt_lt.mp q)) (fun q => kf (Int.not_lt.mp (fun z => q (Int32.lt_iff_toInt_lt.mpr z))))
theorem b2_icmp_le {x y : Int32} {X Y : Int} {off : Int} {tgt : Nat} (hx : x.toInt = X) (hy : y.toInt = Y) (hd : decode I.2.1 pc = .ok (.if_icmp .le off, 3)) (ht : (pc : Int) + off = (tgt : Int)) (kt : X ≤ Y → mE2 l Sh sx I RT k0 n0 tgt ls st h) (kf : Y < X → mE2 l Sh sx I RT k0 n0 (pc + 3) ls st h) : mE2 l Sh sx I RT k0 n0 pc ls (.inl y :: .inl x :: st) h := by
  subst hx hy
  exact e2_icmp_le hd ht (fun q => kt (Int32.le_iff_toInt_le.mp q)) (fun q => kf (Int.not_le.mp (fun z => q (Int32.le_iff_toInt_le.mpr z))))
theorem b2_if_le {x : Int32} {X : Int} {off : Int} {tgt : Nat} (hx : x.toInt = X) (hd : decode I.2.1 pc = .ok (.ifCond .le off, 3)) (ht : (pc : Int) + off = (tgt : Int)) (kt : X ≤ 0 → mE2 l Sh sx I RT k0 n0 tgt ls st h) (kf : 0 < X → mE2 l Sh sx I RT k0 n0 (pc + 3) ls st h) : mE2 l Sh sx I RT k0 n0 pc ls (.inl x :: st) h := by
  subst hx
  exact e2_if_le hd ht (fun q => kt (Int32.le_iff_toInt_le.mp q)) (fun q => kf (Int.not_le.mp (fun z => q (Int32.le_iff_toInt_le.mpr z))))
theorem b2_icmp_eq {x y : Int32} {X Y : Int} {off : Int} {tgt : Nat} (hx : x.toInt = X) (hy : y.toInt = Y) (hd : decode I.2.1 pc = .ok (.if_icmp .eq off, 3)) (ht : (pc : Int) + off = (tgt : Int)) (kt : x = y → X = Y → mE2 l Sh sx I RT k0 n0 tgt ls st h) (kf : ¬ x = y → ¬ X = Y → mE2 l Sh sx I RT k0 n0 (pc + 3) ls st h) : mE2 l Sh sx I RT k0 n0 pc ls (.inl y :: .inl x :: st) h := by
  subst hx hy
  exact e2_icmp_eq hd ht (fun q => kt q (by subst q; rfl)) (fun q => kf q (fun z => q (Int32.toInt_inj.mp z)))
theorem b2_if_eq {x : Int32} {X : Int} {off : Int} {tgt : Nat} (hx : x.toInt = X) (hd : decode I.2.1 pc = .ok (.ifCond .eq off, 3)) (ht : (pc : Int) + off = (tgt : Int)) (kt : x = 0 → X = 0 → mE2 l Sh sx I RT k0 n0 tgt ls st h) (kf : ¬ x = 0 → ¬ X = 0 → mE2 l Sh sx I RT k0 n0 (pc + 3) ls st h) : mE2 l Sh sx I RT k0 n0 pc ls (.inl x :: st) h := by
  subst hx
  exact e2_if_eq hd ht (fun q => kt q (by subst q; rfl)) (fun q => kf q (fun z => q (Int32.toInt_inj.mp z)))
theorem b2_icmp_ne {x y : Int32} {X Y : Int} {off : Int} {tgt : Nat} (hx : x.toInt = X) (hy : y.toInt = Y) (hd : decode I.2.1 pc = .ok (.if_icmp .ne off, 3)) (ht : (pc : Int) + off = (tgt : Int)) (kt : ¬ x = y → ¬ X = Y → mE2 l Sh sx I RT k0 n0 tgt ls st h) (kf : x = y → X = Y → mE2 l Sh sx I RT k0 n0 (pc + 3) ls st h) : mE2 l Sh sx I RT k0 n0 pc ls (.inl y :: .inl x :: st) h := by
  subst hx hy
  exact e2_icmp_ne hd ht (fun q => kt q (fun z => q (Int32.toInt_inj.mp z))) (fun q => kf q (by subst q; rfl))
theorem b2_if_ne {x : Int32} {X : Int} {off : Int} {tgt : Nat} (hx : x.toInt = X) (hd : decode I.2.1 pc = .ok (.ifCond .ne off, 3)) (ht : (pc : Int) + off = (tgt : Int)) (kt : ¬ x = 0 → ¬ X = 0 → mE2 l Sh sx I RT k0 n0 tgt ls st h) (kf : x = 0 → X = 0 → mE2 l Sh sx I RT k0 n0 (pc + 3) ls st h) : mE2 l Sh sx I RT k0 n0 pc ls (.inl x :: st) h := by
  subst hx
  exact e2_if_ne hd ht (fun q => kt q (fun z => q (Int32.toInt_inj.mp z))) (fun q => kf q (by subst q; rfl))
theorem z2_iadd {x y z : Int32} (hz : x + y = z) (hd : decode I.2.1 pc = .ok (.iadd, 1)) (k : mE2 l Sh sx I RT k0 n0 (pc + 1) ls (.inl z :: st) h) : mE2 l Sh sx I RT k0 n0 pc ls (.inl y :: .inl x :: st) h := e2_iadd hd (by rw [hz]; exact k)
theorem z2_isub {x y z : Int32} (hz : x - y = z) (hd : decode I.2.1 pc = .ok (.isub, 1)) (k : mE2 l Sh sx I RT k0 n0 (pc + 1) ls (.inl z :: st) h) : mE2 l Sh sx I RT k0 n0 pc ls (.inl y :: .inl x :: st) h := e2_isub hd (by rw [hz]; exact k)
theorem z2_imul {x y z : Int32} (hz : x * y = z) (hd : decode I.2.1 pc = .ok (.imul, 1)) (k : mE2 l Sh sx I RT k0 n0 (pc + 1) ls (.inl z :: st) h) : mE2 l Sh sx I RT k0 n0 pc ls (.inl y :: .inl x :: st) h := e2_imul hd (by rw [hz]; exact k)
theorem z2_iand {x y z : Int32} (hz : x &&& y = z) (hd : decode I.2.1 pc = .ok (.iand, 1)) (k : mE2 l Sh sx I RT k0 n0 (pc + 1) ls (.inl z :: st) h) : mE2 l Sh sx I RT k0 n0 pc ls (.inl y :: .inl x :: st) h := e2_iand hd (by rw [hz]; exact k)
theorem z2_ior {x y z : Int32} (hz : x ||| y = z) (hd : decode I.2.1 pc = .ok (.ior, 1)) (k : mE2 l Sh sx I RT k0 n0 (pc + 1) ls (.inl z :: st) h) : mE2 l Sh sx I RT k0 n0 pc ls (.inl y :: .inl x :: st) h := e2_ior hd (by rw [hz]; exact k)
theorem z2_ixor {x y z : Int32} (hz : x ^^^ y = z) (hd : decode I.2.1 pc = .ok (.ixor, 1)) (k : mE2 l Sh sx I RT k0 n0 (pc + 1) ls (.inl z :: st) h) : mE2 l Sh sx I RT k0 n0 pc ls (.inl y :: .inl x :: st) h := e2_ixor hd (by rw [hz]; exact k)
theorem z2_ishl {x y z : Int32} (hz : x <<< (y &&& 31) = z) (hd : decode I.2.1 pc = .ok (.ishl, 1)) (k : mE2 l Sh sx I RT k0 n0 (pc + 1) ls (.inl z :: st) h) : mE2 l Sh sx I RT k0 n0 pc ls (.inl y :: .inl x :: st) h := e2_ishl hd (by rw [hz]; exact k)
theorem z2_ishr {x y z : Int32} (hz : x >>> (y &&& 31) = z) (hd : decode I.2.1 pc = .ok (.ishr, 1)) (k : mE2 l Sh sx I RT k0 n0 (pc + 1) ls (.inl z :: st) h) : mE2 l Sh sx I RT k0 n0 pc ls (.inl y :: .inl x :: st) h := e2_ishr hd (by rw [hz]; exact k)
theorem z2_idiv {x y z : Int32} (hz : x / y = z) (hd : decode I.2.1 pc = .ok (.idiv, 1)) (hne : ¬ y = 0) (k : mE2 l Sh sx I RT k0 n0 (pc + 1) ls (.inl z :: st) h) : mE2 l Sh sx I RT k0 n0 pc ls (.inl y :: .inl x :: st) h := e2_idiv hd hne (by rw [hz]; exact k)
theorem z2_irem {x y z : Int32} (hz : x - x / y * y = z) (hd : decode I.2.1 pc = .ok (.irem, 1)) (hne : ¬ y = 0) (k : mE2 l Sh sx I RT k0 n0 (pc + 1) ls (.inl z :: st) h) : mE2 l Sh sx I RT k0 n0 pc ls (.inl y :: .inl x :: st) h := e2_irem hd hne (by rw [hz]; exact k)
end RULES2
