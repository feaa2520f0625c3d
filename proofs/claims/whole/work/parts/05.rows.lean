/-! THE WALK over the numbered world -/
def nLeast (j : Nat) : Int32 := ([0, 1, 1, 0, 0, 1, 1] : List Int32).getD j 0
def nMost (j : Nat) : Int32 := ([500, 100, 1000, 1, 50, 400, 400] : List Int32).getD j 0
/-- what holds of the tables and of the outer cells at a method's entry -/
def Ks (V : Vx) (s : State) : Prop := va_K V.1 vwCl (tysV V) s ∧ (∀ w ∈ wN, va_Nw w s) ∧ (va_AO RX6 s ∧ va_AO RX9 s ∧ va_AO RX10 s ∧ va_AO RX8 s) ∧ V.2.2.1 ≤ s.heap.size ∧
  (va_Z RX11 "NUMBER_LEAST" "[I" (.ref (V.2.2.2 1)) (AV V) s s.heap ∧ va_T .int (V.2.2.2 1) 7 (fun j => .int (nLeast j)) (AV V) s s.heap) ∧
  (va_Z RX11 "NUMBER_MOST" "[I" (.ref (V.2.2.2 2)) (AV V) s s.heap ∧ va_T .int (V.2.2.2 2) 7 (fun j => .int (nMost j)) (AV V) s s.heap)
theorem Ks_to {V : Vx} {s U : State} {H : Heap} {locs : List Loc} (h : Ks V s) (hU : U.heap = H) (hS : va_S (AV V) s.heap H locs) (hW : s.WarmedH U.vm) : Ks V U := by
  obtain ⟨h1, h2, ⟨a1, a2, a3, a4⟩, h4, ⟨z1, t1⟩, z2, t2⟩ := h
  subst hU
  exact ⟨va_K.moved hW.alike h1, fun w hw => wN_warm hw hW (h2 w hw), ⟨a1.moved hW.alike, a2.moved hW.alike, a3.moved hW.alike, a4.moved hW.alike⟩, Nat.le_trans h4 hS.1,
    ⟨(z1.moved hW.alike).kept hS.2.1, (t1.moved hW.alike).kept hS.2.1⟩, (z2.moved hW.alike).kept hS.2.1, (t2.moved hW.alike).kept hS.2.1⟩
theorem Ks_calling {V : Vx} {U : State} (g : JFrame) (mk : MethodId) (a : Array Value) (h : Ks V U) : Ks V (U.calling g mk a) := by
  obtain ⟨h1, h2, ⟨a1, a2, a3, a4⟩, h4, ⟨z1, t1⟩, z2, t2⟩ := h
  have hv : U.vm.Alike (U.calling g mk a).vm := Vm.Alike.refl U.vm
  exact ⟨va_K.moved hv h1, fun w hw => wN_same (s := U) (U := U.calling g mk a) hw rfl (h2 w hw), ⟨a1.moved hv, a2.moved hv, a3.moved hv, a4.moved hv⟩, h4,
    ⟨z1.moved hv, t1.moved hv⟩, z2.moved hv, t2.moved hv⟩
abbrev Ctx : Type := Program × Launch × Env × Room × State × MethodId × Array Value × List Frame × Method × Code
abbrev cP (X : Ctx) : Program := X.1
abbrev cL (X : Ctx) : Launch := X.2.1
abbrev cE (X : Ctx) : Env := X.2.2.1
abbrev cR (X : Ctx) : Room := X.2.2.2.1
abbrev cS (X : Ctx) : State := X.2.2.2.2.1
abbrev cM (X : Ctx) : MethodId := X.2.2.2.2.2.1
abbrev cA (X : Ctx) : Array Value := X.2.2.2.2.2.2.1
abbrev cB (X : Ctx) : List Frame := X.2.2.2.2.2.2.2.1
abbrev cT (X : Ctx) : Method := X.2.2.2.2.2.2.2.2.1
abbrev cC (X : Ctx) : Code := X.2.2.2.2.2.2.2.2.2
abbrev WX (X : Ctx) (H : Heap) (locs : List Loc) (cells slots : Nat) (Q : State → Prop) (g : JFrame) : Prop := W (cP X) (cL X) (cE X) (cR X) (cS X) (cM X) (cA X) (cB X) (cT X) (cC X) H locs cells slots Q g
/-- a method: its name, its code, its locals, what it returns -/
abbrev MB : Type := MethodName × ByteArray × Nat × Option FieldType
def Cx (X : Ctx) (V : Vx) (mb : MB) (d : Nat) : Prop :=
  (cP X).tables.exec = Jvm.exec ∧ (cC X).code = mb.2.1 ∧ (cC X).maxLocals = mb.2.2.1 ∧ (cS X).vm.findClass mb.1.cls = some (cM X).cls ∧ (∀ w ∈ wA, w.before (cA X) (cS X) = true) ∧ Ks V (cS X) ∧
  (cT X).sig.returnType = mb.2.2.2 ∧ (cT X).locks = false ∧ (cT X).name = mb.1.name ∧ d ≤ (cR X).frames ∧ 34 * d ≤ (cR X).locals
/-- the machine at pc with these locals and this stack, the world being T, M, comes to Q -/
def AW (X : Ctx) (V : Vx) (nL : Nat) (T : Tt) (M : Mm) (cl sl : Nat) (Q : State → Prop) (pc : Nat) (als : List (Nat × Value)) (st : List Value) : Prop :=
  ∀ (H : Heap) (locs : List Loc) (ls : Array Slot), Hp V T M H → va_S (AV V) (cS X).heap H locs → lv_has ls nL (tvl V als) → WX X H locs cl sl Q (F0 (cM X) pc ls (tvs V st))
theorem tvl_at {V : Vx} {als : List (Nat × Value)} {n i : Nat} {v : Value} (h : als[n]? = some (i, v)) : (tvl V als)[n]? = some (i, tv V v) := by simp [tvl, h]
theorem ls_at {V : Vx} {als : List (Nat × Value)} {ls : Array Slot} {nL n i : Nat} {v : Value} (hl : lv_has ls nL (tvl V als)) (h : als[n]? = some (i, v)) : ls[i]? = some (.val (tv V v)) := lv_at hl n (tvl_at h)
theorem tvl_filter (V : Vx) (f : Nat → Nat → Bool) (als : List (Nat × Value)) : (tvl V als).filter (fun q => f q.1 q.2.category) = tvl V (als.filter (fun q => f q.1 q.2.category)) := by
  unfold tvl
  rw [List.filter_map]
  congr 1
  apply List.filter_congr
  intro q _
  simp [Function.comp, tv_cat]
theorem tvl_st1 {V : Vx} {als als' : List (Nat × Value)} {i : Nat} {v : Value} (h : (i, v) :: als.filter (fun q => !(q.1 == i) && !(q.1 + 1 == i && q.2.category == 2)) = als') : (i, tv V v) :: (tvl V als).filter (fun q => !(q.1 == i) && !(q.1 + 1 == i && q.2.category == 2)) = tvl V als' := by
  rw [← h, tvl_filter V (fun a b => !(a == i) && !(a + 1 == i && b == 2))]
  rfl
theorem tvl_st2 {V : Vx} {als als' : List (Nat × Value)} {i : Nat} {v : Value} (h : (i, v) :: als.filter (fun q => !(q.1 == i) && (!(q.1 == i + 1) && !(q.1 + 1 == i && q.2.category == 2))) = als') : (i, tv V v) :: (tvl V als).filter (fun q => !(q.1 == i) && (!(q.1 == i + 1) && !(q.1 + 1 == i && q.2.category == 2))) = tvl V als' := by
  rw [← h, tvl_filter V (fun a b => !(a == i) && (!(a == i + 1) && !(a + 1 == i && b == 2)))]
  rfl
section ROWS
variable {X : Ctx} {V : Vx} {mb : MB} {d : Nat} {T : Tt} {M : Mm} {cl sl : Nat} {Q : State → Prop} {pc : Nat} {als als' : List (Nat × Value)} {st : List Value}
theorem ar_iconst (C : Cx X V mb d) {n : Int} {v : Int32} (hd : decode mb.2.1 pc = .ok (.iconst n, 1)) (hv : Int32.ofInt n = v) (k : AW X V mb.2.2.1 T M cl sl Q (pc + 1) als (.int v :: st)) : AW X V mb.2.2.1 T M cl sl Q pc als st := fun H locs ls hH hS hl => lv_iconst C.1 C.2.1 hd hv (k H locs ls hH hS hl)
theorem ar_bipush (C : Cx X V mb d) {n : Int} {v : Int32} (hd : decode mb.2.1 pc = .ok (.bipush n, 2)) (hv : (Int8.ofInt n).toInt32 = v) (k : AW X V mb.2.2.1 T M cl sl Q (pc + 2) als (.int v :: st)) : AW X V mb.2.2.1 T M cl sl Q pc als st := fun H locs ls hH hS hl => lv_bipush C.1 C.2.1 hd hv (k H locs ls hH hS hl)
theorem ar_sipush (C : Cx X V mb d) {n : Int} {v : Int32} (hd : decode mb.2.1 pc = .ok (.sipush n, 3)) (hv : (Int16.ofInt n).toInt32 = v) (k : AW X V mb.2.2.1 T M cl sl Q (pc + 3) als (.int v :: st)) : AW X V mb.2.2.1 T M cl sl Q pc als st := fun H locs ls hH hS hl => lv_sipush C.1 C.2.1 hd hv (k H locs ls hH hS hl)
theorem ar_lconst (C : Cx X V mb d) {n : Fin 2} {v : Int64} (hd : decode mb.2.1 pc = .ok (.lconst n, 1)) (hv : Int64.ofNat (n : Nat) = v) (k : AW X V mb.2.2.1 T M cl sl Q (pc + 1) als (.long v :: st)) : AW X V mb.2.2.1 T M cl sl Q pc als st := fun H locs ls hH hS hl => lv_lconst C.1 C.2.1 hd hv (k H locs ls hH hS hl)
theorem ar_ldc (C : Cx X V mb d) {index : Nat} {v : Int32} (w : Cond.constant mb.1.cls index v ∈ wA) (hd : decode mb.2.1 pc = .ok (.ldc index, 2)) (k : AW X V mb.2.2.1 T M cl sl Q (pc + 2) als (.int v :: st)) : AW X V mb.2.2.1 T M cl sl Q pc als st := fun H locs ls hH hS hl => lv_ldc C.1 C.2.1 C.2.2.2.1 (C.2.2.2.2.1 _ w) hd (k H locs ls hH hS hl)
theorem ar_ldc2 (C : Cx X V mb d) {index : Nat} {v : Int64} (w : Cond.constantLong mb.1.cls index v ∈ wA) (hd : decode mb.2.1 pc = .ok (.ldc2_w index, 3)) (k : AW X V mb.2.2.1 T M cl sl Q (pc + 3) als (.long v :: st)) : AW X V mb.2.2.1 T M cl sl Q pc als st := fun H locs ls hH hS hl => lv_ldc2 C.1 C.2.1 C.2.2.2.1 (C.2.2.2.2.1 _ w) hd (k H locs ls hH hS hl)
theorem ar_iload_n (C : Cx X V mb d) {q : Fin 4} {i n : Nat} {x : Int32} (hd : decode mb.2.1 pc = .ok (.iload_n q, 1)) (hi : (q : Nat) = i) (h : als[n]? = some (i, .int x)) (k : AW X V mb.2.2.1 T M cl sl Q (pc + 1) als (.int x :: st)) : AW X V mb.2.2.1 T M cl sl Q pc als st := fun H locs ls hH hS hl => lv_iload_n C.1 C.2.1 hd hi (ls_at hl h) (k H locs ls hH hS hl)
theorem ar_iload (C : Cx X V mb d) {i n : Nat} {x : Int32} (hd : decode mb.2.1 pc = .ok (.iload i, 2)) (h : als[n]? = some (i, .int x)) (k : AW X V mb.2.2.1 T M cl sl Q (pc + 2) als (.int x :: st)) : AW X V mb.2.2.1 T M cl sl Q pc als st := fun H locs ls hH hS hl => lv_iload C.1 C.2.1 hd (ls_at hl h) (k H locs ls hH hS hl)
theorem ar_lload_n (C : Cx X V mb d) {q : Fin 4} {i n : Nat} {x : Int64} (hd : decode mb.2.1 pc = .ok (.lload_n q, 1)) (hi : (q : Nat) = i) (h : als[n]? = some (i, .long x)) (k : AW X V mb.2.2.1 T M cl sl Q (pc + 1) als (.long x :: st)) : AW X V mb.2.2.1 T M cl sl Q pc als st := fun H locs ls hH hS hl => lv_lload_n C.1 C.2.1 hd hi (ls_at hl h) (k H locs ls hH hS hl)
theorem ar_lload (C : Cx X V mb d) {i n : Nat} {x : Int64} (hd : decode mb.2.1 pc = .ok (.lload i, 2)) (h : als[n]? = some (i, .long x)) (k : AW X V mb.2.2.1 T M cl sl Q (pc + 2) als (.long x :: st)) : AW X V mb.2.2.1 T M cl sl Q pc als st := fun H locs ls hH hS hl => lv_lload C.1 C.2.1 hd (ls_at hl h) (k H locs ls hH hS hl)
theorem ar_aload_n (C : Cx X V mb d) {q : Fin 4} {i n x : Nat} (hd : decode mb.2.1 pc = .ok (.aload_n q, 1)) (hi : (q : Nat) = i) (h : als[n]? = some (i, .ref x)) (k : AW X V mb.2.2.1 T M cl sl Q (pc + 1) als (.ref x :: st)) : AW X V mb.2.2.1 T M cl sl Q pc als st := fun H locs ls hH hS hl => lv_aload_n C.1 C.2.1 hd hi (ls_at hl h) (k H locs ls hH hS hl)
theorem ar_aload (C : Cx X V mb d) {i n x : Nat} (hd : decode mb.2.1 pc = .ok (.aload i, 2)) (h : als[n]? = some (i, .ref x)) (k : AW X V mb.2.2.1 T M cl sl Q (pc + 2) als (.ref x :: st)) : AW X V mb.2.2.1 T M cl sl Q pc als st := fun H locs ls hH hS hl => lv_aload C.1 C.2.1 hd (ls_at hl h) (k H locs ls hH hS hl)
theorem ar_aload_nX (C : Cx X V mb d) {q : Fin 4} {i n x : Nat} (hd : decode mb.2.1 pc = .ok (.aload_n q, 1)) (hi : (q : Nat) = i) (h : als[n]? = some (i, .retAddr x)) (k : AW X V mb.2.2.1 T M cl sl Q (pc + 1) als (.retAddr x :: st)) : AW X V mb.2.2.1 T M cl sl Q pc als st := fun H locs ls hH hS hl => lv_aload_n C.1 C.2.1 hd hi (ls_at hl h) (k H locs ls hH hS hl)
theorem ar_aloadX (C : Cx X V mb d) {i n x : Nat} (hd : decode mb.2.1 pc = .ok (.aload i, 2)) (h : als[n]? = some (i, .retAddr x)) (k : AW X V mb.2.2.1 T M cl sl Q (pc + 2) als (.retAddr x :: st)) : AW X V mb.2.2.1 T M cl sl Q pc als st := fun H locs ls hH hS hl => lv_aload C.1 C.2.1 hd (ls_at hl h) (k H locs ls hH hS hl)
theorem ar_istore_n (C : Cx X V mb d) {q : Fin 4} {i : Nat} {x : Int32} (hd : decode mb.2.1 pc = .ok (.istore_n q, 1)) (hi : (q : Nat) = i) (hn : i < mb.2.2.1) (h : (i, Value.int x) :: als.filter (fun q => !(q.1 == i) && !(q.1 + 1 == i && q.2.category == 2)) = als') (k : AW X V mb.2.2.1 T M cl sl Q (pc + 1) als' st) : AW X V mb.2.2.1 T M cl sl Q pc als (.int x :: st) := fun H locs ls hH hS hl => lv_istore_n C.1 C.2.1 hd hi hl hn (tvl_st1 h) (fun ls' hl' => k H locs ls' hH hS hl')
theorem ar_istore (C : Cx X V mb d) {i : Nat} {x : Int32} (hd : decode mb.2.1 pc = .ok (.istore i, 2)) (hn : i < mb.2.2.1) (h : (i, Value.int x) :: als.filter (fun q => !(q.1 == i) && !(q.1 + 1 == i && q.2.category == 2)) = als') (k : AW X V mb.2.2.1 T M cl sl Q (pc + 2) als' st) : AW X V mb.2.2.1 T M cl sl Q pc als (.int x :: st) := fun H locs ls hH hS hl => lv_istore C.1 C.2.1 hd hl hn (tvl_st1 h) (fun ls' hl' => k H locs ls' hH hS hl')
theorem ar_lstore_n (C : Cx X V mb d) {q : Fin 4} {i : Nat} {x : Int64} (hd : decode mb.2.1 pc = .ok (.lstore_n q, 1)) (hi : (q : Nat) = i) (hn : i + 1 < mb.2.2.1) (h : (i, Value.long x) :: als.filter (fun q => !(q.1 == i) && (!(q.1 == i + 1) && !(q.1 + 1 == i && q.2.category == 2))) = als') (k : AW X V mb.2.2.1 T M cl sl Q (pc + 1) als' st) : AW X V mb.2.2.1 T M cl sl Q pc als (.long x :: st) := fun H locs ls hH hS hl => lv_lstore_n C.1 C.2.1 hd hi hl hn (tvl_st2 h) (fun ls' hl' => k H locs ls' hH hS hl')
theorem ar_lstore (C : Cx X V mb d) {i : Nat} {x : Int64} (hd : decode mb.2.1 pc = .ok (.lstore i, 2)) (hn : i + 1 < mb.2.2.1) (h : (i, Value.long x) :: als.filter (fun q => !(q.1 == i) && (!(q.1 == i + 1) && !(q.1 + 1 == i && q.2.category == 2))) = als') (k : AW X V mb.2.2.1 T M cl sl Q (pc + 2) als' st) : AW X V mb.2.2.1 T M cl sl Q pc als (.long x :: st) := fun H locs ls hH hS hl => lv_lstore C.1 C.2.1 hd hl hn (tvl_st2 h) (fun ls' hl' => k H locs ls' hH hS hl')
theorem ar_astore_n (C : Cx X V mb d) {q : Fin 4} {i : Nat} {x : Nat} (hd : decode mb.2.1 pc = .ok (.astore_n q, 1)) (hi : (q : Nat) = i) (hn : i < mb.2.2.1) (h : (i, Value.ref x) :: als.filter (fun q => !(q.1 == i) && !(q.1 + 1 == i && q.2.category == 2)) = als') (k : AW X V mb.2.2.1 T M cl sl Q (pc + 1) als' st) : AW X V mb.2.2.1 T M cl sl Q pc als (.ref x :: st) := fun H locs ls hH hS hl => lv_astore_n C.1 C.2.1 hd hi hl hn (tvl_st1 h) (fun ls' hl' => k H locs ls' hH hS hl')
theorem ar_astore (C : Cx X V mb d) {i : Nat} {x : Nat} (hd : decode mb.2.1 pc = .ok (.astore i, 2)) (hn : i < mb.2.2.1) (h : (i, Value.ref x) :: als.filter (fun q => !(q.1 == i) && !(q.1 + 1 == i && q.2.category == 2)) = als') (k : AW X V mb.2.2.1 T M cl sl Q (pc + 2) als' st) : AW X V mb.2.2.1 T M cl sl Q pc als (.ref x :: st) := fun H locs ls hH hS hl => lv_astore C.1 C.2.1 hd hl hn (tvl_st1 h) (fun ls' hl' => k H locs ls' hH hS hl')
theorem ar_iinc (C : Cx X V mb d) {i n : Nat} {z : Int} {x v : Int32} (hd : decode mb.2.1 pc = .ok (.iinc i z, 3)) (hk : als[n]? = some (i, .int x)) (hv : x + Int32.ofInt z = v) (hn : i < mb.2.2.1) (h : (i, Value.int v) :: als.filter (fun q => !(q.1 == i) && !(q.1 + 1 == i && q.2.category == 2)) = als') (k : AW X V mb.2.2.1 T M cl sl Q (pc + 3) als' st) : AW X V mb.2.2.1 T M cl sl Q pc als st := fun H locs ls hH hS hl => lv_iinc C.1 C.2.1 hd hl (tvl_at hk) hv hn (tvl_st1 h) (fun ls' hl' => k H locs ls' hH hS hl')
theorem ar_iadd (C : Cx X V mb d) {x y : Int32} (hd : decode mb.2.1 pc = .ok (.iadd, 1)) (k : AW X V mb.2.2.1 T M cl sl Q (pc + 1) als (.int (x + y) :: st)) : AW X V mb.2.2.1 T M cl sl Q pc als (.int y :: .int x :: st) := fun H locs ls hH hS hl => lv_iadd C.1 C.2.1 hd (k H locs ls hH hS hl)
theorem ar_isub (C : Cx X V mb d) {x y : Int32} (hd : decode mb.2.1 pc = .ok (.isub, 1)) (k : AW X V mb.2.2.1 T M cl sl Q (pc + 1) als (.int (x - y) :: st)) : AW X V mb.2.2.1 T M cl sl Q pc als (.int y :: .int x :: st) := fun H locs ls hH hS hl => lv_isub C.1 C.2.1 hd (k H locs ls hH hS hl)
theorem ar_imul (C : Cx X V mb d) {x y : Int32} (hd : decode mb.2.1 pc = .ok (.imul, 1)) (k : AW X V mb.2.2.1 T M cl sl Q (pc + 1) als (.int (x * y) :: st)) : AW X V mb.2.2.1 T M cl sl Q pc als (.int y :: .int x :: st) := fun H locs ls hH hS hl => lv_imul C.1 C.2.1 hd (k H locs ls hH hS hl)
theorem ar_iand (C : Cx X V mb d) {x y : Int32} (hd : decode mb.2.1 pc = .ok (.iand, 1)) (k : AW X V mb.2.2.1 T M cl sl Q (pc + 1) als (.int (x &&& y) :: st)) : AW X V mb.2.2.1 T M cl sl Q pc als (.int y :: .int x :: st) := fun H locs ls hH hS hl => lv_iand C.1 C.2.1 hd (k H locs ls hH hS hl)
theorem ar_ixor (C : Cx X V mb d) {x y : Int32} (hd : decode mb.2.1 pc = .ok (.ixor, 1)) (k : AW X V mb.2.2.1 T M cl sl Q (pc + 1) als (.int (x ^^^ y) :: st)) : AW X V mb.2.2.1 T M cl sl Q pc als (.int y :: .int x :: st) := fun H locs ls hH hS hl => lv_ixor C.1 C.2.1 hd (k H locs ls hH hS hl)
theorem ar_idiv (C : Cx X V mb d) {x y : Int32} (hd : decode mb.2.1 pc = .ok (.idiv, 1)) (hne : ¬ y = 0) (k : AW X V mb.2.2.1 T M cl sl Q (pc + 1) als (.int (x / y) :: st)) : AW X V mb.2.2.1 T M cl sl Q pc als (.int y :: .int x :: st) := fun H locs ls hH hS hl => lv_idiv C.1 C.2.1 hd hne (k H locs ls hH hS hl)
theorem ar_irem (C : Cx X V mb d) {x y : Int32} (hd : decode mb.2.1 pc = .ok (.irem, 1)) (hne : ¬ y = 0) (k : AW X V mb.2.2.1 T M cl sl Q (pc + 1) als (.int (x - x / y * y) :: st)) : AW X V mb.2.2.1 T M cl sl Q pc als (.int y :: .int x :: st) := fun H locs ls hH hS hl => lv_irem C.1 C.2.1 hd hne (k H locs ls hH hS hl)
theorem ar_ineg (C : Cx X V mb d) {x : Int32} (hd : decode mb.2.1 pc = .ok (.ineg, 1)) (k : AW X V mb.2.2.1 T M cl sl Q (pc + 1) als (.int (-x) :: st)) : AW X V mb.2.2.1 T M cl sl Q pc als (.int x :: st) := fun H locs ls hH hS hl => lv_ineg C.1 C.2.1 hd (k H locs ls hH hS hl)
theorem ar_ladd (C : Cx X V mb d) {x y : Int64} (hd : decode mb.2.1 pc = .ok (.ladd, 1)) (k : AW X V mb.2.2.1 T M cl sl Q (pc + 1) als (.long (x + y) :: st)) : AW X V mb.2.2.1 T M cl sl Q pc als (.long y :: .long x :: st) := fun H locs ls hH hS hl => lv_ladd C.1 C.2.1 hd (k H locs ls hH hS hl)
theorem ar_lsub (C : Cx X V mb d) {x y : Int64} (hd : decode mb.2.1 pc = .ok (.lsub, 1)) (k : AW X V mb.2.2.1 T M cl sl Q (pc + 1) als (.long (x - y) :: st)) : AW X V mb.2.2.1 T M cl sl Q pc als (.long y :: .long x :: st) := fun H locs ls hH hS hl => lv_lsub C.1 C.2.1 hd (k H locs ls hH hS hl)
theorem ar_lmul (C : Cx X V mb d) {x y : Int64} (hd : decode mb.2.1 pc = .ok (.lmul, 1)) (k : AW X V mb.2.2.1 T M cl sl Q (pc + 1) als (.long (x * y) :: st)) : AW X V mb.2.2.1 T M cl sl Q pc als (.long y :: .long x :: st) := fun H locs ls hH hS hl => lv_lmul C.1 C.2.1 hd (k H locs ls hH hS hl)
theorem ar_ldiv (C : Cx X V mb d) {x y : Int64} (hd : decode mb.2.1 pc = .ok (.ldiv, 1)) (hne : ¬ y = 0) (k : AW X V mb.2.2.1 T M cl sl Q (pc + 1) als (.long (x / y) :: st)) : AW X V mb.2.2.1 T M cl sl Q pc als (.long y :: .long x :: st) := fun H locs ls hH hS hl => lv_ldiv C.1 C.2.1 hd hne (k H locs ls hH hS hl)
theorem ar_lneg (C : Cx X V mb d) {x : Int64} (hd : decode mb.2.1 pc = .ok (.lneg, 1)) (k : AW X V mb.2.2.1 T M cl sl Q (pc + 1) als (.long (-x) :: st)) : AW X V mb.2.2.1 T M cl sl Q pc als (.long x :: st) := fun H locs ls hH hS hl => lv_lneg C.1 C.2.1 hd (k H locs ls hH hS hl)
theorem ar_lcmp (C : Cx X V mb d) {x y : Int64} (hd : decode mb.2.1 pc = .ok (.lcmp, 1)) (k : AW X V mb.2.2.1 T M cl sl Q (pc + 1) als (.int (lg_cmp x y) :: st)) : AW X V mb.2.2.1 T M cl sl Q pc als (.long y :: .long x :: st) := fun H locs ls hH hS hl => W.lcmp C.1 C.2.1 hd (k H locs ls hH hS hl)
theorem ar_i2l (C : Cx X V mb d) {x : Int32} (hd : decode mb.2.1 pc = .ok (.i2l, 1)) (k : AW X V mb.2.2.1 T M cl sl Q (pc + 1) als (.long (x.toInt64) :: st)) : AW X V mb.2.2.1 T M cl sl Q pc als (.int x :: st) := fun H locs ls hH hS hl => lv_i2l C.1 C.2.1 hd rfl (k H locs ls hH hS hl)
theorem ar_i2b (C : Cx X V mb d) {x : Int32} (hd : decode mb.2.1 pc = .ok (.i2b, 1)) (k : AW X V mb.2.2.1 T M cl sl Q (pc + 1) als (.int (x.toInt8.toInt32) :: st)) : AW X V mb.2.2.1 T M cl sl Q pc als (.int x :: st) := fun H locs ls hH hS hl => lv_i2b C.1 C.2.1 hd rfl (k H locs ls hH hS hl)
theorem ar_i2s (C : Cx X V mb d) {x : Int32} (hd : decode mb.2.1 pc = .ok (.i2s, 1)) (k : AW X V mb.2.2.1 T M cl sl Q (pc + 1) als (.int (x.toInt16.toInt32) :: st)) : AW X V mb.2.2.1 T M cl sl Q pc als (.int x :: st) := fun H locs ls hH hS hl => lv_i2s C.1 C.2.1 hd rfl (k H locs ls hH hS hl)
theorem ar_dup (C : Cx X V mb d) {v : Value} (hd : decode mb.2.1 pc = .ok (.dup, 1)) (hv : v.category = 1) (k : AW X V mb.2.2.1 T M cl sl Q (pc + 1) als (v :: v :: st)) : AW X V mb.2.2.1 T M cl sl Q pc als (v :: st) := fun H locs ls hH hS hl => lv_dup C.1 C.2.1 hd (by rw [tv_cat]; exact hv) (k H locs ls hH hS hl)
theorem ar_dup2 (C : Cx X V mb d) {v w : Value} (hd : decode mb.2.1 pc = .ok (.dup2, 1)) (hv : v.category = 1) (hw : w.category = 1) (k : AW X V mb.2.2.1 T M cl sl Q (pc + 1) als (v :: w :: v :: w :: st)) : AW X V mb.2.2.1 T M cl sl Q pc als (v :: w :: st) := fun H locs ls hH hS hl => lv_dup2_11 C.1 C.2.1 hd (by rw [tv_cat]; exact hv) (by rw [tv_cat]; exact hw) (k H locs ls hH hS hl)
theorem ar_if_eq (C : Cx X V mb d) {x : Int32} {off : Int} {tgt : Nat} (hd : decode mb.2.1 pc = .ok (.ifCond .eq off, 3)) (ht : (pc : Int) + off = (tgt : Int)) (kt : x = 0 → AW X V mb.2.2.1 T M cl sl Q tgt als st) (kf : ¬ x = 0 → AW X V mb.2.2.1 T M cl sl Q (pc + 3) als st) : AW X V mb.2.2.1 T M cl sl Q pc als (.int x :: st) := fun H locs ls hH hS hl => lv_if_eq C.1 C.2.1 hd ht (fun c => kt c H locs ls hH hS hl) (fun c => kf c H locs ls hH hS hl)
theorem ar_icmp_eq (C : Cx X V mb d) {x y : Int32} {off : Int} {tgt : Nat} (hd : decode mb.2.1 pc = .ok (.if_icmp .eq off, 3)) (ht : (pc : Int) + off = (tgt : Int)) (kt : x = y → AW X V mb.2.2.1 T M cl sl Q tgt als st) (kf : ¬ x = y → AW X V mb.2.2.1 T M cl sl Q (pc + 3) als st) : AW X V mb.2.2.1 T M cl sl Q pc als (.int y :: .int x :: st) := fun H locs ls hH hS hl => lv_icmp_eq C.1 C.2.1 hd ht (fun c => kt c H locs ls hH hS hl) (fun c => kf c H locs ls hH hS hl)
theorem ar_if_ne (C : Cx X V mb d) {x : Int32} {off : Int} {tgt : Nat} (hd : decode mb.2.1 pc = .ok (.ifCond .ne off, 3)) (ht : (pc : Int) + off = (tgt : Int)) (kt : ¬ x = 0 → AW X V mb.2.2.1 T M cl sl Q tgt als st) (kf : x = 0 → AW X V mb.2.2.1 T M cl sl Q (pc + 3) als st) : AW X V mb.2.2.1 T M cl sl Q pc als (.int x :: st) := fun H locs ls hH hS hl => lv_if_ne C.1 C.2.1 hd ht (fun c => kt c H locs ls hH hS hl) (fun c => kf c H locs ls hH hS hl)
theorem ar_icmp_ne (C : Cx X V mb d) {x y : Int32} {off : Int} {tgt : Nat} (hd : decode mb.2.1 pc = .ok (.if_icmp .ne off, 3)) (ht : (pc : Int) + off = (tgt : Int)) (kt : ¬ x = y → AW X V mb.2.2.1 T M cl sl Q tgt als st) (kf : x = y → AW X V mb.2.2.1 T M cl sl Q (pc + 3) als st) : AW X V mb.2.2.1 T M cl sl Q pc als (.int y :: .int x :: st) := fun H locs ls hH hS hl => lv_icmp_ne C.1 C.2.1 hd ht (fun c => kt c H locs ls hH hS hl) (fun c => kf c H locs ls hH hS hl)
theorem ar_if_lt (C : Cx X V mb d) {x : Int32} {off : Int} {tgt : Nat} (hd : decode mb.2.1 pc = .ok (.ifCond .lt off, 3)) (ht : (pc : Int) + off = (tgt : Int)) (kt : x < 0 → AW X V mb.2.2.1 T M cl sl Q tgt als st) (kf : ¬ x < 0 → AW X V mb.2.2.1 T M cl sl Q (pc + 3) als st) : AW X V mb.2.2.1 T M cl sl Q pc als (.int x :: st) := fun H locs ls hH hS hl => lv_if_lt C.1 C.2.1 hd ht (fun c => kt c H locs ls hH hS hl) (fun c => kf c H locs ls hH hS hl)
theorem ar_icmp_lt (C : Cx X V mb d) {x y : Int32} {off : Int} {tgt : Nat} (hd : decode mb.2.1 pc = .ok (.if_icmp .lt off, 3)) (ht : (pc : Int) + off = (tgt : Int)) (kt : x < y → AW X V mb.2.2.1 T M cl sl Q tgt als st) (kf : ¬ x < y → AW X V mb.2.2.1 T M cl sl Q (pc + 3) als st) : AW X V mb.2.2.1 T M cl sl Q pc als (.int y :: .int x :: st) := fun H locs ls hH hS hl => lv_icmp_lt C.1 C.2.1 hd ht (fun c => kt c H locs ls hH hS hl) (fun c => kf c H locs ls hH hS hl)
theorem ar_if_ge (C : Cx X V mb d) {x : Int32} {off : Int} {tgt : Nat} (hd : decode mb.2.1 pc = .ok (.ifCond .ge off, 3)) (ht : (pc : Int) + off = (tgt : Int)) (kt : 0 ≤ x → AW X V mb.2.2.1 T M cl sl Q tgt als st) (kf : ¬ 0 ≤ x → AW X V mb.2.2.1 T M cl sl Q (pc + 3) als st) : AW X V mb.2.2.1 T M cl sl Q pc als (.int x :: st) := fun H locs ls hH hS hl => lv_if_ge C.1 C.2.1 hd ht (fun c => kt c H locs ls hH hS hl) (fun c => kf c H locs ls hH hS hl)
theorem ar_icmp_ge (C : Cx X V mb d) {x y : Int32} {off : Int} {tgt : Nat} (hd : decode mb.2.1 pc = .ok (.if_icmp .ge off, 3)) (ht : (pc : Int) + off = (tgt : Int)) (kt : y ≤ x → AW X V mb.2.2.1 T M cl sl Q tgt als st) (kf : ¬ y ≤ x → AW X V mb.2.2.1 T M cl sl Q (pc + 3) als st) : AW X V mb.2.2.1 T M cl sl Q pc als (.int y :: .int x :: st) := fun H locs ls hH hS hl => lv_icmp_ge C.1 C.2.1 hd ht (fun c => kt c H locs ls hH hS hl) (fun c => kf c H locs ls hH hS hl)
theorem ar_if_gt (C : Cx X V mb d) {x : Int32} {off : Int} {tgt : Nat} (hd : decode mb.2.1 pc = .ok (.ifCond .gt off, 3)) (ht : (pc : Int) + off = (tgt : Int)) (kt : 0 < x → AW X V mb.2.2.1 T M cl sl Q tgt als st) (kf : ¬ 0 < x → AW X V mb.2.2.1 T M cl sl Q (pc + 3) als st) : AW X V mb.2.2.1 T M cl sl Q pc als (.int x :: st) := fun H locs ls hH hS hl => lv_if_gt C.1 C.2.1 hd ht (fun c => kt c H locs ls hH hS hl) (fun c => kf c H locs ls hH hS hl)
theorem ar_icmp_gt (C : Cx X V mb d) {x y : Int32} {off : Int} {tgt : Nat} (hd : decode mb.2.1 pc = .ok (.if_icmp .gt off, 3)) (ht : (pc : Int) + off = (tgt : Int)) (kt : y < x → AW X V mb.2.2.1 T M cl sl Q tgt als st) (kf : ¬ y < x → AW X V mb.2.2.1 T M cl sl Q (pc + 3) als st) : AW X V mb.2.2.1 T M cl sl Q pc als (.int y :: .int x :: st) := fun H locs ls hH hS hl => lv_icmp_gt C.1 C.2.1 hd ht (fun c => kt c H locs ls hH hS hl) (fun c => kf c H locs ls hH hS hl)
theorem ar_if_le (C : Cx X V mb d) {x : Int32} {off : Int} {tgt : Nat} (hd : decode mb.2.1 pc = .ok (.ifCond .le off, 3)) (ht : (pc : Int) + off = (tgt : Int)) (kt : x ≤ 0 → AW X V mb.2.2.1 T M cl sl Q tgt als st) (kf : ¬ x ≤ 0 → AW X V mb.2.2.1 T M cl sl Q (pc + 3) als st) : AW X V mb.2.2.1 T M cl sl Q pc als (.int x :: st) := fun H locs ls hH hS hl => lv_if_le C.1 C.2.1 hd ht (fun c => kt c H locs ls hH hS hl) (fun c => kf c H locs ls hH hS hl)
theorem ar_icmp_le (C : Cx X V mb d) {x y : Int32} {off : Int} {tgt : Nat} (hd : decode mb.2.1 pc = .ok (.if_icmp .le off, 3)) (ht : (pc : Int) + off = (tgt : Int)) (kt : x ≤ y → AW X V mb.2.2.1 T M cl sl Q tgt als st) (kf : ¬ x ≤ y → AW X V mb.2.2.1 T M cl sl Q (pc + 3) als st) : AW X V mb.2.2.1 T M cl sl Q pc als (.int y :: .int x :: st) := fun H locs ls hH hS hl => lv_icmp_le C.1 C.2.1 hd ht (fun c => kt c H locs ls hH hS hl) (fun c => kf c H locs ls hH hS hl)
def bI (b : Bool) : Int32 := if b then 1 else 0
theorem bI_0 (b : Bool) : bI b = 0 ↔ b = false := by cases b <;> decide
theorem bI_n0 (b : Bool) : ¬ bI b = 0 ↔ b = true := by cases b <;> decide
theorem bI_nar (b : Bool) : narrow .boolean (.int (bI b)) = .int (bI b) := by cases b <;> decide
theorem bI_vnar (b : Bool) : vp_nar .boolean (bI b) = bI b := by cases b <;> decide
theorem ar_if_eqB (C : Cx X V mb d) {b : Bool} {off : Int} {tgt : Nat} (hd : decode mb.2.1 pc = .ok (.ifCond .eq off, 3)) (ht : (pc : Int) + off = (tgt : Int)) (kt : b = false → AW X V mb.2.2.1 T M cl sl Q tgt als st) (kf : b = true → AW X V mb.2.2.1 T M cl sl Q (pc + 3) als st) : AW X V mb.2.2.1 T M cl sl Q pc als (.int (bI b) :: st) := ar_if_eq C hd ht (fun c => kt ((bI_0 b).mp c)) (fun c => kf ((bI_n0 b).mp c))
theorem ar_if_neB (C : Cx X V mb d) {b : Bool} {off : Int} {tgt : Nat} (hd : decode mb.2.1 pc = .ok (.ifCond .ne off, 3)) (ht : (pc : Int) + off = (tgt : Int)) (kt : b = true → AW X V mb.2.2.1 T M cl sl Q tgt als st) (kf : b = false → AW X V mb.2.2.1 T M cl sl Q (pc + 3) als st) : AW X V mb.2.2.1 T M cl sl Q pc als (.int (bI b) :: st) := ar_if_ne C hd ht (fun c => kt ((bI_n0 b).mp c)) (fun c => kf ((bI_0 b).mp c))
theorem ar_goto (C : Cx X V mb d) {off : Int} {tgt : Nat} (hd : decode mb.2.1 pc = .ok (.goto off, 3)) (ht : (pc : Int) + off = (tgt : Int)) (k : AW X V mb.2.2.1 T M cl sl Q tgt als st) : AW X V mb.2.2.1 T M cl sl Q pc als st := fun H locs ls hH hS hl => lv_goto C.1 C.2.1 hd ht (k H locs ls hH hS hl)
theorem ar_tableOut (C : Cx X V mb d) {dflt lo hi : Int} {offs : Array Int} {len : Nat} {x : Int32} {tgt : Nat} (hd : decode mb.2.1 pc = .ok (.tableswitch dflt lo hi offs, len)) (h : x.toInt < lo ∨ hi < x.toInt) (ht : (pc : Int) + dflt = (tgt : Int)) (k : AW X V mb.2.2.1 T M cl sl Q tgt als st) : AW X V mb.2.2.1 T M cl sl Q pc als (.int x :: st) := fun H locs ls hH hS hl => lv_tableOut C.1 C.2.1 hd h ht (k H locs ls hH hS hl)
theorem ar_tableIn (C : Cx X V mb d) {dflt lo hi : Int} {offs : Array Int} {len : Nat} {x : Int32} {off : Int} {tgt : Nat} (hd : decode mb.2.1 pc = .ok (.tableswitch dflt lo hi offs, len)) (h1 : ¬ x.toInt < lo) (h2 : ¬ hi < x.toInt) (ho : offs[(x.toInt - lo).toNat]? = some off) (ht : (pc : Int) + off = (tgt : Int)) (k : AW X V mb.2.2.1 T M cl sl Q tgt als st) : AW X V mb.2.2.1 T M cl sl Q pc als (.int x :: st) := fun H locs ls hH hS hl => lv_tableIn C.1 C.2.1 hd h1 h2 ho ht (k H locs ls hH hS hl)
theorem ar_lookup (C : Cx X V mb d) {dflt : Int} {ps : Array (Int × Int)} {len : Nat} {x : Int32} {off : Int} {tgt : Nat} (hd : decode mb.2.1 pc = .ok (.lookupswitch dflt ps, len)) (hp : (ps.toList.zip (ps.toList.drop 1)).all (fun (a, next) => a.1 < next.1) = true) (ho : Op.lookupswitch.offset ps.toList dflt x.toInt = off) (ht : (pc : Int) + off = (tgt : Int)) (k : AW X V mb.2.2.1 T M cl sl Q tgt als st) : AW X V mb.2.2.1 T M cl sl Q pc als (.int x :: st) := fun H locs ls hH hS hl => lv_lookup C.1 C.2.1 hd hp ho ht (k H locs ls hH hS hl)
/-- cell k is of the kind c (13 classes; 20 ints, 21 booleans, 22 to 25 rows of references), with n places -/
def KD (T : Tt) (k c n : Nat) : Prop := k < T.1 ∧ T.2.1 k = (c, n)
/-- what the tables say of a class -/
theorem cls_ok : ∀ c, c < 13 → vwCl[c]? = some (clsC c, clsF c, nfc c) := by
  intro c h
  match c, h with
  | 0, _ => rfl | 1, _ => rfl | 2, _ => rfl | 3, _ => rfl | 4, _ => rfl | 5, _ => rfl | 6, _ => rfl | 7, _ => rfl | 8, _ => rfl | 9, _ => rfl | 10, _ => rfl | 11, _ => rfl | 12, _ => rfl
theorem cls_ty : ∀ c, c < 13 → ∀ k, k < nfc c → parseFieldDescriptor (clsF c k).2.2.1 = some (tyc c k) := by
  intro c h
  match c, h with
  | 0, _ => exact tyX0_ok | 1, _ => exact tyX1_ok | 2, _ => exact tyX2_ok | 3, _ => exact tyX3_ok | 4, _ => exact tyX4_ok | 5, _ => exact tyX5_ok | 6, _ => exact tyX6_ok | 7, _ => exact tyX7_ok | 8, _ => exact tyX8_ok | 9, _ => exact tyX9_ok | 10, _ => exact tyX10_ok | 11, _ => exact tyX11_ok | 12, _ => exact tyX12_ok
theorem cls_nm : ∀ c, c < 13 → ∀ a, a < nfc c → ∀ b, b < nfc c → a ≠ b → (clsF c a).2.1 ≠ (clsF c b).2.1 := by
  intro c h
  match c, h with
  | 0, _ => exact nmX0 | 1, _ => exact nmX1 | 2, _ => exact nmX2 | 3, _ => exact nmX3 | 4, _ => exact nmX4 | 5, _ => exact nmX5 | 6, _ => exact nmX6 | 7, _ => exact nmX7 | 8, _ => exact nmX8 | 9, _ => exact nmX9 | 10, _ => exact nmX10 | 11, _ => exact nmX11 | 12, _ => exact nmX12
/-- a field by its pool number: field j of class c, of type ty, final or not; the class's own link or a nest mate's -/
def FL (own : String) (idx c j : Nat) (ty : FieldType) (fin : Bool) : Prop := c < 13 ∧ j < nfc c ∧ tyc c j = ty ∧ (clsF c j).2.2.2 = fin ∧ (clsF c j).1 = clsC c ∧ (∀ w ∈ u_ws (clsC c) (clsF c) (nfc c), w ∈ wA) ∧
  (Cond.fieldLink own idx (clsC c) (clsF c j).2.1 (clsF c j).2.2.1 ∈ wA ∨ ∃ host, Cond.fieldLinkNest own idx (clsC c) (clsF c j).2.1 (clsF c j).2.2.1 host ∈ wN)
theorem ar_get0 (C : Cx X V mb d) {idx c j k n : Nat} {ty : FieldType} {fin : Bool} {v : Value} (F : FL mb.1.cls idx c j ty fin) (K : KD T k c n) (hv : fv V T M k c j = tv V v) (hd : decode mb.2.1 pc = .ok (.getfield idx, 3)) (kk : AW X V mb.2.2.1 T M cl sl Q (pc + 3) als (v :: st)) : AW X V mb.2.2.1 T M cl sl Q pc als (.ref k :: st) := by
  intro H locs ls hH hS hl
  obtain ⟨h13, hj, -, -, hdecl, hin, hlk⟩ := F
  have he := wsW_get (V := V) (M := M) K.1
  rw [cell_o K.2 h13] at he
  have hf : ((List.range (nfc c)).map (fv V T M k c))[j]? = some (tv V v) := by simp [hj, hv]
  rcases hlk with hlk | ⟨host, hlk⟩
  · exact va_get C.1 C.2.1 C.2.2.2.2.1 hin C.2.2.2.1 C.2.2.2.2.2.1.1 hH.1 k he (cls_ok c h13) j hj (C.2.2.2.2.1 _ hlk) (fun x h => by rw [hdecl] at h; exact h) hf hd (kk H locs ls hH hS hl)
  · exact va_getN C.1 C.2.1 C.2.2.2.2.1 hin C.2.2.2.1 C.2.2.2.2.2.1.1 hH.1 k he (cls_ok c h13) j hj (va_Nw.use rfl (C.2.2.2.2.2.1.2.1 _ hlk)) (fun x h => by rw [hdecl] at h; exact h) hf hd (kk H locs ls hH hS hl)
theorem ar_geti (C : Cx X V mb d) {idx c j k n : Nat} {fin : Bool} (F : FL mb.1.cls idx c j .int fin) (K : KD T k c n) (hd : decode mb.2.1 pc = .ok (.getfield idx, 3)) (kk : AW X V mb.2.2.1 T M cl sl Q (pc + 3) als (.int (M.1 k j) :: st)) : AW X V mb.2.2.1 T M cl sl Q pc als (.ref k :: st) := ar_get0 C F K (by rw [fv, F.2.2.1]; rfl) hd kk
theorem ar_getl (C : Cx X V mb d) {idx c j k n : Nat} {fin : Bool} (F : FL mb.1.cls idx c j .long fin) (K : KD T k c n) (hd : decode mb.2.1 pc = .ok (.getfield idx, 3)) (kk : AW X V mb.2.2.1 T M cl sl Q (pc + 3) als (.long (M.2 k j) :: st)) : AW X V mb.2.2.1 T M cl sl Q pc als (.ref k :: st) := ar_get0 C F K (by rw [fv, F.2.2.1]; rfl) hd kk
/-- a type of references -/
def isR : FieldType → Bool
  | .object _ => true
  | .array _ => true
  | _ => false
theorem fv_r {c j k : Nat} {ty : FieldType} (h : tyc c j = ty) (hr : isR ty = true) : fv V T M k c j = va_rf ((T.2.2 k j).map (V.2.2.1 + ·)) := by
  rw [fv, h]
  cases ty <;> first | rfl | cases hr
theorem ar_getr (C : Cx X V mb d) {idx c j k n r : Nat} {ty : FieldType} {fin : Bool} (F : FL mb.1.cls idx c j ty fin) (hr : isR ty = true) (K : KD T k c n) (hT : T.2.2 k j = some r) (hd : decode mb.2.1 pc = .ok (.getfield idx, 3)) (kk : AW X V mb.2.2.1 T M cl sl Q (pc + 3) als (.ref r :: st)) : AW X V mb.2.2.1 T M cl sl Q pc als (.ref k :: st) := ar_get0 C F K (by rw [fv_r F.2.2.1 hr, hT]; rfl) hd kk
/-- what a store leaves -/
theorem Hp_set {k : Nat} {E : va_E} {T' : Tt} {M' : Mm} {H1 : Heap} (hk : k < T.1) (h1 : T'.1 = T.1) (h2 : cellE V T' M' k = E) (h3 : ∀ i, i ≠ k → cellE V T' M' i = cellE V T M i) (hP : va_P V.1 vwCl ((wsW V T M).set k (V.2.2.1 + k, E)) H1) : va_P V.1 vwCl (wsW V T' M') H1 := by
  rw [wsW_set hk h1 h2 h3] at hP
  exact hP

theorem KD_small {k c n : Nat} (K : KD T0 k c n) : n < 2 ^ 31 := by
  have h := T0_small k K.1
  have e : T0ty k = (c, n) := K.2
  rw [e] at h
  simp at h
  omega
theorem Hp0 {H1 : Heap} (h : va_P V.1 vwCl (wsW V T0 M) H1) : Hp V T0 M H1 := ⟨h, fun q => absurd q (by decide)⟩
theorem fs_wi {k c j : Nat} {v : Int32} (ht : tyc c j = .int) : ((List.range (nfc c)).map (fv V T M k c)).set j (.int v) = (List.range (nfc c)).map (fv V T (wi M k j v) k c) := by
  refine fs_set ?_ (fun i hi => ?_)
  · rw [fv, ht]; simp [wi]
  · have e : (wi M k j v).1 k i = M.1 k i := by simp [wi, hi]
    simp only [fv, e]
    rfl
theorem fs_wl {k c j : Nat} {v : Int64} (ht : tyc c j = .long) : ((List.range (nfc c)).map (fv V T M k c)).set j (.long v) = (List.range (nfc c)).map (fv V T (wl M k j v) k c) := by
  refine fs_set ?_ (fun i hi => ?_)
  · rw [fv, ht]; simp [wl]
  · have e : (wl M k j v).2 k i = M.2 k i := by simp [wl, hi]
    simp only [fv, e]
    rfl
/-- a field is written: M' is what it leaves -/
theorem ar_put0 (C : Cx X V mb d) {idx c j k n : Nat} {ty : FieldType} {v : Value} {M' : Mm} (F : FL mb.1.cls idx c j ty false) (K : KD T0 k c n) (hn : narrow ty (tv V v) = tv V v) (hf : fits ty (tv V v) = true) (h1 : ((List.range (nfc c)).map (fv V T0 M k c)).set j (tv V v) = (List.range (nfc c)).map (fv V T0 M' k c)) (h2 : ∀ i, i ≠ k → cellE V T0 M' i = cellE V T0 M i) (hd : decode mb.2.1 pc = .ok (.putfield idx, 3)) (kk : AW X V mb.2.2.1 T0 M' cl sl Q (pc + 3) als st) : AW X V mb.2.2.1 T0 M cl sl Q pc als (v :: .ref k :: st) := by
  intro H locs ls hH hS hl
  obtain ⟨h13, hj, hty, hfin, hdecl, hin, hlk⟩ := F
  have he := wsW_get (V := V) (M := M) K.1
  rw [cell_o K.2 h13] at he
  have hpd : parseFieldDescriptor (clsF c j).2.2.1 = some ty := by rw [cls_ty c h13 j hj, hty]
  have hln : j < ((List.range (nfc c)).map (fv V T0 M k c)).length := by simpa using hj
  have fin : ∀ H1 : Heap, va_P V.1 vwCl ((wsW V T0 M).set k (V.2.2.1 + k, .inr (c, ((List.range (nfc c)).map (fv V T0 M k c)).set j (tv V v)))) H1 → Hp V T0 M' H1 := fun H1 hP => Hp0 (Hp_set K.1 rfl (by rw [cell_o K.2 h13, h1]) h2 hP)
  rcases hlk with hlk | ⟨host, hlk⟩
  · exact va_put C.1 C.2.1 C.2.2.2.2.1 hin (tyc c) (cls_ty c h13) (cls_nm c h13) C.2.2.2.1 C.2.2.2.2.2.1.1 hH.1 (wsW_D V T0 M) hS k he (cls_ok c h13) j hj (C.2.2.2.2.1 _ hlk) (fun x h => by rw [hdecl] at h; exact h) hfin hpd hn hf hln hd (fun H1 locs1 hP _ hS1 => kk H1 locs1 ls (fin H1 hP) hS1 hl)
  · exact va_putN C.1 C.2.1 C.2.2.2.2.1 hin (tyc c) (cls_ty c h13) (cls_nm c h13) C.2.2.2.1 C.2.2.2.2.2.1.1 hH.1 (wsW_D V T0 M) hS k he (cls_ok c h13) j hj (va_Nw.use rfl (C.2.2.2.2.2.1.2.1 _ hlk)) (fun x h => by rw [hdecl] at h; exact h) hfin hpd hn hf hln hd (fun H1 locs1 hP _ hS1 => kk H1 locs1 ls (fin H1 hP) hS1 hl)
theorem ar_puti (C : Cx X V mb d) {idx c j k n : Nat} {v : Int32} (F : FL mb.1.cls idx c j .int false) (K : KD T0 k c n) (hd : decode mb.2.1 pc = .ok (.putfield idx, 3)) (kk : AW X V mb.2.2.1 T0 (wi M k j v) cl sl Q (pc + 3) als st) : AW X V mb.2.2.1 T0 M cl sl Q pc als (.int v :: .ref k :: st) := ar_put0 C F K rfl rfl (fs_wi F.2.2.1) cellE_wi hd kk
theorem ar_putl (C : Cx X V mb d) {idx c j k n : Nat} {v : Int64} (F : FL mb.1.cls idx c j .long false) (K : KD T0 k c n) (hd : decode mb.2.1 pc = .ok (.putfield idx, 3)) (kk : AW X V mb.2.2.1 T0 (wl M k j v) cl sl Q (pc + 3) als st) : AW X V mb.2.2.1 T0 M cl sl Q pc als (.long v :: .ref k :: st) := ar_put0 C F K rfl rfl (fs_wl F.2.2.1) cellE_wl hd kk
/-- arrays of numbers: the index is the number j -/
theorem ar_iald (C : Cx X V mb d) {k n j : Nat} {i : Int32} (K : KD T0 k 20 n) (e : i = nI j) (hj : j < n) (hd : decode mb.2.1 pc = .ok (.iaload, 1)) (kk : AW X V mb.2.2.1 T0 M cl sl Q (pc + 1) als (.int (M.1 k j) :: st)) : AW X V mb.2.2.1 T0 M cl sl Q pc als (.int i :: .ref k :: st) := by
  intro H locs ls hH hS hl
  subst e
  have he := wsW_get (V := V) (M := M) K.1
  rw [cell_i K.2] at he
  have h := kk H locs ls hH hS hl
  refine va_iald C.1 C.2.1 C.2.2.2.2.2.1.1 hH.1 k 0 he rfl (vp_in_nI hj (KD_small K)) hd ?_
  rw [nI_clamp (Nat.lt_trans hj (KD_small K))]
  exact h
theorem ar_zald (C : Cx X V mb d) {k n j : Nat} {i : Int32} (K : KD T0 k 21 n) (e : i = nI j) (hj : j < n) (hd : decode mb.2.1 pc = .ok (.baload, 1)) (kk : AW X V mb.2.2.1 T0 M cl sl Q (pc + 1) als (.int (M.1 k j) :: st)) : AW X V mb.2.2.1 T0 M cl sl Q pc als (.int i :: .ref k :: st) := by
  intro H locs ls hH hS hl
  subst e
  have he := wsW_get (V := V) (M := M) K.1
  rw [cell_z K.2] at he
  have h := kk H locs ls hH hS hl
  refine va_zald C.1 C.2.1 C.2.2.2.2.2.1.1 hH.1 k 1 he rfl (vp_in_nI hj (KD_small K)) hd ?_
  rw [nI_clamp (Nat.lt_trans hj (KD_small K))]
  exact h
theorem wi_upd (M : Mm) (k j : Nat) (v : Int32) : (wi M k j v).1 k = upd (M.1 k) j v := by
  funext b
  simp [wi, upd]
theorem ar_iast (C : Cx X V mb d) {k n j : Nat} {i x : Int32} (K : KD T0 k 20 n) (e : i = nI j) (hj : j < n) (hd : decode mb.2.1 pc = .ok (.iastore, 1)) (kk : AW X V mb.2.2.1 T0 (wi M k j x) cl sl Q (pc + 1) als st) : AW X V mb.2.2.1 T0 M cl sl Q pc als (.int x :: .int i :: .ref k :: st) := by
  intro H locs ls hH hS hl
  subst e
  have he := wsW_get (V := V) (M := M) K.1
  rw [cell_i K.2] at he
  refine va_iast C.1 C.2.1 C.2.2.2.2.2.1.1 hH.1 (wsW_D V T0 M) hS k 0 he rfl (vp_in_nI hj (KD_small K)) hd (fun H1 locs1 hP _ hS1 => kk H1 locs1 ls (Hp0 (Hp_set K.1 rfl ?_ cellE_wi hP)) hS1 hl)
  rw [cell_i K.2, wi_upd, nI_clamp (Nat.lt_trans hj (KD_small K))]
theorem ar_zast (C : Cx X V mb d) {k n j : Nat} {i x : Int32} (K : KD T0 k 21 n) (e : i = nI j) (hj : j < n) (hx : vp_nar .boolean x = x) (hd : decode mb.2.1 pc = .ok (.bastore, 1)) (kk : AW X V mb.2.2.1 T0 (wi M k j x) cl sl Q (pc + 1) als st) : AW X V mb.2.2.1 T0 M cl sl Q pc als (.int x :: .int i :: .ref k :: st) := by
  intro H locs ls hH hS hl
  subst e
  have he := wsW_get (V := V) (M := M) K.1
  rw [cell_z K.2] at he
  refine va_zast C.1 C.2.1 C.2.2.2.2.2.1.1 hH.1 (wsW_D V T0 M) hS k 1 he rfl (vp_in_nI hj (KD_small K)) hd (fun H1 locs1 hP _ hS1 => kk H1 locs1 ls (Hp0 (Hp_set K.1 rfl ?_ cellE_wi hP)) hS1 hl)
  rw [cell_z K.2, wi_upd, nI_clamp (Nat.lt_trans hj (KD_small K)), hx]
theorem tys_r {c : Nat} (h1 : 22 ≤ c) (h2 : c < 26) : ∃ E : String, (tysV V)[c - 20]? = some (V.2.1 (c - 20), .object E) := by
  rcases (show c = 22 ∨ c = 23 ∨ c = 24 ∨ c = 25 by omega) with rfl | rfl | rfl | rfl <;> exact ⟨_, rfl⟩
theorem ar_aald (C : Cx X V mb d) {k c n j r : Nat} {i : Int32} (K : KD T0 k c n) (h1 : 22 ≤ c) (h2 : c < 26) (e : i = nI j) (hj : j < n) (hr : T0r k j = some r) (hd : decode mb.2.1 pc = .ok (.aaload, 1)) (kk : AW X V mb.2.2.1 T0 M cl sl Q (pc + 1) als (.ref r :: st)) : AW X V mb.2.2.1 T0 M cl sl Q pc als (.int i :: .ref k :: st) := by
  intro H locs ls hH hS hl
  subst e
  obtain ⟨E, hE⟩ := tys_r (V := V) h1 h2
  have he := wsW_get (V := V) (M := M) K.1
  rw [cell_r K.2 h1] at he
  have h := kk H locs ls hH hS hl
  refine va_aldq C.1 C.2.1 C.2.2.2.2.2.1.1 hH.1 k (c - 20) he hE (vp_in_nI hj (KD_small K)) hd ?_
  rw [nI_clamp (Nat.lt_trans hj (KD_small K)), show T0.2.2 k j = some r from hr]
  exact h
theorem ar_alen (C : Cx X V mb d) {k n : Nat} (K : KD T0 k 20 n) (hd : decode mb.2.1 pc = .ok (.arraylength, 1)) (kk : AW X V mb.2.2.1 T0 M cl sl Q (pc + 1) als (.int (nI n) :: st)) : AW X V mb.2.2.1 T0 M cl sl Q pc als (.ref k :: st) := by
  intro H locs ls hH hS hl
  have he := wsW_get (V := V) (M := M) K.1
  rw [cell_i K.2] at he
  exact va_alen C.1 C.2.1 C.2.2.2.2.2.1.1 hH.1 k 0 he rfl rfl hd (kk H locs ls hH hS hl)
/-- the two tables of the room's bounds -/
theorem ar_gets1 (C : Cx X V mb d) {idx : Nat} (w : Cond.fieldLink mb.1.cls idx RX11 "NUMBER_LEAST" "[I" ∈ wA) (hd : decode mb.2.1 pc = .ok (.getstatic idx, 3)) (kk : AW X V mb.2.2.1 T M cl sl Q (pc + 3) als (.retAddr 1 :: st)) : AW X V mb.2.2.1 T M cl sl Q pc als st := fun H locs ls hH hS hl =>
  va_gets C.1 C.2.1 C.2.2.2.2.2.1.2.2.2.2.1.1 hS C.2.2.2.1 (C.2.2.2.2.1 _ w) (fun _ h => h) hd (kk H locs ls hH hS hl)
theorem ar_gets2 (C : Cx X V mb d) {idx : Nat} (w : Cond.fieldLink mb.1.cls idx RX11 "NUMBER_MOST" "[I" ∈ wA) (hd : decode mb.2.1 pc = .ok (.getstatic idx, 3)) (kk : AW X V mb.2.2.1 T M cl sl Q (pc + 3) als (.retAddr 2 :: st)) : AW X V mb.2.2.1 T M cl sl Q pc als st := fun H locs ls hH hS hl =>
  va_gets C.1 C.2.1 C.2.2.2.2.2.1.2.2.2.2.2.1 hS C.2.2.2.1 (C.2.2.2.2.1 _ w) (fun _ h => h) hd (kk H locs ls hH hS hl)
theorem tab_ld {s : State} {A : Nat → Prop} {H : Heap} {locs : List Loc} {t j : Nat} {f : Nat → Int32} (h : va_T .int t 7 (fun j => .int (f j)) A s s.heap) (hS : va_S A s.heap H locs) (hj : j < 7) : ∃ cell : Cell, H[t]? = some cell ∧ s.isArrayOf cell .int ∧ cell.vm ≠ .unknown ∧ ¬ (nI j < 0 ∨ cell.slots.size ≤ (nI j).toNatClampNeg) ∧ cell.slots[(nI j).toNatClampNeg]? = some (.int (f j)) := by
  obtain ⟨cell, h1, h2, h3, h4, h5, h6, h7⟩ := h
  refine ⟨cell, by rw [hS.2.1 t (Array.getElem?_eq_some_iff.mp h1).1 h7]; exact h1, h2, h3, ?_, ?_⟩
  · rw [nI_clamp (by omega)]
    rintro (q | q)
    · exact nI_pos (by omega) q
    · omega
  · rw [nI_clamp (by omega)]; exact h6 j hj
theorem ar_iald1 (C : Cx X V mb d) {j : Nat} {i : Int32} (e : i = nI j) (hj : j < 7) (hd : decode mb.2.1 pc = .ok (.iaload, 1)) (kk : AW X V mb.2.2.1 T M cl sl Q (pc + 1) als (.int (nLeast j) :: st)) : AW X V mb.2.2.1 T M cl sl Q pc als (.int i :: .retAddr 1 :: st) := by
  intro H locs ls hH hS hl
  subst e
  obtain ⟨cell, a1, a2, a3, a4, a5⟩ := tab_ld C.2.2.2.2.2.1.2.2.2.2.1.2 hS hj
  exact W.iald (v := .int (nLeast j)) C.1 C.2.1 a1 a2 a3 a4 a5 rfl rfl hd (kk H locs ls hH hS hl)
theorem ar_iald2 (C : Cx X V mb d) {j : Nat} {i : Int32} (e : i = nI j) (hj : j < 7) (hd : decode mb.2.1 pc = .ok (.iaload, 1)) (kk : AW X V mb.2.2.1 T M cl sl Q (pc + 1) als (.int (nMost j) :: st)) : AW X V mb.2.2.1 T M cl sl Q pc als (.int i :: .retAddr 2 :: st) := by
  intro H locs ls hH hS hl
  subst e
  obtain ⟨cell, a1, a2, a3, a4, a5⟩ := tab_ld C.2.2.2.2.2.1.2.2.2.2.2.2 hS hj
  exact W.iald (v := .int (nMost j)) C.1 C.2.1 a1 a2 a3 a4 a5 rfl rfl hd (kk H locs ls hH hS hl)

end ROWS
/-! CONTRACTS: 'from these arguments, in this world, the method returns, and post holds' -/
def rmd (d mc ms : Nat) : Room := { frames := d, cells := mc, slots := ms, locals := 34 * d }
def PcV (V : Vx) (ar : List Value) (T : Tt) (M : Mm) : Array Value → State → Prop := fun v U => v = (tvs V ar).toArray ∧ Hp V T M U.heap ∧ Ks V U
def QcV (V : Vx) (post : Option Value → Tt → Mm → Prop) : Array Value → State → Outcome → State → Prop := fun _ st oc t => (∃ (r : Option Value) (T' : Tt) (M' : Mm), oc = .returned (r.map (tv V)) ∧ post r T' M' ∧ Hp V T' M' t.heap) ∧ va_F (AV V) st t
def wsm (mb : MB) : List Cond := Cond.code mb.1 mb.2.1 mb.2.2.1 mb.2.2.2 :: wA
def AM (mb : MB) (d : Nat) (ar : List Value) (T : Tt) (M : Mm) (post : Option Value → Tt → Mm → Prop) (mc ms : Nat) : Prop := ∀ (l : Launch) (V : Vx), Met l mb.1 (wsm mb) (rmd d mc ms) (PcV V ar T M) (QcV V post) mc ms (AV V)
abbrev QM (X : Ctx) (V : Vx) (post : Option Value → Tt → Mm → Prop) (mc ms : Nat) : State → Prop := MQ (cB X) (QcV V post) (cA X) (cS X) mc ms (AV V)
theorem lg_len (V : Vx) : ∀ ar : List Value, (lg_sl (tvs V ar)).length = (lg_sl ar).length
  | [] => rfl
  | v :: ar => by
    have h := lg_len V ar
    simp only [tvs, lg_sl, List.map_cons, List.flatMap_cons, List.length_append, tv_cat] at h ⊢
    rw [h]
    split <;> rfl
theorem lv_args_tv (V : Vx) : ∀ (ar : List Value) (i : Nat), lv_args i (tvs V ar) = tvl V (lv_args i ar)
  | [], _ => rfl
  | v :: ar, i => by
    show (i, tv V v) :: lv_args (if (tv V v).category = 2 then i + 2 else i + 1) (tvs V ar) = (i, tv V v) :: tvl V (lv_args (if v.category = 2 then i + 2 else i + 1) ar)
    rw [tv_cat, lv_args_tv V ar]
theorem AM_of {mb : MB} {d : Nat} {ar : List Value} {T : Tt} {M : Mm} {post : Option Value → Tt → Mm → Prop} {mc ms : Nat} (hy : plainName mb.1.cls = true) (hlen : (lg_sl ar).length ≤ mb.2.2.1)
    (body : ∀ (X : Ctx) (V : Vx), Cx X V mb d → (cR X).cells = mc → (cR X).slots = ms → AW X V mb.2.2.1 T M 0 0 (QM X V post mc ms) 0 (lv_args 0 ar) []) : AM mb d ar T M post mc ms := by
  intro l V
  refine Met.ofW (cc := mb.2.1) (maxL := mb.2.2.1) (ret := mb.2.2.2) hy rfl ?_
  intro p e s m args below meth c s₁ B hml hv
  obtain ⟨rfl, hH, hK⟩ := hv
  have hts := atoms_spec (ws := wsm mb) B.pre
  have hown : s.vm.findClass mb.1.cls = some m.cls := findClass_of_methodNamed B.named
  have hin : meth.name = mb.1.name := (name_of_methodNamed B.named B.method).1
  have C : Cx (p, l, e, rmd d mc ms, s, m, (tvs V ar).toArray, below, meth, c) V mb d := ⟨B.exec, B.bytes, hml, hown, fun w hw => hts w (List.mem_cons_of_mem _ hw), hK, B.returns, B.notSynchronized, hin, Nat.le_refl _, Nat.le_refl _⟩
  have hl := lv_entry (tvs V ar) (n := mb.2.2.1) (by rw [lg_len]; exact hlen)
  rw [lv_args_tv] at hl
  rw [lg_entry_eq]
  exact body _ V C rfl rfl s.heap [] _ hH va_S.rf hl
section ROWS2
variable {X : Ctx} {V : Vx} {mb : MB} {d : Nat} {T : Tt} {M : Mm} {cl sl : Nat} {Q : State → Prop} {pc : Nat} {als als' : List (Nat × Value)} {st : List Value} {post : Option Value → Tt → Mm → Prop}
theorem QcV_i {r : Option Value} {H : Heap} {locs : List Loc} {t : State} (hp : post r T M) (hH : Hp V T M H) (hS : va_S (AV V) (cS X).heap H locs) (ht : t.heap = H) : QcV V post (cA X) (cS X) (.returned (r.map (tv V))) t := ⟨⟨r, T, M, rfl, hp, by rw [ht]; exact hH⟩, hS.F ht⟩
theorem ar_ireturn (C : Cx X V mb d) (hr : mb.2.2.2 = some .int) {v : Int32} (hd : decode mb.2.1 pc = .ok (.ireturn, 1)) (hp : post (some (.int v)) T M) : AW X V mb.2.2.1 T M cl sl (QM X V post cl sl) pc als [.int v] := fun _ _ _ hH hS _ =>
  W.iret C.1 C.2.1 (C.2.2.2.2.2.2.1.trans hr) (fun t ht _ => QcV_i (X := X) (r := some (.int v)) hp hH hS ht) hS.2.2 hd C.2.2.2.2.2.2.2.1
theorem ar_zreturn (C : Cx X V mb d) (hr : mb.2.2.2 = some .boolean) {v : Int32} (hn : narrow .boolean (.int v) = .int v) (hd : decode mb.2.1 pc = .ok (.ireturn, 1)) (hp : post (some (.int v)) T M) : AW X V mb.2.2.1 T M cl sl (QM X V post cl sl) pc als [.int v] := fun _ _ _ hH hS _ =>
  W.zret C.1 C.2.1 (C.2.2.2.2.2.2.1.trans hr) hn (fun t ht _ => QcV_i (X := X) (r := some (.int v)) hp hH hS ht) hS.2.2 hd C.2.2.2.2.2.2.2.1
theorem ar_lreturn (C : Cx X V mb d) (hr : mb.2.2.2 = some .long) {v : Int64} (hd : decode mb.2.1 pc = .ok (.lreturn, 1)) (hp : post (some (.long v)) T M) : AW X V mb.2.2.1 T M cl sl (QM X V post cl sl) pc als [.long v] := fun _ _ _ hH hS _ =>
  W.lret C.1 C.2.1 (C.2.2.2.2.2.2.1.trans hr) (fun t ht _ => QcV_i (X := X) (r := some (.long v)) hp hH hS ht) hS.2.2 hd C.2.2.2.2.2.2.2.1
theorem ar_return (C : Cx X V mb d) (hr : mb.2.2.2 = none) (hd : decode mb.2.1 pc = .ok (.return_, 1)) (hp : post none T M) : AW X V mb.2.2.1 T M cl sl (QM X V post cl sl) pc als [] := fun _ _ _ hH hS _ =>
  W.vret C.1 C.2.1 (C.2.2.2.2.2.2.1.trans hr) (fun t ht _ => QcV_i (X := X) (r := none) hp hH hS ht) hS.2.2 hd C.2.2.2.2.2.2.2.1
theorem PcV_blind (ar : List Value) : FrameBlind (PcV V ar T M) := fun a U g mk h => ⟨h.1, h.2.1, Ks_calling g mk a h.2.2⟩
theorem PcV_at (C : Cx X V mb d) {ar : List Value} {H : Heap} {locs : List Loc} (hH : Hp V T M H) (hS : va_S (AV V) (cS X).heap H locs) : ∀ U : State, U.heap = H → (cS X).WarmedH U.vm → PcV V ar T M (tvs V ar).toArray U := fun _ hU hW => ⟨rfl, by rw [hU]; exact hH, Ks_to C.2.2.2.2.2.1 hU hS hW⟩
/-- behind a call -/
theorem run_cont {H : Heap} {locs : List Loc} {ls : Array Slot} {st0 : List Value} {a : Array Value} {mc ms : Nat} (hr : va_Run (cP X) (cL X) (cE X) (cR X) (cS X) (cM X) (cA X) (cB X) (cT X) (cC X) H locs cl sl mc ms (F0 (cM X) pc ls st0) (tvs V st) (QcV V post a) (AV V)) (hS : va_S (AV V) (cS X).heap H locs) {nL : Nat} (hl : lv_has ls nL (tvl V als))
    (kk : ∀ (r : Option Value) (T' : Tt) (M' : Mm), post r T' M' → AW X V nL T' M' (cl + mc) (sl + ms) Q (pc + 3) als (r.toList ++ st)) : WX X H locs cl sl Q (F0 (cM X) pc ls st0) := by
  intro U hU Y
  obtain ⟨v, st₀, t, U', L, h0, Y', hL, e1, e2, ⟨⟨r, T', M', hv, hp, hb⟩, hz, hk⟩, stp⟩ := hr U hU Y
  cases hv
  rw [h0] at hz hk
  have hb' : Hp V T' M' U'.heap := by rw [e1]; exact hb
  obtain ⟨t2, a1, b1⟩ := kk r T' M' hp U'.heap (locs ++ L) ls hb'
    ⟨Nat.le_trans hS.1 (by rw [e1]; exact hz), fun q h1 h2 => by rw [e1, hk q (Nat.lt_of_lt_of_le h1 hS.1) h2]; exact hS.2.1 q h1 h2, fun q hq => by
      rcases List.mem_append.mp hq with h | h
      · exact hS.2.2 q h
      · exact hL q h⟩ hl U' rfl Y'
  refine ⟨t2, stp t2 ?_, b1⟩
  have e3 : tvs V (r.toList ++ st) = (r.map (tv V)).toList ++ tvs V st := by cases r <;> rfl
  rw [e3] at a1
  exact a1
/-- a method by its pool number -/
def LK (own : String) (idx : Nat) (b : MB) (n : Nat) : Prop := (Cond.methodLink own idx b.1 ∈ wA ∨ ∃ host, Cond.methodLinkNest own idx b.1 host ∈ wN) ∧ Cond.initialized b.1.cls ∈ wA ∧ Cond.code b.1 b.2.1 b.2.2.1 b.2.2.2 ∈ wA ∧ (b.1.cls ≠ "java/lang/invoke/MethodHandle" ∧ b.1.cls ≠ "java/lang/invoke/VarHandle" ∧ (parseMethodDescriptor b.1.desc).map (fun d => d.parameters.length) = some n) ∧ b.2.2.1 ≤ 15
def SL (own : String) (idx : Nat) (b : MB) (n : Nat) : Prop := LK own idx b n ∧ Cond.static b.1 ∈ wA
def VL (own : String) (idx : Nat) (b : MB) (n c : Nat) : Prop := LK own idx b n ∧ Cond.instanceMethod b.1 ∈ wA ∧ Cond.selects b.1.cls b.1 b.1 ∈ wA ∧ c < 13 ∧ clsC c = b.1.cls
def IL (own : String) (idx : Nat) (b : MB) (n : Nat) : Prop := LK own idx b n ∧ Cond.instanceMethod b.1 ∈ wA ∧ b.1.name = "<init>" ∧ b.2.2.2 = none
theorem wsm_good {b : MB} (h : Cond.code b.1 b.2.1 b.2.2.1 b.2.2.2 ∈ wA) : GoodIn wA (wsm b) := fun w hw => by
  rcases List.mem_cons.mp hw with rfl | hw
  · exact wA_good h
  · exact wA_good hw
theorem room_ok (C : Cx X V mb d) {d' nL mc ms : Nat} (h : d' + 1 ≤ d) (hn : nL ≤ 15) : (rmd d' mc ms).frames + 1 ≤ (cR X).frames ∧ 8 + (nL + 11) + (rmd d' mc ms).locals ≤ (cR X).locals := by
  have h1 := C.2.2.2.2.2.2.2.2.2.1
  have h2 := C.2.2.2.2.2.2.2.2.2.2
  show d' + 1 ≤ _ ∧ 8 + (nL + 11) + 34 * d' ≤ _
  omega
theorem tvs_app (V : Vx) (ar st : List Value) : tvs V (ar.reverse ++ st) = (tvs V ar).reverse ++ tvs V st := by simp [tvs]
theorem tvs_cats (V : Vx) (st : List Value) : ((tvs V st).map fun v => v.category).sum = (st.map fun v => v.category).sum := by
  induction st with
  | nil => rfl
  | cons v st ih => simp only [tvs, List.map_cons, List.sum_cons, tv_cat] at ih ⊢; rw [ih]
theorem cfix (C : Cx X V mb d) : CallFix (cP X) (cM X) (cC X) mb.2.1 mb.2.2.1 (cS X) (cA X) wA mb.1.cls := ⟨C.1, C.2.1, C.2.2.1, C.2.2.2.1, C.2.2.2.2.1⟩
theorem ar_callS (C : Cx X V mb d) {idx n d' : Nat} {b : MB} {ar : List Value} {mc ms : Nat} {st0 : List Value} (L : SL mb.1.cls idx b n) (hM : AM b d' ar T M post mc ms) (hdd : d' + 1 ≤ d) (hn : ar.length = n) (hst : (st.map fun v => v.category).sum ≤ 8) (hs0 : st0 = ar.reverse ++ st) (hroom : cl + mc ≤ (cR X).cells ∧ sl + ms ≤ (cR X).slots) (hd : decode mb.2.1 pc = .ok (.invokestatic idx, 3))
    (kk : ∀ (r : Option Value) (T' : Tt) (M' : Mm), post r T' M' → AW X V mb.2.2.1 T' M' (cl + mc) (sl + ms) Q (pc + 3) als (r.toList ++ st)) : AW X V mb.2.2.1 T M cl sl Q pc als st0 := by
  intro H locs ls hH hS hl
  obtain ⟨⟨hlk, hini, hcode, hnm, h15⟩, hstat⟩ := L
  subst hs0
  have hW : 2 * (F0 (cM X) pc ls (tvs V (ar.reverse ++ st))).monitorRoom + ((tvs V st).map fun v => v.category).sum ≤ 8 := lv_room (by rw [tvs_cats]; exact hst)
  rcases hlk with hlk | ⟨host, hlk⟩
  · exact run_cont (va_runS (As := tvs V ar) (rest := tvs V st) (cfix C) (hM (cL X) V) ⟨callB_of n C.2.2.2.2.1 (wsm_good hcode) rfl rfl rfl (C.2.2.2.2.1 _ hini) (C.2.2.2.2.1 _ hlk) hnm (room_ok C hdd h15), C.2.2.2.2.1 _ hstat⟩ ⟨PcV_blind ar, PcV_at C hH hS⟩ rfl (by simpa [tvs] using hn) hl.1 (tvs_app V ar st) hW hd hroom) hS hl kk
  · exact run_cont (va_runSN (As := tvs V ar) (rest := tvs V st) (cfix C) (hM (cL X) V) ⟨va_cnB n C.2.2.2.2.1 (wsm_good hcode) rfl rfl rfl (C.2.2.2.2.2.1.2.1 _ hlk) (C.2.2.2.2.1 _ hini) hnm (room_ok C hdd h15), C.2.2.2.2.1 _ hstat, trivial⟩ ⟨PcV_blind ar, PcV_at C hH hS⟩ rfl (by simpa [tvs] using hn) hl.1 (tvs_app V ar st) hW hd hroom) hS hl kk
theorem ar_callV (C : Cx X V mb d) {idx n d' c k kn : Nat} {b : MB} {ar : List Value} {mc ms : Nat} {st0 : List Value} (L : VL mb.1.cls idx b n c) (K : KD T k c kn) (hM : AM b d' (.ref k :: ar) T M post mc ms) (hdd : d' + 1 ≤ d) (hn : ar.length = n) (hst : (st.map fun v => v.category).sum ≤ 8) (hs0 : st0 = ar.reverse ++ .ref k :: st) (hroom : cl + mc ≤ (cR X).cells ∧ sl + ms ≤ (cR X).slots) (hd : decode mb.2.1 pc = .ok (.invokevirtual idx, 3))
    (kk : ∀ (r : Option Value) (T' : Tt) (M' : Mm), post r T' M' → AW X V mb.2.2.1 T' M' (cl + mc) (sl + ms) Q (pc + 3) als (r.toList ++ st)) : AW X V mb.2.2.1 T M cl sl Q pc als st0 := by
  intro H locs ls hH hS hl
  obtain ⟨⟨hlk, hini, hcode, hnm, h15⟩, hinst, hsel, h13, hcls⟩ := L
  subst hs0
  have hW : 2 * (F0 (cM X) pc ls (tvs V (ar.reverse ++ .ref k :: st))).monitorRoom + ((tvs V st).map fun v => v.category).sum ≤ 8 := lv_room (by rw [tvs_cats]; exact hst)
  have he := wsW_get (V := V) (M := M) K.1
  rw [cell_o K.2 h13] at he
  have hrec := va_recv C.2.2.2.2.2.1.1 hH.1 (cls_ok c h13) he
  rw [hcls] at hrec
  have happ : tvs V (ar.reverse ++ .ref k :: st) = (tvs V ar).reverse ++ .ref (V.2.2.1 + k) :: tvs V st := tvs_app V ar (.ref k :: st)
  rcases hlk with hlk | ⟨host, hlk⟩
  · exact run_cont (va_runV (As := tvs V ar) (rest := tvs V st) (cfix C) (hM (cL X) V) ⟨callB_of n C.2.2.2.2.1 (wsm_good hcode) rfl rfl rfl (C.2.2.2.2.1 _ hini) (C.2.2.2.2.1 _ hlk) hnm (room_ok C hdd h15), C.2.2.2.2.1 _ hinst, C.2.2.2.2.1 _ hsel⟩ ⟨PcV_blind _, hrec, PcV_at C hH hS⟩ rfl (by simpa [tvs] using hn) hl.1 happ hW hd hroom) hS hl kk
  · exact run_cont (va_runVN (As := tvs V ar) (rest := tvs V st) (cfix C) (hM (cL X) V) ⟨va_cnB n C.2.2.2.2.1 (wsm_good hcode) rfl rfl rfl (C.2.2.2.2.2.1.2.1 _ hlk) (C.2.2.2.2.1 _ hini) hnm (room_ok C hdd h15), C.2.2.2.2.1 _ hinst, C.2.2.2.2.1 _ hsel⟩ ⟨PcV_blind _, hrec, PcV_at C hH hS⟩ rfl (by simpa [tvs] using hn) hl.1 happ hW hd hroom) hS hl kk
end ROWS2

