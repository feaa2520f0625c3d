/-! THE WORDS: those that every method may use, and the nest mates' -/
def wA : List Cond := lw_tbl.filter goodWord
theorem wA_of {w : Cond} (h : w ∈ lw_tbl) (g : goodWord w = true) : w ∈ wA := List.mem_filter.mpr ⟨h, g⟩
theorem wA_t {w : Cond} (i : Nat) (h : tables_1[i]? = some w) (g : goodWord w = true) : w ∈ wA := wA_of (List.mem_append_right _ (List.mem_of_getElem? h)) g
theorem wA_p {w : Cond} (i : Nat) (h : (k2_sels lw_privs)[i]? = some w) (g : goodWord w = true) : w ∈ wA := wA_of (List.mem_append_left _ (List.mem_of_getElem? h)) g
theorem wA_good {w : Cond} (h : w ∈ wA) : w ∈ wA ∧ ((w.onTables && w.keeps) = true ∨ ∃ ty, w = .arrayClass ty) := ⟨h, good_of_word (List.mem_filter.mp h).2⟩
def isNest : Cond → Bool
  | .fieldLinkNest .. => true
  | .methodLinkNest .. => true
  | _ => false
def wN : List Cond := tables_1.filter isNest
theorem wN_t {w : Cond} (i : Nat) (h : tables_1[i]? = some w) (g : isNest w = true) : w ∈ wN := List.mem_filter.mpr ⟨List.mem_of_getElem? h, g⟩
theorem wN_warm {w : Cond} {s U : State} (h : w ∈ wN) (hW : s.WarmedH U.vm) (hZ : va_Nw w s) : va_Nw w U := by
  have g := (List.mem_filter.mp h).2
  cases w <;> first | exact va_Nw.warmF hW hZ | exact va_Nw.warmM hW hZ | cases g
theorem wN_same {w : Cond} {s U : State} (h : w ∈ wN) (hv : s.vm = U.vm) (hZ : va_Nw w s) : va_Nw w U := by
  have g := (List.mem_filter.mp h).2
  cases w <;> first | exact va_Nw.same rfl hv hZ | cases g
/-! THE WORLD: cells by number, k at address base + k. V: classes' numbers and slots, array classes, base, the outer arrays' addresses. T: how many cells, what each is, the references. M: the numbers -/
abbrev Vx : Type := va_G × (Nat → ClassId) × Nat × (Nat → Nat)
abbrev Tt : Type := Nat × (Nat → Nat × Nat) × (Nat → Nat → Option Nat)
abbrev Mm : Type := (Nat → Nat → Int32) × (Nat → Nat → Int64)
def tyc : Nat → Nat → FieldType := fun c => match c with
  | 0 => tyX0 | 1 => tyX1 | 2 => tyX2 | 3 => tyX3 | 4 => tyX4 | 5 => tyX5 | 6 => tyX6 | 7 => tyX7 | 8 => tyX8 | 9 => tyX9 | 10 => tyX10 | 11 => tyX11 | _ => tyX12
def nfc : Nat → Nat := fun c => match c with
  | 0 => 5 | 1 => 2 | 2 => 6 | 3 => 3 | 4 => 3 | 5 => 2 | 6 => 3 | 7 => 2 | 8 => 4 | 9 => 3 | 10 => 3 | 11 => 13 | _ => 29
def clsC : Nat → String := fun c => match c with
  | 0 => RX0 | 1 => RX1 | 2 => RX2 | 3 => RX3 | 4 => RX4 | 5 => RX5 | 6 => RX6 | 7 => RX7 | 8 => RX8 | 9 => RX9 | 10 => RX10 | 11 => RX11 | _ => RX12
def clsF : Nat → u_T := fun c => match c with
  | 0 => TX0 | 1 => TX1 | 2 => TX2 | 3 => TX3 | 4 => TX4 | 5 => TX5 | 6 => TX6 | 7 => TX7 | 8 => TX8 | 9 => TX9 | 10 => TX10 | 11 => TX11 | _ => TX12
def tv (V : Vx) (v : Value) : Value := match v with
  | .ref k => .ref (V.2.2.1 + k)
  | .retAddr n => .ref (V.2.2.2 n)
  | w => w
def tvs (V : Vx) (st : List Value) : List Value := st.map (tv V)
def tvl (V : Vx) (als : List (Nat × Value)) : List (Nat × Value) := als.map (fun q => (q.1, tv V q.2))
theorem tv_cat (V : Vx) (v : Value) : (tv V v).category = v.category := by cases v <;> rfl
def fv (V : Vx) (T : Tt) (M : Mm) (k c j : Nat) : Value := match tyc c j with
  | .int => .int (M.1 k j)
  | .long => .long (M.2 k j)
  | _ => va_rf ((T.2.2 k j).map (V.2.2.1 + ·))
def cellE (V : Vx) (T : Tt) (M : Mm) (k : Nat) : va_E :=
  if (T.2.1 k).1 < 13 then .inr ((T.2.1 k).1, (List.range (nfc (T.2.1 k).1)).map (fv V T M k (T.2.1 k).1))
  else if (T.2.1 k).1 < 22 then .inl (V.2.1 ((T.2.1 k).1 - 20), (T.2.1 k).2, .inl (M.1 k))
  else .inl (V.2.1 ((T.2.1 k).1 - 20), (T.2.1 k).2, .inr (.inr (.inr (.inr (fun j => (T.2.2 k j).map (V.2.2.1 + ·))))))
def wsW (V : Vx) (T : Tt) (M : Mm) : va_W := (List.range T.1).map (fun k => (V.2.2.1 + k, cellE V T M k))
def AV (V : Vx) : Nat → Prop := fun q => V.2.2.1 ≤ q
def tysV (V : Vx) : List (ClassId × FieldType) := [(V.2.1 0, .int), (V.2.1 1, .boolean), (V.2.1 2, .object RX6), (V.2.1 3, .object RX9), (V.2.1 4, .object RX10), (V.2.1 5, .object RX8)]
def Hp (V : Vx) (T : Tt) (M : Mm) (H : Heap) : Prop := va_P V.1 vwCl (wsW V T M) H ∧ (T.1 < 113 → H.size = V.2.2.1 + T.1)
theorem wsW_get {V : Vx} {T : Tt} {M : Mm} {k : Nat} (h : k < T.1) : (wsW V T M)[k]? = some (V.2.2.1 + k, cellE V T M k) := by simp [wsW, h]
theorem wsW_at {V : Vx} {T : Tt} {M : Mm} {k : Nat} {q : Nat × va_E} (h : (wsW V T M)[k]? = some q) : k < T.1 ∧ q.1 = V.2.2.1 + k := by
  have hl : k < (wsW V T M).length := (List.getElem?_eq_some_iff.mp h).1
  have hk : k < T.1 := by simpa [wsW] using hl
  rw [wsW_get hk] at h
  cases h
  exact ⟨hk, rfl⟩
theorem wsW_D (V : Vx) (T : Tt) (M : Mm) : va_D (AV V) (wsW V T M) := by
  refine ⟨fun i j x y hi hj hxy => ?_, fun k q hk => ?_⟩
  · have h1 := (wsW_at hi).2
    have h2 := (wsW_at hj).2
    omega
  · rw [(wsW_at hk).2]
    exact Nat.le_add_right _ _
theorem wsW_set {V : Vx} {T T' : Tt} {M M' : Mm} {k : Nat} {E : va_E} (h : k < T.1) (h1 : T'.1 = T.1) (h2 : cellE V T' M' k = E) (h3 : ∀ i, i ≠ k → cellE V T' M' i = cellE V T M i) : (wsW V T M).set k (V.2.2.1 + k, E) = wsW V T' M' := by
  apply List.ext_getElem?
  intro i
  by_cases hi : i < T.1
  · rw [wsW_get (show i < T'.1 by omega)]
    by_cases hk : i = k
    · subst hk
      rw [List.getElem?_set_self (by simpa [wsW] using hi), h2]
    · rw [List.getElem?_set_ne (Ne.symm hk), wsW_get hi, h3 i hk]
  · rw [List.getElem?_eq_none (by simp [wsW]; omega), List.getElem?_eq_none (by simp [wsW]; omega)]
theorem cell_o {V : Vx} {T : Tt} {M : Mm} {k c n : Nat} (hc : T.2.1 k = (c, n)) (h : c < 13) : cellE V T M k = .inr (c, (List.range (nfc c)).map (fv V T M k c)) := by simp [cellE, hc, h]
theorem cell_i {V : Vx} {T : Tt} {M : Mm} {k n : Nat} (hc : T.2.1 k = (20, n)) : cellE V T M k = .inl (V.2.1 0, n, .inl (M.1 k)) := by simp [cellE, hc]
theorem cell_z {V : Vx} {T : Tt} {M : Mm} {k n : Nat} (hc : T.2.1 k = (21, n)) : cellE V T M k = .inl (V.2.1 1, n, .inl (M.1 k)) := by simp [cellE, hc]
theorem cell_r {V : Vx} {T : Tt} {M : Mm} {k c n : Nat} (hc : T.2.1 k = (c, n)) (h : 22 ≤ c) : cellE V T M k = .inl (V.2.1 (c - 20), n, .inr (.inr (.inr (.inr (fun j => (T.2.2 k j).map (V.2.2.1 + ·)))))) := by
  simp [cellE, hc, show ¬ c < 13 by omega, show ¬ c < 22 by omega]
def wi (M : Mm) (k j : Nat) (v : Int32) : Mm := (fun a b => if a = k ∧ b = j then v else M.1 a b, M.2)
def wl (M : Mm) (k j : Nat) (v : Int64) : Mm := (M.1, fun a b => if a = k ∧ b = j then v else M.2 a b)
def wr (T : Tt) (k j : Nat) (v : Option Nat) : Tt := (T.1, T.2.1, fun a b => if a = k ∧ b = j then v else T.2.2 a b)
theorem wi_ne {M : Mm} {k j i b : Nat} {v : Int32} (h : i ≠ k) : (wi M k j v).1 i b = M.1 i b := by simp [wi, h]
theorem cellE_wi {V : Vx} {T : Tt} {M : Mm} {k j : Nat} {v : Int32} : ∀ i, i ≠ k → cellE V T (wi M k j v) i = cellE V T M i := by
  intro i hi
  have h1 : (wi M k j v).1 i = M.1 i := by funext b; exact wi_ne hi
  have h2 : ∀ c, fv V T (wi M k j v) i c = fv V T M i c := by intro c; funext b; simp only [fv, h1]; rfl
  simp only [cellE, h1, h2]
theorem cellE_wl {V : Vx} {T : Tt} {M : Mm} {k j : Nat} {v : Int64} : ∀ i, i ≠ k → cellE V T (wl M k j v) i = cellE V T M i := by
  intro i hi
  have h1 : (wl M k j v).2 i = M.2 i := by funext b; simp [wl, hi]
  have h2 : ∀ c, fv V T (wl M k j v) i c = fv V T M i c := by intro c; funext b; simp only [fv, h1]; rfl
  simp only [cellE, h2]
  rfl
theorem cellE_wr {V : Vx} {T : Tt} {M : Mm} {k j : Nat} {v : Option Nat} : ∀ i, i ≠ k → cellE V (wr T k j v) M i = cellE V T M i := by
  intro i hi
  have h1 : (wr T k j v).2.2 i = T.2.2 i := by funext b; simp [wr, hi]
  have h2 : ∀ c, fv V (wr T k j v) M i c = fv V T M i c := by intro c; funext b; simp only [fv, h1]
  simp only [cellE, h2, h1]
  rfl
/-- a field's list, one place changed -/
theorem fs_set {f g : Nat → Value} {n j : Nat} {w : Value} (h1 : g j = w) (h2 : ∀ i, i ≠ j → g i = f i) : ((List.range n).map f).set j w = (List.range n).map g := by
  apply List.ext_getElem?
  intro i
  by_cases hi : i < n
  · by_cases hj : i = j
    · subst hj
      rw [List.getElem?_set_self (by simpa using hi)]
      simp [hi, h1]
    · rw [List.getElem?_set_ne (Ne.symm hj)]
      simp [hi, h2 i hj]
  · rw [List.getElem?_eq_none (by simp; omega), List.getElem?_eq_none (by simp; omega)]
/-! THE CELLS behind the two constructors: LensTable is cell 0, LensTableModel cell 96 -/
def T0ty (k : Nat) : Nat × Nat :=
  if k < 22 then ([(11, 0), (22, 8), (4, 0), (20, 7), (20, 17), (20, 101), (23, 24), (2, 0), (24, 8), (1, 0), (5, 0), (20, 24), (5, 0), (20, 24), (3, 0), (20, 9), (20, 9), (25, 2), (7, 0), (8, 0), (0, 0), (20, 16)] : List (Nat × Nat)).getD k (99, 0)
  else if k < 38 then (if k % 2 = 0 then (6, 0) else (20, 80))
  else if k < 62 then (9, 0)
  else if k < 94 then (if k % 4 = 2 then (10, 0) else if k % 4 = 3 then (21, 24) else (20, 24))
  else if k < 96 then (8, 0)
  else ([(12, 0), (20, 8), (20, 8), (20, 640), (20, 7), (20, 17), (20, 24), (20, 24), (20, 24), (21, 192), (20, 192), (20, 192), (20, 24), (20, 9), (20, 9), (20, 8), (20, 16)] : List (Nat × Nat)).getD (k - 96) (99, 0)
def T0r (k j : Nat) : Option Nat :=
  if k = 0 then ([some 1, some 2, some 6, none, some 7, some 8, some 9, some 14, some 17, some 18, some 19, some 20] : List (Option Nat)).getD j none
  else if k = 1 then (if j < 8 then some (22 + 2 * j) else none)
  else if k = 2 then (if j < 3 then some (3 + j) else none)
  else if k = 6 then (if j < 24 then some (38 + j) else none)
  else if k = 8 then (if j < 8 then some (62 + 4 * j) else none)
  else if k = 9 then (if j < 2 then some (10 + 2 * j) else none)
  else if k = 10 then (if j = 0 then some 11 else none)
  else if k = 12 then (if j = 0 then some 13 else none)
  else if k = 14 then (if j < 2 then some (15 + j) else none)
  else if k = 17 then (if j < 2 then some (94 + j) else none)
  else if k = 20 then (if j = 0 then some 21 else none)
  else if k < 22 then none
  else if k < 38 then (if k % 2 = 0 ∧ j = 0 then some (k + 1) else none)
  else if k < 62 then none
  else if k < 94 then (if k % 4 = 2 ∧ j < 3 then some (k + 1 + j) else none)
  else if k = 96 then ([none, none, some 97, some 98, some 99, some 100, some 101, none, some 102, some 103, some 104, some 105, some 106, some 107, none, none, none, none, some 108, some 109, some 110, none, some 111, none, none, none, none, some 112] : List (Option Nat)).getD j none
  else none
def T0 : Tt := (113, T0ty, T0r)
theorem T0_small : ∀ k, k < 113 → (T0ty k).2 < 1000 := by decide +kernel
