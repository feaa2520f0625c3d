/-! THE GROWING WORLD: rows that make cells, and stores while the world grows -/
def gr (T : Tt) : Tt := (T.1 + 1, T.2.1, T.2.2)
/-- what isn't made yet is blank -/
def Fr (T : Tt) (M : Mm) : Prop := T.2.1 = T0ty ∧ ∀ c j, T.1 ≤ c → T.2.2 c j = none ∧ M.1 c j = 0 ∧ M.2 c j = 0
theorem Fr_gr {T : Tt} {M : Mm} (h : Fr T M) : Fr (gr T) M := ⟨h.1, fun c j hc => h.2 c j (Nat.le_of_succ_le hc)⟩
theorem Fr_wr {T : Tt} {M : Mm} {k j : Nat} {v : Option Nat} (h : Fr T M) (hk : k < T.1) : Fr (wr T k j v) M := ⟨h.1, fun c b hc => by
  have hc : T.1 ≤ c := hc
  refine ⟨(if_neg (fun q => ?_)).trans (h.2 c b hc).1, (h.2 c b hc).2⟩
  omega⟩
theorem Fr_wi {T : Tt} {M : Mm} {k j : Nat} {v : Int32} (h : Fr T M) (hk : k < T.1) : Fr T (wi M k j v) := ⟨h.1, fun c b hc => by
  refine ⟨(h.2 c b hc).1, (if_neg (fun q => ?_)).trans (h.2 c b hc).2.1, (h.2 c b hc).2.2⟩
  omega⟩
def isILR : FieldType → Bool
  | .int => true
  | .long => true
  | .object _ => true
  | .array _ => true
  | _ => false
/-- the cells made and the heap's size go together -/
def Ez (X : Ctx) (V : Vx) (T : Tt) (cl : Nat) : Prop := (cS X).heap.size + cl = V.2.2.1 + T.1
theorem wsW_gr (V : Vx) (T : Tt) (M : Mm) : wsW V (gr T) M = wsW V T M ++ [(V.2.2.1 + T.1, cellE V T M T.1)] := by
  show (List.range (T.1 + 1)).map _ = _
  rw [List.range_succ, List.map_append]
  rfl
theorem wsW_len (V : Vx) (T : Tt) (M : Mm) : (wsW V T M).length = T.1 := by simp [wsW]
section GROW
variable {X : Ctx} {V : Vx} {mb : MB} {d : Nat} {T : Tt} {M : Mm} {cl sl : Nat} {Q : State → Prop} {pc : Nat} {als als' : List (Nat × Value)} {st : List Value} {post : Option Value → Tt → Mm → Prop}
theorem szW {H : Heap} {locs : List Loc} (hb : V.2.2.1 ≤ (cS X).heap.size) (hP : va_P V.1 vwCl (wsW V T M) H) (hS : va_S (AV V) (cS X).heap H locs) (hE : Ez X V T cl) (hX : H.size ≤ (cS X).heap.size + cl) : H.size = V.2.2.1 + T.1 := by
  unfold Ez at hE
  have h1 := hS.1
  rcases Nat.eq_zero_or_pos T.1 with z | z
  · omega
  · have h := (hP (T.1 - 1) _ (wsW_get (by omega))).lt
    have h : V.2.2.1 + (T.1 - 1) < H.size := h
    omega
theorem new_at {H1 : Heap} {q : Nat} {E : va_E} (hP : va_P V.1 vwCl (wsW V T M ++ [(q, E)]) H1) (hD : va_D (AV V) (wsW V T M ++ [(q, E)])) (hE : Ez X V T cl) (hX : H1.size ≤ (cS X).heap.size + (cl + 1)) : q = V.2.2.1 + T.1 ∧ H1.size = V.2.2.1 + T.1 + 1 := by
  unfold Ez at hE
  have e : (wsW V T M ++ [(q, E)])[T.1]? = some (q, E) := by
    rw [List.getElem?_append_right (by rw [wsW_len]; exact Nat.le_refl _), wsW_len, Nat.sub_self]; rfl
  have h1 : q < H1.size := (hP T.1 _ e).lt
  have h2 : V.2.2.1 ≤ q := hD.2 T.1 _ e
  have h3 : ¬ q < V.2.2.1 + T.1 := fun z => by
    have e2 : (wsW V T M ++ [(q, E)])[q - V.2.2.1]? = some (V.2.2.1 + (q - V.2.2.1), cellE V T M (q - V.2.2.1)) := by
      rw [List.getElem?_append_left (by rw [wsW_len]; omega)]
      exact wsW_get (by omega)
    have := hD.1 T.1 (q - V.2.2.1) _ _ e e2 (by show q = V.2.2.1 + (q - V.2.2.1); omega)
    omega
  omega
theorem AVge (C : Cx X V mb d) : ∀ q, (cS X).heap.size ≤ q → AV V q := fun _ h => Nat.le_trans C.2.2.2.2.2.1.2.2.2.1 h
/-- a new object -/
theorem ar_newG (C : Cx X V mb d) (hE : Ez X V T cl) {idx c : Nat} (hc : c < 13) (hin : ∀ w ∈ u_ws (clsC c) (clsF c) (nfc c), w ∈ wA) (w1 : Cond.classLink mb.1.cls idx (clsC c) ∈ wA) (w2 : Cond.instantiable (clsC c) (nfc c) ∈ wA) (w3 : Cond.initialized (clsC c) ∈ wA) (hF : Fr T M) (ht : T0ty T.1 = (c, 0)) (hty : ∀ j, j < nfc c → isILR (tyc c j) = true) (hroom : cl + 1 ≤ (cR X).cells ∧ sl + nfc c ≤ (cR X).slots) (hd : decode mb.2.1 pc = .ok (.new idx, 3))
    (kk : AW X V mb.2.2.1 (gr T) M (cl + 1) (sl + nfc c) Q (pc + 3) als (.ref T.1 :: st)) : AW X V mb.2.2.1 T M cl sl Q pc als st := by
  intro H locs ls hH hS hl
  have hK := C.2.2.2.2.2.1
  have hct : T.2.1 T.1 = (c, 0) := by rw [hF.1]; exact ht
  refine va_new (ci := c) (fs := (List.range (nfc c)).map (fv V T M T.1 c)) C.1 C.2.1 C.2.2.2.2.1 hin (tyc c) (cls_ty c hc) C.2.2.2.1 (C.2.2.2.2.1 _ w1) (C.2.2.2.2.1 _ w2) (C.2.2.2.2.1 _ w3) hK.1 hH.1 (wsW_D V T M) hS (AVge C) (cls_ok c hc) (fun j hj => ?_) hroom.1 hroom.2 hd (fun q H1 hP hD hS1 => ?_)
  · have e : vp_V ((List.range (nfc c)).map (fv V T M T.1 c)) j = fv V T M T.1 c j := by simp [vp_V, List.getD, hj]
    rw [e]
    obtain ⟨f1, f2, f3⟩ := hF.2 T.1 j (Nat.le_refl _)
    have g := hty j hj
    unfold fv
    cases h : tyc c j <;> rw [h] at g <;> first | (simp only [f2, f3, f1]; rfl) | cases g
  · intro U hU Y
    obtain ⟨rfl, hz⟩ := new_at hP hD hE (by rw [← hU]; exact Y.heapSize)
    have hP2 : va_P V.1 vwCl (wsW V (gr T) M) H1 := by rw [wsW_gr, cell_o hct hc]; exact hP
    exact kk H1 locs ls ⟨hP2, fun _ => hz⟩ hS1 hl U hU Y
/-- a new array of ints -/
theorem ar_newi (C : Cx X V mb d) (hE : Ez X V T cl) {N : Nat} (w1 : Cond.arrayClass .int ∈ wA) (hF : Fr T M) (ht : T0ty T.1 = (20, N)) (hN : N < 1000) (hroom : cl + 1 ≤ (cR X).cells ∧ sl + N ≤ (cR X).slots) (hd : decode mb.2.1 pc = .ok (.newarray .int, 2))
    (kk : AW X V mb.2.2.1 (gr T) M (cl + 1) (sl + N) Q (pc + 2) als (.ref T.1 :: st)) : AW X V mb.2.2.1 T M cl sl Q pc als (.int (nI N) :: st) := by
  intro H locs ls hH hS hl
  have hK := C.2.2.2.2.2.1
  have hct : T.2.1 T.1 = (20, N) := by rw [hF.1]; exact ht
  have hM : M.1 T.1 = fun _ => 0 := by funext j; exact (hF.2 T.1 j (Nat.le_refl _)).2.1
  refine va_newa (atype := .int) (ty := .int) C.1 C.2.1 (C.2.2.2.2.1 _ w1) rfl hK.1 hH.1 (wsW_D V T M) hS (AVge C) (N' := N) (a0 := (N, .inl (M.1 T.1))) (fun cA => by rw [vp_cell_i, hM]; rfl) (nI_pos (by omega)) (nI_clamp (by omega)) (by show N * 4 ≤ _; omega) hroom.1 hroom.2 hd (fun q cA H1 hK2 hP hD hS1 => ?_)
  intro U hU Y
  have e1 : (cS X).vm.findClass ("[" ++ FieldType.int.toString) = some cA := (hK2.2 6 (cA, .int) rfl).2
  have e2 : (cS X).vm.findClass ("[" ++ FieldType.int.toString) = some (V.2.1 0) := (hK.1.2 0 (V.2.1 0, .int) rfl).2
  have e3 : cA = V.2.1 0 := Option.some.inj (e1.symm.trans e2)
  rw [e3] at hP hD
  obtain ⟨rfl, hz⟩ := new_at hP hD hE (by rw [← hU]; exact Y.heapSize)
  have hP2 : va_P V.1 vwCl (wsW V (gr T) M) H1 := by rw [wsW_gr, cell_i hct]; exact hP
  exact kk H1 locs ls ⟨hP2, fun _ => hz⟩ hS1 hl U hU Y
/-- a new array of booleans -/
theorem ar_newz (C : Cx X V mb d) (hE : Ez X V T cl) {N : Nat} (w1 : Cond.arrayClass .boolean ∈ wA) (hF : Fr T M) (ht : T0ty T.1 = (21, N)) (hN : N < 1000) (hroom : cl + 1 ≤ (cR X).cells ∧ sl + N ≤ (cR X).slots) (hd : decode mb.2.1 pc = .ok (.newarray .boolean, 2))
    (kk : AW X V mb.2.2.1 (gr T) M (cl + 1) (sl + N) Q (pc + 2) als (.ref T.1 :: st)) : AW X V mb.2.2.1 T M cl sl Q pc als (.int (nI N) :: st) := by
  intro H locs ls hH hS hl
  have hK := C.2.2.2.2.2.1
  have hct : T.2.1 T.1 = (21, N) := by rw [hF.1]; exact ht
  have hM : M.1 T.1 = fun _ => 0 := by funext j; exact (hF.2 T.1 j (Nat.le_refl _)).2.1
  refine va_newa (atype := .boolean) (ty := .boolean) C.1 C.2.1 (C.2.2.2.2.1 _ w1) rfl hK.1 hH.1 (wsW_D V T M) hS (AVge C) (N' := N) (a0 := (N, .inl (M.1 T.1))) (fun cA => by rw [vp_cell_i, hM]; rfl) (nI_pos (by omega)) (nI_clamp (by omega)) (by show N * 1 ≤ _; omega) hroom.1 hroom.2 hd (fun q cA H1 hK2 hP hD hS1 => ?_)
  intro U hU Y
  have e1 : (cS X).vm.findClass ("[" ++ FieldType.boolean.toString) = some cA := (hK2.2 6 (cA, .boolean) rfl).2
  have e2 : (cS X).vm.findClass ("[" ++ FieldType.boolean.toString) = some (V.2.1 1) := (hK.1.2 1 (V.2.1 1, .boolean) rfl).2
  have e3 : cA = V.2.1 1 := Option.some.inj (e1.symm.trans e2)
  rw [e3] at hP hD
  obtain ⟨rfl, hz⟩ := new_at hP hD hE (by rw [← hU]; exact Y.heapSize)
  have hP2 : va_P V.1 vwCl (wsW V (gr T) M) H1 := by rw [wsW_gr, cell_z hct]; exact hP
  exact kk H1 locs ls ⟨hP2, fun _ => hz⟩ hS1 hl U hU Y
/-- a new array of references -/
theorem ar_newq (C : Cx X V mb d) (hE : Ez X V T cl) {idx N t : Nat} {E : String} (hti : (tysV V)[t]? = some (V.2.1 t, .object E)) (h22 : 2 ≤ t) (hao : va_AO E (cS X)) (w1 : Cond.classLink mb.1.cls idx E ∈ wA) (hF : Fr T M) (ht : T0ty T.1 = (t + 20, N)) (hN : N < 1000) (hroom : cl + 1 ≤ (cR X).cells ∧ sl + N ≤ (cR X).slots) (hd : decode mb.2.1 pc = .ok (.anewarray idx, 3))
    (kk : AW X V mb.2.2.1 (gr T) M (cl + 1) (sl + N) Q (pc + 3) als (.ref T.1 :: st)) : AW X V mb.2.2.1 T M cl sl Q pc als (.int (nI N) :: st) := by
  intro H locs ls hH hS hl
  have hK := C.2.2.2.2.2.1
  have hct : T.2.1 T.1 = (t + 20, N) := by rw [hF.1]; exact ht
  have hr : (fun j => (T.2.2 T.1 j).map (V.2.2.1 + ·)) = fun _ => none := by funext j; rw [(hF.2 T.1 j (Nat.le_refl _)).1]; rfl
  refine va_newq C.1 C.2.1 C.2.2.2.1 (C.2.2.2.2.1 _ w1) hao hK.1 hH.1 (wsW_D V T M) hS (AVge C) (N' := N) (nI_pos (by omega)) (nI_clamp (by omega)) (by omega) hroom.1 hroom.2 hd (fun q cA H1 hK2 hP hD hS1 => ?_)
  intro U hU Y
  obtain ⟨-, -, -, -, -, e1⟩ := (hK2.2 6 (cA, .object E) rfl).2
  obtain ⟨-, -, -, -, -, e2⟩ := (hK.1.2 t (V.2.1 t, .object E) hti).2
  have e3 : cA = V.2.1 t := Option.some.inj (e1.symm.trans e2)
  rw [e3] at hP hD
  obtain ⟨rfl, hz⟩ := new_at hP hD hE (by rw [← hU]; exact Y.heapSize)
  have hP2 : va_P V.1 vwCl (wsW V (gr T) M) H1 := by rw [wsW_gr, cell_r hct (by omega), hr, Nat.add_sub_cancel]; exact hP
  exact kk H1 locs ls ⟨hP2, fun _ => hz⟩ hS1 hl U hU Y
/-- a number's field, while the world grows -/
theorem ar_putiG (C : Cx X V mb d) (hE : Ez X V T cl) {idx c j k n : Nat} {v : Int32} (F : FL mb.1.cls idx c j .int false) (K : KD T k c n) (hd : decode mb.2.1 pc = .ok (.putfield idx, 3)) (kk : AW X V mb.2.2.1 T (wi M k j v) cl sl Q (pc + 3) als st) : AW X V mb.2.2.1 T M cl sl Q pc als (.int v :: .ref k :: st) := by
  intro H locs ls hH hS hl
  obtain ⟨h13, hj, hty, hfin, hdecl, hin, hlk⟩ := F
  have he := wsW_get (V := V) (M := M) K.1
  rw [cell_o K.2 h13] at he
  have hpd : parseFieldDescriptor (clsF c j).2.2.1 = some .int := by rw [cls_ty c h13 j hj, hty]
  have hln : j < ((List.range (nfc c)).map (fv V T M k c)).length := by simpa using hj
  have go : ∀ (H1 : Heap) (locs1 : List Loc), va_P V.1 vwCl ((wsW V T M).set k (V.2.2.1 + k, .inr (c, ((List.range (nfc c)).map (fv V T M k c)).set j (.int v)))) H1 → va_S (AV V) (cS X).heap H1 locs1 → WX X H1 locs1 cl sl Q (F0 (cM X) (pc + 3) ls (tvs V st)) := fun H1 locs1 hP hS1 U hU Y => by
    have hp : va_P V.1 vwCl (wsW V T (wi M k j v)) H1 := Hp_set K.1 rfl (by rw [cell_o K.2 h13, fs_wi hty]) cellE_wi hP
    exact kk H1 locs1 ls ⟨hp, fun _ => szW C.2.2.2.2.2.1.2.2.2.1 hp hS1 hE (by rw [← hU]; exact Y.heapSize)⟩ hS1 hl U hU Y
  rcases hlk with hlk | ⟨host, hlk⟩
  · exact va_put C.1 C.2.1 C.2.2.2.2.1 hin (tyc c) (cls_ty c h13) (cls_nm c h13) C.2.2.2.1 C.2.2.2.2.2.1.1 hH.1 (wsW_D V T M) hS k he (cls_ok c h13) j hj (C.2.2.2.2.1 _ hlk) (fun x h => by rw [hdecl] at h; exact h) hfin hpd rfl rfl hln hd (fun H1 locs1 hP _ hS1 => go H1 locs1 hP hS1)
  · exact va_putN C.1 C.2.1 C.2.2.2.2.1 hin (tyc c) (cls_ty c h13) (cls_nm c h13) C.2.2.2.1 C.2.2.2.2.2.1.1 hH.1 (wsW_D V T M) hS k he (cls_ok c h13) j hj (va_Nw.use rfl (C.2.2.2.2.2.1.2.1 _ hlk)) (fun x h => by rw [hdecl] at h; exact h) hfin hpd rfl rfl hln hd (fun H1 locs1 hP _ hS1 => go H1 locs1 hP hS1)
theorem fs_wr {k c j r : Nat} {ty : FieldType} (ht : tyc c j = ty) (hr : isR ty = true) : ((List.range (nfc c)).map (fv V T M k c)).set j (.ref (V.2.2.1 + r)) = (List.range (nfc c)).map (fv V (wr T k j (some r)) M k c) := by
  refine fs_set ?_ (fun i hi => ?_)
  · rw [fv_r ht hr]; simp [wr, va_rf]
  · have e : (wr T k j (some r)).2.2 k i = T.2.2 k i := by simp [wr, hi]
    simp only [fv, e]
theorem fit_r {ty : FieldType} (hr : isR ty = true) (a : Nat) : narrow ty (.ref a) = .ref a ∧ fits ty (.ref a) = true := by
  cases ty <;> first | exact ⟨rfl, rfl⟩ | cases hr
/-- a final field of its own object is set in the constructor: a reference -/
theorem ar_putrG (C : Cx X V mb d) (hE : Ez X V T cl) {idx c j k n r : Nat} {ty : FieldType} (F : FL mb.1.cls idx c j ty true) (hlk : Cond.fieldLink mb.1.cls idx (clsC c) (clsF c j).2.1 (clsF c j).2.2.1 ∈ wA) (hr : isR ty = true) (hnm : mb.1.name = "<init>") (hcl : clsC c = mb.1.cls) (K : KD T k c n) (hd : decode mb.2.1 pc = .ok (.putfield idx, 3)) (kk : AW X V mb.2.2.1 (wr T k j (some r)) M cl sl Q (pc + 3) als st) : AW X V mb.2.2.1 T M cl sl Q pc als (.ref r :: .ref k :: st) := by
  intro H locs ls hH hS hl
  obtain ⟨h13, hj, hty, hfin, hdecl, hin, -⟩ := F
  have he := wsW_get (V := V) (M := M) K.1
  rw [cell_o K.2 h13] at he
  have hpd : parseFieldDescriptor (clsF c j).2.2.1 = some ty := by rw [cls_ty c h13 j hj, hty]
  have hln : j < ((List.range (nfc c)).map (fv V T M k c)).length := by simpa using hj
  have go : ∀ (H1 : Heap) (locs1 : List Loc), va_P V.1 vwCl ((wsW V T M).set k (V.2.2.1 + k, .inr (c, ((List.range (nfc c)).map (fv V T M k c)).set j (.ref (V.2.2.1 + r))))) H1 → va_S (AV V) (cS X).heap H1 locs1 → WX X H1 locs1 cl sl Q (F0 (cM X) (pc + 3) ls (tvs V st)) := fun H1 locs1 hP hS1 U hU Y => by
    have hp : va_P V.1 vwCl (wsW V (wr T k j (some r)) M) H1 := Hp_set (T' := wr T k j (some r)) K.1 rfl (by rw [cell_o (T := wr T k j (some r)) K.2 h13, fs_wr hty hr]) cellE_wr hP
    exact kk H1 locs1 ls ⟨hp, fun _ => szW (T := wr T k j (some r)) C.2.2.2.2.2.1.2.2.2.1 hp hS1 hE (by rw [← hU]; exact Y.heapSize)⟩ hS1 hl U hU Y
  exact va_putF C.1 C.2.1 C.2.2.2.2.1 hin (tyc c) (cls_ty c h13) (cls_nm c h13) C.2.2.2.1 C.2.2.2.2.2.1.1 hH.1 (wsW_D V T M) hS k he (cls_ok c h13) j hj (C.2.2.2.2.1 _ hlk) (fun x h => by rw [hdecl] at h; exact h) hfin (C.2.2.2.2.2.2.2.2.1.trans hnm) (hdecl.trans hcl) hpd (fit_r hr _).1 (fit_r hr _).2 hln hd (fun H1 locs1 hP _ hS1 => go H1 locs1 hP hS1)
/-- an element of an array of ints -/
theorem ar_iastG (C : Cx X V mb d) (hE : Ez X V T cl) {k n j : Nat} {i x : Int32} (K : KD T k 20 n) (e : i = nI j) (hj : j < n) (hn : n < 1000) (hd : decode mb.2.1 pc = .ok (.iastore, 1)) (kk : AW X V mb.2.2.1 T (wi M k j x) cl sl Q (pc + 1) als st) : AW X V mb.2.2.1 T M cl sl Q pc als (.int x :: .int i :: .ref k :: st) := by
  intro H locs ls hH hS hl
  subst e
  have he := wsW_get (V := V) (M := M) K.1
  rw [cell_i K.2] at he
  refine va_iast C.1 C.2.1 C.2.2.2.2.2.1.1 hH.1 (wsW_D V T M) hS k 0 he rfl (vp_in_nI hj (by omega)) hd (fun H1 locs1 hP _ hS1 U hU Y => ?_)
  have hp : va_P V.1 vwCl (wsW V T (wi M k j x)) H1 := Hp_set K.1 rfl (by rw [cell_i K.2, wi_upd, nI_clamp (by omega)]) cellE_wi hP
  exact kk H1 locs1 ls ⟨hp, fun _ => szW C.2.2.2.2.2.1.2.2.2.1 hp hS1 hE (by rw [← hU]; exact Y.heapSize)⟩ hS1 hl U hU Y
/-- an element of an array of references -/
theorem ar_aastG (C : Cx X V mb d) (hE : Ez X V T cl) {k n t j r ci : Nat} {i : Int32} (K : KD T k (t + 20) n) (h22 : 2 ≤ t) (hci : ci < 13) (hti : (tysV V)[t]? = some (V.2.1 t, .object (clsC ci))) (Kr : KD T r ci 0) (e : i = nI j) (hj : j < n) (hn : n < 1000) (hd : decode mb.2.1 pc = .ok (.aastore, 1)) (kk : AW X V mb.2.2.1 (wr T k j (some r)) M cl sl Q (pc + 1) als st) : AW X V mb.2.2.1 T M cl sl Q pc als (.ref r :: .int i :: .ref k :: st) := by
  intro H locs ls hH hS hl
  subst e
  have he := wsW_get (V := V) (M := M) K.1
  rw [cell_r K.2 (by omega), Nat.add_sub_cancel] at he
  have hv := wsW_get (V := V) (M := M) Kr.1
  rw [cell_o Kr.2 hci] at hv
  refine va_astq C.1 C.2.1 C.2.2.2.2.2.1.1 hH.1 (wsW_D V T M) hS k t r ci he hti hv (cls_ok ci hci) (vp_in_nI hj (by omega)) hd (fun H1 locs1 hP _ hS1 U hU Y => ?_)
  have hp : va_P V.1 vwCl (wsW V (wr T k j (some r)) M) H1 := by
    refine Hp_set (T' := wr T k j (some r)) K.1 rfl ?_ cellE_wr hP
    rw [cell_r (T := wr T k j (some r)) K.2 (by omega), Nat.add_sub_cancel, nI_clamp (by omega)]
    congr 7
    funext z
    by_cases q : z = j
    · subst q; simp [wr, va_up]
    · simp [wr, va_up, q]
  exact kk H1 locs1 ls ⟨hp, fun _ => szW (T := wr T k j (some r)) C.2.2.2.2.2.1.2.2.2.1 hp hS1 hE (by rw [← hU]; exact Y.heapSize)⟩ hS1 hl U hU Y
/-- Object's constructor -/
theorem ar_objInit (C : Cx X V mb d) (hd1 : 1 ≤ d) {idx k : Nat} (w1 : Cond.methodLink mb.1.cls idx Lib.objectInit ∈ wA) (w2 : Cond.instanceMethod Lib.objectInit ∈ wA) (w3 : Cond.code Lib.objectInit ⟨#[0xb1]⟩ 1 none ∈ wA) (hst : (st.map fun v => v.category).sum ≤ 8) (hd : decode mb.2.1 pc = .ok (.invokespecial idx, 3)) (kk : AW X V mb.2.2.1 T M cl sl Q (pc + 3) als st) : AW X V mb.2.2.1 T M cl sl Q pc als (.ref k :: st) := by
  intro H locs ls hH hS hl
  have hW : 2 * (F0 (cM X) pc ls (tvs V (.ref k :: st))).monitorRoom + ((tvs V st).map fun v => v.category).sum ≤ 8 := lv_room (by rw [tvs_cats]; exact hst)
  have h1 := C.2.2.2.2.2.2.2.2.2.1
  have h2 := C.2.2.2.2.2.2.2.2.2.2
  exact W.objInit C.1 C.2.1 C.2.2.2.1 (C.2.2.2.2.1 _ w1) (C.2.2.2.2.1 _ w2) (C.2.2.2.2.1 _ w3) rfl (hl.1.trans C.2.2.1.symm) rfl hd (by omega) (Nat.le_trans (Nat.add_le_add_right hW 12) (show 8 + 12 ≤ (cR X).locals by omega)) (kk H locs ls hH hS hl)
/-- a constructor of ours -/
theorem ar_callI (C : Cx X V mb d) {idx n d' k : Nat} {b : MB} {ar : List Value} {mc ms : Nat} {st0 : List Value} (L : IL mb.1.cls idx b n) (hM : AM b d' (.ref k :: ar) T M post mc ms) (hdd : d' + 1 ≤ d) (hn : ar.length = n) (hst : (st.map fun v => v.category).sum ≤ 8) (hs0 : st0 = ar.reverse ++ .ref k :: st) (hroom : cl + mc ≤ (cR X).cells ∧ sl + ms ≤ (cR X).slots) (hd : decode mb.2.1 pc = .ok (.invokespecial idx, 3))
    (kk : ∀ (r : Option Value) (T' : Tt) (M' : Mm), post r T' M' → AW X V mb.2.2.1 T' M' (cl + mc) (sl + ms) Q (pc + 3) als (r.toList ++ st)) : AW X V mb.2.2.1 T M cl sl Q pc als st0 := by
  intro H locs ls hH hS hl
  obtain ⟨⟨hlk, hini, hcode, hnm, h15⟩, hinst, hname, hret⟩ := L
  subst hs0
  have hW : 2 * (F0 (cM X) pc ls (tvs V (ar.reverse ++ .ref k :: st))).monitorRoom + ((tvs V st).map fun v => v.category).sum ≤ 8 := lv_room (by rw [tvs_cats]; exact hst)
  have happ : tvs V (ar.reverse ++ .ref k :: st) = (tvs V ar).reverse ++ .ref (V.2.2.1 + k) :: tvs V st := tvs_app V ar (.ref k :: st)
  have hw : wsm b = Cond.code b.1 b.2.1 b.2.2.1 none :: wA := by rw [wsm, hret]
  rcases hlk with hlk | ⟨host, hlk⟩
  · exact run_cont (va_runI (As := tvs V ar) (rest := tvs V st) (cfix C) (hM (cL X) V) ⟨callB_of n C.2.2.2.2.1 (wsm_good hcode) hw rfl rfl (C.2.2.2.2.1 _ hini) (C.2.2.2.2.1 _ hlk) hnm (room_ok C hdd h15), hname, C.2.2.2.2.1 _ hinst⟩ ⟨PcV_blind _, PcV_at C hH hS⟩ rfl (by simpa [tvs] using hn) hl.1 happ hW hd hroom) hS hl kk
  · exact run_cont (va_runIN (As := tvs V ar) (rest := tvs V st) (cfix C) (hM (cL X) V) ⟨va_cnB n C.2.2.2.2.1 (wsm_good hcode) hw rfl rfl (C.2.2.2.2.2.1.2.1 _ hlk) (C.2.2.2.2.1 _ hini) hnm (room_ok C hdd h15), hname, C.2.2.2.2.1 _ hinst⟩ ⟨PcV_blind _, PcV_at C hH hS⟩ rfl (by simpa [tvs] using hn) hl.1 happ hW hd hroom) hS hl kk
end GROW
/-- a constructor's contract out of a walk -/
theorem AM_ofE {mb : MB} {d : Nat} {ar : List Value} {T : Tt} {M : Mm} {post : Option Value → Tt → Mm → Prop} {mc ms : Nat} (hy : plainName mb.1.cls = true) (hlen : (lg_sl ar).length ≤ mb.2.2.1) (hT : T.1 < 113)
    (body : ∀ (X : Ctx) (V : Vx), Cx X V mb d → (cR X).cells = mc → (cR X).slots = ms → Ez X V T 0 → AW X V mb.2.2.1 T M 0 0 (QM X V post mc ms) 0 (lv_args 0 ar) []) : AM mb d ar T M post mc ms := by
  intro l V
  refine Met.ofW (cc := mb.2.1) (maxL := mb.2.2.1) (ret := mb.2.2.2) hy rfl ?_
  intro p e s m args below meth c s₁ B hml hv
  obtain ⟨rfl, hH, hK⟩ := hv
  have hts := atoms_spec (ws := wsm mb) B.pre
  have hown : s.vm.findClass mb.1.cls = some m.cls := findClass_of_methodNamed B.named
  have hin : meth.name = mb.1.name := (name_of_methodNamed B.named B.method).1
  have C : Cx (p, l, e, rmd d mc ms, s, m, (tvs V ar).toArray, below, meth, c) V mb d := ⟨B.exec, B.bytes, hml, hown, fun w hw => hts w (List.mem_cons_of_mem _ hw), hK, B.returns, B.notSynchronized, hin, Nat.le_refl _, Nat.le_refl _⟩
  have hl := lv_entry (tvs V ar) (n := mb.2.2.1) (by rw [lg_len]; exact hlen)
  rw [lv_args_tv] at hl
  rw [lg_entry_eq]
  exact body _ V C rfl rfl (hH.2 hT) s.heap [] _ hH va_S.rf hl
