/-! LOOPS of Trace and Room -/
section SUB
variable {X : Ctx} {V : Vx} {nL : Nat} {T : Tt} {M : Mm} {cl sl : Nat} {Q : State → Prop} {pc : Nat} {als als' : List (Nat × Value)} {st : List Value}
theorem ar_sub (ks : List Nat) (h : lv_pick als ks = als') (kk : AW X V nL T M cl sl Q pc als' st) : AW X V nL T M cl sl Q pc als st := fun H locs ls hH hS hl => kk H locs ls hH hS (by
  refine ⟨hl.1, hl.2.1, fun q hq => ?_⟩
  obtain ⟨q0, h0, rfl⟩ := List.mem_map.mp hq
  rw [← h] at h0
  obtain ⟨k, -, hk⟩ := List.mem_filterMap.mp h0
  exact hl.2.2 _ (List.mem_map.mpr ⟨q0, List.mem_of_getElem? hk, rfl⟩))
end SUB
def bd (t : Nat) : Int32 := nI t - 50
theorem bd_1 (t : Nat) : bd t + 1 = bd (t + 1) := by
  unfold bd
  rw [nI_succ]
  rw [Int32.sub_eq_add_neg, Int32.sub_eq_add_neg, Int32.add_assoc, Int32.add_comm (-50) 1, ← Int32.add_assoc]
theorem bd_toInt {t : Nat} (h : t < 1000) : (bd t).toInt = (t : Int) - 50 := pk_sub_toInt (a := t) (b := 50) (by omega) (by omega)
theorem bd_ix (t : Nat) : bd t + 50 = nI t := by
  unfold bd
  rw [Int32.sub_eq_add_neg, Int32.add_assoc]
  exact Int32.add_zero _
theorem bd_ix' (t : Nat) : 50 + bd t = nI t := by rw [Int32.add_comm]; exact bd_ix t
theorem bd_gt {t : Nat} (h : t < 1000) : (50 : Int32) < bd t ↔ 100 < t := by
  rw [Int32.lt_iff_toInt_lt, bd_toInt h]
  have e : (50 : Int32).toInt = 50 := by decide
  rw [e]
  omega
/-- a row's first n places made anew -/
def wg (M : Mm) (k n : Nat) (g : Nat → Int32) : Mm := (fun a b => if a = k ∧ b < n then g b else M.1 a b, M.2)
theorem wg_0 (M : Mm) (k : Nat) (g : Nat → Int32) : wg M k 0 g = M := by simp [wg]
theorem wg_s (M : Mm) (k n : Nat) (g : Nat → Int32) : wi (wg M k n g) k n (g n) = wg M k (n + 1) g := by
  simp only [wi, wg]
  congr 1
  funext a b
  by_cases h1 : a = k ∧ b = n
  · rw [if_pos h1, if_pos ⟨h1.1, by omega⟩, h1.2]
  · rw [if_neg h1]
    by_cases h2 : a = k ∧ b < n
    · rw [if_pos h2, if_pos ⟨h2.1, by omega⟩]
    · rw [if_neg h2, if_neg]
      rintro ⟨q1, q2⟩
      by_cases h3 : b = n
      · exact h1 ⟨q1, h3⟩
      · exact h2 ⟨q1, by omega⟩
/-- the best of the depths 1 to k: the first of the least -/
def foc (B : Nat → Int32) : Nat → Nat
  | 0 => 1
  | k + 1 => if B (foc B k) ≤ B (k + 1) then foc B k else k + 1
theorem foc_in (B : Nat → Int32) : ∀ k, 1 ≤ foc B k ∧ foc B k ≤ k + 1
  | 0 => ⟨Nat.le_refl _, Nat.le_refl _⟩
  | k + 1 => by
    have h := foc_in B k
    simp only [foc]
    split <;> omega
theorem foc_1 (B : Nat → Int32) : foc B 1 = 1 := by simp [foc]
theorem foc_stop (B : Nat → Int32) {n : Nat} (hB : ∀ k, 1 ≤ k → k ≤ 1000 → 0 ≤ B k) (h : B (foc B n) ≤ 0) : ∀ m, n ≤ m → m ≤ 1000 → foc B m = foc B n := by
  intro m
  induction m with
  | zero => intro h1 _; rw [show n = 0 by omega]
  | succ m ih =>
    intro h1 h2
    rcases Nat.lt_or_ge m n with q | q
    · rw [show m + 1 = n by omega]
    · have e := ih q (by omega)
      simp only [foc]
      rw [if_pos, e]
      rw [e]
      exact Int32.le_trans h (hB (m + 1) (by omega) (by omega))
def bb1 (f : Nat → Int32) (s t : Nat) : Nat := if f t ≤ f (50 - (s + 1)) then t else 50 - (s + 1)
def bb (f : Nat → Int32) : Nat → Nat
  | 0 => 50
  | s + 1 => if f (bb1 f s (bb f s)) ≤ f (50 + (s + 1)) then bb1 f s (bb f s) else 50 + (s + 1)
theorem bb_in (f : Nat → Int32) : ∀ s, s ≤ 50 → bb f s ≤ 100
  | 0, _ => by simp [bb]
  | s + 1, h => by
    have h1 := bb_in f s (by omega)
    simp only [bb, bb1]
    split <;> split <;> omega
theorem neg_nI {s : Nat} (h : s ≤ 50) : -nI s = bd (50 - s) := by
  apply Int32.toInt_inj.mp
  rw [bd_toInt (by omega), sb_negT (by omega)]
  omega
theorem pos_nI {s : Nat} (h : s ≤ 50) : nI s = bd (50 + s) := by
  apply Int32.toInt_inj.mp
  rw [bd_toInt (by omega), nI_toInt (by omega)]
  omega
set_option maxHeartbeats 4000000 in
set_option maxRecDepth 100000 in
theorem l_clear {X : Ctx} {V : Vx} {Q : State → Prop} (C : Cx X V mX10_clear 0) (M : Mm) {i : Nat} (hi : i < 8) (kk : AW X V mX10_clear.2.2.1 T0 (wf M (63 + 4 * i) 24 0) 0 0 Q 21 [(1, .int (nI 24)), (0, .ref (62 + 4 * i))] []) : ∀ (m : Nat) (j : Nat), j ≤ 24 → 24 - j < m → AW X V mX10_clear.2.2.1 T0 (wf M (63 + 4 * i) j 0) 0 0 Q 2 [(1, .int (nI j)), (0, .ref (62 + 4 * i))] [] := by
  intro m
  induction m with
  | zero => intro j _ h; exact absurd h (Nat.not_lt_zero _)
  | succ m ih =>
    intro j hj0 hm
    refine ar_iload_n (n := 0) C dX10_clear_2 rfl rfl ?_
    refine ar_bipush (v := 24) C dX10_clear_3 (by decide) ?_
    refine ar_icmp_ge (tgt := 21) C dX10_clear_5 (by decide) (fun c_1 => ?_) (fun c_1 => ?_)
    · have hj : j = 24 := Nat.le_antisymm hj0 (nat_le (a := 24) c_1 (by decide) (by omega))
      subst hj
      exact kk
    · have hj : j < 24 := nat_nle (a := 24) c_1 (by decide) (by omega)
      refine ar_aload_n (n := 1) C dX10_clear_8 rfl rfl ?_
      refine ar_getr C flX10_9 rfl (kd_trace hi) (rf_has hi) dX10_clear_9 ?_
      refine ar_iload_n (n := 0) C dX10_clear_12 rfl rfl ?_
      refine ar_iconst (v := 0) C dX10_clear_13 (by decide) ?_
      refine ar_zast (j := j) C (kd_has hi) rfl hj rfl dX10_clear_14 ?_
      refine ar_iinc (n := 0) (v := (nI (j + 1))) (als' := [(1, .int (nI (j + 1))), (0, .ref (62 + 4 * i))]) C dX10_clear_15 rfl (nI_1 _) (by decide) rfl ?_
      refine ar_goto (tgt := 2) C dX10_clear_18 (by decide) ?_
      refine ar_mem _ (wf_s _ _ _ _) ?_
      exact ih (j + 1) (by omega) (by omega)
set_option maxHeartbeats 4000000 in
set_option maxRecDepth 100000 in
theorem k_clear (M : Mm) {i : Nat} (hi : i < 8) : AX mX10_clear 0 [.ref (62 + 4 * i)] M none (wf M (63 + 4 * i) 24 0) := by
  refine AM_ofF (by decide +kernel) (Nat.le_of_ble_eq_true rfl) (fun X V C _ _ => ?_)
  show AW X V mX10_clear.2.2.1 T0 M 0 0 _ 0 [(0, .ref (62 + 4 * i))] []
  refine ar_iconst (v := 0) C dX10_clear_0 (by decide) ?_
  refine ar_istore_n (als' := [(1, .int 0), (0, .ref (62 + 4 * i))]) C dX10_clear_1 rfl (by decide) rfl ?_
  refine ar_mem (wf M (63 + 4 * i) 0 0) (wf_0 _ _ _).symm ?_
  exact l_clear C M hi (ar_return C rfl dX10_clear_21 ⟨rfl, rfl, rfl⟩) 25 0 (by omega) (by omega)
set_option maxHeartbeats 4000000 in
set_option maxRecDepth 100000 in
theorem l_marksMade {X : Ctx} {V : Vx} {Q : State → Prop} (C : Cx X V mX10_marksMade 0) (M : Mm) {i : Nat} (hi : i < 8) (kk : AW X V mX10_marksMade.2.2.1 T0 M 0 0 Q 28 [(2, .int (nI 24)), (1, .int (nI (cnt (M.1 (63 + 4 * i)) 24))), (0, .ref (62 + 4 * i))] []) : ∀ (m : Nat) (j : Nat), j ≤ 24 → 24 - j < m → AW X V mX10_marksMade.2.2.1 T0 (M) 0 0 Q 4 [(2, .int (nI j)), (1, .int (nI (cnt (M.1 (63 + 4 * i)) j))), (0, .ref (62 + 4 * i))] [] := by
  intro m
  induction m with
  | zero => intro j _ h; exact absurd h (Nat.not_lt_zero _)
  | succ m ih =>
    intro j hj0 hm
    refine ar_iload_n (n := 0) C dX10_marksMade_4 rfl rfl ?_
    refine ar_bipush (v := 24) C dX10_marksMade_5 (by decide) ?_
    refine ar_icmp_ge (tgt := 28) C dX10_marksMade_7 (by decide) (fun c_1 => ?_) (fun c_1 => ?_)
    · have hj : j = 24 := Nat.le_antisymm hj0 (nat_le (a := 24) c_1 (by decide) (by omega))
      subst hj
      exact kk
    · have hj : j < 24 := nat_nle (a := 24) c_1 (by decide) (by omega)
      refine ar_aload_n (n := 2) C dX10_marksMade_10 rfl rfl ?_
      refine ar_getr C flX10_9 rfl (kd_trace hi) (rf_has hi) dX10_marksMade_11 ?_
      refine ar_iload_n (n := 0) C dX10_marksMade_14 rfl rfl ?_
      refine ar_zald (j := j) C (kd_has hi) rfl hj dX10_marksMade_15 ?_
      refine ar_if_eq (tgt := 22) C dX10_marksMade_16 (by decide) (fun c_2 => ?_) (fun c_2 => ?_)
      · refine ar_iinc (n := 0) (v := (nI (j + 1))) (als' := [(2, .int (nI (j + 1))), (1, .int (nI (cnt (M.1 (63 + 4 * i)) j))), (0, .ref (62 + 4 * i))]) C dX10_marksMade_22 rfl (nI_1 _) (by decide) rfl ?_
        refine ar_goto (tgt := 4) C dX10_marksMade_25 (by decide) ?_
        have h := ih (j + 1) (by omega) (by omega)
        rw [show cnt (M.1 (63 + 4 * i)) (j + 1) = cnt (M.1 (63 + 4 * i)) j from by simp only [cnt]; rw [if_pos c_2]; rfl] at h
        exact h
      · refine ar_iinc (n := 1) (v := (nI (cnt (M.1 (63 + 4 * i)) j + 1))) (als' := [(1, .int (nI (cnt (M.1 (63 + 4 * i)) j + 1))), (2, .int (nI j)), (0, .ref (62 + 4 * i))]) C dX10_marksMade_19 rfl (nI_1 _) (by decide) rfl ?_
        refine ar_iinc (n := 1) (v := (nI (j + 1))) (als' := [(2, .int (nI (j + 1))), (1, .int (nI (cnt (M.1 (63 + 4 * i)) j + 1))), (0, .ref (62 + 4 * i))]) C dX10_marksMade_22 rfl (nI_1 _) (by decide) rfl ?_
        refine ar_goto (tgt := 4) C dX10_marksMade_25 (by decide) ?_
        have h := ih (j + 1) (by omega) (by omega)
        rw [show cnt (M.1 (63 + 4 * i)) (j + 1) = cnt (M.1 (63 + 4 * i)) j + 1 from by simp only [cnt]; rw [if_neg c_2]] at h
        exact h
set_option maxHeartbeats 4000000 in
set_option maxRecDepth 100000 in
theorem k_marksMade (M : Mm) {i : Nat} (hi : i < 8) : AX mX10_marksMade 0 [.ref (62 + 4 * i)] M (some (.int (nI (cnt (M.1 (63 + 4 * i)) 24)))) M := by
  refine AM_ofF (by decide +kernel) (Nat.le_of_ble_eq_true rfl) (fun X V C _ _ => ?_)
  show AW X V mX10_marksMade.2.2.1 T0 M 0 0 _ 0 [(0, .ref (62 + 4 * i))] []
  refine ar_iconst (v := 0) C dX10_marksMade_0 (by decide) ?_
  refine ar_istore_n (als' := [(1, .int 0), (0, .ref (62 + 4 * i))]) C dX10_marksMade_1 rfl (by decide) rfl ?_
  refine ar_iconst (v := 0) C dX10_marksMade_2 (by decide) ?_
  refine ar_istore_n (als' := [(2, .int 0), (1, .int 0), (0, .ref (62 + 4 * i))]) C dX10_marksMade_3 rfl (by decide) rfl ?_
  exact l_marksMade C M hi (ar_iload_n (n := 1) C dX10_marksMade_28 rfl rfl (ar_ireturn C rfl dX10_marksMade_29 ⟨rfl, rfl, rfl⟩)) 25 0 (by omega) (by omega)
set_option maxHeartbeats 4000000 in
set_option maxRecDepth 100000 in
theorem l_bendsMade {X : Ctx} {V : Vx} {Q : State → Prop} (C : Cx X V mX4_bendsMade 0) (M : Mm)  (kk : AW X V mX4_bendsMade.2.2.1 T0 M 0 0 Q 28 [(2, .int (nI 17)), (1, .int (nI (cnt (M.1 4) 17))), (0, .ref 2)] []) : ∀ (m : Nat) (j : Nat), j ≤ 17 → 17 - j < m → AW X V mX4_bendsMade.2.2.1 T0 (M) 0 0 Q 4 [(2, .int (nI j)), (1, .int (nI (cnt (M.1 4) j))), (0, .ref 2)] [] := by
  intro m
  induction m with
  | zero => intro j _ h; exact absurd h (Nat.not_lt_zero _)
  | succ m ih =>
    intro j hj0 hm
    refine ar_iload_n (n := 0) C dX4_bendsMade_4 rfl rfl ?_
    refine ar_bipush (v := 17) C dX4_bendsMade_5 (by decide) ?_
    refine ar_icmp_ge (tgt := 28) C dX4_bendsMade_7 (by decide) (fun c_1 => ?_) (fun c_1 => ?_)
    · have hj : j = 17 := Nat.le_antisymm hj0 (nat_le (a := 17) c_1 (by decide) (by omega))
      subst hj
      exact kk
    · have hj : j < 17 := nat_nle (a := 17) c_1 (by decide) (by omega)
      refine ar_aload_n (n := 2) C dX4_bendsMade_10 rfl rfl ?_
      refine ar_getr C flX4_15 rfl kd_2 rf_2_1 dX4_bendsMade_11 ?_
      refine ar_iload_n (n := 0) C dX4_bendsMade_14 rfl rfl ?_
      refine ar_iald (j := j) C kd_4 rfl hj dX4_bendsMade_15 ?_
      refine ar_if_eq (tgt := 22) C dX4_bendsMade_16 (by decide) (fun c_2 => ?_) (fun c_2 => ?_)
      · refine ar_iinc (n := 0) (v := (nI (j + 1))) (als' := [(2, .int (nI (j + 1))), (1, .int (nI (cnt (M.1 4) j))), (0, .ref 2)]) C dX4_bendsMade_22 rfl (nI_1 _) (by decide) rfl ?_
        refine ar_goto (tgt := 4) C dX4_bendsMade_25 (by decide) ?_
        have h := ih (j + 1) (by omega) (by omega)
        rw [show cnt (M.1 4) (j + 1) = cnt (M.1 4) j from by simp only [cnt]; rw [if_pos c_2]; rfl] at h
        exact h
      · refine ar_iinc (n := 1) (v := (nI (cnt (M.1 4) j + 1))) (als' := [(1, .int (nI (cnt (M.1 4) j + 1))), (2, .int (nI j)), (0, .ref 2)]) C dX4_bendsMade_19 rfl (nI_1 _) (by decide) rfl ?_
        refine ar_iinc (n := 1) (v := (nI (j + 1))) (als' := [(2, .int (nI (j + 1))), (1, .int (nI (cnt (M.1 4) j + 1))), (0, .ref 2)]) C dX4_bendsMade_22 rfl (nI_1 _) (by decide) rfl ?_
        refine ar_goto (tgt := 4) C dX4_bendsMade_25 (by decide) ?_
        have h := ih (j + 1) (by omega) (by omega)
        rw [show cnt (M.1 4) (j + 1) = cnt (M.1 4) j + 1 from by simp only [cnt]; rw [if_neg c_2]] at h
        exact h
set_option maxHeartbeats 4000000 in
set_option maxRecDepth 100000 in
theorem k_bendsMade (M : Mm)  : AX mX4_bendsMade 0 [.ref 2] M (some (.int (nI (cnt (M.1 4) 17)))) M := by
  refine AM_ofF (by decide +kernel) (Nat.le_of_ble_eq_true rfl) (fun X V C _ _ => ?_)
  show AW X V mX4_bendsMade.2.2.1 T0 M 0 0 _ 0 [(0, .ref 2)] []
  refine ar_iconst (v := 0) C dX4_bendsMade_0 (by decide) ?_
  refine ar_istore_n (als' := [(1, .int 0), (0, .ref 2)]) C dX4_bendsMade_1 rfl (by decide) rfl ?_
  refine ar_iconst (v := 0) C dX4_bendsMade_2 (by decide) ?_
  refine ar_istore_n (als' := [(2, .int 0), (1, .int 0), (0, .ref 2)]) C dX4_bendsMade_3 rfl (by decide) rfl ?_
  exact l_bendsMade C M (ar_iload_n (n := 1) C dX4_bendsMade_28 rfl rfl (ar_ireturn C rfl dX4_bendsMade_29 ⟨rfl, rfl, rfl⟩)) 18 0 (by omega) (by omega)
set_option maxHeartbeats 4000000 in
set_option maxRecDepth 100000 in
theorem l_clearBlurs {X : Ctx} {V : Vx} {Q : State → Prop} (C : Cx X V mX4_clearBlurs 0) (M : Mm) (kk : AW X V mX4_clearBlurs.2.2.1 T0 (wf M 5 101 0) 0 0 Q 24 [(1, .int (nI 101)), (0, .ref 2)] []) : ∀ (m : Nat) (j : Nat), j ≤ 101 → 101 - j < m → AW X V mX4_clearBlurs.2.2.1 T0 (wf M 5 j 0) 0 0 Q 2 [(1, .int (nI j)), (0, .ref 2)] [] := by
  intro m
  induction m with
  | zero => intro j _ h; exact absurd h (Nat.not_lt_zero _)
  | succ m ih =>
    intro j hj0 hm
    refine ar_iload_n (n := 0) C dX4_clearBlurs_2 rfl rfl ?_
    refine ar_aload_n (n := 1) C dX4_clearBlurs_3 rfl rfl ?_
    refine ar_getr C flX4_18 rfl kd_2 rf_2_2 dX4_clearBlurs_4 ?_
    refine ar_alen C kd_5 dX4_clearBlurs_7 ?_
    refine ar_icmp_ge (tgt := 24) C dX4_clearBlurs_8 (by decide) (fun c_1 => ?_) (fun c_1 => ?_)
    · have hj : j = 101 := Nat.le_antisymm hj0 (nat_le (a := 101) c_1 (by decide) (by omega))
      subst hj
      exact kk
    · have hj : j < 101 := nat_nle (a := 101) c_1 (by decide) (by omega)
      refine ar_aload_n (n := 1) C dX4_clearBlurs_11 rfl rfl ?_
      refine ar_getr C flX4_18 rfl kd_2 rf_2_2 dX4_clearBlurs_12 ?_
      refine ar_iload_n (n := 0) C dX4_clearBlurs_15 rfl rfl ?_
      refine ar_iconst (v := 0) C dX4_clearBlurs_16 (by decide) ?_
      refine ar_iast (j := j) C kd_5 rfl hj dX4_clearBlurs_17 ?_
      refine ar_iinc (n := 0) (v := (nI (j + 1))) (als' := [(1, .int (nI (j + 1))), (0, .ref 2)]) C dX4_clearBlurs_18 rfl (nI_1 _) (by decide) rfl ?_
      refine ar_goto (tgt := 2) C dX4_clearBlurs_21 (by decide) ?_
      refine ar_mem _ (wf_s _ _ _ _) ?_
      exact ih (j + 1) (by omega) (by omega)
set_option maxHeartbeats 4000000 in
set_option maxRecDepth 100000 in
theorem k_clearBlurs (M : Mm) : AX mX4_clearBlurs 0 [.ref 2] M none (wf M 5 101 0) := by
  refine AM_ofF (by decide +kernel) (Nat.le_of_ble_eq_true rfl) (fun X V C _ _ => ?_)
  show AW X V mX4_clearBlurs.2.2.1 T0 M 0 0 _ 0 [(0, .ref 2)] []
  refine ar_iconst (v := 0) C dX4_clearBlurs_0 (by decide) ?_
  refine ar_istore_n (als' := [(1, .int 0), (0, .ref 2)]) C dX4_clearBlurs_1 rfl (by decide) rfl ?_
  refine ar_mem (wf M 5 0 0) (wf_0 _ _ _).symm ?_
  exact l_clearBlurs C M (ar_return C rfl dX4_clearBlurs_24 ⟨rfl, rfl, rfl⟩) 102 0 (by omega) (by omega)
