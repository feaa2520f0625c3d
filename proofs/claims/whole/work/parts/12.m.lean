/-! ROOM: the sharpest depth, the blurs of a column, the best bend -/
def f_B (ρ β : Nat → Int32) (x z : Int32) (k : Nat) : Int32 := f_blur ρ (f_far β x z (nI k)) z
theorem ar_als {X : Ctx} {V : Vx} {nL : Nat} {T : Tt} {M : Mm} {cl sl : Nat} {Q : State → Prop} {pc : Nat} {als als' : List (Nat × Value)} {st : List Value} (e : als = als') (kk : AW X V nL T M cl sl Q pc als' st) : AW X V nL T M cl sl Q pc als st := e ▸ kk
set_option maxHeartbeats 4000000 in
set_option maxRecDepth 100000 in
theorem l_sharp {X : Ctx} {V : Vx} {Q : State → Prop} (C : Cx X V mX4_sharpestDepth 4) (M : Mm) {i : Nat} (hi : i < 24) {ρ β : Nat → Int32} (hρ : M.1 3 = ρ) (hβ : M.1 4 = β) {x z : Int32} (hx : M.1 (38 + i) 0 = x) (hz : M.1 (38 + i) 2 = z) (hB : ∀ k, 1 ≤ k → k ≤ 1000 → 0 ≤ f_B ρ β x z k) (kk : ∀ dv lv, AW X V mX4_sharpestDepth.2.2.1 T0 M 0 0 Q 51 [(4, .int dv), (3, .int lv), (2, .int (nI (foc (f_B ρ β x z) 1000))), (0, .ref 2), (1, .ref (38 + i))] []) : ∀ (m : Nat) (n : Nat), 1 ≤ n → n ≤ 1000 → 1000 - n < m → AW X V mX4_sharpestDepth.2.2.1 T0 (M) 0 0 Q 12 [(4, .int (nI (n + 1))), (3, .int (f_B ρ β x z (foc (f_B ρ β x z) n))), (2, .int (nI (foc (f_B ρ β x z) n))), (0, .ref 2), (1, .ref (38 + i))] [] := by
  intro m
  induction m with
  | zero => intro n _ _ h; exact absurd h (Nat.not_lt_zero _)
  | succ m ih =>
    intro n h1 h2 hm
    refine ar_iload (n := 0) C dX4_sharpestDepth_12 rfl ?_
    refine ar_sipush (v := 1000) C dX4_sharpestDepth_14 (by decide) ?_
    refine ar_icmp_gt (tgt := 51) C dX4_sharpestDepth_17 (by decide) (fun c_1 => ?_) (fun c_1 => ?_)
    · have hn : n = 1000 := by
        have q := (nI_ltI (a := 1000) (b := n + 1) (by omega) (by omega)).mp c_1
        omega
      subst hn
      exact kk _ _
    · have hn : n < 1000 := by
        rcases Nat.lt_or_ge n 1000 with q | q
        · exact q
        · exact absurd (show nI 1000 < nI (n + 1) from nI_lt (by omega) (by omega)) c_1
      refine ar_iload_n (n := 1) C dX4_sharpestDepth_20 rfl rfl ?_
      refine ar_if_le (tgt := 51) C dX4_sharpestDepth_21 (by decide) (fun c_2 => ?_) (fun c_2 => ?_)
      · have e := foc_stop (f_B ρ β x z) hB c_2 1000 (by omega) (by omega)
        rw [← e]
        exact kk _ _
      · refine ar_aload_n (n := 3) C dX4_sharpestDepth_24 rfl rfl ?_
        refine ar_iload (n := 0) C dX4_sharpestDepth_25 rfl ?_
        refine ar_aload_n (n := 4) C dX4_sharpestDepth_27 rfl rfl ?_
        refine cV1 (ar := [.int (nI (n + 1)), .ref (38 + i)]) (st := []) C lkX4_65 kd_2 (k_blurAt M hi hρ hβ hx hz (nI (n + 1))) (by decide) rfl (Nat.le_of_ble_eq_true rfl) rfl dX4_sharpestDepth_28 ?_
        refine ar_istore (als' := [(5, .int (f_B ρ β x z (n + 1))), (4, .int (nI (n + 1))), (3, .int (f_B ρ β x z (foc (f_B ρ β x z) n))), (2, .int (nI (foc (f_B ρ β x z) n))), (0, .ref 2), (1, .ref (38 + i))]) C dX4_sharpestDepth_31 (by decide) rfl ?_
        refine ar_iload (n := 0) C dX4_sharpestDepth_33 rfl ?_
        refine ar_iload_n (n := 2) C dX4_sharpestDepth_35 rfl rfl ?_
        refine ar_icmp_ge (tgt := 45) C dX4_sharpestDepth_36 (by decide) (fun c_3 => ?_) (fun c_3 => ?_)
        · refine ar_iinc (n := 1) (v := (nI (n + 1 + 1))) (als' := [(4, .int (nI (n + 1 + 1))), (5, .int (f_B ρ β x z (n + 1))), (3, .int (f_B ρ β x z (foc (f_B ρ β x z) n))), (2, .int (nI (foc (f_B ρ β x z) n))), (0, .ref 2), (1, .ref (38 + i))]) C dX4_sharpestDepth_45 rfl (nI_1 _) (by decide) rfl ?_
          refine ar_goto (tgt := 12) C dX4_sharpestDepth_48 (by decide) ?_
          refine ar_sub [0, 2, 3, 4, 5] rfl ?_
          have h := ih (n + 1) (by omega) (by omega) (by omega)
          rw [show foc (f_B ρ β x z) (n + 1) = foc (f_B ρ β x z) n from by simp only [foc]; rw [if_pos c_3]] at h
          exact h
        · refine ar_iload (n := 0) C dX4_sharpestDepth_39 rfl ?_
          refine ar_istore_n (als' := [(3, .int (f_B ρ β x z (n + 1))), (5, .int (f_B ρ β x z (n + 1))), (4, .int (nI (n + 1))), (2, .int (nI (foc (f_B ρ β x z) n))), (0, .ref 2), (1, .ref (38 + i))]) C dX4_sharpestDepth_41 rfl (by decide) rfl ?_
          refine ar_iload (n := 2) C dX4_sharpestDepth_42 rfl ?_
          refine ar_istore_n (als' := [(2, .int (nI (n + 1))), (3, .int (f_B ρ β x z (n + 1))), (5, .int (f_B ρ β x z (n + 1))), (4, .int (nI (n + 1))), (0, .ref 2), (1, .ref (38 + i))]) C dX4_sharpestDepth_44 rfl (by decide) rfl ?_
          refine ar_iinc (n := 3) (v := (nI (n + 1 + 1))) (als' := [(4, .int (nI (n + 1 + 1))), (2, .int (nI (n + 1))), (3, .int (f_B ρ β x z (n + 1))), (5, .int (f_B ρ β x z (n + 1))), (0, .ref 2), (1, .ref (38 + i))]) C dX4_sharpestDepth_45 rfl (nI_1 _) (by decide) rfl ?_
          refine ar_goto (tgt := 12) C dX4_sharpestDepth_48 (by decide) ?_
          refine ar_sub [0, 2, 1, 4, 5] rfl ?_
          have h := ih (n + 1) (by omega) (by omega) (by omega)
          rw [show foc (f_B ρ β x z) (n + 1) = n + 1 from by simp only [foc]; rw [if_neg c_3]] at h
          exact h
theorem l_sharp1 {X : Ctx} {V : Vx} {Q : State → Prop} (C : Cx X V mX4_sharpestDepth 4) (M : Mm) {i : Nat} (hi : i < 24) {ρ β : Nat → Int32} (hρ : M.1 3 = ρ) (hβ : M.1 4 = β) {x z : Int32} (hx : M.1 (38 + i) 0 = x) (hz : M.1 (38 + i) 2 = z) (hB : ∀ k, 1 ≤ k → k ≤ 1000 → 0 ≤ f_B ρ β x z k) (kk : ∀ dv lv, AW X V mX4_sharpestDepth.2.2.1 T0 M 0 0 Q 51 [(4, .int dv), (3, .int lv), (2, .int (nI (foc (f_B ρ β x z) 1000))), (0, .ref 2), (1, .ref (38 + i))] []) : AW X V mX4_sharpestDepth.2.2.1 T0 M 0 0 Q 12 [(4, .int 2), (3, .int (f_B ρ β x z 1)), (2, .int 1), (0, .ref 2), (1, .ref (38 + i))] [] := by
  have h := l_sharp C M hi hρ hβ hx hz hB kk 1001 1 (by omega) (by omega) (by omega)
  rw [foc_1] at h
  exact h
set_option maxHeartbeats 4000000 in
set_option maxRecDepth 100000 in
theorem k_sharp (M : Mm) {i : Nat} (hi : i < 24) {ρ β : Nat → Int32} (hρ : M.1 3 = ρ) (hβ : M.1 4 = β) {x z : Int32} (hx : M.1 (38 + i) 0 = x) (hz : M.1 (38 + i) 2 = z) (hB : ∀ k, 1 ≤ k → k ≤ 1000 → 0 ≤ f_B ρ β x z k) : AX mX4_sharpestDepth 4 [.ref 2, .ref (38 + i)] M (some (.int (nI (foc (f_B ρ β x z) 1000)))) M := by
  refine AM_ofF (by decide +kernel) (Nat.le_of_ble_eq_true rfl) (fun X V C _ _ => ?_)
  show AW X V mX4_sharpestDepth.2.2.1 T0 M 0 0 _ 0 [(0, .ref 2), (1, .ref (38 + i))] []
  refine ar_iconst (v := 1) C dX4_sharpestDepth_0 (by decide) ?_
  refine ar_istore_n (als' := [(2, .int 1), (0, .ref 2), (1, .ref (38 + i))]) C dX4_sharpestDepth_1 rfl (by decide) rfl ?_
  refine ar_aload_n (n := 1) C dX4_sharpestDepth_2 rfl rfl ?_
  refine ar_iconst (v := 1) C dX4_sharpestDepth_3 (by decide) ?_
  refine ar_aload_n (n := 2) C dX4_sharpestDepth_4 rfl rfl ?_
  refine cV1 (ar := [.int 1, .ref (38 + i)]) (st := []) C lkX4_65 kd_2 (k_blurAt M hi hρ hβ hx hz 1) (by decide) rfl (Nat.le_of_ble_eq_true rfl) rfl dX4_sharpestDepth_5 ?_
  refine ar_istore_n (als' := [(3, .int (f_B ρ β x z 1)), (2, .int 1), (0, .ref 2), (1, .ref (38 + i))]) C dX4_sharpestDepth_8 rfl (by decide) rfl ?_
  refine ar_iconst (v := 2) C dX4_sharpestDepth_9 (by decide) ?_
  refine ar_istore (als' := [(4, .int 2), (3, .int (f_B ρ β x z 1)), (2, .int 1), (0, .ref 2), (1, .ref (38 + i))]) C dX4_sharpestDepth_10 (by decide) rfl ?_
  exact l_sharp1 C M hi hρ hβ hx hz hB (fun dv lv => ar_iload_n (n := 2) C dX4_sharpestDepth_51 rfl rfl (ar_ireturn C rfl dX4_sharpestDepth_52 ⟨rfl, rfl, rfl⟩))
set_option maxHeartbeats 4000000 in
set_option maxRecDepth 100000 in
theorem l_addBlurs {X : Ctx} {V : Vx} {Q : State → Prop} (C : Cx X V mX4_addBlurs 2) (M : Mm) {ρ : Nat → Int32} (hρ : M.1 3 = ρ) (z : Int32) (kk : ∀ bv, AW X V mX4_addBlurs.2.2.1 T0 (wg M 5 101 (fun b => M.1 5 b + f_blur ρ (f_max 1 (ρ 2 + bd b)) z)) 0 0 Q 46 [(2, .int bv), (0, .ref 2), (1, .int z)] []) : ∀ (m : Nat) (t : Nat), t ≤ 101 → 101 - t < m → AW X V mX4_addBlurs.2.2.1 T0 (wg M 5 t (fun b => M.1 5 b + f_blur ρ (f_max 1 (ρ 2 + bd b)) z)) 0 0 Q 3 [(2, .int (bd t)), (0, .ref 2), (1, .int z)] [] := by
  intro m
  induction m with
  | zero => intro t _ h; exact absurd h (Nat.not_lt_zero _)
  | succ m ih =>
    intro t ht0 hm
    refine ar_iload_n (n := 0) C dX4_addBlurs_3 rfl rfl ?_
    refine ar_bipush (v := 50) C dX4_addBlurs_4 (by decide) ?_
    refine ar_icmp_gt (tgt := 46) C dX4_addBlurs_6 (by decide) (fun c_1 => ?_) (fun c_1 => ?_)
    · have ht : t = 101 := by have q := (bd_gt (by omega)).mp c_1; omega
      subst ht
      exact kk _
    · have ht : t < 101 := by
        rcases Nat.lt_or_ge t 101 with q | q
        · exact q
        · exact absurd ((bd_gt (by omega)).mpr (by omega)) c_1
      refine ar_iconst (v := 1) C dX4_addBlurs_9 (by decide) ?_
      refine ar_aload_n (n := 1) C dX4_addBlurs_10 rfl rfl ?_
      refine ar_getr C flX4_9 rfl kd_2 rf_2_0 dX4_addBlurs_11 ?_
      refine ar_iconst (v := 2) C dX4_addBlurs_14 (by decide) ?_
      refine ar_iald (j := 2) C kd_3 (by decide) (by decide) dX4_addBlurs_15 ?_
      refine ar_topi (ρ 2) (by rw [← hρ]; simp [wg]) ?_
      refine ar_iload_n (n := 0) C dX4_addBlurs_16 rfl rfl ?_
      refine ar_iadd C dX4_addBlurs_17 ?_
      refine cS1 (ar := [.int 1, .int ((ρ 2) + (bd t))]) (st := []) C lkX4_42 (k_max (wg M 5 t (fun b => M.1 5 b + f_blur ρ (f_max 1 (ρ 2 + bd b)) z)) 1 ((ρ 2) + (bd t))) (by decide) rfl (Nat.le_of_ble_eq_true rfl) rfl dX4_addBlurs_18 ?_
      refine ar_istore_n (als' := [(3, .int (f_max 1 ((ρ 2) + (bd t)))), (2, .int (bd t)), (0, .ref 2), (1, .int z)]) C dX4_addBlurs_21 rfl (by decide) rfl ?_
      refine ar_aload_n (n := 2) C dX4_addBlurs_22 rfl rfl ?_
      refine ar_getr C flX4_18 rfl kd_2 rf_2_2 dX4_addBlurs_23 ?_
      refine ar_iload_n (n := 1) C dX4_addBlurs_26 rfl rfl ?_
      refine ar_bipush (v := 50) C dX4_addBlurs_27 (by decide) ?_
      refine ar_iadd C dX4_addBlurs_29 ?_
      refine ar_dup2 C dX4_addBlurs_30 rfl rfl ?_
      refine ar_iald (j := t) C kd_5 (bd_ix t) ht dX4_addBlurs_31 ?_
      refine ar_topi (M.1 5 t) (by simp [wg]) ?_
      refine ar_aload_n (n := 2) C dX4_addBlurs_32 rfl rfl ?_
      refine ar_iload_n (n := 0) C dX4_addBlurs_33 rfl rfl ?_
      refine ar_iload_n (n := 3) C dX4_addBlurs_34 rfl rfl ?_
      refine cV1 (ar := [.int (f_max 1 ((ρ 2) + (bd t))), .int z]) (st := [.int (M.1 5 t), .int ((bd t) + 50), .ref 5]) C lkX4_62 kd_2 (k_blurBy (ρ := ρ) (wg M 5 t (fun b => M.1 5 b + f_blur ρ (f_max 1 (ρ 2 + bd b)) z)) (by rw [← hρ]; funext b; simp [wg, wi]) (f_max 1 ((ρ 2) + (bd t))) z) (by decide) rfl (Nat.le_of_ble_eq_true rfl) rfl dX4_addBlurs_35 ?_
      refine ar_iadd C dX4_addBlurs_38 ?_
      refine ar_iast (j := t) C kd_5 (bd_ix t) ht dX4_addBlurs_39 ?_
      refine ar_iinc (n := 1) (v := (bd (t + 1))) (als' := [(2, .int (bd (t + 1))), (3, .int (f_max 1 ((ρ 2) + (bd t)))), (0, .ref 2), (1, .int z)]) C dX4_addBlurs_40 rfl (bd_1 _) (by decide) rfl ?_
      refine ar_goto (tgt := 3) C dX4_addBlurs_43 (by decide) ?_
      refine ar_sub [0, 2, 3] rfl ?_
      refine ar_mem (wg M 5 (t + 1) (fun b => M.1 5 b + f_blur ρ (f_max 1 (ρ 2 + bd b)) z)) (wg_s M 5 t (fun b => M.1 5 b + f_blur ρ (f_max 1 (ρ 2 + bd b)) z)) ?_
      exact ih (t + 1) (by omega) (by omega)
set_option maxHeartbeats 4000000 in
set_option maxRecDepth 100000 in
theorem k_addBlurs (M : Mm) {ρ : Nat → Int32} (hρ : M.1 3 = ρ) (z : Int32) : AX mX4_addBlurs 2 [.ref 2, .int z] M none (wg M 5 101 (fun b => M.1 5 b + f_blur ρ (f_max 1 (ρ 2 + bd b)) z)) := by
  refine AM_ofF (by decide +kernel) (Nat.le_of_ble_eq_true rfl) (fun X V C _ _ => ?_)
  show AW X V mX4_addBlurs.2.2.1 T0 M 0 0 _ 0 [(0, .ref 2), (1, .int z)] []
  refine ar_bipush (v := (-50)) C dX4_addBlurs_0 (by decide) ?_
  refine ar_istore_n (als' := [(2, .int (-50)), (0, .ref 2), (1, .int z)]) C dX4_addBlurs_2 rfl (by decide) rfl ?_
  refine ar_mem (wg M 5 0 (fun b => M.1 5 b + f_blur ρ (f_max 1 (ρ 2 + bd b)) z)) (wg_0 _ _ _).symm ?_
  exact l_addBlurs C M hρ z (fun bv => ar_return C rfl dX4_addBlurs_46 ⟨rfl, rfl, rfl⟩) 102 0 (by omega) (by omega)
set_option maxHeartbeats 4000000 in
set_option maxRecDepth 100000 in
theorem l_bestBend {X : Ctx} {V : Vx} {Q : State → Prop} (C : Cx X V mX4_bestBend 0) (M : Mm) (kk : ∀ v, AW X V mX4_bestBend.2.2.1 T0 M 0 0 Q 63 [(2, .int v), (1, .int (bd (bb (M.1 5) 50))), (0, .ref 2)] []) : ∀ (m : Nat) (s : Nat), s ≤ 50 → 50 - s < m → AW X V mX4_bestBend.2.2.1 T0 (M) 0 0 Q 4 [(2, .int (nI (s + 1))), (1, .int (bd (bb (M.1 5) s))), (0, .ref 2)] [] := by
  intro m
  induction m with
  | zero => intro s _ h; exact absurd h (Nat.not_lt_zero _)
  | succ m ih =>
    intro s hs0 hm
    refine ar_iload_n (n := 0) C dX4_bestBend_4 rfl rfl ?_
    refine ar_bipush (v := 50) C dX4_bestBend_5 (by decide) ?_
    refine ar_icmp_gt (tgt := 63) C dX4_bestBend_7 (by decide) (fun c_1 => ?_) (fun c_1 => ?_)
    · have hs : s = 50 := by have q := (nI_ltI (a := 50) (b := s + 1) (by omega) (by omega)).mp c_1; omega
      subst hs
      exact kk _
    · have hs : s < 50 := by
        rcases Nat.lt_or_ge s 50 with q | q
        · exact q
        · exact absurd (show nI 50 < nI (s + 1) from nI_lt (by omega) (by omega)) c_1
      have hb := bb_in (M.1 5) s (by omega)
      refine ar_aload_n (n := 2) C dX4_bestBend_10 rfl rfl ?_
      refine ar_getr C flX4_18 rfl kd_2 rf_2_2 dX4_bestBend_11 ?_
      refine ar_bipush (v := 50) C dX4_bestBend_14 (by decide) ?_
      refine ar_iload_n (n := 0) C dX4_bestBend_16 rfl rfl ?_
      refine ar_isub C dX4_bestBend_17 ?_
      refine ar_iald (j := 50 - (s + 1)) C kd_5 (pk_sub (a := 50) (by omega)) (by omega) dX4_bestBend_18 ?_
      refine ar_aload_n (n := 2) C dX4_bestBend_19 rfl rfl ?_
      refine ar_getr C flX4_18 rfl kd_2 rf_2_2 dX4_bestBend_20 ?_
      refine ar_bipush (v := 50) C dX4_bestBend_23 (by decide) ?_
      refine ar_iload_n (n := 1) C dX4_bestBend_25 rfl rfl ?_
      refine ar_iadd C dX4_bestBend_26 ?_
      refine ar_iald (j := bb (M.1 5) s) C kd_5 (bd_ix' _) (by omega) dX4_bestBend_27 ?_
      refine ar_icmp_ge (tgt := 34) C dX4_bestBend_28 (by decide) (fun c_2 => ?_) (fun c_2 => ?_)
      · refine ar_aload_n (n := 2) C dX4_bestBend_34 rfl rfl ?_
        refine ar_getr C flX4_18 rfl kd_2 rf_2_2 dX4_bestBend_35 ?_
        refine ar_bipush (v := 50) C dX4_bestBend_38 (by decide) ?_
        refine ar_iload_n (n := 0) C dX4_bestBend_40 rfl rfl ?_
        refine ar_iadd C dX4_bestBend_41 ?_
        refine ar_iald (j := 50 + (s + 1)) C kd_5 (nI_add 50 _) (by omega) dX4_bestBend_42 ?_
        refine ar_aload_n (n := 2) C dX4_bestBend_43 rfl rfl ?_
        refine ar_getr C flX4_18 rfl kd_2 rf_2_2 dX4_bestBend_44 ?_
        refine ar_bipush (v := 50) C dX4_bestBend_47 (by decide) ?_
        refine ar_iload_n (n := 1) C dX4_bestBend_49 rfl rfl ?_
        refine ar_iadd C dX4_bestBend_50 ?_
        refine ar_iald (j := bb (M.1 5) s) C kd_5 (bd_ix' _) (by omega) dX4_bestBend_51 ?_
        refine ar_icmp_ge (tgt := 57) C dX4_bestBend_52 (by decide) (fun c_3 => ?_) (fun c_3 => ?_)
        · refine ar_iinc (n := 0) (v := (nI (s + 1 + 1))) (als' := [(2, .int (nI (s + 1 + 1))), (1, .int (bd (bb (M.1 5) s))), (0, .ref 2)]) C dX4_bestBend_57 rfl (nI_1 _) (by decide) rfl ?_
          refine ar_goto (tgt := 4) C dX4_bestBend_60 (by decide) ?_
          have h := ih (s + 1) (by omega) (by omega)
          have e1 : bb1 (M.1 5) s (bb (M.1 5) s) = bb (M.1 5) s := by simp only [bb1]; rw [if_pos c_2]
          have e2 : bb (M.1 5) (s + 1) = bb (M.1 5) s := by simp only [bb]; rw [e1, if_pos c_3]
          rw [e2] at h
          exact h
        · refine ar_iload_n (n := 0) C dX4_bestBend_55 rfl rfl ?_
          refine ar_istore_n (als' := [(1, .int (nI (s + 1))), (2, .int (nI (s + 1))), (0, .ref 2)]) C dX4_bestBend_56 rfl (by decide) rfl ?_
          refine ar_als (als' := [(1, .int (bd (50 + (s + 1)))), (2, .int (nI (s + 1))), (0, .ref 2)]) (by rw [pos_nI (by omega)]) ?_
          refine ar_iinc (n := 1) (v := (nI (s + 1 + 1))) (als' := [(2, .int (nI (s + 1 + 1))), (1, .int (bd (50 + (s + 1)))), (0, .ref 2)]) C dX4_bestBend_57 rfl (nI_1 _) (by decide) rfl ?_
          refine ar_goto (tgt := 4) C dX4_bestBend_60 (by decide) ?_
          have h := ih (s + 1) (by omega) (by omega)
          have e1 : bb1 (M.1 5) s (bb (M.1 5) s) = bb (M.1 5) s := by simp only [bb1]; rw [if_pos c_2]
          have e2 : bb (M.1 5) (s + 1) = 50 + (s + 1) := by simp only [bb]; rw [e1, if_neg c_3]
          rw [e2] at h
          exact h
      · refine ar_iload_n (n := 0) C dX4_bestBend_31 rfl rfl ?_
        refine ar_ineg C dX4_bestBend_32 ?_
        refine ar_istore_n (als' := [(1, .int (-(nI (s + 1)))), (2, .int (nI (s + 1))), (0, .ref 2)]) C dX4_bestBend_33 rfl (by decide) rfl ?_
        refine ar_als (als' := [(1, .int (bd (50 - (s + 1)))), (2, .int (nI (s + 1))), (0, .ref 2)]) (by rw [neg_nI (by omega)]) ?_
        refine ar_aload_n (n := 2) C dX4_bestBend_34 rfl rfl ?_
        refine ar_getr C flX4_18 rfl kd_2 rf_2_2 dX4_bestBend_35 ?_
        refine ar_bipush (v := 50) C dX4_bestBend_38 (by decide) ?_
        refine ar_iload_n (n := 1) C dX4_bestBend_40 rfl rfl ?_
        refine ar_iadd C dX4_bestBend_41 ?_
        refine ar_iald (j := 50 + (s + 1)) C kd_5 (nI_add 50 _) (by omega) dX4_bestBend_42 ?_
        refine ar_aload_n (n := 2) C dX4_bestBend_43 rfl rfl ?_
        refine ar_getr C flX4_18 rfl kd_2 rf_2_2 dX4_bestBend_44 ?_
        refine ar_bipush (v := 50) C dX4_bestBend_47 (by decide) ?_
        refine ar_iload_n (n := 0) C dX4_bestBend_49 rfl rfl ?_
        refine ar_iadd C dX4_bestBend_50 ?_
        refine ar_iald (j := 50 - (s + 1)) C kd_5 (bd_ix' _) (by omega) dX4_bestBend_51 ?_
        refine ar_icmp_ge (tgt := 57) C dX4_bestBend_52 (by decide) (fun c_4 => ?_) (fun c_4 => ?_)
        · refine ar_iinc (n := 1) (v := (nI (s + 1 + 1))) (als' := [(2, .int (nI (s + 1 + 1))), (1, .int (bd (50 - (s + 1)))), (0, .ref 2)]) C dX4_bestBend_57 rfl (nI_1 _) (by decide) rfl ?_
          refine ar_goto (tgt := 4) C dX4_bestBend_60 (by decide) ?_
          have h := ih (s + 1) (by omega) (by omega)
          have e1 : bb1 (M.1 5) s (bb (M.1 5) s) = 50 - (s + 1) := by simp only [bb1]; rw [if_neg c_2]
          have e2 : bb (M.1 5) (s + 1) = 50 - (s + 1) := by simp only [bb]; rw [e1, if_pos c_4]
          rw [e2] at h
          exact h
        · refine ar_iload_n (n := 1) C dX4_bestBend_55 rfl rfl ?_
          refine ar_istore_n (als' := [(1, .int (nI (s + 1))), (2, .int (nI (s + 1))), (0, .ref 2)]) C dX4_bestBend_56 rfl (by decide) rfl ?_
          refine ar_als (als' := [(1, .int (bd (50 + (s + 1)))), (2, .int (nI (s + 1))), (0, .ref 2)]) (by rw [pos_nI (by omega)]) ?_
          refine ar_iinc (n := 1) (v := (nI (s + 1 + 1))) (als' := [(2, .int (nI (s + 1 + 1))), (1, .int (bd (50 + (s + 1)))), (0, .ref 2)]) C dX4_bestBend_57 rfl (nI_1 _) (by decide) rfl ?_
          refine ar_goto (tgt := 4) C dX4_bestBend_60 (by decide) ?_
          have h := ih (s + 1) (by omega) (by omega)
          have e1 : bb1 (M.1 5) s (bb (M.1 5) s) = 50 - (s + 1) := by simp only [bb1]; rw [if_neg c_2]
          have e2 : bb (M.1 5) (s + 1) = 50 + (s + 1) := by simp only [bb]; rw [e1, if_neg c_4]
          rw [e2] at h
          exact h
set_option maxHeartbeats 4000000 in
set_option maxRecDepth 100000 in
theorem k_bestBend (M : Mm) : AX mX4_bestBend 0 [.ref 2] M (some (.int (bd (bb (M.1 5) 50)))) M := by
  refine AM_ofF (by decide +kernel) (Nat.le_of_ble_eq_true rfl) (fun X V C _ _ => ?_)
  show AW X V mX4_bestBend.2.2.1 T0 M 0 0 _ 0 [(0, .ref 2)] []
  refine ar_iconst (v := 0) C dX4_bestBend_0 (by decide) ?_
  refine ar_istore_n (als' := [(1, .int 0), (0, .ref 2)]) C dX4_bestBend_1 rfl (by decide) rfl ?_
  refine ar_iconst (v := 1) C dX4_bestBend_2 (by decide) ?_
  refine ar_istore_n (als' := [(2, .int 1), (1, .int 0), (0, .ref 2)]) C dX4_bestBend_3 rfl (by decide) rfl ?_
  refine ar_als (als' := [(2, .int (nI (0 + 1))), (1, .int (bd (bb (M.1 5) 0))), (0, .ref 2)]) (by rw [show bd (bb (M.1 5) 0) = 0 from (by show bd 50 = 0; decide)]; rfl) ?_
  exact l_bestBend C M (fun v => ar_iload_n (n := 1) C dX4_bestBend_63 rfl rfl (ar_ireturn C rfl dX4_bestBend_64 ⟨rfl, rfl, rfl⟩)) 51 0 (by omega) (by omega)
