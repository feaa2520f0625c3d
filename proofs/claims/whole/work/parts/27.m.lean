/-! LENSTABLE: bent -/
theorem bb_c {f g : Nat → Int32} (h : ∀ t, t ≤ 100 → f t = g t) : ∀ s, s ≤ 50 → bb f s = bb g s
  | 0, _ => rfl
  | s + 1, hs => by
    have e := bb_c h s (by omega)
    have i1 := bb_in g s (by omega)
    have e1 : bb1 f s (bb f s) = bb1 g s (bb g s) := by
      rw [e]; unfold bb1; rw [h (bb g s) i1, h (50 - (s + 1)) (by omega)]
    have i2 : bb1 g s (bb g s) ≤ 100 := by unfold bb1; split <;> omega
    simp only [bb]
    rw [e1, h _ i2, h (50 + (s + 1)) (by omega)]
/-- the blurs of the things of a column, added, for the bend that place t stands for -/
def blS (ρ tx tz : Nat → Int32) (c : Int32) : Nat → Nat → Int32
  | 0, _ => 0
  | i + 1, t => if f_colc (f_by (-(tx i) * ρ 2) (tz i)) = c then blS ρ tx tz c i t + f_blur ρ (f_max 1 (ρ 2 + bd t)) (tz i) else blS ρ tx tz c i t
def nb (ρ tx tz : Nat → Int32) (N v : Nat) : Int32 := bd (bb (blS ρ tx tz (cv v) N) 50)
def BI (M : Mm) (β : Nat → Int32) (c : Int32) (i : Nat) (M1 : Mm) : Prop := (∀ t, t < 101 → M1.1 5 t = blS (M.1 3) (cTX M) (cTZ M) c i t) ∧ M1.1 4 = β ∧ ∀ k, k ≠ 4 → k ≠ 5 → M1.1 k = M.1 k
def BE (M : Mm) (N u : Nat) (M1 : Mm) : Prop := (∀ v, M1.1 4 v = if v < u then nb (M.1 3) (cTX M) (cTZ M) N v else M.1 4 v) ∧ ∀ k, k ≠ 4 → k ≠ 5 → M1.1 k = M.1 k
theorem BI_0 {M M1 : Mm} {c : Int32} (h : ∀ k, k ≠ 4 → k ≠ 5 → M1.1 k = M.1 k) : BI M (M1.1 4) c 0 (wf M1 5 101 0) := by
  refine ⟨fun t ht => ?_, ?_, fun k h1 h2 => ?_⟩
  · simp [wf, ht, blS]
  · funext b; simp [wf]
  · rw [← h k h1 h2]; funext b; simp [wf, h2]
theorem BI_no {M M1 : Mm} {β : Nat → Int32} {c : Int32} {i : Nat} (h : BI M β c i M1) (q : ¬ f_colc (f_by (-(cTX M i) * M.1 3 2) (cTZ M i)) = c) : BI M β c (i + 1) M1 := by
  refine ⟨fun t ht => ?_, h.2⟩
  rw [h.1 t ht]
  simp only [blS]
  rw [if_neg q]
theorem BI_yes {M M1 : Mm} {β : Nat → Int32} {c : Int32} {i : Nat} (h : BI M β c i M1) (q : f_colc (f_by (-(cTX M i) * M.1 3 2) (cTZ M i)) = c) : BI M β c (i + 1) (wg M1 5 101 (fun b => M1.1 5 b + f_blur (M.1 3) (f_max 1 (M.1 3 2 + bd b)) (cTZ M i))) := by
  refine ⟨fun t ht => ?_, ?_, fun k h1 h2 => ?_⟩
  · simp only [blS]
    rw [if_pos q, ← h.1 t ht]
    simp [wg, ht]
  · rw [← h.2.1]; funext b; simp [wg]
  · rw [← h.2.2 k h1 h2]; funext b; simp [wg, h2]
theorem BE_s {M M1 M2 : Mm} {N u : Nat} (hE : BE M N u M1) (h : BI M (M1.1 4) (cv u) N M2) : BE M N (u + 1) (wi M2 4 u (bd (bb (M2.1 5) 50))) := by
  refine ⟨fun v => ?_, fun k h1 h2 => ?_⟩
  · by_cases q : v = u
    · subst q
      rw [if_pos (by omega)]
      simp only [wi, nb]
      simp
      rw [bb_c (fun t ht => h.1 t (by omega)) 50 (by omega)]
    · have e : (wi M2 4 u (bd (bb (M2.1 5) 50))).1 4 v = M2.1 4 v := by simp [wi, q]
      rw [e, h.2.1, hE.1 v]
      by_cases r : v < u
      · rw [if_pos r, if_pos (by omega)]
      · rw [if_neg r, if_neg (by omega)]
  · rw [← h.2.2 k h1 h2]; funext b; simp [wi, h1]
set_option maxHeartbeats 4000000 in
set_option maxRecDepth 100000 in
theorem l_bentIn {X : Ctx} {V : Vx} {Q : State → Prop} (C : Cx X V mX11_bent 3) (M : Mm) {N : Nat} (hN : M.1 0 3 = nI N) (hN24 : N ≤ 24) (β : Nat → Int32) (c : Int32) (kk : ∀ M1, BI M β c N M1 → AW X V mX11_bent.2.2.1 T0 M1 0 0 Q 70 [(2, .int (nI N)), (1, .int c), (0, .ref 0)] []) : ∀ (m : Nat) (i : Nat) (M1 : Mm), i ≤ N → BI M β c i M1 → N - i < m → AW X V mX11_bent.2.2.1 T0 (M1) 0 0 Q 18 [(2, .int (nI i)), (1, .int c), (0, .ref 0)] [] := by
  intro m
  induction m with
  | zero => intro i M1 _ _ h; exact absurd h (Nat.not_lt_zero _)
  | succ m ih =>
    intro i M1 hi0 hB hmz
    refine ar_iload_n (n := 0) C dX11_bent_18 rfl rfl ?_
    refine ar_aload_n (n := 2) C dX11_bent_19 rfl rfl ?_
    refine ar_geti C flX11_28 kd_0 dX11_bent_20 ?_
    refine ar_topi (nI N) (by rw [hB.2.2 0 (by decide) (by decide)]; exact hN) ?_
    refine ar_icmp_ge (tgt := 70) C dX11_bent_23 (by decide) (fun c_1 => ?_) (fun c_1 => ?_)
    · have hi : i = N := Nat.le_antisymm hi0 (nat_le c_1 (by omega) (by omega))
      subst hi
      exact kk M1 hB
    · have hi : i < N := nat_nle c_1 (by omega) (by omega)
      refine ar_aload_n (n := 2) C dX11_bent_26 rfl rfl ?_
      refine ar_getr C flX11_18 rfl kd_0 rf_0_1 dX11_bent_27 ?_
      refine ar_getr C flX11_145 rfl kd_2 rf_2_0 dX11_bent_30 ?_
      refine ar_iconst (v := 2) C dX11_bent_33 (by decide) ?_
      refine ar_iald (j := 2) C kd_3 (by decide) (by decide) dX11_bent_34 ?_
      refine ar_topi (M.1 3 2) (by rw [hB.2.2 3 (by decide) (by decide)]) ?_
      refine ar_aload_n (n := 2) C dX11_bent_35 rfl rfl ?_
      refine ar_getr C flX11_24 rfl kd_0 rf_0_2 dX11_bent_36 ?_
      refine ar_iload_n (n := 0) C dX11_bent_39 rfl rfl ?_
      refine ar_aald (j := i) C kd_6 (by decide) (by decide) rfl (show i < 24 by omega) (rf_things (show i < 24 by omega)) dX11_bent_40 ?_
      refine cS1 (ar := [.int (M.1 3 2), .ref (38 + i)]) (st := []) C lkX11_200 (k_columnAt M1 (i := i) (by omega) (M.1 3 2) (x := cTX M i) (z := cTZ M i) (congrFun (hB.2.2 (38 + i) (by omega) (by omega)) 0) (congrFun (hB.2.2 (38 + i) (by omega) (by omega)) 2)) (by decide) rfl (Nat.le_of_ble_eq_true rfl) rfl dX11_bent_41 ?_
      refine ar_iload_n (n := 1) C dX11_bent_44 rfl rfl ?_
      refine ar_icmp_ne (tgt := 64) C dX11_bent_45 (by decide) (fun c_2 => ?_) (fun c_2 => ?_)
      · refine ar_iinc (n := 0) (v := (nI (i + 1))) (als' := [(2, .int (nI (i + 1))), (1, .int c), (0, .ref 0)]) C dX11_bent_64 rfl (nI_1 _) (by decide) rfl ?_
        refine ar_goto (tgt := 18) C dX11_bent_67 (by decide) ?_
        exact ih (i + 1) _ (by omega) (BI_no hB c_2) (by omega)
      · refine ar_aload_n (n := 2) C dX11_bent_48 rfl rfl ?_
        refine ar_getr C flX11_18 rfl kd_0 rf_0_1 dX11_bent_49 ?_
        refine ar_aload_n (n := 2) C dX11_bent_52 rfl rfl ?_
        refine ar_getr C flX11_24 rfl kd_0 rf_0_2 dX11_bent_53 ?_
        refine ar_iload_n (n := 0) C dX11_bent_56 rfl rfl ?_
        refine ar_aald (j := i) C kd_6 (by decide) (by decide) rfl (show i < 24 by omega) (rf_things (show i < 24 by omega)) dX11_bent_57 ?_
        refine ar_geti C flX11_172 (kd_thing (show i < 24 by omega)) dX11_bent_58 ?_
        refine ar_topi (cTZ M i) (by rw [hB.2.2 (38 + i) (by omega) (by omega)]) ?_
        refine cV0 (ar := [.int (cTZ M i)]) (st := []) C lkX11_203 kd_2 (k_addBlurs M1 (ρ := M.1 3) (hB.2.2 3 (by decide) (by decide)) (cTZ M i)) (by decide) rfl (Nat.le_of_ble_eq_true rfl) rfl dX11_bent_61 ?_
        refine ar_iinc (n := 0) (v := (nI (i + 1))) (als' := [(2, .int (nI (i + 1))), (1, .int c), (0, .ref 0)]) C dX11_bent_64 rfl (nI_1 _) (by decide) rfl ?_
        refine ar_goto (tgt := 18) C dX11_bent_67 (by decide) ?_
        exact ih (i + 1) _ (by omega) (BI_yes hB c_2) (by omega)
set_option maxHeartbeats 4000000 in
set_option maxRecDepth 100000 in
theorem l_bentOut {X : Ctx} {V : Vx} {Q : State → Prop} (C : Cx X V mX11_bent 3) (M : Mm) {N : Nat} (hN : M.1 0 3 = nI N) (hN24 : N ≤ 24) (kk : ∀ M1, BE M N 17 M1 → AW X V mX11_bent.2.2.1 T0 M1 0 0 Q 95 [(1, .int (cv 17)), (0, .ref 0)] []) : ∀ (m : Nat) (u : Nat) (M1 : Mm), u ≤ 17 → BE M N u M1 → 17 - u < m → AW X V mX11_bent.2.2.1 T0 (M1) 0 0 Q 3 [(1, .int (cv u)), (0, .ref 0)] [] := by
  intro m
  induction m with
  | zero => intro u M1 _ _ h; exact absurd h (Nat.not_lt_zero _)
  | succ m ih =>
    intro u M1 hu0 hE hmz
    refine ar_iload_n (n := 0) C dX11_bent_3 rfl rfl ?_
    refine ar_bipush (v := 8) C dX11_bent_4 (by decide) ?_
    refine ar_icmp_gt (tgt := 95) C dX11_bent_6 (by decide) (fun c_1 => ?_) (fun c_1 => ?_)
    · have hu : u = 17 := by have q := (cv_gt (by omega)).mp c_1; omega
      subst hu
      exact kk M1 hE
    · have hu : u < 17 := by
        rcases Nat.lt_or_ge u 17 with q | q
        · exact q
        · exact absurd ((cv_gt (by omega)).mpr (by omega)) c_1
      refine ar_aload_n (n := 1) C dX11_bent_9 rfl rfl ?_
      refine ar_getr C flX11_18 rfl kd_0 rf_0_1 dX11_bent_10 ?_
      refine cV0 (ar := []) (st := []) C lkX11_197 kd_2 (k_clearBlurs M1) (by decide) rfl (Nat.le_of_ble_eq_true rfl) rfl dX11_bent_13 ?_
      refine ar_iconst (v := 0) C dX11_bent_16 (by decide) ?_
      refine ar_istore_n (als' := [(2, .int 0), (1, .int (cv u)), (0, .ref 0)]) C dX11_bent_17 rfl (by decide) rfl ?_
      refine l_bentIn C M hN hN24 (M1.1 4) (cv u) (fun M2 hB => ?_) (N + 1) 0 _ (by omega) (BI_0 hE.2) (by omega)
      refine ar_aload_n (n := 2) C dX11_bent_70 rfl rfl ?_
      refine ar_getr C flX11_18 rfl kd_0 rf_0_1 dX11_bent_71 ?_
      refine ar_getr C flX11_148 rfl kd_2 rf_2_1 dX11_bent_74 ?_
      refine ar_iload_n (n := 1) C dX11_bent_77 rfl rfl ?_
      refine ar_bipush (v := 8) C dX11_bent_78 (by decide) ?_
      refine ar_iadd C dX11_bent_80 ?_
      refine ar_aload_n (n := 2) C dX11_bent_81 rfl rfl ?_
      refine ar_getr C flX11_18 rfl kd_0 rf_0_1 dX11_bent_82 ?_
      refine cV1 (ar := []) (st := [.int ((cv u) + 8), .ref 4]) C lkX11_207 kd_2 (k_bestBend M2) (by decide) rfl (Nat.le_of_ble_eq_true rfl) rfl dX11_bent_85 ?_
      refine ar_iast (j := u) C kd_4 (cv_ix u) hu dX11_bent_88 ?_
      refine ar_iinc (n := 1) (v := (cv (u + 1))) (als' := [(1, .int (cv (u + 1))), (2, .int (nI N)), (0, .ref 0)]) C dX11_bent_89 rfl (cv_1 _) (by decide) rfl ?_
      refine ar_goto (tgt := 3) C dX11_bent_92 (by decide) ?_
      refine ar_sub [0, 2] rfl ?_
      exact ih (u + 1) _ (by omega) (BE_s hE hB) (by omega)
set_option maxHeartbeats 4000000 in
set_option maxRecDepth 100000 in
theorem x_bent (M : Mm) {N : Nat} (hN : M.1 0 3 = nI N) (hN24 : N ≤ 24) : AQ mX11_bent 3 [.ref 0] M (some (.int (nI (cnt (nb (M.1 3) (cTX M) (cTZ M) N) 17)))) (BE M N 17) := by
  refine AM_ofF (by decide +kernel) (Nat.le_of_ble_eq_true rfl) (fun X V C _ _ => ?_)
  show AW X V mX11_bent.2.2.1 T0 M 0 0 _ 0 [(0, .ref 0)] []
  refine ar_bipush (v := (-8)) C dX11_bent_0 (by decide) ?_
  refine ar_istore_n (als' := [(1, .int (-8)), (0, .ref 0)]) C dX11_bent_2 rfl (by decide) rfl ?_
  refine l_bentOut C M hN hN24 (fun M1 hE => ?_) 18 0 M (by omega) ⟨fun v => by simp, fun _ _ _ => rfl⟩ (by omega)
  refine ar_aload_n (n := 1) C dX11_bent_95 rfl rfl ?_
  refine ar_getr C flX11_18 rfl kd_0 rf_0_1 dX11_bent_96 ?_
  refine cV1 (ar := []) (st := []) C lkX11_210 kd_2 (k_bendsMade M1) (by decide) rfl (Nat.le_of_ble_eq_true rfl) rfl dX11_bent_99 ?_
  exact ar_ireturn C rfl dX11_bent_102 ⟨by rw [cnt_c (fun k hk => by rw [hE.1 k, if_pos hk])], rfl, hE⟩
