/-! JOINT, SIGHT, BODIES -/
def cm (h1 h2 : Nat → Int32) : Nat → Nat
  | 0 => 0
  | i + 1 => if h1 i = 0 then cm h1 h2 i else if h2 i = 0 then cm h1 h2 i else cm h1 h2 i + 1
theorem cm_le (h1 h2 : Nat → Int32) : ∀ i, cm h1 h2 i ≤ i
  | 0 => Nat.le_refl 0
  | i + 1 => by
    have h := cm_le h1 h2 i
    simp only [cm]
    split
    · omega
    · split <;> omega
def jr (h1 h2 d f0 : Nat → Int32) : Nat → (Nat → Int32)
  | 0 => f0
  | i + 1 => if h1 i = 0 then jr h1 h2 d f0 i else if h2 i = 0 then jr h1 h2 d f0 i else insF (d i) (cm h1 h2 i) (jr h1 h2 d f0 i)
def JT (M : Mm) (h1 h2 dx dy : Nat → Int32) (i : Nat) (M1 : Mm) : Prop := M1.1 10 1 = nI (cm h1 h2 i) ∧ M1.1 12 1 = nI (cm h1 h2 i) ∧ M1.1 11 = jr h1 h2 dx (M.1 11) i ∧ M1.1 13 = jr h1 h2 dy (M.1 13) i ∧ (∀ k, k ≠ 10 → k ≠ 11 → k ≠ 12 → k ≠ 13 → M1.1 k = M.1 k) ∧ M1.2 = M.2
theorem JT_0 (M : Mm) (h1 h2 dx dy : Nat → Int32) : JT M h1 h2 dx dy 0 (wi (wi M 10 1 0) 12 1 0) := by
  refine ⟨?_, ?_, ?_, ?_, ?_, rfl⟩
  · simp [wi, cm, nI_0]
  · simp [wi, cm, nI_0]
  · funext b; simp [wi, jr]
  · funext b; simp [wi, jr]
  · intro k a1 a2 a3 a4; funext b; simp [wi, a1, a3]
theorem JT_no {M M1 : Mm} {h1 h2 dx dy : Nat → Int32} {i : Nat} (h : h1 i = 0 ∨ h2 i = 0) (hJ : JT M h1 h2 dx dy i M1) : JT M h1 h2 dx dy (i + 1) M1 := by
  have e1 : cm h1 h2 (i + 1) = cm h1 h2 i := by
    simp only [cm]
    rcases h with h | h
    · rw [if_pos h]
    · rw [if_pos h]; split <;> rfl
  have e2 : ∀ d f0, jr h1 h2 d f0 (i + 1) = jr h1 h2 d f0 i := by
    intro d f0
    simp only [jr]
    rcases h with h | h
    · rw [if_pos h]
    · rw [if_pos h]; split <;> rfl
  unfold JT
  rw [e1, e2, e2]
  exact hJ
theorem JT_yes {M M1 : Mm} {h1 h2 dx dy : Nat → Int32} {i : Nat} (n1 : ¬ h1 i = 0) (n2 : ¬ h2 i = 0) (hJ : JT M h1 h2 dx dy i M1) :
    JT M h1 h2 dx dy (i + 1) (wi (wrow (wi (wrow M1 11 (insF (dx i) (cm h1 h2 i) (M1.1 11))) 10 1 (nI (cm h1 h2 i + 1))) 13 (insF (dy i) (cm h1 h2 i) ((wi (wrow M1 11 (insF (dx i) (cm h1 h2 i) (M1.1 11))) 10 1 (nI (cm h1 h2 i + 1))).1 13))) 12 1 (nI (cm h1 h2 i + 1))) := by
  have e1 : cm h1 h2 (i + 1) = cm h1 h2 i + 1 := by simp only [cm]; rw [if_neg n1, if_neg n2]
  have e2 : ∀ d f0, jr h1 h2 d f0 (i + 1) = insF (d i) (cm h1 h2 i) (jr h1 h2 d f0 i) := by intro d f0; simp only [jr]; rw [if_neg n1, if_neg n2]
  obtain ⟨a1, a2, a3, a4, a5, a6⟩ := hJ
  refine ⟨?_, ?_, ?_, ?_, ?_, a6⟩
  · rw [e1]; simp [wi, wrow]
  · rw [e1]; simp [wi, wrow]
  · rw [e2, ← a3]; funext b; simp [wi, wrow]
  · rw [e2, ← a4]; funext b; simp only [wi, wrow]; simp
  · intro k b1 b2 b3 b4
    rw [← a5 k b1 b2 b3 b4]
    funext b
    simp [wi, wrow, b1, b2, b3, b4]
theorem JT_far {M M1 : Mm} {h1 h2 dx dy f : Nat → Int32} {i k j : Nat} {v : Int32} (hJ : JT M h1 h2 dx dy i M1) (a1 : k ≠ 10) (a2 : k ≠ 11) (a3 : k ≠ 12) (a4 : k ≠ 13) : (wi (wrow M1 11 f) 10 1 v).1 k j = M.1 k j := by
  rw [← hJ.2.2.2.2.1 k a1 a2 a3 a4]
  simp [wi, wrow, a1, a2]
set_option maxHeartbeats 4000000 in
set_option maxRecDepth 100000 in
theorem l_jtake {X : Ctx} {V : Vx} {Q : State → Prop} (C : Cx X V mX1_take 1) (M : Mm) {a b : Nat} (ha : a < 8) (hb : b < 8) (kk : ∀ M1, JT M (M.1 (63 + 4 * a)) (M.1 (63 + 4 * b)) (fun j => M.1 (64 + 4 * a) j - M.1 (64 + 4 * b) j) (fun j => M.1 (65 + 4 * a) j - M.1 (65 + 4 * b) j) 24 M1 → AW X V mX1_take.2.2.1 T0 M1 0 0 Q 88 [(3, .int (nI 24)), (0, .ref 9), (1, .ref (62 + 4 * a)), (2, .ref (62 + 4 * b))] []) : ∀ (m : Nat) (i : Nat) (M1 : Mm), i ≤ 24 → JT M (M.1 (63 + 4 * a)) (M.1 (63 + 4 * b)) (fun j => M.1 (64 + 4 * a) j - M.1 (64 + 4 * b) j) (fun j => M.1 (65 + 4 * a) j - M.1 (65 + 4 * b) j) i M1 → 24 - i < m → AW X V mX1_take.2.2.1 T0 (M1) 0 0 Q 18 [(3, .int (nI i)), (0, .ref 9), (1, .ref (62 + 4 * a)), (2, .ref (62 + 4 * b))] [] := by
  intro m
  induction m with
  | zero => intro i M1 _ _ h; exact absurd h (Nat.not_lt_zero _)
  | succ m ih =>
    intro i M1 hi0 hJ hmz
    refine ar_iload_n (n := 0) C dX1_take_18 rfl rfl ?_
    refine ar_bipush (v := 24) C dX1_take_19 (by decide) ?_
    refine ar_icmp_ge (tgt := 88) C dX1_take_21 (by decide) (fun c_1 => ?_) (fun c_1 => ?_)
    · have hi : i = 24 := Nat.le_antisymm hi0 (nat_le (a := 24) c_1 (by decide) (by omega))
      subst hi
      exact kk M1 hJ
    · have hi : i < 24 := nat_nle (a := 24) c_1 (by decide) (by omega)
      have hc := cm_le (M.1 (63 + 4 * a)) (M.1 (63 + 4 * b)) i
      refine ar_aload_n (n := 2) C dX1_take_24 rfl rfl ?_
      refine ar_getr C flX1_25 rfl (kd_trace ha) (rf_has ha) dX1_take_25 ?_
      refine ar_iload_n (n := 0) C dX1_take_28 rfl rfl ?_
      refine ar_zald (j := i) C (kd_has ha) rfl hi dX1_take_29 ?_
      refine ar_topi (M.1 (63 + 4 * a) i) (by rw [hJ.2.2.2.2.1 _ (by omega) (by omega) (by omega) (by omega)]) ?_
      refine ar_if_eq (tgt := 82) C dX1_take_30 (by decide) (fun c_2 => ?_) (fun c_2 => ?_)
      · refine ar_iinc (n := 0) (v := (nI (i + 1))) (als' := [(3, .int (nI (i + 1))), (0, .ref 9), (1, .ref (62 + 4 * a)), (2, .ref (62 + 4 * b))]) C dX1_take_82 rfl (nI_1 _) (by decide) rfl ?_
        refine ar_goto (tgt := 18) C dX1_take_85 (by decide) ?_
        exact ih (i + 1) M1 (by omega) (JT_no (Or.inl c_2) hJ) (by omega)
      · refine ar_aload_n (n := 3) C dX1_take_33 rfl rfl ?_
        refine ar_getr C flX1_25 rfl (kd_trace hb) (rf_has hb) dX1_take_34 ?_
        refine ar_iload_n (n := 0) C dX1_take_37 rfl rfl ?_
        refine ar_zald (j := i) C (kd_has hb) rfl hi dX1_take_38 ?_
        refine ar_topi (M.1 (63 + 4 * b) i) (by rw [hJ.2.2.2.2.1 _ (by omega) (by omega) (by omega) (by omega)]) ?_
        refine ar_if_eq (tgt := 82) C dX1_take_39 (by decide) (fun c_3 => ?_) (fun c_3 => ?_)
        · refine ar_iinc (n := 0) (v := (nI (i + 1))) (als' := [(3, .int (nI (i + 1))), (0, .ref 9), (1, .ref (62 + 4 * a)), (2, .ref (62 + 4 * b))]) C dX1_take_82 rfl (nI_1 _) (by decide) rfl ?_
          refine ar_goto (tgt := 18) C dX1_take_85 (by decide) ?_
          exact ih (i + 1) M1 (by omega) (JT_no (Or.inr c_3) hJ) (by omega)
        · refine ar_aload_n (n := 1) C dX1_take_42 rfl rfl ?_
          refine ar_getr C flX1_12 rfl kd_9 rf_9_0 dX1_take_43 ?_
          refine ar_aload_n (n := 2) C dX1_take_46 rfl rfl ?_
          refine ar_getr C flX1_31 rfl (kd_trace ha) (rf_tx ha) dX1_take_47 ?_
          refine ar_iload_n (n := 0) C dX1_take_50 rfl rfl ?_
          refine ar_iald (j := i) C (kd_tx ha) rfl hi dX1_take_51 ?_
          refine ar_topi (M.1 (64 + 4 * a) i) (by rw [hJ.2.2.2.2.1 _ (by omega) (by omega) (by omega) (by omega)]) ?_
          refine ar_aload_n (n := 3) C dX1_take_52 rfl rfl ?_
          refine ar_getr C flX1_31 rfl (kd_trace hb) (rf_tx hb) dX1_take_53 ?_
          refine ar_iload_n (n := 0) C dX1_take_56 rfl rfl ?_
          refine ar_iald (j := i) C (kd_tx hb) rfl hi dX1_take_57 ?_
          refine ar_topi (M.1 (64 + 4 * b) i) (by rw [hJ.2.2.2.2.1 _ (by omega) (by omega) (by omega) (by omega)]) ?_
          refine ar_isub C dX1_take_58 ?_
          refine cV0 (ar := [.int ((M.1 (64 + 4 * a) i) - (M.1 (64 + 4 * b) i))]) (st := []) C lkX1_35 kd_10 (k_insert (k := 10) (n := cm (M.1 (63 + 4 * a)) (M.1 (63 + 4 * b)) i) M1 rowc_10 hJ.1 (by omega) ((M.1 (64 + 4 * a) i) - (M.1 (64 + 4 * b) i))) (by decide) rfl (Nat.le_of_ble_eq_true rfl) rfl dX1_take_59 ?_
          refine ar_aload_n (n := 1) C dX1_take_62 rfl rfl ?_
          refine ar_getr C flX1_18 rfl kd_9 rf_9_1 dX1_take_63 ?_
          refine ar_aload_n (n := 2) C dX1_take_66 rfl rfl ?_
          refine ar_getr C flX1_39 rfl (kd_trace ha) (rf_ty ha) dX1_take_67 ?_
          refine ar_iload_n (n := 0) C dX1_take_70 rfl rfl ?_
          refine ar_iald (j := i) C (kd_ty ha) rfl hi dX1_take_71 ?_
          refine ar_topi (M.1 (65 + 4 * a) i) (JT_far hJ (by omega) (by omega) (by omega) (by omega)) ?_
          refine ar_aload_n (n := 3) C dX1_take_72 rfl rfl ?_
          refine ar_getr C flX1_39 rfl (kd_trace hb) (rf_ty hb) dX1_take_73 ?_
          refine ar_iload_n (n := 0) C dX1_take_76 rfl rfl ?_
          refine ar_iald (j := i) C (kd_ty hb) rfl hi dX1_take_77 ?_
          refine ar_topi (M.1 (65 + 4 * b) i) (JT_far hJ (by omega) (by omega) (by omega) (by omega)) ?_
          refine ar_isub C dX1_take_78 ?_
          refine cV0 (ar := [.int ((M.1 (65 + 4 * a) i) - (M.1 (65 + 4 * b) i))]) (st := []) C lkX1_35 kd_12 (k_insert (k := 12) (n := cm (M.1 (63 + 4 * a)) (M.1 (63 + 4 * b)) i) (wi (wrow M1 11 (insF ((M.1 (64 + 4 * a) i) - (M.1 (64 + 4 * b) i)) (cm (M.1 (63 + 4 * a)) (M.1 (63 + 4 * b)) i) (M1.1 11))) 10 1 (nI (cm (M.1 (63 + 4 * a)) (M.1 (63 + 4 * b)) i + 1))) rowc_12 (show (wi _ 10 1 _).1 12 1 = _ by simp only [wi, wrow]; exact hJ.2.1) (by omega) ((M.1 (65 + 4 * a) i) - (M.1 (65 + 4 * b) i))) (by decide) rfl (Nat.le_of_ble_eq_true rfl) rfl dX1_take_79 ?_
          refine ar_iinc (n := 0) (v := (nI (i + 1))) (als' := [(3, .int (nI (i + 1))), (0, .ref 9), (1, .ref (62 + 4 * a)), (2, .ref (62 + 4 * b))]) C dX1_take_82 rfl (nI_1 _) (by decide) rfl ?_
          refine ar_goto (tgt := 18) C dX1_take_85 (by decide) ?_
          exact ih (i + 1) _ (by omega) (JT_yes c_2 c_3 hJ) (by omega)
set_option maxHeartbeats 4000000 in
set_option maxRecDepth 100000 in
theorem k_jtake (M : Mm) {a b : Nat} (ha : a < 8) (hb : b < 8) : AQ mX1_take 1 [.ref 9, .ref (62 + 4 * a), .ref (62 + 4 * b)] M none (JT M (M.1 (63 + 4 * a)) (M.1 (63 + 4 * b)) (fun j => M.1 (64 + 4 * a) j - M.1 (64 + 4 * b) j) (fun j => M.1 (65 + 4 * a) j - M.1 (65 + 4 * b) j) 24) := by
  refine AM_ofF (by decide +kernel) (Nat.le_of_ble_eq_true rfl) (fun X V C _ _ => ?_)
  show AW X V mX1_take.2.2.1 T0 M 0 0 _ 0 [(0, .ref 9), (1, .ref (62 + 4 * a)), (2, .ref (62 + 4 * b))] []
  refine ar_aload_n (n := 0) C dX1_take_0 rfl rfl ?_
  refine ar_getr C flX1_12 rfl kd_9 rf_9_0 dX1_take_1 ?_
  refine ar_iconst (v := 0) C dX1_take_4 (by decide) ?_
  refine ar_puti C flX1_21 kd_10 dX1_take_5 ?_
  refine ar_aload_n (n := 0) C dX1_take_8 rfl rfl ?_
  refine ar_getr C flX1_18 rfl kd_9 rf_9_1 dX1_take_9 ?_
  refine ar_iconst (v := 0) C dX1_take_12 (by decide) ?_
  refine ar_puti C flX1_21 kd_12 dX1_take_13 ?_
  refine ar_iconst (v := 0) C dX1_take_16 (by decide) ?_
  refine ar_istore_n (als' := [(3, .int 0), (0, .ref 9), (1, .ref (62 + 4 * a)), (2, .ref (62 + 4 * b))]) C dX1_take_17 rfl (by decide) rfl ?_
  exact l_jtake C M ha hb (fun M1 h => ar_return C rfl dX1_take_88 ⟨rfl, rfl, h⟩) 25 0 _ (by omega) (JT_0 _ _ _ _ _) (by omega)
set_option maxHeartbeats 4000000 in
set_option maxRecDepth 100000 in
theorem k_jcommon (M : Mm) : AX mX1_common 0 [.ref 9] M (some (.int (M.1 10 1))) M := by
  refine AM_ofF (by decide +kernel) (Nat.le_of_ble_eq_true rfl) (fun X V C _ _ => ?_)
  show AW X V mX1_common.2.2.1 T0 M 0 0 _ 0 [(0, .ref 9)] []
  refine ar_aload_n (n := 0) C dX1_common_0 rfl rfl ?_
  refine ar_getr C flX1_12 rfl kd_9 rf_9_0 dX1_common_1 ?_
  refine ar_geti C flX1_21 kd_10 dX1_common_4 ?_
  exact ar_ireturn C rfl dX1_common_7 ⟨rfl, rfl, rfl⟩
set_option maxHeartbeats 4000000 in
set_option maxRecDepth 100000 in
theorem k_jacross (M : Mm) {n : Nat} (hm : M.1 10 1 = nI n) (hn : n ≤ 24) : AX mX1_acrossShift 1 [.ref 9] M (some (.int (f_mid (M.1 11) n))) M := by
  refine AM_ofF (by decide +kernel) (Nat.le_of_ble_eq_true rfl) (fun X V C _ _ => ?_)
  show AW X V mX1_acrossShift.2.2.1 T0 M 0 0 _ 0 [(0, .ref 9)] []
  refine ar_aload_n (n := 0) C dX1_acrossShift_0 rfl rfl ?_
  refine ar_getr C flX1_12 rfl kd_9 rf_9_0 dX1_acrossShift_1 ?_
  refine cV1 (ar := []) (st := []) C lkX1_42 kd_10 (k_middle (k := 10) M rowc_10 hm hn) (by decide) rfl (Nat.le_of_ble_eq_true rfl) rfl dX1_acrossShift_4 ?_
  exact ar_ireturn C rfl dX1_acrossShift_7 ⟨rfl, rfl, rfl⟩
set_option maxHeartbeats 4000000 in
set_option maxRecDepth 100000 in
theorem k_jup (M : Mm) {n : Nat} (hm : M.1 12 1 = nI n) (hn : n ≤ 24) : AX mX1_upShift 1 [.ref 9] M (some (.int (f_mid (M.1 13) n))) M := by
  refine AM_ofF (by decide +kernel) (Nat.le_of_ble_eq_true rfl) (fun X V C _ _ => ?_)
  show AW X V mX1_upShift.2.2.1 T0 M 0 0 _ 0 [(0, .ref 9)] []
  refine ar_aload_n (n := 0) C dX1_upShift_0 rfl rfl ?_
  refine ar_getr C flX1_18 rfl kd_9 rf_9_1 dX1_upShift_1 ?_
  refine cV1 (ar := []) (st := []) C lkX1_42 kd_12 (k_middle (k := 12) M rowc_12 hm hn) (by decide) rfl (Nat.le_of_ble_eq_true rfl) rfl dX1_upShift_4 ?_
  exact ar_ireturn C rfl dX1_upShift_7 ⟨rfl, rfl, rfl⟩
set_option maxHeartbeats 4000000 in
set_option maxRecDepth 100000 in
theorem k_jmis (M : Mm) {n : Nat} (hm : M.1 10 1 = nI n) (hm2 : M.1 12 1 = nI n) (hn : n ≤ 24) : AX mX1_misfit 2 [.ref 9] M (some (.int (f_mis (M.1 11) n + f_mis (M.1 13) n))) M := by
  refine AM_ofF (by decide +kernel) (Nat.le_of_ble_eq_true rfl) (fun X V C _ _ => ?_)
  show AW X V mX1_misfit.2.2.1 T0 M 0 0 _ 0 [(0, .ref 9)] []
  refine ar_aload_n (n := 0) C dX1_misfit_0 rfl rfl ?_
  refine ar_getr C flX1_12 rfl kd_9 rf_9_0 dX1_misfit_1 ?_
  refine cV1 (ar := []) (st := []) C lkX1_46 kd_10 (k_rmis (k := 10) M rowc_10 hm hn) (by decide) rfl (Nat.le_of_ble_eq_true rfl) rfl dX1_misfit_4 ?_
  refine ar_aload_n (n := 0) C dX1_misfit_7 rfl rfl ?_
  refine ar_getr C flX1_18 rfl kd_9 rf_9_1 dX1_misfit_8 ?_
  refine cV1 (ar := []) (st := [.int (f_mis (M.1 11) n)]) C lkX1_46 kd_12 (k_rmis (k := 12) M rowc_12 hm2 hn) (by decide) rfl (Nat.le_of_ble_eq_true rfl) rfl dX1_misfit_11 ?_
  refine ar_iadd C dX1_misfit_14 ?_
  exact ar_ireturn C rfl dX1_misfit_15 ⟨rfl, rfl, rfl⟩
/-- a body begins: its number into the trace -/
def bg (M : Mm) (t : Nat) (v : Int32) : Mm := wi (wi M 21 t v) 20 1 (nI (t + 1))
theorem bg_z (M : Mm) (t : Nat) (v : Int32) {j : Nat} (h : j ≠ 1) : (bg M t v).1 20 j = M.1 20 j := by simp [bg, wi, h]
theorem bg_1 (M : Mm) (t : Nat) (v : Int32) : (bg M t v).1 20 1 = nI (t + 1) := by simp [bg, wi]
set_option maxHeartbeats 4000000 in
set_option maxRecDepth 100000 in
theorem k_begin (M : Mm) {t : Nat} (ht : M.1 20 1 = nI t) (h16 : t < 16) (v : Int32) : AX mX0_begin 0 [.ref 20, .int v] M none (bg M t v) := by
  refine AM_ofF (by decide +kernel) (Nat.le_of_ble_eq_true rfl) (fun X V C _ _ => ?_)
  show AW X V mX0_begin.2.2.1 T0 M 0 0 _ 0 [(0, .ref 20), (1, .int v)] []
  refine ar_aload_n (n := 0) C dX0_begin_0 rfl rfl ?_
  refine ar_geti C flX0_15 kd_20 dX0_begin_1 ?_
  refine ar_topi (nI t) ht ?_
  refine ar_aload_n (n := 0) C dX0_begin_4 rfl rfl ?_
  refine ar_getr C flX0_9 rfl kd_20 rf_20_0 dX0_begin_5 ?_
  refine ar_alen C kd_21 dX0_begin_8 ?_
  refine ar_icmp_ge (tgt := 32) C dX0_begin_9 (by decide) (fun c_1 => False.elim (nI_ge (a := t) (b := 16) h16 (by decide) c_1)) (fun _ => ?_)
  refine ar_aload_n (n := 0) C dX0_begin_12 rfl rfl ?_
  refine ar_getr C flX0_9 rfl kd_20 rf_20_0 dX0_begin_13 ?_
  refine ar_aload_n (n := 0) C dX0_begin_16 rfl rfl ?_
  refine ar_geti C flX0_15 kd_20 dX0_begin_17 ?_
  refine ar_topi (nI t) ht ?_
  refine ar_iload_n (n := 1) C dX0_begin_20 rfl rfl ?_
  refine ar_iast (j := t) C kd_21 rfl h16 dX0_begin_21 ?_
  refine ar_aload_n (n := 0) C dX0_begin_22 rfl rfl ?_
  refine ar_dup C dX0_begin_23 rfl ?_
  refine ar_getiV (v := M.1 20 1) C flX0_15 kd_20 (by simp [wi, wl]; try omega) dX0_begin_24 ?_
  refine ar_topi (nI t) (by simp [wi, ht]) ?_
  refine ar_iconst (v := 1) C dX0_begin_27 (by decide) ?_
  refine ar_iadd C dX0_begin_28 ?_
  refine ar_topi (nI (t + 1)) (nI_1 t) ?_
  refine ar_puti C flX0_15 kd_20 dX0_begin_29 ?_
  exact ar_return C rfl dX0_begin_32 ⟨rfl, rfl, rfl⟩
set_option maxHeartbeats 4000000 in
set_option maxRecDepth 100000 in
theorem k_face (M : Mm) (z c b : Int32) : AX mX0_face 0 [.ref 20, .int z, .int c, .int b] M none (wi (wi (wi (wi M 20 1 0) 20 2 z) 20 3 c) 20 4 b) := by
  refine AM_ofF (by decide +kernel) (Nat.le_of_ble_eq_true rfl) (fun X V C _ _ => ?_)
  show AW X V mX0_face.2.2.1 T0 M 0 0 _ 0 [(0, .ref 20), (1, .int z), (2, .int c), (3, .int b)] []
  refine ar_aload_n (n := 0) C dX0_face_0 rfl rfl ?_
  refine ar_iconst (v := 0) C dX0_face_1 (by decide) ?_
  refine ar_puti C flX0_15 kd_20 dX0_face_2 ?_
  refine ar_aload_n (n := 0) C dX0_face_5 rfl rfl ?_
  refine ar_iload_n (n := 1) C dX0_face_6 rfl rfl ?_
  refine ar_puti C flX0_19 kd_20 dX0_face_7 ?_
  refine ar_aload_n (n := 0) C dX0_face_10 rfl rfl ?_
  refine ar_iload_n (n := 2) C dX0_face_11 rfl rfl ?_
  refine ar_puti C flX0_22 kd_20 dX0_face_12 ?_
  refine ar_aload_n (n := 0) C dX0_face_15 rfl rfl ?_
  refine ar_iload_n (n := 3) C dX0_face_16 rfl rfl ?_
  refine ar_puti C flX0_25 kd_20 dX0_face_17 ?_
  exact ar_return C rfl dX0_face_20 ⟨rfl, rfl, rfl⟩
set_option maxHeartbeats 4000000 in
set_option maxRecDepth 100000 in
theorem k_szLent (M : Mm) {t : Nat} (ht : M.1 20 1 = nI t) (h16 : t + 1 ≤ 16) : AX mX0_sizeLent 1 [.ref 20] M (some (.int (M.1 20 2))) (bg M t 10) := by
  refine AM_ofF (by decide +kernel) (Nat.le_of_ble_eq_true rfl) (fun X V C _ _ => ?_)
  show AW X V mX0_sizeLent.2.2.1 T0 M 0 0 _ 0 [(0, .ref 20)] []
  refine ar_aload_n (n := 0) C dX0_sizeLent_0 rfl rfl ?_
  refine ar_bipush (v := 10) C dX0_sizeLent_1 (by decide) ?_
  refine cV0 (ar := [.int 10]) (st := []) C lkX0_53 kd_20 (k_begin (t := t) M ht (by omega) 10) (by decide) rfl (Nat.le_of_ble_eq_true rfl) rfl dX0_sizeLent_3 ?_
  refine ar_aload_n (n := 0) C dX0_sizeLent_6 rfl rfl ?_
  refine ar_geti C flX0_19 kd_20 dX0_sizeLent_7 ?_
  exact ar_ireturn C rfl dX0_sizeLent_10 ⟨by simp [bg_z], rfl, rfl⟩
set_option maxHeartbeats 4000000 in
set_option maxRecDepth 100000 in
theorem k_sgLent (M : Mm) {t : Nat} (ht : M.1 20 1 = nI t) (h16 : t + 1 ≤ 16) : AX mX0_signLent 1 [.ref 20] M (some (.int (M.1 20 3))) (bg M t 20) := by
  refine AM_ofF (by decide +kernel) (Nat.le_of_ble_eq_true rfl) (fun X V C _ _ => ?_)
  show AW X V mX0_signLent.2.2.1 T0 M 0 0 _ 0 [(0, .ref 20)] []
  refine ar_aload_n (n := 0) C dX0_signLent_0 rfl rfl ?_
  refine ar_bipush (v := 20) C dX0_signLent_1 (by decide) ?_
  refine cV0 (ar := [.int 20]) (st := []) C lkX0_53 kd_20 (k_begin (t := t) M ht (by omega) 20) (by decide) rfl (Nat.le_of_ble_eq_true rfl) rfl dX0_signLent_3 ?_
  refine ar_aload_n (n := 0) C dX0_signLent_6 rfl rfl ?_
  refine ar_geti C flX0_22 kd_20 dX0_signLent_7 ?_
  exact ar_ireturn C rfl dX0_signLent_10 ⟨by simp [bg_z], rfl, rfl⟩
set_option maxHeartbeats 4000000 in
set_option maxRecDepth 100000 in
theorem k_szSeen (M : Mm) {t : Nat} (ht : M.1 20 1 = nI t) (h16 : t + 2 ≤ 16) : AX mX0_sizeOfSeen 2 [.ref 20] M (some (.int (M.1 20 2 + M.1 20 4))) (bg (bg M t 11) (t + 1) 10) := by
  refine AM_ofF (by decide +kernel) (Nat.le_of_ble_eq_true rfl) (fun X V C _ _ => ?_)
  show AW X V mX0_sizeOfSeen.2.2.1 T0 M 0 0 _ 0 [(0, .ref 20)] []
  refine ar_aload_n (n := 0) C dX0_sizeOfSeen_0 rfl rfl ?_
  refine ar_bipush (v := 11) C dX0_sizeOfSeen_1 (by decide) ?_
  refine cV0 (ar := [.int 11]) (st := []) C lkX0_53 kd_20 (k_begin (t := t) M ht (by omega) 11) (by decide) rfl (Nat.le_of_ble_eq_true rfl) rfl dX0_sizeOfSeen_3 ?_
  refine ar_aload_n (n := 0) C dX0_sizeOfSeen_6 rfl rfl ?_
  refine cV1 (ar := []) (st := []) C lkX0_38 kd_20 (k_szLent (t := (t + 1)) (bg M t 11) (bg_1 _ _ _) (by omega)) (by decide) rfl (Nat.le_of_ble_eq_true rfl) rfl dX0_sizeOfSeen_7 ?_
  refine ar_aload_n (n := 0) C dX0_sizeOfSeen_10 rfl rfl ?_
  refine ar_geti C flX0_25 kd_20 dX0_sizeOfSeen_11 ?_
  refine ar_iadd C dX0_sizeOfSeen_14 ?_
  exact ar_ireturn C rfl dX0_sizeOfSeen_15 ⟨by simp [bg_z], rfl, rfl⟩
set_option maxHeartbeats 4000000 in
set_option maxRecDepth 100000 in
theorem k_sgSeen (M : Mm) {t : Nat} (ht : M.1 20 1 = nI t) (h16 : t + 2 ≤ 16) : AX mX0_signOfSeen 2 [.ref 20] M (some (.int (M.1 20 3 + 100))) (bg (bg M t 21) (t + 1) 20) := by
  refine AM_ofF (by decide +kernel) (Nat.le_of_ble_eq_true rfl) (fun X V C _ _ => ?_)
  show AW X V mX0_signOfSeen.2.2.1 T0 M 0 0 _ 0 [(0, .ref 20)] []
  refine ar_aload_n (n := 0) C dX0_signOfSeen_0 rfl rfl ?_
  refine ar_bipush (v := 21) C dX0_signOfSeen_1 (by decide) ?_
  refine cV0 (ar := [.int 21]) (st := []) C lkX0_53 kd_20 (k_begin (t := t) M ht (by omega) 21) (by decide) rfl (Nat.le_of_ble_eq_true rfl) rfl dX0_signOfSeen_3 ?_
  refine ar_aload_n (n := 0) C dX0_signOfSeen_6 rfl rfl ?_
  refine cV1 (ar := []) (st := []) C lkX0_50 kd_20 (k_sgLent (t := (t + 1)) (bg M t 21) (bg_1 _ _ _) (by omega)) (by decide) rfl (Nat.le_of_ble_eq_true rfl) rfl dX0_signOfSeen_7 ?_
  refine ar_bipush (v := 100) C dX0_signOfSeen_10 (by decide) ?_
  refine ar_iadd C dX0_signOfSeen_12 ?_
  exact ar_ireturn C rfl dX0_signOfSeen_13 ⟨by simp [bg_z], rfl, rfl⟩
set_option maxHeartbeats 4000000 in
set_option maxRecDepth 100000 in
theorem k_sgLost (M : Mm) {t : Nat} (ht : M.1 20 1 = nI t) (h16 : t + 2 ≤ 16) : AX mX0_signOfLost 2 [.ref 20] M (some (.int (M.1 20 3 + 1000))) (bg (bg M t 23) (t + 1) 20) := by
  refine AM_ofF (by decide +kernel) (Nat.le_of_ble_eq_true rfl) (fun X V C _ _ => ?_)
  show AW X V mX0_signOfLost.2.2.1 T0 M 0 0 _ 0 [(0, .ref 20)] []
  refine ar_aload_n (n := 0) C dX0_signOfLost_0 rfl rfl ?_
  refine ar_bipush (v := 23) C dX0_signOfLost_1 (by decide) ?_
  refine cV0 (ar := [.int 23]) (st := []) C lkX0_53 kd_20 (k_begin (t := t) M ht (by omega) 23) (by decide) rfl (Nat.le_of_ble_eq_true rfl) rfl dX0_signOfLost_3 ?_
  refine ar_aload_n (n := 0) C dX0_signOfLost_6 rfl rfl ?_
  refine cV1 (ar := []) (st := []) C lkX0_50 kd_20 (k_sgLent (t := (t + 1)) (bg M t 23) (bg_1 _ _ _) (by omega)) (by decide) rfl (Nat.le_of_ble_eq_true rfl) rfl dX0_signOfLost_7 ?_
  refine ar_sipush (v := 1000) C dX0_signOfLost_10 (by decide) ?_
  refine ar_iadd C dX0_signOfLost_13 ?_
  exact ar_ireturn C rfl dX0_signOfLost_14 ⟨by simp [bg_z], rfl, rfl⟩
set_option maxHeartbeats 4000000 in
set_option maxRecDepth 100000 in
theorem k_szSharp (M : Mm) {t : Nat} (ht : M.1 20 1 = nI t) (h16 : t + 3 ≤ 16) : AX mX0_sizeOfSharp 3 [.ref 20] M (some (.int (2 * (M.1 20 2 + M.1 20 4)))) (bg (bg (bg M t 12) (t + 1) 11) (t + 1 + 1) 10) := by
  refine AM_ofF (by decide +kernel) (Nat.le_of_ble_eq_true rfl) (fun X V C _ _ => ?_)
  show AW X V mX0_sizeOfSharp.2.2.1 T0 M 0 0 _ 0 [(0, .ref 20)] []
  refine ar_aload_n (n := 0) C dX0_sizeOfSharp_0 rfl rfl ?_
  refine ar_bipush (v := 12) C dX0_sizeOfSharp_1 (by decide) ?_
  refine cV0 (ar := [.int 12]) (st := []) C lkX0_53 kd_20 (k_begin (t := t) M ht (by omega) 12) (by decide) rfl (Nat.le_of_ble_eq_true rfl) rfl dX0_sizeOfSharp_3 ?_
  refine ar_iconst (v := 2) C dX0_sizeOfSharp_6 (by decide) ?_
  refine ar_aload_n (n := 0) C dX0_sizeOfSharp_7 rfl rfl ?_
  refine cV1 (ar := []) (st := [.int 2]) C lkX0_28 kd_20 (k_szSeen (t := (t + 1)) (bg M t 12) (bg_1 _ _ _) (by omega)) (by decide) rfl (Nat.le_of_ble_eq_true rfl) rfl dX0_sizeOfSharp_8 ?_
  refine ar_imul C dX0_sizeOfSharp_11 ?_
  exact ar_ireturn C rfl dX0_sizeOfSharp_12 ⟨by simp [bg_z], rfl, rfl⟩
set_option maxHeartbeats 4000000 in
set_option maxRecDepth 100000 in
theorem k_szLost (M : Mm) {t : Nat} (ht : M.1 20 1 = nI t) (h16 : t + 4 ≤ 16) : AX mX0_sizeOfLost 3 [.ref 20] M (some (.int (M.1 20 2 - (M.1 20 3 + 1000)))) (bg (bg (bg (bg M t 13) (t + 1) 10) (t + 2) 23) (t + 2 + 1) 20) := by
  refine AM_ofF (by decide +kernel) (Nat.le_of_ble_eq_true rfl) (fun X V C _ _ => ?_)
  show AW X V mX0_sizeOfLost.2.2.1 T0 M 0 0 _ 0 [(0, .ref 20)] []
  refine ar_aload_n (n := 0) C dX0_sizeOfLost_0 rfl rfl ?_
  refine ar_bipush (v := 13) C dX0_sizeOfLost_1 (by decide) ?_
  refine cV0 (ar := [.int 13]) (st := []) C lkX0_53 kd_20 (k_begin (t := t) M ht (by omega) 13) (by decide) rfl (Nat.le_of_ble_eq_true rfl) rfl dX0_sizeOfLost_3 ?_
  refine ar_aload_n (n := 0) C dX0_sizeOfLost_6 rfl rfl ?_
  refine cV1 (ar := []) (st := []) C lkX0_38 kd_20 (k_szLent (t := (t + 1)) (bg M t 13) (bg_1 _ _ _) (by omega)) (by decide) rfl (Nat.le_of_ble_eq_true rfl) rfl dX0_sizeOfLost_7 ?_
  refine ar_istore_n (als' := [(1, .int ((bg M t 13).1 20 2)), (0, .ref 20)]) C dX0_sizeOfLost_10 rfl (by decide) rfl ?_
  refine ar_iload_n (n := 0) C dX0_sizeOfLost_11 rfl rfl ?_
  refine ar_aload_n (n := 1) C dX0_sizeOfLost_12 rfl rfl ?_
  refine cV1 (ar := []) (st := [.int ((bg M t 13).1 20 2)]) C lkX0_47 kd_20 (k_sgLost (t := (t + 2)) (bg (bg M t 13) (t + 1) 10) (bg_1 _ _ _) (by omega)) (by decide) rfl (Nat.le_of_ble_eq_true rfl) rfl dX0_sizeOfLost_13 ?_
  refine ar_isub C dX0_sizeOfLost_16 ?_
  exact ar_ireturn C rfl dX0_sizeOfLost_17 ⟨by simp [bg_z], rfl, rfl⟩
set_option maxHeartbeats 4000000 in
set_option maxRecDepth 100000 in
theorem k_sgSharp (M : Mm) {t : Nat} (ht : M.1 20 1 = nI t) (h16 : t + 6 ≤ 16) : AX mX0_signOfSharp 4 [.ref 20] M (some (.int (M.1 20 3 + 100 + 2 * (M.1 20 2 + M.1 20 4)))) (bg (bg (bg (bg (bg (bg M t 22) (t + 1) 21) (t + 1 + 1) 20) (t + 3) 12) (t + 3 + 1) 11) (t + 3 + 1 + 1) 10) := by
  refine AM_ofF (by decide +kernel) (Nat.le_of_ble_eq_true rfl) (fun X V C _ _ => ?_)
  show AW X V mX0_signOfSharp.2.2.1 T0 M 0 0 _ 0 [(0, .ref 20)] []
  refine ar_aload_n (n := 0) C dX0_signOfSharp_0 rfl rfl ?_
  refine ar_bipush (v := 22) C dX0_signOfSharp_1 (by decide) ?_
  refine cV0 (ar := [.int 22]) (st := []) C lkX0_53 kd_20 (k_begin (t := t) M ht (by omega) 22) (by decide) rfl (Nat.le_of_ble_eq_true rfl) rfl dX0_signOfSharp_3 ?_
  refine ar_aload_n (n := 0) C dX0_signOfSharp_6 rfl rfl ?_
  refine cV1 (ar := []) (st := []) C lkX0_41 kd_20 (k_sgSeen (t := (t + 1)) (bg M t 22) (bg_1 _ _ _) (by omega)) (by decide) rfl (Nat.le_of_ble_eq_true rfl) rfl dX0_signOfSharp_7 ?_
  refine ar_istore_n (als' := [(1, .int ((bg M t 22).1 20 3 + 100)), (0, .ref 20)]) C dX0_signOfSharp_10 rfl (by decide) rfl ?_
  refine ar_iload_n (n := 0) C dX0_signOfSharp_11 rfl rfl ?_
  refine ar_aload_n (n := 1) C dX0_signOfSharp_12 rfl rfl ?_
  refine cV1 (ar := []) (st := [.int ((bg M t 22).1 20 3 + 100)]) C lkX0_32 kd_20 (k_szSharp (t := (t + 3)) (bg (bg (bg M t 22) (t + 1) 21) ((t + 1) + 1) 20) (bg_1 _ _ _) (by omega)) (by decide) rfl (Nat.le_of_ble_eq_true rfl) rfl dX0_signOfSharp_13 ?_
  refine ar_iadd C dX0_signOfSharp_16 ?_
  exact ar_ireturn C rfl dX0_signOfSharp_17 ⟨by simp [bg_z], rfl, rfl⟩
