/-! LENSTABLE: its public methods, 3 -/
def RF (M M1 : Mm) : Prop := M1.1 15 0 = 0 ∧ M1.1 16 0 = 0 ∧ RGF M M1
theorem RGE_F {M M1 : Mm} {n : Nat} (h : RGE M n M1) : RF M M1 := ⟨h.2.1, h.2.2.1, h.2.2.2⟩
def as_c (h : Nat → Nat → Int32) (q k : Nat) : Nat := cntB (fun k => !decide (h k q = 0)) k
def as_s (h x : Nat → Nat → Int32) (n q : Nat) : Nat → Int32
  | 0 => 0
  | k + 1 => if h k q = 0 then as_s h x n q k else as_s h x n q k + (x k q + (rg_x h x n k - f_by (rg_x h x n n * nI k) (nI n)))
def g_high (S0 : Nat → Int32) (L U r : Int64) : Int64 := f_lby ((S0 1).toInt64 * L * (S0 3).toInt64 - r * (U - (S0 2).toInt64 * L)) (L * (S0 3).toInt64)
theorem in28 {n : Nat} (h2 : 2 ≤ n) (h8 : n ≤ 8) : f_in (nI n) 2 8 = true := by
  simp only [f_in, Bool.and_eq_true, Bool.not_eq_true', decide_eq_false_iff_not, Int32.lt_iff_toInt_lt, nI_toInt (show n < 2 ^ 31 by omega)]
  exact ⟨by simp; omega, by simp; omega⟩
set_option maxHeartbeats 4000000 in
set_option maxRecDepth 100000 in
theorem x_round_bad (M : Mm) (n w : Int32)  (hbad : (f_in n 2 8 && f_in w 0 2) = false) : AX mX11_round 4 [.ref 0, .int n, .int w] M (some (.int (-1000001))) M := by
  refine AM_ofF (by decide +kernel) (Nat.le_of_ble_eq_true rfl) (fun X V C _ _ => ?_)
  show AW X V mX11_round.2.2.1 T0 M 0 0 _ 0 [(0, .ref 0), (1, .int n), (2, .int w)] []
  refine ar_iload_n (n := 1) C dX11_round_0 rfl rfl ?_
  refine ar_iconst (v := 2) C dX11_round_1 (by decide) ?_
  refine ar_bipush (v := 8) C dX11_round_2 (by decide) ?_
  refine cS1 (ar := [.int n, .int 2, .int 8]) (st := []) C lkX11_94 (k_within M n 2 8) (by decide) rfl (Nat.le_of_ble_eq_true rfl) rfl dX11_round_4 ?_
  refine ar_if_eqB (tgt := 19) C dX11_round_7 (by decide) (fun c_1 => ?_) (fun c_1 => ?_)
  · refine ar_ldc C kcX11_98 dX11_round_19 ?_
    exact ar_ireturn C rfl dX11_round_21 ⟨rfl, rfl, rfl⟩
  · refine ar_iload_n (n := 2) C dX11_round_10 rfl rfl ?_
    refine ar_iconst (v := 0) C dX11_round_11 (by decide) ?_
    refine ar_iconst (v := 2) C dX11_round_12 (by decide) ?_
    refine cS1 (ar := [.int w, .int 0, .int 2]) (st := []) C lkX11_94 (k_within M w 0 2) (by decide) rfl (Nat.le_of_ble_eq_true rfl) rfl dX11_round_13 ?_
    refine ar_if_neB (tgt := 22) C dX11_round_16 (by decide) (fun c_2 => ?_) (fun c_2 => ?_)
    · exact absurd hbad (by first | (rw [c_1]; decide) | simp [*])
    · refine ar_ldc C kcX11_98 dX11_round_19 ?_
      exact ar_ireturn C rfl dX11_round_21 ⟨rfl, rfl, rfl⟩
set_option maxHeartbeats 4000000 in
set_option maxRecDepth 100000 in
theorem x_round_0 (M : Mm) {n : Nat} (hn2 : 2 ≤ n) (hn8 : n ≤ 8) (h15 : M.1 15 0 = 0) (h16 : M.1 16 0 = 0) : AQ mX11_round 4 [.ref 0, .int (nI n), .int 0] M (some (.int (if rg_ok (cH M) n n = true then rg_x (cH M) (cX M) n n else -1000000))) (RF M) := by
  refine AM_ofF (by decide +kernel) (Nat.le_of_ble_eq_true rfl) (fun X V C _ _ => ?_)
  show AW X V mX11_round.2.2.1 T0 M 0 0 _ 0 [(0, .ref 0), (1, .int (nI n)), (2, .int 0)] []
  refine ar_iload_n (n := 1) C dX11_round_0 rfl rfl ?_
  refine ar_iconst (v := 2) C dX11_round_1 (by decide) ?_
  refine ar_bipush (v := 8) C dX11_round_2 (by decide) ?_
  refine cS1 (ar := [.int (nI n), .int 2, .int 8]) (st := []) C lkX11_94 (k_within M (nI n) 2 8) (by decide) rfl (Nat.le_of_ble_eq_true rfl) rfl dX11_round_4 ?_
  refine ar_if_eqB (tgt := 19) C dX11_round_7 (by decide) (fun c_1 => False.elim (Bool.noConfusion ((in28 hn2 hn8).symm.trans c_1))) (fun _ => ?_)
  refine ar_iload_n (n := 2) C dX11_round_10 rfl rfl ?_
  refine ar_iconst (v := 0) C dX11_round_11 (by decide) ?_
  refine ar_iconst (v := 2) C dX11_round_12 (by decide) ?_
  refine cS1 (ar := [.int 0, .int 0, .int 2]) (st := []) C lkX11_94 (k_within M 0 0 2) (by decide) rfl (Nat.le_of_ble_eq_true rfl) rfl dX11_round_13 ?_
  refine ar_if_neB (tgt := 22) C dX11_round_16 (by decide) (fun _ => ?_) (fun c_2 => False.elim (Bool.noConfusion ((show f_in 0 0 2 = true by decide).symm.trans c_2)))
  refine ar_aload_n (n := 0) C dX11_round_22 rfl rfl ?_
  refine ar_getr C flX11_55 rfl kd_0 rf_0_7 dX11_round_23 ?_
  refine ar_aload_n (n := 0) C dX11_round_26 rfl rfl ?_
  refine ar_getr C flX11_41 rfl kd_0 rf_0_5 dX11_round_27 ?_
  refine ar_iload_n (n := 1) C dX11_round_30 rfl rfl ?_
  refine ar_aload_n (n := 0) C dX11_round_31 rfl rfl ?_
  refine ar_getr C flX11_48 rfl kd_0 rf_0_6 dX11_round_32 ?_
  refine cV1q (ar := [.ref 8, .int (nI n), .ref 9]) (st := []) C lkX11_257 kd_14 (k_ring M hn2 hn8 h15 h16) (by decide) rfl (Nat.le_of_ble_eq_true rfl) rfl dX11_round_35 (fun M_3 h_4 => ?_)
  refine ar_if_neB (tgt := 44) C dX11_round_38 (by decide) (fun c_5 => ?_) (fun c_5 => ?_)
  · refine ar_iload_n (n := 2) C dX11_round_44 rfl rfl ?_
    refine ar_iconst (v := 2) C dX11_round_45 (by decide) ?_
    refine ar_icmp_ne (tgt := 57) C dX11_round_46 (by decide) (fun _ => ?_) (fun c_6 => False.elim (absurd c_6 (by decide)))
    refine ar_iload_n (n := 2) C dX11_round_57 rfl rfl ?_
    refine ar_if_ne (tgt := 73) C dX11_round_58 (by decide) (fun c_7 => False.elim (c_7 rfl)) (fun _ => ?_)
    refine ar_aload_n (n := 0) C dX11_round_61 rfl rfl ?_
    refine ar_getr C flX11_55 rfl kd_0 rf_0_7 dX11_round_62 ?_
    refine ar_getr C flX11_262 rfl kd_14 rf_14_0 dX11_round_65 ?_
    refine ar_iload_n (n := 1) C dX11_round_68 rfl rfl ?_
    refine ar_iald (j := n) C kd_15 rfl (show n < 9 by omega) dX11_round_69 ?_
    refine ar_goto (tgt := 82) C dX11_round_70 (by decide) ?_
    exact ar_ireturn C rfl dX11_round_82 ⟨by rw [if_pos c_5, (h_4.1 c_5).1 n (Nat.le_refl _)], rfl, RGE_F h_4⟩
  · refine ar_ldc C kcX11_237 dX11_round_41 ?_
    exact ar_ireturn C rfl dX11_round_43 ⟨by rw [if_neg (by rw [c_5]; decide)], rfl, RGE_F h_4⟩
set_option maxHeartbeats 4000000 in
set_option maxRecDepth 100000 in
theorem x_round_1 (M : Mm) {n : Nat} (hn2 : 2 ≤ n) (hn8 : n ≤ 8) (h15 : M.1 15 0 = 0) (h16 : M.1 16 0 = 0) : AQ mX11_round 4 [.ref 0, .int (nI n), .int 1] M (some (.int (if rg_ok (cH M) n n = true then rg_x (cH M) (cY M) n n else -1000000))) (RF M) := by
  refine AM_ofF (by decide +kernel) (Nat.le_of_ble_eq_true rfl) (fun X V C _ _ => ?_)
  show AW X V mX11_round.2.2.1 T0 M 0 0 _ 0 [(0, .ref 0), (1, .int (nI n)), (2, .int 1)] []
  refine ar_iload_n (n := 1) C dX11_round_0 rfl rfl ?_
  refine ar_iconst (v := 2) C dX11_round_1 (by decide) ?_
  refine ar_bipush (v := 8) C dX11_round_2 (by decide) ?_
  refine cS1 (ar := [.int (nI n), .int 2, .int 8]) (st := []) C lkX11_94 (k_within M (nI n) 2 8) (by decide) rfl (Nat.le_of_ble_eq_true rfl) rfl dX11_round_4 ?_
  refine ar_if_eqB (tgt := 19) C dX11_round_7 (by decide) (fun c_1 => False.elim (Bool.noConfusion ((in28 hn2 hn8).symm.trans c_1))) (fun _ => ?_)
  refine ar_iload_n (n := 2) C dX11_round_10 rfl rfl ?_
  refine ar_iconst (v := 0) C dX11_round_11 (by decide) ?_
  refine ar_iconst (v := 2) C dX11_round_12 (by decide) ?_
  refine cS1 (ar := [.int 1, .int 0, .int 2]) (st := []) C lkX11_94 (k_within M 1 0 2) (by decide) rfl (Nat.le_of_ble_eq_true rfl) rfl dX11_round_13 ?_
  refine ar_if_neB (tgt := 22) C dX11_round_16 (by decide) (fun _ => ?_) (fun c_2 => False.elim (Bool.noConfusion ((show f_in 1 0 2 = true by decide).symm.trans c_2)))
  refine ar_aload_n (n := 0) C dX11_round_22 rfl rfl ?_
  refine ar_getr C flX11_55 rfl kd_0 rf_0_7 dX11_round_23 ?_
  refine ar_aload_n (n := 0) C dX11_round_26 rfl rfl ?_
  refine ar_getr C flX11_41 rfl kd_0 rf_0_5 dX11_round_27 ?_
  refine ar_iload_n (n := 1) C dX11_round_30 rfl rfl ?_
  refine ar_aload_n (n := 0) C dX11_round_31 rfl rfl ?_
  refine ar_getr C flX11_48 rfl kd_0 rf_0_6 dX11_round_32 ?_
  refine cV1q (ar := [.ref 8, .int (nI n), .ref 9]) (st := []) C lkX11_257 kd_14 (k_ring M hn2 hn8 h15 h16) (by decide) rfl (Nat.le_of_ble_eq_true rfl) rfl dX11_round_35 (fun M_3 h_4 => ?_)
  refine ar_if_neB (tgt := 44) C dX11_round_38 (by decide) (fun c_5 => ?_) (fun c_5 => ?_)
  · refine ar_iload_n (n := 2) C dX11_round_44 rfl rfl ?_
    refine ar_iconst (v := 2) C dX11_round_45 (by decide) ?_
    refine ar_icmp_ne (tgt := 57) C dX11_round_46 (by decide) (fun _ => ?_) (fun c_6 => False.elim (absurd c_6 (by decide)))
    refine ar_iload_n (n := 2) C dX11_round_57 rfl rfl ?_
    refine ar_if_ne (tgt := 73) C dX11_round_58 (by decide) (fun _ => ?_) (fun c_7 => False.elim (absurd c_7 (by decide)))
    refine ar_aload_n (n := 0) C dX11_round_73 rfl rfl ?_
    refine ar_getr C flX11_55 rfl kd_0 rf_0_7 dX11_round_74 ?_
    refine ar_getr C flX11_265 rfl kd_14 rf_14_1 dX11_round_77 ?_
    refine ar_iload_n (n := 1) C dX11_round_80 rfl rfl ?_
    refine ar_iald (j := n) C kd_16 rfl (show n < 9 by omega) dX11_round_81 ?_
    exact ar_ireturn C rfl dX11_round_82 ⟨by rw [if_pos c_5, (h_4.1 c_5).2.1 n (Nat.le_refl _)], rfl, RGE_F h_4⟩
  · refine ar_ldc C kcX11_237 dX11_round_41 ?_
    exact ar_ireturn C rfl dX11_round_43 ⟨by rw [if_neg (by rw [c_5]; decide)], rfl, RGE_F h_4⟩
set_option maxHeartbeats 4000000 in
set_option maxRecDepth 100000 in
theorem x_round_2 (M : Mm) {n : Nat} (hn2 : 2 ≤ n) (hn8 : n ≤ 8) (h15 : M.1 15 0 = 0) (h16 : M.1 16 0 = 0) : AQ mX11_round 4 [.ref 0, .int (nI n), .int 2] M (some (.int (if rg_ok (cH M) n n = true then rg_m (cH M) (cX M) (cY M) n n else -1000000))) (RF M) := by
  refine AM_ofF (by decide +kernel) (Nat.le_of_ble_eq_true rfl) (fun X V C _ _ => ?_)
  show AW X V mX11_round.2.2.1 T0 M 0 0 _ 0 [(0, .ref 0), (1, .int (nI n)), (2, .int 2)] []
  refine ar_iload_n (n := 1) C dX11_round_0 rfl rfl ?_
  refine ar_iconst (v := 2) C dX11_round_1 (by decide) ?_
  refine ar_bipush (v := 8) C dX11_round_2 (by decide) ?_
  refine cS1 (ar := [.int (nI n), .int 2, .int 8]) (st := []) C lkX11_94 (k_within M (nI n) 2 8) (by decide) rfl (Nat.le_of_ble_eq_true rfl) rfl dX11_round_4 ?_
  refine ar_if_eqB (tgt := 19) C dX11_round_7 (by decide) (fun c_1 => False.elim (Bool.noConfusion ((in28 hn2 hn8).symm.trans c_1))) (fun _ => ?_)
  refine ar_iload_n (n := 2) C dX11_round_10 rfl rfl ?_
  refine ar_iconst (v := 0) C dX11_round_11 (by decide) ?_
  refine ar_iconst (v := 2) C dX11_round_12 (by decide) ?_
  refine cS1 (ar := [.int 2, .int 0, .int 2]) (st := []) C lkX11_94 (k_within M 2 0 2) (by decide) rfl (Nat.le_of_ble_eq_true rfl) rfl dX11_round_13 ?_
  refine ar_if_neB (tgt := 22) C dX11_round_16 (by decide) (fun _ => ?_) (fun c_2 => False.elim (Bool.noConfusion ((show f_in 2 0 2 = true by decide).symm.trans c_2)))
  refine ar_aload_n (n := 0) C dX11_round_22 rfl rfl ?_
  refine ar_getr C flX11_55 rfl kd_0 rf_0_7 dX11_round_23 ?_
  refine ar_aload_n (n := 0) C dX11_round_26 rfl rfl ?_
  refine ar_getr C flX11_41 rfl kd_0 rf_0_5 dX11_round_27 ?_
  refine ar_iload_n (n := 1) C dX11_round_30 rfl rfl ?_
  refine ar_aload_n (n := 0) C dX11_round_31 rfl rfl ?_
  refine ar_getr C flX11_48 rfl kd_0 rf_0_6 dX11_round_32 ?_
  refine cV1q (ar := [.ref 8, .int (nI n), .ref 9]) (st := []) C lkX11_257 kd_14 (k_ring M hn2 hn8 h15 h16) (by decide) rfl (Nat.le_of_ble_eq_true rfl) rfl dX11_round_35 (fun M_3 h_4 => ?_)
  refine ar_if_neB (tgt := 44) C dX11_round_38 (by decide) (fun c_5 => ?_) (fun c_5 => ?_)
  · refine ar_iload_n (n := 2) C dX11_round_44 rfl rfl ?_
    refine ar_iconst (v := 2) C dX11_round_45 (by decide) ?_
    refine ar_icmp_ne (tgt := 57) C dX11_round_46 (by decide) (fun c_6 => False.elim (c_6 rfl)) (fun _ => ?_)
    refine ar_aload_n (n := 0) C dX11_round_49 rfl rfl ?_
    refine ar_getr C flX11_55 rfl kd_0 rf_0_7 dX11_round_50 ?_
    refine ar_geti C flX11_260 kd_14 dX11_round_53 ?_
    exact ar_ireturn C rfl dX11_round_56 ⟨by rw [if_pos c_5, (h_4.1 c_5).2.2.1], rfl, RGE_F h_4⟩
  · refine ar_ldc C kcX11_237 dX11_round_41 ?_
    exact ar_ireturn C rfl dX11_round_43 ⟨by rw [if_neg (by rw [c_5]; decide)], rfl, RGE_F h_4⟩
set_option maxHeartbeats 4000000 in
set_option maxRecDepth 100000 in
theorem x_around_bad (M : Mm) (n k w : Int32)  (hbad : (f_in n 2 8 && f_in k 0 23 && f_in w 0 1) = false) : AX mX11_around 4 [.ref 0, .int n, .int k, .int w] M (some (.int (-1000001))) M := by
  refine AM_ofF (by decide +kernel) (Nat.le_of_ble_eq_true rfl) (fun X V C _ _ => ?_)
  show AW X V mX11_around.2.2.1 T0 M 0 0 _ 0 [(0, .ref 0), (1, .int n), (2, .int k), (3, .int w)] []
  refine ar_iload_n (n := 1) C dX11_around_0 rfl rfl ?_
  refine ar_iconst (v := 2) C dX11_around_1 (by decide) ?_
  refine ar_bipush (v := 8) C dX11_around_2 (by decide) ?_
  refine cS1 (ar := [.int n, .int 2, .int 8]) (st := []) C lkX11_94 (k_within M n 2 8) (by decide) rfl (Nat.le_of_ble_eq_true rfl) rfl dX11_around_4 ?_
  refine ar_if_eqB (tgt := 26) C dX11_around_7 (by decide) (fun c_1 => ?_) (fun c_1 => ?_)
  · refine ar_ldc C kcX11_98 dX11_around_26 ?_
    exact ar_ireturn C rfl dX11_around_28 ⟨rfl, rfl, rfl⟩
  · refine ar_iload_n (n := 2) C dX11_around_10 rfl rfl ?_
    refine cS1 (ar := [.int k]) (st := []) C lkX11_216 (k_isNumber M k) (by decide) rfl (Nat.le_of_ble_eq_true rfl) rfl dX11_around_11 ?_
    refine ar_if_eqB (tgt := 26) C dX11_around_14 (by decide) (fun c_2 => ?_) (fun c_2 => ?_)
    · refine ar_ldc C kcX11_98 dX11_around_26 ?_
      exact ar_ireturn C rfl dX11_around_28 ⟨rfl, rfl, rfl⟩
    · refine ar_iload_n (n := 3) C dX11_around_17 rfl rfl ?_
      refine ar_iconst (v := 0) C dX11_around_18 (by decide) ?_
      refine ar_iconst (v := 1) C dX11_around_19 (by decide) ?_
      refine cS1 (ar := [.int w, .int 0, .int 1]) (st := []) C lkX11_94 (k_within M w 0 1) (by decide) rfl (Nat.le_of_ble_eq_true rfl) rfl dX11_around_20 ?_
      refine ar_if_neB (tgt := 29) C dX11_around_23 (by decide) (fun c_3 => ?_) (fun c_3 => ?_)
      · exact absurd hbad (by first | (rw [c_1]; decide) | simp [*])
      · refine ar_ldc C kcX11_98 dX11_around_26 ?_
        exact ar_ireturn C rfl dX11_around_28 ⟨rfl, rfl, rfl⟩
set_option maxHeartbeats 4000000 in
set_option maxRecDepth 100000 in
theorem l_around_0 {X : Ctx} {V : Vx} {Q : State → Prop} (C : Cx X V mX11_around 4) (M M1 : Mm) {n q : Nat} (hn8 : n ≤ 8) (hq : q < 24) (hR : RGP M n n M1) (kk : AW X V mX11_around.2.2.1 T0 M1 0 0 Q 148 [(6, .int (nI n)), (5, .int (as_s (cH M) (cX M) n q n)), (4, .int (nI (as_c (cH M) q n))), (0, .ref 0), (1, .int (nI n)), (2, .int (nI q)), (3, .int 0)] []) : ∀ (m : Nat) (k : Nat), k ≤ n → n - k < m → AW X V mX11_around.2.2.1 T0 (M1) 0 0 Q 60 [(6, .int (nI k)), (5, .int (as_s (cH M) (cX M) n q k)), (4, .int (nI (as_c (cH M) q k))), (0, .ref 0), (1, .int (nI n)), (2, .int (nI q)), (3, .int 0)] [] := by
  intro m
  induction m with
  | zero => intro k _ h; exact absurd h (Nat.not_lt_zero _)
  | succ m ih =>
    intro k hk0 hmz
    refine ar_iload (n := 0) C dX11_around_60 rfl ?_
    refine ar_iload_n (n := 4) C dX11_around_62 rfl rfl ?_
    refine ar_icmp_ge (tgt := 148) C dX11_around_63 (by decide) (fun c_1 => ?_) (fun c_1 => ?_)
    · have hk : k = n := Nat.le_antisymm hk0 (nat_le c_1 (by omega) (by omega))
      subst hk
      exact kk
    · have hk : k < n := nat_nle c_1 (by omega) (by omega)
      refine ar_aload_n (n := 3) C dX11_around_66 rfl rfl ?_
      refine ar_getr C flX11_41 rfl kd_0 rf_0_5 dX11_around_67 ?_
      refine ar_iload (n := 0) C dX11_around_70 rfl ?_
      refine ar_aald (j := k) C kd_8 (by decide) (by decide) rfl (show k < 8 by omega) (rf_traces (show k < 8 by omega)) dX11_around_72 ?_
      refine ar_astore (als' := [(7, .ref (62 + 4 * k)), (6, .int (nI k)), (5, .int (as_s (cH M) (cX M) n q k)), (4, .int (nI (as_c (cH M) q k))), (0, .ref 0), (1, .int (nI n)), (2, .int (nI q)), (3, .int 0)]) C dX11_around_73 (by decide) rfl ?_
      refine ar_aload (n := 0) C dX11_around_75 rfl ?_
      refine ar_getr C flX11_222 rfl (kd_trace (show k < 8 by omega)) (rf_has (show k < 8 by omega)) dX11_around_77 ?_
      refine ar_iload_n (n := 6) C dX11_around_80 rfl rfl ?_
      refine ar_zald (j := q) C (kd_has (show k < 8 by omega)) rfl hq dX11_around_81 ?_
      refine ar_topi (cH M k q) (congrFun (hR.2.2.2.1 (63 + 4 * k) (by omega)) q) ?_
      refine ar_if_eq (tgt := 142) C dX11_around_82 (by decide) (fun c_2 => ?_) (fun c_2 => ?_)
      · refine ar_iinc (n := 1) (v := (nI (k + 1))) (als' := [(6, .int (nI (k + 1))), (7, .ref (62 + 4 * k)), (5, .int (as_s (cH M) (cX M) n q k)), (4, .int (nI (as_c (cH M) q k))), (0, .ref 0), (1, .int (nI n)), (2, .int (nI q)), (3, .int 0)]) C dX11_around_142 rfl (nI_1 _) (by decide) rfl ?_
        refine ar_goto (tgt := 60) C dX11_around_145 (by decide) ?_
        refine ar_sub [0, 2, 3, 4, 5, 6, 7] rfl ?_
        have h := ih (k + 1) (by omega) (by omega)
        rw [show as_c (cH M) q (k + 1) = as_c (cH M) q k from cntB_n (by simp; exact c_2)] at h
        rw [show as_s (cH M) (cX M) n q (k + 1) = _ from by simp only [as_s]; rw [if_pos c_2]] at h
        exact h
      · refine ar_iinc (n := 3) (v := (nI (as_c (cH M) q k + 1))) (als' := [(4, .int (nI (as_c (cH M) q k + 1))), (7, .ref (62 + 4 * k)), (6, .int (nI k)), (5, .int (as_s (cH M) (cX M) n q k)), (0, .ref 0), (1, .int (nI n)), (2, .int (nI q)), (3, .int 0)]) C dX11_around_85 rfl (nI_1 _) (by decide) rfl ?_
        refine ar_iload (n := 3) C dX11_around_88 rfl ?_
        refine ar_iload_n (n := 7) C dX11_around_90 rfl rfl ?_
        refine ar_if_ne (tgt := 118) C dX11_around_91 (by decide) (fun c_3 => False.elim (c_3 rfl)) (fun _ => ?_)
        refine ar_aload (n := 1) C dX11_around_94 rfl ?_
        refine ar_getr C flX11_238 rfl (kd_trace (show k < 8 by omega)) (rf_tx (show k < 8 by omega)) dX11_around_96 ?_
        refine ar_iload_n (n := 6) C dX11_around_99 rfl rfl ?_
        refine ar_iald (j := q) C (kd_tx (show k < 8 by omega)) rfl hq dX11_around_100 ?_
        refine ar_topi (cX M k q) (congrFun (hR.2.2.2.1 (64 + 4 * k) (by omega)) q) ?_
        refine ar_aload_n (n := 4) C dX11_around_101 rfl rfl ?_
        refine ar_getr C flX11_55 rfl kd_0 rf_0_7 dX11_around_102 ?_
        refine ar_getr C flX11_262 rfl kd_14 rf_14_0 dX11_around_105 ?_
        refine ar_iload (n := 2) C dX11_around_108 rfl ?_
        refine ar_iload_n (n := 5) C dX11_around_110 rfl rfl ?_
        refine cS1 (ar := [.ref 15, .int (nI k), .int (nI n)]) (st := [.int (cX M k q), .int (as_s (cH M) (cX M) n q k)]) C lkX11_268 (k_closed15 M1 (k := k) (n := n) (by omega) (by omega)) (by decide) rfl (Nat.le_of_ble_eq_true rfl) rfl dX11_around_111 ?_
        refine ar_topi (rg_x (cH M) (cX M) n k - f_by (rg_x (cH M) (cX M) n n * nI k) (nI n)) (by rw [(hR.1 k (by omega)), (hR.1 n (Nat.le_refl _))]) ?_
        refine ar_iadd C dX11_around_114 ?_
        refine ar_goto (tgt := 139) C dX11_around_115 (by decide) ?_
        refine ar_iadd C dX11_around_139 ?_
        refine ar_istore (als' := [(5, .int ((as_s (cH M) (cX M) n q k) + ((cX M k q) + (rg_x (cH M) (cX M) n k - f_by (rg_x (cH M) (cX M) n n * nI k) (nI n))))), (4, .int (nI (as_c (cH M) q k + 1))), (7, .ref (62 + 4 * k)), (6, .int (nI k)), (0, .ref 0), (1, .int (nI n)), (2, .int (nI q)), (3, .int 0)]) C dX11_around_140 (by decide) rfl ?_
        refine ar_iinc (n := 3) (v := (nI (k + 1))) (als' := [(6, .int (nI (k + 1))), (5, .int ((as_s (cH M) (cX M) n q k) + ((cX M k q) + (rg_x (cH M) (cX M) n k - f_by (rg_x (cH M) (cX M) n n * nI k) (nI n))))), (4, .int (nI (as_c (cH M) q k + 1))), (7, .ref (62 + 4 * k)), (0, .ref 0), (1, .int (nI n)), (2, .int (nI q)), (3, .int 0)]) C dX11_around_142 rfl (nI_1 _) (by decide) rfl ?_
        refine ar_goto (tgt := 60) C dX11_around_145 (by decide) ?_
        refine ar_sub [0, 1, 2, 4, 5, 6, 7] rfl ?_
        have h := ih (k + 1) (by omega) (by omega)
        rw [show as_c (cH M) q (k + 1) = as_c (cH M) q k + 1 from cntB_y (by simp; exact c_2)] at h
        rw [show as_s (cH M) (cX M) n q (k + 1) = _ from by simp only [as_s]; rw [if_neg c_2]] at h
        exact h
set_option maxHeartbeats 4000000 in
set_option maxRecDepth 100000 in
theorem x_around_0 (M : Mm) {n : Nat} (hn2 : 2 ≤ n) (hn8 : n ≤ 8) (h15 : M.1 15 0 = 0) (h16 : M.1 16 0 = 0) {q : Nat} (hq : q < 24) : AQ mX11_around 4 [.ref 0, .int (nI n), .int (nI q), .int 0] M (some (.int (if rg_ok (cH M) n n = true then (if as_c (cH M) q n = 0 then -1000000 else f_by (as_s (cH M) (cX M) n q n) (nI (as_c (cH M) q n))) else -1000000))) (RF M) := by
  refine AM_ofF (by decide +kernel) (Nat.le_of_ble_eq_true rfl) (fun X V C _ _ => ?_)
  show AW X V mX11_around.2.2.1 T0 M 0 0 _ 0 [(0, .ref 0), (1, .int (nI n)), (2, .int (nI q)), (3, .int 0)] []
  refine ar_iload_n (n := 1) C dX11_around_0 rfl rfl ?_
  refine ar_iconst (v := 2) C dX11_around_1 (by decide) ?_
  refine ar_bipush (v := 8) C dX11_around_2 (by decide) ?_
  refine cS1 (ar := [.int (nI n), .int 2, .int 8]) (st := []) C lkX11_94 (k_within M (nI n) 2 8) (by decide) rfl (Nat.le_of_ble_eq_true rfl) rfl dX11_around_4 ?_
  refine ar_if_eqB (tgt := 26) C dX11_around_7 (by decide) (fun c_1 => False.elim (Bool.noConfusion ((in28 hn2 hn8).symm.trans c_1))) (fun _ => ?_)
  refine ar_iload_n (n := 2) C dX11_around_10 rfl rfl ?_
  refine cS1 (ar := [.int (nI q)]) (st := []) C lkX11_216 (k_isNumber M (nI q)) (by decide) rfl (Nat.le_of_ble_eq_true rfl) rfl dX11_around_11 ?_
  refine ar_if_eqB (tgt := 26) C dX11_around_14 (by decide) (fun c_2 => False.elim (Bool.noConfusion ((in23 hq).symm.trans c_2))) (fun _ => ?_)
  refine ar_iload_n (n := 3) C dX11_around_17 rfl rfl ?_
  refine ar_iconst (v := 0) C dX11_around_18 (by decide) ?_
  refine ar_iconst (v := 1) C dX11_around_19 (by decide) ?_
  refine cS1 (ar := [.int 0, .int 0, .int 1]) (st := []) C lkX11_94 (k_within M 0 0 1) (by decide) rfl (Nat.le_of_ble_eq_true rfl) rfl dX11_around_20 ?_
  refine ar_if_neB (tgt := 29) C dX11_around_23 (by decide) (fun _ => ?_) (fun c_3 => False.elim (Bool.noConfusion ((show f_in 0 0 1 = true by decide).symm.trans c_3)))
  refine ar_aload_n (n := 0) C dX11_around_29 rfl rfl ?_
  refine ar_getr C flX11_55 rfl kd_0 rf_0_7 dX11_around_30 ?_
  refine ar_aload_n (n := 0) C dX11_around_33 rfl rfl ?_
  refine ar_getr C flX11_41 rfl kd_0 rf_0_5 dX11_around_34 ?_
  refine ar_iload_n (n := 1) C dX11_around_37 rfl rfl ?_
  refine ar_aload_n (n := 0) C dX11_around_38 rfl rfl ?_
  refine ar_getr C flX11_48 rfl kd_0 rf_0_6 dX11_around_39 ?_
  refine cV1q (ar := [.ref 8, .int (nI n), .ref 9]) (st := []) C lkX11_257 kd_14 (k_ring M hn2 hn8 h15 h16) (by decide) rfl (Nat.le_of_ble_eq_true rfl) rfl dX11_around_42 (fun M_4 h_5 => ?_)
  refine ar_if_neB (tgt := 51) C dX11_around_45 (by decide) (fun c_6 => ?_) (fun c_6 => ?_)
  · refine ar_iconst (v := 0) C dX11_around_51 (by decide) ?_
    refine ar_istore (als' := [(4, .int 0), (0, .ref 0), (1, .int (nI n)), (2, .int (nI q)), (3, .int 0)]) C dX11_around_52 (by decide) rfl ?_
    refine ar_iconst (v := 0) C dX11_around_54 (by decide) ?_
    refine ar_istore (als' := [(5, .int 0), (4, .int 0), (0, .ref 0), (1, .int (nI n)), (2, .int (nI q)), (3, .int 0)]) C dX11_around_55 (by decide) rfl ?_
    refine ar_iconst (v := 0) C dX11_around_57 (by decide) ?_
    refine ar_istore (als' := [(6, .int 0), (5, .int 0), (4, .int 0), (0, .ref 0), (1, .int (nI n)), (2, .int (nI q)), (3, .int 0)]) C dX11_around_58 (by decide) rfl ?_
    have hR := h_5.1 c_6
    have hcl : as_c (cH M) q n ≤ n := cntB_le _ n
    refine l_around_0 C M M_4 hn8 hq hR ?_ (n + 1) 0 (by omega) (by omega)
    refine ar_iload (n := 2) C dX11_around_148 rfl ?_
    refine ar_if_ne (tgt := 158) C dX11_around_150 (by decide) (fun c_7 => ?_) (fun c_7 => ?_)
    · refine ar_iload (n := 1) C dX11_around_158 rfl ?_
      refine ar_iload (n := 2) C dX11_around_160 rfl ?_
      refine cS1 (ar := [.int (as_s (cH M) (cX M) n q n), .int (nI (as_c (cH M) q n))]) (st := []) C lkX11_272 (k_by M_4 (as_s (cH M) (cX M) n q n) (nI (as_c (cH M) q n))) (by decide) rfl (Nat.le_of_ble_eq_true rfl) rfl dX11_around_162 ?_
      exact ar_ireturn C rfl dX11_around_165 ⟨by rw [if_pos c_6, if_neg (fun z => c_7 (by rw [z]; rfl))], rfl, RGE_F h_5⟩
    · refine ar_ldc C kcX11_237 dX11_around_153 ?_
      refine ar_goto (tgt := 165) C dX11_around_155 (by decide) ?_
      exact ar_ireturn C rfl dX11_around_165 ⟨by rw [if_pos c_6, if_pos ((nI_eq (a := as_c (cH M) q n) (b := 0) (by omega) (by decide)).mp c_7)], rfl, RGE_F h_5⟩
  · refine ar_ldc C kcX11_237 dX11_around_48 ?_
    exact ar_ireturn C rfl dX11_around_50 ⟨by rw [if_neg (by rw [c_6]; decide)], rfl, RGE_F h_5⟩
set_option maxHeartbeats 4000000 in
set_option maxRecDepth 100000 in
theorem l_around_1 {X : Ctx} {V : Vx} {Q : State → Prop} (C : Cx X V mX11_around 4) (M M1 : Mm) {n q : Nat} (hn8 : n ≤ 8) (hq : q < 24) (hR : RGP M n n M1) (kk : AW X V mX11_around.2.2.1 T0 M1 0 0 Q 148 [(6, .int (nI n)), (5, .int (as_s (cH M) (cY M) n q n)), (4, .int (nI (as_c (cH M) q n))), (0, .ref 0), (1, .int (nI n)), (2, .int (nI q)), (3, .int 1)] []) : ∀ (m : Nat) (k : Nat), k ≤ n → n - k < m → AW X V mX11_around.2.2.1 T0 (M1) 0 0 Q 60 [(6, .int (nI k)), (5, .int (as_s (cH M) (cY M) n q k)), (4, .int (nI (as_c (cH M) q k))), (0, .ref 0), (1, .int (nI n)), (2, .int (nI q)), (3, .int 1)] [] := by
  intro m
  induction m with
  | zero => intro k _ h; exact absurd h (Nat.not_lt_zero _)
  | succ m ih =>
    intro k hk0 hmz
    refine ar_iload (n := 0) C dX11_around_60 rfl ?_
    refine ar_iload_n (n := 4) C dX11_around_62 rfl rfl ?_
    refine ar_icmp_ge (tgt := 148) C dX11_around_63 (by decide) (fun c_1 => ?_) (fun c_1 => ?_)
    · have hk : k = n := Nat.le_antisymm hk0 (nat_le c_1 (by omega) (by omega))
      subst hk
      exact kk
    · have hk : k < n := nat_nle c_1 (by omega) (by omega)
      refine ar_aload_n (n := 3) C dX11_around_66 rfl rfl ?_
      refine ar_getr C flX11_41 rfl kd_0 rf_0_5 dX11_around_67 ?_
      refine ar_iload (n := 0) C dX11_around_70 rfl ?_
      refine ar_aald (j := k) C kd_8 (by decide) (by decide) rfl (show k < 8 by omega) (rf_traces (show k < 8 by omega)) dX11_around_72 ?_
      refine ar_astore (als' := [(7, .ref (62 + 4 * k)), (6, .int (nI k)), (5, .int (as_s (cH M) (cY M) n q k)), (4, .int (nI (as_c (cH M) q k))), (0, .ref 0), (1, .int (nI n)), (2, .int (nI q)), (3, .int 1)]) C dX11_around_73 (by decide) rfl ?_
      refine ar_aload (n := 0) C dX11_around_75 rfl ?_
      refine ar_getr C flX11_222 rfl (kd_trace (show k < 8 by omega)) (rf_has (show k < 8 by omega)) dX11_around_77 ?_
      refine ar_iload_n (n := 6) C dX11_around_80 rfl rfl ?_
      refine ar_zald (j := q) C (kd_has (show k < 8 by omega)) rfl hq dX11_around_81 ?_
      refine ar_topi (cH M k q) (congrFun (hR.2.2.2.1 (63 + 4 * k) (by omega)) q) ?_
      refine ar_if_eq (tgt := 142) C dX11_around_82 (by decide) (fun c_2 => ?_) (fun c_2 => ?_)
      · refine ar_iinc (n := 1) (v := (nI (k + 1))) (als' := [(6, .int (nI (k + 1))), (7, .ref (62 + 4 * k)), (5, .int (as_s (cH M) (cY M) n q k)), (4, .int (nI (as_c (cH M) q k))), (0, .ref 0), (1, .int (nI n)), (2, .int (nI q)), (3, .int 1)]) C dX11_around_142 rfl (nI_1 _) (by decide) rfl ?_
        refine ar_goto (tgt := 60) C dX11_around_145 (by decide) ?_
        refine ar_sub [0, 2, 3, 4, 5, 6, 7] rfl ?_
        have h := ih (k + 1) (by omega) (by omega)
        rw [show as_c (cH M) q (k + 1) = as_c (cH M) q k from cntB_n (by simp; exact c_2)] at h
        rw [show as_s (cH M) (cY M) n q (k + 1) = _ from by simp only [as_s]; rw [if_pos c_2]] at h
        exact h
      · refine ar_iinc (n := 3) (v := (nI (as_c (cH M) q k + 1))) (als' := [(4, .int (nI (as_c (cH M) q k + 1))), (7, .ref (62 + 4 * k)), (6, .int (nI k)), (5, .int (as_s (cH M) (cY M) n q k)), (0, .ref 0), (1, .int (nI n)), (2, .int (nI q)), (3, .int 1)]) C dX11_around_85 rfl (nI_1 _) (by decide) rfl ?_
        refine ar_iload (n := 3) C dX11_around_88 rfl ?_
        refine ar_iload_n (n := 7) C dX11_around_90 rfl rfl ?_
        refine ar_if_ne (tgt := 118) C dX11_around_91 (by decide) (fun _ => ?_) (fun c_3 => False.elim (absurd c_3 (by decide)))
        refine ar_aload (n := 1) C dX11_around_118 rfl ?_
        refine ar_getr C flX11_240 rfl (kd_trace (show k < 8 by omega)) (rf_ty (show k < 8 by omega)) dX11_around_120 ?_
        refine ar_iload_n (n := 6) C dX11_around_123 rfl rfl ?_
        refine ar_iald (j := q) C (kd_ty (show k < 8 by omega)) rfl hq dX11_around_124 ?_
        refine ar_topi (cY M k q) (congrFun (hR.2.2.2.1 (65 + 4 * k) (by omega)) q) ?_
        refine ar_aload_n (n := 4) C dX11_around_125 rfl rfl ?_
        refine ar_getr C flX11_55 rfl kd_0 rf_0_7 dX11_around_126 ?_
        refine ar_getr C flX11_265 rfl kd_14 rf_14_1 dX11_around_129 ?_
        refine ar_iload (n := 2) C dX11_around_132 rfl ?_
        refine ar_iload_n (n := 5) C dX11_around_134 rfl rfl ?_
        refine cS1 (ar := [.ref 16, .int (nI k), .int (nI n)]) (st := [.int (cY M k q), .int (as_s (cH M) (cY M) n q k)]) C lkX11_268 (k_closed16 M1 (k := k) (n := n) (by omega) (by omega)) (by decide) rfl (Nat.le_of_ble_eq_true rfl) rfl dX11_around_135 ?_
        refine ar_topi (rg_x (cH M) (cY M) n k - f_by (rg_x (cH M) (cY M) n n * nI k) (nI n)) (by rw [(hR.2.1 k (by omega)), (hR.2.1 n (Nat.le_refl _))]) ?_
        refine ar_iadd C dX11_around_138 ?_
        refine ar_iadd C dX11_around_139 ?_
        refine ar_istore (als' := [(5, .int ((as_s (cH M) (cY M) n q k) + ((cY M k q) + (rg_x (cH M) (cY M) n k - f_by (rg_x (cH M) (cY M) n n * nI k) (nI n))))), (4, .int (nI (as_c (cH M) q k + 1))), (7, .ref (62 + 4 * k)), (6, .int (nI k)), (0, .ref 0), (1, .int (nI n)), (2, .int (nI q)), (3, .int 1)]) C dX11_around_140 (by decide) rfl ?_
        refine ar_iinc (n := 3) (v := (nI (k + 1))) (als' := [(6, .int (nI (k + 1))), (5, .int ((as_s (cH M) (cY M) n q k) + ((cY M k q) + (rg_x (cH M) (cY M) n k - f_by (rg_x (cH M) (cY M) n n * nI k) (nI n))))), (4, .int (nI (as_c (cH M) q k + 1))), (7, .ref (62 + 4 * k)), (0, .ref 0), (1, .int (nI n)), (2, .int (nI q)), (3, .int 1)]) C dX11_around_142 rfl (nI_1 _) (by decide) rfl ?_
        refine ar_goto (tgt := 60) C dX11_around_145 (by decide) ?_
        refine ar_sub [0, 1, 2, 4, 5, 6, 7] rfl ?_
        have h := ih (k + 1) (by omega) (by omega)
        rw [show as_c (cH M) q (k + 1) = as_c (cH M) q k + 1 from cntB_y (by simp; exact c_2)] at h
        rw [show as_s (cH M) (cY M) n q (k + 1) = _ from by simp only [as_s]; rw [if_neg c_2]] at h
        exact h
set_option maxHeartbeats 4000000 in
set_option maxRecDepth 100000 in
theorem x_around_1 (M : Mm) {n : Nat} (hn2 : 2 ≤ n) (hn8 : n ≤ 8) (h15 : M.1 15 0 = 0) (h16 : M.1 16 0 = 0) {q : Nat} (hq : q < 24) : AQ mX11_around 4 [.ref 0, .int (nI n), .int (nI q), .int 1] M (some (.int (if rg_ok (cH M) n n = true then (if as_c (cH M) q n = 0 then -1000000 else f_by (as_s (cH M) (cY M) n q n) (nI (as_c (cH M) q n))) else -1000000))) (RF M) := by
  refine AM_ofF (by decide +kernel) (Nat.le_of_ble_eq_true rfl) (fun X V C _ _ => ?_)
  show AW X V mX11_around.2.2.1 T0 M 0 0 _ 0 [(0, .ref 0), (1, .int (nI n)), (2, .int (nI q)), (3, .int 1)] []
  refine ar_iload_n (n := 1) C dX11_around_0 rfl rfl ?_
  refine ar_iconst (v := 2) C dX11_around_1 (by decide) ?_
  refine ar_bipush (v := 8) C dX11_around_2 (by decide) ?_
  refine cS1 (ar := [.int (nI n), .int 2, .int 8]) (st := []) C lkX11_94 (k_within M (nI n) 2 8) (by decide) rfl (Nat.le_of_ble_eq_true rfl) rfl dX11_around_4 ?_
  refine ar_if_eqB (tgt := 26) C dX11_around_7 (by decide) (fun c_1 => False.elim (Bool.noConfusion ((in28 hn2 hn8).symm.trans c_1))) (fun _ => ?_)
  refine ar_iload_n (n := 2) C dX11_around_10 rfl rfl ?_
  refine cS1 (ar := [.int (nI q)]) (st := []) C lkX11_216 (k_isNumber M (nI q)) (by decide) rfl (Nat.le_of_ble_eq_true rfl) rfl dX11_around_11 ?_
  refine ar_if_eqB (tgt := 26) C dX11_around_14 (by decide) (fun c_2 => False.elim (Bool.noConfusion ((in23 hq).symm.trans c_2))) (fun _ => ?_)
  refine ar_iload_n (n := 3) C dX11_around_17 rfl rfl ?_
  refine ar_iconst (v := 0) C dX11_around_18 (by decide) ?_
  refine ar_iconst (v := 1) C dX11_around_19 (by decide) ?_
  refine cS1 (ar := [.int 1, .int 0, .int 1]) (st := []) C lkX11_94 (k_within M 1 0 1) (by decide) rfl (Nat.le_of_ble_eq_true rfl) rfl dX11_around_20 ?_
  refine ar_if_neB (tgt := 29) C dX11_around_23 (by decide) (fun _ => ?_) (fun c_3 => False.elim (Bool.noConfusion ((show f_in 1 0 1 = true by decide).symm.trans c_3)))
  refine ar_aload_n (n := 0) C dX11_around_29 rfl rfl ?_
  refine ar_getr C flX11_55 rfl kd_0 rf_0_7 dX11_around_30 ?_
  refine ar_aload_n (n := 0) C dX11_around_33 rfl rfl ?_
  refine ar_getr C flX11_41 rfl kd_0 rf_0_5 dX11_around_34 ?_
  refine ar_iload_n (n := 1) C dX11_around_37 rfl rfl ?_
  refine ar_aload_n (n := 0) C dX11_around_38 rfl rfl ?_
  refine ar_getr C flX11_48 rfl kd_0 rf_0_6 dX11_around_39 ?_
  refine cV1q (ar := [.ref 8, .int (nI n), .ref 9]) (st := []) C lkX11_257 kd_14 (k_ring M hn2 hn8 h15 h16) (by decide) rfl (Nat.le_of_ble_eq_true rfl) rfl dX11_around_42 (fun M_4 h_5 => ?_)
  refine ar_if_neB (tgt := 51) C dX11_around_45 (by decide) (fun c_6 => ?_) (fun c_6 => ?_)
  · refine ar_iconst (v := 0) C dX11_around_51 (by decide) ?_
    refine ar_istore (als' := [(4, .int 0), (0, .ref 0), (1, .int (nI n)), (2, .int (nI q)), (3, .int 1)]) C dX11_around_52 (by decide) rfl ?_
    refine ar_iconst (v := 0) C dX11_around_54 (by decide) ?_
    refine ar_istore (als' := [(5, .int 0), (4, .int 0), (0, .ref 0), (1, .int (nI n)), (2, .int (nI q)), (3, .int 1)]) C dX11_around_55 (by decide) rfl ?_
    refine ar_iconst (v := 0) C dX11_around_57 (by decide) ?_
    refine ar_istore (als' := [(6, .int 0), (5, .int 0), (4, .int 0), (0, .ref 0), (1, .int (nI n)), (2, .int (nI q)), (3, .int 1)]) C dX11_around_58 (by decide) rfl ?_
    have hR := h_5.1 c_6
    have hcl : as_c (cH M) q n ≤ n := cntB_le _ n
    refine l_around_1 C M M_4 hn8 hq hR ?_ (n + 1) 0 (by omega) (by omega)
    refine ar_iload (n := 2) C dX11_around_148 rfl ?_
    refine ar_if_ne (tgt := 158) C dX11_around_150 (by decide) (fun c_7 => ?_) (fun c_7 => ?_)
    · refine ar_iload (n := 1) C dX11_around_158 rfl ?_
      refine ar_iload (n := 2) C dX11_around_160 rfl ?_
      refine cS1 (ar := [.int (as_s (cH M) (cY M) n q n), .int (nI (as_c (cH M) q n))]) (st := []) C lkX11_272 (k_by M_4 (as_s (cH M) (cY M) n q n) (nI (as_c (cH M) q n))) (by decide) rfl (Nat.le_of_ble_eq_true rfl) rfl dX11_around_162 ?_
      exact ar_ireturn C rfl dX11_around_165 ⟨by rw [if_pos c_6, if_neg (fun z => c_7 (by rw [z]; rfl))], rfl, RGE_F h_5⟩
    · refine ar_ldc C kcX11_237 dX11_around_153 ?_
      refine ar_goto (tgt := 165) C dX11_around_155 (by decide) ?_
      exact ar_ireturn C rfl dX11_around_165 ⟨by rw [if_pos c_6, if_pos ((nI_eq (a := as_c (cH M) q n) (b := 0) (by omega) (by decide)).mp c_7)], rfl, RGE_F h_5⟩
  · refine ar_ldc C kcX11_237 dX11_around_48 ?_
    exact ar_ireturn C rfl dX11_around_50 ⟨by rw [if_neg (by rw [c_6]; decide)], rfl, RGE_F h_5⟩
set_option maxHeartbeats 4000000 in
set_option maxRecDepth 100000 in
theorem x_far_bad (M : Mm) (p q w : Int32)  (hbad : (f_in p (-1000) 1000 && f_in q (-1000) 1000 && f_in w 0 1) = false) : AX mX11_far 3 [.ref 0, .int p, .int q, .int w] M (some (.long (-1000001))) M := by
  refine AM_ofF (by decide +kernel) (Nat.le_of_ble_eq_true rfl) (fun X V C _ _ => ?_)
  show AW X V mX11_far.2.2.1 T0 M 0 0 _ 0 [(0, .ref 0), (1, .int p), (2, .int q), (3, .int w)] []
  refine ar_iload_n (n := 1) C dX11_far_0 rfl rfl ?_
  refine cS1 (ar := [.int p]) (st := []) C lkX11_219 (k_isFlat M p) (by decide) rfl (Nat.le_of_ble_eq_true rfl) rfl dX11_far_1 ?_
  refine ar_if_eqB (tgt := 23) C dX11_far_4 (by decide) (fun c_1 => ?_) (fun c_1 => ?_)
  · refine ar_ldc2 C kcX11_282 dX11_far_23 ?_
    exact ar_lreturn C rfl dX11_far_26 ⟨rfl, rfl, rfl⟩
  · refine ar_iload_n (n := 2) C dX11_far_7 rfl rfl ?_
    refine cS1 (ar := [.int q]) (st := []) C lkX11_219 (k_isFlat M q) (by decide) rfl (Nat.le_of_ble_eq_true rfl) rfl dX11_far_8 ?_
    refine ar_if_eqB (tgt := 23) C dX11_far_11 (by decide) (fun c_2 => ?_) (fun c_2 => ?_)
    · refine ar_ldc2 C kcX11_282 dX11_far_23 ?_
      exact ar_lreturn C rfl dX11_far_26 ⟨rfl, rfl, rfl⟩
    · refine ar_iload_n (n := 3) C dX11_far_14 rfl rfl ?_
      refine ar_iconst (v := 0) C dX11_far_15 (by decide) ?_
      refine ar_iconst (v := 1) C dX11_far_16 (by decide) ?_
      refine cS1 (ar := [.int w, .int 0, .int 1]) (st := []) C lkX11_94 (k_within M w 0 1) (by decide) rfl (Nat.le_of_ble_eq_true rfl) rfl dX11_far_17 ?_
      refine ar_if_neB (tgt := 27) C dX11_far_20 (by decide) (fun c_3 => ?_) (fun c_3 => ?_)
      · exact absurd hbad (by first | (rw [c_1]; decide) | simp [*])
      · refine ar_ldc2 C kcX11_282 dX11_far_23 ?_
        exact ar_lreturn C rfl dX11_far_26 ⟨rfl, rfl, rfl⟩
set_option maxHeartbeats 4000000 in
set_option maxRecDepth 100000 in
theorem x_far_0 (M : Mm) (p q : Int32) (hp : f_in p (-1000) 1000 = true) (hq : f_in q (-1000) 1000 = true) : AQ mX11_far 3 [.ref 0, .int p, .int q, .int 0] M (some (.long (if g_ok (M.1 94) (M.1 95) p.toInt64 q.toInt64 = true then g_up (M.1 94) (M.1 95) p.toInt64 q.toInt64 else -1000000))) (fun M1 => M1.1 = M.1) := by
  refine AM_ofF (by decide +kernel) (Nat.le_of_ble_eq_true rfl) (fun X V C _ _ => ?_)
  show AW X V mX11_far.2.2.1 T0 M 0 0 _ 0 [(0, .ref 0), (1, .int p), (2, .int q), (3, .int 0)] []
  refine ar_iload_n (n := 1) C dX11_far_0 rfl rfl ?_
  refine cS1 (ar := [.int p]) (st := []) C lkX11_219 (k_isFlat M p) (by decide) rfl (Nat.le_of_ble_eq_true rfl) rfl dX11_far_1 ?_
  refine ar_if_eqB (tgt := 23) C dX11_far_4 (by decide) (fun c_1 => False.elim (Bool.noConfusion (hp.symm.trans c_1))) (fun _ => ?_)
  refine ar_iload_n (n := 2) C dX11_far_7 rfl rfl ?_
  refine cS1 (ar := [.int q]) (st := []) C lkX11_219 (k_isFlat M q) (by decide) rfl (Nat.le_of_ble_eq_true rfl) rfl dX11_far_8 ?_
  refine ar_if_eqB (tgt := 23) C dX11_far_11 (by decide) (fun c_2 => False.elim (Bool.noConfusion (hq.symm.trans c_2))) (fun _ => ?_)
  refine ar_iload_n (n := 3) C dX11_far_14 rfl rfl ?_
  refine ar_iconst (v := 0) C dX11_far_15 (by decide) ?_
  refine ar_iconst (v := 1) C dX11_far_16 (by decide) ?_
  refine cS1 (ar := [.int 0, .int 0, .int 1]) (st := []) C lkX11_94 (k_within M 0 0 1) (by decide) rfl (Nat.le_of_ble_eq_true rfl) rfl dX11_far_17 ?_
  refine ar_if_neB (tgt := 27) C dX11_far_20 (by decide) (fun _ => ?_) (fun c_3 => False.elim (Bool.noConfusion ((show f_in 0 0 1 = true by decide).symm.trans c_3)))
  refine ar_aload_n (n := 0) C dX11_far_27 rfl rfl ?_
  refine ar_getr C flX11_68 rfl kd_0 rf_0_9 dX11_far_28 ?_
  refine ar_aload_n (n := 0) C dX11_far_31 rfl rfl ?_
  refine ar_getr C flX11_61 rfl kd_0 rf_0_8 dX11_far_32 ?_
  refine ar_iconst (v := 0) C dX11_far_35 (by decide) ?_
  refine ar_aald (j := 0) C kd_17 (by decide) (by decide) (by decide) (by decide) rf_17_0 dX11_far_36 ?_
  refine ar_aload_n (n := 0) C dX11_far_37 rfl rfl ?_
  refine ar_getr C flX11_61 rfl kd_0 rf_0_8 dX11_far_38 ?_
  refine ar_iconst (v := 1) C dX11_far_41 (by decide) ?_
  refine ar_aald (j := 1) C kd_17 (by decide) (by decide) (by decide) (by decide) rf_17_1 dX11_far_42 ?_
  refine ar_iload_n (n := 1) C dX11_far_43 rfl rfl ?_
  refine ar_i2l C dX11_far_44 ?_
  refine ar_iload_n (n := 2) C dX11_far_45 rfl rfl ?_
  refine ar_i2l C dX11_far_46 ?_
  refine cV1q (ar := [.ref 94, .ref 95, .long p.toInt64, .long q.toInt64]) (st := []) C lkX11_284 kd_18 (k_sight M p.toInt64 q.toInt64) (by decide) rfl (Nat.le_of_ble_eq_true rfl) rfl dX11_far_47 (fun M_4 h_5 => ?_)
  refine ar_if_neB (tgt := 57) C dX11_far_50 (by decide) (fun c_6 => ?_) (fun c_6 => ?_)
  · refine ar_iload_n (n := 3) C dX11_far_57 rfl rfl ?_
    refine ar_if_ne (tgt := 71) C dX11_far_58 (by decide) (fun c_7 => False.elim (c_7 rfl)) (fun _ => ?_)
    refine ar_aload_n (n := 0) C dX11_far_61 rfl rfl ?_
    refine ar_getr C flX11_68 rfl kd_0 rf_0_9 dX11_far_62 ?_
    refine ar_getl C flX11_289 kd_18 dX11_far_65 ?_
    refine ar_goto (tgt := 78) C dX11_far_68 (by decide) ?_
    exact ar_lreturn C rfl dX11_far_78 ⟨by rw [if_pos c_6, h_5.2.1], rfl, h_5.2.2.1⟩
  · refine ar_ldc2 C kcX11_287 dX11_far_53 ?_
    exact ar_lreturn C rfl dX11_far_56 ⟨by rw [if_neg (by rw [c_6]; decide)], rfl, h_5.2.2.1⟩
set_option maxHeartbeats 4000000 in
set_option maxRecDepth 100000 in
theorem x_far_1 (M : Mm) (p q : Int32) (hp : f_in p (-1000) 1000 = true) (hq : f_in q (-1000) 1000 = true) : AQ mX11_far 3 [.ref 0, .int p, .int q, .int 1] M (some (.long (if g_ok (M.1 94) (M.1 95) p.toInt64 q.toInt64 = true then g_lo (M.1 94) (M.1 95) p.toInt64 q.toInt64 else -1000000))) (fun M1 => M1.1 = M.1) := by
  refine AM_ofF (by decide +kernel) (Nat.le_of_ble_eq_true rfl) (fun X V C _ _ => ?_)
  show AW X V mX11_far.2.2.1 T0 M 0 0 _ 0 [(0, .ref 0), (1, .int p), (2, .int q), (3, .int 1)] []
  refine ar_iload_n (n := 1) C dX11_far_0 rfl rfl ?_
  refine cS1 (ar := [.int p]) (st := []) C lkX11_219 (k_isFlat M p) (by decide) rfl (Nat.le_of_ble_eq_true rfl) rfl dX11_far_1 ?_
  refine ar_if_eqB (tgt := 23) C dX11_far_4 (by decide) (fun c_1 => False.elim (Bool.noConfusion (hp.symm.trans c_1))) (fun _ => ?_)
  refine ar_iload_n (n := 2) C dX11_far_7 rfl rfl ?_
  refine cS1 (ar := [.int q]) (st := []) C lkX11_219 (k_isFlat M q) (by decide) rfl (Nat.le_of_ble_eq_true rfl) rfl dX11_far_8 ?_
  refine ar_if_eqB (tgt := 23) C dX11_far_11 (by decide) (fun c_2 => False.elim (Bool.noConfusion (hq.symm.trans c_2))) (fun _ => ?_)
  refine ar_iload_n (n := 3) C dX11_far_14 rfl rfl ?_
  refine ar_iconst (v := 0) C dX11_far_15 (by decide) ?_
  refine ar_iconst (v := 1) C dX11_far_16 (by decide) ?_
  refine cS1 (ar := [.int 1, .int 0, .int 1]) (st := []) C lkX11_94 (k_within M 1 0 1) (by decide) rfl (Nat.le_of_ble_eq_true rfl) rfl dX11_far_17 ?_
  refine ar_if_neB (tgt := 27) C dX11_far_20 (by decide) (fun _ => ?_) (fun c_3 => False.elim (Bool.noConfusion ((show f_in 1 0 1 = true by decide).symm.trans c_3)))
  refine ar_aload_n (n := 0) C dX11_far_27 rfl rfl ?_
  refine ar_getr C flX11_68 rfl kd_0 rf_0_9 dX11_far_28 ?_
  refine ar_aload_n (n := 0) C dX11_far_31 rfl rfl ?_
  refine ar_getr C flX11_61 rfl kd_0 rf_0_8 dX11_far_32 ?_
  refine ar_iconst (v := 0) C dX11_far_35 (by decide) ?_
  refine ar_aald (j := 0) C kd_17 (by decide) (by decide) (by decide) (by decide) rf_17_0 dX11_far_36 ?_
  refine ar_aload_n (n := 0) C dX11_far_37 rfl rfl ?_
  refine ar_getr C flX11_61 rfl kd_0 rf_0_8 dX11_far_38 ?_
  refine ar_iconst (v := 1) C dX11_far_41 (by decide) ?_
  refine ar_aald (j := 1) C kd_17 (by decide) (by decide) (by decide) (by decide) rf_17_1 dX11_far_42 ?_
  refine ar_iload_n (n := 1) C dX11_far_43 rfl rfl ?_
  refine ar_i2l C dX11_far_44 ?_
  refine ar_iload_n (n := 2) C dX11_far_45 rfl rfl ?_
  refine ar_i2l C dX11_far_46 ?_
  refine cV1q (ar := [.ref 94, .ref 95, .long p.toInt64, .long q.toInt64]) (st := []) C lkX11_284 kd_18 (k_sight M p.toInt64 q.toInt64) (by decide) rfl (Nat.le_of_ble_eq_true rfl) rfl dX11_far_47 (fun M_4 h_5 => ?_)
  refine ar_if_neB (tgt := 57) C dX11_far_50 (by decide) (fun c_6 => ?_) (fun c_6 => ?_)
  · refine ar_iload_n (n := 3) C dX11_far_57 rfl rfl ?_
    refine ar_if_ne (tgt := 71) C dX11_far_58 (by decide) (fun _ => ?_) (fun c_7 => False.elim (absurd c_7 (by decide)))
    refine ar_aload_n (n := 0) C dX11_far_71 rfl rfl ?_
    refine ar_getr C flX11_68 rfl kd_0 rf_0_9 dX11_far_72 ?_
    refine ar_getl C flX11_293 kd_18 dX11_far_75 ?_
    exact ar_lreturn C rfl dX11_far_78 ⟨by rw [if_pos c_6, h_5.1], rfl, h_5.2.2.1⟩
  · refine ar_ldc2 C kcX11_287 dX11_far_53 ?_
    exact ar_lreturn C rfl dX11_far_56 ⟨by rw [if_neg (by rw [c_6]; decide)], rfl, h_5.2.2.1⟩
set_option maxHeartbeats 4000000 in
set_option maxRecDepth 100000 in
theorem x_high_bad (M : Mm) (p q r : Int32)  (hbad : (f_in p (-1000) 1000 && f_in q (-1000) 1000 && f_in r (-1000) 1000) = false) : AX mX11_high 3 [.ref 0, .int p, .int q, .int r] M (some (.long (-1000001))) M := by
  refine AM_ofF (by decide +kernel) (Nat.le_of_ble_eq_true rfl) (fun X V C _ _ => ?_)
  show AW X V mX11_high.2.2.1 T0 M 0 0 _ 0 [(0, .ref 0), (1, .int p), (2, .int q), (3, .int r)] []
  refine ar_iload_n (n := 1) C dX11_high_0 rfl rfl ?_
  refine cS1 (ar := [.int p]) (st := []) C lkX11_219 (k_isFlat M p) (by decide) rfl (Nat.le_of_ble_eq_true rfl) rfl dX11_high_1 ?_
  refine ar_if_eqB (tgt := 21) C dX11_high_4 (by decide) (fun c_1 => ?_) (fun c_1 => ?_)
  · refine ar_ldc2 C kcX11_282 dX11_high_21 ?_
    exact ar_lreturn C rfl dX11_high_24 ⟨rfl, rfl, rfl⟩
  · refine ar_iload_n (n := 2) C dX11_high_7 rfl rfl ?_
    refine cS1 (ar := [.int q]) (st := []) C lkX11_219 (k_isFlat M q) (by decide) rfl (Nat.le_of_ble_eq_true rfl) rfl dX11_high_8 ?_
    refine ar_if_eqB (tgt := 21) C dX11_high_11 (by decide) (fun c_2 => ?_) (fun c_2 => ?_)
    · refine ar_ldc2 C kcX11_282 dX11_high_21 ?_
      exact ar_lreturn C rfl dX11_high_24 ⟨rfl, rfl, rfl⟩
    · refine ar_iload_n (n := 3) C dX11_high_14 rfl rfl ?_
      refine cS1 (ar := [.int r]) (st := []) C lkX11_219 (k_isFlat M r) (by decide) rfl (Nat.le_of_ble_eq_true rfl) rfl dX11_high_15 ?_
      refine ar_if_neB (tgt := 25) C dX11_high_18 (by decide) (fun c_3 => ?_) (fun c_3 => ?_)
      · exact absurd hbad (by first | (rw [c_1]; decide) | simp [*])
      · refine ar_ldc2 C kcX11_282 dX11_high_21 ?_
        exact ar_lreturn C rfl dX11_high_24 ⟨rfl, rfl, rfl⟩
set_option maxHeartbeats 4000000 in
set_option maxRecDepth 100000 in
theorem x_high (M : Mm) (p q r : Int32) (hp : f_in p (-1000) 1000 = true) (hq : f_in q (-1000) 1000 = true) (hr : f_in r (-1000) 1000 = true) : AQ mX11_high 3 [.ref 0, .int p, .int q, .int r] M (some (.long (if g_ok (M.1 94) (M.1 95) p.toInt64 q.toInt64 = true then g_high (M.1 94) (g_lo (M.1 94) (M.1 95) p.toInt64 q.toInt64) (g_up (M.1 94) (M.1 95) p.toInt64 q.toInt64) r.toInt64 else -1000000))) (fun M1 => M1.1 = M.1) := by
  refine AM_ofF (by decide +kernel) (Nat.le_of_ble_eq_true rfl) (fun X V C _ _ => ?_)
  show AW X V mX11_high.2.2.1 T0 M 0 0 _ 0 [(0, .ref 0), (1, .int p), (2, .int q), (3, .int r)] []
  refine ar_iload_n (n := 1) C dX11_high_0 rfl rfl ?_
  refine cS1 (ar := [.int p]) (st := []) C lkX11_219 (k_isFlat M p) (by decide) rfl (Nat.le_of_ble_eq_true rfl) rfl dX11_high_1 ?_
  refine ar_if_eqB (tgt := 21) C dX11_high_4 (by decide) (fun c_1 => False.elim (Bool.noConfusion (hp.symm.trans c_1))) (fun _ => ?_)
  refine ar_iload_n (n := 2) C dX11_high_7 rfl rfl ?_
  refine cS1 (ar := [.int q]) (st := []) C lkX11_219 (k_isFlat M q) (by decide) rfl (Nat.le_of_ble_eq_true rfl) rfl dX11_high_8 ?_
  refine ar_if_eqB (tgt := 21) C dX11_high_11 (by decide) (fun c_2 => False.elim (Bool.noConfusion (hq.symm.trans c_2))) (fun _ => ?_)
  refine ar_iload_n (n := 3) C dX11_high_14 rfl rfl ?_
  refine cS1 (ar := [.int r]) (st := []) C lkX11_219 (k_isFlat M r) (by decide) rfl (Nat.le_of_ble_eq_true rfl) rfl dX11_high_15 ?_
  refine ar_if_neB (tgt := 25) C dX11_high_18 (by decide) (fun _ => ?_) (fun c_3 => False.elim (Bool.noConfusion (hr.symm.trans c_3)))
  refine ar_aload_n (n := 0) C dX11_high_25 rfl rfl ?_
  refine ar_getr C flX11_68 rfl kd_0 rf_0_9 dX11_high_26 ?_
  refine ar_aload_n (n := 0) C dX11_high_29 rfl rfl ?_
  refine ar_getr C flX11_61 rfl kd_0 rf_0_8 dX11_high_30 ?_
  refine ar_iconst (v := 0) C dX11_high_33 (by decide) ?_
  refine ar_aald (j := 0) C kd_17 (by decide) (by decide) (by decide) (by decide) rf_17_0 dX11_high_34 ?_
  refine ar_aload_n (n := 0) C dX11_high_35 rfl rfl ?_
  refine ar_getr C flX11_61 rfl kd_0 rf_0_8 dX11_high_36 ?_
  refine ar_iconst (v := 1) C dX11_high_39 (by decide) ?_
  refine ar_aald (j := 1) C kd_17 (by decide) (by decide) (by decide) (by decide) rf_17_1 dX11_high_40 ?_
  refine ar_iload_n (n := 1) C dX11_high_41 rfl rfl ?_
  refine ar_i2l C dX11_high_42 ?_
  refine ar_iload_n (n := 2) C dX11_high_43 rfl rfl ?_
  refine ar_i2l C dX11_high_44 ?_
  refine cV1q (ar := [.ref 94, .ref 95, .long p.toInt64, .long q.toInt64]) (st := []) C lkX11_284 kd_18 (k_sight M p.toInt64 q.toInt64) (by decide) rfl (Nat.le_of_ble_eq_true rfl) rfl dX11_high_45 (fun M_4 h_5 => ?_)
  refine ar_if_neB (tgt := 55) C dX11_high_48 (by decide) (fun c_6 => ?_) (fun c_6 => ?_)
  · refine ar_aload_n (n := 0) C dX11_high_55 rfl rfl ?_
    refine ar_getr C flX11_68 rfl kd_0 rf_0_9 dX11_high_56 ?_
    refine ar_aload_n (n := 0) C dX11_high_59 rfl rfl ?_
    refine ar_getr C flX11_61 rfl kd_0 rf_0_8 dX11_high_60 ?_
    refine ar_iconst (v := 0) C dX11_high_63 (by decide) ?_
    refine ar_aald (j := 0) C kd_17 (by decide) (by decide) (by decide) (by decide) rf_17_0 dX11_high_64 ?_
    refine ar_iload_n (n := 3) C dX11_high_65 rfl rfl ?_
    refine ar_i2l C dX11_high_66 ?_
    refine cV1 (ar := [.ref 94, .long r.toInt64]) (st := []) C lkX11_296 kd_18 (k_highOf M_4 r.toInt64) (by decide) rfl (Nat.le_of_ble_eq_true rfl) rfl dX11_high_67 ?_
    exact ar_lreturn C rfl dX11_high_70 ⟨by rw [if_pos c_6, h_5.2.2.1, h_5.1, h_5.2.1]; rfl, rfl, h_5.2.2.1⟩
  · refine ar_ldc2 C kcX11_287 dX11_high_51 ?_
    exact ar_lreturn C rfl dX11_high_54 ⟨by rw [if_neg (by rw [c_6]; decide)], rfl, h_5.2.2.1⟩
