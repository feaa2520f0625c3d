/-! STAND, ROOM, PICTURE -/
def f_colc (first : Int32) : Int32 := f_max (-8) (f_min 8 (f_fdiv (first + 10) 20))
def cix (first : Int32) : Nat := (f_colc first + 8).toNatClampNeg
theorem colc_in (f : Int32) : -8 ≤ (f_colc f).toInt ∧ (f_colc f).toInt ≤ 8 := by
  have e8 : (8 : Int32).toInt = 8 := by decide
  have em : (-8 : Int32).toInt = -8 := by decide
  unfold f_colc f_max f_min
  by_cases h1 : f_fdiv (f + 10) 20 < 8
  · rw [if_pos h1]
    rw [Int32.lt_iff_toInt_lt, e8] at h1
    by_cases h2 : (-8 : Int32) < f_fdiv (f + 10) 20
    · rw [if_pos h2]
      rw [Int32.lt_iff_toInt_lt, em] at h2
      omega
    · rw [if_neg h2, em]
      omega
  · rw [if_neg h1, if_pos (by decide), e8]
    omega
theorem cix_ok (f : Int32) : f_colc f + 8 = nI (cix f) ∧ cix f < 17 := by
  obtain ⟨h1, h2⟩ := colc_in f
  have e : (f_colc f + 8).toInt = (f_colc f).toInt + 8 := by
    have e8 : (8 : Int32).toInt = 8 := by decide
    rw [Int32.toInt_add, e8]
    exact Int.bmod_eq_of_le (by omega) (by omega)
  obtain ⟨j, hj, ej⟩ := nI_of (x := f_colc f + 8) (by rw [Int32.lt_iff_toInt_lt, e]; simp; omega)
  have e2 : cix f = j := by unfold cix; rw [ej, nI_clamp hj]
  rw [e2]
  refine ⟨ej, ?_⟩
  have e3 := congrArg Int32.toInt ej
  rw [e, nI_toInt hj] at e3
  omega
def f_blur (ρ : Nat → Int32) (e z : Int32) : Int32 := if ρ 0 = 0 then f_by (ρ 1 * (z + e)) z else f_by (ρ 1 * f_abs (e * (z - ρ 0) - ρ 0 * z)) (ρ 0 * z)
def f_far (β : Nat → Int32) (x z depth : Int32) : Int32 := f_max 1 (depth + β (cix (f_by (-x * depth) z)))
def P_x (ρ β : Nat → Int32) (x z : Int32) : Int32 := f_by (-x * f_far β x z (ρ 2)) z
def P_y (ρ β : Nat → Int32) (x y z : Int32) : Int32 := f_by ((if ρ 3 = 1 then y else -y) * f_far β x z (ρ 2)) z
def P_blur (ρ β : Nat → Int32) (x z : Int32) : Int32 := f_blur ρ (f_far β x z (ρ 2)) z
/-- the picture of a thing, put into cell 7 -/
def pic (M : Mm) (ρ β : Nat → Int32) (x y z : Int32) : Mm := wi (wi (wi (wi (wi (wi M 7 0 (f_by (-x * ρ 2) z)) 7 1 (f_colc (f_by (-x * ρ 2) z))) 7 2 (f_far β x z (ρ 2))) 7 3 (P_x ρ β x z)) 7 4 (P_y ρ β x y z)) 7 5 (P_blur ρ β x z)
set_option maxHeartbeats 4000000 in
set_option maxRecDepth 100000 in
theorem k_sees (M : Mm) {i : Nat} (hi : i < 24) : AX mX8_sees 0 [.ref 19, .ref (38 + i)] M (some (.int (bI (!decide (M.1 (38 + i) 2 ≤ M.1 19 2))))) M := by
  refine AM_ofF (by decide +kernel) (Nat.le_of_ble_eq_true rfl) (fun X V C _ _ => ?_)
  show AW X V mX8_sees.2.2.1 T0 M 0 0 _ 0 [(0, .ref 19), (1, .ref (38 + i))] []
  refine ar_aload_n (n := 1) C dX8_sees_0 rfl rfl ?_
  refine ar_geti C flX8_22 (kd_thing hi) dX8_sees_1 ?_
  refine ar_aload_n (n := 0) C dX8_sees_4 rfl rfl ?_
  refine ar_geti C flX8_19 kd_19 dX8_sees_5 ?_
  refine ar_icmp_le (tgt := 15) C dX8_sees_8 (by decide) (fun c_1 => ?_) (fun c_1 => ?_)
  · refine ar_iconst (v := 0) C dX8_sees_15 (by decide) ?_
    exact ar_zreturn C rfl rfl dX8_sees_16 ⟨by simp [bI, *], rfl, rfl⟩
  · refine ar_iconst (v := 1) C dX8_sees_11 (by decide) ?_
    refine ar_goto (tgt := 16) C dX8_sees_12 (by decide) ?_
    exact ar_zreturn C rfl rfl dX8_sees_16 ⟨by simp [bI, *], rfl, rfl⟩
set_option maxHeartbeats 4000000 in
set_option maxRecDepth 100000 in
theorem k_sacross (M : Mm) {i : Nat} (hi : i < 24) : AX mX8_across 1 [.ref 19, .ref (38 + i)] M (some (.int (f_by (-(M.1 (38 + i) 0 - M.1 19 0) * M.1 19 3) (M.1 (38 + i) 2 - M.1 19 2)))) M := by
  refine AM_ofF (by decide +kernel) (Nat.le_of_ble_eq_true rfl) (fun X V C _ _ => ?_)
  show AW X V mX8_across.2.2.1 T0 M 0 0 _ 0 [(0, .ref 19), (1, .ref (38 + i))] []
  refine ar_aload_n (n := 1) C dX8_across_0 rfl rfl ?_
  refine ar_geti C flX8_27 (kd_thing hi) dX8_across_1 ?_
  refine ar_aload_n (n := 0) C dX8_across_4 rfl rfl ?_
  refine ar_geti C flX8_13 kd_19 dX8_across_5 ?_
  refine ar_isub C dX8_across_8 ?_
  refine ar_ineg C dX8_across_9 ?_
  refine ar_aload_n (n := 0) C dX8_across_10 rfl rfl ?_
  refine ar_geti C flX8_7 kd_19 dX8_across_11 ?_
  refine ar_imul C dX8_across_14 ?_
  refine ar_aload_n (n := 1) C dX8_across_15 rfl rfl ?_
  refine ar_geti C flX8_22 (kd_thing hi) dX8_across_16 ?_
  refine ar_aload_n (n := 0) C dX8_across_19 rfl rfl ?_
  refine ar_geti C flX8_19 kd_19 dX8_across_20 ?_
  refine ar_isub C dX8_across_23 ?_
  refine cS1 (ar := [.int ((-((M.1 (38 + i) 0) - (M.1 19 0))) * (M.1 19 3)), .int ((M.1 (38 + i) 2) - (M.1 19 2))]) (st := []) C lkX8_30 (k_by M ((-((M.1 (38 + i) 0) - (M.1 19 0))) * (M.1 19 3)) ((M.1 (38 + i) 2) - (M.1 19 2))) (by decide) rfl (Nat.le_of_ble_eq_true rfl) rfl dX8_across_24 ?_
  exact ar_ireturn C rfl dX8_across_27 ⟨rfl, rfl, rfl⟩
set_option maxHeartbeats 4000000 in
set_option maxRecDepth 100000 in
theorem k_sup (M : Mm) {i : Nat} (hi : i < 24) : AX mX8_up 1 [.ref 19, .ref (38 + i)] M (some (.int (f_by (-(M.1 (38 + i) 1 - M.1 19 1) * M.1 19 3) (M.1 (38 + i) 2 - M.1 19 2)))) M := by
  refine AM_ofF (by decide +kernel) (Nat.le_of_ble_eq_true rfl) (fun X V C _ _ => ?_)
  show AW X V mX8_up.2.2.1 T0 M 0 0 _ 0 [(0, .ref 19), (1, .ref (38 + i))] []
  refine ar_aload_n (n := 1) C dX8_up_0 rfl rfl ?_
  refine ar_geti C flX8_36 (kd_thing hi) dX8_up_1 ?_
  refine ar_aload_n (n := 0) C dX8_up_4 rfl rfl ?_
  refine ar_geti C flX8_16 kd_19 dX8_up_5 ?_
  refine ar_isub C dX8_up_8 ?_
  refine ar_ineg C dX8_up_9 ?_
  refine ar_aload_n (n := 0) C dX8_up_10 rfl rfl ?_
  refine ar_geti C flX8_7 kd_19 dX8_up_11 ?_
  refine ar_imul C dX8_up_14 ?_
  refine ar_aload_n (n := 1) C dX8_up_15 rfl rfl ?_
  refine ar_geti C flX8_22 (kd_thing hi) dX8_up_16 ?_
  refine ar_aload_n (n := 0) C dX8_up_19 rfl rfl ?_
  refine ar_geti C flX8_19 kd_19 dX8_up_20 ?_
  refine ar_isub C dX8_up_23 ?_
  refine cS1 (ar := [.int ((-((M.1 (38 + i) 1) - (M.1 19 1))) * (M.1 19 3)), .int ((M.1 (38 + i) 2) - (M.1 19 2))]) (st := []) C lkX8_30 (k_by M ((-((M.1 (38 + i) 1) - (M.1 19 1))) * (M.1 19 3)) ((M.1 (38 + i) 2) - (M.1 19 2))) (by decide) rfl (Nat.le_of_ble_eq_true rfl) rfl dX8_up_24 ?_
  exact ar_ireturn C rfl dX8_up_27 ⟨rfl, rfl, rfl⟩
set_option maxHeartbeats 4000000 in
set_option maxRecDepth 100000 in
theorem k_put19 (M : Mm) (a b c e : Int32) : AX mX8_put 0 [.ref 19, .int a, .int b, .int c, .int e] M none (wi (wi (wi (wi M 19 0 a) 19 1 b) 19 2 c) 19 3 e) := by
  refine AM_ofF (by decide +kernel) (Nat.le_of_ble_eq_true rfl) (fun X V C _ _ => ?_)
  show AW X V mX8_put.2.2.1 T0 M 0 0 _ 0 [(0, .ref 19), (1, .int a), (2, .int b), (3, .int c), (4, .int e)] []
  refine ar_aload_n (n := 0) C dX8_put_0 rfl rfl ?_
  refine ar_iload_n (n := 1) C dX8_put_1 rfl rfl ?_
  refine ar_puti C flX8_13 kd_19 dX8_put_2 ?_
  refine ar_aload_n (n := 0) C dX8_put_5 rfl rfl ?_
  refine ar_iload_n (n := 2) C dX8_put_6 rfl rfl ?_
  refine ar_puti C flX8_16 kd_19 dX8_put_7 ?_
  refine ar_aload_n (n := 0) C dX8_put_10 rfl rfl ?_
  refine ar_iload_n (n := 3) C dX8_put_11 rfl rfl ?_
  refine ar_puti C flX8_19 kd_19 dX8_put_12 ?_
  refine ar_aload_n (n := 0) C dX8_put_15 rfl rfl ?_
  refine ar_iload (n := 4) C dX8_put_16 rfl ?_
  refine ar_puti C flX8_7 kd_19 dX8_put_18 ?_
  exact ar_return C rfl dX8_put_21 ⟨rfl, rfl, rfl⟩
set_option maxHeartbeats 4000000 in
set_option maxRecDepth 100000 in
theorem k_put94 (M : Mm) {i : Nat} (hi : i < 2) (a b c e : Int32) : AX mX8_put 0 [.ref (94 + i), .int a, .int b, .int c, .int e] M none (wi (wi (wi (wi M (94 + i) 0 a) (94 + i) 1 b) (94 + i) 2 c) (94 + i) 3 e) := by
  refine AM_ofF (by decide +kernel) (Nat.le_of_ble_eq_true rfl) (fun X V C _ _ => ?_)
  show AW X V mX8_put.2.2.1 T0 M 0 0 _ 0 [(0, .ref (94 + i)), (1, .int a), (2, .int b), (3, .int c), (4, .int e)] []
  refine ar_aload_n (n := 0) C dX8_put_0 rfl rfl ?_
  refine ar_iload_n (n := 1) C dX8_put_1 rfl rfl ?_
  refine ar_puti C flX8_13 (kd_stand hi) dX8_put_2 ?_
  refine ar_aload_n (n := 0) C dX8_put_5 rfl rfl ?_
  refine ar_iload_n (n := 2) C dX8_put_6 rfl rfl ?_
  refine ar_puti C flX8_16 (kd_stand hi) dX8_put_7 ?_
  refine ar_aload_n (n := 0) C dX8_put_10 rfl rfl ?_
  refine ar_iload_n (n := 3) C dX8_put_11 rfl rfl ?_
  refine ar_puti C flX8_19 (kd_stand hi) dX8_put_12 ?_
  refine ar_aload_n (n := 0) C dX8_put_15 rfl rfl ?_
  refine ar_iload (n := 4) C dX8_put_16 rfl ?_
  refine ar_puti C flX8_7 (kd_stand hi) dX8_put_18 ?_
  exact ar_return C rfl dX8_put_21 ⟨rfl, rfl, rfl⟩
set_option maxHeartbeats 4000000 in
set_option maxRecDepth 100000 in
theorem k_firstAt (M : Mm) {i : Nat} (hi : i < 24) (dp : Int32) {x z : Int32} (hx : M.1 (38 + i) 0 = x) (hz : M.1 (38 + i) 2 = z) : AX mX4_firstAt 1 [.int dp, .ref (38 + i)] M (some (.int (f_by (-x * dp) z))) M := by
  subst hx hz
  refine AM_ofF (by decide +kernel) (Nat.le_of_ble_eq_true rfl) (fun X V C _ _ => ?_)
  show AW X V mX4_firstAt.2.2.1 T0 M 0 0 _ 0 [(0, .int dp), (1, .ref (38 + i))] []
  refine ar_aload_n (n := 1) C dX4_firstAt_0 rfl rfl ?_
  refine ar_geti C flX4_21 (kd_thing hi) dX4_firstAt_1 ?_
  refine ar_ineg C dX4_firstAt_4 ?_
  refine ar_iload_n (n := 0) C dX4_firstAt_5 rfl rfl ?_
  refine ar_imul C dX4_firstAt_6 ?_
  refine ar_aload_n (n := 1) C dX4_firstAt_7 rfl rfl ?_
  refine ar_geti C flX4_27 (kd_thing hi) dX4_firstAt_8 ?_
  refine cS1 (ar := [.int ((-(M.1 (38 + i) 0)) * dp), .int (M.1 (38 + i) 2)]) (st := []) C lkX4_30 (k_by M ((-(M.1 (38 + i) 0)) * dp) (M.1 (38 + i) 2)) (by decide) rfl (Nat.le_of_ble_eq_true rfl) rfl dX4_firstAt_11 ?_
  exact ar_ireturn C rfl dX4_firstAt_14 ⟨rfl, rfl, rfl⟩
set_option maxHeartbeats 4000000 in
set_option maxRecDepth 100000 in
theorem k_columnOf (M : Mm) (f : Int32) : AX mX4_columnOf 1 [.int f] M (some (.int (f_colc f))) M := by
  refine AM_ofF (by decide +kernel) (Nat.le_of_ble_eq_true rfl) (fun X V C _ _ => ?_)
  show AW X V mX4_columnOf.2.2.1 T0 M 0 0 _ 0 [(0, .int f)] []
  refine ar_iload_n (n := 0) C dX4_columnOf_0 rfl rfl ?_
  refine ar_bipush (v := 10) C dX4_columnOf_1 (by decide) ?_
  refine ar_iadd C dX4_columnOf_3 ?_
  refine ar_bipush (v := 20) C dX4_columnOf_4 (by decide) ?_
  refine cS1 (ar := [.int (f + 10), .int 20]) (st := []) C lkX4_34 (k_fdiv M (f + 10) 20 (by decide)) (by decide) rfl (Nat.le_of_ble_eq_true rfl) rfl dX4_columnOf_6 ?_
  refine ar_istore_n (als' := [(1, .int (f_fdiv (f + 10) 20)), (0, .int f)]) C dX4_columnOf_9 rfl (by decide) rfl ?_
  refine ar_bipush (v := (-8)) C dX4_columnOf_10 (by decide) ?_
  refine ar_bipush (v := 8) C dX4_columnOf_12 (by decide) ?_
  refine ar_iload_n (n := 0) C dX4_columnOf_14 rfl rfl ?_
  refine cS1 (ar := [.int 8, .int (f_fdiv (f + 10) 20)]) (st := [.int (-8)]) C lkX4_39 (k_min M 8 (f_fdiv (f + 10) 20)) (by decide) rfl (Nat.le_of_ble_eq_true rfl) rfl dX4_columnOf_15 ?_
  refine cS1 (ar := [.int (-8), .int (f_min 8 (f_fdiv (f + 10) 20))]) (st := []) C lkX4_42 (k_max M (-8) (f_min 8 (f_fdiv (f + 10) 20))) (by decide) rfl (Nat.le_of_ble_eq_true rfl) rfl dX4_columnOf_18 ?_
  exact ar_ireturn C rfl dX4_columnOf_21 ⟨rfl, rfl, rfl⟩
set_option maxHeartbeats 4000000 in
set_option maxRecDepth 100000 in
theorem k_columnAt (M : Mm) {i : Nat} (hi : i < 24) (dp : Int32) {x z : Int32} (hx : M.1 (38 + i) 0 = x) (hz : M.1 (38 + i) 2 = z) : AX mX4_columnAt 2 [.int dp, .ref (38 + i)] M (some (.int (f_colc (f_by (-x * dp) z)))) M := by
  refine AM_ofF (by decide +kernel) (Nat.le_of_ble_eq_true rfl) (fun X V C _ _ => ?_)
  show AW X V mX4_columnAt.2.2.1 T0 M 0 0 _ 0 [(0, .int dp), (1, .ref (38 + i))] []
  refine ar_iload_n (n := 0) C dX4_columnAt_0 rfl rfl ?_
  refine ar_aload_n (n := 1) C dX4_columnAt_1 rfl rfl ?_
  refine cS1 (ar := [.int dp, .ref (38 + i)]) (st := []) C lkX4_45 (k_firstAt M hi dp hx hz) (by decide) rfl (Nat.le_of_ble_eq_true rfl) rfl dX4_columnAt_2 ?_
  refine cS1 (ar := [.int (f_by (-x * dp) z)]) (st := []) C lkX4_49 (k_columnOf M (f_by (-x * dp) z)) (by decide) rfl (Nat.le_of_ble_eq_true rfl) rfl dX4_columnAt_5 ?_
  exact ar_ireturn C rfl dX4_columnAt_8 ⟨rfl, rfl, rfl⟩
set_option maxHeartbeats 4000000 in
set_option maxRecDepth 100000 in
theorem k_reach (M : Mm) {β : Nat → Int32} (hβ : M.1 4 = β) (dp f : Int32) : AX mX4_reach 1 [.ref 2, .int dp, .int (f_colc f)] M (some (.int (f_max 1 (dp + β (cix f))))) M := by
  subst hβ
  refine AM_ofF (by decide +kernel) (Nat.le_of_ble_eq_true rfl) (fun X V C _ _ => ?_)
  show AW X V mX4_reach.2.2.1 T0 M 0 0 _ 0 [(0, .ref 2), (1, .int dp), (2, .int (f_colc f))] []
  refine ar_iconst (v := 1) C dX4_reach_0 (by decide) ?_
  refine ar_iload_n (n := 1) C dX4_reach_1 rfl rfl ?_
  refine ar_aload_n (n := 0) C dX4_reach_2 rfl rfl ?_
  refine ar_getr C flX4_15 rfl kd_2 rf_2_1 dX4_reach_3 ?_
  refine ar_iload_n (n := 2) C dX4_reach_6 rfl rfl ?_
  refine ar_bipush (v := 8) C dX4_reach_7 (by decide) ?_
  refine ar_iadd C dX4_reach_9 ?_
  refine ar_iald (j := cix f) C kd_4 (cix_ok f).1 (cix_ok f).2 dX4_reach_10 ?_
  refine ar_iadd C dX4_reach_11 ?_
  refine cS1 (ar := [.int 1, .int (dp + (M.1 4 (cix f)))]) (st := []) C lkX4_42 (k_max M 1 (dp + (M.1 4 (cix f)))) (by decide) rfl (Nat.le_of_ble_eq_true rfl) rfl dX4_reach_12 ?_
  exact ar_ireturn C rfl dX4_reach_15 ⟨rfl, rfl, rfl⟩
set_option maxHeartbeats 4000000 in
set_option maxRecDepth 100000 in
theorem k_blurBy (M : Mm) {ρ : Nat → Int32} (hρ : M.1 3 = ρ) (e z : Int32) : AX mX4_blurBy 1 [.ref 2, .int e, .int z] M (some (.int (f_blur ρ e z))) M := by
  subst hρ
  refine AM_ofF (by decide +kernel) (Nat.le_of_ble_eq_true rfl) (fun X V C _ _ => ?_)
  show AW X V mX4_blurBy.2.2.1 T0 M 0 0 _ 0 [(0, .ref 2), (1, .int e), (2, .int z)] []
  refine ar_aload_n (n := 0) C dX4_blurBy_0 rfl rfl ?_
  refine ar_getr C flX4_9 rfl kd_2 rf_2_0 dX4_blurBy_1 ?_
  refine ar_iconst (v := 0) C dX4_blurBy_4 (by decide) ?_
  refine ar_iald (j := 0) C kd_3 (by decide) (by decide) dX4_blurBy_5 ?_
  refine ar_istore_n (als' := [(3, .int (M.1 3 0)), (0, .ref 2), (1, .int e), (2, .int z)]) C dX4_blurBy_6 rfl (by decide) rfl ?_
  refine ar_iload_n (n := 0) C dX4_blurBy_7 rfl rfl ?_
  refine ar_if_ne (tgt := 26) C dX4_blurBy_8 (by decide) (fun c_1 => ?_) (fun c_1 => ?_)
  · refine ar_aload_n (n := 1) C dX4_blurBy_26 rfl rfl ?_
    refine ar_getr C flX4_9 rfl kd_2 rf_2_0 dX4_blurBy_27 ?_
    refine ar_iconst (v := 1) C dX4_blurBy_30 (by decide) ?_
    refine ar_iald (j := 1) C kd_3 (by decide) (by decide) dX4_blurBy_31 ?_
    refine ar_iload_n (n := 2) C dX4_blurBy_32 rfl rfl ?_
    refine ar_iload_n (n := 3) C dX4_blurBy_33 rfl rfl ?_
    refine ar_iload_n (n := 0) C dX4_blurBy_34 rfl rfl ?_
    refine ar_isub C dX4_blurBy_35 ?_
    refine ar_imul C dX4_blurBy_36 ?_
    refine ar_iload_n (n := 0) C dX4_blurBy_37 rfl rfl ?_
    refine ar_iload_n (n := 3) C dX4_blurBy_38 rfl rfl ?_
    refine ar_imul C dX4_blurBy_39 ?_
    refine ar_isub C dX4_blurBy_40 ?_
    refine cS1 (ar := [.int ((e * (z - (M.1 3 0))) - ((M.1 3 0) * z))]) (st := [.int (M.1 3 1)]) C lkX4_53 (k_abs M ((e * (z - (M.1 3 0))) - ((M.1 3 0) * z))) (by decide) rfl (Nat.le_of_ble_eq_true rfl) rfl dX4_blurBy_41 ?_
    refine ar_imul C dX4_blurBy_44 ?_
    refine ar_iload_n (n := 0) C dX4_blurBy_45 rfl rfl ?_
    refine ar_iload_n (n := 3) C dX4_blurBy_46 rfl rfl ?_
    refine ar_imul C dX4_blurBy_47 ?_
    refine cS1 (ar := [.int ((M.1 3 1) * (f_abs ((e * (z - (M.1 3 0))) - ((M.1 3 0) * z)))), .int ((M.1 3 0) * z)]) (st := []) C lkX4_30 (k_by M ((M.1 3 1) * (f_abs ((e * (z - (M.1 3 0))) - ((M.1 3 0) * z)))) ((M.1 3 0) * z)) (by decide) rfl (Nat.le_of_ble_eq_true rfl) rfl dX4_blurBy_48 ?_
    exact ar_ireturn C rfl dX4_blurBy_51 ⟨by simp [f_blur, *], rfl, rfl⟩
  · refine ar_aload_n (n := 1) C dX4_blurBy_11 rfl rfl ?_
    refine ar_getr C flX4_9 rfl kd_2 rf_2_0 dX4_blurBy_12 ?_
    refine ar_iconst (v := 1) C dX4_blurBy_15 (by decide) ?_
    refine ar_iald (j := 1) C kd_3 (by decide) (by decide) dX4_blurBy_16 ?_
    refine ar_iload_n (n := 3) C dX4_blurBy_17 rfl rfl ?_
    refine ar_iload_n (n := 2) C dX4_blurBy_18 rfl rfl ?_
    refine ar_iadd C dX4_blurBy_19 ?_
    refine ar_imul C dX4_blurBy_20 ?_
    refine ar_iload_n (n := 3) C dX4_blurBy_21 rfl rfl ?_
    refine cS1 (ar := [.int ((M.1 3 1) * (z + e)), .int z]) (st := []) C lkX4_30 (k_by M ((M.1 3 1) * (z + e)) z) (by decide) rfl (Nat.le_of_ble_eq_true rfl) rfl dX4_blurBy_22 ?_
    exact ar_ireturn C rfl dX4_blurBy_25 ⟨by simp [f_blur, *], rfl, rfl⟩
set_option maxHeartbeats 4000000 in
set_option maxRecDepth 100000 in
theorem k_blurAt (M : Mm) {i : Nat} (hi : i < 24) {ρ β : Nat → Int32} (hρ : M.1 3 = ρ) (hβ : M.1 4 = β) {x z : Int32} (hx : M.1 (38 + i) 0 = x) (hz : M.1 (38 + i) 2 = z) (dp : Int32) : AX mX4_blurAt 3 [.ref 2, .int dp, .ref (38 + i)] M (some (.int (f_blur ρ (f_far β x z dp) z))) M := by
  refine AM_ofF (by decide +kernel) (Nat.le_of_ble_eq_true rfl) (fun X V C _ _ => ?_)
  show AW X V mX4_blurAt.2.2.1 T0 M 0 0 _ 0 [(0, .ref 2), (1, .int dp), (2, .ref (38 + i))] []
  refine ar_aload_n (n := 0) C dX4_blurAt_0 rfl rfl ?_
  refine ar_aload_n (n := 0) C dX4_blurAt_1 rfl rfl ?_
  refine ar_iload_n (n := 1) C dX4_blurAt_2 rfl rfl ?_
  refine ar_iload_n (n := 1) C dX4_blurAt_3 rfl rfl ?_
  refine ar_aload_n (n := 2) C dX4_blurAt_4 rfl rfl ?_
  refine cS1 (ar := [.int dp, .ref (38 + i)]) (st := [.int dp, .ref 2, .ref 2]) C lkX4_56 (k_columnAt M hi dp hx hz) (by decide) rfl (Nat.le_of_ble_eq_true rfl) rfl dX4_blurAt_5 ?_
  refine cV1 (ar := [.int dp, .int (f_colc (f_by (-x * dp) z))]) (st := [.ref 2]) C lkX4_59 kd_2 (k_reach (β := β) M hβ dp (f_by (-x * dp) z)) (by decide) rfl (Nat.le_of_ble_eq_true rfl) rfl dX4_blurAt_8 ?_
  refine ar_aload_n (n := 2) C dX4_blurAt_11 rfl rfl ?_
  refine ar_geti C flX4_27 (kd_thing hi) dX4_blurAt_12 ?_
  refine ar_topi z hz ?_
  refine cV1 (ar := [.int (f_max 1 (dp + β (cix (f_by (-x * dp) z)))), .int z]) (st := []) C lkX4_62 kd_2 (k_blurBy (ρ := ρ) M hρ (f_max 1 (dp + β (cix (f_by (-x * dp) z)))) z) (by decide) rfl (Nat.le_of_ble_eq_true rfl) rfl dX4_blurAt_15 ?_
  exact ar_ireturn C rfl dX4_blurAt_18 ⟨rfl, rfl, rfl⟩
set_option maxHeartbeats 4000000 in
set_option maxRecDepth 100000 in
theorem k_shows (M : Mm) : AX mX4_shows 1 [.ref 2, .ref 7] M (some (.int (bI (f_in (M.1 7 3) (-(M.1 3 5)) (M.1 3 5) && f_in (M.1 7 4) (-(M.1 3 6)) (M.1 3 6))))) M := by
  refine AM_ofF (by decide +kernel) (Nat.le_of_ble_eq_true rfl) (fun X V C _ _ => ?_)
  show AW X V mX4_shows.2.2.1 T0 M 0 0 _ 0 [(0, .ref 2), (1, .ref 7)] []
  refine ar_aload_n (n := 1) C dX4_shows_0 rfl rfl ?_
  refine ar_geti C flX4_68 kd_7 dX4_shows_1 ?_
  refine ar_aload_n (n := 0) C dX4_shows_4 rfl rfl ?_
  refine ar_getr C flX4_9 rfl kd_2 rf_2_0 dX4_shows_5 ?_
  refine ar_iconst (v := 5) C dX4_shows_8 (by decide) ?_
  refine ar_iald (j := 5) C kd_3 (by decide) (by decide) dX4_shows_9 ?_
  refine ar_ineg C dX4_shows_10 ?_
  refine ar_aload_n (n := 0) C dX4_shows_11 rfl rfl ?_
  refine ar_getr C flX4_9 rfl kd_2 rf_2_0 dX4_shows_12 ?_
  refine ar_iconst (v := 5) C dX4_shows_15 (by decide) ?_
  refine ar_iald (j := 5) C kd_3 (by decide) (by decide) dX4_shows_16 ?_
  refine cS1 (ar := [.int (M.1 7 3), .int (-(M.1 3 5)), .int (M.1 3 5)]) (st := []) C lkX4_71 (k_within M (M.1 7 3) (-(M.1 3 5)) (M.1 3 5)) (by decide) rfl (Nat.le_of_ble_eq_true rfl) rfl dX4_shows_17 ?_
  refine ar_if_eqB (tgt := 52) C dX4_shows_20 (by decide) (fun c_1 => ?_) (fun c_1 => ?_)
  · refine ar_iconst (v := 0) C dX4_shows_52 (by decide) ?_
    exact ar_zreturn C rfl rfl dX4_shows_53 ⟨by simp [bI, *], rfl, rfl⟩
  · refine ar_aload_n (n := 1) C dX4_shows_23 rfl rfl ?_
    refine ar_geti C flX4_75 kd_7 dX4_shows_24 ?_
    refine ar_aload_n (n := 0) C dX4_shows_27 rfl rfl ?_
    refine ar_getr C flX4_9 rfl kd_2 rf_2_0 dX4_shows_28 ?_
    refine ar_bipush (v := 6) C dX4_shows_31 (by decide) ?_
    refine ar_iald (j := 6) C kd_3 (by decide) (by decide) dX4_shows_33 ?_
    refine ar_ineg C dX4_shows_34 ?_
    refine ar_aload_n (n := 0) C dX4_shows_35 rfl rfl ?_
    refine ar_getr C flX4_9 rfl kd_2 rf_2_0 dX4_shows_36 ?_
    refine ar_bipush (v := 6) C dX4_shows_39 (by decide) ?_
    refine ar_iald (j := 6) C kd_3 (by decide) (by decide) dX4_shows_41 ?_
    refine cS1 (ar := [.int (M.1 7 4), .int (-(M.1 3 6)), .int (M.1 3 6)]) (st := []) C lkX4_71 (k_within M (M.1 7 4) (-(M.1 3 6)) (M.1 3 6)) (by decide) rfl (Nat.le_of_ble_eq_true rfl) rfl dX4_shows_42 ?_
    refine ar_if_eqB (tgt := 52) C dX4_shows_45 (by decide) (fun c_2 => ?_) (fun c_2 => ?_)
    · refine ar_iconst (v := 0) C dX4_shows_52 (by decide) ?_
      exact ar_zreturn C rfl rfl dX4_shows_53 ⟨by simp [bI, *], rfl, rfl⟩
    · refine ar_iconst (v := 1) C dX4_shows_48 (by decide) ?_
      refine ar_goto (tgt := 53) C dX4_shows_49 (by decide) ?_
      exact ar_zreturn C rfl rfl dX4_shows_53 ⟨by simp [bI, *], rfl, rfl⟩
set_option maxHeartbeats 4000000 in
set_option maxRecDepth 100000 in
theorem k_take (M : Mm) {i : Nat} (hi : i < 24) {ρ β : Nat → Int32} (hρ : M.1 3 = ρ) (hβ : M.1 4 = β) {x y z : Int32} (hx : M.1 (38 + i) 0 = x) (hy : M.1 (38 + i) 1 = y) (hz : M.1 (38 + i) 2 = z) : AX mX2_take 2 [.ref 7, .ref 2, .ref (38 + i)] M none (pic M ρ β x y z) := by
  subst hρ hβ hx hy hz
  refine AM_ofF (by decide +kernel) (Nat.le_of_ble_eq_true rfl) (fun X V C _ _ => ?_)
  show AW X V mX2_take.2.2.1 T0 M 0 0 _ 0 [(0, .ref 7), (1, .ref 2), (2, .ref (38 + i))] []
  refine ar_aload_n (n := 1) C dX2_take_0 rfl rfl ?_
  refine ar_getr C flX2_9 rfl kd_2 rf_2_0 dX2_take_1 ?_
  refine ar_iconst (v := 2) C dX2_take_4 (by decide) ?_
  refine ar_iald (j := 2) C kd_3 (by decide) (by decide) dX2_take_5 ?_
  refine ar_istore_n (als' := [(3, .int (M.1 3 2)), (0, .ref 7), (1, .ref 2), (2, .ref (38 + i))]) C dX2_take_6 rfl (by decide) rfl ?_
  refine ar_aload_n (n := 1) C dX2_take_7 rfl rfl ?_
  refine ar_iload_n (n := 0) C dX2_take_8 rfl rfl ?_
  refine ar_aload_n (n := 3) C dX2_take_9 rfl rfl ?_
  refine cS1 (ar := [.int (M.1 3 2), .ref (38 + i)]) (st := [.ref 7]) C lkX2_15 (k_firstAt M hi (M.1 3 2) rfl rfl) (by decide) rfl (Nat.le_of_ble_eq_true rfl) rfl dX2_take_10 ?_
  refine ar_puti C flX2_19 kd_7 dX2_take_13 ?_
  refine ar_aload_n (n := 1) C dX2_take_16 rfl rfl ?_
  refine ar_aload_n (n := 1) C dX2_take_17 rfl rfl ?_
  refine ar_getiV (v := f_by (-(M.1 (38 + i) 0) * (M.1 3 2)) (M.1 (38 + i) 2)) C flX2_19 kd_7 rfl dX2_take_18 ?_
  refine cS1 (ar := [.int (f_by (-(M.1 (38 + i) 0) * (M.1 3 2)) (M.1 (38 + i) 2))]) (st := [.ref 7]) C lkX2_25 (k_columnOf (wi M 7 0 (f_by (-(M.1 (38 + i) 0) * (M.1 3 2)) (M.1 (38 + i) 2))) (f_by (-(M.1 (38 + i) 0) * (M.1 3 2)) (M.1 (38 + i) 2))) (by decide) rfl (Nat.le_of_ble_eq_true rfl) rfl dX2_take_21 ?_
  refine ar_puti C flX2_29 kd_7 dX2_take_24 ?_
  refine ar_aload_n (n := 1) C dX2_take_27 rfl rfl ?_
  refine ar_aload_n (n := 2) C dX2_take_28 rfl rfl ?_
  refine ar_iload_n (n := 0) C dX2_take_29 rfl rfl ?_
  refine ar_aload_n (n := 1) C dX2_take_30 rfl rfl ?_
  refine ar_getiV (v := f_colc (f_by (-(M.1 (38 + i) 0) * (M.1 3 2)) (M.1 (38 + i) 2))) C flX2_29 kd_7 rfl dX2_take_31 ?_
  refine cV1 (ar := [.int (M.1 3 2), .int (f_colc (f_by (-(M.1 (38 + i) 0) * (M.1 3 2)) (M.1 (38 + i) 2)))]) (st := [.ref 7]) C lkX2_32 kd_2 (k_reach (β := M.1 4) (wi (wi M 7 0 (f_by (-(M.1 (38 + i) 0) * (M.1 3 2)) (M.1 (38 + i) 2))) 7 1 (f_colc (f_by (-(M.1 (38 + i) 0) * (M.1 3 2)) (M.1 (38 + i) 2)))) rfl (M.1 3 2) (f_by (-(M.1 (38 + i) 0) * (M.1 3 2)) (M.1 (38 + i) 2))) (by decide) rfl (Nat.le_of_ble_eq_true rfl) rfl dX2_take_34 ?_
  refine ar_puti C flX2_36 kd_7 dX2_take_37 ?_
  refine ar_aload_n (n := 1) C dX2_take_40 rfl rfl ?_
  refine ar_aload_n (n := 3) C dX2_take_41 rfl rfl ?_
  refine ar_getiV (v := M.1 (38 + i) 0) C flX2_39 (kd_thing hi) (by simp [wi, wl]; try omega) dX2_take_42 ?_
  refine ar_ineg C dX2_take_45 ?_
  refine ar_aload_n (n := 1) C dX2_take_46 rfl rfl ?_
  refine ar_getiV (v := f_max 1 ((M.1 3 2) + M.1 4 (cix (f_by (-(M.1 (38 + i) 0) * (M.1 3 2)) (M.1 (38 + i) 2))))) C flX2_36 kd_7 rfl dX2_take_47 ?_
  refine ar_imul C dX2_take_50 ?_
  refine ar_aload_n (n := 3) C dX2_take_51 rfl rfl ?_
  refine ar_getiV (v := M.1 (38 + i) 2) C flX2_44 (kd_thing hi) (by simp [wi, wl]; try omega) dX2_take_52 ?_
  refine cS1 (ar := [.int ((-(M.1 (38 + i) 0)) * (f_max 1 ((M.1 3 2) + M.1 4 (cix (f_by (-(M.1 (38 + i) 0) * (M.1 3 2)) (M.1 (38 + i) 2)))))), .int (M.1 (38 + i) 2)]) (st := [.ref 7]) C lkX2_47 (k_by (wi (wi (wi M 7 0 (f_by (-(M.1 (38 + i) 0) * (M.1 3 2)) (M.1 (38 + i) 2))) 7 1 (f_colc (f_by (-(M.1 (38 + i) 0) * (M.1 3 2)) (M.1 (38 + i) 2)))) 7 2 (f_max 1 ((M.1 3 2) + M.1 4 (cix (f_by (-(M.1 (38 + i) 0) * (M.1 3 2)) (M.1 (38 + i) 2)))))) ((-(M.1 (38 + i) 0)) * (f_max 1 ((M.1 3 2) + M.1 4 (cix (f_by (-(M.1 (38 + i) 0) * (M.1 3 2)) (M.1 (38 + i) 2)))))) (M.1 (38 + i) 2)) (by decide) rfl (Nat.le_of_ble_eq_true rfl) rfl dX2_take_55 ?_
  refine ar_puti C flX2_50 kd_7 dX2_take_58 ?_
  refine ar_aload_n (n := 1) C dX2_take_61 rfl rfl ?_
  refine ar_aload_n (n := 2) C dX2_take_62 rfl rfl ?_
  refine ar_getr C flX2_9 rfl kd_2 rf_2_0 dX2_take_63 ?_
  refine ar_iconst (v := 3) C dX2_take_66 (by decide) ?_
  refine ar_ialdV (j := 3) (v := M.1 3 3) C kd_3 (by decide) (by decide) rfl dX2_take_67 ?_
  refine ar_iconst (v := 1) C dX2_take_68 (by decide) ?_
  refine ar_icmp_ne (tgt := 79) C dX2_take_69 (by decide) (fun c_1 => ?_) (fun c_1 => ?_)
  · refine ar_aload_n (n := 3) C dX2_take_79 rfl rfl ?_
    refine ar_getiV (v := M.1 (38 + i) 1) C flX2_51 (kd_thing hi) (by simp [wi, wl]; try omega) dX2_take_80 ?_
    refine ar_ineg C dX2_take_83 ?_
    refine ar_aload_n (n := 1) C dX2_take_84 rfl rfl ?_
    refine ar_getiV (v := f_max 1 ((M.1 3 2) + M.1 4 (cix (f_by (-(M.1 (38 + i) 0) * (M.1 3 2)) (M.1 (38 + i) 2))))) C flX2_36 kd_7 rfl dX2_take_85 ?_
    refine ar_imul C dX2_take_88 ?_
    refine ar_aload_n (n := 3) C dX2_take_89 rfl rfl ?_
    refine ar_getiV (v := M.1 (38 + i) 2) C flX2_44 (kd_thing hi) (by simp [wi, wl]; try omega) dX2_take_90 ?_
    refine cS1 (ar := [.int ((-(M.1 (38 + i) 1)) * (f_max 1 ((M.1 3 2) + M.1 4 (cix (f_by (-(M.1 (38 + i) 0) * (M.1 3 2)) (M.1 (38 + i) 2)))))), .int (M.1 (38 + i) 2)]) (st := [.ref 7]) C lkX2_47 (k_by (wi (wi (wi (wi M 7 0 (f_by (-(M.1 (38 + i) 0) * (M.1 3 2)) (M.1 (38 + i) 2))) 7 1 (f_colc (f_by (-(M.1 (38 + i) 0) * (M.1 3 2)) (M.1 (38 + i) 2)))) 7 2 (f_max 1 ((M.1 3 2) + M.1 4 (cix (f_by (-(M.1 (38 + i) 0) * (M.1 3 2)) (M.1 (38 + i) 2)))))) 7 3 (f_by ((-(M.1 (38 + i) 0)) * (f_max 1 ((M.1 3 2) + M.1 4 (cix (f_by (-(M.1 (38 + i) 0) * (M.1 3 2)) (M.1 (38 + i) 2)))))) (M.1 (38 + i) 2))) ((-(M.1 (38 + i) 1)) * (f_max 1 ((M.1 3 2) + M.1 4 (cix (f_by (-(M.1 (38 + i) 0) * (M.1 3 2)) (M.1 (38 + i) 2)))))) (M.1 (38 + i) 2)) (by decide) rfl (Nat.le_of_ble_eq_true rfl) rfl dX2_take_93 ?_
    refine ar_puti C flX2_54 kd_7 dX2_take_96 ?_
    refine ar_aload_n (n := 1) C dX2_take_99 rfl rfl ?_
    refine ar_aload_n (n := 2) C dX2_take_100 rfl rfl ?_
    refine ar_aload_n (n := 1) C dX2_take_101 rfl rfl ?_
    refine ar_getiV (v := f_max 1 ((M.1 3 2) + M.1 4 (cix (f_by (-(M.1 (38 + i) 0) * (M.1 3 2)) (M.1 (38 + i) 2))))) C flX2_36 kd_7 rfl dX2_take_102 ?_
    refine ar_aload_n (n := 3) C dX2_take_105 rfl rfl ?_
    refine ar_getiV (v := M.1 (38 + i) 2) C flX2_44 (kd_thing hi) (by simp [wi, wl]; try omega) dX2_take_106 ?_
    refine cV1 (ar := [.int (f_max 1 ((M.1 3 2) + M.1 4 (cix (f_by (-(M.1 (38 + i) 0) * (M.1 3 2)) (M.1 (38 + i) 2))))), .int (M.1 (38 + i) 2)]) (st := [.ref 7]) C lkX2_55 kd_2 (k_blurBy (ρ := (M.1 3)) (wi (wi (wi (wi (wi M 7 0 (f_by (-(M.1 (38 + i) 0) * (M.1 3 2)) (M.1 (38 + i) 2))) 7 1 (f_colc (f_by (-(M.1 (38 + i) 0) * (M.1 3 2)) (M.1 (38 + i) 2)))) 7 2 (f_max 1 ((M.1 3 2) + M.1 4 (cix (f_by (-(M.1 (38 + i) 0) * (M.1 3 2)) (M.1 (38 + i) 2)))))) 7 3 (f_by ((-(M.1 (38 + i) 0)) * (f_max 1 ((M.1 3 2) + M.1 4 (cix (f_by (-(M.1 (38 + i) 0) * (M.1 3 2)) (M.1 (38 + i) 2)))))) (M.1 (38 + i) 2))) 7 4 (f_by ((-(M.1 (38 + i) 1)) * (f_max 1 ((M.1 3 2) + M.1 4 (cix (f_by (-(M.1 (38 + i) 0) * (M.1 3 2)) (M.1 (38 + i) 2)))))) (M.1 (38 + i) 2))) rfl (f_max 1 ((M.1 3 2) + M.1 4 (cix (f_by (-(M.1 (38 + i) 0) * (M.1 3 2)) (M.1 (38 + i) 2))))) (M.1 (38 + i) 2)) (by decide) rfl (Nat.le_of_ble_eq_true rfl) rfl dX2_take_109 ?_
    refine ar_puti C flX2_58 kd_7 dX2_take_112 ?_
    exact ar_return C rfl dX2_take_115 ⟨rfl, rfl, by simp only [pic, P_x, P_y, P_blur, f_far]; first | rw [if_pos c_1] | rw [if_neg c_1]⟩
  · refine ar_aload_n (n := 3) C dX2_take_72 rfl rfl ?_
    refine ar_getiV (v := M.1 (38 + i) 1) C flX2_51 (kd_thing hi) (by simp [wi, wl]; try omega) dX2_take_73 ?_
    refine ar_goto (tgt := 84) C dX2_take_76 (by decide) ?_
    refine ar_aload_n (n := 1) C dX2_take_84 rfl rfl ?_
    refine ar_getiV (v := f_max 1 ((M.1 3 2) + M.1 4 (cix (f_by (-(M.1 (38 + i) 0) * (M.1 3 2)) (M.1 (38 + i) 2))))) C flX2_36 kd_7 rfl dX2_take_85 ?_
    refine ar_imul C dX2_take_88 ?_
    refine ar_aload_n (n := 3) C dX2_take_89 rfl rfl ?_
    refine ar_getiV (v := M.1 (38 + i) 2) C flX2_44 (kd_thing hi) (by simp [wi, wl]; try omega) dX2_take_90 ?_
    refine cS1 (ar := [.int ((M.1 (38 + i) 1) * (f_max 1 ((M.1 3 2) + M.1 4 (cix (f_by (-(M.1 (38 + i) 0) * (M.1 3 2)) (M.1 (38 + i) 2)))))), .int (M.1 (38 + i) 2)]) (st := [.ref 7]) C lkX2_47 (k_by (wi (wi (wi (wi M 7 0 (f_by (-(M.1 (38 + i) 0) * (M.1 3 2)) (M.1 (38 + i) 2))) 7 1 (f_colc (f_by (-(M.1 (38 + i) 0) * (M.1 3 2)) (M.1 (38 + i) 2)))) 7 2 (f_max 1 ((M.1 3 2) + M.1 4 (cix (f_by (-(M.1 (38 + i) 0) * (M.1 3 2)) (M.1 (38 + i) 2)))))) 7 3 (f_by ((-(M.1 (38 + i) 0)) * (f_max 1 ((M.1 3 2) + M.1 4 (cix (f_by (-(M.1 (38 + i) 0) * (M.1 3 2)) (M.1 (38 + i) 2)))))) (M.1 (38 + i) 2))) ((M.1 (38 + i) 1) * (f_max 1 ((M.1 3 2) + M.1 4 (cix (f_by (-(M.1 (38 + i) 0) * (M.1 3 2)) (M.1 (38 + i) 2)))))) (M.1 (38 + i) 2)) (by decide) rfl (Nat.le_of_ble_eq_true rfl) rfl dX2_take_93 ?_
    refine ar_puti C flX2_54 kd_7 dX2_take_96 ?_
    refine ar_aload_n (n := 1) C dX2_take_99 rfl rfl ?_
    refine ar_aload_n (n := 2) C dX2_take_100 rfl rfl ?_
    refine ar_aload_n (n := 1) C dX2_take_101 rfl rfl ?_
    refine ar_getiV (v := f_max 1 ((M.1 3 2) + M.1 4 (cix (f_by (-(M.1 (38 + i) 0) * (M.1 3 2)) (M.1 (38 + i) 2))))) C flX2_36 kd_7 rfl dX2_take_102 ?_
    refine ar_aload_n (n := 3) C dX2_take_105 rfl rfl ?_
    refine ar_getiV (v := M.1 (38 + i) 2) C flX2_44 (kd_thing hi) (by simp [wi, wl]; try omega) dX2_take_106 ?_
    refine cV1 (ar := [.int (f_max 1 ((M.1 3 2) + M.1 4 (cix (f_by (-(M.1 (38 + i) 0) * (M.1 3 2)) (M.1 (38 + i) 2))))), .int (M.1 (38 + i) 2)]) (st := [.ref 7]) C lkX2_55 kd_2 (k_blurBy (ρ := (M.1 3)) (wi (wi (wi (wi (wi M 7 0 (f_by (-(M.1 (38 + i) 0) * (M.1 3 2)) (M.1 (38 + i) 2))) 7 1 (f_colc (f_by (-(M.1 (38 + i) 0) * (M.1 3 2)) (M.1 (38 + i) 2)))) 7 2 (f_max 1 ((M.1 3 2) + M.1 4 (cix (f_by (-(M.1 (38 + i) 0) * (M.1 3 2)) (M.1 (38 + i) 2)))))) 7 3 (f_by ((-(M.1 (38 + i) 0)) * (f_max 1 ((M.1 3 2) + M.1 4 (cix (f_by (-(M.1 (38 + i) 0) * (M.1 3 2)) (M.1 (38 + i) 2)))))) (M.1 (38 + i) 2))) 7 4 (f_by ((M.1 (38 + i) 1) * (f_max 1 ((M.1 3 2) + M.1 4 (cix (f_by (-(M.1 (38 + i) 0) * (M.1 3 2)) (M.1 (38 + i) 2)))))) (M.1 (38 + i) 2))) rfl (f_max 1 ((M.1 3 2) + M.1 4 (cix (f_by (-(M.1 (38 + i) 0) * (M.1 3 2)) (M.1 (38 + i) 2))))) (M.1 (38 + i) 2)) (by decide) rfl (Nat.le_of_ble_eq_true rfl) rfl dX2_take_109 ?_
    refine ar_puti C flX2_58 kd_7 dX2_take_112 ?_
    exact ar_return C rfl dX2_take_115 ⟨rfl, rfl, by simp only [pic, P_x, P_y, P_blur, f_far]; first | rw [if_pos c_1] | rw [if_neg c_1]⟩
