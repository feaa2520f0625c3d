/-! THE SMALL CLASSES: Sheet, Thing, Trace, Stand -/
theorem nat_le {a b : Nat} (h : nI a ≤ nI b) (ha : a < 2 ^ 31) (hb : b < 2 ^ 31) : a ≤ b := (nI_leI ha hb).mp h
theorem nat_nle {a b : Nat} (h : ¬ nI a ≤ nI b) (ha : a < 2 ^ 31) (hb : b < 2 ^ 31) : b < a := by
  rcases Nat.lt_or_ge b a with q | q
  · exact q
  · exact absurd ((nI_leI ha hb).mpr q) h
/-- how many of the first n places aren't 0 -/
def cnt (f : Nat → Int32) : Nat → Nat
  | 0 => 0
  | n + 1 => cnt f n + (if f n = 0 then 0 else 1)
theorem cnt_le (f : Nat → Int32) : ∀ n, cnt f n ≤ n
  | 0 => Nat.le_refl 0
  | n + 1 => by
    have h := cnt_le f n
    simp only [cnt]
    split <;> omega
def f_holds (len i n : Int32) : Bool := !decide (i < 0) && !decide (n < 0) && !decide (len < n) && !decide (len - n < i)
def f_lane (lane v : Int32) : Int32 := if lane = 0 then v.toInt8.toInt32 else if lane = 1 then v.toInt16.toInt32 else v
set_option maxHeartbeats 4000000 in
set_option maxRecDepth 100000 in
theorem k_isMissing (M : Mm) {i : Nat} (hi : i < 8) : AX mX6_isMissing 0 [.ref (22 + 2 * i)] M (some (.int (bI (decide (M.1 (22 + 2 * i) 1 = -1))))) M := by
  refine AM_ofF (by decide +kernel) (Nat.le_of_ble_eq_true rfl) (fun X V C _ _ => ?_)
  show AW X V mX6_isMissing.2.2.1 T0 M 0 0 _ 0 [(0, .ref (22 + 2 * i))] []
  refine ar_aload_n (n := 0) C dX6_isMissing_0 rfl rfl ?_
  refine ar_geti C flX6_15 (kd_sheet hi) dX6_isMissing_1 ?_
  refine ar_iconst (v := (-1)) C dX6_isMissing_4 (by decide) ?_
  refine ar_icmp_ne (tgt := 12) C dX6_isMissing_5 (by decide) (fun c_1 => ?_) (fun c_1 => ?_)
  · refine ar_iconst (v := 0) C dX6_isMissing_12 (by decide) ?_
    exact ar_zreturn C rfl rfl dX6_isMissing_13 ⟨by simp [bI, *], rfl, rfl⟩
  · refine ar_iconst (v := 1) C dX6_isMissing_8 (by decide) ?_
    refine ar_goto (tgt := 13) C dX6_isMissing_9 (by decide) ?_
    exact ar_zreturn C rfl rfl dX6_isMissing_13 ⟨by simp [bI, *], rfl, rfl⟩
set_option maxHeartbeats 4000000 in
set_option maxRecDepth 100000 in
theorem k_lose (M : Mm) {i : Nat} (hi : i < 8) : AX mX6_lose 0 [.ref (22 + 2 * i)] M (some (.int (M.1 (22 + 2 * i) 2))) (wi (wi M (22 + 2 * i) 1 (-1)) (22 + 2 * i) 2 0) := by
  refine AM_ofF (by decide +kernel) (Nat.le_of_ble_eq_true rfl) (fun X V C _ _ => ?_)
  show AW X V mX6_lose.2.2.1 T0 M 0 0 _ 0 [(0, .ref (22 + 2 * i))] []
  refine ar_aload_n (n := 0) C dX6_lose_0 rfl rfl ?_
  refine ar_geti C flX6_19 (kd_sheet hi) dX6_lose_1 ?_
  refine ar_istore_n (als' := [(1, .int (M.1 (22 + 2 * i) 2)), (0, .ref (22 + 2 * i))]) C dX6_lose_4 rfl (by decide) rfl ?_
  refine ar_aload_n (n := 1) C dX6_lose_5 rfl rfl ?_
  refine ar_iconst (v := (-1)) C dX6_lose_6 (by decide) ?_
  refine ar_puti C flX6_15 (kd_sheet hi) dX6_lose_7 ?_
  refine ar_aload_n (n := 1) C dX6_lose_10 rfl rfl ?_
  refine ar_iconst (v := 0) C dX6_lose_11 (by decide) ?_
  refine ar_puti C flX6_19 (kd_sheet hi) dX6_lose_12 ?_
  refine ar_iload_n (n := 0) C dX6_lose_15 rfl rfl ?_
  exact ar_ireturn C rfl dX6_lose_16 ⟨rfl, rfl, rfl⟩
set_option maxHeartbeats 4000000 in
set_option maxRecDepth 100000 in
theorem k_holds (M : Mm) {i : Nat} (hi : i < 8) (a n : Int32) : AX mX6_holds 0 [.ref (22 + 2 * i), .int a, .int n] M (some (.int (bI (f_holds (M.1 (22 + 2 * i) 2) a n)))) M := by
  refine AM_ofF (by decide +kernel) (Nat.le_of_ble_eq_true rfl) (fun X V C _ _ => ?_)
  show AW X V mX6_holds.2.2.1 T0 M 0 0 _ 0 [(0, .ref (22 + 2 * i)), (1, .int a), (2, .int n)] []
  refine ar_iload_n (n := 1) C dX6_holds_0 rfl rfl ?_
  refine ar_if_lt (tgt := 30) C dX6_holds_1 (by decide) (fun c_1 => ?_) (fun c_1 => ?_)
  · refine ar_iconst (v := 0) C dX6_holds_30 (by decide) ?_
    exact ar_zreturn C rfl rfl dX6_holds_31 ⟨by simp [bI, f_holds, *], rfl, rfl⟩
  · refine ar_iload_n (n := 2) C dX6_holds_4 rfl rfl ?_
    refine ar_if_lt (tgt := 30) C dX6_holds_5 (by decide) (fun c_2 => ?_) (fun c_2 => ?_)
    · refine ar_iconst (v := 0) C dX6_holds_30 (by decide) ?_
      exact ar_zreturn C rfl rfl dX6_holds_31 ⟨by simp [bI, f_holds, *], rfl, rfl⟩
    · refine ar_iload_n (n := 2) C dX6_holds_8 rfl rfl ?_
      refine ar_aload_n (n := 0) C dX6_holds_9 rfl rfl ?_
      refine ar_geti C flX6_19 (kd_sheet hi) dX6_holds_10 ?_
      refine ar_icmp_gt (tgt := 30) C dX6_holds_13 (by decide) (fun c_3 => ?_) (fun c_3 => ?_)
      · refine ar_iconst (v := 0) C dX6_holds_30 (by decide) ?_
        exact ar_zreturn C rfl rfl dX6_holds_31 ⟨by simp [bI, f_holds, *], rfl, rfl⟩
      · refine ar_iload_n (n := 1) C dX6_holds_16 rfl rfl ?_
        refine ar_aload_n (n := 0) C dX6_holds_17 rfl rfl ?_
        refine ar_geti C flX6_19 (kd_sheet hi) dX6_holds_18 ?_
        refine ar_iload_n (n := 2) C dX6_holds_21 rfl rfl ?_
        refine ar_isub C dX6_holds_22 ?_
        refine ar_icmp_gt (tgt := 30) C dX6_holds_23 (by decide) (fun c_4 => ?_) (fun c_4 => ?_)
        · refine ar_iconst (v := 0) C dX6_holds_30 (by decide) ?_
          exact ar_zreturn C rfl rfl dX6_holds_31 ⟨by simp [bI, f_holds, *], rfl, rfl⟩
        · refine ar_iconst (v := 1) C dX6_holds_26 (by decide) ?_
          refine ar_goto (tgt := 31) C dX6_holds_27 (by decide) ?_
          exact ar_zreturn C rfl rfl dX6_holds_31 ⟨by simp [bI, f_holds, *], rfl, rfl⟩
set_option maxHeartbeats 4000000 in
set_option maxRecDepth 100000 in
theorem k_write (M : Mm) {i j : Nat} (hi : i < 8) (hj : j < 80) (v : Int32) : AX mX6_write 0 [.ref (22 + 2 * i), .int (nI j), .int v] M (some (.int (f_lane (M.1 (22 + 2 * i) 1) v))) (wi M (23 + 2 * i) j (f_lane (M.1 (22 + 2 * i) 1) v)) := by
  refine AM_ofF (by decide +kernel) (Nat.le_of_ble_eq_true rfl) (fun X V C _ _ => ?_)
  show AW X V mX6_write.2.2.1 T0 M 0 0 _ 0 [(0, .ref (22 + 2 * i)), (1, .int (nI j)), (2, .int v)] []
  refine ar_aload_n (n := 0) C dX6_write_0 rfl rfl ?_
  refine ar_getr C flX6_9 rfl (kd_sheet hi) (rf_items hi) dX6_write_1 ?_
  refine ar_iload_n (n := 1) C dX6_write_4 rfl rfl ?_
  refine ar_aload_n (n := 0) C dX6_write_5 rfl rfl ?_
  refine ar_geti C flX6_15 (kd_sheet hi) dX6_write_6 ?_
  refine ar_if_ne (tgt := 17) C dX6_write_9 (by decide) (fun c_1 => ?_) (fun c_1 => ?_)
  · refine ar_aload_n (n := 0) C dX6_write_17 rfl rfl ?_
    refine ar_geti C flX6_15 (kd_sheet hi) dX6_write_18 ?_
    refine ar_iconst (v := 1) C dX6_write_21 (by decide) ?_
    refine ar_icmp_ne (tgt := 30) C dX6_write_22 (by decide) (fun c_2 => ?_) (fun c_2 => ?_)
    · refine ar_iload_n (n := 2) C dX6_write_30 rfl rfl ?_
      refine ar_iast C (kd_items hi) rfl hj dX6_write_31 ?_
      refine ar_aload_n (n := 0) C dX6_write_32 rfl rfl ?_
      refine ar_getr C flX6_9 rfl (kd_sheet hi) (rf_items hi) dX6_write_33 ?_
      refine ar_iload_n (n := 1) C dX6_write_36 rfl rfl ?_
      refine ar_ialdV (v := v) C (kd_items hi) rfl hj (by simp [wi, wl]; try omega) dX6_write_37 ?_
      exact ar_ireturn C rfl dX6_write_38 ⟨by simp [f_lane, *], rfl, by simp [f_lane, *]⟩
    · refine ar_iload_n (n := 2) C dX6_write_25 rfl rfl ?_
      refine ar_i2s C dX6_write_26 ?_
      refine ar_goto (tgt := 31) C dX6_write_27 (by decide) ?_
      refine ar_iast C (kd_items hi) rfl hj dX6_write_31 ?_
      refine ar_aload_n (n := 0) C dX6_write_32 rfl rfl ?_
      refine ar_getr C flX6_9 rfl (kd_sheet hi) (rf_items hi) dX6_write_33 ?_
      refine ar_iload_n (n := 1) C dX6_write_36 rfl rfl ?_
      refine ar_ialdV (v := v.toInt16.toInt32) C (kd_items hi) rfl hj (by simp [wi, wl]; try omega) dX6_write_37 ?_
      exact ar_ireturn C rfl dX6_write_38 ⟨by simp [f_lane, *], rfl, by simp [f_lane, *]⟩
  · refine ar_iload_n (n := 2) C dX6_write_12 rfl rfl ?_
    refine ar_i2b C dX6_write_13 ?_
    refine ar_goto (tgt := 31) C dX6_write_14 (by decide) ?_
    refine ar_iast C (kd_items hi) rfl hj dX6_write_31 ?_
    refine ar_aload_n (n := 0) C dX6_write_32 rfl rfl ?_
    refine ar_getr C flX6_9 rfl (kd_sheet hi) (rf_items hi) dX6_write_33 ?_
    refine ar_iload_n (n := 1) C dX6_write_36 rfl rfl ?_
    refine ar_ialdV (v := v.toInt8.toInt32) C (kd_items hi) rfl hj (by simp [wi, wl]; try omega) dX6_write_37 ?_
    exact ar_ireturn C rfl dX6_write_38 ⟨by simp [f_lane, *], rfl, by simp [f_lane, *]⟩
set_option maxHeartbeats 4000000 in
set_option maxRecDepth 100000 in
theorem k_lay (M : Mm) {i : Nat} (hi : i < 8) (a n : Int32) : AX mX6_lay 0 [.ref (22 + 2 * i), .int a, .int n] M none (wf (wi (wi M (22 + 2 * i) 1 a) (22 + 2 * i) 2 n) (23 + 2 * i) 80 0) := by
  refine AM_ofF (by decide +kernel) (Nat.le_of_ble_eq_true rfl) (fun X V C _ _ => ?_)
  show AW X V mX6_lay.2.2.1 T0 M 0 0 _ 0 [(0, .ref (22 + 2 * i)), (1, .int a), (2, .int n)] []
  have L : ∀ m j : Nat, j ≤ 80 → 80 - j < m → AW X V mX6_lay.2.2.1 T0 (wf (wi (wi M (22 + 2 * i) 1 a) (22 + 2 * i) 2 n) (23 + 2 * i) j 0) 0 0 (QM X V (fun r' T' M' => r' = none ∧ T' = T0 ∧ M' = wf (wi (wi M (22 + 2 * i) 1 a) (22 + 2 * i) 2 n) (23 + 2 * i) 80 0) 0 0) 12 [(3, .int (nI j)), (0, .ref (22 + 2 * i)), (1, .int a), (2, .int n)] [] := by
    intro m
    induction m with
    | zero => intro j _ h; exact absurd h (Nat.not_lt_zero _)
    | succ m ih =>
      intro j hj0 hm
      refine ar_iload_n (n := 0) C dX6_lay_12 rfl rfl ?_
      refine ar_bipush (v := 80) C dX6_lay_13 (by decide) ?_
      refine ar_icmp_ge (tgt := 31) C dX6_lay_15 (by decide) (fun c_1 => ?_) (fun c_1 => ?_)
      · have hj : j = 80 := Nat.le_antisymm hj0 (nat_le (a := 80) c_1 (by decide) (by omega))
        subst hj
        exact ar_return C rfl dX6_lay_31 ⟨rfl, rfl, rfl⟩
      · have hj : j < 80 := nat_nle (a := 80) c_1 (by decide) (by omega)
        refine ar_aload_n (n := 1) C dX6_lay_18 rfl rfl ?_
        refine ar_getr C flX6_9 rfl (kd_sheet hi) (rf_items hi) dX6_lay_19 ?_
        refine ar_iload_n (n := 0) C dX6_lay_22 rfl rfl ?_
        refine ar_iconst (v := 0) C dX6_lay_23 (by decide) ?_
        refine ar_iast C (kd_items hi) rfl hj dX6_lay_24 ?_
        refine ar_iinc (n := 0) (v := (nI (j + 1))) (als' := [(3, .int (nI (j + 1))), (0, .ref (22 + 2 * i)), (1, .int a), (2, .int n)]) C dX6_lay_25 rfl (nI_1 _) (by decide) rfl ?_
        refine ar_goto (tgt := 12) C dX6_lay_28 (by decide) ?_
        refine ar_mem _ (wf_s _ _ _ _) ?_
        exact ih (j + 1) (by omega) (by omega)
  refine ar_aload_n (n := 0) C dX6_lay_0 rfl rfl ?_
  refine ar_iload_n (n := 1) C dX6_lay_1 rfl rfl ?_
  refine ar_puti C flX6_15 (kd_sheet hi) dX6_lay_2 ?_
  refine ar_aload_n (n := 0) C dX6_lay_5 rfl rfl ?_
  refine ar_iload_n (n := 2) C dX6_lay_6 rfl rfl ?_
  refine ar_puti C flX6_19 (kd_sheet hi) dX6_lay_7 ?_
  refine ar_iconst (v := 0) C dX6_lay_10 (by decide) ?_
  refine ar_istore_n (als' := [(3, .int 0), (0, .ref (22 + 2 * i)), (1, .int a), (2, .int n)]) C dX6_lay_11 rfl (by decide) rfl ?_
  refine ar_mem (wf (wi (wi M (22 + 2 * i) 1 a) (22 + 2 * i) 2 n) (23 + 2 * i) 0 0) (wf_0 _ _ _).symm ?_
  exact L 81 0 (by omega) (by omega)
set_option maxHeartbeats 4000000 in
set_option maxRecDepth 100000 in
theorem k_tput (M : Mm) {i : Nat} (hi : i < 24) (a b c : Int32) : AX mX9_put 0 [.ref (38 + i), .int a, .int b, .int c] M none (wi (wi (wi M (38 + i) 0 a) (38 + i) 1 b) (38 + i) 2 c) := by
  refine AM_ofF (by decide +kernel) (Nat.le_of_ble_eq_true rfl) (fun X V C _ _ => ?_)
  show AW X V mX9_put.2.2.1 T0 M 0 0 _ 0 [(0, .ref (38 + i)), (1, .int a), (2, .int b), (3, .int c)] []
  refine ar_aload_n (n := 0) C dX9_put_0 rfl rfl ?_
  refine ar_iload_n (n := 1) C dX9_put_1 rfl rfl ?_
  refine ar_puti C flX9_13 (kd_thing hi) dX9_put_2 ?_
  refine ar_aload_n (n := 0) C dX9_put_5 rfl rfl ?_
  refine ar_iload_n (n := 2) C dX9_put_6 rfl rfl ?_
  refine ar_puti C flX9_16 (kd_thing hi) dX9_put_7 ?_
  refine ar_aload_n (n := 0) C dX9_put_10 rfl rfl ?_
  refine ar_iload_n (n := 3) C dX9_put_11 rfl rfl ?_
  refine ar_puti C flX9_7 (kd_thing hi) dX9_put_12 ?_
  exact ar_return C rfl dX9_put_15 ⟨rfl, rfl, rfl⟩
set_option maxHeartbeats 4000000 in
set_option maxRecDepth 100000 in
theorem k_rput (M : Mm) {i j : Nat} (hi : i < 8) (hj : j < 24) (a b : Int32) : AX mX10_put 0 [.ref (62 + 4 * i), .int (nI j), .int a, .int b] M none (wi (wi (wi M (63 + 4 * i) j 1) (64 + 4 * i) j a) (65 + 4 * i) j b) := by
  refine AM_ofF (by decide +kernel) (Nat.le_of_ble_eq_true rfl) (fun X V C _ _ => ?_)
  show AW X V mX10_put.2.2.1 T0 M 0 0 _ 0 [(0, .ref (62 + 4 * i)), (1, .int (nI j)), (2, .int a), (3, .int b)] []
  refine ar_aload_n (n := 0) C dX10_put_0 rfl rfl ?_
  refine ar_getr C flX10_9 rfl (kd_trace hi) (rf_has hi) dX10_put_1 ?_
  refine ar_iload_n (n := 1) C dX10_put_4 rfl rfl ?_
  refine ar_iconst (v := 1) C dX10_put_5 (by decide) ?_
  refine ar_zast C (kd_has hi) rfl hj rfl dX10_put_6 ?_
  refine ar_aload_n (n := 0) C dX10_put_7 rfl rfl ?_
  refine ar_getr C flX10_15 rfl (kd_trace hi) (rf_tx hi) dX10_put_8 ?_
  refine ar_iload_n (n := 1) C dX10_put_11 rfl rfl ?_
  refine ar_iload_n (n := 2) C dX10_put_12 rfl rfl ?_
  refine ar_iast C (kd_tx hi) rfl hj dX10_put_13 ?_
  refine ar_aload_n (n := 0) C dX10_put_14 rfl rfl ?_
  refine ar_getr C flX10_19 rfl (kd_trace hi) (rf_ty hi) dX10_put_15 ?_
  refine ar_iload_n (n := 1) C dX10_put_18 rfl rfl ?_
  refine ar_iload_n (n := 3) C dX10_put_19 rfl rfl ?_
  refine ar_iast C (kd_ty hi) rfl hj dX10_put_20 ?_
  exact ar_return C rfl dX10_put_21 ⟨rfl, rfl, rfl⟩
