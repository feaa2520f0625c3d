/-! LENSTABLE: its public methods -/
theorem in7 {i : Nat} (h : i < 8) : f_in (nI i) 0 7 = true := f_in_nI (n := 7) (by decide) (by omega) (by decide)
theorem in23 {i : Nat} (h : i < 24) : f_in (nI i) 0 23 = true := f_in_nI (n := 23) (by decide) (by omega) (by decide)
theorem inN {i N : Nat} {v : Int32} (hv : v = nI N) (h : i < N) (hN : N ≤ 24) : f_in (nI i) 0 (v - 1) = true := by
  rw [hv, show nI N - 1 = nI (N - 1) from pk_sub (a := N) (b := 1) (by omega)]
  exact f_in_nI (n := N - 1) (nI_toInt (by omega)) (by omega) (by omega)
set_option maxHeartbeats 4000000 in
set_option maxRecDepth 100000 in
theorem x_sheet_bad (M : Mm) (s l n : Int32)  (hbad : (f_in s 0 7 && f_in l 0 2 && !decide (80 < n)) = false) : AX mX11_sheet 2 [.ref 0, .int s, .int l, .int n] M (some (.int (-1000001))) M := by
  refine AM_ofF (by decide +kernel) (Nat.le_of_ble_eq_true rfl) (fun X V C _ _ => ?_)
  show AW X V mX11_sheet.2.2.1 T0 M 0 0 _ 0 [(0, .ref 0), (1, .int s), (2, .int l), (3, .int n)] []
  refine ar_iload_n (n := 1) C dX11_sheet_0 rfl rfl ?_
  refine cS1 (ar := [.int s]) (st := []) C lkX11_90 (k_isSheet M s) (by decide) rfl (Nat.le_of_ble_eq_true rfl) rfl dX11_sheet_1 ?_
  refine ar_if_eqB (tgt := 22) C dX11_sheet_4 (by decide) (fun c_1 => ?_) (fun c_1 => ?_)
  · refine ar_ldc C kcX11_98 dX11_sheet_22 ?_
    exact ar_ireturn C rfl dX11_sheet_24 ⟨rfl, rfl, rfl⟩
  · refine ar_iload_n (n := 2) C dX11_sheet_7 rfl rfl ?_
    refine ar_iconst (v := 0) C dX11_sheet_8 (by decide) ?_
    refine ar_iconst (v := 2) C dX11_sheet_9 (by decide) ?_
    refine cS1 (ar := [.int l, .int 0, .int 2]) (st := []) C lkX11_94 (k_within M l 0 2) (by decide) rfl (Nat.le_of_ble_eq_true rfl) rfl dX11_sheet_10 ?_
    refine ar_if_eqB (tgt := 22) C dX11_sheet_13 (by decide) (fun c_2 => ?_) (fun c_2 => ?_)
    · refine ar_ldc C kcX11_98 dX11_sheet_22 ?_
      exact ar_ireturn C rfl dX11_sheet_24 ⟨rfl, rfl, rfl⟩
    · refine ar_iload_n (n := 3) C dX11_sheet_16 rfl rfl ?_
      refine ar_bipush (v := 80) C dX11_sheet_17 (by decide) ?_
      refine ar_icmp_le (tgt := 25) C dX11_sheet_19 (by decide) (fun c_3 => ?_) (fun c_3 => ?_)
      · exact absurd hbad (by simp [c_1, c_2, show ¬ 80 < n from fun q => by rw [Int32.lt_iff_toInt_lt] at q; rw [Int32.le_iff_toInt_le] at c_3; omega])
      · refine ar_ldc C kcX11_98 dX11_sheet_22 ?_
        exact ar_ireturn C rfl dX11_sheet_24 ⟨rfl, rfl, rfl⟩
set_option maxHeartbeats 4000000 in
set_option maxRecDepth 100000 in
theorem x_sheet_neg (M : Mm) {i : Nat} (hi : i < 8) (l n : Int32) (hl : f_in l 0 2 = true) (h80 : n ≤ 80) (hn : n < 0) : AX mX11_sheet 2 [.ref 0, .int (nI i), .int l, .int n] M (some (.int (-1000014))) (wi M 0 12 4) := by
  refine AM_ofF (by decide +kernel) (Nat.le_of_ble_eq_true rfl) (fun X V C _ _ => ?_)
  show AW X V mX11_sheet.2.2.1 T0 M 0 0 _ 0 [(0, .ref 0), (1, .int (nI i)), (2, .int l), (3, .int n)] []
  refine ar_iload_n (n := 1) C dX11_sheet_0 rfl rfl ?_
  refine cS1 (ar := [.int (nI i)]) (st := []) C lkX11_90 (k_isSheet M (nI i)) (by decide) rfl (Nat.le_of_ble_eq_true rfl) rfl dX11_sheet_1 ?_
  refine ar_if_eqB (tgt := 22) C dX11_sheet_4 (by decide) (fun c_1 => False.elim (Bool.noConfusion ((in7 hi).symm.trans c_1))) (fun _ => ?_)
  refine ar_iload_n (n := 2) C dX11_sheet_7 rfl rfl ?_
  refine ar_iconst (v := 0) C dX11_sheet_8 (by decide) ?_
  refine ar_iconst (v := 2) C dX11_sheet_9 (by decide) ?_
  refine cS1 (ar := [.int l, .int 0, .int 2]) (st := []) C lkX11_94 (k_within M l 0 2) (by decide) rfl (Nat.le_of_ble_eq_true rfl) rfl dX11_sheet_10 ?_
  refine ar_if_eqB (tgt := 22) C dX11_sheet_13 (by decide) (fun c_2 => False.elim (Bool.noConfusion (hl.symm.trans c_2))) (fun _ => ?_)
  refine ar_iload_n (n := 3) C dX11_sheet_16 rfl rfl ?_
  refine ar_bipush (v := 80) C dX11_sheet_17 (by decide) ?_
  refine ar_icmp_le (tgt := 25) C dX11_sheet_19 (by decide) (fun _ => ?_) (fun c_3 => False.elim (c_3 h80))
  refine ar_iload_n (n := 3) C dX11_sheet_25 rfl rfl ?_
  refine ar_if_ge (tgt := 35) C dX11_sheet_26 (by decide) (fun c_4 => False.elim (by rw [Int32.lt_iff_toInt_lt] at hn; rw [Int32.le_iff_toInt_le] at c_4; omega)) (fun _ => ?_)
  refine ar_aload_n (n := 0) C dX11_sheet_29 rfl rfl ?_
  refine ar_iconst (v := 4) C dX11_sheet_30 (by decide) ?_
  refine cV1 (ar := [.int 4]) (st := []) C lkX11_99 kd_0 (k_found M 4) (by decide) rfl (Nat.le_of_ble_eq_true rfl) rfl dX11_sheet_31 ?_
  exact ar_ireturn C rfl dX11_sheet_34 ⟨rfl, rfl, rfl⟩
set_option maxHeartbeats 4000000 in
set_option maxRecDepth 100000 in
theorem x_sheet_ok (M : Mm) {i : Nat} (hi : i < 8) (l n : Int32) (hl : f_in l 0 2 = true) (h80 : n ≤ 80) (hn : 0 ≤ n) : AX mX11_sheet 2 [.ref 0, .int (nI i), .int l, .int n] M (some (.int n)) (wi (wf (wi (wi M (22 + 2 * i) 1 l) (22 + 2 * i) 2 n) (23 + 2 * i) 80 0) 0 12 0) := by
  refine AM_ofF (by decide +kernel) (Nat.le_of_ble_eq_true rfl) (fun X V C _ _ => ?_)
  show AW X V mX11_sheet.2.2.1 T0 M 0 0 _ 0 [(0, .ref 0), (1, .int (nI i)), (2, .int l), (3, .int n)] []
  refine ar_iload_n (n := 1) C dX11_sheet_0 rfl rfl ?_
  refine cS1 (ar := [.int (nI i)]) (st := []) C lkX11_90 (k_isSheet M (nI i)) (by decide) rfl (Nat.le_of_ble_eq_true rfl) rfl dX11_sheet_1 ?_
  refine ar_if_eqB (tgt := 22) C dX11_sheet_4 (by decide) (fun c_1 => False.elim (Bool.noConfusion ((in7 hi).symm.trans c_1))) (fun _ => ?_)
  refine ar_iload_n (n := 2) C dX11_sheet_7 rfl rfl ?_
  refine ar_iconst (v := 0) C dX11_sheet_8 (by decide) ?_
  refine ar_iconst (v := 2) C dX11_sheet_9 (by decide) ?_
  refine cS1 (ar := [.int l, .int 0, .int 2]) (st := []) C lkX11_94 (k_within M l 0 2) (by decide) rfl (Nat.le_of_ble_eq_true rfl) rfl dX11_sheet_10 ?_
  refine ar_if_eqB (tgt := 22) C dX11_sheet_13 (by decide) (fun c_2 => False.elim (Bool.noConfusion (hl.symm.trans c_2))) (fun _ => ?_)
  refine ar_iload_n (n := 3) C dX11_sheet_16 rfl rfl ?_
  refine ar_bipush (v := 80) C dX11_sheet_17 (by decide) ?_
  refine ar_icmp_le (tgt := 25) C dX11_sheet_19 (by decide) (fun _ => ?_) (fun c_3 => False.elim (c_3 h80))
  refine ar_iload_n (n := 3) C dX11_sheet_25 rfl rfl ?_
  refine ar_if_ge (tgt := 35) C dX11_sheet_26 (by decide) (fun _ => ?_) (fun c_4 => False.elim (c_4 hn))
  refine ar_aload_n (n := 0) C dX11_sheet_35 rfl rfl ?_
  refine ar_getr C flX11_11 rfl kd_0 rf_0_0 dX11_sheet_36 ?_
  refine ar_iload_n (n := 1) C dX11_sheet_39 rfl rfl ?_
  refine ar_aald (j := i) C kd_1 (by decide) (by decide) rfl hi (rf_sheets hi) dX11_sheet_40 ?_
  refine ar_iload_n (n := 2) C dX11_sheet_41 rfl rfl ?_
  refine ar_iload_n (n := 3) C dX11_sheet_42 rfl rfl ?_
  refine cV0 (ar := [.int l, .int n]) (st := []) C lkX11_103 (kd_sheet hi) (k_lay M hi l n) (by decide) rfl (Nat.le_of_ble_eq_true rfl) rfl dX11_sheet_43 ?_
  refine ar_aload_n (n := 0) C dX11_sheet_46 rfl rfl ?_
  refine ar_iload_n (n := 3) C dX11_sheet_47 rfl rfl ?_
  refine cV1 (ar := [.int n]) (st := []) C lkX11_107 kd_0 (k_clean (wf (wi (wi M (22 + 2 * i) 1 l) (22 + 2 * i) 2 n) (23 + 2 * i) 80 0) n) (by decide) rfl (Nat.le_of_ble_eq_true rfl) rfl dX11_sheet_48 ?_
  exact ar_ireturn C rfl dX11_sheet_51 ⟨rfl, rfl, rfl⟩
set_option maxHeartbeats 4000000 in
set_option maxRecDepth 100000 in
theorem x_set_bad (M : Mm) (s j v : Int32)  (hbad : (f_in s 0 7) = false) : AX mX11_set 2 [.ref 0, .int s, .int j, .int v] M (some (.int (-1000001))) M := by
  refine AM_ofF (by decide +kernel) (Nat.le_of_ble_eq_true rfl) (fun X V C _ _ => ?_)
  show AW X V mX11_set.2.2.1 T0 M 0 0 _ 0 [(0, .ref 0), (1, .int s), (2, .int j), (3, .int v)] []
  refine ar_iload_n (n := 1) C dX11_set_0 rfl rfl ?_
  refine cS1 (ar := [.int s]) (st := []) C lkX11_90 (k_isSheet M s) (by decide) rfl (Nat.le_of_ble_eq_true rfl) rfl dX11_set_1 ?_
  refine ar_if_neB (tgt := 10) C dX11_set_4 (by decide) (fun c_1 => ?_) (fun c_1 => ?_)
  · exact absurd hbad (by first | (rw [c_1]; decide) | simp [*])
  · refine ar_ldc C kcX11_98 dX11_set_7 ?_
    exact ar_ireturn C rfl dX11_set_9 ⟨rfl, rfl, rfl⟩
set_option maxHeartbeats 4000000 in
set_option maxRecDepth 100000 in
theorem x_set_null (M : Mm) {i : Nat} (hi : i < 8) (q v : Int32) (hm : decide (M.1 (22 + 2 * i) 1 = -1) = true) : AX mX11_set 2 [.ref 0, .int (nI i), .int q, .int v] M (some (.int (-1000011))) (wi M 0 12 1) := by
  refine AM_ofF (by decide +kernel) (Nat.le_of_ble_eq_true rfl) (fun X V C _ _ => ?_)
  show AW X V mX11_set.2.2.1 T0 M 0 0 _ 0 [(0, .ref 0), (1, .int (nI i)), (2, .int q), (3, .int v)] []
  refine ar_iload_n (n := 1) C dX11_set_0 rfl rfl ?_
  refine cS1 (ar := [.int (nI i)]) (st := []) C lkX11_90 (k_isSheet M (nI i)) (by decide) rfl (Nat.le_of_ble_eq_true rfl) rfl dX11_set_1 ?_
  refine ar_if_neB (tgt := 10) C dX11_set_4 (by decide) (fun _ => ?_) (fun c_1 => False.elim (Bool.noConfusion ((in7 hi).symm.trans c_1)))
  refine ar_aload_n (n := 0) C dX11_set_10 rfl rfl ?_
  refine ar_getr C flX11_11 rfl kd_0 rf_0_0 dX11_set_11 ?_
  refine ar_iload_n (n := 1) C dX11_set_14 rfl rfl ?_
  refine ar_aald (j := i) C kd_1 (by decide) (by decide) rfl hi (rf_sheets hi) dX11_set_15 ?_
  refine ar_astore (als' := [(4, .ref (22 + 2 * i)), (0, .ref 0), (1, .int (nI i)), (2, .int q), (3, .int v)]) C dX11_set_16 (by decide) rfl ?_
  refine ar_aload (n := 0) C dX11_set_18 rfl ?_
  refine cV1 (ar := []) (st := []) C lkX11_110 (kd_sheet hi) (k_isMissing M hi) (by decide) rfl (Nat.le_of_ble_eq_true rfl) rfl dX11_set_20 ?_
  refine ar_if_eqB (tgt := 32) C dX11_set_23 (by decide) (fun c_2 => False.elim (Bool.noConfusion (hm.symm.trans c_2))) (fun _ => ?_)
  refine ar_aload_n (n := 1) C dX11_set_26 rfl rfl ?_
  refine ar_iconst (v := 1) C dX11_set_27 (by decide) ?_
  refine cV1 (ar := [.int 1]) (st := []) C lkX11_99 kd_0 (k_found M 1) (by decide) rfl (Nat.le_of_ble_eq_true rfl) rfl dX11_set_28 ?_
  exact ar_ireturn C rfl dX11_set_31 ⟨rfl, rfl, rfl⟩
set_option maxHeartbeats 4000000 in
set_option maxRecDepth 100000 in
theorem x_set_place (M : Mm) {i : Nat} (hi : i < 8) (q v : Int32) (hm : decide (M.1 (22 + 2 * i) 1 = -1) = false) (hh : f_holds (M.1 (22 + 2 * i) 2) q 1 = false) : AX mX11_set 2 [.ref 0, .int (nI i), .int q, .int v] M (some (.int (-1000012))) (wi M 0 12 2) := by
  refine AM_ofF (by decide +kernel) (Nat.le_of_ble_eq_true rfl) (fun X V C _ _ => ?_)
  show AW X V mX11_set.2.2.1 T0 M 0 0 _ 0 [(0, .ref 0), (1, .int (nI i)), (2, .int q), (3, .int v)] []
  refine ar_iload_n (n := 1) C dX11_set_0 rfl rfl ?_
  refine cS1 (ar := [.int (nI i)]) (st := []) C lkX11_90 (k_isSheet M (nI i)) (by decide) rfl (Nat.le_of_ble_eq_true rfl) rfl dX11_set_1 ?_
  refine ar_if_neB (tgt := 10) C dX11_set_4 (by decide) (fun _ => ?_) (fun c_1 => False.elim (Bool.noConfusion ((in7 hi).symm.trans c_1)))
  refine ar_aload_n (n := 0) C dX11_set_10 rfl rfl ?_
  refine ar_getr C flX11_11 rfl kd_0 rf_0_0 dX11_set_11 ?_
  refine ar_iload_n (n := 1) C dX11_set_14 rfl rfl ?_
  refine ar_aald (j := i) C kd_1 (by decide) (by decide) rfl hi (rf_sheets hi) dX11_set_15 ?_
  refine ar_astore (als' := [(4, .ref (22 + 2 * i)), (0, .ref 0), (1, .int (nI i)), (2, .int q), (3, .int v)]) C dX11_set_16 (by decide) rfl ?_
  refine ar_aload (n := 0) C dX11_set_18 rfl ?_
  refine cV1 (ar := []) (st := []) C lkX11_110 (kd_sheet hi) (k_isMissing M hi) (by decide) rfl (Nat.le_of_ble_eq_true rfl) rfl dX11_set_20 ?_
  refine ar_if_eqB (tgt := 32) C dX11_set_23 (by decide) (fun _ => ?_) (fun c_2 => False.elim (Bool.noConfusion (hm.symm.trans c_2)))
  refine ar_aload (n := 0) C dX11_set_32 rfl ?_
  refine ar_iload_n (n := 3) C dX11_set_34 rfl rfl ?_
  refine ar_iconst (v := 1) C dX11_set_35 (by decide) ?_
  refine cV1 (ar := [.int q, .int 1]) (st := []) C lkX11_114 (kd_sheet hi) (k_holds M hi q 1) (by decide) rfl (Nat.le_of_ble_eq_true rfl) rfl dX11_set_36 ?_
  refine ar_if_neB (tgt := 48) C dX11_set_39 (by decide) (fun c_3 => False.elim (Bool.noConfusion (hh.symm.trans c_3))) (fun _ => ?_)
  refine ar_aload_n (n := 1) C dX11_set_42 rfl rfl ?_
  refine ar_iconst (v := 2) C dX11_set_43 (by decide) ?_
  refine cV1 (ar := [.int 2]) (st := []) C lkX11_99 kd_0 (k_found M 2) (by decide) rfl (Nat.le_of_ble_eq_true rfl) rfl dX11_set_44 ?_
  exact ar_ireturn C rfl dX11_set_47 ⟨rfl, rfl, rfl⟩
set_option maxHeartbeats 4000000 in
set_option maxRecDepth 100000 in
theorem x_set_ok (M : Mm) {i : Nat} (hi : i < 8) {j : Nat} (hj : j < 80) (v : Int32) (hm : decide (M.1 (22 + 2 * i) 1 = -1) = false) (hh : f_holds (M.1 (22 + 2 * i) 2) (nI j) 1 = true) : AX mX11_set 2 [.ref 0, .int (nI i), .int (nI j), .int v] M (some (.int (f_lane (M.1 (22 + 2 * i) 1) v))) (wi (wi M (23 + 2 * i) j (f_lane (M.1 (22 + 2 * i) 1) v)) 0 12 0) := by
  refine AM_ofF (by decide +kernel) (Nat.le_of_ble_eq_true rfl) (fun X V C _ _ => ?_)
  show AW X V mX11_set.2.2.1 T0 M 0 0 _ 0 [(0, .ref 0), (1, .int (nI i)), (2, .int (nI j)), (3, .int v)] []
  refine ar_iload_n (n := 1) C dX11_set_0 rfl rfl ?_
  refine cS1 (ar := [.int (nI i)]) (st := []) C lkX11_90 (k_isSheet M (nI i)) (by decide) rfl (Nat.le_of_ble_eq_true rfl) rfl dX11_set_1 ?_
  refine ar_if_neB (tgt := 10) C dX11_set_4 (by decide) (fun _ => ?_) (fun c_1 => False.elim (Bool.noConfusion ((in7 hi).symm.trans c_1)))
  refine ar_aload_n (n := 0) C dX11_set_10 rfl rfl ?_
  refine ar_getr C flX11_11 rfl kd_0 rf_0_0 dX11_set_11 ?_
  refine ar_iload_n (n := 1) C dX11_set_14 rfl rfl ?_
  refine ar_aald (j := i) C kd_1 (by decide) (by decide) rfl hi (rf_sheets hi) dX11_set_15 ?_
  refine ar_astore (als' := [(4, .ref (22 + 2 * i)), (0, .ref 0), (1, .int (nI i)), (2, .int (nI j)), (3, .int v)]) C dX11_set_16 (by decide) rfl ?_
  refine ar_aload (n := 0) C dX11_set_18 rfl ?_
  refine cV1 (ar := []) (st := []) C lkX11_110 (kd_sheet hi) (k_isMissing M hi) (by decide) rfl (Nat.le_of_ble_eq_true rfl) rfl dX11_set_20 ?_
  refine ar_if_eqB (tgt := 32) C dX11_set_23 (by decide) (fun _ => ?_) (fun c_2 => False.elim (Bool.noConfusion (hm.symm.trans c_2)))
  refine ar_aload (n := 0) C dX11_set_32 rfl ?_
  refine ar_iload_n (n := 3) C dX11_set_34 rfl rfl ?_
  refine ar_iconst (v := 1) C dX11_set_35 (by decide) ?_
  refine cV1 (ar := [.int (nI j), .int 1]) (st := []) C lkX11_114 (kd_sheet hi) (k_holds M hi (nI j) 1) (by decide) rfl (Nat.le_of_ble_eq_true rfl) rfl dX11_set_36 ?_
  refine ar_if_neB (tgt := 48) C dX11_set_39 (by decide) (fun _ => ?_) (fun c_3 => False.elim (Bool.noConfusion (hh.symm.trans c_3)))
  refine ar_aload_n (n := 1) C dX11_set_48 rfl rfl ?_
  refine ar_aload (n := 0) C dX11_set_49 rfl ?_
  refine ar_iload_n (n := 3) C dX11_set_51 rfl rfl ?_
  refine ar_iload_n (n := 4) C dX11_set_52 rfl rfl ?_
  refine cV1 (ar := [.int (nI j), .int v]) (st := [.ref 0]) C lkX11_118 (kd_sheet hi) (k_write M hi hj v) (by decide) rfl (Nat.le_of_ble_eq_true rfl) rfl dX11_set_53 ?_
  refine cV1 (ar := [.int (f_lane (M.1 (22 + 2 * i) 1) v)]) (st := []) C lkX11_107 kd_0 (k_clean (wi M (23 + 2 * i) j (f_lane (M.1 (22 + 2 * i) 1) v)) (f_lane (M.1 (22 + 2 * i) 1) v)) (by decide) rfl (Nat.le_of_ble_eq_true rfl) rfl dX11_set_56 ?_
  exact ar_ireturn C rfl dX11_set_59 ⟨rfl, rfl, rfl⟩
set_option maxHeartbeats 4000000 in
set_option maxRecDepth 100000 in
theorem x_drop_bad (M : Mm) (s : Int32)  (hbad : (f_in s 0 7) = false) : AX mX11_drop 2 [.ref 0, .int s] M (some (.int (-1000001))) M := by
  refine AM_ofF (by decide +kernel) (Nat.le_of_ble_eq_true rfl) (fun X V C _ _ => ?_)
  show AW X V mX11_drop.2.2.1 T0 M 0 0 _ 0 [(0, .ref 0), (1, .int s)] []
  refine ar_iload_n (n := 1) C dX11_drop_0 rfl rfl ?_
  refine cS1 (ar := [.int s]) (st := []) C lkX11_90 (k_isSheet M s) (by decide) rfl (Nat.le_of_ble_eq_true rfl) rfl dX11_drop_1 ?_
  refine ar_if_neB (tgt := 10) C dX11_drop_4 (by decide) (fun c_1 => ?_) (fun c_1 => ?_)
  · exact absurd hbad (by first | (rw [c_1]; decide) | simp [*])
  · refine ar_ldc C kcX11_98 dX11_drop_7 ?_
    exact ar_ireturn C rfl dX11_drop_9 ⟨rfl, rfl, rfl⟩
set_option maxHeartbeats 4000000 in
set_option maxRecDepth 100000 in
theorem x_drop_null (M : Mm) {i : Nat} (hi : i < 8) (hm : decide (M.1 (22 + 2 * i) 1 = -1) = true) : AX mX11_drop 2 [.ref 0, .int (nI i)] M (some (.int (-1000011))) (wi M 0 12 1) := by
  refine AM_ofF (by decide +kernel) (Nat.le_of_ble_eq_true rfl) (fun X V C _ _ => ?_)
  show AW X V mX11_drop.2.2.1 T0 M 0 0 _ 0 [(0, .ref 0), (1, .int (nI i))] []
  refine ar_iload_n (n := 1) C dX11_drop_0 rfl rfl ?_
  refine cS1 (ar := [.int (nI i)]) (st := []) C lkX11_90 (k_isSheet M (nI i)) (by decide) rfl (Nat.le_of_ble_eq_true rfl) rfl dX11_drop_1 ?_
  refine ar_if_neB (tgt := 10) C dX11_drop_4 (by decide) (fun _ => ?_) (fun c_1 => False.elim (Bool.noConfusion ((in7 hi).symm.trans c_1)))
  refine ar_aload_n (n := 0) C dX11_drop_10 rfl rfl ?_
  refine ar_getr C flX11_11 rfl kd_0 rf_0_0 dX11_drop_11 ?_
  refine ar_iload_n (n := 1) C dX11_drop_14 rfl rfl ?_
  refine ar_aald (j := i) C kd_1 (by decide) (by decide) rfl hi (rf_sheets hi) dX11_drop_15 ?_
  refine cV1 (ar := []) (st := []) C lkX11_110 (kd_sheet hi) (k_isMissing M hi) (by decide) rfl (Nat.le_of_ble_eq_true rfl) rfl dX11_drop_16 ?_
  refine ar_if_eqB (tgt := 28) C dX11_drop_19 (by decide) (fun c_2 => False.elim (Bool.noConfusion (hm.symm.trans c_2))) (fun _ => ?_)
  refine ar_aload_n (n := 0) C dX11_drop_22 rfl rfl ?_
  refine ar_iconst (v := 1) C dX11_drop_23 (by decide) ?_
  refine cV1 (ar := [.int 1]) (st := []) C lkX11_99 kd_0 (k_found M 1) (by decide) rfl (Nat.le_of_ble_eq_true rfl) rfl dX11_drop_24 ?_
  exact ar_ireturn C rfl dX11_drop_27 ⟨rfl, rfl, rfl⟩
set_option maxHeartbeats 4000000 in
set_option maxRecDepth 100000 in
theorem x_drop_ok (M : Mm) {i : Nat} (hi : i < 8) (hm : decide (M.1 (22 + 2 * i) 1 = -1) = false) : AX mX11_drop 2 [.ref 0, .int (nI i)] M (some (.int (M.1 (22 + 2 * i) 2))) (wi (wi (wi M (22 + 2 * i) 1 (-1)) (22 + 2 * i) 2 0) 0 12 0) := by
  refine AM_ofF (by decide +kernel) (Nat.le_of_ble_eq_true rfl) (fun X V C _ _ => ?_)
  show AW X V mX11_drop.2.2.1 T0 M 0 0 _ 0 [(0, .ref 0), (1, .int (nI i))] []
  refine ar_iload_n (n := 1) C dX11_drop_0 rfl rfl ?_
  refine cS1 (ar := [.int (nI i)]) (st := []) C lkX11_90 (k_isSheet M (nI i)) (by decide) rfl (Nat.le_of_ble_eq_true rfl) rfl dX11_drop_1 ?_
  refine ar_if_neB (tgt := 10) C dX11_drop_4 (by decide) (fun _ => ?_) (fun c_1 => False.elim (Bool.noConfusion ((in7 hi).symm.trans c_1)))
  refine ar_aload_n (n := 0) C dX11_drop_10 rfl rfl ?_
  refine ar_getr C flX11_11 rfl kd_0 rf_0_0 dX11_drop_11 ?_
  refine ar_iload_n (n := 1) C dX11_drop_14 rfl rfl ?_
  refine ar_aald (j := i) C kd_1 (by decide) (by decide) rfl hi (rf_sheets hi) dX11_drop_15 ?_
  refine cV1 (ar := []) (st := []) C lkX11_110 (kd_sheet hi) (k_isMissing M hi) (by decide) rfl (Nat.le_of_ble_eq_true rfl) rfl dX11_drop_16 ?_
  refine ar_if_eqB (tgt := 28) C dX11_drop_19 (by decide) (fun _ => ?_) (fun c_2 => False.elim (Bool.noConfusion (hm.symm.trans c_2)))
  refine ar_aload_n (n := 0) C dX11_drop_28 rfl rfl ?_
  refine ar_aload_n (n := 0) C dX11_drop_29 rfl rfl ?_
  refine ar_getr C flX11_11 rfl kd_0 rf_0_0 dX11_drop_30 ?_
  refine ar_iload_n (n := 1) C dX11_drop_33 rfl rfl ?_
  refine ar_aald (j := i) C kd_1 (by decide) (by decide) rfl hi (rf_sheets hi) dX11_drop_34 ?_
  refine cV1 (ar := []) (st := [.ref 0]) C lkX11_135 (kd_sheet hi) (k_lose M hi) (by decide) rfl (Nat.le_of_ble_eq_true rfl) rfl dX11_drop_35 ?_
  refine cV1 (ar := [.int (M.1 (22 + 2 * i) 2)]) (st := []) C lkX11_107 kd_0 (k_clean (wi (wi M (22 + 2 * i) 1 (-1)) (22 + 2 * i) 2 0) (M.1 (22 + 2 * i) 2)) (by decide) rfl (Nat.le_of_ble_eq_true rfl) rfl dX11_drop_38 ?_
  exact ar_ireturn C rfl dX11_drop_41 ⟨rfl, rfl, rfl⟩
set_option maxHeartbeats 4000000 in
set_option maxRecDepth 100000 in
theorem x_room_bad0 (M : Mm) (w v : Int32) (h : f_in w 0 6 = false) : AX mX11_room 1 [.ref 0, .int w, .int v] M (some (.int (-1000001))) M := by
  refine AM_ofF (by decide +kernel) (Nat.le_of_ble_eq_true rfl) (fun X V C _ _ => ?_)
  show AW X V mX11_room.2.2.1 T0 M 0 0 _ 0 [(0, .ref 0), (1, .int w), (2, .int v)] []
  refine ar_iload_n (n := 1) C dX11_room_0 rfl rfl ?_
  refine ar_iconst (v := 0) C dX11_room_1 (by decide) ?_
  refine ar_bipush (v := 6) C dX11_room_2 (by decide) ?_
  refine cS1 (ar := [.int w, .int 0, .int 6]) (st := []) C lkX11_94 (k_within M w 0 6) (by decide) rfl (Nat.le_of_ble_eq_true rfl) rfl dX11_room_4 ?_
  refine ar_if_eqB (tgt := 27) C dX11_room_7 (by decide) (fun _ => ?_) (fun c_1 => False.elim (Bool.noConfusion (h.symm.trans c_1)))
  refine ar_ldc C kcX11_98 dX11_room_27 ?_
  exact ar_ireturn C rfl dX11_room_29 ⟨rfl, rfl, rfl⟩
set_option maxHeartbeats 4000000 in
set_option maxRecDepth 100000 in
theorem x_room_bad1 (M : Mm) {j : Nat} (hj : j < 7) (v : Int32) (h : f_in v (nLeast j) (nMost j) = false) : AX mX11_room 1 [.ref 0, .int (nI j), .int v] M (some (.int (-1000001))) M := by
  refine AM_ofF (by decide +kernel) (Nat.le_of_ble_eq_true rfl) (fun X V C _ _ => ?_)
  show AW X V mX11_room.2.2.1 T0 M 0 0 _ 0 [(0, .ref 0), (1, .int (nI j)), (2, .int v)] []
  refine ar_iload_n (n := 1) C dX11_room_0 rfl rfl ?_
  refine ar_iconst (v := 0) C dX11_room_1 (by decide) ?_
  refine ar_bipush (v := 6) C dX11_room_2 (by decide) ?_
  refine cS1 (ar := [.int (nI j), .int 0, .int 6]) (st := []) C lkX11_94 (k_within M (nI j) 0 6) (by decide) rfl (Nat.le_of_ble_eq_true rfl) rfl dX11_room_4 ?_
  refine ar_if_eqB (tgt := 27) C dX11_room_7 (by decide) (fun c_1 => False.elim (Bool.noConfusion ((f_in_nI (n := 6) (by decide) (by omega) (by decide)).symm.trans c_1))) (fun _ => ?_)
  refine ar_iload_n (n := 2) C dX11_room_10 rfl rfl ?_
  refine ar_gets1 C gsX11_139 dX11_room_11 ?_
  refine ar_iload_n (n := 1) C dX11_room_14 rfl rfl ?_
  refine ar_iald1 (j := j) C rfl hj dX11_room_15 ?_
  refine ar_gets2 C gsX11_142 dX11_room_16 ?_
  refine ar_iload_n (n := 1) C dX11_room_19 rfl rfl ?_
  refine ar_iald2 (j := j) C rfl hj dX11_room_20 ?_
  refine cS1 (ar := [.int v, .int (nLeast j), .int (nMost j)]) (st := []) C lkX11_94 (k_within M v (nLeast j) (nMost j)) (by decide) rfl (Nat.le_of_ble_eq_true rfl) rfl dX11_room_21 ?_
  refine ar_if_neB (tgt := 30) C dX11_room_24 (by decide) (fun c_2 => False.elim (Bool.noConfusion (h.symm.trans c_2))) (fun _ => ?_)
  refine ar_ldc C kcX11_98 dX11_room_27 ?_
  exact ar_ireturn C rfl dX11_room_29 ⟨rfl, rfl, rfl⟩
set_option maxHeartbeats 4000000 in
set_option maxRecDepth 100000 in
theorem x_room_ok (M : Mm) {j : Nat} (hj : j < 7) (v : Int32) (h : f_in v (nLeast j) (nMost j) = true) : AX mX11_room 1 [.ref 0, .int (nI j), .int v] M (some (.int (M.1 3 j))) (wi M 3 j v) := by
  refine AM_ofF (by decide +kernel) (Nat.le_of_ble_eq_true rfl) (fun X V C _ _ => ?_)
  show AW X V mX11_room.2.2.1 T0 M 0 0 _ 0 [(0, .ref 0), (1, .int (nI j)), (2, .int v)] []
  refine ar_iload_n (n := 1) C dX11_room_0 rfl rfl ?_
  refine ar_iconst (v := 0) C dX11_room_1 (by decide) ?_
  refine ar_bipush (v := 6) C dX11_room_2 (by decide) ?_
  refine cS1 (ar := [.int (nI j), .int 0, .int 6]) (st := []) C lkX11_94 (k_within M (nI j) 0 6) (by decide) rfl (Nat.le_of_ble_eq_true rfl) rfl dX11_room_4 ?_
  refine ar_if_eqB (tgt := 27) C dX11_room_7 (by decide) (fun c_1 => False.elim (Bool.noConfusion ((f_in_nI (n := 6) (by decide) (by omega) (by decide)).symm.trans c_1))) (fun _ => ?_)
  refine ar_iload_n (n := 2) C dX11_room_10 rfl rfl ?_
  refine ar_gets1 C gsX11_139 dX11_room_11 ?_
  refine ar_iload_n (n := 1) C dX11_room_14 rfl rfl ?_
  refine ar_iald1 (j := j) C rfl hj dX11_room_15 ?_
  refine ar_gets2 C gsX11_142 dX11_room_16 ?_
  refine ar_iload_n (n := 1) C dX11_room_19 rfl rfl ?_
  refine ar_iald2 (j := j) C rfl hj dX11_room_20 ?_
  refine cS1 (ar := [.int v, .int (nLeast j), .int (nMost j)]) (st := []) C lkX11_94 (k_within M v (nLeast j) (nMost j)) (by decide) rfl (Nat.le_of_ble_eq_true rfl) rfl dX11_room_21 ?_
  refine ar_if_neB (tgt := 30) C dX11_room_24 (by decide) (fun _ => ?_) (fun c_2 => False.elim (Bool.noConfusion (h.symm.trans c_2)))
  refine ar_aload_n (n := 0) C dX11_room_30 rfl rfl ?_
  refine ar_getr C flX11_18 rfl kd_0 rf_0_1 dX11_room_31 ?_
  refine ar_getr C flX11_145 rfl kd_2 rf_2_0 dX11_room_34 ?_
  refine ar_iload_n (n := 1) C dX11_room_37 rfl rfl ?_
  refine ar_iald (j := j) C kd_3 rfl hj dX11_room_38 ?_
  refine ar_istore_n (als' := [(3, .int (M.1 3 j)), (0, .ref 0), (1, .int (nI j)), (2, .int v)]) C dX11_room_39 rfl (by decide) rfl ?_
  refine ar_aload_n (n := 1) C dX11_room_40 rfl rfl ?_
  refine ar_getr C flX11_18 rfl kd_0 rf_0_1 dX11_room_41 ?_
  refine ar_getr C flX11_145 rfl kd_2 rf_2_0 dX11_room_44 ?_
  refine ar_iload_n (n := 2) C dX11_room_47 rfl rfl ?_
  refine ar_iload_n (n := 3) C dX11_room_48 rfl rfl ?_
  refine ar_iast (j := j) C kd_3 rfl hj dX11_room_49 ?_
  refine ar_iload_n (n := 0) C dX11_room_50 rfl rfl ?_
  exact ar_ireturn C rfl dX11_room_51 ⟨rfl, rfl, rfl⟩
set_option maxHeartbeats 4000000 in
set_option maxRecDepth 100000 in
theorem x_bend_bad (M : Mm) (c v : Int32)  (hbad : (f_in c (-8) 8 && f_in v (-50) 50) = false) : AX mX11_bend 1 [.ref 0, .int c, .int v] M (some (.int (-1000001))) M := by
  refine AM_ofF (by decide +kernel) (Nat.le_of_ble_eq_true rfl) (fun X V C _ _ => ?_)
  show AW X V mX11_bend.2.2.1 T0 M 0 0 _ 0 [(0, .ref 0), (1, .int c), (2, .int v)] []
  refine ar_iload_n (n := 1) C dX11_bend_0 rfl rfl ?_
  refine ar_bipush (v := (-8)) C dX11_bend_1 (by decide) ?_
  refine ar_bipush (v := 8) C dX11_bend_3 (by decide) ?_
  refine cS1 (ar := [.int c, .int (-8), .int 8]) (st := []) C lkX11_94 (k_within M c (-8) 8) (by decide) rfl (Nat.le_of_ble_eq_true rfl) rfl dX11_bend_5 ?_
  refine ar_if_eqB (tgt := 22) C dX11_bend_8 (by decide) (fun c_1 => ?_) (fun c_1 => ?_)
  · refine ar_ldc C kcX11_98 dX11_bend_22 ?_
    exact ar_ireturn C rfl dX11_bend_24 ⟨rfl, rfl, rfl⟩
  · refine ar_iload_n (n := 2) C dX11_bend_11 rfl rfl ?_
    refine ar_bipush (v := (-50)) C dX11_bend_12 (by decide) ?_
    refine ar_bipush (v := 50) C dX11_bend_14 (by decide) ?_
    refine cS1 (ar := [.int v, .int (-50), .int 50]) (st := []) C lkX11_94 (k_within M v (-50) 50) (by decide) rfl (Nat.le_of_ble_eq_true rfl) rfl dX11_bend_16 ?_
    refine ar_if_neB (tgt := 25) C dX11_bend_19 (by decide) (fun c_2 => ?_) (fun c_2 => ?_)
    · exact absurd hbad (by first | (rw [c_1]; decide) | simp [*])
    · refine ar_ldc C kcX11_98 dX11_bend_22 ?_
      exact ar_ireturn C rfl dX11_bend_24 ⟨rfl, rfl, rfl⟩
set_option maxHeartbeats 4000000 in
set_option maxRecDepth 100000 in
theorem x_bend_ok (M : Mm) (c v : Int32) {j : Nat} (hj : j < 17) (hc : c + 8 = nI j) (h1 : f_in c (-8) 8 = true) (h2 : f_in v (-50) 50 = true) : AX mX11_bend 1 [.ref 0, .int c, .int v] M (some (.int (M.1 4 j))) (wi M 4 j v) := by
  refine AM_ofF (by decide +kernel) (Nat.le_of_ble_eq_true rfl) (fun X V C _ _ => ?_)
  show AW X V mX11_bend.2.2.1 T0 M 0 0 _ 0 [(0, .ref 0), (1, .int c), (2, .int v)] []
  refine ar_iload_n (n := 1) C dX11_bend_0 rfl rfl ?_
  refine ar_bipush (v := (-8)) C dX11_bend_1 (by decide) ?_
  refine ar_bipush (v := 8) C dX11_bend_3 (by decide) ?_
  refine cS1 (ar := [.int c, .int (-8), .int 8]) (st := []) C lkX11_94 (k_within M c (-8) 8) (by decide) rfl (Nat.le_of_ble_eq_true rfl) rfl dX11_bend_5 ?_
  refine ar_if_eqB (tgt := 22) C dX11_bend_8 (by decide) (fun c_1 => False.elim (Bool.noConfusion (h1.symm.trans c_1))) (fun _ => ?_)
  refine ar_iload_n (n := 2) C dX11_bend_11 rfl rfl ?_
  refine ar_bipush (v := (-50)) C dX11_bend_12 (by decide) ?_
  refine ar_bipush (v := 50) C dX11_bend_14 (by decide) ?_
  refine cS1 (ar := [.int v, .int (-50), .int 50]) (st := []) C lkX11_94 (k_within M v (-50) 50) (by decide) rfl (Nat.le_of_ble_eq_true rfl) rfl dX11_bend_16 ?_
  refine ar_if_neB (tgt := 25) C dX11_bend_19 (by decide) (fun _ => ?_) (fun c_2 => False.elim (Bool.noConfusion (h2.symm.trans c_2)))
  refine ar_aload_n (n := 0) C dX11_bend_25 rfl rfl ?_
  refine ar_getr C flX11_18 rfl kd_0 rf_0_1 dX11_bend_26 ?_
  refine ar_getr C flX11_148 rfl kd_2 rf_2_1 dX11_bend_29 ?_
  refine ar_iload_n (n := 1) C dX11_bend_32 rfl rfl ?_
  refine ar_bipush (v := 8) C dX11_bend_33 (by decide) ?_
  refine ar_iadd C dX11_bend_35 ?_
  refine ar_iald (j := j) C kd_4 hc hj dX11_bend_36 ?_
  refine ar_istore_n (als' := [(3, .int (M.1 4 j)), (0, .ref 0), (1, .int c), (2, .int v)]) C dX11_bend_37 rfl (by decide) rfl ?_
  refine ar_aload_n (n := 1) C dX11_bend_38 rfl rfl ?_
  refine ar_getr C flX11_18 rfl kd_0 rf_0_1 dX11_bend_39 ?_
  refine ar_getr C flX11_148 rfl kd_2 rf_2_1 dX11_bend_42 ?_
  refine ar_iload_n (n := 2) C dX11_bend_45 rfl rfl ?_
  refine ar_bipush (v := 8) C dX11_bend_46 (by decide) ?_
  refine ar_iadd C dX11_bend_48 ?_
  refine ar_iload_n (n := 3) C dX11_bend_49 rfl rfl ?_
  refine ar_iast (j := j) C kd_4 hc hj dX11_bend_50 ?_
  refine ar_iload_n (n := 0) C dX11_bend_51 rfl rfl ?_
  exact ar_ireturn C rfl dX11_bend_52 ⟨rfl, rfl, rfl⟩
set_option maxHeartbeats 4000000 in
set_option maxRecDepth 100000 in
theorem x_told_bad (M : Mm) (w : Int32)  (hbad : (f_in w 0 23) = false) : AX mX11_told 1 [.ref 0, .int w] M (some (.int (-1000001))) M := by
  refine AM_ofF (by decide +kernel) (Nat.le_of_ble_eq_true rfl) (fun X V C _ _ => ?_)
  show AW X V mX11_told.2.2.1 T0 M 0 0 _ 0 [(0, .ref 0), (1, .int w)] []
  refine ar_iload_n (n := 1) C dX11_told_0 rfl rfl ?_
  refine ar_iconst (v := 0) C dX11_told_1 (by decide) ?_
  refine ar_bipush (v := 23) C dX11_told_2 (by decide) ?_
  refine cS1 (ar := [.int w, .int 0, .int 23]) (st := []) C lkX11_94 (k_within M w 0 23) (by decide) rfl (Nat.le_of_ble_eq_true rfl) rfl dX11_told_4 ?_
  refine ar_if_neB (tgt := 13) C dX11_told_7 (by decide) (fun c_1 => ?_) (fun c_1 => ?_)
  · exact absurd hbad (by first | (rw [c_1]; decide) | simp [*])
  · refine ar_ldc C kcX11_98 dX11_told_10 ?_
    exact ar_ireturn C rfl dX11_told_12 ⟨rfl, rfl, rfl⟩
set_option maxHeartbeats 4000000 in
set_option maxRecDepth 100000 in
theorem x_told_0 (M : Mm) {j : Nat} (hj : j < 7) : AX mX11_told 1 [.ref 0, .int (nI j)] M (some (.int (M.1 3 j))) M := by
  refine AM_ofF (by decide +kernel) (Nat.le_of_ble_eq_true rfl) (fun X V C _ _ => ?_)
  show AW X V mX11_told.2.2.1 T0 M 0 0 _ 0 [(0, .ref 0), (1, .int (nI j))] []
  refine ar_iload_n (n := 1) C dX11_told_0 rfl rfl ?_
  refine ar_iconst (v := 0) C dX11_told_1 (by decide) ?_
  refine ar_bipush (v := 23) C dX11_told_2 (by decide) ?_
  refine cS1 (ar := [.int (nI j), .int 0, .int 23]) (st := []) C lkX11_94 (k_within M (nI j) 0 23) (by decide) rfl (Nat.le_of_ble_eq_true rfl) rfl dX11_told_4 ?_
  refine ar_if_neB (tgt := 13) C dX11_told_7 (by decide) (fun _ => ?_) (fun c_1 => False.elim (Bool.noConfusion ((in23 (show j < 24 by omega)).symm.trans c_1)))
  refine ar_iload_n (n := 1) C dX11_told_13 rfl rfl ?_
  refine ar_bipush (v := 7) C dX11_told_14 (by decide) ?_
  refine ar_icmp_ge (tgt := 31) C dX11_told_16 (by decide) (fun c_2 => False.elim (nI_ge (a := j) (b := 7) hj (by decide) c_2)) (fun _ => ?_)
  refine ar_aload_n (n := 0) C dX11_told_19 rfl rfl ?_
  refine ar_getr C flX11_18 rfl kd_0 rf_0_1 dX11_told_20 ?_
  refine ar_getr C flX11_145 rfl kd_2 rf_2_0 dX11_told_23 ?_
  refine ar_iload_n (n := 1) C dX11_told_26 rfl rfl ?_
  refine ar_iald (j := j) C kd_3 rfl hj dX11_told_27 ?_
  refine ar_goto (tgt := 43) C dX11_told_28 (by decide) ?_
  exact ar_ireturn C rfl dX11_told_43 ⟨rfl, rfl, rfl⟩
set_option maxHeartbeats 4000000 in
set_option maxRecDepth 100000 in
theorem x_told_1 (M : Mm) {j : Nat} (hj : j < 17) : AX mX11_told 1 [.ref 0, .int (nI (7 + j))] M (some (.int (M.1 4 j))) M := by
  refine AM_ofF (by decide +kernel) (Nat.le_of_ble_eq_true rfl) (fun X V C _ _ => ?_)
  show AW X V mX11_told.2.2.1 T0 M 0 0 _ 0 [(0, .ref 0), (1, .int (nI (7 + j)))] []
  refine ar_iload_n (n := 1) C dX11_told_0 rfl rfl ?_
  refine ar_iconst (v := 0) C dX11_told_1 (by decide) ?_
  refine ar_bipush (v := 23) C dX11_told_2 (by decide) ?_
  refine cS1 (ar := [.int (nI (7 + j)), .int 0, .int 23]) (st := []) C lkX11_94 (k_within M (nI (7 + j)) 0 23) (by decide) rfl (Nat.le_of_ble_eq_true rfl) rfl dX11_told_4 ?_
  refine ar_if_neB (tgt := 13) C dX11_told_7 (by decide) (fun _ => ?_) (fun c_1 => False.elim (Bool.noConfusion ((in23 (show 7 + j < 24 by omega)).symm.trans c_1)))
  refine ar_iload_n (n := 1) C dX11_told_13 rfl rfl ?_
  refine ar_bipush (v := 7) C dX11_told_14 (by decide) ?_
  refine ar_icmp_ge (tgt := 31) C dX11_told_16 (by decide) (fun _ => ?_) (fun c_2 => False.elim (c_2 (nI_le (a := 7) (b := 7 + j) (by omega) (by omega))))
  refine ar_aload_n (n := 0) C dX11_told_31 rfl rfl ?_
  refine ar_getr C flX11_18 rfl kd_0 rf_0_1 dX11_told_32 ?_
  refine ar_getr C flX11_148 rfl kd_2 rf_2_1 dX11_told_35 ?_
  refine ar_iload_n (n := 1) C dX11_told_38 rfl rfl ?_
  refine ar_bipush (v := 7) C dX11_told_39 (by decide) ?_
  refine ar_isub C dX11_told_41 ?_
  refine ar_iald (j := j) C kd_4 (by rw [← nI_add]; show nI 7 + nI j - 7 = nI j; rw [Int32.add_comm, Int32.sub_eq_add_neg, Int32.add_assoc]; exact Int32.add_zero _) hj dX11_told_42 ?_
  exact ar_ireturn C rfl dX11_told_43 ⟨rfl, rfl, rfl⟩
set_option maxHeartbeats 4000000 in
set_option maxRecDepth 100000 in
theorem x_thing_bad (M : Mm) (x y z : Int32)  (hbad : (f_place x y z) = false) : AX mX11_thing 3 [.ref 0, .int x, .int y, .int z] M (some (.int (-1000001))) M := by
  refine AM_ofF (by decide +kernel) (Nat.le_of_ble_eq_true rfl) (fun X V C _ _ => ?_)
  show AW X V mX11_thing.2.2.1 T0 M 0 0 _ 0 [(0, .ref 0), (1, .int x), (2, .int y), (3, .int z)] []
  refine ar_iload_n (n := 1) C dX11_thing_0 rfl rfl ?_
  refine ar_iload_n (n := 2) C dX11_thing_1 rfl rfl ?_
  refine ar_iload_n (n := 3) C dX11_thing_2 rfl rfl ?_
  refine cS1 (ar := [.int x, .int y, .int z]) (st := []) C lkX11_151 (k_isPlace M x y z) (by decide) rfl (Nat.le_of_ble_eq_true rfl) rfl dX11_thing_3 ?_
  refine ar_if_neB (tgt := 12) C dX11_thing_6 (by decide) (fun c_1 => ?_) (fun c_1 => ?_)
  · exact absurd hbad (by first | (rw [c_1]; decide) | simp [*])
  · refine ar_ldc C kcX11_98 dX11_thing_9 ?_
    exact ar_ireturn C rfl dX11_thing_11 ⟨rfl, rfl, rfl⟩
set_option maxHeartbeats 4000000 in
set_option maxRecDepth 100000 in
theorem x_thing_full (M : Mm) (x y z : Int32) {N : Nat} (hN : M.1 0 3 = nI N) (hp : f_place x y z = true) (h24 : N = 24) : AX mX11_thing 3 [.ref 0, .int x, .int y, .int z] M (some (.int (-1000003))) M := by
  refine AM_ofF (by decide +kernel) (Nat.le_of_ble_eq_true rfl) (fun X V C _ _ => ?_)
  show AW X V mX11_thing.2.2.1 T0 M 0 0 _ 0 [(0, .ref 0), (1, .int x), (2, .int y), (3, .int z)] []
  refine ar_iload_n (n := 1) C dX11_thing_0 rfl rfl ?_
  refine ar_iload_n (n := 2) C dX11_thing_1 rfl rfl ?_
  refine ar_iload_n (n := 3) C dX11_thing_2 rfl rfl ?_
  refine cS1 (ar := [.int x, .int y, .int z]) (st := []) C lkX11_151 (k_isPlace M x y z) (by decide) rfl (Nat.le_of_ble_eq_true rfl) rfl dX11_thing_3 ?_
  refine ar_if_neB (tgt := 12) C dX11_thing_6 (by decide) (fun _ => ?_) (fun c_1 => False.elim (Bool.noConfusion (hp.symm.trans c_1)))
  refine ar_aload_n (n := 0) C dX11_thing_12 rfl rfl ?_
  refine ar_geti C flX11_28 kd_0 dX11_thing_13 ?_
  refine ar_bipush (v := 24) C dX11_thing_16 (by decide) ?_
  refine ar_icmp_lt (tgt := 24) C dX11_thing_18 (by decide) (fun c_2 => False.elim (by rw [hN, h24] at c_2; exact absurd c_2 (by decide))) (fun _ => ?_)
  refine ar_ldc C kcX11_154 dX11_thing_21 ?_
  exact ar_ireturn C rfl dX11_thing_23 ⟨rfl, rfl, rfl⟩
set_option maxHeartbeats 4000000 in
set_option maxRecDepth 100000 in
theorem x_thing_ok (M : Mm) (x y z : Int32) {N : Nat} (hN : M.1 0 3 = nI N) (hp : f_place x y z = true) (h24 : N < 24) : AX mX11_thing 3 [.ref 0, .int x, .int y, .int z] M (some (.int (nI N))) (wi (wi (wi (wi M (38 + N) 0 x) (38 + N) 1 y) (38 + N) 2 z) 0 3 (nI (N + 1))) := by
  refine AM_ofF (by decide +kernel) (Nat.le_of_ble_eq_true rfl) (fun X V C _ _ => ?_)
  show AW X V mX11_thing.2.2.1 T0 M 0 0 _ 0 [(0, .ref 0), (1, .int x), (2, .int y), (3, .int z)] []
  refine ar_iload_n (n := 1) C dX11_thing_0 rfl rfl ?_
  refine ar_iload_n (n := 2) C dX11_thing_1 rfl rfl ?_
  refine ar_iload_n (n := 3) C dX11_thing_2 rfl rfl ?_
  refine cS1 (ar := [.int x, .int y, .int z]) (st := []) C lkX11_151 (k_isPlace M x y z) (by decide) rfl (Nat.le_of_ble_eq_true rfl) rfl dX11_thing_3 ?_
  refine ar_if_neB (tgt := 12) C dX11_thing_6 (by decide) (fun _ => ?_) (fun c_1 => False.elim (Bool.noConfusion (hp.symm.trans c_1)))
  refine ar_aload_n (n := 0) C dX11_thing_12 rfl rfl ?_
  refine ar_geti C flX11_28 kd_0 dX11_thing_13 ?_
  refine ar_bipush (v := 24) C dX11_thing_16 (by decide) ?_
  refine ar_icmp_lt (tgt := 24) C dX11_thing_18 (by decide) (fun _ => ?_) (fun c_2 => False.elim (c_2 (by rw [hN]; exact nI_lt (b := 24) h24 (by decide))))
  refine ar_aload_n (n := 0) C dX11_thing_24 rfl rfl ?_
  refine ar_getr C flX11_24 rfl kd_0 rf_0_2 dX11_thing_25 ?_
  refine ar_aload_n (n := 0) C dX11_thing_28 rfl rfl ?_
  refine ar_geti C flX11_28 kd_0 dX11_thing_29 ?_
  refine ar_topi (nI N) hN ?_
  refine ar_aald (j := N) C kd_6 (by decide) (by decide) rfl h24 (rf_things h24) dX11_thing_32 ?_
  refine ar_iload_n (n := 1) C dX11_thing_33 rfl rfl ?_
  refine ar_iload_n (n := 2) C dX11_thing_34 rfl rfl ?_
  refine ar_iload_n (n := 3) C dX11_thing_35 rfl rfl ?_
  refine cV0 (ar := [.int x, .int y, .int z]) (st := []) C lkX11_155 (kd_thing h24) (k_tput M (i := N) (by omega) x y z) (by decide) rfl (Nat.le_of_ble_eq_true rfl) rfl dX11_thing_36 ?_
  refine ar_aload_n (n := 0) C dX11_thing_39 rfl rfl ?_
  refine ar_dup C dX11_thing_40 rfl ?_
  refine ar_getiV (v := M.1 0 3) C flX11_28 kd_0 (by simp [wi, wl]; try omega) dX11_thing_41 ?_
  refine ar_topi (nI N) hN ?_
  refine ar_iconst (v := 1) C dX11_thing_44 (by decide) ?_
  refine ar_iadd C dX11_thing_45 ?_
  refine ar_topi (nI (N + 1)) (nI_1 N) ?_
  refine ar_puti C flX11_28 kd_0 dX11_thing_46 ?_
  refine ar_aload_n (n := 0) C dX11_thing_49 rfl rfl ?_
  refine ar_getiV (v := nI (N + 1)) C flX11_28 kd_0 (by simp [wi, wl]; try omega) dX11_thing_50 ?_
  refine ar_iconst (v := 1) C dX11_thing_53 (by decide) ?_
  refine ar_isub C dX11_thing_54 ?_
  refine ar_topi (nI N) (nI_pred N) ?_
  exact ar_ireturn C rfl dX11_thing_55 ⟨rfl, rfl, rfl⟩
set_option maxHeartbeats 4000000 in
set_option maxRecDepth 100000 in
theorem x_move_bad (M : Mm) (t x y z : Int32)  (hbad : (f_in t 0 (M.1 0 3 - 1) && f_place x y z) = false) : AX mX11_move 3 [.ref 0, .int t, .int x, .int y, .int z] M (some (.int (-1000001))) M := by
  refine AM_ofF (by decide +kernel) (Nat.le_of_ble_eq_true rfl) (fun X V C _ _ => ?_)
  show AW X V mX11_move.2.2.1 T0 M 0 0 _ 0 [(0, .ref 0), (1, .int t), (2, .int x), (3, .int y), (4, .int z)] []
  refine ar_aload_n (n := 0) C dX11_move_0 rfl rfl ?_
  refine ar_iload_n (n := 1) C dX11_move_1 rfl rfl ?_
  refine cV1 (ar := [.int t]) (st := []) C lkX11_159 kd_0 (k_isThing M t) (by decide) rfl (Nat.le_of_ble_eq_true rfl) rfl dX11_move_2 ?_
  refine ar_if_eqB (tgt := 18) C dX11_move_5 (by decide) (fun c_1 => ?_) (fun c_1 => ?_)
  · refine ar_ldc C kcX11_98 dX11_move_18 ?_
    exact ar_ireturn C rfl dX11_move_20 ⟨rfl, rfl, rfl⟩
  · refine ar_iload_n (n := 2) C dX11_move_8 rfl rfl ?_
    refine ar_iload_n (n := 3) C dX11_move_9 rfl rfl ?_
    refine ar_iload (n := 4) C dX11_move_10 rfl ?_
    refine cS1 (ar := [.int x, .int y, .int z]) (st := []) C lkX11_151 (k_isPlace M x y z) (by decide) rfl (Nat.le_of_ble_eq_true rfl) rfl dX11_move_12 ?_
    refine ar_if_neB (tgt := 21) C dX11_move_15 (by decide) (fun c_2 => ?_) (fun c_2 => ?_)
    · exact absurd hbad (by first | (rw [c_1]; decide) | simp [*])
    · refine ar_ldc C kcX11_98 dX11_move_18 ?_
      exact ar_ireturn C rfl dX11_move_20 ⟨rfl, rfl, rfl⟩
set_option maxHeartbeats 4000000 in
set_option maxRecDepth 100000 in
theorem x_move_ok (M : Mm) (x y z : Int32) {i N : Nat} (hN : M.1 0 3 = nI N) (hi : i < N) (hN24 : N ≤ 24) (hp : f_place x y z = true) : AX mX11_move 3 [.ref 0, .int (nI i), .int x, .int y, .int z] M (some (.int 1)) (wi (wi (wi M (38 + i) 0 x) (38 + i) 1 y) (38 + i) 2 z) := by
  refine AM_ofF (by decide +kernel) (Nat.le_of_ble_eq_true rfl) (fun X V C _ _ => ?_)
  show AW X V mX11_move.2.2.1 T0 M 0 0 _ 0 [(0, .ref 0), (1, .int (nI i)), (2, .int x), (3, .int y), (4, .int z)] []
  refine ar_aload_n (n := 0) C dX11_move_0 rfl rfl ?_
  refine ar_iload_n (n := 1) C dX11_move_1 rfl rfl ?_
  refine cV1 (ar := [.int (nI i)]) (st := []) C lkX11_159 kd_0 (k_isThing M (nI i)) (by decide) rfl (Nat.le_of_ble_eq_true rfl) rfl dX11_move_2 ?_
  refine ar_if_eqB (tgt := 18) C dX11_move_5 (by decide) (fun c_1 => False.elim (Bool.noConfusion ((inN hN hi hN24).symm.trans c_1))) (fun _ => ?_)
  refine ar_iload_n (n := 2) C dX11_move_8 rfl rfl ?_
  refine ar_iload_n (n := 3) C dX11_move_9 rfl rfl ?_
  refine ar_iload (n := 4) C dX11_move_10 rfl ?_
  refine cS1 (ar := [.int x, .int y, .int z]) (st := []) C lkX11_151 (k_isPlace M x y z) (by decide) rfl (Nat.le_of_ble_eq_true rfl) rfl dX11_move_12 ?_
  refine ar_if_neB (tgt := 21) C dX11_move_15 (by decide) (fun _ => ?_) (fun c_2 => False.elim (Bool.noConfusion (hp.symm.trans c_2)))
  refine ar_aload_n (n := 0) C dX11_move_21 rfl rfl ?_
  refine ar_getr C flX11_24 rfl kd_0 rf_0_2 dX11_move_22 ?_
  refine ar_iload_n (n := 1) C dX11_move_25 rfl rfl ?_
  refine ar_aald (j := i) C kd_6 (by decide) (by decide) rfl (show i < 24 by omega) (rf_things (show i < 24 by omega)) dX11_move_26 ?_
  refine ar_iload_n (n := 2) C dX11_move_27 rfl rfl ?_
  refine ar_iload_n (n := 3) C dX11_move_28 rfl rfl ?_
  refine ar_iload (n := 4) C dX11_move_29 rfl ?_
  refine cV0 (ar := [.int x, .int y, .int z]) (st := []) C lkX11_155 (kd_thing (show i < 24 by omega)) (k_tput M (i := i) (by omega) x y z) (by decide) rfl (Nat.le_of_ble_eq_true rfl) rfl dX11_move_31 ?_
  refine ar_iconst (v := 1) C dX11_move_34 (by decide) ?_
  exact ar_ireturn C rfl dX11_move_35 ⟨rfl, rfl, rfl⟩
set_option maxHeartbeats 4000000 in
set_option maxRecDepth 100000 in
theorem x_status (M : Mm) : AX mX11_status 0 [.ref 0] M (some (.int (M.1 0 12))) M := by
  refine AM_ofF (by decide +kernel) (Nat.le_of_ble_eq_true rfl) (fun X V C _ _ => ?_)
  show AW X V mX11_status.2.2.1 T0 M 0 0 _ 0 [(0, .ref 0)] []
  refine ar_aload_n (n := 0) C dX11_status_0 rfl rfl ?_
  refine ar_geti C flX11_84 kd_0 dX11_status_1 ?_
  exact ar_ireturn C rfl dX11_status_4 ⟨rfl, rfl, rfl⟩
