/-! LENSTABLE: its public methods, 4 -/
def SQ (M : Mm) (v : Int32) (M1 : Mm) : Prop := (∀ k, k ≠ 19 → k ≠ 0 → M1.1 k = M.1 k) ∧ (∀ j, j ≠ 12 → M1.1 0 j = M.1 0 j) ∧ M1.1 0 12 = v
theorem Oc_SQ {M M1 : Mm} (h : Oc 19 M M1) : SQ M (M.1 0 12) M1 := ⟨fun k h1 _ => h.1 k h1, fun j _ => by rw [h.1 0 (by decide)], by rw [h.1 0 (by decide)]⟩
theorem Oc_SQw {M M1 : Mm} (h : Oc 19 M M1) (v : Int32) : SQ M v (wi M1 0 12 v) := by
  refine ⟨fun k h1 h2 => ?_, fun j hj => ?_, by simp [wi]⟩
  · rw [← h.1 k h1]; funext b; simp [wi, h2]
  · rw [← h.1 0 (by decide)]; simp [wi, hj]
abbrev stB (M : Mm) (s i : Nat) : Nat → Bool := fun k => f_stand (M.1 (23 + 2 * s) (i + 4 * k)) (M.1 (23 + 2 * s) (i + 4 * k + 1)) (M.1 (23 + 2 * s) (i + 4 * k + 2)) (M.1 (23 + 2 * s) (i + 4 * k + 3))
set_option maxHeartbeats 4000000 in
set_option maxRecDepth 100000 in
theorem r_null (M : Mm) {s n : Nat} (hs : s < 8) (q : Int32) (hm : decide (M.1 (22 + 2 * s) 1 = -1) = true) : AX mX11_studiosRefusal 4 [.ref 0, .int (nI s), .int q, .int (nI n)] M (some (.int (-1000011))) (wi M 0 12 1) := by
  refine AM_ofF (by decide +kernel) (Nat.le_of_ble_eq_true rfl) (fun X V C _ _ => ?_)
  show AW X V mX11_studiosRefusal.2.2.1 T0 M 0 0 _ 0 [(0, .ref 0), (1, .int (nI s)), (2, .int q), (3, .int (nI n))] []
  refine ar_aload_n (n := 0) C dX11_studiosRefusal_0 rfl rfl ?_
  refine ar_getr C flX11_11 rfl kd_0 rf_0_0 dX11_studiosRefusal_1 ?_
  refine ar_iload_n (n := 1) C dX11_studiosRefusal_4 rfl rfl ?_
  refine ar_aald (j := s) C kd_1 (by decide) (by decide) rfl hs (rf_sheets hs) dX11_studiosRefusal_5 ?_
  refine cV1 (ar := []) (st := []) C lkX11_110 (kd_sheet hs) (k_isMissing M hs) (by decide) rfl (Nat.le_of_ble_eq_true rfl) rfl dX11_studiosRefusal_6 ?_
  refine ar_if_eqB (tgt := 18) C dX11_studiosRefusal_9 (by decide) (fun c_1 => False.elim (Bool.noConfusion (hm.symm.trans c_1))) (fun _ => ?_)
  refine ar_aload_n (n := 0) C dX11_studiosRefusal_12 rfl rfl ?_
  refine ar_iconst (v := 1) C dX11_studiosRefusal_13 (by decide) ?_
  refine cV1 (ar := [.int 1]) (st := []) C lkX11_99 kd_0 (k_found M 1) (by decide) rfl (Nat.le_of_ble_eq_true rfl) rfl dX11_studiosRefusal_14 ?_
  exact ar_ireturn C rfl dX11_studiosRefusal_17 ⟨rfl, rfl, rfl⟩
set_option maxHeartbeats 4000000 in
set_option maxRecDepth 100000 in
theorem r_place (M : Mm) {s n : Nat} (hs : s < 8) (q : Int32) (hm : decide (M.1 (22 + 2 * s) 1 = -1) = false) (hh : f_holds (M.1 (22 + 2 * s) 2) q (nI n * 4) = false) : AX mX11_studiosRefusal 4 [.ref 0, .int (nI s), .int q, .int (nI n)] M (some (.int (-1000012))) (wi M 0 12 2) := by
  refine AM_ofF (by decide +kernel) (Nat.le_of_ble_eq_true rfl) (fun X V C _ _ => ?_)
  show AW X V mX11_studiosRefusal.2.2.1 T0 M 0 0 _ 0 [(0, .ref 0), (1, .int (nI s)), (2, .int q), (3, .int (nI n))] []
  refine ar_aload_n (n := 0) C dX11_studiosRefusal_0 rfl rfl ?_
  refine ar_getr C flX11_11 rfl kd_0 rf_0_0 dX11_studiosRefusal_1 ?_
  refine ar_iload_n (n := 1) C dX11_studiosRefusal_4 rfl rfl ?_
  refine ar_aald (j := s) C kd_1 (by decide) (by decide) rfl hs (rf_sheets hs) dX11_studiosRefusal_5 ?_
  refine cV1 (ar := []) (st := []) C lkX11_110 (kd_sheet hs) (k_isMissing M hs) (by decide) rfl (Nat.le_of_ble_eq_true rfl) rfl dX11_studiosRefusal_6 ?_
  refine ar_if_eqB (tgt := 18) C dX11_studiosRefusal_9 (by decide) (fun _ => ?_) (fun c_1 => False.elim (Bool.noConfusion (hm.symm.trans c_1)))
  refine ar_aload_n (n := 0) C dX11_studiosRefusal_18 rfl rfl ?_
  refine ar_getr C flX11_11 rfl kd_0 rf_0_0 dX11_studiosRefusal_19 ?_
  refine ar_iload_n (n := 1) C dX11_studiosRefusal_22 rfl rfl ?_
  refine ar_aald (j := s) C kd_1 (by decide) (by decide) rfl hs (rf_sheets hs) dX11_studiosRefusal_23 ?_
  refine ar_iload_n (n := 2) C dX11_studiosRefusal_24 rfl rfl ?_
  refine ar_iload_n (n := 3) C dX11_studiosRefusal_25 rfl rfl ?_
  refine ar_iconst (v := 4) C dX11_studiosRefusal_26 (by decide) ?_
  refine ar_imul C dX11_studiosRefusal_27 ?_
  refine cV1 (ar := [.int q, .int ((nI n) * 4)]) (st := []) C lkX11_114 (kd_sheet hs) (k_holds M hs q ((nI n) * 4)) (by decide) rfl (Nat.le_of_ble_eq_true rfl) rfl dX11_studiosRefusal_28 ?_
  refine ar_if_neB (tgt := 40) C dX11_studiosRefusal_31 (by decide) (fun c_2 => False.elim (Bool.noConfusion (hh.symm.trans c_2))) (fun _ => ?_)
  refine ar_aload_n (n := 0) C dX11_studiosRefusal_34 rfl rfl ?_
  refine ar_iconst (v := 2) C dX11_studiosRefusal_35 (by decide) ?_
  refine cV1 (ar := [.int 2]) (st := []) C lkX11_99 kd_0 (k_found M 2) (by decide) rfl (Nat.le_of_ble_eq_true rfl) rfl dX11_studiosRefusal_36 ?_
  exact ar_ireturn C rfl dX11_studiosRefusal_39 ⟨rfl, rfl, rfl⟩
set_option maxHeartbeats 4000000 in
set_option maxRecDepth 100000 in
theorem r_true (M : Mm) {s i n : Nat} (hs : s < 8) (hin : i + 4 * n ≤ 80) (hm : decide (M.1 (22 + 2 * s) 1 = -1) = false) (hh : f_holds (M.1 (22 + 2 * s) 2) (nI i) (nI n * 4) = true) (hall : allB (stB M s i) n = true) : AQ mX11_studiosRefusal 4 [.ref 0, .int (nI s), .int (nI i), .int (nI n)] M (some (.int 0)) (Oc 19 M) := by
  refine AM_ofF (by decide +kernel) (Nat.le_of_ble_eq_true rfl) (fun X V C _ _ => ?_)
  show AW X V mX11_studiosRefusal.2.2.1 T0 M 0 0 _ 0 [(0, .ref 0), (1, .int (nI s)), (2, .int (nI i)), (3, .int (nI n))] []
  refine ar_aload_n (n := 0) C dX11_studiosRefusal_0 rfl rfl ?_
  refine ar_getr C flX11_11 rfl kd_0 rf_0_0 dX11_studiosRefusal_1 ?_
  refine ar_iload_n (n := 1) C dX11_studiosRefusal_4 rfl rfl ?_
  refine ar_aald (j := s) C kd_1 (by decide) (by decide) rfl hs (rf_sheets hs) dX11_studiosRefusal_5 ?_
  refine cV1 (ar := []) (st := []) C lkX11_110 (kd_sheet hs) (k_isMissing M hs) (by decide) rfl (Nat.le_of_ble_eq_true rfl) rfl dX11_studiosRefusal_6 ?_
  refine ar_if_eqB (tgt := 18) C dX11_studiosRefusal_9 (by decide) (fun _ => ?_) (fun c_1 => False.elim (Bool.noConfusion (hm.symm.trans c_1)))
  refine ar_aload_n (n := 0) C dX11_studiosRefusal_18 rfl rfl ?_
  refine ar_getr C flX11_11 rfl kd_0 rf_0_0 dX11_studiosRefusal_19 ?_
  refine ar_iload_n (n := 1) C dX11_studiosRefusal_22 rfl rfl ?_
  refine ar_aald (j := s) C kd_1 (by decide) (by decide) rfl hs (rf_sheets hs) dX11_studiosRefusal_23 ?_
  refine ar_iload_n (n := 2) C dX11_studiosRefusal_24 rfl rfl ?_
  refine ar_iload_n (n := 3) C dX11_studiosRefusal_25 rfl rfl ?_
  refine ar_iconst (v := 4) C dX11_studiosRefusal_26 (by decide) ?_
  refine ar_imul C dX11_studiosRefusal_27 ?_
  refine cV1 (ar := [.int (nI i), .int ((nI n) * 4)]) (st := []) C lkX11_114 (kd_sheet hs) (k_holds M hs (nI i) ((nI n) * 4)) (by decide) rfl (Nat.le_of_ble_eq_true rfl) rfl dX11_studiosRefusal_28 ?_
  refine ar_if_neB (tgt := 40) C dX11_studiosRefusal_31 (by decide) (fun _ => ?_) (fun c_2 => False.elim (Bool.noConfusion (hh.symm.trans c_2)))
  refine ar_aload_n (n := 0) C dX11_studiosRefusal_40 rfl rfl ?_
  refine ar_iload_n (n := 1) C dX11_studiosRefusal_41 rfl rfl ?_
  refine ar_iload_n (n := 2) C dX11_studiosRefusal_42 rfl rfl ?_
  refine ar_iload_n (n := 3) C dX11_studiosRefusal_43 rfl rfl ?_
  refine cV1q (ar := [.int (nI s), .int (nI i), .int (nI n)]) (st := []) C lkX11_380 kd_0 (k_areSt M hs hin) (by decide) rfl (Nat.le_of_ble_eq_true rfl) rfl dX11_studiosRefusal_44 (fun M_3 h_4 => ?_)
  refine ar_if_eqB (tgt := 54) C dX11_studiosRefusal_47 (by decide) (fun c_5 => False.elim (Bool.noConfusion (hall.symm.trans c_5))) (fun _ => ?_)
  refine ar_iconst (v := 0) C dX11_studiosRefusal_50 (by decide) ?_
  refine ar_goto (tgt := 56) C dX11_studiosRefusal_51 (by decide) ?_
  exact ar_ireturn C rfl dX11_studiosRefusal_56 ⟨rfl, rfl, h_4⟩
set_option maxHeartbeats 4000000 in
set_option maxRecDepth 100000 in
theorem r_false (M : Mm) {s i n : Nat} (hs : s < 8) (hin : i + 4 * n ≤ 80) (hm : decide (M.1 (22 + 2 * s) 1 = -1) = false) (hh : f_holds (M.1 (22 + 2 * s) 2) (nI i) (nI n * 4) = true) (hall : allB (stB M s i) n = false) : AQ mX11_studiosRefusal 4 [.ref 0, .int (nI s), .int (nI i), .int (nI n)] M (some (.int (-1000001))) (Oc 19 M) := by
  refine AM_ofF (by decide +kernel) (Nat.le_of_ble_eq_true rfl) (fun X V C _ _ => ?_)
  show AW X V mX11_studiosRefusal.2.2.1 T0 M 0 0 _ 0 [(0, .ref 0), (1, .int (nI s)), (2, .int (nI i)), (3, .int (nI n))] []
  refine ar_aload_n (n := 0) C dX11_studiosRefusal_0 rfl rfl ?_
  refine ar_getr C flX11_11 rfl kd_0 rf_0_0 dX11_studiosRefusal_1 ?_
  refine ar_iload_n (n := 1) C dX11_studiosRefusal_4 rfl rfl ?_
  refine ar_aald (j := s) C kd_1 (by decide) (by decide) rfl hs (rf_sheets hs) dX11_studiosRefusal_5 ?_
  refine cV1 (ar := []) (st := []) C lkX11_110 (kd_sheet hs) (k_isMissing M hs) (by decide) rfl (Nat.le_of_ble_eq_true rfl) rfl dX11_studiosRefusal_6 ?_
  refine ar_if_eqB (tgt := 18) C dX11_studiosRefusal_9 (by decide) (fun _ => ?_) (fun c_1 => False.elim (Bool.noConfusion (hm.symm.trans c_1)))
  refine ar_aload_n (n := 0) C dX11_studiosRefusal_18 rfl rfl ?_
  refine ar_getr C flX11_11 rfl kd_0 rf_0_0 dX11_studiosRefusal_19 ?_
  refine ar_iload_n (n := 1) C dX11_studiosRefusal_22 rfl rfl ?_
  refine ar_aald (j := s) C kd_1 (by decide) (by decide) rfl hs (rf_sheets hs) dX11_studiosRefusal_23 ?_
  refine ar_iload_n (n := 2) C dX11_studiosRefusal_24 rfl rfl ?_
  refine ar_iload_n (n := 3) C dX11_studiosRefusal_25 rfl rfl ?_
  refine ar_iconst (v := 4) C dX11_studiosRefusal_26 (by decide) ?_
  refine ar_imul C dX11_studiosRefusal_27 ?_
  refine cV1 (ar := [.int (nI i), .int ((nI n) * 4)]) (st := []) C lkX11_114 (kd_sheet hs) (k_holds M hs (nI i) ((nI n) * 4)) (by decide) rfl (Nat.le_of_ble_eq_true rfl) rfl dX11_studiosRefusal_28 ?_
  refine ar_if_neB (tgt := 40) C dX11_studiosRefusal_31 (by decide) (fun _ => ?_) (fun c_2 => False.elim (Bool.noConfusion (hh.symm.trans c_2)))
  refine ar_aload_n (n := 0) C dX11_studiosRefusal_40 rfl rfl ?_
  refine ar_iload_n (n := 1) C dX11_studiosRefusal_41 rfl rfl ?_
  refine ar_iload_n (n := 2) C dX11_studiosRefusal_42 rfl rfl ?_
  refine ar_iload_n (n := 3) C dX11_studiosRefusal_43 rfl rfl ?_
  refine cV1q (ar := [.int (nI s), .int (nI i), .int (nI n)]) (st := []) C lkX11_380 kd_0 (k_areSt M hs hin) (by decide) rfl (Nat.le_of_ble_eq_true rfl) rfl dX11_studiosRefusal_44 (fun M_3 h_4 => ?_)
  refine ar_if_eqB (tgt := 54) C dX11_studiosRefusal_47 (by decide) (fun _ => ?_) (fun c_5 => False.elim (Bool.noConfusion (hall.symm.trans c_5)))
  refine ar_ldc C kcX11_98 dX11_studiosRefusal_54 ?_
  exact ar_ireturn C rfl dX11_studiosRefusal_56 ⟨rfl, rfl, h_4⟩
set_option maxHeartbeats 4000000 in
set_option maxRecDepth 100000 in
theorem x_studio_bad (M : Mm) (a s i n k e w : Int32)  (hbad : (f_told a s n e && f_in k 0 (n - 1) && f_in w 0 1) = false) : AX mX11_studio 5 [.ref 0, .int a, .int s, .int i, .int n, .int k, .int e, .int w] M (some (.int (-1000001))) M := by
  refine AM_ofF (by decide +kernel) (Nat.le_of_ble_eq_true rfl) (fun X V C _ _ => ?_)
  show AW X V mX11_studio.2.2.1 T0 M 0 0 _ 0 [(0, .ref 0), (1, .int a), (2, .int s), (3, .int i), (4, .int n), (5, .int k), (6, .int e), (7, .int w)] []
  refine ar_iload_n (n := 1) C dX11_studio_0 rfl rfl ?_
  refine ar_iload_n (n := 2) C dX11_studio_1 rfl rfl ?_
  refine ar_iload (n := 4) C dX11_studio_2 rfl ?_
  refine ar_iload (n := 6) C dX11_studio_4 rfl ?_
  refine cS1 (ar := [.int a, .int s, .int n, .int e]) (st := []) C lkX11_311 (k_told M a s n e) (by decide) rfl (Nat.le_of_ble_eq_true rfl) rfl dX11_studio_6 ?_
  refine ar_if_eqB (tgt := 35) C dX11_studio_9 (by decide) (fun c_1 => ?_) (fun c_1 => ?_)
  · refine ar_ldc C kcX11_98 dX11_studio_35 ?_
    exact ar_ireturn C rfl dX11_studio_37 ⟨rfl, rfl, rfl⟩
  · refine ar_iload (n := 5) C dX11_studio_12 rfl ?_
    refine ar_iconst (v := 0) C dX11_studio_14 (by decide) ?_
    refine ar_iload (n := 4) C dX11_studio_15 rfl ?_
    refine ar_iconst (v := 1) C dX11_studio_17 (by decide) ?_
    refine ar_isub C dX11_studio_18 ?_
    refine cS1 (ar := [.int k, .int 0, .int (n - 1)]) (st := []) C lkX11_94 (k_within M k 0 (n - 1)) (by decide) rfl (Nat.le_of_ble_eq_true rfl) rfl dX11_studio_19 ?_
    refine ar_if_eqB (tgt := 35) C dX11_studio_22 (by decide) (fun c_2 => ?_) (fun c_2 => ?_)
    · refine ar_ldc C kcX11_98 dX11_studio_35 ?_
      exact ar_ireturn C rfl dX11_studio_37 ⟨rfl, rfl, rfl⟩
    · refine ar_iload (n := 7) C dX11_studio_25 rfl ?_
      refine ar_iconst (v := 0) C dX11_studio_27 (by decide) ?_
      refine ar_iconst (v := 1) C dX11_studio_28 (by decide) ?_
      refine cS1 (ar := [.int w, .int 0, .int 1]) (st := []) C lkX11_94 (k_within M w 0 1) (by decide) rfl (Nat.le_of_ble_eq_true rfl) rfl dX11_studio_29 ?_
      refine ar_if_neB (tgt := 38) C dX11_studio_32 (by decide) (fun c_3 => ?_) (fun c_3 => ?_)
      · exact absurd hbad (by first | (rw [c_1]; decide) | simp [*])
      · refine ar_ldc C kcX11_98 dX11_studio_35 ?_
        exact ar_ireturn C rfl dX11_studio_37 ⟨rfl, rfl, rfl⟩
set_option maxHeartbeats 4000000 in
set_option maxRecDepth 100000 in
theorem x_studio_null_0 (M : Mm) {a s n k : Nat} (ha : a < 8) (hs : s < 8) (e : Int32) (ht : f_told (nI a) (nI s) (nI n) e = true) (hk : f_in (nI k) 0 (nI n - 1) = true) (q : Int32) (hm : decide (M.1 (22 + 2 * s) 1 = -1) = true) : AX mX11_studio 5 [.ref 0, .int (nI a), .int (nI s), .int q, .int (nI n), .int (nI k), .int e, .int 0] M (some (.int (-1000011))) (wi M 0 12 1) := by
  refine AM_ofF (by decide +kernel) (Nat.le_of_ble_eq_true rfl) (fun X V C _ _ => ?_)
  show AW X V mX11_studio.2.2.1 T0 M 0 0 _ 0 [(0, .ref 0), (1, .int (nI a)), (2, .int (nI s)), (3, .int q), (4, .int (nI n)), (5, .int (nI k)), (6, .int e), (7, .int 0)] []
  refine ar_iload_n (n := 1) C dX11_studio_0 rfl rfl ?_
  refine ar_iload_n (n := 2) C dX11_studio_1 rfl rfl ?_
  refine ar_iload (n := 4) C dX11_studio_2 rfl ?_
  refine ar_iload (n := 6) C dX11_studio_4 rfl ?_
  refine cS1 (ar := [.int (nI a), .int (nI s), .int (nI n), .int e]) (st := []) C lkX11_311 (k_told M (nI a) (nI s) (nI n) e) (by decide) rfl (Nat.le_of_ble_eq_true rfl) rfl dX11_studio_6 ?_
  refine ar_if_eqB (tgt := 35) C dX11_studio_9 (by decide) (fun c_1 => False.elim (Bool.noConfusion (ht.symm.trans c_1))) (fun _ => ?_)
  refine ar_iload (n := 5) C dX11_studio_12 rfl ?_
  refine ar_iconst (v := 0) C dX11_studio_14 (by decide) ?_
  refine ar_iload (n := 4) C dX11_studio_15 rfl ?_
  refine ar_iconst (v := 1) C dX11_studio_17 (by decide) ?_
  refine ar_isub C dX11_studio_18 ?_
  refine cS1 (ar := [.int (nI k), .int 0, .int ((nI n) - 1)]) (st := []) C lkX11_94 (k_within M (nI k) 0 ((nI n) - 1)) (by decide) rfl (Nat.le_of_ble_eq_true rfl) rfl dX11_studio_19 ?_
  refine ar_if_eqB (tgt := 35) C dX11_studio_22 (by decide) (fun c_2 => False.elim (Bool.noConfusion (hk.symm.trans c_2))) (fun _ => ?_)
  refine ar_iload (n := 7) C dX11_studio_25 rfl ?_
  refine ar_iconst (v := 0) C dX11_studio_27 (by decide) ?_
  refine ar_iconst (v := 1) C dX11_studio_28 (by decide) ?_
  refine cS1 (ar := [.int 0, .int 0, .int 1]) (st := []) C lkX11_94 (k_within M 0 0 1) (by decide) rfl (Nat.le_of_ble_eq_true rfl) rfl dX11_studio_29 ?_
  refine ar_if_neB (tgt := 38) C dX11_studio_32 (by decide) (fun _ => ?_) (fun c_3 => False.elim (Bool.noConfusion ((show f_in 0 0 1 = true by decide).symm.trans c_3)))
  refine ar_aload_n (n := 0) C dX11_studio_38 rfl rfl ?_
  refine ar_iload_n (n := 2) C dX11_studio_39 rfl rfl ?_
  refine ar_iload_n (n := 3) C dX11_studio_40 rfl rfl ?_
  refine ar_iload (n := 4) C dX11_studio_41 rfl ?_
  refine cV1 (ar := [.int (nI s), .int q, .int (nI n)]) (st := []) C lkX11_314 kd_0 (r_null M hs q hm) (by decide) rfl (Nat.le_of_ble_eq_true rfl) rfl dX11_studio_43 ?_
  refine ar_istore (als' := [(8, .int (-1000011)), (0, .ref 0), (1, .int (nI a)), (2, .int (nI s)), (3, .int q), (4, .int (nI n)), (5, .int (nI k)), (6, .int e), (7, .int 0)]) C dX11_studio_46 (by decide) rfl ?_
  refine ar_iload (n := 0) C dX11_studio_48 rfl ?_
  refine ar_if_eq (tgt := 56) C dX11_studio_50 (by decide) (fun c_4 => absurd c_4 (by decide)) (fun _ => ?_)
  refine ar_iload (n := 0) C dX11_studio_53 rfl ?_
  exact ar_ireturn C rfl dX11_studio_55 ⟨rfl, rfl, rfl⟩
set_option maxHeartbeats 4000000 in
set_option maxRecDepth 100000 in
theorem x_studio_null_1 (M : Mm) {a s n k : Nat} (ha : a < 8) (hs : s < 8) (e : Int32) (ht : f_told (nI a) (nI s) (nI n) e = true) (hk : f_in (nI k) 0 (nI n - 1) = true) (q : Int32) (hm : decide (M.1 (22 + 2 * s) 1 = -1) = true) : AX mX11_studio 5 [.ref 0, .int (nI a), .int (nI s), .int q, .int (nI n), .int (nI k), .int e, .int 1] M (some (.int (-1000011))) (wi M 0 12 1) := by
  refine AM_ofF (by decide +kernel) (Nat.le_of_ble_eq_true rfl) (fun X V C _ _ => ?_)
  show AW X V mX11_studio.2.2.1 T0 M 0 0 _ 0 [(0, .ref 0), (1, .int (nI a)), (2, .int (nI s)), (3, .int q), (4, .int (nI n)), (5, .int (nI k)), (6, .int e), (7, .int 1)] []
  refine ar_iload_n (n := 1) C dX11_studio_0 rfl rfl ?_
  refine ar_iload_n (n := 2) C dX11_studio_1 rfl rfl ?_
  refine ar_iload (n := 4) C dX11_studio_2 rfl ?_
  refine ar_iload (n := 6) C dX11_studio_4 rfl ?_
  refine cS1 (ar := [.int (nI a), .int (nI s), .int (nI n), .int e]) (st := []) C lkX11_311 (k_told M (nI a) (nI s) (nI n) e) (by decide) rfl (Nat.le_of_ble_eq_true rfl) rfl dX11_studio_6 ?_
  refine ar_if_eqB (tgt := 35) C dX11_studio_9 (by decide) (fun c_1 => False.elim (Bool.noConfusion (ht.symm.trans c_1))) (fun _ => ?_)
  refine ar_iload (n := 5) C dX11_studio_12 rfl ?_
  refine ar_iconst (v := 0) C dX11_studio_14 (by decide) ?_
  refine ar_iload (n := 4) C dX11_studio_15 rfl ?_
  refine ar_iconst (v := 1) C dX11_studio_17 (by decide) ?_
  refine ar_isub C dX11_studio_18 ?_
  refine cS1 (ar := [.int (nI k), .int 0, .int ((nI n) - 1)]) (st := []) C lkX11_94 (k_within M (nI k) 0 ((nI n) - 1)) (by decide) rfl (Nat.le_of_ble_eq_true rfl) rfl dX11_studio_19 ?_
  refine ar_if_eqB (tgt := 35) C dX11_studio_22 (by decide) (fun c_2 => False.elim (Bool.noConfusion (hk.symm.trans c_2))) (fun _ => ?_)
  refine ar_iload (n := 7) C dX11_studio_25 rfl ?_
  refine ar_iconst (v := 0) C dX11_studio_27 (by decide) ?_
  refine ar_iconst (v := 1) C dX11_studio_28 (by decide) ?_
  refine cS1 (ar := [.int 1, .int 0, .int 1]) (st := []) C lkX11_94 (k_within M 1 0 1) (by decide) rfl (Nat.le_of_ble_eq_true rfl) rfl dX11_studio_29 ?_
  refine ar_if_neB (tgt := 38) C dX11_studio_32 (by decide) (fun _ => ?_) (fun c_3 => False.elim (Bool.noConfusion ((show f_in 1 0 1 = true by decide).symm.trans c_3)))
  refine ar_aload_n (n := 0) C dX11_studio_38 rfl rfl ?_
  refine ar_iload_n (n := 2) C dX11_studio_39 rfl rfl ?_
  refine ar_iload_n (n := 3) C dX11_studio_40 rfl rfl ?_
  refine ar_iload (n := 4) C dX11_studio_41 rfl ?_
  refine cV1 (ar := [.int (nI s), .int q, .int (nI n)]) (st := []) C lkX11_314 kd_0 (r_null M hs q hm) (by decide) rfl (Nat.le_of_ble_eq_true rfl) rfl dX11_studio_43 ?_
  refine ar_istore (als' := [(8, .int (-1000011)), (0, .ref 0), (1, .int (nI a)), (2, .int (nI s)), (3, .int q), (4, .int (nI n)), (5, .int (nI k)), (6, .int e), (7, .int 1)]) C dX11_studio_46 (by decide) rfl ?_
  refine ar_iload (n := 0) C dX11_studio_48 rfl ?_
  refine ar_if_eq (tgt := 56) C dX11_studio_50 (by decide) (fun c_4 => absurd c_4 (by decide)) (fun _ => ?_)
  refine ar_iload (n := 0) C dX11_studio_53 rfl ?_
  exact ar_ireturn C rfl dX11_studio_55 ⟨rfl, rfl, rfl⟩
set_option maxHeartbeats 4000000 in
set_option maxRecDepth 100000 in
theorem x_studio_place_0 (M : Mm) {a s n k : Nat} (ha : a < 8) (hs : s < 8) (e : Int32) (ht : f_told (nI a) (nI s) (nI n) e = true) (hk : f_in (nI k) 0 (nI n - 1) = true) (q : Int32) (hm : decide (M.1 (22 + 2 * s) 1 = -1) = false) (hh : f_holds (M.1 (22 + 2 * s) 2) q (nI n * 4) = false) : AX mX11_studio 5 [.ref 0, .int (nI a), .int (nI s), .int q, .int (nI n), .int (nI k), .int e, .int 0] M (some (.int (-1000012))) (wi M 0 12 2) := by
  refine AM_ofF (by decide +kernel) (Nat.le_of_ble_eq_true rfl) (fun X V C _ _ => ?_)
  show AW X V mX11_studio.2.2.1 T0 M 0 0 _ 0 [(0, .ref 0), (1, .int (nI a)), (2, .int (nI s)), (3, .int q), (4, .int (nI n)), (5, .int (nI k)), (6, .int e), (7, .int 0)] []
  refine ar_iload_n (n := 1) C dX11_studio_0 rfl rfl ?_
  refine ar_iload_n (n := 2) C dX11_studio_1 rfl rfl ?_
  refine ar_iload (n := 4) C dX11_studio_2 rfl ?_
  refine ar_iload (n := 6) C dX11_studio_4 rfl ?_
  refine cS1 (ar := [.int (nI a), .int (nI s), .int (nI n), .int e]) (st := []) C lkX11_311 (k_told M (nI a) (nI s) (nI n) e) (by decide) rfl (Nat.le_of_ble_eq_true rfl) rfl dX11_studio_6 ?_
  refine ar_if_eqB (tgt := 35) C dX11_studio_9 (by decide) (fun c_1 => False.elim (Bool.noConfusion (ht.symm.trans c_1))) (fun _ => ?_)
  refine ar_iload (n := 5) C dX11_studio_12 rfl ?_
  refine ar_iconst (v := 0) C dX11_studio_14 (by decide) ?_
  refine ar_iload (n := 4) C dX11_studio_15 rfl ?_
  refine ar_iconst (v := 1) C dX11_studio_17 (by decide) ?_
  refine ar_isub C dX11_studio_18 ?_
  refine cS1 (ar := [.int (nI k), .int 0, .int ((nI n) - 1)]) (st := []) C lkX11_94 (k_within M (nI k) 0 ((nI n) - 1)) (by decide) rfl (Nat.le_of_ble_eq_true rfl) rfl dX11_studio_19 ?_
  refine ar_if_eqB (tgt := 35) C dX11_studio_22 (by decide) (fun c_2 => False.elim (Bool.noConfusion (hk.symm.trans c_2))) (fun _ => ?_)
  refine ar_iload (n := 7) C dX11_studio_25 rfl ?_
  refine ar_iconst (v := 0) C dX11_studio_27 (by decide) ?_
  refine ar_iconst (v := 1) C dX11_studio_28 (by decide) ?_
  refine cS1 (ar := [.int 0, .int 0, .int 1]) (st := []) C lkX11_94 (k_within M 0 0 1) (by decide) rfl (Nat.le_of_ble_eq_true rfl) rfl dX11_studio_29 ?_
  refine ar_if_neB (tgt := 38) C dX11_studio_32 (by decide) (fun _ => ?_) (fun c_3 => False.elim (Bool.noConfusion ((show f_in 0 0 1 = true by decide).symm.trans c_3)))
  refine ar_aload_n (n := 0) C dX11_studio_38 rfl rfl ?_
  refine ar_iload_n (n := 2) C dX11_studio_39 rfl rfl ?_
  refine ar_iload_n (n := 3) C dX11_studio_40 rfl rfl ?_
  refine ar_iload (n := 4) C dX11_studio_41 rfl ?_
  refine cV1 (ar := [.int (nI s), .int q, .int (nI n)]) (st := []) C lkX11_314 kd_0 (r_place M hs q hm hh) (by decide) rfl (Nat.le_of_ble_eq_true rfl) rfl dX11_studio_43 ?_
  refine ar_istore (als' := [(8, .int (-1000012)), (0, .ref 0), (1, .int (nI a)), (2, .int (nI s)), (3, .int q), (4, .int (nI n)), (5, .int (nI k)), (6, .int e), (7, .int 0)]) C dX11_studio_46 (by decide) rfl ?_
  refine ar_iload (n := 0) C dX11_studio_48 rfl ?_
  refine ar_if_eq (tgt := 56) C dX11_studio_50 (by decide) (fun c_4 => absurd c_4 (by decide)) (fun _ => ?_)
  refine ar_iload (n := 0) C dX11_studio_53 rfl ?_
  exact ar_ireturn C rfl dX11_studio_55 ⟨rfl, rfl, rfl⟩
set_option maxHeartbeats 4000000 in
set_option maxRecDepth 100000 in
theorem x_studio_place_1 (M : Mm) {a s n k : Nat} (ha : a < 8) (hs : s < 8) (e : Int32) (ht : f_told (nI a) (nI s) (nI n) e = true) (hk : f_in (nI k) 0 (nI n - 1) = true) (q : Int32) (hm : decide (M.1 (22 + 2 * s) 1 = -1) = false) (hh : f_holds (M.1 (22 + 2 * s) 2) q (nI n * 4) = false) : AX mX11_studio 5 [.ref 0, .int (nI a), .int (nI s), .int q, .int (nI n), .int (nI k), .int e, .int 1] M (some (.int (-1000012))) (wi M 0 12 2) := by
  refine AM_ofF (by decide +kernel) (Nat.le_of_ble_eq_true rfl) (fun X V C _ _ => ?_)
  show AW X V mX11_studio.2.2.1 T0 M 0 0 _ 0 [(0, .ref 0), (1, .int (nI a)), (2, .int (nI s)), (3, .int q), (4, .int (nI n)), (5, .int (nI k)), (6, .int e), (7, .int 1)] []
  refine ar_iload_n (n := 1) C dX11_studio_0 rfl rfl ?_
  refine ar_iload_n (n := 2) C dX11_studio_1 rfl rfl ?_
  refine ar_iload (n := 4) C dX11_studio_2 rfl ?_
  refine ar_iload (n := 6) C dX11_studio_4 rfl ?_
  refine cS1 (ar := [.int (nI a), .int (nI s), .int (nI n), .int e]) (st := []) C lkX11_311 (k_told M (nI a) (nI s) (nI n) e) (by decide) rfl (Nat.le_of_ble_eq_true rfl) rfl dX11_studio_6 ?_
  refine ar_if_eqB (tgt := 35) C dX11_studio_9 (by decide) (fun c_1 => False.elim (Bool.noConfusion (ht.symm.trans c_1))) (fun _ => ?_)
  refine ar_iload (n := 5) C dX11_studio_12 rfl ?_
  refine ar_iconst (v := 0) C dX11_studio_14 (by decide) ?_
  refine ar_iload (n := 4) C dX11_studio_15 rfl ?_
  refine ar_iconst (v := 1) C dX11_studio_17 (by decide) ?_
  refine ar_isub C dX11_studio_18 ?_
  refine cS1 (ar := [.int (nI k), .int 0, .int ((nI n) - 1)]) (st := []) C lkX11_94 (k_within M (nI k) 0 ((nI n) - 1)) (by decide) rfl (Nat.le_of_ble_eq_true rfl) rfl dX11_studio_19 ?_
  refine ar_if_eqB (tgt := 35) C dX11_studio_22 (by decide) (fun c_2 => False.elim (Bool.noConfusion (hk.symm.trans c_2))) (fun _ => ?_)
  refine ar_iload (n := 7) C dX11_studio_25 rfl ?_
  refine ar_iconst (v := 0) C dX11_studio_27 (by decide) ?_
  refine ar_iconst (v := 1) C dX11_studio_28 (by decide) ?_
  refine cS1 (ar := [.int 1, .int 0, .int 1]) (st := []) C lkX11_94 (k_within M 1 0 1) (by decide) rfl (Nat.le_of_ble_eq_true rfl) rfl dX11_studio_29 ?_
  refine ar_if_neB (tgt := 38) C dX11_studio_32 (by decide) (fun _ => ?_) (fun c_3 => False.elim (Bool.noConfusion ((show f_in 1 0 1 = true by decide).symm.trans c_3)))
  refine ar_aload_n (n := 0) C dX11_studio_38 rfl rfl ?_
  refine ar_iload_n (n := 2) C dX11_studio_39 rfl rfl ?_
  refine ar_iload_n (n := 3) C dX11_studio_40 rfl rfl ?_
  refine ar_iload (n := 4) C dX11_studio_41 rfl ?_
  refine cV1 (ar := [.int (nI s), .int q, .int (nI n)]) (st := []) C lkX11_314 kd_0 (r_place M hs q hm hh) (by decide) rfl (Nat.le_of_ble_eq_true rfl) rfl dX11_studio_43 ?_
  refine ar_istore (als' := [(8, .int (-1000012)), (0, .ref 0), (1, .int (nI a)), (2, .int (nI s)), (3, .int q), (4, .int (nI n)), (5, .int (nI k)), (6, .int e), (7, .int 1)]) C dX11_studio_46 (by decide) rfl ?_
  refine ar_iload (n := 0) C dX11_studio_48 rfl ?_
  refine ar_if_eq (tgt := 56) C dX11_studio_50 (by decide) (fun c_4 => absurd c_4 (by decide)) (fun _ => ?_)
  refine ar_iload (n := 0) C dX11_studio_53 rfl ?_
  exact ar_ireturn C rfl dX11_studio_55 ⟨rfl, rfl, rfl⟩
set_option maxHeartbeats 4000000 in
set_option maxRecDepth 100000 in
theorem x_studio_no_0 (M : Mm) {a s n k : Nat} (ha : a < 8) (hs : s < 8) (e : Int32) (ht : f_told (nI a) (nI s) (nI n) e = true) (hk : f_in (nI k) 0 (nI n - 1) = true) {i : Nat} (hin : i + 4 * n ≤ 80) (hm : decide (M.1 (22 + 2 * s) 1 = -1) = false) (hh : f_holds (M.1 (22 + 2 * s) 2) (nI i) (nI n * 4) = true) (hall : allB (stB M s i) n = false) : AQ mX11_studio 5 [.ref 0, .int (nI a), .int (nI s), .int (nI i), .int (nI n), .int (nI k), .int e, .int 0] M (some (.int (-1000001))) (SQ M (M.1 0 12)) := by
  refine AM_ofF (by decide +kernel) (Nat.le_of_ble_eq_true rfl) (fun X V C _ _ => ?_)
  show AW X V mX11_studio.2.2.1 T0 M 0 0 _ 0 [(0, .ref 0), (1, .int (nI a)), (2, .int (nI s)), (3, .int (nI i)), (4, .int (nI n)), (5, .int (nI k)), (6, .int e), (7, .int 0)] []
  refine ar_iload_n (n := 1) C dX11_studio_0 rfl rfl ?_
  refine ar_iload_n (n := 2) C dX11_studio_1 rfl rfl ?_
  refine ar_iload (n := 4) C dX11_studio_2 rfl ?_
  refine ar_iload (n := 6) C dX11_studio_4 rfl ?_
  refine cS1 (ar := [.int (nI a), .int (nI s), .int (nI n), .int e]) (st := []) C lkX11_311 (k_told M (nI a) (nI s) (nI n) e) (by decide) rfl (Nat.le_of_ble_eq_true rfl) rfl dX11_studio_6 ?_
  refine ar_if_eqB (tgt := 35) C dX11_studio_9 (by decide) (fun c_1 => False.elim (Bool.noConfusion (ht.symm.trans c_1))) (fun _ => ?_)
  refine ar_iload (n := 5) C dX11_studio_12 rfl ?_
  refine ar_iconst (v := 0) C dX11_studio_14 (by decide) ?_
  refine ar_iload (n := 4) C dX11_studio_15 rfl ?_
  refine ar_iconst (v := 1) C dX11_studio_17 (by decide) ?_
  refine ar_isub C dX11_studio_18 ?_
  refine cS1 (ar := [.int (nI k), .int 0, .int ((nI n) - 1)]) (st := []) C lkX11_94 (k_within M (nI k) 0 ((nI n) - 1)) (by decide) rfl (Nat.le_of_ble_eq_true rfl) rfl dX11_studio_19 ?_
  refine ar_if_eqB (tgt := 35) C dX11_studio_22 (by decide) (fun c_2 => False.elim (Bool.noConfusion (hk.symm.trans c_2))) (fun _ => ?_)
  refine ar_iload (n := 7) C dX11_studio_25 rfl ?_
  refine ar_iconst (v := 0) C dX11_studio_27 (by decide) ?_
  refine ar_iconst (v := 1) C dX11_studio_28 (by decide) ?_
  refine cS1 (ar := [.int 0, .int 0, .int 1]) (st := []) C lkX11_94 (k_within M 0 0 1) (by decide) rfl (Nat.le_of_ble_eq_true rfl) rfl dX11_studio_29 ?_
  refine ar_if_neB (tgt := 38) C dX11_studio_32 (by decide) (fun _ => ?_) (fun c_3 => False.elim (Bool.noConfusion ((show f_in 0 0 1 = true by decide).symm.trans c_3)))
  refine ar_aload_n (n := 0) C dX11_studio_38 rfl rfl ?_
  refine ar_iload_n (n := 2) C dX11_studio_39 rfl rfl ?_
  refine ar_iload_n (n := 3) C dX11_studio_40 rfl rfl ?_
  refine ar_iload (n := 4) C dX11_studio_41 rfl ?_
  refine cV1q (ar := [.int (nI s), .int (nI i), .int (nI n)]) (st := []) C lkX11_314 kd_0 (r_false M hs hin hm hh hall) (by decide) rfl (Nat.le_of_ble_eq_true rfl) rfl dX11_studio_43 (fun M_4 h_5 => ?_)
  refine ar_istore (als' := [(8, .int (-1000001)), (0, .ref 0), (1, .int (nI a)), (2, .int (nI s)), (3, .int (nI i)), (4, .int (nI n)), (5, .int (nI k)), (6, .int e), (7, .int 0)]) C dX11_studio_46 (by decide) rfl ?_
  refine ar_iload (n := 0) C dX11_studio_48 rfl ?_
  refine ar_if_eq (tgt := 56) C dX11_studio_50 (by decide) (fun c_6 => absurd c_6 (by decide)) (fun _ => ?_)
  refine ar_iload (n := 0) C dX11_studio_53 rfl ?_
  exact ar_ireturn C rfl dX11_studio_55 ⟨rfl, rfl, Oc_SQ h_5⟩
set_option maxHeartbeats 4000000 in
set_option maxRecDepth 100000 in
theorem x_studio_no_1 (M : Mm) {a s n k : Nat} (ha : a < 8) (hs : s < 8) (e : Int32) (ht : f_told (nI a) (nI s) (nI n) e = true) (hk : f_in (nI k) 0 (nI n - 1) = true) {i : Nat} (hin : i + 4 * n ≤ 80) (hm : decide (M.1 (22 + 2 * s) 1 = -1) = false) (hh : f_holds (M.1 (22 + 2 * s) 2) (nI i) (nI n * 4) = true) (hall : allB (stB M s i) n = false) : AQ mX11_studio 5 [.ref 0, .int (nI a), .int (nI s), .int (nI i), .int (nI n), .int (nI k), .int e, .int 1] M (some (.int (-1000001))) (SQ M (M.1 0 12)) := by
  refine AM_ofF (by decide +kernel) (Nat.le_of_ble_eq_true rfl) (fun X V C _ _ => ?_)
  show AW X V mX11_studio.2.2.1 T0 M 0 0 _ 0 [(0, .ref 0), (1, .int (nI a)), (2, .int (nI s)), (3, .int (nI i)), (4, .int (nI n)), (5, .int (nI k)), (6, .int e), (7, .int 1)] []
  refine ar_iload_n (n := 1) C dX11_studio_0 rfl rfl ?_
  refine ar_iload_n (n := 2) C dX11_studio_1 rfl rfl ?_
  refine ar_iload (n := 4) C dX11_studio_2 rfl ?_
  refine ar_iload (n := 6) C dX11_studio_4 rfl ?_
  refine cS1 (ar := [.int (nI a), .int (nI s), .int (nI n), .int e]) (st := []) C lkX11_311 (k_told M (nI a) (nI s) (nI n) e) (by decide) rfl (Nat.le_of_ble_eq_true rfl) rfl dX11_studio_6 ?_
  refine ar_if_eqB (tgt := 35) C dX11_studio_9 (by decide) (fun c_1 => False.elim (Bool.noConfusion (ht.symm.trans c_1))) (fun _ => ?_)
  refine ar_iload (n := 5) C dX11_studio_12 rfl ?_
  refine ar_iconst (v := 0) C dX11_studio_14 (by decide) ?_
  refine ar_iload (n := 4) C dX11_studio_15 rfl ?_
  refine ar_iconst (v := 1) C dX11_studio_17 (by decide) ?_
  refine ar_isub C dX11_studio_18 ?_
  refine cS1 (ar := [.int (nI k), .int 0, .int ((nI n) - 1)]) (st := []) C lkX11_94 (k_within M (nI k) 0 ((nI n) - 1)) (by decide) rfl (Nat.le_of_ble_eq_true rfl) rfl dX11_studio_19 ?_
  refine ar_if_eqB (tgt := 35) C dX11_studio_22 (by decide) (fun c_2 => False.elim (Bool.noConfusion (hk.symm.trans c_2))) (fun _ => ?_)
  refine ar_iload (n := 7) C dX11_studio_25 rfl ?_
  refine ar_iconst (v := 0) C dX11_studio_27 (by decide) ?_
  refine ar_iconst (v := 1) C dX11_studio_28 (by decide) ?_
  refine cS1 (ar := [.int 1, .int 0, .int 1]) (st := []) C lkX11_94 (k_within M 1 0 1) (by decide) rfl (Nat.le_of_ble_eq_true rfl) rfl dX11_studio_29 ?_
  refine ar_if_neB (tgt := 38) C dX11_studio_32 (by decide) (fun _ => ?_) (fun c_3 => False.elim (Bool.noConfusion ((show f_in 1 0 1 = true by decide).symm.trans c_3)))
  refine ar_aload_n (n := 0) C dX11_studio_38 rfl rfl ?_
  refine ar_iload_n (n := 2) C dX11_studio_39 rfl rfl ?_
  refine ar_iload_n (n := 3) C dX11_studio_40 rfl rfl ?_
  refine ar_iload (n := 4) C dX11_studio_41 rfl ?_
  refine cV1q (ar := [.int (nI s), .int (nI i), .int (nI n)]) (st := []) C lkX11_314 kd_0 (r_false M hs hin hm hh hall) (by decide) rfl (Nat.le_of_ble_eq_true rfl) rfl dX11_studio_43 (fun M_4 h_5 => ?_)
  refine ar_istore (als' := [(8, .int (-1000001)), (0, .ref 0), (1, .int (nI a)), (2, .int (nI s)), (3, .int (nI i)), (4, .int (nI n)), (5, .int (nI k)), (6, .int e), (7, .int 1)]) C dX11_studio_46 (by decide) rfl ?_
  refine ar_iload (n := 0) C dX11_studio_48 rfl ?_
  refine ar_if_eq (tgt := 56) C dX11_studio_50 (by decide) (fun c_6 => absurd c_6 (by decide)) (fun _ => ?_)
  refine ar_iload (n := 0) C dX11_studio_53 rfl ?_
  exact ar_ireturn C rfl dX11_studio_55 ⟨rfl, rfl, Oc_SQ h_5⟩
set_option maxHeartbeats 4000000 in
set_option maxRecDepth 100000 in
theorem x_studio_ok_0 (M : Mm) {a s n k : Nat} (ha : a < 8) (hs : s < 8) (e : Int32) (ht : f_told (nI a) (nI s) (nI n) e = true) (hk : f_in (nI k) 0 (nI n - 1) = true) (hkn : k < n) {i : Nat} (hin : i + 4 * n ≤ 80) (hm : decide (M.1 (22 + 2 * s) 1 = -1) = false) (hh : f_holds (M.1 (22 + 2 * s) 2) (nI i) (nI n * 4) = true) (hall : allB (stB M s i) n = true) {N : Nat} (hN : M.1 0 3 = nI N) (hN24 : N ≤ 24) : AQ mX11_studio 5 [.ref 0, .int (nI a), .int (nI s), .int (nI i), .int (nI n), .int (nI k), .int e, .int 0] M (some (.int (sm M a s i N k))) (SQ M 0) := by
  refine AM_ofF (by decide +kernel) (Nat.le_of_ble_eq_true rfl) (fun X V C _ _ => ?_)
  show AW X V mX11_studio.2.2.1 T0 M 0 0 _ 0 [(0, .ref 0), (1, .int (nI a)), (2, .int (nI s)), (3, .int (nI i)), (4, .int (nI n)), (5, .int (nI k)), (6, .int e), (7, .int 0)] []
  refine ar_iload_n (n := 1) C dX11_studio_0 rfl rfl ?_
  refine ar_iload_n (n := 2) C dX11_studio_1 rfl rfl ?_
  refine ar_iload (n := 4) C dX11_studio_2 rfl ?_
  refine ar_iload (n := 6) C dX11_studio_4 rfl ?_
  refine cS1 (ar := [.int (nI a), .int (nI s), .int (nI n), .int e]) (st := []) C lkX11_311 (k_told M (nI a) (nI s) (nI n) e) (by decide) rfl (Nat.le_of_ble_eq_true rfl) rfl dX11_studio_6 ?_
  refine ar_if_eqB (tgt := 35) C dX11_studio_9 (by decide) (fun c_1 => False.elim (Bool.noConfusion (ht.symm.trans c_1))) (fun _ => ?_)
  refine ar_iload (n := 5) C dX11_studio_12 rfl ?_
  refine ar_iconst (v := 0) C dX11_studio_14 (by decide) ?_
  refine ar_iload (n := 4) C dX11_studio_15 rfl ?_
  refine ar_iconst (v := 1) C dX11_studio_17 (by decide) ?_
  refine ar_isub C dX11_studio_18 ?_
  refine cS1 (ar := [.int (nI k), .int 0, .int ((nI n) - 1)]) (st := []) C lkX11_94 (k_within M (nI k) 0 ((nI n) - 1)) (by decide) rfl (Nat.le_of_ble_eq_true rfl) rfl dX11_studio_19 ?_
  refine ar_if_eqB (tgt := 35) C dX11_studio_22 (by decide) (fun c_2 => False.elim (Bool.noConfusion (hk.symm.trans c_2))) (fun _ => ?_)
  refine ar_iload (n := 7) C dX11_studio_25 rfl ?_
  refine ar_iconst (v := 0) C dX11_studio_27 (by decide) ?_
  refine ar_iconst (v := 1) C dX11_studio_28 (by decide) ?_
  refine cS1 (ar := [.int 0, .int 0, .int 1]) (st := []) C lkX11_94 (k_within M 0 0 1) (by decide) rfl (Nat.le_of_ble_eq_true rfl) rfl dX11_studio_29 ?_
  refine ar_if_neB (tgt := 38) C dX11_studio_32 (by decide) (fun _ => ?_) (fun c_3 => False.elim (Bool.noConfusion ((show f_in 0 0 1 = true by decide).symm.trans c_3)))
  refine ar_aload_n (n := 0) C dX11_studio_38 rfl rfl ?_
  refine ar_iload_n (n := 2) C dX11_studio_39 rfl rfl ?_
  refine ar_iload_n (n := 3) C dX11_studio_40 rfl rfl ?_
  refine ar_iload (n := 4) C dX11_studio_41 rfl ?_
  refine cV1q (ar := [.int (nI s), .int (nI i), .int (nI n)]) (st := []) C lkX11_314 kd_0 (r_true M hs hin hm hh hall) (by decide) rfl (Nat.le_of_ble_eq_true rfl) rfl dX11_studio_43 (fun M_4 h_5 => ?_)
  refine ar_istore (als' := [(8, .int 0), (0, .ref 0), (1, .int (nI a)), (2, .int (nI s)), (3, .int (nI i)), (4, .int (nI n)), (5, .int (nI k)), (6, .int e), (7, .int 0)]) C dX11_studio_46 (by decide) rfl ?_
  refine ar_iload (n := 0) C dX11_studio_48 rfl ?_
  refine ar_if_eq (tgt := 56) C dX11_studio_50 (by decide) (fun _ => ?_) (fun c_6 => absurd c_6 (by decide))
  refine ar_aload_n (n := 1) C dX11_studio_56 rfl rfl ?_
  refine ar_iload_n (n := 3) C dX11_studio_57 rfl rfl ?_
  refine ar_iload_n (n := 4) C dX11_studio_58 rfl rfl ?_
  refine ar_iload (n := 6) C dX11_studio_59 rfl ?_
  refine cV0 (ar := [.int (nI s), .int (nI i), .int (nI k)]) (st := []) C lkX11_318 kd_0 (k_readStudio M_4 (s := s) (i := i) (k := k) hs (by omega)) (by decide) rfl (Nat.le_of_ble_eq_true rfl) rfl dX11_studio_61 ?_
  refine ar_iload (n := 8) C dX11_studio_64 rfl ?_
  refine ar_if_ne (tgt := 84) C dX11_studio_66 (by decide) (fun c_7 => False.elim (c_7 rfl)) (fun _ => ?_)
  refine ar_aload_n (n := 1) C dX11_studio_69 rfl rfl ?_
  refine ar_aload_n (n := 1) C dX11_studio_70 rfl rfl ?_
  refine ar_aload_n (n := 1) C dX11_studio_71 rfl rfl ?_
  refine ar_getr C flX11_41 rfl kd_0 rf_0_5 dX11_studio_72 ?_
  refine ar_iload_n (n := 2) C dX11_studio_75 rfl rfl ?_
  refine ar_aald (j := a) C kd_8 (by decide) (by decide) rfl ha (rf_traces ha) dX11_studio_76 ?_
  refine cV1 (ar := [.ref (62 + 4 * a)]) (st := [.ref 0]) C lkX11_321 kd_0 (k_pmR M M_4 (s := s) (b := i + 4 * k) ha h_5 hN hN24) (by decide) rfl (Nat.le_of_ble_eq_true rfl) rfl dX11_studio_77 ?_
  refine cV1 (ar := [.int (sm M a s i N k)]) (st := []) C lkX11_107 kd_0 (k_clean (rs M_4 s (i + 4 * k)) (sm M a s i N k)) (by decide) rfl (Nat.le_of_ble_eq_true rfl) rfl dX11_studio_80 ?_
  exact ar_ireturn C rfl dX11_studio_83 ⟨rfl, rfl, Oc_SQw (Oc_rs h_5) 0⟩
set_option maxHeartbeats 4000000 in
set_option maxRecDepth 100000 in
theorem x_studio_ok_1 (M : Mm) {a s n k : Nat} (ha : a < 8) (hs : s < 8) (e : Int32) (ht : f_told (nI a) (nI s) (nI n) e = true) (hk : f_in (nI k) 0 (nI n - 1) = true) (hkn : k < n) {i : Nat} (hin : i + 4 * n ≤ 80) (hm : decide (M.1 (22 + 2 * s) 1 = -1) = false) (hh : f_holds (M.1 (22 + 2 * s) 2) (nI i) (nI n * 4) = true) (hall : allB (stB M s i) n = true) {N : Nat} (hN : M.1 0 3 = nI N) (hN24 : N ≤ 24) : AQ mX11_studio 5 [.ref 0, .int (nI a), .int (nI s), .int (nI i), .int (nI n), .int (nI k), .int e, .int 1] M (some (.int (bI (sdm M a s i N e k)))) (SQ M 0) := by
  refine AM_ofF (by decide +kernel) (Nat.le_of_ble_eq_true rfl) (fun X V C _ _ => ?_)
  show AW X V mX11_studio.2.2.1 T0 M 0 0 _ 0 [(0, .ref 0), (1, .int (nI a)), (2, .int (nI s)), (3, .int (nI i)), (4, .int (nI n)), (5, .int (nI k)), (6, .int e), (7, .int 1)] []
  refine ar_iload_n (n := 1) C dX11_studio_0 rfl rfl ?_
  refine ar_iload_n (n := 2) C dX11_studio_1 rfl rfl ?_
  refine ar_iload (n := 4) C dX11_studio_2 rfl ?_
  refine ar_iload (n := 6) C dX11_studio_4 rfl ?_
  refine cS1 (ar := [.int (nI a), .int (nI s), .int (nI n), .int e]) (st := []) C lkX11_311 (k_told M (nI a) (nI s) (nI n) e) (by decide) rfl (Nat.le_of_ble_eq_true rfl) rfl dX11_studio_6 ?_
  refine ar_if_eqB (tgt := 35) C dX11_studio_9 (by decide) (fun c_1 => False.elim (Bool.noConfusion (ht.symm.trans c_1))) (fun _ => ?_)
  refine ar_iload (n := 5) C dX11_studio_12 rfl ?_
  refine ar_iconst (v := 0) C dX11_studio_14 (by decide) ?_
  refine ar_iload (n := 4) C dX11_studio_15 rfl ?_
  refine ar_iconst (v := 1) C dX11_studio_17 (by decide) ?_
  refine ar_isub C dX11_studio_18 ?_
  refine cS1 (ar := [.int (nI k), .int 0, .int ((nI n) - 1)]) (st := []) C lkX11_94 (k_within M (nI k) 0 ((nI n) - 1)) (by decide) rfl (Nat.le_of_ble_eq_true rfl) rfl dX11_studio_19 ?_
  refine ar_if_eqB (tgt := 35) C dX11_studio_22 (by decide) (fun c_2 => False.elim (Bool.noConfusion (hk.symm.trans c_2))) (fun _ => ?_)
  refine ar_iload (n := 7) C dX11_studio_25 rfl ?_
  refine ar_iconst (v := 0) C dX11_studio_27 (by decide) ?_
  refine ar_iconst (v := 1) C dX11_studio_28 (by decide) ?_
  refine cS1 (ar := [.int 1, .int 0, .int 1]) (st := []) C lkX11_94 (k_within M 1 0 1) (by decide) rfl (Nat.le_of_ble_eq_true rfl) rfl dX11_studio_29 ?_
  refine ar_if_neB (tgt := 38) C dX11_studio_32 (by decide) (fun _ => ?_) (fun c_3 => False.elim (Bool.noConfusion ((show f_in 1 0 1 = true by decide).symm.trans c_3)))
  refine ar_aload_n (n := 0) C dX11_studio_38 rfl rfl ?_
  refine ar_iload_n (n := 2) C dX11_studio_39 rfl rfl ?_
  refine ar_iload_n (n := 3) C dX11_studio_40 rfl rfl ?_
  refine ar_iload (n := 4) C dX11_studio_41 rfl ?_
  refine cV1q (ar := [.int (nI s), .int (nI i), .int (nI n)]) (st := []) C lkX11_314 kd_0 (r_true M hs hin hm hh hall) (by decide) rfl (Nat.le_of_ble_eq_true rfl) rfl dX11_studio_43 (fun M_4 h_5 => ?_)
  refine ar_istore (als' := [(8, .int 0), (0, .ref 0), (1, .int (nI a)), (2, .int (nI s)), (3, .int (nI i)), (4, .int (nI n)), (5, .int (nI k)), (6, .int e), (7, .int 1)]) C dX11_studio_46 (by decide) rfl ?_
  refine ar_iload (n := 0) C dX11_studio_48 rfl ?_
  refine ar_if_eq (tgt := 56) C dX11_studio_50 (by decide) (fun _ => ?_) (fun c_6 => absurd c_6 (by decide))
  refine ar_aload_n (n := 1) C dX11_studio_56 rfl rfl ?_
  refine ar_iload_n (n := 3) C dX11_studio_57 rfl rfl ?_
  refine ar_iload_n (n := 4) C dX11_studio_58 rfl rfl ?_
  refine ar_iload (n := 6) C dX11_studio_59 rfl ?_
  refine cV0 (ar := [.int (nI s), .int (nI i), .int (nI k)]) (st := []) C lkX11_318 kd_0 (k_readStudio M_4 (s := s) (i := i) (k := k) hs (by omega)) (by decide) rfl (Nat.le_of_ble_eq_true rfl) rfl dX11_studio_61 ?_
  refine ar_iload (n := 8) C dX11_studio_64 rfl ?_
  refine ar_if_ne (tgt := 84) C dX11_studio_66 (by decide) (fun _ => ?_) (fun c_7 => False.elim (absurd c_7 (by decide)))
  refine ar_aload_n (n := 1) C dX11_studio_84 rfl rfl ?_
  refine ar_aload_n (n := 1) C dX11_studio_85 rfl rfl ?_
  refine ar_aload_n (n := 1) C dX11_studio_86 rfl rfl ?_
  refine ar_getr C flX11_41 rfl kd_0 rf_0_5 dX11_studio_87 ?_
  refine ar_iload_n (n := 2) C dX11_studio_90 rfl rfl ?_
  refine ar_aald (j := a) C kd_8 (by decide) (by decide) rfl ha (rf_traces ha) dX11_studio_91 ?_
  refine ar_iload (n := 7) C dX11_studio_92 rfl ?_
  refine cV1 (ar := [.ref (62 + 4 * a), .int e]) (st := [.ref 0]) C lkX11_325 kd_0 (k_mdR M M_4 (s := s) (b := i + 4 * k) ha h_5 hN hN24 e) (by decide) rfl (Nat.le_of_ble_eq_true rfl) rfl dX11_studio_94 ?_
  refine ar_if_eqB (tgt := 104) C dX11_studio_97 (by decide) (fun c_8 => ?_) (fun c_8 => ?_)
  · refine ar_iconst (v := 0) C dX11_studio_104 (by decide) ?_
    refine cV1 (ar := [.int 0]) (st := []) C lkX11_107 kd_0 (k_clean (rs M_4 s (i + 4 * k)) 0) (by decide) rfl (Nat.le_of_ble_eq_true rfl) rfl dX11_studio_105 ?_
    exact ar_ireturn C rfl dX11_studio_108 ⟨by rw [show sdm M a s i N e k = false from c_8]; rfl, rfl, Oc_SQw (Oc_rs h_5) 0⟩
  · refine ar_iconst (v := 1) C dX11_studio_100 (by decide) ?_
    refine ar_goto (tgt := 105) C dX11_studio_101 (by decide) ?_
    refine cV1 (ar := [.int 1]) (st := []) C lkX11_107 kd_0 (k_clean (rs M_4 s (i + 4 * k)) 1) (by decide) rfl (Nat.le_of_ble_eq_true rfl) rfl dX11_studio_105 ?_
    exact ar_ireturn C rfl dX11_studio_108 ⟨by rw [show sdm M a s i N e k = true from c_8]; rfl, rfl, Oc_SQw (Oc_rs h_5) 0⟩
set_option maxHeartbeats 4000000 in
set_option maxRecDepth 100000 in
theorem x_studios_bad (M : Mm) (a s i n e w : Int32)  (hbad : (f_told a s n e && f_in w 0 2) = false) : AX mX11_studios 5 [.ref 0, .int a, .int s, .int i, .int n, .int e, .int w] M (some (.int (-1000001))) M := by
  refine AM_ofF (by decide +kernel) (Nat.le_of_ble_eq_true rfl) (fun X V C _ _ => ?_)
  show AW X V mX11_studios.2.2.1 T0 M 0 0 _ 0 [(0, .ref 0), (1, .int a), (2, .int s), (3, .int i), (4, .int n), (5, .int e), (6, .int w)] []
  refine ar_iload_n (n := 1) C dX11_studios_0 rfl rfl ?_
  refine ar_iload_n (n := 2) C dX11_studios_1 rfl rfl ?_
  refine ar_iload (n := 4) C dX11_studios_2 rfl ?_
  refine ar_iload (n := 5) C dX11_studios_4 rfl ?_
  refine cS1 (ar := [.int a, .int s, .int n, .int e]) (st := []) C lkX11_311 (k_told M a s n e) (by decide) rfl (Nat.le_of_ble_eq_true rfl) rfl dX11_studios_6 ?_
  refine ar_if_eqB (tgt := 22) C dX11_studios_9 (by decide) (fun c_1 => ?_) (fun c_1 => ?_)
  · refine ar_ldc C kcX11_98 dX11_studios_22 ?_
    exact ar_ireturn C rfl dX11_studios_24 ⟨rfl, rfl, rfl⟩
  · refine ar_iload (n := 6) C dX11_studios_12 rfl ?_
    refine ar_iconst (v := 0) C dX11_studios_14 (by decide) ?_
    refine ar_iconst (v := 2) C dX11_studios_15 (by decide) ?_
    refine cS1 (ar := [.int w, .int 0, .int 2]) (st := []) C lkX11_94 (k_within M w 0 2) (by decide) rfl (Nat.le_of_ble_eq_true rfl) rfl dX11_studios_16 ?_
    refine ar_if_neB (tgt := 25) C dX11_studios_19 (by decide) (fun c_2 => ?_) (fun c_2 => ?_)
    · exact absurd hbad (by first | (rw [c_1]; decide) | simp [*])
    · refine ar_ldc C kcX11_98 dX11_studios_22 ?_
      exact ar_ireturn C rfl dX11_studios_24 ⟨rfl, rfl, rfl⟩
set_option maxHeartbeats 4000000 in
set_option maxRecDepth 100000 in
theorem x_studios_null_0 (M : Mm) {a s n : Nat} (ha : a < 8) (hs : s < 8) (e : Int32) (ht : f_told (nI a) (nI s) (nI n) e = true) (q : Int32) (hm : decide (M.1 (22 + 2 * s) 1 = -1) = true) : AX mX11_studios 5 [.ref 0, .int (nI a), .int (nI s), .int q, .int (nI n), .int e, .int 0] M (some (.int (-1000011))) (wi M 0 12 1) := by
  refine AM_ofF (by decide +kernel) (Nat.le_of_ble_eq_true rfl) (fun X V C _ _ => ?_)
  show AW X V mX11_studios.2.2.1 T0 M 0 0 _ 0 [(0, .ref 0), (1, .int (nI a)), (2, .int (nI s)), (3, .int q), (4, .int (nI n)), (5, .int e), (6, .int 0)] []
  refine ar_iload_n (n := 1) C dX11_studios_0 rfl rfl ?_
  refine ar_iload_n (n := 2) C dX11_studios_1 rfl rfl ?_
  refine ar_iload (n := 4) C dX11_studios_2 rfl ?_
  refine ar_iload (n := 5) C dX11_studios_4 rfl ?_
  refine cS1 (ar := [.int (nI a), .int (nI s), .int (nI n), .int e]) (st := []) C lkX11_311 (k_told M (nI a) (nI s) (nI n) e) (by decide) rfl (Nat.le_of_ble_eq_true rfl) rfl dX11_studios_6 ?_
  refine ar_if_eqB (tgt := 22) C dX11_studios_9 (by decide) (fun c_1 => False.elim (Bool.noConfusion (ht.symm.trans c_1))) (fun _ => ?_)
  refine ar_iload (n := 6) C dX11_studios_12 rfl ?_
  refine ar_iconst (v := 0) C dX11_studios_14 (by decide) ?_
  refine ar_iconst (v := 2) C dX11_studios_15 (by decide) ?_
  refine cS1 (ar := [.int 0, .int 0, .int 2]) (st := []) C lkX11_94 (k_within M 0 0 2) (by decide) rfl (Nat.le_of_ble_eq_true rfl) rfl dX11_studios_16 ?_
  refine ar_if_neB (tgt := 25) C dX11_studios_19 (by decide) (fun _ => ?_) (fun c_2 => False.elim (Bool.noConfusion ((show f_in 0 0 2 = true by decide).symm.trans c_2)))
  refine ar_aload_n (n := 0) C dX11_studios_25 rfl rfl ?_
  refine ar_iload_n (n := 2) C dX11_studios_26 rfl rfl ?_
  refine ar_iload_n (n := 3) C dX11_studios_27 rfl rfl ?_
  refine ar_iload (n := 4) C dX11_studios_28 rfl ?_
  refine cV1 (ar := [.int (nI s), .int q, .int (nI n)]) (st := []) C lkX11_314 kd_0 (r_null M hs q hm) (by decide) rfl (Nat.le_of_ble_eq_true rfl) rfl dX11_studios_30 ?_
  refine ar_istore (als' := [(7, .int (-1000011)), (0, .ref 0), (1, .int (nI a)), (2, .int (nI s)), (3, .int q), (4, .int (nI n)), (5, .int e), (6, .int 0)]) C dX11_studios_33 (by decide) rfl ?_
  refine ar_iload (n := 0) C dX11_studios_35 rfl ?_
  refine ar_if_eq (tgt := 43) C dX11_studios_37 (by decide) (fun c_3 => absurd c_3 (by decide)) (fun _ => ?_)
  refine ar_iload (n := 0) C dX11_studios_40 rfl ?_
  exact ar_ireturn C rfl dX11_studios_42 ⟨rfl, rfl, rfl⟩
set_option maxHeartbeats 4000000 in
set_option maxRecDepth 100000 in
theorem x_studios_null_1 (M : Mm) {a s n : Nat} (ha : a < 8) (hs : s < 8) (e : Int32) (ht : f_told (nI a) (nI s) (nI n) e = true) (q : Int32) (hm : decide (M.1 (22 + 2 * s) 1 = -1) = true) : AX mX11_studios 5 [.ref 0, .int (nI a), .int (nI s), .int q, .int (nI n), .int e, .int 1] M (some (.int (-1000011))) (wi M 0 12 1) := by
  refine AM_ofF (by decide +kernel) (Nat.le_of_ble_eq_true rfl) (fun X V C _ _ => ?_)
  show AW X V mX11_studios.2.2.1 T0 M 0 0 _ 0 [(0, .ref 0), (1, .int (nI a)), (2, .int (nI s)), (3, .int q), (4, .int (nI n)), (5, .int e), (6, .int 1)] []
  refine ar_iload_n (n := 1) C dX11_studios_0 rfl rfl ?_
  refine ar_iload_n (n := 2) C dX11_studios_1 rfl rfl ?_
  refine ar_iload (n := 4) C dX11_studios_2 rfl ?_
  refine ar_iload (n := 5) C dX11_studios_4 rfl ?_
  refine cS1 (ar := [.int (nI a), .int (nI s), .int (nI n), .int e]) (st := []) C lkX11_311 (k_told M (nI a) (nI s) (nI n) e) (by decide) rfl (Nat.le_of_ble_eq_true rfl) rfl dX11_studios_6 ?_
  refine ar_if_eqB (tgt := 22) C dX11_studios_9 (by decide) (fun c_1 => False.elim (Bool.noConfusion (ht.symm.trans c_1))) (fun _ => ?_)
  refine ar_iload (n := 6) C dX11_studios_12 rfl ?_
  refine ar_iconst (v := 0) C dX11_studios_14 (by decide) ?_
  refine ar_iconst (v := 2) C dX11_studios_15 (by decide) ?_
  refine cS1 (ar := [.int 1, .int 0, .int 2]) (st := []) C lkX11_94 (k_within M 1 0 2) (by decide) rfl (Nat.le_of_ble_eq_true rfl) rfl dX11_studios_16 ?_
  refine ar_if_neB (tgt := 25) C dX11_studios_19 (by decide) (fun _ => ?_) (fun c_2 => False.elim (Bool.noConfusion ((show f_in 1 0 2 = true by decide).symm.trans c_2)))
  refine ar_aload_n (n := 0) C dX11_studios_25 rfl rfl ?_
  refine ar_iload_n (n := 2) C dX11_studios_26 rfl rfl ?_
  refine ar_iload_n (n := 3) C dX11_studios_27 rfl rfl ?_
  refine ar_iload (n := 4) C dX11_studios_28 rfl ?_
  refine cV1 (ar := [.int (nI s), .int q, .int (nI n)]) (st := []) C lkX11_314 kd_0 (r_null M hs q hm) (by decide) rfl (Nat.le_of_ble_eq_true rfl) rfl dX11_studios_30 ?_
  refine ar_istore (als' := [(7, .int (-1000011)), (0, .ref 0), (1, .int (nI a)), (2, .int (nI s)), (3, .int q), (4, .int (nI n)), (5, .int e), (6, .int 1)]) C dX11_studios_33 (by decide) rfl ?_
  refine ar_iload (n := 0) C dX11_studios_35 rfl ?_
  refine ar_if_eq (tgt := 43) C dX11_studios_37 (by decide) (fun c_3 => absurd c_3 (by decide)) (fun _ => ?_)
  refine ar_iload (n := 0) C dX11_studios_40 rfl ?_
  exact ar_ireturn C rfl dX11_studios_42 ⟨rfl, rfl, rfl⟩
set_option maxHeartbeats 4000000 in
set_option maxRecDepth 100000 in
theorem x_studios_null_2 (M : Mm) {a s n : Nat} (ha : a < 8) (hs : s < 8) (e : Int32) (ht : f_told (nI a) (nI s) (nI n) e = true) (q : Int32) (hm : decide (M.1 (22 + 2 * s) 1 = -1) = true) : AX mX11_studios 5 [.ref 0, .int (nI a), .int (nI s), .int q, .int (nI n), .int e, .int 2] M (some (.int (-1000011))) (wi M 0 12 1) := by
  refine AM_ofF (by decide +kernel) (Nat.le_of_ble_eq_true rfl) (fun X V C _ _ => ?_)
  show AW X V mX11_studios.2.2.1 T0 M 0 0 _ 0 [(0, .ref 0), (1, .int (nI a)), (2, .int (nI s)), (3, .int q), (4, .int (nI n)), (5, .int e), (6, .int 2)] []
  refine ar_iload_n (n := 1) C dX11_studios_0 rfl rfl ?_
  refine ar_iload_n (n := 2) C dX11_studios_1 rfl rfl ?_
  refine ar_iload (n := 4) C dX11_studios_2 rfl ?_
  refine ar_iload (n := 5) C dX11_studios_4 rfl ?_
  refine cS1 (ar := [.int (nI a), .int (nI s), .int (nI n), .int e]) (st := []) C lkX11_311 (k_told M (nI a) (nI s) (nI n) e) (by decide) rfl (Nat.le_of_ble_eq_true rfl) rfl dX11_studios_6 ?_
  refine ar_if_eqB (tgt := 22) C dX11_studios_9 (by decide) (fun c_1 => False.elim (Bool.noConfusion (ht.symm.trans c_1))) (fun _ => ?_)
  refine ar_iload (n := 6) C dX11_studios_12 rfl ?_
  refine ar_iconst (v := 0) C dX11_studios_14 (by decide) ?_
  refine ar_iconst (v := 2) C dX11_studios_15 (by decide) ?_
  refine cS1 (ar := [.int 2, .int 0, .int 2]) (st := []) C lkX11_94 (k_within M 2 0 2) (by decide) rfl (Nat.le_of_ble_eq_true rfl) rfl dX11_studios_16 ?_
  refine ar_if_neB (tgt := 25) C dX11_studios_19 (by decide) (fun _ => ?_) (fun c_2 => False.elim (Bool.noConfusion ((show f_in 2 0 2 = true by decide).symm.trans c_2)))
  refine ar_aload_n (n := 0) C dX11_studios_25 rfl rfl ?_
  refine ar_iload_n (n := 2) C dX11_studios_26 rfl rfl ?_
  refine ar_iload_n (n := 3) C dX11_studios_27 rfl rfl ?_
  refine ar_iload (n := 4) C dX11_studios_28 rfl ?_
  refine cV1 (ar := [.int (nI s), .int q, .int (nI n)]) (st := []) C lkX11_314 kd_0 (r_null M hs q hm) (by decide) rfl (Nat.le_of_ble_eq_true rfl) rfl dX11_studios_30 ?_
  refine ar_istore (als' := [(7, .int (-1000011)), (0, .ref 0), (1, .int (nI a)), (2, .int (nI s)), (3, .int q), (4, .int (nI n)), (5, .int e), (6, .int 2)]) C dX11_studios_33 (by decide) rfl ?_
  refine ar_iload (n := 0) C dX11_studios_35 rfl ?_
  refine ar_if_eq (tgt := 43) C dX11_studios_37 (by decide) (fun c_3 => absurd c_3 (by decide)) (fun _ => ?_)
  refine ar_iload (n := 0) C dX11_studios_40 rfl ?_
  exact ar_ireturn C rfl dX11_studios_42 ⟨rfl, rfl, rfl⟩
set_option maxHeartbeats 4000000 in
set_option maxRecDepth 100000 in
theorem x_studios_place_0 (M : Mm) {a s n : Nat} (ha : a < 8) (hs : s < 8) (e : Int32) (ht : f_told (nI a) (nI s) (nI n) e = true) (q : Int32) (hm : decide (M.1 (22 + 2 * s) 1 = -1) = false) (hh : f_holds (M.1 (22 + 2 * s) 2) q (nI n * 4) = false) : AX mX11_studios 5 [.ref 0, .int (nI a), .int (nI s), .int q, .int (nI n), .int e, .int 0] M (some (.int (-1000012))) (wi M 0 12 2) := by
  refine AM_ofF (by decide +kernel) (Nat.le_of_ble_eq_true rfl) (fun X V C _ _ => ?_)
  show AW X V mX11_studios.2.2.1 T0 M 0 0 _ 0 [(0, .ref 0), (1, .int (nI a)), (2, .int (nI s)), (3, .int q), (4, .int (nI n)), (5, .int e), (6, .int 0)] []
  refine ar_iload_n (n := 1) C dX11_studios_0 rfl rfl ?_
  refine ar_iload_n (n := 2) C dX11_studios_1 rfl rfl ?_
  refine ar_iload (n := 4) C dX11_studios_2 rfl ?_
  refine ar_iload (n := 5) C dX11_studios_4 rfl ?_
  refine cS1 (ar := [.int (nI a), .int (nI s), .int (nI n), .int e]) (st := []) C lkX11_311 (k_told M (nI a) (nI s) (nI n) e) (by decide) rfl (Nat.le_of_ble_eq_true rfl) rfl dX11_studios_6 ?_
  refine ar_if_eqB (tgt := 22) C dX11_studios_9 (by decide) (fun c_1 => False.elim (Bool.noConfusion (ht.symm.trans c_1))) (fun _ => ?_)
  refine ar_iload (n := 6) C dX11_studios_12 rfl ?_
  refine ar_iconst (v := 0) C dX11_studios_14 (by decide) ?_
  refine ar_iconst (v := 2) C dX11_studios_15 (by decide) ?_
  refine cS1 (ar := [.int 0, .int 0, .int 2]) (st := []) C lkX11_94 (k_within M 0 0 2) (by decide) rfl (Nat.le_of_ble_eq_true rfl) rfl dX11_studios_16 ?_
  refine ar_if_neB (tgt := 25) C dX11_studios_19 (by decide) (fun _ => ?_) (fun c_2 => False.elim (Bool.noConfusion ((show f_in 0 0 2 = true by decide).symm.trans c_2)))
  refine ar_aload_n (n := 0) C dX11_studios_25 rfl rfl ?_
  refine ar_iload_n (n := 2) C dX11_studios_26 rfl rfl ?_
  refine ar_iload_n (n := 3) C dX11_studios_27 rfl rfl ?_
  refine ar_iload (n := 4) C dX11_studios_28 rfl ?_
  refine cV1 (ar := [.int (nI s), .int q, .int (nI n)]) (st := []) C lkX11_314 kd_0 (r_place M hs q hm hh) (by decide) rfl (Nat.le_of_ble_eq_true rfl) rfl dX11_studios_30 ?_
  refine ar_istore (als' := [(7, .int (-1000012)), (0, .ref 0), (1, .int (nI a)), (2, .int (nI s)), (3, .int q), (4, .int (nI n)), (5, .int e), (6, .int 0)]) C dX11_studios_33 (by decide) rfl ?_
  refine ar_iload (n := 0) C dX11_studios_35 rfl ?_
  refine ar_if_eq (tgt := 43) C dX11_studios_37 (by decide) (fun c_3 => absurd c_3 (by decide)) (fun _ => ?_)
  refine ar_iload (n := 0) C dX11_studios_40 rfl ?_
  exact ar_ireturn C rfl dX11_studios_42 ⟨rfl, rfl, rfl⟩
set_option maxHeartbeats 4000000 in
set_option maxRecDepth 100000 in
theorem x_studios_place_1 (M : Mm) {a s n : Nat} (ha : a < 8) (hs : s < 8) (e : Int32) (ht : f_told (nI a) (nI s) (nI n) e = true) (q : Int32) (hm : decide (M.1 (22 + 2 * s) 1 = -1) = false) (hh : f_holds (M.1 (22 + 2 * s) 2) q (nI n * 4) = false) : AX mX11_studios 5 [.ref 0, .int (nI a), .int (nI s), .int q, .int (nI n), .int e, .int 1] M (some (.int (-1000012))) (wi M 0 12 2) := by
  refine AM_ofF (by decide +kernel) (Nat.le_of_ble_eq_true rfl) (fun X V C _ _ => ?_)
  show AW X V mX11_studios.2.2.1 T0 M 0 0 _ 0 [(0, .ref 0), (1, .int (nI a)), (2, .int (nI s)), (3, .int q), (4, .int (nI n)), (5, .int e), (6, .int 1)] []
  refine ar_iload_n (n := 1) C dX11_studios_0 rfl rfl ?_
  refine ar_iload_n (n := 2) C dX11_studios_1 rfl rfl ?_
  refine ar_iload (n := 4) C dX11_studios_2 rfl ?_
  refine ar_iload (n := 5) C dX11_studios_4 rfl ?_
  refine cS1 (ar := [.int (nI a), .int (nI s), .int (nI n), .int e]) (st := []) C lkX11_311 (k_told M (nI a) (nI s) (nI n) e) (by decide) rfl (Nat.le_of_ble_eq_true rfl) rfl dX11_studios_6 ?_
  refine ar_if_eqB (tgt := 22) C dX11_studios_9 (by decide) (fun c_1 => False.elim (Bool.noConfusion (ht.symm.trans c_1))) (fun _ => ?_)
  refine ar_iload (n := 6) C dX11_studios_12 rfl ?_
  refine ar_iconst (v := 0) C dX11_studios_14 (by decide) ?_
  refine ar_iconst (v := 2) C dX11_studios_15 (by decide) ?_
  refine cS1 (ar := [.int 1, .int 0, .int 2]) (st := []) C lkX11_94 (k_within M 1 0 2) (by decide) rfl (Nat.le_of_ble_eq_true rfl) rfl dX11_studios_16 ?_
  refine ar_if_neB (tgt := 25) C dX11_studios_19 (by decide) (fun _ => ?_) (fun c_2 => False.elim (Bool.noConfusion ((show f_in 1 0 2 = true by decide).symm.trans c_2)))
  refine ar_aload_n (n := 0) C dX11_studios_25 rfl rfl ?_
  refine ar_iload_n (n := 2) C dX11_studios_26 rfl rfl ?_
  refine ar_iload_n (n := 3) C dX11_studios_27 rfl rfl ?_
  refine ar_iload (n := 4) C dX11_studios_28 rfl ?_
  refine cV1 (ar := [.int (nI s), .int q, .int (nI n)]) (st := []) C lkX11_314 kd_0 (r_place M hs q hm hh) (by decide) rfl (Nat.le_of_ble_eq_true rfl) rfl dX11_studios_30 ?_
  refine ar_istore (als' := [(7, .int (-1000012)), (0, .ref 0), (1, .int (nI a)), (2, .int (nI s)), (3, .int q), (4, .int (nI n)), (5, .int e), (6, .int 1)]) C dX11_studios_33 (by decide) rfl ?_
  refine ar_iload (n := 0) C dX11_studios_35 rfl ?_
  refine ar_if_eq (tgt := 43) C dX11_studios_37 (by decide) (fun c_3 => absurd c_3 (by decide)) (fun _ => ?_)
  refine ar_iload (n := 0) C dX11_studios_40 rfl ?_
  exact ar_ireturn C rfl dX11_studios_42 ⟨rfl, rfl, rfl⟩
set_option maxHeartbeats 4000000 in
set_option maxRecDepth 100000 in
theorem x_studios_place_2 (M : Mm) {a s n : Nat} (ha : a < 8) (hs : s < 8) (e : Int32) (ht : f_told (nI a) (nI s) (nI n) e = true) (q : Int32) (hm : decide (M.1 (22 + 2 * s) 1 = -1) = false) (hh : f_holds (M.1 (22 + 2 * s) 2) q (nI n * 4) = false) : AX mX11_studios 5 [.ref 0, .int (nI a), .int (nI s), .int q, .int (nI n), .int e, .int 2] M (some (.int (-1000012))) (wi M 0 12 2) := by
  refine AM_ofF (by decide +kernel) (Nat.le_of_ble_eq_true rfl) (fun X V C _ _ => ?_)
  show AW X V mX11_studios.2.2.1 T0 M 0 0 _ 0 [(0, .ref 0), (1, .int (nI a)), (2, .int (nI s)), (3, .int q), (4, .int (nI n)), (5, .int e), (6, .int 2)] []
  refine ar_iload_n (n := 1) C dX11_studios_0 rfl rfl ?_
  refine ar_iload_n (n := 2) C dX11_studios_1 rfl rfl ?_
  refine ar_iload (n := 4) C dX11_studios_2 rfl ?_
  refine ar_iload (n := 5) C dX11_studios_4 rfl ?_
  refine cS1 (ar := [.int (nI a), .int (nI s), .int (nI n), .int e]) (st := []) C lkX11_311 (k_told M (nI a) (nI s) (nI n) e) (by decide) rfl (Nat.le_of_ble_eq_true rfl) rfl dX11_studios_6 ?_
  refine ar_if_eqB (tgt := 22) C dX11_studios_9 (by decide) (fun c_1 => False.elim (Bool.noConfusion (ht.symm.trans c_1))) (fun _ => ?_)
  refine ar_iload (n := 6) C dX11_studios_12 rfl ?_
  refine ar_iconst (v := 0) C dX11_studios_14 (by decide) ?_
  refine ar_iconst (v := 2) C dX11_studios_15 (by decide) ?_
  refine cS1 (ar := [.int 2, .int 0, .int 2]) (st := []) C lkX11_94 (k_within M 2 0 2) (by decide) rfl (Nat.le_of_ble_eq_true rfl) rfl dX11_studios_16 ?_
  refine ar_if_neB (tgt := 25) C dX11_studios_19 (by decide) (fun _ => ?_) (fun c_2 => False.elim (Bool.noConfusion ((show f_in 2 0 2 = true by decide).symm.trans c_2)))
  refine ar_aload_n (n := 0) C dX11_studios_25 rfl rfl ?_
  refine ar_iload_n (n := 2) C dX11_studios_26 rfl rfl ?_
  refine ar_iload_n (n := 3) C dX11_studios_27 rfl rfl ?_
  refine ar_iload (n := 4) C dX11_studios_28 rfl ?_
  refine cV1 (ar := [.int (nI s), .int q, .int (nI n)]) (st := []) C lkX11_314 kd_0 (r_place M hs q hm hh) (by decide) rfl (Nat.le_of_ble_eq_true rfl) rfl dX11_studios_30 ?_
  refine ar_istore (als' := [(7, .int (-1000012)), (0, .ref 0), (1, .int (nI a)), (2, .int (nI s)), (3, .int q), (4, .int (nI n)), (5, .int e), (6, .int 2)]) C dX11_studios_33 (by decide) rfl ?_
  refine ar_iload (n := 0) C dX11_studios_35 rfl ?_
  refine ar_if_eq (tgt := 43) C dX11_studios_37 (by decide) (fun c_3 => absurd c_3 (by decide)) (fun _ => ?_)
  refine ar_iload (n := 0) C dX11_studios_40 rfl ?_
  exact ar_ireturn C rfl dX11_studios_42 ⟨rfl, rfl, rfl⟩
set_option maxHeartbeats 4000000 in
set_option maxRecDepth 100000 in
theorem x_studios_no_0 (M : Mm) {a s n : Nat} (ha : a < 8) (hs : s < 8) (e : Int32) (ht : f_told (nI a) (nI s) (nI n) e = true) {i : Nat} (hin : i + 4 * n ≤ 80) (hm : decide (M.1 (22 + 2 * s) 1 = -1) = false) (hh : f_holds (M.1 (22 + 2 * s) 2) (nI i) (nI n * 4) = true) (hall : allB (stB M s i) n = false) : AQ mX11_studios 5 [.ref 0, .int (nI a), .int (nI s), .int (nI i), .int (nI n), .int e, .int 0] M (some (.int (-1000001))) (SQ M (M.1 0 12)) := by
  refine AM_ofF (by decide +kernel) (Nat.le_of_ble_eq_true rfl) (fun X V C _ _ => ?_)
  show AW X V mX11_studios.2.2.1 T0 M 0 0 _ 0 [(0, .ref 0), (1, .int (nI a)), (2, .int (nI s)), (3, .int (nI i)), (4, .int (nI n)), (5, .int e), (6, .int 0)] []
  refine ar_iload_n (n := 1) C dX11_studios_0 rfl rfl ?_
  refine ar_iload_n (n := 2) C dX11_studios_1 rfl rfl ?_
  refine ar_iload (n := 4) C dX11_studios_2 rfl ?_
  refine ar_iload (n := 5) C dX11_studios_4 rfl ?_
  refine cS1 (ar := [.int (nI a), .int (nI s), .int (nI n), .int e]) (st := []) C lkX11_311 (k_told M (nI a) (nI s) (nI n) e) (by decide) rfl (Nat.le_of_ble_eq_true rfl) rfl dX11_studios_6 ?_
  refine ar_if_eqB (tgt := 22) C dX11_studios_9 (by decide) (fun c_1 => False.elim (Bool.noConfusion (ht.symm.trans c_1))) (fun _ => ?_)
  refine ar_iload (n := 6) C dX11_studios_12 rfl ?_
  refine ar_iconst (v := 0) C dX11_studios_14 (by decide) ?_
  refine ar_iconst (v := 2) C dX11_studios_15 (by decide) ?_
  refine cS1 (ar := [.int 0, .int 0, .int 2]) (st := []) C lkX11_94 (k_within M 0 0 2) (by decide) rfl (Nat.le_of_ble_eq_true rfl) rfl dX11_studios_16 ?_
  refine ar_if_neB (tgt := 25) C dX11_studios_19 (by decide) (fun _ => ?_) (fun c_2 => False.elim (Bool.noConfusion ((show f_in 0 0 2 = true by decide).symm.trans c_2)))
  refine ar_aload_n (n := 0) C dX11_studios_25 rfl rfl ?_
  refine ar_iload_n (n := 2) C dX11_studios_26 rfl rfl ?_
  refine ar_iload_n (n := 3) C dX11_studios_27 rfl rfl ?_
  refine ar_iload (n := 4) C dX11_studios_28 rfl ?_
  refine cV1q (ar := [.int (nI s), .int (nI i), .int (nI n)]) (st := []) C lkX11_314 kd_0 (r_false M hs hin hm hh hall) (by decide) rfl (Nat.le_of_ble_eq_true rfl) rfl dX11_studios_30 (fun M_3 h_4 => ?_)
  refine ar_istore (als' := [(7, .int (-1000001)), (0, .ref 0), (1, .int (nI a)), (2, .int (nI s)), (3, .int (nI i)), (4, .int (nI n)), (5, .int e), (6, .int 0)]) C dX11_studios_33 (by decide) rfl ?_
  refine ar_iload (n := 0) C dX11_studios_35 rfl ?_
  refine ar_if_eq (tgt := 43) C dX11_studios_37 (by decide) (fun c_5 => absurd c_5 (by decide)) (fun _ => ?_)
  refine ar_iload (n := 0) C dX11_studios_40 rfl ?_
  exact ar_ireturn C rfl dX11_studios_42 ⟨rfl, rfl, Oc_SQ h_4⟩
set_option maxHeartbeats 4000000 in
set_option maxRecDepth 100000 in
theorem x_studios_no_1 (M : Mm) {a s n : Nat} (ha : a < 8) (hs : s < 8) (e : Int32) (ht : f_told (nI a) (nI s) (nI n) e = true) {i : Nat} (hin : i + 4 * n ≤ 80) (hm : decide (M.1 (22 + 2 * s) 1 = -1) = false) (hh : f_holds (M.1 (22 + 2 * s) 2) (nI i) (nI n * 4) = true) (hall : allB (stB M s i) n = false) : AQ mX11_studios 5 [.ref 0, .int (nI a), .int (nI s), .int (nI i), .int (nI n), .int e, .int 1] M (some (.int (-1000001))) (SQ M (M.1 0 12)) := by
  refine AM_ofF (by decide +kernel) (Nat.le_of_ble_eq_true rfl) (fun X V C _ _ => ?_)
  show AW X V mX11_studios.2.2.1 T0 M 0 0 _ 0 [(0, .ref 0), (1, .int (nI a)), (2, .int (nI s)), (3, .int (nI i)), (4, .int (nI n)), (5, .int e), (6, .int 1)] []
  refine ar_iload_n (n := 1) C dX11_studios_0 rfl rfl ?_
  refine ar_iload_n (n := 2) C dX11_studios_1 rfl rfl ?_
  refine ar_iload (n := 4) C dX11_studios_2 rfl ?_
  refine ar_iload (n := 5) C dX11_studios_4 rfl ?_
  refine cS1 (ar := [.int (nI a), .int (nI s), .int (nI n), .int e]) (st := []) C lkX11_311 (k_told M (nI a) (nI s) (nI n) e) (by decide) rfl (Nat.le_of_ble_eq_true rfl) rfl dX11_studios_6 ?_
  refine ar_if_eqB (tgt := 22) C dX11_studios_9 (by decide) (fun c_1 => False.elim (Bool.noConfusion (ht.symm.trans c_1))) (fun _ => ?_)
  refine ar_iload (n := 6) C dX11_studios_12 rfl ?_
  refine ar_iconst (v := 0) C dX11_studios_14 (by decide) ?_
  refine ar_iconst (v := 2) C dX11_studios_15 (by decide) ?_
  refine cS1 (ar := [.int 1, .int 0, .int 2]) (st := []) C lkX11_94 (k_within M 1 0 2) (by decide) rfl (Nat.le_of_ble_eq_true rfl) rfl dX11_studios_16 ?_
  refine ar_if_neB (tgt := 25) C dX11_studios_19 (by decide) (fun _ => ?_) (fun c_2 => False.elim (Bool.noConfusion ((show f_in 1 0 2 = true by decide).symm.trans c_2)))
  refine ar_aload_n (n := 0) C dX11_studios_25 rfl rfl ?_
  refine ar_iload_n (n := 2) C dX11_studios_26 rfl rfl ?_
  refine ar_iload_n (n := 3) C dX11_studios_27 rfl rfl ?_
  refine ar_iload (n := 4) C dX11_studios_28 rfl ?_
  refine cV1q (ar := [.int (nI s), .int (nI i), .int (nI n)]) (st := []) C lkX11_314 kd_0 (r_false M hs hin hm hh hall) (by decide) rfl (Nat.le_of_ble_eq_true rfl) rfl dX11_studios_30 (fun M_3 h_4 => ?_)
  refine ar_istore (als' := [(7, .int (-1000001)), (0, .ref 0), (1, .int (nI a)), (2, .int (nI s)), (3, .int (nI i)), (4, .int (nI n)), (5, .int e), (6, .int 1)]) C dX11_studios_33 (by decide) rfl ?_
  refine ar_iload (n := 0) C dX11_studios_35 rfl ?_
  refine ar_if_eq (tgt := 43) C dX11_studios_37 (by decide) (fun c_5 => absurd c_5 (by decide)) (fun _ => ?_)
  refine ar_iload (n := 0) C dX11_studios_40 rfl ?_
  exact ar_ireturn C rfl dX11_studios_42 ⟨rfl, rfl, Oc_SQ h_4⟩
set_option maxHeartbeats 4000000 in
set_option maxRecDepth 100000 in
theorem x_studios_no_2 (M : Mm) {a s n : Nat} (ha : a < 8) (hs : s < 8) (e : Int32) (ht : f_told (nI a) (nI s) (nI n) e = true) {i : Nat} (hin : i + 4 * n ≤ 80) (hm : decide (M.1 (22 + 2 * s) 1 = -1) = false) (hh : f_holds (M.1 (22 + 2 * s) 2) (nI i) (nI n * 4) = true) (hall : allB (stB M s i) n = false) : AQ mX11_studios 5 [.ref 0, .int (nI a), .int (nI s), .int (nI i), .int (nI n), .int e, .int 2] M (some (.int (-1000001))) (SQ M (M.1 0 12)) := by
  refine AM_ofF (by decide +kernel) (Nat.le_of_ble_eq_true rfl) (fun X V C _ _ => ?_)
  show AW X V mX11_studios.2.2.1 T0 M 0 0 _ 0 [(0, .ref 0), (1, .int (nI a)), (2, .int (nI s)), (3, .int (nI i)), (4, .int (nI n)), (5, .int e), (6, .int 2)] []
  refine ar_iload_n (n := 1) C dX11_studios_0 rfl rfl ?_
  refine ar_iload_n (n := 2) C dX11_studios_1 rfl rfl ?_
  refine ar_iload (n := 4) C dX11_studios_2 rfl ?_
  refine ar_iload (n := 5) C dX11_studios_4 rfl ?_
  refine cS1 (ar := [.int (nI a), .int (nI s), .int (nI n), .int e]) (st := []) C lkX11_311 (k_told M (nI a) (nI s) (nI n) e) (by decide) rfl (Nat.le_of_ble_eq_true rfl) rfl dX11_studios_6 ?_
  refine ar_if_eqB (tgt := 22) C dX11_studios_9 (by decide) (fun c_1 => False.elim (Bool.noConfusion (ht.symm.trans c_1))) (fun _ => ?_)
  refine ar_iload (n := 6) C dX11_studios_12 rfl ?_
  refine ar_iconst (v := 0) C dX11_studios_14 (by decide) ?_
  refine ar_iconst (v := 2) C dX11_studios_15 (by decide) ?_
  refine cS1 (ar := [.int 2, .int 0, .int 2]) (st := []) C lkX11_94 (k_within M 2 0 2) (by decide) rfl (Nat.le_of_ble_eq_true rfl) rfl dX11_studios_16 ?_
  refine ar_if_neB (tgt := 25) C dX11_studios_19 (by decide) (fun _ => ?_) (fun c_2 => False.elim (Bool.noConfusion ((show f_in 2 0 2 = true by decide).symm.trans c_2)))
  refine ar_aload_n (n := 0) C dX11_studios_25 rfl rfl ?_
  refine ar_iload_n (n := 2) C dX11_studios_26 rfl rfl ?_
  refine ar_iload_n (n := 3) C dX11_studios_27 rfl rfl ?_
  refine ar_iload (n := 4) C dX11_studios_28 rfl ?_
  refine cV1q (ar := [.int (nI s), .int (nI i), .int (nI n)]) (st := []) C lkX11_314 kd_0 (r_false M hs hin hm hh hall) (by decide) rfl (Nat.le_of_ble_eq_true rfl) rfl dX11_studios_30 (fun M_3 h_4 => ?_)
  refine ar_istore (als' := [(7, .int (-1000001)), (0, .ref 0), (1, .int (nI a)), (2, .int (nI s)), (3, .int (nI i)), (4, .int (nI n)), (5, .int e), (6, .int 2)]) C dX11_studios_33 (by decide) rfl ?_
  refine ar_iload (n := 0) C dX11_studios_35 rfl ?_
  refine ar_if_eq (tgt := 43) C dX11_studios_37 (by decide) (fun c_5 => absurd c_5 (by decide)) (fun _ => ?_)
  refine ar_iload (n := 0) C dX11_studios_40 rfl ?_
  exact ar_ireturn C rfl dX11_studios_42 ⟨rfl, rfl, Oc_SQ h_4⟩
/-- the same, from any memory that differs in cell 19 alone -/
theorem Oc_tr {c : Nat} {M M1 M2 : Mm} (h1 : Oc c M M1) (h2 : Oc c M1 M2) : Oc c M M2 := ⟨fun k hk => (h2.1 k hk).trans (h1.1 k hk), h2.2.trans h1.2⟩
theorem sm_O {M M1 : Mm} (h : Oc 19 M M1) (a s i N : Nat) : sm M1 a s i N = sm M a s i N := by
  funext k
  obtain ⟨e1, e2, e3⟩ := Oc_H h a
  obtain ⟨e4, e5, e6⟩ := Oc_T h
  show mfs (sd (M1.1 (23 + 2 * s)) (i + 4 * k)) (cH M1 a) (cX M1 a) (cY M1 a) (cTX M1) (cTY M1) (cTZ M1) N = _
  rw [e1, e2, e3, e4, e5, e6, h.1 (23 + 2 * s) (by omega)]
theorem sdm_O {M M1 : Mm} (h : Oc 19 M M1) (a s i N : Nat) (e : Int32) : sdm M1 a s i N e = sdm M a s i N e := by
  funext k
  obtain ⟨e1, e2, e3⟩ := Oc_H h a
  obtain ⟨e4, e5, e6⟩ := Oc_T h
  show allB (mdB (sd (M1.1 (23 + 2 * s)) (i + 4 * k)) (cH M1 a) (cX M1 a) (cY M1 a) (cTX M1) (cTY M1) (cTZ M1) e) N = _
  rw [e1, e2, e3, e4, e5, e6, h.1 (23 + 2 * s) (by omega)]
abbrev noB (M : Mm) (a s i n : Nat) (e : Int32) : Nat → Bool := fun t => !decide (cH M a t = 0) && allB (fun k => !(snr M a s i e t k)) n
theorem noB_O {M M1 : Mm} (h : Oc 19 M M1) (a s i n : Nat) (e : Int32) : noB M1 a s i n e = noB M a s i n e := by
  funext t
  obtain ⟨e1, e2, e3⟩ := Oc_H h a
  obtain ⟨e4, e5, e6⟩ := Oc_T h
  show (!decide (cH M1 a t = 0) && allB (fun k => !(nrB (sd (M1.1 (23 + 2 * s)) (i + 4 * k)) (cH M1 a) (cX M1 a) (cY M1 a) (cTX M1) (cTY M1) (cTZ M1) e t)) n) = _
  rw [e1, e2, e3, e4, e5, e6, h.1 (23 + 2 * s) (by omega)]
theorem k_bestO (M M1 : Mm) (h : Oc 19 M M1) {a s i n N : Nat} (ha : a < 8) (hs : s < 8) (hin : i + 4 * n ≤ 80) (hN : M.1 0 3 = nI N) (hN24 : N ≤ 24) (hn1 : 1 ≤ n) : AQ mX11_bestStudio 4 [.ref 0, .ref (62 + 4 * a), .int (nI s), .int (nI i), .int (nI n)] M1 (some (.int (nI (bst (sm M a s i N) (n - 1))))) (Oc 19 M) := by
  have k := k_best M1 ha hs hin (Oc_N h hN) hN24 hn1
  rw [sm_O h] at k
  exact AQ_wk k (fun M' h' => Oc_tr h h')
theorem k_thatO (M M1 : Mm) (h : Oc 19 M M1) {a s i n N : Nat} (ha : a < 8) (hs : s < 8) (hin : i + 4 * n ≤ 80) (hN : M.1 0 3 = nI N) (hN24 : N ≤ 24) (e : Int32) : AQ mX11_studiosThatMade 4 [.ref 0, .ref (62 + 4 * a), .int (nI s), .int (nI i), .int (nI n), .int e] M1 (some (.int (nI (cntB (sdm M a s i N e) n)))) (Oc 19 M) := by
  have k := k_thatMade M1 ha hs hin (Oc_N h hN) hN24 e
  rw [sdm_O h] at k
  exact AQ_wk k (fun M' h' => Oc_tr h h')
theorem k_noO (M M1 : Mm) (h : Oc 19 M M1) {a s i n N : Nat} (ha : a < 8) (hs : s < 8) (hin : i + 4 * n ≤ 80) (hN : M.1 0 3 = nI N) (hN24 : N ≤ 24) (e : Int32) : AQ mX11_marksOfNoStudio 4 [.ref 0, .ref (62 + 4 * a), .int (nI s), .int (nI i), .int (nI n), .int e] M1 (some (.int (nI (cntB (noB M a s i n e) N)))) (Oc 19 M) := by
  have k := k_noSt M1 ha hs hin (Oc_N h hN) hN24 e
  have e1 := noB_O h a s i n e
  rw [show (fun t => !decide (cH M1 a t = 0) && allB (fun k => !(snr M1 a s i e t k)) n) = noB M a s i n e from e1] at k
  exact AQ_wk k (fun M' h' => Oc_tr h h')
set_option maxHeartbeats 4000000 in
set_option maxRecDepth 100000 in
theorem x_studios_ok_0 (M : Mm) {a s n : Nat} (ha : a < 8) (hs : s < 8) (e : Int32) (ht : f_told (nI a) (nI s) (nI n) e = true) (hn1 : 1 ≤ n) {i : Nat} (hin : i + 4 * n ≤ 80) (hm : decide (M.1 (22 + 2 * s) 1 = -1) = false) (hh : f_holds (M.1 (22 + 2 * s) 2) (nI i) (nI n * 4) = true) (hall : allB (stB M s i) n = true) {N : Nat} (hN : M.1 0 3 = nI N) (hN24 : N ≤ 24) : AQ mX11_studios 5 [.ref 0, .int (nI a), .int (nI s), .int (nI i), .int (nI n), .int e, .int 0] M (some (.int (nI (bst (sm M a s i N) (n - 1))))) (SQ M 0) := by
  refine AM_ofF (by decide +kernel) (Nat.le_of_ble_eq_true rfl) (fun X V C _ _ => ?_)
  show AW X V mX11_studios.2.2.1 T0 M 0 0 _ 0 [(0, .ref 0), (1, .int (nI a)), (2, .int (nI s)), (3, .int (nI i)), (4, .int (nI n)), (5, .int e), (6, .int 0)] []
  refine ar_iload_n (n := 1) C dX11_studios_0 rfl rfl ?_
  refine ar_iload_n (n := 2) C dX11_studios_1 rfl rfl ?_
  refine ar_iload (n := 4) C dX11_studios_2 rfl ?_
  refine ar_iload (n := 5) C dX11_studios_4 rfl ?_
  refine cS1 (ar := [.int (nI a), .int (nI s), .int (nI n), .int e]) (st := []) C lkX11_311 (k_told M (nI a) (nI s) (nI n) e) (by decide) rfl (Nat.le_of_ble_eq_true rfl) rfl dX11_studios_6 ?_
  refine ar_if_eqB (tgt := 22) C dX11_studios_9 (by decide) (fun c_1 => False.elim (Bool.noConfusion (ht.symm.trans c_1))) (fun _ => ?_)
  refine ar_iload (n := 6) C dX11_studios_12 rfl ?_
  refine ar_iconst (v := 0) C dX11_studios_14 (by decide) ?_
  refine ar_iconst (v := 2) C dX11_studios_15 (by decide) ?_
  refine cS1 (ar := [.int 0, .int 0, .int 2]) (st := []) C lkX11_94 (k_within M 0 0 2) (by decide) rfl (Nat.le_of_ble_eq_true rfl) rfl dX11_studios_16 ?_
  refine ar_if_neB (tgt := 25) C dX11_studios_19 (by decide) (fun _ => ?_) (fun c_2 => False.elim (Bool.noConfusion ((show f_in 0 0 2 = true by decide).symm.trans c_2)))
  refine ar_aload_n (n := 0) C dX11_studios_25 rfl rfl ?_
  refine ar_iload_n (n := 2) C dX11_studios_26 rfl rfl ?_
  refine ar_iload_n (n := 3) C dX11_studios_27 rfl rfl ?_
  refine ar_iload (n := 4) C dX11_studios_28 rfl ?_
  refine cV1q (ar := [.int (nI s), .int (nI i), .int (nI n)]) (st := []) C lkX11_314 kd_0 (r_true M hs hin hm hh hall) (by decide) rfl (Nat.le_of_ble_eq_true rfl) rfl dX11_studios_30 (fun M_3 h_4 => ?_)
  refine ar_istore (als' := [(7, .int 0), (0, .ref 0), (1, .int (nI a)), (2, .int (nI s)), (3, .int (nI i)), (4, .int (nI n)), (5, .int e), (6, .int 0)]) C dX11_studios_33 (by decide) rfl ?_
  refine ar_iload (n := 0) C dX11_studios_35 rfl ?_
  refine ar_if_eq (tgt := 43) C dX11_studios_37 (by decide) (fun _ => ?_) (fun c_5 => absurd c_5 (by decide))
  refine ar_iload (n := 7) C dX11_studios_43 rfl ?_
  refine ar_lookup (tgt := 72) C dX11_studios_45 (by decide) (off := 27) (by decide) (by decide) ?_
  refine ar_aload_n (n := 1) C dX11_studios_72 rfl rfl ?_
  refine ar_aload_n (n := 1) C dX11_studios_73 rfl rfl ?_
  refine ar_aload_n (n := 1) C dX11_studios_74 rfl rfl ?_
  refine ar_getr C flX11_41 rfl kd_0 rf_0_5 dX11_studios_75 ?_
  refine ar_iload_n (n := 2) C dX11_studios_78 rfl rfl ?_
  refine ar_aald (j := a) C kd_8 (by decide) (by decide) rfl ha (rf_traces ha) dX11_studios_79 ?_
  refine ar_iload_n (n := 3) C dX11_studios_80 rfl rfl ?_
  refine ar_iload_n (n := 4) C dX11_studios_81 rfl rfl ?_
  refine ar_iload (n := 5) C dX11_studios_82 rfl ?_
  refine cV1q (ar := [.ref (62 + 4 * a), .int (nI s), .int (nI i), .int (nI n)]) (st := [.ref 0]) C lkX11_329 kd_0 (k_bestO M M_3 h_4 ha hs hin hN hN24 hn1) (by decide) rfl (Nat.le_of_ble_eq_true rfl) rfl dX11_studios_84 (fun M_6 h_7 => ?_)
  refine cV1 (ar := [.int (nI (bst (sm M a s i N) (n - 1)))]) (st := []) C lkX11_107 kd_0 (k_clean M_6 (nI (bst (sm M a s i N) (n - 1)))) (by decide) rfl (Nat.le_of_ble_eq_true rfl) rfl dX11_studios_87 ?_
  exact ar_ireturn C rfl dX11_studios_90 ⟨rfl, rfl, Oc_SQw h_7 0⟩
set_option maxHeartbeats 4000000 in
set_option maxRecDepth 100000 in
theorem x_studios_ok_1 (M : Mm) {a s n : Nat} (ha : a < 8) (hs : s < 8) (e : Int32) (ht : f_told (nI a) (nI s) (nI n) e = true) (hn1 : 1 ≤ n) {i : Nat} (hin : i + 4 * n ≤ 80) (hm : decide (M.1 (22 + 2 * s) 1 = -1) = false) (hh : f_holds (M.1 (22 + 2 * s) 2) (nI i) (nI n * 4) = true) (hall : allB (stB M s i) n = true) {N : Nat} (hN : M.1 0 3 = nI N) (hN24 : N ≤ 24) : AQ mX11_studios 5 [.ref 0, .int (nI a), .int (nI s), .int (nI i), .int (nI n), .int e, .int 1] M (some (.int (nI (cntB (sdm M a s i N e) n)))) (SQ M 0) := by
  refine AM_ofF (by decide +kernel) (Nat.le_of_ble_eq_true rfl) (fun X V C _ _ => ?_)
  show AW X V mX11_studios.2.2.1 T0 M 0 0 _ 0 [(0, .ref 0), (1, .int (nI a)), (2, .int (nI s)), (3, .int (nI i)), (4, .int (nI n)), (5, .int e), (6, .int 1)] []
  refine ar_iload_n (n := 1) C dX11_studios_0 rfl rfl ?_
  refine ar_iload_n (n := 2) C dX11_studios_1 rfl rfl ?_
  refine ar_iload (n := 4) C dX11_studios_2 rfl ?_
  refine ar_iload (n := 5) C dX11_studios_4 rfl ?_
  refine cS1 (ar := [.int (nI a), .int (nI s), .int (nI n), .int e]) (st := []) C lkX11_311 (k_told M (nI a) (nI s) (nI n) e) (by decide) rfl (Nat.le_of_ble_eq_true rfl) rfl dX11_studios_6 ?_
  refine ar_if_eqB (tgt := 22) C dX11_studios_9 (by decide) (fun c_1 => False.elim (Bool.noConfusion (ht.symm.trans c_1))) (fun _ => ?_)
  refine ar_iload (n := 6) C dX11_studios_12 rfl ?_
  refine ar_iconst (v := 0) C dX11_studios_14 (by decide) ?_
  refine ar_iconst (v := 2) C dX11_studios_15 (by decide) ?_
  refine cS1 (ar := [.int 1, .int 0, .int 2]) (st := []) C lkX11_94 (k_within M 1 0 2) (by decide) rfl (Nat.le_of_ble_eq_true rfl) rfl dX11_studios_16 ?_
  refine ar_if_neB (tgt := 25) C dX11_studios_19 (by decide) (fun _ => ?_) (fun c_2 => False.elim (Bool.noConfusion ((show f_in 1 0 2 = true by decide).symm.trans c_2)))
  refine ar_aload_n (n := 0) C dX11_studios_25 rfl rfl ?_
  refine ar_iload_n (n := 2) C dX11_studios_26 rfl rfl ?_
  refine ar_iload_n (n := 3) C dX11_studios_27 rfl rfl ?_
  refine ar_iload (n := 4) C dX11_studios_28 rfl ?_
  refine cV1q (ar := [.int (nI s), .int (nI i), .int (nI n)]) (st := []) C lkX11_314 kd_0 (r_true M hs hin hm hh hall) (by decide) rfl (Nat.le_of_ble_eq_true rfl) rfl dX11_studios_30 (fun M_3 h_4 => ?_)
  refine ar_istore (als' := [(7, .int 0), (0, .ref 0), (1, .int (nI a)), (2, .int (nI s)), (3, .int (nI i)), (4, .int (nI n)), (5, .int e), (6, .int 1)]) C dX11_studios_33 (by decide) rfl ?_
  refine ar_iload (n := 0) C dX11_studios_35 rfl ?_
  refine ar_if_eq (tgt := 43) C dX11_studios_37 (by decide) (fun _ => ?_) (fun c_5 => absurd c_5 (by decide))
  refine ar_iload (n := 7) C dX11_studios_43 rfl ?_
  refine ar_lookup (tgt := 91) C dX11_studios_45 (by decide) (off := 46) (by decide) (by decide) ?_
  refine ar_aload_n (n := 1) C dX11_studios_91 rfl rfl ?_
  refine ar_aload_n (n := 1) C dX11_studios_92 rfl rfl ?_
  refine ar_aload_n (n := 1) C dX11_studios_93 rfl rfl ?_
  refine ar_getr C flX11_41 rfl kd_0 rf_0_5 dX11_studios_94 ?_
  refine ar_iload_n (n := 2) C dX11_studios_97 rfl rfl ?_
  refine ar_aald (j := a) C kd_8 (by decide) (by decide) rfl ha (rf_traces ha) dX11_studios_98 ?_
  refine ar_iload_n (n := 3) C dX11_studios_99 rfl rfl ?_
  refine ar_iload_n (n := 4) C dX11_studios_100 rfl rfl ?_
  refine ar_iload (n := 5) C dX11_studios_101 rfl ?_
  refine ar_iload (n := 6) C dX11_studios_103 rfl ?_
  refine cV1q (ar := [.ref (62 + 4 * a), .int (nI s), .int (nI i), .int (nI n), .int e]) (st := [.ref 0]) C lkX11_333 kd_0 (k_thatO M M_3 h_4 ha hs hin hN hN24 e) (by decide) rfl (Nat.le_of_ble_eq_true rfl) rfl dX11_studios_105 (fun M_6 h_7 => ?_)
  refine cV1 (ar := [.int (nI (cntB (sdm M a s i N e) n))]) (st := []) C lkX11_107 kd_0 (k_clean M_6 (nI (cntB (sdm M a s i N e) n))) (by decide) rfl (Nat.le_of_ble_eq_true rfl) rfl dX11_studios_108 ?_
  exact ar_ireturn C rfl dX11_studios_111 ⟨rfl, rfl, Oc_SQw h_7 0⟩
set_option maxHeartbeats 4000000 in
set_option maxRecDepth 100000 in
theorem x_studios_ok_2 (M : Mm) {a s n : Nat} (ha : a < 8) (hs : s < 8) (e : Int32) (ht : f_told (nI a) (nI s) (nI n) e = true) (hn1 : 1 ≤ n) {i : Nat} (hin : i + 4 * n ≤ 80) (hm : decide (M.1 (22 + 2 * s) 1 = -1) = false) (hh : f_holds (M.1 (22 + 2 * s) 2) (nI i) (nI n * 4) = true) (hall : allB (stB M s i) n = true) {N : Nat} (hN : M.1 0 3 = nI N) (hN24 : N ≤ 24) : AQ mX11_studios 5 [.ref 0, .int (nI a), .int (nI s), .int (nI i), .int (nI n), .int e, .int 2] M (some (.int (nI (cntB (noB M a s i n e) N)))) (SQ M 0) := by
  refine AM_ofF (by decide +kernel) (Nat.le_of_ble_eq_true rfl) (fun X V C _ _ => ?_)
  show AW X V mX11_studios.2.2.1 T0 M 0 0 _ 0 [(0, .ref 0), (1, .int (nI a)), (2, .int (nI s)), (3, .int (nI i)), (4, .int (nI n)), (5, .int e), (6, .int 2)] []
  refine ar_iload_n (n := 1) C dX11_studios_0 rfl rfl ?_
  refine ar_iload_n (n := 2) C dX11_studios_1 rfl rfl ?_
  refine ar_iload (n := 4) C dX11_studios_2 rfl ?_
  refine ar_iload (n := 5) C dX11_studios_4 rfl ?_
  refine cS1 (ar := [.int (nI a), .int (nI s), .int (nI n), .int e]) (st := []) C lkX11_311 (k_told M (nI a) (nI s) (nI n) e) (by decide) rfl (Nat.le_of_ble_eq_true rfl) rfl dX11_studios_6 ?_
  refine ar_if_eqB (tgt := 22) C dX11_studios_9 (by decide) (fun c_1 => False.elim (Bool.noConfusion (ht.symm.trans c_1))) (fun _ => ?_)
  refine ar_iload (n := 6) C dX11_studios_12 rfl ?_
  refine ar_iconst (v := 0) C dX11_studios_14 (by decide) ?_
  refine ar_iconst (v := 2) C dX11_studios_15 (by decide) ?_
  refine cS1 (ar := [.int 2, .int 0, .int 2]) (st := []) C lkX11_94 (k_within M 2 0 2) (by decide) rfl (Nat.le_of_ble_eq_true rfl) rfl dX11_studios_16 ?_
  refine ar_if_neB (tgt := 25) C dX11_studios_19 (by decide) (fun _ => ?_) (fun c_2 => False.elim (Bool.noConfusion ((show f_in 2 0 2 = true by decide).symm.trans c_2)))
  refine ar_aload_n (n := 0) C dX11_studios_25 rfl rfl ?_
  refine ar_iload_n (n := 2) C dX11_studios_26 rfl rfl ?_
  refine ar_iload_n (n := 3) C dX11_studios_27 rfl rfl ?_
  refine ar_iload (n := 4) C dX11_studios_28 rfl ?_
  refine cV1q (ar := [.int (nI s), .int (nI i), .int (nI n)]) (st := []) C lkX11_314 kd_0 (r_true M hs hin hm hh hall) (by decide) rfl (Nat.le_of_ble_eq_true rfl) rfl dX11_studios_30 (fun M_3 h_4 => ?_)
  refine ar_istore (als' := [(7, .int 0), (0, .ref 0), (1, .int (nI a)), (2, .int (nI s)), (3, .int (nI i)), (4, .int (nI n)), (5, .int e), (6, .int 2)]) C dX11_studios_33 (by decide) rfl ?_
  refine ar_iload (n := 0) C dX11_studios_35 rfl ?_
  refine ar_if_eq (tgt := 43) C dX11_studios_37 (by decide) (fun _ => ?_) (fun c_5 => absurd c_5 (by decide))
  refine ar_iload (n := 7) C dX11_studios_43 rfl ?_
  refine ar_lookup (tgt := 112) C dX11_studios_45 (by decide) (off := 67) (by decide) (by decide) ?_
  refine ar_aload_n (n := 1) C dX11_studios_112 rfl rfl ?_
  refine ar_aload_n (n := 1) C dX11_studios_113 rfl rfl ?_
  refine ar_aload_n (n := 1) C dX11_studios_114 rfl rfl ?_
  refine ar_getr C flX11_41 rfl kd_0 rf_0_5 dX11_studios_115 ?_
  refine ar_iload_n (n := 2) C dX11_studios_118 rfl rfl ?_
  refine ar_aald (j := a) C kd_8 (by decide) (by decide) rfl ha (rf_traces ha) dX11_studios_119 ?_
  refine ar_iload_n (n := 3) C dX11_studios_120 rfl rfl ?_
  refine ar_iload_n (n := 4) C dX11_studios_121 rfl rfl ?_
  refine ar_iload (n := 5) C dX11_studios_122 rfl ?_
  refine ar_iload (n := 6) C dX11_studios_124 rfl ?_
  refine cV1q (ar := [.ref (62 + 4 * a), .int (nI s), .int (nI i), .int (nI n), .int e]) (st := [.ref 0]) C lkX11_337 kd_0 (k_noO M M_3 h_4 ha hs hin hN hN24 e) (by decide) rfl (Nat.le_of_ble_eq_true rfl) rfl dX11_studios_126 (fun M_6 h_7 => ?_)
  refine cV1 (ar := [.int (nI (cntB (noB M a s i n e) N))]) (st := []) C lkX11_107 kd_0 (k_clean M_6 (nI (cntB (noB M a s i n e) N))) (by decide) rfl (Nat.le_of_ble_eq_true rfl) rfl dX11_studios_129 ?_
  exact ar_ireturn C rfl dX11_studios_132 ⟨rfl, rfl, Oc_SQw h_7 0⟩
