/-! LENSTABLE: its public methods, 2 -/
set_option maxHeartbeats 4000000 in
set_option maxRecDepth 100000 in
theorem x_picture_bad (M : Mm) (t w : Int32)  (hbad : (f_in t 0 (M.1 0 3 - 1) && f_in w 0 8) = false) : AX mX11_picture 3 [.ref 0, .int t, .int w] M (some (.int (-1000001))) M := by
  refine AM_ofF (by decide +kernel) (Nat.le_of_ble_eq_true rfl) (fun X V C _ _ => ?_)
  show AW X V mX11_picture.2.2.1 T0 M 0 0 _ 0 [(0, .ref 0), (1, .int t), (2, .int w)] []
  refine ar_aload_n (n := 0) C dX11_picture_0 rfl rfl ?_
  refine ar_iload_n (n := 1) C dX11_picture_1 rfl rfl ?_
  refine cV1 (ar := [.int t]) (st := []) C lkX11_159 kd_0 (k_isThing M t) (by decide) rfl (Nat.le_of_ble_eq_true rfl) rfl dX11_picture_2 ?_
  refine ar_if_eqB (tgt := 18) C dX11_picture_5 (by decide) (fun c_1 => ?_) (fun c_1 => ?_)
  · refine ar_ldc C kcX11_98 dX11_picture_18 ?_
    exact ar_ireturn C rfl dX11_picture_20 ⟨rfl, rfl, rfl⟩
  · refine ar_iload_n (n := 2) C dX11_picture_8 rfl rfl ?_
    refine ar_iconst (v := 0) C dX11_picture_9 (by decide) ?_
    refine ar_bipush (v := 8) C dX11_picture_10 (by decide) ?_
    refine cS1 (ar := [.int w, .int 0, .int 8]) (st := []) C lkX11_94 (k_within M w 0 8) (by decide) rfl (Nat.le_of_ble_eq_true rfl) rfl dX11_picture_12 ?_
    refine ar_if_neB (tgt := 21) C dX11_picture_15 (by decide) (fun c_2 => ?_) (fun c_2 => ?_)
    · exact absurd hbad (by first | (rw [c_1]; decide) | simp [*])
    · refine ar_ldc C kcX11_98 dX11_picture_18 ?_
      exact ar_ireturn C rfl dX11_picture_20 ⟨rfl, rfl, rfl⟩
set_option maxHeartbeats 4000000 in
set_option maxRecDepth 100000 in
theorem x_picture_0 (M : Mm) {i N : Nat} (hN : M.1 0 3 = nI N) (hi : i < N) (hN24 : N ≤ 24) : AX mX11_picture 3 [.ref 0, .int (nI i), .int 0] M (some (.int (M.1 (38 + i) 0))) (pic M (M.1 3) (M.1 4) (M.1 (38 + i) 0) (M.1 (38 + i) 1) (M.1 (38 + i) 2)) := by
  refine AM_ofF (by decide +kernel) (Nat.le_of_ble_eq_true rfl) (fun X V C _ _ => ?_)
  show AW X V mX11_picture.2.2.1 T0 M 0 0 _ 0 [(0, .ref 0), (1, .int (nI i)), (2, .int 0)] []
  refine ar_aload_n (n := 0) C dX11_picture_0 rfl rfl ?_
  refine ar_iload_n (n := 1) C dX11_picture_1 rfl rfl ?_
  refine cV1 (ar := [.int (nI i)]) (st := []) C lkX11_159 kd_0 (k_isThing M (nI i)) (by decide) rfl (Nat.le_of_ble_eq_true rfl) rfl dX11_picture_2 ?_
  refine ar_if_eqB (tgt := 18) C dX11_picture_5 (by decide) (fun c_1 => False.elim (Bool.noConfusion ((inN hN hi hN24).symm.trans c_1))) (fun _ => ?_)
  refine ar_iload_n (n := 2) C dX11_picture_8 rfl rfl ?_
  refine ar_iconst (v := 0) C dX11_picture_9 (by decide) ?_
  refine ar_bipush (v := 8) C dX11_picture_10 (by decide) ?_
  refine cS1 (ar := [.int 0, .int 0, .int 8]) (st := []) C lkX11_94 (k_within M 0 0 8) (by decide) rfl (Nat.le_of_ble_eq_true rfl) rfl dX11_picture_12 ?_
  refine ar_if_neB (tgt := 21) C dX11_picture_15 (by decide) (fun _ => ?_) (fun c_2 => False.elim (Bool.noConfusion ((show f_in 0 0 8 = true by decide).symm.trans c_2)))
  refine ar_aload_n (n := 0) C dX11_picture_21 rfl rfl ?_
  refine ar_getr C flX11_24 rfl kd_0 rf_0_2 dX11_picture_22 ?_
  refine ar_iload_n (n := 1) C dX11_picture_25 rfl rfl ?_
  refine ar_aald (j := i) C kd_6 (by decide) (by decide) rfl (show i < 24 by omega) (rf_things (show i < 24 by omega)) dX11_picture_26 ?_
  refine ar_astore_n (als' := [(3, .ref (38 + i)), (0, .ref 0), (1, .int (nI i)), (2, .int 0)]) C dX11_picture_27 rfl (by decide) rfl ?_
  refine ar_aload_n (n := 1) C dX11_picture_28 rfl rfl ?_
  refine ar_getr C flX11_35 rfl kd_0 rf_0_4 dX11_picture_29 ?_
  refine ar_aload_n (n := 1) C dX11_picture_32 rfl rfl ?_
  refine ar_getr C flX11_18 rfl kd_0 rf_0_1 dX11_picture_33 ?_
  refine ar_aload_n (n := 0) C dX11_picture_36 rfl rfl ?_
  refine cV0 (ar := [.ref 2, .ref (38 + i)]) (st := []) C lkX11_162 kd_7 (k_take M (i := i) (by omega) rfl rfl rfl rfl rfl) (by decide) rfl (Nat.le_of_ble_eq_true rfl) rfl dX11_picture_37 ?_
  refine ar_iload_n (n := 3) C dX11_picture_40 rfl rfl ?_
  refine ar_tableIn (tgt := 88) C dX11_picture_41 (by decide) (by decide) rfl (by decide) ?_
  refine ar_aload_n (n := 0) C dX11_picture_88 rfl rfl ?_
  refine ar_geti C flX11_166 (kd_thing (show i < 24 by omega)) dX11_picture_89 ?_
  exact ar_ireturn C rfl dX11_picture_92 ⟨by simp [pic, wi]; try omega, rfl, rfl⟩
set_option maxHeartbeats 4000000 in
set_option maxRecDepth 100000 in
theorem x_picture_1 (M : Mm) {i N : Nat} (hN : M.1 0 3 = nI N) (hi : i < N) (hN24 : N ≤ 24) : AX mX11_picture 3 [.ref 0, .int (nI i), .int 1] M (some (.int (M.1 (38 + i) 1))) (pic M (M.1 3) (M.1 4) (M.1 (38 + i) 0) (M.1 (38 + i) 1) (M.1 (38 + i) 2)) := by
  refine AM_ofF (by decide +kernel) (Nat.le_of_ble_eq_true rfl) (fun X V C _ _ => ?_)
  show AW X V mX11_picture.2.2.1 T0 M 0 0 _ 0 [(0, .ref 0), (1, .int (nI i)), (2, .int 1)] []
  refine ar_aload_n (n := 0) C dX11_picture_0 rfl rfl ?_
  refine ar_iload_n (n := 1) C dX11_picture_1 rfl rfl ?_
  refine cV1 (ar := [.int (nI i)]) (st := []) C lkX11_159 kd_0 (k_isThing M (nI i)) (by decide) rfl (Nat.le_of_ble_eq_true rfl) rfl dX11_picture_2 ?_
  refine ar_if_eqB (tgt := 18) C dX11_picture_5 (by decide) (fun c_1 => False.elim (Bool.noConfusion ((inN hN hi hN24).symm.trans c_1))) (fun _ => ?_)
  refine ar_iload_n (n := 2) C dX11_picture_8 rfl rfl ?_
  refine ar_iconst (v := 0) C dX11_picture_9 (by decide) ?_
  refine ar_bipush (v := 8) C dX11_picture_10 (by decide) ?_
  refine cS1 (ar := [.int 1, .int 0, .int 8]) (st := []) C lkX11_94 (k_within M 1 0 8) (by decide) rfl (Nat.le_of_ble_eq_true rfl) rfl dX11_picture_12 ?_
  refine ar_if_neB (tgt := 21) C dX11_picture_15 (by decide) (fun _ => ?_) (fun c_2 => False.elim (Bool.noConfusion ((show f_in 1 0 8 = true by decide).symm.trans c_2)))
  refine ar_aload_n (n := 0) C dX11_picture_21 rfl rfl ?_
  refine ar_getr C flX11_24 rfl kd_0 rf_0_2 dX11_picture_22 ?_
  refine ar_iload_n (n := 1) C dX11_picture_25 rfl rfl ?_
  refine ar_aald (j := i) C kd_6 (by decide) (by decide) rfl (show i < 24 by omega) (rf_things (show i < 24 by omega)) dX11_picture_26 ?_
  refine ar_astore_n (als' := [(3, .ref (38 + i)), (0, .ref 0), (1, .int (nI i)), (2, .int 1)]) C dX11_picture_27 rfl (by decide) rfl ?_
  refine ar_aload_n (n := 1) C dX11_picture_28 rfl rfl ?_
  refine ar_getr C flX11_35 rfl kd_0 rf_0_4 dX11_picture_29 ?_
  refine ar_aload_n (n := 1) C dX11_picture_32 rfl rfl ?_
  refine ar_getr C flX11_18 rfl kd_0 rf_0_1 dX11_picture_33 ?_
  refine ar_aload_n (n := 0) C dX11_picture_36 rfl rfl ?_
  refine cV0 (ar := [.ref 2, .ref (38 + i)]) (st := []) C lkX11_162 kd_7 (k_take M (i := i) (by omega) rfl rfl rfl rfl rfl) (by decide) rfl (Nat.le_of_ble_eq_true rfl) rfl dX11_picture_37 ?_
  refine ar_iload_n (n := 3) C dX11_picture_40 rfl rfl ?_
  refine ar_tableIn (tgt := 93) C dX11_picture_41 (by decide) (by decide) rfl (by decide) ?_
  refine ar_aload_n (n := 0) C dX11_picture_93 rfl rfl ?_
  refine ar_geti C flX11_169 (kd_thing (show i < 24 by omega)) dX11_picture_94 ?_
  exact ar_ireturn C rfl dX11_picture_97 ⟨by simp [pic, wi]; try omega, rfl, rfl⟩
set_option maxHeartbeats 4000000 in
set_option maxRecDepth 100000 in
theorem x_picture_2 (M : Mm) {i N : Nat} (hN : M.1 0 3 = nI N) (hi : i < N) (hN24 : N ≤ 24) : AX mX11_picture 3 [.ref 0, .int (nI i), .int 2] M (some (.int (M.1 (38 + i) 2))) (pic M (M.1 3) (M.1 4) (M.1 (38 + i) 0) (M.1 (38 + i) 1) (M.1 (38 + i) 2)) := by
  refine AM_ofF (by decide +kernel) (Nat.le_of_ble_eq_true rfl) (fun X V C _ _ => ?_)
  show AW X V mX11_picture.2.2.1 T0 M 0 0 _ 0 [(0, .ref 0), (1, .int (nI i)), (2, .int 2)] []
  refine ar_aload_n (n := 0) C dX11_picture_0 rfl rfl ?_
  refine ar_iload_n (n := 1) C dX11_picture_1 rfl rfl ?_
  refine cV1 (ar := [.int (nI i)]) (st := []) C lkX11_159 kd_0 (k_isThing M (nI i)) (by decide) rfl (Nat.le_of_ble_eq_true rfl) rfl dX11_picture_2 ?_
  refine ar_if_eqB (tgt := 18) C dX11_picture_5 (by decide) (fun c_1 => False.elim (Bool.noConfusion ((inN hN hi hN24).symm.trans c_1))) (fun _ => ?_)
  refine ar_iload_n (n := 2) C dX11_picture_8 rfl rfl ?_
  refine ar_iconst (v := 0) C dX11_picture_9 (by decide) ?_
  refine ar_bipush (v := 8) C dX11_picture_10 (by decide) ?_
  refine cS1 (ar := [.int 2, .int 0, .int 8]) (st := []) C lkX11_94 (k_within M 2 0 8) (by decide) rfl (Nat.le_of_ble_eq_true rfl) rfl dX11_picture_12 ?_
  refine ar_if_neB (tgt := 21) C dX11_picture_15 (by decide) (fun _ => ?_) (fun c_2 => False.elim (Bool.noConfusion ((show f_in 2 0 8 = true by decide).symm.trans c_2)))
  refine ar_aload_n (n := 0) C dX11_picture_21 rfl rfl ?_
  refine ar_getr C flX11_24 rfl kd_0 rf_0_2 dX11_picture_22 ?_
  refine ar_iload_n (n := 1) C dX11_picture_25 rfl rfl ?_
  refine ar_aald (j := i) C kd_6 (by decide) (by decide) rfl (show i < 24 by omega) (rf_things (show i < 24 by omega)) dX11_picture_26 ?_
  refine ar_astore_n (als' := [(3, .ref (38 + i)), (0, .ref 0), (1, .int (nI i)), (2, .int 2)]) C dX11_picture_27 rfl (by decide) rfl ?_
  refine ar_aload_n (n := 1) C dX11_picture_28 rfl rfl ?_
  refine ar_getr C flX11_35 rfl kd_0 rf_0_4 dX11_picture_29 ?_
  refine ar_aload_n (n := 1) C dX11_picture_32 rfl rfl ?_
  refine ar_getr C flX11_18 rfl kd_0 rf_0_1 dX11_picture_33 ?_
  refine ar_aload_n (n := 0) C dX11_picture_36 rfl rfl ?_
  refine cV0 (ar := [.ref 2, .ref (38 + i)]) (st := []) C lkX11_162 kd_7 (k_take M (i := i) (by omega) rfl rfl rfl rfl rfl) (by decide) rfl (Nat.le_of_ble_eq_true rfl) rfl dX11_picture_37 ?_
  refine ar_iload_n (n := 3) C dX11_picture_40 rfl rfl ?_
  refine ar_tableIn (tgt := 98) C dX11_picture_41 (by decide) (by decide) rfl (by decide) ?_
  refine ar_aload_n (n := 0) C dX11_picture_98 rfl rfl ?_
  refine ar_geti C flX11_172 (kd_thing (show i < 24 by omega)) dX11_picture_99 ?_
  exact ar_ireturn C rfl dX11_picture_102 ⟨by simp [pic, wi]; try omega, rfl, rfl⟩
set_option maxHeartbeats 4000000 in
set_option maxRecDepth 100000 in
theorem x_picture_3 (M : Mm) {i N : Nat} (hN : M.1 0 3 = nI N) (hi : i < N) (hN24 : N ≤ 24) : AX mX11_picture 3 [.ref 0, .int (nI i), .int 3] M (some (.int (f_by (-(M.1 (38 + i) 0) * M.1 3 2) (M.1 (38 + i) 2)))) (pic M (M.1 3) (M.1 4) (M.1 (38 + i) 0) (M.1 (38 + i) 1) (M.1 (38 + i) 2)) := by
  refine AM_ofF (by decide +kernel) (Nat.le_of_ble_eq_true rfl) (fun X V C _ _ => ?_)
  show AW X V mX11_picture.2.2.1 T0 M 0 0 _ 0 [(0, .ref 0), (1, .int (nI i)), (2, .int 3)] []
  refine ar_aload_n (n := 0) C dX11_picture_0 rfl rfl ?_
  refine ar_iload_n (n := 1) C dX11_picture_1 rfl rfl ?_
  refine cV1 (ar := [.int (nI i)]) (st := []) C lkX11_159 kd_0 (k_isThing M (nI i)) (by decide) rfl (Nat.le_of_ble_eq_true rfl) rfl dX11_picture_2 ?_
  refine ar_if_eqB (tgt := 18) C dX11_picture_5 (by decide) (fun c_1 => False.elim (Bool.noConfusion ((inN hN hi hN24).symm.trans c_1))) (fun _ => ?_)
  refine ar_iload_n (n := 2) C dX11_picture_8 rfl rfl ?_
  refine ar_iconst (v := 0) C dX11_picture_9 (by decide) ?_
  refine ar_bipush (v := 8) C dX11_picture_10 (by decide) ?_
  refine cS1 (ar := [.int 3, .int 0, .int 8]) (st := []) C lkX11_94 (k_within M 3 0 8) (by decide) rfl (Nat.le_of_ble_eq_true rfl) rfl dX11_picture_12 ?_
  refine ar_if_neB (tgt := 21) C dX11_picture_15 (by decide) (fun _ => ?_) (fun c_2 => False.elim (Bool.noConfusion ((show f_in 3 0 8 = true by decide).symm.trans c_2)))
  refine ar_aload_n (n := 0) C dX11_picture_21 rfl rfl ?_
  refine ar_getr C flX11_24 rfl kd_0 rf_0_2 dX11_picture_22 ?_
  refine ar_iload_n (n := 1) C dX11_picture_25 rfl rfl ?_
  refine ar_aald (j := i) C kd_6 (by decide) (by decide) rfl (show i < 24 by omega) (rf_things (show i < 24 by omega)) dX11_picture_26 ?_
  refine ar_astore_n (als' := [(3, .ref (38 + i)), (0, .ref 0), (1, .int (nI i)), (2, .int 3)]) C dX11_picture_27 rfl (by decide) rfl ?_
  refine ar_aload_n (n := 1) C dX11_picture_28 rfl rfl ?_
  refine ar_getr C flX11_35 rfl kd_0 rf_0_4 dX11_picture_29 ?_
  refine ar_aload_n (n := 1) C dX11_picture_32 rfl rfl ?_
  refine ar_getr C flX11_18 rfl kd_0 rf_0_1 dX11_picture_33 ?_
  refine ar_aload_n (n := 0) C dX11_picture_36 rfl rfl ?_
  refine cV0 (ar := [.ref 2, .ref (38 + i)]) (st := []) C lkX11_162 kd_7 (k_take M (i := i) (by omega) rfl rfl rfl rfl rfl) (by decide) rfl (Nat.le_of_ble_eq_true rfl) rfl dX11_picture_37 ?_
  refine ar_iload_n (n := 3) C dX11_picture_40 rfl rfl ?_
  refine ar_tableIn (tgt := 103) C dX11_picture_41 (by decide) (by decide) rfl (by decide) ?_
  refine ar_aload_n (n := 1) C dX11_picture_103 rfl rfl ?_
  refine ar_getr C flX11_35 rfl kd_0 rf_0_4 dX11_picture_104 ?_
  refine ar_geti C flX11_175 kd_7 dX11_picture_107 ?_
  exact ar_ireturn C rfl dX11_picture_110 ⟨by simp [pic, wi], rfl, rfl⟩
set_option maxHeartbeats 4000000 in
set_option maxRecDepth 100000 in
theorem x_picture_4 (M : Mm) {i N : Nat} (hN : M.1 0 3 = nI N) (hi : i < N) (hN24 : N ≤ 24) : AX mX11_picture 3 [.ref 0, .int (nI i), .int 4] M (some (.int (f_colc (f_by (-(M.1 (38 + i) 0) * M.1 3 2) (M.1 (38 + i) 2))))) (pic M (M.1 3) (M.1 4) (M.1 (38 + i) 0) (M.1 (38 + i) 1) (M.1 (38 + i) 2)) := by
  refine AM_ofF (by decide +kernel) (Nat.le_of_ble_eq_true rfl) (fun X V C _ _ => ?_)
  show AW X V mX11_picture.2.2.1 T0 M 0 0 _ 0 [(0, .ref 0), (1, .int (nI i)), (2, .int 4)] []
  refine ar_aload_n (n := 0) C dX11_picture_0 rfl rfl ?_
  refine ar_iload_n (n := 1) C dX11_picture_1 rfl rfl ?_
  refine cV1 (ar := [.int (nI i)]) (st := []) C lkX11_159 kd_0 (k_isThing M (nI i)) (by decide) rfl (Nat.le_of_ble_eq_true rfl) rfl dX11_picture_2 ?_
  refine ar_if_eqB (tgt := 18) C dX11_picture_5 (by decide) (fun c_1 => False.elim (Bool.noConfusion ((inN hN hi hN24).symm.trans c_1))) (fun _ => ?_)
  refine ar_iload_n (n := 2) C dX11_picture_8 rfl rfl ?_
  refine ar_iconst (v := 0) C dX11_picture_9 (by decide) ?_
  refine ar_bipush (v := 8) C dX11_picture_10 (by decide) ?_
  refine cS1 (ar := [.int 4, .int 0, .int 8]) (st := []) C lkX11_94 (k_within M 4 0 8) (by decide) rfl (Nat.le_of_ble_eq_true rfl) rfl dX11_picture_12 ?_
  refine ar_if_neB (tgt := 21) C dX11_picture_15 (by decide) (fun _ => ?_) (fun c_2 => False.elim (Bool.noConfusion ((show f_in 4 0 8 = true by decide).symm.trans c_2)))
  refine ar_aload_n (n := 0) C dX11_picture_21 rfl rfl ?_
  refine ar_getr C flX11_24 rfl kd_0 rf_0_2 dX11_picture_22 ?_
  refine ar_iload_n (n := 1) C dX11_picture_25 rfl rfl ?_
  refine ar_aald (j := i) C kd_6 (by decide) (by decide) rfl (show i < 24 by omega) (rf_things (show i < 24 by omega)) dX11_picture_26 ?_
  refine ar_astore_n (als' := [(3, .ref (38 + i)), (0, .ref 0), (1, .int (nI i)), (2, .int 4)]) C dX11_picture_27 rfl (by decide) rfl ?_
  refine ar_aload_n (n := 1) C dX11_picture_28 rfl rfl ?_
  refine ar_getr C flX11_35 rfl kd_0 rf_0_4 dX11_picture_29 ?_
  refine ar_aload_n (n := 1) C dX11_picture_32 rfl rfl ?_
  refine ar_getr C flX11_18 rfl kd_0 rf_0_1 dX11_picture_33 ?_
  refine ar_aload_n (n := 0) C dX11_picture_36 rfl rfl ?_
  refine cV0 (ar := [.ref 2, .ref (38 + i)]) (st := []) C lkX11_162 kd_7 (k_take M (i := i) (by omega) rfl rfl rfl rfl rfl) (by decide) rfl (Nat.le_of_ble_eq_true rfl) rfl dX11_picture_37 ?_
  refine ar_iload_n (n := 3) C dX11_picture_40 rfl rfl ?_
  refine ar_tableIn (tgt := 111) C dX11_picture_41 (by decide) (by decide) rfl (by decide) ?_
  refine ar_aload_n (n := 1) C dX11_picture_111 rfl rfl ?_
  refine ar_getr C flX11_35 rfl kd_0 rf_0_4 dX11_picture_112 ?_
  refine ar_geti C flX11_178 kd_7 dX11_picture_115 ?_
  exact ar_ireturn C rfl dX11_picture_118 ⟨by simp [pic, wi], rfl, rfl⟩
set_option maxHeartbeats 4000000 in
set_option maxRecDepth 100000 in
theorem x_picture_5 (M : Mm) {i N : Nat} (hN : M.1 0 3 = nI N) (hi : i < N) (hN24 : N ≤ 24) : AX mX11_picture 3 [.ref 0, .int (nI i), .int 5] M (some (.int (f_far (M.1 4) (M.1 (38 + i) 0) (M.1 (38 + i) 2) (M.1 3 2)))) (pic M (M.1 3) (M.1 4) (M.1 (38 + i) 0) (M.1 (38 + i) 1) (M.1 (38 + i) 2)) := by
  refine AM_ofF (by decide +kernel) (Nat.le_of_ble_eq_true rfl) (fun X V C _ _ => ?_)
  show AW X V mX11_picture.2.2.1 T0 M 0 0 _ 0 [(0, .ref 0), (1, .int (nI i)), (2, .int 5)] []
  refine ar_aload_n (n := 0) C dX11_picture_0 rfl rfl ?_
  refine ar_iload_n (n := 1) C dX11_picture_1 rfl rfl ?_
  refine cV1 (ar := [.int (nI i)]) (st := []) C lkX11_159 kd_0 (k_isThing M (nI i)) (by decide) rfl (Nat.le_of_ble_eq_true rfl) rfl dX11_picture_2 ?_
  refine ar_if_eqB (tgt := 18) C dX11_picture_5 (by decide) (fun c_1 => False.elim (Bool.noConfusion ((inN hN hi hN24).symm.trans c_1))) (fun _ => ?_)
  refine ar_iload_n (n := 2) C dX11_picture_8 rfl rfl ?_
  refine ar_iconst (v := 0) C dX11_picture_9 (by decide) ?_
  refine ar_bipush (v := 8) C dX11_picture_10 (by decide) ?_
  refine cS1 (ar := [.int 5, .int 0, .int 8]) (st := []) C lkX11_94 (k_within M 5 0 8) (by decide) rfl (Nat.le_of_ble_eq_true rfl) rfl dX11_picture_12 ?_
  refine ar_if_neB (tgt := 21) C dX11_picture_15 (by decide) (fun _ => ?_) (fun c_2 => False.elim (Bool.noConfusion ((show f_in 5 0 8 = true by decide).symm.trans c_2)))
  refine ar_aload_n (n := 0) C dX11_picture_21 rfl rfl ?_
  refine ar_getr C flX11_24 rfl kd_0 rf_0_2 dX11_picture_22 ?_
  refine ar_iload_n (n := 1) C dX11_picture_25 rfl rfl ?_
  refine ar_aald (j := i) C kd_6 (by decide) (by decide) rfl (show i < 24 by omega) (rf_things (show i < 24 by omega)) dX11_picture_26 ?_
  refine ar_astore_n (als' := [(3, .ref (38 + i)), (0, .ref 0), (1, .int (nI i)), (2, .int 5)]) C dX11_picture_27 rfl (by decide) rfl ?_
  refine ar_aload_n (n := 1) C dX11_picture_28 rfl rfl ?_
  refine ar_getr C flX11_35 rfl kd_0 rf_0_4 dX11_picture_29 ?_
  refine ar_aload_n (n := 1) C dX11_picture_32 rfl rfl ?_
  refine ar_getr C flX11_18 rfl kd_0 rf_0_1 dX11_picture_33 ?_
  refine ar_aload_n (n := 0) C dX11_picture_36 rfl rfl ?_
  refine cV0 (ar := [.ref 2, .ref (38 + i)]) (st := []) C lkX11_162 kd_7 (k_take M (i := i) (by omega) rfl rfl rfl rfl rfl) (by decide) rfl (Nat.le_of_ble_eq_true rfl) rfl dX11_picture_37 ?_
  refine ar_iload_n (n := 3) C dX11_picture_40 rfl rfl ?_
  refine ar_tableIn (tgt := 119) C dX11_picture_41 (by decide) (by decide) rfl (by decide) ?_
  refine ar_aload_n (n := 1) C dX11_picture_119 rfl rfl ?_
  refine ar_getr C flX11_35 rfl kd_0 rf_0_4 dX11_picture_120 ?_
  refine ar_geti C flX11_181 kd_7 dX11_picture_123 ?_
  exact ar_ireturn C rfl dX11_picture_126 ⟨by simp [pic, wi], rfl, rfl⟩
set_option maxHeartbeats 4000000 in
set_option maxRecDepth 100000 in
theorem x_picture_6 (M : Mm) {i N : Nat} (hN : M.1 0 3 = nI N) (hi : i < N) (hN24 : N ≤ 24) : AX mX11_picture 3 [.ref 0, .int (nI i), .int 6] M (some (.int (P_x (M.1 3) (M.1 4) (M.1 (38 + i) 0) (M.1 (38 + i) 2)))) (pic M (M.1 3) (M.1 4) (M.1 (38 + i) 0) (M.1 (38 + i) 1) (M.1 (38 + i) 2)) := by
  refine AM_ofF (by decide +kernel) (Nat.le_of_ble_eq_true rfl) (fun X V C _ _ => ?_)
  show AW X V mX11_picture.2.2.1 T0 M 0 0 _ 0 [(0, .ref 0), (1, .int (nI i)), (2, .int 6)] []
  refine ar_aload_n (n := 0) C dX11_picture_0 rfl rfl ?_
  refine ar_iload_n (n := 1) C dX11_picture_1 rfl rfl ?_
  refine cV1 (ar := [.int (nI i)]) (st := []) C lkX11_159 kd_0 (k_isThing M (nI i)) (by decide) rfl (Nat.le_of_ble_eq_true rfl) rfl dX11_picture_2 ?_
  refine ar_if_eqB (tgt := 18) C dX11_picture_5 (by decide) (fun c_1 => False.elim (Bool.noConfusion ((inN hN hi hN24).symm.trans c_1))) (fun _ => ?_)
  refine ar_iload_n (n := 2) C dX11_picture_8 rfl rfl ?_
  refine ar_iconst (v := 0) C dX11_picture_9 (by decide) ?_
  refine ar_bipush (v := 8) C dX11_picture_10 (by decide) ?_
  refine cS1 (ar := [.int 6, .int 0, .int 8]) (st := []) C lkX11_94 (k_within M 6 0 8) (by decide) rfl (Nat.le_of_ble_eq_true rfl) rfl dX11_picture_12 ?_
  refine ar_if_neB (tgt := 21) C dX11_picture_15 (by decide) (fun _ => ?_) (fun c_2 => False.elim (Bool.noConfusion ((show f_in 6 0 8 = true by decide).symm.trans c_2)))
  refine ar_aload_n (n := 0) C dX11_picture_21 rfl rfl ?_
  refine ar_getr C flX11_24 rfl kd_0 rf_0_2 dX11_picture_22 ?_
  refine ar_iload_n (n := 1) C dX11_picture_25 rfl rfl ?_
  refine ar_aald (j := i) C kd_6 (by decide) (by decide) rfl (show i < 24 by omega) (rf_things (show i < 24 by omega)) dX11_picture_26 ?_
  refine ar_astore_n (als' := [(3, .ref (38 + i)), (0, .ref 0), (1, .int (nI i)), (2, .int 6)]) C dX11_picture_27 rfl (by decide) rfl ?_
  refine ar_aload_n (n := 1) C dX11_picture_28 rfl rfl ?_
  refine ar_getr C flX11_35 rfl kd_0 rf_0_4 dX11_picture_29 ?_
  refine ar_aload_n (n := 1) C dX11_picture_32 rfl rfl ?_
  refine ar_getr C flX11_18 rfl kd_0 rf_0_1 dX11_picture_33 ?_
  refine ar_aload_n (n := 0) C dX11_picture_36 rfl rfl ?_
  refine cV0 (ar := [.ref 2, .ref (38 + i)]) (st := []) C lkX11_162 kd_7 (k_take M (i := i) (by omega) rfl rfl rfl rfl rfl) (by decide) rfl (Nat.le_of_ble_eq_true rfl) rfl dX11_picture_37 ?_
  refine ar_iload_n (n := 3) C dX11_picture_40 rfl rfl ?_
  refine ar_tableIn (tgt := 127) C dX11_picture_41 (by decide) (by decide) rfl (by decide) ?_
  refine ar_aload_n (n := 1) C dX11_picture_127 rfl rfl ?_
  refine ar_getr C flX11_35 rfl kd_0 rf_0_4 dX11_picture_128 ?_
  refine ar_geti C flX11_184 kd_7 dX11_picture_131 ?_
  exact ar_ireturn C rfl dX11_picture_134 ⟨by simp [pic, wi], rfl, rfl⟩
set_option maxHeartbeats 4000000 in
set_option maxRecDepth 100000 in
theorem x_picture_7 (M : Mm) {i N : Nat} (hN : M.1 0 3 = nI N) (hi : i < N) (hN24 : N ≤ 24) : AX mX11_picture 3 [.ref 0, .int (nI i), .int 7] M (some (.int (P_y (M.1 3) (M.1 4) (M.1 (38 + i) 0) (M.1 (38 + i) 1) (M.1 (38 + i) 2)))) (pic M (M.1 3) (M.1 4) (M.1 (38 + i) 0) (M.1 (38 + i) 1) (M.1 (38 + i) 2)) := by
  refine AM_ofF (by decide +kernel) (Nat.le_of_ble_eq_true rfl) (fun X V C _ _ => ?_)
  show AW X V mX11_picture.2.2.1 T0 M 0 0 _ 0 [(0, .ref 0), (1, .int (nI i)), (2, .int 7)] []
  refine ar_aload_n (n := 0) C dX11_picture_0 rfl rfl ?_
  refine ar_iload_n (n := 1) C dX11_picture_1 rfl rfl ?_
  refine cV1 (ar := [.int (nI i)]) (st := []) C lkX11_159 kd_0 (k_isThing M (nI i)) (by decide) rfl (Nat.le_of_ble_eq_true rfl) rfl dX11_picture_2 ?_
  refine ar_if_eqB (tgt := 18) C dX11_picture_5 (by decide) (fun c_1 => False.elim (Bool.noConfusion ((inN hN hi hN24).symm.trans c_1))) (fun _ => ?_)
  refine ar_iload_n (n := 2) C dX11_picture_8 rfl rfl ?_
  refine ar_iconst (v := 0) C dX11_picture_9 (by decide) ?_
  refine ar_bipush (v := 8) C dX11_picture_10 (by decide) ?_
  refine cS1 (ar := [.int 7, .int 0, .int 8]) (st := []) C lkX11_94 (k_within M 7 0 8) (by decide) rfl (Nat.le_of_ble_eq_true rfl) rfl dX11_picture_12 ?_
  refine ar_if_neB (tgt := 21) C dX11_picture_15 (by decide) (fun _ => ?_) (fun c_2 => False.elim (Bool.noConfusion ((show f_in 7 0 8 = true by decide).symm.trans c_2)))
  refine ar_aload_n (n := 0) C dX11_picture_21 rfl rfl ?_
  refine ar_getr C flX11_24 rfl kd_0 rf_0_2 dX11_picture_22 ?_
  refine ar_iload_n (n := 1) C dX11_picture_25 rfl rfl ?_
  refine ar_aald (j := i) C kd_6 (by decide) (by decide) rfl (show i < 24 by omega) (rf_things (show i < 24 by omega)) dX11_picture_26 ?_
  refine ar_astore_n (als' := [(3, .ref (38 + i)), (0, .ref 0), (1, .int (nI i)), (2, .int 7)]) C dX11_picture_27 rfl (by decide) rfl ?_
  refine ar_aload_n (n := 1) C dX11_picture_28 rfl rfl ?_
  refine ar_getr C flX11_35 rfl kd_0 rf_0_4 dX11_picture_29 ?_
  refine ar_aload_n (n := 1) C dX11_picture_32 rfl rfl ?_
  refine ar_getr C flX11_18 rfl kd_0 rf_0_1 dX11_picture_33 ?_
  refine ar_aload_n (n := 0) C dX11_picture_36 rfl rfl ?_
  refine cV0 (ar := [.ref 2, .ref (38 + i)]) (st := []) C lkX11_162 kd_7 (k_take M (i := i) (by omega) rfl rfl rfl rfl rfl) (by decide) rfl (Nat.le_of_ble_eq_true rfl) rfl dX11_picture_37 ?_
  refine ar_iload_n (n := 3) C dX11_picture_40 rfl rfl ?_
  refine ar_tableIn (tgt := 135) C dX11_picture_41 (by decide) (by decide) rfl (by decide) ?_
  refine ar_aload_n (n := 1) C dX11_picture_135 rfl rfl ?_
  refine ar_getr C flX11_35 rfl kd_0 rf_0_4 dX11_picture_136 ?_
  refine ar_geti C flX11_185 kd_7 dX11_picture_139 ?_
  exact ar_ireturn C rfl dX11_picture_142 ⟨by simp [pic, wi], rfl, rfl⟩
set_option maxHeartbeats 4000000 in
set_option maxRecDepth 100000 in
theorem x_picture_8 (M : Mm) {i N : Nat} (hN : M.1 0 3 = nI N) (hi : i < N) (hN24 : N ≤ 24) : AX mX11_picture 3 [.ref 0, .int (nI i), .int 8] M (some (.int (P_blur (M.1 3) (M.1 4) (M.1 (38 + i) 0) (M.1 (38 + i) 2)))) (pic M (M.1 3) (M.1 4) (M.1 (38 + i) 0) (M.1 (38 + i) 1) (M.1 (38 + i) 2)) := by
  refine AM_ofF (by decide +kernel) (Nat.le_of_ble_eq_true rfl) (fun X V C _ _ => ?_)
  show AW X V mX11_picture.2.2.1 T0 M 0 0 _ 0 [(0, .ref 0), (1, .int (nI i)), (2, .int 8)] []
  refine ar_aload_n (n := 0) C dX11_picture_0 rfl rfl ?_
  refine ar_iload_n (n := 1) C dX11_picture_1 rfl rfl ?_
  refine cV1 (ar := [.int (nI i)]) (st := []) C lkX11_159 kd_0 (k_isThing M (nI i)) (by decide) rfl (Nat.le_of_ble_eq_true rfl) rfl dX11_picture_2 ?_
  refine ar_if_eqB (tgt := 18) C dX11_picture_5 (by decide) (fun c_1 => False.elim (Bool.noConfusion ((inN hN hi hN24).symm.trans c_1))) (fun _ => ?_)
  refine ar_iload_n (n := 2) C dX11_picture_8 rfl rfl ?_
  refine ar_iconst (v := 0) C dX11_picture_9 (by decide) ?_
  refine ar_bipush (v := 8) C dX11_picture_10 (by decide) ?_
  refine cS1 (ar := [.int 8, .int 0, .int 8]) (st := []) C lkX11_94 (k_within M 8 0 8) (by decide) rfl (Nat.le_of_ble_eq_true rfl) rfl dX11_picture_12 ?_
  refine ar_if_neB (tgt := 21) C dX11_picture_15 (by decide) (fun _ => ?_) (fun c_2 => False.elim (Bool.noConfusion ((show f_in 8 0 8 = true by decide).symm.trans c_2)))
  refine ar_aload_n (n := 0) C dX11_picture_21 rfl rfl ?_
  refine ar_getr C flX11_24 rfl kd_0 rf_0_2 dX11_picture_22 ?_
  refine ar_iload_n (n := 1) C dX11_picture_25 rfl rfl ?_
  refine ar_aald (j := i) C kd_6 (by decide) (by decide) rfl (show i < 24 by omega) (rf_things (show i < 24 by omega)) dX11_picture_26 ?_
  refine ar_astore_n (als' := [(3, .ref (38 + i)), (0, .ref 0), (1, .int (nI i)), (2, .int 8)]) C dX11_picture_27 rfl (by decide) rfl ?_
  refine ar_aload_n (n := 1) C dX11_picture_28 rfl rfl ?_
  refine ar_getr C flX11_35 rfl kd_0 rf_0_4 dX11_picture_29 ?_
  refine ar_aload_n (n := 1) C dX11_picture_32 rfl rfl ?_
  refine ar_getr C flX11_18 rfl kd_0 rf_0_1 dX11_picture_33 ?_
  refine ar_aload_n (n := 0) C dX11_picture_36 rfl rfl ?_
  refine cV0 (ar := [.ref 2, .ref (38 + i)]) (st := []) C lkX11_162 kd_7 (k_take M (i := i) (by omega) rfl rfl rfl rfl rfl) (by decide) rfl (Nat.le_of_ble_eq_true rfl) rfl dX11_picture_37 ?_
  refine ar_iload_n (n := 3) C dX11_picture_40 rfl rfl ?_
  refine ar_tableOut (tgt := 143) C dX11_picture_41 (by decide) (by decide) ?_
  refine ar_aload_n (n := 1) C dX11_picture_143 rfl rfl ?_
  refine ar_getr C flX11_35 rfl kd_0 rf_0_4 dX11_picture_144 ?_
  refine ar_geti C flX11_186 kd_7 dX11_picture_147 ?_
  exact ar_ireturn C rfl dX11_picture_150 ⟨by simp [pic, wi], rfl, rfl⟩
set_option maxHeartbeats 4000000 in
set_option maxRecDepth 100000 in
theorem x_focused_bad (M : Mm) (t w : Int32)  (hbad : (f_in t 0 (M.1 0 3 - 1) && f_in w 0 1) = false) : AX mX11_focused 5 [.ref 0, .int t, .int w] M (some (.int (-1000001))) M := by
  refine AM_ofF (by decide +kernel) (Nat.le_of_ble_eq_true rfl) (fun X V C _ _ => ?_)
  show AW X V mX11_focused.2.2.1 T0 M 0 0 _ 0 [(0, .ref 0), (1, .int t), (2, .int w)] []
  refine ar_aload_n (n := 0) C dX11_focused_0 rfl rfl ?_
  refine ar_iload_n (n := 1) C dX11_focused_1 rfl rfl ?_
  refine cV1 (ar := [.int t]) (st := []) C lkX11_159 kd_0 (k_isThing M t) (by decide) rfl (Nat.le_of_ble_eq_true rfl) rfl dX11_focused_2 ?_
  refine ar_if_eqB (tgt := 17) C dX11_focused_5 (by decide) (fun c_1 => ?_) (fun c_1 => ?_)
  · refine ar_ldc C kcX11_98 dX11_focused_17 ?_
    exact ar_ireturn C rfl dX11_focused_19 ⟨rfl, rfl, rfl⟩
  · refine ar_iload_n (n := 2) C dX11_focused_8 rfl rfl ?_
    refine ar_iconst (v := 0) C dX11_focused_9 (by decide) ?_
    refine ar_iconst (v := 1) C dX11_focused_10 (by decide) ?_
    refine cS1 (ar := [.int w, .int 0, .int 1]) (st := []) C lkX11_94 (k_within M w 0 1) (by decide) rfl (Nat.le_of_ble_eq_true rfl) rfl dX11_focused_11 ?_
    refine ar_if_neB (tgt := 20) C dX11_focused_14 (by decide) (fun c_2 => ?_) (fun c_2 => ?_)
    · exact absurd hbad (by first | (rw [c_1]; decide) | simp [*])
    · refine ar_ldc C kcX11_98 dX11_focused_17 ?_
      exact ar_ireturn C rfl dX11_focused_19 ⟨rfl, rfl, rfl⟩
set_option maxHeartbeats 4000000 in
set_option maxRecDepth 100000 in
theorem x_focused_0 (M : Mm) {i N : Nat} (hN : M.1 0 3 = nI N) (hi : i < N) (hN24 : N ≤ 24) (hB : ∀ k, 1 ≤ k → k ≤ 1000 → 0 ≤ (f_B (M.1 3) (M.1 4) (M.1 (38 + i) 0) (M.1 (38 + i) 2)) k) : AX mX11_focused 5 [.ref 0, .int (nI i), .int 0] M (some (.int (nI (foc (f_B (M.1 3) (M.1 4) (M.1 (38 + i) 0) (M.1 (38 + i) 2)) 1000)))) M := by
  refine AM_ofF (by decide +kernel) (Nat.le_of_ble_eq_true rfl) (fun X V C _ _ => ?_)
  show AW X V mX11_focused.2.2.1 T0 M 0 0 _ 0 [(0, .ref 0), (1, .int (nI i)), (2, .int 0)] []
  refine ar_aload_n (n := 0) C dX11_focused_0 rfl rfl ?_
  refine ar_iload_n (n := 1) C dX11_focused_1 rfl rfl ?_
  refine cV1 (ar := [.int (nI i)]) (st := []) C lkX11_159 kd_0 (k_isThing M (nI i)) (by decide) rfl (Nat.le_of_ble_eq_true rfl) rfl dX11_focused_2 ?_
  refine ar_if_eqB (tgt := 17) C dX11_focused_5 (by decide) (fun c_1 => False.elim (Bool.noConfusion ((inN hN hi hN24).symm.trans c_1))) (fun _ => ?_)
  refine ar_iload_n (n := 2) C dX11_focused_8 rfl rfl ?_
  refine ar_iconst (v := 0) C dX11_focused_9 (by decide) ?_
  refine ar_iconst (v := 1) C dX11_focused_10 (by decide) ?_
  refine cS1 (ar := [.int 0, .int 0, .int 1]) (st := []) C lkX11_94 (k_within M 0 0 1) (by decide) rfl (Nat.le_of_ble_eq_true rfl) rfl dX11_focused_11 ?_
  refine ar_if_neB (tgt := 20) C dX11_focused_14 (by decide) (fun _ => ?_) (fun c_2 => False.elim (Bool.noConfusion ((show f_in 0 0 1 = true by decide).symm.trans c_2)))
  refine ar_aload_n (n := 0) C dX11_focused_20 rfl rfl ?_
  refine ar_getr C flX11_18 rfl kd_0 rf_0_1 dX11_focused_21 ?_
  refine ar_aload_n (n := 0) C dX11_focused_24 rfl rfl ?_
  refine ar_getr C flX11_24 rfl kd_0 rf_0_2 dX11_focused_25 ?_
  refine ar_iload_n (n := 1) C dX11_focused_28 rfl rfl ?_
  refine ar_aald (j := i) C kd_6 (by decide) (by decide) rfl (show i < 24 by omega) (rf_things (show i < 24 by omega)) dX11_focused_29 ?_
  refine cV1 (ar := [.ref (38 + i)]) (st := []) C lkX11_189 kd_2 (k_sharp M (i := i) (by omega) rfl rfl rfl rfl hB) (by decide) rfl (Nat.le_of_ble_eq_true rfl) rfl dX11_focused_30 ?_
  refine ar_istore_n (als' := [(3, .int (nI (foc (f_B (M.1 3) (M.1 4) (M.1 (38 + i) 0) (M.1 (38 + i) 2)) 1000))), (0, .ref 0), (1, .int (nI i)), (2, .int 0)]) C dX11_focused_33 rfl (by decide) rfl ?_
  refine ar_iload_n (n := 3) C dX11_focused_34 rfl rfl ?_
  refine ar_if_ne (tgt := 42) C dX11_focused_35 (by decide) (fun c_3 => False.elim (c_3 rfl)) (fun _ => ?_)
  refine ar_iload_n (n := 0) C dX11_focused_38 rfl rfl ?_
  refine ar_goto (tgt := 56) C dX11_focused_39 (by decide) ?_
  exact ar_ireturn C rfl dX11_focused_56 ⟨rfl, rfl, rfl⟩
set_option maxHeartbeats 4000000 in
set_option maxRecDepth 100000 in
theorem x_focused_1 (M : Mm) {i N : Nat} (hN : M.1 0 3 = nI N) (hi : i < N) (hN24 : N ≤ 24) (hB : ∀ k, 1 ≤ k → k ≤ 1000 → 0 ≤ (f_B (M.1 3) (M.1 4) (M.1 (38 + i) 0) (M.1 (38 + i) 2)) k) : AX mX11_focused 5 [.ref 0, .int (nI i), .int 1] M (some (.int ((f_B (M.1 3) (M.1 4) (M.1 (38 + i) 0) (M.1 (38 + i) 2)) (foc (f_B (M.1 3) (M.1 4) (M.1 (38 + i) 0) (M.1 (38 + i) 2)) 1000)))) M := by
  refine AM_ofF (by decide +kernel) (Nat.le_of_ble_eq_true rfl) (fun X V C _ _ => ?_)
  show AW X V mX11_focused.2.2.1 T0 M 0 0 _ 0 [(0, .ref 0), (1, .int (nI i)), (2, .int 1)] []
  refine ar_aload_n (n := 0) C dX11_focused_0 rfl rfl ?_
  refine ar_iload_n (n := 1) C dX11_focused_1 rfl rfl ?_
  refine cV1 (ar := [.int (nI i)]) (st := []) C lkX11_159 kd_0 (k_isThing M (nI i)) (by decide) rfl (Nat.le_of_ble_eq_true rfl) rfl dX11_focused_2 ?_
  refine ar_if_eqB (tgt := 17) C dX11_focused_5 (by decide) (fun c_1 => False.elim (Bool.noConfusion ((inN hN hi hN24).symm.trans c_1))) (fun _ => ?_)
  refine ar_iload_n (n := 2) C dX11_focused_8 rfl rfl ?_
  refine ar_iconst (v := 0) C dX11_focused_9 (by decide) ?_
  refine ar_iconst (v := 1) C dX11_focused_10 (by decide) ?_
  refine cS1 (ar := [.int 1, .int 0, .int 1]) (st := []) C lkX11_94 (k_within M 1 0 1) (by decide) rfl (Nat.le_of_ble_eq_true rfl) rfl dX11_focused_11 ?_
  refine ar_if_neB (tgt := 20) C dX11_focused_14 (by decide) (fun _ => ?_) (fun c_2 => False.elim (Bool.noConfusion ((show f_in 1 0 1 = true by decide).symm.trans c_2)))
  refine ar_aload_n (n := 0) C dX11_focused_20 rfl rfl ?_
  refine ar_getr C flX11_18 rfl kd_0 rf_0_1 dX11_focused_21 ?_
  refine ar_aload_n (n := 0) C dX11_focused_24 rfl rfl ?_
  refine ar_getr C flX11_24 rfl kd_0 rf_0_2 dX11_focused_25 ?_
  refine ar_iload_n (n := 1) C dX11_focused_28 rfl rfl ?_
  refine ar_aald (j := i) C kd_6 (by decide) (by decide) rfl (show i < 24 by omega) (rf_things (show i < 24 by omega)) dX11_focused_29 ?_
  refine cV1 (ar := [.ref (38 + i)]) (st := []) C lkX11_189 kd_2 (k_sharp M (i := i) (by omega) rfl rfl rfl rfl hB) (by decide) rfl (Nat.le_of_ble_eq_true rfl) rfl dX11_focused_30 ?_
  refine ar_istore_n (als' := [(3, .int (nI (foc (f_B (M.1 3) (M.1 4) (M.1 (38 + i) 0) (M.1 (38 + i) 2)) 1000))), (0, .ref 0), (1, .int (nI i)), (2, .int 1)]) C dX11_focused_33 rfl (by decide) rfl ?_
  refine ar_iload_n (n := 3) C dX11_focused_34 rfl rfl ?_
  refine ar_if_ne (tgt := 42) C dX11_focused_35 (by decide) (fun _ => ?_) (fun c_3 => False.elim (absurd c_3 (by decide)))
  refine ar_aload_n (n := 1) C dX11_focused_42 rfl rfl ?_
  refine ar_getr C flX11_18 rfl kd_0 rf_0_1 dX11_focused_43 ?_
  refine ar_iload_n (n := 0) C dX11_focused_46 rfl rfl ?_
  refine ar_aload_n (n := 1) C dX11_focused_47 rfl rfl ?_
  refine ar_getr C flX11_24 rfl kd_0 rf_0_2 dX11_focused_48 ?_
  refine ar_iload_n (n := 2) C dX11_focused_51 rfl rfl ?_
  refine ar_aald (j := i) C kd_6 (by decide) (by decide) rfl (show i < 24 by omega) (rf_things (show i < 24 by omega)) dX11_focused_52 ?_
  refine cV1 (ar := [.int (nI (foc (f_B (M.1 3) (M.1 4) (M.1 (38 + i) 0) (M.1 (38 + i) 2)) 1000)), .ref (38 + i)]) (st := []) C lkX11_193 kd_2 (k_blurAt M (i := i) (by omega) rfl rfl rfl rfl (nI (foc (f_B (M.1 3) (M.1 4) (M.1 (38 + i) 0) (M.1 (38 + i) 2)) 1000))) (by decide) rfl (Nat.le_of_ble_eq_true rfl) rfl dX11_focused_53 ?_
  exact ar_ireturn C rfl dX11_focused_56 ⟨rfl, rfl, rfl⟩
set_option maxHeartbeats 4000000 in
set_option maxRecDepth 100000 in
theorem x_mark_bad (M : Mm) (a k x y : Int32)  (hbad : (f_in a 0 7 && f_in k 0 23 && f_in x (-1000) 1000 && f_in y (-1000) 1000) = false) : AX mX11_mark 2 [.ref 0, .int a, .int k, .int x, .int y] M (some (.int (-1000001))) M := by
  refine AM_ofF (by decide +kernel) (Nat.le_of_ble_eq_true rfl) (fun X V C _ _ => ?_)
  show AW X V mX11_mark.2.2.1 T0 M 0 0 _ 0 [(0, .ref 0), (1, .int a), (2, .int k), (3, .int x), (4, .int y)] []
  refine ar_iload_n (n := 1) C dX11_mark_0 rfl rfl ?_
  refine cS1 (ar := [.int a]) (st := []) C lkX11_213 (k_isTrace M a) (by decide) rfl (Nat.le_of_ble_eq_true rfl) rfl dX11_mark_1 ?_
  refine ar_if_eqB (tgt := 29) C dX11_mark_4 (by decide) (fun c_1 => ?_) (fun c_1 => ?_)
  · refine ar_ldc C kcX11_98 dX11_mark_29 ?_
    exact ar_ireturn C rfl dX11_mark_31 ⟨rfl, rfl, rfl⟩
  · refine ar_iload_n (n := 2) C dX11_mark_7 rfl rfl ?_
    refine cS1 (ar := [.int k]) (st := []) C lkX11_216 (k_isNumber M k) (by decide) rfl (Nat.le_of_ble_eq_true rfl) rfl dX11_mark_8 ?_
    refine ar_if_eqB (tgt := 29) C dX11_mark_11 (by decide) (fun c_2 => ?_) (fun c_2 => ?_)
    · refine ar_ldc C kcX11_98 dX11_mark_29 ?_
      exact ar_ireturn C rfl dX11_mark_31 ⟨rfl, rfl, rfl⟩
    · refine ar_iload_n (n := 3) C dX11_mark_14 rfl rfl ?_
      refine cS1 (ar := [.int x]) (st := []) C lkX11_219 (k_isFlat M x) (by decide) rfl (Nat.le_of_ble_eq_true rfl) rfl dX11_mark_15 ?_
      refine ar_if_eqB (tgt := 29) C dX11_mark_18 (by decide) (fun c_3 => ?_) (fun c_3 => ?_)
      · refine ar_ldc C kcX11_98 dX11_mark_29 ?_
        exact ar_ireturn C rfl dX11_mark_31 ⟨rfl, rfl, rfl⟩
      · refine ar_iload (n := 4) C dX11_mark_21 rfl ?_
        refine cS1 (ar := [.int y]) (st := []) C lkX11_219 (k_isFlat M y) (by decide) rfl (Nat.le_of_ble_eq_true rfl) rfl dX11_mark_23 ?_
        refine ar_if_neB (tgt := 32) C dX11_mark_26 (by decide) (fun c_4 => ?_) (fun c_4 => ?_)
        · exact absurd hbad (by first | (rw [c_1]; decide) | simp [*])
        · refine ar_ldc C kcX11_98 dX11_mark_29 ?_
          exact ar_ireturn C rfl dX11_mark_31 ⟨rfl, rfl, rfl⟩
set_option maxHeartbeats 4000000 in
set_option maxRecDepth 100000 in
theorem x_mark_ok (M : Mm) {a k : Nat} (ha : a < 8) (hk : k < 24) (x y : Int32) (hx : f_in x (-1000) 1000 = true) (hy : f_in y (-1000) 1000 = true) : AX mX11_mark 2 [.ref 0, .int (nI a), .int (nI k), .int x, .int y] M (some (.int (if M.1 (63 + 4 * a) k = 0 then 1 else 0))) (wi (wi (wi M (63 + 4 * a) k 1) (64 + 4 * a) k x) (65 + 4 * a) k y) := by
  refine AM_ofF (by decide +kernel) (Nat.le_of_ble_eq_true rfl) (fun X V C _ _ => ?_)
  show AW X V mX11_mark.2.2.1 T0 M 0 0 _ 0 [(0, .ref 0), (1, .int (nI a)), (2, .int (nI k)), (3, .int x), (4, .int y)] []
  refine ar_iload_n (n := 1) C dX11_mark_0 rfl rfl ?_
  refine cS1 (ar := [.int (nI a)]) (st := []) C lkX11_213 (k_isTrace M (nI a)) (by decide) rfl (Nat.le_of_ble_eq_true rfl) rfl dX11_mark_1 ?_
  refine ar_if_eqB (tgt := 29) C dX11_mark_4 (by decide) (fun c_1 => False.elim (Bool.noConfusion ((in7 ha).symm.trans c_1))) (fun _ => ?_)
  refine ar_iload_n (n := 2) C dX11_mark_7 rfl rfl ?_
  refine cS1 (ar := [.int (nI k)]) (st := []) C lkX11_216 (k_isNumber M (nI k)) (by decide) rfl (Nat.le_of_ble_eq_true rfl) rfl dX11_mark_8 ?_
  refine ar_if_eqB (tgt := 29) C dX11_mark_11 (by decide) (fun c_2 => False.elim (Bool.noConfusion ((in23 hk).symm.trans c_2))) (fun _ => ?_)
  refine ar_iload_n (n := 3) C dX11_mark_14 rfl rfl ?_
  refine cS1 (ar := [.int x]) (st := []) C lkX11_219 (k_isFlat M x) (by decide) rfl (Nat.le_of_ble_eq_true rfl) rfl dX11_mark_15 ?_
  refine ar_if_eqB (tgt := 29) C dX11_mark_18 (by decide) (fun c_3 => False.elim (Bool.noConfusion (hx.symm.trans c_3))) (fun _ => ?_)
  refine ar_iload (n := 4) C dX11_mark_21 rfl ?_
  refine cS1 (ar := [.int y]) (st := []) C lkX11_219 (k_isFlat M y) (by decide) rfl (Nat.le_of_ble_eq_true rfl) rfl dX11_mark_23 ?_
  refine ar_if_neB (tgt := 32) C dX11_mark_26 (by decide) (fun _ => ?_) (fun c_4 => False.elim (Bool.noConfusion (hy.symm.trans c_4)))
  refine ar_aload_n (n := 0) C dX11_mark_32 rfl rfl ?_
  refine ar_getr C flX11_41 rfl kd_0 rf_0_5 dX11_mark_33 ?_
  refine ar_iload_n (n := 1) C dX11_mark_36 rfl rfl ?_
  refine ar_aald (j := a) C kd_8 (by decide) (by decide) rfl ha (rf_traces ha) dX11_mark_37 ?_
  refine ar_getr C flX11_222 rfl (kd_trace ha) (rf_has ha) dX11_mark_38 ?_
  refine ar_iload_n (n := 2) C dX11_mark_41 rfl rfl ?_
  refine ar_zald (j := k) C (kd_has ha) rfl hk dX11_mark_42 ?_
  refine ar_istore (als' := [(5, .int (M.1 (63 + 4 * a) k)), (0, .ref 0), (1, .int (nI a)), (2, .int (nI k)), (3, .int x), (4, .int y)]) C dX11_mark_43 (by decide) rfl ?_
  refine ar_aload_n (n := 1) C dX11_mark_45 rfl rfl ?_
  refine ar_getr C flX11_41 rfl kd_0 rf_0_5 dX11_mark_46 ?_
  refine ar_iload_n (n := 2) C dX11_mark_49 rfl rfl ?_
  refine ar_aald (j := a) C kd_8 (by decide) (by decide) rfl ha (rf_traces ha) dX11_mark_50 ?_
  refine ar_iload_n (n := 3) C dX11_mark_51 rfl rfl ?_
  refine ar_iload_n (n := 4) C dX11_mark_52 rfl rfl ?_
  refine ar_iload (n := 5) C dX11_mark_53 rfl ?_
  refine cV0 (ar := [.int (nI k), .int x, .int y]) (st := []) C lkX11_226 (kd_trace ha) (k_rput M ha hk x y) (by decide) rfl (Nat.le_of_ble_eq_true rfl) rfl dX11_mark_55 ?_
  refine ar_iload (n := 0) C dX11_mark_58 rfl ?_
  refine ar_if_eq (tgt := 67) C dX11_mark_60 (by decide) (fun c_5 => ?_) (fun c_5 => ?_)
  · refine ar_iconst (v := 1) C dX11_mark_67 (by decide) ?_
    exact ar_ireturn C rfl dX11_mark_68 ⟨by simp [*], rfl, rfl⟩
  · refine ar_iconst (v := 0) C dX11_mark_63 (by decide) ?_
    refine ar_goto (tgt := 68) C dX11_mark_64 (by decide) ?_
    exact ar_ireturn C rfl dX11_mark_68 ⟨by simp [*], rfl, rfl⟩
set_option maxHeartbeats 4000000 in
set_option maxRecDepth 100000 in
theorem x_rub_bad (M : Mm) (a k : Int32)  (hbad : (f_in a 0 7 && f_in k 0 23) = false) : AX mX11_rub 2 [.ref 0, .int a, .int k] M (some (.int (-1000001))) M := by
  refine AM_ofF (by decide +kernel) (Nat.le_of_ble_eq_true rfl) (fun X V C _ _ => ?_)
  show AW X V mX11_rub.2.2.1 T0 M 0 0 _ 0 [(0, .ref 0), (1, .int a), (2, .int k)] []
  refine ar_iload_n (n := 1) C dX11_rub_0 rfl rfl ?_
  refine cS1 (ar := [.int a]) (st := []) C lkX11_213 (k_isTrace M a) (by decide) rfl (Nat.le_of_ble_eq_true rfl) rfl dX11_rub_1 ?_
  refine ar_if_eqB (tgt := 14) C dX11_rub_4 (by decide) (fun c_1 => ?_) (fun c_1 => ?_)
  · refine ar_ldc C kcX11_98 dX11_rub_14 ?_
    exact ar_ireturn C rfl dX11_rub_16 ⟨rfl, rfl, rfl⟩
  · refine ar_iload_n (n := 2) C dX11_rub_7 rfl rfl ?_
    refine cS1 (ar := [.int k]) (st := []) C lkX11_216 (k_isNumber M k) (by decide) rfl (Nat.le_of_ble_eq_true rfl) rfl dX11_rub_8 ?_
    refine ar_if_neB (tgt := 17) C dX11_rub_11 (by decide) (fun c_2 => ?_) (fun c_2 => ?_)
    · exact absurd hbad (by first | (rw [c_1]; decide) | simp [*])
    · refine ar_ldc C kcX11_98 dX11_rub_14 ?_
      exact ar_ireturn C rfl dX11_rub_16 ⟨rfl, rfl, rfl⟩
set_option maxHeartbeats 4000000 in
set_option maxRecDepth 100000 in
theorem x_rub_ok (M : Mm) {a k : Nat} (ha : a < 8) (hk : k < 24) : AX mX11_rub 2 [.ref 0, .int (nI a), .int (nI k)] M (some (.int (if M.1 (63 + 4 * a) k = 0 then 0 else 1))) (wi M (63 + 4 * a) k 0) := by
  refine AM_ofF (by decide +kernel) (Nat.le_of_ble_eq_true rfl) (fun X V C _ _ => ?_)
  show AW X V mX11_rub.2.2.1 T0 M 0 0 _ 0 [(0, .ref 0), (1, .int (nI a)), (2, .int (nI k))] []
  refine ar_iload_n (n := 1) C dX11_rub_0 rfl rfl ?_
  refine cS1 (ar := [.int (nI a)]) (st := []) C lkX11_213 (k_isTrace M (nI a)) (by decide) rfl (Nat.le_of_ble_eq_true rfl) rfl dX11_rub_1 ?_
  refine ar_if_eqB (tgt := 14) C dX11_rub_4 (by decide) (fun c_1 => False.elim (Bool.noConfusion ((in7 ha).symm.trans c_1))) (fun _ => ?_)
  refine ar_iload_n (n := 2) C dX11_rub_7 rfl rfl ?_
  refine cS1 (ar := [.int (nI k)]) (st := []) C lkX11_216 (k_isNumber M (nI k)) (by decide) rfl (Nat.le_of_ble_eq_true rfl) rfl dX11_rub_8 ?_
  refine ar_if_neB (tgt := 17) C dX11_rub_11 (by decide) (fun _ => ?_) (fun c_2 => False.elim (Bool.noConfusion ((in23 hk).symm.trans c_2)))
  refine ar_aload_n (n := 0) C dX11_rub_17 rfl rfl ?_
  refine ar_getr C flX11_41 rfl kd_0 rf_0_5 dX11_rub_18 ?_
  refine ar_iload_n (n := 1) C dX11_rub_21 rfl rfl ?_
  refine ar_aald (j := a) C kd_8 (by decide) (by decide) rfl ha (rf_traces ha) dX11_rub_22 ?_
  refine ar_getr C flX11_222 rfl (kd_trace ha) (rf_has ha) dX11_rub_23 ?_
  refine ar_iload_n (n := 2) C dX11_rub_26 rfl rfl ?_
  refine ar_zald (j := k) C (kd_has ha) rfl hk dX11_rub_27 ?_
  refine ar_istore_n (als' := [(3, .int (M.1 (63 + 4 * a) k)), (0, .ref 0), (1, .int (nI a)), (2, .int (nI k))]) C dX11_rub_28 rfl (by decide) rfl ?_
  refine ar_aload_n (n := 1) C dX11_rub_29 rfl rfl ?_
  refine ar_getr C flX11_41 rfl kd_0 rf_0_5 dX11_rub_30 ?_
  refine ar_iload_n (n := 2) C dX11_rub_33 rfl rfl ?_
  refine ar_aald (j := a) C kd_8 (by decide) (by decide) rfl ha (rf_traces ha) dX11_rub_34 ?_
  refine ar_getr C flX11_222 rfl (kd_trace ha) (rf_has ha) dX11_rub_35 ?_
  refine ar_iload_n (n := 3) C dX11_rub_38 rfl rfl ?_
  refine ar_iconst (v := 0) C dX11_rub_39 (by decide) ?_
  refine ar_zast (j := k) C (kd_has ha) rfl hk rfl dX11_rub_40 ?_
  refine ar_iload_n (n := 0) C dX11_rub_41 rfl rfl ?_
  refine ar_if_eq (tgt := 49) C dX11_rub_42 (by decide) (fun c_3 => ?_) (fun c_3 => ?_)
  · refine ar_iconst (v := 0) C dX11_rub_49 (by decide) ?_
    exact ar_ireturn C rfl dX11_rub_50 ⟨by simp [*], rfl, rfl⟩
  · refine ar_iconst (v := 1) C dX11_rub_45 (by decide) ?_
    refine ar_goto (tgt := 50) C dX11_rub_46 (by decide) ?_
    exact ar_ireturn C rfl dX11_rub_50 ⟨by simp [*], rfl, rfl⟩
set_option maxHeartbeats 4000000 in
set_option maxRecDepth 100000 in
theorem x_marked_bad (M : Mm) (a k w : Int32)  (hbad : (f_in a 0 7 && f_in k 0 23 && f_in w 0 1) = false) : AX mX11_marked 2 [.ref 0, .int a, .int k, .int w] M (some (.int (-1000001))) M := by
  refine AM_ofF (by decide +kernel) (Nat.le_of_ble_eq_true rfl) (fun X V C _ _ => ?_)
  show AW X V mX11_marked.2.2.1 T0 M 0 0 _ 0 [(0, .ref 0), (1, .int a), (2, .int k), (3, .int w)] []
  refine ar_iload_n (n := 1) C dX11_marked_0 rfl rfl ?_
  refine cS1 (ar := [.int a]) (st := []) C lkX11_213 (k_isTrace M a) (by decide) rfl (Nat.le_of_ble_eq_true rfl) rfl dX11_marked_1 ?_
  refine ar_if_eqB (tgt := 23) C dX11_marked_4 (by decide) (fun c_1 => ?_) (fun c_1 => ?_)
  · refine ar_ldc C kcX11_98 dX11_marked_23 ?_
    exact ar_ireturn C rfl dX11_marked_25 ⟨rfl, rfl, rfl⟩
  · refine ar_iload_n (n := 2) C dX11_marked_7 rfl rfl ?_
    refine cS1 (ar := [.int k]) (st := []) C lkX11_216 (k_isNumber M k) (by decide) rfl (Nat.le_of_ble_eq_true rfl) rfl dX11_marked_8 ?_
    refine ar_if_eqB (tgt := 23) C dX11_marked_11 (by decide) (fun c_2 => ?_) (fun c_2 => ?_)
    · refine ar_ldc C kcX11_98 dX11_marked_23 ?_
      exact ar_ireturn C rfl dX11_marked_25 ⟨rfl, rfl, rfl⟩
    · refine ar_iload_n (n := 3) C dX11_marked_14 rfl rfl ?_
      refine ar_iconst (v := 0) C dX11_marked_15 (by decide) ?_
      refine ar_iconst (v := 1) C dX11_marked_16 (by decide) ?_
      refine cS1 (ar := [.int w, .int 0, .int 1]) (st := []) C lkX11_94 (k_within M w 0 1) (by decide) rfl (Nat.le_of_ble_eq_true rfl) rfl dX11_marked_17 ?_
      refine ar_if_neB (tgt := 26) C dX11_marked_20 (by decide) (fun c_3 => ?_) (fun c_3 => ?_)
      · exact absurd hbad (by first | (rw [c_1]; decide) | simp [*])
      · refine ar_ldc C kcX11_98 dX11_marked_23 ?_
        exact ar_ireturn C rfl dX11_marked_25 ⟨rfl, rfl, rfl⟩
set_option maxHeartbeats 4000000 in
set_option maxRecDepth 100000 in
theorem x_marked_0 (M : Mm) {a k : Nat} (ha : a < 8) (hk : k < 24) : AX mX11_marked 2 [.ref 0, .int (nI a), .int (nI k), .int 0] M (some (.int (if M.1 (63 + 4 * a) k = 0 then -1000000 else M.1 (64 + 4 * a) k))) M := by
  refine AM_ofF (by decide +kernel) (Nat.le_of_ble_eq_true rfl) (fun X V C _ _ => ?_)
  show AW X V mX11_marked.2.2.1 T0 M 0 0 _ 0 [(0, .ref 0), (1, .int (nI a)), (2, .int (nI k)), (3, .int 0)] []
  refine ar_iload_n (n := 1) C dX11_marked_0 rfl rfl ?_
  refine cS1 (ar := [.int (nI a)]) (st := []) C lkX11_213 (k_isTrace M (nI a)) (by decide) rfl (Nat.le_of_ble_eq_true rfl) rfl dX11_marked_1 ?_
  refine ar_if_eqB (tgt := 23) C dX11_marked_4 (by decide) (fun c_1 => False.elim (Bool.noConfusion ((in7 ha).symm.trans c_1))) (fun _ => ?_)
  refine ar_iload_n (n := 2) C dX11_marked_7 rfl rfl ?_
  refine cS1 (ar := [.int (nI k)]) (st := []) C lkX11_216 (k_isNumber M (nI k)) (by decide) rfl (Nat.le_of_ble_eq_true rfl) rfl dX11_marked_8 ?_
  refine ar_if_eqB (tgt := 23) C dX11_marked_11 (by decide) (fun c_2 => False.elim (Bool.noConfusion ((in23 hk).symm.trans c_2))) (fun _ => ?_)
  refine ar_iload_n (n := 3) C dX11_marked_14 rfl rfl ?_
  refine ar_iconst (v := 0) C dX11_marked_15 (by decide) ?_
  refine ar_iconst (v := 1) C dX11_marked_16 (by decide) ?_
  refine cS1 (ar := [.int 0, .int 0, .int 1]) (st := []) C lkX11_94 (k_within M 0 0 1) (by decide) rfl (Nat.le_of_ble_eq_true rfl) rfl dX11_marked_17 ?_
  refine ar_if_neB (tgt := 26) C dX11_marked_20 (by decide) (fun _ => ?_) (fun c_3 => False.elim (Bool.noConfusion ((show f_in 0 0 1 = true by decide).symm.trans c_3)))
  refine ar_aload_n (n := 0) C dX11_marked_26 rfl rfl ?_
  refine ar_getr C flX11_41 rfl kd_0 rf_0_5 dX11_marked_27 ?_
  refine ar_iload_n (n := 1) C dX11_marked_30 rfl rfl ?_
  refine ar_aald (j := a) C kd_8 (by decide) (by decide) rfl ha (rf_traces ha) dX11_marked_31 ?_
  refine ar_astore (als' := [(4, .ref (62 + 4 * a)), (0, .ref 0), (1, .int (nI a)), (2, .int (nI k)), (3, .int 0)]) C dX11_marked_32 (by decide) rfl ?_
  refine ar_aload (n := 0) C dX11_marked_34 rfl ?_
  refine ar_getr C flX11_222 rfl (kd_trace ha) (rf_has ha) dX11_marked_36 ?_
  refine ar_iload_n (n := 3) C dX11_marked_39 rfl rfl ?_
  refine ar_zald (j := k) C (kd_has ha) rfl hk dX11_marked_40 ?_
  refine ar_if_ne (tgt := 47) C dX11_marked_41 (by decide) (fun c_4 => ?_) (fun c_4 => ?_)
  · refine ar_iload_n (n := 4) C dX11_marked_47 rfl rfl ?_
    refine ar_if_ne (tgt := 61) C dX11_marked_48 (by decide) (fun c_5 => False.elim (c_5 rfl)) (fun _ => ?_)
    refine ar_aload (n := 0) C dX11_marked_51 rfl ?_
    refine ar_getr C flX11_238 rfl (kd_trace ha) (rf_tx ha) dX11_marked_53 ?_
    refine ar_iload_n (n := 3) C dX11_marked_56 rfl rfl ?_
    refine ar_iald (j := k) C (kd_tx ha) rfl hk dX11_marked_57 ?_
    refine ar_goto (tgt := 68) C dX11_marked_58 (by decide) ?_
    exact ar_ireturn C rfl dX11_marked_68 ⟨by simp [*], rfl, rfl⟩
  · refine ar_ldc C kcX11_237 dX11_marked_44 ?_
    exact ar_ireturn C rfl dX11_marked_46 ⟨by simp [*], rfl, rfl⟩
set_option maxHeartbeats 4000000 in
set_option maxRecDepth 100000 in
theorem x_marked_1 (M : Mm) {a k : Nat} (ha : a < 8) (hk : k < 24) : AX mX11_marked 2 [.ref 0, .int (nI a), .int (nI k), .int 1] M (some (.int (if M.1 (63 + 4 * a) k = 0 then -1000000 else M.1 (65 + 4 * a) k))) M := by
  refine AM_ofF (by decide +kernel) (Nat.le_of_ble_eq_true rfl) (fun X V C _ _ => ?_)
  show AW X V mX11_marked.2.2.1 T0 M 0 0 _ 0 [(0, .ref 0), (1, .int (nI a)), (2, .int (nI k)), (3, .int 1)] []
  refine ar_iload_n (n := 1) C dX11_marked_0 rfl rfl ?_
  refine cS1 (ar := [.int (nI a)]) (st := []) C lkX11_213 (k_isTrace M (nI a)) (by decide) rfl (Nat.le_of_ble_eq_true rfl) rfl dX11_marked_1 ?_
  refine ar_if_eqB (tgt := 23) C dX11_marked_4 (by decide) (fun c_1 => False.elim (Bool.noConfusion ((in7 ha).symm.trans c_1))) (fun _ => ?_)
  refine ar_iload_n (n := 2) C dX11_marked_7 rfl rfl ?_
  refine cS1 (ar := [.int (nI k)]) (st := []) C lkX11_216 (k_isNumber M (nI k)) (by decide) rfl (Nat.le_of_ble_eq_true rfl) rfl dX11_marked_8 ?_
  refine ar_if_eqB (tgt := 23) C dX11_marked_11 (by decide) (fun c_2 => False.elim (Bool.noConfusion ((in23 hk).symm.trans c_2))) (fun _ => ?_)
  refine ar_iload_n (n := 3) C dX11_marked_14 rfl rfl ?_
  refine ar_iconst (v := 0) C dX11_marked_15 (by decide) ?_
  refine ar_iconst (v := 1) C dX11_marked_16 (by decide) ?_
  refine cS1 (ar := [.int 1, .int 0, .int 1]) (st := []) C lkX11_94 (k_within M 1 0 1) (by decide) rfl (Nat.le_of_ble_eq_true rfl) rfl dX11_marked_17 ?_
  refine ar_if_neB (tgt := 26) C dX11_marked_20 (by decide) (fun _ => ?_) (fun c_3 => False.elim (Bool.noConfusion ((show f_in 1 0 1 = true by decide).symm.trans c_3)))
  refine ar_aload_n (n := 0) C dX11_marked_26 rfl rfl ?_
  refine ar_getr C flX11_41 rfl kd_0 rf_0_5 dX11_marked_27 ?_
  refine ar_iload_n (n := 1) C dX11_marked_30 rfl rfl ?_
  refine ar_aald (j := a) C kd_8 (by decide) (by decide) rfl ha (rf_traces ha) dX11_marked_31 ?_
  refine ar_astore (als' := [(4, .ref (62 + 4 * a)), (0, .ref 0), (1, .int (nI a)), (2, .int (nI k)), (3, .int 1)]) C dX11_marked_32 (by decide) rfl ?_
  refine ar_aload (n := 0) C dX11_marked_34 rfl ?_
  refine ar_getr C flX11_222 rfl (kd_trace ha) (rf_has ha) dX11_marked_36 ?_
  refine ar_iload_n (n := 3) C dX11_marked_39 rfl rfl ?_
  refine ar_zald (j := k) C (kd_has ha) rfl hk dX11_marked_40 ?_
  refine ar_if_ne (tgt := 47) C dX11_marked_41 (by decide) (fun c_4 => ?_) (fun c_4 => ?_)
  · refine ar_iload_n (n := 4) C dX11_marked_47 rfl rfl ?_
    refine ar_if_ne (tgt := 61) C dX11_marked_48 (by decide) (fun _ => ?_) (fun c_5 => False.elim (absurd c_5 (by decide)))
    refine ar_aload (n := 0) C dX11_marked_61 rfl ?_
    refine ar_getr C flX11_240 rfl (kd_trace ha) (rf_ty ha) dX11_marked_63 ?_
    refine ar_iload_n (n := 3) C dX11_marked_66 rfl rfl ?_
    refine ar_iald (j := k) C (kd_ty ha) rfl hk dX11_marked_67 ?_
    exact ar_ireturn C rfl dX11_marked_68 ⟨by simp [*], rfl, rfl⟩
  · refine ar_ldc C kcX11_237 dX11_marked_44 ?_
    exact ar_ireturn C rfl dX11_marked_46 ⟨by simp [*], rfl, rfl⟩
set_option maxHeartbeats 4000000 in
set_option maxRecDepth 100000 in
theorem x_kind_bad (M : Mm) (t : Int32)  (hbad : (f_in t 0 (M.1 0 3 - 1)) = false) : AX mX11_kind 4 [.ref 0, .int t] M (some (.int (-1000001))) M := by
  refine AM_ofF (by decide +kernel) (Nat.le_of_ble_eq_true rfl) (fun X V C _ _ => ?_)
  show AW X V mX11_kind.2.2.1 T0 M 0 0 _ 0 [(0, .ref 0), (1, .int t)] []
  refine ar_aload_n (n := 0) C dX11_kind_0 rfl rfl ?_
  refine ar_iload_n (n := 1) C dX11_kind_1 rfl rfl ?_
  refine cV1 (ar := [.int t]) (st := []) C lkX11_159 kd_0 (k_isThing M t) (by decide) rfl (Nat.le_of_ble_eq_true rfl) rfl dX11_kind_2 ?_
  refine ar_if_eqB (tgt := 16) C dX11_kind_5 (by decide) (fun c_1 => ?_) (fun c_1 => ?_)
  · refine ar_ldc C kcX11_98 dX11_kind_16 ?_
    exact ar_ireturn C rfl dX11_kind_18 ⟨rfl, rfl, rfl⟩
  · exact absurd hbad (by first | (rw [c_1]; decide) | simp [*])
theorem kindK (M : Mm) {i : Nat} (hi : i < 24) : AX mX11_kindOf 3 [.ref 0, .int (nI i)] M (some (.int (KK M i))) (pic M (M.1 3) (M.1 4) (M.1 (38 + i) 0) (M.1 (38 + i) 1) (M.1 (38 + i) 2)) := k_kindOf M hi rfl rfl rfl rfl rfl
def f_isOf (kd w : Int32) : Bool := decide (w = 0) || decide (w = kd) || (decide (w = 1) && decide (kd = 2))
def JF (M M1 : Mm) : Prop := (∀ c, (c < 10 ∨ 13 < c) → M1.1 c = M.1 c) ∧ M1.2 = M.2
theorem JT_F {M M1 : Mm} {h1 h2 dx dy : Nat → Int32} {i : Nat} (h : JT M h1 h2 dx dy i M1) : JF M M1 := ⟨fun c hc => h.2.2.2.2.1 c (by omega) (by omega) (by omega) (by omega), h.2.2.2.2.2⟩
theorem KK_O {M M1 : Mm} (h : Oc 7 M M1) (i : Nat) : KK M1 i = KK M i := by
  unfold KK
  rw [h.1 3 (by decide), h.1 4 (by decide), h.1 (38 + i) (by omega)]
set_option maxHeartbeats 4000000 in
set_option maxRecDepth 100000 in
theorem x_kind_ok (M : Mm) {i N : Nat} (hN : M.1 0 3 = nI N) (hi : i < N) (hN24 : N ≤ 24) : AX mX11_kind 4 [.ref 0, .int (nI i)] M (some (.int (KK M i))) (pic M (M.1 3) (M.1 4) (M.1 (38 + i) 0) (M.1 (38 + i) 1) (M.1 (38 + i) 2)) := by
  refine AM_ofF (by decide +kernel) (Nat.le_of_ble_eq_true rfl) (fun X V C _ _ => ?_)
  show AW X V mX11_kind.2.2.1 T0 M 0 0 _ 0 [(0, .ref 0), (1, .int (nI i))] []
  refine ar_aload_n (n := 0) C dX11_kind_0 rfl rfl ?_
  refine ar_iload_n (n := 1) C dX11_kind_1 rfl rfl ?_
  refine cV1 (ar := [.int (nI i)]) (st := []) C lkX11_159 kd_0 (k_isThing M (nI i)) (by decide) rfl (Nat.le_of_ble_eq_true rfl) rfl dX11_kind_2 ?_
  refine ar_if_eqB (tgt := 16) C dX11_kind_5 (by decide) (fun c_1 => False.elim (Bool.noConfusion ((inN hN hi hN24).symm.trans c_1))) (fun _ => ?_)
  refine ar_aload_n (n := 0) C dX11_kind_8 rfl rfl ?_
  refine ar_iload_n (n := 1) C dX11_kind_9 rfl rfl ?_
  refine cV1 (ar := [.int (nI i)]) (st := []) C lkX11_349 kd_0 (kindK M (i := i) (by omega)) (by decide) rfl (Nat.le_of_ble_eq_true rfl) rfl dX11_kind_10 ?_
  refine ar_goto (tgt := 18) C dX11_kind_13 (by decide) ?_
  exact ar_ireturn C rfl dX11_kind_18 ⟨rfl, rfl, rfl⟩
set_option maxHeartbeats 4000000 in
set_option maxRecDepth 100000 in
theorem x_as_bad (M : Mm) (t w : Int32)  (hbad : (f_in t 0 (M.1 0 3 - 1) && f_in w 0 3) = false) : AX mX11_as 4 [.ref 0, .int t, .int w] M (some (.int (-1000001))) M := by
  refine AM_ofF (by decide +kernel) (Nat.le_of_ble_eq_true rfl) (fun X V C _ _ => ?_)
  show AW X V mX11_as.2.2.1 T0 M 0 0 _ 0 [(0, .ref 0), (1, .int t), (2, .int w)] []
  refine ar_aload_n (n := 0) C dX11_as_0 rfl rfl ?_
  refine ar_iload_n (n := 1) C dX11_as_1 rfl rfl ?_
  refine cV1 (ar := [.int t]) (st := []) C lkX11_159 kd_0 (k_isThing M t) (by decide) rfl (Nat.le_of_ble_eq_true rfl) rfl dX11_as_2 ?_
  refine ar_if_eqB (tgt := 17) C dX11_as_5 (by decide) (fun c_1 => ?_) (fun c_1 => ?_)
  · refine ar_ldc C kcX11_98 dX11_as_17 ?_
    exact ar_ireturn C rfl dX11_as_19 ⟨rfl, rfl, rfl⟩
  · refine ar_iload_n (n := 2) C dX11_as_8 rfl rfl ?_
    refine ar_iconst (v := 0) C dX11_as_9 (by decide) ?_
    refine ar_iconst (v := 3) C dX11_as_10 (by decide) ?_
    refine cS1 (ar := [.int w, .int 0, .int 3]) (st := []) C lkX11_94 (k_within M w 0 3) (by decide) rfl (Nat.le_of_ble_eq_true rfl) rfl dX11_as_11 ?_
    refine ar_if_neB (tgt := 20) C dX11_as_14 (by decide) (fun c_2 => ?_) (fun c_2 => ?_)
    · exact absurd hbad (by first | (rw [c_1]; decide) | simp [*])
    · refine ar_ldc C kcX11_98 dX11_as_17 ?_
      exact ar_ireturn C rfl dX11_as_19 ⟨rfl, rfl, rfl⟩
set_option maxHeartbeats 4000000 in
set_option maxRecDepth 100000 in
theorem x_as_yes (M : Mm) {i N : Nat} (hN : M.1 0 3 = nI N) (hi : i < N) (hN24 : N ≤ 24) (w : Int32) (hw : f_in w 0 3 = true) (h : f_isOf (KK M i) w = true) : AX mX11_as 4 [.ref 0, .int (nI i), .int w] M (some (.int (M.1 (38 + i) 2))) (wi (pic M (M.1 3) (M.1 4) (M.1 (38 + i) 0) (M.1 (38 + i) 1) (M.1 (38 + i) 2)) 0 12 0) := by
  refine AM_ofF (by decide +kernel) (Nat.le_of_ble_eq_true rfl) (fun X V C _ _ => ?_)
  show AW X V mX11_as.2.2.1 T0 M 0 0 _ 0 [(0, .ref 0), (1, .int (nI i)), (2, .int w)] []
  refine ar_aload_n (n := 0) C dX11_as_0 rfl rfl ?_
  refine ar_iload_n (n := 1) C dX11_as_1 rfl rfl ?_
  refine cV1 (ar := [.int (nI i)]) (st := []) C lkX11_159 kd_0 (k_isThing M (nI i)) (by decide) rfl (Nat.le_of_ble_eq_true rfl) rfl dX11_as_2 ?_
  refine ar_if_eqB (tgt := 17) C dX11_as_5 (by decide) (fun c_1 => False.elim (Bool.noConfusion ((inN hN hi hN24).symm.trans c_1))) (fun _ => ?_)
  refine ar_iload_n (n := 2) C dX11_as_8 rfl rfl ?_
  refine ar_iconst (v := 0) C dX11_as_9 (by decide) ?_
  refine ar_iconst (v := 3) C dX11_as_10 (by decide) ?_
  refine cS1 (ar := [.int w, .int 0, .int 3]) (st := []) C lkX11_94 (k_within M w 0 3) (by decide) rfl (Nat.le_of_ble_eq_true rfl) rfl dX11_as_11 ?_
  refine ar_if_neB (tgt := 20) C dX11_as_14 (by decide) (fun _ => ?_) (fun c_2 => False.elim (Bool.noConfusion (hw.symm.trans c_2)))
  refine ar_aload_n (n := 0) C dX11_as_20 rfl rfl ?_
  refine ar_iload_n (n := 1) C dX11_as_21 rfl rfl ?_
  refine cV1 (ar := [.int (nI i)]) (st := []) C lkX11_349 kd_0 (kindK M (i := i) (by omega)) (by decide) rfl (Nat.le_of_ble_eq_true rfl) rfl dX11_as_22 ?_
  refine ar_istore_n (als' := [(3, .int (KK M i)), (0, .ref 0), (1, .int (nI i)), (2, .int w)]) C dX11_as_25 rfl (by decide) rfl ?_
  refine ar_iload_n (n := 3) C dX11_as_26 rfl rfl ?_
  refine ar_if_eq (tgt := 45) C dX11_as_27 (by decide) (fun c_3 => ?_) (fun c_3 => ?_)
  · refine ar_iconst (v := 1) C dX11_as_45 (by decide) ?_
    refine ar_goto (tgt := 50) C dX11_as_46 (by decide) ?_
    refine ar_istore (als' := [(4, .int 1), (3, .int (KK M i)), (0, .ref 0), (1, .int (nI i)), (2, .int w)]) C dX11_as_50 (by decide) rfl ?_
    refine ar_iload (n := 0) C dX11_as_52 rfl ?_
    refine ar_if_eq (tgt := 73) C dX11_as_54 (by decide) (fun c_4 => False.elim (absurd c_4 (by decide))) (fun _ => ?_)
    refine ar_aload_n (n := 2) C dX11_as_57 rfl rfl ?_
    refine ar_aload_n (n := 2) C dX11_as_58 rfl rfl ?_
    refine ar_getr C flX11_24 rfl kd_0 rf_0_2 dX11_as_59 ?_
    refine ar_iload_n (n := 3) C dX11_as_62 rfl rfl ?_
    refine ar_aald (j := i) C kd_6 (by decide) (by decide) rfl (show i < 24 by omega) (rf_things (show i < 24 by omega)) dX11_as_63 ?_
    refine ar_geti C flX11_172 (kd_thing (show i < 24 by omega)) dX11_as_64 ?_
    refine ar_topi (M.1 (38 + i) 2) (by simp [pic, wi]; try omega) ?_
    refine cV1 (ar := [.int (M.1 (38 + i) 2)]) (st := []) C lkX11_107 kd_0 (k_clean (pic M (M.1 3) (M.1 4) (M.1 (38 + i) 0) (M.1 (38 + i) 1) (M.1 (38 + i) 2)) (M.1 (38 + i) 2)) (by decide) rfl (Nat.le_of_ble_eq_true rfl) rfl dX11_as_67 ?_
    refine ar_goto (tgt := 78) C dX11_as_70 (by decide) ?_
    exact ar_ireturn C rfl dX11_as_78 ⟨rfl, rfl, rfl⟩
  · refine ar_iload_n (n := 3) C dX11_as_30 rfl rfl ?_
    refine ar_iload_n (n := 0) C dX11_as_31 rfl rfl ?_
    refine ar_icmp_eq (tgt := 45) C dX11_as_32 (by decide) (fun c_5 => ?_) (fun c_5 => ?_)
    · refine ar_iconst (v := 1) C dX11_as_45 (by decide) ?_
      refine ar_goto (tgt := 50) C dX11_as_46 (by decide) ?_
      refine ar_istore (als' := [(4, .int 1), (3, .int (KK M i)), (0, .ref 0), (1, .int (nI i)), (2, .int w)]) C dX11_as_50 (by decide) rfl ?_
      refine ar_iload (n := 0) C dX11_as_52 rfl ?_
      refine ar_if_eq (tgt := 73) C dX11_as_54 (by decide) (fun c_6 => False.elim (absurd c_6 (by decide))) (fun _ => ?_)
      refine ar_aload_n (n := 2) C dX11_as_57 rfl rfl ?_
      refine ar_aload_n (n := 2) C dX11_as_58 rfl rfl ?_
      refine ar_getr C flX11_24 rfl kd_0 rf_0_2 dX11_as_59 ?_
      refine ar_iload_n (n := 3) C dX11_as_62 rfl rfl ?_
      refine ar_aald (j := i) C kd_6 (by decide) (by decide) rfl (show i < 24 by omega) (rf_things (show i < 24 by omega)) dX11_as_63 ?_
      refine ar_geti C flX11_172 (kd_thing (show i < 24 by omega)) dX11_as_64 ?_
      refine ar_topi (M.1 (38 + i) 2) (by simp [pic, wi]; try omega) ?_
      refine cV1 (ar := [.int (M.1 (38 + i) 2)]) (st := []) C lkX11_107 kd_0 (k_clean (pic M (M.1 3) (M.1 4) (M.1 (38 + i) 0) (M.1 (38 + i) 1) (M.1 (38 + i) 2)) (M.1 (38 + i) 2)) (by decide) rfl (Nat.le_of_ble_eq_true rfl) rfl dX11_as_67 ?_
      refine ar_goto (tgt := 78) C dX11_as_70 (by decide) ?_
      exact ar_ireturn C rfl dX11_as_78 ⟨rfl, rfl, rfl⟩
    · refine ar_iload_n (n := 3) C dX11_as_35 rfl rfl ?_
      refine ar_iconst (v := 1) C dX11_as_36 (by decide) ?_
      refine ar_icmp_ne (tgt := 49) C dX11_as_37 (by decide) (fun c_7 => ?_) (fun c_7 => ?_)
      · exact absurd h (by first | (simp [f_isOf, *]; done) | (intro q; simp only [f_isOf, Bool.or_eq_true, Bool.and_eq_true, decide_eq_true_eq] at q; rcases q with (q | q) | ⟨q1, q2⟩ <;> contradiction))
      · refine ar_iload_n (n := 0) C dX11_as_40 rfl rfl ?_
        refine ar_iconst (v := 2) C dX11_as_41 (by decide) ?_
        refine ar_icmp_ne (tgt := 49) C dX11_as_42 (by decide) (fun c_8 => ?_) (fun c_8 => ?_)
        · exact absurd h (by first | (simp [f_isOf, *]; done) | (intro q; simp only [f_isOf, Bool.or_eq_true, Bool.and_eq_true, decide_eq_true_eq] at q; rcases q with (q | q) | ⟨q1, q2⟩ <;> contradiction))
        · refine ar_iconst (v := 1) C dX11_as_45 (by decide) ?_
          refine ar_goto (tgt := 50) C dX11_as_46 (by decide) ?_
          refine ar_istore (als' := [(4, .int 1), (3, .int (KK M i)), (0, .ref 0), (1, .int (nI i)), (2, .int w)]) C dX11_as_50 (by decide) rfl ?_
          refine ar_iload (n := 0) C dX11_as_52 rfl ?_
          refine ar_if_eq (tgt := 73) C dX11_as_54 (by decide) (fun c_9 => False.elim (absurd c_9 (by decide))) (fun _ => ?_)
          refine ar_aload_n (n := 2) C dX11_as_57 rfl rfl ?_
          refine ar_aload_n (n := 2) C dX11_as_58 rfl rfl ?_
          refine ar_getr C flX11_24 rfl kd_0 rf_0_2 dX11_as_59 ?_
          refine ar_iload_n (n := 3) C dX11_as_62 rfl rfl ?_
          refine ar_aald (j := i) C kd_6 (by decide) (by decide) rfl (show i < 24 by omega) (rf_things (show i < 24 by omega)) dX11_as_63 ?_
          refine ar_geti C flX11_172 (kd_thing (show i < 24 by omega)) dX11_as_64 ?_
          refine ar_topi (M.1 (38 + i) 2) (by simp [pic, wi]; try omega) ?_
          refine cV1 (ar := [.int (M.1 (38 + i) 2)]) (st := []) C lkX11_107 kd_0 (k_clean (pic M (M.1 3) (M.1 4) (M.1 (38 + i) 0) (M.1 (38 + i) 1) (M.1 (38 + i) 2)) (M.1 (38 + i) 2)) (by decide) rfl (Nat.le_of_ble_eq_true rfl) rfl dX11_as_67 ?_
          refine ar_goto (tgt := 78) C dX11_as_70 (by decide) ?_
          exact ar_ireturn C rfl dX11_as_78 ⟨rfl, rfl, rfl⟩
set_option maxHeartbeats 4000000 in
set_option maxRecDepth 100000 in
theorem x_as_no (M : Mm) {i N : Nat} (hN : M.1 0 3 = nI N) (hi : i < N) (hN24 : N ≤ 24) (w : Int32) (hw : f_in w 0 3 = true) (h : f_isOf (KK M i) w = false) : AX mX11_as 4 [.ref 0, .int (nI i), .int w] M (some (.int (-1000013))) (wi (pic M (M.1 3) (M.1 4) (M.1 (38 + i) 0) (M.1 (38 + i) 1) (M.1 (38 + i) 2)) 0 12 3) := by
  refine AM_ofF (by decide +kernel) (Nat.le_of_ble_eq_true rfl) (fun X V C _ _ => ?_)
  show AW X V mX11_as.2.2.1 T0 M 0 0 _ 0 [(0, .ref 0), (1, .int (nI i)), (2, .int w)] []
  refine ar_aload_n (n := 0) C dX11_as_0 rfl rfl ?_
  refine ar_iload_n (n := 1) C dX11_as_1 rfl rfl ?_
  refine cV1 (ar := [.int (nI i)]) (st := []) C lkX11_159 kd_0 (k_isThing M (nI i)) (by decide) rfl (Nat.le_of_ble_eq_true rfl) rfl dX11_as_2 ?_
  refine ar_if_eqB (tgt := 17) C dX11_as_5 (by decide) (fun c_1 => False.elim (Bool.noConfusion ((inN hN hi hN24).symm.trans c_1))) (fun _ => ?_)
  refine ar_iload_n (n := 2) C dX11_as_8 rfl rfl ?_
  refine ar_iconst (v := 0) C dX11_as_9 (by decide) ?_
  refine ar_iconst (v := 3) C dX11_as_10 (by decide) ?_
  refine cS1 (ar := [.int w, .int 0, .int 3]) (st := []) C lkX11_94 (k_within M w 0 3) (by decide) rfl (Nat.le_of_ble_eq_true rfl) rfl dX11_as_11 ?_
  refine ar_if_neB (tgt := 20) C dX11_as_14 (by decide) (fun _ => ?_) (fun c_2 => False.elim (Bool.noConfusion (hw.symm.trans c_2)))
  refine ar_aload_n (n := 0) C dX11_as_20 rfl rfl ?_
  refine ar_iload_n (n := 1) C dX11_as_21 rfl rfl ?_
  refine cV1 (ar := [.int (nI i)]) (st := []) C lkX11_349 kd_0 (kindK M (i := i) (by omega)) (by decide) rfl (Nat.le_of_ble_eq_true rfl) rfl dX11_as_22 ?_
  refine ar_istore_n (als' := [(3, .int (KK M i)), (0, .ref 0), (1, .int (nI i)), (2, .int w)]) C dX11_as_25 rfl (by decide) rfl ?_
  refine ar_iload_n (n := 3) C dX11_as_26 rfl rfl ?_
  refine ar_if_eq (tgt := 45) C dX11_as_27 (by decide) (fun c_3 => ?_) (fun c_3 => ?_)
  · exact absurd h (by first | (simp [f_isOf, *]; done) | (intro q; simp only [f_isOf, Bool.or_eq_true, Bool.and_eq_true, decide_eq_true_eq] at q; rcases q with (q | q) | ⟨q1, q2⟩ <;> contradiction))
  · refine ar_iload_n (n := 3) C dX11_as_30 rfl rfl ?_
    refine ar_iload_n (n := 0) C dX11_as_31 rfl rfl ?_
    refine ar_icmp_eq (tgt := 45) C dX11_as_32 (by decide) (fun c_4 => ?_) (fun c_4 => ?_)
    · exact absurd h (by first | (simp [f_isOf, *]; done) | (intro q; simp only [f_isOf, Bool.or_eq_true, Bool.and_eq_true, decide_eq_true_eq] at q; rcases q with (q | q) | ⟨q1, q2⟩ <;> contradiction))
    · refine ar_iload_n (n := 3) C dX11_as_35 rfl rfl ?_
      refine ar_iconst (v := 1) C dX11_as_36 (by decide) ?_
      refine ar_icmp_ne (tgt := 49) C dX11_as_37 (by decide) (fun c_5 => ?_) (fun c_5 => ?_)
      · refine ar_iconst (v := 0) C dX11_as_49 (by decide) ?_
        refine ar_istore (als' := [(4, .int 0), (3, .int (KK M i)), (0, .ref 0), (1, .int (nI i)), (2, .int w)]) C dX11_as_50 (by decide) rfl ?_
        refine ar_iload (n := 0) C dX11_as_52 rfl ?_
        refine ar_if_eq (tgt := 73) C dX11_as_54 (by decide) (fun _ => ?_) (fun c_6 => False.elim (c_6 rfl))
        refine ar_aload_n (n := 2) C dX11_as_73 rfl rfl ?_
        refine ar_iconst (v := 3) C dX11_as_74 (by decide) ?_
        refine cV1 (ar := [.int 3]) (st := []) C lkX11_99 kd_0 (k_found (pic M (M.1 3) (M.1 4) (M.1 (38 + i) 0) (M.1 (38 + i) 1) (M.1 (38 + i) 2)) 3) (by decide) rfl (Nat.le_of_ble_eq_true rfl) rfl dX11_as_75 ?_
        exact ar_ireturn C rfl dX11_as_78 ⟨rfl, rfl, rfl⟩
      · refine ar_iload_n (n := 0) C dX11_as_40 rfl rfl ?_
        refine ar_iconst (v := 2) C dX11_as_41 (by decide) ?_
        refine ar_icmp_ne (tgt := 49) C dX11_as_42 (by decide) (fun c_7 => ?_) (fun c_7 => ?_)
        · refine ar_iconst (v := 0) C dX11_as_49 (by decide) ?_
          refine ar_istore (als' := [(4, .int 0), (3, .int (KK M i)), (0, .ref 0), (1, .int (nI i)), (2, .int w)]) C dX11_as_50 (by decide) rfl ?_
          refine ar_iload (n := 0) C dX11_as_52 rfl ?_
          refine ar_if_eq (tgt := 73) C dX11_as_54 (by decide) (fun _ => ?_) (fun c_8 => False.elim (c_8 rfl))
          refine ar_aload_n (n := 2) C dX11_as_73 rfl rfl ?_
          refine ar_iconst (v := 3) C dX11_as_74 (by decide) ?_
          refine cV1 (ar := [.int 3]) (st := []) C lkX11_99 kd_0 (k_found (pic M (M.1 3) (M.1 4) (M.1 (38 + i) 0) (M.1 (38 + i) 1) (M.1 (38 + i) 2)) 3) (by decide) rfl (Nat.le_of_ble_eq_true rfl) rfl dX11_as_75 ?_
          exact ar_ireturn C rfl dX11_as_78 ⟨rfl, rfl, rfl⟩
        · exact absurd h (by first | (simp [f_isOf, *]; done) | (intro q; simp only [f_isOf, Bool.or_eq_true, Bool.and_eq_true, decide_eq_true_eq] at q; rcases q with (q | q) | ⟨q1, q2⟩ <;> contradiction))
set_option maxHeartbeats 4000000 in
set_option maxRecDepth 100000 in
theorem x_trace_no (M : Mm) (w : Int32) (h : f_in w 0 (M.1 20 1 - 1) = false) : AX mX11_trace 1 [.ref 0, .int w] M (some (.int (-1000000))) M := by
  refine AM_ofF (by decide +kernel) (Nat.le_of_ble_eq_true rfl) (fun X V C _ _ => ?_)
  show AW X V mX11_trace.2.2.1 T0 M 0 0 _ 0 [(0, .ref 0), (1, .int w)] []
  refine ar_iload_n (n := 1) C dX11_trace_0 rfl rfl ?_
  refine ar_iconst (v := 0) C dX11_trace_1 (by decide) ?_
  refine ar_aload_n (n := 0) C dX11_trace_2 rfl rfl ?_
  refine ar_getr C flX11_80 rfl kd_0 rf_0_11 dX11_trace_3 ?_
  refine ar_geti C flX11_361 kd_20 dX11_trace_6 ?_
  refine ar_iconst (v := 1) C dX11_trace_9 (by decide) ?_
  refine ar_isub C dX11_trace_10 ?_
  refine cS1 (ar := [.int w, .int 0, .int ((M.1 20 1) - 1)]) (st := []) C lkX11_94 (k_within M w 0 ((M.1 20 1) - 1)) (by decide) rfl (Nat.le_of_ble_eq_true rfl) rfl dX11_trace_11 ?_
  refine ar_if_eqB (tgt := 29) C dX11_trace_14 (by decide) (fun _ => ?_) (fun c_1 => False.elim (Bool.noConfusion (h.symm.trans c_1)))
  refine ar_ldc C kcX11_237 dX11_trace_29 ?_
  exact ar_ireturn C rfl dX11_trace_31 ⟨rfl, rfl, rfl⟩
set_option maxHeartbeats 4000000 in
set_option maxRecDepth 100000 in
theorem x_trace_ok (M : Mm) {j : Nat} (hj : j < 16) (h : f_in (nI j) 0 (M.1 20 1 - 1) = true) : AX mX11_trace 1 [.ref 0, .int (nI j)] M (some (.int (M.1 21 j))) M := by
  refine AM_ofF (by decide +kernel) (Nat.le_of_ble_eq_true rfl) (fun X V C _ _ => ?_)
  show AW X V mX11_trace.2.2.1 T0 M 0 0 _ 0 [(0, .ref 0), (1, .int (nI j))] []
  refine ar_iload_n (n := 1) C dX11_trace_0 rfl rfl ?_
  refine ar_iconst (v := 0) C dX11_trace_1 (by decide) ?_
  refine ar_aload_n (n := 0) C dX11_trace_2 rfl rfl ?_
  refine ar_getr C flX11_80 rfl kd_0 rf_0_11 dX11_trace_3 ?_
  refine ar_geti C flX11_361 kd_20 dX11_trace_6 ?_
  refine ar_iconst (v := 1) C dX11_trace_9 (by decide) ?_
  refine ar_isub C dX11_trace_10 ?_
  refine cS1 (ar := [.int (nI j), .int 0, .int ((M.1 20 1) - 1)]) (st := []) C lkX11_94 (k_within M (nI j) 0 ((M.1 20 1) - 1)) (by decide) rfl (Nat.le_of_ble_eq_true rfl) rfl dX11_trace_11 ?_
  refine ar_if_eqB (tgt := 29) C dX11_trace_14 (by decide) (fun c_1 => False.elim (Bool.noConfusion (h.symm.trans c_1))) (fun _ => ?_)
  refine ar_aload_n (n := 0) C dX11_trace_17 rfl rfl ?_
  refine ar_getr C flX11_80 rfl kd_0 rf_0_11 dX11_trace_18 ?_
  refine ar_getr C flX11_364 rfl kd_20 rf_20_0 dX11_trace_21 ?_
  refine ar_iload_n (n := 1) C dX11_trace_24 rfl rfl ?_
  refine ar_iald (j := j) C kd_21 rfl hj dX11_trace_25 ?_
  refine ar_goto (tgt := 31) C dX11_trace_26 (by decide) ?_
  exact ar_ireturn C rfl dX11_trace_31 ⟨rfl, rfl, rfl⟩
set_option maxHeartbeats 4000000 in
set_option maxRecDepth 100000 in
theorem x_stand_bad (M : Mm) (r u v w d : Int32)  (hbad : (f_in r 0 1 && !decide (w < 0) && f_stand u v w d) = false) : AX mX11_stand 3 [.ref 0, .int r, .int u, .int v, .int w, .int d] M (some (.int (-1000001))) M := by
  refine AM_ofF (by decide +kernel) (Nat.le_of_ble_eq_true rfl) (fun X V C _ _ => ?_)
  show AW X V mX11_stand.2.2.1 T0 M 0 0 _ 0 [(0, .ref 0), (1, .int r), (2, .int u), (3, .int v), (4, .int w), (5, .int d)] []
  refine ar_iload_n (n := 1) C dX11_stand_0 rfl rfl ?_
  refine ar_iconst (v := 0) C dX11_stand_1 (by decide) ?_
  refine ar_iconst (v := 1) C dX11_stand_2 (by decide) ?_
  refine cS1 (ar := [.int r, .int 0, .int 1]) (st := []) C lkX11_94 (k_within M r 0 1) (by decide) rfl (Nat.le_of_ble_eq_true rfl) rfl dX11_stand_3 ?_
  refine ar_if_eqB (tgt := 26) C dX11_stand_6 (by decide) (fun c_1 => ?_) (fun c_1 => ?_)
  · refine ar_ldc C kcX11_98 dX11_stand_26 ?_
    exact ar_ireturn C rfl dX11_stand_28 ⟨rfl, rfl, rfl⟩
  · refine ar_iload (n := 4) C dX11_stand_9 rfl ?_
    refine ar_if_lt (tgt := 26) C dX11_stand_11 (by decide) (fun c_2 => ?_) (fun c_2 => ?_)
    · refine ar_ldc C kcX11_98 dX11_stand_26 ?_
      exact ar_ireturn C rfl dX11_stand_28 ⟨rfl, rfl, rfl⟩
    · refine ar_iload_n (n := 2) C dX11_stand_14 rfl rfl ?_
      refine ar_iload_n (n := 3) C dX11_stand_15 rfl rfl ?_
      refine ar_iload (n := 4) C dX11_stand_16 rfl ?_
      refine ar_iload (n := 5) C dX11_stand_18 rfl ?_
      refine cS1 (ar := [.int u, .int v, .int w, .int d]) (st := []) C lkX11_275 (k_isStand M u v w d) (by decide) rfl (Nat.le_of_ble_eq_true rfl) rfl dX11_stand_20 ?_
      refine ar_if_neB (tgt := 29) C dX11_stand_23 (by decide) (fun c_3 => ?_) (fun c_3 => ?_)
      · exact absurd hbad (by first | (rw [c_1]; decide) | simp [*])
      · refine ar_ldc C kcX11_98 dX11_stand_26 ?_
        exact ar_ireturn C rfl dX11_stand_28 ⟨rfl, rfl, rfl⟩
set_option maxHeartbeats 4000000 in
set_option maxRecDepth 100000 in
theorem x_stand_ok (M : Mm) {i : Nat} (hi : i < 2) (u v w d : Int32) (hw : ¬ w < 0) (h : f_stand u v w d = true) : AX mX11_stand 3 [.ref 0, .int (nI i), .int u, .int v, .int w, .int d] M (some (.int 1)) (wi (wi (wi (wi M (94 + i) 0 u) (94 + i) 1 v) (94 + i) 2 w) (94 + i) 3 d) := by
  refine AM_ofF (by decide +kernel) (Nat.le_of_ble_eq_true rfl) (fun X V C _ _ => ?_)
  show AW X V mX11_stand.2.2.1 T0 M 0 0 _ 0 [(0, .ref 0), (1, .int (nI i)), (2, .int u), (3, .int v), (4, .int w), (5, .int d)] []
  refine ar_iload_n (n := 1) C dX11_stand_0 rfl rfl ?_
  refine ar_iconst (v := 0) C dX11_stand_1 (by decide) ?_
  refine ar_iconst (v := 1) C dX11_stand_2 (by decide) ?_
  refine cS1 (ar := [.int (nI i), .int 0, .int 1]) (st := []) C lkX11_94 (k_within M (nI i) 0 1) (by decide) rfl (Nat.le_of_ble_eq_true rfl) rfl dX11_stand_3 ?_
  refine ar_if_eqB (tgt := 26) C dX11_stand_6 (by decide) (fun c_1 => False.elim (Bool.noConfusion ((f_in_nI (n := 1) (by decide) (by omega) (by decide)).symm.trans c_1))) (fun _ => ?_)
  refine ar_iload (n := 4) C dX11_stand_9 rfl ?_
  refine ar_if_lt (tgt := 26) C dX11_stand_11 (by decide) (fun c_2 => False.elim (hw c_2)) (fun _ => ?_)
  refine ar_iload_n (n := 2) C dX11_stand_14 rfl rfl ?_
  refine ar_iload_n (n := 3) C dX11_stand_15 rfl rfl ?_
  refine ar_iload (n := 4) C dX11_stand_16 rfl ?_
  refine ar_iload (n := 5) C dX11_stand_18 rfl ?_
  refine cS1 (ar := [.int u, .int v, .int w, .int d]) (st := []) C lkX11_275 (k_isStand M u v w d) (by decide) rfl (Nat.le_of_ble_eq_true rfl) rfl dX11_stand_20 ?_
  refine ar_if_neB (tgt := 29) C dX11_stand_23 (by decide) (fun _ => ?_) (fun c_3 => False.elim (Bool.noConfusion (h.symm.trans c_3)))
  refine ar_aload_n (n := 0) C dX11_stand_29 rfl rfl ?_
  refine ar_getr C flX11_61 rfl kd_0 rf_0_8 dX11_stand_30 ?_
  refine ar_iload_n (n := 1) C dX11_stand_33 rfl rfl ?_
  refine ar_aald (j := i) C kd_17 (by decide) (by decide) rfl hi (rf_stands hi) dX11_stand_34 ?_
  refine ar_iload_n (n := 2) C dX11_stand_35 rfl rfl ?_
  refine ar_iload_n (n := 3) C dX11_stand_36 rfl rfl ?_
  refine ar_iload (n := 4) C dX11_stand_37 rfl ?_
  refine ar_iload (n := 5) C dX11_stand_39 rfl ?_
  refine cV0 (ar := [.int u, .int v, .int w, .int d]) (st := []) C lkX11_279 (kd_stand hi) (k_put94 M hi u v w d) (by decide) rfl (Nat.le_of_ble_eq_true rfl) rfl dX11_stand_41 ?_
  refine ar_iconst (v := 1) C dX11_stand_44 (by decide) ?_
  exact ar_ireturn C rfl dX11_stand_45 ⟨rfl, rfl, rfl⟩
set_option maxHeartbeats 4000000 in
set_option maxRecDepth 100000 in
theorem x_spot_bad (M : Mm) (day hour h w : Int32)  (hbad : (f_in day 0 364 && f_in hour (-6) 6 && f_in h 1 1000 && f_in w 0 1) = false) : AX mX11_spot 2 [.ref 0, .int day, .int hour, .int h, .int w] M (some (.int (-1000001))) M := by
  refine AM_ofF (by decide +kernel) (Nat.le_of_ble_eq_true rfl) (fun X V C _ _ => ?_)
  show AW X V mX11_spot.2.2.1 T0 M 0 0 _ 0 [(0, .ref 0), (1, .int day), (2, .int hour), (3, .int h), (4, .int w)] []
  refine ar_iload_n (n := 1) C dX11_spot_0 rfl rfl ?_
  refine ar_iconst (v := 0) C dX11_spot_1 (by decide) ?_
  refine ar_sipush (v := 364) C dX11_spot_2 (by decide) ?_
  refine cS1 (ar := [.int day, .int 0, .int 364]) (st := []) C lkX11_94 (k_within M day 0 364) (by decide) rfl (Nat.le_of_ble_eq_true rfl) rfl dX11_spot_5 ?_
  refine ar_if_eqB (tgt := 22) C dX11_spot_8 (by decide) (fun c_1 => ?_) (fun c_1 => ?_)
  · refine ar_ldc C kcX11_98 dX11_spot_22 ?_
    exact ar_ireturn C rfl dX11_spot_24 ⟨rfl, rfl, rfl⟩
  · refine ar_iload_n (n := 2) C dX11_spot_11 rfl rfl ?_
    refine ar_bipush (v := (-6)) C dX11_spot_12 (by decide) ?_
    refine ar_bipush (v := 6) C dX11_spot_14 (by decide) ?_
    refine cS1 (ar := [.int hour, .int (-6), .int 6]) (st := []) C lkX11_94 (k_within M hour (-6) 6) (by decide) rfl (Nat.le_of_ble_eq_true rfl) rfl dX11_spot_16 ?_
    refine ar_if_neB (tgt := 25) C dX11_spot_19 (by decide) (fun c_2 => ?_) (fun c_2 => ?_)
    · refine ar_iload_n (n := 3) C dX11_spot_25 rfl rfl ?_
      refine ar_iconst (v := 1) C dX11_spot_26 (by decide) ?_
      refine ar_sipush (v := 1000) C dX11_spot_27 (by decide) ?_
      refine cS1 (ar := [.int h, .int 1, .int 1000]) (st := []) C lkX11_94 (k_within M h 1 1000) (by decide) rfl (Nat.le_of_ble_eq_true rfl) rfl dX11_spot_30 ?_
      refine ar_if_eqB (tgt := 46) C dX11_spot_33 (by decide) (fun c_3 => ?_) (fun c_3 => ?_)
      · refine ar_ldc C kcX11_98 dX11_spot_46 ?_
        exact ar_ireturn C rfl dX11_spot_48 ⟨rfl, rfl, rfl⟩
      · refine ar_iload (n := 4) C dX11_spot_36 rfl ?_
        refine ar_iconst (v := 0) C dX11_spot_38 (by decide) ?_
        refine ar_iconst (v := 1) C dX11_spot_39 (by decide) ?_
        refine cS1 (ar := [.int w, .int 0, .int 1]) (st := []) C lkX11_94 (k_within M w 0 1) (by decide) rfl (Nat.le_of_ble_eq_true rfl) rfl dX11_spot_40 ?_
        refine ar_if_neB (tgt := 49) C dX11_spot_43 (by decide) (fun c_4 => ?_) (fun c_4 => ?_)
        · exact absurd hbad (by first | (rw [c_1]; decide) | simp [*])
        · refine ar_ldc C kcX11_98 dX11_spot_46 ?_
          exact ar_ireturn C rfl dX11_spot_48 ⟨rfl, rfl, rfl⟩
    · refine ar_ldc C kcX11_98 dX11_spot_22 ?_
      exact ar_ireturn C rfl dX11_spot_24 ⟨rfl, rfl, rfl⟩
set_option maxHeartbeats 4000000 in
set_option maxRecDepth 100000 in
theorem x_spot_0 (M : Mm) (day hour h : Int32) (h1 : f_in day 0 364 = true) (h2 : f_in hour (-6) 6 = true) (h3 : f_in h 1 1000 = true) : AX mX11_spot 2 [.ref 0, .int day, .int hour, .int h, .int 0] M (some (.int (f_aside hour h))) M := by
  refine AM_ofF (by decide +kernel) (Nat.le_of_ble_eq_true rfl) (fun X V C _ _ => ?_)
  show AW X V mX11_spot.2.2.1 T0 M 0 0 _ 0 [(0, .ref 0), (1, .int day), (2, .int hour), (3, .int h), (4, .int 0)] []
  refine ar_iload_n (n := 1) C dX11_spot_0 rfl rfl ?_
  refine ar_iconst (v := 0) C dX11_spot_1 (by decide) ?_
  refine ar_sipush (v := 364) C dX11_spot_2 (by decide) ?_
  refine cS1 (ar := [.int day, .int 0, .int 364]) (st := []) C lkX11_94 (k_within M day 0 364) (by decide) rfl (Nat.le_of_ble_eq_true rfl) rfl dX11_spot_5 ?_
  refine ar_if_eqB (tgt := 22) C dX11_spot_8 (by decide) (fun c_1 => False.elim (Bool.noConfusion (h1.symm.trans c_1))) (fun _ => ?_)
  refine ar_iload_n (n := 2) C dX11_spot_11 rfl rfl ?_
  refine ar_bipush (v := (-6)) C dX11_spot_12 (by decide) ?_
  refine ar_bipush (v := 6) C dX11_spot_14 (by decide) ?_
  refine cS1 (ar := [.int hour, .int (-6), .int 6]) (st := []) C lkX11_94 (k_within M hour (-6) 6) (by decide) rfl (Nat.le_of_ble_eq_true rfl) rfl dX11_spot_16 ?_
  refine ar_if_neB (tgt := 25) C dX11_spot_19 (by decide) (fun _ => ?_) (fun c_2 => False.elim (Bool.noConfusion (h2.symm.trans c_2)))
  refine ar_iload_n (n := 3) C dX11_spot_25 rfl rfl ?_
  refine ar_iconst (v := 1) C dX11_spot_26 (by decide) ?_
  refine ar_sipush (v := 1000) C dX11_spot_27 (by decide) ?_
  refine cS1 (ar := [.int h, .int 1, .int 1000]) (st := []) C lkX11_94 (k_within M h 1 1000) (by decide) rfl (Nat.le_of_ble_eq_true rfl) rfl dX11_spot_30 ?_
  refine ar_if_eqB (tgt := 46) C dX11_spot_33 (by decide) (fun c_3 => False.elim (Bool.noConfusion (h3.symm.trans c_3))) (fun _ => ?_)
  refine ar_iload (n := 4) C dX11_spot_36 rfl ?_
  refine ar_iconst (v := 0) C dX11_spot_38 (by decide) ?_
  refine ar_iconst (v := 1) C dX11_spot_39 (by decide) ?_
  refine cS1 (ar := [.int 0, .int 0, .int 1]) (st := []) C lkX11_94 (k_within M 0 0 1) (by decide) rfl (Nat.le_of_ble_eq_true rfl) rfl dX11_spot_40 ?_
  refine ar_if_neB (tgt := 49) C dX11_spot_43 (by decide) (fun _ => ?_) (fun c_4 => False.elim (Bool.noConfusion ((show f_in 0 0 1 = true by decide).symm.trans c_4)))
  refine ar_iload (n := 4) C dX11_spot_49 rfl ?_
  refine ar_if_ne (tgt := 62) C dX11_spot_51 (by decide) (fun c_5 => False.elim (c_5 rfl)) (fun _ => ?_)
  refine ar_iload_n (n := 2) C dX11_spot_54 rfl rfl ?_
  refine ar_iload_n (n := 3) C dX11_spot_55 rfl rfl ?_
  refine cS1 (ar := [.int hour, .int h]) (st := []) C lkX11_340 (k_aside M hour h) (by decide) rfl (Nat.le_of_ble_eq_true rfl) rfl dX11_spot_56 ?_
  refine ar_goto (tgt := 71) C dX11_spot_59 (by decide) ?_
  exact ar_ireturn C rfl dX11_spot_71 ⟨rfl, rfl, rfl⟩
set_option maxHeartbeats 4000000 in
set_option maxRecDepth 100000 in
theorem x_spot_1 (M : Mm) (day hour h : Int32) (h1 : f_in day 0 364 = true) (h2 : f_in hour (-6) 6 = true) (h3 : f_in h 1 1000 = true) : AX mX11_spot 2 [.ref 0, .int day, .int hour, .int h, .int 1] M (some (.int (f_ahead (f_noon day) hour h))) M := by
  refine AM_ofF (by decide +kernel) (Nat.le_of_ble_eq_true rfl) (fun X V C _ _ => ?_)
  show AW X V mX11_spot.2.2.1 T0 M 0 0 _ 0 [(0, .ref 0), (1, .int day), (2, .int hour), (3, .int h), (4, .int 1)] []
  refine ar_iload_n (n := 1) C dX11_spot_0 rfl rfl ?_
  refine ar_iconst (v := 0) C dX11_spot_1 (by decide) ?_
  refine ar_sipush (v := 364) C dX11_spot_2 (by decide) ?_
  refine cS1 (ar := [.int day, .int 0, .int 364]) (st := []) C lkX11_94 (k_within M day 0 364) (by decide) rfl (Nat.le_of_ble_eq_true rfl) rfl dX11_spot_5 ?_
  refine ar_if_eqB (tgt := 22) C dX11_spot_8 (by decide) (fun c_1 => False.elim (Bool.noConfusion (h1.symm.trans c_1))) (fun _ => ?_)
  refine ar_iload_n (n := 2) C dX11_spot_11 rfl rfl ?_
  refine ar_bipush (v := (-6)) C dX11_spot_12 (by decide) ?_
  refine ar_bipush (v := 6) C dX11_spot_14 (by decide) ?_
  refine cS1 (ar := [.int hour, .int (-6), .int 6]) (st := []) C lkX11_94 (k_within M hour (-6) 6) (by decide) rfl (Nat.le_of_ble_eq_true rfl) rfl dX11_spot_16 ?_
  refine ar_if_neB (tgt := 25) C dX11_spot_19 (by decide) (fun _ => ?_) (fun c_2 => False.elim (Bool.noConfusion (h2.symm.trans c_2)))
  refine ar_iload_n (n := 3) C dX11_spot_25 rfl rfl ?_
  refine ar_iconst (v := 1) C dX11_spot_26 (by decide) ?_
  refine ar_sipush (v := 1000) C dX11_spot_27 (by decide) ?_
  refine cS1 (ar := [.int h, .int 1, .int 1000]) (st := []) C lkX11_94 (k_within M h 1 1000) (by decide) rfl (Nat.le_of_ble_eq_true rfl) rfl dX11_spot_30 ?_
  refine ar_if_eqB (tgt := 46) C dX11_spot_33 (by decide) (fun c_3 => False.elim (Bool.noConfusion (h3.symm.trans c_3))) (fun _ => ?_)
  refine ar_iload (n := 4) C dX11_spot_36 rfl ?_
  refine ar_iconst (v := 0) C dX11_spot_38 (by decide) ?_
  refine ar_iconst (v := 1) C dX11_spot_39 (by decide) ?_
  refine cS1 (ar := [.int 1, .int 0, .int 1]) (st := []) C lkX11_94 (k_within M 1 0 1) (by decide) rfl (Nat.le_of_ble_eq_true rfl) rfl dX11_spot_40 ?_
  refine ar_if_neB (tgt := 49) C dX11_spot_43 (by decide) (fun _ => ?_) (fun c_4 => False.elim (Bool.noConfusion ((show f_in 1 0 1 = true by decide).symm.trans c_4)))
  refine ar_iload (n := 4) C dX11_spot_49 rfl ?_
  refine ar_if_ne (tgt := 62) C dX11_spot_51 (by decide) (fun _ => ?_) (fun c_5 => False.elim (absurd c_5 (by decide)))
  refine ar_iload_n (n := 1) C dX11_spot_62 rfl rfl ?_
  refine cS1 (ar := [.int day]) (st := []) C lkX11_343 (k_noon M day) (by decide) rfl (Nat.le_of_ble_eq_true rfl) rfl dX11_spot_63 ?_
  refine ar_iload_n (n := 2) C dX11_spot_66 rfl rfl ?_
  refine ar_iload_n (n := 3) C dX11_spot_67 rfl rfl ?_
  refine cS1 (ar := [.int (f_noon day), .int hour, .int h]) (st := []) C lkX11_346 (k_ahead M (f_noon day) hour h) (by decide) rfl (Nat.le_of_ble_eq_true rfl) rfl dX11_spot_68 ?_
  exact ar_ireturn C rfl dX11_spot_71 ⟨rfl, rfl, rfl⟩
set_option maxHeartbeats 4000000 in
set_option maxRecDepth 100000 in
theorem x_joined_bad (M : Mm) (a b w : Int32)  (hbad : (f_in a 0 7 && f_in b 0 7 && f_in w 0 3) = false) : AX mX11_joined 3 [.ref 0, .int a, .int b, .int w] M (some (.int (-1000001))) M := by
  refine AM_ofF (by decide +kernel) (Nat.le_of_ble_eq_true rfl) (fun X V C _ _ => ?_)
  show AW X V mX11_joined.2.2.1 T0 M 0 0 _ 0 [(0, .ref 0), (1, .int a), (2, .int b), (3, .int w)] []
  refine ar_iload_n (n := 1) C dX11_joined_0 rfl rfl ?_
  refine cS1 (ar := [.int a]) (st := []) C lkX11_213 (k_isTrace M a) (by decide) rfl (Nat.le_of_ble_eq_true rfl) rfl dX11_joined_1 ?_
  refine ar_if_eqB (tgt := 23) C dX11_joined_4 (by decide) (fun c_1 => ?_) (fun c_1 => ?_)
  · refine ar_ldc C kcX11_98 dX11_joined_23 ?_
    exact ar_ireturn C rfl dX11_joined_25 ⟨rfl, rfl, rfl⟩
  · refine ar_iload_n (n := 2) C dX11_joined_7 rfl rfl ?_
    refine cS1 (ar := [.int b]) (st := []) C lkX11_213 (k_isTrace M b) (by decide) rfl (Nat.le_of_ble_eq_true rfl) rfl dX11_joined_8 ?_
    refine ar_if_eqB (tgt := 23) C dX11_joined_11 (by decide) (fun c_2 => ?_) (fun c_2 => ?_)
    · refine ar_ldc C kcX11_98 dX11_joined_23 ?_
      exact ar_ireturn C rfl dX11_joined_25 ⟨rfl, rfl, rfl⟩
    · refine ar_iload_n (n := 3) C dX11_joined_14 rfl rfl ?_
      refine ar_iconst (v := 0) C dX11_joined_15 (by decide) ?_
      refine ar_iconst (v := 3) C dX11_joined_16 (by decide) ?_
      refine cS1 (ar := [.int w, .int 0, .int 3]) (st := []) C lkX11_94 (k_within M w 0 3) (by decide) rfl (Nat.le_of_ble_eq_true rfl) rfl dX11_joined_17 ?_
      refine ar_if_neB (tgt := 26) C dX11_joined_20 (by decide) (fun c_3 => ?_) (fun c_3 => ?_)
      · exact absurd hbad (by first | (rw [c_1]; decide) | simp [*])
      · refine ar_ldc C kcX11_98 dX11_joined_23 ?_
        exact ar_ireturn C rfl dX11_joined_25 ⟨rfl, rfl, rfl⟩
set_option maxHeartbeats 4000000 in
set_option maxRecDepth 100000 in
theorem x_joined_0 (M : Mm) {a b : Nat} (ha : a < 8) (hb : b < 8) : AQ mX11_joined 3 [.ref 0, .int (nI a), .int (nI b), .int 0] M (some (.int (nI (q_cm (cH M) a b)))) (JF M) := by
  refine AM_ofF (by decide +kernel) (Nat.le_of_ble_eq_true rfl) (fun X V C _ _ => ?_)
  show AW X V mX11_joined.2.2.1 T0 M 0 0 _ 0 [(0, .ref 0), (1, .int (nI a)), (2, .int (nI b)), (3, .int 0)] []
  refine ar_iload_n (n := 1) C dX11_joined_0 rfl rfl ?_
  refine cS1 (ar := [.int (nI a)]) (st := []) C lkX11_213 (k_isTrace M (nI a)) (by decide) rfl (Nat.le_of_ble_eq_true rfl) rfl dX11_joined_1 ?_
  refine ar_if_eqB (tgt := 23) C dX11_joined_4 (by decide) (fun c_1 => False.elim (Bool.noConfusion ((in7 ha).symm.trans c_1))) (fun _ => ?_)
  refine ar_iload_n (n := 2) C dX11_joined_7 rfl rfl ?_
  refine cS1 (ar := [.int (nI b)]) (st := []) C lkX11_213 (k_isTrace M (nI b)) (by decide) rfl (Nat.le_of_ble_eq_true rfl) rfl dX11_joined_8 ?_
  refine ar_if_eqB (tgt := 23) C dX11_joined_11 (by decide) (fun c_2 => False.elim (Bool.noConfusion ((in7 hb).symm.trans c_2))) (fun _ => ?_)
  refine ar_iload_n (n := 3) C dX11_joined_14 rfl rfl ?_
  refine ar_iconst (v := 0) C dX11_joined_15 (by decide) ?_
  refine ar_iconst (v := 3) C dX11_joined_16 (by decide) ?_
  refine cS1 (ar := [.int 0, .int 0, .int 3]) (st := []) C lkX11_94 (k_within M 0 0 3) (by decide) rfl (Nat.le_of_ble_eq_true rfl) rfl dX11_joined_17 ?_
  refine ar_if_neB (tgt := 26) C dX11_joined_20 (by decide) (fun _ => ?_) (fun c_3 => False.elim (Bool.noConfusion ((show f_in 0 0 3 = true by decide).symm.trans c_3)))
  refine ar_aload_n (n := 0) C dX11_joined_26 rfl rfl ?_
  refine ar_getr C flX11_48 rfl kd_0 rf_0_6 dX11_joined_27 ?_
  refine ar_aload_n (n := 0) C dX11_joined_30 rfl rfl ?_
  refine ar_getr C flX11_41 rfl kd_0 rf_0_5 dX11_joined_31 ?_
  refine ar_iload_n (n := 1) C dX11_joined_34 rfl rfl ?_
  refine ar_aald (j := a) C kd_8 (by decide) (by decide) rfl ha (rf_traces ha) dX11_joined_35 ?_
  refine ar_aload_n (n := 0) C dX11_joined_36 rfl rfl ?_
  refine ar_getr C flX11_41 rfl kd_0 rf_0_5 dX11_joined_37 ?_
  refine ar_iload_n (n := 2) C dX11_joined_40 rfl rfl ?_
  refine ar_aald (j := b) C kd_8 (by decide) (by decide) rfl hb (rf_traces hb) dX11_joined_41 ?_
  refine cV0q (ar := [.ref (62 + 4 * a), .ref (62 + 4 * b)]) (st := []) C lkX11_242 kd_9 (k_jtakeF M (a := a) (b := b) ha hb (h1 := cH M a) (h2 := cH M b) (x1 := cX M a) (x2 := cX M b) (y1 := cY M a) (y2 := cY M b) rfl rfl rfl rfl rfl rfl) (by decide) rfl (Nat.le_of_ble_eq_true rfl) rfl dX11_joined_42 (fun M_4 h_5 => ?_)
  have hc := cm_le (cH M a) (cH M b) 24
  refine ar_iload_n (n := 3) C dX11_joined_45 rfl rfl ?_
  refine ar_if_ne (tgt := 57) C dX11_joined_46 (by decide) (fun c_6 => False.elim (c_6 rfl)) (fun _ => ?_)
  refine ar_aload_n (n := 0) C dX11_joined_49 rfl rfl ?_
  refine ar_getr C flX11_48 rfl kd_0 rf_0_6 dX11_joined_50 ?_
  refine cV1 (ar := []) (st := []) C lkX11_245 kd_9 (k_jcommon M_4) (by decide) rfl (Nat.le_of_ble_eq_true rfl) rfl dX11_joined_53 ?_
  exact ar_ireturn C rfl dX11_joined_56 ⟨by rw [h_5.1]; rfl, rfl, JT_F h_5⟩
set_option maxHeartbeats 4000000 in
set_option maxRecDepth 100000 in
theorem x_joined_1 (M : Mm) {a b : Nat} (ha : a < 8) (hb : b < 8) : AQ mX11_joined 3 [.ref 0, .int (nI a), .int (nI b), .int 1] M (some (.int (if q_cm (cH M) a b = 0 then -1000000 else q_sx (cH M) (cX M) a b))) (JF M) := by
  refine AM_ofF (by decide +kernel) (Nat.le_of_ble_eq_true rfl) (fun X V C _ _ => ?_)
  show AW X V mX11_joined.2.2.1 T0 M 0 0 _ 0 [(0, .ref 0), (1, .int (nI a)), (2, .int (nI b)), (3, .int 1)] []
  refine ar_iload_n (n := 1) C dX11_joined_0 rfl rfl ?_
  refine cS1 (ar := [.int (nI a)]) (st := []) C lkX11_213 (k_isTrace M (nI a)) (by decide) rfl (Nat.le_of_ble_eq_true rfl) rfl dX11_joined_1 ?_
  refine ar_if_eqB (tgt := 23) C dX11_joined_4 (by decide) (fun c_1 => False.elim (Bool.noConfusion ((in7 ha).symm.trans c_1))) (fun _ => ?_)
  refine ar_iload_n (n := 2) C dX11_joined_7 rfl rfl ?_
  refine cS1 (ar := [.int (nI b)]) (st := []) C lkX11_213 (k_isTrace M (nI b)) (by decide) rfl (Nat.le_of_ble_eq_true rfl) rfl dX11_joined_8 ?_
  refine ar_if_eqB (tgt := 23) C dX11_joined_11 (by decide) (fun c_2 => False.elim (Bool.noConfusion ((in7 hb).symm.trans c_2))) (fun _ => ?_)
  refine ar_iload_n (n := 3) C dX11_joined_14 rfl rfl ?_
  refine ar_iconst (v := 0) C dX11_joined_15 (by decide) ?_
  refine ar_iconst (v := 3) C dX11_joined_16 (by decide) ?_
  refine cS1 (ar := [.int 1, .int 0, .int 3]) (st := []) C lkX11_94 (k_within M 1 0 3) (by decide) rfl (Nat.le_of_ble_eq_true rfl) rfl dX11_joined_17 ?_
  refine ar_if_neB (tgt := 26) C dX11_joined_20 (by decide) (fun _ => ?_) (fun c_3 => False.elim (Bool.noConfusion ((show f_in 1 0 3 = true by decide).symm.trans c_3)))
  refine ar_aload_n (n := 0) C dX11_joined_26 rfl rfl ?_
  refine ar_getr C flX11_48 rfl kd_0 rf_0_6 dX11_joined_27 ?_
  refine ar_aload_n (n := 0) C dX11_joined_30 rfl rfl ?_
  refine ar_getr C flX11_41 rfl kd_0 rf_0_5 dX11_joined_31 ?_
  refine ar_iload_n (n := 1) C dX11_joined_34 rfl rfl ?_
  refine ar_aald (j := a) C kd_8 (by decide) (by decide) rfl ha (rf_traces ha) dX11_joined_35 ?_
  refine ar_aload_n (n := 0) C dX11_joined_36 rfl rfl ?_
  refine ar_getr C flX11_41 rfl kd_0 rf_0_5 dX11_joined_37 ?_
  refine ar_iload_n (n := 2) C dX11_joined_40 rfl rfl ?_
  refine ar_aald (j := b) C kd_8 (by decide) (by decide) rfl hb (rf_traces hb) dX11_joined_41 ?_
  refine cV0q (ar := [.ref (62 + 4 * a), .ref (62 + 4 * b)]) (st := []) C lkX11_242 kd_9 (k_jtakeF M (a := a) (b := b) ha hb (h1 := cH M a) (h2 := cH M b) (x1 := cX M a) (x2 := cX M b) (y1 := cY M a) (y2 := cY M b) rfl rfl rfl rfl rfl rfl) (by decide) rfl (Nat.le_of_ble_eq_true rfl) rfl dX11_joined_42 (fun M_4 h_5 => ?_)
  have hc := cm_le (cH M a) (cH M b) 24
  refine ar_iload_n (n := 3) C dX11_joined_45 rfl rfl ?_
  refine ar_if_ne (tgt := 57) C dX11_joined_46 (by decide) (fun _ => ?_) (fun c_6 => False.elim (absurd c_6 (by decide)))
  refine ar_aload_n (n := 0) C dX11_joined_57 rfl rfl ?_
  refine ar_getr C flX11_48 rfl kd_0 rf_0_6 dX11_joined_58 ?_
  refine cV1 (ar := []) (st := []) C lkX11_245 kd_9 (k_jcommon M_4) (by decide) rfl (Nat.le_of_ble_eq_true rfl) rfl dX11_joined_61 ?_
  refine ar_topi (nI (q_cm (cH M) a b)) h_5.1 ?_
  refine ar_if_ne (tgt := 70) C dX11_joined_64 (by decide) (fun c_7 => ?_) (fun c_7 => ?_)
  · have hz : ¬ q_cm (cH M) a b = 0 := fun q => c_7 (by rw [q]; rfl)
    refine ar_iload_n (n := 3) C dX11_joined_70 rfl rfl ?_
    refine ar_iconst (v := 3) C dX11_joined_71 (by decide) ?_
    refine ar_icmp_ne (tgt := 83) C dX11_joined_72 (by decide) (fun _ => ?_) (fun c_8 => False.elim (absurd c_8 (by decide)))
    refine ar_iload_n (n := 3) C dX11_joined_83 rfl rfl ?_
    refine ar_iconst (v := 1) C dX11_joined_84 (by decide) ?_
    refine ar_icmp_ne (tgt := 98) C dX11_joined_85 (by decide) (fun c_9 => False.elim (c_9 rfl)) (fun _ => ?_)
    refine ar_aload_n (n := 0) C dX11_joined_88 rfl rfl ?_
    refine ar_getr C flX11_48 rfl kd_0 rf_0_6 dX11_joined_89 ?_
    refine cV1 (ar := []) (st := []) C lkX11_251 kd_9 (k_jacross M_4 (n := q_cm (cH M) a b) h_5.1 hc) (by decide) rfl (Nat.le_of_ble_eq_true rfl) rfl dX11_joined_92 ?_
    refine ar_goto (tgt := 105) C dX11_joined_95 (by decide) ?_
    exact ar_ireturn C rfl dX11_joined_105 ⟨by rw [if_neg hz, jt_sx h_5], rfl, JT_F h_5⟩
  · have hz : q_cm (cH M) a b = 0 := (nI_eq (a := q_cm (cH M) a b) (b := 0) (Nat.lt_of_le_of_lt hc (by decide)) (by decide)).mp c_7
    refine ar_ldc C kcX11_237 dX11_joined_67 ?_
    exact ar_ireturn C rfl dX11_joined_69 ⟨by rw [if_pos hz], rfl, JT_F h_5⟩
set_option maxHeartbeats 4000000 in
set_option maxRecDepth 100000 in
theorem x_joined_2 (M : Mm) {a b : Nat} (ha : a < 8) (hb : b < 8) : AQ mX11_joined 3 [.ref 0, .int (nI a), .int (nI b), .int 2] M (some (.int (if q_cm (cH M) a b = 0 then -1000000 else q_sx (cH M) (cY M) a b))) (JF M) := by
  refine AM_ofF (by decide +kernel) (Nat.le_of_ble_eq_true rfl) (fun X V C _ _ => ?_)
  show AW X V mX11_joined.2.2.1 T0 M 0 0 _ 0 [(0, .ref 0), (1, .int (nI a)), (2, .int (nI b)), (3, .int 2)] []
  refine ar_iload_n (n := 1) C dX11_joined_0 rfl rfl ?_
  refine cS1 (ar := [.int (nI a)]) (st := []) C lkX11_213 (k_isTrace M (nI a)) (by decide) rfl (Nat.le_of_ble_eq_true rfl) rfl dX11_joined_1 ?_
  refine ar_if_eqB (tgt := 23) C dX11_joined_4 (by decide) (fun c_1 => False.elim (Bool.noConfusion ((in7 ha).symm.trans c_1))) (fun _ => ?_)
  refine ar_iload_n (n := 2) C dX11_joined_7 rfl rfl ?_
  refine cS1 (ar := [.int (nI b)]) (st := []) C lkX11_213 (k_isTrace M (nI b)) (by decide) rfl (Nat.le_of_ble_eq_true rfl) rfl dX11_joined_8 ?_
  refine ar_if_eqB (tgt := 23) C dX11_joined_11 (by decide) (fun c_2 => False.elim (Bool.noConfusion ((in7 hb).symm.trans c_2))) (fun _ => ?_)
  refine ar_iload_n (n := 3) C dX11_joined_14 rfl rfl ?_
  refine ar_iconst (v := 0) C dX11_joined_15 (by decide) ?_
  refine ar_iconst (v := 3) C dX11_joined_16 (by decide) ?_
  refine cS1 (ar := [.int 2, .int 0, .int 3]) (st := []) C lkX11_94 (k_within M 2 0 3) (by decide) rfl (Nat.le_of_ble_eq_true rfl) rfl dX11_joined_17 ?_
  refine ar_if_neB (tgt := 26) C dX11_joined_20 (by decide) (fun _ => ?_) (fun c_3 => False.elim (Bool.noConfusion ((show f_in 2 0 3 = true by decide).symm.trans c_3)))
  refine ar_aload_n (n := 0) C dX11_joined_26 rfl rfl ?_
  refine ar_getr C flX11_48 rfl kd_0 rf_0_6 dX11_joined_27 ?_
  refine ar_aload_n (n := 0) C dX11_joined_30 rfl rfl ?_
  refine ar_getr C flX11_41 rfl kd_0 rf_0_5 dX11_joined_31 ?_
  refine ar_iload_n (n := 1) C dX11_joined_34 rfl rfl ?_
  refine ar_aald (j := a) C kd_8 (by decide) (by decide) rfl ha (rf_traces ha) dX11_joined_35 ?_
  refine ar_aload_n (n := 0) C dX11_joined_36 rfl rfl ?_
  refine ar_getr C flX11_41 rfl kd_0 rf_0_5 dX11_joined_37 ?_
  refine ar_iload_n (n := 2) C dX11_joined_40 rfl rfl ?_
  refine ar_aald (j := b) C kd_8 (by decide) (by decide) rfl hb (rf_traces hb) dX11_joined_41 ?_
  refine cV0q (ar := [.ref (62 + 4 * a), .ref (62 + 4 * b)]) (st := []) C lkX11_242 kd_9 (k_jtakeF M (a := a) (b := b) ha hb (h1 := cH M a) (h2 := cH M b) (x1 := cX M a) (x2 := cX M b) (y1 := cY M a) (y2 := cY M b) rfl rfl rfl rfl rfl rfl) (by decide) rfl (Nat.le_of_ble_eq_true rfl) rfl dX11_joined_42 (fun M_4 h_5 => ?_)
  have hc := cm_le (cH M a) (cH M b) 24
  refine ar_iload_n (n := 3) C dX11_joined_45 rfl rfl ?_
  refine ar_if_ne (tgt := 57) C dX11_joined_46 (by decide) (fun _ => ?_) (fun c_6 => False.elim (absurd c_6 (by decide)))
  refine ar_aload_n (n := 0) C dX11_joined_57 rfl rfl ?_
  refine ar_getr C flX11_48 rfl kd_0 rf_0_6 dX11_joined_58 ?_
  refine cV1 (ar := []) (st := []) C lkX11_245 kd_9 (k_jcommon M_4) (by decide) rfl (Nat.le_of_ble_eq_true rfl) rfl dX11_joined_61 ?_
  refine ar_topi (nI (q_cm (cH M) a b)) h_5.1 ?_
  refine ar_if_ne (tgt := 70) C dX11_joined_64 (by decide) (fun c_7 => ?_) (fun c_7 => ?_)
  · have hz : ¬ q_cm (cH M) a b = 0 := fun q => c_7 (by rw [q]; rfl)
    refine ar_iload_n (n := 3) C dX11_joined_70 rfl rfl ?_
    refine ar_iconst (v := 3) C dX11_joined_71 (by decide) ?_
    refine ar_icmp_ne (tgt := 83) C dX11_joined_72 (by decide) (fun _ => ?_) (fun c_8 => False.elim (absurd c_8 (by decide)))
    refine ar_iload_n (n := 3) C dX11_joined_83 rfl rfl ?_
    refine ar_iconst (v := 1) C dX11_joined_84 (by decide) ?_
    refine ar_icmp_ne (tgt := 98) C dX11_joined_85 (by decide) (fun _ => ?_) (fun c_9 => False.elim (absurd c_9 (by decide)))
    refine ar_aload_n (n := 0) C dX11_joined_98 rfl rfl ?_
    refine ar_getr C flX11_48 rfl kd_0 rf_0_6 dX11_joined_99 ?_
    refine cV1 (ar := []) (st := []) C lkX11_254 kd_9 (k_jup M_4 (n := q_cm (cH M) a b) h_5.2.1 hc) (by decide) rfl (Nat.le_of_ble_eq_true rfl) rfl dX11_joined_102 ?_
    exact ar_ireturn C rfl dX11_joined_105 ⟨by rw [if_neg hz, jt_sy h_5], rfl, JT_F h_5⟩
  · have hz : q_cm (cH M) a b = 0 := (nI_eq (a := q_cm (cH M) a b) (b := 0) (Nat.lt_of_le_of_lt hc (by decide)) (by decide)).mp c_7
    refine ar_ldc C kcX11_237 dX11_joined_67 ?_
    exact ar_ireturn C rfl dX11_joined_69 ⟨by rw [if_pos hz], rfl, JT_F h_5⟩
set_option maxHeartbeats 4000000 in
set_option maxRecDepth 100000 in
theorem x_joined_3 (M : Mm) {a b : Nat} (ha : a < 8) (hb : b < 8) : AQ mX11_joined 3 [.ref 0, .int (nI a), .int (nI b), .int 3] M (some (.int (if q_cm (cH M) a b = 0 then -1000000 else q_ms (cH M) (cX M) (cY M) a b))) (JF M) := by
  refine AM_ofF (by decide +kernel) (Nat.le_of_ble_eq_true rfl) (fun X V C _ _ => ?_)
  show AW X V mX11_joined.2.2.1 T0 M 0 0 _ 0 [(0, .ref 0), (1, .int (nI a)), (2, .int (nI b)), (3, .int 3)] []
  refine ar_iload_n (n := 1) C dX11_joined_0 rfl rfl ?_
  refine cS1 (ar := [.int (nI a)]) (st := []) C lkX11_213 (k_isTrace M (nI a)) (by decide) rfl (Nat.le_of_ble_eq_true rfl) rfl dX11_joined_1 ?_
  refine ar_if_eqB (tgt := 23) C dX11_joined_4 (by decide) (fun c_1 => False.elim (Bool.noConfusion ((in7 ha).symm.trans c_1))) (fun _ => ?_)
  refine ar_iload_n (n := 2) C dX11_joined_7 rfl rfl ?_
  refine cS1 (ar := [.int (nI b)]) (st := []) C lkX11_213 (k_isTrace M (nI b)) (by decide) rfl (Nat.le_of_ble_eq_true rfl) rfl dX11_joined_8 ?_
  refine ar_if_eqB (tgt := 23) C dX11_joined_11 (by decide) (fun c_2 => False.elim (Bool.noConfusion ((in7 hb).symm.trans c_2))) (fun _ => ?_)
  refine ar_iload_n (n := 3) C dX11_joined_14 rfl rfl ?_
  refine ar_iconst (v := 0) C dX11_joined_15 (by decide) ?_
  refine ar_iconst (v := 3) C dX11_joined_16 (by decide) ?_
  refine cS1 (ar := [.int 3, .int 0, .int 3]) (st := []) C lkX11_94 (k_within M 3 0 3) (by decide) rfl (Nat.le_of_ble_eq_true rfl) rfl dX11_joined_17 ?_
  refine ar_if_neB (tgt := 26) C dX11_joined_20 (by decide) (fun _ => ?_) (fun c_3 => False.elim (Bool.noConfusion ((show f_in 3 0 3 = true by decide).symm.trans c_3)))
  refine ar_aload_n (n := 0) C dX11_joined_26 rfl rfl ?_
  refine ar_getr C flX11_48 rfl kd_0 rf_0_6 dX11_joined_27 ?_
  refine ar_aload_n (n := 0) C dX11_joined_30 rfl rfl ?_
  refine ar_getr C flX11_41 rfl kd_0 rf_0_5 dX11_joined_31 ?_
  refine ar_iload_n (n := 1) C dX11_joined_34 rfl rfl ?_
  refine ar_aald (j := a) C kd_8 (by decide) (by decide) rfl ha (rf_traces ha) dX11_joined_35 ?_
  refine ar_aload_n (n := 0) C dX11_joined_36 rfl rfl ?_
  refine ar_getr C flX11_41 rfl kd_0 rf_0_5 dX11_joined_37 ?_
  refine ar_iload_n (n := 2) C dX11_joined_40 rfl rfl ?_
  refine ar_aald (j := b) C kd_8 (by decide) (by decide) rfl hb (rf_traces hb) dX11_joined_41 ?_
  refine cV0q (ar := [.ref (62 + 4 * a), .ref (62 + 4 * b)]) (st := []) C lkX11_242 kd_9 (k_jtakeF M (a := a) (b := b) ha hb (h1 := cH M a) (h2 := cH M b) (x1 := cX M a) (x2 := cX M b) (y1 := cY M a) (y2 := cY M b) rfl rfl rfl rfl rfl rfl) (by decide) rfl (Nat.le_of_ble_eq_true rfl) rfl dX11_joined_42 (fun M_4 h_5 => ?_)
  have hc := cm_le (cH M a) (cH M b) 24
  refine ar_iload_n (n := 3) C dX11_joined_45 rfl rfl ?_
  refine ar_if_ne (tgt := 57) C dX11_joined_46 (by decide) (fun _ => ?_) (fun c_6 => False.elim (absurd c_6 (by decide)))
  refine ar_aload_n (n := 0) C dX11_joined_57 rfl rfl ?_
  refine ar_getr C flX11_48 rfl kd_0 rf_0_6 dX11_joined_58 ?_
  refine cV1 (ar := []) (st := []) C lkX11_245 kd_9 (k_jcommon M_4) (by decide) rfl (Nat.le_of_ble_eq_true rfl) rfl dX11_joined_61 ?_
  refine ar_topi (nI (q_cm (cH M) a b)) h_5.1 ?_
  refine ar_if_ne (tgt := 70) C dX11_joined_64 (by decide) (fun c_7 => ?_) (fun c_7 => ?_)
  · have hz : ¬ q_cm (cH M) a b = 0 := fun q => c_7 (by rw [q]; rfl)
    refine ar_iload_n (n := 3) C dX11_joined_70 rfl rfl ?_
    refine ar_iconst (v := 3) C dX11_joined_71 (by decide) ?_
    refine ar_icmp_ne (tgt := 83) C dX11_joined_72 (by decide) (fun c_8 => False.elim (c_8 rfl)) (fun _ => ?_)
    refine ar_aload_n (n := 0) C dX11_joined_75 rfl rfl ?_
    refine ar_getr C flX11_48 rfl kd_0 rf_0_6 dX11_joined_76 ?_
    refine cV1 (ar := []) (st := []) C lkX11_248 kd_9 (k_jmis M_4 (n := q_cm (cH M) a b) h_5.1 h_5.2.1 hc) (by decide) rfl (Nat.le_of_ble_eq_true rfl) rfl dX11_joined_79 ?_
    exact ar_ireturn C rfl dX11_joined_82 ⟨by rw [if_neg hz, jt_ms h_5], rfl, JT_F h_5⟩
  · have hz : q_cm (cH M) a b = 0 := (nI_eq (a := q_cm (cH M) a b) (b := 0) (Nat.lt_of_le_of_lt hc (by decide)) (by decide)).mp c_7
    refine ar_ldc C kcX11_237 dX11_joined_67 ?_
    exact ar_ireturn C rfl dX11_joined_69 ⟨by rw [if_pos hz], rfl, JT_F h_5⟩
