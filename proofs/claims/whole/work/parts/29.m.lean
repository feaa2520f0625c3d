/-! THE MODEL: pictures of a thing -/
set_option maxHeartbeats 4000000 in
set_option maxRecDepth 100000 in
theorem m_firstOf (M : Mm) {t : Nat} (ht : t < 24) {ρ β : Nat → Int32} {x y z : Int32} (h : MT M t ρ β x y z) (dp : Int32) : AX mX12_firstOf 0 [.ref 96, .int (nI t), .int dp] M (some (.int (f_by (-x * dp) z))) M := by
  obtain ⟨rfl, rfl, rfl, rfl, rfl, h6, h7, h8⟩ := h
  obtain ⟨x1, x2, x3, x4⟩ := RT_x h8
  refine AM_ofF (by decide +kernel) (Nat.le_of_ble_eq_true rfl) (fun X V C _ _ => ?_)
  show AW X V mX12_firstOf.2.2.1 T0 M 0 0 _ 0 [(0, .ref 96), (1, .int (nI t)), (2, .int dp)] []
  refine ar_aload_n (n := 0) C dX12_firstOf_0 rfl rfl ?_
  refine ar_getr C flX12_25 rfl kd_96 rf_96_8 dX12_firstOf_1 ?_
  refine ar_iload_n (n := 1) C dX12_firstOf_4 rfl rfl ?_
  refine ar_iald (j := t) C kd_102 rfl ht dX12_firstOf_5 ?_
  refine ar_ineg C dX12_firstOf_6 ?_
  refine ar_iload_n (n := 2) C dX12_firstOf_7 rfl rfl ?_
  refine ar_imul C dX12_firstOf_8 ?_
  refine ar_aload_n (n := 0) C dX12_firstOf_9 rfl rfl ?_
  refine ar_getr C flX12_31 rfl kd_96 rf_96_10 dX12_firstOf_10 ?_
  refine ar_iload_n (n := 1) C dX12_firstOf_13 rfl rfl ?_
  refine ar_iald (j := t) C kd_104 rfl ht dX12_firstOf_14 ?_
  refine ar_idiv C dX12_firstOf_15 (ne_0 x3) ?_
  exact ar_ireturn C rfl dX12_firstOf_16 ⟨by rw [by_ne (ne_0 x3)], rfl, rfl⟩
set_option maxHeartbeats 4000000 in
set_option maxRecDepth 100000 in
theorem m_columnOf (M : Mm) {t : Nat} (ht : t < 24) {ρ β : Nat → Int32} {x y z : Int32} (h : MT M t ρ β x y z) (dp : Int32) (hd : na dp ≤ 1050) : AX mX12_columnOf 1 [.ref 96, .int (nI t), .int dp] M (some (.int (f_colc (f_by (-x * dp) z)))) M := by
  have h0 := h
  obtain ⟨_, _, _, _, _, h6, h7, h8⟩ := h0
  obtain ⟨x1, x2, x3, x4⟩ := RT_x h8
  have hv : na (f_by (-x * dp) z + 10) ≤ 2000000 := Nat.le_trans (t_add (first_n x1 hd) (show na 10 ≤ 10 by decide) (by decide)).2 (by decide)
  refine AM_ofF (by decide +kernel) (Nat.le_of_ble_eq_true rfl) (fun X V C _ _ => ?_)
  show AW X V mX12_columnOf.2.2.1 T0 M 0 0 _ 0 [(0, .ref 96), (1, .int (nI t)), (2, .int dp)] []
  refine ar_aload_n (n := 0) C dX12_columnOf_0 rfl rfl ?_
  refine ar_iload_n (n := 1) C dX12_columnOf_1 rfl rfl ?_
  refine ar_iload_n (n := 2) C dX12_columnOf_2 rfl rfl ?_
  refine cV1 (ar := [.int (nI t), .int dp]) (st := []) C lkX12_113 kd_96 (m_firstOf M (t := t) ht h dp) (by decide) rfl (Nat.le_of_ble_eq_true rfl) rfl dX12_columnOf_3 ?_
  refine ar_bipush (v := 10) C dX12_columnOf_6 (by decide) ?_
  refine ar_iadd C dX12_columnOf_8 ?_
  refine ar_istore_n (als' := [(3, .int ((f_by (-x * dp) z) + 10)), (0, .ref 96), (1, .int (nI t)), (2, .int dp)]) C dX12_columnOf_9 rfl (by decide) rfl ?_
  refine ar_iload_n (n := 0) C dX12_columnOf_10 rfl rfl ?_
  refine ar_if_ge (tgt := 25) C dX12_columnOf_11 (by decide) (fun c_1 => ?_) (fun c_1 => ?_)
  · refine ar_iload_n (n := 0) C dX12_columnOf_25 rfl rfl ?_
    refine ar_bipush (v := 20) C dX12_columnOf_26 (by decide) ?_
    refine ar_idiv C dX12_columnOf_28 (by decide) ?_
    refine ar_topi (f_fdiv (f_by (-x * dp) z + 10) 20) (fdiv_p c_1).symm ?_
    refine ar_istore (als' := [(4, .int (f_fdiv (f_by (-x * dp) z + 10) 20)), (3, .int ((f_by (-x * dp) z) + 10)), (0, .ref 96), (1, .int (nI t)), (2, .int dp)]) C dX12_columnOf_29 (by decide) rfl ?_
    refine ar_iload (n := 0) C dX12_columnOf_31 rfl ?_
    refine ar_bipush (v := (-8)) C dX12_columnOf_33 (by decide) ?_
    refine ar_icmp_ge (tgt := 43) C dX12_columnOf_35 (by decide) (fun c_2 => ?_) (fun c_2 => ?_)
    · refine ar_iload (n := 0) C dX12_columnOf_43 rfl ?_
      refine ar_bipush (v := 8) C dX12_columnOf_45 (by decide) ?_
      refine ar_icmp_le (tgt := 55) C dX12_columnOf_47 (by decide) (fun c_3 => ?_) (fun c_3 => ?_)
      · refine ar_iload (n := 0) C dX12_columnOf_55 rfl ?_
        exact ar_ireturn C rfl dX12_columnOf_57 ⟨by unfold f_colc; first | rw [cl_mid (by assumption) (by assumption)] | rw [cl_hi (by assumption)] | rw [cl_lo (by assumption)], rfl, rfl⟩
      · refine ar_bipush (v := 8) C dX12_columnOf_50 (by decide) ?_
        refine ar_goto (tgt := 57) C dX12_columnOf_52 (by decide) ?_
        exact ar_ireturn C rfl dX12_columnOf_57 ⟨by unfold f_colc; first | rw [cl_mid (by assumption) (by assumption)] | rw [cl_hi (by assumption)] | rw [cl_lo (by assumption)], rfl, rfl⟩
    · refine ar_bipush (v := (-8)) C dX12_columnOf_38 (by decide) ?_
      refine ar_goto (tgt := 57) C dX12_columnOf_40 (by decide) ?_
      exact ar_ireturn C rfl dX12_columnOf_57 ⟨by unfold f_colc; first | rw [cl_mid (by assumption) (by assumption)] | rw [cl_hi (by assumption)] | rw [cl_lo (by assumption)], rfl, rfl⟩
  · refine ar_bipush (v := 19) C dX12_columnOf_14 (by decide) ?_
    refine ar_iload_n (n := 0) C dX12_columnOf_16 rfl rfl ?_
    refine ar_isub C dX12_columnOf_17 ?_
    refine ar_bipush (v := 20) C dX12_columnOf_18 (by decide) ?_
    refine ar_idiv C dX12_columnOf_20 (by decide) ?_
    refine ar_ineg C dX12_columnOf_21 ?_
    refine ar_topi (f_fdiv (f_by (-x * dp) z + 10) 20) (fdiv_m hv (by rw [Int32.not_le]; exact Int32.not_le.mp c_1)).symm ?_
    refine ar_goto (tgt := 29) C dX12_columnOf_22 (by decide) ?_
    refine ar_istore (als' := [(4, .int (f_fdiv (f_by (-x * dp) z + 10) 20)), (3, .int ((f_by (-x * dp) z) + 10)), (0, .ref 96), (1, .int (nI t)), (2, .int dp)]) C dX12_columnOf_29 (by decide) rfl ?_
    refine ar_iload (n := 0) C dX12_columnOf_31 rfl ?_
    refine ar_bipush (v := (-8)) C dX12_columnOf_33 (by decide) ?_
    refine ar_icmp_ge (tgt := 43) C dX12_columnOf_35 (by decide) (fun c_4 => ?_) (fun c_4 => ?_)
    · refine ar_iload (n := 0) C dX12_columnOf_43 rfl ?_
      refine ar_bipush (v := 8) C dX12_columnOf_45 (by decide) ?_
      refine ar_icmp_le (tgt := 55) C dX12_columnOf_47 (by decide) (fun c_5 => ?_) (fun c_5 => ?_)
      · refine ar_iload (n := 0) C dX12_columnOf_55 rfl ?_
        exact ar_ireturn C rfl dX12_columnOf_57 ⟨by unfold f_colc; first | rw [cl_mid (by assumption) (by assumption)] | rw [cl_hi (by assumption)] | rw [cl_lo (by assumption)], rfl, rfl⟩
      · refine ar_bipush (v := 8) C dX12_columnOf_50 (by decide) ?_
        refine ar_goto (tgt := 57) C dX12_columnOf_52 (by decide) ?_
        exact ar_ireturn C rfl dX12_columnOf_57 ⟨by unfold f_colc; first | rw [cl_mid (by assumption) (by assumption)] | rw [cl_hi (by assumption)] | rw [cl_lo (by assumption)], rfl, rfl⟩
    · refine ar_bipush (v := (-8)) C dX12_columnOf_38 (by decide) ?_
      refine ar_goto (tgt := 57) C dX12_columnOf_40 (by decide) ?_
      exact ar_ireturn C rfl dX12_columnOf_57 ⟨by unfold f_colc; first | rw [cl_mid (by assumption) (by assumption)] | rw [cl_hi (by assumption)] | rw [cl_lo (by assumption)], rfl, rfl⟩
set_option maxHeartbeats 4000000 in
set_option maxRecDepth 100000 in
theorem m_farBy (M : Mm) {t : Nat} (ht : t < 24) {ρ β : Nat → Int32} {x y z : Int32} (h : MT M t ρ β x y z) (dp : Int32) (hd1 : 1 ≤ dp.toInt) (hd2 : dp.toInt ≤ 1000) : AX mX12_farBy 2 [.ref 96, .int (nI t), .int dp] M (some (.int (f_far β x z dp))) M := by
  have h0 := h
  obtain ⟨e1, e2, e3, e4, e5, h6, h7, h8⟩ := h0
  obtain ⟨x1, x2, x3, x4⟩ := RT_x h8
  refine AM_ofF (by decide +kernel) (Nat.le_of_ble_eq_true rfl) (fun X V C _ _ => ?_)
  show AW X V mX12_farBy.2.2.1 T0 M 0 0 _ 0 [(0, .ref 96), (1, .int (nI t)), (2, .int dp)] []
  refine ar_iload_n (n := 2) C dX12_farBy_0 rfl rfl ?_
  refine ar_aload_n (n := 0) C dX12_farBy_1 rfl rfl ?_
  refine ar_getr C flX12_22 rfl kd_96 rf_96_6 dX12_farBy_2 ?_
  refine ar_aload_n (n := 0) C dX12_farBy_5 rfl rfl ?_
  refine ar_iload_n (n := 1) C dX12_farBy_6 rfl rfl ?_
  refine ar_iload_n (n := 2) C dX12_farBy_7 rfl rfl ?_
  refine cV1 (ar := [.int (nI t), .int dp]) (st := [.ref 101, .int dp]) C lkX12_117 kd_96 (m_columnOf M (t := t) ht h dp (by simp only [na]; omega)) (by decide) rfl (Nat.le_of_ble_eq_true rfl) rfl dX12_farBy_8 ?_
  refine ar_bipush (v := 8) C dX12_farBy_11 (by decide) ?_
  refine ar_iadd C dX12_farBy_13 ?_
  refine ar_iald (j := cix (f_by (-x * dp) z)) C kd_101 (cix_ok _).1 (cix_ok _).2 dX12_farBy_14 ?_
  refine ar_iadd C dX12_farBy_15 ?_
  refine ar_istore_n (als' := [(3, .int (dp + (M.1 101 (cix (f_by (-x * dp) z))))), (0, .ref 96), (1, .int (nI t)), (2, .int dp)]) C dX12_farBy_16 rfl (by decide) rfl ?_
  refine ar_iload_n (n := 0) C dX12_farBy_17 rfl rfl ?_
  refine ar_iconst (v := 1) C dX12_farBy_18 (by decide) ?_
  refine ar_icmp_ge (tgt := 26) C dX12_farBy_19 (by decide) (fun c_1 => ?_) (fun c_1 => ?_)
  · refine ar_iload_n (n := 0) C dX12_farBy_26 rfl rfl ?_
    exact ar_ireturn C rfl dX12_farBy_27 ⟨by unfold f_far; rw [← e2]; first | rw [far_m (by assumption)] | rw [far_1 (by assumption)], rfl, rfl⟩
  · refine ar_iconst (v := 1) C dX12_farBy_22 (by decide) ?_
    refine ar_goto (tgt := 27) C dX12_farBy_23 (by decide) ?_
    exact ar_ireturn C rfl dX12_farBy_27 ⟨by unfold f_far; rw [← e2]; first | rw [far_m (by assumption)] | rw [far_1 (by assumption)], rfl, rfl⟩
set_option maxHeartbeats 4000000 in
set_option maxRecDepth 100000 in
theorem m_acrossOf (M : Mm) {t : Nat} (ht : t < 24) {ρ β : Nat → Int32} {x y z : Int32} (h : MT M t ρ β x y z) : AX mX12_acrossOf 3 [.ref 96, .int (nI t)] M (some (.int (P_x ρ β x z))) M := by
  have h0 := h
  obtain ⟨e1, e2, e3, e4, e5, h6, h7, h8⟩ := h0
  obtain ⟨x1, x2, x3, x4⟩ := RT_x h8
  refine AM_ofF (by decide +kernel) (Nat.le_of_ble_eq_true rfl) (fun X V C _ _ => ?_)
  show AW X V mX12_acrossOf.2.2.1 T0 M 0 0 _ 0 [(0, .ref 96), (1, .int (nI t))] []
  refine ar_aload_n (n := 0) C dX12_acrossOf_0 rfl rfl ?_
  refine ar_getr C flX12_25 rfl kd_96 rf_96_8 dX12_acrossOf_1 ?_
  refine ar_iload_n (n := 1) C dX12_acrossOf_4 rfl rfl ?_
  refine ar_iald (j := t) C kd_102 rfl ht dX12_acrossOf_5 ?_
  refine ar_topi x e3 ?_
  refine ar_ineg C dX12_acrossOf_6 ?_
  refine ar_aload_n (n := 0) C dX12_acrossOf_7 rfl rfl ?_
  refine ar_iload_n (n := 1) C dX12_acrossOf_8 rfl rfl ?_
  refine ar_aload_n (n := 0) C dX12_acrossOf_9 rfl rfl ?_
  refine ar_getr C flX12_19 rfl kd_96 rf_96_5 dX12_acrossOf_10 ?_
  refine ar_iconst (v := 2) C dX12_acrossOf_13 (by decide) ?_
  refine ar_iald (j := 2) C kd_100 (by decide) (by decide) dX12_acrossOf_14 ?_
  refine ar_topi (ρ 2) (congrFun e1 2) ?_
  refine cV1 (ar := [.int (nI t), .int (ρ 2)]) (st := [.int (-x)]) C lkX12_120 kd_96 (m_farBy M (t := t) ht h (ρ 2) (RR_2 h6).1 (RR_2 h6).2) (by decide) rfl (Nat.le_of_ble_eq_true rfl) rfl dX12_acrossOf_15 ?_
  refine ar_imul C dX12_acrossOf_18 ?_
  refine ar_aload_n (n := 0) C dX12_acrossOf_19 rfl rfl ?_
  refine ar_getr C flX12_31 rfl kd_96 rf_96_10 dX12_acrossOf_20 ?_
  refine ar_iload_n (n := 1) C dX12_acrossOf_23 rfl rfl ?_
  refine ar_iald (j := t) C kd_104 rfl ht dX12_acrossOf_24 ?_
  refine ar_topi z e5 ?_
  refine ar_idiv C dX12_acrossOf_25 (ne_0 x3) ?_
  exact ar_ireturn C rfl dX12_acrossOf_26 ⟨by unfold P_x; rw [by_ne (ne_0 x3)], rfl, rfl⟩
theorem py_1 {ρ β : Nat → Int32} {x y z : Int32} (hz : ¬ z = 0) (h : ρ 3 = 1) : y * f_far β x z (ρ 2) / z = P_y ρ β x y z := by
  unfold P_y; rw [if_pos h, by_ne hz]
theorem py_0 {ρ β : Nat → Int32} {x y z : Int32} (h8 : RT x y z) (h6 : RR ρ) (h7 : RB β) (h : ¬ ρ 3 = 1) : -(y * f_far β x z (ρ 2) / z) = P_y ρ β x y z := by
  obtain ⟨x1, x2, x3, x4⟩ := RT_x h8
  have f := far_n h7 (x := x) (z := z) (RR_2 h6).1 (RR_2 h6).2
  have m := (t_mul (b := f_far β x z (ρ 2)) (B := 1050) x2 (by simp only [na]; omega) (by decide)).2
  unfold P_y; rw [if_neg h, by_ne (ne_0 x3), Int32.neg_mul, neg_div (Nat.le_trans m (by decide))]
set_option maxHeartbeats 4000000 in
set_option maxRecDepth 100000 in
theorem m_downOf (M : Mm) {t : Nat} (ht : t < 24) {ρ β : Nat → Int32} {x y z : Int32} (h : MT M t ρ β x y z) : AX mX12_downOf 3 [.ref 96, .int (nI t)] M (some (.int (P_y ρ β x y z))) M := by
  have h0 := h
  obtain ⟨e1, e2, e3, e4, e5, h6, h7, h8⟩ := h0
  obtain ⟨x1, x2, x3, x4⟩ := RT_x h8
  refine AM_ofF (by decide +kernel) (Nat.le_of_ble_eq_true rfl) (fun X V C _ _ => ?_)
  show AW X V mX12_downOf.2.2.1 T0 M 0 0 _ 0 [(0, .ref 96), (1, .int (nI t))] []
  refine ar_aload_n (n := 0) C dX12_downOf_0 rfl rfl ?_
  refine ar_getr C flX12_28 rfl kd_96 rf_96_9 dX12_downOf_1 ?_
  refine ar_iload_n (n := 1) C dX12_downOf_4 rfl rfl ?_
  refine ar_iald (j := t) C kd_103 rfl ht dX12_downOf_5 ?_
  refine ar_topi y e4 ?_
  refine ar_aload_n (n := 0) C dX12_downOf_6 rfl rfl ?_
  refine ar_iload_n (n := 1) C dX12_downOf_7 rfl rfl ?_
  refine ar_aload_n (n := 0) C dX12_downOf_8 rfl rfl ?_
  refine ar_getr C flX12_19 rfl kd_96 rf_96_5 dX12_downOf_9 ?_
  refine ar_iconst (v := 2) C dX12_downOf_12 (by decide) ?_
  refine ar_iald (j := 2) C kd_100 (by decide) (by decide) dX12_downOf_13 ?_
  refine ar_topi (ρ 2) (congrFun e1 2) ?_
  refine cV1 (ar := [.int (nI t), .int (ρ 2)]) (st := [.int y]) C lkX12_120 kd_96 (m_farBy M (t := t) ht h (ρ 2) (RR_2 h6).1 (RR_2 h6).2) (by decide) rfl (Nat.le_of_ble_eq_true rfl) rfl dX12_downOf_14 ?_
  refine ar_imul C dX12_downOf_17 ?_
  refine ar_aload_n (n := 0) C dX12_downOf_18 rfl rfl ?_
  refine ar_getr C flX12_31 rfl kd_96 rf_96_10 dX12_downOf_19 ?_
  refine ar_iload_n (n := 1) C dX12_downOf_22 rfl rfl ?_
  refine ar_iald (j := t) C kd_104 rfl ht dX12_downOf_23 ?_
  refine ar_topi z e5 ?_
  refine ar_idiv C dX12_downOf_24 (ne_0 x3) ?_
  refine ar_istore_n (als' := [(2, .int ((y * (f_far β x z (ρ 2))) / z)), (0, .ref 96), (1, .int (nI t))]) C dX12_downOf_25 rfl (by decide) rfl ?_
  refine ar_aload_n (n := 1) C dX12_downOf_26 rfl rfl ?_
  refine ar_getr C flX12_19 rfl kd_96 rf_96_5 dX12_downOf_27 ?_
  refine ar_iconst (v := 3) C dX12_downOf_30 (by decide) ?_
  refine ar_iald (j := 3) C kd_100 (by decide) (by decide) dX12_downOf_31 ?_
  refine ar_topi (ρ 3) (congrFun e1 3) ?_
  refine ar_iconst (v := 1) C dX12_downOf_32 (by decide) ?_
  refine ar_icmp_ne (tgt := 40) C dX12_downOf_33 (by decide) (fun c_1 => ?_) (fun c_1 => ?_)
  · refine ar_iload_n (n := 0) C dX12_downOf_40 rfl rfl ?_
    refine ar_ineg C dX12_downOf_41 ?_
    exact ar_ireturn C rfl dX12_downOf_42 ⟨by first | rw [← py_1 (ne_0 x3) c_1] | rw [← py_0 h8 h6 h7 c_1], rfl, rfl⟩
  · refine ar_iload_n (n := 0) C dX12_downOf_36 rfl rfl ?_
    refine ar_goto (tgt := 42) C dX12_downOf_37 (by decide) ?_
    exact ar_ireturn C rfl dX12_downOf_42 ⟨by first | rw [← py_1 (ne_0 x3) c_1] | rw [← py_0 h8 h6 h7 c_1], rfl, rfl⟩
set_option maxHeartbeats 4000000 in
set_option maxRecDepth 100000 in
theorem m_blurBy (M : Mm) {t : Nat} (ht : t < 24) {ρ β : Nat → Int32} {x y z : Int32} (h : MT M t ρ β x y z) (e : Int32) : AX mX12_blurBy 1 [.ref 96, .int (nI t), .int e] M (some (.int (f_blur ρ e z))) M := by
  have h0 := h
  obtain ⟨e1, e2, e3, e4, e5, h6, h7, h8⟩ := h0
  obtain ⟨x1, x2, x3, x4⟩ := RT_x h8
  refine AM_ofF (by decide +kernel) (Nat.le_of_ble_eq_true rfl) (fun X V C _ _ => ?_)
  show AW X V mX12_blurBy.2.2.1 T0 M 0 0 _ 0 [(0, .ref 96), (1, .int (nI t)), (2, .int e)] []
  refine ar_aload_n (n := 0) C dX12_blurBy_0 rfl rfl ?_
  refine ar_getr C flX12_31 rfl kd_96 rf_96_10 dX12_blurBy_1 ?_
  refine ar_iload_n (n := 1) C dX12_blurBy_4 rfl rfl ?_
  refine ar_iald (j := t) C kd_104 rfl ht dX12_blurBy_5 ?_
  refine ar_topi z e5 ?_
  refine ar_istore_n (als' := [(3, .int z), (0, .ref 96), (1, .int (nI t)), (2, .int e)]) C dX12_blurBy_6 rfl (by decide) rfl ?_
  refine ar_aload_n (n := 1) C dX12_blurBy_7 rfl rfl ?_
  refine ar_getr C flX12_19 rfl kd_96 rf_96_5 dX12_blurBy_8 ?_
  refine ar_iconst (v := 0) C dX12_blurBy_11 (by decide) ?_
  refine ar_iald (j := 0) C kd_100 (by decide) (by decide) dX12_blurBy_12 ?_
  refine ar_topi (ρ 0) (congrFun e1 0) ?_
  refine ar_istore (als' := [(4, .int (ρ 0)), (3, .int z), (0, .ref 96), (1, .int (nI t)), (2, .int e)]) C dX12_blurBy_13 (by decide) rfl ?_
  refine ar_iload (n := 0) C dX12_blurBy_15 rfl ?_
  refine ar_if_ne (tgt := 35) C dX12_blurBy_17 (by decide) (fun c_1 => ?_) (fun c_1 => ?_)
  · refine ar_aload_n (n := 2) C dX12_blurBy_35 rfl rfl ?_
    refine ar_getr C flX12_19 rfl kd_96 rf_96_5 dX12_blurBy_36 ?_
    refine ar_iconst (v := 1) C dX12_blurBy_39 (by decide) ?_
    refine ar_iald (j := 1) C kd_100 (by decide) (by decide) dX12_blurBy_40 ?_
    refine ar_topi (ρ 1) (congrFun e1 1) ?_
    refine ar_iload_n (n := 4) C dX12_blurBy_41 rfl rfl ?_
    refine ar_iload_n (n := 1) C dX12_blurBy_42 rfl rfl ?_
    refine ar_iload (n := 0) C dX12_blurBy_43 rfl ?_
    refine ar_isub C dX12_blurBy_45 ?_
    refine ar_imul C dX12_blurBy_46 ?_
    refine ar_iload (n := 0) C dX12_blurBy_47 rfl ?_
    refine ar_iload_n (n := 1) C dX12_blurBy_49 rfl rfl ?_
    refine ar_imul C dX12_blurBy_50 ?_
    refine ar_isub C dX12_blurBy_51 ?_
    refine cS1 (ar := [.int ((e * (z - (ρ 0))) - ((ρ 0) * z))]) (st := [.int (ρ 1)]) C lkX12_123 (k_size M ((e * (z - (ρ 0))) - ((ρ 0) * z))) (by decide) rfl (Nat.le_of_ble_eq_true rfl) rfl dX12_blurBy_52 ?_
    refine ar_imul C dX12_blurBy_55 ?_
    refine ar_iload (n := 0) C dX12_blurBy_56 rfl ?_
    refine ar_iload_n (n := 1) C dX12_blurBy_58 rfl rfl ?_
    refine ar_imul C dX12_blurBy_59 ?_
    refine ar_idiv C dX12_blurBy_60 (fz_ne (RR_0 h6).1 (RR_0 h6).2 c_1 x3 x4) ?_
    exact ar_ireturn C rfl dX12_blurBy_61 ⟨by unfold f_blur; first | rw [if_neg c_1, by_ne (fz_ne (RR_0 h6).1 (RR_0 h6).2 c_1 x3 x4)] | rw [if_pos c_1, by_ne (ne_0 x3)], rfl, rfl⟩
  · refine ar_aload_n (n := 2) C dX12_blurBy_20 rfl rfl ?_
    refine ar_getr C flX12_19 rfl kd_96 rf_96_5 dX12_blurBy_21 ?_
    refine ar_iconst (v := 1) C dX12_blurBy_24 (by decide) ?_
    refine ar_iald (j := 1) C kd_100 (by decide) (by decide) dX12_blurBy_25 ?_
    refine ar_topi (ρ 1) (congrFun e1 1) ?_
    refine ar_iload_n (n := 1) C dX12_blurBy_26 rfl rfl ?_
    refine ar_iload_n (n := 4) C dX12_blurBy_27 rfl rfl ?_
    refine ar_iadd C dX12_blurBy_28 ?_
    refine ar_imul C dX12_blurBy_29 ?_
    refine ar_iload_n (n := 1) C dX12_blurBy_30 rfl rfl ?_
    refine ar_idiv C dX12_blurBy_31 (ne_0 x3) ?_
    refine ar_goto (tgt := 61) C dX12_blurBy_32 (by decide) ?_
    exact ar_ireturn C rfl dX12_blurBy_61 ⟨by unfold f_blur; first | rw [if_neg c_1, by_ne (fz_ne (RR_0 h6).1 (RR_0 h6).2 c_1 x3 x4)] | rw [if_pos c_1, by_ne (ne_0 x3)], rfl, rfl⟩
set_option maxHeartbeats 4000000 in
set_option maxRecDepth 100000 in
theorem m_blurOf (M : Mm) {t : Nat} (ht : t < 24) {ρ β : Nat → Int32} {x y z : Int32} (h : MT M t ρ β x y z) : AX mX12_blurOf 3 [.ref 96, .int (nI t)] M (some (.int (P_blur ρ β x z))) M := by
  have h0 := h
  obtain ⟨e1, e2, e3, e4, e5, h6, h7, h8⟩ := h0
  obtain ⟨x1, x2, x3, x4⟩ := RT_x h8
  refine AM_ofF (by decide +kernel) (Nat.le_of_ble_eq_true rfl) (fun X V C _ _ => ?_)
  show AW X V mX12_blurOf.2.2.1 T0 M 0 0 _ 0 [(0, .ref 96), (1, .int (nI t))] []
  refine ar_aload_n (n := 0) C dX12_blurOf_0 rfl rfl ?_
  refine ar_iload_n (n := 1) C dX12_blurOf_1 rfl rfl ?_
  refine ar_aload_n (n := 0) C dX12_blurOf_2 rfl rfl ?_
  refine ar_iload_n (n := 1) C dX12_blurOf_3 rfl rfl ?_
  refine ar_aload_n (n := 0) C dX12_blurOf_4 rfl rfl ?_
  refine ar_getr C flX12_19 rfl kd_96 rf_96_5 dX12_blurOf_5 ?_
  refine ar_iconst (v := 2) C dX12_blurOf_8 (by decide) ?_
  refine ar_iald (j := 2) C kd_100 (by decide) (by decide) dX12_blurOf_9 ?_
  refine ar_topi (ρ 2) (congrFun e1 2) ?_
  refine cV1 (ar := [.int (nI t), .int (ρ 2)]) (st := [.int (nI t), .ref 96]) C lkX12_120 kd_96 (m_farBy M (t := t) ht h (ρ 2) (RR_2 h6).1 (RR_2 h6).2) (by decide) rfl (Nat.le_of_ble_eq_true rfl) rfl dX12_blurOf_10 ?_
  refine cV1 (ar := [.int (nI t), .int (f_far β x z (ρ 2))]) (st := []) C lkX12_126 kd_96 (m_blurBy M (t := t) ht h (f_far β x z (ρ 2))) (by decide) rfl (Nat.le_of_ble_eq_true rfl) rfl dX12_blurOf_13 ?_
  exact ar_ireturn C rfl dX12_blurOf_16 ⟨rfl, rfl, rfl⟩
theorem px_n {ρ β : Nat → Int32} {x y z : Int32} (h8 : RT x y z) (h6 : RR ρ) (h7 : RB β) : na (P_x ρ β x z) ≤ 2000000 := by
  obtain ⟨x1, x2, x3, x4⟩ := RT_x h8
  have f := far_n h7 (x := x) (z := z) (RR_2 h6).1 (RR_2 h6).2
  exact Nat.le_trans (first_n x1 (by simp only [na]; omega)) (by decide)
theorem py_n {ρ β : Nat → Int32} {x y z : Int32} (h8 : RT x y z) (h6 : RR ρ) (h7 : RB β) : na (P_y ρ β x y z) ≤ 2000000 := by
  obtain ⟨x1, x2, x3, x4⟩ := RT_x h8
  have f := far_n h7 (x := x) (z := z) (RR_2 h6).1 (RR_2 h6).2
  unfold P_y
  by_cases q : ρ 3 = 1
  · rw [if_pos q]; exact Nat.le_trans (first_p x2 (by simp only [na]; omega)) (by decide)
  · rw [if_neg q]; exact Nat.le_trans (first_n x2 (by simp only [na]; omega)) (by decide)
theorem abs_gt {v w : Int32} (hv : na v ≤ 2000000) (hw : 1 ≤ w.toInt) (hw2 : w.toInt ≤ 400) : w < f_abs v ↔ f_in v (-w) w = false := by
  rw [← Bool.not_eq_true, ← abs_le hv hw hw2, Int32.not_le]
set_option maxHeartbeats 4000000 in
set_option maxRecDepth 100000 in
theorem m_isSeen (M : Mm) {t : Nat} (ht : t < 24) {ρ β : Nat → Int32} {x y z : Int32} (h : MT M t ρ β x y z) : AX mX12_isSeen 4 [.ref 96, .int (nI t)] M (some (.int (bI (P_shows ρ β x y z)))) M := by
  have h0 := h
  obtain ⟨e1, e2, e3, e4, e5, h6, h7, h8⟩ := h0
  obtain ⟨x1, x2, x3, x4⟩ := RT_x h8
  refine AM_ofF (by decide +kernel) (Nat.le_of_ble_eq_true rfl) (fun X V C _ _ => ?_)
  show AW X V mX12_isSeen.2.2.1 T0 M 0 0 _ 0 [(0, .ref 96), (1, .int (nI t))] []
  refine ar_aload_n (n := 0) C dX12_isSeen_0 rfl rfl ?_
  refine ar_iload_n (n := 1) C dX12_isSeen_1 rfl rfl ?_
  refine cV1 (ar := [.int (nI t)]) (st := []) C lkX12_129 kd_96 (m_acrossOf M (t := t) ht h) (by decide) rfl (Nat.le_of_ble_eq_true rfl) rfl dX12_isSeen_2 ?_
  refine cS1 (ar := [.int (P_x ρ β x z)]) (st := []) C lkX12_123 (k_size M (P_x ρ β x z)) (by decide) rfl (Nat.le_of_ble_eq_true rfl) rfl dX12_isSeen_5 ?_
  refine ar_aload_n (n := 0) C dX12_isSeen_8 rfl rfl ?_
  refine ar_getr C flX12_19 rfl kd_96 rf_96_5 dX12_isSeen_9 ?_
  refine ar_iconst (v := 5) C dX12_isSeen_12 (by decide) ?_
  refine ar_iald (j := 5) C kd_100 (by decide) (by decide) dX12_isSeen_13 ?_
  refine ar_topi (ρ 5) (congrFun e1 5) ?_
  refine ar_icmp_gt (tgt := 39) C dX12_isSeen_14 (by decide) (fun c_1 => ?_) (fun c_1 => ?_)
  · refine ar_iconst (v := 0) C dX12_isSeen_39 (by decide) ?_
    exact ar_zreturn C rfl rfl dX12_isSeen_40 ⟨by unfold P_shows; first | (rw [(abs_gt (px_n h8 h6 h7) (RR_5 h6).1 (RR_5 h6).2).mp c_1]; rfl) | (rw [(abs_gt (py_n h8 h6 h7) (RR_6 h6).1 (RR_6 h6).2).mp c_2, Bool.and_false]; rfl), rfl, rfl⟩
  · refine ar_aload_n (n := 0) C dX12_isSeen_17 rfl rfl ?_
    refine ar_iload_n (n := 1) C dX12_isSeen_18 rfl rfl ?_
    refine cV1 (ar := [.int (nI t)]) (st := []) C lkX12_132 kd_96 (m_downOf M (t := t) ht h) (by decide) rfl (Nat.le_of_ble_eq_true rfl) rfl dX12_isSeen_19 ?_
    refine cS1 (ar := [.int (P_y ρ β x y z)]) (st := []) C lkX12_123 (k_size M (P_y ρ β x y z)) (by decide) rfl (Nat.le_of_ble_eq_true rfl) rfl dX12_isSeen_22 ?_
    refine ar_aload_n (n := 0) C dX12_isSeen_25 rfl rfl ?_
    refine ar_getr C flX12_19 rfl kd_96 rf_96_5 dX12_isSeen_26 ?_
    refine ar_bipush (v := 6) C dX12_isSeen_29 (by decide) ?_
    refine ar_iald (j := 6) C kd_100 (by decide) (by decide) dX12_isSeen_31 ?_
    refine ar_topi (ρ 6) (congrFun e1 6) ?_
    refine ar_icmp_gt (tgt := 39) C dX12_isSeen_32 (by decide) (fun c_2 => ?_) (fun c_2 => ?_)
    · refine ar_iconst (v := 0) C dX12_isSeen_39 (by decide) ?_
      exact ar_zreturn C rfl rfl dX12_isSeen_40 ⟨by unfold P_shows; first | (rw [(abs_gt (px_n h8 h6 h7) (RR_5 h6).1 (RR_5 h6).2).mp c_1]; rfl) | (rw [(abs_gt (py_n h8 h6 h7) (RR_6 h6).1 (RR_6 h6).2).mp c_2, Bool.and_false]; rfl), rfl, rfl⟩
    · refine ar_iconst (v := 1) C dX12_isSeen_35 (by decide) ?_
      refine ar_goto (tgt := 40) C dX12_isSeen_36 (by decide) ?_
      exact ar_zreturn C rfl rfl dX12_isSeen_40 ⟨by unfold P_shows; rw [(Bool.not_eq_false _).mp (fun q => c_1 ((abs_gt (px_n h8 h6 h7) (RR_5 h6).1 (RR_5 h6).2).mpr q)), (Bool.not_eq_false _).mp (fun q => c_2 ((abs_gt (py_n h8 h6 h7) (RR_6 h6).1 (RR_6 h6).2).mpr q))]; rfl, rfl, rfl⟩
set_option maxHeartbeats 4000000 in
set_option maxRecDepth 100000 in
theorem m_kindOf (M : Mm) {t : Nat} (ht : t < 24) {ρ β : Nat → Int32} {x y z : Int32} (h : MT M t ρ β x y z) : AX mX12_kindOf 5 [.ref 96, .int (nI t)] M (some (.int (P_kind ρ β x y z))) M := by
  have h0 := h
  obtain ⟨e1, e2, e3, e4, e5, h6, h7, h8⟩ := h0
  obtain ⟨x1, x2, x3, x4⟩ := RT_x h8
  refine AM_ofF (by decide +kernel) (Nat.le_of_ble_eq_true rfl) (fun X V C _ _ => ?_)
  show AW X V mX12_kindOf.2.2.1 T0 M 0 0 _ 0 [(0, .ref 96), (1, .int (nI t))] []
  refine ar_aload_n (n := 0) C dX12_kindOf_0 rfl rfl ?_
  refine ar_iload_n (n := 1) C dX12_kindOf_1 rfl rfl ?_
  refine cV1 (ar := [.int (nI t)]) (st := []) C lkX12_146 kd_96 (m_isSeen M (t := t) ht h) (by decide) rfl (Nat.le_of_ble_eq_true rfl) rfl dX12_kindOf_2 ?_
  refine ar_if_neB (tgt := 12) C dX12_kindOf_5 (by decide) (fun c_1 => ?_) (fun c_1 => ?_)
  · refine ar_aload_n (n := 0) C dX12_kindOf_12 rfl rfl ?_
    refine ar_iload_n (n := 1) C dX12_kindOf_13 rfl rfl ?_
    refine cV1 (ar := [.int (nI t)]) (st := []) C lkX12_135 kd_96 (m_blurOf M (t := t) ht h) (by decide) rfl (Nat.le_of_ble_eq_true rfl) rfl dX12_kindOf_14 ?_
    refine ar_aload_n (n := 0) C dX12_kindOf_17 rfl rfl ?_
    refine ar_getr C flX12_19 rfl kd_96 rf_96_5 dX12_kindOf_18 ?_
    refine ar_iconst (v := 4) C dX12_kindOf_21 (by decide) ?_
    refine ar_iald (j := 4) C kd_100 (by decide) (by decide) dX12_kindOf_22 ?_
    refine ar_topi (ρ 4) (congrFun e1 4) ?_
    refine ar_icmp_gt (tgt := 30) C dX12_kindOf_23 (by decide) (fun c_2 => ?_) (fun c_2 => ?_)
    · refine ar_iconst (v := 1) C dX12_kindOf_30 (by decide) ?_
      exact ar_ireturn C rfl dX12_kindOf_31 ⟨by unfold P_kind; rw [if_pos c_1, if_pos c_2], rfl, rfl⟩
    · refine ar_iconst (v := 2) C dX12_kindOf_26 (by decide) ?_
      refine ar_goto (tgt := 31) C dX12_kindOf_27 (by decide) ?_
      exact ar_ireturn C rfl dX12_kindOf_31 ⟨by unfold P_kind; rw [if_pos c_1, if_neg c_2], rfl, rfl⟩
  · refine ar_iconst (v := 3) C dX12_kindOf_8 (by decide) ?_
    refine ar_goto (tgt := 31) C dX12_kindOf_9 (by decide) ?_
    exact ar_ireturn C rfl dX12_kindOf_31 ⟨by unfold P_kind; rw [if_neg (by rw [c_1]; decide)], rfl, rfl⟩
