/-! LENSTABLE: count, ask, draw -/
theorem k_toldO (M M1 : Mm) (h : Oc 7 M M1) {N : Nat} (hN : M.1 0 3 = nI N) (hN24 : N ≤ 24) (kd : Int32) : AQ mX11_thingsToldAs 4 [.ref 0, .int kd] M1 (some (.int (nI (cntB (fun i => decide (KK M i = kd)) N)))) (Oc 7 M) := by
  have k := k_toldAs M1 (by rw [h.1 0 (by decide)]; exact hN) hN24 kd
  rw [show (fun i => decide (KK M1 i = kd)) = (fun i => decide (KK M i = kd)) from funext fun i => by rw [KK_O h]] at k
  exact AQ_wk k (fun M' h' => ⟨fun q hq => (h'.1 q hq).trans (h.1 q hq), h'.2.trans h.2⟩)
theorem sw_out {w : Int32} {n : Nat} {b : Int32} (hb : b.toInt = (n : Int)) (h : f_in w 0 b = false) : w.toInt < 0 ∨ (n : Int) < w.toInt := by
  simp only [f_in, Bool.and_eq_false_iff, Bool.not_eq_false', decide_eq_true_eq, Int32.lt_iff_toInt_lt, hb] at h
  simpa using h
set_option maxHeartbeats 4000000 in
set_option maxRecDepth 100000 in
theorem x_count_0 (M : Mm)  : AX mX11_count 5 [.ref 0, .int 0] M (some (.int (nI (cntB (fun s => !decide (M.1 (22 + 2 * s) 1 = -1)) 8)))) M := by
  refine AM_ofF (by decide +kernel) (Nat.le_of_ble_eq_true rfl) (fun X V C _ _ => ?_)
  show AW X V mX11_count.2.2.1 T0 M 0 0 _ 0 [(0, .ref 0), (1, .int 0)] []
  refine ar_iload_n (n := 1) C dX11_count_0 rfl rfl ?_
  refine ar_tableIn (tgt := 48) C dX11_count_1 (by decide) (by decide) rfl (by decide) ?_
  refine ar_aload_n (n := 0) C dX11_count_48 rfl rfl ?_
  refine cV1 (ar := []) (st := []) C lkX11_367 kd_0 (k_sheetsLaid M) (by decide) rfl (Nat.le_of_ble_eq_true rfl) rfl dX11_count_49 ?_
  exact ar_ireturn C rfl dX11_count_52 ⟨rfl, rfl, rfl⟩
set_option maxHeartbeats 4000000 in
set_option maxRecDepth 100000 in
theorem x_count_1 (M : Mm)  : AX mX11_count 5 [.ref 0, .int 1] M (some (.int (M.1 0 3))) M := by
  refine AM_ofF (by decide +kernel) (Nat.le_of_ble_eq_true rfl) (fun X V C _ _ => ?_)
  show AW X V mX11_count.2.2.1 T0 M 0 0 _ 0 [(0, .ref 0), (1, .int 1)] []
  refine ar_iload_n (n := 1) C dX11_count_0 rfl rfl ?_
  refine ar_tableIn (tgt := 53) C dX11_count_1 (by decide) (by decide) rfl (by decide) ?_
  refine ar_aload_n (n := 0) C dX11_count_53 rfl rfl ?_
  refine ar_geti C flX11_28 kd_0 dX11_count_54 ?_
  exact ar_ireturn C rfl dX11_count_57 ⟨rfl, rfl, rfl⟩
set_option maxHeartbeats 4000000 in
set_option maxRecDepth 100000 in
theorem x_count_2 (M : Mm) {N : Nat} (hN : M.1 0 3 = nI N) (hN24 : N ≤ 24) : AQ mX11_count 5 [.ref 0, .int 2] M (some (.int (nI (cntB (fun i => decide (KK M i = 1)) N) + nI (cntB (fun i => decide (KK M i = 2)) N)))) (Oc 7 M) := by
  refine AM_ofF (by decide +kernel) (Nat.le_of_ble_eq_true rfl) (fun X V C _ _ => ?_)
  show AW X V mX11_count.2.2.1 T0 M 0 0 _ 0 [(0, .ref 0), (1, .int 2)] []
  refine ar_iload_n (n := 1) C dX11_count_0 rfl rfl ?_
  refine ar_tableIn (tgt := 58) C dX11_count_1 (by decide) (by decide) rfl (by decide) ?_
  refine ar_aload_n (n := 0) C dX11_count_58 rfl rfl ?_
  refine ar_iconst (v := 1) C dX11_count_59 (by decide) ?_
  refine cV1q (ar := [.int 1]) (st := []) C lkX11_370 kd_0 (k_toldO M M (Oc_rf 7 M) hN hN24 1) (by decide) rfl (Nat.le_of_ble_eq_true rfl) rfl dX11_count_60 (fun M_1 h_2 => ?_)
  refine ar_aload_n (n := 0) C dX11_count_63 rfl rfl ?_
  refine ar_iconst (v := 2) C dX11_count_64 (by decide) ?_
  refine cV1q (ar := [.int 2]) (st := [.int (nI (cntB (fun i => decide (KK M i = 1)) N))]) C lkX11_370 kd_0 (k_toldO M M_1 h_2 hN hN24 2) (by decide) rfl (Nat.le_of_ble_eq_true rfl) rfl dX11_count_65 (fun M_3 h_4 => ?_)
  refine ar_iadd C dX11_count_68 ?_
  exact ar_ireturn C rfl dX11_count_69 ⟨rfl, rfl, h_4⟩
set_option maxHeartbeats 4000000 in
set_option maxRecDepth 100000 in
theorem x_count_3 (M : Mm) {N : Nat} (hN : M.1 0 3 = nI N) (hN24 : N ≤ 24) : AQ mX11_count 5 [.ref 0, .int 3] M (some (.int (nI (cntB (fun i => decide (KK M i = 2)) N)))) (Oc 7 M) := by
  refine AM_ofF (by decide +kernel) (Nat.le_of_ble_eq_true rfl) (fun X V C _ _ => ?_)
  show AW X V mX11_count.2.2.1 T0 M 0 0 _ 0 [(0, .ref 0), (1, .int 3)] []
  refine ar_iload_n (n := 1) C dX11_count_0 rfl rfl ?_
  refine ar_tableIn (tgt := 70) C dX11_count_1 (by decide) (by decide) rfl (by decide) ?_
  refine ar_aload_n (n := 0) C dX11_count_70 rfl rfl ?_
  refine ar_iconst (v := 2) C dX11_count_71 (by decide) ?_
  refine cV1q (ar := [.int 2]) (st := []) C lkX11_370 kd_0 (k_toldO M M (Oc_rf 7 M) hN hN24 2) (by decide) rfl (Nat.le_of_ble_eq_true rfl) rfl dX11_count_72 (fun M_1 h_2 => ?_)
  exact ar_ireturn C rfl dX11_count_75 ⟨rfl, rfl, h_2⟩
set_option maxHeartbeats 4000000 in
set_option maxRecDepth 100000 in
theorem x_count_4 (M : Mm) {N : Nat} (hN : M.1 0 3 = nI N) (hN24 : N ≤ 24) : AQ mX11_count 5 [.ref 0, .int 4] M (some (.int (nI (cntB (fun i => decide (KK M i = 3)) N)))) (Oc 7 M) := by
  refine AM_ofF (by decide +kernel) (Nat.le_of_ble_eq_true rfl) (fun X V C _ _ => ?_)
  show AW X V mX11_count.2.2.1 T0 M 0 0 _ 0 [(0, .ref 0), (1, .int 4)] []
  refine ar_iload_n (n := 1) C dX11_count_0 rfl rfl ?_
  refine ar_tableIn (tgt := 76) C dX11_count_1 (by decide) (by decide) rfl (by decide) ?_
  refine ar_aload_n (n := 0) C dX11_count_76 rfl rfl ?_
  refine ar_iconst (v := 3) C dX11_count_77 (by decide) ?_
  refine cV1q (ar := [.int 3]) (st := []) C lkX11_370 kd_0 (k_toldO M M (Oc_rf 7 M) hN hN24 3) (by decide) rfl (Nat.le_of_ble_eq_true rfl) rfl dX11_count_78 (fun M_1 h_2 => ?_)
  exact ar_ireturn C rfl dX11_count_81 ⟨rfl, rfl, h_2⟩
set_option maxHeartbeats 4000000 in
set_option maxRecDepth 100000 in
theorem x_count_5 (M : Mm)  : AX mX11_count 5 [.ref 0, .int 5] M (some (.int (nI (sumN (fun a => cnt (M.1 (63 + 4 * a)) 24) 8)))) M := by
  refine AM_ofF (by decide +kernel) (Nat.le_of_ble_eq_true rfl) (fun X V C _ _ => ?_)
  show AW X V mX11_count.2.2.1 T0 M 0 0 _ 0 [(0, .ref 0), (1, .int 5)] []
  refine ar_iload_n (n := 1) C dX11_count_0 rfl rfl ?_
  refine ar_tableIn (tgt := 82) C dX11_count_1 (by decide) (by decide) rfl (by decide) ?_
  refine ar_aload_n (n := 0) C dX11_count_82 rfl rfl ?_
  refine cV1 (ar := []) (st := []) C lkX11_373 kd_0 (k_marksOn M) (by decide) rfl (Nat.le_of_ble_eq_true rfl) rfl dX11_count_83 ?_
  exact ar_ireturn C rfl dX11_count_86 ⟨rfl, rfl, rfl⟩
set_option maxHeartbeats 4000000 in
set_option maxRecDepth 100000 in
theorem x_count_6 (M : Mm)  : AX mX11_count 5 [.ref 0, .int 6] M (some (.int (nI (cntB (fun a => !decide (cnt (M.1 (63 + 4 * a)) 24 = 0)) 8)))) M := by
  refine AM_ofF (by decide +kernel) (Nat.le_of_ble_eq_true rfl) (fun X V C _ _ => ?_)
  show AW X V mX11_count.2.2.1 T0 M 0 0 _ 0 [(0, .ref 0), (1, .int 6)] []
  refine ar_iload_n (n := 1) C dX11_count_0 rfl rfl ?_
  refine ar_tableIn (tgt := 87) C dX11_count_1 (by decide) (by decide) rfl (by decide) ?_
  refine ar_aload_n (n := 0) C dX11_count_87 rfl rfl ?_
  refine cV1 (ar := []) (st := []) C lkX11_376 kd_0 (k_tracesMarked M) (by decide) rfl (Nat.le_of_ble_eq_true rfl) rfl dX11_count_88 ?_
  exact ar_ireturn C rfl dX11_count_91 ⟨rfl, rfl, rfl⟩
set_option maxHeartbeats 4000000 in
set_option maxRecDepth 100000 in
theorem x_count_7 (M : Mm)  : AX mX11_count 5 [.ref 0, .int 7] M (some (.int (nI (cnt (M.1 4) 17)))) M := by
  refine AM_ofF (by decide +kernel) (Nat.le_of_ble_eq_true rfl) (fun X V C _ _ => ?_)
  show AW X V mX11_count.2.2.1 T0 M 0 0 _ 0 [(0, .ref 0), (1, .int 7)] []
  refine ar_iload_n (n := 1) C dX11_count_0 rfl rfl ?_
  refine ar_tableIn (tgt := 92) C dX11_count_1 (by decide) (by decide) rfl (by decide) ?_
  refine ar_aload_n (n := 0) C dX11_count_92 rfl rfl ?_
  refine ar_getr C flX11_18 rfl kd_0 rf_0_1 dX11_count_93 ?_
  refine cV1 (ar := []) (st := []) C lkX11_210 kd_2 (k_bendsMade M) (by decide) rfl (Nat.le_of_ble_eq_true rfl) rfl dX11_count_96 ?_
  exact ar_ireturn C rfl dX11_count_99 ⟨rfl, rfl, rfl⟩
set_option maxHeartbeats 4000000 in
set_option maxRecDepth 100000 in
theorem x_count_bad (M : Mm) (w : Int32) (h : f_in w 0 7 = false) : AX mX11_count 5 [.ref 0, .int w] M (some (.int (-1000001))) M := by
  refine AM_ofF (by decide +kernel) (Nat.le_of_ble_eq_true rfl) (fun X V C _ _ => ?_)
  show AW X V mX11_count.2.2.1 T0 M 0 0 _ 0 [(0, .ref 0), (1, .int w)] []
  refine ar_iload_n (n := 1) C dX11_count_0 rfl rfl ?_
  refine ar_tableOut (tgt := 100) C dX11_count_1 (sw_out (n := 7) (by decide) h) (by decide) ?_
  refine ar_ldc C kcX11_98 dX11_count_100 ?_
  exact ar_ireturn C rfl dX11_count_102 ⟨rfl, rfl, rfl⟩
set_option maxHeartbeats 4000000 in
set_option maxRecDepth 100000 in
theorem k_size1 (M : Mm) {t : Nat} (ht : M.1 20 1 = nI t) (h16 : t + 6 ≤ 16) : AX mX0_size 5 [.ref 20, .int 1] M (some (.int (M.1 20 2 + M.1 20 4))) (bg (bg M t 11) (t + 1) 10) := by
  refine AM_ofF (by decide +kernel) (Nat.le_of_ble_eq_true rfl) (fun X V C _ _ => ?_)
  show AW X V mX0_size.2.2.1 T0 M 0 0 _ 0 [(0, .ref 20), (1, .int 1)] []
  refine ar_iload_n (n := 1) C dX0_size_0 rfl rfl ?_
  refine ar_tableIn (tgt := 28) C dX0_size_1 (by decide) (by decide) rfl (by decide) ?_
  refine ar_aload_n (n := 0) C dX0_size_28 rfl rfl ?_
  refine cV1 (ar := []) (st := []) C lkX0_28 kd_20 (k_szSeen M (t := t) ht (by omega)) (by decide) rfl (Nat.le_of_ble_eq_true rfl) rfl dX0_size_29 ?_
  exact ar_ireturn C rfl dX0_size_32 ⟨rfl, rfl, rfl⟩
set_option maxHeartbeats 4000000 in
set_option maxRecDepth 100000 in
theorem k_size2 (M : Mm) {t : Nat} (ht : M.1 20 1 = nI t) (h16 : t + 6 ≤ 16) : AX mX0_size 5 [.ref 20, .int 2] M (some (.int (2 * (M.1 20 2 + M.1 20 4)))) (bg (bg (bg M t 12) (t + 1) 11) (t + 1 + 1) 10) := by
  refine AM_ofF (by decide +kernel) (Nat.le_of_ble_eq_true rfl) (fun X V C _ _ => ?_)
  show AW X V mX0_size.2.2.1 T0 M 0 0 _ 0 [(0, .ref 20), (1, .int 2)] []
  refine ar_iload_n (n := 1) C dX0_size_0 rfl rfl ?_
  refine ar_tableIn (tgt := 33) C dX0_size_1 (by decide) (by decide) rfl (by decide) ?_
  refine ar_aload_n (n := 0) C dX0_size_33 rfl rfl ?_
  refine cV1 (ar := []) (st := []) C lkX0_32 kd_20 (k_szSharp M (t := t) ht (by omega)) (by decide) rfl (Nat.le_of_ble_eq_true rfl) rfl dX0_size_34 ?_
  exact ar_ireturn C rfl dX0_size_37 ⟨rfl, rfl, rfl⟩
set_option maxHeartbeats 4000000 in
set_option maxRecDepth 100000 in
theorem k_size3 (M : Mm) {t : Nat} (ht : M.1 20 1 = nI t) (h16 : t + 6 ≤ 16) : AX mX0_size 5 [.ref 20, .int 3] M (some (.int (M.1 20 2 - (M.1 20 3 + 1000)))) (bg (bg (bg (bg M t 13) (t + 1) 10) (t + 2) 23) (t + 2 + 1) 20) := by
  refine AM_ofF (by decide +kernel) (Nat.le_of_ble_eq_true rfl) (fun X V C _ _ => ?_)
  show AW X V mX0_size.2.2.1 T0 M 0 0 _ 0 [(0, .ref 20), (1, .int 3)] []
  refine ar_iload_n (n := 1) C dX0_size_0 rfl rfl ?_
  refine ar_tableIn (tgt := 38) C dX0_size_1 (by decide) (by decide) rfl (by decide) ?_
  refine ar_aload_n (n := 0) C dX0_size_38 rfl rfl ?_
  refine cV1 (ar := []) (st := []) C lkX0_35 kd_20 (k_szLost M (t := t) ht (by omega)) (by decide) rfl (Nat.le_of_ble_eq_true rfl) rfl dX0_size_39 ?_
  exact ar_ireturn C rfl dX0_size_42 ⟨rfl, rfl, rfl⟩
set_option maxHeartbeats 4000000 in
set_option maxRecDepth 100000 in
theorem k_sign1 (M : Mm) {t : Nat} (ht : M.1 20 1 = nI t) (h16 : t + 6 ≤ 16) : AX mX0_sign 5 [.ref 20, .int 1] M (some (.int (M.1 20 3 + 100))) (bg (bg M t 21) (t + 1) 20) := by
  refine AM_ofF (by decide +kernel) (Nat.le_of_ble_eq_true rfl) (fun X V C _ _ => ?_)
  show AW X V mX0_sign.2.2.1 T0 M 0 0 _ 0 [(0, .ref 20), (1, .int 1)] []
  refine ar_iload_n (n := 1) C dX0_sign_0 rfl rfl ?_
  refine ar_tableIn (tgt := 28) C dX0_sign_1 (by decide) (by decide) rfl (by decide) ?_
  refine ar_aload_n (n := 0) C dX0_sign_28 rfl rfl ?_
  refine cV1 (ar := []) (st := []) C lkX0_41 kd_20 (k_sgSeen M (t := t) ht (by omega)) (by decide) rfl (Nat.le_of_ble_eq_true rfl) rfl dX0_sign_29 ?_
  exact ar_ireturn C rfl dX0_sign_32 ⟨rfl, rfl, rfl⟩
set_option maxHeartbeats 4000000 in
set_option maxRecDepth 100000 in
theorem k_sign2 (M : Mm) {t : Nat} (ht : M.1 20 1 = nI t) (h16 : t + 6 ≤ 16) : AX mX0_sign 5 [.ref 20, .int 2] M (some (.int (M.1 20 3 + 100 + 2 * (M.1 20 2 + M.1 20 4)))) (bg (bg (bg (bg (bg (bg M t 22) (t + 1) 21) (t + 1 + 1) 20) (t + 3) 12) (t + 3 + 1) 11) (t + 3 + 1 + 1) 10) := by
  refine AM_ofF (by decide +kernel) (Nat.le_of_ble_eq_true rfl) (fun X V C _ _ => ?_)
  show AW X V mX0_sign.2.2.1 T0 M 0 0 _ 0 [(0, .ref 20), (1, .int 2)] []
  refine ar_iload_n (n := 1) C dX0_sign_0 rfl rfl ?_
  refine ar_tableIn (tgt := 33) C dX0_sign_1 (by decide) (by decide) rfl (by decide) ?_
  refine ar_aload_n (n := 0) C dX0_sign_33 rfl rfl ?_
  refine cV1 (ar := []) (st := []) C lkX0_44 kd_20 (k_sgSharp M (t := t) ht (by omega)) (by decide) rfl (Nat.le_of_ble_eq_true rfl) rfl dX0_sign_34 ?_
  exact ar_ireturn C rfl dX0_sign_37 ⟨rfl, rfl, rfl⟩
set_option maxHeartbeats 4000000 in
set_option maxRecDepth 100000 in
theorem k_sign3 (M : Mm) {t : Nat} (ht : M.1 20 1 = nI t) (h16 : t + 6 ≤ 16) : AX mX0_sign 5 [.ref 20, .int 3] M (some (.int (M.1 20 3 + 1000))) (bg (bg M t 23) (t + 1) 20) := by
  refine AM_ofF (by decide +kernel) (Nat.le_of_ble_eq_true rfl) (fun X V C _ _ => ?_)
  show AW X V mX0_sign.2.2.1 T0 M 0 0 _ 0 [(0, .ref 20), (1, .int 3)] []
  refine ar_iload_n (n := 1) C dX0_sign_0 rfl rfl ?_
  refine ar_tableIn (tgt := 38) C dX0_sign_1 (by decide) (by decide) rfl (by decide) ?_
  refine ar_aload_n (n := 0) C dX0_sign_38 rfl rfl ?_
  refine cV1 (ar := []) (st := []) C lkX0_47 kd_20 (k_sgLost M (t := t) ht (by omega)) (by decide) rfl (Nat.le_of_ble_eq_true rfl) rfl dX0_sign_39 ?_
  exact ar_ireturn C rfl dX0_sign_42 ⟨rfl, rfl, rfl⟩
/-- what 'ask' leaves before a body begins -/
def askM (M : Mm) (i : Nat) : Mm := wi (wi (wi (wi (pic M (M.1 3) (M.1 4) (M.1 (38 + i) 0) (M.1 (38 + i) 1) (M.1 (38 + i) 2)) 20 1 0) 20 2 (M.1 (38 + i) 2)) 20 3 (f_colc (f_by (-(M.1 (38 + i) 0) * M.1 3 2) (M.1 (38 + i) 2)))) 20 4 (P_blur (M.1 3) (M.1 4) (M.1 (38 + i) 0) (M.1 (38 + i) 2))
set_option maxHeartbeats 4000000 in
set_option maxRecDepth 100000 in
theorem x_ask_bad (M : Mm) (t w : Int32)  (hbad : (f_in t 0 (M.1 0 3 - 1) && f_in w 0 1) = false) : AX mX11_ask 6 [.ref 0, .int t, .int w] M (some (.int (-1000001))) M := by
  refine AM_ofF (by decide +kernel) (Nat.le_of_ble_eq_true rfl) (fun X V C _ _ => ?_)
  show AW X V mX11_ask.2.2.1 T0 M 0 0 _ 0 [(0, .ref 0), (1, .int t), (2, .int w)] []
  refine ar_aload_n (n := 0) C dX11_ask_0 rfl rfl ?_
  refine ar_iload_n (n := 1) C dX11_ask_1 rfl rfl ?_
  refine cV1 (ar := [.int t]) (st := []) C lkX11_159 kd_0 (k_isThing M t) (by decide) rfl (Nat.le_of_ble_eq_true rfl) rfl dX11_ask_2 ?_
  refine ar_if_eqB (tgt := 17) C dX11_ask_5 (by decide) (fun c_1 => ?_) (fun c_1 => ?_)
  · refine ar_ldc C kcX11_98 dX11_ask_17 ?_
    exact ar_ireturn C rfl dX11_ask_19 ⟨rfl, rfl, rfl⟩
  · refine ar_iload_n (n := 2) C dX11_ask_8 rfl rfl ?_
    refine ar_iconst (v := 0) C dX11_ask_9 (by decide) ?_
    refine ar_iconst (v := 1) C dX11_ask_10 (by decide) ?_
    refine cS1 (ar := [.int w, .int 0, .int 1]) (st := []) C lkX11_94 (k_within M w 0 1) (by decide) rfl (Nat.le_of_ble_eq_true rfl) rfl dX11_ask_11 ?_
    refine ar_if_neB (tgt := 20) C dX11_ask_14 (by decide) (fun c_2 => ?_) (fun c_2 => ?_)
    · exact absurd hbad (by first | (rw [c_1]; decide) | simp [*])
    · refine ar_ldc C kcX11_98 dX11_ask_17 ?_
      exact ar_ireturn C rfl dX11_ask_19 ⟨rfl, rfl, rfl⟩
set_option maxHeartbeats 4000000 in
set_option maxRecDepth 100000 in
theorem x_ask_0_1 (M : Mm) {i N : Nat} (hN : M.1 0 3 = nI N) (hi : i < N) (hN24 : N ≤ 24) (hk : KK M i = 1) : AX mX11_ask 6 [.ref 0, .int (nI i), .int 0] M (some (.int ((M.1 (38 + i) 2) + (P_blur (M.1 3) (M.1 4) (M.1 (38 + i) 0) (M.1 (38 + i) 2))))) (bg (bg (askM M i) 0 11) (0 + 1) 10) := by
  refine AM_ofF (by decide +kernel) (Nat.le_of_ble_eq_true rfl) (fun X V C _ _ => ?_)
  show AW X V mX11_ask.2.2.1 T0 M 0 0 _ 0 [(0, .ref 0), (1, .int (nI i)), (2, .int 0)] []
  refine ar_aload_n (n := 0) C dX11_ask_0 rfl rfl ?_
  refine ar_iload_n (n := 1) C dX11_ask_1 rfl rfl ?_
  refine cV1 (ar := [.int (nI i)]) (st := []) C lkX11_159 kd_0 (k_isThing M (nI i)) (by decide) rfl (Nat.le_of_ble_eq_true rfl) rfl dX11_ask_2 ?_
  refine ar_if_eqB (tgt := 17) C dX11_ask_5 (by decide) (fun c_1 => False.elim (Bool.noConfusion ((inN hN hi hN24).symm.trans c_1))) (fun _ => ?_)
  refine ar_iload_n (n := 2) C dX11_ask_8 rfl rfl ?_
  refine ar_iconst (v := 0) C dX11_ask_9 (by decide) ?_
  refine ar_iconst (v := 1) C dX11_ask_10 (by decide) ?_
  refine cS1 (ar := [.int 0, .int 0, .int 1]) (st := []) C lkX11_94 (k_within M 0 0 1) (by decide) rfl (Nat.le_of_ble_eq_true rfl) rfl dX11_ask_11 ?_
  refine ar_if_neB (tgt := 20) C dX11_ask_14 (by decide) (fun _ => ?_) (fun c_2 => False.elim (Bool.noConfusion ((show f_in 0 0 1 = true by decide).symm.trans c_2)))
  refine ar_aload_n (n := 0) C dX11_ask_20 rfl rfl ?_
  refine ar_iload_n (n := 1) C dX11_ask_21 rfl rfl ?_
  refine cV1 (ar := [.int (nI i)]) (st := []) C lkX11_349 kd_0 (kindK M (i := i) (by omega)) (by decide) rfl (Nat.le_of_ble_eq_true rfl) rfl dX11_ask_22 ?_
  refine ar_topi 1 hk ?_
  refine ar_istore_n (als' := [(3, .int 1), (0, .ref 0), (1, .int (nI i)), (2, .int 0)]) C dX11_ask_25 rfl (by decide) rfl ?_
  refine ar_aload_n (n := 1) C dX11_ask_26 rfl rfl ?_
  refine ar_getr C flX11_80 rfl kd_0 rf_0_11 dX11_ask_27 ?_
  refine ar_aload_n (n := 1) C dX11_ask_30 rfl rfl ?_
  refine ar_getr C flX11_24 rfl kd_0 rf_0_2 dX11_ask_31 ?_
  refine ar_iload_n (n := 2) C dX11_ask_34 rfl rfl ?_
  refine ar_aald (j := i) C kd_6 (by decide) (by decide) rfl (show i < 24 by omega) (rf_things (show i < 24 by omega)) dX11_ask_35 ?_
  refine ar_geti C flX11_172 (kd_thing (show i < 24 by omega)) dX11_ask_36 ?_
  refine ar_topi (M.1 (38 + i) 2) (by simp [pic, wi]; try omega) ?_
  refine ar_aload_n (n := 1) C dX11_ask_39 rfl rfl ?_
  refine ar_getr C flX11_35 rfl kd_0 rf_0_4 dX11_ask_40 ?_
  refine ar_geti C flX11_178 kd_7 dX11_ask_43 ?_
  refine ar_topi (f_colc (f_by (-(M.1 (38 + i) 0) * M.1 3 2) (M.1 (38 + i) 2))) (by simp [pic, wi]) ?_
  refine ar_aload_n (n := 1) C dX11_ask_46 rfl rfl ?_
  refine ar_getr C flX11_35 rfl kd_0 rf_0_4 dX11_ask_47 ?_
  refine ar_geti C flX11_186 kd_7 dX11_ask_50 ?_
  refine ar_topi (P_blur (M.1 3) (M.1 4) (M.1 (38 + i) 0) (M.1 (38 + i) 2)) (by simp [pic, wi]) ?_
  refine cV0 (ar := [.int (M.1 (38 + i) 2), .int (f_colc (f_by (-(M.1 (38 + i) 0) * M.1 3 2) (M.1 (38 + i) 2))), .int (P_blur (M.1 3) (M.1 4) (M.1 (38 + i) 0) (M.1 (38 + i) 2))]) (st := []) C lkX11_352 kd_20 (k_face (pic M (M.1 3) (M.1 4) (M.1 (38 + i) 0) (M.1 (38 + i) 1) (M.1 (38 + i) 2)) (M.1 (38 + i) 2) (f_colc (f_by (-(M.1 (38 + i) 0) * M.1 3 2) (M.1 (38 + i) 2))) (P_blur (M.1 3) (M.1 4) (M.1 (38 + i) 0) (M.1 (38 + i) 2))) (by decide) rfl (Nat.le_of_ble_eq_true rfl) rfl dX11_ask_53 ?_
  refine ar_iload_n (n := 3) C dX11_ask_56 rfl rfl ?_
  refine ar_if_ne (tgt := 71) C dX11_ask_57 (by decide) (fun c_3 => False.elim (c_3 rfl)) (fun _ => ?_)
  refine ar_aload_n (n := 1) C dX11_ask_60 rfl rfl ?_
  refine ar_getr C flX11_80 rfl kd_0 rf_0_11 dX11_ask_61 ?_
  refine ar_iload_n (n := 0) C dX11_ask_64 rfl rfl ?_
  refine cV1 (ar := [.int 1]) (st := []) C lkX11_355 kd_20 (k_size1 (askM M i) (t := 0) (by simp [askM, wi, nI_0]) (by omega)) (by decide) rfl (Nat.le_of_ble_eq_true rfl) rfl dX11_ask_65 ?_
  refine ar_goto (tgt := 79) C dX11_ask_68 (by decide) ?_
  exact ar_ireturn C rfl dX11_ask_79 ⟨by simp [askM, wi], rfl, rfl⟩
set_option maxHeartbeats 4000000 in
set_option maxRecDepth 100000 in
theorem x_ask_0_2 (M : Mm) {i N : Nat} (hN : M.1 0 3 = nI N) (hi : i < N) (hN24 : N ≤ 24) (hk : KK M i = 2) : AX mX11_ask 6 [.ref 0, .int (nI i), .int 0] M (some (.int (2 * ((M.1 (38 + i) 2) + (P_blur (M.1 3) (M.1 4) (M.1 (38 + i) 0) (M.1 (38 + i) 2)))))) (bg (bg (bg (askM M i) 0 12) (0 + 1) 11) (0 + 1 + 1) 10) := by
  refine AM_ofF (by decide +kernel) (Nat.le_of_ble_eq_true rfl) (fun X V C _ _ => ?_)
  show AW X V mX11_ask.2.2.1 T0 M 0 0 _ 0 [(0, .ref 0), (1, .int (nI i)), (2, .int 0)] []
  refine ar_aload_n (n := 0) C dX11_ask_0 rfl rfl ?_
  refine ar_iload_n (n := 1) C dX11_ask_1 rfl rfl ?_
  refine cV1 (ar := [.int (nI i)]) (st := []) C lkX11_159 kd_0 (k_isThing M (nI i)) (by decide) rfl (Nat.le_of_ble_eq_true rfl) rfl dX11_ask_2 ?_
  refine ar_if_eqB (tgt := 17) C dX11_ask_5 (by decide) (fun c_1 => False.elim (Bool.noConfusion ((inN hN hi hN24).symm.trans c_1))) (fun _ => ?_)
  refine ar_iload_n (n := 2) C dX11_ask_8 rfl rfl ?_
  refine ar_iconst (v := 0) C dX11_ask_9 (by decide) ?_
  refine ar_iconst (v := 1) C dX11_ask_10 (by decide) ?_
  refine cS1 (ar := [.int 0, .int 0, .int 1]) (st := []) C lkX11_94 (k_within M 0 0 1) (by decide) rfl (Nat.le_of_ble_eq_true rfl) rfl dX11_ask_11 ?_
  refine ar_if_neB (tgt := 20) C dX11_ask_14 (by decide) (fun _ => ?_) (fun c_2 => False.elim (Bool.noConfusion ((show f_in 0 0 1 = true by decide).symm.trans c_2)))
  refine ar_aload_n (n := 0) C dX11_ask_20 rfl rfl ?_
  refine ar_iload_n (n := 1) C dX11_ask_21 rfl rfl ?_
  refine cV1 (ar := [.int (nI i)]) (st := []) C lkX11_349 kd_0 (kindK M (i := i) (by omega)) (by decide) rfl (Nat.le_of_ble_eq_true rfl) rfl dX11_ask_22 ?_
  refine ar_topi 2 hk ?_
  refine ar_istore_n (als' := [(3, .int 2), (0, .ref 0), (1, .int (nI i)), (2, .int 0)]) C dX11_ask_25 rfl (by decide) rfl ?_
  refine ar_aload_n (n := 1) C dX11_ask_26 rfl rfl ?_
  refine ar_getr C flX11_80 rfl kd_0 rf_0_11 dX11_ask_27 ?_
  refine ar_aload_n (n := 1) C dX11_ask_30 rfl rfl ?_
  refine ar_getr C flX11_24 rfl kd_0 rf_0_2 dX11_ask_31 ?_
  refine ar_iload_n (n := 2) C dX11_ask_34 rfl rfl ?_
  refine ar_aald (j := i) C kd_6 (by decide) (by decide) rfl (show i < 24 by omega) (rf_things (show i < 24 by omega)) dX11_ask_35 ?_
  refine ar_geti C flX11_172 (kd_thing (show i < 24 by omega)) dX11_ask_36 ?_
  refine ar_topi (M.1 (38 + i) 2) (by simp [pic, wi]; try omega) ?_
  refine ar_aload_n (n := 1) C dX11_ask_39 rfl rfl ?_
  refine ar_getr C flX11_35 rfl kd_0 rf_0_4 dX11_ask_40 ?_
  refine ar_geti C flX11_178 kd_7 dX11_ask_43 ?_
  refine ar_topi (f_colc (f_by (-(M.1 (38 + i) 0) * M.1 3 2) (M.1 (38 + i) 2))) (by simp [pic, wi]) ?_
  refine ar_aload_n (n := 1) C dX11_ask_46 rfl rfl ?_
  refine ar_getr C flX11_35 rfl kd_0 rf_0_4 dX11_ask_47 ?_
  refine ar_geti C flX11_186 kd_7 dX11_ask_50 ?_
  refine ar_topi (P_blur (M.1 3) (M.1 4) (M.1 (38 + i) 0) (M.1 (38 + i) 2)) (by simp [pic, wi]) ?_
  refine cV0 (ar := [.int (M.1 (38 + i) 2), .int (f_colc (f_by (-(M.1 (38 + i) 0) * M.1 3 2) (M.1 (38 + i) 2))), .int (P_blur (M.1 3) (M.1 4) (M.1 (38 + i) 0) (M.1 (38 + i) 2))]) (st := []) C lkX11_352 kd_20 (k_face (pic M (M.1 3) (M.1 4) (M.1 (38 + i) 0) (M.1 (38 + i) 1) (M.1 (38 + i) 2)) (M.1 (38 + i) 2) (f_colc (f_by (-(M.1 (38 + i) 0) * M.1 3 2) (M.1 (38 + i) 2))) (P_blur (M.1 3) (M.1 4) (M.1 (38 + i) 0) (M.1 (38 + i) 2))) (by decide) rfl (Nat.le_of_ble_eq_true rfl) rfl dX11_ask_53 ?_
  refine ar_iload_n (n := 3) C dX11_ask_56 rfl rfl ?_
  refine ar_if_ne (tgt := 71) C dX11_ask_57 (by decide) (fun c_3 => False.elim (c_3 rfl)) (fun _ => ?_)
  refine ar_aload_n (n := 1) C dX11_ask_60 rfl rfl ?_
  refine ar_getr C flX11_80 rfl kd_0 rf_0_11 dX11_ask_61 ?_
  refine ar_iload_n (n := 0) C dX11_ask_64 rfl rfl ?_
  refine cV1 (ar := [.int 2]) (st := []) C lkX11_355 kd_20 (k_size2 (askM M i) (t := 0) (by simp [askM, wi, nI_0]) (by omega)) (by decide) rfl (Nat.le_of_ble_eq_true rfl) rfl dX11_ask_65 ?_
  refine ar_goto (tgt := 79) C dX11_ask_68 (by decide) ?_
  exact ar_ireturn C rfl dX11_ask_79 ⟨by simp [askM, wi], rfl, rfl⟩
set_option maxHeartbeats 4000000 in
set_option maxRecDepth 100000 in
theorem x_ask_0_3 (M : Mm) {i N : Nat} (hN : M.1 0 3 = nI N) (hi : i < N) (hN24 : N ≤ 24) (hk : KK M i = 3) : AX mX11_ask 6 [.ref 0, .int (nI i), .int 0] M (some (.int ((M.1 (38 + i) 2) - ((f_colc (f_by (-(M.1 (38 + i) 0) * M.1 3 2) (M.1 (38 + i) 2))) + 1000)))) (bg (bg (bg (bg (askM M i) 0 13) (0 + 1) 10) (0 + 2) 23) (0 + 2 + 1) 20) := by
  refine AM_ofF (by decide +kernel) (Nat.le_of_ble_eq_true rfl) (fun X V C _ _ => ?_)
  show AW X V mX11_ask.2.2.1 T0 M 0 0 _ 0 [(0, .ref 0), (1, .int (nI i)), (2, .int 0)] []
  refine ar_aload_n (n := 0) C dX11_ask_0 rfl rfl ?_
  refine ar_iload_n (n := 1) C dX11_ask_1 rfl rfl ?_
  refine cV1 (ar := [.int (nI i)]) (st := []) C lkX11_159 kd_0 (k_isThing M (nI i)) (by decide) rfl (Nat.le_of_ble_eq_true rfl) rfl dX11_ask_2 ?_
  refine ar_if_eqB (tgt := 17) C dX11_ask_5 (by decide) (fun c_1 => False.elim (Bool.noConfusion ((inN hN hi hN24).symm.trans c_1))) (fun _ => ?_)
  refine ar_iload_n (n := 2) C dX11_ask_8 rfl rfl ?_
  refine ar_iconst (v := 0) C dX11_ask_9 (by decide) ?_
  refine ar_iconst (v := 1) C dX11_ask_10 (by decide) ?_
  refine cS1 (ar := [.int 0, .int 0, .int 1]) (st := []) C lkX11_94 (k_within M 0 0 1) (by decide) rfl (Nat.le_of_ble_eq_true rfl) rfl dX11_ask_11 ?_
  refine ar_if_neB (tgt := 20) C dX11_ask_14 (by decide) (fun _ => ?_) (fun c_2 => False.elim (Bool.noConfusion ((show f_in 0 0 1 = true by decide).symm.trans c_2)))
  refine ar_aload_n (n := 0) C dX11_ask_20 rfl rfl ?_
  refine ar_iload_n (n := 1) C dX11_ask_21 rfl rfl ?_
  refine cV1 (ar := [.int (nI i)]) (st := []) C lkX11_349 kd_0 (kindK M (i := i) (by omega)) (by decide) rfl (Nat.le_of_ble_eq_true rfl) rfl dX11_ask_22 ?_
  refine ar_topi 3 hk ?_
  refine ar_istore_n (als' := [(3, .int 3), (0, .ref 0), (1, .int (nI i)), (2, .int 0)]) C dX11_ask_25 rfl (by decide) rfl ?_
  refine ar_aload_n (n := 1) C dX11_ask_26 rfl rfl ?_
  refine ar_getr C flX11_80 rfl kd_0 rf_0_11 dX11_ask_27 ?_
  refine ar_aload_n (n := 1) C dX11_ask_30 rfl rfl ?_
  refine ar_getr C flX11_24 rfl kd_0 rf_0_2 dX11_ask_31 ?_
  refine ar_iload_n (n := 2) C dX11_ask_34 rfl rfl ?_
  refine ar_aald (j := i) C kd_6 (by decide) (by decide) rfl (show i < 24 by omega) (rf_things (show i < 24 by omega)) dX11_ask_35 ?_
  refine ar_geti C flX11_172 (kd_thing (show i < 24 by omega)) dX11_ask_36 ?_
  refine ar_topi (M.1 (38 + i) 2) (by simp [pic, wi]; try omega) ?_
  refine ar_aload_n (n := 1) C dX11_ask_39 rfl rfl ?_
  refine ar_getr C flX11_35 rfl kd_0 rf_0_4 dX11_ask_40 ?_
  refine ar_geti C flX11_178 kd_7 dX11_ask_43 ?_
  refine ar_topi (f_colc (f_by (-(M.1 (38 + i) 0) * M.1 3 2) (M.1 (38 + i) 2))) (by simp [pic, wi]) ?_
  refine ar_aload_n (n := 1) C dX11_ask_46 rfl rfl ?_
  refine ar_getr C flX11_35 rfl kd_0 rf_0_4 dX11_ask_47 ?_
  refine ar_geti C flX11_186 kd_7 dX11_ask_50 ?_
  refine ar_topi (P_blur (M.1 3) (M.1 4) (M.1 (38 + i) 0) (M.1 (38 + i) 2)) (by simp [pic, wi]) ?_
  refine cV0 (ar := [.int (M.1 (38 + i) 2), .int (f_colc (f_by (-(M.1 (38 + i) 0) * M.1 3 2) (M.1 (38 + i) 2))), .int (P_blur (M.1 3) (M.1 4) (M.1 (38 + i) 0) (M.1 (38 + i) 2))]) (st := []) C lkX11_352 kd_20 (k_face (pic M (M.1 3) (M.1 4) (M.1 (38 + i) 0) (M.1 (38 + i) 1) (M.1 (38 + i) 2)) (M.1 (38 + i) 2) (f_colc (f_by (-(M.1 (38 + i) 0) * M.1 3 2) (M.1 (38 + i) 2))) (P_blur (M.1 3) (M.1 4) (M.1 (38 + i) 0) (M.1 (38 + i) 2))) (by decide) rfl (Nat.le_of_ble_eq_true rfl) rfl dX11_ask_53 ?_
  refine ar_iload_n (n := 3) C dX11_ask_56 rfl rfl ?_
  refine ar_if_ne (tgt := 71) C dX11_ask_57 (by decide) (fun c_3 => False.elim (c_3 rfl)) (fun _ => ?_)
  refine ar_aload_n (n := 1) C dX11_ask_60 rfl rfl ?_
  refine ar_getr C flX11_80 rfl kd_0 rf_0_11 dX11_ask_61 ?_
  refine ar_iload_n (n := 0) C dX11_ask_64 rfl rfl ?_
  refine cV1 (ar := [.int 3]) (st := []) C lkX11_355 kd_20 (k_size3 (askM M i) (t := 0) (by simp [askM, wi, nI_0]) (by omega)) (by decide) rfl (Nat.le_of_ble_eq_true rfl) rfl dX11_ask_65 ?_
  refine ar_goto (tgt := 79) C dX11_ask_68 (by decide) ?_
  exact ar_ireturn C rfl dX11_ask_79 ⟨by simp [askM, wi], rfl, rfl⟩
set_option maxHeartbeats 4000000 in
set_option maxRecDepth 100000 in
theorem x_ask_1_1 (M : Mm) {i N : Nat} (hN : M.1 0 3 = nI N) (hi : i < N) (hN24 : N ≤ 24) (hk : KK M i = 1) : AX mX11_ask 6 [.ref 0, .int (nI i), .int 1] M (some (.int ((f_colc (f_by (-(M.1 (38 + i) 0) * M.1 3 2) (M.1 (38 + i) 2))) + 100))) (bg (bg (askM M i) 0 21) (0 + 1) 20) := by
  refine AM_ofF (by decide +kernel) (Nat.le_of_ble_eq_true rfl) (fun X V C _ _ => ?_)
  show AW X V mX11_ask.2.2.1 T0 M 0 0 _ 0 [(0, .ref 0), (1, .int (nI i)), (2, .int 1)] []
  refine ar_aload_n (n := 0) C dX11_ask_0 rfl rfl ?_
  refine ar_iload_n (n := 1) C dX11_ask_1 rfl rfl ?_
  refine cV1 (ar := [.int (nI i)]) (st := []) C lkX11_159 kd_0 (k_isThing M (nI i)) (by decide) rfl (Nat.le_of_ble_eq_true rfl) rfl dX11_ask_2 ?_
  refine ar_if_eqB (tgt := 17) C dX11_ask_5 (by decide) (fun c_1 => False.elim (Bool.noConfusion ((inN hN hi hN24).symm.trans c_1))) (fun _ => ?_)
  refine ar_iload_n (n := 2) C dX11_ask_8 rfl rfl ?_
  refine ar_iconst (v := 0) C dX11_ask_9 (by decide) ?_
  refine ar_iconst (v := 1) C dX11_ask_10 (by decide) ?_
  refine cS1 (ar := [.int 1, .int 0, .int 1]) (st := []) C lkX11_94 (k_within M 1 0 1) (by decide) rfl (Nat.le_of_ble_eq_true rfl) rfl dX11_ask_11 ?_
  refine ar_if_neB (tgt := 20) C dX11_ask_14 (by decide) (fun _ => ?_) (fun c_2 => False.elim (Bool.noConfusion ((show f_in 1 0 1 = true by decide).symm.trans c_2)))
  refine ar_aload_n (n := 0) C dX11_ask_20 rfl rfl ?_
  refine ar_iload_n (n := 1) C dX11_ask_21 rfl rfl ?_
  refine cV1 (ar := [.int (nI i)]) (st := []) C lkX11_349 kd_0 (kindK M (i := i) (by omega)) (by decide) rfl (Nat.le_of_ble_eq_true rfl) rfl dX11_ask_22 ?_
  refine ar_topi 1 hk ?_
  refine ar_istore_n (als' := [(3, .int 1), (0, .ref 0), (1, .int (nI i)), (2, .int 1)]) C dX11_ask_25 rfl (by decide) rfl ?_
  refine ar_aload_n (n := 1) C dX11_ask_26 rfl rfl ?_
  refine ar_getr C flX11_80 rfl kd_0 rf_0_11 dX11_ask_27 ?_
  refine ar_aload_n (n := 1) C dX11_ask_30 rfl rfl ?_
  refine ar_getr C flX11_24 rfl kd_0 rf_0_2 dX11_ask_31 ?_
  refine ar_iload_n (n := 2) C dX11_ask_34 rfl rfl ?_
  refine ar_aald (j := i) C kd_6 (by decide) (by decide) rfl (show i < 24 by omega) (rf_things (show i < 24 by omega)) dX11_ask_35 ?_
  refine ar_geti C flX11_172 (kd_thing (show i < 24 by omega)) dX11_ask_36 ?_
  refine ar_topi (M.1 (38 + i) 2) (by simp [pic, wi]; try omega) ?_
  refine ar_aload_n (n := 1) C dX11_ask_39 rfl rfl ?_
  refine ar_getr C flX11_35 rfl kd_0 rf_0_4 dX11_ask_40 ?_
  refine ar_geti C flX11_178 kd_7 dX11_ask_43 ?_
  refine ar_topi (f_colc (f_by (-(M.1 (38 + i) 0) * M.1 3 2) (M.1 (38 + i) 2))) (by simp [pic, wi]) ?_
  refine ar_aload_n (n := 1) C dX11_ask_46 rfl rfl ?_
  refine ar_getr C flX11_35 rfl kd_0 rf_0_4 dX11_ask_47 ?_
  refine ar_geti C flX11_186 kd_7 dX11_ask_50 ?_
  refine ar_topi (P_blur (M.1 3) (M.1 4) (M.1 (38 + i) 0) (M.1 (38 + i) 2)) (by simp [pic, wi]) ?_
  refine cV0 (ar := [.int (M.1 (38 + i) 2), .int (f_colc (f_by (-(M.1 (38 + i) 0) * M.1 3 2) (M.1 (38 + i) 2))), .int (P_blur (M.1 3) (M.1 4) (M.1 (38 + i) 0) (M.1 (38 + i) 2))]) (st := []) C lkX11_352 kd_20 (k_face (pic M (M.1 3) (M.1 4) (M.1 (38 + i) 0) (M.1 (38 + i) 1) (M.1 (38 + i) 2)) (M.1 (38 + i) 2) (f_colc (f_by (-(M.1 (38 + i) 0) * M.1 3 2) (M.1 (38 + i) 2))) (P_blur (M.1 3) (M.1 4) (M.1 (38 + i) 0) (M.1 (38 + i) 2))) (by decide) rfl (Nat.le_of_ble_eq_true rfl) rfl dX11_ask_53 ?_
  refine ar_iload_n (n := 3) C dX11_ask_56 rfl rfl ?_
  refine ar_if_ne (tgt := 71) C dX11_ask_57 (by decide) (fun _ => ?_) (fun c_3 => False.elim (absurd c_3 (by decide)))
  refine ar_aload_n (n := 1) C dX11_ask_71 rfl rfl ?_
  refine ar_getr C flX11_80 rfl kd_0 rf_0_11 dX11_ask_72 ?_
  refine ar_iload_n (n := 0) C dX11_ask_75 rfl rfl ?_
  refine cV1 (ar := [.int 1]) (st := []) C lkX11_358 kd_20 (k_sign1 (askM M i) (t := 0) (by simp [askM, wi, nI_0]) (by omega)) (by decide) rfl (Nat.le_of_ble_eq_true rfl) rfl dX11_ask_76 ?_
  exact ar_ireturn C rfl dX11_ask_79 ⟨by simp [askM, wi], rfl, rfl⟩
set_option maxHeartbeats 4000000 in
set_option maxRecDepth 100000 in
theorem x_ask_1_2 (M : Mm) {i N : Nat} (hN : M.1 0 3 = nI N) (hi : i < N) (hN24 : N ≤ 24) (hk : KK M i = 2) : AX mX11_ask 6 [.ref 0, .int (nI i), .int 1] M (some (.int ((f_colc (f_by (-(M.1 (38 + i) 0) * M.1 3 2) (M.1 (38 + i) 2))) + 100 + 2 * ((M.1 (38 + i) 2) + (P_blur (M.1 3) (M.1 4) (M.1 (38 + i) 0) (M.1 (38 + i) 2)))))) (bg (bg (bg (bg (bg (bg (askM M i) 0 22) (0 + 1) 21) (0 + 1 + 1) 20) (0 + 3) 12) (0 + 3 + 1) 11) (0 + 3 + 1 + 1) 10) := by
  refine AM_ofF (by decide +kernel) (Nat.le_of_ble_eq_true rfl) (fun X V C _ _ => ?_)
  show AW X V mX11_ask.2.2.1 T0 M 0 0 _ 0 [(0, .ref 0), (1, .int (nI i)), (2, .int 1)] []
  refine ar_aload_n (n := 0) C dX11_ask_0 rfl rfl ?_
  refine ar_iload_n (n := 1) C dX11_ask_1 rfl rfl ?_
  refine cV1 (ar := [.int (nI i)]) (st := []) C lkX11_159 kd_0 (k_isThing M (nI i)) (by decide) rfl (Nat.le_of_ble_eq_true rfl) rfl dX11_ask_2 ?_
  refine ar_if_eqB (tgt := 17) C dX11_ask_5 (by decide) (fun c_1 => False.elim (Bool.noConfusion ((inN hN hi hN24).symm.trans c_1))) (fun _ => ?_)
  refine ar_iload_n (n := 2) C dX11_ask_8 rfl rfl ?_
  refine ar_iconst (v := 0) C dX11_ask_9 (by decide) ?_
  refine ar_iconst (v := 1) C dX11_ask_10 (by decide) ?_
  refine cS1 (ar := [.int 1, .int 0, .int 1]) (st := []) C lkX11_94 (k_within M 1 0 1) (by decide) rfl (Nat.le_of_ble_eq_true rfl) rfl dX11_ask_11 ?_
  refine ar_if_neB (tgt := 20) C dX11_ask_14 (by decide) (fun _ => ?_) (fun c_2 => False.elim (Bool.noConfusion ((show f_in 1 0 1 = true by decide).symm.trans c_2)))
  refine ar_aload_n (n := 0) C dX11_ask_20 rfl rfl ?_
  refine ar_iload_n (n := 1) C dX11_ask_21 rfl rfl ?_
  refine cV1 (ar := [.int (nI i)]) (st := []) C lkX11_349 kd_0 (kindK M (i := i) (by omega)) (by decide) rfl (Nat.le_of_ble_eq_true rfl) rfl dX11_ask_22 ?_
  refine ar_topi 2 hk ?_
  refine ar_istore_n (als' := [(3, .int 2), (0, .ref 0), (1, .int (nI i)), (2, .int 1)]) C dX11_ask_25 rfl (by decide) rfl ?_
  refine ar_aload_n (n := 1) C dX11_ask_26 rfl rfl ?_
  refine ar_getr C flX11_80 rfl kd_0 rf_0_11 dX11_ask_27 ?_
  refine ar_aload_n (n := 1) C dX11_ask_30 rfl rfl ?_
  refine ar_getr C flX11_24 rfl kd_0 rf_0_2 dX11_ask_31 ?_
  refine ar_iload_n (n := 2) C dX11_ask_34 rfl rfl ?_
  refine ar_aald (j := i) C kd_6 (by decide) (by decide) rfl (show i < 24 by omega) (rf_things (show i < 24 by omega)) dX11_ask_35 ?_
  refine ar_geti C flX11_172 (kd_thing (show i < 24 by omega)) dX11_ask_36 ?_
  refine ar_topi (M.1 (38 + i) 2) (by simp [pic, wi]; try omega) ?_
  refine ar_aload_n (n := 1) C dX11_ask_39 rfl rfl ?_
  refine ar_getr C flX11_35 rfl kd_0 rf_0_4 dX11_ask_40 ?_
  refine ar_geti C flX11_178 kd_7 dX11_ask_43 ?_
  refine ar_topi (f_colc (f_by (-(M.1 (38 + i) 0) * M.1 3 2) (M.1 (38 + i) 2))) (by simp [pic, wi]) ?_
  refine ar_aload_n (n := 1) C dX11_ask_46 rfl rfl ?_
  refine ar_getr C flX11_35 rfl kd_0 rf_0_4 dX11_ask_47 ?_
  refine ar_geti C flX11_186 kd_7 dX11_ask_50 ?_
  refine ar_topi (P_blur (M.1 3) (M.1 4) (M.1 (38 + i) 0) (M.1 (38 + i) 2)) (by simp [pic, wi]) ?_
  refine cV0 (ar := [.int (M.1 (38 + i) 2), .int (f_colc (f_by (-(M.1 (38 + i) 0) * M.1 3 2) (M.1 (38 + i) 2))), .int (P_blur (M.1 3) (M.1 4) (M.1 (38 + i) 0) (M.1 (38 + i) 2))]) (st := []) C lkX11_352 kd_20 (k_face (pic M (M.1 3) (M.1 4) (M.1 (38 + i) 0) (M.1 (38 + i) 1) (M.1 (38 + i) 2)) (M.1 (38 + i) 2) (f_colc (f_by (-(M.1 (38 + i) 0) * M.1 3 2) (M.1 (38 + i) 2))) (P_blur (M.1 3) (M.1 4) (M.1 (38 + i) 0) (M.1 (38 + i) 2))) (by decide) rfl (Nat.le_of_ble_eq_true rfl) rfl dX11_ask_53 ?_
  refine ar_iload_n (n := 3) C dX11_ask_56 rfl rfl ?_
  refine ar_if_ne (tgt := 71) C dX11_ask_57 (by decide) (fun _ => ?_) (fun c_3 => False.elim (absurd c_3 (by decide)))
  refine ar_aload_n (n := 1) C dX11_ask_71 rfl rfl ?_
  refine ar_getr C flX11_80 rfl kd_0 rf_0_11 dX11_ask_72 ?_
  refine ar_iload_n (n := 0) C dX11_ask_75 rfl rfl ?_
  refine cV1 (ar := [.int 2]) (st := []) C lkX11_358 kd_20 (k_sign2 (askM M i) (t := 0) (by simp [askM, wi, nI_0]) (by omega)) (by decide) rfl (Nat.le_of_ble_eq_true rfl) rfl dX11_ask_76 ?_
  exact ar_ireturn C rfl dX11_ask_79 ⟨by simp [askM, wi], rfl, rfl⟩
set_option maxHeartbeats 4000000 in
set_option maxRecDepth 100000 in
theorem x_ask_1_3 (M : Mm) {i N : Nat} (hN : M.1 0 3 = nI N) (hi : i < N) (hN24 : N ≤ 24) (hk : KK M i = 3) : AX mX11_ask 6 [.ref 0, .int (nI i), .int 1] M (some (.int ((f_colc (f_by (-(M.1 (38 + i) 0) * M.1 3 2) (M.1 (38 + i) 2))) + 1000))) (bg (bg (askM M i) 0 23) (0 + 1) 20) := by
  refine AM_ofF (by decide +kernel) (Nat.le_of_ble_eq_true rfl) (fun X V C _ _ => ?_)
  show AW X V mX11_ask.2.2.1 T0 M 0 0 _ 0 [(0, .ref 0), (1, .int (nI i)), (2, .int 1)] []
  refine ar_aload_n (n := 0) C dX11_ask_0 rfl rfl ?_
  refine ar_iload_n (n := 1) C dX11_ask_1 rfl rfl ?_
  refine cV1 (ar := [.int (nI i)]) (st := []) C lkX11_159 kd_0 (k_isThing M (nI i)) (by decide) rfl (Nat.le_of_ble_eq_true rfl) rfl dX11_ask_2 ?_
  refine ar_if_eqB (tgt := 17) C dX11_ask_5 (by decide) (fun c_1 => False.elim (Bool.noConfusion ((inN hN hi hN24).symm.trans c_1))) (fun _ => ?_)
  refine ar_iload_n (n := 2) C dX11_ask_8 rfl rfl ?_
  refine ar_iconst (v := 0) C dX11_ask_9 (by decide) ?_
  refine ar_iconst (v := 1) C dX11_ask_10 (by decide) ?_
  refine cS1 (ar := [.int 1, .int 0, .int 1]) (st := []) C lkX11_94 (k_within M 1 0 1) (by decide) rfl (Nat.le_of_ble_eq_true rfl) rfl dX11_ask_11 ?_
  refine ar_if_neB (tgt := 20) C dX11_ask_14 (by decide) (fun _ => ?_) (fun c_2 => False.elim (Bool.noConfusion ((show f_in 1 0 1 = true by decide).symm.trans c_2)))
  refine ar_aload_n (n := 0) C dX11_ask_20 rfl rfl ?_
  refine ar_iload_n (n := 1) C dX11_ask_21 rfl rfl ?_
  refine cV1 (ar := [.int (nI i)]) (st := []) C lkX11_349 kd_0 (kindK M (i := i) (by omega)) (by decide) rfl (Nat.le_of_ble_eq_true rfl) rfl dX11_ask_22 ?_
  refine ar_topi 3 hk ?_
  refine ar_istore_n (als' := [(3, .int 3), (0, .ref 0), (1, .int (nI i)), (2, .int 1)]) C dX11_ask_25 rfl (by decide) rfl ?_
  refine ar_aload_n (n := 1) C dX11_ask_26 rfl rfl ?_
  refine ar_getr C flX11_80 rfl kd_0 rf_0_11 dX11_ask_27 ?_
  refine ar_aload_n (n := 1) C dX11_ask_30 rfl rfl ?_
  refine ar_getr C flX11_24 rfl kd_0 rf_0_2 dX11_ask_31 ?_
  refine ar_iload_n (n := 2) C dX11_ask_34 rfl rfl ?_
  refine ar_aald (j := i) C kd_6 (by decide) (by decide) rfl (show i < 24 by omega) (rf_things (show i < 24 by omega)) dX11_ask_35 ?_
  refine ar_geti C flX11_172 (kd_thing (show i < 24 by omega)) dX11_ask_36 ?_
  refine ar_topi (M.1 (38 + i) 2) (by simp [pic, wi]; try omega) ?_
  refine ar_aload_n (n := 1) C dX11_ask_39 rfl rfl ?_
  refine ar_getr C flX11_35 rfl kd_0 rf_0_4 dX11_ask_40 ?_
  refine ar_geti C flX11_178 kd_7 dX11_ask_43 ?_
  refine ar_topi (f_colc (f_by (-(M.1 (38 + i) 0) * M.1 3 2) (M.1 (38 + i) 2))) (by simp [pic, wi]) ?_
  refine ar_aload_n (n := 1) C dX11_ask_46 rfl rfl ?_
  refine ar_getr C flX11_35 rfl kd_0 rf_0_4 dX11_ask_47 ?_
  refine ar_geti C flX11_186 kd_7 dX11_ask_50 ?_
  refine ar_topi (P_blur (M.1 3) (M.1 4) (M.1 (38 + i) 0) (M.1 (38 + i) 2)) (by simp [pic, wi]) ?_
  refine cV0 (ar := [.int (M.1 (38 + i) 2), .int (f_colc (f_by (-(M.1 (38 + i) 0) * M.1 3 2) (M.1 (38 + i) 2))), .int (P_blur (M.1 3) (M.1 4) (M.1 (38 + i) 0) (M.1 (38 + i) 2))]) (st := []) C lkX11_352 kd_20 (k_face (pic M (M.1 3) (M.1 4) (M.1 (38 + i) 0) (M.1 (38 + i) 1) (M.1 (38 + i) 2)) (M.1 (38 + i) 2) (f_colc (f_by (-(M.1 (38 + i) 0) * M.1 3 2) (M.1 (38 + i) 2))) (P_blur (M.1 3) (M.1 4) (M.1 (38 + i) 0) (M.1 (38 + i) 2))) (by decide) rfl (Nat.le_of_ble_eq_true rfl) rfl dX11_ask_53 ?_
  refine ar_iload_n (n := 3) C dX11_ask_56 rfl rfl ?_
  refine ar_if_ne (tgt := 71) C dX11_ask_57 (by decide) (fun _ => ?_) (fun c_3 => False.elim (absurd c_3 (by decide)))
  refine ar_aload_n (n := 1) C dX11_ask_71 rfl rfl ?_
  refine ar_getr C flX11_80 rfl kd_0 rf_0_11 dX11_ask_72 ?_
  refine ar_iload_n (n := 0) C dX11_ask_75 rfl rfl ?_
  refine cV1 (ar := [.int 3]) (st := []) C lkX11_358 kd_20 (k_sign3 (askM M i) (t := 0) (by simp [askM, wi, nI_0]) (by omega)) (by decide) rfl (Nat.le_of_ble_eq_true rfl) rfl dX11_ask_76 ?_
  exact ar_ireturn C rfl dX11_ask_79 ⟨by simp [askM, wi], rfl, rfl⟩
theorem cnt_c {f g : Nat → Int32} : ∀ {n : Nat}, (∀ k, k < n → f k = g k) → cnt f n = cnt g n
  | 0, _ => rfl
  | n + 1, h => by simp only [cnt]; rw [cnt_c (fun k hk => h k (by omega)), h n (by omega)]
def SHW (M : Mm) (t : Nat) : Bool := P_shows (M.1 3) (M.1 4) (M.1 (38 + t) 0) (M.1 (38 + t) 1) (M.1 (38 + t) 2)
def PXW (M : Mm) (t : Nat) : Int32 := P_x (M.1 3) (M.1 4) (M.1 (38 + t) 0) (M.1 (38 + t) 2)
def PYW (M : Mm) (t : Nat) : Int32 := P_y (M.1 3) (M.1 4) (M.1 (38 + t) 0) (M.1 (38 + t) 1) (M.1 (38 + t) 2)
def dH (M : Mm) (i t : Nat) : Int32 := if t < i ∧ SHW M t = true then 1 else 0
/-- the trace a, drawn as far as thing i -/
def DR (M : Mm) (a i : Nat) (M1 : Mm) : Prop := (∀ t, t < 24 → M1.1 (63 + 4 * a) t = dH M i t) ∧ (∀ t, M1.1 (64 + 4 * a) t = if t < i ∧ SHW M t = true then PXW M t else M.1 (64 + 4 * a) t) ∧ (∀ t, M1.1 (65 + 4 * a) t = if t < i ∧ SHW M t = true then PYW M t else M.1 (65 + 4 * a) t) ∧ (∀ c, c ≠ 7 → c ≠ 63 + 4 * a → c ≠ 64 + 4 * a → c ≠ 65 + 4 * a → M1.1 c = M.1 c)
theorem DR_0 (M : Mm) {a : Nat} (ha : a < 8) : DR M a 0 (wf M (63 + 4 * a) 24 0) := by
  refine ⟨fun t ht => ?_, fun t => ?_, fun t => ?_, fun c _ h1 _ _ => ?_⟩
  · simp [wf, dH, ht]
  · simp [wf]
  · simp [wf]
  · funext b; simp [wf, h1]
theorem DR_no {M M1 : Mm} {a i : Nat} {ρ β : Nat → Int32} {x y z : Int32} (h : DR M a i M1) (hs : SHW M i = false) : DR M a (i + 1) (pic M1 ρ β x y z) := by
  have key : ∀ t, (t < i + 1 ∧ SHW M t = true) ↔ (t < i ∧ SHW M t = true) := by
    intro t
    constructor
    · rintro ⟨q1, q2⟩
      refine ⟨?_, q2⟩
      rcases Nat.lt_or_ge t i with q | q
      · exact q
      · rw [show t = i by omega, hs] at q2; cases q2
    · rintro ⟨q1, q2⟩; exact ⟨by omega, q2⟩
  have e : ∀ c, c ≠ 7 → (pic M1 ρ β x y z).1 c = M1.1 c := fun c hc => by funext b; simp [pic, wi, hc]
  refine ⟨fun t ht => ?_, fun t => ?_, fun t => ?_, fun c h0 h1 h2 h3 => ?_⟩
  · rw [e _ (by omega), h.1 t ht]; simp only [dH, key]
  · rw [e _ (by omega), h.2.1 t]; simp only [key]
  · rw [e _ (by omega), h.2.2.1 t]; simp only [key]
  · rw [e _ h0]; exact h.2.2.2 c h0 h1 h2 h3
theorem DR_yes {M M1 : Mm} {a i : Nat} {ρ β : Nat → Int32} {x y z u v : Int32} (h : DR M a i M1) (hs : SHW M i = true) (eu : u = PXW M i) (ev : v = PYW M i) : DR M a (i + 1) (wi (wi (wi (pic M1 ρ β x y z) (63 + 4 * a) i 1) (64 + 4 * a) i u) (65 + 4 * a) i v) := by
  subst eu ev
  have e : ∀ c, c ≠ 7 → (pic M1 ρ β x y z).1 c = M1.1 c := fun c hc => by funext b; simp [pic, wi, hc]
  have key : ∀ t, t ≠ i → ((t < i + 1 ∧ SHW M t = true) ↔ (t < i ∧ SHW M t = true)) := fun t ht => ⟨fun q => ⟨by omega, q.2⟩, fun q => ⟨by omega, q.2⟩⟩
  refine ⟨fun t ht => ?_, fun t => ?_, fun t => ?_, fun c h0 h1 h2 h3 => ?_⟩
  · by_cases q : t = i
    · subst q; simp [wi, dH, hs]
    · have r := h.1 t ht
      rw [← e _ (by omega)] at r
      simp only [dH, key t q]
      simp only [dH] at r
      rw [← r]
      simp [wi, q]
  · by_cases q : t = i
    · subst q; simp [wi, hs]
    · have r := h.2.1 t
      rw [← e _ (by omega)] at r
      simp only [key t q]
      rw [← r]
      simp [wi, q]
  · by_cases q : t = i
    · subst q; simp [wi, hs]
    · have r := h.2.2.1 t
      rw [← e _ (by omega)] at r
      simp only [key t q]
      rw [← r]
      simp [wi, q]
  · rw [← h.2.2.2 c h0 h1 h2 h3, ← e c h0]
    funext b
    simp [wi, h1, h2, h3]
set_option maxHeartbeats 4000000 in
set_option maxRecDepth 100000 in
theorem l_draw {X : Ctx} {V : Vx} {Q : State → Prop} (C : Cx X V mX11_draw 3) (M : Mm) {a N : Nat} (ha : a < 8) (hN : M.1 0 3 = nI N) (hN24 : N ≤ 24) (kk : ∀ M1, DR M a N M1 → AW X V mX11_draw.2.2.1 T0 M1 0 0 Q 87 [(3, .int (nI N)), (2, .ref (62 + 4 * a)), (0, .ref 0), (1, .int (nI a))] []) : ∀ (m : Nat) (i : Nat) (M1 : Mm), i ≤ N → DR M a i M1 → N - i < m → AW X V mX11_draw.2.2.1 T0 (M1) 0 0 Q 23 [(3, .int (nI i)), (2, .ref (62 + 4 * a)), (0, .ref 0), (1, .int (nI a))] [] := by
  intro m
  induction m with
  | zero => intro i M1 _ _ h; exact absurd h (Nat.not_lt_zero _)
  | succ m ih =>
    intro i M1 hi0 hD hmz
    refine ar_iload_n (n := 0) C dX11_draw_23 rfl rfl ?_
    refine ar_aload_n (n := 2) C dX11_draw_24 rfl rfl ?_
    refine ar_geti C flX11_28 kd_0 dX11_draw_25 ?_
    refine ar_topi (nI N) (by rw [hD.2.2.2 0 (by omega) (by omega) (by omega) (by omega)]; exact hN) ?_
    refine ar_icmp_ge (tgt := 87) C dX11_draw_28 (by decide) (fun c_1 => ?_) (fun c_1 => ?_)
    · have hi : i = N := Nat.le_antisymm hi0 (nat_le c_1 (by omega) (by omega))
      subst hi
      exact kk M1 hD
    · have hi : i < N := nat_nle c_1 (by omega) (by omega)
      refine ar_aload_n (n := 2) C dX11_draw_31 rfl rfl ?_
      refine ar_getr C flX11_35 rfl kd_0 rf_0_4 dX11_draw_32 ?_
      refine ar_aload_n (n := 2) C dX11_draw_35 rfl rfl ?_
      refine ar_getr C flX11_18 rfl kd_0 rf_0_1 dX11_draw_36 ?_
      refine ar_aload_n (n := 2) C dX11_draw_39 rfl rfl ?_
      refine ar_getr C flX11_24 rfl kd_0 rf_0_2 dX11_draw_40 ?_
      refine ar_iload_n (n := 0) C dX11_draw_43 rfl rfl ?_
      refine ar_aald (j := i) C kd_6 (by decide) (by decide) rfl (show i < 24 by omega) (rf_things (show i < 24 by omega)) dX11_draw_44 ?_
      refine cV0 (ar := [.ref 2, .ref (38 + i)]) (st := []) C lkX11_162 kd_7 (k_take M1 (i := i) (by omega) (hD.2.2.2 3 (by omega) (by omega) (by omega) (by omega)) (hD.2.2.2 4 (by omega) (by omega) (by omega) (by omega)) (congrFun (hD.2.2.2 (38 + i) (by omega) (by omega) (by omega) (by omega)) 0) (congrFun (hD.2.2.2 (38 + i) (by omega) (by omega) (by omega) (by omega)) 1) (congrFun (hD.2.2.2 (38 + i) (by omega) (by omega) (by omega) (by omega)) 2)) (by decide) rfl (Nat.le_of_ble_eq_true rfl) rfl dX11_draw_45 ?_
      refine ar_aload_n (n := 2) C dX11_draw_48 rfl rfl ?_
      refine ar_getr C flX11_18 rfl kd_0 rf_0_1 dX11_draw_49 ?_
      refine ar_aload_n (n := 2) C dX11_draw_52 rfl rfl ?_
      refine ar_getr C flX11_35 rfl kd_0 rf_0_4 dX11_draw_53 ?_
      refine cV1 (ar := [.ref 7]) (st := []) C lkX11_230 kd_2 (k_shows (pic M1 (M.1 3) (M.1 4) (M.1 (38 + i) 0) (M.1 (38 + i) 1) (M.1 (38 + i) 2))) (by decide) rfl (Nat.le_of_ble_eq_true rfl) rfl dX11_draw_56 ?_
      refine ar_topi (bI (SHW M i)) (by rw [show (pic M1 (M.1 3) (M.1 4) (M.1 (38 + i) 0) (M.1 (38 + i) 1) (M.1 (38 + i) 2)).1 3 = M.1 3 from (hD.2.2.2 3 (by omega) (by omega) (by omega) (by omega))]; simp [SHW, P_shows, pic, wi]) ?_
      refine ar_if_eqB (tgt := 81) C dX11_draw_59 (by decide) (fun c_2 => ?_) (fun c_2 => ?_)
      · refine ar_iinc (n := 0) (v := (nI (i + 1))) (als' := [(3, .int (nI (i + 1))), (2, .ref (62 + 4 * a)), (0, .ref 0), (1, .int (nI a))]) C dX11_draw_81 rfl (nI_1 _) (by decide) rfl ?_
        refine ar_goto (tgt := 23) C dX11_draw_84 (by decide) ?_
        exact ih (i + 1) _ (by omega) (DR_no hD c_2) (by omega)
      · refine ar_aload_n (n := 1) C dX11_draw_62 rfl rfl ?_
        refine ar_iload_n (n := 0) C dX11_draw_63 rfl rfl ?_
        refine ar_aload_n (n := 2) C dX11_draw_64 rfl rfl ?_
        refine ar_getr C flX11_35 rfl kd_0 rf_0_4 dX11_draw_65 ?_
        refine ar_geti C flX11_184 kd_7 dX11_draw_68 ?_
        refine ar_topi (PXW M i) (by simp [pic, wi, PXW]) ?_
        refine ar_aload_n (n := 2) C dX11_draw_71 rfl rfl ?_
        refine ar_getr C flX11_35 rfl kd_0 rf_0_4 dX11_draw_72 ?_
        refine ar_geti C flX11_185 kd_7 dX11_draw_75 ?_
        refine ar_topi (PYW M i) (by simp [pic, wi, PYW]) ?_
        refine cV0 (ar := [.int (nI i), .int (PXW M i), .int (PYW M i)]) (st := []) C lkX11_226 (kd_trace ha) (k_rput (pic M1 (M.1 3) (M.1 4) (M.1 (38 + i) 0) (M.1 (38 + i) 1) (M.1 (38 + i) 2)) ha (show i < 24 by omega) (PXW M i) (PYW M i)) (by decide) rfl (Nat.le_of_ble_eq_true rfl) rfl dX11_draw_78 ?_
        refine ar_iinc (n := 0) (v := (nI (i + 1))) (als' := [(3, .int (nI (i + 1))), (2, .ref (62 + 4 * a)), (0, .ref 0), (1, .int (nI a))]) C dX11_draw_81 rfl (nI_1 _) (by decide) rfl ?_
        refine ar_goto (tgt := 23) C dX11_draw_84 (by decide) ?_
        exact ih (i + 1) _ (by omega) (DR_yes hD c_2 rfl rfl) (by omega)
set_option maxHeartbeats 4000000 in
set_option maxRecDepth 100000 in
theorem x_draw_bad (M : Mm) (a : Int32)  (hbad : (f_in a 0 7) = false) : AX mX11_draw 4 [.ref 0, .int a] M (some (.int (-1000001))) M := by
  refine AM_ofF (by decide +kernel) (Nat.le_of_ble_eq_true rfl) (fun X V C _ _ => ?_)
  show AW X V mX11_draw.2.2.1 T0 M 0 0 _ 0 [(0, .ref 0), (1, .int a)] []
  refine ar_iload_n (n := 1) C dX11_draw_0 rfl rfl ?_
  refine cS1 (ar := [.int a]) (st := []) C lkX11_213 (k_isTrace M a) (by decide) rfl (Nat.le_of_ble_eq_true rfl) rfl dX11_draw_1 ?_
  refine ar_if_neB (tgt := 10) C dX11_draw_4 (by decide) (fun c_1 => ?_) (fun c_1 => ?_)
  · exact absurd hbad (by first | (rw [c_1]; decide) | simp [*])
  · refine ar_ldc C kcX11_98 dX11_draw_7 ?_
    exact ar_ireturn C rfl dX11_draw_9 ⟨rfl, rfl, rfl⟩
set_option maxHeartbeats 4000000 in
set_option maxRecDepth 100000 in
theorem x_draw_ok (M : Mm) {a N : Nat} (ha : a < 8) (hN : M.1 0 3 = nI N) (hN24 : N ≤ 24) : AQ mX11_draw 3 [.ref 0, .int (nI a)] M (some (.int (nI (cnt (dH M N) 24)))) (DR M a N) := by
  refine AM_ofF (by decide +kernel) (Nat.le_of_ble_eq_true rfl) (fun X V C _ _ => ?_)
  show AW X V mX11_draw.2.2.1 T0 M 0 0 _ 0 [(0, .ref 0), (1, .int (nI a))] []
  refine ar_iload_n (n := 1) C dX11_draw_0 rfl rfl ?_
  refine cS1 (ar := [.int (nI a)]) (st := []) C lkX11_213 (k_isTrace M (nI a)) (by decide) rfl (Nat.le_of_ble_eq_true rfl) rfl dX11_draw_1 ?_
  refine ar_if_neB (tgt := 10) C dX11_draw_4 (by decide) (fun _ => ?_) (fun c_1 => False.elim (Bool.noConfusion ((in7 ha).symm.trans c_1)))
  refine ar_aload_n (n := 0) C dX11_draw_10 rfl rfl ?_
  refine ar_getr C flX11_41 rfl kd_0 rf_0_5 dX11_draw_11 ?_
  refine ar_iload_n (n := 1) C dX11_draw_14 rfl rfl ?_
  refine ar_aald (j := a) C kd_8 (by decide) (by decide) rfl ha (rf_traces ha) dX11_draw_15 ?_
  refine ar_astore_n (als' := [(2, .ref (62 + 4 * a)), (0, .ref 0), (1, .int (nI a))]) C dX11_draw_16 rfl (by decide) rfl ?_
  refine ar_aload_n (n := 0) C dX11_draw_17 rfl rfl ?_
  refine cV0 (ar := []) (st := []) C lkX11_227 (kd_trace ha) (k_clear M ha) (by decide) rfl (Nat.le_of_ble_eq_true rfl) rfl dX11_draw_18 ?_
  refine ar_iconst (v := 0) C dX11_draw_21 (by decide) ?_
  refine ar_istore_n (als' := [(3, .int 0), (2, .ref (62 + 4 * a)), (0, .ref 0), (1, .int (nI a))]) C dX11_draw_22 rfl (by decide) rfl ?_
  refine l_draw C M ha hN hN24 (fun M1 hD => ?_) (N + 1) 0 _ (by omega) (DR_0 M ha) (by omega)
  refine ar_aload_n (n := 1) C dX11_draw_87 rfl rfl ?_
  refine cV1 (ar := []) (st := []) C lkX11_234 (kd_trace ha) (k_marksMade M1 ha) (by decide) rfl (Nat.le_of_ble_eq_true rfl) rfl dX11_draw_88 ?_
  exact ar_ireturn C rfl dX11_draw_91 ⟨by rw [cnt_c (fun k hk => hD.1 k hk)], rfl, hD⟩
