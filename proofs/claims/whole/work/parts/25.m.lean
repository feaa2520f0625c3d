/-! LENSTABLE: span -/
theorem fold_1 (op : Int64 → Int64 → Int64) (c : Int64) (v : Nat → Int64) : op c (v 0) = fold op c v 1 := rfl
theorem fold_s (op : Int64 → Int64 → Int64) (c : Int64) (v : Nat → Int64) (k : Nat) : op (fold op c v k) (v k) = fold op c v (k + 1) := rfl
theorem vP_eq (S0 S1 : Nat → Int32) (p q e : Int32) (k : Nat) : f_lby (g_up S0 S1 (sgp p e (k / 3)) (sgp q e (k % 3))) (g_lo S0 S1 (sgp p e (k / 3)) (sgp q e (k % 3))) = vP S0 S1 p q e k := rfl
set_option maxHeartbeats 1000000 in
set_option maxRecDepth 100000 in
theorem x_span_bad (M : Mm) (p q e w : Int32)  (hbad : (f_in p (-1000) 1000 && f_in q (-1000) 1000 && f_in e 0 20 && f_in w 0 1) = false) : AX mX11_span 3 [.ref 0, .int p, .int q, .int e, .int w] M (some (.long (-1000001))) M := by
  refine AM_ofF (by decide +kernel) (Nat.le_of_ble_eq_true rfl) (fun X V C _ _ => ?_)
  show AW X V mX11_span.2.2.1 T0 M 0 0 _ 0 [(0, .ref 0), (1, .int p), (2, .int q), (3, .int e), (4, .int w)] []
  refine ar_iload_n (n := 1) C dX11_span_0 rfl rfl ?_
  refine cS1 (ar := [.int p]) (st := []) C lkX11_219 (k_isFlat M p) (by decide) rfl (Nat.le_of_ble_eq_true rfl) rfl dX11_span_1 ?_
  refine ar_if_eqB (tgt := 34) C dX11_span_4 (by decide) (fun c_1 => ?_) (fun c_1 => ?_)
  · refine ar_ldc2 C kcX11_282 dX11_span_34 ?_
    exact ar_lreturn C rfl dX11_span_37 ⟨rfl, rfl, rfl⟩
  · refine ar_iload_n (n := 2) C dX11_span_7 rfl rfl ?_
    refine cS1 (ar := [.int q]) (st := []) C lkX11_219 (k_isFlat M q) (by decide) rfl (Nat.le_of_ble_eq_true rfl) rfl dX11_span_8 ?_
    refine ar_if_eqB (tgt := 34) C dX11_span_11 (by decide) (fun c_2 => ?_) (fun c_2 => ?_)
    · refine ar_ldc2 C kcX11_282 dX11_span_34 ?_
      exact ar_lreturn C rfl dX11_span_37 ⟨rfl, rfl, rfl⟩
    · refine ar_iload_n (n := 3) C dX11_span_14 rfl rfl ?_
      refine ar_iconst (v := 0) C dX11_span_15 (by decide) ?_
      refine ar_bipush (v := 20) C dX11_span_16 (by decide) ?_
      refine cS1 (ar := [.int e, .int 0, .int 20]) (st := []) C lkX11_94 (k_within M e 0 20) (by decide) rfl (Nat.le_of_ble_eq_true rfl) rfl dX11_span_18 ?_
      refine ar_if_eqB (tgt := 34) C dX11_span_21 (by decide) (fun c_3 => ?_) (fun c_3 => ?_)
      · refine ar_ldc2 C kcX11_282 dX11_span_34 ?_
        exact ar_lreturn C rfl dX11_span_37 ⟨rfl, rfl, rfl⟩
      · refine ar_iload (n := 4) C dX11_span_24 rfl ?_
        refine ar_iconst (v := 0) C dX11_span_26 (by decide) ?_
        refine ar_iconst (v := 1) C dX11_span_27 (by decide) ?_
        refine cS1 (ar := [.int w, .int 0, .int 1]) (st := []) C lkX11_94 (k_within M w 0 1) (by decide) rfl (Nat.le_of_ble_eq_true rfl) rfl dX11_span_28 ?_
        refine ar_if_neB (tgt := 38) C dX11_span_31 (by decide) (fun c_4 => ?_) (fun c_4 => ?_)
        · exact absurd hbad (by first | (rw [c_1]; decide) | simp [*])
        · refine ar_ldc2 C kcX11_282 dX11_span_34 ?_
          exact ar_lreturn C rfl dX11_span_37 ⟨rfl, rfl, rfl⟩
set_option maxHeartbeats 1000000 in
set_option maxRecDepth 100000 in
theorem x_span_0 (M : Mm) (p q e : Int32) (hp : f_in p (-1000) 1000 = true) (hq : f_in q (-1000) 1000 = true) (he : f_in e 0 20 = true) : AQ mX11_span 3 [.ref 0, .int p, .int q, .int e, .int 0] M (some (.long (if (g_ok (M.1 94) (M.1 95) p.toInt64 q.toInt64 && allB (okP (M.1 94) (M.1 95) p q e) 9) = true then fold f_lmin (f_lby (g_up (M.1 94) (M.1 95) p.toInt64 q.toInt64) (g_lo (M.1 94) (M.1 95) p.toInt64 q.toInt64)) (vP (M.1 94) (M.1 95) p q e) 9 else -1000000))) (fun M1 => M1.1 = M.1) := by
  refine AM_ofF (by decide +kernel) (Nat.le_of_ble_eq_true rfl) (fun X V C _ _ => ?_)
  show AW X V mX11_span.2.2.1 T0 M 0 0 _ 0 [(0, .ref 0), (1, .int p), (2, .int q), (3, .int e), (4, .int 0)] []
  refine ar_iload_n (n := 1) C dX11_span_0 rfl rfl ?_
  refine cS1 (ar := [.int p]) (st := []) C lkX11_219 (k_isFlat M p) (by decide) rfl (Nat.le_of_ble_eq_true rfl) rfl dX11_span_1 ?_
  refine ar_if_eqB (tgt := 34) C dX11_span_4 (by decide) (fun c_1 => False.elim (Bool.noConfusion (hp.symm.trans c_1))) (fun _ => ?_)
  refine ar_iload_n (n := 2) C dX11_span_7 rfl rfl ?_
  refine cS1 (ar := [.int q]) (st := []) C lkX11_219 (k_isFlat M q) (by decide) rfl (Nat.le_of_ble_eq_true rfl) rfl dX11_span_8 ?_
  refine ar_if_eqB (tgt := 34) C dX11_span_11 (by decide) (fun c_2 => False.elim (Bool.noConfusion (hq.symm.trans c_2))) (fun _ => ?_)
  refine ar_iload_n (n := 3) C dX11_span_14 rfl rfl ?_
  refine ar_iconst (v := 0) C dX11_span_15 (by decide) ?_
  refine ar_bipush (v := 20) C dX11_span_16 (by decide) ?_
  refine cS1 (ar := [.int e, .int 0, .int 20]) (st := []) C lkX11_94 (k_within M e 0 20) (by decide) rfl (Nat.le_of_ble_eq_true rfl) rfl dX11_span_18 ?_
  refine ar_if_eqB (tgt := 34) C dX11_span_21 (by decide) (fun c_3 => False.elim (Bool.noConfusion (he.symm.trans c_3))) (fun _ => ?_)
  refine ar_iload (n := 4) C dX11_span_24 rfl ?_
  refine ar_iconst (v := 0) C dX11_span_26 (by decide) ?_
  refine ar_iconst (v := 1) C dX11_span_27 (by decide) ?_
  refine cS1 (ar := [.int 0, .int 0, .int 1]) (st := []) C lkX11_94 (k_within M 0 0 1) (by decide) rfl (Nat.le_of_ble_eq_true rfl) rfl dX11_span_28 ?_
  refine ar_if_neB (tgt := 38) C dX11_span_31 (by decide) (fun _ => ?_) (fun c_4 => False.elim (Bool.noConfusion ((show f_in 0 0 1 = true by decide).symm.trans c_4)))
  refine ar_aload_n (n := 0) C dX11_span_38 rfl rfl ?_
  refine ar_getr C flX11_68 rfl kd_0 rf_0_9 dX11_span_39 ?_
  refine ar_aload_n (n := 0) C dX11_span_42 rfl rfl ?_
  refine ar_getr C flX11_61 rfl kd_0 rf_0_8 dX11_span_43 ?_
  refine ar_iconst (v := 0) C dX11_span_46 (by decide) ?_
  refine ar_aald (j := 0) C kd_17 (by decide) (by decide) (by decide) (by decide) rf_17_0 dX11_span_47 ?_
  refine ar_aload_n (n := 0) C dX11_span_48 rfl rfl ?_
  refine ar_getr C flX11_61 rfl kd_0 rf_0_8 dX11_span_49 ?_
  refine ar_iconst (v := 1) C dX11_span_52 (by decide) ?_
  refine ar_aald (j := 1) C kd_17 (by decide) (by decide) (by decide) (by decide) rf_17_1 dX11_span_53 ?_
  refine ar_iload_n (n := 1) C dX11_span_54 rfl rfl ?_
  refine ar_i2l C dX11_span_55 ?_
  refine ar_iload_n (n := 2) C dX11_span_56 rfl rfl ?_
  refine ar_i2l C dX11_span_57 ?_
  refine cV1q (ar := [.ref 94, .ref 95, .long p.toInt64, .long q.toInt64]) (st := []) C lkX11_284 kd_18 (k_sightE M M rfl p.toInt64 q.toInt64) (by decide) rfl (Nat.le_of_ble_eq_true rfl) rfl dX11_span_58 (fun M_5 h_6 => ?_)
  refine ar_if_neB (tgt := 68) C dX11_span_61 (by decide) (fun c_7 => ?_) (fun c_7 => ?_)
  · refine ar_aload_n (n := 0) C dX11_span_68 rfl rfl ?_
    refine ar_getr C flX11_68 rfl kd_0 rf_0_9 dX11_span_69 ?_
    refine ar_getl C flX11_289 kd_18 dX11_span_72 ?_
    refine ar_topl (g_up (M.1 94) (M.1 95) p.toInt64 q.toInt64) h_6.2.1 ?_
    refine ar_aload_n (n := 0) C dX11_span_75 rfl rfl ?_
    refine ar_getr C flX11_68 rfl kd_0 rf_0_9 dX11_span_76 ?_
    refine ar_getl C flX11_293 kd_18 dX11_span_79 ?_
    refine ar_topl (g_lo (M.1 94) (M.1 95) p.toInt64 q.toInt64) h_6.1 ?_
    refine cS1 (ar := [.long (g_up (M.1 94) (M.1 95) p.toInt64 q.toInt64), .long (g_lo (M.1 94) (M.1 95) p.toInt64 q.toInt64)]) (st := []) C lkX11_300 (k_lby M_5 (g_up (M.1 94) (M.1 95) p.toInt64 q.toInt64) (g_lo (M.1 94) (M.1 95) p.toInt64 q.toInt64)) (by decide) rfl (Nat.le_of_ble_eq_true rfl) rfl dX11_span_82 ?_
    refine ar_topl (f_lby (g_up (M.1 94) (M.1 95) p.toInt64 q.toInt64) (g_lo (M.1 94) (M.1 95) p.toInt64 q.toInt64)) rfl ?_
    refine ar_lstore (als' := [(5, .long (f_lby (g_up (M.1 94) (M.1 95) p.toInt64 q.toInt64) (g_lo (M.1 94) (M.1 95) p.toInt64 q.toInt64))), (0, .ref 0), (1, .int p), (2, .int q), (3, .int e), (4, .int 0)]) C dX11_span_85 (by decide) rfl ?_
    refine ar_lload (n := 0) C dX11_span_87 rfl ?_
    refine ar_lstore (als' := [(7, .long (f_lby (g_up (M.1 94) (M.1 95) p.toInt64 q.toInt64) (g_lo (M.1 94) (M.1 95) p.toInt64 q.toInt64))), (5, .long (f_lby (g_up (M.1 94) (M.1 95) p.toInt64 q.toInt64) (g_lo (M.1 94) (M.1 95) p.toInt64 q.toInt64))), (0, .ref 0), (1, .int p), (2, .int q), (3, .int e), (4, .int 0)]) C dX11_span_89 (by decide) rfl ?_
    refine ar_iconst (v := (-1)) C dX11_span_91 (by decide) ?_
    refine ar_istore (als' := [(9, .int (-1)), (7, .long (f_lby (g_up (M.1 94) (M.1 95) p.toInt64 q.toInt64) (g_lo (M.1 94) (M.1 95) p.toInt64 q.toInt64))), (5, .long (f_lby (g_up (M.1 94) (M.1 95) p.toInt64 q.toInt64) (g_lo (M.1 94) (M.1 95) p.toInt64 q.toInt64))), (0, .ref 0), (1, .int p), (2, .int q), (3, .int e), (4, .int 0)]) C dX11_span_92 (by decide) rfl ?_
    refine ar_iload (n := 0) C dX11_span_94 rfl ?_
    refine ar_iconst (v := 1) C dX11_span_96 (by decide) ?_
    refine ar_icmp_gt (tgt := 198) C dX11_span_97 (by decide) (fun c_8 => absurd c_8 (by decide)) (fun _ => ?_)
    refine ar_iconst (v := (-1)) C dX11_span_100 (by decide) ?_
    refine ar_istore (als' := [(10, .int (-1)), (9, .int (-1)), (7, .long (f_lby (g_up (M.1 94) (M.1 95) p.toInt64 q.toInt64) (g_lo (M.1 94) (M.1 95) p.toInt64 q.toInt64))), (5, .long (f_lby (g_up (M.1 94) (M.1 95) p.toInt64 q.toInt64) (g_lo (M.1 94) (M.1 95) p.toInt64 q.toInt64))), (0, .ref 0), (1, .int p), (2, .int q), (3, .int e), (4, .int 0)]) C dX11_span_101 (by decide) rfl ?_
    refine ar_iload (n := 0) C dX11_span_103 rfl ?_
    refine ar_iconst (v := 1) C dX11_span_105 (by decide) ?_
    refine ar_icmp_gt (tgt := 192) C dX11_span_106 (by decide) (fun c_9 => absurd c_9 (by decide)) (fun _ => ?_)
    refine ar_aload_n (n := 4) C dX11_span_109 rfl rfl ?_
    refine ar_getr C flX11_68 rfl kd_0 rf_0_9 dX11_span_110 ?_
    refine ar_aload_n (n := 4) C dX11_span_113 rfl rfl ?_
    refine ar_getr C flX11_61 rfl kd_0 rf_0_8 dX11_span_114 ?_
    refine ar_iconst (v := 0) C dX11_span_117 (by decide) ?_
    refine ar_aald (j := 0) C kd_17 (by decide) (by decide) (by decide) (by decide) rf_17_0 dX11_span_118 ?_
    refine ar_aload_n (n := 4) C dX11_span_119 rfl rfl ?_
    refine ar_getr C flX11_61 rfl kd_0 rf_0_8 dX11_span_120 ?_
    refine ar_iconst (v := 1) C dX11_span_123 (by decide) ?_
    refine ar_aald (j := 1) C kd_17 (by decide) (by decide) (by decide) (by decide) rf_17_1 dX11_span_124 ?_
    refine ar_iload_n (n := 5) C dX11_span_125 rfl rfl ?_
    refine ar_iload (n := 1) C dX11_span_126 rfl ?_
    refine ar_iload_n (n := 7) C dX11_span_128 rfl rfl ?_
    refine ar_imul C dX11_span_129 ?_
    refine ar_iadd C dX11_span_130 ?_
    refine ar_i2l C dX11_span_131 ?_
    refine ar_topl (sgp p e 0) rfl ?_
    refine ar_iload_n (n := 6) C dX11_span_132 rfl rfl ?_
    refine ar_iload (n := 0) C dX11_span_133 rfl ?_
    refine ar_iload_n (n := 7) C dX11_span_135 rfl rfl ?_
    refine ar_imul C dX11_span_136 ?_
    refine ar_iadd C dX11_span_137 ?_
    refine ar_i2l C dX11_span_138 ?_
    refine ar_topl (sgp q e 0) rfl ?_
    refine cV1q (ar := [.ref 94, .ref 95, .long (sgp p e 0), .long (sgp q e 0)]) (st := []) C lkX11_284 kd_18 (k_sightE M M_5 h_6.2.2 (sgp p e 0) (sgp q e 0)) (by decide) rfl (Nat.le_of_ble_eq_true rfl) rfl dX11_span_139 (fun M_10 h_11 => ?_)
    refine ar_if_neB (tgt := 149) C dX11_span_142 (by decide) (fun c_12 => ?_) (fun c_12 => ?_)
    · refine ar_aload_n (n := 4) C dX11_span_149 rfl rfl ?_
      refine ar_getr C flX11_68 rfl kd_0 rf_0_9 dX11_span_150 ?_
      refine ar_getl C flX11_289 kd_18 dX11_span_153 ?_
      refine ar_topl (g_up (M.1 94) (M.1 95) (sgp p e 0) (sgp q e 0)) h_11.2.1 ?_
      refine ar_aload_n (n := 4) C dX11_span_156 rfl rfl ?_
      refine ar_getr C flX11_68 rfl kd_0 rf_0_9 dX11_span_157 ?_
      refine ar_getl C flX11_293 kd_18 dX11_span_160 ?_
      refine ar_topl (g_lo (M.1 94) (M.1 95) (sgp p e 0) (sgp q e 0)) h_11.1 ?_
      refine cS1 (ar := [.long (g_up (M.1 94) (M.1 95) (sgp p e 0) (sgp q e 0)), .long (g_lo (M.1 94) (M.1 95) (sgp p e 0) (sgp q e 0))]) (st := []) C lkX11_300 (k_lby M_10 (g_up (M.1 94) (M.1 95) (sgp p e 0) (sgp q e 0)) (g_lo (M.1 94) (M.1 95) (sgp p e 0) (sgp q e 0))) (by decide) rfl (Nat.le_of_ble_eq_true rfl) rfl dX11_span_163 ?_
      refine ar_topl (vP (M.1 94) (M.1 95) p q e 0) (vP_eq _ _ _ _ _ 0) ?_
      refine ar_lstore (als' := [(11, .long (vP (M.1 94) (M.1 95) p q e 0)), (10, .int (-1)), (9, .int (-1)), (7, .long (f_lby (g_up (M.1 94) (M.1 95) p.toInt64 q.toInt64) (g_lo (M.1 94) (M.1 95) p.toInt64 q.toInt64))), (5, .long (f_lby (g_up (M.1 94) (M.1 95) p.toInt64 q.toInt64) (g_lo (M.1 94) (M.1 95) p.toInt64 q.toInt64))), (0, .ref 0), (1, .int p), (2, .int q), (3, .int e), (4, .int 0)]) C dX11_span_166 (by decide) rfl ?_
      refine ar_lload (n := 4) C dX11_span_168 rfl ?_
      refine ar_lload (n := 0) C dX11_span_170 rfl ?_
      refine cS1 (ar := [.long (f_lby (g_up (M.1 94) (M.1 95) p.toInt64 q.toInt64) (g_lo (M.1 94) (M.1 95) p.toInt64 q.toInt64)), .long (vP (M.1 94) (M.1 95) p q e 0)]) (st := []) C lkX11_303 (k_lmin M_10 (f_lby (g_up (M.1 94) (M.1 95) p.toInt64 q.toInt64) (g_lo (M.1 94) (M.1 95) p.toInt64 q.toInt64)) (vP (M.1 94) (M.1 95) p q e 0)) (by decide) rfl (Nat.le_of_ble_eq_true rfl) rfl dX11_span_172 ?_
      refine ar_topl (fold f_lmin (f_lby (g_up (M.1 94) (M.1 95) p.toInt64 q.toInt64) (g_lo (M.1 94) (M.1 95) p.toInt64 q.toInt64)) (vP (M.1 94) (M.1 95) p q e) 1) (fold_1 _ _ _) ?_
      refine ar_lstore (als' := [(5, .long (fold f_lmin (f_lby (g_up (M.1 94) (M.1 95) p.toInt64 q.toInt64) (g_lo (M.1 94) (M.1 95) p.toInt64 q.toInt64)) (vP (M.1 94) (M.1 95) p q e) 1)), (11, .long (vP (M.1 94) (M.1 95) p q e 0)), (10, .int (-1)), (9, .int (-1)), (7, .long (f_lby (g_up (M.1 94) (M.1 95) p.toInt64 q.toInt64) (g_lo (M.1 94) (M.1 95) p.toInt64 q.toInt64))), (0, .ref 0), (1, .int p), (2, .int q), (3, .int e), (4, .int 0)]) C dX11_span_175 (by decide) rfl ?_
      refine ar_lload (n := 4) C dX11_span_177 rfl ?_
      refine ar_lload (n := 1) C dX11_span_179 rfl ?_
      refine cS1 (ar := [.long (f_lby (g_up (M.1 94) (M.1 95) p.toInt64 q.toInt64) (g_lo (M.1 94) (M.1 95) p.toInt64 q.toInt64)), .long (vP (M.1 94) (M.1 95) p q e 0)]) (st := []) C lkX11_308 (k_lmax M_10 (f_lby (g_up (M.1 94) (M.1 95) p.toInt64 q.toInt64) (g_lo (M.1 94) (M.1 95) p.toInt64 q.toInt64)) (vP (M.1 94) (M.1 95) p q e 0)) (by decide) rfl (Nat.le_of_ble_eq_true rfl) rfl dX11_span_181 ?_
      refine ar_topl (fold f_lmax (f_lby (g_up (M.1 94) (M.1 95) p.toInt64 q.toInt64) (g_lo (M.1 94) (M.1 95) p.toInt64 q.toInt64)) (vP (M.1 94) (M.1 95) p q e) 1) (fold_1 _ _ _) ?_
      refine ar_lstore (als' := [(7, .long (fold f_lmax (f_lby (g_up (M.1 94) (M.1 95) p.toInt64 q.toInt64) (g_lo (M.1 94) (M.1 95) p.toInt64 q.toInt64)) (vP (M.1 94) (M.1 95) p q e) 1)), (5, .long (fold f_lmin (f_lby (g_up (M.1 94) (M.1 95) p.toInt64 q.toInt64) (g_lo (M.1 94) (M.1 95) p.toInt64 q.toInt64)) (vP (M.1 94) (M.1 95) p q e) 1)), (11, .long (vP (M.1 94) (M.1 95) p q e 0)), (10, .int (-1)), (9, .int (-1)), (0, .ref 0), (1, .int p), (2, .int q), (3, .int e), (4, .int 0)]) C dX11_span_184 (by decide) rfl ?_
      refine ar_iinc (n := 3) (v := 0) (als' := [(10, .int 0), (7, .long (fold f_lmax (f_lby (g_up (M.1 94) (M.1 95) p.toInt64 q.toInt64) (g_lo (M.1 94) (M.1 95) p.toInt64 q.toInt64)) (vP (M.1 94) (M.1 95) p q e) 1)), (5, .long (fold f_lmin (f_lby (g_up (M.1 94) (M.1 95) p.toInt64 q.toInt64) (g_lo (M.1 94) (M.1 95) p.toInt64 q.toInt64)) (vP (M.1 94) (M.1 95) p q e) 1)), (11, .long (vP (M.1 94) (M.1 95) p q e 0)), (9, .int (-1)), (0, .ref 0), (1, .int p), (2, .int q), (3, .int e), (4, .int 0)]) C dX11_span_186 rfl (by decide) (by decide) rfl ?_
      refine ar_goto (tgt := 103) C dX11_span_189 (by decide) ?_
      refine ar_iload (n := 0) C dX11_span_103 rfl ?_
      refine ar_iconst (v := 1) C dX11_span_105 (by decide) ?_
      refine ar_icmp_gt (tgt := 192) C dX11_span_106 (by decide) (fun c_13 => absurd c_13 (by decide)) (fun _ => ?_)
      refine ar_aload_n (n := 5) C dX11_span_109 rfl rfl ?_
      refine ar_getr C flX11_68 rfl kd_0 rf_0_9 dX11_span_110 ?_
      refine ar_aload_n (n := 5) C dX11_span_113 rfl rfl ?_
      refine ar_getr C flX11_61 rfl kd_0 rf_0_8 dX11_span_114 ?_
      refine ar_iconst (v := 0) C dX11_span_117 (by decide) ?_
      refine ar_aald (j := 0) C kd_17 (by decide) (by decide) (by decide) (by decide) rf_17_0 dX11_span_118 ?_
      refine ar_aload_n (n := 5) C dX11_span_119 rfl rfl ?_
      refine ar_getr C flX11_61 rfl kd_0 rf_0_8 dX11_span_120 ?_
      refine ar_iconst (v := 1) C dX11_span_123 (by decide) ?_
      refine ar_aald (j := 1) C kd_17 (by decide) (by decide) (by decide) (by decide) rf_17_1 dX11_span_124 ?_
      refine ar_iload_n (n := 6) C dX11_span_125 rfl rfl ?_
      refine ar_iload (n := 4) C dX11_span_126 rfl ?_
      refine ar_iload_n (n := 8) C dX11_span_128 rfl rfl ?_
      refine ar_imul C dX11_span_129 ?_
      refine ar_iadd C dX11_span_130 ?_
      refine ar_i2l C dX11_span_131 ?_
      refine ar_topl (sgp p e 0) rfl ?_
      refine ar_iload_n (n := 7) C dX11_span_132 rfl rfl ?_
      refine ar_iload (n := 0) C dX11_span_133 rfl ?_
      refine ar_iload_n (n := 8) C dX11_span_135 rfl rfl ?_
      refine ar_imul C dX11_span_136 ?_
      refine ar_iadd C dX11_span_137 ?_
      refine ar_i2l C dX11_span_138 ?_
      refine ar_topl (sgp q e 1) rfl ?_
      refine cV1q (ar := [.ref 94, .ref 95, .long (sgp p e 0), .long (sgp q e 1)]) (st := []) C lkX11_284 kd_18 (k_sightE M M_10 h_11.2.2 (sgp p e 0) (sgp q e 1)) (by decide) rfl (Nat.le_of_ble_eq_true rfl) rfl dX11_span_139 (fun M_14 h_15 => ?_)
      refine ar_if_neB (tgt := 149) C dX11_span_142 (by decide) (fun c_16 => ?_) (fun c_16 => ?_)
      · refine ar_aload_n (n := 5) C dX11_span_149 rfl rfl ?_
        refine ar_getr C flX11_68 rfl kd_0 rf_0_9 dX11_span_150 ?_
        refine ar_getl C flX11_289 kd_18 dX11_span_153 ?_
        refine ar_topl (g_up (M.1 94) (M.1 95) (sgp p e 0) (sgp q e 1)) h_15.2.1 ?_
        refine ar_aload_n (n := 5) C dX11_span_156 rfl rfl ?_
        refine ar_getr C flX11_68 rfl kd_0 rf_0_9 dX11_span_157 ?_
        refine ar_getl C flX11_293 kd_18 dX11_span_160 ?_
        refine ar_topl (g_lo (M.1 94) (M.1 95) (sgp p e 0) (sgp q e 1)) h_15.1 ?_
        refine cS1 (ar := [.long (g_up (M.1 94) (M.1 95) (sgp p e 0) (sgp q e 1)), .long (g_lo (M.1 94) (M.1 95) (sgp p e 0) (sgp q e 1))]) (st := []) C lkX11_300 (k_lby M_14 (g_up (M.1 94) (M.1 95) (sgp p e 0) (sgp q e 1)) (g_lo (M.1 94) (M.1 95) (sgp p e 0) (sgp q e 1))) (by decide) rfl (Nat.le_of_ble_eq_true rfl) rfl dX11_span_163 ?_
        refine ar_topl (vP (M.1 94) (M.1 95) p q e 1) (vP_eq _ _ _ _ _ 1) ?_
        refine ar_lstore (als' := [(11, .long (vP (M.1 94) (M.1 95) p q e 1)), (10, .int 0), (7, .long (fold f_lmax (f_lby (g_up (M.1 94) (M.1 95) p.toInt64 q.toInt64) (g_lo (M.1 94) (M.1 95) p.toInt64 q.toInt64)) (vP (M.1 94) (M.1 95) p q e) 1)), (5, .long (fold f_lmin (f_lby (g_up (M.1 94) (M.1 95) p.toInt64 q.toInt64) (g_lo (M.1 94) (M.1 95) p.toInt64 q.toInt64)) (vP (M.1 94) (M.1 95) p q e) 1)), (9, .int (-1)), (0, .ref 0), (1, .int p), (2, .int q), (3, .int e), (4, .int 0)]) C dX11_span_166 (by decide) rfl ?_
        refine ar_lload (n := 3) C dX11_span_168 rfl ?_
        refine ar_lload (n := 0) C dX11_span_170 rfl ?_
        refine cS1 (ar := [.long (fold f_lmin (f_lby (g_up (M.1 94) (M.1 95) p.toInt64 q.toInt64) (g_lo (M.1 94) (M.1 95) p.toInt64 q.toInt64)) (vP (M.1 94) (M.1 95) p q e) 1), .long (vP (M.1 94) (M.1 95) p q e 1)]) (st := []) C lkX11_303 (k_lmin M_14 (fold f_lmin (f_lby (g_up (M.1 94) (M.1 95) p.toInt64 q.toInt64) (g_lo (M.1 94) (M.1 95) p.toInt64 q.toInt64)) (vP (M.1 94) (M.1 95) p q e) 1) (vP (M.1 94) (M.1 95) p q e 1)) (by decide) rfl (Nat.le_of_ble_eq_true rfl) rfl dX11_span_172 ?_
        refine ar_topl (fold f_lmin (f_lby (g_up (M.1 94) (M.1 95) p.toInt64 q.toInt64) (g_lo (M.1 94) (M.1 95) p.toInt64 q.toInt64)) (vP (M.1 94) (M.1 95) p q e) 2) (fold_s _ _ _ 1) ?_
        refine ar_lstore (als' := [(5, .long (fold f_lmin (f_lby (g_up (M.1 94) (M.1 95) p.toInt64 q.toInt64) (g_lo (M.1 94) (M.1 95) p.toInt64 q.toInt64)) (vP (M.1 94) (M.1 95) p q e) 2)), (11, .long (vP (M.1 94) (M.1 95) p q e 1)), (10, .int 0), (7, .long (fold f_lmax (f_lby (g_up (M.1 94) (M.1 95) p.toInt64 q.toInt64) (g_lo (M.1 94) (M.1 95) p.toInt64 q.toInt64)) (vP (M.1 94) (M.1 95) p q e) 1)), (9, .int (-1)), (0, .ref 0), (1, .int p), (2, .int q), (3, .int e), (4, .int 0)]) C dX11_span_175 (by decide) rfl ?_
        refine ar_lload (n := 3) C dX11_span_177 rfl ?_
        refine ar_lload (n := 1) C dX11_span_179 rfl ?_
        refine cS1 (ar := [.long (fold f_lmax (f_lby (g_up (M.1 94) (M.1 95) p.toInt64 q.toInt64) (g_lo (M.1 94) (M.1 95) p.toInt64 q.toInt64)) (vP (M.1 94) (M.1 95) p q e) 1), .long (vP (M.1 94) (M.1 95) p q e 1)]) (st := []) C lkX11_308 (k_lmax M_14 (fold f_lmax (f_lby (g_up (M.1 94) (M.1 95) p.toInt64 q.toInt64) (g_lo (M.1 94) (M.1 95) p.toInt64 q.toInt64)) (vP (M.1 94) (M.1 95) p q e) 1) (vP (M.1 94) (M.1 95) p q e 1)) (by decide) rfl (Nat.le_of_ble_eq_true rfl) rfl dX11_span_181 ?_
        refine ar_topl (fold f_lmax (f_lby (g_up (M.1 94) (M.1 95) p.toInt64 q.toInt64) (g_lo (M.1 94) (M.1 95) p.toInt64 q.toInt64)) (vP (M.1 94) (M.1 95) p q e) 2) (fold_s _ _ _ 1) ?_
        refine ar_lstore (als' := [(7, .long (fold f_lmax (f_lby (g_up (M.1 94) (M.1 95) p.toInt64 q.toInt64) (g_lo (M.1 94) (M.1 95) p.toInt64 q.toInt64)) (vP (M.1 94) (M.1 95) p q e) 2)), (5, .long (fold f_lmin (f_lby (g_up (M.1 94) (M.1 95) p.toInt64 q.toInt64) (g_lo (M.1 94) (M.1 95) p.toInt64 q.toInt64)) (vP (M.1 94) (M.1 95) p q e) 2)), (11, .long (vP (M.1 94) (M.1 95) p q e 1)), (10, .int 0), (9, .int (-1)), (0, .ref 0), (1, .int p), (2, .int q), (3, .int e), (4, .int 0)]) C dX11_span_184 (by decide) rfl ?_
        refine ar_iinc (n := 3) (v := 1) (als' := [(10, .int 1), (7, .long (fold f_lmax (f_lby (g_up (M.1 94) (M.1 95) p.toInt64 q.toInt64) (g_lo (M.1 94) (M.1 95) p.toInt64 q.toInt64)) (vP (M.1 94) (M.1 95) p q e) 2)), (5, .long (fold f_lmin (f_lby (g_up (M.1 94) (M.1 95) p.toInt64 q.toInt64) (g_lo (M.1 94) (M.1 95) p.toInt64 q.toInt64)) (vP (M.1 94) (M.1 95) p q e) 2)), (11, .long (vP (M.1 94) (M.1 95) p q e 1)), (9, .int (-1)), (0, .ref 0), (1, .int p), (2, .int q), (3, .int e), (4, .int 0)]) C dX11_span_186 rfl (by decide) (by decide) rfl ?_
        refine ar_goto (tgt := 103) C dX11_span_189 (by decide) ?_
        refine ar_iload (n := 0) C dX11_span_103 rfl ?_
        refine ar_iconst (v := 1) C dX11_span_105 (by decide) ?_
        refine ar_icmp_gt (tgt := 192) C dX11_span_106 (by decide) (fun c_17 => absurd c_17 (by decide)) (fun _ => ?_)
        refine ar_aload_n (n := 5) C dX11_span_109 rfl rfl ?_
        refine ar_getr C flX11_68 rfl kd_0 rf_0_9 dX11_span_110 ?_
        refine ar_aload_n (n := 5) C dX11_span_113 rfl rfl ?_
        refine ar_getr C flX11_61 rfl kd_0 rf_0_8 dX11_span_114 ?_
        refine ar_iconst (v := 0) C dX11_span_117 (by decide) ?_
        refine ar_aald (j := 0) C kd_17 (by decide) (by decide) (by decide) (by decide) rf_17_0 dX11_span_118 ?_
        refine ar_aload_n (n := 5) C dX11_span_119 rfl rfl ?_
        refine ar_getr C flX11_61 rfl kd_0 rf_0_8 dX11_span_120 ?_
        refine ar_iconst (v := 1) C dX11_span_123 (by decide) ?_
        refine ar_aald (j := 1) C kd_17 (by decide) (by decide) (by decide) (by decide) rf_17_1 dX11_span_124 ?_
        refine ar_iload_n (n := 6) C dX11_span_125 rfl rfl ?_
        refine ar_iload (n := 4) C dX11_span_126 rfl ?_
        refine ar_iload_n (n := 8) C dX11_span_128 rfl rfl ?_
        refine ar_imul C dX11_span_129 ?_
        refine ar_iadd C dX11_span_130 ?_
        refine ar_i2l C dX11_span_131 ?_
        refine ar_topl (sgp p e 0) rfl ?_
        refine ar_iload_n (n := 7) C dX11_span_132 rfl rfl ?_
        refine ar_iload (n := 0) C dX11_span_133 rfl ?_
        refine ar_iload_n (n := 8) C dX11_span_135 rfl rfl ?_
        refine ar_imul C dX11_span_136 ?_
        refine ar_iadd C dX11_span_137 ?_
        refine ar_i2l C dX11_span_138 ?_
        refine ar_topl (sgp q e 2) rfl ?_
        refine cV1q (ar := [.ref 94, .ref 95, .long (sgp p e 0), .long (sgp q e 2)]) (st := []) C lkX11_284 kd_18 (k_sightE M M_14 h_15.2.2 (sgp p e 0) (sgp q e 2)) (by decide) rfl (Nat.le_of_ble_eq_true rfl) rfl dX11_span_139 (fun M_18 h_19 => ?_)
        refine ar_if_neB (tgt := 149) C dX11_span_142 (by decide) (fun c_20 => ?_) (fun c_20 => ?_)
        · refine ar_aload_n (n := 5) C dX11_span_149 rfl rfl ?_
          refine ar_getr C flX11_68 rfl kd_0 rf_0_9 dX11_span_150 ?_
          refine ar_getl C flX11_289 kd_18 dX11_span_153 ?_
          refine ar_topl (g_up (M.1 94) (M.1 95) (sgp p e 0) (sgp q e 2)) h_19.2.1 ?_
          refine ar_aload_n (n := 5) C dX11_span_156 rfl rfl ?_
          refine ar_getr C flX11_68 rfl kd_0 rf_0_9 dX11_span_157 ?_
          refine ar_getl C flX11_293 kd_18 dX11_span_160 ?_
          refine ar_topl (g_lo (M.1 94) (M.1 95) (sgp p e 0) (sgp q e 2)) h_19.1 ?_
          refine cS1 (ar := [.long (g_up (M.1 94) (M.1 95) (sgp p e 0) (sgp q e 2)), .long (g_lo (M.1 94) (M.1 95) (sgp p e 0) (sgp q e 2))]) (st := []) C lkX11_300 (k_lby M_18 (g_up (M.1 94) (M.1 95) (sgp p e 0) (sgp q e 2)) (g_lo (M.1 94) (M.1 95) (sgp p e 0) (sgp q e 2))) (by decide) rfl (Nat.le_of_ble_eq_true rfl) rfl dX11_span_163 ?_
          refine ar_topl (vP (M.1 94) (M.1 95) p q e 2) (vP_eq _ _ _ _ _ 2) ?_
          refine ar_lstore (als' := [(11, .long (vP (M.1 94) (M.1 95) p q e 2)), (10, .int 1), (7, .long (fold f_lmax (f_lby (g_up (M.1 94) (M.1 95) p.toInt64 q.toInt64) (g_lo (M.1 94) (M.1 95) p.toInt64 q.toInt64)) (vP (M.1 94) (M.1 95) p q e) 2)), (5, .long (fold f_lmin (f_lby (g_up (M.1 94) (M.1 95) p.toInt64 q.toInt64) (g_lo (M.1 94) (M.1 95) p.toInt64 q.toInt64)) (vP (M.1 94) (M.1 95) p q e) 2)), (9, .int (-1)), (0, .ref 0), (1, .int p), (2, .int q), (3, .int e), (4, .int 0)]) C dX11_span_166 (by decide) rfl ?_
          refine ar_lload (n := 3) C dX11_span_168 rfl ?_
          refine ar_lload (n := 0) C dX11_span_170 rfl ?_
          refine cS1 (ar := [.long (fold f_lmin (f_lby (g_up (M.1 94) (M.1 95) p.toInt64 q.toInt64) (g_lo (M.1 94) (M.1 95) p.toInt64 q.toInt64)) (vP (M.1 94) (M.1 95) p q e) 2), .long (vP (M.1 94) (M.1 95) p q e 2)]) (st := []) C lkX11_303 (k_lmin M_18 (fold f_lmin (f_lby (g_up (M.1 94) (M.1 95) p.toInt64 q.toInt64) (g_lo (M.1 94) (M.1 95) p.toInt64 q.toInt64)) (vP (M.1 94) (M.1 95) p q e) 2) (vP (M.1 94) (M.1 95) p q e 2)) (by decide) rfl (Nat.le_of_ble_eq_true rfl) rfl dX11_span_172 ?_
          refine ar_topl (fold f_lmin (f_lby (g_up (M.1 94) (M.1 95) p.toInt64 q.toInt64) (g_lo (M.1 94) (M.1 95) p.toInt64 q.toInt64)) (vP (M.1 94) (M.1 95) p q e) 3) (fold_s _ _ _ 2) ?_
          refine ar_lstore (als' := [(5, .long (fold f_lmin (f_lby (g_up (M.1 94) (M.1 95) p.toInt64 q.toInt64) (g_lo (M.1 94) (M.1 95) p.toInt64 q.toInt64)) (vP (M.1 94) (M.1 95) p q e) 3)), (11, .long (vP (M.1 94) (M.1 95) p q e 2)), (10, .int 1), (7, .long (fold f_lmax (f_lby (g_up (M.1 94) (M.1 95) p.toInt64 q.toInt64) (g_lo (M.1 94) (M.1 95) p.toInt64 q.toInt64)) (vP (M.1 94) (M.1 95) p q e) 2)), (9, .int (-1)), (0, .ref 0), (1, .int p), (2, .int q), (3, .int e), (4, .int 0)]) C dX11_span_175 (by decide) rfl ?_
          refine ar_lload (n := 3) C dX11_span_177 rfl ?_
          refine ar_lload (n := 1) C dX11_span_179 rfl ?_
          refine cS1 (ar := [.long (fold f_lmax (f_lby (g_up (M.1 94) (M.1 95) p.toInt64 q.toInt64) (g_lo (M.1 94) (M.1 95) p.toInt64 q.toInt64)) (vP (M.1 94) (M.1 95) p q e) 2), .long (vP (M.1 94) (M.1 95) p q e 2)]) (st := []) C lkX11_308 (k_lmax M_18 (fold f_lmax (f_lby (g_up (M.1 94) (M.1 95) p.toInt64 q.toInt64) (g_lo (M.1 94) (M.1 95) p.toInt64 q.toInt64)) (vP (M.1 94) (M.1 95) p q e) 2) (vP (M.1 94) (M.1 95) p q e 2)) (by decide) rfl (Nat.le_of_ble_eq_true rfl) rfl dX11_span_181 ?_
          refine ar_topl (fold f_lmax (f_lby (g_up (M.1 94) (M.1 95) p.toInt64 q.toInt64) (g_lo (M.1 94) (M.1 95) p.toInt64 q.toInt64)) (vP (M.1 94) (M.1 95) p q e) 3) (fold_s _ _ _ 2) ?_
          refine ar_lstore (als' := [(7, .long (fold f_lmax (f_lby (g_up (M.1 94) (M.1 95) p.toInt64 q.toInt64) (g_lo (M.1 94) (M.1 95) p.toInt64 q.toInt64)) (vP (M.1 94) (M.1 95) p q e) 3)), (5, .long (fold f_lmin (f_lby (g_up (M.1 94) (M.1 95) p.toInt64 q.toInt64) (g_lo (M.1 94) (M.1 95) p.toInt64 q.toInt64)) (vP (M.1 94) (M.1 95) p q e) 3)), (11, .long (vP (M.1 94) (M.1 95) p q e 2)), (10, .int 1), (9, .int (-1)), (0, .ref 0), (1, .int p), (2, .int q), (3, .int e), (4, .int 0)]) C dX11_span_184 (by decide) rfl ?_
          refine ar_iinc (n := 3) (v := 2) (als' := [(10, .int 2), (7, .long (fold f_lmax (f_lby (g_up (M.1 94) (M.1 95) p.toInt64 q.toInt64) (g_lo (M.1 94) (M.1 95) p.toInt64 q.toInt64)) (vP (M.1 94) (M.1 95) p q e) 3)), (5, .long (fold f_lmin (f_lby (g_up (M.1 94) (M.1 95) p.toInt64 q.toInt64) (g_lo (M.1 94) (M.1 95) p.toInt64 q.toInt64)) (vP (M.1 94) (M.1 95) p q e) 3)), (11, .long (vP (M.1 94) (M.1 95) p q e 2)), (9, .int (-1)), (0, .ref 0), (1, .int p), (2, .int q), (3, .int e), (4, .int 0)]) C dX11_span_186 rfl (by decide) (by decide) rfl ?_
          refine ar_goto (tgt := 103) C dX11_span_189 (by decide) ?_
          refine ar_iload (n := 0) C dX11_span_103 rfl ?_
          refine ar_iconst (v := 1) C dX11_span_105 (by decide) ?_
          refine ar_icmp_gt (tgt := 192) C dX11_span_106 (by decide) (fun _ => ?_) (fun c_21 => absurd c_21 (by decide))
          refine ar_iinc (n := 4) (v := 0) (als' := [(9, .int 0), (10, .int 2), (7, .long (fold f_lmax (f_lby (g_up (M.1 94) (M.1 95) p.toInt64 q.toInt64) (g_lo (M.1 94) (M.1 95) p.toInt64 q.toInt64)) (vP (M.1 94) (M.1 95) p q e) 3)), (5, .long (fold f_lmin (f_lby (g_up (M.1 94) (M.1 95) p.toInt64 q.toInt64) (g_lo (M.1 94) (M.1 95) p.toInt64 q.toInt64)) (vP (M.1 94) (M.1 95) p q e) 3)), (11, .long (vP (M.1 94) (M.1 95) p q e 2)), (0, .ref 0), (1, .int p), (2, .int q), (3, .int e), (4, .int 0)]) C dX11_span_192 rfl (by decide) (by decide) rfl ?_
          refine ar_goto (tgt := 94) C dX11_span_195 (by decide) ?_
          refine ar_iload (n := 0) C dX11_span_94 rfl ?_
          refine ar_iconst (v := 1) C dX11_span_96 (by decide) ?_
          refine ar_icmp_gt (tgt := 198) C dX11_span_97 (by decide) (fun c_22 => absurd c_22 (by decide)) (fun _ => ?_)
          refine ar_iconst (v := (-1)) C dX11_span_100 (by decide) ?_
          refine ar_istore (als' := [(10, .int (-1)), (9, .int 0), (7, .long (fold f_lmax (f_lby (g_up (M.1 94) (M.1 95) p.toInt64 q.toInt64) (g_lo (M.1 94) (M.1 95) p.toInt64 q.toInt64)) (vP (M.1 94) (M.1 95) p q e) 3)), (5, .long (fold f_lmin (f_lby (g_up (M.1 94) (M.1 95) p.toInt64 q.toInt64) (g_lo (M.1 94) (M.1 95) p.toInt64 q.toInt64)) (vP (M.1 94) (M.1 95) p q e) 3)), (11, .long (vP (M.1 94) (M.1 95) p q e 2)), (0, .ref 0), (1, .int p), (2, .int q), (3, .int e), (4, .int 0)]) C dX11_span_101 (by decide) rfl ?_
          refine ar_iload (n := 0) C dX11_span_103 rfl ?_
          refine ar_iconst (v := 1) C dX11_span_105 (by decide) ?_
          refine ar_icmp_gt (tgt := 192) C dX11_span_106 (by decide) (fun c_23 => absurd c_23 (by decide)) (fun _ => ?_)
          refine ar_aload_n (n := 5) C dX11_span_109 rfl rfl ?_
          refine ar_getr C flX11_68 rfl kd_0 rf_0_9 dX11_span_110 ?_
          refine ar_aload_n (n := 5) C dX11_span_113 rfl rfl ?_
          refine ar_getr C flX11_61 rfl kd_0 rf_0_8 dX11_span_114 ?_
          refine ar_iconst (v := 0) C dX11_span_117 (by decide) ?_
          refine ar_aald (j := 0) C kd_17 (by decide) (by decide) (by decide) (by decide) rf_17_0 dX11_span_118 ?_
          refine ar_aload_n (n := 5) C dX11_span_119 rfl rfl ?_
          refine ar_getr C flX11_61 rfl kd_0 rf_0_8 dX11_span_120 ?_
          refine ar_iconst (v := 1) C dX11_span_123 (by decide) ?_
          refine ar_aald (j := 1) C kd_17 (by decide) (by decide) (by decide) (by decide) rf_17_1 dX11_span_124 ?_
          refine ar_iload_n (n := 6) C dX11_span_125 rfl rfl ?_
          refine ar_iload (n := 1) C dX11_span_126 rfl ?_
          refine ar_iload_n (n := 8) C dX11_span_128 rfl rfl ?_
          refine ar_imul C dX11_span_129 ?_
          refine ar_iadd C dX11_span_130 ?_
          refine ar_i2l C dX11_span_131 ?_
          refine ar_topl (sgp p e 1) rfl ?_
          refine ar_iload_n (n := 7) C dX11_span_132 rfl rfl ?_
          refine ar_iload (n := 0) C dX11_span_133 rfl ?_
          refine ar_iload_n (n := 8) C dX11_span_135 rfl rfl ?_
          refine ar_imul C dX11_span_136 ?_
          refine ar_iadd C dX11_span_137 ?_
          refine ar_i2l C dX11_span_138 ?_
          refine ar_topl (sgp q e 0) rfl ?_
          refine cV1q (ar := [.ref 94, .ref 95, .long (sgp p e 1), .long (sgp q e 0)]) (st := []) C lkX11_284 kd_18 (k_sightE M M_18 h_19.2.2 (sgp p e 1) (sgp q e 0)) (by decide) rfl (Nat.le_of_ble_eq_true rfl) rfl dX11_span_139 (fun M_24 h_25 => ?_)
          refine ar_if_neB (tgt := 149) C dX11_span_142 (by decide) (fun c_26 => ?_) (fun c_26 => ?_)
          · refine ar_aload_n (n := 5) C dX11_span_149 rfl rfl ?_
            refine ar_getr C flX11_68 rfl kd_0 rf_0_9 dX11_span_150 ?_
            refine ar_getl C flX11_289 kd_18 dX11_span_153 ?_
            refine ar_topl (g_up (M.1 94) (M.1 95) (sgp p e 1) (sgp q e 0)) h_25.2.1 ?_
            refine ar_aload_n (n := 5) C dX11_span_156 rfl rfl ?_
            refine ar_getr C flX11_68 rfl kd_0 rf_0_9 dX11_span_157 ?_
            refine ar_getl C flX11_293 kd_18 dX11_span_160 ?_
            refine ar_topl (g_lo (M.1 94) (M.1 95) (sgp p e 1) (sgp q e 0)) h_25.1 ?_
            refine cS1 (ar := [.long (g_up (M.1 94) (M.1 95) (sgp p e 1) (sgp q e 0)), .long (g_lo (M.1 94) (M.1 95) (sgp p e 1) (sgp q e 0))]) (st := []) C lkX11_300 (k_lby M_24 (g_up (M.1 94) (M.1 95) (sgp p e 1) (sgp q e 0)) (g_lo (M.1 94) (M.1 95) (sgp p e 1) (sgp q e 0))) (by decide) rfl (Nat.le_of_ble_eq_true rfl) rfl dX11_span_163 ?_
            refine ar_topl (vP (M.1 94) (M.1 95) p q e 3) (vP_eq _ _ _ _ _ 3) ?_
            refine ar_lstore (als' := [(11, .long (vP (M.1 94) (M.1 95) p q e 3)), (10, .int (-1)), (9, .int 0), (7, .long (fold f_lmax (f_lby (g_up (M.1 94) (M.1 95) p.toInt64 q.toInt64) (g_lo (M.1 94) (M.1 95) p.toInt64 q.toInt64)) (vP (M.1 94) (M.1 95) p q e) 3)), (5, .long (fold f_lmin (f_lby (g_up (M.1 94) (M.1 95) p.toInt64 q.toInt64) (g_lo (M.1 94) (M.1 95) p.toInt64 q.toInt64)) (vP (M.1 94) (M.1 95) p q e) 3)), (0, .ref 0), (1, .int p), (2, .int q), (3, .int e), (4, .int 0)]) C dX11_span_166 (by decide) rfl ?_
            refine ar_lload (n := 4) C dX11_span_168 rfl ?_
            refine ar_lload (n := 0) C dX11_span_170 rfl ?_
            refine cS1 (ar := [.long (fold f_lmin (f_lby (g_up (M.1 94) (M.1 95) p.toInt64 q.toInt64) (g_lo (M.1 94) (M.1 95) p.toInt64 q.toInt64)) (vP (M.1 94) (M.1 95) p q e) 3), .long (vP (M.1 94) (M.1 95) p q e 3)]) (st := []) C lkX11_303 (k_lmin M_24 (fold f_lmin (f_lby (g_up (M.1 94) (M.1 95) p.toInt64 q.toInt64) (g_lo (M.1 94) (M.1 95) p.toInt64 q.toInt64)) (vP (M.1 94) (M.1 95) p q e) 3) (vP (M.1 94) (M.1 95) p q e 3)) (by decide) rfl (Nat.le_of_ble_eq_true rfl) rfl dX11_span_172 ?_
            refine ar_topl (fold f_lmin (f_lby (g_up (M.1 94) (M.1 95) p.toInt64 q.toInt64) (g_lo (M.1 94) (M.1 95) p.toInt64 q.toInt64)) (vP (M.1 94) (M.1 95) p q e) 4) (fold_s _ _ _ 3) ?_
            refine ar_lstore (als' := [(5, .long (fold f_lmin (f_lby (g_up (M.1 94) (M.1 95) p.toInt64 q.toInt64) (g_lo (M.1 94) (M.1 95) p.toInt64 q.toInt64)) (vP (M.1 94) (M.1 95) p q e) 4)), (11, .long (vP (M.1 94) (M.1 95) p q e 3)), (10, .int (-1)), (9, .int 0), (7, .long (fold f_lmax (f_lby (g_up (M.1 94) (M.1 95) p.toInt64 q.toInt64) (g_lo (M.1 94) (M.1 95) p.toInt64 q.toInt64)) (vP (M.1 94) (M.1 95) p q e) 3)), (0, .ref 0), (1, .int p), (2, .int q), (3, .int e), (4, .int 0)]) C dX11_span_175 (by decide) rfl ?_
            refine ar_lload (n := 4) C dX11_span_177 rfl ?_
            refine ar_lload (n := 1) C dX11_span_179 rfl ?_
            refine cS1 (ar := [.long (fold f_lmax (f_lby (g_up (M.1 94) (M.1 95) p.toInt64 q.toInt64) (g_lo (M.1 94) (M.1 95) p.toInt64 q.toInt64)) (vP (M.1 94) (M.1 95) p q e) 3), .long (vP (M.1 94) (M.1 95) p q e 3)]) (st := []) C lkX11_308 (k_lmax M_24 (fold f_lmax (f_lby (g_up (M.1 94) (M.1 95) p.toInt64 q.toInt64) (g_lo (M.1 94) (M.1 95) p.toInt64 q.toInt64)) (vP (M.1 94) (M.1 95) p q e) 3) (vP (M.1 94) (M.1 95) p q e 3)) (by decide) rfl (Nat.le_of_ble_eq_true rfl) rfl dX11_span_181 ?_
            refine ar_topl (fold f_lmax (f_lby (g_up (M.1 94) (M.1 95) p.toInt64 q.toInt64) (g_lo (M.1 94) (M.1 95) p.toInt64 q.toInt64)) (vP (M.1 94) (M.1 95) p q e) 4) (fold_s _ _ _ 3) ?_
            refine ar_lstore (als' := [(7, .long (fold f_lmax (f_lby (g_up (M.1 94) (M.1 95) p.toInt64 q.toInt64) (g_lo (M.1 94) (M.1 95) p.toInt64 q.toInt64)) (vP (M.1 94) (M.1 95) p q e) 4)), (5, .long (fold f_lmin (f_lby (g_up (M.1 94) (M.1 95) p.toInt64 q.toInt64) (g_lo (M.1 94) (M.1 95) p.toInt64 q.toInt64)) (vP (M.1 94) (M.1 95) p q e) 4)), (11, .long (vP (M.1 94) (M.1 95) p q e 3)), (10, .int (-1)), (9, .int 0), (0, .ref 0), (1, .int p), (2, .int q), (3, .int e), (4, .int 0)]) C dX11_span_184 (by decide) rfl ?_
            refine ar_iinc (n := 3) (v := 0) (als' := [(10, .int 0), (7, .long (fold f_lmax (f_lby (g_up (M.1 94) (M.1 95) p.toInt64 q.toInt64) (g_lo (M.1 94) (M.1 95) p.toInt64 q.toInt64)) (vP (M.1 94) (M.1 95) p q e) 4)), (5, .long (fold f_lmin (f_lby (g_up (M.1 94) (M.1 95) p.toInt64 q.toInt64) (g_lo (M.1 94) (M.1 95) p.toInt64 q.toInt64)) (vP (M.1 94) (M.1 95) p q e) 4)), (11, .long (vP (M.1 94) (M.1 95) p q e 3)), (9, .int 0), (0, .ref 0), (1, .int p), (2, .int q), (3, .int e), (4, .int 0)]) C dX11_span_186 rfl (by decide) (by decide) rfl ?_
            refine ar_goto (tgt := 103) C dX11_span_189 (by decide) ?_
            refine ar_iload (n := 0) C dX11_span_103 rfl ?_
            refine ar_iconst (v := 1) C dX11_span_105 (by decide) ?_
            refine ar_icmp_gt (tgt := 192) C dX11_span_106 (by decide) (fun c_27 => absurd c_27 (by decide)) (fun _ => ?_)
            refine ar_aload_n (n := 5) C dX11_span_109 rfl rfl ?_
            refine ar_getr C flX11_68 rfl kd_0 rf_0_9 dX11_span_110 ?_
            refine ar_aload_n (n := 5) C dX11_span_113 rfl rfl ?_
            refine ar_getr C flX11_61 rfl kd_0 rf_0_8 dX11_span_114 ?_
            refine ar_iconst (v := 0) C dX11_span_117 (by decide) ?_
            refine ar_aald (j := 0) C kd_17 (by decide) (by decide) (by decide) (by decide) rf_17_0 dX11_span_118 ?_
            refine ar_aload_n (n := 5) C dX11_span_119 rfl rfl ?_
            refine ar_getr C flX11_61 rfl kd_0 rf_0_8 dX11_span_120 ?_
            refine ar_iconst (v := 1) C dX11_span_123 (by decide) ?_
            refine ar_aald (j := 1) C kd_17 (by decide) (by decide) (by decide) (by decide) rf_17_1 dX11_span_124 ?_
            refine ar_iload_n (n := 6) C dX11_span_125 rfl rfl ?_
            refine ar_iload (n := 4) C dX11_span_126 rfl ?_
            refine ar_iload_n (n := 8) C dX11_span_128 rfl rfl ?_
            refine ar_imul C dX11_span_129 ?_
            refine ar_iadd C dX11_span_130 ?_
            refine ar_i2l C dX11_span_131 ?_
            refine ar_topl (sgp p e 1) rfl ?_
            refine ar_iload_n (n := 7) C dX11_span_132 rfl rfl ?_
            refine ar_iload (n := 0) C dX11_span_133 rfl ?_
            refine ar_iload_n (n := 8) C dX11_span_135 rfl rfl ?_
            refine ar_imul C dX11_span_136 ?_
            refine ar_iadd C dX11_span_137 ?_
            refine ar_i2l C dX11_span_138 ?_
            refine ar_topl (sgp q e 1) rfl ?_
            refine cV1q (ar := [.ref 94, .ref 95, .long (sgp p e 1), .long (sgp q e 1)]) (st := []) C lkX11_284 kd_18 (k_sightE M M_24 h_25.2.2 (sgp p e 1) (sgp q e 1)) (by decide) rfl (Nat.le_of_ble_eq_true rfl) rfl dX11_span_139 (fun M_28 h_29 => ?_)
            refine ar_if_neB (tgt := 149) C dX11_span_142 (by decide) (fun c_30 => ?_) (fun c_30 => ?_)
            · refine ar_aload_n (n := 5) C dX11_span_149 rfl rfl ?_
              refine ar_getr C flX11_68 rfl kd_0 rf_0_9 dX11_span_150 ?_
              refine ar_getl C flX11_289 kd_18 dX11_span_153 ?_
              refine ar_topl (g_up (M.1 94) (M.1 95) (sgp p e 1) (sgp q e 1)) h_29.2.1 ?_
              refine ar_aload_n (n := 5) C dX11_span_156 rfl rfl ?_
              refine ar_getr C flX11_68 rfl kd_0 rf_0_9 dX11_span_157 ?_
              refine ar_getl C flX11_293 kd_18 dX11_span_160 ?_
              refine ar_topl (g_lo (M.1 94) (M.1 95) (sgp p e 1) (sgp q e 1)) h_29.1 ?_
              refine cS1 (ar := [.long (g_up (M.1 94) (M.1 95) (sgp p e 1) (sgp q e 1)), .long (g_lo (M.1 94) (M.1 95) (sgp p e 1) (sgp q e 1))]) (st := []) C lkX11_300 (k_lby M_28 (g_up (M.1 94) (M.1 95) (sgp p e 1) (sgp q e 1)) (g_lo (M.1 94) (M.1 95) (sgp p e 1) (sgp q e 1))) (by decide) rfl (Nat.le_of_ble_eq_true rfl) rfl dX11_span_163 ?_
              refine ar_topl (vP (M.1 94) (M.1 95) p q e 4) (vP_eq _ _ _ _ _ 4) ?_
              refine ar_lstore (als' := [(11, .long (vP (M.1 94) (M.1 95) p q e 4)), (10, .int 0), (7, .long (fold f_lmax (f_lby (g_up (M.1 94) (M.1 95) p.toInt64 q.toInt64) (g_lo (M.1 94) (M.1 95) p.toInt64 q.toInt64)) (vP (M.1 94) (M.1 95) p q e) 4)), (5, .long (fold f_lmin (f_lby (g_up (M.1 94) (M.1 95) p.toInt64 q.toInt64) (g_lo (M.1 94) (M.1 95) p.toInt64 q.toInt64)) (vP (M.1 94) (M.1 95) p q e) 4)), (9, .int 0), (0, .ref 0), (1, .int p), (2, .int q), (3, .int e), (4, .int 0)]) C dX11_span_166 (by decide) rfl ?_
              refine ar_lload (n := 3) C dX11_span_168 rfl ?_
              refine ar_lload (n := 0) C dX11_span_170 rfl ?_
              refine cS1 (ar := [.long (fold f_lmin (f_lby (g_up (M.1 94) (M.1 95) p.toInt64 q.toInt64) (g_lo (M.1 94) (M.1 95) p.toInt64 q.toInt64)) (vP (M.1 94) (M.1 95) p q e) 4), .long (vP (M.1 94) (M.1 95) p q e 4)]) (st := []) C lkX11_303 (k_lmin M_28 (fold f_lmin (f_lby (g_up (M.1 94) (M.1 95) p.toInt64 q.toInt64) (g_lo (M.1 94) (M.1 95) p.toInt64 q.toInt64)) (vP (M.1 94) (M.1 95) p q e) 4) (vP (M.1 94) (M.1 95) p q e 4)) (by decide) rfl (Nat.le_of_ble_eq_true rfl) rfl dX11_span_172 ?_
              refine ar_topl (fold f_lmin (f_lby (g_up (M.1 94) (M.1 95) p.toInt64 q.toInt64) (g_lo (M.1 94) (M.1 95) p.toInt64 q.toInt64)) (vP (M.1 94) (M.1 95) p q e) 5) (fold_s _ _ _ 4) ?_
              refine ar_lstore (als' := [(5, .long (fold f_lmin (f_lby (g_up (M.1 94) (M.1 95) p.toInt64 q.toInt64) (g_lo (M.1 94) (M.1 95) p.toInt64 q.toInt64)) (vP (M.1 94) (M.1 95) p q e) 5)), (11, .long (vP (M.1 94) (M.1 95) p q e 4)), (10, .int 0), (7, .long (fold f_lmax (f_lby (g_up (M.1 94) (M.1 95) p.toInt64 q.toInt64) (g_lo (M.1 94) (M.1 95) p.toInt64 q.toInt64)) (vP (M.1 94) (M.1 95) p q e) 4)), (9, .int 0), (0, .ref 0), (1, .int p), (2, .int q), (3, .int e), (4, .int 0)]) C dX11_span_175 (by decide) rfl ?_
              refine ar_lload (n := 3) C dX11_span_177 rfl ?_
              refine ar_lload (n := 1) C dX11_span_179 rfl ?_
              refine cS1 (ar := [.long (fold f_lmax (f_lby (g_up (M.1 94) (M.1 95) p.toInt64 q.toInt64) (g_lo (M.1 94) (M.1 95) p.toInt64 q.toInt64)) (vP (M.1 94) (M.1 95) p q e) 4), .long (vP (M.1 94) (M.1 95) p q e 4)]) (st := []) C lkX11_308 (k_lmax M_28 (fold f_lmax (f_lby (g_up (M.1 94) (M.1 95) p.toInt64 q.toInt64) (g_lo (M.1 94) (M.1 95) p.toInt64 q.toInt64)) (vP (M.1 94) (M.1 95) p q e) 4) (vP (M.1 94) (M.1 95) p q e 4)) (by decide) rfl (Nat.le_of_ble_eq_true rfl) rfl dX11_span_181 ?_
              refine ar_topl (fold f_lmax (f_lby (g_up (M.1 94) (M.1 95) p.toInt64 q.toInt64) (g_lo (M.1 94) (M.1 95) p.toInt64 q.toInt64)) (vP (M.1 94) (M.1 95) p q e) 5) (fold_s _ _ _ 4) ?_
              refine ar_lstore (als' := [(7, .long (fold f_lmax (f_lby (g_up (M.1 94) (M.1 95) p.toInt64 q.toInt64) (g_lo (M.1 94) (M.1 95) p.toInt64 q.toInt64)) (vP (M.1 94) (M.1 95) p q e) 5)), (5, .long (fold f_lmin (f_lby (g_up (M.1 94) (M.1 95) p.toInt64 q.toInt64) (g_lo (M.1 94) (M.1 95) p.toInt64 q.toInt64)) (vP (M.1 94) (M.1 95) p q e) 5)), (11, .long (vP (M.1 94) (M.1 95) p q e 4)), (10, .int 0), (9, .int 0), (0, .ref 0), (1, .int p), (2, .int q), (3, .int e), (4, .int 0)]) C dX11_span_184 (by decide) rfl ?_
              refine ar_iinc (n := 3) (v := 1) (als' := [(10, .int 1), (7, .long (fold f_lmax (f_lby (g_up (M.1 94) (M.1 95) p.toInt64 q.toInt64) (g_lo (M.1 94) (M.1 95) p.toInt64 q.toInt64)) (vP (M.1 94) (M.1 95) p q e) 5)), (5, .long (fold f_lmin (f_lby (g_up (M.1 94) (M.1 95) p.toInt64 q.toInt64) (g_lo (M.1 94) (M.1 95) p.toInt64 q.toInt64)) (vP (M.1 94) (M.1 95) p q e) 5)), (11, .long (vP (M.1 94) (M.1 95) p q e 4)), (9, .int 0), (0, .ref 0), (1, .int p), (2, .int q), (3, .int e), (4, .int 0)]) C dX11_span_186 rfl (by decide) (by decide) rfl ?_
              refine ar_goto (tgt := 103) C dX11_span_189 (by decide) ?_
              refine ar_iload (n := 0) C dX11_span_103 rfl ?_
              refine ar_iconst (v := 1) C dX11_span_105 (by decide) ?_
              refine ar_icmp_gt (tgt := 192) C dX11_span_106 (by decide) (fun c_31 => absurd c_31 (by decide)) (fun _ => ?_)
              refine ar_aload_n (n := 5) C dX11_span_109 rfl rfl ?_
              refine ar_getr C flX11_68 rfl kd_0 rf_0_9 dX11_span_110 ?_
              refine ar_aload_n (n := 5) C dX11_span_113 rfl rfl ?_
              refine ar_getr C flX11_61 rfl kd_0 rf_0_8 dX11_span_114 ?_
              refine ar_iconst (v := 0) C dX11_span_117 (by decide) ?_
              refine ar_aald (j := 0) C kd_17 (by decide) (by decide) (by decide) (by decide) rf_17_0 dX11_span_118 ?_
              refine ar_aload_n (n := 5) C dX11_span_119 rfl rfl ?_
              refine ar_getr C flX11_61 rfl kd_0 rf_0_8 dX11_span_120 ?_
              refine ar_iconst (v := 1) C dX11_span_123 (by decide) ?_
              refine ar_aald (j := 1) C kd_17 (by decide) (by decide) (by decide) (by decide) rf_17_1 dX11_span_124 ?_
              refine ar_iload_n (n := 6) C dX11_span_125 rfl rfl ?_
              refine ar_iload (n := 4) C dX11_span_126 rfl ?_
              refine ar_iload_n (n := 8) C dX11_span_128 rfl rfl ?_
              refine ar_imul C dX11_span_129 ?_
              refine ar_iadd C dX11_span_130 ?_
              refine ar_i2l C dX11_span_131 ?_
              refine ar_topl (sgp p e 1) rfl ?_
              refine ar_iload_n (n := 7) C dX11_span_132 rfl rfl ?_
              refine ar_iload (n := 0) C dX11_span_133 rfl ?_
              refine ar_iload_n (n := 8) C dX11_span_135 rfl rfl ?_
              refine ar_imul C dX11_span_136 ?_
              refine ar_iadd C dX11_span_137 ?_
              refine ar_i2l C dX11_span_138 ?_
              refine ar_topl (sgp q e 2) rfl ?_
              refine cV1q (ar := [.ref 94, .ref 95, .long (sgp p e 1), .long (sgp q e 2)]) (st := []) C lkX11_284 kd_18 (k_sightE M M_28 h_29.2.2 (sgp p e 1) (sgp q e 2)) (by decide) rfl (Nat.le_of_ble_eq_true rfl) rfl dX11_span_139 (fun M_32 h_33 => ?_)
              refine ar_if_neB (tgt := 149) C dX11_span_142 (by decide) (fun c_34 => ?_) (fun c_34 => ?_)
              · refine ar_aload_n (n := 5) C dX11_span_149 rfl rfl ?_
                refine ar_getr C flX11_68 rfl kd_0 rf_0_9 dX11_span_150 ?_
                refine ar_getl C flX11_289 kd_18 dX11_span_153 ?_
                refine ar_topl (g_up (M.1 94) (M.1 95) (sgp p e 1) (sgp q e 2)) h_33.2.1 ?_
                refine ar_aload_n (n := 5) C dX11_span_156 rfl rfl ?_
                refine ar_getr C flX11_68 rfl kd_0 rf_0_9 dX11_span_157 ?_
                refine ar_getl C flX11_293 kd_18 dX11_span_160 ?_
                refine ar_topl (g_lo (M.1 94) (M.1 95) (sgp p e 1) (sgp q e 2)) h_33.1 ?_
                refine cS1 (ar := [.long (g_up (M.1 94) (M.1 95) (sgp p e 1) (sgp q e 2)), .long (g_lo (M.1 94) (M.1 95) (sgp p e 1) (sgp q e 2))]) (st := []) C lkX11_300 (k_lby M_32 (g_up (M.1 94) (M.1 95) (sgp p e 1) (sgp q e 2)) (g_lo (M.1 94) (M.1 95) (sgp p e 1) (sgp q e 2))) (by decide) rfl (Nat.le_of_ble_eq_true rfl) rfl dX11_span_163 ?_
                refine ar_topl (vP (M.1 94) (M.1 95) p q e 5) (vP_eq _ _ _ _ _ 5) ?_
                refine ar_lstore (als' := [(11, .long (vP (M.1 94) (M.1 95) p q e 5)), (10, .int 1), (7, .long (fold f_lmax (f_lby (g_up (M.1 94) (M.1 95) p.toInt64 q.toInt64) (g_lo (M.1 94) (M.1 95) p.toInt64 q.toInt64)) (vP (M.1 94) (M.1 95) p q e) 5)), (5, .long (fold f_lmin (f_lby (g_up (M.1 94) (M.1 95) p.toInt64 q.toInt64) (g_lo (M.1 94) (M.1 95) p.toInt64 q.toInt64)) (vP (M.1 94) (M.1 95) p q e) 5)), (9, .int 0), (0, .ref 0), (1, .int p), (2, .int q), (3, .int e), (4, .int 0)]) C dX11_span_166 (by decide) rfl ?_
                refine ar_lload (n := 3) C dX11_span_168 rfl ?_
                refine ar_lload (n := 0) C dX11_span_170 rfl ?_
                refine cS1 (ar := [.long (fold f_lmin (f_lby (g_up (M.1 94) (M.1 95) p.toInt64 q.toInt64) (g_lo (M.1 94) (M.1 95) p.toInt64 q.toInt64)) (vP (M.1 94) (M.1 95) p q e) 5), .long (vP (M.1 94) (M.1 95) p q e 5)]) (st := []) C lkX11_303 (k_lmin M_32 (fold f_lmin (f_lby (g_up (M.1 94) (M.1 95) p.toInt64 q.toInt64) (g_lo (M.1 94) (M.1 95) p.toInt64 q.toInt64)) (vP (M.1 94) (M.1 95) p q e) 5) (vP (M.1 94) (M.1 95) p q e 5)) (by decide) rfl (Nat.le_of_ble_eq_true rfl) rfl dX11_span_172 ?_
                refine ar_topl (fold f_lmin (f_lby (g_up (M.1 94) (M.1 95) p.toInt64 q.toInt64) (g_lo (M.1 94) (M.1 95) p.toInt64 q.toInt64)) (vP (M.1 94) (M.1 95) p q e) 6) (fold_s _ _ _ 5) ?_
                refine ar_lstore (als' := [(5, .long (fold f_lmin (f_lby (g_up (M.1 94) (M.1 95) p.toInt64 q.toInt64) (g_lo (M.1 94) (M.1 95) p.toInt64 q.toInt64)) (vP (M.1 94) (M.1 95) p q e) 6)), (11, .long (vP (M.1 94) (M.1 95) p q e 5)), (10, .int 1), (7, .long (fold f_lmax (f_lby (g_up (M.1 94) (M.1 95) p.toInt64 q.toInt64) (g_lo (M.1 94) (M.1 95) p.toInt64 q.toInt64)) (vP (M.1 94) (M.1 95) p q e) 5)), (9, .int 0), (0, .ref 0), (1, .int p), (2, .int q), (3, .int e), (4, .int 0)]) C dX11_span_175 (by decide) rfl ?_
                refine ar_lload (n := 3) C dX11_span_177 rfl ?_
                refine ar_lload (n := 1) C dX11_span_179 rfl ?_
                refine cS1 (ar := [.long (fold f_lmax (f_lby (g_up (M.1 94) (M.1 95) p.toInt64 q.toInt64) (g_lo (M.1 94) (M.1 95) p.toInt64 q.toInt64)) (vP (M.1 94) (M.1 95) p q e) 5), .long (vP (M.1 94) (M.1 95) p q e 5)]) (st := []) C lkX11_308 (k_lmax M_32 (fold f_lmax (f_lby (g_up (M.1 94) (M.1 95) p.toInt64 q.toInt64) (g_lo (M.1 94) (M.1 95) p.toInt64 q.toInt64)) (vP (M.1 94) (M.1 95) p q e) 5) (vP (M.1 94) (M.1 95) p q e 5)) (by decide) rfl (Nat.le_of_ble_eq_true rfl) rfl dX11_span_181 ?_
                refine ar_topl (fold f_lmax (f_lby (g_up (M.1 94) (M.1 95) p.toInt64 q.toInt64) (g_lo (M.1 94) (M.1 95) p.toInt64 q.toInt64)) (vP (M.1 94) (M.1 95) p q e) 6) (fold_s _ _ _ 5) ?_
                refine ar_lstore (als' := [(7, .long (fold f_lmax (f_lby (g_up (M.1 94) (M.1 95) p.toInt64 q.toInt64) (g_lo (M.1 94) (M.1 95) p.toInt64 q.toInt64)) (vP (M.1 94) (M.1 95) p q e) 6)), (5, .long (fold f_lmin (f_lby (g_up (M.1 94) (M.1 95) p.toInt64 q.toInt64) (g_lo (M.1 94) (M.1 95) p.toInt64 q.toInt64)) (vP (M.1 94) (M.1 95) p q e) 6)), (11, .long (vP (M.1 94) (M.1 95) p q e 5)), (10, .int 1), (9, .int 0), (0, .ref 0), (1, .int p), (2, .int q), (3, .int e), (4, .int 0)]) C dX11_span_184 (by decide) rfl ?_
                refine ar_iinc (n := 3) (v := 2) (als' := [(10, .int 2), (7, .long (fold f_lmax (f_lby (g_up (M.1 94) (M.1 95) p.toInt64 q.toInt64) (g_lo (M.1 94) (M.1 95) p.toInt64 q.toInt64)) (vP (M.1 94) (M.1 95) p q e) 6)), (5, .long (fold f_lmin (f_lby (g_up (M.1 94) (M.1 95) p.toInt64 q.toInt64) (g_lo (M.1 94) (M.1 95) p.toInt64 q.toInt64)) (vP (M.1 94) (M.1 95) p q e) 6)), (11, .long (vP (M.1 94) (M.1 95) p q e 5)), (9, .int 0), (0, .ref 0), (1, .int p), (2, .int q), (3, .int e), (4, .int 0)]) C dX11_span_186 rfl (by decide) (by decide) rfl ?_
                refine ar_goto (tgt := 103) C dX11_span_189 (by decide) ?_
                refine ar_iload (n := 0) C dX11_span_103 rfl ?_
                refine ar_iconst (v := 1) C dX11_span_105 (by decide) ?_
                refine ar_icmp_gt (tgt := 192) C dX11_span_106 (by decide) (fun _ => ?_) (fun c_35 => absurd c_35 (by decide))
                refine ar_iinc (n := 4) (v := 1) (als' := [(9, .int 1), (10, .int 2), (7, .long (fold f_lmax (f_lby (g_up (M.1 94) (M.1 95) p.toInt64 q.toInt64) (g_lo (M.1 94) (M.1 95) p.toInt64 q.toInt64)) (vP (M.1 94) (M.1 95) p q e) 6)), (5, .long (fold f_lmin (f_lby (g_up (M.1 94) (M.1 95) p.toInt64 q.toInt64) (g_lo (M.1 94) (M.1 95) p.toInt64 q.toInt64)) (vP (M.1 94) (M.1 95) p q e) 6)), (11, .long (vP (M.1 94) (M.1 95) p q e 5)), (0, .ref 0), (1, .int p), (2, .int q), (3, .int e), (4, .int 0)]) C dX11_span_192 rfl (by decide) (by decide) rfl ?_
                refine ar_goto (tgt := 94) C dX11_span_195 (by decide) ?_
                refine ar_iload (n := 0) C dX11_span_94 rfl ?_
                refine ar_iconst (v := 1) C dX11_span_96 (by decide) ?_
                refine ar_icmp_gt (tgt := 198) C dX11_span_97 (by decide) (fun c_36 => absurd c_36 (by decide)) (fun _ => ?_)
                refine ar_iconst (v := (-1)) C dX11_span_100 (by decide) ?_
                refine ar_istore (als' := [(10, .int (-1)), (9, .int 1), (7, .long (fold f_lmax (f_lby (g_up (M.1 94) (M.1 95) p.toInt64 q.toInt64) (g_lo (M.1 94) (M.1 95) p.toInt64 q.toInt64)) (vP (M.1 94) (M.1 95) p q e) 6)), (5, .long (fold f_lmin (f_lby (g_up (M.1 94) (M.1 95) p.toInt64 q.toInt64) (g_lo (M.1 94) (M.1 95) p.toInt64 q.toInt64)) (vP (M.1 94) (M.1 95) p q e) 6)), (11, .long (vP (M.1 94) (M.1 95) p q e 5)), (0, .ref 0), (1, .int p), (2, .int q), (3, .int e), (4, .int 0)]) C dX11_span_101 (by decide) rfl ?_
                refine ar_iload (n := 0) C dX11_span_103 rfl ?_
                refine ar_iconst (v := 1) C dX11_span_105 (by decide) ?_
                refine ar_icmp_gt (tgt := 192) C dX11_span_106 (by decide) (fun c_37 => absurd c_37 (by decide)) (fun _ => ?_)
                refine ar_aload_n (n := 5) C dX11_span_109 rfl rfl ?_
                refine ar_getr C flX11_68 rfl kd_0 rf_0_9 dX11_span_110 ?_
                refine ar_aload_n (n := 5) C dX11_span_113 rfl rfl ?_
                refine ar_getr C flX11_61 rfl kd_0 rf_0_8 dX11_span_114 ?_
                refine ar_iconst (v := 0) C dX11_span_117 (by decide) ?_
                refine ar_aald (j := 0) C kd_17 (by decide) (by decide) (by decide) (by decide) rf_17_0 dX11_span_118 ?_
                refine ar_aload_n (n := 5) C dX11_span_119 rfl rfl ?_
                refine ar_getr C flX11_61 rfl kd_0 rf_0_8 dX11_span_120 ?_
                refine ar_iconst (v := 1) C dX11_span_123 (by decide) ?_
                refine ar_aald (j := 1) C kd_17 (by decide) (by decide) (by decide) (by decide) rf_17_1 dX11_span_124 ?_
                refine ar_iload_n (n := 6) C dX11_span_125 rfl rfl ?_
                refine ar_iload (n := 1) C dX11_span_126 rfl ?_
                refine ar_iload_n (n := 8) C dX11_span_128 rfl rfl ?_
                refine ar_imul C dX11_span_129 ?_
                refine ar_iadd C dX11_span_130 ?_
                refine ar_i2l C dX11_span_131 ?_
                refine ar_topl (sgp p e 2) rfl ?_
                refine ar_iload_n (n := 7) C dX11_span_132 rfl rfl ?_
                refine ar_iload (n := 0) C dX11_span_133 rfl ?_
                refine ar_iload_n (n := 8) C dX11_span_135 rfl rfl ?_
                refine ar_imul C dX11_span_136 ?_
                refine ar_iadd C dX11_span_137 ?_
                refine ar_i2l C dX11_span_138 ?_
                refine ar_topl (sgp q e 0) rfl ?_
                refine cV1q (ar := [.ref 94, .ref 95, .long (sgp p e 2), .long (sgp q e 0)]) (st := []) C lkX11_284 kd_18 (k_sightE M M_32 h_33.2.2 (sgp p e 2) (sgp q e 0)) (by decide) rfl (Nat.le_of_ble_eq_true rfl) rfl dX11_span_139 (fun M_38 h_39 => ?_)
                refine ar_if_neB (tgt := 149) C dX11_span_142 (by decide) (fun c_40 => ?_) (fun c_40 => ?_)
                · refine ar_aload_n (n := 5) C dX11_span_149 rfl rfl ?_
                  refine ar_getr C flX11_68 rfl kd_0 rf_0_9 dX11_span_150 ?_
                  refine ar_getl C flX11_289 kd_18 dX11_span_153 ?_
                  refine ar_topl (g_up (M.1 94) (M.1 95) (sgp p e 2) (sgp q e 0)) h_39.2.1 ?_
                  refine ar_aload_n (n := 5) C dX11_span_156 rfl rfl ?_
                  refine ar_getr C flX11_68 rfl kd_0 rf_0_9 dX11_span_157 ?_
                  refine ar_getl C flX11_293 kd_18 dX11_span_160 ?_
                  refine ar_topl (g_lo (M.1 94) (M.1 95) (sgp p e 2) (sgp q e 0)) h_39.1 ?_
                  refine cS1 (ar := [.long (g_up (M.1 94) (M.1 95) (sgp p e 2) (sgp q e 0)), .long (g_lo (M.1 94) (M.1 95) (sgp p e 2) (sgp q e 0))]) (st := []) C lkX11_300 (k_lby M_38 (g_up (M.1 94) (M.1 95) (sgp p e 2) (sgp q e 0)) (g_lo (M.1 94) (M.1 95) (sgp p e 2) (sgp q e 0))) (by decide) rfl (Nat.le_of_ble_eq_true rfl) rfl dX11_span_163 ?_
                  refine ar_topl (vP (M.1 94) (M.1 95) p q e 6) (vP_eq _ _ _ _ _ 6) ?_
                  refine ar_lstore (als' := [(11, .long (vP (M.1 94) (M.1 95) p q e 6)), (10, .int (-1)), (9, .int 1), (7, .long (fold f_lmax (f_lby (g_up (M.1 94) (M.1 95) p.toInt64 q.toInt64) (g_lo (M.1 94) (M.1 95) p.toInt64 q.toInt64)) (vP (M.1 94) (M.1 95) p q e) 6)), (5, .long (fold f_lmin (f_lby (g_up (M.1 94) (M.1 95) p.toInt64 q.toInt64) (g_lo (M.1 94) (M.1 95) p.toInt64 q.toInt64)) (vP (M.1 94) (M.1 95) p q e) 6)), (0, .ref 0), (1, .int p), (2, .int q), (3, .int e), (4, .int 0)]) C dX11_span_166 (by decide) rfl ?_
                  refine ar_lload (n := 4) C dX11_span_168 rfl ?_
                  refine ar_lload (n := 0) C dX11_span_170 rfl ?_
                  refine cS1 (ar := [.long (fold f_lmin (f_lby (g_up (M.1 94) (M.1 95) p.toInt64 q.toInt64) (g_lo (M.1 94) (M.1 95) p.toInt64 q.toInt64)) (vP (M.1 94) (M.1 95) p q e) 6), .long (vP (M.1 94) (M.1 95) p q e 6)]) (st := []) C lkX11_303 (k_lmin M_38 (fold f_lmin (f_lby (g_up (M.1 94) (M.1 95) p.toInt64 q.toInt64) (g_lo (M.1 94) (M.1 95) p.toInt64 q.toInt64)) (vP (M.1 94) (M.1 95) p q e) 6) (vP (M.1 94) (M.1 95) p q e 6)) (by decide) rfl (Nat.le_of_ble_eq_true rfl) rfl dX11_span_172 ?_
                  refine ar_topl (fold f_lmin (f_lby (g_up (M.1 94) (M.1 95) p.toInt64 q.toInt64) (g_lo (M.1 94) (M.1 95) p.toInt64 q.toInt64)) (vP (M.1 94) (M.1 95) p q e) 7) (fold_s _ _ _ 6) ?_
                  refine ar_lstore (als' := [(5, .long (fold f_lmin (f_lby (g_up (M.1 94) (M.1 95) p.toInt64 q.toInt64) (g_lo (M.1 94) (M.1 95) p.toInt64 q.toInt64)) (vP (M.1 94) (M.1 95) p q e) 7)), (11, .long (vP (M.1 94) (M.1 95) p q e 6)), (10, .int (-1)), (9, .int 1), (7, .long (fold f_lmax (f_lby (g_up (M.1 94) (M.1 95) p.toInt64 q.toInt64) (g_lo (M.1 94) (M.1 95) p.toInt64 q.toInt64)) (vP (M.1 94) (M.1 95) p q e) 6)), (0, .ref 0), (1, .int p), (2, .int q), (3, .int e), (4, .int 0)]) C dX11_span_175 (by decide) rfl ?_
                  refine ar_lload (n := 4) C dX11_span_177 rfl ?_
                  refine ar_lload (n := 1) C dX11_span_179 rfl ?_
                  refine cS1 (ar := [.long (fold f_lmax (f_lby (g_up (M.1 94) (M.1 95) p.toInt64 q.toInt64) (g_lo (M.1 94) (M.1 95) p.toInt64 q.toInt64)) (vP (M.1 94) (M.1 95) p q e) 6), .long (vP (M.1 94) (M.1 95) p q e 6)]) (st := []) C lkX11_308 (k_lmax M_38 (fold f_lmax (f_lby (g_up (M.1 94) (M.1 95) p.toInt64 q.toInt64) (g_lo (M.1 94) (M.1 95) p.toInt64 q.toInt64)) (vP (M.1 94) (M.1 95) p q e) 6) (vP (M.1 94) (M.1 95) p q e 6)) (by decide) rfl (Nat.le_of_ble_eq_true rfl) rfl dX11_span_181 ?_
                  refine ar_topl (fold f_lmax (f_lby (g_up (M.1 94) (M.1 95) p.toInt64 q.toInt64) (g_lo (M.1 94) (M.1 95) p.toInt64 q.toInt64)) (vP (M.1 94) (M.1 95) p q e) 7) (fold_s _ _ _ 6) ?_
                  refine ar_lstore (als' := [(7, .long (fold f_lmax (f_lby (g_up (M.1 94) (M.1 95) p.toInt64 q.toInt64) (g_lo (M.1 94) (M.1 95) p.toInt64 q.toInt64)) (vP (M.1 94) (M.1 95) p q e) 7)), (5, .long (fold f_lmin (f_lby (g_up (M.1 94) (M.1 95) p.toInt64 q.toInt64) (g_lo (M.1 94) (M.1 95) p.toInt64 q.toInt64)) (vP (M.1 94) (M.1 95) p q e) 7)), (11, .long (vP (M.1 94) (M.1 95) p q e 6)), (10, .int (-1)), (9, .int 1), (0, .ref 0), (1, .int p), (2, .int q), (3, .int e), (4, .int 0)]) C dX11_span_184 (by decide) rfl ?_
                  refine ar_iinc (n := 3) (v := 0) (als' := [(10, .int 0), (7, .long (fold f_lmax (f_lby (g_up (M.1 94) (M.1 95) p.toInt64 q.toInt64) (g_lo (M.1 94) (M.1 95) p.toInt64 q.toInt64)) (vP (M.1 94) (M.1 95) p q e) 7)), (5, .long (fold f_lmin (f_lby (g_up (M.1 94) (M.1 95) p.toInt64 q.toInt64) (g_lo (M.1 94) (M.1 95) p.toInt64 q.toInt64)) (vP (M.1 94) (M.1 95) p q e) 7)), (11, .long (vP (M.1 94) (M.1 95) p q e 6)), (9, .int 1), (0, .ref 0), (1, .int p), (2, .int q), (3, .int e), (4, .int 0)]) C dX11_span_186 rfl (by decide) (by decide) rfl ?_
                  refine ar_goto (tgt := 103) C dX11_span_189 (by decide) ?_
                  refine ar_iload (n := 0) C dX11_span_103 rfl ?_
                  refine ar_iconst (v := 1) C dX11_span_105 (by decide) ?_
                  refine ar_icmp_gt (tgt := 192) C dX11_span_106 (by decide) (fun c_41 => absurd c_41 (by decide)) (fun _ => ?_)
                  refine ar_aload_n (n := 5) C dX11_span_109 rfl rfl ?_
                  refine ar_getr C flX11_68 rfl kd_0 rf_0_9 dX11_span_110 ?_
                  refine ar_aload_n (n := 5) C dX11_span_113 rfl rfl ?_
                  refine ar_getr C flX11_61 rfl kd_0 rf_0_8 dX11_span_114 ?_
                  refine ar_iconst (v := 0) C dX11_span_117 (by decide) ?_
                  refine ar_aald (j := 0) C kd_17 (by decide) (by decide) (by decide) (by decide) rf_17_0 dX11_span_118 ?_
                  refine ar_aload_n (n := 5) C dX11_span_119 rfl rfl ?_
                  refine ar_getr C flX11_61 rfl kd_0 rf_0_8 dX11_span_120 ?_
                  refine ar_iconst (v := 1) C dX11_span_123 (by decide) ?_
                  refine ar_aald (j := 1) C kd_17 (by decide) (by decide) (by decide) (by decide) rf_17_1 dX11_span_124 ?_
                  refine ar_iload_n (n := 6) C dX11_span_125 rfl rfl ?_
                  refine ar_iload (n := 4) C dX11_span_126 rfl ?_
                  refine ar_iload_n (n := 8) C dX11_span_128 rfl rfl ?_
                  refine ar_imul C dX11_span_129 ?_
                  refine ar_iadd C dX11_span_130 ?_
                  refine ar_i2l C dX11_span_131 ?_
                  refine ar_topl (sgp p e 2) rfl ?_
                  refine ar_iload_n (n := 7) C dX11_span_132 rfl rfl ?_
                  refine ar_iload (n := 0) C dX11_span_133 rfl ?_
                  refine ar_iload_n (n := 8) C dX11_span_135 rfl rfl ?_
                  refine ar_imul C dX11_span_136 ?_
                  refine ar_iadd C dX11_span_137 ?_
                  refine ar_i2l C dX11_span_138 ?_
                  refine ar_topl (sgp q e 1) rfl ?_
                  refine cV1q (ar := [.ref 94, .ref 95, .long (sgp p e 2), .long (sgp q e 1)]) (st := []) C lkX11_284 kd_18 (k_sightE M M_38 h_39.2.2 (sgp p e 2) (sgp q e 1)) (by decide) rfl (Nat.le_of_ble_eq_true rfl) rfl dX11_span_139 (fun M_42 h_43 => ?_)
                  refine ar_if_neB (tgt := 149) C dX11_span_142 (by decide) (fun c_44 => ?_) (fun c_44 => ?_)
                  · refine ar_aload_n (n := 5) C dX11_span_149 rfl rfl ?_
                    refine ar_getr C flX11_68 rfl kd_0 rf_0_9 dX11_span_150 ?_
                    refine ar_getl C flX11_289 kd_18 dX11_span_153 ?_
                    refine ar_topl (g_up (M.1 94) (M.1 95) (sgp p e 2) (sgp q e 1)) h_43.2.1 ?_
                    refine ar_aload_n (n := 5) C dX11_span_156 rfl rfl ?_
                    refine ar_getr C flX11_68 rfl kd_0 rf_0_9 dX11_span_157 ?_
                    refine ar_getl C flX11_293 kd_18 dX11_span_160 ?_
                    refine ar_topl (g_lo (M.1 94) (M.1 95) (sgp p e 2) (sgp q e 1)) h_43.1 ?_
                    refine cS1 (ar := [.long (g_up (M.1 94) (M.1 95) (sgp p e 2) (sgp q e 1)), .long (g_lo (M.1 94) (M.1 95) (sgp p e 2) (sgp q e 1))]) (st := []) C lkX11_300 (k_lby M_42 (g_up (M.1 94) (M.1 95) (sgp p e 2) (sgp q e 1)) (g_lo (M.1 94) (M.1 95) (sgp p e 2) (sgp q e 1))) (by decide) rfl (Nat.le_of_ble_eq_true rfl) rfl dX11_span_163 ?_
                    refine ar_topl (vP (M.1 94) (M.1 95) p q e 7) (vP_eq _ _ _ _ _ 7) ?_
                    refine ar_lstore (als' := [(11, .long (vP (M.1 94) (M.1 95) p q e 7)), (10, .int 0), (7, .long (fold f_lmax (f_lby (g_up (M.1 94) (M.1 95) p.toInt64 q.toInt64) (g_lo (M.1 94) (M.1 95) p.toInt64 q.toInt64)) (vP (M.1 94) (M.1 95) p q e) 7)), (5, .long (fold f_lmin (f_lby (g_up (M.1 94) (M.1 95) p.toInt64 q.toInt64) (g_lo (M.1 94) (M.1 95) p.toInt64 q.toInt64)) (vP (M.1 94) (M.1 95) p q e) 7)), (9, .int 1), (0, .ref 0), (1, .int p), (2, .int q), (3, .int e), (4, .int 0)]) C dX11_span_166 (by decide) rfl ?_
                    refine ar_lload (n := 3) C dX11_span_168 rfl ?_
                    refine ar_lload (n := 0) C dX11_span_170 rfl ?_
                    refine cS1 (ar := [.long (fold f_lmin (f_lby (g_up (M.1 94) (M.1 95) p.toInt64 q.toInt64) (g_lo (M.1 94) (M.1 95) p.toInt64 q.toInt64)) (vP (M.1 94) (M.1 95) p q e) 7), .long (vP (M.1 94) (M.1 95) p q e 7)]) (st := []) C lkX11_303 (k_lmin M_42 (fold f_lmin (f_lby (g_up (M.1 94) (M.1 95) p.toInt64 q.toInt64) (g_lo (M.1 94) (M.1 95) p.toInt64 q.toInt64)) (vP (M.1 94) (M.1 95) p q e) 7) (vP (M.1 94) (M.1 95) p q e 7)) (by decide) rfl (Nat.le_of_ble_eq_true rfl) rfl dX11_span_172 ?_
                    refine ar_topl (fold f_lmin (f_lby (g_up (M.1 94) (M.1 95) p.toInt64 q.toInt64) (g_lo (M.1 94) (M.1 95) p.toInt64 q.toInt64)) (vP (M.1 94) (M.1 95) p q e) 8) (fold_s _ _ _ 7) ?_
                    refine ar_lstore (als' := [(5, .long (fold f_lmin (f_lby (g_up (M.1 94) (M.1 95) p.toInt64 q.toInt64) (g_lo (M.1 94) (M.1 95) p.toInt64 q.toInt64)) (vP (M.1 94) (M.1 95) p q e) 8)), (11, .long (vP (M.1 94) (M.1 95) p q e 7)), (10, .int 0), (7, .long (fold f_lmax (f_lby (g_up (M.1 94) (M.1 95) p.toInt64 q.toInt64) (g_lo (M.1 94) (M.1 95) p.toInt64 q.toInt64)) (vP (M.1 94) (M.1 95) p q e) 7)), (9, .int 1), (0, .ref 0), (1, .int p), (2, .int q), (3, .int e), (4, .int 0)]) C dX11_span_175 (by decide) rfl ?_
                    refine ar_lload (n := 3) C dX11_span_177 rfl ?_
                    refine ar_lload (n := 1) C dX11_span_179 rfl ?_
                    refine cS1 (ar := [.long (fold f_lmax (f_lby (g_up (M.1 94) (M.1 95) p.toInt64 q.toInt64) (g_lo (M.1 94) (M.1 95) p.toInt64 q.toInt64)) (vP (M.1 94) (M.1 95) p q e) 7), .long (vP (M.1 94) (M.1 95) p q e 7)]) (st := []) C lkX11_308 (k_lmax M_42 (fold f_lmax (f_lby (g_up (M.1 94) (M.1 95) p.toInt64 q.toInt64) (g_lo (M.1 94) (M.1 95) p.toInt64 q.toInt64)) (vP (M.1 94) (M.1 95) p q e) 7) (vP (M.1 94) (M.1 95) p q e 7)) (by decide) rfl (Nat.le_of_ble_eq_true rfl) rfl dX11_span_181 ?_
                    refine ar_topl (fold f_lmax (f_lby (g_up (M.1 94) (M.1 95) p.toInt64 q.toInt64) (g_lo (M.1 94) (M.1 95) p.toInt64 q.toInt64)) (vP (M.1 94) (M.1 95) p q e) 8) (fold_s _ _ _ 7) ?_
                    refine ar_lstore (als' := [(7, .long (fold f_lmax (f_lby (g_up (M.1 94) (M.1 95) p.toInt64 q.toInt64) (g_lo (M.1 94) (M.1 95) p.toInt64 q.toInt64)) (vP (M.1 94) (M.1 95) p q e) 8)), (5, .long (fold f_lmin (f_lby (g_up (M.1 94) (M.1 95) p.toInt64 q.toInt64) (g_lo (M.1 94) (M.1 95) p.toInt64 q.toInt64)) (vP (M.1 94) (M.1 95) p q e) 8)), (11, .long (vP (M.1 94) (M.1 95) p q e 7)), (10, .int 0), (9, .int 1), (0, .ref 0), (1, .int p), (2, .int q), (3, .int e), (4, .int 0)]) C dX11_span_184 (by decide) rfl ?_
                    refine ar_iinc (n := 3) (v := 1) (als' := [(10, .int 1), (7, .long (fold f_lmax (f_lby (g_up (M.1 94) (M.1 95) p.toInt64 q.toInt64) (g_lo (M.1 94) (M.1 95) p.toInt64 q.toInt64)) (vP (M.1 94) (M.1 95) p q e) 8)), (5, .long (fold f_lmin (f_lby (g_up (M.1 94) (M.1 95) p.toInt64 q.toInt64) (g_lo (M.1 94) (M.1 95) p.toInt64 q.toInt64)) (vP (M.1 94) (M.1 95) p q e) 8)), (11, .long (vP (M.1 94) (M.1 95) p q e 7)), (9, .int 1), (0, .ref 0), (1, .int p), (2, .int q), (3, .int e), (4, .int 0)]) C dX11_span_186 rfl (by decide) (by decide) rfl ?_
                    refine ar_goto (tgt := 103) C dX11_span_189 (by decide) ?_
                    refine ar_iload (n := 0) C dX11_span_103 rfl ?_
                    refine ar_iconst (v := 1) C dX11_span_105 (by decide) ?_
                    refine ar_icmp_gt (tgt := 192) C dX11_span_106 (by decide) (fun c_45 => absurd c_45 (by decide)) (fun _ => ?_)
                    refine ar_aload_n (n := 5) C dX11_span_109 rfl rfl ?_
                    refine ar_getr C flX11_68 rfl kd_0 rf_0_9 dX11_span_110 ?_
                    refine ar_aload_n (n := 5) C dX11_span_113 rfl rfl ?_
                    refine ar_getr C flX11_61 rfl kd_0 rf_0_8 dX11_span_114 ?_
                    refine ar_iconst (v := 0) C dX11_span_117 (by decide) ?_
                    refine ar_aald (j := 0) C kd_17 (by decide) (by decide) (by decide) (by decide) rf_17_0 dX11_span_118 ?_
                    refine ar_aload_n (n := 5) C dX11_span_119 rfl rfl ?_
                    refine ar_getr C flX11_61 rfl kd_0 rf_0_8 dX11_span_120 ?_
                    refine ar_iconst (v := 1) C dX11_span_123 (by decide) ?_
                    refine ar_aald (j := 1) C kd_17 (by decide) (by decide) (by decide) (by decide) rf_17_1 dX11_span_124 ?_
                    refine ar_iload_n (n := 6) C dX11_span_125 rfl rfl ?_
                    refine ar_iload (n := 4) C dX11_span_126 rfl ?_
                    refine ar_iload_n (n := 8) C dX11_span_128 rfl rfl ?_
                    refine ar_imul C dX11_span_129 ?_
                    refine ar_iadd C dX11_span_130 ?_
                    refine ar_i2l C dX11_span_131 ?_
                    refine ar_topl (sgp p e 2) rfl ?_
                    refine ar_iload_n (n := 7) C dX11_span_132 rfl rfl ?_
                    refine ar_iload (n := 0) C dX11_span_133 rfl ?_
                    refine ar_iload_n (n := 8) C dX11_span_135 rfl rfl ?_
                    refine ar_imul C dX11_span_136 ?_
                    refine ar_iadd C dX11_span_137 ?_
                    refine ar_i2l C dX11_span_138 ?_
                    refine ar_topl (sgp q e 2) rfl ?_
                    refine cV1q (ar := [.ref 94, .ref 95, .long (sgp p e 2), .long (sgp q e 2)]) (st := []) C lkX11_284 kd_18 (k_sightE M M_42 h_43.2.2 (sgp p e 2) (sgp q e 2)) (by decide) rfl (Nat.le_of_ble_eq_true rfl) rfl dX11_span_139 (fun M_46 h_47 => ?_)
                    refine ar_if_neB (tgt := 149) C dX11_span_142 (by decide) (fun c_48 => ?_) (fun c_48 => ?_)
                    · refine ar_aload_n (n := 5) C dX11_span_149 rfl rfl ?_
                      refine ar_getr C flX11_68 rfl kd_0 rf_0_9 dX11_span_150 ?_
                      refine ar_getl C flX11_289 kd_18 dX11_span_153 ?_
                      refine ar_topl (g_up (M.1 94) (M.1 95) (sgp p e 2) (sgp q e 2)) h_47.2.1 ?_
                      refine ar_aload_n (n := 5) C dX11_span_156 rfl rfl ?_
                      refine ar_getr C flX11_68 rfl kd_0 rf_0_9 dX11_span_157 ?_
                      refine ar_getl C flX11_293 kd_18 dX11_span_160 ?_
                      refine ar_topl (g_lo (M.1 94) (M.1 95) (sgp p e 2) (sgp q e 2)) h_47.1 ?_
                      refine cS1 (ar := [.long (g_up (M.1 94) (M.1 95) (sgp p e 2) (sgp q e 2)), .long (g_lo (M.1 94) (M.1 95) (sgp p e 2) (sgp q e 2))]) (st := []) C lkX11_300 (k_lby M_46 (g_up (M.1 94) (M.1 95) (sgp p e 2) (sgp q e 2)) (g_lo (M.1 94) (M.1 95) (sgp p e 2) (sgp q e 2))) (by decide) rfl (Nat.le_of_ble_eq_true rfl) rfl dX11_span_163 ?_
                      refine ar_topl (vP (M.1 94) (M.1 95) p q e 8) (vP_eq _ _ _ _ _ 8) ?_
                      refine ar_lstore (als' := [(11, .long (vP (M.1 94) (M.1 95) p q e 8)), (10, .int 1), (7, .long (fold f_lmax (f_lby (g_up (M.1 94) (M.1 95) p.toInt64 q.toInt64) (g_lo (M.1 94) (M.1 95) p.toInt64 q.toInt64)) (vP (M.1 94) (M.1 95) p q e) 8)), (5, .long (fold f_lmin (f_lby (g_up (M.1 94) (M.1 95) p.toInt64 q.toInt64) (g_lo (M.1 94) (M.1 95) p.toInt64 q.toInt64)) (vP (M.1 94) (M.1 95) p q e) 8)), (9, .int 1), (0, .ref 0), (1, .int p), (2, .int q), (3, .int e), (4, .int 0)]) C dX11_span_166 (by decide) rfl ?_
                      refine ar_lload (n := 3) C dX11_span_168 rfl ?_
                      refine ar_lload (n := 0) C dX11_span_170 rfl ?_
                      refine cS1 (ar := [.long (fold f_lmin (f_lby (g_up (M.1 94) (M.1 95) p.toInt64 q.toInt64) (g_lo (M.1 94) (M.1 95) p.toInt64 q.toInt64)) (vP (M.1 94) (M.1 95) p q e) 8), .long (vP (M.1 94) (M.1 95) p q e 8)]) (st := []) C lkX11_303 (k_lmin M_46 (fold f_lmin (f_lby (g_up (M.1 94) (M.1 95) p.toInt64 q.toInt64) (g_lo (M.1 94) (M.1 95) p.toInt64 q.toInt64)) (vP (M.1 94) (M.1 95) p q e) 8) (vP (M.1 94) (M.1 95) p q e 8)) (by decide) rfl (Nat.le_of_ble_eq_true rfl) rfl dX11_span_172 ?_
                      refine ar_topl (fold f_lmin (f_lby (g_up (M.1 94) (M.1 95) p.toInt64 q.toInt64) (g_lo (M.1 94) (M.1 95) p.toInt64 q.toInt64)) (vP (M.1 94) (M.1 95) p q e) 9) (fold_s _ _ _ 8) ?_
                      refine ar_lstore (als' := [(5, .long (fold f_lmin (f_lby (g_up (M.1 94) (M.1 95) p.toInt64 q.toInt64) (g_lo (M.1 94) (M.1 95) p.toInt64 q.toInt64)) (vP (M.1 94) (M.1 95) p q e) 9)), (11, .long (vP (M.1 94) (M.1 95) p q e 8)), (10, .int 1), (7, .long (fold f_lmax (f_lby (g_up (M.1 94) (M.1 95) p.toInt64 q.toInt64) (g_lo (M.1 94) (M.1 95) p.toInt64 q.toInt64)) (vP (M.1 94) (M.1 95) p q e) 8)), (9, .int 1), (0, .ref 0), (1, .int p), (2, .int q), (3, .int e), (4, .int 0)]) C dX11_span_175 (by decide) rfl ?_
                      refine ar_lload (n := 3) C dX11_span_177 rfl ?_
                      refine ar_lload (n := 1) C dX11_span_179 rfl ?_
                      refine cS1 (ar := [.long (fold f_lmax (f_lby (g_up (M.1 94) (M.1 95) p.toInt64 q.toInt64) (g_lo (M.1 94) (M.1 95) p.toInt64 q.toInt64)) (vP (M.1 94) (M.1 95) p q e) 8), .long (vP (M.1 94) (M.1 95) p q e 8)]) (st := []) C lkX11_308 (k_lmax M_46 (fold f_lmax (f_lby (g_up (M.1 94) (M.1 95) p.toInt64 q.toInt64) (g_lo (M.1 94) (M.1 95) p.toInt64 q.toInt64)) (vP (M.1 94) (M.1 95) p q e) 8) (vP (M.1 94) (M.1 95) p q e 8)) (by decide) rfl (Nat.le_of_ble_eq_true rfl) rfl dX11_span_181 ?_
                      refine ar_topl (fold f_lmax (f_lby (g_up (M.1 94) (M.1 95) p.toInt64 q.toInt64) (g_lo (M.1 94) (M.1 95) p.toInt64 q.toInt64)) (vP (M.1 94) (M.1 95) p q e) 9) (fold_s _ _ _ 8) ?_
                      refine ar_lstore (als' := [(7, .long (fold f_lmax (f_lby (g_up (M.1 94) (M.1 95) p.toInt64 q.toInt64) (g_lo (M.1 94) (M.1 95) p.toInt64 q.toInt64)) (vP (M.1 94) (M.1 95) p q e) 9)), (5, .long (fold f_lmin (f_lby (g_up (M.1 94) (M.1 95) p.toInt64 q.toInt64) (g_lo (M.1 94) (M.1 95) p.toInt64 q.toInt64)) (vP (M.1 94) (M.1 95) p q e) 9)), (11, .long (vP (M.1 94) (M.1 95) p q e 8)), (10, .int 1), (9, .int 1), (0, .ref 0), (1, .int p), (2, .int q), (3, .int e), (4, .int 0)]) C dX11_span_184 (by decide) rfl ?_
                      refine ar_iinc (n := 3) (v := 2) (als' := [(10, .int 2), (7, .long (fold f_lmax (f_lby (g_up (M.1 94) (M.1 95) p.toInt64 q.toInt64) (g_lo (M.1 94) (M.1 95) p.toInt64 q.toInt64)) (vP (M.1 94) (M.1 95) p q e) 9)), (5, .long (fold f_lmin (f_lby (g_up (M.1 94) (M.1 95) p.toInt64 q.toInt64) (g_lo (M.1 94) (M.1 95) p.toInt64 q.toInt64)) (vP (M.1 94) (M.1 95) p q e) 9)), (11, .long (vP (M.1 94) (M.1 95) p q e 8)), (9, .int 1), (0, .ref 0), (1, .int p), (2, .int q), (3, .int e), (4, .int 0)]) C dX11_span_186 rfl (by decide) (by decide) rfl ?_
                      refine ar_goto (tgt := 103) C dX11_span_189 (by decide) ?_
                      refine ar_iload (n := 0) C dX11_span_103 rfl ?_
                      refine ar_iconst (v := 1) C dX11_span_105 (by decide) ?_
                      refine ar_icmp_gt (tgt := 192) C dX11_span_106 (by decide) (fun _ => ?_) (fun c_49 => absurd c_49 (by decide))
                      refine ar_iinc (n := 4) (v := 2) (als' := [(9, .int 2), (10, .int 2), (7, .long (fold f_lmax (f_lby (g_up (M.1 94) (M.1 95) p.toInt64 q.toInt64) (g_lo (M.1 94) (M.1 95) p.toInt64 q.toInt64)) (vP (M.1 94) (M.1 95) p q e) 9)), (5, .long (fold f_lmin (f_lby (g_up (M.1 94) (M.1 95) p.toInt64 q.toInt64) (g_lo (M.1 94) (M.1 95) p.toInt64 q.toInt64)) (vP (M.1 94) (M.1 95) p q e) 9)), (11, .long (vP (M.1 94) (M.1 95) p q e 8)), (0, .ref 0), (1, .int p), (2, .int q), (3, .int e), (4, .int 0)]) C dX11_span_192 rfl (by decide) (by decide) rfl ?_
                      refine ar_goto (tgt := 94) C dX11_span_195 (by decide) ?_
                      refine ar_iload (n := 0) C dX11_span_94 rfl ?_
                      refine ar_iconst (v := 1) C dX11_span_96 (by decide) ?_
                      refine ar_icmp_gt (tgt := 198) C dX11_span_97 (by decide) (fun _ => ?_) (fun c_50 => absurd c_50 (by decide))
                      refine ar_iload (n := 9) C dX11_span_198 rfl ?_
                      refine ar_if_ne (tgt := 208) C dX11_span_200 (by decide) (fun c_51 => absurd c_51 (by decide)) (fun _ => ?_)
                      refine ar_lload (n := 3) C dX11_span_203 rfl ?_
                      refine ar_goto (tgt := 210) C dX11_span_205 (by decide) ?_
                      exact ar_lreturn C rfl dX11_span_210 ⟨by rw [if_pos (by rw [c_7]; simp only [allB]; rw [show okP (M.1 94) (M.1 95) p q e 0 = true from c_12, show okP (M.1 94) (M.1 95) p q e 1 = true from c_16, show okP (M.1 94) (M.1 95) p q e 2 = true from c_20, show okP (M.1 94) (M.1 95) p q e 3 = true from c_26, show okP (M.1 94) (M.1 95) p q e 4 = true from c_30, show okP (M.1 94) (M.1 95) p q e 5 = true from c_34, show okP (M.1 94) (M.1 95) p q e 6 = true from c_40, show okP (M.1 94) (M.1 95) p q e 7 = true from c_44, show okP (M.1 94) (M.1 95) p q e 8 = true from c_48]; rfl)], rfl, h_47.2.2⟩
                    · refine ar_ldc2 C kcX11_287 dX11_span_145 ?_
                      exact ar_lreturn C rfl dX11_span_148 ⟨by rw [if_neg (by rw [show (g_ok (M.1 94) (M.1 95) p.toInt64 q.toInt64 && allB (okP (M.1 94) (M.1 95) p q e) 9) = false from by rw [allB_no (p := okP (M.1 94) (M.1 95) p q e) (k := 8) c_48 9 (by decide), Bool.and_false]]; decide)], rfl, h_47.2.2⟩
                  · refine ar_ldc2 C kcX11_287 dX11_span_145 ?_
                    exact ar_lreturn C rfl dX11_span_148 ⟨by rw [if_neg (by rw [show (g_ok (M.1 94) (M.1 95) p.toInt64 q.toInt64 && allB (okP (M.1 94) (M.1 95) p q e) 9) = false from by rw [allB_no (p := okP (M.1 94) (M.1 95) p q e) (k := 7) c_44 9 (by decide), Bool.and_false]]; decide)], rfl, h_43.2.2⟩
                · refine ar_ldc2 C kcX11_287 dX11_span_145 ?_
                  exact ar_lreturn C rfl dX11_span_148 ⟨by rw [if_neg (by rw [show (g_ok (M.1 94) (M.1 95) p.toInt64 q.toInt64 && allB (okP (M.1 94) (M.1 95) p q e) 9) = false from by rw [allB_no (p := okP (M.1 94) (M.1 95) p q e) (k := 6) c_40 9 (by decide), Bool.and_false]]; decide)], rfl, h_39.2.2⟩
              · refine ar_ldc2 C kcX11_287 dX11_span_145 ?_
                exact ar_lreturn C rfl dX11_span_148 ⟨by rw [if_neg (by rw [show (g_ok (M.1 94) (M.1 95) p.toInt64 q.toInt64 && allB (okP (M.1 94) (M.1 95) p q e) 9) = false from by rw [allB_no (p := okP (M.1 94) (M.1 95) p q e) (k := 5) c_34 9 (by decide), Bool.and_false]]; decide)], rfl, h_33.2.2⟩
            · refine ar_ldc2 C kcX11_287 dX11_span_145 ?_
              exact ar_lreturn C rfl dX11_span_148 ⟨by rw [if_neg (by rw [show (g_ok (M.1 94) (M.1 95) p.toInt64 q.toInt64 && allB (okP (M.1 94) (M.1 95) p q e) 9) = false from by rw [allB_no (p := okP (M.1 94) (M.1 95) p q e) (k := 4) c_30 9 (by decide), Bool.and_false]]; decide)], rfl, h_29.2.2⟩
          · refine ar_ldc2 C kcX11_287 dX11_span_145 ?_
            exact ar_lreturn C rfl dX11_span_148 ⟨by rw [if_neg (by rw [show (g_ok (M.1 94) (M.1 95) p.toInt64 q.toInt64 && allB (okP (M.1 94) (M.1 95) p q e) 9) = false from by rw [allB_no (p := okP (M.1 94) (M.1 95) p q e) (k := 3) c_26 9 (by decide), Bool.and_false]]; decide)], rfl, h_25.2.2⟩
        · refine ar_ldc2 C kcX11_287 dX11_span_145 ?_
          exact ar_lreturn C rfl dX11_span_148 ⟨by rw [if_neg (by rw [show (g_ok (M.1 94) (M.1 95) p.toInt64 q.toInt64 && allB (okP (M.1 94) (M.1 95) p q e) 9) = false from by rw [allB_no (p := okP (M.1 94) (M.1 95) p q e) (k := 2) c_20 9 (by decide), Bool.and_false]]; decide)], rfl, h_19.2.2⟩
      · refine ar_ldc2 C kcX11_287 dX11_span_145 ?_
        exact ar_lreturn C rfl dX11_span_148 ⟨by rw [if_neg (by rw [show (g_ok (M.1 94) (M.1 95) p.toInt64 q.toInt64 && allB (okP (M.1 94) (M.1 95) p q e) 9) = false from by rw [allB_no (p := okP (M.1 94) (M.1 95) p q e) (k := 1) c_16 9 (by decide), Bool.and_false]]; decide)], rfl, h_15.2.2⟩
    · refine ar_ldc2 C kcX11_287 dX11_span_145 ?_
      exact ar_lreturn C rfl dX11_span_148 ⟨by rw [if_neg (by rw [show (g_ok (M.1 94) (M.1 95) p.toInt64 q.toInt64 && allB (okP (M.1 94) (M.1 95) p q e) 9) = false from by rw [allB_no (p := okP (M.1 94) (M.1 95) p q e) (k := 0) c_12 9 (by decide), Bool.and_false]]; decide)], rfl, h_11.2.2⟩
  · refine ar_ldc2 C kcX11_287 dX11_span_64 ?_
    exact ar_lreturn C rfl dX11_span_67 ⟨by rw [if_neg (by rw [show (g_ok (M.1 94) (M.1 95) p.toInt64 q.toInt64 && allB (okP (M.1 94) (M.1 95) p q e) 9) = false from by rw [c_7, Bool.false_and]]; decide)], rfl, h_6.2.2⟩
set_option maxHeartbeats 1000000 in
set_option maxRecDepth 100000 in
theorem x_span_1 (M : Mm) (p q e : Int32) (hp : f_in p (-1000) 1000 = true) (hq : f_in q (-1000) 1000 = true) (he : f_in e 0 20 = true) : AQ mX11_span 3 [.ref 0, .int p, .int q, .int e, .int 1] M (some (.long (if (g_ok (M.1 94) (M.1 95) p.toInt64 q.toInt64 && allB (okP (M.1 94) (M.1 95) p q e) 9) = true then fold f_lmax (f_lby (g_up (M.1 94) (M.1 95) p.toInt64 q.toInt64) (g_lo (M.1 94) (M.1 95) p.toInt64 q.toInt64)) (vP (M.1 94) (M.1 95) p q e) 9 else -1000000))) (fun M1 => M1.1 = M.1) := by
  refine AM_ofF (by decide +kernel) (Nat.le_of_ble_eq_true rfl) (fun X V C _ _ => ?_)
  show AW X V mX11_span.2.2.1 T0 M 0 0 _ 0 [(0, .ref 0), (1, .int p), (2, .int q), (3, .int e), (4, .int 1)] []
  refine ar_iload_n (n := 1) C dX11_span_0 rfl rfl ?_
  refine cS1 (ar := [.int p]) (st := []) C lkX11_219 (k_isFlat M p) (by decide) rfl (Nat.le_of_ble_eq_true rfl) rfl dX11_span_1 ?_
  refine ar_if_eqB (tgt := 34) C dX11_span_4 (by decide) (fun c_1 => False.elim (Bool.noConfusion (hp.symm.trans c_1))) (fun _ => ?_)
  refine ar_iload_n (n := 2) C dX11_span_7 rfl rfl ?_
  refine cS1 (ar := [.int q]) (st := []) C lkX11_219 (k_isFlat M q) (by decide) rfl (Nat.le_of_ble_eq_true rfl) rfl dX11_span_8 ?_
  refine ar_if_eqB (tgt := 34) C dX11_span_11 (by decide) (fun c_2 => False.elim (Bool.noConfusion (hq.symm.trans c_2))) (fun _ => ?_)
  refine ar_iload_n (n := 3) C dX11_span_14 rfl rfl ?_
  refine ar_iconst (v := 0) C dX11_span_15 (by decide) ?_
  refine ar_bipush (v := 20) C dX11_span_16 (by decide) ?_
  refine cS1 (ar := [.int e, .int 0, .int 20]) (st := []) C lkX11_94 (k_within M e 0 20) (by decide) rfl (Nat.le_of_ble_eq_true rfl) rfl dX11_span_18 ?_
  refine ar_if_eqB (tgt := 34) C dX11_span_21 (by decide) (fun c_3 => False.elim (Bool.noConfusion (he.symm.trans c_3))) (fun _ => ?_)
  refine ar_iload (n := 4) C dX11_span_24 rfl ?_
  refine ar_iconst (v := 0) C dX11_span_26 (by decide) ?_
  refine ar_iconst (v := 1) C dX11_span_27 (by decide) ?_
  refine cS1 (ar := [.int 1, .int 0, .int 1]) (st := []) C lkX11_94 (k_within M 1 0 1) (by decide) rfl (Nat.le_of_ble_eq_true rfl) rfl dX11_span_28 ?_
  refine ar_if_neB (tgt := 38) C dX11_span_31 (by decide) (fun _ => ?_) (fun c_4 => False.elim (Bool.noConfusion ((show f_in 1 0 1 = true by decide).symm.trans c_4)))
  refine ar_aload_n (n := 0) C dX11_span_38 rfl rfl ?_
  refine ar_getr C flX11_68 rfl kd_0 rf_0_9 dX11_span_39 ?_
  refine ar_aload_n (n := 0) C dX11_span_42 rfl rfl ?_
  refine ar_getr C flX11_61 rfl kd_0 rf_0_8 dX11_span_43 ?_
  refine ar_iconst (v := 0) C dX11_span_46 (by decide) ?_
  refine ar_aald (j := 0) C kd_17 (by decide) (by decide) (by decide) (by decide) rf_17_0 dX11_span_47 ?_
  refine ar_aload_n (n := 0) C dX11_span_48 rfl rfl ?_
  refine ar_getr C flX11_61 rfl kd_0 rf_0_8 dX11_span_49 ?_
  refine ar_iconst (v := 1) C dX11_span_52 (by decide) ?_
  refine ar_aald (j := 1) C kd_17 (by decide) (by decide) (by decide) (by decide) rf_17_1 dX11_span_53 ?_
  refine ar_iload_n (n := 1) C dX11_span_54 rfl rfl ?_
  refine ar_i2l C dX11_span_55 ?_
  refine ar_iload_n (n := 2) C dX11_span_56 rfl rfl ?_
  refine ar_i2l C dX11_span_57 ?_
  refine cV1q (ar := [.ref 94, .ref 95, .long p.toInt64, .long q.toInt64]) (st := []) C lkX11_284 kd_18 (k_sightE M M rfl p.toInt64 q.toInt64) (by decide) rfl (Nat.le_of_ble_eq_true rfl) rfl dX11_span_58 (fun M_5 h_6 => ?_)
  refine ar_if_neB (tgt := 68) C dX11_span_61 (by decide) (fun c_7 => ?_) (fun c_7 => ?_)
  · refine ar_aload_n (n := 0) C dX11_span_68 rfl rfl ?_
    refine ar_getr C flX11_68 rfl kd_0 rf_0_9 dX11_span_69 ?_
    refine ar_getl C flX11_289 kd_18 dX11_span_72 ?_
    refine ar_topl (g_up (M.1 94) (M.1 95) p.toInt64 q.toInt64) h_6.2.1 ?_
    refine ar_aload_n (n := 0) C dX11_span_75 rfl rfl ?_
    refine ar_getr C flX11_68 rfl kd_0 rf_0_9 dX11_span_76 ?_
    refine ar_getl C flX11_293 kd_18 dX11_span_79 ?_
    refine ar_topl (g_lo (M.1 94) (M.1 95) p.toInt64 q.toInt64) h_6.1 ?_
    refine cS1 (ar := [.long (g_up (M.1 94) (M.1 95) p.toInt64 q.toInt64), .long (g_lo (M.1 94) (M.1 95) p.toInt64 q.toInt64)]) (st := []) C lkX11_300 (k_lby M_5 (g_up (M.1 94) (M.1 95) p.toInt64 q.toInt64) (g_lo (M.1 94) (M.1 95) p.toInt64 q.toInt64)) (by decide) rfl (Nat.le_of_ble_eq_true rfl) rfl dX11_span_82 ?_
    refine ar_topl (f_lby (g_up (M.1 94) (M.1 95) p.toInt64 q.toInt64) (g_lo (M.1 94) (M.1 95) p.toInt64 q.toInt64)) rfl ?_
    refine ar_lstore (als' := [(5, .long (f_lby (g_up (M.1 94) (M.1 95) p.toInt64 q.toInt64) (g_lo (M.1 94) (M.1 95) p.toInt64 q.toInt64))), (0, .ref 0), (1, .int p), (2, .int q), (3, .int e), (4, .int 1)]) C dX11_span_85 (by decide) rfl ?_
    refine ar_lload (n := 0) C dX11_span_87 rfl ?_
    refine ar_lstore (als' := [(7, .long (f_lby (g_up (M.1 94) (M.1 95) p.toInt64 q.toInt64) (g_lo (M.1 94) (M.1 95) p.toInt64 q.toInt64))), (5, .long (f_lby (g_up (M.1 94) (M.1 95) p.toInt64 q.toInt64) (g_lo (M.1 94) (M.1 95) p.toInt64 q.toInt64))), (0, .ref 0), (1, .int p), (2, .int q), (3, .int e), (4, .int 1)]) C dX11_span_89 (by decide) rfl ?_
    refine ar_iconst (v := (-1)) C dX11_span_91 (by decide) ?_
    refine ar_istore (als' := [(9, .int (-1)), (7, .long (f_lby (g_up (M.1 94) (M.1 95) p.toInt64 q.toInt64) (g_lo (M.1 94) (M.1 95) p.toInt64 q.toInt64))), (5, .long (f_lby (g_up (M.1 94) (M.1 95) p.toInt64 q.toInt64) (g_lo (M.1 94) (M.1 95) p.toInt64 q.toInt64))), (0, .ref 0), (1, .int p), (2, .int q), (3, .int e), (4, .int 1)]) C dX11_span_92 (by decide) rfl ?_
    refine ar_iload (n := 0) C dX11_span_94 rfl ?_
    refine ar_iconst (v := 1) C dX11_span_96 (by decide) ?_
    refine ar_icmp_gt (tgt := 198) C dX11_span_97 (by decide) (fun c_8 => absurd c_8 (by decide)) (fun _ => ?_)
    refine ar_iconst (v := (-1)) C dX11_span_100 (by decide) ?_
    refine ar_istore (als' := [(10, .int (-1)), (9, .int (-1)), (7, .long (f_lby (g_up (M.1 94) (M.1 95) p.toInt64 q.toInt64) (g_lo (M.1 94) (M.1 95) p.toInt64 q.toInt64))), (5, .long (f_lby (g_up (M.1 94) (M.1 95) p.toInt64 q.toInt64) (g_lo (M.1 94) (M.1 95) p.toInt64 q.toInt64))), (0, .ref 0), (1, .int p), (2, .int q), (3, .int e), (4, .int 1)]) C dX11_span_101 (by decide) rfl ?_
    refine ar_iload (n := 0) C dX11_span_103 rfl ?_
    refine ar_iconst (v := 1) C dX11_span_105 (by decide) ?_
    refine ar_icmp_gt (tgt := 192) C dX11_span_106 (by decide) (fun c_9 => absurd c_9 (by decide)) (fun _ => ?_)
    refine ar_aload_n (n := 4) C dX11_span_109 rfl rfl ?_
    refine ar_getr C flX11_68 rfl kd_0 rf_0_9 dX11_span_110 ?_
    refine ar_aload_n (n := 4) C dX11_span_113 rfl rfl ?_
    refine ar_getr C flX11_61 rfl kd_0 rf_0_8 dX11_span_114 ?_
    refine ar_iconst (v := 0) C dX11_span_117 (by decide) ?_
    refine ar_aald (j := 0) C kd_17 (by decide) (by decide) (by decide) (by decide) rf_17_0 dX11_span_118 ?_
    refine ar_aload_n (n := 4) C dX11_span_119 rfl rfl ?_
    refine ar_getr C flX11_61 rfl kd_0 rf_0_8 dX11_span_120 ?_
    refine ar_iconst (v := 1) C dX11_span_123 (by decide) ?_
    refine ar_aald (j := 1) C kd_17 (by decide) (by decide) (by decide) (by decide) rf_17_1 dX11_span_124 ?_
    refine ar_iload_n (n := 5) C dX11_span_125 rfl rfl ?_
    refine ar_iload (n := 1) C dX11_span_126 rfl ?_
    refine ar_iload_n (n := 7) C dX11_span_128 rfl rfl ?_
    refine ar_imul C dX11_span_129 ?_
    refine ar_iadd C dX11_span_130 ?_
    refine ar_i2l C dX11_span_131 ?_
    refine ar_topl (sgp p e 0) rfl ?_
    refine ar_iload_n (n := 6) C dX11_span_132 rfl rfl ?_
    refine ar_iload (n := 0) C dX11_span_133 rfl ?_
    refine ar_iload_n (n := 7) C dX11_span_135 rfl rfl ?_
    refine ar_imul C dX11_span_136 ?_
    refine ar_iadd C dX11_span_137 ?_
    refine ar_i2l C dX11_span_138 ?_
    refine ar_topl (sgp q e 0) rfl ?_
    refine cV1q (ar := [.ref 94, .ref 95, .long (sgp p e 0), .long (sgp q e 0)]) (st := []) C lkX11_284 kd_18 (k_sightE M M_5 h_6.2.2 (sgp p e 0) (sgp q e 0)) (by decide) rfl (Nat.le_of_ble_eq_true rfl) rfl dX11_span_139 (fun M_10 h_11 => ?_)
    refine ar_if_neB (tgt := 149) C dX11_span_142 (by decide) (fun c_12 => ?_) (fun c_12 => ?_)
    · refine ar_aload_n (n := 4) C dX11_span_149 rfl rfl ?_
      refine ar_getr C flX11_68 rfl kd_0 rf_0_9 dX11_span_150 ?_
      refine ar_getl C flX11_289 kd_18 dX11_span_153 ?_
      refine ar_topl (g_up (M.1 94) (M.1 95) (sgp p e 0) (sgp q e 0)) h_11.2.1 ?_
      refine ar_aload_n (n := 4) C dX11_span_156 rfl rfl ?_
      refine ar_getr C flX11_68 rfl kd_0 rf_0_9 dX11_span_157 ?_
      refine ar_getl C flX11_293 kd_18 dX11_span_160 ?_
      refine ar_topl (g_lo (M.1 94) (M.1 95) (sgp p e 0) (sgp q e 0)) h_11.1 ?_
      refine cS1 (ar := [.long (g_up (M.1 94) (M.1 95) (sgp p e 0) (sgp q e 0)), .long (g_lo (M.1 94) (M.1 95) (sgp p e 0) (sgp q e 0))]) (st := []) C lkX11_300 (k_lby M_10 (g_up (M.1 94) (M.1 95) (sgp p e 0) (sgp q e 0)) (g_lo (M.1 94) (M.1 95) (sgp p e 0) (sgp q e 0))) (by decide) rfl (Nat.le_of_ble_eq_true rfl) rfl dX11_span_163 ?_
      refine ar_topl (vP (M.1 94) (M.1 95) p q e 0) (vP_eq _ _ _ _ _ 0) ?_
      refine ar_lstore (als' := [(11, .long (vP (M.1 94) (M.1 95) p q e 0)), (10, .int (-1)), (9, .int (-1)), (7, .long (f_lby (g_up (M.1 94) (M.1 95) p.toInt64 q.toInt64) (g_lo (M.1 94) (M.1 95) p.toInt64 q.toInt64))), (5, .long (f_lby (g_up (M.1 94) (M.1 95) p.toInt64 q.toInt64) (g_lo (M.1 94) (M.1 95) p.toInt64 q.toInt64))), (0, .ref 0), (1, .int p), (2, .int q), (3, .int e), (4, .int 1)]) C dX11_span_166 (by decide) rfl ?_
      refine ar_lload (n := 4) C dX11_span_168 rfl ?_
      refine ar_lload (n := 0) C dX11_span_170 rfl ?_
      refine cS1 (ar := [.long (f_lby (g_up (M.1 94) (M.1 95) p.toInt64 q.toInt64) (g_lo (M.1 94) (M.1 95) p.toInt64 q.toInt64)), .long (vP (M.1 94) (M.1 95) p q e 0)]) (st := []) C lkX11_303 (k_lmin M_10 (f_lby (g_up (M.1 94) (M.1 95) p.toInt64 q.toInt64) (g_lo (M.1 94) (M.1 95) p.toInt64 q.toInt64)) (vP (M.1 94) (M.1 95) p q e 0)) (by decide) rfl (Nat.le_of_ble_eq_true rfl) rfl dX11_span_172 ?_
      refine ar_topl (fold f_lmin (f_lby (g_up (M.1 94) (M.1 95) p.toInt64 q.toInt64) (g_lo (M.1 94) (M.1 95) p.toInt64 q.toInt64)) (vP (M.1 94) (M.1 95) p q e) 1) (fold_1 _ _ _) ?_
      refine ar_lstore (als' := [(5, .long (fold f_lmin (f_lby (g_up (M.1 94) (M.1 95) p.toInt64 q.toInt64) (g_lo (M.1 94) (M.1 95) p.toInt64 q.toInt64)) (vP (M.1 94) (M.1 95) p q e) 1)), (11, .long (vP (M.1 94) (M.1 95) p q e 0)), (10, .int (-1)), (9, .int (-1)), (7, .long (f_lby (g_up (M.1 94) (M.1 95) p.toInt64 q.toInt64) (g_lo (M.1 94) (M.1 95) p.toInt64 q.toInt64))), (0, .ref 0), (1, .int p), (2, .int q), (3, .int e), (4, .int 1)]) C dX11_span_175 (by decide) rfl ?_
      refine ar_lload (n := 4) C dX11_span_177 rfl ?_
      refine ar_lload (n := 1) C dX11_span_179 rfl ?_
      refine cS1 (ar := [.long (f_lby (g_up (M.1 94) (M.1 95) p.toInt64 q.toInt64) (g_lo (M.1 94) (M.1 95) p.toInt64 q.toInt64)), .long (vP (M.1 94) (M.1 95) p q e 0)]) (st := []) C lkX11_308 (k_lmax M_10 (f_lby (g_up (M.1 94) (M.1 95) p.toInt64 q.toInt64) (g_lo (M.1 94) (M.1 95) p.toInt64 q.toInt64)) (vP (M.1 94) (M.1 95) p q e 0)) (by decide) rfl (Nat.le_of_ble_eq_true rfl) rfl dX11_span_181 ?_
      refine ar_topl (fold f_lmax (f_lby (g_up (M.1 94) (M.1 95) p.toInt64 q.toInt64) (g_lo (M.1 94) (M.1 95) p.toInt64 q.toInt64)) (vP (M.1 94) (M.1 95) p q e) 1) (fold_1 _ _ _) ?_
      refine ar_lstore (als' := [(7, .long (fold f_lmax (f_lby (g_up (M.1 94) (M.1 95) p.toInt64 q.toInt64) (g_lo (M.1 94) (M.1 95) p.toInt64 q.toInt64)) (vP (M.1 94) (M.1 95) p q e) 1)), (5, .long (fold f_lmin (f_lby (g_up (M.1 94) (M.1 95) p.toInt64 q.toInt64) (g_lo (M.1 94) (M.1 95) p.toInt64 q.toInt64)) (vP (M.1 94) (M.1 95) p q e) 1)), (11, .long (vP (M.1 94) (M.1 95) p q e 0)), (10, .int (-1)), (9, .int (-1)), (0, .ref 0), (1, .int p), (2, .int q), (3, .int e), (4, .int 1)]) C dX11_span_184 (by decide) rfl ?_
      refine ar_iinc (n := 3) (v := 0) (als' := [(10, .int 0), (7, .long (fold f_lmax (f_lby (g_up (M.1 94) (M.1 95) p.toInt64 q.toInt64) (g_lo (M.1 94) (M.1 95) p.toInt64 q.toInt64)) (vP (M.1 94) (M.1 95) p q e) 1)), (5, .long (fold f_lmin (f_lby (g_up (M.1 94) (M.1 95) p.toInt64 q.toInt64) (g_lo (M.1 94) (M.1 95) p.toInt64 q.toInt64)) (vP (M.1 94) (M.1 95) p q e) 1)), (11, .long (vP (M.1 94) (M.1 95) p q e 0)), (9, .int (-1)), (0, .ref 0), (1, .int p), (2, .int q), (3, .int e), (4, .int 1)]) C dX11_span_186 rfl (by decide) (by decide) rfl ?_
      refine ar_goto (tgt := 103) C dX11_span_189 (by decide) ?_
      refine ar_iload (n := 0) C dX11_span_103 rfl ?_
      refine ar_iconst (v := 1) C dX11_span_105 (by decide) ?_
      refine ar_icmp_gt (tgt := 192) C dX11_span_106 (by decide) (fun c_13 => absurd c_13 (by decide)) (fun _ => ?_)
      refine ar_aload_n (n := 5) C dX11_span_109 rfl rfl ?_
      refine ar_getr C flX11_68 rfl kd_0 rf_0_9 dX11_span_110 ?_
      refine ar_aload_n (n := 5) C dX11_span_113 rfl rfl ?_
      refine ar_getr C flX11_61 rfl kd_0 rf_0_8 dX11_span_114 ?_
      refine ar_iconst (v := 0) C dX11_span_117 (by decide) ?_
      refine ar_aald (j := 0) C kd_17 (by decide) (by decide) (by decide) (by decide) rf_17_0 dX11_span_118 ?_
      refine ar_aload_n (n := 5) C dX11_span_119 rfl rfl ?_
      refine ar_getr C flX11_61 rfl kd_0 rf_0_8 dX11_span_120 ?_
      refine ar_iconst (v := 1) C dX11_span_123 (by decide) ?_
      refine ar_aald (j := 1) C kd_17 (by decide) (by decide) (by decide) (by decide) rf_17_1 dX11_span_124 ?_
      refine ar_iload_n (n := 6) C dX11_span_125 rfl rfl ?_
      refine ar_iload (n := 4) C dX11_span_126 rfl ?_
      refine ar_iload_n (n := 8) C dX11_span_128 rfl rfl ?_
      refine ar_imul C dX11_span_129 ?_
      refine ar_iadd C dX11_span_130 ?_
      refine ar_i2l C dX11_span_131 ?_
      refine ar_topl (sgp p e 0) rfl ?_
      refine ar_iload_n (n := 7) C dX11_span_132 rfl rfl ?_
      refine ar_iload (n := 0) C dX11_span_133 rfl ?_
      refine ar_iload_n (n := 8) C dX11_span_135 rfl rfl ?_
      refine ar_imul C dX11_span_136 ?_
      refine ar_iadd C dX11_span_137 ?_
      refine ar_i2l C dX11_span_138 ?_
      refine ar_topl (sgp q e 1) rfl ?_
      refine cV1q (ar := [.ref 94, .ref 95, .long (sgp p e 0), .long (sgp q e 1)]) (st := []) C lkX11_284 kd_18 (k_sightE M M_10 h_11.2.2 (sgp p e 0) (sgp q e 1)) (by decide) rfl (Nat.le_of_ble_eq_true rfl) rfl dX11_span_139 (fun M_14 h_15 => ?_)
      refine ar_if_neB (tgt := 149) C dX11_span_142 (by decide) (fun c_16 => ?_) (fun c_16 => ?_)
      · refine ar_aload_n (n := 5) C dX11_span_149 rfl rfl ?_
        refine ar_getr C flX11_68 rfl kd_0 rf_0_9 dX11_span_150 ?_
        refine ar_getl C flX11_289 kd_18 dX11_span_153 ?_
        refine ar_topl (g_up (M.1 94) (M.1 95) (sgp p e 0) (sgp q e 1)) h_15.2.1 ?_
        refine ar_aload_n (n := 5) C dX11_span_156 rfl rfl ?_
        refine ar_getr C flX11_68 rfl kd_0 rf_0_9 dX11_span_157 ?_
        refine ar_getl C flX11_293 kd_18 dX11_span_160 ?_
        refine ar_topl (g_lo (M.1 94) (M.1 95) (sgp p e 0) (sgp q e 1)) h_15.1 ?_
        refine cS1 (ar := [.long (g_up (M.1 94) (M.1 95) (sgp p e 0) (sgp q e 1)), .long (g_lo (M.1 94) (M.1 95) (sgp p e 0) (sgp q e 1))]) (st := []) C lkX11_300 (k_lby M_14 (g_up (M.1 94) (M.1 95) (sgp p e 0) (sgp q e 1)) (g_lo (M.1 94) (M.1 95) (sgp p e 0) (sgp q e 1))) (by decide) rfl (Nat.le_of_ble_eq_true rfl) rfl dX11_span_163 ?_
        refine ar_topl (vP (M.1 94) (M.1 95) p q e 1) (vP_eq _ _ _ _ _ 1) ?_
        refine ar_lstore (als' := [(11, .long (vP (M.1 94) (M.1 95) p q e 1)), (10, .int 0), (7, .long (fold f_lmax (f_lby (g_up (M.1 94) (M.1 95) p.toInt64 q.toInt64) (g_lo (M.1 94) (M.1 95) p.toInt64 q.toInt64)) (vP (M.1 94) (M.1 95) p q e) 1)), (5, .long (fold f_lmin (f_lby (g_up (M.1 94) (M.1 95) p.toInt64 q.toInt64) (g_lo (M.1 94) (M.1 95) p.toInt64 q.toInt64)) (vP (M.1 94) (M.1 95) p q e) 1)), (9, .int (-1)), (0, .ref 0), (1, .int p), (2, .int q), (3, .int e), (4, .int 1)]) C dX11_span_166 (by decide) rfl ?_
        refine ar_lload (n := 3) C dX11_span_168 rfl ?_
        refine ar_lload (n := 0) C dX11_span_170 rfl ?_
        refine cS1 (ar := [.long (fold f_lmin (f_lby (g_up (M.1 94) (M.1 95) p.toInt64 q.toInt64) (g_lo (M.1 94) (M.1 95) p.toInt64 q.toInt64)) (vP (M.1 94) (M.1 95) p q e) 1), .long (vP (M.1 94) (M.1 95) p q e 1)]) (st := []) C lkX11_303 (k_lmin M_14 (fold f_lmin (f_lby (g_up (M.1 94) (M.1 95) p.toInt64 q.toInt64) (g_lo (M.1 94) (M.1 95) p.toInt64 q.toInt64)) (vP (M.1 94) (M.1 95) p q e) 1) (vP (M.1 94) (M.1 95) p q e 1)) (by decide) rfl (Nat.le_of_ble_eq_true rfl) rfl dX11_span_172 ?_
        refine ar_topl (fold f_lmin (f_lby (g_up (M.1 94) (M.1 95) p.toInt64 q.toInt64) (g_lo (M.1 94) (M.1 95) p.toInt64 q.toInt64)) (vP (M.1 94) (M.1 95) p q e) 2) (fold_s _ _ _ 1) ?_
        refine ar_lstore (als' := [(5, .long (fold f_lmin (f_lby (g_up (M.1 94) (M.1 95) p.toInt64 q.toInt64) (g_lo (M.1 94) (M.1 95) p.toInt64 q.toInt64)) (vP (M.1 94) (M.1 95) p q e) 2)), (11, .long (vP (M.1 94) (M.1 95) p q e 1)), (10, .int 0), (7, .long (fold f_lmax (f_lby (g_up (M.1 94) (M.1 95) p.toInt64 q.toInt64) (g_lo (M.1 94) (M.1 95) p.toInt64 q.toInt64)) (vP (M.1 94) (M.1 95) p q e) 1)), (9, .int (-1)), (0, .ref 0), (1, .int p), (2, .int q), (3, .int e), (4, .int 1)]) C dX11_span_175 (by decide) rfl ?_
        refine ar_lload (n := 3) C dX11_span_177 rfl ?_
        refine ar_lload (n := 1) C dX11_span_179 rfl ?_
        refine cS1 (ar := [.long (fold f_lmax (f_lby (g_up (M.1 94) (M.1 95) p.toInt64 q.toInt64) (g_lo (M.1 94) (M.1 95) p.toInt64 q.toInt64)) (vP (M.1 94) (M.1 95) p q e) 1), .long (vP (M.1 94) (M.1 95) p q e 1)]) (st := []) C lkX11_308 (k_lmax M_14 (fold f_lmax (f_lby (g_up (M.1 94) (M.1 95) p.toInt64 q.toInt64) (g_lo (M.1 94) (M.1 95) p.toInt64 q.toInt64)) (vP (M.1 94) (M.1 95) p q e) 1) (vP (M.1 94) (M.1 95) p q e 1)) (by decide) rfl (Nat.le_of_ble_eq_true rfl) rfl dX11_span_181 ?_
        refine ar_topl (fold f_lmax (f_lby (g_up (M.1 94) (M.1 95) p.toInt64 q.toInt64) (g_lo (M.1 94) (M.1 95) p.toInt64 q.toInt64)) (vP (M.1 94) (M.1 95) p q e) 2) (fold_s _ _ _ 1) ?_
        refine ar_lstore (als' := [(7, .long (fold f_lmax (f_lby (g_up (M.1 94) (M.1 95) p.toInt64 q.toInt64) (g_lo (M.1 94) (M.1 95) p.toInt64 q.toInt64)) (vP (M.1 94) (M.1 95) p q e) 2)), (5, .long (fold f_lmin (f_lby (g_up (M.1 94) (M.1 95) p.toInt64 q.toInt64) (g_lo (M.1 94) (M.1 95) p.toInt64 q.toInt64)) (vP (M.1 94) (M.1 95) p q e) 2)), (11, .long (vP (M.1 94) (M.1 95) p q e 1)), (10, .int 0), (9, .int (-1)), (0, .ref 0), (1, .int p), (2, .int q), (3, .int e), (4, .int 1)]) C dX11_span_184 (by decide) rfl ?_
        refine ar_iinc (n := 3) (v := 1) (als' := [(10, .int 1), (7, .long (fold f_lmax (f_lby (g_up (M.1 94) (M.1 95) p.toInt64 q.toInt64) (g_lo (M.1 94) (M.1 95) p.toInt64 q.toInt64)) (vP (M.1 94) (M.1 95) p q e) 2)), (5, .long (fold f_lmin (f_lby (g_up (M.1 94) (M.1 95) p.toInt64 q.toInt64) (g_lo (M.1 94) (M.1 95) p.toInt64 q.toInt64)) (vP (M.1 94) (M.1 95) p q e) 2)), (11, .long (vP (M.1 94) (M.1 95) p q e 1)), (9, .int (-1)), (0, .ref 0), (1, .int p), (2, .int q), (3, .int e), (4, .int 1)]) C dX11_span_186 rfl (by decide) (by decide) rfl ?_
        refine ar_goto (tgt := 103) C dX11_span_189 (by decide) ?_
        refine ar_iload (n := 0) C dX11_span_103 rfl ?_
        refine ar_iconst (v := 1) C dX11_span_105 (by decide) ?_
        refine ar_icmp_gt (tgt := 192) C dX11_span_106 (by decide) (fun c_17 => absurd c_17 (by decide)) (fun _ => ?_)
        refine ar_aload_n (n := 5) C dX11_span_109 rfl rfl ?_
        refine ar_getr C flX11_68 rfl kd_0 rf_0_9 dX11_span_110 ?_
        refine ar_aload_n (n := 5) C dX11_span_113 rfl rfl ?_
        refine ar_getr C flX11_61 rfl kd_0 rf_0_8 dX11_span_114 ?_
        refine ar_iconst (v := 0) C dX11_span_117 (by decide) ?_
        refine ar_aald (j := 0) C kd_17 (by decide) (by decide) (by decide) (by decide) rf_17_0 dX11_span_118 ?_
        refine ar_aload_n (n := 5) C dX11_span_119 rfl rfl ?_
        refine ar_getr C flX11_61 rfl kd_0 rf_0_8 dX11_span_120 ?_
        refine ar_iconst (v := 1) C dX11_span_123 (by decide) ?_
        refine ar_aald (j := 1) C kd_17 (by decide) (by decide) (by decide) (by decide) rf_17_1 dX11_span_124 ?_
        refine ar_iload_n (n := 6) C dX11_span_125 rfl rfl ?_
        refine ar_iload (n := 4) C dX11_span_126 rfl ?_
        refine ar_iload_n (n := 8) C dX11_span_128 rfl rfl ?_
        refine ar_imul C dX11_span_129 ?_
        refine ar_iadd C dX11_span_130 ?_
        refine ar_i2l C dX11_span_131 ?_
        refine ar_topl (sgp p e 0) rfl ?_
        refine ar_iload_n (n := 7) C dX11_span_132 rfl rfl ?_
        refine ar_iload (n := 0) C dX11_span_133 rfl ?_
        refine ar_iload_n (n := 8) C dX11_span_135 rfl rfl ?_
        refine ar_imul C dX11_span_136 ?_
        refine ar_iadd C dX11_span_137 ?_
        refine ar_i2l C dX11_span_138 ?_
        refine ar_topl (sgp q e 2) rfl ?_
        refine cV1q (ar := [.ref 94, .ref 95, .long (sgp p e 0), .long (sgp q e 2)]) (st := []) C lkX11_284 kd_18 (k_sightE M M_14 h_15.2.2 (sgp p e 0) (sgp q e 2)) (by decide) rfl (Nat.le_of_ble_eq_true rfl) rfl dX11_span_139 (fun M_18 h_19 => ?_)
        refine ar_if_neB (tgt := 149) C dX11_span_142 (by decide) (fun c_20 => ?_) (fun c_20 => ?_)
        · refine ar_aload_n (n := 5) C dX11_span_149 rfl rfl ?_
          refine ar_getr C flX11_68 rfl kd_0 rf_0_9 dX11_span_150 ?_
          refine ar_getl C flX11_289 kd_18 dX11_span_153 ?_
          refine ar_topl (g_up (M.1 94) (M.1 95) (sgp p e 0) (sgp q e 2)) h_19.2.1 ?_
          refine ar_aload_n (n := 5) C dX11_span_156 rfl rfl ?_
          refine ar_getr C flX11_68 rfl kd_0 rf_0_9 dX11_span_157 ?_
          refine ar_getl C flX11_293 kd_18 dX11_span_160 ?_
          refine ar_topl (g_lo (M.1 94) (M.1 95) (sgp p e 0) (sgp q e 2)) h_19.1 ?_
          refine cS1 (ar := [.long (g_up (M.1 94) (M.1 95) (sgp p e 0) (sgp q e 2)), .long (g_lo (M.1 94) (M.1 95) (sgp p e 0) (sgp q e 2))]) (st := []) C lkX11_300 (k_lby M_18 (g_up (M.1 94) (M.1 95) (sgp p e 0) (sgp q e 2)) (g_lo (M.1 94) (M.1 95) (sgp p e 0) (sgp q e 2))) (by decide) rfl (Nat.le_of_ble_eq_true rfl) rfl dX11_span_163 ?_
          refine ar_topl (vP (M.1 94) (M.1 95) p q e 2) (vP_eq _ _ _ _ _ 2) ?_
          refine ar_lstore (als' := [(11, .long (vP (M.1 94) (M.1 95) p q e 2)), (10, .int 1), (7, .long (fold f_lmax (f_lby (g_up (M.1 94) (M.1 95) p.toInt64 q.toInt64) (g_lo (M.1 94) (M.1 95) p.toInt64 q.toInt64)) (vP (M.1 94) (M.1 95) p q e) 2)), (5, .long (fold f_lmin (f_lby (g_up (M.1 94) (M.1 95) p.toInt64 q.toInt64) (g_lo (M.1 94) (M.1 95) p.toInt64 q.toInt64)) (vP (M.1 94) (M.1 95) p q e) 2)), (9, .int (-1)), (0, .ref 0), (1, .int p), (2, .int q), (3, .int e), (4, .int 1)]) C dX11_span_166 (by decide) rfl ?_
          refine ar_lload (n := 3) C dX11_span_168 rfl ?_
          refine ar_lload (n := 0) C dX11_span_170 rfl ?_
          refine cS1 (ar := [.long (fold f_lmin (f_lby (g_up (M.1 94) (M.1 95) p.toInt64 q.toInt64) (g_lo (M.1 94) (M.1 95) p.toInt64 q.toInt64)) (vP (M.1 94) (M.1 95) p q e) 2), .long (vP (M.1 94) (M.1 95) p q e 2)]) (st := []) C lkX11_303 (k_lmin M_18 (fold f_lmin (f_lby (g_up (M.1 94) (M.1 95) p.toInt64 q.toInt64) (g_lo (M.1 94) (M.1 95) p.toInt64 q.toInt64)) (vP (M.1 94) (M.1 95) p q e) 2) (vP (M.1 94) (M.1 95) p q e 2)) (by decide) rfl (Nat.le_of_ble_eq_true rfl) rfl dX11_span_172 ?_
          refine ar_topl (fold f_lmin (f_lby (g_up (M.1 94) (M.1 95) p.toInt64 q.toInt64) (g_lo (M.1 94) (M.1 95) p.toInt64 q.toInt64)) (vP (M.1 94) (M.1 95) p q e) 3) (fold_s _ _ _ 2) ?_
          refine ar_lstore (als' := [(5, .long (fold f_lmin (f_lby (g_up (M.1 94) (M.1 95) p.toInt64 q.toInt64) (g_lo (M.1 94) (M.1 95) p.toInt64 q.toInt64)) (vP (M.1 94) (M.1 95) p q e) 3)), (11, .long (vP (M.1 94) (M.1 95) p q e 2)), (10, .int 1), (7, .long (fold f_lmax (f_lby (g_up (M.1 94) (M.1 95) p.toInt64 q.toInt64) (g_lo (M.1 94) (M.1 95) p.toInt64 q.toInt64)) (vP (M.1 94) (M.1 95) p q e) 2)), (9, .int (-1)), (0, .ref 0), (1, .int p), (2, .int q), (3, .int e), (4, .int 1)]) C dX11_span_175 (by decide) rfl ?_
          refine ar_lload (n := 3) C dX11_span_177 rfl ?_
          refine ar_lload (n := 1) C dX11_span_179 rfl ?_
          refine cS1 (ar := [.long (fold f_lmax (f_lby (g_up (M.1 94) (M.1 95) p.toInt64 q.toInt64) (g_lo (M.1 94) (M.1 95) p.toInt64 q.toInt64)) (vP (M.1 94) (M.1 95) p q e) 2), .long (vP (M.1 94) (M.1 95) p q e 2)]) (st := []) C lkX11_308 (k_lmax M_18 (fold f_lmax (f_lby (g_up (M.1 94) (M.1 95) p.toInt64 q.toInt64) (g_lo (M.1 94) (M.1 95) p.toInt64 q.toInt64)) (vP (M.1 94) (M.1 95) p q e) 2) (vP (M.1 94) (M.1 95) p q e 2)) (by decide) rfl (Nat.le_of_ble_eq_true rfl) rfl dX11_span_181 ?_
          refine ar_topl (fold f_lmax (f_lby (g_up (M.1 94) (M.1 95) p.toInt64 q.toInt64) (g_lo (M.1 94) (M.1 95) p.toInt64 q.toInt64)) (vP (M.1 94) (M.1 95) p q e) 3) (fold_s _ _ _ 2) ?_
          refine ar_lstore (als' := [(7, .long (fold f_lmax (f_lby (g_up (M.1 94) (M.1 95) p.toInt64 q.toInt64) (g_lo (M.1 94) (M.1 95) p.toInt64 q.toInt64)) (vP (M.1 94) (M.1 95) p q e) 3)), (5, .long (fold f_lmin (f_lby (g_up (M.1 94) (M.1 95) p.toInt64 q.toInt64) (g_lo (M.1 94) (M.1 95) p.toInt64 q.toInt64)) (vP (M.1 94) (M.1 95) p q e) 3)), (11, .long (vP (M.1 94) (M.1 95) p q e 2)), (10, .int 1), (9, .int (-1)), (0, .ref 0), (1, .int p), (2, .int q), (3, .int e), (4, .int 1)]) C dX11_span_184 (by decide) rfl ?_
          refine ar_iinc (n := 3) (v := 2) (als' := [(10, .int 2), (7, .long (fold f_lmax (f_lby (g_up (M.1 94) (M.1 95) p.toInt64 q.toInt64) (g_lo (M.1 94) (M.1 95) p.toInt64 q.toInt64)) (vP (M.1 94) (M.1 95) p q e) 3)), (5, .long (fold f_lmin (f_lby (g_up (M.1 94) (M.1 95) p.toInt64 q.toInt64) (g_lo (M.1 94) (M.1 95) p.toInt64 q.toInt64)) (vP (M.1 94) (M.1 95) p q e) 3)), (11, .long (vP (M.1 94) (M.1 95) p q e 2)), (9, .int (-1)), (0, .ref 0), (1, .int p), (2, .int q), (3, .int e), (4, .int 1)]) C dX11_span_186 rfl (by decide) (by decide) rfl ?_
          refine ar_goto (tgt := 103) C dX11_span_189 (by decide) ?_
          refine ar_iload (n := 0) C dX11_span_103 rfl ?_
          refine ar_iconst (v := 1) C dX11_span_105 (by decide) ?_
          refine ar_icmp_gt (tgt := 192) C dX11_span_106 (by decide) (fun _ => ?_) (fun c_21 => absurd c_21 (by decide))
          refine ar_iinc (n := 4) (v := 0) (als' := [(9, .int 0), (10, .int 2), (7, .long (fold f_lmax (f_lby (g_up (M.1 94) (M.1 95) p.toInt64 q.toInt64) (g_lo (M.1 94) (M.1 95) p.toInt64 q.toInt64)) (vP (M.1 94) (M.1 95) p q e) 3)), (5, .long (fold f_lmin (f_lby (g_up (M.1 94) (M.1 95) p.toInt64 q.toInt64) (g_lo (M.1 94) (M.1 95) p.toInt64 q.toInt64)) (vP (M.1 94) (M.1 95) p q e) 3)), (11, .long (vP (M.1 94) (M.1 95) p q e 2)), (0, .ref 0), (1, .int p), (2, .int q), (3, .int e), (4, .int 1)]) C dX11_span_192 rfl (by decide) (by decide) rfl ?_
          refine ar_goto (tgt := 94) C dX11_span_195 (by decide) ?_
          refine ar_iload (n := 0) C dX11_span_94 rfl ?_
          refine ar_iconst (v := 1) C dX11_span_96 (by decide) ?_
          refine ar_icmp_gt (tgt := 198) C dX11_span_97 (by decide) (fun c_22 => absurd c_22 (by decide)) (fun _ => ?_)
          refine ar_iconst (v := (-1)) C dX11_span_100 (by decide) ?_
          refine ar_istore (als' := [(10, .int (-1)), (9, .int 0), (7, .long (fold f_lmax (f_lby (g_up (M.1 94) (M.1 95) p.toInt64 q.toInt64) (g_lo (M.1 94) (M.1 95) p.toInt64 q.toInt64)) (vP (M.1 94) (M.1 95) p q e) 3)), (5, .long (fold f_lmin (f_lby (g_up (M.1 94) (M.1 95) p.toInt64 q.toInt64) (g_lo (M.1 94) (M.1 95) p.toInt64 q.toInt64)) (vP (M.1 94) (M.1 95) p q e) 3)), (11, .long (vP (M.1 94) (M.1 95) p q e 2)), (0, .ref 0), (1, .int p), (2, .int q), (3, .int e), (4, .int 1)]) C dX11_span_101 (by decide) rfl ?_
          refine ar_iload (n := 0) C dX11_span_103 rfl ?_
          refine ar_iconst (v := 1) C dX11_span_105 (by decide) ?_
          refine ar_icmp_gt (tgt := 192) C dX11_span_106 (by decide) (fun c_23 => absurd c_23 (by decide)) (fun _ => ?_)
          refine ar_aload_n (n := 5) C dX11_span_109 rfl rfl ?_
          refine ar_getr C flX11_68 rfl kd_0 rf_0_9 dX11_span_110 ?_
          refine ar_aload_n (n := 5) C dX11_span_113 rfl rfl ?_
          refine ar_getr C flX11_61 rfl kd_0 rf_0_8 dX11_span_114 ?_
          refine ar_iconst (v := 0) C dX11_span_117 (by decide) ?_
          refine ar_aald (j := 0) C kd_17 (by decide) (by decide) (by decide) (by decide) rf_17_0 dX11_span_118 ?_
          refine ar_aload_n (n := 5) C dX11_span_119 rfl rfl ?_
          refine ar_getr C flX11_61 rfl kd_0 rf_0_8 dX11_span_120 ?_
          refine ar_iconst (v := 1) C dX11_span_123 (by decide) ?_
          refine ar_aald (j := 1) C kd_17 (by decide) (by decide) (by decide) (by decide) rf_17_1 dX11_span_124 ?_
          refine ar_iload_n (n := 6) C dX11_span_125 rfl rfl ?_
          refine ar_iload (n := 1) C dX11_span_126 rfl ?_
          refine ar_iload_n (n := 8) C dX11_span_128 rfl rfl ?_
          refine ar_imul C dX11_span_129 ?_
          refine ar_iadd C dX11_span_130 ?_
          refine ar_i2l C dX11_span_131 ?_
          refine ar_topl (sgp p e 1) rfl ?_
          refine ar_iload_n (n := 7) C dX11_span_132 rfl rfl ?_
          refine ar_iload (n := 0) C dX11_span_133 rfl ?_
          refine ar_iload_n (n := 8) C dX11_span_135 rfl rfl ?_
          refine ar_imul C dX11_span_136 ?_
          refine ar_iadd C dX11_span_137 ?_
          refine ar_i2l C dX11_span_138 ?_
          refine ar_topl (sgp q e 0) rfl ?_
          refine cV1q (ar := [.ref 94, .ref 95, .long (sgp p e 1), .long (sgp q e 0)]) (st := []) C lkX11_284 kd_18 (k_sightE M M_18 h_19.2.2 (sgp p e 1) (sgp q e 0)) (by decide) rfl (Nat.le_of_ble_eq_true rfl) rfl dX11_span_139 (fun M_24 h_25 => ?_)
          refine ar_if_neB (tgt := 149) C dX11_span_142 (by decide) (fun c_26 => ?_) (fun c_26 => ?_)
          · refine ar_aload_n (n := 5) C dX11_span_149 rfl rfl ?_
            refine ar_getr C flX11_68 rfl kd_0 rf_0_9 dX11_span_150 ?_
            refine ar_getl C flX11_289 kd_18 dX11_span_153 ?_
            refine ar_topl (g_up (M.1 94) (M.1 95) (sgp p e 1) (sgp q e 0)) h_25.2.1 ?_
            refine ar_aload_n (n := 5) C dX11_span_156 rfl rfl ?_
            refine ar_getr C flX11_68 rfl kd_0 rf_0_9 dX11_span_157 ?_
            refine ar_getl C flX11_293 kd_18 dX11_span_160 ?_
            refine ar_topl (g_lo (M.1 94) (M.1 95) (sgp p e 1) (sgp q e 0)) h_25.1 ?_
            refine cS1 (ar := [.long (g_up (M.1 94) (M.1 95) (sgp p e 1) (sgp q e 0)), .long (g_lo (M.1 94) (M.1 95) (sgp p e 1) (sgp q e 0))]) (st := []) C lkX11_300 (k_lby M_24 (g_up (M.1 94) (M.1 95) (sgp p e 1) (sgp q e 0)) (g_lo (M.1 94) (M.1 95) (sgp p e 1) (sgp q e 0))) (by decide) rfl (Nat.le_of_ble_eq_true rfl) rfl dX11_span_163 ?_
            refine ar_topl (vP (M.1 94) (M.1 95) p q e 3) (vP_eq _ _ _ _ _ 3) ?_
            refine ar_lstore (als' := [(11, .long (vP (M.1 94) (M.1 95) p q e 3)), (10, .int (-1)), (9, .int 0), (7, .long (fold f_lmax (f_lby (g_up (M.1 94) (M.1 95) p.toInt64 q.toInt64) (g_lo (M.1 94) (M.1 95) p.toInt64 q.toInt64)) (vP (M.1 94) (M.1 95) p q e) 3)), (5, .long (fold f_lmin (f_lby (g_up (M.1 94) (M.1 95) p.toInt64 q.toInt64) (g_lo (M.1 94) (M.1 95) p.toInt64 q.toInt64)) (vP (M.1 94) (M.1 95) p q e) 3)), (0, .ref 0), (1, .int p), (2, .int q), (3, .int e), (4, .int 1)]) C dX11_span_166 (by decide) rfl ?_
            refine ar_lload (n := 4) C dX11_span_168 rfl ?_
            refine ar_lload (n := 0) C dX11_span_170 rfl ?_
            refine cS1 (ar := [.long (fold f_lmin (f_lby (g_up (M.1 94) (M.1 95) p.toInt64 q.toInt64) (g_lo (M.1 94) (M.1 95) p.toInt64 q.toInt64)) (vP (M.1 94) (M.1 95) p q e) 3), .long (vP (M.1 94) (M.1 95) p q e 3)]) (st := []) C lkX11_303 (k_lmin M_24 (fold f_lmin (f_lby (g_up (M.1 94) (M.1 95) p.toInt64 q.toInt64) (g_lo (M.1 94) (M.1 95) p.toInt64 q.toInt64)) (vP (M.1 94) (M.1 95) p q e) 3) (vP (M.1 94) (M.1 95) p q e 3)) (by decide) rfl (Nat.le_of_ble_eq_true rfl) rfl dX11_span_172 ?_
            refine ar_topl (fold f_lmin (f_lby (g_up (M.1 94) (M.1 95) p.toInt64 q.toInt64) (g_lo (M.1 94) (M.1 95) p.toInt64 q.toInt64)) (vP (M.1 94) (M.1 95) p q e) 4) (fold_s _ _ _ 3) ?_
            refine ar_lstore (als' := [(5, .long (fold f_lmin (f_lby (g_up (M.1 94) (M.1 95) p.toInt64 q.toInt64) (g_lo (M.1 94) (M.1 95) p.toInt64 q.toInt64)) (vP (M.1 94) (M.1 95) p q e) 4)), (11, .long (vP (M.1 94) (M.1 95) p q e 3)), (10, .int (-1)), (9, .int 0), (7, .long (fold f_lmax (f_lby (g_up (M.1 94) (M.1 95) p.toInt64 q.toInt64) (g_lo (M.1 94) (M.1 95) p.toInt64 q.toInt64)) (vP (M.1 94) (M.1 95) p q e) 3)), (0, .ref 0), (1, .int p), (2, .int q), (3, .int e), (4, .int 1)]) C dX11_span_175 (by decide) rfl ?_
            refine ar_lload (n := 4) C dX11_span_177 rfl ?_
            refine ar_lload (n := 1) C dX11_span_179 rfl ?_
            refine cS1 (ar := [.long (fold f_lmax (f_lby (g_up (M.1 94) (M.1 95) p.toInt64 q.toInt64) (g_lo (M.1 94) (M.1 95) p.toInt64 q.toInt64)) (vP (M.1 94) (M.1 95) p q e) 3), .long (vP (M.1 94) (M.1 95) p q e 3)]) (st := []) C lkX11_308 (k_lmax M_24 (fold f_lmax (f_lby (g_up (M.1 94) (M.1 95) p.toInt64 q.toInt64) (g_lo (M.1 94) (M.1 95) p.toInt64 q.toInt64)) (vP (M.1 94) (M.1 95) p q e) 3) (vP (M.1 94) (M.1 95) p q e 3)) (by decide) rfl (Nat.le_of_ble_eq_true rfl) rfl dX11_span_181 ?_
            refine ar_topl (fold f_lmax (f_lby (g_up (M.1 94) (M.1 95) p.toInt64 q.toInt64) (g_lo (M.1 94) (M.1 95) p.toInt64 q.toInt64)) (vP (M.1 94) (M.1 95) p q e) 4) (fold_s _ _ _ 3) ?_
            refine ar_lstore (als' := [(7, .long (fold f_lmax (f_lby (g_up (M.1 94) (M.1 95) p.toInt64 q.toInt64) (g_lo (M.1 94) (M.1 95) p.toInt64 q.toInt64)) (vP (M.1 94) (M.1 95) p q e) 4)), (5, .long (fold f_lmin (f_lby (g_up (M.1 94) (M.1 95) p.toInt64 q.toInt64) (g_lo (M.1 94) (M.1 95) p.toInt64 q.toInt64)) (vP (M.1 94) (M.1 95) p q e) 4)), (11, .long (vP (M.1 94) (M.1 95) p q e 3)), (10, .int (-1)), (9, .int 0), (0, .ref 0), (1, .int p), (2, .int q), (3, .int e), (4, .int 1)]) C dX11_span_184 (by decide) rfl ?_
            refine ar_iinc (n := 3) (v := 0) (als' := [(10, .int 0), (7, .long (fold f_lmax (f_lby (g_up (M.1 94) (M.1 95) p.toInt64 q.toInt64) (g_lo (M.1 94) (M.1 95) p.toInt64 q.toInt64)) (vP (M.1 94) (M.1 95) p q e) 4)), (5, .long (fold f_lmin (f_lby (g_up (M.1 94) (M.1 95) p.toInt64 q.toInt64) (g_lo (M.1 94) (M.1 95) p.toInt64 q.toInt64)) (vP (M.1 94) (M.1 95) p q e) 4)), (11, .long (vP (M.1 94) (M.1 95) p q e 3)), (9, .int 0), (0, .ref 0), (1, .int p), (2, .int q), (3, .int e), (4, .int 1)]) C dX11_span_186 rfl (by decide) (by decide) rfl ?_
            refine ar_goto (tgt := 103) C dX11_span_189 (by decide) ?_
            refine ar_iload (n := 0) C dX11_span_103 rfl ?_
            refine ar_iconst (v := 1) C dX11_span_105 (by decide) ?_
            refine ar_icmp_gt (tgt := 192) C dX11_span_106 (by decide) (fun c_27 => absurd c_27 (by decide)) (fun _ => ?_)
            refine ar_aload_n (n := 5) C dX11_span_109 rfl rfl ?_
            refine ar_getr C flX11_68 rfl kd_0 rf_0_9 dX11_span_110 ?_
            refine ar_aload_n (n := 5) C dX11_span_113 rfl rfl ?_
            refine ar_getr C flX11_61 rfl kd_0 rf_0_8 dX11_span_114 ?_
            refine ar_iconst (v := 0) C dX11_span_117 (by decide) ?_
            refine ar_aald (j := 0) C kd_17 (by decide) (by decide) (by decide) (by decide) rf_17_0 dX11_span_118 ?_
            refine ar_aload_n (n := 5) C dX11_span_119 rfl rfl ?_
            refine ar_getr C flX11_61 rfl kd_0 rf_0_8 dX11_span_120 ?_
            refine ar_iconst (v := 1) C dX11_span_123 (by decide) ?_
            refine ar_aald (j := 1) C kd_17 (by decide) (by decide) (by decide) (by decide) rf_17_1 dX11_span_124 ?_
            refine ar_iload_n (n := 6) C dX11_span_125 rfl rfl ?_
            refine ar_iload (n := 4) C dX11_span_126 rfl ?_
            refine ar_iload_n (n := 8) C dX11_span_128 rfl rfl ?_
            refine ar_imul C dX11_span_129 ?_
            refine ar_iadd C dX11_span_130 ?_
            refine ar_i2l C dX11_span_131 ?_
            refine ar_topl (sgp p e 1) rfl ?_
            refine ar_iload_n (n := 7) C dX11_span_132 rfl rfl ?_
            refine ar_iload (n := 0) C dX11_span_133 rfl ?_
            refine ar_iload_n (n := 8) C dX11_span_135 rfl rfl ?_
            refine ar_imul C dX11_span_136 ?_
            refine ar_iadd C dX11_span_137 ?_
            refine ar_i2l C dX11_span_138 ?_
            refine ar_topl (sgp q e 1) rfl ?_
            refine cV1q (ar := [.ref 94, .ref 95, .long (sgp p e 1), .long (sgp q e 1)]) (st := []) C lkX11_284 kd_18 (k_sightE M M_24 h_25.2.2 (sgp p e 1) (sgp q e 1)) (by decide) rfl (Nat.le_of_ble_eq_true rfl) rfl dX11_span_139 (fun M_28 h_29 => ?_)
            refine ar_if_neB (tgt := 149) C dX11_span_142 (by decide) (fun c_30 => ?_) (fun c_30 => ?_)
            · refine ar_aload_n (n := 5) C dX11_span_149 rfl rfl ?_
              refine ar_getr C flX11_68 rfl kd_0 rf_0_9 dX11_span_150 ?_
              refine ar_getl C flX11_289 kd_18 dX11_span_153 ?_
              refine ar_topl (g_up (M.1 94) (M.1 95) (sgp p e 1) (sgp q e 1)) h_29.2.1 ?_
              refine ar_aload_n (n := 5) C dX11_span_156 rfl rfl ?_
              refine ar_getr C flX11_68 rfl kd_0 rf_0_9 dX11_span_157 ?_
              refine ar_getl C flX11_293 kd_18 dX11_span_160 ?_
              refine ar_topl (g_lo (M.1 94) (M.1 95) (sgp p e 1) (sgp q e 1)) h_29.1 ?_
              refine cS1 (ar := [.long (g_up (M.1 94) (M.1 95) (sgp p e 1) (sgp q e 1)), .long (g_lo (M.1 94) (M.1 95) (sgp p e 1) (sgp q e 1))]) (st := []) C lkX11_300 (k_lby M_28 (g_up (M.1 94) (M.1 95) (sgp p e 1) (sgp q e 1)) (g_lo (M.1 94) (M.1 95) (sgp p e 1) (sgp q e 1))) (by decide) rfl (Nat.le_of_ble_eq_true rfl) rfl dX11_span_163 ?_
              refine ar_topl (vP (M.1 94) (M.1 95) p q e 4) (vP_eq _ _ _ _ _ 4) ?_
              refine ar_lstore (als' := [(11, .long (vP (M.1 94) (M.1 95) p q e 4)), (10, .int 0), (7, .long (fold f_lmax (f_lby (g_up (M.1 94) (M.1 95) p.toInt64 q.toInt64) (g_lo (M.1 94) (M.1 95) p.toInt64 q.toInt64)) (vP (M.1 94) (M.1 95) p q e) 4)), (5, .long (fold f_lmin (f_lby (g_up (M.1 94) (M.1 95) p.toInt64 q.toInt64) (g_lo (M.1 94) (M.1 95) p.toInt64 q.toInt64)) (vP (M.1 94) (M.1 95) p q e) 4)), (9, .int 0), (0, .ref 0), (1, .int p), (2, .int q), (3, .int e), (4, .int 1)]) C dX11_span_166 (by decide) rfl ?_
              refine ar_lload (n := 3) C dX11_span_168 rfl ?_
              refine ar_lload (n := 0) C dX11_span_170 rfl ?_
              refine cS1 (ar := [.long (fold f_lmin (f_lby (g_up (M.1 94) (M.1 95) p.toInt64 q.toInt64) (g_lo (M.1 94) (M.1 95) p.toInt64 q.toInt64)) (vP (M.1 94) (M.1 95) p q e) 4), .long (vP (M.1 94) (M.1 95) p q e 4)]) (st := []) C lkX11_303 (k_lmin M_28 (fold f_lmin (f_lby (g_up (M.1 94) (M.1 95) p.toInt64 q.toInt64) (g_lo (M.1 94) (M.1 95) p.toInt64 q.toInt64)) (vP (M.1 94) (M.1 95) p q e) 4) (vP (M.1 94) (M.1 95) p q e 4)) (by decide) rfl (Nat.le_of_ble_eq_true rfl) rfl dX11_span_172 ?_
              refine ar_topl (fold f_lmin (f_lby (g_up (M.1 94) (M.1 95) p.toInt64 q.toInt64) (g_lo (M.1 94) (M.1 95) p.toInt64 q.toInt64)) (vP (M.1 94) (M.1 95) p q e) 5) (fold_s _ _ _ 4) ?_
              refine ar_lstore (als' := [(5, .long (fold f_lmin (f_lby (g_up (M.1 94) (M.1 95) p.toInt64 q.toInt64) (g_lo (M.1 94) (M.1 95) p.toInt64 q.toInt64)) (vP (M.1 94) (M.1 95) p q e) 5)), (11, .long (vP (M.1 94) (M.1 95) p q e 4)), (10, .int 0), (7, .long (fold f_lmax (f_lby (g_up (M.1 94) (M.1 95) p.toInt64 q.toInt64) (g_lo (M.1 94) (M.1 95) p.toInt64 q.toInt64)) (vP (M.1 94) (M.1 95) p q e) 4)), (9, .int 0), (0, .ref 0), (1, .int p), (2, .int q), (3, .int e), (4, .int 1)]) C dX11_span_175 (by decide) rfl ?_
              refine ar_lload (n := 3) C dX11_span_177 rfl ?_
              refine ar_lload (n := 1) C dX11_span_179 rfl ?_
              refine cS1 (ar := [.long (fold f_lmax (f_lby (g_up (M.1 94) (M.1 95) p.toInt64 q.toInt64) (g_lo (M.1 94) (M.1 95) p.toInt64 q.toInt64)) (vP (M.1 94) (M.1 95) p q e) 4), .long (vP (M.1 94) (M.1 95) p q e 4)]) (st := []) C lkX11_308 (k_lmax M_28 (fold f_lmax (f_lby (g_up (M.1 94) (M.1 95) p.toInt64 q.toInt64) (g_lo (M.1 94) (M.1 95) p.toInt64 q.toInt64)) (vP (M.1 94) (M.1 95) p q e) 4) (vP (M.1 94) (M.1 95) p q e 4)) (by decide) rfl (Nat.le_of_ble_eq_true rfl) rfl dX11_span_181 ?_
              refine ar_topl (fold f_lmax (f_lby (g_up (M.1 94) (M.1 95) p.toInt64 q.toInt64) (g_lo (M.1 94) (M.1 95) p.toInt64 q.toInt64)) (vP (M.1 94) (M.1 95) p q e) 5) (fold_s _ _ _ 4) ?_
              refine ar_lstore (als' := [(7, .long (fold f_lmax (f_lby (g_up (M.1 94) (M.1 95) p.toInt64 q.toInt64) (g_lo (M.1 94) (M.1 95) p.toInt64 q.toInt64)) (vP (M.1 94) (M.1 95) p q e) 5)), (5, .long (fold f_lmin (f_lby (g_up (M.1 94) (M.1 95) p.toInt64 q.toInt64) (g_lo (M.1 94) (M.1 95) p.toInt64 q.toInt64)) (vP (M.1 94) (M.1 95) p q e) 5)), (11, .long (vP (M.1 94) (M.1 95) p q e 4)), (10, .int 0), (9, .int 0), (0, .ref 0), (1, .int p), (2, .int q), (3, .int e), (4, .int 1)]) C dX11_span_184 (by decide) rfl ?_
              refine ar_iinc (n := 3) (v := 1) (als' := [(10, .int 1), (7, .long (fold f_lmax (f_lby (g_up (M.1 94) (M.1 95) p.toInt64 q.toInt64) (g_lo (M.1 94) (M.1 95) p.toInt64 q.toInt64)) (vP (M.1 94) (M.1 95) p q e) 5)), (5, .long (fold f_lmin (f_lby (g_up (M.1 94) (M.1 95) p.toInt64 q.toInt64) (g_lo (M.1 94) (M.1 95) p.toInt64 q.toInt64)) (vP (M.1 94) (M.1 95) p q e) 5)), (11, .long (vP (M.1 94) (M.1 95) p q e 4)), (9, .int 0), (0, .ref 0), (1, .int p), (2, .int q), (3, .int e), (4, .int 1)]) C dX11_span_186 rfl (by decide) (by decide) rfl ?_
              refine ar_goto (tgt := 103) C dX11_span_189 (by decide) ?_
              refine ar_iload (n := 0) C dX11_span_103 rfl ?_
              refine ar_iconst (v := 1) C dX11_span_105 (by decide) ?_
              refine ar_icmp_gt (tgt := 192) C dX11_span_106 (by decide) (fun c_31 => absurd c_31 (by decide)) (fun _ => ?_)
              refine ar_aload_n (n := 5) C dX11_span_109 rfl rfl ?_
              refine ar_getr C flX11_68 rfl kd_0 rf_0_9 dX11_span_110 ?_
              refine ar_aload_n (n := 5) C dX11_span_113 rfl rfl ?_
              refine ar_getr C flX11_61 rfl kd_0 rf_0_8 dX11_span_114 ?_
              refine ar_iconst (v := 0) C dX11_span_117 (by decide) ?_
              refine ar_aald (j := 0) C kd_17 (by decide) (by decide) (by decide) (by decide) rf_17_0 dX11_span_118 ?_
              refine ar_aload_n (n := 5) C dX11_span_119 rfl rfl ?_
              refine ar_getr C flX11_61 rfl kd_0 rf_0_8 dX11_span_120 ?_
              refine ar_iconst (v := 1) C dX11_span_123 (by decide) ?_
              refine ar_aald (j := 1) C kd_17 (by decide) (by decide) (by decide) (by decide) rf_17_1 dX11_span_124 ?_
              refine ar_iload_n (n := 6) C dX11_span_125 rfl rfl ?_
              refine ar_iload (n := 4) C dX11_span_126 rfl ?_
              refine ar_iload_n (n := 8) C dX11_span_128 rfl rfl ?_
              refine ar_imul C dX11_span_129 ?_
              refine ar_iadd C dX11_span_130 ?_
              refine ar_i2l C dX11_span_131 ?_
              refine ar_topl (sgp p e 1) rfl ?_
              refine ar_iload_n (n := 7) C dX11_span_132 rfl rfl ?_
              refine ar_iload (n := 0) C dX11_span_133 rfl ?_
              refine ar_iload_n (n := 8) C dX11_span_135 rfl rfl ?_
              refine ar_imul C dX11_span_136 ?_
              refine ar_iadd C dX11_span_137 ?_
              refine ar_i2l C dX11_span_138 ?_
              refine ar_topl (sgp q e 2) rfl ?_
              refine cV1q (ar := [.ref 94, .ref 95, .long (sgp p e 1), .long (sgp q e 2)]) (st := []) C lkX11_284 kd_18 (k_sightE M M_28 h_29.2.2 (sgp p e 1) (sgp q e 2)) (by decide) rfl (Nat.le_of_ble_eq_true rfl) rfl dX11_span_139 (fun M_32 h_33 => ?_)
              refine ar_if_neB (tgt := 149) C dX11_span_142 (by decide) (fun c_34 => ?_) (fun c_34 => ?_)
              · refine ar_aload_n (n := 5) C dX11_span_149 rfl rfl ?_
                refine ar_getr C flX11_68 rfl kd_0 rf_0_9 dX11_span_150 ?_
                refine ar_getl C flX11_289 kd_18 dX11_span_153 ?_
                refine ar_topl (g_up (M.1 94) (M.1 95) (sgp p e 1) (sgp q e 2)) h_33.2.1 ?_
                refine ar_aload_n (n := 5) C dX11_span_156 rfl rfl ?_
                refine ar_getr C flX11_68 rfl kd_0 rf_0_9 dX11_span_157 ?_
                refine ar_getl C flX11_293 kd_18 dX11_span_160 ?_
                refine ar_topl (g_lo (M.1 94) (M.1 95) (sgp p e 1) (sgp q e 2)) h_33.1 ?_
                refine cS1 (ar := [.long (g_up (M.1 94) (M.1 95) (sgp p e 1) (sgp q e 2)), .long (g_lo (M.1 94) (M.1 95) (sgp p e 1) (sgp q e 2))]) (st := []) C lkX11_300 (k_lby M_32 (g_up (M.1 94) (M.1 95) (sgp p e 1) (sgp q e 2)) (g_lo (M.1 94) (M.1 95) (sgp p e 1) (sgp q e 2))) (by decide) rfl (Nat.le_of_ble_eq_true rfl) rfl dX11_span_163 ?_
                refine ar_topl (vP (M.1 94) (M.1 95) p q e 5) (vP_eq _ _ _ _ _ 5) ?_
                refine ar_lstore (als' := [(11, .long (vP (M.1 94) (M.1 95) p q e 5)), (10, .int 1), (7, .long (fold f_lmax (f_lby (g_up (M.1 94) (M.1 95) p.toInt64 q.toInt64) (g_lo (M.1 94) (M.1 95) p.toInt64 q.toInt64)) (vP (M.1 94) (M.1 95) p q e) 5)), (5, .long (fold f_lmin (f_lby (g_up (M.1 94) (M.1 95) p.toInt64 q.toInt64) (g_lo (M.1 94) (M.1 95) p.toInt64 q.toInt64)) (vP (M.1 94) (M.1 95) p q e) 5)), (9, .int 0), (0, .ref 0), (1, .int p), (2, .int q), (3, .int e), (4, .int 1)]) C dX11_span_166 (by decide) rfl ?_
                refine ar_lload (n := 3) C dX11_span_168 rfl ?_
                refine ar_lload (n := 0) C dX11_span_170 rfl ?_
                refine cS1 (ar := [.long (fold f_lmin (f_lby (g_up (M.1 94) (M.1 95) p.toInt64 q.toInt64) (g_lo (M.1 94) (M.1 95) p.toInt64 q.toInt64)) (vP (M.1 94) (M.1 95) p q e) 5), .long (vP (M.1 94) (M.1 95) p q e 5)]) (st := []) C lkX11_303 (k_lmin M_32 (fold f_lmin (f_lby (g_up (M.1 94) (M.1 95) p.toInt64 q.toInt64) (g_lo (M.1 94) (M.1 95) p.toInt64 q.toInt64)) (vP (M.1 94) (M.1 95) p q e) 5) (vP (M.1 94) (M.1 95) p q e 5)) (by decide) rfl (Nat.le_of_ble_eq_true rfl) rfl dX11_span_172 ?_
                refine ar_topl (fold f_lmin (f_lby (g_up (M.1 94) (M.1 95) p.toInt64 q.toInt64) (g_lo (M.1 94) (M.1 95) p.toInt64 q.toInt64)) (vP (M.1 94) (M.1 95) p q e) 6) (fold_s _ _ _ 5) ?_
                refine ar_lstore (als' := [(5, .long (fold f_lmin (f_lby (g_up (M.1 94) (M.1 95) p.toInt64 q.toInt64) (g_lo (M.1 94) (M.1 95) p.toInt64 q.toInt64)) (vP (M.1 94) (M.1 95) p q e) 6)), (11, .long (vP (M.1 94) (M.1 95) p q e 5)), (10, .int 1), (7, .long (fold f_lmax (f_lby (g_up (M.1 94) (M.1 95) p.toInt64 q.toInt64) (g_lo (M.1 94) (M.1 95) p.toInt64 q.toInt64)) (vP (M.1 94) (M.1 95) p q e) 5)), (9, .int 0), (0, .ref 0), (1, .int p), (2, .int q), (3, .int e), (4, .int 1)]) C dX11_span_175 (by decide) rfl ?_
                refine ar_lload (n := 3) C dX11_span_177 rfl ?_
                refine ar_lload (n := 1) C dX11_span_179 rfl ?_
                refine cS1 (ar := [.long (fold f_lmax (f_lby (g_up (M.1 94) (M.1 95) p.toInt64 q.toInt64) (g_lo (M.1 94) (M.1 95) p.toInt64 q.toInt64)) (vP (M.1 94) (M.1 95) p q e) 5), .long (vP (M.1 94) (M.1 95) p q e 5)]) (st := []) C lkX11_308 (k_lmax M_32 (fold f_lmax (f_lby (g_up (M.1 94) (M.1 95) p.toInt64 q.toInt64) (g_lo (M.1 94) (M.1 95) p.toInt64 q.toInt64)) (vP (M.1 94) (M.1 95) p q e) 5) (vP (M.1 94) (M.1 95) p q e 5)) (by decide) rfl (Nat.le_of_ble_eq_true rfl) rfl dX11_span_181 ?_
                refine ar_topl (fold f_lmax (f_lby (g_up (M.1 94) (M.1 95) p.toInt64 q.toInt64) (g_lo (M.1 94) (M.1 95) p.toInt64 q.toInt64)) (vP (M.1 94) (M.1 95) p q e) 6) (fold_s _ _ _ 5) ?_
                refine ar_lstore (als' := [(7, .long (fold f_lmax (f_lby (g_up (M.1 94) (M.1 95) p.toInt64 q.toInt64) (g_lo (M.1 94) (M.1 95) p.toInt64 q.toInt64)) (vP (M.1 94) (M.1 95) p q e) 6)), (5, .long (fold f_lmin (f_lby (g_up (M.1 94) (M.1 95) p.toInt64 q.toInt64) (g_lo (M.1 94) (M.1 95) p.toInt64 q.toInt64)) (vP (M.1 94) (M.1 95) p q e) 6)), (11, .long (vP (M.1 94) (M.1 95) p q e 5)), (10, .int 1), (9, .int 0), (0, .ref 0), (1, .int p), (2, .int q), (3, .int e), (4, .int 1)]) C dX11_span_184 (by decide) rfl ?_
                refine ar_iinc (n := 3) (v := 2) (als' := [(10, .int 2), (7, .long (fold f_lmax (f_lby (g_up (M.1 94) (M.1 95) p.toInt64 q.toInt64) (g_lo (M.1 94) (M.1 95) p.toInt64 q.toInt64)) (vP (M.1 94) (M.1 95) p q e) 6)), (5, .long (fold f_lmin (f_lby (g_up (M.1 94) (M.1 95) p.toInt64 q.toInt64) (g_lo (M.1 94) (M.1 95) p.toInt64 q.toInt64)) (vP (M.1 94) (M.1 95) p q e) 6)), (11, .long (vP (M.1 94) (M.1 95) p q e 5)), (9, .int 0), (0, .ref 0), (1, .int p), (2, .int q), (3, .int e), (4, .int 1)]) C dX11_span_186 rfl (by decide) (by decide) rfl ?_
                refine ar_goto (tgt := 103) C dX11_span_189 (by decide) ?_
                refine ar_iload (n := 0) C dX11_span_103 rfl ?_
                refine ar_iconst (v := 1) C dX11_span_105 (by decide) ?_
                refine ar_icmp_gt (tgt := 192) C dX11_span_106 (by decide) (fun _ => ?_) (fun c_35 => absurd c_35 (by decide))
                refine ar_iinc (n := 4) (v := 1) (als' := [(9, .int 1), (10, .int 2), (7, .long (fold f_lmax (f_lby (g_up (M.1 94) (M.1 95) p.toInt64 q.toInt64) (g_lo (M.1 94) (M.1 95) p.toInt64 q.toInt64)) (vP (M.1 94) (M.1 95) p q e) 6)), (5, .long (fold f_lmin (f_lby (g_up (M.1 94) (M.1 95) p.toInt64 q.toInt64) (g_lo (M.1 94) (M.1 95) p.toInt64 q.toInt64)) (vP (M.1 94) (M.1 95) p q e) 6)), (11, .long (vP (M.1 94) (M.1 95) p q e 5)), (0, .ref 0), (1, .int p), (2, .int q), (3, .int e), (4, .int 1)]) C dX11_span_192 rfl (by decide) (by decide) rfl ?_
                refine ar_goto (tgt := 94) C dX11_span_195 (by decide) ?_
                refine ar_iload (n := 0) C dX11_span_94 rfl ?_
                refine ar_iconst (v := 1) C dX11_span_96 (by decide) ?_
                refine ar_icmp_gt (tgt := 198) C dX11_span_97 (by decide) (fun c_36 => absurd c_36 (by decide)) (fun _ => ?_)
                refine ar_iconst (v := (-1)) C dX11_span_100 (by decide) ?_
                refine ar_istore (als' := [(10, .int (-1)), (9, .int 1), (7, .long (fold f_lmax (f_lby (g_up (M.1 94) (M.1 95) p.toInt64 q.toInt64) (g_lo (M.1 94) (M.1 95) p.toInt64 q.toInt64)) (vP (M.1 94) (M.1 95) p q e) 6)), (5, .long (fold f_lmin (f_lby (g_up (M.1 94) (M.1 95) p.toInt64 q.toInt64) (g_lo (M.1 94) (M.1 95) p.toInt64 q.toInt64)) (vP (M.1 94) (M.1 95) p q e) 6)), (11, .long (vP (M.1 94) (M.1 95) p q e 5)), (0, .ref 0), (1, .int p), (2, .int q), (3, .int e), (4, .int 1)]) C dX11_span_101 (by decide) rfl ?_
                refine ar_iload (n := 0) C dX11_span_103 rfl ?_
                refine ar_iconst (v := 1) C dX11_span_105 (by decide) ?_
                refine ar_icmp_gt (tgt := 192) C dX11_span_106 (by decide) (fun c_37 => absurd c_37 (by decide)) (fun _ => ?_)
                refine ar_aload_n (n := 5) C dX11_span_109 rfl rfl ?_
                refine ar_getr C flX11_68 rfl kd_0 rf_0_9 dX11_span_110 ?_
                refine ar_aload_n (n := 5) C dX11_span_113 rfl rfl ?_
                refine ar_getr C flX11_61 rfl kd_0 rf_0_8 dX11_span_114 ?_
                refine ar_iconst (v := 0) C dX11_span_117 (by decide) ?_
                refine ar_aald (j := 0) C kd_17 (by decide) (by decide) (by decide) (by decide) rf_17_0 dX11_span_118 ?_
                refine ar_aload_n (n := 5) C dX11_span_119 rfl rfl ?_
                refine ar_getr C flX11_61 rfl kd_0 rf_0_8 dX11_span_120 ?_
                refine ar_iconst (v := 1) C dX11_span_123 (by decide) ?_
                refine ar_aald (j := 1) C kd_17 (by decide) (by decide) (by decide) (by decide) rf_17_1 dX11_span_124 ?_
                refine ar_iload_n (n := 6) C dX11_span_125 rfl rfl ?_
                refine ar_iload (n := 1) C dX11_span_126 rfl ?_
                refine ar_iload_n (n := 8) C dX11_span_128 rfl rfl ?_
                refine ar_imul C dX11_span_129 ?_
                refine ar_iadd C dX11_span_130 ?_
                refine ar_i2l C dX11_span_131 ?_
                refine ar_topl (sgp p e 2) rfl ?_
                refine ar_iload_n (n := 7) C dX11_span_132 rfl rfl ?_
                refine ar_iload (n := 0) C dX11_span_133 rfl ?_
                refine ar_iload_n (n := 8) C dX11_span_135 rfl rfl ?_
                refine ar_imul C dX11_span_136 ?_
                refine ar_iadd C dX11_span_137 ?_
                refine ar_i2l C dX11_span_138 ?_
                refine ar_topl (sgp q e 0) rfl ?_
                refine cV1q (ar := [.ref 94, .ref 95, .long (sgp p e 2), .long (sgp q e 0)]) (st := []) C lkX11_284 kd_18 (k_sightE M M_32 h_33.2.2 (sgp p e 2) (sgp q e 0)) (by decide) rfl (Nat.le_of_ble_eq_true rfl) rfl dX11_span_139 (fun M_38 h_39 => ?_)
                refine ar_if_neB (tgt := 149) C dX11_span_142 (by decide) (fun c_40 => ?_) (fun c_40 => ?_)
                · refine ar_aload_n (n := 5) C dX11_span_149 rfl rfl ?_
                  refine ar_getr C flX11_68 rfl kd_0 rf_0_9 dX11_span_150 ?_
                  refine ar_getl C flX11_289 kd_18 dX11_span_153 ?_
                  refine ar_topl (g_up (M.1 94) (M.1 95) (sgp p e 2) (sgp q e 0)) h_39.2.1 ?_
                  refine ar_aload_n (n := 5) C dX11_span_156 rfl rfl ?_
                  refine ar_getr C flX11_68 rfl kd_0 rf_0_9 dX11_span_157 ?_
                  refine ar_getl C flX11_293 kd_18 dX11_span_160 ?_
                  refine ar_topl (g_lo (M.1 94) (M.1 95) (sgp p e 2) (sgp q e 0)) h_39.1 ?_
                  refine cS1 (ar := [.long (g_up (M.1 94) (M.1 95) (sgp p e 2) (sgp q e 0)), .long (g_lo (M.1 94) (M.1 95) (sgp p e 2) (sgp q e 0))]) (st := []) C lkX11_300 (k_lby M_38 (g_up (M.1 94) (M.1 95) (sgp p e 2) (sgp q e 0)) (g_lo (M.1 94) (M.1 95) (sgp p e 2) (sgp q e 0))) (by decide) rfl (Nat.le_of_ble_eq_true rfl) rfl dX11_span_163 ?_
                  refine ar_topl (vP (M.1 94) (M.1 95) p q e 6) (vP_eq _ _ _ _ _ 6) ?_
                  refine ar_lstore (als' := [(11, .long (vP (M.1 94) (M.1 95) p q e 6)), (10, .int (-1)), (9, .int 1), (7, .long (fold f_lmax (f_lby (g_up (M.1 94) (M.1 95) p.toInt64 q.toInt64) (g_lo (M.1 94) (M.1 95) p.toInt64 q.toInt64)) (vP (M.1 94) (M.1 95) p q e) 6)), (5, .long (fold f_lmin (f_lby (g_up (M.1 94) (M.1 95) p.toInt64 q.toInt64) (g_lo (M.1 94) (M.1 95) p.toInt64 q.toInt64)) (vP (M.1 94) (M.1 95) p q e) 6)), (0, .ref 0), (1, .int p), (2, .int q), (3, .int e), (4, .int 1)]) C dX11_span_166 (by decide) rfl ?_
                  refine ar_lload (n := 4) C dX11_span_168 rfl ?_
                  refine ar_lload (n := 0) C dX11_span_170 rfl ?_
                  refine cS1 (ar := [.long (fold f_lmin (f_lby (g_up (M.1 94) (M.1 95) p.toInt64 q.toInt64) (g_lo (M.1 94) (M.1 95) p.toInt64 q.toInt64)) (vP (M.1 94) (M.1 95) p q e) 6), .long (vP (M.1 94) (M.1 95) p q e 6)]) (st := []) C lkX11_303 (k_lmin M_38 (fold f_lmin (f_lby (g_up (M.1 94) (M.1 95) p.toInt64 q.toInt64) (g_lo (M.1 94) (M.1 95) p.toInt64 q.toInt64)) (vP (M.1 94) (M.1 95) p q e) 6) (vP (M.1 94) (M.1 95) p q e 6)) (by decide) rfl (Nat.le_of_ble_eq_true rfl) rfl dX11_span_172 ?_
                  refine ar_topl (fold f_lmin (f_lby (g_up (M.1 94) (M.1 95) p.toInt64 q.toInt64) (g_lo (M.1 94) (M.1 95) p.toInt64 q.toInt64)) (vP (M.1 94) (M.1 95) p q e) 7) (fold_s _ _ _ 6) ?_
                  refine ar_lstore (als' := [(5, .long (fold f_lmin (f_lby (g_up (M.1 94) (M.1 95) p.toInt64 q.toInt64) (g_lo (M.1 94) (M.1 95) p.toInt64 q.toInt64)) (vP (M.1 94) (M.1 95) p q e) 7)), (11, .long (vP (M.1 94) (M.1 95) p q e 6)), (10, .int (-1)), (9, .int 1), (7, .long (fold f_lmax (f_lby (g_up (M.1 94) (M.1 95) p.toInt64 q.toInt64) (g_lo (M.1 94) (M.1 95) p.toInt64 q.toInt64)) (vP (M.1 94) (M.1 95) p q e) 6)), (0, .ref 0), (1, .int p), (2, .int q), (3, .int e), (4, .int 1)]) C dX11_span_175 (by decide) rfl ?_
                  refine ar_lload (n := 4) C dX11_span_177 rfl ?_
                  refine ar_lload (n := 1) C dX11_span_179 rfl ?_
                  refine cS1 (ar := [.long (fold f_lmax (f_lby (g_up (M.1 94) (M.1 95) p.toInt64 q.toInt64) (g_lo (M.1 94) (M.1 95) p.toInt64 q.toInt64)) (vP (M.1 94) (M.1 95) p q e) 6), .long (vP (M.1 94) (M.1 95) p q e 6)]) (st := []) C lkX11_308 (k_lmax M_38 (fold f_lmax (f_lby (g_up (M.1 94) (M.1 95) p.toInt64 q.toInt64) (g_lo (M.1 94) (M.1 95) p.toInt64 q.toInt64)) (vP (M.1 94) (M.1 95) p q e) 6) (vP (M.1 94) (M.1 95) p q e 6)) (by decide) rfl (Nat.le_of_ble_eq_true rfl) rfl dX11_span_181 ?_
                  refine ar_topl (fold f_lmax (f_lby (g_up (M.1 94) (M.1 95) p.toInt64 q.toInt64) (g_lo (M.1 94) (M.1 95) p.toInt64 q.toInt64)) (vP (M.1 94) (M.1 95) p q e) 7) (fold_s _ _ _ 6) ?_
                  refine ar_lstore (als' := [(7, .long (fold f_lmax (f_lby (g_up (M.1 94) (M.1 95) p.toInt64 q.toInt64) (g_lo (M.1 94) (M.1 95) p.toInt64 q.toInt64)) (vP (M.1 94) (M.1 95) p q e) 7)), (5, .long (fold f_lmin (f_lby (g_up (M.1 94) (M.1 95) p.toInt64 q.toInt64) (g_lo (M.1 94) (M.1 95) p.toInt64 q.toInt64)) (vP (M.1 94) (M.1 95) p q e) 7)), (11, .long (vP (M.1 94) (M.1 95) p q e 6)), (10, .int (-1)), (9, .int 1), (0, .ref 0), (1, .int p), (2, .int q), (3, .int e), (4, .int 1)]) C dX11_span_184 (by decide) rfl ?_
                  refine ar_iinc (n := 3) (v := 0) (als' := [(10, .int 0), (7, .long (fold f_lmax (f_lby (g_up (M.1 94) (M.1 95) p.toInt64 q.toInt64) (g_lo (M.1 94) (M.1 95) p.toInt64 q.toInt64)) (vP (M.1 94) (M.1 95) p q e) 7)), (5, .long (fold f_lmin (f_lby (g_up (M.1 94) (M.1 95) p.toInt64 q.toInt64) (g_lo (M.1 94) (M.1 95) p.toInt64 q.toInt64)) (vP (M.1 94) (M.1 95) p q e) 7)), (11, .long (vP (M.1 94) (M.1 95) p q e 6)), (9, .int 1), (0, .ref 0), (1, .int p), (2, .int q), (3, .int e), (4, .int 1)]) C dX11_span_186 rfl (by decide) (by decide) rfl ?_
                  refine ar_goto (tgt := 103) C dX11_span_189 (by decide) ?_
                  refine ar_iload (n := 0) C dX11_span_103 rfl ?_
                  refine ar_iconst (v := 1) C dX11_span_105 (by decide) ?_
                  refine ar_icmp_gt (tgt := 192) C dX11_span_106 (by decide) (fun c_41 => absurd c_41 (by decide)) (fun _ => ?_)
                  refine ar_aload_n (n := 5) C dX11_span_109 rfl rfl ?_
                  refine ar_getr C flX11_68 rfl kd_0 rf_0_9 dX11_span_110 ?_
                  refine ar_aload_n (n := 5) C dX11_span_113 rfl rfl ?_
                  refine ar_getr C flX11_61 rfl kd_0 rf_0_8 dX11_span_114 ?_
                  refine ar_iconst (v := 0) C dX11_span_117 (by decide) ?_
                  refine ar_aald (j := 0) C kd_17 (by decide) (by decide) (by decide) (by decide) rf_17_0 dX11_span_118 ?_
                  refine ar_aload_n (n := 5) C dX11_span_119 rfl rfl ?_
                  refine ar_getr C flX11_61 rfl kd_0 rf_0_8 dX11_span_120 ?_
                  refine ar_iconst (v := 1) C dX11_span_123 (by decide) ?_
                  refine ar_aald (j := 1) C kd_17 (by decide) (by decide) (by decide) (by decide) rf_17_1 dX11_span_124 ?_
                  refine ar_iload_n (n := 6) C dX11_span_125 rfl rfl ?_
                  refine ar_iload (n := 4) C dX11_span_126 rfl ?_
                  refine ar_iload_n (n := 8) C dX11_span_128 rfl rfl ?_
                  refine ar_imul C dX11_span_129 ?_
                  refine ar_iadd C dX11_span_130 ?_
                  refine ar_i2l C dX11_span_131 ?_
                  refine ar_topl (sgp p e 2) rfl ?_
                  refine ar_iload_n (n := 7) C dX11_span_132 rfl rfl ?_
                  refine ar_iload (n := 0) C dX11_span_133 rfl ?_
                  refine ar_iload_n (n := 8) C dX11_span_135 rfl rfl ?_
                  refine ar_imul C dX11_span_136 ?_
                  refine ar_iadd C dX11_span_137 ?_
                  refine ar_i2l C dX11_span_138 ?_
                  refine ar_topl (sgp q e 1) rfl ?_
                  refine cV1q (ar := [.ref 94, .ref 95, .long (sgp p e 2), .long (sgp q e 1)]) (st := []) C lkX11_284 kd_18 (k_sightE M M_38 h_39.2.2 (sgp p e 2) (sgp q e 1)) (by decide) rfl (Nat.le_of_ble_eq_true rfl) rfl dX11_span_139 (fun M_42 h_43 => ?_)
                  refine ar_if_neB (tgt := 149) C dX11_span_142 (by decide) (fun c_44 => ?_) (fun c_44 => ?_)
                  · refine ar_aload_n (n := 5) C dX11_span_149 rfl rfl ?_
                    refine ar_getr C flX11_68 rfl kd_0 rf_0_9 dX11_span_150 ?_
                    refine ar_getl C flX11_289 kd_18 dX11_span_153 ?_
                    refine ar_topl (g_up (M.1 94) (M.1 95) (sgp p e 2) (sgp q e 1)) h_43.2.1 ?_
                    refine ar_aload_n (n := 5) C dX11_span_156 rfl rfl ?_
                    refine ar_getr C flX11_68 rfl kd_0 rf_0_9 dX11_span_157 ?_
                    refine ar_getl C flX11_293 kd_18 dX11_span_160 ?_
                    refine ar_topl (g_lo (M.1 94) (M.1 95) (sgp p e 2) (sgp q e 1)) h_43.1 ?_
                    refine cS1 (ar := [.long (g_up (M.1 94) (M.1 95) (sgp p e 2) (sgp q e 1)), .long (g_lo (M.1 94) (M.1 95) (sgp p e 2) (sgp q e 1))]) (st := []) C lkX11_300 (k_lby M_42 (g_up (M.1 94) (M.1 95) (sgp p e 2) (sgp q e 1)) (g_lo (M.1 94) (M.1 95) (sgp p e 2) (sgp q e 1))) (by decide) rfl (Nat.le_of_ble_eq_true rfl) rfl dX11_span_163 ?_
                    refine ar_topl (vP (M.1 94) (M.1 95) p q e 7) (vP_eq _ _ _ _ _ 7) ?_
                    refine ar_lstore (als' := [(11, .long (vP (M.1 94) (M.1 95) p q e 7)), (10, .int 0), (7, .long (fold f_lmax (f_lby (g_up (M.1 94) (M.1 95) p.toInt64 q.toInt64) (g_lo (M.1 94) (M.1 95) p.toInt64 q.toInt64)) (vP (M.1 94) (M.1 95) p q e) 7)), (5, .long (fold f_lmin (f_lby (g_up (M.1 94) (M.1 95) p.toInt64 q.toInt64) (g_lo (M.1 94) (M.1 95) p.toInt64 q.toInt64)) (vP (M.1 94) (M.1 95) p q e) 7)), (9, .int 1), (0, .ref 0), (1, .int p), (2, .int q), (3, .int e), (4, .int 1)]) C dX11_span_166 (by decide) rfl ?_
                    refine ar_lload (n := 3) C dX11_span_168 rfl ?_
                    refine ar_lload (n := 0) C dX11_span_170 rfl ?_
                    refine cS1 (ar := [.long (fold f_lmin (f_lby (g_up (M.1 94) (M.1 95) p.toInt64 q.toInt64) (g_lo (M.1 94) (M.1 95) p.toInt64 q.toInt64)) (vP (M.1 94) (M.1 95) p q e) 7), .long (vP (M.1 94) (M.1 95) p q e 7)]) (st := []) C lkX11_303 (k_lmin M_42 (fold f_lmin (f_lby (g_up (M.1 94) (M.1 95) p.toInt64 q.toInt64) (g_lo (M.1 94) (M.1 95) p.toInt64 q.toInt64)) (vP (M.1 94) (M.1 95) p q e) 7) (vP (M.1 94) (M.1 95) p q e 7)) (by decide) rfl (Nat.le_of_ble_eq_true rfl) rfl dX11_span_172 ?_
                    refine ar_topl (fold f_lmin (f_lby (g_up (M.1 94) (M.1 95) p.toInt64 q.toInt64) (g_lo (M.1 94) (M.1 95) p.toInt64 q.toInt64)) (vP (M.1 94) (M.1 95) p q e) 8) (fold_s _ _ _ 7) ?_
                    refine ar_lstore (als' := [(5, .long (fold f_lmin (f_lby (g_up (M.1 94) (M.1 95) p.toInt64 q.toInt64) (g_lo (M.1 94) (M.1 95) p.toInt64 q.toInt64)) (vP (M.1 94) (M.1 95) p q e) 8)), (11, .long (vP (M.1 94) (M.1 95) p q e 7)), (10, .int 0), (7, .long (fold f_lmax (f_lby (g_up (M.1 94) (M.1 95) p.toInt64 q.toInt64) (g_lo (M.1 94) (M.1 95) p.toInt64 q.toInt64)) (vP (M.1 94) (M.1 95) p q e) 7)), (9, .int 1), (0, .ref 0), (1, .int p), (2, .int q), (3, .int e), (4, .int 1)]) C dX11_span_175 (by decide) rfl ?_
                    refine ar_lload (n := 3) C dX11_span_177 rfl ?_
                    refine ar_lload (n := 1) C dX11_span_179 rfl ?_
                    refine cS1 (ar := [.long (fold f_lmax (f_lby (g_up (M.1 94) (M.1 95) p.toInt64 q.toInt64) (g_lo (M.1 94) (M.1 95) p.toInt64 q.toInt64)) (vP (M.1 94) (M.1 95) p q e) 7), .long (vP (M.1 94) (M.1 95) p q e 7)]) (st := []) C lkX11_308 (k_lmax M_42 (fold f_lmax (f_lby (g_up (M.1 94) (M.1 95) p.toInt64 q.toInt64) (g_lo (M.1 94) (M.1 95) p.toInt64 q.toInt64)) (vP (M.1 94) (M.1 95) p q e) 7) (vP (M.1 94) (M.1 95) p q e 7)) (by decide) rfl (Nat.le_of_ble_eq_true rfl) rfl dX11_span_181 ?_
                    refine ar_topl (fold f_lmax (f_lby (g_up (M.1 94) (M.1 95) p.toInt64 q.toInt64) (g_lo (M.1 94) (M.1 95) p.toInt64 q.toInt64)) (vP (M.1 94) (M.1 95) p q e) 8) (fold_s _ _ _ 7) ?_
                    refine ar_lstore (als' := [(7, .long (fold f_lmax (f_lby (g_up (M.1 94) (M.1 95) p.toInt64 q.toInt64) (g_lo (M.1 94) (M.1 95) p.toInt64 q.toInt64)) (vP (M.1 94) (M.1 95) p q e) 8)), (5, .long (fold f_lmin (f_lby (g_up (M.1 94) (M.1 95) p.toInt64 q.toInt64) (g_lo (M.1 94) (M.1 95) p.toInt64 q.toInt64)) (vP (M.1 94) (M.1 95) p q e) 8)), (11, .long (vP (M.1 94) (M.1 95) p q e 7)), (10, .int 0), (9, .int 1), (0, .ref 0), (1, .int p), (2, .int q), (3, .int e), (4, .int 1)]) C dX11_span_184 (by decide) rfl ?_
                    refine ar_iinc (n := 3) (v := 1) (als' := [(10, .int 1), (7, .long (fold f_lmax (f_lby (g_up (M.1 94) (M.1 95) p.toInt64 q.toInt64) (g_lo (M.1 94) (M.1 95) p.toInt64 q.toInt64)) (vP (M.1 94) (M.1 95) p q e) 8)), (5, .long (fold f_lmin (f_lby (g_up (M.1 94) (M.1 95) p.toInt64 q.toInt64) (g_lo (M.1 94) (M.1 95) p.toInt64 q.toInt64)) (vP (M.1 94) (M.1 95) p q e) 8)), (11, .long (vP (M.1 94) (M.1 95) p q e 7)), (9, .int 1), (0, .ref 0), (1, .int p), (2, .int q), (3, .int e), (4, .int 1)]) C dX11_span_186 rfl (by decide) (by decide) rfl ?_
                    refine ar_goto (tgt := 103) C dX11_span_189 (by decide) ?_
                    refine ar_iload (n := 0) C dX11_span_103 rfl ?_
                    refine ar_iconst (v := 1) C dX11_span_105 (by decide) ?_
                    refine ar_icmp_gt (tgt := 192) C dX11_span_106 (by decide) (fun c_45 => absurd c_45 (by decide)) (fun _ => ?_)
                    refine ar_aload_n (n := 5) C dX11_span_109 rfl rfl ?_
                    refine ar_getr C flX11_68 rfl kd_0 rf_0_9 dX11_span_110 ?_
                    refine ar_aload_n (n := 5) C dX11_span_113 rfl rfl ?_
                    refine ar_getr C flX11_61 rfl kd_0 rf_0_8 dX11_span_114 ?_
                    refine ar_iconst (v := 0) C dX11_span_117 (by decide) ?_
                    refine ar_aald (j := 0) C kd_17 (by decide) (by decide) (by decide) (by decide) rf_17_0 dX11_span_118 ?_
                    refine ar_aload_n (n := 5) C dX11_span_119 rfl rfl ?_
                    refine ar_getr C flX11_61 rfl kd_0 rf_0_8 dX11_span_120 ?_
                    refine ar_iconst (v := 1) C dX11_span_123 (by decide) ?_
                    refine ar_aald (j := 1) C kd_17 (by decide) (by decide) (by decide) (by decide) rf_17_1 dX11_span_124 ?_
                    refine ar_iload_n (n := 6) C dX11_span_125 rfl rfl ?_
                    refine ar_iload (n := 4) C dX11_span_126 rfl ?_
                    refine ar_iload_n (n := 8) C dX11_span_128 rfl rfl ?_
                    refine ar_imul C dX11_span_129 ?_
                    refine ar_iadd C dX11_span_130 ?_
                    refine ar_i2l C dX11_span_131 ?_
                    refine ar_topl (sgp p e 2) rfl ?_
                    refine ar_iload_n (n := 7) C dX11_span_132 rfl rfl ?_
                    refine ar_iload (n := 0) C dX11_span_133 rfl ?_
                    refine ar_iload_n (n := 8) C dX11_span_135 rfl rfl ?_
                    refine ar_imul C dX11_span_136 ?_
                    refine ar_iadd C dX11_span_137 ?_
                    refine ar_i2l C dX11_span_138 ?_
                    refine ar_topl (sgp q e 2) rfl ?_
                    refine cV1q (ar := [.ref 94, .ref 95, .long (sgp p e 2), .long (sgp q e 2)]) (st := []) C lkX11_284 kd_18 (k_sightE M M_42 h_43.2.2 (sgp p e 2) (sgp q e 2)) (by decide) rfl (Nat.le_of_ble_eq_true rfl) rfl dX11_span_139 (fun M_46 h_47 => ?_)
                    refine ar_if_neB (tgt := 149) C dX11_span_142 (by decide) (fun c_48 => ?_) (fun c_48 => ?_)
                    · refine ar_aload_n (n := 5) C dX11_span_149 rfl rfl ?_
                      refine ar_getr C flX11_68 rfl kd_0 rf_0_9 dX11_span_150 ?_
                      refine ar_getl C flX11_289 kd_18 dX11_span_153 ?_
                      refine ar_topl (g_up (M.1 94) (M.1 95) (sgp p e 2) (sgp q e 2)) h_47.2.1 ?_
                      refine ar_aload_n (n := 5) C dX11_span_156 rfl rfl ?_
                      refine ar_getr C flX11_68 rfl kd_0 rf_0_9 dX11_span_157 ?_
                      refine ar_getl C flX11_293 kd_18 dX11_span_160 ?_
                      refine ar_topl (g_lo (M.1 94) (M.1 95) (sgp p e 2) (sgp q e 2)) h_47.1 ?_
                      refine cS1 (ar := [.long (g_up (M.1 94) (M.1 95) (sgp p e 2) (sgp q e 2)), .long (g_lo (M.1 94) (M.1 95) (sgp p e 2) (sgp q e 2))]) (st := []) C lkX11_300 (k_lby M_46 (g_up (M.1 94) (M.1 95) (sgp p e 2) (sgp q e 2)) (g_lo (M.1 94) (M.1 95) (sgp p e 2) (sgp q e 2))) (by decide) rfl (Nat.le_of_ble_eq_true rfl) rfl dX11_span_163 ?_
                      refine ar_topl (vP (M.1 94) (M.1 95) p q e 8) (vP_eq _ _ _ _ _ 8) ?_
                      refine ar_lstore (als' := [(11, .long (vP (M.1 94) (M.1 95) p q e 8)), (10, .int 1), (7, .long (fold f_lmax (f_lby (g_up (M.1 94) (M.1 95) p.toInt64 q.toInt64) (g_lo (M.1 94) (M.1 95) p.toInt64 q.toInt64)) (vP (M.1 94) (M.1 95) p q e) 8)), (5, .long (fold f_lmin (f_lby (g_up (M.1 94) (M.1 95) p.toInt64 q.toInt64) (g_lo (M.1 94) (M.1 95) p.toInt64 q.toInt64)) (vP (M.1 94) (M.1 95) p q e) 8)), (9, .int 1), (0, .ref 0), (1, .int p), (2, .int q), (3, .int e), (4, .int 1)]) C dX11_span_166 (by decide) rfl ?_
                      refine ar_lload (n := 3) C dX11_span_168 rfl ?_
                      refine ar_lload (n := 0) C dX11_span_170 rfl ?_
                      refine cS1 (ar := [.long (fold f_lmin (f_lby (g_up (M.1 94) (M.1 95) p.toInt64 q.toInt64) (g_lo (M.1 94) (M.1 95) p.toInt64 q.toInt64)) (vP (M.1 94) (M.1 95) p q e) 8), .long (vP (M.1 94) (M.1 95) p q e 8)]) (st := []) C lkX11_303 (k_lmin M_46 (fold f_lmin (f_lby (g_up (M.1 94) (M.1 95) p.toInt64 q.toInt64) (g_lo (M.1 94) (M.1 95) p.toInt64 q.toInt64)) (vP (M.1 94) (M.1 95) p q e) 8) (vP (M.1 94) (M.1 95) p q e 8)) (by decide) rfl (Nat.le_of_ble_eq_true rfl) rfl dX11_span_172 ?_
                      refine ar_topl (fold f_lmin (f_lby (g_up (M.1 94) (M.1 95) p.toInt64 q.toInt64) (g_lo (M.1 94) (M.1 95) p.toInt64 q.toInt64)) (vP (M.1 94) (M.1 95) p q e) 9) (fold_s _ _ _ 8) ?_
                      refine ar_lstore (als' := [(5, .long (fold f_lmin (f_lby (g_up (M.1 94) (M.1 95) p.toInt64 q.toInt64) (g_lo (M.1 94) (M.1 95) p.toInt64 q.toInt64)) (vP (M.1 94) (M.1 95) p q e) 9)), (11, .long (vP (M.1 94) (M.1 95) p q e 8)), (10, .int 1), (7, .long (fold f_lmax (f_lby (g_up (M.1 94) (M.1 95) p.toInt64 q.toInt64) (g_lo (M.1 94) (M.1 95) p.toInt64 q.toInt64)) (vP (M.1 94) (M.1 95) p q e) 8)), (9, .int 1), (0, .ref 0), (1, .int p), (2, .int q), (3, .int e), (4, .int 1)]) C dX11_span_175 (by decide) rfl ?_
                      refine ar_lload (n := 3) C dX11_span_177 rfl ?_
                      refine ar_lload (n := 1) C dX11_span_179 rfl ?_
                      refine cS1 (ar := [.long (fold f_lmax (f_lby (g_up (M.1 94) (M.1 95) p.toInt64 q.toInt64) (g_lo (M.1 94) (M.1 95) p.toInt64 q.toInt64)) (vP (M.1 94) (M.1 95) p q e) 8), .long (vP (M.1 94) (M.1 95) p q e 8)]) (st := []) C lkX11_308 (k_lmax M_46 (fold f_lmax (f_lby (g_up (M.1 94) (M.1 95) p.toInt64 q.toInt64) (g_lo (M.1 94) (M.1 95) p.toInt64 q.toInt64)) (vP (M.1 94) (M.1 95) p q e) 8) (vP (M.1 94) (M.1 95) p q e 8)) (by decide) rfl (Nat.le_of_ble_eq_true rfl) rfl dX11_span_181 ?_
                      refine ar_topl (fold f_lmax (f_lby (g_up (M.1 94) (M.1 95) p.toInt64 q.toInt64) (g_lo (M.1 94) (M.1 95) p.toInt64 q.toInt64)) (vP (M.1 94) (M.1 95) p q e) 9) (fold_s _ _ _ 8) ?_
                      refine ar_lstore (als' := [(7, .long (fold f_lmax (f_lby (g_up (M.1 94) (M.1 95) p.toInt64 q.toInt64) (g_lo (M.1 94) (M.1 95) p.toInt64 q.toInt64)) (vP (M.1 94) (M.1 95) p q e) 9)), (5, .long (fold f_lmin (f_lby (g_up (M.1 94) (M.1 95) p.toInt64 q.toInt64) (g_lo (M.1 94) (M.1 95) p.toInt64 q.toInt64)) (vP (M.1 94) (M.1 95) p q e) 9)), (11, .long (vP (M.1 94) (M.1 95) p q e 8)), (10, .int 1), (9, .int 1), (0, .ref 0), (1, .int p), (2, .int q), (3, .int e), (4, .int 1)]) C dX11_span_184 (by decide) rfl ?_
                      refine ar_iinc (n := 3) (v := 2) (als' := [(10, .int 2), (7, .long (fold f_lmax (f_lby (g_up (M.1 94) (M.1 95) p.toInt64 q.toInt64) (g_lo (M.1 94) (M.1 95) p.toInt64 q.toInt64)) (vP (M.1 94) (M.1 95) p q e) 9)), (5, .long (fold f_lmin (f_lby (g_up (M.1 94) (M.1 95) p.toInt64 q.toInt64) (g_lo (M.1 94) (M.1 95) p.toInt64 q.toInt64)) (vP (M.1 94) (M.1 95) p q e) 9)), (11, .long (vP (M.1 94) (M.1 95) p q e 8)), (9, .int 1), (0, .ref 0), (1, .int p), (2, .int q), (3, .int e), (4, .int 1)]) C dX11_span_186 rfl (by decide) (by decide) rfl ?_
                      refine ar_goto (tgt := 103) C dX11_span_189 (by decide) ?_
                      refine ar_iload (n := 0) C dX11_span_103 rfl ?_
                      refine ar_iconst (v := 1) C dX11_span_105 (by decide) ?_
                      refine ar_icmp_gt (tgt := 192) C dX11_span_106 (by decide) (fun _ => ?_) (fun c_49 => absurd c_49 (by decide))
                      refine ar_iinc (n := 4) (v := 2) (als' := [(9, .int 2), (10, .int 2), (7, .long (fold f_lmax (f_lby (g_up (M.1 94) (M.1 95) p.toInt64 q.toInt64) (g_lo (M.1 94) (M.1 95) p.toInt64 q.toInt64)) (vP (M.1 94) (M.1 95) p q e) 9)), (5, .long (fold f_lmin (f_lby (g_up (M.1 94) (M.1 95) p.toInt64 q.toInt64) (g_lo (M.1 94) (M.1 95) p.toInt64 q.toInt64)) (vP (M.1 94) (M.1 95) p q e) 9)), (11, .long (vP (M.1 94) (M.1 95) p q e 8)), (0, .ref 0), (1, .int p), (2, .int q), (3, .int e), (4, .int 1)]) C dX11_span_192 rfl (by decide) (by decide) rfl ?_
                      refine ar_goto (tgt := 94) C dX11_span_195 (by decide) ?_
                      refine ar_iload (n := 0) C dX11_span_94 rfl ?_
                      refine ar_iconst (v := 1) C dX11_span_96 (by decide) ?_
                      refine ar_icmp_gt (tgt := 198) C dX11_span_97 (by decide) (fun _ => ?_) (fun c_50 => absurd c_50 (by decide))
                      refine ar_iload (n := 9) C dX11_span_198 rfl ?_
                      refine ar_if_ne (tgt := 208) C dX11_span_200 (by decide) (fun _ => ?_) (fun c_51 => absurd c_51 (by decide))
                      refine ar_lload (n := 2) C dX11_span_208 rfl ?_
                      exact ar_lreturn C rfl dX11_span_210 ⟨by rw [if_pos (by rw [c_7]; simp only [allB]; rw [show okP (M.1 94) (M.1 95) p q e 0 = true from c_12, show okP (M.1 94) (M.1 95) p q e 1 = true from c_16, show okP (M.1 94) (M.1 95) p q e 2 = true from c_20, show okP (M.1 94) (M.1 95) p q e 3 = true from c_26, show okP (M.1 94) (M.1 95) p q e 4 = true from c_30, show okP (M.1 94) (M.1 95) p q e 5 = true from c_34, show okP (M.1 94) (M.1 95) p q e 6 = true from c_40, show okP (M.1 94) (M.1 95) p q e 7 = true from c_44, show okP (M.1 94) (M.1 95) p q e 8 = true from c_48]; rfl)], rfl, h_47.2.2⟩
                    · refine ar_ldc2 C kcX11_287 dX11_span_145 ?_
                      exact ar_lreturn C rfl dX11_span_148 ⟨by rw [if_neg (by rw [show (g_ok (M.1 94) (M.1 95) p.toInt64 q.toInt64 && allB (okP (M.1 94) (M.1 95) p q e) 9) = false from by rw [allB_no (p := okP (M.1 94) (M.1 95) p q e) (k := 8) c_48 9 (by decide), Bool.and_false]]; decide)], rfl, h_47.2.2⟩
                  · refine ar_ldc2 C kcX11_287 dX11_span_145 ?_
                    exact ar_lreturn C rfl dX11_span_148 ⟨by rw [if_neg (by rw [show (g_ok (M.1 94) (M.1 95) p.toInt64 q.toInt64 && allB (okP (M.1 94) (M.1 95) p q e) 9) = false from by rw [allB_no (p := okP (M.1 94) (M.1 95) p q e) (k := 7) c_44 9 (by decide), Bool.and_false]]; decide)], rfl, h_43.2.2⟩
                · refine ar_ldc2 C kcX11_287 dX11_span_145 ?_
                  exact ar_lreturn C rfl dX11_span_148 ⟨by rw [if_neg (by rw [show (g_ok (M.1 94) (M.1 95) p.toInt64 q.toInt64 && allB (okP (M.1 94) (M.1 95) p q e) 9) = false from by rw [allB_no (p := okP (M.1 94) (M.1 95) p q e) (k := 6) c_40 9 (by decide), Bool.and_false]]; decide)], rfl, h_39.2.2⟩
              · refine ar_ldc2 C kcX11_287 dX11_span_145 ?_
                exact ar_lreturn C rfl dX11_span_148 ⟨by rw [if_neg (by rw [show (g_ok (M.1 94) (M.1 95) p.toInt64 q.toInt64 && allB (okP (M.1 94) (M.1 95) p q e) 9) = false from by rw [allB_no (p := okP (M.1 94) (M.1 95) p q e) (k := 5) c_34 9 (by decide), Bool.and_false]]; decide)], rfl, h_33.2.2⟩
            · refine ar_ldc2 C kcX11_287 dX11_span_145 ?_
              exact ar_lreturn C rfl dX11_span_148 ⟨by rw [if_neg (by rw [show (g_ok (M.1 94) (M.1 95) p.toInt64 q.toInt64 && allB (okP (M.1 94) (M.1 95) p q e) 9) = false from by rw [allB_no (p := okP (M.1 94) (M.1 95) p q e) (k := 4) c_30 9 (by decide), Bool.and_false]]; decide)], rfl, h_29.2.2⟩
          · refine ar_ldc2 C kcX11_287 dX11_span_145 ?_
            exact ar_lreturn C rfl dX11_span_148 ⟨by rw [if_neg (by rw [show (g_ok (M.1 94) (M.1 95) p.toInt64 q.toInt64 && allB (okP (M.1 94) (M.1 95) p q e) 9) = false from by rw [allB_no (p := okP (M.1 94) (M.1 95) p q e) (k := 3) c_26 9 (by decide), Bool.and_false]]; decide)], rfl, h_25.2.2⟩
        · refine ar_ldc2 C kcX11_287 dX11_span_145 ?_
          exact ar_lreturn C rfl dX11_span_148 ⟨by rw [if_neg (by rw [show (g_ok (M.1 94) (M.1 95) p.toInt64 q.toInt64 && allB (okP (M.1 94) (M.1 95) p q e) 9) = false from by rw [allB_no (p := okP (M.1 94) (M.1 95) p q e) (k := 2) c_20 9 (by decide), Bool.and_false]]; decide)], rfl, h_19.2.2⟩
      · refine ar_ldc2 C kcX11_287 dX11_span_145 ?_
        exact ar_lreturn C rfl dX11_span_148 ⟨by rw [if_neg (by rw [show (g_ok (M.1 94) (M.1 95) p.toInt64 q.toInt64 && allB (okP (M.1 94) (M.1 95) p q e) 9) = false from by rw [allB_no (p := okP (M.1 94) (M.1 95) p q e) (k := 1) c_16 9 (by decide), Bool.and_false]]; decide)], rfl, h_15.2.2⟩
    · refine ar_ldc2 C kcX11_287 dX11_span_145 ?_
      exact ar_lreturn C rfl dX11_span_148 ⟨by rw [if_neg (by rw [show (g_ok (M.1 94) (M.1 95) p.toInt64 q.toInt64 && allB (okP (M.1 94) (M.1 95) p q e) 9) = false from by rw [allB_no (p := okP (M.1 94) (M.1 95) p q e) (k := 0) c_12 9 (by decide), Bool.and_false]]; decide)], rfl, h_11.2.2⟩
  · refine ar_ldc2 C kcX11_287 dX11_span_64 ?_
    exact ar_lreturn C rfl dX11_span_67 ⟨by rw [if_neg (by rw [show (g_ok (M.1 94) (M.1 95) p.toInt64 q.toInt64 && allB (okP (M.1 94) (M.1 95) p q e) 9) = false from by rw [c_7, Bool.false_and]]; decide)], rfl, h_6.2.2⟩
