/-! THE MODEL: span, draw, ask, count -/
/-- the least (most) of the first n numbers, as the model finds it -/
def mfd (op : Int64 → Int64 → Int64) (v : Nat → Int64) : Nat → Int64
  | 0 => 0
  | n + 1 => if n = 0 then v 0 else op (mfd op v n) (v n)
theorem off_d : ∀ k, k < 9 → nI k / 3 - 1 = off3 (k / 3) := by decide
theorem off_m : ∀ k, k < 9 → nI k - nI k / 3 * 3 - 1 = off3 (k % 3) := by decide
theorem off_n (k : Nat) : na (off3 k) ≤ 1 := by
  match k with
  | 0 => decide
  | 1 => decide
  | n + 2 => exact (by decide : na (off3 2) ≤ 1)
theorem sg_n {p e : Int32} (hp : f_in p (-1000) 1000 = true) (he : f_in e 0 20 = true) (k : Nat) : na (p + off3 k * e) ≤ 1020 := by
  have h1 := (in_iff _ _ _).mp hp
  have h2 := (in_iff _ _ _).mp he
  have e1 : (-1000 : Int32).toInt = -1000 := by decide
  have e2 : (1000 : Int32).toInt = 1000 := by decide
  have e3 : (0 : Int32).toInt = 0 := by decide
  have e4 : (20 : Int32).toInt = 20 := by decide
  rw [e1, e2] at h1
  rw [e3, e4] at h2
  have m := (t_mul (a := off3 k) (b := e) (A := 1) (B := 20) (off_n k) (by simp only [na]; omega) (by decide)).2
  exact (t_add (a := p) (b := off3 k * e) (A := 1000) (B := 20) (by simp only [na]; omega) m (by decide)).2
theorem mfd_lo1 {v : Nat → Int64} {k : Nat} (h : k = 0) : v k = mfd f_lmin v (k + 1) := by subst h; rfl
theorem mfd_hi1 {v : Nat → Int64} {k : Nat} (h : k = 0) : v k = mfd f_lmax v (k + 1) := by subst h; rfl
theorem mfd_lo2 {v : Nat → Int64} {k : Nat} (h : ¬ k = 0) (c : v k < mfd f_lmin v k) : v k = mfd f_lmin v (k + 1) := by
  show _ = if k = 0 then v 0 else f_lmin (mfd f_lmin v k) (v k)
  rw [if_neg h, f_lmin, if_pos c]
theorem mfd_lo3 {v : Nat → Int64} {k : Nat} (h : ¬ k = 0) (c : ¬ v k < mfd f_lmin v k) : mfd f_lmin v k = mfd f_lmin v (k + 1) := by
  show _ = if k = 0 then v 0 else f_lmin (mfd f_lmin v k) (v k)
  rw [if_neg h, f_lmin, if_neg c]
theorem mfd_hi2 {v : Nat → Int64} {k : Nat} (h : ¬ k = 0) (c : mfd f_lmax v k < v k) : v k = mfd f_lmax v (k + 1) := by
  show _ = if k = 0 then v 0 else f_lmax (mfd f_lmax v k) (v k)
  rw [if_neg h, f_lmax, if_pos c]
theorem mfd_hi3 {v : Nat → Int64} {k : Nat} (h : ¬ k = 0) (c : ¬ mfd f_lmax v k < v k) : mfd f_lmax v k = mfd f_lmax v (k + 1) := by
  show _ = if k = 0 then v 0 else f_lmax (mfd f_lmax v k) (v k)
  rw [if_neg h, f_lmax, if_neg c]
theorem allB_y {p : Nat → Bool} {n : Nat} (h : allB p n = true) (c : p n = true) : allB p (n + 1) = true := by
  show (allB p n && p n) = true
  rw [h, c]; rfl
set_option maxHeartbeats 4000000 in
set_option maxRecDepth 100000 in
theorem m_span_bad (M : Mm) (p q e w : Int32)  (hbad : (f_in p (-1000) 1000 && f_in q (-1000) 1000 && f_in e 0 20 && f_in w 0 1) = false) : AX mX12_span 2 [.ref 96, .int p, .int q, .int e, .int w] M (some (.long (-1000001))) (wi M 96 0 0) := by
  refine AM_ofF (by decide +kernel) (Nat.le_of_ble_eq_true rfl) (fun X V C _ _ => ?_)
  show AW X V mX12_span.2.2.1 T0 M 0 0 _ 0 [(0, .ref 96), (1, .int p), (2, .int q), (3, .int e), (4, .int w)] []
  refine ar_aload_n (n := 0) C dX12_span_0 rfl rfl ?_
  refine ar_iconst (v := 0) C dX12_span_1 (by decide) ?_
  refine ar_puti C flX12_59 kd_96 dX12_span_2 ?_
  refine ar_iload_n (n := 1) C dX12_span_5 rfl rfl ?_
  refine cS1 (ar := [.int p]) (st := []) C lkX12_188 (k_mSight (wi M 96 0 0) p) (by decide) rfl (Nat.le_of_ble_eq_true rfl) rfl dX12_span_6 ?_
  refine ar_if_eqB (tgt := 42) C dX12_span_9 (by decide) (fun c_1 => ?_) (fun c_1 => ?_)
  · refine ar_ldc2 C kcX12_191 dX12_span_42 ?_
    exact ar_lreturn C rfl dX12_span_45 ⟨rfl, rfl, rfl⟩
  · refine ar_iload_n (n := 2) C dX12_span_12 rfl rfl ?_
    refine cS1 (ar := [.int q]) (st := []) C lkX12_188 (k_mSight (wi M 96 0 0) q) (by decide) rfl (Nat.le_of_ble_eq_true rfl) rfl dX12_span_13 ?_
    refine ar_if_eqB (tgt := 42) C dX12_span_16 (by decide) (fun c_2 => ?_) (fun c_2 => ?_)
    · refine ar_ldc2 C kcX12_191 dX12_span_42 ?_
      exact ar_lreturn C rfl dX12_span_45 ⟨rfl, rfl, rfl⟩
    · refine ar_iload_n (n := 3) C dX12_span_19 rfl rfl ?_
      refine ar_i2l C dX12_span_20 ?_
      refine ar_lconst (v := 0) C dX12_span_21 (by decide) ?_
      refine ar_ldc2 C kcX12_199 dX12_span_22 ?_
      refine cS1 (ar := [.long e.toInt64, .long 0, .long 20]) (st := []) C lkX12_69 (k_inI (wi M 96 0 0) e 0 20 _ _ (by decide) (by decide)) (by decide) rfl (Nat.le_of_ble_eq_true rfl) rfl dX12_span_25 ?_
      refine ar_if_eqB (tgt := 42) C dX12_span_28 (by decide) (fun c_3 => ?_) (fun c_3 => ?_)
      · refine ar_ldc2 C kcX12_191 dX12_span_42 ?_
        exact ar_lreturn C rfl dX12_span_45 ⟨rfl, rfl, rfl⟩
      · refine ar_iload (n := 4) C dX12_span_31 rfl ?_
        refine ar_i2l C dX12_span_33 ?_
        refine ar_lconst (v := 0) C dX12_span_34 (by decide) ?_
        refine ar_lconst (v := 1) C dX12_span_35 (by decide) ?_
        refine cS1 (ar := [.long w.toInt64, .long 0, .long 1]) (st := []) C lkX12_69 (k_inI (wi M 96 0 0) w 0 1 _ _ (by decide) (by decide)) (by decide) rfl (Nat.le_of_ble_eq_true rfl) rfl dX12_span_36 ?_
        refine ar_if_neB (tgt := 46) C dX12_span_39 (by decide) (fun c_4 => ?_) (fun c_4 => ?_)
        · exact absurd hbad (by first | (rw [c_1]; decide) | simp [*])
        · refine ar_ldc2 C kcX12_191 dX12_span_42 ?_
          exact ar_lreturn C rfl dX12_span_45 ⟨rfl, rfl, rfl⟩
set_option maxHeartbeats 4000000 in
set_option maxRecDepth 100000 in
theorem l_mspan {X : Ctx} {V : Vx} {Q : State → Prop} (C : Cx X V mX12_span 2) (M : Mm) (p q e w : Int32) (hp : f_in p (-1000) 1000 = true) (hq : f_in q (-1000) 1000 = true) (he : f_in e 0 20 = true) {S0 S1 : Nat → Int32} (hS : M2 M S0 S1) (k1 : ∀ M1, M1.1 = M.1 → allB (okP S0 S1 p q e) 9 = true → AW X V mX12_span.2.2.1 T0 M1 0 0 Q 154 [(9, .int (nI 9)), (7, .long (mfd f_lmax (vP S0 S1 p q e) 9)), (5, .long (mfd f_lmin (vP S0 S1 p q e) 9)), (0, .ref 96), (1, .int p), (2, .int q), (3, .int e), (4, .int w)] []) (k0 : ∀ M1 als, M1.1 = M.1 → allB (okP S0 S1 p q e) 9 = false → AW X V mX12_span.2.2.1 T0 M1 0 0 Q 89 als []) : ∀ (m : Nat) (k : Nat) (M1 : Mm), k ≤ 9 → M1.1 = M.1 → allB (okP S0 S1 p q e) k = true → 9 - k < m → AW X V mX12_span.2.2.1 T0 (M1) 0 0 Q 55 [(9, .int (nI k)), (7, .long (mfd f_lmax (vP S0 S1 p q e) k)), (5, .long (mfd f_lmin (vP S0 S1 p q e) k)), (0, .ref 96), (1, .int p), (2, .int q), (3, .int e), (4, .int w)] [] := by
  intro m
  induction m with
  | zero => intro k M1 _ _ _ h; exact absurd h (Nat.not_lt_zero _)
  | succ m ih =>
    intro k M1 hk0 hM hok hmz
    refine ar_iload (n := 0) C dX12_span_55 rfl ?_
    refine ar_bipush (v := 9) C dX12_span_57 (by decide) ?_
    refine ar_icmp_ge (tgt := 154) C dX12_span_59 (by decide) (fun c_1 => ?_) (fun c_1 => ?_)
    · have hk : k = 9 := Nat.le_antisymm hk0 (nat_le (a := 9) c_1 (by decide) (by omega))
      subst hk
      exact k1 M1 hM hok
    · have hk : k < 9 := nat_nle (a := 9) c_1 (by decide) (by omega)
      refine ar_aload_n (n := 3) C dX12_span_62 rfl rfl ?_
      refine ar_iload_n (n := 4) C dX12_span_63 rfl rfl ?_
      refine ar_iload (n := 0) C dX12_span_64 rfl ?_
      refine ar_iconst (v := 3) C dX12_span_66 (by decide) ?_
      refine ar_idiv C dX12_span_67 (by decide) ?_
      refine ar_iconst (v := 1) C dX12_span_68 (by decide) ?_
      refine ar_isub C dX12_span_69 ?_
      refine ar_topi (off3 (k / 3)) (off_d k hk) ?_
      refine ar_iload_n (n := 6) C dX12_span_70 rfl rfl ?_
      refine ar_imul C dX12_span_71 ?_
      refine ar_iadd C dX12_span_72 ?_
      refine ar_iload_n (n := 5) C dX12_span_73 rfl rfl ?_
      refine ar_iload (n := 0) C dX12_span_74 rfl ?_
      refine ar_iconst (v := 3) C dX12_span_76 (by decide) ?_
      refine ar_irem C dX12_span_77 (by decide) ?_
      refine ar_iconst (v := 1) C dX12_span_78 (by decide) ?_
      refine ar_isub C dX12_span_79 ?_
      refine ar_topi (off3 (k % 3)) (off_m k hk) ?_
      refine ar_iload_n (n := 6) C dX12_span_80 rfl rfl ?_
      refine ar_imul C dX12_span_81 ?_
      refine ar_iadd C dX12_span_82 ?_
      refine cV1q (ar := [.int (p + ((off3 (k / 3)) * e)), .int (q + ((off3 (k % 3)) * e))]) (st := []) C lkX12_193 kd_96 (m_see M1 (p + ((off3 (k / 3)) * e)) (q + ((off3 (k % 3)) * e)) (sg_n hp he _) (sg_n hq he _) (M2_o (congrFun hM 111) hS)) (by decide) rfl (Nat.le_of_ble_eq_true rfl) rfl dX12_span_83 (fun M_2 h_3 => ?_)
      refine ar_if_neB (tgt := 93) C dX12_span_86 (by decide) (fun c_4 => ?_) (fun c_4 => ?_)
      · refine ar_aload_n (n := 3) C dX12_span_93 rfl rfl ?_
        refine ar_getl C flX12_185 kd_96 dX12_span_94 ?_
        refine ar_topl (g_up S0 S1 (sgp p e (k / 3)) (sgp q e (k % 3))) h_3.2.2 ?_
        refine ar_aload_n (n := 3) C dX12_span_97 rfl rfl ?_
        refine ar_getl C flX12_181 kd_96 dX12_span_98 ?_
        refine ar_topl (g_lo S0 S1 (sgp p e (k / 3)) (sgp q e (k % 3))) h_3.2.1 ?_
        refine ar_ldiv C dX12_span_101 (ok_ne c_4) ?_
        refine ar_topl (vP S0 S1 p q e k) (by unfold vP; rw [lby_ne (show ¬ g_lo S0 S1 (sgp p e (k / 3)) (sgp q e (k % 3)) = 0 from ok_ne c_4)]) ?_
        refine ar_lstore (als' := [(10, .long (vP S0 S1 p q e k)), (9, .int (nI k)), (7, .long (mfd f_lmax (vP S0 S1 p q e) k)), (5, .long (mfd f_lmin (vP S0 S1 p q e) k)), (0, .ref 96), (1, .int p), (2, .int q), (3, .int e), (4, .int w)]) C dX12_span_102 (by decide) rfl ?_
        by_cases hk1 : k = 0
        · refine ar_iload (n := 1) C dX12_span_104 rfl ?_
          refine ar_if_eq (tgt := 117) C dX12_span_106 (by decide) (fun _ => ?_) (fun c_5 => False.elim (c_5 (by rw [hk1]; rfl)))
          refine ar_lload (n := 0) C dX12_span_117 rfl ?_
          refine ar_goto (tgt := 124) C dX12_span_119 (by decide) ?_
          refine ar_topl (mfd f_lmin (vP S0 S1 p q e) (k + 1)) (mfd_lo1 hk1) ?_
          refine ar_lstore (als' := [(5, .long (mfd f_lmin (vP S0 S1 p q e) (k + 1))), (10, .long (vP S0 S1 p q e k)), (9, .int (nI k)), (7, .long (mfd f_lmax (vP S0 S1 p q e) k)), (0, .ref 96), (1, .int p), (2, .int q), (3, .int e), (4, .int w)]) C dX12_span_124 (by decide) rfl ?_
          refine ar_iload (n := 2) C dX12_span_126 rfl ?_
          refine ar_if_eq (tgt := 139) C dX12_span_128 (by decide) (fun _ => ?_) (fun c_6 => False.elim (c_6 (by rw [hk1]; rfl)))
          refine ar_lload (n := 1) C dX12_span_139 rfl ?_
          refine ar_goto (tgt := 146) C dX12_span_141 (by decide) ?_
          refine ar_topl (mfd f_lmax (vP S0 S1 p q e) (k + 1)) (mfd_hi1 hk1) ?_
          refine ar_lstore (als' := [(7, .long (mfd f_lmax (vP S0 S1 p q e) (k + 1))), (5, .long (mfd f_lmin (vP S0 S1 p q e) (k + 1))), (10, .long (vP S0 S1 p q e k)), (9, .int (nI k)), (0, .ref 96), (1, .int p), (2, .int q), (3, .int e), (4, .int w)]) C dX12_span_146 (by decide) rfl ?_
          refine ar_iinc (n := 3) (v := (nI (k + 1))) (als' := [(9, .int (nI (k + 1))), (7, .long (mfd f_lmax (vP S0 S1 p q e) (k + 1))), (5, .long (mfd f_lmin (vP S0 S1 p q e) (k + 1))), (10, .long (vP S0 S1 p q e k)), (0, .ref 96), (1, .int p), (2, .int q), (3, .int e), (4, .int w)]) C dX12_span_148 rfl (nI_1 _) (by decide) rfl ?_
          refine ar_goto (tgt := 55) C dX12_span_151 (by decide) ?_
          refine ar_sub [0, 1, 2, 4, 5, 6, 7, 8] rfl ?_
          exact ih (k + 1) _ (by omega) (h_3.1.trans hM) (allB_y hok c_4) (by omega)
        · refine ar_iload (n := 1) C dX12_span_104 rfl ?_
          refine ar_if_eq (tgt := 117) C dX12_span_106 (by decide) (fun c_7 => False.elim (hk1 ((nI_eq (a := k) (b := 0) (by omega) (by decide)).mp c_7))) (fun _ => ?_)
          refine ar_lload (n := 0) C dX12_span_109 rfl ?_
          refine ar_lload (n := 3) C dX12_span_111 rfl ?_
          refine ar_lc_ge (tgt := 122) C dX12_span_113 dX12_span_114 (by decide) (fun c_8 => ?_) (fun c_8 => ?_)
          · refine ar_lload (n := 3) C dX12_span_122 rfl ?_
            refine ar_topl (mfd f_lmin (vP S0 S1 p q e) (k + 1)) (mfd_lo3 hk1 c_8) ?_
            refine ar_lstore (als' := [(5, .long (mfd f_lmin (vP S0 S1 p q e) (k + 1))), (10, .long (vP S0 S1 p q e k)), (9, .int (nI k)), (7, .long (mfd f_lmax (vP S0 S1 p q e) k)), (0, .ref 96), (1, .int p), (2, .int q), (3, .int e), (4, .int w)]) C dX12_span_124 (by decide) rfl ?_
            refine ar_iload (n := 2) C dX12_span_126 rfl ?_
            refine ar_if_eq (tgt := 139) C dX12_span_128 (by decide) (fun c_9 => False.elim (hk1 ((nI_eq (a := k) (b := 0) (by omega) (by decide)).mp c_9))) (fun _ => ?_)
            refine ar_lload (n := 1) C dX12_span_131 rfl ?_
            refine ar_lload (n := 3) C dX12_span_133 rfl ?_
            refine ar_lc_le (tgt := 144) C dX12_span_135 dX12_span_136 (by decide) (fun c_10 => ?_) (fun c_10 => ?_)
            · refine ar_lload (n := 3) C dX12_span_144 rfl ?_
              refine ar_topl (mfd f_lmax (vP S0 S1 p q e) (k + 1)) (mfd_hi3 hk1 c_10) ?_
              refine ar_lstore (als' := [(7, .long (mfd f_lmax (vP S0 S1 p q e) (k + 1))), (5, .long (mfd f_lmin (vP S0 S1 p q e) (k + 1))), (10, .long (vP S0 S1 p q e k)), (9, .int (nI k)), (0, .ref 96), (1, .int p), (2, .int q), (3, .int e), (4, .int w)]) C dX12_span_146 (by decide) rfl ?_
              refine ar_iinc (n := 3) (v := (nI (k + 1))) (als' := [(9, .int (nI (k + 1))), (7, .long (mfd f_lmax (vP S0 S1 p q e) (k + 1))), (5, .long (mfd f_lmin (vP S0 S1 p q e) (k + 1))), (10, .long (vP S0 S1 p q e k)), (0, .ref 96), (1, .int p), (2, .int q), (3, .int e), (4, .int w)]) C dX12_span_148 rfl (nI_1 _) (by decide) rfl ?_
              refine ar_goto (tgt := 55) C dX12_span_151 (by decide) ?_
              refine ar_sub [0, 1, 2, 4, 5, 6, 7, 8] rfl ?_
              exact ih (k + 1) _ (by omega) (h_3.1.trans hM) (allB_y hok c_4) (by omega)
            · refine ar_lload (n := 1) C dX12_span_139 rfl ?_
              refine ar_goto (tgt := 146) C dX12_span_141 (by decide) ?_
              refine ar_topl (mfd f_lmax (vP S0 S1 p q e) (k + 1)) (mfd_hi2 hk1 c_10) ?_
              refine ar_lstore (als' := [(7, .long (mfd f_lmax (vP S0 S1 p q e) (k + 1))), (5, .long (mfd f_lmin (vP S0 S1 p q e) (k + 1))), (10, .long (vP S0 S1 p q e k)), (9, .int (nI k)), (0, .ref 96), (1, .int p), (2, .int q), (3, .int e), (4, .int w)]) C dX12_span_146 (by decide) rfl ?_
              refine ar_iinc (n := 3) (v := (nI (k + 1))) (als' := [(9, .int (nI (k + 1))), (7, .long (mfd f_lmax (vP S0 S1 p q e) (k + 1))), (5, .long (mfd f_lmin (vP S0 S1 p q e) (k + 1))), (10, .long (vP S0 S1 p q e k)), (0, .ref 96), (1, .int p), (2, .int q), (3, .int e), (4, .int w)]) C dX12_span_148 rfl (nI_1 _) (by decide) rfl ?_
              refine ar_goto (tgt := 55) C dX12_span_151 (by decide) ?_
              refine ar_sub [0, 1, 2, 4, 5, 6, 7, 8] rfl ?_
              exact ih (k + 1) _ (by omega) (h_3.1.trans hM) (allB_y hok c_4) (by omega)
          · refine ar_lload (n := 0) C dX12_span_117 rfl ?_
            refine ar_goto (tgt := 124) C dX12_span_119 (by decide) ?_
            refine ar_topl (mfd f_lmin (vP S0 S1 p q e) (k + 1)) (mfd_lo2 hk1 c_8) ?_
            refine ar_lstore (als' := [(5, .long (mfd f_lmin (vP S0 S1 p q e) (k + 1))), (10, .long (vP S0 S1 p q e k)), (9, .int (nI k)), (7, .long (mfd f_lmax (vP S0 S1 p q e) k)), (0, .ref 96), (1, .int p), (2, .int q), (3, .int e), (4, .int w)]) C dX12_span_124 (by decide) rfl ?_
            refine ar_iload (n := 2) C dX12_span_126 rfl ?_
            refine ar_if_eq (tgt := 139) C dX12_span_128 (by decide) (fun c_11 => False.elim (hk1 ((nI_eq (a := k) (b := 0) (by omega) (by decide)).mp c_11))) (fun _ => ?_)
            refine ar_lload (n := 1) C dX12_span_131 rfl ?_
            refine ar_lload (n := 3) C dX12_span_133 rfl ?_
            refine ar_lc_le (tgt := 144) C dX12_span_135 dX12_span_136 (by decide) (fun c_12 => ?_) (fun c_12 => ?_)
            · refine ar_lload (n := 3) C dX12_span_144 rfl ?_
              refine ar_topl (mfd f_lmax (vP S0 S1 p q e) (k + 1)) (mfd_hi3 hk1 c_12) ?_
              refine ar_lstore (als' := [(7, .long (mfd f_lmax (vP S0 S1 p q e) (k + 1))), (5, .long (mfd f_lmin (vP S0 S1 p q e) (k + 1))), (10, .long (vP S0 S1 p q e k)), (9, .int (nI k)), (0, .ref 96), (1, .int p), (2, .int q), (3, .int e), (4, .int w)]) C dX12_span_146 (by decide) rfl ?_
              refine ar_iinc (n := 3) (v := (nI (k + 1))) (als' := [(9, .int (nI (k + 1))), (7, .long (mfd f_lmax (vP S0 S1 p q e) (k + 1))), (5, .long (mfd f_lmin (vP S0 S1 p q e) (k + 1))), (10, .long (vP S0 S1 p q e k)), (0, .ref 96), (1, .int p), (2, .int q), (3, .int e), (4, .int w)]) C dX12_span_148 rfl (nI_1 _) (by decide) rfl ?_
              refine ar_goto (tgt := 55) C dX12_span_151 (by decide) ?_
              refine ar_sub [0, 1, 2, 4, 5, 6, 7, 8] rfl ?_
              exact ih (k + 1) _ (by omega) (h_3.1.trans hM) (allB_y hok c_4) (by omega)
            · refine ar_lload (n := 1) C dX12_span_139 rfl ?_
              refine ar_goto (tgt := 146) C dX12_span_141 (by decide) ?_
              refine ar_topl (mfd f_lmax (vP S0 S1 p q e) (k + 1)) (mfd_hi2 hk1 c_12) ?_
              refine ar_lstore (als' := [(7, .long (mfd f_lmax (vP S0 S1 p q e) (k + 1))), (5, .long (mfd f_lmin (vP S0 S1 p q e) (k + 1))), (10, .long (vP S0 S1 p q e k)), (9, .int (nI k)), (0, .ref 96), (1, .int p), (2, .int q), (3, .int e), (4, .int w)]) C dX12_span_146 (by decide) rfl ?_
              refine ar_iinc (n := 3) (v := (nI (k + 1))) (als' := [(9, .int (nI (k + 1))), (7, .long (mfd f_lmax (vP S0 S1 p q e) (k + 1))), (5, .long (mfd f_lmin (vP S0 S1 p q e) (k + 1))), (10, .long (vP S0 S1 p q e k)), (0, .ref 96), (1, .int p), (2, .int q), (3, .int e), (4, .int w)]) C dX12_span_148 rfl (nI_1 _) (by decide) rfl ?_
              refine ar_goto (tgt := 55) C dX12_span_151 (by decide) ?_
              refine ar_sub [0, 1, 2, 4, 5, 6, 7, 8] rfl ?_
              exact ih (k + 1) _ (by omega) (h_3.1.trans hM) (allB_y hok c_4) (by omega)
      · exact k0 _ _ (h_3.1.trans hM) (allB_no (p := (okP S0 S1 p q e)) (k := k) c_4 9 hk)
set_option maxHeartbeats 4000000 in
set_option maxRecDepth 100000 in
theorem m_span_0 (M : Mm) (p q e : Int32) (hp : f_in p (-1000) 1000 = true) (hq : f_in q (-1000) 1000 = true) (he : f_in e 0 20 = true) {S0 S1 : Nat → Int32} (hS : M2 M S0 S1) : AQ mX12_span 2 [.ref 96, .int p, .int q, .int e, .int 0] M (some (.long (if allB (okP S0 S1 p q e) 9 = true then mfd f_lmin (vP S0 S1 p q e) 9 else -1000000))) (fun M1 => M1.1 = (wi M 96 0 0).1) := by
  refine AM_ofF (by decide +kernel) (Nat.le_of_ble_eq_true rfl) (fun X V C _ _ => ?_)
  show AW X V mX12_span.2.2.1 T0 M 0 0 _ 0 [(0, .ref 96), (1, .int p), (2, .int q), (3, .int e), (4, .int 0)] []
  refine ar_aload_n (n := 0) C dX12_span_0 rfl rfl ?_
  refine ar_iconst (v := 0) C dX12_span_1 (by decide) ?_
  refine ar_puti C flX12_59 kd_96 dX12_span_2 ?_
  refine ar_iload_n (n := 1) C dX12_span_5 rfl rfl ?_
  refine cS1 (ar := [.int p]) (st := []) C lkX12_188 (k_mSight (wi M 96 0 0) p) (by decide) rfl (Nat.le_of_ble_eq_true rfl) rfl dX12_span_6 ?_
  refine ar_if_eqB (tgt := 42) C dX12_span_9 (by decide) (fun c_1 => False.elim (Bool.noConfusion (hp.symm.trans c_1))) (fun _ => ?_)
  refine ar_iload_n (n := 2) C dX12_span_12 rfl rfl ?_
  refine cS1 (ar := [.int q]) (st := []) C lkX12_188 (k_mSight (wi M 96 0 0) q) (by decide) rfl (Nat.le_of_ble_eq_true rfl) rfl dX12_span_13 ?_
  refine ar_if_eqB (tgt := 42) C dX12_span_16 (by decide) (fun c_2 => False.elim (Bool.noConfusion (hq.symm.trans c_2))) (fun _ => ?_)
  refine ar_iload_n (n := 3) C dX12_span_19 rfl rfl ?_
  refine ar_i2l C dX12_span_20 ?_
  refine ar_lconst (v := 0) C dX12_span_21 (by decide) ?_
  refine ar_ldc2 C kcX12_199 dX12_span_22 ?_
  refine cS1 (ar := [.long e.toInt64, .long 0, .long 20]) (st := []) C lkX12_69 (k_inI (wi M 96 0 0) e 0 20 _ _ (by decide) (by decide)) (by decide) rfl (Nat.le_of_ble_eq_true rfl) rfl dX12_span_25 ?_
  refine ar_if_eqB (tgt := 42) C dX12_span_28 (by decide) (fun c_3 => False.elim (Bool.noConfusion (he.symm.trans c_3))) (fun _ => ?_)
  refine ar_iload (n := 4) C dX12_span_31 rfl ?_
  refine ar_i2l C dX12_span_33 ?_
  refine ar_lconst (v := 0) C dX12_span_34 (by decide) ?_
  refine ar_lconst (v := 1) C dX12_span_35 (by decide) ?_
  refine cS1 (ar := [.long ((0 : Int32).toInt64), .long 0, .long 1]) (st := []) C lkX12_69 (k_inI (wi M 96 0 0) 0 0 1 _ _ (by decide) (by decide)) (by decide) rfl (Nat.le_of_ble_eq_true rfl) rfl dX12_span_36 ?_
  refine ar_if_neB (tgt := 46) C dX12_span_39 (by decide) (fun _ => ?_) (fun c_4 => False.elim (Bool.noConfusion ((show f_in 0 0 1 = true by decide).symm.trans c_4)))
  refine ar_lconst (v := 0) C dX12_span_46 (by decide) ?_
  refine ar_lstore (als' := [(5, .long 0), (0, .ref 96), (1, .int p), (2, .int q), (3, .int e), (4, .int 0)]) C dX12_span_47 (by decide) rfl ?_
  refine ar_lconst (v := 0) C dX12_span_49 (by decide) ?_
  refine ar_lstore (als' := [(7, .long 0), (5, .long 0), (0, .ref 96), (1, .int p), (2, .int q), (3, .int e), (4, .int 0)]) C dX12_span_50 (by decide) rfl ?_
  refine ar_iconst (v := 0) C dX12_span_52 (by decide) ?_
  refine ar_istore (als' := [(9, .int 0), (7, .long 0), (5, .long 0), (0, .ref 96), (1, .int p), (2, .int q), (3, .int e), (4, .int 0)]) C dX12_span_53 (by decide) rfl ?_
  refine l_mspan C (wi M 96 0 0) p q e 0 hp hq he (M2_o rfl hS) (fun M1 hM ho => ?_) (fun M1 als hM ho => ?_) 10 0 _ (by omega) rfl rfl (by omega)
  · refine ar_iload (n := 7) C dX12_span_154 rfl ?_
    refine ar_if_ne (tgt := 164) C dX12_span_156 (by decide) (fun c => absurd rfl c) (fun _ => ?_)
    refine ar_lload (n := 2) C dX12_span_159 rfl ?_
    refine ar_goto (tgt := 166) C dX12_span_161 (by decide) ?_
    exact ar_lreturn C rfl dX12_span_166 ⟨by rw [if_pos ho], rfl, hM⟩
  · refine ar_ldc2 C kcX12_197 dX12_span_89 ?_
    exact ar_lreturn C rfl dX12_span_92 ⟨by rw [if_neg (by rw [ho]; decide)], rfl, hM⟩
set_option maxHeartbeats 4000000 in
set_option maxRecDepth 100000 in
theorem m_span_1 (M : Mm) (p q e : Int32) (hp : f_in p (-1000) 1000 = true) (hq : f_in q (-1000) 1000 = true) (he : f_in e 0 20 = true) {S0 S1 : Nat → Int32} (hS : M2 M S0 S1) : AQ mX12_span 2 [.ref 96, .int p, .int q, .int e, .int 1] M (some (.long (if allB (okP S0 S1 p q e) 9 = true then mfd f_lmax (vP S0 S1 p q e) 9 else -1000000))) (fun M1 => M1.1 = (wi M 96 0 0).1) := by
  refine AM_ofF (by decide +kernel) (Nat.le_of_ble_eq_true rfl) (fun X V C _ _ => ?_)
  show AW X V mX12_span.2.2.1 T0 M 0 0 _ 0 [(0, .ref 96), (1, .int p), (2, .int q), (3, .int e), (4, .int 1)] []
  refine ar_aload_n (n := 0) C dX12_span_0 rfl rfl ?_
  refine ar_iconst (v := 0) C dX12_span_1 (by decide) ?_
  refine ar_puti C flX12_59 kd_96 dX12_span_2 ?_
  refine ar_iload_n (n := 1) C dX12_span_5 rfl rfl ?_
  refine cS1 (ar := [.int p]) (st := []) C lkX12_188 (k_mSight (wi M 96 0 0) p) (by decide) rfl (Nat.le_of_ble_eq_true rfl) rfl dX12_span_6 ?_
  refine ar_if_eqB (tgt := 42) C dX12_span_9 (by decide) (fun c_1 => False.elim (Bool.noConfusion (hp.symm.trans c_1))) (fun _ => ?_)
  refine ar_iload_n (n := 2) C dX12_span_12 rfl rfl ?_
  refine cS1 (ar := [.int q]) (st := []) C lkX12_188 (k_mSight (wi M 96 0 0) q) (by decide) rfl (Nat.le_of_ble_eq_true rfl) rfl dX12_span_13 ?_
  refine ar_if_eqB (tgt := 42) C dX12_span_16 (by decide) (fun c_2 => False.elim (Bool.noConfusion (hq.symm.trans c_2))) (fun _ => ?_)
  refine ar_iload_n (n := 3) C dX12_span_19 rfl rfl ?_
  refine ar_i2l C dX12_span_20 ?_
  refine ar_lconst (v := 0) C dX12_span_21 (by decide) ?_
  refine ar_ldc2 C kcX12_199 dX12_span_22 ?_
  refine cS1 (ar := [.long e.toInt64, .long 0, .long 20]) (st := []) C lkX12_69 (k_inI (wi M 96 0 0) e 0 20 _ _ (by decide) (by decide)) (by decide) rfl (Nat.le_of_ble_eq_true rfl) rfl dX12_span_25 ?_
  refine ar_if_eqB (tgt := 42) C dX12_span_28 (by decide) (fun c_3 => False.elim (Bool.noConfusion (he.symm.trans c_3))) (fun _ => ?_)
  refine ar_iload (n := 4) C dX12_span_31 rfl ?_
  refine ar_i2l C dX12_span_33 ?_
  refine ar_lconst (v := 0) C dX12_span_34 (by decide) ?_
  refine ar_lconst (v := 1) C dX12_span_35 (by decide) ?_
  refine cS1 (ar := [.long ((1 : Int32).toInt64), .long 0, .long 1]) (st := []) C lkX12_69 (k_inI (wi M 96 0 0) 1 0 1 _ _ (by decide) (by decide)) (by decide) rfl (Nat.le_of_ble_eq_true rfl) rfl dX12_span_36 ?_
  refine ar_if_neB (tgt := 46) C dX12_span_39 (by decide) (fun _ => ?_) (fun c_4 => False.elim (Bool.noConfusion ((show f_in 1 0 1 = true by decide).symm.trans c_4)))
  refine ar_lconst (v := 0) C dX12_span_46 (by decide) ?_
  refine ar_lstore (als' := [(5, .long 0), (0, .ref 96), (1, .int p), (2, .int q), (3, .int e), (4, .int 1)]) C dX12_span_47 (by decide) rfl ?_
  refine ar_lconst (v := 0) C dX12_span_49 (by decide) ?_
  refine ar_lstore (als' := [(7, .long 0), (5, .long 0), (0, .ref 96), (1, .int p), (2, .int q), (3, .int e), (4, .int 1)]) C dX12_span_50 (by decide) rfl ?_
  refine ar_iconst (v := 0) C dX12_span_52 (by decide) ?_
  refine ar_istore (als' := [(9, .int 0), (7, .long 0), (5, .long 0), (0, .ref 96), (1, .int p), (2, .int q), (3, .int e), (4, .int 1)]) C dX12_span_53 (by decide) rfl ?_
  refine l_mspan C (wi M 96 0 0) p q e 1 hp hq he (M2_o rfl hS) (fun M1 hM ho => ?_) (fun M1 als hM ho => ?_) 10 0 _ (by omega) rfl rfl (by omega)
  · refine ar_iload (n := 7) C dX12_span_154 rfl ?_
    refine ar_if_ne (tgt := 164) C dX12_span_156 (by decide) (fun _ => ?_) (fun c => absurd c (by decide))
    refine ar_lload (n := 1) C dX12_span_164 rfl ?_
    exact ar_lreturn C rfl dX12_span_166 ⟨by rw [if_pos ho], rfl, hM⟩
  · refine ar_ldc2 C kcX12_197 dX12_span_89 ?_
    exact ar_lreturn C rfl dX12_span_92 ⟨by rw [if_neg (by rw [ho]; decide)], rfl, hM⟩
/-- what is drawn: thing t of N is a mark where it shows -/
def ddH (N : Nat) (sh : Nat → Bool) (t : Nat) : Int32 := if t < N ∧ sh t = true then 1 else 0
def DM (M : Mm) (a N : Nat) (sh : Nat → Bool) (px py : Nat → Int32) (k : Nat) (M1 : Mm) : Prop := (∀ t, t < k → M1.1 105 (24 * a + t) = ddH N sh t) ∧ (∀ j, (j < 24 * a ∨ 24 * a + k ≤ j) → M1.1 105 j = M.1 105 j) ∧ (∀ j, M1.1 106 j = if 24 * a ≤ j ∧ j < 24 * a + k ∧ j - 24 * a < N ∧ sh (j - 24 * a) = true then px (j - 24 * a) else M.1 106 j) ∧ (∀ j, M1.1 107 j = if 24 * a ≤ j ∧ j < 24 * a + k ∧ j - 24 * a < N ∧ sh (j - 24 * a) = true then py (j - 24 * a) else M.1 107 j) ∧ (∀ c, c ≠ 105 → c ≠ 106 → c ≠ 107 → M1.1 c = M.1 c)
theorem DM_0 (M : Mm) (a N : Nat) (sh : Nat → Bool) (px py : Nat → Int32) : DM M a N sh px py 0 M :=
  ⟨fun t ht => absurd ht (Nat.not_lt_zero _), fun _ _ => rfl, fun j => by rw [if_neg (by omega)], fun j => by rw [if_neg (by omega)], fun _ _ _ _ => rfl⟩
theorem DM_no {M M1 : Mm} {a N k : Nat} {sh : Nat → Bool} {px py : Nat → Int32} (h : DM M a N sh px py k M1) (q : ¬ (k < N ∧ sh k = true)) : DM M a N sh px py (k + 1) (wi M1 105 (24 * a + k) 0) := by
  obtain ⟨h1, h2, h3, h4, h5⟩ := h
  refine ⟨fun t ht => ?_, fun j hj => ?_, fun j => ?_, fun j => ?_, fun c c1 c2 c3 => ?_⟩
  · by_cases e : t = k
    · subst e; simp [wi, ddH, q]
    · have : ¬ 24 * a + t = 24 * a + k := by omega
      simp only [wi, this, and_false, if_false]; exact h1 t (by omega)
  · have : ¬ j = 24 * a + k := by omega
    simp only [wi, this, and_false, if_false]; exact h2 j (by omega)
  · show M1.1 106 j = _
    rw [h3 j]
    by_cases e : j = 24 * a + k
    · have e2 : j - 24 * a = k := by omega
      rw [if_neg (by omega), if_neg (by rw [e2]; intro u; exact q u.2.2)]
    · by_cases u : 24 * a ≤ j ∧ j < 24 * a + k ∧ j - 24 * a < N ∧ sh (j - 24 * a) = true
      · rw [if_pos u, if_pos ⟨u.1, by omega, u.2.2⟩]
      · rw [if_neg u, if_neg (fun w => u ⟨w.1, by omega, w.2.2⟩)]
  · show M1.1 107 j = _
    rw [h4 j]
    by_cases e : j = 24 * a + k
    · have e2 : j - 24 * a = k := by omega
      rw [if_neg (by omega), if_neg (by rw [e2]; intro u; exact q u.2.2)]
    · by_cases u : 24 * a ≤ j ∧ j < 24 * a + k ∧ j - 24 * a < N ∧ sh (j - 24 * a) = true
      · rw [if_pos u, if_pos ⟨u.1, by omega, u.2.2⟩]
      · rw [if_neg u, if_neg (fun w => u ⟨w.1, by omega, w.2.2⟩)]
  · rw [← h5 c c1 c2 c3]; funext b; simp [wi, c1]
theorem DM_yes {M M1 : Mm} {a N k : Nat} {sh : Nat → Bool} {px py : Nat → Int32} {u v : Int32} (h : DM M a N sh px py k M1) (q : k < N) (q2 : sh k = true) (eu : u = px k) (ev : v = py k) : DM M a N sh px py (k + 1) (wi (wi (wi M1 105 (24 * a + k) 1) 106 (24 * a + k) u) 107 (24 * a + k) v) := by
  obtain ⟨h1, h2, h3, h4, h5⟩ := h
  refine ⟨fun t ht => ?_, fun j hj => ?_, fun j => ?_, fun j => ?_, fun c c1 c2 c3 => ?_⟩
  · by_cases e : t = k
    · subst e; simp [wi, ddH, q, q2]
    · have : ¬ 24 * a + t = 24 * a + k := by omega
      simp [wi, e]; exact h1 t (by omega)
  · have : ¬ j = 24 * a + k := by omega
    simp [wi, this]; exact h2 j (by omega)
  · by_cases e : j = 24 * a + k
    · have e2 : j - 24 * a = k := by omega
      rw [e2, if_pos ⟨by omega, by omega, q, q2⟩, ← eu, e]; simp [wi]
    · have e3 : (wi (wi (wi M1 105 (24 * a + k) 1) 106 (24 * a + k) u) 107 (24 * a + k) v).1 106 j = M1.1 106 j := by simp [wi, e]
      rw [e3, h3 j]
      by_cases w : 24 * a ≤ j ∧ j < 24 * a + k ∧ j - 24 * a < N ∧ sh (j - 24 * a) = true
      · rw [if_pos w, if_pos ⟨w.1, by omega, w.2.2⟩]
      · rw [if_neg w, if_neg (fun x => w ⟨x.1, by omega, x.2.2⟩)]
  · by_cases e : j = 24 * a + k
    · have e2 : j - 24 * a = k := by omega
      rw [e2, if_pos ⟨by omega, by omega, q, q2⟩, ← ev, e]; simp [wi]
    · have e3 : (wi (wi (wi M1 105 (24 * a + k) 1) 106 (24 * a + k) u) 107 (24 * a + k) v).1 107 j = M1.1 107 j := by simp [wi, e]
      rw [e3, h4 j]
      by_cases w : 24 * a ≤ j ∧ j < 24 * a + k ∧ j - 24 * a < N ∧ sh (j - 24 * a) = true
      · rw [if_pos w, if_pos ⟨w.1, by omega, w.2.2⟩]
      · rw [if_neg w, if_neg (fun x => w ⟨x.1, by omega, x.2.2⟩)]
  · rw [← h5 c c1 c2 c3]; funext b; simp [wi, c1, c2, c3]
theorem dd_no {N k : Nat} {sh : Nat → Bool} (q : ¬ (k < N ∧ sh k = true)) : cnt (ddH N sh) (k + 1) = cnt (ddH N sh) k := by simp [cnt, ddH, q]
theorem dd_yes {N k : Nat} {sh : Nat → Bool} (q : k < N) (q2 : sh k = true) : cnt (ddH N sh) (k + 1) = cnt (ddH N sh) k + 1 := by simp [cnt, ddH, q, q2]
abbrev tSh (ρ β tx ty tz : Nat → Int32) : Nat → Bool := fun t => P_shows ρ β (tx t) (ty t) (tz t)
abbrev tPx (ρ β tx tz : Nat → Int32) : Nat → Int32 := fun t => P_x ρ β (tx t) (tz t)
abbrev tPy (ρ β tx ty tz : Nat → Int32) : Nat → Int32 := fun t => P_y ρ β (tx t) (ty t) (tz t)
/-- N things, as the model holds them -/
def MA (M : Mm) (N : Nat) (ρ β tx ty tz : Nat → Int32) : Prop := M.1 96 7 = nI N ∧ N ≤ 24 ∧ ∀ t, t < N → MT M t ρ β (tx t) (ty t) (tz t)
set_option maxHeartbeats 4000000 in
set_option maxRecDepth 100000 in
theorem m_draw_bad (M : Mm) (a : Int32)  (hbad : (f_in a 0 7) = false) : AX mX12_draw 5 [.ref 96, .int a] M (some (.int (-1000001))) (wi M 96 0 0) := by
  refine AM_ofF (by decide +kernel) (Nat.le_of_ble_eq_true rfl) (fun X V C _ _ => ?_)
  show AW X V mX12_draw.2.2.1 T0 M 0 0 _ 0 [(0, .ref 96), (1, .int a)] []
  refine ar_aload_n (n := 0) C dX12_draw_0 rfl rfl ?_
  refine ar_iconst (v := 0) C dX12_draw_1 (by decide) ?_
  refine ar_puti C flX12_59 kd_96 dX12_draw_2 ?_
  refine ar_iload_n (n := 1) C dX12_draw_5 rfl rfl ?_
  refine cS1 (ar := [.int a]) (st := []) C lkX12_140 (k_mTrace (wi M 96 0 0) a) (by decide) rfl (Nat.le_of_ble_eq_true rfl) rfl dX12_draw_6 ?_
  refine ar_if_neB (tgt := 15) C dX12_draw_9 (by decide) (fun c_1 => ?_) (fun c_1 => ?_)
  · exact absurd hbad (by first | (rw [c_1]; decide) | simp [*])
  · refine ar_ldc C kcX12_79 dX12_draw_12 ?_
    exact ar_ireturn C rfl dX12_draw_14 ⟨rfl, rfl, rfl⟩
set_option maxHeartbeats 4000000 in
set_option maxRecDepth 100000 in
theorem l_mdraw {X : Ctx} {V : Vx} {Q : State → Prop} (C : Cx X V mX12_draw 5) (M : Mm) {a N : Nat} (ha : a < 8) {ρ β tx ty tz : Nat → Int32} (hA : MA M N ρ β tx ty tz) (kk : ∀ M1, DM M a N (tSh ρ β tx ty tz) (tPx ρ β tx tz) (tPy ρ β tx ty tz) 24 M1 → AW X V mX12_draw.2.2.1 T0 M1 0 0 Q 112 [(3, .int (nI 24)), (2, .int (nI (cnt (ddH N (tSh ρ β tx ty tz)) 24))), (0, .ref 96), (1, .int (nI a))] []) : ∀ (m : Nat) (k : Nat) (M1 : Mm), k ≤ 24 → DM M a N (tSh ρ β tx ty tz) (tPx ρ β tx tz) (tPy ρ β tx ty tz) k M1 → 24 - k < m → AW X V mX12_draw.2.2.1 T0 (M1) 0 0 Q 19 [(3, .int (nI k)), (2, .int (nI (cnt (ddH N (tSh ρ β tx ty tz)) k))), (0, .ref 96), (1, .int (nI a))] [] := by
  intro m
  induction m with
  | zero => intro k M1 _ _ h; exact absurd h (Nat.not_lt_zero _)
  | succ m ih =>
    intro k M1 hk0 hD hmz
    refine ar_iload_n (n := 0) C dX12_draw_19 rfl rfl ?_
    refine ar_bipush (v := 24) C dX12_draw_20 (by decide) ?_
    refine ar_icmp_ge (tgt := 112) C dX12_draw_22 (by decide) (fun c_1 => ?_) (fun c_1 => ?_)
    · have hk : k = 24 := Nat.le_antisymm hk0 (nat_le (a := 24) c_1 (by decide) (by omega))
      subst hk
      exact kk M1 hD
    · have hk : k < 24 := nat_nle (a := 24) c_1 (by decide) (by omega)
      have hN24 := hA.2.1
      refine ar_aload_n (n := 2) C dX12_draw_25 rfl rfl ?_
      refine ar_getr C flX12_34 rfl kd_96 rf_96_11 dX12_draw_26 ?_
      refine ar_bipush (v := 24) C dX12_draw_29 (by decide) ?_
      refine ar_iload_n (n := 3) C dX12_draw_31 rfl rfl ?_
      refine ar_imul C dX12_draw_32 ?_
      refine ar_iload_n (n := 0) C dX12_draw_33 rfl rfl ?_
      refine ar_iadd C dX12_draw_34 ?_
      refine ar_iload_n (n := 0) C dX12_draw_35 rfl rfl ?_
      refine ar_aload_n (n := 2) C dX12_draw_36 rfl rfl ?_
      refine ar_geti C flX12_102 kd_96 dX12_draw_37 ?_
      refine ar_topi (nI N) ((congrFun (hD.2.2.2.2 96 (by decide) (by decide) (by decide)) 7).trans hA.1) ?_
      refine ar_icmp_ge (tgt := 55) C dX12_draw_40 (by decide) (fun c_2 => ?_) (fun c_2 => ?_)
      · have hkN : N ≤ k := nat_le c_2 (by omega) (by omega)
        refine ar_iconst (v := 0) C dX12_draw_55 (by decide) ?_
        refine ar_zast (j := 24 * a + k) C kd_105 (ix24 a k) (by omega) rfl dX12_draw_56 ?_
        refine ar_aload_n (n := 2) C dX12_draw_57 rfl rfl ?_
        refine ar_getr C flX12_34 rfl kd_96 rf_96_11 dX12_draw_58 ?_
        refine ar_bipush (v := 24) C dX12_draw_61 (by decide) ?_
        refine ar_iload_n (n := 3) C dX12_draw_63 rfl rfl ?_
        refine ar_imul C dX12_draw_64 ?_
        refine ar_iload_n (n := 0) C dX12_draw_65 rfl rfl ?_
        refine ar_iadd C dX12_draw_66 ?_
        refine ar_zaldV (j := 24 * a + k) (v := 0) C kd_105 (ix24 a k) (by omega) (by simp [wi, wl]; try omega) dX12_draw_67 ?_
        refine ar_if_eq (tgt := 106) C dX12_draw_68 (by decide) (fun _ => ?_) (fun c_3 => absurd c_3 (by decide))
        refine ar_iinc (n := 0) (v := (nI (k + 1))) (als' := [(3, .int (nI (k + 1))), (2, .int (nI (cnt (ddH N (tSh ρ β tx ty tz)) k))), (0, .ref 96), (1, .int (nI a))]) C dX12_draw_106 rfl (nI_1 _) (by decide) rfl ?_
        refine ar_goto (tgt := 19) C dX12_draw_109 (by decide) ?_
        have hD2 := DM_no hD (fun q => absurd q.1 (Nat.not_lt.mpr hkN))
        have h9 := ih (k + 1) _ (by omega) hD2 (by omega)
        rw [dd_no (fun q => absurd q.1 (Nat.not_lt.mpr hkN))] at h9
        exact h9
      · have hkN : k < N := nat_nle c_2 (by omega) (by omega)
        have h : MT M1 k ρ β (tx k) (ty k) (tz k) := MT_o (fun c h1 h2 => hD.2.2.2.2 c (by omega) (by omega) (by omega)) (hA.2.2 k hkN)
        refine ar_aload_n (n := 2) C dX12_draw_43 rfl rfl ?_
        refine ar_iload_n (n := 0) C dX12_draw_44 rfl rfl ?_
        refine cV1 (ar := [.int (nI k)]) (st := [.int ((24 * (nI a)) + (nI k)), .ref 105]) C lkX12_146 kd_96 (m_isSeen M1 (t := k) hk h) (by decide) rfl (Nat.le_of_ble_eq_true rfl) rfl dX12_draw_45 ?_
        refine ar_if_eqB (tgt := 55) C dX12_draw_48 (by decide) (fun c_4 => ?_) (fun c_4 => ?_)
        · refine ar_iconst (v := 0) C dX12_draw_55 (by decide) ?_
          refine ar_zast (j := 24 * a + k) C kd_105 (ix24 a k) (by omega) rfl dX12_draw_56 ?_
          refine ar_aload_n (n := 2) C dX12_draw_57 rfl rfl ?_
          refine ar_getr C flX12_34 rfl kd_96 rf_96_11 dX12_draw_58 ?_
          refine ar_bipush (v := 24) C dX12_draw_61 (by decide) ?_
          refine ar_iload_n (n := 3) C dX12_draw_63 rfl rfl ?_
          refine ar_imul C dX12_draw_64 ?_
          refine ar_iload_n (n := 0) C dX12_draw_65 rfl rfl ?_
          refine ar_iadd C dX12_draw_66 ?_
          refine ar_zaldV (j := 24 * a + k) (v := 0) C kd_105 (ix24 a k) (by omega) (by simp [wi, wl]; try omega) dX12_draw_67 ?_
          refine ar_if_eq (tgt := 106) C dX12_draw_68 (by decide) (fun _ => ?_) (fun c_5 => absurd c_5 (by decide))
          refine ar_iinc (n := 0) (v := (nI (k + 1))) (als' := [(3, .int (nI (k + 1))), (2, .int (nI (cnt (ddH N (tSh ρ β tx ty tz)) k))), (0, .ref 96), (1, .int (nI a))]) C dX12_draw_106 rfl (nI_1 _) (by decide) rfl ?_
          refine ar_goto (tgt := 19) C dX12_draw_109 (by decide) ?_
          have hD2 := DM_no hD (fun q => absurd q.2 (by rw [show tSh ρ β tx ty tz k = false from c_4]; decide))
          have h9 := ih (k + 1) _ (by omega) hD2 (by omega)
          rw [dd_no (fun q => absurd q.2 (by rw [show tSh ρ β tx ty tz k = false from c_4]; decide))] at h9
          exact h9
        · refine ar_iconst (v := 1) C dX12_draw_51 (by decide) ?_
          refine ar_goto (tgt := 56) C dX12_draw_52 (by decide) ?_
          refine ar_zast (j := 24 * a + k) C kd_105 (ix24 a k) (by omega) rfl dX12_draw_56 ?_
          refine ar_aload_n (n := 2) C dX12_draw_57 rfl rfl ?_
          refine ar_getr C flX12_34 rfl kd_96 rf_96_11 dX12_draw_58 ?_
          refine ar_bipush (v := 24) C dX12_draw_61 (by decide) ?_
          refine ar_iload_n (n := 3) C dX12_draw_63 rfl rfl ?_
          refine ar_imul C dX12_draw_64 ?_
          refine ar_iload_n (n := 0) C dX12_draw_65 rfl rfl ?_
          refine ar_iadd C dX12_draw_66 ?_
          refine ar_zaldV (j := 24 * a + k) (v := 1) C kd_105 (ix24 a k) (by omega) (by simp [wi, wl]; try omega) dX12_draw_67 ?_
          refine ar_if_eq (tgt := 106) C dX12_draw_68 (by decide) (fun c_6 => absurd c_6 (by decide)) (fun _ => ?_)
          refine ar_aload_n (n := 2) C dX12_draw_71 rfl rfl ?_
          refine ar_getr C flX12_38 rfl kd_96 rf_96_12 dX12_draw_72 ?_
          refine ar_bipush (v := 24) C dX12_draw_75 (by decide) ?_
          refine ar_iload_n (n := 3) C dX12_draw_77 rfl rfl ?_
          refine ar_imul C dX12_draw_78 ?_
          refine ar_iload_n (n := 0) C dX12_draw_79 rfl rfl ?_
          refine ar_iadd C dX12_draw_80 ?_
          refine ar_aload_n (n := 2) C dX12_draw_81 rfl rfl ?_
          refine ar_iload_n (n := 0) C dX12_draw_82 rfl rfl ?_
          refine cV1 (ar := [.int (nI k)]) (st := [.int ((24 * (nI a)) + (nI k)), .ref 106]) C lkX12_129 kd_96 (m_acrossOf (wi M1 105 (24 * a + k) 1) (t := k) hk (MT_s (Or.inr (by decide)) h)) (by decide) rfl (Nat.le_of_ble_eq_true rfl) rfl dX12_draw_83 ?_
          refine ar_iast (j := 24 * a + k) C kd_106 (ix24 a k) (by omega) dX12_draw_86 ?_
          refine ar_aload_n (n := 2) C dX12_draw_87 rfl rfl ?_
          refine ar_getr C flX12_41 rfl kd_96 rf_96_13 dX12_draw_88 ?_
          refine ar_bipush (v := 24) C dX12_draw_91 (by decide) ?_
          refine ar_iload_n (n := 3) C dX12_draw_93 rfl rfl ?_
          refine ar_imul C dX12_draw_94 ?_
          refine ar_iload_n (n := 0) C dX12_draw_95 rfl rfl ?_
          refine ar_iadd C dX12_draw_96 ?_
          refine ar_aload_n (n := 2) C dX12_draw_97 rfl rfl ?_
          refine ar_iload_n (n := 0) C dX12_draw_98 rfl rfl ?_
          refine cV1 (ar := [.int (nI k)]) (st := [.int ((24 * (nI a)) + (nI k)), .ref 107]) C lkX12_132 kd_96 (m_downOf (wi (wi M1 105 (24 * a + k) 1) 106 (24 * a + k) (P_x ρ β (tx k) (tz k))) (t := k) hk (MT_s (Or.inr (by decide)) (MT_s (Or.inr (by decide)) h))) (by decide) rfl (Nat.le_of_ble_eq_true rfl) rfl dX12_draw_99 ?_
          refine ar_iast (j := 24 * a + k) C kd_107 (ix24 a k) (by omega) dX12_draw_102 ?_
          refine ar_iinc (n := 1) (v := (nI (cnt (ddH N (tSh ρ β tx ty tz)) k + 1))) (als' := [(2, .int (nI (cnt (ddH N (tSh ρ β tx ty tz)) k + 1))), (3, .int (nI k)), (0, .ref 96), (1, .int (nI a))]) C dX12_draw_103 rfl (nI_1 _) (by decide) rfl ?_
          refine ar_iinc (n := 1) (v := (nI (k + 1))) (als' := [(3, .int (nI (k + 1))), (2, .int (nI (cnt (ddH N (tSh ρ β tx ty tz)) k + 1))), (0, .ref 96), (1, .int (nI a))]) C dX12_draw_106 rfl (nI_1 _) (by decide) rfl ?_
          refine ar_goto (tgt := 19) C dX12_draw_109 (by decide) ?_
          have hD2 := DM_yes hD hkN (show (tSh ρ β tx ty tz) k = true from c_4) rfl rfl
          have h9 := ih (k + 1) _ (by omega) hD2 (by omega)
          rw [dd_yes hkN (show (tSh ρ β tx ty tz) k = true from c_4)] at h9
          exact h9
set_option maxHeartbeats 4000000 in
set_option maxRecDepth 100000 in
theorem m_draw_ok (M : Mm) {a N : Nat} (ha : a < 8) {ρ β tx ty tz : Nat → Int32} (hA : MA M N ρ β tx ty tz) : AQ mX12_draw 5 [.ref 96, .int (nI a)] M (some (.int (nI (cnt (ddH N (tSh ρ β tx ty tz)) 24)))) (DM (wi M 96 0 0) a N (tSh ρ β tx ty tz) (tPx ρ β tx tz) (tPy ρ β tx ty tz) 24) := by
  have hA2 : MA (wi M 96 0 0) N ρ β tx ty tz := ⟨hA.1, hA.2.1, fun t ht => MT_s (Or.inl (by decide)) (hA.2.2 t ht)⟩
  refine AM_ofF (by decide +kernel) (Nat.le_of_ble_eq_true rfl) (fun X V C _ _ => ?_)
  show AW X V mX12_draw.2.2.1 T0 M 0 0 _ 0 [(0, .ref 96), (1, .int (nI a))] []
  refine ar_aload_n (n := 0) C dX12_draw_0 rfl rfl ?_
  refine ar_iconst (v := 0) C dX12_draw_1 (by decide) ?_
  refine ar_puti C flX12_59 kd_96 dX12_draw_2 ?_
  refine ar_iload_n (n := 1) C dX12_draw_5 rfl rfl ?_
  refine cS1 (ar := [.int (nI a)]) (st := []) C lkX12_140 (k_mTrace (wi M 96 0 0) (nI a)) (by decide) rfl (Nat.le_of_ble_eq_true rfl) rfl dX12_draw_6 ?_
  refine ar_if_neB (tgt := 15) C dX12_draw_9 (by decide) (fun _ => ?_) (fun c_1 => False.elim (Bool.noConfusion ((in7 ha).symm.trans c_1)))
  refine ar_iconst (v := 0) C dX12_draw_15 (by decide) ?_
  refine ar_istore_n (als' := [(2, .int 0), (0, .ref 96), (1, .int (nI a))]) C dX12_draw_16 rfl (by decide) rfl ?_
  refine ar_iconst (v := 0) C dX12_draw_17 (by decide) ?_
  refine ar_istore_n (als' := [(3, .int 0), (2, .int 0), (0, .ref 96), (1, .int (nI a))]) C dX12_draw_18 rfl (by decide) rfl ?_
  refine l_mdraw C (wi M 96 0 0) ha hA2 (fun M1 hD => ?_) 25 0 _ (by omega) (DM_0 _ _ _ _ _ _) (by omega)
  refine ar_iload_n (n := 1) C dX12_draw_112 rfl rfl ?_
  exact ar_ireturn C rfl dX12_draw_113 ⟨rfl, rfl, hD⟩
def mbg (M : Mm) (t : Nat) (v : Int32) : Mm := wi (wi M 112 t v) 96 28 (nI (t + 1))
theorem mbg_1 (M : Mm) (t : Nat) (v : Int32) : (mbg M t v).1 96 28 = nI (t + 1) := by simp [mbg, wi]
theorem MT_bg {M : Mm} {t b : Nat} {v : Int32} {ρ β : Nat → Int32} {x y z : Int32} (h : MT M t ρ β x y z) : MT (mbg M b v) t ρ β x y z := MT_s (Or.inl (by decide)) (MT_s (Or.inr (by decide)) h)
set_option maxHeartbeats 4000000 in
set_option maxRecDepth 100000 in
theorem m_began (M : Mm) {t : Nat} (ht : M.1 96 28 = nI t) (h16 : t < 16) (v : Int32) : AX mX12_began 0 [.ref 96, .int v] M none (mbg M t v) := by
  refine AM_ofF (by decide +kernel) (Nat.le_of_ble_eq_true rfl) (fun X V C _ _ => ?_)
  show AW X V mX12_began.2.2.1 T0 M 0 0 _ 0 [(0, .ref 96), (1, .int v)] []
  refine ar_aload_n (n := 0) C dX12_began_0 rfl rfl ?_
  refine ar_geti C flX12_233 kd_96 dX12_began_1 ?_
  refine ar_topi (nI t) ht ?_
  refine ar_bipush (v := 16) C dX12_began_4 (by decide) ?_
  refine ar_icmp_ge (tgt := 29) C dX12_began_6 (by decide) (fun c_1 => False.elim (nI_ge (a := t) (b := 16) h16 (by decide) c_1)) (fun _ => ?_)
  refine ar_aload_n (n := 0) C dX12_began_9 rfl rfl ?_
  refine ar_getr C flX12_56 rfl kd_96 rf_96_27 dX12_began_10 ?_
  refine ar_aload_n (n := 0) C dX12_began_13 rfl rfl ?_
  refine ar_geti C flX12_233 kd_96 dX12_began_14 ?_
  refine ar_topi (nI t) ht ?_
  refine ar_iload_n (n := 1) C dX12_began_17 rfl rfl ?_
  refine ar_iast (j := t) C kd_112 rfl h16 dX12_began_18 ?_
  refine ar_aload_n (n := 0) C dX12_began_19 rfl rfl ?_
  refine ar_dup C dX12_began_20 rfl ?_
  refine ar_getiV (v := M.1 96 28) C flX12_233 kd_96 (by simp [wi, wl]; try omega) dX12_began_21 ?_
  refine ar_topi (nI t) (by simp [wi, ht]) ?_
  refine ar_iconst (v := 1) C dX12_began_24 (by decide) ?_
  refine ar_iadd C dX12_began_25 ?_
  refine ar_topi (nI (t + 1)) (nI_1 t) ?_
  refine ar_puti C flX12_233 kd_96 dX12_began_26 ?_
  exact ar_return C rfl dX12_began_29 ⟨rfl, rfl, rfl⟩
set_option maxHeartbeats 4000000 in
set_option maxRecDepth 100000 in
theorem m_seenSize_1 (M : Mm) {t : Nat} (ht : t < 24) {ρ β : Nat → Int32} {x y z : Int32} (h : MT M t ρ β x y z) {b : Nat} (hb : M.1 96 28 = nI b) (h16 : b + 6 ≤ 16) : AX mX12_seenSize 4 [.ref 96, .int (nI t), .int 1] M (some (.int (z + P_blur ρ β x z))) (mbg (mbg M b 11) (b + 1) 10) := by
  have h0 := h
  obtain ⟨e1, e2, e3, e4, e5, h6, h7, h8⟩ := h0
  refine AM_ofF (by decide +kernel) (Nat.le_of_ble_eq_true rfl) (fun X V C _ _ => ?_)
  show AW X V mX12_seenSize.2.2.1 T0 M 0 0 _ 0 [(0, .ref 96), (1, .int (nI t)), (2, .int 1)] []
  refine ar_iload_n (n := 2) C dX12_seenSize_0 rfl rfl ?_
  refine ar_iconst (v := 2) C dX12_seenSize_1 (by decide) ?_
  refine ar_icmp_ne (tgt := 11) C dX12_seenSize_2 (by decide) (fun _ => ?_) (fun c_1 => absurd c_1 (by decide))
  refine ar_aload_n (n := 0) C dX12_seenSize_11 rfl rfl ?_
  refine ar_bipush (v := 11) C dX12_seenSize_12 (by decide) ?_
  refine cV0 (ar := [.int 11]) (st := []) C lkX12_236 kd_96 (m_began (t := b) M hb (by omega) 11) (by decide) rfl (Nat.le_of_ble_eq_true rfl) rfl dX12_seenSize_14 ?_
  refine ar_aload_n (n := 0) C dX12_seenSize_17 rfl rfl ?_
  refine ar_bipush (v := 10) C dX12_seenSize_18 (by decide) ?_
  refine cV0 (ar := [.int 10]) (st := []) C lkX12_236 kd_96 (m_began (t := (b + 1)) (mbg M b 11) (mbg_1 _ _ _) (by omega) 10) (by decide) rfl (Nat.le_of_ble_eq_true rfl) rfl dX12_seenSize_20 ?_
  refine ar_aload_n (n := 0) C dX12_seenSize_23 rfl rfl ?_
  refine ar_getr C flX12_31 rfl kd_96 rf_96_10 dX12_seenSize_24 ?_
  refine ar_iload_n (n := 1) C dX12_seenSize_27 rfl rfl ?_
  refine ar_iald (j := t) C kd_104 rfl ht dX12_seenSize_28 ?_
  refine ar_topi z ((MT_bg (MT_bg h))).2.2.2.2.1 ?_
  refine ar_aload_n (n := 0) C dX12_seenSize_29 rfl rfl ?_
  refine ar_iload_n (n := 1) C dX12_seenSize_30 rfl rfl ?_
  refine cV1 (ar := [.int (nI t)]) (st := [.int z]) C lkX12_135 kd_96 (m_blurOf (mbg (mbg M b 11) (b + 1) 10) (t := t) ht (MT_bg (MT_bg h))) (by decide) rfl (Nat.le_of_ble_eq_true rfl) rfl dX12_seenSize_31 ?_
  refine ar_iadd C dX12_seenSize_34 ?_
  refine ar_istore_n (als' := [(3, .int (z + (P_blur ρ β x z))), (0, .ref 96), (1, .int (nI t)), (2, .int 1)]) C dX12_seenSize_35 rfl (by decide) rfl ?_
  refine ar_iload_n (n := 3) C dX12_seenSize_36 rfl rfl ?_
  refine ar_iconst (v := 2) C dX12_seenSize_37 (by decide) ?_
  refine ar_icmp_ne (tgt := 47) C dX12_seenSize_38 (by decide) (fun _ => ?_) (fun c_2 => absurd c_2 (by decide))
  refine ar_iload_n (n := 0) C dX12_seenSize_47 rfl rfl ?_
  exact ar_ireturn C rfl dX12_seenSize_48 ⟨rfl, rfl, rfl⟩
set_option maxHeartbeats 4000000 in
set_option maxRecDepth 100000 in
theorem m_seenSize_2 (M : Mm) {t : Nat} (ht : t < 24) {ρ β : Nat → Int32} {x y z : Int32} (h : MT M t ρ β x y z) {b : Nat} (hb : M.1 96 28 = nI b) (h16 : b + 6 ≤ 16) : AX mX12_seenSize 4 [.ref 96, .int (nI t), .int 2] M (some (.int (2 * (z + P_blur ρ β x z)))) (mbg (mbg (mbg M b 12) (b + 1) 11) (b + 2) 10) := by
  have h0 := h
  obtain ⟨e1, e2, e3, e4, e5, h6, h7, h8⟩ := h0
  refine AM_ofF (by decide +kernel) (Nat.le_of_ble_eq_true rfl) (fun X V C _ _ => ?_)
  show AW X V mX12_seenSize.2.2.1 T0 M 0 0 _ 0 [(0, .ref 96), (1, .int (nI t)), (2, .int 2)] []
  refine ar_iload_n (n := 2) C dX12_seenSize_0 rfl rfl ?_
  refine ar_iconst (v := 2) C dX12_seenSize_1 (by decide) ?_
  refine ar_icmp_ne (tgt := 11) C dX12_seenSize_2 (by decide) (fun c_1 => absurd c_1 (by decide)) (fun _ => ?_)
  refine ar_aload_n (n := 0) C dX12_seenSize_5 rfl rfl ?_
  refine ar_bipush (v := 12) C dX12_seenSize_6 (by decide) ?_
  refine cV0 (ar := [.int 12]) (st := []) C lkX12_236 kd_96 (m_began (t := b) M hb (by omega) 12) (by decide) rfl (Nat.le_of_ble_eq_true rfl) rfl dX12_seenSize_8 ?_
  refine ar_aload_n (n := 0) C dX12_seenSize_11 rfl rfl ?_
  refine ar_bipush (v := 11) C dX12_seenSize_12 (by decide) ?_
  refine cV0 (ar := [.int 11]) (st := []) C lkX12_236 kd_96 (m_began (t := (b + 1)) (mbg M b 12) (mbg_1 _ _ _) (by omega) 11) (by decide) rfl (Nat.le_of_ble_eq_true rfl) rfl dX12_seenSize_14 ?_
  refine ar_aload_n (n := 0) C dX12_seenSize_17 rfl rfl ?_
  refine ar_bipush (v := 10) C dX12_seenSize_18 (by decide) ?_
  refine cV0 (ar := [.int 10]) (st := []) C lkX12_236 kd_96 (m_began (t := (b + 2)) (mbg (mbg M b 12) (b + 1) 11) (mbg_1 _ _ _) (by omega) 10) (by decide) rfl (Nat.le_of_ble_eq_true rfl) rfl dX12_seenSize_20 ?_
  refine ar_aload_n (n := 0) C dX12_seenSize_23 rfl rfl ?_
  refine ar_getr C flX12_31 rfl kd_96 rf_96_10 dX12_seenSize_24 ?_
  refine ar_iload_n (n := 1) C dX12_seenSize_27 rfl rfl ?_
  refine ar_iald (j := t) C kd_104 rfl ht dX12_seenSize_28 ?_
  refine ar_topi z ((MT_bg (MT_bg (MT_bg h)))).2.2.2.2.1 ?_
  refine ar_aload_n (n := 0) C dX12_seenSize_29 rfl rfl ?_
  refine ar_iload_n (n := 1) C dX12_seenSize_30 rfl rfl ?_
  refine cV1 (ar := [.int (nI t)]) (st := [.int z]) C lkX12_135 kd_96 (m_blurOf (mbg (mbg (mbg M b 12) (b + 1) 11) (b + 2) 10) (t := t) ht (MT_bg (MT_bg (MT_bg h)))) (by decide) rfl (Nat.le_of_ble_eq_true rfl) rfl dX12_seenSize_31 ?_
  refine ar_iadd C dX12_seenSize_34 ?_
  refine ar_istore_n (als' := [(3, .int (z + (P_blur ρ β x z))), (0, .ref 96), (1, .int (nI t)), (2, .int 2)]) C dX12_seenSize_35 rfl (by decide) rfl ?_
  refine ar_iload_n (n := 3) C dX12_seenSize_36 rfl rfl ?_
  refine ar_iconst (v := 2) C dX12_seenSize_37 (by decide) ?_
  refine ar_icmp_ne (tgt := 47) C dX12_seenSize_38 (by decide) (fun c_2 => absurd c_2 (by decide)) (fun _ => ?_)
  refine ar_iconst (v := 2) C dX12_seenSize_41 (by decide) ?_
  refine ar_iload_n (n := 0) C dX12_seenSize_42 rfl rfl ?_
  refine ar_imul C dX12_seenSize_43 ?_
  refine ar_goto (tgt := 48) C dX12_seenSize_44 (by decide) ?_
  exact ar_ireturn C rfl dX12_seenSize_48 ⟨rfl, rfl, rfl⟩
set_option maxHeartbeats 4000000 in
set_option maxRecDepth 100000 in
theorem m_markOf_1 (M : Mm) {t : Nat} (ht : t < 24) {ρ β : Nat → Int32} {x y z : Int32} (h : MT M t ρ β x y z) {b : Nat} (hb : M.1 96 28 = nI b) (h16 : b + 9 ≤ 16) : AX mX12_markOf 5 [.ref 96, .int (nI t), .int 1] M (some (.int (f_colc (f_by (-x * ρ 2) z) + 100 + 0))) (mbg (mbg M b 21) (b + 1) 20) := by
  have h0 := h
  obtain ⟨e1, e2, e3, e4, e5, h6, h7, h8⟩ := h0
  refine AM_ofF (by decide +kernel) (Nat.le_of_ble_eq_true rfl) (fun X V C _ _ => ?_)
  show AW X V mX12_markOf.2.2.1 T0 M 0 0 _ 0 [(0, .ref 96), (1, .int (nI t)), (2, .int 1)] []
  refine ar_aload_n (n := 0) C dX12_markOf_0 rfl rfl ?_
  refine ar_iload_n (n := 1) C dX12_markOf_1 rfl rfl ?_
  refine ar_aload_n (n := 0) C dX12_markOf_2 rfl rfl ?_
  refine ar_getr C flX12_19 rfl kd_96 rf_96_5 dX12_markOf_3 ?_
  refine ar_iconst (v := 2) C dX12_markOf_6 (by decide) ?_
  refine ar_iald (j := 2) C kd_100 (by decide) (by decide) dX12_markOf_7 ?_
  refine ar_topi (ρ 2) (congrFun e1 2) ?_
  refine cV1 (ar := [.int (nI t), .int (ρ 2)]) (st := []) C lkX12_117 kd_96 (m_columnOf M (t := t) ht h (ρ 2) (by have := RR_2 h6; simp only [na]; omega)) (by decide) rfl (Nat.le_of_ble_eq_true rfl) rfl dX12_markOf_8 ?_
  refine ar_istore_n (als' := [(3, .int (f_colc (f_by (-x * ρ 2) z))), (0, .ref 96), (1, .int (nI t)), (2, .int 1)]) C dX12_markOf_11 rfl (by decide) rfl ?_
  refine ar_iload_n (n := 3) C dX12_markOf_12 rfl rfl ?_
  refine ar_iconst (v := 3) C dX12_markOf_13 (by decide) ?_
  refine ar_icmp_ne (tgt := 35) C dX12_markOf_14 (by decide) (fun _ => ?_) (fun c_1 => absurd c_1 (by decide))
  refine ar_iload_n (n := 3) C dX12_markOf_35 rfl rfl ?_
  refine ar_iconst (v := 2) C dX12_markOf_36 (by decide) ?_
  refine ar_icmp_ne (tgt := 46) C dX12_markOf_37 (by decide) (fun _ => ?_) (fun c_2 => absurd c_2 (by decide))
  refine ar_aload_n (n := 1) C dX12_markOf_46 rfl rfl ?_
  refine ar_bipush (v := 21) C dX12_markOf_47 (by decide) ?_
  refine cV0 (ar := [.int 21]) (st := []) C lkX12_236 kd_96 (m_began (t := b) M hb (by omega) 21) (by decide) rfl (Nat.le_of_ble_eq_true rfl) rfl dX12_markOf_49 ?_
  refine ar_aload_n (n := 1) C dX12_markOf_52 rfl rfl ?_
  refine ar_bipush (v := 20) C dX12_markOf_53 (by decide) ?_
  refine cV0 (ar := [.int 20]) (st := []) C lkX12_236 kd_96 (m_began (t := (b + 1)) (mbg M b 21) (mbg_1 _ _ _) (by omega) 20) (by decide) rfl (Nat.le_of_ble_eq_true rfl) rfl dX12_markOf_55 ?_
  refine ar_iload_n (n := 0) C dX12_markOf_58 rfl rfl ?_
  refine ar_bipush (v := 100) C dX12_markOf_59 (by decide) ?_
  refine ar_iadd C dX12_markOf_61 ?_
  refine ar_iload_n (n := 3) C dX12_markOf_62 rfl rfl ?_
  refine ar_iconst (v := 2) C dX12_markOf_63 (by decide) ?_
  refine ar_icmp_ne (tgt := 76) C dX12_markOf_64 (by decide) (fun _ => ?_) (fun c_3 => absurd c_3 (by decide))
  refine ar_iconst (v := 0) C dX12_markOf_76 (by decide) ?_
  refine ar_iadd C dX12_markOf_77 ?_
  exact ar_ireturn C rfl dX12_markOf_78 ⟨rfl, rfl, rfl⟩
set_option maxHeartbeats 4000000 in
set_option maxRecDepth 100000 in
theorem m_markOf_2 (M : Mm) {t : Nat} (ht : t < 24) {ρ β : Nat → Int32} {x y z : Int32} (h : MT M t ρ β x y z) {b : Nat} (hb : M.1 96 28 = nI b) (h16 : b + 9 ≤ 16) : AX mX12_markOf 5 [.ref 96, .int (nI t), .int 2] M (some (.int (f_colc (f_by (-x * ρ 2) z) + 100 + 2 * (z + P_blur ρ β x z)))) (mbg (mbg (mbg (mbg (mbg (mbg M b 22) (b + 1) 21) (b + 2) 20) (b + 3) 12) ((b + 3) + 1) 11) ((b + 3) + 2) 10) := by
  have h0 := h
  obtain ⟨e1, e2, e3, e4, e5, h6, h7, h8⟩ := h0
  refine AM_ofF (by decide +kernel) (Nat.le_of_ble_eq_true rfl) (fun X V C _ _ => ?_)
  show AW X V mX12_markOf.2.2.1 T0 M 0 0 _ 0 [(0, .ref 96), (1, .int (nI t)), (2, .int 2)] []
  refine ar_aload_n (n := 0) C dX12_markOf_0 rfl rfl ?_
  refine ar_iload_n (n := 1) C dX12_markOf_1 rfl rfl ?_
  refine ar_aload_n (n := 0) C dX12_markOf_2 rfl rfl ?_
  refine ar_getr C flX12_19 rfl kd_96 rf_96_5 dX12_markOf_3 ?_
  refine ar_iconst (v := 2) C dX12_markOf_6 (by decide) ?_
  refine ar_iald (j := 2) C kd_100 (by decide) (by decide) dX12_markOf_7 ?_
  refine ar_topi (ρ 2) (congrFun e1 2) ?_
  refine cV1 (ar := [.int (nI t), .int (ρ 2)]) (st := []) C lkX12_117 kd_96 (m_columnOf M (t := t) ht h (ρ 2) (by have := RR_2 h6; simp only [na]; omega)) (by decide) rfl (Nat.le_of_ble_eq_true rfl) rfl dX12_markOf_8 ?_
  refine ar_istore_n (als' := [(3, .int (f_colc (f_by (-x * ρ 2) z))), (0, .ref 96), (1, .int (nI t)), (2, .int 2)]) C dX12_markOf_11 rfl (by decide) rfl ?_
  refine ar_iload_n (n := 3) C dX12_markOf_12 rfl rfl ?_
  refine ar_iconst (v := 3) C dX12_markOf_13 (by decide) ?_
  refine ar_icmp_ne (tgt := 35) C dX12_markOf_14 (by decide) (fun _ => ?_) (fun c_1 => absurd c_1 (by decide))
  refine ar_iload_n (n := 3) C dX12_markOf_35 rfl rfl ?_
  refine ar_iconst (v := 2) C dX12_markOf_36 (by decide) ?_
  refine ar_icmp_ne (tgt := 46) C dX12_markOf_37 (by decide) (fun c_2 => absurd c_2 (by decide)) (fun _ => ?_)
  refine ar_aload_n (n := 1) C dX12_markOf_40 rfl rfl ?_
  refine ar_bipush (v := 22) C dX12_markOf_41 (by decide) ?_
  refine cV0 (ar := [.int 22]) (st := []) C lkX12_236 kd_96 (m_began (t := b) M hb (by omega) 22) (by decide) rfl (Nat.le_of_ble_eq_true rfl) rfl dX12_markOf_43 ?_
  refine ar_aload_n (n := 1) C dX12_markOf_46 rfl rfl ?_
  refine ar_bipush (v := 21) C dX12_markOf_47 (by decide) ?_
  refine cV0 (ar := [.int 21]) (st := []) C lkX12_236 kd_96 (m_began (t := (b + 1)) (mbg M b 22) (mbg_1 _ _ _) (by omega) 21) (by decide) rfl (Nat.le_of_ble_eq_true rfl) rfl dX12_markOf_49 ?_
  refine ar_aload_n (n := 1) C dX12_markOf_52 rfl rfl ?_
  refine ar_bipush (v := 20) C dX12_markOf_53 (by decide) ?_
  refine cV0 (ar := [.int 20]) (st := []) C lkX12_236 kd_96 (m_began (t := (b + 2)) (mbg (mbg M b 22) (b + 1) 21) (mbg_1 _ _ _) (by omega) 20) (by decide) rfl (Nat.le_of_ble_eq_true rfl) rfl dX12_markOf_55 ?_
  refine ar_iload_n (n := 0) C dX12_markOf_58 rfl rfl ?_
  refine ar_bipush (v := 100) C dX12_markOf_59 (by decide) ?_
  refine ar_iadd C dX12_markOf_61 ?_
  refine ar_iload_n (n := 3) C dX12_markOf_62 rfl rfl ?_
  refine ar_iconst (v := 2) C dX12_markOf_63 (by decide) ?_
  refine ar_icmp_ne (tgt := 76) C dX12_markOf_64 (by decide) (fun c_3 => absurd c_3 (by decide)) (fun _ => ?_)
  refine ar_aload_n (n := 1) C dX12_markOf_67 rfl rfl ?_
  refine ar_iload_n (n := 2) C dX12_markOf_68 rfl rfl ?_
  refine ar_iload_n (n := 3) C dX12_markOf_69 rfl rfl ?_
  refine cV1 (ar := [.int (nI t), .int 2]) (st := [.int ((f_colc (f_by (-x * ρ 2) z)) + 100)]) C lkX12_240 kd_96 (m_seenSize_2 (mbg (mbg (mbg M b 22) (b + 1) 21) (b + 2) 20) (t := t) ht (MT_bg (MT_bg (MT_bg h))) (b := (b + 3)) (mbg_1 _ _ _) (by omega)) (by decide) rfl (Nat.le_of_ble_eq_true rfl) rfl dX12_markOf_70 ?_
  refine ar_goto (tgt := 77) C dX12_markOf_73 (by decide) ?_
  refine ar_iadd C dX12_markOf_77 ?_
  exact ar_ireturn C rfl dX12_markOf_78 ⟨rfl, rfl, rfl⟩
set_option maxHeartbeats 4000000 in
set_option maxRecDepth 100000 in
theorem m_markOf_3 (M : Mm) {t : Nat} (ht : t < 24) {ρ β : Nat → Int32} {x y z : Int32} (h : MT M t ρ β x y z) {b : Nat} (hb : M.1 96 28 = nI b) (h16 : b + 9 ≤ 16) : AX mX12_markOf 5 [.ref 96, .int (nI t), .int 3] M (some (.int (f_colc (f_by (-x * ρ 2) z) + 1000))) (mbg (mbg M b 23) (b + 1) 20) := by
  have h0 := h
  obtain ⟨e1, e2, e3, e4, e5, h6, h7, h8⟩ := h0
  refine AM_ofF (by decide +kernel) (Nat.le_of_ble_eq_true rfl) (fun X V C _ _ => ?_)
  show AW X V mX12_markOf.2.2.1 T0 M 0 0 _ 0 [(0, .ref 96), (1, .int (nI t)), (2, .int 3)] []
  refine ar_aload_n (n := 0) C dX12_markOf_0 rfl rfl ?_
  refine ar_iload_n (n := 1) C dX12_markOf_1 rfl rfl ?_
  refine ar_aload_n (n := 0) C dX12_markOf_2 rfl rfl ?_
  refine ar_getr C flX12_19 rfl kd_96 rf_96_5 dX12_markOf_3 ?_
  refine ar_iconst (v := 2) C dX12_markOf_6 (by decide) ?_
  refine ar_iald (j := 2) C kd_100 (by decide) (by decide) dX12_markOf_7 ?_
  refine ar_topi (ρ 2) (congrFun e1 2) ?_
  refine cV1 (ar := [.int (nI t), .int (ρ 2)]) (st := []) C lkX12_117 kd_96 (m_columnOf M (t := t) ht h (ρ 2) (by have := RR_2 h6; simp only [na]; omega)) (by decide) rfl (Nat.le_of_ble_eq_true rfl) rfl dX12_markOf_8 ?_
  refine ar_istore_n (als' := [(3, .int (f_colc (f_by (-x * ρ 2) z))), (0, .ref 96), (1, .int (nI t)), (2, .int 3)]) C dX12_markOf_11 rfl (by decide) rfl ?_
  refine ar_iload_n (n := 3) C dX12_markOf_12 rfl rfl ?_
  refine ar_iconst (v := 3) C dX12_markOf_13 (by decide) ?_
  refine ar_icmp_ne (tgt := 35) C dX12_markOf_14 (by decide) (fun c_1 => absurd c_1 (by decide)) (fun _ => ?_)
  refine ar_aload_n (n := 1) C dX12_markOf_17 rfl rfl ?_
  refine ar_bipush (v := 23) C dX12_markOf_18 (by decide) ?_
  refine cV0 (ar := [.int 23]) (st := []) C lkX12_236 kd_96 (m_began (t := b) M hb (by omega) 23) (by decide) rfl (Nat.le_of_ble_eq_true rfl) rfl dX12_markOf_20 ?_
  refine ar_aload_n (n := 1) C dX12_markOf_23 rfl rfl ?_
  refine ar_bipush (v := 20) C dX12_markOf_24 (by decide) ?_
  refine cV0 (ar := [.int 20]) (st := []) C lkX12_236 kd_96 (m_began (t := (b + 1)) (mbg M b 23) (mbg_1 _ _ _) (by omega) 20) (by decide) rfl (Nat.le_of_ble_eq_true rfl) rfl dX12_markOf_26 ?_
  refine ar_iload_n (n := 0) C dX12_markOf_29 rfl rfl ?_
  refine ar_sipush (v := 1000) C dX12_markOf_30 (by decide) ?_
  refine ar_iadd C dX12_markOf_33 ?_
  exact ar_ireturn C rfl dX12_markOf_34 ⟨rfl, rfl, rfl⟩
set_option maxHeartbeats 4000000 in
set_option maxRecDepth 100000 in
theorem m_ask_bad (M : Mm) (t w : Int32)  (hbad : (f_in t 0 (M.1 96 7 - 1) && f_in w 0 1) = false) : AX mX12_ask 6 [.ref 96, .int t, .int w] M (some (.int (-1000001))) (wi M 96 0 0) := by
  refine AM_ofF (by decide +kernel) (Nat.le_of_ble_eq_true rfl) (fun X V C _ _ => ?_)
  show AW X V mX12_ask.2.2.1 T0 M 0 0 _ 0 [(0, .ref 96), (1, .int t), (2, .int w)] []
  refine ar_aload_n (n := 0) C dX12_ask_0 rfl rfl ?_
  refine ar_iconst (v := 0) C dX12_ask_1 (by decide) ?_
  refine ar_puti C flX12_59 kd_96 dX12_ask_2 ?_
  refine ar_aload_n (n := 0) C dX12_ask_5 rfl rfl ?_
  refine ar_iload_n (n := 1) C dX12_ask_6 rfl rfl ?_
  refine cV1 (ar := [.int t]) (st := []) C lkX12_110 kd_96 (k_mThing (wi M 96 0 0) t) (by decide) rfl (Nat.le_of_ble_eq_true rfl) rfl dX12_ask_7 ?_
  refine ar_if_eqB (tgt := 23) C dX12_ask_10 (by decide) (fun c_1 => ?_) (fun c_1 => ?_)
  · refine ar_ldc C kcX12_79 dX12_ask_23 ?_
    exact ar_ireturn C rfl dX12_ask_25 ⟨rfl, rfl, rfl⟩
  · refine ar_iload_n (n := 2) C dX12_ask_13 rfl rfl ?_
    refine ar_i2l C dX12_ask_14 ?_
    refine ar_lconst (v := 0) C dX12_ask_15 (by decide) ?_
    refine ar_lconst (v := 1) C dX12_ask_16 (by decide) ?_
    refine cS1 (ar := [.long w.toInt64, .long 0, .long 1]) (st := []) C lkX12_69 (k_inI (wi M 96 0 0) w 0 1 _ _ (by decide) (by decide)) (by decide) rfl (Nat.le_of_ble_eq_true rfl) rfl dX12_ask_17 ?_
    refine ar_if_neB (tgt := 26) C dX12_ask_20 (by decide) (fun c_2 => ?_) (fun c_2 => ?_)
    · exact absurd hbad (by first | (rw [c_1]; decide) | simp [*, show f_in t 0 (M.1 96 7 - 1) = true from c_1])
    · refine ar_ldc C kcX12_79 dX12_ask_23 ?_
      exact ar_ireturn C rfl dX12_ask_25 ⟨rfl, rfl, rfl⟩
set_option maxHeartbeats 4000000 in
set_option maxRecDepth 100000 in
theorem m_ask_0_1 (M : Mm) {i N : Nat} (hN : M.1 96 7 = nI N) (hi : i < N) (hN24 : N ≤ 24) {ρ β : Nat → Int32} {x y z : Int32} (h : MT M i ρ β x y z) (hk : P_kind ρ β x y z = 1) : AX mX12_ask 6 [.ref 96, .int (nI i), .int 0] M (some (.int (z + P_blur ρ β x z))) (mbg (mbg (wi (wi M 96 0 0) 96 28 0) 0 11) (0 + 1) 10) := by
  have h0 := h
  obtain ⟨e1, e2, e3, e4, e5, h6, h7, h8⟩ := h0
  obtain ⟨x1, x2, x3, x4⟩ := RT_x h8
  refine AM_ofF (by decide +kernel) (Nat.le_of_ble_eq_true rfl) (fun X V C _ _ => ?_)
  show AW X V mX12_ask.2.2.1 T0 M 0 0 _ 0 [(0, .ref 96), (1, .int (nI i)), (2, .int 0)] []
  refine ar_aload_n (n := 0) C dX12_ask_0 rfl rfl ?_
  refine ar_iconst (v := 0) C dX12_ask_1 (by decide) ?_
  refine ar_puti C flX12_59 kd_96 dX12_ask_2 ?_
  refine ar_aload_n (n := 0) C dX12_ask_5 rfl rfl ?_
  refine ar_iload_n (n := 1) C dX12_ask_6 rfl rfl ?_
  refine cV1 (ar := [.int (nI i)]) (st := []) C lkX12_110 kd_96 (k_mThing (wi M 96 0 0) (nI i)) (by decide) rfl (Nat.le_of_ble_eq_true rfl) rfl dX12_ask_7 ?_
  refine ar_if_eqB (tgt := 23) C dX12_ask_10 (by decide) (fun c_1 => False.elim (Bool.noConfusion ((inN hN hi hN24).symm.trans c_1))) (fun _ => ?_)
  refine ar_iload_n (n := 2) C dX12_ask_13 rfl rfl ?_
  refine ar_i2l C dX12_ask_14 ?_
  refine ar_lconst (v := 0) C dX12_ask_15 (by decide) ?_
  refine ar_lconst (v := 1) C dX12_ask_16 (by decide) ?_
  refine cS1 (ar := [.long ((0 : Int32).toInt64), .long 0, .long 1]) (st := []) C lkX12_69 (k_inI (wi M 96 0 0) 0 0 1 _ _ (by decide) (by decide)) (by decide) rfl (Nat.le_of_ble_eq_true rfl) rfl dX12_ask_17 ?_
  refine ar_if_neB (tgt := 26) C dX12_ask_20 (by decide) (fun _ => ?_) (fun c_2 => False.elim (Bool.noConfusion ((show f_in 0 0 1 = true by decide).symm.trans c_2)))
  refine ar_aload_n (n := 0) C dX12_ask_26 rfl rfl ?_
  refine ar_iconst (v := 0) C dX12_ask_27 (by decide) ?_
  refine ar_puti C flX12_233 kd_96 dX12_ask_28 ?_
  refine ar_aload_n (n := 0) C dX12_ask_31 rfl rfl ?_
  refine ar_iload_n (n := 1) C dX12_ask_32 rfl rfl ?_
  refine cV1 (ar := [.int (nI i)]) (st := []) C lkX12_227 kd_96 (m_kindOf (wi (wi M 96 0 0) 96 28 0) (t := i) (show i < 24 by omega) (MT_s (Or.inl (by decide)) (MT_s (Or.inl (by decide)) h))) (by decide) rfl (Nat.le_of_ble_eq_true rfl) rfl dX12_ask_33 ?_
  refine ar_topi 1 hk ?_
  refine ar_istore_n (als' := [(3, .int 1), (0, .ref 96), (1, .int (nI i)), (2, .int 0)]) C dX12_ask_36 rfl (by decide) rfl ?_
  refine ar_iload_n (n := 3) C dX12_ask_37 rfl rfl ?_
  refine ar_iconst (v := 1) C dX12_ask_38 (by decide) ?_
  refine ar_icmp_ne (tgt := 49) C dX12_ask_39 (by decide) (fun _ => ?_) (fun c_3 => absurd c_3 (by decide))
  refine ar_iload_n (n := 0) C dX12_ask_49 rfl rfl ?_
  refine ar_iconst (v := 3) C dX12_ask_50 (by decide) ?_
  refine ar_icmp_eq (tgt := 61) C dX12_ask_51 (by decide) (fun c_4 => absurd c_4 (by decide)) (fun _ => ?_)
  refine ar_aload_n (n := 1) C dX12_ask_54 rfl rfl ?_
  refine ar_iload_n (n := 2) C dX12_ask_55 rfl rfl ?_
  refine ar_iload_n (n := 0) C dX12_ask_56 rfl rfl ?_
  refine cV1 (ar := [.int (nI i), .int 1]) (st := []) C lkX12_240 kd_96 (m_seenSize_1 (wi (wi M 96 0 0) 96 28 0) (t := i) (show i < 24 by omega) (MT_s (Or.inl (by decide)) (MT_s (Or.inl (by decide)) h)) (b := 0) rfl (by omega)) (by decide) rfl (Nat.le_of_ble_eq_true rfl) rfl dX12_ask_57 ?_
  exact ar_ireturn C rfl dX12_ask_60 ⟨rfl, rfl, rfl⟩
set_option maxHeartbeats 4000000 in
set_option maxRecDepth 100000 in
theorem m_ask_0_2 (M : Mm) {i N : Nat} (hN : M.1 96 7 = nI N) (hi : i < N) (hN24 : N ≤ 24) {ρ β : Nat → Int32} {x y z : Int32} (h : MT M i ρ β x y z) (hk : P_kind ρ β x y z = 2) : AX mX12_ask 6 [.ref 96, .int (nI i), .int 0] M (some (.int (2 * (z + P_blur ρ β x z)))) (mbg (mbg (mbg (wi (wi M 96 0 0) 96 28 0) 0 12) (0 + 1) 11) (0 + 2) 10) := by
  have h0 := h
  obtain ⟨e1, e2, e3, e4, e5, h6, h7, h8⟩ := h0
  obtain ⟨x1, x2, x3, x4⟩ := RT_x h8
  refine AM_ofF (by decide +kernel) (Nat.le_of_ble_eq_true rfl) (fun X V C _ _ => ?_)
  show AW X V mX12_ask.2.2.1 T0 M 0 0 _ 0 [(0, .ref 96), (1, .int (nI i)), (2, .int 0)] []
  refine ar_aload_n (n := 0) C dX12_ask_0 rfl rfl ?_
  refine ar_iconst (v := 0) C dX12_ask_1 (by decide) ?_
  refine ar_puti C flX12_59 kd_96 dX12_ask_2 ?_
  refine ar_aload_n (n := 0) C dX12_ask_5 rfl rfl ?_
  refine ar_iload_n (n := 1) C dX12_ask_6 rfl rfl ?_
  refine cV1 (ar := [.int (nI i)]) (st := []) C lkX12_110 kd_96 (k_mThing (wi M 96 0 0) (nI i)) (by decide) rfl (Nat.le_of_ble_eq_true rfl) rfl dX12_ask_7 ?_
  refine ar_if_eqB (tgt := 23) C dX12_ask_10 (by decide) (fun c_1 => False.elim (Bool.noConfusion ((inN hN hi hN24).symm.trans c_1))) (fun _ => ?_)
  refine ar_iload_n (n := 2) C dX12_ask_13 rfl rfl ?_
  refine ar_i2l C dX12_ask_14 ?_
  refine ar_lconst (v := 0) C dX12_ask_15 (by decide) ?_
  refine ar_lconst (v := 1) C dX12_ask_16 (by decide) ?_
  refine cS1 (ar := [.long ((0 : Int32).toInt64), .long 0, .long 1]) (st := []) C lkX12_69 (k_inI (wi M 96 0 0) 0 0 1 _ _ (by decide) (by decide)) (by decide) rfl (Nat.le_of_ble_eq_true rfl) rfl dX12_ask_17 ?_
  refine ar_if_neB (tgt := 26) C dX12_ask_20 (by decide) (fun _ => ?_) (fun c_2 => False.elim (Bool.noConfusion ((show f_in 0 0 1 = true by decide).symm.trans c_2)))
  refine ar_aload_n (n := 0) C dX12_ask_26 rfl rfl ?_
  refine ar_iconst (v := 0) C dX12_ask_27 (by decide) ?_
  refine ar_puti C flX12_233 kd_96 dX12_ask_28 ?_
  refine ar_aload_n (n := 0) C dX12_ask_31 rfl rfl ?_
  refine ar_iload_n (n := 1) C dX12_ask_32 rfl rfl ?_
  refine cV1 (ar := [.int (nI i)]) (st := []) C lkX12_227 kd_96 (m_kindOf (wi (wi M 96 0 0) 96 28 0) (t := i) (show i < 24 by omega) (MT_s (Or.inl (by decide)) (MT_s (Or.inl (by decide)) h))) (by decide) rfl (Nat.le_of_ble_eq_true rfl) rfl dX12_ask_33 ?_
  refine ar_topi 2 hk ?_
  refine ar_istore_n (als' := [(3, .int 2), (0, .ref 96), (1, .int (nI i)), (2, .int 0)]) C dX12_ask_36 rfl (by decide) rfl ?_
  refine ar_iload_n (n := 3) C dX12_ask_37 rfl rfl ?_
  refine ar_iconst (v := 1) C dX12_ask_38 (by decide) ?_
  refine ar_icmp_ne (tgt := 49) C dX12_ask_39 (by decide) (fun _ => ?_) (fun c_3 => absurd c_3 (by decide))
  refine ar_iload_n (n := 0) C dX12_ask_49 rfl rfl ?_
  refine ar_iconst (v := 3) C dX12_ask_50 (by decide) ?_
  refine ar_icmp_eq (tgt := 61) C dX12_ask_51 (by decide) (fun c_4 => absurd c_4 (by decide)) (fun _ => ?_)
  refine ar_aload_n (n := 1) C dX12_ask_54 rfl rfl ?_
  refine ar_iload_n (n := 2) C dX12_ask_55 rfl rfl ?_
  refine ar_iload_n (n := 0) C dX12_ask_56 rfl rfl ?_
  refine cV1 (ar := [.int (nI i), .int 2]) (st := []) C lkX12_240 kd_96 (m_seenSize_2 (wi (wi M 96 0 0) 96 28 0) (t := i) (show i < 24 by omega) (MT_s (Or.inl (by decide)) (MT_s (Or.inl (by decide)) h)) (b := 0) rfl (by omega)) (by decide) rfl (Nat.le_of_ble_eq_true rfl) rfl dX12_ask_57 ?_
  exact ar_ireturn C rfl dX12_ask_60 ⟨rfl, rfl, rfl⟩
set_option maxHeartbeats 4000000 in
set_option maxRecDepth 100000 in
theorem m_ask_0_3 (M : Mm) {i N : Nat} (hN : M.1 96 7 = nI N) (hi : i < N) (hN24 : N ≤ 24) {ρ β : Nat → Int32} {x y z : Int32} (h : MT M i ρ β x y z) (hk : P_kind ρ β x y z = 3) : AX mX12_ask 6 [.ref 96, .int (nI i), .int 0] M (some (.int (z - (f_colc (f_by (-x * ρ 2) z) + 1000)))) (mbg (mbg (mbg (mbg (wi (wi M 96 0 0) 96 28 0) 0 13) 1 10) 2 23) (2 + 1) 20) := by
  have h0 := h
  obtain ⟨e1, e2, e3, e4, e5, h6, h7, h8⟩ := h0
  obtain ⟨x1, x2, x3, x4⟩ := RT_x h8
  refine AM_ofF (by decide +kernel) (Nat.le_of_ble_eq_true rfl) (fun X V C _ _ => ?_)
  show AW X V mX12_ask.2.2.1 T0 M 0 0 _ 0 [(0, .ref 96), (1, .int (nI i)), (2, .int 0)] []
  refine ar_aload_n (n := 0) C dX12_ask_0 rfl rfl ?_
  refine ar_iconst (v := 0) C dX12_ask_1 (by decide) ?_
  refine ar_puti C flX12_59 kd_96 dX12_ask_2 ?_
  refine ar_aload_n (n := 0) C dX12_ask_5 rfl rfl ?_
  refine ar_iload_n (n := 1) C dX12_ask_6 rfl rfl ?_
  refine cV1 (ar := [.int (nI i)]) (st := []) C lkX12_110 kd_96 (k_mThing (wi M 96 0 0) (nI i)) (by decide) rfl (Nat.le_of_ble_eq_true rfl) rfl dX12_ask_7 ?_
  refine ar_if_eqB (tgt := 23) C dX12_ask_10 (by decide) (fun c_1 => False.elim (Bool.noConfusion ((inN hN hi hN24).symm.trans c_1))) (fun _ => ?_)
  refine ar_iload_n (n := 2) C dX12_ask_13 rfl rfl ?_
  refine ar_i2l C dX12_ask_14 ?_
  refine ar_lconst (v := 0) C dX12_ask_15 (by decide) ?_
  refine ar_lconst (v := 1) C dX12_ask_16 (by decide) ?_
  refine cS1 (ar := [.long ((0 : Int32).toInt64), .long 0, .long 1]) (st := []) C lkX12_69 (k_inI (wi M 96 0 0) 0 0 1 _ _ (by decide) (by decide)) (by decide) rfl (Nat.le_of_ble_eq_true rfl) rfl dX12_ask_17 ?_
  refine ar_if_neB (tgt := 26) C dX12_ask_20 (by decide) (fun _ => ?_) (fun c_2 => False.elim (Bool.noConfusion ((show f_in 0 0 1 = true by decide).symm.trans c_2)))
  refine ar_aload_n (n := 0) C dX12_ask_26 rfl rfl ?_
  refine ar_iconst (v := 0) C dX12_ask_27 (by decide) ?_
  refine ar_puti C flX12_233 kd_96 dX12_ask_28 ?_
  refine ar_aload_n (n := 0) C dX12_ask_31 rfl rfl ?_
  refine ar_iload_n (n := 1) C dX12_ask_32 rfl rfl ?_
  refine cV1 (ar := [.int (nI i)]) (st := []) C lkX12_227 kd_96 (m_kindOf (wi (wi M 96 0 0) 96 28 0) (t := i) (show i < 24 by omega) (MT_s (Or.inl (by decide)) (MT_s (Or.inl (by decide)) h))) (by decide) rfl (Nat.le_of_ble_eq_true rfl) rfl dX12_ask_33 ?_
  refine ar_topi 3 hk ?_
  refine ar_istore_n (als' := [(3, .int 3), (0, .ref 96), (1, .int (nI i)), (2, .int 0)]) C dX12_ask_36 rfl (by decide) rfl ?_
  refine ar_iload_n (n := 3) C dX12_ask_37 rfl rfl ?_
  refine ar_iconst (v := 1) C dX12_ask_38 (by decide) ?_
  refine ar_icmp_ne (tgt := 49) C dX12_ask_39 (by decide) (fun _ => ?_) (fun c_3 => absurd c_3 (by decide))
  refine ar_iload_n (n := 0) C dX12_ask_49 rfl rfl ?_
  refine ar_iconst (v := 3) C dX12_ask_50 (by decide) ?_
  refine ar_icmp_eq (tgt := 61) C dX12_ask_51 (by decide) (fun _ => ?_) (fun c_4 => absurd c_4 (by decide))
  refine ar_aload_n (n := 1) C dX12_ask_61 rfl rfl ?_
  refine ar_bipush (v := 13) C dX12_ask_62 (by decide) ?_
  refine cV0 (ar := [.int 13]) (st := []) C lkX12_236 kd_96 (m_began (t := 0) (wi (wi M 96 0 0) 96 28 0) rfl (by omega) 13) (by decide) rfl (Nat.le_of_ble_eq_true rfl) rfl dX12_ask_64 ?_
  refine ar_aload_n (n := 1) C dX12_ask_67 rfl rfl ?_
  refine ar_bipush (v := 10) C dX12_ask_68 (by decide) ?_
  refine cV0 (ar := [.int 10]) (st := []) C lkX12_236 kd_96 (m_began (t := 1) (mbg (wi (wi M 96 0 0) 96 28 0) 0 13) (mbg_1 _ _ _) (by omega) 10) (by decide) rfl (Nat.le_of_ble_eq_true rfl) rfl dX12_ask_70 ?_
  refine ar_aload_n (n := 1) C dX12_ask_73 rfl rfl ?_
  refine ar_getr C flX12_31 rfl kd_96 rf_96_10 dX12_ask_74 ?_
  refine ar_iload_n (n := 2) C dX12_ask_77 rfl rfl ?_
  refine ar_iald (j := i) C kd_104 rfl (show i < 24 by omega) dX12_ask_78 ?_
  refine ar_topi z ((MT_bg (MT_bg (MT_s (Or.inl (by decide)) (MT_s (Or.inl (by decide)) h))))).2.2.2.2.1 ?_
  refine ar_aload_n (n := 1) C dX12_ask_79 rfl rfl ?_
  refine ar_iload_n (n := 2) C dX12_ask_80 rfl rfl ?_
  refine ar_iload_n (n := 0) C dX12_ask_81 rfl rfl ?_
  refine cV1 (ar := [.int (nI i), .int 3]) (st := [.int z]) C lkX12_243 kd_96 (m_markOf_3 (mbg (mbg (wi (wi M 96 0 0) 96 28 0) 0 13) 1 10) (t := i) (show i < 24 by omega) (MT_bg (MT_bg (MT_s (Or.inl (by decide)) (MT_s (Or.inl (by decide)) h)))) (b := 2) (mbg_1 _ _ _) (by omega)) (by decide) rfl (Nat.le_of_ble_eq_true rfl) rfl dX12_ask_82 ?_
  refine ar_isub C dX12_ask_85 ?_
  exact ar_ireturn C rfl dX12_ask_86 ⟨rfl, rfl, rfl⟩
set_option maxHeartbeats 4000000 in
set_option maxRecDepth 100000 in
theorem m_ask_1_1 (M : Mm) {i N : Nat} (hN : M.1 96 7 = nI N) (hi : i < N) (hN24 : N ≤ 24) {ρ β : Nat → Int32} {x y z : Int32} (h : MT M i ρ β x y z) (hk : P_kind ρ β x y z = 1) : AX mX12_ask 6 [.ref 96, .int (nI i), .int 1] M (some (.int (f_colc (f_by (-x * ρ 2) z) + 100 + 0))) (mbg (mbg (wi (wi M 96 0 0) 96 28 0) 0 21) (0 + 1) 20) := by
  have h0 := h
  obtain ⟨e1, e2, e3, e4, e5, h6, h7, h8⟩ := h0
  obtain ⟨x1, x2, x3, x4⟩ := RT_x h8
  refine AM_ofF (by decide +kernel) (Nat.le_of_ble_eq_true rfl) (fun X V C _ _ => ?_)
  show AW X V mX12_ask.2.2.1 T0 M 0 0 _ 0 [(0, .ref 96), (1, .int (nI i)), (2, .int 1)] []
  refine ar_aload_n (n := 0) C dX12_ask_0 rfl rfl ?_
  refine ar_iconst (v := 0) C dX12_ask_1 (by decide) ?_
  refine ar_puti C flX12_59 kd_96 dX12_ask_2 ?_
  refine ar_aload_n (n := 0) C dX12_ask_5 rfl rfl ?_
  refine ar_iload_n (n := 1) C dX12_ask_6 rfl rfl ?_
  refine cV1 (ar := [.int (nI i)]) (st := []) C lkX12_110 kd_96 (k_mThing (wi M 96 0 0) (nI i)) (by decide) rfl (Nat.le_of_ble_eq_true rfl) rfl dX12_ask_7 ?_
  refine ar_if_eqB (tgt := 23) C dX12_ask_10 (by decide) (fun c_1 => False.elim (Bool.noConfusion ((inN hN hi hN24).symm.trans c_1))) (fun _ => ?_)
  refine ar_iload_n (n := 2) C dX12_ask_13 rfl rfl ?_
  refine ar_i2l C dX12_ask_14 ?_
  refine ar_lconst (v := 0) C dX12_ask_15 (by decide) ?_
  refine ar_lconst (v := 1) C dX12_ask_16 (by decide) ?_
  refine cS1 (ar := [.long ((1 : Int32).toInt64), .long 0, .long 1]) (st := []) C lkX12_69 (k_inI (wi M 96 0 0) 1 0 1 _ _ (by decide) (by decide)) (by decide) rfl (Nat.le_of_ble_eq_true rfl) rfl dX12_ask_17 ?_
  refine ar_if_neB (tgt := 26) C dX12_ask_20 (by decide) (fun _ => ?_) (fun c_2 => False.elim (Bool.noConfusion ((show f_in 1 0 1 = true by decide).symm.trans c_2)))
  refine ar_aload_n (n := 0) C dX12_ask_26 rfl rfl ?_
  refine ar_iconst (v := 0) C dX12_ask_27 (by decide) ?_
  refine ar_puti C flX12_233 kd_96 dX12_ask_28 ?_
  refine ar_aload_n (n := 0) C dX12_ask_31 rfl rfl ?_
  refine ar_iload_n (n := 1) C dX12_ask_32 rfl rfl ?_
  refine cV1 (ar := [.int (nI i)]) (st := []) C lkX12_227 kd_96 (m_kindOf (wi (wi M 96 0 0) 96 28 0) (t := i) (show i < 24 by omega) (MT_s (Or.inl (by decide)) (MT_s (Or.inl (by decide)) h))) (by decide) rfl (Nat.le_of_ble_eq_true rfl) rfl dX12_ask_33 ?_
  refine ar_topi 1 hk ?_
  refine ar_istore_n (als' := [(3, .int 1), (0, .ref 96), (1, .int (nI i)), (2, .int 1)]) C dX12_ask_36 rfl (by decide) rfl ?_
  refine ar_iload_n (n := 3) C dX12_ask_37 rfl rfl ?_
  refine ar_iconst (v := 1) C dX12_ask_38 (by decide) ?_
  refine ar_icmp_ne (tgt := 49) C dX12_ask_39 (by decide) (fun c_3 => absurd c_3 (by decide)) (fun _ => ?_)
  refine ar_aload_n (n := 1) C dX12_ask_42 rfl rfl ?_
  refine ar_iload_n (n := 2) C dX12_ask_43 rfl rfl ?_
  refine ar_iload_n (n := 0) C dX12_ask_44 rfl rfl ?_
  refine cV1 (ar := [.int (nI i), .int 1]) (st := []) C lkX12_243 kd_96 (m_markOf_1 (wi (wi M 96 0 0) 96 28 0) (t := i) (show i < 24 by omega) (MT_s (Or.inl (by decide)) (MT_s (Or.inl (by decide)) h)) (b := 0) rfl (by omega)) (by decide) rfl (Nat.le_of_ble_eq_true rfl) rfl dX12_ask_45 ?_
  exact ar_ireturn C rfl dX12_ask_48 ⟨rfl, rfl, rfl⟩
set_option maxHeartbeats 4000000 in
set_option maxRecDepth 100000 in
theorem m_ask_1_2 (M : Mm) {i N : Nat} (hN : M.1 96 7 = nI N) (hi : i < N) (hN24 : N ≤ 24) {ρ β : Nat → Int32} {x y z : Int32} (h : MT M i ρ β x y z) (hk : P_kind ρ β x y z = 2) : AX mX12_ask 6 [.ref 96, .int (nI i), .int 1] M (some (.int (f_colc (f_by (-x * ρ 2) z) + 100 + 2 * (z + P_blur ρ β x z)))) (mbg (mbg (mbg (mbg (mbg (mbg (wi (wi M 96 0 0) 96 28 0) 0 22) (0 + 1) 21) (0 + 2) 20) (0 + 3) 12) ((0 + 3) + 1) 11) ((0 + 3) + 2) 10) := by
  have h0 := h
  obtain ⟨e1, e2, e3, e4, e5, h6, h7, h8⟩ := h0
  obtain ⟨x1, x2, x3, x4⟩ := RT_x h8
  refine AM_ofF (by decide +kernel) (Nat.le_of_ble_eq_true rfl) (fun X V C _ _ => ?_)
  show AW X V mX12_ask.2.2.1 T0 M 0 0 _ 0 [(0, .ref 96), (1, .int (nI i)), (2, .int 1)] []
  refine ar_aload_n (n := 0) C dX12_ask_0 rfl rfl ?_
  refine ar_iconst (v := 0) C dX12_ask_1 (by decide) ?_
  refine ar_puti C flX12_59 kd_96 dX12_ask_2 ?_
  refine ar_aload_n (n := 0) C dX12_ask_5 rfl rfl ?_
  refine ar_iload_n (n := 1) C dX12_ask_6 rfl rfl ?_
  refine cV1 (ar := [.int (nI i)]) (st := []) C lkX12_110 kd_96 (k_mThing (wi M 96 0 0) (nI i)) (by decide) rfl (Nat.le_of_ble_eq_true rfl) rfl dX12_ask_7 ?_
  refine ar_if_eqB (tgt := 23) C dX12_ask_10 (by decide) (fun c_1 => False.elim (Bool.noConfusion ((inN hN hi hN24).symm.trans c_1))) (fun _ => ?_)
  refine ar_iload_n (n := 2) C dX12_ask_13 rfl rfl ?_
  refine ar_i2l C dX12_ask_14 ?_
  refine ar_lconst (v := 0) C dX12_ask_15 (by decide) ?_
  refine ar_lconst (v := 1) C dX12_ask_16 (by decide) ?_
  refine cS1 (ar := [.long ((1 : Int32).toInt64), .long 0, .long 1]) (st := []) C lkX12_69 (k_inI (wi M 96 0 0) 1 0 1 _ _ (by decide) (by decide)) (by decide) rfl (Nat.le_of_ble_eq_true rfl) rfl dX12_ask_17 ?_
  refine ar_if_neB (tgt := 26) C dX12_ask_20 (by decide) (fun _ => ?_) (fun c_2 => False.elim (Bool.noConfusion ((show f_in 1 0 1 = true by decide).symm.trans c_2)))
  refine ar_aload_n (n := 0) C dX12_ask_26 rfl rfl ?_
  refine ar_iconst (v := 0) C dX12_ask_27 (by decide) ?_
  refine ar_puti C flX12_233 kd_96 dX12_ask_28 ?_
  refine ar_aload_n (n := 0) C dX12_ask_31 rfl rfl ?_
  refine ar_iload_n (n := 1) C dX12_ask_32 rfl rfl ?_
  refine cV1 (ar := [.int (nI i)]) (st := []) C lkX12_227 kd_96 (m_kindOf (wi (wi M 96 0 0) 96 28 0) (t := i) (show i < 24 by omega) (MT_s (Or.inl (by decide)) (MT_s (Or.inl (by decide)) h))) (by decide) rfl (Nat.le_of_ble_eq_true rfl) rfl dX12_ask_33 ?_
  refine ar_topi 2 hk ?_
  refine ar_istore_n (als' := [(3, .int 2), (0, .ref 96), (1, .int (nI i)), (2, .int 1)]) C dX12_ask_36 rfl (by decide) rfl ?_
  refine ar_iload_n (n := 3) C dX12_ask_37 rfl rfl ?_
  refine ar_iconst (v := 1) C dX12_ask_38 (by decide) ?_
  refine ar_icmp_ne (tgt := 49) C dX12_ask_39 (by decide) (fun c_3 => absurd c_3 (by decide)) (fun _ => ?_)
  refine ar_aload_n (n := 1) C dX12_ask_42 rfl rfl ?_
  refine ar_iload_n (n := 2) C dX12_ask_43 rfl rfl ?_
  refine ar_iload_n (n := 0) C dX12_ask_44 rfl rfl ?_
  refine cV1 (ar := [.int (nI i), .int 2]) (st := []) C lkX12_243 kd_96 (m_markOf_2 (wi (wi M 96 0 0) 96 28 0) (t := i) (show i < 24 by omega) (MT_s (Or.inl (by decide)) (MT_s (Or.inl (by decide)) h)) (b := 0) rfl (by omega)) (by decide) rfl (Nat.le_of_ble_eq_true rfl) rfl dX12_ask_45 ?_
  exact ar_ireturn C rfl dX12_ask_48 ⟨rfl, rfl, rfl⟩
set_option maxHeartbeats 4000000 in
set_option maxRecDepth 100000 in
theorem m_ask_1_3 (M : Mm) {i N : Nat} (hN : M.1 96 7 = nI N) (hi : i < N) (hN24 : N ≤ 24) {ρ β : Nat → Int32} {x y z : Int32} (h : MT M i ρ β x y z) (hk : P_kind ρ β x y z = 3) : AX mX12_ask 6 [.ref 96, .int (nI i), .int 1] M (some (.int (f_colc (f_by (-x * ρ 2) z) + 1000))) (mbg (mbg (wi (wi M 96 0 0) 96 28 0) 0 23) (0 + 1) 20) := by
  have h0 := h
  obtain ⟨e1, e2, e3, e4, e5, h6, h7, h8⟩ := h0
  obtain ⟨x1, x2, x3, x4⟩ := RT_x h8
  refine AM_ofF (by decide +kernel) (Nat.le_of_ble_eq_true rfl) (fun X V C _ _ => ?_)
  show AW X V mX12_ask.2.2.1 T0 M 0 0 _ 0 [(0, .ref 96), (1, .int (nI i)), (2, .int 1)] []
  refine ar_aload_n (n := 0) C dX12_ask_0 rfl rfl ?_
  refine ar_iconst (v := 0) C dX12_ask_1 (by decide) ?_
  refine ar_puti C flX12_59 kd_96 dX12_ask_2 ?_
  refine ar_aload_n (n := 0) C dX12_ask_5 rfl rfl ?_
  refine ar_iload_n (n := 1) C dX12_ask_6 rfl rfl ?_
  refine cV1 (ar := [.int (nI i)]) (st := []) C lkX12_110 kd_96 (k_mThing (wi M 96 0 0) (nI i)) (by decide) rfl (Nat.le_of_ble_eq_true rfl) rfl dX12_ask_7 ?_
  refine ar_if_eqB (tgt := 23) C dX12_ask_10 (by decide) (fun c_1 => False.elim (Bool.noConfusion ((inN hN hi hN24).symm.trans c_1))) (fun _ => ?_)
  refine ar_iload_n (n := 2) C dX12_ask_13 rfl rfl ?_
  refine ar_i2l C dX12_ask_14 ?_
  refine ar_lconst (v := 0) C dX12_ask_15 (by decide) ?_
  refine ar_lconst (v := 1) C dX12_ask_16 (by decide) ?_
  refine cS1 (ar := [.long ((1 : Int32).toInt64), .long 0, .long 1]) (st := []) C lkX12_69 (k_inI (wi M 96 0 0) 1 0 1 _ _ (by decide) (by decide)) (by decide) rfl (Nat.le_of_ble_eq_true rfl) rfl dX12_ask_17 ?_
  refine ar_if_neB (tgt := 26) C dX12_ask_20 (by decide) (fun _ => ?_) (fun c_2 => False.elim (Bool.noConfusion ((show f_in 1 0 1 = true by decide).symm.trans c_2)))
  refine ar_aload_n (n := 0) C dX12_ask_26 rfl rfl ?_
  refine ar_iconst (v := 0) C dX12_ask_27 (by decide) ?_
  refine ar_puti C flX12_233 kd_96 dX12_ask_28 ?_
  refine ar_aload_n (n := 0) C dX12_ask_31 rfl rfl ?_
  refine ar_iload_n (n := 1) C dX12_ask_32 rfl rfl ?_
  refine cV1 (ar := [.int (nI i)]) (st := []) C lkX12_227 kd_96 (m_kindOf (wi (wi M 96 0 0) 96 28 0) (t := i) (show i < 24 by omega) (MT_s (Or.inl (by decide)) (MT_s (Or.inl (by decide)) h))) (by decide) rfl (Nat.le_of_ble_eq_true rfl) rfl dX12_ask_33 ?_
  refine ar_topi 3 hk ?_
  refine ar_istore_n (als' := [(3, .int 3), (0, .ref 96), (1, .int (nI i)), (2, .int 1)]) C dX12_ask_36 rfl (by decide) rfl ?_
  refine ar_iload_n (n := 3) C dX12_ask_37 rfl rfl ?_
  refine ar_iconst (v := 1) C dX12_ask_38 (by decide) ?_
  refine ar_icmp_ne (tgt := 49) C dX12_ask_39 (by decide) (fun c_3 => absurd c_3 (by decide)) (fun _ => ?_)
  refine ar_aload_n (n := 1) C dX12_ask_42 rfl rfl ?_
  refine ar_iload_n (n := 2) C dX12_ask_43 rfl rfl ?_
  refine ar_iload_n (n := 0) C dX12_ask_44 rfl rfl ?_
  refine cV1 (ar := [.int (nI i), .int 3]) (st := []) C lkX12_243 kd_96 (m_markOf_3 (wi (wi M 96 0 0) 96 28 0) (t := i) (show i < 24 by omega) (MT_s (Or.inl (by decide)) (MT_s (Or.inl (by decide)) h)) (b := 0) rfl (by omega)) (by decide) rfl (Nat.le_of_ble_eq_true rfl) rfl dX12_ask_45 ?_
  exact ar_ireturn C rfl dX12_ask_48 ⟨rfl, rfl, rfl⟩
theorem cn_y {P : Nat → Bool} {j : Nat} (h : P j = true) : nI (cntB P j) + 1 = nI (cntB P (j + 1)) := by rw [cntB_y h]; exact nI_1 _
theorem cn_n {P : Nat → Bool} {j : Nat} (h : P j = false) : nI (cntB P j) + 0 = nI (cntB P (j + 1)) := by rw [cntB_n h]; exact Int32.add_zero _
theorem nd_y {p : Prop} [Decidable p] (h : ¬ p) : (!decide p) = true := by simp [h]
theorem nd_n {p : Prop} [Decidable p] (h : p) : (!decide p) = false := by simp [h]
set_option maxHeartbeats 4000000 in
set_option maxRecDepth 100000 in
theorem l_mc0 {X : Ctx} {V : Vx} {Q : State → Prop} (C : Cx X V mX12_count 6) (M : Mm) (w : Int32) (kk : AW X V mX12_count.2.2.1 T0 M 0 0 Q 87 [(3, .int (nI 8)), (2, .int (nI (cntB (fun s => !decide (M.1 97 s < 0)) 8))), (0, .ref 96), (1, .int w)] []) : ∀ (m : Nat) (j : Nat), j ≤ 8 → 8 - j < m → AW X V mX12_count.2.2.1 T0 (M) 0 0 Q 58 [(3, .int (nI j)), (2, .int (nI (cntB (fun s => !decide (M.1 97 s < 0)) j))), (0, .ref 96), (1, .int w)] [] := by
  intro m
  induction m with
  | zero => intro j _ h; exact absurd h (Nat.not_lt_zero _)
  | succ m ih =>
    intro j hj0 hmz
    refine ar_iload_n (n := 0) C dX12_count_58 rfl rfl ?_
    refine ar_bipush (v := 8) C dX12_count_59 (by decide) ?_
    refine ar_icmp_ge (tgt := 87) C dX12_count_61 (by decide) (fun c_1 => ?_) (fun c_1 => ?_)
    · have hj : j = 8 := Nat.le_antisymm hj0 (nat_le (a := 8) c_1 (by omega) (by omega))
      subst hj
      exact kk
    · have hj : j < 8 := nat_nle (a := 8) c_1 (by omega) (by omega)
      refine ar_iload_n (n := 1) C dX12_count_64 rfl rfl ?_
      refine ar_aload_n (n := 2) C dX12_count_65 rfl rfl ?_
      refine ar_getr C flX12_7 rfl kd_96 rf_96_2 dX12_count_66 ?_
      refine ar_iload_n (n := 0) C dX12_count_69 rfl rfl ?_
      refine ar_iald (j := j) C kd_97 rfl hj dX12_count_70 ?_
      refine ar_if_lt (tgt := 78) C dX12_count_71 (by decide) (fun c_2 => ?_) (fun c_2 => ?_)
      · refine ar_iconst (v := 0) C dX12_count_78 (by decide) ?_
        refine ar_iadd C dX12_count_79 ?_
        refine ar_topi (nI (cntB (fun s => !decide (M.1 97 s < 0)) (j + 1))) (cn_n (P := (fun s => !decide (M.1 97 s < 0))) (nd_n c_2)) ?_
        refine ar_istore_n (als' := [(2, .int (nI (cntB (fun s => !decide (M.1 97 s < 0)) (j + 1)))), (3, .int (nI j)), (0, .ref 96), (1, .int w)]) C dX12_count_80 rfl (by decide) rfl ?_
        refine ar_iinc (n := 1) (v := (nI (j + 1))) (als' := [(3, .int (nI (j + 1))), (2, .int (nI (cntB (fun s => !decide (M.1 97 s < 0)) (j + 1)))), (0, .ref 96), (1, .int w)]) C dX12_count_81 rfl (nI_1 _) (by decide) rfl ?_
        refine ar_goto (tgt := 58) C dX12_count_84 (by decide) ?_
        exact ih (j + 1) (by omega) (by omega)
      · refine ar_iconst (v := 1) C dX12_count_74 (by decide) ?_
        refine ar_goto (tgt := 79) C dX12_count_75 (by decide) ?_
        refine ar_iadd C dX12_count_79 ?_
        refine ar_topi (nI (cntB (fun s => !decide (M.1 97 s < 0)) (j + 1))) (cn_y (P := (fun s => !decide (M.1 97 s < 0))) (nd_y c_2)) ?_
        refine ar_istore_n (als' := [(2, .int (nI (cntB (fun s => !decide (M.1 97 s < 0)) (j + 1)))), (3, .int (nI j)), (0, .ref 96), (1, .int w)]) C dX12_count_80 rfl (by decide) rfl ?_
        refine ar_iinc (n := 1) (v := (nI (j + 1))) (als' := [(3, .int (nI (j + 1))), (2, .int (nI (cntB (fun s => !decide (M.1 97 s < 0)) (j + 1)))), (0, .ref 96), (1, .int w)]) C dX12_count_81 rfl (nI_1 _) (by decide) rfl ?_
        refine ar_goto (tgt := 58) C dX12_count_84 (by decide) ?_
        exact ih (j + 1) (by omega) (by omega)
set_option maxHeartbeats 4000000 in
set_option maxRecDepth 100000 in
theorem l_mc5 {X : Ctx} {V : Vx} {Q : State → Prop} (C : Cx X V mX12_count 6) (M : Mm) (w : Int32) (kk : AW X V mX12_count.2.2.1 T0 M 0 0 Q 166 [(3, .int (nI 192)), (2, .int (nI (cntB (fun k => !decide (M.1 105 k = 0)) 192))), (0, .ref 96), (1, .int w)] []) : ∀ (m : Nat) (j : Nat), j ≤ 192 → 192 - j < m → AW X V mX12_count.2.2.1 T0 (M) 0 0 Q 136 [(3, .int (nI j)), (2, .int (nI (cntB (fun k => !decide (M.1 105 k = 0)) j))), (0, .ref 96), (1, .int w)] [] := by
  intro m
  induction m with
  | zero => intro j _ h; exact absurd h (Nat.not_lt_zero _)
  | succ m ih =>
    intro j hj0 hmz
    refine ar_iload_n (n := 0) C dX12_count_136 rfl rfl ?_
    refine ar_sipush (v := 192) C dX12_count_137 (by decide) ?_
    refine ar_icmp_ge (tgt := 166) C dX12_count_140 (by decide) (fun c_1 => ?_) (fun c_1 => ?_)
    · have hj : j = 192 := Nat.le_antisymm hj0 (nat_le (a := 192) c_1 (by omega) (by omega))
      subst hj
      exact kk
    · have hj : j < 192 := nat_nle (a := 192) c_1 (by omega) (by omega)
      refine ar_iload_n (n := 1) C dX12_count_143 rfl rfl ?_
      refine ar_aload_n (n := 2) C dX12_count_144 rfl rfl ?_
      refine ar_getr C flX12_34 rfl kd_96 rf_96_11 dX12_count_145 ?_
      refine ar_iload_n (n := 0) C dX12_count_148 rfl rfl ?_
      refine ar_zald (j := j) C kd_105 rfl hj dX12_count_149 ?_
      refine ar_if_eq (tgt := 157) C dX12_count_150 (by decide) (fun c_2 => ?_) (fun c_2 => ?_)
      · refine ar_iconst (v := 0) C dX12_count_157 (by decide) ?_
        refine ar_iadd C dX12_count_158 ?_
        refine ar_topi (nI (cntB (fun k => !decide (M.1 105 k = 0)) (j + 1))) (cn_n (P := (fun k => !decide (M.1 105 k = 0))) (nd_n c_2)) ?_
        refine ar_istore_n (als' := [(2, .int (nI (cntB (fun k => !decide (M.1 105 k = 0)) (j + 1)))), (3, .int (nI j)), (0, .ref 96), (1, .int w)]) C dX12_count_159 rfl (by decide) rfl ?_
        refine ar_iinc (n := 1) (v := (nI (j + 1))) (als' := [(3, .int (nI (j + 1))), (2, .int (nI (cntB (fun k => !decide (M.1 105 k = 0)) (j + 1)))), (0, .ref 96), (1, .int w)]) C dX12_count_160 rfl (nI_1 _) (by decide) rfl ?_
        refine ar_goto (tgt := 136) C dX12_count_163 (by decide) ?_
        exact ih (j + 1) (by omega) (by omega)
      · refine ar_iconst (v := 1) C dX12_count_153 (by decide) ?_
        refine ar_goto (tgt := 158) C dX12_count_154 (by decide) ?_
        refine ar_iadd C dX12_count_158 ?_
        refine ar_topi (nI (cntB (fun k => !decide (M.1 105 k = 0)) (j + 1))) (cn_y (P := (fun k => !decide (M.1 105 k = 0))) (nd_y c_2)) ?_
        refine ar_istore_n (als' := [(2, .int (nI (cntB (fun k => !decide (M.1 105 k = 0)) (j + 1)))), (3, .int (nI j)), (0, .ref 96), (1, .int w)]) C dX12_count_159 rfl (by decide) rfl ?_
        refine ar_iinc (n := 1) (v := (nI (j + 1))) (als' := [(3, .int (nI (j + 1))), (2, .int (nI (cntB (fun k => !decide (M.1 105 k = 0)) (j + 1)))), (0, .ref 96), (1, .int w)]) C dX12_count_160 rfl (nI_1 _) (by decide) rfl ?_
        refine ar_goto (tgt := 136) C dX12_count_163 (by decide) ?_
        exact ih (j + 1) (by omega) (by omega)
set_option maxHeartbeats 4000000 in
set_option maxRecDepth 100000 in
theorem l_mc7 {X : Ctx} {V : Vx} {Q : State → Prop} (C : Cx X V mX12_count 6) (M : Mm) (w : Int32) (kk : AW X V mX12_count.2.2.1 T0 M 0 0 Q 274 [(3, .int (nI 17)), (2, .int (nI (cntB (fun c => !decide (M.1 101 c = 0)) 17))), (0, .ref 96), (1, .int w)] []) : ∀ (m : Nat) (j : Nat), j ≤ 17 → 17 - j < m → AW X V mX12_count.2.2.1 T0 (M) 0 0 Q 245 [(3, .int (nI j)), (2, .int (nI (cntB (fun c => !decide (M.1 101 c = 0)) j))), (0, .ref 96), (1, .int w)] [] := by
  intro m
  induction m with
  | zero => intro j _ h; exact absurd h (Nat.not_lt_zero _)
  | succ m ih =>
    intro j hj0 hmz
    refine ar_iload_n (n := 0) C dX12_count_245 rfl rfl ?_
    refine ar_bipush (v := 17) C dX12_count_246 (by decide) ?_
    refine ar_icmp_ge (tgt := 274) C dX12_count_248 (by decide) (fun c_1 => ?_) (fun c_1 => ?_)
    · have hj : j = 17 := Nat.le_antisymm hj0 (nat_le (a := 17) c_1 (by omega) (by omega))
      subst hj
      exact kk
    · have hj : j < 17 := nat_nle (a := 17) c_1 (by omega) (by omega)
      refine ar_iload_n (n := 1) C dX12_count_251 rfl rfl ?_
      refine ar_aload_n (n := 2) C dX12_count_252 rfl rfl ?_
      refine ar_getr C flX12_22 rfl kd_96 rf_96_6 dX12_count_253 ?_
      refine ar_iload_n (n := 0) C dX12_count_256 rfl rfl ?_
      refine ar_iald (j := j) C kd_101 rfl hj dX12_count_257 ?_
      refine ar_if_eq (tgt := 265) C dX12_count_258 (by decide) (fun c_2 => ?_) (fun c_2 => ?_)
      · refine ar_iconst (v := 0) C dX12_count_265 (by decide) ?_
        refine ar_iadd C dX12_count_266 ?_
        refine ar_topi (nI (cntB (fun c => !decide (M.1 101 c = 0)) (j + 1))) (cn_n (P := (fun c => !decide (M.1 101 c = 0))) (nd_n c_2)) ?_
        refine ar_istore_n (als' := [(2, .int (nI (cntB (fun c => !decide (M.1 101 c = 0)) (j + 1)))), (3, .int (nI j)), (0, .ref 96), (1, .int w)]) C dX12_count_267 rfl (by decide) rfl ?_
        refine ar_iinc (n := 1) (v := (nI (j + 1))) (als' := [(3, .int (nI (j + 1))), (2, .int (nI (cntB (fun c => !decide (M.1 101 c = 0)) (j + 1)))), (0, .ref 96), (1, .int w)]) C dX12_count_268 rfl (nI_1 _) (by decide) rfl ?_
        refine ar_goto (tgt := 245) C dX12_count_271 (by decide) ?_
        exact ih (j + 1) (by omega) (by omega)
      · refine ar_iconst (v := 1) C dX12_count_261 (by decide) ?_
        refine ar_goto (tgt := 266) C dX12_count_262 (by decide) ?_
        refine ar_iadd C dX12_count_266 ?_
        refine ar_topi (nI (cntB (fun c => !decide (M.1 101 c = 0)) (j + 1))) (cn_y (P := (fun c => !decide (M.1 101 c = 0))) (nd_y c_2)) ?_
        refine ar_istore_n (als' := [(2, .int (nI (cntB (fun c => !decide (M.1 101 c = 0)) (j + 1)))), (3, .int (nI j)), (0, .ref 96), (1, .int w)]) C dX12_count_267 rfl (by decide) rfl ?_
        refine ar_iinc (n := 1) (v := (nI (j + 1))) (als' := [(3, .int (nI (j + 1))), (2, .int (nI (cntB (fun c => !decide (M.1 101 c = 0)) (j + 1)))), (0, .ref 96), (1, .int w)]) C dX12_count_268 rfl (nI_1 _) (by decide) rfl ?_
        refine ar_goto (tgt := 245) C dX12_count_271 (by decide) ?_
        exact ih (j + 1) (by omega) (by omega)
set_option maxHeartbeats 4000000 in
set_option maxRecDepth 100000 in
theorem l_mc2 {X : Ctx} {V : Vx} {Q : State → Prop} (C : Cx X V mX12_count 6) (M : Mm) (w v : Int32) (hv : w - 1 = v) {N : Nat} {ρ β tx ty tz : Nat → Int32} (hA : MA M N ρ β tx ty tz) (kk : AW X V mX12_count.2.2.1 T0 M 0 0 Q 132 [(3, .int (nI N)), (2, .int (nI (cntB (fun t => f_isOf (P_kind ρ β (tx t) (ty t) (tz t)) v) N))), (0, .ref 96), (1, .int w)] []) : ∀ (m : Nat) (j : Nat), j ≤ N → N - j < m → AW X V mX12_count.2.2.1 T0 (M) 0 0 Q 96 [(3, .int (nI j)), (2, .int (nI (cntB (fun t => f_isOf (P_kind ρ β (tx t) (ty t) (tz t)) v) j))), (0, .ref 96), (1, .int w)] [] := by
  intro m
  induction m with
  | zero => intro j _ h; exact absurd h (Nat.not_lt_zero _)
  | succ m ih =>
    intro j hj0 hmz
    refine ar_iload_n (n := 0) C dX12_count_96 rfl rfl ?_
    refine ar_aload_n (n := 2) C dX12_count_97 rfl rfl ?_
    refine ar_geti C flX12_102 kd_96 dX12_count_98 ?_
    refine ar_topi (nI N) hA.1 ?_
    refine ar_icmp_ge (tgt := 132) C dX12_count_101 (by decide) (fun c_1 => ?_) (fun c_1 => ?_)
    · have hN24 := hA.2.1
      have hj : j = N := Nat.le_antisymm hj0 (nat_le (a := N) c_1 (by omega) (by omega))
      subst hj
      exact kk
    · have hN24 := hA.2.1
      have hj : j < N := nat_nle (a := N) c_1 (by omega) (by omega)
      have ht : j < 24 := by omega
      have h := hA.2.2 j hj
      refine ar_iload_n (n := 1) C dX12_count_104 rfl rfl ?_
      refine ar_aload_n (n := 2) C dX12_count_105 rfl rfl ?_
      refine ar_iload_n (n := 0) C dX12_count_106 rfl rfl ?_
      refine cV1 (ar := [.int (nI j)]) (st := [.int (nI (cntB (fun t => f_isOf (P_kind ρ β (tx t) (ty t) (tz t)) v) j))]) C lkX12_227 kd_96 (m_kindOf M (t := j) ht h) (by decide) rfl (Nat.le_of_ble_eq_true rfl) rfl dX12_count_107 ?_
      refine ar_iload_n (n := 3) C dX12_count_110 rfl rfl ?_
      refine ar_iconst (v := 1) C dX12_count_111 (by decide) ?_
      refine ar_isub C dX12_count_112 ?_
      refine ar_topi v hv ?_
      refine cS1 (ar := [.int (P_kind ρ β (tx j) (ty j) (tz j)), .int v]) (st := [.int (nI (cntB (fun t => f_isOf (P_kind ρ β (tx t) (ty t) (tz t)) v) j))]) C lkX12_230 (k_mOf M (P_kind ρ β (tx j) (ty j) (tz j)) v) (by decide) rfl (Nat.le_of_ble_eq_true rfl) rfl dX12_count_113 ?_
      refine ar_if_eqB (tgt := 123) C dX12_count_116 (by decide) (fun c_2 => ?_) (fun c_2 => ?_)
      · refine ar_iconst (v := 0) C dX12_count_123 (by decide) ?_
        refine ar_iadd C dX12_count_124 ?_
        refine ar_topi (nI (cntB (fun t => f_isOf (P_kind ρ β (tx t) (ty t) (tz t)) v) (j + 1))) (cn_n (P := (fun t => f_isOf (P_kind ρ β (tx t) (ty t) (tz t)) v)) c_2) ?_
        refine ar_istore_n (als' := [(2, .int (nI (cntB (fun t => f_isOf (P_kind ρ β (tx t) (ty t) (tz t)) v) (j + 1)))), (3, .int (nI j)), (0, .ref 96), (1, .int w)]) C dX12_count_125 rfl (by decide) rfl ?_
        refine ar_iinc (n := 1) (v := (nI (j + 1))) (als' := [(3, .int (nI (j + 1))), (2, .int (nI (cntB (fun t => f_isOf (P_kind ρ β (tx t) (ty t) (tz t)) v) (j + 1)))), (0, .ref 96), (1, .int w)]) C dX12_count_126 rfl (nI_1 _) (by decide) rfl ?_
        refine ar_goto (tgt := 96) C dX12_count_129 (by decide) ?_
        exact ih (j + 1) (by omega) (by omega)
      · refine ar_iconst (v := 1) C dX12_count_119 (by decide) ?_
        refine ar_goto (tgt := 124) C dX12_count_120 (by decide) ?_
        refine ar_iadd C dX12_count_124 ?_
        refine ar_topi (nI (cntB (fun t => f_isOf (P_kind ρ β (tx t) (ty t) (tz t)) v) (j + 1))) (cn_y (P := (fun t => f_isOf (P_kind ρ β (tx t) (ty t) (tz t)) v)) c_2) ?_
        refine ar_istore_n (als' := [(2, .int (nI (cntB (fun t => f_isOf (P_kind ρ β (tx t) (ty t) (tz t)) v) (j + 1)))), (3, .int (nI j)), (0, .ref 96), (1, .int w)]) C dX12_count_125 rfl (by decide) rfl ?_
        refine ar_iinc (n := 1) (v := (nI (j + 1))) (als' := [(3, .int (nI (j + 1))), (2, .int (nI (cntB (fun t => f_isOf (P_kind ρ β (tx t) (ty t) (tz t)) v) (j + 1)))), (0, .ref 96), (1, .int w)]) C dX12_count_126 rfl (nI_1 _) (by decide) rfl ?_
        refine ar_goto (tgt := 96) C dX12_count_129 (by decide) ?_
        exact ih (j + 1) (by omega) (by omega)
theorem c6_1 {P : Nat → Bool} {k : Nat} (c : (!(allB P k)) = true) : (1 : Int32) = bI (!(allB P (k + 1))) := by
  have e : allB P (k + 1) = false := by
    show (allB P k && P k) = false
    rw [show allB P k = false by simpa using c]; rfl
  rw [e]; rfl
theorem c6_2 {P : Nat → Bool} {k : Nat} (c : P k = false) : (1 : Int32) = bI (!(allB P (k + 1))) := by
  have e : allB P (k + 1) = false := by
    show (allB P k && P k) = false
    rw [c, Bool.and_false]
  rw [e]; rfl
theorem c6_3 {P : Nat → Bool} {k : Nat} (c : (!(allB P k)) = false) (c2 : P k = true) : (0 : Int32) = bI (!(allB P (k + 1))) := by
  have e : allB P (k + 1) = true := by
    show (allB P k && P k) = true
    rw [show allB P k = true by simpa using c, c2]; rfl
  rw [e]; rfl
set_option maxHeartbeats 4000000 in
set_option maxRecDepth 100000 in
theorem l_mc6i {X : Ctx} {V : Vx} {Q : State → Prop} (C : Cx X V mX12_count 6) (M : Mm) (w : Int32) {a : Nat} (ha : a < 8) (kk : AW X V mX12_count.2.2.1 T0 M 0 0 Q 222 [(5, .int (nI 24)), (4, .int (bI (!(allB (fun k => decide (M.1 105 (24 * a + k) = 0)) 24)))), (3, .int (nI a)), (2, .int (nI (cntB (fun a => !(allB (fun k => decide (M.1 105 (24 * a + k) = 0)) 24)) a))), (0, .ref 96), (1, .int w)] []) : ∀ (m : Nat) (k : Nat), k ≤ 24 → 24 - k < m → AW X V mX12_count.2.2.1 T0 (M) 0 0 Q 182 [(5, .int (nI k)), (4, .int (bI (!(allB (fun k => decide (M.1 105 (24 * a + k) = 0)) k)))), (3, .int (nI a)), (2, .int (nI (cntB (fun a => !(allB (fun k => decide (M.1 105 (24 * a + k) = 0)) 24)) a))), (0, .ref 96), (1, .int w)] [] := by
  intro m
  induction m with
  | zero => intro k _ h; exact absurd h (Nat.not_lt_zero _)
  | succ m ih =>
    intro k hk0 hmz
    refine ar_iload (n := 0) C dX12_count_182 rfl ?_
    refine ar_bipush (v := 24) C dX12_count_184 (by decide) ?_
    refine ar_icmp_ge (tgt := 222) C dX12_count_186 (by decide) (fun c_1 => ?_) (fun c_1 => ?_)
    · have hk : k = 24 := Nat.le_antisymm hk0 (nat_le (a := 24) c_1 (by decide) (by omega))
      subst hk
      exact kk
    · have hk : k < 24 := nat_nle (a := 24) c_1 (by decide) (by omega)
      refine ar_iload (n := 1) C dX12_count_189 rfl ?_
      refine ar_if_neB (tgt := 209) C dX12_count_191 (by decide) (fun c_2 => ?_) (fun c_2 => ?_)
      · refine ar_iconst (v := 1) C dX12_count_209 (by decide) ?_
        refine ar_goto (tgt := 214) C dX12_count_210 (by decide) ?_
        refine ar_topi (bI (!(allB (fun k => decide (M.1 105 (24 * a + k) = 0)) (k + 1)))) (c6_1 (P := (fun k => decide (M.1 105 (24 * a + k) = 0))) c_2) ?_
        refine ar_istore (als' := [(4, .int (bI (!(allB (fun k => decide (M.1 105 (24 * a + k) = 0)) (k + 1))))), (5, .int (nI k)), (3, .int (nI a)), (2, .int (nI (cntB (fun a => !(allB (fun k => decide (M.1 105 (24 * a + k) = 0)) 24)) a))), (0, .ref 96), (1, .int w)]) C dX12_count_214 (by decide) rfl ?_
        refine ar_iinc (n := 1) (v := (nI (k + 1))) (als' := [(5, .int (nI (k + 1))), (4, .int (bI (!(allB (fun k => decide (M.1 105 (24 * a + k) = 0)) (k + 1))))), (3, .int (nI a)), (2, .int (nI (cntB (fun a => !(allB (fun k => decide (M.1 105 (24 * a + k) = 0)) 24)) a))), (0, .ref 96), (1, .int w)]) C dX12_count_216 rfl (nI_1 _) (by decide) rfl ?_
        refine ar_goto (tgt := 182) C dX12_count_219 (by decide) ?_
        exact ih (k + 1) (by omega) (by omega)
      · refine ar_aload_n (n := 4) C dX12_count_194 rfl rfl ?_
        refine ar_getr C flX12_34 rfl kd_96 rf_96_11 dX12_count_195 ?_
        refine ar_bipush (v := 24) C dX12_count_198 (by decide) ?_
        refine ar_iload_n (n := 2) C dX12_count_200 rfl rfl ?_
        refine ar_imul C dX12_count_201 ?_
        refine ar_iload (n := 0) C dX12_count_202 rfl ?_
        refine ar_iadd C dX12_count_204 ?_
        refine ar_zald (j := 24 * a + k) C kd_105 (ix24 a k) (by omega) dX12_count_205 ?_
        refine ar_if_eq (tgt := 213) C dX12_count_206 (by decide) (fun c_3 => ?_) (fun c_3 => ?_)
        · refine ar_iconst (v := 0) C dX12_count_213 (by decide) ?_
          refine ar_topi (bI (!(allB (fun k => decide (M.1 105 (24 * a + k) = 0)) (k + 1)))) (c6_3 (P := (fun k => decide (M.1 105 (24 * a + k) = 0))) c_2 (decide_eq_true c_3)) ?_
          refine ar_istore (als' := [(4, .int (bI (!(allB (fun k => decide (M.1 105 (24 * a + k) = 0)) (k + 1))))), (5, .int (nI k)), (3, .int (nI a)), (2, .int (nI (cntB (fun a => !(allB (fun k => decide (M.1 105 (24 * a + k) = 0)) 24)) a))), (0, .ref 96), (1, .int w)]) C dX12_count_214 (by decide) rfl ?_
          refine ar_iinc (n := 1) (v := (nI (k + 1))) (als' := [(5, .int (nI (k + 1))), (4, .int (bI (!(allB (fun k => decide (M.1 105 (24 * a + k) = 0)) (k + 1))))), (3, .int (nI a)), (2, .int (nI (cntB (fun a => !(allB (fun k => decide (M.1 105 (24 * a + k) = 0)) 24)) a))), (0, .ref 96), (1, .int w)]) C dX12_count_216 rfl (nI_1 _) (by decide) rfl ?_
          refine ar_goto (tgt := 182) C dX12_count_219 (by decide) ?_
          exact ih (k + 1) (by omega) (by omega)
        · refine ar_iconst (v := 1) C dX12_count_209 (by decide) ?_
          refine ar_goto (tgt := 214) C dX12_count_210 (by decide) ?_
          refine ar_topi (bI (!(allB (fun k => decide (M.1 105 (24 * a + k) = 0)) (k + 1)))) (c6_2 (P := (fun k => decide (M.1 105 (24 * a + k) = 0))) (decide_eq_false c_3)) ?_
          refine ar_istore (als' := [(4, .int (bI (!(allB (fun k => decide (M.1 105 (24 * a + k) = 0)) (k + 1))))), (5, .int (nI k)), (3, .int (nI a)), (2, .int (nI (cntB (fun a => !(allB (fun k => decide (M.1 105 (24 * a + k) = 0)) 24)) a))), (0, .ref 96), (1, .int w)]) C dX12_count_214 (by decide) rfl ?_
          refine ar_iinc (n := 1) (v := (nI (k + 1))) (als' := [(5, .int (nI (k + 1))), (4, .int (bI (!(allB (fun k => decide (M.1 105 (24 * a + k) = 0)) (k + 1))))), (3, .int (nI a)), (2, .int (nI (cntB (fun a => !(allB (fun k => decide (M.1 105 (24 * a + k) = 0)) 24)) a))), (0, .ref 96), (1, .int w)]) C dX12_count_216 rfl (nI_1 _) (by decide) rfl ?_
          refine ar_goto (tgt := 182) C dX12_count_219 (by decide) ?_
          exact ih (k + 1) (by omega) (by omega)
set_option maxHeartbeats 4000000 in
set_option maxRecDepth 100000 in
theorem l_mc6 {X : Ctx} {V : Vx} {Q : State → Prop} (C : Cx X V mX12_count 6) (M : Mm) (w : Int32) (kk : AW X V mX12_count.2.2.1 T0 M 0 0 Q 241 [(3, .int (nI 8)), (2, .int (nI (cntB (fun a => !(allB (fun k => decide (M.1 105 (24 * a + k) = 0)) 24)) 8))), (0, .ref 96), (1, .int w)] []) : ∀ (m : Nat) (a : Nat), a ≤ 8 → 8 - a < m → AW X V mX12_count.2.2.1 T0 (M) 0 0 Q 170 [(3, .int (nI a)), (2, .int (nI (cntB (fun a => !(allB (fun k => decide (M.1 105 (24 * a + k) = 0)) 24)) a))), (0, .ref 96), (1, .int w)] [] := by
  intro m
  induction m with
  | zero => intro a _ h; exact absurd h (Nat.not_lt_zero _)
  | succ m ih =>
    intro a ha0 hmz
    refine ar_iload_n (n := 0) C dX12_count_170 rfl rfl ?_
    refine ar_bipush (v := 8) C dX12_count_171 (by decide) ?_
    refine ar_icmp_ge (tgt := 241) C dX12_count_173 (by decide) (fun c_1 => ?_) (fun c_1 => ?_)
    · have ha : a = 8 := Nat.le_antisymm ha0 (nat_le (a := 8) c_1 (by decide) (by omega))
      subst ha
      exact kk
    · have ha : a < 8 := nat_nle (a := 8) c_1 (by decide) (by omega)
      refine ar_iconst (v := 0) C dX12_count_176 (by decide) ?_
      refine ar_istore (als' := [(4, .int 0), (3, .int (nI a)), (2, .int (nI (cntB (fun a => !(allB (fun k => decide (M.1 105 (24 * a + k) = 0)) 24)) a))), (0, .ref 96), (1, .int w)]) C dX12_count_177 (by decide) rfl ?_
      refine ar_iconst (v := 0) C dX12_count_179 (by decide) ?_
      refine ar_istore (als' := [(5, .int 0), (4, .int 0), (3, .int (nI a)), (2, .int (nI (cntB (fun a => !(allB (fun k => decide (M.1 105 (24 * a + k) = 0)) 24)) a))), (0, .ref 96), (1, .int w)]) C dX12_count_180 (by decide) rfl ?_
      refine l_mc6i C M w ha ?_ 25 0 (by omega) (by omega)
      refine ar_iload_n (n := 3) C dX12_count_222 rfl rfl ?_
      refine ar_iload (n := 1) C dX12_count_223 rfl ?_
      refine ar_if_eqB (tgt := 232) C dX12_count_225 (by decide) (fun c_2 => ?_) (fun c_2 => ?_)
      · refine ar_iconst (v := 0) C dX12_count_232 (by decide) ?_
        refine ar_iadd C dX12_count_233 ?_
        refine ar_topi (nI (cntB (fun a => !(allB (fun k => decide (M.1 105 (24 * a + k) = 0)) 24)) (a + 1))) (cn_n (P := (fun a => !(allB (fun k => decide (M.1 105 (24 * a + k) = 0)) 24))) c_2) ?_
        refine ar_istore_n (als' := [(2, .int (nI (cntB (fun a => !(allB (fun k => decide (M.1 105 (24 * a + k) = 0)) 24)) (a + 1)))), (5, .int (nI 24)), (4, .int (bI (!(allB (fun k => decide (M.1 105 (24 * a + k) = 0)) 24)))), (3, .int (nI a)), (0, .ref 96), (1, .int w)]) C dX12_count_234 rfl (by decide) rfl ?_
        refine ar_iinc (n := 3) (v := (nI (a + 1))) (als' := [(3, .int (nI (a + 1))), (2, .int (nI (cntB (fun a => !(allB (fun k => decide (M.1 105 (24 * a + k) = 0)) 24)) (a + 1)))), (5, .int (nI 24)), (4, .int (bI (!(allB (fun k => decide (M.1 105 (24 * a + k) = 0)) 24)))), (0, .ref 96), (1, .int w)]) C dX12_count_235 rfl (nI_1 _) (by decide) rfl ?_
        refine ar_goto (tgt := 170) C dX12_count_238 (by decide) ?_
        refine ar_sub [0, 1, 4, 5] rfl ?_
        exact ih (a + 1) (by omega) (by omega)
      · refine ar_iconst (v := 1) C dX12_count_228 (by decide) ?_
        refine ar_goto (tgt := 233) C dX12_count_229 (by decide) ?_
        refine ar_iadd C dX12_count_233 ?_
        refine ar_topi (nI (cntB (fun a => !(allB (fun k => decide (M.1 105 (24 * a + k) = 0)) 24)) (a + 1))) (cn_y (P := (fun a => !(allB (fun k => decide (M.1 105 (24 * a + k) = 0)) 24))) c_2) ?_
        refine ar_istore_n (als' := [(2, .int (nI (cntB (fun a => !(allB (fun k => decide (M.1 105 (24 * a + k) = 0)) 24)) (a + 1)))), (5, .int (nI 24)), (4, .int (bI (!(allB (fun k => decide (M.1 105 (24 * a + k) = 0)) 24)))), (3, .int (nI a)), (0, .ref 96), (1, .int w)]) C dX12_count_234 rfl (by decide) rfl ?_
        refine ar_iinc (n := 3) (v := (nI (a + 1))) (als' := [(3, .int (nI (a + 1))), (2, .int (nI (cntB (fun a => !(allB (fun k => decide (M.1 105 (24 * a + k) = 0)) 24)) (a + 1)))), (5, .int (nI 24)), (4, .int (bI (!(allB (fun k => decide (M.1 105 (24 * a + k) = 0)) 24)))), (0, .ref 96), (1, .int w)]) C dX12_count_235 rfl (nI_1 _) (by decide) rfl ?_
        refine ar_goto (tgt := 170) C dX12_count_238 (by decide) ?_
        refine ar_sub [0, 1, 4, 5] rfl ?_
        exact ih (a + 1) (by omega) (by omega)
set_option maxHeartbeats 4000000 in
set_option maxRecDepth 100000 in
theorem m_count_0 (M : Mm) : AX mX12_count 6 [.ref 96, .int 0] M (some (.int (nI (cntB (fun s => !decide (M.1 97 s < 0)) 8)))) (wi M 96 0 0) := by
  refine AM_ofF (by decide +kernel) (Nat.le_of_ble_eq_true rfl) (fun X V C _ _ => ?_)
  show AW X V mX12_count.2.2.1 T0 M 0 0 _ 0 [(0, .ref 96), (1, .int 0)] []
  refine ar_aload_n (n := 0) C dX12_count_0 rfl rfl ?_
  refine ar_iconst (v := 0) C dX12_count_1 (by decide) ?_
  refine ar_puti C flX12_59 kd_96 dX12_count_2 ?_
  refine ar_iconst (v := 0) C dX12_count_5 (by decide) ?_
  refine ar_istore_n (als' := [(2, .int 0), (0, .ref 96), (1, .int 0)]) C dX12_count_6 rfl (by decide) rfl ?_
  refine ar_iload_n (n := 2) C dX12_count_7 rfl rfl ?_
  refine ar_tableIn (tgt := 56) C dX12_count_8 (by decide) (by decide) rfl (by decide) ?_
  refine ar_iconst (v := 0) C dX12_count_56 (by decide) ?_
  refine ar_istore_n (als' := [(3, .int 0), (2, .int 0), (0, .ref 96), (1, .int 0)]) C dX12_count_57 rfl (by decide) rfl ?_
  refine l_mc0 C (wi M 96 0 0) 0 ?_ (8 + 1) 0 (by omega) (by omega)
  refine ar_iload_n (n := 1) C dX12_count_87 rfl rfl ?_
  exact ar_ireturn C rfl dX12_count_88 ⟨rfl, rfl, rfl⟩
set_option maxHeartbeats 4000000 in
set_option maxRecDepth 100000 in
theorem m_count_5 (M : Mm) : AX mX12_count 6 [.ref 96, .int 5] M (some (.int (nI (cntB (fun k => !decide (M.1 105 k = 0)) 192)))) (wi M 96 0 0) := by
  refine AM_ofF (by decide +kernel) (Nat.le_of_ble_eq_true rfl) (fun X V C _ _ => ?_)
  show AW X V mX12_count.2.2.1 T0 M 0 0 _ 0 [(0, .ref 96), (1, .int 5)] []
  refine ar_aload_n (n := 0) C dX12_count_0 rfl rfl ?_
  refine ar_iconst (v := 0) C dX12_count_1 (by decide) ?_
  refine ar_puti C flX12_59 kd_96 dX12_count_2 ?_
  refine ar_iconst (v := 0) C dX12_count_5 (by decide) ?_
  refine ar_istore_n (als' := [(2, .int 0), (0, .ref 96), (1, .int 5)]) C dX12_count_6 rfl (by decide) rfl ?_
  refine ar_iload_n (n := 2) C dX12_count_7 rfl rfl ?_
  refine ar_tableIn (tgt := 134) C dX12_count_8 (by decide) (by decide) rfl (by decide) ?_
  refine ar_iconst (v := 0) C dX12_count_134 (by decide) ?_
  refine ar_istore_n (als' := [(3, .int 0), (2, .int 0), (0, .ref 96), (1, .int 5)]) C dX12_count_135 rfl (by decide) rfl ?_
  refine l_mc5 C (wi M 96 0 0) 5 ?_ (192 + 1) 0 (by omega) (by omega)
  refine ar_iload_n (n := 1) C dX12_count_166 rfl rfl ?_
  exact ar_ireturn C rfl dX12_count_167 ⟨rfl, rfl, rfl⟩
set_option maxHeartbeats 4000000 in
set_option maxRecDepth 100000 in
theorem m_count_6 (M : Mm) : AX mX12_count 6 [.ref 96, .int 6] M (some (.int (nI (cntB (fun a => !(allB (fun k => decide (M.1 105 (24 * a + k) = 0)) 24)) 8)))) (wi M 96 0 0) := by
  refine AM_ofF (by decide +kernel) (Nat.le_of_ble_eq_true rfl) (fun X V C _ _ => ?_)
  show AW X V mX12_count.2.2.1 T0 M 0 0 _ 0 [(0, .ref 96), (1, .int 6)] []
  refine ar_aload_n (n := 0) C dX12_count_0 rfl rfl ?_
  refine ar_iconst (v := 0) C dX12_count_1 (by decide) ?_
  refine ar_puti C flX12_59 kd_96 dX12_count_2 ?_
  refine ar_iconst (v := 0) C dX12_count_5 (by decide) ?_
  refine ar_istore_n (als' := [(2, .int 0), (0, .ref 96), (1, .int 6)]) C dX12_count_6 rfl (by decide) rfl ?_
  refine ar_iload_n (n := 2) C dX12_count_7 rfl rfl ?_
  refine ar_tableIn (tgt := 168) C dX12_count_8 (by decide) (by decide) rfl (by decide) ?_
  refine ar_iconst (v := 0) C dX12_count_168 (by decide) ?_
  refine ar_istore_n (als' := [(3, .int 0), (2, .int 0), (0, .ref 96), (1, .int 6)]) C dX12_count_169 rfl (by decide) rfl ?_
  refine l_mc6 C (wi M 96 0 0) 6 ?_ (8 + 1) 0 (by omega) (by omega)
  refine ar_iload_n (n := 1) C dX12_count_241 rfl rfl ?_
  exact ar_ireturn C rfl dX12_count_242 ⟨rfl, rfl, rfl⟩
set_option maxHeartbeats 4000000 in
set_option maxRecDepth 100000 in
theorem m_count_7 (M : Mm) : AX mX12_count 6 [.ref 96, .int 7] M (some (.int (nI (cntB (fun c => !decide (M.1 101 c = 0)) 17)))) (wi M 96 0 0) := by
  refine AM_ofF (by decide +kernel) (Nat.le_of_ble_eq_true rfl) (fun X V C _ _ => ?_)
  show AW X V mX12_count.2.2.1 T0 M 0 0 _ 0 [(0, .ref 96), (1, .int 7)] []
  refine ar_aload_n (n := 0) C dX12_count_0 rfl rfl ?_
  refine ar_iconst (v := 0) C dX12_count_1 (by decide) ?_
  refine ar_puti C flX12_59 kd_96 dX12_count_2 ?_
  refine ar_iconst (v := 0) C dX12_count_5 (by decide) ?_
  refine ar_istore_n (als' := [(2, .int 0), (0, .ref 96), (1, .int 7)]) C dX12_count_6 rfl (by decide) rfl ?_
  refine ar_iload_n (n := 2) C dX12_count_7 rfl rfl ?_
  refine ar_tableIn (tgt := 243) C dX12_count_8 (by decide) (by decide) rfl (by decide) ?_
  refine ar_iconst (v := 0) C dX12_count_243 (by decide) ?_
  refine ar_istore_n (als' := [(3, .int 0), (2, .int 0), (0, .ref 96), (1, .int 7)]) C dX12_count_244 rfl (by decide) rfl ?_
  refine l_mc7 C (wi M 96 0 0) 7 ?_ (17 + 1) 0 (by omega) (by omega)
  refine ar_iload_n (n := 1) C dX12_count_274 rfl rfl ?_
  exact ar_ireturn C rfl dX12_count_275 ⟨rfl, rfl, rfl⟩
set_option maxHeartbeats 4000000 in
set_option maxRecDepth 100000 in
theorem m_count_1 (M : Mm) : AX mX12_count 6 [.ref 96, .int 1] M (some (.int (M.1 96 7))) (wi M 96 0 0) := by
  refine AM_ofF (by decide +kernel) (Nat.le_of_ble_eq_true rfl) (fun X V C _ _ => ?_)
  show AW X V mX12_count.2.2.1 T0 M 0 0 _ 0 [(0, .ref 96), (1, .int 1)] []
  refine ar_aload_n (n := 0) C dX12_count_0 rfl rfl ?_
  refine ar_iconst (v := 0) C dX12_count_1 (by decide) ?_
  refine ar_puti C flX12_59 kd_96 dX12_count_2 ?_
  refine ar_iconst (v := 0) C dX12_count_5 (by decide) ?_
  refine ar_istore_n (als' := [(2, .int 0), (0, .ref 96), (1, .int 1)]) C dX12_count_6 rfl (by decide) rfl ?_
  refine ar_iload_n (n := 2) C dX12_count_7 rfl rfl ?_
  refine ar_tableIn (tgt := 89) C dX12_count_8 (by decide) (by decide) rfl (by decide) ?_
  refine ar_aload_n (n := 1) C dX12_count_89 rfl rfl ?_
  refine ar_getiV (v := M.1 96 7) C flX12_102 kd_96 rfl dX12_count_90 ?_
  exact ar_ireturn C rfl dX12_count_93 ⟨rfl, rfl, rfl⟩
set_option maxHeartbeats 4000000 in
set_option maxRecDepth 100000 in
theorem m_count_2 (M : Mm) {N : Nat} {ρ β tx ty tz : Nat → Int32} (hA : MA M N ρ β tx ty tz) : AX mX12_count 6 [.ref 96, .int 2] M (some (.int (nI (cntB (fun t => f_isOf (P_kind ρ β (tx t) (ty t) (tz t)) 1) N)))) (wi M 96 0 0) := by
  refine AM_ofF (by decide +kernel) (Nat.le_of_ble_eq_true rfl) (fun X V C _ _ => ?_)
  show AW X V mX12_count.2.2.1 T0 M 0 0 _ 0 [(0, .ref 96), (1, .int 2)] []
  refine ar_aload_n (n := 0) C dX12_count_0 rfl rfl ?_
  refine ar_iconst (v := 0) C dX12_count_1 (by decide) ?_
  refine ar_puti C flX12_59 kd_96 dX12_count_2 ?_
  refine ar_iconst (v := 0) C dX12_count_5 (by decide) ?_
  refine ar_istore_n (als' := [(2, .int 0), (0, .ref 96), (1, .int 2)]) C dX12_count_6 rfl (by decide) rfl ?_
  refine ar_iload_n (n := 2) C dX12_count_7 rfl rfl ?_
  refine ar_tableIn (tgt := 94) C dX12_count_8 (by decide) (by decide) rfl (by decide) ?_
  refine ar_iconst (v := 0) C dX12_count_94 (by decide) ?_
  refine ar_istore_n (als' := [(3, .int 0), (2, .int 0), (0, .ref 96), (1, .int 2)]) C dX12_count_95 rfl (by decide) rfl ?_
  refine l_mc2 C (wi M 96 0 0) 2 1 rfl ⟨hA.1, hA.2.1, fun t ht => MT_s (Or.inl (by decide)) (hA.2.2 t ht)⟩ ?_ (N + 1) 0 (by omega) (by omega)
  refine ar_iload_n (n := 1) C dX12_count_132 rfl rfl ?_
  exact ar_ireturn C rfl dX12_count_133 ⟨rfl, rfl, rfl⟩
set_option maxHeartbeats 4000000 in
set_option maxRecDepth 100000 in
theorem m_count_3 (M : Mm) {N : Nat} {ρ β tx ty tz : Nat → Int32} (hA : MA M N ρ β tx ty tz) : AX mX12_count 6 [.ref 96, .int 3] M (some (.int (nI (cntB (fun t => f_isOf (P_kind ρ β (tx t) (ty t) (tz t)) 2) N)))) (wi M 96 0 0) := by
  refine AM_ofF (by decide +kernel) (Nat.le_of_ble_eq_true rfl) (fun X V C _ _ => ?_)
  show AW X V mX12_count.2.2.1 T0 M 0 0 _ 0 [(0, .ref 96), (1, .int 3)] []
  refine ar_aload_n (n := 0) C dX12_count_0 rfl rfl ?_
  refine ar_iconst (v := 0) C dX12_count_1 (by decide) ?_
  refine ar_puti C flX12_59 kd_96 dX12_count_2 ?_
  refine ar_iconst (v := 0) C dX12_count_5 (by decide) ?_
  refine ar_istore_n (als' := [(2, .int 0), (0, .ref 96), (1, .int 3)]) C dX12_count_6 rfl (by decide) rfl ?_
  refine ar_iload_n (n := 2) C dX12_count_7 rfl rfl ?_
  refine ar_tableIn (tgt := 94) C dX12_count_8 (by decide) (by decide) rfl (by decide) ?_
  refine ar_iconst (v := 0) C dX12_count_94 (by decide) ?_
  refine ar_istore_n (als' := [(3, .int 0), (2, .int 0), (0, .ref 96), (1, .int 3)]) C dX12_count_95 rfl (by decide) rfl ?_
  refine l_mc2 C (wi M 96 0 0) 3 2 rfl ⟨hA.1, hA.2.1, fun t ht => MT_s (Or.inl (by decide)) (hA.2.2 t ht)⟩ ?_ (N + 1) 0 (by omega) (by omega)
  refine ar_iload_n (n := 1) C dX12_count_132 rfl rfl ?_
  exact ar_ireturn C rfl dX12_count_133 ⟨rfl, rfl, rfl⟩
set_option maxHeartbeats 4000000 in
set_option maxRecDepth 100000 in
theorem m_count_4 (M : Mm) {N : Nat} {ρ β tx ty tz : Nat → Int32} (hA : MA M N ρ β tx ty tz) : AX mX12_count 6 [.ref 96, .int 4] M (some (.int (nI (cntB (fun t => f_isOf (P_kind ρ β (tx t) (ty t) (tz t)) 3) N)))) (wi M 96 0 0) := by
  refine AM_ofF (by decide +kernel) (Nat.le_of_ble_eq_true rfl) (fun X V C _ _ => ?_)
  show AW X V mX12_count.2.2.1 T0 M 0 0 _ 0 [(0, .ref 96), (1, .int 4)] []
  refine ar_aload_n (n := 0) C dX12_count_0 rfl rfl ?_
  refine ar_iconst (v := 0) C dX12_count_1 (by decide) ?_
  refine ar_puti C flX12_59 kd_96 dX12_count_2 ?_
  refine ar_iconst (v := 0) C dX12_count_5 (by decide) ?_
  refine ar_istore_n (als' := [(2, .int 0), (0, .ref 96), (1, .int 4)]) C dX12_count_6 rfl (by decide) rfl ?_
  refine ar_iload_n (n := 2) C dX12_count_7 rfl rfl ?_
  refine ar_tableIn (tgt := 94) C dX12_count_8 (by decide) (by decide) rfl (by decide) ?_
  refine ar_iconst (v := 0) C dX12_count_94 (by decide) ?_
  refine ar_istore_n (als' := [(3, .int 0), (2, .int 0), (0, .ref 96), (1, .int 4)]) C dX12_count_95 rfl (by decide) rfl ?_
  refine l_mc2 C (wi M 96 0 0) 4 3 rfl ⟨hA.1, hA.2.1, fun t ht => MT_s (Or.inl (by decide)) (hA.2.2 t ht)⟩ ?_ (N + 1) 0 (by omega) (by omega)
  refine ar_iload_n (n := 1) C dX12_count_132 rfl rfl ?_
  exact ar_ireturn C rfl dX12_count_133 ⟨rfl, rfl, rfl⟩
set_option maxHeartbeats 4000000 in
set_option maxRecDepth 100000 in
theorem m_count_bad (M : Mm) (w : Int32) (h : f_in w 0 7 = false) : AX mX12_count 6 [.ref 96, .int w] M (some (.int (-1000001))) (wi M 96 0 0) := by
  refine AM_ofF (by decide +kernel) (Nat.le_of_ble_eq_true rfl) (fun X V C _ _ => ?_)
  show AW X V mX12_count.2.2.1 T0 M 0 0 _ 0 [(0, .ref 96), (1, .int w)] []
  refine ar_aload_n (n := 0) C dX12_count_0 rfl rfl ?_
  refine ar_iconst (v := 0) C dX12_count_1 (by decide) ?_
  refine ar_puti C flX12_59 kd_96 dX12_count_2 ?_
  refine ar_iconst (v := 0) C dX12_count_5 (by decide) ?_
  refine ar_istore_n (als' := [(2, .int 0), (0, .ref 96), (1, .int w)]) C dX12_count_6 rfl (by decide) rfl ?_
  refine ar_iload_n (n := 2) C dX12_count_7 rfl rfl ?_
  refine ar_tableOut (tgt := 276) C dX12_count_8 (sw_out (n := 7) (by decide) h) (by decide) ?_
  refine ar_ldc C kcX12_79 dX12_count_276 ?_
  exact ar_ireturn C rfl dX12_count_278 ⟨rfl, rfl, rfl⟩
