/-! THE MODEL: studios -/
def PF (M M1 : Mm) : Prop := (∀ j, j ≠ 25 → j ≠ 26 → M1.1 96 j = M.1 96 j) ∧ ∀ c, c ≠ 96 → M1.1 c = M.1 c
theorem PF_rf (M : Mm) : PF M M := ⟨fun _ _ _ => rfl, fun _ _ => rfl⟩
theorem PF_w {M M1 : Mm} {j : Nat} {v : Int32} (h : PF M M1) (hj : j = 25 ∨ j = 26) : PF M (wi M1 96 j v) := by
  refine ⟨fun k h1 h2 => ?_, fun c hc => ?_⟩
  · have : ¬ k = j := by omega
    rw [← h.1 k h1 h2]; simp [wi, this]
  · rw [← h.2 c hc]; funext b; simp [wi, hc]
def fX (M : Mm) (at_ a t : Nat) : Int32 := f_abs (M.1 106 (24 * a + t) - st_ax (M.1 99 at_) (M.1 99 (at_ + 3)) (M.1 99 (at_ + 2)) (M.1 102 t) (M.1 104 t))
def fY (M : Mm) (at_ a t : Nat) : Int32 := f_abs (M.1 107 (24 * a + t) - st_ax (M.1 99 (at_ + 1)) (M.1 99 (at_ + 3)) (M.1 99 (at_ + 2)) (M.1 103 t) (M.1 104 t))
def PU (M : Mm) (at_ a t : Nat) (M1 : Mm) : Prop := (¬ M.1 104 t ≤ M.1 99 (at_ + 2) → M1.1 96 25 = fX M at_ a t ∧ M1.1 96 26 = fY M at_ a t) ∧ PF M M1
def SOK (M : Mm) (at_ : Nat) : Prop := f_stand (M.1 99 at_) (M.1 99 (at_ + 1)) (M.1 99 (at_ + 2)) (M.1 99 (at_ + 3)) = true ∧ at_ + 3 < 640
def TOK (M : Mm) (N : Nat) : Prop := M.1 96 7 = nI N ∧ N ≤ 24 ∧ ∀ t, t < N → RT (M.1 102 t) (M.1 103 t) (M.1 104 t)
theorem st_x {u v w d : Int32} (h : f_stand u v w d = true) : na u ≤ 1000 ∧ na v ≤ 1000 ∧ na w ≤ 1000 ∧ 1 ≤ d.toInt ∧ d.toInt ≤ 1000 := by
  simp only [f_stand, Bool.and_eq_true] at h
  obtain ⟨⟨⟨h1, h2⟩, h3⟩, h4⟩ := h
  have e1 : (-1000 : Int32).toInt = -1000 := by decide
  have e2 : (1000 : Int32).toInt = 1000 := by decide
  have e3 : (1 : Int32).toInt = 1 := by decide
  have g1 := (in_iff _ _ _).mp h1
  have g2 := (in_iff _ _ _).mp h2
  have g3 := (in_iff _ _ _).mp h3
  have g4 := (in_iff _ _ _).mp h4
  rw [e1, e2] at g1 g2 g3
  rw [e3, e2] at g4
  simp only [na]
  omega
theorem zw_le {z w : Int32} (hz : 1 ≤ z.toInt) (hz2 : z.toInt ≤ 5000) (hw : na w ≤ 1000) : z - w ≤ 0 ↔ z ≤ w := by
  have e := (t_sub (a := z) (b := w) (A := 5000) (B := 1000) (by simp only [na]; omega) hw (by decide)).1
  rw [Int32.le_iff_toInt_le, Int32.le_iff_toInt_le, e, show (0 : Int32).toInt = 0 by decide]
  omega
theorem zw_ne {z w : Int32} (h : ¬ z - w ≤ 0) : ¬ z - w = 0 := fun e => h (by rw [e]; decide)
theorem ax_eq {x u d z w m : Int32} (hx : na x ≤ 1000) (hu : na u ≤ 1000) (hd1 : 1 ≤ d.toInt) (hd2 : d.toInt ≤ 1000) (h : ¬ z - w ≤ 0) : m + (x - u) * d / (z - w) = m - st_ax u d w x z := by
  have e1 := (t_sub hx hu (by decide)).2
  have e2 := (t_mul (b := d) (B := 1000) e1 (by simp only [na]; omega) (by decide)).2
  unfold st_ax
  rw [by_ne (zw_ne h), Int32.neg_mul, neg_div (Nat.le_trans e2 (by decide))]
  generalize (x - u) * d / (z - w) = A
  rw [Int32.sub_eq_add_neg, Int32.neg_neg]
theorem ix80k (s i k : Nat) : 80 * nI s + nI i + 4 * nI k = nI (80 * s + i + 4 * k) := by
  rw [ix80, show (4 : Int32) * nI k = nI (4 * k) from pk_mul 4 k, nI_add]
theorem ix4k (b k : Nat) : nI b + 4 * nI k = nI (b + 4 * k) := by rw [show (4 : Int32) * nI k = nI (4 * k) from pk_mul 4 k, nI_add]
theorem fmn_1 {x y : Int32} (h : x ≤ y) : x = f_min x y := by
  unfold f_min; rw [if_neg (Int32.not_lt.mpr h)]
theorem fmn_2 {x y : Int32} (h : ¬ x ≤ y) : y = f_min x y := by
  unfold f_min; rw [if_pos (Int32.not_le.mp h)]
set_option maxHeartbeats 4000000 in
set_option maxRecDepth 100000 in
theorem m_puts (M M1 : Mm) (hF : PF M M1) {at_ a t N : Nat} (hS : SOK M at_) (ha : a < 8) (hT : TOK M N) (htN : t < N) : AQ mX12_puts 1 [.ref 96, .int (nI at_), .int (nI a), .int (nI t)] M1 (some (.int (bI (!decide (M.1 104 t ≤ M.1 99 (at_ + 2)))))) (PU M at_ a t) := by
  have hN24 := hT.2.1
  obtain ⟨x1, x2, x3, x4⟩ := RT_x (hT.2.2 t htN)
  obtain ⟨s1, s2, s3, s4, s5⟩ := st_x hS.1
  have h640 := hS.2
  refine AM_ofF (by decide +kernel) (Nat.le_of_ble_eq_true rfl) (fun X V C _ _ => ?_)
  show AW X V mX12_puts.2.2.1 T0 M1 0 0 _ 0 [(0, .ref 96), (1, .int (nI at_)), (2, .int (nI a)), (3, .int (nI t))] []
  refine ar_aload_n (n := 0) C dX12_puts_0 rfl rfl ?_
  refine ar_getr C flX12_31 rfl kd_96 rf_96_10 dX12_puts_1 ?_
  refine ar_iload_n (n := 3) C dX12_puts_4 rfl rfl ?_
  refine ar_iald (j := t) C kd_104 rfl (show t < 24 by omega) dX12_puts_5 ?_
  refine ar_topi (M.1 104 t) (by first | exact (congrFun (hF.2 104 (by decide)) _) | (simp [wi]; exact (congrFun (hF.2 104 (by decide)) _))) ?_
  refine ar_aload_n (n := 0) C dX12_puts_6 rfl rfl ?_
  refine ar_getr C flX12_16 rfl kd_96 rf_96_4 dX12_puts_7 ?_
  refine ar_iload_n (n := 1) C dX12_puts_10 rfl rfl ?_
  refine ar_iconst (v := 2) C dX12_puts_11 (by decide) ?_
  refine ar_iadd C dX12_puts_12 ?_
  refine ar_iald (j := at_ + 2) C kd_99 (by rw [show (2 : Int32) = nI 2 from rfl, nI_add]) (by omega) dX12_puts_13 ?_
  refine ar_topi (M.1 99 (at_ + 2)) (by first | exact (congrFun (hF.2 99 (by decide)) _) | (simp [wi]; exact (congrFun (hF.2 99 (by decide)) _))) ?_
  refine ar_isub C dX12_puts_14 ?_
  refine ar_istore (als' := [(4, .int ((M.1 104 t) - (M.1 99 (at_ + 2)))), (0, .ref 96), (1, .int (nI at_)), (2, .int (nI a)), (3, .int (nI t))]) C dX12_puts_15 (by decide) rfl ?_
  refine ar_iload (n := 0) C dX12_puts_17 rfl ?_
  refine ar_if_gt (tgt := 24) C dX12_puts_19 (by decide) (fun c_1 => ?_) (fun c_1 => ?_)
  · refine ar_aload_n (n := 1) C dX12_puts_24 rfl rfl ?_
    refine ar_getr C flX12_16 rfl kd_96 rf_96_4 dX12_puts_25 ?_
    refine ar_iload_n (n := 2) C dX12_puts_28 rfl rfl ?_
    refine ar_iconst (v := 3) C dX12_puts_29 (by decide) ?_
    refine ar_iadd C dX12_puts_30 ?_
    refine ar_iald (j := at_ + 3) C kd_99 (by rw [show (3 : Int32) = nI 3 from rfl, nI_add]) (by omega) dX12_puts_31 ?_
    refine ar_topi (M.1 99 (at_ + 3)) (by first | exact (congrFun (hF.2 99 (by decide)) _) | (simp [wi]; exact (congrFun (hF.2 99 (by decide)) _))) ?_
    refine ar_istore (als' := [(5, .int (M.1 99 (at_ + 3))), (4, .int ((M.1 104 t) - (M.1 99 (at_ + 2)))), (0, .ref 96), (1, .int (nI at_)), (2, .int (nI a)), (3, .int (nI t))]) C dX12_puts_32 (by decide) rfl ?_
    refine ar_aload_n (n := 2) C dX12_puts_34 rfl rfl ?_
    refine ar_aload_n (n := 2) C dX12_puts_35 rfl rfl ?_
    refine ar_getr C flX12_38 rfl kd_96 rf_96_12 dX12_puts_36 ?_
    refine ar_bipush (v := 24) C dX12_puts_39 (by decide) ?_
    refine ar_iload_n (n := 4) C dX12_puts_41 rfl rfl ?_
    refine ar_imul C dX12_puts_42 ?_
    refine ar_iload_n (n := 5) C dX12_puts_43 rfl rfl ?_
    refine ar_iadd C dX12_puts_44 ?_
    refine ar_iald (j := 24 * a + t) C kd_106 (ix24 a t) (by omega) dX12_puts_45 ?_
    refine ar_topi (M.1 106 (24 * a + t)) (by first | exact (congrFun (hF.2 106 (by decide)) _) | (simp [wi]; exact (congrFun (hF.2 106 (by decide)) _))) ?_
    refine ar_aload_n (n := 2) C dX12_puts_46 rfl rfl ?_
    refine ar_getr C flX12_25 rfl kd_96 rf_96_8 dX12_puts_47 ?_
    refine ar_iload_n (n := 5) C dX12_puts_50 rfl rfl ?_
    refine ar_iald (j := t) C kd_102 rfl (show t < 24 by omega) dX12_puts_51 ?_
    refine ar_topi (M.1 102 t) (by first | exact (congrFun (hF.2 102 (by decide)) _) | (simp [wi]; exact (congrFun (hF.2 102 (by decide)) _))) ?_
    refine ar_aload_n (n := 2) C dX12_puts_52 rfl rfl ?_
    refine ar_getr C flX12_16 rfl kd_96 rf_96_4 dX12_puts_53 ?_
    refine ar_iload_n (n := 3) C dX12_puts_56 rfl rfl ?_
    refine ar_iald (j := at_) C kd_99 rfl (by omega) dX12_puts_57 ?_
    refine ar_topi (M.1 99 at_) (by first | exact (congrFun (hF.2 99 (by decide)) _) | (simp [wi]; exact (congrFun (hF.2 99 (by decide)) _))) ?_
    refine ar_isub C dX12_puts_58 ?_
    refine ar_iload (n := 0) C dX12_puts_59 rfl ?_
    refine ar_imul C dX12_puts_61 ?_
    refine ar_iload (n := 1) C dX12_puts_62 rfl ?_
    refine ar_idiv C dX12_puts_64 (zw_ne (Int32.not_le.mpr c_1)) ?_
    refine ar_iadd C dX12_puts_65 ?_
    refine ar_topi (M.1 106 (24 * a + t) - st_ax (M.1 99 at_) (M.1 99 (at_ + 3)) (M.1 99 (at_ + 2)) (M.1 102 t) (M.1 104 t)) (ax_eq x1 s1 s4 s5 (Int32.not_le.mpr c_1)) ?_
    refine cS1 (ar := [.int (M.1 106 (24 * a + t) - st_ax (M.1 99 at_) (M.1 99 (at_ + 3)) (M.1 99 (at_ + 2)) (M.1 102 t) (M.1 104 t))]) (st := [.ref 96]) C lkX12_123 (k_size M1 (M.1 106 (24 * a + t) - st_ax (M.1 99 at_) (M.1 99 (at_ + 3)) (M.1 99 (at_ + 2)) (M.1 102 t) (M.1 104 t))) (by decide) rfl (Nat.le_of_ble_eq_true rfl) rfl dX12_puts_66 ?_
    refine ar_topi (fX M at_ a t) rfl ?_
    refine ar_puti C flX12_201 kd_96 dX12_puts_69 ?_
    refine ar_aload_n (n := 2) C dX12_puts_72 rfl rfl ?_
    refine ar_aload_n (n := 2) C dX12_puts_73 rfl rfl ?_
    refine ar_getr C flX12_41 rfl kd_96 rf_96_13 dX12_puts_74 ?_
    refine ar_bipush (v := 24) C dX12_puts_77 (by decide) ?_
    refine ar_iload_n (n := 4) C dX12_puts_79 rfl rfl ?_
    refine ar_imul C dX12_puts_80 ?_
    refine ar_iload_n (n := 5) C dX12_puts_81 rfl rfl ?_
    refine ar_iadd C dX12_puts_82 ?_
    refine ar_ialdV (j := 24 * a + t) (v := M1.1 107 (24 * a + t)) C kd_107 (ix24 a t) (by omega) (by simp [wi, wl]; try omega) dX12_puts_83 ?_
    refine ar_topi (M.1 107 (24 * a + t)) (by first | exact (congrFun (hF.2 107 (by decide)) _) | (simp [wi]; exact (congrFun (hF.2 107 (by decide)) _))) ?_
    refine ar_aload_n (n := 2) C dX12_puts_84 rfl rfl ?_
    refine ar_getr C flX12_28 rfl kd_96 rf_96_9 dX12_puts_85 ?_
    refine ar_iload_n (n := 5) C dX12_puts_88 rfl rfl ?_
    refine ar_ialdV (j := t) (v := M1.1 103 t) C kd_103 rfl (show t < 24 by omega) (by simp [wi, wl]; try omega) dX12_puts_89 ?_
    refine ar_topi (M.1 103 t) (by first | exact (congrFun (hF.2 103 (by decide)) _) | (simp [wi]; exact (congrFun (hF.2 103 (by decide)) _))) ?_
    refine ar_aload_n (n := 2) C dX12_puts_90 rfl rfl ?_
    refine ar_getr C flX12_16 rfl kd_96 rf_96_4 dX12_puts_91 ?_
    refine ar_iload_n (n := 3) C dX12_puts_94 rfl rfl ?_
    refine ar_iconst (v := 1) C dX12_puts_95 (by decide) ?_
    refine ar_iadd C dX12_puts_96 ?_
    refine ar_ialdV (j := at_ + 1) (v := M1.1 99 (at_ + 1)) C kd_99 (by rw [show (1 : Int32) = nI 1 from rfl, nI_add]) (by omega) (by simp [wi, wl]; try omega) dX12_puts_97 ?_
    refine ar_topi (M.1 99 (at_ + 1)) (by first | exact (congrFun (hF.2 99 (by decide)) _) | (simp [wi]; exact (congrFun (hF.2 99 (by decide)) _))) ?_
    refine ar_isub C dX12_puts_98 ?_
    refine ar_iload (n := 0) C dX12_puts_99 rfl ?_
    refine ar_imul C dX12_puts_101 ?_
    refine ar_iload (n := 1) C dX12_puts_102 rfl ?_
    refine ar_idiv C dX12_puts_104 (zw_ne (Int32.not_le.mpr c_1)) ?_
    refine ar_iadd C dX12_puts_105 ?_
    refine ar_topi (M.1 107 (24 * a + t) - st_ax (M.1 99 (at_ + 1)) (M.1 99 (at_ + 3)) (M.1 99 (at_ + 2)) (M.1 103 t) (M.1 104 t)) (ax_eq x2 s2 s4 s5 (Int32.not_le.mpr c_1)) ?_
    refine cS1 (ar := [.int (M.1 107 (24 * a + t) - st_ax (M.1 99 (at_ + 1)) (M.1 99 (at_ + 3)) (M.1 99 (at_ + 2)) (M.1 103 t) (M.1 104 t))]) (st := [.ref 96]) C lkX12_123 (k_size (wi M1 96 25 (fX M at_ a t)) (M.1 107 (24 * a + t) - st_ax (M.1 99 (at_ + 1)) (M.1 99 (at_ + 3)) (M.1 99 (at_ + 2)) (M.1 103 t) (M.1 104 t))) (by decide) rfl (Nat.le_of_ble_eq_true rfl) rfl dX12_puts_106 ?_
    refine ar_topi (fY M at_ a t) rfl ?_
    refine ar_puti C flX12_204 kd_96 dX12_puts_109 ?_
    refine ar_iconst (v := 1) C dX12_puts_112 (by decide) ?_
    exact ar_zreturn C rfl rfl dX12_puts_113 ⟨by rw [show (!decide (M.1 104 t ≤ M.1 99 (at_ + 2))) = true from nd_y (fun q => Int32.not_le.mpr c_1 ((zw_le x3 x4 s3).mpr q))]; rfl, rfl, fun _ => ⟨by simp [wi], by simp [wi]⟩, PF_w (PF_w hF (Or.inl rfl)) (Or.inr rfl)⟩
  · refine ar_iconst (v := 0) C dX12_puts_22 (by decide) ?_
    exact ar_zreturn C rfl rfl dX12_puts_23 ⟨by rw [show (!decide (M.1 104 t ≤ M.1 99 (at_ + 2))) = false from nd_n ((zw_le x3 x4 s3).mp (Int32.not_lt.mp c_1))]; rfl, rfl, fun q => absurd ((zw_le x3 x4 s3).mp (Int32.not_lt.mp c_1)) q, hF⟩
set_option maxHeartbeats 4000000 in
set_option maxRecDepth 100000 in
theorem l_mmis {X : Ctx} {V : Vx} {Q : State → Prop} (C : Cx X V mX12_misfitOf 2) (M : Mm) {at_ a N : Nat} (hS : SOK M at_) (ha : a < 8) (hT : TOK M N) (kk : ∀ M1, PF M M1 → AW X V mX12_misfitOf.2.2.1 T0 M1 0 0 Q 96 [(4, .int (nI N)), (3, .int (mfs (sd (M.1 99) at_) (mH M a) (mX M a) (mY M a) (M.1 102) (M.1 103) (M.1 104) N)), (0, .ref 96), (1, .int (nI at_)), (2, .int (nI a))] []) : ∀ (m : Nat) (t : Nat) (M1 : Mm), t ≤ N → PF M M1 → N - t < m → AW X V mX12_misfitOf.2.2.1 T0 (M1) 0 0 Q 5 [(4, .int (nI t)), (3, .int (mfs (sd (M.1 99) at_) (mH M a) (mX M a) (mY M a) (M.1 102) (M.1 103) (M.1 104) t)), (0, .ref 96), (1, .int (nI at_)), (2, .int (nI a))] [] := by
  intro m
  induction m with
  | zero => intro t M1 _ _ h; exact absurd h (Nat.not_lt_zero _)
  | succ m ih =>
    intro t M1 hk0 hF hmz
    have hN24 := hT.2.1
    refine ar_iload (n := 0) C dX12_misfitOf_5 rfl ?_
    refine ar_aload_n (n := 2) C dX12_misfitOf_7 rfl rfl ?_
    refine ar_geti C flX12_102 kd_96 dX12_misfitOf_8 ?_
    refine ar_topi (nI N) ((hF.1 7 (by decide) (by decide)).trans hT.1) ?_
    refine ar_icmp_ge (tgt := 96) C dX12_misfitOf_11 (by decide) (fun c_1 => ?_) (fun c_1 => ?_)
    · have hN24 := hT.2.1
      have hk : t = N := Nat.le_antisymm hk0 (nat_le c_1 (by omega) (by omega))
      subst hk
      exact kk M1 hF
    · have hN24 := hT.2.1
      have hjN : t < N := nat_nle c_1 (by omega) (by omega)
      have ht : t < 24 := by omega
      refine ar_aload_n (n := 2) C dX12_misfitOf_14 rfl rfl ?_
      refine ar_getr C flX12_34 rfl kd_96 rf_96_11 dX12_misfitOf_15 ?_
      refine ar_bipush (v := 24) C dX12_misfitOf_18 (by decide) ?_
      refine ar_iload_n (n := 4) C dX12_misfitOf_20 rfl rfl ?_
      refine ar_imul C dX12_misfitOf_21 ?_
      refine ar_iload (n := 0) C dX12_misfitOf_22 rfl ?_
      refine ar_iadd C dX12_misfitOf_24 ?_
      refine ar_zald (j := 24 * a + t) C kd_105 (ix24 a t) (by omega) dX12_misfitOf_25 ?_
      refine ar_topi (mH M a t) (congrFun (hF.2 105 (by decide)) _) ?_
      refine ar_if_eq (tgt := 90) C dX12_misfitOf_26 (by decide) (fun c_2 => ?_) (fun c_2 => ?_)
      · refine ar_iinc (n := 0) (v := (nI (t + 1))) (als' := [(4, .int (nI (t + 1))), (3, .int (mfs (sd (M.1 99) at_) (mH M a) (mX M a) (mY M a) (M.1 102) (M.1 103) (M.1 104) t)), (0, .ref 96), (1, .int (nI at_)), (2, .int (nI a))]) C dX12_misfitOf_90 rfl (nI_1 _) (by decide) rfl ?_
        refine ar_goto (tgt := 5) C dX12_misfitOf_93 (by decide) ?_
        have h9 := ih (t + 1) M1 (by omega) (hF) (by omega)
        rw [show mfs (sd (M.1 99) at_) (mH M a) (mX M a) (mY M a) (M.1 102) (M.1 103) (M.1 104) (t + 1) = mfs (sd (M.1 99) at_) (mH M a) (mX M a) (mY M a) (M.1 102) (M.1 103) (M.1 104) t from if_pos c_2] at h9
        exact h9
      · refine ar_iload_n (n := 1) C dX12_misfitOf_29 rfl rfl ?_
        refine ar_aload_n (n := 2) C dX12_misfitOf_30 rfl rfl ?_
        refine ar_iload_n (n := 3) C dX12_misfitOf_31 rfl rfl ?_
        refine ar_iload_n (n := 4) C dX12_misfitOf_32 rfl rfl ?_
        refine ar_iload (n := 0) C dX12_misfitOf_33 rfl ?_
        refine cV1q (ar := [.int (nI at_), .int (nI a), .int (nI t)]) (st := [.int (mfs (sd (M.1 99) at_) (mH M a) (mX M a) (mY M a) (M.1 102) (M.1 103) (M.1 104) t)]) C lkX12_207 kd_96 (m_puts M M1 hF (at_ := at_) (a := a) (t := t) hS ha hT hjN) (by decide) rfl (Nat.le_of_ble_eq_true rfl) rfl dX12_misfitOf_35 (fun M_3 h_4 => ?_)
        refine ar_if_neB (tgt := 47) C dX12_misfitOf_38 (by decide) (fun c_5 => ?_) (fun c_5 => ?_)
        · have hz : ¬ M.1 104 t ≤ M.1 99 (at_ + 2) := by simpa using c_5
          refine ar_aload_n (n := 2) C dX12_misfitOf_47 rfl rfl ?_
          refine ar_geti C flX12_201 kd_96 dX12_misfitOf_48 ?_
          refine ar_topi (fX M at_ a t) (h_4.1 hz).1 ?_
          refine ar_sipush (v := 500) C dX12_misfitOf_51 (by decide) ?_
          refine ar_icmp_le (tgt := 63) C dX12_misfitOf_54 (by decide) (fun c_6 => ?_) (fun c_6 => ?_)
          · refine ar_aload_n (n := 2) C dX12_misfitOf_63 rfl rfl ?_
            refine ar_getiV (v := fX M at_ a t) C flX12_201 kd_96 (h_4.1 hz).1 dX12_misfitOf_64 ?_
            refine ar_topi (f_min (fX M at_ a t) 500) (fmn_1 c_6) ?_
            refine ar_aload_n (n := 2) C dX12_misfitOf_67 rfl rfl ?_
            refine ar_geti C flX12_204 kd_96 dX12_misfitOf_68 ?_
            refine ar_topi (fY M at_ a t) (h_4.1 hz).2 ?_
            refine ar_sipush (v := 500) C dX12_misfitOf_71 (by decide) ?_
            refine ar_icmp_le (tgt := 83) C dX12_misfitOf_74 (by decide) (fun c_7 => ?_) (fun c_7 => ?_)
            · refine ar_aload_n (n := 2) C dX12_misfitOf_83 rfl rfl ?_
              refine ar_getiV (v := fY M at_ a t) C flX12_204 kd_96 (h_4.1 hz).2 dX12_misfitOf_84 ?_
              refine ar_topi (f_min (fY M at_ a t) 500) (fmn_1 c_7) ?_
              refine ar_iadd C dX12_misfitOf_87 ?_
              refine ar_iadd C dX12_misfitOf_88 ?_
              refine ar_istore_n (als' := [(3, .int ((mfs (sd (M.1 99) at_) (mH M a) (mX M a) (mY M a) (M.1 102) (M.1 103) (M.1 104) t) + ((f_min (fX M at_ a t) 500) + (f_min (fY M at_ a t) 500)))), (4, .int (nI t)), (0, .ref 96), (1, .int (nI at_)), (2, .int (nI a))]) C dX12_misfitOf_89 rfl (by decide) rfl ?_
              refine ar_iinc (n := 1) (v := (nI (t + 1))) (als' := [(4, .int (nI (t + 1))), (3, .int ((mfs (sd (M.1 99) at_) (mH M a) (mX M a) (mY M a) (M.1 102) (M.1 103) (M.1 104) t) + ((f_min (fX M at_ a t) 500) + (f_min (fY M at_ a t) 500)))), (0, .ref 96), (1, .int (nI at_)), (2, .int (nI a))]) C dX12_misfitOf_90 rfl (nI_1 _) (by decide) rfl ?_
              refine ar_goto (tgt := 5) C dX12_misfitOf_93 (by decide) ?_
              have h9 := ih (t + 1) M_3 (by omega) (h_4.2) (by omega)
              rw [show mfs (sd (M.1 99) at_) (mH M a) (mX M a) (mY M a) (M.1 102) (M.1 103) (M.1 104) (t + 1) = mfs (sd (M.1 99) at_) (mH M a) (mX M a) (mY M a) (M.1 102) (M.1 103) (M.1 104) t + (f_min (fX M at_ a t) 500 + f_min (fY M at_ a t) 500) from (if_neg c_2).trans (by rw [if_neg hz]; rfl)] at h9
              exact h9
            · refine ar_sipush (v := 500) C dX12_misfitOf_77 (by decide) ?_
              refine ar_goto (tgt := 87) C dX12_misfitOf_80 (by decide) ?_
              refine ar_topi (f_min (fY M at_ a t) 500) (fmn_2 c_7) ?_
              refine ar_iadd C dX12_misfitOf_87 ?_
              refine ar_iadd C dX12_misfitOf_88 ?_
              refine ar_istore_n (als' := [(3, .int ((mfs (sd (M.1 99) at_) (mH M a) (mX M a) (mY M a) (M.1 102) (M.1 103) (M.1 104) t) + ((f_min (fX M at_ a t) 500) + (f_min (fY M at_ a t) 500)))), (4, .int (nI t)), (0, .ref 96), (1, .int (nI at_)), (2, .int (nI a))]) C dX12_misfitOf_89 rfl (by decide) rfl ?_
              refine ar_iinc (n := 1) (v := (nI (t + 1))) (als' := [(4, .int (nI (t + 1))), (3, .int ((mfs (sd (M.1 99) at_) (mH M a) (mX M a) (mY M a) (M.1 102) (M.1 103) (M.1 104) t) + ((f_min (fX M at_ a t) 500) + (f_min (fY M at_ a t) 500)))), (0, .ref 96), (1, .int (nI at_)), (2, .int (nI a))]) C dX12_misfitOf_90 rfl (nI_1 _) (by decide) rfl ?_
              refine ar_goto (tgt := 5) C dX12_misfitOf_93 (by decide) ?_
              have h9 := ih (t + 1) M_3 (by omega) (h_4.2) (by omega)
              rw [show mfs (sd (M.1 99) at_) (mH M a) (mX M a) (mY M a) (M.1 102) (M.1 103) (M.1 104) (t + 1) = mfs (sd (M.1 99) at_) (mH M a) (mX M a) (mY M a) (M.1 102) (M.1 103) (M.1 104) t + (f_min (fX M at_ a t) 500 + f_min (fY M at_ a t) 500) from (if_neg c_2).trans (by rw [if_neg hz]; rfl)] at h9
              exact h9
          · refine ar_sipush (v := 500) C dX12_misfitOf_57 (by decide) ?_
            refine ar_goto (tgt := 67) C dX12_misfitOf_60 (by decide) ?_
            refine ar_topi (f_min (fX M at_ a t) 500) (fmn_2 c_6) ?_
            refine ar_aload_n (n := 2) C dX12_misfitOf_67 rfl rfl ?_
            refine ar_geti C flX12_204 kd_96 dX12_misfitOf_68 ?_
            refine ar_topi (fY M at_ a t) (h_4.1 hz).2 ?_
            refine ar_sipush (v := 500) C dX12_misfitOf_71 (by decide) ?_
            refine ar_icmp_le (tgt := 83) C dX12_misfitOf_74 (by decide) (fun c_8 => ?_) (fun c_8 => ?_)
            · refine ar_aload_n (n := 2) C dX12_misfitOf_83 rfl rfl ?_
              refine ar_getiV (v := fY M at_ a t) C flX12_204 kd_96 (h_4.1 hz).2 dX12_misfitOf_84 ?_
              refine ar_topi (f_min (fY M at_ a t) 500) (fmn_1 c_8) ?_
              refine ar_iadd C dX12_misfitOf_87 ?_
              refine ar_iadd C dX12_misfitOf_88 ?_
              refine ar_istore_n (als' := [(3, .int ((mfs (sd (M.1 99) at_) (mH M a) (mX M a) (mY M a) (M.1 102) (M.1 103) (M.1 104) t) + ((f_min (fX M at_ a t) 500) + (f_min (fY M at_ a t) 500)))), (4, .int (nI t)), (0, .ref 96), (1, .int (nI at_)), (2, .int (nI a))]) C dX12_misfitOf_89 rfl (by decide) rfl ?_
              refine ar_iinc (n := 1) (v := (nI (t + 1))) (als' := [(4, .int (nI (t + 1))), (3, .int ((mfs (sd (M.1 99) at_) (mH M a) (mX M a) (mY M a) (M.1 102) (M.1 103) (M.1 104) t) + ((f_min (fX M at_ a t) 500) + (f_min (fY M at_ a t) 500)))), (0, .ref 96), (1, .int (nI at_)), (2, .int (nI a))]) C dX12_misfitOf_90 rfl (nI_1 _) (by decide) rfl ?_
              refine ar_goto (tgt := 5) C dX12_misfitOf_93 (by decide) ?_
              have h9 := ih (t + 1) M_3 (by omega) (h_4.2) (by omega)
              rw [show mfs (sd (M.1 99) at_) (mH M a) (mX M a) (mY M a) (M.1 102) (M.1 103) (M.1 104) (t + 1) = mfs (sd (M.1 99) at_) (mH M a) (mX M a) (mY M a) (M.1 102) (M.1 103) (M.1 104) t + (f_min (fX M at_ a t) 500 + f_min (fY M at_ a t) 500) from (if_neg c_2).trans (by rw [if_neg hz]; rfl)] at h9
              exact h9
            · refine ar_sipush (v := 500) C dX12_misfitOf_77 (by decide) ?_
              refine ar_goto (tgt := 87) C dX12_misfitOf_80 (by decide) ?_
              refine ar_topi (f_min (fY M at_ a t) 500) (fmn_2 c_8) ?_
              refine ar_iadd C dX12_misfitOf_87 ?_
              refine ar_iadd C dX12_misfitOf_88 ?_
              refine ar_istore_n (als' := [(3, .int ((mfs (sd (M.1 99) at_) (mH M a) (mX M a) (mY M a) (M.1 102) (M.1 103) (M.1 104) t) + ((f_min (fX M at_ a t) 500) + (f_min (fY M at_ a t) 500)))), (4, .int (nI t)), (0, .ref 96), (1, .int (nI at_)), (2, .int (nI a))]) C dX12_misfitOf_89 rfl (by decide) rfl ?_
              refine ar_iinc (n := 1) (v := (nI (t + 1))) (als' := [(4, .int (nI (t + 1))), (3, .int ((mfs (sd (M.1 99) at_) (mH M a) (mX M a) (mY M a) (M.1 102) (M.1 103) (M.1 104) t) + ((f_min (fX M at_ a t) 500) + (f_min (fY M at_ a t) 500)))), (0, .ref 96), (1, .int (nI at_)), (2, .int (nI a))]) C dX12_misfitOf_90 rfl (nI_1 _) (by decide) rfl ?_
              refine ar_goto (tgt := 5) C dX12_misfitOf_93 (by decide) ?_
              have h9 := ih (t + 1) M_3 (by omega) (h_4.2) (by omega)
              rw [show mfs (sd (M.1 99) at_) (mH M a) (mX M a) (mY M a) (M.1 102) (M.1 103) (M.1 104) (t + 1) = mfs (sd (M.1 99) at_) (mH M a) (mX M a) (mY M a) (M.1 102) (M.1 103) (M.1 104) t + (f_min (fX M at_ a t) 500 + f_min (fY M at_ a t) 500) from (if_neg c_2).trans (by rw [if_neg hz]; rfl)] at h9
              exact h9
        · refine ar_sipush (v := 1000) C dX12_misfitOf_41 (by decide) ?_
          refine ar_goto (tgt := 88) C dX12_misfitOf_44 (by decide) ?_
          refine ar_iadd C dX12_misfitOf_88 ?_
          refine ar_istore_n (als' := [(3, .int ((mfs (sd (M.1 99) at_) (mH M a) (mX M a) (mY M a) (M.1 102) (M.1 103) (M.1 104) t) + 1000)), (4, .int (nI t)), (0, .ref 96), (1, .int (nI at_)), (2, .int (nI a))]) C dX12_misfitOf_89 rfl (by decide) rfl ?_
          refine ar_iinc (n := 1) (v := (nI (t + 1))) (als' := [(4, .int (nI (t + 1))), (3, .int ((mfs (sd (M.1 99) at_) (mH M a) (mX M a) (mY M a) (M.1 102) (M.1 103) (M.1 104) t) + 1000)), (0, .ref 96), (1, .int (nI at_)), (2, .int (nI a))]) C dX12_misfitOf_90 rfl (nI_1 _) (by decide) rfl ?_
          refine ar_goto (tgt := 5) C dX12_misfitOf_93 (by decide) ?_
          have h9 := ih (t + 1) M_3 (by omega) (h_4.2) (by omega)
          rw [show mfs (sd (M.1 99) at_) (mH M a) (mX M a) (mY M a) (M.1 102) (M.1 103) (M.1 104) (t + 1) = mfs (sd (M.1 99) at_) (mH M a) (mX M a) (mY M a) (M.1 102) (M.1 103) (M.1 104) t + 1000 from (if_neg c_2).trans (by rw [if_pos (show M.1 104 t ≤ M.1 99 (at_ + 2) from by simpa using c_5)])] at h9
          exact h9
set_option maxHeartbeats 4000000 in
set_option maxRecDepth 100000 in
theorem m_misfitOf (M M1 : Mm) (hF : PF M M1) {at_ a N : Nat} (hS : SOK M at_) (ha : a < 8) (hT : TOK M N) : AQ mX12_misfitOf 2 [.ref 96, .int (nI at_), .int (nI a)] M1 (some (.int (mfs (sd (M.1 99) at_) (mH M a) (mX M a) (mY M a) (M.1 102) (M.1 103) (M.1 104) N))) (PF M) := by
  refine AM_ofF (by decide +kernel) (Nat.le_of_ble_eq_true rfl) (fun X V C _ _ => ?_)
  show AW X V mX12_misfitOf.2.2.1 T0 M1 0 0 _ 0 [(0, .ref 96), (1, .int (nI at_)), (2, .int (nI a))] []
  refine ar_iconst (v := 0) C dX12_misfitOf_0 (by decide) ?_
  refine ar_istore_n (als' := [(3, .int 0), (0, .ref 96), (1, .int (nI at_)), (2, .int (nI a))]) C dX12_misfitOf_1 rfl (by decide) rfl ?_
  refine ar_iconst (v := 0) C dX12_misfitOf_2 (by decide) ?_
  refine ar_istore (als' := [(4, .int 0), (3, .int 0), (0, .ref 96), (1, .int (nI at_)), (2, .int (nI a))]) C dX12_misfitOf_3 (by decide) rfl ?_
  exact l_mmis C M hS ha hT (fun M2 h2 => ar_iload_n (n := 1) C dX12_misfitOf_96 rfl rfl (ar_ireturn C rfl dX12_misfitOf_97 ⟨rfl, rfl, h2⟩)) (N + 1) 0 M1 (by omega) hF (by omega)
theorem bs_n {P : Nat → Bool} {t : Nat} (h : allB P t = false) : (0 : Int32) = bI (allB P (t + 1)) := by
  rw [show allB P (t + 1) = (allB P t && P t) from rfl, h]; rfl
theorem bs_f {P : Nat → Bool} {t : Nat} (h : P t = false) : (0 : Int32) = bI (allB P (t + 1)) := by
  rw [show allB P (t + 1) = (allB P t && P t) from rfl, h, Bool.and_false]; rfl
theorem bs_t {P : Nat → Bool} {t : Nat} (g : allB P t = true) (h : P t = true) : (1 : Int32) = bI (allB P (t + 1)) := by
  rw [show allB P (t + 1) = (allB P t && P t) from rfl, g, h]; rfl
set_option maxHeartbeats 4000000 in
set_option maxRecDepth 100000 in
theorem l_mmade {X : Ctx} {V : Vx} {Q : State → Prop} (C : Cx X V mX12_isMade 2) (M : Mm) {at_ a N : Nat} (hS : SOK M at_) (ha : a < 8) (hT : TOK M N) (e : Int32) (kk : ∀ M1, PF M M1 → AW X V mX12_isMade.2.2.1 T0 M1 0 0 Q 75 [(5, .int (nI N)), (4, .int (bI (allB (mdB (sd (M.1 99) at_) (mH M a) (mX M a) (mY M a) (M.1 102) (M.1 103) (M.1 104) e) N))), (0, .ref 96), (1, .int (nI at_)), (2, .int (nI a)), (3, .int e)] []) : ∀ (m : Nat) (t : Nat) (M1 : Mm), t ≤ N → PF M M1 → N - t < m → AW X V mX12_isMade.2.2.1 T0 (M1) 0 0 Q 6 [(5, .int (nI t)), (4, .int (bI (allB (mdB (sd (M.1 99) at_) (mH M a) (mX M a) (mY M a) (M.1 102) (M.1 103) (M.1 104) e) t))), (0, .ref 96), (1, .int (nI at_)), (2, .int (nI a)), (3, .int e)] [] := by
  intro m
  induction m with
  | zero => intro t M1 _ _ h; exact absurd h (Nat.not_lt_zero _)
  | succ m ih =>
    intro t M1 hk0 hF hmz
    have hN24 := hT.2.1
    refine ar_iload (n := 0) C dX12_isMade_6 rfl ?_
    refine ar_aload_n (n := 2) C dX12_isMade_8 rfl rfl ?_
    refine ar_geti C flX12_102 kd_96 dX12_isMade_9 ?_
    refine ar_topi (nI N) ((hF.1 7 (by decide) (by decide)).trans hT.1) ?_
    refine ar_icmp_ge (tgt := 75) C dX12_isMade_12 (by decide) (fun c_1 => ?_) (fun c_1 => ?_)
    · have hN24 := hT.2.1
      have hk : t = N := Nat.le_antisymm hk0 (nat_le c_1 (by omega) (by omega))
      subst hk
      exact kk M1 hF
    · have hN24 := hT.2.1
      have hjN : t < N := nat_nle c_1 (by omega) (by omega)
      have ht : t < 24 := by omega
      refine ar_iload (n := 1) C dX12_isMade_15 rfl ?_
      refine ar_if_eqB (tgt := 66) C dX12_isMade_17 (by decide) (fun c_2 => ?_) (fun c_2 => ?_)
      · refine ar_iconst (v := 0) C dX12_isMade_66 (by decide) ?_
        refine ar_topi (bI (allB (mdB (sd (M.1 99) at_) (mH M a) (mX M a) (mY M a) (M.1 102) (M.1 103) (M.1 104) e) (t + 1))) (bs_n (P := (mdB (sd (M.1 99) at_) (mH M a) (mX M a) (mY M a) (M.1 102) (M.1 103) (M.1 104) e)) c_2) ?_
        refine ar_istore (als' := [(4, .int (bI (allB (mdB (sd (M.1 99) at_) (mH M a) (mX M a) (mY M a) (M.1 102) (M.1 103) (M.1 104) e) (t + 1)))), (5, .int (nI t)), (0, .ref 96), (1, .int (nI at_)), (2, .int (nI a)), (3, .int e)]) C dX12_isMade_67 (by decide) rfl ?_
        refine ar_iinc (n := 1) (v := (nI (t + 1))) (als' := [(5, .int (nI (t + 1))), (4, .int (bI (allB (mdB (sd (M.1 99) at_) (mH M a) (mX M a) (mY M a) (M.1 102) (M.1 103) (M.1 104) e) (t + 1)))), (0, .ref 96), (1, .int (nI at_)), (2, .int (nI a)), (3, .int e)]) C dX12_isMade_69 rfl (nI_1 _) (by decide) rfl ?_
        refine ar_goto (tgt := 6) C dX12_isMade_72 (by decide) ?_
        exact ih (t + 1) M1 (by omega) hF (by omega)
      · refine ar_aload_n (n := 2) C dX12_isMade_20 rfl rfl ?_
        refine ar_getr C flX12_34 rfl kd_96 rf_96_11 dX12_isMade_21 ?_
        refine ar_bipush (v := 24) C dX12_isMade_24 (by decide) ?_
        refine ar_iload_n (n := 4) C dX12_isMade_26 rfl rfl ?_
        refine ar_imul C dX12_isMade_27 ?_
        refine ar_iload (n := 0) C dX12_isMade_28 rfl ?_
        refine ar_iadd C dX12_isMade_30 ?_
        refine ar_zald (j := 24 * a + t) C kd_105 (ix24 a t) (by omega) dX12_isMade_31 ?_
        refine ar_topi (mH M a t) (congrFun (hF.2 105 (by decide)) _) ?_
        refine ar_if_eq (tgt := 62) C dX12_isMade_32 (by decide) (fun c_3 => ?_) (fun c_3 => ?_)
        · refine ar_iconst (v := 1) C dX12_isMade_62 (by decide) ?_
          refine ar_goto (tgt := 67) C dX12_isMade_63 (by decide) ?_
          refine ar_topi (bI (allB (mdB (sd (M.1 99) at_) (mH M a) (mX M a) (mY M a) (M.1 102) (M.1 103) (M.1 104) e) (t + 1))) (bs_t (P := (mdB (sd (M.1 99) at_) (mH M a) (mX M a) (mY M a) (M.1 102) (M.1 103) (M.1 104) e)) c_2 (by show (decide (mH M a t = 0) || (!decide (M.1 104 t ≤ M.1 99 (at_ + 2)) && !decide (e < fX M at_ a t) && !decide (e < fY M at_ a t))) = _; rw [decide_eq_true c_3]; rfl)) ?_
          refine ar_istore (als' := [(4, .int (bI (allB (mdB (sd (M.1 99) at_) (mH M a) (mX M a) (mY M a) (M.1 102) (M.1 103) (M.1 104) e) (t + 1)))), (5, .int (nI t)), (0, .ref 96), (1, .int (nI at_)), (2, .int (nI a)), (3, .int e)]) C dX12_isMade_67 (by decide) rfl ?_
          refine ar_iinc (n := 1) (v := (nI (t + 1))) (als' := [(5, .int (nI (t + 1))), (4, .int (bI (allB (mdB (sd (M.1 99) at_) (mH M a) (mX M a) (mY M a) (M.1 102) (M.1 103) (M.1 104) e) (t + 1)))), (0, .ref 96), (1, .int (nI at_)), (2, .int (nI a)), (3, .int e)]) C dX12_isMade_69 rfl (nI_1 _) (by decide) rfl ?_
          refine ar_goto (tgt := 6) C dX12_isMade_72 (by decide) ?_
          exact ih (t + 1) M1 (by omega) hF (by omega)
        · refine ar_aload_n (n := 2) C dX12_isMade_35 rfl rfl ?_
          refine ar_iload_n (n := 3) C dX12_isMade_36 rfl rfl ?_
          refine ar_iload_n (n := 4) C dX12_isMade_37 rfl rfl ?_
          refine ar_iload (n := 0) C dX12_isMade_38 rfl ?_
          refine cV1q (ar := [.int (nI at_), .int (nI a), .int (nI t)]) (st := []) C lkX12_207 kd_96 (m_puts M M1 hF (at_ := at_) (a := a) (t := t) hS ha hT hjN) (by decide) rfl (Nat.le_of_ble_eq_true rfl) rfl dX12_isMade_40 (fun M_4 h_5 => ?_)
          refine ar_if_eqB (tgt := 66) C dX12_isMade_43 (by decide) (fun c_6 => ?_) (fun c_6 => ?_)
          · refine ar_iconst (v := 0) C dX12_isMade_66 (by decide) ?_
            refine ar_topi (bI (allB (mdB (sd (M.1 99) at_) (mH M a) (mX M a) (mY M a) (M.1 102) (M.1 103) (M.1 104) e) (t + 1))) (bs_f (P := (mdB (sd (M.1 99) at_) (mH M a) (mX M a) (mY M a) (M.1 102) (M.1 103) (M.1 104) e)) (by show (decide (mH M a t = 0) || (!decide (M.1 104 t ≤ M.1 99 (at_ + 2)) && !decide (e < fX M at_ a t) && !decide (e < fY M at_ a t))) = _; rw [decide_eq_false c_3, c_6]; rfl)) ?_
            refine ar_istore (als' := [(4, .int (bI (allB (mdB (sd (M.1 99) at_) (mH M a) (mX M a) (mY M a) (M.1 102) (M.1 103) (M.1 104) e) (t + 1)))), (5, .int (nI t)), (0, .ref 96), (1, .int (nI at_)), (2, .int (nI a)), (3, .int e)]) C dX12_isMade_67 (by decide) rfl ?_
            refine ar_iinc (n := 1) (v := (nI (t + 1))) (als' := [(5, .int (nI (t + 1))), (4, .int (bI (allB (mdB (sd (M.1 99) at_) (mH M a) (mX M a) (mY M a) (M.1 102) (M.1 103) (M.1 104) e) (t + 1)))), (0, .ref 96), (1, .int (nI at_)), (2, .int (nI a)), (3, .int e)]) C dX12_isMade_69 rfl (nI_1 _) (by decide) rfl ?_
            refine ar_goto (tgt := 6) C dX12_isMade_72 (by decide) ?_
            exact ih (t + 1) M_4 (by omega) h_5.2 (by omega)
          · refine ar_aload_n (n := 2) C dX12_isMade_46 rfl rfl ?_
            refine ar_geti C flX12_201 kd_96 dX12_isMade_47 ?_
            refine ar_topi (fX M at_ a t) (h_5.1 (show ¬ M.1 104 t ≤ M.1 99 (at_ + 2) from by simpa using c_6)).1 ?_
            refine ar_iload_n (n := 5) C dX12_isMade_50 rfl rfl ?_
            refine ar_icmp_gt (tgt := 66) C dX12_isMade_51 (by decide) (fun c_7 => ?_) (fun c_7 => ?_)
            · refine ar_iconst (v := 0) C dX12_isMade_66 (by decide) ?_
              refine ar_topi (bI (allB (mdB (sd (M.1 99) at_) (mH M a) (mX M a) (mY M a) (M.1 102) (M.1 103) (M.1 104) e) (t + 1))) (bs_f (P := (mdB (sd (M.1 99) at_) (mH M a) (mX M a) (mY M a) (M.1 102) (M.1 103) (M.1 104) e)) (by show (decide (mH M a t = 0) || (!decide (M.1 104 t ≤ M.1 99 (at_ + 2)) && !decide (e < fX M at_ a t) && !decide (e < fY M at_ a t))) = _; rw [decide_eq_false c_3, c_6, decide_eq_true c_7]; rfl)) ?_
              refine ar_istore (als' := [(4, .int (bI (allB (mdB (sd (M.1 99) at_) (mH M a) (mX M a) (mY M a) (M.1 102) (M.1 103) (M.1 104) e) (t + 1)))), (5, .int (nI t)), (0, .ref 96), (1, .int (nI at_)), (2, .int (nI a)), (3, .int e)]) C dX12_isMade_67 (by decide) rfl ?_
              refine ar_iinc (n := 1) (v := (nI (t + 1))) (als' := [(5, .int (nI (t + 1))), (4, .int (bI (allB (mdB (sd (M.1 99) at_) (mH M a) (mX M a) (mY M a) (M.1 102) (M.1 103) (M.1 104) e) (t + 1)))), (0, .ref 96), (1, .int (nI at_)), (2, .int (nI a)), (3, .int e)]) C dX12_isMade_69 rfl (nI_1 _) (by decide) rfl ?_
              refine ar_goto (tgt := 6) C dX12_isMade_72 (by decide) ?_
              exact ih (t + 1) M_4 (by omega) h_5.2 (by omega)
            · refine ar_aload_n (n := 2) C dX12_isMade_54 rfl rfl ?_
              refine ar_geti C flX12_204 kd_96 dX12_isMade_55 ?_
              refine ar_topi (fY M at_ a t) (h_5.1 (show ¬ M.1 104 t ≤ M.1 99 (at_ + 2) from by simpa using c_6)).2 ?_
              refine ar_iload_n (n := 5) C dX12_isMade_58 rfl rfl ?_
              refine ar_icmp_gt (tgt := 66) C dX12_isMade_59 (by decide) (fun c_8 => ?_) (fun c_8 => ?_)
              · refine ar_iconst (v := 0) C dX12_isMade_66 (by decide) ?_
                refine ar_topi (bI (allB (mdB (sd (M.1 99) at_) (mH M a) (mX M a) (mY M a) (M.1 102) (M.1 103) (M.1 104) e) (t + 1))) (bs_f (P := (mdB (sd (M.1 99) at_) (mH M a) (mX M a) (mY M a) (M.1 102) (M.1 103) (M.1 104) e)) (by show (decide (mH M a t = 0) || (!decide (M.1 104 t ≤ M.1 99 (at_ + 2)) && !decide (e < fX M at_ a t) && !decide (e < fY M at_ a t))) = _; rw [decide_eq_false c_3, c_6, decide_eq_false c_7, decide_eq_true c_8]; rfl)) ?_
                refine ar_istore (als' := [(4, .int (bI (allB (mdB (sd (M.1 99) at_) (mH M a) (mX M a) (mY M a) (M.1 102) (M.1 103) (M.1 104) e) (t + 1)))), (5, .int (nI t)), (0, .ref 96), (1, .int (nI at_)), (2, .int (nI a)), (3, .int e)]) C dX12_isMade_67 (by decide) rfl ?_
                refine ar_iinc (n := 1) (v := (nI (t + 1))) (als' := [(5, .int (nI (t + 1))), (4, .int (bI (allB (mdB (sd (M.1 99) at_) (mH M a) (mX M a) (mY M a) (M.1 102) (M.1 103) (M.1 104) e) (t + 1)))), (0, .ref 96), (1, .int (nI at_)), (2, .int (nI a)), (3, .int e)]) C dX12_isMade_69 rfl (nI_1 _) (by decide) rfl ?_
                refine ar_goto (tgt := 6) C dX12_isMade_72 (by decide) ?_
                exact ih (t + 1) M_4 (by omega) h_5.2 (by omega)
              · refine ar_iconst (v := 1) C dX12_isMade_62 (by decide) ?_
                refine ar_goto (tgt := 67) C dX12_isMade_63 (by decide) ?_
                refine ar_topi (bI (allB (mdB (sd (M.1 99) at_) (mH M a) (mX M a) (mY M a) (M.1 102) (M.1 103) (M.1 104) e) (t + 1))) (bs_t (P := (mdB (sd (M.1 99) at_) (mH M a) (mX M a) (mY M a) (M.1 102) (M.1 103) (M.1 104) e)) c_2 (by show (decide (mH M a t = 0) || (!decide (M.1 104 t ≤ M.1 99 (at_ + 2)) && !decide (e < fX M at_ a t) && !decide (e < fY M at_ a t))) = _; rw [decide_eq_false c_3, c_6, decide_eq_false c_7, decide_eq_false c_8]; rfl)) ?_
                refine ar_istore (als' := [(4, .int (bI (allB (mdB (sd (M.1 99) at_) (mH M a) (mX M a) (mY M a) (M.1 102) (M.1 103) (M.1 104) e) (t + 1)))), (5, .int (nI t)), (0, .ref 96), (1, .int (nI at_)), (2, .int (nI a)), (3, .int e)]) C dX12_isMade_67 (by decide) rfl ?_
                refine ar_iinc (n := 1) (v := (nI (t + 1))) (als' := [(5, .int (nI (t + 1))), (4, .int (bI (allB (mdB (sd (M.1 99) at_) (mH M a) (mX M a) (mY M a) (M.1 102) (M.1 103) (M.1 104) e) (t + 1)))), (0, .ref 96), (1, .int (nI at_)), (2, .int (nI a)), (3, .int e)]) C dX12_isMade_69 rfl (nI_1 _) (by decide) rfl ?_
                refine ar_goto (tgt := 6) C dX12_isMade_72 (by decide) ?_
                exact ih (t + 1) M_4 (by omega) h_5.2 (by omega)
set_option maxHeartbeats 4000000 in
set_option maxRecDepth 100000 in
theorem m_isMade (M M1 : Mm) (hF : PF M M1) {at_ a N : Nat} (hS : SOK M at_) (ha : a < 8) (hT : TOK M N) (e : Int32) : AQ mX12_isMade 2 [.ref 96, .int (nI at_), .int (nI a), .int e] M1 (some (.int (bI (allB (mdB (sd (M.1 99) at_) (mH M a) (mX M a) (mY M a) (M.1 102) (M.1 103) (M.1 104) e) N)))) (PF M) := by
  refine AM_ofF (by decide +kernel) (Nat.le_of_ble_eq_true rfl) (fun X V C _ _ => ?_)
  show AW X V mX12_isMade.2.2.1 T0 M1 0 0 _ 0 [(0, .ref 96), (1, .int (nI at_)), (2, .int (nI a)), (3, .int e)] []
  refine ar_iconst (v := 1) C dX12_isMade_0 (by decide) ?_
  refine ar_istore (als' := [(4, .int 1), (0, .ref 96), (1, .int (nI at_)), (2, .int (nI a)), (3, .int e)]) C dX12_isMade_1 (by decide) rfl ?_
  refine ar_iconst (v := 0) C dX12_isMade_3 (by decide) ?_
  refine ar_istore (als' := [(5, .int 0), (4, .int 1), (0, .ref 96), (1, .int (nI at_)), (2, .int (nI a)), (3, .int e)]) C dX12_isMade_4 (by decide) rfl ?_
  exact l_mmade C M hS ha hT e (fun M2 h2 => ar_iload (n := 1) C dX12_isMade_75 rfl (ar_zreturn C rfl (bI_nar _) dX12_isMade_77 ⟨rfl, rfl, h2⟩)) (N + 1) 0 M1 (by omega) hF (by omega)
def lkB (M : Mm) (b k : Nat) : Bool := if k % 4 = 3 then f_in (M.1 99 (b + k)) 1 1000 else f_in (M.1 99 (b + k)) (-1000) 1000
theorem rem4 {k : Nat} (h : k < 1000) : nI k - nI k / 4 * 4 = nI (k % 4) := by
  rw [show (4 : Int32) = nI 4 from rfl, pk_div (a := k) (d := 4) (by omega) (by decide) (by decide), pk_mul, pk_sub (by omega)]
  congr 1
  omega
set_option maxHeartbeats 4000000 in
set_option maxRecDepth 100000 in
theorem m_look_null (M : Mm) {s n : Nat} (hs : s < 8) (a : Int32) (q : Int32) (hm : M.1 97 s < 0) : AX mX12_lookStudios 1 [.ref 96, .int a, .int (nI s), .int q, .int (nI n)] M (some (.int (-1000011))) (wi M 96 1 1) := by
  refine AM_ofF (by decide +kernel) (Nat.le_of_ble_eq_true rfl) (fun X V C _ _ => ?_)
  show AW X V mX12_lookStudios.2.2.1 T0 M 0 0 _ 0 [(0, .ref 96), (1, .int a), (2, .int (nI s)), (3, .int q), (4, .int (nI n))] []
  refine ar_aload_n (n := 0) C dX12_lookStudios_0 rfl rfl ?_
  refine ar_getr C flX12_7 rfl kd_96 rf_96_2 dX12_lookStudios_1 ?_
  refine ar_iload_n (n := 2) C dX12_lookStudios_4 rfl rfl ?_
  refine ar_iald (j := s) C kd_97 rfl hs dX12_lookStudios_5 ?_
  refine ar_if_ge (tgt := 15) C dX12_lookStudios_6 (by decide) (fun c_1 => False.elim (Int32.not_le.mpr hm c_1)) (fun _ => ?_)
  refine ar_aload_n (n := 0) C dX12_lookStudios_9 rfl rfl ?_
  refine ar_iconst (v := 1) C dX12_lookStudios_10 (by decide) ?_
  refine cV1 (ar := [.int 1]) (st := []) C lkX12_80 kd_96 (k_mFound M 1) (by decide) rfl (Nat.le_of_ble_eq_true rfl) rfl dX12_lookStudios_11 ?_
  exact ar_ireturn C rfl dX12_lookStudios_14 ⟨rfl, rfl, rfl⟩
set_option maxHeartbeats 4000000 in
set_option maxRecDepth 100000 in
theorem m_look_place (M : Mm) {s n : Nat} (hs : s < 8) (a : Int32) (q : Int32) (hm : ¬ M.1 97 s < 0) (hp : (!decide (q < 0) && !decide ((M.1 98 s).toInt64 < q.toInt64 + (4 * nI n).toInt64)) = false) : AX mX12_lookStudios 1 [.ref 96, .int a, .int (nI s), .int q, .int (nI n)] M (some (.int (-1000012))) (wi M 96 1 2) := by
  refine AM_ofF (by decide +kernel) (Nat.le_of_ble_eq_true rfl) (fun X V C _ _ => ?_)
  show AW X V mX12_lookStudios.2.2.1 T0 M 0 0 _ 0 [(0, .ref 96), (1, .int a), (2, .int (nI s)), (3, .int q), (4, .int (nI n))] []
  refine ar_aload_n (n := 0) C dX12_lookStudios_0 rfl rfl ?_
  refine ar_getr C flX12_7 rfl kd_96 rf_96_2 dX12_lookStudios_1 ?_
  refine ar_iload_n (n := 2) C dX12_lookStudios_4 rfl rfl ?_
  refine ar_iald (j := s) C kd_97 rfl hs dX12_lookStudios_5 ?_
  refine ar_if_ge (tgt := 15) C dX12_lookStudios_6 (by decide) (fun _ => ?_) (fun c_1 => False.elim (c_1 (Int32.not_lt.mp hm)))
  refine ar_iload_n (n := 3) C dX12_lookStudios_15 rfl rfl ?_
  refine ar_if_lt (tgt := 38) C dX12_lookStudios_16 (by decide) (fun c_2 => ?_) (fun c_2 => ?_)
  · refine ar_aload_n (n := 0) C dX12_lookStudios_38 rfl rfl ?_
    refine ar_iconst (v := 2) C dX12_lookStudios_39 (by decide) ?_
    refine cV1 (ar := [.int 2]) (st := []) C lkX12_80 kd_96 (k_mFound M 2) (by decide) rfl (Nat.le_of_ble_eq_true rfl) rfl dX12_lookStudios_40 ?_
    exact ar_ireturn C rfl dX12_lookStudios_43 ⟨rfl, rfl, rfl⟩
  · refine ar_iload_n (n := 3) C dX12_lookStudios_19 rfl rfl ?_
    refine ar_i2l C dX12_lookStudios_20 ?_
    refine ar_iconst (v := 4) C dX12_lookStudios_21 (by decide) ?_
    refine ar_iload (n := 4) C dX12_lookStudios_22 rfl ?_
    refine ar_imul C dX12_lookStudios_24 ?_
    refine ar_i2l C dX12_lookStudios_25 ?_
    refine ar_ladd C dX12_lookStudios_26 ?_
    refine ar_aload_n (n := 0) C dX12_lookStudios_27 rfl rfl ?_
    refine ar_getr C flX12_13 rfl kd_96 rf_96_3 dX12_lookStudios_28 ?_
    refine ar_iload_n (n := 2) C dX12_lookStudios_31 rfl rfl ?_
    refine ar_iald (j := s) C kd_98 rfl hs dX12_lookStudios_32 ?_
    refine ar_i2l C dX12_lookStudios_33 ?_
    refine ar_lc_le (tgt := 44) C dX12_lookStudios_34 dX12_lookStudios_35 (by decide) (fun c_3 => ?_) (fun c_3 => ?_)
    · exact absurd hp (by rw [decide_eq_false c_2, decide_eq_false c_3]; decide)
    · refine ar_aload_n (n := 0) C dX12_lookStudios_38 rfl rfl ?_
      refine ar_iconst (v := 2) C dX12_lookStudios_39 (by decide) ?_
      refine cV1 (ar := [.int 2]) (st := []) C lkX12_80 kd_96 (k_mFound M 2) (by decide) rfl (Nat.le_of_ble_eq_true rfl) rfl dX12_lookStudios_40 ?_
      exact ar_ireturn C rfl dX12_lookStudios_43 ⟨rfl, rfl, rfl⟩
set_option maxHeartbeats 4000000 in
set_option maxRecDepth 100000 in
theorem l_mlook {X : Ctx} {V : Vx} {Q : State → Prop} (C : Cx X V mX12_lookStudios 1) (M : Mm) {s i n : Nat} (hs : s < 8) (hin : i + 4 * n ≤ 80) (a : Int32) (k1 : allB (lkB M (80 * s + i)) (4 * n) = true → AW X V mX12_lookStudios.2.2.1 T0 M 0 0 Q 120 [(5, .int (nI (4 * n))), (0, .ref 96), (1, .int a), (2, .int (nI s)), (3, .int (nI i)), (4, .int (nI n))] []) (k0 : ∀ als, allB (lkB M (80 * s + i)) (4 * n) = false → AW X V mX12_lookStudios.2.2.1 T0 M 0 0 Q 111 als []) : ∀ (m : Nat) (k : Nat), k ≤ 4 * n → allB (lkB M (80 * s + i)) k = true → 4 * n - k < m → AW X V mX12_lookStudios.2.2.1 T0 (M) 0 0 Q 47 [(5, .int (nI k)), (0, .ref 96), (1, .int a), (2, .int (nI s)), (3, .int (nI i)), (4, .int (nI n))] [] := by
  intro m
  induction m with
  | zero => intro k _ _ h; exact absurd h (Nat.not_lt_zero _)
  | succ m ih =>
    intro k hk0 hok hmz
    refine ar_iload (n := 0) C dX12_lookStudios_47 rfl ?_
    refine ar_iconst (v := 4) C dX12_lookStudios_49 (by decide) ?_
    refine ar_iload (n := 5) C dX12_lookStudios_50 rfl ?_
    refine ar_imul C dX12_lookStudios_52 ?_
    refine ar_topi (nI (4 * n)) (pk_mul 4 n) ?_
    refine ar_icmp_ge (tgt := 120) C dX12_lookStudios_53 (by decide) (fun c_1 => ?_) (fun c_1 => ?_)
    · have hk : k = 4 * n := Nat.le_antisymm hk0 (nat_le c_1 (by omega) (by omega))
      subst hk
      exact k1 hok
    · have hk : k < 4 * n := nat_nle c_1 (by omega) (by omega)
      refine ar_aload_n (n := 1) C dX12_lookStudios_56 rfl rfl ?_
      refine ar_getr C flX12_16 rfl kd_96 rf_96_4 dX12_lookStudios_57 ?_
      refine ar_bipush (v := 80) C dX12_lookStudios_60 (by decide) ?_
      refine ar_iload_n (n := 3) C dX12_lookStudios_62 rfl rfl ?_
      refine ar_imul C dX12_lookStudios_63 ?_
      refine ar_iload_n (n := 4) C dX12_lookStudios_64 rfl rfl ?_
      refine ar_iadd C dX12_lookStudios_65 ?_
      refine ar_iload (n := 0) C dX12_lookStudios_66 rfl ?_
      refine ar_iadd C dX12_lookStudios_68 ?_
      refine ar_iald (j := 80 * s + i + k) C kd_99 (ix80c s i k) (by omega) dX12_lookStudios_69 ?_
      refine ar_istore (als' := [(6, .int (M.1 99 (80 * s + i + k))), (5, .int (nI k)), (0, .ref 96), (1, .int a), (2, .int (nI s)), (3, .int (nI i)), (4, .int (nI n))]) C dX12_lookStudios_70 (by decide) rfl ?_
      by_cases hk4 : k % 4 = 3
      · refine ar_iload (n := 1) C dX12_lookStudios_72 rfl ?_
        refine ar_iconst (v := 4) C dX12_lookStudios_74 (by decide) ?_
        refine ar_irem C dX12_lookStudios_75 (by decide) ?_
        refine ar_topi (nI (k % 4)) (rem4 (by omega)) ?_
        refine ar_iconst (v := 3) C dX12_lookStudios_76 (by decide) ?_
        refine ar_icmp_ne (tgt := 96) C dX12_lookStudios_77 (by decide) (fun c_2 => False.elim (c_2 (by rw [hk4]; rfl))) (fun _ => ?_)
        refine ar_iload (n := 0) C dX12_lookStudios_80 rfl ?_
        refine ar_i2l C dX12_lookStudios_82 ?_
        refine ar_lconst (v := 1) C dX12_lookStudios_83 (by decide) ?_
        refine ar_ldc2 C kcX12_98 dX12_lookStudios_84 ?_
        refine cS1 (ar := [.long ((M.1 99 (80 * s + i + k)).toInt64), .long 1, .long 1000]) (st := []) C lkX12_69 (k_inI M (M.1 99 (80 * s + i + k)) 1 1000 _ _ (by decide) (by decide)) (by decide) rfl (Nat.le_of_ble_eq_true rfl) rfl dX12_lookStudios_87 ?_
        refine ar_if_neB (tgt := 114) C dX12_lookStudios_90 (by decide) (fun c_3 => ?_) (fun c_3 => ?_)
        · refine ar_iinc (n := 1) (v := (nI (k + 1))) (als' := [(5, .int (nI (k + 1))), (6, .int (M.1 99 (80 * s + i + k))), (0, .ref 96), (1, .int a), (2, .int (nI s)), (3, .int (nI i)), (4, .int (nI n))]) C dX12_lookStudios_114 rfl (nI_1 _) (by decide) rfl ?_
          refine ar_goto (tgt := 47) C dX12_lookStudios_117 (by decide) ?_
          refine ar_sub [0, 2, 3, 4, 5, 6] rfl ?_
          exact ih (k + 1) (by omega) (allB_y hok (show lkB M (80 * s + i) k = true from (if_pos hk4).trans c_3)) (by omega)
        · refine ar_goto (tgt := 111) C dX12_lookStudios_93 (by decide) ?_
          exact k0 _ (allB_no (p := (lkB M (80 * s + i))) (k := k) (show lkB M (80 * s + i) k = false from (if_pos hk4).trans c_3) (4 * n) hk)
      · refine ar_iload (n := 1) C dX12_lookStudios_72 rfl ?_
        refine ar_iconst (v := 4) C dX12_lookStudios_74 (by decide) ?_
        refine ar_irem C dX12_lookStudios_75 (by decide) ?_
        refine ar_topi (nI (k % 4)) (rem4 (by omega)) ?_
        refine ar_iconst (v := 3) C dX12_lookStudios_76 (by decide) ?_
        refine ar_icmp_ne (tgt := 96) C dX12_lookStudios_77 (by decide) (fun _ => ?_) (fun c_4 => False.elim (hk4 ((nI_eq (a := k % 4) (b := 3) (by omega) (by decide)).mp c_4)))
        refine ar_iload (n := 0) C dX12_lookStudios_96 rfl ?_
        refine ar_i2l C dX12_lookStudios_98 ?_
        refine ar_ldc2 C kcX12_96 dX12_lookStudios_99 ?_
        refine ar_ldc2 C kcX12_98 dX12_lookStudios_102 ?_
        refine cS1 (ar := [.long ((M.1 99 (80 * s + i + k)).toInt64), .long (-1000), .long 1000]) (st := []) C lkX12_69 (k_inI M (M.1 99 (80 * s + i + k)) (-1000) 1000 _ _ (by decide) (by decide)) (by decide) rfl (Nat.le_of_ble_eq_true rfl) rfl dX12_lookStudios_105 ?_
        refine ar_if_neB (tgt := 114) C dX12_lookStudios_108 (by decide) (fun c_5 => ?_) (fun c_5 => ?_)
        · refine ar_iinc (n := 1) (v := (nI (k + 1))) (als' := [(5, .int (nI (k + 1))), (6, .int (M.1 99 (80 * s + i + k))), (0, .ref 96), (1, .int a), (2, .int (nI s)), (3, .int (nI i)), (4, .int (nI n))]) C dX12_lookStudios_114 rfl (nI_1 _) (by decide) rfl ?_
          refine ar_goto (tgt := 47) C dX12_lookStudios_117 (by decide) ?_
          refine ar_sub [0, 2, 3, 4, 5, 6] rfl ?_
          exact ih (k + 1) (by omega) (allB_y hok (show lkB M (80 * s + i) k = true from (if_neg hk4).trans c_5)) (by omega)
        · exact k0 _ (allB_no (p := (lkB M (80 * s + i))) (k := k) (show lkB M (80 * s + i) k = false from (if_neg hk4).trans c_5) (4 * n) hk)
set_option maxHeartbeats 4000000 in
set_option maxRecDepth 100000 in
theorem m_look_ok (M : Mm) {s i n : Nat} (hs : s < 8) (hin : i + 4 * n ≤ 80) (a : Int32) (hm : ¬ M.1 97 s < 0) (hp : ¬ (M.1 98 s).toInt64 < (nI i).toInt64 + (4 * nI n).toInt64) (hall : allB (lkB M (80 * s + i)) (4 * n) = true) : AX mX12_lookStudios 1 [.ref 96, .int a, .int (nI s), .int (nI i), .int (nI n)] M (some (.int 0)) (wi M 96 1 0) := by
  refine AM_ofF (by decide +kernel) (Nat.le_of_ble_eq_true rfl) (fun X V C _ _ => ?_)
  show AW X V mX12_lookStudios.2.2.1 T0 M 0 0 _ 0 [(0, .ref 96), (1, .int a), (2, .int (nI s)), (3, .int (nI i)), (4, .int (nI n))] []
  refine ar_aload_n (n := 0) C dX12_lookStudios_0 rfl rfl ?_
  refine ar_getr C flX12_7 rfl kd_96 rf_96_2 dX12_lookStudios_1 ?_
  refine ar_iload_n (n := 2) C dX12_lookStudios_4 rfl rfl ?_
  refine ar_iald (j := s) C kd_97 rfl hs dX12_lookStudios_5 ?_
  refine ar_if_ge (tgt := 15) C dX12_lookStudios_6 (by decide) (fun _ => ?_) (fun c_1 => False.elim (c_1 (Int32.not_lt.mp hm)))
  refine ar_iload_n (n := 3) C dX12_lookStudios_15 rfl rfl ?_
  refine ar_if_lt (tgt := 38) C dX12_lookStudios_16 (by decide) (fun c_2 => False.elim (nI_pos (by omega) c_2)) (fun _ => ?_)
  refine ar_iload_n (n := 3) C dX12_lookStudios_19 rfl rfl ?_
  refine ar_i2l C dX12_lookStudios_20 ?_
  refine ar_iconst (v := 4) C dX12_lookStudios_21 (by decide) ?_
  refine ar_iload (n := 4) C dX12_lookStudios_22 rfl ?_
  refine ar_imul C dX12_lookStudios_24 ?_
  refine ar_i2l C dX12_lookStudios_25 ?_
  refine ar_ladd C dX12_lookStudios_26 ?_
  refine ar_aload_n (n := 0) C dX12_lookStudios_27 rfl rfl ?_
  refine ar_getr C flX12_13 rfl kd_96 rf_96_3 dX12_lookStudios_28 ?_
  refine ar_iload_n (n := 2) C dX12_lookStudios_31 rfl rfl ?_
  refine ar_iald (j := s) C kd_98 rfl hs dX12_lookStudios_32 ?_
  refine ar_i2l C dX12_lookStudios_33 ?_
  refine ar_lc_le (tgt := 44) C dX12_lookStudios_34 dX12_lookStudios_35 (by decide) (fun _ => ?_) (fun c_3 => False.elim (hp c_3))
  refine ar_iconst (v := 0) C dX12_lookStudios_44 (by decide) ?_
  refine ar_istore (als' := [(5, .int 0), (0, .ref 96), (1, .int a), (2, .int (nI s)), (3, .int (nI i)), (4, .int (nI n))]) C dX12_lookStudios_45 (by decide) rfl ?_
  refine l_mlook C M hs hin a (fun ho => ?_) (fun als ho => ?_) (4 * n + 1) 0 (by omega) rfl (by omega)
  · refine ar_aload_n (n := 1) C dX12_lookStudios_120 rfl rfl ?_
    refine ar_iconst (v := 0) C dX12_lookStudios_121 (by decide) ?_
    refine ar_puti C flX12_63 kd_96 dX12_lookStudios_122 ?_
    refine ar_iconst (v := 0) C dX12_lookStudios_125 (by decide) ?_
    exact ar_ireturn C rfl dX12_lookStudios_126 ⟨rfl, rfl, rfl⟩
  · exact absurd hall (by rw [ho]; decide)
set_option maxHeartbeats 4000000 in
set_option maxRecDepth 100000 in
theorem m_look_no (M : Mm) {s i n : Nat} (hs : s < 8) (hin : i + 4 * n ≤ 80) (a : Int32) (hm : ¬ M.1 97 s < 0) (hp : ¬ (M.1 98 s).toInt64 < (nI i).toInt64 + (4 * nI n).toInt64) (hall : allB (lkB M (80 * s + i)) (4 * n) = false) : AX mX12_lookStudios 1 [.ref 96, .int a, .int (nI s), .int (nI i), .int (nI n)] M (some (.int (-1000001))) M := by
  refine AM_ofF (by decide +kernel) (Nat.le_of_ble_eq_true rfl) (fun X V C _ _ => ?_)
  show AW X V mX12_lookStudios.2.2.1 T0 M 0 0 _ 0 [(0, .ref 96), (1, .int a), (2, .int (nI s)), (3, .int (nI i)), (4, .int (nI n))] []
  refine ar_aload_n (n := 0) C dX12_lookStudios_0 rfl rfl ?_
  refine ar_getr C flX12_7 rfl kd_96 rf_96_2 dX12_lookStudios_1 ?_
  refine ar_iload_n (n := 2) C dX12_lookStudios_4 rfl rfl ?_
  refine ar_iald (j := s) C kd_97 rfl hs dX12_lookStudios_5 ?_
  refine ar_if_ge (tgt := 15) C dX12_lookStudios_6 (by decide) (fun _ => ?_) (fun c_1 => False.elim (c_1 (Int32.not_lt.mp hm)))
  refine ar_iload_n (n := 3) C dX12_lookStudios_15 rfl rfl ?_
  refine ar_if_lt (tgt := 38) C dX12_lookStudios_16 (by decide) (fun c_2 => False.elim (nI_pos (by omega) c_2)) (fun _ => ?_)
  refine ar_iload_n (n := 3) C dX12_lookStudios_19 rfl rfl ?_
  refine ar_i2l C dX12_lookStudios_20 ?_
  refine ar_iconst (v := 4) C dX12_lookStudios_21 (by decide) ?_
  refine ar_iload (n := 4) C dX12_lookStudios_22 rfl ?_
  refine ar_imul C dX12_lookStudios_24 ?_
  refine ar_i2l C dX12_lookStudios_25 ?_
  refine ar_ladd C dX12_lookStudios_26 ?_
  refine ar_aload_n (n := 0) C dX12_lookStudios_27 rfl rfl ?_
  refine ar_getr C flX12_13 rfl kd_96 rf_96_3 dX12_lookStudios_28 ?_
  refine ar_iload_n (n := 2) C dX12_lookStudios_31 rfl rfl ?_
  refine ar_iald (j := s) C kd_98 rfl hs dX12_lookStudios_32 ?_
  refine ar_i2l C dX12_lookStudios_33 ?_
  refine ar_lc_le (tgt := 44) C dX12_lookStudios_34 dX12_lookStudios_35 (by decide) (fun _ => ?_) (fun c_3 => False.elim (hp c_3))
  refine ar_iconst (v := 0) C dX12_lookStudios_44 (by decide) ?_
  refine ar_istore (als' := [(5, .int 0), (0, .ref 96), (1, .int a), (2, .int (nI s)), (3, .int (nI i)), (4, .int (nI n))]) C dX12_lookStudios_45 (by decide) rfl ?_
  refine l_mlook C M hs hin a (fun ho => ?_) (fun als ho => ?_) (4 * n + 1) 0 (by omega) rfl (by omega)
  · exact absurd hall (by rw [ho]; decide)
  · refine ar_ldc C kcX12_79 dX12_lookStudios_111 ?_
    exact ar_ireturn C rfl dX12_lookStudios_113 ⟨rfl, rfl, rfl⟩
set_option maxHeartbeats 4000000 in
set_option maxRecDepth 100000 in
theorem m_studio_bad (M : Mm) (a s i n k e w : Int32)  (hbad : (f_in a 0 7 && f_in s 0 7 && f_in n 1 20 && f_in k 0 (n - 1) && f_in e 0 20 && f_in w 0 1) = false) : AX mX12_studio 3 [.ref 96, .int a, .int s, .int i, .int n, .int k, .int e, .int w] M (some (.int (-1000001))) (wi M 96 0 0) := by
  refine AM_ofF (by decide +kernel) (Nat.le_of_ble_eq_true rfl) (fun X V C _ _ => ?_)
  show AW X V mX12_studio.2.2.1 T0 M 0 0 _ 0 [(0, .ref 96), (1, .int a), (2, .int s), (3, .int i), (4, .int n), (5, .int k), (6, .int e), (7, .int w)] []
  refine ar_aload_n (n := 0) C dX12_studio_0 rfl rfl ?_
  refine ar_iconst (v := 0) C dX12_studio_1 (by decide) ?_
  refine ar_puti C flX12_59 kd_96 dX12_studio_2 ?_
  refine ar_iload_n (n := 1) C dX12_studio_5 rfl rfl ?_
  refine cS1 (ar := [.int a]) (st := []) C lkX12_140 (k_mTrace (wi M 96 0 0) a) (by decide) rfl (Nat.le_of_ble_eq_true rfl) rfl dX12_studio_6 ?_
  refine ar_if_eqB (tgt := 71) C dX12_studio_9 (by decide) (fun c_1 => ?_) (fun c_1 => ?_)
  · refine ar_ldc C kcX12_79 dX12_studio_71 ?_
    exact ar_ireturn C rfl dX12_studio_73 ⟨rfl, rfl, rfl⟩
  · refine ar_iload_n (n := 2) C dX12_studio_12 rfl rfl ?_
    refine cS1 (ar := [.int s]) (st := []) C lkX12_73 (k_mSheet (wi M 96 0 0) s) (by decide) rfl (Nat.le_of_ble_eq_true rfl) rfl dX12_studio_13 ?_
    refine ar_if_eqB (tgt := 71) C dX12_studio_16 (by decide) (fun c_2 => ?_) (fun c_2 => ?_)
    · refine ar_ldc C kcX12_79 dX12_studio_71 ?_
      exact ar_ireturn C rfl dX12_studio_73 ⟨rfl, rfl, rfl⟩
    · refine ar_iload (n := 4) C dX12_studio_19 rfl ?_
      refine ar_i2l C dX12_studio_21 ?_
      refine ar_lconst (v := 1) C dX12_studio_22 (by decide) ?_
      refine ar_ldc2 C kcX12_199 dX12_studio_23 ?_
      refine cS1 (ar := [.long n.toInt64, .long 1, .long 20]) (st := []) C lkX12_69 (k_inI (wi M 96 0 0) n 1 20 _ _ (by decide) (by decide)) (by decide) rfl (Nat.le_of_ble_eq_true rfl) rfl dX12_studio_26 ?_
      refine ar_if_eqB (tgt := 71) C dX12_studio_29 (by decide) (fun c_3 => ?_) (fun c_3 => ?_)
      · refine ar_ldc C kcX12_79 dX12_studio_71 ?_
        exact ar_ireturn C rfl dX12_studio_73 ⟨rfl, rfl, rfl⟩
      · refine ar_iload (n := 5) C dX12_studio_32 rfl ?_
        refine ar_i2l C dX12_studio_34 ?_
        refine ar_lconst (v := 0) C dX12_studio_35 (by decide) ?_
        refine ar_iload (n := 4) C dX12_studio_36 rfl ?_
        refine ar_iconst (v := 1) C dX12_studio_38 (by decide) ?_
        refine ar_isub C dX12_studio_39 ?_
        refine ar_i2l C dX12_studio_40 ?_
        refine cS1 (ar := [.long k.toInt64, .long 0, .long ((n - 1).toInt64)]) (st := []) C lkX12_69 (k_inI (wi M 96 0 0) k 0 (n - 1) _ _ (by decide) rfl) (by decide) rfl (Nat.le_of_ble_eq_true rfl) rfl dX12_studio_41 ?_
        refine ar_if_eqB (tgt := 71) C dX12_studio_44 (by decide) (fun c_4 => ?_) (fun c_4 => ?_)
        · refine ar_ldc C kcX12_79 dX12_studio_71 ?_
          exact ar_ireturn C rfl dX12_studio_73 ⟨rfl, rfl, rfl⟩
        · refine ar_iload (n := 6) C dX12_studio_47 rfl ?_
          refine ar_i2l C dX12_studio_49 ?_
          refine ar_lconst (v := 0) C dX12_studio_50 (by decide) ?_
          refine ar_ldc2 C kcX12_199 dX12_studio_51 ?_
          refine cS1 (ar := [.long e.toInt64, .long 0, .long 20]) (st := []) C lkX12_69 (k_inI (wi M 96 0 0) e 0 20 _ _ (by decide) (by decide)) (by decide) rfl (Nat.le_of_ble_eq_true rfl) rfl dX12_studio_54 ?_
          refine ar_if_eqB (tgt := 71) C dX12_studio_57 (by decide) (fun c_5 => ?_) (fun c_5 => ?_)
          · refine ar_ldc C kcX12_79 dX12_studio_71 ?_
            exact ar_ireturn C rfl dX12_studio_73 ⟨rfl, rfl, rfl⟩
          · refine ar_iload (n := 7) C dX12_studio_60 rfl ?_
            refine ar_i2l C dX12_studio_62 ?_
            refine ar_lconst (v := 0) C dX12_studio_63 (by decide) ?_
            refine ar_lconst (v := 1) C dX12_studio_64 (by decide) ?_
            refine cS1 (ar := [.long w.toInt64, .long 0, .long 1]) (st := []) C lkX12_69 (k_inI (wi M 96 0 0) w 0 1 _ _ (by decide) (by decide)) (by decide) rfl (Nat.le_of_ble_eq_true rfl) rfl dX12_studio_65 ?_
            refine ar_if_neB (tgt := 74) C dX12_studio_68 (by decide) (fun c_6 => ?_) (fun c_6 => ?_)
            · exact absurd hbad (by first | (rw [c_1]; decide) | simp [*])
            · refine ar_ldc C kcX12_79 dX12_studio_71 ?_
              exact ar_ireturn C rfl dX12_studio_73 ⟨rfl, rfl, rfl⟩
set_option maxHeartbeats 4000000 in
set_option maxRecDepth 100000 in
theorem m_studio_null (M : Mm) {a s n k : Nat} (ha : a < 8) (hs : s < 8) (e : Int32) (hn : f_in (nI n) 1 20 = true) (hk : f_in (nI k) 0 (nI n - 1) = true) (he : f_in e 0 20 = true) (w : Int32) (hw : f_in w 0 1 = true) (q : Int32) (hm : M.1 97 s < 0) : AX mX12_studio 3 [.ref 96, .int (nI a), .int (nI s), .int q, .int (nI n), .int (nI k), .int e, .int w] M (some (.int (-1000011))) (wi (wi M 96 0 0) 96 1 1) := by
  refine AM_ofF (by decide +kernel) (Nat.le_of_ble_eq_true rfl) (fun X V C _ _ => ?_)
  show AW X V mX12_studio.2.2.1 T0 M 0 0 _ 0 [(0, .ref 96), (1, .int (nI a)), (2, .int (nI s)), (3, .int q), (4, .int (nI n)), (5, .int (nI k)), (6, .int e), (7, .int w)] []
  refine ar_aload_n (n := 0) C dX12_studio_0 rfl rfl ?_
  refine ar_iconst (v := 0) C dX12_studio_1 (by decide) ?_
  refine ar_puti C flX12_59 kd_96 dX12_studio_2 ?_
  refine ar_iload_n (n := 1) C dX12_studio_5 rfl rfl ?_
  refine cS1 (ar := [.int (nI a)]) (st := []) C lkX12_140 (k_mTrace (wi M 96 0 0) (nI a)) (by decide) rfl (Nat.le_of_ble_eq_true rfl) rfl dX12_studio_6 ?_
  refine ar_if_eqB (tgt := 71) C dX12_studio_9 (by decide) (fun c_1 => False.elim (Bool.noConfusion ((in7 ha).symm.trans c_1))) (fun _ => ?_)
  refine ar_iload_n (n := 2) C dX12_studio_12 rfl rfl ?_
  refine cS1 (ar := [.int (nI s)]) (st := []) C lkX12_73 (k_mSheet (wi M 96 0 0) (nI s)) (by decide) rfl (Nat.le_of_ble_eq_true rfl) rfl dX12_studio_13 ?_
  refine ar_if_eqB (tgt := 71) C dX12_studio_16 (by decide) (fun c_2 => False.elim (Bool.noConfusion ((in7 hs).symm.trans c_2))) (fun _ => ?_)
  refine ar_iload (n := 4) C dX12_studio_19 rfl ?_
  refine ar_i2l C dX12_studio_21 ?_
  refine ar_lconst (v := 1) C dX12_studio_22 (by decide) ?_
  refine ar_ldc2 C kcX12_199 dX12_studio_23 ?_
  refine cS1 (ar := [.long ((nI n).toInt64), .long 1, .long 20]) (st := []) C lkX12_69 (k_inI (wi M 96 0 0) (nI n) 1 20 _ _ (by decide) (by decide)) (by decide) rfl (Nat.le_of_ble_eq_true rfl) rfl dX12_studio_26 ?_
  refine ar_if_eqB (tgt := 71) C dX12_studio_29 (by decide) (fun c_3 => False.elim (Bool.noConfusion (hn.symm.trans c_3))) (fun _ => ?_)
  refine ar_iload (n := 5) C dX12_studio_32 rfl ?_
  refine ar_i2l C dX12_studio_34 ?_
  refine ar_lconst (v := 0) C dX12_studio_35 (by decide) ?_
  refine ar_iload (n := 4) C dX12_studio_36 rfl ?_
  refine ar_iconst (v := 1) C dX12_studio_38 (by decide) ?_
  refine ar_isub C dX12_studio_39 ?_
  refine ar_i2l C dX12_studio_40 ?_
  refine cS1 (ar := [.long ((nI k).toInt64), .long 0, .long (((nI n) - 1).toInt64)]) (st := []) C lkX12_69 (k_inI (wi M 96 0 0) (nI k) 0 ((nI n) - 1) _ _ (by decide) rfl) (by decide) rfl (Nat.le_of_ble_eq_true rfl) rfl dX12_studio_41 ?_
  refine ar_if_eqB (tgt := 71) C dX12_studio_44 (by decide) (fun c_4 => False.elim (Bool.noConfusion (hk.symm.trans c_4))) (fun _ => ?_)
  refine ar_iload (n := 6) C dX12_studio_47 rfl ?_
  refine ar_i2l C dX12_studio_49 ?_
  refine ar_lconst (v := 0) C dX12_studio_50 (by decide) ?_
  refine ar_ldc2 C kcX12_199 dX12_studio_51 ?_
  refine cS1 (ar := [.long e.toInt64, .long 0, .long 20]) (st := []) C lkX12_69 (k_inI (wi M 96 0 0) e 0 20 _ _ (by decide) (by decide)) (by decide) rfl (Nat.le_of_ble_eq_true rfl) rfl dX12_studio_54 ?_
  refine ar_if_eqB (tgt := 71) C dX12_studio_57 (by decide) (fun c_5 => False.elim (Bool.noConfusion (he.symm.trans c_5))) (fun _ => ?_)
  refine ar_iload (n := 7) C dX12_studio_60 rfl ?_
  refine ar_i2l C dX12_studio_62 ?_
  refine ar_lconst (v := 0) C dX12_studio_63 (by decide) ?_
  refine ar_lconst (v := 1) C dX12_studio_64 (by decide) ?_
  refine cS1 (ar := [.long w.toInt64, .long 0, .long 1]) (st := []) C lkX12_69 (k_inI (wi M 96 0 0) w 0 1 _ _ (by decide) (by decide)) (by decide) rfl (Nat.le_of_ble_eq_true rfl) rfl dX12_studio_65 ?_
  refine ar_if_neB (tgt := 74) C dX12_studio_68 (by decide) (fun _ => ?_) (fun c_6 => False.elim (Bool.noConfusion (hw.symm.trans c_6)))
  refine ar_aload_n (n := 0) C dX12_studio_74 rfl rfl ?_
  refine ar_iload_n (n := 1) C dX12_studio_75 rfl rfl ?_
  refine ar_iload_n (n := 2) C dX12_studio_76 rfl rfl ?_
  refine ar_iload_n (n := 3) C dX12_studio_77 rfl rfl ?_
  refine ar_iload (n := 4) C dX12_studio_78 rfl ?_
  refine cV1 (ar := [.int (nI a), .int (nI s), .int q, .int (nI n)]) (st := []) C lkX12_210 kd_96 (m_look_null (wi M 96 0 0) hs (nI a) q hm) (by decide) rfl (Nat.le_of_ble_eq_true rfl) rfl dX12_studio_80 ?_
  refine ar_istore (als' := [(8, .int (-1000011)), (0, .ref 96), (1, .int (nI a)), (2, .int (nI s)), (3, .int q), (4, .int (nI n)), (5, .int (nI k)), (6, .int e), (7, .int w)]) C dX12_studio_83 (by decide) rfl ?_
  refine ar_iload (n := 0) C dX12_studio_85 rfl ?_
  refine ar_if_ge (tgt := 93) C dX12_studio_87 (by decide) (fun c_7 => False.elim (absurd c_7 (by decide))) (fun _ => ?_)
  refine ar_iload (n := 0) C dX12_studio_90 rfl ?_
  exact ar_ireturn C rfl dX12_studio_92 ⟨rfl, rfl, rfl⟩
set_option maxHeartbeats 4000000 in
set_option maxRecDepth 100000 in
theorem m_studios_null (M : Mm) {a s n : Nat} (ha : a < 8) (hs : s < 8) (e : Int32) (hn : f_in (nI n) 1 20 = true) (he : f_in e 0 20 = true) (w : Int32) (hw : f_in w 0 2 = true) (q : Int32) (hm : M.1 97 s < 0) : AX mX12_studios 3 [.ref 96, .int (nI a), .int (nI s), .int q, .int (nI n), .int e, .int w] M (some (.int (-1000011))) (wi (wi M 96 0 0) 96 1 1) := by
  refine AM_ofF (by decide +kernel) (Nat.le_of_ble_eq_true rfl) (fun X V C _ _ => ?_)
  show AW X V mX12_studios.2.2.1 T0 M 0 0 _ 0 [(0, .ref 96), (1, .int (nI a)), (2, .int (nI s)), (3, .int q), (4, .int (nI n)), (5, .int e), (6, .int w)] []
  refine ar_aload_n (n := 0) C dX12_studios_0 rfl rfl ?_
  refine ar_iconst (v := 0) C dX12_studios_1 (by decide) ?_
  refine ar_puti C flX12_59 kd_96 dX12_studios_2 ?_
  refine ar_iload_n (n := 1) C dX12_studios_5 rfl rfl ?_
  refine cS1 (ar := [.int (nI a)]) (st := []) C lkX12_140 (k_mTrace (wi M 96 0 0) (nI a)) (by decide) rfl (Nat.le_of_ble_eq_true rfl) rfl dX12_studios_6 ?_
  refine ar_if_eqB (tgt := 58) C dX12_studios_9 (by decide) (fun c_1 => False.elim (Bool.noConfusion ((in7 ha).symm.trans c_1))) (fun _ => ?_)
  refine ar_iload_n (n := 2) C dX12_studios_12 rfl rfl ?_
  refine cS1 (ar := [.int (nI s)]) (st := []) C lkX12_73 (k_mSheet (wi M 96 0 0) (nI s)) (by decide) rfl (Nat.le_of_ble_eq_true rfl) rfl dX12_studios_13 ?_
  refine ar_if_eqB (tgt := 58) C dX12_studios_16 (by decide) (fun c_2 => False.elim (Bool.noConfusion ((in7 hs).symm.trans c_2))) (fun _ => ?_)
  refine ar_iload (n := 4) C dX12_studios_19 rfl ?_
  refine ar_i2l C dX12_studios_21 ?_
  refine ar_lconst (v := 1) C dX12_studios_22 (by decide) ?_
  refine ar_ldc2 C kcX12_199 dX12_studios_23 ?_
  refine cS1 (ar := [.long ((nI n).toInt64), .long 1, .long 20]) (st := []) C lkX12_69 (k_inI (wi M 96 0 0) (nI n) 1 20 _ _ (by decide) (by decide)) (by decide) rfl (Nat.le_of_ble_eq_true rfl) rfl dX12_studios_26 ?_
  refine ar_if_eqB (tgt := 58) C dX12_studios_29 (by decide) (fun c_3 => False.elim (Bool.noConfusion (hn.symm.trans c_3))) (fun _ => ?_)
  refine ar_iload (n := 5) C dX12_studios_32 rfl ?_
  refine ar_i2l C dX12_studios_34 ?_
  refine ar_lconst (v := 0) C dX12_studios_35 (by decide) ?_
  refine ar_ldc2 C kcX12_199 dX12_studios_36 ?_
  refine cS1 (ar := [.long e.toInt64, .long 0, .long 20]) (st := []) C lkX12_69 (k_inI (wi M 96 0 0) e 0 20 _ _ (by decide) (by decide)) (by decide) rfl (Nat.le_of_ble_eq_true rfl) rfl dX12_studios_39 ?_
  refine ar_if_eqB (tgt := 58) C dX12_studios_42 (by decide) (fun c_4 => False.elim (Bool.noConfusion (he.symm.trans c_4))) (fun _ => ?_)
  refine ar_iload (n := 6) C dX12_studios_45 rfl ?_
  refine ar_i2l C dX12_studios_47 ?_
  refine ar_lconst (v := 0) C dX12_studios_48 (by decide) ?_
  refine ar_ldc2 C kcX12_77 dX12_studios_49 ?_
  refine cS1 (ar := [.long w.toInt64, .long 0, .long 2]) (st := []) C lkX12_69 (k_inI (wi M 96 0 0) w 0 2 _ _ (by decide) (by decide)) (by decide) rfl (Nat.le_of_ble_eq_true rfl) rfl dX12_studios_52 ?_
  refine ar_if_neB (tgt := 61) C dX12_studios_55 (by decide) (fun _ => ?_) (fun c_5 => False.elim (Bool.noConfusion (hw.symm.trans c_5)))
  refine ar_aload_n (n := 0) C dX12_studios_61 rfl rfl ?_
  refine ar_iload_n (n := 1) C dX12_studios_62 rfl rfl ?_
  refine ar_iload_n (n := 2) C dX12_studios_63 rfl rfl ?_
  refine ar_iload_n (n := 3) C dX12_studios_64 rfl rfl ?_
  refine ar_iload (n := 4) C dX12_studios_65 rfl ?_
  refine cV1 (ar := [.int (nI a), .int (nI s), .int q, .int (nI n)]) (st := []) C lkX12_210 kd_96 (m_look_null (wi M 96 0 0) hs (nI a) q hm) (by decide) rfl (Nat.le_of_ble_eq_true rfl) rfl dX12_studios_67 ?_
  refine ar_istore (als' := [(7, .int (-1000011)), (0, .ref 96), (1, .int (nI a)), (2, .int (nI s)), (3, .int q), (4, .int (nI n)), (5, .int e), (6, .int w)]) C dX12_studios_70 (by decide) rfl ?_
  refine ar_iload (n := 0) C dX12_studios_72 rfl ?_
  refine ar_if_ge (tgt := 80) C dX12_studios_74 (by decide) (fun c_6 => False.elim (absurd c_6 (by decide))) (fun _ => ?_)
  refine ar_iload (n := 0) C dX12_studios_77 rfl ?_
  exact ar_ireturn C rfl dX12_studios_79 ⟨rfl, rfl, rfl⟩
set_option maxHeartbeats 4000000 in
set_option maxRecDepth 100000 in
theorem m_studio_place (M : Mm) {a s n k : Nat} (ha : a < 8) (hs : s < 8) (e : Int32) (hn : f_in (nI n) 1 20 = true) (hk : f_in (nI k) 0 (nI n - 1) = true) (he : f_in e 0 20 = true) (w : Int32) (hw : f_in w 0 1 = true) (q : Int32) (hm : ¬ M.1 97 s < 0) (hp : (!decide (q < 0) && !decide ((M.1 98 s).toInt64 < q.toInt64 + (4 * nI n).toInt64)) = false) : AX mX12_studio 3 [.ref 96, .int (nI a), .int (nI s), .int q, .int (nI n), .int (nI k), .int e, .int w] M (some (.int (-1000012))) (wi (wi M 96 0 0) 96 1 2) := by
  refine AM_ofF (by decide +kernel) (Nat.le_of_ble_eq_true rfl) (fun X V C _ _ => ?_)
  show AW X V mX12_studio.2.2.1 T0 M 0 0 _ 0 [(0, .ref 96), (1, .int (nI a)), (2, .int (nI s)), (3, .int q), (4, .int (nI n)), (5, .int (nI k)), (6, .int e), (7, .int w)] []
  refine ar_aload_n (n := 0) C dX12_studio_0 rfl rfl ?_
  refine ar_iconst (v := 0) C dX12_studio_1 (by decide) ?_
  refine ar_puti C flX12_59 kd_96 dX12_studio_2 ?_
  refine ar_iload_n (n := 1) C dX12_studio_5 rfl rfl ?_
  refine cS1 (ar := [.int (nI a)]) (st := []) C lkX12_140 (k_mTrace (wi M 96 0 0) (nI a)) (by decide) rfl (Nat.le_of_ble_eq_true rfl) rfl dX12_studio_6 ?_
  refine ar_if_eqB (tgt := 71) C dX12_studio_9 (by decide) (fun c_1 => False.elim (Bool.noConfusion ((in7 ha).symm.trans c_1))) (fun _ => ?_)
  refine ar_iload_n (n := 2) C dX12_studio_12 rfl rfl ?_
  refine cS1 (ar := [.int (nI s)]) (st := []) C lkX12_73 (k_mSheet (wi M 96 0 0) (nI s)) (by decide) rfl (Nat.le_of_ble_eq_true rfl) rfl dX12_studio_13 ?_
  refine ar_if_eqB (tgt := 71) C dX12_studio_16 (by decide) (fun c_2 => False.elim (Bool.noConfusion ((in7 hs).symm.trans c_2))) (fun _ => ?_)
  refine ar_iload (n := 4) C dX12_studio_19 rfl ?_
  refine ar_i2l C dX12_studio_21 ?_
  refine ar_lconst (v := 1) C dX12_studio_22 (by decide) ?_
  refine ar_ldc2 C kcX12_199 dX12_studio_23 ?_
  refine cS1 (ar := [.long ((nI n).toInt64), .long 1, .long 20]) (st := []) C lkX12_69 (k_inI (wi M 96 0 0) (nI n) 1 20 _ _ (by decide) (by decide)) (by decide) rfl (Nat.le_of_ble_eq_true rfl) rfl dX12_studio_26 ?_
  refine ar_if_eqB (tgt := 71) C dX12_studio_29 (by decide) (fun c_3 => False.elim (Bool.noConfusion (hn.symm.trans c_3))) (fun _ => ?_)
  refine ar_iload (n := 5) C dX12_studio_32 rfl ?_
  refine ar_i2l C dX12_studio_34 ?_
  refine ar_lconst (v := 0) C dX12_studio_35 (by decide) ?_
  refine ar_iload (n := 4) C dX12_studio_36 rfl ?_
  refine ar_iconst (v := 1) C dX12_studio_38 (by decide) ?_
  refine ar_isub C dX12_studio_39 ?_
  refine ar_i2l C dX12_studio_40 ?_
  refine cS1 (ar := [.long ((nI k).toInt64), .long 0, .long (((nI n) - 1).toInt64)]) (st := []) C lkX12_69 (k_inI (wi M 96 0 0) (nI k) 0 ((nI n) - 1) _ _ (by decide) rfl) (by decide) rfl (Nat.le_of_ble_eq_true rfl) rfl dX12_studio_41 ?_
  refine ar_if_eqB (tgt := 71) C dX12_studio_44 (by decide) (fun c_4 => False.elim (Bool.noConfusion (hk.symm.trans c_4))) (fun _ => ?_)
  refine ar_iload (n := 6) C dX12_studio_47 rfl ?_
  refine ar_i2l C dX12_studio_49 ?_
  refine ar_lconst (v := 0) C dX12_studio_50 (by decide) ?_
  refine ar_ldc2 C kcX12_199 dX12_studio_51 ?_
  refine cS1 (ar := [.long e.toInt64, .long 0, .long 20]) (st := []) C lkX12_69 (k_inI (wi M 96 0 0) e 0 20 _ _ (by decide) (by decide)) (by decide) rfl (Nat.le_of_ble_eq_true rfl) rfl dX12_studio_54 ?_
  refine ar_if_eqB (tgt := 71) C dX12_studio_57 (by decide) (fun c_5 => False.elim (Bool.noConfusion (he.symm.trans c_5))) (fun _ => ?_)
  refine ar_iload (n := 7) C dX12_studio_60 rfl ?_
  refine ar_i2l C dX12_studio_62 ?_
  refine ar_lconst (v := 0) C dX12_studio_63 (by decide) ?_
  refine ar_lconst (v := 1) C dX12_studio_64 (by decide) ?_
  refine cS1 (ar := [.long w.toInt64, .long 0, .long 1]) (st := []) C lkX12_69 (k_inI (wi M 96 0 0) w 0 1 _ _ (by decide) (by decide)) (by decide) rfl (Nat.le_of_ble_eq_true rfl) rfl dX12_studio_65 ?_
  refine ar_if_neB (tgt := 74) C dX12_studio_68 (by decide) (fun _ => ?_) (fun c_6 => False.elim (Bool.noConfusion (hw.symm.trans c_6)))
  refine ar_aload_n (n := 0) C dX12_studio_74 rfl rfl ?_
  refine ar_iload_n (n := 1) C dX12_studio_75 rfl rfl ?_
  refine ar_iload_n (n := 2) C dX12_studio_76 rfl rfl ?_
  refine ar_iload_n (n := 3) C dX12_studio_77 rfl rfl ?_
  refine ar_iload (n := 4) C dX12_studio_78 rfl ?_
  refine cV1 (ar := [.int (nI a), .int (nI s), .int q, .int (nI n)]) (st := []) C lkX12_210 kd_96 (m_look_place (wi M 96 0 0) hs (nI a) q hm hp) (by decide) rfl (Nat.le_of_ble_eq_true rfl) rfl dX12_studio_80 ?_
  refine ar_istore (als' := [(8, .int (-1000012)), (0, .ref 96), (1, .int (nI a)), (2, .int (nI s)), (3, .int q), (4, .int (nI n)), (5, .int (nI k)), (6, .int e), (7, .int w)]) C dX12_studio_83 (by decide) rfl ?_
  refine ar_iload (n := 0) C dX12_studio_85 rfl ?_
  refine ar_if_ge (tgt := 93) C dX12_studio_87 (by decide) (fun c_7 => False.elim (absurd c_7 (by decide))) (fun _ => ?_)
  refine ar_iload (n := 0) C dX12_studio_90 rfl ?_
  exact ar_ireturn C rfl dX12_studio_92 ⟨rfl, rfl, rfl⟩
set_option maxHeartbeats 4000000 in
set_option maxRecDepth 100000 in
theorem m_studios_place (M : Mm) {a s n : Nat} (ha : a < 8) (hs : s < 8) (e : Int32) (hn : f_in (nI n) 1 20 = true) (he : f_in e 0 20 = true) (w : Int32) (hw : f_in w 0 2 = true) (q : Int32) (hm : ¬ M.1 97 s < 0) (hp : (!decide (q < 0) && !decide ((M.1 98 s).toInt64 < q.toInt64 + (4 * nI n).toInt64)) = false) : AX mX12_studios 3 [.ref 96, .int (nI a), .int (nI s), .int q, .int (nI n), .int e, .int w] M (some (.int (-1000012))) (wi (wi M 96 0 0) 96 1 2) := by
  refine AM_ofF (by decide +kernel) (Nat.le_of_ble_eq_true rfl) (fun X V C _ _ => ?_)
  show AW X V mX12_studios.2.2.1 T0 M 0 0 _ 0 [(0, .ref 96), (1, .int (nI a)), (2, .int (nI s)), (3, .int q), (4, .int (nI n)), (5, .int e), (6, .int w)] []
  refine ar_aload_n (n := 0) C dX12_studios_0 rfl rfl ?_
  refine ar_iconst (v := 0) C dX12_studios_1 (by decide) ?_
  refine ar_puti C flX12_59 kd_96 dX12_studios_2 ?_
  refine ar_iload_n (n := 1) C dX12_studios_5 rfl rfl ?_
  refine cS1 (ar := [.int (nI a)]) (st := []) C lkX12_140 (k_mTrace (wi M 96 0 0) (nI a)) (by decide) rfl (Nat.le_of_ble_eq_true rfl) rfl dX12_studios_6 ?_
  refine ar_if_eqB (tgt := 58) C dX12_studios_9 (by decide) (fun c_1 => False.elim (Bool.noConfusion ((in7 ha).symm.trans c_1))) (fun _ => ?_)
  refine ar_iload_n (n := 2) C dX12_studios_12 rfl rfl ?_
  refine cS1 (ar := [.int (nI s)]) (st := []) C lkX12_73 (k_mSheet (wi M 96 0 0) (nI s)) (by decide) rfl (Nat.le_of_ble_eq_true rfl) rfl dX12_studios_13 ?_
  refine ar_if_eqB (tgt := 58) C dX12_studios_16 (by decide) (fun c_2 => False.elim (Bool.noConfusion ((in7 hs).symm.trans c_2))) (fun _ => ?_)
  refine ar_iload (n := 4) C dX12_studios_19 rfl ?_
  refine ar_i2l C dX12_studios_21 ?_
  refine ar_lconst (v := 1) C dX12_studios_22 (by decide) ?_
  refine ar_ldc2 C kcX12_199 dX12_studios_23 ?_
  refine cS1 (ar := [.long ((nI n).toInt64), .long 1, .long 20]) (st := []) C lkX12_69 (k_inI (wi M 96 0 0) (nI n) 1 20 _ _ (by decide) (by decide)) (by decide) rfl (Nat.le_of_ble_eq_true rfl) rfl dX12_studios_26 ?_
  refine ar_if_eqB (tgt := 58) C dX12_studios_29 (by decide) (fun c_3 => False.elim (Bool.noConfusion (hn.symm.trans c_3))) (fun _ => ?_)
  refine ar_iload (n := 5) C dX12_studios_32 rfl ?_
  refine ar_i2l C dX12_studios_34 ?_
  refine ar_lconst (v := 0) C dX12_studios_35 (by decide) ?_
  refine ar_ldc2 C kcX12_199 dX12_studios_36 ?_
  refine cS1 (ar := [.long e.toInt64, .long 0, .long 20]) (st := []) C lkX12_69 (k_inI (wi M 96 0 0) e 0 20 _ _ (by decide) (by decide)) (by decide) rfl (Nat.le_of_ble_eq_true rfl) rfl dX12_studios_39 ?_
  refine ar_if_eqB (tgt := 58) C dX12_studios_42 (by decide) (fun c_4 => False.elim (Bool.noConfusion (he.symm.trans c_4))) (fun _ => ?_)
  refine ar_iload (n := 6) C dX12_studios_45 rfl ?_
  refine ar_i2l C dX12_studios_47 ?_
  refine ar_lconst (v := 0) C dX12_studios_48 (by decide) ?_
  refine ar_ldc2 C kcX12_77 dX12_studios_49 ?_
  refine cS1 (ar := [.long w.toInt64, .long 0, .long 2]) (st := []) C lkX12_69 (k_inI (wi M 96 0 0) w 0 2 _ _ (by decide) (by decide)) (by decide) rfl (Nat.le_of_ble_eq_true rfl) rfl dX12_studios_52 ?_
  refine ar_if_neB (tgt := 61) C dX12_studios_55 (by decide) (fun _ => ?_) (fun c_5 => False.elim (Bool.noConfusion (hw.symm.trans c_5)))
  refine ar_aload_n (n := 0) C dX12_studios_61 rfl rfl ?_
  refine ar_iload_n (n := 1) C dX12_studios_62 rfl rfl ?_
  refine ar_iload_n (n := 2) C dX12_studios_63 rfl rfl ?_
  refine ar_iload_n (n := 3) C dX12_studios_64 rfl rfl ?_
  refine ar_iload (n := 4) C dX12_studios_65 rfl ?_
  refine cV1 (ar := [.int (nI a), .int (nI s), .int q, .int (nI n)]) (st := []) C lkX12_210 kd_96 (m_look_place (wi M 96 0 0) hs (nI a) q hm hp) (by decide) rfl (Nat.le_of_ble_eq_true rfl) rfl dX12_studios_67 ?_
  refine ar_istore (als' := [(7, .int (-1000012)), (0, .ref 96), (1, .int (nI a)), (2, .int (nI s)), (3, .int q), (4, .int (nI n)), (5, .int e), (6, .int w)]) C dX12_studios_70 (by decide) rfl ?_
  refine ar_iload (n := 0) C dX12_studios_72 rfl ?_
  refine ar_if_ge (tgt := 80) C dX12_studios_74 (by decide) (fun c_6 => False.elim (absurd c_6 (by decide))) (fun _ => ?_)
  refine ar_iload (n := 0) C dX12_studios_77 rfl ?_
  exact ar_ireturn C rfl dX12_studios_79 ⟨rfl, rfl, rfl⟩
set_option maxHeartbeats 4000000 in
set_option maxRecDepth 100000 in
theorem m_studio_no (M : Mm) {a s n k : Nat} (ha : a < 8) (hs : s < 8) (e : Int32) (hn : f_in (nI n) 1 20 = true) (hk : f_in (nI k) 0 (nI n - 1) = true) (he : f_in e 0 20 = true) (w : Int32) (hw : f_in w 0 1 = true) {i : Nat} (hin : i + 4 * n ≤ 80) (hm : ¬ M.1 97 s < 0) (hp : ¬ (M.1 98 s).toInt64 < (nI i).toInt64 + (4 * nI n).toInt64) (hall : allB (lkB M (80 * s + i)) (4 * n) = false) : AX mX12_studio 3 [.ref 96, .int (nI a), .int (nI s), .int (nI i), .int (nI n), .int (nI k), .int e, .int w] M (some (.int (-1000001))) (wi M 96 0 0) := by
  refine AM_ofF (by decide +kernel) (Nat.le_of_ble_eq_true rfl) (fun X V C _ _ => ?_)
  show AW X V mX12_studio.2.2.1 T0 M 0 0 _ 0 [(0, .ref 96), (1, .int (nI a)), (2, .int (nI s)), (3, .int (nI i)), (4, .int (nI n)), (5, .int (nI k)), (6, .int e), (7, .int w)] []
  refine ar_aload_n (n := 0) C dX12_studio_0 rfl rfl ?_
  refine ar_iconst (v := 0) C dX12_studio_1 (by decide) ?_
  refine ar_puti C flX12_59 kd_96 dX12_studio_2 ?_
  refine ar_iload_n (n := 1) C dX12_studio_5 rfl rfl ?_
  refine cS1 (ar := [.int (nI a)]) (st := []) C lkX12_140 (k_mTrace (wi M 96 0 0) (nI a)) (by decide) rfl (Nat.le_of_ble_eq_true rfl) rfl dX12_studio_6 ?_
  refine ar_if_eqB (tgt := 71) C dX12_studio_9 (by decide) (fun c_1 => False.elim (Bool.noConfusion ((in7 ha).symm.trans c_1))) (fun _ => ?_)
  refine ar_iload_n (n := 2) C dX12_studio_12 rfl rfl ?_
  refine cS1 (ar := [.int (nI s)]) (st := []) C lkX12_73 (k_mSheet (wi M 96 0 0) (nI s)) (by decide) rfl (Nat.le_of_ble_eq_true rfl) rfl dX12_studio_13 ?_
  refine ar_if_eqB (tgt := 71) C dX12_studio_16 (by decide) (fun c_2 => False.elim (Bool.noConfusion ((in7 hs).symm.trans c_2))) (fun _ => ?_)
  refine ar_iload (n := 4) C dX12_studio_19 rfl ?_
  refine ar_i2l C dX12_studio_21 ?_
  refine ar_lconst (v := 1) C dX12_studio_22 (by decide) ?_
  refine ar_ldc2 C kcX12_199 dX12_studio_23 ?_
  refine cS1 (ar := [.long ((nI n).toInt64), .long 1, .long 20]) (st := []) C lkX12_69 (k_inI (wi M 96 0 0) (nI n) 1 20 _ _ (by decide) (by decide)) (by decide) rfl (Nat.le_of_ble_eq_true rfl) rfl dX12_studio_26 ?_
  refine ar_if_eqB (tgt := 71) C dX12_studio_29 (by decide) (fun c_3 => False.elim (Bool.noConfusion (hn.symm.trans c_3))) (fun _ => ?_)
  refine ar_iload (n := 5) C dX12_studio_32 rfl ?_
  refine ar_i2l C dX12_studio_34 ?_
  refine ar_lconst (v := 0) C dX12_studio_35 (by decide) ?_
  refine ar_iload (n := 4) C dX12_studio_36 rfl ?_
  refine ar_iconst (v := 1) C dX12_studio_38 (by decide) ?_
  refine ar_isub C dX12_studio_39 ?_
  refine ar_i2l C dX12_studio_40 ?_
  refine cS1 (ar := [.long ((nI k).toInt64), .long 0, .long (((nI n) - 1).toInt64)]) (st := []) C lkX12_69 (k_inI (wi M 96 0 0) (nI k) 0 ((nI n) - 1) _ _ (by decide) rfl) (by decide) rfl (Nat.le_of_ble_eq_true rfl) rfl dX12_studio_41 ?_
  refine ar_if_eqB (tgt := 71) C dX12_studio_44 (by decide) (fun c_4 => False.elim (Bool.noConfusion (hk.symm.trans c_4))) (fun _ => ?_)
  refine ar_iload (n := 6) C dX12_studio_47 rfl ?_
  refine ar_i2l C dX12_studio_49 ?_
  refine ar_lconst (v := 0) C dX12_studio_50 (by decide) ?_
  refine ar_ldc2 C kcX12_199 dX12_studio_51 ?_
  refine cS1 (ar := [.long e.toInt64, .long 0, .long 20]) (st := []) C lkX12_69 (k_inI (wi M 96 0 0) e 0 20 _ _ (by decide) (by decide)) (by decide) rfl (Nat.le_of_ble_eq_true rfl) rfl dX12_studio_54 ?_
  refine ar_if_eqB (tgt := 71) C dX12_studio_57 (by decide) (fun c_5 => False.elim (Bool.noConfusion (he.symm.trans c_5))) (fun _ => ?_)
  refine ar_iload (n := 7) C dX12_studio_60 rfl ?_
  refine ar_i2l C dX12_studio_62 ?_
  refine ar_lconst (v := 0) C dX12_studio_63 (by decide) ?_
  refine ar_lconst (v := 1) C dX12_studio_64 (by decide) ?_
  refine cS1 (ar := [.long w.toInt64, .long 0, .long 1]) (st := []) C lkX12_69 (k_inI (wi M 96 0 0) w 0 1 _ _ (by decide) (by decide)) (by decide) rfl (Nat.le_of_ble_eq_true rfl) rfl dX12_studio_65 ?_
  refine ar_if_neB (tgt := 74) C dX12_studio_68 (by decide) (fun _ => ?_) (fun c_6 => False.elim (Bool.noConfusion (hw.symm.trans c_6)))
  refine ar_aload_n (n := 0) C dX12_studio_74 rfl rfl ?_
  refine ar_iload_n (n := 1) C dX12_studio_75 rfl rfl ?_
  refine ar_iload_n (n := 2) C dX12_studio_76 rfl rfl ?_
  refine ar_iload_n (n := 3) C dX12_studio_77 rfl rfl ?_
  refine ar_iload (n := 4) C dX12_studio_78 rfl ?_
  refine cV1 (ar := [.int (nI a), .int (nI s), .int (nI i), .int (nI n)]) (st := []) C lkX12_210 kd_96 (m_look_no (wi M 96 0 0) hs hin (nI a) hm hp hall) (by decide) rfl (Nat.le_of_ble_eq_true rfl) rfl dX12_studio_80 ?_
  refine ar_istore (als' := [(8, .int (-1000001)), (0, .ref 96), (1, .int (nI a)), (2, .int (nI s)), (3, .int (nI i)), (4, .int (nI n)), (5, .int (nI k)), (6, .int e), (7, .int w)]) C dX12_studio_83 (by decide) rfl ?_
  refine ar_iload (n := 0) C dX12_studio_85 rfl ?_
  refine ar_if_ge (tgt := 93) C dX12_studio_87 (by decide) (fun c_7 => False.elim (absurd c_7 (by decide))) (fun _ => ?_)
  refine ar_iload (n := 0) C dX12_studio_90 rfl ?_
  exact ar_ireturn C rfl dX12_studio_92 ⟨rfl, rfl, rfl⟩
set_option maxHeartbeats 4000000 in
set_option maxRecDepth 100000 in
theorem m_studios_no (M : Mm) {a s n : Nat} (ha : a < 8) (hs : s < 8) (e : Int32) (hn : f_in (nI n) 1 20 = true) (he : f_in e 0 20 = true) (w : Int32) (hw : f_in w 0 2 = true) {i : Nat} (hin : i + 4 * n ≤ 80) (hm : ¬ M.1 97 s < 0) (hp : ¬ (M.1 98 s).toInt64 < (nI i).toInt64 + (4 * nI n).toInt64) (hall : allB (lkB M (80 * s + i)) (4 * n) = false) : AX mX12_studios 3 [.ref 96, .int (nI a), .int (nI s), .int (nI i), .int (nI n), .int e, .int w] M (some (.int (-1000001))) (wi M 96 0 0) := by
  refine AM_ofF (by decide +kernel) (Nat.le_of_ble_eq_true rfl) (fun X V C _ _ => ?_)
  show AW X V mX12_studios.2.2.1 T0 M 0 0 _ 0 [(0, .ref 96), (1, .int (nI a)), (2, .int (nI s)), (3, .int (nI i)), (4, .int (nI n)), (5, .int e), (6, .int w)] []
  refine ar_aload_n (n := 0) C dX12_studios_0 rfl rfl ?_
  refine ar_iconst (v := 0) C dX12_studios_1 (by decide) ?_
  refine ar_puti C flX12_59 kd_96 dX12_studios_2 ?_
  refine ar_iload_n (n := 1) C dX12_studios_5 rfl rfl ?_
  refine cS1 (ar := [.int (nI a)]) (st := []) C lkX12_140 (k_mTrace (wi M 96 0 0) (nI a)) (by decide) rfl (Nat.le_of_ble_eq_true rfl) rfl dX12_studios_6 ?_
  refine ar_if_eqB (tgt := 58) C dX12_studios_9 (by decide) (fun c_1 => False.elim (Bool.noConfusion ((in7 ha).symm.trans c_1))) (fun _ => ?_)
  refine ar_iload_n (n := 2) C dX12_studios_12 rfl rfl ?_
  refine cS1 (ar := [.int (nI s)]) (st := []) C lkX12_73 (k_mSheet (wi M 96 0 0) (nI s)) (by decide) rfl (Nat.le_of_ble_eq_true rfl) rfl dX12_studios_13 ?_
  refine ar_if_eqB (tgt := 58) C dX12_studios_16 (by decide) (fun c_2 => False.elim (Bool.noConfusion ((in7 hs).symm.trans c_2))) (fun _ => ?_)
  refine ar_iload (n := 4) C dX12_studios_19 rfl ?_
  refine ar_i2l C dX12_studios_21 ?_
  refine ar_lconst (v := 1) C dX12_studios_22 (by decide) ?_
  refine ar_ldc2 C kcX12_199 dX12_studios_23 ?_
  refine cS1 (ar := [.long ((nI n).toInt64), .long 1, .long 20]) (st := []) C lkX12_69 (k_inI (wi M 96 0 0) (nI n) 1 20 _ _ (by decide) (by decide)) (by decide) rfl (Nat.le_of_ble_eq_true rfl) rfl dX12_studios_26 ?_
  refine ar_if_eqB (tgt := 58) C dX12_studios_29 (by decide) (fun c_3 => False.elim (Bool.noConfusion (hn.symm.trans c_3))) (fun _ => ?_)
  refine ar_iload (n := 5) C dX12_studios_32 rfl ?_
  refine ar_i2l C dX12_studios_34 ?_
  refine ar_lconst (v := 0) C dX12_studios_35 (by decide) ?_
  refine ar_ldc2 C kcX12_199 dX12_studios_36 ?_
  refine cS1 (ar := [.long e.toInt64, .long 0, .long 20]) (st := []) C lkX12_69 (k_inI (wi M 96 0 0) e 0 20 _ _ (by decide) (by decide)) (by decide) rfl (Nat.le_of_ble_eq_true rfl) rfl dX12_studios_39 ?_
  refine ar_if_eqB (tgt := 58) C dX12_studios_42 (by decide) (fun c_4 => False.elim (Bool.noConfusion (he.symm.trans c_4))) (fun _ => ?_)
  refine ar_iload (n := 6) C dX12_studios_45 rfl ?_
  refine ar_i2l C dX12_studios_47 ?_
  refine ar_lconst (v := 0) C dX12_studios_48 (by decide) ?_
  refine ar_ldc2 C kcX12_77 dX12_studios_49 ?_
  refine cS1 (ar := [.long w.toInt64, .long 0, .long 2]) (st := []) C lkX12_69 (k_inI (wi M 96 0 0) w 0 2 _ _ (by decide) (by decide)) (by decide) rfl (Nat.le_of_ble_eq_true rfl) rfl dX12_studios_52 ?_
  refine ar_if_neB (tgt := 61) C dX12_studios_55 (by decide) (fun _ => ?_) (fun c_5 => False.elim (Bool.noConfusion (hw.symm.trans c_5)))
  refine ar_aload_n (n := 0) C dX12_studios_61 rfl rfl ?_
  refine ar_iload_n (n := 1) C dX12_studios_62 rfl rfl ?_
  refine ar_iload_n (n := 2) C dX12_studios_63 rfl rfl ?_
  refine ar_iload_n (n := 3) C dX12_studios_64 rfl rfl ?_
  refine ar_iload (n := 4) C dX12_studios_65 rfl ?_
  refine cV1 (ar := [.int (nI a), .int (nI s), .int (nI i), .int (nI n)]) (st := []) C lkX12_210 kd_96 (m_look_no (wi M 96 0 0) hs hin (nI a) hm hp hall) (by decide) rfl (Nat.le_of_ble_eq_true rfl) rfl dX12_studios_67 ?_
  refine ar_istore (als' := [(7, .int (-1000001)), (0, .ref 96), (1, .int (nI a)), (2, .int (nI s)), (3, .int (nI i)), (4, .int (nI n)), (5, .int e), (6, .int w)]) C dX12_studios_70 (by decide) rfl ?_
  refine ar_iload (n := 0) C dX12_studios_72 rfl ?_
  refine ar_if_ge (tgt := 80) C dX12_studios_74 (by decide) (fun c_6 => False.elim (absurd c_6 (by decide))) (fun _ => ?_)
  refine ar_iload (n := 0) C dX12_studios_77 rfl ?_
  exact ar_ireturn C rfl dX12_studios_79 ⟨rfl, rfl, rfl⟩
abbrev mS (M : Mm) (a : Nat) (b : Nat) (N : Nat) : Nat → Int32 := fun k => mfs (sd (M.1 99) (b + 4 * k)) (mH M a) (mX M a) (mY M a) (M.1 102) (M.1 103) (M.1 104) N
abbrev mSd (M : Mm) (a b N : Nat) (e : Int32) : Nat → Bool := fun k => allB (mdB (sd (M.1 99) (b + 4 * k)) (mH M a) (mX M a) (mY M a) (M.1 102) (M.1 103) (M.1 104) e) N
abbrev mNr (M : Mm) (a b : Nat) (e : Int32) (t : Nat) : Nat → Bool := fun k => nrB (sd (M.1 99) (b + 4 * k)) (mH M a) (mX M a) (mY M a) (M.1 102) (M.1 103) (M.1 104) e t
theorem st_all {M : Mm} {b : Nat} : ∀ n, allB (lkB M b) (4 * n) = allB (fun k => f_stand (M.1 99 (b + 4 * k)) (M.1 99 (b + 4 * k + 1)) (M.1 99 (b + 4 * k + 2)) (M.1 99 (b + 4 * k + 3))) n
  | 0 => rfl
  | n + 1 => by
    show allB (lkB M b) (4 * n + 1 + 1 + 1 + 1) = (_ && _)
    have h0 : lkB M b (4 * n) = f_in (M.1 99 (b + 4 * n)) (-1000) 1000 := if_neg (by omega)
    have h1 : lkB M b (4 * n + 1) = f_in (M.1 99 (b + 4 * n + 1)) (-1000) 1000 := if_neg (by omega)
    have h2 : lkB M b (4 * n + 1 + 1) = f_in (M.1 99 (b + 4 * n + 2)) (-1000) 1000 := if_neg (by omega)
    have h3 : lkB M b (4 * n + 1 + 1 + 1) = f_in (M.1 99 (b + 4 * n + 3)) 1 1000 := if_pos (by omega)
    rw [← st_all n]
    simp only [allB, f_stand]
    rw [h0, h1, h2, h3, Bool.and_assoc, Bool.and_assoc, Bool.and_assoc]
    simp only [Bool.and_assoc]
theorem all_at {P : Nat → Bool} {n : Nat} (h : allB P n = true) {k : Nat} (hk : k < n) : P k = true := by
  cases q : P k
  · rw [allB_no q n hk] at h; cases h
  · rfl
theorem SOK_of {M : Mm} {s i n k : Nat} (hs : s < 8) (hin : i + 4 * n ≤ 80) (hall : allB (lkB M (80 * s + i)) (4 * n) = true) (hk : k < n) : SOK M (80 * s + i + 4 * k) := by
  rw [st_all] at hall
  exact ⟨all_at hall hk, by omega⟩
set_option maxHeartbeats 4000000 in
set_option maxRecDepth 100000 in
theorem m_studio_ok_0 (M : Mm) {a s n k : Nat} (ha : a < 8) (hs : s < 8) (e : Int32) (hn : f_in (nI n) 1 20 = true) (hk : f_in (nI k) 0 (nI n - 1) = true) (he : f_in e 0 20 = true) (hkn : k < n) {i N : Nat} (hin : i + 4 * n ≤ 80) (hm : ¬ M.1 97 s < 0) (hp : ¬ (M.1 98 s).toInt64 < (nI i).toInt64 + (4 * nI n).toInt64) (hall : allB (lkB M (80 * s + i)) (4 * n) = true) (hT : TOK M N) : AQ mX12_studio 3 [.ref 96, .int (nI a), .int (nI s), .int (nI i), .int (nI n), .int (nI k), .int e, .int 0] M (some (.int (mS M a (80 * s + i) N k))) (PF (wi (wi M 96 0 0) 96 1 0)) := by
  refine AM_ofF (by decide +kernel) (Nat.le_of_ble_eq_true rfl) (fun X V C _ _ => ?_)
  show AW X V mX12_studio.2.2.1 T0 M 0 0 _ 0 [(0, .ref 96), (1, .int (nI a)), (2, .int (nI s)), (3, .int (nI i)), (4, .int (nI n)), (5, .int (nI k)), (6, .int e), (7, .int 0)] []
  refine ar_aload_n (n := 0) C dX12_studio_0 rfl rfl ?_
  refine ar_iconst (v := 0) C dX12_studio_1 (by decide) ?_
  refine ar_puti C flX12_59 kd_96 dX12_studio_2 ?_
  refine ar_iload_n (n := 1) C dX12_studio_5 rfl rfl ?_
  refine cS1 (ar := [.int (nI a)]) (st := []) C lkX12_140 (k_mTrace (wi M 96 0 0) (nI a)) (by decide) rfl (Nat.le_of_ble_eq_true rfl) rfl dX12_studio_6 ?_
  refine ar_if_eqB (tgt := 71) C dX12_studio_9 (by decide) (fun c_1 => False.elim (Bool.noConfusion ((in7 ha).symm.trans c_1))) (fun _ => ?_)
  refine ar_iload_n (n := 2) C dX12_studio_12 rfl rfl ?_
  refine cS1 (ar := [.int (nI s)]) (st := []) C lkX12_73 (k_mSheet (wi M 96 0 0) (nI s)) (by decide) rfl (Nat.le_of_ble_eq_true rfl) rfl dX12_studio_13 ?_
  refine ar_if_eqB (tgt := 71) C dX12_studio_16 (by decide) (fun c_2 => False.elim (Bool.noConfusion ((in7 hs).symm.trans c_2))) (fun _ => ?_)
  refine ar_iload (n := 4) C dX12_studio_19 rfl ?_
  refine ar_i2l C dX12_studio_21 ?_
  refine ar_lconst (v := 1) C dX12_studio_22 (by decide) ?_
  refine ar_ldc2 C kcX12_199 dX12_studio_23 ?_
  refine cS1 (ar := [.long ((nI n).toInt64), .long 1, .long 20]) (st := []) C lkX12_69 (k_inI (wi M 96 0 0) (nI n) 1 20 _ _ (by decide) (by decide)) (by decide) rfl (Nat.le_of_ble_eq_true rfl) rfl dX12_studio_26 ?_
  refine ar_if_eqB (tgt := 71) C dX12_studio_29 (by decide) (fun c_3 => False.elim (Bool.noConfusion (hn.symm.trans c_3))) (fun _ => ?_)
  refine ar_iload (n := 5) C dX12_studio_32 rfl ?_
  refine ar_i2l C dX12_studio_34 ?_
  refine ar_lconst (v := 0) C dX12_studio_35 (by decide) ?_
  refine ar_iload (n := 4) C dX12_studio_36 rfl ?_
  refine ar_iconst (v := 1) C dX12_studio_38 (by decide) ?_
  refine ar_isub C dX12_studio_39 ?_
  refine ar_i2l C dX12_studio_40 ?_
  refine cS1 (ar := [.long ((nI k).toInt64), .long 0, .long (((nI n) - 1).toInt64)]) (st := []) C lkX12_69 (k_inI (wi M 96 0 0) (nI k) 0 ((nI n) - 1) _ _ (by decide) rfl) (by decide) rfl (Nat.le_of_ble_eq_true rfl) rfl dX12_studio_41 ?_
  refine ar_if_eqB (tgt := 71) C dX12_studio_44 (by decide) (fun c_4 => False.elim (Bool.noConfusion (hk.symm.trans c_4))) (fun _ => ?_)
  refine ar_iload (n := 6) C dX12_studio_47 rfl ?_
  refine ar_i2l C dX12_studio_49 ?_
  refine ar_lconst (v := 0) C dX12_studio_50 (by decide) ?_
  refine ar_ldc2 C kcX12_199 dX12_studio_51 ?_
  refine cS1 (ar := [.long e.toInt64, .long 0, .long 20]) (st := []) C lkX12_69 (k_inI (wi M 96 0 0) e 0 20 _ _ (by decide) (by decide)) (by decide) rfl (Nat.le_of_ble_eq_true rfl) rfl dX12_studio_54 ?_
  refine ar_if_eqB (tgt := 71) C dX12_studio_57 (by decide) (fun c_5 => False.elim (Bool.noConfusion (he.symm.trans c_5))) (fun _ => ?_)
  refine ar_iload (n := 7) C dX12_studio_60 rfl ?_
  refine ar_i2l C dX12_studio_62 ?_
  refine ar_lconst (v := 0) C dX12_studio_63 (by decide) ?_
  refine ar_lconst (v := 1) C dX12_studio_64 (by decide) ?_
  refine cS1 (ar := [.long ((0 : Int32).toInt64), .long 0, .long 1]) (st := []) C lkX12_69 (k_inI (wi M 96 0 0) 0 0 1 _ _ (by decide) (by decide)) (by decide) rfl (Nat.le_of_ble_eq_true rfl) rfl dX12_studio_65 ?_
  refine ar_if_neB (tgt := 74) C dX12_studio_68 (by decide) (fun _ => ?_) (fun c_6 => False.elim (Bool.noConfusion ((show f_in 0 0 1 = true by decide).symm.trans c_6)))
  refine ar_aload_n (n := 0) C dX12_studio_74 rfl rfl ?_
  refine ar_iload_n (n := 1) C dX12_studio_75 rfl rfl ?_
  refine ar_iload_n (n := 2) C dX12_studio_76 rfl rfl ?_
  refine ar_iload_n (n := 3) C dX12_studio_77 rfl rfl ?_
  refine ar_iload (n := 4) C dX12_studio_78 rfl ?_
  refine cV1 (ar := [.int (nI a), .int (nI s), .int (nI i), .int (nI n)]) (st := []) C lkX12_210 kd_96 (m_look_ok (wi M 96 0 0) hs hin (nI a) hm hp hall) (by decide) rfl (Nat.le_of_ble_eq_true rfl) rfl dX12_studio_80 ?_
  refine ar_istore (als' := [(8, .int 0), (0, .ref 96), (1, .int (nI a)), (2, .int (nI s)), (3, .int (nI i)), (4, .int (nI n)), (5, .int (nI k)), (6, .int e), (7, .int 0)]) C dX12_studio_83 (by decide) rfl ?_
  refine ar_iload (n := 0) C dX12_studio_85 rfl ?_
  refine ar_if_ge (tgt := 93) C dX12_studio_87 (by decide) (fun _ => ?_) (fun c_7 => absurd c_7 (by decide))
  refine ar_bipush (v := 80) C dX12_studio_93 (by decide) ?_
  refine ar_iload_n (n := 3) C dX12_studio_95 rfl rfl ?_
  refine ar_imul C dX12_studio_96 ?_
  refine ar_iload_n (n := 4) C dX12_studio_97 rfl rfl ?_
  refine ar_iadd C dX12_studio_98 ?_
  refine ar_iconst (v := 4) C dX12_studio_99 (by decide) ?_
  refine ar_iload (n := 6) C dX12_studio_100 rfl ?_
  refine ar_imul C dX12_studio_102 ?_
  refine ar_iadd C dX12_studio_103 ?_
  refine ar_topi (nI (80 * s + i + 4 * k)) (ix80k s i k) ?_
  refine ar_istore (als' := [(9, .int (nI (80 * s + i + 4 * k))), (8, .int 0), (0, .ref 96), (1, .int (nI a)), (2, .int (nI s)), (3, .int (nI i)), (4, .int (nI n)), (5, .int (nI k)), (6, .int e), (7, .int 0)]) C dX12_studio_104 (by decide) rfl ?_
  refine ar_iload (n := 9) C dX12_studio_106 rfl ?_
  refine ar_if_ne (tgt := 121) C dX12_studio_108 (by decide) (fun c_8 => absurd c_8 (by decide)) (fun _ => ?_)
  refine ar_aload_n (n := 2) C dX12_studio_111 rfl rfl ?_
  refine ar_iload (n := 0) C dX12_studio_112 rfl ?_
  refine ar_iload_n (n := 3) C dX12_studio_114 rfl rfl ?_
  refine cV1q (ar := [.int (nI (80 * s + i + 4 * k)), .int (nI a)]) (st := []) C lkX12_214 kd_96 (m_misfitOf (wi (wi M 96 0 0) 96 1 0) (wi (wi M 96 0 0) 96 1 0) (PF_rf _) (at_ := 80 * s + i + 4 * k) (a := a) (SOK_of hs hin hall hkn) ha hT) (by decide) rfl (Nat.le_of_ble_eq_true rfl) rfl dX12_studio_115 (fun M_9 h_10 => ?_)
  refine ar_goto (tgt := 138) C dX12_studio_118 (by decide) ?_
  exact ar_ireturn C rfl dX12_studio_138 ⟨rfl, rfl, h_10⟩
set_option maxHeartbeats 4000000 in
set_option maxRecDepth 100000 in
theorem m_studio_ok_1 (M : Mm) {a s n k : Nat} (ha : a < 8) (hs : s < 8) (e : Int32) (hn : f_in (nI n) 1 20 = true) (hk : f_in (nI k) 0 (nI n - 1) = true) (he : f_in e 0 20 = true) (hkn : k < n) {i N : Nat} (hin : i + 4 * n ≤ 80) (hm : ¬ M.1 97 s < 0) (hp : ¬ (M.1 98 s).toInt64 < (nI i).toInt64 + (4 * nI n).toInt64) (hall : allB (lkB M (80 * s + i)) (4 * n) = true) (hT : TOK M N) : AQ mX12_studio 3 [.ref 96, .int (nI a), .int (nI s), .int (nI i), .int (nI n), .int (nI k), .int e, .int 1] M (some (.int (bI (mSd M a (80 * s + i) N e k)))) (PF (wi (wi M 96 0 0) 96 1 0)) := by
  refine AM_ofF (by decide +kernel) (Nat.le_of_ble_eq_true rfl) (fun X V C _ _ => ?_)
  show AW X V mX12_studio.2.2.1 T0 M 0 0 _ 0 [(0, .ref 96), (1, .int (nI a)), (2, .int (nI s)), (3, .int (nI i)), (4, .int (nI n)), (5, .int (nI k)), (6, .int e), (7, .int 1)] []
  refine ar_aload_n (n := 0) C dX12_studio_0 rfl rfl ?_
  refine ar_iconst (v := 0) C dX12_studio_1 (by decide) ?_
  refine ar_puti C flX12_59 kd_96 dX12_studio_2 ?_
  refine ar_iload_n (n := 1) C dX12_studio_5 rfl rfl ?_
  refine cS1 (ar := [.int (nI a)]) (st := []) C lkX12_140 (k_mTrace (wi M 96 0 0) (nI a)) (by decide) rfl (Nat.le_of_ble_eq_true rfl) rfl dX12_studio_6 ?_
  refine ar_if_eqB (tgt := 71) C dX12_studio_9 (by decide) (fun c_1 => False.elim (Bool.noConfusion ((in7 ha).symm.trans c_1))) (fun _ => ?_)
  refine ar_iload_n (n := 2) C dX12_studio_12 rfl rfl ?_
  refine cS1 (ar := [.int (nI s)]) (st := []) C lkX12_73 (k_mSheet (wi M 96 0 0) (nI s)) (by decide) rfl (Nat.le_of_ble_eq_true rfl) rfl dX12_studio_13 ?_
  refine ar_if_eqB (tgt := 71) C dX12_studio_16 (by decide) (fun c_2 => False.elim (Bool.noConfusion ((in7 hs).symm.trans c_2))) (fun _ => ?_)
  refine ar_iload (n := 4) C dX12_studio_19 rfl ?_
  refine ar_i2l C dX12_studio_21 ?_
  refine ar_lconst (v := 1) C dX12_studio_22 (by decide) ?_
  refine ar_ldc2 C kcX12_199 dX12_studio_23 ?_
  refine cS1 (ar := [.long ((nI n).toInt64), .long 1, .long 20]) (st := []) C lkX12_69 (k_inI (wi M 96 0 0) (nI n) 1 20 _ _ (by decide) (by decide)) (by decide) rfl (Nat.le_of_ble_eq_true rfl) rfl dX12_studio_26 ?_
  refine ar_if_eqB (tgt := 71) C dX12_studio_29 (by decide) (fun c_3 => False.elim (Bool.noConfusion (hn.symm.trans c_3))) (fun _ => ?_)
  refine ar_iload (n := 5) C dX12_studio_32 rfl ?_
  refine ar_i2l C dX12_studio_34 ?_
  refine ar_lconst (v := 0) C dX12_studio_35 (by decide) ?_
  refine ar_iload (n := 4) C dX12_studio_36 rfl ?_
  refine ar_iconst (v := 1) C dX12_studio_38 (by decide) ?_
  refine ar_isub C dX12_studio_39 ?_
  refine ar_i2l C dX12_studio_40 ?_
  refine cS1 (ar := [.long ((nI k).toInt64), .long 0, .long (((nI n) - 1).toInt64)]) (st := []) C lkX12_69 (k_inI (wi M 96 0 0) (nI k) 0 ((nI n) - 1) _ _ (by decide) rfl) (by decide) rfl (Nat.le_of_ble_eq_true rfl) rfl dX12_studio_41 ?_
  refine ar_if_eqB (tgt := 71) C dX12_studio_44 (by decide) (fun c_4 => False.elim (Bool.noConfusion (hk.symm.trans c_4))) (fun _ => ?_)
  refine ar_iload (n := 6) C dX12_studio_47 rfl ?_
  refine ar_i2l C dX12_studio_49 ?_
  refine ar_lconst (v := 0) C dX12_studio_50 (by decide) ?_
  refine ar_ldc2 C kcX12_199 dX12_studio_51 ?_
  refine cS1 (ar := [.long e.toInt64, .long 0, .long 20]) (st := []) C lkX12_69 (k_inI (wi M 96 0 0) e 0 20 _ _ (by decide) (by decide)) (by decide) rfl (Nat.le_of_ble_eq_true rfl) rfl dX12_studio_54 ?_
  refine ar_if_eqB (tgt := 71) C dX12_studio_57 (by decide) (fun c_5 => False.elim (Bool.noConfusion (he.symm.trans c_5))) (fun _ => ?_)
  refine ar_iload (n := 7) C dX12_studio_60 rfl ?_
  refine ar_i2l C dX12_studio_62 ?_
  refine ar_lconst (v := 0) C dX12_studio_63 (by decide) ?_
  refine ar_lconst (v := 1) C dX12_studio_64 (by decide) ?_
  refine cS1 (ar := [.long ((1 : Int32).toInt64), .long 0, .long 1]) (st := []) C lkX12_69 (k_inI (wi M 96 0 0) 1 0 1 _ _ (by decide) (by decide)) (by decide) rfl (Nat.le_of_ble_eq_true rfl) rfl dX12_studio_65 ?_
  refine ar_if_neB (tgt := 74) C dX12_studio_68 (by decide) (fun _ => ?_) (fun c_6 => False.elim (Bool.noConfusion ((show f_in 1 0 1 = true by decide).symm.trans c_6)))
  refine ar_aload_n (n := 0) C dX12_studio_74 rfl rfl ?_
  refine ar_iload_n (n := 1) C dX12_studio_75 rfl rfl ?_
  refine ar_iload_n (n := 2) C dX12_studio_76 rfl rfl ?_
  refine ar_iload_n (n := 3) C dX12_studio_77 rfl rfl ?_
  refine ar_iload (n := 4) C dX12_studio_78 rfl ?_
  refine cV1 (ar := [.int (nI a), .int (nI s), .int (nI i), .int (nI n)]) (st := []) C lkX12_210 kd_96 (m_look_ok (wi M 96 0 0) hs hin (nI a) hm hp hall) (by decide) rfl (Nat.le_of_ble_eq_true rfl) rfl dX12_studio_80 ?_
  refine ar_istore (als' := [(8, .int 0), (0, .ref 96), (1, .int (nI a)), (2, .int (nI s)), (3, .int (nI i)), (4, .int (nI n)), (5, .int (nI k)), (6, .int e), (7, .int 1)]) C dX12_studio_83 (by decide) rfl ?_
  refine ar_iload (n := 0) C dX12_studio_85 rfl ?_
  refine ar_if_ge (tgt := 93) C dX12_studio_87 (by decide) (fun _ => ?_) (fun c_7 => absurd c_7 (by decide))
  refine ar_bipush (v := 80) C dX12_studio_93 (by decide) ?_
  refine ar_iload_n (n := 3) C dX12_studio_95 rfl rfl ?_
  refine ar_imul C dX12_studio_96 ?_
  refine ar_iload_n (n := 4) C dX12_studio_97 rfl rfl ?_
  refine ar_iadd C dX12_studio_98 ?_
  refine ar_iconst (v := 4) C dX12_studio_99 (by decide) ?_
  refine ar_iload (n := 6) C dX12_studio_100 rfl ?_
  refine ar_imul C dX12_studio_102 ?_
  refine ar_iadd C dX12_studio_103 ?_
  refine ar_topi (nI (80 * s + i + 4 * k)) (ix80k s i k) ?_
  refine ar_istore (als' := [(9, .int (nI (80 * s + i + 4 * k))), (8, .int 0), (0, .ref 96), (1, .int (nI a)), (2, .int (nI s)), (3, .int (nI i)), (4, .int (nI n)), (5, .int (nI k)), (6, .int e), (7, .int 1)]) C dX12_studio_104 (by decide) rfl ?_
  refine ar_iload (n := 9) C dX12_studio_106 rfl ?_
  refine ar_if_ne (tgt := 121) C dX12_studio_108 (by decide) (fun _ => ?_) (fun c_8 => absurd c_8 (by decide))
  refine ar_aload_n (n := 2) C dX12_studio_121 rfl rfl ?_
  refine ar_iload (n := 0) C dX12_studio_122 rfl ?_
  refine ar_iload_n (n := 3) C dX12_studio_124 rfl rfl ?_
  refine ar_iload (n := 8) C dX12_studio_125 rfl ?_
  refine cV1q (ar := [.int (nI (80 * s + i + 4 * k)), .int (nI a), .int e]) (st := []) C lkX12_217 kd_96 (m_isMade (wi (wi M 96 0 0) 96 1 0) (wi (wi M 96 0 0) 96 1 0) (PF_rf _) (at_ := 80 * s + i + 4 * k) (a := a) (SOK_of hs hin hall hkn) ha hT e) (by decide) rfl (Nat.le_of_ble_eq_true rfl) rfl dX12_studio_127 (fun M_9 h_10 => ?_)
  refine ar_if_eqB (tgt := 137) C dX12_studio_130 (by decide) (fun c_11 => ?_) (fun c_11 => ?_)
  · refine ar_iconst (v := 0) C dX12_studio_137 (by decide) ?_
    exact ar_ireturn C rfl dX12_studio_138 ⟨by rw [show mSd M a (80 * s + i) N e k = false from c_11]; rfl, rfl, h_10⟩
  · refine ar_iconst (v := 1) C dX12_studio_133 (by decide) ?_
    refine ar_goto (tgt := 138) C dX12_studio_134 (by decide) ?_
    exact ar_ireturn C rfl dX12_studio_138 ⟨by rw [show mSd M a (80 * s + i) N e k = true from c_11]; rfl, rfl, h_10⟩
set_option maxHeartbeats 4000000 in
set_option maxRecDepth 100000 in
theorem m_studios_bad (M : Mm) (a s i n e w : Int32)  (hbad : (f_in a 0 7 && f_in s 0 7 && f_in n 1 20 && f_in e 0 20 && f_in w 0 2) = false) : AX mX12_studios 3 [.ref 96, .int a, .int s, .int i, .int n, .int e, .int w] M (some (.int (-1000001))) (wi M 96 0 0) := by
  refine AM_ofF (by decide +kernel) (Nat.le_of_ble_eq_true rfl) (fun X V C _ _ => ?_)
  show AW X V mX12_studios.2.2.1 T0 M 0 0 _ 0 [(0, .ref 96), (1, .int a), (2, .int s), (3, .int i), (4, .int n), (5, .int e), (6, .int w)] []
  refine ar_aload_n (n := 0) C dX12_studios_0 rfl rfl ?_
  refine ar_iconst (v := 0) C dX12_studios_1 (by decide) ?_
  refine ar_puti C flX12_59 kd_96 dX12_studios_2 ?_
  refine ar_iload_n (n := 1) C dX12_studios_5 rfl rfl ?_
  refine cS1 (ar := [.int a]) (st := []) C lkX12_140 (k_mTrace (wi M 96 0 0) a) (by decide) rfl (Nat.le_of_ble_eq_true rfl) rfl dX12_studios_6 ?_
  refine ar_if_eqB (tgt := 58) C dX12_studios_9 (by decide) (fun c_1 => ?_) (fun c_1 => ?_)
  · refine ar_ldc C kcX12_79 dX12_studios_58 ?_
    exact ar_ireturn C rfl dX12_studios_60 ⟨rfl, rfl, rfl⟩
  · refine ar_iload_n (n := 2) C dX12_studios_12 rfl rfl ?_
    refine cS1 (ar := [.int s]) (st := []) C lkX12_73 (k_mSheet (wi M 96 0 0) s) (by decide) rfl (Nat.le_of_ble_eq_true rfl) rfl dX12_studios_13 ?_
    refine ar_if_eqB (tgt := 58) C dX12_studios_16 (by decide) (fun c_2 => ?_) (fun c_2 => ?_)
    · refine ar_ldc C kcX12_79 dX12_studios_58 ?_
      exact ar_ireturn C rfl dX12_studios_60 ⟨rfl, rfl, rfl⟩
    · refine ar_iload (n := 4) C dX12_studios_19 rfl ?_
      refine ar_i2l C dX12_studios_21 ?_
      refine ar_lconst (v := 1) C dX12_studios_22 (by decide) ?_
      refine ar_ldc2 C kcX12_199 dX12_studios_23 ?_
      refine cS1 (ar := [.long n.toInt64, .long 1, .long 20]) (st := []) C lkX12_69 (k_inI (wi M 96 0 0) n 1 20 _ _ (by decide) (by decide)) (by decide) rfl (Nat.le_of_ble_eq_true rfl) rfl dX12_studios_26 ?_
      refine ar_if_eqB (tgt := 58) C dX12_studios_29 (by decide) (fun c_3 => ?_) (fun c_3 => ?_)
      · refine ar_ldc C kcX12_79 dX12_studios_58 ?_
        exact ar_ireturn C rfl dX12_studios_60 ⟨rfl, rfl, rfl⟩
      · refine ar_iload (n := 5) C dX12_studios_32 rfl ?_
        refine ar_i2l C dX12_studios_34 ?_
        refine ar_lconst (v := 0) C dX12_studios_35 (by decide) ?_
        refine ar_ldc2 C kcX12_199 dX12_studios_36 ?_
        refine cS1 (ar := [.long e.toInt64, .long 0, .long 20]) (st := []) C lkX12_69 (k_inI (wi M 96 0 0) e 0 20 _ _ (by decide) (by decide)) (by decide) rfl (Nat.le_of_ble_eq_true rfl) rfl dX12_studios_39 ?_
        refine ar_if_eqB (tgt := 58) C dX12_studios_42 (by decide) (fun c_4 => ?_) (fun c_4 => ?_)
        · refine ar_ldc C kcX12_79 dX12_studios_58 ?_
          exact ar_ireturn C rfl dX12_studios_60 ⟨rfl, rfl, rfl⟩
        · refine ar_iload (n := 6) C dX12_studios_45 rfl ?_
          refine ar_i2l C dX12_studios_47 ?_
          refine ar_lconst (v := 0) C dX12_studios_48 (by decide) ?_
          refine ar_ldc2 C kcX12_77 dX12_studios_49 ?_
          refine cS1 (ar := [.long w.toInt64, .long 0, .long 2]) (st := []) C lkX12_69 (k_inI (wi M 96 0 0) w 0 2 _ _ (by decide) (by decide)) (by decide) rfl (Nat.le_of_ble_eq_true rfl) rfl dX12_studios_52 ?_
          refine ar_if_neB (tgt := 61) C dX12_studios_55 (by decide) (fun c_5 => ?_) (fun c_5 => ?_)
          · exact absurd hbad (by first | (rw [c_1]; decide) | simp [*])
          · refine ar_ldc C kcX12_79 dX12_studios_58 ?_
            exact ar_ireturn C rfl dX12_studios_60 ⟨rfl, rfl, rfl⟩
theorem bst_y {m : Nat → Int32} {k : Nat} (h : ¬ m (bst m (k - 1)) ≤ m k) : k = bst m (k + 1 - 1) := by
  match k with
  | 0 => rfl
  | k + 1 => exact (if_neg h).symm
theorem bst_n {m : Nat → Int32} {k : Nat} (h : m (bst m (k - 1)) ≤ m k) : bst m (k - 1) = bst m (k + 1 - 1) := by
  match k with
  | 0 => rfl
  | k + 1 => exact (if_pos h).symm
set_option maxHeartbeats 4000000 in
set_option maxRecDepth 100000 in
theorem l_mst1 {X : Ctx} {V : Vx} {Q : State → Prop} (C : Cx X V mX12_studios 3) (M : Mm) {a s n : Nat} (ha : a < 8) (hs : s < 8) (e w : Int32) {i N : Nat} (hin : i + 4 * n ≤ 80) (hall : allB (lkB M (80 * s + i)) (4 * n) = true) (hT : TOK M N) (kk : ∀ M1, PF M M1 → AW X V mX12_studios.2.2.1 T0 M1 0 0 Q 173 [(11, .int (nI n)), (10, .int (nI (cntB (mSd M a (80 * s + i) N e) n))), (9, .int (nI (bst (mS M a (80 * s + i) N) (n - 1)))), (8, .int (nI (80 * s + i))), (0, .ref 96), (1, .int (nI a)), (4, .int (nI n)), (5, .int e), (6, .int w)] []) : ∀ (m : Nat) (k : Nat) (M1 : Mm), k ≤ n → PF M M1 → n - k < m → AW X V mX12_studios.2.2.1 T0 (M1) 0 0 Q 97 [(11, .int (nI k)), (10, .int (nI (cntB (mSd M a (80 * s + i) N e) k))), (9, .int (nI (bst (mS M a (80 * s + i) N) (k - 1)))), (8, .int (nI (80 * s + i))), (0, .ref 96), (1, .int (nI a)), (4, .int (nI n)), (5, .int e), (6, .int w)] [] := by
  intro m
  induction m with
  | zero => intro k M1 _ _ h; exact absurd h (Nat.not_lt_zero _)
  | succ m ih =>
    intro k M1 hk0 hF hmz
    refine ar_iload (n := 0) C dX12_studios_97 rfl ?_
    refine ar_iload (n := 6) C dX12_studios_99 rfl ?_
    refine ar_icmp_ge (tgt := 173) C dX12_studios_101 (by decide) (fun c_1 => ?_) (fun c_1 => ?_)
    · have hk : k = n := Nat.le_antisymm hk0 (nat_le c_1 (by omega) (by omega))
      subst hk
      exact kk M1 hF
    · have hk : k < n := nat_nle c_1 (by omega) (by omega)
      have hb : bst (mS M a (80 * s + i) N) (k - 1) < n := Nat.lt_of_le_of_lt (bst_le _ _) (by omega)
      refine ar_aload_n (n := 4) C dX12_studios_104 rfl rfl ?_
      refine ar_iload (n := 3) C dX12_studios_105 rfl ?_
      refine ar_iconst (v := 4) C dX12_studios_107 (by decide) ?_
      refine ar_iload (n := 0) C dX12_studios_108 rfl ?_
      refine ar_imul C dX12_studios_110 ?_
      refine ar_iadd C dX12_studios_111 ?_
      refine ar_topi (nI (80 * s + i + 4 * k)) (ix4k _ _) ?_
      refine ar_iload_n (n := 5) C dX12_studios_112 rfl rfl ?_
      refine cV1q (ar := [.int (nI (80 * s + i + 4 * k)), .int (nI a)]) (st := []) C lkX12_214 kd_96 (m_misfitOf M M1 hF (at_ := 80 * s + i + 4 * k) (a := a) (SOK_of hs hin hall hk) ha hT) (by decide) rfl (Nat.le_of_ble_eq_true rfl) rfl dX12_studios_113 (fun M_2 h_3 => ?_)
      refine ar_aload_n (n := 4) C dX12_studios_116 rfl rfl ?_
      refine ar_iload (n := 3) C dX12_studios_117 rfl ?_
      refine ar_iconst (v := 4) C dX12_studios_119 (by decide) ?_
      refine ar_iload (n := 2) C dX12_studios_120 rfl ?_
      refine ar_imul C dX12_studios_122 ?_
      refine ar_iadd C dX12_studios_123 ?_
      refine ar_topi (nI (80 * s + i + 4 * bst (mS M a (80 * s + i) N) (k - 1))) (ix4k _ _) ?_
      refine ar_iload_n (n := 5) C dX12_studios_124 rfl rfl ?_
      refine cV1q (ar := [.int (nI (80 * s + i + 4 * bst (mS M a (80 * s + i) N) (k - 1))), .int (nI a)]) (st := [.int (mS M a (80 * s + i) N k)]) C lkX12_214 kd_96 (m_misfitOf M M_2 h_3 (at_ := 80 * s + i + 4 * bst (mS M a (80 * s + i) N) (k - 1)) (a := a) (SOK_of hs hin hall hb) ha hT) (by decide) rfl (Nat.le_of_ble_eq_true rfl) rfl dX12_studios_125 (fun M_4 h_5 => ?_)
      refine ar_icmp_ge (tgt := 136) C dX12_studios_128 (by decide) (fun c_6 => ?_) (fun c_6 => ?_)
      · refine ar_iload (n := 2) C dX12_studios_136 rfl ?_
        refine ar_topi (nI (bst (mS M a (80 * s + i) N) (k + 1 - 1))) (by rw [← bst_n (m := (mS M a (80 * s + i) N)) c_6]) ?_
        refine ar_istore (als' := [(9, .int (nI (bst (mS M a (80 * s + i) N) (k + 1 - 1)))), (11, .int (nI k)), (10, .int (nI (cntB (mSd M a (80 * s + i) N e) k))), (8, .int (nI (80 * s + i))), (0, .ref 96), (1, .int (nI a)), (4, .int (nI n)), (5, .int e), (6, .int w)]) C dX12_studios_138 (by decide) rfl ?_
        refine ar_iload (n := 2) C dX12_studios_140 rfl ?_
        refine ar_aload_n (n := 4) C dX12_studios_142 rfl rfl ?_
        refine ar_iload (n := 3) C dX12_studios_143 rfl ?_
        refine ar_iconst (v := 4) C dX12_studios_145 (by decide) ?_
        refine ar_iload (n := 1) C dX12_studios_146 rfl ?_
        refine ar_imul C dX12_studios_148 ?_
        refine ar_iadd C dX12_studios_149 ?_
        refine ar_topi (nI (80 * s + i + 4 * k)) (ix4k _ _) ?_
        refine ar_iload_n (n := 5) C dX12_studios_150 rfl rfl ?_
        refine ar_iload (n := 7) C dX12_studios_151 rfl ?_
        refine cV1q (ar := [.int (nI (80 * s + i + 4 * k)), .int (nI a), .int e]) (st := [.int (nI (cntB (mSd M a (80 * s + i) N e) k))]) C lkX12_217 kd_96 (m_isMade M M_4 h_5 (at_ := 80 * s + i + 4 * k) (a := a) (SOK_of hs hin hall hk) ha hT e) (by decide) rfl (Nat.le_of_ble_eq_true rfl) rfl dX12_studios_153 (fun M_7 h_8 => ?_)
        refine ar_if_eqB (tgt := 163) C dX12_studios_156 (by decide) (fun c_9 => ?_) (fun c_9 => ?_)
        · refine ar_iconst (v := 0) C dX12_studios_163 (by decide) ?_
          refine ar_iadd C dX12_studios_164 ?_
          refine ar_topi (nI (cntB (mSd M a (80 * s + i) N e) (k + 1))) (cn_n (P := (mSd M a (80 * s + i) N e)) c_9) ?_
          refine ar_istore (als' := [(10, .int (nI (cntB (mSd M a (80 * s + i) N e) (k + 1)))), (9, .int (nI (bst (mS M a (80 * s + i) N) (k + 1 - 1)))), (11, .int (nI k)), (8, .int (nI (80 * s + i))), (0, .ref 96), (1, .int (nI a)), (4, .int (nI n)), (5, .int e), (6, .int w)]) C dX12_studios_165 (by decide) rfl ?_
          refine ar_iinc (n := 2) (v := (nI (k + 1))) (als' := [(11, .int (nI (k + 1))), (10, .int (nI (cntB (mSd M a (80 * s + i) N e) (k + 1)))), (9, .int (nI (bst (mS M a (80 * s + i) N) (k + 1 - 1)))), (8, .int (nI (80 * s + i))), (0, .ref 96), (1, .int (nI a)), (4, .int (nI n)), (5, .int e), (6, .int w)]) C dX12_studios_167 rfl (nI_1 _) (by decide) rfl ?_
          refine ar_goto (tgt := 97) C dX12_studios_170 (by decide) ?_
          exact ih (k + 1) M_7 (by omega) h_8 (by omega)
        · refine ar_iconst (v := 1) C dX12_studios_159 (by decide) ?_
          refine ar_goto (tgt := 164) C dX12_studios_160 (by decide) ?_
          refine ar_iadd C dX12_studios_164 ?_
          refine ar_topi (nI (cntB (mSd M a (80 * s + i) N e) (k + 1))) (cn_y (P := (mSd M a (80 * s + i) N e)) c_9) ?_
          refine ar_istore (als' := [(10, .int (nI (cntB (mSd M a (80 * s + i) N e) (k + 1)))), (9, .int (nI (bst (mS M a (80 * s + i) N) (k + 1 - 1)))), (11, .int (nI k)), (8, .int (nI (80 * s + i))), (0, .ref 96), (1, .int (nI a)), (4, .int (nI n)), (5, .int e), (6, .int w)]) C dX12_studios_165 (by decide) rfl ?_
          refine ar_iinc (n := 2) (v := (nI (k + 1))) (als' := [(11, .int (nI (k + 1))), (10, .int (nI (cntB (mSd M a (80 * s + i) N e) (k + 1)))), (9, .int (nI (bst (mS M a (80 * s + i) N) (k + 1 - 1)))), (8, .int (nI (80 * s + i))), (0, .ref 96), (1, .int (nI a)), (4, .int (nI n)), (5, .int e), (6, .int w)]) C dX12_studios_167 rfl (nI_1 _) (by decide) rfl ?_
          refine ar_goto (tgt := 97) C dX12_studios_170 (by decide) ?_
          exact ih (k + 1) M_7 (by omega) h_8 (by omega)
      · refine ar_iload (n := 0) C dX12_studios_131 rfl ?_
        refine ar_goto (tgt := 138) C dX12_studios_133 (by decide) ?_
        refine ar_topi (nI (bst (mS M a (80 * s + i) N) (k + 1 - 1))) (by rw [← bst_y (m := (mS M a (80 * s + i) N)) c_6]) ?_
        refine ar_istore (als' := [(9, .int (nI (bst (mS M a (80 * s + i) N) (k + 1 - 1)))), (11, .int (nI k)), (10, .int (nI (cntB (mSd M a (80 * s + i) N e) k))), (8, .int (nI (80 * s + i))), (0, .ref 96), (1, .int (nI a)), (4, .int (nI n)), (5, .int e), (6, .int w)]) C dX12_studios_138 (by decide) rfl ?_
        refine ar_iload (n := 2) C dX12_studios_140 rfl ?_
        refine ar_aload_n (n := 4) C dX12_studios_142 rfl rfl ?_
        refine ar_iload (n := 3) C dX12_studios_143 rfl ?_
        refine ar_iconst (v := 4) C dX12_studios_145 (by decide) ?_
        refine ar_iload (n := 1) C dX12_studios_146 rfl ?_
        refine ar_imul C dX12_studios_148 ?_
        refine ar_iadd C dX12_studios_149 ?_
        refine ar_topi (nI (80 * s + i + 4 * k)) (ix4k _ _) ?_
        refine ar_iload_n (n := 5) C dX12_studios_150 rfl rfl ?_
        refine ar_iload (n := 7) C dX12_studios_151 rfl ?_
        refine cV1q (ar := [.int (nI (80 * s + i + 4 * k)), .int (nI a), .int e]) (st := [.int (nI (cntB (mSd M a (80 * s + i) N e) k))]) C lkX12_217 kd_96 (m_isMade M M_4 h_5 (at_ := 80 * s + i + 4 * k) (a := a) (SOK_of hs hin hall hk) ha hT e) (by decide) rfl (Nat.le_of_ble_eq_true rfl) rfl dX12_studios_153 (fun M_10 h_11 => ?_)
        refine ar_if_eqB (tgt := 163) C dX12_studios_156 (by decide) (fun c_12 => ?_) (fun c_12 => ?_)
        · refine ar_iconst (v := 0) C dX12_studios_163 (by decide) ?_
          refine ar_iadd C dX12_studios_164 ?_
          refine ar_topi (nI (cntB (mSd M a (80 * s + i) N e) (k + 1))) (cn_n (P := (mSd M a (80 * s + i) N e)) c_12) ?_
          refine ar_istore (als' := [(10, .int (nI (cntB (mSd M a (80 * s + i) N e) (k + 1)))), (9, .int (nI (bst (mS M a (80 * s + i) N) (k + 1 - 1)))), (11, .int (nI k)), (8, .int (nI (80 * s + i))), (0, .ref 96), (1, .int (nI a)), (4, .int (nI n)), (5, .int e), (6, .int w)]) C dX12_studios_165 (by decide) rfl ?_
          refine ar_iinc (n := 2) (v := (nI (k + 1))) (als' := [(11, .int (nI (k + 1))), (10, .int (nI (cntB (mSd M a (80 * s + i) N e) (k + 1)))), (9, .int (nI (bst (mS M a (80 * s + i) N) (k + 1 - 1)))), (8, .int (nI (80 * s + i))), (0, .ref 96), (1, .int (nI a)), (4, .int (nI n)), (5, .int e), (6, .int w)]) C dX12_studios_167 rfl (nI_1 _) (by decide) rfl ?_
          refine ar_goto (tgt := 97) C dX12_studios_170 (by decide) ?_
          exact ih (k + 1) M_10 (by omega) h_11 (by omega)
        · refine ar_iconst (v := 1) C dX12_studios_159 (by decide) ?_
          refine ar_goto (tgt := 164) C dX12_studios_160 (by decide) ?_
          refine ar_iadd C dX12_studios_164 ?_
          refine ar_topi (nI (cntB (mSd M a (80 * s + i) N e) (k + 1))) (cn_y (P := (mSd M a (80 * s + i) N e)) c_12) ?_
          refine ar_istore (als' := [(10, .int (nI (cntB (mSd M a (80 * s + i) N e) (k + 1)))), (9, .int (nI (bst (mS M a (80 * s + i) N) (k + 1 - 1)))), (11, .int (nI k)), (8, .int (nI (80 * s + i))), (0, .ref 96), (1, .int (nI a)), (4, .int (nI n)), (5, .int e), (6, .int w)]) C dX12_studios_165 (by decide) rfl ?_
          refine ar_iinc (n := 2) (v := (nI (k + 1))) (als' := [(11, .int (nI (k + 1))), (10, .int (nI (cntB (mSd M a (80 * s + i) N e) (k + 1)))), (9, .int (nI (bst (mS M a (80 * s + i) N) (k + 1 - 1)))), (8, .int (nI (80 * s + i))), (0, .ref 96), (1, .int (nI a)), (4, .int (nI n)), (5, .int e), (6, .int w)]) C dX12_studios_167 rfl (nI_1 _) (by decide) rfl ?_
          refine ar_goto (tgt := 97) C dX12_studios_170 (by decide) ?_
          exact ih (k + 1) M_10 (by omega) h_11 (by omega)
theorem so_1 {p : Bool} {P : Nat → Bool} {k : Nat} (c : (p || !(allB P k)) = true) : (1 : Int32) = bI (p || !(allB P (k + 1))) := by
  rw [show allB P (k + 1) = (allB P k && P k) from rfl]
  cases p
  · rw [show allB P k = false by simpa using c]; rfl
  · rfl
theorem so_2 {p : Bool} {P : Nat → Bool} {k : Nat} (c : P k = false) : (1 : Int32) = bI (p || !(allB P (k + 1))) := by
  rw [show allB P (k + 1) = (allB P k && P k) from rfl, c, Bool.and_false]
  cases p <;> rfl
theorem so_3 {p : Bool} {P : Nat → Bool} {k : Nat} (c : (p || !(allB P k)) = false) (c2 : P k = true) : (0 : Int32) = bI (p || !(allB P (k + 1))) := by
  rw [show allB P (k + 1) = (allB P k && P k) from rfl, c2, Bool.and_true, c]; rfl
set_option maxHeartbeats 4000000 in
set_option maxRecDepth 100000 in
theorem l_mst3 {X : Ctx} {V : Vx} {Q : State → Prop} (C : Cx X V mX12_studios 3) (M : Mm) {a s n : Nat} (ha : a < 8) (hs : s < 8) (e w mv bv : Int32) {i N : Nat} (hin : i + 4 * n ≤ 80) (hall : allB (lkB M (80 * s + i)) (4 * n) = true) (hT : TOK M N) {t : Nat} (hjN : t < N) (kk : ∀ M1, PF M M1 → AW X V mX12_studios.2.2.1 T0 M1 0 0 Q 273 [(14, .int (nI n)), (13, .int (bI (decide (mH M a t = 0) || !(allB (fun k => !(mNr M a (80 * s + i) e t k)) n)))), (12, .int (nI t)), (11, .int (nI (cntB (fun t => !decide (mH M a t = 0) && allB (fun k => !(mNr M a (80 * s + i) e t k)) n) t))), (10, .int mv), (9, .int bv), (8, .int (nI (80 * s + i))), (0, .ref 96), (1, .int (nI a)), (4, .int (nI n)), (5, .int e), (6, .int w)] []) : ∀ (m : Nat) (k : Nat) (M1 : Mm), k ≤ n → PF M M1 → n - k < m → AW X V mX12_studios.2.2.1 T0 (M1) 0 0 Q 213 [(14, .int (nI k)), (13, .int (bI (decide (mH M a t = 0) || !(allB (fun k => !(mNr M a (80 * s + i) e t k)) k)))), (12, .int (nI t)), (11, .int (nI (cntB (fun t => !decide (mH M a t = 0) && allB (fun k => !(mNr M a (80 * s + i) e t k)) n) t))), (10, .int mv), (9, .int bv), (8, .int (nI (80 * s + i))), (0, .ref 96), (1, .int (nI a)), (4, .int (nI n)), (5, .int e), (6, .int w)] [] := by
  intro m
  induction m with
  | zero => intro k M1 _ _ h; exact absurd h (Nat.not_lt_zero _)
  | succ m ih =>
    intro k M1 hk0 hF hmz
    refine ar_iload (n := 0) C dX12_studios_213 rfl ?_
    refine ar_iload (n := 9) C dX12_studios_215 rfl ?_
    refine ar_icmp_ge (tgt := 273) C dX12_studios_217 (by decide) (fun c_1 => ?_) (fun c_1 => ?_)
    · have hk : k = n := Nat.le_antisymm hk0 (nat_le c_1 (by omega) (by omega))
      subst hk
      exact kk M1 hF
    · have hk : k < n := nat_nle c_1 (by omega) (by omega)
      refine ar_iload (n := 1) C dX12_studios_220 rfl ?_
      refine ar_if_neB (tgt := 260) C dX12_studios_222 (by decide) (fun c_2 => ?_) (fun c_2 => ?_)
      · refine ar_iconst (v := 1) C dX12_studios_260 (by decide) ?_
        refine ar_goto (tgt := 265) C dX12_studios_261 (by decide) ?_
        refine ar_topi (bI (decide (mH M a t = 0) || !(allB (fun k => !(mNr M a (80 * s + i) e t k)) (k + 1)))) (so_1 (P := (fun k => !(mNr M a (80 * s + i) e t k))) (k := k) c_2) ?_
        refine ar_istore (als' := [(13, .int (bI (decide (mH M a t = 0) || !(allB (fun k => !(mNr M a (80 * s + i) e t k)) (k + 1))))), (14, .int (nI k)), (12, .int (nI t)), (11, .int (nI (cntB (fun t => !decide (mH M a t = 0) && allB (fun k => !(mNr M a (80 * s + i) e t k)) n) t))), (10, .int mv), (9, .int bv), (8, .int (nI (80 * s + i))), (0, .ref 96), (1, .int (nI a)), (4, .int (nI n)), (5, .int e), (6, .int w)]) C dX12_studios_265 (by decide) rfl ?_
        refine ar_iinc (n := 1) (v := (nI (k + 1))) (als' := [(14, .int (nI (k + 1))), (13, .int (bI (decide (mH M a t = 0) || !(allB (fun k => !(mNr M a (80 * s + i) e t k)) (k + 1))))), (12, .int (nI t)), (11, .int (nI (cntB (fun t => !decide (mH M a t = 0) && allB (fun k => !(mNr M a (80 * s + i) e t k)) n) t))), (10, .int mv), (9, .int bv), (8, .int (nI (80 * s + i))), (0, .ref 96), (1, .int (nI a)), (4, .int (nI n)), (5, .int e), (6, .int w)]) C dX12_studios_267 rfl (nI_1 _) (by decide) rfl ?_
        refine ar_goto (tgt := 213) C dX12_studios_270 (by decide) ?_
        exact ih (k + 1) M1 (by omega) hF (by omega)
      · refine ar_aload_n (n := 7) C dX12_studios_225 rfl rfl ?_
        refine ar_iload (n := 6) C dX12_studios_226 rfl ?_
        refine ar_iconst (v := 4) C dX12_studios_228 (by decide) ?_
        refine ar_iload (n := 0) C dX12_studios_229 rfl ?_
        refine ar_imul C dX12_studios_231 ?_
        refine ar_iadd C dX12_studios_232 ?_
        refine ar_topi (nI (80 * s + i + 4 * k)) (ix4k _ _) ?_
        refine ar_iload_n (n := 8) C dX12_studios_233 rfl rfl ?_
        refine ar_iload (n := 2) C dX12_studios_234 rfl ?_
        refine cV1q (ar := [.int (nI (80 * s + i + 4 * k)), .int (nI a), .int (nI t)]) (st := []) C lkX12_207 kd_96 (m_puts M M1 hF (at_ := (80 * s + i + 4 * k)) (a := a) (t := t) (SOK_of hs hin hall hk) ha hT hjN) (by decide) rfl (Nat.le_of_ble_eq_true rfl) rfl dX12_studios_236 (fun M_3 h_4 => ?_)
        refine ar_if_eqB (tgt := 264) C dX12_studios_239 (by decide) (fun c_5 => ?_) (fun c_5 => ?_)
        · refine ar_iconst (v := 0) C dX12_studios_264 (by decide) ?_
          refine ar_topi (bI (decide (mH M a t = 0) || !(allB (fun k => !(mNr M a (80 * s + i) e t k)) (k + 1)))) (so_3 (P := (fun k => !(mNr M a (80 * s + i) e t k))) (k := k) c_2 (by show (!(!decide (M.1 104 t ≤ M.1 99 ((80 * s + i + 4 * k) + 2)) && !decide (e < fX M (80 * s + i + 4 * k) a t) && !decide (e < fY M (80 * s + i + 4 * k) a t))) = _; rw [c_5]; rfl)) ?_
          refine ar_istore (als' := [(13, .int (bI (decide (mH M a t = 0) || !(allB (fun k => !(mNr M a (80 * s + i) e t k)) (k + 1))))), (14, .int (nI k)), (12, .int (nI t)), (11, .int (nI (cntB (fun t => !decide (mH M a t = 0) && allB (fun k => !(mNr M a (80 * s + i) e t k)) n) t))), (10, .int mv), (9, .int bv), (8, .int (nI (80 * s + i))), (0, .ref 96), (1, .int (nI a)), (4, .int (nI n)), (5, .int e), (6, .int w)]) C dX12_studios_265 (by decide) rfl ?_
          refine ar_iinc (n := 1) (v := (nI (k + 1))) (als' := [(14, .int (nI (k + 1))), (13, .int (bI (decide (mH M a t = 0) || !(allB (fun k => !(mNr M a (80 * s + i) e t k)) (k + 1))))), (12, .int (nI t)), (11, .int (nI (cntB (fun t => !decide (mH M a t = 0) && allB (fun k => !(mNr M a (80 * s + i) e t k)) n) t))), (10, .int mv), (9, .int bv), (8, .int (nI (80 * s + i))), (0, .ref 96), (1, .int (nI a)), (4, .int (nI n)), (5, .int e), (6, .int w)]) C dX12_studios_267 rfl (nI_1 _) (by decide) rfl ?_
          refine ar_goto (tgt := 213) C dX12_studios_270 (by decide) ?_
          exact ih (k + 1) M_3 (by omega) h_4.2 (by omega)
        · refine ar_aload_n (n := 7) C dX12_studios_242 rfl rfl ?_
          refine ar_geti C flX12_201 kd_96 dX12_studios_243 ?_
          refine ar_topi (fX M (80 * s + i + 4 * k) a t) (h_4.1 (show ¬ M.1 104 t ≤ M.1 99 ((80 * s + i + 4 * k) + 2) from by simpa using c_5)).1 ?_
          refine ar_iload (n := 10) C dX12_studios_246 rfl ?_
          refine ar_icmp_gt (tgt := 264) C dX12_studios_248 (by decide) (fun c_6 => ?_) (fun c_6 => ?_)
          · refine ar_iconst (v := 0) C dX12_studios_264 (by decide) ?_
            refine ar_topi (bI (decide (mH M a t = 0) || !(allB (fun k => !(mNr M a (80 * s + i) e t k)) (k + 1)))) (so_3 (P := (fun k => !(mNr M a (80 * s + i) e t k))) (k := k) c_2 (by show (!(!decide (M.1 104 t ≤ M.1 99 ((80 * s + i + 4 * k) + 2)) && !decide (e < fX M (80 * s + i + 4 * k) a t) && !decide (e < fY M (80 * s + i + 4 * k) a t))) = _; rw [c_5, decide_eq_true c_6]; rfl)) ?_
            refine ar_istore (als' := [(13, .int (bI (decide (mH M a t = 0) || !(allB (fun k => !(mNr M a (80 * s + i) e t k)) (k + 1))))), (14, .int (nI k)), (12, .int (nI t)), (11, .int (nI (cntB (fun t => !decide (mH M a t = 0) && allB (fun k => !(mNr M a (80 * s + i) e t k)) n) t))), (10, .int mv), (9, .int bv), (8, .int (nI (80 * s + i))), (0, .ref 96), (1, .int (nI a)), (4, .int (nI n)), (5, .int e), (6, .int w)]) C dX12_studios_265 (by decide) rfl ?_
            refine ar_iinc (n := 1) (v := (nI (k + 1))) (als' := [(14, .int (nI (k + 1))), (13, .int (bI (decide (mH M a t = 0) || !(allB (fun k => !(mNr M a (80 * s + i) e t k)) (k + 1))))), (12, .int (nI t)), (11, .int (nI (cntB (fun t => !decide (mH M a t = 0) && allB (fun k => !(mNr M a (80 * s + i) e t k)) n) t))), (10, .int mv), (9, .int bv), (8, .int (nI (80 * s + i))), (0, .ref 96), (1, .int (nI a)), (4, .int (nI n)), (5, .int e), (6, .int w)]) C dX12_studios_267 rfl (nI_1 _) (by decide) rfl ?_
            refine ar_goto (tgt := 213) C dX12_studios_270 (by decide) ?_
            exact ih (k + 1) M_3 (by omega) h_4.2 (by omega)
          · refine ar_aload_n (n := 7) C dX12_studios_251 rfl rfl ?_
            refine ar_geti C flX12_204 kd_96 dX12_studios_252 ?_
            refine ar_topi (fY M (80 * s + i + 4 * k) a t) (h_4.1 (show ¬ M.1 104 t ≤ M.1 99 ((80 * s + i + 4 * k) + 2) from by simpa using c_5)).2 ?_
            refine ar_iload (n := 10) C dX12_studios_255 rfl ?_
            refine ar_icmp_gt (tgt := 264) C dX12_studios_257 (by decide) (fun c_7 => ?_) (fun c_7 => ?_)
            · refine ar_iconst (v := 0) C dX12_studios_264 (by decide) ?_
              refine ar_topi (bI (decide (mH M a t = 0) || !(allB (fun k => !(mNr M a (80 * s + i) e t k)) (k + 1)))) (so_3 (P := (fun k => !(mNr M a (80 * s + i) e t k))) (k := k) c_2 (by show (!(!decide (M.1 104 t ≤ M.1 99 ((80 * s + i + 4 * k) + 2)) && !decide (e < fX M (80 * s + i + 4 * k) a t) && !decide (e < fY M (80 * s + i + 4 * k) a t))) = _; rw [c_5, decide_eq_false c_6, decide_eq_true c_7]; rfl)) ?_
              refine ar_istore (als' := [(13, .int (bI (decide (mH M a t = 0) || !(allB (fun k => !(mNr M a (80 * s + i) e t k)) (k + 1))))), (14, .int (nI k)), (12, .int (nI t)), (11, .int (nI (cntB (fun t => !decide (mH M a t = 0) && allB (fun k => !(mNr M a (80 * s + i) e t k)) n) t))), (10, .int mv), (9, .int bv), (8, .int (nI (80 * s + i))), (0, .ref 96), (1, .int (nI a)), (4, .int (nI n)), (5, .int e), (6, .int w)]) C dX12_studios_265 (by decide) rfl ?_
              refine ar_iinc (n := 1) (v := (nI (k + 1))) (als' := [(14, .int (nI (k + 1))), (13, .int (bI (decide (mH M a t = 0) || !(allB (fun k => !(mNr M a (80 * s + i) e t k)) (k + 1))))), (12, .int (nI t)), (11, .int (nI (cntB (fun t => !decide (mH M a t = 0) && allB (fun k => !(mNr M a (80 * s + i) e t k)) n) t))), (10, .int mv), (9, .int bv), (8, .int (nI (80 * s + i))), (0, .ref 96), (1, .int (nI a)), (4, .int (nI n)), (5, .int e), (6, .int w)]) C dX12_studios_267 rfl (nI_1 _) (by decide) rfl ?_
              refine ar_goto (tgt := 213) C dX12_studios_270 (by decide) ?_
              exact ih (k + 1) M_3 (by omega) h_4.2 (by omega)
            · refine ar_iconst (v := 1) C dX12_studios_260 (by decide) ?_
              refine ar_goto (tgt := 265) C dX12_studios_261 (by decide) ?_
              refine ar_topi (bI (decide (mH M a t = 0) || !(allB (fun k => !(mNr M a (80 * s + i) e t k)) (k + 1)))) (so_2 (P := (fun k => !(mNr M a (80 * s + i) e t k))) (k := k) (by show (!(!decide (M.1 104 t ≤ M.1 99 ((80 * s + i + 4 * k) + 2)) && !decide (e < fX M (80 * s + i + 4 * k) a t) && !decide (e < fY M (80 * s + i + 4 * k) a t))) = _; rw [c_5, decide_eq_false c_6, decide_eq_false c_7]; rfl)) ?_
              refine ar_istore (als' := [(13, .int (bI (decide (mH M a t = 0) || !(allB (fun k => !(mNr M a (80 * s + i) e t k)) (k + 1))))), (14, .int (nI k)), (12, .int (nI t)), (11, .int (nI (cntB (fun t => !decide (mH M a t = 0) && allB (fun k => !(mNr M a (80 * s + i) e t k)) n) t))), (10, .int mv), (9, .int bv), (8, .int (nI (80 * s + i))), (0, .ref 96), (1, .int (nI a)), (4, .int (nI n)), (5, .int e), (6, .int w)]) C dX12_studios_265 (by decide) rfl ?_
              refine ar_iinc (n := 1) (v := (nI (k + 1))) (als' := [(14, .int (nI (k + 1))), (13, .int (bI (decide (mH M a t = 0) || !(allB (fun k => !(mNr M a (80 * s + i) e t k)) (k + 1))))), (12, .int (nI t)), (11, .int (nI (cntB (fun t => !decide (mH M a t = 0) && allB (fun k => !(mNr M a (80 * s + i) e t k)) n) t))), (10, .int mv), (9, .int bv), (8, .int (nI (80 * s + i))), (0, .ref 96), (1, .int (nI a)), (4, .int (nI n)), (5, .int e), (6, .int w)]) C dX12_studios_267 rfl (nI_1 _) (by decide) rfl ?_
              refine ar_goto (tgt := 213) C dX12_studios_270 (by decide) ?_
              exact ih (k + 1) M_3 (by omega) h_4.2 (by omega)
set_option maxHeartbeats 4000000 in
set_option maxRecDepth 100000 in
theorem l_mst2 {X : Ctx} {V : Vx} {Q : State → Prop} (C : Cx X V mX12_studios 3) (M : Mm) {a s n : Nat} (ha : a < 8) (hs : s < 8) (e w mv bv : Int32) {i N : Nat} (hin : i + 4 * n ≤ 80) (hall : allB (lkB M (80 * s + i)) (4 * n) = true) (hT : TOK M N) (kk : ∀ M1, PF M M1 → AW X V mX12_studios.2.2.1 T0 M1 0 0 Q 294 [(12, .int (nI N)), (11, .int (nI (cntB (fun t => !decide (mH M a t = 0) && allB (fun k => !(mNr M a (80 * s + i) e t k)) n) N))), (10, .int mv), (9, .int bv), (8, .int (nI (80 * s + i))), (0, .ref 96), (1, .int (nI a)), (4, .int (nI n)), (5, .int e), (6, .int w)] []) : ∀ (m : Nat) (t : Nat) (M1 : Mm), t ≤ N → PF M M1 → N - t < m → AW X V mX12_studios.2.2.1 T0 (M1) 0 0 Q 179 [(12, .int (nI t)), (11, .int (nI (cntB (fun t => !decide (mH M a t = 0) && allB (fun k => !(mNr M a (80 * s + i) e t k)) n) t))), (10, .int mv), (9, .int bv), (8, .int (nI (80 * s + i))), (0, .ref 96), (1, .int (nI a)), (4, .int (nI n)), (5, .int e), (6, .int w)] [] := by
  intro m
  induction m with
  | zero => intro t M1 _ _ h; exact absurd h (Nat.not_lt_zero _)
  | succ m ih =>
    intro t M1 hk0 hF hmz
    have hN24 := hT.2.1
    refine ar_iload (n := 0) C dX12_studios_179 rfl ?_
    refine ar_aload_n (n := 5) C dX12_studios_181 rfl rfl ?_
    refine ar_geti C flX12_102 kd_96 dX12_studios_182 ?_
    refine ar_topi (nI N) ((hF.1 7 (by decide) (by decide)).trans hT.1) ?_
    refine ar_icmp_ge (tgt := 294) C dX12_studios_185 (by decide) (fun c_1 => ?_) (fun c_1 => ?_)
    · have hN24 := hT.2.1
      have hk : t = N := Nat.le_antisymm hk0 (nat_le c_1 (by omega) (by omega))
      subst hk
      exact kk M1 hF
    · have hN24 := hT.2.1
      have hjN : t < N := nat_nle c_1 (by omega) (by omega)
      have ht : t < 24 := by omega
      refine ar_aload_n (n := 5) C dX12_studios_188 rfl rfl ?_
      refine ar_getr C flX12_34 rfl kd_96 rf_96_11 dX12_studios_189 ?_
      refine ar_bipush (v := 24) C dX12_studios_192 (by decide) ?_
      refine ar_iload_n (n := 6) C dX12_studios_194 rfl rfl ?_
      refine ar_imul C dX12_studios_195 ?_
      refine ar_iload (n := 0) C dX12_studios_196 rfl ?_
      refine ar_iadd C dX12_studios_198 ?_
      refine ar_zald (j := 24 * a + t) C kd_105 (ix24 a t) (by omega) dX12_studios_199 ?_
      refine ar_topi (mH M a t) (congrFun (hF.2 105 (by decide)) _) ?_
      refine ar_if_ne (tgt := 207) C dX12_studios_200 (by decide) (fun c_2 => ?_) (fun c_2 => ?_)
      · refine ar_iconst (v := 0) C dX12_studios_207 (by decide) ?_
        refine ar_topi (bI (decide (mH M a t = 0) || !(allB (fun k => !(mNr M a (80 * s + i) e t k)) 0))) (by rw [decide_eq_false c_2]; rfl) ?_
        refine ar_istore (als' := [(13, .int (bI (decide (mH M a t = 0) || !(allB (fun k => !(mNr M a (80 * s + i) e t k)) 0)))), (12, .int (nI t)), (11, .int (nI (cntB (fun t => !decide (mH M a t = 0) && allB (fun k => !(mNr M a (80 * s + i) e t k)) n) t))), (10, .int mv), (9, .int bv), (8, .int (nI (80 * s + i))), (0, .ref 96), (1, .int (nI a)), (4, .int (nI n)), (5, .int e), (6, .int w)]) C dX12_studios_208 (by decide) rfl ?_
        refine ar_iconst (v := 0) C dX12_studios_210 (by decide) ?_
        refine ar_istore (als' := [(14, .int 0), (13, .int (bI (decide (mH M a t = 0) || !(allB (fun k => !(mNr M a (80 * s + i) e t k)) 0)))), (12, .int (nI t)), (11, .int (nI (cntB (fun t => !decide (mH M a t = 0) && allB (fun k => !(mNr M a (80 * s + i) e t k)) n) t))), (10, .int mv), (9, .int bv), (8, .int (nI (80 * s + i))), (0, .ref 96), (1, .int (nI a)), (4, .int (nI n)), (5, .int e), (6, .int w)]) C dX12_studios_211 (by decide) rfl ?_
        refine l_mst3 C M ha hs e w mv bv hin hall hT hjN (fun M_3 h_4 => ?_) (n + 1) 0 M1 (by omega) hF (by omega)
        refine ar_iload (n := 3) C dX12_studios_273 rfl ?_
        refine ar_iload (n := 1) C dX12_studios_275 rfl ?_
        refine ar_if_eqB (tgt := 284) C dX12_studios_277 (by decide) (fun c_5 => ?_) (fun c_5 => ?_)
        · refine ar_iconst (v := 1) C dX12_studios_284 (by decide) ?_
          refine ar_iadd C dX12_studios_285 ?_
          refine ar_topi (nI (cntB (fun t => !decide (mH M a t = 0) && allB (fun k => !(mNr M a (80 * s + i) e t k)) n) (t + 1))) (cn_y (P := (fun t => !decide (mH M a t = 0) && allB (fun k => !(mNr M a (80 * s + i) e t k)) n)) (by have q := c_5; simp only [Bool.or_eq_false_iff, Bool.not_eq_false'] at q; show (!decide (mH M a t = 0) && allB (fun k => !(mNr M a (80 * s + i) e t k)) n) = true; rw [q.1, q.2]; rfl)) ?_
          refine ar_istore (als' := [(11, .int (nI (cntB (fun t => !decide (mH M a t = 0) && allB (fun k => !(mNr M a (80 * s + i) e t k)) n) (t + 1)))), (14, .int (nI n)), (13, .int (bI (decide (mH M a t = 0) || !(allB (fun k => !(mNr M a (80 * s + i) e t k)) n)))), (12, .int (nI t)), (10, .int mv), (9, .int bv), (8, .int (nI (80 * s + i))), (0, .ref 96), (1, .int (nI a)), (4, .int (nI n)), (5, .int e), (6, .int w)]) C dX12_studios_286 (by decide) rfl ?_
          refine ar_iinc (n := 3) (v := (nI (t + 1))) (als' := [(12, .int (nI (t + 1))), (11, .int (nI (cntB (fun t => !decide (mH M a t = 0) && allB (fun k => !(mNr M a (80 * s + i) e t k)) n) (t + 1)))), (14, .int (nI n)), (13, .int (bI (decide (mH M a t = 0) || !(allB (fun k => !(mNr M a (80 * s + i) e t k)) n)))), (10, .int mv), (9, .int bv), (8, .int (nI (80 * s + i))), (0, .ref 96), (1, .int (nI a)), (4, .int (nI n)), (5, .int e), (6, .int w)]) C dX12_studios_288 rfl (nI_1 _) (by decide) rfl ?_
          refine ar_goto (tgt := 179) C dX12_studios_291 (by decide) ?_
          refine ar_sub [0, 1, 4, 5, 6, 7, 8, 9, 10, 11] rfl ?_
          exact ih (t + 1) M_3 (by omega) h_4 (by omega)
        · refine ar_iconst (v := 0) C dX12_studios_280 (by decide) ?_
          refine ar_goto (tgt := 285) C dX12_studios_281 (by decide) ?_
          refine ar_iadd C dX12_studios_285 ?_
          refine ar_topi (nI (cntB (fun t => !decide (mH M a t = 0) && allB (fun k => !(mNr M a (80 * s + i) e t k)) n) (t + 1))) (cn_n (P := (fun t => !decide (mH M a t = 0) && allB (fun k => !(mNr M a (80 * s + i) e t k)) n)) (by have q := c_5; show (!decide (mH M a t = 0) && allB (fun k => !(mNr M a (80 * s + i) e t k)) n) = false; revert q; cases decide (mH M a t = 0) <;> cases allB (fun k => !(mNr M a (80 * s + i) e t k)) n <;> decide)) ?_
          refine ar_istore (als' := [(11, .int (nI (cntB (fun t => !decide (mH M a t = 0) && allB (fun k => !(mNr M a (80 * s + i) e t k)) n) (t + 1)))), (14, .int (nI n)), (13, .int (bI (decide (mH M a t = 0) || !(allB (fun k => !(mNr M a (80 * s + i) e t k)) n)))), (12, .int (nI t)), (10, .int mv), (9, .int bv), (8, .int (nI (80 * s + i))), (0, .ref 96), (1, .int (nI a)), (4, .int (nI n)), (5, .int e), (6, .int w)]) C dX12_studios_286 (by decide) rfl ?_
          refine ar_iinc (n := 3) (v := (nI (t + 1))) (als' := [(12, .int (nI (t + 1))), (11, .int (nI (cntB (fun t => !decide (mH M a t = 0) && allB (fun k => !(mNr M a (80 * s + i) e t k)) n) (t + 1)))), (14, .int (nI n)), (13, .int (bI (decide (mH M a t = 0) || !(allB (fun k => !(mNr M a (80 * s + i) e t k)) n)))), (10, .int mv), (9, .int bv), (8, .int (nI (80 * s + i))), (0, .ref 96), (1, .int (nI a)), (4, .int (nI n)), (5, .int e), (6, .int w)]) C dX12_studios_288 rfl (nI_1 _) (by decide) rfl ?_
          refine ar_goto (tgt := 179) C dX12_studios_291 (by decide) ?_
          refine ar_sub [0, 1, 4, 5, 6, 7, 8, 9, 10, 11] rfl ?_
          exact ih (t + 1) M_3 (by omega) h_4 (by omega)
      · refine ar_iconst (v := 1) C dX12_studios_203 (by decide) ?_
        refine ar_goto (tgt := 208) C dX12_studios_204 (by decide) ?_
        refine ar_topi (bI (decide (mH M a t = 0) || !(allB (fun k => !(mNr M a (80 * s + i) e t k)) 0))) (by rw [decide_eq_true c_2]; rfl) ?_
        refine ar_istore (als' := [(13, .int (bI (decide (mH M a t = 0) || !(allB (fun k => !(mNr M a (80 * s + i) e t k)) 0)))), (12, .int (nI t)), (11, .int (nI (cntB (fun t => !decide (mH M a t = 0) && allB (fun k => !(mNr M a (80 * s + i) e t k)) n) t))), (10, .int mv), (9, .int bv), (8, .int (nI (80 * s + i))), (0, .ref 96), (1, .int (nI a)), (4, .int (nI n)), (5, .int e), (6, .int w)]) C dX12_studios_208 (by decide) rfl ?_
        refine ar_iconst (v := 0) C dX12_studios_210 (by decide) ?_
        refine ar_istore (als' := [(14, .int 0), (13, .int (bI (decide (mH M a t = 0) || !(allB (fun k => !(mNr M a (80 * s + i) e t k)) 0)))), (12, .int (nI t)), (11, .int (nI (cntB (fun t => !decide (mH M a t = 0) && allB (fun k => !(mNr M a (80 * s + i) e t k)) n) t))), (10, .int mv), (9, .int bv), (8, .int (nI (80 * s + i))), (0, .ref 96), (1, .int (nI a)), (4, .int (nI n)), (5, .int e), (6, .int w)]) C dX12_studios_211 (by decide) rfl ?_
        refine l_mst3 C M ha hs e w mv bv hin hall hT hjN (fun M_6 h_7 => ?_) (n + 1) 0 M1 (by omega) hF (by omega)
        refine ar_iload (n := 3) C dX12_studios_273 rfl ?_
        refine ar_iload (n := 1) C dX12_studios_275 rfl ?_
        refine ar_if_eqB (tgt := 284) C dX12_studios_277 (by decide) (fun c_8 => ?_) (fun c_8 => ?_)
        · refine ar_iconst (v := 1) C dX12_studios_284 (by decide) ?_
          refine ar_iadd C dX12_studios_285 ?_
          refine ar_topi (nI (cntB (fun t => !decide (mH M a t = 0) && allB (fun k => !(mNr M a (80 * s + i) e t k)) n) (t + 1))) (cn_y (P := (fun t => !decide (mH M a t = 0) && allB (fun k => !(mNr M a (80 * s + i) e t k)) n)) (by have q := c_8; simp only [Bool.or_eq_false_iff, Bool.not_eq_false'] at q; show (!decide (mH M a t = 0) && allB (fun k => !(mNr M a (80 * s + i) e t k)) n) = true; rw [q.1, q.2]; rfl)) ?_
          refine ar_istore (als' := [(11, .int (nI (cntB (fun t => !decide (mH M a t = 0) && allB (fun k => !(mNr M a (80 * s + i) e t k)) n) (t + 1)))), (14, .int (nI n)), (13, .int (bI (decide (mH M a t = 0) || !(allB (fun k => !(mNr M a (80 * s + i) e t k)) n)))), (12, .int (nI t)), (10, .int mv), (9, .int bv), (8, .int (nI (80 * s + i))), (0, .ref 96), (1, .int (nI a)), (4, .int (nI n)), (5, .int e), (6, .int w)]) C dX12_studios_286 (by decide) rfl ?_
          refine ar_iinc (n := 3) (v := (nI (t + 1))) (als' := [(12, .int (nI (t + 1))), (11, .int (nI (cntB (fun t => !decide (mH M a t = 0) && allB (fun k => !(mNr M a (80 * s + i) e t k)) n) (t + 1)))), (14, .int (nI n)), (13, .int (bI (decide (mH M a t = 0) || !(allB (fun k => !(mNr M a (80 * s + i) e t k)) n)))), (10, .int mv), (9, .int bv), (8, .int (nI (80 * s + i))), (0, .ref 96), (1, .int (nI a)), (4, .int (nI n)), (5, .int e), (6, .int w)]) C dX12_studios_288 rfl (nI_1 _) (by decide) rfl ?_
          refine ar_goto (tgt := 179) C dX12_studios_291 (by decide) ?_
          refine ar_sub [0, 1, 4, 5, 6, 7, 8, 9, 10, 11] rfl ?_
          exact ih (t + 1) M_6 (by omega) h_7 (by omega)
        · refine ar_iconst (v := 0) C dX12_studios_280 (by decide) ?_
          refine ar_goto (tgt := 285) C dX12_studios_281 (by decide) ?_
          refine ar_iadd C dX12_studios_285 ?_
          refine ar_topi (nI (cntB (fun t => !decide (mH M a t = 0) && allB (fun k => !(mNr M a (80 * s + i) e t k)) n) (t + 1))) (cn_n (P := (fun t => !decide (mH M a t = 0) && allB (fun k => !(mNr M a (80 * s + i) e t k)) n)) (by have q := c_8; show (!decide (mH M a t = 0) && allB (fun k => !(mNr M a (80 * s + i) e t k)) n) = false; revert q; cases decide (mH M a t = 0) <;> cases allB (fun k => !(mNr M a (80 * s + i) e t k)) n <;> decide)) ?_
          refine ar_istore (als' := [(11, .int (nI (cntB (fun t => !decide (mH M a t = 0) && allB (fun k => !(mNr M a (80 * s + i) e t k)) n) (t + 1)))), (14, .int (nI n)), (13, .int (bI (decide (mH M a t = 0) || !(allB (fun k => !(mNr M a (80 * s + i) e t k)) n)))), (12, .int (nI t)), (10, .int mv), (9, .int bv), (8, .int (nI (80 * s + i))), (0, .ref 96), (1, .int (nI a)), (4, .int (nI n)), (5, .int e), (6, .int w)]) C dX12_studios_286 (by decide) rfl ?_
          refine ar_iinc (n := 3) (v := (nI (t + 1))) (als' := [(12, .int (nI (t + 1))), (11, .int (nI (cntB (fun t => !decide (mH M a t = 0) && allB (fun k => !(mNr M a (80 * s + i) e t k)) n) (t + 1)))), (14, .int (nI n)), (13, .int (bI (decide (mH M a t = 0) || !(allB (fun k => !(mNr M a (80 * s + i) e t k)) n)))), (10, .int mv), (9, .int bv), (8, .int (nI (80 * s + i))), (0, .ref 96), (1, .int (nI a)), (4, .int (nI n)), (5, .int e), (6, .int w)]) C dX12_studios_288 rfl (nI_1 _) (by decide) rfl ?_
          refine ar_goto (tgt := 179) C dX12_studios_291 (by decide) ?_
          refine ar_sub [0, 1, 4, 5, 6, 7, 8, 9, 10, 11] rfl ?_
          exact ih (t + 1) M_6 (by omega) h_7 (by omega)
set_option maxHeartbeats 4000000 in
set_option maxRecDepth 100000 in
theorem m_studios_ok_0 (M : Mm) {a s n : Nat} (ha : a < 8) (hs : s < 8) (e : Int32) (hn : f_in (nI n) 1 20 = true) (he : f_in e 0 20 = true) {i N : Nat} (hin : i + 4 * n ≤ 80) (hm : ¬ M.1 97 s < 0) (hp : ¬ (M.1 98 s).toInt64 < (nI i).toInt64 + (4 * nI n).toInt64) (hall : allB (lkB M (80 * s + i)) (4 * n) = true) (hT : TOK M N) : AQ mX12_studios 3 [.ref 96, .int (nI a), .int (nI s), .int (nI i), .int (nI n), .int e, .int 0] M (some (.int (nI (bst (mS M a (80 * s + i) N) (n - 1))))) (PF (wi (wi M 96 0 0) 96 1 0)) := by
  refine AM_ofF (by decide +kernel) (Nat.le_of_ble_eq_true rfl) (fun X V C _ _ => ?_)
  show AW X V mX12_studios.2.2.1 T0 M 0 0 _ 0 [(0, .ref 96), (1, .int (nI a)), (2, .int (nI s)), (3, .int (nI i)), (4, .int (nI n)), (5, .int e), (6, .int 0)] []
  refine ar_aload_n (n := 0) C dX12_studios_0 rfl rfl ?_
  refine ar_iconst (v := 0) C dX12_studios_1 (by decide) ?_
  refine ar_puti C flX12_59 kd_96 dX12_studios_2 ?_
  refine ar_iload_n (n := 1) C dX12_studios_5 rfl rfl ?_
  refine cS1 (ar := [.int (nI a)]) (st := []) C lkX12_140 (k_mTrace (wi M 96 0 0) (nI a)) (by decide) rfl (Nat.le_of_ble_eq_true rfl) rfl dX12_studios_6 ?_
  refine ar_if_eqB (tgt := 58) C dX12_studios_9 (by decide) (fun c_1 => False.elim (Bool.noConfusion ((in7 ha).symm.trans c_1))) (fun _ => ?_)
  refine ar_iload_n (n := 2) C dX12_studios_12 rfl rfl ?_
  refine cS1 (ar := [.int (nI s)]) (st := []) C lkX12_73 (k_mSheet (wi M 96 0 0) (nI s)) (by decide) rfl (Nat.le_of_ble_eq_true rfl) rfl dX12_studios_13 ?_
  refine ar_if_eqB (tgt := 58) C dX12_studios_16 (by decide) (fun c_2 => False.elim (Bool.noConfusion ((in7 hs).symm.trans c_2))) (fun _ => ?_)
  refine ar_iload (n := 4) C dX12_studios_19 rfl ?_
  refine ar_i2l C dX12_studios_21 ?_
  refine ar_lconst (v := 1) C dX12_studios_22 (by decide) ?_
  refine ar_ldc2 C kcX12_199 dX12_studios_23 ?_
  refine cS1 (ar := [.long ((nI n).toInt64), .long 1, .long 20]) (st := []) C lkX12_69 (k_inI (wi M 96 0 0) (nI n) 1 20 _ _ (by decide) (by decide)) (by decide) rfl (Nat.le_of_ble_eq_true rfl) rfl dX12_studios_26 ?_
  refine ar_if_eqB (tgt := 58) C dX12_studios_29 (by decide) (fun c_3 => False.elim (Bool.noConfusion (hn.symm.trans c_3))) (fun _ => ?_)
  refine ar_iload (n := 5) C dX12_studios_32 rfl ?_
  refine ar_i2l C dX12_studios_34 ?_
  refine ar_lconst (v := 0) C dX12_studios_35 (by decide) ?_
  refine ar_ldc2 C kcX12_199 dX12_studios_36 ?_
  refine cS1 (ar := [.long e.toInt64, .long 0, .long 20]) (st := []) C lkX12_69 (k_inI (wi M 96 0 0) e 0 20 _ _ (by decide) (by decide)) (by decide) rfl (Nat.le_of_ble_eq_true rfl) rfl dX12_studios_39 ?_
  refine ar_if_eqB (tgt := 58) C dX12_studios_42 (by decide) (fun c_4 => False.elim (Bool.noConfusion (he.symm.trans c_4))) (fun _ => ?_)
  refine ar_iload (n := 6) C dX12_studios_45 rfl ?_
  refine ar_i2l C dX12_studios_47 ?_
  refine ar_lconst (v := 0) C dX12_studios_48 (by decide) ?_
  refine ar_ldc2 C kcX12_77 dX12_studios_49 ?_
  refine cS1 (ar := [.long ((0 : Int32).toInt64), .long 0, .long 2]) (st := []) C lkX12_69 (k_inI (wi M 96 0 0) 0 0 2 _ _ (by decide) (by decide)) (by decide) rfl (Nat.le_of_ble_eq_true rfl) rfl dX12_studios_52 ?_
  refine ar_if_neB (tgt := 61) C dX12_studios_55 (by decide) (fun _ => ?_) (fun c_5 => False.elim (Bool.noConfusion ((show f_in 0 0 2 = true by decide).symm.trans c_5)))
  refine ar_aload_n (n := 0) C dX12_studios_61 rfl rfl ?_
  refine ar_iload_n (n := 1) C dX12_studios_62 rfl rfl ?_
  refine ar_iload_n (n := 2) C dX12_studios_63 rfl rfl ?_
  refine ar_iload_n (n := 3) C dX12_studios_64 rfl rfl ?_
  refine ar_iload (n := 4) C dX12_studios_65 rfl ?_
  refine cV1 (ar := [.int (nI a), .int (nI s), .int (nI i), .int (nI n)]) (st := []) C lkX12_210 kd_96 (m_look_ok (wi M 96 0 0) hs hin (nI a) hm hp hall) (by decide) rfl (Nat.le_of_ble_eq_true rfl) rfl dX12_studios_67 ?_
  refine ar_istore (als' := [(7, .int 0), (0, .ref 96), (1, .int (nI a)), (2, .int (nI s)), (3, .int (nI i)), (4, .int (nI n)), (5, .int e), (6, .int 0)]) C dX12_studios_70 (by decide) rfl ?_
  refine ar_iload (n := 0) C dX12_studios_72 rfl ?_
  refine ar_if_ge (tgt := 80) C dX12_studios_74 (by decide) (fun _ => ?_) (fun c_6 => absurd c_6 (by decide))
  refine ar_bipush (v := 80) C dX12_studios_80 (by decide) ?_
  refine ar_iload_n (n := 3) C dX12_studios_82 rfl rfl ?_
  refine ar_imul C dX12_studios_83 ?_
  refine ar_iload_n (n := 4) C dX12_studios_84 rfl rfl ?_
  refine ar_iadd C dX12_studios_85 ?_
  refine ar_topi (nI (80 * s + i)) (ix80 s i) ?_
  refine ar_istore (als' := [(8, .int (nI (80 * s + i))), (7, .int 0), (0, .ref 96), (1, .int (nI a)), (2, .int (nI s)), (3, .int (nI i)), (4, .int (nI n)), (5, .int e), (6, .int 0)]) C dX12_studios_86 (by decide) rfl ?_
  refine ar_iconst (v := 0) C dX12_studios_88 (by decide) ?_
  refine ar_istore (als' := [(9, .int 0), (8, .int (nI (80 * s + i))), (7, .int 0), (0, .ref 96), (1, .int (nI a)), (2, .int (nI s)), (3, .int (nI i)), (4, .int (nI n)), (5, .int e), (6, .int 0)]) C dX12_studios_89 (by decide) rfl ?_
  refine ar_iconst (v := 0) C dX12_studios_91 (by decide) ?_
  refine ar_istore (als' := [(10, .int 0), (9, .int 0), (8, .int (nI (80 * s + i))), (7, .int 0), (0, .ref 96), (1, .int (nI a)), (2, .int (nI s)), (3, .int (nI i)), (4, .int (nI n)), (5, .int e), (6, .int 0)]) C dX12_studios_92 (by decide) rfl ?_
  refine ar_iconst (v := 0) C dX12_studios_94 (by decide) ?_
  refine ar_istore (als' := [(11, .int 0), (10, .int 0), (9, .int 0), (8, .int (nI (80 * s + i))), (7, .int 0), (0, .ref 96), (1, .int (nI a)), (2, .int (nI s)), (3, .int (nI i)), (4, .int (nI n)), (5, .int e), (6, .int 0)]) C dX12_studios_95 (by decide) rfl ?_
  refine ar_sub [0, 1, 2, 3, 5, 6, 9, 10, 11] rfl ?_
  refine l_mst1 C (wi (wi M 96 0 0) 96 1 0) ha hs e 0 hin hall hT (fun M_7 h_8 => ?_) (n + 1) 0 _ (by omega) (PF_rf _) (by omega)
  refine ar_iconst (v := 0) C dX12_studios_173 (by decide) ?_
  refine ar_istore (als' := [(11, .int 0), (10, .int (nI (cntB (mSd M a (80 * s + i) N e) n))), (9, .int (nI (bst (mS M a (80 * s + i) N) (n - 1)))), (8, .int (nI (80 * s + i))), (0, .ref 96), (1, .int (nI a)), (4, .int (nI n)), (5, .int e), (6, .int 0)]) C dX12_studios_174 (by decide) rfl ?_
  refine ar_iconst (v := 0) C dX12_studios_176 (by decide) ?_
  refine ar_istore (als' := [(12, .int 0), (11, .int 0), (10, .int (nI (cntB (mSd M a (80 * s + i) N e) n))), (9, .int (nI (bst (mS M a (80 * s + i) N) (n - 1)))), (8, .int (nI (80 * s + i))), (0, .ref 96), (1, .int (nI a)), (4, .int (nI n)), (5, .int e), (6, .int 0)]) C dX12_studios_177 (by decide) rfl ?_
  refine l_mst2 C (wi (wi M 96 0 0) 96 1 0) ha hs e 0 _ _ hin hall hT (fun M_9 h_10 => ?_) (N + 1) 0 _ (by omega) h_8 (by omega)
  refine ar_iload (n := 9) C dX12_studios_294 rfl ?_
  refine ar_if_ne (tgt := 304) C dX12_studios_296 (by decide) (fun c_11 => absurd c_11 (by decide)) (fun _ => ?_)
  refine ar_iload (n := 3) C dX12_studios_299 rfl ?_
  refine ar_goto (tgt := 317) C dX12_studios_301 (by decide) ?_
  exact ar_ireturn C rfl dX12_studios_317 ⟨rfl, rfl, h_10⟩
set_option maxHeartbeats 4000000 in
set_option maxRecDepth 100000 in
theorem m_studios_ok_1 (M : Mm) {a s n : Nat} (ha : a < 8) (hs : s < 8) (e : Int32) (hn : f_in (nI n) 1 20 = true) (he : f_in e 0 20 = true) {i N : Nat} (hin : i + 4 * n ≤ 80) (hm : ¬ M.1 97 s < 0) (hp : ¬ (M.1 98 s).toInt64 < (nI i).toInt64 + (4 * nI n).toInt64) (hall : allB (lkB M (80 * s + i)) (4 * n) = true) (hT : TOK M N) : AQ mX12_studios 3 [.ref 96, .int (nI a), .int (nI s), .int (nI i), .int (nI n), .int e, .int 1] M (some (.int (nI (cntB (mSd M a (80 * s + i) N e) n)))) (PF (wi (wi M 96 0 0) 96 1 0)) := by
  refine AM_ofF (by decide +kernel) (Nat.le_of_ble_eq_true rfl) (fun X V C _ _ => ?_)
  show AW X V mX12_studios.2.2.1 T0 M 0 0 _ 0 [(0, .ref 96), (1, .int (nI a)), (2, .int (nI s)), (3, .int (nI i)), (4, .int (nI n)), (5, .int e), (6, .int 1)] []
  refine ar_aload_n (n := 0) C dX12_studios_0 rfl rfl ?_
  refine ar_iconst (v := 0) C dX12_studios_1 (by decide) ?_
  refine ar_puti C flX12_59 kd_96 dX12_studios_2 ?_
  refine ar_iload_n (n := 1) C dX12_studios_5 rfl rfl ?_
  refine cS1 (ar := [.int (nI a)]) (st := []) C lkX12_140 (k_mTrace (wi M 96 0 0) (nI a)) (by decide) rfl (Nat.le_of_ble_eq_true rfl) rfl dX12_studios_6 ?_
  refine ar_if_eqB (tgt := 58) C dX12_studios_9 (by decide) (fun c_1 => False.elim (Bool.noConfusion ((in7 ha).symm.trans c_1))) (fun _ => ?_)
  refine ar_iload_n (n := 2) C dX12_studios_12 rfl rfl ?_
  refine cS1 (ar := [.int (nI s)]) (st := []) C lkX12_73 (k_mSheet (wi M 96 0 0) (nI s)) (by decide) rfl (Nat.le_of_ble_eq_true rfl) rfl dX12_studios_13 ?_
  refine ar_if_eqB (tgt := 58) C dX12_studios_16 (by decide) (fun c_2 => False.elim (Bool.noConfusion ((in7 hs).symm.trans c_2))) (fun _ => ?_)
  refine ar_iload (n := 4) C dX12_studios_19 rfl ?_
  refine ar_i2l C dX12_studios_21 ?_
  refine ar_lconst (v := 1) C dX12_studios_22 (by decide) ?_
  refine ar_ldc2 C kcX12_199 dX12_studios_23 ?_
  refine cS1 (ar := [.long ((nI n).toInt64), .long 1, .long 20]) (st := []) C lkX12_69 (k_inI (wi M 96 0 0) (nI n) 1 20 _ _ (by decide) (by decide)) (by decide) rfl (Nat.le_of_ble_eq_true rfl) rfl dX12_studios_26 ?_
  refine ar_if_eqB (tgt := 58) C dX12_studios_29 (by decide) (fun c_3 => False.elim (Bool.noConfusion (hn.symm.trans c_3))) (fun _ => ?_)
  refine ar_iload (n := 5) C dX12_studios_32 rfl ?_
  refine ar_i2l C dX12_studios_34 ?_
  refine ar_lconst (v := 0) C dX12_studios_35 (by decide) ?_
  refine ar_ldc2 C kcX12_199 dX12_studios_36 ?_
  refine cS1 (ar := [.long e.toInt64, .long 0, .long 20]) (st := []) C lkX12_69 (k_inI (wi M 96 0 0) e 0 20 _ _ (by decide) (by decide)) (by decide) rfl (Nat.le_of_ble_eq_true rfl) rfl dX12_studios_39 ?_
  refine ar_if_eqB (tgt := 58) C dX12_studios_42 (by decide) (fun c_4 => False.elim (Bool.noConfusion (he.symm.trans c_4))) (fun _ => ?_)
  refine ar_iload (n := 6) C dX12_studios_45 rfl ?_
  refine ar_i2l C dX12_studios_47 ?_
  refine ar_lconst (v := 0) C dX12_studios_48 (by decide) ?_
  refine ar_ldc2 C kcX12_77 dX12_studios_49 ?_
  refine cS1 (ar := [.long ((1 : Int32).toInt64), .long 0, .long 2]) (st := []) C lkX12_69 (k_inI (wi M 96 0 0) 1 0 2 _ _ (by decide) (by decide)) (by decide) rfl (Nat.le_of_ble_eq_true rfl) rfl dX12_studios_52 ?_
  refine ar_if_neB (tgt := 61) C dX12_studios_55 (by decide) (fun _ => ?_) (fun c_5 => False.elim (Bool.noConfusion ((show f_in 1 0 2 = true by decide).symm.trans c_5)))
  refine ar_aload_n (n := 0) C dX12_studios_61 rfl rfl ?_
  refine ar_iload_n (n := 1) C dX12_studios_62 rfl rfl ?_
  refine ar_iload_n (n := 2) C dX12_studios_63 rfl rfl ?_
  refine ar_iload_n (n := 3) C dX12_studios_64 rfl rfl ?_
  refine ar_iload (n := 4) C dX12_studios_65 rfl ?_
  refine cV1 (ar := [.int (nI a), .int (nI s), .int (nI i), .int (nI n)]) (st := []) C lkX12_210 kd_96 (m_look_ok (wi M 96 0 0) hs hin (nI a) hm hp hall) (by decide) rfl (Nat.le_of_ble_eq_true rfl) rfl dX12_studios_67 ?_
  refine ar_istore (als' := [(7, .int 0), (0, .ref 96), (1, .int (nI a)), (2, .int (nI s)), (3, .int (nI i)), (4, .int (nI n)), (5, .int e), (6, .int 1)]) C dX12_studios_70 (by decide) rfl ?_
  refine ar_iload (n := 0) C dX12_studios_72 rfl ?_
  refine ar_if_ge (tgt := 80) C dX12_studios_74 (by decide) (fun _ => ?_) (fun c_6 => absurd c_6 (by decide))
  refine ar_bipush (v := 80) C dX12_studios_80 (by decide) ?_
  refine ar_iload_n (n := 3) C dX12_studios_82 rfl rfl ?_
  refine ar_imul C dX12_studios_83 ?_
  refine ar_iload_n (n := 4) C dX12_studios_84 rfl rfl ?_
  refine ar_iadd C dX12_studios_85 ?_
  refine ar_topi (nI (80 * s + i)) (ix80 s i) ?_
  refine ar_istore (als' := [(8, .int (nI (80 * s + i))), (7, .int 0), (0, .ref 96), (1, .int (nI a)), (2, .int (nI s)), (3, .int (nI i)), (4, .int (nI n)), (5, .int e), (6, .int 1)]) C dX12_studios_86 (by decide) rfl ?_
  refine ar_iconst (v := 0) C dX12_studios_88 (by decide) ?_
  refine ar_istore (als' := [(9, .int 0), (8, .int (nI (80 * s + i))), (7, .int 0), (0, .ref 96), (1, .int (nI a)), (2, .int (nI s)), (3, .int (nI i)), (4, .int (nI n)), (5, .int e), (6, .int 1)]) C dX12_studios_89 (by decide) rfl ?_
  refine ar_iconst (v := 0) C dX12_studios_91 (by decide) ?_
  refine ar_istore (als' := [(10, .int 0), (9, .int 0), (8, .int (nI (80 * s + i))), (7, .int 0), (0, .ref 96), (1, .int (nI a)), (2, .int (nI s)), (3, .int (nI i)), (4, .int (nI n)), (5, .int e), (6, .int 1)]) C dX12_studios_92 (by decide) rfl ?_
  refine ar_iconst (v := 0) C dX12_studios_94 (by decide) ?_
  refine ar_istore (als' := [(11, .int 0), (10, .int 0), (9, .int 0), (8, .int (nI (80 * s + i))), (7, .int 0), (0, .ref 96), (1, .int (nI a)), (2, .int (nI s)), (3, .int (nI i)), (4, .int (nI n)), (5, .int e), (6, .int 1)]) C dX12_studios_95 (by decide) rfl ?_
  refine ar_sub [0, 1, 2, 3, 5, 6, 9, 10, 11] rfl ?_
  refine l_mst1 C (wi (wi M 96 0 0) 96 1 0) ha hs e 1 hin hall hT (fun M_7 h_8 => ?_) (n + 1) 0 _ (by omega) (PF_rf _) (by omega)
  refine ar_iconst (v := 0) C dX12_studios_173 (by decide) ?_
  refine ar_istore (als' := [(11, .int 0), (10, .int (nI (cntB (mSd M a (80 * s + i) N e) n))), (9, .int (nI (bst (mS M a (80 * s + i) N) (n - 1)))), (8, .int (nI (80 * s + i))), (0, .ref 96), (1, .int (nI a)), (4, .int (nI n)), (5, .int e), (6, .int 1)]) C dX12_studios_174 (by decide) rfl ?_
  refine ar_iconst (v := 0) C dX12_studios_176 (by decide) ?_
  refine ar_istore (als' := [(12, .int 0), (11, .int 0), (10, .int (nI (cntB (mSd M a (80 * s + i) N e) n))), (9, .int (nI (bst (mS M a (80 * s + i) N) (n - 1)))), (8, .int (nI (80 * s + i))), (0, .ref 96), (1, .int (nI a)), (4, .int (nI n)), (5, .int e), (6, .int 1)]) C dX12_studios_177 (by decide) rfl ?_
  refine l_mst2 C (wi (wi M 96 0 0) 96 1 0) ha hs e 1 _ _ hin hall hT (fun M_9 h_10 => ?_) (N + 1) 0 _ (by omega) h_8 (by omega)
  refine ar_iload (n := 9) C dX12_studios_294 rfl ?_
  refine ar_if_ne (tgt := 304) C dX12_studios_296 (by decide) (fun _ => ?_) (fun c_11 => absurd c_11 (by decide))
  refine ar_iload (n := 9) C dX12_studios_304 rfl ?_
  refine ar_iconst (v := 1) C dX12_studios_306 (by decide) ?_
  refine ar_icmp_ne (tgt := 315) C dX12_studios_307 (by decide) (fun c_12 => absurd c_12 (by decide)) (fun _ => ?_)
  refine ar_iload (n := 2) C dX12_studios_310 rfl ?_
  refine ar_goto (tgt := 317) C dX12_studios_312 (by decide) ?_
  exact ar_ireturn C rfl dX12_studios_317 ⟨rfl, rfl, h_10⟩
set_option maxHeartbeats 4000000 in
set_option maxRecDepth 100000 in
theorem m_studios_ok_2 (M : Mm) {a s n : Nat} (ha : a < 8) (hs : s < 8) (e : Int32) (hn : f_in (nI n) 1 20 = true) (he : f_in e 0 20 = true) {i N : Nat} (hin : i + 4 * n ≤ 80) (hm : ¬ M.1 97 s < 0) (hp : ¬ (M.1 98 s).toInt64 < (nI i).toInt64 + (4 * nI n).toInt64) (hall : allB (lkB M (80 * s + i)) (4 * n) = true) (hT : TOK M N) : AQ mX12_studios 3 [.ref 96, .int (nI a), .int (nI s), .int (nI i), .int (nI n), .int e, .int 2] M (some (.int (nI (cntB (fun t => !decide (mH M a t = 0) && allB (fun k => !(mNr M a (80 * s + i) e t k)) n) N)))) (PF (wi (wi M 96 0 0) 96 1 0)) := by
  refine AM_ofF (by decide +kernel) (Nat.le_of_ble_eq_true rfl) (fun X V C _ _ => ?_)
  show AW X V mX12_studios.2.2.1 T0 M 0 0 _ 0 [(0, .ref 96), (1, .int (nI a)), (2, .int (nI s)), (3, .int (nI i)), (4, .int (nI n)), (5, .int e), (6, .int 2)] []
  refine ar_aload_n (n := 0) C dX12_studios_0 rfl rfl ?_
  refine ar_iconst (v := 0) C dX12_studios_1 (by decide) ?_
  refine ar_puti C flX12_59 kd_96 dX12_studios_2 ?_
  refine ar_iload_n (n := 1) C dX12_studios_5 rfl rfl ?_
  refine cS1 (ar := [.int (nI a)]) (st := []) C lkX12_140 (k_mTrace (wi M 96 0 0) (nI a)) (by decide) rfl (Nat.le_of_ble_eq_true rfl) rfl dX12_studios_6 ?_
  refine ar_if_eqB (tgt := 58) C dX12_studios_9 (by decide) (fun c_1 => False.elim (Bool.noConfusion ((in7 ha).symm.trans c_1))) (fun _ => ?_)
  refine ar_iload_n (n := 2) C dX12_studios_12 rfl rfl ?_
  refine cS1 (ar := [.int (nI s)]) (st := []) C lkX12_73 (k_mSheet (wi M 96 0 0) (nI s)) (by decide) rfl (Nat.le_of_ble_eq_true rfl) rfl dX12_studios_13 ?_
  refine ar_if_eqB (tgt := 58) C dX12_studios_16 (by decide) (fun c_2 => False.elim (Bool.noConfusion ((in7 hs).symm.trans c_2))) (fun _ => ?_)
  refine ar_iload (n := 4) C dX12_studios_19 rfl ?_
  refine ar_i2l C dX12_studios_21 ?_
  refine ar_lconst (v := 1) C dX12_studios_22 (by decide) ?_
  refine ar_ldc2 C kcX12_199 dX12_studios_23 ?_
  refine cS1 (ar := [.long ((nI n).toInt64), .long 1, .long 20]) (st := []) C lkX12_69 (k_inI (wi M 96 0 0) (nI n) 1 20 _ _ (by decide) (by decide)) (by decide) rfl (Nat.le_of_ble_eq_true rfl) rfl dX12_studios_26 ?_
  refine ar_if_eqB (tgt := 58) C dX12_studios_29 (by decide) (fun c_3 => False.elim (Bool.noConfusion (hn.symm.trans c_3))) (fun _ => ?_)
  refine ar_iload (n := 5) C dX12_studios_32 rfl ?_
  refine ar_i2l C dX12_studios_34 ?_
  refine ar_lconst (v := 0) C dX12_studios_35 (by decide) ?_
  refine ar_ldc2 C kcX12_199 dX12_studios_36 ?_
  refine cS1 (ar := [.long e.toInt64, .long 0, .long 20]) (st := []) C lkX12_69 (k_inI (wi M 96 0 0) e 0 20 _ _ (by decide) (by decide)) (by decide) rfl (Nat.le_of_ble_eq_true rfl) rfl dX12_studios_39 ?_
  refine ar_if_eqB (tgt := 58) C dX12_studios_42 (by decide) (fun c_4 => False.elim (Bool.noConfusion (he.symm.trans c_4))) (fun _ => ?_)
  refine ar_iload (n := 6) C dX12_studios_45 rfl ?_
  refine ar_i2l C dX12_studios_47 ?_
  refine ar_lconst (v := 0) C dX12_studios_48 (by decide) ?_
  refine ar_ldc2 C kcX12_77 dX12_studios_49 ?_
  refine cS1 (ar := [.long ((2 : Int32).toInt64), .long 0, .long 2]) (st := []) C lkX12_69 (k_inI (wi M 96 0 0) 2 0 2 _ _ (by decide) (by decide)) (by decide) rfl (Nat.le_of_ble_eq_true rfl) rfl dX12_studios_52 ?_
  refine ar_if_neB (tgt := 61) C dX12_studios_55 (by decide) (fun _ => ?_) (fun c_5 => False.elim (Bool.noConfusion ((show f_in 2 0 2 = true by decide).symm.trans c_5)))
  refine ar_aload_n (n := 0) C dX12_studios_61 rfl rfl ?_
  refine ar_iload_n (n := 1) C dX12_studios_62 rfl rfl ?_
  refine ar_iload_n (n := 2) C dX12_studios_63 rfl rfl ?_
  refine ar_iload_n (n := 3) C dX12_studios_64 rfl rfl ?_
  refine ar_iload (n := 4) C dX12_studios_65 rfl ?_
  refine cV1 (ar := [.int (nI a), .int (nI s), .int (nI i), .int (nI n)]) (st := []) C lkX12_210 kd_96 (m_look_ok (wi M 96 0 0) hs hin (nI a) hm hp hall) (by decide) rfl (Nat.le_of_ble_eq_true rfl) rfl dX12_studios_67 ?_
  refine ar_istore (als' := [(7, .int 0), (0, .ref 96), (1, .int (nI a)), (2, .int (nI s)), (3, .int (nI i)), (4, .int (nI n)), (5, .int e), (6, .int 2)]) C dX12_studios_70 (by decide) rfl ?_
  refine ar_iload (n := 0) C dX12_studios_72 rfl ?_
  refine ar_if_ge (tgt := 80) C dX12_studios_74 (by decide) (fun _ => ?_) (fun c_6 => absurd c_6 (by decide))
  refine ar_bipush (v := 80) C dX12_studios_80 (by decide) ?_
  refine ar_iload_n (n := 3) C dX12_studios_82 rfl rfl ?_
  refine ar_imul C dX12_studios_83 ?_
  refine ar_iload_n (n := 4) C dX12_studios_84 rfl rfl ?_
  refine ar_iadd C dX12_studios_85 ?_
  refine ar_topi (nI (80 * s + i)) (ix80 s i) ?_
  refine ar_istore (als' := [(8, .int (nI (80 * s + i))), (7, .int 0), (0, .ref 96), (1, .int (nI a)), (2, .int (nI s)), (3, .int (nI i)), (4, .int (nI n)), (5, .int e), (6, .int 2)]) C dX12_studios_86 (by decide) rfl ?_
  refine ar_iconst (v := 0) C dX12_studios_88 (by decide) ?_
  refine ar_istore (als' := [(9, .int 0), (8, .int (nI (80 * s + i))), (7, .int 0), (0, .ref 96), (1, .int (nI a)), (2, .int (nI s)), (3, .int (nI i)), (4, .int (nI n)), (5, .int e), (6, .int 2)]) C dX12_studios_89 (by decide) rfl ?_
  refine ar_iconst (v := 0) C dX12_studios_91 (by decide) ?_
  refine ar_istore (als' := [(10, .int 0), (9, .int 0), (8, .int (nI (80 * s + i))), (7, .int 0), (0, .ref 96), (1, .int (nI a)), (2, .int (nI s)), (3, .int (nI i)), (4, .int (nI n)), (5, .int e), (6, .int 2)]) C dX12_studios_92 (by decide) rfl ?_
  refine ar_iconst (v := 0) C dX12_studios_94 (by decide) ?_
  refine ar_istore (als' := [(11, .int 0), (10, .int 0), (9, .int 0), (8, .int (nI (80 * s + i))), (7, .int 0), (0, .ref 96), (1, .int (nI a)), (2, .int (nI s)), (3, .int (nI i)), (4, .int (nI n)), (5, .int e), (6, .int 2)]) C dX12_studios_95 (by decide) rfl ?_
  refine ar_sub [0, 1, 2, 3, 5, 6, 9, 10, 11] rfl ?_
  refine l_mst1 C (wi (wi M 96 0 0) 96 1 0) ha hs e 2 hin hall hT (fun M_7 h_8 => ?_) (n + 1) 0 _ (by omega) (PF_rf _) (by omega)
  refine ar_iconst (v := 0) C dX12_studios_173 (by decide) ?_
  refine ar_istore (als' := [(11, .int 0), (10, .int (nI (cntB (mSd M a (80 * s + i) N e) n))), (9, .int (nI (bst (mS M a (80 * s + i) N) (n - 1)))), (8, .int (nI (80 * s + i))), (0, .ref 96), (1, .int (nI a)), (4, .int (nI n)), (5, .int e), (6, .int 2)]) C dX12_studios_174 (by decide) rfl ?_
  refine ar_iconst (v := 0) C dX12_studios_176 (by decide) ?_
  refine ar_istore (als' := [(12, .int 0), (11, .int 0), (10, .int (nI (cntB (mSd M a (80 * s + i) N e) n))), (9, .int (nI (bst (mS M a (80 * s + i) N) (n - 1)))), (8, .int (nI (80 * s + i))), (0, .ref 96), (1, .int (nI a)), (4, .int (nI n)), (5, .int e), (6, .int 2)]) C dX12_studios_177 (by decide) rfl ?_
  refine l_mst2 C (wi (wi M 96 0 0) 96 1 0) ha hs e 2 _ _ hin hall hT (fun M_9 h_10 => ?_) (N + 1) 0 _ (by omega) h_8 (by omega)
  refine ar_iload (n := 9) C dX12_studios_294 rfl ?_
  refine ar_if_ne (tgt := 304) C dX12_studios_296 (by decide) (fun _ => ?_) (fun c_11 => absurd c_11 (by decide))
  refine ar_iload (n := 9) C dX12_studios_304 rfl ?_
  refine ar_iconst (v := 1) C dX12_studios_306 (by decide) ?_
  refine ar_icmp_ne (tgt := 315) C dX12_studios_307 (by decide) (fun _ => ?_) (fun c_12 => absurd c_12 (by decide))
  refine ar_iload (n := 1) C dX12_studios_315 rfl ?_
  exact ar_ireturn C rfl dX12_studios_317 ⟨rfl, rfl, h_10⟩
