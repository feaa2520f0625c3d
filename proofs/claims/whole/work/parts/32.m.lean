/-! THE MODEL: days, sights -/
theorem hr_ge {t : Nat} (h : t < 1000) : (7 : Int32) ≤ hr t ↔ 13 ≤ t := by
  rw [Int32.le_iff_toInt_le, hr_toInt h, show (7 : Int32).toInt = 7 by decide]
  omega
abbrev nb64 (x : Int64) : Nat := x.toInt.natAbs
theorem u_mul {a b : Int64} {A B : Nat} (ha : nb64 a ≤ A) (hb : nb64 b ≤ B) (h : A * B < 9223372036854775808) : (a * b).toInt = a.toInt * b.toInt ∧ nb64 (a * b) ≤ A * B := by
  have h1 : (a.toInt * b.toInt).natAbs ≤ A * B := by rw [Int.natAbs_mul]; exact Nat.mul_le_mul ha hb
  have e : (a * b).toInt = a.toInt * b.toInt := by
    rw [Int64.toInt_mul]
    exact Int.bmod_eq_of_le (by omega) (by omega)
  exact ⟨e, by rw [nb64, e]; exact h1⟩
theorem u_sub {a b : Int64} {A B : Nat} (ha : nb64 a ≤ A) (hb : nb64 b ≤ B) (h : A + B < 9223372036854775808) : (a - b).toInt = a.toInt - b.toInt ∧ nb64 (a - b) ≤ A + B := by
  simp only [nb64] at *
  have e : (a - b).toInt = a.toInt - b.toInt := by
    rw [Int64.toInt_sub]
    exact Int.bmod_eq_of_le (by omega) (by omega)
  exact ⟨e, by rw [e]; omega⟩
theorem u_neg {a : Int64} {A : Nat} (ha : nb64 a ≤ A) (h : A < 9223372036854775808) : (-a).toInt = -a.toInt ∧ nb64 (-a) ≤ A := by
  simp only [nb64] at *
  have e : (-a).toInt = -a.toInt := by
    rw [Int64.toInt_neg]
    exact Int.bmod_eq_of_le (by omega) (by omega)
  exact ⟨e, by rw [e]; omega⟩
theorem u_of (a : Int32) : nb64 a.toInt64 = na a := by simp only [nb64, na, Int32.toInt_toInt64]
theorem w_mul {a b : Int32} {A B : Nat} (ha : na a ≤ A) (hb : na b ≤ B) (h : A * B < 2147483648) : (a * b).toInt64 = a.toInt64 * b.toInt64 := by
  apply Int64.toInt_inj.mp
  rw [Int32.toInt_toInt64, (t_mul ha hb h).1, (u_mul (a := a.toInt64) (b := b.toInt64) (A := A) (B := B) (by rw [u_of]; exact ha) (by rw [u_of]; exact hb) (by omega)).1, Int32.toInt_toInt64, Int32.toInt_toInt64]
theorem fmx_le {a b : Int32} (h : a ≤ b) : b = f_max a b := by
  unfold f_max
  by_cases q : a < b
  · rw [if_pos q]
  · rw [if_neg q]
    rw [Int32.le_iff_toInt_le] at h
    rw [Int32.lt_iff_toInt_lt] at q
    exact Int32.toInt_inj.mp (by omega)
theorem fmx_gt {a b : Int32} (h : ¬ a ≤ b) : a = f_max a b := by
  unfold f_max
  rw [if_neg]
  intro q
  apply h
  rw [Int32.le_iff_toInt_le]
  rw [Int32.lt_iff_toInt_lt] at q
  omega
/-- where the two rooms stand: as the model holds it -/
def RS (S : Nat → Int32) : Prop := na (S 0) ≤ 1000 ∧ na (S 1) ≤ 1000 ∧ na (S 2) ≤ 1000 ∧ 1 ≤ (S 3).toInt ∧ (S 3).toInt ≤ 1000
def M2 (M : Mm) (S0 S1 : Nat → Int32) : Prop := (∀ j, j < 4 → M.1 111 j = S0 j) ∧ (∀ j, j < 4 → M.1 111 (4 + j) = S1 j) ∧ RS S0 ∧ RS S1
theorem M2_o {M M1 : Mm} {S0 S1 : Nat → Int32} (e : M1.1 111 = M.1 111) (h : M2 M S0 S1) : M2 M1 S0 S1 := by unfold M2; rw [e]; exact h
def SE (M : Mm) (S0 S1 : Nat → Int32) (p q : Int64) (M1 : Mm) : Prop := M1.1 = M.1 ∧ M1.2 96 24 = g_lo S0 S1 p q ∧ M1.2 96 23 = g_up S0 S1 p q
theorem lo_n {S0 S1 : Nat → Int32} {p q : Int32} (h0 : RS S0) (h1 : RS S1) (hp : na p ≤ 1020) (hq : na q ≤ 1020) : nb64 (g_lo S0 S1 p.toInt64 q.toInt64) ≤ 2040000 := by
  obtain ⟨_, _, _, a1, a2⟩ := h0
  obtain ⟨_, _, _, b1, b2⟩ := h1
  have x1 := (u_mul (a := q.toInt64) (b := (S0 3).toInt64) (A := 1020) (B := 1000) (by rw [u_of]; exact hq) (by rw [u_of]; simp only [na]; omega) (by decide)).2
  have x2 := (u_mul (a := p.toInt64) (b := (S1 3).toInt64) (A := 1020) (B := 1000) (by rw [u_of]; exact hp) (by rw [u_of]; simp only [na]; omega) (by decide)).2
  have x3 := (u_sub x1 x2 (by decide)).2
  unfold g_lo
  by_cases c : g_lo0 S0 S1 p.toInt64 q.toInt64 < 0
  · rw [if_pos c]; exact (u_neg (show nb64 (g_lo0 S0 S1 p.toInt64 q.toInt64) ≤ 2040000 from x3) (by decide)).2
  · rw [if_neg c]; exact x3
theorem lod_ne {S0 S1 : Nat → Int32} {p q : Int32} (h0 : RS S0) (h1 : RS S1) (hp : na p ≤ 1020) (hq : na q ≤ 1020) (hn : ¬ g_lo S0 S1 p.toInt64 q.toInt64 = 0) : ¬ g_lo S0 S1 p.toInt64 q.toInt64 * (S0 3).toInt64 = 0 := by
  have x := lo_n h0 h1 hp hq
  obtain ⟨_, _, _, a1, a2⟩ := h0
  have e := (u_mul (b := (S0 3).toInt64) (B := 1000) x (by rw [u_of]; simp only [na]; omega) (by decide)).1
  have e0 : (0 : Int64).toInt = 0 := by decide
  intro c
  rw [c, e0, Int32.toInt_toInt64] at e
  rcases Int.mul_eq_zero.mp e.symm with k | k
  · exact hn (Int64.toInt_inj.mp (by rw [e0]; exact k))
  · omega
theorem ok_ne {S0 S1 : Nat → Int32} {p q : Int64} (h : g_ok S0 S1 p q = true) : ¬ g_lo S0 S1 p q = 0 := by
  unfold g_ok at h
  intro c
  rw [decide_eq_true c] at h
  cases h
theorem lby_ne {a b : Int64} (h : ¬ b = 0) : f_lby a b = a / b := by unfold f_lby; rw [if_neg h]
theorem na_in {p : Int32} (h : f_in p (-1000) 1000 = true) : na p ≤ 1020 := by
  have q := (in_iff _ _ _).mp h
  have e1 : (-1000 : Int32).toInt = -1000 := by decide
  have e2 : (1000 : Int32).toInt = 1000 := by decide
  rw [e1, e2] at q
  simp only [na]
  omega
set_option maxHeartbeats 4000000 in
set_option maxRecDepth 100000 in
theorem l_mdaysIn {X : Ctx} {V : Vx} {Q : State → Prop} (C : Cx X V mX12_days 2) (M : Mm) (x y h i : Int32) {D d : Nat} (hdD : d < D) (hd : d < 365) (k1 : ∀ v, fnd (dP (fun u => f_aside u h) (fun d u => f_ahead (f_noon d) u h) x y) i (13 * d + 13) = none → AW X V mX12_days.2.2.1 T0 M 0 0 Q 99 [(7, .int v), (6, .int (nI d)), (5, .int (nI (cntB (dP (fun u => f_aside u h) (fun d u => f_ahead (f_noon d) u h) x y) (13 * d + 13)))), (0, .ref 96), (1, .int x), (2, .int y), (3, .int h), (4, .int i)] []) (k0 : ∀ v als, f_days (dP (fun u => f_aside u h) (fun d u => f_ahead (f_noon d) u h) x y) i (13 * D) = v → AW X V mX12_days.2.2.1 T0 M 0 0 Q 89 als [.int v]) : ∀ (m : Nat) (t : Nat), t ≤ 13 → fnd (dP (fun u => f_aside u h) (fun d u => f_ahead (f_noon d) u h) x y) i (13 * d + t) = none → 13 - t < m → AW X V mX12_days.2.2.1 T0 (M) 0 0 Q 38 [(7, .int (hr t)), (6, .int (nI d)), (5, .int (nI (cntB (dP (fun u => f_aside u h) (fun d u => f_ahead (f_noon d) u h) x y) (13 * d + t)))), (0, .ref 96), (1, .int x), (2, .int y), (3, .int h), (4, .int i)] [] := by
  intro m
  induction m with
  | zero => intro t _ _ h; exact absurd h (Nat.not_lt_zero _)
  | succ m ih =>
    intro t ht0 hf hmz
    refine ar_iload (n := 0) C dX12_days_38 rfl ?_
    refine ar_bipush (v := 7) C dX12_days_40 (by decide) ?_
    refine ar_icmp_ge (tgt := 99) C dX12_days_42 (by decide) (fun c_1 => ?_) (fun c_1 => ?_)
    · have ht : t = 13 := by have q := (hr_ge (by omega)).mp c_1; omega
      subst ht
      exact k1 _ hf
    · have ht : t < 13 := by
        rcases Nat.lt_or_ge t 13 with q | q
        · exact q
        · exact absurd ((hr_ge (by omega)).mpr q) c_1
      refine ar_iload (n := 1) C dX12_days_45 rfl ?_
      refine ar_iload (n := 0) C dX12_days_47 rfl ?_
      refine ar_iload_n (n := 6) C dX12_days_49 rfl rfl ?_
      refine ar_iconst (v := 0) C dX12_days_50 (by decide) ?_
      refine cS1 (ar := [.int (nI d), .int (hr t), .int h, .int 0]) (st := []) C lkX12_224 (m_spotOf_0 M hd (hr t) h) (by decide) rfl (Nat.le_of_ble_eq_true rfl) rfl dX12_days_51 ?_
      refine ar_iload_n (n := 4) C dX12_days_54 rfl rfl ?_
      refine ar_icmp_ne (tgt := 93) C dX12_days_55 (by decide) (fun c_2 => ?_) (fun c_2 => ?_)
      · refine ar_iinc (n := 0) (v := (hr (t + 1))) (als' := [(7, .int (hr (t + 1))), (6, .int (nI d)), (5, .int (nI (cntB (dP (fun u => f_aside u h) (fun d u => f_ahead (f_noon d) u h) x y) (13 * d + t)))), (0, .ref 96), (1, .int x), (2, .int y), (3, .int h), (4, .int i)]) C dX12_days_93 rfl (hr_1 _) (by decide) rfl ?_
        refine ar_goto (tgt := 38) C dX12_days_96 (by decide) ?_
        have eP : (dP (fun u => f_aside u h) (fun d u => f_ahead (f_noon d) u h) x y) (13 * d + t) = false := by rw [dP_at (by omega)]; simp [c_2]
        have h0 := ih (t + 1) (by omega) (by rw [← Nat.add_assoc]; exact fnd_no hf (fun q => by rw [eP] at q; cases q.1)) (by omega)
        rw [← Nat.add_assoc, cntB_n eP] at h0
        exact h0
      · refine ar_iload (n := 1) C dX12_days_58 rfl ?_
        refine ar_iload (n := 0) C dX12_days_60 rfl ?_
        refine ar_iload_n (n := 6) C dX12_days_62 rfl rfl ?_
        refine ar_iconst (v := 1) C dX12_days_63 (by decide) ?_
        refine cS1 (ar := [.int (nI d), .int (hr t), .int h, .int 1]) (st := []) C lkX12_224 (m_spotOf_1 M hd (hr t) h) (by decide) rfl (Nat.le_of_ble_eq_true rfl) rfl dX12_days_64 ?_
        refine ar_iload_n (n := 5) C dX12_days_67 rfl rfl ?_
        refine ar_icmp_ne (tgt := 93) C dX12_days_68 (by decide) (fun c_3 => ?_) (fun c_3 => ?_)
        · refine ar_iinc (n := 0) (v := (hr (t + 1))) (als' := [(7, .int (hr (t + 1))), (6, .int (nI d)), (5, .int (nI (cntB (dP (fun u => f_aside u h) (fun d u => f_ahead (f_noon d) u h) x y) (13 * d + t)))), (0, .ref 96), (1, .int x), (2, .int y), (3, .int h), (4, .int i)]) C dX12_days_93 rfl (hr_1 _) (by decide) rfl ?_
          refine ar_goto (tgt := 38) C dX12_days_96 (by decide) ?_
          have eP : (dP (fun u => f_aside u h) (fun d u => f_ahead (f_noon d) u h) x y) (13 * d + t) = false := by rw [dP_at (by omega)]; simp [c_3]
          have h0 := ih (t + 1) (by omega) (by rw [← Nat.add_assoc]; exact fnd_no hf (fun q => by rw [eP] at q; cases q.1)) (by omega)
          rw [← Nat.add_assoc, cntB_n eP] at h0
          exact h0
        · refine ar_iload (n := 2) C dX12_days_71 rfl ?_
          refine ar_iload (n := 7) C dX12_days_73 rfl ?_
          refine ar_icmp_ne (tgt := 90) C dX12_days_75 (by decide) (fun c_4 => ?_) (fun c_4 => ?_)
          · refine ar_iinc (n := 2) (v := (nI (cntB (dP (fun u => f_aside u h) (fun d u => f_ahead (f_noon d) u h) x y) (13 * d + t) + 1))) (als' := [(5, .int (nI (cntB (dP (fun u => f_aside u h) (fun d u => f_ahead (f_noon d) u h) x y) (13 * d + t) + 1))), (7, .int (hr t)), (6, .int (nI d)), (0, .ref 96), (1, .int x), (2, .int y), (3, .int h), (4, .int i)]) C dX12_days_90 rfl (nI_1 _) (by decide) rfl ?_
            refine ar_iinc (n := 1) (v := (hr (t + 1))) (als' := [(7, .int (hr (t + 1))), (5, .int (nI (cntB (dP (fun u => f_aside u h) (fun d u => f_ahead (f_noon d) u h) x y) (13 * d + t) + 1))), (6, .int (nI d)), (0, .ref 96), (1, .int x), (2, .int y), (3, .int h), (4, .int i)]) C dX12_days_93 rfl (hr_1 _) (by decide) rfl ?_
            refine ar_goto (tgt := 38) C dX12_days_96 (by decide) ?_
            refine ar_sub [0, 2, 1, 3, 4, 5, 6, 7] rfl ?_
            have eP : (dP (fun u => f_aside u h) (fun d u => f_ahead (f_noon d) u h) x y) (13 * d + t) = true := by rw [dP_at (by omega)]; simp [c_2, c_3]
            have h0 := ih (t + 1) (by omega) (by rw [← Nat.add_assoc]; exact fnd_no hf (fun q => c_4 q.2)) (by omega)
            rw [← Nat.add_assoc, cntB_y eP] at h0
            exact h0
          · refine ar_bipush (v := 100) C dX12_days_78 (by decide) ?_
            refine ar_iload (n := 1) C dX12_days_80 rfl ?_
            refine ar_imul C dX12_days_82 ?_
            refine ar_iload (n := 0) C dX12_days_83 rfl ?_
            refine ar_iadd C dX12_days_85 ?_
            refine ar_bipush (v := 50) C dX12_days_86 (by decide) ?_
            refine ar_iadd C dX12_days_88 ?_
            refine k0 _ _ ?_
            rw [days_some hf ⟨by rw [dP_at (by omega)]; simp [c_2, c_3], c_4⟩ (by omega)]
            unfold dres
            rw [show (13 * d + t) % 13 = t by omega, show (13 * d + t) / 13 = d by omega]
set_option maxHeartbeats 4000000 in
set_option maxRecDepth 100000 in
theorem l_mdaysOut {X : Ctx} {V : Vx} {Q : State → Prop} (C : Cx X V mX12_days 2) (M : Mm) (x y h i : Int32) {D : Nat} (hD : D = 365) (k1 : fnd (dP (fun u => f_aside u h) (fun d u => f_ahead (f_noon d) u h) x y) i (13 * D) = none → AW X V mX12_days.2.2.1 T0 M 0 0 Q 105 [(6, .int (nI D)), (5, .int (nI (cntB (dP (fun u => f_aside u h) (fun d u => f_ahead (f_noon d) u h) x y) (13 * D)))), (0, .ref 96), (1, .int x), (2, .int y), (3, .int h), (4, .int i)] []) (k0 : ∀ v als, f_days (dP (fun u => f_aside u h) (fun d u => f_ahead (f_noon d) u h) x y) i (13 * D) = v → AW X V mX12_days.2.2.1 T0 M 0 0 Q 89 als [.int v]) : ∀ (m : Nat) (d : Nat), d ≤ D → fnd (dP (fun u => f_aside u h) (fun d u => f_ahead (f_noon d) u h) x y) i (13 * d) = none → D - d < m → AW X V mX12_days.2.2.1 T0 (M) 0 0 Q 26 [(6, .int (nI d)), (5, .int (nI (cntB (dP (fun u => f_aside u h) (fun d u => f_ahead (f_noon d) u h) x y) (13 * d)))), (0, .ref 96), (1, .int x), (2, .int y), (3, .int h), (4, .int i)] [] := by
  intro m
  induction m with
  | zero => intro d _ _ h; exact absurd h (Nat.not_lt_zero _)
  | succ m ih =>
    intro d hd0 hf hmz
    refine ar_iload (n := 0) C dX12_days_26 rfl ?_
    refine ar_sipush (v := 365) C dX12_days_28 (by decide) ?_
    refine ar_icmp_ge (tgt := 105) C dX12_days_31 (by decide) (fun c_1 => ?_) (fun c_1 => ?_)
    · have hd : d = D := Nat.le_antisymm hd0 (by rw [hD]; exact nat_le (a := 365) c_1 (by decide) (by omega))
      subst hd
      exact k1 hf
    · have hdD : d < D := by rw [hD]; exact nat_nle (a := 365) c_1 (by decide) (by omega)
      have hd : d < 365 := by omega
      refine ar_bipush (v := (-6)) C dX12_days_34 (by decide) ?_
      refine ar_istore (als' := [(7, .int (-6)), (6, .int (nI d)), (5, .int (nI (cntB (dP (fun u => f_aside u h) (fun d u => f_ahead (f_noon d) u h) x y) (13 * d)))), (0, .ref 96), (1, .int x), (2, .int y), (3, .int h), (4, .int i)]) C dX12_days_36 (by decide) rfl ?_
      refine l_mdaysIn C M x y h i (D := D) hdD hd (fun v hf2 => ?_) k0 14 0 (by omega) hf (by omega)
      refine ar_iinc (n := 1) (v := (nI (d + 1))) (als' := [(6, .int (nI (d + 1))), (7, .int v), (5, .int (nI (cntB (dP (fun u => f_aside u h) (fun d u => f_ahead (f_noon d) u h) x y) (13 * d + 13)))), (0, .ref 96), (1, .int x), (2, .int y), (3, .int h), (4, .int i)]) C dX12_days_99 rfl (nI_1 _) (by decide) rfl ?_
      refine ar_goto (tgt := 26) C dX12_days_102 (by decide) ?_
      refine ar_sub [0, 2, 3, 4, 5, 6, 7] rfl ?_
      exact ih (d + 1) (by omega) hf2 (by omega)
set_option maxHeartbeats 4000000 in
set_option maxRecDepth 100000 in
theorem m_days_bad (M : Mm) (x y h i : Int32)  (hbad : (f_in h 1 1000) = false) : AX mX12_days 2 [.ref 96, .int x, .int y, .int h, .int i] M (some (.int (-1000001))) (wi M 96 0 0) := by
  refine AM_ofF (by decide +kernel) (Nat.le_of_ble_eq_true rfl) (fun X V C _ _ => ?_)
  show AW X V mX12_days.2.2.1 T0 M 0 0 _ 0 [(0, .ref 96), (1, .int x), (2, .int y), (3, .int h), (4, .int i)] []
  refine ar_aload_n (n := 0) C dX12_days_0 rfl rfl ?_
  refine ar_iconst (v := 0) C dX12_days_1 (by decide) ?_
  refine ar_puti C flX12_59 kd_96 dX12_days_2 ?_
  refine ar_iload_n (n := 3) C dX12_days_5 rfl rfl ?_
  refine ar_i2l C dX12_days_6 ?_
  refine ar_lconst (v := 1) C dX12_days_7 (by decide) ?_
  refine ar_ldc2 C kcX12_98 dX12_days_8 ?_
  refine cS1 (ar := [.long h.toInt64, .long 1, .long 1000]) (st := []) C lkX12_69 (k_inI (wi M 96 0 0) h 1 1000 _ _ (by decide) (by decide)) (by decide) rfl (Nat.le_of_ble_eq_true rfl) rfl dX12_days_11 ?_
  refine ar_if_neB (tgt := 20) C dX12_days_14 (by decide) (fun c_1 => ?_) (fun c_1 => ?_)
  · exact absurd hbad (by first | (rw [c_1]; decide) | simp [*])
  · refine ar_ldc C kcX12_79 dX12_days_17 ?_
    exact ar_ireturn C rfl dX12_days_19 ⟨rfl, rfl, rfl⟩
set_option maxHeartbeats 4000000 in
set_option maxRecDepth 100000 in
theorem s_mdays {X : Ctx} {V : Vx} {Q : State → Prop} (C : Cx X V mX12_days 2) (M : Mm) (x y h i : Int32) {D : Nat} (hf : fnd (dP (fun u => f_aside u h) (fun d u => f_ahead (f_noon d) u h) x y) i (13 * D) = none) (kk : AW X V mX12_days.2.2.1 T0 M 0 0 Q 119 [(6, .int (nI D)), (5, .int (nI (cntB (dP (fun u => f_aside u h) (fun d u => f_ahead (f_noon d) u h) x y) (13 * D)))), (0, .ref 96), (1, .int x), (2, .int y), (3, .int h), (4, .int i)] [.int (f_days (dP (fun u => f_aside u h) (fun d u => f_ahead (f_noon d) u h) x y) i (13 * D))]) : AW X V mX12_days.2.2.1 T0 (M) 0 0 Q 105 [(6, .int (nI D)), (5, .int (nI (cntB (dP (fun u => f_aside u h) (fun d u => f_ahead (f_noon d) u h) x y) (13 * D)))), (0, .ref 96), (1, .int x), (2, .int y), (3, .int h), (4, .int i)] [] := by
  refine ar_iload (n := 6) C dX12_days_105 rfl ?_
  refine ar_ldc C kcX12_149 dX12_days_107 ?_
  refine ar_icmp_ne (tgt := 117) C dX12_days_109 (by decide) (fun c_1 => ?_) (fun c_1 => ?_)
  · refine ar_ldc C kcX12_149 dX12_days_117 ?_
    refine ar_topi (f_days (dP (fun u => f_aside u h) (fun d u => f_ahead (f_noon d) u h) x y) i (13 * D)) (by rw [days_none hf, if_neg c_1]) ?_
    exact kk
  · refine ar_iload (n := 1) C dX12_days_112 rfl ?_
    refine ar_goto (tgt := 119) C dX12_days_114 (by decide) ?_
    refine ar_topi (f_days (dP (fun u => f_aside u h) (fun d u => f_ahead (f_noon d) u h) x y) i (13 * D)) (by rw [days_none hf, if_pos c_1]) ?_
    exact kk
set_option maxHeartbeats 4000000 in
set_option maxRecDepth 100000 in
theorem m_days_ok (M : Mm) (x y h i : Int32) (hh : f_in h 1 1000 = true) {D : Nat} (hD : D = 365) : AX mX12_days 2 [.ref 96, .int x, .int y, .int h, .int i] M (some (.int (f_days (dP (fun u => f_aside u h) (fun d u => f_ahead (f_noon d) u h) x y) i (13 * D)))) (wi M 96 0 0) := by
  refine AM_ofF (by decide +kernel) (Nat.le_of_ble_eq_true rfl) (fun X V C _ _ => ?_)
  show AW X V mX12_days.2.2.1 T0 M 0 0 _ 0 [(0, .ref 96), (1, .int x), (2, .int y), (3, .int h), (4, .int i)] []
  refine ar_aload_n (n := 0) C dX12_days_0 rfl rfl ?_
  refine ar_iconst (v := 0) C dX12_days_1 (by decide) ?_
  refine ar_puti C flX12_59 kd_96 dX12_days_2 ?_
  refine ar_iload_n (n := 3) C dX12_days_5 rfl rfl ?_
  refine ar_i2l C dX12_days_6 ?_
  refine ar_lconst (v := 1) C dX12_days_7 (by decide) ?_
  refine ar_ldc2 C kcX12_98 dX12_days_8 ?_
  refine cS1 (ar := [.long h.toInt64, .long 1, .long 1000]) (st := []) C lkX12_69 (k_inI (wi M 96 0 0) h 1 1000 _ _ (by decide) (by decide)) (by decide) rfl (Nat.le_of_ble_eq_true rfl) rfl dX12_days_11 ?_
  refine ar_if_neB (tgt := 20) C dX12_days_14 (by decide) (fun _ => ?_) (fun c_1 => False.elim (Bool.noConfusion (hh.symm.trans c_1)))
  refine ar_iconst (v := 0) C dX12_days_20 (by decide) ?_
  refine ar_istore (als' := [(5, .int 0), (0, .ref 96), (1, .int x), (2, .int y), (3, .int h), (4, .int i)]) C dX12_days_21 (by decide) rfl ?_
  refine ar_iconst (v := 0) C dX12_days_23 (by decide) ?_
  refine ar_istore (als' := [(6, .int 0), (5, .int 0), (0, .ref 96), (1, .int x), (2, .int y), (3, .int h), (4, .int i)]) C dX12_days_24 (by decide) rfl ?_
  refine l_mdaysOut C (wi M 96 0 0) x y h i hD (fun hf => s_mdays C _ x y h i hf (ar_ireturn C rfl dX12_days_119 ⟨rfl, rfl, rfl⟩)) (fun v als e => ar_ireturn C rfl dX12_days_89 ⟨by rw [e], rfl, rfl⟩) (D + 1) 0 (by omega) rfl (by omega)
set_option maxHeartbeats 4000000 in
set_option maxRecDepth 100000 in
theorem m_see (M : Mm) (p q : Int32) (hp : na p ≤ 1020) (hq : na q ≤ 1020) {S0 S1 : Nat → Int32} (hS : M2 M S0 S1) : AQ mX12_see 0 [.ref 96, .int p, .int q] M (some (.int (bI (g_ok S0 S1 p.toInt64 q.toInt64)))) (SE M S0 S1 p.toInt64 q.toInt64) := by
  obtain ⟨s0, s1, r0, r1⟩ := hS
  refine AM_ofF (by decide +kernel) (Nat.le_of_ble_eq_true rfl) (fun X V C _ _ => ?_)
  show AW X V mX12_see.2.2.1 T0 M 0 0 _ 0 [(0, .ref 96), (1, .int p), (2, .int q)] []
  refine ar_aload_n (n := 0) C dX12_see_0 rfl rfl ?_
  refine ar_getr C flX12_53 rfl kd_96 rf_96_22 dX12_see_1 ?_
  refine ar_iconst (v := 3) C dX12_see_4 (by decide) ?_
  refine ar_iald (j := 3) C kd_111 (by decide) (by decide) dX12_see_5 ?_
  refine ar_topi (S0 3) (s0 3 (by decide)) ?_
  refine ar_i2l C dX12_see_6 ?_
  refine ar_lstore_n (als' := [(3, .long ((S0 3).toInt64)), (0, .ref 96), (1, .int p), (2, .int q)]) C dX12_see_7 rfl (by decide) rfl ?_
  refine ar_aload_n (n := 1) C dX12_see_8 rfl rfl ?_
  refine ar_getr C flX12_53 rfl kd_96 rf_96_22 dX12_see_9 ?_
  refine ar_bipush (v := 7) C dX12_see_12 (by decide) ?_
  refine ar_iald (j := 7) C kd_111 (by decide) (by decide) dX12_see_14 ?_
  refine ar_topi (S1 3) (s1 3 (by decide)) ?_
  refine ar_i2l C dX12_see_15 ?_
  refine ar_lstore (als' := [(5, .long ((S1 3).toInt64)), (3, .long ((S0 3).toInt64)), (0, .ref 96), (1, .int p), (2, .int q)]) C dX12_see_16 (by decide) rfl ?_
  refine ar_aload_n (n := 2) C dX12_see_18 rfl rfl ?_
  refine ar_iload_n (n := 4) C dX12_see_19 rfl rfl ?_
  refine ar_i2l C dX12_see_20 ?_
  refine ar_lload_n (n := 1) C dX12_see_21 rfl rfl ?_
  refine ar_lmul C dX12_see_22 ?_
  refine ar_iload_n (n := 3) C dX12_see_23 rfl rfl ?_
  refine ar_i2l C dX12_see_24 ?_
  refine ar_lload (n := 0) C dX12_see_25 rfl ?_
  refine ar_lmul C dX12_see_27 ?_
  refine ar_lsub C dX12_see_28 ?_
  refine ar_topl (g_lo0 S0 S1 p.toInt64 q.toInt64) rfl ?_
  refine ar_putl C flX12_181 kd_96 dX12_see_29 ?_
  refine ar_aload_n (n := 2) C dX12_see_32 rfl rfl ?_
  refine ar_aload_n (n := 2) C dX12_see_33 rfl rfl ?_
  refine ar_getr C flX12_53 rfl kd_96 rf_96_22 dX12_see_34 ?_
  refine ar_iconst (v := 4) C dX12_see_37 (by decide) ?_
  refine ar_iald (j := 4) C kd_111 (by decide) (by decide) dX12_see_38 ?_
  refine ar_topi (S1 0) (s1 0 (by decide)) ?_
  refine ar_aload_n (n := 2) C dX12_see_39 rfl rfl ?_
  refine ar_getr C flX12_53 rfl kd_96 rf_96_22 dX12_see_40 ?_
  refine ar_iconst (v := 0) C dX12_see_43 (by decide) ?_
  refine ar_iald (j := 0) C kd_111 (by decide) (by decide) dX12_see_44 ?_
  refine ar_topi (S0 0) (s0 0 (by decide)) ?_
  refine ar_isub C dX12_see_45 ?_
  refine ar_i2l C dX12_see_46 ?_
  refine ar_lload_n (n := 1) C dX12_see_47 rfl rfl ?_
  refine ar_lmul C dX12_see_48 ?_
  refine ar_lload (n := 0) C dX12_see_49 rfl ?_
  refine ar_lmul C dX12_see_51 ?_
  refine ar_iload_n (n := 3) C dX12_see_52 rfl rfl ?_
  refine ar_aload_n (n := 2) C dX12_see_53 rfl rfl ?_
  refine ar_getr C flX12_53 rfl kd_96 rf_96_22 dX12_see_54 ?_
  refine ar_iconst (v := 2) C dX12_see_57 (by decide) ?_
  refine ar_iald (j := 2) C kd_111 (by decide) (by decide) dX12_see_58 ?_
  refine ar_topi (S0 2) (s0 2 (by decide)) ?_
  refine ar_imul C dX12_see_59 ?_
  refine ar_i2l C dX12_see_60 ?_
  refine ar_topl (p.toInt64 * (S0 2).toInt64) (w_mul hp r0.2.2.1 (by decide)) ?_
  refine ar_lload (n := 0) C dX12_see_61 rfl ?_
  refine ar_lmul C dX12_see_63 ?_
  refine ar_lsub C dX12_see_64 ?_
  refine ar_iload_n (n := 4) C dX12_see_65 rfl rfl ?_
  refine ar_aload_n (n := 2) C dX12_see_66 rfl rfl ?_
  refine ar_getr C flX12_53 rfl kd_96 rf_96_22 dX12_see_67 ?_
  refine ar_bipush (v := 6) C dX12_see_70 (by decide) ?_
  refine ar_iald (j := 6) C kd_111 (by decide) (by decide) dX12_see_72 ?_
  refine ar_topi (S1 2) (s1 2 (by decide)) ?_
  refine ar_imul C dX12_see_73 ?_
  refine ar_i2l C dX12_see_74 ?_
  refine ar_topl (q.toInt64 * (S1 2).toInt64) (w_mul hq r1.2.2.1 (by decide)) ?_
  refine ar_lload_n (n := 1) C dX12_see_75 rfl rfl ?_
  refine ar_lmul C dX12_see_76 ?_
  refine ar_ladd C dX12_see_77 ?_
  refine ar_topl (g_up0 S0 S1 p.toInt64 q.toInt64) rfl ?_
  refine ar_putl C flX12_185 kd_96 dX12_see_78 ?_
  refine ar_aload_n (n := 2) C dX12_see_81 rfl rfl ?_
  refine ar_getlV (v := g_lo0 S0 S1 p.toInt64 q.toInt64) C flX12_181 kd_96 rfl dX12_see_82 ?_
  refine ar_lconst (v := 0) C dX12_see_85 (by decide) ?_
  refine ar_lc_ge (tgt := 108) C dX12_see_86 dX12_see_87 (by decide) (fun c_1 => ?_) (fun c_1 => ?_)
  · refine ar_aload_n (n := 2) C dX12_see_108 rfl rfl ?_
    refine ar_getr C flX12_53 rfl kd_96 rf_96_22 dX12_see_109 ?_
    refine ar_iconst (v := 2) C dX12_see_112 (by decide) ?_
    refine ar_iald (j := 2) C kd_111 (by decide) (by decide) dX12_see_113 ?_
    refine ar_topi (S0 2) (s0 2 (by decide)) ?_
    refine ar_aload_n (n := 2) C dX12_see_114 rfl rfl ?_
    refine ar_getr C flX12_53 rfl kd_96 rf_96_22 dX12_see_115 ?_
    refine ar_bipush (v := 6) C dX12_see_118 (by decide) ?_
    refine ar_iald (j := 6) C kd_111 (by decide) (by decide) dX12_see_120 ?_
    refine ar_topi (S1 2) (s1 2 (by decide)) ?_
    refine ar_icmp_le (tgt := 133) C dX12_see_121 (by decide) (fun c_2 => ?_) (fun c_2 => ?_)
    · refine ar_aload_n (n := 2) C dX12_see_133 rfl rfl ?_
      refine ar_getr C flX12_53 rfl kd_96 rf_96_22 dX12_see_134 ?_
      refine ar_bipush (v := 6) C dX12_see_137 (by decide) ?_
      refine ar_iald (j := 6) C kd_111 (by decide) (by decide) dX12_see_139 ?_
      refine ar_topi (f_max (S0 2) (S1 2)) ((s1 2 (by decide)).trans (fmx_le c_2)) ?_
      refine ar_istore (als' := [(7, .int (f_max (S0 2) (S1 2))), (5, .long ((S1 3).toInt64)), (3, .long ((S0 3).toInt64)), (0, .ref 96), (1, .int p), (2, .int q)]) C dX12_see_140 (by decide) rfl ?_
      refine ar_aload_n (n := 3) C dX12_see_142 rfl rfl ?_
      refine ar_getlV (v := g_lo0 S0 S1 p.toInt64 q.toInt64) C flX12_181 kd_96 rfl dX12_see_143 ?_
      refine ar_topl (g_lo S0 S1 p.toInt64 q.toInt64) (by unfold g_lo; first | rw [if_pos c_1] | rw [if_neg c_1] | rw [if_neg (Int64.not_lt.mpr c_1)]) ?_
      refine ar_lconst (v := 0) C dX12_see_146 (by decide) ?_
      refine ar_lc_eq (tgt := 171) C dX12_see_147 dX12_see_148 (by decide) (fun c_3 => ?_) (fun c_3 => ?_)
      · refine ar_iconst (v := 0) C dX12_see_171 (by decide) ?_
        exact ar_zreturn C rfl rfl dX12_see_172 ⟨by unfold g_ok; simp [bI, *]; done, rfl, ⟨rfl, by show _ = g_lo S0 S1 p.toInt64 q.toInt64; unfold g_lo; first | rw [if_pos c_1]; rfl | rw [if_neg c_1]; rfl | rw [if_neg (Int64.not_lt.mpr c_1)]; rfl, by show _ = g_up S0 S1 p.toInt64 q.toInt64; unfold g_up; first | rw [if_pos c_1]; rfl | rw [if_neg c_1]; rfl | rw [if_neg (Int64.not_lt.mpr c_1)]; rfl⟩⟩
      · refine ar_aload_n (n := 3) C dX12_see_151 rfl rfl ?_
        refine ar_getlV (v := g_up0 S0 S1 p.toInt64 q.toInt64) C flX12_185 kd_96 rfl dX12_see_152 ?_
        refine ar_topl (g_up S0 S1 p.toInt64 q.toInt64) (by unfold g_up; first | rw [if_pos c_1] | rw [if_neg c_1] | rw [if_neg (Int64.not_lt.mpr c_1)]) ?_
        refine ar_aload_n (n := 3) C dX12_see_155 rfl rfl ?_
        refine ar_getlV (v := g_lo0 S0 S1 p.toInt64 q.toInt64) C flX12_181 kd_96 rfl dX12_see_156 ?_
        refine ar_topl (g_lo S0 S1 p.toInt64 q.toInt64) (by unfold g_lo; first | rw [if_pos c_1] | rw [if_neg c_1] | rw [if_neg (Int64.not_lt.mpr c_1)]) ?_
        refine ar_iload (n := 0) C dX12_see_159 rfl ?_
        refine ar_i2l C dX12_see_161 ?_
        refine ar_lmul C dX12_see_162 ?_
        refine ar_lc_le (tgt := 171) C dX12_see_163 dX12_see_164 (by decide) (fun c_4 => ?_) (fun c_4 => ?_)
        · refine ar_iconst (v := 0) C dX12_see_171 (by decide) ?_
          exact ar_zreturn C rfl rfl dX12_see_172 ⟨by unfold g_ok; simp [bI, *]; done, rfl, ⟨rfl, by show _ = g_lo S0 S1 p.toInt64 q.toInt64; unfold g_lo; first | rw [if_pos c_1]; rfl | rw [if_neg c_1]; rfl | rw [if_neg (Int64.not_lt.mpr c_1)]; rfl, by show _ = g_up S0 S1 p.toInt64 q.toInt64; unfold g_up; first | rw [if_pos c_1]; rfl | rw [if_neg c_1]; rfl | rw [if_neg (Int64.not_lt.mpr c_1)]; rfl⟩⟩
        · refine ar_iconst (v := 1) C dX12_see_167 (by decide) ?_
          refine ar_goto (tgt := 172) C dX12_see_168 (by decide) ?_
          exact ar_zreturn C rfl rfl dX12_see_172 ⟨by unfold g_ok; simp [bI, *]; done, rfl, ⟨rfl, by show _ = g_lo S0 S1 p.toInt64 q.toInt64; unfold g_lo; first | rw [if_pos c_1]; rfl | rw [if_neg c_1]; rfl | rw [if_neg (Int64.not_lt.mpr c_1)]; rfl, by show _ = g_up S0 S1 p.toInt64 q.toInt64; unfold g_up; first | rw [if_pos c_1]; rfl | rw [if_neg c_1]; rfl | rw [if_neg (Int64.not_lt.mpr c_1)]; rfl⟩⟩
    · refine ar_aload_n (n := 2) C dX12_see_124 rfl rfl ?_
      refine ar_getr C flX12_53 rfl kd_96 rf_96_22 dX12_see_125 ?_
      refine ar_iconst (v := 2) C dX12_see_128 (by decide) ?_
      refine ar_iald (j := 2) C kd_111 (by decide) (by decide) dX12_see_129 ?_
      refine ar_topi (S0 2) (s0 2 (by decide)) ?_
      refine ar_goto (tgt := 140) C dX12_see_130 (by decide) ?_
      refine ar_topi (f_max (S0 2) (S1 2)) (fmx_gt c_2) ?_
      refine ar_istore (als' := [(7, .int (f_max (S0 2) (S1 2))), (5, .long ((S1 3).toInt64)), (3, .long ((S0 3).toInt64)), (0, .ref 96), (1, .int p), (2, .int q)]) C dX12_see_140 (by decide) rfl ?_
      refine ar_aload_n (n := 3) C dX12_see_142 rfl rfl ?_
      refine ar_getlV (v := g_lo0 S0 S1 p.toInt64 q.toInt64) C flX12_181 kd_96 rfl dX12_see_143 ?_
      refine ar_topl (g_lo S0 S1 p.toInt64 q.toInt64) (by unfold g_lo; first | rw [if_pos c_1] | rw [if_neg c_1] | rw [if_neg (Int64.not_lt.mpr c_1)]) ?_
      refine ar_lconst (v := 0) C dX12_see_146 (by decide) ?_
      refine ar_lc_eq (tgt := 171) C dX12_see_147 dX12_see_148 (by decide) (fun c_5 => ?_) (fun c_5 => ?_)
      · refine ar_iconst (v := 0) C dX12_see_171 (by decide) ?_
        exact ar_zreturn C rfl rfl dX12_see_172 ⟨by unfold g_ok; simp [bI, *]; done, rfl, ⟨rfl, by show _ = g_lo S0 S1 p.toInt64 q.toInt64; unfold g_lo; first | rw [if_pos c_1]; rfl | rw [if_neg c_1]; rfl | rw [if_neg (Int64.not_lt.mpr c_1)]; rfl, by show _ = g_up S0 S1 p.toInt64 q.toInt64; unfold g_up; first | rw [if_pos c_1]; rfl | rw [if_neg c_1]; rfl | rw [if_neg (Int64.not_lt.mpr c_1)]; rfl⟩⟩
      · refine ar_aload_n (n := 3) C dX12_see_151 rfl rfl ?_
        refine ar_getlV (v := g_up0 S0 S1 p.toInt64 q.toInt64) C flX12_185 kd_96 rfl dX12_see_152 ?_
        refine ar_topl (g_up S0 S1 p.toInt64 q.toInt64) (by unfold g_up; first | rw [if_pos c_1] | rw [if_neg c_1] | rw [if_neg (Int64.not_lt.mpr c_1)]) ?_
        refine ar_aload_n (n := 3) C dX12_see_155 rfl rfl ?_
        refine ar_getlV (v := g_lo0 S0 S1 p.toInt64 q.toInt64) C flX12_181 kd_96 rfl dX12_see_156 ?_
        refine ar_topl (g_lo S0 S1 p.toInt64 q.toInt64) (by unfold g_lo; first | rw [if_pos c_1] | rw [if_neg c_1] | rw [if_neg (Int64.not_lt.mpr c_1)]) ?_
        refine ar_iload (n := 0) C dX12_see_159 rfl ?_
        refine ar_i2l C dX12_see_161 ?_
        refine ar_lmul C dX12_see_162 ?_
        refine ar_lc_le (tgt := 171) C dX12_see_163 dX12_see_164 (by decide) (fun c_6 => ?_) (fun c_6 => ?_)
        · refine ar_iconst (v := 0) C dX12_see_171 (by decide) ?_
          exact ar_zreturn C rfl rfl dX12_see_172 ⟨by unfold g_ok; simp [bI, *]; done, rfl, ⟨rfl, by show _ = g_lo S0 S1 p.toInt64 q.toInt64; unfold g_lo; first | rw [if_pos c_1]; rfl | rw [if_neg c_1]; rfl | rw [if_neg (Int64.not_lt.mpr c_1)]; rfl, by show _ = g_up S0 S1 p.toInt64 q.toInt64; unfold g_up; first | rw [if_pos c_1]; rfl | rw [if_neg c_1]; rfl | rw [if_neg (Int64.not_lt.mpr c_1)]; rfl⟩⟩
        · refine ar_iconst (v := 1) C dX12_see_167 (by decide) ?_
          refine ar_goto (tgt := 172) C dX12_see_168 (by decide) ?_
          exact ar_zreturn C rfl rfl dX12_see_172 ⟨by unfold g_ok; simp [bI, *]; done, rfl, ⟨rfl, by show _ = g_lo S0 S1 p.toInt64 q.toInt64; unfold g_lo; first | rw [if_pos c_1]; rfl | rw [if_neg c_1]; rfl | rw [if_neg (Int64.not_lt.mpr c_1)]; rfl, by show _ = g_up S0 S1 p.toInt64 q.toInt64; unfold g_up; first | rw [if_pos c_1]; rfl | rw [if_neg c_1]; rfl | rw [if_neg (Int64.not_lt.mpr c_1)]; rfl⟩⟩
  · refine ar_aload_n (n := 2) C dX12_see_90 rfl rfl ?_
    refine ar_aload_n (n := 2) C dX12_see_91 rfl rfl ?_
    refine ar_getlV (v := g_lo0 S0 S1 p.toInt64 q.toInt64) C flX12_181 kd_96 rfl dX12_see_92 ?_
    refine ar_lneg C dX12_see_95 ?_
    refine ar_putl C flX12_181 kd_96 dX12_see_96 ?_
    refine ar_aload_n (n := 2) C dX12_see_99 rfl rfl ?_
    refine ar_aload_n (n := 2) C dX12_see_100 rfl rfl ?_
    refine ar_getlV (v := g_up0 S0 S1 p.toInt64 q.toInt64) C flX12_185 kd_96 rfl dX12_see_101 ?_
    refine ar_lneg C dX12_see_104 ?_
    refine ar_putl C flX12_185 kd_96 dX12_see_105 ?_
    refine ar_aload_n (n := 2) C dX12_see_108 rfl rfl ?_
    refine ar_getr C flX12_53 rfl kd_96 rf_96_22 dX12_see_109 ?_
    refine ar_iconst (v := 2) C dX12_see_112 (by decide) ?_
    refine ar_iald (j := 2) C kd_111 (by decide) (by decide) dX12_see_113 ?_
    refine ar_topi (S0 2) (s0 2 (by decide)) ?_
    refine ar_aload_n (n := 2) C dX12_see_114 rfl rfl ?_
    refine ar_getr C flX12_53 rfl kd_96 rf_96_22 dX12_see_115 ?_
    refine ar_bipush (v := 6) C dX12_see_118 (by decide) ?_
    refine ar_iald (j := 6) C kd_111 (by decide) (by decide) dX12_see_120 ?_
    refine ar_topi (S1 2) (s1 2 (by decide)) ?_
    refine ar_icmp_le (tgt := 133) C dX12_see_121 (by decide) (fun c_7 => ?_) (fun c_7 => ?_)
    · refine ar_aload_n (n := 2) C dX12_see_133 rfl rfl ?_
      refine ar_getr C flX12_53 rfl kd_96 rf_96_22 dX12_see_134 ?_
      refine ar_bipush (v := 6) C dX12_see_137 (by decide) ?_
      refine ar_iald (j := 6) C kd_111 (by decide) (by decide) dX12_see_139 ?_
      refine ar_topi (f_max (S0 2) (S1 2)) ((s1 2 (by decide)).trans (fmx_le c_7)) ?_
      refine ar_istore (als' := [(7, .int (f_max (S0 2) (S1 2))), (5, .long ((S1 3).toInt64)), (3, .long ((S0 3).toInt64)), (0, .ref 96), (1, .int p), (2, .int q)]) C dX12_see_140 (by decide) rfl ?_
      refine ar_aload_n (n := 3) C dX12_see_142 rfl rfl ?_
      refine ar_getlV (v := -(g_lo0 S0 S1 p.toInt64 q.toInt64)) C flX12_181 kd_96 rfl dX12_see_143 ?_
      refine ar_topl (g_lo S0 S1 p.toInt64 q.toInt64) (by unfold g_lo; first | rw [if_pos c_1] | rw [if_neg c_1] | rw [if_neg (Int64.not_lt.mpr c_1)]) ?_
      refine ar_lconst (v := 0) C dX12_see_146 (by decide) ?_
      refine ar_lc_eq (tgt := 171) C dX12_see_147 dX12_see_148 (by decide) (fun c_8 => ?_) (fun c_8 => ?_)
      · refine ar_iconst (v := 0) C dX12_see_171 (by decide) ?_
        exact ar_zreturn C rfl rfl dX12_see_172 ⟨by unfold g_ok; simp [bI, *]; done, rfl, ⟨rfl, by show _ = g_lo S0 S1 p.toInt64 q.toInt64; unfold g_lo; first | rw [if_pos c_1]; rfl | rw [if_neg c_1]; rfl | rw [if_neg (Int64.not_lt.mpr c_1)]; rfl, by show _ = g_up S0 S1 p.toInt64 q.toInt64; unfold g_up; first | rw [if_pos c_1]; rfl | rw [if_neg c_1]; rfl | rw [if_neg (Int64.not_lt.mpr c_1)]; rfl⟩⟩
      · refine ar_aload_n (n := 3) C dX12_see_151 rfl rfl ?_
        refine ar_getlV (v := -(g_up0 S0 S1 p.toInt64 q.toInt64)) C flX12_185 kd_96 rfl dX12_see_152 ?_
        refine ar_topl (g_up S0 S1 p.toInt64 q.toInt64) (by unfold g_up; first | rw [if_pos c_1] | rw [if_neg c_1] | rw [if_neg (Int64.not_lt.mpr c_1)]) ?_
        refine ar_aload_n (n := 3) C dX12_see_155 rfl rfl ?_
        refine ar_getlV (v := -(g_lo0 S0 S1 p.toInt64 q.toInt64)) C flX12_181 kd_96 rfl dX12_see_156 ?_
        refine ar_topl (g_lo S0 S1 p.toInt64 q.toInt64) (by unfold g_lo; first | rw [if_pos c_1] | rw [if_neg c_1] | rw [if_neg (Int64.not_lt.mpr c_1)]) ?_
        refine ar_iload (n := 0) C dX12_see_159 rfl ?_
        refine ar_i2l C dX12_see_161 ?_
        refine ar_lmul C dX12_see_162 ?_
        refine ar_lc_le (tgt := 171) C dX12_see_163 dX12_see_164 (by decide) (fun c_9 => ?_) (fun c_9 => ?_)
        · refine ar_iconst (v := 0) C dX12_see_171 (by decide) ?_
          exact ar_zreturn C rfl rfl dX12_see_172 ⟨by unfold g_ok; simp [bI, *]; done, rfl, ⟨rfl, by show _ = g_lo S0 S1 p.toInt64 q.toInt64; unfold g_lo; first | rw [if_pos c_1]; rfl | rw [if_neg c_1]; rfl | rw [if_neg (Int64.not_lt.mpr c_1)]; rfl, by show _ = g_up S0 S1 p.toInt64 q.toInt64; unfold g_up; first | rw [if_pos c_1]; rfl | rw [if_neg c_1]; rfl | rw [if_neg (Int64.not_lt.mpr c_1)]; rfl⟩⟩
        · refine ar_iconst (v := 1) C dX12_see_167 (by decide) ?_
          refine ar_goto (tgt := 172) C dX12_see_168 (by decide) ?_
          exact ar_zreturn C rfl rfl dX12_see_172 ⟨by unfold g_ok; simp [bI, *]; done, rfl, ⟨rfl, by show _ = g_lo S0 S1 p.toInt64 q.toInt64; unfold g_lo; first | rw [if_pos c_1]; rfl | rw [if_neg c_1]; rfl | rw [if_neg (Int64.not_lt.mpr c_1)]; rfl, by show _ = g_up S0 S1 p.toInt64 q.toInt64; unfold g_up; first | rw [if_pos c_1]; rfl | rw [if_neg c_1]; rfl | rw [if_neg (Int64.not_lt.mpr c_1)]; rfl⟩⟩
    · refine ar_aload_n (n := 2) C dX12_see_124 rfl rfl ?_
      refine ar_getr C flX12_53 rfl kd_96 rf_96_22 dX12_see_125 ?_
      refine ar_iconst (v := 2) C dX12_see_128 (by decide) ?_
      refine ar_iald (j := 2) C kd_111 (by decide) (by decide) dX12_see_129 ?_
      refine ar_topi (S0 2) (s0 2 (by decide)) ?_
      refine ar_goto (tgt := 140) C dX12_see_130 (by decide) ?_
      refine ar_topi (f_max (S0 2) (S1 2)) (fmx_gt c_7) ?_
      refine ar_istore (als' := [(7, .int (f_max (S0 2) (S1 2))), (5, .long ((S1 3).toInt64)), (3, .long ((S0 3).toInt64)), (0, .ref 96), (1, .int p), (2, .int q)]) C dX12_see_140 (by decide) rfl ?_
      refine ar_aload_n (n := 3) C dX12_see_142 rfl rfl ?_
      refine ar_getlV (v := -(g_lo0 S0 S1 p.toInt64 q.toInt64)) C flX12_181 kd_96 rfl dX12_see_143 ?_
      refine ar_topl (g_lo S0 S1 p.toInt64 q.toInt64) (by unfold g_lo; first | rw [if_pos c_1] | rw [if_neg c_1] | rw [if_neg (Int64.not_lt.mpr c_1)]) ?_
      refine ar_lconst (v := 0) C dX12_see_146 (by decide) ?_
      refine ar_lc_eq (tgt := 171) C dX12_see_147 dX12_see_148 (by decide) (fun c_10 => ?_) (fun c_10 => ?_)
      · refine ar_iconst (v := 0) C dX12_see_171 (by decide) ?_
        exact ar_zreturn C rfl rfl dX12_see_172 ⟨by unfold g_ok; simp [bI, *]; done, rfl, ⟨rfl, by show _ = g_lo S0 S1 p.toInt64 q.toInt64; unfold g_lo; first | rw [if_pos c_1]; rfl | rw [if_neg c_1]; rfl | rw [if_neg (Int64.not_lt.mpr c_1)]; rfl, by show _ = g_up S0 S1 p.toInt64 q.toInt64; unfold g_up; first | rw [if_pos c_1]; rfl | rw [if_neg c_1]; rfl | rw [if_neg (Int64.not_lt.mpr c_1)]; rfl⟩⟩
      · refine ar_aload_n (n := 3) C dX12_see_151 rfl rfl ?_
        refine ar_getlV (v := -(g_up0 S0 S1 p.toInt64 q.toInt64)) C flX12_185 kd_96 rfl dX12_see_152 ?_
        refine ar_topl (g_up S0 S1 p.toInt64 q.toInt64) (by unfold g_up; first | rw [if_pos c_1] | rw [if_neg c_1] | rw [if_neg (Int64.not_lt.mpr c_1)]) ?_
        refine ar_aload_n (n := 3) C dX12_see_155 rfl rfl ?_
        refine ar_getlV (v := -(g_lo0 S0 S1 p.toInt64 q.toInt64)) C flX12_181 kd_96 rfl dX12_see_156 ?_
        refine ar_topl (g_lo S0 S1 p.toInt64 q.toInt64) (by unfold g_lo; first | rw [if_pos c_1] | rw [if_neg c_1] | rw [if_neg (Int64.not_lt.mpr c_1)]) ?_
        refine ar_iload (n := 0) C dX12_see_159 rfl ?_
        refine ar_i2l C dX12_see_161 ?_
        refine ar_lmul C dX12_see_162 ?_
        refine ar_lc_le (tgt := 171) C dX12_see_163 dX12_see_164 (by decide) (fun c_11 => ?_) (fun c_11 => ?_)
        · refine ar_iconst (v := 0) C dX12_see_171 (by decide) ?_
          exact ar_zreturn C rfl rfl dX12_see_172 ⟨by unfold g_ok; simp [bI, *]; done, rfl, ⟨rfl, by show _ = g_lo S0 S1 p.toInt64 q.toInt64; unfold g_lo; first | rw [if_pos c_1]; rfl | rw [if_neg c_1]; rfl | rw [if_neg (Int64.not_lt.mpr c_1)]; rfl, by show _ = g_up S0 S1 p.toInt64 q.toInt64; unfold g_up; first | rw [if_pos c_1]; rfl | rw [if_neg c_1]; rfl | rw [if_neg (Int64.not_lt.mpr c_1)]; rfl⟩⟩
        · refine ar_iconst (v := 1) C dX12_see_167 (by decide) ?_
          refine ar_goto (tgt := 172) C dX12_see_168 (by decide) ?_
          exact ar_zreturn C rfl rfl dX12_see_172 ⟨by unfold g_ok; simp [bI, *]; done, rfl, ⟨rfl, by show _ = g_lo S0 S1 p.toInt64 q.toInt64; unfold g_lo; first | rw [if_pos c_1]; rfl | rw [if_neg c_1]; rfl | rw [if_neg (Int64.not_lt.mpr c_1)]; rfl, by show _ = g_up S0 S1 p.toInt64 q.toInt64; unfold g_up; first | rw [if_pos c_1]; rfl | rw [if_neg c_1]; rfl | rw [if_neg (Int64.not_lt.mpr c_1)]; rfl⟩⟩
set_option maxHeartbeats 4000000 in
set_option maxRecDepth 100000 in
theorem m_far_bad (M : Mm) (p q w : Int32)  (hbad : (f_in p (-1000) 1000 && f_in q (-1000) 1000 && f_in w 0 1) = false) : AX mX12_far 2 [.ref 96, .int p, .int q, .int w] M (some (.long (-1000001))) (wi M 96 0 0) := by
  refine AM_ofF (by decide +kernel) (Nat.le_of_ble_eq_true rfl) (fun X V C _ _ => ?_)
  show AW X V mX12_far.2.2.1 T0 M 0 0 _ 0 [(0, .ref 96), (1, .int p), (2, .int q), (3, .int w)] []
  refine ar_aload_n (n := 0) C dX12_far_0 rfl rfl ?_
  refine ar_iconst (v := 0) C dX12_far_1 (by decide) ?_
  refine ar_puti C flX12_59 kd_96 dX12_far_2 ?_
  refine ar_iload_n (n := 1) C dX12_far_5 rfl rfl ?_
  refine cS1 (ar := [.int p]) (st := []) C lkX12_188 (k_mSight (wi M 96 0 0) p) (by decide) rfl (Nat.le_of_ble_eq_true rfl) rfl dX12_far_6 ?_
  refine ar_if_eqB (tgt := 29) C dX12_far_9 (by decide) (fun c_1 => ?_) (fun c_1 => ?_)
  · refine ar_ldc2 C kcX12_191 dX12_far_29 ?_
    exact ar_lreturn C rfl dX12_far_32 ⟨rfl, rfl, rfl⟩
  · refine ar_iload_n (n := 2) C dX12_far_12 rfl rfl ?_
    refine cS1 (ar := [.int q]) (st := []) C lkX12_188 (k_mSight (wi M 96 0 0) q) (by decide) rfl (Nat.le_of_ble_eq_true rfl) rfl dX12_far_13 ?_
    refine ar_if_eqB (tgt := 29) C dX12_far_16 (by decide) (fun c_2 => ?_) (fun c_2 => ?_)
    · refine ar_ldc2 C kcX12_191 dX12_far_29 ?_
      exact ar_lreturn C rfl dX12_far_32 ⟨rfl, rfl, rfl⟩
    · refine ar_iload_n (n := 3) C dX12_far_19 rfl rfl ?_
      refine ar_i2l C dX12_far_20 ?_
      refine ar_lconst (v := 0) C dX12_far_21 (by decide) ?_
      refine ar_lconst (v := 1) C dX12_far_22 (by decide) ?_
      refine cS1 (ar := [.long w.toInt64, .long 0, .long 1]) (st := []) C lkX12_69 (k_inI (wi M 96 0 0) w 0 1 _ _ (by decide) (by decide)) (by decide) rfl (Nat.le_of_ble_eq_true rfl) rfl dX12_far_23 ?_
      refine ar_if_neB (tgt := 33) C dX12_far_26 (by decide) (fun c_3 => ?_) (fun c_3 => ?_)
      · exact absurd hbad (by first | (rw [c_1]; decide) | simp [*])
      · refine ar_ldc2 C kcX12_191 dX12_far_29 ?_
        exact ar_lreturn C rfl dX12_far_32 ⟨rfl, rfl, rfl⟩
set_option maxHeartbeats 4000000 in
set_option maxRecDepth 100000 in
theorem m_far_0 (M : Mm) (p q : Int32) (hp : f_in p (-1000) 1000 = true) (hq : f_in q (-1000) 1000 = true) {S0 S1 : Nat → Int32} (hS : M2 M S0 S1) : AQ mX12_far 2 [.ref 96, .int p, .int q, .int 0] M (some (.long (if g_ok S0 S1 p.toInt64 q.toInt64 = true then g_up S0 S1 p.toInt64 q.toInt64 else -1000000))) (fun M1 => M1.1 = (wi M 96 0 0).1) := by
  refine AM_ofF (by decide +kernel) (Nat.le_of_ble_eq_true rfl) (fun X V C _ _ => ?_)
  show AW X V mX12_far.2.2.1 T0 M 0 0 _ 0 [(0, .ref 96), (1, .int p), (2, .int q), (3, .int 0)] []
  refine ar_aload_n (n := 0) C dX12_far_0 rfl rfl ?_
  refine ar_iconst (v := 0) C dX12_far_1 (by decide) ?_
  refine ar_puti C flX12_59 kd_96 dX12_far_2 ?_
  refine ar_iload_n (n := 1) C dX12_far_5 rfl rfl ?_
  refine cS1 (ar := [.int p]) (st := []) C lkX12_188 (k_mSight (wi M 96 0 0) p) (by decide) rfl (Nat.le_of_ble_eq_true rfl) rfl dX12_far_6 ?_
  refine ar_if_eqB (tgt := 29) C dX12_far_9 (by decide) (fun c_1 => False.elim (Bool.noConfusion (hp.symm.trans c_1))) (fun _ => ?_)
  refine ar_iload_n (n := 2) C dX12_far_12 rfl rfl ?_
  refine cS1 (ar := [.int q]) (st := []) C lkX12_188 (k_mSight (wi M 96 0 0) q) (by decide) rfl (Nat.le_of_ble_eq_true rfl) rfl dX12_far_13 ?_
  refine ar_if_eqB (tgt := 29) C dX12_far_16 (by decide) (fun c_2 => False.elim (Bool.noConfusion (hq.symm.trans c_2))) (fun _ => ?_)
  refine ar_iload_n (n := 3) C dX12_far_19 rfl rfl ?_
  refine ar_i2l C dX12_far_20 ?_
  refine ar_lconst (v := 0) C dX12_far_21 (by decide) ?_
  refine ar_lconst (v := 1) C dX12_far_22 (by decide) ?_
  refine cS1 (ar := [.long ((0 : Int32).toInt64), .long 0, .long 1]) (st := []) C lkX12_69 (k_inI (wi M 96 0 0) 0 0 1 _ _ (by decide) (by decide)) (by decide) rfl (Nat.le_of_ble_eq_true rfl) rfl dX12_far_23 ?_
  refine ar_if_neB (tgt := 33) C dX12_far_26 (by decide) (fun _ => ?_) (fun c_3 => False.elim (Bool.noConfusion ((show f_in 0 0 1 = true by decide).symm.trans c_3)))
  refine ar_aload_n (n := 0) C dX12_far_33 rfl rfl ?_
  refine ar_iload_n (n := 1) C dX12_far_34 rfl rfl ?_
  refine ar_iload_n (n := 2) C dX12_far_35 rfl rfl ?_
  refine cV1q (ar := [.int p, .int q]) (st := []) C lkX12_193 kd_96 (m_see (wi M 96 0 0) p q (na_in hp) (na_in hq) (M2_o rfl hS)) (by decide) rfl (Nat.le_of_ble_eq_true rfl) rfl dX12_far_36 (fun M_4 h_5 => ?_)
  refine ar_if_neB (tgt := 48) C dX12_far_39 (by decide) (fun c_6 => ?_) (fun c_6 => ?_)
  · refine ar_iload_n (n := 3) C dX12_far_48 rfl rfl ?_
    refine ar_if_ne (tgt := 59) C dX12_far_49 (by decide) (fun c_7 => absurd c_7 (by decide)) (fun _ => ?_)
    refine ar_aload_n (n := 0) C dX12_far_52 rfl rfl ?_
    refine ar_getl C flX12_185 kd_96 dX12_far_53 ?_
    refine ar_topl (g_up S0 S1 p.toInt64 q.toInt64) h_5.2.2 ?_
    refine ar_goto (tgt := 63) C dX12_far_56 (by decide) ?_
    exact ar_lreturn C rfl dX12_far_63 ⟨by rw [if_pos c_6], rfl, h_5.1⟩
  · refine ar_ldc2 C kcX12_197 dX12_far_42 ?_
    refine ar_goto (tgt := 63) C dX12_far_45 (by decide) ?_
    exact ar_lreturn C rfl dX12_far_63 ⟨by rw [if_neg (by rw [c_6]; decide)], rfl, h_5.1⟩
set_option maxHeartbeats 4000000 in
set_option maxRecDepth 100000 in
theorem m_far_1 (M : Mm) (p q : Int32) (hp : f_in p (-1000) 1000 = true) (hq : f_in q (-1000) 1000 = true) {S0 S1 : Nat → Int32} (hS : M2 M S0 S1) : AQ mX12_far 2 [.ref 96, .int p, .int q, .int 1] M (some (.long (if g_ok S0 S1 p.toInt64 q.toInt64 = true then g_lo S0 S1 p.toInt64 q.toInt64 else -1000000))) (fun M1 => M1.1 = (wi M 96 0 0).1) := by
  refine AM_ofF (by decide +kernel) (Nat.le_of_ble_eq_true rfl) (fun X V C _ _ => ?_)
  show AW X V mX12_far.2.2.1 T0 M 0 0 _ 0 [(0, .ref 96), (1, .int p), (2, .int q), (3, .int 1)] []
  refine ar_aload_n (n := 0) C dX12_far_0 rfl rfl ?_
  refine ar_iconst (v := 0) C dX12_far_1 (by decide) ?_
  refine ar_puti C flX12_59 kd_96 dX12_far_2 ?_
  refine ar_iload_n (n := 1) C dX12_far_5 rfl rfl ?_
  refine cS1 (ar := [.int p]) (st := []) C lkX12_188 (k_mSight (wi M 96 0 0) p) (by decide) rfl (Nat.le_of_ble_eq_true rfl) rfl dX12_far_6 ?_
  refine ar_if_eqB (tgt := 29) C dX12_far_9 (by decide) (fun c_1 => False.elim (Bool.noConfusion (hp.symm.trans c_1))) (fun _ => ?_)
  refine ar_iload_n (n := 2) C dX12_far_12 rfl rfl ?_
  refine cS1 (ar := [.int q]) (st := []) C lkX12_188 (k_mSight (wi M 96 0 0) q) (by decide) rfl (Nat.le_of_ble_eq_true rfl) rfl dX12_far_13 ?_
  refine ar_if_eqB (tgt := 29) C dX12_far_16 (by decide) (fun c_2 => False.elim (Bool.noConfusion (hq.symm.trans c_2))) (fun _ => ?_)
  refine ar_iload_n (n := 3) C dX12_far_19 rfl rfl ?_
  refine ar_i2l C dX12_far_20 ?_
  refine ar_lconst (v := 0) C dX12_far_21 (by decide) ?_
  refine ar_lconst (v := 1) C dX12_far_22 (by decide) ?_
  refine cS1 (ar := [.long ((1 : Int32).toInt64), .long 0, .long 1]) (st := []) C lkX12_69 (k_inI (wi M 96 0 0) 1 0 1 _ _ (by decide) (by decide)) (by decide) rfl (Nat.le_of_ble_eq_true rfl) rfl dX12_far_23 ?_
  refine ar_if_neB (tgt := 33) C dX12_far_26 (by decide) (fun _ => ?_) (fun c_3 => False.elim (Bool.noConfusion ((show f_in 1 0 1 = true by decide).symm.trans c_3)))
  refine ar_aload_n (n := 0) C dX12_far_33 rfl rfl ?_
  refine ar_iload_n (n := 1) C dX12_far_34 rfl rfl ?_
  refine ar_iload_n (n := 2) C dX12_far_35 rfl rfl ?_
  refine cV1q (ar := [.int p, .int q]) (st := []) C lkX12_193 kd_96 (m_see (wi M 96 0 0) p q (na_in hp) (na_in hq) (M2_o rfl hS)) (by decide) rfl (Nat.le_of_ble_eq_true rfl) rfl dX12_far_36 (fun M_4 h_5 => ?_)
  refine ar_if_neB (tgt := 48) C dX12_far_39 (by decide) (fun c_6 => ?_) (fun c_6 => ?_)
  · refine ar_iload_n (n := 3) C dX12_far_48 rfl rfl ?_
    refine ar_if_ne (tgt := 59) C dX12_far_49 (by decide) (fun _ => ?_) (fun c_7 => absurd c_7 (by decide))
    refine ar_aload_n (n := 0) C dX12_far_59 rfl rfl ?_
    refine ar_getl C flX12_181 kd_96 dX12_far_60 ?_
    refine ar_topl (g_lo S0 S1 p.toInt64 q.toInt64) h_5.2.1 ?_
    exact ar_lreturn C rfl dX12_far_63 ⟨by rw [if_pos c_6], rfl, h_5.1⟩
  · refine ar_ldc2 C kcX12_197 dX12_far_42 ?_
    refine ar_goto (tgt := 63) C dX12_far_45 (by decide) ?_
    exact ar_lreturn C rfl dX12_far_63 ⟨by rw [if_neg (by rw [c_6]; decide)], rfl, h_5.1⟩
set_option maxHeartbeats 4000000 in
set_option maxRecDepth 100000 in
theorem m_high_bad (M : Mm) (p q r : Int32)  (hbad : (f_in p (-1000) 1000 && f_in q (-1000) 1000 && f_in r (-1000) 1000) = false) : AX mX12_high 2 [.ref 96, .int p, .int q, .int r] M (some (.long (-1000001))) (wi M 96 0 0) := by
  refine AM_ofF (by decide +kernel) (Nat.le_of_ble_eq_true rfl) (fun X V C _ _ => ?_)
  show AW X V mX12_high.2.2.1 T0 M 0 0 _ 0 [(0, .ref 96), (1, .int p), (2, .int q), (3, .int r)] []
  refine ar_aload_n (n := 0) C dX12_high_0 rfl rfl ?_
  refine ar_iconst (v := 0) C dX12_high_1 (by decide) ?_
  refine ar_puti C flX12_59 kd_96 dX12_high_2 ?_
  refine ar_iload_n (n := 1) C dX12_high_5 rfl rfl ?_
  refine cS1 (ar := [.int p]) (st := []) C lkX12_188 (k_mSight (wi M 96 0 0) p) (by decide) rfl (Nat.le_of_ble_eq_true rfl) rfl dX12_high_6 ?_
  refine ar_if_eqB (tgt := 26) C dX12_high_9 (by decide) (fun c_1 => ?_) (fun c_1 => ?_)
  · refine ar_ldc2 C kcX12_191 dX12_high_26 ?_
    exact ar_lreturn C rfl dX12_high_29 ⟨rfl, rfl, rfl⟩
  · refine ar_iload_n (n := 2) C dX12_high_12 rfl rfl ?_
    refine cS1 (ar := [.int q]) (st := []) C lkX12_188 (k_mSight (wi M 96 0 0) q) (by decide) rfl (Nat.le_of_ble_eq_true rfl) rfl dX12_high_13 ?_
    refine ar_if_eqB (tgt := 26) C dX12_high_16 (by decide) (fun c_2 => ?_) (fun c_2 => ?_)
    · refine ar_ldc2 C kcX12_191 dX12_high_26 ?_
      exact ar_lreturn C rfl dX12_high_29 ⟨rfl, rfl, rfl⟩
    · refine ar_iload_n (n := 3) C dX12_high_19 rfl rfl ?_
      refine cS1 (ar := [.int r]) (st := []) C lkX12_188 (k_mSight (wi M 96 0 0) r) (by decide) rfl (Nat.le_of_ble_eq_true rfl) rfl dX12_high_20 ?_
      refine ar_if_neB (tgt := 30) C dX12_high_23 (by decide) (fun c_3 => ?_) (fun c_3 => ?_)
      · exact absurd hbad (by first | (rw [c_1]; decide) | simp [*])
      · refine ar_ldc2 C kcX12_191 dX12_high_26 ?_
        exact ar_lreturn C rfl dX12_high_29 ⟨rfl, rfl, rfl⟩
set_option maxHeartbeats 4000000 in
set_option maxRecDepth 100000 in
theorem m_high (M : Mm) (p q r : Int32) (hp : f_in p (-1000) 1000 = true) (hq : f_in q (-1000) 1000 = true) (hr : f_in r (-1000) 1000 = true) {S0 S1 : Nat → Int32} (hS : M2 M S0 S1) : AQ mX12_high 2 [.ref 96, .int p, .int q, .int r] M (some (.long (if g_ok S0 S1 p.toInt64 q.toInt64 = true then g_high S0 (g_lo S0 S1 p.toInt64 q.toInt64) (g_up S0 S1 p.toInt64 q.toInt64) r.toInt64 else -1000000))) (fun M1 => M1.1 = (wi M 96 0 0).1) := by
  refine AM_ofF (by decide +kernel) (Nat.le_of_ble_eq_true rfl) (fun X V C _ _ => ?_)
  show AW X V mX12_high.2.2.1 T0 M 0 0 _ 0 [(0, .ref 96), (1, .int p), (2, .int q), (3, .int r)] []
  refine ar_aload_n (n := 0) C dX12_high_0 rfl rfl ?_
  refine ar_iconst (v := 0) C dX12_high_1 (by decide) ?_
  refine ar_puti C flX12_59 kd_96 dX12_high_2 ?_
  refine ar_iload_n (n := 1) C dX12_high_5 rfl rfl ?_
  refine cS1 (ar := [.int p]) (st := []) C lkX12_188 (k_mSight (wi M 96 0 0) p) (by decide) rfl (Nat.le_of_ble_eq_true rfl) rfl dX12_high_6 ?_
  refine ar_if_eqB (tgt := 26) C dX12_high_9 (by decide) (fun c_1 => False.elim (Bool.noConfusion (hp.symm.trans c_1))) (fun _ => ?_)
  refine ar_iload_n (n := 2) C dX12_high_12 rfl rfl ?_
  refine cS1 (ar := [.int q]) (st := []) C lkX12_188 (k_mSight (wi M 96 0 0) q) (by decide) rfl (Nat.le_of_ble_eq_true rfl) rfl dX12_high_13 ?_
  refine ar_if_eqB (tgt := 26) C dX12_high_16 (by decide) (fun c_2 => False.elim (Bool.noConfusion (hq.symm.trans c_2))) (fun _ => ?_)
  refine ar_iload_n (n := 3) C dX12_high_19 rfl rfl ?_
  refine cS1 (ar := [.int r]) (st := []) C lkX12_188 (k_mSight (wi M 96 0 0) r) (by decide) rfl (Nat.le_of_ble_eq_true rfl) rfl dX12_high_20 ?_
  refine ar_if_neB (tgt := 30) C dX12_high_23 (by decide) (fun _ => ?_) (fun c_3 => False.elim (Bool.noConfusion (hr.symm.trans c_3)))
  refine ar_aload_n (n := 0) C dX12_high_30 rfl rfl ?_
  refine ar_iload_n (n := 1) C dX12_high_31 rfl rfl ?_
  refine ar_iload_n (n := 2) C dX12_high_32 rfl rfl ?_
  refine cV1q (ar := [.int p, .int q]) (st := []) C lkX12_193 kd_96 (m_see (wi M 96 0 0) p q (na_in hp) (na_in hq) (M2_o rfl hS)) (by decide) rfl (Nat.le_of_ble_eq_true rfl) rfl dX12_high_33 (fun M_4 h_5 => ?_)
  refine ar_if_neB (tgt := 43) C dX12_high_36 (by decide) (fun c_6 => ?_) (fun c_6 => ?_)
  · refine ar_aload_n (n := 0) C dX12_high_43 rfl rfl ?_
    refine ar_getr C flX12_53 rfl kd_96 rf_96_22 dX12_high_44 ?_
    refine ar_iconst (v := 3) C dX12_high_47 (by decide) ?_
    refine ar_iald (j := 3) C kd_111 (by decide) (by decide) dX12_high_48 ?_
    refine ar_topi (S0 3) ((congrFun (congrFun h_5.1 111) 3).trans (hS.1 3 (by decide))) ?_
    refine ar_i2l C dX12_high_49 ?_
    refine ar_lstore (als' := [(4, .long ((S0 3).toInt64)), (0, .ref 96), (1, .int p), (2, .int q), (3, .int r)]) C dX12_high_50 (by decide) rfl ?_
    refine ar_aload_n (n := 1) C dX12_high_52 rfl rfl ?_
    refine ar_getr C flX12_53 rfl kd_96 rf_96_22 dX12_high_53 ?_
    refine ar_iconst (v := 1) C dX12_high_56 (by decide) ?_
    refine ar_iald (j := 1) C kd_111 (by decide) (by decide) dX12_high_57 ?_
    refine ar_topi (S0 1) ((congrFun (congrFun h_5.1 111) 1).trans (hS.1 1 (by decide))) ?_
    refine ar_i2l C dX12_high_58 ?_
    refine ar_aload_n (n := 1) C dX12_high_59 rfl rfl ?_
    refine ar_getl C flX12_181 kd_96 dX12_high_60 ?_
    refine ar_topl (g_lo S0 S1 p.toInt64 q.toInt64) h_5.2.1 ?_
    refine ar_lmul C dX12_high_63 ?_
    refine ar_lload (n := 0) C dX12_high_64 rfl ?_
    refine ar_lmul C dX12_high_66 ?_
    refine ar_iload_n (n := 4) C dX12_high_67 rfl rfl ?_
    refine ar_i2l C dX12_high_68 ?_
    refine ar_aload_n (n := 1) C dX12_high_69 rfl rfl ?_
    refine ar_getl C flX12_185 kd_96 dX12_high_70 ?_
    refine ar_topl (g_up S0 S1 p.toInt64 q.toInt64) h_5.2.2 ?_
    refine ar_aload_n (n := 1) C dX12_high_73 rfl rfl ?_
    refine ar_getr C flX12_53 rfl kd_96 rf_96_22 dX12_high_74 ?_
    refine ar_iconst (v := 2) C dX12_high_77 (by decide) ?_
    refine ar_iald (j := 2) C kd_111 (by decide) (by decide) dX12_high_78 ?_
    refine ar_topi (S0 2) ((congrFun (congrFun h_5.1 111) 2).trans (hS.1 2 (by decide))) ?_
    refine ar_i2l C dX12_high_79 ?_
    refine ar_aload_n (n := 1) C dX12_high_80 rfl rfl ?_
    refine ar_getl C flX12_181 kd_96 dX12_high_81 ?_
    refine ar_topl (g_lo S0 S1 p.toInt64 q.toInt64) h_5.2.1 ?_
    refine ar_lmul C dX12_high_84 ?_
    refine ar_lsub C dX12_high_85 ?_
    refine ar_lmul C dX12_high_86 ?_
    refine ar_lsub C dX12_high_87 ?_
    refine ar_aload_n (n := 1) C dX12_high_88 rfl rfl ?_
    refine ar_getl C flX12_181 kd_96 dX12_high_89 ?_
    refine ar_topl (g_lo S0 S1 p.toInt64 q.toInt64) h_5.2.1 ?_
    refine ar_lload (n := 0) C dX12_high_92 rfl ?_
    refine ar_lmul C dX12_high_94 ?_
    refine ar_ldiv C dX12_high_95 (lod_ne hS.2.2.1 hS.2.2.2 (na_in hp) (na_in hq) (ok_ne c_6)) ?_
    exact ar_lreturn C rfl dX12_high_96 ⟨by rw [if_pos c_6]; unfold g_high; rw [lby_ne (lod_ne hS.2.2.1 hS.2.2.2 (na_in hp) (na_in hq) (ok_ne c_6))], rfl, h_5.1⟩
  · refine ar_ldc2 C kcX12_197 dX12_high_39 ?_
    exact ar_lreturn C rfl dX12_high_42 ⟨by rw [if_neg (by rw [c_6]; decide)], rfl, h_5.1⟩
