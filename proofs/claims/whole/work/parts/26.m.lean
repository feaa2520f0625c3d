/-! LENSTABLE: days, bent -/
theorem sub_1 (t : Nat) (c : Int32) : nI t - c + 1 = nI (t + 1) - c := by
  rw [nI_succ, Int32.sub_eq_add_neg, Int32.sub_eq_add_neg, Int32.add_assoc, Int32.add_comm (-c) 1, ← Int32.add_assoc]
def hr (t : Nat) : Int32 := nI t - 6
theorem hr_1 (t : Nat) : hr t + 1 = hr (t + 1) := sub_1 t 6
theorem hr_toInt {t : Nat} (h : t < 1000) : (hr t).toInt = (t : Int) - 6 := pk_sub_toInt (a := t) (b := 6) (by omega) (by omega)
theorem hr_gt {t : Nat} (h : t < 1000) : (6 : Int32) < hr t ↔ 12 < t := by
  rw [Int32.lt_iff_toInt_lt, hr_toInt h, show (6 : Int32).toInt = 6 by decide]
  omega
def cv (t : Nat) : Int32 := nI t - 8
theorem cv_1 (t : Nat) : cv t + 1 = cv (t + 1) := sub_1 t 8
theorem cv_toInt {t : Nat} (h : t < 1000) : (cv t).toInt = (t : Int) - 8 := pk_sub_toInt (a := t) (b := 8) (by omega) (by omega)
theorem cv_gt {t : Nat} (h : t < 1000) : (8 : Int32) < cv t ↔ 16 < t := by
  rw [Int32.lt_iff_toInt_lt, cv_toInt h, show (8 : Int32).toInt = 8 by decide]
  omega
theorem cv_ix (t : Nat) : cv t + 8 = nI t := by
  unfold cv
  rw [Int32.sub_eq_add_neg, Int32.add_assoc]
  exact Int32.add_zero _
def dP (A : Int32 → Int32) (B : Int32 → Int32 → Int32) (aside ahead : Int32) (n : Nat) : Bool := decide (A (hr (n % 13)) = aside) && decide (B (nI (n / 13)) (hr (n % 13)) = ahead)
def fnd (P : Nat → Bool) (i : Int32) : Nat → Option Nat
  | 0 => none
  | n + 1 => match fnd P i n with
    | some x => some x
    | none => if P n = true ∧ nI (cntB P n) = i then some n else none
theorem fnd_some {P : Nat → Bool} {i : Int32} {n x : Nat} (h : fnd P i n = some x) : ∀ m, n ≤ m → fnd P i m = some x := by
  intro m
  induction m with
  | zero => intro q; rw [show n = 0 by omega] at h; exact h
  | succ m ih =>
    intro q
    rcases Nat.lt_or_ge m n with r | r
    · rw [show m + 1 = n by omega]; exact h
    · simp only [fnd]; rw [ih r]
theorem fnd_no {P : Nat → Bool} {i : Int32} {n : Nat} (h : fnd P i n = none) (q : ¬ (P n = true ∧ nI (cntB P n) = i)) : fnd P i (n + 1) = none := by
  simp only [fnd]; rw [h]; simp only; rw [if_neg q]
theorem fnd_yes {P : Nat → Bool} {i : Int32} {n : Nat} (h : fnd P i n = none) (q : P n = true ∧ nI (cntB P n) = i) : fnd P i (n + 1) = some n := by
  simp only [fnd]; rw [h]; simp only; rw [if_pos q]
def dres (n : Nat) : Int32 := 100 * nI (n / 13) + hr (n % 13) + 50
def f_days (P : Nat → Bool) (i : Int32) (nt : Nat) : Int32 := match fnd P i nt with
  | some n => dres n
  | none => if i = -1000000 then nI (cntB P nt) else -1000000
theorem days_some {P : Nat → Bool} {i : Int32} {n : Nat} (h : fnd P i n = none) (q : P n = true ∧ nI (cntB P n) = i) {nt : Nat} (hn : n < nt) : f_days P i nt = dres n := by
  unfold f_days
  rw [fnd_some (fnd_yes h q) nt (by omega)]
theorem days_none {P : Nat → Bool} {i : Int32} {nt : Nat} (h : fnd P i nt = none) : f_days P i nt = if i = -1000000 then nI (cntB P nt) else -1000000 := by
  unfold f_days
  rw [h]
theorem dP_at {A : Int32 → Int32} {B : Int32 → Int32 → Int32} {x y : Int32} {d t : Nat} (ht : t < 13) : dP A B x y (13 * d + t) = (decide (A (hr t) = x) && decide (B (nI d) (hr t) = y)) := by
  unfold dP
  rw [show (13 * d + t) % 13 = t by omega, show (13 * d + t) / 13 = d by omega]
set_option maxHeartbeats 4000000 in
set_option maxRecDepth 100000 in
theorem l_daysIn {X : Ctx} {V : Vx} {Q : State → Prop} (C : Cx X V mX11_days 2) (M : Mm) (x y h i : Int32) {D d : Nat} (hd : d < D) (k1 : ∀ v, fnd (dP (fun u => f_aside u h) (fun d u => f_ahead (f_noon d) u h) x y) i (13 * d + 13) = none → AW X V mX11_days.2.2.1 T0 M 0 0 Q 96 [(8, .int v), (7, .int (f_noon (nI d))), (6, .int (nI d)), (5, .int (nI (cntB (dP (fun u => f_aside u h) (fun d u => f_ahead (f_noon d) u h) x y) (13 * d + 13)))), (0, .ref 0), (1, .int x), (2, .int y), (3, .int h), (4, .int i)] []) (k0 : ∀ v als, f_days (dP (fun u => f_aside u h) (fun d u => f_ahead (f_noon d) u h) x y) i (13 * D) = v → AW X V mX11_days.2.2.1 T0 M 0 0 Q 86 als [.int v]) : ∀ (m : Nat) (t : Nat), t ≤ 13 → fnd (dP (fun u => f_aside u h) (fun d u => f_ahead (f_noon d) u h) x y) i (13 * d + t) = none → 13 - t < m → AW X V mX11_days.2.2.1 T0 (M) 0 0 Q 39 [(8, .int (hr t)), (7, .int (f_noon (nI d))), (6, .int (nI d)), (5, .int (nI (cntB (dP (fun u => f_aside u h) (fun d u => f_ahead (f_noon d) u h) x y) (13 * d + t)))), (0, .ref 0), (1, .int x), (2, .int y), (3, .int h), (4, .int i)] [] := by
  intro m
  induction m with
  | zero => intro t _ _ h; exact absurd h (Nat.not_lt_zero _)
  | succ m ih =>
    intro t ht0 hf hmz
    refine ar_iload (n := 0) C dX11_days_39 rfl ?_
    refine ar_bipush (v := 6) C dX11_days_41 (by decide) ?_
    refine ar_icmp_gt (tgt := 96) C dX11_days_43 (by decide) (fun c_1 => ?_) (fun c_1 => ?_)
    · have ht : t = 13 := by have q := (hr_gt (by omega)).mp c_1; omega
      subst ht
      exact k1 _ hf
    · have ht : t < 13 := by
        rcases Nat.lt_or_ge t 13 with q | q
        · exact q
        · exact absurd ((hr_gt (by omega)).mpr (by omega)) c_1
      refine ar_iload (n := 0) C dX11_days_46 rfl ?_
      refine ar_iload_n (n := 7) C dX11_days_48 rfl rfl ?_
      refine cS1 (ar := [.int (hr t), .int h]) (st := []) C lkX11_340 (k_aside M (hr t) h) (by decide) rfl (Nat.le_of_ble_eq_true rfl) rfl dX11_days_49 ?_
      refine ar_iload_n (n := 5) C dX11_days_52 rfl rfl ?_
      refine ar_icmp_ne (tgt := 90) C dX11_days_53 (by decide) (fun c_2 => ?_) (fun c_2 => ?_)
      · refine ar_iinc (n := 0) (v := (hr (t + 1))) (als' := [(8, .int (hr (t + 1))), (7, .int (f_noon (nI d))), (6, .int (nI d)), (5, .int (nI (cntB (dP (fun u => f_aside u h) (fun d u => f_ahead (f_noon d) u h) x y) (13 * d + t)))), (0, .ref 0), (1, .int x), (2, .int y), (3, .int h), (4, .int i)]) C dX11_days_90 rfl (hr_1 _) (by decide) rfl ?_
        refine ar_goto (tgt := 39) C dX11_days_93 (by decide) ?_
        have eP : (dP (fun u => f_aside u h) (fun d u => f_ahead (f_noon d) u h) x y) (13 * d + t) = false := by rw [dP_at (by omega)]; simp [c_2]
        have h0 := ih (t + 1) (by omega) (by rw [← Nat.add_assoc]; exact fnd_no hf (fun q => by rw [eP] at q; cases q.1)) (by omega)
        rw [← Nat.add_assoc, cntB_n eP] at h0
        exact h0
      · refine ar_iload (n := 1) C dX11_days_56 rfl ?_
        refine ar_iload (n := 0) C dX11_days_58 rfl ?_
        refine ar_iload_n (n := 7) C dX11_days_60 rfl rfl ?_
        refine cS1 (ar := [.int (f_noon (nI d)), .int (hr t), .int h]) (st := []) C lkX11_346 (k_ahead M (f_noon (nI d)) (hr t) h) (by decide) rfl (Nat.le_of_ble_eq_true rfl) rfl dX11_days_61 ?_
        refine ar_iload_n (n := 6) C dX11_days_64 rfl rfl ?_
        refine ar_icmp_ne (tgt := 90) C dX11_days_65 (by decide) (fun c_3 => ?_) (fun c_3 => ?_)
        · refine ar_iinc (n := 0) (v := (hr (t + 1))) (als' := [(8, .int (hr (t + 1))), (7, .int (f_noon (nI d))), (6, .int (nI d)), (5, .int (nI (cntB (dP (fun u => f_aside u h) (fun d u => f_ahead (f_noon d) u h) x y) (13 * d + t)))), (0, .ref 0), (1, .int x), (2, .int y), (3, .int h), (4, .int i)]) C dX11_days_90 rfl (hr_1 _) (by decide) rfl ?_
          refine ar_goto (tgt := 39) C dX11_days_93 (by decide) ?_
          have eP : (dP (fun u => f_aside u h) (fun d u => f_ahead (f_noon d) u h) x y) (13 * d + t) = false := by rw [dP_at (by omega)]; simp [c_3]
          have h0 := ih (t + 1) (by omega) (by rw [← Nat.add_assoc]; exact fnd_no hf (fun q => by rw [eP] at q; cases q.1)) (by omega)
          rw [← Nat.add_assoc, cntB_n eP] at h0
          exact h0
        · refine ar_iload (n := 3) C dX11_days_68 rfl ?_
          refine ar_iload (n := 8) C dX11_days_70 rfl ?_
          refine ar_icmp_ne (tgt := 87) C dX11_days_72 (by decide) (fun c_4 => ?_) (fun c_4 => ?_)
          · refine ar_iinc (n := 3) (v := (nI (cntB (dP (fun u => f_aside u h) (fun d u => f_ahead (f_noon d) u h) x y) (13 * d + t) + 1))) (als' := [(5, .int (nI (cntB (dP (fun u => f_aside u h) (fun d u => f_ahead (f_noon d) u h) x y) (13 * d + t) + 1))), (8, .int (hr t)), (7, .int (f_noon (nI d))), (6, .int (nI d)), (0, .ref 0), (1, .int x), (2, .int y), (3, .int h), (4, .int i)]) C dX11_days_87 rfl (nI_1 _) (by decide) rfl ?_
            refine ar_iinc (n := 1) (v := (hr (t + 1))) (als' := [(8, .int (hr (t + 1))), (5, .int (nI (cntB (dP (fun u => f_aside u h) (fun d u => f_ahead (f_noon d) u h) x y) (13 * d + t) + 1))), (7, .int (f_noon (nI d))), (6, .int (nI d)), (0, .ref 0), (1, .int x), (2, .int y), (3, .int h), (4, .int i)]) C dX11_days_90 rfl (hr_1 _) (by decide) rfl ?_
            refine ar_goto (tgt := 39) C dX11_days_93 (by decide) ?_
            refine ar_sub [0, 2, 3, 1, 4, 5, 6, 7, 8] rfl ?_
            have eP : (dP (fun u => f_aside u h) (fun d u => f_ahead (f_noon d) u h) x y) (13 * d + t) = true := by rw [dP_at (by omega)]; simp [c_2, c_3]
            have h0 := ih (t + 1) (by omega) (by rw [← Nat.add_assoc]; exact fnd_no hf (fun q => c_4 q.2)) (by omega)
            rw [← Nat.add_assoc, cntB_y eP] at h0
            exact h0
          · refine ar_bipush (v := 100) C dX11_days_75 (by decide) ?_
            refine ar_iload (n := 2) C dX11_days_77 rfl ?_
            refine ar_imul C dX11_days_79 ?_
            refine ar_iload (n := 0) C dX11_days_80 rfl ?_
            refine ar_iadd C dX11_days_82 ?_
            refine ar_bipush (v := 50) C dX11_days_83 (by decide) ?_
            refine ar_iadd C dX11_days_85 ?_
            refine k0 _ _ ?_
            rw [days_some hf ⟨by rw [dP_at (by omega)]; simp [c_2, c_3], c_4⟩ (by omega)]
            unfold dres
            rw [show (13 * d + t) % 13 = t by omega, show (13 * d + t) / 13 = d by omega]
set_option maxHeartbeats 4000000 in
set_option maxRecDepth 100000 in
theorem l_daysOut {X : Ctx} {V : Vx} {Q : State → Prop} (C : Cx X V mX11_days 2) (M : Mm) (x y h i : Int32) {D : Nat} (hD : D = 365) (k1 : fnd (dP (fun u => f_aside u h) (fun d u => f_ahead (f_noon d) u h) x y) i (13 * D) = none → AW X V mX11_days.2.2.1 T0 M 0 0 Q 102 [(6, .int (nI D)), (5, .int (nI (cntB (dP (fun u => f_aside u h) (fun d u => f_ahead (f_noon d) u h) x y) (13 * D)))), (0, .ref 0), (1, .int x), (2, .int y), (3, .int h), (4, .int i)] []) (k0 : ∀ v als, f_days (dP (fun u => f_aside u h) (fun d u => f_ahead (f_noon d) u h) x y) i (13 * D) = v → AW X V mX11_days.2.2.1 T0 M 0 0 Q 86 als [.int v]) : ∀ (m : Nat) (d : Nat), d ≤ D → fnd (dP (fun u => f_aside u h) (fun d u => f_ahead (f_noon d) u h) x y) i (13 * d) = none → D - d < m → AW X V mX11_days.2.2.1 T0 (M) 0 0 Q 20 [(6, .int (nI d)), (5, .int (nI (cntB (dP (fun u => f_aside u h) (fun d u => f_ahead (f_noon d) u h) x y) (13 * d)))), (0, .ref 0), (1, .int x), (2, .int y), (3, .int h), (4, .int i)] [] := by
  intro m
  induction m with
  | zero => intro d _ _ h; exact absurd h (Nat.not_lt_zero _)
  | succ m ih =>
    intro d hd0 hf hmz
    refine ar_iload (n := 0) C dX11_days_20 rfl ?_
    refine ar_sipush (v := 365) C dX11_days_22 (by decide) ?_
    refine ar_icmp_ge (tgt := 102) C dX11_days_25 (by decide) (fun c_1 => ?_) (fun c_1 => ?_)
    · have hd : d = D := Nat.le_antisymm hd0 (by rw [hD]; exact nat_le (a := 365) c_1 (by decide) (by omega))
      subst hd
      exact k1 hf
    · have hd : d < D := by rw [hD]; exact nat_nle (a := 365) c_1 (by decide) (by omega)
      refine ar_iload (n := 0) C dX11_days_28 rfl ?_
      refine cS1 (ar := [.int (nI d)]) (st := []) C lkX11_343 (k_noon M (nI d)) (by decide) rfl (Nat.le_of_ble_eq_true rfl) rfl dX11_days_30 ?_
      refine ar_istore (als' := [(7, .int (f_noon (nI d))), (6, .int (nI d)), (5, .int (nI (cntB (dP (fun u => f_aside u h) (fun d u => f_ahead (f_noon d) u h) x y) (13 * d)))), (0, .ref 0), (1, .int x), (2, .int y), (3, .int h), (4, .int i)]) C dX11_days_33 (by decide) rfl ?_
      refine ar_bipush (v := (-6)) C dX11_days_35 (by decide) ?_
      refine ar_istore (als' := [(8, .int (-6)), (7, .int (f_noon (nI d))), (6, .int (nI d)), (5, .int (nI (cntB (dP (fun u => f_aside u h) (fun d u => f_ahead (f_noon d) u h) x y) (13 * d)))), (0, .ref 0), (1, .int x), (2, .int y), (3, .int h), (4, .int i)]) C dX11_days_37 (by decide) rfl ?_
      refine l_daysIn C M x y h i (D := D) hd (fun v hf2 => ?_) k0 14 0 (by omega) hf (by omega)
      refine ar_iinc (n := 2) (v := (nI (d + 1))) (als' := [(6, .int (nI (d + 1))), (8, .int v), (7, .int (f_noon (nI d))), (5, .int (nI (cntB (dP (fun u => f_aside u h) (fun d u => f_ahead (f_noon d) u h) x y) (13 * d + 13)))), (0, .ref 0), (1, .int x), (2, .int y), (3, .int h), (4, .int i)]) C dX11_days_96 rfl (nI_1 _) (by decide) rfl ?_
      refine ar_goto (tgt := 20) C dX11_days_99 (by decide) ?_
      refine ar_sub [0, 3, 4, 5, 6, 7, 8] rfl ?_
      exact ih (d + 1) (by omega) hf2 (by omega)
set_option maxHeartbeats 4000000 in
set_option maxRecDepth 100000 in
theorem x_days_bad (M : Mm) (x y h i : Int32)  (hbad : (f_in h 1 1000) = false) : AX mX11_days 2 [.ref 0, .int x, .int y, .int h, .int i] M (some (.int (-1000001))) M := by
  refine AM_ofF (by decide +kernel) (Nat.le_of_ble_eq_true rfl) (fun X V C _ _ => ?_)
  show AW X V mX11_days.2.2.1 T0 M 0 0 _ 0 [(0, .ref 0), (1, .int x), (2, .int y), (3, .int h), (4, .int i)] []
  refine ar_iload_n (n := 3) C dX11_days_0 rfl rfl ?_
  refine ar_iconst (v := 1) C dX11_days_1 (by decide) ?_
  refine ar_sipush (v := 1000) C dX11_days_2 (by decide) ?_
  refine cS1 (ar := [.int h, .int 1, .int 1000]) (st := []) C lkX11_94 (k_within M h 1 1000) (by decide) rfl (Nat.le_of_ble_eq_true rfl) rfl dX11_days_5 ?_
  refine ar_if_neB (tgt := 14) C dX11_days_8 (by decide) (fun c_1 => ?_) (fun c_1 => ?_)
  · exact absurd hbad (by first | (rw [c_1]; decide) | simp [*])
  · refine ar_ldc C kcX11_98 dX11_days_11 ?_
    exact ar_ireturn C rfl dX11_days_13 ⟨rfl, rfl, rfl⟩
set_option maxHeartbeats 4000000 in
set_option maxRecDepth 100000 in
theorem s_days {X : Ctx} {V : Vx} {Q : State → Prop} (C : Cx X V mX11_days 2) (M : Mm) (x y h i : Int32) {D : Nat} (hf : fnd (dP (fun u => f_aside u h) (fun d u => f_ahead (f_noon d) u h) x y) i (13 * D) = none) (kk : AW X V mX11_days.2.2.1 T0 M 0 0 Q 116 [(6, .int (nI D)), (5, .int (nI (cntB (dP (fun u => f_aside u h) (fun d u => f_ahead (f_noon d) u h) x y) (13 * D)))), (0, .ref 0), (1, .int x), (2, .int y), (3, .int h), (4, .int i)] [.int (f_days (dP (fun u => f_aside u h) (fun d u => f_ahead (f_noon d) u h) x y) i (13 * D))]) : AW X V mX11_days.2.2.1 T0 (M) 0 0 Q 102 [(6, .int (nI D)), (5, .int (nI (cntB (dP (fun u => f_aside u h) (fun d u => f_ahead (f_noon d) u h) x y) (13 * D)))), (0, .ref 0), (1, .int x), (2, .int y), (3, .int h), (4, .int i)] [] := by
  refine ar_iload (n := 6) C dX11_days_102 rfl ?_
  refine ar_ldc C kcX11_237 dX11_days_104 ?_
  refine ar_icmp_ne (tgt := 114) C dX11_days_106 (by decide) (fun c_1 => ?_) (fun c_1 => ?_)
  · refine ar_ldc C kcX11_237 dX11_days_114 ?_
    refine ar_topi (f_days (dP (fun u => f_aside u h) (fun d u => f_ahead (f_noon d) u h) x y) i (13 * D)) (by rw [days_none hf, if_neg c_1]) ?_
    exact kk
  · refine ar_iload (n := 1) C dX11_days_109 rfl ?_
    refine ar_goto (tgt := 116) C dX11_days_111 (by decide) ?_
    refine ar_topi (f_days (dP (fun u => f_aside u h) (fun d u => f_ahead (f_noon d) u h) x y) i (13 * D)) (by rw [days_none hf, if_pos c_1]) ?_
    exact kk
set_option maxHeartbeats 4000000 in
set_option maxRecDepth 100000 in
theorem x_days_ok (M : Mm) (x y h i : Int32) (hh : f_in h 1 1000 = true) {D : Nat} (hD : D = 365) : AX mX11_days 2 [.ref 0, .int x, .int y, .int h, .int i] M (some (.int (f_days (dP (fun u => f_aside u h) (fun d u => f_ahead (f_noon d) u h) x y) i (13 * D)))) M := by
  refine AM_ofF (by decide +kernel) (Nat.le_of_ble_eq_true rfl) (fun X V C _ _ => ?_)
  show AW X V mX11_days.2.2.1 T0 M 0 0 _ 0 [(0, .ref 0), (1, .int x), (2, .int y), (3, .int h), (4, .int i)] []
  refine ar_iload_n (n := 3) C dX11_days_0 rfl rfl ?_
  refine ar_iconst (v := 1) C dX11_days_1 (by decide) ?_
  refine ar_sipush (v := 1000) C dX11_days_2 (by decide) ?_
  refine cS1 (ar := [.int h, .int 1, .int 1000]) (st := []) C lkX11_94 (k_within M h 1 1000) (by decide) rfl (Nat.le_of_ble_eq_true rfl) rfl dX11_days_5 ?_
  refine ar_if_neB (tgt := 14) C dX11_days_8 (by decide) (fun _ => ?_) (fun c_1 => False.elim (Bool.noConfusion (hh.symm.trans c_1)))
  refine ar_iconst (v := 0) C dX11_days_14 (by decide) ?_
  refine ar_istore (als' := [(5, .int 0), (0, .ref 0), (1, .int x), (2, .int y), (3, .int h), (4, .int i)]) C dX11_days_15 (by decide) rfl ?_
  refine ar_iconst (v := 0) C dX11_days_17 (by decide) ?_
  refine ar_istore (als' := [(6, .int 0), (5, .int 0), (0, .ref 0), (1, .int x), (2, .int y), (3, .int h), (4, .int i)]) C dX11_days_18 (by decide) rfl ?_
  refine l_daysOut C M x y h i hD (fun hf => s_days C M x y h i hf (ar_ireturn C rfl dX11_days_116 ⟨rfl, rfl, rfl⟩)) (fun v als e => ar_ireturn C rfl dX11_days_86 ⟨by rw [e], rfl, rfl⟩) (D + 1) 0 (by omega) rfl (by omega)
