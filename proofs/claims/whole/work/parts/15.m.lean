/-! LENSTABLE: its small methods; SIGHT -/
theorem ar_ldcw {X : Ctx} {V : Vx} {mb : MB} {d : Nat} {T : Tt} {M : Mm} {cl sl : Nat} {Q : State → Prop} {pc : Nat} {als : List (Nat × Value)} {st : List Value} (C : Cx X V mb d) {index : Nat} {v : Int32} (w : Cond.constant mb.1.cls index v ∈ wA) (hd : decode mb.2.1 pc = .ok (.ldc_w index, 3)) (k : AW X V mb.2.2.1 T M cl sl Q (pc + 3) als (.int v :: st)) : AW X V mb.2.2.1 T M cl sl Q pc als st := fun H locs ls hH hS hl => lv_ldcw C.1 C.2.1 C.2.2.2.1 (C.2.2.2.2.1 _ w) hd (k H locs ls hH hS hl)
def P_shows (ρ β : Nat → Int32) (x y z : Int32) : Bool := f_in (P_x ρ β x z) (-(ρ 5)) (ρ 5) && f_in (P_y ρ β x y z) (-(ρ 6)) (ρ 6)
def P_kind (ρ β : Nat → Int32) (x y z : Int32) : Int32 := if P_shows ρ β x y z = true then (if ρ 4 < P_blur ρ β x z then 1 else 2) else 3
def f_noon (day : Int32) : Int32 := 500 + f_by (1500 * f_min (f_abs (day - 172)) (365 - f_abs (day - 172))) 182
def f_aside (hour h : Int32) : Int32 := f_by (h * hour * 200) 1000
def f_ahead (noon hour h : Int32) : Int32 := f_by (h * (noon + 30 * hour * hour)) 1000
def f_place (x y z : Int32) : Bool := f_in x (-1000) 1000 && f_in y (-1000) 1000 && f_in z 1 5000
def f_stand (u v w d : Int32) : Bool := f_in u (-1000) 1000 && f_in v (-1000) 1000 && f_in w (-1000) 1000 && f_in d 1 1000
def f_told (a s n e : Int32) : Bool := f_in a 0 7 && f_in s 0 7 && f_in n 1 20 && f_in e 0 20
/-- the studio at place 'at' of sheet s, put into cell 19 -/
def rs (M : Mm) (s at_ : Nat) : Mm := wi (wi (wi (wi M 19 0 (M.1 (23 + 2 * s) at_)) 19 1 (M.1 (23 + 2 * s) (at_ + 1))) 19 2 (M.1 (23 + 2 * s) (at_ + 2))) 19 3 (M.1 (23 + 2 * s) (at_ + 3))
def st_ax (u d w x z : Int32) : Int32 := f_by (-(x - u) * d) (z - w)
def st_ap (u v w d x y z mx my : Int32) : Int32 := f_min (f_abs (mx - st_ax u d w x z)) 500 + f_min (f_abs (my - st_ax v d w y z)) 500
def st_near (u v w d x y z mx my e : Int32) : Bool := !decide (z ≤ w) && !decide (e < f_abs (mx - st_ax u d w x z)) && !decide (e < f_abs (my - st_ax v d w y z))
def g_lo0 (S0 S1 : Nat → Int32) (p q : Int64) : Int64 := q * (S0 3).toInt64 - p * (S1 3).toInt64
def g_up0 (S0 S1 : Nat → Int32) (p q : Int64) : Int64 := (S1 0 - S0 0).toInt64 * (S0 3).toInt64 * (S1 3).toInt64 - p * (S0 2).toInt64 * (S1 3).toInt64 + q * (S1 2).toInt64 * (S0 3).toInt64
def g_lo (S0 S1 : Nat → Int32) (p q : Int64) : Int64 := if g_lo0 S0 S1 p q < 0 then -g_lo0 S0 S1 p q else g_lo0 S0 S1 p q
def g_up (S0 S1 : Nat → Int32) (p q : Int64) : Int64 := if g_lo0 S0 S1 p q < 0 then -g_up0 S0 S1 p q else g_up0 S0 S1 p q
def g_ok (S0 S1 : Nat → Int32) (p q : Int64) : Bool := !decide (g_lo S0 S1 p q = 0) && decide (g_lo S0 S1 p q * (f_max (S0 2) (S1 2)).toInt64 < g_up S0 S1 p q)
def SG (M : Mm) (L U : Int64) (M1 : Mm) : Prop := M1.2 18 1 = L ∧ M1.2 18 0 = U ∧ M1.1 = M.1 ∧ ∀ k j, k ≠ 18 → M1.2 k j = M.2 k j
set_option maxHeartbeats 4000000 in
set_option maxRecDepth 100000 in
theorem k_found (M : Mm) (n : Int32) : AX mX11_found 0 [.ref 0, .int n] M (some (.int (-1000010 - n))) (wi M 0 12 n) := by
  refine AM_ofF (by decide +kernel) (Nat.le_of_ble_eq_true rfl) (fun X V C _ _ => ?_)
  show AW X V mX11_found.2.2.1 T0 M 0 0 _ 0 [(0, .ref 0), (1, .int n)] []
  refine ar_aload_n (n := 0) C dX11_found_0 rfl rfl ?_
  refine ar_iload_n (n := 1) C dX11_found_1 rfl rfl ?_
  refine ar_puti C flX11_84 kd_0 dX11_found_2 ?_
  refine ar_ldcw C kcX11_379 dX11_found_5 ?_
  refine ar_iload_n (n := 1) C dX11_found_8 rfl rfl ?_
  refine ar_isub C dX11_found_9 ?_
  exact ar_ireturn C rfl dX11_found_10 ⟨rfl, rfl, rfl⟩
set_option maxHeartbeats 4000000 in
set_option maxRecDepth 100000 in
theorem k_clean (M : Mm) (v : Int32) : AX mX11_clean 0 [.ref 0, .int v] M (some (.int v)) (wi M 0 12 0) := by
  refine AM_ofF (by decide +kernel) (Nat.le_of_ble_eq_true rfl) (fun X V C _ _ => ?_)
  show AW X V mX11_clean.2.2.1 T0 M 0 0 _ 0 [(0, .ref 0), (1, .int v)] []
  refine ar_aload_n (n := 0) C dX11_clean_0 rfl rfl ?_
  refine ar_iconst (v := 0) C dX11_clean_1 (by decide) ?_
  refine ar_puti C flX11_84 kd_0 dX11_clean_2 ?_
  refine ar_iload_n (n := 1) C dX11_clean_5 rfl rfl ?_
  exact ar_ireturn C rfl dX11_clean_6 ⟨rfl, rfl, rfl⟩
set_option maxHeartbeats 4000000 in
set_option maxRecDepth 100000 in
theorem k_isSheet (M : Mm) (s : Int32) : AX mX11_isSheet 1 [.int s] M (some (.int (bI (f_in s 0 7)))) M := by
  refine AM_ofF (by decide +kernel) (Nat.le_of_ble_eq_true rfl) (fun X V C _ _ => ?_)
  show AW X V mX11_isSheet.2.2.1 T0 M 0 0 _ 0 [(0, .int s)] []
  refine ar_iload_n (n := 0) C dX11_isSheet_0 rfl rfl ?_
  refine ar_iconst (v := 0) C dX11_isSheet_1 (by decide) ?_
  refine ar_bipush (v := 7) C dX11_isSheet_2 (by decide) ?_
  refine cS1 (ar := [.int s, .int 0, .int 7]) (st := []) C lkX11_94 (k_within M s 0 7) (by decide) rfl (Nat.le_of_ble_eq_true rfl) rfl dX11_isSheet_4 ?_
  exact ar_zreturn C rfl (bI_nar _) dX11_isSheet_7 ⟨by first | rfl | simp [bI, *], rfl, rfl⟩
set_option maxHeartbeats 4000000 in
set_option maxRecDepth 100000 in
theorem k_isTrace (M : Mm) (s : Int32) : AX mX11_isTrace 1 [.int s] M (some (.int (bI (f_in s 0 7)))) M := by
  refine AM_ofF (by decide +kernel) (Nat.le_of_ble_eq_true rfl) (fun X V C _ _ => ?_)
  show AW X V mX11_isTrace.2.2.1 T0 M 0 0 _ 0 [(0, .int s)] []
  refine ar_iload_n (n := 0) C dX11_isTrace_0 rfl rfl ?_
  refine ar_iconst (v := 0) C dX11_isTrace_1 (by decide) ?_
  refine ar_bipush (v := 7) C dX11_isTrace_2 (by decide) ?_
  refine cS1 (ar := [.int s, .int 0, .int 7]) (st := []) C lkX11_94 (k_within M s 0 7) (by decide) rfl (Nat.le_of_ble_eq_true rfl) rfl dX11_isTrace_4 ?_
  exact ar_zreturn C rfl (bI_nar _) dX11_isTrace_7 ⟨by first | rfl | simp [bI, *], rfl, rfl⟩
set_option maxHeartbeats 4000000 in
set_option maxRecDepth 100000 in
theorem k_isNumber (M : Mm) (s : Int32) : AX mX11_isNumber 1 [.int s] M (some (.int (bI (f_in s 0 23)))) M := by
  refine AM_ofF (by decide +kernel) (Nat.le_of_ble_eq_true rfl) (fun X V C _ _ => ?_)
  show AW X V mX11_isNumber.2.2.1 T0 M 0 0 _ 0 [(0, .int s)] []
  refine ar_iload_n (n := 0) C dX11_isNumber_0 rfl rfl ?_
  refine ar_iconst (v := 0) C dX11_isNumber_1 (by decide) ?_
  refine ar_bipush (v := 23) C dX11_isNumber_2 (by decide) ?_
  refine cS1 (ar := [.int s, .int 0, .int 23]) (st := []) C lkX11_94 (k_within M s 0 23) (by decide) rfl (Nat.le_of_ble_eq_true rfl) rfl dX11_isNumber_4 ?_
  exact ar_zreturn C rfl (bI_nar _) dX11_isNumber_7 ⟨by first | rfl | simp [bI, *], rfl, rfl⟩
set_option maxHeartbeats 4000000 in
set_option maxRecDepth 100000 in
theorem k_isFlat (M : Mm) (v : Int32) : AX mX11_isFlatPlace 1 [.int v] M (some (.int (bI (f_in v (-1000) 1000)))) M := by
  refine AM_ofF (by decide +kernel) (Nat.le_of_ble_eq_true rfl) (fun X V C _ _ => ?_)
  show AW X V mX11_isFlatPlace.2.2.1 T0 M 0 0 _ 0 [(0, .int v)] []
  refine ar_iload_n (n := 0) C dX11_isFlatPlace_0 rfl rfl ?_
  refine ar_sipush (v := (-1000)) C dX11_isFlatPlace_1 (by decide) ?_
  refine ar_sipush (v := 1000) C dX11_isFlatPlace_4 (by decide) ?_
  refine cS1 (ar := [.int v, .int (-1000), .int 1000]) (st := []) C lkX11_94 (k_within M v (-1000) 1000) (by decide) rfl (Nat.le_of_ble_eq_true rfl) rfl dX11_isFlatPlace_7 ?_
  exact ar_zreturn C rfl (bI_nar _) dX11_isFlatPlace_10 ⟨by first | rfl | simp [bI, *], rfl, rfl⟩
set_option maxHeartbeats 4000000 in
set_option maxRecDepth 100000 in
theorem k_isThing (M : Mm) (t : Int32) : AX mX11_isThing 1 [.ref 0, .int t] M (some (.int (bI (f_in t 0 (M.1 0 3 - 1))))) M := by
  refine AM_ofF (by decide +kernel) (Nat.le_of_ble_eq_true rfl) (fun X V C _ _ => ?_)
  show AW X V mX11_isThing.2.2.1 T0 M 0 0 _ 0 [(0, .ref 0), (1, .int t)] []
  refine ar_iload_n (n := 1) C dX11_isThing_0 rfl rfl ?_
  refine ar_iconst (v := 0) C dX11_isThing_1 (by decide) ?_
  refine ar_aload_n (n := 0) C dX11_isThing_2 rfl rfl ?_
  refine ar_geti C flX11_28 kd_0 dX11_isThing_3 ?_
  refine ar_iconst (v := 1) C dX11_isThing_6 (by decide) ?_
  refine ar_isub C dX11_isThing_7 ?_
  refine cS1 (ar := [.int t, .int 0, .int ((M.1 0 3) - 1)]) (st := []) C lkX11_94 (k_within M t 0 ((M.1 0 3) - 1)) (by decide) rfl (Nat.le_of_ble_eq_true rfl) rfl dX11_isThing_8 ?_
  exact ar_zreturn C rfl (bI_nar _) dX11_isThing_11 ⟨by first | rfl | simp [bI, *], rfl, rfl⟩
set_option maxHeartbeats 4000000 in
set_option maxRecDepth 100000 in
theorem k_isPlace (M : Mm) (x y z : Int32) : AX mX11_isPlace 2 [.int x, .int y, .int z] M (some (.int (bI (f_place x y z)))) M := by
  refine AM_ofF (by decide +kernel) (Nat.le_of_ble_eq_true rfl) (fun X V C _ _ => ?_)
  show AW X V mX11_isPlace.2.2.1 T0 M 0 0 _ 0 [(0, .int x), (1, .int y), (2, .int z)] []
  refine ar_iload_n (n := 0) C dX11_isPlace_0 rfl rfl ?_
  refine cS1 (ar := [.int x]) (st := []) C lkX11_219 (k_isFlat M x) (by decide) rfl (Nat.le_of_ble_eq_true rfl) rfl dX11_isPlace_1 ?_
  refine ar_if_eqB (tgt := 29) C dX11_isPlace_4 (by decide) (fun c_1 => ?_) (fun c_1 => ?_)
  · refine ar_iconst (v := 0) C dX11_isPlace_29 (by decide) ?_
    exact ar_zreturn C rfl rfl dX11_isPlace_30 ⟨by first | rfl | simp [bI, f_place, *], rfl, rfl⟩
  · refine ar_iload_n (n := 1) C dX11_isPlace_7 rfl rfl ?_
    refine cS1 (ar := [.int y]) (st := []) C lkX11_219 (k_isFlat M y) (by decide) rfl (Nat.le_of_ble_eq_true rfl) rfl dX11_isPlace_8 ?_
    refine ar_if_eqB (tgt := 29) C dX11_isPlace_11 (by decide) (fun c_2 => ?_) (fun c_2 => ?_)
    · refine ar_iconst (v := 0) C dX11_isPlace_29 (by decide) ?_
      exact ar_zreturn C rfl rfl dX11_isPlace_30 ⟨by first | rfl | simp [bI, f_place, *], rfl, rfl⟩
    · refine ar_iload_n (n := 2) C dX11_isPlace_14 rfl rfl ?_
      refine ar_iconst (v := 1) C dX11_isPlace_15 (by decide) ?_
      refine ar_sipush (v := 5000) C dX11_isPlace_16 (by decide) ?_
      refine cS1 (ar := [.int z, .int 1, .int 5000]) (st := []) C lkX11_94 (k_within M z 1 5000) (by decide) rfl (Nat.le_of_ble_eq_true rfl) rfl dX11_isPlace_19 ?_
      refine ar_if_eqB (tgt := 29) C dX11_isPlace_22 (by decide) (fun c_3 => ?_) (fun c_3 => ?_)
      · refine ar_iconst (v := 0) C dX11_isPlace_29 (by decide) ?_
        exact ar_zreturn C rfl rfl dX11_isPlace_30 ⟨by first | rfl | simp [bI, f_place, *], rfl, rfl⟩
      · refine ar_iconst (v := 1) C dX11_isPlace_25 (by decide) ?_
        refine ar_goto (tgt := 30) C dX11_isPlace_26 (by decide) ?_
        exact ar_zreturn C rfl rfl dX11_isPlace_30 ⟨by first | rfl | simp [bI, f_place, *], rfl, rfl⟩
set_option maxHeartbeats 4000000 in
set_option maxRecDepth 100000 in
theorem k_isStand (M : Mm) (u v w d : Int32) : AX mX11_isStand 2 [.int u, .int v, .int w, .int d] M (some (.int (bI (f_stand u v w d)))) M := by
  refine AM_ofF (by decide +kernel) (Nat.le_of_ble_eq_true rfl) (fun X V C _ _ => ?_)
  show AW X V mX11_isStand.2.2.1 T0 M 0 0 _ 0 [(0, .int u), (1, .int v), (2, .int w), (3, .int d)] []
  refine ar_iload_n (n := 0) C dX11_isStand_0 rfl rfl ?_
  refine cS1 (ar := [.int u]) (st := []) C lkX11_219 (k_isFlat M u) (by decide) rfl (Nat.le_of_ble_eq_true rfl) rfl dX11_isStand_1 ?_
  refine ar_if_eqB (tgt := 36) C dX11_isStand_4 (by decide) (fun c_1 => ?_) (fun c_1 => ?_)
  · refine ar_iconst (v := 0) C dX11_isStand_36 (by decide) ?_
    exact ar_zreturn C rfl rfl dX11_isStand_37 ⟨by first | rfl | simp [bI, f_stand, *], rfl, rfl⟩
  · refine ar_iload_n (n := 1) C dX11_isStand_7 rfl rfl ?_
    refine cS1 (ar := [.int v]) (st := []) C lkX11_219 (k_isFlat M v) (by decide) rfl (Nat.le_of_ble_eq_true rfl) rfl dX11_isStand_8 ?_
    refine ar_if_eqB (tgt := 36) C dX11_isStand_11 (by decide) (fun c_2 => ?_) (fun c_2 => ?_)
    · refine ar_iconst (v := 0) C dX11_isStand_36 (by decide) ?_
      exact ar_zreturn C rfl rfl dX11_isStand_37 ⟨by first | rfl | simp [bI, f_stand, *], rfl, rfl⟩
    · refine ar_iload_n (n := 2) C dX11_isStand_14 rfl rfl ?_
      refine cS1 (ar := [.int w]) (st := []) C lkX11_219 (k_isFlat M w) (by decide) rfl (Nat.le_of_ble_eq_true rfl) rfl dX11_isStand_15 ?_
      refine ar_if_eqB (tgt := 36) C dX11_isStand_18 (by decide) (fun c_3 => ?_) (fun c_3 => ?_)
      · refine ar_iconst (v := 0) C dX11_isStand_36 (by decide) ?_
        exact ar_zreturn C rfl rfl dX11_isStand_37 ⟨by first | rfl | simp [bI, f_stand, *], rfl, rfl⟩
      · refine ar_iload_n (n := 3) C dX11_isStand_21 rfl rfl ?_
        refine ar_iconst (v := 1) C dX11_isStand_22 (by decide) ?_
        refine ar_sipush (v := 1000) C dX11_isStand_23 (by decide) ?_
        refine cS1 (ar := [.int d, .int 1, .int 1000]) (st := []) C lkX11_94 (k_within M d 1 1000) (by decide) rfl (Nat.le_of_ble_eq_true rfl) rfl dX11_isStand_26 ?_
        refine ar_if_eqB (tgt := 36) C dX11_isStand_29 (by decide) (fun c_4 => ?_) (fun c_4 => ?_)
        · refine ar_iconst (v := 0) C dX11_isStand_36 (by decide) ?_
          exact ar_zreturn C rfl rfl dX11_isStand_37 ⟨by first | rfl | simp [bI, f_stand, *], rfl, rfl⟩
        · refine ar_iconst (v := 1) C dX11_isStand_32 (by decide) ?_
          refine ar_goto (tgt := 37) C dX11_isStand_33 (by decide) ?_
          exact ar_zreturn C rfl rfl dX11_isStand_37 ⟨by first | rfl | simp [bI, f_stand, *], rfl, rfl⟩
set_option maxHeartbeats 4000000 in
set_option maxRecDepth 100000 in
theorem k_told (M : Mm) (a s n e : Int32) : AX mX11_areStudiosTold 2 [.int a, .int s, .int n, .int e] M (some (.int (bI (f_told a s n e)))) M := by
  refine AM_ofF (by decide +kernel) (Nat.le_of_ble_eq_true rfl) (fun X V C _ _ => ?_)
  show AW X V mX11_areStudiosTold.2.2.1 T0 M 0 0 _ 0 [(0, .int a), (1, .int s), (2, .int n), (3, .int e)] []
  refine ar_iload_n (n := 0) C dX11_areStudiosTold_0 rfl rfl ?_
  refine cS1 (ar := [.int a]) (st := []) C lkX11_213 (k_isTrace M a) (by decide) rfl (Nat.le_of_ble_eq_true rfl) rfl dX11_areStudiosTold_1 ?_
  refine ar_if_eqB (tgt := 38) C dX11_areStudiosTold_4 (by decide) (fun c_1 => ?_) (fun c_1 => ?_)
  · refine ar_iconst (v := 0) C dX11_areStudiosTold_38 (by decide) ?_
    exact ar_zreturn C rfl rfl dX11_areStudiosTold_39 ⟨by first | rfl | simp [bI, f_told, *], rfl, rfl⟩
  · refine ar_iload_n (n := 1) C dX11_areStudiosTold_7 rfl rfl ?_
    refine cS1 (ar := [.int s]) (st := []) C lkX11_90 (k_isSheet M s) (by decide) rfl (Nat.le_of_ble_eq_true rfl) rfl dX11_areStudiosTold_8 ?_
    refine ar_if_eqB (tgt := 38) C dX11_areStudiosTold_11 (by decide) (fun c_2 => ?_) (fun c_2 => ?_)
    · refine ar_iconst (v := 0) C dX11_areStudiosTold_38 (by decide) ?_
      exact ar_zreturn C rfl rfl dX11_areStudiosTold_39 ⟨by first | rfl | simp [bI, f_told, *], rfl, rfl⟩
    · refine ar_iload_n (n := 2) C dX11_areStudiosTold_14 rfl rfl ?_
      refine ar_iconst (v := 1) C dX11_areStudiosTold_15 (by decide) ?_
      refine ar_bipush (v := 20) C dX11_areStudiosTold_16 (by decide) ?_
      refine cS1 (ar := [.int n, .int 1, .int 20]) (st := []) C lkX11_94 (k_within M n 1 20) (by decide) rfl (Nat.le_of_ble_eq_true rfl) rfl dX11_areStudiosTold_18 ?_
      refine ar_if_eqB (tgt := 38) C dX11_areStudiosTold_21 (by decide) (fun c_3 => ?_) (fun c_3 => ?_)
      · refine ar_iconst (v := 0) C dX11_areStudiosTold_38 (by decide) ?_
        exact ar_zreturn C rfl rfl dX11_areStudiosTold_39 ⟨by first | rfl | simp [bI, f_told, *], rfl, rfl⟩
      · refine ar_iload_n (n := 3) C dX11_areStudiosTold_24 rfl rfl ?_
        refine ar_iconst (v := 0) C dX11_areStudiosTold_25 (by decide) ?_
        refine ar_bipush (v := 20) C dX11_areStudiosTold_26 (by decide) ?_
        refine cS1 (ar := [.int e, .int 0, .int 20]) (st := []) C lkX11_94 (k_within M e 0 20) (by decide) rfl (Nat.le_of_ble_eq_true rfl) rfl dX11_areStudiosTold_28 ?_
        refine ar_if_eqB (tgt := 38) C dX11_areStudiosTold_31 (by decide) (fun c_4 => ?_) (fun c_4 => ?_)
        · refine ar_iconst (v := 0) C dX11_areStudiosTold_38 (by decide) ?_
          exact ar_zreturn C rfl rfl dX11_areStudiosTold_39 ⟨by first | rfl | simp [bI, f_told, *], rfl, rfl⟩
        · refine ar_iconst (v := 1) C dX11_areStudiosTold_34 (by decide) ?_
          refine ar_goto (tgt := 39) C dX11_areStudiosTold_35 (by decide) ?_
          exact ar_zreturn C rfl rfl dX11_areStudiosTold_39 ⟨by first | rfl | simp [bI, f_told, *], rfl, rfl⟩
set_option maxHeartbeats 4000000 in
set_option maxRecDepth 100000 in
theorem k_noon (M : Mm) (day : Int32) : AX mX11_noonOf 1 [.int day] M (some (.int (f_noon day))) M := by
  refine AM_ofF (by decide +kernel) (Nat.le_of_ble_eq_true rfl) (fun X V C _ _ => ?_)
  show AW X V mX11_noonOf.2.2.1 T0 M 0 0 _ 0 [(0, .int day)] []
  refine ar_iload_n (n := 0) C dX11_noonOf_0 rfl rfl ?_
  refine ar_sipush (v := 172) C dX11_noonOf_1 (by decide) ?_
  refine ar_isub C dX11_noonOf_4 ?_
  refine cS1 (ar := [.int (day - 172)]) (st := []) C lkX11_405 (k_abs M (day - 172)) (by decide) rfl (Nat.le_of_ble_eq_true rfl) rfl dX11_noonOf_5 ?_
  refine ar_istore_n (als' := [(1, .int (f_abs (day - 172))), (0, .int day)]) C dX11_noonOf_8 rfl (by decide) rfl ?_
  refine ar_iload_n (n := 0) C dX11_noonOf_9 rfl rfl ?_
  refine ar_sipush (v := 365) C dX11_noonOf_10 (by decide) ?_
  refine ar_iload_n (n := 0) C dX11_noonOf_13 rfl rfl ?_
  refine ar_isub C dX11_noonOf_14 ?_
  refine cS1 (ar := [.int (f_abs (day - 172)), .int (365 - (f_abs (day - 172)))]) (st := []) C lkX11_410 (k_min M (f_abs (day - 172)) (365 - (f_abs (day - 172)))) (by decide) rfl (Nat.le_of_ble_eq_true rfl) rfl dX11_noonOf_15 ?_
  refine ar_istore_n (als' := [(2, .int (f_min (f_abs (day - 172)) (365 - (f_abs (day - 172))))), (1, .int (f_abs (day - 172))), (0, .int day)]) C dX11_noonOf_18 rfl (by decide) rfl ?_
  refine ar_sipush (v := 500) C dX11_noonOf_19 (by decide) ?_
  refine ar_sipush (v := 1500) C dX11_noonOf_22 (by decide) ?_
  refine ar_iload_n (n := 0) C dX11_noonOf_25 rfl rfl ?_
  refine ar_imul C dX11_noonOf_26 ?_
  refine ar_sipush (v := 182) C dX11_noonOf_27 (by decide) ?_
  refine cS1 (ar := [.int (1500 * (f_min (f_abs (day - 172)) (365 - (f_abs (day - 172))))), .int 182]) (st := [.int 500]) C lkX11_272 (k_by M (1500 * (f_min (f_abs (day - 172)) (365 - (f_abs (day - 172))))) 182) (by decide) rfl (Nat.le_of_ble_eq_true rfl) rfl dX11_noonOf_30 ?_
  refine ar_iadd C dX11_noonOf_33 ?_
  exact ar_ireturn C rfl dX11_noonOf_34 ⟨by first | rfl | simp [bI, *], rfl, rfl⟩
set_option maxHeartbeats 4000000 in
set_option maxRecDepth 100000 in
theorem k_aside (M : Mm) (hour h : Int32) : AX mX11_spotAside 1 [.int hour, .int h] M (some (.int (f_aside hour h))) M := by
  refine AM_ofF (by decide +kernel) (Nat.le_of_ble_eq_true rfl) (fun X V C _ _ => ?_)
  show AW X V mX11_spotAside.2.2.1 T0 M 0 0 _ 0 [(0, .int hour), (1, .int h)] []
  refine ar_iload_n (n := 1) C dX11_spotAside_0 rfl rfl ?_
  refine ar_iload_n (n := 0) C dX11_spotAside_1 rfl rfl ?_
  refine ar_imul C dX11_spotAside_2 ?_
  refine ar_sipush (v := 200) C dX11_spotAside_3 (by decide) ?_
  refine ar_imul C dX11_spotAside_6 ?_
  refine ar_sipush (v := 1000) C dX11_spotAside_7 (by decide) ?_
  refine cS1 (ar := [.int ((h * hour) * 200), .int 1000]) (st := []) C lkX11_272 (k_by M ((h * hour) * 200) 1000) (by decide) rfl (Nat.le_of_ble_eq_true rfl) rfl dX11_spotAside_10 ?_
  exact ar_ireturn C rfl dX11_spotAside_13 ⟨by first | rfl | simp [bI, *], rfl, rfl⟩
set_option maxHeartbeats 4000000 in
set_option maxRecDepth 100000 in
theorem k_ahead (M : Mm) (noon hour h : Int32) : AX mX11_spotAhead 1 [.int noon, .int hour, .int h] M (some (.int (f_ahead noon hour h))) M := by
  refine AM_ofF (by decide +kernel) (Nat.le_of_ble_eq_true rfl) (fun X V C _ _ => ?_)
  show AW X V mX11_spotAhead.2.2.1 T0 M 0 0 _ 0 [(0, .int noon), (1, .int hour), (2, .int h)] []
  refine ar_iload_n (n := 2) C dX11_spotAhead_0 rfl rfl ?_
  refine ar_iload_n (n := 0) C dX11_spotAhead_1 rfl rfl ?_
  refine ar_bipush (v := 30) C dX11_spotAhead_2 (by decide) ?_
  refine ar_iload_n (n := 1) C dX11_spotAhead_4 rfl rfl ?_
  refine ar_imul C dX11_spotAhead_5 ?_
  refine ar_iload_n (n := 1) C dX11_spotAhead_6 rfl rfl ?_
  refine ar_imul C dX11_spotAhead_7 ?_
  refine ar_iadd C dX11_spotAhead_8 ?_
  refine ar_imul C dX11_spotAhead_9 ?_
  refine ar_sipush (v := 1000) C dX11_spotAhead_10 (by decide) ?_
  refine cS1 (ar := [.int (h * (noon + ((30 * hour) * hour))), .int 1000]) (st := []) C lkX11_272 (k_by M (h * (noon + ((30 * hour) * hour))) 1000) (by decide) rfl (Nat.le_of_ble_eq_true rfl) rfl dX11_spotAhead_13 ?_
  exact ar_ireturn C rfl dX11_spotAhead_16 ⟨by first | rfl | simp [bI, *], rfl, rfl⟩
set_option maxHeartbeats 4000000 in
set_option maxRecDepth 100000 in
theorem k_closed15 (M : Mm) {k n : Nat} (hk : k < 9) (hn : n < 9) : AX mX11_closed 1 [.ref 15, .int (nI k), .int (nI n)] M (some (.int (M.1 15 k - f_by (M.1 15 n * nI k) (nI n)))) M := by
  refine AM_ofF (by decide +kernel) (Nat.le_of_ble_eq_true rfl) (fun X V C _ _ => ?_)
  show AW X V mX11_closed.2.2.1 T0 M 0 0 _ 0 [(0, .ref 15), (1, .int (nI k)), (2, .int (nI n))] []
  refine ar_aload_n (n := 0) C dX11_closed_0 rfl rfl ?_
  refine ar_iload_n (n := 1) C dX11_closed_1 rfl rfl ?_
  refine ar_iald (j := k) C kd_15 rfl hk dX11_closed_2 ?_
  refine ar_aload_n (n := 0) C dX11_closed_3 rfl rfl ?_
  refine ar_iload_n (n := 2) C dX11_closed_4 rfl rfl ?_
  refine ar_iald (j := n) C kd_15 rfl hn dX11_closed_5 ?_
  refine ar_iload_n (n := 1) C dX11_closed_6 rfl rfl ?_
  refine ar_imul C dX11_closed_7 ?_
  refine ar_iload_n (n := 2) C dX11_closed_8 rfl rfl ?_
  refine cS1 (ar := [.int ((M.1 15 n) * (nI k)), .int (nI n)]) (st := [.int (M.1 15 k)]) C lkX11_272 (k_by M ((M.1 15 n) * (nI k)) (nI n)) (by decide) rfl (Nat.le_of_ble_eq_true rfl) rfl dX11_closed_9 ?_
  refine ar_isub C dX11_closed_12 ?_
  exact ar_ireturn C rfl dX11_closed_13 ⟨rfl, rfl, rfl⟩
set_option maxHeartbeats 4000000 in
set_option maxRecDepth 100000 in
theorem k_closed16 (M : Mm) {k n : Nat} (hk : k < 9) (hn : n < 9) : AX mX11_closed 1 [.ref 16, .int (nI k), .int (nI n)] M (some (.int (M.1 16 k - f_by (M.1 16 n * nI k) (nI n)))) M := by
  refine AM_ofF (by decide +kernel) (Nat.le_of_ble_eq_true rfl) (fun X V C _ _ => ?_)
  show AW X V mX11_closed.2.2.1 T0 M 0 0 _ 0 [(0, .ref 16), (1, .int (nI k)), (2, .int (nI n))] []
  refine ar_aload_n (n := 0) C dX11_closed_0 rfl rfl ?_
  refine ar_iload_n (n := 1) C dX11_closed_1 rfl rfl ?_
  refine ar_iald (j := k) C kd_16 rfl hk dX11_closed_2 ?_
  refine ar_aload_n (n := 0) C dX11_closed_3 rfl rfl ?_
  refine ar_iload_n (n := 2) C dX11_closed_4 rfl rfl ?_
  refine ar_iald (j := n) C kd_16 rfl hn dX11_closed_5 ?_
  refine ar_iload_n (n := 1) C dX11_closed_6 rfl rfl ?_
  refine ar_imul C dX11_closed_7 ?_
  refine ar_iload_n (n := 2) C dX11_closed_8 rfl rfl ?_
  refine cS1 (ar := [.int ((M.1 16 n) * (nI k)), .int (nI n)]) (st := [.int (M.1 16 k)]) C lkX11_272 (k_by M ((M.1 16 n) * (nI k)) (nI n)) (by decide) rfl (Nat.le_of_ble_eq_true rfl) rfl dX11_closed_9 ?_
  refine ar_isub C dX11_closed_12 ?_
  exact ar_ireturn C rfl dX11_closed_13 ⟨rfl, rfl, rfl⟩
set_option maxHeartbeats 4000000 in
set_option maxRecDepth 100000 in
theorem k_kindOf (M : Mm) {i : Nat} (hi : i < 24) {ρ β : Nat → Int32} (hρ : M.1 3 = ρ) (hβ : M.1 4 = β) {x y z : Int32} (hx : M.1 (38 + i) 0 = x) (hy : M.1 (38 + i) 1 = y) (hz : M.1 (38 + i) 2 = z) : AX mX11_kindOf 3 [.ref 0, .int (nI i)] M (some (.int (P_kind ρ β x y z))) (pic M ρ β x y z) := by
  subst hρ hβ hx hy hz
  refine AM_ofF (by decide +kernel) (Nat.le_of_ble_eq_true rfl) (fun X V C _ _ => ?_)
  show AW X V mX11_kindOf.2.2.1 T0 M 0 0 _ 0 [(0, .ref 0), (1, .int (nI i))] []
  refine ar_aload_n (n := 0) C dX11_kindOf_0 rfl rfl ?_
  refine ar_getr C flX11_35 rfl kd_0 rf_0_4 dX11_kindOf_1 ?_
  refine ar_aload_n (n := 0) C dX11_kindOf_4 rfl rfl ?_
  refine ar_getr C flX11_18 rfl kd_0 rf_0_1 dX11_kindOf_5 ?_
  refine ar_aload_n (n := 0) C dX11_kindOf_8 rfl rfl ?_
  refine ar_getr C flX11_24 rfl kd_0 rf_0_2 dX11_kindOf_9 ?_
  refine ar_iload_n (n := 1) C dX11_kindOf_12 rfl rfl ?_
  refine ar_aald (j := i) C kd_6 (by decide) (by decide) rfl hi (rf_things hi) dX11_kindOf_13 ?_
  refine cV0 (ar := [.ref 2, .ref (38 + i)]) (st := []) C lkX11_162 kd_7 (k_take M hi rfl rfl rfl rfl rfl) (by decide) rfl (Nat.le_of_ble_eq_true rfl) rfl dX11_kindOf_14 ?_
  refine ar_aload_n (n := 0) C dX11_kindOf_17 rfl rfl ?_
  refine ar_getr C flX11_18 rfl kd_0 rf_0_1 dX11_kindOf_18 ?_
  refine ar_aload_n (n := 0) C dX11_kindOf_21 rfl rfl ?_
  refine ar_getr C flX11_35 rfl kd_0 rf_0_4 dX11_kindOf_22 ?_
  refine cV1 (ar := [.ref 7]) (st := []) C lkX11_230 kd_2 (k_shows (pic M (M.1 3) (M.1 4) (M.1 (38 + i) 0) (M.1 (38 + i) 1) (M.1 (38 + i) 2))) (by decide) rfl (Nat.le_of_ble_eq_true rfl) rfl dX11_kindOf_25 ?_
  refine ar_topi (bI (P_shows (M.1 3) (M.1 4) (M.1 (38 + i) 0) (M.1 (38 + i) 1) (M.1 (38 + i) 2))) (by simp [P_shows, pic, wi]) ?_
  refine ar_if_neB (tgt := 33) C dX11_kindOf_28 (by decide) (fun c_1 => ?_) (fun c_1 => ?_)
  · refine ar_aload_n (n := 0) C dX11_kindOf_33 rfl rfl ?_
    refine ar_getr C flX11_35 rfl kd_0 rf_0_4 dX11_kindOf_34 ?_
    refine ar_geti C flX11_186 kd_7 dX11_kindOf_37 ?_
    refine ar_topi (P_blur (M.1 3) (M.1 4) (M.1 (38 + i) 0) (M.1 (38 + i) 2)) (by simp [pic, wi]) ?_
    refine ar_aload_n (n := 0) C dX11_kindOf_40 rfl rfl ?_
    refine ar_getr C flX11_18 rfl kd_0 rf_0_1 dX11_kindOf_41 ?_
    refine ar_getr C flX11_145 rfl kd_2 rf_2_0 dX11_kindOf_44 ?_
    refine ar_iconst (v := 4) C dX11_kindOf_47 (by decide) ?_
    refine ar_iald (j := 4) C kd_3 (by decide) (by decide) dX11_kindOf_48 ?_
    refine ar_topi (M.1 3 4) (by simp [pic, wi]) ?_
    refine ar_icmp_gt (tgt := 56) C dX11_kindOf_49 (by decide) (fun c_2 => ?_) (fun c_2 => ?_)
    · refine ar_iconst (v := 1) C dX11_kindOf_56 (by decide) ?_
      exact ar_ireturn C rfl dX11_kindOf_57 ⟨by simp [P_kind, *], rfl, rfl⟩
    · refine ar_iconst (v := 2) C dX11_kindOf_52 (by decide) ?_
      refine ar_goto (tgt := 57) C dX11_kindOf_53 (by decide) ?_
      exact ar_ireturn C rfl dX11_kindOf_57 ⟨by simp [P_kind, *], rfl, rfl⟩
  · refine ar_iconst (v := 3) C dX11_kindOf_31 (by decide) ?_
    exact ar_ireturn C rfl dX11_kindOf_32 ⟨by simp [P_kind, *], rfl, rfl⟩
set_option maxHeartbeats 4000000 in
set_option maxRecDepth 100000 in
theorem k_readStudio (M : Mm) {s i k : Nat} (hs : s < 8) (h : i + 4 * k + 3 < 80) : AX mX11_readStudio 1 [.ref 0, .int (nI s), .int (nI i), .int (nI k)] M none (rs M s (i + 4 * k)) := by
  refine AM_ofF (by decide +kernel) (Nat.le_of_ble_eq_true rfl) (fun X V C _ _ => ?_)
  show AW X V mX11_readStudio.2.2.1 T0 M 0 0 _ 0 [(0, .ref 0), (1, .int (nI s)), (2, .int (nI i)), (3, .int (nI k))] []
  refine ar_aload_n (n := 0) C dX11_readStudio_0 rfl rfl ?_
  refine ar_getr C flX11_11 rfl kd_0 rf_0_0 dX11_readStudio_1 ?_
  refine ar_iload_n (n := 1) C dX11_readStudio_4 rfl rfl ?_
  refine ar_aald (j := s) C kd_1 (by decide) (by decide) rfl hs (rf_sheets hs) dX11_readStudio_5 ?_
  refine ar_getr C flX11_125 rfl (kd_sheet hs) (rf_items hs) dX11_readStudio_6 ?_
  refine ar_astore (als' := [(4, .ref (23 + 2 * s)), (0, .ref 0), (1, .int (nI s)), (2, .int (nI i)), (3, .int (nI k))]) C dX11_readStudio_9 (by decide) rfl ?_
  refine ar_iload_n (n := 3) C dX11_readStudio_11 rfl rfl ?_
  refine ar_iload_n (n := 4) C dX11_readStudio_12 rfl rfl ?_
  refine ar_iconst (v := 4) C dX11_readStudio_13 (by decide) ?_
  refine ar_imul C dX11_readStudio_14 ?_
  refine ar_iadd C dX11_readStudio_15 ?_
  refine ar_topi (nI (i + 4 * k)) (show nI i + nI k * nI 4 = _ by rw [pk_mul, nI_add, Nat.mul_comm k 4]) ?_
  refine ar_istore (als' := [(5, .int (nI (i + 4 * k))), (4, .ref (23 + 2 * s)), (0, .ref 0), (1, .int (nI s)), (2, .int (nI i)), (3, .int (nI k))]) C dX11_readStudio_16 (by decide) rfl ?_
  refine ar_aload_n (n := 2) C dX11_readStudio_18 rfl rfl ?_
  refine ar_getr C flX11_73 rfl kd_0 rf_0_10 dX11_readStudio_19 ?_
  refine ar_aload (n := 1) C dX11_readStudio_22 rfl ?_
  refine ar_iload (n := 0) C dX11_readStudio_24 rfl ?_
  refine ar_iald (j := i + 4 * k) C (kd_items hs) rfl (by omega) dX11_readStudio_26 ?_
  refine ar_aload (n := 1) C dX11_readStudio_27 rfl ?_
  refine ar_iload (n := 0) C dX11_readStudio_29 rfl ?_
  refine ar_iconst (v := 1) C dX11_readStudio_31 (by decide) ?_
  refine ar_iadd C dX11_readStudio_32 ?_
  refine ar_iald (j := i + 4 * k + 1) C (kd_items hs) (nI_add _ 1) (by omega) dX11_readStudio_33 ?_
  refine ar_aload (n := 1) C dX11_readStudio_34 rfl ?_
  refine ar_iload (n := 0) C dX11_readStudio_36 rfl ?_
  refine ar_iconst (v := 2) C dX11_readStudio_38 (by decide) ?_
  refine ar_iadd C dX11_readStudio_39 ?_
  refine ar_iald (j := i + 4 * k + 2) C (kd_items hs) (nI_add _ 2) (by omega) dX11_readStudio_40 ?_
  refine ar_aload (n := 1) C dX11_readStudio_41 rfl ?_
  refine ar_iload (n := 0) C dX11_readStudio_43 rfl ?_
  refine ar_iconst (v := 3) C dX11_readStudio_45 (by decide) ?_
  refine ar_iadd C dX11_readStudio_46 ?_
  refine ar_iald (j := i + 4 * k + 3) C (kd_items hs) (nI_add _ 3) (by omega) dX11_readStudio_47 ?_
  refine cV0 (ar := [.int (M.1 (23 + 2 * s) (i + 4 * k)), .int (M.1 (23 + 2 * s) (i + 4 * k + 1)), .int (M.1 (23 + 2 * s) (i + 4 * k + 2)), .int (M.1 (23 + 2 * s) (i + 4 * k + 3))]) (st := []) C lkX11_279 kd_19 (k_put19 M (M.1 (23 + 2 * s) (i + 4 * k)) (M.1 (23 + 2 * s) (i + 4 * k + 1)) (M.1 (23 + 2 * s) (i + 4 * k + 2)) (M.1 (23 + 2 * s) (i + 4 * k + 3))) (by decide) rfl (Nat.le_of_ble_eq_true rfl) rfl dX11_readStudio_48 ?_
  exact ar_return C rfl dX11_readStudio_51 ⟨rfl, rfl, rfl⟩
set_option maxHeartbeats 4000000 in
set_option maxRecDepth 100000 in
theorem k_apart (M : Mm) {a i : Nat} (ha : a < 8) (hi : i < 24) : AX mX11_painterApart 2 [.ref 0, .ref (62 + 4 * a), .int (nI i)] M (some (.int (st_ap (M.1 19 0) (M.1 19 1) (M.1 19 2) (M.1 19 3) (M.1 (38 + i) 0) (M.1 (38 + i) 1) (M.1 (38 + i) 2) (M.1 (64 + 4 * a) i) (M.1 (65 + 4 * a) i)))) M := by
  refine AM_ofF (by decide +kernel) (Nat.le_of_ble_eq_true rfl) (fun X V C _ _ => ?_)
  show AW X V mX11_painterApart.2.2.1 T0 M 0 0 _ 0 [(0, .ref 0), (1, .ref (62 + 4 * a)), (2, .int (nI i))] []
  refine ar_aload_n (n := 1) C dX11_painterApart_0 rfl rfl ?_
  refine ar_getr C flX11_238 rfl (kd_trace ha) (rf_tx ha) dX11_painterApart_1 ?_
  refine ar_iload_n (n := 2) C dX11_painterApart_4 rfl rfl ?_
  refine ar_iald (j := i) C (kd_tx ha) rfl hi dX11_painterApart_5 ?_
  refine ar_aload_n (n := 0) C dX11_painterApart_6 rfl rfl ?_
  refine ar_getr C flX11_73 rfl kd_0 rf_0_10 dX11_painterApart_7 ?_
  refine ar_aload_n (n := 0) C dX11_painterApart_10 rfl rfl ?_
  refine ar_getr C flX11_24 rfl kd_0 rf_0_2 dX11_painterApart_11 ?_
  refine ar_iload_n (n := 2) C dX11_painterApart_14 rfl rfl ?_
  refine ar_aald (j := i) C kd_6 (by decide) (by decide) rfl hi (rf_things hi) dX11_painterApart_15 ?_
  refine cV1 (ar := [.ref (38 + i)]) (st := [.int (M.1 (64 + 4 * a) i)]) C lkX11_403 kd_19 (k_sacross M hi) (by decide) rfl (Nat.le_of_ble_eq_true rfl) rfl dX11_painterApart_16 ?_
  refine ar_isub C dX11_painterApart_19 ?_
  refine cS1 (ar := [.int ((M.1 (64 + 4 * a) i) - (st_ax (M.1 19 0) (M.1 19 3) (M.1 19 2) (M.1 (38 + i) 0) (M.1 (38 + i) 2)))]) (st := []) C lkX11_405 (k_abs M ((M.1 (64 + 4 * a) i) - (st_ax (M.1 19 0) (M.1 19 3) (M.1 19 2) (M.1 (38 + i) 0) (M.1 (38 + i) 2)))) (by decide) rfl (Nat.le_of_ble_eq_true rfl) rfl dX11_painterApart_20 ?_
  refine ar_istore_n (als' := [(3, .int (f_abs ((M.1 (64 + 4 * a) i) - (st_ax (M.1 19 0) (M.1 19 3) (M.1 19 2) (M.1 (38 + i) 0) (M.1 (38 + i) 2))))), (0, .ref 0), (1, .ref (62 + 4 * a)), (2, .int (nI i))]) C dX11_painterApart_23 rfl (by decide) rfl ?_
  refine ar_aload_n (n := 2) C dX11_painterApart_24 rfl rfl ?_
  refine ar_getr C flX11_240 rfl (kd_trace ha) (rf_ty ha) dX11_painterApart_25 ?_
  refine ar_iload_n (n := 3) C dX11_painterApart_28 rfl rfl ?_
  refine ar_iald (j := i) C (kd_ty ha) rfl hi dX11_painterApart_29 ?_
  refine ar_aload_n (n := 1) C dX11_painterApart_30 rfl rfl ?_
  refine ar_getr C flX11_73 rfl kd_0 rf_0_10 dX11_painterApart_31 ?_
  refine ar_aload_n (n := 1) C dX11_painterApart_34 rfl rfl ?_
  refine ar_getr C flX11_24 rfl kd_0 rf_0_2 dX11_painterApart_35 ?_
  refine ar_iload_n (n := 3) C dX11_painterApart_38 rfl rfl ?_
  refine ar_aald (j := i) C kd_6 (by decide) (by decide) rfl hi (rf_things hi) dX11_painterApart_39 ?_
  refine cV1 (ar := [.ref (38 + i)]) (st := [.int (M.1 (65 + 4 * a) i)]) C lkX11_408 kd_19 (k_sup M hi) (by decide) rfl (Nat.le_of_ble_eq_true rfl) rfl dX11_painterApart_40 ?_
  refine ar_isub C dX11_painterApart_43 ?_
  refine cS1 (ar := [.int ((M.1 (65 + 4 * a) i) - (st_ax (M.1 19 1) (M.1 19 3) (M.1 19 2) (M.1 (38 + i) 1) (M.1 (38 + i) 2)))]) (st := []) C lkX11_405 (k_abs M ((M.1 (65 + 4 * a) i) - (st_ax (M.1 19 1) (M.1 19 3) (M.1 19 2) (M.1 (38 + i) 1) (M.1 (38 + i) 2)))) (by decide) rfl (Nat.le_of_ble_eq_true rfl) rfl dX11_painterApart_44 ?_
  refine ar_istore (als' := [(4, .int (f_abs ((M.1 (65 + 4 * a) i) - (st_ax (M.1 19 1) (M.1 19 3) (M.1 19 2) (M.1 (38 + i) 1) (M.1 (38 + i) 2))))), (3, .int (f_abs ((M.1 (64 + 4 * a) i) - (st_ax (M.1 19 0) (M.1 19 3) (M.1 19 2) (M.1 (38 + i) 0) (M.1 (38 + i) 2))))), (0, .ref 0), (1, .ref (62 + 4 * a)), (2, .int (nI i))]) C dX11_painterApart_47 (by decide) rfl ?_
  refine ar_iload_n (n := 1) C dX11_painterApart_49 rfl rfl ?_
  refine ar_sipush (v := 500) C dX11_painterApart_50 (by decide) ?_
  refine cS1 (ar := [.int (f_abs ((M.1 (64 + 4 * a) i) - (st_ax (M.1 19 0) (M.1 19 3) (M.1 19 2) (M.1 (38 + i) 0) (M.1 (38 + i) 2)))), .int 500]) (st := []) C lkX11_410 (k_min M (f_abs ((M.1 (64 + 4 * a) i) - (st_ax (M.1 19 0) (M.1 19 3) (M.1 19 2) (M.1 (38 + i) 0) (M.1 (38 + i) 2)))) 500) (by decide) rfl (Nat.le_of_ble_eq_true rfl) rfl dX11_painterApart_53 ?_
  refine ar_iload (n := 0) C dX11_painterApart_56 rfl ?_
  refine ar_sipush (v := 500) C dX11_painterApart_58 (by decide) ?_
  refine cS1 (ar := [.int (f_abs ((M.1 (65 + 4 * a) i) - (st_ax (M.1 19 1) (M.1 19 3) (M.1 19 2) (M.1 (38 + i) 1) (M.1 (38 + i) 2)))), .int 500]) (st := [.int (f_min (f_abs ((M.1 (64 + 4 * a) i) - (st_ax (M.1 19 0) (M.1 19 3) (M.1 19 2) (M.1 (38 + i) 0) (M.1 (38 + i) 2)))) 500)]) C lkX11_410 (k_min M (f_abs ((M.1 (65 + 4 * a) i) - (st_ax (M.1 19 1) (M.1 19 3) (M.1 19 2) (M.1 (38 + i) 1) (M.1 (38 + i) 2)))) 500) (by decide) rfl (Nat.le_of_ble_eq_true rfl) rfl dX11_painterApart_61 ?_
  refine ar_iadd C dX11_painterApart_64 ?_
  exact ar_ireturn C rfl dX11_painterApart_65 ⟨rfl, rfl, rfl⟩
set_option maxHeartbeats 4000000 in
set_option maxRecDepth 100000 in
theorem k_near (M : Mm) {a i : Nat} (ha : a < 8) (hi : i < 24) (e : Int32) : AX mX11_isPainterNear 2 [.ref 0, .ref (62 + 4 * a), .int (nI i), .int e] M (some (.int (bI (st_near (M.1 19 0) (M.1 19 1) (M.1 19 2) (M.1 19 3) (M.1 (38 + i) 0) (M.1 (38 + i) 1) (M.1 (38 + i) 2) (M.1 (64 + 4 * a) i) (M.1 (65 + 4 * a) i) e)))) M := by
  refine AM_ofF (by decide +kernel) (Nat.le_of_ble_eq_true rfl) (fun X V C _ _ => ?_)
  show AW X V mX11_isPainterNear.2.2.1 T0 M 0 0 _ 0 [(0, .ref 0), (1, .ref (62 + 4 * a)), (2, .int (nI i)), (3, .int e)] []
  refine ar_aload_n (n := 0) C dX11_isPainterNear_0 rfl rfl ?_
  refine ar_getr C flX11_73 rfl kd_0 rf_0_10 dX11_isPainterNear_1 ?_
  refine ar_aload_n (n := 0) C dX11_isPainterNear_4 rfl rfl ?_
  refine ar_getr C flX11_24 rfl kd_0 rf_0_2 dX11_isPainterNear_5 ?_
  refine ar_iload_n (n := 2) C dX11_isPainterNear_8 rfl rfl ?_
  refine ar_aald (j := i) C kd_6 (by decide) (by decide) rfl hi (rf_things hi) dX11_isPainterNear_9 ?_
  refine cV1 (ar := [.ref (38 + i)]) (st := []) C lkX11_395 kd_19 (k_sees M hi) (by decide) rfl (Nat.le_of_ble_eq_true rfl) rfl dX11_isPainterNear_10 ?_
  refine ar_if_eqB (tgt := 74) C dX11_isPainterNear_13 (by decide) (fun c_1 => ?_) (fun c_1 => ?_)
  · refine ar_iconst (v := 0) C dX11_isPainterNear_74 (by decide) ?_
    exact ar_zreturn C rfl rfl dX11_isPainterNear_75 ⟨by simp [bI, st_near, *], rfl, rfl⟩
  · refine ar_aload_n (n := 1) C dX11_isPainterNear_16 rfl rfl ?_
    refine ar_getr C flX11_238 rfl (kd_trace ha) (rf_tx ha) dX11_isPainterNear_17 ?_
    refine ar_iload_n (n := 2) C dX11_isPainterNear_20 rfl rfl ?_
    refine ar_iald (j := i) C (kd_tx ha) rfl hi dX11_isPainterNear_21 ?_
    refine ar_aload_n (n := 0) C dX11_isPainterNear_22 rfl rfl ?_
    refine ar_getr C flX11_73 rfl kd_0 rf_0_10 dX11_isPainterNear_23 ?_
    refine ar_aload_n (n := 0) C dX11_isPainterNear_26 rfl rfl ?_
    refine ar_getr C flX11_24 rfl kd_0 rf_0_2 dX11_isPainterNear_27 ?_
    refine ar_iload_n (n := 2) C dX11_isPainterNear_30 rfl rfl ?_
    refine ar_aald (j := i) C kd_6 (by decide) (by decide) rfl hi (rf_things hi) dX11_isPainterNear_31 ?_
    refine cV1 (ar := [.ref (38 + i)]) (st := [.int (M.1 (64 + 4 * a) i)]) C lkX11_403 kd_19 (k_sacross M hi) (by decide) rfl (Nat.le_of_ble_eq_true rfl) rfl dX11_isPainterNear_32 ?_
    refine ar_isub C dX11_isPainterNear_35 ?_
    refine cS1 (ar := [.int ((M.1 (64 + 4 * a) i) - (st_ax (M.1 19 0) (M.1 19 3) (M.1 19 2) (M.1 (38 + i) 0) (M.1 (38 + i) 2)))]) (st := []) C lkX11_405 (k_abs M ((M.1 (64 + 4 * a) i) - (st_ax (M.1 19 0) (M.1 19 3) (M.1 19 2) (M.1 (38 + i) 0) (M.1 (38 + i) 2)))) (by decide) rfl (Nat.le_of_ble_eq_true rfl) rfl dX11_isPainterNear_36 ?_
    refine ar_iload_n (n := 3) C dX11_isPainterNear_39 rfl rfl ?_
    refine ar_icmp_gt (tgt := 74) C dX11_isPainterNear_40 (by decide) (fun c_2 => ?_) (fun c_2 => ?_)
    · refine ar_iconst (v := 0) C dX11_isPainterNear_74 (by decide) ?_
      exact ar_zreturn C rfl rfl dX11_isPainterNear_75 ⟨by simp [bI, st_near, *], rfl, rfl⟩
    · refine ar_aload_n (n := 1) C dX11_isPainterNear_43 rfl rfl ?_
      refine ar_getr C flX11_240 rfl (kd_trace ha) (rf_ty ha) dX11_isPainterNear_44 ?_
      refine ar_iload_n (n := 2) C dX11_isPainterNear_47 rfl rfl ?_
      refine ar_iald (j := i) C (kd_ty ha) rfl hi dX11_isPainterNear_48 ?_
      refine ar_aload_n (n := 0) C dX11_isPainterNear_49 rfl rfl ?_
      refine ar_getr C flX11_73 rfl kd_0 rf_0_10 dX11_isPainterNear_50 ?_
      refine ar_aload_n (n := 0) C dX11_isPainterNear_53 rfl rfl ?_
      refine ar_getr C flX11_24 rfl kd_0 rf_0_2 dX11_isPainterNear_54 ?_
      refine ar_iload_n (n := 2) C dX11_isPainterNear_57 rfl rfl ?_
      refine ar_aald (j := i) C kd_6 (by decide) (by decide) rfl hi (rf_things hi) dX11_isPainterNear_58 ?_
      refine cV1 (ar := [.ref (38 + i)]) (st := [.int (M.1 (65 + 4 * a) i)]) C lkX11_408 kd_19 (k_sup M hi) (by decide) rfl (Nat.le_of_ble_eq_true rfl) rfl dX11_isPainterNear_59 ?_
      refine ar_isub C dX11_isPainterNear_62 ?_
      refine cS1 (ar := [.int ((M.1 (65 + 4 * a) i) - (st_ax (M.1 19 1) (M.1 19 3) (M.1 19 2) (M.1 (38 + i) 1) (M.1 (38 + i) 2)))]) (st := []) C lkX11_405 (k_abs M ((M.1 (65 + 4 * a) i) - (st_ax (M.1 19 1) (M.1 19 3) (M.1 19 2) (M.1 (38 + i) 1) (M.1 (38 + i) 2)))) (by decide) rfl (Nat.le_of_ble_eq_true rfl) rfl dX11_isPainterNear_63 ?_
      refine ar_iload_n (n := 3) C dX11_isPainterNear_66 rfl rfl ?_
      refine ar_icmp_gt (tgt := 74) C dX11_isPainterNear_67 (by decide) (fun c_3 => ?_) (fun c_3 => ?_)
      · refine ar_iconst (v := 0) C dX11_isPainterNear_74 (by decide) ?_
        exact ar_zreturn C rfl rfl dX11_isPainterNear_75 ⟨by simp [bI, st_near, *], rfl, rfl⟩
      · refine ar_iconst (v := 1) C dX11_isPainterNear_70 (by decide) ?_
        refine ar_goto (tgt := 75) C dX11_isPainterNear_71 (by decide) ?_
        exact ar_zreturn C rfl rfl dX11_isPainterNear_75 ⟨by simp [bI, st_near, *], rfl, rfl⟩
set_option maxHeartbeats 4000000 in
set_option maxRecDepth 100000 in
theorem k_sight (M : Mm) (p q : Int64) : AQ mX7_take 1 [.ref 18, .ref 94, .ref 95, .long p, .long q] M (some (.int (bI (g_ok (M.1 94) (M.1 95) p q)))) (SG M (g_lo (M.1 94) (M.1 95) p q) (g_up (M.1 94) (M.1 95) p q)) := by
  refine AM_ofF (by decide +kernel) (Nat.le_of_ble_eq_true rfl) (fun X V C _ _ => ?_)
  show AW X V mX7_take.2.2.1 T0 M 0 0 _ 0 [(0, .ref 18), (1, .ref 94), (2, .ref 95), (3, .long p), (5, .long q)] []
  refine ar_aload_n (n := 0) C dX7_take_0 rfl rfl ?_
  refine ar_lload (n := 4) C dX7_take_1 rfl ?_
  refine ar_aload_n (n := 1) C dX7_take_3 rfl rfl ?_
  refine ar_geti C flX7_7 kd_94 dX7_take_4 ?_
  refine ar_i2l C dX7_take_7 ?_
  refine ar_lmul C dX7_take_8 ?_
  refine ar_lload_n (n := 3) C dX7_take_9 rfl rfl ?_
  refine ar_aload_n (n := 2) C dX7_take_10 rfl rfl ?_
  refine ar_geti C flX7_7 kd_95 dX7_take_11 ?_
  refine ar_i2l C dX7_take_14 ?_
  refine ar_lmul C dX7_take_15 ?_
  refine ar_lsub C dX7_take_16 ?_
  refine ar_putl C flX7_13 kd_18 dX7_take_17 ?_
  refine ar_aload_n (n := 0) C dX7_take_20 rfl rfl ?_
  refine ar_aload_n (n := 2) C dX7_take_21 rfl rfl ?_
  refine ar_geti C flX7_19 kd_95 dX7_take_22 ?_
  refine ar_aload_n (n := 1) C dX7_take_25 rfl rfl ?_
  refine ar_geti C flX7_19 kd_94 dX7_take_26 ?_
  refine ar_isub C dX7_take_29 ?_
  refine ar_i2l C dX7_take_30 ?_
  refine ar_aload_n (n := 1) C dX7_take_31 rfl rfl ?_
  refine ar_geti C flX7_7 kd_94 dX7_take_32 ?_
  refine ar_i2l C dX7_take_35 ?_
  refine ar_lmul C dX7_take_36 ?_
  refine ar_aload_n (n := 2) C dX7_take_37 rfl rfl ?_
  refine ar_geti C flX7_7 kd_95 dX7_take_38 ?_
  refine ar_i2l C dX7_take_41 ?_
  refine ar_lmul C dX7_take_42 ?_
  refine ar_lload_n (n := 3) C dX7_take_43 rfl rfl ?_
  refine ar_aload_n (n := 1) C dX7_take_44 rfl rfl ?_
  refine ar_geti C flX7_22 kd_94 dX7_take_45 ?_
  refine ar_i2l C dX7_take_48 ?_
  refine ar_lmul C dX7_take_49 ?_
  refine ar_aload_n (n := 2) C dX7_take_50 rfl rfl ?_
  refine ar_geti C flX7_7 kd_95 dX7_take_51 ?_
  refine ar_i2l C dX7_take_54 ?_
  refine ar_lmul C dX7_take_55 ?_
  refine ar_lsub C dX7_take_56 ?_
  refine ar_lload (n := 4) C dX7_take_57 rfl ?_
  refine ar_aload_n (n := 2) C dX7_take_59 rfl rfl ?_
  refine ar_geti C flX7_22 kd_95 dX7_take_60 ?_
  refine ar_i2l C dX7_take_63 ?_
  refine ar_lmul C dX7_take_64 ?_
  refine ar_aload_n (n := 1) C dX7_take_65 rfl rfl ?_
  refine ar_geti C flX7_7 kd_94 dX7_take_66 ?_
  refine ar_i2l C dX7_take_69 ?_
  refine ar_lmul C dX7_take_70 ?_
  refine ar_ladd C dX7_take_71 ?_
  refine ar_putl C flX7_25 kd_18 dX7_take_72 ?_
  refine ar_aload_n (n := 0) C dX7_take_75 rfl rfl ?_
  refine ar_getlV (v := (q * ((M.1 94 3).toInt64)) - (p * ((M.1 95 3).toInt64))) C flX7_13 kd_18 rfl dX7_take_76 ?_
  refine ar_lconst (v := 0) C dX7_take_79 (by decide) ?_
  refine ar_lc_ge (tgt := 102) C dX7_take_80 dX7_take_81 (by decide) (fun c_1 => ?_) (fun c_1 => ?_)
  · refine ar_aload_n (n := 0) C dX7_take_102 rfl rfl ?_
    refine ar_getlV (v := (q * ((M.1 94 3).toInt64)) - (p * ((M.1 95 3).toInt64))) C flX7_13 kd_18 rfl dX7_take_103 ?_
    refine ar_lconst (v := 0) C dX7_take_106 (by decide) ?_
    refine ar_lc_eq (tgt := 140) C dX7_take_107 dX7_take_108 (by decide) (fun c_2 => ?_) (fun c_2 => ?_)
    · refine ar_iconst (v := 0) C dX7_take_140 (by decide) ?_
      have eL : g_lo (M.1 94) (M.1 95) p q = g_lo0 (M.1 94) (M.1 95) p q := if_neg c_1
      have eU : g_up (M.1 94) (M.1 95) p q = g_up0 (M.1 94) (M.1 95) p q := if_neg c_1
      have c2 : g_lo0 (M.1 94) (M.1 95) p q = 0 := c_2
      refine ar_zreturn C rfl rfl dX7_take_141 ⟨?_, rfl, ?_, ?_, rfl, fun k j h => by simp [wl, h]⟩
      · rw [g_ok, eL, eU]; simp [c2, bI]
      · rw [eL]; rfl
      · rw [eU]; rfl
    · refine ar_aload_n (n := 0) C dX7_take_111 rfl rfl ?_
      refine ar_getlV (v := ((((((M.1 95 0) - (M.1 94 0)).toInt64) * ((M.1 94 3).toInt64)) * ((M.1 95 3).toInt64)) - ((p * ((M.1 94 2).toInt64)) * ((M.1 95 3).toInt64))) + ((q * ((M.1 95 2).toInt64)) * ((M.1 94 3).toInt64))) C flX7_25 kd_18 rfl dX7_take_112 ?_
      refine ar_aload_n (n := 0) C dX7_take_115 rfl rfl ?_
      refine ar_getlV (v := (q * ((M.1 94 3).toInt64)) - (p * ((M.1 95 3).toInt64))) C flX7_13 kd_18 rfl dX7_take_116 ?_
      refine ar_aload_n (n := 1) C dX7_take_119 rfl rfl ?_
      refine ar_geti C flX7_22 kd_94 dX7_take_120 ?_
      refine ar_aload_n (n := 2) C dX7_take_123 rfl rfl ?_
      refine ar_geti C flX7_22 kd_95 dX7_take_124 ?_
      refine cS1 (ar := [.int (M.1 94 2), .int (M.1 95 2)]) (st := [.long ((q * ((M.1 94 3).toInt64)) - (p * ((M.1 95 3).toInt64))), .long (((((((M.1 95 0) - (M.1 94 0)).toInt64) * ((M.1 94 3).toInt64)) * ((M.1 95 3).toInt64)) - ((p * ((M.1 94 2).toInt64)) * ((M.1 95 3).toInt64))) + ((q * ((M.1 95 2).toInt64)) * ((M.1 94 3).toInt64)))]) C lkX7_28 (k_max (wl (wl M 18 1 ((q * ((M.1 94 3).toInt64)) - (p * ((M.1 95 3).toInt64)))) 18 0 (((((((M.1 95 0) - (M.1 94 0)).toInt64) * ((M.1 94 3).toInt64)) * ((M.1 95 3).toInt64)) - ((p * ((M.1 94 2).toInt64)) * ((M.1 95 3).toInt64))) + ((q * ((M.1 95 2).toInt64)) * ((M.1 94 3).toInt64)))) (M.1 94 2) (M.1 95 2)) (by decide) rfl (Nat.le_of_ble_eq_true rfl) rfl dX7_take_127 ?_
      refine ar_i2l C dX7_take_130 ?_
      refine ar_lmul C dX7_take_131 ?_
      refine ar_lc_le (tgt := 140) C dX7_take_132 dX7_take_133 (by decide) (fun c_3 => ?_) (fun c_3 => ?_)
      · refine ar_iconst (v := 0) C dX7_take_140 (by decide) ?_
        have eL : g_lo (M.1 94) (M.1 95) p q = g_lo0 (M.1 94) (M.1 95) p q := if_neg c_1
        have eU : g_up (M.1 94) (M.1 95) p q = g_up0 (M.1 94) (M.1 95) p q := if_neg c_1
        have c2 : ¬ g_lo0 (M.1 94) (M.1 95) p q = 0 := c_2
        have c3 : ¬ g_lo0 (M.1 94) (M.1 95) p q * (f_max (M.1 94 2) (M.1 95 2)).toInt64 < g_up0 (M.1 94) (M.1 95) p q := c_3
        refine ar_zreturn C rfl rfl dX7_take_141 ⟨?_, rfl, ?_, ?_, rfl, fun k j h => by simp [wl, h]⟩
        · rw [g_ok, eL, eU]; simp [c2, c3, bI]
        · rw [eL]; rfl
        · rw [eU]; rfl
      · refine ar_iconst (v := 1) C dX7_take_136 (by decide) ?_
        refine ar_goto (tgt := 141) C dX7_take_137 (by decide) ?_
        have eL : g_lo (M.1 94) (M.1 95) p q = g_lo0 (M.1 94) (M.1 95) p q := if_neg c_1
        have eU : g_up (M.1 94) (M.1 95) p q = g_up0 (M.1 94) (M.1 95) p q := if_neg c_1
        have c2 : ¬ g_lo0 (M.1 94) (M.1 95) p q = 0 := c_2
        have c3 : g_lo0 (M.1 94) (M.1 95) p q * (f_max (M.1 94 2) (M.1 95 2)).toInt64 < g_up0 (M.1 94) (M.1 95) p q := c_3
        refine ar_zreturn C rfl rfl dX7_take_141 ⟨?_, rfl, ?_, ?_, rfl, fun k j h => by simp [wl, h]⟩
        · rw [g_ok, eL, eU]; simp [c2, c3, bI]
        · rw [eL]; rfl
        · rw [eU]; rfl
  · refine ar_aload_n (n := 0) C dX7_take_84 rfl rfl ?_
    refine ar_aload_n (n := 0) C dX7_take_85 rfl rfl ?_
    refine ar_getlV (v := (q * ((M.1 94 3).toInt64)) - (p * ((M.1 95 3).toInt64))) C flX7_13 kd_18 rfl dX7_take_86 ?_
    refine ar_lneg C dX7_take_89 ?_
    refine ar_putl C flX7_13 kd_18 dX7_take_90 ?_
    refine ar_aload_n (n := 0) C dX7_take_93 rfl rfl ?_
    refine ar_aload_n (n := 0) C dX7_take_94 rfl rfl ?_
    refine ar_getlV (v := ((((((M.1 95 0) - (M.1 94 0)).toInt64) * ((M.1 94 3).toInt64)) * ((M.1 95 3).toInt64)) - ((p * ((M.1 94 2).toInt64)) * ((M.1 95 3).toInt64))) + ((q * ((M.1 95 2).toInt64)) * ((M.1 94 3).toInt64))) C flX7_25 kd_18 rfl dX7_take_95 ?_
    refine ar_lneg C dX7_take_98 ?_
    refine ar_putl C flX7_25 kd_18 dX7_take_99 ?_
    refine ar_aload_n (n := 0) C dX7_take_102 rfl rfl ?_
    refine ar_getlV (v := -((q * ((M.1 94 3).toInt64)) - (p * ((M.1 95 3).toInt64)))) C flX7_13 kd_18 rfl dX7_take_103 ?_
    refine ar_lconst (v := 0) C dX7_take_106 (by decide) ?_
    refine ar_lc_eq (tgt := 140) C dX7_take_107 dX7_take_108 (by decide) (fun c_4 => ?_) (fun c_4 => ?_)
    · refine ar_iconst (v := 0) C dX7_take_140 (by decide) ?_
      have eL : g_lo (M.1 94) (M.1 95) p q = (-g_lo0 (M.1 94) (M.1 95) p q) := if_pos c_1
      have eU : g_up (M.1 94) (M.1 95) p q = (-g_up0 (M.1 94) (M.1 95) p q) := if_pos c_1
      have c2 : (-g_lo0 (M.1 94) (M.1 95) p q) = 0 := c_4
      refine ar_zreturn C rfl rfl dX7_take_141 ⟨?_, rfl, ?_, ?_, rfl, fun k j h => by simp [wl, h]⟩
      · rw [g_ok, eL, eU]; simp [c2, bI]
      · rw [eL]; rfl
      · rw [eU]; rfl
    · refine ar_aload_n (n := 0) C dX7_take_111 rfl rfl ?_
      refine ar_getlV (v := -(((((((M.1 95 0) - (M.1 94 0)).toInt64) * ((M.1 94 3).toInt64)) * ((M.1 95 3).toInt64)) - ((p * ((M.1 94 2).toInt64)) * ((M.1 95 3).toInt64))) + ((q * ((M.1 95 2).toInt64)) * ((M.1 94 3).toInt64)))) C flX7_25 kd_18 rfl dX7_take_112 ?_
      refine ar_aload_n (n := 0) C dX7_take_115 rfl rfl ?_
      refine ar_getlV (v := -((q * ((M.1 94 3).toInt64)) - (p * ((M.1 95 3).toInt64)))) C flX7_13 kd_18 rfl dX7_take_116 ?_
      refine ar_aload_n (n := 1) C dX7_take_119 rfl rfl ?_
      refine ar_geti C flX7_22 kd_94 dX7_take_120 ?_
      refine ar_aload_n (n := 2) C dX7_take_123 rfl rfl ?_
      refine ar_geti C flX7_22 kd_95 dX7_take_124 ?_
      refine cS1 (ar := [.int (M.1 94 2), .int (M.1 95 2)]) (st := [.long (-((q * ((M.1 94 3).toInt64)) - (p * ((M.1 95 3).toInt64)))), .long (-(((((((M.1 95 0) - (M.1 94 0)).toInt64) * ((M.1 94 3).toInt64)) * ((M.1 95 3).toInt64)) - ((p * ((M.1 94 2).toInt64)) * ((M.1 95 3).toInt64))) + ((q * ((M.1 95 2).toInt64)) * ((M.1 94 3).toInt64))))]) C lkX7_28 (k_max (wl (wl (wl (wl M 18 1 ((q * ((M.1 94 3).toInt64)) - (p * ((M.1 95 3).toInt64)))) 18 0 (((((((M.1 95 0) - (M.1 94 0)).toInt64) * ((M.1 94 3).toInt64)) * ((M.1 95 3).toInt64)) - ((p * ((M.1 94 2).toInt64)) * ((M.1 95 3).toInt64))) + ((q * ((M.1 95 2).toInt64)) * ((M.1 94 3).toInt64)))) 18 1 (-((q * ((M.1 94 3).toInt64)) - (p * ((M.1 95 3).toInt64))))) 18 0 (-(((((((M.1 95 0) - (M.1 94 0)).toInt64) * ((M.1 94 3).toInt64)) * ((M.1 95 3).toInt64)) - ((p * ((M.1 94 2).toInt64)) * ((M.1 95 3).toInt64))) + ((q * ((M.1 95 2).toInt64)) * ((M.1 94 3).toInt64))))) (M.1 94 2) (M.1 95 2)) (by decide) rfl (Nat.le_of_ble_eq_true rfl) rfl dX7_take_127 ?_
      refine ar_i2l C dX7_take_130 ?_
      refine ar_lmul C dX7_take_131 ?_
      refine ar_lc_le (tgt := 140) C dX7_take_132 dX7_take_133 (by decide) (fun c_5 => ?_) (fun c_5 => ?_)
      · refine ar_iconst (v := 0) C dX7_take_140 (by decide) ?_
        have eL : g_lo (M.1 94) (M.1 95) p q = (-g_lo0 (M.1 94) (M.1 95) p q) := if_pos c_1
        have eU : g_up (M.1 94) (M.1 95) p q = (-g_up0 (M.1 94) (M.1 95) p q) := if_pos c_1
        have c2 : ¬ (-g_lo0 (M.1 94) (M.1 95) p q) = 0 := c_4
        have c3 : ¬ (-g_lo0 (M.1 94) (M.1 95) p q) * (f_max (M.1 94 2) (M.1 95 2)).toInt64 < (-g_up0 (M.1 94) (M.1 95) p q) := c_5
        refine ar_zreturn C rfl rfl dX7_take_141 ⟨?_, rfl, ?_, ?_, rfl, fun k j h => by simp [wl, h]⟩
        · rw [g_ok, eL, eU]; simp [c2, c3, bI]
        · rw [eL]; rfl
        · rw [eU]; rfl
      · refine ar_iconst (v := 1) C dX7_take_136 (by decide) ?_
        refine ar_goto (tgt := 141) C dX7_take_137 (by decide) ?_
        have eL : g_lo (M.1 94) (M.1 95) p q = (-g_lo0 (M.1 94) (M.1 95) p q) := if_pos c_1
        have eU : g_up (M.1 94) (M.1 95) p q = (-g_up0 (M.1 94) (M.1 95) p q) := if_pos c_1
        have c2 : ¬ (-g_lo0 (M.1 94) (M.1 95) p q) = 0 := c_4
        have c3 : (-g_lo0 (M.1 94) (M.1 95) p q) * (f_max (M.1 94 2) (M.1 95 2)).toInt64 < (-g_up0 (M.1 94) (M.1 95) p q) := c_5
        refine ar_zreturn C rfl rfl dX7_take_141 ⟨?_, rfl, ?_, ?_, rfl, fun k j h => by simp [wl, h]⟩
        · rw [g_ok, eL, eU]; simp [c2, c3, bI]
        · rw [eL]; rfl
        · rw [eU]; rfl
set_option maxHeartbeats 4000000 in
set_option maxRecDepth 100000 in
theorem k_highOf (M : Mm) (r : Int64) : AX mX7_highOf 1 [.ref 18, .ref 94, .long r] M (some (.long (f_lby ((M.1 94 1).toInt64 * M.2 18 1 * (M.1 94 3).toInt64 - r * (M.2 18 0 - (M.1 94 2).toInt64 * M.2 18 1)) (M.2 18 1 * (M.1 94 3).toInt64)))) M := by
  refine AM_ofF (by decide +kernel) (Nat.le_of_ble_eq_true rfl) (fun X V C _ _ => ?_)
  show AW X V mX7_highOf.2.2.1 T0 M 0 0 _ 0 [(0, .ref 18), (1, .ref 94), (2, .long r)] []
  refine ar_aload_n (n := 1) C dX7_highOf_0 rfl rfl ?_
  refine ar_geti C flX7_34 kd_94 dX7_highOf_1 ?_
  refine ar_i2l C dX7_highOf_4 ?_
  refine ar_aload_n (n := 0) C dX7_highOf_5 rfl rfl ?_
  refine ar_getl C flX7_13 kd_18 dX7_highOf_6 ?_
  refine ar_lmul C dX7_highOf_9 ?_
  refine ar_aload_n (n := 1) C dX7_highOf_10 rfl rfl ?_
  refine ar_geti C flX7_7 kd_94 dX7_highOf_11 ?_
  refine ar_i2l C dX7_highOf_14 ?_
  refine ar_lmul C dX7_highOf_15 ?_
  refine ar_lload_n (n := 2) C dX7_highOf_16 rfl rfl ?_
  refine ar_aload_n (n := 0) C dX7_highOf_17 rfl rfl ?_
  refine ar_getl C flX7_25 kd_18 dX7_highOf_18 ?_
  refine ar_aload_n (n := 1) C dX7_highOf_21 rfl rfl ?_
  refine ar_geti C flX7_22 kd_94 dX7_highOf_22 ?_
  refine ar_i2l C dX7_highOf_25 ?_
  refine ar_aload_n (n := 0) C dX7_highOf_26 rfl rfl ?_
  refine ar_getl C flX7_13 kd_18 dX7_highOf_27 ?_
  refine ar_lmul C dX7_highOf_30 ?_
  refine ar_lsub C dX7_highOf_31 ?_
  refine ar_lmul C dX7_highOf_32 ?_
  refine ar_lsub C dX7_highOf_33 ?_
  refine ar_aload_n (n := 0) C dX7_highOf_34 rfl rfl ?_
  refine ar_getl C flX7_13 kd_18 dX7_highOf_35 ?_
  refine ar_aload_n (n := 1) C dX7_highOf_38 rfl rfl ?_
  refine ar_geti C flX7_7 kd_94 dX7_highOf_39 ?_
  refine ar_i2l C dX7_highOf_42 ?_
  refine ar_lmul C dX7_highOf_43 ?_
  refine cS1 (ar := [.long (((((M.1 94 1).toInt64) * (M.2 18 1)) * ((M.1 94 3).toInt64)) - (r * ((M.2 18 0) - (((M.1 94 2).toInt64) * (M.2 18 1))))), .long ((M.2 18 1) * ((M.1 94 3).toInt64))]) (st := []) C lkX7_37 (k_lby M (((((M.1 94 1).toInt64) * (M.2 18 1)) * ((M.1 94 3).toInt64)) - (r * ((M.2 18 0) - (((M.1 94 2).toInt64) * (M.2 18 1))))) ((M.2 18 1) * ((M.1 94 3).toInt64))) (by decide) rfl (Nat.le_of_ble_eq_true rfl) rfl dX7_highOf_44 ?_
  exact ar_lreturn C rfl dX7_highOf_47 ⟨rfl, rfl, rfl⟩
