/-! CONSTRUCTORS -/
theorem Ez_gr {X : Ctx} {V : Vx} {T : Tt} {cl : Nat} (h : Ez X V T cl) : Ez X V (gr T) (cl + 1) := by
  unfold Ez at *
  show _ = V.2.2.1 + (T.1 + 1)
  omega
abbrev Tr (n : Nat) (r : Nat → Nat → Option Nat) : Tt := (n, T0ty, r)
set_option maxHeartbeats 4000000 in
set_option maxRecDepth 100000 in
theorem c_row (r : Nat → Nat → Option Nat) (M : Mm) {n k : Nat} (hk : k < n) (hkc : T0ty k = (5, 0)) (h0 : T0ty (n) = (20, 24)) (hlt : n < 113) (hF : Fr (Tr n r) M) : AM mX5_init 1 [.ref k] (Tr n r) M (fun v T1 M1 => v = none ∧ T1 = wr (gr (Tr n r)) k 0 (some n) ∧ M1 = wi M k 1 0) 1 24 := by
  refine AM_ofE (by decide +kernel) (Nat.le_of_ble_eq_true rfl) (by show n < 113; omega) (fun X V C hcR hsR hE => ?_)
  show AW X V mX5_init.2.2.1 (Tr n r) M 0 0 _ 0 [(0, .ref k)] []
  refine ar_aload_n (n := 0) C dX5_init_0 rfl rfl ?_
  refine ar_objInit C (by decide) (wA_t 94 (by decide +kernel) rfl) (wA_t 22 (by decide +kernel) rfl) (wA_t 23 (by decide +kernel) rfl) (by decide) dX5_init_1 ?_
  refine ar_aload_n (n := 0) C dX5_init_4 rfl rfl ?_
  refine ar_bipush (v := 24) C dX5_init_5 (by decide) ?_
  refine ar_topi (nI 24) (by decide) ?_
  refine ar_newi (T := Tr n r) (N := 24) C hE (wA_t 45 (by decide +kernel) rfl) hF h0 (by decide) (by rw [hcR, hsR]; exact ⟨by decide, by decide⟩) dX5_init_7 ?_
  refine ar_putrG (T := gr (Tr n r)) C (Ez_gr hE) flX5_9 (wA_t 95 (by decide +kernel) rfl) rfl rfl rfl ⟨show k < n + 1 from by omega, hkc⟩ dX5_init_9 ?_
  refine ar_aload_n (n := 0) C dX5_init_12 rfl rfl ?_
  refine ar_iconst (v := 0) C dX5_init_13 (by decide) ?_
  refine ar_putiG (T := wr (gr (Tr n r)) k 0 (some n)) C (Ez_gr hE) flX5_15 ⟨show k < n + 1 from by omega, hkc⟩ dX5_init_14 ?_
  exact ar_return C rfl dX5_init_17 ⟨rfl, rfl, rfl⟩
set_option maxHeartbeats 4000000 in
set_option maxRecDepth 100000 in
theorem c_sheet (r : Nat → Nat → Option Nat) (M : Mm) {n k : Nat} (hk : k < n) (hkc : T0ty k = (6, 0)) (h0 : T0ty (n) = (20, 80)) (hlt : n < 113) (hF : Fr (Tr n r) M) : AM mX6_init 1 [.ref k] (Tr n r) M (fun v T1 M1 => v = none ∧ T1 = wr (gr (Tr n r)) k 0 (some n) ∧ M1 = wi (wi M k 1 (-1)) k 2 0) 1 80 := by
  refine AM_ofE (by decide +kernel) (Nat.le_of_ble_eq_true rfl) (by show n < 113; omega) (fun X V C hcR hsR hE => ?_)
  show AW X V mX6_init.2.2.1 (Tr n r) M 0 0 _ 0 [(0, .ref k)] []
  refine ar_aload_n (n := 0) C dX6_init_0 rfl rfl ?_
  refine ar_objInit C (by decide) (wA_t 200 (by decide +kernel) rfl) (wA_t 22 (by decide +kernel) rfl) (wA_t 23 (by decide +kernel) rfl) (by decide) dX6_init_1 ?_
  refine ar_aload_n (n := 0) C dX6_init_4 rfl rfl ?_
  refine ar_bipush (v := 80) C dX6_init_5 (by decide) ?_
  refine ar_topi (nI 80) (by decide) ?_
  refine ar_newi (T := Tr n r) (N := 80) C hE (wA_t 45 (by decide +kernel) rfl) hF h0 (by decide) (by rw [hcR, hsR]; exact ⟨by decide, by decide⟩) dX6_init_7 ?_
  refine ar_putrG (T := gr (Tr n r)) C (Ez_gr hE) flX6_9 (wA_t 201 (by decide +kernel) rfl) rfl rfl rfl ⟨show k < n + 1 from by omega, hkc⟩ dX6_init_9 ?_
  refine ar_aload_n (n := 0) C dX6_init_12 rfl rfl ?_
  refine ar_iconst (v := (-1)) C dX6_init_13 (by decide) ?_
  refine ar_putiG (T := wr (gr (Tr n r)) k 0 (some n)) C (Ez_gr hE) flX6_15 ⟨show k < n + 1 from by omega, hkc⟩ dX6_init_14 ?_
  refine ar_aload_n (n := 0) C dX6_init_17 rfl rfl ?_
  refine ar_iconst (v := 0) C dX6_init_18 (by decide) ?_
  refine ar_putiG (T := wr (gr (Tr n r)) k 0 (some n)) C (Ez_gr hE) flX6_19 ⟨show k < n + 1 from by omega, hkc⟩ dX6_init_19 ?_
  exact ar_return C rfl dX6_init_22 ⟨rfl, rfl, rfl⟩
set_option maxHeartbeats 4000000 in
set_option maxRecDepth 100000 in
theorem c_trace (r : Nat → Nat → Option Nat) (M : Mm) {n k : Nat} (hk : k < n) (hkc : T0ty k = (10, 0)) (h0 : T0ty (n) = (21, 24)) (h1 : T0ty (n + 1) = (20, 24)) (h2 : T0ty (n + 2) = (20, 24)) (hlt : n + 3 < 114) (hF : Fr (Tr n r) M) : AM mX10_init 1 [.ref k] (Tr n r) M (fun v T1 M1 => v = none ∧ T1 = wr (gr (wr (gr (wr (gr (Tr n r)) k 0 (some n))) k 1 (some (n + 1)))) k 2 (some (n + 2)) ∧ M1 = M) 3 72 := by
  refine AM_ofE (by decide +kernel) (Nat.le_of_ble_eq_true rfl) (by show n < 113; omega) (fun X V C hcR hsR hE => ?_)
  show AW X V mX10_init.2.2.1 (Tr n r) M 0 0 _ 0 [(0, .ref k)] []
  refine ar_aload_n (n := 0) C dX10_init_0 rfl rfl ?_
  refine ar_objInit C (by decide) (wA_t 243 (by decide +kernel) rfl) (wA_t 22 (by decide +kernel) rfl) (wA_t 23 (by decide +kernel) rfl) (by decide) dX10_init_1 ?_
  refine ar_aload_n (n := 0) C dX10_init_4 rfl rfl ?_
  refine ar_bipush (v := 24) C dX10_init_5 (by decide) ?_
  refine ar_topi (nI 24) (by decide) ?_
  refine ar_newz (T := Tr n r) (N := 24) C hE (wA_t 260 (by decide +kernel) rfl) hF h0 (by decide) (by rw [hcR, hsR]; exact ⟨by decide, by decide⟩) dX10_init_7 ?_
  refine ar_putrG (T := gr (Tr n r)) C (Ez_gr hE) flX10_9 (wA_t 244 (by decide +kernel) rfl) rfl rfl rfl ⟨show k < n + 1 from by omega, hkc⟩ dX10_init_9 ?_
  refine ar_aload_n (n := 0) C dX10_init_12 rfl rfl ?_
  refine ar_bipush (v := 24) C dX10_init_13 (by decide) ?_
  refine ar_topi (nI 24) (by decide) ?_
  refine ar_newi (T := wr (gr (Tr n r)) k 0 (some n)) (N := 24) C (Ez_gr hE) (wA_t 45 (by decide +kernel) rfl) (Fr_wr (Fr_gr hF) (show k < n + 1 from by omega)) h1 (by decide) (by rw [hcR, hsR]; exact ⟨by decide, by decide⟩) dX10_init_15 ?_
  refine ar_putrG (T := gr (wr (gr (Tr n r)) k 0 (some n))) C (Ez_gr (Ez_gr hE)) flX10_15 (wA_t 247 (by decide +kernel) rfl) rfl rfl rfl ⟨show k < n + 2 from by omega, hkc⟩ dX10_init_17 ?_
  refine ar_aload_n (n := 0) C dX10_init_20 rfl rfl ?_
  refine ar_bipush (v := 24) C dX10_init_21 (by decide) ?_
  refine ar_topi (nI 24) (by decide) ?_
  refine ar_newi (T := wr (gr (wr (gr (Tr n r)) k 0 (some n))) k 1 (some (n + 1))) (N := 24) C (Ez_gr (Ez_gr hE)) (wA_t 45 (by decide +kernel) rfl) (Fr_wr (Fr_gr (Fr_wr (Fr_gr hF) (show k < n + 1 from by omega))) (show k < n + 2 from by omega)) h2 (by decide) (by rw [hcR, hsR]; exact ⟨by decide, by decide⟩) dX10_init_23 ?_
  refine ar_putrG (T := gr (wr (gr (wr (gr (Tr n r)) k 0 (some n))) k 1 (some (n + 1)))) C (Ez_gr (Ez_gr (Ez_gr hE))) flX10_19 (wA_t 250 (by decide +kernel) rfl) rfl rfl rfl ⟨show k < n + 3 from by omega, hkc⟩ dX10_init_25 ?_
  exact ar_return C rfl dX10_init_28 ⟨rfl, rfl, rfl⟩
set_option maxHeartbeats 4000000 in
set_option maxRecDepth 100000 in
theorem c_thing (r : Nat → Nat → Option Nat) (M : Mm) {n k : Nat} (hk : k < n) (hkc : T0ty k = (9, 0))  (hlt : n < 113) (hF : Fr (Tr n r) M) : AM mX9_init 1 [.ref k] (Tr n r) M (fun v T1 M1 => v = none ∧ T1 = Tr n r ∧ M1 = wi M k 2 1) 0 0 := by
  refine AM_ofE (by decide +kernel) (Nat.le_of_ble_eq_true rfl) (by show n < 113; omega) (fun X V C hcR hsR hE => ?_)
  show AW X V mX9_init.2.2.1 (Tr n r) M 0 0 _ 0 [(0, .ref k)] []
  refine ar_aload_n (n := 0) C dX9_init_0 rfl rfl ?_
  refine ar_objInit C (by decide) (wA_t 217 (by decide +kernel) rfl) (wA_t 22 (by decide +kernel) rfl) (wA_t 23 (by decide +kernel) rfl) (by decide) dX9_init_1 ?_
  refine ar_aload_n (n := 0) C dX9_init_4 rfl rfl ?_
  refine ar_iconst (v := 1) C dX9_init_5 (by decide) ?_
  refine ar_putiG (T := Tr n r) C hE flX9_7 ⟨show k < n from by omega, hkc⟩ dX9_init_6 ?_
  exact ar_return C rfl dX9_init_9 ⟨rfl, rfl, rfl⟩
set_option maxHeartbeats 4000000 in
set_option maxRecDepth 100000 in
theorem c_stand (r : Nat → Nat → Option Nat) (M : Mm) {n k : Nat} (hk : k < n) (hkc : T0ty k = (8, 0))  (hlt : n < 113) (hF : Fr (Tr n r) M) : AM mX8_init 1 [.ref k] (Tr n r) M (fun v T1 M1 => v = none ∧ T1 = Tr n r ∧ M1 = wi M k 3 100) 0 0 := by
  refine AM_ofE (by decide +kernel) (Nat.le_of_ble_eq_true rfl) (by show n < 113; omega) (fun X V C hcR hsR hE => ?_)
  show AW X V mX8_init.2.2.1 (Tr n r) M 0 0 _ 0 [(0, .ref k)] []
  refine ar_aload_n (n := 0) C dX8_init_0 rfl rfl ?_
  refine ar_objInit C (by decide) (wA_t 150 (by decide +kernel) rfl) (wA_t 22 (by decide +kernel) rfl) (wA_t 23 (by decide +kernel) rfl) (by decide) dX8_init_1 ?_
  refine ar_aload_n (n := 0) C dX8_init_4 rfl rfl ?_
  refine ar_bipush (v := 100) C dX8_init_5 (by decide) ?_
  refine ar_putiG (T := Tr n r) C hE flX8_7 ⟨show k < n from by omega, hkc⟩ dX8_init_7 ?_
  exact ar_return C rfl dX8_init_10 ⟨rfl, rfl, rfl⟩
set_option maxHeartbeats 4000000 in
set_option maxRecDepth 100000 in
theorem c_picture (r : Nat → Nat → Option Nat) (M : Mm) {n k : Nat} (hk : k < n) (hkc : T0ty k = (2, 0))  (hlt : n < 113) (hF : Fr (Tr n r) M) : AM mX2_init 1 [.ref k] (Tr n r) M (fun v T1 M1 => v = none ∧ T1 = Tr n r ∧ M1 = M) 0 0 := by
  refine AM_ofE (by decide +kernel) (Nat.le_of_ble_eq_true rfl) (by show n < 113; omega) (fun X V C hcR hsR hE => ?_)
  show AW X V mX2_init.2.2.1 (Tr n r) M 0 0 _ 0 [(0, .ref k)] []
  refine ar_aload_n (n := 0) C dX2_init_0 rfl rfl ?_
  refine ar_objInit C (by decide) (wA_t 53 (by decide +kernel) rfl) (wA_t 22 (by decide +kernel) rfl) (wA_t 23 (by decide +kernel) rfl) (by decide) dX2_init_1 ?_
  exact ar_return C rfl dX2_init_4 ⟨rfl, rfl, rfl⟩
set_option maxHeartbeats 4000000 in
set_option maxRecDepth 100000 in
theorem c_sight (r : Nat → Nat → Option Nat) (M : Mm) {n k : Nat} (hk : k < n) (hkc : T0ty k = (7, 0))  (hlt : n < 113) (hF : Fr (Tr n r) M) : AM mX7_init 1 [.ref k] (Tr n r) M (fun v T1 M1 => v = none ∧ T1 = Tr n r ∧ M1 = M) 0 0 := by
  refine AM_ofE (by decide +kernel) (Nat.le_of_ble_eq_true rfl) (by show n < 113; omega) (fun X V C hcR hsR hE => ?_)
  show AW X V mX7_init.2.2.1 (Tr n r) M 0 0 _ 0 [(0, .ref k)] []
  refine ar_aload_n (n := 0) C dX7_init_0 rfl rfl ?_
  refine ar_objInit C (by decide) (wA_t 136 (by decide +kernel) rfl) (wA_t 22 (by decide +kernel) rfl) (wA_t 23 (by decide +kernel) rfl) (by decide) dX7_init_1 ?_
  exact ar_return C rfl dX7_init_4 ⟨rfl, rfl, rfl⟩
set_option maxHeartbeats 4000000 in
set_option maxRecDepth 100000 in
theorem c_bodies (r : Nat → Nat → Option Nat) (M : Mm) {n k : Nat} (hk : k < n) (hkc : T0ty k = (0, 0)) (h0 : T0ty (n) = (20, 16)) (hlt : n < 113) (hF : Fr (Tr n r) M) : AM mX0_init 1 [.ref k] (Tr n r) M (fun v T1 M1 => v = none ∧ T1 = wr (gr (Tr n r)) k 0 (some n) ∧ M1 = wi M k 1 0) 1 16 := by
  refine AM_ofE (by decide +kernel) (Nat.le_of_ble_eq_true rfl) (by show n < 113; omega) (fun X V C hcR hsR hE => ?_)
  show AW X V mX0_init.2.2.1 (Tr n r) M 0 0 _ 0 [(0, .ref k)] []
  refine ar_aload_n (n := 0) C dX0_init_0 rfl rfl ?_
  refine ar_objInit C (by decide) (wA_t 177 (by decide +kernel) rfl) (wA_t 22 (by decide +kernel) rfl) (wA_t 23 (by decide +kernel) rfl) (by decide) dX0_init_1 ?_
  refine ar_aload_n (n := 0) C dX0_init_4 rfl rfl ?_
  refine ar_bipush (v := 16) C dX0_init_5 (by decide) ?_
  refine ar_topi (nI 16) (by decide) ?_
  refine ar_newi (T := Tr n r) (N := 16) C hE (wA_t 45 (by decide +kernel) rfl) hF h0 (by decide) (by rw [hcR, hsR]; exact ⟨by decide, by decide⟩) dX0_init_7 ?_
  refine ar_putrG (T := gr (Tr n r)) C (Ez_gr hE) flX0_9 (wA_t 178 (by decide +kernel) rfl) rfl rfl rfl ⟨show k < n + 1 from by omega, hkc⟩ dX0_init_9 ?_
  refine ar_aload_n (n := 0) C dX0_init_12 rfl rfl ?_
  refine ar_iconst (v := 0) C dX0_init_13 (by decide) ?_
  refine ar_putiG (T := wr (gr (Tr n r)) k 0 (some n)) C (Ez_gr hE) flX0_15 ⟨show k < n + 1 from by omega, hkc⟩ dX0_init_14 ?_
  exact ar_return C rfl dX0_init_17 ⟨rfl, rfl, rfl⟩
set_option maxHeartbeats 4000000 in
set_option maxRecDepth 100000 in
theorem c_ring (r : Nat → Nat → Option Nat) (M : Mm) {n k : Nat} (hk : k < n) (hkc : T0ty k = (3, 0)) (h0 : T0ty (n) = (20, 9)) (h1 : T0ty (n + 1) = (20, 9)) (hlt : n + 2 < 114) (hF : Fr (Tr n r) M) : AM mX3_init 1 [.ref k] (Tr n r) M (fun v T1 M1 => v = none ∧ T1 = wr (gr (wr (gr (Tr n r)) k 0 (some n))) k 1 (some (n + 1)) ∧ M1 = wi M k 2 0) 2 18 := by
  refine AM_ofE (by decide +kernel) (Nat.le_of_ble_eq_true rfl) (by show n < 113; omega) (fun X V C hcR hsR hE => ?_)
  show AW X V mX3_init.2.2.1 (Tr n r) M 0 0 _ 0 [(0, .ref k)] []
  refine ar_aload_n (n := 0) C dX3_init_0 rfl rfl ?_
  refine ar_objInit C (by decide) (wA_t 115 (by decide +kernel) rfl) (wA_t 22 (by decide +kernel) rfl) (wA_t 23 (by decide +kernel) rfl) (by decide) dX3_init_1 ?_
  refine ar_aload_n (n := 0) C dX3_init_4 rfl rfl ?_
  refine ar_bipush (v := 9) C dX3_init_5 (by decide) ?_
  refine ar_topi (nI 9) (by decide) ?_
  refine ar_newi (T := Tr n r) (N := 9) C hE (wA_t 45 (by decide +kernel) rfl) hF h0 (by decide) (by rw [hcR, hsR]; exact ⟨by decide, by decide⟩) dX3_init_7 ?_
  refine ar_putrG (T := gr (Tr n r)) C (Ez_gr hE) flX3_9 (wA_t 116 (by decide +kernel) rfl) rfl rfl rfl ⟨show k < n + 1 from by omega, hkc⟩ dX3_init_9 ?_
  refine ar_aload_n (n := 0) C dX3_init_12 rfl rfl ?_
  refine ar_bipush (v := 9) C dX3_init_13 (by decide) ?_
  refine ar_topi (nI 9) (by decide) ?_
  refine ar_newi (T := wr (gr (Tr n r)) k 0 (some n)) (N := 9) C (Ez_gr hE) (wA_t 45 (by decide +kernel) rfl) (Fr_wr (Fr_gr hF) (show k < n + 1 from by omega)) h1 (by decide) (by rw [hcR, hsR]; exact ⟨by decide, by decide⟩) dX3_init_15 ?_
  refine ar_putrG (T := gr (wr (gr (Tr n r)) k 0 (some n))) C (Ez_gr (Ez_gr hE)) flX3_15 (wA_t 118 (by decide +kernel) rfl) rfl rfl rfl ⟨show k < n + 2 from by omega, hkc⟩ dX3_init_17 ?_
  refine ar_aload_n (n := 0) C dX3_init_20 rfl rfl ?_
  refine ar_iconst (v := 0) C dX3_init_21 (by decide) ?_
  refine ar_putiG (T := wr (gr (wr (gr (Tr n r)) k 0 (some n))) k 1 (some (n + 1))) C (Ez_gr (Ez_gr hE)) flX3_18 ⟨show k < n + 2 from by omega, hkc⟩ dX3_init_22 ?_
  exact ar_return C rfl dX3_init_25 ⟨rfl, rfl, rfl⟩
set_option maxHeartbeats 4000000 in
set_option maxRecDepth 100000 in
theorem c_room (r : Nat → Nat → Option Nat) (M : Mm) {n k : Nat} (hk : k < n) (hkc : T0ty k = (4, 0)) (h0 : T0ty (n) = (20, 7)) (h1 : T0ty (n + 1) = (20, 17)) (h2 : T0ty (n + 2) = (20, 101)) (hlt : n + 3 < 114) (hF : Fr (Tr n r) M) : AM mX4_init 1 [.ref k] (Tr n r) M (fun v T1 M1 => v = none ∧ T1 = wr (gr (wr (gr (wr (gr (Tr n r)) k 0 (some n))) k 1 (some (n + 1)))) k 2 (some (n + 2)) ∧ M1 = wi (wi (wi (wi (wi (wi (wi M n 0 0) n 1 10) n 2 100) n 3 0) n 4 5) n 5 160) n 6 100) 3 125 := by
  refine AM_ofE (by decide +kernel) (Nat.le_of_ble_eq_true rfl) (by show n < 113; omega) (fun X V C hcR hsR hE => ?_)
  show AW X V mX4_init.2.2.1 (Tr n r) M 0 0 _ 0 [(0, .ref k)] []
  refine ar_aload_n (n := 0) C dX4_init_0 rfl rfl ?_
  refine ar_objInit C (by decide) (wA_t 31 (by decide +kernel) rfl) (wA_t 22 (by decide +kernel) rfl) (wA_t 23 (by decide +kernel) rfl) (by decide) dX4_init_1 ?_
  refine ar_aload_n (n := 0) C dX4_init_4 rfl rfl ?_
  refine ar_bipush (v := 7) C dX4_init_5 (by decide) ?_
  refine ar_topi (nI 7) (by decide) ?_
  refine ar_newi (T := Tr n r) (N := 7) C hE (wA_t 45 (by decide +kernel) rfl) hF h0 (by decide) (by rw [hcR, hsR]; exact ⟨by decide, by decide⟩) dX4_init_7 ?_
  refine ar_dup C dX4_init_9 rfl ?_
  refine ar_iconst (v := 0) C dX4_init_10 (by decide) ?_
  refine ar_iconst (v := 0) C dX4_init_11 (by decide) ?_
  refine ar_iastG (j := 0) (T := gr (Tr n r)) C (Ez_gr hE) ⟨show n < n + 1 from by omega, h0⟩ (by decide) (by decide) (by decide) dX4_init_12 ?_
  refine ar_dup C dX4_init_13 rfl ?_
  refine ar_iconst (v := 1) C dX4_init_14 (by decide) ?_
  refine ar_bipush (v := 10) C dX4_init_15 (by decide) ?_
  refine ar_iastG (j := 1) (T := gr (Tr n r)) C (Ez_gr hE) ⟨show n < n + 1 from by omega, h0⟩ (by decide) (by decide) (by decide) dX4_init_17 ?_
  refine ar_dup C dX4_init_18 rfl ?_
  refine ar_iconst (v := 2) C dX4_init_19 (by decide) ?_
  refine ar_bipush (v := 100) C dX4_init_20 (by decide) ?_
  refine ar_iastG (j := 2) (T := gr (Tr n r)) C (Ez_gr hE) ⟨show n < n + 1 from by omega, h0⟩ (by decide) (by decide) (by decide) dX4_init_22 ?_
  refine ar_dup C dX4_init_23 rfl ?_
  refine ar_iconst (v := 3) C dX4_init_24 (by decide) ?_
  refine ar_iconst (v := 0) C dX4_init_25 (by decide) ?_
  refine ar_iastG (j := 3) (T := gr (Tr n r)) C (Ez_gr hE) ⟨show n < n + 1 from by omega, h0⟩ (by decide) (by decide) (by decide) dX4_init_26 ?_
  refine ar_dup C dX4_init_27 rfl ?_
  refine ar_iconst (v := 4) C dX4_init_28 (by decide) ?_
  refine ar_iconst (v := 5) C dX4_init_29 (by decide) ?_
  refine ar_iastG (j := 4) (T := gr (Tr n r)) C (Ez_gr hE) ⟨show n < n + 1 from by omega, h0⟩ (by decide) (by decide) (by decide) dX4_init_30 ?_
  refine ar_dup C dX4_init_31 rfl ?_
  refine ar_iconst (v := 5) C dX4_init_32 (by decide) ?_
  refine ar_sipush (v := 160) C dX4_init_33 (by decide) ?_
  refine ar_iastG (j := 5) (T := gr (Tr n r)) C (Ez_gr hE) ⟨show n < n + 1 from by omega, h0⟩ (by decide) (by decide) (by decide) dX4_init_36 ?_
  refine ar_dup C dX4_init_37 rfl ?_
  refine ar_bipush (v := 6) C dX4_init_38 (by decide) ?_
  refine ar_bipush (v := 100) C dX4_init_40 (by decide) ?_
  refine ar_iastG (j := 6) (T := gr (Tr n r)) C (Ez_gr hE) ⟨show n < n + 1 from by omega, h0⟩ (by decide) (by decide) (by decide) dX4_init_42 ?_
  refine ar_putrG (T := gr (Tr n r)) C (Ez_gr hE) flX4_9 (wA_t 32 (by decide +kernel) rfl) rfl rfl rfl ⟨show k < n + 1 from by omega, hkc⟩ dX4_init_43 ?_
  refine ar_aload_n (n := 0) C dX4_init_46 rfl rfl ?_
  refine ar_bipush (v := 17) C dX4_init_47 (by decide) ?_
  refine ar_topi (nI 17) (by decide) ?_
  refine ar_newi (T := wr (gr (Tr n r)) k 0 (some n)) (N := 17) C (Ez_gr hE) (wA_t 45 (by decide +kernel) rfl) (Fr_wr (Fr_wi (Fr_wi (Fr_wi (Fr_wi (Fr_wi (Fr_wi (Fr_wi (Fr_gr hF) (show n < n + 1 from by omega)) (show n < n + 1 from by omega)) (show n < n + 1 from by omega)) (show n < n + 1 from by omega)) (show n < n + 1 from by omega)) (show n < n + 1 from by omega)) (show n < n + 1 from by omega)) (show k < n + 1 from by omega)) h1 (by decide) (by rw [hcR, hsR]; exact ⟨by decide, by decide⟩) dX4_init_49 ?_
  refine ar_putrG (T := gr (wr (gr (Tr n r)) k 0 (some n))) C (Ez_gr (Ez_gr hE)) flX4_15 (wA_t 35 (by decide +kernel) rfl) rfl rfl rfl ⟨show k < n + 2 from by omega, hkc⟩ dX4_init_51 ?_
  refine ar_aload_n (n := 0) C dX4_init_54 rfl rfl ?_
  refine ar_bipush (v := 101) C dX4_init_55 (by decide) ?_
  refine ar_topi (nI 101) (by decide) ?_
  refine ar_newi (T := wr (gr (wr (gr (Tr n r)) k 0 (some n))) k 1 (some (n + 1))) (N := 101) C (Ez_gr (Ez_gr hE)) (wA_t 45 (by decide +kernel) rfl) (Fr_wr (Fr_gr (Fr_wr (Fr_wi (Fr_wi (Fr_wi (Fr_wi (Fr_wi (Fr_wi (Fr_wi (Fr_gr hF) (show n < n + 1 from by omega)) (show n < n + 1 from by omega)) (show n < n + 1 from by omega)) (show n < n + 1 from by omega)) (show n < n + 1 from by omega)) (show n < n + 1 from by omega)) (show n < n + 1 from by omega)) (show k < n + 1 from by omega))) (show k < n + 2 from by omega)) h2 (by decide) (by rw [hcR, hsR]; exact ⟨by decide, by decide⟩) dX4_init_57 ?_
  refine ar_putrG (T := gr (wr (gr (wr (gr (Tr n r)) k 0 (some n))) k 1 (some (n + 1)))) C (Ez_gr (Ez_gr (Ez_gr hE))) flX4_18 (wA_t 37 (by decide +kernel) rfl) rfl rfl rfl ⟨show k < n + 3 from by omega, hkc⟩ dX4_init_59 ?_
  exact ar_return C rfl dX4_init_62 ⟨rfl, rfl, rfl⟩
set_option maxHeartbeats 4000000 in
set_option maxRecDepth 100000 in
theorem c_joint (r : Nat → Nat → Option Nat) (M : Mm) {n k : Nat} (hk : k < n) (hkc : T0ty k = (1, 0)) (h0 : T0ty (n) = (5, 0)) (h1 : T0ty (n + 1) = (20, 24)) (h2 : T0ty (n + 2) = (5, 0)) (h3 : T0ty (n + 3) = (20, 24)) (hlt : n + 4 < 114) (hF : Fr (Tr n r) M) : AM mX1_init 2 [.ref k] (Tr n r) M (fun v T1 M1 => v = none ∧ T1 = wr (wr (gr (gr (wr (wr (gr (gr (Tr n r))) n 0 (some (n + 1))) k 0 (some n)))) (n + 2) 0 (some (n + 3))) k 1 (some (n + 2)) ∧ M1 = wi (wi M n 1 0) (n + 2) 1 0) 4 52 := by
  refine AM_ofE (by decide +kernel) (Nat.le_of_ble_eq_true rfl) (by show n < 113; omega) (fun X V C hcR hsR hE => ?_)
  show AW X V mX1_init.2.2.1 (Tr n r) M 0 0 _ 0 [(0, .ref k)] []
  refine ar_aload_n (n := 0) C dX1_init_0 rfl rfl ?_
  refine ar_objInit C (by decide) (wA_t 88 (by decide +kernel) rfl) (wA_t 22 (by decide +kernel) rfl) (wA_t 23 (by decide +kernel) rfl) (by decide) dX1_init_1 ?_
  refine ar_aload_n (n := 0) C dX1_init_4 rfl rfl ?_
  refine ar_newG (c := 5) (T := Tr n r) C hE (by decide) cwX5 (wA_t 89 (by decide +kernel) rfl) (wA_t 90 (by decide +kernel) rfl) (wA_t 5 (by decide +kernel) rfl) hF h0 (by decide) (by rw [hcR, hsR]; exact ⟨by decide, by decide⟩) dX1_init_5 ?_
  refine ar_dup C dX1_init_8 rfl ?_
  refine ar_callI (k := n) (ar := []) (st := [.ref n, .ref k]) C lkX1_11 (c_row (gr (Tr n r)).2.2 M (n := n + 1) (k := n) (by omega) h0 h1 (by omega) (Fr_gr hF)) (by decide) rfl (Nat.le_of_ble_eq_true rfl) rfl (by rw [hcR, hsR]; exact ⟨by decide, by decide⟩) dX1_init_9 (fun v1 T1 M1 hp => ?_)
  obtain ⟨rfl, rfl, rfl⟩ := hp
  show AW X V mX1_init.2.2.1 (wr (gr (gr (Tr n r))) n 0 (some (n + 1))) (wi M n 1 0) 2 26 _ 12 [(0, .ref k)] [.ref n, .ref k]
  refine ar_putrG (T := wr (gr (gr (Tr n r))) n 0 (some (n + 1))) C (Ez_gr (Ez_gr hE)) flX1_12 (wA_t 103 (by decide +kernel) rfl) rfl rfl rfl ⟨show k < n + 2 from by omega, hkc⟩ dX1_init_12 ?_
  refine ar_aload_n (n := 0) C dX1_init_15 rfl rfl ?_
  refine ar_newG (c := 5) (T := wr (wr (gr (gr (Tr n r))) n 0 (some (n + 1))) k 0 (some n)) C (Ez_gr (Ez_gr hE)) (by decide) cwX5 (wA_t 89 (by decide +kernel) rfl) (wA_t 90 (by decide +kernel) rfl) (wA_t 5 (by decide +kernel) rfl) (Fr_wr (Fr_wi (Fr_wr (Fr_gr (Fr_gr hF)) (show n < n + 2 from by omega)) (show n < n + 2 from by omega)) (show k < n + 2 from by omega)) h2 (by decide) (by rw [hcR, hsR]; exact ⟨by decide, by decide⟩) dX1_init_16 ?_
  refine ar_dup C dX1_init_19 rfl ?_
  refine ar_callI (k := n + 2) (ar := []) (st := [.ref (n + 2), .ref k]) C lkX1_11 (c_row (gr (wr (wr (gr (gr (Tr n r))) n 0 (some (n + 1))) k 0 (some n))).2.2 (wi M n 1 0) (n := n + 3) (k := n + 2) (by omega) h2 h3 (by omega) (Fr_gr (Fr_wr (Fr_wi (Fr_wr (Fr_gr (Fr_gr hF)) (show n < n + 2 from by omega)) (show n < n + 2 from by omega)) (show k < n + 2 from by omega)))) (by decide) rfl (Nat.le_of_ble_eq_true rfl) rfl (by rw [hcR, hsR]; exact ⟨by decide, by decide⟩) dX1_init_20 (fun v1 T1 M1 hp => ?_)
  obtain ⟨rfl, rfl, rfl⟩ := hp
  show AW X V mX1_init.2.2.1 (wr (gr (gr (wr (wr (gr (gr (Tr n r))) n 0 (some (n + 1))) k 0 (some n)))) (n + 2) 0 (some (n + 3))) (wi (wi M n 1 0) (n + 2) 1 0) 4 52 _ 23 [(0, .ref k)] [.ref (n + 2), .ref k]
  refine ar_putrG (T := wr (gr (gr (wr (wr (gr (gr (Tr n r))) n 0 (some (n + 1))) k 0 (some n)))) (n + 2) 0 (some (n + 3))) C (Ez_gr (Ez_gr (Ez_gr (Ez_gr hE)))) flX1_18 (wA_t 104 (by decide +kernel) rfl) rfl rfl rfl ⟨show k < n + 4 from by omega, hkc⟩ dX1_init_23 ?_
  exact ar_return C rfl dX1_init_26 ⟨rfl, rfl, rfl⟩
