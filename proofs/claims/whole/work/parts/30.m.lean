/-! THE MODEL: its small methods and the first public ones -/
theorem ix80 (s k : Nat) : 80 * nI s + nI k = nI (80 * s + k) := by rw [show (80 : Int32) = nI 80 from rfl, pk_mul, nI_add]
theorem ix24 (s k : Nat) : 24 * nI s + nI k = nI (24 * s + k) := by rw [show (24 : Int32) = nI 24 from rfl, pk_mul, nI_add]
def wfr (M : Mm) (k a n : Nat) (v : Int32) : Mm := (fun c b => if c = k ∧ a ≤ b ∧ b < a + n then v else M.1 c b, M.2)
theorem wfr_0 (M : Mm) (k a : Nat) (v : Int32) : wfr M k a 0 v = M := by
  have e : ∀ c b, (if c = k ∧ a ≤ b ∧ b < a + 0 then v else M.1 c b) = M.1 c b := fun c b => if_neg (by omega)
  simp only [wfr, e]
theorem wfr_s (M : Mm) (k a n : Nat) (v : Int32) : wi (wfr M k a n v) k (a + n) v = wfr M k a (n + 1) v := by
  simp only [wi, wfr]
  congr 1
  funext c b
  by_cases h1 : c = k ∧ b = a + n
  · rw [if_pos h1, if_pos (by omega)]
  · rw [if_neg h1]
    by_cases h2 : c = k ∧ a ≤ b ∧ b < a + n
    · rw [if_pos h2, if_pos (by omega)]
    · rw [if_neg h2, if_neg (by omega)]
set_option maxHeartbeats 4000000 in
set_option maxRecDepth 100000 in
theorem k_mFound (M : Mm) (n : Int32) : AX mX12_found 0 [.ref 96, .int n] M (some (.int (-1000010 - n))) (wi M 96 1 n) := by
  refine AM_ofF (by decide +kernel) (Nat.le_of_ble_eq_true rfl) (fun X V C _ _ => ?_)
  show AW X V mX12_found.2.2.1 T0 M 0 0 _ 0 [(0, .ref 96), (1, .int n)] []
  refine ar_aload_n (n := 0) C dX12_found_0 rfl rfl ?_
  refine ar_iload_n (n := 1) C dX12_found_1 rfl rfl ?_
  refine ar_puti C flX12_63 kd_96 dX12_found_2 ?_
  refine ar_ldc C kcX12_66 dX12_found_5 ?_
  refine ar_iload_n (n := 1) C dX12_found_7 rfl rfl ?_
  refine ar_isub C dX12_found_8 ?_
  exact ar_ireturn C rfl dX12_found_9 ⟨rfl, rfl, rfl⟩
set_option maxHeartbeats 4000000 in
set_option maxRecDepth 100000 in
theorem k_mSheet (M : Mm) (s : Int32) : AX mX12_isSheet 1 [.int s] M (some (.int (bI (f_in s 0 7)))) M := by
  refine AM_ofF (by decide +kernel) (Nat.le_of_ble_eq_true rfl) (fun X V C _ _ => ?_)
  show AW X V mX12_isSheet.2.2.1 T0 M 0 0 _ 0 [(0, .int s)] []
  refine ar_iload_n (n := 0) C dX12_isSheet_0 rfl rfl ?_
  refine ar_i2l C dX12_isSheet_1 ?_
  refine ar_lconst (v := 0) C dX12_isSheet_2 (by decide) ?_
  refine ar_ldc2 C kcX12_67 dX12_isSheet_3 ?_
  refine cS1 (ar := [.long s.toInt64, .long 0, .long 7]) (st := []) C lkX12_69 (k_inI M s 0 7 _ _ (by decide) (by decide)) (by decide) rfl (Nat.le_of_ble_eq_true rfl) rfl dX12_isSheet_6 ?_
  exact ar_zreturn C rfl (bI_nar _) dX12_isSheet_9 ⟨rfl, rfl, rfl⟩
set_option maxHeartbeats 4000000 in
set_option maxRecDepth 100000 in
theorem k_mTrace (M : Mm) (s : Int32) : AX mX12_isTrace 1 [.int s] M (some (.int (bI (f_in s 0 7)))) M := by
  refine AM_ofF (by decide +kernel) (Nat.le_of_ble_eq_true rfl) (fun X V C _ _ => ?_)
  show AW X V mX12_isTrace.2.2.1 T0 M 0 0 _ 0 [(0, .int s)] []
  refine ar_iload_n (n := 0) C dX12_isTrace_0 rfl rfl ?_
  refine ar_i2l C dX12_isTrace_1 ?_
  refine ar_lconst (v := 0) C dX12_isTrace_2 (by decide) ?_
  refine ar_ldc2 C kcX12_67 dX12_isTrace_3 ?_
  refine cS1 (ar := [.long s.toInt64, .long 0, .long 7]) (st := []) C lkX12_69 (k_inI M s 0 7 _ _ (by decide) (by decide)) (by decide) rfl (Nat.le_of_ble_eq_true rfl) rfl dX12_isTrace_6 ?_
  exact ar_zreturn C rfl (bI_nar _) dX12_isTrace_9 ⟨rfl, rfl, rfl⟩
set_option maxHeartbeats 4000000 in
set_option maxRecDepth 100000 in
theorem k_mNumber (M : Mm) (s : Int32) : AX mX12_isNumber 1 [.int s] M (some (.int (bI (f_in s 0 23)))) M := by
  refine AM_ofF (by decide +kernel) (Nat.le_of_ble_eq_true rfl) (fun X V C _ _ => ?_)
  show AW X V mX12_isNumber.2.2.1 T0 M 0 0 _ 0 [(0, .int s)] []
  refine ar_iload_n (n := 0) C dX12_isNumber_0 rfl rfl ?_
  refine ar_i2l C dX12_isNumber_1 ?_
  refine ar_lconst (v := 0) C dX12_isNumber_2 (by decide) ?_
  refine ar_ldc2 C kcX12_94 dX12_isNumber_3 ?_
  refine cS1 (ar := [.long s.toInt64, .long 0, .long 23]) (st := []) C lkX12_69 (k_inI M s 0 23 _ _ (by decide) (by decide)) (by decide) rfl (Nat.le_of_ble_eq_true rfl) rfl dX12_isNumber_6 ?_
  exact ar_zreturn C rfl (bI_nar _) dX12_isNumber_9 ⟨rfl, rfl, rfl⟩
set_option maxHeartbeats 4000000 in
set_option maxRecDepth 100000 in
theorem k_mSight (M : Mm) (s : Int32) : AX mX12_isSight 1 [.int s] M (some (.int (bI (f_in s (-1000) 1000)))) M := by
  refine AM_ofF (by decide +kernel) (Nat.le_of_ble_eq_true rfl) (fun X V C _ _ => ?_)
  show AW X V mX12_isSight.2.2.1 T0 M 0 0 _ 0 [(0, .int s)] []
  refine ar_iload_n (n := 0) C dX12_isSight_0 rfl rfl ?_
  refine ar_i2l C dX12_isSight_1 ?_
  refine ar_ldc2 C kcX12_96 dX12_isSight_2 ?_
  refine ar_ldc2 C kcX12_98 dX12_isSight_5 ?_
  refine cS1 (ar := [.long s.toInt64, .long (-1000), .long 1000]) (st := []) C lkX12_69 (k_inI M s (-1000) 1000 _ _ (by decide) (by decide)) (by decide) rfl (Nat.le_of_ble_eq_true rfl) rfl dX12_isSight_8 ?_
  exact ar_zreturn C rfl (bI_nar _) dX12_isSight_11 ⟨rfl, rfl, rfl⟩
set_option maxHeartbeats 4000000 in
set_option maxRecDepth 100000 in
theorem k_mPlace (M : Mm) (x y z : Int32) : AX mX12_isPlace 1 [.int x, .int y, .int z] M (some (.int (bI (f_place x y z)))) M := by
  refine AM_ofF (by decide +kernel) (Nat.le_of_ble_eq_true rfl) (fun X V C _ _ => ?_)
  show AW X V mX12_isPlace.2.2.1 T0 M 0 0 _ 0 [(0, .int x), (1, .int y), (2, .int z)] []
  refine ar_iload_n (n := 0) C dX12_isPlace_0 rfl rfl ?_
  refine ar_i2l C dX12_isPlace_1 ?_
  refine ar_ldc2 C kcX12_96 dX12_isPlace_2 ?_
  refine ar_ldc2 C kcX12_98 dX12_isPlace_5 ?_
  refine cS1 (ar := [.long x.toInt64, .long (-1000), .long 1000]) (st := []) C lkX12_69 (k_inI M x (-1000) 1000 _ _ (by decide) (by decide)) (by decide) rfl (Nat.le_of_ble_eq_true rfl) rfl dX12_isPlace_8 ?_
  refine ar_if_eqB (tgt := 44) C dX12_isPlace_11 (by decide) (fun c_1 => ?_) (fun c_1 => ?_)
  · refine ar_iconst (v := 0) C dX12_isPlace_44 (by decide) ?_
    exact ar_zreturn C rfl rfl dX12_isPlace_45 ⟨by simp [f_place, bI, *], rfl, rfl⟩
  · refine ar_iload_n (n := 1) C dX12_isPlace_14 rfl rfl ?_
    refine ar_i2l C dX12_isPlace_15 ?_
    refine ar_ldc2 C kcX12_96 dX12_isPlace_16 ?_
    refine ar_ldc2 C kcX12_98 dX12_isPlace_19 ?_
    refine cS1 (ar := [.long y.toInt64, .long (-1000), .long 1000]) (st := []) C lkX12_69 (k_inI M y (-1000) 1000 _ _ (by decide) (by decide)) (by decide) rfl (Nat.le_of_ble_eq_true rfl) rfl dX12_isPlace_22 ?_
    refine ar_if_eqB (tgt := 44) C dX12_isPlace_25 (by decide) (fun c_2 => ?_) (fun c_2 => ?_)
    · refine ar_iconst (v := 0) C dX12_isPlace_44 (by decide) ?_
      exact ar_zreturn C rfl rfl dX12_isPlace_45 ⟨by simp [f_place, bI, *], rfl, rfl⟩
    · refine ar_iload_n (n := 2) C dX12_isPlace_28 rfl rfl ?_
      refine ar_i2l C dX12_isPlace_29 ?_
      refine ar_lconst (v := 1) C dX12_isPlace_30 (by decide) ?_
      refine ar_ldc2 C kcX12_100 dX12_isPlace_31 ?_
      refine cS1 (ar := [.long z.toInt64, .long 1, .long 5000]) (st := []) C lkX12_69 (k_inI M z 1 5000 _ _ (by decide) (by decide)) (by decide) rfl (Nat.le_of_ble_eq_true rfl) rfl dX12_isPlace_34 ?_
      refine ar_if_eqB (tgt := 44) C dX12_isPlace_37 (by decide) (fun c_3 => ?_) (fun c_3 => ?_)
      · refine ar_iconst (v := 0) C dX12_isPlace_44 (by decide) ?_
        exact ar_zreturn C rfl rfl dX12_isPlace_45 ⟨by simp [f_place, bI, *], rfl, rfl⟩
      · refine ar_iconst (v := 1) C dX12_isPlace_40 (by decide) ?_
        refine ar_goto (tgt := 45) C dX12_isPlace_41 (by decide) ?_
        exact ar_zreturn C rfl rfl dX12_isPlace_45 ⟨by simp [f_place, bI, *], rfl, rfl⟩
set_option maxHeartbeats 4000000 in
set_option maxRecDepth 100000 in
theorem k_mThing (M : Mm) (t : Int32) : AX mX12_isThing 1 [.ref 96, .int t] M (some (.int (bI (f_in t 0 (M.1 96 7 - 1))))) M := by
  refine AM_ofF (by decide +kernel) (Nat.le_of_ble_eq_true rfl) (fun X V C _ _ => ?_)
  show AW X V mX12_isThing.2.2.1 T0 M 0 0 _ 0 [(0, .ref 96), (1, .int t)] []
  refine ar_iload_n (n := 1) C dX12_isThing_0 rfl rfl ?_
  refine ar_i2l C dX12_isThing_1 ?_
  refine ar_lconst (v := 0) C dX12_isThing_2 (by decide) ?_
  refine ar_aload_n (n := 0) C dX12_isThing_3 rfl rfl ?_
  refine ar_geti C flX12_102 kd_96 dX12_isThing_4 ?_
  refine ar_iconst (v := 1) C dX12_isThing_7 (by decide) ?_
  refine ar_isub C dX12_isThing_8 ?_
  refine ar_i2l C dX12_isThing_9 ?_
  refine cS1 (ar := [.long t.toInt64, .long 0, .long (((M.1 96 7) - 1).toInt64)]) (st := []) C lkX12_69 (k_inI M t 0 ((M.1 96 7) - 1) _ _ (by decide) rfl) (by decide) rfl (Nat.le_of_ble_eq_true rfl) rfl dX12_isThing_10 ?_
  exact ar_zreturn C rfl (bI_nar _) dX12_isThing_13 ⟨rfl, rfl, rfl⟩
set_option maxHeartbeats 4000000 in
set_option maxRecDepth 100000 in
theorem k_mOf (M : Mm) (a b : Int32) : AX mX12_isOf 0 [.int a, .int b] M (some (.int (bI (f_isOf a b)))) M := by
  refine AM_ofF (by decide +kernel) (Nat.le_of_ble_eq_true rfl) (fun X V C _ _ => ?_)
  show AW X V mX12_isOf.2.2.1 T0 M 0 0 _ 0 [(0, .int a), (1, .int b)] []
  refine ar_iload_n (n := 1) C dX12_isOf_0 rfl rfl ?_
  refine ar_if_eq (tgt := 19) C dX12_isOf_1 (by decide) (fun c_1 => ?_) (fun c_1 => ?_)
  · refine ar_iconst (v := 1) C dX12_isOf_19 (by decide) ?_
    refine ar_goto (tgt := 24) C dX12_isOf_20 (by decide) ?_
    exact ar_zreturn C rfl rfl dX12_isOf_24 ⟨by first | (simp [f_isOf, bI, *]; done) | (simp [f_isOf, bI, *]; exact fun q => c_2 (by first | exact q.symm | (rw [c_3]; exact q.symm))), rfl, rfl⟩
  · refine ar_iload_n (n := 0) C dX12_isOf_4 rfl rfl ?_
    refine ar_iload_n (n := 1) C dX12_isOf_5 rfl rfl ?_
    refine ar_icmp_eq (tgt := 19) C dX12_isOf_6 (by decide) (fun c_2 => ?_) (fun c_2 => ?_)
    · refine ar_iconst (v := 1) C dX12_isOf_19 (by decide) ?_
      refine ar_goto (tgt := 24) C dX12_isOf_20 (by decide) ?_
      exact ar_zreturn C rfl rfl dX12_isOf_24 ⟨by first | (simp [f_isOf, bI, *]; done) | (simp [f_isOf, bI, *]; exact fun q => c_2 (by first | exact q.symm | (rw [c_3]; exact q.symm))), rfl, rfl⟩
    · refine ar_iload_n (n := 1) C dX12_isOf_9 rfl rfl ?_
      refine ar_iconst (v := 1) C dX12_isOf_10 (by decide) ?_
      refine ar_icmp_ne (tgt := 23) C dX12_isOf_11 (by decide) (fun c_3 => ?_) (fun c_3 => ?_)
      · refine ar_iconst (v := 0) C dX12_isOf_23 (by decide) ?_
        exact ar_zreturn C rfl rfl dX12_isOf_24 ⟨by first | (simp [f_isOf, bI, *]; done) | (simp [f_isOf, bI, *]; exact fun q => c_2 (by first | exact q.symm | (rw [c_3]; exact q.symm))), rfl, rfl⟩
      · refine ar_iload_n (n := 0) C dX12_isOf_14 rfl rfl ?_
        refine ar_iconst (v := 2) C dX12_isOf_15 (by decide) ?_
        refine ar_icmp_ne (tgt := 23) C dX12_isOf_16 (by decide) (fun c_4 => ?_) (fun c_4 => ?_)
        · refine ar_iconst (v := 0) C dX12_isOf_23 (by decide) ?_
          exact ar_zreturn C rfl rfl dX12_isOf_24 ⟨by first | (simp [f_isOf, bI, *]; done) | (simp [f_isOf, bI, *]; exact fun q => c_2 (by first | exact q.symm | (rw [c_3]; exact q.symm))), rfl, rfl⟩
        · refine ar_iconst (v := 1) C dX12_isOf_19 (by decide) ?_
          refine ar_goto (tgt := 24) C dX12_isOf_20 (by decide) ?_
          exact ar_zreturn C rfl rfl dX12_isOf_24 ⟨by first | (simp [f_isOf, bI, *]; done) | (simp [f_isOf, bI, *]; exact fun q => c_2 (by first | exact q.symm | (rw [c_3]; exact q.symm))), rfl, rfl⟩
set_option maxHeartbeats 4000000 in
set_option maxRecDepth 100000 in
theorem m_sheet_bad (M : Mm) (s l n : Int32)  (hbad : (f_in s 0 7 && f_in l 0 2 && !decide (80 < n)) = false) : AX mX12_sheet 2 [.ref 96, .int s, .int l, .int n] M (some (.int (-1000001))) (wi M 96 0 0) := by
  refine AM_ofF (by decide +kernel) (Nat.le_of_ble_eq_true rfl) (fun X V C _ _ => ?_)
  show AW X V mX12_sheet.2.2.1 T0 M 0 0 _ 0 [(0, .ref 96), (1, .int s), (2, .int l), (3, .int n)] []
  refine ar_aload_n (n := 0) C dX12_sheet_0 rfl rfl ?_
  refine ar_iconst (v := 0) C dX12_sheet_1 (by decide) ?_
  refine ar_puti C flX12_59 kd_96 dX12_sheet_2 ?_
  refine ar_iload_n (n := 1) C dX12_sheet_5 rfl rfl ?_
  refine cS1 (ar := [.int s]) (st := []) C lkX12_73 (k_mSheet (wi M 96 0 0) s) (by decide) rfl (Nat.le_of_ble_eq_true rfl) rfl dX12_sheet_6 ?_
  refine ar_if_eqB (tgt := 30) C dX12_sheet_9 (by decide) (fun c_1 => ?_) (fun c_1 => ?_)
  · refine ar_ldc C kcX12_79 dX12_sheet_30 ?_
    exact ar_ireturn C rfl dX12_sheet_32 ⟨rfl, rfl, rfl⟩
  · refine ar_iload_n (n := 2) C dX12_sheet_12 rfl rfl ?_
    refine ar_i2l C dX12_sheet_13 ?_
    refine ar_lconst (v := 0) C dX12_sheet_14 (by decide) ?_
    refine ar_ldc2 C kcX12_77 dX12_sheet_15 ?_
    refine cS1 (ar := [.long l.toInt64, .long 0, .long 2]) (st := []) C lkX12_69 (k_inI (wi M 96 0 0) l 0 2 _ _ (by decide) (by decide)) (by decide) rfl (Nat.le_of_ble_eq_true rfl) rfl dX12_sheet_18 ?_
    refine ar_if_eqB (tgt := 30) C dX12_sheet_21 (by decide) (fun c_2 => ?_) (fun c_2 => ?_)
    · refine ar_ldc C kcX12_79 dX12_sheet_30 ?_
      exact ar_ireturn C rfl dX12_sheet_32 ⟨rfl, rfl, rfl⟩
    · refine ar_iload_n (n := 3) C dX12_sheet_24 rfl rfl ?_
      refine ar_bipush (v := 80) C dX12_sheet_25 (by decide) ?_
      refine ar_icmp_le (tgt := 33) C dX12_sheet_27 (by decide) (fun c_3 => ?_) (fun c_3 => ?_)
      · exact absurd hbad (by simp [c_1, c_2, show ¬ 80 < n from fun q => by rw [Int32.lt_iff_toInt_lt] at q; rw [Int32.le_iff_toInt_le] at c_3; omega])
      · refine ar_ldc C kcX12_79 dX12_sheet_30 ?_
        exact ar_ireturn C rfl dX12_sheet_32 ⟨rfl, rfl, rfl⟩
set_option maxHeartbeats 4000000 in
set_option maxRecDepth 100000 in
theorem m_sheet_neg (M : Mm) {i : Nat} (hi : i < 8) (l n : Int32) (hl : f_in l 0 2 = true) (h80 : n ≤ 80) (hn : n < 0) : AX mX12_sheet 2 [.ref 96, .int (nI i), .int l, .int n] M (some (.int (-1000014))) (wi (wi (wi M 96 0 0) 96 1 0) 96 1 4) := by
  refine AM_ofF (by decide +kernel) (Nat.le_of_ble_eq_true rfl) (fun X V C _ _ => ?_)
  show AW X V mX12_sheet.2.2.1 T0 M 0 0 _ 0 [(0, .ref 96), (1, .int (nI i)), (2, .int l), (3, .int n)] []
  refine ar_aload_n (n := 0) C dX12_sheet_0 rfl rfl ?_
  refine ar_iconst (v := 0) C dX12_sheet_1 (by decide) ?_
  refine ar_puti C flX12_59 kd_96 dX12_sheet_2 ?_
  refine ar_iload_n (n := 1) C dX12_sheet_5 rfl rfl ?_
  refine cS1 (ar := [.int (nI i)]) (st := []) C lkX12_73 (k_mSheet (wi M 96 0 0) (nI i)) (by decide) rfl (Nat.le_of_ble_eq_true rfl) rfl dX12_sheet_6 ?_
  refine ar_if_eqB (tgt := 30) C dX12_sheet_9 (by decide) (fun c_1 => False.elim (Bool.noConfusion ((in7 hi).symm.trans c_1))) (fun _ => ?_)
  refine ar_iload_n (n := 2) C dX12_sheet_12 rfl rfl ?_
  refine ar_i2l C dX12_sheet_13 ?_
  refine ar_lconst (v := 0) C dX12_sheet_14 (by decide) ?_
  refine ar_ldc2 C kcX12_77 dX12_sheet_15 ?_
  refine cS1 (ar := [.long l.toInt64, .long 0, .long 2]) (st := []) C lkX12_69 (k_inI (wi M 96 0 0) l 0 2 _ _ (by decide) (by decide)) (by decide) rfl (Nat.le_of_ble_eq_true rfl) rfl dX12_sheet_18 ?_
  refine ar_if_eqB (tgt := 30) C dX12_sheet_21 (by decide) (fun c_2 => False.elim (Bool.noConfusion (hl.symm.trans c_2))) (fun _ => ?_)
  refine ar_iload_n (n := 3) C dX12_sheet_24 rfl rfl ?_
  refine ar_bipush (v := 80) C dX12_sheet_25 (by decide) ?_
  refine ar_icmp_le (tgt := 33) C dX12_sheet_27 (by decide) (fun _ => ?_) (fun c_3 => False.elim (c_3 h80))
  refine ar_aload_n (n := 0) C dX12_sheet_33 rfl rfl ?_
  refine ar_iconst (v := 0) C dX12_sheet_34 (by decide) ?_
  refine ar_puti C flX12_63 kd_96 dX12_sheet_35 ?_
  refine ar_iload_n (n := 3) C dX12_sheet_38 rfl rfl ?_
  refine ar_if_ge (tgt := 48) C dX12_sheet_39 (by decide) (fun c_4 => False.elim (by rw [Int32.lt_iff_toInt_lt] at hn; rw [Int32.le_iff_toInt_le] at c_4; omega)) (fun _ => ?_)
  refine ar_aload_n (n := 0) C dX12_sheet_42 rfl rfl ?_
  refine ar_iconst (v := 4) C dX12_sheet_43 (by decide) ?_
  refine cV1 (ar := [.int 4]) (st := []) C lkX12_80 kd_96 (k_mFound (wi (wi M 96 0 0) 96 1 0) 4) (by decide) rfl (Nat.le_of_ble_eq_true rfl) rfl dX12_sheet_44 ?_
  exact ar_ireturn C rfl dX12_sheet_47 ⟨rfl, rfl, rfl⟩
set_option maxHeartbeats 4000000 in
set_option maxRecDepth 100000 in
theorem l_msheet {X : Ctx} {V : Vx} {Q : State → Prop} (C : Cx X V mX12_sheet 2) (M : Mm) {i : Nat} (hi : i < 8) (l n : Int32) (kk : AW X V mX12_sheet.2.2.1 T0 (wfr M 99 (80 * i) 80 0) 0 0 Q 91 [(4, .int (nI 80)), (0, .ref 96), (1, .int (nI i)), (2, .int l), (3, .int n)] []) : ∀ (m : Nat) (k : Nat), k ≤ 80 → 80 - k < m → AW X V mX12_sheet.2.2.1 T0 (wfr M 99 (80 * i) k 0) 0 0 Q 65 [(4, .int (nI k)), (0, .ref 96), (1, .int (nI i)), (2, .int l), (3, .int n)] [] := by
  intro m
  induction m with
  | zero => intro k _ h; exact absurd h (Nat.not_lt_zero _)
  | succ m ih =>
    intro k hk0 hmz
    refine ar_iload (n := 0) C dX12_sheet_65 rfl ?_
    refine ar_bipush (v := 80) C dX12_sheet_67 (by decide) ?_
    refine ar_icmp_ge (tgt := 91) C dX12_sheet_69 (by decide) (fun c_1 => ?_) (fun c_1 => ?_)
    · have hk : k = 80 := Nat.le_antisymm hk0 (nat_le (a := 80) c_1 (by decide) (by omega))
      subst hk
      exact kk
    · have hk : k < 80 := nat_nle (a := 80) c_1 (by decide) (by omega)
      refine ar_aload_n (n := 1) C dX12_sheet_72 rfl rfl ?_
      refine ar_getr C flX12_16 rfl kd_96 rf_96_4 dX12_sheet_73 ?_
      refine ar_bipush (v := 80) C dX12_sheet_76 (by decide) ?_
      refine ar_iload_n (n := 2) C dX12_sheet_78 rfl rfl ?_
      refine ar_imul C dX12_sheet_79 ?_
      refine ar_iload (n := 0) C dX12_sheet_80 rfl ?_
      refine ar_iadd C dX12_sheet_82 ?_
      refine ar_iconst (v := 0) C dX12_sheet_83 (by decide) ?_
      refine ar_iast (j := 80 * i + k) C kd_99 (ix80 i k) (by omega) dX12_sheet_84 ?_
      refine ar_iinc (n := 0) (v := (nI (k + 1))) (als' := [(4, .int (nI (k + 1))), (0, .ref 96), (1, .int (nI i)), (2, .int l), (3, .int n)]) C dX12_sheet_85 rfl (nI_1 _) (by decide) rfl ?_
      refine ar_goto (tgt := 65) C dX12_sheet_88 (by decide) ?_
      refine ar_mem _ (wfr_s _ _ _ _ _) ?_
      exact ih (k + 1) (by omega) (by omega)
set_option maxHeartbeats 4000000 in
set_option maxRecDepth 100000 in
theorem m_sheet_ok (M : Mm) {i : Nat} (hi : i < 8) (l n : Int32) (hl : f_in l 0 2 = true) (h80 : n ≤ 80) (hn : 0 ≤ n) : AX mX12_sheet 2 [.ref 96, .int (nI i), .int l, .int n] M (some (.int n)) (wfr (wi (wi (wi (wi M 96 0 0) 96 1 0) 97 i l) 98 i n) 99 (80 * i) 80 0) := by
  refine AM_ofF (by decide +kernel) (Nat.le_of_ble_eq_true rfl) (fun X V C _ _ => ?_)
  show AW X V mX12_sheet.2.2.1 T0 M 0 0 _ 0 [(0, .ref 96), (1, .int (nI i)), (2, .int l), (3, .int n)] []
  refine ar_aload_n (n := 0) C dX12_sheet_0 rfl rfl ?_
  refine ar_iconst (v := 0) C dX12_sheet_1 (by decide) ?_
  refine ar_puti C flX12_59 kd_96 dX12_sheet_2 ?_
  refine ar_iload_n (n := 1) C dX12_sheet_5 rfl rfl ?_
  refine cS1 (ar := [.int (nI i)]) (st := []) C lkX12_73 (k_mSheet (wi M 96 0 0) (nI i)) (by decide) rfl (Nat.le_of_ble_eq_true rfl) rfl dX12_sheet_6 ?_
  refine ar_if_eqB (tgt := 30) C dX12_sheet_9 (by decide) (fun c_1 => False.elim (Bool.noConfusion ((in7 hi).symm.trans c_1))) (fun _ => ?_)
  refine ar_iload_n (n := 2) C dX12_sheet_12 rfl rfl ?_
  refine ar_i2l C dX12_sheet_13 ?_
  refine ar_lconst (v := 0) C dX12_sheet_14 (by decide) ?_
  refine ar_ldc2 C kcX12_77 dX12_sheet_15 ?_
  refine cS1 (ar := [.long l.toInt64, .long 0, .long 2]) (st := []) C lkX12_69 (k_inI (wi M 96 0 0) l 0 2 _ _ (by decide) (by decide)) (by decide) rfl (Nat.le_of_ble_eq_true rfl) rfl dX12_sheet_18 ?_
  refine ar_if_eqB (tgt := 30) C dX12_sheet_21 (by decide) (fun c_2 => False.elim (Bool.noConfusion (hl.symm.trans c_2))) (fun _ => ?_)
  refine ar_iload_n (n := 3) C dX12_sheet_24 rfl rfl ?_
  refine ar_bipush (v := 80) C dX12_sheet_25 (by decide) ?_
  refine ar_icmp_le (tgt := 33) C dX12_sheet_27 (by decide) (fun _ => ?_) (fun c_3 => False.elim (c_3 h80))
  refine ar_aload_n (n := 0) C dX12_sheet_33 rfl rfl ?_
  refine ar_iconst (v := 0) C dX12_sheet_34 (by decide) ?_
  refine ar_puti C flX12_63 kd_96 dX12_sheet_35 ?_
  refine ar_iload_n (n := 3) C dX12_sheet_38 rfl rfl ?_
  refine ar_if_ge (tgt := 48) C dX12_sheet_39 (by decide) (fun _ => ?_) (fun c_4 => False.elim (c_4 hn))
  refine ar_aload_n (n := 0) C dX12_sheet_48 rfl rfl ?_
  refine ar_getr C flX12_7 rfl kd_96 rf_96_2 dX12_sheet_49 ?_
  refine ar_iload_n (n := 1) C dX12_sheet_52 rfl rfl ?_
  refine ar_iload_n (n := 2) C dX12_sheet_53 rfl rfl ?_
  refine ar_iast (j := i) C kd_97 rfl hi dX12_sheet_54 ?_
  refine ar_aload_n (n := 0) C dX12_sheet_55 rfl rfl ?_
  refine ar_getr C flX12_13 rfl kd_96 rf_96_3 dX12_sheet_56 ?_
  refine ar_iload_n (n := 1) C dX12_sheet_59 rfl rfl ?_
  refine ar_iload_n (n := 3) C dX12_sheet_60 rfl rfl ?_
  refine ar_iast (j := i) C kd_98 rfl hi dX12_sheet_61 ?_
  refine ar_iconst (v := 0) C dX12_sheet_62 (by decide) ?_
  refine ar_istore (als' := [(4, .int 0), (0, .ref 96), (1, .int (nI i)), (2, .int l), (3, .int n)]) C dX12_sheet_63 (by decide) rfl ?_
  refine ar_mem (wfr (wi (wi (wi (wi M 96 0 0) 96 1 0) 97 i l) 98 i n) 99 (80 * i) 0 0) (wfr_0 _ _ _ _).symm ?_
  refine l_msheet C _ hi l n ?_ 81 0 (by omega) (by omega)
  refine ar_iload_n (n := 4) C dX12_sheet_91 rfl rfl ?_
  exact ar_ireturn C rfl dX12_sheet_92 ⟨rfl, rfl, rfl⟩
set_option maxHeartbeats 4000000 in
set_option maxRecDepth 100000 in
theorem m_set_bad (M : Mm) (s j v : Int32)  (hbad : (f_in s 0 7) = false) : AX mX12_set 2 [.ref 96, .int s, .int j, .int v] M (some (.int (-1000001))) (wi M 96 0 0) := by
  refine AM_ofF (by decide +kernel) (Nat.le_of_ble_eq_true rfl) (fun X V C _ _ => ?_)
  show AW X V mX12_set.2.2.1 T0 M 0 0 _ 0 [(0, .ref 96), (1, .int s), (2, .int j), (3, .int v)] []
  refine ar_aload_n (n := 0) C dX12_set_0 rfl rfl ?_
  refine ar_iconst (v := 0) C dX12_set_1 (by decide) ?_
  refine ar_puti C flX12_59 kd_96 dX12_set_2 ?_
  refine ar_iload_n (n := 1) C dX12_set_5 rfl rfl ?_
  refine cS1 (ar := [.int s]) (st := []) C lkX12_73 (k_mSheet (wi M 96 0 0) s) (by decide) rfl (Nat.le_of_ble_eq_true rfl) rfl dX12_set_6 ?_
  refine ar_if_neB (tgt := 15) C dX12_set_9 (by decide) (fun c_1 => ?_) (fun c_1 => ?_)
  · exact absurd hbad (by first | (rw [c_1]; decide) | simp [*])
  · refine ar_ldc C kcX12_79 dX12_set_12 ?_
    exact ar_ireturn C rfl dX12_set_14 ⟨rfl, rfl, rfl⟩
set_option maxHeartbeats 4000000 in
set_option maxRecDepth 100000 in
theorem m_set_null (M : Mm) {i : Nat} (hi : i < 8) (q v : Int32) (hm : M.1 97 i < 0) : AX mX12_set 2 [.ref 96, .int (nI i), .int q, .int v] M (some (.int (-1000011))) (wi (wi (wi M 96 0 0) 96 1 0) 96 1 1) := by
  refine AM_ofF (by decide +kernel) (Nat.le_of_ble_eq_true rfl) (fun X V C _ _ => ?_)
  show AW X V mX12_set.2.2.1 T0 M 0 0 _ 0 [(0, .ref 96), (1, .int (nI i)), (2, .int q), (3, .int v)] []
  refine ar_aload_n (n := 0) C dX12_set_0 rfl rfl ?_
  refine ar_iconst (v := 0) C dX12_set_1 (by decide) ?_
  refine ar_puti C flX12_59 kd_96 dX12_set_2 ?_
  refine ar_iload_n (n := 1) C dX12_set_5 rfl rfl ?_
  refine cS1 (ar := [.int (nI i)]) (st := []) C lkX12_73 (k_mSheet (wi M 96 0 0) (nI i)) (by decide) rfl (Nat.le_of_ble_eq_true rfl) rfl dX12_set_6 ?_
  refine ar_if_neB (tgt := 15) C dX12_set_9 (by decide) (fun _ => ?_) (fun c_1 => False.elim (Bool.noConfusion ((in7 hi).symm.trans c_1)))
  refine ar_aload_n (n := 0) C dX12_set_15 rfl rfl ?_
  refine ar_iconst (v := 0) C dX12_set_16 (by decide) ?_
  refine ar_puti C flX12_63 kd_96 dX12_set_17 ?_
  refine ar_aload_n (n := 0) C dX12_set_20 rfl rfl ?_
  refine ar_getr C flX12_7 rfl kd_96 rf_96_2 dX12_set_21 ?_
  refine ar_iload_n (n := 1) C dX12_set_24 rfl rfl ?_
  refine ar_ialdV (j := i) (v := M.1 97 i) C kd_97 rfl hi (by simp [wi, wl]; try omega) dX12_set_25 ?_
  refine ar_if_ge (tgt := 35) C dX12_set_26 (by decide) (fun c_2 => False.elim (Int32.not_le.mpr hm c_2)) (fun _ => ?_)
  refine ar_aload_n (n := 0) C dX12_set_29 rfl rfl ?_
  refine ar_iconst (v := 1) C dX12_set_30 (by decide) ?_
  refine cV1 (ar := [.int 1]) (st := []) C lkX12_80 kd_96 (k_mFound (wi (wi M 96 0 0) 96 1 0) 1) (by decide) rfl (Nat.le_of_ble_eq_true rfl) rfl dX12_set_31 ?_
  exact ar_ireturn C rfl dX12_set_34 ⟨rfl, rfl, rfl⟩
set_option maxHeartbeats 4000000 in
set_option maxRecDepth 100000 in
theorem m_set_place (M : Mm) {i : Nat} (hi : i < 8) (q v : Int32) (hm : ¬ M.1 97 i < 0) (hh : f_in q 0 (M.1 98 i - 1) = false) : AX mX12_set 2 [.ref 96, .int (nI i), .int q, .int v] M (some (.int (-1000012))) (wi (wi (wi M 96 0 0) 96 1 0) 96 1 2) := by
  refine AM_ofF (by decide +kernel) (Nat.le_of_ble_eq_true rfl) (fun X V C _ _ => ?_)
  show AW X V mX12_set.2.2.1 T0 M 0 0 _ 0 [(0, .ref 96), (1, .int (nI i)), (2, .int q), (3, .int v)] []
  refine ar_aload_n (n := 0) C dX12_set_0 rfl rfl ?_
  refine ar_iconst (v := 0) C dX12_set_1 (by decide) ?_
  refine ar_puti C flX12_59 kd_96 dX12_set_2 ?_
  refine ar_iload_n (n := 1) C dX12_set_5 rfl rfl ?_
  refine cS1 (ar := [.int (nI i)]) (st := []) C lkX12_73 (k_mSheet (wi M 96 0 0) (nI i)) (by decide) rfl (Nat.le_of_ble_eq_true rfl) rfl dX12_set_6 ?_
  refine ar_if_neB (tgt := 15) C dX12_set_9 (by decide) (fun _ => ?_) (fun c_1 => False.elim (Bool.noConfusion ((in7 hi).symm.trans c_1)))
  refine ar_aload_n (n := 0) C dX12_set_15 rfl rfl ?_
  refine ar_iconst (v := 0) C dX12_set_16 (by decide) ?_
  refine ar_puti C flX12_63 kd_96 dX12_set_17 ?_
  refine ar_aload_n (n := 0) C dX12_set_20 rfl rfl ?_
  refine ar_getr C flX12_7 rfl kd_96 rf_96_2 dX12_set_21 ?_
  refine ar_iload_n (n := 1) C dX12_set_24 rfl rfl ?_
  refine ar_ialdV (j := i) (v := M.1 97 i) C kd_97 rfl hi (by simp [wi, wl]; try omega) dX12_set_25 ?_
  refine ar_if_ge (tgt := 35) C dX12_set_26 (by decide) (fun _ => ?_) (fun c_2 => False.elim (c_2 (Int32.not_lt.mp hm)))
  refine ar_iload_n (n := 2) C dX12_set_35 rfl rfl ?_
  refine ar_i2l C dX12_set_36 ?_
  refine ar_lconst (v := 0) C dX12_set_37 (by decide) ?_
  refine ar_aload_n (n := 0) C dX12_set_38 rfl rfl ?_
  refine ar_getr C flX12_13 rfl kd_96 rf_96_3 dX12_set_39 ?_
  refine ar_iload_n (n := 1) C dX12_set_42 rfl rfl ?_
  refine ar_ialdV (j := i) (v := M.1 98 i) C kd_98 rfl hi (by simp [wi, wl]; try omega) dX12_set_43 ?_
  refine ar_iconst (v := 1) C dX12_set_44 (by decide) ?_
  refine ar_isub C dX12_set_45 ?_
  refine ar_i2l C dX12_set_46 ?_
  refine cS1 (ar := [.long q.toInt64, .long 0, .long (((M.1 98 i) - 1).toInt64)]) (st := []) C lkX12_69 (k_inI (wi (wi M 96 0 0) 96 1 0) q 0 ((M.1 98 i) - 1) _ _ (by decide) rfl) (by decide) rfl (Nat.le_of_ble_eq_true rfl) rfl dX12_set_47 ?_
  refine ar_if_neB (tgt := 59) C dX12_set_50 (by decide) (fun c_3 => False.elim (Bool.noConfusion (hh.symm.trans c_3))) (fun _ => ?_)
  refine ar_aload_n (n := 0) C dX12_set_53 rfl rfl ?_
  refine ar_iconst (v := 2) C dX12_set_54 (by decide) ?_
  refine cV1 (ar := [.int 2]) (st := []) C lkX12_80 kd_96 (k_mFound (wi (wi M 96 0 0) 96 1 0) 2) (by decide) rfl (Nat.le_of_ble_eq_true rfl) rfl dX12_set_55 ?_
  exact ar_ireturn C rfl dX12_set_58 ⟨rfl, rfl, rfl⟩
set_option maxHeartbeats 4000000 in
set_option maxRecDepth 100000 in
theorem m_set_ok (M : Mm) {i : Nat} (hi : i < 8) {j : Nat} (hj : j < 80) (v : Int32) (hm : ¬ M.1 97 i < 0) (hh : f_in (nI j) 0 (M.1 98 i - 1) = true) : AX mX12_set 2 [.ref 96, .int (nI i), .int (nI j), .int v] M (some (.int (f_lane (M.1 97 i) v))) (wi (wi (wi M 96 0 0) 96 1 0) 99 (80 * i + j) (f_lane (M.1 97 i) v)) := by
  refine AM_ofF (by decide +kernel) (Nat.le_of_ble_eq_true rfl) (fun X V C _ _ => ?_)
  show AW X V mX12_set.2.2.1 T0 M 0 0 _ 0 [(0, .ref 96), (1, .int (nI i)), (2, .int (nI j)), (3, .int v)] []
  refine ar_aload_n (n := 0) C dX12_set_0 rfl rfl ?_
  refine ar_iconst (v := 0) C dX12_set_1 (by decide) ?_
  refine ar_puti C flX12_59 kd_96 dX12_set_2 ?_
  refine ar_iload_n (n := 1) C dX12_set_5 rfl rfl ?_
  refine cS1 (ar := [.int (nI i)]) (st := []) C lkX12_73 (k_mSheet (wi M 96 0 0) (nI i)) (by decide) rfl (Nat.le_of_ble_eq_true rfl) rfl dX12_set_6 ?_
  refine ar_if_neB (tgt := 15) C dX12_set_9 (by decide) (fun _ => ?_) (fun c_1 => False.elim (Bool.noConfusion ((in7 hi).symm.trans c_1)))
  refine ar_aload_n (n := 0) C dX12_set_15 rfl rfl ?_
  refine ar_iconst (v := 0) C dX12_set_16 (by decide) ?_
  refine ar_puti C flX12_63 kd_96 dX12_set_17 ?_
  refine ar_aload_n (n := 0) C dX12_set_20 rfl rfl ?_
  refine ar_getr C flX12_7 rfl kd_96 rf_96_2 dX12_set_21 ?_
  refine ar_iload_n (n := 1) C dX12_set_24 rfl rfl ?_
  refine ar_ialdV (j := i) (v := M.1 97 i) C kd_97 rfl hi (by simp [wi, wl]; try omega) dX12_set_25 ?_
  refine ar_if_ge (tgt := 35) C dX12_set_26 (by decide) (fun _ => ?_) (fun c_2 => False.elim (c_2 (Int32.not_lt.mp hm)))
  refine ar_iload_n (n := 2) C dX12_set_35 rfl rfl ?_
  refine ar_i2l C dX12_set_36 ?_
  refine ar_lconst (v := 0) C dX12_set_37 (by decide) ?_
  refine ar_aload_n (n := 0) C dX12_set_38 rfl rfl ?_
  refine ar_getr C flX12_13 rfl kd_96 rf_96_3 dX12_set_39 ?_
  refine ar_iload_n (n := 1) C dX12_set_42 rfl rfl ?_
  refine ar_ialdV (j := i) (v := M.1 98 i) C kd_98 rfl hi (by simp [wi, wl]; try omega) dX12_set_43 ?_
  refine ar_iconst (v := 1) C dX12_set_44 (by decide) ?_
  refine ar_isub C dX12_set_45 ?_
  refine ar_i2l C dX12_set_46 ?_
  refine cS1 (ar := [.long ((nI j).toInt64), .long 0, .long (((M.1 98 i) - 1).toInt64)]) (st := []) C lkX12_69 (k_inI (wi (wi M 96 0 0) 96 1 0) (nI j) 0 ((M.1 98 i) - 1) _ _ (by decide) rfl) (by decide) rfl (Nat.le_of_ble_eq_true rfl) rfl dX12_set_47 ?_
  refine ar_if_neB (tgt := 59) C dX12_set_50 (by decide) (fun _ => ?_) (fun c_3 => False.elim (Bool.noConfusion (hh.symm.trans c_3)))
  refine ar_aload_n (n := 0) C dX12_set_59 rfl rfl ?_
  refine ar_getr C flX12_16 rfl kd_96 rf_96_4 dX12_set_60 ?_
  refine ar_bipush (v := 80) C dX12_set_63 (by decide) ?_
  refine ar_iload_n (n := 1) C dX12_set_65 rfl rfl ?_
  refine ar_imul C dX12_set_66 ?_
  refine ar_iload_n (n := 2) C dX12_set_67 rfl rfl ?_
  refine ar_iadd C dX12_set_68 ?_
  refine ar_aload_n (n := 0) C dX12_set_69 rfl rfl ?_
  refine ar_getr C flX12_7 rfl kd_96 rf_96_2 dX12_set_70 ?_
  refine ar_iload_n (n := 1) C dX12_set_73 rfl rfl ?_
  refine ar_ialdV (j := i) (v := M.1 97 i) C kd_97 rfl hi (by simp [wi, wl]; try omega) dX12_set_74 ?_
  refine ar_if_ne (tgt := 83) C dX12_set_75 (by decide) (fun c_4 => ?_) (fun c_4 => ?_)
  · refine ar_aload_n (n := 0) C dX12_set_83 rfl rfl ?_
    refine ar_getr C flX12_7 rfl kd_96 rf_96_2 dX12_set_84 ?_
    refine ar_iload_n (n := 1) C dX12_set_87 rfl rfl ?_
    refine ar_ialdV (j := i) (v := M.1 97 i) C kd_97 rfl hi (by simp [wi, wl]; try omega) dX12_set_88 ?_
    refine ar_iconst (v := 1) C dX12_set_89 (by decide) ?_
    refine ar_icmp_ne (tgt := 98) C dX12_set_90 (by decide) (fun c_5 => ?_) (fun c_5 => ?_)
    · refine ar_iload_n (n := 3) C dX12_set_98 rfl rfl ?_
      refine ar_topi (f_lane (M.1 97 i) v) (by simp [f_lane, *]) ?_
      refine ar_iast (j := 80 * i + j) C kd_99 (ix80 i j) (by omega) dX12_set_99 ?_
      refine ar_aload_n (n := 0) C dX12_set_100 rfl rfl ?_
      refine ar_getr C flX12_16 rfl kd_96 rf_96_4 dX12_set_101 ?_
      refine ar_bipush (v := 80) C dX12_set_104 (by decide) ?_
      refine ar_iload_n (n := 1) C dX12_set_106 rfl rfl ?_
      refine ar_imul C dX12_set_107 ?_
      refine ar_iload_n (n := 2) C dX12_set_108 rfl rfl ?_
      refine ar_iadd C dX12_set_109 ?_
      refine ar_ialdV (j := 80 * i + j) (v := f_lane (M.1 97 i) v) C kd_99 (ix80 i j) (by omega) (by simp [wi, wl]; try omega) dX12_set_110 ?_
      exact ar_ireturn C rfl dX12_set_111 ⟨rfl, rfl, rfl⟩
    · refine ar_iload_n (n := 3) C dX12_set_93 rfl rfl ?_
      refine ar_i2s C dX12_set_94 ?_
      refine ar_goto (tgt := 99) C dX12_set_95 (by decide) ?_
      refine ar_topi (f_lane (M.1 97 i) v) (by simp [f_lane, *]) ?_
      refine ar_iast (j := 80 * i + j) C kd_99 (ix80 i j) (by omega) dX12_set_99 ?_
      refine ar_aload_n (n := 0) C dX12_set_100 rfl rfl ?_
      refine ar_getr C flX12_16 rfl kd_96 rf_96_4 dX12_set_101 ?_
      refine ar_bipush (v := 80) C dX12_set_104 (by decide) ?_
      refine ar_iload_n (n := 1) C dX12_set_106 rfl rfl ?_
      refine ar_imul C dX12_set_107 ?_
      refine ar_iload_n (n := 2) C dX12_set_108 rfl rfl ?_
      refine ar_iadd C dX12_set_109 ?_
      refine ar_ialdV (j := 80 * i + j) (v := f_lane (M.1 97 i) v) C kd_99 (ix80 i j) (by omega) (by simp [wi, wl]; try omega) dX12_set_110 ?_
      exact ar_ireturn C rfl dX12_set_111 ⟨rfl, rfl, rfl⟩
  · refine ar_iload_n (n := 3) C dX12_set_78 rfl rfl ?_
    refine ar_i2b C dX12_set_79 ?_
    refine ar_goto (tgt := 99) C dX12_set_80 (by decide) ?_
    refine ar_topi (f_lane (M.1 97 i) v) (by simp [f_lane, *]) ?_
    refine ar_iast (j := 80 * i + j) C kd_99 (ix80 i j) (by omega) dX12_set_99 ?_
    refine ar_aload_n (n := 0) C dX12_set_100 rfl rfl ?_
    refine ar_getr C flX12_16 rfl kd_96 rf_96_4 dX12_set_101 ?_
    refine ar_bipush (v := 80) C dX12_set_104 (by decide) ?_
    refine ar_iload_n (n := 1) C dX12_set_106 rfl rfl ?_
    refine ar_imul C dX12_set_107 ?_
    refine ar_iload_n (n := 2) C dX12_set_108 rfl rfl ?_
    refine ar_iadd C dX12_set_109 ?_
    refine ar_ialdV (j := 80 * i + j) (v := f_lane (M.1 97 i) v) C kd_99 (ix80 i j) (by omega) (by simp [wi, wl]; try omega) dX12_set_110 ?_
    exact ar_ireturn C rfl dX12_set_111 ⟨rfl, rfl, rfl⟩
set_option maxHeartbeats 4000000 in
set_option maxRecDepth 100000 in
theorem m_drop_bad (M : Mm) (s : Int32)  (hbad : (f_in s 0 7) = false) : AX mX12_drop 2 [.ref 96, .int s] M (some (.int (-1000001))) (wi M 96 0 0) := by
  refine AM_ofF (by decide +kernel) (Nat.le_of_ble_eq_true rfl) (fun X V C _ _ => ?_)
  show AW X V mX12_drop.2.2.1 T0 M 0 0 _ 0 [(0, .ref 96), (1, .int s)] []
  refine ar_aload_n (n := 0) C dX12_drop_0 rfl rfl ?_
  refine ar_iconst (v := 0) C dX12_drop_1 (by decide) ?_
  refine ar_puti C flX12_59 kd_96 dX12_drop_2 ?_
  refine ar_iload_n (n := 1) C dX12_drop_5 rfl rfl ?_
  refine cS1 (ar := [.int s]) (st := []) C lkX12_73 (k_mSheet (wi M 96 0 0) s) (by decide) rfl (Nat.le_of_ble_eq_true rfl) rfl dX12_drop_6 ?_
  refine ar_if_neB (tgt := 15) C dX12_drop_9 (by decide) (fun c_1 => ?_) (fun c_1 => ?_)
  · exact absurd hbad (by first | (rw [c_1]; decide) | simp [*])
  · refine ar_ldc C kcX12_79 dX12_drop_12 ?_
    exact ar_ireturn C rfl dX12_drop_14 ⟨rfl, rfl, rfl⟩
set_option maxHeartbeats 4000000 in
set_option maxRecDepth 100000 in
theorem m_drop_null (M : Mm) {i : Nat} (hi : i < 8) (hm : M.1 97 i < 0) : AX mX12_drop 2 [.ref 96, .int (nI i)] M (some (.int (-1000011))) (wi (wi (wi M 96 0 0) 96 1 0) 96 1 1) := by
  refine AM_ofF (by decide +kernel) (Nat.le_of_ble_eq_true rfl) (fun X V C _ _ => ?_)
  show AW X V mX12_drop.2.2.1 T0 M 0 0 _ 0 [(0, .ref 96), (1, .int (nI i))] []
  refine ar_aload_n (n := 0) C dX12_drop_0 rfl rfl ?_
  refine ar_iconst (v := 0) C dX12_drop_1 (by decide) ?_
  refine ar_puti C flX12_59 kd_96 dX12_drop_2 ?_
  refine ar_iload_n (n := 1) C dX12_drop_5 rfl rfl ?_
  refine cS1 (ar := [.int (nI i)]) (st := []) C lkX12_73 (k_mSheet (wi M 96 0 0) (nI i)) (by decide) rfl (Nat.le_of_ble_eq_true rfl) rfl dX12_drop_6 ?_
  refine ar_if_neB (tgt := 15) C dX12_drop_9 (by decide) (fun _ => ?_) (fun c_1 => False.elim (Bool.noConfusion ((in7 hi).symm.trans c_1)))
  refine ar_aload_n (n := 0) C dX12_drop_15 rfl rfl ?_
  refine ar_iconst (v := 0) C dX12_drop_16 (by decide) ?_
  refine ar_puti C flX12_63 kd_96 dX12_drop_17 ?_
  refine ar_aload_n (n := 0) C dX12_drop_20 rfl rfl ?_
  refine ar_getr C flX12_7 rfl kd_96 rf_96_2 dX12_drop_21 ?_
  refine ar_iload_n (n := 1) C dX12_drop_24 rfl rfl ?_
  refine ar_ialdV (j := i) (v := M.1 97 i) C kd_97 rfl hi (by simp [wi, wl]; try omega) dX12_drop_25 ?_
  refine ar_if_ge (tgt := 35) C dX12_drop_26 (by decide) (fun c_2 => False.elim (Int32.not_le.mpr hm c_2)) (fun _ => ?_)
  refine ar_aload_n (n := 0) C dX12_drop_29 rfl rfl ?_
  refine ar_iconst (v := 1) C dX12_drop_30 (by decide) ?_
  refine cV1 (ar := [.int 1]) (st := []) C lkX12_80 kd_96 (k_mFound (wi (wi M 96 0 0) 96 1 0) 1) (by decide) rfl (Nat.le_of_ble_eq_true rfl) rfl dX12_drop_31 ?_
  exact ar_ireturn C rfl dX12_drop_34 ⟨rfl, rfl, rfl⟩
set_option maxHeartbeats 4000000 in
set_option maxRecDepth 100000 in
theorem m_drop_ok (M : Mm) {i : Nat} (hi : i < 8) (hm : ¬ M.1 97 i < 0) : AX mX12_drop 2 [.ref 96, .int (nI i)] M (some (.int (M.1 98 i))) (wi (wi (wi M 96 0 0) 96 1 0) 97 i (-1)) := by
  refine AM_ofF (by decide +kernel) (Nat.le_of_ble_eq_true rfl) (fun X V C _ _ => ?_)
  show AW X V mX12_drop.2.2.1 T0 M 0 0 _ 0 [(0, .ref 96), (1, .int (nI i))] []
  refine ar_aload_n (n := 0) C dX12_drop_0 rfl rfl ?_
  refine ar_iconst (v := 0) C dX12_drop_1 (by decide) ?_
  refine ar_puti C flX12_59 kd_96 dX12_drop_2 ?_
  refine ar_iload_n (n := 1) C dX12_drop_5 rfl rfl ?_
  refine cS1 (ar := [.int (nI i)]) (st := []) C lkX12_73 (k_mSheet (wi M 96 0 0) (nI i)) (by decide) rfl (Nat.le_of_ble_eq_true rfl) rfl dX12_drop_6 ?_
  refine ar_if_neB (tgt := 15) C dX12_drop_9 (by decide) (fun _ => ?_) (fun c_1 => False.elim (Bool.noConfusion ((in7 hi).symm.trans c_1)))
  refine ar_aload_n (n := 0) C dX12_drop_15 rfl rfl ?_
  refine ar_iconst (v := 0) C dX12_drop_16 (by decide) ?_
  refine ar_puti C flX12_63 kd_96 dX12_drop_17 ?_
  refine ar_aload_n (n := 0) C dX12_drop_20 rfl rfl ?_
  refine ar_getr C flX12_7 rfl kd_96 rf_96_2 dX12_drop_21 ?_
  refine ar_iload_n (n := 1) C dX12_drop_24 rfl rfl ?_
  refine ar_ialdV (j := i) (v := M.1 97 i) C kd_97 rfl hi (by simp [wi, wl]; try omega) dX12_drop_25 ?_
  refine ar_if_ge (tgt := 35) C dX12_drop_26 (by decide) (fun _ => ?_) (fun c_2 => False.elim (c_2 (Int32.not_lt.mp hm)))
  refine ar_aload_n (n := 0) C dX12_drop_35 rfl rfl ?_
  refine ar_getr C flX12_7 rfl kd_96 rf_96_2 dX12_drop_36 ?_
  refine ar_iload_n (n := 1) C dX12_drop_39 rfl rfl ?_
  refine ar_iconst (v := (-1)) C dX12_drop_40 (by decide) ?_
  refine ar_iast (j := i) C kd_97 rfl hi dX12_drop_41 ?_
  refine ar_aload_n (n := 0) C dX12_drop_42 rfl rfl ?_
  refine ar_getr C flX12_13 rfl kd_96 rf_96_3 dX12_drop_43 ?_
  refine ar_iload_n (n := 1) C dX12_drop_46 rfl rfl ?_
  refine ar_ialdV (j := i) (v := M.1 98 i) C kd_98 rfl hi (by simp [wi, wl]; try omega) dX12_drop_47 ?_
  exact ar_ireturn C rfl dX12_drop_48 ⟨rfl, rfl, rfl⟩
set_option maxHeartbeats 4000000 in
set_option maxRecDepth 100000 in
theorem m_room_bad0 (M : Mm) (w v : Int32) (h : f_in w 0 6 = false) : AX mX12_room 1 [.ref 96, .int w, .int v] M (some (.int (-1000001))) (wi M 96 0 0) := by
  refine AM_ofF (by decide +kernel) (Nat.le_of_ble_eq_true rfl) (fun X V C _ _ => ?_)
  show AW X V mX12_room.2.2.1 T0 M 0 0 _ 0 [(0, .ref 96), (1, .int w), (2, .int v)] []
  refine ar_aload_n (n := 0) C dX12_room_0 rfl rfl ?_
  refine ar_iconst (v := 0) C dX12_room_1 (by decide) ?_
  refine ar_puti C flX12_59 kd_96 dX12_room_2 ?_
  refine ar_iload_n (n := 1) C dX12_room_5 rfl rfl ?_
  refine ar_i2l C dX12_room_6 ?_
  refine ar_lconst (v := 0) C dX12_room_7 (by decide) ?_
  refine ar_ldc2 C kcX12_84 dX12_room_8 ?_
  refine cS1 (ar := [.long w.toInt64, .long 0, .long 6]) (st := []) C lkX12_69 (k_inI (wi M 96 0 0) w 0 6 _ _ (by decide) (by decide)) (by decide) rfl (Nat.le_of_ble_eq_true rfl) rfl dX12_room_11 ?_
  refine ar_if_neB (tgt := 20) C dX12_room_14 (by decide) (fun c_1 => False.elim (Bool.noConfusion (h.symm.trans c_1))) (fun _ => ?_)
  refine ar_ldc C kcX12_79 dX12_room_17 ?_
  exact ar_ireturn C rfl dX12_room_19 ⟨rfl, rfl, rfl⟩
set_option maxHeartbeats 4000000 in
set_option maxRecDepth 100000 in
theorem m_room_bad_0 (M : Mm) (v : Int32) (h : f_in v (nLeast 0) (nMost 0) = false) : AX mX12_room 1 [.ref 96, .int 0, .int v] M (some (.int (-1000001))) (wi M 96 0 0) := by
  refine AM_ofF (by decide +kernel) (Nat.le_of_ble_eq_true rfl) (fun X V C _ _ => ?_)
  show AW X V mX12_room.2.2.1 T0 M 0 0 _ 0 [(0, .ref 96), (1, .int 0), (2, .int v)] []
  refine ar_aload_n (n := 0) C dX12_room_0 rfl rfl ?_
  refine ar_iconst (v := 0) C dX12_room_1 (by decide) ?_
  refine ar_puti C flX12_59 kd_96 dX12_room_2 ?_
  refine ar_iload_n (n := 1) C dX12_room_5 rfl rfl ?_
  refine ar_i2l C dX12_room_6 ?_
  refine ar_lconst (v := 0) C dX12_room_7 (by decide) ?_
  refine ar_ldc2 C kcX12_84 dX12_room_8 ?_
  refine cS1 (ar := [.long ((0 : Int32).toInt64), .long 0, .long 6]) (st := []) C lkX12_69 (k_inI (wi M 96 0 0) 0 0 6 _ _ (by decide) (by decide)) (by decide) rfl (Nat.le_of_ble_eq_true rfl) rfl dX12_room_11 ?_
  refine ar_if_neB (tgt := 20) C dX12_room_14 (by decide) (fun _ => ?_) (fun c_1 => False.elim (Bool.noConfusion ((show f_in 0 0 6 = true by decide).symm.trans c_1)))
  refine ar_iload_n (n := 1) C dX12_room_20 rfl rfl ?_
  refine ar_if_eq (tgt := 34) C dX12_room_21 (by decide) (fun _ => ?_) (fun c_2 => absurd c_2 (by decide))
  refine ar_iconst (v := 0) C dX12_room_34 (by decide) ?_
  refine ar_goto (tgt := 39) C dX12_room_35 (by decide) ?_
  refine ar_istore_n (als' := [(3, .int 0), (0, .ref 96), (1, .int 0), (2, .int v)]) C dX12_room_39 rfl (by decide) rfl ?_
  refine ar_iload_n (n := 2) C dX12_room_40 rfl rfl ?_
  refine ar_if_ne (tgt := 50) C dX12_room_41 (by decide) (fun c_3 => absurd c_3 (by decide)) (fun _ => ?_)
  refine ar_sipush (v := 500) C dX12_room_44 (by decide) ?_
  refine ar_goto (tgt := 93) C dX12_room_47 (by decide) ?_
  refine ar_istore (als' := [(4, .int 500), (3, .int 0), (0, .ref 96), (1, .int 0), (2, .int v)]) C dX12_room_93 (by decide) rfl ?_
  refine ar_iload_n (n := 4) C dX12_room_95 rfl rfl ?_
  refine ar_i2l C dX12_room_96 ?_
  refine ar_iload_n (n := 1) C dX12_room_97 rfl rfl ?_
  refine ar_i2l C dX12_room_98 ?_
  refine ar_iload (n := 0) C dX12_room_99 rfl ?_
  refine ar_i2l C dX12_room_101 ?_
  refine cS1 (ar := [.long v.toInt64, .long ((0 : Int32).toInt64), .long ((500 : Int32).toInt64)]) (st := []) C lkX12_69 (k_inI (wi M 96 0 0) v 0 500 _ _ rfl rfl) (by decide) rfl (Nat.le_of_ble_eq_true rfl) rfl dX12_room_102 ?_
  refine ar_if_neB (tgt := 111) C dX12_room_105 (by decide) (fun c_4 => False.elim (Bool.noConfusion (h.symm.trans c_4))) (fun _ => ?_)
  refine ar_ldc C kcX12_79 dX12_room_108 ?_
  exact ar_ireturn C rfl dX12_room_110 ⟨rfl, rfl, rfl⟩
set_option maxHeartbeats 4000000 in
set_option maxRecDepth 100000 in
theorem m_room_ok_0 (M : Mm) (v : Int32) (h : f_in v (nLeast 0) (nMost 0) = true) : AX mX12_room 1 [.ref 96, .int 0, .int v] M (some (.int (M.1 100 0))) (wi (wi M 96 0 0) 100 0 v) := by
  refine AM_ofF (by decide +kernel) (Nat.le_of_ble_eq_true rfl) (fun X V C _ _ => ?_)
  show AW X V mX12_room.2.2.1 T0 M 0 0 _ 0 [(0, .ref 96), (1, .int 0), (2, .int v)] []
  refine ar_aload_n (n := 0) C dX12_room_0 rfl rfl ?_
  refine ar_iconst (v := 0) C dX12_room_1 (by decide) ?_
  refine ar_puti C flX12_59 kd_96 dX12_room_2 ?_
  refine ar_iload_n (n := 1) C dX12_room_5 rfl rfl ?_
  refine ar_i2l C dX12_room_6 ?_
  refine ar_lconst (v := 0) C dX12_room_7 (by decide) ?_
  refine ar_ldc2 C kcX12_84 dX12_room_8 ?_
  refine cS1 (ar := [.long ((0 : Int32).toInt64), .long 0, .long 6]) (st := []) C lkX12_69 (k_inI (wi M 96 0 0) 0 0 6 _ _ (by decide) (by decide)) (by decide) rfl (Nat.le_of_ble_eq_true rfl) rfl dX12_room_11 ?_
  refine ar_if_neB (tgt := 20) C dX12_room_14 (by decide) (fun _ => ?_) (fun c_1 => False.elim (Bool.noConfusion ((show f_in 0 0 6 = true by decide).symm.trans c_1)))
  refine ar_iload_n (n := 1) C dX12_room_20 rfl rfl ?_
  refine ar_if_eq (tgt := 34) C dX12_room_21 (by decide) (fun _ => ?_) (fun c_2 => absurd c_2 (by decide))
  refine ar_iconst (v := 0) C dX12_room_34 (by decide) ?_
  refine ar_goto (tgt := 39) C dX12_room_35 (by decide) ?_
  refine ar_istore_n (als' := [(3, .int 0), (0, .ref 96), (1, .int 0), (2, .int v)]) C dX12_room_39 rfl (by decide) rfl ?_
  refine ar_iload_n (n := 2) C dX12_room_40 rfl rfl ?_
  refine ar_if_ne (tgt := 50) C dX12_room_41 (by decide) (fun c_3 => absurd c_3 (by decide)) (fun _ => ?_)
  refine ar_sipush (v := 500) C dX12_room_44 (by decide) ?_
  refine ar_goto (tgt := 93) C dX12_room_47 (by decide) ?_
  refine ar_istore (als' := [(4, .int 500), (3, .int 0), (0, .ref 96), (1, .int 0), (2, .int v)]) C dX12_room_93 (by decide) rfl ?_
  refine ar_iload_n (n := 4) C dX12_room_95 rfl rfl ?_
  refine ar_i2l C dX12_room_96 ?_
  refine ar_iload_n (n := 1) C dX12_room_97 rfl rfl ?_
  refine ar_i2l C dX12_room_98 ?_
  refine ar_iload (n := 0) C dX12_room_99 rfl ?_
  refine ar_i2l C dX12_room_101 ?_
  refine cS1 (ar := [.long v.toInt64, .long ((0 : Int32).toInt64), .long ((500 : Int32).toInt64)]) (st := []) C lkX12_69 (k_inI (wi M 96 0 0) v 0 500 _ _ rfl rfl) (by decide) rfl (Nat.le_of_ble_eq_true rfl) rfl dX12_room_102 ?_
  refine ar_if_neB (tgt := 111) C dX12_room_105 (by decide) (fun _ => ?_) (fun c_4 => False.elim (Bool.noConfusion (h.symm.trans c_4)))
  refine ar_aload_n (n := 2) C dX12_room_111 rfl rfl ?_
  refine ar_getr C flX12_19 rfl kd_96 rf_96_5 dX12_room_112 ?_
  refine ar_iload_n (n := 3) C dX12_room_115 rfl rfl ?_
  refine ar_ialdV (j := 0) (v := M.1 100 0) C kd_100 (by decide) (by decide) rfl dX12_room_116 ?_
  refine ar_istore (als' := [(5, .int (M.1 100 0)), (4, .int 500), (3, .int 0), (0, .ref 96), (1, .int 0), (2, .int v)]) C dX12_room_117 (by decide) rfl ?_
  refine ar_aload_n (n := 3) C dX12_room_119 rfl rfl ?_
  refine ar_getr C flX12_19 rfl kd_96 rf_96_5 dX12_room_120 ?_
  refine ar_iload_n (n := 4) C dX12_room_123 rfl rfl ?_
  refine ar_iload_n (n := 5) C dX12_room_124 rfl rfl ?_
  refine ar_iast (j := 0) C kd_100 (by decide) (by decide) dX12_room_125 ?_
  refine ar_iload (n := 0) C dX12_room_126 rfl ?_
  exact ar_ireturn C rfl dX12_room_128 ⟨rfl, rfl, rfl⟩
set_option maxHeartbeats 4000000 in
set_option maxRecDepth 100000 in
theorem m_room_bad_1 (M : Mm) (v : Int32) (h : f_in v (nLeast 1) (nMost 1) = false) : AX mX12_room 1 [.ref 96, .int 1, .int v] M (some (.int (-1000001))) (wi M 96 0 0) := by
  refine AM_ofF (by decide +kernel) (Nat.le_of_ble_eq_true rfl) (fun X V C _ _ => ?_)
  show AW X V mX12_room.2.2.1 T0 M 0 0 _ 0 [(0, .ref 96), (1, .int 1), (2, .int v)] []
  refine ar_aload_n (n := 0) C dX12_room_0 rfl rfl ?_
  refine ar_iconst (v := 0) C dX12_room_1 (by decide) ?_
  refine ar_puti C flX12_59 kd_96 dX12_room_2 ?_
  refine ar_iload_n (n := 1) C dX12_room_5 rfl rfl ?_
  refine ar_i2l C dX12_room_6 ?_
  refine ar_lconst (v := 0) C dX12_room_7 (by decide) ?_
  refine ar_ldc2 C kcX12_84 dX12_room_8 ?_
  refine cS1 (ar := [.long ((1 : Int32).toInt64), .long 0, .long 6]) (st := []) C lkX12_69 (k_inI (wi M 96 0 0) 1 0 6 _ _ (by decide) (by decide)) (by decide) rfl (Nat.le_of_ble_eq_true rfl) rfl dX12_room_11 ?_
  refine ar_if_neB (tgt := 20) C dX12_room_14 (by decide) (fun _ => ?_) (fun c_1 => False.elim (Bool.noConfusion ((show f_in 1 0 6 = true by decide).symm.trans c_1)))
  refine ar_iload_n (n := 1) C dX12_room_20 rfl rfl ?_
  refine ar_if_eq (tgt := 34) C dX12_room_21 (by decide) (fun c_2 => absurd c_2 (by decide)) (fun _ => ?_)
  refine ar_iload_n (n := 1) C dX12_room_24 rfl rfl ?_
  refine ar_iconst (v := 3) C dX12_room_25 (by decide) ?_
  refine ar_icmp_eq (tgt := 34) C dX12_room_26 (by decide) (fun c_3 => absurd c_3 (by decide)) (fun _ => ?_)
  refine ar_iload_n (n := 1) C dX12_room_29 rfl rfl ?_
  refine ar_iconst (v := 4) C dX12_room_30 (by decide) ?_
  refine ar_icmp_ne (tgt := 38) C dX12_room_31 (by decide) (fun _ => ?_) (fun c_4 => absurd c_4 (by decide))
  refine ar_iconst (v := 1) C dX12_room_38 (by decide) ?_
  refine ar_istore_n (als' := [(3, .int 1), (0, .ref 96), (1, .int 1), (2, .int v)]) C dX12_room_39 rfl (by decide) rfl ?_
  refine ar_iload_n (n := 2) C dX12_room_40 rfl rfl ?_
  refine ar_if_ne (tgt := 50) C dX12_room_41 (by decide) (fun _ => ?_) (fun c_5 => absurd c_5 (by decide))
  refine ar_iload_n (n := 2) C dX12_room_50 rfl rfl ?_
  refine ar_iconst (v := 1) C dX12_room_51 (by decide) ?_
  refine ar_icmp_ne (tgt := 60) C dX12_room_52 (by decide) (fun c_6 => absurd c_6 (by decide)) (fun _ => ?_)
  refine ar_bipush (v := 100) C dX12_room_55 (by decide) ?_
  refine ar_goto (tgt := 93) C dX12_room_57 (by decide) ?_
  refine ar_istore (als' := [(4, .int 100), (3, .int 1), (0, .ref 96), (1, .int 1), (2, .int v)]) C dX12_room_93 (by decide) rfl ?_
  refine ar_iload_n (n := 4) C dX12_room_95 rfl rfl ?_
  refine ar_i2l C dX12_room_96 ?_
  refine ar_iload_n (n := 1) C dX12_room_97 rfl rfl ?_
  refine ar_i2l C dX12_room_98 ?_
  refine ar_iload (n := 0) C dX12_room_99 rfl ?_
  refine ar_i2l C dX12_room_101 ?_
  refine cS1 (ar := [.long v.toInt64, .long ((1 : Int32).toInt64), .long ((100 : Int32).toInt64)]) (st := []) C lkX12_69 (k_inI (wi M 96 0 0) v 1 100 _ _ rfl rfl) (by decide) rfl (Nat.le_of_ble_eq_true rfl) rfl dX12_room_102 ?_
  refine ar_if_neB (tgt := 111) C dX12_room_105 (by decide) (fun c_7 => False.elim (Bool.noConfusion (h.symm.trans c_7))) (fun _ => ?_)
  refine ar_ldc C kcX12_79 dX12_room_108 ?_
  exact ar_ireturn C rfl dX12_room_110 ⟨rfl, rfl, rfl⟩
set_option maxHeartbeats 4000000 in
set_option maxRecDepth 100000 in
theorem m_room_ok_1 (M : Mm) (v : Int32) (h : f_in v (nLeast 1) (nMost 1) = true) : AX mX12_room 1 [.ref 96, .int 1, .int v] M (some (.int (M.1 100 1))) (wi (wi M 96 0 0) 100 1 v) := by
  refine AM_ofF (by decide +kernel) (Nat.le_of_ble_eq_true rfl) (fun X V C _ _ => ?_)
  show AW X V mX12_room.2.2.1 T0 M 0 0 _ 0 [(0, .ref 96), (1, .int 1), (2, .int v)] []
  refine ar_aload_n (n := 0) C dX12_room_0 rfl rfl ?_
  refine ar_iconst (v := 0) C dX12_room_1 (by decide) ?_
  refine ar_puti C flX12_59 kd_96 dX12_room_2 ?_
  refine ar_iload_n (n := 1) C dX12_room_5 rfl rfl ?_
  refine ar_i2l C dX12_room_6 ?_
  refine ar_lconst (v := 0) C dX12_room_7 (by decide) ?_
  refine ar_ldc2 C kcX12_84 dX12_room_8 ?_
  refine cS1 (ar := [.long ((1 : Int32).toInt64), .long 0, .long 6]) (st := []) C lkX12_69 (k_inI (wi M 96 0 0) 1 0 6 _ _ (by decide) (by decide)) (by decide) rfl (Nat.le_of_ble_eq_true rfl) rfl dX12_room_11 ?_
  refine ar_if_neB (tgt := 20) C dX12_room_14 (by decide) (fun _ => ?_) (fun c_1 => False.elim (Bool.noConfusion ((show f_in 1 0 6 = true by decide).symm.trans c_1)))
  refine ar_iload_n (n := 1) C dX12_room_20 rfl rfl ?_
  refine ar_if_eq (tgt := 34) C dX12_room_21 (by decide) (fun c_2 => absurd c_2 (by decide)) (fun _ => ?_)
  refine ar_iload_n (n := 1) C dX12_room_24 rfl rfl ?_
  refine ar_iconst (v := 3) C dX12_room_25 (by decide) ?_
  refine ar_icmp_eq (tgt := 34) C dX12_room_26 (by decide) (fun c_3 => absurd c_3 (by decide)) (fun _ => ?_)
  refine ar_iload_n (n := 1) C dX12_room_29 rfl rfl ?_
  refine ar_iconst (v := 4) C dX12_room_30 (by decide) ?_
  refine ar_icmp_ne (tgt := 38) C dX12_room_31 (by decide) (fun _ => ?_) (fun c_4 => absurd c_4 (by decide))
  refine ar_iconst (v := 1) C dX12_room_38 (by decide) ?_
  refine ar_istore_n (als' := [(3, .int 1), (0, .ref 96), (1, .int 1), (2, .int v)]) C dX12_room_39 rfl (by decide) rfl ?_
  refine ar_iload_n (n := 2) C dX12_room_40 rfl rfl ?_
  refine ar_if_ne (tgt := 50) C dX12_room_41 (by decide) (fun _ => ?_) (fun c_5 => absurd c_5 (by decide))
  refine ar_iload_n (n := 2) C dX12_room_50 rfl rfl ?_
  refine ar_iconst (v := 1) C dX12_room_51 (by decide) ?_
  refine ar_icmp_ne (tgt := 60) C dX12_room_52 (by decide) (fun c_6 => absurd c_6 (by decide)) (fun _ => ?_)
  refine ar_bipush (v := 100) C dX12_room_55 (by decide) ?_
  refine ar_goto (tgt := 93) C dX12_room_57 (by decide) ?_
  refine ar_istore (als' := [(4, .int 100), (3, .int 1), (0, .ref 96), (1, .int 1), (2, .int v)]) C dX12_room_93 (by decide) rfl ?_
  refine ar_iload_n (n := 4) C dX12_room_95 rfl rfl ?_
  refine ar_i2l C dX12_room_96 ?_
  refine ar_iload_n (n := 1) C dX12_room_97 rfl rfl ?_
  refine ar_i2l C dX12_room_98 ?_
  refine ar_iload (n := 0) C dX12_room_99 rfl ?_
  refine ar_i2l C dX12_room_101 ?_
  refine cS1 (ar := [.long v.toInt64, .long ((1 : Int32).toInt64), .long ((100 : Int32).toInt64)]) (st := []) C lkX12_69 (k_inI (wi M 96 0 0) v 1 100 _ _ rfl rfl) (by decide) rfl (Nat.le_of_ble_eq_true rfl) rfl dX12_room_102 ?_
  refine ar_if_neB (tgt := 111) C dX12_room_105 (by decide) (fun _ => ?_) (fun c_7 => False.elim (Bool.noConfusion (h.symm.trans c_7)))
  refine ar_aload_n (n := 2) C dX12_room_111 rfl rfl ?_
  refine ar_getr C flX12_19 rfl kd_96 rf_96_5 dX12_room_112 ?_
  refine ar_iload_n (n := 3) C dX12_room_115 rfl rfl ?_
  refine ar_ialdV (j := 1) (v := M.1 100 1) C kd_100 (by decide) (by decide) rfl dX12_room_116 ?_
  refine ar_istore (als' := [(5, .int (M.1 100 1)), (4, .int 100), (3, .int 1), (0, .ref 96), (1, .int 1), (2, .int v)]) C dX12_room_117 (by decide) rfl ?_
  refine ar_aload_n (n := 3) C dX12_room_119 rfl rfl ?_
  refine ar_getr C flX12_19 rfl kd_96 rf_96_5 dX12_room_120 ?_
  refine ar_iload_n (n := 4) C dX12_room_123 rfl rfl ?_
  refine ar_iload_n (n := 5) C dX12_room_124 rfl rfl ?_
  refine ar_iast (j := 1) C kd_100 (by decide) (by decide) dX12_room_125 ?_
  refine ar_iload (n := 0) C dX12_room_126 rfl ?_
  exact ar_ireturn C rfl dX12_room_128 ⟨rfl, rfl, rfl⟩
set_option maxHeartbeats 4000000 in
set_option maxRecDepth 100000 in
theorem m_room_bad_2 (M : Mm) (v : Int32) (h : f_in v (nLeast 2) (nMost 2) = false) : AX mX12_room 1 [.ref 96, .int 2, .int v] M (some (.int (-1000001))) (wi M 96 0 0) := by
  refine AM_ofF (by decide +kernel) (Nat.le_of_ble_eq_true rfl) (fun X V C _ _ => ?_)
  show AW X V mX12_room.2.2.1 T0 M 0 0 _ 0 [(0, .ref 96), (1, .int 2), (2, .int v)] []
  refine ar_aload_n (n := 0) C dX12_room_0 rfl rfl ?_
  refine ar_iconst (v := 0) C dX12_room_1 (by decide) ?_
  refine ar_puti C flX12_59 kd_96 dX12_room_2 ?_
  refine ar_iload_n (n := 1) C dX12_room_5 rfl rfl ?_
  refine ar_i2l C dX12_room_6 ?_
  refine ar_lconst (v := 0) C dX12_room_7 (by decide) ?_
  refine ar_ldc2 C kcX12_84 dX12_room_8 ?_
  refine cS1 (ar := [.long ((2 : Int32).toInt64), .long 0, .long 6]) (st := []) C lkX12_69 (k_inI (wi M 96 0 0) 2 0 6 _ _ (by decide) (by decide)) (by decide) rfl (Nat.le_of_ble_eq_true rfl) rfl dX12_room_11 ?_
  refine ar_if_neB (tgt := 20) C dX12_room_14 (by decide) (fun _ => ?_) (fun c_1 => False.elim (Bool.noConfusion ((show f_in 2 0 6 = true by decide).symm.trans c_1)))
  refine ar_iload_n (n := 1) C dX12_room_20 rfl rfl ?_
  refine ar_if_eq (tgt := 34) C dX12_room_21 (by decide) (fun c_2 => absurd c_2 (by decide)) (fun _ => ?_)
  refine ar_iload_n (n := 1) C dX12_room_24 rfl rfl ?_
  refine ar_iconst (v := 3) C dX12_room_25 (by decide) ?_
  refine ar_icmp_eq (tgt := 34) C dX12_room_26 (by decide) (fun c_3 => absurd c_3 (by decide)) (fun _ => ?_)
  refine ar_iload_n (n := 1) C dX12_room_29 rfl rfl ?_
  refine ar_iconst (v := 4) C dX12_room_30 (by decide) ?_
  refine ar_icmp_ne (tgt := 38) C dX12_room_31 (by decide) (fun _ => ?_) (fun c_4 => absurd c_4 (by decide))
  refine ar_iconst (v := 1) C dX12_room_38 (by decide) ?_
  refine ar_istore_n (als' := [(3, .int 1), (0, .ref 96), (1, .int 2), (2, .int v)]) C dX12_room_39 rfl (by decide) rfl ?_
  refine ar_iload_n (n := 2) C dX12_room_40 rfl rfl ?_
  refine ar_if_ne (tgt := 50) C dX12_room_41 (by decide) (fun _ => ?_) (fun c_5 => absurd c_5 (by decide))
  refine ar_iload_n (n := 2) C dX12_room_50 rfl rfl ?_
  refine ar_iconst (v := 1) C dX12_room_51 (by decide) ?_
  refine ar_icmp_ne (tgt := 60) C dX12_room_52 (by decide) (fun _ => ?_) (fun c_6 => absurd c_6 (by decide))
  refine ar_iload_n (n := 2) C dX12_room_60 rfl rfl ?_
  refine ar_iconst (v := 2) C dX12_room_61 (by decide) ?_
  refine ar_icmp_ne (tgt := 71) C dX12_room_62 (by decide) (fun c_7 => absurd c_7 (by decide)) (fun _ => ?_)
  refine ar_sipush (v := 1000) C dX12_room_65 (by decide) ?_
  refine ar_goto (tgt := 93) C dX12_room_68 (by decide) ?_
  refine ar_istore (als' := [(4, .int 1000), (3, .int 1), (0, .ref 96), (1, .int 2), (2, .int v)]) C dX12_room_93 (by decide) rfl ?_
  refine ar_iload_n (n := 4) C dX12_room_95 rfl rfl ?_
  refine ar_i2l C dX12_room_96 ?_
  refine ar_iload_n (n := 1) C dX12_room_97 rfl rfl ?_
  refine ar_i2l C dX12_room_98 ?_
  refine ar_iload (n := 0) C dX12_room_99 rfl ?_
  refine ar_i2l C dX12_room_101 ?_
  refine cS1 (ar := [.long v.toInt64, .long ((1 : Int32).toInt64), .long ((1000 : Int32).toInt64)]) (st := []) C lkX12_69 (k_inI (wi M 96 0 0) v 1 1000 _ _ rfl rfl) (by decide) rfl (Nat.le_of_ble_eq_true rfl) rfl dX12_room_102 ?_
  refine ar_if_neB (tgt := 111) C dX12_room_105 (by decide) (fun c_8 => False.elim (Bool.noConfusion (h.symm.trans c_8))) (fun _ => ?_)
  refine ar_ldc C kcX12_79 dX12_room_108 ?_
  exact ar_ireturn C rfl dX12_room_110 ⟨rfl, rfl, rfl⟩
set_option maxHeartbeats 4000000 in
set_option maxRecDepth 100000 in
theorem m_room_ok_2 (M : Mm) (v : Int32) (h : f_in v (nLeast 2) (nMost 2) = true) : AX mX12_room 1 [.ref 96, .int 2, .int v] M (some (.int (M.1 100 2))) (wi (wi M 96 0 0) 100 2 v) := by
  refine AM_ofF (by decide +kernel) (Nat.le_of_ble_eq_true rfl) (fun X V C _ _ => ?_)
  show AW X V mX12_room.2.2.1 T0 M 0 0 _ 0 [(0, .ref 96), (1, .int 2), (2, .int v)] []
  refine ar_aload_n (n := 0) C dX12_room_0 rfl rfl ?_
  refine ar_iconst (v := 0) C dX12_room_1 (by decide) ?_
  refine ar_puti C flX12_59 kd_96 dX12_room_2 ?_
  refine ar_iload_n (n := 1) C dX12_room_5 rfl rfl ?_
  refine ar_i2l C dX12_room_6 ?_
  refine ar_lconst (v := 0) C dX12_room_7 (by decide) ?_
  refine ar_ldc2 C kcX12_84 dX12_room_8 ?_
  refine cS1 (ar := [.long ((2 : Int32).toInt64), .long 0, .long 6]) (st := []) C lkX12_69 (k_inI (wi M 96 0 0) 2 0 6 _ _ (by decide) (by decide)) (by decide) rfl (Nat.le_of_ble_eq_true rfl) rfl dX12_room_11 ?_
  refine ar_if_neB (tgt := 20) C dX12_room_14 (by decide) (fun _ => ?_) (fun c_1 => False.elim (Bool.noConfusion ((show f_in 2 0 6 = true by decide).symm.trans c_1)))
  refine ar_iload_n (n := 1) C dX12_room_20 rfl rfl ?_
  refine ar_if_eq (tgt := 34) C dX12_room_21 (by decide) (fun c_2 => absurd c_2 (by decide)) (fun _ => ?_)
  refine ar_iload_n (n := 1) C dX12_room_24 rfl rfl ?_
  refine ar_iconst (v := 3) C dX12_room_25 (by decide) ?_
  refine ar_icmp_eq (tgt := 34) C dX12_room_26 (by decide) (fun c_3 => absurd c_3 (by decide)) (fun _ => ?_)
  refine ar_iload_n (n := 1) C dX12_room_29 rfl rfl ?_
  refine ar_iconst (v := 4) C dX12_room_30 (by decide) ?_
  refine ar_icmp_ne (tgt := 38) C dX12_room_31 (by decide) (fun _ => ?_) (fun c_4 => absurd c_4 (by decide))
  refine ar_iconst (v := 1) C dX12_room_38 (by decide) ?_
  refine ar_istore_n (als' := [(3, .int 1), (0, .ref 96), (1, .int 2), (2, .int v)]) C dX12_room_39 rfl (by decide) rfl ?_
  refine ar_iload_n (n := 2) C dX12_room_40 rfl rfl ?_
  refine ar_if_ne (tgt := 50) C dX12_room_41 (by decide) (fun _ => ?_) (fun c_5 => absurd c_5 (by decide))
  refine ar_iload_n (n := 2) C dX12_room_50 rfl rfl ?_
  refine ar_iconst (v := 1) C dX12_room_51 (by decide) ?_
  refine ar_icmp_ne (tgt := 60) C dX12_room_52 (by decide) (fun _ => ?_) (fun c_6 => absurd c_6 (by decide))
  refine ar_iload_n (n := 2) C dX12_room_60 rfl rfl ?_
  refine ar_iconst (v := 2) C dX12_room_61 (by decide) ?_
  refine ar_icmp_ne (tgt := 71) C dX12_room_62 (by decide) (fun c_7 => absurd c_7 (by decide)) (fun _ => ?_)
  refine ar_sipush (v := 1000) C dX12_room_65 (by decide) ?_
  refine ar_goto (tgt := 93) C dX12_room_68 (by decide) ?_
  refine ar_istore (als' := [(4, .int 1000), (3, .int 1), (0, .ref 96), (1, .int 2), (2, .int v)]) C dX12_room_93 (by decide) rfl ?_
  refine ar_iload_n (n := 4) C dX12_room_95 rfl rfl ?_
  refine ar_i2l C dX12_room_96 ?_
  refine ar_iload_n (n := 1) C dX12_room_97 rfl rfl ?_
  refine ar_i2l C dX12_room_98 ?_
  refine ar_iload (n := 0) C dX12_room_99 rfl ?_
  refine ar_i2l C dX12_room_101 ?_
  refine cS1 (ar := [.long v.toInt64, .long ((1 : Int32).toInt64), .long ((1000 : Int32).toInt64)]) (st := []) C lkX12_69 (k_inI (wi M 96 0 0) v 1 1000 _ _ rfl rfl) (by decide) rfl (Nat.le_of_ble_eq_true rfl) rfl dX12_room_102 ?_
  refine ar_if_neB (tgt := 111) C dX12_room_105 (by decide) (fun _ => ?_) (fun c_8 => False.elim (Bool.noConfusion (h.symm.trans c_8)))
  refine ar_aload_n (n := 2) C dX12_room_111 rfl rfl ?_
  refine ar_getr C flX12_19 rfl kd_96 rf_96_5 dX12_room_112 ?_
  refine ar_iload_n (n := 3) C dX12_room_115 rfl rfl ?_
  refine ar_ialdV (j := 2) (v := M.1 100 2) C kd_100 (by decide) (by decide) rfl dX12_room_116 ?_
  refine ar_istore (als' := [(5, .int (M.1 100 2)), (4, .int 1000), (3, .int 1), (0, .ref 96), (1, .int 2), (2, .int v)]) C dX12_room_117 (by decide) rfl ?_
  refine ar_aload_n (n := 3) C dX12_room_119 rfl rfl ?_
  refine ar_getr C flX12_19 rfl kd_96 rf_96_5 dX12_room_120 ?_
  refine ar_iload_n (n := 4) C dX12_room_123 rfl rfl ?_
  refine ar_iload_n (n := 5) C dX12_room_124 rfl rfl ?_
  refine ar_iast (j := 2) C kd_100 (by decide) (by decide) dX12_room_125 ?_
  refine ar_iload (n := 0) C dX12_room_126 rfl ?_
  exact ar_ireturn C rfl dX12_room_128 ⟨rfl, rfl, rfl⟩
set_option maxHeartbeats 4000000 in
set_option maxRecDepth 100000 in
theorem m_room_bad_3 (M : Mm) (v : Int32) (h : f_in v (nLeast 3) (nMost 3) = false) : AX mX12_room 1 [.ref 96, .int 3, .int v] M (some (.int (-1000001))) (wi M 96 0 0) := by
  refine AM_ofF (by decide +kernel) (Nat.le_of_ble_eq_true rfl) (fun X V C _ _ => ?_)
  show AW X V mX12_room.2.2.1 T0 M 0 0 _ 0 [(0, .ref 96), (1, .int 3), (2, .int v)] []
  refine ar_aload_n (n := 0) C dX12_room_0 rfl rfl ?_
  refine ar_iconst (v := 0) C dX12_room_1 (by decide) ?_
  refine ar_puti C flX12_59 kd_96 dX12_room_2 ?_
  refine ar_iload_n (n := 1) C dX12_room_5 rfl rfl ?_
  refine ar_i2l C dX12_room_6 ?_
  refine ar_lconst (v := 0) C dX12_room_7 (by decide) ?_
  refine ar_ldc2 C kcX12_84 dX12_room_8 ?_
  refine cS1 (ar := [.long ((3 : Int32).toInt64), .long 0, .long 6]) (st := []) C lkX12_69 (k_inI (wi M 96 0 0) 3 0 6 _ _ (by decide) (by decide)) (by decide) rfl (Nat.le_of_ble_eq_true rfl) rfl dX12_room_11 ?_
  refine ar_if_neB (tgt := 20) C dX12_room_14 (by decide) (fun _ => ?_) (fun c_1 => False.elim (Bool.noConfusion ((show f_in 3 0 6 = true by decide).symm.trans c_1)))
  refine ar_iload_n (n := 1) C dX12_room_20 rfl rfl ?_
  refine ar_if_eq (tgt := 34) C dX12_room_21 (by decide) (fun c_2 => absurd c_2 (by decide)) (fun _ => ?_)
  refine ar_iload_n (n := 1) C dX12_room_24 rfl rfl ?_
  refine ar_iconst (v := 3) C dX12_room_25 (by decide) ?_
  refine ar_icmp_eq (tgt := 34) C dX12_room_26 (by decide) (fun _ => ?_) (fun c_3 => absurd c_3 (by decide))
  refine ar_iconst (v := 0) C dX12_room_34 (by decide) ?_
  refine ar_goto (tgt := 39) C dX12_room_35 (by decide) ?_
  refine ar_istore_n (als' := [(3, .int 0), (0, .ref 96), (1, .int 3), (2, .int v)]) C dX12_room_39 rfl (by decide) rfl ?_
  refine ar_iload_n (n := 2) C dX12_room_40 rfl rfl ?_
  refine ar_if_ne (tgt := 50) C dX12_room_41 (by decide) (fun _ => ?_) (fun c_4 => absurd c_4 (by decide))
  refine ar_iload_n (n := 2) C dX12_room_50 rfl rfl ?_
  refine ar_iconst (v := 1) C dX12_room_51 (by decide) ?_
  refine ar_icmp_ne (tgt := 60) C dX12_room_52 (by decide) (fun _ => ?_) (fun c_5 => absurd c_5 (by decide))
  refine ar_iload_n (n := 2) C dX12_room_60 rfl rfl ?_
  refine ar_iconst (v := 2) C dX12_room_61 (by decide) ?_
  refine ar_icmp_ne (tgt := 71) C dX12_room_62 (by decide) (fun _ => ?_) (fun c_6 => absurd c_6 (by decide))
  refine ar_iload_n (n := 2) C dX12_room_71 rfl rfl ?_
  refine ar_iconst (v := 3) C dX12_room_72 (by decide) ?_
  refine ar_icmp_ne (tgt := 80) C dX12_room_73 (by decide) (fun c_7 => absurd c_7 (by decide)) (fun _ => ?_)
  refine ar_iconst (v := 1) C dX12_room_76 (by decide) ?_
  refine ar_goto (tgt := 93) C dX12_room_77 (by decide) ?_
  refine ar_istore (als' := [(4, .int 1), (3, .int 0), (0, .ref 96), (1, .int 3), (2, .int v)]) C dX12_room_93 (by decide) rfl ?_
  refine ar_iload_n (n := 4) C dX12_room_95 rfl rfl ?_
  refine ar_i2l C dX12_room_96 ?_
  refine ar_iload_n (n := 1) C dX12_room_97 rfl rfl ?_
  refine ar_i2l C dX12_room_98 ?_
  refine ar_iload (n := 0) C dX12_room_99 rfl ?_
  refine ar_i2l C dX12_room_101 ?_
  refine cS1 (ar := [.long v.toInt64, .long ((0 : Int32).toInt64), .long ((1 : Int32).toInt64)]) (st := []) C lkX12_69 (k_inI (wi M 96 0 0) v 0 1 _ _ rfl rfl) (by decide) rfl (Nat.le_of_ble_eq_true rfl) rfl dX12_room_102 ?_
  refine ar_if_neB (tgt := 111) C dX12_room_105 (by decide) (fun c_8 => False.elim (Bool.noConfusion (h.symm.trans c_8))) (fun _ => ?_)
  refine ar_ldc C kcX12_79 dX12_room_108 ?_
  exact ar_ireturn C rfl dX12_room_110 ⟨rfl, rfl, rfl⟩
set_option maxHeartbeats 4000000 in
set_option maxRecDepth 100000 in
theorem m_room_ok_3 (M : Mm) (v : Int32) (h : f_in v (nLeast 3) (nMost 3) = true) : AX mX12_room 1 [.ref 96, .int 3, .int v] M (some (.int (M.1 100 3))) (wi (wi M 96 0 0) 100 3 v) := by
  refine AM_ofF (by decide +kernel) (Nat.le_of_ble_eq_true rfl) (fun X V C _ _ => ?_)
  show AW X V mX12_room.2.2.1 T0 M 0 0 _ 0 [(0, .ref 96), (1, .int 3), (2, .int v)] []
  refine ar_aload_n (n := 0) C dX12_room_0 rfl rfl ?_
  refine ar_iconst (v := 0) C dX12_room_1 (by decide) ?_
  refine ar_puti C flX12_59 kd_96 dX12_room_2 ?_
  refine ar_iload_n (n := 1) C dX12_room_5 rfl rfl ?_
  refine ar_i2l C dX12_room_6 ?_
  refine ar_lconst (v := 0) C dX12_room_7 (by decide) ?_
  refine ar_ldc2 C kcX12_84 dX12_room_8 ?_
  refine cS1 (ar := [.long ((3 : Int32).toInt64), .long 0, .long 6]) (st := []) C lkX12_69 (k_inI (wi M 96 0 0) 3 0 6 _ _ (by decide) (by decide)) (by decide) rfl (Nat.le_of_ble_eq_true rfl) rfl dX12_room_11 ?_
  refine ar_if_neB (tgt := 20) C dX12_room_14 (by decide) (fun _ => ?_) (fun c_1 => False.elim (Bool.noConfusion ((show f_in 3 0 6 = true by decide).symm.trans c_1)))
  refine ar_iload_n (n := 1) C dX12_room_20 rfl rfl ?_
  refine ar_if_eq (tgt := 34) C dX12_room_21 (by decide) (fun c_2 => absurd c_2 (by decide)) (fun _ => ?_)
  refine ar_iload_n (n := 1) C dX12_room_24 rfl rfl ?_
  refine ar_iconst (v := 3) C dX12_room_25 (by decide) ?_
  refine ar_icmp_eq (tgt := 34) C dX12_room_26 (by decide) (fun _ => ?_) (fun c_3 => absurd c_3 (by decide))
  refine ar_iconst (v := 0) C dX12_room_34 (by decide) ?_
  refine ar_goto (tgt := 39) C dX12_room_35 (by decide) ?_
  refine ar_istore_n (als' := [(3, .int 0), (0, .ref 96), (1, .int 3), (2, .int v)]) C dX12_room_39 rfl (by decide) rfl ?_
  refine ar_iload_n (n := 2) C dX12_room_40 rfl rfl ?_
  refine ar_if_ne (tgt := 50) C dX12_room_41 (by decide) (fun _ => ?_) (fun c_4 => absurd c_4 (by decide))
  refine ar_iload_n (n := 2) C dX12_room_50 rfl rfl ?_
  refine ar_iconst (v := 1) C dX12_room_51 (by decide) ?_
  refine ar_icmp_ne (tgt := 60) C dX12_room_52 (by decide) (fun _ => ?_) (fun c_5 => absurd c_5 (by decide))
  refine ar_iload_n (n := 2) C dX12_room_60 rfl rfl ?_
  refine ar_iconst (v := 2) C dX12_room_61 (by decide) ?_
  refine ar_icmp_ne (tgt := 71) C dX12_room_62 (by decide) (fun _ => ?_) (fun c_6 => absurd c_6 (by decide))
  refine ar_iload_n (n := 2) C dX12_room_71 rfl rfl ?_
  refine ar_iconst (v := 3) C dX12_room_72 (by decide) ?_
  refine ar_icmp_ne (tgt := 80) C dX12_room_73 (by decide) (fun c_7 => absurd c_7 (by decide)) (fun _ => ?_)
  refine ar_iconst (v := 1) C dX12_room_76 (by decide) ?_
  refine ar_goto (tgt := 93) C dX12_room_77 (by decide) ?_
  refine ar_istore (als' := [(4, .int 1), (3, .int 0), (0, .ref 96), (1, .int 3), (2, .int v)]) C dX12_room_93 (by decide) rfl ?_
  refine ar_iload_n (n := 4) C dX12_room_95 rfl rfl ?_
  refine ar_i2l C dX12_room_96 ?_
  refine ar_iload_n (n := 1) C dX12_room_97 rfl rfl ?_
  refine ar_i2l C dX12_room_98 ?_
  refine ar_iload (n := 0) C dX12_room_99 rfl ?_
  refine ar_i2l C dX12_room_101 ?_
  refine cS1 (ar := [.long v.toInt64, .long ((0 : Int32).toInt64), .long ((1 : Int32).toInt64)]) (st := []) C lkX12_69 (k_inI (wi M 96 0 0) v 0 1 _ _ rfl rfl) (by decide) rfl (Nat.le_of_ble_eq_true rfl) rfl dX12_room_102 ?_
  refine ar_if_neB (tgt := 111) C dX12_room_105 (by decide) (fun _ => ?_) (fun c_8 => False.elim (Bool.noConfusion (h.symm.trans c_8)))
  refine ar_aload_n (n := 2) C dX12_room_111 rfl rfl ?_
  refine ar_getr C flX12_19 rfl kd_96 rf_96_5 dX12_room_112 ?_
  refine ar_iload_n (n := 3) C dX12_room_115 rfl rfl ?_
  refine ar_ialdV (j := 3) (v := M.1 100 3) C kd_100 (by decide) (by decide) rfl dX12_room_116 ?_
  refine ar_istore (als' := [(5, .int (M.1 100 3)), (4, .int 1), (3, .int 0), (0, .ref 96), (1, .int 3), (2, .int v)]) C dX12_room_117 (by decide) rfl ?_
  refine ar_aload_n (n := 3) C dX12_room_119 rfl rfl ?_
  refine ar_getr C flX12_19 rfl kd_96 rf_96_5 dX12_room_120 ?_
  refine ar_iload_n (n := 4) C dX12_room_123 rfl rfl ?_
  refine ar_iload_n (n := 5) C dX12_room_124 rfl rfl ?_
  refine ar_iast (j := 3) C kd_100 (by decide) (by decide) dX12_room_125 ?_
  refine ar_iload (n := 0) C dX12_room_126 rfl ?_
  exact ar_ireturn C rfl dX12_room_128 ⟨rfl, rfl, rfl⟩
set_option maxHeartbeats 4000000 in
set_option maxRecDepth 100000 in
theorem m_room_bad_4 (M : Mm) (v : Int32) (h : f_in v (nLeast 4) (nMost 4) = false) : AX mX12_room 1 [.ref 96, .int 4, .int v] M (some (.int (-1000001))) (wi M 96 0 0) := by
  refine AM_ofF (by decide +kernel) (Nat.le_of_ble_eq_true rfl) (fun X V C _ _ => ?_)
  show AW X V mX12_room.2.2.1 T0 M 0 0 _ 0 [(0, .ref 96), (1, .int 4), (2, .int v)] []
  refine ar_aload_n (n := 0) C dX12_room_0 rfl rfl ?_
  refine ar_iconst (v := 0) C dX12_room_1 (by decide) ?_
  refine ar_puti C flX12_59 kd_96 dX12_room_2 ?_
  refine ar_iload_n (n := 1) C dX12_room_5 rfl rfl ?_
  refine ar_i2l C dX12_room_6 ?_
  refine ar_lconst (v := 0) C dX12_room_7 (by decide) ?_
  refine ar_ldc2 C kcX12_84 dX12_room_8 ?_
  refine cS1 (ar := [.long ((4 : Int32).toInt64), .long 0, .long 6]) (st := []) C lkX12_69 (k_inI (wi M 96 0 0) 4 0 6 _ _ (by decide) (by decide)) (by decide) rfl (Nat.le_of_ble_eq_true rfl) rfl dX12_room_11 ?_
  refine ar_if_neB (tgt := 20) C dX12_room_14 (by decide) (fun _ => ?_) (fun c_1 => False.elim (Bool.noConfusion ((show f_in 4 0 6 = true by decide).symm.trans c_1)))
  refine ar_iload_n (n := 1) C dX12_room_20 rfl rfl ?_
  refine ar_if_eq (tgt := 34) C dX12_room_21 (by decide) (fun c_2 => absurd c_2 (by decide)) (fun _ => ?_)
  refine ar_iload_n (n := 1) C dX12_room_24 rfl rfl ?_
  refine ar_iconst (v := 3) C dX12_room_25 (by decide) ?_
  refine ar_icmp_eq (tgt := 34) C dX12_room_26 (by decide) (fun c_3 => absurd c_3 (by decide)) (fun _ => ?_)
  refine ar_iload_n (n := 1) C dX12_room_29 rfl rfl ?_
  refine ar_iconst (v := 4) C dX12_room_30 (by decide) ?_
  refine ar_icmp_ne (tgt := 38) C dX12_room_31 (by decide) (fun c_4 => absurd c_4 (by decide)) (fun _ => ?_)
  refine ar_iconst (v := 0) C dX12_room_34 (by decide) ?_
  refine ar_goto (tgt := 39) C dX12_room_35 (by decide) ?_
  refine ar_istore_n (als' := [(3, .int 0), (0, .ref 96), (1, .int 4), (2, .int v)]) C dX12_room_39 rfl (by decide) rfl ?_
  refine ar_iload_n (n := 2) C dX12_room_40 rfl rfl ?_
  refine ar_if_ne (tgt := 50) C dX12_room_41 (by decide) (fun _ => ?_) (fun c_5 => absurd c_5 (by decide))
  refine ar_iload_n (n := 2) C dX12_room_50 rfl rfl ?_
  refine ar_iconst (v := 1) C dX12_room_51 (by decide) ?_
  refine ar_icmp_ne (tgt := 60) C dX12_room_52 (by decide) (fun _ => ?_) (fun c_6 => absurd c_6 (by decide))
  refine ar_iload_n (n := 2) C dX12_room_60 rfl rfl ?_
  refine ar_iconst (v := 2) C dX12_room_61 (by decide) ?_
  refine ar_icmp_ne (tgt := 71) C dX12_room_62 (by decide) (fun _ => ?_) (fun c_7 => absurd c_7 (by decide))
  refine ar_iload_n (n := 2) C dX12_room_71 rfl rfl ?_
  refine ar_iconst (v := 3) C dX12_room_72 (by decide) ?_
  refine ar_icmp_ne (tgt := 80) C dX12_room_73 (by decide) (fun _ => ?_) (fun c_8 => absurd c_8 (by decide))
  refine ar_iload_n (n := 2) C dX12_room_80 rfl rfl ?_
  refine ar_iconst (v := 4) C dX12_room_81 (by decide) ?_
  refine ar_icmp_ne (tgt := 90) C dX12_room_82 (by decide) (fun c_9 => absurd c_9 (by decide)) (fun _ => ?_)
  refine ar_bipush (v := 50) C dX12_room_85 (by decide) ?_
  refine ar_goto (tgt := 93) C dX12_room_87 (by decide) ?_
  refine ar_istore (als' := [(4, .int 50), (3, .int 0), (0, .ref 96), (1, .int 4), (2, .int v)]) C dX12_room_93 (by decide) rfl ?_
  refine ar_iload_n (n := 4) C dX12_room_95 rfl rfl ?_
  refine ar_i2l C dX12_room_96 ?_
  refine ar_iload_n (n := 1) C dX12_room_97 rfl rfl ?_
  refine ar_i2l C dX12_room_98 ?_
  refine ar_iload (n := 0) C dX12_room_99 rfl ?_
  refine ar_i2l C dX12_room_101 ?_
  refine cS1 (ar := [.long v.toInt64, .long ((0 : Int32).toInt64), .long ((50 : Int32).toInt64)]) (st := []) C lkX12_69 (k_inI (wi M 96 0 0) v 0 50 _ _ rfl rfl) (by decide) rfl (Nat.le_of_ble_eq_true rfl) rfl dX12_room_102 ?_
  refine ar_if_neB (tgt := 111) C dX12_room_105 (by decide) (fun c_10 => False.elim (Bool.noConfusion (h.symm.trans c_10))) (fun _ => ?_)
  refine ar_ldc C kcX12_79 dX12_room_108 ?_
  exact ar_ireturn C rfl dX12_room_110 ⟨rfl, rfl, rfl⟩
set_option maxHeartbeats 4000000 in
set_option maxRecDepth 100000 in
theorem m_room_ok_4 (M : Mm) (v : Int32) (h : f_in v (nLeast 4) (nMost 4) = true) : AX mX12_room 1 [.ref 96, .int 4, .int v] M (some (.int (M.1 100 4))) (wi (wi M 96 0 0) 100 4 v) := by
  refine AM_ofF (by decide +kernel) (Nat.le_of_ble_eq_true rfl) (fun X V C _ _ => ?_)
  show AW X V mX12_room.2.2.1 T0 M 0 0 _ 0 [(0, .ref 96), (1, .int 4), (2, .int v)] []
  refine ar_aload_n (n := 0) C dX12_room_0 rfl rfl ?_
  refine ar_iconst (v := 0) C dX12_room_1 (by decide) ?_
  refine ar_puti C flX12_59 kd_96 dX12_room_2 ?_
  refine ar_iload_n (n := 1) C dX12_room_5 rfl rfl ?_
  refine ar_i2l C dX12_room_6 ?_
  refine ar_lconst (v := 0) C dX12_room_7 (by decide) ?_
  refine ar_ldc2 C kcX12_84 dX12_room_8 ?_
  refine cS1 (ar := [.long ((4 : Int32).toInt64), .long 0, .long 6]) (st := []) C lkX12_69 (k_inI (wi M 96 0 0) 4 0 6 _ _ (by decide) (by decide)) (by decide) rfl (Nat.le_of_ble_eq_true rfl) rfl dX12_room_11 ?_
  refine ar_if_neB (tgt := 20) C dX12_room_14 (by decide) (fun _ => ?_) (fun c_1 => False.elim (Bool.noConfusion ((show f_in 4 0 6 = true by decide).symm.trans c_1)))
  refine ar_iload_n (n := 1) C dX12_room_20 rfl rfl ?_
  refine ar_if_eq (tgt := 34) C dX12_room_21 (by decide) (fun c_2 => absurd c_2 (by decide)) (fun _ => ?_)
  refine ar_iload_n (n := 1) C dX12_room_24 rfl rfl ?_
  refine ar_iconst (v := 3) C dX12_room_25 (by decide) ?_
  refine ar_icmp_eq (tgt := 34) C dX12_room_26 (by decide) (fun c_3 => absurd c_3 (by decide)) (fun _ => ?_)
  refine ar_iload_n (n := 1) C dX12_room_29 rfl rfl ?_
  refine ar_iconst (v := 4) C dX12_room_30 (by decide) ?_
  refine ar_icmp_ne (tgt := 38) C dX12_room_31 (by decide) (fun c_4 => absurd c_4 (by decide)) (fun _ => ?_)
  refine ar_iconst (v := 0) C dX12_room_34 (by decide) ?_
  refine ar_goto (tgt := 39) C dX12_room_35 (by decide) ?_
  refine ar_istore_n (als' := [(3, .int 0), (0, .ref 96), (1, .int 4), (2, .int v)]) C dX12_room_39 rfl (by decide) rfl ?_
  refine ar_iload_n (n := 2) C dX12_room_40 rfl rfl ?_
  refine ar_if_ne (tgt := 50) C dX12_room_41 (by decide) (fun _ => ?_) (fun c_5 => absurd c_5 (by decide))
  refine ar_iload_n (n := 2) C dX12_room_50 rfl rfl ?_
  refine ar_iconst (v := 1) C dX12_room_51 (by decide) ?_
  refine ar_icmp_ne (tgt := 60) C dX12_room_52 (by decide) (fun _ => ?_) (fun c_6 => absurd c_6 (by decide))
  refine ar_iload_n (n := 2) C dX12_room_60 rfl rfl ?_
  refine ar_iconst (v := 2) C dX12_room_61 (by decide) ?_
  refine ar_icmp_ne (tgt := 71) C dX12_room_62 (by decide) (fun _ => ?_) (fun c_7 => absurd c_7 (by decide))
  refine ar_iload_n (n := 2) C dX12_room_71 rfl rfl ?_
  refine ar_iconst (v := 3) C dX12_room_72 (by decide) ?_
  refine ar_icmp_ne (tgt := 80) C dX12_room_73 (by decide) (fun _ => ?_) (fun c_8 => absurd c_8 (by decide))
  refine ar_iload_n (n := 2) C dX12_room_80 rfl rfl ?_
  refine ar_iconst (v := 4) C dX12_room_81 (by decide) ?_
  refine ar_icmp_ne (tgt := 90) C dX12_room_82 (by decide) (fun c_9 => absurd c_9 (by decide)) (fun _ => ?_)
  refine ar_bipush (v := 50) C dX12_room_85 (by decide) ?_
  refine ar_goto (tgt := 93) C dX12_room_87 (by decide) ?_
  refine ar_istore (als' := [(4, .int 50), (3, .int 0), (0, .ref 96), (1, .int 4), (2, .int v)]) C dX12_room_93 (by decide) rfl ?_
  refine ar_iload_n (n := 4) C dX12_room_95 rfl rfl ?_
  refine ar_i2l C dX12_room_96 ?_
  refine ar_iload_n (n := 1) C dX12_room_97 rfl rfl ?_
  refine ar_i2l C dX12_room_98 ?_
  refine ar_iload (n := 0) C dX12_room_99 rfl ?_
  refine ar_i2l C dX12_room_101 ?_
  refine cS1 (ar := [.long v.toInt64, .long ((0 : Int32).toInt64), .long ((50 : Int32).toInt64)]) (st := []) C lkX12_69 (k_inI (wi M 96 0 0) v 0 50 _ _ rfl rfl) (by decide) rfl (Nat.le_of_ble_eq_true rfl) rfl dX12_room_102 ?_
  refine ar_if_neB (tgt := 111) C dX12_room_105 (by decide) (fun _ => ?_) (fun c_10 => False.elim (Bool.noConfusion (h.symm.trans c_10)))
  refine ar_aload_n (n := 2) C dX12_room_111 rfl rfl ?_
  refine ar_getr C flX12_19 rfl kd_96 rf_96_5 dX12_room_112 ?_
  refine ar_iload_n (n := 3) C dX12_room_115 rfl rfl ?_
  refine ar_ialdV (j := 4) (v := M.1 100 4) C kd_100 (by decide) (by decide) rfl dX12_room_116 ?_
  refine ar_istore (als' := [(5, .int (M.1 100 4)), (4, .int 50), (3, .int 0), (0, .ref 96), (1, .int 4), (2, .int v)]) C dX12_room_117 (by decide) rfl ?_
  refine ar_aload_n (n := 3) C dX12_room_119 rfl rfl ?_
  refine ar_getr C flX12_19 rfl kd_96 rf_96_5 dX12_room_120 ?_
  refine ar_iload_n (n := 4) C dX12_room_123 rfl rfl ?_
  refine ar_iload_n (n := 5) C dX12_room_124 rfl rfl ?_
  refine ar_iast (j := 4) C kd_100 (by decide) (by decide) dX12_room_125 ?_
  refine ar_iload (n := 0) C dX12_room_126 rfl ?_
  exact ar_ireturn C rfl dX12_room_128 ⟨rfl, rfl, rfl⟩
set_option maxHeartbeats 4000000 in
set_option maxRecDepth 100000 in
theorem m_room_bad_5 (M : Mm) (v : Int32) (h : f_in v (nLeast 5) (nMost 5) = false) : AX mX12_room 1 [.ref 96, .int 5, .int v] M (some (.int (-1000001))) (wi M 96 0 0) := by
  refine AM_ofF (by decide +kernel) (Nat.le_of_ble_eq_true rfl) (fun X V C _ _ => ?_)
  show AW X V mX12_room.2.2.1 T0 M 0 0 _ 0 [(0, .ref 96), (1, .int 5), (2, .int v)] []
  refine ar_aload_n (n := 0) C dX12_room_0 rfl rfl ?_
  refine ar_iconst (v := 0) C dX12_room_1 (by decide) ?_
  refine ar_puti C flX12_59 kd_96 dX12_room_2 ?_
  refine ar_iload_n (n := 1) C dX12_room_5 rfl rfl ?_
  refine ar_i2l C dX12_room_6 ?_
  refine ar_lconst (v := 0) C dX12_room_7 (by decide) ?_
  refine ar_ldc2 C kcX12_84 dX12_room_8 ?_
  refine cS1 (ar := [.long ((5 : Int32).toInt64), .long 0, .long 6]) (st := []) C lkX12_69 (k_inI (wi M 96 0 0) 5 0 6 _ _ (by decide) (by decide)) (by decide) rfl (Nat.le_of_ble_eq_true rfl) rfl dX12_room_11 ?_
  refine ar_if_neB (tgt := 20) C dX12_room_14 (by decide) (fun _ => ?_) (fun c_1 => False.elim (Bool.noConfusion ((show f_in 5 0 6 = true by decide).symm.trans c_1)))
  refine ar_iload_n (n := 1) C dX12_room_20 rfl rfl ?_
  refine ar_if_eq (tgt := 34) C dX12_room_21 (by decide) (fun c_2 => absurd c_2 (by decide)) (fun _ => ?_)
  refine ar_iload_n (n := 1) C dX12_room_24 rfl rfl ?_
  refine ar_iconst (v := 3) C dX12_room_25 (by decide) ?_
  refine ar_icmp_eq (tgt := 34) C dX12_room_26 (by decide) (fun c_3 => absurd c_3 (by decide)) (fun _ => ?_)
  refine ar_iload_n (n := 1) C dX12_room_29 rfl rfl ?_
  refine ar_iconst (v := 4) C dX12_room_30 (by decide) ?_
  refine ar_icmp_ne (tgt := 38) C dX12_room_31 (by decide) (fun _ => ?_) (fun c_4 => absurd c_4 (by decide))
  refine ar_iconst (v := 1) C dX12_room_38 (by decide) ?_
  refine ar_istore_n (als' := [(3, .int 1), (0, .ref 96), (1, .int 5), (2, .int v)]) C dX12_room_39 rfl (by decide) rfl ?_
  refine ar_iload_n (n := 2) C dX12_room_40 rfl rfl ?_
  refine ar_if_ne (tgt := 50) C dX12_room_41 (by decide) (fun _ => ?_) (fun c_5 => absurd c_5 (by decide))
  refine ar_iload_n (n := 2) C dX12_room_50 rfl rfl ?_
  refine ar_iconst (v := 1) C dX12_room_51 (by decide) ?_
  refine ar_icmp_ne (tgt := 60) C dX12_room_52 (by decide) (fun _ => ?_) (fun c_6 => absurd c_6 (by decide))
  refine ar_iload_n (n := 2) C dX12_room_60 rfl rfl ?_
  refine ar_iconst (v := 2) C dX12_room_61 (by decide) ?_
  refine ar_icmp_ne (tgt := 71) C dX12_room_62 (by decide) (fun _ => ?_) (fun c_7 => absurd c_7 (by decide))
  refine ar_iload_n (n := 2) C dX12_room_71 rfl rfl ?_
  refine ar_iconst (v := 3) C dX12_room_72 (by decide) ?_
  refine ar_icmp_ne (tgt := 80) C dX12_room_73 (by decide) (fun _ => ?_) (fun c_8 => absurd c_8 (by decide))
  refine ar_iload_n (n := 2) C dX12_room_80 rfl rfl ?_
  refine ar_iconst (v := 4) C dX12_room_81 (by decide) ?_
  refine ar_icmp_ne (tgt := 90) C dX12_room_82 (by decide) (fun _ => ?_) (fun c_9 => absurd c_9 (by decide))
  refine ar_sipush (v := 400) C dX12_room_90 (by decide) ?_
  refine ar_istore (als' := [(4, .int 400), (3, .int 1), (0, .ref 96), (1, .int 5), (2, .int v)]) C dX12_room_93 (by decide) rfl ?_
  refine ar_iload_n (n := 4) C dX12_room_95 rfl rfl ?_
  refine ar_i2l C dX12_room_96 ?_
  refine ar_iload_n (n := 1) C dX12_room_97 rfl rfl ?_
  refine ar_i2l C dX12_room_98 ?_
  refine ar_iload (n := 0) C dX12_room_99 rfl ?_
  refine ar_i2l C dX12_room_101 ?_
  refine cS1 (ar := [.long v.toInt64, .long ((1 : Int32).toInt64), .long ((400 : Int32).toInt64)]) (st := []) C lkX12_69 (k_inI (wi M 96 0 0) v 1 400 _ _ rfl rfl) (by decide) rfl (Nat.le_of_ble_eq_true rfl) rfl dX12_room_102 ?_
  refine ar_if_neB (tgt := 111) C dX12_room_105 (by decide) (fun c_10 => False.elim (Bool.noConfusion (h.symm.trans c_10))) (fun _ => ?_)
  refine ar_ldc C kcX12_79 dX12_room_108 ?_
  exact ar_ireturn C rfl dX12_room_110 ⟨rfl, rfl, rfl⟩
set_option maxHeartbeats 4000000 in
set_option maxRecDepth 100000 in
theorem m_room_ok_5 (M : Mm) (v : Int32) (h : f_in v (nLeast 5) (nMost 5) = true) : AX mX12_room 1 [.ref 96, .int 5, .int v] M (some (.int (M.1 100 5))) (wi (wi M 96 0 0) 100 5 v) := by
  refine AM_ofF (by decide +kernel) (Nat.le_of_ble_eq_true rfl) (fun X V C _ _ => ?_)
  show AW X V mX12_room.2.2.1 T0 M 0 0 _ 0 [(0, .ref 96), (1, .int 5), (2, .int v)] []
  refine ar_aload_n (n := 0) C dX12_room_0 rfl rfl ?_
  refine ar_iconst (v := 0) C dX12_room_1 (by decide) ?_
  refine ar_puti C flX12_59 kd_96 dX12_room_2 ?_
  refine ar_iload_n (n := 1) C dX12_room_5 rfl rfl ?_
  refine ar_i2l C dX12_room_6 ?_
  refine ar_lconst (v := 0) C dX12_room_7 (by decide) ?_
  refine ar_ldc2 C kcX12_84 dX12_room_8 ?_
  refine cS1 (ar := [.long ((5 : Int32).toInt64), .long 0, .long 6]) (st := []) C lkX12_69 (k_inI (wi M 96 0 0) 5 0 6 _ _ (by decide) (by decide)) (by decide) rfl (Nat.le_of_ble_eq_true rfl) rfl dX12_room_11 ?_
  refine ar_if_neB (tgt := 20) C dX12_room_14 (by decide) (fun _ => ?_) (fun c_1 => False.elim (Bool.noConfusion ((show f_in 5 0 6 = true by decide).symm.trans c_1)))
  refine ar_iload_n (n := 1) C dX12_room_20 rfl rfl ?_
  refine ar_if_eq (tgt := 34) C dX12_room_21 (by decide) (fun c_2 => absurd c_2 (by decide)) (fun _ => ?_)
  refine ar_iload_n (n := 1) C dX12_room_24 rfl rfl ?_
  refine ar_iconst (v := 3) C dX12_room_25 (by decide) ?_
  refine ar_icmp_eq (tgt := 34) C dX12_room_26 (by decide) (fun c_3 => absurd c_3 (by decide)) (fun _ => ?_)
  refine ar_iload_n (n := 1) C dX12_room_29 rfl rfl ?_
  refine ar_iconst (v := 4) C dX12_room_30 (by decide) ?_
  refine ar_icmp_ne (tgt := 38) C dX12_room_31 (by decide) (fun _ => ?_) (fun c_4 => absurd c_4 (by decide))
  refine ar_iconst (v := 1) C dX12_room_38 (by decide) ?_
  refine ar_istore_n (als' := [(3, .int 1), (0, .ref 96), (1, .int 5), (2, .int v)]) C dX12_room_39 rfl (by decide) rfl ?_
  refine ar_iload_n (n := 2) C dX12_room_40 rfl rfl ?_
  refine ar_if_ne (tgt := 50) C dX12_room_41 (by decide) (fun _ => ?_) (fun c_5 => absurd c_5 (by decide))
  refine ar_iload_n (n := 2) C dX12_room_50 rfl rfl ?_
  refine ar_iconst (v := 1) C dX12_room_51 (by decide) ?_
  refine ar_icmp_ne (tgt := 60) C dX12_room_52 (by decide) (fun _ => ?_) (fun c_6 => absurd c_6 (by decide))
  refine ar_iload_n (n := 2) C dX12_room_60 rfl rfl ?_
  refine ar_iconst (v := 2) C dX12_room_61 (by decide) ?_
  refine ar_icmp_ne (tgt := 71) C dX12_room_62 (by decide) (fun _ => ?_) (fun c_7 => absurd c_7 (by decide))
  refine ar_iload_n (n := 2) C dX12_room_71 rfl rfl ?_
  refine ar_iconst (v := 3) C dX12_room_72 (by decide) ?_
  refine ar_icmp_ne (tgt := 80) C dX12_room_73 (by decide) (fun _ => ?_) (fun c_8 => absurd c_8 (by decide))
  refine ar_iload_n (n := 2) C dX12_room_80 rfl rfl ?_
  refine ar_iconst (v := 4) C dX12_room_81 (by decide) ?_
  refine ar_icmp_ne (tgt := 90) C dX12_room_82 (by decide) (fun _ => ?_) (fun c_9 => absurd c_9 (by decide))
  refine ar_sipush (v := 400) C dX12_room_90 (by decide) ?_
  refine ar_istore (als' := [(4, .int 400), (3, .int 1), (0, .ref 96), (1, .int 5), (2, .int v)]) C dX12_room_93 (by decide) rfl ?_
  refine ar_iload_n (n := 4) C dX12_room_95 rfl rfl ?_
  refine ar_i2l C dX12_room_96 ?_
  refine ar_iload_n (n := 1) C dX12_room_97 rfl rfl ?_
  refine ar_i2l C dX12_room_98 ?_
  refine ar_iload (n := 0) C dX12_room_99 rfl ?_
  refine ar_i2l C dX12_room_101 ?_
  refine cS1 (ar := [.long v.toInt64, .long ((1 : Int32).toInt64), .long ((400 : Int32).toInt64)]) (st := []) C lkX12_69 (k_inI (wi M 96 0 0) v 1 400 _ _ rfl rfl) (by decide) rfl (Nat.le_of_ble_eq_true rfl) rfl dX12_room_102 ?_
  refine ar_if_neB (tgt := 111) C dX12_room_105 (by decide) (fun _ => ?_) (fun c_10 => False.elim (Bool.noConfusion (h.symm.trans c_10)))
  refine ar_aload_n (n := 2) C dX12_room_111 rfl rfl ?_
  refine ar_getr C flX12_19 rfl kd_96 rf_96_5 dX12_room_112 ?_
  refine ar_iload_n (n := 3) C dX12_room_115 rfl rfl ?_
  refine ar_ialdV (j := 5) (v := M.1 100 5) C kd_100 (by decide) (by decide) rfl dX12_room_116 ?_
  refine ar_istore (als' := [(5, .int (M.1 100 5)), (4, .int 400), (3, .int 1), (0, .ref 96), (1, .int 5), (2, .int v)]) C dX12_room_117 (by decide) rfl ?_
  refine ar_aload_n (n := 3) C dX12_room_119 rfl rfl ?_
  refine ar_getr C flX12_19 rfl kd_96 rf_96_5 dX12_room_120 ?_
  refine ar_iload_n (n := 4) C dX12_room_123 rfl rfl ?_
  refine ar_iload_n (n := 5) C dX12_room_124 rfl rfl ?_
  refine ar_iast (j := 5) C kd_100 (by decide) (by decide) dX12_room_125 ?_
  refine ar_iload (n := 0) C dX12_room_126 rfl ?_
  exact ar_ireturn C rfl dX12_room_128 ⟨rfl, rfl, rfl⟩
set_option maxHeartbeats 4000000 in
set_option maxRecDepth 100000 in
theorem m_room_bad_6 (M : Mm) (v : Int32) (h : f_in v (nLeast 6) (nMost 6) = false) : AX mX12_room 1 [.ref 96, .int 6, .int v] M (some (.int (-1000001))) (wi M 96 0 0) := by
  refine AM_ofF (by decide +kernel) (Nat.le_of_ble_eq_true rfl) (fun X V C _ _ => ?_)
  show AW X V mX12_room.2.2.1 T0 M 0 0 _ 0 [(0, .ref 96), (1, .int 6), (2, .int v)] []
  refine ar_aload_n (n := 0) C dX12_room_0 rfl rfl ?_
  refine ar_iconst (v := 0) C dX12_room_1 (by decide) ?_
  refine ar_puti C flX12_59 kd_96 dX12_room_2 ?_
  refine ar_iload_n (n := 1) C dX12_room_5 rfl rfl ?_
  refine ar_i2l C dX12_room_6 ?_
  refine ar_lconst (v := 0) C dX12_room_7 (by decide) ?_
  refine ar_ldc2 C kcX12_84 dX12_room_8 ?_
  refine cS1 (ar := [.long ((6 : Int32).toInt64), .long 0, .long 6]) (st := []) C lkX12_69 (k_inI (wi M 96 0 0) 6 0 6 _ _ (by decide) (by decide)) (by decide) rfl (Nat.le_of_ble_eq_true rfl) rfl dX12_room_11 ?_
  refine ar_if_neB (tgt := 20) C dX12_room_14 (by decide) (fun _ => ?_) (fun c_1 => False.elim (Bool.noConfusion ((show f_in 6 0 6 = true by decide).symm.trans c_1)))
  refine ar_iload_n (n := 1) C dX12_room_20 rfl rfl ?_
  refine ar_if_eq (tgt := 34) C dX12_room_21 (by decide) (fun c_2 => absurd c_2 (by decide)) (fun _ => ?_)
  refine ar_iload_n (n := 1) C dX12_room_24 rfl rfl ?_
  refine ar_iconst (v := 3) C dX12_room_25 (by decide) ?_
  refine ar_icmp_eq (tgt := 34) C dX12_room_26 (by decide) (fun c_3 => absurd c_3 (by decide)) (fun _ => ?_)
  refine ar_iload_n (n := 1) C dX12_room_29 rfl rfl ?_
  refine ar_iconst (v := 4) C dX12_room_30 (by decide) ?_
  refine ar_icmp_ne (tgt := 38) C dX12_room_31 (by decide) (fun _ => ?_) (fun c_4 => absurd c_4 (by decide))
  refine ar_iconst (v := 1) C dX12_room_38 (by decide) ?_
  refine ar_istore_n (als' := [(3, .int 1), (0, .ref 96), (1, .int 6), (2, .int v)]) C dX12_room_39 rfl (by decide) rfl ?_
  refine ar_iload_n (n := 2) C dX12_room_40 rfl rfl ?_
  refine ar_if_ne (tgt := 50) C dX12_room_41 (by decide) (fun _ => ?_) (fun c_5 => absurd c_5 (by decide))
  refine ar_iload_n (n := 2) C dX12_room_50 rfl rfl ?_
  refine ar_iconst (v := 1) C dX12_room_51 (by decide) ?_
  refine ar_icmp_ne (tgt := 60) C dX12_room_52 (by decide) (fun _ => ?_) (fun c_6 => absurd c_6 (by decide))
  refine ar_iload_n (n := 2) C dX12_room_60 rfl rfl ?_
  refine ar_iconst (v := 2) C dX12_room_61 (by decide) ?_
  refine ar_icmp_ne (tgt := 71) C dX12_room_62 (by decide) (fun _ => ?_) (fun c_7 => absurd c_7 (by decide))
  refine ar_iload_n (n := 2) C dX12_room_71 rfl rfl ?_
  refine ar_iconst (v := 3) C dX12_room_72 (by decide) ?_
  refine ar_icmp_ne (tgt := 80) C dX12_room_73 (by decide) (fun _ => ?_) (fun c_8 => absurd c_8 (by decide))
  refine ar_iload_n (n := 2) C dX12_room_80 rfl rfl ?_
  refine ar_iconst (v := 4) C dX12_room_81 (by decide) ?_
  refine ar_icmp_ne (tgt := 90) C dX12_room_82 (by decide) (fun _ => ?_) (fun c_9 => absurd c_9 (by decide))
  refine ar_sipush (v := 400) C dX12_room_90 (by decide) ?_
  refine ar_istore (als' := [(4, .int 400), (3, .int 1), (0, .ref 96), (1, .int 6), (2, .int v)]) C dX12_room_93 (by decide) rfl ?_
  refine ar_iload_n (n := 4) C dX12_room_95 rfl rfl ?_
  refine ar_i2l C dX12_room_96 ?_
  refine ar_iload_n (n := 1) C dX12_room_97 rfl rfl ?_
  refine ar_i2l C dX12_room_98 ?_
  refine ar_iload (n := 0) C dX12_room_99 rfl ?_
  refine ar_i2l C dX12_room_101 ?_
  refine cS1 (ar := [.long v.toInt64, .long ((1 : Int32).toInt64), .long ((400 : Int32).toInt64)]) (st := []) C lkX12_69 (k_inI (wi M 96 0 0) v 1 400 _ _ rfl rfl) (by decide) rfl (Nat.le_of_ble_eq_true rfl) rfl dX12_room_102 ?_
  refine ar_if_neB (tgt := 111) C dX12_room_105 (by decide) (fun c_10 => False.elim (Bool.noConfusion (h.symm.trans c_10))) (fun _ => ?_)
  refine ar_ldc C kcX12_79 dX12_room_108 ?_
  exact ar_ireturn C rfl dX12_room_110 ⟨rfl, rfl, rfl⟩
set_option maxHeartbeats 4000000 in
set_option maxRecDepth 100000 in
theorem m_room_ok_6 (M : Mm) (v : Int32) (h : f_in v (nLeast 6) (nMost 6) = true) : AX mX12_room 1 [.ref 96, .int 6, .int v] M (some (.int (M.1 100 6))) (wi (wi M 96 0 0) 100 6 v) := by
  refine AM_ofF (by decide +kernel) (Nat.le_of_ble_eq_true rfl) (fun X V C _ _ => ?_)
  show AW X V mX12_room.2.2.1 T0 M 0 0 _ 0 [(0, .ref 96), (1, .int 6), (2, .int v)] []
  refine ar_aload_n (n := 0) C dX12_room_0 rfl rfl ?_
  refine ar_iconst (v := 0) C dX12_room_1 (by decide) ?_
  refine ar_puti C flX12_59 kd_96 dX12_room_2 ?_
  refine ar_iload_n (n := 1) C dX12_room_5 rfl rfl ?_
  refine ar_i2l C dX12_room_6 ?_
  refine ar_lconst (v := 0) C dX12_room_7 (by decide) ?_
  refine ar_ldc2 C kcX12_84 dX12_room_8 ?_
  refine cS1 (ar := [.long ((6 : Int32).toInt64), .long 0, .long 6]) (st := []) C lkX12_69 (k_inI (wi M 96 0 0) 6 0 6 _ _ (by decide) (by decide)) (by decide) rfl (Nat.le_of_ble_eq_true rfl) rfl dX12_room_11 ?_
  refine ar_if_neB (tgt := 20) C dX12_room_14 (by decide) (fun _ => ?_) (fun c_1 => False.elim (Bool.noConfusion ((show f_in 6 0 6 = true by decide).symm.trans c_1)))
  refine ar_iload_n (n := 1) C dX12_room_20 rfl rfl ?_
  refine ar_if_eq (tgt := 34) C dX12_room_21 (by decide) (fun c_2 => absurd c_2 (by decide)) (fun _ => ?_)
  refine ar_iload_n (n := 1) C dX12_room_24 rfl rfl ?_
  refine ar_iconst (v := 3) C dX12_room_25 (by decide) ?_
  refine ar_icmp_eq (tgt := 34) C dX12_room_26 (by decide) (fun c_3 => absurd c_3 (by decide)) (fun _ => ?_)
  refine ar_iload_n (n := 1) C dX12_room_29 rfl rfl ?_
  refine ar_iconst (v := 4) C dX12_room_30 (by decide) ?_
  refine ar_icmp_ne (tgt := 38) C dX12_room_31 (by decide) (fun _ => ?_) (fun c_4 => absurd c_4 (by decide))
  refine ar_iconst (v := 1) C dX12_room_38 (by decide) ?_
  refine ar_istore_n (als' := [(3, .int 1), (0, .ref 96), (1, .int 6), (2, .int v)]) C dX12_room_39 rfl (by decide) rfl ?_
  refine ar_iload_n (n := 2) C dX12_room_40 rfl rfl ?_
  refine ar_if_ne (tgt := 50) C dX12_room_41 (by decide) (fun _ => ?_) (fun c_5 => absurd c_5 (by decide))
  refine ar_iload_n (n := 2) C dX12_room_50 rfl rfl ?_
  refine ar_iconst (v := 1) C dX12_room_51 (by decide) ?_
  refine ar_icmp_ne (tgt := 60) C dX12_room_52 (by decide) (fun _ => ?_) (fun c_6 => absurd c_6 (by decide))
  refine ar_iload_n (n := 2) C dX12_room_60 rfl rfl ?_
  refine ar_iconst (v := 2) C dX12_room_61 (by decide) ?_
  refine ar_icmp_ne (tgt := 71) C dX12_room_62 (by decide) (fun _ => ?_) (fun c_7 => absurd c_7 (by decide))
  refine ar_iload_n (n := 2) C dX12_room_71 rfl rfl ?_
  refine ar_iconst (v := 3) C dX12_room_72 (by decide) ?_
  refine ar_icmp_ne (tgt := 80) C dX12_room_73 (by decide) (fun _ => ?_) (fun c_8 => absurd c_8 (by decide))
  refine ar_iload_n (n := 2) C dX12_room_80 rfl rfl ?_
  refine ar_iconst (v := 4) C dX12_room_81 (by decide) ?_
  refine ar_icmp_ne (tgt := 90) C dX12_room_82 (by decide) (fun _ => ?_) (fun c_9 => absurd c_9 (by decide))
  refine ar_sipush (v := 400) C dX12_room_90 (by decide) ?_
  refine ar_istore (als' := [(4, .int 400), (3, .int 1), (0, .ref 96), (1, .int 6), (2, .int v)]) C dX12_room_93 (by decide) rfl ?_
  refine ar_iload_n (n := 4) C dX12_room_95 rfl rfl ?_
  refine ar_i2l C dX12_room_96 ?_
  refine ar_iload_n (n := 1) C dX12_room_97 rfl rfl ?_
  refine ar_i2l C dX12_room_98 ?_
  refine ar_iload (n := 0) C dX12_room_99 rfl ?_
  refine ar_i2l C dX12_room_101 ?_
  refine cS1 (ar := [.long v.toInt64, .long ((1 : Int32).toInt64), .long ((400 : Int32).toInt64)]) (st := []) C lkX12_69 (k_inI (wi M 96 0 0) v 1 400 _ _ rfl rfl) (by decide) rfl (Nat.le_of_ble_eq_true rfl) rfl dX12_room_102 ?_
  refine ar_if_neB (tgt := 111) C dX12_room_105 (by decide) (fun _ => ?_) (fun c_10 => False.elim (Bool.noConfusion (h.symm.trans c_10)))
  refine ar_aload_n (n := 2) C dX12_room_111 rfl rfl ?_
  refine ar_getr C flX12_19 rfl kd_96 rf_96_5 dX12_room_112 ?_
  refine ar_iload_n (n := 3) C dX12_room_115 rfl rfl ?_
  refine ar_ialdV (j := 6) (v := M.1 100 6) C kd_100 (by decide) (by decide) rfl dX12_room_116 ?_
  refine ar_istore (als' := [(5, .int (M.1 100 6)), (4, .int 400), (3, .int 1), (0, .ref 96), (1, .int 6), (2, .int v)]) C dX12_room_117 (by decide) rfl ?_
  refine ar_aload_n (n := 3) C dX12_room_119 rfl rfl ?_
  refine ar_getr C flX12_19 rfl kd_96 rf_96_5 dX12_room_120 ?_
  refine ar_iload_n (n := 4) C dX12_room_123 rfl rfl ?_
  refine ar_iload_n (n := 5) C dX12_room_124 rfl rfl ?_
  refine ar_iast (j := 6) C kd_100 (by decide) (by decide) dX12_room_125 ?_
  refine ar_iload (n := 0) C dX12_room_126 rfl ?_
  exact ar_ireturn C rfl dX12_room_128 ⟨rfl, rfl, rfl⟩
theorem m_room_bad1 (M : Mm) {j : Nat} (hj : j < 7) (v : Int32) (h : f_in v (nLeast j) (nMost j) = false) : AX mX12_room 1 [.ref 96, .int (nI j), .int v] M (some (.int (-1000001))) (wi M 96 0 0) := by
  match j, hj, h with
  | 0, _, h => exact m_room_bad_0 M v h
  | 1, _, h => exact m_room_bad_1 M v h
  | 2, _, h => exact m_room_bad_2 M v h
  | 3, _, h => exact m_room_bad_3 M v h
  | 4, _, h => exact m_room_bad_4 M v h
  | 5, _, h => exact m_room_bad_5 M v h
  | 6, _, h => exact m_room_bad_6 M v h
theorem m_room_ok (M : Mm) {j : Nat} (hj : j < 7) (v : Int32) (h : f_in v (nLeast j) (nMost j) = true) : AX mX12_room 1 [.ref 96, .int (nI j), .int v] M (some (.int (M.1 100 j))) (wi (wi M 96 0 0) 100 j v) := by
  match j, hj, h with
  | 0, _, h => exact m_room_ok_0 M v h
  | 1, _, h => exact m_room_ok_1 M v h
  | 2, _, h => exact m_room_ok_2 M v h
  | 3, _, h => exact m_room_ok_3 M v h
  | 4, _, h => exact m_room_ok_4 M v h
  | 5, _, h => exact m_room_ok_5 M v h
  | 6, _, h => exact m_room_ok_6 M v h
set_option maxHeartbeats 4000000 in
set_option maxRecDepth 100000 in
theorem m_bend_bad (M : Mm) (c v : Int32)  (hbad : (f_in c (-8) 8 && f_in v (-50) 50) = false) : AX mX12_bend 1 [.ref 96, .int c, .int v] M (some (.int (-1000001))) (wi M 96 0 0) := by
  refine AM_ofF (by decide +kernel) (Nat.le_of_ble_eq_true rfl) (fun X V C _ _ => ?_)
  show AW X V mX12_bend.2.2.1 T0 M 0 0 _ 0 [(0, .ref 96), (1, .int c), (2, .int v)] []
  refine ar_aload_n (n := 0) C dX12_bend_0 rfl rfl ?_
  refine ar_iconst (v := 0) C dX12_bend_1 (by decide) ?_
  refine ar_puti C flX12_59 kd_96 dX12_bend_2 ?_
  refine ar_iload_n (n := 1) C dX12_bend_5 rfl rfl ?_
  refine ar_i2l C dX12_bend_6 ?_
  refine ar_ldc2 C kcX12_86 dX12_bend_7 ?_
  refine ar_ldc2 C kcX12_88 dX12_bend_10 ?_
  refine cS1 (ar := [.long c.toInt64, .long (-8), .long 8]) (st := []) C lkX12_69 (k_inI (wi M 96 0 0) c (-8) 8 _ _ (by decide) (by decide)) (by decide) rfl (Nat.le_of_ble_eq_true rfl) rfl dX12_bend_13 ?_
  refine ar_if_eqB (tgt := 33) C dX12_bend_16 (by decide) (fun c_1 => ?_) (fun c_1 => ?_)
  · refine ar_ldc C kcX12_79 dX12_bend_33 ?_
    exact ar_ireturn C rfl dX12_bend_35 ⟨rfl, rfl, rfl⟩
  · refine ar_iload_n (n := 2) C dX12_bend_19 rfl rfl ?_
    refine ar_i2l C dX12_bend_20 ?_
    refine ar_ldc2 C kcX12_90 dX12_bend_21 ?_
    refine ar_ldc2 C kcX12_92 dX12_bend_24 ?_
    refine cS1 (ar := [.long v.toInt64, .long (-50), .long 50]) (st := []) C lkX12_69 (k_inI (wi M 96 0 0) v (-50) 50 _ _ (by decide) (by decide)) (by decide) rfl (Nat.le_of_ble_eq_true rfl) rfl dX12_bend_27 ?_
    refine ar_if_neB (tgt := 36) C dX12_bend_30 (by decide) (fun c_2 => ?_) (fun c_2 => ?_)
    · exact absurd hbad (by first | (rw [c_1]; decide) | simp [*])
    · refine ar_ldc C kcX12_79 dX12_bend_33 ?_
      exact ar_ireturn C rfl dX12_bend_35 ⟨rfl, rfl, rfl⟩
set_option maxHeartbeats 4000000 in
set_option maxRecDepth 100000 in
theorem m_bend_ok (M : Mm) (c v : Int32) {j : Nat} (hj : j < 17) (hc : c + 8 = nI j) (h1 : f_in c (-8) 8 = true) (h2 : f_in v (-50) 50 = true) : AX mX12_bend 1 [.ref 96, .int c, .int v] M (some (.int (M.1 101 j))) (wi (wi M 96 0 0) 101 j v) := by
  refine AM_ofF (by decide +kernel) (Nat.le_of_ble_eq_true rfl) (fun X V C _ _ => ?_)
  show AW X V mX12_bend.2.2.1 T0 M 0 0 _ 0 [(0, .ref 96), (1, .int c), (2, .int v)] []
  refine ar_aload_n (n := 0) C dX12_bend_0 rfl rfl ?_
  refine ar_iconst (v := 0) C dX12_bend_1 (by decide) ?_
  refine ar_puti C flX12_59 kd_96 dX12_bend_2 ?_
  refine ar_iload_n (n := 1) C dX12_bend_5 rfl rfl ?_
  refine ar_i2l C dX12_bend_6 ?_
  refine ar_ldc2 C kcX12_86 dX12_bend_7 ?_
  refine ar_ldc2 C kcX12_88 dX12_bend_10 ?_
  refine cS1 (ar := [.long c.toInt64, .long (-8), .long 8]) (st := []) C lkX12_69 (k_inI (wi M 96 0 0) c (-8) 8 _ _ (by decide) (by decide)) (by decide) rfl (Nat.le_of_ble_eq_true rfl) rfl dX12_bend_13 ?_
  refine ar_if_eqB (tgt := 33) C dX12_bend_16 (by decide) (fun c_1 => False.elim (Bool.noConfusion (h1.symm.trans c_1))) (fun _ => ?_)
  refine ar_iload_n (n := 2) C dX12_bend_19 rfl rfl ?_
  refine ar_i2l C dX12_bend_20 ?_
  refine ar_ldc2 C kcX12_90 dX12_bend_21 ?_
  refine ar_ldc2 C kcX12_92 dX12_bend_24 ?_
  refine cS1 (ar := [.long v.toInt64, .long (-50), .long 50]) (st := []) C lkX12_69 (k_inI (wi M 96 0 0) v (-50) 50 _ _ (by decide) (by decide)) (by decide) rfl (Nat.le_of_ble_eq_true rfl) rfl dX12_bend_27 ?_
  refine ar_if_neB (tgt := 36) C dX12_bend_30 (by decide) (fun _ => ?_) (fun c_2 => False.elim (Bool.noConfusion (h2.symm.trans c_2)))
  refine ar_aload_n (n := 0) C dX12_bend_36 rfl rfl ?_
  refine ar_getr C flX12_22 rfl kd_96 rf_96_6 dX12_bend_37 ?_
  refine ar_iload_n (n := 1) C dX12_bend_40 rfl rfl ?_
  refine ar_bipush (v := 8) C dX12_bend_41 (by decide) ?_
  refine ar_iadd C dX12_bend_43 ?_
  refine ar_ialdV (j := j) (v := M.1 101 j) C kd_101 hc hj (by simp [wi, wl]; try omega) dX12_bend_44 ?_
  refine ar_istore_n (als' := [(3, .int (M.1 101 j)), (0, .ref 96), (1, .int c), (2, .int v)]) C dX12_bend_45 rfl (by decide) rfl ?_
  refine ar_aload_n (n := 1) C dX12_bend_46 rfl rfl ?_
  refine ar_getr C flX12_22 rfl kd_96 rf_96_6 dX12_bend_47 ?_
  refine ar_iload_n (n := 2) C dX12_bend_50 rfl rfl ?_
  refine ar_bipush (v := 8) C dX12_bend_51 (by decide) ?_
  refine ar_iadd C dX12_bend_53 ?_
  refine ar_iload_n (n := 3) C dX12_bend_54 rfl rfl ?_
  refine ar_iast (j := j) C kd_101 hc hj dX12_bend_55 ?_
  refine ar_iload_n (n := 0) C dX12_bend_56 rfl rfl ?_
  exact ar_ireturn C rfl dX12_bend_57 ⟨rfl, rfl, rfl⟩
set_option maxHeartbeats 4000000 in
set_option maxRecDepth 100000 in
theorem m_told_bad (M : Mm) (w : Int32) (h1 : f_in w 0 6 = false) (h2 : f_in w 7 23 = false) : AX mX12_told 1 [.ref 96, .int w] M (some (.int (-1000001))) (wi M 96 0 0) := by
  refine AM_ofF (by decide +kernel) (Nat.le_of_ble_eq_true rfl) (fun X V C _ _ => ?_)
  show AW X V mX12_told.2.2.1 T0 M 0 0 _ 0 [(0, .ref 96), (1, .int w)] []
  refine ar_aload_n (n := 0) C dX12_told_0 rfl rfl ?_
  refine ar_iconst (v := 0) C dX12_told_1 (by decide) ?_
  refine ar_puti C flX12_59 kd_96 dX12_told_2 ?_
  refine ar_iload_n (n := 1) C dX12_told_5 rfl rfl ?_
  refine ar_i2l C dX12_told_6 ?_
  refine ar_lconst (v := 0) C dX12_told_7 (by decide) ?_
  refine ar_ldc2 C kcX12_84 dX12_told_8 ?_
  refine cS1 (ar := [.long w.toInt64, .long 0, .long 6]) (st := []) C lkX12_69 (k_inI (wi M 96 0 0) w 0 6 _ _ (by decide) (by decide)) (by decide) rfl (Nat.le_of_ble_eq_true rfl) rfl dX12_told_11 ?_
  refine ar_if_eqB (tgt := 26) C dX12_told_14 (by decide) (fun _ => ?_) (fun c_1 => False.elim (Bool.noConfusion (h1.symm.trans c_1)))
  refine ar_iload_n (n := 1) C dX12_told_26 rfl rfl ?_
  refine ar_i2l C dX12_told_27 ?_
  refine ar_ldc2 C kcX12_67 dX12_told_28 ?_
  refine ar_ldc2 C kcX12_94 dX12_told_31 ?_
  refine cS1 (ar := [.long w.toInt64, .long 7, .long 23]) (st := []) C lkX12_69 (k_inI (wi M 96 0 0) w 7 23 _ _ (by decide) (by decide)) (by decide) rfl (Nat.le_of_ble_eq_true rfl) rfl dX12_told_34 ?_
  refine ar_if_eqB (tgt := 52) C dX12_told_37 (by decide) (fun _ => ?_) (fun c_2 => False.elim (Bool.noConfusion (h2.symm.trans c_2)))
  refine ar_ldc C kcX12_79 dX12_told_52 ?_
  exact ar_ireturn C rfl dX12_told_54 ⟨rfl, rfl, rfl⟩
set_option maxHeartbeats 4000000 in
set_option maxRecDepth 100000 in
theorem m_told_0 (M : Mm) {j : Nat} (hj : j < 7) : AX mX12_told 1 [.ref 96, .int (nI j)] M (some (.int (M.1 100 j))) (wi M 96 0 0) := by
  refine AM_ofF (by decide +kernel) (Nat.le_of_ble_eq_true rfl) (fun X V C _ _ => ?_)
  show AW X V mX12_told.2.2.1 T0 M 0 0 _ 0 [(0, .ref 96), (1, .int (nI j))] []
  refine ar_aload_n (n := 0) C dX12_told_0 rfl rfl ?_
  refine ar_iconst (v := 0) C dX12_told_1 (by decide) ?_
  refine ar_puti C flX12_59 kd_96 dX12_told_2 ?_
  refine ar_iload_n (n := 1) C dX12_told_5 rfl rfl ?_
  refine ar_i2l C dX12_told_6 ?_
  refine ar_lconst (v := 0) C dX12_told_7 (by decide) ?_
  refine ar_ldc2 C kcX12_84 dX12_told_8 ?_
  refine cS1 (ar := [.long ((nI j).toInt64), .long 0, .long 6]) (st := []) C lkX12_69 (k_inI (wi M 96 0 0) (nI j) 0 6 _ _ (by decide) (by decide)) (by decide) rfl (Nat.le_of_ble_eq_true rfl) rfl dX12_told_11 ?_
  refine ar_if_eqB (tgt := 26) C dX12_told_14 (by decide) (fun c_1 => False.elim (Bool.noConfusion ((f_in_nI (n := 6) (by decide) (by omega) (by decide)).symm.trans c_1))) (fun _ => ?_)
  refine ar_aload_n (n := 0) C dX12_told_17 rfl rfl ?_
  refine ar_getr C flX12_19 rfl kd_96 rf_96_5 dX12_told_18 ?_
  refine ar_iload_n (n := 1) C dX12_told_21 rfl rfl ?_
  refine ar_ialdV (j := j) (v := M.1 100 j) C kd_100 rfl hj (by simp [wi, wl]; try omega) dX12_told_22 ?_
  refine ar_goto (tgt := 54) C dX12_told_23 (by decide) ?_
  exact ar_ireturn C rfl dX12_told_54 ⟨rfl, rfl, rfl⟩
set_option maxHeartbeats 4000000 in
set_option maxRecDepth 100000 in
theorem m_told_1 (M : Mm) {j : Nat} (hj : j < 17) (h1 : f_in (nI (7 + j)) 0 6 = false) (h2 : f_in (nI (7 + j)) 7 23 = true) : AX mX12_told 1 [.ref 96, .int (nI (7 + j))] M (some (.int (M.1 101 j))) (wi M 96 0 0) := by
  refine AM_ofF (by decide +kernel) (Nat.le_of_ble_eq_true rfl) (fun X V C _ _ => ?_)
  show AW X V mX12_told.2.2.1 T0 M 0 0 _ 0 [(0, .ref 96), (1, .int (nI (7 + j)))] []
  refine ar_aload_n (n := 0) C dX12_told_0 rfl rfl ?_
  refine ar_iconst (v := 0) C dX12_told_1 (by decide) ?_
  refine ar_puti C flX12_59 kd_96 dX12_told_2 ?_
  refine ar_iload_n (n := 1) C dX12_told_5 rfl rfl ?_
  refine ar_i2l C dX12_told_6 ?_
  refine ar_lconst (v := 0) C dX12_told_7 (by decide) ?_
  refine ar_ldc2 C kcX12_84 dX12_told_8 ?_
  refine cS1 (ar := [.long ((nI (7 + j)).toInt64), .long 0, .long 6]) (st := []) C lkX12_69 (k_inI (wi M 96 0 0) (nI (7 + j)) 0 6 _ _ (by decide) (by decide)) (by decide) rfl (Nat.le_of_ble_eq_true rfl) rfl dX12_told_11 ?_
  refine ar_if_eqB (tgt := 26) C dX12_told_14 (by decide) (fun _ => ?_) (fun c_1 => False.elim (Bool.noConfusion (h1.symm.trans c_1)))
  refine ar_iload_n (n := 1) C dX12_told_26 rfl rfl ?_
  refine ar_i2l C dX12_told_27 ?_
  refine ar_ldc2 C kcX12_67 dX12_told_28 ?_
  refine ar_ldc2 C kcX12_94 dX12_told_31 ?_
  refine cS1 (ar := [.long ((nI (7 + j)).toInt64), .long 7, .long 23]) (st := []) C lkX12_69 (k_inI (wi M 96 0 0) (nI (7 + j)) 7 23 _ _ (by decide) (by decide)) (by decide) rfl (Nat.le_of_ble_eq_true rfl) rfl dX12_told_34 ?_
  refine ar_if_eqB (tgt := 52) C dX12_told_37 (by decide) (fun c_2 => False.elim (Bool.noConfusion (h2.symm.trans c_2))) (fun _ => ?_)
  refine ar_aload_n (n := 0) C dX12_told_40 rfl rfl ?_
  refine ar_getr C flX12_22 rfl kd_96 rf_96_6 dX12_told_41 ?_
  refine ar_iload_n (n := 1) C dX12_told_44 rfl rfl ?_
  refine ar_bipush (v := 7) C dX12_told_45 (by decide) ?_
  refine ar_isub C dX12_told_47 ?_
  refine ar_ialdV (j := j) (v := M.1 101 j) C kd_101 (by rw [← nI_add]; show nI 7 + nI j - 7 = nI j; rw [Int32.add_comm, Int32.sub_eq_add_neg, Int32.add_assoc]; exact Int32.add_zero _) hj (by simp [wi, wl]; try omega) dX12_told_48 ?_
  refine ar_goto (tgt := 54) C dX12_told_49 (by decide) ?_
  exact ar_ireturn C rfl dX12_told_54 ⟨rfl, rfl, rfl⟩
set_option maxHeartbeats 4000000 in
set_option maxRecDepth 100000 in
theorem m_thing_bad (M : Mm) (x y z : Int32)  (hbad : (f_place x y z) = false) : AX mX12_thing 3 [.ref 96, .int x, .int y, .int z] M (some (.int (-1000001))) (wi M 96 0 0) := by
  refine AM_ofF (by decide +kernel) (Nat.le_of_ble_eq_true rfl) (fun X V C _ _ => ?_)
  show AW X V mX12_thing.2.2.1 T0 M 0 0 _ 0 [(0, .ref 96), (1, .int x), (2, .int y), (3, .int z)] []
  refine ar_aload_n (n := 0) C dX12_thing_0 rfl rfl ?_
  refine ar_iconst (v := 0) C dX12_thing_1 (by decide) ?_
  refine ar_puti C flX12_59 kd_96 dX12_thing_2 ?_
  refine ar_iload_n (n := 1) C dX12_thing_5 rfl rfl ?_
  refine ar_iload_n (n := 2) C dX12_thing_6 rfl rfl ?_
  refine ar_iload_n (n := 3) C dX12_thing_7 rfl rfl ?_
  refine cS1 (ar := [.int x, .int y, .int z]) (st := []) C lkX12_105 (k_mPlace (wi M 96 0 0) x y z) (by decide) rfl (Nat.le_of_ble_eq_true rfl) rfl dX12_thing_8 ?_
  refine ar_if_neB (tgt := 17) C dX12_thing_11 (by decide) (fun c_1 => ?_) (fun c_1 => ?_)
  · exact absurd hbad (by first | (rw [c_1]; decide) | simp [*])
  · refine ar_ldc C kcX12_79 dX12_thing_14 ?_
    exact ar_ireturn C rfl dX12_thing_16 ⟨rfl, rfl, rfl⟩
set_option maxHeartbeats 4000000 in
set_option maxRecDepth 100000 in
theorem m_thing_full (M : Mm) (x y z : Int32) {N : Nat} (hN : M.1 96 7 = nI N) (hp : f_place x y z = true) (h24 : N = 24) : AX mX12_thing 3 [.ref 96, .int x, .int y, .int z] M (some (.int (-1000003))) (wi M 96 0 0) := by
  refine AM_ofF (by decide +kernel) (Nat.le_of_ble_eq_true rfl) (fun X V C _ _ => ?_)
  show AW X V mX12_thing.2.2.1 T0 M 0 0 _ 0 [(0, .ref 96), (1, .int x), (2, .int y), (3, .int z)] []
  refine ar_aload_n (n := 0) C dX12_thing_0 rfl rfl ?_
  refine ar_iconst (v := 0) C dX12_thing_1 (by decide) ?_
  refine ar_puti C flX12_59 kd_96 dX12_thing_2 ?_
  refine ar_iload_n (n := 1) C dX12_thing_5 rfl rfl ?_
  refine ar_iload_n (n := 2) C dX12_thing_6 rfl rfl ?_
  refine ar_iload_n (n := 3) C dX12_thing_7 rfl rfl ?_
  refine cS1 (ar := [.int x, .int y, .int z]) (st := []) C lkX12_105 (k_mPlace (wi M 96 0 0) x y z) (by decide) rfl (Nat.le_of_ble_eq_true rfl) rfl dX12_thing_8 ?_
  refine ar_if_neB (tgt := 17) C dX12_thing_11 (by decide) (fun _ => ?_) (fun c_1 => False.elim (Bool.noConfusion (hp.symm.trans c_1)))
  refine ar_aload_n (n := 0) C dX12_thing_17 rfl rfl ?_
  refine ar_getiV (v := M.1 96 7) C flX12_102 kd_96 rfl dX12_thing_18 ?_
  refine ar_bipush (v := 24) C dX12_thing_21 (by decide) ?_
  refine ar_icmp_ne (tgt := 29) C dX12_thing_23 (by decide) (fun c_2 => False.elim (c_2 (by rw [hN, h24]; rfl))) (fun _ => ?_)
  refine ar_ldc C kcX12_109 dX12_thing_26 ?_
  exact ar_ireturn C rfl dX12_thing_28 ⟨rfl, rfl, rfl⟩
set_option maxHeartbeats 4000000 in
set_option maxRecDepth 100000 in
theorem m_thing_ok (M : Mm) (x y z : Int32) {N : Nat} (hN : M.1 96 7 = nI N) (hp : f_place x y z = true) (h24 : N < 24) : AX mX12_thing 3 [.ref 96, .int x, .int y, .int z] M (some (.int (nI N))) (wi (wi (wi (wi (wi M 96 0 0) 102 N x) 103 N y) 104 N z) 96 7 (nI (N + 1))) := by
  refine AM_ofF (by decide +kernel) (Nat.le_of_ble_eq_true rfl) (fun X V C _ _ => ?_)
  show AW X V mX12_thing.2.2.1 T0 M 0 0 _ 0 [(0, .ref 96), (1, .int x), (2, .int y), (3, .int z)] []
  refine ar_aload_n (n := 0) C dX12_thing_0 rfl rfl ?_
  refine ar_iconst (v := 0) C dX12_thing_1 (by decide) ?_
  refine ar_puti C flX12_59 kd_96 dX12_thing_2 ?_
  refine ar_iload_n (n := 1) C dX12_thing_5 rfl rfl ?_
  refine ar_iload_n (n := 2) C dX12_thing_6 rfl rfl ?_
  refine ar_iload_n (n := 3) C dX12_thing_7 rfl rfl ?_
  refine cS1 (ar := [.int x, .int y, .int z]) (st := []) C lkX12_105 (k_mPlace (wi M 96 0 0) x y z) (by decide) rfl (Nat.le_of_ble_eq_true rfl) rfl dX12_thing_8 ?_
  refine ar_if_neB (tgt := 17) C dX12_thing_11 (by decide) (fun _ => ?_) (fun c_1 => False.elim (Bool.noConfusion (hp.symm.trans c_1)))
  refine ar_aload_n (n := 0) C dX12_thing_17 rfl rfl ?_
  refine ar_getiV (v := M.1 96 7) C flX12_102 kd_96 rfl dX12_thing_18 ?_
  refine ar_bipush (v := 24) C dX12_thing_21 (by decide) ?_
  refine ar_icmp_ne (tgt := 29) C dX12_thing_23 (by decide) (fun _ => ?_) (fun c_2 => False.elim (absurd ((nI_eq (a := N) (b := 24) (by omega) (by decide)).mp (hN.symm.trans c_2)) (by omega)))
  refine ar_aload_n (n := 0) C dX12_thing_29 rfl rfl ?_
  refine ar_getr C flX12_25 rfl kd_96 rf_96_8 dX12_thing_30 ?_
  refine ar_aload_n (n := 0) C dX12_thing_33 rfl rfl ?_
  refine ar_getiV (v := M.1 96 7) C flX12_102 kd_96 rfl dX12_thing_34 ?_
  refine ar_iload_n (n := 1) C dX12_thing_37 rfl rfl ?_
  refine ar_iast (j := N) C kd_102 hN h24 dX12_thing_38 ?_
  refine ar_aload_n (n := 0) C dX12_thing_39 rfl rfl ?_
  refine ar_getr C flX12_28 rfl kd_96 rf_96_9 dX12_thing_40 ?_
  refine ar_aload_n (n := 0) C dX12_thing_43 rfl rfl ?_
  refine ar_getiV (v := M.1 96 7) C flX12_102 kd_96 (by simp [wi, wl]; try omega) dX12_thing_44 ?_
  refine ar_iload_n (n := 2) C dX12_thing_47 rfl rfl ?_
  refine ar_iast (j := N) C kd_103 hN h24 dX12_thing_48 ?_
  refine ar_aload_n (n := 0) C dX12_thing_49 rfl rfl ?_
  refine ar_getr C flX12_31 rfl kd_96 rf_96_10 dX12_thing_50 ?_
  refine ar_aload_n (n := 0) C dX12_thing_53 rfl rfl ?_
  refine ar_getiV (v := M.1 96 7) C flX12_102 kd_96 (by simp [wi, wl]; try omega) dX12_thing_54 ?_
  refine ar_iload_n (n := 3) C dX12_thing_57 rfl rfl ?_
  refine ar_iast (j := N) C kd_104 hN h24 dX12_thing_58 ?_
  refine ar_aload_n (n := 0) C dX12_thing_59 rfl rfl ?_
  refine ar_dup C dX12_thing_60 rfl ?_
  refine ar_getiV (v := M.1 96 7) C flX12_102 kd_96 (by simp [wi, wl]; try omega) dX12_thing_61 ?_
  refine ar_topi (nI N) hN ?_
  refine ar_iconst (v := 1) C dX12_thing_64 (by decide) ?_
  refine ar_iadd C dX12_thing_65 ?_
  refine ar_topi (nI (N + 1)) (nI_1 N) ?_
  refine ar_puti C flX12_102 kd_96 dX12_thing_66 ?_
  refine ar_aload_n (n := 0) C dX12_thing_69 rfl rfl ?_
  refine ar_getiV (v := nI (N + 1)) C flX12_102 kd_96 (by simp [wi, wl]; try omega) dX12_thing_70 ?_
  refine ar_iconst (v := 1) C dX12_thing_73 (by decide) ?_
  refine ar_isub C dX12_thing_74 ?_
  refine ar_topi (nI N) (nI_pred N) ?_
  exact ar_ireturn C rfl dX12_thing_75 ⟨rfl, rfl, rfl⟩
set_option maxHeartbeats 4000000 in
set_option maxRecDepth 100000 in
theorem m_move_bad (M : Mm) (t x y z : Int32)  (hbad : (f_in t 0 (M.1 96 7 - 1) && f_place x y z) = false) : AX mX12_move 3 [.ref 96, .int t, .int x, .int y, .int z] M (some (.int (-1000001))) (wi M 96 0 0) := by
  refine AM_ofF (by decide +kernel) (Nat.le_of_ble_eq_true rfl) (fun X V C _ _ => ?_)
  show AW X V mX12_move.2.2.1 T0 M 0 0 _ 0 [(0, .ref 96), (1, .int t), (2, .int x), (3, .int y), (4, .int z)] []
  refine ar_aload_n (n := 0) C dX12_move_0 rfl rfl ?_
  refine ar_iconst (v := 0) C dX12_move_1 (by decide) ?_
  refine ar_puti C flX12_59 kd_96 dX12_move_2 ?_
  refine ar_aload_n (n := 0) C dX12_move_5 rfl rfl ?_
  refine ar_iload_n (n := 1) C dX12_move_6 rfl rfl ?_
  refine cV1 (ar := [.int t]) (st := []) C lkX12_110 kd_96 (k_mThing (wi M 96 0 0) t) (by decide) rfl (Nat.le_of_ble_eq_true rfl) rfl dX12_move_7 ?_
  refine ar_if_eqB (tgt := 23) C dX12_move_10 (by decide) (fun c_1 => ?_) (fun c_1 => ?_)
  · refine ar_ldc C kcX12_79 dX12_move_23 ?_
    exact ar_ireturn C rfl dX12_move_25 ⟨rfl, rfl, rfl⟩
  · refine ar_iload_n (n := 2) C dX12_move_13 rfl rfl ?_
    refine ar_iload_n (n := 3) C dX12_move_14 rfl rfl ?_
    refine ar_iload (n := 4) C dX12_move_15 rfl ?_
    refine cS1 (ar := [.int x, .int y, .int z]) (st := []) C lkX12_105 (k_mPlace (wi M 96 0 0) x y z) (by decide) rfl (Nat.le_of_ble_eq_true rfl) rfl dX12_move_17 ?_
    refine ar_if_neB (tgt := 26) C dX12_move_20 (by decide) (fun c_2 => ?_) (fun c_2 => ?_)
    · exact absurd hbad (by first | (rw [c_1]; decide) | simp [*, show f_in t 0 (M.1 96 7 - 1) = true from c_1])
    · refine ar_ldc C kcX12_79 dX12_move_23 ?_
      exact ar_ireturn C rfl dX12_move_25 ⟨rfl, rfl, rfl⟩
set_option maxHeartbeats 4000000 in
set_option maxRecDepth 100000 in
theorem m_move_ok (M : Mm) (x y z : Int32) {i N : Nat} (hN : M.1 96 7 = nI N) (hi : i < N) (hN24 : N ≤ 24) (hp : f_place x y z = true) : AX mX12_move 3 [.ref 96, .int (nI i), .int x, .int y, .int z] M (some (.int 1)) (wi (wi (wi (wi M 96 0 0) 102 i x) 103 i y) 104 i z) := by
  refine AM_ofF (by decide +kernel) (Nat.le_of_ble_eq_true rfl) (fun X V C _ _ => ?_)
  show AW X V mX12_move.2.2.1 T0 M 0 0 _ 0 [(0, .ref 96), (1, .int (nI i)), (2, .int x), (3, .int y), (4, .int z)] []
  refine ar_aload_n (n := 0) C dX12_move_0 rfl rfl ?_
  refine ar_iconst (v := 0) C dX12_move_1 (by decide) ?_
  refine ar_puti C flX12_59 kd_96 dX12_move_2 ?_
  refine ar_aload_n (n := 0) C dX12_move_5 rfl rfl ?_
  refine ar_iload_n (n := 1) C dX12_move_6 rfl rfl ?_
  refine cV1 (ar := [.int (nI i)]) (st := []) C lkX12_110 kd_96 (k_mThing (wi M 96 0 0) (nI i)) (by decide) rfl (Nat.le_of_ble_eq_true rfl) rfl dX12_move_7 ?_
  refine ar_if_eqB (tgt := 23) C dX12_move_10 (by decide) (fun c_1 => False.elim (Bool.noConfusion ((inN hN hi hN24).symm.trans c_1))) (fun _ => ?_)
  refine ar_iload_n (n := 2) C dX12_move_13 rfl rfl ?_
  refine ar_iload_n (n := 3) C dX12_move_14 rfl rfl ?_
  refine ar_iload (n := 4) C dX12_move_15 rfl ?_
  refine cS1 (ar := [.int x, .int y, .int z]) (st := []) C lkX12_105 (k_mPlace (wi M 96 0 0) x y z) (by decide) rfl (Nat.le_of_ble_eq_true rfl) rfl dX12_move_17 ?_
  refine ar_if_neB (tgt := 26) C dX12_move_20 (by decide) (fun _ => ?_) (fun c_2 => False.elim (Bool.noConfusion (hp.symm.trans c_2)))
  refine ar_aload_n (n := 0) C dX12_move_26 rfl rfl ?_
  refine ar_getr C flX12_25 rfl kd_96 rf_96_8 dX12_move_27 ?_
  refine ar_iload_n (n := 1) C dX12_move_30 rfl rfl ?_
  refine ar_iload_n (n := 2) C dX12_move_31 rfl rfl ?_
  refine ar_iast (j := i) C kd_102 rfl (show i < 24 by omega) dX12_move_32 ?_
  refine ar_aload_n (n := 0) C dX12_move_33 rfl rfl ?_
  refine ar_getr C flX12_28 rfl kd_96 rf_96_9 dX12_move_34 ?_
  refine ar_iload_n (n := 1) C dX12_move_37 rfl rfl ?_
  refine ar_iload_n (n := 3) C dX12_move_38 rfl rfl ?_
  refine ar_iast (j := i) C kd_103 rfl (show i < 24 by omega) dX12_move_39 ?_
  refine ar_aload_n (n := 0) C dX12_move_40 rfl rfl ?_
  refine ar_getr C flX12_31 rfl kd_96 rf_96_10 dX12_move_41 ?_
  refine ar_iload_n (n := 1) C dX12_move_44 rfl rfl ?_
  refine ar_iload (n := 4) C dX12_move_45 rfl ?_
  refine ar_iast (j := i) C kd_104 rfl (show i < 24 by omega) dX12_move_47 ?_
  refine ar_iconst (v := 1) C dX12_move_48 (by decide) ?_
  exact ar_ireturn C rfl dX12_move_49 ⟨rfl, rfl, rfl⟩
set_option maxHeartbeats 4000000 in
set_option maxRecDepth 100000 in
theorem m_status (M : Mm) : AX mX12_status 0 [.ref 96] M (some (.int (M.1 96 1))) (wi M 96 0 0) := by
  refine AM_ofF (by decide +kernel) (Nat.le_of_ble_eq_true rfl) (fun X V C _ _ => ?_)
  show AW X V mX12_status.2.2.1 T0 M 0 0 _ 0 [(0, .ref 96)] []
  refine ar_aload_n (n := 0) C dX12_status_0 rfl rfl ?_
  refine ar_iconst (v := 0) C dX12_status_1 (by decide) ?_
  refine ar_puti C flX12_59 kd_96 dX12_status_2 ?_
  refine ar_aload_n (n := 0) C dX12_status_5 rfl rfl ?_
  refine ar_getiV (v := M.1 96 1) C flX12_63 kd_96 rfl dX12_status_6 ?_
  exact ar_ireturn C rfl dX12_status_9 ⟨rfl, rfl, rfl⟩
